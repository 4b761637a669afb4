theorem hd_X10_lowest : yX10_lowest.cls ≠ "java/lang/invoke/MethodHandle" ∧ yX10_lowest.cls ≠ "java/lang/invoke/VarHandle" ∧ (parseMethodDescriptor yX10_lowest.desc).map (fun d => d.parameters.length) = some 3 := by decide +kernel
theorem gS_X10_X10_lowest : GoodIn WT (va_wsS RX10 438 yX10_lowest (.code yX10_lowest cX10_lowest 11 (some FieldType.long) :: WT)) := gzS q8_203 q8_204 q1_8 q8_205
theorem hd_X10_waitsOf : yX10_waitsOf.cls ≠ "java/lang/invoke/MethodHandle" ∧ yX10_waitsOf.cls ≠ "java/lang/invoke/VarHandle" ∧ (parseMethodDescriptor yX10_waitsOf.desc).map (fun d => d.parameters.length) = some 3 := by decide +kernel
theorem gS_X10_X10_waitsOf : GoodIn WT (va_wsS RX10 412 yX10_waitsOf (.code yX10_waitsOf cX10_waitsOf 3 (some FieldType.int) :: WT)) := gzS q8_176 q8_177 q1_8 q8_178
theorem hd_X10_askOf : yX10_askOf.cls = RX10 ∧ yX10_askOf.cls ≠ "java/lang/invoke/MethodHandle" ∧ yX10_askOf.cls ≠ "java/lang/invoke/VarHandle" ∧ (parseMethodDescriptor yX10_askOf.desc).map (fun d => d.parameters.length) = some 0 := by decide +kernel
theorem gV_X10_X10_askOf : GoodIn WT (wsV RX10 409 RX10 yX10_askOf (.code yX10_askOf cX10_askOf 3 (some FieldType.int) :: WT)) := gzV q8_156 q8_158 s_X10_askOf q1_8 q8_159
theorem hd_X10_become : yX10_become.cls = RX10 ∧ yX10_become.cls ≠ "java/lang/invoke/MethodHandle" ∧ yX10_become.cls ≠ "java/lang/invoke/VarHandle" ∧ (parseMethodDescriptor yX10_become.desc).map (fun d => d.parameters.length) = some 0 := by decide +kernel
theorem gV_X10_X10_become : GoodIn WT (wsV RX10 447 RX10 yX10_become (.code yX10_become cX10_become 2 none :: WT)) := gzV q8_224 q8_226 s_X10_become q1_8 q8_227
theorem hd_X10_beginOn : yX10_beginOn.cls = RX10 ∧ yX10_beginOn.cls ≠ "java/lang/invoke/MethodHandle" ∧ yX10_beginOn.cls ≠ "java/lang/invoke/VarHandle" ∧ (parseMethodDescriptor yX10_beginOn.desc).map (fun d => d.parameters.length) = some 1 := by decide +kernel
theorem gV_X10_X10_beginOn : GoodIn WT (wsV RX10 322 RX10 yX10_beginOn (.code yX10_beginOn cX10_beginOn 5 (some FieldType.int) :: WT)) := gzV q7_74 q7_76 s_X10_beginOn q1_8 q7_77
theorem hd_X10_canBegin : yX10_canBegin.cls = RX10 ∧ yX10_canBegin.cls ≠ "java/lang/invoke/MethodHandle" ∧ yX10_canBegin.cls ≠ "java/lang/invoke/VarHandle" ∧ (parseMethodDescriptor yX10_canBegin.desc).map (fun d => d.parameters.length) = some 1 := by decide +kernel
theorem gV_X10_X10_canBegin : GoodIn WT (wsV RX10 315 RX10 yX10_canBegin (.code yX10_canBegin cX10_canBegin 2 (some FieldType.boolean) :: WT)) := gzV q7_35 q7_37 s_X10_canBegin q1_8 q7_38
theorem hd_X10_crashOn : yX10_crashOn.cls = RX10 ∧ yX10_crashOn.cls ≠ "java/lang/invoke/MethodHandle" ∧ yX10_crashOn.cls ≠ "java/lang/invoke/VarHandle" ∧ (parseMethodDescriptor yX10_crashOn.desc).map (fun d => d.parameters.length) = some 1 := by decide +kernel
theorem gV_X10_X10_crashOn : GoodIn WT (wsV RX10 432 RX10 yX10_crashOn (.code yX10_crashOn cX10_crashOn 3 none :: WT)) := gzV q8_199 q8_201 s_X10_crashOn q1_8 q8_202
theorem hd_X10_firstWrong : yX10_firstWrong.cls = RX10 ∧ yX10_firstWrong.cls ≠ "java/lang/invoke/MethodHandle" ∧ yX10_firstWrong.cls ≠ "java/lang/invoke/VarHandle" ∧ (parseMethodDescriptor yX10_firstWrong.desc).map (fun d => d.parameters.length) = some 0 := by decide +kernel
theorem gV_X10_X10_firstWrong : GoodIn WT (wsV RX10 388 RX10 yX10_firstWrong (.code yX10_firstWrong cX10_firstWrong 4 (some FieldType.int) :: WT)) := gzV q8_136 q8_138 s_X10_firstWrong q1_8 q8_139
theorem hd_X10_leavesOf : yX10_leavesOf.cls = RX10 ∧ yX10_leavesOf.cls ≠ "java/lang/invoke/MethodHandle" ∧ yX10_leavesOf.cls ≠ "java/lang/invoke/VarHandle" ∧ (parseMethodDescriptor yX10_leavesOf.desc).map (fun d => d.parameters.length) = some 1 := by decide +kernel
theorem gV_X10_X10_leavesOf : GoodIn WT (wsV RX10 406 RX10 yX10_leavesOf (.code yX10_leavesOf cX10_leavesOf 2 (some FieldType.int) :: WT)) := gzV q8_160 q8_162 s_X10_leavesOf q1_8 q8_163
theorem hd_X10_mayOf : yX10_mayOf.cls = RX10 ∧ yX10_mayOf.cls ≠ "java/lang/invoke/MethodHandle" ∧ yX10_mayOf.cls ≠ "java/lang/invoke/VarHandle" ∧ (parseMethodDescriptor yX10_mayOf.desc).map (fun d => d.parameters.length) = some 2 := by decide +kernel
theorem gV_X10_X10_mayOf : GoodIn WT (wsV RX10 382 RX10 yX10_mayOf (.code yX10_mayOf cX10_mayOf 3 (some FieldType.int) :: WT)) := gzV q8_104 q8_106 s_X10_mayOf q1_8 q8_107
theorem hd_X10_putOn : yX10_putOn.cls = RX10 ∧ yX10_putOn.cls ≠ "java/lang/invoke/MethodHandle" ∧ yX10_putOn.cls ≠ "java/lang/invoke/VarHandle" ∧ (parseMethodDescriptor yX10_putOn.desc).map (fun d => d.parameters.length) = some 4 := by decide +kernel
theorem gV_X10_X10_putOn : GoodIn WT (wsV RX10 329 RX10 yX10_putOn (.code yX10_putOn cX10_putOn 8 (some FieldType.int) :: WT)) := gzV q7_86 q7_88 s_X10_putOn q1_8 q7_89
theorem hd_X10_rowsBy : yX10_rowsBy.cls = RX10 ∧ yX10_rowsBy.cls ≠ "java/lang/invoke/MethodHandle" ∧ yX10_rowsBy.cls ≠ "java/lang/invoke/VarHandle" ∧ (parseMethodDescriptor yX10_rowsBy.desc).map (fun d => d.parameters.length) = some 2 := by decide +kernel
theorem gV_X10_X10_rowsBy : GoodIn WT (wsV RX10 385 RX10 yX10_rowsBy (.code yX10_rowsBy cX10_rowsBy 5 (some FieldType.int) :: WT)) := gzV q8_116 q8_118 s_X10_rowsBy q1_8 q8_119
theorem hd_X10_seekRests : yX10_seekRests.cls = RX10 ∧ yX10_seekRests.cls ≠ "java/lang/invoke/MethodHandle" ∧ yX10_seekRests.cls ≠ "java/lang/invoke/VarHandle" ∧ (parseMethodDescriptor yX10_seekRests.desc).map (fun d => d.parameters.length) = some 1 := by decide +kernel
theorem gV_X10_X10_seekRests : GoodIn WT (wsV RX10 419 RX10 yX10_seekRests (.code yX10_seekRests cX10_seekRests 6 (some FieldType.int) :: WT)) := gzV q8_183 q8_185 s_X10_seekRests q1_8 q8_186
theorem hd_X10_seekSets : yX10_seekSets.cls = RX10 ∧ yX10_seekSets.cls ≠ "java/lang/invoke/MethodHandle" ∧ yX10_seekSets.cls ≠ "java/lang/invoke/VarHandle" ∧ (parseMethodDescriptor yX10_seekSets.desc).map (fun d => d.parameters.length) = some 1 := by decide +kernel
theorem gV_X10_X10_seekSets : GoodIn WT (wsV RX10 403 RX10 yX10_seekSets (.code yX10_seekSets cX10_seekSets 5 (some FieldType.int) :: WT)) := gzV q8_128 q8_130 s_X10_seekSets q1_8 q8_131
theorem hd_X10_sumOf : yX10_sumOf.cls = RX10 ∧ yX10_sumOf.cls ≠ "java/lang/invoke/MethodHandle" ∧ yX10_sumOf.cls ≠ "java/lang/invoke/VarHandle" ∧ (parseMethodDescriptor yX10_sumOf.desc).map (fun d => d.parameters.length) = some 2 := by decide +kernel
theorem gV_X10_X10_sumOf : GoodIn WT (wsV RX10 379 RX10 yX10_sumOf (.code yX10_sumOf cX10_sumOf 6 (some FieldType.int) :: WT)) := gzV q8_76 q8_78 s_X10_sumOf q1_8 q8_79
theorem hd_X10_tryCrash : yX10_tryCrash.cls = RX10 ∧ yX10_tryCrash.cls ≠ "java/lang/invoke/MethodHandle" ∧ yX10_tryCrash.cls ≠ "java/lang/invoke/VarHandle" ∧ (parseMethodDescriptor yX10_tryCrash.desc).map (fun d => d.parameters.length) = some 2 := by decide +kernel
theorem gV_X10_X10_tryCrash : GoodIn WT (wsV RX10 435 RX10 yX10_tryCrash (.code yX10_tryCrash cX10_tryCrash 9 none :: WT)) := gzV q8_195 q8_197 s_X10_tryCrash q1_8 q8_198
theorem hd_X10_tryOn : yX10_tryOn.cls = RX10 ∧ yX10_tryOn.cls ≠ "java/lang/invoke/MethodHandle" ∧ yX10_tryOn.cls ≠ "java/lang/invoke/VarHandle" ∧ (parseMethodDescriptor yX10_tryOn.desc).map (fun d => d.parameters.length) = some 0 := by decide +kernel
theorem gV_X10_X10_tryOn : GoodIn WT (wsV RX10 444 RX10 yX10_tryOn (.code yX10_tryOn cX10_tryOn 1 none :: WT)) := gzV q8_220 q8_222 s_X10_tryOn q1_8 q8_223
theorem hd_X10_valueOf : yX10_valueOf.cls = RX10 ∧ yX10_valueOf.cls ≠ "java/lang/invoke/MethodHandle" ∧ yX10_valueOf.cls ≠ "java/lang/invoke/VarHandle" ∧ (parseMethodDescriptor yX10_valueOf.desc).map (fun d => d.parameters.length) = some 3 := by decide +kernel
theorem gV_X10_X10_valueOf : GoodIn WT (wsV RX10 376 RX10 yX10_valueOf (.code yX10_valueOf cX10_valueOf 5 (some FieldType.int) :: WT)) := gzV q8_68 q8_70 s_X10_valueOf q1_8 q8_71
theorem hd_X10_wrongBy : yX10_wrongBy.cls = RX10 ∧ yX10_wrongBy.cls ≠ "java/lang/invoke/MethodHandle" ∧ yX10_wrongBy.cls ≠ "java/lang/invoke/VarHandle" ∧ (parseMethodDescriptor yX10_wrongBy.desc).map (fun d => d.parameters.length) = some 1 := by decide +kernel
theorem gV_X10_X10_wrongBy : GoodIn WT (wsV RX10 400 RX10 yX10_wrongBy (.code yX10_wrongBy cX10_wrongBy 5 (some FieldType.int) :: WT)) := gzV q8_132 q8_134 s_X10_wrongBy q1_8 q8_135
def f_X10_read (St : SMo) (St_r : Nat → Int32) (St_st : Nat → Int32) (x1 : Int32) (x2 : Int32) : Option (Int32 × SMo) :=
  (f_X10_anew St).bind (fun q1 =>
    (f_X10_isSlot q1 St_st x1).bind (fun q2 =>
      (if q2 = 0 then
        (f_X10_no q1 (1 : Int32)).bind (fun q3 =>
          some (q3.1, q3.2))
        else
        (f_X10_isRow q1 St_r x2).bind (fun q4 =>
          (if q4 = 0 then
            (f_X10_no q1 (1 : Int32)).bind (fun q5 =>
              some (q5.1, q5.2))
            else
            (f_X10_valueOf q1 St_st x1 x2).bind (fun q6 =>
              some (q6, q1)))))))
set_option maxHeartbeats 4000000 in
set_option maxRecDepth 100000 in
theorem c_X10_read (l : Launch) (D : va_G) (cy : Nat → ClassId) (ht : Nat → Nat) (St : SMo) (St_r : Nat → Int32) (St_st : Nat → Int32) (x1 : Int32) (x2 : Int32) (r : Int32 × SMo) (hf : f_X10_read St St_r St_st x1 x2 = some r) : zCI l yX10_read cX10_read 3 (some FieldType.int) 6 143 D (zty cy) [.ref (ht 0), .int x1, .int x2] (wMo ht cy St ++ (wAI (fun _ => ht 3) cy 140 St_r ++ (wAI (fun _ => ht 9) cy 325 St_st))) (wMo ht cy r.2 ++ (wAI (fun _ => ht 3) cy 140 St_r ++ (wAI (fun _ => ht 9) cy 325 St_st))) r.1 := by
  refine zCI_of (by decide +kernel) (Nat.le_of_ble_eq_true rfl) ?_
  intro p e s m below meth c A ls C hP hD hS hl
  generalize hargs : ([.ref (ht 0), .int x1, .int x2] : List Value).toArray = args at C ⊢
  have C : zX p s m meth c cX10_read 3 args RX10 (some FieldType.int) A D (zty cy) := C
  obtain ⟨hx, hb, hr, hts, hown, hlocks, hml, hA, hK⟩ := id C
  have hl : lv_has ls 3 [(0, .ref (ht 0)), (1, .int x1), (2, .int x2)] := hl
  generalize hH : s.heap = H at hP ⊢
  have hS : va_S A s.heap H [] := by rw [← hH]; exact hS
  generalize ([] : List Loc) = locs at hS ⊢
  refine lv_aload_n hx hb dX10_read_0 rfl (lv_at hl 0 rfl) ?_
  obtain ⟨q1, hc, hf⟩ := zbd hf
  refine z_cVv (As := []) (rest := []) C (c_X10_anew l D cy ht St q1 hc) gV_X10_X10_anew hd_X10_anew ⟨Nat.le_of_ble_eq_true rfl, Nat.le_of_ble_eq_true rfl⟩ ⟨Nat.le_refl _, Nat.le_refl _⟩ (va_recv hK hP (ci := 6) (q0 := 0) rfl rfl) hP hD hS (w2 := wMo ht cy q1 ++ (wAI (fun _ => ht 3) cy 140 St_r ++ (wAI (fun _ => ht 9) cy 325 St_st))) [0] [1, 2] [2, 0, 1] rfl rfl rfl rfl rfl rfl (by decide) hl.1 (Nat.le_of_ble_eq_true rfl) dX10_read_1 (fun H locs hP hD hS => ?_)
  refine lv_aload_n hx hb dX10_read_4 rfl (lv_at hl 0 rfl) ?_
  refine lv_iload_n hx hb dX10_read_5 rfl (lv_at hl 1 rfl) ?_
  obtain ⟨q2, hc, hf⟩ := zbd hf
  refine z_cVi (As := [.int x1]) (rest := []) C (c_X10_isSlot l D cy ht q1 St_st x1 q2 hc) gV_X10_X10_isSlot hd_X10_isSlot ⟨Nat.le_of_ble_eq_true rfl, Nat.le_of_ble_eq_true rfl⟩ ⟨Nat.le_refl _, Nat.le_refl _⟩ (va_recv hK hP (ci := 6) (q0 := 0) rfl rfl) hP hD hS (w2 := wMo ht cy q1 ++ (wAI (fun _ => ht 3) cy 140 St_r ++ (wAI (fun _ => ht 9) cy 325 St_st))) [0, 2] [1] [1, 0, 2] rfl rfl rfl rfl rfl rfl (by decide) hl.1 (Nat.le_of_ble_eq_true rfl) dX10_read_6 (fun H locs hP hD hS => ?_)
  refine z_if_eq (tgt := 33) hx hb dX10_read_9 (by decide) hf (fun hf => ?_) (fun hf => ?_)
  · refine lv_aload_n hx hb dX10_read_33 rfl (lv_at hl 0 rfl) ?_
    refine lv_iconst (v := (1 : Int32)) hx hb dX10_read_34 (by decide) ?_
    obtain ⟨q3, hc, hf⟩ := zbd hf
    refine z_cVi (As := [.int (1 : Int32)]) (rest := []) C (c_X10_no l D cy ht q1 (1 : Int32) q3 hc) gV_X10_X10_no hd_X10_no ⟨Nat.le_of_ble_eq_true rfl, Nat.le_of_ble_eq_true rfl⟩ ⟨Nat.le_refl _, Nat.le_refl _⟩ (va_recv hK hP (ci := 6) (q0 := 0) rfl rfl) hP hD hS (w2 := wMo ht cy q3.2 ++ (wAI (fun _ => ht 3) cy 140 St_r ++ (wAI (fun _ => ht 9) cy 325 St_st))) [0] [1, 2] [2, 0, 1] rfl rfl rfl rfl rfl rfl (by decide) hl.1 (Nat.le_of_ble_eq_true rfl) dX10_read_35 (fun H locs hP hD hS => ?_)
    obtain rfl := Option.some.inj hf
    exact z_iret (v := q3.1) C hP hD hS dX10_read_38
  · refine lv_aload_n hx hb dX10_read_12 rfl (lv_at hl 0 rfl) ?_
    refine lv_iload_n hx hb dX10_read_13 rfl (lv_at hl 2 rfl) ?_
    obtain ⟨q4, hc, hf⟩ := zbd hf
    refine z_cVi (As := [.int x2]) (rest := []) C (c_X10_isRow l D cy ht q1 St_r x2 q4 hc) gV_X10_X10_isRow hd_X10_isRow ⟨Nat.le_of_ble_eq_true rfl, Nat.le_of_ble_eq_true rfl⟩ ⟨Nat.le_refl _, Nat.le_refl _⟩ (va_recv hK hP (ci := 6) (q0 := 0) rfl rfl) hP hD hS (w2 := wMo ht cy q1 ++ (wAI (fun _ => ht 3) cy 140 St_r ++ (wAI (fun _ => ht 9) cy 325 St_st))) [0, 1] [2] [1, 2, 0] rfl rfl rfl rfl rfl rfl (by decide) hl.1 (Nat.le_of_ble_eq_true rfl) dX10_read_14 (fun H locs hP hD hS => ?_)
    refine z_if_eq (tgt := 33) hx hb dX10_read_17 (by decide) hf (fun hf => ?_) (fun hf => ?_)
    · refine lv_aload_n hx hb dX10_read_33 rfl (lv_at hl 0 rfl) ?_
      refine lv_iconst (v := (1 : Int32)) hx hb dX10_read_34 (by decide) ?_
      obtain ⟨q5, hc, hf⟩ := zbd hf
      refine z_cVi (As := [.int (1 : Int32)]) (rest := []) C (c_X10_no l D cy ht q1 (1 : Int32) q5 hc) gV_X10_X10_no hd_X10_no ⟨Nat.le_of_ble_eq_true rfl, Nat.le_of_ble_eq_true rfl⟩ ⟨Nat.le_refl _, Nat.le_refl _⟩ (va_recv hK hP (ci := 6) (q0 := 0) rfl rfl) hP hD hS (w2 := wMo ht cy q5.2 ++ (wAI (fun _ => ht 3) cy 140 St_r ++ (wAI (fun _ => ht 9) cy 325 St_st))) [0] [1, 2] [2, 0, 1] rfl rfl rfl rfl rfl rfl (by decide) hl.1 (Nat.le_of_ble_eq_true rfl) dX10_read_35 (fun H locs hP hD hS => ?_)
      obtain rfl := Option.some.inj hf
      exact z_iret (v := q5.1) C hP hD hS dX10_read_38
    · refine lv_aload_n hx hb dX10_read_20 rfl (lv_at hl 0 rfl) ?_
      refine lv_aload_n hx hb dX10_read_21 rfl (lv_at hl 0 rfl) ?_
      refine va_get (D := D) (ci := 6) (v := .ref (ht 9)) (C := RX10) (T := TX10) (N := 41) hx hb hts in_X10 hown hK hP 0 rfl rfl 21 (by decide) (hts _ q6_66) (fun _ h9 => h9) rfl dX10_read_22 ?_
      refine lv_iload_n hx hb dX10_read_25 rfl (lv_at hl 1 rfl) ?_
      refine lv_iload_n hx hb dX10_read_26 rfl (lv_at hl 2 rfl) ?_
      obtain ⟨q6, hc, hf⟩ := zbd hf
      refine z_cVi (As := [.ref (ht 9), .int x1, .int x2]) (rest := []) C (c_X10_valueOf l D cy ht (fun _ => ht 9) q1 St_st x1 x2 q6 hc) gV_X10_X10_valueOf hd_X10_valueOf ⟨Nat.le_of_ble_eq_true rfl, Nat.le_of_ble_eq_true rfl⟩ ⟨Nat.le_refl _, Nat.le_refl _⟩ (va_recv hK hP (ci := 6) (q0 := 0) rfl rfl) hP hD hS (w2 := wMo ht cy q1 ++ (wAI (fun _ => ht 3) cy 140 St_r ++ (wAI (fun _ => ht 9) cy 325 St_st))) [0, 2] [1] [1, 0, 2] rfl rfl rfl rfl rfl rfl (by decide) hl.1 (Nat.le_of_ble_eq_true rfl) dX10_read_27 (fun H locs hP hD hS => ?_)
      refine lv_goto (tgt := 38) hx hb dX10_read_30 (by decide) ?_
      obtain rfl := Option.some.inj hf
      exact z_iret (v := q6) C hP hD hS dX10_read_38
def b_X10_sumOf_5 (St : SMo) (St_r : Nat → Int32) (Sp1 : Nat → Int32) (x2 : Int32) (k5 : Int32 → Int32 → Option (Int32)) (v3 : Int32) (v4 : Int32) : Option (Int32) :=
  (if zib (1 : Int32) 140 then (if (St_r (1 : Int32).toNatClampNeg) ≤ v4 then
      some v3
      else
      (f_X10_valueOf St Sp1 x2 v4).bind (fun q1 =>
        (if 0 ≤ q1 then
          (k5 (v3 + q1) (v4 + (1 : Int32)))
          else
          (k5 (v3 + (0 : Int32)) (v4 + (1 : Int32)))))) else none)
set_option maxHeartbeats 4000000 in
set_option maxRecDepth 100000 in
theorem w_X10_sumOf_5 {p : Program} {e : Env} {s : State} {m : MethodId} {below : List Frame} {meth : Method} {c : Code} {A : Nat → Prop} {D : va_G} {cy : Nat → ClassId} {args : Array Value} {r : Int32} (l : Launch) (ht : Nat → Nat) (hp1 : Nat → Nat) (St : SMo) (St_r : Nat → Int32) (Sp1 : Nat → Int32) (x2 : Int32) (C : zX p s m meth c cX10_sumOf 6 args RX10 (some FieldType.int) A D (zty cy)) :
    ∀ (n : Nat) (v3 : Int32) (v4 : Int32) (H : Heap) (locs : List Loc) (ls : Array Slot), zl2 (b_X10_sumOf_5 St St_r Sp1 x2) n v3 v4 = some r → va_P D vwCl (wMo ht cy St ++ (wAI (fun _ => ht 3) cy 140 St_r ++ (wAI hp1 cy 325 Sp1))) H → va_D A (wMo ht cy St ++ (wAI (fun _ => ht 3) cy 140 St_r ++ (wAI hp1 cy 325 Sp1))) → va_S A s.heap H locs → lv_has ls 6 [(0, .ref (ht 0)), (1, .ref (hp1 0)), (2, .int x2), (3, .int v3), (4, .int v4)] → W p l e (zRm 6 143) s m args below meth c H locs 0 0 (MQ below (zQI D (zty cy) A (wMo ht cy St ++ (wAI (fun _ => ht 3) cy 140 St_r ++ (wAI hp1 cy 325 Sp1))) r) args s 0 0 A) (F0 m 5 ls []) := by
  obtain ⟨hx, hb, hr, hts, hown, hlocks, hml, hA, hK⟩ := id C
  intro n
  induction n with
  | zero => intro v3 v4 H locs ls hf; exact zno hf
  | succ n ih =>
    intro v3 v4 H locs ls hf hP hD hS hl
    have hf : b_X10_sumOf_5 St St_r Sp1 x2 (zl2 (b_X10_sumOf_5 St St_r Sp1 x2) n) v3 v4 = some r := hf
    have K5 := ih
    refine lv_iload hx hb dX10_sumOf_5 (lv_at hl 4 rfl) ?_
    refine lv_aload_n hx hb dX10_sumOf_7 rfl (lv_at hl 0 rfl) ?_
    refine va_get (D := D) (ci := 6) (v := .ref (ht 3)) (C := RX10) (T := TX10) (N := 41) hx hb hts in_X10 hown hK hP 0 rfl rfl 15 (by decide) (hts _ q6_60) (fun _ h9 => h9) rfl dX10_sumOf_8 ?_
    refine lv_iconst (v := (1 : Int32)) hx hb dX10_sumOf_11 (by decide) ?_
    refine z_iald (f := St_r) hx hb hK hP 1 0 rfl rfl dX10_sumOf_12 hf (fun hf => ?_)
    refine z_icmp_ge (tgt := 46) hx hb dX10_sumOf_13 (by decide) hf (fun hf => ?_) (fun hf => ?_)
    · refine lv_iload_n hx hb dX10_sumOf_46 rfl (lv_at hl 3 rfl) ?_
      obtain rfl := Option.some.inj hf
      exact z_iret (v := v3) C hP hD hS dX10_sumOf_47
    · refine lv_aload_n hx hb dX10_sumOf_16 rfl (lv_at hl 0 rfl) ?_
      refine lv_aload_n hx hb dX10_sumOf_17 rfl (lv_at hl 1 rfl) ?_
      refine lv_iload_n hx hb dX10_sumOf_18 rfl (lv_at hl 2 rfl) ?_
      refine lv_iload hx hb dX10_sumOf_19 (lv_at hl 4 rfl) ?_
      obtain ⟨q1, hc, hf⟩ := zbd hf
      refine z_cVi (As := [.ref (hp1 0), .int x2, .int v4]) (rest := []) C (c_X10_valueOf l D cy ht hp1 St Sp1 x2 v4 q1 hc) gV_X10_X10_valueOf hd_X10_valueOf ⟨Nat.le_of_ble_eq_true rfl, Nat.le_of_ble_eq_true rfl⟩ ⟨Nat.le_refl _, Nat.le_refl _⟩ (va_recv hK hP (ci := 6) (q0 := 0) rfl rfl) hP hD hS (w2 := wMo ht cy St ++ (wAI (fun _ => ht 3) cy 140 St_r ++ (wAI hp1 cy 325 Sp1))) [0, 2] [1] [1, 0, 2] rfl rfl rfl rfl rfl rfl (by decide) hl.1 (Nat.le_of_ble_eq_true rfl) dX10_sumOf_21 (fun H locs hP hD hS => ?_)
      refine lv_istore (lv' := [(5, .int q1), (0, .ref (ht 0)), (1, .ref (hp1 0)), (2, .int x2), (3, .int v3), (4, .int v4)]) hx hb dX10_sumOf_24 hl (by decide) rfl (fun ls hl => ?_)
      refine lv_iload_n hx hb dX10_sumOf_26 rfl (lv_at hl 4 rfl) ?_
      refine lv_iload hx hb dX10_sumOf_27 (lv_at hl 0 rfl) ?_
      refine z_if_ge (tgt := 36) hx hb dX10_sumOf_29 (by decide) hf (fun hf => ?_) (fun hf => ?_)
      · refine lv_iload hx hb dX10_sumOf_36 (lv_at hl 0 rfl) ?_
        refine lv_iadd hx hb dX10_sumOf_38 ?_
        refine lv_istore_n (lv' := [(3, .int (v3 + q1)), (5, .int q1), (0, .ref (ht 0)), (1, .ref (hp1 0)), (2, .int x2), (4, .int v4)]) hx hb dX10_sumOf_39 rfl hl (by decide) rfl (fun ls hl => ?_)
        refine lv_iinc (v := (v4 + (1 : Int32))) (lv' := [(4, .int (v4 + (1 : Int32))), (3, .int (v3 + q1)), (5, .int q1), (0, .ref (ht 0)), (1, .ref (hp1 0)), (2, .int x2)]) hx hb dX10_sumOf_40 hl (k := 5) rfl rfl (by decide) rfl (fun ls hl => ?_)
        refine lv_goto (tgt := 5) hx hb dX10_sumOf_43 (by decide) ?_
        exact K5 (v3 + q1) (v4 + (1 : Int32)) H locs ls hf hP hD hS (lv_sub hl [3, 4, 5, 1, 0] rfl)
      · refine lv_iconst (v := (0 : Int32)) hx hb dX10_sumOf_32 (by decide) ?_
        refine lv_goto (tgt := 38) hx hb dX10_sumOf_33 (by decide) ?_
        refine lv_iadd hx hb dX10_sumOf_38 ?_
        refine lv_istore_n (lv' := [(3, .int (v3 + (0 : Int32))), (5, .int q1), (0, .ref (ht 0)), (1, .ref (hp1 0)), (2, .int x2), (4, .int v4)]) hx hb dX10_sumOf_39 rfl hl (by decide) rfl (fun ls hl => ?_)
        refine lv_iinc (v := (v4 + (1 : Int32))) (lv' := [(4, .int (v4 + (1 : Int32))), (3, .int (v3 + (0 : Int32))), (5, .int q1), (0, .ref (ht 0)), (1, .ref (hp1 0)), (2, .int x2)]) hx hb dX10_sumOf_40 hl (k := 5) rfl rfl (by decide) rfl (fun ls hl => ?_)
        refine lv_goto (tgt := 5) hx hb dX10_sumOf_43 (by decide) ?_
        exact K5 (v3 + (0 : Int32)) (v4 + (1 : Int32)) H locs ls hf hP hD hS (lv_sub hl [3, 4, 5, 1, 0] rfl)
def f_X10_sumOf (St : SMo) (St_r : Nat → Int32) (Sp1 : Nat → Int32) (x2 : Int32) : Option (Int32) :=
  (zl2 (b_X10_sumOf_5 St St_r Sp1 x2) FU (0 : Int32) (0 : Int32))
set_option maxHeartbeats 4000000 in
set_option maxRecDepth 100000 in
theorem c_X10_sumOf (l : Launch) (D : va_G) (cy : Nat → ClassId) (ht : Nat → Nat) (hp1 : Nat → Nat) (St : SMo) (St_r : Nat → Int32) (Sp1 : Nat → Int32) (x2 : Int32) (r : Int32) (hf : f_X10_sumOf St St_r Sp1 x2 = some r) : zCI l yX10_sumOf cX10_sumOf 6 (some FieldType.int) 6 143 D (zty cy) [.ref (ht 0), .ref (hp1 0), .int x2] (wMo ht cy St ++ (wAI (fun _ => ht 3) cy 140 St_r ++ (wAI hp1 cy 325 Sp1))) (wMo ht cy St ++ (wAI (fun _ => ht 3) cy 140 St_r ++ (wAI hp1 cy 325 Sp1))) r := by
  refine zCI_of (by decide +kernel) (Nat.le_of_ble_eq_true rfl) ?_
  intro p e s m below meth c A ls C hP hD hS hl
  generalize hargs : ([.ref (ht 0), .ref (hp1 0), .int x2] : List Value).toArray = args at C ⊢
  have C : zX p s m meth c cX10_sumOf 6 args RX10 (some FieldType.int) A D (zty cy) := C
  obtain ⟨hx, hb, hr, hts, hown, hlocks, hml, hA, hK⟩ := id C
  have hl : lv_has ls 6 [(0, .ref (ht 0)), (1, .ref (hp1 0)), (2, .int x2)] := hl
  generalize hH : s.heap = H at hP ⊢
  have hS : va_S A s.heap H [] := by rw [← hH]; exact hS
  generalize ([] : List Loc) = locs at hS ⊢
  refine lv_iconst (v := (0 : Int32)) hx hb dX10_sumOf_0 (by decide) ?_
  refine lv_istore_n (lv' := [(3, .int (0 : Int32)), (0, .ref (ht 0)), (1, .ref (hp1 0)), (2, .int x2)]) hx hb dX10_sumOf_1 rfl hl (by decide) rfl (fun ls hl => ?_)
  refine lv_iconst (v := (0 : Int32)) hx hb dX10_sumOf_2 (by decide) ?_
  refine lv_istore (lv' := [(4, .int (0 : Int32)), (3, .int (0 : Int32)), (0, .ref (ht 0)), (1, .ref (hp1 0)), (2, .int x2)]) hx hb dX10_sumOf_3 hl (by decide) rfl (fun ls hl => ?_)
  exact w_X10_sumOf_5 l ht hp1 St St_r Sp1 x2 C FU (0 : Int32) (0 : Int32) H locs ls hf hP hD hS (lv_sub hl [2, 3, 4, 1, 0] rfl)
def f_X10_sum (St : SMo) (St_r : Nat → Int32) (St_st : Nat → Int32) (x1 : Int32) : Option (Int32 × SMo) :=
  (f_X10_anew St).bind (fun q1 =>
    (f_X10_isSlot q1 St_st x1).bind (fun q2 =>
      (if q2 = 0 then
        (f_X10_no q1 (1 : Int32)).bind (fun q3 =>
          some (q3.1, q3.2))
        else
        (f_X10_sumOf q1 St_r St_st x1).bind (fun q4 =>
          some (q4, q1)))))
set_option maxHeartbeats 4000000 in
set_option maxRecDepth 100000 in
theorem c_X10_sum (l : Launch) (D : va_G) (cy : Nat → ClassId) (ht : Nat → Nat) (St : SMo) (St_r : Nat → Int32) (St_st : Nat → Int32) (x1 : Int32) (r : Int32 × SMo) (hf : f_X10_sum St St_r St_st x1 = some r) : zCI l yX10_sum cX10_sum 2 (some FieldType.int) 7 168 D (zty cy) [.ref (ht 0), .int x1] (wMo ht cy St ++ (wAI (fun _ => ht 3) cy 140 St_r ++ (wAI (fun _ => ht 9) cy 325 St_st))) (wMo ht cy r.2 ++ (wAI (fun _ => ht 3) cy 140 St_r ++ (wAI (fun _ => ht 9) cy 325 St_st))) r.1 := by
  refine zCI_of (by decide +kernel) (Nat.le_of_ble_eq_true rfl) ?_
  intro p e s m below meth c A ls C hP hD hS hl
  generalize hargs : ([.ref (ht 0), .int x1] : List Value).toArray = args at C ⊢
  have C : zX p s m meth c cX10_sum 2 args RX10 (some FieldType.int) A D (zty cy) := C
  obtain ⟨hx, hb, hr, hts, hown, hlocks, hml, hA, hK⟩ := id C
  have hl : lv_has ls 2 [(0, .ref (ht 0)), (1, .int x1)] := hl
  generalize hH : s.heap = H at hP ⊢
  have hS : va_S A s.heap H [] := by rw [← hH]; exact hS
  generalize ([] : List Loc) = locs at hS ⊢
  refine lv_aload_n hx hb dX10_sum_0 rfl (lv_at hl 0 rfl) ?_
  obtain ⟨q1, hc, hf⟩ := zbd hf
  refine z_cVv (As := []) (rest := []) C (c_X10_anew l D cy ht St q1 hc) gV_X10_X10_anew hd_X10_anew ⟨Nat.le_of_ble_eq_true rfl, Nat.le_of_ble_eq_true rfl⟩ ⟨Nat.le_refl _, Nat.le_refl _⟩ (va_recv hK hP (ci := 6) (q0 := 0) rfl rfl) hP hD hS (w2 := wMo ht cy q1 ++ (wAI (fun _ => ht 3) cy 140 St_r ++ (wAI (fun _ => ht 9) cy 325 St_st))) [0] [1, 2] [2, 0, 1] rfl rfl rfl rfl rfl rfl (by decide) hl.1 (Nat.le_of_ble_eq_true rfl) dX10_sum_1 (fun H locs hP hD hS => ?_)
  refine lv_aload_n hx hb dX10_sum_4 rfl (lv_at hl 0 rfl) ?_
  refine lv_iload_n hx hb dX10_sum_5 rfl (lv_at hl 1 rfl) ?_
  obtain ⟨q2, hc, hf⟩ := zbd hf
  refine z_cVi (As := [.int x1]) (rest := []) C (c_X10_isSlot l D cy ht q1 St_st x1 q2 hc) gV_X10_X10_isSlot hd_X10_isSlot ⟨Nat.le_of_ble_eq_true rfl, Nat.le_of_ble_eq_true rfl⟩ ⟨Nat.le_refl _, Nat.le_refl _⟩ (va_recv hK hP (ci := 6) (q0 := 0) rfl rfl) hP hD hS (w2 := wMo ht cy q1 ++ (wAI (fun _ => ht 3) cy 140 St_r ++ (wAI (fun _ => ht 9) cy 325 St_st))) [0, 2] [1] [1, 0, 2] rfl rfl rfl rfl rfl rfl (by decide) hl.1 (Nat.le_of_ble_eq_true rfl) dX10_sum_6 (fun H locs hP hD hS => ?_)
  refine z_if_eq (tgt := 24) hx hb dX10_sum_9 (by decide) hf (fun hf => ?_) (fun hf => ?_)
  · refine lv_aload_n hx hb dX10_sum_24 rfl (lv_at hl 0 rfl) ?_
    refine lv_iconst (v := (1 : Int32)) hx hb dX10_sum_25 (by decide) ?_
    obtain ⟨q3, hc, hf⟩ := zbd hf
    refine z_cVi (As := [.int (1 : Int32)]) (rest := []) C (c_X10_no l D cy ht q1 (1 : Int32) q3 hc) gV_X10_X10_no hd_X10_no ⟨Nat.le_of_ble_eq_true rfl, Nat.le_of_ble_eq_true rfl⟩ ⟨Nat.le_refl _, Nat.le_refl _⟩ (va_recv hK hP (ci := 6) (q0 := 0) rfl rfl) hP hD hS (w2 := wMo ht cy q3.2 ++ (wAI (fun _ => ht 3) cy 140 St_r ++ (wAI (fun _ => ht 9) cy 325 St_st))) [0] [1, 2] [2, 0, 1] rfl rfl rfl rfl rfl rfl (by decide) hl.1 (Nat.le_of_ble_eq_true rfl) dX10_sum_26 (fun H locs hP hD hS => ?_)
    obtain rfl := Option.some.inj hf
    exact z_iret (v := q3.1) C hP hD hS dX10_sum_29
  · refine lv_aload_n hx hb dX10_sum_12 rfl (lv_at hl 0 rfl) ?_
    refine lv_aload_n hx hb dX10_sum_13 rfl (lv_at hl 0 rfl) ?_
    refine va_get (D := D) (ci := 6) (v := .ref (ht 9)) (C := RX10) (T := TX10) (N := 41) hx hb hts in_X10 hown hK hP 0 rfl rfl 21 (by decide) (hts _ q6_66) (fun _ h9 => h9) rfl dX10_sum_14 ?_
    refine lv_iload_n hx hb dX10_sum_17 rfl (lv_at hl 1 rfl) ?_
    obtain ⟨q4, hc, hf⟩ := zbd hf
    refine z_cVi0 (As := [.ref (ht 9), .int x1]) (rest := []) C (c_X10_sumOf l D cy ht (fun _ => ht 9) q1 St_r St_st x1 q4 hc) gV_X10_X10_sumOf hd_X10_sumOf ⟨Nat.le_of_ble_eq_true rfl, Nat.le_of_ble_eq_true rfl⟩ ⟨Nat.le_refl _, Nat.le_refl _⟩ (va_recv hK hP (ci := 6) (q0 := 0) rfl rfl) hP hD hS hl.1 (Nat.le_of_ble_eq_true rfl) dX10_sum_18 (fun H locs hP hD hS => ?_)
    have hP : va_P D vwCl (wMo ht cy q1 ++ (wAI (fun _ => ht 3) cy 140 St_r ++ (wAI (fun _ => ht 9) cy 325 St_st))) H := hP
    have hD : va_D A (wMo ht cy q1 ++ (wAI (fun _ => ht 3) cy 140 St_r ++ (wAI (fun _ => ht 9) cy 325 St_st))) := hD
    refine lv_goto (tgt := 29) hx hb dX10_sum_21 (by decide) ?_
    obtain rfl := Option.some.inj hf
    exact z_iret (v := q4) C hP hD hS dX10_sum_29
def b_X10_differ_31 (St_r : Nat → Int32) (St_st : Nat → Int32) (x1 : Int32) (x2 : Int32) (k31 : SMo → Int32 → Int32 → Option (Int32 × SMo)) (St : SMo) (v3 : Int32) (v4 : Int32) : Option (Int32 × SMo) :=
  (if zib (1 : Int32) 140 then (if (St_r (1 : Int32).toNatClampNeg) ≤ v4 then
      some (v3, St)
      else
      (f_X10_seenIn St St_st x1 v4).bind (fun q1 =>
        (f_X10_seenIn St St_st x2 v4).bind (fun q2 =>
          (if q1 = q2 then
            (k31 St (v3 ||| (0 : Int32)) (v4 + (1 : Int32)))
            else
            (k31 St (v3 ||| ((1 : Int32) <<< (v4 &&& 31))) (v4 + (1 : Int32))))))) else none)
set_option maxHeartbeats 4000000 in
set_option maxRecDepth 100000 in
theorem w_X10_differ_31 {p : Program} {e : Env} {s : State} {m : MethodId} {below : List Frame} {meth : Method} {c : Code} {A : Nat → Prop} {D : va_G} {cy : Nat → ClassId} {args : Array Value} {r : Int32 × SMo} (l : Launch) (ht : Nat → Nat) (St_r : Nat → Int32) (St_st : Nat → Int32) (x1 : Int32) (x2 : Int32) (C : zX p s m meth c cX10_differ 5 args RX10 (some FieldType.int) A D (zty cy)) :
    ∀ (n : Nat) (St : SMo) (v3 : Int32) (v4 : Int32) (H : Heap) (locs : List Loc) (ls : Array Slot), zl3 (b_X10_differ_31 St_r St_st x1 x2) n St v3 v4 = some r → va_P D vwCl (wMo ht cy St ++ (wAI (fun _ => ht 3) cy 140 St_r ++ (wAI (fun _ => ht 9) cy 325 St_st))) H → va_D A (wMo ht cy St ++ (wAI (fun _ => ht 3) cy 140 St_r ++ (wAI (fun _ => ht 9) cy 325 St_st))) → va_S A s.heap H locs → lv_has ls 5 [(0, .ref (ht 0)), (1, .int x1), (2, .int x2), (3, .int v3), (4, .int v4)] → W p l e (zRm 5 119) s m args below meth c H locs 0 0 (MQ below (zQI D (zty cy) A (wMo ht cy r.2 ++ (wAI (fun _ => ht 3) cy 140 St_r ++ (wAI (fun _ => ht 9) cy 325 St_st))) r.1) args s 0 0 A) (F0 m 31 ls []) := by
  obtain ⟨hx, hb, hr, hts, hown, hlocks, hml, hA, hK⟩ := id C
  intro n
  induction n with
  | zero => intro St v3 v4 H locs ls hf; exact zno hf
  | succ n ih =>
    intro St v3 v4 H locs ls hf hP hD hS hl
    have hf : b_X10_differ_31 St_r St_st x1 x2 (zl3 (b_X10_differ_31 St_r St_st x1 x2) n) St v3 v4 = some r := hf
    have K31 := ih
    refine lv_iload hx hb dX10_differ_31 (lv_at hl 4 rfl) ?_
    refine lv_aload_n hx hb dX10_differ_33 rfl (lv_at hl 0 rfl) ?_
    refine va_get (D := D) (ci := 6) (v := .ref (ht 3)) (C := RX10) (T := TX10) (N := 41) hx hb hts in_X10 hown hK hP 0 rfl rfl 15 (by decide) (hts _ q6_60) (fun _ h9 => h9) rfl dX10_differ_34 ?_
    refine lv_iconst (v := (1 : Int32)) hx hb dX10_differ_37 (by decide) ?_
    refine z_iald (f := St_r) hx hb hK hP 1 0 rfl rfl dX10_differ_38 hf (fun hf => ?_)
    refine z_icmp_ge (tgt := 84) hx hb dX10_differ_39 (by decide) hf (fun hf => ?_) (fun hf => ?_)
    · refine lv_iload_n hx hb dX10_differ_84 rfl (lv_at hl 3 rfl) ?_
      obtain rfl := Option.some.inj hf
      exact z_iret (v := v3) C hP hD hS dX10_differ_85
    · refine lv_iload_n hx hb dX10_differ_42 rfl (lv_at hl 3 rfl) ?_
      refine lv_aload_n hx hb dX10_differ_43 rfl (lv_at hl 0 rfl) ?_
      refine lv_aload_n hx hb dX10_differ_44 rfl (lv_at hl 0 rfl) ?_
      refine va_get (D := D) (ci := 6) (v := .ref (ht 9)) (C := RX10) (T := TX10) (N := 41) hx hb hts in_X10 hown hK hP 0 rfl rfl 21 (by decide) (hts _ q6_66) (fun _ h9 => h9) rfl dX10_differ_45 ?_
      refine lv_iload_n hx hb dX10_differ_48 rfl (lv_at hl 1 rfl) ?_
      refine lv_iload hx hb dX10_differ_49 (lv_at hl 4 rfl) ?_
      obtain ⟨q1, hc, hf⟩ := zbd hf
      refine z_cVi (As := [.ref (ht 9), .int x1, .int v4]) (rest := [.int v3]) C (c_X10_seenIn l D cy ht (fun _ => ht 9) St St_st x1 v4 q1 hc) gV_X10_X10_seenIn hd_X10_seenIn ⟨Nat.le_of_ble_eq_true rfl, Nat.le_of_ble_eq_true rfl⟩ ⟨Nat.le_refl _, Nat.le_refl _⟩ (va_recv hK hP (ci := 6) (q0 := 0) rfl rfl) hP hD hS (w2 := wMo ht cy St ++ (wAI (fun _ => ht 3) cy 140 St_r ++ (wAI (fun _ => ht 9) cy 325 St_st))) [0, 2] [1] [1, 0, 2] rfl rfl rfl rfl rfl rfl (by decide) hl.1 (Nat.le_of_ble_eq_true rfl) dX10_differ_51 (fun H locs hP hD hS => ?_)
      refine lv_aload_n hx hb dX10_differ_54 rfl (lv_at hl 0 rfl) ?_
      refine lv_aload_n hx hb dX10_differ_55 rfl (lv_at hl 0 rfl) ?_
      refine va_get (D := D) (ci := 6) (v := .ref (ht 9)) (C := RX10) (T := TX10) (N := 41) hx hb hts in_X10 hown hK hP 0 rfl rfl 21 (by decide) (hts _ q6_66) (fun _ h9 => h9) rfl dX10_differ_56 ?_
      refine lv_iload_n hx hb dX10_differ_59 rfl (lv_at hl 2 rfl) ?_
      refine lv_iload hx hb dX10_differ_60 (lv_at hl 4 rfl) ?_
      obtain ⟨q2, hc, hf⟩ := zbd hf
      refine z_cVi (As := [.ref (ht 9), .int x2, .int v4]) (rest := [.int q1, .int v3]) C (c_X10_seenIn l D cy ht (fun _ => ht 9) St St_st x2 v4 q2 hc) gV_X10_X10_seenIn hd_X10_seenIn ⟨Nat.le_of_ble_eq_true rfl, Nat.le_of_ble_eq_true rfl⟩ ⟨Nat.le_refl _, Nat.le_refl _⟩ (va_recv hK hP (ci := 6) (q0 := 0) rfl rfl) hP hD hS (w2 := wMo ht cy St ++ (wAI (fun _ => ht 3) cy 140 St_r ++ (wAI (fun _ => ht 9) cy 325 St_st))) [0, 2] [1] [1, 0, 2] rfl rfl rfl rfl rfl rfl (by decide) hl.1 (Nat.le_of_ble_eq_true rfl) dX10_differ_62 (fun H locs hP hD hS => ?_)
      refine z_icmp_eq (tgt := 75) hx hb dX10_differ_65 (by decide) hf (fun hf => ?_) (fun hf => ?_)
      · refine lv_iconst (v := (0 : Int32)) hx hb dX10_differ_75 (by decide) ?_
        refine lv_ior hx hb dX10_differ_76 ?_
        refine lv_istore_n (lv' := [(3, .int (v3 ||| (0 : Int32))), (0, .ref (ht 0)), (1, .int x1), (2, .int x2), (4, .int v4)]) hx hb dX10_differ_77 rfl hl (by decide) rfl (fun ls hl => ?_)
        refine lv_iinc (v := (v4 + (1 : Int32))) (lv' := [(4, .int (v4 + (1 : Int32))), (3, .int (v3 ||| (0 : Int32))), (0, .ref (ht 0)), (1, .int x1), (2, .int x2)]) hx hb dX10_differ_78 hl (k := 4) rfl rfl (by decide) rfl (fun ls hl => ?_)
        refine lv_goto (tgt := 31) hx hb dX10_differ_81 (by decide) ?_
        exact K31 St (v3 ||| (0 : Int32)) (v4 + (1 : Int32)) H locs ls hf hP hD hS (lv_sub hl [2, 3, 4, 1, 0] rfl)
      · refine lv_iconst (v := (1 : Int32)) hx hb dX10_differ_68 (by decide) ?_
        refine lv_iload hx hb dX10_differ_69 (lv_at hl 4 rfl) ?_
        refine lv_ishl hx hb dX10_differ_71 ?_
        refine lv_goto (tgt := 76) hx hb dX10_differ_72 (by decide) ?_
        refine lv_ior hx hb dX10_differ_76 ?_
        refine lv_istore_n (lv' := [(3, .int (v3 ||| ((1 : Int32) <<< (v4 &&& 31)))), (0, .ref (ht 0)), (1, .int x1), (2, .int x2), (4, .int v4)]) hx hb dX10_differ_77 rfl hl (by decide) rfl (fun ls hl => ?_)
        refine lv_iinc (v := (v4 + (1 : Int32))) (lv' := [(4, .int (v4 + (1 : Int32))), (3, .int (v3 ||| ((1 : Int32) <<< (v4 &&& 31)))), (0, .ref (ht 0)), (1, .int x1), (2, .int x2)]) hx hb dX10_differ_78 hl (k := 4) rfl rfl (by decide) rfl (fun ls hl => ?_)
        refine lv_goto (tgt := 31) hx hb dX10_differ_81 (by decide) ?_
        exact K31 St (v3 ||| ((1 : Int32) <<< (v4 &&& 31))) (v4 + (1 : Int32)) H locs ls hf hP hD hS (lv_sub hl [2, 3, 4, 1, 0] rfl)
def f_X10_differ (St : SMo) (St_r : Nat → Int32) (St_st : Nat → Int32) (x1 : Int32) (x2 : Int32) : Option (Int32 × SMo) :=
  (f_X10_anew St).bind (fun q3 =>
    (f_X10_isSlot q3 St_st x1).bind (fun q4 =>
      (if q4 = 0 then
        (f_X10_no q3 (1 : Int32)).bind (fun q5 =>
          some (q5.1, q5.2))
        else
        (f_X10_isSlot q3 St_st x2).bind (fun q6 =>
          (if q6 = 0 then
            (f_X10_no q3 (1 : Int32)).bind (fun q7 =>
              some (q7.1, q7.2))
            else
            (zl3 (b_X10_differ_31 St_r St_st x1 x2) FU q3 (0 : Int32) (0 : Int32)))))))
set_option maxHeartbeats 4000000 in
set_option maxRecDepth 100000 in
theorem c_X10_differ (l : Launch) (D : va_G) (cy : Nat → ClassId) (ht : Nat → Nat) (St : SMo) (St_r : Nat → Int32) (St_st : Nat → Int32) (x1 : Int32) (x2 : Int32) (r : Int32 × SMo) (hf : f_X10_differ St St_r St_st x1 x2 = some r) : zCI l yX10_differ cX10_differ 5 (some FieldType.int) 5 119 D (zty cy) [.ref (ht 0), .int x1, .int x2] (wMo ht cy St ++ (wAI (fun _ => ht 3) cy 140 St_r ++ (wAI (fun _ => ht 9) cy 325 St_st))) (wMo ht cy r.2 ++ (wAI (fun _ => ht 3) cy 140 St_r ++ (wAI (fun _ => ht 9) cy 325 St_st))) r.1 := by
  refine zCI_of (by decide +kernel) (Nat.le_of_ble_eq_true rfl) ?_
  intro p e s m below meth c A ls C hP hD hS hl
  generalize hargs : ([.ref (ht 0), .int x1, .int x2] : List Value).toArray = args at C ⊢
  have C : zX p s m meth c cX10_differ 5 args RX10 (some FieldType.int) A D (zty cy) := C
  obtain ⟨hx, hb, hr, hts, hown, hlocks, hml, hA, hK⟩ := id C
  have hl : lv_has ls 5 [(0, .ref (ht 0)), (1, .int x1), (2, .int x2)] := hl
  generalize hH : s.heap = H at hP ⊢
  have hS : va_S A s.heap H [] := by rw [← hH]; exact hS
  generalize ([] : List Loc) = locs at hS ⊢
  refine lv_aload_n hx hb dX10_differ_0 rfl (lv_at hl 0 rfl) ?_
  obtain ⟨q3, hc, hf⟩ := zbd hf
  refine z_cVv (As := []) (rest := []) C (c_X10_anew l D cy ht St q3 hc) gV_X10_X10_anew hd_X10_anew ⟨Nat.le_of_ble_eq_true rfl, Nat.le_of_ble_eq_true rfl⟩ ⟨Nat.le_refl _, Nat.le_refl _⟩ (va_recv hK hP (ci := 6) (q0 := 0) rfl rfl) hP hD hS (w2 := wMo ht cy q3 ++ (wAI (fun _ => ht 3) cy 140 St_r ++ (wAI (fun _ => ht 9) cy 325 St_st))) [0] [1, 2] [2, 0, 1] rfl rfl rfl rfl rfl rfl (by decide) hl.1 (Nat.le_of_ble_eq_true rfl) dX10_differ_1 (fun H locs hP hD hS => ?_)
  refine lv_aload_n hx hb dX10_differ_4 rfl (lv_at hl 0 rfl) ?_
  refine lv_iload_n hx hb dX10_differ_5 rfl (lv_at hl 1 rfl) ?_
  obtain ⟨q4, hc, hf⟩ := zbd hf
  refine z_cVi (As := [.int x1]) (rest := []) C (c_X10_isSlot l D cy ht q3 St_st x1 q4 hc) gV_X10_X10_isSlot hd_X10_isSlot ⟨Nat.le_of_ble_eq_true rfl, Nat.le_of_ble_eq_true rfl⟩ ⟨Nat.le_refl _, Nat.le_refl _⟩ (va_recv hK hP (ci := 6) (q0 := 0) rfl rfl) hP hD hS (w2 := wMo ht cy q3 ++ (wAI (fun _ => ht 3) cy 140 St_r ++ (wAI (fun _ => ht 9) cy 325 St_st))) [0, 2] [1] [1, 0, 2] rfl rfl rfl rfl rfl rfl (by decide) hl.1 (Nat.le_of_ble_eq_true rfl) dX10_differ_6 (fun H locs hP hD hS => ?_)
  refine z_if_eq (tgt := 20) hx hb dX10_differ_9 (by decide) hf (fun hf => ?_) (fun hf => ?_)
  · refine lv_aload_n hx hb dX10_differ_20 rfl (lv_at hl 0 rfl) ?_
    refine lv_iconst (v := (1 : Int32)) hx hb dX10_differ_21 (by decide) ?_
    obtain ⟨q5, hc, hf⟩ := zbd hf
    refine z_cVi (As := [.int (1 : Int32)]) (rest := []) C (c_X10_no l D cy ht q3 (1 : Int32) q5 hc) gV_X10_X10_no hd_X10_no ⟨Nat.le_of_ble_eq_true rfl, Nat.le_of_ble_eq_true rfl⟩ ⟨Nat.le_refl _, Nat.le_refl _⟩ (va_recv hK hP (ci := 6) (q0 := 0) rfl rfl) hP hD hS (w2 := wMo ht cy q5.2 ++ (wAI (fun _ => ht 3) cy 140 St_r ++ (wAI (fun _ => ht 9) cy 325 St_st))) [0] [1, 2] [2, 0, 1] rfl rfl rfl rfl rfl rfl (by decide) hl.1 (Nat.le_of_ble_eq_true rfl) dX10_differ_22 (fun H locs hP hD hS => ?_)
    obtain rfl := Option.some.inj hf
    exact z_iret (v := q5.1) C hP hD hS dX10_differ_25
  · refine lv_aload_n hx hb dX10_differ_12 rfl (lv_at hl 0 rfl) ?_
    refine lv_iload_n hx hb dX10_differ_13 rfl (lv_at hl 2 rfl) ?_
    obtain ⟨q6, hc, hf⟩ := zbd hf
    refine z_cVi (As := [.int x2]) (rest := []) C (c_X10_isSlot l D cy ht q3 St_st x2 q6 hc) gV_X10_X10_isSlot hd_X10_isSlot ⟨Nat.le_of_ble_eq_true rfl, Nat.le_of_ble_eq_true rfl⟩ ⟨Nat.le_refl _, Nat.le_refl _⟩ (va_recv hK hP (ci := 6) (q0 := 0) rfl rfl) hP hD hS (w2 := wMo ht cy q3 ++ (wAI (fun _ => ht 3) cy 140 St_r ++ (wAI (fun _ => ht 9) cy 325 St_st))) [0, 2] [1] [1, 0, 2] rfl rfl rfl rfl rfl rfl (by decide) hl.1 (Nat.le_of_ble_eq_true rfl) dX10_differ_14 (fun H locs hP hD hS => ?_)
    refine z_if_ne (tgt := 26) hx hb dX10_differ_17 (by decide) hf (fun hf => ?_) (fun hf => ?_)
    · refine lv_iconst (v := (0 : Int32)) hx hb dX10_differ_26 (by decide) ?_
      refine lv_istore_n (lv' := [(3, .int (0 : Int32)), (0, .ref (ht 0)), (1, .int x1), (2, .int x2)]) hx hb dX10_differ_27 rfl hl (by decide) rfl (fun ls hl => ?_)
      refine lv_iconst (v := (0 : Int32)) hx hb dX10_differ_28 (by decide) ?_
      refine lv_istore (lv' := [(4, .int (0 : Int32)), (3, .int (0 : Int32)), (0, .ref (ht 0)), (1, .int x1), (2, .int x2)]) hx hb dX10_differ_29 hl (by decide) rfl (fun ls hl => ?_)
      exact w_X10_differ_31 l ht St_r St_st x1 x2 C FU q3 (0 : Int32) (0 : Int32) H locs ls hf hP hD hS (lv_sub hl [2, 3, 4, 1, 0] rfl)
    · refine lv_aload_n hx hb dX10_differ_20 rfl (lv_at hl 0 rfl) ?_
      refine lv_iconst (v := (1 : Int32)) hx hb dX10_differ_21 (by decide) ?_
      obtain ⟨q7, hc, hf⟩ := zbd hf
      refine z_cVi (As := [.int (1 : Int32)]) (rest := []) C (c_X10_no l D cy ht q3 (1 : Int32) q7 hc) gV_X10_X10_no hd_X10_no ⟨Nat.le_of_ble_eq_true rfl, Nat.le_of_ble_eq_true rfl⟩ ⟨Nat.le_refl _, Nat.le_refl _⟩ (va_recv hK hP (ci := 6) (q0 := 0) rfl rfl) hP hD hS (w2 := wMo ht cy q7.2 ++ (wAI (fun _ => ht 3) cy 140 St_r ++ (wAI (fun _ => ht 9) cy 325 St_st))) [0] [1, 2] [2, 0, 1] rfl rfl rfl rfl rfl rfl (by decide) hl.1 (Nat.le_of_ble_eq_true rfl) dX10_differ_22 (fun H locs hP hD hS => ?_)
      obtain rfl := Option.some.inj hf
      exact z_iret (v := q7.1) C hP hD hS dX10_differ_25
def f_X10_fresh (St : SMo) (St_r : Nat → Int32) (St_st : Nat → Int32) (x1 : Int32) : Option (Int32 × SMo) :=
  (f_X10_anew St).bind (fun q1 =>
    (f_X10_isRow q1 St_r x1).bind (fun q2 =>
      (if q2 = 0 then
        (f_X10_no q1 (1 : Int32)).bind (fun q3 =>
          some (q3.1, q3.2))
        else
        (f_X10_valueOf q1 St_st (-1 : Int32) x1).bind (fun q4 =>
          some (q4, q1)))))
set_option maxHeartbeats 4000000 in
set_option maxRecDepth 100000 in
theorem c_X10_fresh (l : Launch) (D : va_G) (cy : Nat → ClassId) (ht : Nat → Nat) (St : SMo) (St_r : Nat → Int32) (St_st : Nat → Int32) (x1 : Int32) (r : Int32 × SMo) (hf : f_X10_fresh St St_r St_st x1 = some r) : zCI l yX10_fresh cX10_fresh 2 (some FieldType.int) 6 143 D (zty cy) [.ref (ht 0), .int x1] (wMo ht cy St ++ (wAI (fun _ => ht 3) cy 140 St_r ++ (wAI (fun _ => ht 9) cy 325 St_st))) (wMo ht cy r.2 ++ (wAI (fun _ => ht 3) cy 140 St_r ++ (wAI (fun _ => ht 9) cy 325 St_st))) r.1 := by
  refine zCI_of (by decide +kernel) (Nat.le_of_ble_eq_true rfl) ?_
  intro p e s m below meth c A ls C hP hD hS hl
  generalize hargs : ([.ref (ht 0), .int x1] : List Value).toArray = args at C ⊢
  have C : zX p s m meth c cX10_fresh 2 args RX10 (some FieldType.int) A D (zty cy) := C
  obtain ⟨hx, hb, hr, hts, hown, hlocks, hml, hA, hK⟩ := id C
  have hl : lv_has ls 2 [(0, .ref (ht 0)), (1, .int x1)] := hl
  generalize hH : s.heap = H at hP ⊢
  have hS : va_S A s.heap H [] := by rw [← hH]; exact hS
  generalize ([] : List Loc) = locs at hS ⊢
  refine lv_aload_n hx hb dX10_fresh_0 rfl (lv_at hl 0 rfl) ?_
  obtain ⟨q1, hc, hf⟩ := zbd hf
  refine z_cVv (As := []) (rest := []) C (c_X10_anew l D cy ht St q1 hc) gV_X10_X10_anew hd_X10_anew ⟨Nat.le_of_ble_eq_true rfl, Nat.le_of_ble_eq_true rfl⟩ ⟨Nat.le_refl _, Nat.le_refl _⟩ (va_recv hK hP (ci := 6) (q0 := 0) rfl rfl) hP hD hS (w2 := wMo ht cy q1 ++ (wAI (fun _ => ht 3) cy 140 St_r ++ (wAI (fun _ => ht 9) cy 325 St_st))) [0] [1, 2] [2, 0, 1] rfl rfl rfl rfl rfl rfl (by decide) hl.1 (Nat.le_of_ble_eq_true rfl) dX10_fresh_1 (fun H locs hP hD hS => ?_)
  refine lv_aload_n hx hb dX10_fresh_4 rfl (lv_at hl 0 rfl) ?_
  refine lv_iload_n hx hb dX10_fresh_5 rfl (lv_at hl 1 rfl) ?_
  obtain ⟨q2, hc, hf⟩ := zbd hf
  refine z_cVi (As := [.int x1]) (rest := []) C (c_X10_isRow l D cy ht q1 St_r x1 q2 hc) gV_X10_X10_isRow hd_X10_isRow ⟨Nat.le_of_ble_eq_true rfl, Nat.le_of_ble_eq_true rfl⟩ ⟨Nat.le_refl _, Nat.le_refl _⟩ (va_recv hK hP (ci := 6) (q0 := 0) rfl rfl) hP hD hS (w2 := wMo ht cy q1 ++ (wAI (fun _ => ht 3) cy 140 St_r ++ (wAI (fun _ => ht 9) cy 325 St_st))) [0, 1] [2] [1, 2, 0] rfl rfl rfl rfl rfl rfl (by decide) hl.1 (Nat.le_of_ble_eq_true rfl) dX10_fresh_6 (fun H locs hP hD hS => ?_)
  refine z_if_eq (tgt := 25) hx hb dX10_fresh_9 (by decide) hf (fun hf => ?_) (fun hf => ?_)
  · refine lv_aload_n hx hb dX10_fresh_25 rfl (lv_at hl 0 rfl) ?_
    refine lv_iconst (v := (1 : Int32)) hx hb dX10_fresh_26 (by decide) ?_
    obtain ⟨q3, hc, hf⟩ := zbd hf
    refine z_cVi (As := [.int (1 : Int32)]) (rest := []) C (c_X10_no l D cy ht q1 (1 : Int32) q3 hc) gV_X10_X10_no hd_X10_no ⟨Nat.le_of_ble_eq_true rfl, Nat.le_of_ble_eq_true rfl⟩ ⟨Nat.le_refl _, Nat.le_refl _⟩ (va_recv hK hP (ci := 6) (q0 := 0) rfl rfl) hP hD hS (w2 := wMo ht cy q3.2 ++ (wAI (fun _ => ht 3) cy 140 St_r ++ (wAI (fun _ => ht 9) cy 325 St_st))) [0] [1, 2] [2, 0, 1] rfl rfl rfl rfl rfl rfl (by decide) hl.1 (Nat.le_of_ble_eq_true rfl) dX10_fresh_27 (fun H locs hP hD hS => ?_)
    obtain rfl := Option.some.inj hf
    exact z_iret (v := q3.1) C hP hD hS dX10_fresh_30
  · refine lv_aload_n hx hb dX10_fresh_12 rfl (lv_at hl 0 rfl) ?_
    refine lv_aload_n hx hb dX10_fresh_13 rfl (lv_at hl 0 rfl) ?_
    refine va_get (D := D) (ci := 6) (v := .ref (ht 9)) (C := RX10) (T := TX10) (N := 41) hx hb hts in_X10 hown hK hP 0 rfl rfl 21 (by decide) (hts _ q6_66) (fun _ h9 => h9) rfl dX10_fresh_14 ?_
    refine lv_iconst (v := (-1 : Int32)) hx hb dX10_fresh_17 (by decide) ?_
    refine lv_iload_n hx hb dX10_fresh_18 rfl (lv_at hl 1 rfl) ?_
    obtain ⟨q4, hc, hf⟩ := zbd hf
    refine z_cVi (As := [.ref (ht 9), .int (-1 : Int32), .int x1]) (rest := []) C (c_X10_valueOf l D cy ht (fun _ => ht 9) q1 St_st (-1 : Int32) x1 q4 hc) gV_X10_X10_valueOf hd_X10_valueOf ⟨Nat.le_of_ble_eq_true rfl, Nat.le_of_ble_eq_true rfl⟩ ⟨Nat.le_refl _, Nat.le_refl _⟩ (va_recv hK hP (ci := 6) (q0 := 0) rfl rfl) hP hD hS (w2 := wMo ht cy q1 ++ (wAI (fun _ => ht 3) cy 140 St_r ++ (wAI (fun _ => ht 9) cy 325 St_st))) [0, 2] [1] [1, 0, 2] rfl rfl rfl rfl rfl rfl (by decide) hl.1 (Nat.le_of_ble_eq_true rfl) dX10_fresh_19 (fun H locs hP hD hS => ?_)
    refine lv_goto (tgt := 30) hx hb dX10_fresh_22 (by decide) ?_
    obtain rfl := Option.some.inj hf
    exact z_iret (v := q4) C hP hD hS dX10_fresh_30
def f_X10_freshSum (St : SMo) (St_r : Nat → Int32) (St_st : Nat → Int32) : Option (Int32 × SMo) :=
  (f_X10_anew St).bind (fun q1 =>
    (if (Mo_hasStore q1) = 0 then
      (f_X10_no q1 (1 : Int32)).bind (fun q2 =>
        some (q2.1, q2.2))
      else
      (f_X10_sumOf q1 St_r St_st (-1 : Int32)).bind (fun q3 =>
        some (q3, q1))))
set_option maxHeartbeats 4000000 in
set_option maxRecDepth 100000 in
theorem c_X10_freshSum (l : Launch) (D : va_G) (cy : Nat → ClassId) (ht : Nat → Nat) (St : SMo) (St_r : Nat → Int32) (St_st : Nat → Int32) (r : Int32 × SMo) (hf : f_X10_freshSum St St_r St_st = some r) : zCI l yX10_freshSum cX10_freshSum 1 (some FieldType.int) 7 168 D (zty cy) [.ref (ht 0)] (wMo ht cy St ++ (wAI (fun _ => ht 3) cy 140 St_r ++ (wAI (fun _ => ht 9) cy 325 St_st))) (wMo ht cy r.2 ++ (wAI (fun _ => ht 3) cy 140 St_r ++ (wAI (fun _ => ht 9) cy 325 St_st))) r.1 := by
  refine zCI_of (by decide +kernel) (Nat.le_of_ble_eq_true rfl) ?_
  intro p e s m below meth c A ls C hP hD hS hl
  generalize hargs : ([.ref (ht 0)] : List Value).toArray = args at C ⊢
  have C : zX p s m meth c cX10_freshSum 1 args RX10 (some FieldType.int) A D (zty cy) := C
  obtain ⟨hx, hb, hr, hts, hown, hlocks, hml, hA, hK⟩ := id C
  have hl : lv_has ls 1 [(0, .ref (ht 0))] := hl
  generalize hH : s.heap = H at hP ⊢
  have hS : va_S A s.heap H [] := by rw [← hH]; exact hS
  generalize ([] : List Loc) = locs at hS ⊢
  refine lv_aload_n hx hb dX10_freshSum_0 rfl (lv_at hl 0 rfl) ?_
  obtain ⟨q1, hc, hf⟩ := zbd hf
  refine z_cVv (As := []) (rest := []) C (c_X10_anew l D cy ht St q1 hc) gV_X10_X10_anew hd_X10_anew ⟨Nat.le_of_ble_eq_true rfl, Nat.le_of_ble_eq_true rfl⟩ ⟨Nat.le_refl _, Nat.le_refl _⟩ (va_recv hK hP (ci := 6) (q0 := 0) rfl rfl) hP hD hS (w2 := wMo ht cy q1 ++ (wAI (fun _ => ht 3) cy 140 St_r ++ (wAI (fun _ => ht 9) cy 325 St_st))) [0] [1, 2] [2, 0, 1] rfl rfl rfl rfl rfl rfl (by decide) hl.1 (Nat.le_of_ble_eq_true rfl) dX10_freshSum_1 (fun H locs hP hD hS => ?_)
  refine lv_aload_n hx hb dX10_freshSum_4 rfl (lv_at hl 0 rfl) ?_
  refine va_get (D := D) (ci := 6) (v := .int (Mo_hasStore q1)) (C := RX10) (T := TX10) (N := 41) hx hb hts in_X10 hown hK hP 0 rfl rfl 14 (by decide) (hts _ q6_59) (fun _ h9 => h9) rfl dX10_freshSum_5 ?_
  refine z_if_eq (tgt := 23) hx hb dX10_freshSum_8 (by decide) hf (fun hf => ?_) (fun hf => ?_)
  · refine lv_aload_n hx hb dX10_freshSum_23 rfl (lv_at hl 0 rfl) ?_
    refine lv_iconst (v := (1 : Int32)) hx hb dX10_freshSum_24 (by decide) ?_
    obtain ⟨q2, hc, hf⟩ := zbd hf
    refine z_cVi (As := [.int (1 : Int32)]) (rest := []) C (c_X10_no l D cy ht q1 (1 : Int32) q2 hc) gV_X10_X10_no hd_X10_no ⟨Nat.le_of_ble_eq_true rfl, Nat.le_of_ble_eq_true rfl⟩ ⟨Nat.le_refl _, Nat.le_refl _⟩ (va_recv hK hP (ci := 6) (q0 := 0) rfl rfl) hP hD hS (w2 := wMo ht cy q2.2 ++ (wAI (fun _ => ht 3) cy 140 St_r ++ (wAI (fun _ => ht 9) cy 325 St_st))) [0] [1, 2] [2, 0, 1] rfl rfl rfl rfl rfl rfl (by decide) hl.1 (Nat.le_of_ble_eq_true rfl) dX10_freshSum_25 (fun H locs hP hD hS => ?_)
    obtain rfl := Option.some.inj hf
    exact z_iret (v := q2.1) C hP hD hS dX10_freshSum_28
  · refine lv_aload_n hx hb dX10_freshSum_11 rfl (lv_at hl 0 rfl) ?_
    refine lv_aload_n hx hb dX10_freshSum_12 rfl (lv_at hl 0 rfl) ?_
    refine va_get (D := D) (ci := 6) (v := .ref (ht 9)) (C := RX10) (T := TX10) (N := 41) hx hb hts in_X10 hown hK hP 0 rfl rfl 21 (by decide) (hts _ q6_66) (fun _ h9 => h9) rfl dX10_freshSum_13 ?_
    refine lv_iconst (v := (-1 : Int32)) hx hb dX10_freshSum_16 (by decide) ?_
    obtain ⟨q3, hc, hf⟩ := zbd hf
    refine z_cVi0 (As := [.ref (ht 9), .int (-1 : Int32)]) (rest := []) C (c_X10_sumOf l D cy ht (fun _ => ht 9) q1 St_r St_st (-1 : Int32) q3 hc) gV_X10_X10_sumOf hd_X10_sumOf ⟨Nat.le_of_ble_eq_true rfl, Nat.le_of_ble_eq_true rfl⟩ ⟨Nat.le_refl _, Nat.le_refl _⟩ (va_recv hK hP (ci := 6) (q0 := 0) rfl rfl) hP hD hS hl.1 (Nat.le_of_ble_eq_true rfl) dX10_freshSum_17 (fun H locs hP hD hS => ?_)
    have hP : va_P D vwCl (wMo ht cy q1 ++ (wAI (fun _ => ht 3) cy 140 St_r ++ (wAI (fun _ => ht 9) cy 325 St_st))) H := hP
    have hD : va_D A (wMo ht cy q1 ++ (wAI (fun _ => ht 3) cy 140 St_r ++ (wAI (fun _ => ht 9) cy 325 St_st))) := hD
    refine lv_goto (tgt := 28) hx hb dX10_freshSum_20 (by decide) ?_
    obtain rfl := Option.some.inj hf
    exact z_iret (v := q3) C hP hD hS dX10_freshSum_28
def f_X10_asOf (St : SMo) (St_r : Nat → Int32) (St_st : Nat → Int32) (x1 : Int32) (x2 : Int32) : Option (Int32 × SMo) :=
  (f_X10_anew St).bind (fun q1 =>
    (f_X10_isRow q1 St_r x2).bind (fun q2 =>
      (f_X10_isStamp q1 x1).bind (fun q3 =>
        (f_X10_why q2 q3).bind (fun q4 =>
          (if q4 = 0 then
            (f_X10_valueOf q1 St_st ((-2 : Int32) - x1) x2).bind (fun q5 =>
              some (q5, q1))
            else
            (f_X10_no q1 q4).bind (fun q6 =>
              some (q6.1, q6.2)))))))
set_option maxHeartbeats 4000000 in
set_option maxRecDepth 100000 in
theorem c_X10_asOf (l : Launch) (D : va_G) (cy : Nat → ClassId) (ht : Nat → Nat) (St : SMo) (St_r : Nat → Int32) (St_st : Nat → Int32) (x1 : Int32) (x2 : Int32) (r : Int32 × SMo) (hf : f_X10_asOf St St_r St_st x1 x2 = some r) : zCI l yX10_asOf cX10_asOf 4 (some FieldType.int) 6 143 D (zty cy) [.ref (ht 0), .int x1, .int x2] (wMo ht cy St ++ (wAI (fun _ => ht 3) cy 140 St_r ++ (wAI (fun _ => ht 9) cy 325 St_st))) (wMo ht cy r.2 ++ (wAI (fun _ => ht 3) cy 140 St_r ++ (wAI (fun _ => ht 9) cy 325 St_st))) r.1 := by
  refine zCI_of (by decide +kernel) (Nat.le_of_ble_eq_true rfl) ?_
  intro p e s m below meth c A ls C hP hD hS hl
  generalize hargs : ([.ref (ht 0), .int x1, .int x2] : List Value).toArray = args at C ⊢
  have C : zX p s m meth c cX10_asOf 4 args RX10 (some FieldType.int) A D (zty cy) := C
  obtain ⟨hx, hb, hr, hts, hown, hlocks, hml, hA, hK⟩ := id C
  have hl : lv_has ls 4 [(0, .ref (ht 0)), (1, .int x1), (2, .int x2)] := hl
  generalize hH : s.heap = H at hP ⊢
  have hS : va_S A s.heap H [] := by rw [← hH]; exact hS
  generalize ([] : List Loc) = locs at hS ⊢
  refine lv_aload_n hx hb dX10_asOf_0 rfl (lv_at hl 0 rfl) ?_
  obtain ⟨q1, hc, hf⟩ := zbd hf
  refine z_cVv (As := []) (rest := []) C (c_X10_anew l D cy ht St q1 hc) gV_X10_X10_anew hd_X10_anew ⟨Nat.le_of_ble_eq_true rfl, Nat.le_of_ble_eq_true rfl⟩ ⟨Nat.le_refl _, Nat.le_refl _⟩ (va_recv hK hP (ci := 6) (q0 := 0) rfl rfl) hP hD hS (w2 := wMo ht cy q1 ++ (wAI (fun _ => ht 3) cy 140 St_r ++ (wAI (fun _ => ht 9) cy 325 St_st))) [0] [1, 2] [2, 0, 1] rfl rfl rfl rfl rfl rfl (by decide) hl.1 (Nat.le_of_ble_eq_true rfl) dX10_asOf_1 (fun H locs hP hD hS => ?_)
  refine lv_aload_n hx hb dX10_asOf_4 rfl (lv_at hl 0 rfl) ?_
  refine lv_aload_n hx hb dX10_asOf_5 rfl (lv_at hl 0 rfl) ?_
  refine lv_iload_n hx hb dX10_asOf_6 rfl (lv_at hl 2 rfl) ?_
  obtain ⟨q2, hc, hf⟩ := zbd hf
  refine z_cVi (As := [.int x2]) (rest := [.ref (ht 0)]) C (c_X10_isRow l D cy ht q1 St_r x2 q2 hc) gV_X10_X10_isRow hd_X10_isRow ⟨Nat.le_of_ble_eq_true rfl, Nat.le_of_ble_eq_true rfl⟩ ⟨Nat.le_refl _, Nat.le_refl _⟩ (va_recv hK hP (ci := 6) (q0 := 0) rfl rfl) hP hD hS (w2 := wMo ht cy q1 ++ (wAI (fun _ => ht 3) cy 140 St_r ++ (wAI (fun _ => ht 9) cy 325 St_st))) [0, 1] [2] [1, 2, 0] rfl rfl rfl rfl rfl rfl (by decide) hl.1 (Nat.le_of_ble_eq_true rfl) dX10_asOf_7 (fun H locs hP hD hS => ?_)
  refine lv_aload_n hx hb dX10_asOf_10 rfl (lv_at hl 0 rfl) ?_
  refine lv_iload_n hx hb dX10_asOf_11 rfl (lv_at hl 1 rfl) ?_
  obtain ⟨q3, hc, hf⟩ := zbd hf
  refine z_cVi (As := [.int x1]) (rest := [.int q2, .ref (ht 0)]) C (c_X10_isStamp l D cy ht q1 x1 q3 hc) gV_X10_X10_isStamp hd_X10_isStamp ⟨Nat.le_of_ble_eq_true rfl, Nat.le_of_ble_eq_true rfl⟩ ⟨Nat.le_refl _, Nat.le_refl _⟩ (va_recv hK hP (ci := 6) (q0 := 0) rfl rfl) hP hD hS (w2 := wMo ht cy q1 ++ (wAI (fun _ => ht 3) cy 140 St_r ++ (wAI (fun _ => ht 9) cy 325 St_st))) [0] [1, 2] [2, 0, 1] rfl rfl rfl rfl rfl rfl (by decide) hl.1 (Nat.le_of_ble_eq_true rfl) dX10_asOf_12 (fun H locs hP hD hS => ?_)
  obtain ⟨q4, hc, hf⟩ := zbd hf
  refine z_cVi (As := [.int q2, .int q3]) (rest := []) C (c_X10_why l D cy ht q2 q3 q4 hc) gV_X10_X10_why hd_X10_why ⟨Nat.le_of_ble_eq_true rfl, Nat.le_of_ble_eq_true rfl⟩ ⟨Nat.le_refl _, Nat.le_refl _⟩ (va_recv hK hP (ci := 6) (q0 := 0) rfl rfl) hP hD hS (w2 := wMo ht cy q1 ++ (wAI (fun _ => ht 3) cy 140 St_r ++ (wAI (fun _ => ht 9) cy 325 St_st))) [] [0, 1, 2] [0, 1, 2] rfl rfl rfl rfl rfl rfl (by decide) hl.1 (Nat.le_of_ble_eq_true rfl) dX10_asOf_15 (fun H locs hP hD hS => ?_)
  refine lv_istore_n (lv' := [(3, .int q4), (0, .ref (ht 0)), (1, .int x1), (2, .int x2)]) hx hb dX10_asOf_18 rfl hl (by decide) rfl (fun ls hl => ?_)
  refine lv_iload_n hx hb dX10_asOf_19 rfl (lv_at hl 0 rfl) ?_
  refine z_if_eq (tgt := 31) hx hb dX10_asOf_20 (by decide) hf (fun hf => ?_) (fun hf => ?_)
  · refine lv_aload_n hx hb dX10_asOf_31 rfl (lv_at hl 1 rfl) ?_
    refine lv_aload_n hx hb dX10_asOf_32 rfl (lv_at hl 1 rfl) ?_
    refine va_get (D := D) (ci := 6) (v := .ref (ht 9)) (C := RX10) (T := TX10) (N := 41) hx hb hts in_X10 hown hK hP 0 rfl rfl 21 (by decide) (hts _ q6_66) (fun _ h9 => h9) rfl dX10_asOf_33 ?_
    refine lv_bipush (v := (-2 : Int32)) hx hb dX10_asOf_36 (by decide) ?_
    refine lv_iload_n hx hb dX10_asOf_38 rfl (lv_at hl 2 rfl) ?_
    refine lv_isub hx hb dX10_asOf_39 ?_
    refine lv_iload_n hx hb dX10_asOf_40 rfl (lv_at hl 3 rfl) ?_
    obtain ⟨q5, hc, hf⟩ := zbd hf
    refine z_cVi (As := [.ref (ht 9), .int ((-2 : Int32) - x1), .int x2]) (rest := []) C (c_X10_valueOf l D cy ht (fun _ => ht 9) q1 St_st ((-2 : Int32) - x1) x2 q5 hc) gV_X10_X10_valueOf hd_X10_valueOf ⟨Nat.le_of_ble_eq_true rfl, Nat.le_of_ble_eq_true rfl⟩ ⟨Nat.le_refl _, Nat.le_refl _⟩ (va_recv hK hP (ci := 6) (q0 := 0) rfl rfl) hP hD hS (w2 := wMo ht cy q1 ++ (wAI (fun _ => ht 3) cy 140 St_r ++ (wAI (fun _ => ht 9) cy 325 St_st))) [0, 2] [1] [1, 0, 2] rfl rfl rfl rfl rfl rfl (by decide) hl.1 (Nat.le_of_ble_eq_true rfl) dX10_asOf_41 (fun H locs hP hD hS => ?_)
    obtain rfl := Option.some.inj hf
    exact z_iret (v := q5) C hP hD hS dX10_asOf_44
  · refine lv_aload_n hx hb dX10_asOf_23 rfl (lv_at hl 1 rfl) ?_
    refine lv_iload_n hx hb dX10_asOf_24 rfl (lv_at hl 0 rfl) ?_
    obtain ⟨q6, hc, hf⟩ := zbd hf
    refine z_cVi (As := [.int q4]) (rest := []) C (c_X10_no l D cy ht q1 q4 q6 hc) gV_X10_X10_no hd_X10_no ⟨Nat.le_of_ble_eq_true rfl, Nat.le_of_ble_eq_true rfl⟩ ⟨Nat.le_refl _, Nat.le_refl _⟩ (va_recv hK hP (ci := 6) (q0 := 0) rfl rfl) hP hD hS (w2 := wMo ht cy q6.2 ++ (wAI (fun _ => ht 3) cy 140 St_r ++ (wAI (fun _ => ht 9) cy 325 St_st))) [0] [1, 2] [2, 0, 1] rfl rfl rfl rfl rfl rfl (by decide) hl.1 (Nat.le_of_ble_eq_true rfl) dX10_asOf_25 (fun H locs hP hD hS => ?_)
    refine lv_goto (tgt := 44) hx hb dX10_asOf_28 (by decide) ?_
    obtain rfl := Option.some.inj hf
    exact z_iret (v := q6.1) C hP hD hS dX10_asOf_44
def b_X10_changed_50 (St_r : Nat → Int32) (St_st : Nat → Int32) (x1 : Int32) (x2 : Int32) (k50 : SMo → Int32 → Int32 → Option (Int32 × SMo)) (St : SMo) (v4 : Int32) (v5 : Int32) : Option (Int32 × SMo) :=
  (if zib (1 : Int32) 140 then (if (St_r (1 : Int32).toNatClampNeg) ≤ v5 then
      some (v4, St)
      else
      (f_X10_valueOf St St_st ((-2 : Int32) - x1) v5).bind (fun q1 =>
        (f_X10_valueOf St St_st ((-2 : Int32) - x2) v5).bind (fun q2 =>
          (if q1 = q2 then
            (k50 St (v4 ||| (0 : Int32)) (v5 + (1 : Int32)))
            else
            (k50 St (v4 ||| ((1 : Int32) <<< (v5 &&& 31))) (v5 + (1 : Int32))))))) else none)
set_option maxHeartbeats 4000000 in
set_option maxRecDepth 100000 in
theorem w_X10_changed_50 {p : Program} {e : Env} {s : State} {m : MethodId} {below : List Frame} {meth : Method} {c : Code} {A : Nat → Prop} {D : va_G} {cy : Nat → ClassId} {args : Array Value} {r : Int32 × SMo} (l : Launch) (ht : Nat → Nat) (St_r : Nat → Int32) (St_st : Nat → Int32) (x1 : Int32) (x2 : Int32) (C : zX p s m meth c cX10_changed 6 args RX10 (some FieldType.int) A D (zty cy)) :
    ∀ (n : Nat) (St : SMo) (v4 : Int32) (v5 : Int32) (H : Heap) (locs : List Loc) (ls : Array Slot), zl3 (b_X10_changed_50 St_r St_st x1 x2) n St v4 v5 = some r → va_P D vwCl (wMo ht cy St ++ (wAI (fun _ => ht 3) cy 140 St_r ++ (wAI (fun _ => ht 9) cy 325 St_st))) H → va_D A (wMo ht cy St ++ (wAI (fun _ => ht 3) cy 140 St_r ++ (wAI (fun _ => ht 9) cy 325 St_st))) → va_S A s.heap H locs → lv_has ls 6 [(0, .ref (ht 0)), (1, .int x1), (2, .int x2), (4, .int v4), (5, .int v5)] → W p l e (zRm 6 143) s m args below meth c H locs 0 0 (MQ below (zQI D (zty cy) A (wMo ht cy r.2 ++ (wAI (fun _ => ht 3) cy 140 St_r ++ (wAI (fun _ => ht 9) cy 325 St_st))) r.1) args s 0 0 A) (F0 m 50 ls []) := by
  obtain ⟨hx, hb, hr, hts, hown, hlocks, hml, hA, hK⟩ := id C
  intro n
  induction n with
  | zero => intro St v4 v5 H locs ls hf; exact zno hf
  | succ n ih =>
    intro St v4 v5 H locs ls hf hP hD hS hl
    have hf : b_X10_changed_50 St_r St_st x1 x2 (zl3 (b_X10_changed_50 St_r St_st x1 x2) n) St v4 v5 = some r := hf
    have K50 := ih
    refine lv_iload hx hb dX10_changed_50 (lv_at hl 4 rfl) ?_
    refine lv_aload_n hx hb dX10_changed_52 rfl (lv_at hl 0 rfl) ?_
    refine va_get (D := D) (ci := 6) (v := .ref (ht 3)) (C := RX10) (T := TX10) (N := 41) hx hb hts in_X10 hown hK hP 0 rfl rfl 15 (by decide) (hts _ q6_60) (fun _ h9 => h9) rfl dX10_changed_53 ?_
    refine lv_iconst (v := (1 : Int32)) hx hb dX10_changed_56 (by decide) ?_
    refine z_iald (f := St_r) hx hb hK hP 1 0 rfl rfl dX10_changed_57 hf (fun hf => ?_)
    refine z_icmp_ge (tgt := 111) hx hb dX10_changed_58 (by decide) hf (fun hf => ?_) (fun hf => ?_)
    · refine lv_iload hx hb dX10_changed_111 (lv_at hl 3 rfl) ?_
      obtain rfl := Option.some.inj hf
      exact z_iret (v := v4) C hP hD hS dX10_changed_113
    · refine lv_iload hx hb dX10_changed_61 (lv_at hl 3 rfl) ?_
      refine lv_aload_n hx hb dX10_changed_63 rfl (lv_at hl 0 rfl) ?_
      refine lv_aload_n hx hb dX10_changed_64 rfl (lv_at hl 0 rfl) ?_
      refine va_get (D := D) (ci := 6) (v := .ref (ht 9)) (C := RX10) (T := TX10) (N := 41) hx hb hts in_X10 hown hK hP 0 rfl rfl 21 (by decide) (hts _ q6_66) (fun _ h9 => h9) rfl dX10_changed_65 ?_
      refine lv_bipush (v := (-2 : Int32)) hx hb dX10_changed_68 (by decide) ?_
      refine lv_iload_n hx hb dX10_changed_70 rfl (lv_at hl 1 rfl) ?_
      refine lv_isub hx hb dX10_changed_71 ?_
      refine lv_iload hx hb dX10_changed_72 (lv_at hl 4 rfl) ?_
      obtain ⟨q1, hc, hf⟩ := zbd hf
      refine z_cVi (As := [.ref (ht 9), .int ((-2 : Int32) - x1), .int v5]) (rest := [.int v4]) C (c_X10_valueOf l D cy ht (fun _ => ht 9) St St_st ((-2 : Int32) - x1) v5 q1 hc) gV_X10_X10_valueOf hd_X10_valueOf ⟨Nat.le_of_ble_eq_true rfl, Nat.le_of_ble_eq_true rfl⟩ ⟨Nat.le_refl _, Nat.le_refl _⟩ (va_recv hK hP (ci := 6) (q0 := 0) rfl rfl) hP hD hS (w2 := wMo ht cy St ++ (wAI (fun _ => ht 3) cy 140 St_r ++ (wAI (fun _ => ht 9) cy 325 St_st))) [0, 2] [1] [1, 0, 2] rfl rfl rfl rfl rfl rfl (by decide) hl.1 (Nat.le_of_ble_eq_true rfl) dX10_changed_74 (fun H locs hP hD hS => ?_)
      refine lv_aload_n hx hb dX10_changed_77 rfl (lv_at hl 0 rfl) ?_
      refine lv_aload_n hx hb dX10_changed_78 rfl (lv_at hl 0 rfl) ?_
      refine va_get (D := D) (ci := 6) (v := .ref (ht 9)) (C := RX10) (T := TX10) (N := 41) hx hb hts in_X10 hown hK hP 0 rfl rfl 21 (by decide) (hts _ q6_66) (fun _ h9 => h9) rfl dX10_changed_79 ?_
      refine lv_bipush (v := (-2 : Int32)) hx hb dX10_changed_82 (by decide) ?_
      refine lv_iload_n hx hb dX10_changed_84 rfl (lv_at hl 2 rfl) ?_
      refine lv_isub hx hb dX10_changed_85 ?_
      refine lv_iload hx hb dX10_changed_86 (lv_at hl 4 rfl) ?_
      obtain ⟨q2, hc, hf⟩ := zbd hf
      refine z_cVi (As := [.ref (ht 9), .int ((-2 : Int32) - x2), .int v5]) (rest := [.int q1, .int v4]) C (c_X10_valueOf l D cy ht (fun _ => ht 9) St St_st ((-2 : Int32) - x2) v5 q2 hc) gV_X10_X10_valueOf hd_X10_valueOf ⟨Nat.le_of_ble_eq_true rfl, Nat.le_of_ble_eq_true rfl⟩ ⟨Nat.le_refl _, Nat.le_refl _⟩ (va_recv hK hP (ci := 6) (q0 := 0) rfl rfl) hP hD hS (w2 := wMo ht cy St ++ (wAI (fun _ => ht 3) cy 140 St_r ++ (wAI (fun _ => ht 9) cy 325 St_st))) [0, 2] [1] [1, 0, 2] rfl rfl rfl rfl rfl rfl (by decide) hl.1 (Nat.le_of_ble_eq_true rfl) dX10_changed_88 (fun H locs hP hD hS => ?_)
      refine z_icmp_eq (tgt := 101) hx hb dX10_changed_91 (by decide) hf (fun hf => ?_) (fun hf => ?_)
      · refine lv_iconst (v := (0 : Int32)) hx hb dX10_changed_101 (by decide) ?_
        refine lv_ior hx hb dX10_changed_102 ?_
        refine lv_istore (lv' := [(4, .int (v4 ||| (0 : Int32))), (0, .ref (ht 0)), (1, .int x1), (2, .int x2), (5, .int v5)]) hx hb dX10_changed_103 hl (by decide) rfl (fun ls hl => ?_)
        refine lv_iinc (v := (v5 + (1 : Int32))) (lv' := [(5, .int (v5 + (1 : Int32))), (4, .int (v4 ||| (0 : Int32))), (0, .ref (ht 0)), (1, .int x1), (2, .int x2)]) hx hb dX10_changed_105 hl (k := 4) rfl rfl (by decide) rfl (fun ls hl => ?_)
        refine lv_goto (tgt := 50) hx hb dX10_changed_108 (by decide) ?_
        exact K50 St (v4 ||| (0 : Int32)) (v5 + (1 : Int32)) H locs ls hf hP hD hS (lv_sub hl [2, 3, 4, 1, 0] rfl)
      · refine lv_iconst (v := (1 : Int32)) hx hb dX10_changed_94 (by decide) ?_
        refine lv_iload hx hb dX10_changed_95 (lv_at hl 4 rfl) ?_
        refine lv_ishl hx hb dX10_changed_97 ?_
        refine lv_goto (tgt := 102) hx hb dX10_changed_98 (by decide) ?_
        refine lv_ior hx hb dX10_changed_102 ?_
        refine lv_istore (lv' := [(4, .int (v4 ||| ((1 : Int32) <<< (v5 &&& 31)))), (0, .ref (ht 0)), (1, .int x1), (2, .int x2), (5, .int v5)]) hx hb dX10_changed_103 hl (by decide) rfl (fun ls hl => ?_)
        refine lv_iinc (v := (v5 + (1 : Int32))) (lv' := [(5, .int (v5 + (1 : Int32))), (4, .int (v4 ||| ((1 : Int32) <<< (v5 &&& 31)))), (0, .ref (ht 0)), (1, .int x1), (2, .int x2)]) hx hb dX10_changed_105 hl (k := 4) rfl rfl (by decide) rfl (fun ls hl => ?_)
        refine lv_goto (tgt := 50) hx hb dX10_changed_108 (by decide) ?_
        exact K50 St (v4 ||| ((1 : Int32) <<< (v5 &&& 31))) (v5 + (1 : Int32)) H locs ls hf hP hD hS (lv_sub hl [2, 3, 4, 1, 0] rfl)
def b_X10_changed_30 (St_r : Nat → Int32) (St_st : Nat → Int32) (x1 : Int32) (x2 : Int32) (St : SMo) (u1 : Int32) (u2 : Int32) : Option (Int32 × SMo) :=
  (f_X10_why u1 u2).bind (fun q3 =>
    (if q3 = 0 then
      (zl3 (b_X10_changed_50 St_r St_st x1 x2) FU St (0 : Int32) (0 : Int32))
      else
      (f_X10_no St q3).bind (fun q4 =>
        some (q4.1, q4.2))))
set_option maxHeartbeats 4000000 in
set_option maxRecDepth 100000 in
theorem w_X10_changed_30 {p : Program} {e : Env} {s : State} {m : MethodId} {below : List Frame} {meth : Method} {c : Code} {A : Nat → Prop} {D : va_G} {cy : Nat → ClassId} {args : Array Value} {r : Int32 × SMo} (l : Launch) (ht : Nat → Nat) (St_r : Nat → Int32) (St_st : Nat → Int32) (x1 : Int32) (x2 : Int32) (C : zX p s m meth c cX10_changed 6 args RX10 (some FieldType.int) A D (zty cy)) :
    ∀ (St : SMo) (u1 : Int32) (u2 : Int32) (H : Heap) (locs : List Loc) (ls : Array Slot), b_X10_changed_30 St_r St_st x1 x2 St u1 u2 = some r → va_P D vwCl (wMo ht cy St ++ (wAI (fun _ => ht 3) cy 140 St_r ++ (wAI (fun _ => ht 9) cy 325 St_st))) H → va_D A (wMo ht cy St ++ (wAI (fun _ => ht 3) cy 140 St_r ++ (wAI (fun _ => ht 9) cy 325 St_st))) → va_S A s.heap H locs → lv_has ls 6 [(0, .ref (ht 0)), (1, .int x1), (2, .int x2)] → W p l e (zRm 6 143) s m args below meth c H locs 0 0 (MQ below (zQI D (zty cy) A (wMo ht cy r.2 ++ (wAI (fun _ => ht 3) cy 140 St_r ++ (wAI (fun _ => ht 9) cy 325 St_st))) r.1) args s 0 0 A) (F0 m 30 ls [.int u2, .int u1, .ref (ht 0)]) := by
  obtain ⟨hx, hb, hr, hts, hown, hlocks, hml, hA, hK⟩ := id C
  intro St u1 u2 H locs ls hf hP hD hS hl
  obtain ⟨q3, hc, hf⟩ := zbd hf
  refine z_cVi (As := [.int u1, .int u2]) (rest := []) C (c_X10_why l D cy ht u1 u2 q3 hc) gV_X10_X10_why hd_X10_why ⟨Nat.le_of_ble_eq_true rfl, Nat.le_of_ble_eq_true rfl⟩ ⟨Nat.le_refl _, Nat.le_refl _⟩ (va_recv hK hP (ci := 6) (q0 := 0) rfl rfl) hP hD hS (w2 := wMo ht cy St ++ (wAI (fun _ => ht 3) cy 140 St_r ++ (wAI (fun _ => ht 9) cy 325 St_st))) [] [0, 1, 2] [0, 1, 2] rfl rfl rfl rfl rfl rfl (by decide) hl.1 (Nat.le_of_ble_eq_true rfl) dX10_changed_30 (fun H locs hP hD hS => ?_)
  refine lv_istore_n (lv' := [(3, .int q3), (0, .ref (ht 0)), (1, .int x1), (2, .int x2)]) hx hb dX10_changed_33 rfl hl (by decide) rfl (fun ls hl => ?_)
  refine lv_iload_n hx hb dX10_changed_34 rfl (lv_at hl 0 rfl) ?_
  refine z_if_eq (tgt := 44) hx hb dX10_changed_35 (by decide) hf (fun hf => ?_) (fun hf => ?_)
  · refine lv_iconst (v := (0 : Int32)) hx hb dX10_changed_44 (by decide) ?_
    refine lv_istore (lv' := [(4, .int (0 : Int32)), (3, .int q3), (0, .ref (ht 0)), (1, .int x1), (2, .int x2)]) hx hb dX10_changed_45 hl (by decide) rfl (fun ls hl => ?_)
    refine lv_iconst (v := (0 : Int32)) hx hb dX10_changed_47 (by decide) ?_
    refine lv_istore (lv' := [(5, .int (0 : Int32)), (4, .int (0 : Int32)), (3, .int q3), (0, .ref (ht 0)), (1, .int x1), (2, .int x2)]) hx hb dX10_changed_48 hl (by decide) rfl (fun ls hl => ?_)
    exact w_X10_changed_50 l ht St_r St_st x1 x2 C FU St (0 : Int32) (0 : Int32) H locs ls hf hP hD hS (lv_sub hl [3, 4, 5, 1, 0] rfl)
  · refine lv_aload_n hx hb dX10_changed_38 rfl (lv_at hl 1 rfl) ?_
    refine lv_iload_n hx hb dX10_changed_39 rfl (lv_at hl 0 rfl) ?_
    obtain ⟨q4, hc, hf⟩ := zbd hf
    refine z_cVi (As := [.int q3]) (rest := []) C (c_X10_no l D cy ht St q3 q4 hc) gV_X10_X10_no hd_X10_no ⟨Nat.le_of_ble_eq_true rfl, Nat.le_of_ble_eq_true rfl⟩ ⟨Nat.le_refl _, Nat.le_refl _⟩ (va_recv hK hP (ci := 6) (q0 := 0) rfl rfl) hP hD hS (w2 := wMo ht cy q4.2 ++ (wAI (fun _ => ht 3) cy 140 St_r ++ (wAI (fun _ => ht 9) cy 325 St_st))) [0] [1, 2] [2, 0, 1] rfl rfl rfl rfl rfl rfl (by decide) hl.1 (Nat.le_of_ble_eq_true rfl) dX10_changed_40 (fun H locs hP hD hS => ?_)
    obtain rfl := Option.some.inj hf
    exact z_iret (v := q4.1) C hP hD hS dX10_changed_43
def f_X10_changed (St : SMo) (St_r : Nat → Int32) (St_st : Nat → Int32) (x1 : Int32) (x2 : Int32) : Option (Int32 × SMo) :=
  (f_X10_anew St).bind (fun q5 =>
    (f_X10_isStamp q5 x1).bind (fun q6 =>
      (if q6 = 0 then
        (b_X10_changed_30 St_r St_st x1 x2 q5 (Mo_hasStore q5) (0 : Int32))
        else
        (f_X10_isStamp q5 x2).bind (fun q7 =>
          (if q7 = 0 then
            (b_X10_changed_30 St_r St_st x1 x2 q5 (Mo_hasStore q5) (0 : Int32))
            else
            (b_X10_changed_30 St_r St_st x1 x2 q5 (Mo_hasStore q5) (1 : Int32)))))))
set_option maxHeartbeats 4000000 in
set_option maxRecDepth 100000 in
theorem c_X10_changed (l : Launch) (D : va_G) (cy : Nat → ClassId) (ht : Nat → Nat) (St : SMo) (St_r : Nat → Int32) (St_st : Nat → Int32) (x1 : Int32) (x2 : Int32) (r : Int32 × SMo) (hf : f_X10_changed St St_r St_st x1 x2 = some r) : zCI l yX10_changed cX10_changed 6 (some FieldType.int) 6 143 D (zty cy) [.ref (ht 0), .int x1, .int x2] (wMo ht cy St ++ (wAI (fun _ => ht 3) cy 140 St_r ++ (wAI (fun _ => ht 9) cy 325 St_st))) (wMo ht cy r.2 ++ (wAI (fun _ => ht 3) cy 140 St_r ++ (wAI (fun _ => ht 9) cy 325 St_st))) r.1 := by
  refine zCI_of (by decide +kernel) (Nat.le_of_ble_eq_true rfl) ?_
  intro p e s m below meth c A ls C hP hD hS hl
  generalize hargs : ([.ref (ht 0), .int x1, .int x2] : List Value).toArray = args at C ⊢
  have C : zX p s m meth c cX10_changed 6 args RX10 (some FieldType.int) A D (zty cy) := C
  obtain ⟨hx, hb, hr, hts, hown, hlocks, hml, hA, hK⟩ := id C
  have hl : lv_has ls 6 [(0, .ref (ht 0)), (1, .int x1), (2, .int x2)] := hl
  generalize hH : s.heap = H at hP ⊢
  have hS : va_S A s.heap H [] := by rw [← hH]; exact hS
  generalize ([] : List Loc) = locs at hS ⊢
  refine lv_aload_n hx hb dX10_changed_0 rfl (lv_at hl 0 rfl) ?_
  obtain ⟨q5, hc, hf⟩ := zbd hf
  refine z_cVv (As := []) (rest := []) C (c_X10_anew l D cy ht St q5 hc) gV_X10_X10_anew hd_X10_anew ⟨Nat.le_of_ble_eq_true rfl, Nat.le_of_ble_eq_true rfl⟩ ⟨Nat.le_refl _, Nat.le_refl _⟩ (va_recv hK hP (ci := 6) (q0 := 0) rfl rfl) hP hD hS (w2 := wMo ht cy q5 ++ (wAI (fun _ => ht 3) cy 140 St_r ++ (wAI (fun _ => ht 9) cy 325 St_st))) [0] [1, 2] [2, 0, 1] rfl rfl rfl rfl rfl rfl (by decide) hl.1 (Nat.le_of_ble_eq_true rfl) dX10_changed_1 (fun H locs hP hD hS => ?_)
  refine lv_aload_n hx hb dX10_changed_4 rfl (lv_at hl 0 rfl) ?_
  refine lv_aload_n hx hb dX10_changed_5 rfl (lv_at hl 0 rfl) ?_
  refine va_get (D := D) (ci := 6) (v := .int (Mo_hasStore q5)) (C := RX10) (T := TX10) (N := 41) hx hb hts in_X10 hown hK hP 0 rfl rfl 14 (by decide) (hts _ q6_59) (fun _ h9 => h9) rfl dX10_changed_6 ?_
  refine lv_aload_n hx hb dX10_changed_9 rfl (lv_at hl 0 rfl) ?_
  refine lv_iload_n hx hb dX10_changed_10 rfl (lv_at hl 1 rfl) ?_
  obtain ⟨q6, hc, hf⟩ := zbd hf
  refine z_cVi (As := [.int x1]) (rest := [.int (Mo_hasStore q5), .ref (ht 0)]) C (c_X10_isStamp l D cy ht q5 x1 q6 hc) gV_X10_X10_isStamp hd_X10_isStamp ⟨Nat.le_of_ble_eq_true rfl, Nat.le_of_ble_eq_true rfl⟩ ⟨Nat.le_refl _, Nat.le_refl _⟩ (va_recv hK hP (ci := 6) (q0 := 0) rfl rfl) hP hD hS (w2 := wMo ht cy q5 ++ (wAI (fun _ => ht 3) cy 140 St_r ++ (wAI (fun _ => ht 9) cy 325 St_st))) [0] [1, 2] [2, 0, 1] rfl rfl rfl rfl rfl rfl (by decide) hl.1 (Nat.le_of_ble_eq_true rfl) dX10_changed_11 (fun H locs hP hD hS => ?_)
  refine z_if_eq (tgt := 29) hx hb dX10_changed_14 (by decide) hf (fun hf => ?_) (fun hf => ?_)
  · refine lv_iconst (v := (0 : Int32)) hx hb dX10_changed_29 (by decide) ?_
    exact w_X10_changed_30 l ht St_r St_st x1 x2 C q5 (Mo_hasStore q5) (0 : Int32) H locs ls hf hP hD hS (lv_sub hl [0, 1, 2] rfl)
  · refine lv_aload_n hx hb dX10_changed_17 rfl (lv_at hl 0 rfl) ?_
    refine lv_iload_n hx hb dX10_changed_18 rfl (lv_at hl 2 rfl) ?_
    obtain ⟨q7, hc, hf⟩ := zbd hf
    refine z_cVi (As := [.int x2]) (rest := [.int (Mo_hasStore q5), .ref (ht 0)]) C (c_X10_isStamp l D cy ht q5 x2 q7 hc) gV_X10_X10_isStamp hd_X10_isStamp ⟨Nat.le_of_ble_eq_true rfl, Nat.le_of_ble_eq_true rfl⟩ ⟨Nat.le_refl _, Nat.le_refl _⟩ (va_recv hK hP (ci := 6) (q0 := 0) rfl rfl) hP hD hS (w2 := wMo ht cy q5 ++ (wAI (fun _ => ht 3) cy 140 St_r ++ (wAI (fun _ => ht 9) cy 325 St_st))) [0] [1, 2] [2, 0, 1] rfl rfl rfl rfl rfl rfl (by decide) hl.1 (Nat.le_of_ble_eq_true rfl) dX10_changed_19 (fun H locs hP hD hS => ?_)
    refine z_if_eq (tgt := 29) hx hb dX10_changed_22 (by decide) hf (fun hf => ?_) (fun hf => ?_)
    · refine lv_iconst (v := (0 : Int32)) hx hb dX10_changed_29 (by decide) ?_
      exact w_X10_changed_30 l ht St_r St_st x1 x2 C q5 (Mo_hasStore q5) (0 : Int32) H locs ls hf hP hD hS (lv_sub hl [0, 1, 2] rfl)
    · refine lv_iconst (v := (1 : Int32)) hx hb dX10_changed_25 (by decide) ?_
      refine lv_goto (tgt := 30) hx hb dX10_changed_26 (by decide) ?_
      exact w_X10_changed_30 l ht St_r St_st x1 x2 C q5 (Mo_hasStore q5) (1 : Int32) H locs ls hf hP hD hS (lv_sub hl [0, 1, 2] rfl)
def f_X10_mayOf (St : SMo) (St_st : Nat → Int32) (x1 : Int32) (x2 : Int32) : Option (Int32) :=
  (if zib (310 : Int32) 325 then (f_X10_hasBit (St_st (310 : Int32).toNatClampNeg) x1).bind (fun q1 =>
      (if q1 = 0 then
        (f_X10_heldBy St St_st x1 x2).bind (fun q2 =>
          (if q2 < 0 then
            (f_X10_wouldLose St St_st x1 x2).bind (fun q3 =>
              (if q3 = 0 then
                some (0 : Int32)
                else
                some (2 : Int32)))
            else
            some (1 : Int32)))
        else
        some (3 : Int32))) else none)
set_option maxHeartbeats 4000000 in
set_option maxRecDepth 100000 in
theorem c_X10_mayOf (l : Launch) (D : va_G) (cy : Nat → ClassId) (ht : Nat → Nat) (St : SMo) (St_st : Nat → Int32) (x1 : Int32) (x2 : Int32) (r : Int32) (hf : f_X10_mayOf St St_st x1 x2 = some r) : zCI l yX10_mayOf cX10_mayOf 3 (some FieldType.int) 6 145 D (zty cy) [.ref (ht 0), .int x1, .int x2] (wMo ht cy St ++ (wAI (fun _ => ht 9) cy 325 St_st)) (wMo ht cy St ++ (wAI (fun _ => ht 9) cy 325 St_st)) r := by
  refine zCI_of (by decide +kernel) (Nat.le_of_ble_eq_true rfl) ?_
  intro p e s m below meth c A ls C hP hD hS hl
  generalize hargs : ([.ref (ht 0), .int x1, .int x2] : List Value).toArray = args at C ⊢
  have C : zX p s m meth c cX10_mayOf 3 args RX10 (some FieldType.int) A D (zty cy) := C
  obtain ⟨hx, hb, hr, hts, hown, hlocks, hml, hA, hK⟩ := id C
  have hl : lv_has ls 3 [(0, .ref (ht 0)), (1, .int x1), (2, .int x2)] := hl
  generalize hH : s.heap = H at hP ⊢
  have hS : va_S A s.heap H [] := by rw [← hH]; exact hS
  generalize ([] : List Loc) = locs at hS ⊢
  refine lv_aload_n hx hb dX10_mayOf_0 rfl (lv_at hl 0 rfl) ?_
  refine va_get (D := D) (ci := 6) (v := .ref (ht 9)) (C := RX10) (T := TX10) (N := 41) hx hb hts in_X10 hown hK hP 0 rfl rfl 21 (by decide) (hts _ q6_66) (fun _ h9 => h9) rfl dX10_mayOf_1 ?_
  refine lv_sipush (v := (310 : Int32)) hx hb dX10_mayOf_4 (by decide) ?_
  refine z_iald (f := St_st) hx hb hK hP 1 0 rfl rfl dX10_mayOf_7 hf (fun hf => ?_)
  refine lv_iload_n hx hb dX10_mayOf_8 rfl (lv_at hl 1 rfl) ?_
  obtain ⟨q1, hc, hf⟩ := zbd hf
  refine z_cSiE (As := [.int (St_st (310 : Int32).toNatClampNeg), .int x1]) (rest := []) C (c_X10_hasBit l D cy (St_st (310 : Int32).toNatClampNeg) x1 q1 hc) gS_X10_X10_hasBit hd_X10_hasBit ⟨Nat.le_of_ble_eq_true rfl, Nat.le_of_ble_eq_true rfl⟩ ⟨Nat.le_refl _, Nat.le_refl _⟩ hP hD hS hl.1 (Nat.le_of_ble_eq_true rfl) dX10_mayOf_9 (fun H locs hP hD hS => ?_)
  refine z_if_eq (tgt := 17) hx hb dX10_mayOf_12 (by decide) hf (fun hf => ?_) (fun hf => ?_)
  · refine lv_aload_n hx hb dX10_mayOf_17 rfl (lv_at hl 0 rfl) ?_
    refine lv_aload_n hx hb dX10_mayOf_18 rfl (lv_at hl 0 rfl) ?_
    refine va_get (D := D) (ci := 6) (v := .ref (ht 9)) (C := RX10) (T := TX10) (N := 41) hx hb hts in_X10 hown hK hP 0 rfl rfl 21 (by decide) (hts _ q6_66) (fun _ h9 => h9) rfl dX10_mayOf_19 ?_
    refine lv_iload_n hx hb dX10_mayOf_22 rfl (lv_at hl 1 rfl) ?_
    refine lv_iload_n hx hb dX10_mayOf_23 rfl (lv_at hl 2 rfl) ?_
    obtain ⟨q2, hc, hf⟩ := zbd hf
    refine z_cVi0 (As := [.ref (ht 9), .int x1, .int x2]) (rest := []) C (c_X10_heldBy l D cy ht (fun _ => ht 9) St St_st x1 x2 q2 hc) gV_X10_X10_heldBy hd_X10_heldBy ⟨Nat.le_of_ble_eq_true rfl, Nat.le_of_ble_eq_true rfl⟩ ⟨Nat.le_refl _, Nat.le_refl _⟩ (va_recv hK hP (ci := 6) (q0 := 0) rfl rfl) hP hD hS hl.1 (Nat.le_of_ble_eq_true rfl) dX10_mayOf_24 (fun H locs hP hD hS => ?_)
    have hP : va_P D vwCl (wMo ht cy St ++ (wAI (fun _ => ht 9) cy 325 St_st)) H := hP
    have hD : va_D A (wMo ht cy St ++ (wAI (fun _ => ht 9) cy 325 St_st)) := hD
    refine z_if_lt (tgt := 34) hx hb dX10_mayOf_27 (by decide) hf (fun hf => ?_) (fun hf => ?_)
    · refine lv_aload_n hx hb dX10_mayOf_34 rfl (lv_at hl 0 rfl) ?_
      refine lv_aload_n hx hb dX10_mayOf_35 rfl (lv_at hl 0 rfl) ?_
      refine va_get (D := D) (ci := 6) (v := .ref (ht 9)) (C := RX10) (T := TX10) (N := 41) hx hb hts in_X10 hown hK hP 0 rfl rfl 21 (by decide) (hts _ q6_66) (fun _ h9 => h9) rfl dX10_mayOf_36 ?_
      refine lv_iload_n hx hb dX10_mayOf_39 rfl (lv_at hl 1 rfl) ?_
      refine lv_iload_n hx hb dX10_mayOf_40 rfl (lv_at hl 2 rfl) ?_
      obtain ⟨q3, hc, hf⟩ := zbd hf
      refine z_cVi0 (As := [.ref (ht 9), .int x1, .int x2]) (rest := []) C (c_X10_wouldLose l D cy ht (fun _ => ht 9) St St_st x1 x2 q3 hc) gV_X10_X10_wouldLose hd_X10_wouldLose ⟨Nat.le_of_ble_eq_true rfl, Nat.le_of_ble_eq_true rfl⟩ ⟨Nat.le_refl _, Nat.le_refl _⟩ (va_recv hK hP (ci := 6) (q0 := 0) rfl rfl) hP hD hS hl.1 (Nat.le_of_ble_eq_true rfl) dX10_mayOf_41 (fun H locs hP hD hS => ?_)
      have hP : va_P D vwCl (wMo ht cy St ++ (wAI (fun _ => ht 9) cy 325 St_st)) H := hP
      have hD : va_D A (wMo ht cy St ++ (wAI (fun _ => ht 9) cy 325 St_st)) := hD
      refine z_if_eq (tgt := 51) hx hb dX10_mayOf_44 (by decide) hf (fun hf => ?_) (fun hf => ?_)
      · refine lv_iconst (v := (0 : Int32)) hx hb dX10_mayOf_51 (by decide) ?_
        obtain rfl := Option.some.inj hf
        exact z_iret (v := (0 : Int32)) C hP hD hS dX10_mayOf_52
      · refine lv_iconst (v := (2 : Int32)) hx hb dX10_mayOf_47 (by decide) ?_
        refine lv_goto (tgt := 52) hx hb dX10_mayOf_48 (by decide) ?_
        obtain rfl := Option.some.inj hf
        exact z_iret (v := (2 : Int32)) C hP hD hS dX10_mayOf_52
    · refine lv_iconst (v := (1 : Int32)) hx hb dX10_mayOf_30 (by decide) ?_
      refine lv_goto (tgt := 52) hx hb dX10_mayOf_31 (by decide) ?_
      obtain rfl := Option.some.inj hf
      exact z_iret (v := (1 : Int32)) C hP hD hS dX10_mayOf_52
  · refine lv_iconst (v := (3 : Int32)) hx hb dX10_mayOf_15 (by decide) ?_
    obtain rfl := Option.some.inj hf
    exact z_iret (v := (3 : Int32)) C hP hD hS dX10_mayOf_16
def f_X10_may (St : SMo) (St_r : Nat → Int32) (St_st : Nat → Int32) (x1 : Int32) (x2 : Int32) : Option (Int32 × SMo) :=
  (f_X10_anew St).bind (fun q1 =>
    (f_X10_isSlot q1 St_st x1).bind (fun q2 =>
      (if q2 = 0 then
        (f_X10_no q1 (1 : Int32)).bind (fun q3 =>
          some (q3.1, q3.2))
        else
        (f_X10_isRow q1 St_r x2).bind (fun q4 =>
          (if q4 = 0 then
            (f_X10_no q1 (1 : Int32)).bind (fun q5 =>
              some (q5.1, q5.2))
            else
            (f_X10_mayOf q1 St_st x1 x2).bind (fun q6 =>
              some (q6, q1)))))))
set_option maxHeartbeats 4000000 in
set_option maxRecDepth 100000 in
theorem c_X10_may (l : Launch) (D : va_G) (cy : Nat → ClassId) (ht : Nat → Nat) (St : SMo) (St_r : Nat → Int32) (St_st : Nat → Int32) (x1 : Int32) (x2 : Int32) (r : Int32 × SMo) (hf : f_X10_may St St_r St_st x1 x2 = some r) : zCI l yX10_may cX10_may 3 (some FieldType.int) 7 167 D (zty cy) [.ref (ht 0), .int x1, .int x2] (wMo ht cy St ++ (wAI (fun _ => ht 3) cy 140 St_r ++ (wAI (fun _ => ht 9) cy 325 St_st))) (wMo ht cy r.2 ++ (wAI (fun _ => ht 3) cy 140 St_r ++ (wAI (fun _ => ht 9) cy 325 St_st))) r.1 := by
  refine zCI_of (by decide +kernel) (Nat.le_of_ble_eq_true rfl) ?_
  intro p e s m below meth c A ls C hP hD hS hl
  generalize hargs : ([.ref (ht 0), .int x1, .int x2] : List Value).toArray = args at C ⊢
  have C : zX p s m meth c cX10_may 3 args RX10 (some FieldType.int) A D (zty cy) := C
  obtain ⟨hx, hb, hr, hts, hown, hlocks, hml, hA, hK⟩ := id C
  have hl : lv_has ls 3 [(0, .ref (ht 0)), (1, .int x1), (2, .int x2)] := hl
  generalize hH : s.heap = H at hP ⊢
  have hS : va_S A s.heap H [] := by rw [← hH]; exact hS
  generalize ([] : List Loc) = locs at hS ⊢
  refine lv_aload_n hx hb dX10_may_0 rfl (lv_at hl 0 rfl) ?_
  obtain ⟨q1, hc, hf⟩ := zbd hf
  refine z_cVv (As := []) (rest := []) C (c_X10_anew l D cy ht St q1 hc) gV_X10_X10_anew hd_X10_anew ⟨Nat.le_of_ble_eq_true rfl, Nat.le_of_ble_eq_true rfl⟩ ⟨Nat.le_refl _, Nat.le_refl _⟩ (va_recv hK hP (ci := 6) (q0 := 0) rfl rfl) hP hD hS (w2 := wMo ht cy q1 ++ (wAI (fun _ => ht 3) cy 140 St_r ++ (wAI (fun _ => ht 9) cy 325 St_st))) [0] [1, 2] [2, 0, 1] rfl rfl rfl rfl rfl rfl (by decide) hl.1 (Nat.le_of_ble_eq_true rfl) dX10_may_1 (fun H locs hP hD hS => ?_)
  refine lv_aload_n hx hb dX10_may_4 rfl (lv_at hl 0 rfl) ?_
  refine lv_iload_n hx hb dX10_may_5 rfl (lv_at hl 1 rfl) ?_
  obtain ⟨q2, hc, hf⟩ := zbd hf
  refine z_cVi (As := [.int x1]) (rest := []) C (c_X10_isSlot l D cy ht q1 St_st x1 q2 hc) gV_X10_X10_isSlot hd_X10_isSlot ⟨Nat.le_of_ble_eq_true rfl, Nat.le_of_ble_eq_true rfl⟩ ⟨Nat.le_refl _, Nat.le_refl _⟩ (va_recv hK hP (ci := 6) (q0 := 0) rfl rfl) hP hD hS (w2 := wMo ht cy q1 ++ (wAI (fun _ => ht 3) cy 140 St_r ++ (wAI (fun _ => ht 9) cy 325 St_st))) [0, 2] [1] [1, 0, 2] rfl rfl rfl rfl rfl rfl (by decide) hl.1 (Nat.le_of_ble_eq_true rfl) dX10_may_6 (fun H locs hP hD hS => ?_)
  refine z_if_eq (tgt := 29) hx hb dX10_may_9 (by decide) hf (fun hf => ?_) (fun hf => ?_)
  · refine lv_aload_n hx hb dX10_may_29 rfl (lv_at hl 0 rfl) ?_
    refine lv_iconst (v := (1 : Int32)) hx hb dX10_may_30 (by decide) ?_
    obtain ⟨q3, hc, hf⟩ := zbd hf
    refine z_cVi (As := [.int (1 : Int32)]) (rest := []) C (c_X10_no l D cy ht q1 (1 : Int32) q3 hc) gV_X10_X10_no hd_X10_no ⟨Nat.le_of_ble_eq_true rfl, Nat.le_of_ble_eq_true rfl⟩ ⟨Nat.le_refl _, Nat.le_refl _⟩ (va_recv hK hP (ci := 6) (q0 := 0) rfl rfl) hP hD hS (w2 := wMo ht cy q3.2 ++ (wAI (fun _ => ht 3) cy 140 St_r ++ (wAI (fun _ => ht 9) cy 325 St_st))) [0] [1, 2] [2, 0, 1] rfl rfl rfl rfl rfl rfl (by decide) hl.1 (Nat.le_of_ble_eq_true rfl) dX10_may_31 (fun H locs hP hD hS => ?_)
    obtain rfl := Option.some.inj hf
    exact z_iret (v := q3.1) C hP hD hS dX10_may_34
  · refine lv_aload_n hx hb dX10_may_12 rfl (lv_at hl 0 rfl) ?_
    refine lv_iload_n hx hb dX10_may_13 rfl (lv_at hl 2 rfl) ?_
    obtain ⟨q4, hc, hf⟩ := zbd hf
    refine z_cVi (As := [.int x2]) (rest := []) C (c_X10_isRow l D cy ht q1 St_r x2 q4 hc) gV_X10_X10_isRow hd_X10_isRow ⟨Nat.le_of_ble_eq_true rfl, Nat.le_of_ble_eq_true rfl⟩ ⟨Nat.le_refl _, Nat.le_refl _⟩ (va_recv hK hP (ci := 6) (q0 := 0) rfl rfl) hP hD hS (w2 := wMo ht cy q1 ++ (wAI (fun _ => ht 3) cy 140 St_r ++ (wAI (fun _ => ht 9) cy 325 St_st))) [0, 1] [2] [1, 2, 0] rfl rfl rfl rfl rfl rfl (by decide) hl.1 (Nat.le_of_ble_eq_true rfl) dX10_may_14 (fun H locs hP hD hS => ?_)
    refine z_if_eq (tgt := 29) hx hb dX10_may_17 (by decide) hf (fun hf => ?_) (fun hf => ?_)
    · refine lv_aload_n hx hb dX10_may_29 rfl (lv_at hl 0 rfl) ?_
      refine lv_iconst (v := (1 : Int32)) hx hb dX10_may_30 (by decide) ?_
      obtain ⟨q5, hc, hf⟩ := zbd hf
      refine z_cVi (As := [.int (1 : Int32)]) (rest := []) C (c_X10_no l D cy ht q1 (1 : Int32) q5 hc) gV_X10_X10_no hd_X10_no ⟨Nat.le_of_ble_eq_true rfl, Nat.le_of_ble_eq_true rfl⟩ ⟨Nat.le_refl _, Nat.le_refl _⟩ (va_recv hK hP (ci := 6) (q0 := 0) rfl rfl) hP hD hS (w2 := wMo ht cy q5.2 ++ (wAI (fun _ => ht 3) cy 140 St_r ++ (wAI (fun _ => ht 9) cy 325 St_st))) [0] [1, 2] [2, 0, 1] rfl rfl rfl rfl rfl rfl (by decide) hl.1 (Nat.le_of_ble_eq_true rfl) dX10_may_31 (fun H locs hP hD hS => ?_)
      obtain rfl := Option.some.inj hf
      exact z_iret (v := q5.1) C hP hD hS dX10_may_34
    · refine lv_aload_n hx hb dX10_may_20 rfl (lv_at hl 0 rfl) ?_
      refine lv_iload_n hx hb dX10_may_21 rfl (lv_at hl 1 rfl) ?_
      refine lv_iload_n hx hb dX10_may_22 rfl (lv_at hl 2 rfl) ?_
      obtain ⟨q6, hc, hf⟩ := zbd hf
      refine z_cVi (As := [.int x1, .int x2]) (rest := []) C (c_X10_mayOf l D cy ht q1 St_st x1 x2 q6 hc) gV_X10_X10_mayOf hd_X10_mayOf ⟨Nat.le_of_ble_eq_true rfl, Nat.le_of_ble_eq_true rfl⟩ ⟨Nat.le_refl _, Nat.le_refl _⟩ (va_recv hK hP (ci := 6) (q0 := 0) rfl rfl) hP hD hS (w2 := wMo ht cy q1 ++ (wAI (fun _ => ht 3) cy 140 St_r ++ (wAI (fun _ => ht 9) cy 325 St_st))) [0, 2] [1] [1, 0, 2] rfl rfl rfl rfl rfl rfl (by decide) hl.1 (Nat.le_of_ble_eq_true rfl) dX10_may_23 (fun H locs hP hD hS => ?_)
      refine lv_goto (tgt := 34) hx hb dX10_may_26 (by decide) ?_
      obtain rfl := Option.some.inj hf
      exact z_iret (v := q6) C hP hD hS dX10_may_34
def f_X10_waitsFor (St : SMo) (St_r : Nat → Int32) (St_st : Nat → Int32) (x1 : Int32) (x2 : Int32) : Option (Int32 × SMo) :=
  (f_X10_anew St).bind (fun q1 =>
    (f_X10_isSlot q1 St_st x1).bind (fun q2 =>
      (if q2 = 0 then
        (f_X10_no q1 (1 : Int32)).bind (fun q3 =>
          some (q3.1, q3.2))
        else
        (f_X10_isRow q1 St_r x2).bind (fun q4 =>
          (if q4 = 0 then
            (f_X10_no q1 (1 : Int32)).bind (fun q7 =>
              some (q7.1, q7.2))
            else
            (if zib (310 : Int32) 325 then (f_X10_hasBit (St_st (310 : Int32).toNatClampNeg) x1).bind (fun q5 =>
                (if q5 = 0 then
                  (f_X10_heldBy q1 St_st x1 x2).bind (fun q6 =>
                    some (q6, q1))
                  else
                  some ((-2 : Int32), q1))) else none))))))
set_option maxHeartbeats 4000000 in
set_option maxRecDepth 100000 in
theorem c_X10_waitsFor (l : Launch) (D : va_G) (cy : Nat → ClassId) (ht : Nat → Nat) (St : SMo) (St_r : Nat → Int32) (St_st : Nat → Int32) (x1 : Int32) (x2 : Int32) (r : Int32 × SMo) (hf : f_X10_waitsFor St St_r St_st x1 x2 = some r) : zCI l yX10_waitsFor cX10_waitsFor 3 (some FieldType.int) 6 145 D (zty cy) [.ref (ht 0), .int x1, .int x2] (wMo ht cy St ++ (wAI (fun _ => ht 3) cy 140 St_r ++ (wAI (fun _ => ht 9) cy 325 St_st))) (wMo ht cy r.2 ++ (wAI (fun _ => ht 3) cy 140 St_r ++ (wAI (fun _ => ht 9) cy 325 St_st))) r.1 := by
  refine zCI_of (by decide +kernel) (Nat.le_of_ble_eq_true rfl) ?_
  intro p e s m below meth c A ls C hP hD hS hl
  generalize hargs : ([.ref (ht 0), .int x1, .int x2] : List Value).toArray = args at C ⊢
  have C : zX p s m meth c cX10_waitsFor 3 args RX10 (some FieldType.int) A D (zty cy) := C
  obtain ⟨hx, hb, hr, hts, hown, hlocks, hml, hA, hK⟩ := id C
  have hl : lv_has ls 3 [(0, .ref (ht 0)), (1, .int x1), (2, .int x2)] := hl
  generalize hH : s.heap = H at hP ⊢
  have hS : va_S A s.heap H [] := by rw [← hH]; exact hS
  generalize ([] : List Loc) = locs at hS ⊢
  refine lv_aload_n hx hb dX10_waitsFor_0 rfl (lv_at hl 0 rfl) ?_
  obtain ⟨q1, hc, hf⟩ := zbd hf
  refine z_cVv (As := []) (rest := []) C (c_X10_anew l D cy ht St q1 hc) gV_X10_X10_anew hd_X10_anew ⟨Nat.le_of_ble_eq_true rfl, Nat.le_of_ble_eq_true rfl⟩ ⟨Nat.le_refl _, Nat.le_refl _⟩ (va_recv hK hP (ci := 6) (q0 := 0) rfl rfl) hP hD hS (w2 := wMo ht cy q1 ++ (wAI (fun _ => ht 3) cy 140 St_r ++ (wAI (fun _ => ht 9) cy 325 St_st))) [0] [1, 2] [2, 0, 1] rfl rfl rfl rfl rfl rfl (by decide) hl.1 (Nat.le_of_ble_eq_true rfl) dX10_waitsFor_1 (fun H locs hP hD hS => ?_)
  refine lv_aload_n hx hb dX10_waitsFor_4 rfl (lv_at hl 0 rfl) ?_
  refine lv_iload_n hx hb dX10_waitsFor_5 rfl (lv_at hl 1 rfl) ?_
  obtain ⟨q2, hc, hf⟩ := zbd hf
  refine z_cVi (As := [.int x1]) (rest := []) C (c_X10_isSlot l D cy ht q1 St_st x1 q2 hc) gV_X10_X10_isSlot hd_X10_isSlot ⟨Nat.le_of_ble_eq_true rfl, Nat.le_of_ble_eq_true rfl⟩ ⟨Nat.le_refl _, Nat.le_refl _⟩ (va_recv hK hP (ci := 6) (q0 := 0) rfl rfl) hP hD hS (w2 := wMo ht cy q1 ++ (wAI (fun _ => ht 3) cy 140 St_r ++ (wAI (fun _ => ht 9) cy 325 St_st))) [0, 2] [1] [1, 0, 2] rfl rfl rfl rfl rfl rfl (by decide) hl.1 (Nat.le_of_ble_eq_true rfl) dX10_waitsFor_6 (fun H locs hP hD hS => ?_)
  refine z_if_eq (tgt := 20) hx hb dX10_waitsFor_9 (by decide) hf (fun hf => ?_) (fun hf => ?_)
  · refine lv_aload_n hx hb dX10_waitsFor_20 rfl (lv_at hl 0 rfl) ?_
    refine lv_iconst (v := (1 : Int32)) hx hb dX10_waitsFor_21 (by decide) ?_
    obtain ⟨q3, hc, hf⟩ := zbd hf
    refine z_cVi (As := [.int (1 : Int32)]) (rest := []) C (c_X10_no l D cy ht q1 (1 : Int32) q3 hc) gV_X10_X10_no hd_X10_no ⟨Nat.le_of_ble_eq_true rfl, Nat.le_of_ble_eq_true rfl⟩ ⟨Nat.le_refl _, Nat.le_refl _⟩ (va_recv hK hP (ci := 6) (q0 := 0) rfl rfl) hP hD hS (w2 := wMo ht cy q3.2 ++ (wAI (fun _ => ht 3) cy 140 St_r ++ (wAI (fun _ => ht 9) cy 325 St_st))) [0] [1, 2] [2, 0, 1] rfl rfl rfl rfl rfl rfl (by decide) hl.1 (Nat.le_of_ble_eq_true rfl) dX10_waitsFor_22 (fun H locs hP hD hS => ?_)
    obtain rfl := Option.some.inj hf
    exact z_iret (v := q3.1) C hP hD hS dX10_waitsFor_25
  · refine lv_aload_n hx hb dX10_waitsFor_12 rfl (lv_at hl 0 rfl) ?_
    refine lv_iload_n hx hb dX10_waitsFor_13 rfl (lv_at hl 2 rfl) ?_
    obtain ⟨q4, hc, hf⟩ := zbd hf
    refine z_cVi (As := [.int x2]) (rest := []) C (c_X10_isRow l D cy ht q1 St_r x2 q4 hc) gV_X10_X10_isRow hd_X10_isRow ⟨Nat.le_of_ble_eq_true rfl, Nat.le_of_ble_eq_true rfl⟩ ⟨Nat.le_refl _, Nat.le_refl _⟩ (va_recv hK hP (ci := 6) (q0 := 0) rfl rfl) hP hD hS (w2 := wMo ht cy q1 ++ (wAI (fun _ => ht 3) cy 140 St_r ++ (wAI (fun _ => ht 9) cy 325 St_st))) [0, 1] [2] [1, 2, 0] rfl rfl rfl rfl rfl rfl (by decide) hl.1 (Nat.le_of_ble_eq_true rfl) dX10_waitsFor_14 (fun H locs hP hD hS => ?_)
    refine z_if_ne (tgt := 26) hx hb dX10_waitsFor_17 (by decide) hf (fun hf => ?_) (fun hf => ?_)
    · refine lv_aload_n hx hb dX10_waitsFor_26 rfl (lv_at hl 0 rfl) ?_
      refine va_get (D := D) (ci := 6) (v := .ref (ht 9)) (C := RX10) (T := TX10) (N := 41) hx hb hts in_X10 hown hK hP 0 rfl rfl 21 (by decide) (hts _ q6_66) (fun _ h9 => h9) rfl dX10_waitsFor_27 ?_
      refine lv_sipush (v := (310 : Int32)) hx hb dX10_waitsFor_30 (by decide) ?_
      refine z_iald (f := St_st) hx hb hK hP 2 0 rfl rfl dX10_waitsFor_33 hf (fun hf => ?_)
      refine lv_iload_n hx hb dX10_waitsFor_34 rfl (lv_at hl 1 rfl) ?_
      obtain ⟨q5, hc, hf⟩ := zbd hf
      refine z_cSiE (As := [.int (St_st (310 : Int32).toNatClampNeg), .int x1]) (rest := []) C (c_X10_hasBit l D cy (St_st (310 : Int32).toNatClampNeg) x1 q5 hc) gS_X10_X10_hasBit hd_X10_hasBit ⟨Nat.le_of_ble_eq_true rfl, Nat.le_of_ble_eq_true rfl⟩ ⟨Nat.le_refl _, Nat.le_refl _⟩ hP hD hS hl.1 (Nat.le_of_ble_eq_true rfl) dX10_waitsFor_35 (fun H locs hP hD hS => ?_)
      refine z_if_eq (tgt := 46) hx hb dX10_waitsFor_38 (by decide) hf (fun hf => ?_) (fun hf => ?_)
      · refine lv_aload_n hx hb dX10_waitsFor_46 rfl (lv_at hl 0 rfl) ?_
        refine lv_aload_n hx hb dX10_waitsFor_47 rfl (lv_at hl 0 rfl) ?_
        refine va_get (D := D) (ci := 6) (v := .ref (ht 9)) (C := RX10) (T := TX10) (N := 41) hx hb hts in_X10 hown hK hP 0 rfl rfl 21 (by decide) (hts _ q6_66) (fun _ h9 => h9) rfl dX10_waitsFor_48 ?_
        refine lv_iload_n hx hb dX10_waitsFor_51 rfl (lv_at hl 1 rfl) ?_
        refine lv_iload_n hx hb dX10_waitsFor_52 rfl (lv_at hl 2 rfl) ?_
        obtain ⟨q6, hc, hf⟩ := zbd hf
        refine z_cVi (As := [.ref (ht 9), .int x1, .int x2]) (rest := []) C (c_X10_heldBy l D cy ht (fun _ => ht 9) q1 St_st x1 x2 q6 hc) gV_X10_X10_heldBy hd_X10_heldBy ⟨Nat.le_of_ble_eq_true rfl, Nat.le_of_ble_eq_true rfl⟩ ⟨Nat.le_refl _, Nat.le_refl _⟩ (va_recv hK hP (ci := 6) (q0 := 0) rfl rfl) hP hD hS (w2 := wMo ht cy q1 ++ (wAI (fun _ => ht 3) cy 140 St_r ++ (wAI (fun _ => ht 9) cy 325 St_st))) [0, 2] [1] [1, 0, 2] rfl rfl rfl rfl rfl rfl (by decide) hl.1 (Nat.le_of_ble_eq_true rfl) dX10_waitsFor_53 (fun H locs hP hD hS => ?_)
        obtain rfl := Option.some.inj hf
        exact z_iret (v := q6) C hP hD hS dX10_waitsFor_56
      · refine lv_bipush (v := (-2 : Int32)) hx hb dX10_waitsFor_41 (by decide) ?_
        refine lv_goto (tgt := 56) hx hb dX10_waitsFor_43 (by decide) ?_
        obtain rfl := Option.some.inj hf
        exact z_iret (v := (-2 : Int32)) C hP hD hS dX10_waitsFor_56
    · refine lv_aload_n hx hb dX10_waitsFor_20 rfl (lv_at hl 0 rfl) ?_
      refine lv_iconst (v := (1 : Int32)) hx hb dX10_waitsFor_21 (by decide) ?_
      obtain ⟨q7, hc, hf⟩ := zbd hf
      refine z_cVi (As := [.int (1 : Int32)]) (rest := []) C (c_X10_no l D cy ht q1 (1 : Int32) q7 hc) gV_X10_X10_no hd_X10_no ⟨Nat.le_of_ble_eq_true rfl, Nat.le_of_ble_eq_true rfl⟩ ⟨Nat.le_refl _, Nat.le_refl _⟩ (va_recv hK hP (ci := 6) (q0 := 0) rfl rfl) hP hD hS (w2 := wMo ht cy q7.2 ++ (wAI (fun _ => ht 3) cy 140 St_r ++ (wAI (fun _ => ht 9) cy 325 St_st))) [0] [1, 2] [2, 0, 1] rfl rfl rfl rfl rfl rfl (by decide) hl.1 (Nat.le_of_ble_eq_true rfl) dX10_waitsFor_22 (fun H locs hP hD hS => ?_)
      obtain rfl := Option.some.inj hf
      exact z_iret (v := q7.1) C hP hD hS dX10_waitsFor_25
def b_X10_rowsBy_5 (St : SMo) (St_r : Nat → Int32) (St_st : Nat → Int32) (x1 : Int32) (x2 : Int32) (k5 : Int32 → Int32 → Option (Int32)) (v3 : Int32) (v4 : Int32) : Option (Int32) :=
  (if zib (1 : Int32) 140 then (if (St_r (1 : Int32).toNatClampNeg) ≤ v4 then
      some v3
      else
      (f_X10_mayOf St St_st x1 v4).bind (fun q1 =>
        (if q1 = x2 then
          (k5 (v3 ||| ((1 : Int32) <<< (v4 &&& 31))) (v4 + (1 : Int32)))
          else
          (k5 (v3 ||| (0 : Int32)) (v4 + (1 : Int32)))))) else none)
set_option maxHeartbeats 4000000 in
set_option maxRecDepth 100000 in
theorem w_X10_rowsBy_5 {p : Program} {e : Env} {s : State} {m : MethodId} {below : List Frame} {meth : Method} {c : Code} {A : Nat → Prop} {D : va_G} {cy : Nat → ClassId} {args : Array Value} {r : Int32} (l : Launch) (ht : Nat → Nat) (St : SMo) (St_r : Nat → Int32) (St_st : Nat → Int32) (x1 : Int32) (x2 : Int32) (C : zX p s m meth c cX10_rowsBy 5 args RX10 (some FieldType.int) A D (zty cy)) :
    ∀ (n : Nat) (v3 : Int32) (v4 : Int32) (H : Heap) (locs : List Loc) (ls : Array Slot), zl2 (b_X10_rowsBy_5 St St_r St_st x1 x2) n v3 v4 = some r → va_P D vwCl (wMo ht cy St ++ (wAI (fun _ => ht 3) cy 140 St_r ++ (wAI (fun _ => ht 9) cy 325 St_st))) H → va_D A (wMo ht cy St ++ (wAI (fun _ => ht 3) cy 140 St_r ++ (wAI (fun _ => ht 9) cy 325 St_st))) → va_S A s.heap H locs → lv_has ls 5 [(0, .ref (ht 0)), (1, .int x1), (2, .int x2), (3, .int v3), (4, .int v4)] → W p l e (zRm 7 167) s m args below meth c H locs 0 0 (MQ below (zQI D (zty cy) A (wMo ht cy St ++ (wAI (fun _ => ht 3) cy 140 St_r ++ (wAI (fun _ => ht 9) cy 325 St_st))) r) args s 0 0 A) (F0 m 5 ls []) := by
  obtain ⟨hx, hb, hr, hts, hown, hlocks, hml, hA, hK⟩ := id C
  intro n
  induction n with
  | zero => intro v3 v4 H locs ls hf; exact zno hf
  | succ n ih =>
    intro v3 v4 H locs ls hf hP hD hS hl
    have hf : b_X10_rowsBy_5 St St_r St_st x1 x2 (zl2 (b_X10_rowsBy_5 St St_r St_st x1 x2) n) v3 v4 = some r := hf
    have K5 := ih
    refine lv_iload hx hb dX10_rowsBy_5 (lv_at hl 4 rfl) ?_
    refine lv_aload_n hx hb dX10_rowsBy_7 rfl (lv_at hl 0 rfl) ?_
    refine va_get (D := D) (ci := 6) (v := .ref (ht 3)) (C := RX10) (T := TX10) (N := 41) hx hb hts in_X10 hown hK hP 0 rfl rfl 15 (by decide) (hts _ q6_60) (fun _ h9 => h9) rfl dX10_rowsBy_8 ?_
    refine lv_iconst (v := (1 : Int32)) hx hb dX10_rowsBy_11 (by decide) ?_
    refine z_iald (f := St_r) hx hb hK hP 1 0 rfl rfl dX10_rowsBy_12 hf (fun hf => ?_)
    refine z_icmp_ge (tgt := 44) hx hb dX10_rowsBy_13 (by decide) hf (fun hf => ?_) (fun hf => ?_)
    · refine lv_iload_n hx hb dX10_rowsBy_44 rfl (lv_at hl 3 rfl) ?_
      obtain rfl := Option.some.inj hf
      exact z_iret (v := v3) C hP hD hS dX10_rowsBy_45
    · refine lv_iload_n hx hb dX10_rowsBy_16 rfl (lv_at hl 3 rfl) ?_
      refine lv_aload_n hx hb dX10_rowsBy_17 rfl (lv_at hl 0 rfl) ?_
      refine lv_iload_n hx hb dX10_rowsBy_18 rfl (lv_at hl 1 rfl) ?_
      refine lv_iload hx hb dX10_rowsBy_19 (lv_at hl 4 rfl) ?_
      obtain ⟨q1, hc, hf⟩ := zbd hf
      refine z_cVi (As := [.int x1, .int v4]) (rest := [.int v3]) C (c_X10_mayOf l D cy ht St St_st x1 v4 q1 hc) gV_X10_X10_mayOf hd_X10_mayOf ⟨Nat.le_of_ble_eq_true rfl, Nat.le_of_ble_eq_true rfl⟩ ⟨Nat.le_refl _, Nat.le_refl _⟩ (va_recv hK hP (ci := 6) (q0 := 0) rfl rfl) hP hD hS (w2 := wMo ht cy St ++ (wAI (fun _ => ht 3) cy 140 St_r ++ (wAI (fun _ => ht 9) cy 325 St_st))) [0, 2] [1] [1, 0, 2] rfl rfl rfl rfl rfl rfl (by decide) hl.1 (Nat.le_of_ble_eq_true rfl) dX10_rowsBy_21 (fun H locs hP hD hS => ?_)
      refine lv_iload_n hx hb dX10_rowsBy_24 rfl (lv_at hl 2 rfl) ?_
      refine z_icmp_ne (tgt := 35) hx hb dX10_rowsBy_25 (by decide) hf (fun hf => ?_) (fun hf => ?_)
      · refine lv_iconst (v := (0 : Int32)) hx hb dX10_rowsBy_35 (by decide) ?_
        refine lv_ior hx hb dX10_rowsBy_36 ?_
        refine lv_istore_n (lv' := [(3, .int (v3 ||| (0 : Int32))), (0, .ref (ht 0)), (1, .int x1), (2, .int x2), (4, .int v4)]) hx hb dX10_rowsBy_37 rfl hl (by decide) rfl (fun ls hl => ?_)
        refine lv_iinc (v := (v4 + (1 : Int32))) (lv' := [(4, .int (v4 + (1 : Int32))), (3, .int (v3 ||| (0 : Int32))), (0, .ref (ht 0)), (1, .int x1), (2, .int x2)]) hx hb dX10_rowsBy_38 hl (k := 4) rfl rfl (by decide) rfl (fun ls hl => ?_)
        refine lv_goto (tgt := 5) hx hb dX10_rowsBy_41 (by decide) ?_
        exact K5 (v3 ||| (0 : Int32)) (v4 + (1 : Int32)) H locs ls hf hP hD hS (lv_sub hl [2, 3, 4, 1, 0] rfl)
      · refine lv_iconst (v := (1 : Int32)) hx hb dX10_rowsBy_28 (by decide) ?_
        refine lv_iload hx hb dX10_rowsBy_29 (lv_at hl 4 rfl) ?_
        refine lv_ishl hx hb dX10_rowsBy_31 ?_
        refine lv_goto (tgt := 36) hx hb dX10_rowsBy_32 (by decide) ?_
        refine lv_ior hx hb dX10_rowsBy_36 ?_
        refine lv_istore_n (lv' := [(3, .int (v3 ||| ((1 : Int32) <<< (v4 &&& 31)))), (0, .ref (ht 0)), (1, .int x1), (2, .int x2), (4, .int v4)]) hx hb dX10_rowsBy_37 rfl hl (by decide) rfl (fun ls hl => ?_)
        refine lv_iinc (v := (v4 + (1 : Int32))) (lv' := [(4, .int (v4 + (1 : Int32))), (3, .int (v3 ||| ((1 : Int32) <<< (v4 &&& 31)))), (0, .ref (ht 0)), (1, .int x1), (2, .int x2)]) hx hb dX10_rowsBy_38 hl (k := 4) rfl rfl (by decide) rfl (fun ls hl => ?_)
        refine lv_goto (tgt := 5) hx hb dX10_rowsBy_41 (by decide) ?_
        exact K5 (v3 ||| ((1 : Int32) <<< (v4 &&& 31))) (v4 + (1 : Int32)) H locs ls hf hP hD hS (lv_sub hl [2, 3, 4, 1, 0] rfl)
def f_X10_rowsBy (St : SMo) (St_r : Nat → Int32) (St_st : Nat → Int32) (x1 : Int32) (x2 : Int32) : Option (Int32) :=
  (zl2 (b_X10_rowsBy_5 St St_r St_st x1 x2) FU (0 : Int32) (0 : Int32))
set_option maxHeartbeats 4000000 in
set_option maxRecDepth 100000 in
theorem c_X10_rowsBy (l : Launch) (D : va_G) (cy : Nat → ClassId) (ht : Nat → Nat) (St : SMo) (St_r : Nat → Int32) (St_st : Nat → Int32) (x1 : Int32) (x2 : Int32) (r : Int32) (hf : f_X10_rowsBy St St_r St_st x1 x2 = some r) : zCI l yX10_rowsBy cX10_rowsBy 5 (some FieldType.int) 7 167 D (zty cy) [.ref (ht 0), .int x1, .int x2] (wMo ht cy St ++ (wAI (fun _ => ht 3) cy 140 St_r ++ (wAI (fun _ => ht 9) cy 325 St_st))) (wMo ht cy St ++ (wAI (fun _ => ht 3) cy 140 St_r ++ (wAI (fun _ => ht 9) cy 325 St_st))) r := by
  refine zCI_of (by decide +kernel) (Nat.le_of_ble_eq_true rfl) ?_
  intro p e s m below meth c A ls C hP hD hS hl
  generalize hargs : ([.ref (ht 0), .int x1, .int x2] : List Value).toArray = args at C ⊢
  have C : zX p s m meth c cX10_rowsBy 5 args RX10 (some FieldType.int) A D (zty cy) := C
  obtain ⟨hx, hb, hr, hts, hown, hlocks, hml, hA, hK⟩ := id C
  have hl : lv_has ls 5 [(0, .ref (ht 0)), (1, .int x1), (2, .int x2)] := hl
  generalize hH : s.heap = H at hP ⊢
  have hS : va_S A s.heap H [] := by rw [← hH]; exact hS
  generalize ([] : List Loc) = locs at hS ⊢
  refine lv_iconst (v := (0 : Int32)) hx hb dX10_rowsBy_0 (by decide) ?_
  refine lv_istore_n (lv' := [(3, .int (0 : Int32)), (0, .ref (ht 0)), (1, .int x1), (2, .int x2)]) hx hb dX10_rowsBy_1 rfl hl (by decide) rfl (fun ls hl => ?_)
  refine lv_iconst (v := (0 : Int32)) hx hb dX10_rowsBy_2 (by decide) ?_
  refine lv_istore (lv' := [(4, .int (0 : Int32)), (3, .int (0 : Int32)), (0, .ref (ht 0)), (1, .int x1), (2, .int x2)]) hx hb dX10_rowsBy_3 hl (by decide) rfl (fun ls hl => ?_)
  exact w_X10_rowsBy_5 l ht St St_r St_st x1 x2 C FU (0 : Int32) (0 : Int32) H locs ls hf hP hD hS (lv_sub hl [2, 3, 4, 1, 0] rfl)
def f_X10_open (St : SMo) (St_r : Nat → Int32) (St_st : Nat → Int32) (x1 : Int32) : Option (Int32 × SMo) :=
  (f_X10_anew St).bind (fun q1 =>
    (f_X10_isSlot q1 St_st x1).bind (fun q2 =>
      (if q2 = 0 then
        (f_X10_no q1 (1 : Int32)).bind (fun q3 =>
          some (q3.1, q3.2))
        else
        (f_X10_rowsBy q1 St_r St_st x1 (0 : Int32)).bind (fun q4 =>
          some (q4, q1)))))
set_option maxHeartbeats 4000000 in
set_option maxRecDepth 100000 in
theorem c_X10_open (l : Launch) (D : va_G) (cy : Nat → ClassId) (ht : Nat → Nat) (St : SMo) (St_r : Nat → Int32) (St_st : Nat → Int32) (x1 : Int32) (r : Int32 × SMo) (hf : f_X10_open St St_r St_st x1 = some r) : zCI l yX10_open cX10_open 2 (some FieldType.int) 8 191 D (zty cy) [.ref (ht 0), .int x1] (wMo ht cy St ++ (wAI (fun _ => ht 3) cy 140 St_r ++ (wAI (fun _ => ht 9) cy 325 St_st))) (wMo ht cy r.2 ++ (wAI (fun _ => ht 3) cy 140 St_r ++ (wAI (fun _ => ht 9) cy 325 St_st))) r.1 := by
  refine zCI_of (by decide +kernel) (Nat.le_of_ble_eq_true rfl) ?_
  intro p e s m below meth c A ls C hP hD hS hl
  generalize hargs : ([.ref (ht 0), .int x1] : List Value).toArray = args at C ⊢
  have C : zX p s m meth c cX10_open 2 args RX10 (some FieldType.int) A D (zty cy) := C
  obtain ⟨hx, hb, hr, hts, hown, hlocks, hml, hA, hK⟩ := id C
  have hl : lv_has ls 2 [(0, .ref (ht 0)), (1, .int x1)] := hl
  generalize hH : s.heap = H at hP ⊢
  have hS : va_S A s.heap H [] := by rw [← hH]; exact hS
  generalize ([] : List Loc) = locs at hS ⊢
  refine lv_aload_n hx hb dX10_open_0 rfl (lv_at hl 0 rfl) ?_
  obtain ⟨q1, hc, hf⟩ := zbd hf
  refine z_cVv (As := []) (rest := []) C (c_X10_anew l D cy ht St q1 hc) gV_X10_X10_anew hd_X10_anew ⟨Nat.le_of_ble_eq_true rfl, Nat.le_of_ble_eq_true rfl⟩ ⟨Nat.le_refl _, Nat.le_refl _⟩ (va_recv hK hP (ci := 6) (q0 := 0) rfl rfl) hP hD hS (w2 := wMo ht cy q1 ++ (wAI (fun _ => ht 3) cy 140 St_r ++ (wAI (fun _ => ht 9) cy 325 St_st))) [0] [1, 2] [2, 0, 1] rfl rfl rfl rfl rfl rfl (by decide) hl.1 (Nat.le_of_ble_eq_true rfl) dX10_open_1 (fun H locs hP hD hS => ?_)
  refine lv_aload_n hx hb dX10_open_4 rfl (lv_at hl 0 rfl) ?_
  refine lv_iload_n hx hb dX10_open_5 rfl (lv_at hl 1 rfl) ?_
  obtain ⟨q2, hc, hf⟩ := zbd hf
  refine z_cVi (As := [.int x1]) (rest := []) C (c_X10_isSlot l D cy ht q1 St_st x1 q2 hc) gV_X10_X10_isSlot hd_X10_isSlot ⟨Nat.le_of_ble_eq_true rfl, Nat.le_of_ble_eq_true rfl⟩ ⟨Nat.le_refl _, Nat.le_refl _⟩ (va_recv hK hP (ci := 6) (q0 := 0) rfl rfl) hP hD hS (w2 := wMo ht cy q1 ++ (wAI (fun _ => ht 3) cy 140 St_r ++ (wAI (fun _ => ht 9) cy 325 St_st))) [0, 2] [1] [1, 0, 2] rfl rfl rfl rfl rfl rfl (by decide) hl.1 (Nat.le_of_ble_eq_true rfl) dX10_open_6 (fun H locs hP hD hS => ?_)
  refine z_if_eq (tgt := 21) hx hb dX10_open_9 (by decide) hf (fun hf => ?_) (fun hf => ?_)
  · refine lv_aload_n hx hb dX10_open_21 rfl (lv_at hl 0 rfl) ?_
    refine lv_iconst (v := (1 : Int32)) hx hb dX10_open_22 (by decide) ?_
    obtain ⟨q3, hc, hf⟩ := zbd hf
    refine z_cVi (As := [.int (1 : Int32)]) (rest := []) C (c_X10_no l D cy ht q1 (1 : Int32) q3 hc) gV_X10_X10_no hd_X10_no ⟨Nat.le_of_ble_eq_true rfl, Nat.le_of_ble_eq_true rfl⟩ ⟨Nat.le_refl _, Nat.le_refl _⟩ (va_recv hK hP (ci := 6) (q0 := 0) rfl rfl) hP hD hS (w2 := wMo ht cy q3.2 ++ (wAI (fun _ => ht 3) cy 140 St_r ++ (wAI (fun _ => ht 9) cy 325 St_st))) [0] [1, 2] [2, 0, 1] rfl rfl rfl rfl rfl rfl (by decide) hl.1 (Nat.le_of_ble_eq_true rfl) dX10_open_23 (fun H locs hP hD hS => ?_)
    obtain rfl := Option.some.inj hf
    exact z_iret (v := q3.1) C hP hD hS dX10_open_26
  · refine lv_aload_n hx hb dX10_open_12 rfl (lv_at hl 0 rfl) ?_
    refine lv_iload_n hx hb dX10_open_13 rfl (lv_at hl 1 rfl) ?_
    refine lv_iconst (v := (0 : Int32)) hx hb dX10_open_14 (by decide) ?_
    obtain ⟨q4, hc, hf⟩ := zbd hf
    refine z_cVi0 (As := [.int x1, .int (0 : Int32)]) (rest := []) C (c_X10_rowsBy l D cy ht q1 St_r St_st x1 (0 : Int32) q4 hc) gV_X10_X10_rowsBy hd_X10_rowsBy ⟨Nat.le_of_ble_eq_true rfl, Nat.le_of_ble_eq_true rfl⟩ ⟨Nat.le_refl _, Nat.le_refl _⟩ (va_recv hK hP (ci := 6) (q0 := 0) rfl rfl) hP hD hS hl.1 (Nat.le_of_ble_eq_true rfl) dX10_open_15 (fun H locs hP hD hS => ?_)
    have hP : va_P D vwCl (wMo ht cy q1 ++ (wAI (fun _ => ht 3) cy 140 St_r ++ (wAI (fun _ => ht 9) cy 325 St_st))) H := hP
    have hD : va_D A (wMo ht cy q1 ++ (wAI (fun _ => ht 3) cy 140 St_r ++ (wAI (fun _ => ht 9) cy 325 St_st))) := hD
    refine lv_goto (tgt := 26) hx hb dX10_open_18 (by decide) ?_
    obtain rfl := Option.some.inj hf
    exact z_iret (v := q4) C hP hD hS dX10_open_26
def f_X10_loses (St : SMo) (St_r : Nat → Int32) (St_st : Nat → Int32) (x1 : Int32) : Option (Int32 × SMo) :=
  (f_X10_anew St).bind (fun q1 =>
    (f_X10_isSlot q1 St_st x1).bind (fun q2 =>
      (if q2 = 0 then
        (f_X10_no q1 (1 : Int32)).bind (fun q3 =>
          some (q3.1, q3.2))
        else
        (f_X10_rowsBy q1 St_r St_st x1 (2 : Int32)).bind (fun q4 =>
          some (q4, q1)))))
set_option maxHeartbeats 4000000 in
set_option maxRecDepth 100000 in
theorem c_X10_loses (l : Launch) (D : va_G) (cy : Nat → ClassId) (ht : Nat → Nat) (St : SMo) (St_r : Nat → Int32) (St_st : Nat → Int32) (x1 : Int32) (r : Int32 × SMo) (hf : f_X10_loses St St_r St_st x1 = some r) : zCI l yX10_loses cX10_loses 2 (some FieldType.int) 8 191 D (zty cy) [.ref (ht 0), .int x1] (wMo ht cy St ++ (wAI (fun _ => ht 3) cy 140 St_r ++ (wAI (fun _ => ht 9) cy 325 St_st))) (wMo ht cy r.2 ++ (wAI (fun _ => ht 3) cy 140 St_r ++ (wAI (fun _ => ht 9) cy 325 St_st))) r.1 := by
  refine zCI_of (by decide +kernel) (Nat.le_of_ble_eq_true rfl) ?_
  intro p e s m below meth c A ls C hP hD hS hl
  generalize hargs : ([.ref (ht 0), .int x1] : List Value).toArray = args at C ⊢
  have C : zX p s m meth c cX10_loses 2 args RX10 (some FieldType.int) A D (zty cy) := C
  obtain ⟨hx, hb, hr, hts, hown, hlocks, hml, hA, hK⟩ := id C
  have hl : lv_has ls 2 [(0, .ref (ht 0)), (1, .int x1)] := hl
  generalize hH : s.heap = H at hP ⊢
  have hS : va_S A s.heap H [] := by rw [← hH]; exact hS
  generalize ([] : List Loc) = locs at hS ⊢
  refine lv_aload_n hx hb dX10_loses_0 rfl (lv_at hl 0 rfl) ?_
  obtain ⟨q1, hc, hf⟩ := zbd hf
  refine z_cVv (As := []) (rest := []) C (c_X10_anew l D cy ht St q1 hc) gV_X10_X10_anew hd_X10_anew ⟨Nat.le_of_ble_eq_true rfl, Nat.le_of_ble_eq_true rfl⟩ ⟨Nat.le_refl _, Nat.le_refl _⟩ (va_recv hK hP (ci := 6) (q0 := 0) rfl rfl) hP hD hS (w2 := wMo ht cy q1 ++ (wAI (fun _ => ht 3) cy 140 St_r ++ (wAI (fun _ => ht 9) cy 325 St_st))) [0] [1, 2] [2, 0, 1] rfl rfl rfl rfl rfl rfl (by decide) hl.1 (Nat.le_of_ble_eq_true rfl) dX10_loses_1 (fun H locs hP hD hS => ?_)
  refine lv_aload_n hx hb dX10_loses_4 rfl (lv_at hl 0 rfl) ?_
  refine lv_iload_n hx hb dX10_loses_5 rfl (lv_at hl 1 rfl) ?_
  obtain ⟨q2, hc, hf⟩ := zbd hf
  refine z_cVi (As := [.int x1]) (rest := []) C (c_X10_isSlot l D cy ht q1 St_st x1 q2 hc) gV_X10_X10_isSlot hd_X10_isSlot ⟨Nat.le_of_ble_eq_true rfl, Nat.le_of_ble_eq_true rfl⟩ ⟨Nat.le_refl _, Nat.le_refl _⟩ (va_recv hK hP (ci := 6) (q0 := 0) rfl rfl) hP hD hS (w2 := wMo ht cy q1 ++ (wAI (fun _ => ht 3) cy 140 St_r ++ (wAI (fun _ => ht 9) cy 325 St_st))) [0, 2] [1] [1, 0, 2] rfl rfl rfl rfl rfl rfl (by decide) hl.1 (Nat.le_of_ble_eq_true rfl) dX10_loses_6 (fun H locs hP hD hS => ?_)
  refine z_if_eq (tgt := 21) hx hb dX10_loses_9 (by decide) hf (fun hf => ?_) (fun hf => ?_)
  · refine lv_aload_n hx hb dX10_loses_21 rfl (lv_at hl 0 rfl) ?_
    refine lv_iconst (v := (1 : Int32)) hx hb dX10_loses_22 (by decide) ?_
    obtain ⟨q3, hc, hf⟩ := zbd hf
    refine z_cVi (As := [.int (1 : Int32)]) (rest := []) C (c_X10_no l D cy ht q1 (1 : Int32) q3 hc) gV_X10_X10_no hd_X10_no ⟨Nat.le_of_ble_eq_true rfl, Nat.le_of_ble_eq_true rfl⟩ ⟨Nat.le_refl _, Nat.le_refl _⟩ (va_recv hK hP (ci := 6) (q0 := 0) rfl rfl) hP hD hS (w2 := wMo ht cy q3.2 ++ (wAI (fun _ => ht 3) cy 140 St_r ++ (wAI (fun _ => ht 9) cy 325 St_st))) [0] [1, 2] [2, 0, 1] rfl rfl rfl rfl rfl rfl (by decide) hl.1 (Nat.le_of_ble_eq_true rfl) dX10_loses_23 (fun H locs hP hD hS => ?_)
    obtain rfl := Option.some.inj hf
    exact z_iret (v := q3.1) C hP hD hS dX10_loses_26
  · refine lv_aload_n hx hb dX10_loses_12 rfl (lv_at hl 0 rfl) ?_
    refine lv_iload_n hx hb dX10_loses_13 rfl (lv_at hl 1 rfl) ?_
    refine lv_iconst (v := (2 : Int32)) hx hb dX10_loses_14 (by decide) ?_
    obtain ⟨q4, hc, hf⟩ := zbd hf
    refine z_cVi0 (As := [.int x1, .int (2 : Int32)]) (rest := []) C (c_X10_rowsBy l D cy ht q1 St_r St_st x1 (2 : Int32) q4 hc) gV_X10_X10_rowsBy hd_X10_rowsBy ⟨Nat.le_of_ble_eq_true rfl, Nat.le_of_ble_eq_true rfl⟩ ⟨Nat.le_refl _, Nat.le_refl _⟩ (va_recv hK hP (ci := 6) (q0 := 0) rfl rfl) hP hD hS hl.1 (Nat.le_of_ble_eq_true rfl) dX10_loses_15 (fun H locs hP hD hS => ?_)
    have hP : va_P D vwCl (wMo ht cy q1 ++ (wAI (fun _ => ht 3) cy 140 St_r ++ (wAI (fun _ => ht 9) cy 325 St_st))) H := hP
    have hD : va_D A (wMo ht cy q1 ++ (wAI (fun _ => ht 3) cy 140 St_r ++ (wAI (fun _ => ht 9) cy 325 St_st))) := hD
    refine lv_goto (tgt := 26) hx hb dX10_loses_18 (by decide) ?_
    obtain rfl := Option.some.inj hf
    exact z_iret (v := q4) C hP hD hS dX10_loses_26
def b_X10_firstWrong_39 (St : SMo) (St_order : Nat → Int32) (St_r : Nat → Int32) (St_trial : Nat → Int32) (k2 : Int32 → Option (Int32)) (v1 : Int32) (v2 : Int32) (u0 : Int32) : Option (Int32) :=
  (if zib ((12 : Int32) + v2) 140 then (if (u0 + (2 : Int32)) = (St_r ((12 : Int32) + v2).toNatClampNeg) then
      (k2 (v1 + (1 : Int32)))
      else
      some v1) else none)
set_option maxHeartbeats 4000000 in
set_option maxRecDepth 100000 in
theorem w_X10_firstWrong_39 {p : Program} {e : Env} {s : State} {m : MethodId} {below : List Frame} {meth : Method} {c : Code} {A : Nat → Prop} {D : va_G} {cy : Nat → ClassId} {args : Array Value} {r : Int32} (l : Launch) (ht : Nat → Nat) (St : SMo) (St_order : Nat → Int32) (St_r : Nat → Int32) (St_trial : Nat → Int32) {k2 : Int32 → Option (Int32)} (C : zX p s m meth c cX10_firstWrong 4 args RX10 (some FieldType.int) A D (zty cy))
    (K2 : ∀ (v1 : Int32) (H : Heap) (locs : List Loc) (ls : Array Slot), k2 v1 = some r → va_P D vwCl (wMo ht cy St ++ (wAI (fun _ => ht 15) cy 8 St_order ++ (wAI (fun _ => ht 3) cy 140 St_r ++ (wAI (fun _ => ht 10) cy 325 St_trial)))) H → va_D A (wMo ht cy St ++ (wAI (fun _ => ht 15) cy 8 St_order ++ (wAI (fun _ => ht 3) cy 140 St_r ++ (wAI (fun _ => ht 10) cy 325 St_trial)))) → va_S A s.heap H locs → lv_has ls 4 [(0, .ref (ht 0)), (1, .int v1)] → W p l e (zRm 6 143) s m args below meth c H locs 0 0 (MQ below (zQI D (zty cy) A (wMo ht cy St ++ (wAI (fun _ => ht 15) cy 8 St_order ++ (wAI (fun _ => ht 3) cy 140 St_r ++ (wAI (fun _ => ht 10) cy 325 St_trial)))) r) args s 0 0 A) (F0 m 2 ls [])) :
    ∀ (v1 : Int32) (v2 : Int32) (u0 : Int32) (H : Heap) (locs : List Loc) (ls : Array Slot), b_X10_firstWrong_39 St St_order St_r St_trial k2 v1 v2 u0 = some r → va_P D vwCl (wMo ht cy St ++ (wAI (fun _ => ht 15) cy 8 St_order ++ (wAI (fun _ => ht 3) cy 140 St_r ++ (wAI (fun _ => ht 10) cy 325 St_trial)))) H → va_D A (wMo ht cy St ++ (wAI (fun _ => ht 15) cy 8 St_order ++ (wAI (fun _ => ht 3) cy 140 St_r ++ (wAI (fun _ => ht 10) cy 325 St_trial)))) → va_S A s.heap H locs → lv_has ls 4 [(0, .ref (ht 0)), (1, .int v1), (2, .int v2)] → W p l e (zRm 6 143) s m args below meth c H locs 0 0 (MQ below (zQI D (zty cy) A (wMo ht cy St ++ (wAI (fun _ => ht 15) cy 8 St_order ++ (wAI (fun _ => ht 3) cy 140 St_r ++ (wAI (fun _ => ht 10) cy 325 St_trial)))) r) args s 0 0 A) (F0 m 39 ls [.int u0]) := by
  obtain ⟨hx, hb, hr, hts, hown, hlocks, hml, hA, hK⟩ := id C
  intro v1 v2 u0 H locs ls hf hP hD hS hl
  refine lv_iconst (v := (2 : Int32)) hx hb dX10_firstWrong_39 (by decide) ?_
  refine lv_iadd hx hb dX10_firstWrong_40 ?_
  refine lv_aload_n hx hb dX10_firstWrong_41 rfl (lv_at hl 0 rfl) ?_
  refine va_get (D := D) (ci := 6) (v := .ref (ht 3)) (C := RX10) (T := TX10) (N := 41) hx hb hts in_X10 hown hK hP 0 rfl rfl 15 (by decide) (hts _ q6_60) (fun _ h9 => h9) rfl dX10_firstWrong_42 ?_
  refine lv_bipush (v := (12 : Int32)) hx hb dX10_firstWrong_45 (by decide) ?_
  refine lv_iload_n hx hb dX10_firstWrong_47 rfl (lv_at hl 2 rfl) ?_
  refine lv_iadd hx hb dX10_firstWrong_48 ?_
  refine z_iald (f := St_r) hx hb hK hP 2 0 rfl rfl dX10_firstWrong_49 hf (fun hf => ?_)
  refine z_icmp_eq (tgt := 55) hx hb dX10_firstWrong_50 (by decide) hf (fun hf => ?_) (fun hf => ?_)
  · refine lv_iinc (v := (v1 + (1 : Int32))) (lv' := [(1, .int (v1 + (1 : Int32))), (0, .ref (ht 0)), (2, .int v2)]) hx hb dX10_firstWrong_55 hl (k := 1) rfl rfl (by decide) rfl (fun ls hl => ?_)
    refine lv_goto (tgt := 2) hx hb dX10_firstWrong_58 (by decide) ?_
    exact K2 (v1 + (1 : Int32)) H locs ls hf hP hD hS (lv_sub hl [1, 0] rfl)
  · refine lv_iload_n hx hb dX10_firstWrong_53 rfl (lv_at hl 1 rfl) ?_
    obtain rfl := Option.some.inj hf
    exact z_iret (v := v1) C hP hD hS dX10_firstWrong_54
def b_X10_firstWrong_2 (St : SMo) (St_order : Nat → Int32) (St_r : Nat → Int32) (St_trial : Nat → Int32) (k2 : Int32 → Option (Int32)) (v1 : Int32) : Option (Int32) :=
  (if zib (5 : Int32) 140 then (if (St_r (5 : Int32).toNatClampNeg) ≤ v1 then
      some (-2 : Int32)
      else
      (if zib v1 8 then (f_X10_valueOf St St_trial (-1 : Int32) (St_order v1.toNatClampNeg)).bind (fun q1 =>
          (if 0 ≤ q1 then
            (b_X10_firstWrong_39 St St_order St_r St_trial k2 v1 (St_order v1.toNatClampNeg) q1)
            else
            (b_X10_firstWrong_39 St St_order St_r St_trial k2 v1 (St_order v1.toNatClampNeg) (-1 : Int32)))) else none)) else none)
set_option maxHeartbeats 4000000 in
set_option maxRecDepth 100000 in
theorem w_X10_firstWrong_2 {p : Program} {e : Env} {s : State} {m : MethodId} {below : List Frame} {meth : Method} {c : Code} {A : Nat → Prop} {D : va_G} {cy : Nat → ClassId} {args : Array Value} {r : Int32} (l : Launch) (ht : Nat → Nat) (St : SMo) (St_order : Nat → Int32) (St_r : Nat → Int32) (St_trial : Nat → Int32) (C : zX p s m meth c cX10_firstWrong 4 args RX10 (some FieldType.int) A D (zty cy)) :
    ∀ (n : Nat) (v1 : Int32) (H : Heap) (locs : List Loc) (ls : Array Slot), zl1 (b_X10_firstWrong_2 St St_order St_r St_trial) n v1 = some r → va_P D vwCl (wMo ht cy St ++ (wAI (fun _ => ht 15) cy 8 St_order ++ (wAI (fun _ => ht 3) cy 140 St_r ++ (wAI (fun _ => ht 10) cy 325 St_trial)))) H → va_D A (wMo ht cy St ++ (wAI (fun _ => ht 15) cy 8 St_order ++ (wAI (fun _ => ht 3) cy 140 St_r ++ (wAI (fun _ => ht 10) cy 325 St_trial)))) → va_S A s.heap H locs → lv_has ls 4 [(0, .ref (ht 0)), (1, .int v1)] → W p l e (zRm 6 143) s m args below meth c H locs 0 0 (MQ below (zQI D (zty cy) A (wMo ht cy St ++ (wAI (fun _ => ht 15) cy 8 St_order ++ (wAI (fun _ => ht 3) cy 140 St_r ++ (wAI (fun _ => ht 10) cy 325 St_trial)))) r) args s 0 0 A) (F0 m 2 ls []) := by
  obtain ⟨hx, hb, hr, hts, hown, hlocks, hml, hA, hK⟩ := id C
  intro n
  induction n with
  | zero => intro v1 H locs ls hf; exact zno hf
  | succ n ih =>
    intro v1 H locs ls hf hP hD hS hl
    have hf : b_X10_firstWrong_2 St St_order St_r St_trial (zl1 (b_X10_firstWrong_2 St St_order St_r St_trial) n) v1 = some r := hf
    have K2 := ih
    refine lv_iload_n hx hb dX10_firstWrong_2 rfl (lv_at hl 1 rfl) ?_
    refine lv_aload_n hx hb dX10_firstWrong_3 rfl (lv_at hl 0 rfl) ?_
    refine va_get (D := D) (ci := 6) (v := .ref (ht 3)) (C := RX10) (T := TX10) (N := 41) hx hb hts in_X10 hown hK hP 0 rfl rfl 15 (by decide) (hts _ q6_60) (fun _ h9 => h9) rfl dX10_firstWrong_4 ?_
    refine lv_iconst (v := (5 : Int32)) hx hb dX10_firstWrong_7 (by decide) ?_
    refine z_iald (f := St_r) hx hb hK hP 2 0 rfl rfl dX10_firstWrong_8 hf (fun hf => ?_)
    refine z_icmp_ge (tgt := 61) hx hb dX10_firstWrong_9 (by decide) hf (fun hf => ?_) (fun hf => ?_)
    · refine lv_bipush (v := (-2 : Int32)) hx hb dX10_firstWrong_61 (by decide) ?_
      obtain rfl := Option.some.inj hf
      exact z_iret (v := (-2 : Int32)) C hP hD hS dX10_firstWrong_63
    · refine lv_aload_n hx hb dX10_firstWrong_12 rfl (lv_at hl 0 rfl) ?_
      refine va_get (D := D) (ci := 6) (v := .ref (ht 15)) (C := RX10) (T := TX10) (N := 41) hx hb hts in_X10 hown hK hP 0 rfl rfl 31 (by decide) (hts _ q6_76) (fun _ h9 => h9) rfl dX10_firstWrong_13 ?_
      refine lv_iload_n hx hb dX10_firstWrong_16 rfl (lv_at hl 1 rfl) ?_
      refine z_iald (f := St_order) hx hb hK hP 1 0 rfl rfl dX10_firstWrong_17 hf (fun hf => ?_)
      refine lv_istore_n (lv' := [(2, .int (St_order v1.toNatClampNeg)), (0, .ref (ht 0)), (1, .int v1)]) hx hb dX10_firstWrong_18 rfl hl (by decide) rfl (fun ls hl => ?_)
      refine lv_aload_n hx hb dX10_firstWrong_19 rfl (lv_at hl 1 rfl) ?_
      refine lv_aload_n hx hb dX10_firstWrong_20 rfl (lv_at hl 1 rfl) ?_
      refine va_get (D := D) (ci := 6) (v := .ref (ht 10)) (C := RX10) (T := TX10) (N := 41) hx hb hts in_X10 hown hK hP 0 rfl rfl 22 (by decide) (hts _ q6_67) (fun _ h9 => h9) rfl dX10_firstWrong_21 ?_
      refine lv_iconst (v := (-1 : Int32)) hx hb dX10_firstWrong_24 (by decide) ?_
      refine lv_iload_n hx hb dX10_firstWrong_25 rfl (lv_at hl 0 rfl) ?_
      obtain ⟨q1, hc, hf⟩ := zbd hf
      refine z_cVi (As := [.ref (ht 10), .int (-1 : Int32), .int (St_order v1.toNatClampNeg)]) (rest := []) C (c_X10_valueOf l D cy ht (fun _ => ht 10) St St_trial (-1 : Int32) (St_order v1.toNatClampNeg) q1 hc) gV_X10_X10_valueOf hd_X10_valueOf ⟨Nat.le_of_ble_eq_true rfl, Nat.le_of_ble_eq_true rfl⟩ ⟨Nat.le_refl _, Nat.le_refl _⟩ (va_recv hK hP (ci := 6) (q0 := 0) rfl rfl) hP hD hS (w2 := wMo ht cy St ++ (wAI (fun _ => ht 15) cy 8 St_order ++ (wAI (fun _ => ht 3) cy 140 St_r ++ (wAI (fun _ => ht 10) cy 325 St_trial)))) [0, 3] [1, 2] [2, 0, 1, 3] rfl rfl rfl rfl rfl rfl (by decide) hl.1 (Nat.le_of_ble_eq_true rfl) dX10_firstWrong_26 (fun H locs hP hD hS => ?_)
      refine lv_istore_n (lv' := [(3, .int q1), (2, .int (St_order v1.toNatClampNeg)), (0, .ref (ht 0)), (1, .int v1)]) hx hb dX10_firstWrong_29 rfl hl (by decide) rfl (fun ls hl => ?_)
      refine lv_iload_n hx hb dX10_firstWrong_30 rfl (lv_at hl 0 rfl) ?_
      refine z_if_ge (tgt := 38) hx hb dX10_firstWrong_31 (by decide) hf (fun hf => ?_) (fun hf => ?_)
      · refine lv_iload_n hx hb dX10_firstWrong_38 rfl (lv_at hl 0 rfl) ?_
        exact w_X10_firstWrong_39 l ht St St_order St_r St_trial C K2 v1 (St_order v1.toNatClampNeg) q1 H locs ls hf hP hD hS (lv_sub hl [2, 3, 1] rfl)
      · refine lv_iconst (v := (-1 : Int32)) hx hb dX10_firstWrong_34 (by decide) ?_
        refine lv_goto (tgt := 39) hx hb dX10_firstWrong_35 (by decide) ?_
        exact w_X10_firstWrong_39 l ht St St_order St_r St_trial C K2 v1 (St_order v1.toNatClampNeg) (-1 : Int32) H locs ls hf hP hD hS (lv_sub hl [2, 3, 1] rfl)
def f_X10_firstWrong (St : SMo) (St_order : Nat → Int32) (St_r : Nat → Int32) (St_trial : Nat → Int32) : Option (Int32) :=
  (zl1 (b_X10_firstWrong_2 St St_order St_r St_trial) FU (0 : Int32))
set_option maxHeartbeats 4000000 in
set_option maxRecDepth 100000 in
theorem c_X10_firstWrong (l : Launch) (D : va_G) (cy : Nat → ClassId) (ht : Nat → Nat) (St : SMo) (St_order : Nat → Int32) (St_r : Nat → Int32) (St_trial : Nat → Int32) (r : Int32) (hf : f_X10_firstWrong St St_order St_r St_trial = some r) : zCI l yX10_firstWrong cX10_firstWrong 4 (some FieldType.int) 6 143 D (zty cy) [.ref (ht 0)] (wMo ht cy St ++ (wAI (fun _ => ht 15) cy 8 St_order ++ (wAI (fun _ => ht 3) cy 140 St_r ++ (wAI (fun _ => ht 10) cy 325 St_trial)))) (wMo ht cy St ++ (wAI (fun _ => ht 15) cy 8 St_order ++ (wAI (fun _ => ht 3) cy 140 St_r ++ (wAI (fun _ => ht 10) cy 325 St_trial)))) r := by
  refine zCI_of (by decide +kernel) (Nat.le_of_ble_eq_true rfl) ?_
  intro p e s m below meth c A ls C hP hD hS hl
  generalize hargs : ([.ref (ht 0)] : List Value).toArray = args at C ⊢
  have C : zX p s m meth c cX10_firstWrong 4 args RX10 (some FieldType.int) A D (zty cy) := C
  obtain ⟨hx, hb, hr, hts, hown, hlocks, hml, hA, hK⟩ := id C
  have hl : lv_has ls 4 [(0, .ref (ht 0))] := hl
  generalize hH : s.heap = H at hP ⊢
  have hS : va_S A s.heap H [] := by rw [← hH]; exact hS
  generalize ([] : List Loc) = locs at hS ⊢
  refine lv_iconst (v := (0 : Int32)) hx hb dX10_firstWrong_0 (by decide) ?_
  refine lv_istore_n (lv' := [(1, .int (0 : Int32)), (0, .ref (ht 0))]) hx hb dX10_firstWrong_1 rfl hl (by decide) rfl (fun ls hl => ?_)
  exact w_X10_firstWrong_2 l ht St St_order St_r St_trial C FU (0 : Int32) H locs ls hf hP hD hS (lv_sub hl [1, 0] rfl)
def b_X10_wrongBy_18 (St : SMo) (St_order : Nat → Int32) (St_owned : Nat → Int32) (St_r : Nat → Int32) (St_told : Nat → Int32) (x1 : Int32) (k18 : (Nat → Int32) → Int32 → Option (Int32 × (Nat → Int32))) (St_trial : Nat → Int32) (v2 : Int32) : Option (Int32 × (Nat → Int32)) :=
  (if zib (4 : Int32) 140 then (if (St_r (4 : Int32).toNatClampNeg) ≤ v2 then
      (f_X10_firstWrong St St_order St_r St_trial).bind (fun q1 =>
        some (q1, St_trial))
      else
      (if zib ((8 : Int32) + v2) 140 then (if zib ((20 : Int32) + (St_r ((8 : Int32) + v2).toNatClampNeg)) 140 then (f_X10_hasBit x1 v2).bind (fun q2 =>
            (if q2 = 0 then
              (k18 St_trial (v2 + (1 : Int32)))
              else
              (if zib (St_r ((20 : Int32) + (St_r ((8 : Int32) + v2).toNatClampNeg)).toNatClampNeg) 64 then (if (St_owned (St_r ((20 : Int32) + (St_r ((8 : Int32) + v2).toNatClampNeg)).toNatClampNeg).toNatClampNeg) = ((St_r ((8 : Int32) + v2).toNatClampNeg) + (1 : Int32)) then
                  (if zib ((240 : Int32) + (St_r ((20 : Int32) + (St_r ((8 : Int32) + v2).toNatClampNeg)).toNatClampNeg)) 325 then (if (St_trial ((240 : Int32) + (St_r ((20 : Int32) + (St_r ((8 : Int32) + v2).toNatClampNeg)).toNatClampNeg)).toNatClampNeg) = (2 : Int32) then
                      (if zib ((240 : Int32) + (St_r ((20 : Int32) + (St_r ((8 : Int32) + v2).toNatClampNeg)).toNatClampNeg)) 325 then (k18 (upd St_trial ((240 : Int32) + (St_r ((20 : Int32) + (St_r ((8 : Int32) + v2).toNatClampNeg)).toNatClampNeg)).toNatClampNeg (3 : Int32)) (v2 + (1 : Int32))) else none)
                      else
                      (if zib ((240 : Int32) + (St_r ((20 : Int32) + (St_r ((8 : Int32) + v2).toNatClampNeg)).toNatClampNeg)) 325 then (k18 (upd St_trial ((240 : Int32) + (St_r ((20 : Int32) + (St_r ((8 : Int32) + v2).toNatClampNeg)).toNatClampNeg)).toNatClampNeg (2 : Int32)) (v2 + (1 : Int32))) else none)) else none)
                  else
                  (k18 St_trial (v2 + (1 : Int32)))) else none))) else none) else none)) else none)
set_option maxHeartbeats 4000000 in
set_option maxRecDepth 100000 in
theorem w_X10_wrongBy_18 {p : Program} {e : Env} {s : State} {m : MethodId} {below : List Frame} {meth : Method} {c : Code} {A : Nat → Prop} {D : va_G} {cy : Nat → ClassId} {args : Array Value} {r : Int32 × (Nat → Int32)} (l : Launch) (ht : Nat → Nat) (St : SMo) (St_order : Nat → Int32) (St_owned : Nat → Int32) (St_r : Nat → Int32) (St_told : Nat → Int32) (x1 : Int32) (C : zX p s m meth c cX10_wrongBy 5 args RX10 (some FieldType.int) A D (zty cy)) :
    ∀ (n : Nat) (St_trial : Nat → Int32) (v2 : Int32) (H : Heap) (locs : List Loc) (ls : Array Slot), zl2 (b_X10_wrongBy_18 St St_order St_owned St_r St_told x1) n St_trial v2 = some r → va_P D vwCl (wMo ht cy St ++ (wAI (fun _ => ht 15) cy 8 St_order ++ (wAI (fun _ => ht 8) cy 64 St_owned ++ (wAI (fun _ => ht 3) cy 140 St_r ++ (wAI (fun _ => ht 5) cy 325 St_told ++ (wAI (fun _ => ht 10) cy 325 St_trial)))))) H → va_D A (wMo ht cy St ++ (wAI (fun _ => ht 15) cy 8 St_order ++ (wAI (fun _ => ht 8) cy 64 St_owned ++ (wAI (fun _ => ht 3) cy 140 St_r ++ (wAI (fun _ => ht 5) cy 325 St_told ++ (wAI (fun _ => ht 10) cy 325 St_trial)))))) → va_S A s.heap H locs → lv_has ls 5 [(0, .ref (ht 0)), (1, .int x1), (2, .int v2)] → W p l e (zRm 7 166) s m args below meth c H locs 0 0 (MQ below (zQI D (zty cy) A (wMo ht cy St ++ (wAI (fun _ => ht 15) cy 8 St_order ++ (wAI (fun _ => ht 8) cy 64 St_owned ++ (wAI (fun _ => ht 3) cy 140 St_r ++ (wAI (fun _ => ht 5) cy 325 St_told ++ (wAI (fun _ => ht 10) cy 325 r.2)))))) r.1) args s 0 0 A) (F0 m 18 ls []) := by
  obtain ⟨hx, hb, hr, hts, hown, hlocks, hml, hA, hK⟩ := id C
  intro n
  induction n with
  | zero => intro St_trial v2 H locs ls hf; exact zno hf
  | succ n ih =>
    intro St_trial v2 H locs ls hf hP hD hS hl
    have hf : b_X10_wrongBy_18 St St_order St_owned St_r St_told x1 (zl2 (b_X10_wrongBy_18 St St_order St_owned St_r St_told x1) n) St_trial v2 = some r := hf
    have K18 := ih
    refine lv_iload_n hx hb dX10_wrongBy_18 rfl (lv_at hl 2 rfl) ?_
    refine lv_aload_n hx hb dX10_wrongBy_19 rfl (lv_at hl 0 rfl) ?_
    refine va_get (D := D) (ci := 6) (v := .ref (ht 3)) (C := RX10) (T := TX10) (N := 41) hx hb hts in_X10 hown hK hP 0 rfl rfl 15 (by decide) (hts _ q6_60) (fun _ h9 => h9) rfl dX10_wrongBy_20 ?_
    refine lv_iconst (v := (4 : Int32)) hx hb dX10_wrongBy_23 (by decide) ?_
    refine z_iald (f := St_r) hx hb hK hP 3 0 rfl rfl dX10_wrongBy_24 hf (fun hf => ?_)
    refine z_icmp_ge (tgt := 107) hx hb dX10_wrongBy_25 (by decide) hf (fun hf => ?_) (fun hf => ?_)
    · refine lv_aload_n hx hb dX10_wrongBy_107 rfl (lv_at hl 0 rfl) ?_
      obtain ⟨q1, hc, hf⟩ := zbd hf
      refine z_cVi (As := []) (rest := []) C (c_X10_firstWrong l D cy ht St St_order St_r St_trial q1 hc) gV_X10_X10_firstWrong hd_X10_firstWrong ⟨Nat.le_of_ble_eq_true rfl, Nat.le_of_ble_eq_true rfl⟩ ⟨Nat.le_refl _, Nat.le_refl _⟩ (va_recv hK hP (ci := 6) (q0 := 0) rfl rfl) hP hD hS (w2 := wMo ht cy St ++ (wAI (fun _ => ht 15) cy 8 St_order ++ (wAI (fun _ => ht 8) cy 64 St_owned ++ (wAI (fun _ => ht 3) cy 140 St_r ++ (wAI (fun _ => ht 5) cy 325 St_told ++ (wAI (fun _ => ht 10) cy 325 St_trial)))))) [0, 1, 3, 5] [2, 4] [2, 3, 0, 4, 1, 5] rfl rfl rfl rfl rfl rfl (by decide) hl.1 (Nat.le_of_ble_eq_true rfl) dX10_wrongBy_108 (fun H locs hP hD hS => ?_)
      obtain rfl := Option.some.inj hf
      exact z_iret (v := q1) C hP hD hS dX10_wrongBy_111
    · refine lv_aload_n hx hb dX10_wrongBy_28 rfl (lv_at hl 0 rfl) ?_
      refine va_get (D := D) (ci := 6) (v := .ref (ht 3)) (C := RX10) (T := TX10) (N := 41) hx hb hts in_X10 hown hK hP 0 rfl rfl 15 (by decide) (hts _ q6_60) (fun _ h9 => h9) rfl dX10_wrongBy_29 ?_
      refine lv_bipush (v := (8 : Int32)) hx hb dX10_wrongBy_32 (by decide) ?_
      refine lv_iload_n hx hb dX10_wrongBy_34 rfl (lv_at hl 2 rfl) ?_
      refine lv_iadd hx hb dX10_wrongBy_35 ?_
      refine z_iald (f := St_r) hx hb hK hP 3 0 rfl rfl dX10_wrongBy_36 hf (fun hf => ?_)
      refine lv_istore_n (lv' := [(3, .int (St_r ((8 : Int32) + v2).toNatClampNeg)), (0, .ref (ht 0)), (1, .int x1), (2, .int v2)]) hx hb dX10_wrongBy_37 rfl hl (by decide) rfl (fun ls hl => ?_)
      refine lv_aload_n hx hb dX10_wrongBy_38 rfl (lv_at hl 1 rfl) ?_
      refine va_get (D := D) (ci := 6) (v := .ref (ht 3)) (C := RX10) (T := TX10) (N := 41) hx hb hts in_X10 hown hK hP 0 rfl rfl 15 (by decide) (hts _ q6_60) (fun _ h9 => h9) rfl dX10_wrongBy_39 ?_
      refine lv_bipush (v := (20 : Int32)) hx hb dX10_wrongBy_42 (by decide) ?_
      refine lv_iload_n hx hb dX10_wrongBy_44 rfl (lv_at hl 0 rfl) ?_
      refine lv_iadd hx hb dX10_wrongBy_45 ?_
      refine z_iald (f := St_r) hx hb hK hP 3 0 rfl rfl dX10_wrongBy_46 hf (fun hf => ?_)
      refine lv_istore (lv' := [(4, .int (St_r ((20 : Int32) + (St_r ((8 : Int32) + v2).toNatClampNeg)).toNatClampNeg)), (3, .int (St_r ((8 : Int32) + v2).toNatClampNeg)), (0, .ref (ht 0)), (1, .int x1), (2, .int v2)]) hx hb dX10_wrongBy_47 hl (by decide) rfl (fun ls hl => ?_)
      refine lv_iload_n hx hb dX10_wrongBy_49 rfl (lv_at hl 3 rfl) ?_
      refine lv_iload_n hx hb dX10_wrongBy_50 rfl (lv_at hl 4 rfl) ?_
      obtain ⟨q2, hc, hf⟩ := zbd hf
      refine z_cSiE (As := [.int x1, .int v2]) (rest := []) C (c_X10_hasBit l D cy x1 v2 q2 hc) gS_X10_X10_hasBit hd_X10_hasBit ⟨Nat.le_of_ble_eq_true rfl, Nat.le_of_ble_eq_true rfl⟩ ⟨Nat.le_refl _, Nat.le_refl _⟩ hP hD hS hl.1 (Nat.le_of_ble_eq_true rfl) dX10_wrongBy_51 (fun H locs hP hD hS => ?_)
      refine z_if_eq (tgt := 101) hx hb dX10_wrongBy_54 (by decide) hf (fun hf => ?_) (fun hf => ?_)
      · refine lv_iinc (v := (v2 + (1 : Int32))) (lv' := [(2, .int (v2 + (1 : Int32))), (4, .int (St_r ((20 : Int32) + (St_r ((8 : Int32) + v2).toNatClampNeg)).toNatClampNeg)), (3, .int (St_r ((8 : Int32) + v2).toNatClampNeg)), (0, .ref (ht 0)), (1, .int x1)]) hx hb dX10_wrongBy_101 hl (k := 4) rfl rfl (by decide) rfl (fun ls hl => ?_)
        refine lv_goto (tgt := 18) hx hb dX10_wrongBy_104 (by decide) ?_
        exact K18 St_trial (v2 + (1 : Int32)) H locs ls hf hP hD hS (lv_sub hl [3, 4, 0] rfl)
      · refine lv_aload_n hx hb dX10_wrongBy_57 rfl (lv_at hl 2 rfl) ?_
        refine va_get (D := D) (ci := 6) (v := .ref (ht 8)) (C := RX10) (T := TX10) (N := 41) hx hb hts in_X10 hown hK hP 0 rfl rfl 20 (by decide) (hts _ q6_65) (fun _ h9 => h9) rfl dX10_wrongBy_58 ?_
        refine lv_iload hx hb dX10_wrongBy_61 (lv_at hl 0 rfl) ?_
        refine z_iald (f := St_owned) hx hb hK hP 2 0 rfl rfl dX10_wrongBy_63 hf (fun hf => ?_)
        refine lv_iload_n hx hb dX10_wrongBy_64 rfl (lv_at hl 1 rfl) ?_
        refine lv_iconst (v := (1 : Int32)) hx hb dX10_wrongBy_65 (by decide) ?_
        refine lv_iadd hx hb dX10_wrongBy_66 ?_
        refine z_icmp_ne (tgt := 101) hx hb dX10_wrongBy_67 (by decide) hf (fun hf => ?_) (fun hf => ?_)
        · refine lv_iinc (v := (v2 + (1 : Int32))) (lv' := [(2, .int (v2 + (1 : Int32))), (4, .int (St_r ((20 : Int32) + (St_r ((8 : Int32) + v2).toNatClampNeg)).toNatClampNeg)), (3, .int (St_r ((8 : Int32) + v2).toNatClampNeg)), (0, .ref (ht 0)), (1, .int x1)]) hx hb dX10_wrongBy_101 hl (k := 4) rfl rfl (by decide) rfl (fun ls hl => ?_)
          refine lv_goto (tgt := 18) hx hb dX10_wrongBy_104 (by decide) ?_
          exact K18 St_trial (v2 + (1 : Int32)) H locs ls hf hP hD hS (lv_sub hl [3, 4, 0] rfl)
        · refine lv_aload_n hx hb dX10_wrongBy_70 rfl (lv_at hl 2 rfl) ?_
          refine va_get (D := D) (ci := 6) (v := .ref (ht 10)) (C := RX10) (T := TX10) (N := 41) hx hb hts in_X10 hown hK hP 0 rfl rfl 22 (by decide) (hts _ q6_67) (fun _ h9 => h9) rfl dX10_wrongBy_71 ?_
          refine lv_sipush (v := (240 : Int32)) hx hb dX10_wrongBy_74 (by decide) ?_
          refine lv_iload hx hb dX10_wrongBy_77 (lv_at hl 0 rfl) ?_
          refine lv_iadd hx hb dX10_wrongBy_79 ?_
          refine lv_aload_n hx hb dX10_wrongBy_80 rfl (lv_at hl 2 rfl) ?_
          refine va_get (D := D) (ci := 6) (v := .ref (ht 10)) (C := RX10) (T := TX10) (N := 41) hx hb hts in_X10 hown hK hP 0 rfl rfl 22 (by decide) (hts _ q6_67) (fun _ h9 => h9) rfl dX10_wrongBy_81 ?_
          refine lv_sipush (v := (240 : Int32)) hx hb dX10_wrongBy_84 (by decide) ?_
          refine lv_iload hx hb dX10_wrongBy_87 (lv_at hl 0 rfl) ?_
          refine lv_iadd hx hb dX10_wrongBy_89 ?_
          refine z_iald (f := St_trial) hx hb hK hP 5 0 rfl rfl dX10_wrongBy_90 hf (fun hf => ?_)
          refine lv_iconst (v := (2 : Int32)) hx hb dX10_wrongBy_91 (by decide) ?_
          refine z_icmp_ne (tgt := 99) hx hb dX10_wrongBy_92 (by decide) hf (fun hf => ?_) (fun hf => ?_)
          · refine lv_iconst (v := (2 : Int32)) hx hb dX10_wrongBy_99 (by decide) ?_
            refine z_iast (f := St_trial) (w2 := wMo ht cy St ++ (wAI (fun _ => ht 15) cy 8 St_order ++ (wAI (fun _ => ht 8) cy 64 St_owned ++ (wAI (fun _ => ht 3) cy 140 St_r ++ (wAI (fun _ => ht 5) cy 325 St_told ++ (wAI (fun _ => ht 10) cy 325 (upd St_trial ((240 : Int32) + (St_r ((20 : Int32) + (St_r ((8 : Int32) + v2).toNatClampNeg)).toNatClampNeg)).toNatClampNeg (2 : Int32)))))))) hx hb hK hP hD hS 5 0 rfl rfl dX10_wrongBy_100 hf rfl (fun hf H locs hP hD hS => ?_)
            refine lv_iinc (v := (v2 + (1 : Int32))) (lv' := [(2, .int (v2 + (1 : Int32))), (4, .int (St_r ((20 : Int32) + (St_r ((8 : Int32) + v2).toNatClampNeg)).toNatClampNeg)), (3, .int (St_r ((8 : Int32) + v2).toNatClampNeg)), (0, .ref (ht 0)), (1, .int x1)]) hx hb dX10_wrongBy_101 hl (k := 4) rfl rfl (by decide) rfl (fun ls hl => ?_)
            refine lv_goto (tgt := 18) hx hb dX10_wrongBy_104 (by decide) ?_
            exact K18 (upd St_trial ((240 : Int32) + (St_r ((20 : Int32) + (St_r ((8 : Int32) + v2).toNatClampNeg)).toNatClampNeg)).toNatClampNeg (2 : Int32)) (v2 + (1 : Int32)) H locs ls hf hP hD hS (lv_sub hl [3, 4, 0] rfl)
          · refine lv_iconst (v := (3 : Int32)) hx hb dX10_wrongBy_95 (by decide) ?_
            refine lv_goto (tgt := 100) hx hb dX10_wrongBy_96 (by decide) ?_
            refine z_iast (f := St_trial) (w2 := wMo ht cy St ++ (wAI (fun _ => ht 15) cy 8 St_order ++ (wAI (fun _ => ht 8) cy 64 St_owned ++ (wAI (fun _ => ht 3) cy 140 St_r ++ (wAI (fun _ => ht 5) cy 325 St_told ++ (wAI (fun _ => ht 10) cy 325 (upd St_trial ((240 : Int32) + (St_r ((20 : Int32) + (St_r ((8 : Int32) + v2).toNatClampNeg)).toNatClampNeg)).toNatClampNeg (3 : Int32)))))))) hx hb hK hP hD hS 5 0 rfl rfl dX10_wrongBy_100 hf rfl (fun hf H locs hP hD hS => ?_)
            refine lv_iinc (v := (v2 + (1 : Int32))) (lv' := [(2, .int (v2 + (1 : Int32))), (4, .int (St_r ((20 : Int32) + (St_r ((8 : Int32) + v2).toNatClampNeg)).toNatClampNeg)), (3, .int (St_r ((8 : Int32) + v2).toNatClampNeg)), (0, .ref (ht 0)), (1, .int x1)]) hx hb dX10_wrongBy_101 hl (k := 4) rfl rfl (by decide) rfl (fun ls hl => ?_)
            refine lv_goto (tgt := 18) hx hb dX10_wrongBy_104 (by decide) ?_
            exact K18 (upd St_trial ((240 : Int32) + (St_r ((20 : Int32) + (St_r ((8 : Int32) + v2).toNatClampNeg)).toNatClampNeg)).toNatClampNeg (3 : Int32)) (v2 + (1 : Int32)) H locs ls hf hP hD hS (lv_sub hl [3, 4, 0] rfl)
def f_X10_wrongBy (St : SMo) (St_order : Nat → Int32) (St_owned : Nat → Int32) (St_r : Nat → Int32) (St_told : Nat → Int32) (St_trial : Nat → Int32) (x1 : Int32) : Option (Int32 × (Nat → Int32)) :=
  (f_X10_copy 325 325 St_told St_trial (0 : Int32) (0 : Int32) (325 : Int32)).bind (fun q3 =>
    (zl2 (b_X10_wrongBy_18 St St_order St_owned St_r St_told x1) FU q3 (0 : Int32)))
set_option maxHeartbeats 4000000 in
set_option maxRecDepth 100000 in
theorem c_X10_wrongBy (l : Launch) (D : va_G) (cy : Nat → ClassId) (ht : Nat → Nat) (St : SMo) (St_order : Nat → Int32) (St_owned : Nat → Int32) (St_r : Nat → Int32) (St_told : Nat → Int32) (St_trial : Nat → Int32) (x1 : Int32) (r : Int32 × (Nat → Int32)) (hf : f_X10_wrongBy St St_order St_owned St_r St_told St_trial x1 = some r) : zCI l yX10_wrongBy cX10_wrongBy 5 (some FieldType.int) 7 166 D (zty cy) [.ref (ht 0), .int x1] (wMo ht cy St ++ (wAI (fun _ => ht 15) cy 8 St_order ++ (wAI (fun _ => ht 8) cy 64 St_owned ++ (wAI (fun _ => ht 3) cy 140 St_r ++ (wAI (fun _ => ht 5) cy 325 St_told ++ (wAI (fun _ => ht 10) cy 325 St_trial)))))) (wMo ht cy St ++ (wAI (fun _ => ht 15) cy 8 St_order ++ (wAI (fun _ => ht 8) cy 64 St_owned ++ (wAI (fun _ => ht 3) cy 140 St_r ++ (wAI (fun _ => ht 5) cy 325 St_told ++ (wAI (fun _ => ht 10) cy 325 r.2)))))) r.1 := by
  refine zCI_of (by decide +kernel) (Nat.le_of_ble_eq_true rfl) ?_
  intro p e s m below meth c A ls C hP hD hS hl
  generalize hargs : ([.ref (ht 0), .int x1] : List Value).toArray = args at C ⊢
  have C : zX p s m meth c cX10_wrongBy 5 args RX10 (some FieldType.int) A D (zty cy) := C
  obtain ⟨hx, hb, hr, hts, hown, hlocks, hml, hA, hK⟩ := id C
  have hl : lv_has ls 5 [(0, .ref (ht 0)), (1, .int x1)] := hl
  generalize hH : s.heap = H at hP ⊢
  have hS : va_S A s.heap H [] := by rw [← hH]; exact hS
  generalize ([] : List Loc) = locs at hS ⊢
  refine lv_aload_n hx hb dX10_wrongBy_0 rfl (lv_at hl 0 rfl) ?_
  refine va_get (D := D) (ci := 6) (v := .ref (ht 5)) (C := RX10) (T := TX10) (N := 41) hx hb hts in_X10 hown hK hP 0 rfl rfl 17 (by decide) (hts _ q6_62) (fun _ h9 => h9) rfl dX10_wrongBy_1 ?_
  refine lv_iconst (v := (0 : Int32)) hx hb dX10_wrongBy_4 (by decide) ?_
  refine lv_aload_n hx hb dX10_wrongBy_5 rfl (lv_at hl 0 rfl) ?_
  refine va_get (D := D) (ci := 6) (v := .ref (ht 10)) (C := RX10) (T := TX10) (N := 41) hx hb hts in_X10 hown hK hP 0 rfl rfl 22 (by decide) (hts _ q6_67) (fun _ h9 => h9) rfl dX10_wrongBy_6 ?_
  refine lv_iconst (v := (0 : Int32)) hx hb dX10_wrongBy_9 (by decide) ?_
  refine lv_sipush (v := (325 : Int32)) hx hb dX10_wrongBy_10 (by decide) ?_
  obtain ⟨q3, hc, hf⟩ := zbd hf
  refine z_cSv (As := [.ref (ht 5), .int (0 : Int32), .ref (ht 10), .int (0 : Int32), .int (325 : Int32)]) (rest := []) C (c_X10_copy l D cy (fun _ => ht 5) (fun _ => ht 10) 325 325 St_told St_trial (0 : Int32) (0 : Int32) (325 : Int32) q3 hc) gS_X10_X10_copy hd_X10_copy ⟨Nat.le_of_ble_eq_true rfl, Nat.le_of_ble_eq_true rfl⟩ ⟨Nat.le_refl _, Nat.le_refl _⟩ hP hD hS (w2 := wMo ht cy St ++ (wAI (fun _ => ht 15) cy 8 St_order ++ (wAI (fun _ => ht 8) cy 64 St_owned ++ (wAI (fun _ => ht 3) cy 140 St_r ++ (wAI (fun _ => ht 5) cy 325 St_told ++ (wAI (fun _ => ht 10) cy 325 q3)))))) [4, 5] [0, 1, 2, 3] [0, 1, 2, 3, 4, 5] rfl rfl rfl rfl rfl rfl (by decide) hl.1 (Nat.le_of_ble_eq_true rfl) dX10_wrongBy_13 (fun H locs hP hD hS => ?_)
  refine lv_iconst (v := (0 : Int32)) hx hb dX10_wrongBy_16 (by decide) ?_
  refine lv_istore_n (lv' := [(2, .int (0 : Int32)), (0, .ref (ht 0)), (1, .int x1)]) hx hb dX10_wrongBy_17 rfl hl (by decide) rfl (fun ls hl => ?_)
  exact w_X10_wrongBy_18 l ht St St_order St_owned St_r St_told x1 C FU q3 (0 : Int32) H locs ls hf hP hD hS (lv_sub hl [1, 2, 0] rfl)
def b_X10_seekSets_116 (St_order : Nat → Int32) (St_owned : Nat → Int32) (St_r : Nat → Int32) (St_told : Nat → Int32) (x1 : Int32) (k48 : SMo → (Nat → Int32) → (Nat → Int32) → Int32 → Int32 → Option (Int32 × SMo × (Nat → Int32) × (Nat → Int32))) (k116 : SMo → (Nat → Int32) → (Nat → Int32) → Int32 → Int32 → Int32 → Option (Int32 × SMo × (Nat → Int32) × (Nat → Int32))) (St : SMo) (St_often : Nat → Int32) (St_trial : Nat → Int32) (v2 : Int32) (v3 : Int32) (v4 : Int32) : Option (Int32 × SMo × (Nat → Int32) × (Nat → Int32)) :=
  (if zib (4 : Int32) 140 then (if (St_r (4 : Int32).toNatClampNeg) ≤ v4 then
      (k48 St St_often St_trial v2 (v3 + (1 : Int32)))
      else
      (if zib v4 4 then (if zib v4 4 then (k116 St (upd St_often v4.toNatClampNeg ((St_often v4.toNatClampNeg) + ((v3 >>> (v4 &&& 31)) &&& (1 : Int32)))) St_trial v2 v3 (v4 + (1 : Int32))) else none) else none)) else none)
set_option maxHeartbeats 4000000 in
set_option maxRecDepth 100000 in
theorem w_X10_seekSets_116 {p : Program} {e : Env} {s : State} {m : MethodId} {below : List Frame} {meth : Method} {c : Code} {A : Nat → Prop} {D : va_G} {cy : Nat → ClassId} {args : Array Value} {r : Int32 × SMo × (Nat → Int32) × (Nat → Int32)} (l : Launch) (ht : Nat → Nat) (St_order : Nat → Int32) (St_owned : Nat → Int32) (St_r : Nat → Int32) (St_told : Nat → Int32) (x1 : Int32) {k48 : SMo → (Nat → Int32) → (Nat → Int32) → Int32 → Int32 → Option (Int32 × SMo × (Nat → Int32) × (Nat → Int32))} (C : zX p s m meth c cX10_seekSets 5 args RX10 (some FieldType.int) A D (zty cy))
    (K48 : ∀ (St : SMo) (St_often : Nat → Int32) (St_trial : Nat → Int32) (v2 : Int32) (v3 : Int32) (H : Heap) (locs : List Loc) (ls : Array Slot), k48 St St_often St_trial v2 v3 = some r → va_P D vwCl (wMo ht cy St ++ (wAI (fun _ => ht 17) cy 4 St_often ++ (wAI (fun _ => ht 15) cy 8 St_order ++ (wAI (fun _ => ht 8) cy 64 St_owned ++ (wAI (fun _ => ht 3) cy 140 St_r ++ (wAI (fun _ => ht 5) cy 325 St_told ++ (wAI (fun _ => ht 10) cy 325 St_trial))))))) H → va_D A (wMo ht cy St ++ (wAI (fun _ => ht 17) cy 4 St_often ++ (wAI (fun _ => ht 15) cy 8 St_order ++ (wAI (fun _ => ht 8) cy 64 St_owned ++ (wAI (fun _ => ht 3) cy 140 St_r ++ (wAI (fun _ => ht 5) cy 325 St_told ++ (wAI (fun _ => ht 10) cy 325 St_trial))))))) → va_S A s.heap H locs → lv_has ls 5 [(0, .ref (ht 0)), (1, .int x1), (2, .int v2), (3, .int v3)] → W p l e (zRm 8 190) s m args below meth c H locs 0 0 (MQ below (zQI D (zty cy) A (wMo ht cy r.2.1 ++ (wAI (fun _ => ht 17) cy 4 r.2.2.1 ++ (wAI (fun _ => ht 15) cy 8 St_order ++ (wAI (fun _ => ht 8) cy 64 St_owned ++ (wAI (fun _ => ht 3) cy 140 St_r ++ (wAI (fun _ => ht 5) cy 325 St_told ++ (wAI (fun _ => ht 10) cy 325 r.2.2.2))))))) r.1) args s 0 0 A) (F0 m 48 ls [])) :
    ∀ (n : Nat) (St : SMo) (St_often : Nat → Int32) (St_trial : Nat → Int32) (v2 : Int32) (v3 : Int32) (v4 : Int32) (H : Heap) (locs : List Loc) (ls : Array Slot), zl6 (b_X10_seekSets_116 St_order St_owned St_r St_told x1 k48) n St St_often St_trial v2 v3 v4 = some r → va_P D vwCl (wMo ht cy St ++ (wAI (fun _ => ht 17) cy 4 St_often ++ (wAI (fun _ => ht 15) cy 8 St_order ++ (wAI (fun _ => ht 8) cy 64 St_owned ++ (wAI (fun _ => ht 3) cy 140 St_r ++ (wAI (fun _ => ht 5) cy 325 St_told ++ (wAI (fun _ => ht 10) cy 325 St_trial))))))) H → va_D A (wMo ht cy St ++ (wAI (fun _ => ht 17) cy 4 St_often ++ (wAI (fun _ => ht 15) cy 8 St_order ++ (wAI (fun _ => ht 8) cy 64 St_owned ++ (wAI (fun _ => ht 3) cy 140 St_r ++ (wAI (fun _ => ht 5) cy 325 St_told ++ (wAI (fun _ => ht 10) cy 325 St_trial))))))) → va_S A s.heap H locs → lv_has ls 5 [(0, .ref (ht 0)), (1, .int x1), (2, .int v2), (3, .int v3), (4, .int v4)] → W p l e (zRm 8 190) s m args below meth c H locs 0 0 (MQ below (zQI D (zty cy) A (wMo ht cy r.2.1 ++ (wAI (fun _ => ht 17) cy 4 r.2.2.1 ++ (wAI (fun _ => ht 15) cy 8 St_order ++ (wAI (fun _ => ht 8) cy 64 St_owned ++ (wAI (fun _ => ht 3) cy 140 St_r ++ (wAI (fun _ => ht 5) cy 325 St_told ++ (wAI (fun _ => ht 10) cy 325 r.2.2.2))))))) r.1) args s 0 0 A) (F0 m 116 ls []) := by
  obtain ⟨hx, hb, hr, hts, hown, hlocks, hml, hA, hK⟩ := id C
  intro n
  induction n with
  | zero => intro St St_often St_trial v2 v3 v4 H locs ls hf; exact zno hf
  | succ n ih =>
    intro St St_often St_trial v2 v3 v4 H locs ls hf hP hD hS hl
    have hf : b_X10_seekSets_116 St_order St_owned St_r St_told x1 k48 (zl6 (b_X10_seekSets_116 St_order St_owned St_r St_told x1 k48) n) St St_often St_trial v2 v3 v4 = some r := hf
    have K116 := ih
    refine lv_iload hx hb dX10_seekSets_116 (lv_at hl 4 rfl) ?_
    refine lv_aload_n hx hb dX10_seekSets_118 rfl (lv_at hl 0 rfl) ?_
    refine va_get (D := D) (ci := 6) (v := .ref (ht 3)) (C := RX10) (T := TX10) (N := 41) hx hb hts in_X10 hown hK hP 0 rfl rfl 15 (by decide) (hts _ q6_60) (fun _ h9 => h9) rfl dX10_seekSets_119 ?_
    refine lv_iconst (v := (4 : Int32)) hx hb dX10_seekSets_122 (by decide) ?_
    refine z_iald (f := St_r) hx hb hK hP 4 0 rfl rfl dX10_seekSets_123 hf (fun hf => ?_)
    refine z_icmp_ge (tgt := 149) hx hb dX10_seekSets_124 (by decide) hf (fun hf => ?_) (fun hf => ?_)
    · refine lv_iinc (v := (v3 + (1 : Int32))) (lv' := [(3, .int (v3 + (1 : Int32))), (0, .ref (ht 0)), (1, .int x1), (2, .int v2), (4, .int v4)]) hx hb dX10_seekSets_149 hl (k := 3) rfl rfl (by decide) rfl (fun ls hl => ?_)
      refine lv_goto (tgt := 48) hx hb dX10_seekSets_152 (by decide) ?_
      exact K48 St St_often St_trial v2 (v3 + (1 : Int32)) H locs ls hf hP hD hS (lv_sub hl [1, 2, 3, 0] rfl)
    · refine lv_aload_n hx hb dX10_seekSets_127 rfl (lv_at hl 0 rfl) ?_
      refine va_get (D := D) (ci := 6) (v := .ref (ht 17)) (C := RX10) (T := TX10) (N := 41) hx hb hts in_X10 hown hK hP 0 rfl rfl 33 (by decide) (hts _ q6_78) (fun _ h9 => h9) rfl dX10_seekSets_128 ?_
      refine lv_iload hx hb dX10_seekSets_131 (lv_at hl 4 rfl) ?_
      refine lv_dup2_11 hx hb dX10_seekSets_133 rfl rfl ?_
      refine z_iald (f := St_often) hx hb hK hP 1 0 rfl rfl dX10_seekSets_134 hf (fun hf => ?_)
      refine lv_iload_n hx hb dX10_seekSets_135 rfl (lv_at hl 3 rfl) ?_
      refine lv_iload hx hb dX10_seekSets_136 (lv_at hl 4 rfl) ?_
      refine lv_ishr hx hb dX10_seekSets_138 ?_
      refine lv_iconst (v := (1 : Int32)) hx hb dX10_seekSets_139 (by decide) ?_
      refine lv_iand hx hb dX10_seekSets_140 ?_
      refine lv_iadd hx hb dX10_seekSets_141 ?_
      refine z_iast (f := St_often) (w2 := wMo ht cy St ++ (wAI (fun _ => ht 17) cy 4 (upd St_often v4.toNatClampNeg ((St_often v4.toNatClampNeg) + ((v3 >>> (v4 &&& 31)) &&& (1 : Int32)))) ++ (wAI (fun _ => ht 15) cy 8 St_order ++ (wAI (fun _ => ht 8) cy 64 St_owned ++ (wAI (fun _ => ht 3) cy 140 St_r ++ (wAI (fun _ => ht 5) cy 325 St_told ++ (wAI (fun _ => ht 10) cy 325 St_trial))))))) hx hb hK hP hD hS 1 0 rfl rfl dX10_seekSets_142 hf rfl (fun hf H locs hP hD hS => ?_)
      refine lv_iinc (v := (v4 + (1 : Int32))) (lv' := [(4, .int (v4 + (1 : Int32))), (0, .ref (ht 0)), (1, .int x1), (2, .int v2), (3, .int v3)]) hx hb dX10_seekSets_143 hl (k := 4) rfl rfl (by decide) rfl (fun ls hl => ?_)
      refine lv_goto (tgt := 116) hx hb dX10_seekSets_146 (by decide) ?_
      exact K116 St (upd St_often v4.toNatClampNeg ((St_often v4.toNatClampNeg) + ((v3 >>> (v4 &&& 31)) &&& (1 : Int32)))) St_trial v2 v3 (v4 + (1 : Int32)) H locs ls hf hP hD hS (lv_sub hl [1, 2, 3, 4, 0] rfl)
def b_X10_seekSets_83 (St_order : Nat → Int32) (St_owned : Nat → Int32) (St_r : Nat → Int32) (St_told : Nat → Int32) (x1 : Int32) (k48 : SMo → (Nat → Int32) → (Nat → Int32) → Int32 → Int32 → Option (Int32 × SMo × (Nat → Int32) × (Nat → Int32))) (St : SMo) (St_often : Nat → Int32) (St_trial : Nat → Int32) (v2 : Int32) (v3 : Int32) : Option (Int32 × SMo × (Nat → Int32) × (Nat → Int32)) :=
  (zl6 (b_X10_seekSets_116 St_order St_owned St_r St_told x1 k48) FU (mkMo (Mo_thrown St) (Mo_taped St) (Mo_size St) (Mo_at St) (Mo_end St) (Mo_token St) (Mo_whole St) (Mo_nameSize St) (Mo_fault St) (Mo_place St) (Mo_trouble St) (Mo_failed St) (Mo_hasStore St) (Mo_undos St) (Mo_images St) (Mo_ring St) (Mo_refused St) ((Mo_setMany St) + (1 : Int32)) ((Mo_someOf St) ||| v3) ((Mo_allOf St) &&& v3) (Mo_firstRest St) (Mo_allWeight St) (Mo_seenWeight St) (Mo_sumWeight St)) St_often St_trial v2 v3 (0 : Int32))
set_option maxHeartbeats 4000000 in
set_option maxRecDepth 100000 in
theorem w_X10_seekSets_83 {p : Program} {e : Env} {s : State} {m : MethodId} {below : List Frame} {meth : Method} {c : Code} {A : Nat → Prop} {D : va_G} {cy : Nat → ClassId} {args : Array Value} {r : Int32 × SMo × (Nat → Int32) × (Nat → Int32)} (l : Launch) (ht : Nat → Nat) (St_order : Nat → Int32) (St_owned : Nat → Int32) (St_r : Nat → Int32) (St_told : Nat → Int32) (x1 : Int32) {k48 : SMo → (Nat → Int32) → (Nat → Int32) → Int32 → Int32 → Option (Int32 × SMo × (Nat → Int32) × (Nat → Int32))} (C : zX p s m meth c cX10_seekSets 5 args RX10 (some FieldType.int) A D (zty cy))
    (K48 : ∀ (St : SMo) (St_often : Nat → Int32) (St_trial : Nat → Int32) (v2 : Int32) (v3 : Int32) (H : Heap) (locs : List Loc) (ls : Array Slot), k48 St St_often St_trial v2 v3 = some r → va_P D vwCl (wMo ht cy St ++ (wAI (fun _ => ht 17) cy 4 St_often ++ (wAI (fun _ => ht 15) cy 8 St_order ++ (wAI (fun _ => ht 8) cy 64 St_owned ++ (wAI (fun _ => ht 3) cy 140 St_r ++ (wAI (fun _ => ht 5) cy 325 St_told ++ (wAI (fun _ => ht 10) cy 325 St_trial))))))) H → va_D A (wMo ht cy St ++ (wAI (fun _ => ht 17) cy 4 St_often ++ (wAI (fun _ => ht 15) cy 8 St_order ++ (wAI (fun _ => ht 8) cy 64 St_owned ++ (wAI (fun _ => ht 3) cy 140 St_r ++ (wAI (fun _ => ht 5) cy 325 St_told ++ (wAI (fun _ => ht 10) cy 325 St_trial))))))) → va_S A s.heap H locs → lv_has ls 5 [(0, .ref (ht 0)), (1, .int x1), (2, .int v2), (3, .int v3)] → W p l e (zRm 8 190) s m args below meth c H locs 0 0 (MQ below (zQI D (zty cy) A (wMo ht cy r.2.1 ++ (wAI (fun _ => ht 17) cy 4 r.2.2.1 ++ (wAI (fun _ => ht 15) cy 8 St_order ++ (wAI (fun _ => ht 8) cy 64 St_owned ++ (wAI (fun _ => ht 3) cy 140 St_r ++ (wAI (fun _ => ht 5) cy 325 St_told ++ (wAI (fun _ => ht 10) cy 325 r.2.2.2))))))) r.1) args s 0 0 A) (F0 m 48 ls [])) :
    ∀ (St : SMo) (St_often : Nat → Int32) (St_trial : Nat → Int32) (v2 : Int32) (v3 : Int32) (H : Heap) (locs : List Loc) (ls : Array Slot), b_X10_seekSets_83 St_order St_owned St_r St_told x1 k48 St St_often St_trial v2 v3 = some r → va_P D vwCl (wMo ht cy St ++ (wAI (fun _ => ht 17) cy 4 St_often ++ (wAI (fun _ => ht 15) cy 8 St_order ++ (wAI (fun _ => ht 8) cy 64 St_owned ++ (wAI (fun _ => ht 3) cy 140 St_r ++ (wAI (fun _ => ht 5) cy 325 St_told ++ (wAI (fun _ => ht 10) cy 325 St_trial))))))) H → va_D A (wMo ht cy St ++ (wAI (fun _ => ht 17) cy 4 St_often ++ (wAI (fun _ => ht 15) cy 8 St_order ++ (wAI (fun _ => ht 8) cy 64 St_owned ++ (wAI (fun _ => ht 3) cy 140 St_r ++ (wAI (fun _ => ht 5) cy 325 St_told ++ (wAI (fun _ => ht 10) cy 325 St_trial))))))) → va_S A s.heap H locs → lv_has ls 5 [(0, .ref (ht 0)), (1, .int x1), (2, .int v2), (3, .int v3)] → W p l e (zRm 8 190) s m args below meth c H locs 0 0 (MQ below (zQI D (zty cy) A (wMo ht cy r.2.1 ++ (wAI (fun _ => ht 17) cy 4 r.2.2.1 ++ (wAI (fun _ => ht 15) cy 8 St_order ++ (wAI (fun _ => ht 8) cy 64 St_owned ++ (wAI (fun _ => ht 3) cy 140 St_r ++ (wAI (fun _ => ht 5) cy 325 St_told ++ (wAI (fun _ => ht 10) cy 325 r.2.2.2))))))) r.1) args s 0 0 A) (F0 m 83 ls []) := by
  obtain ⟨hx, hb, hr, hts, hown, hlocks, hml, hA, hK⟩ := id C
  intro St St_often St_trial v2 v3 H locs ls hf hP hD hS hl
  refine lv_aload_n hx hb dX10_seekSets_83 rfl (lv_at hl 0 rfl) ?_
  refine lv_dup hx hb dX10_seekSets_84 rfl ?_
  refine va_get (D := D) (ci := 6) (v := .int (Mo_setMany St)) (C := RX10) (T := TX10) (N := 41) hx hb hts in_X10 hown hK hP 0 rfl rfl 34 (by decide) (hts _ q6_79) (fun _ h9 => h9) rfl dX10_seekSets_85 ?_
  refine lv_iconst (v := (1 : Int32)) hx hb dX10_seekSets_88 (by decide) ?_
  refine lv_iadd hx hb dX10_seekSets_89 ?_
  refine z_put (w2 := vMo ht cy (Mo_thrown St) (Mo_taped St) (Mo_size St) (Mo_at St) (Mo_end St) (Mo_token St) (Mo_whole St) (Mo_nameSize St) (Mo_fault St) (Mo_place St) (Mo_trouble St) (Mo_failed St) (Mo_hasStore St) (Mo_undos St) (Mo_images St) (Mo_ring St) (Mo_refused St) ((Mo_setMany St) + (1 : Int32)) (Mo_someOf St) (Mo_allOf St) (Mo_firstRest St) (Mo_allWeight St) (Mo_seenWeight St) (Mo_sumWeight St) ++ (wAI (fun _ => ht 17) cy 4 St_often ++ (wAI (fun _ => ht 15) cy 8 St_order ++ (wAI (fun _ => ht 8) cy 64 St_owned ++ (wAI (fun _ => ht 3) cy 140 St_r ++ (wAI (fun _ => ht 5) cy 325 St_told ++ (wAI (fun _ => ht 10) cy 325 St_trial))))))) hx hb hts in_X10 tyX10 tyX10_ok nmX10 hown hK hP hD hS 0 rfl rfl 34 (by decide) (hts _ q6_79) (fun _ h9 => h9) rfl rfl rfl (Nat.le_of_ble_eq_true rfl) dX10_seekSets_90 rfl (fun H locs hP hD hS => ?_)
  refine lv_aload_n hx hb dX10_seekSets_93 rfl (lv_at hl 0 rfl) ?_
  refine lv_dup hx hb dX10_seekSets_94 rfl ?_
  refine va_get (D := D) (ci := 6) (v := .int (Mo_someOf St)) (C := RX10) (T := TX10) (N := 41) hx hb hts in_X10 hown hK hP 0 rfl rfl 35 (by decide) (hts _ q6_80) (fun _ h9 => h9) rfl dX10_seekSets_95 ?_
  refine lv_iload_n hx hb dX10_seekSets_98 rfl (lv_at hl 3 rfl) ?_
  refine lv_ior hx hb dX10_seekSets_99 ?_
  refine z_put (w2 := vMo ht cy (Mo_thrown St) (Mo_taped St) (Mo_size St) (Mo_at St) (Mo_end St) (Mo_token St) (Mo_whole St) (Mo_nameSize St) (Mo_fault St) (Mo_place St) (Mo_trouble St) (Mo_failed St) (Mo_hasStore St) (Mo_undos St) (Mo_images St) (Mo_ring St) (Mo_refused St) ((Mo_setMany St) + (1 : Int32)) ((Mo_someOf St) ||| v3) (Mo_allOf St) (Mo_firstRest St) (Mo_allWeight St) (Mo_seenWeight St) (Mo_sumWeight St) ++ (wAI (fun _ => ht 17) cy 4 St_often ++ (wAI (fun _ => ht 15) cy 8 St_order ++ (wAI (fun _ => ht 8) cy 64 St_owned ++ (wAI (fun _ => ht 3) cy 140 St_r ++ (wAI (fun _ => ht 5) cy 325 St_told ++ (wAI (fun _ => ht 10) cy 325 St_trial))))))) hx hb hts in_X10 tyX10 tyX10_ok nmX10 hown hK hP hD hS 0 rfl rfl 35 (by decide) (hts _ q6_80) (fun _ h9 => h9) rfl rfl rfl (Nat.le_of_ble_eq_true rfl) dX10_seekSets_100 rfl (fun H locs hP hD hS => ?_)
  refine lv_aload_n hx hb dX10_seekSets_103 rfl (lv_at hl 0 rfl) ?_
  refine lv_dup hx hb dX10_seekSets_104 rfl ?_
  refine va_get (D := D) (ci := 6) (v := .int (Mo_allOf St)) (C := RX10) (T := TX10) (N := 41) hx hb hts in_X10 hown hK hP 0 rfl rfl 36 (by decide) (hts _ q6_81) (fun _ h9 => h9) rfl dX10_seekSets_105 ?_
  refine lv_iload_n hx hb dX10_seekSets_108 rfl (lv_at hl 3 rfl) ?_
  refine lv_iand hx hb dX10_seekSets_109 ?_
  refine z_put (w2 := vMo ht cy (Mo_thrown St) (Mo_taped St) (Mo_size St) (Mo_at St) (Mo_end St) (Mo_token St) (Mo_whole St) (Mo_nameSize St) (Mo_fault St) (Mo_place St) (Mo_trouble St) (Mo_failed St) (Mo_hasStore St) (Mo_undos St) (Mo_images St) (Mo_ring St) (Mo_refused St) ((Mo_setMany St) + (1 : Int32)) ((Mo_someOf St) ||| v3) ((Mo_allOf St) &&& v3) (Mo_firstRest St) (Mo_allWeight St) (Mo_seenWeight St) (Mo_sumWeight St) ++ (wAI (fun _ => ht 17) cy 4 St_often ++ (wAI (fun _ => ht 15) cy 8 St_order ++ (wAI (fun _ => ht 8) cy 64 St_owned ++ (wAI (fun _ => ht 3) cy 140 St_r ++ (wAI (fun _ => ht 5) cy 325 St_told ++ (wAI (fun _ => ht 10) cy 325 St_trial))))))) hx hb hts in_X10 tyX10 tyX10_ok nmX10 hown hK hP hD hS 0 rfl rfl 36 (by decide) (hts _ q6_81) (fun _ h9 => h9) rfl rfl rfl (Nat.le_of_ble_eq_true rfl) dX10_seekSets_110 rfl (fun H locs hP hD hS => ?_)
  refine lv_iconst (v := (0 : Int32)) hx hb dX10_seekSets_113 (by decide) ?_
  refine lv_istore (lv' := [(4, .int (0 : Int32)), (0, .ref (ht 0)), (1, .int x1), (2, .int v2), (3, .int v3)]) hx hb dX10_seekSets_114 hl (by decide) rfl (fun ls hl => ?_)
  rw [← wMo_mk ht] at hP hD
  exact w_X10_seekSets_116 l ht St_order St_owned St_r St_told x1 C K48 FU (mkMo (Mo_thrown St) (Mo_taped St) (Mo_size St) (Mo_at St) (Mo_end St) (Mo_token St) (Mo_whole St) (Mo_nameSize St) (Mo_fault St) (Mo_place St) (Mo_trouble St) (Mo_failed St) (Mo_hasStore St) (Mo_undos St) (Mo_images St) (Mo_ring St) (Mo_refused St) ((Mo_setMany St) + (1 : Int32)) ((Mo_someOf St) ||| v3) ((Mo_allOf St) &&& v3) (Mo_firstRest St) (Mo_allWeight St) (Mo_seenWeight St) (Mo_sumWeight St)) St_often St_trial v2 v3 (0 : Int32) H locs ls hf hP hD hS (lv_sub hl [1, 2, 3, 4, 0] rfl)
def b_X10_seekSets_48 (St_order : Nat → Int32) (St_owned : Nat → Int32) (St_r : Nat → Int32) (St_told : Nat → Int32) (x1 : Int32) (k48 : SMo → (Nat → Int32) → (Nat → Int32) → Int32 → Int32 → Option (Int32 × SMo × (Nat → Int32) × (Nat → Int32))) (St : SMo) (St_often : Nat → Int32) (St_trial : Nat → Int32) (v2 : Int32) (v3 : Int32) : Option (Int32 × SMo × (Nat → Int32) × (Nat → Int32)) :=
  (if zib (4 : Int32) 140 then (if ((1 : Int32) <<< ((St_r (4 : Int32).toNatClampNeg) &&& 31)) ≤ v3 then
      (if (Mo_setMany St) = 0 then
        some (v2, (mkMo (Mo_thrown St) (Mo_taped St) (Mo_size St) (Mo_at St) (Mo_end St) (Mo_token St) (Mo_whole St) (Mo_nameSize St) (Mo_fault St) (Mo_place St) (Mo_trouble St) (Mo_failed St) (Mo_hasStore St) (Mo_undos St) (Mo_images St) (Mo_ring St) (Mo_refused St) (Mo_setMany St) (Mo_someOf St) (0 : Int32) (Mo_firstRest St) (Mo_allWeight St) (Mo_seenWeight St) (Mo_sumWeight St)), St_often, St_trial)
        else
        some (v2, St, St_often, St_trial))
      else
      (f_X10_wrongBy St St_order St_owned St_r St_told St_trial v3).bind (fun q1 =>
        (if q1.1 = (-2 : Int32) then
          (if (Mo_setMany St) = x1 then
            (b_X10_seekSets_83 St_order St_owned St_r St_told x1 k48 St St_often q1.2 v3 v3)
            else
            (b_X10_seekSets_83 St_order St_owned St_r St_told x1 k48 St St_often q1.2 v2 v3))
          else
          (k48 St St_often q1.2 v2 (v3 + (1 : Int32)))))) else none)
set_option maxHeartbeats 4000000 in
set_option maxRecDepth 100000 in
theorem w_X10_seekSets_48 {p : Program} {e : Env} {s : State} {m : MethodId} {below : List Frame} {meth : Method} {c : Code} {A : Nat → Prop} {D : va_G} {cy : Nat → ClassId} {args : Array Value} {r : Int32 × SMo × (Nat → Int32) × (Nat → Int32)} (l : Launch) (ht : Nat → Nat) (St_order : Nat → Int32) (St_owned : Nat → Int32) (St_r : Nat → Int32) (St_told : Nat → Int32) (x1 : Int32) (C : zX p s m meth c cX10_seekSets 5 args RX10 (some FieldType.int) A D (zty cy)) :
    ∀ (n : Nat) (St : SMo) (St_often : Nat → Int32) (St_trial : Nat → Int32) (v2 : Int32) (v3 : Int32) (H : Heap) (locs : List Loc) (ls : Array Slot), zl5 (b_X10_seekSets_48 St_order St_owned St_r St_told x1) n St St_often St_trial v2 v3 = some r → va_P D vwCl (wMo ht cy St ++ (wAI (fun _ => ht 17) cy 4 St_often ++ (wAI (fun _ => ht 15) cy 8 St_order ++ (wAI (fun _ => ht 8) cy 64 St_owned ++ (wAI (fun _ => ht 3) cy 140 St_r ++ (wAI (fun _ => ht 5) cy 325 St_told ++ (wAI (fun _ => ht 10) cy 325 St_trial))))))) H → va_D A (wMo ht cy St ++ (wAI (fun _ => ht 17) cy 4 St_often ++ (wAI (fun _ => ht 15) cy 8 St_order ++ (wAI (fun _ => ht 8) cy 64 St_owned ++ (wAI (fun _ => ht 3) cy 140 St_r ++ (wAI (fun _ => ht 5) cy 325 St_told ++ (wAI (fun _ => ht 10) cy 325 St_trial))))))) → va_S A s.heap H locs → lv_has ls 5 [(0, .ref (ht 0)), (1, .int x1), (2, .int v2), (3, .int v3)] → W p l e (zRm 8 190) s m args below meth c H locs 0 0 (MQ below (zQI D (zty cy) A (wMo ht cy r.2.1 ++ (wAI (fun _ => ht 17) cy 4 r.2.2.1 ++ (wAI (fun _ => ht 15) cy 8 St_order ++ (wAI (fun _ => ht 8) cy 64 St_owned ++ (wAI (fun _ => ht 3) cy 140 St_r ++ (wAI (fun _ => ht 5) cy 325 St_told ++ (wAI (fun _ => ht 10) cy 325 r.2.2.2))))))) r.1) args s 0 0 A) (F0 m 48 ls []) := by
  obtain ⟨hx, hb, hr, hts, hown, hlocks, hml, hA, hK⟩ := id C
  intro n
  induction n with
  | zero => intro St St_often St_trial v2 v3 H locs ls hf; exact zno hf
  | succ n ih =>
    intro St St_often St_trial v2 v3 H locs ls hf hP hD hS hl
    have hf : b_X10_seekSets_48 St_order St_owned St_r St_told x1 (zl5 (b_X10_seekSets_48 St_order St_owned St_r St_told x1) n) St St_often St_trial v2 v3 = some r := hf
    have K48 := ih
    refine lv_iload_n hx hb dX10_seekSets_48 rfl (lv_at hl 3 rfl) ?_
    refine lv_iconst (v := (1 : Int32)) hx hb dX10_seekSets_49 (by decide) ?_
    refine lv_aload_n hx hb dX10_seekSets_50 rfl (lv_at hl 0 rfl) ?_
    refine va_get (D := D) (ci := 6) (v := .ref (ht 3)) (C := RX10) (T := TX10) (N := 41) hx hb hts in_X10 hown hK hP 0 rfl rfl 15 (by decide) (hts _ q6_60) (fun _ h9 => h9) rfl dX10_seekSets_51 ?_
    refine lv_iconst (v := (4 : Int32)) hx hb dX10_seekSets_54 (by decide) ?_
    refine z_iald (f := St_r) hx hb hK hP 4 0 rfl rfl dX10_seekSets_55 hf (fun hf => ?_)
    refine lv_ishl hx hb dX10_seekSets_56 ?_
    refine z_icmp_ge (tgt := 155) hx hb dX10_seekSets_57 (by decide) hf (fun hf => ?_) (fun hf => ?_)
    · refine lv_aload_n hx hb dX10_seekSets_155 rfl (lv_at hl 0 rfl) ?_
      refine va_get (D := D) (ci := 6) (v := .int (Mo_setMany St)) (C := RX10) (T := TX10) (N := 41) hx hb hts in_X10 hown hK hP 0 rfl rfl 34 (by decide) (hts _ q6_79) (fun _ h9 => h9) rfl dX10_seekSets_156 ?_
      refine z_if_ne (tgt := 167) hx hb dX10_seekSets_159 (by decide) hf (fun hf => ?_) (fun hf => ?_)
      · refine lv_iload_n hx hb dX10_seekSets_167 rfl (lv_at hl 2 rfl) ?_
        obtain rfl := Option.some.inj hf
        exact z_iret (v := v2) C hP hD hS dX10_seekSets_168
      · refine lv_aload_n hx hb dX10_seekSets_162 rfl (lv_at hl 0 rfl) ?_
        refine lv_iconst (v := (0 : Int32)) hx hb dX10_seekSets_163 (by decide) ?_
        refine z_put (w2 := vMo ht cy (Mo_thrown St) (Mo_taped St) (Mo_size St) (Mo_at St) (Mo_end St) (Mo_token St) (Mo_whole St) (Mo_nameSize St) (Mo_fault St) (Mo_place St) (Mo_trouble St) (Mo_failed St) (Mo_hasStore St) (Mo_undos St) (Mo_images St) (Mo_ring St) (Mo_refused St) (Mo_setMany St) (Mo_someOf St) (0 : Int32) (Mo_firstRest St) (Mo_allWeight St) (Mo_seenWeight St) (Mo_sumWeight St) ++ (wAI (fun _ => ht 17) cy 4 St_often ++ (wAI (fun _ => ht 15) cy 8 St_order ++ (wAI (fun _ => ht 8) cy 64 St_owned ++ (wAI (fun _ => ht 3) cy 140 St_r ++ (wAI (fun _ => ht 5) cy 325 St_told ++ (wAI (fun _ => ht 10) cy 325 St_trial))))))) hx hb hts in_X10 tyX10 tyX10_ok nmX10 hown hK hP hD hS 0 rfl rfl 36 (by decide) (hts _ q6_81) (fun _ h9 => h9) rfl rfl rfl (Nat.le_of_ble_eq_true rfl) dX10_seekSets_164 rfl (fun H locs hP hD hS => ?_)
        refine lv_iload_n hx hb dX10_seekSets_167 rfl (lv_at hl 2 rfl) ?_
        obtain rfl := Option.some.inj hf
        rw [← wMo_mk ht] at hP hD
        exact z_iret (v := v2) C hP hD hS dX10_seekSets_168
    · refine lv_aload_n hx hb dX10_seekSets_60 rfl (lv_at hl 0 rfl) ?_
      refine lv_iload_n hx hb dX10_seekSets_61 rfl (lv_at hl 3 rfl) ?_
      obtain ⟨q1, hc, hf⟩ := zbd hf
      refine z_cVi (As := [.int v3]) (rest := []) C (c_X10_wrongBy l D cy ht St St_order St_owned St_r St_told St_trial v3 q1 hc) gV_X10_X10_wrongBy hd_X10_wrongBy ⟨Nat.le_of_ble_eq_true rfl, Nat.le_of_ble_eq_true rfl⟩ ⟨Nat.le_refl _, Nat.le_refl _⟩ (va_recv hK hP (ci := 6) (q0 := 0) rfl rfl) hP hD hS (w2 := wMo ht cy St ++ (wAI (fun _ => ht 17) cy 4 St_often ++ (wAI (fun _ => ht 15) cy 8 St_order ++ (wAI (fun _ => ht 8) cy 64 St_owned ++ (wAI (fun _ => ht 3) cy 140 St_r ++ (wAI (fun _ => ht 5) cy 325 St_told ++ (wAI (fun _ => ht 10) cy 325 q1.2))))))) [0, 2, 3, 4, 5, 6] [1] [1, 0, 2, 3, 4, 5, 6] rfl rfl rfl rfl rfl rfl (by decide) hl.1 (Nat.le_of_ble_eq_true rfl) dX10_seekSets_62 (fun H locs hP hD hS => ?_)
      refine lv_bipush (v := (-2 : Int32)) hx hb dX10_seekSets_65 (by decide) ?_
      refine z_icmp_eq (tgt := 73) hx hb dX10_seekSets_67 (by decide) hf (fun hf => ?_) (fun hf => ?_)
      · refine lv_aload_n hx hb dX10_seekSets_73 rfl (lv_at hl 0 rfl) ?_
        refine va_get (D := D) (ci := 6) (v := .int (Mo_setMany St)) (C := RX10) (T := TX10) (N := 41) hx hb hts in_X10 hown hK hP 0 rfl rfl 34 (by decide) (hts _ q6_79) (fun _ h9 => h9) rfl dX10_seekSets_74 ?_
        refine lv_iload_n hx hb dX10_seekSets_77 rfl (lv_at hl 1 rfl) ?_
        refine z_icmp_ne (tgt := 83) hx hb dX10_seekSets_78 (by decide) hf (fun hf => ?_) (fun hf => ?_)
        · exact w_X10_seekSets_83 l ht St_order St_owned St_r St_told x1 C K48 St St_often q1.2 v2 v3 H locs ls hf hP hD hS (lv_sub hl [0, 1, 2, 3] rfl)
        · refine lv_iload_n hx hb dX10_seekSets_81 rfl (lv_at hl 3 rfl) ?_
          refine lv_istore_n (lv' := [(2, .int v3), (0, .ref (ht 0)), (1, .int x1), (3, .int v3)]) hx hb dX10_seekSets_82 rfl hl (by decide) rfl (fun ls hl => ?_)
          exact w_X10_seekSets_83 l ht St_order St_owned St_r St_told x1 C K48 St St_often q1.2 v3 v3 H locs ls hf hP hD hS (lv_sub hl [1, 2, 0, 3] rfl)
      · refine lv_goto (tgt := 149) hx hb dX10_seekSets_70 (by decide) ?_
        refine lv_iinc (v := (v3 + (1 : Int32))) (lv' := [(3, .int (v3 + (1 : Int32))), (0, .ref (ht 0)), (1, .int x1), (2, .int v2)]) hx hb dX10_seekSets_149 hl (k := 3) rfl rfl (by decide) rfl (fun ls hl => ?_)
        refine lv_goto (tgt := 48) hx hb dX10_seekSets_152 (by decide) ?_
        exact K48 St St_often q1.2 v2 (v3 + (1 : Int32)) H locs ls hf hP hD hS (lv_sub hl [1, 2, 3, 0] rfl)
def b_X10_seekSets_28 (St_order : Nat → Int32) (St_owned : Nat → Int32) (St_r : Nat → Int32) (St_told : Nat → Int32) (x1 : Int32) (k28 : SMo → (Nat → Int32) → (Nat → Int32) → Int32 → Int32 → Option (Int32 × SMo × (Nat → Int32) × (Nat → Int32))) (St : SMo) (St_often : Nat → Int32) (St_trial : Nat → Int32) (v2 : Int32) (v3 : Int32) : Option (Int32 × SMo × (Nat → Int32) × (Nat → Int32)) :=
  (if (4 : Int32) ≤ v3 then
    (zl5 (b_X10_seekSets_48 St_order St_owned St_r St_told x1) FU St St_often St_trial v2 (0 : Int32))
    else
    (if zib v3 4 then (k28 St (upd St_often v3.toNatClampNeg (0 : Int32)) St_trial v2 (v3 + (1 : Int32))) else none))
set_option maxHeartbeats 4000000 in
set_option maxRecDepth 100000 in
theorem w_X10_seekSets_28 {p : Program} {e : Env} {s : State} {m : MethodId} {below : List Frame} {meth : Method} {c : Code} {A : Nat → Prop} {D : va_G} {cy : Nat → ClassId} {args : Array Value} {r : Int32 × SMo × (Nat → Int32) × (Nat → Int32)} (l : Launch) (ht : Nat → Nat) (St_order : Nat → Int32) (St_owned : Nat → Int32) (St_r : Nat → Int32) (St_told : Nat → Int32) (x1 : Int32) (C : zX p s m meth c cX10_seekSets 5 args RX10 (some FieldType.int) A D (zty cy)) :
    ∀ (n : Nat) (St : SMo) (St_often : Nat → Int32) (St_trial : Nat → Int32) (v2 : Int32) (v3 : Int32) (H : Heap) (locs : List Loc) (ls : Array Slot), zl5 (b_X10_seekSets_28 St_order St_owned St_r St_told x1) n St St_often St_trial v2 v3 = some r → va_P D vwCl (wMo ht cy St ++ (wAI (fun _ => ht 17) cy 4 St_often ++ (wAI (fun _ => ht 15) cy 8 St_order ++ (wAI (fun _ => ht 8) cy 64 St_owned ++ (wAI (fun _ => ht 3) cy 140 St_r ++ (wAI (fun _ => ht 5) cy 325 St_told ++ (wAI (fun _ => ht 10) cy 325 St_trial))))))) H → va_D A (wMo ht cy St ++ (wAI (fun _ => ht 17) cy 4 St_often ++ (wAI (fun _ => ht 15) cy 8 St_order ++ (wAI (fun _ => ht 8) cy 64 St_owned ++ (wAI (fun _ => ht 3) cy 140 St_r ++ (wAI (fun _ => ht 5) cy 325 St_told ++ (wAI (fun _ => ht 10) cy 325 St_trial))))))) → va_S A s.heap H locs → lv_has ls 5 [(0, .ref (ht 0)), (1, .int x1), (2, .int v2), (3, .int v3)] → W p l e (zRm 8 190) s m args below meth c H locs 0 0 (MQ below (zQI D (zty cy) A (wMo ht cy r.2.1 ++ (wAI (fun _ => ht 17) cy 4 r.2.2.1 ++ (wAI (fun _ => ht 15) cy 8 St_order ++ (wAI (fun _ => ht 8) cy 64 St_owned ++ (wAI (fun _ => ht 3) cy 140 St_r ++ (wAI (fun _ => ht 5) cy 325 St_told ++ (wAI (fun _ => ht 10) cy 325 r.2.2.2))))))) r.1) args s 0 0 A) (F0 m 28 ls []) := by
  obtain ⟨hx, hb, hr, hts, hown, hlocks, hml, hA, hK⟩ := id C
  intro n
  induction n with
  | zero => intro St St_often St_trial v2 v3 H locs ls hf; exact zno hf
  | succ n ih =>
    intro St St_often St_trial v2 v3 H locs ls hf hP hD hS hl
    have hf : b_X10_seekSets_28 St_order St_owned St_r St_told x1 (zl5 (b_X10_seekSets_28 St_order St_owned St_r St_told x1) n) St St_often St_trial v2 v3 = some r := hf
    have K28 := ih
    refine lv_iload_n hx hb dX10_seekSets_28 rfl (lv_at hl 3 rfl) ?_
    refine lv_iconst (v := (4 : Int32)) hx hb dX10_seekSets_29 (by decide) ?_
    refine z_icmp_ge (tgt := 46) hx hb dX10_seekSets_30 (by decide) hf (fun hf => ?_) (fun hf => ?_)
    · refine lv_iconst (v := (0 : Int32)) hx hb dX10_seekSets_46 (by decide) ?_
      refine lv_istore_n (lv' := [(3, .int (0 : Int32)), (0, .ref (ht 0)), (1, .int x1), (2, .int v2)]) hx hb dX10_seekSets_47 rfl hl (by decide) rfl (fun ls hl => ?_)
      exact w_X10_seekSets_48 l ht St_order St_owned St_r St_told x1 C FU St St_often St_trial v2 (0 : Int32) H locs ls hf hP hD hS (lv_sub hl [1, 2, 3, 0] rfl)
    · refine lv_aload_n hx hb dX10_seekSets_33 rfl (lv_at hl 0 rfl) ?_
      refine va_get (D := D) (ci := 6) (v := .ref (ht 17)) (C := RX10) (T := TX10) (N := 41) hx hb hts in_X10 hown hK hP 0 rfl rfl 33 (by decide) (hts _ q6_78) (fun _ h9 => h9) rfl dX10_seekSets_34 ?_
      refine lv_iload_n hx hb dX10_seekSets_37 rfl (lv_at hl 3 rfl) ?_
      refine lv_iconst (v := (0 : Int32)) hx hb dX10_seekSets_38 (by decide) ?_
      refine z_iast (f := St_often) (w2 := wMo ht cy St ++ (wAI (fun _ => ht 17) cy 4 (upd St_often v3.toNatClampNeg (0 : Int32)) ++ (wAI (fun _ => ht 15) cy 8 St_order ++ (wAI (fun _ => ht 8) cy 64 St_owned ++ (wAI (fun _ => ht 3) cy 140 St_r ++ (wAI (fun _ => ht 5) cy 325 St_told ++ (wAI (fun _ => ht 10) cy 325 St_trial))))))) hx hb hK hP hD hS 1 0 rfl rfl dX10_seekSets_39 hf rfl (fun hf H locs hP hD hS => ?_)
      refine lv_iinc (v := (v3 + (1 : Int32))) (lv' := [(3, .int (v3 + (1 : Int32))), (0, .ref (ht 0)), (1, .int x1), (2, .int v2)]) hx hb dX10_seekSets_40 hl (k := 3) rfl rfl (by decide) rfl (fun ls hl => ?_)
      refine lv_goto (tgt := 28) hx hb dX10_seekSets_43 (by decide) ?_
      exact K28 St (upd St_often v3.toNatClampNeg (0 : Int32)) St_trial v2 (v3 + (1 : Int32)) H locs ls hf hP hD hS (lv_sub hl [1, 2, 3, 0] rfl)
def f_X10_seekSets (St : SMo) (St_often : Nat → Int32) (St_order : Nat → Int32) (St_owned : Nat → Int32) (St_r : Nat → Int32) (St_told : Nat → Int32) (St_trial : Nat → Int32) (x1 : Int32) : Option (Int32 × SMo × (Nat → Int32) × (Nat → Int32)) :=
  (if zib (4 : Int32) 140 then (zl5 (b_X10_seekSets_28 St_order St_owned St_r St_told x1) FU (mkMo (Mo_thrown St) (Mo_taped St) (Mo_size St) (Mo_at St) (Mo_end St) (Mo_token St) (Mo_whole St) (Mo_nameSize St) (Mo_fault St) (Mo_place St) (Mo_trouble St) (Mo_failed St) (Mo_hasStore St) (Mo_undos St) (Mo_images St) (Mo_ring St) (Mo_refused St) (0 : Int32) (0 : Int32) (((1 : Int32) <<< ((St_r (4 : Int32).toNatClampNeg) &&& 31)) - (1 : Int32)) (Mo_firstRest St) (Mo_allWeight St) (Mo_seenWeight St) (Mo_sumWeight St)) St_often St_trial (-1 : Int32) (0 : Int32)) else none)
set_option maxHeartbeats 4000000 in
set_option maxRecDepth 100000 in
theorem c_X10_seekSets (l : Launch) (D : va_G) (cy : Nat → ClassId) (ht : Nat → Nat) (St : SMo) (St_often : Nat → Int32) (St_order : Nat → Int32) (St_owned : Nat → Int32) (St_r : Nat → Int32) (St_told : Nat → Int32) (St_trial : Nat → Int32) (x1 : Int32) (r : Int32 × SMo × (Nat → Int32) × (Nat → Int32)) (hf : f_X10_seekSets St St_often St_order St_owned St_r St_told St_trial x1 = some r) : zCI l yX10_seekSets cX10_seekSets 5 (some FieldType.int) 8 190 D (zty cy) [.ref (ht 0), .int x1] (wMo ht cy St ++ (wAI (fun _ => ht 17) cy 4 St_often ++ (wAI (fun _ => ht 15) cy 8 St_order ++ (wAI (fun _ => ht 8) cy 64 St_owned ++ (wAI (fun _ => ht 3) cy 140 St_r ++ (wAI (fun _ => ht 5) cy 325 St_told ++ (wAI (fun _ => ht 10) cy 325 St_trial))))))) (wMo ht cy r.2.1 ++ (wAI (fun _ => ht 17) cy 4 r.2.2.1 ++ (wAI (fun _ => ht 15) cy 8 St_order ++ (wAI (fun _ => ht 8) cy 64 St_owned ++ (wAI (fun _ => ht 3) cy 140 St_r ++ (wAI (fun _ => ht 5) cy 325 St_told ++ (wAI (fun _ => ht 10) cy 325 r.2.2.2))))))) r.1 := by
  refine zCI_of (by decide +kernel) (Nat.le_of_ble_eq_true rfl) ?_
  intro p e s m below meth c A ls C hP hD hS hl
  generalize hargs : ([.ref (ht 0), .int x1] : List Value).toArray = args at C ⊢
  have C : zX p s m meth c cX10_seekSets 5 args RX10 (some FieldType.int) A D (zty cy) := C
  obtain ⟨hx, hb, hr, hts, hown, hlocks, hml, hA, hK⟩ := id C
  have hl : lv_has ls 5 [(0, .ref (ht 0)), (1, .int x1)] := hl
  generalize hH : s.heap = H at hP ⊢
  have hS : va_S A s.heap H [] := by rw [← hH]; exact hS
  generalize ([] : List Loc) = locs at hS ⊢
  refine lv_iconst (v := (-1 : Int32)) hx hb dX10_seekSets_0 (by decide) ?_
  refine lv_istore_n (lv' := [(2, .int (-1 : Int32)), (0, .ref (ht 0)), (1, .int x1)]) hx hb dX10_seekSets_1 rfl hl (by decide) rfl (fun ls hl => ?_)
  refine lv_aload_n hx hb dX10_seekSets_2 rfl (lv_at hl 1 rfl) ?_
  refine lv_iconst (v := (0 : Int32)) hx hb dX10_seekSets_3 (by decide) ?_
  refine z_put (w2 := vMo ht cy (Mo_thrown St) (Mo_taped St) (Mo_size St) (Mo_at St) (Mo_end St) (Mo_token St) (Mo_whole St) (Mo_nameSize St) (Mo_fault St) (Mo_place St) (Mo_trouble St) (Mo_failed St) (Mo_hasStore St) (Mo_undos St) (Mo_images St) (Mo_ring St) (Mo_refused St) (0 : Int32) (Mo_someOf St) (Mo_allOf St) (Mo_firstRest St) (Mo_allWeight St) (Mo_seenWeight St) (Mo_sumWeight St) ++ (wAI (fun _ => ht 17) cy 4 St_often ++ (wAI (fun _ => ht 15) cy 8 St_order ++ (wAI (fun _ => ht 8) cy 64 St_owned ++ (wAI (fun _ => ht 3) cy 140 St_r ++ (wAI (fun _ => ht 5) cy 325 St_told ++ (wAI (fun _ => ht 10) cy 325 St_trial))))))) hx hb hts in_X10 tyX10 tyX10_ok nmX10 hown hK hP hD hS 0 rfl rfl 34 (by decide) (hts _ q6_79) (fun _ h9 => h9) rfl rfl rfl (Nat.le_of_ble_eq_true rfl) dX10_seekSets_4 rfl (fun H locs hP hD hS => ?_)
  refine lv_aload_n hx hb dX10_seekSets_7 rfl (lv_at hl 1 rfl) ?_
  refine lv_iconst (v := (0 : Int32)) hx hb dX10_seekSets_8 (by decide) ?_
  refine z_put (w2 := vMo ht cy (Mo_thrown St) (Mo_taped St) (Mo_size St) (Mo_at St) (Mo_end St) (Mo_token St) (Mo_whole St) (Mo_nameSize St) (Mo_fault St) (Mo_place St) (Mo_trouble St) (Mo_failed St) (Mo_hasStore St) (Mo_undos St) (Mo_images St) (Mo_ring St) (Mo_refused St) (0 : Int32) (0 : Int32) (Mo_allOf St) (Mo_firstRest St) (Mo_allWeight St) (Mo_seenWeight St) (Mo_sumWeight St) ++ (wAI (fun _ => ht 17) cy 4 St_often ++ (wAI (fun _ => ht 15) cy 8 St_order ++ (wAI (fun _ => ht 8) cy 64 St_owned ++ (wAI (fun _ => ht 3) cy 140 St_r ++ (wAI (fun _ => ht 5) cy 325 St_told ++ (wAI (fun _ => ht 10) cy 325 St_trial))))))) hx hb hts in_X10 tyX10 tyX10_ok nmX10 hown hK hP hD hS 0 rfl rfl 35 (by decide) (hts _ q6_80) (fun _ h9 => h9) rfl rfl rfl (Nat.le_of_ble_eq_true rfl) dX10_seekSets_9 rfl (fun H locs hP hD hS => ?_)
  refine lv_aload_n hx hb dX10_seekSets_12 rfl (lv_at hl 1 rfl) ?_
  refine lv_iconst (v := (1 : Int32)) hx hb dX10_seekSets_13 (by decide) ?_
  refine lv_aload_n hx hb dX10_seekSets_14 rfl (lv_at hl 1 rfl) ?_
  refine va_get (D := D) (ci := 6) (v := .ref (ht 3)) (C := RX10) (T := TX10) (N := 41) hx hb hts in_X10 hown hK hP 0 rfl rfl 15 (by decide) (hts _ q6_60) (fun _ h9 => h9) rfl dX10_seekSets_15 ?_
  refine lv_iconst (v := (4 : Int32)) hx hb dX10_seekSets_18 (by decide) ?_
  refine z_iald (f := St_r) hx hb hK hP 4 0 rfl rfl dX10_seekSets_19 hf (fun hf => ?_)
  refine lv_ishl hx hb dX10_seekSets_20 ?_
  refine lv_iconst (v := (1 : Int32)) hx hb dX10_seekSets_21 (by decide) ?_
  refine lv_isub hx hb dX10_seekSets_22 ?_
  refine z_put (w2 := vMo ht cy (Mo_thrown St) (Mo_taped St) (Mo_size St) (Mo_at St) (Mo_end St) (Mo_token St) (Mo_whole St) (Mo_nameSize St) (Mo_fault St) (Mo_place St) (Mo_trouble St) (Mo_failed St) (Mo_hasStore St) (Mo_undos St) (Mo_images St) (Mo_ring St) (Mo_refused St) (0 : Int32) (0 : Int32) (((1 : Int32) <<< ((St_r (4 : Int32).toNatClampNeg) &&& 31)) - (1 : Int32)) (Mo_firstRest St) (Mo_allWeight St) (Mo_seenWeight St) (Mo_sumWeight St) ++ (wAI (fun _ => ht 17) cy 4 St_often ++ (wAI (fun _ => ht 15) cy 8 St_order ++ (wAI (fun _ => ht 8) cy 64 St_owned ++ (wAI (fun _ => ht 3) cy 140 St_r ++ (wAI (fun _ => ht 5) cy 325 St_told ++ (wAI (fun _ => ht 10) cy 325 St_trial))))))) hx hb hts in_X10 tyX10 tyX10_ok nmX10 hown hK hP hD hS 0 rfl rfl 36 (by decide) (hts _ q6_81) (fun _ h9 => h9) rfl rfl rfl (Nat.le_of_ble_eq_true rfl) dX10_seekSets_23 rfl (fun H locs hP hD hS => ?_)
  refine lv_iconst (v := (0 : Int32)) hx hb dX10_seekSets_26 (by decide) ?_
  refine lv_istore_n (lv' := [(3, .int (0 : Int32)), (2, .int (-1 : Int32)), (0, .ref (ht 0)), (1, .int x1)]) hx hb dX10_seekSets_27 rfl hl (by decide) rfl (fun ls hl => ?_)
  rw [← wMo_mk ht] at hP hD
  exact w_X10_seekSets_28 l ht St_order St_owned St_r St_told x1 C FU (mkMo (Mo_thrown St) (Mo_taped St) (Mo_size St) (Mo_at St) (Mo_end St) (Mo_token St) (Mo_whole St) (Mo_nameSize St) (Mo_fault St) (Mo_place St) (Mo_trouble St) (Mo_failed St) (Mo_hasStore St) (Mo_undos St) (Mo_images St) (Mo_ring St) (Mo_refused St) (0 : Int32) (0 : Int32) (((1 : Int32) <<< ((St_r (4 : Int32).toNatClampNeg) &&& 31)) - (1 : Int32)) (Mo_firstRest St) (Mo_allWeight St) (Mo_seenWeight St) (Mo_sumWeight St)) St_often St_trial (-1 : Int32) (0 : Int32) H locs ls hf hP hD hS (lv_sub hl [2, 3, 1, 0] rfl)
def f_X10_fits (St : SMo) (St_often : Nat → Int32) (St_order : Nat → Int32) (St_owned : Nat → Int32) (St_r : Nat → Int32) (St_told : Nat → Int32) (St_trial : Nat → Int32) : Option (Int32 × SMo × (Nat → Int32) × (Nat → Int32)) :=
  (f_X10_anew St).bind (fun q1 =>
    (if (Mo_hasStore q1) = 0 then
      (f_X10_no q1 (1 : Int32)).bind (fun q3 =>
        some (q3.1, q3.2, St_often, St_trial))
      else
      (f_X10_seekSets q1 St_often St_order St_owned St_r St_told St_trial (-1 : Int32)).bind (fun q2 =>
        some ((Mo_setMany q2.2.1), q2.2.1, q2.2.2.1, q2.2.2.2))))
set_option maxHeartbeats 4000000 in
set_option maxRecDepth 100000 in
theorem c_X10_fits (l : Launch) (D : va_G) (cy : Nat → ClassId) (ht : Nat → Nat) (St : SMo) (St_often : Nat → Int32) (St_order : Nat → Int32) (St_owned : Nat → Int32) (St_r : Nat → Int32) (St_told : Nat → Int32) (St_trial : Nat → Int32) (r : Int32 × SMo × (Nat → Int32) × (Nat → Int32)) (hf : f_X10_fits St St_often St_order St_owned St_r St_told St_trial = some r) : zCI l yX10_fits cX10_fits 1 (some FieldType.int) 9 214 D (zty cy) [.ref (ht 0)] (wMo ht cy St ++ (wAI (fun _ => ht 17) cy 4 St_often ++ (wAI (fun _ => ht 15) cy 8 St_order ++ (wAI (fun _ => ht 8) cy 64 St_owned ++ (wAI (fun _ => ht 3) cy 140 St_r ++ (wAI (fun _ => ht 5) cy 325 St_told ++ (wAI (fun _ => ht 10) cy 325 St_trial))))))) (wMo ht cy r.2.1 ++ (wAI (fun _ => ht 17) cy 4 r.2.2.1 ++ (wAI (fun _ => ht 15) cy 8 St_order ++ (wAI (fun _ => ht 8) cy 64 St_owned ++ (wAI (fun _ => ht 3) cy 140 St_r ++ (wAI (fun _ => ht 5) cy 325 St_told ++ (wAI (fun _ => ht 10) cy 325 r.2.2.2))))))) r.1 := by
  refine zCI_of (by decide +kernel) (Nat.le_of_ble_eq_true rfl) ?_
  intro p e s m below meth c A ls C hP hD hS hl
  generalize hargs : ([.ref (ht 0)] : List Value).toArray = args at C ⊢
  have C : zX p s m meth c cX10_fits 1 args RX10 (some FieldType.int) A D (zty cy) := C
  obtain ⟨hx, hb, hr, hts, hown, hlocks, hml, hA, hK⟩ := id C
  have hl : lv_has ls 1 [(0, .ref (ht 0))] := hl
  generalize hH : s.heap = H at hP ⊢
  have hS : va_S A s.heap H [] := by rw [← hH]; exact hS
  generalize ([] : List Loc) = locs at hS ⊢
  refine lv_aload_n hx hb dX10_fits_0 rfl (lv_at hl 0 rfl) ?_
  obtain ⟨q1, hc, hf⟩ := zbd hf
  refine z_cVv (As := []) (rest := []) C (c_X10_anew l D cy ht St q1 hc) gV_X10_X10_anew hd_X10_anew ⟨Nat.le_of_ble_eq_true rfl, Nat.le_of_ble_eq_true rfl⟩ ⟨Nat.le_refl _, Nat.le_refl _⟩ (va_recv hK hP (ci := 6) (q0 := 0) rfl rfl) hP hD hS (w2 := wMo ht cy q1 ++ (wAI (fun _ => ht 17) cy 4 St_often ++ (wAI (fun _ => ht 15) cy 8 St_order ++ (wAI (fun _ => ht 8) cy 64 St_owned ++ (wAI (fun _ => ht 3) cy 140 St_r ++ (wAI (fun _ => ht 5) cy 325 St_told ++ (wAI (fun _ => ht 10) cy 325 St_trial))))))) [0] [1, 2, 3, 4, 5, 6] [6, 0, 1, 2, 3, 4, 5] rfl rfl rfl rfl rfl rfl (by decide) hl.1 (Nat.le_of_ble_eq_true rfl) dX10_fits_1 (fun H locs hP hD hS => ?_)
  refine lv_aload_n hx hb dX10_fits_4 rfl (lv_at hl 0 rfl) ?_
  refine va_get (D := D) (ci := 6) (v := .int (Mo_hasStore q1)) (C := RX10) (T := TX10) (N := 41) hx hb hts in_X10 hown hK hP 0 rfl rfl 14 (by decide) (hts _ q6_59) (fun _ h9 => h9) rfl dX10_fits_5 ?_
  refine z_if_ne (tgt := 17) hx hb dX10_fits_8 (by decide) hf (fun hf => ?_) (fun hf => ?_)
  · refine lv_aload_n hx hb dX10_fits_17 rfl (lv_at hl 0 rfl) ?_
    refine lv_iconst (v := (-1 : Int32)) hx hb dX10_fits_18 (by decide) ?_
    obtain ⟨q2, hc, hf⟩ := zbd hf
    refine z_cVi0 (As := [.int (-1 : Int32)]) (rest := []) C (c_X10_seekSets l D cy ht q1 St_often St_order St_owned St_r St_told St_trial (-1 : Int32) q2 hc) gV_X10_X10_seekSets hd_X10_seekSets ⟨Nat.le_of_ble_eq_true rfl, Nat.le_of_ble_eq_true rfl⟩ ⟨Nat.le_refl _, Nat.le_refl _⟩ (va_recv hK hP (ci := 6) (q0 := 0) rfl rfl) hP hD hS hl.1 (Nat.le_of_ble_eq_true rfl) dX10_fits_19 (fun H locs hP hD hS => ?_)
    have hP : va_P D vwCl (wMo ht cy q2.2.1 ++ (wAI (fun _ => ht 17) cy 4 q2.2.2.1 ++ (wAI (fun _ => ht 15) cy 8 St_order ++ (wAI (fun _ => ht 8) cy 64 St_owned ++ (wAI (fun _ => ht 3) cy 140 St_r ++ (wAI (fun _ => ht 5) cy 325 St_told ++ (wAI (fun _ => ht 10) cy 325 q2.2.2.2))))))) H := hP
    have hD : va_D A (wMo ht cy q2.2.1 ++ (wAI (fun _ => ht 17) cy 4 q2.2.2.1 ++ (wAI (fun _ => ht 15) cy 8 St_order ++ (wAI (fun _ => ht 8) cy 64 St_owned ++ (wAI (fun _ => ht 3) cy 140 St_r ++ (wAI (fun _ => ht 5) cy 325 St_told ++ (wAI (fun _ => ht 10) cy 325 q2.2.2.2))))))) := hD
    refine lv_pop hx hb dX10_fits_22 rfl ?_
    refine lv_aload_n hx hb dX10_fits_23 rfl (lv_at hl 0 rfl) ?_
    refine va_get (D := D) (ci := 6) (v := .int (Mo_setMany q2.2.1)) (C := RX10) (T := TX10) (N := 41) hx hb hts in_X10 hown hK hP 0 rfl rfl 34 (by decide) (hts _ q6_79) (fun _ h9 => h9) rfl dX10_fits_24 ?_
    obtain rfl := Option.some.inj hf
    exact z_iret (v := (Mo_setMany q2.2.1)) C hP hD hS dX10_fits_27
  · refine lv_aload_n hx hb dX10_fits_11 rfl (lv_at hl 0 rfl) ?_
    refine lv_iconst (v := (1 : Int32)) hx hb dX10_fits_12 (by decide) ?_
    obtain ⟨q3, hc, hf⟩ := zbd hf
    refine z_cVi (As := [.int (1 : Int32)]) (rest := []) C (c_X10_no l D cy ht q1 (1 : Int32) q3 hc) gV_X10_X10_no hd_X10_no ⟨Nat.le_of_ble_eq_true rfl, Nat.le_of_ble_eq_true rfl⟩ ⟨Nat.le_refl _, Nat.le_refl _⟩ (va_recv hK hP (ci := 6) (q0 := 0) rfl rfl) hP hD hS (w2 := wMo ht cy q3.2 ++ (wAI (fun _ => ht 17) cy 4 St_often ++ (wAI (fun _ => ht 15) cy 8 St_order ++ (wAI (fun _ => ht 8) cy 64 St_owned ++ (wAI (fun _ => ht 3) cy 140 St_r ++ (wAI (fun _ => ht 5) cy 325 St_told ++ (wAI (fun _ => ht 10) cy 325 St_trial))))))) [0] [1, 2, 3, 4, 5, 6] [6, 0, 1, 2, 3, 4, 5] rfl rfl rfl rfl rfl rfl (by decide) hl.1 (Nat.le_of_ble_eq_true rfl) dX10_fits_13 (fun H locs hP hD hS => ?_)
    obtain rfl := Option.some.inj hf
    exact z_iret (v := q3.1) C hP hD hS dX10_fits_16
def f_X10_fitAt (St : SMo) (St_often : Nat → Int32) (St_order : Nat → Int32) (St_owned : Nat → Int32) (St_r : Nat → Int32) (St_told : Nat → Int32) (St_trial : Nat → Int32) (x1 : Int32) : Option (Int32 × SMo × (Nat → Int32) × (Nat → Int32)) :=
  (f_X10_anew St).bind (fun q1 =>
    (if (Mo_hasStore q1) = 0 then
      (f_X10_no q1 (1 : Int32)).bind (fun q2 =>
        some (q2.1, q2.2, St_often, St_trial))
      else
      (if 0 ≤ x1 then
        (f_X10_seekSets q1 St_often St_order St_owned St_r St_told St_trial x1).bind (fun q3 =>
          (if 0 ≤ q3.1 then
            some (q3.1, q3.2.1, q3.2.2.1, q3.2.2.2)
            else
            (f_X10_no q3.2.1 (1 : Int32)).bind (fun q4 =>
              some (q4.1, q4.2, q3.2.2.1, q3.2.2.2))))
        else
        (f_X10_no q1 (1 : Int32)).bind (fun q5 =>
          some (q5.1, q5.2, St_often, St_trial)))))
set_option maxHeartbeats 4000000 in
set_option maxRecDepth 100000 in
theorem c_X10_fitAt (l : Launch) (D : va_G) (cy : Nat → ClassId) (ht : Nat → Nat) (St : SMo) (St_often : Nat → Int32) (St_order : Nat → Int32) (St_owned : Nat → Int32) (St_r : Nat → Int32) (St_told : Nat → Int32) (St_trial : Nat → Int32) (x1 : Int32) (r : Int32 × SMo × (Nat → Int32) × (Nat → Int32)) (hf : f_X10_fitAt St St_often St_order St_owned St_r St_told St_trial x1 = some r) : zCI l yX10_fitAt cX10_fitAt 3 (some FieldType.int) 9 214 D (zty cy) [.ref (ht 0), .int x1] (wMo ht cy St ++ (wAI (fun _ => ht 17) cy 4 St_often ++ (wAI (fun _ => ht 15) cy 8 St_order ++ (wAI (fun _ => ht 8) cy 64 St_owned ++ (wAI (fun _ => ht 3) cy 140 St_r ++ (wAI (fun _ => ht 5) cy 325 St_told ++ (wAI (fun _ => ht 10) cy 325 St_trial))))))) (wMo ht cy r.2.1 ++ (wAI (fun _ => ht 17) cy 4 r.2.2.1 ++ (wAI (fun _ => ht 15) cy 8 St_order ++ (wAI (fun _ => ht 8) cy 64 St_owned ++ (wAI (fun _ => ht 3) cy 140 St_r ++ (wAI (fun _ => ht 5) cy 325 St_told ++ (wAI (fun _ => ht 10) cy 325 r.2.2.2))))))) r.1 := by
  refine zCI_of (by decide +kernel) (Nat.le_of_ble_eq_true rfl) ?_
  intro p e s m below meth c A ls C hP hD hS hl
  generalize hargs : ([.ref (ht 0), .int x1] : List Value).toArray = args at C ⊢
  have C : zX p s m meth c cX10_fitAt 3 args RX10 (some FieldType.int) A D (zty cy) := C
  obtain ⟨hx, hb, hr, hts, hown, hlocks, hml, hA, hK⟩ := id C
  have hl : lv_has ls 3 [(0, .ref (ht 0)), (1, .int x1)] := hl
  generalize hH : s.heap = H at hP ⊢
  have hS : va_S A s.heap H [] := by rw [← hH]; exact hS
  generalize ([] : List Loc) = locs at hS ⊢
  refine lv_aload_n hx hb dX10_fitAt_0 rfl (lv_at hl 0 rfl) ?_
  obtain ⟨q1, hc, hf⟩ := zbd hf
  refine z_cVv (As := []) (rest := []) C (c_X10_anew l D cy ht St q1 hc) gV_X10_X10_anew hd_X10_anew ⟨Nat.le_of_ble_eq_true rfl, Nat.le_of_ble_eq_true rfl⟩ ⟨Nat.le_refl _, Nat.le_refl _⟩ (va_recv hK hP (ci := 6) (q0 := 0) rfl rfl) hP hD hS (w2 := wMo ht cy q1 ++ (wAI (fun _ => ht 17) cy 4 St_often ++ (wAI (fun _ => ht 15) cy 8 St_order ++ (wAI (fun _ => ht 8) cy 64 St_owned ++ (wAI (fun _ => ht 3) cy 140 St_r ++ (wAI (fun _ => ht 5) cy 325 St_told ++ (wAI (fun _ => ht 10) cy 325 St_trial))))))) [0] [1, 2, 3, 4, 5, 6] [6, 0, 1, 2, 3, 4, 5] rfl rfl rfl rfl rfl rfl (by decide) hl.1 (Nat.le_of_ble_eq_true rfl) dX10_fitAt_1 (fun H locs hP hD hS => ?_)
  refine lv_aload_n hx hb dX10_fitAt_4 rfl (lv_at hl 0 rfl) ?_
  refine va_get (D := D) (ci := 6) (v := .int (Mo_hasStore q1)) (C := RX10) (T := TX10) (N := 41) hx hb hts in_X10 hown hK hP 0 rfl rfl 14 (by decide) (hts _ q6_59) (fun _ h9 => h9) rfl dX10_fitAt_5 ?_
  refine z_if_eq (tgt := 15) hx hb dX10_fitAt_8 (by decide) hf (fun hf => ?_) (fun hf => ?_)
  · refine lv_aload_n hx hb dX10_fitAt_15 rfl (lv_at hl 0 rfl) ?_
    refine lv_iconst (v := (1 : Int32)) hx hb dX10_fitAt_16 (by decide) ?_
    obtain ⟨q2, hc, hf⟩ := zbd hf
    refine z_cVi (As := [.int (1 : Int32)]) (rest := []) C (c_X10_no l D cy ht q1 (1 : Int32) q2 hc) gV_X10_X10_no hd_X10_no ⟨Nat.le_of_ble_eq_true rfl, Nat.le_of_ble_eq_true rfl⟩ ⟨Nat.le_refl _, Nat.le_refl _⟩ (va_recv hK hP (ci := 6) (q0 := 0) rfl rfl) hP hD hS (w2 := wMo ht cy q2.2 ++ (wAI (fun _ => ht 17) cy 4 St_often ++ (wAI (fun _ => ht 15) cy 8 St_order ++ (wAI (fun _ => ht 8) cy 64 St_owned ++ (wAI (fun _ => ht 3) cy 140 St_r ++ (wAI (fun _ => ht 5) cy 325 St_told ++ (wAI (fun _ => ht 10) cy 325 St_trial))))))) [0] [1, 2, 3, 4, 5, 6] [6, 0, 1, 2, 3, 4, 5] rfl rfl rfl rfl rfl rfl (by decide) hl.1 (Nat.le_of_ble_eq_true rfl) dX10_fitAt_17 (fun H locs hP hD hS => ?_)
    obtain rfl := Option.some.inj hf
    exact z_iret (v := q2.1) C hP hD hS dX10_fitAt_20
  · refine lv_iload_n hx hb dX10_fitAt_11 rfl (lv_at hl 1 rfl) ?_
    refine z_if_ge (tgt := 21) hx hb dX10_fitAt_12 (by decide) hf (fun hf => ?_) (fun hf => ?_)
    · refine lv_aload_n hx hb dX10_fitAt_21 rfl (lv_at hl 0 rfl) ?_
      refine lv_iload_n hx hb dX10_fitAt_22 rfl (lv_at hl 1 rfl) ?_
      obtain ⟨q3, hc, hf⟩ := zbd hf
      refine z_cVi0 (As := [.int x1]) (rest := []) C (c_X10_seekSets l D cy ht q1 St_often St_order St_owned St_r St_told St_trial x1 q3 hc) gV_X10_X10_seekSets hd_X10_seekSets ⟨Nat.le_of_ble_eq_true rfl, Nat.le_of_ble_eq_true rfl⟩ ⟨Nat.le_refl _, Nat.le_refl _⟩ (va_recv hK hP (ci := 6) (q0 := 0) rfl rfl) hP hD hS hl.1 (Nat.le_of_ble_eq_true rfl) dX10_fitAt_23 (fun H locs hP hD hS => ?_)
      have hP : va_P D vwCl (wMo ht cy q3.2.1 ++ (wAI (fun _ => ht 17) cy 4 q3.2.2.1 ++ (wAI (fun _ => ht 15) cy 8 St_order ++ (wAI (fun _ => ht 8) cy 64 St_owned ++ (wAI (fun _ => ht 3) cy 140 St_r ++ (wAI (fun _ => ht 5) cy 325 St_told ++ (wAI (fun _ => ht 10) cy 325 q3.2.2.2))))))) H := hP
      have hD : va_D A (wMo ht cy q3.2.1 ++ (wAI (fun _ => ht 17) cy 4 q3.2.2.1 ++ (wAI (fun _ => ht 15) cy 8 St_order ++ (wAI (fun _ => ht 8) cy 64 St_owned ++ (wAI (fun _ => ht 3) cy 140 St_r ++ (wAI (fun _ => ht 5) cy 325 St_told ++ (wAI (fun _ => ht 10) cy 325 q3.2.2.2))))))) := hD
      refine lv_istore_n (lv' := [(2, .int q3.1), (0, .ref (ht 0)), (1, .int x1)]) hx hb dX10_fitAt_26 rfl hl (by decide) rfl (fun ls hl => ?_)
      refine lv_iload_n hx hb dX10_fitAt_27 rfl (lv_at hl 0 rfl) ?_
      refine z_if_ge (tgt := 39) hx hb dX10_fitAt_28 (by decide) hf (fun hf => ?_) (fun hf => ?_)
      · refine lv_iload_n hx hb dX10_fitAt_39 rfl (lv_at hl 0 rfl) ?_
        obtain rfl := Option.some.inj hf
        exact z_iret (v := q3.1) C hP hD hS dX10_fitAt_40
      · refine lv_aload_n hx hb dX10_fitAt_31 rfl (lv_at hl 1 rfl) ?_
        refine lv_iconst (v := (1 : Int32)) hx hb dX10_fitAt_32 (by decide) ?_
        obtain ⟨q4, hc, hf⟩ := zbd hf
        refine z_cVi (As := [.int (1 : Int32)]) (rest := []) C (c_X10_no l D cy ht q3.2.1 (1 : Int32) q4 hc) gV_X10_X10_no hd_X10_no ⟨Nat.le_of_ble_eq_true rfl, Nat.le_of_ble_eq_true rfl⟩ ⟨Nat.le_refl _, Nat.le_refl _⟩ (va_recv hK hP (ci := 6) (q0 := 0) rfl rfl) hP hD hS (w2 := wMo ht cy q4.2 ++ (wAI (fun _ => ht 17) cy 4 q3.2.2.1 ++ (wAI (fun _ => ht 15) cy 8 St_order ++ (wAI (fun _ => ht 8) cy 64 St_owned ++ (wAI (fun _ => ht 3) cy 140 St_r ++ (wAI (fun _ => ht 5) cy 325 St_told ++ (wAI (fun _ => ht 10) cy 325 q3.2.2.2))))))) [0] [1, 2, 3, 4, 5, 6] [6, 0, 1, 2, 3, 4, 5] rfl rfl rfl rfl rfl rfl (by decide) hl.1 (Nat.le_of_ble_eq_true rfl) dX10_fitAt_33 (fun H locs hP hD hS => ?_)
        refine lv_goto (tgt := 40) hx hb dX10_fitAt_36 (by decide) ?_
        obtain rfl := Option.some.inj hf
        exact z_iret (v := q4.1) C hP hD hS dX10_fitAt_40
    · refine lv_aload_n hx hb dX10_fitAt_15 rfl (lv_at hl 0 rfl) ?_
      refine lv_iconst (v := (1 : Int32)) hx hb dX10_fitAt_16 (by decide) ?_
      obtain ⟨q5, hc, hf⟩ := zbd hf
      refine z_cVi (As := [.int (1 : Int32)]) (rest := []) C (c_X10_no l D cy ht q1 (1 : Int32) q5 hc) gV_X10_X10_no hd_X10_no ⟨Nat.le_of_ble_eq_true rfl, Nat.le_of_ble_eq_true rfl⟩ ⟨Nat.le_refl _, Nat.le_refl _⟩ (va_recv hK hP (ci := 6) (q0 := 0) rfl rfl) hP hD hS (w2 := wMo ht cy q5.2 ++ (wAI (fun _ => ht 17) cy 4 St_often ++ (wAI (fun _ => ht 15) cy 8 St_order ++ (wAI (fun _ => ht 8) cy 64 St_owned ++ (wAI (fun _ => ht 3) cy 140 St_r ++ (wAI (fun _ => ht 5) cy 325 St_told ++ (wAI (fun _ => ht 10) cy 325 St_trial))))))) [0] [1, 2, 3, 4, 5, 6] [6, 0, 1, 2, 3, 4, 5] rfl rfl rfl rfl rfl rfl (by decide) hl.1 (Nat.le_of_ble_eq_true rfl) dX10_fitAt_17 (fun H locs hP hD hS => ?_)
      obtain rfl := Option.some.inj hf
      exact z_iret (v := q5.1) C hP hD hS dX10_fitAt_20
def f_X10_could (St : SMo) (St_often : Nat → Int32) (St_order : Nat → Int32) (St_owned : Nat → Int32) (St_r : Nat → Int32) (St_told : Nat → Int32) (St_trial : Nat → Int32) : Option (Int32 × SMo × (Nat → Int32) × (Nat → Int32)) :=
  (f_X10_anew St).bind (fun q1 =>
    (if (Mo_hasStore q1) = 0 then
      (f_X10_no q1 (1 : Int32)).bind (fun q3 =>
        some (q3.1, q3.2, St_often, St_trial))
      else
      (f_X10_seekSets q1 St_often St_order St_owned St_r St_told St_trial (-1 : Int32)).bind (fun q2 =>
        some ((Mo_someOf q2.2.1), q2.2.1, q2.2.2.1, q2.2.2.2))))
set_option maxHeartbeats 4000000 in
set_option maxRecDepth 100000 in
theorem c_X10_could (l : Launch) (D : va_G) (cy : Nat → ClassId) (ht : Nat → Nat) (St : SMo) (St_often : Nat → Int32) (St_order : Nat → Int32) (St_owned : Nat → Int32) (St_r : Nat → Int32) (St_told : Nat → Int32) (St_trial : Nat → Int32) (r : Int32 × SMo × (Nat → Int32) × (Nat → Int32)) (hf : f_X10_could St St_often St_order St_owned St_r St_told St_trial = some r) : zCI l yX10_could cX10_could 1 (some FieldType.int) 9 214 D (zty cy) [.ref (ht 0)] (wMo ht cy St ++ (wAI (fun _ => ht 17) cy 4 St_often ++ (wAI (fun _ => ht 15) cy 8 St_order ++ (wAI (fun _ => ht 8) cy 64 St_owned ++ (wAI (fun _ => ht 3) cy 140 St_r ++ (wAI (fun _ => ht 5) cy 325 St_told ++ (wAI (fun _ => ht 10) cy 325 St_trial))))))) (wMo ht cy r.2.1 ++ (wAI (fun _ => ht 17) cy 4 r.2.2.1 ++ (wAI (fun _ => ht 15) cy 8 St_order ++ (wAI (fun _ => ht 8) cy 64 St_owned ++ (wAI (fun _ => ht 3) cy 140 St_r ++ (wAI (fun _ => ht 5) cy 325 St_told ++ (wAI (fun _ => ht 10) cy 325 r.2.2.2))))))) r.1 := by
  refine zCI_of (by decide +kernel) (Nat.le_of_ble_eq_true rfl) ?_
  intro p e s m below meth c A ls C hP hD hS hl
  generalize hargs : ([.ref (ht 0)] : List Value).toArray = args at C ⊢
  have C : zX p s m meth c cX10_could 1 args RX10 (some FieldType.int) A D (zty cy) := C
  obtain ⟨hx, hb, hr, hts, hown, hlocks, hml, hA, hK⟩ := id C
  have hl : lv_has ls 1 [(0, .ref (ht 0))] := hl
  generalize hH : s.heap = H at hP ⊢
  have hS : va_S A s.heap H [] := by rw [← hH]; exact hS
  generalize ([] : List Loc) = locs at hS ⊢
  refine lv_aload_n hx hb dX10_could_0 rfl (lv_at hl 0 rfl) ?_
  obtain ⟨q1, hc, hf⟩ := zbd hf
  refine z_cVv (As := []) (rest := []) C (c_X10_anew l D cy ht St q1 hc) gV_X10_X10_anew hd_X10_anew ⟨Nat.le_of_ble_eq_true rfl, Nat.le_of_ble_eq_true rfl⟩ ⟨Nat.le_refl _, Nat.le_refl _⟩ (va_recv hK hP (ci := 6) (q0 := 0) rfl rfl) hP hD hS (w2 := wMo ht cy q1 ++ (wAI (fun _ => ht 17) cy 4 St_often ++ (wAI (fun _ => ht 15) cy 8 St_order ++ (wAI (fun _ => ht 8) cy 64 St_owned ++ (wAI (fun _ => ht 3) cy 140 St_r ++ (wAI (fun _ => ht 5) cy 325 St_told ++ (wAI (fun _ => ht 10) cy 325 St_trial))))))) [0] [1, 2, 3, 4, 5, 6] [6, 0, 1, 2, 3, 4, 5] rfl rfl rfl rfl rfl rfl (by decide) hl.1 (Nat.le_of_ble_eq_true rfl) dX10_could_1 (fun H locs hP hD hS => ?_)
  refine lv_aload_n hx hb dX10_could_4 rfl (lv_at hl 0 rfl) ?_
  refine va_get (D := D) (ci := 6) (v := .int (Mo_hasStore q1)) (C := RX10) (T := TX10) (N := 41) hx hb hts in_X10 hown hK hP 0 rfl rfl 14 (by decide) (hts _ q6_59) (fun _ h9 => h9) rfl dX10_could_5 ?_
  refine z_if_ne (tgt := 17) hx hb dX10_could_8 (by decide) hf (fun hf => ?_) (fun hf => ?_)
  · refine lv_aload_n hx hb dX10_could_17 rfl (lv_at hl 0 rfl) ?_
    refine lv_iconst (v := (-1 : Int32)) hx hb dX10_could_18 (by decide) ?_
    obtain ⟨q2, hc, hf⟩ := zbd hf
    refine z_cVi0 (As := [.int (-1 : Int32)]) (rest := []) C (c_X10_seekSets l D cy ht q1 St_often St_order St_owned St_r St_told St_trial (-1 : Int32) q2 hc) gV_X10_X10_seekSets hd_X10_seekSets ⟨Nat.le_of_ble_eq_true rfl, Nat.le_of_ble_eq_true rfl⟩ ⟨Nat.le_refl _, Nat.le_refl _⟩ (va_recv hK hP (ci := 6) (q0 := 0) rfl rfl) hP hD hS hl.1 (Nat.le_of_ble_eq_true rfl) dX10_could_19 (fun H locs hP hD hS => ?_)
    have hP : va_P D vwCl (wMo ht cy q2.2.1 ++ (wAI (fun _ => ht 17) cy 4 q2.2.2.1 ++ (wAI (fun _ => ht 15) cy 8 St_order ++ (wAI (fun _ => ht 8) cy 64 St_owned ++ (wAI (fun _ => ht 3) cy 140 St_r ++ (wAI (fun _ => ht 5) cy 325 St_told ++ (wAI (fun _ => ht 10) cy 325 q2.2.2.2))))))) H := hP
    have hD : va_D A (wMo ht cy q2.2.1 ++ (wAI (fun _ => ht 17) cy 4 q2.2.2.1 ++ (wAI (fun _ => ht 15) cy 8 St_order ++ (wAI (fun _ => ht 8) cy 64 St_owned ++ (wAI (fun _ => ht 3) cy 140 St_r ++ (wAI (fun _ => ht 5) cy 325 St_told ++ (wAI (fun _ => ht 10) cy 325 q2.2.2.2))))))) := hD
    refine lv_pop hx hb dX10_could_22 rfl ?_
    refine lv_aload_n hx hb dX10_could_23 rfl (lv_at hl 0 rfl) ?_
    refine va_get (D := D) (ci := 6) (v := .int (Mo_someOf q2.2.1)) (C := RX10) (T := TX10) (N := 41) hx hb hts in_X10 hown hK hP 0 rfl rfl 35 (by decide) (hts _ q6_80) (fun _ h9 => h9) rfl dX10_could_24 ?_
    obtain rfl := Option.some.inj hf
    exact z_iret (v := (Mo_someOf q2.2.1)) C hP hD hS dX10_could_27
  · refine lv_aload_n hx hb dX10_could_11 rfl (lv_at hl 0 rfl) ?_
    refine lv_iconst (v := (1 : Int32)) hx hb dX10_could_12 (by decide) ?_
    obtain ⟨q3, hc, hf⟩ := zbd hf
    refine z_cVi (As := [.int (1 : Int32)]) (rest := []) C (c_X10_no l D cy ht q1 (1 : Int32) q3 hc) gV_X10_X10_no hd_X10_no ⟨Nat.le_of_ble_eq_true rfl, Nat.le_of_ble_eq_true rfl⟩ ⟨Nat.le_refl _, Nat.le_refl _⟩ (va_recv hK hP (ci := 6) (q0 := 0) rfl rfl) hP hD hS (w2 := wMo ht cy q3.2 ++ (wAI (fun _ => ht 17) cy 4 St_often ++ (wAI (fun _ => ht 15) cy 8 St_order ++ (wAI (fun _ => ht 8) cy 64 St_owned ++ (wAI (fun _ => ht 3) cy 140 St_r ++ (wAI (fun _ => ht 5) cy 325 St_told ++ (wAI (fun _ => ht 10) cy 325 St_trial))))))) [0] [1, 2, 3, 4, 5, 6] [6, 0, 1, 2, 3, 4, 5] rfl rfl rfl rfl rfl rfl (by decide) hl.1 (Nat.le_of_ble_eq_true rfl) dX10_could_13 (fun H locs hP hD hS => ?_)
    obtain rfl := Option.some.inj hf
    exact z_iret (v := q3.1) C hP hD hS dX10_could_16
def f_X10_surely (St : SMo) (St_often : Nat → Int32) (St_order : Nat → Int32) (St_owned : Nat → Int32) (St_r : Nat → Int32) (St_told : Nat → Int32) (St_trial : Nat → Int32) : Option (Int32 × SMo × (Nat → Int32) × (Nat → Int32)) :=
  (f_X10_anew St).bind (fun q1 =>
    (if (Mo_hasStore q1) = 0 then
      (f_X10_no q1 (1 : Int32)).bind (fun q3 =>
        some (q3.1, q3.2, St_often, St_trial))
      else
      (f_X10_seekSets q1 St_often St_order St_owned St_r St_told St_trial (-1 : Int32)).bind (fun q2 =>
        some ((Mo_allOf q2.2.1), q2.2.1, q2.2.2.1, q2.2.2.2))))
set_option maxHeartbeats 4000000 in
set_option maxRecDepth 100000 in
theorem c_X10_surely (l : Launch) (D : va_G) (cy : Nat → ClassId) (ht : Nat → Nat) (St : SMo) (St_often : Nat → Int32) (St_order : Nat → Int32) (St_owned : Nat → Int32) (St_r : Nat → Int32) (St_told : Nat → Int32) (St_trial : Nat → Int32) (r : Int32 × SMo × (Nat → Int32) × (Nat → Int32)) (hf : f_X10_surely St St_often St_order St_owned St_r St_told St_trial = some r) : zCI l yX10_surely cX10_surely 1 (some FieldType.int) 9 214 D (zty cy) [.ref (ht 0)] (wMo ht cy St ++ (wAI (fun _ => ht 17) cy 4 St_often ++ (wAI (fun _ => ht 15) cy 8 St_order ++ (wAI (fun _ => ht 8) cy 64 St_owned ++ (wAI (fun _ => ht 3) cy 140 St_r ++ (wAI (fun _ => ht 5) cy 325 St_told ++ (wAI (fun _ => ht 10) cy 325 St_trial))))))) (wMo ht cy r.2.1 ++ (wAI (fun _ => ht 17) cy 4 r.2.2.1 ++ (wAI (fun _ => ht 15) cy 8 St_order ++ (wAI (fun _ => ht 8) cy 64 St_owned ++ (wAI (fun _ => ht 3) cy 140 St_r ++ (wAI (fun _ => ht 5) cy 325 St_told ++ (wAI (fun _ => ht 10) cy 325 r.2.2.2))))))) r.1 := by
  refine zCI_of (by decide +kernel) (Nat.le_of_ble_eq_true rfl) ?_
  intro p e s m below meth c A ls C hP hD hS hl
  generalize hargs : ([.ref (ht 0)] : List Value).toArray = args at C ⊢
  have C : zX p s m meth c cX10_surely 1 args RX10 (some FieldType.int) A D (zty cy) := C
  obtain ⟨hx, hb, hr, hts, hown, hlocks, hml, hA, hK⟩ := id C
  have hl : lv_has ls 1 [(0, .ref (ht 0))] := hl
  generalize hH : s.heap = H at hP ⊢
  have hS : va_S A s.heap H [] := by rw [← hH]; exact hS
  generalize ([] : List Loc) = locs at hS ⊢
  refine lv_aload_n hx hb dX10_surely_0 rfl (lv_at hl 0 rfl) ?_
  obtain ⟨q1, hc, hf⟩ := zbd hf
  refine z_cVv (As := []) (rest := []) C (c_X10_anew l D cy ht St q1 hc) gV_X10_X10_anew hd_X10_anew ⟨Nat.le_of_ble_eq_true rfl, Nat.le_of_ble_eq_true rfl⟩ ⟨Nat.le_refl _, Nat.le_refl _⟩ (va_recv hK hP (ci := 6) (q0 := 0) rfl rfl) hP hD hS (w2 := wMo ht cy q1 ++ (wAI (fun _ => ht 17) cy 4 St_often ++ (wAI (fun _ => ht 15) cy 8 St_order ++ (wAI (fun _ => ht 8) cy 64 St_owned ++ (wAI (fun _ => ht 3) cy 140 St_r ++ (wAI (fun _ => ht 5) cy 325 St_told ++ (wAI (fun _ => ht 10) cy 325 St_trial))))))) [0] [1, 2, 3, 4, 5, 6] [6, 0, 1, 2, 3, 4, 5] rfl rfl rfl rfl rfl rfl (by decide) hl.1 (Nat.le_of_ble_eq_true rfl) dX10_surely_1 (fun H locs hP hD hS => ?_)
  refine lv_aload_n hx hb dX10_surely_4 rfl (lv_at hl 0 rfl) ?_
  refine va_get (D := D) (ci := 6) (v := .int (Mo_hasStore q1)) (C := RX10) (T := TX10) (N := 41) hx hb hts in_X10 hown hK hP 0 rfl rfl 14 (by decide) (hts _ q6_59) (fun _ h9 => h9) rfl dX10_surely_5 ?_
  refine z_if_ne (tgt := 17) hx hb dX10_surely_8 (by decide) hf (fun hf => ?_) (fun hf => ?_)
  · refine lv_aload_n hx hb dX10_surely_17 rfl (lv_at hl 0 rfl) ?_
    refine lv_iconst (v := (-1 : Int32)) hx hb dX10_surely_18 (by decide) ?_
    obtain ⟨q2, hc, hf⟩ := zbd hf
    refine z_cVi0 (As := [.int (-1 : Int32)]) (rest := []) C (c_X10_seekSets l D cy ht q1 St_often St_order St_owned St_r St_told St_trial (-1 : Int32) q2 hc) gV_X10_X10_seekSets hd_X10_seekSets ⟨Nat.le_of_ble_eq_true rfl, Nat.le_of_ble_eq_true rfl⟩ ⟨Nat.le_refl _, Nat.le_refl _⟩ (va_recv hK hP (ci := 6) (q0 := 0) rfl rfl) hP hD hS hl.1 (Nat.le_of_ble_eq_true rfl) dX10_surely_19 (fun H locs hP hD hS => ?_)
    have hP : va_P D vwCl (wMo ht cy q2.2.1 ++ (wAI (fun _ => ht 17) cy 4 q2.2.2.1 ++ (wAI (fun _ => ht 15) cy 8 St_order ++ (wAI (fun _ => ht 8) cy 64 St_owned ++ (wAI (fun _ => ht 3) cy 140 St_r ++ (wAI (fun _ => ht 5) cy 325 St_told ++ (wAI (fun _ => ht 10) cy 325 q2.2.2.2))))))) H := hP
    have hD : va_D A (wMo ht cy q2.2.1 ++ (wAI (fun _ => ht 17) cy 4 q2.2.2.1 ++ (wAI (fun _ => ht 15) cy 8 St_order ++ (wAI (fun _ => ht 8) cy 64 St_owned ++ (wAI (fun _ => ht 3) cy 140 St_r ++ (wAI (fun _ => ht 5) cy 325 St_told ++ (wAI (fun _ => ht 10) cy 325 q2.2.2.2))))))) := hD
    refine lv_pop hx hb dX10_surely_22 rfl ?_
    refine lv_aload_n hx hb dX10_surely_23 rfl (lv_at hl 0 rfl) ?_
    refine va_get (D := D) (ci := 6) (v := .int (Mo_allOf q2.2.1)) (C := RX10) (T := TX10) (N := 41) hx hb hts in_X10 hown hK hP 0 rfl rfl 36 (by decide) (hts _ q6_81) (fun _ h9 => h9) rfl dX10_surely_24 ?_
    obtain rfl := Option.some.inj hf
    exact z_iret (v := (Mo_allOf q2.2.1)) C hP hD hS dX10_surely_27
  · refine lv_aload_n hx hb dX10_surely_11 rfl (lv_at hl 0 rfl) ?_
    refine lv_iconst (v := (1 : Int32)) hx hb dX10_surely_12 (by decide) ?_
    obtain ⟨q3, hc, hf⟩ := zbd hf
    refine z_cVi (As := [.int (1 : Int32)]) (rest := []) C (c_X10_no l D cy ht q1 (1 : Int32) q3 hc) gV_X10_X10_no hd_X10_no ⟨Nat.le_of_ble_eq_true rfl, Nat.le_of_ble_eq_true rfl⟩ ⟨Nat.le_refl _, Nat.le_refl _⟩ (va_recv hK hP (ci := 6) (q0 := 0) rfl rfl) hP hD hS (w2 := wMo ht cy q3.2 ++ (wAI (fun _ => ht 17) cy 4 St_often ++ (wAI (fun _ => ht 15) cy 8 St_order ++ (wAI (fun _ => ht 8) cy 64 St_owned ++ (wAI (fun _ => ht 3) cy 140 St_r ++ (wAI (fun _ => ht 5) cy 325 St_told ++ (wAI (fun _ => ht 10) cy 325 St_trial))))))) [0] [1, 2, 3, 4, 5, 6] [6, 0, 1, 2, 3, 4, 5] rfl rfl rfl rfl rfl rfl (by decide) hl.1 (Nat.le_of_ble_eq_true rfl) dX10_surely_13 (fun H locs hP hD hS => ?_)
    obtain rfl := Option.some.inj hf
    exact z_iret (v := q3.1) C hP hD hS dX10_surely_16
def f_X10_leavesOf (St : SMo) (St_often : Nat → Int32) (x1 : Int32) : Option (Int32) :=
  (if zib x1 4 then (if zib x1 4 then (if (St_often x1.toNatClampNeg) ≤ ((Mo_setMany St) - (St_often x1.toNatClampNeg)) then
        (if zib x1 4 then some ((Mo_setMany St) - (St_often x1.toNatClampNeg)) else none)
        else
        (if zib x1 4 then some (St_often x1.toNatClampNeg) else none)) else none) else none)
set_option maxHeartbeats 4000000 in
set_option maxRecDepth 100000 in
theorem c_X10_leavesOf (l : Launch) (D : va_G) (cy : Nat → ClassId) (ht : Nat → Nat) (St : SMo) (St_often : Nat → Int32) (x1 : Int32) (r : Int32) (hf : f_X10_leavesOf St St_often x1 = some r) : zCI l yX10_leavesOf cX10_leavesOf 2 (some FieldType.int) 0 0 D (zty cy) [.ref (ht 0), .int x1] (wMo ht cy St ++ (wAI (fun _ => ht 17) cy 4 St_often)) (wMo ht cy St ++ (wAI (fun _ => ht 17) cy 4 St_often)) r := by
  refine zCI_of (by decide +kernel) (Nat.le_of_ble_eq_true rfl) ?_
  intro p e s m below meth c A ls C hP hD hS hl
  generalize hargs : ([.ref (ht 0), .int x1] : List Value).toArray = args at C ⊢
  have C : zX p s m meth c cX10_leavesOf 2 args RX10 (some FieldType.int) A D (zty cy) := C
  obtain ⟨hx, hb, hr, hts, hown, hlocks, hml, hA, hK⟩ := id C
  have hl : lv_has ls 2 [(0, .ref (ht 0)), (1, .int x1)] := hl
  generalize hH : s.heap = H at hP ⊢
  have hS : va_S A s.heap H [] := by rw [← hH]; exact hS
  generalize ([] : List Loc) = locs at hS ⊢
  refine lv_aload_n hx hb dX10_leavesOf_0 rfl (lv_at hl 0 rfl) ?_
  refine va_get (D := D) (ci := 6) (v := .ref (ht 17)) (C := RX10) (T := TX10) (N := 41) hx hb hts in_X10 hown hK hP 0 rfl rfl 33 (by decide) (hts _ q6_78) (fun _ h9 => h9) rfl dX10_leavesOf_1 ?_
  refine lv_iload_n hx hb dX10_leavesOf_4 rfl (lv_at hl 1 rfl) ?_
  refine z_iald (f := St_often) hx hb hK hP 1 0 rfl rfl dX10_leavesOf_5 hf (fun hf => ?_)
  refine lv_aload_n hx hb dX10_leavesOf_6 rfl (lv_at hl 0 rfl) ?_
  refine va_get (D := D) (ci := 6) (v := .int (Mo_setMany St)) (C := RX10) (T := TX10) (N := 41) hx hb hts in_X10 hown hK hP 0 rfl rfl 34 (by decide) (hts _ q6_79) (fun _ h9 => h9) rfl dX10_leavesOf_7 ?_
  refine lv_aload_n hx hb dX10_leavesOf_10 rfl (lv_at hl 0 rfl) ?_
  refine va_get (D := D) (ci := 6) (v := .ref (ht 17)) (C := RX10) (T := TX10) (N := 41) hx hb hts in_X10 hown hK hP 0 rfl rfl 33 (by decide) (hts _ q6_78) (fun _ h9 => h9) rfl dX10_leavesOf_11 ?_
  refine lv_iload_n hx hb dX10_leavesOf_14 rfl (lv_at hl 1 rfl) ?_
  refine z_iald (f := St_often) hx hb hK hP 1 0 rfl rfl dX10_leavesOf_15 hf (fun hf => ?_)
  refine lv_isub hx hb dX10_leavesOf_16 ?_
  refine z_icmp_le (tgt := 29) hx hb dX10_leavesOf_17 (by decide) hf (fun hf => ?_) (fun hf => ?_)
  · refine lv_aload_n hx hb dX10_leavesOf_29 rfl (lv_at hl 0 rfl) ?_
    refine va_get (D := D) (ci := 6) (v := .int (Mo_setMany St)) (C := RX10) (T := TX10) (N := 41) hx hb hts in_X10 hown hK hP 0 rfl rfl 34 (by decide) (hts _ q6_79) (fun _ h9 => h9) rfl dX10_leavesOf_30 ?_
    refine lv_aload_n hx hb dX10_leavesOf_33 rfl (lv_at hl 0 rfl) ?_
    refine va_get (D := D) (ci := 6) (v := .ref (ht 17)) (C := RX10) (T := TX10) (N := 41) hx hb hts in_X10 hown hK hP 0 rfl rfl 33 (by decide) (hts _ q6_78) (fun _ h9 => h9) rfl dX10_leavesOf_34 ?_
    refine lv_iload_n hx hb dX10_leavesOf_37 rfl (lv_at hl 1 rfl) ?_
    refine z_iald (f := St_often) hx hb hK hP 1 0 rfl rfl dX10_leavesOf_38 hf (fun hf => ?_)
    refine lv_isub hx hb dX10_leavesOf_39 ?_
    obtain rfl := Option.some.inj hf
    exact z_iret (v := ((Mo_setMany St) - (St_often x1.toNatClampNeg))) C hP hD hS dX10_leavesOf_40
  · refine lv_aload_n hx hb dX10_leavesOf_20 rfl (lv_at hl 0 rfl) ?_
    refine va_get (D := D) (ci := 6) (v := .ref (ht 17)) (C := RX10) (T := TX10) (N := 41) hx hb hts in_X10 hown hK hP 0 rfl rfl 33 (by decide) (hts _ q6_78) (fun _ h9 => h9) rfl dX10_leavesOf_21 ?_
    refine lv_iload_n hx hb dX10_leavesOf_24 rfl (lv_at hl 1 rfl) ?_
    refine z_iald (f := St_often) hx hb hK hP 1 0 rfl rfl dX10_leavesOf_25 hf (fun hf => ?_)
    refine lv_goto (tgt := 40) hx hb dX10_leavesOf_26 (by decide) ?_
    obtain rfl := Option.some.inj hf
    exact z_iret (v := (St_often x1.toNatClampNeg)) C hP hD hS dX10_leavesOf_40
def b_X10_askOf_11 (St_order : Nat → Int32) (St_owned : Nat → Int32) (St_r : Nat → Int32) (St_told : Nat → Int32) (k11 : SMo → (Nat → Int32) → (Nat → Int32) → Int32 → Int32 → Option (Int32 × SMo × (Nat → Int32) × (Nat → Int32))) (St : SMo) (St_often : Nat → Int32) (St_trial : Nat → Int32) (v1 : Int32) (v2 : Int32) : Option (Int32 × SMo × (Nat → Int32) × (Nat → Int32)) :=
  (if zib (4 : Int32) 140 then (if (St_r (4 : Int32).toNatClampNeg) ≤ v2 then
      some (v1, St, St_often, St_trial)
      else
      (if (Mo_setMany St) ≤ 0 then
        some (v1, St, St_often, St_trial)
        else
        (if v1 < 0 then
          (k11 St St_often St_trial v2 (v2 + (1 : Int32)))
          else
          (f_X10_leavesOf St St_often v2).bind (fun q1 =>
            (f_X10_leavesOf St St_often v1).bind (fun q2 =>
              (if q2 ≤ q1 then
                (k11 St St_often St_trial v1 (v2 + (1 : Int32)))
                else
                (k11 St St_often St_trial v2 (v2 + (1 : Int32))))))))) else none)
set_option maxHeartbeats 4000000 in
set_option maxRecDepth 100000 in
theorem w_X10_askOf_11 {p : Program} {e : Env} {s : State} {m : MethodId} {below : List Frame} {meth : Method} {c : Code} {A : Nat → Prop} {D : va_G} {cy : Nat → ClassId} {args : Array Value} {r : Int32 × SMo × (Nat → Int32) × (Nat → Int32)} (l : Launch) (ht : Nat → Nat) (St_order : Nat → Int32) (St_owned : Nat → Int32) (St_r : Nat → Int32) (St_told : Nat → Int32) (C : zX p s m meth c cX10_askOf 3 args RX10 (some FieldType.int) A D (zty cy)) :
    ∀ (n : Nat) (St : SMo) (St_often : Nat → Int32) (St_trial : Nat → Int32) (v1 : Int32) (v2 : Int32) (H : Heap) (locs : List Loc) (ls : Array Slot), zl5 (b_X10_askOf_11 St_order St_owned St_r St_told) n St St_often St_trial v1 v2 = some r → va_P D vwCl (wMo ht cy St ++ (wAI (fun _ => ht 17) cy 4 St_often ++ (wAI (fun _ => ht 15) cy 8 St_order ++ (wAI (fun _ => ht 8) cy 64 St_owned ++ (wAI (fun _ => ht 3) cy 140 St_r ++ (wAI (fun _ => ht 5) cy 325 St_told ++ (wAI (fun _ => ht 10) cy 325 St_trial))))))) H → va_D A (wMo ht cy St ++ (wAI (fun _ => ht 17) cy 4 St_often ++ (wAI (fun _ => ht 15) cy 8 St_order ++ (wAI (fun _ => ht 8) cy 64 St_owned ++ (wAI (fun _ => ht 3) cy 140 St_r ++ (wAI (fun _ => ht 5) cy 325 St_told ++ (wAI (fun _ => ht 10) cy 325 St_trial))))))) → va_S A s.heap H locs → lv_has ls 3 [(0, .ref (ht 0)), (1, .int v1), (2, .int v2)] → W p l e (zRm 9 214) s m args below meth c H locs 0 0 (MQ below (zQI D (zty cy) A (wMo ht cy r.2.1 ++ (wAI (fun _ => ht 17) cy 4 r.2.2.1 ++ (wAI (fun _ => ht 15) cy 8 St_order ++ (wAI (fun _ => ht 8) cy 64 St_owned ++ (wAI (fun _ => ht 3) cy 140 St_r ++ (wAI (fun _ => ht 5) cy 325 St_told ++ (wAI (fun _ => ht 10) cy 325 r.2.2.2))))))) r.1) args s 0 0 A) (F0 m 11 ls []) := by
  obtain ⟨hx, hb, hr, hts, hown, hlocks, hml, hA, hK⟩ := id C
  intro n
  induction n with
  | zero => intro St St_often St_trial v1 v2 H locs ls hf; exact zno hf
  | succ n ih =>
    intro St St_often St_trial v1 v2 H locs ls hf hP hD hS hl
    have hf : b_X10_askOf_11 St_order St_owned St_r St_told (zl5 (b_X10_askOf_11 St_order St_owned St_r St_told) n) St St_often St_trial v1 v2 = some r := hf
    have K11 := ih
    refine lv_iload_n hx hb dX10_askOf_11 rfl (lv_at hl 2 rfl) ?_
    refine lv_aload_n hx hb dX10_askOf_12 rfl (lv_at hl 0 rfl) ?_
    refine va_get (D := D) (ci := 6) (v := .ref (ht 3)) (C := RX10) (T := TX10) (N := 41) hx hb hts in_X10 hown hK hP 0 rfl rfl 15 (by decide) (hts _ q6_60) (fun _ h9 => h9) rfl dX10_askOf_13 ?_
    refine lv_iconst (v := (4 : Int32)) hx hb dX10_askOf_16 (by decide) ?_
    refine z_iald (f := St_r) hx hb hK hP 4 0 rfl rfl dX10_askOf_17 hf (fun hf => ?_)
    refine z_icmp_ge (tgt := 53) hx hb dX10_askOf_18 (by decide) hf (fun hf => ?_) (fun hf => ?_)
    · refine lv_iload_n hx hb dX10_askOf_53 rfl (lv_at hl 1 rfl) ?_
      obtain rfl := Option.some.inj hf
      exact z_iret (v := v1) C hP hD hS dX10_askOf_54
    · refine lv_aload_n hx hb dX10_askOf_21 rfl (lv_at hl 0 rfl) ?_
      refine va_get (D := D) (ci := 6) (v := .int (Mo_setMany St)) (C := RX10) (T := TX10) (N := 41) hx hb hts in_X10 hown hK hP 0 rfl rfl 34 (by decide) (hts _ q6_79) (fun _ h9 => h9) rfl dX10_askOf_22 ?_
      refine z_if_le (tgt := 53) hx hb dX10_askOf_25 (by decide) hf (fun hf => ?_) (fun hf => ?_)
      · refine lv_iload_n hx hb dX10_askOf_53 rfl (lv_at hl 1 rfl) ?_
        obtain rfl := Option.some.inj hf
        exact z_iret (v := v1) C hP hD hS dX10_askOf_54
      · refine lv_iload_n hx hb dX10_askOf_28 rfl (lv_at hl 1 rfl) ?_
        refine z_if_lt (tgt := 45) hx hb dX10_askOf_29 (by decide) hf (fun hf => ?_) (fun hf => ?_)
        · refine lv_iload_n hx hb dX10_askOf_45 rfl (lv_at hl 2 rfl) ?_
          refine lv_istore_n (lv' := [(1, .int v2), (0, .ref (ht 0)), (2, .int v2)]) hx hb dX10_askOf_46 rfl hl (by decide) rfl (fun ls hl => ?_)
          refine lv_iinc (v := (v2 + (1 : Int32))) (lv' := [(2, .int (v2 + (1 : Int32))), (1, .int v2), (0, .ref (ht 0))]) hx hb dX10_askOf_47 hl (k := 2) rfl rfl (by decide) rfl (fun ls hl => ?_)
          refine lv_goto (tgt := 11) hx hb dX10_askOf_50 (by decide) ?_
          exact K11 St St_often St_trial v2 (v2 + (1 : Int32)) H locs ls hf hP hD hS (lv_sub hl [2, 1, 0] rfl)
        · refine lv_aload_n hx hb dX10_askOf_32 rfl (lv_at hl 0 rfl) ?_
          refine lv_iload_n hx hb dX10_askOf_33 rfl (lv_at hl 2 rfl) ?_
          obtain ⟨q1, hc, hf⟩ := zbd hf
          refine z_cVi (As := [.int v2]) (rest := []) C (c_X10_leavesOf l D cy ht St St_often v2 q1 hc) gV_X10_X10_leavesOf hd_X10_leavesOf ⟨Nat.le_of_ble_eq_true rfl, Nat.le_of_ble_eq_true rfl⟩ ⟨Nat.le_refl _, Nat.le_refl _⟩ (va_recv hK hP (ci := 6) (q0 := 0) rfl rfl) hP hD hS (w2 := wMo ht cy St ++ (wAI (fun _ => ht 17) cy 4 St_often ++ (wAI (fun _ => ht 15) cy 8 St_order ++ (wAI (fun _ => ht 8) cy 64 St_owned ++ (wAI (fun _ => ht 3) cy 140 St_r ++ (wAI (fun _ => ht 5) cy 325 St_told ++ (wAI (fun _ => ht 10) cy 325 St_trial))))))) [0, 1] [2, 3, 4, 5, 6] [5, 6, 0, 1, 2, 3, 4] rfl rfl rfl rfl rfl rfl (by decide) hl.1 (Nat.le_of_ble_eq_true rfl) dX10_askOf_34 (fun H locs hP hD hS => ?_)
          refine lv_aload_n hx hb dX10_askOf_37 rfl (lv_at hl 0 rfl) ?_
          refine lv_iload_n hx hb dX10_askOf_38 rfl (lv_at hl 1 rfl) ?_
          obtain ⟨q2, hc, hf⟩ := zbd hf
          refine z_cVi (As := [.int v1]) (rest := [.int q1]) C (c_X10_leavesOf l D cy ht St St_often v1 q2 hc) gV_X10_X10_leavesOf hd_X10_leavesOf ⟨Nat.le_of_ble_eq_true rfl, Nat.le_of_ble_eq_true rfl⟩ ⟨Nat.le_refl _, Nat.le_refl _⟩ (va_recv hK hP (ci := 6) (q0 := 0) rfl rfl) hP hD hS (w2 := wMo ht cy St ++ (wAI (fun _ => ht 17) cy 4 St_often ++ (wAI (fun _ => ht 15) cy 8 St_order ++ (wAI (fun _ => ht 8) cy 64 St_owned ++ (wAI (fun _ => ht 3) cy 140 St_r ++ (wAI (fun _ => ht 5) cy 325 St_told ++ (wAI (fun _ => ht 10) cy 325 St_trial))))))) [0, 1] [2, 3, 4, 5, 6] [5, 6, 0, 1, 2, 3, 4] rfl rfl rfl rfl rfl rfl (by decide) hl.1 (Nat.le_of_ble_eq_true rfl) dX10_askOf_39 (fun H locs hP hD hS => ?_)
          refine z_icmp_ge (tgt := 47) hx hb dX10_askOf_42 (by decide) hf (fun hf => ?_) (fun hf => ?_)
          · refine lv_iinc (v := (v2 + (1 : Int32))) (lv' := [(2, .int (v2 + (1 : Int32))), (0, .ref (ht 0)), (1, .int v1)]) hx hb dX10_askOf_47 hl (k := 2) rfl rfl (by decide) rfl (fun ls hl => ?_)
            refine lv_goto (tgt := 11) hx hb dX10_askOf_50 (by decide) ?_
            exact K11 St St_often St_trial v1 (v2 + (1 : Int32)) H locs ls hf hP hD hS (lv_sub hl [1, 2, 0] rfl)
          · refine lv_iload_n hx hb dX10_askOf_45 rfl (lv_at hl 2 rfl) ?_
            refine lv_istore_n (lv' := [(1, .int v2), (0, .ref (ht 0)), (2, .int v2)]) hx hb dX10_askOf_46 rfl hl (by decide) rfl (fun ls hl => ?_)
            refine lv_iinc (v := (v2 + (1 : Int32))) (lv' := [(2, .int (v2 + (1 : Int32))), (1, .int v2), (0, .ref (ht 0))]) hx hb dX10_askOf_47 hl (k := 2) rfl rfl (by decide) rfl (fun ls hl => ?_)
            refine lv_goto (tgt := 11) hx hb dX10_askOf_50 (by decide) ?_
            exact K11 St St_often St_trial v2 (v2 + (1 : Int32)) H locs ls hf hP hD hS (lv_sub hl [2, 1, 0] rfl)
def f_X10_askOf (St : SMo) (St_often : Nat → Int32) (St_order : Nat → Int32) (St_owned : Nat → Int32) (St_r : Nat → Int32) (St_told : Nat → Int32) (St_trial : Nat → Int32) : Option (Int32 × SMo × (Nat → Int32) × (Nat → Int32)) :=
  (f_X10_seekSets St St_often St_order St_owned St_r St_told St_trial (-1 : Int32)).bind (fun q3 =>
    (zl5 (b_X10_askOf_11 St_order St_owned St_r St_told) FU q3.2.1 q3.2.2.1 q3.2.2.2 (-2 : Int32) (0 : Int32)))
set_option maxHeartbeats 4000000 in
set_option maxRecDepth 100000 in
theorem c_X10_askOf (l : Launch) (D : va_G) (cy : Nat → ClassId) (ht : Nat → Nat) (St : SMo) (St_often : Nat → Int32) (St_order : Nat → Int32) (St_owned : Nat → Int32) (St_r : Nat → Int32) (St_told : Nat → Int32) (St_trial : Nat → Int32) (r : Int32 × SMo × (Nat → Int32) × (Nat → Int32)) (hf : f_X10_askOf St St_often St_order St_owned St_r St_told St_trial = some r) : zCI l yX10_askOf cX10_askOf 3 (some FieldType.int) 9 214 D (zty cy) [.ref (ht 0)] (wMo ht cy St ++ (wAI (fun _ => ht 17) cy 4 St_often ++ (wAI (fun _ => ht 15) cy 8 St_order ++ (wAI (fun _ => ht 8) cy 64 St_owned ++ (wAI (fun _ => ht 3) cy 140 St_r ++ (wAI (fun _ => ht 5) cy 325 St_told ++ (wAI (fun _ => ht 10) cy 325 St_trial))))))) (wMo ht cy r.2.1 ++ (wAI (fun _ => ht 17) cy 4 r.2.2.1 ++ (wAI (fun _ => ht 15) cy 8 St_order ++ (wAI (fun _ => ht 8) cy 64 St_owned ++ (wAI (fun _ => ht 3) cy 140 St_r ++ (wAI (fun _ => ht 5) cy 325 St_told ++ (wAI (fun _ => ht 10) cy 325 r.2.2.2))))))) r.1 := by
  refine zCI_of (by decide +kernel) (Nat.le_of_ble_eq_true rfl) ?_
  intro p e s m below meth c A ls C hP hD hS hl
  generalize hargs : ([.ref (ht 0)] : List Value).toArray = args at C ⊢
  have C : zX p s m meth c cX10_askOf 3 args RX10 (some FieldType.int) A D (zty cy) := C
  obtain ⟨hx, hb, hr, hts, hown, hlocks, hml, hA, hK⟩ := id C
  have hl : lv_has ls 3 [(0, .ref (ht 0))] := hl
  generalize hH : s.heap = H at hP ⊢
  have hS : va_S A s.heap H [] := by rw [← hH]; exact hS
  generalize ([] : List Loc) = locs at hS ⊢
  refine lv_aload_n hx hb dX10_askOf_0 rfl (lv_at hl 0 rfl) ?_
  refine lv_iconst (v := (-1 : Int32)) hx hb dX10_askOf_1 (by decide) ?_
  obtain ⟨q3, hc, hf⟩ := zbd hf
  refine z_cVi0 (As := [.int (-1 : Int32)]) (rest := []) C (c_X10_seekSets l D cy ht St St_often St_order St_owned St_r St_told St_trial (-1 : Int32) q3 hc) gV_X10_X10_seekSets hd_X10_seekSets ⟨Nat.le_of_ble_eq_true rfl, Nat.le_of_ble_eq_true rfl⟩ ⟨Nat.le_refl _, Nat.le_refl _⟩ (va_recv hK hP (ci := 6) (q0 := 0) rfl rfl) hP hD hS hl.1 (Nat.le_of_ble_eq_true rfl) dX10_askOf_2 (fun H locs hP hD hS => ?_)
  have hP : va_P D vwCl (wMo ht cy q3.2.1 ++ (wAI (fun _ => ht 17) cy 4 q3.2.2.1 ++ (wAI (fun _ => ht 15) cy 8 St_order ++ (wAI (fun _ => ht 8) cy 64 St_owned ++ (wAI (fun _ => ht 3) cy 140 St_r ++ (wAI (fun _ => ht 5) cy 325 St_told ++ (wAI (fun _ => ht 10) cy 325 q3.2.2.2))))))) H := hP
  have hD : va_D A (wMo ht cy q3.2.1 ++ (wAI (fun _ => ht 17) cy 4 q3.2.2.1 ++ (wAI (fun _ => ht 15) cy 8 St_order ++ (wAI (fun _ => ht 8) cy 64 St_owned ++ (wAI (fun _ => ht 3) cy 140 St_r ++ (wAI (fun _ => ht 5) cy 325 St_told ++ (wAI (fun _ => ht 10) cy 325 q3.2.2.2))))))) := hD
  refine lv_pop hx hb dX10_askOf_5 rfl ?_
  refine lv_bipush (v := (-2 : Int32)) hx hb dX10_askOf_6 (by decide) ?_
  refine lv_istore_n (lv' := [(1, .int (-2 : Int32)), (0, .ref (ht 0))]) hx hb dX10_askOf_8 rfl hl (by decide) rfl (fun ls hl => ?_)
  refine lv_iconst (v := (0 : Int32)) hx hb dX10_askOf_9 (by decide) ?_
  refine lv_istore_n (lv' := [(2, .int (0 : Int32)), (1, .int (-2 : Int32)), (0, .ref (ht 0))]) hx hb dX10_askOf_10 rfl hl (by decide) rfl (fun ls hl => ?_)
  exact w_X10_askOf_11 l ht St_order St_owned St_r St_told C FU q3.2.1 q3.2.2.1 q3.2.2.2 (-2 : Int32) (0 : Int32) H locs ls hf hP hD hS (lv_sub hl [2, 1, 0] rfl)
def f_X10_ask (St : SMo) (St_often : Nat → Int32) (St_order : Nat → Int32) (St_owned : Nat → Int32) (St_r : Nat → Int32) (St_told : Nat → Int32) (St_trial : Nat → Int32) : Option (Int32 × SMo × (Nat → Int32) × (Nat → Int32)) :=
  (f_X10_anew St).bind (fun q1 =>
    (if (Mo_hasStore q1) = 0 then
      (f_X10_no q1 (1 : Int32)).bind (fun q2 =>
        some (q2.1, q2.2, St_often, St_trial))
      else
      (f_X10_askOf q1 St_often St_order St_owned St_r St_told St_trial).bind (fun q3 =>
        some (q3.1, q3.2.1, q3.2.2.1, q3.2.2.2))))
set_option maxHeartbeats 4000000 in
set_option maxRecDepth 100000 in
theorem c_X10_ask (l : Launch) (D : va_G) (cy : Nat → ClassId) (ht : Nat → Nat) (St : SMo) (St_often : Nat → Int32) (St_order : Nat → Int32) (St_owned : Nat → Int32) (St_r : Nat → Int32) (St_told : Nat → Int32) (St_trial : Nat → Int32) (r : Int32 × SMo × (Nat → Int32) × (Nat → Int32)) (hf : f_X10_ask St St_often St_order St_owned St_r St_told St_trial = some r) : zCI l yX10_ask cX10_ask 1 (some FieldType.int) 10 236 D (zty cy) [.ref (ht 0)] (wMo ht cy St ++ (wAI (fun _ => ht 17) cy 4 St_often ++ (wAI (fun _ => ht 15) cy 8 St_order ++ (wAI (fun _ => ht 8) cy 64 St_owned ++ (wAI (fun _ => ht 3) cy 140 St_r ++ (wAI (fun _ => ht 5) cy 325 St_told ++ (wAI (fun _ => ht 10) cy 325 St_trial))))))) (wMo ht cy r.2.1 ++ (wAI (fun _ => ht 17) cy 4 r.2.2.1 ++ (wAI (fun _ => ht 15) cy 8 St_order ++ (wAI (fun _ => ht 8) cy 64 St_owned ++ (wAI (fun _ => ht 3) cy 140 St_r ++ (wAI (fun _ => ht 5) cy 325 St_told ++ (wAI (fun _ => ht 10) cy 325 r.2.2.2))))))) r.1 := by
  refine zCI_of (by decide +kernel) (Nat.le_of_ble_eq_true rfl) ?_
  intro p e s m below meth c A ls C hP hD hS hl
  generalize hargs : ([.ref (ht 0)] : List Value).toArray = args at C ⊢
  have C : zX p s m meth c cX10_ask 1 args RX10 (some FieldType.int) A D (zty cy) := C
  obtain ⟨hx, hb, hr, hts, hown, hlocks, hml, hA, hK⟩ := id C
  have hl : lv_has ls 1 [(0, .ref (ht 0))] := hl
  generalize hH : s.heap = H at hP ⊢
  have hS : va_S A s.heap H [] := by rw [← hH]; exact hS
  generalize ([] : List Loc) = locs at hS ⊢
  refine lv_aload_n hx hb dX10_ask_0 rfl (lv_at hl 0 rfl) ?_
  obtain ⟨q1, hc, hf⟩ := zbd hf
  refine z_cVv (As := []) (rest := []) C (c_X10_anew l D cy ht St q1 hc) gV_X10_X10_anew hd_X10_anew ⟨Nat.le_of_ble_eq_true rfl, Nat.le_of_ble_eq_true rfl⟩ ⟨Nat.le_refl _, Nat.le_refl _⟩ (va_recv hK hP (ci := 6) (q0 := 0) rfl rfl) hP hD hS (w2 := wMo ht cy q1 ++ (wAI (fun _ => ht 17) cy 4 St_often ++ (wAI (fun _ => ht 15) cy 8 St_order ++ (wAI (fun _ => ht 8) cy 64 St_owned ++ (wAI (fun _ => ht 3) cy 140 St_r ++ (wAI (fun _ => ht 5) cy 325 St_told ++ (wAI (fun _ => ht 10) cy 325 St_trial))))))) [0] [1, 2, 3, 4, 5, 6] [6, 0, 1, 2, 3, 4, 5] rfl rfl rfl rfl rfl rfl (by decide) hl.1 (Nat.le_of_ble_eq_true rfl) dX10_ask_1 (fun H locs hP hD hS => ?_)
  refine lv_aload_n hx hb dX10_ask_4 rfl (lv_at hl 0 rfl) ?_
  refine va_get (D := D) (ci := 6) (v := .int (Mo_hasStore q1)) (C := RX10) (T := TX10) (N := 41) hx hb hts in_X10 hown hK hP 0 rfl rfl 14 (by decide) (hts _ q6_59) (fun _ h9 => h9) rfl dX10_ask_5 ?_
  refine z_if_eq (tgt := 18) hx hb dX10_ask_8 (by decide) hf (fun hf => ?_) (fun hf => ?_)
  · refine lv_aload_n hx hb dX10_ask_18 rfl (lv_at hl 0 rfl) ?_
    refine lv_iconst (v := (1 : Int32)) hx hb dX10_ask_19 (by decide) ?_
    obtain ⟨q2, hc, hf⟩ := zbd hf
    refine z_cVi (As := [.int (1 : Int32)]) (rest := []) C (c_X10_no l D cy ht q1 (1 : Int32) q2 hc) gV_X10_X10_no hd_X10_no ⟨Nat.le_of_ble_eq_true rfl, Nat.le_of_ble_eq_true rfl⟩ ⟨Nat.le_refl _, Nat.le_refl _⟩ (va_recv hK hP (ci := 6) (q0 := 0) rfl rfl) hP hD hS (w2 := wMo ht cy q2.2 ++ (wAI (fun _ => ht 17) cy 4 St_often ++ (wAI (fun _ => ht 15) cy 8 St_order ++ (wAI (fun _ => ht 8) cy 64 St_owned ++ (wAI (fun _ => ht 3) cy 140 St_r ++ (wAI (fun _ => ht 5) cy 325 St_told ++ (wAI (fun _ => ht 10) cy 325 St_trial))))))) [0] [1, 2, 3, 4, 5, 6] [6, 0, 1, 2, 3, 4, 5] rfl rfl rfl rfl rfl rfl (by decide) hl.1 (Nat.le_of_ble_eq_true rfl) dX10_ask_20 (fun H locs hP hD hS => ?_)
    obtain rfl := Option.some.inj hf
    exact z_iret (v := q2.1) C hP hD hS dX10_ask_23
  · refine lv_aload_n hx hb dX10_ask_11 rfl (lv_at hl 0 rfl) ?_
    obtain ⟨q3, hc, hf⟩ := zbd hf
    refine z_cVi0 (As := []) (rest := []) C (c_X10_askOf l D cy ht q1 St_often St_order St_owned St_r St_told St_trial q3 hc) gV_X10_X10_askOf hd_X10_askOf ⟨Nat.le_of_ble_eq_true rfl, Nat.le_of_ble_eq_true rfl⟩ ⟨Nat.le_refl _, Nat.le_refl _⟩ (va_recv hK hP (ci := 6) (q0 := 0) rfl rfl) hP hD hS hl.1 (Nat.le_of_ble_eq_true rfl) dX10_ask_12 (fun H locs hP hD hS => ?_)
    have hP : va_P D vwCl (wMo ht cy q3.2.1 ++ (wAI (fun _ => ht 17) cy 4 q3.2.2.1 ++ (wAI (fun _ => ht 15) cy 8 St_order ++ (wAI (fun _ => ht 8) cy 64 St_owned ++ (wAI (fun _ => ht 3) cy 140 St_r ++ (wAI (fun _ => ht 5) cy 325 St_told ++ (wAI (fun _ => ht 10) cy 325 q3.2.2.2))))))) H := hP
    have hD : va_D A (wMo ht cy q3.2.1 ++ (wAI (fun _ => ht 17) cy 4 q3.2.2.1 ++ (wAI (fun _ => ht 15) cy 8 St_order ++ (wAI (fun _ => ht 8) cy 64 St_owned ++ (wAI (fun _ => ht 3) cy 140 St_r ++ (wAI (fun _ => ht 5) cy 325 St_told ++ (wAI (fun _ => ht 10) cy 325 q3.2.2.2))))))) := hD
    refine lv_goto (tgt := 23) hx hb dX10_ask_15 (by decide) ?_
    obtain rfl := Option.some.inj hf
    exact z_iret (v := q3.1) C hP hD hS dX10_ask_23
def f_X10_askLeaves (St : SMo) (St_often : Nat → Int32) (St_order : Nat → Int32) (St_owned : Nat → Int32) (St_r : Nat → Int32) (St_told : Nat → Int32) (St_trial : Nat → Int32) : Option (Int32 × SMo × (Nat → Int32) × (Nat → Int32)) :=
  (f_X10_anew St).bind (fun q1 =>
    (if (Mo_hasStore q1) = 0 then
      (f_X10_no q1 (1 : Int32)).bind (fun q4 =>
        some (q4.1, q4.2, St_often, St_trial))
      else
      (f_X10_askOf q1 St_often St_order St_owned St_r St_told St_trial).bind (fun q2 =>
        (if 0 ≤ q2.1 then
          (f_X10_leavesOf q2.2.1 q2.2.2.1 q2.1).bind (fun q3 =>
            some (q3, q2.2.1, q2.2.2.1, q2.2.2.2))
          else
          some ((-2 : Int32), q2.2.1, q2.2.2.1, q2.2.2.2)))))
set_option maxHeartbeats 4000000 in
set_option maxRecDepth 100000 in
theorem c_X10_askLeaves (l : Launch) (D : va_G) (cy : Nat → ClassId) (ht : Nat → Nat) (St : SMo) (St_often : Nat → Int32) (St_order : Nat → Int32) (St_owned : Nat → Int32) (St_r : Nat → Int32) (St_told : Nat → Int32) (St_trial : Nat → Int32) (r : Int32 × SMo × (Nat → Int32) × (Nat → Int32)) (hf : f_X10_askLeaves St St_often St_order St_owned St_r St_told St_trial = some r) : zCI l yX10_askLeaves cX10_askLeaves 2 (some FieldType.int) 10 236 D (zty cy) [.ref (ht 0)] (wMo ht cy St ++ (wAI (fun _ => ht 17) cy 4 St_often ++ (wAI (fun _ => ht 15) cy 8 St_order ++ (wAI (fun _ => ht 8) cy 64 St_owned ++ (wAI (fun _ => ht 3) cy 140 St_r ++ (wAI (fun _ => ht 5) cy 325 St_told ++ (wAI (fun _ => ht 10) cy 325 St_trial))))))) (wMo ht cy r.2.1 ++ (wAI (fun _ => ht 17) cy 4 r.2.2.1 ++ (wAI (fun _ => ht 15) cy 8 St_order ++ (wAI (fun _ => ht 8) cy 64 St_owned ++ (wAI (fun _ => ht 3) cy 140 St_r ++ (wAI (fun _ => ht 5) cy 325 St_told ++ (wAI (fun _ => ht 10) cy 325 r.2.2.2))))))) r.1 := by
  refine zCI_of (by decide +kernel) (Nat.le_of_ble_eq_true rfl) ?_
  intro p e s m below meth c A ls C hP hD hS hl
  generalize hargs : ([.ref (ht 0)] : List Value).toArray = args at C ⊢
  have C : zX p s m meth c cX10_askLeaves 2 args RX10 (some FieldType.int) A D (zty cy) := C
  obtain ⟨hx, hb, hr, hts, hown, hlocks, hml, hA, hK⟩ := id C
  have hl : lv_has ls 2 [(0, .ref (ht 0))] := hl
  generalize hH : s.heap = H at hP ⊢
  have hS : va_S A s.heap H [] := by rw [← hH]; exact hS
  generalize ([] : List Loc) = locs at hS ⊢
  refine lv_aload_n hx hb dX10_askLeaves_0 rfl (lv_at hl 0 rfl) ?_
  obtain ⟨q1, hc, hf⟩ := zbd hf
  refine z_cVv (As := []) (rest := []) C (c_X10_anew l D cy ht St q1 hc) gV_X10_X10_anew hd_X10_anew ⟨Nat.le_of_ble_eq_true rfl, Nat.le_of_ble_eq_true rfl⟩ ⟨Nat.le_refl _, Nat.le_refl _⟩ (va_recv hK hP (ci := 6) (q0 := 0) rfl rfl) hP hD hS (w2 := wMo ht cy q1 ++ (wAI (fun _ => ht 17) cy 4 St_often ++ (wAI (fun _ => ht 15) cy 8 St_order ++ (wAI (fun _ => ht 8) cy 64 St_owned ++ (wAI (fun _ => ht 3) cy 140 St_r ++ (wAI (fun _ => ht 5) cy 325 St_told ++ (wAI (fun _ => ht 10) cy 325 St_trial))))))) [0] [1, 2, 3, 4, 5, 6] [6, 0, 1, 2, 3, 4, 5] rfl rfl rfl rfl rfl rfl (by decide) hl.1 (Nat.le_of_ble_eq_true rfl) dX10_askLeaves_1 (fun H locs hP hD hS => ?_)
  refine lv_aload_n hx hb dX10_askLeaves_4 rfl (lv_at hl 0 rfl) ?_
  refine va_get (D := D) (ci := 6) (v := .int (Mo_hasStore q1)) (C := RX10) (T := TX10) (N := 41) hx hb hts in_X10 hown hK hP 0 rfl rfl 14 (by decide) (hts _ q6_59) (fun _ h9 => h9) rfl dX10_askLeaves_5 ?_
  refine z_if_ne (tgt := 17) hx hb dX10_askLeaves_8 (by decide) hf (fun hf => ?_) (fun hf => ?_)
  · refine lv_aload_n hx hb dX10_askLeaves_17 rfl (lv_at hl 0 rfl) ?_
    obtain ⟨q2, hc, hf⟩ := zbd hf
    refine z_cVi0 (As := []) (rest := []) C (c_X10_askOf l D cy ht q1 St_often St_order St_owned St_r St_told St_trial q2 hc) gV_X10_X10_askOf hd_X10_askOf ⟨Nat.le_of_ble_eq_true rfl, Nat.le_of_ble_eq_true rfl⟩ ⟨Nat.le_refl _, Nat.le_refl _⟩ (va_recv hK hP (ci := 6) (q0 := 0) rfl rfl) hP hD hS hl.1 (Nat.le_of_ble_eq_true rfl) dX10_askLeaves_18 (fun H locs hP hD hS => ?_)
    have hP : va_P D vwCl (wMo ht cy q2.2.1 ++ (wAI (fun _ => ht 17) cy 4 q2.2.2.1 ++ (wAI (fun _ => ht 15) cy 8 St_order ++ (wAI (fun _ => ht 8) cy 64 St_owned ++ (wAI (fun _ => ht 3) cy 140 St_r ++ (wAI (fun _ => ht 5) cy 325 St_told ++ (wAI (fun _ => ht 10) cy 325 q2.2.2.2))))))) H := hP
    have hD : va_D A (wMo ht cy q2.2.1 ++ (wAI (fun _ => ht 17) cy 4 q2.2.2.1 ++ (wAI (fun _ => ht 15) cy 8 St_order ++ (wAI (fun _ => ht 8) cy 64 St_owned ++ (wAI (fun _ => ht 3) cy 140 St_r ++ (wAI (fun _ => ht 5) cy 325 St_told ++ (wAI (fun _ => ht 10) cy 325 q2.2.2.2))))))) := hD
    refine lv_istore_n (lv' := [(1, .int q2.1), (0, .ref (ht 0))]) hx hb dX10_askLeaves_21 rfl hl (by decide) rfl (fun ls hl => ?_)
    refine lv_iload_n hx hb dX10_askLeaves_22 rfl (lv_at hl 0 rfl) ?_
    refine z_if_ge (tgt := 31) hx hb dX10_askLeaves_23 (by decide) hf (fun hf => ?_) (fun hf => ?_)
    · refine lv_aload_n hx hb dX10_askLeaves_31 rfl (lv_at hl 1 rfl) ?_
      refine lv_iload_n hx hb dX10_askLeaves_32 rfl (lv_at hl 0 rfl) ?_
      obtain ⟨q3, hc, hf⟩ := zbd hf
      refine z_cVi (As := [.int q2.1]) (rest := []) C (c_X10_leavesOf l D cy ht q2.2.1 q2.2.2.1 q2.1 q3 hc) gV_X10_X10_leavesOf hd_X10_leavesOf ⟨Nat.le_of_ble_eq_true rfl, Nat.le_of_ble_eq_true rfl⟩ ⟨Nat.le_refl _, Nat.le_refl _⟩ (va_recv hK hP (ci := 6) (q0 := 0) rfl rfl) hP hD hS (w2 := wMo ht cy q2.2.1 ++ (wAI (fun _ => ht 17) cy 4 q2.2.2.1 ++ (wAI (fun _ => ht 15) cy 8 St_order ++ (wAI (fun _ => ht 8) cy 64 St_owned ++ (wAI (fun _ => ht 3) cy 140 St_r ++ (wAI (fun _ => ht 5) cy 325 St_told ++ (wAI (fun _ => ht 10) cy 325 q2.2.2.2))))))) [0, 1] [2, 3, 4, 5, 6] [5, 6, 0, 1, 2, 3, 4] rfl rfl rfl rfl rfl rfl (by decide) hl.1 (Nat.le_of_ble_eq_true rfl) dX10_askLeaves_33 (fun H locs hP hD hS => ?_)
      obtain rfl := Option.some.inj hf
      exact z_iret (v := q3) C hP hD hS dX10_askLeaves_36
    · refine lv_bipush (v := (-2 : Int32)) hx hb dX10_askLeaves_26 (by decide) ?_
      refine lv_goto (tgt := 36) hx hb dX10_askLeaves_28 (by decide) ?_
      obtain rfl := Option.some.inj hf
      exact z_iret (v := (-2 : Int32)) C hP hD hS dX10_askLeaves_36
  · refine lv_aload_n hx hb dX10_askLeaves_11 rfl (lv_at hl 0 rfl) ?_
    refine lv_iconst (v := (1 : Int32)) hx hb dX10_askLeaves_12 (by decide) ?_
    obtain ⟨q4, hc, hf⟩ := zbd hf
    refine z_cVi (As := [.int (1 : Int32)]) (rest := []) C (c_X10_no l D cy ht q1 (1 : Int32) q4 hc) gV_X10_X10_no hd_X10_no ⟨Nat.le_of_ble_eq_true rfl, Nat.le_of_ble_eq_true rfl⟩ ⟨Nat.le_refl _, Nat.le_refl _⟩ (va_recv hK hP (ci := 6) (q0 := 0) rfl rfl) hP hD hS (w2 := wMo ht cy q4.2 ++ (wAI (fun _ => ht 17) cy 4 St_often ++ (wAI (fun _ => ht 15) cy 8 St_order ++ (wAI (fun _ => ht 8) cy 64 St_owned ++ (wAI (fun _ => ht 3) cy 140 St_r ++ (wAI (fun _ => ht 5) cy 325 St_told ++ (wAI (fun _ => ht 10) cy 325 St_trial))))))) [0] [1, 2, 3, 4, 5, 6] [6, 0, 1, 2, 3, 4, 5] rfl rfl rfl rfl rfl rfl (by decide) hl.1 (Nat.le_of_ble_eq_true rfl) dX10_askLeaves_13 (fun H locs hP hD hS => ?_)
    obtain rfl := Option.some.inj hf
    exact z_iret (v := q4.1) C hP hD hS dX10_askLeaves_16
def f_X10_judge (St : SMo) (St_order : Nat → Int32) (St_owned : Nat → Int32) (St_r : Nat → Int32) (St_told : Nat → Int32) (St_trial : Nat → Int32) : Option (Int32 × SMo × (Nat → Int32)) :=
  (f_X10_anew St).bind (fun q1 =>
    (if (Mo_hasStore q1) = 0 then
      (f_X10_no q1 (1 : Int32)).bind (fun q2 =>
        some (q2.1, q2.2, St_trial))
      else
      (f_X10_wrongBy q1 St_order St_owned St_r St_told St_trial (0 : Int32)).bind (fun q3 =>
        some (q3.1, q1, q3.2))))
set_option maxHeartbeats 4000000 in
set_option maxRecDepth 100000 in
theorem c_X10_judge (l : Launch) (D : va_G) (cy : Nat → ClassId) (ht : Nat → Nat) (St : SMo) (St_order : Nat → Int32) (St_owned : Nat → Int32) (St_r : Nat → Int32) (St_told : Nat → Int32) (St_trial : Nat → Int32) (r : Int32 × SMo × (Nat → Int32)) (hf : f_X10_judge St St_order St_owned St_r St_told St_trial = some r) : zCI l yX10_judge cX10_judge 1 (some FieldType.int) 8 190 D (zty cy) [.ref (ht 0)] (wMo ht cy St ++ (wAI (fun _ => ht 15) cy 8 St_order ++ (wAI (fun _ => ht 8) cy 64 St_owned ++ (wAI (fun _ => ht 3) cy 140 St_r ++ (wAI (fun _ => ht 5) cy 325 St_told ++ (wAI (fun _ => ht 10) cy 325 St_trial)))))) (wMo ht cy r.2.1 ++ (wAI (fun _ => ht 15) cy 8 St_order ++ (wAI (fun _ => ht 8) cy 64 St_owned ++ (wAI (fun _ => ht 3) cy 140 St_r ++ (wAI (fun _ => ht 5) cy 325 St_told ++ (wAI (fun _ => ht 10) cy 325 r.2.2)))))) r.1 := by
  refine zCI_of (by decide +kernel) (Nat.le_of_ble_eq_true rfl) ?_
  intro p e s m below meth c A ls C hP hD hS hl
  generalize hargs : ([.ref (ht 0)] : List Value).toArray = args at C ⊢
  have C : zX p s m meth c cX10_judge 1 args RX10 (some FieldType.int) A D (zty cy) := C
  obtain ⟨hx, hb, hr, hts, hown, hlocks, hml, hA, hK⟩ := id C
  have hl : lv_has ls 1 [(0, .ref (ht 0))] := hl
  generalize hH : s.heap = H at hP ⊢
  have hS : va_S A s.heap H [] := by rw [← hH]; exact hS
  generalize ([] : List Loc) = locs at hS ⊢
  refine lv_aload_n hx hb dX10_judge_0 rfl (lv_at hl 0 rfl) ?_
  obtain ⟨q1, hc, hf⟩ := zbd hf
  refine z_cVv (As := []) (rest := []) C (c_X10_anew l D cy ht St q1 hc) gV_X10_X10_anew hd_X10_anew ⟨Nat.le_of_ble_eq_true rfl, Nat.le_of_ble_eq_true rfl⟩ ⟨Nat.le_refl _, Nat.le_refl _⟩ (va_recv hK hP (ci := 6) (q0 := 0) rfl rfl) hP hD hS (w2 := wMo ht cy q1 ++ (wAI (fun _ => ht 15) cy 8 St_order ++ (wAI (fun _ => ht 8) cy 64 St_owned ++ (wAI (fun _ => ht 3) cy 140 St_r ++ (wAI (fun _ => ht 5) cy 325 St_told ++ (wAI (fun _ => ht 10) cy 325 St_trial)))))) [0] [1, 2, 3, 4, 5] [5, 0, 1, 2, 3, 4] rfl rfl rfl rfl rfl rfl (by decide) hl.1 (Nat.le_of_ble_eq_true rfl) dX10_judge_1 (fun H locs hP hD hS => ?_)
  refine lv_aload_n hx hb dX10_judge_4 rfl (lv_at hl 0 rfl) ?_
  refine va_get (D := D) (ci := 6) (v := .int (Mo_hasStore q1)) (C := RX10) (T := TX10) (N := 41) hx hb hts in_X10 hown hK hP 0 rfl rfl 14 (by decide) (hts _ q6_59) (fun _ h9 => h9) rfl dX10_judge_5 ?_
  refine z_if_eq (tgt := 19) hx hb dX10_judge_8 (by decide) hf (fun hf => ?_) (fun hf => ?_)
  · refine lv_aload_n hx hb dX10_judge_19 rfl (lv_at hl 0 rfl) ?_
    refine lv_iconst (v := (1 : Int32)) hx hb dX10_judge_20 (by decide) ?_
    obtain ⟨q2, hc, hf⟩ := zbd hf
    refine z_cVi (As := [.int (1 : Int32)]) (rest := []) C (c_X10_no l D cy ht q1 (1 : Int32) q2 hc) gV_X10_X10_no hd_X10_no ⟨Nat.le_of_ble_eq_true rfl, Nat.le_of_ble_eq_true rfl⟩ ⟨Nat.le_refl _, Nat.le_refl _⟩ (va_recv hK hP (ci := 6) (q0 := 0) rfl rfl) hP hD hS (w2 := wMo ht cy q2.2 ++ (wAI (fun _ => ht 15) cy 8 St_order ++ (wAI (fun _ => ht 8) cy 64 St_owned ++ (wAI (fun _ => ht 3) cy 140 St_r ++ (wAI (fun _ => ht 5) cy 325 St_told ++ (wAI (fun _ => ht 10) cy 325 St_trial)))))) [0] [1, 2, 3, 4, 5] [5, 0, 1, 2, 3, 4] rfl rfl rfl rfl rfl rfl (by decide) hl.1 (Nat.le_of_ble_eq_true rfl) dX10_judge_21 (fun H locs hP hD hS => ?_)
    obtain rfl := Option.some.inj hf
    exact z_iret (v := q2.1) C hP hD hS dX10_judge_24
  · refine lv_aload_n hx hb dX10_judge_11 rfl (lv_at hl 0 rfl) ?_
    refine lv_iconst (v := (0 : Int32)) hx hb dX10_judge_12 (by decide) ?_
    obtain ⟨q3, hc, hf⟩ := zbd hf
    refine z_cVi0 (As := [.int (0 : Int32)]) (rest := []) C (c_X10_wrongBy l D cy ht q1 St_order St_owned St_r St_told St_trial (0 : Int32) q3 hc) gV_X10_X10_wrongBy hd_X10_wrongBy ⟨Nat.le_of_ble_eq_true rfl, Nat.le_of_ble_eq_true rfl⟩ ⟨Nat.le_refl _, Nat.le_refl _⟩ (va_recv hK hP (ci := 6) (q0 := 0) rfl rfl) hP hD hS hl.1 (Nat.le_of_ble_eq_true rfl) dX10_judge_13 (fun H locs hP hD hS => ?_)
    have hP : va_P D vwCl (wMo ht cy q1 ++ (wAI (fun _ => ht 15) cy 8 St_order ++ (wAI (fun _ => ht 8) cy 64 St_owned ++ (wAI (fun _ => ht 3) cy 140 St_r ++ (wAI (fun _ => ht 5) cy 325 St_told ++ (wAI (fun _ => ht 10) cy 325 q3.2)))))) H := hP
    have hD : va_D A (wMo ht cy q1 ++ (wAI (fun _ => ht 15) cy 8 St_order ++ (wAI (fun _ => ht 8) cy 64 St_owned ++ (wAI (fun _ => ht 3) cy 140 St_r ++ (wAI (fun _ => ht 5) cy 325 St_told ++ (wAI (fun _ => ht 10) cy 325 q3.2)))))) := hD
    refine lv_goto (tgt := 24) hx hb dX10_judge_16 (by decide) ?_
    obtain rfl := Option.some.inj hf
    exact z_iret (v := q3.1) C hP hD hS dX10_judge_24
def f_X10_waitsOf (x0 : Int32) (x1 : Int32) (x2 : Int32) : Option (Int32) :=
  (if x1 = 0 then
    (if x2 = 0 then
      some (2 : Int32)
      else
      some (1 : Int32))
    else
    (if x2 = 0 then
      some (4 : Int32)
      else
      some (-x0)))
set_option maxHeartbeats 4000000 in
set_option maxRecDepth 100000 in
theorem c_X10_waitsOf (l : Launch) (D : va_G) (cy : Nat → ClassId) (x0 : Int32) (x1 : Int32) (x2 : Int32) (r : Int32) (hf : f_X10_waitsOf x0 x1 x2 = some r) : zCI l yX10_waitsOf cX10_waitsOf 3 (some FieldType.int) 0 0 D (zty cy) [.int x0, .int x1, .int x2] ([]) ([]) r := by
  refine zCI_of (by decide +kernel) (Nat.le_of_ble_eq_true rfl) ?_
  intro p e s m below meth c A ls C hP hD hS hl
  generalize hargs : ([.int x0, .int x1, .int x2] : List Value).toArray = args at C ⊢
  have C : zX p s m meth c cX10_waitsOf 3 args RX10 (some FieldType.int) A D (zty cy) := C
  obtain ⟨hx, hb, hr, hts, hown, hlocks, hml, hA, hK⟩ := id C
  have hl : lv_has ls 3 [(0, .int x0), (1, .int x1), (2, .int x2)] := hl
  generalize hH : s.heap = H at hP ⊢
  have hS : va_S A s.heap H [] := by rw [← hH]; exact hS
  generalize ([] : List Loc) = locs at hS ⊢
  refine lv_iload_n hx hb dX10_waitsOf_0 rfl (lv_at hl 1 rfl) ?_
  refine z_if_eq (tgt := 17) hx hb dX10_waitsOf_1 (by decide) hf (fun hf => ?_) (fun hf => ?_)
  · refine lv_iload_n hx hb dX10_waitsOf_17 rfl (lv_at hl 2 rfl) ?_
    refine z_if_eq (tgt := 25) hx hb dX10_waitsOf_18 (by decide) hf (fun hf => ?_) (fun hf => ?_)
    · refine lv_iconst (v := (2 : Int32)) hx hb dX10_waitsOf_25 (by decide) ?_
      obtain rfl := Option.some.inj hf
      exact z_iret (v := (2 : Int32)) C hP hD hS dX10_waitsOf_26
    · refine lv_iconst (v := (1 : Int32)) hx hb dX10_waitsOf_21 (by decide) ?_
      refine lv_goto (tgt := 26) hx hb dX10_waitsOf_22 (by decide) ?_
      obtain rfl := Option.some.inj hf
      exact z_iret (v := (1 : Int32)) C hP hD hS dX10_waitsOf_26
  · refine lv_iload_n hx hb dX10_waitsOf_4 rfl (lv_at hl 2 rfl) ?_
    refine z_if_eq (tgt := 13) hx hb dX10_waitsOf_5 (by decide) hf (fun hf => ?_) (fun hf => ?_)
    · refine lv_iconst (v := (4 : Int32)) hx hb dX10_waitsOf_13 (by decide) ?_
      refine lv_goto (tgt := 26) hx hb dX10_waitsOf_14 (by decide) ?_
      obtain rfl := Option.some.inj hf
      exact z_iret (v := (4 : Int32)) C hP hD hS dX10_waitsOf_26
    · refine lv_iload_n hx hb dX10_waitsOf_8 rfl (lv_at hl 0 rfl) ?_
      refine lv_ineg hx hb dX10_waitsOf_9 ?_
      refine lv_goto (tgt := 26) hx hb dX10_waitsOf_10 (by decide) ?_
      obtain rfl := Option.some.inj hf
      exact z_iret (v := (-x0)) C hP hD hS dX10_waitsOf_26
def f_X10_waits (St : SMo) (x1 : Int32) (x2 : Int32) (x3 : Int32) (x4 : Int32) : Option (Int32 × SMo) :=
  (f_X10_anew St).bind (fun q1 =>
    (f_X10_in x1 (0 : Int32) (9 : Int32)).bind (fun q2 =>
      (f_X10_why (Mo_hasStore q1) q2).bind (fun q3 =>
        (if q3 = 0 then
          (if x4 = 0 then
            (f_X10_waitsOf x1 x2 x3).bind (fun q4 =>
              some (q4, q1))
            else
            (f_X10_waitsOf x1 x3 x2).bind (fun q5 =>
              some (q5, q1)))
          else
          some ((-100 : Int32), (mkMo (Mo_thrown q1) (Mo_taped q1) (Mo_size q1) (Mo_at q1) (Mo_end q1) (Mo_token q1) (Mo_whole q1) (Mo_nameSize q1) (Mo_fault q1) (Mo_place q1) q3 (Mo_failed q1) (Mo_hasStore q1) (Mo_undos q1) (Mo_images q1) (Mo_ring q1) (Mo_refused q1) (Mo_setMany q1) (Mo_someOf q1) (Mo_allOf q1) (Mo_firstRest q1) (Mo_allWeight q1) (Mo_seenWeight q1) (Mo_sumWeight q1)))))))
set_option maxHeartbeats 4000000 in
set_option maxRecDepth 100000 in
theorem c_X10_waits (l : Launch) (D : va_G) (cy : Nat → ClassId) (ht : Nat → Nat) (St : SMo) (x1 : Int32) (x2 : Int32) (x3 : Int32) (x4 : Int32) (r : Int32 × SMo) (hf : f_X10_waits St x1 x2 x3 x4 = some r) : zCI l yX10_waits cX10_waits 6 (some FieldType.int) 1 22 D (zty cy) [.ref (ht 0), .int x1, .int x2, .int x3, .int x4] (wMo ht cy St) (wMo ht cy r.2) r.1 := by
  refine zCI_of (by decide +kernel) (Nat.le_of_ble_eq_true rfl) ?_
  intro p e s m below meth c A ls C hP hD hS hl
  generalize hargs : ([.ref (ht 0), .int x1, .int x2, .int x3, .int x4] : List Value).toArray = args at C ⊢
  have C : zX p s m meth c cX10_waits 6 args RX10 (some FieldType.int) A D (zty cy) := C
  obtain ⟨hx, hb, hr, hts, hown, hlocks, hml, hA, hK⟩ := id C
  have hl : lv_has ls 6 [(0, .ref (ht 0)), (1, .int x1), (2, .int x2), (3, .int x3), (4, .int x4)] := hl
  generalize hH : s.heap = H at hP ⊢
  have hS : va_S A s.heap H [] := by rw [← hH]; exact hS
  generalize ([] : List Loc) = locs at hS ⊢
  refine lv_aload_n hx hb dX10_waits_0 rfl (lv_at hl 0 rfl) ?_
  obtain ⟨q1, hc, hf⟩ := zbd hf
  refine z_cVv0 (As := []) (rest := []) C (c_X10_anew l D cy ht St q1 hc) gV_X10_X10_anew hd_X10_anew ⟨Nat.le_of_ble_eq_true rfl, Nat.le_of_ble_eq_true rfl⟩ ⟨Nat.le_refl _, Nat.le_refl _⟩ (va_recv hK hP (ci := 6) (q0 := 0) rfl rfl) hP hD hS hl.1 (Nat.le_of_ble_eq_true rfl) dX10_waits_1 (fun H locs hP hD hS => ?_)
  have hP : va_P D vwCl (wMo ht cy q1) H := hP
  have hD : va_D A (wMo ht cy q1) := hD
  refine lv_aload_n hx hb dX10_waits_4 rfl (lv_at hl 0 rfl) ?_
  refine lv_aload_n hx hb dX10_waits_5 rfl (lv_at hl 0 rfl) ?_
  refine va_get (D := D) (ci := 6) (v := .int (Mo_hasStore q1)) (C := RX10) (T := TX10) (N := 41) hx hb hts in_X10 hown hK hP 0 rfl rfl 14 (by decide) (hts _ q6_59) (fun _ h9 => h9) rfl dX10_waits_6 ?_
  refine lv_iload_n hx hb dX10_waits_9 rfl (lv_at hl 1 rfl) ?_
  refine lv_iconst (v := (0 : Int32)) hx hb dX10_waits_10 (by decide) ?_
  refine lv_bipush (v := (9 : Int32)) hx hb dX10_waits_11 (by decide) ?_
  obtain ⟨q2, hc, hf⟩ := zbd hf
  refine z_cSiE (As := [.int x1, .int (0 : Int32), .int (9 : Int32)]) (rest := [.int (Mo_hasStore q1), .ref (ht 0)]) C (c_X10_in l D cy x1 (0 : Int32) (9 : Int32) q2 hc) gS_X10_X10_in hd_X10_in ⟨Nat.le_of_ble_eq_true rfl, Nat.le_of_ble_eq_true rfl⟩ ⟨Nat.le_refl _, Nat.le_refl _⟩ hP hD hS hl.1 (Nat.le_of_ble_eq_true rfl) dX10_waits_13 (fun H locs hP hD hS => ?_)
  obtain ⟨q3, hc, hf⟩ := zbd hf
  refine z_cVi (As := [.int (Mo_hasStore q1), .int q2]) (rest := []) C (c_X10_why l D cy ht (Mo_hasStore q1) q2 q3 hc) gV_X10_X10_why hd_X10_why ⟨Nat.le_of_ble_eq_true rfl, Nat.le_of_ble_eq_true rfl⟩ ⟨Nat.le_refl _, Nat.le_refl _⟩ (va_recv hK hP (ci := 6) (q0 := 0) rfl rfl) hP hD hS (w2 := wMo ht cy q1) [] [0] [0] rfl rfl rfl rfl rfl rfl (by decide) hl.1 (Nat.le_of_ble_eq_true rfl) dX10_waits_16 (fun H locs hP hD hS => ?_)
  refine lv_istore (lv' := [(5, .int q3), (0, .ref (ht 0)), (1, .int x1), (2, .int x2), (3, .int x3), (4, .int x4)]) hx hb dX10_waits_19 hl (by decide) rfl (fun ls hl => ?_)
  refine lv_iload hx hb dX10_waits_21 (lv_at hl 0 rfl) ?_
  refine z_if_ne (tgt := 47) hx hb dX10_waits_23 (by decide) hf (fun hf => ?_) (fun hf => ?_)
  · refine lv_aload_n hx hb dX10_waits_47 rfl (lv_at hl 1 rfl) ?_
    refine lv_iload hx hb dX10_waits_48 (lv_at hl 0 rfl) ?_
    refine z_put (w2 := vMo ht cy (Mo_thrown q1) (Mo_taped q1) (Mo_size q1) (Mo_at q1) (Mo_end q1) (Mo_token q1) (Mo_whole q1) (Mo_nameSize q1) (Mo_fault q1) (Mo_place q1) q3 (Mo_failed q1) (Mo_hasStore q1) (Mo_undos q1) (Mo_images q1) (Mo_ring q1) (Mo_refused q1) (Mo_setMany q1) (Mo_someOf q1) (Mo_allOf q1) (Mo_firstRest q1) (Mo_allWeight q1) (Mo_seenWeight q1) (Mo_sumWeight q1)) hx hb hts in_X10 tyX10 tyX10_ok nmX10 hown hK hP hD hS 0 rfl rfl 11 (by decide) (hts _ q6_56) (fun _ h9 => h9) rfl rfl rfl (Nat.le_of_ble_eq_true rfl) dX10_waits_50 rfl (fun H locs hP hD hS => ?_)
    refine lv_bipush (v := (-100 : Int32)) hx hb dX10_waits_53 (by decide) ?_
    obtain rfl := Option.some.inj hf
    rw [← wMo_mk ht] at hP hD
    exact z_iret (v := (-100 : Int32)) C hP hD hS dX10_waits_55
  · refine lv_iload hx hb dX10_waits_26 (lv_at hl 5 rfl) ?_
    refine z_if_eq (tgt := 40) hx hb dX10_waits_28 (by decide) hf (fun hf => ?_) (fun hf => ?_)
    · refine lv_iload_n hx hb dX10_waits_40 rfl (lv_at hl 2 rfl) ?_
      refine lv_iload_n hx hb dX10_waits_41 rfl (lv_at hl 3 rfl) ?_
      refine lv_iload_n hx hb dX10_waits_42 rfl (lv_at hl 4 rfl) ?_
      obtain ⟨q4, hc, hf⟩ := zbd hf
      refine z_cSiE (As := [.int x1, .int x2, .int x3]) (rest := []) C (c_X10_waitsOf l D cy x1 x2 x3 q4 hc) gS_X10_X10_waitsOf hd_X10_waitsOf ⟨Nat.le_of_ble_eq_true rfl, Nat.le_of_ble_eq_true rfl⟩ ⟨Nat.le_refl _, Nat.le_refl _⟩ hP hD hS hl.1 (Nat.le_of_ble_eq_true rfl) dX10_waits_43 (fun H locs hP hD hS => ?_)
      obtain rfl := Option.some.inj hf
      exact z_iret (v := q4) C hP hD hS dX10_waits_46
    · refine lv_iload_n hx hb dX10_waits_31 rfl (lv_at hl 2 rfl) ?_
      refine lv_iload_n hx hb dX10_waits_32 rfl (lv_at hl 4 rfl) ?_
      refine lv_iload_n hx hb dX10_waits_33 rfl (lv_at hl 3 rfl) ?_
      obtain ⟨q5, hc, hf⟩ := zbd hf
      refine z_cSiE (As := [.int x1, .int x3, .int x2]) (rest := []) C (c_X10_waitsOf l D cy x1 x3 x2 q5 hc) gS_X10_X10_waitsOf hd_X10_waitsOf ⟨Nat.le_of_ble_eq_true rfl, Nat.le_of_ble_eq_true rfl⟩ ⟨Nat.le_refl _, Nat.le_refl _⟩ hP hD hS hl.1 (Nat.le_of_ble_eq_true rfl) dX10_waits_34 (fun H locs hP hD hS => ?_)
      refine lv_goto (tgt := 46) hx hb dX10_waits_37 (by decide) ?_
      obtain rfl := Option.some.inj hf
      exact z_iret (v := q5) C hP hD hS dX10_waits_46
def b_X10_seekRests_79 (x1 : Int32) (k10 : SMo → Int32 → Int32 → Option (Int32 × SMo)) (St : SMo) (v2 : Int32) (v3 : Int32) (v4 : Int32) (v5 : Int32) (u0 : Int32) (u1 : Int32) : Option (Int32 × SMo) :=
  (f_X10_waitsOf u0 u1 v4).bind (fun q1 =>
    (f_X10_waitsOf x1 v5 v4).bind (fun q2 =>
      (if q1 ≤ q2 then
        (if v2 = 0 then
          (k10 (mkMo (Mo_thrown St) (Mo_taped St) (Mo_size St) (Mo_at St) (Mo_end St) (Mo_token St) (Mo_whole St) (Mo_nameSize St) (Mo_fault St) (Mo_place St) (Mo_trouble St) (Mo_failed St) (Mo_hasStore St) (Mo_undos St) (Mo_images St) (Mo_ring St) (Mo_refused St) (Mo_setMany St) (Mo_someOf St) (Mo_allOf St) (((10 : Int32) * (v3 / (2 : Int32))) + (v3 - v3 / (2 : Int32) * (2 : Int32))) (Mo_allWeight St) (Mo_seenWeight St) (Mo_sumWeight St)) (v2 + (1 : Int32)) (v3 + (1 : Int32)))
          else
          (k10 St (v2 + (1 : Int32)) (v3 + (1 : Int32))))
        else
        (k10 St v2 (v3 + (1 : Int32))))))
set_option maxHeartbeats 4000000 in
set_option maxRecDepth 100000 in
theorem w_X10_seekRests_79 {p : Program} {e : Env} {s : State} {m : MethodId} {below : List Frame} {meth : Method} {c : Code} {A : Nat → Prop} {D : va_G} {cy : Nat → ClassId} {args : Array Value} {r : Int32 × SMo} (l : Launch) (ht : Nat → Nat) (x1 : Int32) {k10 : SMo → Int32 → Int32 → Option (Int32 × SMo)} (C : zX p s m meth c cX10_seekRests 6 args RX10 (some FieldType.int) A D (zty cy))
    (K10 : ∀ (St : SMo) (v2 : Int32) (v3 : Int32) (H : Heap) (locs : List Loc) (ls : Array Slot), k10 St v2 v3 = some r → va_P D vwCl (wMo ht cy St) H → va_D A (wMo ht cy St) → va_S A s.heap H locs → lv_has ls 6 [(0, .ref (ht 0)), (1, .int x1), (2, .int v2), (3, .int v3)] → W p l e (zRm 1 22) s m args below meth c H locs 0 0 (MQ below (zQI D (zty cy) A (wMo ht cy r.2) r.1) args s 0 0 A) (F0 m 10 ls [])) :
    ∀ (St : SMo) (v2 : Int32) (v3 : Int32) (v4 : Int32) (v5 : Int32) (u0 : Int32) (u1 : Int32) (H : Heap) (locs : List Loc) (ls : Array Slot), b_X10_seekRests_79 x1 k10 St v2 v3 v4 v5 u0 u1 = some r → va_P D vwCl (wMo ht cy St) H → va_D A (wMo ht cy St) → va_S A s.heap H locs → lv_has ls 6 [(0, .ref (ht 0)), (1, .int x1), (2, .int v2), (3, .int v3), (4, .int v4), (5, .int v5)] → W p l e (zRm 1 22) s m args below meth c H locs 0 0 (MQ below (zQI D (zty cy) A (wMo ht cy r.2) r.1) args s 0 0 A) (F0 m 79 ls [.int u1, .int u0]) := by
  obtain ⟨hx, hb, hr, hts, hown, hlocks, hml, hA, hK⟩ := id C
  intro St v2 v3 v4 v5 u0 u1 H locs ls hf hP hD hS hl
  refine lv_iload hx hb dX10_seekRests_79 (lv_at hl 4 rfl) ?_
  obtain ⟨q1, hc, hf⟩ := zbd hf
  refine z_cSiE (As := [.int u0, .int u1, .int v4]) (rest := []) C (c_X10_waitsOf l D cy u0 u1 v4 q1 hc) gS_X10_X10_waitsOf hd_X10_waitsOf ⟨Nat.le_of_ble_eq_true rfl, Nat.le_of_ble_eq_true rfl⟩ ⟨Nat.le_refl _, Nat.le_refl _⟩ hP hD hS hl.1 (Nat.le_of_ble_eq_true rfl) dX10_seekRests_81 (fun H locs hP hD hS => ?_)
  refine lv_iload_n hx hb dX10_seekRests_84 rfl (lv_at hl 1 rfl) ?_
  refine lv_iload hx hb dX10_seekRests_85 (lv_at hl 5 rfl) ?_
  refine lv_iload hx hb dX10_seekRests_87 (lv_at hl 4 rfl) ?_
  obtain ⟨q2, hc, hf⟩ := zbd hf
  refine z_cSiE (As := [.int x1, .int v5, .int v4]) (rest := [.int q1]) C (c_X10_waitsOf l D cy x1 v5 v4 q2 hc) gS_X10_X10_waitsOf hd_X10_waitsOf ⟨Nat.le_of_ble_eq_true rfl, Nat.le_of_ble_eq_true rfl⟩ ⟨Nat.le_refl _, Nat.le_refl _⟩ hP hD hS hl.1 (Nat.le_of_ble_eq_true rfl) dX10_seekRests_89 (fun H locs hP hD hS => ?_)
  refine z_icmp_le (tgt := 98) hx hb dX10_seekRests_92 (by decide) hf (fun hf => ?_) (fun hf => ?_)
  · refine lv_iload_n hx hb dX10_seekRests_98 rfl (lv_at hl 2 rfl) ?_
    refine z_if_ne (tgt := 116) hx hb dX10_seekRests_99 (by decide) hf (fun hf => ?_) (fun hf => ?_)
    · refine lv_iinc (v := (v2 + (1 : Int32))) (lv' := [(2, .int (v2 + (1 : Int32))), (0, .ref (ht 0)), (1, .int x1), (3, .int v3), (4, .int v4), (5, .int v5)]) hx hb dX10_seekRests_116 hl (k := 2) rfl rfl (by decide) rfl (fun ls hl => ?_)
      refine lv_iinc (v := (v3 + (1 : Int32))) (lv' := [(3, .int (v3 + (1 : Int32))), (2, .int (v2 + (1 : Int32))), (0, .ref (ht 0)), (1, .int x1), (4, .int v4), (5, .int v5)]) hx hb dX10_seekRests_119 hl (k := 3) rfl rfl (by decide) rfl (fun ls hl => ?_)
      refine lv_goto (tgt := 10) hx hb dX10_seekRests_122 (by decide) ?_
      exact K10 St (v2 + (1 : Int32)) (v3 + (1 : Int32)) H locs ls hf hP hD hS (lv_sub hl [2, 3, 1, 0] rfl)
    · refine lv_aload_n hx hb dX10_seekRests_102 rfl (lv_at hl 0 rfl) ?_
      refine lv_bipush (v := (10 : Int32)) hx hb dX10_seekRests_103 (by decide) ?_
      refine lv_iload_n hx hb dX10_seekRests_105 rfl (lv_at hl 3 rfl) ?_
      refine lv_iconst (v := (2 : Int32)) hx hb dX10_seekRests_106 (by decide) ?_
      refine lv_idiv hx hb dX10_seekRests_107 (by decide) ?_
      refine lv_imul hx hb dX10_seekRests_108 ?_
      refine lv_iload_n hx hb dX10_seekRests_109 rfl (lv_at hl 3 rfl) ?_
      refine lv_iconst (v := (2 : Int32)) hx hb dX10_seekRests_110 (by decide) ?_
      refine lv_irem hx hb dX10_seekRests_111 (by decide) ?_
      refine lv_iadd hx hb dX10_seekRests_112 ?_
      refine z_put (w2 := vMo ht cy (Mo_thrown St) (Mo_taped St) (Mo_size St) (Mo_at St) (Mo_end St) (Mo_token St) (Mo_whole St) (Mo_nameSize St) (Mo_fault St) (Mo_place St) (Mo_trouble St) (Mo_failed St) (Mo_hasStore St) (Mo_undos St) (Mo_images St) (Mo_ring St) (Mo_refused St) (Mo_setMany St) (Mo_someOf St) (Mo_allOf St) (((10 : Int32) * (v3 / (2 : Int32))) + (v3 - v3 / (2 : Int32) * (2 : Int32))) (Mo_allWeight St) (Mo_seenWeight St) (Mo_sumWeight St)) hx hb hts in_X10 tyX10 tyX10_ok nmX10 hown hK hP hD hS 0 rfl rfl 37 (by decide) (hts _ q6_82) (fun _ h9 => h9) rfl rfl rfl (Nat.le_of_ble_eq_true rfl) dX10_seekRests_113 rfl (fun H locs hP hD hS => ?_)
      refine lv_iinc (v := (v2 + (1 : Int32))) (lv' := [(2, .int (v2 + (1 : Int32))), (0, .ref (ht 0)), (1, .int x1), (3, .int v3), (4, .int v4), (5, .int v5)]) hx hb dX10_seekRests_116 hl (k := 2) rfl rfl (by decide) rfl (fun ls hl => ?_)
      refine lv_iinc (v := (v3 + (1 : Int32))) (lv' := [(3, .int (v3 + (1 : Int32))), (2, .int (v2 + (1 : Int32))), (0, .ref (ht 0)), (1, .int x1), (4, .int v4), (5, .int v5)]) hx hb dX10_seekRests_119 hl (k := 3) rfl rfl (by decide) rfl (fun ls hl => ?_)
      refine lv_goto (tgt := 10) hx hb dX10_seekRests_122 (by decide) ?_
      rw [← wMo_mk ht] at hP hD
      exact K10 (mkMo (Mo_thrown St) (Mo_taped St) (Mo_size St) (Mo_at St) (Mo_end St) (Mo_token St) (Mo_whole St) (Mo_nameSize St) (Mo_fault St) (Mo_place St) (Mo_trouble St) (Mo_failed St) (Mo_hasStore St) (Mo_undos St) (Mo_images St) (Mo_ring St) (Mo_refused St) (Mo_setMany St) (Mo_someOf St) (Mo_allOf St) (((10 : Int32) * (v3 / (2 : Int32))) + (v3 - v3 / (2 : Int32) * (2 : Int32))) (Mo_allWeight St) (Mo_seenWeight St) (Mo_sumWeight St)) (v2 + (1 : Int32)) (v3 + (1 : Int32)) H locs ls hf hP hD hS (lv_sub hl [2, 3, 1, 0] rfl)
  · refine lv_goto (tgt := 119) hx hb dX10_seekRests_95 (by decide) ?_
    refine lv_iinc (v := (v3 + (1 : Int32))) (lv' := [(3, .int (v3 + (1 : Int32))), (0, .ref (ht 0)), (1, .int x1), (2, .int v2), (4, .int v4), (5, .int v5)]) hx hb dX10_seekRests_119 hl (k := 3) rfl rfl (by decide) rfl (fun ls hl => ?_)
    refine lv_goto (tgt := 10) hx hb dX10_seekRests_122 (by decide) ?_
    exact K10 St v2 (v3 + (1 : Int32)) H locs ls hf hP hD hS (lv_sub hl [1, 2, 3, 0] rfl)
def b_X10_seekRests_52 (x1 : Int32) (k10 : SMo → Int32 → Int32 → Option (Int32 × SMo)) (St : SMo) (v2 : Int32) (v3 : Int32) (v4 : Int32) (v5 : Int32) (u0 : Int32) (u1 : Int32) : Option (Int32 × SMo) :=
  (f_X10_waitsOf u0 u1 v5).bind (fun q3 =>
    (f_X10_waitsOf x1 v4 v5).bind (fun q4 =>
      (if q4 < q3 then
        (k10 St v2 (v3 + (1 : Int32)))
        else
        (if v5 = 0 then
          (b_X10_seekRests_79 x1 k10 St v2 v3 v4 v5 x1 (1 : Int32))
          else
          (b_X10_seekRests_79 x1 k10 St v2 v3 v4 v5 x1 (0 : Int32))))))
set_option maxHeartbeats 4000000 in
set_option maxRecDepth 100000 in
theorem w_X10_seekRests_52 {p : Program} {e : Env} {s : State} {m : MethodId} {below : List Frame} {meth : Method} {c : Code} {A : Nat → Prop} {D : va_G} {cy : Nat → ClassId} {args : Array Value} {r : Int32 × SMo} (l : Launch) (ht : Nat → Nat) (x1 : Int32) {k10 : SMo → Int32 → Int32 → Option (Int32 × SMo)} (C : zX p s m meth c cX10_seekRests 6 args RX10 (some FieldType.int) A D (zty cy))
    (K10 : ∀ (St : SMo) (v2 : Int32) (v3 : Int32) (H : Heap) (locs : List Loc) (ls : Array Slot), k10 St v2 v3 = some r → va_P D vwCl (wMo ht cy St) H → va_D A (wMo ht cy St) → va_S A s.heap H locs → lv_has ls 6 [(0, .ref (ht 0)), (1, .int x1), (2, .int v2), (3, .int v3)] → W p l e (zRm 1 22) s m args below meth c H locs 0 0 (MQ below (zQI D (zty cy) A (wMo ht cy r.2) r.1) args s 0 0 A) (F0 m 10 ls [])) :
    ∀ (St : SMo) (v2 : Int32) (v3 : Int32) (v4 : Int32) (v5 : Int32) (u0 : Int32) (u1 : Int32) (H : Heap) (locs : List Loc) (ls : Array Slot), b_X10_seekRests_52 x1 k10 St v2 v3 v4 v5 u0 u1 = some r → va_P D vwCl (wMo ht cy St) H → va_D A (wMo ht cy St) → va_S A s.heap H locs → lv_has ls 6 [(0, .ref (ht 0)), (1, .int x1), (2, .int v2), (3, .int v3), (4, .int v4), (5, .int v5)] → W p l e (zRm 1 22) s m args below meth c H locs 0 0 (MQ below (zQI D (zty cy) A (wMo ht cy r.2) r.1) args s 0 0 A) (F0 m 52 ls [.int u1, .int u0]) := by
  obtain ⟨hx, hb, hr, hts, hown, hlocks, hml, hA, hK⟩ := id C
  intro St v2 v3 v4 v5 u0 u1 H locs ls hf hP hD hS hl
  refine lv_iload hx hb dX10_seekRests_52 (lv_at hl 5 rfl) ?_
  obtain ⟨q3, hc, hf⟩ := zbd hf
  refine z_cSiE (As := [.int u0, .int u1, .int v5]) (rest := []) C (c_X10_waitsOf l D cy u0 u1 v5 q3 hc) gS_X10_X10_waitsOf hd_X10_waitsOf ⟨Nat.le_of_ble_eq_true rfl, Nat.le_of_ble_eq_true rfl⟩ ⟨Nat.le_refl _, Nat.le_refl _⟩ hP hD hS hl.1 (Nat.le_of_ble_eq_true rfl) dX10_seekRests_54 (fun H locs hP hD hS => ?_)
  refine lv_iload_n hx hb dX10_seekRests_57 rfl (lv_at hl 1 rfl) ?_
  refine lv_iload hx hb dX10_seekRests_58 (lv_at hl 4 rfl) ?_
  refine lv_iload hx hb dX10_seekRests_60 (lv_at hl 5 rfl) ?_
  obtain ⟨q4, hc, hf⟩ := zbd hf
  refine z_cSiE (As := [.int x1, .int v4, .int v5]) (rest := [.int q3]) C (c_X10_waitsOf l D cy x1 v4 v5 q4 hc) gS_X10_X10_waitsOf hd_X10_waitsOf ⟨Nat.le_of_ble_eq_true rfl, Nat.le_of_ble_eq_true rfl⟩ ⟨Nat.le_refl _, Nat.le_refl _⟩ hP hD hS hl.1 (Nat.le_of_ble_eq_true rfl) dX10_seekRests_62 (fun H locs hP hD hS => ?_)
  refine z_icmp_gt (tgt := 119) hx hb dX10_seekRests_65 (by decide) hf (fun hf => ?_) (fun hf => ?_)
  · refine lv_iinc (v := (v3 + (1 : Int32))) (lv' := [(3, .int (v3 + (1 : Int32))), (0, .ref (ht 0)), (1, .int x1), (2, .int v2), (4, .int v4), (5, .int v5)]) hx hb dX10_seekRests_119 hl (k := 3) rfl rfl (by decide) rfl (fun ls hl => ?_)
    refine lv_goto (tgt := 10) hx hb dX10_seekRests_122 (by decide) ?_
    exact K10 St v2 (v3 + (1 : Int32)) H locs ls hf hP hD hS (lv_sub hl [1, 2, 3, 0] rfl)
  · refine lv_iload_n hx hb dX10_seekRests_68 rfl (lv_at hl 1 rfl) ?_
    refine lv_iload hx hb dX10_seekRests_69 (lv_at hl 5 rfl) ?_
    refine z_if_ne (tgt := 78) hx hb dX10_seekRests_71 (by decide) hf (fun hf => ?_) (fun hf => ?_)
    · refine lv_iconst (v := (0 : Int32)) hx hb dX10_seekRests_78 (by decide) ?_
      exact w_X10_seekRests_79 l ht x1 C K10 St v2 v3 v4 v5 x1 (0 : Int32) H locs ls hf hP hD hS (lv_sub hl [0, 1, 2, 3, 4, 5] rfl)
    · refine lv_iconst (v := (1 : Int32)) hx hb dX10_seekRests_74 (by decide) ?_
      refine lv_goto (tgt := 79) hx hb dX10_seekRests_75 (by decide) ?_
      exact w_X10_seekRests_79 l ht x1 C K10 St v2 v3 v4 v5 x1 (1 : Int32) H locs ls hf hP hD hS (lv_sub hl [0, 1, 2, 3, 4, 5] rfl)
def b_X10_seekRests_25 (x1 : Int32) (k10 : SMo → Int32 → Int32 → Option (Int32 × SMo)) (St : SMo) (v2 : Int32) (v3 : Int32) (u0 : Int32) : Option (Int32 × SMo) :=
  (if (v3 - v3 / (2 : Int32) * (2 : Int32)) = (1 : Int32) then
    (if u0 = 0 then
      (b_X10_seekRests_52 x1 k10 St v2 v3 u0 (1 : Int32) x1 (1 : Int32))
      else
      (b_X10_seekRests_52 x1 k10 St v2 v3 u0 (1 : Int32) x1 (0 : Int32)))
    else
    (if u0 = 0 then
      (b_X10_seekRests_52 x1 k10 St v2 v3 u0 (0 : Int32) x1 (1 : Int32))
      else
      (b_X10_seekRests_52 x1 k10 St v2 v3 u0 (0 : Int32) x1 (0 : Int32))))
set_option maxHeartbeats 4000000 in
set_option maxRecDepth 100000 in
theorem w_X10_seekRests_25 {p : Program} {e : Env} {s : State} {m : MethodId} {below : List Frame} {meth : Method} {c : Code} {A : Nat → Prop} {D : va_G} {cy : Nat → ClassId} {args : Array Value} {r : Int32 × SMo} (l : Launch) (ht : Nat → Nat) (x1 : Int32) {k10 : SMo → Int32 → Int32 → Option (Int32 × SMo)} (C : zX p s m meth c cX10_seekRests 6 args RX10 (some FieldType.int) A D (zty cy))
    (K10 : ∀ (St : SMo) (v2 : Int32) (v3 : Int32) (H : Heap) (locs : List Loc) (ls : Array Slot), k10 St v2 v3 = some r → va_P D vwCl (wMo ht cy St) H → va_D A (wMo ht cy St) → va_S A s.heap H locs → lv_has ls 6 [(0, .ref (ht 0)), (1, .int x1), (2, .int v2), (3, .int v3)] → W p l e (zRm 1 22) s m args below meth c H locs 0 0 (MQ below (zQI D (zty cy) A (wMo ht cy r.2) r.1) args s 0 0 A) (F0 m 10 ls [])) :
    ∀ (St : SMo) (v2 : Int32) (v3 : Int32) (u0 : Int32) (H : Heap) (locs : List Loc) (ls : Array Slot), b_X10_seekRests_25 x1 k10 St v2 v3 u0 = some r → va_P D vwCl (wMo ht cy St) H → va_D A (wMo ht cy St) → va_S A s.heap H locs → lv_has ls 6 [(0, .ref (ht 0)), (1, .int x1), (2, .int v2), (3, .int v3)] → W p l e (zRm 1 22) s m args below meth c H locs 0 0 (MQ below (zQI D (zty cy) A (wMo ht cy r.2) r.1) args s 0 0 A) (F0 m 25 ls [.int u0]) := by
  obtain ⟨hx, hb, hr, hts, hown, hlocks, hml, hA, hK⟩ := id C
  intro St v2 v3 u0 H locs ls hf hP hD hS hl
  refine lv_istore (lv' := [(4, .int u0), (0, .ref (ht 0)), (1, .int x1), (2, .int v2), (3, .int v3)]) hx hb dX10_seekRests_25 hl (by decide) rfl (fun ls hl => ?_)
  refine lv_iload_n hx hb dX10_seekRests_27 rfl (lv_at hl 4 rfl) ?_
  refine lv_iconst (v := (2 : Int32)) hx hb dX10_seekRests_28 (by decide) ?_
  refine lv_irem hx hb dX10_seekRests_29 (by decide) ?_
  refine lv_iconst (v := (1 : Int32)) hx hb dX10_seekRests_30 (by decide) ?_
  refine z_icmp_ne (tgt := 38) hx hb dX10_seekRests_31 (by decide) hf (fun hf => ?_) (fun hf => ?_)
  · refine lv_iconst (v := (0 : Int32)) hx hb dX10_seekRests_38 (by decide) ?_
    refine lv_istore (lv' := [(5, .int (0 : Int32)), (4, .int u0), (0, .ref (ht 0)), (1, .int x1), (2, .int v2), (3, .int v3)]) hx hb dX10_seekRests_39 hl (by decide) rfl (fun ls hl => ?_)
    refine lv_iload_n hx hb dX10_seekRests_41 rfl (lv_at hl 3 rfl) ?_
    refine lv_iload hx hb dX10_seekRests_42 (lv_at hl 1 rfl) ?_
    refine z_if_ne (tgt := 51) hx hb dX10_seekRests_44 (by decide) hf (fun hf => ?_) (fun hf => ?_)
    · refine lv_iconst (v := (0 : Int32)) hx hb dX10_seekRests_51 (by decide) ?_
      exact w_X10_seekRests_52 l ht x1 C K10 St v2 v3 u0 (0 : Int32) x1 (0 : Int32) H locs ls hf hP hD hS (lv_sub hl [2, 3, 4, 5, 1, 0] rfl)
    · refine lv_iconst (v := (1 : Int32)) hx hb dX10_seekRests_47 (by decide) ?_
      refine lv_goto (tgt := 52) hx hb dX10_seekRests_48 (by decide) ?_
      exact w_X10_seekRests_52 l ht x1 C K10 St v2 v3 u0 (0 : Int32) x1 (1 : Int32) H locs ls hf hP hD hS (lv_sub hl [2, 3, 4, 5, 1, 0] rfl)
  · refine lv_iconst (v := (1 : Int32)) hx hb dX10_seekRests_34 (by decide) ?_
    refine lv_goto (tgt := 39) hx hb dX10_seekRests_35 (by decide) ?_
    refine lv_istore (lv' := [(5, .int (1 : Int32)), (4, .int u0), (0, .ref (ht 0)), (1, .int x1), (2, .int v2), (3, .int v3)]) hx hb dX10_seekRests_39 hl (by decide) rfl (fun ls hl => ?_)
    refine lv_iload_n hx hb dX10_seekRests_41 rfl (lv_at hl 3 rfl) ?_
    refine lv_iload hx hb dX10_seekRests_42 (lv_at hl 1 rfl) ?_
    refine z_if_ne (tgt := 51) hx hb dX10_seekRests_44 (by decide) hf (fun hf => ?_) (fun hf => ?_)
    · refine lv_iconst (v := (0 : Int32)) hx hb dX10_seekRests_51 (by decide) ?_
      exact w_X10_seekRests_52 l ht x1 C K10 St v2 v3 u0 (1 : Int32) x1 (0 : Int32) H locs ls hf hP hD hS (lv_sub hl [2, 3, 4, 5, 1, 0] rfl)
    · refine lv_iconst (v := (1 : Int32)) hx hb dX10_seekRests_47 (by decide) ?_
      refine lv_goto (tgt := 52) hx hb dX10_seekRests_48 (by decide) ?_
      exact w_X10_seekRests_52 l ht x1 C K10 St v2 v3 u0 (1 : Int32) x1 (1 : Int32) H locs ls hf hP hD hS (lv_sub hl [2, 3, 4, 5, 1, 0] rfl)
def b_X10_seekRests_10 (x1 : Int32) (k10 : SMo → Int32 → Int32 → Option (Int32 × SMo)) (St : SMo) (v2 : Int32) (v3 : Int32) : Option (Int32 × SMo) :=
  (if (4 : Int32) ≤ v3 then
    some (v2, St)
    else
    (if v3 ≤ (1 : Int32) then
      (b_X10_seekRests_25 x1 k10 St v2 v3 (0 : Int32))
      else
      (b_X10_seekRests_25 x1 k10 St v2 v3 (1 : Int32))))
set_option maxHeartbeats 4000000 in
set_option maxRecDepth 100000 in
theorem w_X10_seekRests_10 {p : Program} {e : Env} {s : State} {m : MethodId} {below : List Frame} {meth : Method} {c : Code} {A : Nat → Prop} {D : va_G} {cy : Nat → ClassId} {args : Array Value} {r : Int32 × SMo} (l : Launch) (ht : Nat → Nat) (x1 : Int32) (C : zX p s m meth c cX10_seekRests 6 args RX10 (some FieldType.int) A D (zty cy)) :
    ∀ (n : Nat) (St : SMo) (v2 : Int32) (v3 : Int32) (H : Heap) (locs : List Loc) (ls : Array Slot), zl3 (b_X10_seekRests_10 x1) n St v2 v3 = some r → va_P D vwCl (wMo ht cy St) H → va_D A (wMo ht cy St) → va_S A s.heap H locs → lv_has ls 6 [(0, .ref (ht 0)), (1, .int x1), (2, .int v2), (3, .int v3)] → W p l e (zRm 1 22) s m args below meth c H locs 0 0 (MQ below (zQI D (zty cy) A (wMo ht cy r.2) r.1) args s 0 0 A) (F0 m 10 ls []) := by
  obtain ⟨hx, hb, hr, hts, hown, hlocks, hml, hA, hK⟩ := id C
  intro n
  induction n with
  | zero => intro St v2 v3 H locs ls hf; exact zno hf
  | succ n ih =>
    intro St v2 v3 H locs ls hf hP hD hS hl
    have hf : b_X10_seekRests_10 x1 (zl3 (b_X10_seekRests_10 x1) n) St v2 v3 = some r := hf
    have K10 := ih
    refine lv_iload_n hx hb dX10_seekRests_10 rfl (lv_at hl 3 rfl) ?_
    refine lv_iconst (v := (4 : Int32)) hx hb dX10_seekRests_11 (by decide) ?_
    refine z_icmp_ge (tgt := 125) hx hb dX10_seekRests_12 (by decide) hf (fun hf => ?_) (fun hf => ?_)
    · refine lv_iload_n hx hb dX10_seekRests_125 rfl (lv_at hl 2 rfl) ?_
      obtain rfl := Option.some.inj hf
      exact z_iret (v := v2) C hP hD hS dX10_seekRests_126
    · refine lv_iload_n hx hb dX10_seekRests_15 rfl (lv_at hl 3 rfl) ?_
      refine lv_iconst (v := (1 : Int32)) hx hb dX10_seekRests_16 (by decide) ?_
      refine z_icmp_le (tgt := 24) hx hb dX10_seekRests_17 (by decide) hf (fun hf => ?_) (fun hf => ?_)
      · refine lv_iconst (v := (0 : Int32)) hx hb dX10_seekRests_24 (by decide) ?_
        exact w_X10_seekRests_25 l ht x1 C K10 St v2 v3 (0 : Int32) H locs ls hf hP hD hS (lv_sub hl [0, 1, 2, 3] rfl)
      · refine lv_iconst (v := (1 : Int32)) hx hb dX10_seekRests_20 (by decide) ?_
        refine lv_goto (tgt := 25) hx hb dX10_seekRests_21 (by decide) ?_
        exact w_X10_seekRests_25 l ht x1 C K10 St v2 v3 (1 : Int32) H locs ls hf hP hD hS (lv_sub hl [0, 1, 2, 3] rfl)
def f_X10_seekRests (St : SMo) (x1 : Int32) : Option (Int32 × SMo) :=
  (zl3 (b_X10_seekRests_10 x1) FU (mkMo (Mo_thrown St) (Mo_taped St) (Mo_size St) (Mo_at St) (Mo_end St) (Mo_token St) (Mo_whole St) (Mo_nameSize St) (Mo_fault St) (Mo_place St) (Mo_trouble St) (Mo_failed St) (Mo_hasStore St) (Mo_undos St) (Mo_images St) (Mo_ring St) (Mo_refused St) (Mo_setMany St) (Mo_someOf St) (Mo_allOf St) (-2 : Int32) (Mo_allWeight St) (Mo_seenWeight St) (Mo_sumWeight St)) (0 : Int32) (0 : Int32))
set_option maxHeartbeats 4000000 in
set_option maxRecDepth 100000 in
theorem c_X10_seekRests (l : Launch) (D : va_G) (cy : Nat → ClassId) (ht : Nat → Nat) (St : SMo) (x1 : Int32) (r : Int32 × SMo) (hf : f_X10_seekRests St x1 = some r) : zCI l yX10_seekRests cX10_seekRests 6 (some FieldType.int) 1 22 D (zty cy) [.ref (ht 0), .int x1] (wMo ht cy St) (wMo ht cy r.2) r.1 := by
  refine zCI_of (by decide +kernel) (Nat.le_of_ble_eq_true rfl) ?_
  intro p e s m below meth c A ls C hP hD hS hl
  generalize hargs : ([.ref (ht 0), .int x1] : List Value).toArray = args at C ⊢
  have C : zX p s m meth c cX10_seekRests 6 args RX10 (some FieldType.int) A D (zty cy) := C
  obtain ⟨hx, hb, hr, hts, hown, hlocks, hml, hA, hK⟩ := id C
  have hl : lv_has ls 6 [(0, .ref (ht 0)), (1, .int x1)] := hl
  generalize hH : s.heap = H at hP ⊢
  have hS : va_S A s.heap H [] := by rw [← hH]; exact hS
  generalize ([] : List Loc) = locs at hS ⊢
  refine lv_iconst (v := (0 : Int32)) hx hb dX10_seekRests_0 (by decide) ?_
  refine lv_istore_n (lv' := [(2, .int (0 : Int32)), (0, .ref (ht 0)), (1, .int x1)]) hx hb dX10_seekRests_1 rfl hl (by decide) rfl (fun ls hl => ?_)
  refine lv_aload_n hx hb dX10_seekRests_2 rfl (lv_at hl 1 rfl) ?_
  refine lv_bipush (v := (-2 : Int32)) hx hb dX10_seekRests_3 (by decide) ?_
  refine z_put (w2 := vMo ht cy (Mo_thrown St) (Mo_taped St) (Mo_size St) (Mo_at St) (Mo_end St) (Mo_token St) (Mo_whole St) (Mo_nameSize St) (Mo_fault St) (Mo_place St) (Mo_trouble St) (Mo_failed St) (Mo_hasStore St) (Mo_undos St) (Mo_images St) (Mo_ring St) (Mo_refused St) (Mo_setMany St) (Mo_someOf St) (Mo_allOf St) (-2 : Int32) (Mo_allWeight St) (Mo_seenWeight St) (Mo_sumWeight St)) hx hb hts in_X10 tyX10 tyX10_ok nmX10 hown hK hP hD hS 0 rfl rfl 37 (by decide) (hts _ q6_82) (fun _ h9 => h9) rfl rfl rfl (Nat.le_of_ble_eq_true rfl) dX10_seekRests_5 rfl (fun H locs hP hD hS => ?_)
  refine lv_iconst (v := (0 : Int32)) hx hb dX10_seekRests_8 (by decide) ?_
  refine lv_istore_n (lv' := [(3, .int (0 : Int32)), (2, .int (0 : Int32)), (0, .ref (ht 0)), (1, .int x1)]) hx hb dX10_seekRests_9 rfl hl (by decide) rfl (fun ls hl => ?_)
  rw [← wMo_mk ht] at hP hD
  exact w_X10_seekRests_10 l ht x1 C FU (mkMo (Mo_thrown St) (Mo_taped St) (Mo_size St) (Mo_at St) (Mo_end St) (Mo_token St) (Mo_whole St) (Mo_nameSize St) (Mo_fault St) (Mo_place St) (Mo_trouble St) (Mo_failed St) (Mo_hasStore St) (Mo_undos St) (Mo_images St) (Mo_ring St) (Mo_refused St) (Mo_setMany St) (Mo_someOf St) (Mo_allOf St) (-2 : Int32) (Mo_allWeight St) (Mo_seenWeight St) (Mo_sumWeight St)) (0 : Int32) (0 : Int32) H locs ls hf hP hD hS (lv_sub hl [2, 3, 1, 0] rfl)
def f_X10_rests (St : SMo) (x1 : Int32) : Option (Int32 × SMo) :=
  (f_X10_anew St).bind (fun q1 =>
    (f_X10_in x1 (0 : Int32) (9 : Int32)).bind (fun q2 =>
      (f_X10_why (Mo_hasStore q1) q2).bind (fun q3 =>
        (if q3 = 0 then
          (f_X10_seekRests q1 x1).bind (fun q4 =>
            some (q4.1, q4.2))
          else
          (f_X10_no q1 q3).bind (fun q5 =>
            some (q5.1, q5.2))))))
set_option maxHeartbeats 4000000 in
set_option maxRecDepth 100000 in
theorem c_X10_rests (l : Launch) (D : va_G) (cy : Nat → ClassId) (ht : Nat → Nat) (St : SMo) (x1 : Int32) (r : Int32 × SMo) (hf : f_X10_rests St x1 = some r) : zCI l yX10_rests cX10_rests 3 (some FieldType.int) 2 47 D (zty cy) [.ref (ht 0), .int x1] (wMo ht cy St) (wMo ht cy r.2) r.1 := by
  refine zCI_of (by decide +kernel) (Nat.le_of_ble_eq_true rfl) ?_
  intro p e s m below meth c A ls C hP hD hS hl
  generalize hargs : ([.ref (ht 0), .int x1] : List Value).toArray = args at C ⊢
  have C : zX p s m meth c cX10_rests 3 args RX10 (some FieldType.int) A D (zty cy) := C
  obtain ⟨hx, hb, hr, hts, hown, hlocks, hml, hA, hK⟩ := id C
  have hl : lv_has ls 3 [(0, .ref (ht 0)), (1, .int x1)] := hl
  generalize hH : s.heap = H at hP ⊢
  have hS : va_S A s.heap H [] := by rw [← hH]; exact hS
  generalize ([] : List Loc) = locs at hS ⊢
  refine lv_aload_n hx hb dX10_rests_0 rfl (lv_at hl 0 rfl) ?_
  obtain ⟨q1, hc, hf⟩ := zbd hf
  refine z_cVv0 (As := []) (rest := []) C (c_X10_anew l D cy ht St q1 hc) gV_X10_X10_anew hd_X10_anew ⟨Nat.le_of_ble_eq_true rfl, Nat.le_of_ble_eq_true rfl⟩ ⟨Nat.le_refl _, Nat.le_refl _⟩ (va_recv hK hP (ci := 6) (q0 := 0) rfl rfl) hP hD hS hl.1 (Nat.le_of_ble_eq_true rfl) dX10_rests_1 (fun H locs hP hD hS => ?_)
  have hP : va_P D vwCl (wMo ht cy q1) H := hP
  have hD : va_D A (wMo ht cy q1) := hD
  refine lv_aload_n hx hb dX10_rests_4 rfl (lv_at hl 0 rfl) ?_
  refine lv_aload_n hx hb dX10_rests_5 rfl (lv_at hl 0 rfl) ?_
  refine va_get (D := D) (ci := 6) (v := .int (Mo_hasStore q1)) (C := RX10) (T := TX10) (N := 41) hx hb hts in_X10 hown hK hP 0 rfl rfl 14 (by decide) (hts _ q6_59) (fun _ h9 => h9) rfl dX10_rests_6 ?_
  refine lv_iload_n hx hb dX10_rests_9 rfl (lv_at hl 1 rfl) ?_
  refine lv_iconst (v := (0 : Int32)) hx hb dX10_rests_10 (by decide) ?_
  refine lv_bipush (v := (9 : Int32)) hx hb dX10_rests_11 (by decide) ?_
  obtain ⟨q2, hc, hf⟩ := zbd hf
  refine z_cSiE (As := [.int x1, .int (0 : Int32), .int (9 : Int32)]) (rest := [.int (Mo_hasStore q1), .ref (ht 0)]) C (c_X10_in l D cy x1 (0 : Int32) (9 : Int32) q2 hc) gS_X10_X10_in hd_X10_in ⟨Nat.le_of_ble_eq_true rfl, Nat.le_of_ble_eq_true rfl⟩ ⟨Nat.le_refl _, Nat.le_refl _⟩ hP hD hS hl.1 (Nat.le_of_ble_eq_true rfl) dX10_rests_13 (fun H locs hP hD hS => ?_)
  obtain ⟨q3, hc, hf⟩ := zbd hf
  refine z_cVi (As := [.int (Mo_hasStore q1), .int q2]) (rest := []) C (c_X10_why l D cy ht (Mo_hasStore q1) q2 q3 hc) gV_X10_X10_why hd_X10_why ⟨Nat.le_of_ble_eq_true rfl, Nat.le_of_ble_eq_true rfl⟩ ⟨Nat.le_refl _, Nat.le_refl _⟩ (va_recv hK hP (ci := 6) (q0 := 0) rfl rfl) hP hD hS (w2 := wMo ht cy q1) [] [0] [0] rfl rfl rfl rfl rfl rfl (by decide) hl.1 (Nat.le_of_ble_eq_true rfl) dX10_rests_16 (fun H locs hP hD hS => ?_)
  refine lv_istore_n (lv' := [(2, .int q3), (0, .ref (ht 0)), (1, .int x1)]) hx hb dX10_rests_19 rfl hl (by decide) rfl (fun ls hl => ?_)
  refine lv_iload_n hx hb dX10_rests_20 rfl (lv_at hl 0 rfl) ?_
  refine z_if_eq (tgt := 32) hx hb dX10_rests_21 (by decide) hf (fun hf => ?_) (fun hf => ?_)
  · refine lv_aload_n hx hb dX10_rests_32 rfl (lv_at hl 1 rfl) ?_
    refine lv_iload_n hx hb dX10_rests_33 rfl (lv_at hl 2 rfl) ?_
    obtain ⟨q4, hc, hf⟩ := zbd hf
    refine z_cVi0 (As := [.int x1]) (rest := []) C (c_X10_seekRests l D cy ht q1 x1 q4 hc) gV_X10_X10_seekRests hd_X10_seekRests ⟨Nat.le_of_ble_eq_true rfl, Nat.le_of_ble_eq_true rfl⟩ ⟨Nat.le_refl _, Nat.le_refl _⟩ (va_recv hK hP (ci := 6) (q0 := 0) rfl rfl) hP hD hS hl.1 (Nat.le_of_ble_eq_true rfl) dX10_rests_34 (fun H locs hP hD hS => ?_)
    have hP : va_P D vwCl (wMo ht cy q4.2) H := hP
    have hD : va_D A (wMo ht cy q4.2) := hD
    obtain rfl := Option.some.inj hf
    exact z_iret (v := q4.1) C hP hD hS dX10_rests_37
  · refine lv_aload_n hx hb dX10_rests_24 rfl (lv_at hl 1 rfl) ?_
    refine lv_iload_n hx hb dX10_rests_25 rfl (lv_at hl 0 rfl) ?_
    obtain ⟨q5, hc, hf⟩ := zbd hf
    refine z_cVi0 (As := [.int q3]) (rest := []) C (c_X10_no l D cy ht q1 q3 q5 hc) gV_X10_X10_no hd_X10_no ⟨Nat.le_of_ble_eq_true rfl, Nat.le_of_ble_eq_true rfl⟩ ⟨Nat.le_refl _, Nat.le_refl _⟩ (va_recv hK hP (ci := 6) (q0 := 0) rfl rfl) hP hD hS hl.1 (Nat.le_of_ble_eq_true rfl) dX10_rests_26 (fun H locs hP hD hS => ?_)
    have hP : va_P D vwCl (wMo ht cy q5.2) H := hP
    have hD : va_D A (wMo ht cy q5.2) := hD
    refine lv_goto (tgt := 37) hx hb dX10_rests_29 (by decide) ?_
    obtain rfl := Option.some.inj hf
    exact z_iret (v := q5.1) C hP hD hS dX10_rests_37
def f_X10_rest (St : SMo) (x1 : Int32) : Option (Int32 × SMo) :=
  (f_X10_anew St).bind (fun q1 =>
    (f_X10_in x1 (0 : Int32) (9 : Int32)).bind (fun q2 =>
      (f_X10_why (Mo_hasStore q1) q2).bind (fun q3 =>
        (if q3 = 0 then
          (f_X10_seekRests q1 x1).bind (fun q4 =>
            some ((Mo_firstRest q4.2), q4.2))
          else
          (f_X10_no q1 q3).bind (fun q5 =>
            some (q5.1, q5.2))))))
set_option maxHeartbeats 4000000 in
set_option maxRecDepth 100000 in
theorem c_X10_rest (l : Launch) (D : va_G) (cy : Nat → ClassId) (ht : Nat → Nat) (St : SMo) (x1 : Int32) (r : Int32 × SMo) (hf : f_X10_rest St x1 = some r) : zCI l yX10_rest cX10_rest 3 (some FieldType.int) 2 47 D (zty cy) [.ref (ht 0), .int x1] (wMo ht cy St) (wMo ht cy r.2) r.1 := by
  refine zCI_of (by decide +kernel) (Nat.le_of_ble_eq_true rfl) ?_
  intro p e s m below meth c A ls C hP hD hS hl
  generalize hargs : ([.ref (ht 0), .int x1] : List Value).toArray = args at C ⊢
  have C : zX p s m meth c cX10_rest 3 args RX10 (some FieldType.int) A D (zty cy) := C
  obtain ⟨hx, hb, hr, hts, hown, hlocks, hml, hA, hK⟩ := id C
  have hl : lv_has ls 3 [(0, .ref (ht 0)), (1, .int x1)] := hl
  generalize hH : s.heap = H at hP ⊢
  have hS : va_S A s.heap H [] := by rw [← hH]; exact hS
  generalize ([] : List Loc) = locs at hS ⊢
  refine lv_aload_n hx hb dX10_rest_0 rfl (lv_at hl 0 rfl) ?_
  obtain ⟨q1, hc, hf⟩ := zbd hf
  refine z_cVv0 (As := []) (rest := []) C (c_X10_anew l D cy ht St q1 hc) gV_X10_X10_anew hd_X10_anew ⟨Nat.le_of_ble_eq_true rfl, Nat.le_of_ble_eq_true rfl⟩ ⟨Nat.le_refl _, Nat.le_refl _⟩ (va_recv hK hP (ci := 6) (q0 := 0) rfl rfl) hP hD hS hl.1 (Nat.le_of_ble_eq_true rfl) dX10_rest_1 (fun H locs hP hD hS => ?_)
  have hP : va_P D vwCl (wMo ht cy q1) H := hP
  have hD : va_D A (wMo ht cy q1) := hD
  refine lv_aload_n hx hb dX10_rest_4 rfl (lv_at hl 0 rfl) ?_
  refine lv_aload_n hx hb dX10_rest_5 rfl (lv_at hl 0 rfl) ?_
  refine va_get (D := D) (ci := 6) (v := .int (Mo_hasStore q1)) (C := RX10) (T := TX10) (N := 41) hx hb hts in_X10 hown hK hP 0 rfl rfl 14 (by decide) (hts _ q6_59) (fun _ h9 => h9) rfl dX10_rest_6 ?_
  refine lv_iload_n hx hb dX10_rest_9 rfl (lv_at hl 1 rfl) ?_
  refine lv_iconst (v := (0 : Int32)) hx hb dX10_rest_10 (by decide) ?_
  refine lv_bipush (v := (9 : Int32)) hx hb dX10_rest_11 (by decide) ?_
  obtain ⟨q2, hc, hf⟩ := zbd hf
  refine z_cSiE (As := [.int x1, .int (0 : Int32), .int (9 : Int32)]) (rest := [.int (Mo_hasStore q1), .ref (ht 0)]) C (c_X10_in l D cy x1 (0 : Int32) (9 : Int32) q2 hc) gS_X10_X10_in hd_X10_in ⟨Nat.le_of_ble_eq_true rfl, Nat.le_of_ble_eq_true rfl⟩ ⟨Nat.le_refl _, Nat.le_refl _⟩ hP hD hS hl.1 (Nat.le_of_ble_eq_true rfl) dX10_rest_13 (fun H locs hP hD hS => ?_)
  obtain ⟨q3, hc, hf⟩ := zbd hf
  refine z_cVi (As := [.int (Mo_hasStore q1), .int q2]) (rest := []) C (c_X10_why l D cy ht (Mo_hasStore q1) q2 q3 hc) gV_X10_X10_why hd_X10_why ⟨Nat.le_of_ble_eq_true rfl, Nat.le_of_ble_eq_true rfl⟩ ⟨Nat.le_refl _, Nat.le_refl _⟩ (va_recv hK hP (ci := 6) (q0 := 0) rfl rfl) hP hD hS (w2 := wMo ht cy q1) [] [0] [0] rfl rfl rfl rfl rfl rfl (by decide) hl.1 (Nat.le_of_ble_eq_true rfl) dX10_rest_16 (fun H locs hP hD hS => ?_)
  refine lv_istore_n (lv' := [(2, .int q3), (0, .ref (ht 0)), (1, .int x1)]) hx hb dX10_rest_19 rfl hl (by decide) rfl (fun ls hl => ?_)
  refine lv_iload_n hx hb dX10_rest_20 rfl (lv_at hl 0 rfl) ?_
  refine z_if_eq (tgt := 30) hx hb dX10_rest_21 (by decide) hf (fun hf => ?_) (fun hf => ?_)
  · refine lv_aload_n hx hb dX10_rest_30 rfl (lv_at hl 1 rfl) ?_
    refine lv_iload_n hx hb dX10_rest_31 rfl (lv_at hl 2 rfl) ?_
    obtain ⟨q4, hc, hf⟩ := zbd hf
    refine z_cVi0 (As := [.int x1]) (rest := []) C (c_X10_seekRests l D cy ht q1 x1 q4 hc) gV_X10_X10_seekRests hd_X10_seekRests ⟨Nat.le_of_ble_eq_true rfl, Nat.le_of_ble_eq_true rfl⟩ ⟨Nat.le_refl _, Nat.le_refl _⟩ (va_recv hK hP (ci := 6) (q0 := 0) rfl rfl) hP hD hS hl.1 (Nat.le_of_ble_eq_true rfl) dX10_rest_32 (fun H locs hP hD hS => ?_)
    have hP : va_P D vwCl (wMo ht cy q4.2) H := hP
    have hD : va_D A (wMo ht cy q4.2) := hD
    refine lv_pop hx hb dX10_rest_35 rfl ?_
    refine lv_aload_n hx hb dX10_rest_36 rfl (lv_at hl 1 rfl) ?_
    refine va_get (D := D) (ci := 6) (v := .int (Mo_firstRest q4.2)) (C := RX10) (T := TX10) (N := 41) hx hb hts in_X10 hown hK hP 0 rfl rfl 37 (by decide) (hts _ q6_82) (fun _ h9 => h9) rfl dX10_rest_37 ?_
    obtain rfl := Option.some.inj hf
    exact z_iret (v := (Mo_firstRest q4.2)) C hP hD hS dX10_rest_40
  · refine lv_aload_n hx hb dX10_rest_24 rfl (lv_at hl 1 rfl) ?_
    refine lv_iload_n hx hb dX10_rest_25 rfl (lv_at hl 0 rfl) ?_
    obtain ⟨q5, hc, hf⟩ := zbd hf
    refine z_cVi0 (As := [.int q3]) (rest := []) C (c_X10_no l D cy ht q1 q3 q5 hc) gV_X10_X10_no hd_X10_no ⟨Nat.le_of_ble_eq_true rfl, Nat.le_of_ble_eq_true rfl⟩ ⟨Nat.le_refl _, Nat.le_refl _⟩ (va_recv hK hP (ci := 6) (q0 := 0) rfl rfl) hP hD hS hl.1 (Nat.le_of_ble_eq_true rfl) dX10_rest_26 (fun H locs hP hD hS => ?_)
    have hP : va_P D vwCl (wMo ht cy q5.2) H := hP
    have hD : va_D A (wMo ht cy q5.2) := hD
    obtain rfl := Option.some.inj hf
    exact z_iret (v := q5.1) C hP hD hS dX10_rest_29
def b_X10_crashOn_18 (St : SMo) (St_st : Nat → Int32) (x1 : Int32) (k18 : (Nat → Int32) → Int32 → Option ((Nat → Int32))) (St_trial : Nat → Int32) (v2 : Int32) : Option ((Nat → Int32)) :=
  (if (6 : Int32) ≤ v2 then
    some St_trial
    else
    (f_X10_doesRun St_st v2).bind (fun q1 =>
      (if q1 = 0 then
        (k18 St_trial (v2 + (1 : Int32)))
        else
        (if zib (310 : Int32) 325 then (f_X10_hasBit (x1 ||| (St_st (310 : Int32).toNatClampNeg)) v2).bind (fun q2 =>
            (if q2 = 0 then
              (f_X10_endOn St_trial v2 (2 : Int32)).bind (fun q3 =>
                (k18 q3.2 (v2 + (1 : Int32))))
              else
              (f_X10_endOn St_trial v2 (3 : Int32)).bind (fun q4 =>
                (k18 q4.2 (v2 + (1 : Int32)))))) else none))))
set_option maxHeartbeats 4000000 in
set_option maxRecDepth 100000 in
theorem w_X10_crashOn_18 {p : Program} {e : Env} {s : State} {m : MethodId} {below : List Frame} {meth : Method} {c : Code} {A : Nat → Prop} {D : va_G} {cy : Nat → ClassId} {args : Array Value} {r : (Nat → Int32)} (l : Launch) (ht : Nat → Nat) (St : SMo) (St_st : Nat → Int32) (x1 : Int32) (C : zX p s m meth c cX10_crashOn 3 args RX10 none A D (zty cy)) :
    ∀ (n : Nat) (St_trial : Nat → Int32) (v2 : Int32) (H : Heap) (locs : List Loc) (ls : Array Slot), zl2 (b_X10_crashOn_18 St St_st x1) n St_trial v2 = some r → va_P D vwCl (wMo ht cy St ++ (wAI (fun _ => ht 9) cy 325 St_st ++ (wAI (fun _ => ht 10) cy 325 St_trial))) H → va_D A (wMo ht cy St ++ (wAI (fun _ => ht 9) cy 325 St_st ++ (wAI (fun _ => ht 10) cy 325 St_trial))) → va_S A s.heap H locs → lv_has ls 3 [(0, .ref (ht 0)), (1, .int x1), (2, .int v2)] → W p l e (zRm 1 25) s m args below meth c H locs 0 0 (MQ below (zQV D (zty cy) A (wMo ht cy St ++ (wAI (fun _ => ht 9) cy 325 St_st ++ (wAI (fun _ => ht 10) cy 325 r)))) args s 0 0 A) (F0 m 18 ls []) := by
  obtain ⟨hx, hb, hr, hts, hown, hlocks, hml, hA, hK⟩ := id C
  intro n
  induction n with
  | zero => intro St_trial v2 H locs ls hf; exact zno hf
  | succ n ih =>
    intro St_trial v2 H locs ls hf hP hD hS hl
    have hf : b_X10_crashOn_18 St St_st x1 (zl2 (b_X10_crashOn_18 St St_st x1) n) St_trial v2 = some r := hf
    have K18 := ih
    refine lv_iload_n hx hb dX10_crashOn_18 rfl (lv_at hl 2 rfl) ?_
    refine lv_bipush (v := (6 : Int32)) hx hb dX10_crashOn_19 (by decide) ?_
    refine z_icmp_ge (tgt := 74) hx hb dX10_crashOn_21 (by decide) hf (fun hf => ?_) (fun hf => ?_)
    · obtain rfl := Option.some.inj hf
      exact z_vret C hP hD hS dX10_crashOn_74
    · refine lv_aload_n hx hb dX10_crashOn_24 rfl (lv_at hl 0 rfl) ?_
      refine lv_aload_n hx hb dX10_crashOn_25 rfl (lv_at hl 0 rfl) ?_
      refine va_get (D := D) (ci := 6) (v := .ref (ht 9)) (C := RX10) (T := TX10) (N := 41) hx hb hts in_X10 hown hK hP 0 rfl rfl 21 (by decide) (hts _ q6_66) (fun _ h9 => h9) rfl dX10_crashOn_26 ?_
      refine lv_iload_n hx hb dX10_crashOn_29 rfl (lv_at hl 2 rfl) ?_
      obtain ⟨q1, hc, hf⟩ := zbd hf
      refine z_cVi (As := [.ref (ht 9), .int v2]) (rest := []) C (c_X10_doesRun l D cy ht (fun _ => ht 9) St_st v2 q1 hc) gV_X10_X10_doesRun hd_X10_doesRun ⟨Nat.le_of_ble_eq_true rfl, Nat.le_of_ble_eq_true rfl⟩ ⟨Nat.le_refl _, Nat.le_refl _⟩ (va_recv hK hP (ci := 6) (q0 := 0) rfl rfl) hP hD hS (w2 := wMo ht cy St ++ (wAI (fun _ => ht 9) cy 325 St_st ++ (wAI (fun _ => ht 10) cy 325 St_trial))) [1] [0, 2] [0, 2, 1] rfl rfl rfl rfl rfl rfl (by decide) hl.1 (Nat.le_of_ble_eq_true rfl) dX10_crashOn_30 (fun H locs hP hD hS => ?_)
      refine z_if_eq (tgt := 68) hx hb dX10_crashOn_33 (by decide) hf (fun hf => ?_) (fun hf => ?_)
      · refine lv_iinc (v := (v2 + (1 : Int32))) (lv' := [(2, .int (v2 + (1 : Int32))), (0, .ref (ht 0)), (1, .int x1)]) hx hb dX10_crashOn_68 hl (k := 2) rfl rfl (by decide) rfl (fun ls hl => ?_)
        refine lv_goto (tgt := 18) hx hb dX10_crashOn_71 (by decide) ?_
        exact K18 St_trial (v2 + (1 : Int32)) H locs ls hf hP hD hS (lv_sub hl [1, 2, 0] rfl)
      · refine lv_aload_n hx hb dX10_crashOn_36 rfl (lv_at hl 0 rfl) ?_
        refine lv_aload_n hx hb dX10_crashOn_37 rfl (lv_at hl 0 rfl) ?_
        refine va_get (D := D) (ci := 6) (v := .ref (ht 10)) (C := RX10) (T := TX10) (N := 41) hx hb hts in_X10 hown hK hP 0 rfl rfl 22 (by decide) (hts _ q6_67) (fun _ h9 => h9) rfl dX10_crashOn_38 ?_
        refine lv_iload_n hx hb dX10_crashOn_41 rfl (lv_at hl 2 rfl) ?_
        refine lv_iload_n hx hb dX10_crashOn_42 rfl (lv_at hl 1 rfl) ?_
        refine lv_aload_n hx hb dX10_crashOn_43 rfl (lv_at hl 0 rfl) ?_
        refine va_get (D := D) (ci := 6) (v := .ref (ht 9)) (C := RX10) (T := TX10) (N := 41) hx hb hts in_X10 hown hK hP 0 rfl rfl 21 (by decide) (hts _ q6_66) (fun _ h9 => h9) rfl dX10_crashOn_44 ?_
        refine lv_sipush (v := (310 : Int32)) hx hb dX10_crashOn_47 (by decide) ?_
        refine z_iald (f := St_st) hx hb hK hP 1 0 rfl rfl dX10_crashOn_50 hf (fun hf => ?_)
        refine lv_ior hx hb dX10_crashOn_51 ?_
        refine lv_iload_n hx hb dX10_crashOn_52 rfl (lv_at hl 2 rfl) ?_
        obtain ⟨q2, hc, hf⟩ := zbd hf
        refine z_cSiE (As := [.int (x1 ||| (St_st (310 : Int32).toNatClampNeg)), .int v2]) (rest := [.int v2, .ref (ht 10), .ref (ht 0)]) C (c_X10_hasBit l D cy (x1 ||| (St_st (310 : Int32).toNatClampNeg)) v2 q2 hc) gS_X10_X10_hasBit hd_X10_hasBit ⟨Nat.le_of_ble_eq_true rfl, Nat.le_of_ble_eq_true rfl⟩ ⟨Nat.le_refl _, Nat.le_refl _⟩ hP hD hS hl.1 (Nat.le_of_ble_eq_true rfl) dX10_crashOn_53 (fun H locs hP hD hS => ?_)
        refine z_if_eq (tgt := 63) hx hb dX10_crashOn_56 (by decide) hf (fun hf => ?_) (fun hf => ?_)
        · refine lv_iconst (v := (2 : Int32)) hx hb dX10_crashOn_63 (by decide) ?_
          obtain ⟨q3, hc, hf⟩ := zbd hf
          refine z_cVi (As := [.ref (ht 10), .int v2, .int (2 : Int32)]) (rest := []) C (c_X10_endOn l D cy ht (fun _ => ht 10) St_trial v2 (2 : Int32) q3 hc) gV_X10_X10_endOn hd_X10_endOn ⟨Nat.le_of_ble_eq_true rfl, Nat.le_of_ble_eq_true rfl⟩ ⟨Nat.le_refl _, Nat.le_refl _⟩ (va_recv hK hP (ci := 6) (q0 := 0) rfl rfl) hP hD hS (w2 := wMo ht cy St ++ (wAI (fun _ => ht 9) cy 325 St_st ++ (wAI (fun _ => ht 10) cy 325 q3.2))) [2] [0, 1] [0, 1, 2] rfl rfl rfl rfl rfl rfl (by decide) hl.1 (Nat.le_of_ble_eq_true rfl) dX10_crashOn_64 (fun H locs hP hD hS => ?_)
          refine lv_pop hx hb dX10_crashOn_67 rfl ?_
          refine lv_iinc (v := (v2 + (1 : Int32))) (lv' := [(2, .int (v2 + (1 : Int32))), (0, .ref (ht 0)), (1, .int x1)]) hx hb dX10_crashOn_68 hl (k := 2) rfl rfl (by decide) rfl (fun ls hl => ?_)
          refine lv_goto (tgt := 18) hx hb dX10_crashOn_71 (by decide) ?_
          exact K18 q3.2 (v2 + (1 : Int32)) H locs ls hf hP hD hS (lv_sub hl [1, 2, 0] rfl)
        · refine lv_iconst (v := (3 : Int32)) hx hb dX10_crashOn_59 (by decide) ?_
          refine lv_goto (tgt := 64) hx hb dX10_crashOn_60 (by decide) ?_
          obtain ⟨q4, hc, hf⟩ := zbd hf
          refine z_cVi (As := [.ref (ht 10), .int v2, .int (3 : Int32)]) (rest := []) C (c_X10_endOn l D cy ht (fun _ => ht 10) St_trial v2 (3 : Int32) q4 hc) gV_X10_X10_endOn hd_X10_endOn ⟨Nat.le_of_ble_eq_true rfl, Nat.le_of_ble_eq_true rfl⟩ ⟨Nat.le_refl _, Nat.le_refl _⟩ (va_recv hK hP (ci := 6) (q0 := 0) rfl rfl) hP hD hS (w2 := wMo ht cy St ++ (wAI (fun _ => ht 9) cy 325 St_st ++ (wAI (fun _ => ht 10) cy 325 q4.2))) [2] [0, 1] [0, 1, 2] rfl rfl rfl rfl rfl rfl (by decide) hl.1 (Nat.le_of_ble_eq_true rfl) dX10_crashOn_64 (fun H locs hP hD hS => ?_)
          refine lv_pop hx hb dX10_crashOn_67 rfl ?_
          refine lv_iinc (v := (v2 + (1 : Int32))) (lv' := [(2, .int (v2 + (1 : Int32))), (0, .ref (ht 0)), (1, .int x1)]) hx hb dX10_crashOn_68 hl (k := 2) rfl rfl (by decide) rfl (fun ls hl => ?_)
          refine lv_goto (tgt := 18) hx hb dX10_crashOn_71 (by decide) ?_
          exact K18 q4.2 (v2 + (1 : Int32)) H locs ls hf hP hD hS (lv_sub hl [1, 2, 0] rfl)
def f_X10_crashOn (St : SMo) (St_st : Nat → Int32) (St_trial : Nat → Int32) (x1 : Int32) : Option ((Nat → Int32)) :=
  (f_X10_copy 325 325 St_st St_trial (0 : Int32) (0 : Int32) (325 : Int32)).bind (fun q5 =>
    (zl2 (b_X10_crashOn_18 St St_st x1) FU q5 (0 : Int32)))
set_option maxHeartbeats 4000000 in
set_option maxRecDepth 100000 in
theorem c_X10_crashOn (l : Launch) (D : va_G) (cy : Nat → ClassId) (ht : Nat → Nat) (St : SMo) (St_st : Nat → Int32) (St_trial : Nat → Int32) (x1 : Int32) (r : (Nat → Int32)) (hf : f_X10_crashOn St St_st St_trial x1 = some r) : zCV l yX10_crashOn cX10_crashOn 3 none 1 25 D (zty cy) [.ref (ht 0), .int x1] (wMo ht cy St ++ (wAI (fun _ => ht 9) cy 325 St_st ++ (wAI (fun _ => ht 10) cy 325 St_trial))) (wMo ht cy St ++ (wAI (fun _ => ht 9) cy 325 St_st ++ (wAI (fun _ => ht 10) cy 325 r))) := by
  refine zCV_of (by decide +kernel) (Nat.le_of_ble_eq_true rfl) ?_
  intro p e s m below meth c A ls C hP hD hS hl
  generalize hargs : ([.ref (ht 0), .int x1] : List Value).toArray = args at C ⊢
  have C : zX p s m meth c cX10_crashOn 3 args RX10 none A D (zty cy) := C
  obtain ⟨hx, hb, hr, hts, hown, hlocks, hml, hA, hK⟩ := id C
  have hl : lv_has ls 3 [(0, .ref (ht 0)), (1, .int x1)] := hl
  generalize hH : s.heap = H at hP ⊢
  have hS : va_S A s.heap H [] := by rw [← hH]; exact hS
  generalize ([] : List Loc) = locs at hS ⊢
  refine lv_aload_n hx hb dX10_crashOn_0 rfl (lv_at hl 0 rfl) ?_
  refine va_get (D := D) (ci := 6) (v := .ref (ht 9)) (C := RX10) (T := TX10) (N := 41) hx hb hts in_X10 hown hK hP 0 rfl rfl 21 (by decide) (hts _ q6_66) (fun _ h9 => h9) rfl dX10_crashOn_1 ?_
  refine lv_iconst (v := (0 : Int32)) hx hb dX10_crashOn_4 (by decide) ?_
  refine lv_aload_n hx hb dX10_crashOn_5 rfl (lv_at hl 0 rfl) ?_
  refine va_get (D := D) (ci := 6) (v := .ref (ht 10)) (C := RX10) (T := TX10) (N := 41) hx hb hts in_X10 hown hK hP 0 rfl rfl 22 (by decide) (hts _ q6_67) (fun _ h9 => h9) rfl dX10_crashOn_6 ?_
  refine lv_iconst (v := (0 : Int32)) hx hb dX10_crashOn_9 (by decide) ?_
  refine lv_sipush (v := (325 : Int32)) hx hb dX10_crashOn_10 (by decide) ?_
  obtain ⟨q5, hc, hf⟩ := zbd hf
  refine z_cSv (As := [.ref (ht 9), .int (0 : Int32), .ref (ht 10), .int (0 : Int32), .int (325 : Int32)]) (rest := []) C (c_X10_copy l D cy (fun _ => ht 9) (fun _ => ht 10) 325 325 St_st St_trial (0 : Int32) (0 : Int32) (325 : Int32) q5 hc) gS_X10_X10_copy hd_X10_copy ⟨Nat.le_of_ble_eq_true rfl, Nat.le_of_ble_eq_true rfl⟩ ⟨Nat.le_refl _, Nat.le_refl _⟩ hP hD hS (w2 := wMo ht cy St ++ (wAI (fun _ => ht 9) cy 325 St_st ++ (wAI (fun _ => ht 10) cy 325 q5))) [1, 2] [0] [0, 1, 2] rfl rfl rfl rfl rfl rfl (by decide) hl.1 (Nat.le_of_ble_eq_true rfl) dX10_crashOn_13 (fun H locs hP hD hS => ?_)
  refine lv_iconst (v := (0 : Int32)) hx hb dX10_crashOn_16 (by decide) ?_
  refine lv_istore_n (lv' := [(2, .int (0 : Int32)), (0, .ref (ht 0)), (1, .int x1)]) hx hb dX10_crashOn_17 rfl hl (by decide) rfl (fun ls hl => ?_)
  exact w_X10_crashOn_18 l ht St St_st x1 C FU q5 (0 : Int32) H locs ls hf hP hD hS (lv_sub hl [1, 2, 0] rfl)
def b_X10_tryCrash_199 (St_r : Nat → Int32) (St_st : Nat → Int32) (x1 : Int32) (x2 : Int32) (k17 : SMo → (Nat → Int32) → Int32 → Option (SMo × (Nat → Int32))) (St : SMo) (St_trial : Nat → Int32) (v3 : Int32) (v4 : Int64) (u1 : Int64) (u2 : Int64) : Option (SMo × (Nat → Int32)) :=
  (f_X10_sumOf (mkMo (Mo_thrown St) (Mo_taped St) (Mo_size St) (Mo_at St) (Mo_end St) (Mo_token St) (Mo_whole St) (Mo_nameSize St) (Mo_fault St) (Mo_place St) (Mo_trouble St) (Mo_failed St) (Mo_hasStore St) (Mo_undos St) (Mo_images St) (Mo_ring St) (Mo_refused St) (Mo_setMany St) (Mo_someOf St) (Mo_allOf St) (Mo_firstRest St) (Mo_allWeight St) (u1 + u2) (Mo_sumWeight St)) St_r St_trial (-1 : Int32)).bind (fun q1 =>
    (k17 (mkMo (Mo_thrown St) (Mo_taped St) (Mo_size St) (Mo_at St) (Mo_end St) (Mo_token St) (Mo_whole St) (Mo_nameSize St) (Mo_fault St) (Mo_place St) (Mo_trouble St) (Mo_failed St) (Mo_hasStore St) (Mo_undos St) (Mo_images St) (Mo_ring St) (Mo_refused St) (Mo_setMany St) (Mo_someOf St) (Mo_allOf St) (Mo_firstRest St) (Mo_allWeight St) (u1 + u2) ((Mo_sumWeight St) + (v4 * (q1.toInt64)))) St_trial (v3 + (1 : Int32))))
set_option maxHeartbeats 4000000 in
set_option maxRecDepth 100000 in
theorem w_X10_tryCrash_199 {p : Program} {e : Env} {s : State} {m : MethodId} {below : List Frame} {meth : Method} {c : Code} {A : Nat → Prop} {D : va_G} {cy : Nat → ClassId} {args : Array Value} {r : SMo × (Nat → Int32)} (l : Launch) (ht : Nat → Nat) (St_r : Nat → Int32) (St_st : Nat → Int32) (x1 : Int32) (x2 : Int32) {k17 : SMo → (Nat → Int32) → Int32 → Option (SMo × (Nat → Int32))} (C : zX p s m meth c cX10_tryCrash 9 args RX10 none A D (zty cy))
    (K17 : ∀ (St : SMo) (St_trial : Nat → Int32) (v3 : Int32) (H : Heap) (locs : List Loc) (ls : Array Slot), k17 St St_trial v3 = some r → va_P D vwCl (wMo ht cy St ++ (wAI (fun _ => ht 3) cy 140 St_r ++ (wAI (fun _ => ht 9) cy 325 St_st ++ (wAI (fun _ => ht 10) cy 325 St_trial)))) H → va_D A (wMo ht cy St ++ (wAI (fun _ => ht 3) cy 140 St_r ++ (wAI (fun _ => ht 9) cy 325 St_st ++ (wAI (fun _ => ht 10) cy 325 St_trial)))) → va_S A s.heap H locs → lv_has ls 9 [(0, .ref (ht 0)), (1, .int x1), (2, .int x2), (3, .int v3)] → W p l e (zRm 7 168) s m args below meth c H locs 0 0 (MQ below (zQV D (zty cy) A (wMo ht cy r.1 ++ (wAI (fun _ => ht 3) cy 140 St_r ++ (wAI (fun _ => ht 9) cy 325 St_st ++ (wAI (fun _ => ht 10) cy 325 r.2))))) args s 0 0 A) (F0 m 17 ls [])) :
    ∀ (St : SMo) (St_trial : Nat → Int32) (v3 : Int32) (v4 : Int64) (u1 : Int64) (u2 : Int64) (H : Heap) (locs : List Loc) (ls : Array Slot), b_X10_tryCrash_199 St_r St_st x1 x2 k17 St St_trial v3 v4 u1 u2 = some r → va_P D vwCl (wMo ht cy St ++ (wAI (fun _ => ht 3) cy 140 St_r ++ (wAI (fun _ => ht 9) cy 325 St_st ++ (wAI (fun _ => ht 10) cy 325 St_trial)))) H → va_D A (wMo ht cy St ++ (wAI (fun _ => ht 3) cy 140 St_r ++ (wAI (fun _ => ht 9) cy 325 St_st ++ (wAI (fun _ => ht 10) cy 325 St_trial)))) → va_S A s.heap H locs → lv_has ls 9 [(0, .ref (ht 0)), (1, .int x1), (2, .int x2), (3, .int v3), (4, .long v4)] → W p l e (zRm 7 168) s m args below meth c H locs 0 0 (MQ below (zQV D (zty cy) A (wMo ht cy r.1 ++ (wAI (fun _ => ht 3) cy 140 St_r ++ (wAI (fun _ => ht 9) cy 325 St_st ++ (wAI (fun _ => ht 10) cy 325 r.2))))) args s 0 0 A) (F0 m 199 ls [.long u2, .long u1, .ref (ht 0)]) := by
  obtain ⟨hx, hb, hr, hts, hown, hlocks, hml, hA, hK⟩ := id C
  intro St St_trial v3 v4 u1 u2 H locs ls hf hP hD hS hl
  refine lv_ladd hx hb dX10_tryCrash_199 ?_
  refine z_put (w2 := vMo ht cy (Mo_thrown St) (Mo_taped St) (Mo_size St) (Mo_at St) (Mo_end St) (Mo_token St) (Mo_whole St) (Mo_nameSize St) (Mo_fault St) (Mo_place St) (Mo_trouble St) (Mo_failed St) (Mo_hasStore St) (Mo_undos St) (Mo_images St) (Mo_ring St) (Mo_refused St) (Mo_setMany St) (Mo_someOf St) (Mo_allOf St) (Mo_firstRest St) (Mo_allWeight St) (u1 + u2) (Mo_sumWeight St) ++ (wAI (fun _ => ht 3) cy 140 St_r ++ (wAI (fun _ => ht 9) cy 325 St_st ++ (wAI (fun _ => ht 10) cy 325 St_trial)))) hx hb hts in_X10 tyX10 tyX10_ok nmX10 hown hK hP hD hS 0 rfl rfl 39 (by decide) (hts _ q6_84) (fun _ h9 => h9) rfl rfl rfl (Nat.le_of_ble_eq_true rfl) dX10_tryCrash_200 rfl (fun H locs hP hD hS => ?_)
  refine lv_aload_n hx hb dX10_tryCrash_203 rfl (lv_at hl 0 rfl) ?_
  refine lv_dup hx hb dX10_tryCrash_204 rfl ?_
  refine va_get (D := D) (ci := 6) (v := .long (Mo_sumWeight St)) (C := RX10) (T := TX10) (N := 41) hx hb hts in_X10 hown hK hP 0 rfl rfl 40 (by decide) (hts _ q6_85) (fun _ h9 => h9) rfl dX10_tryCrash_205 ?_
  refine lv_lload hx hb dX10_tryCrash_208 (lv_at hl 4 rfl) ?_
  refine lv_aload_n hx hb dX10_tryCrash_210 rfl (lv_at hl 0 rfl) ?_
  refine lv_aload_n hx hb dX10_tryCrash_211 rfl (lv_at hl 0 rfl) ?_
  refine va_get (D := D) (ci := 6) (v := .ref (ht 10)) (C := RX10) (T := TX10) (N := 41) hx hb hts in_X10 hown hK hP 0 rfl rfl 22 (by decide) (hts _ q6_67) (fun _ h9 => h9) rfl dX10_tryCrash_212 ?_
  refine lv_iconst (v := (-1 : Int32)) hx hb dX10_tryCrash_215 (by decide) ?_
  obtain ⟨q1, hc, hf⟩ := zbd hf
  rw [← wMo_mk ht] at hP hD
  refine z_cVi (As := [.ref (ht 10), .int (-1 : Int32)]) (rest := [.long v4, .long (Mo_sumWeight St), .ref (ht 0)]) C (c_X10_sumOf l D cy ht (fun _ => ht 10) (mkMo (Mo_thrown St) (Mo_taped St) (Mo_size St) (Mo_at St) (Mo_end St) (Mo_token St) (Mo_whole St) (Mo_nameSize St) (Mo_fault St) (Mo_place St) (Mo_trouble St) (Mo_failed St) (Mo_hasStore St) (Mo_undos St) (Mo_images St) (Mo_ring St) (Mo_refused St) (Mo_setMany St) (Mo_someOf St) (Mo_allOf St) (Mo_firstRest St) (Mo_allWeight St) (u1 + u2) (Mo_sumWeight St)) St_r St_trial (-1 : Int32) q1 hc) gV_X10_X10_sumOf hd_X10_sumOf ⟨Nat.le_of_ble_eq_true rfl, Nat.le_of_ble_eq_true rfl⟩ ⟨Nat.le_refl _, Nat.le_refl _⟩ (va_recv hK hP (ci := 6) (q0 := 0) rfl rfl) hP hD hS (w2 := wMo ht cy (mkMo (Mo_thrown St) (Mo_taped St) (Mo_size St) (Mo_at St) (Mo_end St) (Mo_token St) (Mo_whole St) (Mo_nameSize St) (Mo_fault St) (Mo_place St) (Mo_trouble St) (Mo_failed St) (Mo_hasStore St) (Mo_undos St) (Mo_images St) (Mo_ring St) (Mo_refused St) (Mo_setMany St) (Mo_someOf St) (Mo_allOf St) (Mo_firstRest St) (Mo_allWeight St) (u1 + u2) (Mo_sumWeight St)) ++ (wAI (fun _ => ht 3) cy 140 St_r ++ (wAI (fun _ => ht 9) cy 325 St_st ++ (wAI (fun _ => ht 10) cy 325 St_trial)))) [0, 1, 3] [2] [1, 2, 0, 3] rfl rfl rfl rfl rfl rfl (by decide) hl.1 (Nat.le_of_ble_eq_true rfl) dX10_tryCrash_216 (fun H locs hP hD hS => ?_)
  rw [wMo_mk ht] at hP hD
  refine lv_i2l (v := q1.toInt64) hx hb dX10_tryCrash_219 rfl ?_
  refine lv_lmul hx hb dX10_tryCrash_220 ?_
  refine lv_ladd hx hb dX10_tryCrash_221 ?_
  refine z_put (w2 := vMo ht cy (Mo_thrown St) (Mo_taped St) (Mo_size St) (Mo_at St) (Mo_end St) (Mo_token St) (Mo_whole St) (Mo_nameSize St) (Mo_fault St) (Mo_place St) (Mo_trouble St) (Mo_failed St) (Mo_hasStore St) (Mo_undos St) (Mo_images St) (Mo_ring St) (Mo_refused St) (Mo_setMany St) (Mo_someOf St) (Mo_allOf St) (Mo_firstRest St) (Mo_allWeight St) (u1 + u2) ((Mo_sumWeight St) + (v4 * (q1.toInt64))) ++ (wAI (fun _ => ht 3) cy 140 St_r ++ (wAI (fun _ => ht 9) cy 325 St_st ++ (wAI (fun _ => ht 10) cy 325 St_trial)))) hx hb hts in_X10 tyX10 tyX10_ok nmX10 hown hK hP hD hS 0 rfl rfl 40 (by decide) (hts _ q6_85) (fun _ h9 => h9) rfl rfl rfl (Nat.le_of_ble_eq_true rfl) dX10_tryCrash_222 rfl (fun H locs hP hD hS => ?_)
  refine lv_iinc (v := (v3 + (1 : Int32))) (lv' := [(3, .int (v3 + (1 : Int32))), (0, .ref (ht 0)), (1, .int x1), (2, .int x2), (4, .long v4)]) hx hb dX10_tryCrash_225 hl (k := 3) rfl rfl (by decide) rfl (fun ls hl => ?_)
  refine lv_goto (tgt := 17) hx hb dX10_tryCrash_228 (by decide) ?_
  rw [← wMo_mk ht] at hP hD
  exact K17 (mkMo (Mo_thrown St) (Mo_taped St) (Mo_size St) (Mo_at St) (Mo_end St) (Mo_token St) (Mo_whole St) (Mo_nameSize St) (Mo_fault St) (Mo_place St) (Mo_trouble St) (Mo_failed St) (Mo_hasStore St) (Mo_undos St) (Mo_images St) (Mo_ring St) (Mo_refused St) (Mo_setMany St) (Mo_someOf St) (Mo_allOf St) (Mo_firstRest St) (Mo_allWeight St) (u1 + u2) ((Mo_sumWeight St) + (v4 * (q1.toInt64)))) St_trial (v3 + (1 : Int32)) H locs ls hf hP hD hS (lv_sub hl [1, 2, 3, 0] rfl)
def b_X10_tryCrash_99 (St_r : Nat → Int32) (St_st : Nat → Int32) (x1 : Int32) (x2 : Int32) (k17 : SMo → (Nat → Int32) → Int32 → Option (SMo × (Nat → Int32))) (k32 : SMo → (Nat → Int32) → Int32 → Int64 → Int32 → Int32 → Option (SMo × (Nat → Int32))) (St : SMo) (St_trial : Nat → Int32) (v3 : Int32) (v4 : Int64) (v7 : Int32) (v8 : Int32) (u0 : Int32) : Option (SMo × (Nat → Int32)) :=
  (if v8 = 0 then
    (k32 St St_trial v3 v4 u0 (v7 + (1 : Int32)))
    else
    (f_X10_hasBit v3 v7).bind (fun q2 =>
      (if q2 = 0 then
        (if zib (3 : Int32) 140 then (k32 St St_trial v3 (v4 * (((100 : Int32) - (St_r (3 : Int32).toNatClampNeg)).toInt64)) u0 (v7 + (1 : Int32))) else none)
        else
        (if zib (3 : Int32) 140 then (k32 St St_trial v3 (v4 * ((St_r (3 : Int32).toNatClampNeg).toInt64)) u0 (v7 + (1 : Int32))) else none))))
set_option maxHeartbeats 4000000 in
set_option maxRecDepth 100000 in
theorem w_X10_tryCrash_99 {p : Program} {e : Env} {s : State} {m : MethodId} {below : List Frame} {meth : Method} {c : Code} {A : Nat → Prop} {D : va_G} {cy : Nat → ClassId} {args : Array Value} {r : SMo × (Nat → Int32)} (l : Launch) (ht : Nat → Nat) (St_r : Nat → Int32) (St_st : Nat → Int32) (x1 : Int32) (x2 : Int32) {k17 : SMo → (Nat → Int32) → Int32 → Option (SMo × (Nat → Int32))} {k32 : SMo → (Nat → Int32) → Int32 → Int64 → Int32 → Int32 → Option (SMo × (Nat → Int32))} (C : zX p s m meth c cX10_tryCrash 9 args RX10 none A D (zty cy))
    (K17 : ∀ (St : SMo) (St_trial : Nat → Int32) (v3 : Int32) (H : Heap) (locs : List Loc) (ls : Array Slot), k17 St St_trial v3 = some r → va_P D vwCl (wMo ht cy St ++ (wAI (fun _ => ht 3) cy 140 St_r ++ (wAI (fun _ => ht 9) cy 325 St_st ++ (wAI (fun _ => ht 10) cy 325 St_trial)))) H → va_D A (wMo ht cy St ++ (wAI (fun _ => ht 3) cy 140 St_r ++ (wAI (fun _ => ht 9) cy 325 St_st ++ (wAI (fun _ => ht 10) cy 325 St_trial)))) → va_S A s.heap H locs → lv_has ls 9 [(0, .ref (ht 0)), (1, .int x1), (2, .int x2), (3, .int v3)] → W p l e (zRm 7 168) s m args below meth c H locs 0 0 (MQ below (zQV D (zty cy) A (wMo ht cy r.1 ++ (wAI (fun _ => ht 3) cy 140 St_r ++ (wAI (fun _ => ht 9) cy 325 St_st ++ (wAI (fun _ => ht 10) cy 325 r.2))))) args s 0 0 A) (F0 m 17 ls []))
    (K32 : ∀ (St : SMo) (St_trial : Nat → Int32) (v3 : Int32) (v4 : Int64) (v6 : Int32) (v7 : Int32) (H : Heap) (locs : List Loc) (ls : Array Slot), k32 St St_trial v3 v4 v6 v7 = some r → va_P D vwCl (wMo ht cy St ++ (wAI (fun _ => ht 3) cy 140 St_r ++ (wAI (fun _ => ht 9) cy 325 St_st ++ (wAI (fun _ => ht 10) cy 325 St_trial)))) H → va_D A (wMo ht cy St ++ (wAI (fun _ => ht 3) cy 140 St_r ++ (wAI (fun _ => ht 9) cy 325 St_st ++ (wAI (fun _ => ht 10) cy 325 St_trial)))) → va_S A s.heap H locs → lv_has ls 9 [(0, .ref (ht 0)), (1, .int x1), (2, .int x2), (3, .int v3), (4, .long v4), (6, .int v6), (7, .int v7)] → W p l e (zRm 7 168) s m args below meth c H locs 0 0 (MQ below (zQV D (zty cy) A (wMo ht cy r.1 ++ (wAI (fun _ => ht 3) cy 140 St_r ++ (wAI (fun _ => ht 9) cy 325 St_st ++ (wAI (fun _ => ht 10) cy 325 r.2))))) args s 0 0 A) (F0 m 32 ls [])) :
    ∀ (St : SMo) (St_trial : Nat → Int32) (v3 : Int32) (v4 : Int64) (v7 : Int32) (v8 : Int32) (u0 : Int32) (H : Heap) (locs : List Loc) (ls : Array Slot), b_X10_tryCrash_99 St_r St_st x1 x2 k17 k32 St St_trial v3 v4 v7 v8 u0 = some r → va_P D vwCl (wMo ht cy St ++ (wAI (fun _ => ht 3) cy 140 St_r ++ (wAI (fun _ => ht 9) cy 325 St_st ++ (wAI (fun _ => ht 10) cy 325 St_trial)))) H → va_D A (wMo ht cy St ++ (wAI (fun _ => ht 3) cy 140 St_r ++ (wAI (fun _ => ht 9) cy 325 St_st ++ (wAI (fun _ => ht 10) cy 325 St_trial)))) → va_S A s.heap H locs → lv_has ls 9 [(0, .ref (ht 0)), (1, .int x1), (2, .int x2), (3, .int v3), (4, .long v4), (7, .int v7), (8, .int v8)] → W p l e (zRm 7 168) s m args below meth c H locs 0 0 (MQ below (zQV D (zty cy) A (wMo ht cy r.1 ++ (wAI (fun _ => ht 3) cy 140 St_r ++ (wAI (fun _ => ht 9) cy 325 St_st ++ (wAI (fun _ => ht 10) cy 325 r.2))))) args s 0 0 A) (F0 m 99 ls [.int u0]) := by
  obtain ⟨hx, hb, hr, hts, hown, hlocks, hml, hA, hK⟩ := id C
  intro St St_trial v3 v4 v7 v8 u0 H locs ls hf hP hD hS hl
  refine lv_istore (lv' := [(6, .int u0), (0, .ref (ht 0)), (1, .int x1), (2, .int x2), (3, .int v3), (4, .long v4), (7, .int v7), (8, .int v8)]) hx hb dX10_tryCrash_99 hl (by decide) rfl (fun ls hl => ?_)
  refine lv_iload hx hb dX10_tryCrash_101 (lv_at hl 7 rfl) ?_
  refine z_if_eq (tgt := 140) hx hb dX10_tryCrash_103 (by decide) hf (fun hf => ?_) (fun hf => ?_)
  · refine lv_iinc (v := (v7 + (1 : Int32))) (lv' := [(7, .int (v7 + (1 : Int32))), (6, .int u0), (0, .ref (ht 0)), (1, .int x1), (2, .int x2), (3, .int v3), (4, .long v4), (8, .int v8)]) hx hb dX10_tryCrash_140 hl (k := 6) rfl rfl (by decide) rfl (fun ls hl => ?_)
    refine lv_goto (tgt := 32) hx hb dX10_tryCrash_143 (by decide) ?_
    exact K32 St St_trial v3 v4 u0 (v7 + (1 : Int32)) H locs ls hf hP hD hS (lv_sub hl [2, 3, 4, 5, 6, 1, 0] rfl)
  · refine lv_lload hx hb dX10_tryCrash_106 (lv_at hl 5 rfl) ?_
    refine lv_iload_n hx hb dX10_tryCrash_108 rfl (lv_at hl 4 rfl) ?_
    refine lv_iload hx hb dX10_tryCrash_109 (lv_at hl 6 rfl) ?_
    obtain ⟨q2, hc, hf⟩ := zbd hf
    refine z_cSiE (As := [.int v3, .int v7]) (rest := [.long v4]) C (c_X10_hasBit l D cy v3 v7 q2 hc) gS_X10_X10_hasBit hd_X10_hasBit ⟨Nat.le_of_ble_eq_true rfl, Nat.le_of_ble_eq_true rfl⟩ ⟨Nat.le_refl _, Nat.le_refl _⟩ hP hD hS hl.1 (Nat.le_of_ble_eq_true rfl) dX10_tryCrash_111 (fun H locs hP hD hS => ?_)
    refine z_if_eq (tgt := 127) hx hb dX10_tryCrash_114 (by decide) hf (fun hf => ?_) (fun hf => ?_)
    · refine lv_bipush (v := (100 : Int32)) hx hb dX10_tryCrash_127 (by decide) ?_
      refine lv_aload_n hx hb dX10_tryCrash_129 rfl (lv_at hl 1 rfl) ?_
      refine va_get (D := D) (ci := 6) (v := .ref (ht 3)) (C := RX10) (T := TX10) (N := 41) hx hb hts in_X10 hown hK hP 0 rfl rfl 15 (by decide) (hts _ q6_60) (fun _ h9 => h9) rfl dX10_tryCrash_130 ?_
      refine lv_iconst (v := (3 : Int32)) hx hb dX10_tryCrash_133 (by decide) ?_
      refine z_iald (f := St_r) hx hb hK hP 1 0 rfl rfl dX10_tryCrash_134 hf (fun hf => ?_)
      refine lv_isub hx hb dX10_tryCrash_135 ?_
      refine lv_i2l (v := ((100 : Int32) - (St_r (3 : Int32).toNatClampNeg)).toInt64) hx hb dX10_tryCrash_136 rfl ?_
      refine lv_lmul hx hb dX10_tryCrash_137 ?_
      refine lv_lstore (lv' := [(4, .long (v4 * (((100 : Int32) - (St_r (3 : Int32).toNatClampNeg)).toInt64))), (6, .int u0), (0, .ref (ht 0)), (1, .int x1), (2, .int x2), (3, .int v3), (7, .int v7), (8, .int v8)]) hx hb dX10_tryCrash_138 hl (by decide) rfl (fun ls hl => ?_)
      refine lv_iinc (v := (v7 + (1 : Int32))) (lv' := [(7, .int (v7 + (1 : Int32))), (4, .long (v4 * (((100 : Int32) - (St_r (3 : Int32).toNatClampNeg)).toInt64))), (6, .int u0), (0, .ref (ht 0)), (1, .int x1), (2, .int x2), (3, .int v3), (8, .int v8)]) hx hb dX10_tryCrash_140 hl (k := 6) rfl rfl (by decide) rfl (fun ls hl => ?_)
      refine lv_goto (tgt := 32) hx hb dX10_tryCrash_143 (by decide) ?_
      exact K32 St St_trial v3 (v4 * (((100 : Int32) - (St_r (3 : Int32).toNatClampNeg)).toInt64)) u0 (v7 + (1 : Int32)) H locs ls hf hP hD hS (lv_sub hl [3, 4, 5, 6, 1, 2, 0] rfl)
    · refine lv_aload_n hx hb dX10_tryCrash_117 rfl (lv_at hl 1 rfl) ?_
      refine va_get (D := D) (ci := 6) (v := .ref (ht 3)) (C := RX10) (T := TX10) (N := 41) hx hb hts in_X10 hown hK hP 0 rfl rfl 15 (by decide) (hts _ q6_60) (fun _ h9 => h9) rfl dX10_tryCrash_118 ?_
      refine lv_iconst (v := (3 : Int32)) hx hb dX10_tryCrash_121 (by decide) ?_
      refine z_iald (f := St_r) hx hb hK hP 1 0 rfl rfl dX10_tryCrash_122 hf (fun hf => ?_)
      refine lv_i2l (v := (St_r (3 : Int32).toNatClampNeg).toInt64) hx hb dX10_tryCrash_123 rfl ?_
      refine lv_goto (tgt := 137) hx hb dX10_tryCrash_124 (by decide) ?_
      refine lv_lmul hx hb dX10_tryCrash_137 ?_
      refine lv_lstore (lv' := [(4, .long (v4 * ((St_r (3 : Int32).toNatClampNeg).toInt64))), (6, .int u0), (0, .ref (ht 0)), (1, .int x1), (2, .int x2), (3, .int v3), (7, .int v7), (8, .int v8)]) hx hb dX10_tryCrash_138 hl (by decide) rfl (fun ls hl => ?_)
      refine lv_iinc (v := (v7 + (1 : Int32))) (lv' := [(7, .int (v7 + (1 : Int32))), (4, .long (v4 * ((St_r (3 : Int32).toNatClampNeg).toInt64))), (6, .int u0), (0, .ref (ht 0)), (1, .int x1), (2, .int x2), (3, .int v3), (8, .int v8)]) hx hb dX10_tryCrash_140 hl (k := 6) rfl rfl (by decide) rfl (fun ls hl => ?_)
      refine lv_goto (tgt := 32) hx hb dX10_tryCrash_143 (by decide) ?_
      exact K32 St St_trial v3 (v4 * ((St_r (3 : Int32).toNatClampNeg).toInt64)) u0 (v7 + (1 : Int32)) H locs ls hf hP hD hS (lv_sub hl [3, 4, 5, 6, 1, 2, 0] rfl)
def b_X10_tryCrash_73 (St_r : Nat → Int32) (St_st : Nat → Int32) (x1 : Int32) (x2 : Int32) (k17 : SMo → (Nat → Int32) → Int32 → Option (SMo × (Nat → Int32))) (k32 : SMo → (Nat → Int32) → Int32 → Int64 → Int32 → Int32 → Option (SMo × (Nat → Int32))) (St : SMo) (St_trial : Nat → Int32) (v3 : Int32) (v4 : Int64) (v6 : Int32) (v7 : Int32) (u0 : Int32) : Option (SMo × (Nat → Int32)) :=
  (if v6 = 0 then
    (b_X10_tryCrash_99 St_r St_st x1 x2 k17 k32 St St_trial v3 v4 v7 u0 (0 : Int32))
    else
    (if u0 = 0 then
      (f_X10_hasBit v3 v7).bind (fun q3 =>
        (if q3 = 0 then
          (b_X10_tryCrash_99 St_r St_st x1 x2 k17 k32 St St_trial v3 v4 v7 u0 (1 : Int32))
          else
          (b_X10_tryCrash_99 St_r St_st x1 x2 k17 k32 St St_trial v3 v4 v7 u0 (0 : Int32))))
      else
      (b_X10_tryCrash_99 St_r St_st x1 x2 k17 k32 St St_trial v3 v4 v7 u0 (1 : Int32))))
set_option maxHeartbeats 4000000 in
set_option maxRecDepth 100000 in
theorem w_X10_tryCrash_73 {p : Program} {e : Env} {s : State} {m : MethodId} {below : List Frame} {meth : Method} {c : Code} {A : Nat → Prop} {D : va_G} {cy : Nat → ClassId} {args : Array Value} {r : SMo × (Nat → Int32)} (l : Launch) (ht : Nat → Nat) (St_r : Nat → Int32) (St_st : Nat → Int32) (x1 : Int32) (x2 : Int32) {k17 : SMo → (Nat → Int32) → Int32 → Option (SMo × (Nat → Int32))} {k32 : SMo → (Nat → Int32) → Int32 → Int64 → Int32 → Int32 → Option (SMo × (Nat → Int32))} (C : zX p s m meth c cX10_tryCrash 9 args RX10 none A D (zty cy))
    (K17 : ∀ (St : SMo) (St_trial : Nat → Int32) (v3 : Int32) (H : Heap) (locs : List Loc) (ls : Array Slot), k17 St St_trial v3 = some r → va_P D vwCl (wMo ht cy St ++ (wAI (fun _ => ht 3) cy 140 St_r ++ (wAI (fun _ => ht 9) cy 325 St_st ++ (wAI (fun _ => ht 10) cy 325 St_trial)))) H → va_D A (wMo ht cy St ++ (wAI (fun _ => ht 3) cy 140 St_r ++ (wAI (fun _ => ht 9) cy 325 St_st ++ (wAI (fun _ => ht 10) cy 325 St_trial)))) → va_S A s.heap H locs → lv_has ls 9 [(0, .ref (ht 0)), (1, .int x1), (2, .int x2), (3, .int v3)] → W p l e (zRm 7 168) s m args below meth c H locs 0 0 (MQ below (zQV D (zty cy) A (wMo ht cy r.1 ++ (wAI (fun _ => ht 3) cy 140 St_r ++ (wAI (fun _ => ht 9) cy 325 St_st ++ (wAI (fun _ => ht 10) cy 325 r.2))))) args s 0 0 A) (F0 m 17 ls []))
    (K32 : ∀ (St : SMo) (St_trial : Nat → Int32) (v3 : Int32) (v4 : Int64) (v6 : Int32) (v7 : Int32) (H : Heap) (locs : List Loc) (ls : Array Slot), k32 St St_trial v3 v4 v6 v7 = some r → va_P D vwCl (wMo ht cy St ++ (wAI (fun _ => ht 3) cy 140 St_r ++ (wAI (fun _ => ht 9) cy 325 St_st ++ (wAI (fun _ => ht 10) cy 325 St_trial)))) H → va_D A (wMo ht cy St ++ (wAI (fun _ => ht 3) cy 140 St_r ++ (wAI (fun _ => ht 9) cy 325 St_st ++ (wAI (fun _ => ht 10) cy 325 St_trial)))) → va_S A s.heap H locs → lv_has ls 9 [(0, .ref (ht 0)), (1, .int x1), (2, .int x2), (3, .int v3), (4, .long v4), (6, .int v6), (7, .int v7)] → W p l e (zRm 7 168) s m args below meth c H locs 0 0 (MQ below (zQV D (zty cy) A (wMo ht cy r.1 ++ (wAI (fun _ => ht 3) cy 140 St_r ++ (wAI (fun _ => ht 9) cy 325 St_st ++ (wAI (fun _ => ht 10) cy 325 r.2))))) args s 0 0 A) (F0 m 32 ls [])) :
    ∀ (St : SMo) (St_trial : Nat → Int32) (v3 : Int32) (v4 : Int64) (v6 : Int32) (v7 : Int32) (u0 : Int32) (H : Heap) (locs : List Loc) (ls : Array Slot), b_X10_tryCrash_73 St_r St_st x1 x2 k17 k32 St St_trial v3 v4 v6 v7 u0 = some r → va_P D vwCl (wMo ht cy St ++ (wAI (fun _ => ht 3) cy 140 St_r ++ (wAI (fun _ => ht 9) cy 325 St_st ++ (wAI (fun _ => ht 10) cy 325 St_trial)))) H → va_D A (wMo ht cy St ++ (wAI (fun _ => ht 3) cy 140 St_r ++ (wAI (fun _ => ht 9) cy 325 St_st ++ (wAI (fun _ => ht 10) cy 325 St_trial)))) → va_S A s.heap H locs → lv_has ls 9 [(0, .ref (ht 0)), (1, .int x1), (2, .int x2), (3, .int v3), (4, .long v4), (6, .int v6), (7, .int v7)] → W p l e (zRm 7 168) s m args below meth c H locs 0 0 (MQ below (zQV D (zty cy) A (wMo ht cy r.1 ++ (wAI (fun _ => ht 3) cy 140 St_r ++ (wAI (fun _ => ht 9) cy 325 St_st ++ (wAI (fun _ => ht 10) cy 325 r.2))))) args s 0 0 A) (F0 m 73 ls [.int u0]) := by
  obtain ⟨hx, hb, hr, hts, hown, hlocks, hml, hA, hK⟩ := id C
  intro St St_trial v3 v4 v6 v7 u0 H locs ls hf hP hD hS hl
  refine lv_istore (lv' := [(8, .int u0), (0, .ref (ht 0)), (1, .int x1), (2, .int x2), (3, .int v3), (4, .long v4), (6, .int v6), (7, .int v7)]) hx hb dX10_tryCrash_73 hl (by decide) rfl (fun ls hl => ?_)
  refine lv_iload hx hb dX10_tryCrash_75 (lv_at hl 6 rfl) ?_
  refine z_if_eq (tgt := 98) hx hb dX10_tryCrash_77 (by decide) hf (fun hf => ?_) (fun hf => ?_)
  · refine lv_iconst (v := (0 : Int32)) hx hb dX10_tryCrash_98 (by decide) ?_
    exact w_X10_tryCrash_99 l ht St_r St_st x1 x2 C K17 K32 St St_trial v3 v4 v7 u0 (0 : Int32) H locs ls hf hP hD hS (lv_sub hl [1, 2, 3, 4, 5, 7, 0] rfl)
  · refine lv_iload hx hb dX10_tryCrash_80 (lv_at hl 0 rfl) ?_
    refine z_if_ne (tgt := 94) hx hb dX10_tryCrash_82 (by decide) hf (fun hf => ?_) (fun hf => ?_)
    · refine lv_iconst (v := (1 : Int32)) hx hb dX10_tryCrash_94 (by decide) ?_
      refine lv_goto (tgt := 99) hx hb dX10_tryCrash_95 (by decide) ?_
      exact w_X10_tryCrash_99 l ht St_r St_st x1 x2 C K17 K32 St St_trial v3 v4 v7 u0 (1 : Int32) H locs ls hf hP hD hS (lv_sub hl [1, 2, 3, 4, 5, 7, 0] rfl)
    · refine lv_iload_n hx hb dX10_tryCrash_85 rfl (lv_at hl 4 rfl) ?_
      refine lv_iload hx hb dX10_tryCrash_86 (lv_at hl 7 rfl) ?_
      obtain ⟨q3, hc, hf⟩ := zbd hf
      refine z_cSiE (As := [.int v3, .int v7]) (rest := []) C (c_X10_hasBit l D cy v3 v7 q3 hc) gS_X10_X10_hasBit hd_X10_hasBit ⟨Nat.le_of_ble_eq_true rfl, Nat.le_of_ble_eq_true rfl⟩ ⟨Nat.le_refl _, Nat.le_refl _⟩ hP hD hS hl.1 (Nat.le_of_ble_eq_true rfl) dX10_tryCrash_88 (fun H locs hP hD hS => ?_)
      refine z_if_ne (tgt := 98) hx hb dX10_tryCrash_91 (by decide) hf (fun hf => ?_) (fun hf => ?_)
      · refine lv_iconst (v := (0 : Int32)) hx hb dX10_tryCrash_98 (by decide) ?_
        exact w_X10_tryCrash_99 l ht St_r St_st x1 x2 C K17 K32 St St_trial v3 v4 v7 u0 (0 : Int32) H locs ls hf hP hD hS (lv_sub hl [1, 2, 3, 4, 5, 7, 0] rfl)
      · refine lv_iconst (v := (1 : Int32)) hx hb dX10_tryCrash_94 (by decide) ?_
        refine lv_goto (tgt := 99) hx hb dX10_tryCrash_95 (by decide) ?_
        exact w_X10_tryCrash_99 l ht St_r St_st x1 x2 C K17 K32 St St_trial v3 v4 v7 u0 (1 : Int32) H locs ls hf hP hD hS (lv_sub hl [1, 2, 3, 4, 5, 7, 0] rfl)
def b_X10_tryCrash_32 (St_r : Nat → Int32) (St_st : Nat → Int32) (x1 : Int32) (x2 : Int32) (k17 : SMo → (Nat → Int32) → Int32 → Option (SMo × (Nat → Int32))) (k32 : SMo → (Nat → Int32) → Int32 → Int64 → Int32 → Int32 → Option (SMo × (Nat → Int32))) (St : SMo) (St_trial : Nat → Int32) (v3 : Int32) (v4 : Int64) (v6 : Int32) (v7 : Int32) : Option (SMo × (Nat → Int32)) :=
  (if (6 : Int32) ≤ v7 then
    (if v6 = 0 then
      (k17 St St_trial (v3 + (1 : Int32)))
      else
      (f_X10_crashOn St St_st St_trial v3).bind (fun q4 =>
        (if x1 < 0 then
          (b_X10_tryCrash_199 St_r St_st x1 x2 k17 (mkMo (Mo_thrown St) (Mo_taped St) (Mo_size St) (Mo_at St) (Mo_end St) (Mo_token St) (Mo_whole St) (Mo_nameSize St) (Mo_fault St) (Mo_place St) (Mo_trouble St) (Mo_failed St) (Mo_hasStore St) (Mo_undos St) (Mo_images St) (Mo_ring St) (Mo_refused St) (Mo_setMany St) (Mo_someOf St) (Mo_allOf St) (Mo_firstRest St) ((Mo_allWeight St) + v4) (Mo_seenWeight St) (Mo_sumWeight St)) q4 v3 v4 (Mo_seenWeight St) (0 : Int64))
          else
          (f_X10_valueOf (mkMo (Mo_thrown St) (Mo_taped St) (Mo_size St) (Mo_at St) (Mo_end St) (Mo_token St) (Mo_whole St) (Mo_nameSize St) (Mo_fault St) (Mo_place St) (Mo_trouble St) (Mo_failed St) (Mo_hasStore St) (Mo_undos St) (Mo_images St) (Mo_ring St) (Mo_refused St) (Mo_setMany St) (Mo_someOf St) (Mo_allOf St) (Mo_firstRest St) ((Mo_allWeight St) + v4) (Mo_seenWeight St) (Mo_sumWeight St)) q4 (-1 : Int32) x1).bind (fun q5 =>
            (if q5 = x2 then
              (b_X10_tryCrash_199 St_r St_st x1 x2 k17 (mkMo (Mo_thrown St) (Mo_taped St) (Mo_size St) (Mo_at St) (Mo_end St) (Mo_token St) (Mo_whole St) (Mo_nameSize St) (Mo_fault St) (Mo_place St) (Mo_trouble St) (Mo_failed St) (Mo_hasStore St) (Mo_undos St) (Mo_images St) (Mo_ring St) (Mo_refused St) (Mo_setMany St) (Mo_someOf St) (Mo_allOf St) (Mo_firstRest St) ((Mo_allWeight St) + v4) (Mo_seenWeight St) (Mo_sumWeight St)) q4 v3 v4 (Mo_seenWeight St) v4)
              else
              (b_X10_tryCrash_199 St_r St_st x1 x2 k17 (mkMo (Mo_thrown St) (Mo_taped St) (Mo_size St) (Mo_at St) (Mo_end St) (Mo_token St) (Mo_whole St) (Mo_nameSize St) (Mo_fault St) (Mo_place St) (Mo_trouble St) (Mo_failed St) (Mo_hasStore St) (Mo_undos St) (Mo_images St) (Mo_ring St) (Mo_refused St) (Mo_setMany St) (Mo_someOf St) (Mo_allOf St) (Mo_firstRest St) ((Mo_allWeight St) + v4) (Mo_seenWeight St) (Mo_sumWeight St)) q4 v3 v4 (Mo_seenWeight St) (0 : Int64)))))))
    else
    (f_X10_doesRun St_st v7).bind (fun q6 =>
      (if q6 = 0 then
        (b_X10_tryCrash_73 St_r St_st x1 x2 k17 k32 St St_trial v3 v4 v6 v7 (0 : Int32))
        else
        (if zib (310 : Int32) 325 then (f_X10_hasBit (St_st (310 : Int32).toNatClampNeg) v7).bind (fun q7 =>
            (if q7 = 0 then
              (b_X10_tryCrash_73 St_r St_st x1 x2 k17 k32 St St_trial v3 v4 v6 v7 (1 : Int32))
              else
              (b_X10_tryCrash_73 St_r St_st x1 x2 k17 k32 St St_trial v3 v4 v6 v7 (0 : Int32)))) else none))))
set_option maxHeartbeats 4000000 in
set_option maxRecDepth 100000 in
theorem w_X10_tryCrash_32 {p : Program} {e : Env} {s : State} {m : MethodId} {below : List Frame} {meth : Method} {c : Code} {A : Nat → Prop} {D : va_G} {cy : Nat → ClassId} {args : Array Value} {r : SMo × (Nat → Int32)} (l : Launch) (ht : Nat → Nat) (St_r : Nat → Int32) (St_st : Nat → Int32) (x1 : Int32) (x2 : Int32) {k17 : SMo → (Nat → Int32) → Int32 → Option (SMo × (Nat → Int32))} (C : zX p s m meth c cX10_tryCrash 9 args RX10 none A D (zty cy))
    (K17 : ∀ (St : SMo) (St_trial : Nat → Int32) (v3 : Int32) (H : Heap) (locs : List Loc) (ls : Array Slot), k17 St St_trial v3 = some r → va_P D vwCl (wMo ht cy St ++ (wAI (fun _ => ht 3) cy 140 St_r ++ (wAI (fun _ => ht 9) cy 325 St_st ++ (wAI (fun _ => ht 10) cy 325 St_trial)))) H → va_D A (wMo ht cy St ++ (wAI (fun _ => ht 3) cy 140 St_r ++ (wAI (fun _ => ht 9) cy 325 St_st ++ (wAI (fun _ => ht 10) cy 325 St_trial)))) → va_S A s.heap H locs → lv_has ls 9 [(0, .ref (ht 0)), (1, .int x1), (2, .int x2), (3, .int v3)] → W p l e (zRm 7 168) s m args below meth c H locs 0 0 (MQ below (zQV D (zty cy) A (wMo ht cy r.1 ++ (wAI (fun _ => ht 3) cy 140 St_r ++ (wAI (fun _ => ht 9) cy 325 St_st ++ (wAI (fun _ => ht 10) cy 325 r.2))))) args s 0 0 A) (F0 m 17 ls [])) :
    ∀ (n : Nat) (St : SMo) (St_trial : Nat → Int32) (v3 : Int32) (v4 : Int64) (v6 : Int32) (v7 : Int32) (H : Heap) (locs : List Loc) (ls : Array Slot), zl6 (b_X10_tryCrash_32 St_r St_st x1 x2 k17) n St St_trial v3 v4 v6 v7 = some r → va_P D vwCl (wMo ht cy St ++ (wAI (fun _ => ht 3) cy 140 St_r ++ (wAI (fun _ => ht 9) cy 325 St_st ++ (wAI (fun _ => ht 10) cy 325 St_trial)))) H → va_D A (wMo ht cy St ++ (wAI (fun _ => ht 3) cy 140 St_r ++ (wAI (fun _ => ht 9) cy 325 St_st ++ (wAI (fun _ => ht 10) cy 325 St_trial)))) → va_S A s.heap H locs → lv_has ls 9 [(0, .ref (ht 0)), (1, .int x1), (2, .int x2), (3, .int v3), (4, .long v4), (6, .int v6), (7, .int v7)] → W p l e (zRm 7 168) s m args below meth c H locs 0 0 (MQ below (zQV D (zty cy) A (wMo ht cy r.1 ++ (wAI (fun _ => ht 3) cy 140 St_r ++ (wAI (fun _ => ht 9) cy 325 St_st ++ (wAI (fun _ => ht 10) cy 325 r.2))))) args s 0 0 A) (F0 m 32 ls []) := by
  obtain ⟨hx, hb, hr, hts, hown, hlocks, hml, hA, hK⟩ := id C
  intro n
  induction n with
  | zero => intro St St_trial v3 v4 v6 v7 H locs ls hf; exact zno hf
  | succ n ih =>
    intro St St_trial v3 v4 v6 v7 H locs ls hf hP hD hS hl
    have hf : b_X10_tryCrash_32 St_r St_st x1 x2 k17 (zl6 (b_X10_tryCrash_32 St_r St_st x1 x2 k17) n) St St_trial v3 v4 v6 v7 = some r := hf
    have K32 := ih
    refine lv_iload hx hb dX10_tryCrash_32 (lv_at hl 6 rfl) ?_
    refine lv_bipush (v := (6 : Int32)) hx hb dX10_tryCrash_34 (by decide) ?_
    refine z_icmp_ge (tgt := 146) hx hb dX10_tryCrash_36 (by decide) hf (fun hf => ?_) (fun hf => ?_)
    · refine lv_iload hx hb dX10_tryCrash_146 (lv_at hl 5 rfl) ?_
      refine z_if_ne (tgt := 154) hx hb dX10_tryCrash_148 (by decide) hf (fun hf => ?_) (fun hf => ?_)
      · refine lv_aload_n hx hb dX10_tryCrash_154 rfl (lv_at hl 0 rfl) ?_
        refine lv_iload_n hx hb dX10_tryCrash_155 rfl (lv_at hl 3 rfl) ?_
        obtain ⟨q4, hc, hf⟩ := zbd hf
        refine z_cVv (As := [.int v3]) (rest := []) C (c_X10_crashOn l D cy ht St St_st St_trial v3 q4 hc) gV_X10_X10_crashOn hd_X10_crashOn ⟨Nat.le_of_ble_eq_true rfl, Nat.le_of_ble_eq_true rfl⟩ ⟨Nat.le_refl _, Nat.le_refl _⟩ (va_recv hK hP (ci := 6) (q0 := 0) rfl rfl) hP hD hS (w2 := wMo ht cy St ++ (wAI (fun _ => ht 3) cy 140 St_r ++ (wAI (fun _ => ht 9) cy 325 St_st ++ (wAI (fun _ => ht 10) cy 325 q4)))) [0, 2, 3] [1] [1, 0, 2, 3] rfl rfl rfl rfl rfl rfl (by decide) hl.1 (Nat.le_of_ble_eq_true rfl) dX10_tryCrash_156 (fun H locs hP hD hS => ?_)
        refine lv_aload_n hx hb dX10_tryCrash_159 rfl (lv_at hl 0 rfl) ?_
        refine lv_dup hx hb dX10_tryCrash_160 rfl ?_
        refine va_get (D := D) (ci := 6) (v := .long (Mo_allWeight St)) (C := RX10) (T := TX10) (N := 41) hx hb hts in_X10 hown hK hP 0 rfl rfl 38 (by decide) (hts _ q6_83) (fun _ h9 => h9) rfl dX10_tryCrash_161 ?_
        refine lv_lload hx hb dX10_tryCrash_164 (lv_at hl 4 rfl) ?_
        refine lv_ladd hx hb dX10_tryCrash_166 ?_
        refine z_put (w2 := vMo ht cy (Mo_thrown St) (Mo_taped St) (Mo_size St) (Mo_at St) (Mo_end St) (Mo_token St) (Mo_whole St) (Mo_nameSize St) (Mo_fault St) (Mo_place St) (Mo_trouble St) (Mo_failed St) (Mo_hasStore St) (Mo_undos St) (Mo_images St) (Mo_ring St) (Mo_refused St) (Mo_setMany St) (Mo_someOf St) (Mo_allOf St) (Mo_firstRest St) ((Mo_allWeight St) + v4) (Mo_seenWeight St) (Mo_sumWeight St) ++ (wAI (fun _ => ht 3) cy 140 St_r ++ (wAI (fun _ => ht 9) cy 325 St_st ++ (wAI (fun _ => ht 10) cy 325 q4)))) hx hb hts in_X10 tyX10 tyX10_ok nmX10 hown hK hP hD hS 0 rfl rfl 38 (by decide) (hts _ q6_83) (fun _ h9 => h9) rfl rfl rfl (Nat.le_of_ble_eq_true rfl) dX10_tryCrash_167 rfl (fun H locs hP hD hS => ?_)
        refine lv_aload_n hx hb dX10_tryCrash_170 rfl (lv_at hl 0 rfl) ?_
        refine lv_dup hx hb dX10_tryCrash_171 rfl ?_
        refine va_get (D := D) (ci := 6) (v := .long (Mo_seenWeight St)) (C := RX10) (T := TX10) (N := 41) hx hb hts in_X10 hown hK hP 0 rfl rfl 39 (by decide) (hts _ q6_84) (fun _ h9 => h9) rfl dX10_tryCrash_172 ?_
        refine lv_iload_n hx hb dX10_tryCrash_175 rfl (lv_at hl 1 rfl) ?_
        refine z_if_lt (tgt := 198) hx hb dX10_tryCrash_176 (by decide) hf (fun hf => ?_) (fun hf => ?_)
        · refine lv_lconst (v := (0 : Int64)) hx hb dX10_tryCrash_198 (by decide) ?_
          rw [← wMo_mk ht] at hP hD
          exact w_X10_tryCrash_199 l ht St_r St_st x1 x2 C K17 (mkMo (Mo_thrown St) (Mo_taped St) (Mo_size St) (Mo_at St) (Mo_end St) (Mo_token St) (Mo_whole St) (Mo_nameSize St) (Mo_fault St) (Mo_place St) (Mo_trouble St) (Mo_failed St) (Mo_hasStore St) (Mo_undos St) (Mo_images St) (Mo_ring St) (Mo_refused St) (Mo_setMany St) (Mo_someOf St) (Mo_allOf St) (Mo_firstRest St) ((Mo_allWeight St) + v4) (Mo_seenWeight St) (Mo_sumWeight St)) q4 v3 v4 (Mo_seenWeight St) (0 : Int64) H locs ls hf hP hD hS (lv_sub hl [0, 1, 2, 3, 4] rfl)
        · refine lv_aload_n hx hb dX10_tryCrash_179 rfl (lv_at hl 0 rfl) ?_
          refine lv_aload_n hx hb dX10_tryCrash_180 rfl (lv_at hl 0 rfl) ?_
          refine va_get (D := D) (ci := 6) (v := .ref (ht 10)) (C := RX10) (T := TX10) (N := 41) hx hb hts in_X10 hown hK hP 0 rfl rfl 22 (by decide) (hts _ q6_67) (fun _ h9 => h9) rfl dX10_tryCrash_181 ?_
          refine lv_iconst (v := (-1 : Int32)) hx hb dX10_tryCrash_184 (by decide) ?_
          refine lv_iload_n hx hb dX10_tryCrash_185 rfl (lv_at hl 1 rfl) ?_
          obtain ⟨q5, hc, hf⟩ := zbd hf
          rw [← wMo_mk ht] at hP hD
          refine z_cVi (As := [.ref (ht 10), .int (-1 : Int32), .int x1]) (rest := [.long (Mo_seenWeight St), .ref (ht 0)]) C (c_X10_valueOf l D cy ht (fun _ => ht 10) (mkMo (Mo_thrown St) (Mo_taped St) (Mo_size St) (Mo_at St) (Mo_end St) (Mo_token St) (Mo_whole St) (Mo_nameSize St) (Mo_fault St) (Mo_place St) (Mo_trouble St) (Mo_failed St) (Mo_hasStore St) (Mo_undos St) (Mo_images St) (Mo_ring St) (Mo_refused St) (Mo_setMany St) (Mo_someOf St) (Mo_allOf St) (Mo_firstRest St) ((Mo_allWeight St) + v4) (Mo_seenWeight St) (Mo_sumWeight St)) q4 (-1 : Int32) x1 q5 hc) gV_X10_X10_valueOf hd_X10_valueOf ⟨Nat.le_of_ble_eq_true rfl, Nat.le_of_ble_eq_true rfl⟩ ⟨Nat.le_refl _, Nat.le_refl _⟩ (va_recv hK hP (ci := 6) (q0 := 0) rfl rfl) hP hD hS (w2 := wMo ht cy (mkMo (Mo_thrown St) (Mo_taped St) (Mo_size St) (Mo_at St) (Mo_end St) (Mo_token St) (Mo_whole St) (Mo_nameSize St) (Mo_fault St) (Mo_place St) (Mo_trouble St) (Mo_failed St) (Mo_hasStore St) (Mo_undos St) (Mo_images St) (Mo_ring St) (Mo_refused St) (Mo_setMany St) (Mo_someOf St) (Mo_allOf St) (Mo_firstRest St) ((Mo_allWeight St) + v4) (Mo_seenWeight St) (Mo_sumWeight St)) ++ (wAI (fun _ => ht 3) cy 140 St_r ++ (wAI (fun _ => ht 9) cy 325 St_st ++ (wAI (fun _ => ht 10) cy 325 q4)))) [0, 3] [1, 2] [2, 0, 1, 3] rfl rfl rfl rfl rfl rfl (by decide) hl.1 (Nat.le_of_ble_eq_true rfl) dX10_tryCrash_186 (fun H locs hP hD hS => ?_)
          rw [wMo_mk ht] at hP hD
          refine lv_iload_n hx hb dX10_tryCrash_189 rfl (lv_at hl 2 rfl) ?_
          refine z_icmp_ne (tgt := 198) hx hb dX10_tryCrash_190 (by decide) hf (fun hf => ?_) (fun hf => ?_)
          · refine lv_lconst (v := (0 : Int64)) hx hb dX10_tryCrash_198 (by decide) ?_
            rw [← wMo_mk ht] at hP hD
            exact w_X10_tryCrash_199 l ht St_r St_st x1 x2 C K17 (mkMo (Mo_thrown St) (Mo_taped St) (Mo_size St) (Mo_at St) (Mo_end St) (Mo_token St) (Mo_whole St) (Mo_nameSize St) (Mo_fault St) (Mo_place St) (Mo_trouble St) (Mo_failed St) (Mo_hasStore St) (Mo_undos St) (Mo_images St) (Mo_ring St) (Mo_refused St) (Mo_setMany St) (Mo_someOf St) (Mo_allOf St) (Mo_firstRest St) ((Mo_allWeight St) + v4) (Mo_seenWeight St) (Mo_sumWeight St)) q4 v3 v4 (Mo_seenWeight St) (0 : Int64) H locs ls hf hP hD hS (lv_sub hl [0, 1, 2, 3, 4] rfl)
          · refine lv_lload hx hb dX10_tryCrash_193 (lv_at hl 4 rfl) ?_
            refine lv_goto (tgt := 199) hx hb dX10_tryCrash_195 (by decide) ?_
            rw [← wMo_mk ht] at hP hD
            exact w_X10_tryCrash_199 l ht St_r St_st x1 x2 C K17 (mkMo (Mo_thrown St) (Mo_taped St) (Mo_size St) (Mo_at St) (Mo_end St) (Mo_token St) (Mo_whole St) (Mo_nameSize St) (Mo_fault St) (Mo_place St) (Mo_trouble St) (Mo_failed St) (Mo_hasStore St) (Mo_undos St) (Mo_images St) (Mo_ring St) (Mo_refused St) (Mo_setMany St) (Mo_someOf St) (Mo_allOf St) (Mo_firstRest St) ((Mo_allWeight St) + v4) (Mo_seenWeight St) (Mo_sumWeight St)) q4 v3 v4 (Mo_seenWeight St) v4 H locs ls hf hP hD hS (lv_sub hl [0, 1, 2, 3, 4] rfl)
      · refine lv_goto (tgt := 225) hx hb dX10_tryCrash_151 (by decide) ?_
        refine lv_iinc (v := (v3 + (1 : Int32))) (lv' := [(3, .int (v3 + (1 : Int32))), (0, .ref (ht 0)), (1, .int x1), (2, .int x2), (4, .long v4), (6, .int v6), (7, .int v7)]) hx hb dX10_tryCrash_225 hl (k := 3) rfl rfl (by decide) rfl (fun ls hl => ?_)
        refine lv_goto (tgt := 17) hx hb dX10_tryCrash_228 (by decide) ?_
        exact K17 St St_trial (v3 + (1 : Int32)) H locs ls hf hP hD hS (lv_sub hl [1, 2, 3, 0] rfl)
    · refine lv_aload_n hx hb dX10_tryCrash_39 rfl (lv_at hl 0 rfl) ?_
      refine lv_aload_n hx hb dX10_tryCrash_40 rfl (lv_at hl 0 rfl) ?_
      refine va_get (D := D) (ci := 6) (v := .ref (ht 9)) (C := RX10) (T := TX10) (N := 41) hx hb hts in_X10 hown hK hP 0 rfl rfl 21 (by decide) (hts _ q6_66) (fun _ h9 => h9) rfl dX10_tryCrash_41 ?_
      refine lv_iload hx hb dX10_tryCrash_44 (lv_at hl 6 rfl) ?_
      obtain ⟨q6, hc, hf⟩ := zbd hf
      refine z_cVi (As := [.ref (ht 9), .int v7]) (rest := []) C (c_X10_doesRun l D cy ht (fun _ => ht 9) St_st v7 q6 hc) gV_X10_X10_doesRun hd_X10_doesRun ⟨Nat.le_of_ble_eq_true rfl, Nat.le_of_ble_eq_true rfl⟩ ⟨Nat.le_refl _, Nat.le_refl _⟩ (va_recv hK hP (ci := 6) (q0 := 0) rfl rfl) hP hD hS (w2 := wMo ht cy St ++ (wAI (fun _ => ht 3) cy 140 St_r ++ (wAI (fun _ => ht 9) cy 325 St_st ++ (wAI (fun _ => ht 10) cy 325 St_trial)))) [2] [0, 1, 3] [0, 1, 3, 2] rfl rfl rfl rfl rfl rfl (by decide) hl.1 (Nat.le_of_ble_eq_true rfl) dX10_tryCrash_46 (fun H locs hP hD hS => ?_)
      refine z_if_eq (tgt := 72) hx hb dX10_tryCrash_49 (by decide) hf (fun hf => ?_) (fun hf => ?_)
      · refine lv_iconst (v := (0 : Int32)) hx hb dX10_tryCrash_72 (by decide) ?_
        exact w_X10_tryCrash_73 l ht St_r St_st x1 x2 C K17 K32 St St_trial v3 v4 v6 v7 (0 : Int32) H locs ls hf hP hD hS (lv_sub hl [0, 1, 2, 3, 4, 5, 6] rfl)
      · refine lv_aload_n hx hb dX10_tryCrash_52 rfl (lv_at hl 0 rfl) ?_
        refine va_get (D := D) (ci := 6) (v := .ref (ht 9)) (C := RX10) (T := TX10) (N := 41) hx hb hts in_X10 hown hK hP 0 rfl rfl 21 (by decide) (hts _ q6_66) (fun _ h9 => h9) rfl dX10_tryCrash_53 ?_
        refine lv_sipush (v := (310 : Int32)) hx hb dX10_tryCrash_56 (by decide) ?_
        refine z_iald (f := St_st) hx hb hK hP 2 0 rfl rfl dX10_tryCrash_59 hf (fun hf => ?_)
        refine lv_iload hx hb dX10_tryCrash_60 (lv_at hl 6 rfl) ?_
        obtain ⟨q7, hc, hf⟩ := zbd hf
        refine z_cSiE (As := [.int (St_st (310 : Int32).toNatClampNeg), .int v7]) (rest := []) C (c_X10_hasBit l D cy (St_st (310 : Int32).toNatClampNeg) v7 q7 hc) gS_X10_X10_hasBit hd_X10_hasBit ⟨Nat.le_of_ble_eq_true rfl, Nat.le_of_ble_eq_true rfl⟩ ⟨Nat.le_refl _, Nat.le_refl _⟩ hP hD hS hl.1 (Nat.le_of_ble_eq_true rfl) dX10_tryCrash_62 (fun H locs hP hD hS => ?_)
        refine z_if_ne (tgt := 72) hx hb dX10_tryCrash_65 (by decide) hf (fun hf => ?_) (fun hf => ?_)
        · refine lv_iconst (v := (0 : Int32)) hx hb dX10_tryCrash_72 (by decide) ?_
          exact w_X10_tryCrash_73 l ht St_r St_st x1 x2 C K17 K32 St St_trial v3 v4 v6 v7 (0 : Int32) H locs ls hf hP hD hS (lv_sub hl [0, 1, 2, 3, 4, 5, 6] rfl)
        · refine lv_iconst (v := (1 : Int32)) hx hb dX10_tryCrash_68 (by decide) ?_
          refine lv_goto (tgt := 73) hx hb dX10_tryCrash_69 (by decide) ?_
          exact w_X10_tryCrash_73 l ht St_r St_st x1 x2 C K17 K32 St St_trial v3 v4 v6 v7 (1 : Int32) H locs ls hf hP hD hS (lv_sub hl [0, 1, 2, 3, 4, 5, 6] rfl)
def b_X10_tryCrash_17 (St_r : Nat → Int32) (St_st : Nat → Int32) (x1 : Int32) (x2 : Int32) (k17 : SMo → (Nat → Int32) → Int32 → Option (SMo × (Nat → Int32))) (St : SMo) (St_trial : Nat → Int32) (v3 : Int32) : Option (SMo × (Nat → Int32)) :=
  (if (64 : Int32) ≤ v3 then
    some (St, St_trial)
    else
    (zl6 (b_X10_tryCrash_32 St_r St_st x1 x2 k17) FU St St_trial v3 (1 : Int64) (1 : Int32) (0 : Int32)))
set_option maxHeartbeats 4000000 in
set_option maxRecDepth 100000 in
theorem w_X10_tryCrash_17 {p : Program} {e : Env} {s : State} {m : MethodId} {below : List Frame} {meth : Method} {c : Code} {A : Nat → Prop} {D : va_G} {cy : Nat → ClassId} {args : Array Value} {r : SMo × (Nat → Int32)} (l : Launch) (ht : Nat → Nat) (St_r : Nat → Int32) (St_st : Nat → Int32) (x1 : Int32) (x2 : Int32) (C : zX p s m meth c cX10_tryCrash 9 args RX10 none A D (zty cy)) :
    ∀ (n : Nat) (St : SMo) (St_trial : Nat → Int32) (v3 : Int32) (H : Heap) (locs : List Loc) (ls : Array Slot), zl3 (b_X10_tryCrash_17 St_r St_st x1 x2) n St St_trial v3 = some r → va_P D vwCl (wMo ht cy St ++ (wAI (fun _ => ht 3) cy 140 St_r ++ (wAI (fun _ => ht 9) cy 325 St_st ++ (wAI (fun _ => ht 10) cy 325 St_trial)))) H → va_D A (wMo ht cy St ++ (wAI (fun _ => ht 3) cy 140 St_r ++ (wAI (fun _ => ht 9) cy 325 St_st ++ (wAI (fun _ => ht 10) cy 325 St_trial)))) → va_S A s.heap H locs → lv_has ls 9 [(0, .ref (ht 0)), (1, .int x1), (2, .int x2), (3, .int v3)] → W p l e (zRm 7 168) s m args below meth c H locs 0 0 (MQ below (zQV D (zty cy) A (wMo ht cy r.1 ++ (wAI (fun _ => ht 3) cy 140 St_r ++ (wAI (fun _ => ht 9) cy 325 St_st ++ (wAI (fun _ => ht 10) cy 325 r.2))))) args s 0 0 A) (F0 m 17 ls []) := by
  obtain ⟨hx, hb, hr, hts, hown, hlocks, hml, hA, hK⟩ := id C
  intro n
  induction n with
  | zero => intro St St_trial v3 H locs ls hf; exact zno hf
  | succ n ih =>
    intro St St_trial v3 H locs ls hf hP hD hS hl
    have hf : b_X10_tryCrash_17 St_r St_st x1 x2 (zl3 (b_X10_tryCrash_17 St_r St_st x1 x2) n) St St_trial v3 = some r := hf
    have K17 := ih
    refine lv_iload_n hx hb dX10_tryCrash_17 rfl (lv_at hl 3 rfl) ?_
    refine lv_bipush (v := (64 : Int32)) hx hb dX10_tryCrash_18 (by decide) ?_
    refine z_icmp_ge (tgt := 231) hx hb dX10_tryCrash_20 (by decide) hf (fun hf => ?_) (fun hf => ?_)
    · obtain rfl := Option.some.inj hf
      exact z_vret C hP hD hS dX10_tryCrash_231
    · refine lv_lconst (v := (1 : Int64)) hx hb dX10_tryCrash_23 (by decide) ?_
      refine lv_lstore (lv' := [(4, .long (1 : Int64)), (0, .ref (ht 0)), (1, .int x1), (2, .int x2), (3, .int v3)]) hx hb dX10_tryCrash_24 hl (by decide) rfl (fun ls hl => ?_)
      refine lv_iconst (v := (1 : Int32)) hx hb dX10_tryCrash_26 (by decide) ?_
      refine lv_istore (lv' := [(6, .int (1 : Int32)), (4, .long (1 : Int64)), (0, .ref (ht 0)), (1, .int x1), (2, .int x2), (3, .int v3)]) hx hb dX10_tryCrash_27 hl (by decide) rfl (fun ls hl => ?_)
      refine lv_iconst (v := (0 : Int32)) hx hb dX10_tryCrash_29 (by decide) ?_
      refine lv_istore (lv' := [(7, .int (0 : Int32)), (6, .int (1 : Int32)), (4, .long (1 : Int64)), (0, .ref (ht 0)), (1, .int x1), (2, .int x2), (3, .int v3)]) hx hb dX10_tryCrash_30 hl (by decide) rfl (fun ls hl => ?_)
      exact w_X10_tryCrash_32 l ht St_r St_st x1 x2 C K17 FU St St_trial v3 (1 : Int64) (1 : Int32) (0 : Int32) H locs ls hf hP hD hS (lv_sub hl [3, 4, 5, 6, 2, 1, 0] rfl)
def f_X10_tryCrash (St : SMo) (St_r : Nat → Int32) (St_st : Nat → Int32) (St_trial : Nat → Int32) (x1 : Int32) (x2 : Int32) : Option (SMo × (Nat → Int32)) :=
  (zl3 (b_X10_tryCrash_17 St_r St_st x1 x2) FU (mkMo (Mo_thrown St) (Mo_taped St) (Mo_size St) (Mo_at St) (Mo_end St) (Mo_token St) (Mo_whole St) (Mo_nameSize St) (Mo_fault St) (Mo_place St) (Mo_trouble St) (Mo_failed St) (Mo_hasStore St) (Mo_undos St) (Mo_images St) (Mo_ring St) (Mo_refused St) (Mo_setMany St) (Mo_someOf St) (Mo_allOf St) (Mo_firstRest St) (0 : Int64) (0 : Int64) (0 : Int64)) St_trial (0 : Int32))
set_option maxHeartbeats 4000000 in
set_option maxRecDepth 100000 in
theorem c_X10_tryCrash (l : Launch) (D : va_G) (cy : Nat → ClassId) (ht : Nat → Nat) (St : SMo) (St_r : Nat → Int32) (St_st : Nat → Int32) (St_trial : Nat → Int32) (x1 : Int32) (x2 : Int32) (r : SMo × (Nat → Int32)) (hf : f_X10_tryCrash St St_r St_st St_trial x1 x2 = some r) : zCV l yX10_tryCrash cX10_tryCrash 9 none 7 168 D (zty cy) [.ref (ht 0), .int x1, .int x2] (wMo ht cy St ++ (wAI (fun _ => ht 3) cy 140 St_r ++ (wAI (fun _ => ht 9) cy 325 St_st ++ (wAI (fun _ => ht 10) cy 325 St_trial)))) (wMo ht cy r.1 ++ (wAI (fun _ => ht 3) cy 140 St_r ++ (wAI (fun _ => ht 9) cy 325 St_st ++ (wAI (fun _ => ht 10) cy 325 r.2)))) := by
  refine zCV_of (by decide +kernel) (Nat.le_of_ble_eq_true rfl) ?_
  intro p e s m below meth c A ls C hP hD hS hl
  generalize hargs : ([.ref (ht 0), .int x1, .int x2] : List Value).toArray = args at C ⊢
  have C : zX p s m meth c cX10_tryCrash 9 args RX10 none A D (zty cy) := C
  obtain ⟨hx, hb, hr, hts, hown, hlocks, hml, hA, hK⟩ := id C
  have hl : lv_has ls 9 [(0, .ref (ht 0)), (1, .int x1), (2, .int x2)] := hl
  generalize hH : s.heap = H at hP ⊢
  have hS : va_S A s.heap H [] := by rw [← hH]; exact hS
  generalize ([] : List Loc) = locs at hS ⊢
  refine lv_aload_n hx hb dX10_tryCrash_0 rfl (lv_at hl 0 rfl) ?_
  refine lv_lconst (v := (0 : Int64)) hx hb dX10_tryCrash_1 (by decide) ?_
  refine z_put (w2 := vMo ht cy (Mo_thrown St) (Mo_taped St) (Mo_size St) (Mo_at St) (Mo_end St) (Mo_token St) (Mo_whole St) (Mo_nameSize St) (Mo_fault St) (Mo_place St) (Mo_trouble St) (Mo_failed St) (Mo_hasStore St) (Mo_undos St) (Mo_images St) (Mo_ring St) (Mo_refused St) (Mo_setMany St) (Mo_someOf St) (Mo_allOf St) (Mo_firstRest St) (0 : Int64) (Mo_seenWeight St) (Mo_sumWeight St) ++ (wAI (fun _ => ht 3) cy 140 St_r ++ (wAI (fun _ => ht 9) cy 325 St_st ++ (wAI (fun _ => ht 10) cy 325 St_trial)))) hx hb hts in_X10 tyX10 tyX10_ok nmX10 hown hK hP hD hS 0 rfl rfl 38 (by decide) (hts _ q6_83) (fun _ h9 => h9) rfl rfl rfl (Nat.le_of_ble_eq_true rfl) dX10_tryCrash_2 rfl (fun H locs hP hD hS => ?_)
  refine lv_aload_n hx hb dX10_tryCrash_5 rfl (lv_at hl 0 rfl) ?_
  refine lv_lconst (v := (0 : Int64)) hx hb dX10_tryCrash_6 (by decide) ?_
  refine z_put (w2 := vMo ht cy (Mo_thrown St) (Mo_taped St) (Mo_size St) (Mo_at St) (Mo_end St) (Mo_token St) (Mo_whole St) (Mo_nameSize St) (Mo_fault St) (Mo_place St) (Mo_trouble St) (Mo_failed St) (Mo_hasStore St) (Mo_undos St) (Mo_images St) (Mo_ring St) (Mo_refused St) (Mo_setMany St) (Mo_someOf St) (Mo_allOf St) (Mo_firstRest St) (0 : Int64) (0 : Int64) (Mo_sumWeight St) ++ (wAI (fun _ => ht 3) cy 140 St_r ++ (wAI (fun _ => ht 9) cy 325 St_st ++ (wAI (fun _ => ht 10) cy 325 St_trial)))) hx hb hts in_X10 tyX10 tyX10_ok nmX10 hown hK hP hD hS 0 rfl rfl 39 (by decide) (hts _ q6_84) (fun _ h9 => h9) rfl rfl rfl (Nat.le_of_ble_eq_true rfl) dX10_tryCrash_7 rfl (fun H locs hP hD hS => ?_)
  refine lv_aload_n hx hb dX10_tryCrash_10 rfl (lv_at hl 0 rfl) ?_
  refine lv_lconst (v := (0 : Int64)) hx hb dX10_tryCrash_11 (by decide) ?_
  refine z_put (w2 := vMo ht cy (Mo_thrown St) (Mo_taped St) (Mo_size St) (Mo_at St) (Mo_end St) (Mo_token St) (Mo_whole St) (Mo_nameSize St) (Mo_fault St) (Mo_place St) (Mo_trouble St) (Mo_failed St) (Mo_hasStore St) (Mo_undos St) (Mo_images St) (Mo_ring St) (Mo_refused St) (Mo_setMany St) (Mo_someOf St) (Mo_allOf St) (Mo_firstRest St) (0 : Int64) (0 : Int64) (0 : Int64) ++ (wAI (fun _ => ht 3) cy 140 St_r ++ (wAI (fun _ => ht 9) cy 325 St_st ++ (wAI (fun _ => ht 10) cy 325 St_trial)))) hx hb hts in_X10 tyX10 tyX10_ok nmX10 hown hK hP hD hS 0 rfl rfl 40 (by decide) (hts _ q6_85) (fun _ h9 => h9) rfl rfl rfl (Nat.le_of_ble_eq_true rfl) dX10_tryCrash_12 rfl (fun H locs hP hD hS => ?_)
  refine lv_iconst (v := (0 : Int32)) hx hb dX10_tryCrash_15 (by decide) ?_
  refine lv_istore_n (lv' := [(3, .int (0 : Int32)), (0, .ref (ht 0)), (1, .int x1), (2, .int x2)]) hx hb dX10_tryCrash_16 rfl hl (by decide) rfl (fun ls hl => ?_)
  rw [← wMo_mk ht] at hP hD
  exact w_X10_tryCrash_17 l ht St_r St_st x1 x2 C FU (mkMo (Mo_thrown St) (Mo_taped St) (Mo_size St) (Mo_at St) (Mo_end St) (Mo_token St) (Mo_whole St) (Mo_nameSize St) (Mo_fault St) (Mo_place St) (Mo_trouble St) (Mo_failed St) (Mo_hasStore St) (Mo_undos St) (Mo_images St) (Mo_ring St) (Mo_refused St) (Mo_setMany St) (Mo_someOf St) (Mo_allOf St) (Mo_firstRest St) (0 : Int64) (0 : Int64) (0 : Int64)) St_trial (0 : Int32) H locs ls hf hP hD hS (lv_sub hl [1, 2, 3, 0] rfl)
def f_X10_odds (St : SMo) (St_r : Nat → Int32) (St_st : Nat → Int32) (St_trial : Nat → Int32) (x1 : Int32) (x2 : Int32) (x3 : Int32) : Option (Int64 × SMo × (Nat → Int32)) :=
  (f_X10_anew St).bind (fun q1 =>
    (f_X10_isRow q1 St_r x1).bind (fun q2 =>
      (f_X10_in x2 (0 : Int32) (999 : Int32)).bind (fun q3 =>
        (f_X10_why q2 q3).bind (fun q4 =>
          (if q4 = 0 then
            (f_X10_tryCrash q1 St_r St_st St_trial x1 x2).bind (fun q5 =>
              (f_X10_lowest (Mo_seenWeight q5.1) (Mo_allWeight q5.1) x3).bind (fun q6 =>
                some (q6, q5.1, q5.2)))
            else
            (f_X10_no q1 q4).bind (fun q7 =>
              some (((q7.1).toInt64), q7.2, St_trial)))))))
set_option maxHeartbeats 4000000 in
set_option maxRecDepth 100000 in
theorem c_X10_odds (l : Launch) (D : va_G) (cy : Nat → ClassId) (ht : Nat → Nat) (St : SMo) (St_r : Nat → Int32) (St_st : Nat → Int32) (St_trial : Nat → Int32) (x1 : Int32) (x2 : Int32) (x3 : Int32) (r : Int64 × SMo × (Nat → Int32)) (hf : f_X10_odds St St_r St_st St_trial x1 x2 x3 = some r) : zCL l yX10_odds cX10_odds 5 (some FieldType.long) 8 196 D (zty cy) [.ref (ht 0), .int x1, .int x2, .int x3] (wMo ht cy St ++ (wAI (fun _ => ht 3) cy 140 St_r ++ (wAI (fun _ => ht 9) cy 325 St_st ++ (wAI (fun _ => ht 10) cy 325 St_trial)))) (wMo ht cy r.2.1 ++ (wAI (fun _ => ht 3) cy 140 St_r ++ (wAI (fun _ => ht 9) cy 325 St_st ++ (wAI (fun _ => ht 10) cy 325 r.2.2)))) r.1 := by
  refine zCL_of (by decide +kernel) (Nat.le_of_ble_eq_true rfl) ?_
  intro p e s m below meth c A ls C hP hD hS hl
  generalize hargs : ([.ref (ht 0), .int x1, .int x2, .int x3] : List Value).toArray = args at C ⊢
  have C : zX p s m meth c cX10_odds 5 args RX10 (some FieldType.long) A D (zty cy) := C
  obtain ⟨hx, hb, hr, hts, hown, hlocks, hml, hA, hK⟩ := id C
  have hl : lv_has ls 5 [(0, .ref (ht 0)), (1, .int x1), (2, .int x2), (3, .int x3)] := hl
  generalize hH : s.heap = H at hP ⊢
  have hS : va_S A s.heap H [] := by rw [← hH]; exact hS
  generalize ([] : List Loc) = locs at hS ⊢
  refine lv_aload_n hx hb dX10_odds_0 rfl (lv_at hl 0 rfl) ?_
  obtain ⟨q1, hc, hf⟩ := zbd hf
  refine z_cVv (As := []) (rest := []) C (c_X10_anew l D cy ht St q1 hc) gV_X10_X10_anew hd_X10_anew ⟨Nat.le_of_ble_eq_true rfl, Nat.le_of_ble_eq_true rfl⟩ ⟨Nat.le_refl _, Nat.le_refl _⟩ (va_recv hK hP (ci := 6) (q0 := 0) rfl rfl) hP hD hS (w2 := wMo ht cy q1 ++ (wAI (fun _ => ht 3) cy 140 St_r ++ (wAI (fun _ => ht 9) cy 325 St_st ++ (wAI (fun _ => ht 10) cy 325 St_trial)))) [0] [1, 2, 3] [3, 0, 1, 2] rfl rfl rfl rfl rfl rfl (by decide) hl.1 (Nat.le_of_ble_eq_true rfl) dX10_odds_1 (fun H locs hP hD hS => ?_)
  refine lv_aload_n hx hb dX10_odds_4 rfl (lv_at hl 0 rfl) ?_
  refine lv_aload_n hx hb dX10_odds_5 rfl (lv_at hl 0 rfl) ?_
  refine lv_iload_n hx hb dX10_odds_6 rfl (lv_at hl 1 rfl) ?_
  obtain ⟨q2, hc, hf⟩ := zbd hf
  refine z_cVi (As := [.int x1]) (rest := [.ref (ht 0)]) C (c_X10_isRow l D cy ht q1 St_r x1 q2 hc) gV_X10_X10_isRow hd_X10_isRow ⟨Nat.le_of_ble_eq_true rfl, Nat.le_of_ble_eq_true rfl⟩ ⟨Nat.le_refl _, Nat.le_refl _⟩ (va_recv hK hP (ci := 6) (q0 := 0) rfl rfl) hP hD hS (w2 := wMo ht cy q1 ++ (wAI (fun _ => ht 3) cy 140 St_r ++ (wAI (fun _ => ht 9) cy 325 St_st ++ (wAI (fun _ => ht 10) cy 325 St_trial)))) [0, 1] [2, 3] [2, 3, 0, 1] rfl rfl rfl rfl rfl rfl (by decide) hl.1 (Nat.le_of_ble_eq_true rfl) dX10_odds_7 (fun H locs hP hD hS => ?_)
  refine lv_iload_n hx hb dX10_odds_10 rfl (lv_at hl 2 rfl) ?_
  refine lv_iconst (v := (0 : Int32)) hx hb dX10_odds_11 (by decide) ?_
  refine lv_sipush (v := (999 : Int32)) hx hb dX10_odds_12 (by decide) ?_
  obtain ⟨q3, hc, hf⟩ := zbd hf
  refine z_cSiE (As := [.int x2, .int (0 : Int32), .int (999 : Int32)]) (rest := [.int q2, .ref (ht 0)]) C (c_X10_in l D cy x2 (0 : Int32) (999 : Int32) q3 hc) gS_X10_X10_in hd_X10_in ⟨Nat.le_of_ble_eq_true rfl, Nat.le_of_ble_eq_true rfl⟩ ⟨Nat.le_refl _, Nat.le_refl _⟩ hP hD hS hl.1 (Nat.le_of_ble_eq_true rfl) dX10_odds_15 (fun H locs hP hD hS => ?_)
  obtain ⟨q4, hc, hf⟩ := zbd hf
  refine z_cVi (As := [.int q2, .int q3]) (rest := []) C (c_X10_why l D cy ht q2 q3 q4 hc) gV_X10_X10_why hd_X10_why ⟨Nat.le_of_ble_eq_true rfl, Nat.le_of_ble_eq_true rfl⟩ ⟨Nat.le_refl _, Nat.le_refl _⟩ (va_recv hK hP (ci := 6) (q0 := 0) rfl rfl) hP hD hS (w2 := wMo ht cy q1 ++ (wAI (fun _ => ht 3) cy 140 St_r ++ (wAI (fun _ => ht 9) cy 325 St_st ++ (wAI (fun _ => ht 10) cy 325 St_trial)))) [] [0, 1, 2, 3] [0, 1, 2, 3] rfl rfl rfl rfl rfl rfl (by decide) hl.1 (Nat.le_of_ble_eq_true rfl) dX10_odds_18 (fun H locs hP hD hS => ?_)
  refine lv_istore (lv' := [(4, .int q4), (0, .ref (ht 0)), (1, .int x1), (2, .int x2), (3, .int x3)]) hx hb dX10_odds_21 hl (by decide) rfl (fun ls hl => ?_)
  refine lv_iload hx hb dX10_odds_23 (lv_at hl 0 rfl) ?_
  refine z_if_eq (tgt := 36) hx hb dX10_odds_25 (by decide) hf (fun hf => ?_) (fun hf => ?_)
  · refine lv_aload_n hx hb dX10_odds_36 rfl (lv_at hl 1 rfl) ?_
    refine lv_iload_n hx hb dX10_odds_37 rfl (lv_at hl 2 rfl) ?_
    refine lv_iload_n hx hb dX10_odds_38 rfl (lv_at hl 3 rfl) ?_
    obtain ⟨q5, hc, hf⟩ := zbd hf
    refine z_cVv0 (As := [.int x1, .int x2]) (rest := []) C (c_X10_tryCrash l D cy ht q1 St_r St_st St_trial x1 x2 q5 hc) gV_X10_X10_tryCrash hd_X10_tryCrash ⟨Nat.le_of_ble_eq_true rfl, Nat.le_of_ble_eq_true rfl⟩ ⟨Nat.le_refl _, Nat.le_refl _⟩ (va_recv hK hP (ci := 6) (q0 := 0) rfl rfl) hP hD hS hl.1 (Nat.le_of_ble_eq_true rfl) dX10_odds_39 (fun H locs hP hD hS => ?_)
    have hP : va_P D vwCl (wMo ht cy q5.1 ++ (wAI (fun _ => ht 3) cy 140 St_r ++ (wAI (fun _ => ht 9) cy 325 St_st ++ (wAI (fun _ => ht 10) cy 325 q5.2)))) H := hP
    have hD : va_D A (wMo ht cy q5.1 ++ (wAI (fun _ => ht 3) cy 140 St_r ++ (wAI (fun _ => ht 9) cy 325 St_st ++ (wAI (fun _ => ht 10) cy 325 q5.2)))) := hD
    refine lv_aload_n hx hb dX10_odds_42 rfl (lv_at hl 1 rfl) ?_
    refine va_get (D := D) (ci := 6) (v := .long (Mo_seenWeight q5.1)) (C := RX10) (T := TX10) (N := 41) hx hb hts in_X10 hown hK hP 0 rfl rfl 39 (by decide) (hts _ q6_84) (fun _ h9 => h9) rfl dX10_odds_43 ?_
    refine lv_aload_n hx hb dX10_odds_46 rfl (lv_at hl 1 rfl) ?_
    refine va_get (D := D) (ci := 6) (v := .long (Mo_allWeight q5.1)) (C := RX10) (T := TX10) (N := 41) hx hb hts in_X10 hown hK hP 0 rfl rfl 38 (by decide) (hts _ q6_83) (fun _ h9 => h9) rfl dX10_odds_47 ?_
    refine lv_iload_n hx hb dX10_odds_50 rfl (lv_at hl 4 rfl) ?_
    obtain ⟨q6, hc, hf⟩ := zbd hf
    refine z_cSlE (As := [.long (Mo_seenWeight q5.1), .long (Mo_allWeight q5.1), .int x3]) (rest := []) C (c_X10_lowest l D cy (Mo_seenWeight q5.1) (Mo_allWeight q5.1) x3 q6 hc) gS_X10_X10_lowest hd_X10_lowest ⟨Nat.le_of_ble_eq_true rfl, Nat.le_of_ble_eq_true rfl⟩ ⟨Nat.le_refl _, Nat.le_refl _⟩ hP hD hS hl.1 (Nat.le_of_ble_eq_true rfl) dX10_odds_51 (fun H locs hP hD hS => ?_)
    obtain rfl := Option.some.inj hf
    exact z_lret (v := q6) C hP hD hS dX10_odds_54
  · refine lv_aload_n hx hb dX10_odds_28 rfl (lv_at hl 1 rfl) ?_
    refine lv_iload hx hb dX10_odds_29 (lv_at hl 0 rfl) ?_
    obtain ⟨q7, hc, hf⟩ := zbd hf
    refine z_cVi (As := [.int q4]) (rest := []) C (c_X10_no l D cy ht q1 q4 q7 hc) gV_X10_X10_no hd_X10_no ⟨Nat.le_of_ble_eq_true rfl, Nat.le_of_ble_eq_true rfl⟩ ⟨Nat.le_refl _, Nat.le_refl _⟩ (va_recv hK hP (ci := 6) (q0 := 0) rfl rfl) hP hD hS (w2 := wMo ht cy q7.2 ++ (wAI (fun _ => ht 3) cy 140 St_r ++ (wAI (fun _ => ht 9) cy 325 St_st ++ (wAI (fun _ => ht 10) cy 325 St_trial)))) [0] [1, 2, 3] [3, 0, 1, 2] rfl rfl rfl rfl rfl rfl (by decide) hl.1 (Nat.le_of_ble_eq_true rfl) dX10_odds_31 (fun H locs hP hD hS => ?_)
    refine lv_i2l (v := (q7.1).toInt64) hx hb dX10_odds_34 rfl ?_
    obtain rfl := Option.some.inj hf
    exact z_lret (v := ((q7.1).toInt64)) C hP hD hS dX10_odds_35
def f_X10_mean (St : SMo) (St_r : Nat → Int32) (St_st : Nat → Int32) (St_trial : Nat → Int32) (x1 : Int32) : Option (Int64 × SMo × (Nat → Int32)) :=
  (f_X10_anew St).bind (fun q1 =>
    (if (Mo_hasStore q1) = 0 then
      (f_X10_no q1 (1 : Int32)).bind (fun q4 =>
        some (((q4.1).toInt64), q4.2, St_trial))
      else
      (f_X10_tryCrash q1 St_r St_st St_trial (-1 : Int32) (0 : Int32)).bind (fun q2 =>
        (f_X10_lowest (Mo_sumWeight q2.1) (Mo_allWeight q2.1) x1).bind (fun q3 =>
          some (q3, q2.1, q2.2)))))
set_option maxHeartbeats 4000000 in
set_option maxRecDepth 100000 in
theorem c_X10_mean (l : Launch) (D : va_G) (cy : Nat → ClassId) (ht : Nat → Nat) (St : SMo) (St_r : Nat → Int32) (St_st : Nat → Int32) (St_trial : Nat → Int32) (x1 : Int32) (r : Int64 × SMo × (Nat → Int32)) (hf : f_X10_mean St St_r St_st St_trial x1 = some r) : zCL l yX10_mean cX10_mean 2 (some FieldType.long) 8 196 D (zty cy) [.ref (ht 0), .int x1] (wMo ht cy St ++ (wAI (fun _ => ht 3) cy 140 St_r ++ (wAI (fun _ => ht 9) cy 325 St_st ++ (wAI (fun _ => ht 10) cy 325 St_trial)))) (wMo ht cy r.2.1 ++ (wAI (fun _ => ht 3) cy 140 St_r ++ (wAI (fun _ => ht 9) cy 325 St_st ++ (wAI (fun _ => ht 10) cy 325 r.2.2)))) r.1 := by
  refine zCL_of (by decide +kernel) (Nat.le_of_ble_eq_true rfl) ?_
  intro p e s m below meth c A ls C hP hD hS hl
  generalize hargs : ([.ref (ht 0), .int x1] : List Value).toArray = args at C ⊢
  have C : zX p s m meth c cX10_mean 2 args RX10 (some FieldType.long) A D (zty cy) := C
  obtain ⟨hx, hb, hr, hts, hown, hlocks, hml, hA, hK⟩ := id C
  have hl : lv_has ls 2 [(0, .ref (ht 0)), (1, .int x1)] := hl
  generalize hH : s.heap = H at hP ⊢
  have hS : va_S A s.heap H [] := by rw [← hH]; exact hS
  generalize ([] : List Loc) = locs at hS ⊢
  refine lv_aload_n hx hb dX10_mean_0 rfl (lv_at hl 0 rfl) ?_
  obtain ⟨q1, hc, hf⟩ := zbd hf
  refine z_cVv (As := []) (rest := []) C (c_X10_anew l D cy ht St q1 hc) gV_X10_X10_anew hd_X10_anew ⟨Nat.le_of_ble_eq_true rfl, Nat.le_of_ble_eq_true rfl⟩ ⟨Nat.le_refl _, Nat.le_refl _⟩ (va_recv hK hP (ci := 6) (q0 := 0) rfl rfl) hP hD hS (w2 := wMo ht cy q1 ++ (wAI (fun _ => ht 3) cy 140 St_r ++ (wAI (fun _ => ht 9) cy 325 St_st ++ (wAI (fun _ => ht 10) cy 325 St_trial)))) [0] [1, 2, 3] [3, 0, 1, 2] rfl rfl rfl rfl rfl rfl (by decide) hl.1 (Nat.le_of_ble_eq_true rfl) dX10_mean_1 (fun H locs hP hD hS => ?_)
  refine lv_aload_n hx hb dX10_mean_4 rfl (lv_at hl 0 rfl) ?_
  refine va_get (D := D) (ci := 6) (v := .int (Mo_hasStore q1)) (C := RX10) (T := TX10) (N := 41) hx hb hts in_X10 hown hK hP 0 rfl rfl 14 (by decide) (hts _ q6_59) (fun _ h9 => h9) rfl dX10_mean_5 ?_
  refine z_if_ne (tgt := 18) hx hb dX10_mean_8 (by decide) hf (fun hf => ?_) (fun hf => ?_)
  · refine lv_aload_n hx hb dX10_mean_18 rfl (lv_at hl 0 rfl) ?_
    refine lv_iconst (v := (-1 : Int32)) hx hb dX10_mean_19 (by decide) ?_
    refine lv_iconst (v := (0 : Int32)) hx hb dX10_mean_20 (by decide) ?_
    obtain ⟨q2, hc, hf⟩ := zbd hf
    refine z_cVv0 (As := [.int (-1 : Int32), .int (0 : Int32)]) (rest := []) C (c_X10_tryCrash l D cy ht q1 St_r St_st St_trial (-1 : Int32) (0 : Int32) q2 hc) gV_X10_X10_tryCrash hd_X10_tryCrash ⟨Nat.le_of_ble_eq_true rfl, Nat.le_of_ble_eq_true rfl⟩ ⟨Nat.le_refl _, Nat.le_refl _⟩ (va_recv hK hP (ci := 6) (q0 := 0) rfl rfl) hP hD hS hl.1 (Nat.le_of_ble_eq_true rfl) dX10_mean_21 (fun H locs hP hD hS => ?_)
    have hP : va_P D vwCl (wMo ht cy q2.1 ++ (wAI (fun _ => ht 3) cy 140 St_r ++ (wAI (fun _ => ht 9) cy 325 St_st ++ (wAI (fun _ => ht 10) cy 325 q2.2)))) H := hP
    have hD : va_D A (wMo ht cy q2.1 ++ (wAI (fun _ => ht 3) cy 140 St_r ++ (wAI (fun _ => ht 9) cy 325 St_st ++ (wAI (fun _ => ht 10) cy 325 q2.2)))) := hD
    refine lv_aload_n hx hb dX10_mean_24 rfl (lv_at hl 0 rfl) ?_
    refine va_get (D := D) (ci := 6) (v := .long (Mo_sumWeight q2.1)) (C := RX10) (T := TX10) (N := 41) hx hb hts in_X10 hown hK hP 0 rfl rfl 40 (by decide) (hts _ q6_85) (fun _ h9 => h9) rfl dX10_mean_25 ?_
    refine lv_aload_n hx hb dX10_mean_28 rfl (lv_at hl 0 rfl) ?_
    refine va_get (D := D) (ci := 6) (v := .long (Mo_allWeight q2.1)) (C := RX10) (T := TX10) (N := 41) hx hb hts in_X10 hown hK hP 0 rfl rfl 38 (by decide) (hts _ q6_83) (fun _ h9 => h9) rfl dX10_mean_29 ?_
    refine lv_iload_n hx hb dX10_mean_32 rfl (lv_at hl 1 rfl) ?_
    obtain ⟨q3, hc, hf⟩ := zbd hf
    refine z_cSlE (As := [.long (Mo_sumWeight q2.1), .long (Mo_allWeight q2.1), .int x1]) (rest := []) C (c_X10_lowest l D cy (Mo_sumWeight q2.1) (Mo_allWeight q2.1) x1 q3 hc) gS_X10_X10_lowest hd_X10_lowest ⟨Nat.le_of_ble_eq_true rfl, Nat.le_of_ble_eq_true rfl⟩ ⟨Nat.le_refl _, Nat.le_refl _⟩ hP hD hS hl.1 (Nat.le_of_ble_eq_true rfl) dX10_mean_33 (fun H locs hP hD hS => ?_)
    obtain rfl := Option.some.inj hf
    exact z_lret (v := q3) C hP hD hS dX10_mean_36
  · refine lv_aload_n hx hb dX10_mean_11 rfl (lv_at hl 0 rfl) ?_
    refine lv_iconst (v := (1 : Int32)) hx hb dX10_mean_12 (by decide) ?_
    obtain ⟨q4, hc, hf⟩ := zbd hf
    refine z_cVi (As := [.int (1 : Int32)]) (rest := []) C (c_X10_no l D cy ht q1 (1 : Int32) q4 hc) gV_X10_X10_no hd_X10_no ⟨Nat.le_of_ble_eq_true rfl, Nat.le_of_ble_eq_true rfl⟩ ⟨Nat.le_refl _, Nat.le_refl _⟩ (va_recv hK hP (ci := 6) (q0 := 0) rfl rfl) hP hD hS (w2 := wMo ht cy q4.2 ++ (wAI (fun _ => ht 3) cy 140 St_r ++ (wAI (fun _ => ht 9) cy 325 St_st ++ (wAI (fun _ => ht 10) cy 325 St_trial)))) [0] [1, 2, 3] [3, 0, 1, 2] rfl rfl rfl rfl rfl rfl (by decide) hl.1 (Nat.le_of_ble_eq_true rfl) dX10_mean_13 (fun H locs hP hD hS => ?_)
    refine lv_i2l (v := (q4.1).toInt64) hx hb dX10_mean_16 rfl ?_
    obtain rfl := Option.some.inj hf
    exact z_lret (v := ((q4.1).toInt64)) C hP hD hS dX10_mean_17
def b_X10_drawn_39 (St_r : Nat → Int32) (St_st : Nat → Int32) (x1 : Int32) (k39 : SMo → (Nat → Int32) → Int32 → Int32 → Int32 → Option (Int32 × SMo × (Nat → Int32))) (St : SMo) (St_trial : Nat → Int32) (v3 : Int32) (v4 : Int32) (v5 : Int32) : Option (Int32 × SMo × (Nat → Int32)) :=
  (if (6 : Int32) ≤ v5 then
    (f_X10_crashOn St St_st St_trial v4).bind (fun q1 =>
      (f_X10_sumOf St St_r q1 (-1 : Int32)).bind (fun q2 =>
        some (q2, St, q1)))
    else
    (f_X10_doesRun St_st v5).bind (fun q3 =>
      (if q3 = 0 then
        (k39 St St_trial v3 v4 (v5 + (1 : Int32)))
        else
        (if zib (3 : Int32) 140 then (if (St_r (3 : Int32).toNatClampNeg) ≤ (((((75 : Int32) * v3) + (74 : Int32)) - (((75 : Int32) * v3) + (74 : Int32)) / (65537 : Int32) * (65537 : Int32)) - ((((75 : Int32) * v3) + (74 : Int32)) - (((75 : Int32) * v3) + (74 : Int32)) / (65537 : Int32) * (65537 : Int32)) / (100 : Int32) * (100 : Int32)) then
            (k39 St St_trial ((((75 : Int32) * v3) + (74 : Int32)) - (((75 : Int32) * v3) + (74 : Int32)) / (65537 : Int32) * (65537 : Int32)) (v4 ||| (0 : Int32)) (v5 + (1 : Int32)))
            else
            (k39 St St_trial ((((75 : Int32) * v3) + (74 : Int32)) - (((75 : Int32) * v3) + (74 : Int32)) / (65537 : Int32) * (65537 : Int32)) (v4 ||| ((1 : Int32) <<< (v5 &&& 31))) (v5 + (1 : Int32)))) else none))))
set_option maxHeartbeats 4000000 in
set_option maxRecDepth 100000 in
theorem w_X10_drawn_39 {p : Program} {e : Env} {s : State} {m : MethodId} {below : List Frame} {meth : Method} {c : Code} {A : Nat → Prop} {D : va_G} {cy : Nat → ClassId} {args : Array Value} {r : Int32 × SMo × (Nat → Int32)} (l : Launch) (ht : Nat → Nat) (St_r : Nat → Int32) (St_st : Nat → Int32) (x1 : Int32) (C : zX p s m meth c cX10_drawn 6 args RX10 (some FieldType.int) A D (zty cy)) :
    ∀ (n : Nat) (St : SMo) (St_trial : Nat → Int32) (v3 : Int32) (v4 : Int32) (v5 : Int32) (H : Heap) (locs : List Loc) (ls : Array Slot), zl5 (b_X10_drawn_39 St_r St_st x1) n St St_trial v3 v4 v5 = some r → va_P D vwCl (wMo ht cy St ++ (wAI (fun _ => ht 3) cy 140 St_r ++ (wAI (fun _ => ht 9) cy 325 St_st ++ (wAI (fun _ => ht 10) cy 325 St_trial)))) H → va_D A (wMo ht cy St ++ (wAI (fun _ => ht 3) cy 140 St_r ++ (wAI (fun _ => ht 9) cy 325 St_st ++ (wAI (fun _ => ht 10) cy 325 St_trial)))) → va_S A s.heap H locs → lv_has ls 6 [(0, .ref (ht 0)), (3, .int v3), (4, .int v4), (5, .int v5)] → W p l e (zRm 7 168) s m args below meth c H locs 0 0 (MQ below (zQI D (zty cy) A (wMo ht cy r.2.1 ++ (wAI (fun _ => ht 3) cy 140 St_r ++ (wAI (fun _ => ht 9) cy 325 St_st ++ (wAI (fun _ => ht 10) cy 325 r.2.2)))) r.1) args s 0 0 A) (F0 m 39 ls []) := by
  obtain ⟨hx, hb, hr, hts, hown, hlocks, hml, hA, hK⟩ := id C
  intro n
  induction n with
  | zero => intro St St_trial v3 v4 v5 H locs ls hf; exact zno hf
  | succ n ih =>
    intro St St_trial v3 v4 v5 H locs ls hf hP hD hS hl
    have hf : b_X10_drawn_39 St_r St_st x1 (zl5 (b_X10_drawn_39 St_r St_st x1) n) St St_trial v3 v4 v5 = some r := hf
    have K39 := ih
    refine lv_iload hx hb dX10_drawn_39 (lv_at hl 3 rfl) ?_
    refine lv_bipush (v := (6 : Int32)) hx hb dX10_drawn_41 (by decide) ?_
    refine z_icmp_ge (tgt := 106) hx hb dX10_drawn_43 (by decide) hf (fun hf => ?_) (fun hf => ?_)
    · refine lv_aload_n hx hb dX10_drawn_106 rfl (lv_at hl 0 rfl) ?_
      refine lv_iload hx hb dX10_drawn_107 (lv_at hl 2 rfl) ?_
      obtain ⟨q1, hc, hf⟩ := zbd hf
      refine z_cVv (As := [.int v4]) (rest := []) C (c_X10_crashOn l D cy ht St St_st St_trial v4 q1 hc) gV_X10_X10_crashOn hd_X10_crashOn ⟨Nat.le_of_ble_eq_true rfl, Nat.le_of_ble_eq_true rfl⟩ ⟨Nat.le_refl _, Nat.le_refl _⟩ (va_recv hK hP (ci := 6) (q0 := 0) rfl rfl) hP hD hS (w2 := wMo ht cy St ++ (wAI (fun _ => ht 3) cy 140 St_r ++ (wAI (fun _ => ht 9) cy 325 St_st ++ (wAI (fun _ => ht 10) cy 325 q1)))) [0, 2, 3] [1] [1, 0, 2, 3] rfl rfl rfl rfl rfl rfl (by decide) hl.1 (Nat.le_of_ble_eq_true rfl) dX10_drawn_109 (fun H locs hP hD hS => ?_)
      refine lv_aload_n hx hb dX10_drawn_112 rfl (lv_at hl 0 rfl) ?_
      refine lv_aload_n hx hb dX10_drawn_113 rfl (lv_at hl 0 rfl) ?_
      refine va_get (D := D) (ci := 6) (v := .ref (ht 10)) (C := RX10) (T := TX10) (N := 41) hx hb hts in_X10 hown hK hP 0 rfl rfl 22 (by decide) (hts _ q6_67) (fun _ h9 => h9) rfl dX10_drawn_114 ?_
      refine lv_iconst (v := (-1 : Int32)) hx hb dX10_drawn_117 (by decide) ?_
      obtain ⟨q2, hc, hf⟩ := zbd hf
      refine z_cVi (As := [.ref (ht 10), .int (-1 : Int32)]) (rest := []) C (c_X10_sumOf l D cy ht (fun _ => ht 10) St St_r q1 (-1 : Int32) q2 hc) gV_X10_X10_sumOf hd_X10_sumOf ⟨Nat.le_of_ble_eq_true rfl, Nat.le_of_ble_eq_true rfl⟩ ⟨Nat.le_refl _, Nat.le_refl _⟩ (va_recv hK hP (ci := 6) (q0 := 0) rfl rfl) hP hD hS (w2 := wMo ht cy St ++ (wAI (fun _ => ht 3) cy 140 St_r ++ (wAI (fun _ => ht 9) cy 325 St_st ++ (wAI (fun _ => ht 10) cy 325 q1)))) [0, 1, 3] [2] [1, 2, 0, 3] rfl rfl rfl rfl rfl rfl (by decide) hl.1 (Nat.le_of_ble_eq_true rfl) dX10_drawn_118 (fun H locs hP hD hS => ?_)
      obtain rfl := Option.some.inj hf
      exact z_iret (v := q2) C hP hD hS dX10_drawn_121
    · refine lv_aload_n hx hb dX10_drawn_46 rfl (lv_at hl 0 rfl) ?_
      refine lv_aload_n hx hb dX10_drawn_47 rfl (lv_at hl 0 rfl) ?_
      refine va_get (D := D) (ci := 6) (v := .ref (ht 9)) (C := RX10) (T := TX10) (N := 41) hx hb hts in_X10 hown hK hP 0 rfl rfl 21 (by decide) (hts _ q6_66) (fun _ h9 => h9) rfl dX10_drawn_48 ?_
      refine lv_iload hx hb dX10_drawn_51 (lv_at hl 3 rfl) ?_
      obtain ⟨q3, hc, hf⟩ := zbd hf
      refine z_cVi (As := [.ref (ht 9), .int v5]) (rest := []) C (c_X10_doesRun l D cy ht (fun _ => ht 9) St_st v5 q3 hc) gV_X10_X10_doesRun hd_X10_doesRun ⟨Nat.le_of_ble_eq_true rfl, Nat.le_of_ble_eq_true rfl⟩ ⟨Nat.le_refl _, Nat.le_refl _⟩ (va_recv hK hP (ci := 6) (q0 := 0) rfl rfl) hP hD hS (w2 := wMo ht cy St ++ (wAI (fun _ => ht 3) cy 140 St_r ++ (wAI (fun _ => ht 9) cy 325 St_st ++ (wAI (fun _ => ht 10) cy 325 St_trial)))) [2] [0, 1, 3] [0, 1, 3, 2] rfl rfl rfl rfl rfl rfl (by decide) hl.1 (Nat.le_of_ble_eq_true rfl) dX10_drawn_53 (fun H locs hP hD hS => ?_)
      refine z_if_ne (tgt := 62) hx hb dX10_drawn_56 (by decide) hf (fun hf => ?_) (fun hf => ?_)
      · refine lv_bipush (v := (75 : Int32)) hx hb dX10_drawn_62 (by decide) ?_
        refine lv_iload_n hx hb dX10_drawn_64 rfl (lv_at hl 1 rfl) ?_
        refine lv_imul hx hb dX10_drawn_65 ?_
        refine lv_bipush (v := (74 : Int32)) hx hb dX10_drawn_66 (by decide) ?_
        refine lv_iadd hx hb dX10_drawn_68 ?_
        refine lv_ldcw (v := (65537 : Int32)) hx hb hown (hts _ q8_215) dX10_drawn_69 ?_
        refine lv_irem hx hb dX10_drawn_72 (by decide) ?_
        refine lv_istore_n (lv' := [(3, .int ((((75 : Int32) * v3) + (74 : Int32)) - (((75 : Int32) * v3) + (74 : Int32)) / (65537 : Int32) * (65537 : Int32))), (0, .ref (ht 0)), (4, .int v4), (5, .int v5)]) hx hb dX10_drawn_73 rfl hl (by decide) rfl (fun ls hl => ?_)
        refine lv_iload hx hb dX10_drawn_74 (lv_at hl 2 rfl) ?_
        refine lv_iload_n hx hb dX10_drawn_76 rfl (lv_at hl 0 rfl) ?_
        refine lv_bipush (v := (100 : Int32)) hx hb dX10_drawn_77 (by decide) ?_
        refine lv_irem hx hb dX10_drawn_79 (by decide) ?_
        refine lv_aload_n hx hb dX10_drawn_80 rfl (lv_at hl 1 rfl) ?_
        refine va_get (D := D) (ci := 6) (v := .ref (ht 3)) (C := RX10) (T := TX10) (N := 41) hx hb hts in_X10 hown hK hP 0 rfl rfl 15 (by decide) (hts _ q6_60) (fun _ h9 => h9) rfl dX10_drawn_81 ?_
        refine lv_iconst (v := (3 : Int32)) hx hb dX10_drawn_84 (by decide) ?_
        refine z_iald (f := St_r) hx hb hK hP 1 0 rfl rfl dX10_drawn_85 hf (fun hf => ?_)
        refine z_icmp_ge (tgt := 96) hx hb dX10_drawn_86 (by decide) hf (fun hf => ?_) (fun hf => ?_)
        · refine lv_iconst (v := (0 : Int32)) hx hb dX10_drawn_96 (by decide) ?_
          refine lv_ior hx hb dX10_drawn_97 ?_
          refine lv_istore (lv' := [(4, .int (v4 ||| (0 : Int32))), (3, .int ((((75 : Int32) * v3) + (74 : Int32)) - (((75 : Int32) * v3) + (74 : Int32)) / (65537 : Int32) * (65537 : Int32))), (0, .ref (ht 0)), (5, .int v5)]) hx hb dX10_drawn_98 hl (by decide) rfl (fun ls hl => ?_)
          refine lv_iinc (v := (v5 + (1 : Int32))) (lv' := [(5, .int (v5 + (1 : Int32))), (4, .int (v4 ||| (0 : Int32))), (3, .int ((((75 : Int32) * v3) + (74 : Int32)) - (((75 : Int32) * v3) + (74 : Int32)) / (65537 : Int32) * (65537 : Int32))), (0, .ref (ht 0))]) hx hb dX10_drawn_100 hl (k := 3) rfl rfl (by decide) rfl (fun ls hl => ?_)
          refine lv_goto (tgt := 39) hx hb dX10_drawn_103 (by decide) ?_
          exact K39 St St_trial ((((75 : Int32) * v3) + (74 : Int32)) - (((75 : Int32) * v3) + (74 : Int32)) / (65537 : Int32) * (65537 : Int32)) (v4 ||| (0 : Int32)) (v5 + (1 : Int32)) H locs ls hf hP hD hS (lv_sub hl [3, 2, 1, 0] rfl)
        · refine lv_iconst (v := (1 : Int32)) hx hb dX10_drawn_89 (by decide) ?_
          refine lv_iload hx hb dX10_drawn_90 (lv_at hl 3 rfl) ?_
          refine lv_ishl hx hb dX10_drawn_92 ?_
          refine lv_goto (tgt := 97) hx hb dX10_drawn_93 (by decide) ?_
          refine lv_ior hx hb dX10_drawn_97 ?_
          refine lv_istore (lv' := [(4, .int (v4 ||| ((1 : Int32) <<< (v5 &&& 31)))), (3, .int ((((75 : Int32) * v3) + (74 : Int32)) - (((75 : Int32) * v3) + (74 : Int32)) / (65537 : Int32) * (65537 : Int32))), (0, .ref (ht 0)), (5, .int v5)]) hx hb dX10_drawn_98 hl (by decide) rfl (fun ls hl => ?_)
          refine lv_iinc (v := (v5 + (1 : Int32))) (lv' := [(5, .int (v5 + (1 : Int32))), (4, .int (v4 ||| ((1 : Int32) <<< (v5 &&& 31)))), (3, .int ((((75 : Int32) * v3) + (74 : Int32)) - (((75 : Int32) * v3) + (74 : Int32)) / (65537 : Int32) * (65537 : Int32))), (0, .ref (ht 0))]) hx hb dX10_drawn_100 hl (k := 3) rfl rfl (by decide) rfl (fun ls hl => ?_)
          refine lv_goto (tgt := 39) hx hb dX10_drawn_103 (by decide) ?_
          exact K39 St St_trial ((((75 : Int32) * v3) + (74 : Int32)) - (((75 : Int32) * v3) + (74 : Int32)) / (65537 : Int32) * (65537 : Int32)) (v4 ||| ((1 : Int32) <<< (v5 &&& 31))) (v5 + (1 : Int32)) H locs ls hf hP hD hS (lv_sub hl [3, 2, 1, 0] rfl)
      · refine lv_goto (tgt := 100) hx hb dX10_drawn_59 (by decide) ?_
        refine lv_iinc (v := (v5 + (1 : Int32))) (lv' := [(5, .int (v5 + (1 : Int32))), (0, .ref (ht 0)), (3, .int v3), (4, .int v4)]) hx hb dX10_drawn_100 hl (k := 3) rfl rfl (by decide) rfl (fun ls hl => ?_)
        refine lv_goto (tgt := 39) hx hb dX10_drawn_103 (by decide) ?_
        exact K39 St St_trial v3 v4 (v5 + (1 : Int32)) H locs ls hf hP hD hS (lv_sub hl [1, 2, 3, 0] rfl)
def f_X10_drawn (St : SMo) (St_r : Nat → Int32) (St_st : Nat → Int32) (St_trial : Nat → Int32) (x1 : Int32) : Option (Int32 × SMo × (Nat → Int32)) :=
  (f_X10_anew St).bind (fun q4 =>
    (f_X10_in x1 (0 : Int32) (65536 : Int32)).bind (fun q5 =>
      (f_X10_why (Mo_hasStore q4) q5).bind (fun q6 =>
        (if q6 = 0 then
          (zl5 (b_X10_drawn_39 St_r St_st x1) FU q4 St_trial x1 (0 : Int32) (0 : Int32))
          else
          (f_X10_no q4 q6).bind (fun q7 =>
            some (q7.1, q7.2, St_trial))))))
set_option maxHeartbeats 4000000 in
set_option maxRecDepth 100000 in
theorem c_X10_drawn (l : Launch) (D : va_G) (cy : Nat → ClassId) (ht : Nat → Nat) (St : SMo) (St_r : Nat → Int32) (St_st : Nat → Int32) (St_trial : Nat → Int32) (x1 : Int32) (r : Int32 × SMo × (Nat → Int32)) (hf : f_X10_drawn St St_r St_st St_trial x1 = some r) : zCI l yX10_drawn cX10_drawn 6 (some FieldType.int) 7 168 D (zty cy) [.ref (ht 0), .int x1] (wMo ht cy St ++ (wAI (fun _ => ht 3) cy 140 St_r ++ (wAI (fun _ => ht 9) cy 325 St_st ++ (wAI (fun _ => ht 10) cy 325 St_trial)))) (wMo ht cy r.2.1 ++ (wAI (fun _ => ht 3) cy 140 St_r ++ (wAI (fun _ => ht 9) cy 325 St_st ++ (wAI (fun _ => ht 10) cy 325 r.2.2)))) r.1 := by
  refine zCI_of (by decide +kernel) (Nat.le_of_ble_eq_true rfl) ?_
  intro p e s m below meth c A ls C hP hD hS hl
  generalize hargs : ([.ref (ht 0), .int x1] : List Value).toArray = args at C ⊢
  have C : zX p s m meth c cX10_drawn 6 args RX10 (some FieldType.int) A D (zty cy) := C
  obtain ⟨hx, hb, hr, hts, hown, hlocks, hml, hA, hK⟩ := id C
  have hl : lv_has ls 6 [(0, .ref (ht 0)), (1, .int x1)] := hl
  generalize hH : s.heap = H at hP ⊢
  have hS : va_S A s.heap H [] := by rw [← hH]; exact hS
  generalize ([] : List Loc) = locs at hS ⊢
  refine lv_aload_n hx hb dX10_drawn_0 rfl (lv_at hl 0 rfl) ?_
  obtain ⟨q4, hc, hf⟩ := zbd hf
  refine z_cVv (As := []) (rest := []) C (c_X10_anew l D cy ht St q4 hc) gV_X10_X10_anew hd_X10_anew ⟨Nat.le_of_ble_eq_true rfl, Nat.le_of_ble_eq_true rfl⟩ ⟨Nat.le_refl _, Nat.le_refl _⟩ (va_recv hK hP (ci := 6) (q0 := 0) rfl rfl) hP hD hS (w2 := wMo ht cy q4 ++ (wAI (fun _ => ht 3) cy 140 St_r ++ (wAI (fun _ => ht 9) cy 325 St_st ++ (wAI (fun _ => ht 10) cy 325 St_trial)))) [0] [1, 2, 3] [3, 0, 1, 2] rfl rfl rfl rfl rfl rfl (by decide) hl.1 (Nat.le_of_ble_eq_true rfl) dX10_drawn_1 (fun H locs hP hD hS => ?_)
  refine lv_aload_n hx hb dX10_drawn_4 rfl (lv_at hl 0 rfl) ?_
  refine lv_aload_n hx hb dX10_drawn_5 rfl (lv_at hl 0 rfl) ?_
  refine va_get (D := D) (ci := 6) (v := .int (Mo_hasStore q4)) (C := RX10) (T := TX10) (N := 41) hx hb hts in_X10 hown hK hP 0 rfl rfl 14 (by decide) (hts _ q6_59) (fun _ h9 => h9) rfl dX10_drawn_6 ?_
  refine lv_iload_n hx hb dX10_drawn_9 rfl (lv_at hl 1 rfl) ?_
  refine lv_iconst (v := (0 : Int32)) hx hb dX10_drawn_10 (by decide) ?_
  refine lv_ldcw (v := (65536 : Int32)) hx hb hown (hts _ q8_214) dX10_drawn_11 ?_
  obtain ⟨q5, hc, hf⟩ := zbd hf
  refine z_cSiE (As := [.int x1, .int (0 : Int32), .int (65536 : Int32)]) (rest := [.int (Mo_hasStore q4), .ref (ht 0)]) C (c_X10_in l D cy x1 (0 : Int32) (65536 : Int32) q5 hc) gS_X10_X10_in hd_X10_in ⟨Nat.le_of_ble_eq_true rfl, Nat.le_of_ble_eq_true rfl⟩ ⟨Nat.le_refl _, Nat.le_refl _⟩ hP hD hS hl.1 (Nat.le_of_ble_eq_true rfl) dX10_drawn_14 (fun H locs hP hD hS => ?_)
  obtain ⟨q6, hc, hf⟩ := zbd hf
  refine z_cVi (As := [.int (Mo_hasStore q4), .int q5]) (rest := []) C (c_X10_why l D cy ht (Mo_hasStore q4) q5 q6 hc) gV_X10_X10_why hd_X10_why ⟨Nat.le_of_ble_eq_true rfl, Nat.le_of_ble_eq_true rfl⟩ ⟨Nat.le_refl _, Nat.le_refl _⟩ (va_recv hK hP (ci := 6) (q0 := 0) rfl rfl) hP hD hS (w2 := wMo ht cy q4 ++ (wAI (fun _ => ht 3) cy 140 St_r ++ (wAI (fun _ => ht 9) cy 325 St_st ++ (wAI (fun _ => ht 10) cy 325 St_trial)))) [] [0, 1, 2, 3] [0, 1, 2, 3] rfl rfl rfl rfl rfl rfl (by decide) hl.1 (Nat.le_of_ble_eq_true rfl) dX10_drawn_17 (fun H locs hP hD hS => ?_)
  refine lv_istore_n (lv' := [(2, .int q6), (0, .ref (ht 0)), (1, .int x1)]) hx hb dX10_drawn_20 rfl hl (by decide) rfl (fun ls hl => ?_)
  refine lv_iload_n hx hb dX10_drawn_21 rfl (lv_at hl 0 rfl) ?_
  refine z_if_eq (tgt := 31) hx hb dX10_drawn_22 (by decide) hf (fun hf => ?_) (fun hf => ?_)
  · refine lv_iload_n hx hb dX10_drawn_31 rfl (lv_at hl 2 rfl) ?_
    refine lv_istore_n (lv' := [(3, .int x1), (2, .int q6), (0, .ref (ht 0)), (1, .int x1)]) hx hb dX10_drawn_32 rfl hl (by decide) rfl (fun ls hl => ?_)
    refine lv_iconst (v := (0 : Int32)) hx hb dX10_drawn_33 (by decide) ?_
    refine lv_istore (lv' := [(4, .int (0 : Int32)), (3, .int x1), (2, .int q6), (0, .ref (ht 0)), (1, .int x1)]) hx hb dX10_drawn_34 hl (by decide) rfl (fun ls hl => ?_)
    refine lv_iconst (v := (0 : Int32)) hx hb dX10_drawn_36 (by decide) ?_
    refine lv_istore (lv' := [(5, .int (0 : Int32)), (4, .int (0 : Int32)), (3, .int x1), (2, .int q6), (0, .ref (ht 0)), (1, .int x1)]) hx hb dX10_drawn_37 hl (by decide) rfl (fun ls hl => ?_)
    exact w_X10_drawn_39 l ht St_r St_st x1 C FU q4 St_trial x1 (0 : Int32) (0 : Int32) H locs ls hf hP hD hS (lv_sub hl [4, 2, 1, 0] rfl)
  · refine lv_aload_n hx hb dX10_drawn_25 rfl (lv_at hl 1 rfl) ?_
    refine lv_iload_n hx hb dX10_drawn_26 rfl (lv_at hl 0 rfl) ?_
    obtain ⟨q7, hc, hf⟩ := zbd hf
    refine z_cVi (As := [.int q6]) (rest := []) C (c_X10_no l D cy ht q4 q6 q7 hc) gV_X10_X10_no hd_X10_no ⟨Nat.le_of_ble_eq_true rfl, Nat.le_of_ble_eq_true rfl⟩ ⟨Nat.le_refl _, Nat.le_refl _⟩ (va_recv hK hP (ci := 6) (q0 := 0) rfl rfl) hP hD hS (w2 := wMo ht cy q7.2 ++ (wAI (fun _ => ht 3) cy 140 St_r ++ (wAI (fun _ => ht 9) cy 325 St_st ++ (wAI (fun _ => ht 10) cy 325 St_trial)))) [0] [1, 2, 3] [3, 0, 1, 2] rfl rfl rfl rfl rfl rfl (by decide) hl.1 (Nat.le_of_ble_eq_true rfl) dX10_drawn_27 (fun H locs hP hD hS => ?_)
    obtain rfl := Option.some.inj hf
    exact z_iret (v := q7.1) C hP hD hS dX10_drawn_30
def b_X10_become_50 (St_trial : Nat → Int32) (St : SMo) (St_st : Nat → Int32) (St_undone : Nat → Int32) : Option (SMo × (Nat → Int32) × (Nat → Int32)) :=
  (f_X10_copy 325 5200 St_st St_undone (0 : Int32) ((325 : Int32) * (Mo_undos St)) (325 : Int32)).bind (fun q1 =>
    (f_X10_copy 325 325 St_trial St_st (0 : Int32) (0 : Int32) (325 : Int32)).bind (fun q2 =>
      some ((mkMo (Mo_thrown St) (Mo_taped St) (Mo_size St) (Mo_at St) (Mo_end St) (Mo_token St) (Mo_whole St) (Mo_nameSize St) (Mo_fault St) (Mo_place St) (Mo_trouble St) (Mo_failed St) (Mo_hasStore St) ((Mo_undos St) + (1 : Int32)) (Mo_images St) (Mo_ring St) (Mo_refused St) (Mo_setMany St) (Mo_someOf St) (Mo_allOf St) (Mo_firstRest St) (Mo_allWeight St) (Mo_seenWeight St) (Mo_sumWeight St)), q2, q1)))
set_option maxHeartbeats 4000000 in
set_option maxRecDepth 100000 in
theorem w_X10_become_50 {p : Program} {e : Env} {s : State} {m : MethodId} {below : List Frame} {meth : Method} {c : Code} {A : Nat → Prop} {D : va_G} {cy : Nat → ClassId} {args : Array Value} {r : SMo × (Nat → Int32) × (Nat → Int32)} (l : Launch) (ht : Nat → Nat) (St_trial : Nat → Int32) (C : zX p s m meth c cX10_become 2 args RX10 none A D (zty cy)) :
    ∀ (St : SMo) (St_st : Nat → Int32) (St_undone : Nat → Int32) (H : Heap) (locs : List Loc) (ls : Array Slot), b_X10_become_50 St_trial St St_st St_undone = some r → va_P D vwCl (wMo ht cy St ++ (wAI (fun _ => ht 9) cy 325 St_st ++ (wAI (fun _ => ht 10) cy 325 St_trial ++ (wAI (fun _ => ht 11) cy 5200 St_undone)))) H → va_D A (wMo ht cy St ++ (wAI (fun _ => ht 9) cy 325 St_st ++ (wAI (fun _ => ht 10) cy 325 St_trial ++ (wAI (fun _ => ht 11) cy 5200 St_undone)))) → va_S A s.heap H locs → lv_has ls 2 [(0, .ref (ht 0))] → W p l e (zRm 1 25) s m args below meth c H locs 0 0 (MQ below (zQV D (zty cy) A (wMo ht cy r.1 ++ (wAI (fun _ => ht 9) cy 325 r.2.1 ++ (wAI (fun _ => ht 10) cy 325 St_trial ++ (wAI (fun _ => ht 11) cy 5200 r.2.2))))) args s 0 0 A) (F0 m 50 ls []) := by
  obtain ⟨hx, hb, hr, hts, hown, hlocks, hml, hA, hK⟩ := id C
  intro St St_st St_undone H locs ls hf hP hD hS hl
  refine lv_aload_n hx hb dX10_become_50 rfl (lv_at hl 0 rfl) ?_
  refine va_get (D := D) (ci := 6) (v := .ref (ht 9)) (C := RX10) (T := TX10) (N := 41) hx hb hts in_X10 hown hK hP 0 rfl rfl 21 (by decide) (hts _ q6_66) (fun _ h9 => h9) rfl dX10_become_51 ?_
  refine lv_iconst (v := (0 : Int32)) hx hb dX10_become_54 (by decide) ?_
  refine lv_aload_n hx hb dX10_become_55 rfl (lv_at hl 0 rfl) ?_
  refine va_get (D := D) (ci := 6) (v := .ref (ht 11)) (C := RX10) (T := TX10) (N := 41) hx hb hts in_X10 hown hK hP 0 rfl rfl 23 (by decide) (hts _ q6_68) (fun _ h9 => h9) rfl dX10_become_56 ?_
  refine lv_sipush (v := (325 : Int32)) hx hb dX10_become_59 (by decide) ?_
  refine lv_aload_n hx hb dX10_become_62 rfl (lv_at hl 0 rfl) ?_
  refine va_get (D := D) (ci := 6) (v := .int (Mo_undos St)) (C := RX10) (T := TX10) (N := 41) hx hb hts in_X10 hown hK hP 0 rfl rfl 25 (by decide) (hts _ q6_70) (fun _ h9 => h9) rfl dX10_become_63 ?_
  refine lv_imul hx hb dX10_become_66 ?_
  refine lv_sipush (v := (325 : Int32)) hx hb dX10_become_67 (by decide) ?_
  obtain ⟨q1, hc, hf⟩ := zbd hf
  refine z_cSv (As := [.ref (ht 9), .int (0 : Int32), .ref (ht 11), .int ((325 : Int32) * (Mo_undos St)), .int (325 : Int32)]) (rest := []) C (c_X10_copy l D cy (fun _ => ht 9) (fun _ => ht 11) 325 5200 St_st St_undone (0 : Int32) ((325 : Int32) * (Mo_undos St)) (325 : Int32) q1 hc) gS_X10_X10_copy hd_X10_copy ⟨Nat.le_of_ble_eq_true rfl, Nat.le_of_ble_eq_true rfl⟩ ⟨Nat.le_refl _, Nat.le_refl _⟩ hP hD hS (w2 := wMo ht cy St ++ (wAI (fun _ => ht 9) cy 325 St_st ++ (wAI (fun _ => ht 10) cy 325 St_trial ++ (wAI (fun _ => ht 11) cy 5200 q1)))) [1, 3] [0, 2] [0, 2, 1, 3] rfl rfl rfl rfl rfl rfl (by decide) hl.1 (Nat.le_of_ble_eq_true rfl) dX10_become_70 (fun H locs hP hD hS => ?_)
  refine lv_aload_n hx hb dX10_become_73 rfl (lv_at hl 0 rfl) ?_
  refine lv_dup hx hb dX10_become_74 rfl ?_
  refine va_get (D := D) (ci := 6) (v := .int (Mo_undos St)) (C := RX10) (T := TX10) (N := 41) hx hb hts in_X10 hown hK hP 0 rfl rfl 25 (by decide) (hts _ q6_70) (fun _ h9 => h9) rfl dX10_become_75 ?_
  refine lv_iconst (v := (1 : Int32)) hx hb dX10_become_78 (by decide) ?_
  refine lv_iadd hx hb dX10_become_79 ?_
  refine z_put (w2 := vMo ht cy (Mo_thrown St) (Mo_taped St) (Mo_size St) (Mo_at St) (Mo_end St) (Mo_token St) (Mo_whole St) (Mo_nameSize St) (Mo_fault St) (Mo_place St) (Mo_trouble St) (Mo_failed St) (Mo_hasStore St) ((Mo_undos St) + (1 : Int32)) (Mo_images St) (Mo_ring St) (Mo_refused St) (Mo_setMany St) (Mo_someOf St) (Mo_allOf St) (Mo_firstRest St) (Mo_allWeight St) (Mo_seenWeight St) (Mo_sumWeight St) ++ (wAI (fun _ => ht 9) cy 325 St_st ++ (wAI (fun _ => ht 10) cy 325 St_trial ++ (wAI (fun _ => ht 11) cy 5200 q1)))) hx hb hts in_X10 tyX10 tyX10_ok nmX10 hown hK hP hD hS 0 rfl rfl 25 (by decide) (hts _ q6_70) (fun _ h9 => h9) rfl rfl rfl (Nat.le_of_ble_eq_true rfl) dX10_become_80 rfl (fun H locs hP hD hS => ?_)
  refine lv_aload_n hx hb dX10_become_83 rfl (lv_at hl 0 rfl) ?_
  refine va_get (D := D) (ci := 6) (v := .ref (ht 10)) (C := RX10) (T := TX10) (N := 41) hx hb hts in_X10 hown hK hP 0 rfl rfl 22 (by decide) (hts _ q6_67) (fun _ h9 => h9) rfl dX10_become_84 ?_
  refine lv_iconst (v := (0 : Int32)) hx hb dX10_become_87 (by decide) ?_
  refine lv_aload_n hx hb dX10_become_88 rfl (lv_at hl 0 rfl) ?_
  refine va_get (D := D) (ci := 6) (v := .ref (ht 9)) (C := RX10) (T := TX10) (N := 41) hx hb hts in_X10 hown hK hP 0 rfl rfl 21 (by decide) (hts _ q6_66) (fun _ h9 => h9) rfl dX10_become_89 ?_
  refine lv_iconst (v := (0 : Int32)) hx hb dX10_become_92 (by decide) ?_
  refine lv_sipush (v := (325 : Int32)) hx hb dX10_become_93 (by decide) ?_
  obtain ⟨q2, hc, hf⟩ := zbd hf
  refine z_cSv (As := [.ref (ht 10), .int (0 : Int32), .ref (ht 9), .int (0 : Int32), .int (325 : Int32)]) (rest := []) C (c_X10_copy l D cy (fun _ => ht 10) (fun _ => ht 9) 325 325 St_trial St_st (0 : Int32) (0 : Int32) (325 : Int32) q2 hc) gS_X10_X10_copy hd_X10_copy ⟨Nat.le_of_ble_eq_true rfl, Nat.le_of_ble_eq_true rfl⟩ ⟨Nat.le_refl _, Nat.le_refl _⟩ hP hD hS (w2 := vMo ht cy (Mo_thrown St) (Mo_taped St) (Mo_size St) (Mo_at St) (Mo_end St) (Mo_token St) (Mo_whole St) (Mo_nameSize St) (Mo_fault St) (Mo_place St) (Mo_trouble St) (Mo_failed St) (Mo_hasStore St) ((Mo_undos St) + (1 : Int32)) (Mo_images St) (Mo_ring St) (Mo_refused St) (Mo_setMany St) (Mo_someOf St) (Mo_allOf St) (Mo_firstRest St) (Mo_allWeight St) (Mo_seenWeight St) (Mo_sumWeight St) ++ (wAI (fun _ => ht 9) cy 325 q2 ++ (wAI (fun _ => ht 10) cy 325 St_trial ++ (wAI (fun _ => ht 11) cy 5200 q1)))) [2, 1] [0, 3] [0, 3, 2, 1] rfl rfl rfl rfl rfl rfl (by decide) hl.1 (Nat.le_of_ble_eq_true rfl) dX10_become_96 (fun H locs hP hD hS => ?_)
  obtain rfl := Option.some.inj hf
  rw [← wMo_mk ht] at hP hD
  exact z_vret C hP hD hS dX10_become_99
def b_X10_become_11 (St_trial : Nat → Int32) (k11 : SMo → (Nat → Int32) → (Nat → Int32) → Int32 → Option (SMo × (Nat → Int32) × (Nat → Int32))) (St : SMo) (St_st : Nat → Int32) (St_undone : Nat → Int32) (v1 : Int32) : Option (SMo × (Nat → Int32) × (Nat → Int32)) :=
  (if (4875 : Int32) ≤ v1 then
    (b_X10_become_50 St_trial (mkMo (Mo_thrown St) (Mo_taped St) (Mo_size St) (Mo_at St) (Mo_end St) (Mo_token St) (Mo_whole St) (Mo_nameSize St) (Mo_fault St) (Mo_place St) (Mo_trouble St) (Mo_failed St) (Mo_hasStore St) ((Mo_undos St) - (1 : Int32)) (Mo_images St) (Mo_ring St) (Mo_refused St) (Mo_setMany St) (Mo_someOf St) (Mo_allOf St) (Mo_firstRest St) (Mo_allWeight St) (Mo_seenWeight St) (Mo_sumWeight St)) St_st St_undone)
    else
    (if zib (v1 + (325 : Int32)) 5200 then (if zib v1 5200 then (k11 St St_st (upd St_undone v1.toNatClampNeg (St_undone (v1 + (325 : Int32)).toNatClampNeg)) (v1 + (1 : Int32))) else none) else none))
set_option maxHeartbeats 4000000 in
set_option maxRecDepth 100000 in
theorem w_X10_become_11 {p : Program} {e : Env} {s : State} {m : MethodId} {below : List Frame} {meth : Method} {c : Code} {A : Nat → Prop} {D : va_G} {cy : Nat → ClassId} {args : Array Value} {r : SMo × (Nat → Int32) × (Nat → Int32)} (l : Launch) (ht : Nat → Nat) (St_trial : Nat → Int32) (C : zX p s m meth c cX10_become 2 args RX10 none A D (zty cy)) :
    ∀ (n : Nat) (St : SMo) (St_st : Nat → Int32) (St_undone : Nat → Int32) (v1 : Int32) (H : Heap) (locs : List Loc) (ls : Array Slot), zl4 (b_X10_become_11 St_trial) n St St_st St_undone v1 = some r → va_P D vwCl (wMo ht cy St ++ (wAI (fun _ => ht 9) cy 325 St_st ++ (wAI (fun _ => ht 10) cy 325 St_trial ++ (wAI (fun _ => ht 11) cy 5200 St_undone)))) H → va_D A (wMo ht cy St ++ (wAI (fun _ => ht 9) cy 325 St_st ++ (wAI (fun _ => ht 10) cy 325 St_trial ++ (wAI (fun _ => ht 11) cy 5200 St_undone)))) → va_S A s.heap H locs → lv_has ls 2 [(0, .ref (ht 0)), (1, .int v1)] → W p l e (zRm 1 25) s m args below meth c H locs 0 0 (MQ below (zQV D (zty cy) A (wMo ht cy r.1 ++ (wAI (fun _ => ht 9) cy 325 r.2.1 ++ (wAI (fun _ => ht 10) cy 325 St_trial ++ (wAI (fun _ => ht 11) cy 5200 r.2.2))))) args s 0 0 A) (F0 m 11 ls []) := by
  obtain ⟨hx, hb, hr, hts, hown, hlocks, hml, hA, hK⟩ := id C
  intro n
  induction n with
  | zero => intro St St_st St_undone v1 H locs ls hf; exact zno hf
  | succ n ih =>
    intro St St_st St_undone v1 H locs ls hf hP hD hS hl
    have hf : b_X10_become_11 St_trial (zl4 (b_X10_become_11 St_trial) n) St St_st St_undone v1 = some r := hf
    have K11 := ih
    refine lv_iload_n hx hb dX10_become_11 rfl (lv_at hl 1 rfl) ?_
    refine lv_sipush (v := (4875 : Int32)) hx hb dX10_become_12 (by decide) ?_
    refine z_icmp_ge (tgt := 40) hx hb dX10_become_15 (by decide) hf (fun hf => ?_) (fun hf => ?_)
    · refine lv_aload_n hx hb dX10_become_40 rfl (lv_at hl 0 rfl) ?_
      refine lv_dup hx hb dX10_become_41 rfl ?_
      refine va_get (D := D) (ci := 6) (v := .int (Mo_undos St)) (C := RX10) (T := TX10) (N := 41) hx hb hts in_X10 hown hK hP 0 rfl rfl 25 (by decide) (hts _ q6_70) (fun _ h9 => h9) rfl dX10_become_42 ?_
      refine lv_iconst (v := (1 : Int32)) hx hb dX10_become_45 (by decide) ?_
      refine lv_isub hx hb dX10_become_46 ?_
      refine z_put (w2 := vMo ht cy (Mo_thrown St) (Mo_taped St) (Mo_size St) (Mo_at St) (Mo_end St) (Mo_token St) (Mo_whole St) (Mo_nameSize St) (Mo_fault St) (Mo_place St) (Mo_trouble St) (Mo_failed St) (Mo_hasStore St) ((Mo_undos St) - (1 : Int32)) (Mo_images St) (Mo_ring St) (Mo_refused St) (Mo_setMany St) (Mo_someOf St) (Mo_allOf St) (Mo_firstRest St) (Mo_allWeight St) (Mo_seenWeight St) (Mo_sumWeight St) ++ (wAI (fun _ => ht 9) cy 325 St_st ++ (wAI (fun _ => ht 10) cy 325 St_trial ++ (wAI (fun _ => ht 11) cy 5200 St_undone)))) hx hb hts in_X10 tyX10 tyX10_ok nmX10 hown hK hP hD hS 0 rfl rfl 25 (by decide) (hts _ q6_70) (fun _ h9 => h9) rfl rfl rfl (Nat.le_of_ble_eq_true rfl) dX10_become_47 rfl (fun H locs hP hD hS => ?_)
      rw [← wMo_mk ht] at hP hD
      exact w_X10_become_50 l ht St_trial C (mkMo (Mo_thrown St) (Mo_taped St) (Mo_size St) (Mo_at St) (Mo_end St) (Mo_token St) (Mo_whole St) (Mo_nameSize St) (Mo_fault St) (Mo_place St) (Mo_trouble St) (Mo_failed St) (Mo_hasStore St) ((Mo_undos St) - (1 : Int32)) (Mo_images St) (Mo_ring St) (Mo_refused St) (Mo_setMany St) (Mo_someOf St) (Mo_allOf St) (Mo_firstRest St) (Mo_allWeight St) (Mo_seenWeight St) (Mo_sumWeight St)) St_st St_undone H locs ls hf hP hD hS (lv_sub hl [0] rfl)
    · refine lv_aload_n hx hb dX10_become_18 rfl (lv_at hl 0 rfl) ?_
      refine va_get (D := D) (ci := 6) (v := .ref (ht 11)) (C := RX10) (T := TX10) (N := 41) hx hb hts in_X10 hown hK hP 0 rfl rfl 23 (by decide) (hts _ q6_68) (fun _ h9 => h9) rfl dX10_become_19 ?_
      refine lv_iload_n hx hb dX10_become_22 rfl (lv_at hl 1 rfl) ?_
      refine lv_aload_n hx hb dX10_become_23 rfl (lv_at hl 0 rfl) ?_
      refine va_get (D := D) (ci := 6) (v := .ref (ht 11)) (C := RX10) (T := TX10) (N := 41) hx hb hts in_X10 hown hK hP 0 rfl rfl 23 (by decide) (hts _ q6_68) (fun _ h9 => h9) rfl dX10_become_24 ?_
      refine lv_iload_n hx hb dX10_become_27 rfl (lv_at hl 1 rfl) ?_
      refine lv_sipush (v := (325 : Int32)) hx hb dX10_become_28 (by decide) ?_
      refine lv_iadd hx hb dX10_become_31 ?_
      refine z_iald (f := St_undone) hx hb hK hP 3 0 rfl rfl dX10_become_32 hf (fun hf => ?_)
      refine z_iast (f := St_undone) (w2 := wMo ht cy St ++ (wAI (fun _ => ht 9) cy 325 St_st ++ (wAI (fun _ => ht 10) cy 325 St_trial ++ (wAI (fun _ => ht 11) cy 5200 (upd St_undone v1.toNatClampNeg (St_undone (v1 + (325 : Int32)).toNatClampNeg)))))) hx hb hK hP hD hS 3 0 rfl rfl dX10_become_33 hf rfl (fun hf H locs hP hD hS => ?_)
      refine lv_iinc (v := (v1 + (1 : Int32))) (lv' := [(1, .int (v1 + (1 : Int32))), (0, .ref (ht 0))]) hx hb dX10_become_34 hl (k := 1) rfl rfl (by decide) rfl (fun ls hl => ?_)
      refine lv_goto (tgt := 11) hx hb dX10_become_37 (by decide) ?_
      exact K11 St St_st (upd St_undone v1.toNatClampNeg (St_undone (v1 + (325 : Int32)).toNatClampNeg)) (v1 + (1 : Int32)) H locs ls hf hP hD hS (lv_sub hl [1, 0] rfl)
def f_X10_become (St : SMo) (St_st : Nat → Int32) (St_trial : Nat → Int32) (St_undone : Nat → Int32) : Option (SMo × (Nat → Int32) × (Nat → Int32)) :=
  (if (Mo_undos St) = (16 : Int32) then
    (zl4 (b_X10_become_11 St_trial) FU St St_st St_undone (0 : Int32))
    else
    (b_X10_become_50 St_trial St St_st St_undone))
set_option maxHeartbeats 4000000 in
set_option maxRecDepth 100000 in
theorem c_X10_become (l : Launch) (D : va_G) (cy : Nat → ClassId) (ht : Nat → Nat) (St : SMo) (St_st : Nat → Int32) (St_trial : Nat → Int32) (St_undone : Nat → Int32) (r : SMo × (Nat → Int32) × (Nat → Int32)) (hf : f_X10_become St St_st St_trial St_undone = some r) : zCV l yX10_become cX10_become 2 none 1 25 D (zty cy) [.ref (ht 0)] (wMo ht cy St ++ (wAI (fun _ => ht 9) cy 325 St_st ++ (wAI (fun _ => ht 10) cy 325 St_trial ++ (wAI (fun _ => ht 11) cy 5200 St_undone)))) (wMo ht cy r.1 ++ (wAI (fun _ => ht 9) cy 325 r.2.1 ++ (wAI (fun _ => ht 10) cy 325 St_trial ++ (wAI (fun _ => ht 11) cy 5200 r.2.2)))) := by
  refine zCV_of (by decide +kernel) (Nat.le_of_ble_eq_true rfl) ?_
  intro p e s m below meth c A ls C hP hD hS hl
  generalize hargs : ([.ref (ht 0)] : List Value).toArray = args at C ⊢
  have C : zX p s m meth c cX10_become 2 args RX10 none A D (zty cy) := C
  obtain ⟨hx, hb, hr, hts, hown, hlocks, hml, hA, hK⟩ := id C
  have hl : lv_has ls 2 [(0, .ref (ht 0))] := hl
  generalize hH : s.heap = H at hP ⊢
  have hS : va_S A s.heap H [] := by rw [← hH]; exact hS
  generalize ([] : List Loc) = locs at hS ⊢
  refine lv_aload_n hx hb dX10_become_0 rfl (lv_at hl 0 rfl) ?_
  refine va_get (D := D) (ci := 6) (v := .int (Mo_undos St)) (C := RX10) (T := TX10) (N := 41) hx hb hts in_X10 hown hK hP 0 rfl rfl 25 (by decide) (hts _ q6_70) (fun _ h9 => h9) rfl dX10_become_1 ?_
  refine lv_bipush (v := (16 : Int32)) hx hb dX10_become_4 (by decide) ?_
  refine z_icmp_ne (tgt := 50) hx hb dX10_become_6 (by decide) hf (fun hf => ?_) (fun hf => ?_)
  · exact w_X10_become_50 l ht St_trial C St St_st St_undone H locs ls hf hP hD hS (lv_sub hl [0] rfl)
  · refine lv_iconst (v := (0 : Int32)) hx hb dX10_become_9 (by decide) ?_
    refine lv_istore_n (lv' := [(1, .int (0 : Int32)), (0, .ref (ht 0))]) hx hb dX10_become_10 rfl hl (by decide) rfl (fun ls hl => ?_)
    exact w_X10_become_11 l ht St_trial C FU St St_st St_undone (0 : Int32) H locs ls hf hP hD hS (lv_sub hl [1, 0] rfl)
def f_X10_tryOn (St : SMo) (St_st : Nat → Int32) (St_trial : Nat → Int32) : Option ((Nat → Int32)) :=
  (f_X10_copy 325 325 St_st St_trial (0 : Int32) (0 : Int32) (325 : Int32)).bind (fun q1 =>
    some q1)
set_option maxHeartbeats 4000000 in
set_option maxRecDepth 100000 in
theorem c_X10_tryOn (l : Launch) (D : va_G) (cy : Nat → ClassId) (ht : Nat → Nat) (St : SMo) (St_st : Nat → Int32) (St_trial : Nat → Int32) (r : (Nat → Int32)) (hf : f_X10_tryOn St St_st St_trial = some r) : zCV l yX10_tryOn cX10_tryOn 1 none 1 25 D (zty cy) [.ref (ht 0)] (wMo ht cy St ++ (wAI (fun _ => ht 9) cy 325 St_st ++ (wAI (fun _ => ht 10) cy 325 St_trial))) (wMo ht cy St ++ (wAI (fun _ => ht 9) cy 325 St_st ++ (wAI (fun _ => ht 10) cy 325 r))) := by
  refine zCV_of (by decide +kernel) (Nat.le_of_ble_eq_true rfl) ?_
  intro p e s m below meth c A ls C hP hD hS hl
  generalize hargs : ([.ref (ht 0)] : List Value).toArray = args at C ⊢
  have C : zX p s m meth c cX10_tryOn 1 args RX10 none A D (zty cy) := C
  obtain ⟨hx, hb, hr, hts, hown, hlocks, hml, hA, hK⟩ := id C
  have hl : lv_has ls 1 [(0, .ref (ht 0))] := hl
  generalize hH : s.heap = H at hP ⊢
  have hS : va_S A s.heap H [] := by rw [← hH]; exact hS
  generalize ([] : List Loc) = locs at hS ⊢
  refine lv_aload_n hx hb dX10_tryOn_0 rfl (lv_at hl 0 rfl) ?_
  refine va_get (D := D) (ci := 6) (v := .ref (ht 9)) (C := RX10) (T := TX10) (N := 41) hx hb hts in_X10 hown hK hP 0 rfl rfl 21 (by decide) (hts _ q6_66) (fun _ h9 => h9) rfl dX10_tryOn_1 ?_
  refine lv_iconst (v := (0 : Int32)) hx hb dX10_tryOn_4 (by decide) ?_
  refine lv_aload_n hx hb dX10_tryOn_5 rfl (lv_at hl 0 rfl) ?_
  refine va_get (D := D) (ci := 6) (v := .ref (ht 10)) (C := RX10) (T := TX10) (N := 41) hx hb hts in_X10 hown hK hP 0 rfl rfl 22 (by decide) (hts _ q6_67) (fun _ h9 => h9) rfl dX10_tryOn_6 ?_
  refine lv_iconst (v := (0 : Int32)) hx hb dX10_tryOn_9 (by decide) ?_
  refine lv_sipush (v := (325 : Int32)) hx hb dX10_tryOn_10 (by decide) ?_
  obtain ⟨q1, hc, hf⟩ := zbd hf
  refine z_cSv (As := [.ref (ht 9), .int (0 : Int32), .ref (ht 10), .int (0 : Int32), .int (325 : Int32)]) (rest := []) C (c_X10_copy l D cy (fun _ => ht 9) (fun _ => ht 10) 325 325 St_st St_trial (0 : Int32) (0 : Int32) (325 : Int32) q1 hc) gS_X10_X10_copy hd_X10_copy ⟨Nat.le_of_ble_eq_true rfl, Nat.le_of_ble_eq_true rfl⟩ ⟨Nat.le_refl _, Nat.le_refl _⟩ hP hD hS (w2 := wMo ht cy St ++ (wAI (fun _ => ht 9) cy 325 St_st ++ (wAI (fun _ => ht 10) cy 325 q1))) [1, 2] [0] [0, 1, 2] rfl rfl rfl rfl rfl rfl (by decide) hl.1 (Nat.le_of_ble_eq_true rfl) dX10_tryOn_13 (fun H locs hP hD hS => ?_)
  obtain rfl := Option.some.inj hf
  exact z_vret C hP hD hS dX10_tryOn_16
def f_X10_begin (St : SMo) (St_st : Nat → Int32) (St_trial : Nat → Int32) (St_undone : Nat → Int32) : Option (Int32 × SMo × (Nat → Int32) × (Nat → Int32) × (Nat → Int32)) :=
  (f_X10_anew St).bind (fun q1 =>
    (if (Mo_hasStore q1) = 0 then
      (f_X10_no q1 (1 : Int32)).bind (fun q7 =>
        some (q7.1, q7.2, St_st, St_trial, St_undone))
      else
      (f_X10_canBegin q1 St_st).bind (fun q2 =>
        (if q2 = 0 then
          (f_X10_no q1 (3 : Int32)).bind (fun q6 =>
            some (q6.1, q6.2, St_st, St_trial, St_undone))
          else
          (f_X10_tryOn q1 St_st St_trial).bind (fun q3 =>
            (f_X10_beginOn q1 q3).bind (fun q4 =>
              (f_X10_become q1 St_st q4.2 St_undone).bind (fun q5 =>
                some (q4.1, q5.1, q5.2.1, q4.2, q5.2.2))))))))
set_option maxHeartbeats 4000000 in
set_option maxRecDepth 100000 in
theorem c_X10_begin (l : Launch) (D : va_G) (cy : Nat → ClassId) (ht : Nat → Nat) (St : SMo) (St_st : Nat → Int32) (St_trial : Nat → Int32) (St_undone : Nat → Int32) (r : Int32 × SMo × (Nat → Int32) × (Nat → Int32) × (Nat → Int32)) (hf : f_X10_begin St St_st St_trial St_undone = some r) : zCI l yX10_begin cX10_begin 2 (some FieldType.int) 5 114 D (zty cy) [.ref (ht 0)] (wMo ht cy St ++ (wAI (fun _ => ht 9) cy 325 St_st ++ (wAI (fun _ => ht 10) cy 325 St_trial ++ (wAI (fun _ => ht 11) cy 5200 St_undone)))) (wMo ht cy r.2.1 ++ (wAI (fun _ => ht 9) cy 325 r.2.2.1 ++ (wAI (fun _ => ht 10) cy 325 r.2.2.2.1 ++ (wAI (fun _ => ht 11) cy 5200 r.2.2.2.2)))) r.1 := by
  refine zCI_of (by decide +kernel) (Nat.le_of_ble_eq_true rfl) ?_
  intro p e s m below meth c A ls C hP hD hS hl
  generalize hargs : ([.ref (ht 0)] : List Value).toArray = args at C ⊢
  have C : zX p s m meth c cX10_begin 2 args RX10 (some FieldType.int) A D (zty cy) := C
  obtain ⟨hx, hb, hr, hts, hown, hlocks, hml, hA, hK⟩ := id C
  have hl : lv_has ls 2 [(0, .ref (ht 0))] := hl
  generalize hH : s.heap = H at hP ⊢
  have hS : va_S A s.heap H [] := by rw [← hH]; exact hS
  generalize ([] : List Loc) = locs at hS ⊢
  refine lv_aload_n hx hb dX10_begin_0 rfl (lv_at hl 0 rfl) ?_
  obtain ⟨q1, hc, hf⟩ := zbd hf
  refine z_cVv (As := []) (rest := []) C (c_X10_anew l D cy ht St q1 hc) gV_X10_X10_anew hd_X10_anew ⟨Nat.le_of_ble_eq_true rfl, Nat.le_of_ble_eq_true rfl⟩ ⟨Nat.le_refl _, Nat.le_refl _⟩ (va_recv hK hP (ci := 6) (q0 := 0) rfl rfl) hP hD hS (w2 := wMo ht cy q1 ++ (wAI (fun _ => ht 9) cy 325 St_st ++ (wAI (fun _ => ht 10) cy 325 St_trial ++ (wAI (fun _ => ht 11) cy 5200 St_undone)))) [0] [1, 2, 3] [3, 0, 1, 2] rfl rfl rfl rfl rfl rfl (by decide) hl.1 (Nat.le_of_ble_eq_true rfl) dX10_begin_1 (fun H locs hP hD hS => ?_)
  refine lv_aload_n hx hb dX10_begin_4 rfl (lv_at hl 0 rfl) ?_
  refine va_get (D := D) (ci := 6) (v := .int (Mo_hasStore q1)) (C := RX10) (T := TX10) (N := 41) hx hb hts in_X10 hown hK hP 0 rfl rfl 14 (by decide) (hts _ q6_59) (fun _ h9 => h9) rfl dX10_begin_5 ?_
  refine z_if_ne (tgt := 17) hx hb dX10_begin_8 (by decide) hf (fun hf => ?_) (fun hf => ?_)
  · refine lv_aload_n hx hb dX10_begin_17 rfl (lv_at hl 0 rfl) ?_
    refine lv_aload_n hx hb dX10_begin_18 rfl (lv_at hl 0 rfl) ?_
    refine va_get (D := D) (ci := 6) (v := .ref (ht 9)) (C := RX10) (T := TX10) (N := 41) hx hb hts in_X10 hown hK hP 0 rfl rfl 21 (by decide) (hts _ q6_66) (fun _ h9 => h9) rfl dX10_begin_19 ?_
    obtain ⟨q2, hc, hf⟩ := zbd hf
    refine z_cVi (As := [.ref (ht 9)]) (rest := []) C (c_X10_canBegin l D cy ht (fun _ => ht 9) q1 St_st q2 hc) gV_X10_X10_canBegin hd_X10_canBegin ⟨Nat.le_of_ble_eq_true rfl, Nat.le_of_ble_eq_true rfl⟩ ⟨Nat.le_refl _, Nat.le_refl _⟩ (va_recv hK hP (ci := 6) (q0 := 0) rfl rfl) hP hD hS (w2 := wMo ht cy q1 ++ (wAI (fun _ => ht 9) cy 325 St_st ++ (wAI (fun _ => ht 10) cy 325 St_trial ++ (wAI (fun _ => ht 11) cy 5200 St_undone)))) [0, 1] [2, 3] [2, 3, 0, 1] rfl rfl rfl rfl rfl rfl (by decide) hl.1 (Nat.le_of_ble_eq_true rfl) dX10_begin_22 (fun H locs hP hD hS => ?_)
    refine z_if_ne (tgt := 34) hx hb dX10_begin_25 (by decide) hf (fun hf => ?_) (fun hf => ?_)
    · refine lv_aload_n hx hb dX10_begin_34 rfl (lv_at hl 0 rfl) ?_
      obtain ⟨q3, hc, hf⟩ := zbd hf
      refine z_cVv (As := []) (rest := []) C (c_X10_tryOn l D cy ht q1 St_st St_trial q3 hc) gV_X10_X10_tryOn hd_X10_tryOn ⟨Nat.le_of_ble_eq_true rfl, Nat.le_of_ble_eq_true rfl⟩ ⟨Nat.le_refl _, Nat.le_refl _⟩ (va_recv hK hP (ci := 6) (q0 := 0) rfl rfl) hP hD hS (w2 := wMo ht cy q1 ++ (wAI (fun _ => ht 9) cy 325 St_st ++ (wAI (fun _ => ht 10) cy 325 q3 ++ (wAI (fun _ => ht 11) cy 5200 St_undone)))) [0, 1, 2] [3] [1, 2, 3, 0] rfl rfl rfl rfl rfl rfl (by decide) hl.1 (Nat.le_of_ble_eq_true rfl) dX10_begin_35 (fun H locs hP hD hS => ?_)
      refine lv_aload_n hx hb dX10_begin_38 rfl (lv_at hl 0 rfl) ?_
      refine lv_aload_n hx hb dX10_begin_39 rfl (lv_at hl 0 rfl) ?_
      refine va_get (D := D) (ci := 6) (v := .ref (ht 10)) (C := RX10) (T := TX10) (N := 41) hx hb hts in_X10 hown hK hP 0 rfl rfl 22 (by decide) (hts _ q6_67) (fun _ h9 => h9) rfl dX10_begin_40 ?_
      obtain ⟨q4, hc, hf⟩ := zbd hf
      refine z_cVi (As := [.ref (ht 10)]) (rest := []) C (c_X10_beginOn l D cy ht (fun _ => ht 10) q1 q3 q4 hc) gV_X10_X10_beginOn hd_X10_beginOn ⟨Nat.le_of_ble_eq_true rfl, Nat.le_of_ble_eq_true rfl⟩ ⟨Nat.le_refl _, Nat.le_refl _⟩ (va_recv hK hP (ci := 6) (q0 := 0) rfl rfl) hP hD hS (w2 := wMo ht cy q1 ++ (wAI (fun _ => ht 9) cy 325 St_st ++ (wAI (fun _ => ht 10) cy 325 q4.2 ++ (wAI (fun _ => ht 11) cy 5200 St_undone)))) [0, 2] [1, 3] [2, 0, 3, 1] rfl rfl rfl rfl rfl rfl (by decide) hl.1 (Nat.le_of_ble_eq_true rfl) dX10_begin_43 (fun H locs hP hD hS => ?_)
      refine lv_istore_n (lv' := [(1, .int q4.1), (0, .ref (ht 0))]) hx hb dX10_begin_46 rfl hl (by decide) rfl (fun ls hl => ?_)
      refine lv_aload_n hx hb dX10_begin_47 rfl (lv_at hl 1 rfl) ?_
      obtain ⟨q5, hc, hf⟩ := zbd hf
      refine z_cVv0 (As := []) (rest := []) C (c_X10_become l D cy ht q1 St_st q4.2 St_undone q5 hc) gV_X10_X10_become hd_X10_become ⟨Nat.le_of_ble_eq_true rfl, Nat.le_of_ble_eq_true rfl⟩ ⟨Nat.le_refl _, Nat.le_refl _⟩ (va_recv hK hP (ci := 6) (q0 := 0) rfl rfl) hP hD hS hl.1 (Nat.le_of_ble_eq_true rfl) dX10_begin_48 (fun H locs hP hD hS => ?_)
      have hP : va_P D vwCl (wMo ht cy q5.1 ++ (wAI (fun _ => ht 9) cy 325 q5.2.1 ++ (wAI (fun _ => ht 10) cy 325 q4.2 ++ (wAI (fun _ => ht 11) cy 5200 q5.2.2)))) H := hP
      have hD : va_D A (wMo ht cy q5.1 ++ (wAI (fun _ => ht 9) cy 325 q5.2.1 ++ (wAI (fun _ => ht 10) cy 325 q4.2 ++ (wAI (fun _ => ht 11) cy 5200 q5.2.2)))) := hD
      refine lv_iload_n hx hb dX10_begin_51 rfl (lv_at hl 0 rfl) ?_
      obtain rfl := Option.some.inj hf
      exact z_iret (v := q4.1) C hP hD hS dX10_begin_52
    · refine lv_aload_n hx hb dX10_begin_28 rfl (lv_at hl 0 rfl) ?_
      refine lv_iconst (v := (3 : Int32)) hx hb dX10_begin_29 (by decide) ?_
      obtain ⟨q6, hc, hf⟩ := zbd hf
      refine z_cVi (As := [.int (3 : Int32)]) (rest := []) C (c_X10_no l D cy ht q1 (3 : Int32) q6 hc) gV_X10_X10_no hd_X10_no ⟨Nat.le_of_ble_eq_true rfl, Nat.le_of_ble_eq_true rfl⟩ ⟨Nat.le_refl _, Nat.le_refl _⟩ (va_recv hK hP (ci := 6) (q0 := 0) rfl rfl) hP hD hS (w2 := wMo ht cy q6.2 ++ (wAI (fun _ => ht 9) cy 325 St_st ++ (wAI (fun _ => ht 10) cy 325 St_trial ++ (wAI (fun _ => ht 11) cy 5200 St_undone)))) [0] [1, 2, 3] [3, 0, 1, 2] rfl rfl rfl rfl rfl rfl (by decide) hl.1 (Nat.le_of_ble_eq_true rfl) dX10_begin_30 (fun H locs hP hD hS => ?_)
      obtain rfl := Option.some.inj hf
      exact z_iret (v := q6.1) C hP hD hS dX10_begin_33
  · refine lv_aload_n hx hb dX10_begin_11 rfl (lv_at hl 0 rfl) ?_
    refine lv_iconst (v := (1 : Int32)) hx hb dX10_begin_12 (by decide) ?_
    obtain ⟨q7, hc, hf⟩ := zbd hf
    refine z_cVi (As := [.int (1 : Int32)]) (rest := []) C (c_X10_no l D cy ht q1 (1 : Int32) q7 hc) gV_X10_X10_no hd_X10_no ⟨Nat.le_of_ble_eq_true rfl, Nat.le_of_ble_eq_true rfl⟩ ⟨Nat.le_refl _, Nat.le_refl _⟩ (va_recv hK hP (ci := 6) (q0 := 0) rfl rfl) hP hD hS (w2 := wMo ht cy q7.2 ++ (wAI (fun _ => ht 9) cy 325 St_st ++ (wAI (fun _ => ht 10) cy 325 St_trial ++ (wAI (fun _ => ht 11) cy 5200 St_undone)))) [0] [1, 2, 3] [3, 0, 1, 2] rfl rfl rfl rfl rfl rfl (by decide) hl.1 (Nat.le_of_ble_eq_true rfl) dX10_begin_13 (fun H locs hP hD hS => ?_)
    obtain rfl := Option.some.inj hf
    exact z_iret (v := q7.1) C hP hD hS dX10_begin_16
def b_X10_put_26 (St_r : Nat → Int32) (x1 : Int32) (x2 : Int32) (x3 : Int32) (St : SMo) (St_st : Nat → Int32) (St_trial : Nat → Int32) (St_undone : Nat → Int32) (u1 : Int32) : Option (Int32 × SMo × (Nat → Int32) × (Nat → Int32) × (Nat → Int32)) :=
  (f_X10_in x3 (0 : Int32) (999 : Int32)).bind (fun q1 =>
    (f_X10_why u1 q1).bind (fun q2 =>
      (if q2 = 0 then
        (f_X10_tryOn St St_st St_trial).bind (fun q3 =>
          (f_X10_putOn St q3 x1 x2 x3).bind (fun q4 =>
            (if (Mo_refused q4.2.1) = 0 then
              (f_X10_become q4.2.1 St_st q4.2.2 St_undone).bind (fun q5 =>
                some (q4.1, q5.1, q5.2.1, q4.2.2, q5.2.2))
              else
              (f_X10_no q4.2.1 (Mo_refused q4.2.1)).bind (fun q6 =>
                some (q6.1, q6.2, St_st, q4.2.2, St_undone)))))
        else
        (f_X10_no St q2).bind (fun q7 =>
          some (q7.1, q7.2, St_st, St_trial, St_undone)))))
set_option maxHeartbeats 4000000 in
set_option maxRecDepth 100000 in
theorem w_X10_put_26 {p : Program} {e : Env} {s : State} {m : MethodId} {below : List Frame} {meth : Method} {c : Code} {A : Nat → Prop} {D : va_G} {cy : Nat → ClassId} {args : Array Value} {r : Int32 × SMo × (Nat → Int32) × (Nat → Int32) × (Nat → Int32)} (l : Launch) (ht : Nat → Nat) (St_r : Nat → Int32) (x1 : Int32) (x2 : Int32) (x3 : Int32) (C : zX p s m meth c cX10_put 6 args RX10 (some FieldType.int) A D (zty cy)) :
    ∀ (St : SMo) (St_st : Nat → Int32) (St_trial : Nat → Int32) (St_undone : Nat → Int32) (u1 : Int32) (H : Heap) (locs : List Loc) (ls : Array Slot), b_X10_put_26 St_r x1 x2 x3 St St_st St_trial St_undone u1 = some r → va_P D vwCl (wMo ht cy St ++ (wAI (fun _ => ht 3) cy 140 St_r ++ (wAI (fun _ => ht 9) cy 325 St_st ++ (wAI (fun _ => ht 10) cy 325 St_trial ++ (wAI (fun _ => ht 11) cy 5200 St_undone))))) H → va_D A (wMo ht cy St ++ (wAI (fun _ => ht 3) cy 140 St_r ++ (wAI (fun _ => ht 9) cy 325 St_st ++ (wAI (fun _ => ht 10) cy 325 St_trial ++ (wAI (fun _ => ht 11) cy 5200 St_undone))))) → va_S A s.heap H locs → lv_has ls 6 [(0, .ref (ht 0)), (1, .int x1), (2, .int x2), (3, .int x3)] → W p l e (zRm 8 195) s m args below meth c H locs 0 0 (MQ below (zQI D (zty cy) A (wMo ht cy r.2.1 ++ (wAI (fun _ => ht 3) cy 140 St_r ++ (wAI (fun _ => ht 9) cy 325 r.2.2.1 ++ (wAI (fun _ => ht 10) cy 325 r.2.2.2.1 ++ (wAI (fun _ => ht 11) cy 5200 r.2.2.2.2))))) r.1) args s 0 0 A) (F0 m 26 ls [.int u1, .ref (ht 0)]) := by
  obtain ⟨hx, hb, hr, hts, hown, hlocks, hml, hA, hK⟩ := id C
  intro St St_st St_trial St_undone u1 H locs ls hf hP hD hS hl
  refine lv_iload_n hx hb dX10_put_26 rfl (lv_at hl 3 rfl) ?_
  refine lv_iconst (v := (0 : Int32)) hx hb dX10_put_27 (by decide) ?_
  refine lv_sipush (v := (999 : Int32)) hx hb dX10_put_28 (by decide) ?_
  obtain ⟨q1, hc, hf⟩ := zbd hf
  refine z_cSiE (As := [.int x3, .int (0 : Int32), .int (999 : Int32)]) (rest := [.int u1, .ref (ht 0)]) C (c_X10_in l D cy x3 (0 : Int32) (999 : Int32) q1 hc) gS_X10_X10_in hd_X10_in ⟨Nat.le_of_ble_eq_true rfl, Nat.le_of_ble_eq_true rfl⟩ ⟨Nat.le_refl _, Nat.le_refl _⟩ hP hD hS hl.1 (Nat.le_of_ble_eq_true rfl) dX10_put_31 (fun H locs hP hD hS => ?_)
  obtain ⟨q2, hc, hf⟩ := zbd hf
  refine z_cVi (As := [.int u1, .int q1]) (rest := []) C (c_X10_why l D cy ht u1 q1 q2 hc) gV_X10_X10_why hd_X10_why ⟨Nat.le_of_ble_eq_true rfl, Nat.le_of_ble_eq_true rfl⟩ ⟨Nat.le_refl _, Nat.le_refl _⟩ (va_recv hK hP (ci := 6) (q0 := 0) rfl rfl) hP hD hS (w2 := wMo ht cy St ++ (wAI (fun _ => ht 3) cy 140 St_r ++ (wAI (fun _ => ht 9) cy 325 St_st ++ (wAI (fun _ => ht 10) cy 325 St_trial ++ (wAI (fun _ => ht 11) cy 5200 St_undone))))) [] [0, 1, 2, 3, 4] [0, 1, 2, 3, 4] rfl rfl rfl rfl rfl rfl (by decide) hl.1 (Nat.le_of_ble_eq_true rfl) dX10_put_34 (fun H locs hP hD hS => ?_)
  refine lv_istore (lv' := [(4, .int q2), (0, .ref (ht 0)), (1, .int x1), (2, .int x2), (3, .int x3)]) hx hb dX10_put_37 hl (by decide) rfl (fun ls hl => ?_)
  refine lv_iload hx hb dX10_put_39 (lv_at hl 0 rfl) ?_
  refine z_if_eq (tgt := 51) hx hb dX10_put_41 (by decide) hf (fun hf => ?_) (fun hf => ?_)
  · refine lv_aload_n hx hb dX10_put_51 rfl (lv_at hl 1 rfl) ?_
    obtain ⟨q3, hc, hf⟩ := zbd hf
    refine z_cVv (As := []) (rest := []) C (c_X10_tryOn l D cy ht St St_st St_trial q3 hc) gV_X10_X10_tryOn hd_X10_tryOn ⟨Nat.le_of_ble_eq_true rfl, Nat.le_of_ble_eq_true rfl⟩ ⟨Nat.le_refl _, Nat.le_refl _⟩ (va_recv hK hP (ci := 6) (q0 := 0) rfl rfl) hP hD hS (w2 := wMo ht cy St ++ (wAI (fun _ => ht 3) cy 140 St_r ++ (wAI (fun _ => ht 9) cy 325 St_st ++ (wAI (fun _ => ht 10) cy 325 q3 ++ (wAI (fun _ => ht 11) cy 5200 St_undone))))) [0, 2, 3] [1, 4] [2, 0, 3, 4, 1] rfl rfl rfl rfl rfl rfl (by decide) hl.1 (Nat.le_of_ble_eq_true rfl) dX10_put_52 (fun H locs hP hD hS => ?_)
    refine lv_aload_n hx hb dX10_put_55 rfl (lv_at hl 1 rfl) ?_
    refine lv_aload_n hx hb dX10_put_56 rfl (lv_at hl 1 rfl) ?_
    refine va_get (D := D) (ci := 6) (v := .ref (ht 10)) (C := RX10) (T := TX10) (N := 41) hx hb hts in_X10 hown hK hP 0 rfl rfl 22 (by decide) (hts _ q6_67) (fun _ h9 => h9) rfl dX10_put_57 ?_
    refine lv_iload_n hx hb dX10_put_60 rfl (lv_at hl 2 rfl) ?_
    refine lv_iload_n hx hb dX10_put_61 rfl (lv_at hl 3 rfl) ?_
    refine lv_iload_n hx hb dX10_put_62 rfl (lv_at hl 4 rfl) ?_
    obtain ⟨q4, hc, hf⟩ := zbd hf
    refine z_cVi (As := [.ref (ht 10), .int x1, .int x2, .int x3]) (rest := []) C (c_X10_putOn l D cy ht (fun _ => ht 10) St q3 x1 x2 x3 q4 hc) gV_X10_X10_putOn hd_X10_putOn ⟨Nat.le_of_ble_eq_true rfl, Nat.le_of_ble_eq_true rfl⟩ ⟨Nat.le_refl _, Nat.le_refl _⟩ (va_recv hK hP (ci := 6) (q0 := 0) rfl rfl) hP hD hS (w2 := wMo ht cy q4.2.1 ++ (wAI (fun _ => ht 3) cy 140 St_r ++ (wAI (fun _ => ht 9) cy 325 St_st ++ (wAI (fun _ => ht 10) cy 325 q4.2.2 ++ (wAI (fun _ => ht 11) cy 5200 St_undone))))) [0, 3] [1, 2, 4] [3, 0, 1, 4, 2] rfl rfl rfl rfl rfl rfl (by decide) hl.1 (Nat.le_of_ble_eq_true rfl) dX10_put_63 (fun H locs hP hD hS => ?_)
    refine lv_istore (lv' := [(5, .int q4.1), (4, .int q2), (0, .ref (ht 0)), (1, .int x1), (2, .int x2), (3, .int x3)]) hx hb dX10_put_66 hl (by decide) rfl (fun ls hl => ?_)
    refine lv_aload_n hx hb dX10_put_68 rfl (lv_at hl 2 rfl) ?_
    refine va_get (D := D) (ci := 6) (v := .int (Mo_refused q4.2.1)) (C := RX10) (T := TX10) (N := 41) hx hb hts in_X10 hown hK hP 0 rfl rfl 28 (by decide) (hts _ q6_73) (fun _ h9 => h9) rfl dX10_put_69 ?_
    refine z_if_eq (tgt := 84) hx hb dX10_put_72 (by decide) hf (fun hf => ?_) (fun hf => ?_)
    · refine lv_aload_n hx hb dX10_put_84 rfl (lv_at hl 2 rfl) ?_
      obtain ⟨q5, hc, hf⟩ := zbd hf
      refine z_cVv (As := []) (rest := []) C (c_X10_become l D cy ht q4.2.1 St_st q4.2.2 St_undone q5 hc) gV_X10_X10_become hd_X10_become ⟨Nat.le_of_ble_eq_true rfl, Nat.le_of_ble_eq_true rfl⟩ ⟨Nat.le_refl _, Nat.le_refl _⟩ (va_recv hK hP (ci := 6) (q0 := 0) rfl rfl) hP hD hS (w2 := wMo ht cy q5.1 ++ (wAI (fun _ => ht 3) cy 140 St_r ++ (wAI (fun _ => ht 9) cy 325 q5.2.1 ++ (wAI (fun _ => ht 10) cy 325 q4.2.2 ++ (wAI (fun _ => ht 11) cy 5200 q5.2.2))))) [0, 2, 3, 4] [1] [1, 0, 2, 3, 4] rfl rfl rfl rfl rfl rfl (by decide) hl.1 (Nat.le_of_ble_eq_true rfl) dX10_put_85 (fun H locs hP hD hS => ?_)
      refine lv_iload hx hb dX10_put_88 (lv_at hl 0 rfl) ?_
      obtain rfl := Option.some.inj hf
      exact z_iret (v := q4.1) C hP hD hS dX10_put_90
    · refine lv_aload_n hx hb dX10_put_75 rfl (lv_at hl 2 rfl) ?_
      refine lv_aload_n hx hb dX10_put_76 rfl (lv_at hl 2 rfl) ?_
      refine va_get (D := D) (ci := 6) (v := .int (Mo_refused q4.2.1)) (C := RX10) (T := TX10) (N := 41) hx hb hts in_X10 hown hK hP 0 rfl rfl 28 (by decide) (hts _ q6_73) (fun _ h9 => h9) rfl dX10_put_77 ?_
      obtain ⟨q6, hc, hf⟩ := zbd hf
      refine z_cVi (As := [.int (Mo_refused q4.2.1)]) (rest := []) C (c_X10_no l D cy ht q4.2.1 (Mo_refused q4.2.1) q6 hc) gV_X10_X10_no hd_X10_no ⟨Nat.le_of_ble_eq_true rfl, Nat.le_of_ble_eq_true rfl⟩ ⟨Nat.le_refl _, Nat.le_refl _⟩ (va_recv hK hP (ci := 6) (q0 := 0) rfl rfl) hP hD hS (w2 := wMo ht cy q6.2 ++ (wAI (fun _ => ht 3) cy 140 St_r ++ (wAI (fun _ => ht 9) cy 325 St_st ++ (wAI (fun _ => ht 10) cy 325 q4.2.2 ++ (wAI (fun _ => ht 11) cy 5200 St_undone))))) [0] [1, 2, 3, 4] [4, 0, 1, 2, 3] rfl rfl rfl rfl rfl rfl (by decide) hl.1 (Nat.le_of_ble_eq_true rfl) dX10_put_80 (fun H locs hP hD hS => ?_)
      obtain rfl := Option.some.inj hf
      exact z_iret (v := q6.1) C hP hD hS dX10_put_83
  · refine lv_aload_n hx hb dX10_put_44 rfl (lv_at hl 1 rfl) ?_
    refine lv_iload hx hb dX10_put_45 (lv_at hl 0 rfl) ?_
    obtain ⟨q7, hc, hf⟩ := zbd hf
    refine z_cVi (As := [.int q2]) (rest := []) C (c_X10_no l D cy ht St q2 q7 hc) gV_X10_X10_no hd_X10_no ⟨Nat.le_of_ble_eq_true rfl, Nat.le_of_ble_eq_true rfl⟩ ⟨Nat.le_refl _, Nat.le_refl _⟩ (va_recv hK hP (ci := 6) (q0 := 0) rfl rfl) hP hD hS (w2 := wMo ht cy q7.2 ++ (wAI (fun _ => ht 3) cy 140 St_r ++ (wAI (fun _ => ht 9) cy 325 St_st ++ (wAI (fun _ => ht 10) cy 325 St_trial ++ (wAI (fun _ => ht 11) cy 5200 St_undone))))) [0] [1, 2, 3, 4] [4, 0, 1, 2, 3] rfl rfl rfl rfl rfl rfl (by decide) hl.1 (Nat.le_of_ble_eq_true rfl) dX10_put_47 (fun H locs hP hD hS => ?_)
    obtain rfl := Option.some.inj hf
    exact z_iret (v := q7.1) C hP hD hS dX10_put_50
def f_X10_put (St : SMo) (St_r : Nat → Int32) (St_st : Nat → Int32) (St_trial : Nat → Int32) (St_undone : Nat → Int32) (x1 : Int32) (x2 : Int32) (x3 : Int32) : Option (Int32 × SMo × (Nat → Int32) × (Nat → Int32) × (Nat → Int32)) :=
  (f_X10_anew St).bind (fun q8 =>
    (f_X10_isSlot q8 St_st x1).bind (fun q9 =>
      (if q9 = 0 then
        (b_X10_put_26 St_r x1 x2 x3 q8 St_st St_trial St_undone (0 : Int32))
        else
        (f_X10_isRow q8 St_r x2).bind (fun q10 =>
          (if q10 = 0 then
            (b_X10_put_26 St_r x1 x2 x3 q8 St_st St_trial St_undone (0 : Int32))
            else
            (b_X10_put_26 St_r x1 x2 x3 q8 St_st St_trial St_undone (1 : Int32)))))))
set_option maxHeartbeats 4000000 in
set_option maxRecDepth 100000 in
theorem c_X10_put (l : Launch) (D : va_G) (cy : Nat → ClassId) (ht : Nat → Nat) (St : SMo) (St_r : Nat → Int32) (St_st : Nat → Int32) (St_trial : Nat → Int32) (St_undone : Nat → Int32) (x1 : Int32) (x2 : Int32) (x3 : Int32) (r : Int32 × SMo × (Nat → Int32) × (Nat → Int32) × (Nat → Int32)) (hf : f_X10_put St St_r St_st St_trial St_undone x1 x2 x3 = some r) : zCI l yX10_put cX10_put 6 (some FieldType.int) 8 195 D (zty cy) [.ref (ht 0), .int x1, .int x2, .int x3] (wMo ht cy St ++ (wAI (fun _ => ht 3) cy 140 St_r ++ (wAI (fun _ => ht 9) cy 325 St_st ++ (wAI (fun _ => ht 10) cy 325 St_trial ++ (wAI (fun _ => ht 11) cy 5200 St_undone))))) (wMo ht cy r.2.1 ++ (wAI (fun _ => ht 3) cy 140 St_r ++ (wAI (fun _ => ht 9) cy 325 r.2.2.1 ++ (wAI (fun _ => ht 10) cy 325 r.2.2.2.1 ++ (wAI (fun _ => ht 11) cy 5200 r.2.2.2.2))))) r.1 := by
  refine zCI_of (by decide +kernel) (Nat.le_of_ble_eq_true rfl) ?_
  intro p e s m below meth c A ls C hP hD hS hl
  generalize hargs : ([.ref (ht 0), .int x1, .int x2, .int x3] : List Value).toArray = args at C ⊢
  have C : zX p s m meth c cX10_put 6 args RX10 (some FieldType.int) A D (zty cy) := C
  obtain ⟨hx, hb, hr, hts, hown, hlocks, hml, hA, hK⟩ := id C
  have hl : lv_has ls 6 [(0, .ref (ht 0)), (1, .int x1), (2, .int x2), (3, .int x3)] := hl
  generalize hH : s.heap = H at hP ⊢
  have hS : va_S A s.heap H [] := by rw [← hH]; exact hS
  generalize ([] : List Loc) = locs at hS ⊢
  refine lv_aload_n hx hb dX10_put_0 rfl (lv_at hl 0 rfl) ?_
  obtain ⟨q8, hc, hf⟩ := zbd hf
  refine z_cVv (As := []) (rest := []) C (c_X10_anew l D cy ht St q8 hc) gV_X10_X10_anew hd_X10_anew ⟨Nat.le_of_ble_eq_true rfl, Nat.le_of_ble_eq_true rfl⟩ ⟨Nat.le_refl _, Nat.le_refl _⟩ (va_recv hK hP (ci := 6) (q0 := 0) rfl rfl) hP hD hS (w2 := wMo ht cy q8 ++ (wAI (fun _ => ht 3) cy 140 St_r ++ (wAI (fun _ => ht 9) cy 325 St_st ++ (wAI (fun _ => ht 10) cy 325 St_trial ++ (wAI (fun _ => ht 11) cy 5200 St_undone))))) [0] [1, 2, 3, 4] [4, 0, 1, 2, 3] rfl rfl rfl rfl rfl rfl (by decide) hl.1 (Nat.le_of_ble_eq_true rfl) dX10_put_1 (fun H locs hP hD hS => ?_)
  refine lv_aload_n hx hb dX10_put_4 rfl (lv_at hl 0 rfl) ?_
  refine lv_aload_n hx hb dX10_put_5 rfl (lv_at hl 0 rfl) ?_
  refine lv_iload_n hx hb dX10_put_6 rfl (lv_at hl 1 rfl) ?_
  obtain ⟨q9, hc, hf⟩ := zbd hf
  refine z_cVi (As := [.int x1]) (rest := [.ref (ht 0)]) C (c_X10_isSlot l D cy ht q8 St_st x1 q9 hc) gV_X10_X10_isSlot hd_X10_isSlot ⟨Nat.le_of_ble_eq_true rfl, Nat.le_of_ble_eq_true rfl⟩ ⟨Nat.le_refl _, Nat.le_refl _⟩ (va_recv hK hP (ci := 6) (q0 := 0) rfl rfl) hP hD hS (w2 := wMo ht cy q8 ++ (wAI (fun _ => ht 3) cy 140 St_r ++ (wAI (fun _ => ht 9) cy 325 St_st ++ (wAI (fun _ => ht 10) cy 325 St_trial ++ (wAI (fun _ => ht 11) cy 5200 St_undone))))) [0, 2] [1, 3, 4] [3, 0, 4, 1, 2] rfl rfl rfl rfl rfl rfl (by decide) hl.1 (Nat.le_of_ble_eq_true rfl) dX10_put_7 (fun H locs hP hD hS => ?_)
  refine z_if_eq (tgt := 25) hx hb dX10_put_10 (by decide) hf (fun hf => ?_) (fun hf => ?_)
  · refine lv_iconst (v := (0 : Int32)) hx hb dX10_put_25 (by decide) ?_
    exact w_X10_put_26 l ht St_r x1 x2 x3 C q8 St_st St_trial St_undone (0 : Int32) H locs ls hf hP hD hS (lv_sub hl [0, 1, 2, 3] rfl)
  · refine lv_aload_n hx hb dX10_put_13 rfl (lv_at hl 0 rfl) ?_
    refine lv_iload_n hx hb dX10_put_14 rfl (lv_at hl 2 rfl) ?_
    obtain ⟨q10, hc, hf⟩ := zbd hf
    refine z_cVi (As := [.int x2]) (rest := [.ref (ht 0)]) C (c_X10_isRow l D cy ht q8 St_r x2 q10 hc) gV_X10_X10_isRow hd_X10_isRow ⟨Nat.le_of_ble_eq_true rfl, Nat.le_of_ble_eq_true rfl⟩ ⟨Nat.le_refl _, Nat.le_refl _⟩ (va_recv hK hP (ci := 6) (q0 := 0) rfl rfl) hP hD hS (w2 := wMo ht cy q8 ++ (wAI (fun _ => ht 3) cy 140 St_r ++ (wAI (fun _ => ht 9) cy 325 St_st ++ (wAI (fun _ => ht 10) cy 325 St_trial ++ (wAI (fun _ => ht 11) cy 5200 St_undone))))) [0, 1] [2, 3, 4] [3, 4, 0, 1, 2] rfl rfl rfl rfl rfl rfl (by decide) hl.1 (Nat.le_of_ble_eq_true rfl) dX10_put_15 (fun H locs hP hD hS => ?_)
    refine z_if_eq (tgt := 25) hx hb dX10_put_18 (by decide) hf (fun hf => ?_) (fun hf => ?_)
    · refine lv_iconst (v := (0 : Int32)) hx hb dX10_put_25 (by decide) ?_
      exact w_X10_put_26 l ht St_r x1 x2 x3 C q8 St_st St_trial St_undone (0 : Int32) H locs ls hf hP hD hS (lv_sub hl [0, 1, 2, 3] rfl)
    · refine lv_iconst (v := (1 : Int32)) hx hb dX10_put_21 (by decide) ?_
      refine lv_goto (tgt := 26) hx hb dX10_put_22 (by decide) ?_
      exact w_X10_put_26 l ht St_r x1 x2 x3 C q8 St_st St_trial St_undone (1 : Int32) H locs ls hf hP hD hS (lv_sub hl [0, 1, 2, 3] rfl)
