theorem hd_X10_versionsOf : yX10_versionsOf.cls ≠ "java/lang/invoke/MethodHandle" ∧ yX10_versionsOf.cls ≠ "java/lang/invoke/VarHandle" ∧ (parseMethodDescriptor yX10_versionsOf.desc).map (fun d => d.parameters.length) = some 1 := by decide +kernel
theorem gS_X10_X10_versionsOf : GoodIn WT (va_wsS RX10 269 yX10_versionsOf (.code yX10_versionsOf cX10_versionsOf 3 (some FieldType.int) :: WT)) := gzS q7_177 q7_178 q1_8 q7_179
theorem hd_X10_dropOn : yX10_dropOn.cls = RX10 ∧ yX10_dropOn.cls ≠ "java/lang/invoke/MethodHandle" ∧ yX10_dropOn.cls ≠ "java/lang/invoke/VarHandle" ∧ (parseMethodDescriptor yX10_dropOn.desc).map (fun d => d.parameters.length) = some 3 := by decide +kernel
theorem gV_X10_X10_dropOn : GoodIn WT (wsV RX10 333 RX10 yX10_dropOn (.code yX10_dropOn cX10_dropOn 5 (some FieldType.int) :: WT)) := gzV q7_126 q7_128 s_X10_dropOn q1_8 q7_129
theorem hd_X10_ended : yX10_ended.cls = RX10 ∧ yX10_ended.cls ≠ "java/lang/invoke/MethodHandle" ∧ yX10_ended.cls ≠ "java/lang/invoke/VarHandle" ∧ (parseMethodDescriptor yX10_ended.desc).map (fun d => d.parameters.length) = some 2 := by decide +kernel
theorem gV_X10_X10_ended : GoodIn WT (wsV RX10 450 RX10 yX10_ended (.code yX10_ended cX10_ended 4 (some FieldType.int) :: WT)) := gzV q9_0 q9_2 s_X10_ended q1_8 q9_3
theorem hd_X10_isNot : yX10_isNot.cls = RX10 ∧ yX10_isNot.cls ≠ "java/lang/invoke/MethodHandle" ∧ yX10_isNot.cls ≠ "java/lang/invoke/VarHandle" ∧ (parseMethodDescriptor yX10_isNot.desc).map (fun d => d.parameters.length) = some 1 := by decide +kernel
theorem gV_X10_X10_isNot : GoodIn WT (wsV RX10 453 RX10 yX10_isNot (.code yX10_isNot cX10_isNot 2 (some FieldType.boolean) :: WT)) := gzV q9_20 q9_22 s_X10_isNot q1_8 q9_23
theorem hd_X10_runMany : yX10_runMany.cls = RX10 ∧ yX10_runMany.cls ≠ "java/lang/invoke/MethodHandle" ∧ yX10_runMany.cls ≠ "java/lang/invoke/VarHandle" ∧ (parseMethodDescriptor yX10_runMany.desc).map (fun d => d.parameters.length) = some 0 := by decide +kernel
theorem gV_X10_X10_runMany : GoodIn WT (wsV RX10 456 RX10 yX10_runMany (.code yX10_runMany cX10_runMany 3 (some FieldType.int) :: WT)) := gzV q9_40 q9_42 s_X10_runMany q1_8 q9_43
def f_X10_drop (St : SMo) (St_r : Nat → Int32) (St_st : Nat → Int32) (St_trial : Nat → Int32) (St_undone : Nat → Int32) (x1 : Int32) (x2 : Int32) : Option (Int32 × SMo × (Nat → Int32) × (Nat → Int32) × (Nat → Int32)) :=
  (f_X10_anew St).bind (fun q1 =>
    (f_X10_isSlot q1 St_st x1).bind (fun q2 =>
      (if q2 = 0 then
        (f_X10_no q1 (1 : Int32)).bind (fun q3 =>
          some (q3.1, q3.2, St_st, St_trial, St_undone))
        else
        (f_X10_isRow q1 St_r x2).bind (fun q4 =>
          (if q4 = 0 then
            (f_X10_no q1 (1 : Int32)).bind (fun q9 =>
              some (q9.1, q9.2, St_st, St_trial, St_undone))
            else
            (f_X10_tryOn q1 St_st St_trial).bind (fun q5 =>
              (f_X10_dropOn q1 q5 x1 x2).bind (fun q6 =>
                (if (Mo_refused q6.2.1) = 0 then
                  (f_X10_become q6.2.1 St_st q6.2.2 St_undone).bind (fun q7 =>
                    some (q6.1, q7.1, q7.2.1, q6.2.2, q7.2.2))
                  else
                  (f_X10_no q6.2.1 (Mo_refused q6.2.1)).bind (fun q8 =>
                    some (q8.1, q8.2, St_st, q6.2.2, St_undone))))))))))
set_option maxHeartbeats 4000000 in
set_option maxRecDepth 100000 in
theorem c_X10_drop (l : Launch) (D : va_G) (cy : Nat → ClassId) (ht : Nat → Nat) (St : SMo) (St_r : Nat → Int32) (St_st : Nat → Int32) (St_trial : Nat → Int32) (St_undone : Nat → Int32) (x1 : Int32) (x2 : Int32) (r : Int32 × SMo × (Nat → Int32) × (Nat → Int32) × (Nat → Int32)) (hf : f_X10_drop St St_r St_st St_trial St_undone x1 x2 = some r) : zCI l yX10_drop cX10_drop 4 (some FieldType.int) 8 192 D (zty cy) [.ref (ht 0), .int x1, .int x2] (wMo ht cy St ++ (wAI (fun _ => ht 3) cy 140 St_r ++ (wAI (fun _ => ht 9) cy 325 St_st ++ (wAI (fun _ => ht 10) cy 325 St_trial ++ (wAI (fun _ => ht 11) cy 5200 St_undone))))) (wMo ht cy r.2.1 ++ (wAI (fun _ => ht 3) cy 140 St_r ++ (wAI (fun _ => ht 9) cy 325 r.2.2.1 ++ (wAI (fun _ => ht 10) cy 325 r.2.2.2.1 ++ (wAI (fun _ => ht 11) cy 5200 r.2.2.2.2))))) r.1 := by
  refine zCI_of (by decide +kernel) (Nat.le_of_ble_eq_true rfl) ?_
  intro p e s m below meth c A ls C hP hD hS hl
  generalize hargs : ([.ref (ht 0), .int x1, .int x2] : List Value).toArray = args at C ⊢
  have C : zX p s m meth c cX10_drop 4 args RX10 (some FieldType.int) A D (zty cy) := C
  obtain ⟨hx, hb, hr, hts, hown, hlocks, hml, hA, hK⟩ := id C
  have hl : lv_has ls 4 [(0, .ref (ht 0)), (1, .int x1), (2, .int x2)] := hl
  generalize hH : s.heap = H at hP ⊢
  have hS : va_S A s.heap H [] := by rw [← hH]; exact hS
  generalize ([] : List Loc) = locs at hS ⊢
  refine lv_aload_n hx hb dX10_drop_0 rfl (lv_at hl 0 rfl) ?_
  obtain ⟨q1, hc, hf⟩ := zbd hf
  refine z_cVv (As := []) (rest := []) C (c_X10_anew l D cy ht St q1 hc) gV_X10_X10_anew hd_X10_anew ⟨Nat.le_of_ble_eq_true rfl, Nat.le_of_ble_eq_true rfl⟩ ⟨Nat.le_refl _, Nat.le_refl _⟩ (va_recv hK hP (ci := 6) (q0 := 0) rfl rfl) hP hD hS (w2 := wMo ht cy q1 ++ (wAI (fun _ => ht 3) cy 140 St_r ++ (wAI (fun _ => ht 9) cy 325 St_st ++ (wAI (fun _ => ht 10) cy 325 St_trial ++ (wAI (fun _ => ht 11) cy 5200 St_undone))))) [0] [1, 2, 3, 4] [4, 0, 1, 2, 3] rfl rfl rfl rfl rfl rfl (by decide) hl.1 (Nat.le_of_ble_eq_true rfl) dX10_drop_1 (fun H locs hP hD hS => ?_)
  refine lv_aload_n hx hb dX10_drop_4 rfl (lv_at hl 0 rfl) ?_
  refine lv_iload_n hx hb dX10_drop_5 rfl (lv_at hl 1 rfl) ?_
  obtain ⟨q2, hc, hf⟩ := zbd hf
  refine z_cVi (As := [.int x1]) (rest := []) C (c_X10_isSlot l D cy ht q1 St_st x1 q2 hc) gV_X10_X10_isSlot hd_X10_isSlot ⟨Nat.le_of_ble_eq_true rfl, Nat.le_of_ble_eq_true rfl⟩ ⟨Nat.le_refl _, Nat.le_refl _⟩ (va_recv hK hP (ci := 6) (q0 := 0) rfl rfl) hP hD hS (w2 := wMo ht cy q1 ++ (wAI (fun _ => ht 3) cy 140 St_r ++ (wAI (fun _ => ht 9) cy 325 St_st ++ (wAI (fun _ => ht 10) cy 325 St_trial ++ (wAI (fun _ => ht 11) cy 5200 St_undone))))) [0, 2] [1, 3, 4] [3, 0, 4, 1, 2] rfl rfl rfl rfl rfl rfl (by decide) hl.1 (Nat.le_of_ble_eq_true rfl) dX10_drop_6 (fun H locs hP hD hS => ?_)
  refine z_if_eq (tgt := 20) hx hb dX10_drop_9 (by decide) hf (fun hf => ?_) (fun hf => ?_)
  · refine lv_aload_n hx hb dX10_drop_20 rfl (lv_at hl 0 rfl) ?_
    refine lv_iconst (v := (1 : Int32)) hx hb dX10_drop_21 (by decide) ?_
    obtain ⟨q3, hc, hf⟩ := zbd hf
    refine z_cVi (As := [.int (1 : Int32)]) (rest := []) C (c_X10_no l D cy ht q1 (1 : Int32) q3 hc) gV_X10_X10_no hd_X10_no ⟨Nat.le_of_ble_eq_true rfl, Nat.le_of_ble_eq_true rfl⟩ ⟨Nat.le_refl _, Nat.le_refl _⟩ (va_recv hK hP (ci := 6) (q0 := 0) rfl rfl) hP hD hS (w2 := wMo ht cy q3.2 ++ (wAI (fun _ => ht 3) cy 140 St_r ++ (wAI (fun _ => ht 9) cy 325 St_st ++ (wAI (fun _ => ht 10) cy 325 St_trial ++ (wAI (fun _ => ht 11) cy 5200 St_undone))))) [0] [1, 2, 3, 4] [4, 0, 1, 2, 3] rfl rfl rfl rfl rfl rfl (by decide) hl.1 (Nat.le_of_ble_eq_true rfl) dX10_drop_22 (fun H locs hP hD hS => ?_)
    obtain rfl := Option.some.inj hf
    exact z_iret (v := q3.1) C hP hD hS dX10_drop_25
  · refine lv_aload_n hx hb dX10_drop_12 rfl (lv_at hl 0 rfl) ?_
    refine lv_iload_n hx hb dX10_drop_13 rfl (lv_at hl 2 rfl) ?_
    obtain ⟨q4, hc, hf⟩ := zbd hf
    refine z_cVi (As := [.int x2]) (rest := []) C (c_X10_isRow l D cy ht q1 St_r x2 q4 hc) gV_X10_X10_isRow hd_X10_isRow ⟨Nat.le_of_ble_eq_true rfl, Nat.le_of_ble_eq_true rfl⟩ ⟨Nat.le_refl _, Nat.le_refl _⟩ (va_recv hK hP (ci := 6) (q0 := 0) rfl rfl) hP hD hS (w2 := wMo ht cy q1 ++ (wAI (fun _ => ht 3) cy 140 St_r ++ (wAI (fun _ => ht 9) cy 325 St_st ++ (wAI (fun _ => ht 10) cy 325 St_trial ++ (wAI (fun _ => ht 11) cy 5200 St_undone))))) [0, 1] [2, 3, 4] [3, 4, 0, 1, 2] rfl rfl rfl rfl rfl rfl (by decide) hl.1 (Nat.le_of_ble_eq_true rfl) dX10_drop_14 (fun H locs hP hD hS => ?_)
    refine z_if_ne (tgt := 26) hx hb dX10_drop_17 (by decide) hf (fun hf => ?_) (fun hf => ?_)
    · refine lv_aload_n hx hb dX10_drop_26 rfl (lv_at hl 0 rfl) ?_
      obtain ⟨q5, hc, hf⟩ := zbd hf
      refine z_cVv (As := []) (rest := []) C (c_X10_tryOn l D cy ht q1 St_st St_trial q5 hc) gV_X10_X10_tryOn hd_X10_tryOn ⟨Nat.le_of_ble_eq_true rfl, Nat.le_of_ble_eq_true rfl⟩ ⟨Nat.le_refl _, Nat.le_refl _⟩ (va_recv hK hP (ci := 6) (q0 := 0) rfl rfl) hP hD hS (w2 := wMo ht cy q1 ++ (wAI (fun _ => ht 3) cy 140 St_r ++ (wAI (fun _ => ht 9) cy 325 St_st ++ (wAI (fun _ => ht 10) cy 325 q5 ++ (wAI (fun _ => ht 11) cy 5200 St_undone))))) [0, 2, 3] [1, 4] [2, 0, 3, 4, 1] rfl rfl rfl rfl rfl rfl (by decide) hl.1 (Nat.le_of_ble_eq_true rfl) dX10_drop_27 (fun H locs hP hD hS => ?_)
      refine lv_aload_n hx hb dX10_drop_30 rfl (lv_at hl 0 rfl) ?_
      refine lv_aload_n hx hb dX10_drop_31 rfl (lv_at hl 0 rfl) ?_
      refine va_get (D := D) (ci := 6) (v := .ref (ht 10)) (C := RX10) (T := TX10) (N := 41) hx hb hts in_X10 hown hK hP 0 rfl rfl 22 (by decide) (hts _ q6_67) (fun _ h9 => h9) rfl dX10_drop_32 ?_
      refine lv_iload_n hx hb dX10_drop_35 rfl (lv_at hl 1 rfl) ?_
      refine lv_iload_n hx hb dX10_drop_36 rfl (lv_at hl 2 rfl) ?_
      obtain ⟨q6, hc, hf⟩ := zbd hf
      refine z_cVi (As := [.ref (ht 10), .int x1, .int x2]) (rest := []) C (c_X10_dropOn l D cy ht (fun _ => ht 10) q1 q5 x1 x2 q6 hc) gV_X10_X10_dropOn hd_X10_dropOn ⟨Nat.le_of_ble_eq_true rfl, Nat.le_of_ble_eq_true rfl⟩ ⟨Nat.le_refl _, Nat.le_refl _⟩ (va_recv hK hP (ci := 6) (q0 := 0) rfl rfl) hP hD hS (w2 := wMo ht cy q6.2.1 ++ (wAI (fun _ => ht 3) cy 140 St_r ++ (wAI (fun _ => ht 9) cy 325 St_st ++ (wAI (fun _ => ht 10) cy 325 q6.2.2 ++ (wAI (fun _ => ht 11) cy 5200 St_undone))))) [0, 3] [1, 2, 4] [3, 0, 1, 4, 2] rfl rfl rfl rfl rfl rfl (by decide) hl.1 (Nat.le_of_ble_eq_true rfl) dX10_drop_37 (fun H locs hP hD hS => ?_)
      refine lv_istore_n (lv' := [(3, .int q6.1), (0, .ref (ht 0)), (1, .int x1), (2, .int x2)]) hx hb dX10_drop_40 rfl hl (by decide) rfl (fun ls hl => ?_)
      refine lv_aload_n hx hb dX10_drop_41 rfl (lv_at hl 1 rfl) ?_
      refine va_get (D := D) (ci := 6) (v := .int (Mo_refused q6.2.1)) (C := RX10) (T := TX10) (N := 41) hx hb hts in_X10 hown hK hP 0 rfl rfl 28 (by decide) (hts _ q6_73) (fun _ h9 => h9) rfl dX10_drop_42 ?_
      refine z_if_eq (tgt := 57) hx hb dX10_drop_45 (by decide) hf (fun hf => ?_) (fun hf => ?_)
      · refine lv_aload_n hx hb dX10_drop_57 rfl (lv_at hl 1 rfl) ?_
        obtain ⟨q7, hc, hf⟩ := zbd hf
        refine z_cVv (As := []) (rest := []) C (c_X10_become l D cy ht q6.2.1 St_st q6.2.2 St_undone q7 hc) gV_X10_X10_become hd_X10_become ⟨Nat.le_of_ble_eq_true rfl, Nat.le_of_ble_eq_true rfl⟩ ⟨Nat.le_refl _, Nat.le_refl _⟩ (va_recv hK hP (ci := 6) (q0 := 0) rfl rfl) hP hD hS (w2 := wMo ht cy q7.1 ++ (wAI (fun _ => ht 3) cy 140 St_r ++ (wAI (fun _ => ht 9) cy 325 q7.2.1 ++ (wAI (fun _ => ht 10) cy 325 q6.2.2 ++ (wAI (fun _ => ht 11) cy 5200 q7.2.2))))) [0, 2, 3, 4] [1] [1, 0, 2, 3, 4] rfl rfl rfl rfl rfl rfl (by decide) hl.1 (Nat.le_of_ble_eq_true rfl) dX10_drop_58 (fun H locs hP hD hS => ?_)
        refine lv_iload_n hx hb dX10_drop_61 rfl (lv_at hl 0 rfl) ?_
        obtain rfl := Option.some.inj hf
        exact z_iret (v := q6.1) C hP hD hS dX10_drop_62
      · refine lv_aload_n hx hb dX10_drop_48 rfl (lv_at hl 1 rfl) ?_
        refine lv_aload_n hx hb dX10_drop_49 rfl (lv_at hl 1 rfl) ?_
        refine va_get (D := D) (ci := 6) (v := .int (Mo_refused q6.2.1)) (C := RX10) (T := TX10) (N := 41) hx hb hts in_X10 hown hK hP 0 rfl rfl 28 (by decide) (hts _ q6_73) (fun _ h9 => h9) rfl dX10_drop_50 ?_
        obtain ⟨q8, hc, hf⟩ := zbd hf
        refine z_cVi (As := [.int (Mo_refused q6.2.1)]) (rest := []) C (c_X10_no l D cy ht q6.2.1 (Mo_refused q6.2.1) q8 hc) gV_X10_X10_no hd_X10_no ⟨Nat.le_of_ble_eq_true rfl, Nat.le_of_ble_eq_true rfl⟩ ⟨Nat.le_refl _, Nat.le_refl _⟩ (va_recv hK hP (ci := 6) (q0 := 0) rfl rfl) hP hD hS (w2 := wMo ht cy q8.2 ++ (wAI (fun _ => ht 3) cy 140 St_r ++ (wAI (fun _ => ht 9) cy 325 St_st ++ (wAI (fun _ => ht 10) cy 325 q6.2.2 ++ (wAI (fun _ => ht 11) cy 5200 St_undone))))) [0] [1, 2, 3, 4] [4, 0, 1, 2, 3] rfl rfl rfl rfl rfl rfl (by decide) hl.1 (Nat.le_of_ble_eq_true rfl) dX10_drop_53 (fun H locs hP hD hS => ?_)
        obtain rfl := Option.some.inj hf
        exact z_iret (v := q8.1) C hP hD hS dX10_drop_56
    · refine lv_aload_n hx hb dX10_drop_20 rfl (lv_at hl 0 rfl) ?_
      refine lv_iconst (v := (1 : Int32)) hx hb dX10_drop_21 (by decide) ?_
      obtain ⟨q9, hc, hf⟩ := zbd hf
      refine z_cVi (As := [.int (1 : Int32)]) (rest := []) C (c_X10_no l D cy ht q1 (1 : Int32) q9 hc) gV_X10_X10_no hd_X10_no ⟨Nat.le_of_ble_eq_true rfl, Nat.le_of_ble_eq_true rfl⟩ ⟨Nat.le_refl _, Nat.le_refl _⟩ (va_recv hK hP (ci := 6) (q0 := 0) rfl rfl) hP hD hS (w2 := wMo ht cy q9.2 ++ (wAI (fun _ => ht 3) cy 140 St_r ++ (wAI (fun _ => ht 9) cy 325 St_st ++ (wAI (fun _ => ht 10) cy 325 St_trial ++ (wAI (fun _ => ht 11) cy 5200 St_undone))))) [0] [1, 2, 3, 4] [4, 0, 1, 2, 3] rfl rfl rfl rfl rfl rfl (by decide) hl.1 (Nat.le_of_ble_eq_true rfl) dX10_drop_22 (fun H locs hP hD hS => ?_)
      obtain rfl := Option.some.inj hf
      exact z_iret (v := q9.1) C hP hD hS dX10_drop_25
def f_X10_ended (St : SMo) (St_st : Nat → Int32) (St_trial : Nat → Int32) (St_undone : Nat → Int32) (x1 : Int32) (x2 : Int32) : Option (Int32 × SMo × (Nat → Int32) × (Nat → Int32) × (Nat → Int32)) :=
  (f_X10_tryOn St St_st St_trial).bind (fun q1 =>
    (f_X10_endOn q1 x1 x2).bind (fun q2 =>
      (f_X10_become St St_st q2.2 St_undone).bind (fun q3 =>
        some (q2.1, q3.1, q3.2.1, q2.2, q3.2.2))))
set_option maxHeartbeats 4000000 in
set_option maxRecDepth 100000 in
theorem c_X10_ended (l : Launch) (D : va_G) (cy : Nat → ClassId) (ht : Nat → Nat) (St : SMo) (St_st : Nat → Int32) (St_trial : Nat → Int32) (St_undone : Nat → Int32) (x1 : Int32) (x2 : Int32) (r : Int32 × SMo × (Nat → Int32) × (Nat → Int32) × (Nat → Int32)) (hf : f_X10_ended St St_st St_trial St_undone x1 x2 = some r) : zCI l yX10_ended cX10_ended 4 (some FieldType.int) 2 46 D (zty cy) [.ref (ht 0), .int x1, .int x2] (wMo ht cy St ++ (wAI (fun _ => ht 9) cy 325 St_st ++ (wAI (fun _ => ht 10) cy 325 St_trial ++ (wAI (fun _ => ht 11) cy 5200 St_undone)))) (wMo ht cy r.2.1 ++ (wAI (fun _ => ht 9) cy 325 r.2.2.1 ++ (wAI (fun _ => ht 10) cy 325 r.2.2.2.1 ++ (wAI (fun _ => ht 11) cy 5200 r.2.2.2.2)))) r.1 := by
  refine zCI_of (by decide +kernel) (Nat.le_of_ble_eq_true rfl) ?_
  intro p e s m below meth c A ls C hP hD hS hl
  generalize hargs : ([.ref (ht 0), .int x1, .int x2] : List Value).toArray = args at C ⊢
  have C : zX p s m meth c cX10_ended 4 args RX10 (some FieldType.int) A D (zty cy) := C
  obtain ⟨hx, hb, hr, hts, hown, hlocks, hml, hA, hK⟩ := id C
  have hl : lv_has ls 4 [(0, .ref (ht 0)), (1, .int x1), (2, .int x2)] := hl
  generalize hH : s.heap = H at hP ⊢
  have hS : va_S A s.heap H [] := by rw [← hH]; exact hS
  generalize ([] : List Loc) = locs at hS ⊢
  refine lv_aload_n hx hb dX10_ended_0 rfl (lv_at hl 0 rfl) ?_
  obtain ⟨q1, hc, hf⟩ := zbd hf
  refine z_cVv (As := []) (rest := []) C (c_X10_tryOn l D cy ht St St_st St_trial q1 hc) gV_X10_X10_tryOn hd_X10_tryOn ⟨Nat.le_of_ble_eq_true rfl, Nat.le_of_ble_eq_true rfl⟩ ⟨Nat.le_refl _, Nat.le_refl _⟩ (va_recv hK hP (ci := 6) (q0 := 0) rfl rfl) hP hD hS (w2 := wMo ht cy St ++ (wAI (fun _ => ht 9) cy 325 St_st ++ (wAI (fun _ => ht 10) cy 325 q1 ++ (wAI (fun _ => ht 11) cy 5200 St_undone)))) [0, 1, 2] [3] [1, 2, 3, 0] rfl rfl rfl rfl rfl rfl (by decide) hl.1 (Nat.le_of_ble_eq_true rfl) dX10_ended_1 (fun H locs hP hD hS => ?_)
  refine lv_aload_n hx hb dX10_ended_4 rfl (lv_at hl 0 rfl) ?_
  refine lv_aload_n hx hb dX10_ended_5 rfl (lv_at hl 0 rfl) ?_
  refine va_get (D := D) (ci := 6) (v := .ref (ht 10)) (C := RX10) (T := TX10) (N := 41) hx hb hts in_X10 hown hK hP 0 rfl rfl 22 (by decide) (hts _ q6_67) (fun _ h9 => h9) rfl dX10_ended_6 ?_
  refine lv_iload_n hx hb dX10_ended_9 rfl (lv_at hl 1 rfl) ?_
  refine lv_iload_n hx hb dX10_ended_10 rfl (lv_at hl 2 rfl) ?_
  obtain ⟨q2, hc, hf⟩ := zbd hf
  refine z_cVi (As := [.ref (ht 10), .int x1, .int x2]) (rest := []) C (c_X10_endOn l D cy ht (fun _ => ht 10) q1 x1 x2 q2 hc) gV_X10_X10_endOn hd_X10_endOn ⟨Nat.le_of_ble_eq_true rfl, Nat.le_of_ble_eq_true rfl⟩ ⟨Nat.le_refl _, Nat.le_refl _⟩ (va_recv hK hP (ci := 6) (q0 := 0) rfl rfl) hP hD hS (w2 := wMo ht cy St ++ (wAI (fun _ => ht 9) cy 325 St_st ++ (wAI (fun _ => ht 10) cy 325 q2.2 ++ (wAI (fun _ => ht 11) cy 5200 St_undone)))) [2] [0, 1, 3] [0, 1, 3, 2] rfl rfl rfl rfl rfl rfl (by decide) hl.1 (Nat.le_of_ble_eq_true rfl) dX10_ended_11 (fun H locs hP hD hS => ?_)
  refine lv_istore_n (lv' := [(3, .int q2.1), (0, .ref (ht 0)), (1, .int x1), (2, .int x2)]) hx hb dX10_ended_14 rfl hl (by decide) rfl (fun ls hl => ?_)
  refine lv_aload_n hx hb dX10_ended_15 rfl (lv_at hl 1 rfl) ?_
  obtain ⟨q3, hc, hf⟩ := zbd hf
  refine z_cVv0 (As := []) (rest := []) C (c_X10_become l D cy ht St St_st q2.2 St_undone q3 hc) gV_X10_X10_become hd_X10_become ⟨Nat.le_of_ble_eq_true rfl, Nat.le_of_ble_eq_true rfl⟩ ⟨Nat.le_refl _, Nat.le_refl _⟩ (va_recv hK hP (ci := 6) (q0 := 0) rfl rfl) hP hD hS hl.1 (Nat.le_of_ble_eq_true rfl) dX10_ended_16 (fun H locs hP hD hS => ?_)
  have hP : va_P D vwCl (wMo ht cy q3.1 ++ (wAI (fun _ => ht 9) cy 325 q3.2.1 ++ (wAI (fun _ => ht 10) cy 325 q2.2 ++ (wAI (fun _ => ht 11) cy 5200 q3.2.2)))) H := hP
  have hD : va_D A (wMo ht cy q3.1 ++ (wAI (fun _ => ht 9) cy 325 q3.2.1 ++ (wAI (fun _ => ht 10) cy 325 q2.2 ++ (wAI (fun _ => ht 11) cy 5200 q3.2.2)))) := hD
  refine lv_iload_n hx hb dX10_ended_19 rfl (lv_at hl 0 rfl) ?_
  obtain rfl := Option.some.inj hf
  exact z_iret (v := q2.1) C hP hD hS dX10_ended_20
def f_X10_done (St : SMo) (St_st : Nat → Int32) (St_trial : Nat → Int32) (St_undone : Nat → Int32) (x1 : Int32) : Option (Int32 × SMo × (Nat → Int32) × (Nat → Int32) × (Nat → Int32)) :=
  (f_X10_anew St).bind (fun q1 =>
    (f_X10_isSlot q1 St_st x1).bind (fun q2 =>
      (if q2 = 0 then
        (f_X10_no q1 (1 : Int32)).bind (fun q6 =>
          some (q6.1, q6.2, St_st, St_trial, St_undone))
        else
        (if zib (310 : Int32) 325 then (f_X10_hasBit (St_st (310 : Int32).toNatClampNeg) x1).bind (fun q3 =>
            (if q3 = 0 then
              (f_X10_ended q1 St_st St_trial St_undone x1 (2 : Int32)).bind (fun q4 =>
                some (q4.1, q4.2.1, q4.2.2.1, q4.2.2.2.1, q4.2.2.2.2))
              else
              (f_X10_no q1 (5 : Int32)).bind (fun q5 =>
                some (q5.1, q5.2, St_st, St_trial, St_undone)))) else none))))
set_option maxHeartbeats 4000000 in
set_option maxRecDepth 100000 in
theorem c_X10_done (l : Launch) (D : va_G) (cy : Nat → ClassId) (ht : Nat → Nat) (St : SMo) (St_st : Nat → Int32) (St_trial : Nat → Int32) (St_undone : Nat → Int32) (x1 : Int32) (r : Int32 × SMo × (Nat → Int32) × (Nat → Int32) × (Nat → Int32)) (hf : f_X10_done St St_st St_trial St_undone x1 = some r) : zCI l yX10_done cX10_done 2 (some FieldType.int) 3 69 D (zty cy) [.ref (ht 0), .int x1] (wMo ht cy St ++ (wAI (fun _ => ht 9) cy 325 St_st ++ (wAI (fun _ => ht 10) cy 325 St_trial ++ (wAI (fun _ => ht 11) cy 5200 St_undone)))) (wMo ht cy r.2.1 ++ (wAI (fun _ => ht 9) cy 325 r.2.2.1 ++ (wAI (fun _ => ht 10) cy 325 r.2.2.2.1 ++ (wAI (fun _ => ht 11) cy 5200 r.2.2.2.2)))) r.1 := by
  refine zCI_of (by decide +kernel) (Nat.le_of_ble_eq_true rfl) ?_
  intro p e s m below meth c A ls C hP hD hS hl
  generalize hargs : ([.ref (ht 0), .int x1] : List Value).toArray = args at C ⊢
  have C : zX p s m meth c cX10_done 2 args RX10 (some FieldType.int) A D (zty cy) := C
  obtain ⟨hx, hb, hr, hts, hown, hlocks, hml, hA, hK⟩ := id C
  have hl : lv_has ls 2 [(0, .ref (ht 0)), (1, .int x1)] := hl
  generalize hH : s.heap = H at hP ⊢
  have hS : va_S A s.heap H [] := by rw [← hH]; exact hS
  generalize ([] : List Loc) = locs at hS ⊢
  refine lv_aload_n hx hb dX10_done_0 rfl (lv_at hl 0 rfl) ?_
  obtain ⟨q1, hc, hf⟩ := zbd hf
  refine z_cVv (As := []) (rest := []) C (c_X10_anew l D cy ht St q1 hc) gV_X10_X10_anew hd_X10_anew ⟨Nat.le_of_ble_eq_true rfl, Nat.le_of_ble_eq_true rfl⟩ ⟨Nat.le_refl _, Nat.le_refl _⟩ (va_recv hK hP (ci := 6) (q0 := 0) rfl rfl) hP hD hS (w2 := wMo ht cy q1 ++ (wAI (fun _ => ht 9) cy 325 St_st ++ (wAI (fun _ => ht 10) cy 325 St_trial ++ (wAI (fun _ => ht 11) cy 5200 St_undone)))) [0] [1, 2, 3] [3, 0, 1, 2] rfl rfl rfl rfl rfl rfl (by decide) hl.1 (Nat.le_of_ble_eq_true rfl) dX10_done_1 (fun H locs hP hD hS => ?_)
  refine lv_aload_n hx hb dX10_done_4 rfl (lv_at hl 0 rfl) ?_
  refine lv_iload_n hx hb dX10_done_5 rfl (lv_at hl 1 rfl) ?_
  obtain ⟨q2, hc, hf⟩ := zbd hf
  refine z_cVi (As := [.int x1]) (rest := []) C (c_X10_isSlot l D cy ht q1 St_st x1 q2 hc) gV_X10_X10_isSlot hd_X10_isSlot ⟨Nat.le_of_ble_eq_true rfl, Nat.le_of_ble_eq_true rfl⟩ ⟨Nat.le_refl _, Nat.le_refl _⟩ (va_recv hK hP (ci := 6) (q0 := 0) rfl rfl) hP hD hS (w2 := wMo ht cy q1 ++ (wAI (fun _ => ht 9) cy 325 St_st ++ (wAI (fun _ => ht 10) cy 325 St_trial ++ (wAI (fun _ => ht 11) cy 5200 St_undone)))) [0, 1] [2, 3] [2, 3, 0, 1] rfl rfl rfl rfl rfl rfl (by decide) hl.1 (Nat.le_of_ble_eq_true rfl) dX10_done_6 (fun H locs hP hD hS => ?_)
  refine z_if_ne (tgt := 18) hx hb dX10_done_9 (by decide) hf (fun hf => ?_) (fun hf => ?_)
  · refine lv_aload_n hx hb dX10_done_18 rfl (lv_at hl 0 rfl) ?_
    refine va_get (D := D) (ci := 6) (v := .ref (ht 9)) (C := RX10) (T := TX10) (N := 41) hx hb hts in_X10 hown hK hP 0 rfl rfl 21 (by decide) (hts _ q6_66) (fun _ h9 => h9) rfl dX10_done_19 ?_
    refine lv_sipush (v := (310 : Int32)) hx hb dX10_done_22 (by decide) ?_
    refine z_iald (f := St_st) hx hb hK hP 1 0 rfl rfl dX10_done_25 hf (fun hf => ?_)
    refine lv_iload_n hx hb dX10_done_26 rfl (lv_at hl 1 rfl) ?_
    obtain ⟨q3, hc, hf⟩ := zbd hf
    refine z_cSiE (As := [.int (St_st (310 : Int32).toNatClampNeg), .int x1]) (rest := []) C (c_X10_hasBit l D cy (St_st (310 : Int32).toNatClampNeg) x1 q3 hc) gS_X10_X10_hasBit hd_X10_hasBit ⟨Nat.le_of_ble_eq_true rfl, Nat.le_of_ble_eq_true rfl⟩ ⟨Nat.le_refl _, Nat.le_refl _⟩ hP hD hS hl.1 (Nat.le_of_ble_eq_true rfl) dX10_done_27 (fun H locs hP hD hS => ?_)
    refine z_if_eq (tgt := 41) hx hb dX10_done_30 (by decide) hf (fun hf => ?_) (fun hf => ?_)
    · refine lv_aload_n hx hb dX10_done_41 rfl (lv_at hl 0 rfl) ?_
      refine lv_iload_n hx hb dX10_done_42 rfl (lv_at hl 1 rfl) ?_
      refine lv_iconst (v := (2 : Int32)) hx hb dX10_done_43 (by decide) ?_
      obtain ⟨q4, hc, hf⟩ := zbd hf
      refine z_cVi0 (As := [.int x1, .int (2 : Int32)]) (rest := []) C (c_X10_ended l D cy ht q1 St_st St_trial St_undone x1 (2 : Int32) q4 hc) gV_X10_X10_ended hd_X10_ended ⟨Nat.le_of_ble_eq_true rfl, Nat.le_of_ble_eq_true rfl⟩ ⟨Nat.le_refl _, Nat.le_refl _⟩ (va_recv hK hP (ci := 6) (q0 := 0) rfl rfl) hP hD hS hl.1 (Nat.le_of_ble_eq_true rfl) dX10_done_44 (fun H locs hP hD hS => ?_)
      have hP : va_P D vwCl (wMo ht cy q4.2.1 ++ (wAI (fun _ => ht 9) cy 325 q4.2.2.1 ++ (wAI (fun _ => ht 10) cy 325 q4.2.2.2.1 ++ (wAI (fun _ => ht 11) cy 5200 q4.2.2.2.2)))) H := hP
      have hD : va_D A (wMo ht cy q4.2.1 ++ (wAI (fun _ => ht 9) cy 325 q4.2.2.1 ++ (wAI (fun _ => ht 10) cy 325 q4.2.2.2.1 ++ (wAI (fun _ => ht 11) cy 5200 q4.2.2.2.2)))) := hD
      obtain rfl := Option.some.inj hf
      exact z_iret (v := q4.1) C hP hD hS dX10_done_47
    · refine lv_aload_n hx hb dX10_done_33 rfl (lv_at hl 0 rfl) ?_
      refine lv_iconst (v := (5 : Int32)) hx hb dX10_done_34 (by decide) ?_
      obtain ⟨q5, hc, hf⟩ := zbd hf
      refine z_cVi (As := [.int (5 : Int32)]) (rest := []) C (c_X10_no l D cy ht q1 (5 : Int32) q5 hc) gV_X10_X10_no hd_X10_no ⟨Nat.le_of_ble_eq_true rfl, Nat.le_of_ble_eq_true rfl⟩ ⟨Nat.le_refl _, Nat.le_refl _⟩ (va_recv hK hP (ci := 6) (q0 := 0) rfl rfl) hP hD hS (w2 := wMo ht cy q5.2 ++ (wAI (fun _ => ht 9) cy 325 St_st ++ (wAI (fun _ => ht 10) cy 325 St_trial ++ (wAI (fun _ => ht 11) cy 5200 St_undone)))) [0] [1, 2, 3] [3, 0, 1, 2] rfl rfl rfl rfl rfl rfl (by decide) hl.1 (Nat.le_of_ble_eq_true rfl) dX10_done_35 (fun H locs hP hD hS => ?_)
      refine lv_goto (tgt := 47) hx hb dX10_done_38 (by decide) ?_
      obtain rfl := Option.some.inj hf
      exact z_iret (v := q5.1) C hP hD hS dX10_done_47
  · refine lv_aload_n hx hb dX10_done_12 rfl (lv_at hl 0 rfl) ?_
    refine lv_iconst (v := (1 : Int32)) hx hb dX10_done_13 (by decide) ?_
    obtain ⟨q6, hc, hf⟩ := zbd hf
    refine z_cVi (As := [.int (1 : Int32)]) (rest := []) C (c_X10_no l D cy ht q1 (1 : Int32) q6 hc) gV_X10_X10_no hd_X10_no ⟨Nat.le_of_ble_eq_true rfl, Nat.le_of_ble_eq_true rfl⟩ ⟨Nat.le_refl _, Nat.le_refl _⟩ (va_recv hK hP (ci := 6) (q0 := 0) rfl rfl) hP hD hS (w2 := wMo ht cy q6.2 ++ (wAI (fun _ => ht 9) cy 325 St_st ++ (wAI (fun _ => ht 10) cy 325 St_trial ++ (wAI (fun _ => ht 11) cy 5200 St_undone)))) [0] [1, 2, 3] [3, 0, 1, 2] rfl rfl rfl rfl rfl rfl (by decide) hl.1 (Nat.le_of_ble_eq_true rfl) dX10_done_14 (fun H locs hP hD hS => ?_)
    obtain rfl := Option.some.inj hf
    exact z_iret (v := q6.1) C hP hD hS dX10_done_17
def f_X10_gone (St : SMo) (St_st : Nat → Int32) (St_trial : Nat → Int32) (St_undone : Nat → Int32) (x1 : Int32) : Option (Int32 × SMo × (Nat → Int32) × (Nat → Int32) × (Nat → Int32)) :=
  (f_X10_anew St).bind (fun q1 =>
    (f_X10_isSlot q1 St_st x1).bind (fun q2 =>
      (if q2 = 0 then
        (f_X10_no q1 (1 : Int32)).bind (fun q3 =>
          some (q3.1, q3.2, St_st, St_trial, St_undone))
        else
        (f_X10_ended q1 St_st St_trial St_undone x1 (3 : Int32)).bind (fun q4 =>
          some (q4.1, q4.2.1, q4.2.2.1, q4.2.2.2.1, q4.2.2.2.2)))))
set_option maxHeartbeats 4000000 in
set_option maxRecDepth 100000 in
theorem c_X10_gone (l : Launch) (D : va_G) (cy : Nat → ClassId) (ht : Nat → Nat) (St : SMo) (St_st : Nat → Int32) (St_trial : Nat → Int32) (St_undone : Nat → Int32) (x1 : Int32) (r : Int32 × SMo × (Nat → Int32) × (Nat → Int32) × (Nat → Int32)) (hf : f_X10_gone St St_st St_trial St_undone x1 = some r) : zCI l yX10_gone cX10_gone 2 (some FieldType.int) 3 69 D (zty cy) [.ref (ht 0), .int x1] (wMo ht cy St ++ (wAI (fun _ => ht 9) cy 325 St_st ++ (wAI (fun _ => ht 10) cy 325 St_trial ++ (wAI (fun _ => ht 11) cy 5200 St_undone)))) (wMo ht cy r.2.1 ++ (wAI (fun _ => ht 9) cy 325 r.2.2.1 ++ (wAI (fun _ => ht 10) cy 325 r.2.2.2.1 ++ (wAI (fun _ => ht 11) cy 5200 r.2.2.2.2)))) r.1 := by
  refine zCI_of (by decide +kernel) (Nat.le_of_ble_eq_true rfl) ?_
  intro p e s m below meth c A ls C hP hD hS hl
  generalize hargs : ([.ref (ht 0), .int x1] : List Value).toArray = args at C ⊢
  have C : zX p s m meth c cX10_gone 2 args RX10 (some FieldType.int) A D (zty cy) := C
  obtain ⟨hx, hb, hr, hts, hown, hlocks, hml, hA, hK⟩ := id C
  have hl : lv_has ls 2 [(0, .ref (ht 0)), (1, .int x1)] := hl
  generalize hH : s.heap = H at hP ⊢
  have hS : va_S A s.heap H [] := by rw [← hH]; exact hS
  generalize ([] : List Loc) = locs at hS ⊢
  refine lv_aload_n hx hb dX10_gone_0 rfl (lv_at hl 0 rfl) ?_
  obtain ⟨q1, hc, hf⟩ := zbd hf
  refine z_cVv (As := []) (rest := []) C (c_X10_anew l D cy ht St q1 hc) gV_X10_X10_anew hd_X10_anew ⟨Nat.le_of_ble_eq_true rfl, Nat.le_of_ble_eq_true rfl⟩ ⟨Nat.le_refl _, Nat.le_refl _⟩ (va_recv hK hP (ci := 6) (q0 := 0) rfl rfl) hP hD hS (w2 := wMo ht cy q1 ++ (wAI (fun _ => ht 9) cy 325 St_st ++ (wAI (fun _ => ht 10) cy 325 St_trial ++ (wAI (fun _ => ht 11) cy 5200 St_undone)))) [0] [1, 2, 3] [3, 0, 1, 2] rfl rfl rfl rfl rfl rfl (by decide) hl.1 (Nat.le_of_ble_eq_true rfl) dX10_gone_1 (fun H locs hP hD hS => ?_)
  refine lv_aload_n hx hb dX10_gone_4 rfl (lv_at hl 0 rfl) ?_
  refine lv_iload_n hx hb dX10_gone_5 rfl (lv_at hl 1 rfl) ?_
  obtain ⟨q2, hc, hf⟩ := zbd hf
  refine z_cVi (As := [.int x1]) (rest := []) C (c_X10_isSlot l D cy ht q1 St_st x1 q2 hc) gV_X10_X10_isSlot hd_X10_isSlot ⟨Nat.le_of_ble_eq_true rfl, Nat.le_of_ble_eq_true rfl⟩ ⟨Nat.le_refl _, Nat.le_refl _⟩ (va_recv hK hP (ci := 6) (q0 := 0) rfl rfl) hP hD hS (w2 := wMo ht cy q1 ++ (wAI (fun _ => ht 9) cy 325 St_st ++ (wAI (fun _ => ht 10) cy 325 St_trial ++ (wAI (fun _ => ht 11) cy 5200 St_undone)))) [0, 1] [2, 3] [2, 3, 0, 1] rfl rfl rfl rfl rfl rfl (by decide) hl.1 (Nat.le_of_ble_eq_true rfl) dX10_gone_6 (fun H locs hP hD hS => ?_)
  refine z_if_eq (tgt := 21) hx hb dX10_gone_9 (by decide) hf (fun hf => ?_) (fun hf => ?_)
  · refine lv_aload_n hx hb dX10_gone_21 rfl (lv_at hl 0 rfl) ?_
    refine lv_iconst (v := (1 : Int32)) hx hb dX10_gone_22 (by decide) ?_
    obtain ⟨q3, hc, hf⟩ := zbd hf
    refine z_cVi (As := [.int (1 : Int32)]) (rest := []) C (c_X10_no l D cy ht q1 (1 : Int32) q3 hc) gV_X10_X10_no hd_X10_no ⟨Nat.le_of_ble_eq_true rfl, Nat.le_of_ble_eq_true rfl⟩ ⟨Nat.le_refl _, Nat.le_refl _⟩ (va_recv hK hP (ci := 6) (q0 := 0) rfl rfl) hP hD hS (w2 := wMo ht cy q3.2 ++ (wAI (fun _ => ht 9) cy 325 St_st ++ (wAI (fun _ => ht 10) cy 325 St_trial ++ (wAI (fun _ => ht 11) cy 5200 St_undone)))) [0] [1, 2, 3] [3, 0, 1, 2] rfl rfl rfl rfl rfl rfl (by decide) hl.1 (Nat.le_of_ble_eq_true rfl) dX10_gone_23 (fun H locs hP hD hS => ?_)
    obtain rfl := Option.some.inj hf
    exact z_iret (v := q3.1) C hP hD hS dX10_gone_26
  · refine lv_aload_n hx hb dX10_gone_12 rfl (lv_at hl 0 rfl) ?_
    refine lv_iload_n hx hb dX10_gone_13 rfl (lv_at hl 1 rfl) ?_
    refine lv_iconst (v := (3 : Int32)) hx hb dX10_gone_14 (by decide) ?_
    obtain ⟨q4, hc, hf⟩ := zbd hf
    refine z_cVi0 (As := [.int x1, .int (3 : Int32)]) (rest := []) C (c_X10_ended l D cy ht q1 St_st St_trial St_undone x1 (3 : Int32) q4 hc) gV_X10_X10_ended hd_X10_ended ⟨Nat.le_of_ble_eq_true rfl, Nat.le_of_ble_eq_true rfl⟩ ⟨Nat.le_refl _, Nat.le_refl _⟩ (va_recv hK hP (ci := 6) (q0 := 0) rfl rfl) hP hD hS hl.1 (Nat.le_of_ble_eq_true rfl) dX10_gone_15 (fun H locs hP hD hS => ?_)
    have hP : va_P D vwCl (wMo ht cy q4.2.1 ++ (wAI (fun _ => ht 9) cy 325 q4.2.2.1 ++ (wAI (fun _ => ht 10) cy 325 q4.2.2.2.1 ++ (wAI (fun _ => ht 11) cy 5200 q4.2.2.2.2)))) H := hP
    have hD : va_D A (wMo ht cy q4.2.1 ++ (wAI (fun _ => ht 9) cy 325 q4.2.2.1 ++ (wAI (fun _ => ht 10) cy 325 q4.2.2.2.1 ++ (wAI (fun _ => ht 11) cy 5200 q4.2.2.2.2)))) := hD
    refine lv_goto (tgt := 26) hx hb dX10_gone_18 (by decide) ?_
    obtain rfl := Option.some.inj hf
    exact z_iret (v := q4.1) C hP hD hS dX10_gone_26
def f_X10_clear (St : SMo) (St_marked : Nat → Int32) (St_st : Nat → Int32) (St_trial : Nat → Int32) (St_undone : Nat → Int32) : Option (Int32 × SMo × (Nat → Int32) × (Nat → Int32) × (Nat → Int32) × (Nat → Int32)) :=
  (f_X10_anew St).bind (fun q1 =>
    (if (Mo_hasStore q1) = 0 then
      (f_X10_no q1 (1 : Int32)).bind (fun q6 =>
        some (q6.1, q6.2, St_marked, St_st, St_trial, St_undone))
      else
      (f_X10_tryOn q1 St_st St_trial).bind (fun q2 =>
        (f_X10_clearOn q1 St_marked q2).bind (fun q3 =>
          (if q3.1 = 0 then
            (f_X10_no q1 (6 : Int32)).bind (fun q5 =>
              some (q5.1, q5.2, q3.2.1, St_st, q3.2.2, St_undone))
            else
            (f_X10_become q1 St_st q3.2.2 St_undone).bind (fun q4 =>
              some (q3.1, q4.1, q3.2.1, q4.2.1, q3.2.2, q4.2.2)))))))
set_option maxHeartbeats 4000000 in
set_option maxRecDepth 100000 in
theorem c_X10_clear (l : Launch) (D : va_G) (cy : Nat → ClassId) (ht : Nat → Nat) (St : SMo) (St_marked : Nat → Int32) (St_st : Nat → Int32) (St_trial : Nat → Int32) (St_undone : Nat → Int32) (r : Int32 × SMo × (Nat → Int32) × (Nat → Int32) × (Nat → Int32) × (Nat → Int32)) (hf : f_X10_clear St St_marked St_st St_trial St_undone = some r) : zCI l yX10_clear cX10_clear 2 (some FieldType.int) 6 138 D (zty cy) [.ref (ht 0)] (wMo ht cy St ++ (wAI (fun _ => ht 13) cy 48 St_marked ++ (wAI (fun _ => ht 9) cy 325 St_st ++ (wAI (fun _ => ht 10) cy 325 St_trial ++ (wAI (fun _ => ht 11) cy 5200 St_undone))))) (wMo ht cy r.2.1 ++ (wAI (fun _ => ht 13) cy 48 r.2.2.1 ++ (wAI (fun _ => ht 9) cy 325 r.2.2.2.1 ++ (wAI (fun _ => ht 10) cy 325 r.2.2.2.2.1 ++ (wAI (fun _ => ht 11) cy 5200 r.2.2.2.2.2))))) r.1 := by
  refine zCI_of (by decide +kernel) (Nat.le_of_ble_eq_true rfl) ?_
  intro p e s m below meth c A ls C hP hD hS hl
  generalize hargs : ([.ref (ht 0)] : List Value).toArray = args at C ⊢
  have C : zX p s m meth c cX10_clear 2 args RX10 (some FieldType.int) A D (zty cy) := C
  obtain ⟨hx, hb, hr, hts, hown, hlocks, hml, hA, hK⟩ := id C
  have hl : lv_has ls 2 [(0, .ref (ht 0))] := hl
  generalize hH : s.heap = H at hP ⊢
  have hS : va_S A s.heap H [] := by rw [← hH]; exact hS
  generalize ([] : List Loc) = locs at hS ⊢
  refine lv_aload_n hx hb dX10_clear_0 rfl (lv_at hl 0 rfl) ?_
  obtain ⟨q1, hc, hf⟩ := zbd hf
  refine z_cVv (As := []) (rest := []) C (c_X10_anew l D cy ht St q1 hc) gV_X10_X10_anew hd_X10_anew ⟨Nat.le_of_ble_eq_true rfl, Nat.le_of_ble_eq_true rfl⟩ ⟨Nat.le_refl _, Nat.le_refl _⟩ (va_recv hK hP (ci := 6) (q0 := 0) rfl rfl) hP hD hS (w2 := wMo ht cy q1 ++ (wAI (fun _ => ht 13) cy 48 St_marked ++ (wAI (fun _ => ht 9) cy 325 St_st ++ (wAI (fun _ => ht 10) cy 325 St_trial ++ (wAI (fun _ => ht 11) cy 5200 St_undone))))) [0] [1, 2, 3, 4] [4, 0, 1, 2, 3] rfl rfl rfl rfl rfl rfl (by decide) hl.1 (Nat.le_of_ble_eq_true rfl) dX10_clear_1 (fun H locs hP hD hS => ?_)
  refine lv_aload_n hx hb dX10_clear_4 rfl (lv_at hl 0 rfl) ?_
  refine va_get (D := D) (ci := 6) (v := .int (Mo_hasStore q1)) (C := RX10) (T := TX10) (N := 41) hx hb hts in_X10 hown hK hP 0 rfl rfl 14 (by decide) (hts _ q6_59) (fun _ h9 => h9) rfl dX10_clear_5 ?_
  refine z_if_ne (tgt := 17) hx hb dX10_clear_8 (by decide) hf (fun hf => ?_) (fun hf => ?_)
  · refine lv_aload_n hx hb dX10_clear_17 rfl (lv_at hl 0 rfl) ?_
    obtain ⟨q2, hc, hf⟩ := zbd hf
    refine z_cVv (As := []) (rest := []) C (c_X10_tryOn l D cy ht q1 St_st St_trial q2 hc) gV_X10_X10_tryOn hd_X10_tryOn ⟨Nat.le_of_ble_eq_true rfl, Nat.le_of_ble_eq_true rfl⟩ ⟨Nat.le_refl _, Nat.le_refl _⟩ (va_recv hK hP (ci := 6) (q0 := 0) rfl rfl) hP hD hS (w2 := wMo ht cy q1 ++ (wAI (fun _ => ht 13) cy 48 St_marked ++ (wAI (fun _ => ht 9) cy 325 St_st ++ (wAI (fun _ => ht 10) cy 325 q2 ++ (wAI (fun _ => ht 11) cy 5200 St_undone))))) [0, 2, 3] [1, 4] [2, 0, 3, 4, 1] rfl rfl rfl rfl rfl rfl (by decide) hl.1 (Nat.le_of_ble_eq_true rfl) dX10_clear_18 (fun H locs hP hD hS => ?_)
    refine lv_aload_n hx hb dX10_clear_21 rfl (lv_at hl 0 rfl) ?_
    refine lv_aload_n hx hb dX10_clear_22 rfl (lv_at hl 0 rfl) ?_
    refine va_get (D := D) (ci := 6) (v := .ref (ht 10)) (C := RX10) (T := TX10) (N := 41) hx hb hts in_X10 hown hK hP 0 rfl rfl 22 (by decide) (hts _ q6_67) (fun _ h9 => h9) rfl dX10_clear_23 ?_
    obtain ⟨q3, hc, hf⟩ := zbd hf
    refine z_cVi (As := [.ref (ht 10)]) (rest := []) C (c_X10_clearOn l D cy ht (fun _ => ht 10) q1 St_marked q2 q3 hc) gV_X10_X10_clearOn hd_X10_clearOn ⟨Nat.le_of_ble_eq_true rfl, Nat.le_of_ble_eq_true rfl⟩ ⟨Nat.le_refl _, Nat.le_refl _⟩ (va_recv hK hP (ci := 6) (q0 := 0) rfl rfl) hP hD hS (w2 := wMo ht cy q1 ++ (wAI (fun _ => ht 13) cy 48 q3.2.1 ++ (wAI (fun _ => ht 9) cy 325 St_st ++ (wAI (fun _ => ht 10) cy 325 q3.2.2 ++ (wAI (fun _ => ht 11) cy 5200 St_undone))))) [0, 1, 3] [2, 4] [2, 3, 0, 4, 1] rfl rfl rfl rfl rfl rfl (by decide) hl.1 (Nat.le_of_ble_eq_true rfl) dX10_clear_26 (fun H locs hP hD hS => ?_)
    refine lv_istore_n (lv' := [(1, .int q3.1), (0, .ref (ht 0))]) hx hb dX10_clear_29 rfl hl (by decide) rfl (fun ls hl => ?_)
    refine lv_iload_n hx hb dX10_clear_30 rfl (lv_at hl 0 rfl) ?_
    refine z_if_ne (tgt := 41) hx hb dX10_clear_31 (by decide) hf (fun hf => ?_) (fun hf => ?_)
    · refine lv_aload_n hx hb dX10_clear_41 rfl (lv_at hl 1 rfl) ?_
      obtain ⟨q4, hc, hf⟩ := zbd hf
      refine z_cVv (As := []) (rest := []) C (c_X10_become l D cy ht q1 St_st q3.2.2 St_undone q4 hc) gV_X10_X10_become hd_X10_become ⟨Nat.le_of_ble_eq_true rfl, Nat.le_of_ble_eq_true rfl⟩ ⟨Nat.le_refl _, Nat.le_refl _⟩ (va_recv hK hP (ci := 6) (q0 := 0) rfl rfl) hP hD hS (w2 := wMo ht cy q4.1 ++ (wAI (fun _ => ht 13) cy 48 q3.2.1 ++ (wAI (fun _ => ht 9) cy 325 q4.2.1 ++ (wAI (fun _ => ht 10) cy 325 q3.2.2 ++ (wAI (fun _ => ht 11) cy 5200 q4.2.2))))) [0, 2, 3, 4] [1] [1, 0, 2, 3, 4] rfl rfl rfl rfl rfl rfl (by decide) hl.1 (Nat.le_of_ble_eq_true rfl) dX10_clear_42 (fun H locs hP hD hS => ?_)
      refine lv_iload_n hx hb dX10_clear_45 rfl (lv_at hl 0 rfl) ?_
      obtain rfl := Option.some.inj hf
      exact z_iret (v := q3.1) C hP hD hS dX10_clear_46
    · refine lv_aload_n hx hb dX10_clear_34 rfl (lv_at hl 1 rfl) ?_
      refine lv_bipush (v := (6 : Int32)) hx hb dX10_clear_35 (by decide) ?_
      obtain ⟨q5, hc, hf⟩ := zbd hf
      refine z_cVi (As := [.int (6 : Int32)]) (rest := []) C (c_X10_no l D cy ht q1 (6 : Int32) q5 hc) gV_X10_X10_no hd_X10_no ⟨Nat.le_of_ble_eq_true rfl, Nat.le_of_ble_eq_true rfl⟩ ⟨Nat.le_refl _, Nat.le_refl _⟩ (va_recv hK hP (ci := 6) (q0 := 0) rfl rfl) hP hD hS (w2 := wMo ht cy q5.2 ++ (wAI (fun _ => ht 13) cy 48 q3.2.1 ++ (wAI (fun _ => ht 9) cy 325 St_st ++ (wAI (fun _ => ht 10) cy 325 q3.2.2 ++ (wAI (fun _ => ht 11) cy 5200 St_undone))))) [0] [1, 2, 3, 4] [4, 0, 1, 2, 3] rfl rfl rfl rfl rfl rfl (by decide) hl.1 (Nat.le_of_ble_eq_true rfl) dX10_clear_37 (fun H locs hP hD hS => ?_)
      obtain rfl := Option.some.inj hf
      exact z_iret (v := q5.1) C hP hD hS dX10_clear_40
  · refine lv_aload_n hx hb dX10_clear_11 rfl (lv_at hl 0 rfl) ?_
    refine lv_iconst (v := (1 : Int32)) hx hb dX10_clear_12 (by decide) ?_
    obtain ⟨q6, hc, hf⟩ := zbd hf
    refine z_cVi (As := [.int (1 : Int32)]) (rest := []) C (c_X10_no l D cy ht q1 (1 : Int32) q6 hc) gV_X10_X10_no hd_X10_no ⟨Nat.le_of_ble_eq_true rfl, Nat.le_of_ble_eq_true rfl⟩ ⟨Nat.le_refl _, Nat.le_refl _⟩ (va_recv hK hP (ci := 6) (q0 := 0) rfl rfl) hP hD hS (w2 := wMo ht cy q6.2 ++ (wAI (fun _ => ht 13) cy 48 St_marked ++ (wAI (fun _ => ht 9) cy 325 St_st ++ (wAI (fun _ => ht 10) cy 325 St_trial ++ (wAI (fun _ => ht 11) cy 5200 St_undone))))) [0] [1, 2, 3, 4] [4, 0, 1, 2, 3] rfl rfl rfl rfl rfl rfl (by decide) hl.1 (Nat.le_of_ble_eq_true rfl) dX10_clear_13 (fun H locs hP hD hS => ?_)
    obtain rfl := Option.some.inj hf
    exact z_iret (v := q6.1) C hP hD hS dX10_clear_16
def f_X10_freeze (St : SMo) (St_marked : Nat → Int32) (St_st : Nat → Int32) (St_trial : Nat → Int32) (St_undone : Nat → Int32) : Option (Int32 × SMo × (Nat → Int32) × (Nat → Int32) × (Nat → Int32) × (Nat → Int32)) :=
  (f_X10_anew St).bind (fun q1 =>
    (if (Mo_hasStore q1) = 0 then
      (f_X10_no q1 (1 : Int32)).bind (fun q6 =>
        some (q6.1, q6.2, St_marked, St_st, St_trial, St_undone))
      else
      (f_X10_tryOn q1 St_st St_trial).bind (fun q2 =>
        (f_X10_freezeOn q1 St_marked q2).bind (fun q3 =>
          (if q3.1 = 0 then
            (f_X10_no q1 (6 : Int32)).bind (fun q5 =>
              some (q5.1, q5.2, q3.2.1, St_st, q3.2.2, St_undone))
            else
            (f_X10_become q1 St_st q3.2.2 St_undone).bind (fun q4 =>
              some (q3.1, q4.1, q3.2.1, q4.2.1, q3.2.2, q4.2.2)))))))
set_option maxHeartbeats 4000000 in
set_option maxRecDepth 100000 in
theorem c_X10_freeze (l : Launch) (D : va_G) (cy : Nat → ClassId) (ht : Nat → Nat) (St : SMo) (St_marked : Nat → Int32) (St_st : Nat → Int32) (St_trial : Nat → Int32) (St_undone : Nat → Int32) (r : Int32 × SMo × (Nat → Int32) × (Nat → Int32) × (Nat → Int32) × (Nat → Int32)) (hf : f_X10_freeze St St_marked St_st St_trial St_undone = some r) : zCI l yX10_freeze cX10_freeze 2 (some FieldType.int) 6 137 D (zty cy) [.ref (ht 0)] (wMo ht cy St ++ (wAI (fun _ => ht 13) cy 48 St_marked ++ (wAI (fun _ => ht 9) cy 325 St_st ++ (wAI (fun _ => ht 10) cy 325 St_trial ++ (wAI (fun _ => ht 11) cy 5200 St_undone))))) (wMo ht cy r.2.1 ++ (wAI (fun _ => ht 13) cy 48 r.2.2.1 ++ (wAI (fun _ => ht 9) cy 325 r.2.2.2.1 ++ (wAI (fun _ => ht 10) cy 325 r.2.2.2.2.1 ++ (wAI (fun _ => ht 11) cy 5200 r.2.2.2.2.2))))) r.1 := by
  refine zCI_of (by decide +kernel) (Nat.le_of_ble_eq_true rfl) ?_
  intro p e s m below meth c A ls C hP hD hS hl
  generalize hargs : ([.ref (ht 0)] : List Value).toArray = args at C ⊢
  have C : zX p s m meth c cX10_freeze 2 args RX10 (some FieldType.int) A D (zty cy) := C
  obtain ⟨hx, hb, hr, hts, hown, hlocks, hml, hA, hK⟩ := id C
  have hl : lv_has ls 2 [(0, .ref (ht 0))] := hl
  generalize hH : s.heap = H at hP ⊢
  have hS : va_S A s.heap H [] := by rw [← hH]; exact hS
  generalize ([] : List Loc) = locs at hS ⊢
  refine lv_aload_n hx hb dX10_freeze_0 rfl (lv_at hl 0 rfl) ?_
  obtain ⟨q1, hc, hf⟩ := zbd hf
  refine z_cVv (As := []) (rest := []) C (c_X10_anew l D cy ht St q1 hc) gV_X10_X10_anew hd_X10_anew ⟨Nat.le_of_ble_eq_true rfl, Nat.le_of_ble_eq_true rfl⟩ ⟨Nat.le_refl _, Nat.le_refl _⟩ (va_recv hK hP (ci := 6) (q0 := 0) rfl rfl) hP hD hS (w2 := wMo ht cy q1 ++ (wAI (fun _ => ht 13) cy 48 St_marked ++ (wAI (fun _ => ht 9) cy 325 St_st ++ (wAI (fun _ => ht 10) cy 325 St_trial ++ (wAI (fun _ => ht 11) cy 5200 St_undone))))) [0] [1, 2, 3, 4] [4, 0, 1, 2, 3] rfl rfl rfl rfl rfl rfl (by decide) hl.1 (Nat.le_of_ble_eq_true rfl) dX10_freeze_1 (fun H locs hP hD hS => ?_)
  refine lv_aload_n hx hb dX10_freeze_4 rfl (lv_at hl 0 rfl) ?_
  refine va_get (D := D) (ci := 6) (v := .int (Mo_hasStore q1)) (C := RX10) (T := TX10) (N := 41) hx hb hts in_X10 hown hK hP 0 rfl rfl 14 (by decide) (hts _ q6_59) (fun _ h9 => h9) rfl dX10_freeze_5 ?_
  refine z_if_ne (tgt := 17) hx hb dX10_freeze_8 (by decide) hf (fun hf => ?_) (fun hf => ?_)
  · refine lv_aload_n hx hb dX10_freeze_17 rfl (lv_at hl 0 rfl) ?_
    obtain ⟨q2, hc, hf⟩ := zbd hf
    refine z_cVv (As := []) (rest := []) C (c_X10_tryOn l D cy ht q1 St_st St_trial q2 hc) gV_X10_X10_tryOn hd_X10_tryOn ⟨Nat.le_of_ble_eq_true rfl, Nat.le_of_ble_eq_true rfl⟩ ⟨Nat.le_refl _, Nat.le_refl _⟩ (va_recv hK hP (ci := 6) (q0 := 0) rfl rfl) hP hD hS (w2 := wMo ht cy q1 ++ (wAI (fun _ => ht 13) cy 48 St_marked ++ (wAI (fun _ => ht 9) cy 325 St_st ++ (wAI (fun _ => ht 10) cy 325 q2 ++ (wAI (fun _ => ht 11) cy 5200 St_undone))))) [0, 2, 3] [1, 4] [2, 0, 3, 4, 1] rfl rfl rfl rfl rfl rfl (by decide) hl.1 (Nat.le_of_ble_eq_true rfl) dX10_freeze_18 (fun H locs hP hD hS => ?_)
    refine lv_aload_n hx hb dX10_freeze_21 rfl (lv_at hl 0 rfl) ?_
    refine lv_aload_n hx hb dX10_freeze_22 rfl (lv_at hl 0 rfl) ?_
    refine va_get (D := D) (ci := 6) (v := .ref (ht 10)) (C := RX10) (T := TX10) (N := 41) hx hb hts in_X10 hown hK hP 0 rfl rfl 22 (by decide) (hts _ q6_67) (fun _ h9 => h9) rfl dX10_freeze_23 ?_
    obtain ⟨q3, hc, hf⟩ := zbd hf
    refine z_cVi (As := [.ref (ht 10)]) (rest := []) C (c_X10_freezeOn l D cy ht (fun _ => ht 10) q1 St_marked q2 q3 hc) gV_X10_X10_freezeOn hd_X10_freezeOn ⟨Nat.le_of_ble_eq_true rfl, Nat.le_of_ble_eq_true rfl⟩ ⟨Nat.le_refl _, Nat.le_refl _⟩ (va_recv hK hP (ci := 6) (q0 := 0) rfl rfl) hP hD hS (w2 := wMo ht cy q1 ++ (wAI (fun _ => ht 13) cy 48 q3.2.1 ++ (wAI (fun _ => ht 9) cy 325 St_st ++ (wAI (fun _ => ht 10) cy 325 q3.2.2 ++ (wAI (fun _ => ht 11) cy 5200 St_undone))))) [0, 1, 3] [2, 4] [2, 3, 0, 4, 1] rfl rfl rfl rfl rfl rfl (by decide) hl.1 (Nat.le_of_ble_eq_true rfl) dX10_freeze_26 (fun H locs hP hD hS => ?_)
    refine lv_istore_n (lv' := [(1, .int q3.1), (0, .ref (ht 0))]) hx hb dX10_freeze_29 rfl hl (by decide) rfl (fun ls hl => ?_)
    refine lv_iload_n hx hb dX10_freeze_30 rfl (lv_at hl 0 rfl) ?_
    refine z_if_ne (tgt := 41) hx hb dX10_freeze_31 (by decide) hf (fun hf => ?_) (fun hf => ?_)
    · refine lv_aload_n hx hb dX10_freeze_41 rfl (lv_at hl 1 rfl) ?_
      obtain ⟨q4, hc, hf⟩ := zbd hf
      refine z_cVv (As := []) (rest := []) C (c_X10_become l D cy ht q1 St_st q3.2.2 St_undone q4 hc) gV_X10_X10_become hd_X10_become ⟨Nat.le_of_ble_eq_true rfl, Nat.le_of_ble_eq_true rfl⟩ ⟨Nat.le_refl _, Nat.le_refl _⟩ (va_recv hK hP (ci := 6) (q0 := 0) rfl rfl) hP hD hS (w2 := wMo ht cy q4.1 ++ (wAI (fun _ => ht 13) cy 48 q3.2.1 ++ (wAI (fun _ => ht 9) cy 325 q4.2.1 ++ (wAI (fun _ => ht 10) cy 325 q3.2.2 ++ (wAI (fun _ => ht 11) cy 5200 q4.2.2))))) [0, 2, 3, 4] [1] [1, 0, 2, 3, 4] rfl rfl rfl rfl rfl rfl (by decide) hl.1 (Nat.le_of_ble_eq_true rfl) dX10_freeze_42 (fun H locs hP hD hS => ?_)
      refine lv_iload_n hx hb dX10_freeze_45 rfl (lv_at hl 0 rfl) ?_
      obtain rfl := Option.some.inj hf
      exact z_iret (v := q3.1) C hP hD hS dX10_freeze_46
    · refine lv_aload_n hx hb dX10_freeze_34 rfl (lv_at hl 1 rfl) ?_
      refine lv_bipush (v := (6 : Int32)) hx hb dX10_freeze_35 (by decide) ?_
      obtain ⟨q5, hc, hf⟩ := zbd hf
      refine z_cVi (As := [.int (6 : Int32)]) (rest := []) C (c_X10_no l D cy ht q1 (6 : Int32) q5 hc) gV_X10_X10_no hd_X10_no ⟨Nat.le_of_ble_eq_true rfl, Nat.le_of_ble_eq_true rfl⟩ ⟨Nat.le_refl _, Nat.le_refl _⟩ (va_recv hK hP (ci := 6) (q0 := 0) rfl rfl) hP hD hS (w2 := wMo ht cy q5.2 ++ (wAI (fun _ => ht 13) cy 48 q3.2.1 ++ (wAI (fun _ => ht 9) cy 325 St_st ++ (wAI (fun _ => ht 10) cy 325 q3.2.2 ++ (wAI (fun _ => ht 11) cy 5200 St_undone))))) [0] [1, 2, 3, 4] [4, 0, 1, 2, 3] rfl rfl rfl rfl rfl rfl (by decide) hl.1 (Nat.le_of_ble_eq_true rfl) dX10_freeze_37 (fun H locs hP hD hS => ?_)
      obtain rfl := Option.some.inj hf
      exact z_iret (v := q5.1) C hP hD hS dX10_freeze_40
  · refine lv_aload_n hx hb dX10_freeze_11 rfl (lv_at hl 0 rfl) ?_
    refine lv_iconst (v := (1 : Int32)) hx hb dX10_freeze_12 (by decide) ?_
    obtain ⟨q6, hc, hf⟩ := zbd hf
    refine z_cVi (As := [.int (1 : Int32)]) (rest := []) C (c_X10_no l D cy ht q1 (1 : Int32) q6 hc) gV_X10_X10_no hd_X10_no ⟨Nat.le_of_ble_eq_true rfl, Nat.le_of_ble_eq_true rfl⟩ ⟨Nat.le_refl _, Nat.le_refl _⟩ (va_recv hK hP (ci := 6) (q0 := 0) rfl rfl) hP hD hS (w2 := wMo ht cy q6.2 ++ (wAI (fun _ => ht 13) cy 48 St_marked ++ (wAI (fun _ => ht 9) cy 325 St_st ++ (wAI (fun _ => ht 10) cy 325 St_trial ++ (wAI (fun _ => ht 11) cy 5200 St_undone))))) [0] [1, 2, 3, 4] [4, 0, 1, 2, 3] rfl rfl rfl rfl rfl rfl (by decide) hl.1 (Nat.le_of_ble_eq_true rfl) dX10_freeze_13 (fun H locs hP hD hS => ?_)
    obtain rfl := Option.some.inj hf
    exact z_iret (v := q6.1) C hP hD hS dX10_freeze_16
def f_X10_undo (St : SMo) (St_st : Nat → Int32) (St_undone : Nat → Int32) : Option (Int32 × SMo × (Nat → Int32)) :=
  (f_X10_anew St).bind (fun q1 =>
    (if (Mo_undos q1) = 0 then
      (f_X10_isNot q1 (6 : Int32)).bind (fun q3 =>
        (if zbo q3.1 then some (q3.1, q3.2, St_st) else none))
      else
      (f_X10_copy 5200 325 St_undone St_st ((325 : Int32) * ((Mo_undos q1) - (1 : Int32))) (0 : Int32) (325 : Int32)).bind (fun q2 =>
        some ((1 : Int32), (mkMo (Mo_thrown q1) (Mo_taped q1) (Mo_size q1) (Mo_at q1) (Mo_end q1) (Mo_token q1) (Mo_whole q1) (Mo_nameSize q1) (Mo_fault q1) (Mo_place q1) (Mo_trouble q1) (Mo_failed q1) (Mo_hasStore q1) ((Mo_undos q1) - (1 : Int32)) (Mo_images q1) (Mo_ring q1) (Mo_refused q1) (Mo_setMany q1) (Mo_someOf q1) (Mo_allOf q1) (Mo_firstRest q1) (Mo_allWeight q1) (Mo_seenWeight q1) (Mo_sumWeight q1)), q2))))
set_option maxHeartbeats 4000000 in
set_option maxRecDepth 100000 in
theorem c_X10_undo (l : Launch) (D : va_G) (cy : Nat → ClassId) (ht : Nat → Nat) (St : SMo) (St_st : Nat → Int32) (St_undone : Nat → Int32) (r : Int32 × SMo × (Nat → Int32)) (hf : f_X10_undo St St_st St_undone = some r) : zCI l yX10_undo cX10_undo 1 (some FieldType.boolean) 1 25 D (zty cy) [.ref (ht 0)] (wMo ht cy St ++ (wAI (fun _ => ht 9) cy 325 St_st ++ (wAI (fun _ => ht 11) cy 5200 St_undone))) (wMo ht cy r.2.1 ++ (wAI (fun _ => ht 9) cy 325 r.2.2 ++ (wAI (fun _ => ht 11) cy 5200 St_undone))) r.1 := by
  refine zCI_of (by decide +kernel) (Nat.le_of_ble_eq_true rfl) ?_
  intro p e s m below meth c A ls C hP hD hS hl
  generalize hargs : ([.ref (ht 0)] : List Value).toArray = args at C ⊢
  have C : zX p s m meth c cX10_undo 1 args RX10 (some FieldType.boolean) A D (zty cy) := C
  obtain ⟨hx, hb, hr, hts, hown, hlocks, hml, hA, hK⟩ := id C
  have hl : lv_has ls 1 [(0, .ref (ht 0))] := hl
  generalize hH : s.heap = H at hP ⊢
  have hS : va_S A s.heap H [] := by rw [← hH]; exact hS
  generalize ([] : List Loc) = locs at hS ⊢
  refine lv_aload_n hx hb dX10_undo_0 rfl (lv_at hl 0 rfl) ?_
  obtain ⟨q1, hc, hf⟩ := zbd hf
  refine z_cVv (As := []) (rest := []) C (c_X10_anew l D cy ht St q1 hc) gV_X10_X10_anew hd_X10_anew ⟨Nat.le_of_ble_eq_true rfl, Nat.le_of_ble_eq_true rfl⟩ ⟨Nat.le_refl _, Nat.le_refl _⟩ (va_recv hK hP (ci := 6) (q0 := 0) rfl rfl) hP hD hS (w2 := wMo ht cy q1 ++ (wAI (fun _ => ht 9) cy 325 St_st ++ (wAI (fun _ => ht 11) cy 5200 St_undone))) [0] [1, 2] [2, 0, 1] rfl rfl rfl rfl rfl rfl (by decide) hl.1 (Nat.le_of_ble_eq_true rfl) dX10_undo_1 (fun H locs hP hD hS => ?_)
  refine lv_aload_n hx hb dX10_undo_4 rfl (lv_at hl 0 rfl) ?_
  refine va_get (D := D) (ci := 6) (v := .int (Mo_undos q1)) (C := RX10) (T := TX10) (N := 41) hx hb hts in_X10 hown hK hP 0 rfl rfl 25 (by decide) (hts _ q6_70) (fun _ h9 => h9) rfl dX10_undo_5 ?_
  refine z_if_ne (tgt := 18) hx hb dX10_undo_8 (by decide) hf (fun hf => ?_) (fun hf => ?_)
  · refine lv_aload_n hx hb dX10_undo_18 rfl (lv_at hl 0 rfl) ?_
    refine lv_dup hx hb dX10_undo_19 rfl ?_
    refine va_get (D := D) (ci := 6) (v := .int (Mo_undos q1)) (C := RX10) (T := TX10) (N := 41) hx hb hts in_X10 hown hK hP 0 rfl rfl 25 (by decide) (hts _ q6_70) (fun _ h9 => h9) rfl dX10_undo_20 ?_
    refine lv_iconst (v := (1 : Int32)) hx hb dX10_undo_23 (by decide) ?_
    refine lv_isub hx hb dX10_undo_24 ?_
    refine z_put (w2 := vMo ht cy (Mo_thrown q1) (Mo_taped q1) (Mo_size q1) (Mo_at q1) (Mo_end q1) (Mo_token q1) (Mo_whole q1) (Mo_nameSize q1) (Mo_fault q1) (Mo_place q1) (Mo_trouble q1) (Mo_failed q1) (Mo_hasStore q1) ((Mo_undos q1) - (1 : Int32)) (Mo_images q1) (Mo_ring q1) (Mo_refused q1) (Mo_setMany q1) (Mo_someOf q1) (Mo_allOf q1) (Mo_firstRest q1) (Mo_allWeight q1) (Mo_seenWeight q1) (Mo_sumWeight q1) ++ (wAI (fun _ => ht 9) cy 325 St_st ++ (wAI (fun _ => ht 11) cy 5200 St_undone))) hx hb hts in_X10 tyX10 tyX10_ok nmX10 hown hK hP hD hS 0 rfl rfl 25 (by decide) (hts _ q6_70) (fun _ h9 => h9) rfl rfl rfl (Nat.le_of_ble_eq_true rfl) dX10_undo_25 rfl (fun H locs hP hD hS => ?_)
    refine lv_aload_n hx hb dX10_undo_28 rfl (lv_at hl 0 rfl) ?_
    refine va_get (D := D) (ci := 6) (v := .ref (ht 11)) (C := RX10) (T := TX10) (N := 41) hx hb hts in_X10 hown hK hP 0 rfl rfl 23 (by decide) (hts _ q6_68) (fun _ h9 => h9) rfl dX10_undo_29 ?_
    refine lv_sipush (v := (325 : Int32)) hx hb dX10_undo_32 (by decide) ?_
    refine lv_aload_n hx hb dX10_undo_35 rfl (lv_at hl 0 rfl) ?_
    refine va_get (D := D) (ci := 6) (v := .int ((Mo_undos q1) - (1 : Int32))) (C := RX10) (T := TX10) (N := 41) hx hb hts in_X10 hown hK hP 0 rfl rfl 25 (by decide) (hts _ q6_70) (fun _ h9 => h9) rfl dX10_undo_36 ?_
    refine lv_imul hx hb dX10_undo_39 ?_
    refine lv_aload_n hx hb dX10_undo_40 rfl (lv_at hl 0 rfl) ?_
    refine va_get (D := D) (ci := 6) (v := .ref (ht 9)) (C := RX10) (T := TX10) (N := 41) hx hb hts in_X10 hown hK hP 0 rfl rfl 21 (by decide) (hts _ q6_66) (fun _ h9 => h9) rfl dX10_undo_41 ?_
    refine lv_iconst (v := (0 : Int32)) hx hb dX10_undo_44 (by decide) ?_
    refine lv_sipush (v := (325 : Int32)) hx hb dX10_undo_45 (by decide) ?_
    obtain ⟨q2, hc, hf⟩ := zbd hf
    refine z_cSv (As := [.ref (ht 11), .int ((325 : Int32) * ((Mo_undos q1) - (1 : Int32))), .ref (ht 9), .int (0 : Int32), .int (325 : Int32)]) (rest := []) C (c_X10_copy l D cy (fun _ => ht 11) (fun _ => ht 9) 5200 325 St_undone St_st ((325 : Int32) * ((Mo_undos q1) - (1 : Int32))) (0 : Int32) (325 : Int32) q2 hc) gS_X10_X10_copy hd_X10_copy ⟨Nat.le_of_ble_eq_true rfl, Nat.le_of_ble_eq_true rfl⟩ ⟨Nat.le_refl _, Nat.le_refl _⟩ hP hD hS (w2 := vMo ht cy (Mo_thrown q1) (Mo_taped q1) (Mo_size q1) (Mo_at q1) (Mo_end q1) (Mo_token q1) (Mo_whole q1) (Mo_nameSize q1) (Mo_fault q1) (Mo_place q1) (Mo_trouble q1) (Mo_failed q1) (Mo_hasStore q1) ((Mo_undos q1) - (1 : Int32)) (Mo_images q1) (Mo_ring q1) (Mo_refused q1) (Mo_setMany q1) (Mo_someOf q1) (Mo_allOf q1) (Mo_firstRest q1) (Mo_allWeight q1) (Mo_seenWeight q1) (Mo_sumWeight q1) ++ (wAI (fun _ => ht 9) cy 325 q2 ++ (wAI (fun _ => ht 11) cy 5200 St_undone))) [2, 1] [0] [0, 2, 1] rfl rfl rfl rfl rfl rfl (by decide) hl.1 (Nat.le_of_ble_eq_true rfl) dX10_undo_48 (fun H locs hP hD hS => ?_)
    refine lv_iconst (v := (1 : Int32)) hx hb dX10_undo_51 (by decide) ?_
    obtain rfl := Option.some.inj hf
    rw [← wMo_mk ht] at hP hD
    exact z_zret (v := (1 : Int32)) C rfl hP hD hS dX10_undo_52
  · refine lv_aload_n hx hb dX10_undo_11 rfl (lv_at hl 0 rfl) ?_
    refine lv_bipush (v := (6 : Int32)) hx hb dX10_undo_12 (by decide) ?_
    obtain ⟨q3, hc, hf⟩ := zbd hf
    refine z_cVi (As := [.int (6 : Int32)]) (rest := []) C (c_X10_isNot l D cy ht q1 (6 : Int32) q3 hc) gV_X10_X10_isNot hd_X10_isNot ⟨Nat.le_of_ble_eq_true rfl, Nat.le_of_ble_eq_true rfl⟩ ⟨Nat.le_refl _, Nat.le_refl _⟩ (va_recv hK hP (ci := 6) (q0 := 0) rfl rfl) hP hD hS (w2 := wMo ht cy q3.2 ++ (wAI (fun _ => ht 9) cy 325 St_st ++ (wAI (fun _ => ht 11) cy 5200 St_undone))) [0] [1, 2] [2, 0, 1] rfl rfl rfl rfl rfl rfl (by decide) hl.1 (Nat.le_of_ble_eq_true rfl) dX10_undo_14 (fun H locs hP hD hS => ?_)
    obtain ⟨hz, hf⟩ := zgd hf
    obtain rfl := Option.some.inj hf
    exact z_zret (v := q3.1) C (zbo_n hz) hP hD hS dX10_undo_17
def f_X10_image (St : SMo) (St_kept : Nat → Int32) (St_st : Nat → Int32) : Option (Int32 × SMo × (Nat → Int32)) :=
  (f_X10_anew St).bind (fun q1 =>
    (if (Mo_hasStore q1) = 0 then
      (f_X10_no q1 (1 : Int32)).bind (fun q4 =>
        some (q4.1, q4.2, St_kept))
      else
      (if (Mo_images q1) = (3 : Int32) then
        (f_X10_no q1 (3 : Int32)).bind (fun q3 =>
          some (q3.1, q3.2, St_kept))
        else
        (f_X10_copy 325 975 St_st St_kept (0 : Int32) ((325 : Int32) * (Mo_images q1)) (325 : Int32)).bind (fun q2 =>
          some ((((Mo_images q1) + (1 : Int32)) - (1 : Int32)), (mkMo (Mo_thrown q1) (Mo_taped q1) (Mo_size q1) (Mo_at q1) (Mo_end q1) (Mo_token q1) (Mo_whole q1) (Mo_nameSize q1) (Mo_fault q1) (Mo_place q1) (Mo_trouble q1) (Mo_failed q1) (Mo_hasStore q1) (Mo_undos q1) ((Mo_images q1) + (1 : Int32)) (Mo_ring q1) (Mo_refused q1) (Mo_setMany q1) (Mo_someOf q1) (Mo_allOf q1) (Mo_firstRest q1) (Mo_allWeight q1) (Mo_seenWeight q1) (Mo_sumWeight q1)), q2)))))
set_option maxHeartbeats 4000000 in
set_option maxRecDepth 100000 in
theorem c_X10_image (l : Launch) (D : va_G) (cy : Nat → ClassId) (ht : Nat → Nat) (St : SMo) (St_kept : Nat → Int32) (St_st : Nat → Int32) (r : Int32 × SMo × (Nat → Int32)) (hf : f_X10_image St St_kept St_st = some r) : zCI l yX10_image cX10_image 1 (some FieldType.int) 1 25 D (zty cy) [.ref (ht 0)] (wMo ht cy St ++ (wAI (fun _ => ht 12) cy 975 St_kept ++ (wAI (fun _ => ht 9) cy 325 St_st))) (wMo ht cy r.2.1 ++ (wAI (fun _ => ht 12) cy 975 r.2.2 ++ (wAI (fun _ => ht 9) cy 325 St_st))) r.1 := by
  refine zCI_of (by decide +kernel) (Nat.le_of_ble_eq_true rfl) ?_
  intro p e s m below meth c A ls C hP hD hS hl
  generalize hargs : ([.ref (ht 0)] : List Value).toArray = args at C ⊢
  have C : zX p s m meth c cX10_image 1 args RX10 (some FieldType.int) A D (zty cy) := C
  obtain ⟨hx, hb, hr, hts, hown, hlocks, hml, hA, hK⟩ := id C
  have hl : lv_has ls 1 [(0, .ref (ht 0))] := hl
  generalize hH : s.heap = H at hP ⊢
  have hS : va_S A s.heap H [] := by rw [← hH]; exact hS
  generalize ([] : List Loc) = locs at hS ⊢
  refine lv_aload_n hx hb dX10_image_0 rfl (lv_at hl 0 rfl) ?_
  obtain ⟨q1, hc, hf⟩ := zbd hf
  refine z_cVv (As := []) (rest := []) C (c_X10_anew l D cy ht St q1 hc) gV_X10_X10_anew hd_X10_anew ⟨Nat.le_of_ble_eq_true rfl, Nat.le_of_ble_eq_true rfl⟩ ⟨Nat.le_refl _, Nat.le_refl _⟩ (va_recv hK hP (ci := 6) (q0 := 0) rfl rfl) hP hD hS (w2 := wMo ht cy q1 ++ (wAI (fun _ => ht 12) cy 975 St_kept ++ (wAI (fun _ => ht 9) cy 325 St_st))) [0] [1, 2] [2, 0, 1] rfl rfl rfl rfl rfl rfl (by decide) hl.1 (Nat.le_of_ble_eq_true rfl) dX10_image_1 (fun H locs hP hD hS => ?_)
  refine lv_aload_n hx hb dX10_image_4 rfl (lv_at hl 0 rfl) ?_
  refine va_get (D := D) (ci := 6) (v := .int (Mo_hasStore q1)) (C := RX10) (T := TX10) (N := 41) hx hb hts in_X10 hown hK hP 0 rfl rfl 14 (by decide) (hts _ q6_59) (fun _ h9 => h9) rfl dX10_image_5 ?_
  refine z_if_ne (tgt := 17) hx hb dX10_image_8 (by decide) hf (fun hf => ?_) (fun hf => ?_)
  · refine lv_aload_n hx hb dX10_image_17 rfl (lv_at hl 0 rfl) ?_
    refine va_get (D := D) (ci := 6) (v := .int (Mo_images q1)) (C := RX10) (T := TX10) (N := 41) hx hb hts in_X10 hown hK hP 0 rfl rfl 26 (by decide) (hts _ q6_71) (fun _ h9 => h9) rfl dX10_image_18 ?_
    refine lv_iconst (v := (3 : Int32)) hx hb dX10_image_21 (by decide) ?_
    refine z_icmp_ne (tgt := 31) hx hb dX10_image_22 (by decide) hf (fun hf => ?_) (fun hf => ?_)
    · refine lv_aload_n hx hb dX10_image_31 rfl (lv_at hl 0 rfl) ?_
      refine va_get (D := D) (ci := 6) (v := .ref (ht 9)) (C := RX10) (T := TX10) (N := 41) hx hb hts in_X10 hown hK hP 0 rfl rfl 21 (by decide) (hts _ q6_66) (fun _ h9 => h9) rfl dX10_image_32 ?_
      refine lv_iconst (v := (0 : Int32)) hx hb dX10_image_35 (by decide) ?_
      refine lv_aload_n hx hb dX10_image_36 rfl (lv_at hl 0 rfl) ?_
      refine va_get (D := D) (ci := 6) (v := .ref (ht 12)) (C := RX10) (T := TX10) (N := 41) hx hb hts in_X10 hown hK hP 0 rfl rfl 24 (by decide) (hts _ q6_69) (fun _ h9 => h9) rfl dX10_image_37 ?_
      refine lv_sipush (v := (325 : Int32)) hx hb dX10_image_40 (by decide) ?_
      refine lv_aload_n hx hb dX10_image_43 rfl (lv_at hl 0 rfl) ?_
      refine va_get (D := D) (ci := 6) (v := .int (Mo_images q1)) (C := RX10) (T := TX10) (N := 41) hx hb hts in_X10 hown hK hP 0 rfl rfl 26 (by decide) (hts _ q6_71) (fun _ h9 => h9) rfl dX10_image_44 ?_
      refine lv_imul hx hb dX10_image_47 ?_
      refine lv_sipush (v := (325 : Int32)) hx hb dX10_image_48 (by decide) ?_
      obtain ⟨q2, hc, hf⟩ := zbd hf
      refine z_cSv (As := [.ref (ht 9), .int (0 : Int32), .ref (ht 12), .int ((325 : Int32) * (Mo_images q1)), .int (325 : Int32)]) (rest := []) C (c_X10_copy l D cy (fun _ => ht 9) (fun _ => ht 12) 325 975 St_st St_kept (0 : Int32) ((325 : Int32) * (Mo_images q1)) (325 : Int32) q2 hc) gS_X10_X10_copy hd_X10_copy ⟨Nat.le_of_ble_eq_true rfl, Nat.le_of_ble_eq_true rfl⟩ ⟨Nat.le_refl _, Nat.le_refl _⟩ hP hD hS (w2 := wMo ht cy q1 ++ (wAI (fun _ => ht 12) cy 975 q2 ++ (wAI (fun _ => ht 9) cy 325 St_st))) [2, 1] [0] [0, 2, 1] rfl rfl rfl rfl rfl rfl (by decide) hl.1 (Nat.le_of_ble_eq_true rfl) dX10_image_51 (fun H locs hP hD hS => ?_)
      refine lv_aload_n hx hb dX10_image_54 rfl (lv_at hl 0 rfl) ?_
      refine lv_dup hx hb dX10_image_55 rfl ?_
      refine va_get (D := D) (ci := 6) (v := .int (Mo_images q1)) (C := RX10) (T := TX10) (N := 41) hx hb hts in_X10 hown hK hP 0 rfl rfl 26 (by decide) (hts _ q6_71) (fun _ h9 => h9) rfl dX10_image_56 ?_
      refine lv_iconst (v := (1 : Int32)) hx hb dX10_image_59 (by decide) ?_
      refine lv_iadd hx hb dX10_image_60 ?_
      refine z_put (w2 := vMo ht cy (Mo_thrown q1) (Mo_taped q1) (Mo_size q1) (Mo_at q1) (Mo_end q1) (Mo_token q1) (Mo_whole q1) (Mo_nameSize q1) (Mo_fault q1) (Mo_place q1) (Mo_trouble q1) (Mo_failed q1) (Mo_hasStore q1) (Mo_undos q1) ((Mo_images q1) + (1 : Int32)) (Mo_ring q1) (Mo_refused q1) (Mo_setMany q1) (Mo_someOf q1) (Mo_allOf q1) (Mo_firstRest q1) (Mo_allWeight q1) (Mo_seenWeight q1) (Mo_sumWeight q1) ++ (wAI (fun _ => ht 12) cy 975 q2 ++ (wAI (fun _ => ht 9) cy 325 St_st))) hx hb hts in_X10 tyX10 tyX10_ok nmX10 hown hK hP hD hS 0 rfl rfl 26 (by decide) (hts _ q6_71) (fun _ h9 => h9) rfl rfl rfl (Nat.le_of_ble_eq_true rfl) dX10_image_61 rfl (fun H locs hP hD hS => ?_)
      refine lv_aload_n hx hb dX10_image_64 rfl (lv_at hl 0 rfl) ?_
      refine va_get (D := D) (ci := 6) (v := .int ((Mo_images q1) + (1 : Int32))) (C := RX10) (T := TX10) (N := 41) hx hb hts in_X10 hown hK hP 0 rfl rfl 26 (by decide) (hts _ q6_71) (fun _ h9 => h9) rfl dX10_image_65 ?_
      refine lv_iconst (v := (1 : Int32)) hx hb dX10_image_68 (by decide) ?_
      refine lv_isub hx hb dX10_image_69 ?_
      obtain rfl := Option.some.inj hf
      rw [← wMo_mk ht] at hP hD
      exact z_iret (v := (((Mo_images q1) + (1 : Int32)) - (1 : Int32))) C hP hD hS dX10_image_70
    · refine lv_aload_n hx hb dX10_image_25 rfl (lv_at hl 0 rfl) ?_
      refine lv_iconst (v := (3 : Int32)) hx hb dX10_image_26 (by decide) ?_
      obtain ⟨q3, hc, hf⟩ := zbd hf
      refine z_cVi (As := [.int (3 : Int32)]) (rest := []) C (c_X10_no l D cy ht q1 (3 : Int32) q3 hc) gV_X10_X10_no hd_X10_no ⟨Nat.le_of_ble_eq_true rfl, Nat.le_of_ble_eq_true rfl⟩ ⟨Nat.le_refl _, Nat.le_refl _⟩ (va_recv hK hP (ci := 6) (q0 := 0) rfl rfl) hP hD hS (w2 := wMo ht cy q3.2 ++ (wAI (fun _ => ht 12) cy 975 St_kept ++ (wAI (fun _ => ht 9) cy 325 St_st))) [0] [1, 2] [2, 0, 1] rfl rfl rfl rfl rfl rfl (by decide) hl.1 (Nat.le_of_ble_eq_true rfl) dX10_image_27 (fun H locs hP hD hS => ?_)
      obtain rfl := Option.some.inj hf
      exact z_iret (v := q3.1) C hP hD hS dX10_image_30
  · refine lv_aload_n hx hb dX10_image_11 rfl (lv_at hl 0 rfl) ?_
    refine lv_iconst (v := (1 : Int32)) hx hb dX10_image_12 (by decide) ?_
    obtain ⟨q4, hc, hf⟩ := zbd hf
    refine z_cVi (As := [.int (1 : Int32)]) (rest := []) C (c_X10_no l D cy ht q1 (1 : Int32) q4 hc) gV_X10_X10_no hd_X10_no ⟨Nat.le_of_ble_eq_true rfl, Nat.le_of_ble_eq_true rfl⟩ ⟨Nat.le_refl _, Nat.le_refl _⟩ (va_recv hK hP (ci := 6) (q0 := 0) rfl rfl) hP hD hS (w2 := wMo ht cy q4.2 ++ (wAI (fun _ => ht 12) cy 975 St_kept ++ (wAI (fun _ => ht 9) cy 325 St_st))) [0] [1, 2] [2, 0, 1] rfl rfl rfl rfl rfl rfl (by decide) hl.1 (Nat.le_of_ble_eq_true rfl) dX10_image_13 (fun H locs hP hD hS => ?_)
    obtain rfl := Option.some.inj hf
    exact z_iret (v := q4.1) C hP hD hS dX10_image_16
def f_X10_back (St : SMo) (St_kept : Nat → Int32) (St_st : Nat → Int32) (x1 : Int32) : Option (Int32 × SMo × (Nat → Int32)) :=
  (f_X10_anew St).bind (fun q1 =>
    (f_X10_in x1 (0 : Int32) ((Mo_images q1) - (1 : Int32))).bind (fun q2 =>
      (if q2 = 0 then
        (f_X10_isNot q1 (1 : Int32)).bind (fun q4 =>
          (if zbo q4.1 then some (q4.1, q4.2, St_st) else none))
        else
        (f_X10_copy 975 325 St_kept St_st ((325 : Int32) * x1) (0 : Int32) (325 : Int32)).bind (fun q3 =>
          some ((1 : Int32), (mkMo (Mo_thrown q1) (Mo_taped q1) (Mo_size q1) (Mo_at q1) (Mo_end q1) (Mo_token q1) (Mo_whole q1) (Mo_nameSize q1) (Mo_fault q1) (Mo_place q1) (Mo_trouble q1) (Mo_failed q1) (Mo_hasStore q1) (0 : Int32) (Mo_images q1) (Mo_ring q1) (Mo_refused q1) (Mo_setMany q1) (Mo_someOf q1) (Mo_allOf q1) (Mo_firstRest q1) (Mo_allWeight q1) (Mo_seenWeight q1) (Mo_sumWeight q1)), q3)))))
set_option maxHeartbeats 4000000 in
set_option maxRecDepth 100000 in
theorem c_X10_back (l : Launch) (D : va_G) (cy : Nat → ClassId) (ht : Nat → Nat) (St : SMo) (St_kept : Nat → Int32) (St_st : Nat → Int32) (x1 : Int32) (r : Int32 × SMo × (Nat → Int32)) (hf : f_X10_back St St_kept St_st x1 = some r) : zCI l yX10_back cX10_back 2 (some FieldType.boolean) 1 25 D (zty cy) [.ref (ht 0), .int x1] (wMo ht cy St ++ (wAI (fun _ => ht 12) cy 975 St_kept ++ (wAI (fun _ => ht 9) cy 325 St_st))) (wMo ht cy r.2.1 ++ (wAI (fun _ => ht 12) cy 975 St_kept ++ (wAI (fun _ => ht 9) cy 325 r.2.2))) r.1 := by
  refine zCI_of (by decide +kernel) (Nat.le_of_ble_eq_true rfl) ?_
  intro p e s m below meth c A ls C hP hD hS hl
  generalize hargs : ([.ref (ht 0), .int x1] : List Value).toArray = args at C ⊢
  have C : zX p s m meth c cX10_back 2 args RX10 (some FieldType.boolean) A D (zty cy) := C
  obtain ⟨hx, hb, hr, hts, hown, hlocks, hml, hA, hK⟩ := id C
  have hl : lv_has ls 2 [(0, .ref (ht 0)), (1, .int x1)] := hl
  generalize hH : s.heap = H at hP ⊢
  have hS : va_S A s.heap H [] := by rw [← hH]; exact hS
  generalize ([] : List Loc) = locs at hS ⊢
  refine lv_aload_n hx hb dX10_back_0 rfl (lv_at hl 0 rfl) ?_
  obtain ⟨q1, hc, hf⟩ := zbd hf
  refine z_cVv (As := []) (rest := []) C (c_X10_anew l D cy ht St q1 hc) gV_X10_X10_anew hd_X10_anew ⟨Nat.le_of_ble_eq_true rfl, Nat.le_of_ble_eq_true rfl⟩ ⟨Nat.le_refl _, Nat.le_refl _⟩ (va_recv hK hP (ci := 6) (q0 := 0) rfl rfl) hP hD hS (w2 := wMo ht cy q1 ++ (wAI (fun _ => ht 12) cy 975 St_kept ++ (wAI (fun _ => ht 9) cy 325 St_st))) [0] [1, 2] [2, 0, 1] rfl rfl rfl rfl rfl rfl (by decide) hl.1 (Nat.le_of_ble_eq_true rfl) dX10_back_1 (fun H locs hP hD hS => ?_)
  refine lv_iload_n hx hb dX10_back_4 rfl (lv_at hl 1 rfl) ?_
  refine lv_iconst (v := (0 : Int32)) hx hb dX10_back_5 (by decide) ?_
  refine lv_aload_n hx hb dX10_back_6 rfl (lv_at hl 0 rfl) ?_
  refine va_get (D := D) (ci := 6) (v := .int (Mo_images q1)) (C := RX10) (T := TX10) (N := 41) hx hb hts in_X10 hown hK hP 0 rfl rfl 26 (by decide) (hts _ q6_71) (fun _ h9 => h9) rfl dX10_back_7 ?_
  refine lv_iconst (v := (1 : Int32)) hx hb dX10_back_10 (by decide) ?_
  refine lv_isub hx hb dX10_back_11 ?_
  obtain ⟨q2, hc, hf⟩ := zbd hf
  refine z_cSiE (As := [.int x1, .int (0 : Int32), .int ((Mo_images q1) - (1 : Int32))]) (rest := []) C (c_X10_in l D cy x1 (0 : Int32) ((Mo_images q1) - (1 : Int32)) q2 hc) gS_X10_X10_in hd_X10_in ⟨Nat.le_of_ble_eq_true rfl, Nat.le_of_ble_eq_true rfl⟩ ⟨Nat.le_refl _, Nat.le_refl _⟩ hP hD hS hl.1 (Nat.le_of_ble_eq_true rfl) dX10_back_12 (fun H locs hP hD hS => ?_)
  refine z_if_ne (tgt := 24) hx hb dX10_back_15 (by decide) hf (fun hf => ?_) (fun hf => ?_)
  · refine lv_aload_n hx hb dX10_back_24 rfl (lv_at hl 0 rfl) ?_
    refine va_get (D := D) (ci := 6) (v := .ref (ht 12)) (C := RX10) (T := TX10) (N := 41) hx hb hts in_X10 hown hK hP 0 rfl rfl 24 (by decide) (hts _ q6_69) (fun _ h9 => h9) rfl dX10_back_25 ?_
    refine lv_sipush (v := (325 : Int32)) hx hb dX10_back_28 (by decide) ?_
    refine lv_iload_n hx hb dX10_back_31 rfl (lv_at hl 1 rfl) ?_
    refine lv_imul hx hb dX10_back_32 ?_
    refine lv_aload_n hx hb dX10_back_33 rfl (lv_at hl 0 rfl) ?_
    refine va_get (D := D) (ci := 6) (v := .ref (ht 9)) (C := RX10) (T := TX10) (N := 41) hx hb hts in_X10 hown hK hP 0 rfl rfl 21 (by decide) (hts _ q6_66) (fun _ h9 => h9) rfl dX10_back_34 ?_
    refine lv_iconst (v := (0 : Int32)) hx hb dX10_back_37 (by decide) ?_
    refine lv_sipush (v := (325 : Int32)) hx hb dX10_back_38 (by decide) ?_
    obtain ⟨q3, hc, hf⟩ := zbd hf
    refine z_cSv (As := [.ref (ht 12), .int ((325 : Int32) * x1), .ref (ht 9), .int (0 : Int32), .int (325 : Int32)]) (rest := []) C (c_X10_copy l D cy (fun _ => ht 12) (fun _ => ht 9) 975 325 St_kept St_st ((325 : Int32) * x1) (0 : Int32) (325 : Int32) q3 hc) gS_X10_X10_copy hd_X10_copy ⟨Nat.le_of_ble_eq_true rfl, Nat.le_of_ble_eq_true rfl⟩ ⟨Nat.le_refl _, Nat.le_refl _⟩ hP hD hS (w2 := wMo ht cy q1 ++ (wAI (fun _ => ht 12) cy 975 St_kept ++ (wAI (fun _ => ht 9) cy 325 q3))) [1, 2] [0] [0, 1, 2] rfl rfl rfl rfl rfl rfl (by decide) hl.1 (Nat.le_of_ble_eq_true rfl) dX10_back_41 (fun H locs hP hD hS => ?_)
    refine lv_aload_n hx hb dX10_back_44 rfl (lv_at hl 0 rfl) ?_
    refine lv_iconst (v := (0 : Int32)) hx hb dX10_back_45 (by decide) ?_
    refine z_put (w2 := vMo ht cy (Mo_thrown q1) (Mo_taped q1) (Mo_size q1) (Mo_at q1) (Mo_end q1) (Mo_token q1) (Mo_whole q1) (Mo_nameSize q1) (Mo_fault q1) (Mo_place q1) (Mo_trouble q1) (Mo_failed q1) (Mo_hasStore q1) (0 : Int32) (Mo_images q1) (Mo_ring q1) (Mo_refused q1) (Mo_setMany q1) (Mo_someOf q1) (Mo_allOf q1) (Mo_firstRest q1) (Mo_allWeight q1) (Mo_seenWeight q1) (Mo_sumWeight q1) ++ (wAI (fun _ => ht 12) cy 975 St_kept ++ (wAI (fun _ => ht 9) cy 325 q3))) hx hb hts in_X10 tyX10 tyX10_ok nmX10 hown hK hP hD hS 0 rfl rfl 25 (by decide) (hts _ q6_70) (fun _ h9 => h9) rfl rfl rfl (Nat.le_of_ble_eq_true rfl) dX10_back_46 rfl (fun H locs hP hD hS => ?_)
    refine lv_iconst (v := (1 : Int32)) hx hb dX10_back_49 (by decide) ?_
    obtain rfl := Option.some.inj hf
    rw [← wMo_mk ht] at hP hD
    exact z_zret (v := (1 : Int32)) C rfl hP hD hS dX10_back_50
  · refine lv_aload_n hx hb dX10_back_18 rfl (lv_at hl 0 rfl) ?_
    refine lv_iconst (v := (1 : Int32)) hx hb dX10_back_19 (by decide) ?_
    obtain ⟨q4, hc, hf⟩ := zbd hf
    refine z_cVi (As := [.int (1 : Int32)]) (rest := []) C (c_X10_isNot l D cy ht q1 (1 : Int32) q4 hc) gV_X10_X10_isNot hd_X10_isNot ⟨Nat.le_of_ble_eq_true rfl, Nat.le_of_ble_eq_true rfl⟩ ⟨Nat.le_refl _, Nat.le_refl _⟩ (va_recv hK hP (ci := 6) (q0 := 0) rfl rfl) hP hD hS (w2 := wMo ht cy q4.2 ++ (wAI (fun _ => ht 12) cy 975 St_kept ++ (wAI (fun _ => ht 9) cy 325 St_st))) [0] [1, 2] [2, 0, 1] rfl rfl rfl rfl rfl rfl (by decide) hl.1 (Nat.le_of_ble_eq_true rfl) dX10_back_20 (fun H locs hP hD hS => ?_)
    obtain ⟨hz, hf⟩ := zgd hf
    obtain rfl := Option.some.inj hf
    exact z_zret (v := q4.1) C (zbo_n hz) hP hD hS dX10_back_23
def b_X10_led_4 (St_r : Nat → Int32) (St_st : Nat → Int32) (x1 : Int32) (k4 : SMo → Int32 → Int32 → Option (Int32 × SMo)) (St : SMo) (v2 : Int32) (v3 : Int32) : Option (Int32 × SMo) :=
  (if (Mo_hasStore St) = 0 then
    some ((0 : Int32), (mkMo (1 : Int32) (Mo_taped St) (Mo_size St) (Mo_at St) (Mo_end St) (Mo_token St) (Mo_whole St) (Mo_nameSize St) (Mo_fault St) (Mo_place St) (Mo_trouble St) (Mo_failed St) (Mo_hasStore St) (Mo_undos St) (Mo_images St) (Mo_ring St) (Mo_refused St) (Mo_setMany St) (Mo_someOf St) (Mo_allOf St) (Mo_firstRest St) (Mo_allWeight St) (Mo_seenWeight St) (Mo_sumWeight St)))
    else
    (if zib (1 : Int32) 140 then (if (St_r (1 : Int32).toNatClampNeg) ≤ v3 then
        some ((0 : Int32), (mkMo (1 : Int32) (Mo_taped St) (Mo_size St) (Mo_at St) (Mo_end St) (Mo_token St) (Mo_whole St) (Mo_nameSize St) (Mo_fault St) (Mo_place St) (Mo_trouble St) (Mo_failed St) (Mo_hasStore St) (Mo_undos St) (Mo_images St) (Mo_ring St) (Mo_refused St) (Mo_setMany St) (Mo_someOf St) (Mo_allOf St) (Mo_firstRest St) (Mo_allWeight St) (Mo_seenWeight St) (Mo_sumWeight St)))
        else
        (f_X10_seenIn St St_st (-1 : Int32) v3).bind (fun q1 =>
          (if q1 < 0 then
            (if v2 = x1 then
              some (v3, (mkMo (0 : Int32) (Mo_taped St) (Mo_size St) (Mo_at St) (Mo_end St) (Mo_token St) (Mo_whole St) (Mo_nameSize St) (Mo_fault St) (Mo_place St) (Mo_trouble St) (Mo_failed St) (Mo_hasStore St) (Mo_undos St) (Mo_images St) (Mo_ring St) (Mo_refused St) (Mo_setMany St) (Mo_someOf St) (Mo_allOf St) (Mo_firstRest St) (Mo_allWeight St) (Mo_seenWeight St) (Mo_sumWeight St)))
              else
              (k4 St (v2 + (1 : Int32)) (v3 + (1 : Int32))))
            else
            (k4 St v2 (v3 + (1 : Int32)))))) else none))
set_option maxHeartbeats 4000000 in
set_option maxRecDepth 100000 in
theorem w_X10_led_4 {p : Program} {e : Env} {s : State} {m : MethodId} {below : List Frame} {meth : Method} {c : Code} {A : Nat → Prop} {D : va_G} {cy : Nat → ClassId} {args : Array Value} {r : Int32 × SMo} (l : Launch) (ht : Nat → Nat) (St_r : Nat → Int32) (St_st : Nat → Int32) (x1 : Int32) (C : zX p s m meth c cX10_led 4 args RX10 (some FieldType.int) A D (zty cy)) :
    ∀ (n : Nat) (St : SMo) (v2 : Int32) (v3 : Int32) (H : Heap) (locs : List Loc) (ls : Array Slot), zl3 (b_X10_led_4 St_r St_st x1) n St v2 v3 = some r → va_P D vwCl (wMo ht cy St ++ (wAI (fun _ => ht 3) cy 140 St_r ++ (wAI (fun _ => ht 9) cy 325 St_st))) H → va_D A (wMo ht cy St ++ (wAI (fun _ => ht 3) cy 140 St_r ++ (wAI (fun _ => ht 9) cy 325 St_st))) → va_S A s.heap H locs → lv_has ls 4 [(0, .ref (ht 0)), (1, .int x1), (2, .int v2), (3, .int v3)] → W p l e (zRm 5 119) s m args below meth c H locs 0 0 (MQ below (zQI D (zty cy) A (wMo ht cy r.2 ++ (wAI (fun _ => ht 3) cy 140 St_r ++ (wAI (fun _ => ht 9) cy 325 St_st))) r.1) args s 0 0 A) (F0 m 4 ls []) := by
  obtain ⟨hx, hb, hr, hts, hown, hlocks, hml, hA, hK⟩ := id C
  intro n
  induction n with
  | zero => intro St v2 v3 H locs ls hf; exact zno hf
  | succ n ih =>
    intro St v2 v3 H locs ls hf hP hD hS hl
    have hf : b_X10_led_4 St_r St_st x1 (zl3 (b_X10_led_4 St_r St_st x1) n) St v2 v3 = some r := hf
    have K4 := ih
    refine lv_aload_n hx hb dX10_led_4 rfl (lv_at hl 0 rfl) ?_
    refine va_get (D := D) (ci := 6) (v := .int (Mo_hasStore St)) (C := RX10) (T := TX10) (N := 41) hx hb hts in_X10 hown hK hP 0 rfl rfl 14 (by decide) (hts _ q6_59) (fun _ h9 => h9) rfl dX10_led_5 ?_
    refine z_if_eq (tgt := 58) hx hb dX10_led_8 (by decide) hf (fun hf => ?_) (fun hf => ?_)
    · refine lv_aload_n hx hb dX10_led_58 rfl (lv_at hl 0 rfl) ?_
      refine lv_iconst (v := (1 : Int32)) hx hb dX10_led_59 (by decide) ?_
      refine z_put (w2 := vMo ht cy (1 : Int32) (Mo_taped St) (Mo_size St) (Mo_at St) (Mo_end St) (Mo_token St) (Mo_whole St) (Mo_nameSize St) (Mo_fault St) (Mo_place St) (Mo_trouble St) (Mo_failed St) (Mo_hasStore St) (Mo_undos St) (Mo_images St) (Mo_ring St) (Mo_refused St) (Mo_setMany St) (Mo_someOf St) (Mo_allOf St) (Mo_firstRest St) (Mo_allWeight St) (Mo_seenWeight St) (Mo_sumWeight St) ++ (wAI (fun _ => ht 3) cy 140 St_r ++ (wAI (fun _ => ht 9) cy 325 St_st))) hx hb hts in_X10 tyX10 tyX10_ok nmX10 hown hK hP hD hS 0 rfl rfl 0 (by decide) (hts _ q6_45) (fun _ h9 => h9) rfl rfl rfl (Nat.le_of_ble_eq_true rfl) dX10_led_60 rfl (fun H locs hP hD hS => ?_)
      refine lv_iconst (v := (0 : Int32)) hx hb dX10_led_63 (by decide) ?_
      obtain rfl := Option.some.inj hf
      rw [← wMo_mk ht] at hP hD
      exact z_iret (v := (0 : Int32)) C hP hD hS dX10_led_64
    · refine lv_iload_n hx hb dX10_led_11 rfl (lv_at hl 3 rfl) ?_
      refine lv_aload_n hx hb dX10_led_12 rfl (lv_at hl 0 rfl) ?_
      refine va_get (D := D) (ci := 6) (v := .ref (ht 3)) (C := RX10) (T := TX10) (N := 41) hx hb hts in_X10 hown hK hP 0 rfl rfl 15 (by decide) (hts _ q6_60) (fun _ h9 => h9) rfl dX10_led_13 ?_
      refine lv_iconst (v := (1 : Int32)) hx hb dX10_led_16 (by decide) ?_
      refine z_iald (f := St_r) hx hb hK hP 1 0 rfl rfl dX10_led_17 hf (fun hf => ?_)
      refine z_icmp_ge (tgt := 58) hx hb dX10_led_18 (by decide) hf (fun hf => ?_) (fun hf => ?_)
      · refine lv_aload_n hx hb dX10_led_58 rfl (lv_at hl 0 rfl) ?_
        refine lv_iconst (v := (1 : Int32)) hx hb dX10_led_59 (by decide) ?_
        refine z_put (w2 := vMo ht cy (1 : Int32) (Mo_taped St) (Mo_size St) (Mo_at St) (Mo_end St) (Mo_token St) (Mo_whole St) (Mo_nameSize St) (Mo_fault St) (Mo_place St) (Mo_trouble St) (Mo_failed St) (Mo_hasStore St) (Mo_undos St) (Mo_images St) (Mo_ring St) (Mo_refused St) (Mo_setMany St) (Mo_someOf St) (Mo_allOf St) (Mo_firstRest St) (Mo_allWeight St) (Mo_seenWeight St) (Mo_sumWeight St) ++ (wAI (fun _ => ht 3) cy 140 St_r ++ (wAI (fun _ => ht 9) cy 325 St_st))) hx hb hts in_X10 tyX10 tyX10_ok nmX10 hown hK hP hD hS 0 rfl rfl 0 (by decide) (hts _ q6_45) (fun _ h9 => h9) rfl rfl rfl (Nat.le_of_ble_eq_true rfl) dX10_led_60 rfl (fun H locs hP hD hS => ?_)
        refine lv_iconst (v := (0 : Int32)) hx hb dX10_led_63 (by decide) ?_
        obtain rfl := Option.some.inj hf
        rw [← wMo_mk ht] at hP hD
        exact z_iret (v := (0 : Int32)) C hP hD hS dX10_led_64
      · refine lv_aload_n hx hb dX10_led_21 rfl (lv_at hl 0 rfl) ?_
        refine lv_aload_n hx hb dX10_led_22 rfl (lv_at hl 0 rfl) ?_
        refine va_get (D := D) (ci := 6) (v := .ref (ht 9)) (C := RX10) (T := TX10) (N := 41) hx hb hts in_X10 hown hK hP 0 rfl rfl 21 (by decide) (hts _ q6_66) (fun _ h9 => h9) rfl dX10_led_23 ?_
        refine lv_iconst (v := (-1 : Int32)) hx hb dX10_led_26 (by decide) ?_
        refine lv_iload_n hx hb dX10_led_27 rfl (lv_at hl 3 rfl) ?_
        obtain ⟨q1, hc, hf⟩ := zbd hf
        refine z_cVi (As := [.ref (ht 9), .int (-1 : Int32), .int v3]) (rest := []) C (c_X10_seenIn l D cy ht (fun _ => ht 9) St St_st (-1 : Int32) v3 q1 hc) gV_X10_X10_seenIn hd_X10_seenIn ⟨Nat.le_of_ble_eq_true rfl, Nat.le_of_ble_eq_true rfl⟩ ⟨Nat.le_refl _, Nat.le_refl _⟩ (va_recv hK hP (ci := 6) (q0 := 0) rfl rfl) hP hD hS (w2 := wMo ht cy St ++ (wAI (fun _ => ht 3) cy 140 St_r ++ (wAI (fun _ => ht 9) cy 325 St_st))) [0, 2] [1] [1, 0, 2] rfl rfl rfl rfl rfl rfl (by decide) hl.1 (Nat.le_of_ble_eq_true rfl) dX10_led_28 (fun H locs hP hD hS => ?_)
        refine z_if_lt (tgt := 37) hx hb dX10_led_31 (by decide) hf (fun hf => ?_) (fun hf => ?_)
        · refine lv_iload_n hx hb dX10_led_37 rfl (lv_at hl 2 rfl) ?_
          refine lv_iload_n hx hb dX10_led_38 rfl (lv_at hl 1 rfl) ?_
          refine z_icmp_ne (tgt := 49) hx hb dX10_led_39 (by decide) hf (fun hf => ?_) (fun hf => ?_)
          · refine lv_iinc (v := (v2 + (1 : Int32))) (lv' := [(2, .int (v2 + (1 : Int32))), (0, .ref (ht 0)), (1, .int x1), (3, .int v3)]) hx hb dX10_led_49 hl (k := 2) rfl rfl (by decide) rfl (fun ls hl => ?_)
            refine lv_iinc (v := (v3 + (1 : Int32))) (lv' := [(3, .int (v3 + (1 : Int32))), (2, .int (v2 + (1 : Int32))), (0, .ref (ht 0)), (1, .int x1)]) hx hb dX10_led_52 hl (k := 3) rfl rfl (by decide) rfl (fun ls hl => ?_)
            refine lv_goto (tgt := 4) hx hb dX10_led_55 (by decide) ?_
            exact K4 St (v2 + (1 : Int32)) (v3 + (1 : Int32)) H locs ls hf hP hD hS (lv_sub hl [2, 3, 1, 0] rfl)
          · refine lv_aload_n hx hb dX10_led_42 rfl (lv_at hl 0 rfl) ?_
            refine lv_iconst (v := (0 : Int32)) hx hb dX10_led_43 (by decide) ?_
            refine z_put (w2 := vMo ht cy (0 : Int32) (Mo_taped St) (Mo_size St) (Mo_at St) (Mo_end St) (Mo_token St) (Mo_whole St) (Mo_nameSize St) (Mo_fault St) (Mo_place St) (Mo_trouble St) (Mo_failed St) (Mo_hasStore St) (Mo_undos St) (Mo_images St) (Mo_ring St) (Mo_refused St) (Mo_setMany St) (Mo_someOf St) (Mo_allOf St) (Mo_firstRest St) (Mo_allWeight St) (Mo_seenWeight St) (Mo_sumWeight St) ++ (wAI (fun _ => ht 3) cy 140 St_r ++ (wAI (fun _ => ht 9) cy 325 St_st))) hx hb hts in_X10 tyX10 tyX10_ok nmX10 hown hK hP hD hS 0 rfl rfl 0 (by decide) (hts _ q6_45) (fun _ h9 => h9) rfl rfl rfl (Nat.le_of_ble_eq_true rfl) dX10_led_44 rfl (fun H locs hP hD hS => ?_)
            refine lv_iload_n hx hb dX10_led_47 rfl (lv_at hl 3 rfl) ?_
            obtain rfl := Option.some.inj hf
            rw [← wMo_mk ht] at hP hD
            exact z_iret (v := v3) C hP hD hS dX10_led_48
        · refine lv_goto (tgt := 52) hx hb dX10_led_34 (by decide) ?_
          refine lv_iinc (v := (v3 + (1 : Int32))) (lv' := [(3, .int (v3 + (1 : Int32))), (0, .ref (ht 0)), (1, .int x1), (2, .int v2)]) hx hb dX10_led_52 hl (k := 3) rfl rfl (by decide) rfl (fun ls hl => ?_)
          refine lv_goto (tgt := 4) hx hb dX10_led_55 (by decide) ?_
          exact K4 St v2 (v3 + (1 : Int32)) H locs ls hf hP hD hS (lv_sub hl [1, 2, 3, 0] rfl)
def f_X10_led (St : SMo) (St_r : Nat → Int32) (St_st : Nat → Int32) (x1 : Int32) : Option (Int32 × SMo) :=
  (zl3 (b_X10_led_4 St_r St_st x1) FU St (0 : Int32) (0 : Int32))
set_option maxHeartbeats 4000000 in
set_option maxRecDepth 100000 in
theorem c_X10_led (l : Launch) (D : va_G) (cy : Nat → ClassId) (ht : Nat → Nat) (St : SMo) (St_r : Nat → Int32) (St_st : Nat → Int32) (x1 : Int32) (r : Int32 × SMo) (hf : f_X10_led St St_r St_st x1 = some r) : zCI l yX10_led cX10_led 4 (some FieldType.int) 5 119 D (zty cy) [.ref (ht 0), .int x1] (wMo ht cy St ++ (wAI (fun _ => ht 3) cy 140 St_r ++ (wAI (fun _ => ht 9) cy 325 St_st))) (wMo ht cy r.2 ++ (wAI (fun _ => ht 3) cy 140 St_r ++ (wAI (fun _ => ht 9) cy 325 St_st))) r.1 := by
  refine zCI_of (by decide +kernel) (Nat.le_of_ble_eq_true rfl) ?_
  intro p e s m below meth c A ls C hP hD hS hl
  generalize hargs : ([.ref (ht 0), .int x1] : List Value).toArray = args at C ⊢
  have C : zX p s m meth c cX10_led 4 args RX10 (some FieldType.int) A D (zty cy) := C
  obtain ⟨hx, hb, hr, hts, hown, hlocks, hml, hA, hK⟩ := id C
  have hl : lv_has ls 4 [(0, .ref (ht 0)), (1, .int x1)] := hl
  generalize hH : s.heap = H at hP ⊢
  have hS : va_S A s.heap H [] := by rw [← hH]; exact hS
  generalize ([] : List Loc) = locs at hS ⊢
  refine lv_iconst (v := (0 : Int32)) hx hb dX10_led_0 (by decide) ?_
  refine lv_istore_n (lv' := [(2, .int (0 : Int32)), (0, .ref (ht 0)), (1, .int x1)]) hx hb dX10_led_1 rfl hl (by decide) rfl (fun ls hl => ?_)
  refine lv_iconst (v := (0 : Int32)) hx hb dX10_led_2 (by decide) ?_
  refine lv_istore_n (lv' := [(3, .int (0 : Int32)), (2, .int (0 : Int32)), (0, .ref (ht 0)), (1, .int x1)]) hx hb dX10_led_3 rfl hl (by decide) rfl (fun ls hl => ?_)
  exact w_X10_led_4 l ht St_r St_st x1 C FU St (0 : Int32) (0 : Int32) H locs ls hf hP hD hS (lv_sub hl [2, 3, 1, 0] rfl)
def b_X10_runMany_4 (St : SMo) (St_st : Nat → Int32) (k4 : Int32 → Int32 → Option (Int32)) (v1 : Int32) (v2 : Int32) : Option (Int32) :=
  (if (6 : Int32) ≤ v2 then
    some v1
    else
    (f_X10_doesRun St_st v2).bind (fun q1 =>
      (if q1 = 0 then
        (k4 (v1 + (0 : Int32)) (v2 + (1 : Int32)))
        else
        (k4 (v1 + (1 : Int32)) (v2 + (1 : Int32))))))
set_option maxHeartbeats 4000000 in
set_option maxRecDepth 100000 in
theorem w_X10_runMany_4 {p : Program} {e : Env} {s : State} {m : MethodId} {below : List Frame} {meth : Method} {c : Code} {A : Nat → Prop} {D : va_G} {cy : Nat → ClassId} {args : Array Value} {r : Int32} (l : Launch) (ht : Nat → Nat) (St : SMo) (St_st : Nat → Int32) (C : zX p s m meth c cX10_runMany 3 args RX10 (some FieldType.int) A D (zty cy)) :
    ∀ (n : Nat) (v1 : Int32) (v2 : Int32) (H : Heap) (locs : List Loc) (ls : Array Slot), zl2 (b_X10_runMany_4 St St_st) n v1 v2 = some r → va_P D vwCl (wMo ht cy St ++ (wAI (fun _ => ht 9) cy 325 St_st)) H → va_D A (wMo ht cy St ++ (wAI (fun _ => ht 9) cy 325 St_st)) → va_S A s.heap H locs → lv_has ls 3 [(0, .ref (ht 0)), (1, .int v1), (2, .int v2)] → W p l e (zRm 1 22) s m args below meth c H locs 0 0 (MQ below (zQI D (zty cy) A (wMo ht cy St ++ (wAI (fun _ => ht 9) cy 325 St_st)) r) args s 0 0 A) (F0 m 4 ls []) := by
  obtain ⟨hx, hb, hr, hts, hown, hlocks, hml, hA, hK⟩ := id C
  intro n
  induction n with
  | zero => intro v1 v2 H locs ls hf; exact zno hf
  | succ n ih =>
    intro v1 v2 H locs ls hf hP hD hS hl
    have hf : b_X10_runMany_4 St St_st (zl2 (b_X10_runMany_4 St St_st) n) v1 v2 = some r := hf
    have K4 := ih
    refine lv_iload_n hx hb dX10_runMany_4 rfl (lv_at hl 2 rfl) ?_
    refine lv_bipush (v := (6 : Int32)) hx hb dX10_runMany_5 (by decide) ?_
    refine z_icmp_ge (tgt := 36) hx hb dX10_runMany_7 (by decide) hf (fun hf => ?_) (fun hf => ?_)
    · refine lv_iload_n hx hb dX10_runMany_36 rfl (lv_at hl 1 rfl) ?_
      obtain rfl := Option.some.inj hf
      exact z_iret (v := v1) C hP hD hS dX10_runMany_37
    · refine lv_iload_n hx hb dX10_runMany_10 rfl (lv_at hl 1 rfl) ?_
      refine lv_aload_n hx hb dX10_runMany_11 rfl (lv_at hl 0 rfl) ?_
      refine lv_aload_n hx hb dX10_runMany_12 rfl (lv_at hl 0 rfl) ?_
      refine va_get (D := D) (ci := 6) (v := .ref (ht 9)) (C := RX10) (T := TX10) (N := 41) hx hb hts in_X10 hown hK hP 0 rfl rfl 21 (by decide) (hts _ q6_66) (fun _ h9 => h9) rfl dX10_runMany_13 ?_
      refine lv_iload_n hx hb dX10_runMany_16 rfl (lv_at hl 2 rfl) ?_
      obtain ⟨q1, hc, hf⟩ := zbd hf
      refine z_cVi (As := [.ref (ht 9), .int v2]) (rest := [.int v1]) C (c_X10_doesRun l D cy ht (fun _ => ht 9) St_st v2 q1 hc) gV_X10_X10_doesRun hd_X10_doesRun ⟨Nat.le_of_ble_eq_true rfl, Nat.le_of_ble_eq_true rfl⟩ ⟨Nat.le_refl _, Nat.le_refl _⟩ (va_recv hK hP (ci := 6) (q0 := 0) rfl rfl) hP hD hS (w2 := wMo ht cy St ++ (wAI (fun _ => ht 9) cy 325 St_st)) [1] [0] [0, 1] rfl rfl rfl rfl rfl rfl (by decide) hl.1 (Nat.le_of_ble_eq_true rfl) dX10_runMany_17 (fun H locs hP hD hS => ?_)
      refine z_if_eq (tgt := 27) hx hb dX10_runMany_20 (by decide) hf (fun hf => ?_) (fun hf => ?_)
      · refine lv_iconst (v := (0 : Int32)) hx hb dX10_runMany_27 (by decide) ?_
        refine lv_iadd hx hb dX10_runMany_28 ?_
        refine lv_istore_n (lv' := [(1, .int (v1 + (0 : Int32))), (0, .ref (ht 0)), (2, .int v2)]) hx hb dX10_runMany_29 rfl hl (by decide) rfl (fun ls hl => ?_)
        refine lv_iinc (v := (v2 + (1 : Int32))) (lv' := [(2, .int (v2 + (1 : Int32))), (1, .int (v1 + (0 : Int32))), (0, .ref (ht 0))]) hx hb dX10_runMany_30 hl (k := 2) rfl rfl (by decide) rfl (fun ls hl => ?_)
        refine lv_goto (tgt := 4) hx hb dX10_runMany_33 (by decide) ?_
        exact K4 (v1 + (0 : Int32)) (v2 + (1 : Int32)) H locs ls hf hP hD hS (lv_sub hl [2, 1, 0] rfl)
      · refine lv_iconst (v := (1 : Int32)) hx hb dX10_runMany_23 (by decide) ?_
        refine lv_goto (tgt := 28) hx hb dX10_runMany_24 (by decide) ?_
        refine lv_iadd hx hb dX10_runMany_28 ?_
        refine lv_istore_n (lv' := [(1, .int (v1 + (1 : Int32))), (0, .ref (ht 0)), (2, .int v2)]) hx hb dX10_runMany_29 rfl hl (by decide) rfl (fun ls hl => ?_)
        refine lv_iinc (v := (v2 + (1 : Int32))) (lv' := [(2, .int (v2 + (1 : Int32))), (1, .int (v1 + (1 : Int32))), (0, .ref (ht 0))]) hx hb dX10_runMany_30 hl (k := 2) rfl rfl (by decide) rfl (fun ls hl => ?_)
        refine lv_goto (tgt := 4) hx hb dX10_runMany_33 (by decide) ?_
        exact K4 (v1 + (1 : Int32)) (v2 + (1 : Int32)) H locs ls hf hP hD hS (lv_sub hl [2, 1, 0] rfl)
def f_X10_runMany (St : SMo) (St_st : Nat → Int32) : Option (Int32) :=
  (zl2 (b_X10_runMany_4 St St_st) FU (0 : Int32) (0 : Int32))
set_option maxHeartbeats 4000000 in
set_option maxRecDepth 100000 in
theorem c_X10_runMany (l : Launch) (D : va_G) (cy : Nat → ClassId) (ht : Nat → Nat) (St : SMo) (St_st : Nat → Int32) (r : Int32) (hf : f_X10_runMany St St_st = some r) : zCI l yX10_runMany cX10_runMany 3 (some FieldType.int) 1 22 D (zty cy) [.ref (ht 0)] (wMo ht cy St ++ (wAI (fun _ => ht 9) cy 325 St_st)) (wMo ht cy St ++ (wAI (fun _ => ht 9) cy 325 St_st)) r := by
  refine zCI_of (by decide +kernel) (Nat.le_of_ble_eq_true rfl) ?_
  intro p e s m below meth c A ls C hP hD hS hl
  generalize hargs : ([.ref (ht 0)] : List Value).toArray = args at C ⊢
  have C : zX p s m meth c cX10_runMany 3 args RX10 (some FieldType.int) A D (zty cy) := C
  obtain ⟨hx, hb, hr, hts, hown, hlocks, hml, hA, hK⟩ := id C
  have hl : lv_has ls 3 [(0, .ref (ht 0))] := hl
  generalize hH : s.heap = H at hP ⊢
  have hS : va_S A s.heap H [] := by rw [← hH]; exact hS
  generalize ([] : List Loc) = locs at hS ⊢
  refine lv_iconst (v := (0 : Int32)) hx hb dX10_runMany_0 (by decide) ?_
  refine lv_istore_n (lv' := [(1, .int (0 : Int32)), (0, .ref (ht 0))]) hx hb dX10_runMany_1 rfl hl (by decide) rfl (fun ls hl => ?_)
  refine lv_iconst (v := (0 : Int32)) hx hb dX10_runMany_2 (by decide) ?_
  refine lv_istore_n (lv' := [(2, .int (0 : Int32)), (1, .int (0 : Int32)), (0, .ref (ht 0))]) hx hb dX10_runMany_3 rfl hl (by decide) rfl (fun ls hl => ?_)
  exact w_X10_runMany_4 l ht St St_st C FU (0 : Int32) (0 : Int32) H locs ls hf hP hD hS (lv_sub hl [2, 1, 0] rfl)
def f_X10_size (St : SMo) (St_r : Nat → Int32) (St_st : Nat → Int32) (x1 : Int32) : Option (Int32 × SMo) :=
  (if x1 = (9 : Int32) then
    some ((Mo_taped St), (mkMo (0 : Int32) (Mo_taped St) (Mo_size St) (Mo_at St) (Mo_end St) (Mo_token St) (Mo_whole St) (Mo_nameSize St) (Mo_fault St) (Mo_place St) (Mo_trouble St) (Mo_failed St) (Mo_hasStore St) (Mo_undos St) (Mo_images St) (Mo_ring St) (Mo_refused St) (Mo_setMany St) (Mo_someOf St) (Mo_allOf St) (Mo_firstRest St) (Mo_allWeight St) (Mo_seenWeight St) (Mo_sumWeight St)))
    else
    (if (Mo_hasStore St) = 0 then
      (f_X10_in x1 (0 : Int32) (8 : Int32)).bind (fun q3 =>
        (if q3 = 0 then
          some ((-1 : Int32), (mkMo (0 : Int32) (Mo_taped St) (Mo_size St) (Mo_at St) (Mo_end St) (Mo_token St) (Mo_whole St) (Mo_nameSize St) (Mo_fault St) (Mo_place St) (Mo_trouble St) (Mo_failed St) (Mo_hasStore St) (Mo_undos St) (Mo_images St) (Mo_ring St) (Mo_refused St) (Mo_setMany St) (Mo_someOf St) (Mo_allOf St) (Mo_firstRest St) (Mo_allWeight St) (Mo_seenWeight St) (Mo_sumWeight St)))
          else
          some ((0 : Int32), (mkMo (0 : Int32) (Mo_taped St) (Mo_size St) (Mo_at St) (Mo_end St) (Mo_token St) (Mo_whole St) (Mo_nameSize St) (Mo_fault St) (Mo_place St) (Mo_trouble St) (Mo_failed St) (Mo_hasStore St) (Mo_undos St) (Mo_images St) (Mo_ring St) (Mo_refused St) (Mo_setMany St) (Mo_someOf St) (Mo_allOf St) (Mo_firstRest St) (Mo_allWeight St) (Mo_seenWeight St) (Mo_sumWeight St)))))
      else
      (if x1 = 0 then
        (if zib (0 : Int32) 140 then some ((St_r (0 : Int32).toNatClampNeg), (mkMo (0 : Int32) (Mo_taped St) (Mo_size St) (Mo_at St) (Mo_end St) (Mo_token St) (Mo_whole St) (Mo_nameSize St) (Mo_fault St) (Mo_place St) (Mo_trouble St) (Mo_failed St) (Mo_hasStore St) (Mo_undos St) (Mo_images St) (Mo_ring St) (Mo_refused St) (Mo_setMany St) (Mo_someOf St) (Mo_allOf St) (Mo_firstRest St) (Mo_allWeight St) (Mo_seenWeight St) (Mo_sumWeight St))) else none)
        else
        (if x1 = 1 then
          (if zib (1 : Int32) 140 then some ((St_r (1 : Int32).toNatClampNeg), (mkMo (0 : Int32) (Mo_taped St) (Mo_size St) (Mo_at St) (Mo_end St) (Mo_token St) (Mo_whole St) (Mo_nameSize St) (Mo_fault St) (Mo_place St) (Mo_trouble St) (Mo_failed St) (Mo_hasStore St) (Mo_undos St) (Mo_images St) (Mo_ring St) (Mo_refused St) (Mo_setMany St) (Mo_someOf St) (Mo_allOf St) (Mo_firstRest St) (Mo_allWeight St) (Mo_seenWeight St) (Mo_sumWeight St))) else none)
          else
          (if x1 = 2 then
            (if zib (3 : Int32) 140 then some ((St_r (3 : Int32).toNatClampNeg), (mkMo (0 : Int32) (Mo_taped St) (Mo_size St) (Mo_at St) (Mo_end St) (Mo_token St) (Mo_whole St) (Mo_nameSize St) (Mo_fault St) (Mo_place St) (Mo_trouble St) (Mo_failed St) (Mo_hasStore St) (Mo_undos St) (Mo_images St) (Mo_ring St) (Mo_refused St) (Mo_setMany St) (Mo_someOf St) (Mo_allOf St) (Mo_firstRest St) (Mo_allWeight St) (Mo_seenWeight St) (Mo_sumWeight St))) else none)
            else
            (if x1 = 3 then
              (f_X10_versionsOf St_st).bind (fun q1 =>
                some (q1, (mkMo (0 : Int32) (Mo_taped St) (Mo_size St) (Mo_at St) (Mo_end St) (Mo_token St) (Mo_whole St) (Mo_nameSize St) (Mo_fault St) (Mo_place St) (Mo_trouble St) (Mo_failed St) (Mo_hasStore St) (Mo_undos St) (Mo_images St) (Mo_ring St) (Mo_refused St) (Mo_setMany St) (Mo_someOf St) (Mo_allOf St) (Mo_firstRest St) (Mo_allWeight St) (Mo_seenWeight St) (Mo_sumWeight St))))
              else
              (if x1 = 4 then
                (f_X10_runMany (mkMo (0 : Int32) (Mo_taped St) (Mo_size St) (Mo_at St) (Mo_end St) (Mo_token St) (Mo_whole St) (Mo_nameSize St) (Mo_fault St) (Mo_place St) (Mo_trouble St) (Mo_failed St) (Mo_hasStore St) (Mo_undos St) (Mo_images St) (Mo_ring St) (Mo_refused St) (Mo_setMany St) (Mo_someOf St) (Mo_allOf St) (Mo_firstRest St) (Mo_allWeight St) (Mo_seenWeight St) (Mo_sumWeight St)) St_st).bind (fun q2 =>
                  some (q2, (mkMo (0 : Int32) (Mo_taped St) (Mo_size St) (Mo_at St) (Mo_end St) (Mo_token St) (Mo_whole St) (Mo_nameSize St) (Mo_fault St) (Mo_place St) (Mo_trouble St) (Mo_failed St) (Mo_hasStore St) (Mo_undos St) (Mo_images St) (Mo_ring St) (Mo_refused St) (Mo_setMany St) (Mo_someOf St) (Mo_allOf St) (Mo_firstRest St) (Mo_allWeight St) (Mo_seenWeight St) (Mo_sumWeight St))))
                else
                (if x1 = 5 then
                  (if zib (4 : Int32) 140 then some ((St_r (4 : Int32).toNatClampNeg), (mkMo (0 : Int32) (Mo_taped St) (Mo_size St) (Mo_at St) (Mo_end St) (Mo_token St) (Mo_whole St) (Mo_nameSize St) (Mo_fault St) (Mo_place St) (Mo_trouble St) (Mo_failed St) (Mo_hasStore St) (Mo_undos St) (Mo_images St) (Mo_ring St) (Mo_refused St) (Mo_setMany St) (Mo_someOf St) (Mo_allOf St) (Mo_firstRest St) (Mo_allWeight St) (Mo_seenWeight St) (Mo_sumWeight St))) else none)
                  else
                  (if x1 = 6 then
                    (if zib (5 : Int32) 140 then some ((St_r (5 : Int32).toNatClampNeg), (mkMo (0 : Int32) (Mo_taped St) (Mo_size St) (Mo_at St) (Mo_end St) (Mo_token St) (Mo_whole St) (Mo_nameSize St) (Mo_fault St) (Mo_place St) (Mo_trouble St) (Mo_failed St) (Mo_hasStore St) (Mo_undos St) (Mo_images St) (Mo_ring St) (Mo_refused St) (Mo_setMany St) (Mo_someOf St) (Mo_allOf St) (Mo_firstRest St) (Mo_allWeight St) (Mo_seenWeight St) (Mo_sumWeight St))) else none)
                    else
                    (if x1 = 7 then
                      some ((Mo_undos St), (mkMo (0 : Int32) (Mo_taped St) (Mo_size St) (Mo_at St) (Mo_end St) (Mo_token St) (Mo_whole St) (Mo_nameSize St) (Mo_fault St) (Mo_place St) (Mo_trouble St) (Mo_failed St) (Mo_hasStore St) (Mo_undos St) (Mo_images St) (Mo_ring St) (Mo_refused St) (Mo_setMany St) (Mo_someOf St) (Mo_allOf St) (Mo_firstRest St) (Mo_allWeight St) (Mo_seenWeight St) (Mo_sumWeight St)))
                      else
                      (if x1 = 8 then
                        some ((Mo_images St), (mkMo (0 : Int32) (Mo_taped St) (Mo_size St) (Mo_at St) (Mo_end St) (Mo_token St) (Mo_whole St) (Mo_nameSize St) (Mo_fault St) (Mo_place St) (Mo_trouble St) (Mo_failed St) (Mo_hasStore St) (Mo_undos St) (Mo_images St) (Mo_ring St) (Mo_refused St) (Mo_setMany St) (Mo_someOf St) (Mo_allOf St) (Mo_firstRest St) (Mo_allWeight St) (Mo_seenWeight St) (Mo_sumWeight St)))
                        else
                        some ((-1 : Int32), (mkMo (0 : Int32) (Mo_taped St) (Mo_size St) (Mo_at St) (Mo_end St) (Mo_token St) (Mo_whole St) (Mo_nameSize St) (Mo_fault St) (Mo_place St) (Mo_trouble St) (Mo_failed St) (Mo_hasStore St) (Mo_undos St) (Mo_images St) (Mo_ring St) (Mo_refused St) (Mo_setMany St) (Mo_someOf St) (Mo_allOf St) (Mo_firstRest St) (Mo_allWeight St) (Mo_seenWeight St) (Mo_sumWeight St))))))))))))))
set_option maxHeartbeats 4000000 in
set_option maxRecDepth 100000 in
theorem c_X10_size (l : Launch) (D : va_G) (cy : Nat → ClassId) (ht : Nat → Nat) (St : SMo) (St_r : Nat → Int32) (St_st : Nat → Int32) (x1 : Int32) (r : Int32 × SMo) (hf : f_X10_size St St_r St_st x1 = some r) : zCI l yX10_size cX10_size 2 (some FieldType.int) 2 44 D (zty cy) [.ref (ht 0), .int x1] (wMo ht cy St ++ (wAI (fun _ => ht 3) cy 140 St_r ++ (wAI (fun _ => ht 9) cy 325 St_st))) (wMo ht cy r.2 ++ (wAI (fun _ => ht 3) cy 140 St_r ++ (wAI (fun _ => ht 9) cy 325 St_st))) r.1 := by
  refine zCI_of (by decide +kernel) (Nat.le_of_ble_eq_true rfl) ?_
  intro p e s m below meth c A ls C hP hD hS hl
  generalize hargs : ([.ref (ht 0), .int x1] : List Value).toArray = args at C ⊢
  have C : zX p s m meth c cX10_size 2 args RX10 (some FieldType.int) A D (zty cy) := C
  obtain ⟨hx, hb, hr, hts, hown, hlocks, hml, hA, hK⟩ := id C
  have hl : lv_has ls 2 [(0, .ref (ht 0)), (1, .int x1)] := hl
  generalize hH : s.heap = H at hP ⊢
  have hS : va_S A s.heap H [] := by rw [← hH]; exact hS
  generalize ([] : List Loc) = locs at hS ⊢
  refine lv_aload_n hx hb dX10_size_0 rfl (lv_at hl 0 rfl) ?_
  refine lv_iconst (v := (0 : Int32)) hx hb dX10_size_1 (by decide) ?_
  refine z_put (w2 := vMo ht cy (0 : Int32) (Mo_taped St) (Mo_size St) (Mo_at St) (Mo_end St) (Mo_token St) (Mo_whole St) (Mo_nameSize St) (Mo_fault St) (Mo_place St) (Mo_trouble St) (Mo_failed St) (Mo_hasStore St) (Mo_undos St) (Mo_images St) (Mo_ring St) (Mo_refused St) (Mo_setMany St) (Mo_someOf St) (Mo_allOf St) (Mo_firstRest St) (Mo_allWeight St) (Mo_seenWeight St) (Mo_sumWeight St) ++ (wAI (fun _ => ht 3) cy 140 St_r ++ (wAI (fun _ => ht 9) cy 325 St_st))) hx hb hts in_X10 tyX10 tyX10_ok nmX10 hown hK hP hD hS 0 rfl rfl 0 (by decide) (hts _ q6_45) (fun _ h9 => h9) rfl rfl rfl (Nat.le_of_ble_eq_true rfl) dX10_size_2 rfl (fun H locs hP hD hS => ?_)
  refine lv_iload_n hx hb dX10_size_5 rfl (lv_at hl 1 rfl) ?_
  refine lv_bipush (v := (9 : Int32)) hx hb dX10_size_6 (by decide) ?_
  refine z_icmp_ne (tgt := 16) hx hb dX10_size_8 (by decide) hf (fun hf => ?_) (fun hf => ?_)
  · refine lv_aload_n hx hb dX10_size_16 rfl (lv_at hl 0 rfl) ?_
    refine va_get (D := D) (ci := 6) (v := .int (Mo_hasStore St)) (C := RX10) (T := TX10) (N := 41) hx hb hts in_X10 hown hK hP 0 rfl rfl 14 (by decide) (hts _ q6_59) (fun _ h9 => h9) rfl dX10_size_17 ?_
    refine z_if_ne (tgt := 39) hx hb dX10_size_20 (by decide) hf (fun hf => ?_) (fun hf => ?_)
    · refine lv_iload_n hx hb dX10_size_39 rfl (lv_at hl 1 rfl) ?_
      rcases zsw hf with ⟨hq0, hf⟩ | ⟨hq0, hf⟩
      · rw [hq0]
        refine lv_tableIn (tgt := 92) hx hb dX10_size_40 (by decide) (by decide) rfl (by decide) ?_
        refine lv_aload_n hx hb dX10_size_92 rfl (lv_at hl 0 rfl) ?_
        refine va_get (D := D) (ci := 6) (v := .ref (ht 3)) (C := RX10) (T := TX10) (N := 41) hx hb hts in_X10 hown hK hP 0 rfl rfl 15 (by decide) (hts _ q6_60) (fun _ h9 => h9) rfl dX10_size_93 ?_
        refine lv_iconst (v := (0 : Int32)) hx hb dX10_size_96 (by decide) ?_
        refine z_iald (f := St_r) hx hb hK hP 1 0 rfl rfl dX10_size_97 hf (fun hf => ?_)
        obtain rfl := Option.some.inj hf
        rw [← wMo_mk ht] at hP hD
        exact z_iret (v := (St_r (0 : Int32).toNatClampNeg)) C hP hD hS dX10_size_98
      ·
        rcases zsw hf with ⟨hq1, hf⟩ | ⟨hq1, hf⟩
        · rw [hq1]
          refine lv_tableIn (tgt := 99) hx hb dX10_size_40 (by decide) (by decide) rfl (by decide) ?_
          refine lv_aload_n hx hb dX10_size_99 rfl (lv_at hl 0 rfl) ?_
          refine va_get (D := D) (ci := 6) (v := .ref (ht 3)) (C := RX10) (T := TX10) (N := 41) hx hb hts in_X10 hown hK hP 0 rfl rfl 15 (by decide) (hts _ q6_60) (fun _ h9 => h9) rfl dX10_size_100 ?_
          refine lv_iconst (v := (1 : Int32)) hx hb dX10_size_103 (by decide) ?_
          refine z_iald (f := St_r) hx hb hK hP 1 0 rfl rfl dX10_size_104 hf (fun hf => ?_)
          obtain rfl := Option.some.inj hf
          rw [← wMo_mk ht] at hP hD
          exact z_iret (v := (St_r (1 : Int32).toNatClampNeg)) C hP hD hS dX10_size_105
        ·
          rcases zsw hf with ⟨hq2, hf⟩ | ⟨hq2, hf⟩
          · rw [hq2]
            refine lv_tableIn (tgt := 106) hx hb dX10_size_40 (by decide) (by decide) rfl (by decide) ?_
            refine lv_aload_n hx hb dX10_size_106 rfl (lv_at hl 0 rfl) ?_
            refine va_get (D := D) (ci := 6) (v := .ref (ht 3)) (C := RX10) (T := TX10) (N := 41) hx hb hts in_X10 hown hK hP 0 rfl rfl 15 (by decide) (hts _ q6_60) (fun _ h9 => h9) rfl dX10_size_107 ?_
            refine lv_iconst (v := (3 : Int32)) hx hb dX10_size_110 (by decide) ?_
            refine z_iald (f := St_r) hx hb hK hP 1 0 rfl rfl dX10_size_111 hf (fun hf => ?_)
            obtain rfl := Option.some.inj hf
            rw [← wMo_mk ht] at hP hD
            exact z_iret (v := (St_r (3 : Int32).toNatClampNeg)) C hP hD hS dX10_size_112
          ·
            rcases zsw hf with ⟨hq3, hf⟩ | ⟨hq3, hf⟩
            · rw [hq3]
              refine lv_tableIn (tgt := 113) hx hb dX10_size_40 (by decide) (by decide) rfl (by decide) ?_
              refine lv_aload_n hx hb dX10_size_113 rfl (lv_at hl 0 rfl) ?_
              refine va_get (D := D) (ci := 6) (v := .ref (ht 9)) (C := RX10) (T := TX10) (N := 41) hx hb hts in_X10 hown hK hP 0 rfl rfl 21 (by decide) (hts _ q6_66) (fun _ h9 => h9) rfl dX10_size_114 ?_
              obtain ⟨q1, hc, hf⟩ := zbd hf
              refine z_cSi (As := [.ref (ht 9)]) (rest := []) C (c_X10_versionsOf l D cy (fun _ => ht 9) St_st q1 hc) gS_X10_X10_versionsOf hd_X10_versionsOf ⟨Nat.le_of_ble_eq_true rfl, Nat.le_of_ble_eq_true rfl⟩ ⟨Nat.le_refl _, Nat.le_refl _⟩ hP hD hS (w2 := vMo ht cy (0 : Int32) (Mo_taped St) (Mo_size St) (Mo_at St) (Mo_end St) (Mo_token St) (Mo_whole St) (Mo_nameSize St) (Mo_fault St) (Mo_place St) (Mo_trouble St) (Mo_failed St) (Mo_hasStore St) (Mo_undos St) (Mo_images St) (Mo_ring St) (Mo_refused St) (Mo_setMany St) (Mo_someOf St) (Mo_allOf St) (Mo_firstRest St) (Mo_allWeight St) (Mo_seenWeight St) (Mo_sumWeight St) ++ (wAI (fun _ => ht 3) cy 140 St_r ++ (wAI (fun _ => ht 9) cy 325 St_st))) [2] [0, 1] [0, 1, 2] rfl rfl rfl rfl rfl rfl (by decide) hl.1 (Nat.le_of_ble_eq_true rfl) dX10_size_117 (fun H locs hP hD hS => ?_)
              obtain rfl := Option.some.inj hf
              rw [← wMo_mk ht] at hP hD
              exact z_iret (v := q1) C hP hD hS dX10_size_120
            ·
              rcases zsw hf with ⟨hq4, hf⟩ | ⟨hq4, hf⟩
              · rw [hq4]
                refine lv_tableIn (tgt := 121) hx hb dX10_size_40 (by decide) (by decide) rfl (by decide) ?_
                refine lv_aload_n hx hb dX10_size_121 rfl (lv_at hl 0 rfl) ?_
                obtain ⟨q2, hc, hf⟩ := zbd hf
                rw [← wMo_mk ht] at hP hD
                refine z_cVi (As := []) (rest := []) C (c_X10_runMany l D cy ht (mkMo (0 : Int32) (Mo_taped St) (Mo_size St) (Mo_at St) (Mo_end St) (Mo_token St) (Mo_whole St) (Mo_nameSize St) (Mo_fault St) (Mo_place St) (Mo_trouble St) (Mo_failed St) (Mo_hasStore St) (Mo_undos St) (Mo_images St) (Mo_ring St) (Mo_refused St) (Mo_setMany St) (Mo_someOf St) (Mo_allOf St) (Mo_firstRest St) (Mo_allWeight St) (Mo_seenWeight St) (Mo_sumWeight St)) St_st q2 hc) gV_X10_X10_runMany hd_X10_runMany ⟨Nat.le_of_ble_eq_true rfl, Nat.le_of_ble_eq_true rfl⟩ ⟨Nat.le_refl _, Nat.le_refl _⟩ (va_recv hK hP (ci := 6) (q0 := 0) rfl rfl) hP hD hS (w2 := wMo ht cy (mkMo (0 : Int32) (Mo_taped St) (Mo_size St) (Mo_at St) (Mo_end St) (Mo_token St) (Mo_whole St) (Mo_nameSize St) (Mo_fault St) (Mo_place St) (Mo_trouble St) (Mo_failed St) (Mo_hasStore St) (Mo_undos St) (Mo_images St) (Mo_ring St) (Mo_refused St) (Mo_setMany St) (Mo_someOf St) (Mo_allOf St) (Mo_firstRest St) (Mo_allWeight St) (Mo_seenWeight St) (Mo_sumWeight St)) ++ (wAI (fun _ => ht 3) cy 140 St_r ++ (wAI (fun _ => ht 9) cy 325 St_st))) [0, 2] [1] [1, 0, 2] rfl rfl rfl rfl rfl rfl (by decide) hl.1 (Nat.le_of_ble_eq_true rfl) dX10_size_122 (fun H locs hP hD hS => ?_)
                rw [wMo_mk ht] at hP hD
                obtain rfl := Option.some.inj hf
                rw [← wMo_mk ht] at hP hD
                exact z_iret (v := q2) C hP hD hS dX10_size_125
              ·
                rcases zsw hf with ⟨hq5, hf⟩ | ⟨hq5, hf⟩
                · rw [hq5]
                  refine lv_tableIn (tgt := 126) hx hb dX10_size_40 (by decide) (by decide) rfl (by decide) ?_
                  refine lv_aload_n hx hb dX10_size_126 rfl (lv_at hl 0 rfl) ?_
                  refine va_get (D := D) (ci := 6) (v := .ref (ht 3)) (C := RX10) (T := TX10) (N := 41) hx hb hts in_X10 hown hK hP 0 rfl rfl 15 (by decide) (hts _ q6_60) (fun _ h9 => h9) rfl dX10_size_127 ?_
                  refine lv_iconst (v := (4 : Int32)) hx hb dX10_size_130 (by decide) ?_
                  refine z_iald (f := St_r) hx hb hK hP 1 0 rfl rfl dX10_size_131 hf (fun hf => ?_)
                  obtain rfl := Option.some.inj hf
                  rw [← wMo_mk ht] at hP hD
                  exact z_iret (v := (St_r (4 : Int32).toNatClampNeg)) C hP hD hS dX10_size_132
                ·
                  rcases zsw hf with ⟨hq6, hf⟩ | ⟨hq6, hf⟩
                  · rw [hq6]
                    refine lv_tableIn (tgt := 133) hx hb dX10_size_40 (by decide) (by decide) rfl (by decide) ?_
                    refine lv_aload_n hx hb dX10_size_133 rfl (lv_at hl 0 rfl) ?_
                    refine va_get (D := D) (ci := 6) (v := .ref (ht 3)) (C := RX10) (T := TX10) (N := 41) hx hb hts in_X10 hown hK hP 0 rfl rfl 15 (by decide) (hts _ q6_60) (fun _ h9 => h9) rfl dX10_size_134 ?_
                    refine lv_iconst (v := (5 : Int32)) hx hb dX10_size_137 (by decide) ?_
                    refine z_iald (f := St_r) hx hb hK hP 1 0 rfl rfl dX10_size_138 hf (fun hf => ?_)
                    obtain rfl := Option.some.inj hf
                    rw [← wMo_mk ht] at hP hD
                    exact z_iret (v := (St_r (5 : Int32).toNatClampNeg)) C hP hD hS dX10_size_139
                  ·
                    rcases zsw hf with ⟨hq7, hf⟩ | ⟨hq7, hf⟩
                    · rw [hq7]
                      refine lv_tableIn (tgt := 140) hx hb dX10_size_40 (by decide) (by decide) rfl (by decide) ?_
                      refine lv_aload_n hx hb dX10_size_140 rfl (lv_at hl 0 rfl) ?_
                      refine va_get (D := D) (ci := 6) (v := .int (Mo_undos St)) (C := RX10) (T := TX10) (N := 41) hx hb hts in_X10 hown hK hP 0 rfl rfl 25 (by decide) (hts _ q6_70) (fun _ h9 => h9) rfl dX10_size_141 ?_
                      obtain rfl := Option.some.inj hf
                      rw [← wMo_mk ht] at hP hD
                      exact z_iret (v := (Mo_undos St)) C hP hD hS dX10_size_144
                    ·
                      rcases zsw hf with ⟨hq8, hf⟩ | ⟨hq8, hf⟩
                      · rw [hq8]
                        refine lv_tableIn (tgt := 145) hx hb dX10_size_40 (by decide) (by decide) rfl (by decide) ?_
                        refine lv_aload_n hx hb dX10_size_145 rfl (lv_at hl 0 rfl) ?_
                        refine va_get (D := D) (ci := 6) (v := .int (Mo_images St)) (C := RX10) (T := TX10) (N := 41) hx hb hts in_X10 hown hK hP 0 rfl rfl 26 (by decide) (hts _ q6_71) (fun _ h9 => h9) rfl dX10_size_146 ?_
                        obtain rfl := Option.some.inj hf
                        rw [← wMo_mk ht] at hP hD
                        exact z_iret (v := (Mo_images St)) C hP hD hS dX10_size_149
                      · refine lv_tableOut (tgt := 150) hx hb dX10_size_40 (zsw_out9 hq0 hq1 hq2 hq3 hq4 hq5 hq6 hq7 hq8) (by decide) ?_
                        refine lv_iconst (v := (-1 : Int32)) hx hb dX10_size_150 (by decide) ?_
                        obtain rfl := Option.some.inj hf
                        rw [← wMo_mk ht] at hP hD
                        exact z_iret (v := (-1 : Int32)) C hP hD hS dX10_size_151
    · refine lv_iload_n hx hb dX10_size_23 rfl (lv_at hl 1 rfl) ?_
      refine lv_iconst (v := (0 : Int32)) hx hb dX10_size_24 (by decide) ?_
      refine lv_bipush (v := (8 : Int32)) hx hb dX10_size_25 (by decide) ?_
      obtain ⟨q3, hc, hf⟩ := zbd hf
      refine z_cSiE (As := [.int x1, .int (0 : Int32), .int (8 : Int32)]) (rest := []) C (c_X10_in l D cy x1 (0 : Int32) (8 : Int32) q3 hc) gS_X10_X10_in hd_X10_in ⟨Nat.le_of_ble_eq_true rfl, Nat.le_of_ble_eq_true rfl⟩ ⟨Nat.le_refl _, Nat.le_refl _⟩ hP hD hS hl.1 (Nat.le_of_ble_eq_true rfl) dX10_size_27 (fun H locs hP hD hS => ?_)
      refine z_if_eq (tgt := 37) hx hb dX10_size_30 (by decide) hf (fun hf => ?_) (fun hf => ?_)
      · refine lv_iconst (v := (-1 : Int32)) hx hb dX10_size_37 (by decide) ?_
        obtain rfl := Option.some.inj hf
        rw [← wMo_mk ht] at hP hD
        exact z_iret (v := (-1 : Int32)) C hP hD hS dX10_size_38
      · refine lv_iconst (v := (0 : Int32)) hx hb dX10_size_33 (by decide) ?_
        refine lv_goto (tgt := 38) hx hb dX10_size_34 (by decide) ?_
        obtain rfl := Option.some.inj hf
        rw [← wMo_mk ht] at hP hD
        exact z_iret (v := (0 : Int32)) C hP hD hS dX10_size_38
  · refine lv_aload_n hx hb dX10_size_11 rfl (lv_at hl 0 rfl) ?_
    refine va_get (D := D) (ci := 6) (v := .int (Mo_taped St)) (C := RX10) (T := TX10) (N := 41) hx hb hts in_X10 hown hK hP 0 rfl rfl 2 (by decide) (hts _ q6_47) (fun _ h9 => h9) rfl dX10_size_12 ?_
    obtain rfl := Option.some.inj hf
    rw [← wMo_mk ht] at hP hD
    exact z_iret (v := (Mo_taped St)) C hP hD hS dX10_size_15
def f_X10_trouble (St : SMo) : Option (Int32 × SMo) :=
  some ((Mo_trouble St), (mkMo (0 : Int32) (Mo_taped St) (Mo_size St) (Mo_at St) (Mo_end St) (Mo_token St) (Mo_whole St) (Mo_nameSize St) (Mo_fault St) (Mo_place St) (Mo_trouble St) (Mo_failed St) (Mo_hasStore St) (Mo_undos St) (Mo_images St) (Mo_ring St) (Mo_refused St) (Mo_setMany St) (Mo_someOf St) (Mo_allOf St) (Mo_firstRest St) (Mo_allWeight St) (Mo_seenWeight St) (Mo_sumWeight St)))
set_option maxHeartbeats 4000000 in
set_option maxRecDepth 100000 in
theorem c_X10_trouble (l : Launch) (D : va_G) (cy : Nat → ClassId) (ht : Nat → Nat) (St : SMo) (r : Int32 × SMo) (hf : f_X10_trouble St = some r) : zCI l yX10_trouble cX10_trouble 1 (some FieldType.int) 0 0 D (zty cy) [.ref (ht 0)] (wMo ht cy St) (wMo ht cy r.2) r.1 := by
  refine zCI_of (by decide +kernel) (Nat.le_of_ble_eq_true rfl) ?_
  intro p e s m below meth c A ls C hP hD hS hl
  generalize hargs : ([.ref (ht 0)] : List Value).toArray = args at C ⊢
  have C : zX p s m meth c cX10_trouble 1 args RX10 (some FieldType.int) A D (zty cy) := C
  obtain ⟨hx, hb, hr, hts, hown, hlocks, hml, hA, hK⟩ := id C
  have hl : lv_has ls 1 [(0, .ref (ht 0))] := hl
  generalize hH : s.heap = H at hP ⊢
  have hS : va_S A s.heap H [] := by rw [← hH]; exact hS
  generalize ([] : List Loc) = locs at hS ⊢
  refine lv_aload_n hx hb dX10_trouble_0 rfl (lv_at hl 0 rfl) ?_
  refine lv_iconst (v := (0 : Int32)) hx hb dX10_trouble_1 (by decide) ?_
  refine z_put (w2 := vMo ht cy (0 : Int32) (Mo_taped St) (Mo_size St) (Mo_at St) (Mo_end St) (Mo_token St) (Mo_whole St) (Mo_nameSize St) (Mo_fault St) (Mo_place St) (Mo_trouble St) (Mo_failed St) (Mo_hasStore St) (Mo_undos St) (Mo_images St) (Mo_ring St) (Mo_refused St) (Mo_setMany St) (Mo_someOf St) (Mo_allOf St) (Mo_firstRest St) (Mo_allWeight St) (Mo_seenWeight St) (Mo_sumWeight St)) hx hb hts in_X10 tyX10 tyX10_ok nmX10 hown hK hP hD hS 0 rfl rfl 0 (by decide) (hts _ q6_45) (fun _ h9 => h9) rfl rfl rfl (Nat.le_of_ble_eq_true rfl) dX10_trouble_2 rfl (fun H locs hP hD hS => ?_)
  refine lv_aload_n hx hb dX10_trouble_5 rfl (lv_at hl 0 rfl) ?_
  refine va_get (D := D) (ci := 6) (v := .int (Mo_trouble St)) (C := RX10) (T := TX10) (N := 41) hx hb hts in_X10 hown hK hP 0 rfl rfl 11 (by decide) (hts _ q6_56) (fun _ h9 => h9) rfl dX10_trouble_6 ?_
  obtain rfl := Option.some.inj hf
  rw [← wMo_mk ht] at hP hD
  exact z_iret (v := (Mo_trouble St)) C hP hD hS dX10_trouble_9
