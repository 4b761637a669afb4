theorem hd_J1_charAt_3b067 : yJ1_charAt_3b067.cls ≠ "java/lang/invoke/MethodHandle" ∧ yJ1_charAt_3b067.cls ≠ "java/lang/invoke/VarHandle" ∧ (parseMethodDescriptor yJ1_charAt_3b067.desc).map (fun d => d.parameters.length) = some 2 := by decide +kernel
theorem gS_J0_J1_charAt_3b067 : GoodIn WT (va_wsS RJ0 495 yJ1_charAt_3b067 (.code yJ1_charAt_3b067 cJ1_charAt_3b067 2 (some FieldType.char) :: WT)) := gzS q2_125 q2_126 q1_11 q2_127
theorem hd_J3_checkIndex_8e157 : yJ3_checkIndex_8e157.cls ≠ "java/lang/invoke/MethodHandle" ∧ yJ3_checkIndex_8e157.cls ≠ "java/lang/invoke/VarHandle" ∧ (parseMethodDescriptor yJ3_checkIndex_8e157.desc).map (fun d => d.parameters.length) = some 3 := by decide +kernel
theorem gS_J0_J3_checkIndex_8e157 : GoodIn WT (va_wsS RJ0 1059 yJ3_checkIndex_8e157 (.code yJ3_checkIndex_8e157 cJ3_checkIndex_8e157 3 (some FieldType.int) :: WT)) := gzS q2_133 q2_134 q1_12 q2_135
theorem hd_J0_checkIndex_df160 : yJ0_checkIndex_df160.cls ≠ "java/lang/invoke/MethodHandle" ∧ yJ0_checkIndex_df160.cls ≠ "java/lang/invoke/VarHandle" ∧ (parseMethodDescriptor yJ0_checkIndex_df160.desc).map (fun d => d.parameters.length) = some 2 := by decide +kernel
theorem gS_J1_J0_checkIndex_df160 : GoodIn WT (va_wsS RJ1 9 yJ0_checkIndex_df160 (.code yJ0_checkIndex_df160 cJ0_checkIndex_df160 2 none :: WT)) := gzS q2_128 q2_129 q1_10 q2_130
theorem hd_J0_coder_7d493 : yJ0_coder_7d493.cls = RJ0 ∧ yJ0_coder_7d493.cls ≠ "java/lang/invoke/MethodHandle" ∧ yJ0_coder_7d493.cls ≠ "java/lang/invoke/VarHandle" ∧ (parseMethodDescriptor yJ0_coder_7d493.desc).map (fun d => d.parameters.length) = some 0 := by decide +kernel
theorem gV_J0_J0_coder_7d493 : GoodIn WT (wsV RJ0 335 RJ0 yJ0_coder_7d493 (.code yJ0_coder_7d493 cJ0_coder_7d493 1 (some FieldType.byte) :: WT)) := gzV q2_111 q2_112 q2_113 q1_10 q2_114
theorem hd_J0_isLatin1_aae02 : yJ0_isLatin1_aae02.cls = RJ0 ∧ yJ0_isLatin1_aae02.cls ≠ "java/lang/invoke/MethodHandle" ∧ yJ0_isLatin1_aae02.cls ≠ "java/lang/invoke/VarHandle" ∧ (parseMethodDescriptor yJ0_isLatin1_aae02.desc).map (fun d => d.parameters.length) = some 0 := by decide +kernel
theorem gV_J0_J0_isLatin1_aae02 : GoodIn WT (wsV RJ0 492 RJ0 yJ0_isLatin1_aae02 (.code yJ0_isLatin1_aae02 cJ0_isLatin1_aae02 1 (some FieldType.boolean) :: WT)) := gzV q2_121 q2_122 q2_123 q1_10 q2_124
def f_J0_coder_7d493 (x0 : Nat) : Option (Int32) :=
  (if (1 : Int32) = 0 then
    some (1 : Int32)
    else
    (if x0 < 15 then some (0 : Int32) else none))
set_option maxHeartbeats 4000000 in
set_option maxRecDepth 100000 in
theorem c_J0_coder_7d493 (l : Launch) (D : va_G) (cy : Nat → ClassId) (E : zEn) (x0 : Nat) (r : Int32) (hf : f_J0_coder_7d493 x0 = some r) : zCIs l yJ0_coder_7d493 cJ0_coder_7d493 1 (some FieldType.byte) 0 0 D (zty cy) E [.ref (E.1 x0)] ([]) ([]) r := by
  refine zCIs_of (by decide +kernel) (Nat.le_of_ble_eq_true rfl) ?_
  intro p e s m below meth c A ls C hE hP hD hS hl
  generalize hargs : ([.ref (E.1 x0)] : List Value).toArray = args at C ⊢
  have C : zX p s m meth c cJ0_coder_7d493 1 args RJ0 (some FieldType.byte) A D (zty cy) := C
  obtain ⟨hx, hb, hr, hts, hown, hlocks, hml, hA, hK⟩ := id C
  have hl : lv_has ls 1 [(0, .ref (E.1 x0))] := hl
  generalize hH : s.heap = H at hP ⊢
  have hS : va_S A s.heap H [] := by rw [← hH]; exact hS
  generalize ([] : List Loc) = locs at hS ⊢
  refine va_gets (v := .int (1 : Int32)) hx hb hE.2.2.2.2.2.2.2.1 hS hown (hts _ q2_115) (fun _ h9 => h9) dJ0_coder_7d493_0 ?_
  refine z_if_eq (tgt := 13) hx hb dJ0_coder_7d493_3 (by decide) hf (fun hf => ?_) (fun hf => ?_)
  · refine lv_iconst (v := (1 : Int32)) hx hb dJ0_coder_7d493_13 (by decide) ?_
    obtain rfl := Option.some.inj hf
    exact z_zret (v := (1 : Int32)) C rfl hP hD hS dJ0_coder_7d493_14
  · refine lv_aload_n hx hb dJ0_coder_7d493_6 rfl (lv_at hl 0 rfl) ?_
    obtain ⟨hg, hf⟩ := zgd hf
    refine vk_getf (v := .int (0 : Int32)) hx hb (hE.1.1 x0 hg).2.1 hS hown (hts _ q9_62) (fun _ h9 => h9) dJ0_coder_7d493_7 ?_
    refine lv_goto (tgt := 14) hx hb dJ0_coder_7d493_10 (by decide) ?_
    obtain rfl := Option.some.inj hf
    exact z_zret (v := (0 : Int32)) C rfl hP hD hS dJ0_coder_7d493_14
def f_J0_length_8abf5 (x0 : Nat) : Option (Int32) :=
  (if x0 < 15 then (if x0 < 15 then (if x0 < 15 then (f_J0_coder_7d493 x0).bind (fun q2 =>
          some ((Int32.ofNat (lenS.getD x0 0)) >>> (q2 &&& 31))) else none) else none) else none)
set_option maxHeartbeats 4000000 in
set_option maxRecDepth 100000 in
theorem c_J0_length_8abf5 (l : Launch) (D : va_G) (cy : Nat → ClassId) (E : zEn) (x0 : Nat) (r : Int32) (hf : f_J0_length_8abf5 x0 = some r) : zCIs l yJ0_length_8abf5 cJ0_length_8abf5 1 (some FieldType.int) 1 20 D (zty cy) E [.ref (E.1 x0)] ([]) ([]) r := by
  refine zCIs_of (by decide +kernel) (Nat.le_of_ble_eq_true rfl) ?_
  intro p e s m below meth c A ls C hE hP hD hS hl
  generalize hargs : ([.ref (E.1 x0)] : List Value).toArray = args at C ⊢
  have C : zX p s m meth c cJ0_length_8abf5 1 args RJ0 (some FieldType.int) A D (zty cy) := C
  obtain ⟨hx, hb, hr, hts, hown, hlocks, hml, hA, hK⟩ := id C
  have hl : lv_has ls 1 [(0, .ref (E.1 x0))] := hl
  generalize hH : s.heap = H at hP ⊢
  have hS : va_S A s.heap H [] := by rw [← hH]; exact hS
  generalize ([] : List Loc) = locs at hS ⊢
  refine lv_aload_n hx hb dJ0_length_8abf5_0 rfl (lv_at hl 0 rfl) ?_
  obtain ⟨hg, hf⟩ := zgd hf
  refine vk_getf (v := .ref (E.2.1 x0)) hx hb (hE.1.1 x0 hg).2.2.1 hS hown (hts _ q9_61) (fun _ h9 => h9) dJ0_length_8abf5_1 ?_
  obtain ⟨hg, hf⟩ := zgd hf
  refine va_tlen (v := (Int32.ofNat (lenS.getD x0 0))) hx hb (hE.1.1 x0 hg).2.2.2 hS rfl dJ0_length_8abf5_4 ?_
  refine lv_aload_n hx hb dJ0_length_8abf5_5 rfl (lv_at hl 0 rfl) ?_
  obtain ⟨hs1, hf⟩ := zgd hf
  obtain ⟨q2, hc, hf⟩ := zbd hf
  refine z_cVisE (As := []) (rest := [.int (Int32.ofNat (lenS.getD x0 0))]) C hE (c_J0_coder_7d493 l D cy E x0 q2 hc) gV_J0_J0_coder_7d493 hd_J0_coder_7d493 ⟨Nat.le_of_ble_eq_true rfl, Nat.le_of_ble_eq_true rfl⟩ ⟨Nat.le_refl _, Nat.le_refl _⟩ (vk_recv hE.1 hs1 hS) hP hD hS hl.1 (Nat.le_of_ble_eq_true rfl) dJ0_length_8abf5_6 (fun H locs hP hD hS => ?_)
  refine lv_ishr hx hb dJ0_length_8abf5_9 ?_
  obtain rfl := Option.some.inj hf
  exact z_iret (v := ((Int32.ofNat (lenS.getD x0 0)) >>> (q2 &&& 31))) C hP hD hS dJ0_length_8abf5_10
def f_J0_isLatin1_aae02 (x0 : Nat) : Option (Int32) :=
  (if (1 : Int32) = 0 then
    some (0 : Int32)
    else
    (if x0 < 15 then (if (0 : Int32) = 0 then
        some (1 : Int32)
        else
        some (0 : Int32)) else none))
set_option maxHeartbeats 4000000 in
set_option maxRecDepth 100000 in
theorem c_J0_isLatin1_aae02 (l : Launch) (D : va_G) (cy : Nat → ClassId) (E : zEn) (x0 : Nat) (r : Int32) (hf : f_J0_isLatin1_aae02 x0 = some r) : zCIs l yJ0_isLatin1_aae02 cJ0_isLatin1_aae02 1 (some FieldType.boolean) 0 0 D (zty cy) E [.ref (E.1 x0)] ([]) ([]) r := by
  refine zCIs_of (by decide +kernel) (Nat.le_of_ble_eq_true rfl) ?_
  intro p e s m below meth c A ls C hE hP hD hS hl
  generalize hargs : ([.ref (E.1 x0)] : List Value).toArray = args at C ⊢
  have C : zX p s m meth c cJ0_isLatin1_aae02 1 args RJ0 (some FieldType.boolean) A D (zty cy) := C
  obtain ⟨hx, hb, hr, hts, hown, hlocks, hml, hA, hK⟩ := id C
  have hl : lv_has ls 1 [(0, .ref (E.1 x0))] := hl
  generalize hH : s.heap = H at hP ⊢
  have hS : va_S A s.heap H [] := by rw [← hH]; exact hS
  generalize ([] : List Loc) = locs at hS ⊢
  refine va_gets (v := .int (1 : Int32)) hx hb hE.2.2.2.2.2.2.2.1 hS hown (hts _ q2_115) (fun _ h9 => h9) dJ0_isLatin1_aae02_0 ?_
  refine z_if_eq (tgt := 17) hx hb dJ0_isLatin1_aae02_3 (by decide) hf (fun hf => ?_) (fun hf => ?_)
  · refine lv_iconst (v := (0 : Int32)) hx hb dJ0_isLatin1_aae02_17 (by decide) ?_
    obtain rfl := Option.some.inj hf
    exact z_zret (v := (0 : Int32)) C rfl hP hD hS dJ0_isLatin1_aae02_18
  · refine lv_aload_n hx hb dJ0_isLatin1_aae02_6 rfl (lv_at hl 0 rfl) ?_
    obtain ⟨hg, hf⟩ := zgd hf
    refine vk_getf (v := .int (0 : Int32)) hx hb (hE.1.1 x0 hg).2.1 hS hown (hts _ q9_62) (fun _ h9 => h9) dJ0_isLatin1_aae02_7 ?_
    refine z_if_ne (tgt := 17) hx hb dJ0_isLatin1_aae02_10 (by decide) hf (fun hf => ?_) (fun hf => ?_)
    · refine lv_iconst (v := (0 : Int32)) hx hb dJ0_isLatin1_aae02_17 (by decide) ?_
      obtain rfl := Option.some.inj hf
      exact z_zret (v := (0 : Int32)) C rfl hP hD hS dJ0_isLatin1_aae02_18
    · refine lv_iconst (v := (1 : Int32)) hx hb dJ0_isLatin1_aae02_13 (by decide) ?_
      refine lv_goto (tgt := 18) hx hb dJ0_isLatin1_aae02_14 (by decide) ?_
      obtain rfl := Option.some.inj hf
      exact z_zret (v := (1 : Int32)) C rfl hP hD hS dJ0_isLatin1_aae02_18
def f_J3_checkIndex_8e157 (x0 : Int32) (x1 : Int32) : Option (Int32) :=
  (if x0 < 0 then
    none
    else
    (if x0 < x1 then
      some x0
      else
      none))
set_option maxHeartbeats 4000000 in
set_option maxRecDepth 100000 in
theorem c_J3_checkIndex_8e157 (l : Launch) (D : va_G) (cy : Nat → ClassId) (x2 : Option Nat) (x0 : Int32) (x1 : Int32) (r : Int32) (hf : f_J3_checkIndex_8e157 x0 x1 = some r) : zCI l yJ3_checkIndex_8e157 cJ3_checkIndex_8e157 3 (some FieldType.int) 0 0 D (zty cy) [.int x0, .int x1, va_rf x2] ([]) ([]) r := by
  cases x2 with
  | none =>
    show zCI l yJ3_checkIndex_8e157 cJ3_checkIndex_8e157 3 (some FieldType.int) 0 0 D (zty cy) [.int x0, .int x1, .null] ([]) ([]) r
    refine zCI_of (by decide +kernel) (Nat.le_of_ble_eq_true rfl) ?_
    intro p e s m below meth c A ls C hP hD hS hl
    generalize hargs : ([.int x0, .int x1, .null] : List Value).toArray = args at C ⊢
    have C : zX p s m meth c cJ3_checkIndex_8e157 3 args RJ3 (some FieldType.int) A D (zty cy) := C
    obtain ⟨hx, hb, hr, hts, hown, hlocks, hml, hA, hK⟩ := id C
    have hl : lv_has ls 3 [(0, .int x0), (1, .int x1), (2, .null)] := hl
    generalize hH : s.heap = H at hP ⊢
    have hS : va_S A s.heap H [] := by rw [← hH]; exact hS
    generalize ([] : List Loc) = locs at hS ⊢
    refine lv_iload_n hx hb dJ3_checkIndex_8e157_0 rfl (lv_at hl 0 rfl) ?_
    refine z_if_lt (tgt := 9) hx hb dJ3_checkIndex_8e157_1 (by decide) hf (fun hf => ?_) (fun hf => ?_)
    · exact zno hf
    · refine lv_iload_n hx hb dJ3_checkIndex_8e157_4 rfl (lv_at hl 0 rfl) ?_
      refine lv_iload_n hx hb dJ3_checkIndex_8e157_5 rfl (lv_at hl 1 rfl) ?_
      refine z_icmp_lt (tgt := 16) hx hb dJ3_checkIndex_8e157_6 (by decide) hf (fun hf => ?_) (fun hf => ?_)
      · refine lv_iload_n hx hb dJ3_checkIndex_8e157_16 rfl (lv_at hl 0 rfl) ?_
        obtain rfl := Option.some.inj hf
        exact z_iret (v := x0) C hP hD hS dJ3_checkIndex_8e157_17
      · exact zno hf
  | some a9 =>
    show zCI l yJ3_checkIndex_8e157 cJ3_checkIndex_8e157 3 (some FieldType.int) 0 0 D (zty cy) [.int x0, .int x1, .ref a9] ([]) ([]) r
    refine zCI_of (by decide +kernel) (Nat.le_of_ble_eq_true rfl) ?_
    intro p e s m below meth c A ls C hP hD hS hl
    generalize hargs : ([.int x0, .int x1, .ref a9] : List Value).toArray = args at C ⊢
    have C : zX p s m meth c cJ3_checkIndex_8e157 3 args RJ3 (some FieldType.int) A D (zty cy) := C
    obtain ⟨hx, hb, hr, hts, hown, hlocks, hml, hA, hK⟩ := id C
    have hl : lv_has ls 3 [(0, .int x0), (1, .int x1), (2, .ref a9)] := hl
    generalize hH : s.heap = H at hP ⊢
    have hS : va_S A s.heap H [] := by rw [← hH]; exact hS
    generalize ([] : List Loc) = locs at hS ⊢
    refine lv_iload_n hx hb dJ3_checkIndex_8e157_0 rfl (lv_at hl 0 rfl) ?_
    refine z_if_lt (tgt := 9) hx hb dJ3_checkIndex_8e157_1 (by decide) hf (fun hf => ?_) (fun hf => ?_)
    · exact zno hf
    · refine lv_iload_n hx hb dJ3_checkIndex_8e157_4 rfl (lv_at hl 0 rfl) ?_
      refine lv_iload_n hx hb dJ3_checkIndex_8e157_5 rfl (lv_at hl 1 rfl) ?_
      refine z_icmp_lt (tgt := 16) hx hb dJ3_checkIndex_8e157_6 (by decide) hf (fun hf => ?_) (fun hf => ?_)
      · refine lv_iload_n hx hb dJ3_checkIndex_8e157_16 rfl (lv_at hl 0 rfl) ?_
        obtain rfl := Option.some.inj hf
        exact z_iret (v := x0) C hP hD hS dJ3_checkIndex_8e157_17
      · exact zno hf
def f_J0_checkIndex_df160 (x0 : Int32) (x1 : Int32) : Option (Unit) :=
  (f_J3_checkIndex_8e157 x0 x1).bind (fun q2 =>
    some ())
set_option maxHeartbeats 4000000 in
set_option maxRecDepth 100000 in
theorem c_J0_checkIndex_df160 (l : Launch) (D : va_G) (cy : Nat → ClassId) (E : zEn) (x0 : Int32) (x1 : Int32) (r : Unit) (hf : f_J0_checkIndex_df160 x0 x1 = some r) : zCVs l yJ0_checkIndex_df160 cJ0_checkIndex_df160 2 none 1 22 D (zty cy) E [.int x0, .int x1] ([]) ([]) := by
  refine zCVs_of (by decide +kernel) (Nat.le_of_ble_eq_true rfl) ?_
  intro p e s m below meth c A ls C hE hP hD hS hl
  generalize hargs : ([.int x0, .int x1] : List Value).toArray = args at C ⊢
  have C : zX p s m meth c cJ0_checkIndex_df160 2 args RJ0 none A D (zty cy) := C
  obtain ⟨hx, hb, hr, hts, hown, hlocks, hml, hA, hK⟩ := id C
  have hl : lv_has ls 2 [(0, .int x0), (1, .int x1)] := hl
  generalize hH : s.heap = H at hP ⊢
  have hS : va_S A s.heap H [] := by rw [← hH]; exact hS
  generalize ([] : List Loc) = locs at hS ⊢
  refine lv_iload_n hx hb dJ0_checkIndex_df160_0 rfl (lv_at hl 0 rfl) ?_
  refine lv_iload_n hx hb dJ0_checkIndex_df160_1 rfl (lv_at hl 1 rfl) ?_
  obtain ⟨o1, hz9⟩ := zZq_ex hE.2.2.2.2.2.2.2.2.1
  refine va_gets (v := va_rf o1) hx hb hz9 hS hown (hts _ q2_131) (fun _ h9 => h9) dJ0_checkIndex_df160_2 ?_
  obtain ⟨q2, hc, hf⟩ := zbd hf
  refine z_cSiE (As := [.int x0, .int x1, va_rf o1]) (rest := []) C (c_J3_checkIndex_8e157 l D cy o1 x0 x1 q2 hc) gS_J0_J3_checkIndex_8e157 hd_J3_checkIndex_8e157 ⟨Nat.le_of_ble_eq_true rfl, Nat.le_of_ble_eq_true rfl⟩ ⟨Nat.le_refl _, Nat.le_refl _⟩ hP hD hS hl.1 (Nat.le_of_ble_eq_true rfl) dJ0_checkIndex_df160_5 (fun H locs hP hD hS => ?_)
  refine lv_pop hx hb dJ0_checkIndex_df160_8 rfl ?_
  obtain rfl := Option.some.inj hf
  exact z_vret C hP hD hS dJ0_checkIndex_df160_9
def f_J1_charAt_3b067 (x0 : Nat) (x1 : Int32) : Option (Int32) :=
  (if x0 < 15 then (f_J0_checkIndex_df160 x1 (Int32.ofNat (lenS.getD x0 0))).bind (fun q1 =>
      (if x0 < 15 then (if zib x1 (lenS.getD x0 0) then (if zch ((((((bytS.getD x0 []).getD x1.toNatClampNeg 0) &&& (255 : Int32))).toUInt32 % 65536).toInt32) then some ((((((bytS.getD x0 []).getD x1.toNatClampNeg 0) &&& (255 : Int32))).toUInt32 % 65536).toInt32) else none) else none) else none)) else none)
set_option maxHeartbeats 4000000 in
set_option maxRecDepth 100000 in
theorem c_J1_charAt_3b067 (l : Launch) (D : va_G) (cy : Nat → ClassId) (E : zEn) (x0 : Nat) (x1 : Int32) (r : Int32) (hf : f_J1_charAt_3b067 x0 x1 = some r) : zCIs l yJ1_charAt_3b067 cJ1_charAt_3b067 2 (some FieldType.char) 2 43 D (zty cy) E [.ref (E.2.1 x0), .int x1] ([]) ([]) r := by
  refine zCIs_of (by decide +kernel) (Nat.le_of_ble_eq_true rfl) ?_
  intro p e s m below meth c A ls C hE hP hD hS hl
  generalize hargs : ([.ref (E.2.1 x0), .int x1] : List Value).toArray = args at C ⊢
  have C : zX p s m meth c cJ1_charAt_3b067 2 args RJ1 (some FieldType.char) A D (zty cy) := C
  obtain ⟨hx, hb, hr, hts, hown, hlocks, hml, hA, hK⟩ := id C
  have hl : lv_has ls 2 [(0, .ref (E.2.1 x0)), (1, .int x1)] := hl
  generalize hH : s.heap = H at hP ⊢
  have hS : va_S A s.heap H [] := by rw [← hH]; exact hS
  generalize ([] : List Loc) = locs at hS ⊢
  refine lv_iload_n hx hb dJ1_charAt_3b067_0 rfl (lv_at hl 1 rfl) ?_
  refine lv_aload_n hx hb dJ1_charAt_3b067_1 rfl (lv_at hl 0 rfl) ?_
  obtain ⟨hg, hf⟩ := zgd hf
  refine va_tlen (v := (Int32.ofNat (lenS.getD x0 0))) hx hb (hE.1.1 x0 hg).2.2.2 hS rfl dJ1_charAt_3b067_2 ?_
  obtain ⟨q1, hc, hf⟩ := zbd hf
  refine z_cSvsE (As := [.int x1, .int (Int32.ofNat (lenS.getD x0 0))]) (rest := []) C hE (c_J0_checkIndex_df160 l D cy E x1 (Int32.ofNat (lenS.getD x0 0)) q1 hc) gS_J1_J0_checkIndex_df160 hd_J0_checkIndex_df160 ⟨Nat.le_of_ble_eq_true rfl, Nat.le_of_ble_eq_true rfl⟩ ⟨Nat.le_refl _, Nat.le_refl _⟩ hP hD hS hl.1 (Nat.le_of_ble_eq_true rfl) dJ1_charAt_3b067_3 (fun H locs hP hD hS => ?_)
  refine lv_aload_n hx hb dJ1_charAt_3b067_6 rfl (lv_at hl 0 rfl) ?_
  refine lv_iload_n hx hb dJ1_charAt_3b067_7 rfl (lv_at hl 1 rfl) ?_
  obtain ⟨hg, hf⟩ := zgd hf
  obtain ⟨hg2, hf⟩ := zgd hf
  refine va_tb (v := .int ((bytS.getD x0 []).getD x1.toNatClampNeg 0)) hx hb (hE.1.1 x0 hg).2.2.2 hS hg2 rfl dJ1_charAt_3b067_8 ?_
  refine lv_sipush (v := (255 : Int32)) hx hb dJ1_charAt_3b067_9 (by decide) ?_
  refine lv_iand hx hb dJ1_charAt_3b067_12 ?_
  refine lv_i2c (v := (((((bytS.getD x0 []).getD x1.toNatClampNeg 0) &&& (255 : Int32))).toUInt32 % 65536).toInt32) hx hb dJ1_charAt_3b067_13 rfl ?_
  obtain ⟨hz, hf⟩ := zgd hf
  obtain rfl := Option.some.inj hf
  exact z_zret (v := ((((((bytS.getD x0 []).getD x1.toNatClampNeg 0) &&& (255 : Int32))).toUInt32 % 65536).toInt32)) C (zch_n hz) hP hD hS dJ1_charAt_3b067_14
def f_J0_charAt_5068e (x0 : Nat) (x1 : Int32) : Option (Int32) :=
  (if x0 < 15 then (f_J0_isLatin1_aae02 x0).bind (fun q2 =>
      (if q2 = 0 then
        (if x0 < 15 then none else none)
        else
        (if x0 < 15 then (f_J1_charAt_3b067 x0 x1).bind (fun q3 =>
            (if zch q3 then some q3 else none)) else none))) else none)
set_option maxHeartbeats 4000000 in
set_option maxRecDepth 100000 in
theorem c_J0_charAt_5068e (l : Launch) (D : va_G) (cy : Nat → ClassId) (E : zEn) (x0 : Nat) (x1 : Int32) (r : Int32) (hf : f_J0_charAt_5068e x0 x1 = some r) : zCIs l yJ0_charAt_5068e cJ0_charAt_5068e 2 (some FieldType.char) 3 64 D (zty cy) E [.ref (E.1 x0), .int x1] ([]) ([]) r := by
  refine zCIs_of (by decide +kernel) (Nat.le_of_ble_eq_true rfl) ?_
  intro p e s m below meth c A ls C hE hP hD hS hl
  generalize hargs : ([.ref (E.1 x0), .int x1] : List Value).toArray = args at C ⊢
  have C : zX p s m meth c cJ0_charAt_5068e 2 args RJ0 (some FieldType.char) A D (zty cy) := C
  obtain ⟨hx, hb, hr, hts, hown, hlocks, hml, hA, hK⟩ := id C
  have hl : lv_has ls 2 [(0, .ref (E.1 x0)), (1, .int x1)] := hl
  generalize hH : s.heap = H at hP ⊢
  have hS : va_S A s.heap H [] := by rw [← hH]; exact hS
  generalize ([] : List Loc) = locs at hS ⊢
  refine lv_aload_n hx hb dJ0_charAt_5068e_0 rfl (lv_at hl 0 rfl) ?_
  obtain ⟨hs1, hf⟩ := zgd hf
  obtain ⟨q2, hc, hf⟩ := zbd hf
  refine z_cVisE (As := []) (rest := []) C hE (c_J0_isLatin1_aae02 l D cy E x0 q2 hc) gV_J0_J0_isLatin1_aae02 hd_J0_isLatin1_aae02 ⟨Nat.le_of_ble_eq_true rfl, Nat.le_of_ble_eq_true rfl⟩ ⟨Nat.le_refl _, Nat.le_refl _⟩ (vk_recv hE.1 hs1 hS) hP hD hS hl.1 (Nat.le_of_ble_eq_true rfl) dJ0_charAt_5068e_1 (fun H locs hP hD hS => ?_)
  refine z_if_eq (tgt := 16) hx hb dJ0_charAt_5068e_4 (by decide) hf (fun hf => ?_) (fun hf => ?_)
  · refine lv_aload_n hx hb dJ0_charAt_5068e_16 rfl (lv_at hl 0 rfl) ?_
    obtain ⟨hg, hf⟩ := zgd hf
    refine vk_getf (v := .ref (E.2.1 x0)) hx hb (hE.1.1 x0 hg).2.2.1 hS hown (hts _ q9_61) (fun _ h9 => h9) dJ0_charAt_5068e_17 ?_
    refine lv_iload_n hx hb dJ0_charAt_5068e_20 rfl (lv_at hl 1 rfl) ?_
    exact zno hf
  · refine lv_aload_n hx hb dJ0_charAt_5068e_7 rfl (lv_at hl 0 rfl) ?_
    obtain ⟨hg, hf⟩ := zgd hf
    refine vk_getf (v := .ref (E.2.1 x0)) hx hb (hE.1.1 x0 hg).2.2.1 hS hown (hts _ q9_61) (fun _ h9 => h9) dJ0_charAt_5068e_8 ?_
    refine lv_iload_n hx hb dJ0_charAt_5068e_11 rfl (lv_at hl 1 rfl) ?_
    obtain ⟨q3, hc, hf⟩ := zbd hf
    refine z_cSisE (As := [.ref (E.2.1 x0), .int x1]) (rest := []) C hE (c_J1_charAt_3b067 l D cy E x0 x1 q3 hc) gS_J0_J1_charAt_3b067 hd_J1_charAt_3b067 ⟨Nat.le_of_ble_eq_true rfl, Nat.le_of_ble_eq_true rfl⟩ ⟨Nat.le_refl _, Nat.le_refl _⟩ hP hD hS hl.1 (Nat.le_of_ble_eq_true rfl) dJ0_charAt_5068e_12 (fun H locs hP hD hS => ?_)
    obtain ⟨hz, hf⟩ := zgd hf
    obtain rfl := Option.some.inj hf
    exact z_zret (v := q3) C (zch_n hz) hP hD hS dJ0_charAt_5068e_15
def f_Jx29ce0_ordinal_8abf5 (x0 : Nat) : Option (Int32) :=
  (if x0 < 11 then some (ordI x0) else none)
set_option maxHeartbeats 4000000 in
set_option maxRecDepth 100000 in
theorem c_Jx29ce0_ordinal_8abf5 (l : Launch) (D : va_G) (cy : Nat → ClassId) (E : zEn) (x0 : Nat) (r : Int32) (hf : f_Jx29ce0_ordinal_8abf5 x0 = some r) : zCIs l yJx29ce0_ordinal_8abf5 cJx29ce0_ordinal_8abf5 1 (some FieldType.int) 0 0 D (zty cy) E [.ref (E.2.2.1 x0)] ([]) ([]) r := by
  refine zCIs_of (by decide +kernel) (Nat.le_of_ble_eq_true rfl) ?_
  intro p e s m below meth c A ls C hE hP hD hS hl
  generalize hargs : ([.ref (E.2.2.1 x0)] : List Value).toArray = args at C ⊢
  have C : zX p s m meth c cJx29ce0_ordinal_8abf5 1 args RJx29ce0 (some FieldType.int) A D (zty cy) := C
  obtain ⟨hx, hb, hr, hts, hown, hlocks, hml, hA, hK⟩ := id C
  have hl : lv_has ls 1 [(0, .ref (E.2.2.1 x0))] := hl
  generalize hH : s.heap = H at hP ⊢
  have hS : va_S A s.heap H [] := by rw [← hH]; exact hS
  generalize ([] : List Loc) = locs at hS ⊢
  refine lv_aload_n hx hb dJx29ce0_ordinal_8abf5_0 rfl (lv_at hl 0 rfl) ?_
  obtain ⟨hg, hf⟩ := zgd hf
  refine va_getE (i := x0) (q := ("java/lang/Enum", "ordinal", "I", ordL)) hx hb hE.2.1 hg hS hown (by decide) (hts _ q9_63) (fun _ h9 => h9) dJx29ce0_ordinal_8abf5_1 ?_
  obtain rfl := Option.some.inj hf
  exact z_iret (v := (ordI x0)) C hP hD hS dJx29ce0_ordinal_8abf5_4
