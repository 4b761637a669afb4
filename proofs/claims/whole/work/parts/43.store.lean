theorem hd_X2_takeOver : yX2_takeOver.cls = RX2 ∧ yX2_takeOver.cls ≠ "java/lang/invoke/MethodHandle" ∧ yX2_takeOver.cls ≠ "java/lang/invoke/VarHandle" ∧ (parseMethodDescriptor yX2_takeOver.desc).map (fun d => d.parameters.length) = some 1 := by decide +kernel
theorem gV_X9_X2_takeOver : GoodIn WT (wsV RX9 77 RX2 yX2_takeOver (.code yX2_takeOver cX2_takeOver 2 none :: WT)) := gzV q3_181 q3_182 q3_183 q1_5 q3_184
theorem hd_X2_weigh : yX2_weigh.cls = RX2 ∧ yX2_weigh.cls ≠ "java/lang/invoke/MethodHandle" ∧ yX2_weigh.cls ≠ "java/lang/invoke/VarHandle" ∧ (parseMethodDescriptor yX2_weigh.desc).map (fun d => d.parameters.length) = some 1 := by decide +kernel
theorem gV_X9_X2_weigh : GoodIn WT (wsV RX9 80 RX2 yX2_weigh (.code yX2_weigh cX2_weigh 5 none :: WT)) := gzV q3_186 q3_187 q3_188 q1_5 q3_189
theorem hd_X4_forgetAll : yX4_forgetAll.cls = RX4 ∧ yX4_forgetAll.cls ≠ "java/lang/invoke/MethodHandle" ∧ yX4_forgetAll.cls ≠ "java/lang/invoke/VarHandle" ∧ (parseMethodDescriptor yX4_forgetAll.desc).map (fun d => d.parameters.length) = some 0 := by decide +kernel
theorem gV_X9_X4_forgetAll : GoodIn WT (wsV RX9 83 RX4 yX4_forgetAll (.code yX4_forgetAll cX4_forgetAll 1 none :: WT)) := gzV q3_210 q3_211 q3_212 q1_7 q3_213
theorem hd_X5_readStore : yX5_readStore.cls = RX5 ∧ yX5_readStore.cls ≠ "java/lang/invoke/MethodHandle" ∧ yX5_readStore.cls ≠ "java/lang/invoke/VarHandle" ∧ (parseMethodDescriptor yX5_readStore.desc).map (fun d => d.parameters.length) = some 1 := by decide +kernel
theorem gV_X9_X5_readStore : GoodIn WT (wsV RX9 55 RX5 yX5_readStore (.code yX5_readStore cX5_readStore 3 (some FieldType.boolean) :: WT)) := gzV q2_57 q2_58 q2_59 q1_2 q2_60
theorem hd_X6_takeOver : yX6_takeOver.cls = RX6 ∧ yX6_takeOver.cls ≠ "java/lang/invoke/MethodHandle" ∧ yX6_takeOver.cls ≠ "java/lang/invoke/VarHandle" ∧ (parseMethodDescriptor yX6_takeOver.desc).map (fun d => d.parameters.length) = some 1 := by decide +kernel
theorem gV_X9_X6_takeOver : GoodIn WT (wsV RX9 72 RX6 yX6_takeOver (.code yX6_takeOver cX6_takeOver 2 none :: WT)) := gzV q3_174 q3_175 q3_176 q1_3 q3_177
def f_X4_forgetAll (St : SHi) : Option (SHi) :=
  some (mkHi (0 : Int32) (0 : Int32) (Hi_newest St))
set_option maxHeartbeats 4000000 in
set_option maxRecDepth 100000 in
theorem c_X4_forgetAll (l : Launch) (D : va_G) (cy : Nat → ClassId) (ht : Nat → Nat) (ht_before : Nat → Nat) (ht_images : Nat → Nat) (St : SHi) (r : SHi) (hf : f_X4_forgetAll St = some r) : zCV l yX4_forgetAll cX4_forgetAll 1 none 0 0 D (zty cy) [.ref (ht 0)] (wHi ht (ht_before 0) (ht_images 0) cy St) (wHi ht (ht_before 0) (ht_images 0) cy r) := by
  refine zCV_of (by decide +kernel) (Nat.le_of_ble_eq_true rfl) ?_
  intro p e s m below meth c A ls C hP hD hS hl
  generalize hargs : ([.ref (ht 0)] : List Value).toArray = args at C ⊢
  have C : zX p s m meth c cX4_forgetAll 1 args RX4 none A D (zty cy) := C
  obtain ⟨hx, hb, hr, hts, hown, hlocks, hml, hA, hK⟩ := id C
  have hl : lv_has ls 1 [(0, .ref (ht 0))] := hl
  generalize hH : s.heap = H at hP ⊢
  have hS : va_S A s.heap H [] := by rw [← hH]; exact hS
  generalize ([] : List Loc) = locs at hS ⊢
  refine lv_aload_n hx hb dX4_forgetAll_0 rfl (lv_at hl 0 rfl) ?_
  refine lv_iconst (v := (0 : Int32)) hx hb dX4_forgetAll_1 (by decide) ?_
  refine z_put (w2 := vHi ht (ht_before 0) (ht_images 0) cy (0 : Int32) (Hi_imageCount St) (Hi_newest St)) hx hb hts in_X4 tyX4 tyX4_ok nmX4 hown hK hP hD hS 0 rfl rfl 0 (by decide) (hts _ q2_1) (fun _ h9 => h9) rfl rfl rfl (Nat.le_of_ble_eq_true rfl) dX4_forgetAll_2 rfl (fun H locs hP hD hS => ?_)
  refine lv_aload_n hx hb dX4_forgetAll_5 rfl (lv_at hl 0 rfl) ?_
  refine lv_iconst (v := (0 : Int32)) hx hb dX4_forgetAll_6 (by decide) ?_
  refine z_put (w2 := vHi ht (ht_before 0) (ht_images 0) cy (0 : Int32) (0 : Int32) (Hi_newest St)) hx hb hts in_X4 tyX4 tyX4_ok nmX4 hown hK hP hD hS 0 rfl rfl 1 (by decide) (hts _ q2_3) (fun _ h9 => h9) rfl rfl rfl (Nat.le_of_ble_eq_true rfl) dX4_forgetAll_7 rfl (fun H locs hP hD hS => ?_)
  obtain rfl := Option.some.inj hf
  rw [← wHi_mk ht] at hP hD
  exact z_vret C hP hD hS dX4_forgetAll_10
def f_X9_store (St : SSR) (St_evidence : SEv) (St_history : SHi) (St_reader : SRd) (St_rows : SRows) (St_reader_evidence : SEv) (St_reader_rows : SRows) (St_reader_tape : STape) (x1 : Int32) : Option (Int32 × SSR × SEv × SHi × SRd × SRows × SEv × SRows × STape) :=
  (if x1 < 0 then
    (f_X9_refuse St (2 : Int32)).bind (fun q1 =>
      some (q1.1, q1.2, St_evidence, St_history, St_reader, St_rows, St_reader_evidence, St_reader_rows, St_reader_tape))
    else
    (if x1 ≤ (Tape_size St_reader_tape) then
      (f_X5_readStore St_reader St_reader_evidence St_reader_rows St_reader_tape x1).bind (fun q2 =>
        (if q2.1 = 0 then
          (f_X9_refuse (mkSR (SR_troubleNumber St) (Rd_fault q2.2.1) (Rd_place q2.2.1)) (4 : Int32)).bind (fun q8 =>
            some (q8.1, q8.2, St_evidence, St_history, q2.2.1, St_rows, q2.2.2.1, q2.2.2.2.1, q2.2.2.2.2))
          else
          (f_X6_takeOver St_rows q2.2.2.2.1).bind (fun q3 =>
            (f_X2_takeOver St_evidence q2.2.2.1).bind (fun q4 =>
              (f_X2_weigh q4 q3).bind (fun q5 =>
                (f_X4_forgetAll St_history).bind (fun q6 =>
                  (f_X9_answer (mkSR (SR_troubleNumber St) (Rd_fault q2.2.1) (Rd_place q2.2.1)) (Rows_count q3)).bind (fun q7 =>
                    some (q7.1, q7.2, q5, q6, q2.2.1, q3, q2.2.2.1, q2.2.2.2.1, q2.2.2.2.2))))))))
      else
      (f_X9_refuse St (2 : Int32)).bind (fun q9 =>
        some (q9.1, q9.2, St_evidence, St_history, St_reader, St_rows, St_reader_evidence, St_reader_rows, St_reader_tape))))
set_option maxHeartbeats 4000000 in
set_option maxRecDepth 100000 in
theorem c_X9_store (l : Launch) (D : va_G) (cy : Nat → ClassId) (E : zEn) (ht : Nat → Nat) (ht_reader : Nat → Nat) (ht_rows : Nat → Nat) (ht_evidence : Nat → Nat) (ht_history : Nat → Nat) (ht_history_before : Nat → Nat) (ht_history_images : Nat → Nat) (ht_reader_rows : Nat → Nat) (ht_reader_evidence : Nat → Nat) (ht_reader_tape : Nat → Nat) (St : SSR) (St_evidence : SEv) (St_history : SHi) (St_reader : SRd) (St_rows : SRows) (St_reader_evidence : SEv) (St_reader_rows : SRows) (St_reader_tape : STape) (x1 : Int32) (r : Int32 × SSR × SEv × SHi × SRd × SRows × SEv × SRows × STape) (hf : f_X9_store St St_evidence St_history St_reader St_rows St_reader_evidence St_reader_rows St_reader_tape x1 = some r) : zCIs l yX9_store cX9_store 3 (some FieldType.int) 10 211 D (zty cy) E [.ref (ht 0), .int x1] (wSR ht (ht_reader 0) (ht_rows 0) (ht_evidence 0) (ht_history 0) cy St ++ (wEv ht_evidence cy St_evidence ++ (wHi ht_history (ht_history_before 0) (ht_history_images 0) cy St_history ++ (wRd ht_reader (ht_reader_rows 0) (ht_reader_evidence 0) (ht_reader_tape 0) E.2.2.1 cy St_reader ++ (wRows ht_rows cy St_rows ++ (wEv ht_reader_evidence cy St_reader_evidence ++ (wRows ht_reader_rows cy St_reader_rows ++ (wTape ht_reader_tape cy St_reader_tape)))))))) (wSR ht (ht_reader 0) (ht_rows 0) (ht_evidence 0) (ht_history 0) cy r.2.1 ++ (wEv ht_evidence cy r.2.2.1 ++ (wHi ht_history (ht_history_before 0) (ht_history_images 0) cy r.2.2.2.1 ++ (wRd ht_reader (ht_reader_rows 0) (ht_reader_evidence 0) (ht_reader_tape 0) E.2.2.1 cy r.2.2.2.2.1 ++ (wRows ht_rows cy r.2.2.2.2.2.1 ++ (wEv ht_reader_evidence cy r.2.2.2.2.2.2.1 ++ (wRows ht_reader_rows cy r.2.2.2.2.2.2.2.1 ++ (wTape ht_reader_tape cy r.2.2.2.2.2.2.2.2)))))))) r.1 := by
  refine zCIs_of (by decide +kernel) (Nat.le_of_ble_eq_true rfl) ?_
  intro p e s m below meth c A ls C hE hP hD hS hl
  generalize hargs : ([.ref (ht 0), .int x1] : List Value).toArray = args at C ⊢
  have C : zX p s m meth c cX9_store 3 args RX9 (some FieldType.int) A D (zty cy) := C
  obtain ⟨hx, hb, hr, hts, hown, hlocks, hml, hA, hK⟩ := id C
  have hl : lv_has ls 3 [(0, .ref (ht 0)), (1, .int x1)] := hl
  generalize hH : s.heap = H at hP ⊢
  have hS : va_S A s.heap H [] := by rw [← hH]; exact hS
  generalize ([] : List Loc) = locs at hS ⊢
  refine lv_iload_n hx hb dX9_store_0 rfl (lv_at hl 1 rfl) ?_
  refine z_if_lt (tgt := 18) hx hb dX9_store_1 (by decide) hf (fun hf => ?_) (fun hf => ?_)
  · refine lv_aload_n hx hb dX9_store_18 rfl (lv_at hl 0 rfl) ?_
    refine lv_iconst (v := (2 : Int32)) hx hb dX9_store_19 (by decide) ?_
    obtain ⟨q1, hc, hf⟩ := zbd hf
    refine z_cVi (As := [.int (2 : Int32)]) (rest := []) C (c_X9_refuse l D cy ht ht_reader ht_rows ht_evidence ht_history St (2 : Int32) q1 hc) gV_X9_X9_refuse hd_X9_refuse ⟨Nat.le_of_ble_eq_true rfl, Nat.le_of_ble_eq_true rfl⟩ ⟨Nat.le_refl _, Nat.le_refl _⟩ (va_recv hK hP (ci := 5) (q0 := 0) rfl rfl) hP hD hS (w2 := wSR ht (ht_reader 0) (ht_rows 0) (ht_evidence 0) (ht_history 0) cy q1.2 ++ (wEv ht_evidence cy St_evidence ++ (wHi ht_history (ht_history_before 0) (ht_history_images 0) cy St_history ++ (wRd ht_reader (ht_reader_rows 0) (ht_reader_evidence 0) (ht_reader_tape 0) E.2.2.1 cy St_reader ++ (wRows ht_rows cy St_rows ++ (wEv ht_reader_evidence cy St_reader_evidence ++ (wRows ht_reader_rows cy St_reader_rows ++ (wTape ht_reader_tape cy St_reader_tape)))))))) [0] [1, 2, 3, 4, 5, 6, 7, 8, 9, 10, 11, 12, 13, 14, 15, 16, 17, 18, 19, 20, 21, 22, 23, 24, 25, 26, 27, 28, 29, 30, 31, 32, 33, 34] [34, 0, 1, 2, 3, 4, 5, 6, 7, 8, 9, 10, 11, 12, 13, 14, 15, 16, 17, 18, 19, 20, 21, 22, 23, 24, 25, 26, 27, 28, 29, 30, 31, 32, 33] rfl rfl rfl rfl rfl rfl (by decide) hl.1 (Nat.le_of_ble_eq_true rfl) dX9_store_20 (fun H locs hP hD hS => ?_)
    obtain rfl := Option.some.inj hf
    exact z_iret (v := q1.1) C hP hD hS dX9_store_23
  · refine lv_iload_n hx hb dX9_store_4 rfl (lv_at hl 1 rfl) ?_
    refine lv_aload_n hx hb dX9_store_5 rfl (lv_at hl 0 rfl) ?_
    refine va_get (D := D) (ci := 5) (v := .ref (ht_reader 0)) (C := RX9) (T := TX9) (N := 7) hx hb hts in_X9 hown hK hP 0 rfl rfl 0 (by decide) (hts _ q2_19) (fun _ h9 => h9) rfl dX9_store_6 ?_
    refine va_get (D := D) (ci := 2) (v := .ref (ht_reader_tape 0)) (C := RX5) (T := TX5) (N := 15) hx hb hts in_X5 hown hK hP 7 rfl rfl 4 (by decide) (hts _ q1_186) (fun _ h9 => h9) rfl dX9_store_9 ?_
    refine va_get (D := D) (ci := 4) (v := .int (Tape_size St_reader_tape)) (C := RX7) (T := TX7) (N := 7) hx hb hts in_X7 hown hK hP 33 rfl rfl 0 (by decide) (hts _ q1_151) (fun _ h9 => h9) rfl dX9_store_12 ?_
    refine z_icmp_le (tgt := 24) hx hb dX9_store_15 (by decide) hf (fun hf => ?_) (fun hf => ?_)
    · refine lv_aload_n hx hb dX9_store_24 rfl (lv_at hl 0 rfl) ?_
      refine va_get (D := D) (ci := 5) (v := .ref (ht_reader 0)) (C := RX9) (T := TX9) (N := 7) hx hb hts in_X9 hown hK hP 0 rfl rfl 0 (by decide) (hts _ q2_19) (fun _ h9 => h9) rfl dX9_store_25 ?_
      refine lv_iload_n hx hb dX9_store_28 rfl (lv_at hl 1 rfl) ?_
      obtain ⟨q2, hc, hf⟩ := zbd hf
      refine z_cVis (As := [.int x1]) (rest := []) C hE (c_X5_readStore l D cy E ht_reader ht_reader_rows ht_reader_evidence ht_reader_tape St_reader St_reader_evidence St_reader_rows St_reader_tape x1 q2 hc) gV_X9_X5_readStore hd_X5_readStore ⟨Nat.le_of_ble_eq_true rfl, Nat.le_of_ble_eq_true rfl⟩ ⟨Nat.le_refl _, Nat.le_refl _⟩ (va_recv hK hP (ci := 2) (q0 := 7) rfl rfl) hP hD hS (w2 := wSR ht (ht_reader 0) (ht_rows 0) (ht_evidence 0) (ht_history 0) cy St ++ (wEv ht_evidence cy St_evidence ++ (wHi ht_history (ht_history_before 0) (ht_history_images 0) cy St_history ++ (wRd ht_reader (ht_reader_rows 0) (ht_reader_evidence 0) (ht_reader_tape 0) E.2.2.1 cy q2.2.1 ++ (wRows ht_rows cy St_rows ++ (wEv ht_reader_evidence cy q2.2.2.1 ++ (wRows ht_reader_rows cy q2.2.2.2.1 ++ (wTape ht_reader_tape cy q2.2.2.2.2)))))))) [7, 8, 9, 10, 11, 20, 21, 22, 23, 24, 25, 26, 27, 28, 29, 30, 31, 32, 33, 34] [0, 1, 2, 3, 4, 5, 6, 12, 13, 14, 15, 16, 17, 18, 19] [0, 1, 2, 3, 4, 5, 6, 15, 16, 17, 18, 19, 7, 8, 9, 10, 11, 12, 13, 14, 20, 21, 22, 23, 24, 25, 26, 27, 28, 29, 30, 31, 32, 33, 34] rfl rfl rfl rfl rfl rfl (by decide) hl.1 (Nat.le_of_ble_eq_true rfl) dX9_store_29 (fun H locs hP hD hS => ?_)
      refine lv_istore_n (lv' := [(2, .int q2.1), (0, .ref (ht 0)), (1, .int x1)]) hx hb dX9_store_32 rfl hl (by decide) rfl (fun ls hl => ?_)
      refine lv_aload_n hx hb dX9_store_33 rfl (lv_at hl 1 rfl) ?_
      refine lv_aload_n hx hb dX9_store_34 rfl (lv_at hl 1 rfl) ?_
      refine va_get (D := D) (ci := 5) (v := .ref (ht_reader 0)) (C := RX9) (T := TX9) (N := 7) hx hb hts in_X9 hown hK hP 0 rfl rfl 0 (by decide) (hts _ q2_19) (fun _ h9 => h9) rfl dX9_store_35 ?_
      refine va_get (D := D) (ci := 2) (v := .int (Rd_fault q2.2.1)) (C := RX5) (T := TX5) (N := 15) hx hb hts in_X5 hown hK hP 7 rfl rfl 0 (by decide) (hts _ q1_178) (fun _ h9 => h9) rfl dX9_store_38 ?_
      refine z_put (w2 := vSR ht (ht_reader 0) (ht_rows 0) (ht_evidence 0) (ht_history 0) cy (SR_troubleNumber St) (Rd_fault q2.2.1) (SR_faultPlace St) ++ (wEv ht_evidence cy St_evidence ++ (wHi ht_history (ht_history_before 0) (ht_history_images 0) cy St_history ++ (wRd ht_reader (ht_reader_rows 0) (ht_reader_evidence 0) (ht_reader_tape 0) E.2.2.1 cy q2.2.1 ++ (wRows ht_rows cy St_rows ++ (wEv ht_reader_evidence cy q2.2.2.1 ++ (wRows ht_reader_rows cy q2.2.2.2.1 ++ (wTape ht_reader_tape cy q2.2.2.2.2)))))))) hx hb hts in_X9 tyX9 tyX9_ok nmX9 hown hK hP hD hS 0 rfl rfl 5 (by decide) (hts _ q2_24) (fun _ h9 => h9) rfl rfl rfl (Nat.le_of_ble_eq_true rfl) dX9_store_41 rfl (fun H locs hP hD hS => ?_)
      refine lv_aload_n hx hb dX9_store_44 rfl (lv_at hl 1 rfl) ?_
      refine lv_aload_n hx hb dX9_store_45 rfl (lv_at hl 1 rfl) ?_
      refine va_get (D := D) (ci := 5) (v := .ref (ht_reader 0)) (C := RX9) (T := TX9) (N := 7) hx hb hts in_X9 hown hK hP 0 rfl rfl 0 (by decide) (hts _ q2_19) (fun _ h9 => h9) rfl dX9_store_46 ?_
      refine va_get (D := D) (ci := 2) (v := .int (Rd_place q2.2.1)) (C := RX5) (T := TX5) (N := 15) hx hb hts in_X5 hown hK hP 7 rfl rfl 1 (by decide) (hts _ q1_180) (fun _ h9 => h9) rfl dX9_store_49 ?_
      refine z_put (w2 := vSR ht (ht_reader 0) (ht_rows 0) (ht_evidence 0) (ht_history 0) cy (SR_troubleNumber St) (Rd_fault q2.2.1) (Rd_place q2.2.1) ++ (wEv ht_evidence cy St_evidence ++ (wHi ht_history (ht_history_before 0) (ht_history_images 0) cy St_history ++ (wRd ht_reader (ht_reader_rows 0) (ht_reader_evidence 0) (ht_reader_tape 0) E.2.2.1 cy q2.2.1 ++ (wRows ht_rows cy St_rows ++ (wEv ht_reader_evidence cy q2.2.2.1 ++ (wRows ht_reader_rows cy q2.2.2.2.1 ++ (wTape ht_reader_tape cy q2.2.2.2.2)))))))) hx hb hts in_X9 tyX9 tyX9_ok nmX9 hown hK hP hD hS 0 rfl rfl 6 (by decide) (hts _ q2_25) (fun _ h9 => h9) rfl rfl rfl (Nat.le_of_ble_eq_true rfl) dX9_store_52 rfl (fun H locs hP hD hS => ?_)
      refine lv_iload_n hx hb dX9_store_55 rfl (lv_at hl 0 rfl) ?_
      refine z_if_ne (tgt := 65) hx hb dX9_store_56 (by decide) hf (fun hf => ?_) (fun hf => ?_)
      · refine lv_aload_n hx hb dX9_store_65 rfl (lv_at hl 1 rfl) ?_
        refine va_get (D := D) (ci := 5) (v := .ref (ht_rows 0)) (C := RX9) (T := TX9) (N := 7) hx hb hts in_X9 hown hK hP 0 rfl rfl 1 (by decide) (hts _ q2_20) (fun _ h9 => h9) rfl dX9_store_66 ?_
        refine lv_aload_n hx hb dX9_store_69 rfl (lv_at hl 1 rfl) ?_
        refine va_get (D := D) (ci := 5) (v := .ref (ht_reader 0)) (C := RX9) (T := TX9) (N := 7) hx hb hts in_X9 hown hK hP 0 rfl rfl 0 (by decide) (hts _ q2_19) (fun _ h9 => h9) rfl dX9_store_70 ?_
        refine va_get (D := D) (ci := 2) (v := .ref (ht_reader_rows 0)) (C := RX5) (T := TX5) (N := 15) hx hb hts in_X5 hown hK hP 7 rfl rfl 2 (by decide) (hts _ q1_182) (fun _ h9 => h9) rfl dX9_store_73 ?_
        obtain ⟨q3, hc, hf⟩ := zbd hf
        refine z_cVv (As := [.ref (ht_reader_rows 0)]) (rest := []) C (c_X6_takeOver l D cy ht_rows ht_reader_rows St_rows q2.2.2.2.1 q3 hc) gV_X9_X6_takeOver hd_X6_takeOver ⟨Nat.le_of_ble_eq_true rfl, Nat.le_of_ble_eq_true rfl⟩ ⟨Nat.le_refl _, Nat.le_refl _⟩ (va_recv hK hP (ci := 3) (q0 := 12) rfl rfl) hP hD hS (w2 := vSR ht (ht_reader 0) (ht_rows 0) (ht_evidence 0) (ht_history 0) cy (SR_troubleNumber St) (Rd_fault q2.2.1) (Rd_place q2.2.1) ++ (wEv ht_evidence cy St_evidence ++ (wHi ht_history (ht_history_before 0) (ht_history_images 0) cy St_history ++ (wRd ht_reader (ht_reader_rows 0) (ht_reader_evidence 0) (ht_reader_tape 0) E.2.2.1 cy q2.2.1 ++ (wRows ht_rows cy q3 ++ (wEv ht_reader_evidence cy q2.2.2.1 ++ (wRows ht_reader_rows cy q2.2.2.2.1 ++ (wTape ht_reader_tape cy q2.2.2.2.2)))))))) [12, 13, 14, 15, 16, 17, 18, 19, 25, 26, 27, 28, 29, 30, 31, 32] [0, 1, 2, 3, 4, 5, 6, 7, 8, 9, 10, 11, 20, 21, 22, 23, 24, 33, 34] [0, 1, 2, 3, 4, 5, 6, 7, 8, 9, 10, 11, 19, 20, 21, 22, 23, 24, 25, 26, 12, 13, 14, 15, 16, 27, 28, 29, 30, 31, 32, 33, 34, 17, 18] rfl rfl rfl rfl rfl rfl (by decide) hl.1 (Nat.le_of_ble_eq_true rfl) dX9_store_76 (fun H locs hP hD hS => ?_)
        refine lv_aload_n hx hb dX9_store_79 rfl (lv_at hl 1 rfl) ?_
        refine va_get (D := D) (ci := 5) (v := .ref (ht_evidence 0)) (C := RX9) (T := TX9) (N := 7) hx hb hts in_X9 hown hK hP 0 rfl rfl 2 (by decide) (hts _ q2_21) (fun _ h9 => h9) rfl dX9_store_80 ?_
        refine lv_aload_n hx hb dX9_store_83 rfl (lv_at hl 1 rfl) ?_
        refine va_get (D := D) (ci := 5) (v := .ref (ht_reader 0)) (C := RX9) (T := TX9) (N := 7) hx hb hts in_X9 hown hK hP 0 rfl rfl 0 (by decide) (hts _ q2_19) (fun _ h9 => h9) rfl dX9_store_84 ?_
        refine va_get (D := D) (ci := 2) (v := .ref (ht_reader_evidence 0)) (C := RX5) (T := TX5) (N := 15) hx hb hts in_X5 hown hK hP 7 rfl rfl 3 (by decide) (hts _ q1_184) (fun _ h9 => h9) rfl dX9_store_87 ?_
        obtain ⟨q4, hc, hf⟩ := zbd hf
        refine z_cVv (As := [.ref (ht_reader_evidence 0)]) (rest := []) C (c_X2_takeOver l D cy ht_evidence ht_reader_evidence St_evidence q2.2.2.1 q4 hc) gV_X9_X2_takeOver hd_X2_takeOver ⟨Nat.le_of_ble_eq_true rfl, Nat.le_of_ble_eq_true rfl⟩ ⟨Nat.le_refl _, Nat.le_refl _⟩ (va_recv hK hP (ci := 0) (q0 := 1) rfl rfl) hP hD hS (w2 := vSR ht (ht_reader 0) (ht_rows 0) (ht_evidence 0) (ht_history 0) cy (SR_troubleNumber St) (Rd_fault q2.2.1) (Rd_place q2.2.1) ++ (wEv ht_evidence cy q4 ++ (wHi ht_history (ht_history_before 0) (ht_history_images 0) cy St_history ++ (wRd ht_reader (ht_reader_rows 0) (ht_reader_evidence 0) (ht_reader_tape 0) E.2.2.1 cy q2.2.1 ++ (wRows ht_rows cy q3 ++ (wEv ht_reader_evidence cy q2.2.2.1 ++ (wRows ht_reader_rows cy q2.2.2.2.1 ++ (wTape ht_reader_tape cy q2.2.2.2.2)))))))) [1, 2, 3, 4, 5, 20, 21, 22, 23, 24] [0, 6, 7, 8, 9, 10, 11, 12, 13, 14, 15, 16, 17, 18, 19, 25, 26, 27, 28, 29, 30, 31, 32, 33, 34] [0, 25, 26, 27, 28, 29, 1, 2, 3, 4, 5, 6, 7, 8, 9, 10, 11, 12, 13, 14, 30, 31, 32, 33, 34, 15, 16, 17, 18, 19, 20, 21, 22, 23, 24] rfl rfl rfl rfl rfl rfl (by decide) hl.1 (Nat.le_of_ble_eq_true rfl) dX9_store_90 (fun H locs hP hD hS => ?_)
        refine lv_aload_n hx hb dX9_store_93 rfl (lv_at hl 1 rfl) ?_
        refine va_get (D := D) (ci := 5) (v := .ref (ht_evidence 0)) (C := RX9) (T := TX9) (N := 7) hx hb hts in_X9 hown hK hP 0 rfl rfl 2 (by decide) (hts _ q2_21) (fun _ h9 => h9) rfl dX9_store_94 ?_
        refine lv_aload_n hx hb dX9_store_97 rfl (lv_at hl 1 rfl) ?_
        refine va_get (D := D) (ci := 5) (v := .ref (ht_rows 0)) (C := RX9) (T := TX9) (N := 7) hx hb hts in_X9 hown hK hP 0 rfl rfl 1 (by decide) (hts _ q2_20) (fun _ h9 => h9) rfl dX9_store_98 ?_
        obtain ⟨q5, hc, hf⟩ := zbd hf
        refine z_cVv (As := [.ref (ht_rows 0)]) (rest := []) C (c_X2_weigh l D cy ht_evidence ht_rows q4 q3 q5 hc) gV_X9_X2_weigh hd_X2_weigh ⟨Nat.le_of_ble_eq_true rfl, Nat.le_of_ble_eq_true rfl⟩ ⟨Nat.le_refl _, Nat.le_refl _⟩ (va_recv hK hP (ci := 0) (q0 := 1) rfl rfl) hP hD hS (w2 := vSR ht (ht_reader 0) (ht_rows 0) (ht_evidence 0) (ht_history 0) cy (SR_troubleNumber St) (Rd_fault q2.2.1) (Rd_place q2.2.1) ++ (wEv ht_evidence cy q5 ++ (wHi ht_history (ht_history_before 0) (ht_history_images 0) cy St_history ++ (wRd ht_reader (ht_reader_rows 0) (ht_reader_evidence 0) (ht_reader_tape 0) E.2.2.1 cy q2.2.1 ++ (wRows ht_rows cy q3 ++ (wEv ht_reader_evidence cy q2.2.2.1 ++ (wRows ht_reader_rows cy q2.2.2.2.1 ++ (wTape ht_reader_tape cy q2.2.2.2.2)))))))) [1, 2, 3, 4, 5, 12, 13, 14, 15, 16, 17, 18, 19] [0, 6, 7, 8, 9, 10, 11, 20, 21, 22, 23, 24, 25, 26, 27, 28, 29, 30, 31, 32, 33, 34] [0, 22, 23, 24, 25, 26, 1, 2, 3, 4, 5, 6, 27, 28, 29, 30, 31, 32, 33, 34, 7, 8, 9, 10, 11, 12, 13, 14, 15, 16, 17, 18, 19, 20, 21] rfl rfl rfl rfl rfl rfl (by decide) hl.1 (Nat.le_of_ble_eq_true rfl) dX9_store_101 (fun H locs hP hD hS => ?_)
        refine lv_aload_n hx hb dX9_store_104 rfl (lv_at hl 1 rfl) ?_
        refine va_get (D := D) (ci := 5) (v := .ref (ht_history 0)) (C := RX9) (T := TX9) (N := 7) hx hb hts in_X9 hown hK hP 0 rfl rfl 3 (by decide) (hts _ q2_22) (fun _ h9 => h9) rfl dX9_store_105 ?_
        obtain ⟨q6, hc, hf⟩ := zbd hf
        refine z_cVv (As := []) (rest := []) C (c_X4_forgetAll l D cy ht_history ht_history_before ht_history_images St_history q6 hc) gV_X9_X4_forgetAll hd_X4_forgetAll ⟨Nat.le_of_ble_eq_true rfl, Nat.le_of_ble_eq_true rfl⟩ ⟨Nat.le_refl _, Nat.le_refl _⟩ (va_recv hK hP (ci := 1) (q0 := 6) rfl rfl) hP hD hS (w2 := vSR ht (ht_reader 0) (ht_rows 0) (ht_evidence 0) (ht_history 0) cy (SR_troubleNumber St) (Rd_fault q2.2.1) (Rd_place q2.2.1) ++ (wEv ht_evidence cy q5 ++ (wHi ht_history (ht_history_before 0) (ht_history_images 0) cy q6 ++ (wRd ht_reader (ht_reader_rows 0) (ht_reader_evidence 0) (ht_reader_tape 0) E.2.2.1 cy q2.2.1 ++ (wRows ht_rows cy q3 ++ (wEv ht_reader_evidence cy q2.2.2.1 ++ (wRows ht_reader_rows cy q2.2.2.2.1 ++ (wTape ht_reader_tape cy q2.2.2.2.2)))))))) [6] [0, 1, 2, 3, 4, 5, 7, 8, 9, 10, 11, 12, 13, 14, 15, 16, 17, 18, 19, 20, 21, 22, 23, 24, 25, 26, 27, 28, 29, 30, 31, 32, 33, 34] [0, 1, 2, 3, 4, 5, 34, 6, 7, 8, 9, 10, 11, 12, 13, 14, 15, 16, 17, 18, 19, 20, 21, 22, 23, 24, 25, 26, 27, 28, 29, 30, 31, 32, 33] rfl rfl rfl rfl rfl rfl (by decide) hl.1 (Nat.le_of_ble_eq_true rfl) dX9_store_108 (fun H locs hP hD hS => ?_)
        refine lv_aload_n hx hb dX9_store_111 rfl (lv_at hl 1 rfl) ?_
        refine lv_aload_n hx hb dX9_store_112 rfl (lv_at hl 1 rfl) ?_
        refine va_get (D := D) (ci := 5) (v := .ref (ht_rows 0)) (C := RX9) (T := TX9) (N := 7) hx hb hts in_X9 hown hK hP 0 rfl rfl 1 (by decide) (hts _ q2_20) (fun _ h9 => h9) rfl dX9_store_113 ?_
        refine va_get (D := D) (ci := 3) (v := .int (Rows_count q3)) (C := RX6) (T := TX6) (N := 16) hx hb hts in_X6 hown hK hP 12 rfl rfl 4 (by decide) (hts _ q1_62) (fun _ h9 => h9) rfl dX9_store_116 ?_
        obtain ⟨q7, hc, hf⟩ := zbd hf
        rw [← wSR_mk ht] at hP hD
        refine z_cVi (As := [.int (Rows_count q3)]) (rest := []) C (c_X9_answer l D cy ht ht_reader ht_rows ht_evidence ht_history (mkSR (SR_troubleNumber St) (Rd_fault q2.2.1) (Rd_place q2.2.1)) (Rows_count q3) q7 hc) gV_X9_X9_answer hd_X9_answer ⟨Nat.le_of_ble_eq_true rfl, Nat.le_of_ble_eq_true rfl⟩ ⟨Nat.le_refl _, Nat.le_refl _⟩ (va_recv hK hP (ci := 5) (q0 := 0) rfl rfl) hP hD hS (w2 := wSR ht (ht_reader 0) (ht_rows 0) (ht_evidence 0) (ht_history 0) cy q7.2 ++ (wEv ht_evidence cy q5 ++ (wHi ht_history (ht_history_before 0) (ht_history_images 0) cy q6 ++ (wRd ht_reader (ht_reader_rows 0) (ht_reader_evidence 0) (ht_reader_tape 0) E.2.2.1 cy q2.2.1 ++ (wRows ht_rows cy q3 ++ (wEv ht_reader_evidence cy q2.2.2.1 ++ (wRows ht_reader_rows cy q2.2.2.2.1 ++ (wTape ht_reader_tape cy q2.2.2.2.2)))))))) [0] [1, 2, 3, 4, 5, 6, 7, 8, 9, 10, 11, 12, 13, 14, 15, 16, 17, 18, 19, 20, 21, 22, 23, 24, 25, 26, 27, 28, 29, 30, 31, 32, 33, 34] [34, 0, 1, 2, 3, 4, 5, 6, 7, 8, 9, 10, 11, 12, 13, 14, 15, 16, 17, 18, 19, 20, 21, 22, 23, 24, 25, 26, 27, 28, 29, 30, 31, 32, 33] rfl rfl rfl rfl rfl rfl (by decide) hl.1 (Nat.le_of_ble_eq_true rfl) dX9_store_119 (fun H locs hP hD hS => ?_)
        obtain rfl := Option.some.inj hf
        exact z_iret (v := q7.1) C hP hD hS dX9_store_122
      · refine lv_aload_n hx hb dX9_store_59 rfl (lv_at hl 1 rfl) ?_
        refine lv_iconst (v := (4 : Int32)) hx hb dX9_store_60 (by decide) ?_
        obtain ⟨q8, hc, hf⟩ := zbd hf
        rw [← wSR_mk ht] at hP hD
        refine z_cVi (As := [.int (4 : Int32)]) (rest := []) C (c_X9_refuse l D cy ht ht_reader ht_rows ht_evidence ht_history (mkSR (SR_troubleNumber St) (Rd_fault q2.2.1) (Rd_place q2.2.1)) (4 : Int32) q8 hc) gV_X9_X9_refuse hd_X9_refuse ⟨Nat.le_of_ble_eq_true rfl, Nat.le_of_ble_eq_true rfl⟩ ⟨Nat.le_refl _, Nat.le_refl _⟩ (va_recv hK hP (ci := 5) (q0 := 0) rfl rfl) hP hD hS (w2 := wSR ht (ht_reader 0) (ht_rows 0) (ht_evidence 0) (ht_history 0) cy q8.2 ++ (wEv ht_evidence cy St_evidence ++ (wHi ht_history (ht_history_before 0) (ht_history_images 0) cy St_history ++ (wRd ht_reader (ht_reader_rows 0) (ht_reader_evidence 0) (ht_reader_tape 0) E.2.2.1 cy q2.2.1 ++ (wRows ht_rows cy St_rows ++ (wEv ht_reader_evidence cy q2.2.2.1 ++ (wRows ht_reader_rows cy q2.2.2.2.1 ++ (wTape ht_reader_tape cy q2.2.2.2.2)))))))) [0] [1, 2, 3, 4, 5, 6, 7, 8, 9, 10, 11, 12, 13, 14, 15, 16, 17, 18, 19, 20, 21, 22, 23, 24, 25, 26, 27, 28, 29, 30, 31, 32, 33, 34] [34, 0, 1, 2, 3, 4, 5, 6, 7, 8, 9, 10, 11, 12, 13, 14, 15, 16, 17, 18, 19, 20, 21, 22, 23, 24, 25, 26, 27, 28, 29, 30, 31, 32, 33] rfl rfl rfl rfl rfl rfl (by decide) hl.1 (Nat.le_of_ble_eq_true rfl) dX9_store_61 (fun H locs hP hD hS => ?_)
        obtain rfl := Option.some.inj hf
        exact z_iret (v := q8.1) C hP hD hS dX9_store_64
    · refine lv_aload_n hx hb dX9_store_18 rfl (lv_at hl 0 rfl) ?_
      refine lv_iconst (v := (2 : Int32)) hx hb dX9_store_19 (by decide) ?_
      obtain ⟨q9, hc, hf⟩ := zbd hf
      refine z_cVi (As := [.int (2 : Int32)]) (rest := []) C (c_X9_refuse l D cy ht ht_reader ht_rows ht_evidence ht_history St (2 : Int32) q9 hc) gV_X9_X9_refuse hd_X9_refuse ⟨Nat.le_of_ble_eq_true rfl, Nat.le_of_ble_eq_true rfl⟩ ⟨Nat.le_refl _, Nat.le_refl _⟩ (va_recv hK hP (ci := 5) (q0 := 0) rfl rfl) hP hD hS (w2 := wSR ht (ht_reader 0) (ht_rows 0) (ht_evidence 0) (ht_history 0) cy q9.2 ++ (wEv ht_evidence cy St_evidence ++ (wHi ht_history (ht_history_before 0) (ht_history_images 0) cy St_history ++ (wRd ht_reader (ht_reader_rows 0) (ht_reader_evidence 0) (ht_reader_tape 0) E.2.2.1 cy St_reader ++ (wRows ht_rows cy St_rows ++ (wEv ht_reader_evidence cy St_reader_evidence ++ (wRows ht_reader_rows cy St_reader_rows ++ (wTape ht_reader_tape cy St_reader_tape)))))))) [0] [1, 2, 3, 4, 5, 6, 7, 8, 9, 10, 11, 12, 13, 14, 15, 16, 17, 18, 19, 20, 21, 22, 23, 24, 25, 26, 27, 28, 29, 30, 31, 32, 33, 34] [34, 0, 1, 2, 3, 4, 5, 6, 7, 8, 9, 10, 11, 12, 13, 14, 15, 16, 17, 18, 19, 20, 21, 22, 23, 24, 25, 26, 27, 28, 29, 30, 31, 32, 33] rfl rfl rfl rfl rfl rfl (by decide) hl.1 (Nat.le_of_ble_eq_true rfl) dX9_store_20 (fun H locs hP hD hS => ?_)
      obtain rfl := Option.some.inj hf
      exact z_iret (v := q9.1) C hP hD hS dX9_store_23
