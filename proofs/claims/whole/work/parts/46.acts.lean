theorem hd_X4_keep : yX4_keep.cls = RX4 ∧ yX4_keep.cls ≠ "java/lang/invoke/MethodHandle" ∧ yX4_keep.cls ≠ "java/lang/invoke/VarHandle" ∧ (parseMethodDescriptor yX4_keep.desc).map (fun d => d.parameters.length) = some 1 := by decide +kernel
theorem gV_X9_X4_keep : GoodIn WT (wsV RX9 304 RX4 yX4_keep (.code yX4_keep cX4_keep 2 none :: WT)) := gzV q5_130 q5_131 q5_132 q1_7 q5_133
theorem hd_X4_returnTo : yX4_returnTo.cls = RX4 ∧ yX4_returnTo.cls ≠ "java/lang/invoke/MethodHandle" ∧ yX4_returnTo.cls ≠ "java/lang/invoke/VarHandle" ∧ (parseMethodDescriptor yX4_returnTo.desc).map (fun d => d.parameters.length) = some 2 := by decide +kernel
theorem gV_X9_X4_returnTo : GoodIn WT (wsV RX9 341 RX4 yX4_returnTo (.code yX4_returnTo cX4_returnTo 3 (some FieldType.boolean) :: WT)) := gzV q5_188 q5_189 q5_190 q1_7 q5_191
theorem hd_X4_takeBack : yX4_takeBack.cls = RX4 ∧ yX4_takeBack.cls ≠ "java/lang/invoke/MethodHandle" ∧ yX4_takeBack.cls ≠ "java/lang/invoke/VarHandle" ∧ (parseMethodDescriptor yX4_takeBack.desc).map (fun d => d.parameters.length) = some 1 := by decide +kernel
theorem gV_X9_X4_takeBack : GoodIn WT (wsV RX9 333 RX4 yX4_takeBack (.code yX4_takeBack cX4_takeBack 2 (some FieldType.boolean) :: WT)) := gzV q5_172 q5_173 q5_174 q1_7 q5_175
theorem hd_X4_takeImage : yX4_takeImage.cls = RX4 ∧ yX4_takeImage.cls ≠ "java/lang/invoke/MethodHandle" ∧ yX4_takeImage.cls ≠ "java/lang/invoke/VarHandle" ∧ (parseMethodDescriptor yX4_takeImage.desc).map (fun d => d.parameters.length) = some 1 := by decide +kernel
theorem gV_X9_X4_takeImage : GoodIn WT (wsV RX9 337 RX4 yX4_takeImage (.code yX4_takeImage cX4_takeImage 2 (some FieldType.int) :: WT)) := gzV q5_180 q5_181 q5_182 q1_7 q5_183
theorem gV_X9_X6_beginWriter : GoodIn WT (wsV RX9 307 RX6 yX6_beginWriter (.code yX6_beginWriter cX6_beginWriter 4 (some FieldType.int) :: WT)) := gzV q5_136 q3_43 q3_44 q1_3 q3_45
theorem gV_X9_X6_canBegin : GoodIn WT (wsV RX9 301 RX6 yX6_canBegin (.code yX6_canBegin cX6_canBegin 1 (some FieldType.boolean) :: WT)) := gzV q5_129 q3_2 q3_3 q1_3 q3_4
theorem gV_X9_X6_clearDead : GoodIn WT (wsV RX9 327 RX6 yX6_clearDead (.code yX6_clearDead cX6_clearDead 7 (some FieldType.int) :: WT)) := gzV q5_162 q3_138 q3_139 q1_3 q3_140
theorem gV_X9_X6_dropTrouble : GoodIn WT (wsV RX9 317 RX6 yX6_dropTrouble (.code yX6_dropTrouble cX6_dropTrouble 4 (some FieldType.int) :: WT)) := gzV q5_147 q3_120 q3_121 q1_3 q3_122
theorem gV_X9_X6_dropValue : GoodIn WT (wsV RX9 320 RX6 yX6_dropValue (.code yX6_dropValue cX6_dropValue 4 (some FieldType.int) :: WT)) := gzV q5_148 q3_124 q3_125 q1_3 q3_126
theorem gV_X9_X6_endWriter : GoodIn WT (wsV RX9 323 RX6 yX6_endWriter (.code yX6_endWriter cX6_endWriter 4 (some FieldType.int) :: WT)) := gzV q5_153 q3_134 q3_135 q1_3 q3_136
theorem gV_X9_X6_freezeAll : GoodIn WT (wsV RX9 330 RX6 yX6_freezeAll (.code yX6_freezeAll cX6_freezeAll 7 (some FieldType.int) :: WT)) := gzV q5_167 q3_154 q3_155 q1_3 q3_156
theorem gV_X9_X6_putTrouble : GoodIn WT (wsV RX9 310 RX6 yX6_putTrouble (.code yX6_putTrouble cX6_putTrouble 4 (some FieldType.int) :: WT)) := gzV q5_141 q3_48 q3_49 q1_3 q3_50
theorem gV_X9_X6_putValue : GoodIn WT (wsV RX9 313 RX6 yX6_putValue (.code yX6_putValue cX6_putValue 5 (some FieldType.int) :: WT)) := gzV q5_142 q3_112 q3_113 q1_3 q3_114
def f_X9_begin (St : SSR) (St_rows : SRows) (St_history : SHi) (St_history_pool : SPool) : Option (Int32 × SSR × SRows × SHi × SPool) :=
  (f_X9_hasStore St St_rows).bind (fun q1 =>
    (if q1 = 0 then
      (f_X9_refuse St (1 : Int32)).bind (fun q7 =>
        some (q7.1, q7.2, St_rows, St_history, St_history_pool))
      else
      (f_X6_canBegin St_rows).bind (fun q2 =>
        (if q2 = 0 then
          (f_X9_refuse St (3 : Int32)).bind (fun q6 =>
            some (q6.1, q6.2, St_rows, St_history, St_history_pool))
          else
          (f_X4_keep St_rows St_history St_history_pool).bind (fun q3 =>
            (f_X6_beginWriter St_rows).bind (fun q4 =>
              (f_X9_answer St q4.1).bind (fun q5 =>
                some (q5.1, q5.2, q4.2, q3.1, q3.2))))))))
set_option maxHeartbeats 4000000 in
set_option maxRecDepth 100000 in
theorem c_X9_begin (l : Launch) (D : va_G) (cy : Nat → ClassId) (ht : Nat → Nat) (ht_reader : Nat → Nat) (ht_rows : Nat → Nat) (ht_evidence : Nat → Nat) (ht_history : Nat → Nat) (ht_history_before : Nat → Nat) (ht_history_images : Nat → Nat) (gB : Nat → Nat → Nat) (gI : Nat → Nat → Nat) (St : SSR) (St_rows : SRows) (St_history : SHi) (St_history_pool : SPool) (r : Int32 × SSR × SRows × SHi × SPool) (hf : f_X9_begin St St_rows St_history St_history_pool = some r) : zCI l yX9_begin cX9_begin 1 (some FieldType.int) 3 84 D (zty cy) [.ref (ht 0)] (wSR ht (ht_reader 0) (ht_rows 0) (ht_evidence 0) (ht_history 0) cy St ++ (wRows ht_rows cy St_rows ++ (wHi ht_history (ht_history_before 0) (ht_history_images 0) cy St_history ++ (wPool gB gI (ht_history_before 0) (ht_history_images 0) cy St_history_pool)))) (wSR ht (ht_reader 0) (ht_rows 0) (ht_evidence 0) (ht_history 0) cy r.2.1 ++ (wRows ht_rows cy r.2.2.1 ++ (wHi ht_history (ht_history_before 0) (ht_history_images 0) cy r.2.2.2.1 ++ (wPool gB gI (ht_history_before 0) (ht_history_images 0) cy r.2.2.2.2)))) r.1 := by
  refine zCI_of (by decide +kernel) (Nat.le_of_ble_eq_true rfl) ?_
  intro p e s m below meth c A ls C hP hD hS hl
  generalize hargs : ([.ref (ht 0)] : List Value).toArray = args at C ⊢
  have C : zX p s m meth c cX9_begin 1 args RX9 (some FieldType.int) A D (zty cy) := C
  obtain ⟨hx, hb, hr, hts, hown, hlocks, hml, hA, hK⟩ := id C
  have hl : lv_has ls 1 [(0, .ref (ht 0))] := hl
  generalize hH : s.heap = H at hP ⊢
  have hS : va_S A s.heap H [] := by rw [← hH]; exact hS
  generalize ([] : List Loc) = locs at hS ⊢
  refine lv_aload_n hx hb dX9_begin_0 rfl (lv_at hl 0 rfl) ?_
  obtain ⟨q1, hc, hf⟩ := zbd hf
  refine z_cVim (As := []) (rest := []) C (c_X9_hasStore l D cy ht ht_reader ht_rows ht_evidence ht_history St St_rows q1 hc) gV_X9_X9_hasStore hd_X9_hasStore ⟨Nat.le_of_ble_eq_true rfl, Nat.le_of_ble_eq_true rfl⟩ ⟨Nat.le_refl _, Nat.le_refl _⟩ (va_recv hK hP (ci := 5) (q0 := 0) rfl rfl) hP hD hS (w2 := wSR ht (ht_reader 0) (ht_rows 0) (ht_evidence 0) (ht_history 0) cy St ++ (wRows ht_rows cy St_rows ++ (wHi ht_history (ht_history_before 0) (ht_history_images 0) cy St_history ++ (wPool gB gI (ht_history_before 0) (ht_history_images 0) cy St_history_pool)))) [] (wHi ht_history (ht_history_before 0) (ht_history_images 0) cy St_history ++ (wPool gB gI (ht_history_before 0) (ht_history_images 0) cy St_history_pool)) rfl rfl hl.1 (Nat.le_of_ble_eq_true rfl) dX9_begin_1 (fun H locs hP hD hS => ?_)
  refine z_if_ne (tgt := 13) hx hb dX9_begin_4 (by decide) hf (fun hf => ?_) (fun hf => ?_)
  · refine lv_aload_n hx hb dX9_begin_13 rfl (lv_at hl 0 rfl) ?_
    refine va_get (D := D) (ci := 5) (v := .ref (ht_rows 0)) (C := RX9) (T := TX9) (N := 7) hx hb hts in_X9 hown hK hP 0 rfl rfl 1 (by decide) (hts _ q2_20) (fun _ h9 => h9) rfl dX9_begin_14 ?_
    obtain ⟨q2, hc, hf⟩ := zbd hf
    refine z_cVim (As := []) (rest := []) C (c_X6_canBegin l D cy ht_rows St_rows q2 hc) gV_X9_X6_canBegin hd_X6_canBegin ⟨Nat.le_of_ble_eq_true rfl, Nat.le_of_ble_eq_true rfl⟩ ⟨Nat.le_refl _, Nat.le_refl _⟩ (va_recv hK hP (ci := 3) (q0 := 1) rfl rfl) hP hD hS (w2 := wSR ht (ht_reader 0) (ht_rows 0) (ht_evidence 0) (ht_history 0) cy St ++ (wRows ht_rows cy St_rows ++ (wHi ht_history (ht_history_before 0) (ht_history_images 0) cy St_history ++ (wPool gB gI (ht_history_before 0) (ht_history_images 0) cy St_history_pool)))) (wSR ht (ht_reader 0) (ht_rows 0) (ht_evidence 0) (ht_history 0) cy St) (wHi ht_history (ht_history_before 0) (ht_history_images 0) cy St_history ++ (wPool gB gI (ht_history_before 0) (ht_history_images 0) cy St_history_pool)) rfl rfl hl.1 (Nat.le_of_ble_eq_true rfl) dX9_begin_17 (fun H locs hP hD hS => ?_)
    refine z_if_ne (tgt := 29) hx hb dX9_begin_20 (by decide) hf (fun hf => ?_) (fun hf => ?_)
    · refine lv_aload_n hx hb dX9_begin_29 rfl (lv_at hl 0 rfl) ?_
      refine va_get (D := D) (ci := 5) (v := .ref (ht_history 0)) (C := RX9) (T := TX9) (N := 7) hx hb hts in_X9 hown hK hP 0 rfl rfl 3 (by decide) (hts _ q2_22) (fun _ h9 => h9) rfl dX9_begin_30 ?_
      refine lv_aload_n hx hb dX9_begin_33 rfl (lv_at hl 0 rfl) ?_
      refine va_get (D := D) (ci := 5) (v := .ref (ht_rows 0)) (C := RX9) (T := TX9) (N := 7) hx hb hts in_X9 hown hK hP 0 rfl rfl 1 (by decide) (hts _ q2_20) (fun _ h9 => h9) rfl dX9_begin_34 ?_
      obtain ⟨q3, hc, hf⟩ := zbd hf
      refine z_cVvt (As := [.ref (ht_rows 0)]) (rest := []) C (c_X4_keep l D cy ht_rows ht_history ht_history_before ht_history_images gB gI St_rows St_history St_history_pool q3 hc) gV_X9_X4_keep hd_X4_keep ⟨Nat.le_of_ble_eq_true rfl, Nat.le_of_ble_eq_true rfl⟩ ⟨Nat.le_refl _, Nat.le_refl _⟩ (va_recv hK hP (ci := 1) (q0 := 9) rfl rfl) hP hD hS (w2 := wSR ht (ht_reader 0) (ht_rows 0) (ht_evidence 0) (ht_history 0) cy St ++ (wRows ht_rows cy St_rows ++ (wHi ht_history (ht_history_before 0) (ht_history_images 0) cy q3.1 ++ (wPool gB gI (ht_history_before 0) (ht_history_images 0) cy q3.2)))) (wSR ht (ht_reader 0) (ht_rows 0) (ht_evidence 0) (ht_history 0) cy St) rfl rfl hl.1 (Nat.le_of_ble_eq_true rfl) dX9_begin_37 (fun H locs hP hD hS => ?_)
      refine lv_aload_n hx hb dX9_begin_40 rfl (lv_at hl 0 rfl) ?_
      refine lv_aload_n hx hb dX9_begin_41 rfl (lv_at hl 0 rfl) ?_
      refine va_get (D := D) (ci := 5) (v := .ref (ht_rows 0)) (C := RX9) (T := TX9) (N := 7) hx hb hts in_X9 hown hK hP 0 rfl rfl 1 (by decide) (hts _ q2_20) (fun _ h9 => h9) rfl dX9_begin_42 ?_
      obtain ⟨q4, hc, hf⟩ := zbd hf
      refine z_cVim (As := []) (rest := [.ref (ht 0)]) C (c_X6_beginWriter l D cy ht_rows St_rows q4 hc) gV_X9_X6_beginWriter hd_X6_beginWriter ⟨Nat.le_of_ble_eq_true rfl, Nat.le_of_ble_eq_true rfl⟩ ⟨Nat.le_refl _, Nat.le_refl _⟩ (va_recv hK hP (ci := 3) (q0 := 1) rfl rfl) hP hD hS (w2 := wSR ht (ht_reader 0) (ht_rows 0) (ht_evidence 0) (ht_history 0) cy St ++ (wRows ht_rows cy q4.2 ++ (wHi ht_history (ht_history_before 0) (ht_history_images 0) cy q3.1 ++ (wPool gB gI (ht_history_before 0) (ht_history_images 0) cy q3.2)))) (wSR ht (ht_reader 0) (ht_rows 0) (ht_evidence 0) (ht_history 0) cy St) (wHi ht_history (ht_history_before 0) (ht_history_images 0) cy q3.1 ++ (wPool gB gI (ht_history_before 0) (ht_history_images 0) cy q3.2)) rfl rfl hl.1 (Nat.le_of_ble_eq_true rfl) dX9_begin_45 (fun H locs hP hD hS => ?_)
      obtain ⟨q5, hc, hf⟩ := zbd hf
      refine z_cVim (As := [.int q4.1]) (rest := []) C (c_X9_answer l D cy ht ht_reader ht_rows ht_evidence ht_history St q4.1 q5 hc) gV_X9_X9_answer hd_X9_answer ⟨Nat.le_of_ble_eq_true rfl, Nat.le_of_ble_eq_true rfl⟩ ⟨Nat.le_refl _, Nat.le_refl _⟩ (va_recv hK hP (ci := 5) (q0 := 0) rfl rfl) hP hD hS (w2 := wSR ht (ht_reader 0) (ht_rows 0) (ht_evidence 0) (ht_history 0) cy q5.2 ++ (wRows ht_rows cy q4.2 ++ (wHi ht_history (ht_history_before 0) (ht_history_images 0) cy q3.1 ++ (wPool gB gI (ht_history_before 0) (ht_history_images 0) cy q3.2)))) [] (wRows ht_rows cy q4.2 ++ (wHi ht_history (ht_history_before 0) (ht_history_images 0) cy q3.1 ++ (wPool gB gI (ht_history_before 0) (ht_history_images 0) cy q3.2))) rfl rfl hl.1 (Nat.le_of_ble_eq_true rfl) dX9_begin_48 (fun H locs hP hD hS => ?_)
      obtain rfl := Option.some.inj hf
      exact z_iret (v := q5.1) C hP hD hS dX9_begin_51
    · refine lv_aload_n hx hb dX9_begin_23 rfl (lv_at hl 0 rfl) ?_
      refine lv_iconst (v := (3 : Int32)) hx hb dX9_begin_24 (by decide) ?_
      obtain ⟨q6, hc, hf⟩ := zbd hf
      refine z_cVim (As := [.int (3 : Int32)]) (rest := []) C (c_X9_refuse l D cy ht ht_reader ht_rows ht_evidence ht_history St (3 : Int32) q6 hc) gV_X9_X9_refuse hd_X9_refuse ⟨Nat.le_of_ble_eq_true rfl, Nat.le_of_ble_eq_true rfl⟩ ⟨Nat.le_refl _, Nat.le_refl _⟩ (va_recv hK hP (ci := 5) (q0 := 0) rfl rfl) hP hD hS (w2 := wSR ht (ht_reader 0) (ht_rows 0) (ht_evidence 0) (ht_history 0) cy q6.2 ++ (wRows ht_rows cy St_rows ++ (wHi ht_history (ht_history_before 0) (ht_history_images 0) cy St_history ++ (wPool gB gI (ht_history_before 0) (ht_history_images 0) cy St_history_pool)))) [] (wRows ht_rows cy St_rows ++ (wHi ht_history (ht_history_before 0) (ht_history_images 0) cy St_history ++ (wPool gB gI (ht_history_before 0) (ht_history_images 0) cy St_history_pool))) rfl rfl hl.1 (Nat.le_of_ble_eq_true rfl) dX9_begin_25 (fun H locs hP hD hS => ?_)
      obtain rfl := Option.some.inj hf
      exact z_iret (v := q6.1) C hP hD hS dX9_begin_28
  · refine lv_aload_n hx hb dX9_begin_7 rfl (lv_at hl 0 rfl) ?_
    refine lv_iconst (v := (1 : Int32)) hx hb dX9_begin_8 (by decide) ?_
    obtain ⟨q7, hc, hf⟩ := zbd hf
    refine z_cVim (As := [.int (1 : Int32)]) (rest := []) C (c_X9_refuse l D cy ht ht_reader ht_rows ht_evidence ht_history St (1 : Int32) q7 hc) gV_X9_X9_refuse hd_X9_refuse ⟨Nat.le_of_ble_eq_true rfl, Nat.le_of_ble_eq_true rfl⟩ ⟨Nat.le_refl _, Nat.le_refl _⟩ (va_recv hK hP (ci := 5) (q0 := 0) rfl rfl) hP hD hS (w2 := wSR ht (ht_reader 0) (ht_rows 0) (ht_evidence 0) (ht_history 0) cy q7.2 ++ (wRows ht_rows cy St_rows ++ (wHi ht_history (ht_history_before 0) (ht_history_images 0) cy St_history ++ (wPool gB gI (ht_history_before 0) (ht_history_images 0) cy St_history_pool)))) [] (wRows ht_rows cy St_rows ++ (wHi ht_history (ht_history_before 0) (ht_history_images 0) cy St_history ++ (wPool gB gI (ht_history_before 0) (ht_history_images 0) cy St_history_pool))) rfl rfl hl.1 (Nat.le_of_ble_eq_true rfl) dX9_begin_9 (fun H locs hP hD hS => ?_)
    obtain rfl := Option.some.inj hf
    exact z_iret (v := q7.1) C hP hD hS dX9_begin_12
def f_X9_put (St : SSR) (St_rows : SRows) (St_history : SHi) (St_history_pool : SPool) (x1 : Int32) (x2 : Int32) (x3 : Int32) : Option (Int32 × SSR × SRows × SHi × SPool) :=
  (f_X6_runs St_rows x1).bind (fun q1 =>
    (if q1 = 0 then
      (f_X9_refuse St (1 : Int32)).bind (fun q2 =>
        some (q2.1, q2.2, St_rows, St_history, St_history_pool))
      else
      (f_X6_isRow St_rows x2).bind (fun q3 =>
        (if q3 = 0 then
          (f_X9_refuse St (1 : Int32)).bind (fun q11 =>
            some (q11.1, q11.2, St_rows, St_history, St_history_pool))
          else
          (f_X9_isValue x3).bind (fun q4 =>
            (if q4 = 0 then
              (f_X9_refuse St (2 : Int32)).bind (fun q10 =>
                some (q10.1, q10.2, St_rows, St_history, St_history_pool))
              else
              (f_X6_putTrouble St_rows x1 x2).bind (fun q5 =>
                (if q5 = 0 then
                  (f_X4_keep St_rows St_history St_history_pool).bind (fun q6 =>
                    (f_X6_putValue St_rows x1 x2 x3).bind (fun q7 =>
                      (f_X9_answer St q7.1).bind (fun q8 =>
                        some (q8.1, q8.2, q7.2, q6.1, q6.2))))
                  else
                  (f_X9_refuse St q5).bind (fun q9 =>
                    some (q9.1, q9.2, St_rows, St_history, St_history_pool))))))))))
set_option maxHeartbeats 4000000 in
set_option maxRecDepth 100000 in
theorem c_X9_put (l : Launch) (D : va_G) (cy : Nat → ClassId) (ht : Nat → Nat) (ht_reader : Nat → Nat) (ht_rows : Nat → Nat) (ht_evidence : Nat → Nat) (ht_history : Nat → Nat) (ht_history_before : Nat → Nat) (ht_history_images : Nat → Nat) (gB : Nat → Nat → Nat) (gI : Nat → Nat → Nat) (St : SSR) (St_rows : SRows) (St_history : SHi) (St_history_pool : SPool) (x1 : Int32) (x2 : Int32) (x3 : Int32) (r : Int32 × SSR × SRows × SHi × SPool) (hf : f_X9_put St St_rows St_history St_history_pool x1 x2 x3 = some r) : zCI l yX9_put cX9_put 5 (some FieldType.int) 5 121 D (zty cy) [.ref (ht 0), .int x1, .int x2, .int x3] (wSR ht (ht_reader 0) (ht_rows 0) (ht_evidence 0) (ht_history 0) cy St ++ (wRows ht_rows cy St_rows ++ (wHi ht_history (ht_history_before 0) (ht_history_images 0) cy St_history ++ (wPool gB gI (ht_history_before 0) (ht_history_images 0) cy St_history_pool)))) (wSR ht (ht_reader 0) (ht_rows 0) (ht_evidence 0) (ht_history 0) cy r.2.1 ++ (wRows ht_rows cy r.2.2.1 ++ (wHi ht_history (ht_history_before 0) (ht_history_images 0) cy r.2.2.2.1 ++ (wPool gB gI (ht_history_before 0) (ht_history_images 0) cy r.2.2.2.2)))) r.1 := by
  refine zCI_of (by decide +kernel) (Nat.le_of_ble_eq_true rfl) ?_
  intro p e s m below meth c A ls C hP hD hS hl
  generalize hargs : ([.ref (ht 0), .int x1, .int x2, .int x3] : List Value).toArray = args at C ⊢
  have C : zX p s m meth c cX9_put 5 args RX9 (some FieldType.int) A D (zty cy) := C
  obtain ⟨hx, hb, hr, hts, hown, hlocks, hml, hA, hK⟩ := id C
  have hl : lv_has ls 5 [(0, .ref (ht 0)), (1, .int x1), (2, .int x2), (3, .int x3)] := hl
  generalize hH : s.heap = H at hP ⊢
  have hS : va_S A s.heap H [] := by rw [← hH]; exact hS
  generalize ([] : List Loc) = locs at hS ⊢
  refine lv_aload_n hx hb dX9_put_0 rfl (lv_at hl 0 rfl) ?_
  refine va_get (D := D) (ci := 5) (v := .ref (ht_rows 0)) (C := RX9) (T := TX9) (N := 7) hx hb hts in_X9 hown hK hP 0 rfl rfl 1 (by decide) (hts _ q2_20) (fun _ h9 => h9) rfl dX9_put_1 ?_
  refine lv_iload_n hx hb dX9_put_4 rfl (lv_at hl 1 rfl) ?_
  obtain ⟨q1, hc, hf⟩ := zbd hf
  refine z_cVim (As := [.int x1]) (rest := []) C (c_X6_runs l D cy ht_rows St_rows x1 q1 hc) gV_X9_X6_runs hd_X6_runs ⟨Nat.le_of_ble_eq_true rfl, Nat.le_of_ble_eq_true rfl⟩ ⟨Nat.le_refl _, Nat.le_refl _⟩ (va_recv hK hP (ci := 3) (q0 := 1) rfl rfl) hP hD hS (w2 := wSR ht (ht_reader 0) (ht_rows 0) (ht_evidence 0) (ht_history 0) cy St ++ (wRows ht_rows cy St_rows ++ (wHi ht_history (ht_history_before 0) (ht_history_images 0) cy St_history ++ (wPool gB gI (ht_history_before 0) (ht_history_images 0) cy St_history_pool)))) (wSR ht (ht_reader 0) (ht_rows 0) (ht_evidence 0) (ht_history 0) cy St) (wHi ht_history (ht_history_before 0) (ht_history_images 0) cy St_history ++ (wPool gB gI (ht_history_before 0) (ht_history_images 0) cy St_history_pool)) rfl rfl hl.1 (Nat.le_of_ble_eq_true rfl) dX9_put_5 (fun H locs hP hD hS => ?_)
  refine z_if_eq (tgt := 22) hx hb dX9_put_8 (by decide) hf (fun hf => ?_) (fun hf => ?_)
  · refine lv_aload_n hx hb dX9_put_22 rfl (lv_at hl 0 rfl) ?_
    refine lv_iconst (v := (1 : Int32)) hx hb dX9_put_23 (by decide) ?_
    obtain ⟨q2, hc, hf⟩ := zbd hf
    refine z_cVim (As := [.int (1 : Int32)]) (rest := []) C (c_X9_refuse l D cy ht ht_reader ht_rows ht_evidence ht_history St (1 : Int32) q2 hc) gV_X9_X9_refuse hd_X9_refuse ⟨Nat.le_of_ble_eq_true rfl, Nat.le_of_ble_eq_true rfl⟩ ⟨Nat.le_refl _, Nat.le_refl _⟩ (va_recv hK hP (ci := 5) (q0 := 0) rfl rfl) hP hD hS (w2 := wSR ht (ht_reader 0) (ht_rows 0) (ht_evidence 0) (ht_history 0) cy q2.2 ++ (wRows ht_rows cy St_rows ++ (wHi ht_history (ht_history_before 0) (ht_history_images 0) cy St_history ++ (wPool gB gI (ht_history_before 0) (ht_history_images 0) cy St_history_pool)))) [] (wRows ht_rows cy St_rows ++ (wHi ht_history (ht_history_before 0) (ht_history_images 0) cy St_history ++ (wPool gB gI (ht_history_before 0) (ht_history_images 0) cy St_history_pool))) rfl rfl hl.1 (Nat.le_of_ble_eq_true rfl) dX9_put_24 (fun H locs hP hD hS => ?_)
    obtain rfl := Option.some.inj hf
    exact z_iret (v := q2.1) C hP hD hS dX9_put_27
  · refine lv_aload_n hx hb dX9_put_11 rfl (lv_at hl 0 rfl) ?_
    refine va_get (D := D) (ci := 5) (v := .ref (ht_rows 0)) (C := RX9) (T := TX9) (N := 7) hx hb hts in_X9 hown hK hP 0 rfl rfl 1 (by decide) (hts _ q2_20) (fun _ h9 => h9) rfl dX9_put_12 ?_
    refine lv_iload_n hx hb dX9_put_15 rfl (lv_at hl 2 rfl) ?_
    obtain ⟨q3, hc, hf⟩ := zbd hf
    refine z_cVim (As := [.int x2]) (rest := []) C (c_X6_isRow l D cy ht_rows St_rows x2 q3 hc) gV_X9_X6_isRow hd_X6_isRow ⟨Nat.le_of_ble_eq_true rfl, Nat.le_of_ble_eq_true rfl⟩ ⟨Nat.le_refl _, Nat.le_refl _⟩ (va_recv hK hP (ci := 3) (q0 := 1) rfl rfl) hP hD hS (w2 := wSR ht (ht_reader 0) (ht_rows 0) (ht_evidence 0) (ht_history 0) cy St ++ (wRows ht_rows cy St_rows ++ (wHi ht_history (ht_history_before 0) (ht_history_images 0) cy St_history ++ (wPool gB gI (ht_history_before 0) (ht_history_images 0) cy St_history_pool)))) (wSR ht (ht_reader 0) (ht_rows 0) (ht_evidence 0) (ht_history 0) cy St) (wHi ht_history (ht_history_before 0) (ht_history_images 0) cy St_history ++ (wPool gB gI (ht_history_before 0) (ht_history_images 0) cy St_history_pool)) rfl rfl hl.1 (Nat.le_of_ble_eq_true rfl) dX9_put_16 (fun H locs hP hD hS => ?_)
    refine z_if_ne (tgt := 28) hx hb dX9_put_19 (by decide) hf (fun hf => ?_) (fun hf => ?_)
    · refine lv_iload_n hx hb dX9_put_28 rfl (lv_at hl 3 rfl) ?_
      obtain ⟨q4, hc, hf⟩ := zbd hf
      refine z_cSiE (As := [.int x3]) (rest := []) C (c_X9_isValue l D cy x3 q4 hc) gS_X9_X9_isValue hd_X9_isValue ⟨Nat.le_of_ble_eq_true rfl, Nat.le_of_ble_eq_true rfl⟩ ⟨Nat.le_refl _, Nat.le_refl _⟩ hP hD hS hl.1 (Nat.le_of_ble_eq_true rfl) dX9_put_29 (fun H locs hP hD hS => ?_)
      refine z_if_ne (tgt := 41) hx hb dX9_put_32 (by decide) hf (fun hf => ?_) (fun hf => ?_)
      · refine lv_aload_n hx hb dX9_put_41 rfl (lv_at hl 0 rfl) ?_
        refine va_get (D := D) (ci := 5) (v := .ref (ht_rows 0)) (C := RX9) (T := TX9) (N := 7) hx hb hts in_X9 hown hK hP 0 rfl rfl 1 (by decide) (hts _ q2_20) (fun _ h9 => h9) rfl dX9_put_42 ?_
        refine lv_iload_n hx hb dX9_put_45 rfl (lv_at hl 1 rfl) ?_
        refine lv_iload_n hx hb dX9_put_46 rfl (lv_at hl 2 rfl) ?_
        obtain ⟨q5, hc, hf⟩ := zbd hf
        refine z_cVim (As := [.int x1, .int x2]) (rest := []) C (c_X6_putTrouble l D cy ht_rows St_rows x1 x2 q5 hc) gV_X9_X6_putTrouble hd_X6_putTrouble ⟨Nat.le_of_ble_eq_true rfl, Nat.le_of_ble_eq_true rfl⟩ ⟨Nat.le_refl _, Nat.le_refl _⟩ (va_recv hK hP (ci := 3) (q0 := 1) rfl rfl) hP hD hS (w2 := wSR ht (ht_reader 0) (ht_rows 0) (ht_evidence 0) (ht_history 0) cy St ++ (wRows ht_rows cy St_rows ++ (wHi ht_history (ht_history_before 0) (ht_history_images 0) cy St_history ++ (wPool gB gI (ht_history_before 0) (ht_history_images 0) cy St_history_pool)))) (wSR ht (ht_reader 0) (ht_rows 0) (ht_evidence 0) (ht_history 0) cy St) (wHi ht_history (ht_history_before 0) (ht_history_images 0) cy St_history ++ (wPool gB gI (ht_history_before 0) (ht_history_images 0) cy St_history_pool)) rfl rfl hl.1 (Nat.le_of_ble_eq_true rfl) dX9_put_47 (fun H locs hP hD hS => ?_)
        refine lv_istore (lv' := [(4, .int q5), (0, .ref (ht 0)), (1, .int x1), (2, .int x2), (3, .int x3)]) hx hb dX9_put_50 hl (by decide) rfl (fun ls hl => ?_)
        refine lv_iload hx hb dX9_put_52 (lv_at hl 0 rfl) ?_
        refine z_if_eq (tgt := 64) hx hb dX9_put_54 (by decide) hf (fun hf => ?_) (fun hf => ?_)
        · refine lv_aload_n hx hb dX9_put_64 rfl (lv_at hl 1 rfl) ?_
          refine va_get (D := D) (ci := 5) (v := .ref (ht_history 0)) (C := RX9) (T := TX9) (N := 7) hx hb hts in_X9 hown hK hP 0 rfl rfl 3 (by decide) (hts _ q2_22) (fun _ h9 => h9) rfl dX9_put_65 ?_
          refine lv_aload_n hx hb dX9_put_68 rfl (lv_at hl 1 rfl) ?_
          refine va_get (D := D) (ci := 5) (v := .ref (ht_rows 0)) (C := RX9) (T := TX9) (N := 7) hx hb hts in_X9 hown hK hP 0 rfl rfl 1 (by decide) (hts _ q2_20) (fun _ h9 => h9) rfl dX9_put_69 ?_
          obtain ⟨q6, hc, hf⟩ := zbd hf
          refine z_cVvt (As := [.ref (ht_rows 0)]) (rest := []) C (c_X4_keep l D cy ht_rows ht_history ht_history_before ht_history_images gB gI St_rows St_history St_history_pool q6 hc) gV_X9_X4_keep hd_X4_keep ⟨Nat.le_of_ble_eq_true rfl, Nat.le_of_ble_eq_true rfl⟩ ⟨Nat.le_refl _, Nat.le_refl _⟩ (va_recv hK hP (ci := 1) (q0 := 9) rfl rfl) hP hD hS (w2 := wSR ht (ht_reader 0) (ht_rows 0) (ht_evidence 0) (ht_history 0) cy St ++ (wRows ht_rows cy St_rows ++ (wHi ht_history (ht_history_before 0) (ht_history_images 0) cy q6.1 ++ (wPool gB gI (ht_history_before 0) (ht_history_images 0) cy q6.2)))) (wSR ht (ht_reader 0) (ht_rows 0) (ht_evidence 0) (ht_history 0) cy St) rfl rfl hl.1 (Nat.le_of_ble_eq_true rfl) dX9_put_72 (fun H locs hP hD hS => ?_)
          refine lv_aload_n hx hb dX9_put_75 rfl (lv_at hl 1 rfl) ?_
          refine lv_aload_n hx hb dX9_put_76 rfl (lv_at hl 1 rfl) ?_
          refine va_get (D := D) (ci := 5) (v := .ref (ht_rows 0)) (C := RX9) (T := TX9) (N := 7) hx hb hts in_X9 hown hK hP 0 rfl rfl 1 (by decide) (hts _ q2_20) (fun _ h9 => h9) rfl dX9_put_77 ?_
          refine lv_iload_n hx hb dX9_put_80 rfl (lv_at hl 2 rfl) ?_
          refine lv_iload_n hx hb dX9_put_81 rfl (lv_at hl 3 rfl) ?_
          refine lv_iload_n hx hb dX9_put_82 rfl (lv_at hl 4 rfl) ?_
          obtain ⟨q7, hc, hf⟩ := zbd hf
          refine z_cVim (As := [.int x1, .int x2, .int x3]) (rest := [.ref (ht 0)]) C (c_X6_putValue l D cy ht_rows St_rows x1 x2 x3 q7 hc) gV_X9_X6_putValue hd_X6_putValue ⟨Nat.le_of_ble_eq_true rfl, Nat.le_of_ble_eq_true rfl⟩ ⟨Nat.le_refl _, Nat.le_refl _⟩ (va_recv hK hP (ci := 3) (q0 := 1) rfl rfl) hP hD hS (w2 := wSR ht (ht_reader 0) (ht_rows 0) (ht_evidence 0) (ht_history 0) cy St ++ (wRows ht_rows cy q7.2 ++ (wHi ht_history (ht_history_before 0) (ht_history_images 0) cy q6.1 ++ (wPool gB gI (ht_history_before 0) (ht_history_images 0) cy q6.2)))) (wSR ht (ht_reader 0) (ht_rows 0) (ht_evidence 0) (ht_history 0) cy St) (wHi ht_history (ht_history_before 0) (ht_history_images 0) cy q6.1 ++ (wPool gB gI (ht_history_before 0) (ht_history_images 0) cy q6.2)) rfl rfl hl.1 (Nat.le_of_ble_eq_true rfl) dX9_put_83 (fun H locs hP hD hS => ?_)
          obtain ⟨q8, hc, hf⟩ := zbd hf
          refine z_cVim (As := [.int q7.1]) (rest := []) C (c_X9_answer l D cy ht ht_reader ht_rows ht_evidence ht_history St q7.1 q8 hc) gV_X9_X9_answer hd_X9_answer ⟨Nat.le_of_ble_eq_true rfl, Nat.le_of_ble_eq_true rfl⟩ ⟨Nat.le_refl _, Nat.le_refl _⟩ (va_recv hK hP (ci := 5) (q0 := 0) rfl rfl) hP hD hS (w2 := wSR ht (ht_reader 0) (ht_rows 0) (ht_evidence 0) (ht_history 0) cy q8.2 ++ (wRows ht_rows cy q7.2 ++ (wHi ht_history (ht_history_before 0) (ht_history_images 0) cy q6.1 ++ (wPool gB gI (ht_history_before 0) (ht_history_images 0) cy q6.2)))) [] (wRows ht_rows cy q7.2 ++ (wHi ht_history (ht_history_before 0) (ht_history_images 0) cy q6.1 ++ (wPool gB gI (ht_history_before 0) (ht_history_images 0) cy q6.2))) rfl rfl hl.1 (Nat.le_of_ble_eq_true rfl) dX9_put_86 (fun H locs hP hD hS => ?_)
          obtain rfl := Option.some.inj hf
          exact z_iret (v := q8.1) C hP hD hS dX9_put_89
        · refine lv_aload_n hx hb dX9_put_57 rfl (lv_at hl 1 rfl) ?_
          refine lv_iload hx hb dX9_put_58 (lv_at hl 0 rfl) ?_
          obtain ⟨q9, hc, hf⟩ := zbd hf
          refine z_cVim (As := [.int q5]) (rest := []) C (c_X9_refuse l D cy ht ht_reader ht_rows ht_evidence ht_history St q5 q9 hc) gV_X9_X9_refuse hd_X9_refuse ⟨Nat.le_of_ble_eq_true rfl, Nat.le_of_ble_eq_true rfl⟩ ⟨Nat.le_refl _, Nat.le_refl _⟩ (va_recv hK hP (ci := 5) (q0 := 0) rfl rfl) hP hD hS (w2 := wSR ht (ht_reader 0) (ht_rows 0) (ht_evidence 0) (ht_history 0) cy q9.2 ++ (wRows ht_rows cy St_rows ++ (wHi ht_history (ht_history_before 0) (ht_history_images 0) cy St_history ++ (wPool gB gI (ht_history_before 0) (ht_history_images 0) cy St_history_pool)))) [] (wRows ht_rows cy St_rows ++ (wHi ht_history (ht_history_before 0) (ht_history_images 0) cy St_history ++ (wPool gB gI (ht_history_before 0) (ht_history_images 0) cy St_history_pool))) rfl rfl hl.1 (Nat.le_of_ble_eq_true rfl) dX9_put_60 (fun H locs hP hD hS => ?_)
          obtain rfl := Option.some.inj hf
          exact z_iret (v := q9.1) C hP hD hS dX9_put_63
      · refine lv_aload_n hx hb dX9_put_35 rfl (lv_at hl 0 rfl) ?_
        refine lv_iconst (v := (2 : Int32)) hx hb dX9_put_36 (by decide) ?_
        obtain ⟨q10, hc, hf⟩ := zbd hf
        refine z_cVim (As := [.int (2 : Int32)]) (rest := []) C (c_X9_refuse l D cy ht ht_reader ht_rows ht_evidence ht_history St (2 : Int32) q10 hc) gV_X9_X9_refuse hd_X9_refuse ⟨Nat.le_of_ble_eq_true rfl, Nat.le_of_ble_eq_true rfl⟩ ⟨Nat.le_refl _, Nat.le_refl _⟩ (va_recv hK hP (ci := 5) (q0 := 0) rfl rfl) hP hD hS (w2 := wSR ht (ht_reader 0) (ht_rows 0) (ht_evidence 0) (ht_history 0) cy q10.2 ++ (wRows ht_rows cy St_rows ++ (wHi ht_history (ht_history_before 0) (ht_history_images 0) cy St_history ++ (wPool gB gI (ht_history_before 0) (ht_history_images 0) cy St_history_pool)))) [] (wRows ht_rows cy St_rows ++ (wHi ht_history (ht_history_before 0) (ht_history_images 0) cy St_history ++ (wPool gB gI (ht_history_before 0) (ht_history_images 0) cy St_history_pool))) rfl rfl hl.1 (Nat.le_of_ble_eq_true rfl) dX9_put_37 (fun H locs hP hD hS => ?_)
        obtain rfl := Option.some.inj hf
        exact z_iret (v := q10.1) C hP hD hS dX9_put_40
    · refine lv_aload_n hx hb dX9_put_22 rfl (lv_at hl 0 rfl) ?_
      refine lv_iconst (v := (1 : Int32)) hx hb dX9_put_23 (by decide) ?_
      obtain ⟨q11, hc, hf⟩ := zbd hf
      refine z_cVim (As := [.int (1 : Int32)]) (rest := []) C (c_X9_refuse l D cy ht ht_reader ht_rows ht_evidence ht_history St (1 : Int32) q11 hc) gV_X9_X9_refuse hd_X9_refuse ⟨Nat.le_of_ble_eq_true rfl, Nat.le_of_ble_eq_true rfl⟩ ⟨Nat.le_refl _, Nat.le_refl _⟩ (va_recv hK hP (ci := 5) (q0 := 0) rfl rfl) hP hD hS (w2 := wSR ht (ht_reader 0) (ht_rows 0) (ht_evidence 0) (ht_history 0) cy q11.2 ++ (wRows ht_rows cy St_rows ++ (wHi ht_history (ht_history_before 0) (ht_history_images 0) cy St_history ++ (wPool gB gI (ht_history_before 0) (ht_history_images 0) cy St_history_pool)))) [] (wRows ht_rows cy St_rows ++ (wHi ht_history (ht_history_before 0) (ht_history_images 0) cy St_history ++ (wPool gB gI (ht_history_before 0) (ht_history_images 0) cy St_history_pool))) rfl rfl hl.1 (Nat.le_of_ble_eq_true rfl) dX9_put_24 (fun H locs hP hD hS => ?_)
      obtain rfl := Option.some.inj hf
      exact z_iret (v := q11.1) C hP hD hS dX9_put_27
def f_X9_drop (St : SSR) (St_rows : SRows) (St_history : SHi) (St_history_pool : SPool) (x1 : Int32) (x2 : Int32) : Option (Int32 × SSR × SRows × SHi × SPool) :=
  (f_X6_runs St_rows x1).bind (fun q1 =>
    (if q1 = 0 then
      (f_X9_refuse St (1 : Int32)).bind (fun q2 =>
        some (q2.1, q2.2, St_rows, St_history, St_history_pool))
      else
      (f_X6_isRow St_rows x2).bind (fun q3 =>
        (if q3 = 0 then
          (f_X9_refuse St (1 : Int32)).bind (fun q9 =>
            some (q9.1, q9.2, St_rows, St_history, St_history_pool))
          else
          (f_X6_dropTrouble St_rows x1 x2).bind (fun q4 =>
            (if q4 = 0 then
              (f_X4_keep St_rows St_history St_history_pool).bind (fun q5 =>
                (f_X6_dropValue St_rows x1 x2).bind (fun q6 =>
                  (f_X9_answer St q6.1).bind (fun q7 =>
                    some (q7.1, q7.2, q6.2, q5.1, q5.2))))
              else
              (f_X9_refuse St q4).bind (fun q8 =>
                some (q8.1, q8.2, St_rows, St_history, St_history_pool))))))))
set_option maxHeartbeats 4000000 in
set_option maxRecDepth 100000 in
theorem c_X9_drop (l : Launch) (D : va_G) (cy : Nat → ClassId) (ht : Nat → Nat) (ht_reader : Nat → Nat) (ht_rows : Nat → Nat) (ht_evidence : Nat → Nat) (ht_history : Nat → Nat) (ht_history_before : Nat → Nat) (ht_history_images : Nat → Nat) (gB : Nat → Nat → Nat) (gI : Nat → Nat → Nat) (St : SSR) (St_rows : SRows) (St_history : SHi) (St_history_pool : SPool) (x1 : Int32) (x2 : Int32) (r : Int32 × SSR × SRows × SHi × SPool) (hf : f_X9_drop St St_rows St_history St_history_pool x1 x2 = some r) : zCI l yX9_drop cX9_drop 4 (some FieldType.int) 5 120 D (zty cy) [.ref (ht 0), .int x1, .int x2] (wSR ht (ht_reader 0) (ht_rows 0) (ht_evidence 0) (ht_history 0) cy St ++ (wRows ht_rows cy St_rows ++ (wHi ht_history (ht_history_before 0) (ht_history_images 0) cy St_history ++ (wPool gB gI (ht_history_before 0) (ht_history_images 0) cy St_history_pool)))) (wSR ht (ht_reader 0) (ht_rows 0) (ht_evidence 0) (ht_history 0) cy r.2.1 ++ (wRows ht_rows cy r.2.2.1 ++ (wHi ht_history (ht_history_before 0) (ht_history_images 0) cy r.2.2.2.1 ++ (wPool gB gI (ht_history_before 0) (ht_history_images 0) cy r.2.2.2.2)))) r.1 := by
  refine zCI_of (by decide +kernel) (Nat.le_of_ble_eq_true rfl) ?_
  intro p e s m below meth c A ls C hP hD hS hl
  generalize hargs : ([.ref (ht 0), .int x1, .int x2] : List Value).toArray = args at C ⊢
  have C : zX p s m meth c cX9_drop 4 args RX9 (some FieldType.int) A D (zty cy) := C
  obtain ⟨hx, hb, hr, hts, hown, hlocks, hml, hA, hK⟩ := id C
  have hl : lv_has ls 4 [(0, .ref (ht 0)), (1, .int x1), (2, .int x2)] := hl
  generalize hH : s.heap = H at hP ⊢
  have hS : va_S A s.heap H [] := by rw [← hH]; exact hS
  generalize ([] : List Loc) = locs at hS ⊢
  refine lv_aload_n hx hb dX9_drop_0 rfl (lv_at hl 0 rfl) ?_
  refine va_get (D := D) (ci := 5) (v := .ref (ht_rows 0)) (C := RX9) (T := TX9) (N := 7) hx hb hts in_X9 hown hK hP 0 rfl rfl 1 (by decide) (hts _ q2_20) (fun _ h9 => h9) rfl dX9_drop_1 ?_
  refine lv_iload_n hx hb dX9_drop_4 rfl (lv_at hl 1 rfl) ?_
  obtain ⟨q1, hc, hf⟩ := zbd hf
  refine z_cVim (As := [.int x1]) (rest := []) C (c_X6_runs l D cy ht_rows St_rows x1 q1 hc) gV_X9_X6_runs hd_X6_runs ⟨Nat.le_of_ble_eq_true rfl, Nat.le_of_ble_eq_true rfl⟩ ⟨Nat.le_refl _, Nat.le_refl _⟩ (va_recv hK hP (ci := 3) (q0 := 1) rfl rfl) hP hD hS (w2 := wSR ht (ht_reader 0) (ht_rows 0) (ht_evidence 0) (ht_history 0) cy St ++ (wRows ht_rows cy St_rows ++ (wHi ht_history (ht_history_before 0) (ht_history_images 0) cy St_history ++ (wPool gB gI (ht_history_before 0) (ht_history_images 0) cy St_history_pool)))) (wSR ht (ht_reader 0) (ht_rows 0) (ht_evidence 0) (ht_history 0) cy St) (wHi ht_history (ht_history_before 0) (ht_history_images 0) cy St_history ++ (wPool gB gI (ht_history_before 0) (ht_history_images 0) cy St_history_pool)) rfl rfl hl.1 (Nat.le_of_ble_eq_true rfl) dX9_drop_5 (fun H locs hP hD hS => ?_)
  refine z_if_eq (tgt := 22) hx hb dX9_drop_8 (by decide) hf (fun hf => ?_) (fun hf => ?_)
  · refine lv_aload_n hx hb dX9_drop_22 rfl (lv_at hl 0 rfl) ?_
    refine lv_iconst (v := (1 : Int32)) hx hb dX9_drop_23 (by decide) ?_
    obtain ⟨q2, hc, hf⟩ := zbd hf
    refine z_cVim (As := [.int (1 : Int32)]) (rest := []) C (c_X9_refuse l D cy ht ht_reader ht_rows ht_evidence ht_history St (1 : Int32) q2 hc) gV_X9_X9_refuse hd_X9_refuse ⟨Nat.le_of_ble_eq_true rfl, Nat.le_of_ble_eq_true rfl⟩ ⟨Nat.le_refl _, Nat.le_refl _⟩ (va_recv hK hP (ci := 5) (q0 := 0) rfl rfl) hP hD hS (w2 := wSR ht (ht_reader 0) (ht_rows 0) (ht_evidence 0) (ht_history 0) cy q2.2 ++ (wRows ht_rows cy St_rows ++ (wHi ht_history (ht_history_before 0) (ht_history_images 0) cy St_history ++ (wPool gB gI (ht_history_before 0) (ht_history_images 0) cy St_history_pool)))) [] (wRows ht_rows cy St_rows ++ (wHi ht_history (ht_history_before 0) (ht_history_images 0) cy St_history ++ (wPool gB gI (ht_history_before 0) (ht_history_images 0) cy St_history_pool))) rfl rfl hl.1 (Nat.le_of_ble_eq_true rfl) dX9_drop_24 (fun H locs hP hD hS => ?_)
    obtain rfl := Option.some.inj hf
    exact z_iret (v := q2.1) C hP hD hS dX9_drop_27
  · refine lv_aload_n hx hb dX9_drop_11 rfl (lv_at hl 0 rfl) ?_
    refine va_get (D := D) (ci := 5) (v := .ref (ht_rows 0)) (C := RX9) (T := TX9) (N := 7) hx hb hts in_X9 hown hK hP 0 rfl rfl 1 (by decide) (hts _ q2_20) (fun _ h9 => h9) rfl dX9_drop_12 ?_
    refine lv_iload_n hx hb dX9_drop_15 rfl (lv_at hl 2 rfl) ?_
    obtain ⟨q3, hc, hf⟩ := zbd hf
    refine z_cVim (As := [.int x2]) (rest := []) C (c_X6_isRow l D cy ht_rows St_rows x2 q3 hc) gV_X9_X6_isRow hd_X6_isRow ⟨Nat.le_of_ble_eq_true rfl, Nat.le_of_ble_eq_true rfl⟩ ⟨Nat.le_refl _, Nat.le_refl _⟩ (va_recv hK hP (ci := 3) (q0 := 1) rfl rfl) hP hD hS (w2 := wSR ht (ht_reader 0) (ht_rows 0) (ht_evidence 0) (ht_history 0) cy St ++ (wRows ht_rows cy St_rows ++ (wHi ht_history (ht_history_before 0) (ht_history_images 0) cy St_history ++ (wPool gB gI (ht_history_before 0) (ht_history_images 0) cy St_history_pool)))) (wSR ht (ht_reader 0) (ht_rows 0) (ht_evidence 0) (ht_history 0) cy St) (wHi ht_history (ht_history_before 0) (ht_history_images 0) cy St_history ++ (wPool gB gI (ht_history_before 0) (ht_history_images 0) cy St_history_pool)) rfl rfl hl.1 (Nat.le_of_ble_eq_true rfl) dX9_drop_16 (fun H locs hP hD hS => ?_)
    refine z_if_ne (tgt := 28) hx hb dX9_drop_19 (by decide) hf (fun hf => ?_) (fun hf => ?_)
    · refine lv_aload_n hx hb dX9_drop_28 rfl (lv_at hl 0 rfl) ?_
      refine va_get (D := D) (ci := 5) (v := .ref (ht_rows 0)) (C := RX9) (T := TX9) (N := 7) hx hb hts in_X9 hown hK hP 0 rfl rfl 1 (by decide) (hts _ q2_20) (fun _ h9 => h9) rfl dX9_drop_29 ?_
      refine lv_iload_n hx hb dX9_drop_32 rfl (lv_at hl 1 rfl) ?_
      refine lv_iload_n hx hb dX9_drop_33 rfl (lv_at hl 2 rfl) ?_
      obtain ⟨q4, hc, hf⟩ := zbd hf
      refine z_cVim (As := [.int x1, .int x2]) (rest := []) C (c_X6_dropTrouble l D cy ht_rows St_rows x1 x2 q4 hc) gV_X9_X6_dropTrouble hd_X6_dropTrouble ⟨Nat.le_of_ble_eq_true rfl, Nat.le_of_ble_eq_true rfl⟩ ⟨Nat.le_refl _, Nat.le_refl _⟩ (va_recv hK hP (ci := 3) (q0 := 1) rfl rfl) hP hD hS (w2 := wSR ht (ht_reader 0) (ht_rows 0) (ht_evidence 0) (ht_history 0) cy St ++ (wRows ht_rows cy St_rows ++ (wHi ht_history (ht_history_before 0) (ht_history_images 0) cy St_history ++ (wPool gB gI (ht_history_before 0) (ht_history_images 0) cy St_history_pool)))) (wSR ht (ht_reader 0) (ht_rows 0) (ht_evidence 0) (ht_history 0) cy St) (wHi ht_history (ht_history_before 0) (ht_history_images 0) cy St_history ++ (wPool gB gI (ht_history_before 0) (ht_history_images 0) cy St_history_pool)) rfl rfl hl.1 (Nat.le_of_ble_eq_true rfl) dX9_drop_34 (fun H locs hP hD hS => ?_)
      refine lv_istore_n (lv' := [(3, .int q4), (0, .ref (ht 0)), (1, .int x1), (2, .int x2)]) hx hb dX9_drop_37 rfl hl (by decide) rfl (fun ls hl => ?_)
      refine lv_iload_n hx hb dX9_drop_38 rfl (lv_at hl 0 rfl) ?_
      refine z_if_eq (tgt := 48) hx hb dX9_drop_39 (by decide) hf (fun hf => ?_) (fun hf => ?_)
      · refine lv_aload_n hx hb dX9_drop_48 rfl (lv_at hl 1 rfl) ?_
        refine va_get (D := D) (ci := 5) (v := .ref (ht_history 0)) (C := RX9) (T := TX9) (N := 7) hx hb hts in_X9 hown hK hP 0 rfl rfl 3 (by decide) (hts _ q2_22) (fun _ h9 => h9) rfl dX9_drop_49 ?_
        refine lv_aload_n hx hb dX9_drop_52 rfl (lv_at hl 1 rfl) ?_
        refine va_get (D := D) (ci := 5) (v := .ref (ht_rows 0)) (C := RX9) (T := TX9) (N := 7) hx hb hts in_X9 hown hK hP 0 rfl rfl 1 (by decide) (hts _ q2_20) (fun _ h9 => h9) rfl dX9_drop_53 ?_
        obtain ⟨q5, hc, hf⟩ := zbd hf
        refine z_cVvt (As := [.ref (ht_rows 0)]) (rest := []) C (c_X4_keep l D cy ht_rows ht_history ht_history_before ht_history_images gB gI St_rows St_history St_history_pool q5 hc) gV_X9_X4_keep hd_X4_keep ⟨Nat.le_of_ble_eq_true rfl, Nat.le_of_ble_eq_true rfl⟩ ⟨Nat.le_refl _, Nat.le_refl _⟩ (va_recv hK hP (ci := 1) (q0 := 9) rfl rfl) hP hD hS (w2 := wSR ht (ht_reader 0) (ht_rows 0) (ht_evidence 0) (ht_history 0) cy St ++ (wRows ht_rows cy St_rows ++ (wHi ht_history (ht_history_before 0) (ht_history_images 0) cy q5.1 ++ (wPool gB gI (ht_history_before 0) (ht_history_images 0) cy q5.2)))) (wSR ht (ht_reader 0) (ht_rows 0) (ht_evidence 0) (ht_history 0) cy St) rfl rfl hl.1 (Nat.le_of_ble_eq_true rfl) dX9_drop_56 (fun H locs hP hD hS => ?_)
        refine lv_aload_n hx hb dX9_drop_59 rfl (lv_at hl 1 rfl) ?_
        refine lv_aload_n hx hb dX9_drop_60 rfl (lv_at hl 1 rfl) ?_
        refine va_get (D := D) (ci := 5) (v := .ref (ht_rows 0)) (C := RX9) (T := TX9) (N := 7) hx hb hts in_X9 hown hK hP 0 rfl rfl 1 (by decide) (hts _ q2_20) (fun _ h9 => h9) rfl dX9_drop_61 ?_
        refine lv_iload_n hx hb dX9_drop_64 rfl (lv_at hl 2 rfl) ?_
        refine lv_iload_n hx hb dX9_drop_65 rfl (lv_at hl 3 rfl) ?_
        obtain ⟨q6, hc, hf⟩ := zbd hf
        refine z_cVim (As := [.int x1, .int x2]) (rest := [.ref (ht 0)]) C (c_X6_dropValue l D cy ht_rows St_rows x1 x2 q6 hc) gV_X9_X6_dropValue hd_X6_dropValue ⟨Nat.le_of_ble_eq_true rfl, Nat.le_of_ble_eq_true rfl⟩ ⟨Nat.le_refl _, Nat.le_refl _⟩ (va_recv hK hP (ci := 3) (q0 := 1) rfl rfl) hP hD hS (w2 := wSR ht (ht_reader 0) (ht_rows 0) (ht_evidence 0) (ht_history 0) cy St ++ (wRows ht_rows cy q6.2 ++ (wHi ht_history (ht_history_before 0) (ht_history_images 0) cy q5.1 ++ (wPool gB gI (ht_history_before 0) (ht_history_images 0) cy q5.2)))) (wSR ht (ht_reader 0) (ht_rows 0) (ht_evidence 0) (ht_history 0) cy St) (wHi ht_history (ht_history_before 0) (ht_history_images 0) cy q5.1 ++ (wPool gB gI (ht_history_before 0) (ht_history_images 0) cy q5.2)) rfl rfl hl.1 (Nat.le_of_ble_eq_true rfl) dX9_drop_66 (fun H locs hP hD hS => ?_)
        obtain ⟨q7, hc, hf⟩ := zbd hf
        refine z_cVim (As := [.int q6.1]) (rest := []) C (c_X9_answer l D cy ht ht_reader ht_rows ht_evidence ht_history St q6.1 q7 hc) gV_X9_X9_answer hd_X9_answer ⟨Nat.le_of_ble_eq_true rfl, Nat.le_of_ble_eq_true rfl⟩ ⟨Nat.le_refl _, Nat.le_refl _⟩ (va_recv hK hP (ci := 5) (q0 := 0) rfl rfl) hP hD hS (w2 := wSR ht (ht_reader 0) (ht_rows 0) (ht_evidence 0) (ht_history 0) cy q7.2 ++ (wRows ht_rows cy q6.2 ++ (wHi ht_history (ht_history_before 0) (ht_history_images 0) cy q5.1 ++ (wPool gB gI (ht_history_before 0) (ht_history_images 0) cy q5.2)))) [] (wRows ht_rows cy q6.2 ++ (wHi ht_history (ht_history_before 0) (ht_history_images 0) cy q5.1 ++ (wPool gB gI (ht_history_before 0) (ht_history_images 0) cy q5.2))) rfl rfl hl.1 (Nat.le_of_ble_eq_true rfl) dX9_drop_69 (fun H locs hP hD hS => ?_)
        obtain rfl := Option.some.inj hf
        exact z_iret (v := q7.1) C hP hD hS dX9_drop_72
      · refine lv_aload_n hx hb dX9_drop_42 rfl (lv_at hl 1 rfl) ?_
        refine lv_iload_n hx hb dX9_drop_43 rfl (lv_at hl 0 rfl) ?_
        obtain ⟨q8, hc, hf⟩ := zbd hf
        refine z_cVim (As := [.int q4]) (rest := []) C (c_X9_refuse l D cy ht ht_reader ht_rows ht_evidence ht_history St q4 q8 hc) gV_X9_X9_refuse hd_X9_refuse ⟨Nat.le_of_ble_eq_true rfl, Nat.le_of_ble_eq_true rfl⟩ ⟨Nat.le_refl _, Nat.le_refl _⟩ (va_recv hK hP (ci := 5) (q0 := 0) rfl rfl) hP hD hS (w2 := wSR ht (ht_reader 0) (ht_rows 0) (ht_evidence 0) (ht_history 0) cy q8.2 ++ (wRows ht_rows cy St_rows ++ (wHi ht_history (ht_history_before 0) (ht_history_images 0) cy St_history ++ (wPool gB gI (ht_history_before 0) (ht_history_images 0) cy St_history_pool)))) [] (wRows ht_rows cy St_rows ++ (wHi ht_history (ht_history_before 0) (ht_history_images 0) cy St_history ++ (wPool gB gI (ht_history_before 0) (ht_history_images 0) cy St_history_pool))) rfl rfl hl.1 (Nat.le_of_ble_eq_true rfl) dX9_drop_44 (fun H locs hP hD hS => ?_)
        obtain rfl := Option.some.inj hf
        exact z_iret (v := q8.1) C hP hD hS dX9_drop_47
    · refine lv_aload_n hx hb dX9_drop_22 rfl (lv_at hl 0 rfl) ?_
      refine lv_iconst (v := (1 : Int32)) hx hb dX9_drop_23 (by decide) ?_
      obtain ⟨q9, hc, hf⟩ := zbd hf
      refine z_cVim (As := [.int (1 : Int32)]) (rest := []) C (c_X9_refuse l D cy ht ht_reader ht_rows ht_evidence ht_history St (1 : Int32) q9 hc) gV_X9_X9_refuse hd_X9_refuse ⟨Nat.le_of_ble_eq_true rfl, Nat.le_of_ble_eq_true rfl⟩ ⟨Nat.le_refl _, Nat.le_refl _⟩ (va_recv hK hP (ci := 5) (q0 := 0) rfl rfl) hP hD hS (w2 := wSR ht (ht_reader 0) (ht_rows 0) (ht_evidence 0) (ht_history 0) cy q9.2 ++ (wRows ht_rows cy St_rows ++ (wHi ht_history (ht_history_before 0) (ht_history_images 0) cy St_history ++ (wPool gB gI (ht_history_before 0) (ht_history_images 0) cy St_history_pool)))) [] (wRows ht_rows cy St_rows ++ (wHi ht_history (ht_history_before 0) (ht_history_images 0) cy St_history ++ (wPool gB gI (ht_history_before 0) (ht_history_images 0) cy St_history_pool))) rfl rfl hl.1 (Nat.le_of_ble_eq_true rfl) dX9_drop_24 (fun H locs hP hD hS => ?_)
      obtain rfl := Option.some.inj hf
      exact z_iret (v := q9.1) C hP hD hS dX9_drop_27
def f_X9_done (St : SSR) (St_rows : SRows) (St_history : SHi) (St_history_pool : SPool) (x1 : Int32) : Option (Int32 × SSR × SRows × SHi × SPool) :=
  (f_X6_runs St_rows x1).bind (fun q1 =>
    (if q1 = 0 then
      (f_X9_refuse St (1 : Int32)).bind (fun q7 =>
        some (q7.1, q7.2, St_rows, St_history, St_history_pool))
      else
      (f_X6_hasLost St_rows x1).bind (fun q2 =>
        (if q2 = 0 then
          (f_X4_keep St_rows St_history St_history_pool).bind (fun q3 =>
            (f_X6_endWriter St_rows x1 (1 : Int32)).bind (fun q4 =>
              (f_X9_answer St q4.1).bind (fun q5 =>
                some (q5.1, q5.2, q4.2, q3.1, q3.2))))
          else
          (f_X9_refuse St (5 : Int32)).bind (fun q6 =>
            some (q6.1, q6.2, St_rows, St_history, St_history_pool))))))
set_option maxHeartbeats 4000000 in
set_option maxRecDepth 100000 in
theorem c_X9_done (l : Launch) (D : va_G) (cy : Nat → ClassId) (ht : Nat → Nat) (ht_reader : Nat → Nat) (ht_rows : Nat → Nat) (ht_evidence : Nat → Nat) (ht_history : Nat → Nat) (ht_history_before : Nat → Nat) (ht_history_images : Nat → Nat) (gB : Nat → Nat → Nat) (gI : Nat → Nat → Nat) (St : SSR) (St_rows : SRows) (St_history : SHi) (St_history_pool : SPool) (x1 : Int32) (r : Int32 × SSR × SRows × SHi × SPool) (hf : f_X9_done St St_rows St_history St_history_pool x1 = some r) : zCI l yX9_done cX9_done 2 (some FieldType.int) 3 82 D (zty cy) [.ref (ht 0), .int x1] (wSR ht (ht_reader 0) (ht_rows 0) (ht_evidence 0) (ht_history 0) cy St ++ (wRows ht_rows cy St_rows ++ (wHi ht_history (ht_history_before 0) (ht_history_images 0) cy St_history ++ (wPool gB gI (ht_history_before 0) (ht_history_images 0) cy St_history_pool)))) (wSR ht (ht_reader 0) (ht_rows 0) (ht_evidence 0) (ht_history 0) cy r.2.1 ++ (wRows ht_rows cy r.2.2.1 ++ (wHi ht_history (ht_history_before 0) (ht_history_images 0) cy r.2.2.2.1 ++ (wPool gB gI (ht_history_before 0) (ht_history_images 0) cy r.2.2.2.2)))) r.1 := by
  refine zCI_of (by decide +kernel) (Nat.le_of_ble_eq_true rfl) ?_
  intro p e s m below meth c A ls C hP hD hS hl
  generalize hargs : ([.ref (ht 0), .int x1] : List Value).toArray = args at C ⊢
  have C : zX p s m meth c cX9_done 2 args RX9 (some FieldType.int) A D (zty cy) := C
  obtain ⟨hx, hb, hr, hts, hown, hlocks, hml, hA, hK⟩ := id C
  have hl : lv_has ls 2 [(0, .ref (ht 0)), (1, .int x1)] := hl
  generalize hH : s.heap = H at hP ⊢
  have hS : va_S A s.heap H [] := by rw [← hH]; exact hS
  generalize ([] : List Loc) = locs at hS ⊢
  refine lv_aload_n hx hb dX9_done_0 rfl (lv_at hl 0 rfl) ?_
  refine va_get (D := D) (ci := 5) (v := .ref (ht_rows 0)) (C := RX9) (T := TX9) (N := 7) hx hb hts in_X9 hown hK hP 0 rfl rfl 1 (by decide) (hts _ q2_20) (fun _ h9 => h9) rfl dX9_done_1 ?_
  refine lv_iload_n hx hb dX9_done_4 rfl (lv_at hl 1 rfl) ?_
  obtain ⟨q1, hc, hf⟩ := zbd hf
  refine z_cVim (As := [.int x1]) (rest := []) C (c_X6_runs l D cy ht_rows St_rows x1 q1 hc) gV_X9_X6_runs hd_X6_runs ⟨Nat.le_of_ble_eq_true rfl, Nat.le_of_ble_eq_true rfl⟩ ⟨Nat.le_refl _, Nat.le_refl _⟩ (va_recv hK hP (ci := 3) (q0 := 1) rfl rfl) hP hD hS (w2 := wSR ht (ht_reader 0) (ht_rows 0) (ht_evidence 0) (ht_history 0) cy St ++ (wRows ht_rows cy St_rows ++ (wHi ht_history (ht_history_before 0) (ht_history_images 0) cy St_history ++ (wPool gB gI (ht_history_before 0) (ht_history_images 0) cy St_history_pool)))) (wSR ht (ht_reader 0) (ht_rows 0) (ht_evidence 0) (ht_history 0) cy St) (wHi ht_history (ht_history_before 0) (ht_history_images 0) cy St_history ++ (wPool gB gI (ht_history_before 0) (ht_history_images 0) cy St_history_pool)) rfl rfl hl.1 (Nat.le_of_ble_eq_true rfl) dX9_done_5 (fun H locs hP hD hS => ?_)
  refine z_if_ne (tgt := 17) hx hb dX9_done_8 (by decide) hf (fun hf => ?_) (fun hf => ?_)
  · refine lv_aload_n hx hb dX9_done_17 rfl (lv_at hl 0 rfl) ?_
    refine va_get (D := D) (ci := 5) (v := .ref (ht_rows 0)) (C := RX9) (T := TX9) (N := 7) hx hb hts in_X9 hown hK hP 0 rfl rfl 1 (by decide) (hts _ q2_20) (fun _ h9 => h9) rfl dX9_done_18 ?_
    refine lv_iload_n hx hb dX9_done_21 rfl (lv_at hl 1 rfl) ?_
    obtain ⟨q2, hc, hf⟩ := zbd hf
    refine z_cVim (As := [.int x1]) (rest := []) C (c_X6_hasLost l D cy ht_rows St_rows x1 q2 hc) gV_X9_X6_hasLost hd_X6_hasLost ⟨Nat.le_of_ble_eq_true rfl, Nat.le_of_ble_eq_true rfl⟩ ⟨Nat.le_refl _, Nat.le_refl _⟩ (va_recv hK hP (ci := 3) (q0 := 1) rfl rfl) hP hD hS (w2 := wSR ht (ht_reader 0) (ht_rows 0) (ht_evidence 0) (ht_history 0) cy St ++ (wRows ht_rows cy St_rows ++ (wHi ht_history (ht_history_before 0) (ht_history_images 0) cy St_history ++ (wPool gB gI (ht_history_before 0) (ht_history_images 0) cy St_history_pool)))) (wSR ht (ht_reader 0) (ht_rows 0) (ht_evidence 0) (ht_history 0) cy St) (wHi ht_history (ht_history_before 0) (ht_history_images 0) cy St_history ++ (wPool gB gI (ht_history_before 0) (ht_history_images 0) cy St_history_pool)) rfl rfl hl.1 (Nat.le_of_ble_eq_true rfl) dX9_done_22 (fun H locs hP hD hS => ?_)
    refine z_if_eq (tgt := 34) hx hb dX9_done_25 (by decide) hf (fun hf => ?_) (fun hf => ?_)
    · refine lv_aload_n hx hb dX9_done_34 rfl (lv_at hl 0 rfl) ?_
      refine va_get (D := D) (ci := 5) (v := .ref (ht_history 0)) (C := RX9) (T := TX9) (N := 7) hx hb hts in_X9 hown hK hP 0 rfl rfl 3 (by decide) (hts _ q2_22) (fun _ h9 => h9) rfl dX9_done_35 ?_
      refine lv_aload_n hx hb dX9_done_38 rfl (lv_at hl 0 rfl) ?_
      refine va_get (D := D) (ci := 5) (v := .ref (ht_rows 0)) (C := RX9) (T := TX9) (N := 7) hx hb hts in_X9 hown hK hP 0 rfl rfl 1 (by decide) (hts _ q2_20) (fun _ h9 => h9) rfl dX9_done_39 ?_
      obtain ⟨q3, hc, hf⟩ := zbd hf
      refine z_cVvt (As := [.ref (ht_rows 0)]) (rest := []) C (c_X4_keep l D cy ht_rows ht_history ht_history_before ht_history_images gB gI St_rows St_history St_history_pool q3 hc) gV_X9_X4_keep hd_X4_keep ⟨Nat.le_of_ble_eq_true rfl, Nat.le_of_ble_eq_true rfl⟩ ⟨Nat.le_refl _, Nat.le_refl _⟩ (va_recv hK hP (ci := 1) (q0 := 9) rfl rfl) hP hD hS (w2 := wSR ht (ht_reader 0) (ht_rows 0) (ht_evidence 0) (ht_history 0) cy St ++ (wRows ht_rows cy St_rows ++ (wHi ht_history (ht_history_before 0) (ht_history_images 0) cy q3.1 ++ (wPool gB gI (ht_history_before 0) (ht_history_images 0) cy q3.2)))) (wSR ht (ht_reader 0) (ht_rows 0) (ht_evidence 0) (ht_history 0) cy St) rfl rfl hl.1 (Nat.le_of_ble_eq_true rfl) dX9_done_42 (fun H locs hP hD hS => ?_)
      refine lv_aload_n hx hb dX9_done_45 rfl (lv_at hl 0 rfl) ?_
      refine lv_aload_n hx hb dX9_done_46 rfl (lv_at hl 0 rfl) ?_
      refine va_get (D := D) (ci := 5) (v := .ref (ht_rows 0)) (C := RX9) (T := TX9) (N := 7) hx hb hts in_X9 hown hK hP 0 rfl rfl 1 (by decide) (hts _ q2_20) (fun _ h9 => h9) rfl dX9_done_47 ?_
      refine lv_iload_n hx hb dX9_done_50 rfl (lv_at hl 1 rfl) ?_
      refine lv_iconst (v := (1 : Int32)) hx hb dX9_done_51 (by decide) ?_
      obtain ⟨q4, hc, hf⟩ := zbd hf
      refine z_cVim (As := [.int x1, .int (1 : Int32)]) (rest := [.ref (ht 0)]) C (c_X6_endWriter l D cy ht_rows St_rows x1 (1 : Int32) q4 hc) gV_X9_X6_endWriter hd_X6_endWriter ⟨Nat.le_of_ble_eq_true rfl, Nat.le_of_ble_eq_true rfl⟩ ⟨Nat.le_refl _, Nat.le_refl _⟩ (va_recv hK hP (ci := 3) (q0 := 1) rfl rfl) hP hD hS (w2 := wSR ht (ht_reader 0) (ht_rows 0) (ht_evidence 0) (ht_history 0) cy St ++ (wRows ht_rows cy q4.2 ++ (wHi ht_history (ht_history_before 0) (ht_history_images 0) cy q3.1 ++ (wPool gB gI (ht_history_before 0) (ht_history_images 0) cy q3.2)))) (wSR ht (ht_reader 0) (ht_rows 0) (ht_evidence 0) (ht_history 0) cy St) (wHi ht_history (ht_history_before 0) (ht_history_images 0) cy q3.1 ++ (wPool gB gI (ht_history_before 0) (ht_history_images 0) cy q3.2)) rfl rfl hl.1 (Nat.le_of_ble_eq_true rfl) dX9_done_52 (fun H locs hP hD hS => ?_)
      obtain ⟨q5, hc, hf⟩ := zbd hf
      refine z_cVim (As := [.int q4.1]) (rest := []) C (c_X9_answer l D cy ht ht_reader ht_rows ht_evidence ht_history St q4.1 q5 hc) gV_X9_X9_answer hd_X9_answer ⟨Nat.le_of_ble_eq_true rfl, Nat.le_of_ble_eq_true rfl⟩ ⟨Nat.le_refl _, Nat.le_refl _⟩ (va_recv hK hP (ci := 5) (q0 := 0) rfl rfl) hP hD hS (w2 := wSR ht (ht_reader 0) (ht_rows 0) (ht_evidence 0) (ht_history 0) cy q5.2 ++ (wRows ht_rows cy q4.2 ++ (wHi ht_history (ht_history_before 0) (ht_history_images 0) cy q3.1 ++ (wPool gB gI (ht_history_before 0) (ht_history_images 0) cy q3.2)))) [] (wRows ht_rows cy q4.2 ++ (wHi ht_history (ht_history_before 0) (ht_history_images 0) cy q3.1 ++ (wPool gB gI (ht_history_before 0) (ht_history_images 0) cy q3.2))) rfl rfl hl.1 (Nat.le_of_ble_eq_true rfl) dX9_done_55 (fun H locs hP hD hS => ?_)
      obtain rfl := Option.some.inj hf
      exact z_iret (v := q5.1) C hP hD hS dX9_done_58
    · refine lv_aload_n hx hb dX9_done_28 rfl (lv_at hl 0 rfl) ?_
      refine lv_iconst (v := (5 : Int32)) hx hb dX9_done_29 (by decide) ?_
      obtain ⟨q6, hc, hf⟩ := zbd hf
      refine z_cVim (As := [.int (5 : Int32)]) (rest := []) C (c_X9_refuse l D cy ht ht_reader ht_rows ht_evidence ht_history St (5 : Int32) q6 hc) gV_X9_X9_refuse hd_X9_refuse ⟨Nat.le_of_ble_eq_true rfl, Nat.le_of_ble_eq_true rfl⟩ ⟨Nat.le_refl _, Nat.le_refl _⟩ (va_recv hK hP (ci := 5) (q0 := 0) rfl rfl) hP hD hS (w2 := wSR ht (ht_reader 0) (ht_rows 0) (ht_evidence 0) (ht_history 0) cy q6.2 ++ (wRows ht_rows cy St_rows ++ (wHi ht_history (ht_history_before 0) (ht_history_images 0) cy St_history ++ (wPool gB gI (ht_history_before 0) (ht_history_images 0) cy St_history_pool)))) [] (wRows ht_rows cy St_rows ++ (wHi ht_history (ht_history_before 0) (ht_history_images 0) cy St_history ++ (wPool gB gI (ht_history_before 0) (ht_history_images 0) cy St_history_pool))) rfl rfl hl.1 (Nat.le_of_ble_eq_true rfl) dX9_done_30 (fun H locs hP hD hS => ?_)
      obtain rfl := Option.some.inj hf
      exact z_iret (v := q6.1) C hP hD hS dX9_done_33
  · refine lv_aload_n hx hb dX9_done_11 rfl (lv_at hl 0 rfl) ?_
    refine lv_iconst (v := (1 : Int32)) hx hb dX9_done_12 (by decide) ?_
    obtain ⟨q7, hc, hf⟩ := zbd hf
    refine z_cVim (As := [.int (1 : Int32)]) (rest := []) C (c_X9_refuse l D cy ht ht_reader ht_rows ht_evidence ht_history St (1 : Int32) q7 hc) gV_X9_X9_refuse hd_X9_refuse ⟨Nat.le_of_ble_eq_true rfl, Nat.le_of_ble_eq_true rfl⟩ ⟨Nat.le_refl _, Nat.le_refl _⟩ (va_recv hK hP (ci := 5) (q0 := 0) rfl rfl) hP hD hS (w2 := wSR ht (ht_reader 0) (ht_rows 0) (ht_evidence 0) (ht_history 0) cy q7.2 ++ (wRows ht_rows cy St_rows ++ (wHi ht_history (ht_history_before 0) (ht_history_images 0) cy St_history ++ (wPool gB gI (ht_history_before 0) (ht_history_images 0) cy St_history_pool)))) [] (wRows ht_rows cy St_rows ++ (wHi ht_history (ht_history_before 0) (ht_history_images 0) cy St_history ++ (wPool gB gI (ht_history_before 0) (ht_history_images 0) cy St_history_pool))) rfl rfl hl.1 (Nat.le_of_ble_eq_true rfl) dX9_done_13 (fun H locs hP hD hS => ?_)
    obtain rfl := Option.some.inj hf
    exact z_iret (v := q7.1) C hP hD hS dX9_done_16
def f_X9_gone (St : SSR) (St_rows : SRows) (St_history : SHi) (St_history_pool : SPool) (x1 : Int32) : Option (Int32 × SSR × SRows × SHi × SPool) :=
  (f_X6_runs St_rows x1).bind (fun q1 =>
    (if q1 = 0 then
      (f_X9_refuse St (1 : Int32)).bind (fun q5 =>
        some (q5.1, q5.2, St_rows, St_history, St_history_pool))
      else
      (f_X4_keep St_rows St_history St_history_pool).bind (fun q2 =>
        (f_X6_endWriter St_rows x1 (0 : Int32)).bind (fun q3 =>
          (f_X9_answer St q3.1).bind (fun q4 =>
            some (q4.1, q4.2, q3.2, q2.1, q2.2))))))
set_option maxHeartbeats 4000000 in
set_option maxRecDepth 100000 in
theorem c_X9_gone (l : Launch) (D : va_G) (cy : Nat → ClassId) (ht : Nat → Nat) (ht_reader : Nat → Nat) (ht_rows : Nat → Nat) (ht_evidence : Nat → Nat) (ht_history : Nat → Nat) (ht_history_before : Nat → Nat) (ht_history_images : Nat → Nat) (gB : Nat → Nat → Nat) (gI : Nat → Nat → Nat) (St : SSR) (St_rows : SRows) (St_history : SHi) (St_history_pool : SPool) (x1 : Int32) (r : Int32 × SSR × SRows × SHi × SPool) (hf : f_X9_gone St St_rows St_history St_history_pool x1 = some r) : zCI l yX9_gone cX9_gone 2 (some FieldType.int) 3 82 D (zty cy) [.ref (ht 0), .int x1] (wSR ht (ht_reader 0) (ht_rows 0) (ht_evidence 0) (ht_history 0) cy St ++ (wRows ht_rows cy St_rows ++ (wHi ht_history (ht_history_before 0) (ht_history_images 0) cy St_history ++ (wPool gB gI (ht_history_before 0) (ht_history_images 0) cy St_history_pool)))) (wSR ht (ht_reader 0) (ht_rows 0) (ht_evidence 0) (ht_history 0) cy r.2.1 ++ (wRows ht_rows cy r.2.2.1 ++ (wHi ht_history (ht_history_before 0) (ht_history_images 0) cy r.2.2.2.1 ++ (wPool gB gI (ht_history_before 0) (ht_history_images 0) cy r.2.2.2.2)))) r.1 := by
  refine zCI_of (by decide +kernel) (Nat.le_of_ble_eq_true rfl) ?_
  intro p e s m below meth c A ls C hP hD hS hl
  generalize hargs : ([.ref (ht 0), .int x1] : List Value).toArray = args at C ⊢
  have C : zX p s m meth c cX9_gone 2 args RX9 (some FieldType.int) A D (zty cy) := C
  obtain ⟨hx, hb, hr, hts, hown, hlocks, hml, hA, hK⟩ := id C
  have hl : lv_has ls 2 [(0, .ref (ht 0)), (1, .int x1)] := hl
  generalize hH : s.heap = H at hP ⊢
  have hS : va_S A s.heap H [] := by rw [← hH]; exact hS
  generalize ([] : List Loc) = locs at hS ⊢
  refine lv_aload_n hx hb dX9_gone_0 rfl (lv_at hl 0 rfl) ?_
  refine va_get (D := D) (ci := 5) (v := .ref (ht_rows 0)) (C := RX9) (T := TX9) (N := 7) hx hb hts in_X9 hown hK hP 0 rfl rfl 1 (by decide) (hts _ q2_20) (fun _ h9 => h9) rfl dX9_gone_1 ?_
  refine lv_iload_n hx hb dX9_gone_4 rfl (lv_at hl 1 rfl) ?_
  obtain ⟨q1, hc, hf⟩ := zbd hf
  refine z_cVim (As := [.int x1]) (rest := []) C (c_X6_runs l D cy ht_rows St_rows x1 q1 hc) gV_X9_X6_runs hd_X6_runs ⟨Nat.le_of_ble_eq_true rfl, Nat.le_of_ble_eq_true rfl⟩ ⟨Nat.le_refl _, Nat.le_refl _⟩ (va_recv hK hP (ci := 3) (q0 := 1) rfl rfl) hP hD hS (w2 := wSR ht (ht_reader 0) (ht_rows 0) (ht_evidence 0) (ht_history 0) cy St ++ (wRows ht_rows cy St_rows ++ (wHi ht_history (ht_history_before 0) (ht_history_images 0) cy St_history ++ (wPool gB gI (ht_history_before 0) (ht_history_images 0) cy St_history_pool)))) (wSR ht (ht_reader 0) (ht_rows 0) (ht_evidence 0) (ht_history 0) cy St) (wHi ht_history (ht_history_before 0) (ht_history_images 0) cy St_history ++ (wPool gB gI (ht_history_before 0) (ht_history_images 0) cy St_history_pool)) rfl rfl hl.1 (Nat.le_of_ble_eq_true rfl) dX9_gone_5 (fun H locs hP hD hS => ?_)
  refine z_if_ne (tgt := 17) hx hb dX9_gone_8 (by decide) hf (fun hf => ?_) (fun hf => ?_)
  · refine lv_aload_n hx hb dX9_gone_17 rfl (lv_at hl 0 rfl) ?_
    refine va_get (D := D) (ci := 5) (v := .ref (ht_history 0)) (C := RX9) (T := TX9) (N := 7) hx hb hts in_X9 hown hK hP 0 rfl rfl 3 (by decide) (hts _ q2_22) (fun _ h9 => h9) rfl dX9_gone_18 ?_
    refine lv_aload_n hx hb dX9_gone_21 rfl (lv_at hl 0 rfl) ?_
    refine va_get (D := D) (ci := 5) (v := .ref (ht_rows 0)) (C := RX9) (T := TX9) (N := 7) hx hb hts in_X9 hown hK hP 0 rfl rfl 1 (by decide) (hts _ q2_20) (fun _ h9 => h9) rfl dX9_gone_22 ?_
    obtain ⟨q2, hc, hf⟩ := zbd hf
    refine z_cVvt (As := [.ref (ht_rows 0)]) (rest := []) C (c_X4_keep l D cy ht_rows ht_history ht_history_before ht_history_images gB gI St_rows St_history St_history_pool q2 hc) gV_X9_X4_keep hd_X4_keep ⟨Nat.le_of_ble_eq_true rfl, Nat.le_of_ble_eq_true rfl⟩ ⟨Nat.le_refl _, Nat.le_refl _⟩ (va_recv hK hP (ci := 1) (q0 := 9) rfl rfl) hP hD hS (w2 := wSR ht (ht_reader 0) (ht_rows 0) (ht_evidence 0) (ht_history 0) cy St ++ (wRows ht_rows cy St_rows ++ (wHi ht_history (ht_history_before 0) (ht_history_images 0) cy q2.1 ++ (wPool gB gI (ht_history_before 0) (ht_history_images 0) cy q2.2)))) (wSR ht (ht_reader 0) (ht_rows 0) (ht_evidence 0) (ht_history 0) cy St) rfl rfl hl.1 (Nat.le_of_ble_eq_true rfl) dX9_gone_25 (fun H locs hP hD hS => ?_)
    refine lv_aload_n hx hb dX9_gone_28 rfl (lv_at hl 0 rfl) ?_
    refine lv_aload_n hx hb dX9_gone_29 rfl (lv_at hl 0 rfl) ?_
    refine va_get (D := D) (ci := 5) (v := .ref (ht_rows 0)) (C := RX9) (T := TX9) (N := 7) hx hb hts in_X9 hown hK hP 0 rfl rfl 1 (by decide) (hts _ q2_20) (fun _ h9 => h9) rfl dX9_gone_30 ?_
    refine lv_iload_n hx hb dX9_gone_33 rfl (lv_at hl 1 rfl) ?_
    refine lv_iconst (v := (0 : Int32)) hx hb dX9_gone_34 (by decide) ?_
    obtain ⟨q3, hc, hf⟩ := zbd hf
    refine z_cVim (As := [.int x1, .int (0 : Int32)]) (rest := [.ref (ht 0)]) C (c_X6_endWriter l D cy ht_rows St_rows x1 (0 : Int32) q3 hc) gV_X9_X6_endWriter hd_X6_endWriter ⟨Nat.le_of_ble_eq_true rfl, Nat.le_of_ble_eq_true rfl⟩ ⟨Nat.le_refl _, Nat.le_refl _⟩ (va_recv hK hP (ci := 3) (q0 := 1) rfl rfl) hP hD hS (w2 := wSR ht (ht_reader 0) (ht_rows 0) (ht_evidence 0) (ht_history 0) cy St ++ (wRows ht_rows cy q3.2 ++ (wHi ht_history (ht_history_before 0) (ht_history_images 0) cy q2.1 ++ (wPool gB gI (ht_history_before 0) (ht_history_images 0) cy q2.2)))) (wSR ht (ht_reader 0) (ht_rows 0) (ht_evidence 0) (ht_history 0) cy St) (wHi ht_history (ht_history_before 0) (ht_history_images 0) cy q2.1 ++ (wPool gB gI (ht_history_before 0) (ht_history_images 0) cy q2.2)) rfl rfl hl.1 (Nat.le_of_ble_eq_true rfl) dX9_gone_35 (fun H locs hP hD hS => ?_)
    obtain ⟨q4, hc, hf⟩ := zbd hf
    refine z_cVim (As := [.int q3.1]) (rest := []) C (c_X9_answer l D cy ht ht_reader ht_rows ht_evidence ht_history St q3.1 q4 hc) gV_X9_X9_answer hd_X9_answer ⟨Nat.le_of_ble_eq_true rfl, Nat.le_of_ble_eq_true rfl⟩ ⟨Nat.le_refl _, Nat.le_refl _⟩ (va_recv hK hP (ci := 5) (q0 := 0) rfl rfl) hP hD hS (w2 := wSR ht (ht_reader 0) (ht_rows 0) (ht_evidence 0) (ht_history 0) cy q4.2 ++ (wRows ht_rows cy q3.2 ++ (wHi ht_history (ht_history_before 0) (ht_history_images 0) cy q2.1 ++ (wPool gB gI (ht_history_before 0) (ht_history_images 0) cy q2.2)))) [] (wRows ht_rows cy q3.2 ++ (wHi ht_history (ht_history_before 0) (ht_history_images 0) cy q2.1 ++ (wPool gB gI (ht_history_before 0) (ht_history_images 0) cy q2.2))) rfl rfl hl.1 (Nat.le_of_ble_eq_true rfl) dX9_gone_38 (fun H locs hP hD hS => ?_)
    obtain rfl := Option.some.inj hf
    exact z_iret (v := q4.1) C hP hD hS dX9_gone_41
  · refine lv_aload_n hx hb dX9_gone_11 rfl (lv_at hl 0 rfl) ?_
    refine lv_iconst (v := (1 : Int32)) hx hb dX9_gone_12 (by decide) ?_
    obtain ⟨q5, hc, hf⟩ := zbd hf
    refine z_cVim (As := [.int (1 : Int32)]) (rest := []) C (c_X9_refuse l D cy ht ht_reader ht_rows ht_evidence ht_history St (1 : Int32) q5 hc) gV_X9_X9_refuse hd_X9_refuse ⟨Nat.le_of_ble_eq_true rfl, Nat.le_of_ble_eq_true rfl⟩ ⟨Nat.le_refl _, Nat.le_refl _⟩ (va_recv hK hP (ci := 5) (q0 := 0) rfl rfl) hP hD hS (w2 := wSR ht (ht_reader 0) (ht_rows 0) (ht_evidence 0) (ht_history 0) cy q5.2 ++ (wRows ht_rows cy St_rows ++ (wHi ht_history (ht_history_before 0) (ht_history_images 0) cy St_history ++ (wPool gB gI (ht_history_before 0) (ht_history_images 0) cy St_history_pool)))) [] (wRows ht_rows cy St_rows ++ (wHi ht_history (ht_history_before 0) (ht_history_images 0) cy St_history ++ (wPool gB gI (ht_history_before 0) (ht_history_images 0) cy St_history_pool))) rfl rfl hl.1 (Nat.le_of_ble_eq_true rfl) dX9_gone_13 (fun H locs hP hD hS => ?_)
    obtain rfl := Option.some.inj hf
    exact z_iret (v := q5.1) C hP hD hS dX9_gone_16
def f_X9_clear (St : SSR) (St_rows : SRows) (St_history : SHi) (St_history_pool : SPool) : Option (Int32 × SSR × SRows × SHi × SPool) :=
  (f_X9_hasStore St St_rows).bind (fun q1 =>
    (if q1 = 0 then
      (f_X9_refuse St (1 : Int32)).bind (fun q7 =>
        some (q7.1, q7.2, St_rows, St_history, St_history_pool))
      else
      (f_X6_countDeadWithout St_rows (-2 : Int32)).bind (fun q2 =>
        (if q2 = 0 then
          (f_X9_refuse St (6 : Int32)).bind (fun q6 =>
            some (q6.1, q6.2, St_rows, St_history, St_history_pool))
          else
          (f_X4_keep St_rows St_history St_history_pool).bind (fun q3 =>
            (f_X6_clearDead St_rows).bind (fun q4 =>
              (f_X9_answer St q4.1).bind (fun q5 =>
                some (q5.1, q5.2, q4.2, q3.1, q3.2))))))))
set_option maxHeartbeats 4000000 in
set_option maxRecDepth 100000 in
theorem c_X9_clear (l : Launch) (D : va_G) (cy : Nat → ClassId) (ht : Nat → Nat) (ht_reader : Nat → Nat) (ht_rows : Nat → Nat) (ht_evidence : Nat → Nat) (ht_history : Nat → Nat) (ht_history_before : Nat → Nat) (ht_history_images : Nat → Nat) (gB : Nat → Nat → Nat) (gI : Nat → Nat → Nat) (St : SSR) (St_rows : SRows) (St_history : SHi) (St_history_pool : SPool) (r : Int32 × SSR × SRows × SHi × SPool) (hf : f_X9_clear St St_rows St_history St_history_pool = some r) : zCI l yX9_clear cX9_clear 1 (some FieldType.int) 4 97 D (zty cy) [.ref (ht 0)] (wSR ht (ht_reader 0) (ht_rows 0) (ht_evidence 0) (ht_history 0) cy St ++ (wRows ht_rows cy St_rows ++ (wHi ht_history (ht_history_before 0) (ht_history_images 0) cy St_history ++ (wPool gB gI (ht_history_before 0) (ht_history_images 0) cy St_history_pool)))) (wSR ht (ht_reader 0) (ht_rows 0) (ht_evidence 0) (ht_history 0) cy r.2.1 ++ (wRows ht_rows cy r.2.2.1 ++ (wHi ht_history (ht_history_before 0) (ht_history_images 0) cy r.2.2.2.1 ++ (wPool gB gI (ht_history_before 0) (ht_history_images 0) cy r.2.2.2.2)))) r.1 := by
  refine zCI_of (by decide +kernel) (Nat.le_of_ble_eq_true rfl) ?_
  intro p e s m below meth c A ls C hP hD hS hl
  generalize hargs : ([.ref (ht 0)] : List Value).toArray = args at C ⊢
  have C : zX p s m meth c cX9_clear 1 args RX9 (some FieldType.int) A D (zty cy) := C
  obtain ⟨hx, hb, hr, hts, hown, hlocks, hml, hA, hK⟩ := id C
  have hl : lv_has ls 1 [(0, .ref (ht 0))] := hl
  generalize hH : s.heap = H at hP ⊢
  have hS : va_S A s.heap H [] := by rw [← hH]; exact hS
  generalize ([] : List Loc) = locs at hS ⊢
  refine lv_aload_n hx hb dX9_clear_0 rfl (lv_at hl 0 rfl) ?_
  obtain ⟨q1, hc, hf⟩ := zbd hf
  refine z_cVim (As := []) (rest := []) C (c_X9_hasStore l D cy ht ht_reader ht_rows ht_evidence ht_history St St_rows q1 hc) gV_X9_X9_hasStore hd_X9_hasStore ⟨Nat.le_of_ble_eq_true rfl, Nat.le_of_ble_eq_true rfl⟩ ⟨Nat.le_refl _, Nat.le_refl _⟩ (va_recv hK hP (ci := 5) (q0 := 0) rfl rfl) hP hD hS (w2 := wSR ht (ht_reader 0) (ht_rows 0) (ht_evidence 0) (ht_history 0) cy St ++ (wRows ht_rows cy St_rows ++ (wHi ht_history (ht_history_before 0) (ht_history_images 0) cy St_history ++ (wPool gB gI (ht_history_before 0) (ht_history_images 0) cy St_history_pool)))) [] (wHi ht_history (ht_history_before 0) (ht_history_images 0) cy St_history ++ (wPool gB gI (ht_history_before 0) (ht_history_images 0) cy St_history_pool)) rfl rfl hl.1 (Nat.le_of_ble_eq_true rfl) dX9_clear_1 (fun H locs hP hD hS => ?_)
  refine z_if_ne (tgt := 13) hx hb dX9_clear_4 (by decide) hf (fun hf => ?_) (fun hf => ?_)
  · refine lv_aload_n hx hb dX9_clear_13 rfl (lv_at hl 0 rfl) ?_
    refine va_get (D := D) (ci := 5) (v := .ref (ht_rows 0)) (C := RX9) (T := TX9) (N := 7) hx hb hts in_X9 hown hK hP 0 rfl rfl 1 (by decide) (hts _ q2_20) (fun _ h9 => h9) rfl dX9_clear_14 ?_
    refine lv_bipush (v := (-2 : Int32)) hx hb dX9_clear_17 (by decide) ?_
    obtain ⟨q2, hc, hf⟩ := zbd hf
    refine z_cVim (As := [.int (-2 : Int32)]) (rest := []) C (c_X6_countDeadWithout l D cy ht_rows St_rows (-2 : Int32) q2 hc) gV_X9_X6_countDeadWithout hd_X6_countDeadWithout ⟨Nat.le_of_ble_eq_true rfl, Nat.le_of_ble_eq_true rfl⟩ ⟨Nat.le_refl _, Nat.le_refl _⟩ (va_recv hK hP (ci := 3) (q0 := 1) rfl rfl) hP hD hS (w2 := wSR ht (ht_reader 0) (ht_rows 0) (ht_evidence 0) (ht_history 0) cy St ++ (wRows ht_rows cy St_rows ++ (wHi ht_history (ht_history_before 0) (ht_history_images 0) cy St_history ++ (wPool gB gI (ht_history_before 0) (ht_history_images 0) cy St_history_pool)))) (wSR ht (ht_reader 0) (ht_rows 0) (ht_evidence 0) (ht_history 0) cy St) (wHi ht_history (ht_history_before 0) (ht_history_images 0) cy St_history ++ (wPool gB gI (ht_history_before 0) (ht_history_images 0) cy St_history_pool)) rfl rfl hl.1 (Nat.le_of_ble_eq_true rfl) dX9_clear_19 (fun H locs hP hD hS => ?_)
    refine z_if_ne (tgt := 32) hx hb dX9_clear_22 (by decide) hf (fun hf => ?_) (fun hf => ?_)
    · refine lv_aload_n hx hb dX9_clear_32 rfl (lv_at hl 0 rfl) ?_
      refine va_get (D := D) (ci := 5) (v := .ref (ht_history 0)) (C := RX9) (T := TX9) (N := 7) hx hb hts in_X9 hown hK hP 0 rfl rfl 3 (by decide) (hts _ q2_22) (fun _ h9 => h9) rfl dX9_clear_33 ?_
      refine lv_aload_n hx hb dX9_clear_36 rfl (lv_at hl 0 rfl) ?_
      refine va_get (D := D) (ci := 5) (v := .ref (ht_rows 0)) (C := RX9) (T := TX9) (N := 7) hx hb hts in_X9 hown hK hP 0 rfl rfl 1 (by decide) (hts _ q2_20) (fun _ h9 => h9) rfl dX9_clear_37 ?_
      obtain ⟨q3, hc, hf⟩ := zbd hf
      refine z_cVvt (As := [.ref (ht_rows 0)]) (rest := []) C (c_X4_keep l D cy ht_rows ht_history ht_history_before ht_history_images gB gI St_rows St_history St_history_pool q3 hc) gV_X9_X4_keep hd_X4_keep ⟨Nat.le_of_ble_eq_true rfl, Nat.le_of_ble_eq_true rfl⟩ ⟨Nat.le_refl _, Nat.le_refl _⟩ (va_recv hK hP (ci := 1) (q0 := 9) rfl rfl) hP hD hS (w2 := wSR ht (ht_reader 0) (ht_rows 0) (ht_evidence 0) (ht_history 0) cy St ++ (wRows ht_rows cy St_rows ++ (wHi ht_history (ht_history_before 0) (ht_history_images 0) cy q3.1 ++ (wPool gB gI (ht_history_before 0) (ht_history_images 0) cy q3.2)))) (wSR ht (ht_reader 0) (ht_rows 0) (ht_evidence 0) (ht_history 0) cy St) rfl rfl hl.1 (Nat.le_of_ble_eq_true rfl) dX9_clear_40 (fun H locs hP hD hS => ?_)
      refine lv_aload_n hx hb dX9_clear_43 rfl (lv_at hl 0 rfl) ?_
      refine lv_aload_n hx hb dX9_clear_44 rfl (lv_at hl 0 rfl) ?_
      refine va_get (D := D) (ci := 5) (v := .ref (ht_rows 0)) (C := RX9) (T := TX9) (N := 7) hx hb hts in_X9 hown hK hP 0 rfl rfl 1 (by decide) (hts _ q2_20) (fun _ h9 => h9) rfl dX9_clear_45 ?_
      obtain ⟨q4, hc, hf⟩ := zbd hf
      refine z_cVim (As := []) (rest := [.ref (ht 0)]) C (c_X6_clearDead l D cy ht_rows St_rows q4 hc) gV_X9_X6_clearDead hd_X6_clearDead ⟨Nat.le_of_ble_eq_true rfl, Nat.le_of_ble_eq_true rfl⟩ ⟨Nat.le_refl _, Nat.le_refl _⟩ (va_recv hK hP (ci := 3) (q0 := 1) rfl rfl) hP hD hS (w2 := wSR ht (ht_reader 0) (ht_rows 0) (ht_evidence 0) (ht_history 0) cy St ++ (wRows ht_rows cy q4.2 ++ (wHi ht_history (ht_history_before 0) (ht_history_images 0) cy q3.1 ++ (wPool gB gI (ht_history_before 0) (ht_history_images 0) cy q3.2)))) (wSR ht (ht_reader 0) (ht_rows 0) (ht_evidence 0) (ht_history 0) cy St) (wHi ht_history (ht_history_before 0) (ht_history_images 0) cy q3.1 ++ (wPool gB gI (ht_history_before 0) (ht_history_images 0) cy q3.2)) rfl rfl hl.1 (Nat.le_of_ble_eq_true rfl) dX9_clear_48 (fun H locs hP hD hS => ?_)
      obtain ⟨q5, hc, hf⟩ := zbd hf
      refine z_cVim (As := [.int q4.1]) (rest := []) C (c_X9_answer l D cy ht ht_reader ht_rows ht_evidence ht_history St q4.1 q5 hc) gV_X9_X9_answer hd_X9_answer ⟨Nat.le_of_ble_eq_true rfl, Nat.le_of_ble_eq_true rfl⟩ ⟨Nat.le_refl _, Nat.le_refl _⟩ (va_recv hK hP (ci := 5) (q0 := 0) rfl rfl) hP hD hS (w2 := wSR ht (ht_reader 0) (ht_rows 0) (ht_evidence 0) (ht_history 0) cy q5.2 ++ (wRows ht_rows cy q4.2 ++ (wHi ht_history (ht_history_before 0) (ht_history_images 0) cy q3.1 ++ (wPool gB gI (ht_history_before 0) (ht_history_images 0) cy q3.2)))) [] (wRows ht_rows cy q4.2 ++ (wHi ht_history (ht_history_before 0) (ht_history_images 0) cy q3.1 ++ (wPool gB gI (ht_history_before 0) (ht_history_images 0) cy q3.2))) rfl rfl hl.1 (Nat.le_of_ble_eq_true rfl) dX9_clear_51 (fun H locs hP hD hS => ?_)
      obtain rfl := Option.some.inj hf
      exact z_iret (v := q5.1) C hP hD hS dX9_clear_54
    · refine lv_aload_n hx hb dX9_clear_25 rfl (lv_at hl 0 rfl) ?_
      refine lv_bipush (v := (6 : Int32)) hx hb dX9_clear_26 (by decide) ?_
      obtain ⟨q6, hc, hf⟩ := zbd hf
      refine z_cVim (As := [.int (6 : Int32)]) (rest := []) C (c_X9_refuse l D cy ht ht_reader ht_rows ht_evidence ht_history St (6 : Int32) q6 hc) gV_X9_X9_refuse hd_X9_refuse ⟨Nat.le_of_ble_eq_true rfl, Nat.le_of_ble_eq_true rfl⟩ ⟨Nat.le_refl _, Nat.le_refl _⟩ (va_recv hK hP (ci := 5) (q0 := 0) rfl rfl) hP hD hS (w2 := wSR ht (ht_reader 0) (ht_rows 0) (ht_evidence 0) (ht_history 0) cy q6.2 ++ (wRows ht_rows cy St_rows ++ (wHi ht_history (ht_history_before 0) (ht_history_images 0) cy St_history ++ (wPool gB gI (ht_history_before 0) (ht_history_images 0) cy St_history_pool)))) [] (wRows ht_rows cy St_rows ++ (wHi ht_history (ht_history_before 0) (ht_history_images 0) cy St_history ++ (wPool gB gI (ht_history_before 0) (ht_history_images 0) cy St_history_pool))) rfl rfl hl.1 (Nat.le_of_ble_eq_true rfl) dX9_clear_28 (fun H locs hP hD hS => ?_)
      obtain rfl := Option.some.inj hf
      exact z_iret (v := q6.1) C hP hD hS dX9_clear_31
  · refine lv_aload_n hx hb dX9_clear_7 rfl (lv_at hl 0 rfl) ?_
    refine lv_iconst (v := (1 : Int32)) hx hb dX9_clear_8 (by decide) ?_
    obtain ⟨q7, hc, hf⟩ := zbd hf
    refine z_cVim (As := [.int (1 : Int32)]) (rest := []) C (c_X9_refuse l D cy ht ht_reader ht_rows ht_evidence ht_history St (1 : Int32) q7 hc) gV_X9_X9_refuse hd_X9_refuse ⟨Nat.le_of_ble_eq_true rfl, Nat.le_of_ble_eq_true rfl⟩ ⟨Nat.le_refl _, Nat.le_refl _⟩ (va_recv hK hP (ci := 5) (q0 := 0) rfl rfl) hP hD hS (w2 := wSR ht (ht_reader 0) (ht_rows 0) (ht_evidence 0) (ht_history 0) cy q7.2 ++ (wRows ht_rows cy St_rows ++ (wHi ht_history (ht_history_before 0) (ht_history_images 0) cy St_history ++ (wPool gB gI (ht_history_before 0) (ht_history_images 0) cy St_history_pool)))) [] (wRows ht_rows cy St_rows ++ (wHi ht_history (ht_history_before 0) (ht_history_images 0) cy St_history ++ (wPool gB gI (ht_history_before 0) (ht_history_images 0) cy St_history_pool))) rfl rfl hl.1 (Nat.le_of_ble_eq_true rfl) dX9_clear_9 (fun H locs hP hD hS => ?_)
    obtain rfl := Option.some.inj hf
    exact z_iret (v := q7.1) C hP hD hS dX9_clear_12
def f_X9_freeze (St : SSR) (St_rows : SRows) (St_history : SHi) (St_history_pool : SPool) : Option (Int32 × SSR × SRows × SHi × SPool) :=
  (f_X9_hasStore St St_rows).bind (fun q1 =>
    (if q1 = 0 then
      (f_X9_refuse St (1 : Int32)).bind (fun q7 =>
        some (q7.1, q7.2, St_rows, St_history, St_history_pool))
      else
      (f_X6_countFreezing St_rows).bind (fun q2 =>
        (if q2 = 0 then
          (f_X9_refuse St (6 : Int32)).bind (fun q6 =>
            some (q6.1, q6.2, St_rows, St_history, St_history_pool))
          else
          (f_X4_keep St_rows St_history St_history_pool).bind (fun q3 =>
            (f_X6_freezeAll St_rows).bind (fun q4 =>
              (f_X9_answer St q4.1).bind (fun q5 =>
                some (q5.1, q5.2, q4.2, q3.1, q3.2))))))))
set_option maxHeartbeats 4000000 in
set_option maxRecDepth 100000 in
theorem c_X9_freeze (l : Launch) (D : va_G) (cy : Nat → ClassId) (ht : Nat → Nat) (ht_reader : Nat → Nat) (ht_rows : Nat → Nat) (ht_evidence : Nat → Nat) (ht_history : Nat → Nat) (ht_history_before : Nat → Nat) (ht_history_images : Nat → Nat) (gB : Nat → Nat → Nat) (gI : Nat → Nat → Nat) (St : SSR) (St_rows : SRows) (St_history : SHi) (St_history_pool : SPool) (r : Int32 × SSR × SRows × SHi × SPool) (hf : f_X9_freeze St St_rows St_history St_history_pool = some r) : zCI l yX9_freeze cX9_freeze 1 (some FieldType.int) 4 96 D (zty cy) [.ref (ht 0)] (wSR ht (ht_reader 0) (ht_rows 0) (ht_evidence 0) (ht_history 0) cy St ++ (wRows ht_rows cy St_rows ++ (wHi ht_history (ht_history_before 0) (ht_history_images 0) cy St_history ++ (wPool gB gI (ht_history_before 0) (ht_history_images 0) cy St_history_pool)))) (wSR ht (ht_reader 0) (ht_rows 0) (ht_evidence 0) (ht_history 0) cy r.2.1 ++ (wRows ht_rows cy r.2.2.1 ++ (wHi ht_history (ht_history_before 0) (ht_history_images 0) cy r.2.2.2.1 ++ (wPool gB gI (ht_history_before 0) (ht_history_images 0) cy r.2.2.2.2)))) r.1 := by
  refine zCI_of (by decide +kernel) (Nat.le_of_ble_eq_true rfl) ?_
  intro p e s m below meth c A ls C hP hD hS hl
  generalize hargs : ([.ref (ht 0)] : List Value).toArray = args at C ⊢
  have C : zX p s m meth c cX9_freeze 1 args RX9 (some FieldType.int) A D (zty cy) := C
  obtain ⟨hx, hb, hr, hts, hown, hlocks, hml, hA, hK⟩ := id C
  have hl : lv_has ls 1 [(0, .ref (ht 0))] := hl
  generalize hH : s.heap = H at hP ⊢
  have hS : va_S A s.heap H [] := by rw [← hH]; exact hS
  generalize ([] : List Loc) = locs at hS ⊢
  refine lv_aload_n hx hb dX9_freeze_0 rfl (lv_at hl 0 rfl) ?_
  obtain ⟨q1, hc, hf⟩ := zbd hf
  refine z_cVim (As := []) (rest := []) C (c_X9_hasStore l D cy ht ht_reader ht_rows ht_evidence ht_history St St_rows q1 hc) gV_X9_X9_hasStore hd_X9_hasStore ⟨Nat.le_of_ble_eq_true rfl, Nat.le_of_ble_eq_true rfl⟩ ⟨Nat.le_refl _, Nat.le_refl _⟩ (va_recv hK hP (ci := 5) (q0 := 0) rfl rfl) hP hD hS (w2 := wSR ht (ht_reader 0) (ht_rows 0) (ht_evidence 0) (ht_history 0) cy St ++ (wRows ht_rows cy St_rows ++ (wHi ht_history (ht_history_before 0) (ht_history_images 0) cy St_history ++ (wPool gB gI (ht_history_before 0) (ht_history_images 0) cy St_history_pool)))) [] (wHi ht_history (ht_history_before 0) (ht_history_images 0) cy St_history ++ (wPool gB gI (ht_history_before 0) (ht_history_images 0) cy St_history_pool)) rfl rfl hl.1 (Nat.le_of_ble_eq_true rfl) dX9_freeze_1 (fun H locs hP hD hS => ?_)
  refine z_if_ne (tgt := 13) hx hb dX9_freeze_4 (by decide) hf (fun hf => ?_) (fun hf => ?_)
  · refine lv_aload_n hx hb dX9_freeze_13 rfl (lv_at hl 0 rfl) ?_
    refine va_get (D := D) (ci := 5) (v := .ref (ht_rows 0)) (C := RX9) (T := TX9) (N := 7) hx hb hts in_X9 hown hK hP 0 rfl rfl 1 (by decide) (hts _ q2_20) (fun _ h9 => h9) rfl dX9_freeze_14 ?_
    obtain ⟨q2, hc, hf⟩ := zbd hf
    refine z_cVim (As := []) (rest := []) C (c_X6_countFreezing l D cy ht_rows St_rows q2 hc) gV_X9_X6_countFreezing hd_X6_countFreezing ⟨Nat.le_of_ble_eq_true rfl, Nat.le_of_ble_eq_true rfl⟩ ⟨Nat.le_refl _, Nat.le_refl _⟩ (va_recv hK hP (ci := 3) (q0 := 1) rfl rfl) hP hD hS (w2 := wSR ht (ht_reader 0) (ht_rows 0) (ht_evidence 0) (ht_history 0) cy St ++ (wRows ht_rows cy St_rows ++ (wHi ht_history (ht_history_before 0) (ht_history_images 0) cy St_history ++ (wPool gB gI (ht_history_before 0) (ht_history_images 0) cy St_history_pool)))) (wSR ht (ht_reader 0) (ht_rows 0) (ht_evidence 0) (ht_history 0) cy St) (wHi ht_history (ht_history_before 0) (ht_history_images 0) cy St_history ++ (wPool gB gI (ht_history_before 0) (ht_history_images 0) cy St_history_pool)) rfl rfl hl.1 (Nat.le_of_ble_eq_true rfl) dX9_freeze_17 (fun H locs hP hD hS => ?_)
    refine z_if_ne (tgt := 30) hx hb dX9_freeze_20 (by decide) hf (fun hf => ?_) (fun hf => ?_)
    · refine lv_aload_n hx hb dX9_freeze_30 rfl (lv_at hl 0 rfl) ?_
      refine va_get (D := D) (ci := 5) (v := .ref (ht_history 0)) (C := RX9) (T := TX9) (N := 7) hx hb hts in_X9 hown hK hP 0 rfl rfl 3 (by decide) (hts _ q2_22) (fun _ h9 => h9) rfl dX9_freeze_31 ?_
      refine lv_aload_n hx hb dX9_freeze_34 rfl (lv_at hl 0 rfl) ?_
      refine va_get (D := D) (ci := 5) (v := .ref (ht_rows 0)) (C := RX9) (T := TX9) (N := 7) hx hb hts in_X9 hown hK hP 0 rfl rfl 1 (by decide) (hts _ q2_20) (fun _ h9 => h9) rfl dX9_freeze_35 ?_
      obtain ⟨q3, hc, hf⟩ := zbd hf
      refine z_cVvt (As := [.ref (ht_rows 0)]) (rest := []) C (c_X4_keep l D cy ht_rows ht_history ht_history_before ht_history_images gB gI St_rows St_history St_history_pool q3 hc) gV_X9_X4_keep hd_X4_keep ⟨Nat.le_of_ble_eq_true rfl, Nat.le_of_ble_eq_true rfl⟩ ⟨Nat.le_refl _, Nat.le_refl _⟩ (va_recv hK hP (ci := 1) (q0 := 9) rfl rfl) hP hD hS (w2 := wSR ht (ht_reader 0) (ht_rows 0) (ht_evidence 0) (ht_history 0) cy St ++ (wRows ht_rows cy St_rows ++ (wHi ht_history (ht_history_before 0) (ht_history_images 0) cy q3.1 ++ (wPool gB gI (ht_history_before 0) (ht_history_images 0) cy q3.2)))) (wSR ht (ht_reader 0) (ht_rows 0) (ht_evidence 0) (ht_history 0) cy St) rfl rfl hl.1 (Nat.le_of_ble_eq_true rfl) dX9_freeze_38 (fun H locs hP hD hS => ?_)
      refine lv_aload_n hx hb dX9_freeze_41 rfl (lv_at hl 0 rfl) ?_
      refine lv_aload_n hx hb dX9_freeze_42 rfl (lv_at hl 0 rfl) ?_
      refine va_get (D := D) (ci := 5) (v := .ref (ht_rows 0)) (C := RX9) (T := TX9) (N := 7) hx hb hts in_X9 hown hK hP 0 rfl rfl 1 (by decide) (hts _ q2_20) (fun _ h9 => h9) rfl dX9_freeze_43 ?_
      obtain ⟨q4, hc, hf⟩ := zbd hf
      refine z_cVim (As := []) (rest := [.ref (ht 0)]) C (c_X6_freezeAll l D cy ht_rows St_rows q4 hc) gV_X9_X6_freezeAll hd_X6_freezeAll ⟨Nat.le_of_ble_eq_true rfl, Nat.le_of_ble_eq_true rfl⟩ ⟨Nat.le_refl _, Nat.le_refl _⟩ (va_recv hK hP (ci := 3) (q0 := 1) rfl rfl) hP hD hS (w2 := wSR ht (ht_reader 0) (ht_rows 0) (ht_evidence 0) (ht_history 0) cy St ++ (wRows ht_rows cy q4.2 ++ (wHi ht_history (ht_history_before 0) (ht_history_images 0) cy q3.1 ++ (wPool gB gI (ht_history_before 0) (ht_history_images 0) cy q3.2)))) (wSR ht (ht_reader 0) (ht_rows 0) (ht_evidence 0) (ht_history 0) cy St) (wHi ht_history (ht_history_before 0) (ht_history_images 0) cy q3.1 ++ (wPool gB gI (ht_history_before 0) (ht_history_images 0) cy q3.2)) rfl rfl hl.1 (Nat.le_of_ble_eq_true rfl) dX9_freeze_46 (fun H locs hP hD hS => ?_)
      obtain ⟨q5, hc, hf⟩ := zbd hf
      refine z_cVim (As := [.int q4.1]) (rest := []) C (c_X9_answer l D cy ht ht_reader ht_rows ht_evidence ht_history St q4.1 q5 hc) gV_X9_X9_answer hd_X9_answer ⟨Nat.le_of_ble_eq_true rfl, Nat.le_of_ble_eq_true rfl⟩ ⟨Nat.le_refl _, Nat.le_refl _⟩ (va_recv hK hP (ci := 5) (q0 := 0) rfl rfl) hP hD hS (w2 := wSR ht (ht_reader 0) (ht_rows 0) (ht_evidence 0) (ht_history 0) cy q5.2 ++ (wRows ht_rows cy q4.2 ++ (wHi ht_history (ht_history_before 0) (ht_history_images 0) cy q3.1 ++ (wPool gB gI (ht_history_before 0) (ht_history_images 0) cy q3.2)))) [] (wRows ht_rows cy q4.2 ++ (wHi ht_history (ht_history_before 0) (ht_history_images 0) cy q3.1 ++ (wPool gB gI (ht_history_before 0) (ht_history_images 0) cy q3.2))) rfl rfl hl.1 (Nat.le_of_ble_eq_true rfl) dX9_freeze_49 (fun H locs hP hD hS => ?_)
      obtain rfl := Option.some.inj hf
      exact z_iret (v := q5.1) C hP hD hS dX9_freeze_52
    · refine lv_aload_n hx hb dX9_freeze_23 rfl (lv_at hl 0 rfl) ?_
      refine lv_bipush (v := (6 : Int32)) hx hb dX9_freeze_24 (by decide) ?_
      obtain ⟨q6, hc, hf⟩ := zbd hf
      refine z_cVim (As := [.int (6 : Int32)]) (rest := []) C (c_X9_refuse l D cy ht ht_reader ht_rows ht_evidence ht_history St (6 : Int32) q6 hc) gV_X9_X9_refuse hd_X9_refuse ⟨Nat.le_of_ble_eq_true rfl, Nat.le_of_ble_eq_true rfl⟩ ⟨Nat.le_refl _, Nat.le_refl _⟩ (va_recv hK hP (ci := 5) (q0 := 0) rfl rfl) hP hD hS (w2 := wSR ht (ht_reader 0) (ht_rows 0) (ht_evidence 0) (ht_history 0) cy q6.2 ++ (wRows ht_rows cy St_rows ++ (wHi ht_history (ht_history_before 0) (ht_history_images 0) cy St_history ++ (wPool gB gI (ht_history_before 0) (ht_history_images 0) cy St_history_pool)))) [] (wRows ht_rows cy St_rows ++ (wHi ht_history (ht_history_before 0) (ht_history_images 0) cy St_history ++ (wPool gB gI (ht_history_before 0) (ht_history_images 0) cy St_history_pool))) rfl rfl hl.1 (Nat.le_of_ble_eq_true rfl) dX9_freeze_26 (fun H locs hP hD hS => ?_)
      obtain rfl := Option.some.inj hf
      exact z_iret (v := q6.1) C hP hD hS dX9_freeze_29
  · refine lv_aload_n hx hb dX9_freeze_7 rfl (lv_at hl 0 rfl) ?_
    refine lv_iconst (v := (1 : Int32)) hx hb dX9_freeze_8 (by decide) ?_
    obtain ⟨q7, hc, hf⟩ := zbd hf
    refine z_cVim (As := [.int (1 : Int32)]) (rest := []) C (c_X9_refuse l D cy ht ht_reader ht_rows ht_evidence ht_history St (1 : Int32) q7 hc) gV_X9_X9_refuse hd_X9_refuse ⟨Nat.le_of_ble_eq_true rfl, Nat.le_of_ble_eq_true rfl⟩ ⟨Nat.le_refl _, Nat.le_refl _⟩ (va_recv hK hP (ci := 5) (q0 := 0) rfl rfl) hP hD hS (w2 := wSR ht (ht_reader 0) (ht_rows 0) (ht_evidence 0) (ht_history 0) cy q7.2 ++ (wRows ht_rows cy St_rows ++ (wHi ht_history (ht_history_before 0) (ht_history_images 0) cy St_history ++ (wPool gB gI (ht_history_before 0) (ht_history_images 0) cy St_history_pool)))) [] (wRows ht_rows cy St_rows ++ (wHi ht_history (ht_history_before 0) (ht_history_images 0) cy St_history ++ (wPool gB gI (ht_history_before 0) (ht_history_images 0) cy St_history_pool))) rfl rfl hl.1 (Nat.le_of_ble_eq_true rfl) dX9_freeze_9 (fun H locs hP hD hS => ?_)
    obtain rfl := Option.some.inj hf
    exact z_iret (v := q7.1) C hP hD hS dX9_freeze_12
def f_X9_undo (St : SSR) (St_rows : SRows) (St_history : SHi) (St_history_pool : SPool) : Option (Int32 × SSR × SRows × SHi) :=
  (f_X4_takeBack St_rows St_history St_history_pool).bind (fun q1 =>
    (if q1.1 = 0 then
      (if zbo q1.1 then some (q1.1, (mkSR (6 : Int32) (SR_faultNumber St) (SR_faultPlace St)), q1.2.1, q1.2.2) else none)
      else
      (if zbo q1.1 then some (q1.1, (mkSR (0 : Int32) (SR_faultNumber St) (SR_faultPlace St)), q1.2.1, q1.2.2) else none)))
set_option maxHeartbeats 4000000 in
set_option maxRecDepth 100000 in
theorem c_X9_undo (l : Launch) (D : va_G) (cy : Nat → ClassId) (ht : Nat → Nat) (ht_reader : Nat → Nat) (ht_rows : Nat → Nat) (ht_evidence : Nat → Nat) (ht_history : Nat → Nat) (ht_history_before : Nat → Nat) (ht_history_images : Nat → Nat) (gB : Nat → Nat → Nat) (gI : Nat → Nat → Nat) (St : SSR) (St_rows : SRows) (St_history : SHi) (St_history_pool : SPool) (r : Int32 × SSR × SRows × SHi) (hf : f_X9_undo St St_rows St_history St_history_pool = some r) : zCI l yX9_undo cX9_undo 2 (some FieldType.boolean) 3 82 D (zty cy) [.ref (ht 0)] (wSR ht (ht_reader 0) (ht_rows 0) (ht_evidence 0) (ht_history 0) cy St ++ (wRows ht_rows cy St_rows ++ (wHi ht_history (ht_history_before 0) (ht_history_images 0) cy St_history ++ (wPool gB gI (ht_history_before 0) (ht_history_images 0) cy St_history_pool)))) (wSR ht (ht_reader 0) (ht_rows 0) (ht_evidence 0) (ht_history 0) cy r.2.1 ++ (wRows ht_rows cy r.2.2.1 ++ (wHi ht_history (ht_history_before 0) (ht_history_images 0) cy r.2.2.2 ++ (wPool gB gI (ht_history_before 0) (ht_history_images 0) cy St_history_pool)))) r.1 := by
  refine zCI_of (by decide +kernel) (Nat.le_of_ble_eq_true rfl) ?_
  intro p e s m below meth c A ls C hP hD hS hl
  generalize hargs : ([.ref (ht 0)] : List Value).toArray = args at C ⊢
  have C : zX p s m meth c cX9_undo 2 args RX9 (some FieldType.boolean) A D (zty cy) := C
  obtain ⟨hx, hb, hr, hts, hown, hlocks, hml, hA, hK⟩ := id C
  have hl : lv_has ls 2 [(0, .ref (ht 0))] := hl
  generalize hH : s.heap = H at hP ⊢
  have hS : va_S A s.heap H [] := by rw [← hH]; exact hS
  generalize ([] : List Loc) = locs at hS ⊢
  refine lv_aload_n hx hb dX9_undo_0 rfl (lv_at hl 0 rfl) ?_
  refine va_get (D := D) (ci := 5) (v := .ref (ht_history 0)) (C := RX9) (T := TX9) (N := 7) hx hb hts in_X9 hown hK hP 0 rfl rfl 3 (by decide) (hts _ q2_22) (fun _ h9 => h9) rfl dX9_undo_1 ?_
  refine lv_aload_n hx hb dX9_undo_4 rfl (lv_at hl 0 rfl) ?_
  refine va_get (D := D) (ci := 5) (v := .ref (ht_rows 0)) (C := RX9) (T := TX9) (N := 7) hx hb hts in_X9 hown hK hP 0 rfl rfl 1 (by decide) (hts _ q2_20) (fun _ h9 => h9) rfl dX9_undo_5 ?_
  obtain ⟨q1, hc, hf⟩ := zbd hf
  refine z_cVit (As := [.ref (ht_rows 0)]) (rest := []) C (c_X4_takeBack l D cy ht_rows ht_history ht_history_before ht_history_images gB gI St_rows St_history St_history_pool q1 hc) gV_X9_X4_takeBack hd_X4_takeBack ⟨Nat.le_of_ble_eq_true rfl, Nat.le_of_ble_eq_true rfl⟩ ⟨Nat.le_refl _, Nat.le_refl _⟩ (va_recv hK hP (ci := 1) (q0 := 9) rfl rfl) hP hD hS (w2 := wSR ht (ht_reader 0) (ht_rows 0) (ht_evidence 0) (ht_history 0) cy St ++ (wRows ht_rows cy q1.2.1 ++ (wHi ht_history (ht_history_before 0) (ht_history_images 0) cy q1.2.2 ++ (wPool gB gI (ht_history_before 0) (ht_history_images 0) cy St_history_pool)))) (wSR ht (ht_reader 0) (ht_rows 0) (ht_evidence 0) (ht_history 0) cy St) rfl rfl hl.1 (Nat.le_of_ble_eq_true rfl) dX9_undo_8 (fun H locs hP hD hS => ?_)
  refine lv_istore_n (lv' := [(1, .int q1.1), (0, .ref (ht 0))]) hx hb dX9_undo_11 rfl hl (by decide) rfl (fun ls hl => ?_)
  refine lv_aload_n hx hb dX9_undo_12 rfl (lv_at hl 1 rfl) ?_
  refine lv_iload_n hx hb dX9_undo_13 rfl (lv_at hl 0 rfl) ?_
  refine z_if_eq (tgt := 21) hx hb dX9_undo_14 (by decide) hf (fun hf => ?_) (fun hf => ?_)
  · refine lv_bipush (v := (6 : Int32)) hx hb dX9_undo_21 (by decide) ?_
    refine z_put (w2 := vSR ht (ht_reader 0) (ht_rows 0) (ht_evidence 0) (ht_history 0) cy (6 : Int32) (SR_faultNumber St) (SR_faultPlace St) ++ (wRows ht_rows cy q1.2.1 ++ (wHi ht_history (ht_history_before 0) (ht_history_images 0) cy q1.2.2 ++ (wPool gB gI (ht_history_before 0) (ht_history_images 0) cy St_history_pool)))) hx hb hts in_X9 tyX9 tyX9_ok nmX9 hown hK hP hD hS 0 rfl rfl 4 (by decide) (hts _ q2_23) (fun _ h9 => h9) rfl rfl rfl (Nat.le_of_ble_eq_true rfl) dX9_undo_23 rfl (fun H locs hP hD hS => ?_)
    refine lv_iload_n hx hb dX9_undo_26 rfl (lv_at hl 0 rfl) ?_
    obtain ⟨hz, hf⟩ := zgd hf
    obtain rfl := Option.some.inj hf
    rw [← wSR_mk ht] at hP hD
    exact z_zret (v := q1.1) C (zbo_n hz) hP hD hS dX9_undo_27
  · refine lv_iconst (v := (0 : Int32)) hx hb dX9_undo_17 (by decide) ?_
    refine lv_goto (tgt := 23) hx hb dX9_undo_18 (by decide) ?_
    refine z_put (w2 := vSR ht (ht_reader 0) (ht_rows 0) (ht_evidence 0) (ht_history 0) cy (0 : Int32) (SR_faultNumber St) (SR_faultPlace St) ++ (wRows ht_rows cy q1.2.1 ++ (wHi ht_history (ht_history_before 0) (ht_history_images 0) cy q1.2.2 ++ (wPool gB gI (ht_history_before 0) (ht_history_images 0) cy St_history_pool)))) hx hb hts in_X9 tyX9 tyX9_ok nmX9 hown hK hP hD hS 0 rfl rfl 4 (by decide) (hts _ q2_23) (fun _ h9 => h9) rfl rfl rfl (Nat.le_of_ble_eq_true rfl) dX9_undo_23 rfl (fun H locs hP hD hS => ?_)
    refine lv_iload_n hx hb dX9_undo_26 rfl (lv_at hl 0 rfl) ?_
    obtain ⟨hz, hf⟩ := zgd hf
    obtain rfl := Option.some.inj hf
    rw [← wSR_mk ht] at hP hD
    exact z_zret (v := q1.1) C (zbo_n hz) hP hD hS dX9_undo_27
def f_X9_image (St : SSR) (St_rows : SRows) (St_history : SHi) (St_history_pool : SPool) : Option (Int32 × SSR × SHi × SPool) :=
  (f_X9_hasStore St St_rows).bind (fun q1 =>
    (if q1 = 0 then
      (f_X9_refuse St (1 : Int32)).bind (fun q5 =>
        some (q5.1, q5.2, St_history, St_history_pool))
      else
      (f_X4_takeImage St_rows St_history St_history_pool).bind (fun q2 =>
        (if q2.1 = (-2 : Int32) then
          (f_X9_refuse St (3 : Int32)).bind (fun q4 =>
            some (q4.1, q4.2, q2.2.1, q2.2.2))
          else
          (f_X9_answer St q2.1).bind (fun q3 =>
            some (q3.1, q3.2, q2.2.1, q2.2.2))))))
set_option maxHeartbeats 4000000 in
set_option maxRecDepth 100000 in
theorem c_X9_image (l : Launch) (D : va_G) (cy : Nat → ClassId) (ht : Nat → Nat) (ht_reader : Nat → Nat) (ht_rows : Nat → Nat) (ht_evidence : Nat → Nat) (ht_history : Nat → Nat) (ht_history_before : Nat → Nat) (ht_history_images : Nat → Nat) (gB : Nat → Nat → Nat) (gI : Nat → Nat → Nat) (St : SSR) (St_rows : SRows) (St_history : SHi) (St_history_pool : SPool) (r : Int32 × SSR × SHi × SPool) (hf : f_X9_image St St_rows St_history St_history_pool = some r) : zCI l yX9_image cX9_image 2 (some FieldType.int) 3 82 D (zty cy) [.ref (ht 0)] (wSR ht (ht_reader 0) (ht_rows 0) (ht_evidence 0) (ht_history 0) cy St ++ (wRows ht_rows cy St_rows ++ (wHi ht_history (ht_history_before 0) (ht_history_images 0) cy St_history ++ (wPool gB gI (ht_history_before 0) (ht_history_images 0) cy St_history_pool)))) (wSR ht (ht_reader 0) (ht_rows 0) (ht_evidence 0) (ht_history 0) cy r.2.1 ++ (wRows ht_rows cy St_rows ++ (wHi ht_history (ht_history_before 0) (ht_history_images 0) cy r.2.2.1 ++ (wPool gB gI (ht_history_before 0) (ht_history_images 0) cy r.2.2.2)))) r.1 := by
  refine zCI_of (by decide +kernel) (Nat.le_of_ble_eq_true rfl) ?_
  intro p e s m below meth c A ls C hP hD hS hl
  generalize hargs : ([.ref (ht 0)] : List Value).toArray = args at C ⊢
  have C : zX p s m meth c cX9_image 2 args RX9 (some FieldType.int) A D (zty cy) := C
  obtain ⟨hx, hb, hr, hts, hown, hlocks, hml, hA, hK⟩ := id C
  have hl : lv_has ls 2 [(0, .ref (ht 0))] := hl
  generalize hH : s.heap = H at hP ⊢
  have hS : va_S A s.heap H [] := by rw [← hH]; exact hS
  generalize ([] : List Loc) = locs at hS ⊢
  refine lv_aload_n hx hb dX9_image_0 rfl (lv_at hl 0 rfl) ?_
  obtain ⟨q1, hc, hf⟩ := zbd hf
  refine z_cVim (As := []) (rest := []) C (c_X9_hasStore l D cy ht ht_reader ht_rows ht_evidence ht_history St St_rows q1 hc) gV_X9_X9_hasStore hd_X9_hasStore ⟨Nat.le_of_ble_eq_true rfl, Nat.le_of_ble_eq_true rfl⟩ ⟨Nat.le_refl _, Nat.le_refl _⟩ (va_recv hK hP (ci := 5) (q0 := 0) rfl rfl) hP hD hS (w2 := wSR ht (ht_reader 0) (ht_rows 0) (ht_evidence 0) (ht_history 0) cy St ++ (wRows ht_rows cy St_rows ++ (wHi ht_history (ht_history_before 0) (ht_history_images 0) cy St_history ++ (wPool gB gI (ht_history_before 0) (ht_history_images 0) cy St_history_pool)))) [] (wHi ht_history (ht_history_before 0) (ht_history_images 0) cy St_history ++ (wPool gB gI (ht_history_before 0) (ht_history_images 0) cy St_history_pool)) rfl rfl hl.1 (Nat.le_of_ble_eq_true rfl) dX9_image_1 (fun H locs hP hD hS => ?_)
  refine z_if_ne (tgt := 13) hx hb dX9_image_4 (by decide) hf (fun hf => ?_) (fun hf => ?_)
  · refine lv_aload_n hx hb dX9_image_13 rfl (lv_at hl 0 rfl) ?_
    refine va_get (D := D) (ci := 5) (v := .ref (ht_history 0)) (C := RX9) (T := TX9) (N := 7) hx hb hts in_X9 hown hK hP 0 rfl rfl 3 (by decide) (hts _ q2_22) (fun _ h9 => h9) rfl dX9_image_14 ?_
    refine lv_aload_n hx hb dX9_image_17 rfl (lv_at hl 0 rfl) ?_
    refine va_get (D := D) (ci := 5) (v := .ref (ht_rows 0)) (C := RX9) (T := TX9) (N := 7) hx hb hts in_X9 hown hK hP 0 rfl rfl 1 (by decide) (hts _ q2_20) (fun _ h9 => h9) rfl dX9_image_18 ?_
    obtain ⟨q2, hc, hf⟩ := zbd hf
    refine z_cVit (As := [.ref (ht_rows 0)]) (rest := []) C (c_X4_takeImage l D cy ht_rows ht_history ht_history_before ht_history_images gB gI St_rows St_history St_history_pool q2 hc) gV_X9_X4_takeImage hd_X4_takeImage ⟨Nat.le_of_ble_eq_true rfl, Nat.le_of_ble_eq_true rfl⟩ ⟨Nat.le_refl _, Nat.le_refl _⟩ (va_recv hK hP (ci := 1) (q0 := 9) rfl rfl) hP hD hS (w2 := wSR ht (ht_reader 0) (ht_rows 0) (ht_evidence 0) (ht_history 0) cy St ++ (wRows ht_rows cy St_rows ++ (wHi ht_history (ht_history_before 0) (ht_history_images 0) cy q2.2.1 ++ (wPool gB gI (ht_history_before 0) (ht_history_images 0) cy q2.2.2)))) (wSR ht (ht_reader 0) (ht_rows 0) (ht_evidence 0) (ht_history 0) cy St) rfl rfl hl.1 (Nat.le_of_ble_eq_true rfl) dX9_image_21 (fun H locs hP hD hS => ?_)
    refine lv_istore_n (lv' := [(1, .int q2.1), (0, .ref (ht 0))]) hx hb dX9_image_24 rfl hl (by decide) rfl (fun ls hl => ?_)
    refine lv_iload_n hx hb dX9_image_25 rfl (lv_at hl 0 rfl) ?_
    refine lv_bipush (v := (-2 : Int32)) hx hb dX9_image_26 (by decide) ?_
    refine z_icmp_ne (tgt := 39) hx hb dX9_image_28 (by decide) hf (fun hf => ?_) (fun hf => ?_)
    · refine lv_aload_n hx hb dX9_image_39 rfl (lv_at hl 1 rfl) ?_
      refine lv_iload_n hx hb dX9_image_40 rfl (lv_at hl 0 rfl) ?_
      obtain ⟨q3, hc, hf⟩ := zbd hf
      refine z_cVim (As := [.int q2.1]) (rest := []) C (c_X9_answer l D cy ht ht_reader ht_rows ht_evidence ht_history St q2.1 q3 hc) gV_X9_X9_answer hd_X9_answer ⟨Nat.le_of_ble_eq_true rfl, Nat.le_of_ble_eq_true rfl⟩ ⟨Nat.le_refl _, Nat.le_refl _⟩ (va_recv hK hP (ci := 5) (q0 := 0) rfl rfl) hP hD hS (w2 := wSR ht (ht_reader 0) (ht_rows 0) (ht_evidence 0) (ht_history 0) cy q3.2 ++ (wRows ht_rows cy St_rows ++ (wHi ht_history (ht_history_before 0) (ht_history_images 0) cy q2.2.1 ++ (wPool gB gI (ht_history_before 0) (ht_history_images 0) cy q2.2.2)))) [] (wRows ht_rows cy St_rows ++ (wHi ht_history (ht_history_before 0) (ht_history_images 0) cy q2.2.1 ++ (wPool gB gI (ht_history_before 0) (ht_history_images 0) cy q2.2.2))) rfl rfl hl.1 (Nat.le_of_ble_eq_true rfl) dX9_image_41 (fun H locs hP hD hS => ?_)
      obtain rfl := Option.some.inj hf
      exact z_iret (v := q3.1) C hP hD hS dX9_image_44
    · refine lv_aload_n hx hb dX9_image_31 rfl (lv_at hl 1 rfl) ?_
      refine lv_iconst (v := (3 : Int32)) hx hb dX9_image_32 (by decide) ?_
      obtain ⟨q4, hc, hf⟩ := zbd hf
      refine z_cVim (As := [.int (3 : Int32)]) (rest := []) C (c_X9_refuse l D cy ht ht_reader ht_rows ht_evidence ht_history St (3 : Int32) q4 hc) gV_X9_X9_refuse hd_X9_refuse ⟨Nat.le_of_ble_eq_true rfl, Nat.le_of_ble_eq_true rfl⟩ ⟨Nat.le_refl _, Nat.le_refl _⟩ (va_recv hK hP (ci := 5) (q0 := 0) rfl rfl) hP hD hS (w2 := wSR ht (ht_reader 0) (ht_rows 0) (ht_evidence 0) (ht_history 0) cy q4.2 ++ (wRows ht_rows cy St_rows ++ (wHi ht_history (ht_history_before 0) (ht_history_images 0) cy q2.2.1 ++ (wPool gB gI (ht_history_before 0) (ht_history_images 0) cy q2.2.2)))) [] (wRows ht_rows cy St_rows ++ (wHi ht_history (ht_history_before 0) (ht_history_images 0) cy q2.2.1 ++ (wPool gB gI (ht_history_before 0) (ht_history_images 0) cy q2.2.2))) rfl rfl hl.1 (Nat.le_of_ble_eq_true rfl) dX9_image_33 (fun H locs hP hD hS => ?_)
      refine lv_goto (tgt := 44) hx hb dX9_image_36 (by decide) ?_
      obtain rfl := Option.some.inj hf
      exact z_iret (v := q4.1) C hP hD hS dX9_image_44
  · refine lv_aload_n hx hb dX9_image_7 rfl (lv_at hl 0 rfl) ?_
    refine lv_iconst (v := (1 : Int32)) hx hb dX9_image_8 (by decide) ?_
    obtain ⟨q5, hc, hf⟩ := zbd hf
    refine z_cVim (As := [.int (1 : Int32)]) (rest := []) C (c_X9_refuse l D cy ht ht_reader ht_rows ht_evidence ht_history St (1 : Int32) q5 hc) gV_X9_X9_refuse hd_X9_refuse ⟨Nat.le_of_ble_eq_true rfl, Nat.le_of_ble_eq_true rfl⟩ ⟨Nat.le_refl _, Nat.le_refl _⟩ (va_recv hK hP (ci := 5) (q0 := 0) rfl rfl) hP hD hS (w2 := wSR ht (ht_reader 0) (ht_rows 0) (ht_evidence 0) (ht_history 0) cy q5.2 ++ (wRows ht_rows cy St_rows ++ (wHi ht_history (ht_history_before 0) (ht_history_images 0) cy St_history ++ (wPool gB gI (ht_history_before 0) (ht_history_images 0) cy St_history_pool)))) [] (wRows ht_rows cy St_rows ++ (wHi ht_history (ht_history_before 0) (ht_history_images 0) cy St_history ++ (wPool gB gI (ht_history_before 0) (ht_history_images 0) cy St_history_pool))) rfl rfl hl.1 (Nat.le_of_ble_eq_true rfl) dX9_image_9 (fun H locs hP hD hS => ?_)
    obtain rfl := Option.some.inj hf
    exact z_iret (v := q5.1) C hP hD hS dX9_image_12
def f_X9_back (St : SSR) (St_rows : SRows) (St_history : SHi) (St_history_pool : SPool) (x1 : Int32) : Option (Int32 × SSR × SRows × SHi) :=
  (f_X4_returnTo St_rows St_history St_history_pool x1).bind (fun q1 =>
    (if q1.1 = 0 then
      (if zbo q1.1 then some (q1.1, (mkSR (1 : Int32) (SR_faultNumber St) (SR_faultPlace St)), q1.2.1, q1.2.2) else none)
      else
      (if zbo q1.1 then some (q1.1, (mkSR (0 : Int32) (SR_faultNumber St) (SR_faultPlace St)), q1.2.1, q1.2.2) else none)))
set_option maxHeartbeats 4000000 in
set_option maxRecDepth 100000 in
theorem c_X9_back (l : Launch) (D : va_G) (cy : Nat → ClassId) (ht : Nat → Nat) (ht_reader : Nat → Nat) (ht_rows : Nat → Nat) (ht_evidence : Nat → Nat) (ht_history : Nat → Nat) (ht_history_before : Nat → Nat) (ht_history_images : Nat → Nat) (gB : Nat → Nat → Nat) (gI : Nat → Nat → Nat) (St : SSR) (St_rows : SRows) (St_history : SHi) (St_history_pool : SPool) (x1 : Int32) (r : Int32 × SSR × SRows × SHi) (hf : f_X9_back St St_rows St_history St_history_pool x1 = some r) : zCI l yX9_back cX9_back 3 (some FieldType.boolean) 3 83 D (zty cy) [.ref (ht 0), .int x1] (wSR ht (ht_reader 0) (ht_rows 0) (ht_evidence 0) (ht_history 0) cy St ++ (wRows ht_rows cy St_rows ++ (wHi ht_history (ht_history_before 0) (ht_history_images 0) cy St_history ++ (wPool gB gI (ht_history_before 0) (ht_history_images 0) cy St_history_pool)))) (wSR ht (ht_reader 0) (ht_rows 0) (ht_evidence 0) (ht_history 0) cy r.2.1 ++ (wRows ht_rows cy r.2.2.1 ++ (wHi ht_history (ht_history_before 0) (ht_history_images 0) cy r.2.2.2 ++ (wPool gB gI (ht_history_before 0) (ht_history_images 0) cy St_history_pool)))) r.1 := by
  refine zCI_of (by decide +kernel) (Nat.le_of_ble_eq_true rfl) ?_
  intro p e s m below meth c A ls C hP hD hS hl
  generalize hargs : ([.ref (ht 0), .int x1] : List Value).toArray = args at C ⊢
  have C : zX p s m meth c cX9_back 3 args RX9 (some FieldType.boolean) A D (zty cy) := C
  obtain ⟨hx, hb, hr, hts, hown, hlocks, hml, hA, hK⟩ := id C
  have hl : lv_has ls 3 [(0, .ref (ht 0)), (1, .int x1)] := hl
  generalize hH : s.heap = H at hP ⊢
  have hS : va_S A s.heap H [] := by rw [← hH]; exact hS
  generalize ([] : List Loc) = locs at hS ⊢
  refine lv_aload_n hx hb dX9_back_0 rfl (lv_at hl 0 rfl) ?_
  refine va_get (D := D) (ci := 5) (v := .ref (ht_history 0)) (C := RX9) (T := TX9) (N := 7) hx hb hts in_X9 hown hK hP 0 rfl rfl 3 (by decide) (hts _ q2_22) (fun _ h9 => h9) rfl dX9_back_1 ?_
  refine lv_iload_n hx hb dX9_back_4 rfl (lv_at hl 1 rfl) ?_
  refine lv_aload_n hx hb dX9_back_5 rfl (lv_at hl 0 rfl) ?_
  refine va_get (D := D) (ci := 5) (v := .ref (ht_rows 0)) (C := RX9) (T := TX9) (N := 7) hx hb hts in_X9 hown hK hP 0 rfl rfl 1 (by decide) (hts _ q2_20) (fun _ h9 => h9) rfl dX9_back_6 ?_
  obtain ⟨q1, hc, hf⟩ := zbd hf
  refine z_cVit (As := [.int x1, .ref (ht_rows 0)]) (rest := []) C (c_X4_returnTo l D cy ht_rows ht_history ht_history_before ht_history_images gB gI St_rows St_history St_history_pool x1 q1 hc) gV_X9_X4_returnTo hd_X4_returnTo ⟨Nat.le_of_ble_eq_true rfl, Nat.le_of_ble_eq_true rfl⟩ ⟨Nat.le_refl _, Nat.le_refl _⟩ (va_recv hK hP (ci := 1) (q0 := 9) rfl rfl) hP hD hS (w2 := wSR ht (ht_reader 0) (ht_rows 0) (ht_evidence 0) (ht_history 0) cy St ++ (wRows ht_rows cy q1.2.1 ++ (wHi ht_history (ht_history_before 0) (ht_history_images 0) cy q1.2.2 ++ (wPool gB gI (ht_history_before 0) (ht_history_images 0) cy St_history_pool)))) (wSR ht (ht_reader 0) (ht_rows 0) (ht_evidence 0) (ht_history 0) cy St) rfl rfl hl.1 (Nat.le_of_ble_eq_true rfl) dX9_back_9 (fun H locs hP hD hS => ?_)
  refine lv_istore_n (lv' := [(2, .int q1.1), (0, .ref (ht 0)), (1, .int x1)]) hx hb dX9_back_12 rfl hl (by decide) rfl (fun ls hl => ?_)
  refine lv_aload_n hx hb dX9_back_13 rfl (lv_at hl 1 rfl) ?_
  refine lv_iload_n hx hb dX9_back_14 rfl (lv_at hl 0 rfl) ?_
  refine z_if_eq (tgt := 22) hx hb dX9_back_15 (by decide) hf (fun hf => ?_) (fun hf => ?_)
  · refine lv_iconst (v := (1 : Int32)) hx hb dX9_back_22 (by decide) ?_
    refine z_put (w2 := vSR ht (ht_reader 0) (ht_rows 0) (ht_evidence 0) (ht_history 0) cy (1 : Int32) (SR_faultNumber St) (SR_faultPlace St) ++ (wRows ht_rows cy q1.2.1 ++ (wHi ht_history (ht_history_before 0) (ht_history_images 0) cy q1.2.2 ++ (wPool gB gI (ht_history_before 0) (ht_history_images 0) cy St_history_pool)))) hx hb hts in_X9 tyX9 tyX9_ok nmX9 hown hK hP hD hS 0 rfl rfl 4 (by decide) (hts _ q2_23) (fun _ h9 => h9) rfl rfl rfl (Nat.le_of_ble_eq_true rfl) dX9_back_23 rfl (fun H locs hP hD hS => ?_)
    refine lv_iload_n hx hb dX9_back_26 rfl (lv_at hl 0 rfl) ?_
    obtain ⟨hz, hf⟩ := zgd hf
    obtain rfl := Option.some.inj hf
    rw [← wSR_mk ht] at hP hD
    exact z_zret (v := q1.1) C (zbo_n hz) hP hD hS dX9_back_27
  · refine lv_iconst (v := (0 : Int32)) hx hb dX9_back_18 (by decide) ?_
    refine lv_goto (tgt := 23) hx hb dX9_back_19 (by decide) ?_
    refine z_put (w2 := vSR ht (ht_reader 0) (ht_rows 0) (ht_evidence 0) (ht_history 0) cy (0 : Int32) (SR_faultNumber St) (SR_faultPlace St) ++ (wRows ht_rows cy q1.2.1 ++ (wHi ht_history (ht_history_before 0) (ht_history_images 0) cy q1.2.2 ++ (wPool gB gI (ht_history_before 0) (ht_history_images 0) cy St_history_pool)))) hx hb hts in_X9 tyX9 tyX9_ok nmX9 hown hK hP hD hS 0 rfl rfl 4 (by decide) (hts _ q2_23) (fun _ h9 => h9) rfl rfl rfl (Nat.le_of_ble_eq_true rfl) dX9_back_23 rfl (fun H locs hP hD hS => ?_)
    refine lv_iload_n hx hb dX9_back_26 rfl (lv_at hl 0 rfl) ?_
    obtain ⟨hz, hf⟩ := zgd hf
    obtain rfl := Option.some.inj hf
    rw [← wSR_mk ht] at hP hD
    exact z_zret (v := q1.1) C (zbo_n hz) hP hD hS dX9_back_27
