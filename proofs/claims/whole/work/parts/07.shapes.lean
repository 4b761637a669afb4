abbrev SRows : Type := Int32 × Int32 × Int32 × Int32 × Int32 × Int32 × Int64 × Int64 × Int64 × (Nat → Int32) × (Nat → Int64) × (Nat → Int32) × (Nat → Int32) × (Nat → Int32) × (Nat → Int32) × (Nat → Int32)
def Rows_ring (S : SRows) : Int32 := S.1
def Rows_rowCount (S : SRows) : Int32 := S.2.1
def Rows_crash (S : SRows) : Int32 := S.2.2.1
def Rows_nextStamp (S : SRows) : Int32 := S.2.2.2.1
def Rows_count (S : SRows) : Int32 := S.2.2.2.2.1
def Rows_lostSlots (S : SRows) : Int32 := S.2.2.2.2.2.1
def Rows_runningStamps (S : SRows) : Int64 := S.2.2.2.2.2.2.1
def Rows_doneStamps (S : SRows) : Int64 := S.2.2.2.2.2.2.2.1
def Rows_goneStamps (S : SRows) : Int64 := S.2.2.2.2.2.2.2.2.1
def Rows_stamps (S : SRows) : Nat → Int32 := S.2.2.2.2.2.2.2.2.2.1
def Rows_held (S : SRows) : Nat → Int64 := S.2.2.2.2.2.2.2.2.2.2.1
def Rows_rowsOf (S : SRows) : Nat → Int32 := S.2.2.2.2.2.2.2.2.2.2.2.1
def Rows_values (S : SRows) : Nat → Int32 := S.2.2.2.2.2.2.2.2.2.2.2.2.1
def Rows_froms (S : SRows) : Nat → Int32 := S.2.2.2.2.2.2.2.2.2.2.2.2.2.1
def Rows_tills (S : SRows) : Nat → Int32 := S.2.2.2.2.2.2.2.2.2.2.2.2.2.2.1
def Rows_made (S : SRows) : Nat → Int32 := S.2.2.2.2.2.2.2.2.2.2.2.2.2.2.2
def mkRows (v0 : Int32) (v1 : Int32) (v2 : Int32) (v3 : Int32) (v4 : Int32) (v5 : Int32) (v6 : Int64) (v7 : Int64) (v8 : Int64) (v9 : Nat → Int32) (v10 : Nat → Int64) (v11 : Nat → Int32) (v12 : Nat → Int32) (v13 : Nat → Int32) (v14 : Nat → Int32) (v15 : Nat → Int32) : SRows := (v0, v1, v2, v3, v4, v5, v6, v7, v8, v9, v10, v11, v12, v13, v14, v15)
def vRows (h : Nat → Nat) (cy : Nat → ClassId) (v0 : Int32) (v1 : Int32) (v2 : Int32) (v3 : Int32) (v4 : Int32) (v5 : Int32) (v6 : Int64) (v7 : Int64) (v8 : Int64) (v9 : Nat → Int32) (v10 : Nat → Int64) (v11 : Nat → Int32) (v12 : Nat → Int32) (v13 : Nat → Int32) (v14 : Nat → Int32) (v15 : Nat → Int32) : va_W := [(h 0, .inr (3, [.int v0, .int v1, .int v2, .int v3, .int v4, .int v5, .long v6, .long v7, .long v8, .ref (h 1), .ref (h 2), .ref (h 3), .ref (h 4), .ref (h 5), .ref (h 6), .ref (h 7)])), (h 1, .inl (cy 0, 6, .inl v9)), (h 2, .inl (cy 1, 6, .inr (.inl v10))), (h 3, .inl (cy 0, 48, .inl v11)), (h 4, .inl (cy 0, 48, .inl v12)), (h 5, .inl (cy 0, 48, .inl v13)), (h 6, .inl (cy 0, 48, .inl v14)), (h 7, .inl (cy 0, 48, .inl v15))]
def wRows (h : Nat → Nat) (cy : Nat → ClassId) (S : SRows) : va_W := vRows h cy (Rows_ring S) (Rows_rowCount S) (Rows_crash S) (Rows_nextStamp S) (Rows_count S) (Rows_lostSlots S) (Rows_runningStamps S) (Rows_doneStamps S) (Rows_goneStamps S) (Rows_stamps S) (Rows_held S) (Rows_rowsOf S) (Rows_values S) (Rows_froms S) (Rows_tills S) (Rows_made S)
theorem wRows_mk (h : Nat → Nat) (cy : Nat → ClassId) (v0 : Int32) (v1 : Int32) (v2 : Int32) (v3 : Int32) (v4 : Int32) (v5 : Int32) (v6 : Int64) (v7 : Int64) (v8 : Int64) (v9 : Nat → Int32) (v10 : Nat → Int64) (v11 : Nat → Int32) (v12 : Nat → Int32) (v13 : Nat → Int32) (v14 : Nat → Int32) (v15 : Nat → Int32) : wRows h cy (mkRows v0 v1 v2 v3 v4 v5 v6 v7 v8 v9 v10 v11 v12 v13 v14 v15) = vRows h cy v0 v1 v2 v3 v4 v5 v6 v7 v8 v9 v10 v11 v12 v13 v14 v15 := rfl
theorem in_X6 : ∀ w ∈ u_ws RX6 TX6 16, w ∈ WT := fun w h => wt_in ((by decide +kernel : ∀ w ∈ u_ws RX6 TX6 16, w ∈ lw_tbl) w h) ((by decide +kernel : ∀ w ∈ u_ws RX6 TX6 16, goodWord w = true) w h)
abbrev SEv : Type := Int32 × Int32 × Int32 × Int32 × (Nat → Int64) × (Nat → Int32) × (Nat → Int32) × (Nat → Int32)
def Ev_unsureCount (S : SEv) : Int32 := S.1
def Ev_seenCount (S : SEv) : Int32 := S.2.1
def Ev_fitCount (S : SEv) : Int32 := S.2.2.1
def Ev_firstWrong (S : SEv) : Int32 := S.2.2.2.1
def Ev_flips (S : SEv) : Nat → Int64 := S.2.2.2.2.1
def Ev_seenRows (S : SEv) : Nat → Int32 := S.2.2.2.2.2.1
def Ev_seenValues (S : SEv) : Nat → Int32 := S.2.2.2.2.2.2.1
def Ev_fitSets (S : SEv) : Nat → Int32 := S.2.2.2.2.2.2.2
def mkEv (v0 : Int32) (v1 : Int32) (v2 : Int32) (v3 : Int32) (v4 : Nat → Int64) (v5 : Nat → Int32) (v6 : Nat → Int32) (v7 : Nat → Int32) : SEv := (v0, v1, v2, v3, v4, v5, v6, v7)
def vEv (h : Nat → Nat) (cy : Nat → ClassId) (v0 : Int32) (v1 : Int32) (v2 : Int32) (v3 : Int32) (v4 : Nat → Int64) (v5 : Nat → Int32) (v6 : Nat → Int32) (v7 : Nat → Int32) : va_W := [(h 0, .inr (0, [.int v0, .int v1, .int v2, .int v3, .ref (h 1), .ref (h 2), .ref (h 3), .ref (h 4)])), (h 1, .inl (cy 1, 4, .inr (.inl v4))), (h 2, .inl (cy 0, 8, .inl v5)), (h 3, .inl (cy 0, 8, .inl v6)), (h 4, .inl (cy 0, 16, .inl v7))]
def wEv (h : Nat → Nat) (cy : Nat → ClassId) (S : SEv) : va_W := vEv h cy (Ev_unsureCount S) (Ev_seenCount S) (Ev_fitCount S) (Ev_firstWrong S) (Ev_flips S) (Ev_seenRows S) (Ev_seenValues S) (Ev_fitSets S)
theorem wEv_mk (h : Nat → Nat) (cy : Nat → ClassId) (v0 : Int32) (v1 : Int32) (v2 : Int32) (v3 : Int32) (v4 : Nat → Int64) (v5 : Nat → Int32) (v6 : Nat → Int32) (v7 : Nat → Int32) : wEv h cy (mkEv v0 v1 v2 v3 v4 v5 v6 v7) = vEv h cy v0 v1 v2 v3 v4 v5 v6 v7 := rfl
theorem in_X2 : ∀ w ∈ u_ws RX2 TX2 8, w ∈ WT := fun w h => wt_in ((by decide +kernel : ∀ w ∈ u_ws RX2 TX2 8, w ∈ lw_tbl) w h) ((by decide +kernel : ∀ w ∈ u_ws RX2 TX2 8, goodWord w = true) w h)
abbrev STape : Type := Int32 × Int32 × Int32 × Int64 × Int32 × Int32 × (Nat → Int32)
def Tape_size (S : STape) : Int32 := S.1
def Tape_kind (S : STape) : Int32 := S.2.1
def Tape_start (S : STape) : Int32 := S.2.2.1
def Tape_value (S : STape) : Int64 := S.2.2.2.1
def Tape_after (S : STape) : Int32 := S.2.2.2.2.1
def Tape_length (S : STape) : Int32 := S.2.2.2.2.2.1
def Tape_bytes (S : STape) : Nat → Int32 := S.2.2.2.2.2.2
def mkTape (v0 : Int32) (v1 : Int32) (v2 : Int32) (v3 : Int64) (v4 : Int32) (v5 : Int32) (v6 : Nat → Int32) : STape := (v0, v1, v2, v3, v4, v5, v6)
def vTape (h : Nat → Nat) (cy : Nat → ClassId) (v0 : Int32) (v1 : Int32) (v2 : Int32) (v3 : Int64) (v4 : Int32) (v5 : Int32) (v6 : Nat → Int32) : va_W := [(h 0, .inr (4, [.int v0, .int v1, .int v2, .long v3, .int v4, .int v5, .ref (h 1)])), (h 1, .inl (cy 2, 900, .inl v6))]
def wTape (h : Nat → Nat) (cy : Nat → ClassId) (S : STape) : va_W := vTape h cy (Tape_size S) (Tape_kind S) (Tape_start S) (Tape_value S) (Tape_after S) (Tape_length S) (Tape_bytes S)
theorem wTape_mk (h : Nat → Nat) (cy : Nat → ClassId) (v0 : Int32) (v1 : Int32) (v2 : Int32) (v3 : Int64) (v4 : Int32) (v5 : Int32) (v6 : Nat → Int32) : wTape h cy (mkTape v0 v1 v2 v3 v4 v5 v6) = vTape h cy v0 v1 v2 v3 v4 v5 v6 := rfl
theorem in_X7 : ∀ w ∈ u_ws RX7 TX7 7, w ∈ WT := fun w h => wt_in ((by decide +kernel : ∀ w ∈ u_ws RX7 TX7 7, w ∈ lw_tbl) w h) ((by decide +kernel : ∀ w ∈ u_ws RX7 TX7 7, goodWord w = true) w h)
abbrev SRd : Type := Int32 × Int32 × Int32 × (Nat → Int64) × (Nat → Int32) × (Nat → Int32) × (Nat → Int32) × Int32 × Option Nat × Int32 × Int32 × Int32
def Rd_fault (S : SRd) : Int32 := S.1
def Rd_place (S : SRd) : Int32 := S.2.1
def Rd_nameCount (S : SRd) : Int32 := S.2.2.1
def Rd_names (S : SRd) : Nat → Int64 := S.2.2.2.1
def Rd_nameStamps (S : SRd) : Nat → Int32 := S.2.2.2.2.1
def Rd_nameSlots (S : SRd) : Nat → Int32 := S.2.2.2.2.2.1
def Rd_unsureNames (S : SRd) : Nat → Int32 := S.2.2.2.2.2.2.1
def Rd_unsureCount (S : SRd) : Int32 := S.2.2.2.2.2.2.2.1
def Rd_head (S : SRd) : Option Nat := S.2.2.2.2.2.2.2.2.1
def Rd_name (S : SRd) : Int32 := S.2.2.2.2.2.2.2.2.2.1
def Rd_row (S : SRd) : Int32 := S.2.2.2.2.2.2.2.2.2.2.1
def Rd_whole (S : SRd) : Int32 := S.2.2.2.2.2.2.2.2.2.2.2
def mkRd (v0 : Int32) (v1 : Int32) (v2 : Int32) (v3 : Nat → Int64) (v4 : Nat → Int32) (v5 : Nat → Int32) (v6 : Nat → Int32) (v7 : Int32) (v8 : Option Nat) (v9 : Int32) (v10 : Int32) (v11 : Int32) : SRd := (v0, v1, v2, v3, v4, v5, v6, v7, v8, v9, v10, v11)
def vRd (h : Nat → Nat) (a_rows : Nat) (a_evidence : Nat) (a_tape : Nat) (ad : Nat → Nat) (cy : Nat → ClassId) (v0 : Int32) (v1 : Int32) (v2 : Int32) (v3 : Nat → Int64) (v4 : Nat → Int32) (v5 : Nat → Int32) (v6 : Nat → Int32) (v7 : Int32) (v8 : Option Nat) (v9 : Int32) (v10 : Int32) (v11 : Int32) : va_W := [(h 0, .inr (2, [.int v0, .int v1, .ref a_rows, .ref a_evidence, .ref a_tape, .int v2, .ref (h 1), .ref (h 2), .ref (h 3), .ref (h 4), .int v7, va_re ad v8, .int v9, .int v10, .int v11])), (h 1, .inl (cy 1, 12, .inr (.inl v3))), (h 2, .inl (cy 0, 12, .inl v4)), (h 3, .inl (cy 0, 12, .inl v5)), (h 4, .inl (cy 0, 4, .inl v6))]
def wRd (h : Nat → Nat) (a_rows : Nat) (a_evidence : Nat) (a_tape : Nat) (ad : Nat → Nat) (cy : Nat → ClassId) (S : SRd) : va_W := vRd h a_rows a_evidence a_tape ad cy (Rd_fault S) (Rd_place S) (Rd_nameCount S) (Rd_names S) (Rd_nameStamps S) (Rd_nameSlots S) (Rd_unsureNames S) (Rd_unsureCount S) (Rd_head S) (Rd_name S) (Rd_row S) (Rd_whole S)
theorem wRd_mk (h : Nat → Nat) (a_rows : Nat) (a_evidence : Nat) (a_tape : Nat) (ad : Nat → Nat) (cy : Nat → ClassId) (v0 : Int32) (v1 : Int32) (v2 : Int32) (v3 : Nat → Int64) (v4 : Nat → Int32) (v5 : Nat → Int32) (v6 : Nat → Int32) (v7 : Int32) (v8 : Option Nat) (v9 : Int32) (v10 : Int32) (v11 : Int32) : wRd h a_rows a_evidence a_tape ad cy (mkRd v0 v1 v2 v3 v4 v5 v6 v7 v8 v9 v10 v11) = vRd h a_rows a_evidence a_tape ad cy v0 v1 v2 v3 v4 v5 v6 v7 v8 v9 v10 v11 := rfl
theorem in_X5 : ∀ w ∈ u_ws RX5 TX5 15, w ∈ WT := fun w h => wt_in ((by decide +kernel : ∀ w ∈ u_ws RX5 TX5 15, w ∈ lw_tbl) w h) ((by decide +kernel : ∀ w ∈ u_ws RX5 TX5 15, goodWord w = true) w h)
abbrev SSR : Type := Int32 × Int32 × Int32
def SR_troubleNumber (S : SSR) : Int32 := S.1
def SR_faultNumber (S : SSR) : Int32 := S.2.1
def SR_faultPlace (S : SSR) : Int32 := S.2.2
def mkSR (v0 : Int32) (v1 : Int32) (v2 : Int32) : SSR := (v0, v1, v2)
def vSR (h : Nat → Nat) (a_reader : Nat) (a_rows : Nat) (a_evidence : Nat) (a_history : Nat) (cy : Nat → ClassId) (v0 : Int32) (v1 : Int32) (v2 : Int32) : va_W := [(h 0, .inr (5, [.ref a_reader, .ref a_rows, .ref a_evidence, .ref a_history, .int v0, .int v1, .int v2]))]
def wSR (h : Nat → Nat) (a_reader : Nat) (a_rows : Nat) (a_evidence : Nat) (a_history : Nat) (cy : Nat → ClassId) (S : SSR) : va_W := vSR h a_reader a_rows a_evidence a_history cy (SR_troubleNumber S) (SR_faultNumber S) (SR_faultPlace S)
theorem wSR_mk (h : Nat → Nat) (a_reader : Nat) (a_rows : Nat) (a_evidence : Nat) (a_history : Nat) (cy : Nat → ClassId) (v0 : Int32) (v1 : Int32) (v2 : Int32) : wSR h a_reader a_rows a_evidence a_history cy (mkSR v0 v1 v2) = vSR h a_reader a_rows a_evidence a_history cy v0 v1 v2 := rfl
theorem in_X9 : ∀ w ∈ u_ws RX9 TX9 7, w ∈ WT := fun w h => wt_in ((by decide +kernel : ∀ w ∈ u_ws RX9 TX9 7, w ∈ lw_tbl) w h) ((by decide +kernel : ∀ w ∈ u_ws RX9 TX9 7, goodWord w = true) w h)
abbrev SHi : Type := Int32 × Int32 × Int32
def Hi_actCount (S : SHi) : Int32 := S.1
def Hi_imageCount (S : SHi) : Int32 := S.2.1
def Hi_newest (S : SHi) : Int32 := S.2.2
def mkHi (v0 : Int32) (v1 : Int32) (v2 : Int32) : SHi := (v0, v1, v2)
def vHi (h : Nat → Nat) (a_before : Nat) (a_images : Nat) (cy : Nat → ClassId) (v0 : Int32) (v1 : Int32) (v2 : Int32) : va_W := [(h 0, .inr (1, [.int v0, .int v1, .int v2, .ref a_before, .ref a_images]))]
def wHi (h : Nat → Nat) (a_before : Nat) (a_images : Nat) (cy : Nat → ClassId) (S : SHi) : va_W := vHi h a_before a_images cy (Hi_actCount S) (Hi_imageCount S) (Hi_newest S)
theorem wHi_mk (h : Nat → Nat) (a_before : Nat) (a_images : Nat) (cy : Nat → ClassId) (v0 : Int32) (v1 : Int32) (v2 : Int32) : wHi h a_before a_images cy (mkHi v0 v1 v2) = vHi h a_before a_images cy v0 v1 v2 := rfl
theorem in_X4 : ∀ w ∈ u_ws RX4 TX4 5, w ∈ WT := fun w h => wt_in ((by decide +kernel : ∀ w ∈ u_ws RX4 TX4 5, w ∈ lw_tbl) w h) ((by decide +kernel : ∀ w ∈ u_ws RX4 TX4 5, goodWord w = true) w h)
abbrev SMo : Type := Int32 × Int32 × Int32 × Int32 × Int32 × Int32 × Int32 × Int32 × Int32 × Int32 × Int32 × Int32 × Int32 × Int32 × Int32 × Int32 × Int32 × Int32 × Int32 × Int32 × Int32 × Int64 × Int64 × Int64
def Mo_thrown (S : SMo) : Int32 := S.1
def Mo_taped (S : SMo) : Int32 := S.2.1
def Mo_size (S : SMo) : Int32 := S.2.2.1
def Mo_at (S : SMo) : Int32 := S.2.2.2.1
def Mo_end (S : SMo) : Int32 := S.2.2.2.2.1
def Mo_token (S : SMo) : Int32 := S.2.2.2.2.2.1
def Mo_whole (S : SMo) : Int32 := S.2.2.2.2.2.2.1
def Mo_nameSize (S : SMo) : Int32 := S.2.2.2.2.2.2.2.1
def Mo_fault (S : SMo) : Int32 := S.2.2.2.2.2.2.2.2.1
def Mo_place (S : SMo) : Int32 := S.2.2.2.2.2.2.2.2.2.1
def Mo_trouble (S : SMo) : Int32 := S.2.2.2.2.2.2.2.2.2.2.1
def Mo_failed (S : SMo) : Int32 := S.2.2.2.2.2.2.2.2.2.2.2.1
def Mo_hasStore (S : SMo) : Int32 := S.2.2.2.2.2.2.2.2.2.2.2.2.1
def Mo_undos (S : SMo) : Int32 := S.2.2.2.2.2.2.2.2.2.2.2.2.2.1
def Mo_images (S : SMo) : Int32 := S.2.2.2.2.2.2.2.2.2.2.2.2.2.2.1
def Mo_ring (S : SMo) : Int32 := S.2.2.2.2.2.2.2.2.2.2.2.2.2.2.2.1
def Mo_refused (S : SMo) : Int32 := S.2.2.2.2.2.2.2.2.2.2.2.2.2.2.2.2.1
def Mo_setMany (S : SMo) : Int32 := S.2.2.2.2.2.2.2.2.2.2.2.2.2.2.2.2.2.1
def Mo_someOf (S : SMo) : Int32 := S.2.2.2.2.2.2.2.2.2.2.2.2.2.2.2.2.2.2.1
def Mo_allOf (S : SMo) : Int32 := S.2.2.2.2.2.2.2.2.2.2.2.2.2.2.2.2.2.2.2.1
def Mo_firstRest (S : SMo) : Int32 := S.2.2.2.2.2.2.2.2.2.2.2.2.2.2.2.2.2.2.2.2.1
def Mo_allWeight (S : SMo) : Int64 := S.2.2.2.2.2.2.2.2.2.2.2.2.2.2.2.2.2.2.2.2.2.1
def Mo_seenWeight (S : SMo) : Int64 := S.2.2.2.2.2.2.2.2.2.2.2.2.2.2.2.2.2.2.2.2.2.2.1
def Mo_sumWeight (S : SMo) : Int64 := S.2.2.2.2.2.2.2.2.2.2.2.2.2.2.2.2.2.2.2.2.2.2.2
def mkMo (v0 : Int32) (v1 : Int32) (v2 : Int32) (v3 : Int32) (v4 : Int32) (v5 : Int32) (v6 : Int32) (v7 : Int32) (v8 : Int32) (v9 : Int32) (v10 : Int32) (v11 : Int32) (v12 : Int32) (v13 : Int32) (v14 : Int32) (v15 : Int32) (v16 : Int32) (v17 : Int32) (v18 : Int32) (v19 : Int32) (v20 : Int32) (v21 : Int64) (v22 : Int64) (v23 : Int64) : SMo := (v0, v1, v2, v3, v4, v5, v6, v7, v8, v9, v10, v11, v12, v13, v14, v15, v16, v17, v18, v19, v20, v21, v22, v23)
def vMo (h : Nat → Nat) (cy : Nat → ClassId) (v0 : Int32) (v1 : Int32) (v2 : Int32) (v3 : Int32) (v4 : Int32) (v5 : Int32) (v6 : Int32) (v7 : Int32) (v8 : Int32) (v9 : Int32) (v10 : Int32) (v11 : Int32) (v12 : Int32) (v13 : Int32) (v14 : Int32) (v15 : Int32) (v16 : Int32) (v17 : Int32) (v18 : Int32) (v19 : Int32) (v20 : Int32) (v21 : Int64) (v22 : Int64) (v23 : Int64) : va_W := [(h 0, .inr (6, [.int v0, .ref (h 1), .int v1, .int v2, .int v3, .int v4, .int v5, .int v6, .int v7, .int v8, .int v9, .int v10, .ref (h 2), .int v11, .int v12, .ref (h 3), .ref (h 4), .ref (h 5), .ref (h 6), .ref (h 7), .ref (h 8), .ref (h 9), .ref (h 10), .ref (h 11), .ref (h 12), .int v13, .int v14, .int v15, .int v16, .ref (h 13), .ref (h 14), .ref (h 15), .ref (h 16), .ref (h 17), .int v17, .int v18, .int v19, .int v20, .long v21, .long v22, .long v23]))]
def wMo (h : Nat → Nat) (cy : Nat → ClassId) (S : SMo) : va_W := vMo h cy (Mo_thrown S) (Mo_taped S) (Mo_size S) (Mo_at S) (Mo_end S) (Mo_token S) (Mo_whole S) (Mo_nameSize S) (Mo_fault S) (Mo_place S) (Mo_trouble S) (Mo_failed S) (Mo_hasStore S) (Mo_undos S) (Mo_images S) (Mo_ring S) (Mo_refused S) (Mo_setMany S) (Mo_someOf S) (Mo_allOf S) (Mo_firstRest S) (Mo_allWeight S) (Mo_seenWeight S) (Mo_sumWeight S)
theorem wMo_mk (h : Nat → Nat) (cy : Nat → ClassId) (v0 : Int32) (v1 : Int32) (v2 : Int32) (v3 : Int32) (v4 : Int32) (v5 : Int32) (v6 : Int32) (v7 : Int32) (v8 : Int32) (v9 : Int32) (v10 : Int32) (v11 : Int32) (v12 : Int32) (v13 : Int32) (v14 : Int32) (v15 : Int32) (v16 : Int32) (v17 : Int32) (v18 : Int32) (v19 : Int32) (v20 : Int32) (v21 : Int64) (v22 : Int64) (v23 : Int64) : wMo h cy (mkMo v0 v1 v2 v3 v4 v5 v6 v7 v8 v9 v10 v11 v12 v13 v14 v15 v16 v17 v18 v19 v20 v21 v22 v23) = vMo h cy v0 v1 v2 v3 v4 v5 v6 v7 v8 v9 v10 v11 v12 v13 v14 v15 v16 v17 v18 v19 v20 v21 v22 v23 := rfl
theorem in_X10 : ∀ w ∈ u_ws RX10 TX10 41, w ∈ WT := fun w h => wt_in ((by decide +kernel : ∀ w ∈ u_ws RX10 TX10 41, w ∈ lw_tbl) w h) ((by decide +kernel : ∀ w ∈ u_ws RX10 TX10 41, goodWord w = true) w h)
