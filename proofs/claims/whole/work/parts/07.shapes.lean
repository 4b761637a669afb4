abbrev SRows : Type := Int32 × Int32 × Int32 × Int32 × Int32 × Int32 × Int64 × Int64 × Int64 × (Nat → Int32) × (Nat → Int64) × (Nat → Int32) × (Nat → Int32) × (Nat → Int32) × (Nat → Int32) × (Nat → Int32)
def Rows_ring (S : SRows) : Int32 := S.1
def Rows_rowCount (S : SRows) : Int32 := S.2.1
def Rows_crash (S : SRows) : Int32 := S.2.2.1
def Rows_nextStamp (S : SRows) : Int32 := S.2.2.2.1
def Rows_count (S : SRows) : Int32 := S.2.2.2.2.1
def Rows_lostSlots (S : SRows) : Int32 := S.2.2.2.2.2.1
def Rows_runningStamps (S : SRows) : Int64 := S.2.2.2.2.2.2.1
def Rows_doneStamps (S : SRows) : Int64 := S.2.2.2.2.2.2.2.1
def Rows_goneStamps (S : SRows) : Int64 := S.2.2.2.2.2.2.2.2.1
def Rows_stamps (S : SRows) : Nat → Int32 := S.2.2.2.2.2.2.2.2.2.1
def Rows_held (S : SRows) : Nat → Int64 := S.2.2.2.2.2.2.2.2.2.2.1
def Rows_rowsOf (S : SRows) : Nat → Int32 := S.2.2.2.2.2.2.2.2.2.2.2.1
def Rows_values (S : SRows) : Nat → Int32 := S.2.2.2.2.2.2.2.2.2.2.2.2.1
def Rows_froms (S : SRows) : Nat → Int32 := S.2.2.2.2.2.2.2.2.2.2.2.2.2.1
def Rows_tills (S : SRows) : Nat → Int32 := S.2.2.2.2.2.2.2.2.2.2.2.2.2.2.1
def Rows_made (S : SRows) : Nat → Int32 := S.2.2.2.2.2.2.2.2.2.2.2.2.2.2.2
def mkRows (v0 : Int32) (v1 : Int32) (v2 : Int32) (v3 : Int32) (v4 : Int32) (v5 : Int32) (v6 : Int64) (v7 : Int64) (v8 : Int64) (v9 : Nat → Int32) (v10 : Nat → Int64) (v11 : Nat → Int32) (v12 : Nat → Int32) (v13 : Nat → Int32) (v14 : Nat → Int32) (v15 : Nat → Int32) : SRows := (v0, v1, v2, v3, v4, v5, v6, v7, v8, v9, v10, v11, v12, v13, v14, v15)
def vRows (h : Nat → Nat) (cy : Nat → ClassId) (v0 : Int32) (v1 : Int32) (v2 : Int32) (v3 : Int32) (v4 : Int32) (v5 : Int32) (v6 : Int64) (v7 : Int64) (v8 : Int64) (v9 : Nat → Int32) (v10 : Nat → Int64) (v11 : Nat → Int32) (v12 : Nat → Int32) (v13 : Nat → Int32) (v14 : Nat → Int32) (v15 : Nat → Int32) : va_W := [(h 0, .inr (3, [.int v0, .int v1, .int v2, .int v3, .int v4, .int v5, .long v6, .long v7, .long v8, .ref (h 1), .ref (h 2), .ref (h 3), .ref (h 4), .ref (h 5), .ref (h 6), .ref (h 7)])), (h 1, .inl (cy 0, 6, .inl v9)), (h 2, .inl (cy 1, 6, .inr (.inl v10))), (h 3, .inl (cy 0, 48, .inl v11)), (h 4, .inl (cy 0, 48, .inl v12)), (h 5, .inl (cy 0, 48, .inl v13)), (h 6, .inl (cy 0, 48, .inl v14)), (h 7, .inl (cy 0, 48, .inl v15))]
def wRows (h : Nat → Nat) (cy : Nat → ClassId) (S : SRows) : va_W := vRows h cy (Rows_ring S) (Rows_rowCount S) (Rows_crash S) (Rows_nextStamp S) (Rows_count S) (Rows_lostSlots S) (Rows_runningStamps S) (Rows_doneStamps S) (Rows_goneStamps S) (Rows_stamps S) (Rows_held S) (Rows_rowsOf S) (Rows_values S) (Rows_froms S) (Rows_tills S) (Rows_made S)
theorem wRows_mk (h : Nat → Nat) (cy : Nat → ClassId) (v0 : Int32) (v1 : Int32) (v2 : Int32) (v3 : Int32) (v4 : Int32) (v5 : Int32) (v6 : Int64) (v7 : Int64) (v8 : Int64) (v9 : Nat → Int32) (v10 : Nat → Int64) (v11 : Nat → Int32) (v12 : Nat → Int32) (v13 : Nat → Int32) (v14 : Nat → Int32) (v15 : Nat → Int32) : wRows h cy (mkRows v0 v1 v2 v3 v4 v5 v6 v7 v8 v9 v10 v11 v12 v13 v14 v15) = vRows h cy v0 v1 v2 v3 v4 v5 v6 v7 v8 v9 v10 v11 v12 v13 v14 v15 := rfl
theorem in_X6 : ∀ w ∈ u_ws RX6 TX6 16, w ∈ WT := fun w h => wt_in ((by decide +kernel : ∀ w ∈ u_ws RX6 TX6 16, w ∈ lw_tbl) w h) ((by decide +kernel : ∀ w ∈ u_ws RX6 TX6 16, goodWord w = true) w h)
