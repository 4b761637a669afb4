/-! segments of the law's world -/
def zap : List va_W → va_W
  | [] => []
  | [x] => x
  | x :: y :: L => x ++ zap (y :: L)
theorem zap_flat : ∀ L : List va_W, zap L = L.flatten := by
  intro L
  induction L with
  | nil => rfl
  | cons x L ih =>
    cases L with
    | nil => show x = x ++ []; rw [List.append_nil]
    | cons y L => show x ++ zap (y :: L) = x ++ (y :: L).flatten; rw [ih]
def zat (v : List va_W) (i : Nat) : va_W := v.getD i []
theorem zat_range : ∀ v : List va_W, (List.range v.length).map (zat v) = v := by
  intro v
  apply List.ext_getElem
  · simp
  · intro i h1 h2
    simp [zat, h2]
theorem zseg (v : List va_W) (js ks : List Nat) {n : Nat} (hn : v.length = n) (h : List.Perm (List.range n) (js ++ ks)) : List.Perm (zap v) (zap (js.map (zat v)) ++ zap (ks.map (zat v))) := by
  subst hn
  have e : zap v = ((List.range v.length).map (zat v)).flatten := by rw [zat_range, zap_flat]
  have e2 : zap (js.map (zat v)) ++ zap (ks.map (zat v)) = ((js ++ ks).map (zat v)).flatten := by
    rw [zap_flat, zap_flat, List.map_append, List.flatten_append]
  rw [e, e2]
  exact (h.map (zat v)).flatten
theorem zseg' (v : List va_W) (js ks : List Nat) {n : Nat} (hn : v.length = n) (h : List.Perm (List.range n) (js ++ ks)) : List.Perm (zap (js.map (zat v)) ++ zap (ks.map (zat v))) (zap v) := (zseg v js ks hn h).symm
theorem zsegx (a b c d : va_W) : List.Perm (zap [a, b, c, d]) ((d ++ b) ++ (a ++ c)) := zseg [a, b, c, d] [3, 1] [0, 2] (n := 4) rfl (by decide)
