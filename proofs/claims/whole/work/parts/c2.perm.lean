/-! three groups of segments -/
theorem zseg3 (v : List va_W) (is js ks : List Nat) {n : Nat} (hn : v.length = n) (h : List.Perm (List.range n) ((is ++ js) ++ ks)) : List.Perm ((zap (is.map (zat v)) ++ zap (js.map (zat v))) ++ zap (ks.map (zat v))) (zap v) := by
  subst hn
  have e : zap v = ((List.range v.length).map (zat v)).flatten := by rw [zat_range, zap_flat]
  have e2 : (zap (is.map (zat v)) ++ zap (js.map (zat v))) ++ zap (ks.map (zat v)) = (((is ++ js) ++ ks).map (zat v)).flatten := by
    rw [zap_flat, zap_flat, zap_flat, List.map_append, List.map_append, List.flatten_append, List.flatten_append]
  rw [e, e2]
  exact (h.symm.map (zat v)).flatten
