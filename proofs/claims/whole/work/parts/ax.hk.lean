section
variable {B : Type} {g : B → Prop}
theorem NQ_m2 {A0 A1 : Type} {pr : A0 → Prop} {f : (A0 → A1 → Option B) → A0 → A1 → Option B} (h : ∀ k, (∀ a0 a1, pr a0 → NQ g (k a0 a1)) → ∀ a0 a1, pr a0 → NQ g (f k a0 a1)) : ∀ (n : Nat) a0 a1, pr a0 → NQ g (zl2 f n a0 a1) := by
  intro n
  induction n with
  | zero => intro a0 a1 _; exact NQ_n
  | succ n ih => intro a0 a1 ha; exact h _ ih a0 a1 ha
theorem NQ_l2 {A0 A1 : Type} {f : (A0 → A1 → Option B) → A0 → A1 → Option B} (h : ∀ k, (∀ a0 a1, NQ g (k a0 a1)) → ∀ a0 a1, NQ g (f k a0 a1)) : ∀ (n : Nat) a0 a1, NQ g (zl2 f n a0 a1) := by
  intro n
  induction n with
  | zero => intro a0 a1; exact NQ_n
  | succ n ih => intro a0 a1; exact h _ ih a0 a1
theorem NQ_m3 {A0 A1 A2 : Type} {pr : A0 → Prop} {f : (A0 → A1 → A2 → Option B) → A0 → A1 → A2 → Option B} (h : ∀ k, (∀ a0 a1 a2, pr a0 → NQ g (k a0 a1 a2)) → ∀ a0 a1 a2, pr a0 → NQ g (f k a0 a1 a2)) : ∀ (n : Nat) a0 a1 a2, pr a0 → NQ g (zl3 f n a0 a1 a2) := by
  intro n
  induction n with
  | zero => intro a0 a1 a2 _; exact NQ_n
  | succ n ih => intro a0 a1 a2 ha; exact h _ ih a0 a1 a2 ha
theorem NQ_m4 {A0 A1 A2 A3 : Type} {pr : A0 → Prop} {f : (A0 → A1 → A2 → A3 → Option B) → A0 → A1 → A2 → A3 → Option B} (h : ∀ k, (∀ a0 a1 a2 a3, pr a0 → NQ g (k a0 a1 a2 a3)) → ∀ a0 a1 a2 a3, pr a0 → NQ g (f k a0 a1 a2 a3)) : ∀ (n : Nat) a0 a1 a2 a3, pr a0 → NQ g (zl4 f n a0 a1 a2 a3) := by
  intro n
  induction n with
  | zero => intro a0 a1 a2 a3 _; exact NQ_n
  | succ n ih => intro a0 a1 a2 a3 ha; exact h _ ih a0 a1 a2 a3 ha
theorem NQ_l4 {A0 A1 A2 A3 : Type} {f : (A0 → A1 → A2 → A3 → Option B) → A0 → A1 → A2 → A3 → Option B} (h : ∀ k, (∀ a0 a1 a2 a3, NQ g (k a0 a1 a2 a3)) → ∀ a0 a1 a2 a3, NQ g (f k a0 a1 a2 a3)) : ∀ (n : Nat) a0 a1 a2 a3, NQ g (zl4 f n a0 a1 a2 a3) := by
  intro n
  induction n with
  | zero => intro a0 a1 a2 a3; exact NQ_n
  | succ n ih => intro a0 a1 a2 a3; exact h _ ih a0 a1 a2 a3
theorem NQ_m5 {A0 A1 A2 A3 A4 : Type} {pr : A0 → Prop} {f : (A0 → A1 → A2 → A3 → A4 → Option B) → A0 → A1 → A2 → A3 → A4 → Option B} (h : ∀ k, (∀ a0 a1 a2 a3 a4, pr a0 → NQ g (k a0 a1 a2 a3 a4)) → ∀ a0 a1 a2 a3 a4, pr a0 → NQ g (f k a0 a1 a2 a3 a4)) : ∀ (n : Nat) a0 a1 a2 a3 a4, pr a0 → NQ g (zl5 f n a0 a1 a2 a3 a4) := by
  intro n
  induction n with
  | zero => intro a0 a1 a2 a3 a4 _; exact NQ_n
  | succ n ih => intro a0 a1 a2 a3 a4 ha; exact h _ ih a0 a1 a2 a3 a4 ha
theorem NQ_m6 {A0 A1 A2 A3 A4 A5 : Type} {pr : A0 → Prop} {f : (A0 → A1 → A2 → A3 → A4 → A5 → Option B) → A0 → A1 → A2 → A3 → A4 → A5 → Option B} (h : ∀ k, (∀ a0 a1 a2 a3 a4 a5, pr a0 → NQ g (k a0 a1 a2 a3 a4 a5)) → ∀ a0 a1 a2 a3 a4 a5, pr a0 → NQ g (f k a0 a1 a2 a3 a4 a5)) : ∀ (n : Nat) a0 a1 a2 a3 a4 a5, pr a0 → NQ g (zl6 f n a0 a1 a2 a3 a4 a5) := by
  intro n
  induction n with
  | zero => intro a0 a1 a2 a3 a4 a5 _; exact NQ_n
  | succ n ih => intro a0 a1 a2 a3 a4 a5 ha; exact h _ ih a0 a1 a2 a3 a4 a5 ha
theorem NQ_l6 {A0 A1 A2 A3 A4 A5 : Type} {f : (A0 → A1 → A2 → A3 → A4 → A5 → Option B) → A0 → A1 → A2 → A3 → A4 → A5 → Option B} (h : ∀ k, (∀ a0 a1 a2 a3 a4 a5, NQ g (k a0 a1 a2 a3 a4 a5)) → ∀ a0 a1 a2 a3 a4 a5, NQ g (f k a0 a1 a2 a3 a4 a5)) : ∀ (n : Nat) a0 a1 a2 a3 a4 a5, NQ g (zl6 f n a0 a1 a2 a3 a4 a5) := by
  intro n
  induction n with
  | zero => intro a0 a1 a2 a3 a4 a5; exact NQ_n
  | succ n ih => intro a0 a1 a2 a3 a4 a5; exact h _ ih a0 a1 a2 a3 a4 a5
end
theorem HK_f_X10_anew {u : Int32} {St : SMo} (h0 : Mo_hasStore St = u) : NQ (fun r => Mo_hasStore r = u) (f_X10_anew St) := by
  unfold f_X10_anew
  exact NQ_s (h0)
theorem HK_f_X10_no {u : Int32} {St : SMo} {x1 : Int32} (h0 : Mo_hasStore St = u) : NQ (fun r => Mo_hasStore r.2 = u) (f_X10_no St x1) := by
  unfold f_X10_no
  exact NQ_s (h0)
theorem HK_b_X10_become_50 {u : Int32} {St_trial : Nat → Int32} {St : SMo} {St_st : Nat → Int32} {St_undone : Nat → Int32} (h0 : Mo_hasStore St = u) : NQ (fun r => Mo_hasStore r.1 = u) (b_X10_become_50 St_trial St St_st St_undone) := by
  unfold b_X10_become_50
  exact NQ_b (fun q1 => NQ_b (fun q2 => NQ_s (h0)))
theorem HK_b_X10_become_11 {u : Int32} {St_trial : Nat → Int32} {k11 : SMo → (Nat → Int32) → (Nat → Int32) → Int32 → Option (SMo × (Nat → Int32) × (Nat → Int32))} {St : SMo} {St_st : Nat → Int32} {St_undone : Nat → Int32} {v1 : Int32} (h0 : Mo_hasStore St = u) (hk : ∀ a0 a1 a2 a3, Mo_hasStore a0 = u → NQ (fun r => Mo_hasStore r.1 = u) (k11 a0 a1 a2 a3)) : NQ (fun r => Mo_hasStore r.1 = u) (b_X10_become_11 St_trial k11 St St_st St_undone v1) := by
  unfold b_X10_become_11
  exact NQ_i (HK_b_X10_become_50 (h0)) (NQ_i (NQ_i (hk _ _ _ _ (h0)) (NQ_n)) (NQ_n))
theorem HK_f_X10_become {u : Int32} {St : SMo} {St_st : Nat → Int32} {St_trial : Nat → Int32} {St_undone : Nat → Int32} (h0 : Mo_hasStore St = u) : NQ (fun r => Mo_hasStore r.1 = u) (f_X10_become St St_st St_trial St_undone) := by
  unfold f_X10_become
  exact NQ_i (NQ_m4 (pr := fun s => Mo_hasStore s = u) (fun k hk a0 a1 a2 a3 ha => HK_b_X10_become_11 ha hk) FU _ _ _ _ (h0)) (HK_b_X10_become_50 (h0))
theorem HK_f_X10_begin {u : Int32} {St : SMo} {St_st : Nat → Int32} {St_trial : Nat → Int32} {St_undone : Nat → Int32} (h0 : Mo_hasStore St = u) : NQ (fun r => Mo_hasStore r.2.1 = u) (f_X10_begin St St_st St_trial St_undone) := by
  unfold f_X10_begin
  exact NQ_bp (HK_f_X10_anew (h0)) (fun q1 hq1 => NQ_i (NQ_bp (HK_f_X10_no (hq1)) (fun q7 hq7 => NQ_s (hq7))) (NQ_b (fun q2 => NQ_i (NQ_bp (HK_f_X10_no (hq1)) (fun q6 hq6 => NQ_s (hq6))) (NQ_b (fun q3 => NQ_b (fun q4 => NQ_bp (HK_f_X10_become (hq1)) (fun q5 hq5 => NQ_s (hq5))))))))
theorem HK_b_X10_isBarred_28 {u : Int32} {x2 : Int32} {x3 : Int32} {St : SMo} {Sp1 : Nat → Int32} {u1 : Int32} (h0 : Mo_hasStore St = u) : NQ (fun r => Mo_hasStore r.2.1 = u) (b_X10_isBarred_28 x2 x3 St Sp1 u1) := by
  unfold b_X10_isBarred_28
  exact NQ_i (NQ_b (fun q1 => NQ_i (NQ_s (h0)) (NQ_i (NQ_i (NQ_s (h0)) (NQ_n)) (NQ_n)))) (NQ_s (h0))
theorem HK_f_X10_isBarred {u : Int32} {St : SMo} {Sp1 : Nat → Int32} {x2 : Int32} {x3 : Int32} (h0 : Mo_hasStore St = u) : NQ (fun r => Mo_hasStore r.2.1 = u) (f_X10_isBarred St Sp1 x2 x3) := by
  unfold f_X10_isBarred
  exact NQ_i (NQ_b (fun q2 => NQ_i (NQ_b (fun q3 => NQ_i (HK_b_X10_isBarred_28 (h0)) (HK_b_X10_isBarred_28 (h0)))) (HK_b_X10_isBarred_28 (h0)))) (NQ_n)
theorem HK_b_X10_putOn_95 {u : Int32} {x2 : Int32} {x3 : Int32} {x4 : Int32} {St : SMo} {Sp1 : Nat → Int32} {v6 : Int32} {v7 : Int32} (h0 : Mo_hasStore St = u) : NQ (fun r => Mo_hasStore r.2.1 = u) (b_X10_putOn_95 x2 x3 x4 St Sp1 v6 v7) := by
  unfold b_X10_putOn_95
  exact NQ_i (NQ_i (NQ_i (NQ_i (NQ_i (NQ_i (NQ_i (NQ_i (NQ_s (h0)) (NQ_n)) (NQ_n)) (NQ_n)) (NQ_n)) (NQ_n)) (NQ_n)) (NQ_n)) (NQ_n)
theorem HK_b_X10_putOn_60 {u : Int32} {x2 : Int32} {x3 : Int32} {x4 : Int32} {St : SMo} {Sp1 : Nat → Int32} {v5 : Int32} {v6 : Int32} (h0 : Mo_hasStore St = u) : NQ (fun r => Mo_hasStore r.2.1 = u) (b_X10_putOn_60 x2 x3 x4 St Sp1 v5 v6) := by
  unfold b_X10_putOn_60
  exact NQ_b (fun q1 => NQ_i (NQ_i (HK_b_X10_putOn_95 (h0)) (NQ_i (HK_b_X10_putOn_95 (h0)) (NQ_n))) (NQ_s (h0)))
theorem HK_f_X10_putOn {u : Int32} {St : SMo} {Sp1 : Nat → Int32} {x2 : Int32} {x3 : Int32} {x4 : Int32} (h0 : Mo_hasStore St = u) : NQ (fun r => Mo_hasStore r.2.1 = u) (f_X10_putOn St Sp1 x2 x3 x4) := by
  unfold f_X10_putOn
  exact NQ_bp (HK_f_X10_isBarred (h0)) (fun q2 hq2 => NQ_i (NQ_b (fun q3 => NQ_i (NQ_i (HK_b_X10_putOn_60 (hq2)) (NQ_i (NQ_i (NQ_i (NQ_s (hq2)) (NQ_n)) (HK_b_X10_putOn_60 (hq2))) (NQ_n))) (NQ_n))) (NQ_s (hq2)))
theorem HK_b_X10_put_26 {u : Int32} {St_r : Nat → Int32} {x1 : Int32} {x2 : Int32} {x3 : Int32} {St : SMo} {St_st : Nat → Int32} {St_trial : Nat → Int32} {St_undone : Nat → Int32} {u1 : Int32} (h0 : Mo_hasStore St = u) : NQ (fun r => Mo_hasStore r.2.1 = u) (b_X10_put_26 St_r x1 x2 x3 St St_st St_trial St_undone u1) := by
  unfold b_X10_put_26
  exact NQ_b (fun q1 => NQ_b (fun q2 => NQ_i (NQ_b (fun q3 => NQ_bp (HK_f_X10_putOn (h0)) (fun q4 hq4 => NQ_i (NQ_bp (HK_f_X10_become (hq4)) (fun q5 hq5 => NQ_s (hq5))) (NQ_bp (HK_f_X10_no (hq4)) (fun q6 hq6 => NQ_s (hq6)))))) (NQ_bp (HK_f_X10_no (h0)) (fun q7 hq7 => NQ_s (hq7)))))
theorem HK_f_X10_put {u : Int32} {St : SMo} {St_r : Nat → Int32} {St_st : Nat → Int32} {St_trial : Nat → Int32} {St_undone : Nat → Int32} {x1 : Int32} {x2 : Int32} {x3 : Int32} (h0 : Mo_hasStore St = u) : NQ (fun r => Mo_hasStore r.2.1 = u) (f_X10_put St St_r St_st St_trial St_undone x1 x2 x3) := by
  unfold f_X10_put
  exact NQ_bp (HK_f_X10_anew (h0)) (fun q8 hq8 => NQ_b (fun q9 => NQ_i (HK_b_X10_put_26 (hq8)) (NQ_b (fun q10 => NQ_i (HK_b_X10_put_26 (hq8)) (HK_b_X10_put_26 (hq8))))))
theorem HK_f_X10_dropOn {u : Int32} {St : SMo} {Sp1 : Nat → Int32} {x2 : Int32} {x3 : Int32} (h0 : Mo_hasStore St = u) : NQ (fun r => Mo_hasStore r.2.1 = u) (f_X10_dropOn St Sp1 x2 x3) := by
  unfold f_X10_dropOn
  exact NQ_bp (HK_f_X10_isBarred (h0)) (fun q1 hq1 => NQ_i (NQ_b (fun q2 => NQ_i (NQ_i (NQ_i (NQ_s (hq1)) (NQ_n)) (NQ_n)) (NQ_s (hq1)))) (NQ_s (hq1)))
theorem HK_f_X10_drop {u : Int32} {St : SMo} {St_r : Nat → Int32} {St_st : Nat → Int32} {St_trial : Nat → Int32} {St_undone : Nat → Int32} {x1 : Int32} {x2 : Int32} (h0 : Mo_hasStore St = u) : NQ (fun r => Mo_hasStore r.2.1 = u) (f_X10_drop St St_r St_st St_trial St_undone x1 x2) := by
  unfold f_X10_drop
  exact NQ_bp (HK_f_X10_anew (h0)) (fun q1 hq1 => NQ_b (fun q2 => NQ_i (NQ_bp (HK_f_X10_no (hq1)) (fun q3 hq3 => NQ_s (hq3))) (NQ_b (fun q4 => NQ_i (NQ_bp (HK_f_X10_no (hq1)) (fun q9 hq9 => NQ_s (hq9))) (NQ_b (fun q5 => NQ_bp (HK_f_X10_dropOn (hq1)) (fun q6 hq6 => NQ_i (NQ_bp (HK_f_X10_become (hq6)) (fun q7 hq7 => NQ_s (hq7))) (NQ_bp (HK_f_X10_no (hq6)) (fun q8 hq8 => NQ_s (hq8))))))))))
theorem HK_f_X10_ended {u : Int32} {St : SMo} {St_st : Nat → Int32} {St_trial : Nat → Int32} {St_undone : Nat → Int32} {x1 : Int32} {x2 : Int32} (h0 : Mo_hasStore St = u) : NQ (fun r => Mo_hasStore r.2.1 = u) (f_X10_ended St St_st St_trial St_undone x1 x2) := by
  unfold f_X10_ended
  exact NQ_b (fun q1 => NQ_b (fun q2 => NQ_bp (HK_f_X10_become (h0)) (fun q3 hq3 => NQ_s (hq3))))
theorem HK_f_X10_done {u : Int32} {St : SMo} {St_st : Nat → Int32} {St_trial : Nat → Int32} {St_undone : Nat → Int32} {x1 : Int32} (h0 : Mo_hasStore St = u) : NQ (fun r => Mo_hasStore r.2.1 = u) (f_X10_done St St_st St_trial St_undone x1) := by
  unfold f_X10_done
  exact NQ_bp (HK_f_X10_anew (h0)) (fun q1 hq1 => NQ_b (fun q2 => NQ_i (NQ_bp (HK_f_X10_no (hq1)) (fun q6 hq6 => NQ_s (hq6))) (NQ_i (NQ_b (fun q3 => NQ_i (NQ_bp (HK_f_X10_ended (hq1)) (fun q4 hq4 => NQ_s (hq4))) (NQ_bp (HK_f_X10_no (hq1)) (fun q5 hq5 => NQ_s (hq5))))) (NQ_n))))
theorem HK_f_X10_gone {u : Int32} {St : SMo} {St_st : Nat → Int32} {St_trial : Nat → Int32} {St_undone : Nat → Int32} {x1 : Int32} (h0 : Mo_hasStore St = u) : NQ (fun r => Mo_hasStore r.2.1 = u) (f_X10_gone St St_st St_trial St_undone x1) := by
  unfold f_X10_gone
  exact NQ_bp (HK_f_X10_anew (h0)) (fun q1 hq1 => NQ_b (fun q2 => NQ_i (NQ_bp (HK_f_X10_no (hq1)) (fun q3 hq3 => NQ_s (hq3))) (NQ_bp (HK_f_X10_ended (hq1)) (fun q4 hq4 => NQ_s (hq4)))))
theorem HK_f_X10_clear {u : Int32} {St : SMo} {St_marked : Nat → Int32} {St_st : Nat → Int32} {St_trial : Nat → Int32} {St_undone : Nat → Int32} (h0 : Mo_hasStore St = u) : NQ (fun r => Mo_hasStore r.2.1 = u) (f_X10_clear St St_marked St_st St_trial St_undone) := by
  unfold f_X10_clear
  exact NQ_bp (HK_f_X10_anew (h0)) (fun q1 hq1 => NQ_i (NQ_bp (HK_f_X10_no (hq1)) (fun q6 hq6 => NQ_s (hq6))) (NQ_b (fun q2 => NQ_b (fun q3 => NQ_i (NQ_bp (HK_f_X10_no (hq1)) (fun q5 hq5 => NQ_s (hq5))) (NQ_bp (HK_f_X10_become (hq1)) (fun q4 hq4 => NQ_s (hq4)))))))
theorem HK_f_X10_freeze {u : Int32} {St : SMo} {St_marked : Nat → Int32} {St_st : Nat → Int32} {St_trial : Nat → Int32} {St_undone : Nat → Int32} (h0 : Mo_hasStore St = u) : NQ (fun r => Mo_hasStore r.2.1 = u) (f_X10_freeze St St_marked St_st St_trial St_undone) := by
  unfold f_X10_freeze
  exact NQ_bp (HK_f_X10_anew (h0)) (fun q1 hq1 => NQ_i (NQ_bp (HK_f_X10_no (hq1)) (fun q6 hq6 => NQ_s (hq6))) (NQ_b (fun q2 => NQ_b (fun q3 => NQ_i (NQ_bp (HK_f_X10_no (hq1)) (fun q5 hq5 => NQ_s (hq5))) (NQ_bp (HK_f_X10_become (hq1)) (fun q4 hq4 => NQ_s (hq4)))))))
theorem HK_f_X10_isNot {u : Int32} {St : SMo} {x1 : Int32} (h0 : Mo_hasStore St = u) : NQ (fun r => Mo_hasStore r.2 = u) (f_X10_isNot St x1) := by
  unfold f_X10_isNot
  exact NQ_s (h0)
theorem HK_f_X10_undo {u : Int32} {St : SMo} {St_st : Nat → Int32} {St_undone : Nat → Int32} (h0 : Mo_hasStore St = u) : NQ (fun r => Mo_hasStore r.2.1 = u) (f_X10_undo St St_st St_undone) := by
  unfold f_X10_undo
  exact NQ_bp (HK_f_X10_anew (h0)) (fun q1 hq1 => NQ_i (NQ_bp (HK_f_X10_isNot (hq1)) (fun q3 hq3 => NQ_i (NQ_s (hq3)) (NQ_n))) (NQ_b (fun q2 => NQ_s (hq1))))
theorem HK_f_X10_back {u : Int32} {St : SMo} {St_kept : Nat → Int32} {St_st : Nat → Int32} {x1 : Int32} (h0 : Mo_hasStore St = u) : NQ (fun r => Mo_hasStore r.2.1 = u) (f_X10_back St St_kept St_st x1) := by
  unfold f_X10_back
  exact NQ_bp (HK_f_X10_anew (h0)) (fun q1 hq1 => NQ_b (fun q2 => NQ_i (NQ_bp (HK_f_X10_isNot (hq1)) (fun q4 hq4 => NQ_i (NQ_s (hq4)) (NQ_n))) (NQ_b (fun q3 => NQ_s (hq1)))))
theorem HK_f_X10_image {u : Int32} {St : SMo} {St_kept : Nat → Int32} {St_st : Nat → Int32} (h0 : Mo_hasStore St = u) : NQ (fun r => Mo_hasStore r.2.1 = u) (f_X10_image St St_kept St_st) := by
  unfold f_X10_image
  exact NQ_bp (HK_f_X10_anew (h0)) (fun q1 hq1 => NQ_i (NQ_bp (HK_f_X10_no (hq1)) (fun q4 hq4 => NQ_s (hq4))) (NQ_i (NQ_bp (HK_f_X10_no (hq1)) (fun q3 hq3 => NQ_s (hq3))) (NQ_b (fun q2 => NQ_s (hq1)))))
