section
variable {B C : Type} {g : B → Prop} {p : C → Prop}
def NQ (g : B → Prop) (o : Option B) : Prop := ∀ r, o = some r → g r
theorem NQ_n : NQ g none := fun r h => nomatch h
theorem NQ_s {r : B} (h : g r) : NQ g (some r) := fun r' e => by cases e; exact h
theorem NQ_b {o : Option C} {f : C → Option B} (h : ∀ x, NQ g (f x)) : NQ g (o.bind f) := by
  intro r e
  cases o with
  | none => cases e
  | some x => exact h x r e
theorem NQ_bp {o : Option C} {f : C → Option B} (k : NQ p o) (h : ∀ x, p x → NQ g (f x)) : NQ g (o.bind f) := by
  intro r e
  cases o with
  | none => cases e
  | some x => exact h x (k x rfl) r e
theorem NQ_i {c : Prop} [Decidable c] {a b : Option B} (h1 : NQ g a) (h2 : NQ g b) : NQ g (if c then a else b) := by
  by_cases q : c
  · rw [if_pos q]; exact h1
  · rw [if_neg q]; exact h2
theorem NQ_l3 {A0 A1 A2 : Type} {f : (A0 → A1 → A2 → Option B) → A0 → A1 → A2 → Option B} (h : ∀ k, (∀ a0 a1 a2, NQ g (k a0 a1 a2)) → ∀ a0 a1 a2, NQ g (f k a0 a1 a2)) : ∀ (n : Nat) a0 a1 a2, NQ g (zl3 f n a0 a1 a2) := by
  intro n
  induction n with
  | zero => intro a0 a1 a2; exact NQ_n
  | succ n ih => intro a0 a1 a2; exact h _ ih a0 a1 a2
theorem NQ_l5 {A0 A1 A2 A3 A4 : Type} {f : (A0 → A1 → A2 → A3 → A4 → Option B) → A0 → A1 → A2 → A3 → A4 → Option B} (h : ∀ k, (∀ a0 a1 a2 a3 a4, NQ g (k a0 a1 a2 a3 a4)) → ∀ a0 a1 a2 a3 a4, NQ g (f k a0 a1 a2 a3 a4)) : ∀ (n : Nat) a0 a1 a2 a3 a4, NQ g (zl5 f n a0 a1 a2 a3 a4) := by
  intro n
  induction n with
  | zero => intro a0 a1 a2 a3 a4; exact NQ_n
  | succ n ih => intro a0 a1 a2 a3 a4; exact h _ ih a0 a1 a2 a3 a4
end
theorem nq0 : (0 : Int32) ≠ nI 4 := by decide
theorem nq1 : (1 : Int32) ≠ nI 4 := by decide
theorem nq2 : (2 : Int32) ≠ nI 4 := by decide
theorem nq3 : (3 : Int32) ≠ nI 4 := by decide
theorem nq5 : (5 : Int32) ≠ nI 4 := by decide
theorem nq6 : (6 : Int32) ≠ nI 4 := by decide
theorem NQ_ref {T : SSR} {x : Int32} (h : x ≠ nI 4) : NQ (fun q => SR_troubleNumber q.2 ≠ nI 4) (f_X9_refuse T x) := NQ_s h
theorem NQ_ans {T : SSR} {x : Int32} : NQ (fun q => SR_troubleNumber q.2 ≠ nI 4) (f_X9_answer T x) := NQ_s nq0
theorem NQ_X9_next {St : SSR} {St_rows : SRows} : NQ (fun r => SR_troubleNumber r.2 ≠ nI 4) (f_X9_next St St_rows) := by
  unfold f_X9_next
  exact NQ_b (fun q1 => NQ_i (NQ_bp (NQ_ref nq1) (fun q2 hq2 => NQ_s hq2)) (NQ_bp NQ_ans (fun q3 hq3 => NQ_s hq3)))
theorem NQ_X9_stampTrouble {St : SSR} {St_rows : SRows} {x1 : Int32} : NQ (fun r => r ≠ nI 4) (f_X9_stampTrouble St St_rows x1) := by
  unfold f_X9_stampTrouble
  exact NQ_b (fun q1 => NQ_i (NQ_s nq1) (NQ_b (fun q2 => NQ_i (NQ_s nq2) (NQ_s nq0))))
theorem NQ_X9_age {St : SSR} {St_rows : SRows} {x1 : Int32} : NQ (fun r => SR_troubleNumber r.2 ≠ nI 4) (f_X9_age St St_rows x1) := by
  unfold f_X9_age
  exact NQ_bp NQ_X9_stampTrouble (fun q1 hq1 => NQ_i (NQ_b (fun q2 => NQ_bp NQ_ans (fun q3 hq3 => NQ_s hq3))) (NQ_bp (NQ_ref hq1) (fun q4 hq4 => NQ_s hq4)))
theorem NQ_X9_stampsTrouble {St : SSR} {St_rows : SRows} {x1 : Int32} {x2 : Int32} : NQ (fun r => r ≠ nI 4) (f_X9_stampsTrouble St St_rows x1 x2) := by
  unfold f_X9_stampsTrouble
  exact NQ_bp NQ_X9_stampTrouble (fun q1 hq1 => NQ_i (NQ_bp NQ_X9_stampTrouble (fun q2 hq2 => NQ_s hq2)) (NQ_s hq1))
theorem NQ_X9_older {St : SSR} {St_rows : SRows} {x1 : Int32} {x2 : Int32} : NQ (fun r => SR_troubleNumber r.2 ≠ nI 4) (f_X9_older St St_rows x1 x2) := by
  unfold f_X9_older
  exact NQ_bp NQ_X9_stampsTrouble (fun q1 hq1 => NQ_i (NQ_b (fun q2 => NQ_b (fun q3 => NQ_b (fun q4 => NQ_bp NQ_ans (fun q5 hq5 => NQ_s hq5))))) (NQ_bp (NQ_ref hq1) (fun q6 hq6 => NQ_s hq6)))
theorem NQ_X9_oldest {St : SSR} {St_rows : SRows} : NQ (fun r => SR_troubleNumber r.2 ≠ nI 4) (f_X9_oldest St St_rows) := by
  unfold f_X9_oldest
  exact NQ_b (fun q1 => NQ_i (NQ_bp (NQ_ref nq1) (fun q2 hq2 => NQ_s hq2)) (NQ_b (fun q3 => NQ_b (fun q4 => NQ_bp NQ_ans (fun q5 hq5 => NQ_s hq5)))))
theorem NQ_X9_room {St : SSR} {St_rows : SRows} : NQ (fun r => SR_troubleNumber r.2 ≠ nI 4) (f_X9_room St St_rows) := by
  unfold f_X9_room
  exact NQ_b (fun q1 => NQ_i (NQ_bp (NQ_ref nq1) (fun q2 hq2 => NQ_s hq2)) (NQ_b (fun q3 => NQ_b (fun q4 => NQ_bp NQ_ans (fun q5 hq5 => NQ_s hq5)))))
theorem NQ_X9_roomFrozen {St : SSR} {St_rows : SRows} : NQ (fun r => SR_troubleNumber r.2 ≠ nI 4) (f_X9_roomFrozen St St_rows) := by
  unfold f_X9_roomFrozen
  exact NQ_b (fun q1 => NQ_i (NQ_bp (NQ_ref nq1) (fun q2 hq2 => NQ_s hq2)) (NQ_b (fun q3 => NQ_b (fun q4 => NQ_bp NQ_ans (fun q5 hq5 => NQ_s hq5)))))
theorem NQ_X9_horizon {St : SSR} {St_rows : SRows} : NQ (fun r => SR_troubleNumber r.2 ≠ nI 4) (f_X9_horizon St St_rows) := by
  unfold f_X9_horizon
  exact NQ_b (fun q1 => NQ_i (NQ_bp (NQ_ref nq1) (fun q2 hq2 => NQ_s hq2)) (NQ_b (fun q3 => NQ_bp NQ_ans (fun q4 hq4 => NQ_s hq4))))
theorem NQ_X9_writer {St : SSR} {St_rows : SRows} {x1 : Int32} {x2 : Int32} : NQ (fun r => SR_troubleNumber r.2 ≠ nI 4) (f_X9_writer St St_rows x1 x2) := by
  unfold f_X9_writer
  exact NQ_b (fun q1 => NQ_i (NQ_bp (NQ_ref nq1) (fun q16 hq16 => NQ_s hq16)) (NQ_i (NQ_b (fun q2 => NQ_bp NQ_ans (fun q3 hq3 => NQ_s hq3))) (NQ_i (NQ_b (fun q4 => NQ_b (fun q5 => NQ_bp NQ_ans (fun q6 hq6 => NQ_s hq6)))) (NQ_i (NQ_b (fun q7 => NQ_bp NQ_ans (fun q8 hq8 => NQ_s hq8))) (NQ_i (NQ_b (fun q9 => NQ_b (fun q10 => NQ_bp NQ_ans (fun q11 hq11 => NQ_s hq11)))) (NQ_i (NQ_b (fun q12 => NQ_b (fun q13 => NQ_bp NQ_ans (fun q14 hq14 => NQ_s hq14)))) (NQ_bp (NQ_ref nq1) (fun q15 hq15 => NQ_s hq15))))))))
theorem NQ_X9_running {St : SSR} {St_rows : SRows} : NQ (fun r => SR_troubleNumber r.2 ≠ nI 4) (f_X9_running St St_rows) := by
  unfold f_X9_running
  exact NQ_b (fun q1 => NQ_i (NQ_bp (NQ_ref nq1) (fun q2 hq2 => NQ_s hq2)) (NQ_b (fun q3 => NQ_bp NQ_ans (fun q4 hq4 => NQ_s hq4))))
theorem NQ_X9_counts {St : SSR} {St_rows : SRows} {x1 : Int32} {x2 : Int32} : NQ (fun r => SR_troubleNumber r.2 ≠ nI 4) (f_X9_counts St St_rows x1 x2) := by
  unfold f_X9_counts
  exact NQ_b (fun q1 => NQ_i (NQ_bp (NQ_ref nq1) (fun q8 hq8 => NQ_s hq8)) (NQ_b (fun q2 => NQ_i (NQ_bp (NQ_ref nq2) (fun q7 hq7 => NQ_s hq7)) (NQ_b (fun q3 => NQ_b (fun q4 => NQ_b (fun q5 => NQ_bp NQ_ans (fun q6 hq6 => NQ_s hq6))))))))
theorem NQ_X9_holdsBack {St : SSR} {St_rows : SRows} : NQ (fun r => SR_troubleNumber r.2 ≠ nI 4) (f_X9_holdsBack St St_rows) := by
  unfold f_X9_holdsBack
  exact NQ_b (fun q1 => NQ_i (NQ_bp (NQ_ref nq1) (fun q2 hq2 => NQ_s hq2)) (NQ_b (fun q3 => NQ_bp NQ_ans (fun q4 hq4 => NQ_s hq4))))
theorem NQ_X9_frees {St : SSR} {St_rows : SRows} {x1 : Int32} : NQ (fun r => SR_troubleNumber r.2 ≠ nI 4) (f_X9_frees St St_rows x1) := by
  unfold f_X9_frees
  exact NQ_b (fun q1 => NQ_i (NQ_bp (NQ_ref nq1) (fun q5 hq5 => NQ_s hq5)) (NQ_b (fun q2 => NQ_b (fun q3 => NQ_bp NQ_ans (fun q4 hq4 => NQ_s hq4)))))
theorem NQ_X9_version {St : SSR} {St_rows : SRows} {x1 : Int32} {x2 : Int32} : NQ (fun r => SR_troubleNumber r.2 ≠ nI 4) (f_X9_version St St_rows x1 x2) := by
  unfold f_X9_version
  exact NQ_b (fun q1 => NQ_i (NQ_bp (NQ_ref nq1) (fun q17 hq17 => NQ_s hq17)) (NQ_i (NQ_b (fun q2 => NQ_bp NQ_ans (fun q3 hq3 => NQ_s hq3))) (NQ_i (NQ_b (fun q4 => NQ_bp NQ_ans (fun q5 hq5 => NQ_s hq5))) (NQ_i (NQ_b (fun q6 => NQ_bp NQ_ans (fun q7 hq7 => NQ_s hq7))) (NQ_i (NQ_b (fun q8 => NQ_bp NQ_ans (fun q9 hq9 => NQ_s hq9))) (NQ_i (NQ_b (fun q10 => NQ_b (fun q11 => NQ_bp NQ_ans (fun q12 hq12 => NQ_s hq12)))) (NQ_i (NQ_b (fun q13 => NQ_b (fun q14 => NQ_bp NQ_ans (fun q15 hq15 => NQ_s hq15)))) (NQ_bp (NQ_ref nq1) (fun q16 hq16 => NQ_s hq16)))))))))
theorem NQ_X9_chain {St : SSR} {St_rows : SRows} {x1 : Int32} : NQ (fun r => SR_troubleNumber r.2 ≠ nI 4) (f_X9_chain St St_rows x1) := by
  unfold f_X9_chain
  exact NQ_b (fun q1 => NQ_i (NQ_bp (NQ_ref nq1) (fun q2 hq2 => NQ_s hq2)) (NQ_b (fun q3 => NQ_bp NQ_ans (fun q4 hq4 => NQ_s hq4))))
theorem NQ_X9_chainAt {St : SSR} {St_rows : SRows} {x1 : Int32} {x2 : Int32} : NQ (fun r => SR_troubleNumber r.2 ≠ nI 4) (f_X9_chainAt St St_rows x1 x2) := by
  unfold f_X9_chainAt
  exact NQ_b (fun q1 => NQ_i (NQ_bp (NQ_ref nq1) (fun q5 hq5 => NQ_s hq5)) (NQ_b (fun q2 => NQ_i (NQ_bp (NQ_ref nq1) (fun q4 hq4 => NQ_s hq4)) (NQ_bp NQ_ans (fun q3 hq3 => NQ_s hq3)))))
theorem NQ_b_X9_seenBy_21 {St_rows : SRows} {x1 : Int32} {k21 : SSR → Int32 → Int32 → Option (Int32 × SSR)} {St : SSR} {v2 : Int32} {v3 : Int32} (hk : ∀ a0 a1 a2, NQ (fun r => SR_troubleNumber r.2 ≠ nI 4) (k21 a0 a1 a2)) : NQ (fun r => SR_troubleNumber r.2 ≠ nI 4) (b_X9_seenBy_21 St_rows x1 k21 St v2 v3) := by
  unfold b_X9_seenBy_21
  exact NQ_i (NQ_bp NQ_ans (fun q1 hq1 => NQ_s hq1)) (NQ_b (fun q2 => NQ_i (hk _ _ _) (NQ_b (fun q3 => NQ_b (fun q4 => NQ_i (hk _ _ _) (hk _ _ _))))))
theorem NQ_X9_seenBy {St : SSR} {St_rows : SRows} {x1 : Int32} : NQ (fun r => SR_troubleNumber r.2 ≠ nI 4) (f_X9_seenBy St St_rows x1) := by
  unfold f_X9_seenBy
  exact NQ_b (fun q5 => NQ_i (NQ_bp (NQ_ref nq1) (fun q6 hq6 => NQ_s hq6)) (NQ_l3 (fun k hk a0 a1 a2 => NQ_b_X9_seenBy_21 hk) FU _ _ _))
theorem NQ_X9_dead {St : SSR} {St_rows : SRows} : NQ (fun r => SR_troubleNumber r.2 ≠ nI 4) (f_X9_dead St St_rows) := by
  unfold f_X9_dead
  exact NQ_b (fun q1 => NQ_i (NQ_bp (NQ_ref nq1) (fun q2 hq2 => NQ_s hq2)) (NQ_b (fun q3 => NQ_bp NQ_ans (fun q4 hq4 => NQ_s hq4))))
theorem NQ_X9_freezes {St : SSR} {St_rows : SRows} : NQ (fun r => SR_troubleNumber r.2 ≠ nI 4) (f_X9_freezes St St_rows) := by
  unfold f_X9_freezes
  exact NQ_b (fun q1 => NQ_i (NQ_bp (NQ_ref nq1) (fun q2 hq2 => NQ_s hq2)) (NQ_b (fun q3 => NQ_bp NQ_ans (fun q4 hq4 => NQ_s hq4))))
theorem NQ_X9_sees {St : SSR} {St_rows : SRows} {x1 : Int32} {x2 : Int32} : NQ (fun r => SR_troubleNumber r.2 ≠ nI 4) (f_X9_sees St St_rows x1 x2) := by
  unfold f_X9_sees
  exact NQ_b (fun q1 => NQ_i (NQ_bp (NQ_ref nq1) (fun q2 hq2 => NQ_s hq2)) (NQ_b (fun q3 => NQ_i (NQ_bp (NQ_ref nq1) (fun q7 hq7 => NQ_s hq7)) (NQ_b (fun q4 => NQ_b (fun q5 => NQ_bp NQ_ans (fun q6 hq6 => NQ_s hq6)))))))
theorem NQ_X9_read {St : SSR} {St_rows : SRows} {x1 : Int32} {x2 : Int32} : NQ (fun r => SR_troubleNumber r.2 ≠ nI 4) (f_X9_read St St_rows x1 x2) := by
  unfold f_X9_read
  exact NQ_b (fun q1 => NQ_i (NQ_bp (NQ_ref nq1) (fun q2 hq2 => NQ_s hq2)) (NQ_b (fun q3 => NQ_i (NQ_bp (NQ_ref nq1) (fun q7 hq7 => NQ_s hq7)) (NQ_b (fun q4 => NQ_b (fun q5 => NQ_bp NQ_ans (fun q6 hq6 => NQ_s hq6)))))))
theorem NQ_X9_sum {St : SSR} {St_rows : SRows} {x1 : Int32} : NQ (fun r => SR_troubleNumber r.2 ≠ nI 4) (f_X9_sum St St_rows x1) := by
  unfold f_X9_sum
  exact NQ_b (fun q1 => NQ_i (NQ_bp (NQ_ref nq1) (fun q2 hq2 => NQ_s hq2)) (NQ_b (fun q3 => NQ_b (fun q4 => NQ_bp NQ_ans (fun q5 hq5 => NQ_s hq5)))))
theorem NQ_b_X9_differ_53 {St_rows : SRows} {x1 : Int32} {x2 : Int32} {k53 : SSR → Int64 → Int64 → Int32 → Int32 → Option (Int32 × SSR)} {St : SSR} {v3 : Int64} {v5 : Int64} {v7 : Int32} {v8 : Int32} (hk : ∀ a0 a1 a2 a3 a4, NQ (fun r => SR_troubleNumber r.2 ≠ nI 4) (k53 a0 a1 a2 a3 a4)) : NQ (fun r => SR_troubleNumber r.2 ≠ nI 4) (b_X9_differ_53 St_rows x1 x2 k53 St v3 v5 v7 v8) := by
  unfold b_X9_differ_53
  exact NQ_i (NQ_bp NQ_ans (fun q1 hq1 => NQ_s hq1)) (NQ_b (fun q2 => NQ_b (fun q3 => NQ_i (hk _ _ _ _ _) (hk _ _ _ _ _))))
theorem NQ_X9_differ {St : SSR} {St_rows : SRows} {x1 : Int32} {x2 : Int32} : NQ (fun r => SR_troubleNumber r.2 ≠ nI 4) (f_X9_differ St St_rows x1 x2) := by
  unfold f_X9_differ
  exact NQ_b (fun q4 => NQ_i (NQ_bp (NQ_ref nq1) (fun q5 hq5 => NQ_s hq5)) (NQ_b (fun q6 => NQ_i (NQ_bp (NQ_ref nq1) (fun q9 hq9 => NQ_s hq9)) (NQ_b (fun q7 => NQ_b (fun q8 => NQ_l5 (fun k hk a0 a1 a2 a3 a4 => NQ_b_X9_differ_53 hk) FU _ _ _ _ _))))))
theorem NQ_X9_fresh {St : SSR} {St_rows : SRows} {x1 : Int32} : NQ (fun r => SR_troubleNumber r.2 ≠ nI 4) (f_X9_fresh St St_rows x1) := by
  unfold f_X9_fresh
  exact NQ_b (fun q1 => NQ_i (NQ_bp (NQ_ref nq1) (fun q2 hq2 => NQ_s hq2)) (NQ_b (fun q3 => NQ_b (fun q4 => NQ_bp NQ_ans (fun q5 hq5 => NQ_s hq5)))))
theorem NQ_X9_freshSum {St : SSR} {St_rows : SRows} : NQ (fun r => SR_troubleNumber r.2 ≠ nI 4) (f_X9_freshSum St St_rows) := by
  unfold f_X9_freshSum
  exact NQ_b (fun q1 => NQ_i (NQ_bp (NQ_ref nq1) (fun q2 hq2 => NQ_s hq2)) (NQ_b (fun q3 => NQ_b (fun q4 => NQ_bp NQ_ans (fun q5 hq5 => NQ_s hq5)))))
theorem NQ_X9_asOf {St : SSR} {St_rows : SRows} {x1 : Int32} {x2 : Int32} : NQ (fun r => SR_troubleNumber r.2 ≠ nI 4) (f_X9_asOf St St_rows x1 x2) := by
  unfold f_X9_asOf
  exact NQ_b (fun q1 => NQ_i (NQ_bp (NQ_ref nq1) (fun q7 hq7 => NQ_s hq7)) (NQ_b (fun q2 => NQ_i (NQ_bp (NQ_ref nq2) (fun q6 hq6 => NQ_s hq6)) (NQ_b (fun q3 => NQ_b (fun q4 => NQ_bp NQ_ans (fun q5 hq5 => NQ_s hq5)))))))
theorem NQ_b_X9_changed_43 {St_rows : SRows} {x1 : Int32} {x2 : Int32} {k43 : SSR → Int64 → Int64 → Int32 → Int32 → Option (Int32 × SSR)} {St : SSR} {v4 : Int64} {v6 : Int64} {v8 : Int32} {v9 : Int32} (hk : ∀ a0 a1 a2 a3 a4, NQ (fun r => SR_troubleNumber r.2 ≠ nI 4) (k43 a0 a1 a2 a3 a4)) : NQ (fun r => SR_troubleNumber r.2 ≠ nI 4) (b_X9_changed_43 St_rows x1 x2 k43 St v4 v6 v8 v9) := by
  unfold b_X9_changed_43
  exact NQ_i (NQ_bp NQ_ans (fun q1 hq1 => NQ_s hq1)) (NQ_b (fun q2 => NQ_b (fun q3 => NQ_i (hk _ _ _ _ _) (hk _ _ _ _ _))))
theorem NQ_X9_changed {St : SSR} {St_rows : SRows} {x1 : Int32} {x2 : Int32} : NQ (fun r => SR_troubleNumber r.2 ≠ nI 4) (f_X9_changed St St_rows x1 x2) := by
  unfold f_X9_changed
  exact NQ_bp NQ_X9_stampsTrouble (fun q4 hq4 => NQ_i (NQ_b (fun q5 => NQ_b (fun q6 => NQ_l5 (fun k hk a0 a1 a2 a3 a4 => NQ_b_X9_changed_43 hk) FU _ _ _ _ _))) (NQ_bp (NQ_ref hq4) (fun q7 hq7 => NQ_s hq7)))
theorem NQ_X9_may {St : SSR} {St_rows : SRows} {x1 : Int32} {x2 : Int32} : NQ (fun r => SR_troubleNumber r.2 ≠ nI 4) (f_X9_may St St_rows x1 x2) := by
  unfold f_X9_may
  exact NQ_b (fun q1 => NQ_i (NQ_bp (NQ_ref nq1) (fun q2 hq2 => NQ_s hq2)) (NQ_b (fun q3 => NQ_i (NQ_bp (NQ_ref nq1) (fun q6 hq6 => NQ_s hq6)) (NQ_b (fun q4 => NQ_bp NQ_ans (fun q5 hq5 => NQ_s hq5))))))
theorem NQ_X9_waitsFor {St : SSR} {St_rows : SRows} {x1 : Int32} {x2 : Int32} : NQ (fun r => SR_troubleNumber r.2 ≠ nI 4) (f_X9_waitsFor St St_rows x1 x2) := by
  unfold f_X9_waitsFor
  exact NQ_b (fun q1 => NQ_i (NQ_bp (NQ_ref nq1) (fun q2 hq2 => NQ_s hq2)) (NQ_b (fun q3 => NQ_i (NQ_bp (NQ_ref nq1) (fun q6 hq6 => NQ_s hq6)) (NQ_b (fun q4 => NQ_bp NQ_ans (fun q5 hq5 => NQ_s hq5))))))
theorem NQ_X9_open {St : SSR} {St_rows : SRows} {x1 : Int32} : NQ (fun r => SR_troubleNumber r.2 ≠ nI 4) (f_X9_open St St_rows x1) := by
  unfold f_X9_open
  exact NQ_b (fun q1 => NQ_i (NQ_bp (NQ_ref nq1) (fun q2 hq2 => NQ_s hq2)) (NQ_b (fun q3 => NQ_bp NQ_ans (fun q4 hq4 => NQ_s hq4))))
theorem NQ_X9_loses {St : SSR} {St_rows : SRows} {x1 : Int32} : NQ (fun r => SR_troubleNumber r.2 ≠ nI 4) (f_X9_loses St St_rows x1) := by
  unfold f_X9_loses
  exact NQ_b (fun q1 => NQ_i (NQ_bp (NQ_ref nq1) (fun q2 hq2 => NQ_s hq2)) (NQ_b (fun q3 => NQ_bp NQ_ans (fun q4 hq4 => NQ_s hq4))))
theorem NQ_X9_fits {St : SSR} {St_evidence : SEv} {St_rows : SRows} : NQ (fun r => SR_troubleNumber r.2 ≠ nI 4) (f_X9_fits St St_evidence St_rows) := by
  unfold f_X9_fits
  exact NQ_b (fun q1 => NQ_i (NQ_bp (NQ_ref nq1) (fun q2 hq2 => NQ_s hq2)) (NQ_bp NQ_ans (fun q3 hq3 => NQ_s hq3)))
theorem NQ_X9_fitAt {St : SSR} {St_evidence : SEv} {x1 : Int32} : NQ (fun r => SR_troubleNumber r.2 ≠ nI 4) (f_X9_fitAt St St_evidence x1) := by
  unfold f_X9_fitAt
  exact NQ_b (fun q1 => NQ_i (NQ_bp (NQ_ref nq1) (fun q3 hq3 => NQ_s hq3)) (NQ_bp NQ_ans (fun q2 hq2 => NQ_s hq2)))
theorem NQ_X9_could {St : SSR} {St_evidence : SEv} {St_rows : SRows} : NQ (fun r => SR_troubleNumber r.2 ≠ nI 4) (f_X9_could St St_evidence St_rows) := by
  unfold f_X9_could
  exact NQ_b (fun q1 => NQ_i (NQ_bp (NQ_ref nq1) (fun q2 hq2 => NQ_s hq2)) (NQ_b (fun q3 => NQ_bp NQ_ans (fun q4 hq4 => NQ_s hq4))))
theorem NQ_X9_surely {St : SSR} {St_evidence : SEv} {St_rows : SRows} : NQ (fun r => SR_troubleNumber r.2 ≠ nI 4) (f_X9_surely St St_evidence St_rows) := by
  unfold f_X9_surely
  exact NQ_b (fun q1 => NQ_i (NQ_bp (NQ_ref nq1) (fun q2 hq2 => NQ_s hq2)) (NQ_b (fun q3 => NQ_bp NQ_ans (fun q4 hq4 => NQ_s hq4))))
theorem NQ_X9_ask {St : SSR} {St_evidence : SEv} {St_rows : SRows} : NQ (fun r => SR_troubleNumber r.2 ≠ nI 4) (f_X9_ask St St_evidence St_rows) := by
  unfold f_X9_ask
  exact NQ_b (fun q1 => NQ_i (NQ_bp (NQ_ref nq1) (fun q2 hq2 => NQ_s hq2)) (NQ_b (fun q3 => NQ_bp NQ_ans (fun q4 hq4 => NQ_s hq4))))
theorem NQ_X9_askLeaves {St : SSR} {St_evidence : SEv} {St_rows : SRows} : NQ (fun r => SR_troubleNumber r.2 ≠ nI 4) (f_X9_askLeaves St St_evidence St_rows) := by
  unfold f_X9_askLeaves
  exact NQ_b (fun q1 => NQ_i (NQ_bp (NQ_ref nq1) (fun q6 hq6 => NQ_s hq6)) (NQ_b (fun q2 => NQ_i (NQ_bp NQ_ans (fun q5 hq5 => NQ_s hq5)) (NQ_b (fun q3 => NQ_bp NQ_ans (fun q4 hq4 => NQ_s hq4))))))
theorem NQ_X9_judge {St : SSR} {St_evidence : SEv} {St_rows : SRows} : NQ (fun r => SR_troubleNumber r.2 ≠ nI 4) (f_X9_judge St St_evidence St_rows) := by
  unfold f_X9_judge
  exact NQ_b (fun q1 => NQ_i (NQ_bp (NQ_ref nq1) (fun q2 hq2 => NQ_s hq2)) (NQ_bp NQ_ans (fun q3 hq3 => NQ_s hq3)))
theorem NQ_X9_costTrouble {St : SSR} {St_rows : SRows} {x1 : Int32} : NQ (fun r => r ≠ nI 4) (f_X9_costTrouble St St_rows x1) := by
  unfold f_X9_costTrouble
  exact NQ_b (fun q1 => NQ_i (NQ_s nq1) (NQ_i (NQ_s nq2) (NQ_i (NQ_s nq2) (NQ_s nq0))))
theorem NQ_X9_waits {St : SSR} {St_rows : SRows} {x1 : Int32} {x2 : Int32} {x3 : Int32} {x4 : Int32} : NQ (fun r => SR_troubleNumber r.2 ≠ nI 4) (f_X9_waits St St_rows x1 x2 x3 x4) := by
  unfold f_X9_waits
  exact NQ_bp NQ_X9_costTrouble (fun q1 hq1 => NQ_i (NQ_i (NQ_b (fun q2 => NQ_bp NQ_ans (fun q3 hq3 => NQ_s hq3))) (NQ_b (fun q4 => NQ_bp NQ_ans (fun q5 hq5 => NQ_s hq5)))) (NQ_bp (NQ_ref hq1) (fun q6 hq6 => NQ_s hq6)))
theorem NQ_X9_rests {St : SSR} {St_rows : SRows} {x1 : Int32} : NQ (fun r => SR_troubleNumber r.2 ≠ nI 4) (f_X9_rests St St_rows x1) := by
  unfold f_X9_rests
  exact NQ_bp NQ_X9_costTrouble (fun q1 hq1 => NQ_i (NQ_b (fun q2 => NQ_bp NQ_ans (fun q3 hq3 => NQ_s hq3))) (NQ_bp (NQ_ref hq1) (fun q4 hq4 => NQ_s hq4)))
theorem NQ_X9_rest {St : SSR} {St_rows : SRows} {x1 : Int32} : NQ (fun r => SR_troubleNumber r.2 ≠ nI 4) (f_X9_rest St St_rows x1) := by
  unfold f_X9_rest
  exact NQ_bp NQ_X9_costTrouble (fun q1 hq1 => NQ_i (NQ_b (fun q2 => NQ_bp NQ_ans (fun q3 hq3 => NQ_s hq3))) (NQ_bp (NQ_ref hq1) (fun q4 hq4 => NQ_s hq4)))
theorem NQ_X9_odds {St : SSR} {St_rows : SRows} {x1 : Int32} {x2 : Int32} {x3 : Int32} : NQ (fun r => SR_troubleNumber r.2 ≠ nI 4) (f_X9_odds St St_rows x1 x2 x3) := by
  unfold f_X9_odds
  exact NQ_b (fun q1 => NQ_i (NQ_bp (NQ_ref nq1) (fun q7 hq7 => NQ_s hq7)) (NQ_b (fun q2 => NQ_i (NQ_bp (NQ_ref nq2) (fun q6 hq6 => NQ_s hq6)) (NQ_b (fun q3 => NQ_b (fun q4 => NQ_b (fun q5 => NQ_s nq0)))))))
theorem NQ_X9_mean {St : SSR} {St_rows : SRows} {x1 : Int32} : NQ (fun r => SR_troubleNumber r.2 ≠ nI 4) (f_X9_mean St St_rows x1) := by
  unfold f_X9_mean
  exact NQ_b (fun q1 => NQ_i (NQ_bp (NQ_ref nq1) (fun q5 hq5 => NQ_s hq5)) (NQ_b (fun q2 => NQ_b (fun q3 => NQ_b (fun q4 => NQ_s nq0)))))
theorem NQ_X9_drawn {St : SSR} {St_rows : SRows} {x1 : Int32} : NQ (fun r => SR_troubleNumber r.2 ≠ nI 4) (f_X9_drawn St St_rows x1) := by
  unfold f_X9_drawn
  exact NQ_b (fun q1 => NQ_i (NQ_bp (NQ_ref nq1) (fun q7 hq7 => NQ_s hq7)) (NQ_i (NQ_bp (NQ_ref nq2) (fun q2 hq2 => NQ_s hq2)) (NQ_i (NQ_b (fun q3 => NQ_b (fun q4 => NQ_bp NQ_ans (fun q5 hq5 => NQ_s hq5)))) (NQ_bp (NQ_ref nq2) (fun q6 hq6 => NQ_s hq6)))))
theorem NQ_X9_begin {St : SSR} {St_rows : SRows} {St_history : SHi} {St_history_pool : SPool} : NQ (fun r => SR_troubleNumber r.2.1 ≠ nI 4) (f_X9_begin St St_rows St_history St_history_pool) := by
  unfold f_X9_begin
  exact NQ_b (fun q1 => NQ_i (NQ_bp (NQ_ref nq1) (fun q7 hq7 => NQ_s hq7)) (NQ_b (fun q2 => NQ_i (NQ_bp (NQ_ref nq3) (fun q6 hq6 => NQ_s hq6)) (NQ_b (fun q3 => NQ_b (fun q4 => NQ_bp NQ_ans (fun q5 hq5 => NQ_s hq5)))))))
theorem NQ_X6_putTrouble {St : SRows} {x1 : Int32} {x2 : Int32} : NQ (fun r => r ≠ nI 4) (f_X6_putTrouble St x1 x2) := by
  unfold f_X6_putTrouble
  exact NQ_b (fun q1 => NQ_i (NQ_s nq5) (NQ_i (NQ_s nq5) (NQ_i (NQ_s nq0) (NQ_b (fun q2 => NQ_i (NQ_b (fun q3 => NQ_b (fun q4 => NQ_b (fun q5 => NQ_i (NQ_s nq3) (NQ_s nq0))))) (NQ_s nq0))))))
theorem NQ_X9_put {St : SSR} {St_rows : SRows} {St_history : SHi} {St_history_pool : SPool} {x1 : Int32} {x2 : Int32} {x3 : Int32} : NQ (fun r => SR_troubleNumber r.2.1 ≠ nI 4) (f_X9_put St St_rows St_history St_history_pool x1 x2 x3) := by
  unfold f_X9_put
  exact NQ_b (fun q1 => NQ_i (NQ_bp (NQ_ref nq1) (fun q2 hq2 => NQ_s hq2)) (NQ_b (fun q3 => NQ_i (NQ_bp (NQ_ref nq1) (fun q11 hq11 => NQ_s hq11)) (NQ_b (fun q4 => NQ_i (NQ_bp (NQ_ref nq2) (fun q10 hq10 => NQ_s hq10)) (NQ_bp NQ_X6_putTrouble (fun q5 hq5 => NQ_i (NQ_b (fun q6 => NQ_b (fun q7 => NQ_bp NQ_ans (fun q8 hq8 => NQ_s hq8)))) (NQ_bp (NQ_ref hq5) (fun q9 hq9 => NQ_s hq9)))))))))
theorem NQ_X6_dropTrouble {St : SRows} {x1 : Int32} {x2 : Int32} : NQ (fun r => r ≠ nI 4) (f_X6_dropTrouble St x1 x2) := by
  unfold f_X6_dropTrouble
  exact NQ_b (fun q1 => NQ_i (NQ_s nq5) (NQ_i (NQ_s nq5) (NQ_i (NQ_s nq0) (NQ_b (fun q2 => NQ_b (fun q3 => NQ_i (NQ_s nq6) (NQ_s nq0)))))))
theorem NQ_X9_drop {St : SSR} {St_rows : SRows} {St_history : SHi} {St_history_pool : SPool} {x1 : Int32} {x2 : Int32} : NQ (fun r => SR_troubleNumber r.2.1 ≠ nI 4) (f_X9_drop St St_rows St_history St_history_pool x1 x2) := by
  unfold f_X9_drop
  exact NQ_b (fun q1 => NQ_i (NQ_bp (NQ_ref nq1) (fun q2 hq2 => NQ_s hq2)) (NQ_b (fun q3 => NQ_i (NQ_bp (NQ_ref nq1) (fun q9 hq9 => NQ_s hq9)) (NQ_bp NQ_X6_dropTrouble (fun q4 hq4 => NQ_i (NQ_b (fun q5 => NQ_b (fun q6 => NQ_bp NQ_ans (fun q7 hq7 => NQ_s hq7)))) (NQ_bp (NQ_ref hq4) (fun q8 hq8 => NQ_s hq8)))))))
theorem NQ_X9_done {St : SSR} {St_rows : SRows} {St_history : SHi} {St_history_pool : SPool} {x1 : Int32} : NQ (fun r => SR_troubleNumber r.2.1 ≠ nI 4) (f_X9_done St St_rows St_history St_history_pool x1) := by
  unfold f_X9_done
  exact NQ_b (fun q1 => NQ_i (NQ_bp (NQ_ref nq1) (fun q7 hq7 => NQ_s hq7)) (NQ_b (fun q2 => NQ_i (NQ_b (fun q3 => NQ_b (fun q4 => NQ_bp NQ_ans (fun q5 hq5 => NQ_s hq5)))) (NQ_bp (NQ_ref nq5) (fun q6 hq6 => NQ_s hq6)))))
theorem NQ_X9_gone {St : SSR} {St_rows : SRows} {St_history : SHi} {St_history_pool : SPool} {x1 : Int32} : NQ (fun r => SR_troubleNumber r.2.1 ≠ nI 4) (f_X9_gone St St_rows St_history St_history_pool x1) := by
  unfold f_X9_gone
  exact NQ_b (fun q1 => NQ_i (NQ_bp (NQ_ref nq1) (fun q5 hq5 => NQ_s hq5)) (NQ_b (fun q2 => NQ_b (fun q3 => NQ_bp NQ_ans (fun q4 hq4 => NQ_s hq4)))))
theorem NQ_X9_clear {St : SSR} {St_rows : SRows} {St_history : SHi} {St_history_pool : SPool} : NQ (fun r => SR_troubleNumber r.2.1 ≠ nI 4) (f_X9_clear St St_rows St_history St_history_pool) := by
  unfold f_X9_clear
  exact NQ_b (fun q1 => NQ_i (NQ_bp (NQ_ref nq1) (fun q7 hq7 => NQ_s hq7)) (NQ_b (fun q2 => NQ_i (NQ_bp (NQ_ref nq6) (fun q6 hq6 => NQ_s hq6)) (NQ_b (fun q3 => NQ_b (fun q4 => NQ_bp NQ_ans (fun q5 hq5 => NQ_s hq5)))))))
theorem NQ_X9_freeze {St : SSR} {St_rows : SRows} {St_history : SHi} {St_history_pool : SPool} : NQ (fun r => SR_troubleNumber r.2.1 ≠ nI 4) (f_X9_freeze St St_rows St_history St_history_pool) := by
  unfold f_X9_freeze
  exact NQ_b (fun q1 => NQ_i (NQ_bp (NQ_ref nq1) (fun q7 hq7 => NQ_s hq7)) (NQ_b (fun q2 => NQ_i (NQ_bp (NQ_ref nq6) (fun q6 hq6 => NQ_s hq6)) (NQ_b (fun q3 => NQ_b (fun q4 => NQ_bp NQ_ans (fun q5 hq5 => NQ_s hq5)))))))
theorem NQ_X9_undo {St : SSR} {St_rows : SRows} {St_history : SHi} {St_history_pool : SPool} : NQ (fun r => SR_troubleNumber r.2.1 ≠ nI 4) (f_X9_undo St St_rows St_history St_history_pool) := by
  unfold f_X9_undo
  exact NQ_b (fun q1 => NQ_i (NQ_i (NQ_s nq6) (NQ_n)) (NQ_i (NQ_s nq0) (NQ_n)))
theorem NQ_X9_image {St : SSR} {St_rows : SRows} {St_history : SHi} {St_history_pool : SPool} : NQ (fun r => SR_troubleNumber r.2.1 ≠ nI 4) (f_X9_image St St_rows St_history St_history_pool) := by
  unfold f_X9_image
  exact NQ_b (fun q1 => NQ_i (NQ_bp (NQ_ref nq1) (fun q5 hq5 => NQ_s hq5)) (NQ_b (fun q2 => NQ_i (NQ_bp (NQ_ref nq3) (fun q4 hq4 => NQ_s hq4)) (NQ_bp NQ_ans (fun q3 hq3 => NQ_s hq3)))))
theorem NQ_X9_back {St : SSR} {St_rows : SRows} {St_history : SHi} {St_history_pool : SPool} {x1 : Int32} : NQ (fun r => SR_troubleNumber r.2.1 ≠ nI 4) (f_X9_back St St_rows St_history St_history_pool x1) := by
  unfold f_X9_back
  exact NQ_b (fun q1 => NQ_i (NQ_i (NQ_s nq1) (NQ_n)) (NQ_i (NQ_s nq0) (NQ_n)))
