section
variable {T : SSR} {E : SEv} {Hi : SHi} {P : SPool} {R : SRows} {Tp : STape} {S S' : SMo} {r on og tl st und kpt tp : Nat → Int32} {b : Nat}
theorem IV_mono (hb : b + 1 < 2 ^ 29) (h : IV T E Hi P R Tp S r on og tl st und kpt tp b) : IV T E Hi P R Tp S r on og tl st und kpt tp (b + 1) :=
  ⟨TA_S (Nat.le_succ b) hb rfl rfl rfl rfl h.1, h.2⟩
theorem IV_1 {q : Int32} (hb : b + 1 < 2 ^ 29) (hq : q ≠ nI 4) (h : IV T E Hi P R Tp S r on og tl st und kpt tp b) (g : SA S S' q) : IV (sSR_troubleNumber T q) E Hi P R Tp S' r on og tl st und kpt tp (b + 1) :=
  IV_mono hb (IV_SA (Nat.lt_of_succ_lt hb) hq h g)
theorem IV_QB {A : Option (Int32 × SSR)} {B : Option (Int32 × SMo)} (hb : b + 1 < 2 ^ 29) (h : IV T E Hi P R Tp S r on og tl st und kpt tp b) (k : QB T S A B) (nq : NQ (fun r => SR_troubleNumber r.2 ≠ nI 4) A) : ∃ a T' S', A = some (a, T') ∧ B = some (a, S') ∧ IV T' E Hi P R Tp S' r on og tl st und kpt tp (b + 1) := by
  obtain ⟨a, q, S1, e1, e2, g⟩ := k
  exact ⟨a, _, S1, e1, e2, IV_1 hb (nq _ e1) h g⟩
theorem IV_QT {C : Type} {A : Option (C × SSR)} {B : Option (C × SMo × (Nat → Int32))} (hb : b + 1 < 2 ^ 29) (h : IV T E Hi P R Tp S r on og tl st und kpt tp b) (k : ∃ x q S' t, A = some (x, sSR_troubleNumber T q) ∧ B = some (x, S', t) ∧ SA S S' q) (nq : NQ (fun r => SR_troubleNumber r.2 ≠ nI 4) A) : ∃ a T' S' t, A = some (a, T') ∧ B = some (a, S', t) ∧ IV T' E Hi P R Tp S' r on og tl st und kpt tp (b + 1) := by
  obtain ⟨a, q, S1, t, e1, e2, g⟩ := k
  exact ⟨a, _, S1, t, e1, e2, IV_1 hb (nq _ e1) h g⟩
theorem IV_QU {A : Option (Int32 × SSR)} {B : Option (Int32 × SMo × (Nat → Int32) × (Nat → Int32))} (hb : b + 1 < 2 ^ 29) (h : IV T E Hi P R Tp S r on og tl st und kpt tp b) (k : ∃ x q S' t u, A = some (x, sSR_troubleNumber T q) ∧ B = some (x, S', t, u) ∧ SA S S' q) (nq : NQ (fun r => SR_troubleNumber r.2 ≠ nI 4) A) : ∃ a T' S' t u, A = some (a, T') ∧ B = some (a, S', t, u) ∧ IV T' E Hi P R Tp S' r on og tl st und kpt tp (b + 1) := by
  obtain ⟨a, q, S1, t, u, e1, e2, g⟩ := k
  exact ⟨a, _, S1, t, u, e1, e2, IV_1 hb (nq _ e1) h g⟩
theorem IV_TA {R' : SRows} {Hi' : SHi} {P' : SPool} {st' und' kpt' : Nat → Int32} {q : Int32} {b' : Nat} (hq : q ≠ nI 4) (h : IV T E Hi P R Tp S r on og tl st und kpt tp b) (e : Mo_trouble S' = q) (k : SK S S') (hs : Mo_hasStore S' = Mo_hasStore S) (t : TA R' Hi' P' S' r st' und' kpt' b') : IV (sSR_troubleNumber T q) E Hi' P' R' Tp S' r on og tl st' und' kpt' tp b' := by
  obtain ⟨h1, h2, h3, h4, h5, ⟨z, kf, v1, v2, v3, v4⟩, h7⟩ := h
  obtain ⟨k1, k2, k3⟩ := k
  exact ⟨t, ER_S h2 hs, e.symm, h4.trans k2.symm, fun x => absurd (e.symm.trans x) hq, ⟨z, kf, v1, v2, k1.trans v3, v4⟩, fun x => h7 (hs.symm.trans x)⟩
theorem IV_AB {A : Option (Int32 × SSR × SRows × SHi × SPool)} {B : Option (Int32 × SMo × (Nat → Int32) × (Nat → Int32) × (Nat → Int32))} (h : IV T E Hi P R Tp S r on og tl st und kpt tp b) (k : AB T S r kpt b A B) (nq : NQ (fun r => SR_troubleNumber r.2.1 ≠ nI 4) A) (hk : NQ (fun r => Mo_hasStore r.2.1 = Mo_hasStore S) B) : ∃ a T' R' Hi' P' S' st' tr' und', A = some (a, T', R', Hi', P') ∧ B = some (a, S', st', tr', und') ∧ IV T' E Hi' P' R' Tp S' r on og tl st' und' kpt tp (b + 1) := by
  obtain ⟨a, q, R', Hi', P', S1, st', tr', und', e1, e2, e3, e4, e5⟩ := k
  exact ⟨a, _, R', Hi', P', S1, st', tr', und', e1, e2, IV_TA (nq _ e1) h e3 e4 (hk _ e2) e5⟩
theorem IV_ABm {A : Option (Int32 × SSR × SRows × SHi × SPool)} {B : Option (Int32 × SMo × (Nat → Int32) × (Nat → Int32) × (Nat → Int32) × (Nat → Int32))} (h : IV T E Hi P R Tp S r on og tl st und kpt tp b) (k : ABm T S r kpt b A B) (nq : NQ (fun r => SR_troubleNumber r.2.1 ≠ nI 4) A) (hk : NQ (fun r => Mo_hasStore r.2.1 = Mo_hasStore S) B) : ∃ a T' R' Hi' P' S' mk' st' tr' und', A = some (a, T', R', Hi', P') ∧ B = some (a, S', mk', st', tr', und') ∧ IV T' E Hi' P' R' Tp S' r on og tl st' und' kpt tp (b + 1) := by
  obtain ⟨mk', a, q, R', Hi', P', S1, st', tr', und', e1, e2, e3, e4, e5⟩ := k
  exact ⟨a, _, R', Hi', P', S1, mk', st', tr', und', e1, e2, IV_TA (nq _ e1) h e3 e4 (hk _ e2) e5⟩
theorem IV_UB {A : Option (Int32 × SSR × SRows × SHi)} {B : Option (Int32 × SMo × (Nat → Int32))} (hb : b + 1 < 2 ^ 29) (h : IV T E Hi P R Tp S r on og tl st und kpt tp b) (k : UB T P S r und kpt b A B) (nq : NQ (fun r => SR_troubleNumber r.2.1 ≠ nI 4) A) (hk : NQ (fun r => Mo_hasStore r.2.1 = Mo_hasStore S) B) : ∃ a T' R' Hi' S' st', A = some (a, T', R', Hi') ∧ B = some (a, S', st') ∧ IV T' E Hi' P R' Tp S' r on og tl st' und kpt tp (b + 1) := by
  obtain ⟨a, q, R', Hi', S1, st', e1, e2, e3, e4, e5⟩ := k
  exact ⟨a, _, R', Hi', S1, st', e1, e2, IV_mono hb (IV_TA (nq _ e1) h e3 e4 (hk _ e2) e5)⟩
theorem w_next (hb : b + 1 < 2 ^ 29) (h : IV T E Hi P R Tp S r on og tl st und kpt tp b)  : ∃ a T' S', f_X9_next T R = some (a, T') ∧ f_X10_next S st = some (a, S') ∧ IV T' E Hi P R Tp S' r on og tl st und kpt tp (b + 1) :=
  IV_QB hb h (t_next (IV_QQ h) ) NQ_X9_next
theorem w_age (hb : b + 1 < 2 ^ 29) (h : IV T E Hi P R Tp S r on og tl st und kpt tp b) (x : Int32) : ∃ a T' S', f_X9_age T R x = some (a, T') ∧ f_X10_age S st x = some (a, S') ∧ IV T' E Hi P R Tp S' r on og tl st und kpt tp (b + 1) :=
  IV_QB hb h (t_age (IV_QQ h) x) NQ_X9_age
theorem w_older (hb : b + 1 < 2 ^ 29) (h : IV T E Hi P R Tp S r on og tl st und kpt tp b) (x y : Int32) : ∃ a T' S', f_X9_older T R x y = some (a, T') ∧ f_X10_older S x y = some (a, S') ∧ IV T' E Hi P R Tp S' r on og tl st und kpt tp (b + 1) :=
  IV_QB hb h (t_older (IV_QQ h) x y) NQ_X9_older
theorem w_oldest (hb : b + 1 < 2 ^ 29) (h : IV T E Hi P R Tp S r on og tl st und kpt tp b)  : ∃ a T' S', f_X9_oldest T R = some (a, T') ∧ f_X10_oldest S st = some (a, S') ∧ IV T' E Hi P R Tp S' r on og tl st und kpt tp (b + 1) :=
  IV_QB hb h (t_oldest (IV_QQ h) ) NQ_X9_oldest
theorem w_room (hb : b + 1 < 2 ^ 29) (h : IV T E Hi P R Tp S r on og tl st und kpt tp b)  : ∃ a T' S', f_X9_room T R = some (a, T') ∧ f_X10_room S st = some (a, S') ∧ IV T' E Hi P R Tp S' r on og tl st und kpt tp (b + 1) :=
  IV_QB hb h (t_room (IV_QQ h) ) NQ_X9_room
theorem w_horizon (hb : b + 1 < 2 ^ 29) (h : IV T E Hi P R Tp S r on og tl st und kpt tp b)  : ∃ a T' S', f_X9_horizon T R = some (a, T') ∧ f_X10_horizon S st = some (a, S') ∧ IV T' E Hi P R Tp S' r on og tl st und kpt tp (b + 1) :=
  IV_QB hb h (t_horizon (IV_QQ h) ) NQ_X9_horizon
theorem w_running (hb : b + 1 < 2 ^ 29) (h : IV T E Hi P R Tp S r on og tl st und kpt tp b)  : ∃ a T' S', f_X9_running T R = some (a, T') ∧ f_X10_running S st = some (a, S') ∧ IV T' E Hi P R Tp S' r on og tl st und kpt tp (b + 1) :=
  IV_QB hb h (t_running (IV_QQ h) ) NQ_X9_running
theorem w_counts (hb : b + 1 < 2 ^ 29) (h : IV T E Hi P R Tp S r on og tl st und kpt tp b) (x y : Int32) : ∃ a T' S', f_X9_counts T R x y = some (a, T') ∧ f_X10_counts S st x y = some (a, S') ∧ IV T' E Hi P R Tp S' r on og tl st und kpt tp (b + 1) :=
  IV_QB hb h (t_counts (IV_QQ h) x y) NQ_X9_counts
theorem w_holdsBack (hb : b + 1 < 2 ^ 29) (h : IV T E Hi P R Tp S r on og tl st und kpt tp b)  : ∃ a T' S', f_X9_holdsBack T R = some (a, T') ∧ f_X10_holdsBack S st = some (a, S') ∧ IV T' E Hi P R Tp S' r on og tl st und kpt tp (b + 1) :=
  IV_QB hb h (t_holdsBack (IV_QQ h) ) NQ_X9_holdsBack
theorem w_chain (hb : b + 1 < 2 ^ 29) (h : IV T E Hi P R Tp S r on og tl st und kpt tp b) (x : Int32) : ∃ a T' S', f_X9_chain T R x = some (a, T') ∧ f_X10_chain S r st x = some (a, S') ∧ IV T' E Hi P R Tp S' r on og tl st und kpt tp (b + 1) :=
  IV_QB hb h (t_chain (IV_QQ h) x) NQ_X9_chain
theorem w_chainAt (hb : b + 1 < 2 ^ 29) (h : IV T E Hi P R Tp S r on og tl st und kpt tp b) (x y : Int32) : ∃ a T' S', f_X9_chainAt T R x y = some (a, T') ∧ f_X10_chainAt S r st x y = some (a, S') ∧ IV T' E Hi P R Tp S' r on og tl st und kpt tp (b + 1) :=
  IV_QB hb h (t_chainAt (IV_QQ h) x y) NQ_X9_chainAt
theorem w_seenBy (hb : b + 1 < 2 ^ 29) (h : IV T E Hi P R Tp S r on og tl st und kpt tp b) (x : Int32) : ∃ a T' S', f_X9_seenBy T R x = some (a, T') ∧ f_X10_seenBy S st x = some (a, S') ∧ IV T' E Hi P R Tp S' r on og tl st und kpt tp (b + 1) :=
  IV_QB hb h (t_seenBy (IV_QQ h) x) NQ_X9_seenBy
theorem w_dead (hb : b + 1 < 2 ^ 29) (h : IV T E Hi P R Tp S r on og tl st und kpt tp b)  : ∃ a T' S', f_X9_dead T R = some (a, T') ∧ f_X10_dead S st = some (a, S') ∧ IV T' E Hi P R Tp S' r on og tl st und kpt tp (b + 1) :=
  IV_QB hb h (t_dead (IV_QQ h) ) NQ_X9_dead
theorem w_freezes (hb : b + 1 < 2 ^ 29) (h : IV T E Hi P R Tp S r on og tl st und kpt tp b)  : ∃ a T' S', f_X9_freezes T R = some (a, T') ∧ f_X10_freezes S st = some (a, S') ∧ IV T' E Hi P R Tp S' r on og tl st und kpt tp (b + 1) :=
  IV_QB hb h (t_freezes (IV_QQ h) ) NQ_X9_freezes
theorem w_sees (hb : b + 1 < 2 ^ 29) (h : IV T E Hi P R Tp S r on og tl st und kpt tp b) (x y : Int32) : ∃ a T' S', f_X9_sees T R x y = some (a, T') ∧ f_X10_sees S r st x y = some (a, S') ∧ IV T' E Hi P R Tp S' r on og tl st und kpt tp (b + 1) :=
  IV_QB hb h (t_sees (IV_QQ h) x y) NQ_X9_sees
theorem w_read (hb : b + 1 < 2 ^ 29) (h : IV T E Hi P R Tp S r on og tl st und kpt tp b) (x y : Int32) : ∃ a T' S', f_X9_read T R x y = some (a, T') ∧ f_X10_read S r st x y = some (a, S') ∧ IV T' E Hi P R Tp S' r on og tl st und kpt tp (b + 1) :=
  IV_QB hb h (t_read (IV_QQ h) x y) NQ_X9_read
theorem w_sum (hb : b + 1 < 2 ^ 29) (h : IV T E Hi P R Tp S r on og tl st und kpt tp b) (x : Int32) : ∃ a T' S', f_X9_sum T R x = some (a, T') ∧ f_X10_sum S r st x = some (a, S') ∧ IV T' E Hi P R Tp S' r on og tl st und kpt tp (b + 1) :=
  IV_QB hb h (t_sum (IV_QQ h) x) NQ_X9_sum
theorem w_fresh (hb : b + 1 < 2 ^ 29) (h : IV T E Hi P R Tp S r on og tl st und kpt tp b) (x : Int32) : ∃ a T' S', f_X9_fresh T R x = some (a, T') ∧ f_X10_fresh S r st x = some (a, S') ∧ IV T' E Hi P R Tp S' r on og tl st und kpt tp (b + 1) :=
  IV_QB hb h (t_fresh (IV_QQ h) x) NQ_X9_fresh
theorem w_freshSum (hb : b + 1 < 2 ^ 29) (h : IV T E Hi P R Tp S r on og tl st und kpt tp b)  : ∃ a T' S', f_X9_freshSum T R = some (a, T') ∧ f_X10_freshSum S r st = some (a, S') ∧ IV T' E Hi P R Tp S' r on og tl st und kpt tp (b + 1) :=
  IV_QB hb h (t_freshSum (IV_QQ h) ) NQ_X9_freshSum
theorem w_asOf (hb : b + 1 < 2 ^ 29) (h : IV T E Hi P R Tp S r on og tl st und kpt tp b) (x y : Int32) : ∃ a T' S', f_X9_asOf T R x y = some (a, T') ∧ f_X10_asOf S r st x y = some (a, S') ∧ IV T' E Hi P R Tp S' r on og tl st und kpt tp (b + 1) :=
  IV_QB hb h (t_asOf (IV_QQ h) x y) NQ_X9_asOf
theorem w_may (hb : b + 1 < 2 ^ 29) (h : IV T E Hi P R Tp S r on og tl st und kpt tp b) (x y : Int32) : ∃ a T' S', f_X9_may T R x y = some (a, T') ∧ f_X10_may S r st x y = some (a, S') ∧ IV T' E Hi P R Tp S' r on og tl st und kpt tp (b + 1) :=
  IV_QB hb h (t_may (IV_QQ h) x y) NQ_X9_may
theorem w_waitsFor (hb : b + 1 < 2 ^ 29) (h : IV T E Hi P R Tp S r on og tl st und kpt tp b) (x y : Int32) : ∃ a T' S', f_X9_waitsFor T R x y = some (a, T') ∧ f_X10_waitsFor S r st x y = some (a, S') ∧ IV T' E Hi P R Tp S' r on og tl st und kpt tp (b + 1) :=
  IV_QB hb h (t_waitsFor (IV_QQ h) x y) NQ_X9_waitsFor
theorem w_open (hb : b + 1 < 2 ^ 29) (h : IV T E Hi P R Tp S r on og tl st und kpt tp b) (x : Int32) : ∃ a T' S', f_X9_open T R x = some (a, T') ∧ f_X10_open S r st x = some (a, S') ∧ IV T' E Hi P R Tp S' r on og tl st und kpt tp (b + 1) :=
  IV_QB hb h (t_open (IV_QQ h) x) NQ_X9_open
theorem w_loses (hb : b + 1 < 2 ^ 29) (h : IV T E Hi P R Tp S r on og tl st und kpt tp b) (x : Int32) : ∃ a T' S', f_X9_loses T R x = some (a, T') ∧ f_X10_loses S r st x = some (a, S') ∧ IV T' E Hi P R Tp S' r on og tl st und kpt tp (b + 1) :=
  IV_QB hb h (t_loses (IV_QQ h) x) NQ_X9_loses
theorem w_differ (hb : b + 1 < 2 ^ 29) (h : IV T E Hi P R Tp S r on og tl st und kpt tp b) (x y : Int32) : ∃ a T' S', f_X9_differ T R x y = some (a, T') ∧ f_X10_differ S r st x y = some (a, S') ∧ IV T' E Hi P R Tp S' r on og tl st und kpt tp (b + 1) :=
  IV_QB hb h (t_differ (IV_QQ h) x y) NQ_X9_differ
theorem w_changed (hb : b + 1 < 2 ^ 29) (h : IV T E Hi P R Tp S r on og tl st und kpt tp b) (x y : Int32) : ∃ a T' S', f_X9_changed T R x y = some (a, T') ∧ f_X10_changed S r st x y = some (a, S') ∧ IV T' E Hi P R Tp S' r on og tl st und kpt tp (b + 1) :=
  IV_QB hb h (t_changed (IV_QQ h) x y) NQ_X9_changed
theorem w_version (hb : b + 1 < 2 ^ 29) (h : IV T E Hi P R Tp S r on og tl st und kpt tp b) (x y : Int32) : ∃ a T' S', f_X9_version T R x y = some (a, T') ∧ f_X10_version S st x y = some (a, S') ∧ IV T' E Hi P R Tp S' r on og tl st und kpt tp (b + 1) :=
  IV_QB hb h (t_version (IV_QQ h) x y) NQ_X9_version
theorem w_rests (hb : b + 1 < 2 ^ 29) (h : IV T E Hi P R Tp S r on og tl st und kpt tp b) (x : Int32) : ∃ a T' S', f_X9_rests T R x = some (a, T') ∧ f_X10_rests S x = some (a, S') ∧ IV T' E Hi P R Tp S' r on og tl st und kpt tp (b + 1) :=
  IV_QB hb h (t_rests (IV_QQ h) x) NQ_X9_rests
theorem w_rest (hb : b + 1 < 2 ^ 29) (h : IV T E Hi P R Tp S r on og tl st und kpt tp b) (x : Int32) : ∃ a T' S', f_X9_rest T R x = some (a, T') ∧ f_X10_rest S x = some (a, S') ∧ IV T' E Hi P R Tp S' r on og tl st und kpt tp (b + 1) :=
  IV_QB hb h (t_rest (IV_QQ h) x) NQ_X9_rest
theorem w_waits (hb : b + 1 < 2 ^ 29) (h : IV T E Hi P R Tp S r on og tl st und kpt tp b) (x y z u : Int32) : ∃ a T' S', f_X9_waits T R x y z u = some (a, T') ∧ f_X10_waits S x y z u = some (a, S') ∧ IV T' E Hi P R Tp S' r on og tl st und kpt tp (b + 1) :=
  IV_QB hb h (t_waits (IV_QQ h) x y z u) NQ_X9_waits
theorem w_writer (hb : b + 1 < 2 ^ 29) (h : IV T E Hi P R Tp S r on og tl st und kpt tp b) (x y : Int32) : ∃ a T' S', f_X9_writer T R x y = some (a, T') ∧ f_X10_writer S st x y = some (a, S') ∧ IV T' E Hi P R Tp S' r on og tl st und kpt tp (b + 1) :=
  IV_QB hb h (t_writer (IV_QQ h) x y) NQ_X9_writer
theorem w_roomFrozen (hb : b + 1 < 2 ^ 29) (h : IV T E Hi P R Tp S r on og tl st und kpt tp b) (mk tr : Nat → Int32) : ∃ a T' S' t u, f_X9_roomFrozen T R = some (a, T') ∧ f_X10_roomFrozen S mk st tr = some (a, S', t, u) ∧ IV T' E Hi P R Tp S' r on og tl st und kpt tp (b + 1) :=
  IV_QU hb h (t_roomFrozen (IV_QQ h) mk tr) NQ_X9_roomFrozen
theorem w_frees (hb : b + 1 < 2 ^ 29) (h : IV T E Hi P R Tp S r on og tl st und kpt tp b) (tr : Nat → Int32) (x : Int32) : ∃ a T' S' t, f_X9_frees T R x = some (a, T') ∧ f_X10_frees S st tr x = some (a, S', t) ∧ IV T' E Hi P R Tp S' r on og tl st und kpt tp (b + 1) :=
  IV_QT hb h (t_frees (IV_QQ h) tr x) NQ_X9_frees
theorem w_begin (hb : b + 1 < 2 ^ 29) (h : IV T E Hi P R Tp S r on og tl st und kpt tp b) (tr : Nat → Int32) : ∃ a T' R' Hi' P' S' st' tr' und', f_X9_begin T R Hi P = some (a, T', R', Hi', P') ∧ f_X10_begin S st tr und = some (a, S', st', tr', und') ∧ IV T' E Hi' P' R' Tp S' r on og tl st' und' kpt tp (b + 1) :=
  IV_AB h (t_begin hb h.1 tr) NQ_X9_begin (HK_f_X10_begin rfl)
theorem w_put (hb : b + 1 < 2 ^ 29) (h : IV T E Hi P R Tp S r on og tl st und kpt tp b) (tr : Nat → Int32) (x y z : Int32) : ∃ a T' R' Hi' P' S' st' tr' und', f_X9_put T R Hi P x y z = some (a, T', R', Hi', P') ∧ f_X10_put S r st tr und x y z = some (a, S', st', tr', und') ∧ IV T' E Hi' P' R' Tp S' r on og tl st' und' kpt tp (b + 1) :=
  IV_AB h (t_put hb h.1 tr x y z) NQ_X9_put (HK_f_X10_put rfl)
theorem w_drop (hb : b + 1 < 2 ^ 29) (h : IV T E Hi P R Tp S r on og tl st und kpt tp b) (tr : Nat → Int32) (x y : Int32) : ∃ a T' R' Hi' P' S' st' tr' und', f_X9_drop T R Hi P x y = some (a, T', R', Hi', P') ∧ f_X10_drop S r st tr und x y = some (a, S', st', tr', und') ∧ IV T' E Hi' P' R' Tp S' r on og tl st' und' kpt tp (b + 1) :=
  IV_AB h (t_drop hb h.1 tr x y) NQ_X9_drop (HK_f_X10_drop rfl)
theorem w_done (hb : b + 1 < 2 ^ 29) (h : IV T E Hi P R Tp S r on og tl st und kpt tp b) (tr : Nat → Int32) (x : Int32) : ∃ a T' R' Hi' P' S' st' tr' und', f_X9_done T R Hi P x = some (a, T', R', Hi', P') ∧ f_X10_done S st tr und x = some (a, S', st', tr', und') ∧ IV T' E Hi' P' R' Tp S' r on og tl st' und' kpt tp (b + 1) :=
  IV_AB h (t_done hb h.1 tr x) NQ_X9_done (HK_f_X10_done rfl)
theorem w_gone (hb : b + 1 < 2 ^ 29) (h : IV T E Hi P R Tp S r on og tl st und kpt tp b) (tr : Nat → Int32) (x : Int32) : ∃ a T' R' Hi' P' S' st' tr' und', f_X9_gone T R Hi P x = some (a, T', R', Hi', P') ∧ f_X10_gone S st tr und x = some (a, S', st', tr', und') ∧ IV T' E Hi' P' R' Tp S' r on og tl st' und' kpt tp (b + 1) :=
  IV_AB h (t_gone hb h.1 tr x) NQ_X9_gone (HK_f_X10_gone rfl)
theorem w_clear (hb : b + 1 < 2 ^ 29) (h : IV T E Hi P R Tp S r on og tl st und kpt tp b) (mk tr : Nat → Int32) : ∃ a T' R' Hi' P' S' mk' st' tr' und', f_X9_clear T R Hi P = some (a, T', R', Hi', P') ∧ f_X10_clear S mk st tr und = some (a, S', mk', st', tr', und') ∧ IV T' E Hi' P' R' Tp S' r on og tl st' und' kpt tp (b + 1) :=
  IV_ABm h (t_clear hb h.1 mk tr) NQ_X9_clear (HK_f_X10_clear rfl)
theorem w_freeze (hb : b + 1 < 2 ^ 29) (h : IV T E Hi P R Tp S r on og tl st und kpt tp b) (mk tr : Nat → Int32) : ∃ a T' R' Hi' P' S' mk' st' tr' und', f_X9_freeze T R Hi P = some (a, T', R', Hi', P') ∧ f_X10_freeze S mk st tr und = some (a, S', mk', st', tr', und') ∧ IV T' E Hi' P' R' Tp S' r on og tl st' und' kpt tp (b + 1) :=
  IV_ABm h (t_freeze hb h.1 mk tr) NQ_X9_freeze (HK_f_X10_freeze rfl)
theorem w_undo (hb : b + 1 < 2 ^ 29) (h : IV T E Hi P R Tp S r on og tl st und kpt tp b)  : ∃ a T' R' Hi' S' st', f_X9_undo T R Hi P = some (a, T', R', Hi') ∧ f_X10_undo S st und = some (a, S', st') ∧ IV T' E Hi' P R' Tp S' r on og tl st' und kpt tp (b + 1) :=
  IV_UB hb h (t_undo (Nat.lt_of_succ_lt hb) h.1 ) NQ_X9_undo (HK_f_X10_undo rfl)
theorem w_back (hb : b + 1 < 2 ^ 29) (h : IV T E Hi P R Tp S r on og tl st und kpt tp b) (x : Int32) : ∃ a T' R' Hi' S' st', f_X9_back T R Hi P x = some (a, T', R', Hi') ∧ f_X10_back S kpt st x = some (a, S', st') ∧ IV T' E Hi' P R' Tp S' r on og tl st' und kpt tp (b + 1) :=
  IV_UB hb h (t_back (Nat.lt_of_succ_lt hb) h.1 x) NQ_X9_back (HK_f_X10_back rfl)
theorem w_image (hb : b + 1 < 2 ^ 29) (h : IV T E Hi P R Tp S r on og tl st und kpt tp b)  : ∃ a T' Hi' P' S' kpt', f_X9_image T R Hi P = some (a, T', Hi', P') ∧ f_X10_image S kpt st = some (a, S', kpt') ∧ IV T' E Hi' P' R Tp S' r on og tl st und kpt' tp (b + 1) := by
  obtain ⟨a, q, Hi', P', S1, kpt', e1, e2, e3, e4, e5⟩ := t_image (T := T) (Nat.lt_of_succ_lt hb) h.1
  have h4 : q ≠ nI 4 := NQ_X9_image _ e1
  have h5 : Mo_hasStore S1 = Mo_hasStore S := HK_f_X10_image rfl _ e2
  exact ⟨a, _, Hi', P', S1, kpt', e1, e2, IV_mono hb (IV_TA h4 h e3 e4 h5 e5)⟩
theorem w_fits (hb : b + 1 < 2 ^ 29) (h : IV T E Hi P R Tp S r on og tl st und kpt tp b) (tr : Nat → Int32) (of : Nat → Int32)  : ∃ a T' S' t u, f_X9_fits T E R = some (a, T') ∧ f_X10_fits S of og on r tl tr = some (a, S', t, u) ∧ IV T' E Hi P R Tp S' r on og tl st und kpt tp (b + 1) :=
  IV_QU hb h (t_fits (IV_QQ h) h.2.1 ) NQ_X9_fits
theorem w_could (hb : b + 1 < 2 ^ 29) (h : IV T E Hi P R Tp S r on og tl st und kpt tp b) (tr : Nat → Int32) (of : Nat → Int32)  : ∃ a T' S' t u, f_X9_could T E R = some (a, T') ∧ f_X10_could S of og on r tl tr = some (a, S', t, u) ∧ IV T' E Hi P R Tp S' r on og tl st und kpt tp (b + 1) :=
  IV_QU hb h (t_could (IV_QQ h) h.2.1 ) NQ_X9_could
theorem w_surely (hb : b + 1 < 2 ^ 29) (h : IV T E Hi P R Tp S r on og tl st und kpt tp b) (tr : Nat → Int32) (of : Nat → Int32)  : ∃ a T' S' t u, f_X9_surely T E R = some (a, T') ∧ f_X10_surely S of og on r tl tr = some (a, S', t, u) ∧ IV T' E Hi P R Tp S' r on og tl st und kpt tp (b + 1) :=
  IV_QU hb h (t_surely (IV_QQ h) h.2.1 ) NQ_X9_surely
theorem w_ask (hb : b + 1 < 2 ^ 29) (h : IV T E Hi P R Tp S r on og tl st und kpt tp b) (tr : Nat → Int32) (of : Nat → Int32)  : ∃ a T' S' t u, f_X9_ask T E R = some (a, T') ∧ f_X10_ask S of og on r tl tr = some (a, S', t, u) ∧ IV T' E Hi P R Tp S' r on og tl st und kpt tp (b + 1) :=
  IV_QU hb h (t_ask (IV_QQ h) h.2.1 ) NQ_X9_ask
theorem w_askLeaves (hb : b + 1 < 2 ^ 29) (h : IV T E Hi P R Tp S r on og tl st und kpt tp b) (tr : Nat → Int32) (of : Nat → Int32)  : ∃ a T' S' t u, f_X9_askLeaves T E R = some (a, T') ∧ f_X10_askLeaves S of og on r tl tr = some (a, S', t, u) ∧ IV T' E Hi P R Tp S' r on og tl st und kpt tp (b + 1) :=
  IV_QU hb h (t_askLeaves (IV_QQ h) h.2.1 ) NQ_X9_askLeaves
theorem w_fitAt (hb : b + 1 < 2 ^ 29) (h : IV T E Hi P R Tp S r on og tl st und kpt tp b) (tr : Nat → Int32) (of : Nat → Int32) (x : Int32) : ∃ a T' S' t u, f_X9_fitAt T E x = some (a, T') ∧ f_X10_fitAt S of og on r tl tr x = some (a, S', t, u) ∧ IV T' E Hi P R Tp S' r on og tl st und kpt tp (b + 1) :=
  IV_QU hb h (t_fitAt (IV_QQ h) h.2.1 x) NQ_X9_fitAt
theorem w_judge (hb : b + 1 < 2 ^ 29) (h : IV T E Hi P R Tp S r on og tl st und kpt tp b) (tr : Nat → Int32)  : ∃ a T' S' t, f_X9_judge T E R = some (a, T') ∧ f_X10_judge S og on r tl tr = some (a, S', t) ∧ IV T' E Hi P R Tp S' r on og tl st und kpt tp (b + 1) :=
  IV_QT hb h (t_judge (IV_QQ h) h.2.1 ) NQ_X9_judge
theorem w_odds (hb : b + 1 < 2 ^ 29) (h : IV T E Hi P R Tp S r on og tl st und kpt tp b) (tr : Nat → Int32) (x y z : Int32) : ∃ a T' S' t, f_X9_odds T R x y z = some (a, T') ∧ f_X10_odds S r st tr x y z = some (a, S', t) ∧ IV T' E Hi P R Tp S' r on og tl st und kpt tp (b + 1) :=
  IV_QT hb h (t_odds (IV_QQ h) x y z) NQ_X9_odds
theorem w_mean (hb : b + 1 < 2 ^ 29) (h : IV T E Hi P R Tp S r on og tl st und kpt tp b) (tr : Nat → Int32) (z : Int32) : ∃ a T' S' t, f_X9_mean T R z = some (a, T') ∧ f_X10_mean S r st tr z = some (a, S', t) ∧ IV T' E Hi P R Tp S' r on og tl st und kpt tp (b + 1) :=
  IV_QT hb h (t_mean (IV_QQ h) z) NQ_X9_mean
theorem w_drawn (hb : b + 1 < 2 ^ 29) (h : IV T E Hi P R Tp S r on og tl st und kpt tp b) (tr : Nat → Int32) (x : Int32) : ∃ a T' S' t, f_X9_drawn T R x = some (a, T') ∧ f_X10_drawn S r st tr x = some (a, S', t) ∧ IV T' E Hi P R Tp S' r on og tl st und kpt tp (b + 1) :=
  IV_QT hb h (t_drawn (IV_QQ h) x) NQ_X9_drawn
end
