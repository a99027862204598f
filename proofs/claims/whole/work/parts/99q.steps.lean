/-! a call of the law, both sides -/
abbrev LwR : Type := Rec × Rec × Rec × Rec × Rec × Rec × Rec × Rec × Rec × Rec × Rec × Rec × Rec × Rec × Rec × Rec
abbrev LwR.c (b : LwR) : Rec := b.1
abbrev LwR.s (b : LwR) : Rec := b.2.1
abbrev LwR.p (b : LwR) : Rec := b.2.2.1
abbrev LwR.t (b : LwR) : Rec := b.2.2.2.1
abbrev LwR.e (b : LwR) : Rec := b.2.2.2.2.1
abbrev LwR.o (b : LwR) : Rec := b.2.2.2.2.2.1
abbrev LwR.oh (b : LwR) : Rec := b.2.2.2.2.2.2.1
abbrev LwR.h (b : LwR) : Rec := b.2.2.2.2.2.2.2.1
abbrev LwR.k (b : LwR) : Rec := b.2.2.2.2.2.2.2.2.1
abbrev LwR.q (b : LwR) : Rec := b.2.2.2.2.2.2.2.2.2.1
abbrev LwR.s1 (b : LwR) : Rec := b.2.2.2.2.2.2.2.2.2.2.1
abbrev LwR.p1 (b : LwR) : Rec := b.2.2.2.2.2.2.2.2.2.2.2.1
abbrev LwR.s2 (b : LwR) : Rec := b.2.2.2.2.2.2.2.2.2.2.2.2.1
abbrev LwR.p2 (b : LwR) : Rec := b.2.2.2.2.2.2.2.2.2.2.2.2.2.1
abbrev LwR.t1 (b : LwR) : Rec := b.2.2.2.2.2.2.2.2.2.2.2.2.2.2.1
abbrev LwR.t2 (b : LwR) : Rec := b.2.2.2.2.2.2.2.2.2.2.2.2.2.2.2
def wLB (b : LwR) : List va_E := wB b.c b.s b.p b.t b.e b.o b.oh b.h b.k b.q b.s1 b.p1 b.s2 b.p2 b.t1 b.t2
def LwI (K : Int32) (b : LwR) (m : Rec) : Prop := Inv K b.c b.s b.p b.t b.e b.q b.s1 b.p1 b.s2 b.p2 b.t1 b.t2 m
def LwS (K : Int32) (b : LwR) (m : Rec) (mi1 mi2 : MI) (av : List Value) : Prop := ∃ (y : Int32) (b2 : LwR) (m2 : Rec) (d1 d2 : Nat), d1 < 13 ∧ d2 < 13 ∧ Spec d1 0 0 mi1 (.ref 0 :: av) (wLB b) (Ret (some (.int y)) (wLB b2)) ∧ Spec d2 0 0 mi2 (.ref 0 :: av) (wM m) (Ret (some (.int y)) (wM m2)) ∧ LwI (K + 1) b2 m2
def LwSJ (K : Int32) (b : LwR) (m : Rec) (mi1 mi2 : MI) (av : List Value) : Prop := ∃ (y : Int64) (b2 : LwR) (m2 : Rec) (d1 d2 : Nat), d1 < 13 ∧ d2 < 13 ∧ Spec d1 0 0 mi1 (.ref 0 :: av) (wLB b) (Ret (some (.long y)) (wLB b2)) ∧ Spec d2 0 0 mi2 (.ref 0 :: av) (wM m) (Ret (some (.long y)) (wM m2)) ∧ LwI (K + 1) b2 m2
section
variable {K : Int32} {b : LwR} {m : Rec}
theorem lw_board_ (hK : K < 100000) (hK0 : 0 ≤ K) (hI : LwI K b m) (a0 : Int32) (a1 : Int32) : LwS K b m mX8_board mX9_board [.int a0, .int a1] := by
  obtain ⟨p8, p9, e, i⟩ := c_board b.o b.oh b.h b.k a0 a1 hK hK0 hI
  refine ⟨_, ⟨(f_X8_board b.c b.s b.p b.t b.e b.o b.oh b.h b.k b.q b.s1 b.p1 b.s2 b.p2 b.t1 b.t2 a0 a1).2.1, (f_X8_board b.c b.s b.p b.t b.e b.o b.oh b.h b.k b.q b.s1 b.p1 b.s2 b.p2 b.t1 b.t2 a0 a1).2.2.1, (f_X8_board b.c b.s b.p b.t b.e b.o b.oh b.h b.k b.q b.s1 b.p1 b.s2 b.p2 b.t1 b.t2 a0 a1).2.2.2.1, (f_X8_board b.c b.s b.p b.t b.e b.o b.oh b.h b.k b.q b.s1 b.p1 b.s2 b.p2 b.t1 b.t2 a0 a1).2.2.2.2.1, b.e, b.o, b.oh, b.h, b.k, (f_X8_board b.c b.s b.p b.t b.e b.o b.oh b.h b.k b.q b.s1 b.p1 b.s2 b.p2 b.t1 b.t2 a0 a1).2.2.2.2.2, b.s1, b.p1, b.s2, b.p2, b.t1, b.t2⟩, _, 4, 2, by decide, by decide, s_X8_board b.c b.s b.p b.t b.e b.o b.oh b.h b.k b.q b.s1 b.p1 b.s2 b.p2 b.t1 b.t2 a0 a1 p8, ?_, i⟩
  rw [e]
  exact s_X9_board m a0 a1 p9
theorem lw_hole_ (hK : K < 100000) (hI : LwI K b m) (a0 : Int32) : LwS K b m mX8_hole mX9_hole [.int a0] := by
  obtain ⟨p8, p9, e, i⟩ := c_hole b.o b.oh b.h b.k a0 hK hI
  refine ⟨_, ⟨(f_X8_hole b.c b.s b.p b.t b.e b.o b.oh b.h b.k b.q b.s1 b.p1 b.s2 b.p2 b.t1 b.t2 a0).2.1, (f_X8_hole b.c b.s b.p b.t b.e b.o b.oh b.h b.k b.q b.s1 b.p1 b.s2 b.p2 b.t1 b.t2 a0).2.2.1, b.p, (f_X8_hole b.c b.s b.p b.t b.e b.o b.oh b.h b.k b.q b.s1 b.p1 b.s2 b.p2 b.t1 b.t2 a0).2.2.2.1, b.e, b.o, b.oh, b.h, b.k, (f_X8_hole b.c b.s b.p b.t b.e b.o b.oh b.h b.k b.q b.s1 b.p1 b.s2 b.p2 b.t1 b.t2 a0).2.2.2.2, b.s1, b.p1, b.s2, b.p2, b.t1, b.t2⟩, _, 3, 2, by decide, by decide, s_X8_hole b.c b.s b.p b.t b.e b.o b.oh b.h b.k b.q b.s1 b.p1 b.s2 b.p2 b.t1 b.t2 a0 p8, ?_, i⟩
  rw [e]
  exact s_X9_hole m a0 p9
theorem lw_man_ (hK : K < 100000) (hI : LwI K b m) (a0 : Int32) (a1 : Int32) (a2 : Int32) (a3 : Int32) : LwS K b m mX8_man mX9_man [.int a0, .int a1, .int a2, .int a3] := by
  obtain ⟨p8, p9, e, i⟩ := c_man b.o b.oh b.h b.k a0 a1 a2 a3 hK hI
  refine ⟨_, ⟨(f_X8_man b.c b.s b.p b.t b.e b.o b.oh b.h b.k b.q b.s1 b.p1 b.s2 b.p2 b.t1 b.t2 a0 a1 a2 a3).2.1, b.s, (f_X8_man b.c b.s b.p b.t b.e b.o b.oh b.h b.k b.q b.s1 b.p1 b.s2 b.p2 b.t1 b.t2 a0 a1 a2 a3).2.2.1, (f_X8_man b.c b.s b.p b.t b.e b.o b.oh b.h b.k b.q b.s1 b.p1 b.s2 b.p2 b.t1 b.t2 a0 a1 a2 a3).2.2.2, b.e, b.o, b.oh, b.h, b.k, b.q, b.s1, b.p1, b.s2, b.p2, b.t1, b.t2⟩, _, 2, 2, by decide, by decide, s_X8_man b.c b.s b.p b.t b.e b.o b.oh b.h b.k b.q b.s1 b.p1 b.s2 b.p2 b.t1 b.t2 a0 a1 a2 a3 p8, ?_, i⟩
  rw [e]
  exact s_X9_man m a0 a1 a2 a3 p9
theorem lw_put_ (hK : K < 100000) (hI : LwI K b m) (a0 : Int32) (a1 : Int32) : LwS K b m mX8_put mX9_put [.int a0, .int a1] := by
  obtain ⟨p9, e, i⟩ := c_put b.o b.oh b.h b.k a0 a1 hK hI
  refine ⟨_, ⟨(f_X8_put b.c b.s b.p b.t b.e b.o b.oh b.h b.k b.q b.s1 b.p1 b.s2 b.p2 b.t1 b.t2 a0 a1).2.1, b.s, (f_X8_put b.c b.s b.p b.t b.e b.o b.oh b.h b.k b.q b.s1 b.p1 b.s2 b.p2 b.t1 b.t2 a0 a1).2.2.1, (f_X8_put b.c b.s b.p b.t b.e b.o b.oh b.h b.k b.q b.s1 b.p1 b.s2 b.p2 b.t1 b.t2 a0 a1).2.2.2, b.e, b.o, b.oh, b.h, b.k, b.q, b.s1, b.p1, b.s2, b.p2, b.t1, b.t2⟩, _, 1, 2, by decide, by decide, s_X8_put b.c b.s b.p b.t b.e b.o b.oh b.h b.k b.q b.s1 b.p1 b.s2 b.p2 b.t1 b.t2 a0 a1, ?_, i⟩
  rw [e]
  exact s_X9_put m a0 a1 p9
theorem lw_cell_ (hK : K < 100000) (hI : LwI K b m) (a0 : Int32) (a1 : Int32) : LwS K b m mX8_cell mX9_cell [.int a0, .int a1] := by
  obtain ⟨p8, p9, e, i⟩ := c_cell b.o b.oh b.h b.k a0 a1 hK hI
  refine ⟨_, ⟨(f_X8_cell b.c b.s b.p b.t b.e b.o b.oh b.h b.k b.q b.s1 b.p1 b.s2 b.p2 b.t1 b.t2 a0 a1).2, b.s, b.p, b.t, b.e, b.o, b.oh, b.h, b.k, b.q, b.s1, b.p1, b.s2, b.p2, b.t1, b.t2⟩, _, 2, 4, by decide, by decide, s_X8_cell b.c b.s b.p b.t b.e b.o b.oh b.h b.k b.q b.s1 b.p1 b.s2 b.p2 b.t1 b.t2 a0 a1 p8, ?_, i⟩
  rw [e]
  exact s_X9_cell m a0 a1 p9
theorem lw_pile_ (hK : K < 100000) (hI : LwI K b m) (a0 : Int32) (a1 : Int32) (a2 : Int32) : LwS K b m mX8_pile mX9_pile [.int a0, .int a1, .int a2] := by
  obtain ⟨p8, p9, e, i⟩ := c_pile b.o b.oh b.h b.k a0 a1 a2 hK hI
  refine ⟨_, ⟨(f_X8_pile b.c b.s b.p b.t b.e b.o b.oh b.h b.k b.q b.s1 b.p1 b.s2 b.p2 b.t1 b.t2 a0 a1 a2).2, b.s, b.p, b.t, b.e, b.o, b.oh, b.h, b.k, b.q, b.s1, b.p1, b.s2, b.p2, b.t1, b.t2⟩, _, 3, 4, by decide, by decide, s_X8_pile b.c b.s b.p b.t b.e b.o b.oh b.h b.k b.q b.s1 b.p1 b.s2 b.p2 b.t1 b.t2 a0 a1 a2 p8, ?_, i⟩
  rw [e]
  exact s_X9_pile m a0 a1 a2 p9
theorem lw_strength_ (hK : K < 100000) (hI : LwI K b m) (a0 : Int32) : LwS K b m mX8_strength mX9_strength [.int a0] := by
  obtain ⟨p8, p9, e, i⟩ := c_strength b.o b.oh b.h b.k a0 hK hI
  refine ⟨_, ⟨(f_X8_strength b.c b.s b.p b.t b.e b.o b.oh b.h b.k b.q b.s1 b.p1 b.s2 b.p2 b.t1 b.t2 a0).2, b.s, b.p, b.t, b.e, b.o, b.oh, b.h, b.k, b.q, b.s1, b.p1, b.s2, b.p2, b.t1, b.t2⟩, _, 2, 4, by decide, by decide, s_X8_strength b.c b.s b.p b.t b.e b.o b.oh b.h b.k b.q b.s1 b.p1 b.s2 b.p2 b.t1 b.t2 a0 p8, ?_, i⟩
  rw [e]
  exact s_X9_strength m a0 p9
theorem lw_ruler_ (hK : K < 100000) (hI : LwI K b m) (a0 : Int32) (a1 : Int32) : LwS K b m mX8_ruler mX9_ruler [.int a0, .int a1] := by
  obtain ⟨p8, p9, e, i⟩ := c_ruler b.o b.oh b.h b.k a0 a1 hK hI
  refine ⟨_, ⟨b.c, b.s, b.p, b.t, b.e, b.o, b.oh, b.h, b.k, b.q, b.s1, b.p1, b.s2, b.p2, b.t1, b.t2⟩, _, 2, 4, by decide, by decide, s_X8_ruler b.c b.s b.p b.t b.e b.o b.oh b.h b.k b.q b.s1 b.p1 b.s2 b.p2 b.t1 b.t2 a0 a1 p8, ?_, i⟩
  rw [e]
  exact s_X9_ruler m a0 a1 p9
theorem lw_where_ (hK : K < 100000) (hI : LwI K b m) (a0 : Int32) : LwS K b m mX8_where mX9_where [.int a0] := by
  obtain ⟨p8, p9, e, i⟩ := c_where b.o b.oh b.h b.k a0 hK hI
  refine ⟨_, ⟨(f_X8_where b.c b.s b.p b.t b.e b.o b.oh b.h b.k b.q b.s1 b.p1 b.s2 b.p2 b.t1 b.t2 a0).2, b.s, b.p, b.t, b.e, b.o, b.oh, b.h, b.k, b.q, b.s1, b.p1, b.s2, b.p2, b.t1, b.t2⟩, _, 1, 2, by decide, by decide, s_X8_where b.c b.s b.p b.t b.e b.o b.oh b.h b.k b.q b.s1 b.p1 b.s2 b.p2 b.t1 b.t2 a0 p8, ?_, i⟩
  rw [e]
  exact s_X9_where m a0 p9
theorem lw_step_ (hK : K < 100000) (hI : LwI K b m) (a0 : Int32) (a1 : Int32) (a2 : Int32) (a3 : Int32) : LwS K b m mX8_step mX9_step [.int a0, .int a1, .int a2, .int a3] := by
  obtain ⟨p8, p9, e, i⟩ := c_step b.o b.oh b.h b.k a0 a1 a2 a3 hK hI
  refine ⟨_, ⟨(f_X8_step b.c b.s b.p b.t b.e b.o b.oh b.h b.k b.q b.s1 b.p1 b.s2 b.p2 b.t1 b.t2 a0 a1 a2 a3).2.1, (f_X8_step b.c b.s b.p b.t b.e b.o b.oh b.h b.k b.q b.s1 b.p1 b.s2 b.p2 b.t1 b.t2 a0 a1 a2 a3).2.2.1, (f_X8_step b.c b.s b.p b.t b.e b.o b.oh b.h b.k b.q b.s1 b.p1 b.s2 b.p2 b.t1 b.t2 a0 a1 a2 a3).2.2.2.1, (f_X8_step b.c b.s b.p b.t b.e b.o b.oh b.h b.k b.q b.s1 b.p1 b.s2 b.p2 b.t1 b.t2 a0 a1 a2 a3).2.2.2.2, b.e, b.o, b.oh, b.h, b.k, b.q, b.s1, b.p1, b.s2, b.p2, b.t1, b.t2⟩, _, 4, 5, by decide, by decide, s_X8_step b.c b.s b.p b.t b.e b.o b.oh b.h b.k b.q b.s1 b.p1 b.s2 b.p2 b.t1 b.t2 a0 a1 a2 a3 p8, ?_, i⟩
  rw [e]
  exact s_X9_step m a0 a1 a2 a3 p9
theorem lw_fold_ (hK : K < 100000) (hI : LwI K b m) (a0 : Int32) (a1 : Int32) (a2 : Int32) : LwS K b m mX8_fold mX9_fold [.int a0, .int a1, .int a2] := by
  obtain ⟨p8, p9, e, i⟩ := c_fold b.o b.oh b.h b.k a0 a1 a2 hK hI
  refine ⟨_, ⟨(f_X8_fold b.c b.s b.p b.t b.e b.o b.oh b.h b.k b.q b.s1 b.p1 b.s2 b.p2 b.t1 b.t2 a0 a1 a2).2.1, (f_X8_fold b.c b.s b.p b.t b.e b.o b.oh b.h b.k b.q b.s1 b.p1 b.s2 b.p2 b.t1 b.t2 a0 a1 a2).2.2.1, (f_X8_fold b.c b.s b.p b.t b.e b.o b.oh b.h b.k b.q b.s1 b.p1 b.s2 b.p2 b.t1 b.t2 a0 a1 a2).2.2.2.1, (f_X8_fold b.c b.s b.p b.t b.e b.o b.oh b.h b.k b.q b.s1 b.p1 b.s2 b.p2 b.t1 b.t2 a0 a1 a2).2.2.2.2, b.e, b.o, b.oh, b.h, b.k, b.q, b.s1, b.p1, b.s2, b.p2, b.t1, b.t2⟩, _, 3, 5, by decide, by decide, s_X8_fold b.c b.s b.p b.t b.e b.o b.oh b.h b.k b.q b.s1 b.p1 b.s2 b.p2 b.t1 b.t2 a0 a1 a2 p8, ?_, i⟩
  rw [e]
  exact s_X9_fold m a0 a1 a2 p9
theorem lw_state_ (hK : K < 100000) (hI : LwI K b m) (a0 : Int32) : LwS K b m mX8_state mX9_state [.int a0] := by
  obtain ⟨p8, p9, e, i⟩ := c_state b.o b.oh b.h b.k a0 hK hI
  refine ⟨_, ⟨(f_X8_state b.c b.s b.p b.t b.e b.o b.oh b.h b.k b.q b.s1 b.p1 b.s2 b.p2 b.t1 b.t2 a0).2, b.s, b.p, b.t, b.e, b.o, b.oh, b.h, b.k, b.q, b.s1, b.p1, b.s2, b.p2, b.t1, b.t2⟩, _, 3, 4, by decide, by decide, s_X8_state b.c b.s b.p b.t b.e b.o b.oh b.h b.k b.q b.s1 b.p1 b.s2 b.p2 b.t1 b.t2 a0 p8, ?_, i⟩
  rw [e]
  exact s_X9_state m a0 p9
theorem lw_undo_ (hK : K < 100000) (hI : LwI K b m)  : LwS K b m mX8_undo mX9_undo [] := by
  obtain ⟨p8, p9, e, i⟩ := c_undo b.o b.oh b.h b.k  hK hI
  refine ⟨_, ⟨(f_X8_undo b.c b.s b.p b.t b.e b.o b.oh b.h b.k b.q b.s1 b.p1 b.s2 b.p2 b.t1 b.t2 ).2.1, (f_X8_undo b.c b.s b.p b.t b.e b.o b.oh b.h b.k b.q b.s1 b.p1 b.s2 b.p2 b.t1 b.t2 ).2.2.1, (f_X8_undo b.c b.s b.p b.t b.e b.o b.oh b.h b.k b.q b.s1 b.p1 b.s2 b.p2 b.t1 b.t2 ).2.2.2.1, (f_X8_undo b.c b.s b.p b.t b.e b.o b.oh b.h b.k b.q b.s1 b.p1 b.s2 b.p2 b.t1 b.t2 ).2.2.2.2, b.e, b.o, b.oh, b.h, b.k, b.q, b.s1, b.p1, b.s2, b.p2, b.t1, b.t2⟩, _, 5, 2, by decide, by decide, s_X8_undo b.c b.s b.p b.t b.e b.o b.oh b.h b.k b.q b.s1 b.p1 b.s2 b.p2 b.t1 b.t2  p8, ?_, i⟩
  rw [e]
  exact s_X9_undo m  p9
theorem lw_folds_ (hK : K < 100000) (hI : LwI K b m) (a0 : Int32) : LwS K b m mX8_folds mX9_folds [.int a0] := by
  obtain ⟨p9, e, i⟩ := c_folds b.o b.oh b.h b.k a0 hK hI
  refine ⟨_, ⟨(f_X8_folds b.c b.s b.p b.t b.e b.o b.oh b.h b.k b.q b.s1 b.p1 b.s2 b.p2 b.t1 b.t2 a0).2, b.s, b.p, b.t, b.e, b.o, b.oh, b.h, b.k, b.q, b.s1, b.p1, b.s2, b.p2, b.t1, b.t2⟩, _, 1, 4, by decide, by decide, s_X8_folds b.c b.s b.p b.t b.e b.o b.oh b.h b.k b.q b.s1 b.p1 b.s2 b.p2 b.t1 b.t2 a0, ?_, i⟩
  rw [e]
  exact s_X9_folds m a0 p9
theorem lw_leaves_ (hK : K < 100000) (hI : LwI K b m) (a0 : Int32) (a1 : Int32) : LwS K b m mX8_leaves mX9_leaves [.int a0, .int a1] := by
  obtain ⟨p8, p9, e, i⟩ := c_leaves b.o b.oh b.h b.k a0 a1 hK hI
  refine ⟨_, ⟨(f_X8_leaves b.c b.s b.p b.t b.e b.o b.oh b.h b.k b.q b.s1 b.p1 b.s2 b.p2 b.t1 b.t2 a0 a1).2.1, b.s, b.p, b.t, b.e, (f_X8_leaves b.c b.s b.p b.t b.e b.o b.oh b.h b.k b.q b.s1 b.p1 b.s2 b.p2 b.t1 b.t2 a0 a1).2.2, b.oh, b.h, b.k, b.q, b.s1, b.p1, b.s2, b.p2, b.t1, b.t2⟩, _, 3, 5, by decide, by decide, s_X8_leaves b.c b.s b.p b.t b.e b.o b.oh b.h b.k b.q b.s1 b.p1 b.s2 b.p2 b.t1 b.t2 a0 a1 p8, ?_, i⟩
  rw [e]
  exact s_X9_leaves m a0 a1 p9
theorem lw_habit_ (hK : K < 100000) (hI : LwI K b m)  : LwS K b m mX8_habit mX9_habit [] := by
  obtain ⟨p8, p9, e, i⟩ := c_habit b.o b.oh b.h b.k  hK hI
  refine ⟨_, ⟨b.c, b.s, b.p, b.t, b.e, (f_X8_habit b.c b.s b.p b.t b.e b.o b.oh b.h b.k b.q b.s1 b.p1 b.s2 b.p2 b.t1 b.t2 ).2, b.oh, b.h, b.k, b.q, b.s1, b.p1, b.s2, b.p2, b.t1, b.t2⟩, _, 4, 6, by decide, by decide, s_X8_habit b.c b.s b.p b.t b.e b.o b.oh b.h b.k b.q b.s1 b.p1 b.s2 b.p2 b.t1 b.t2  p8, ?_, i⟩
  rw [e]
  exact s_X9_habit m  p9
theorem lw_safe_ (hK : K < 100000) (hI : LwI K b m)  : LwS K b m mX8_safe mX9_safe [] := by
  obtain ⟨p8, p9, e, i⟩ := c_safe b.o b.oh b.h b.k  hK hI
  refine ⟨_, ⟨b.c, b.s, b.p, b.t, b.e, (f_X8_safe b.c b.s b.p b.t b.e b.o b.oh b.h b.k b.q b.s1 b.p1 b.s2 b.p2 b.t1 b.t2 ).2, b.oh, b.h, b.k, b.q, b.s1, b.p1, b.s2, b.p2, b.t1, b.t2⟩, _, 4, 5, by decide, by decide, s_X8_safe b.c b.s b.p b.t b.e b.o b.oh b.h b.k b.q b.s1 b.p1 b.s2 b.p2 b.t1 b.t2  p8, ?_, i⟩
  rw [e]
  exact s_X9_safe m  p9
theorem lw_small_ (hK : K < 100000) (hI : LwI K b m) (a0 : Int32) : LwS K b m mX8_small mX9_small [.int a0] := by
  obtain ⟨p8, p9, e, i⟩ := c_small b.o b.oh b.h b.k a0 hK hI
  refine ⟨_, ⟨(f_X8_small b.c b.s b.p b.t b.e b.o b.oh b.h b.k b.q b.s1 b.p1 b.s2 b.p2 b.t1 b.t2 a0).2.1, b.s, b.p, b.t, b.e, b.o, b.oh, b.h, b.k, (f_X8_small b.c b.s b.p b.t b.e b.o b.oh b.h b.k b.q b.s1 b.p1 b.s2 b.p2 b.t1 b.t2 a0).2.2, b.s1, b.p1, b.s2, b.p2, b.t1, b.t2⟩, _, 9, 4, by decide, by decide, s_X8_small b.c b.s b.p b.t b.e b.o b.oh b.h b.k b.q b.s1 b.p1 b.s2 b.p2 b.t1 b.t2 a0 p8, ?_, i⟩
  rw [e]
  exact s_X9_small m a0 p9
theorem lw_reach_ (hK : K < 100000) (hI : LwI K b m) (a0 : Int32) (a1 : Int32) (a2 : Int32) : LwS K b m mX8_reach mX9_reach [.int a0, .int a1, .int a2] := by
  obtain ⟨p8, p9, e, i⟩ := c_reach b.o b.oh b.h b.k a0 a1 a2 hK hI
  refine ⟨_, ⟨(f_X8_reach b.c b.s b.p b.t b.e b.o b.oh b.h b.k b.q b.s1 b.p1 b.s2 b.p2 b.t1 b.t2 a0 a1 a2).2.1, b.s, b.p, b.t, b.e, b.o, b.oh, b.h, (f_X8_reach b.c b.s b.p b.t b.e b.o b.oh b.h b.k b.q b.s1 b.p1 b.s2 b.p2 b.t1 b.t2 a0 a1 a2).2.2, b.q, b.s1, b.p1, b.s2, b.p2, b.t1, b.t2⟩, _, 4, 4, by decide, by decide, s_X8_reach b.c b.s b.p b.t b.e b.o b.oh b.h b.k b.q b.s1 b.p1 b.s2 b.p2 b.t1 b.t2 a0 a1 a2 p8, ?_, i⟩
  rw [e]
  exact s_X9_reach m a0 a1 a2 p9
theorem lw_wins_ (hK : K < 100000) (hI : LwI K b m) (a0 : Int32) : LwS K b m mX8_wins mX9_wins [.int a0] := by
  obtain ⟨p8, p9, e, i⟩ := c_wins b.o b.oh b.h b.k a0 hK hI
  refine ⟨_, ⟨(f_X8_wins b.c b.s b.p b.t b.e b.o b.oh b.h b.k b.q b.s1 b.p1 b.s2 b.p2 b.t1 b.t2 a0).2.1, (f_X8_wins b.c b.s b.p b.t b.e b.o b.oh b.h b.k b.q b.s1 b.p1 b.s2 b.p2 b.t1 b.t2 a0).2.2.1, (f_X8_wins b.c b.s b.p b.t b.e b.o b.oh b.h b.k b.q b.s1 b.p1 b.s2 b.p2 b.t1 b.t2 a0).2.2.2.1, b.t, b.e, b.o, (f_X8_wins b.c b.s b.p b.t b.e b.o b.oh b.h b.k b.q b.s1 b.p1 b.s2 b.p2 b.t1 b.t2 a0).2.2.2.2.1, (f_X8_wins b.c b.s b.p b.t b.e b.o b.oh b.h b.k b.q b.s1 b.p1 b.s2 b.p2 b.t1 b.t2 a0).2.2.2.2.2, b.k, b.q, b.s1, b.p1, b.s2, b.p2, b.t1, b.t2⟩, _, 12, 8, by decide, by decide, s_X8_wins b.c b.s b.p b.t b.e b.o b.oh b.h b.k b.q b.s1 b.p1 b.s2 b.p2 b.t1 b.t2 a0 p8, ?_, i⟩
  rw [e]
  exact s_X9_wins m a0 p9
theorem lw_best_ (hK : K < 100000) (hI : LwI K b m) (a0 : Int32) : LwS K b m mX8_best mX9_best [.int a0] := by
  obtain ⟨p8, p9, e, i⟩ := c_best b.o b.oh b.h b.k a0 hK hI
  refine ⟨_, ⟨(f_X8_best b.c b.s b.p b.t b.e b.o b.oh b.h b.k b.q b.s1 b.p1 b.s2 b.p2 b.t1 b.t2 a0).2.1, (f_X8_best b.c b.s b.p b.t b.e b.o b.oh b.h b.k b.q b.s1 b.p1 b.s2 b.p2 b.t1 b.t2 a0).2.2.1, (f_X8_best b.c b.s b.p b.t b.e b.o b.oh b.h b.k b.q b.s1 b.p1 b.s2 b.p2 b.t1 b.t2 a0).2.2.2.1, b.t, b.e, b.o, (f_X8_best b.c b.s b.p b.t b.e b.o b.oh b.h b.k b.q b.s1 b.p1 b.s2 b.p2 b.t1 b.t2 a0).2.2.2.2.1, (f_X8_best b.c b.s b.p b.t b.e b.o b.oh b.h b.k b.q b.s1 b.p1 b.s2 b.p2 b.t1 b.t2 a0).2.2.2.2.2, b.k, b.q, b.s1, b.p1, b.s2, b.p2, b.t1, b.t2⟩, _, 11, 8, by decide, by decide, s_X8_best b.c b.s b.p b.t b.e b.o b.oh b.h b.k b.q b.s1 b.p1 b.s2 b.p2 b.t1 b.t2 a0 p8, ?_, i⟩
  rw [e]
  exact s_X9_best m a0 p9
theorem lw_type_ (hK : K < 100000) (hI : LwI K b m) (a0 : Int64) (a1 : Int32) : LwS K b m mX8_type mX9_type [.long a0, .int a1] := by
  obtain ⟨p8, p9, e, i⟩ := c_type b.o b.oh b.h b.k a0 a1 hK hI
  refine ⟨_, ⟨(f_X8_type b.c b.s b.p b.t b.e b.o b.oh b.h b.k b.q b.s1 b.p1 b.s2 b.p2 b.t1 b.t2 a0 a1).2.1, b.s, b.p, b.t, (f_X8_type b.c b.s b.p b.t b.e b.o b.oh b.h b.k b.q b.s1 b.p1 b.s2 b.p2 b.t1 b.t2 a0 a1).2.2, b.o, b.oh, b.h, b.k, b.q, b.s1, b.p1, b.s2, b.p2, b.t1, b.t2⟩, _, 1, 2, by decide, by decide, s_X8_type b.c b.s b.p b.t b.e b.o b.oh b.h b.k b.q b.s1 b.p1 b.s2 b.p2 b.t1 b.t2 a0 a1 p8, ?_, i⟩
  rw [e]
  exact s_X9_type m a0 a1 p9
theorem lw_clear_ (hK : K < 100000) (hI : LwI K b m)  : LwS K b m mX8_clear mX9_clear [] := by
  obtain ⟨e, i⟩ := c_clear b.o b.oh b.h b.k  hK hI
  refine ⟨_, ⟨b.c, b.s, b.p, b.t, (f_X8_clear b.c b.s b.p b.t b.e b.o b.oh b.h b.k b.q b.s1 b.p1 b.s2 b.p2 b.t1 b.t2 ).2, b.o, b.oh, b.h, b.k, b.q, b.s1, b.p1, b.s2, b.p2, b.t1, b.t2⟩, _, 0, 0, by decide, by decide, s_X8_clear b.c b.s b.p b.t b.e b.o b.oh b.h b.k b.q b.s1 b.p1 b.s2 b.p2 b.t1 b.t2 , ?_, i⟩
  rw [e]
  exact s_X9_clear m 
theorem lw_fault_ (hK : K < 100000) (hI : LwI K b m)  : LwS K b m mX8_fault mX9_fault [] := by
  obtain ⟨p8, p9, e, i⟩ := c_fault b.o b.oh b.h b.k  hK hI
  refine ⟨_, ⟨b.c, b.s, b.p, b.t, (f_X8_fault b.c b.s b.p b.t b.e b.o b.oh b.h b.k b.q b.s1 b.p1 b.s2 b.p2 b.t1 b.t2 ).2, b.o, b.oh, b.h, b.k, b.q, b.s1, b.p1, b.s2, b.p2, b.t1, b.t2⟩, _, 11, 4, by decide, by decide, s_X8_fault b.c b.s b.p b.t b.e b.o b.oh b.h b.k b.q b.s1 b.p1 b.s2 b.p2 b.t1 b.t2  p8, ?_, i⟩
  rw [e]
  exact s_X9_fault m  p9
theorem lw_judge_ (hK : K < 100000) (hI : LwI K b m)  : LwS K b m mX8_judge mX9_judge [] := by
  obtain ⟨p8, p9, e, i⟩ := c_judge b.o b.oh b.h b.k  hK hI
  refine ⟨_, ⟨(f_X8_judge b.c b.s b.p b.t b.e b.o b.oh b.h b.k b.q b.s1 b.p1 b.s2 b.p2 b.t1 b.t2 ).2.1, (f_X8_judge b.c b.s b.p b.t b.e b.o b.oh b.h b.k b.q b.s1 b.p1 b.s2 b.p2 b.t1 b.t2 ).2.2.1, (f_X8_judge b.c b.s b.p b.t b.e b.o b.oh b.h b.k b.q b.s1 b.p1 b.s2 b.p2 b.t1 b.t2 ).2.2.2.1, b.t, (f_X8_judge b.c b.s b.p b.t b.e b.o b.oh b.h b.k b.q b.s1 b.p1 b.s2 b.p2 b.t1 b.t2 ).2.2.2.2, b.o, b.oh, b.h, b.k, b.q, b.s1, b.p1, b.s2, b.p2, b.t1, b.t2⟩, _, 11, 6, by decide, by decide, s_X8_judge b.c b.s b.p b.t b.e b.o b.oh b.h b.k b.q b.s1 b.p1 b.s2 b.p2 b.t1 b.t2  p8, ?_, i⟩
  rw [e]
  exact s_X9_judge m  p9
theorem lw_image_ (hK : K < 100000) (hI : LwI K b m) (a0 : Int32) : LwS K b m mX8_image mX9_image [.int a0] := by
  obtain ⟨p8, p9, e, i⟩ := c_image b.o b.oh b.h b.k a0 hK hI
  refine ⟨_, ⟨(f_X8_image b.c b.s b.p b.t b.e b.o b.oh b.h b.k b.q b.s1 b.p1 b.s2 b.p2 b.t1 b.t2 a0).2.1, b.s, b.p, b.t, b.e, b.o, b.oh, b.h, b.k, b.q, (f_X8_image b.c b.s b.p b.t b.e b.o b.oh b.h b.k b.q b.s1 b.p1 b.s2 b.p2 b.t1 b.t2 a0).2.2.1, (f_X8_image b.c b.s b.p b.t b.e b.o b.oh b.h b.k b.q b.s1 b.p1 b.s2 b.p2 b.t1 b.t2 a0).2.2.2.1, (f_X8_image b.c b.s b.p b.t b.e b.o b.oh b.h b.k b.q b.s1 b.p1 b.s2 b.p2 b.t1 b.t2 a0).2.2.2.2.1, (f_X8_image b.c b.s b.p b.t b.e b.o b.oh b.h b.k b.q b.s1 b.p1 b.s2 b.p2 b.t1 b.t2 a0).2.2.2.2.2.1, (f_X8_image b.c b.s b.p b.t b.e b.o b.oh b.h b.k b.q b.s1 b.p1 b.s2 b.p2 b.t1 b.t2 a0).2.2.2.2.2.2.1, (f_X8_image b.c b.s b.p b.t b.e b.o b.oh b.h b.k b.q b.s1 b.p1 b.s2 b.p2 b.t1 b.t2 a0).2.2.2.2.2.2.2⟩, _, 3, 2, by decide, by decide, s_X8_image b.c b.s b.p b.t b.e b.o b.oh b.h b.k b.q b.s1 b.p1 b.s2 b.p2 b.t1 b.t2 a0 p8, ?_, i⟩
  rw [e]
  exact s_X9_image m a0 p9
theorem lw_from_ (hK : K < 100000) (hI : LwI K b m) (a0 : Int32) : LwS K b m mX8_from mX9_from [.int a0] := by
  obtain ⟨p8, p9, e, i⟩ := c_from b.o b.oh b.h b.k a0 hK hI
  refine ⟨_, ⟨(f_X8_from b.c b.s b.p b.t b.e b.o b.oh b.h b.k b.q b.s1 b.p1 b.s2 b.p2 b.t1 b.t2 a0).2.1, (f_X8_from b.c b.s b.p b.t b.e b.o b.oh b.h b.k b.q b.s1 b.p1 b.s2 b.p2 b.t1 b.t2 a0).2.2.1, (f_X8_from b.c b.s b.p b.t b.e b.o b.oh b.h b.k b.q b.s1 b.p1 b.s2 b.p2 b.t1 b.t2 a0).2.2.2.1, (f_X8_from b.c b.s b.p b.t b.e b.o b.oh b.h b.k b.q b.s1 b.p1 b.s2 b.p2 b.t1 b.t2 a0).2.2.2.2.1, b.e, b.o, b.oh, b.h, b.k, (f_X8_from b.c b.s b.p b.t b.e b.o b.oh b.h b.k b.q b.s1 b.p1 b.s2 b.p2 b.t1 b.t2 a0).2.2.2.2.2, b.s1, b.p1, b.s2, b.p2, b.t1, b.t2⟩, _, 3, 2, by decide, by decide, s_X8_from b.c b.s b.p b.t b.e b.o b.oh b.h b.k b.q b.s1 b.p1 b.s2 b.p2 b.t1 b.t2 a0 p8, ?_, i⟩
  rw [e]
  exact s_X9_from m a0 p9
theorem lw_status_ (hK : K < 100000) (hI : LwI K b m) (a0 : Int32) : LwS K b m mX8_status mX9_status [.int a0] := by
  obtain ⟨p9, e, i⟩ := c_status b.o b.oh b.h b.k a0 hK hI
  refine ⟨_, ⟨(f_X8_status b.c b.s b.p b.t b.e b.o b.oh b.h b.k b.q b.s1 b.p1 b.s2 b.p2 b.t1 b.t2 a0).2, b.s, b.p, b.t, b.e, b.o, b.oh, b.h, b.k, b.q, b.s1, b.p1, b.s2, b.p2, b.t1, b.t2⟩, _, 1, 1, by decide, by decide, s_X8_status b.c b.s b.p b.t b.e b.o b.oh b.h b.k b.q b.s1 b.p1 b.s2 b.p2 b.t1 b.t2 a0, ?_, i⟩
  rw [e]
  exact s_X9_status m a0 p9
theorem lw_count_ (hK : K < 100000) (hI : LwI K b m) (a0 : Int32) : LwS K b m mX8_count mX9_count [.int a0] := by
  obtain ⟨p8, p9, e, i⟩ := c_count b.o b.oh b.h b.k a0 hK hI
  refine ⟨_, ⟨(f_X8_count b.c b.s b.p b.t b.e b.o b.oh b.h b.k b.q b.s1 b.p1 b.s2 b.p2 b.t1 b.t2 a0).2, b.s, b.p, b.t, b.e, b.o, b.oh, b.h, b.k, b.q, b.s1, b.p1, b.s2, b.p2, b.t1, b.t2⟩, _, 1, 4, by decide, by decide, s_X8_count b.c b.s b.p b.t b.e b.o b.oh b.h b.k b.q b.s1 b.p1 b.s2 b.p2 b.t1 b.t2 a0 p8, ?_, i⟩
  rw [e]
  exact s_X9_count m a0 p9
theorem lw_digest_ (hK : K < 100000) (hI : LwI K b m)  : LwSJ K b m mX8_digest mX9_digest [] := by
  obtain ⟨p8, p9, e⟩ := c_digest b.o b.oh b.h b.k  hK hI
  refine ⟨_, ⟨b.c, b.s, b.p, b.t, b.e, b.o, b.oh, b.h, b.k, b.q, b.s1, b.p1, b.s2, b.p2, b.t1, b.t2⟩, _, 3, 4, by decide, by decide, s_X8_digest b.c b.s b.p b.t b.e b.o b.oh b.h b.k b.q b.s1 b.p1 b.s2 b.p2 b.t1 b.t2  p8, ?_, inv_k hK hI⟩
  rw [e]
  exact s_X9_digest m  p9
end
