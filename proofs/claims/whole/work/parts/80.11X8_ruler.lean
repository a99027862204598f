def f_X8_ruler (c : Rec) (s : Rec) (p : Rec) (t : Rec) (e : Rec) (o : Rec) (oh : Rec) (h : Rec) (k : Rec) (q : Rec) (s1 : Rec) (p1 : Rec) (s2 : Rec) (p2 : Rec) (t1 : Rec) (t2 : Rec) (x : Int32) (y : Int32) : Int32 := (f_X3_rulerAt s p x y)
def p_X8_ruler (c : Rec) (s : Rec) (p : Rec) (t : Rec) (e : Rec) (o : Rec) (oh : Rec) (h : Rec) (k : Rec) (q : Rec) (s1 : Rec) (p1 : Rec) (s2 : Rec) (p2 : Rec) (t1 : Rec) (t2 : Rec) (x : Int32) (y : Int32) : Prop := (p_X3_rulerAt s p x y) ∧ True
set_option maxHeartbeats 16000000 in
set_option maxRecDepth 20000 in
theorem s_X8_ruler (c : Rec) (s : Rec) (p : Rec) (t : Rec) (e : Rec) (o : Rec) (oh : Rec) (h : Rec) (k : Rec) (q : Rec) (s1 : Rec) (p1 : Rec) (s2 : Rec) (p2 : Rec) (t1 : Rec) (t2 : Rec) (x : Int32) (y : Int32) (hp : p_X8_ruler c s p t e o oh h k q s1 p1 s2 p2 t1 t2 x y) : Spec 2 0 0 mX8_ruler [.ref 0, .int x, .int y] (wB c s p t e o oh h k q s1 p1 s2 p2 t1 t2) (Ret (some (.int ((f_X8_ruler c s p t e o oh h k q s1 p1 s2 p2 t1 t2 x y)))) (wB c s p t e o oh h k q s1 p1 s2 p2 t1 t2)) := by
  obtain ⟨zq, hq⟩ : ∃ z, z = (f_X8_ruler c s p t e o oh h k q s1 p1 s2 p2 t1 t2 x y) := ⟨_, rfl⟩
  rw [← hq]
  unfold f_X8_ruler at hq
  unfold p_X8_ruler at hp
  refine Sof fun sc => ?_
  refine g_blk hz0 kX8_ruler_0 ?_
  refine cVp [1, 2, 3, 4, 5, 6, 7, 8, 9, 10, 11, 12] (wP s p) (s_X3_rulerAt s p x y hp.1) rfl cwX3_rulerAt dX8_ruler_6 rfl rfl (hm64_B_P _ _ _ _ _ _ _ _ _ _ _ _ _ _ _ _) ?_
  replace hp := hp.2
  refine g_blk hz0 kX8_ruler_9 ?_
  subst hq
  exact ⟨fun h => (by cases h), rfl, rfl⟩
