set_option maxHeartbeats 16000000 in
set_option maxRecDepth 20000 in
theorem s_X8_habit (c : Rec) (s : Rec) (p : Rec) (t : Rec) (e : Rec) (o : Rec) (oh : Rec) (h : Rec) (k : Rec) (q : Rec) (s1 : Rec) (p1 : Rec) (s2 : Rec) (p2 : Rec) (t1 : Rec) (t2 : Rec)  (hp : p_X8_habit c s p t e o oh h k q s1 p1 s2 p2 t1 t2) : Spec 4 0 0 mX8_habit [.ref 0] (wB c s p t e o oh h k q s1 p1 s2 p2 t1 t2) (Ret (some (.int ((f_X8_habit c s p t e o oh h k q s1 p1 s2 p2 t1 t2).1))) (wB c s p t e ((f_X8_habit c s p t e o oh h k q s1 p1 s2 p2 t1 t2).2) oh h k q s1 p1 s2 p2 t1 t2)) := by
  obtain ⟨zq, hq⟩ : ∃ z, z = (f_X8_habit c s p t e o oh h k q s1 p1 s2 p2 t1 t2) := ⟨_, rfl⟩
  rw [← hq]
  unfold f_X8_habit at hq
  unfold p_X8_habit at hp
  refine Sof fun sc => ?_
  refine g_blk hz0 kX8_habit_0 ?_
  refine cV [26, 27, 28, 29, 30, 1, 2, 3, 4, 5, 6, 7, 8, 9, 10, 11, 12] (wOP o s p) (s_X1_habitOf o s p hp.1) rfl cwX1_habitOf dX8_habit_8 rfl rfl (hm69_B_OP _ _ _ _ _ _ _ _ _ _ _ _ _ _ _ _) ((len_OP _ _ _).trans (len_OP _ _ _).symm) (wB c s p t e ((f_X1_habitOf o s p).2) oh h k q s1 p1 s2 p2 t1 t2) (pw95_B_OP _ _ _ _ _ _ _ _ _ _ _ _ _ _ _ _ _) ?_
  replace hp := hp.2
  obtain ⟨g1, hg1⟩ : ∃ z, z = (f_X1_habitOf o s p) := ⟨_, rfl⟩
  try rw [← hg1] at hp
  try rw [← hg1] at hq
  rw [← hg1]
  refine g_blk hz0 kX8_habit_11 ?_
  subst hq
  exact ⟨fun h => (by cases h), rfl, rfl⟩
