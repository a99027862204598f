set_option maxHeartbeats 16000000 in
set_option maxRecDepth 20000 in
theorem s_X8_fault (c : Rec) (s : Rec) (p : Rec) (t : Rec) (e : Rec) (o : Rec) (oh : Rec) (h : Rec) (k : Rec) (q : Rec) (s1 : Rec) (p1 : Rec) (s2 : Rec) (p2 : Rec) (t1 : Rec) (t2 : Rec)  (hp : p_X8_fault c s p t e o oh h k q s1 p1 s2 p2 t1 t2) : Spec 11 0 0 mX8_fault [.ref 0] (wB c s p t e o oh h k q s1 p1 s2 p2 t1 t2) (Ret (some (.int ((f_X8_fault c s p t e o oh h k q s1 p1 s2 p2 t1 t2).1))) (wB c s p t ((f_X8_fault c s p t e o oh h k q s1 p1 s2 p2 t1 t2).2) o oh h k q s1 p1 s2 p2 t1 t2)) := by
  obtain ⟨zq, hq⟩ : ∃ z, z = (f_X8_fault c s p t e o oh h k q s1 p1 s2 p2 t1 t2) := ⟨_, rfl⟩
  rw [← hq]
  unfold f_X8_fault at hq
  unfold p_X8_fault at hp
  refine Sof fun sc => ?_
  refine g_blk hz0 kX8_fault_0 ?_
  refine cV [23, 24, 25] (wE e) (s_X6_faultPlace e hp.1) rfl cwX6_faultPlace dX8_fault_4 rfl rfl (hm71_B_E _ _ _ _ _ _ _ _ _ _ _ _ _ _ _ _) ((len_E _).trans (len_E _).symm) (wB c s p t ((f_X6_faultPlace e).2) o oh h k q s1 p1 s2 p2 t1 t2) (pw98_B_E _ _ _ _ _ _ _ _ _ _ _ _ _ _ _ _ _) ?_
  replace hp := hp.2
  obtain ⟨g1, hg1⟩ : ∃ z, z = (f_X6_faultPlace e) := ⟨_, rfl⟩
  try rw [← hg1] at hp
  try rw [← hg1] at hq
  rw [← hg1]
  refine g_blk hz0 kX8_fault_7 ?_
  subst hq
  exact ⟨fun h => (by cases h), rfl, rfl⟩
