def f_X9_habit (m : Rec)  : Int32 × Rec := (((f_X9_habitNow m).1), ((f_X9_habitNow m).2))
def p_X9_habit (m : Rec)  : Prop := (p_X9_habitNow m) ∧ True
set_option maxHeartbeats 16000000 in
set_option maxRecDepth 20000 in
theorem s_X9_habit (m : Rec)  (hp : p_X9_habit m) : Spec 6 0 0 mX9_habit [.ref 0] (wM m) (Ret (some (.int ((f_X9_habit m).1))) (wM ((f_X9_habit m).2))) := by
  obtain ⟨zq, hq⟩ : ∃ z, z = (f_X9_habit m) := ⟨_, rfl⟩
  rw [← hq]
  unfold f_X9_habit at hq
  unfold p_X9_habit at hp
  refine Sof fun sc => ?_
  refine g_blk hz0 kX9_habit_0 ?_
  refine cV [0, 1, 2, 3, 4, 5, 6, 7, 8, 9, 10, 11, 12, 13, 14, 15, 16] (wM m) (s_X9_habitNow m hp.1) rfl cwX9_habitNow dX9_habit_1 rfl rfl (hm0_M_M _) ((len_M _).trans (len_M _).symm) (wM ((f_X9_habitNow m).2)) (pw0_M_M _ _) ?_
  replace hp := hp.2
  obtain ⟨g1, hg1⟩ : ∃ z, z = (f_X9_habitNow m) := ⟨_, rfl⟩
  try rw [← hg1] at hp
  try rw [← hg1] at hq
  rw [← hg1]
  refine g_blk hz0 kX9_habit_4 ?_
  subst hq
  exact ⟨fun h => (by cases h), rfl, rfl⟩
