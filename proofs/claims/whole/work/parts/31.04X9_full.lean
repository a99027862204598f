def f_X9_full (m : Rec)  : Int32 × Rec := (((f_X9_refuses m ((Int32.ofInt 2)) ((Int32.ofInt (-4)))).1), ((f_X9_refuses m ((Int32.ofInt 2)) ((Int32.ofInt (-4)))).2))
def p_X9_full (m : Rec)  : Prop := (p_X9_refuses m ((Int32.ofInt 2)) ((Int32.ofInt (-4)))) ∧ True
set_option maxHeartbeats 16000000 in
set_option maxRecDepth 20000 in
theorem s_X9_full (m : Rec)  (hp : p_X9_full m) : Spec 1 0 0 mX9_full [.ref 0] (wM m) (Ret (some (.int ((f_X9_full m).1))) (wM ((f_X9_full m).2))) := by
  obtain ⟨zq, hq⟩ : ∃ z, z = (f_X9_full m) := ⟨_, rfl⟩
  rw [← hq]
  unfold f_X9_full at hq
  unfold p_X9_full at hp
  refine Sof fun sc => ?_
  refine g_blk hz0 kX9_full_0 ?_
  refine cV [0, 1, 2, 3, 4, 5, 6, 7, 8, 9, 10, 11, 12, 13, 14, 15, 16] (wM m) (s_X9_refuses m ((Int32.ofInt 2)) ((Int32.ofInt (-4))) hp.1) rfl cwX9_refuses dX9_full_4 rfl rfl (hm0_M_M _) ((len_M _).trans (len_M _).symm) (wM ((f_X9_refuses m ((Int32.ofInt 2)) ((Int32.ofInt (-4)))).2)) (pw0_M_M _ _) ?_
  replace hp := hp.2
  obtain ⟨g1, hg1⟩ : ∃ z, z = (f_X9_refuses m ((Int32.ofInt 2)) ((Int32.ofInt (-4)))) := ⟨_, rfl⟩
  try rw [← hg1] at hp
  try rw [← hg1] at hq
  rw [← hg1]
  refine g_blk hz0 kX9_full_7 ?_
  subst hq
  exact ⟨fun h => (by cases h), rfl, rfl⟩
