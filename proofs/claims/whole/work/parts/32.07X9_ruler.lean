def f_X9_ruler (m : Rec) (x : Int32) (y : Int32) : Int32 × Rec := ((f_X9_rulerAt (f_X9_lays m) x y), (f_X9_lays m))
def p_X9_ruler (m : Rec) (x : Int32) (y : Int32) : Prop := (p_X9_lays m) ∧ ((p_X9_rulerAt (f_X9_lays m) x y) ∧ True)
set_option maxHeartbeats 16000000 in
set_option maxRecDepth 20000 in
theorem s_X9_ruler (m : Rec) (x : Int32) (y : Int32) (hp : p_X9_ruler m x y) : Spec 4 0 0 mX9_ruler [.ref 0, .int x, .int y] (wM m) (Ret (some (.int ((f_X9_ruler m x y).1))) (wM ((f_X9_ruler m x y).2))) := by
  obtain ⟨zq, hq⟩ : ∃ z, z = (f_X9_ruler m x y) := ⟨_, rfl⟩
  rw [← hq]
  unfold f_X9_ruler at hq
  unfold p_X9_ruler at hp
  refine Sof fun sc => ?_
  refine g_blk hz0 kX9_ruler_0 ?_
  refine cV [0, 1, 2, 3, 4, 5, 6, 7, 8, 9, 10, 11, 12, 13, 14, 15, 16] (wM m) (s_X9_lays m hp.1) rfl cwX9_lays dX9_ruler_1 rfl rfl (hm0_M_M _) ((len_M _).trans (len_M _).symm) (wM (f_X9_lays m)) (pw0_M_M _ _) ?_
  replace hp := hp.2
  obtain ⟨g1, hg1⟩ : ∃ z, z = (f_X9_lays m) := ⟨_, rfl⟩
  try rw [← hg1] at hp
  try rw [← hg1] at hq
  rw [← hg1]
  refine g_blk hz0 kX9_ruler_4 ?_
  refine cVp [0, 1, 2, 3, 4, 5, 6, 7, 8, 9, 10, 11, 12, 13, 14, 15, 16] (wM g1) (s_X9_rulerAt g1 x y hp.1) rfl cwX9_rulerAt dX9_ruler_7 rfl rfl (hm0_M_M _) ?_
  replace hp := hp.2
  refine g_blk hz0 kX9_ruler_10 ?_
  subst hq
  exact ⟨fun h => (by cases h), rfl, rfl⟩
