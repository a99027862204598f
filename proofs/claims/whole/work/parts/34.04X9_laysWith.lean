def f_X9_laysWith (m : Rec) (i : Int32) : Rec := (f_X9_turnsOver (f_X9_pick (f_X9_lays m) i) ((f_X9_pick (f_X9_lays m) i).1 10) ((f_X9_pick (f_X9_lays m) i).1 11) ((f_X9_pick (f_X9_lays m) i).1 12))
def p_X9_laysWith (m : Rec) (i : Int32) : Prop := (p_X9_lays m) ∧ ((p_X9_pick (f_X9_lays m) i) ∧ ((p_X9_turnsOver (f_X9_pick (f_X9_lays m) i) ((f_X9_pick (f_X9_lays m) i).1 10) ((f_X9_pick (f_X9_lays m) i).1 11) ((f_X9_pick (f_X9_lays m) i).1 12)) ∧ True))
set_option maxHeartbeats 16000000 in
set_option maxRecDepth 20000 in
theorem s_X9_laysWith (m : Rec) (i : Int32) (hp : p_X9_laysWith m i) : Spec 4 0 0 mX9_laysWith [.ref 0, .int i] (wM m) (Ret none (wM ((f_X9_laysWith m i)))) := by
  obtain ⟨zq, hq⟩ : ∃ z, z = (f_X9_laysWith m i) := ⟨_, rfl⟩
  rw [← hq]
  unfold f_X9_laysWith at hq
  unfold p_X9_laysWith at hp
  refine Sof fun sc => ?_
  refine g_blk hz0 kX9_laysWith_0 ?_
  refine cV [0, 1, 2, 3, 4, 5, 6, 7, 8, 9, 10, 11, 12, 13, 14, 15, 16] (wM m) (s_X9_lays m hp.1) rfl cwX9_lays dX9_laysWith_1 rfl rfl (hm0_M_M _) ((len_M _).trans (len_M _).symm) (wM (f_X9_lays m)) (pw0_M_M _ _) ?_
  replace hp := hp.2
  obtain ⟨g1, hg1⟩ : ∃ z, z = (f_X9_lays m) := ⟨_, rfl⟩
  try rw [← hg1] at hp
  try rw [← hg1] at hq
  rw [← hg1]
  refine g_blk hz0 kX9_laysWith_4 ?_
  refine cV [0, 1, 2, 3, 4, 5, 6, 7, 8, 9, 10, 11, 12, 13, 14, 15, 16] (wM g1) (s_X9_pick g1 i hp.1) rfl cwX9_pick dX9_laysWith_6 rfl rfl (hm0_M_M _) ((len_M _).trans (len_M _).symm) (wM (f_X9_pick g1 i)) (pw0_M_M _ _) ?_
  replace hp := hp.2
  obtain ⟨g2, hg2⟩ : ∃ z, z = (f_X9_pick g1 i) := ⟨_, rfl⟩
  try rw [← hg2] at hp
  try rw [← hg2] at hq
  rw [← hg2]
  refine g_blk hz0 kX9_laysWith_9 ?_
  refine cV [0, 1, 2, 3, 4, 5, 6, 7, 8, 9, 10, 11, 12, 13, 14, 15, 16] (wM g2) (s_X9_turnsOver g2 (g2.1 10) (g2.1 11) (g2.1 12) hp.1) rfl cwX9_turnsOver dX9_laysWith_22 rfl rfl (hm0_M_M _) ((len_M _).trans (len_M _).symm) (wM (f_X9_turnsOver g2 (g2.1 10) (g2.1 11) (g2.1 12))) (pw0_M_M _ _) ?_
  replace hp := hp.2
  obtain ⟨g3, hg3⟩ : ∃ z, z = (f_X9_turnsOver g2 (g2.1 10) (g2.1 11) (g2.1 12)) := ⟨_, rfl⟩
  try rw [← hg3] at hp
  try rw [← hg3] at hq
  rw [← hg3]
  refine g_blk hz0 kX9_laysWith_25 ?_
  subst hq
  exact ⟨rfl, rfl⟩
