def f_X9_strength (m : Rec) (m1 : Int32) : Int32 × Rec := if (f_X9_isHere m m1) = 0 then (((f_X9_bad m).1), ((f_X9_bad m).2)) else ((f_X9_strengthOf (f_X9_lays m) m1), (f_X9_lays m))
def p_X9_strength (m : Rec) (m1 : Int32) : Prop := (p_X9_isHere m m1) ∧ (((f_X9_isHere m m1) = 0 → ((p_X9_bad m) ∧ True)) ∧ (¬ ((f_X9_isHere m m1) = 0) → ((p_X9_lays m) ∧ ((p_X9_strengthOf (f_X9_lays m) m1) ∧ True))))
set_option maxHeartbeats 16000000 in
set_option maxRecDepth 20000 in
theorem s_X9_strength (m : Rec) (m1 : Int32) (hp : p_X9_strength m m1) : Spec 4 0 0 mX9_strength [.ref 0, .int m1] (wM m) (Ret (some (.int ((f_X9_strength m m1).1))) (wM ((f_X9_strength m m1).2))) := by
  obtain ⟨zq, hq⟩ : ∃ z, z = (f_X9_strength m m1) := ⟨_, rfl⟩
  rw [← hq]
  unfold f_X9_strength at hq
  unfold p_X9_strength at hp
  refine Sof fun sc => ?_
  refine g_blk hz0 kX9_strength_0 ?_
  refine cVp [0, 1, 2, 3, 4, 5, 6, 7, 8, 9, 10, 11, 12, 13, 14, 15, 16] (wM m) (s_X9_isHere m m1 hp.1) rfl cwX9_isHere dX9_strength_2 rfl rfl (hm0_M_M _) ?_
  replace hp := hp.2
  refine g_blk hz0 kX9_strength_5 ?_
  refine ⟨fun c1 => ?_, fun c1 => ?_⟩
  · rw [if_neg (show ¬ ((f_X9_isHere m m1) = 0) from c1)] at hq
    replace hp := hp.2 c1
    refine g_blk hz0 kX9_strength_13 ?_
    refine cV [0, 1, 2, 3, 4, 5, 6, 7, 8, 9, 10, 11, 12, 13, 14, 15, 16] (wM m) (s_X9_lays m hp.1) rfl cwX9_lays dX9_strength_14 rfl rfl (hm0_M_M _) ((len_M _).trans (len_M _).symm) (wM (f_X9_lays m)) (pw0_M_M _ _) ?_
    replace hp := hp.2
    obtain ⟨g3, hg3⟩ : ∃ z, z = (f_X9_lays m) := ⟨_, rfl⟩
    try rw [← hg3] at hp
    try rw [← hg3] at hq
    rw [← hg3]
    refine g_blk hz0 kX9_strength_17 ?_
    refine cVp [0, 1, 2, 3, 4, 5, 6, 7, 8, 9, 10, 11, 12, 13, 14, 15, 16] (wM g3) (s_X9_strengthOf g3 m1 hp.1) rfl cwX9_strengthOf dX9_strength_19 rfl rfl (hm0_M_M _) ?_
    replace hp := hp.2
    refine g_blk hz0 kX9_strength_22 ?_
    subst hq
    exact ⟨fun h => (by cases h), rfl, rfl⟩
  · rw [if_pos (show (f_X9_isHere m m1) = 0 from c1)] at hq
    replace hp := hp.1 c1
    refine g_blk hz0 kX9_strength_8 ?_
    refine cV [0, 1, 2, 3, 4, 5, 6, 7, 8, 9, 10, 11, 12, 13, 14, 15, 16] (wM m) (s_X9_bad m hp.1) rfl cwX9_bad dX9_strength_9 rfl rfl (hm0_M_M _) ((len_M _).trans (len_M _).symm) (wM ((f_X9_bad m).2)) (pw0_M_M _ _) ?_
    replace hp := hp.2
    obtain ⟨g2, hg2⟩ : ∃ z, z = (f_X9_bad m) := ⟨_, rfl⟩
    try rw [← hg2] at hp
    try rw [← hg2] at hq
    rw [← hg2]
    refine g_blk hz0 kX9_strength_12 ?_
    subst hq
    exact ⟨fun h => (by cases h), rfl, rfl⟩
