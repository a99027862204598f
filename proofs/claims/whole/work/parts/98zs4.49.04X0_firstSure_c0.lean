set_option maxHeartbeats 16000000 in
set_option maxRecDepth 20000 in
theorem s_X0_firstSure_c0 (o : Rec) (h : Rec) (s : Rec) (p : Rec)  : Spec 1 0 0 mX0_firstSure [.ref 0, .ref 16, .int (Int32.ofInt 0)] (wHP o h s p) (Ret (some (.int ((f_X0_firstSure_c0 o h s p)))) (wHP o h s p)) := by
  obtain ⟨zq, hq⟩ : ∃ z, z = (f_X0_firstSure_c0 o h s p) := ⟨_, rfl⟩
  rw [← hq]
  unfold f_X0_firstSure_c0 at hq
  refine Sof fun sc => ?_
  refine g_blk hz0 kX0_firstSure_0 ?_
  refine cVp [16, 17, 18, 19, 20, 21, 22, 23, 24, 25, 26, 27] (wP s p) (s_X3_onTurn s p) rfl cwX3_onTurn dX0_firstSure_1 rfl rfl (hm24_HP_P _ _ _ _) ?_
  refine g_blk hz0 kX0_firstSure_4 ?_
  refine ⟨fun _ => ?_, fun c => absurd c (by decide)⟩
  refine g_blk hz0 kX0_firstSure_24 ?_
  subst hq
  exact ⟨fun h => (by cases h), rfl, rfl⟩
