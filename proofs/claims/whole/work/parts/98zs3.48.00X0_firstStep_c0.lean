set_option maxHeartbeats 16000000 in
set_option maxRecDepth 20000 in
theorem s_X0_firstStep_c0 (o : Rec) (h : Rec) (s : Rec) (p : Rec) (me : Int32) (wt : Int32) : Spec 1 0 0 mX0_firstStep [.ref 0, .ref 16, .int me, .int (Int32.ofInt 0), .int wt] (wHP o h s p) (Ret (some (.int ((f_X0_firstStep_c0 o h s p me wt)))) (wHP o h s p)) := by
  obtain ⟨zq, hq⟩ : ∃ z, z = (f_X0_firstStep_c0 o h s p me wt) := ⟨_, rfl⟩
  rw [← hq]
  unfold f_X0_firstStep_c0 at hq
  refine Sof fun sc => ?_
  refine g_blk hz0 kX0_firstStep_0 ?_
  refine cS0 (s_X8_within (Int32.ofInt 0) (Int32.ofInt 1) (Int32.ofInt 3)) rfl cwX8_within dX0_firstStep_3 rfl ?_
  refine g_blk hz0 kX0_firstStep_6 ?_
  refine ⟨fun c => absurd c (by decide), fun _ => ?_⟩
  refine g_blk hz0 kX0_firstStep_9 ?_
  subst hq
  exact ⟨fun h => (by cases h), rfl, rfl⟩
