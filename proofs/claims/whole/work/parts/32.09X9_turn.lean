def f_X9_turn (m : Rec)  : Int32 := (((m.2 0) (Int32.toNatClampNeg (Int32.ofInt 26))) - ((m.2 0) (Int32.toNatClampNeg (Int32.ofInt 26))) / (Int32.ofInt 2) * (Int32.ofInt 2))
set_option maxHeartbeats 16000000 in
set_option maxRecDepth 20000 in
theorem s_X9_turn (m : Rec)  : Spec 0 0 0 mX9_turn [.ref 0] (wM m) (Ret (some (.int ((f_X9_turn m)))) (wM m)) := by
  obtain ⟨zq, hq⟩ : ∃ z, z = (f_X9_turn m) := ⟨_, rfl⟩
  rw [← hq]
  unfold f_X9_turn at hq
  refine Sof fun sc => ?_
  refine g_blk hz0 kX9_turn_0 ?_
  refine ⟨vinL (by decide), ?_⟩
  refine ⟨by decide, ?_⟩
  subst hq
  exact ⟨fun h => (by cases h), rfl, rfl⟩
