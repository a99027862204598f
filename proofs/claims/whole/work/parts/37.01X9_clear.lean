def f_X9_clear (m : Rec)  : Int32 × Rec := ((m.1 23), (setG m 23 ((Int32.ofInt 0))))
set_option maxHeartbeats 16000000 in
set_option maxRecDepth 20000 in
theorem s_X9_clear (m : Rec)  : Spec 0 0 0 mX9_clear [.ref 0] (wM m) (Ret (some (.int ((f_X9_clear m).1))) (wM ((f_X9_clear m).2))) := by
  obtain ⟨zq, hq⟩ : ∃ z, z = (f_X9_clear m) := ⟨_, rfl⟩
  rw [← hq]
  unfold f_X9_clear at hq
  refine Sof fun sc => ?_
  refine g_blk hz0 kX9_clear_0 ?_
  refine ⟨fun h => (by cases h), Or.inl rfl, ?_⟩
  subst hq
  exact ⟨fun h => (by cases h), rfl, rfl⟩
