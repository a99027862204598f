def f_X9_wayX  (w : Int32) : Int32 := if w = (Int32.ofInt 1) then (Int32.ofInt 1) else (if w = (Int32.ofInt 3) then (Int32.ofInt (-1)) else (Int32.ofInt 0))
set_option maxHeartbeats 16000000 in
set_option maxRecDepth 20000 in
theorem s_X9_wayX  (w : Int32) : Spec 0 0 0 mX9_wayX [.int w] [] (Ret (some (.int ((f_X9_wayX w)))) []) := by
  obtain ⟨zq, hq⟩ : ∃ z, z = (f_X9_wayX w) := ⟨_, rfl⟩
  rw [← hq]
  unfold f_X9_wayX at hq
  refine Sof fun sc => ?_
  refine g_blk hz0 kX9_wayX_0 ?_
  refine ⟨fun c1 => ?_, fun c1 => ?_⟩
  · rw [if_neg (show ¬ (w = (Int32.ofInt 1)) from c1)] at hq
    refine g_blk hz0 kX9_wayX_9 ?_
    refine ⟨fun c2 => ?_, fun c2 => ?_⟩
    · rw [if_neg (show ¬ (w = (Int32.ofInt 3)) from c2)] at hq
      refine g_blk hz0 kX9_wayX_18 ?_
      refine g_blk hz0 kX9_wayX_19 ?_
      subst hq
      exact ⟨fun h => (by cases h), rfl, rfl⟩
    · rw [if_pos (show w = (Int32.ofInt 3) from c2)] at hq
      refine g_blk hz0 kX9_wayX_14 ?_
      refine g_blk hz0 kX9_wayX_19 ?_
      subst hq
      exact ⟨fun h => (by cases h), rfl, rfl⟩
  · rw [if_pos (show w = (Int32.ofInt 1) from c1)] at hq
    refine g_blk hz0 kX9_wayX_5 ?_
    refine g_blk hz0 kX9_wayX_19 ?_
    subst hq
    exact ⟨fun h => (by cases h), rfl, rfl⟩
