def f_X9_wayY  (w : Int32) : Int32 := if w = 0 then (Int32.ofInt (-1)) else (if w = (Int32.ofInt 2) then (Int32.ofInt 1) else (Int32.ofInt 0))
set_option maxHeartbeats 16000000 in
set_option maxRecDepth 20000 in
theorem s_X9_wayY  (w : Int32) : Spec 0 0 0 mX9_wayY [.int w] [] (Ret (some (.int ((f_X9_wayY w)))) []) := by
  obtain ⟨zq, hq⟩ : ∃ z, z = (f_X9_wayY w) := ⟨_, rfl⟩
  rw [← hq]
  unfold f_X9_wayY at hq
  refine Sof fun sc => ?_
  refine g_blk hz0 kX9_wayY_0 ?_
  refine ⟨fun c1 => ?_, fun c1 => ?_⟩
  · rw [if_neg (show ¬ (w = 0) from c1)] at hq
    refine g_blk hz0 kX9_wayY_8 ?_
    refine ⟨fun c2 => ?_, fun c2 => ?_⟩
    · rw [if_neg (show ¬ (w = (Int32.ofInt 2)) from c2)] at hq
      refine g_blk hz0 kX9_wayY_17 ?_
      refine g_blk hz0 kX9_wayY_18 ?_
      subst hq
      exact ⟨fun h => (by cases h), rfl, rfl⟩
    · rw [if_pos (show w = (Int32.ofInt 2) from c2)] at hq
      refine g_blk hz0 kX9_wayY_13 ?_
      refine g_blk hz0 kX9_wayY_18 ?_
      subst hq
      exact ⟨fun h => (by cases h), rfl, rfl⟩
  · rw [if_pos (show w = 0 from c1)] at hq
    refine g_blk hz0 kX9_wayY_4 ?_
    refine g_blk hz0 kX9_wayY_18 ?_
    subst hq
    exact ⟨fun h => (by cases h), rfl, rfl⟩
