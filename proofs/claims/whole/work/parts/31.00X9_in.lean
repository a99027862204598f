def f_X9_in  (v : Int64) (a : Int64) (b : Int64) : Int32 := if (lg_cmp v a) < 0 then (Int32.ofInt 0) else (if 0 < (lg_cmp v b) then (Int32.ofInt 0) else (Int32.ofInt 1))
theorem z_X9_in  (v : Int64) (a : Int64) (b : Int64) : (f_X9_in v a b) = 0 ∨ (f_X9_in v a b) = 1 := by
  unfold f_X9_in
  repeat' split
  all_goals first | exact Or.inl rfl | exact Or.inr rfl | apply z_any <;> assumption
set_option maxHeartbeats 16000000 in
set_option maxRecDepth 20000 in
theorem s_X9_in  (v : Int64) (a : Int64) (b : Int64) : Spec 0 0 0 mX9_in [.long v, .long a, .long b] [] (Ret (some (.int ((f_X9_in v a b)))) []) := by
  obtain ⟨zq, hq⟩ : ∃ z, z = (f_X9_in v a b) := ⟨_, rfl⟩
  rw [← hq]
  unfold f_X9_in at hq
  refine Sof fun sc => ?_
  refine g_blk hz0 kX9_in_0 ?_
  refine ⟨fun c1 => ?_, fun c1 => ?_⟩
  · rw [if_pos (show (lg_cmp v a) < 0 from c1)] at hq
    refine g_blk hz0 kX9_in_17 ?_
    refine g_blk hz0 kX9_in_18 ?_
    subst hq
    exact ⟨fun _ => Or.inl rfl, rfl, rfl⟩
  · rw [if_neg (show ¬ ((lg_cmp v a) < 0) from c1)] at hq
    refine g_blk hz0 kX9_in_6 ?_
    refine ⟨fun c2 => ?_, fun c2 => ?_⟩
    · rw [if_pos (show 0 < (lg_cmp v b) from c2)] at hq
      refine g_blk hz0 kX9_in_17 ?_
      refine g_blk hz0 kX9_in_18 ?_
      subst hq
      exact ⟨fun _ => Or.inl rfl, rfl, rfl⟩
    · rw [if_neg (show ¬ (0 < (lg_cmp v b)) from c2)] at hq
      refine g_blk hz0 kX9_in_13 ?_
      refine g_blk hz0 kX9_in_18 ?_
      subst hq
      exact ⟨fun _ => Or.inr rfl, rfl, rfl⟩
