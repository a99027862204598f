def f_X9_isAt (m : Rec) (c : Int32) (x : Int32) (y : Int32) : Int32 := if (f_X9_isCell m c) = 0 then (Int32.ofInt 0) else (if ((m.2 4) (Int32.toNatClampNeg c)) = x then (if ((m.2 5) (Int32.toNatClampNeg c)) = y then (Int32.ofInt 1) else (Int32.ofInt 0)) else (Int32.ofInt 0))
def p_X9_isAt (m : Rec) (c : Int32) (x : Int32) (y : Int32) : Prop := (p_X9_isCell m c) ∧ (((f_X9_isCell m c) = 0 → True) ∧ (¬ ((f_X9_isCell m c) = 0) → (vp_in c 36 ∧ ((((m.2 4) (Int32.toNatClampNeg c)) = x → (vp_in c 36 ∧ True)) ∧ (¬ (((m.2 4) (Int32.toNatClampNeg c)) = x) → True)))))
theorem z_X9_isAt (m : Rec) (c : Int32) (x : Int32) (y : Int32) : (f_X9_isAt m c x y) = 0 ∨ (f_X9_isAt m c x y) = 1 := by
  unfold f_X9_isAt
  repeat' split
  all_goals first | exact Or.inl rfl | exact Or.inr rfl | apply z_any <;> assumption
set_option maxHeartbeats 16000000 in
set_option maxRecDepth 20000 in
theorem s_X9_isAt (m : Rec) (c : Int32) (x : Int32) (y : Int32) (hp : p_X9_isAt m c x y) : Spec 2 0 0 mX9_isAt [.ref 0, .int c, .int x, .int y] (wM m) (Ret (some (.int ((f_X9_isAt m c x y)))) (wM m)) := by
  obtain ⟨zq, hq⟩ : ∃ z, z = (f_X9_isAt m c x y) := ⟨_, rfl⟩
  rw [← hq]
  unfold f_X9_isAt at hq
  unfold p_X9_isAt at hp
  refine Sof fun sc => ?_
  refine g_blk hz0 kX9_isAt_0 ?_
  refine cVp [0, 1, 2, 3, 4, 5, 6, 7, 8, 9, 10, 11, 12, 13, 14, 15, 16] (wM m) (s_X9_isCell m c hp.1) rfl cwX9_isCell dX9_isAt_2 rfl rfl (hm0_M_M _) ?_
  replace hp := hp.2
  refine g_blk hz0 kX9_isAt_5 ?_
  refine ⟨fun c1 => ?_, fun c1 => ?_⟩
  · rw [if_pos (show (f_X9_isCell m c) = 0 from c1)] at hq
    refine g_blk hz0 kX9_isAt_32 ?_
    refine g_blk hz0 kX9_isAt_33 ?_
    subst hq
    exact ⟨fun _ => Or.inl rfl, rfl, rfl⟩
  · rw [if_neg (show ¬ ((f_X9_isCell m c) = 0) from c1)] at hq
    replace hp := hp.2 c1
    refine g_blk hz0 kX9_isAt_8 ?_
    refine ⟨hp.1, ?_⟩
    replace hp := hp.2
    refine ⟨fun c2 => ?_, fun c2 => ?_⟩
    · rw [if_neg (show ¬ (((m.2 4) (Int32.toNatClampNeg c)) = x) from c2)] at hq
      refine g_blk hz0 kX9_isAt_32 ?_
      refine g_blk hz0 kX9_isAt_33 ?_
      subst hq
      exact ⟨fun _ => Or.inl rfl, rfl, rfl⟩
    · rw [if_pos (show ((m.2 4) (Int32.toNatClampNeg c)) = x from c2)] at hq
      replace hp := hp.1 c2
      refine g_blk hz0 kX9_isAt_18 ?_
      refine ⟨hp.1, ?_⟩
      replace hp := hp.2
      refine ⟨fun c3 => ?_, fun c3 => ?_⟩
      · rw [if_neg (show ¬ (((m.2 5) (Int32.toNatClampNeg c)) = y) from c3)] at hq
        refine g_blk hz0 kX9_isAt_32 ?_
        refine g_blk hz0 kX9_isAt_33 ?_
        subst hq
        exact ⟨fun _ => Or.inl rfl, rfl, rfl⟩
      · rw [if_pos (show ((m.2 5) (Int32.toNatClampNeg c)) = y from c3)] at hq
        refine g_blk hz0 kX9_isAt_28 ?_
        refine g_blk hz0 kX9_isAt_33 ?_
        subst hq
        exact ⟨fun _ => Or.inr rfl, rfl, rfl⟩
