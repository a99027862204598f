def f_X9_anyFold (m : Rec)  : Int32 := if (f_X9_end m ((Int32.ofInt 0)) ((Int32.ofInt 0))) < (f_X9_end m ((Int32.ofInt 0)) ((Int32.ofInt 1))) then (Int32.ofInt 1) else (if (f_X9_end m ((Int32.ofInt 1)) ((Int32.ofInt 1))) ≤ (f_X9_end m ((Int32.ofInt 1)) ((Int32.ofInt 0))) then (Int32.ofInt 0) else (Int32.ofInt 1))
def p_X9_anyFold (m : Rec)  : Prop := (p_X9_end m ((Int32.ofInt 0)) ((Int32.ofInt 1))) ∧ ((p_X9_end m ((Int32.ofInt 0)) ((Int32.ofInt 0))) ∧ (((f_X9_end m ((Int32.ofInt 0)) ((Int32.ofInt 0))) < (f_X9_end m ((Int32.ofInt 0)) ((Int32.ofInt 1))) → True) ∧ (¬ ((f_X9_end m ((Int32.ofInt 0)) ((Int32.ofInt 0))) < (f_X9_end m ((Int32.ofInt 0)) ((Int32.ofInt 1)))) → ((p_X9_end m ((Int32.ofInt 1)) ((Int32.ofInt 1))) ∧ ((p_X9_end m ((Int32.ofInt 1)) ((Int32.ofInt 0))) ∧ True)))))
theorem z_X9_anyFold (m : Rec)  : (f_X9_anyFold m) = 0 ∨ (f_X9_anyFold m) = 1 := by
  unfold f_X9_anyFold
  repeat' split
  all_goals first | exact Or.inl rfl | exact Or.inr rfl | apply z_any <;> assumption
set_option maxHeartbeats 16000000 in
set_option maxRecDepth 20000 in
theorem s_X9_anyFold (m : Rec)  (hp : p_X9_anyFold m) : Spec 3 0 0 mX9_anyFold [.ref 0] (wM m) (Ret (some (.int ((f_X9_anyFold m)))) (wM m)) := by
  obtain ⟨zq, hq⟩ : ∃ z, z = (f_X9_anyFold m) := ⟨_, rfl⟩
  rw [← hq]
  unfold f_X9_anyFold at hq
  unfold p_X9_anyFold at hp
  refine Sof fun sc => ?_
  refine g_blk hz0 kX9_anyFold_0 ?_
  refine cVp [0, 1, 2, 3, 4, 5, 6, 7, 8, 9, 10, 11, 12, 13, 14, 15, 16] (wM m) (s_X9_end m ((Int32.ofInt 0)) ((Int32.ofInt 1)) hp.1) rfl cwX9_end dX9_anyFold_3 rfl rfl (hm0_M_M _) ?_
  replace hp := hp.2
  refine g_blk hz0 kX9_anyFold_6 ?_
  refine cVp [0, 1, 2, 3, 4, 5, 6, 7, 8, 9, 10, 11, 12, 13, 14, 15, 16] (wM m) (s_X9_end m ((Int32.ofInt 0)) ((Int32.ofInt 0)) hp.1) rfl cwX9_end dX9_anyFold_9 rfl rfl (hm0_M_M _) ?_
  replace hp := hp.2
  refine g_blk hz0 kX9_anyFold_12 ?_
  refine ⟨fun c1 => ?_, fun c1 => ?_⟩
  · rw [if_pos (show (f_X9_end m ((Int32.ofInt 0)) ((Int32.ofInt 0))) < (f_X9_end m ((Int32.ofInt 0)) ((Int32.ofInt 1))) from c1)] at hq
    refine g_blk hz0 kX9_anyFold_30 ?_
    refine g_blk hz0 kX9_anyFold_35 ?_
    subst hq
    exact ⟨fun _ => Or.inr rfl, rfl, rfl⟩
  · rw [if_neg (show ¬ ((f_X9_end m ((Int32.ofInt 0)) ((Int32.ofInt 0))) < (f_X9_end m ((Int32.ofInt 0)) ((Int32.ofInt 1)))) from c1)] at hq
    replace hp := hp.2 c1
    refine g_blk hz0 kX9_anyFold_15 ?_
    refine cVp [0, 1, 2, 3, 4, 5, 6, 7, 8, 9, 10, 11, 12, 13, 14, 15, 16] (wM m) (s_X9_end m ((Int32.ofInt 1)) ((Int32.ofInt 1)) hp.1) rfl cwX9_end dX9_anyFold_18 rfl rfl (hm0_M_M _) ?_
    replace hp := hp.2
    refine g_blk hz0 kX9_anyFold_21 ?_
    refine cVp [0, 1, 2, 3, 4, 5, 6, 7, 8, 9, 10, 11, 12, 13, 14, 15, 16] (wM m) (s_X9_end m ((Int32.ofInt 1)) ((Int32.ofInt 0)) hp.1) rfl cwX9_end dX9_anyFold_24 rfl rfl (hm0_M_M _) ?_
    replace hp := hp.2
    refine g_blk hz0 kX9_anyFold_27 ?_
    refine ⟨fun c2 => ?_, fun c2 => ?_⟩
    · rw [if_pos (show (f_X9_end m ((Int32.ofInt 1)) ((Int32.ofInt 1))) ≤ (f_X9_end m ((Int32.ofInt 1)) ((Int32.ofInt 0))) from c2)] at hq
      refine g_blk hz0 kX9_anyFold_34 ?_
      refine g_blk hz0 kX9_anyFold_35 ?_
      subst hq
      exact ⟨fun _ => Or.inl rfl, rfl, rfl⟩
    · rw [if_neg (show ¬ ((f_X9_end m ((Int32.ofInt 1)) ((Int32.ofInt 1))) ≤ (f_X9_end m ((Int32.ofInt 1)) ((Int32.ofInt 0)))) from c2)] at hq
      refine g_blk hz0 kX9_anyFold_30 ?_
      refine g_blk hz0 kX9_anyFold_35 ?_
      subst hq
      exact ⟨fun _ => Or.inr rfl, rfl, rfl⟩
