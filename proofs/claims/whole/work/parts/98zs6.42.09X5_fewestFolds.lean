set_option maxHeartbeats 16000000 in
set_option maxRecDepth 20000 in
theorem l_X5_fewestFolds_19 (sc : SC) (s : Rec)  (zq : Int32 × Rec)  : ∀ (n : Nat) (q : Rec) (v2 : Int32) (v3 : Int32), p_X5_fewestFolds_19 n q s v2 v3 → zq = f_X5_fewestFolds_19 n q s v2 v3 → Good sc 8 0 0 21 mX5_fewestFolds (Ret (some (.int (zq.1))) (wQS (zq.2) s)) 0 0 19 [some (.ref 0), none, some (.int v2), some (.int v3)] [] (wQS q s) := by
  intro n
  induction n with
  | zero => intro q v2 v3 hp; exact hp.elim
  | succ n ih =>
    intro q v2 v3 hp hq
    unfold p_X5_fewestFolds_19 at hp
    unfold f_X5_fewestFolds_19 at hq
    refine g_blk hz0 kX5_fewestFolds_19 ?_
    refine ⟨fun c3 => ?_, fun c3 => ?_⟩
    · rw [if_pos (show (Int32.ofInt 3) < v3 from c3)] at hq
      refine g_blk hz0 kX5_fewestFolds_42 ?_
      subst hq
      exact ⟨fun h => (by cases h), rfl, rfl⟩
    · rw [if_neg (show ¬ ((Int32.ofInt 3) < v3) from c3)] at hq
      replace hp := hp.2 c3
      refine g_blk hz0 kX5_fewestFolds_24 ?_
      refine ⟨hp.1, ?_⟩
      replace hp := hp.2
      refine ⟨fun c4 => ?_, fun c4 => ?_⟩
      · rw [if_pos (show v2 < ((q.2 4) (Int32.toNatClampNeg v3)) from c4)] at hq
        replace hp := hp.1 c4
        refine g_blk hz0 kX5_fewestFolds_36 ?_
        refine g_le (L2 := [some (.ref 0), none, some (.int v2), some (.int (v3 + (Int32.ofInt 1)))]) ⟨rfl, rfl, rfl, trivial⟩ ?_
        exact ih q v2 (v3 + (Int32.ofInt 1)) hp hq
      · rw [if_neg (show ¬ (v2 < ((q.2 4) (Int32.toNatClampNeg v3))) from c4)] at hq
        refine g_blk hz0 kX5_fewestFolds_34 ?_
        subst hq
        exact ⟨fun h => (by cases h), rfl, rfl⟩
set_option maxHeartbeats 16000000 in
set_option maxRecDepth 20000 in
theorem s_X5_fewestFolds (q : Rec) (s : Rec) (k1 : Int32) (hp : p_X5_fewestFolds q s k1) : Spec 8 0 0 mX5_fewestFolds [.ref 0, .ref 14, .int k1] (wQS q s) (Ret (some (.int ((f_X5_fewestFolds q s k1).1))) (wQS ((f_X5_fewestFolds q s k1).2) s)) := by
  obtain ⟨zq, hq⟩ : ∃ z, z = (f_X5_fewestFolds q s k1) := ⟨_, rfl⟩
  rw [← hq]
  unfold f_X5_fewestFolds at hq
  unfold p_X5_fewestFolds at hp
  refine Sof fun sc => ?_
  refine g_blk hz0 kX5_fewestFolds_0 ?_
  refine ⟨fun c1 => ?_, fun c1 => ?_⟩
  · rw [if_neg (show ¬ ((q.1 5) = 0) from c1)] at hq
    replace hp := hp.2 c1
    refine g_blk hz0 kX5_fewestFolds_17 ?_
    refine g_le (L2 := [some (.ref 0), none, some (.int k1), some (.int (Int32.ofInt 0))]) ⟨rfl, rfl, rfl, trivial⟩ ?_
    exact l_X5_fewestFolds_19 sc s zq 40 q k1 ((Int32.ofInt 0)) hp hq
  · rw [if_pos (show (q.1 5) = 0 from c1)] at hq
    replace hp := hp.1 c1
    refine g_blk hz0 kX5_fewestFolds_7 ?_
    refine cV [0, 1, 2, 3, 4, 5, 6, 7, 8, 9, 10, 11, 12, 13, 14, 15, 16, 17, 18, 19, 20] (wQS q s) (s_X5_survey q s hp.1) rfl cwX5_survey dX5_fewestFolds_9 rfl rfl (hm44_QS_QS _ _) ((len_QS _ _).trans (len_QS _ _).symm) (wQS (f_X5_survey q s) s) (pw71_QS_QS _ _ _) ?_
    replace hp := hp.2
    obtain ⟨g2, hg2⟩ : ∃ z, z = (f_X5_survey q s) := ⟨_, rfl⟩
    try rw [← hg2] at hp
    try rw [← hg2] at hq
    rw [← hg2]
    refine g_blk hz0 kX5_fewestFolds_12 ?_
    refine ⟨fun _ => Or.inr rfl, Or.inr rfl, ?_⟩
    refine g_blk hz0 kX5_fewestFolds_17 ?_
    refine g_le (L2 := [some (.ref 0), none, some (.int k1), some (.int (Int32.ofInt 0))]) ⟨rfl, rfl, rfl, trivial⟩ ?_
    exact l_X5_fewestFolds_19 sc s zq 40 (setG g2 5 ((Int32.ofInt 1))) k1 ((Int32.ofInt 0)) hp hq
