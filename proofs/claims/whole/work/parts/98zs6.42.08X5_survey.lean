set_option maxHeartbeats 16000000 in
set_option maxRecDepth 20000 in
theorem l_X5_survey_90 (sc : SC) (s : Rec)  (zq : Rec)  : ∀ (n : Nat) (q : Rec) (v2 : Int32), p_X5_survey_90 n q s v2 → zq = f_X5_survey_90 n q s v2 → Good sc 7 0 0 21 mX5_survey (Ret none (wQS (zq) s)) 0 0 90 [some (.ref 0), some (.ref 14), some (.int v2)] [] (wQS q s) := by
  intro n
  induction n with
  | zero => intro q v2 hp; exact hp.elim
  | succ n ih =>
    intro q v2 hp hq
    unfold p_X5_survey_90 at hp
    unfold f_X5_survey_90 at hq
    refine g_blk hz0 kX5_survey_90 ?_
    refine ⟨fun c4 => ?_, fun c4 => ?_⟩
    · rw [if_pos (show (Int32.ofInt 3) < v2 from c4)] at hq
      replace hp := hp.1 c4
      refine g_blk hz0 kX5_survey_109 ?_
      refine cV [0, 1, 2, 3, 4, 5, 6, 7, 8, 9, 10, 11, 12, 13, 14, 15, 16, 17, 18, 19, 20] (wQS q s) (s_X5_explore_c0 q s ((Int32.ofInt 0)) hp.1) rfl cwX5_explore dX5_survey_113 rfl rfl (hm44_QS_QS _ _) ((len_QS _ _).trans (len_QS _ _).symm) (wQS (f_X5_explore_c0 q s ((Int32.ofInt 0))) s) (pw71_QS_QS _ _ _) ?_
      replace hp := hp.2
      obtain ⟨g5, hg5⟩ : ∃ z, z = (f_X5_explore_c0 q s ((Int32.ofInt 0))) := ⟨_, rfl⟩
      try rw [← hg5] at hp
      try rw [← hg5] at hq
      rw [← hg5]
      refine g_blk hz0 kX5_survey_116 ?_
      subst hq
      exact ⟨rfl, rfl⟩
    · rw [if_neg (show ¬ ((Int32.ofInt 3) < v2) from c4)] at hq
      replace hp := hp.2 c4
      refine g_blk hz0 kX5_survey_95 ?_
      refine ⟨hp.1, ?_⟩
      replace hp := hp.2
      refine g_le (L2 := [some (.ref 0), some (.ref 14), some (.int (v2 + (Int32.ofInt 1)))]) ⟨rfl, rfl, rfl, trivial⟩ ?_
      exact ih (setA q 4 (upd (q.2 4) (Int32.toNatClampNeg v2) (Int32.ofInt 37))) (v2 + (Int32.ofInt 1)) hp hq
set_option maxHeartbeats 16000000 in
set_option maxRecDepth 20000 in
theorem l_X5_survey_48 (sc : SC) (s : Rec)  (zq : Rec)  : ∀ (n : Nat) (q : Rec) (v2 : Int32), p_X5_survey_48 n q s v2 → zq = f_X5_survey_48 n q s v2 → Good sc 7 0 0 21 mX5_survey (Ret none (wQS (zq) s)) 0 0 48 [some (.ref 0), some (.ref 14), some (.int v2)] [] (wQS q s) := by
  intro n
  induction n with
  | zero => intro q v2 hp; exact hp.elim
  | succ n ih =>
    intro q v2 hp hq
    unfold p_X5_survey_48 at hp
    unfold f_X5_survey_48 at hq
    refine g_blk hz0 kX5_survey_48 ?_
    refine ⟨fun c2 => ?_, fun c2 => ?_⟩
    · rw [if_pos (show (Int32.ofInt 36) ≤ v2 from c2)] at hq
      replace hp := hp.1 c2
      refine g_blk hz0 kX5_survey_88 ?_
      refine g_le (L2 := [some (.ref 0), some (.ref 14), some (.int (Int32.ofInt 0))]) ⟨rfl, rfl, rfl, trivial⟩ ?_
      exact l_X5_survey_90 sc s zq 40 q ((Int32.ofInt 0)) hp hq
    · rw [if_neg (show ¬ ((Int32.ofInt 36) ≤ v2) from c2)] at hq
      replace hp := hp.2 c2
      refine g_blk hz0 kX5_survey_54 ?_
      refine cVp [14, 15, 16, 17, 18, 19, 20] (wS s) (s_X4_has s v2 hp.1) rfl cwX4_has dX5_survey_56 rfl rfl (hm35_QS_S _ _) ?_
      replace hp := hp.2
      refine g_blk hz0 kX5_survey_59 ?_
      refine ⟨fun c3 => ?_, fun c3 => ?_⟩
      · rw [if_pos (show (f_X4_has s v2) = 0 from c3)] at hq
        replace hp := hp.1 c3
        refine g_blk hz0 kX5_survey_82 ?_
        refine g_le (L2 := [some (.ref 0), some (.ref 14), some (.int (v2 + (Int32.ofInt 1)))]) ⟨rfl, rfl, rfl, trivial⟩ ?_
        exact ih q (v2 + (Int32.ofInt 1)) hp hq
      · rw [if_neg (show ¬ ((f_X4_has s v2) = 0) from c3)] at hq
        replace hp := hp.2 c3
        refine g_blk hz0 kX5_survey_62 ?_
        refine ⟨by decide, ?_⟩
        refine ⟨hp.1, ?_⟩
        replace hp := hp.2
        refine ⟨Or.inr rfl, ?_⟩
        refine ⟨by decide, ?_⟩
        refine ⟨hp.1, ?_⟩
        replace hp := hp.2
        refine ⟨Or.inr rfl, ?_⟩
        refine g_blk hz0 kX5_survey_82 ?_
        refine g_le (L2 := [some (.ref 0), some (.ref 14), some (.int (v2 + (Int32.ofInt 1)))]) ⟨rfl, rfl, rfl, trivial⟩ ?_
        exact ih (setA (setA q 2 (upd (q.2 2) (Int32.toNatClampNeg (v2 - v2 / (Int32.ofInt 6) * (Int32.ofInt 6))) (Int32.ofInt 1))) 3 (upd (q.2 3) (Int32.toNatClampNeg (v2 / (Int32.ofInt 6))) (Int32.ofInt 1))) (v2 + (Int32.ofInt 1)) hp hq
set_option maxHeartbeats 16000000 in
set_option maxRecDepth 20000 in
theorem l_X5_survey_2 (sc : SC) (s : Rec)  (zq : Rec)  : ∀ (n : Nat) (q : Rec) (v2 : Int32), p_X5_survey_2 n q s v2 → zq = f_X5_survey_2 n q s v2 → Good sc 7 0 0 21 mX5_survey (Ret none (wQS (zq) s)) 0 0 2 [some (.ref 0), some (.ref 14), some (.int v2)] [] (wQS q s) := by
  intro n
  induction n with
  | zero => intro q v2 hp; exact hp.elim
  | succ n ih =>
    intro q v2 hp hq
    unfold p_X5_survey_2 at hp
    unfold f_X5_survey_2 at hq
    refine g_blk hz0 kX5_survey_2 ?_
    refine ⟨fun c1 => ?_, fun c1 => ?_⟩
    · rw [if_pos (show (Int32.ofInt 6) ≤ v2 from c1)] at hq
      replace hp := hp.1 c1
      refine g_blk hz0 kX5_survey_46 ?_
      refine g_le (L2 := [some (.ref 0), some (.ref 14), some (.int (Int32.ofInt 0))]) ⟨rfl, rfl, rfl, trivial⟩ ?_
      exact l_X5_survey_48 sc s zq 40 q ((Int32.ofInt 0)) hp hq
    · rw [if_neg (show ¬ ((Int32.ofInt 6) ≤ v2) from c1)] at hq
      replace hp := hp.2 c1
      refine g_blk hz0 kX5_survey_8 ?_
      refine ⟨vinL (by decide), 2, rfl, ?_⟩
      refine ⟨hp.1, ?_⟩
      replace hp := hp.2
      refine ⟨vinL (by decide), 7, rfl, ?_⟩
      refine ⟨hp.1, ?_⟩
      replace hp := hp.2
      refine ⟨hp.1, ?_⟩
      replace hp := hp.2
      refine ⟨Or.inl rfl, ?_⟩
      refine ⟨hp.1, ?_⟩
      replace hp := hp.2
      refine ⟨Or.inl rfl, ?_⟩
      refine g_le (L2 := [some (.ref 0), some (.ref 14), some (.int (v2 + (Int32.ofInt 1)))]) ⟨rfl, rfl, rfl, trivial⟩ ?_
      exact ih (setA (setA (setA (setA q 2 (upd (q.2 2) (Int32.toNatClampNeg v2) (Int32.ofInt 0))) 3 (upd (q.2 3) (Int32.toNatClampNeg v2) (Int32.ofInt 0))) 100 (upd (q.2 100) (Int32.toNatClampNeg v2) v2)) 200 (upd (q.2 200) (Int32.toNatClampNeg v2) v2)) (v2 + (Int32.ofInt 1)) hp hq
set_option maxHeartbeats 16000000 in
set_option maxRecDepth 20000 in
theorem s_X5_survey (q : Rec) (s : Rec)  (hp : p_X5_survey q s) : Spec 7 0 0 mX5_survey [.ref 0, .ref 14] (wQS q s) (Ret none (wQS ((f_X5_survey q s)) s)) := by
  obtain ⟨zq, hq⟩ : ∃ z, z = (f_X5_survey q s) := ⟨_, rfl⟩
  rw [← hq]
  unfold f_X5_survey at hq
  unfold p_X5_survey at hp
  refine Sof fun sc => ?_
  refine g_blk hz0 kX5_survey_0 ?_
  refine g_le (L2 := [some (.ref 0), some (.ref 14), some (.int (Int32.ofInt 0))]) ⟨rfl, rfl, rfl, trivial⟩ ?_
  exact l_X5_survey_2 sc s zq 40 q ((Int32.ofInt 0)) hp hq
