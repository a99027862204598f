set_option maxHeartbeats 16000000 in
set_option maxRecDepth 20000 in
theorem s_X0_firstSure_c2 (o : Rec) (h : Rec) (s : Rec) (p : Rec)  (hp : p_X0_firstSure_c2 o h s p) : Spec 8 0 0 mX0_firstSure [.ref 0, .ref 16, .int (Int32.ofInt 2)] (wHP o h s p) (Ret (some (.int ((f_X0_firstSure_c2 o h s p).1))) (wHP ((f_X0_firstSure_c2 o h s p).2.1) ((f_X0_firstSure_c2 o h s p).2.2.1) ((f_X0_firstSure_c2 o h s p).2.2.2.1) ((f_X0_firstSure_c2 o h s p).2.2.2.2))) := by
  obtain ⟨zq, hq⟩ : ∃ z, z = (f_X0_firstSure_c2 o h s p) := ⟨_, rfl⟩
  rw [← hq]
  unfold f_X0_firstSure_c2 at hq
  unfold p_X0_firstSure_c2 at hp
  refine Sof fun sc => ?_
  refine g_blk hz0 kX0_firstSure_0 ?_
  refine cVp [16, 17, 18, 19, 20, 21, 22, 23, 24, 25, 26, 27] (wP s p) (s_X3_onTurn s p) rfl cwX3_onTurn dX0_firstSure_1 rfl rfl (hm24_HP_P _ _ _ _) ?_
  refine g_blk hz0 kX0_firstSure_4 ?_
  refine ⟨fun c => absurd c (by decide), fun _ => ?_⟩
  refine g_blk hz0 kX0_firstSure_9 ?_
  refine ⟨fun c1 => ?_, fun c1 => ?_⟩
  · rw [if_pos (show 0 < (p.1 7) from c1)] at hq
    refine g_blk hz0 kX0_firstSure_24 ?_
    subst hq
    exact ⟨fun h => (by cases h), rfl, rfl⟩
  · rw [if_neg (show ¬ (0 < (p.1 7)) from c1)] at hq
    replace hp := hp.2 c1
    refine g_blk hz0 kX0_firstSure_16 ?_
    refine cVp [16, 17, 18, 19, 20, 21, 22, 23, 24, 25, 26, 27] (wP s p) (s_X3_winner s p hp.1) rfl cwX3_winner dX0_firstSure_17 rfl rfl (hm24_HP_P _ _ _ _) ?_
    replace hp := hp.2
    refine g_blk hz0 kX0_firstSure_20 ?_
    refine ⟨fun c2 => ?_, fun c2 => ?_⟩
    · rw [if_neg (show ¬ ((f_X3_winner s p) = (f_X3_onTurn s p)) from c2)] at hq
      replace hp := hp.2 c2
      refine g_blk hz0 kX0_firstSure_26 ?_
      refine cV [0, 1, 2, 3, 4, 5, 6, 7, 8, 9, 10, 11, 12, 13, 14, 15, 16, 17, 18, 19, 20, 21, 22, 23, 24, 25, 26, 27] (wHP o h s p) (s_X0_firstStep_c2 o h s p (f_X3_onTurn s p) ((Int32.ofInt 1)) hp.1) rfl cwX0_firstStep dX0_firstSure_31 rfl rfl (hm25_HP_HP _ _ _ _) ((len_HP _ _ _ _).trans (len_HP _ _ _ _).symm) (wHP ((f_X0_firstStep_c2 o h s p (f_X3_onTurn s p) ((Int32.ofInt 1))).2.1) ((f_X0_firstStep_c2 o h s p (f_X3_onTurn s p) ((Int32.ofInt 1))).2.2.1) ((f_X0_firstStep_c2 o h s p (f_X3_onTurn s p) ((Int32.ofInt 1))).2.2.2.1) ((f_X0_firstStep_c2 o h s p (f_X3_onTurn s p) ((Int32.ofInt 1))).2.2.2.2)) (pw46_HP_HP _ _ _ _ _ _ _ _) ?_
      replace hp := hp.2
      obtain ⟨g3, hg3⟩ : ∃ z, z = (f_X0_firstStep_c2 o h s p (f_X3_onTurn s p) ((Int32.ofInt 1))) := ⟨_, rfl⟩
      try rw [← hg3] at hp
      try rw [← hg3] at hq
      rw [← hg3]
      refine g_blk hz0 kX0_firstSure_34 ?_
      refine ⟨fun c4 => ?_, fun c4 => ?_⟩
      · rw [if_pos (show 0 ≤ (g3.1) from c4)] at hq
        replace hp := hp.1 c4
        refine g_blk hz0 kX0_firstSure_43 ?_
        refine ⟨vinL (by decide), 14, rfl, ?_⟩
        refine ⟨by decide, ?_⟩
        refine ⟨hp.1, ?_⟩
        replace hp := hp.2
        refine ⟨hp.1, ?_⟩
        replace hp := hp.2
        refine cVp [17, 18, 19, 20, 21, 22, 23] (wS (g3.2.2.2.1)) (s_X4_has (g3.2.2.2.1) (((g3.2.2.2.2).2 4) (Int32.toNatClampNeg (((g3.2.2.1).2 202) (Int32.toNatClampNeg ((g3.1) / (Int32.ofInt 8)))))) hp.1) rfl cwX4_has dX0_firstSure_68 rfl rfl (hm27_HP_S _ _ _ _) ?_
        replace hp := hp.2
        refine g_blk hz0 kX0_firstSure_71 ?_
        refine ⟨fun c5 => ?_, fun c5 => ?_⟩
        · rw [if_neg (show ¬ ((f_X4_has (g3.2.2.2.1) (((g3.2.2.2.2).2 4) (Int32.toNatClampNeg (((g3.2.2.1).2 202) (Int32.toNatClampNeg ((g3.1) / (Int32.ofInt 8))))))) = 0) from c5)] at hq
          replace hp := hp.2 c5
          refine g_blk hz0 kX0_firstSure_76 ?_
          refine ⟨hp.1, ?_⟩
          replace hp := hp.2
          refine ⟨hp.1, ?_⟩
          replace hp := hp.2
          refine cS0 (s_X0_wayOf (g3.1)) rfl cwX0_wayOf dX0_firstSure_118 rfl ?_
          refine g_blk hz0 kX0_firstSure_121 ?_
          refine cS0 (s_X0_farOf (g3.1)) rfl cwX0_farOf dX0_firstSure_125 rfl ?_
          refine g_blk hz0 kX0_firstSure_128 ?_
          subst hq
          exact ⟨fun h => (by cases h), rfl, rfl⟩
        · rw [if_pos (show (f_X4_has (g3.2.2.2.1) (((g3.2.2.2.2).2 4) (Int32.toNatClampNeg (((g3.2.2.1).2 202) (Int32.toNatClampNeg ((g3.1) / (Int32.ofInt 8))))))) = 0 from c5)] at hq
          refine g_blk hz0 kX0_firstSure_74 ?_
          subst hq
          exact ⟨fun h => (by cases h), rfl, rfl⟩
      · rw [if_neg (show ¬ (0 ≤ (g3.1)) from c4)] at hq
        refine g_blk hz0 kX0_firstSure_41 ?_
        subst hq
        exact ⟨fun h => (by cases h), rfl, rfl⟩
    · rw [if_pos (show (f_X3_winner s p) = (f_X3_onTurn s p) from c2)] at hq
      refine g_blk hz0 kX0_firstSure_24 ?_
      subst hq
      exact ⟨fun h => (by cases h), rfl, rfl⟩
