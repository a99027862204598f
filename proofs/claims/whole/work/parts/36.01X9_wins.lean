def f_X9_wins (m : Rec) (n : Int32) : Int32 × Rec := if (f_X9_in (Int32.toInt64 n) ((Int64.ofNat 0)) 3) = 0 then (((f_X9_bad m).1), ((f_X9_bad m).2)) else (if ((f_X9_plays (f_X9_keeps_v14 (f_X9_lays m) ((Int32.ofInt 0))) n (f_X9_turn (f_X9_keeps_v14 (f_X9_lays m) ((Int32.ofInt 0))))).1) = 0 then ((Int32.ofInt 0), (f_X9_takes_v14 ((f_X9_plays (f_X9_keeps_v14 (f_X9_lays m) ((Int32.ofInt 0))) n (f_X9_turn (f_X9_keeps_v14 (f_X9_lays m) ((Int32.ofInt 0))))).2) ((Int32.ofInt 0)))) else ((Int32.ofInt 1), (f_X9_takes_v14 ((f_X9_plays (f_X9_keeps_v14 (f_X9_lays m) ((Int32.ofInt 0))) n (f_X9_turn (f_X9_keeps_v14 (f_X9_lays m) ((Int32.ofInt 0))))).2) ((Int32.ofInt 0)))))
def p_X9_wins (m : Rec) (n : Int32) : Prop := ((f_X9_in (Int32.toInt64 n) ((Int64.ofNat 0)) 3) = 0 → ((p_X9_bad m) ∧ True)) ∧ (¬ ((f_X9_in (Int32.toInt64 n) ((Int64.ofNat 0)) 3) = 0) → ((p_X9_lays m) ∧ ((p_X9_keeps_v14 (f_X9_lays m) ((Int32.ofInt 0))) ∧ ((p_X9_plays (f_X9_keeps_v14 (f_X9_lays m) ((Int32.ofInt 0))) n (f_X9_turn (f_X9_keeps_v14 (f_X9_lays m) ((Int32.ofInt 0))))) ∧ ((p_X9_takes_v14 ((f_X9_plays (f_X9_keeps_v14 (f_X9_lays m) ((Int32.ofInt 0))) n (f_X9_turn (f_X9_keeps_v14 (f_X9_lays m) ((Int32.ofInt 0))))).2) ((Int32.ofInt 0))) ∧ True)))))
set_option maxHeartbeats 16000000 in
set_option maxRecDepth 20000 in
theorem s_X9_wins (m : Rec) (n : Int32) (hp : p_X9_wins m n) : Spec 8 0 0 mX9_wins [.ref 0, .int n] (wM m) (Ret (some (.int ((f_X9_wins m n).1))) (wM ((f_X9_wins m n).2))) := by
  obtain ⟨zq, hq⟩ : ∃ z, z = (f_X9_wins m n) := ⟨_, rfl⟩
  rw [← hq]
  unfold f_X9_wins at hq
  unfold p_X9_wins at hp
  refine Sof fun sc => ?_
  refine g_blk hz0 kX9_wins_0 ?_
  refine cS0 (s_X9_in (Int32.toInt64 n) ((Int64.ofNat 0)) 3) rfl cwX9_in dX9_wins_6 rfl ?_
  refine g_blk hz0 kX9_wins_9 ?_
  refine ⟨fun c1 => ?_, fun c1 => ?_⟩
  · rw [if_neg (show ¬ ((f_X9_in (Int32.toInt64 n) ((Int64.ofNat 0)) 3) = 0) from c1)] at hq
    replace hp := hp.2 c1
    refine g_blk hz0 kX9_wins_17 ?_
    refine cV [0, 1, 2, 3, 4, 5, 6, 7, 8, 9, 10, 11, 12, 13, 14, 15, 16] (wM m) (s_X9_lays m hp.1) rfl cwX9_lays dX9_wins_18 rfl rfl (hm0_M_M _) ((len_M _).trans (len_M _).symm) (wM (f_X9_lays m)) (pw0_M_M _ _) ?_
    replace hp := hp.2
    obtain ⟨g3, hg3⟩ : ∃ z, z = (f_X9_lays m) := ⟨_, rfl⟩
    try rw [← hg3] at hp
    try rw [← hg3] at hq
    rw [← hg3]
    refine g_blk hz0 kX9_wins_21 ?_
    refine cV [0, 1, 2, 3, 4, 5, 6, 7, 8, 9, 10, 11, 12, 13, 14, 15, 16] (wM g3) (s_X9_keeps_v14 g3 ((Int32.ofInt 0)) hp.1) rfl cwX9_keeps dX9_wins_27 rfl rfl (hm0_M_M _) ((len_M _).trans (len_M _).symm) (wM (f_X9_keeps_v14 g3 ((Int32.ofInt 0)))) (pw0_M_M _ _) ?_
    replace hp := hp.2
    obtain ⟨g4, hg4⟩ : ∃ z, z = (f_X9_keeps_v14 g3 ((Int32.ofInt 0))) := ⟨_, rfl⟩
    try rw [← hg4] at hp
    try rw [← hg4] at hq
    rw [← hg4]
    refine g_blk hz0 kX9_wins_30 ?_
    refine cVp [0, 1, 2, 3, 4, 5, 6, 7, 8, 9, 10, 11, 12, 13, 14, 15, 16] (wM g4) (s_X9_turn g4) rfl cwX9_turn dX9_wins_33 rfl rfl (hm0_M_M _) ?_
    refine cV [0, 1, 2, 3, 4, 5, 6, 7, 8, 9, 10, 11, 12, 13, 14, 15, 16] (wM g4) (s_X9_plays g4 n (f_X9_turn g4) hp.1) rfl cwX9_plays dX9_wins_36 rfl rfl (hm0_M_M _) ((len_M _).trans (len_M _).symm) (wM ((f_X9_plays g4 n (f_X9_turn g4)).2)) (pw0_M_M _ _) ?_
    replace hp := hp.2
    obtain ⟨g5, hg5⟩ : ∃ z, z = (f_X9_plays g4 n (f_X9_turn g4)) := ⟨_, rfl⟩
    try rw [← hg5] at hp
    try rw [← hg5] at hq
    rw [← hg5]
    refine g_blk hz0 kX9_wins_39 ?_
    refine cV [0, 1, 2, 3, 4, 5, 6, 7, 8, 9, 10, 11, 12, 13, 14, 15, 16] (wM (g5.2)) (s_X9_takes_v14 (g5.2) ((Int32.ofInt 0)) hp.1) rfl cwX9_takes dX9_wins_46 rfl rfl (hm0_M_M _) ((len_M _).trans (len_M _).symm) (wM (f_X9_takes_v14 (g5.2) ((Int32.ofInt 0)))) (pw0_M_M _ _) ?_
    replace hp := hp.2
    obtain ⟨g6, hg6⟩ : ∃ z, z = (f_X9_takes_v14 (g5.2) ((Int32.ofInt 0))) := ⟨_, rfl⟩
    try rw [← hg6] at hp
    try rw [← hg6] at hq
    rw [← hg6]
    refine g_blk hz0 kX9_wins_49 ?_
    refine ⟨fun c7 => ?_, fun c7 => ?_⟩
    · rw [if_pos (show (g5.1) = 0 from c7)] at hq
      refine g_blk hz0 kX9_wins_57 ?_
      refine g_blk hz0 kX9_wins_58 ?_
      subst hq
      exact ⟨fun h => (by cases h), rfl, rfl⟩
    · rw [if_neg (show ¬ ((g5.1) = 0) from c7)] at hq
      refine g_blk hz0 kX9_wins_53 ?_
      refine g_blk hz0 kX9_wins_58 ?_
      subst hq
      exact ⟨fun h => (by cases h), rfl, rfl⟩
  · rw [if_pos (show (f_X9_in (Int32.toInt64 n) ((Int64.ofNat 0)) 3) = 0 from c1)] at hq
    replace hp := hp.1 c1
    refine g_blk hz0 kX9_wins_12 ?_
    refine cV [0, 1, 2, 3, 4, 5, 6, 7, 8, 9, 10, 11, 12, 13, 14, 15, 16] (wM m) (s_X9_bad m hp.1) rfl cwX9_bad dX9_wins_13 rfl rfl (hm0_M_M _) ((len_M _).trans (len_M _).symm) (wM ((f_X9_bad m).2)) (pw0_M_M _ _) ?_
    replace hp := hp.2
    obtain ⟨g2, hg2⟩ : ∃ z, z = (f_X9_bad m) := ⟨_, rfl⟩
    try rw [← hg2] at hp
    try rw [← hg2] at hq
    rw [← hg2]
    refine g_blk hz0 kX9_wins_16 ?_
    subst hq
    exact ⟨fun h => (by cases h), rfl, rfl⟩
