def f_X9_folds (m : Rec) (i : Int32) : Int32 × Rec := if (Int32.ofInt (-1)) ≤ i then (if i = (Int32.ofInt (-1)) then (if i = (Int32.ofInt (-1)) then ((f_X9_foldsNow (f_X9_lays m)), (f_X9_lays m)) else ((Int32.ofInt (-5)), (f_X9_lays m))) else (if i < (f_X9_foldsNow (f_X9_lays m)) then (((((Int32.ofInt 1000) * ((f_X9_pick (f_X9_lays m) i).1 10)) + ((Int32.ofInt 10) * (((f_X9_pick (f_X9_lays m) i).1 11) + (Int32.ofInt 20)))) + ((f_X9_pick (f_X9_lays m) i).1 12)), (f_X9_pick (f_X9_lays m) i)) else (if i = (Int32.ofInt (-1)) then ((f_X9_foldsNow (f_X9_lays m)), (f_X9_lays m)) else ((Int32.ofInt (-5)), (f_X9_lays m))))) else (((f_X9_refuses m ((Int32.ofInt 0)) ((Int32.ofInt (-10)))).1), ((f_X9_refuses m ((Int32.ofInt 0)) ((Int32.ofInt (-10)))).2))
def p_X9_folds (m : Rec) (i : Int32) : Prop := ((Int32.ofInt (-1)) ≤ i → ((p_X9_lays m) ∧ ((i = (Int32.ofInt (-1)) → ((i = (Int32.ofInt (-1)) → ((p_X9_foldsNow (f_X9_lays m)) ∧ True)) ∧ (¬ (i = (Int32.ofInt (-1))) → True))) ∧ (¬ (i = (Int32.ofInt (-1))) → ((p_X9_foldsNow (f_X9_lays m)) ∧ ((i < (f_X9_foldsNow (f_X9_lays m)) → ((p_X9_pick (f_X9_lays m) i) ∧ True)) ∧ (¬ (i < (f_X9_foldsNow (f_X9_lays m))) → ((i = (Int32.ofInt (-1)) → ((p_X9_foldsNow (f_X9_lays m)) ∧ True)) ∧ (¬ (i = (Int32.ofInt (-1))) → True))))))))) ∧ (¬ ((Int32.ofInt (-1)) ≤ i) → ((p_X9_refuses m ((Int32.ofInt 0)) ((Int32.ofInt (-10)))) ∧ True))
set_option maxHeartbeats 16000000 in
set_option maxRecDepth 20000 in
theorem s_X9_folds (m : Rec) (i : Int32) (hp : p_X9_folds m i) : Spec 4 0 0 mX9_folds [.ref 0, .int i] (wM m) (Ret (some (.int ((f_X9_folds m i).1))) (wM ((f_X9_folds m i).2))) := by
  obtain ⟨zq, hq⟩ : ∃ z, z = (f_X9_folds m i) := ⟨_, rfl⟩
  rw [← hq]
  unfold f_X9_folds at hq
  unfold p_X9_folds at hp
  refine Sof fun sc => ?_
  refine g_blk hz0 kX9_folds_0 ?_
  refine ⟨fun c1 => ?_, fun c1 => ?_⟩
  · rw [if_pos (show (Int32.ofInt (-1)) ≤ i from c1)] at hq
    replace hp := hp.1 c1
    refine g_blk hz0 kX9_folds_13 ?_
    refine cV [0, 1, 2, 3, 4, 5, 6, 7, 8, 9, 10, 11, 12, 13, 14, 15, 16] (wM m) (s_X9_lays m hp.1) rfl cwX9_lays dX9_folds_14 rfl rfl (hm0_M_M _) ((len_M _).trans (len_M _).symm) (wM (f_X9_lays m)) (pw0_M_M _ _) ?_
    replace hp := hp.2
    obtain ⟨g2, hg2⟩ : ∃ z, z = (f_X9_lays m) := ⟨_, rfl⟩
    try rw [← hg2] at hp
    try rw [← hg2] at hq
    rw [← hg2]
    refine g_blk hz0 kX9_folds_17 ?_
    refine ⟨fun c3 => ?_, fun c3 => ?_⟩
    · rw [if_pos (show i = (Int32.ofInt (-1)) from c3)] at hq
      replace hp := hp.1 c3
      refine g_blk hz0 kX9_folds_30 ?_
      refine ⟨fun c4 => ?_, fun c4 => ?_⟩
      · rw [if_neg (show ¬ (i = (Int32.ofInt (-1))) from c4)] at hq
        refine g_blk hz0 kX9_folds_42 ?_
        refine g_blk hz0 kX9_folds_44 ?_
        subst hq
        exact ⟨fun h => (by cases h), rfl, rfl⟩
      · rw [if_pos (show i = (Int32.ofInt (-1)) from c4)] at hq
        replace hp := hp.1 c4
        refine g_blk hz0 kX9_folds_35 ?_
        refine cVp [0, 1, 2, 3, 4, 5, 6, 7, 8, 9, 10, 11, 12, 13, 14, 15, 16] (wM g2) (s_X9_foldsNow g2 hp.1) rfl cwX9_foldsNow dX9_folds_36 rfl rfl (hm0_M_M _) ?_
        replace hp := hp.2
        refine g_blk hz0 kX9_folds_39 ?_
        refine g_blk hz0 kX9_folds_44 ?_
        subst hq
        exact ⟨fun h => (by cases h), rfl, rfl⟩
    · rw [if_neg (show ¬ (i = (Int32.ofInt (-1))) from c3)] at hq
      replace hp := hp.2 c3
      refine g_blk hz0 kX9_folds_22 ?_
      refine cVp [0, 1, 2, 3, 4, 5, 6, 7, 8, 9, 10, 11, 12, 13, 14, 15, 16] (wM g2) (s_X9_foldsNow g2 hp.1) rfl cwX9_foldsNow dX9_folds_24 rfl rfl (hm0_M_M _) ?_
      replace hp := hp.2
      refine g_blk hz0 kX9_folds_27 ?_
      refine ⟨fun c5 => ?_, fun c5 => ?_⟩
      · rw [if_pos (show i < (f_X9_foldsNow g2) from c5)] at hq
        replace hp := hp.1 c5
        refine g_blk hz0 kX9_folds_45 ?_
        refine cV [0, 1, 2, 3, 4, 5, 6, 7, 8, 9, 10, 11, 12, 13, 14, 15, 16] (wM g2) (s_X9_pick g2 i hp.1) rfl cwX9_pick dX9_folds_47 rfl rfl (hm0_M_M _) ((len_M _).trans (len_M _).symm) (wM (f_X9_pick g2 i)) (pw0_M_M _ _) ?_
        replace hp := hp.2
        obtain ⟨g6, hg6⟩ : ∃ z, z = (f_X9_pick g2 i) := ⟨_, rfl⟩
        try rw [← hg6] at hp
        try rw [← hg6] at hq
        rw [← hg6]
        refine g_blk hz0 kX9_folds_50 ?_
        subst hq
        exact ⟨fun h => (by cases h), rfl, rfl⟩
      · rw [if_neg (show ¬ (i < (f_X9_foldsNow g2)) from c5)] at hq
        replace hp := hp.2 c5
        refine g_blk hz0 kX9_folds_30 ?_
        refine ⟨fun c7 => ?_, fun c7 => ?_⟩
        · rw [if_neg (show ¬ (i = (Int32.ofInt (-1))) from c7)] at hq
          refine g_blk hz0 kX9_folds_42 ?_
          refine g_blk hz0 kX9_folds_44 ?_
          subst hq
          exact ⟨fun h => (by cases h), rfl, rfl⟩
        · rw [if_pos (show i = (Int32.ofInt (-1)) from c7)] at hq
          replace hp := hp.1 c7
          refine g_blk hz0 kX9_folds_35 ?_
          refine cVp [0, 1, 2, 3, 4, 5, 6, 7, 8, 9, 10, 11, 12, 13, 14, 15, 16] (wM g2) (s_X9_foldsNow g2 hp.1) rfl cwX9_foldsNow dX9_folds_36 rfl rfl (hm0_M_M _) ?_
          replace hp := hp.2
          refine g_blk hz0 kX9_folds_39 ?_
          refine g_blk hz0 kX9_folds_44 ?_
          subst hq
          exact ⟨fun h => (by cases h), rfl, rfl⟩
  · rw [if_neg (show ¬ ((Int32.ofInt (-1)) ≤ i) from c1)] at hq
    replace hp := hp.2 c1
    refine g_blk hz0 kX9_folds_5 ?_
    refine cV [0, 1, 2, 3, 4, 5, 6, 7, 8, 9, 10, 11, 12, 13, 14, 15, 16] (wM m) (s_X9_refuses m ((Int32.ofInt 0)) ((Int32.ofInt (-10))) hp.1) rfl cwX9_refuses dX9_folds_9 rfl rfl (hm0_M_M _) ((len_M _).trans (len_M _).symm) (wM ((f_X9_refuses m ((Int32.ofInt 0)) ((Int32.ofInt (-10)))).2)) (pw0_M_M _ _) ?_
    replace hp := hp.2
    obtain ⟨g8, hg8⟩ : ∃ z, z = (f_X9_refuses m ((Int32.ofInt 0)) ((Int32.ofInt (-10)))) := ⟨_, rfl⟩
    try rw [← hg8] at hp
    try rw [← hg8] at hq
    rw [← hg8]
    refine g_blk hz0 kX9_folds_12 ?_
    subst hq
    exact ⟨fun h => (by cases h), rfl, rfl⟩
