def f_X9_fold (m : Rec) (a : Int32) (l : Int32) (w : Int32) : Int32 × Rec := if (f_X9_in (Int32.toInt64 a) ((Int64.ofNat 0)) ((Int64.ofNat 1))) = 0 then (((f_X9_bad m).1), ((f_X9_bad m).2)) else (if (f_X9_in (Int32.toInt64 w) ((Int64.ofNat 0)) ((Int64.ofNat 1))) = 0 then (((f_X9_bad m).1), ((f_X9_bad m).2)) else (if ((f_X9_makes (f_X9_keeps_v9 (f_X9_lays m) ((Int32.ofInt 0))) a l w).1) = 0 then (((f_X9_no ((f_X9_makes (f_X9_keeps_v9 (f_X9_lays m) ((Int32.ofInt 0))) a l w).2)).1), ((f_X9_no ((f_X9_makes (f_X9_keeps_v9 (f_X9_lays m) ((Int32.ofInt 0))) a l w).2)).2)) else ((((f_X9_remembers ((f_X9_makes (f_X9_keeps_v9 (f_X9_lays m) ((Int32.ofInt 0))) a l w).2)).2 0) (Int32.toNatClampNeg (Int32.ofInt 27))), (f_X9_remembers ((f_X9_makes (f_X9_keeps_v9 (f_X9_lays m) ((Int32.ofInt 0))) a l w).2)))))
def p_X9_fold (m : Rec) (a : Int32) (l : Int32) (w : Int32) : Prop := ((f_X9_in (Int32.toInt64 a) ((Int64.ofNat 0)) ((Int64.ofNat 1))) = 0 → ((p_X9_bad m) ∧ True)) ∧ (¬ ((f_X9_in (Int32.toInt64 a) ((Int64.ofNat 0)) ((Int64.ofNat 1))) = 0) → (((f_X9_in (Int32.toInt64 w) ((Int64.ofNat 0)) ((Int64.ofNat 1))) = 0 → ((p_X9_bad m) ∧ True)) ∧ (¬ ((f_X9_in (Int32.toInt64 w) ((Int64.ofNat 0)) ((Int64.ofNat 1))) = 0) → ((p_X9_lays m) ∧ ((p_X9_keeps_v9 (f_X9_lays m) ((Int32.ofInt 0))) ∧ ((p_X9_makes (f_X9_keeps_v9 (f_X9_lays m) ((Int32.ofInt 0))) a l w) ∧ ((((f_X9_makes (f_X9_keeps_v9 (f_X9_lays m) ((Int32.ofInt 0))) a l w).1) = 0 → ((p_X9_no ((f_X9_makes (f_X9_keeps_v9 (f_X9_lays m) ((Int32.ofInt 0))) a l w).2)) ∧ True)) ∧ (¬ (((f_X9_makes (f_X9_keeps_v9 (f_X9_lays m) ((Int32.ofInt 0))) a l w).1) = 0) → ((p_X9_remembers ((f_X9_makes (f_X9_keeps_v9 (f_X9_lays m) ((Int32.ofInt 0))) a l w).2)) ∧ True)))))))))
set_option maxHeartbeats 16000000 in
set_option maxRecDepth 20000 in
theorem s_X9_fold (m : Rec) (a : Int32) (l : Int32) (w : Int32) (hp : p_X9_fold m a l w) : Spec 5 0 0 mX9_fold [.ref 0, .int a, .int l, .int w] (wM m) (Ret (some (.int ((f_X9_fold m a l w).1))) (wM ((f_X9_fold m a l w).2))) := by
  obtain ⟨zq, hq⟩ : ∃ z, z = (f_X9_fold m a l w) := ⟨_, rfl⟩
  rw [← hq]
  unfold f_X9_fold at hq
  unfold p_X9_fold at hp
  refine Sof fun sc => ?_
  refine g_blk hz0 kX9_fold_0 ?_
  refine cS0 (s_X9_in (Int32.toInt64 a) ((Int64.ofNat 0)) ((Int64.ofNat 1))) rfl cwX9_in dX9_fold_4 rfl ?_
  refine g_blk hz0 kX9_fold_7 ?_
  refine ⟨fun c1 => ?_, fun c1 => ?_⟩
  · rw [if_pos (show (f_X9_in (Int32.toInt64 a) ((Int64.ofNat 0)) ((Int64.ofNat 1))) = 0 from c1)] at hq
    replace hp := hp.1 c1
    refine g_blk hz0 kX9_fold_20 ?_
    refine cV [0, 1, 2, 3, 4, 5, 6, 7, 8, 9, 10, 11, 12, 13, 14, 15, 16] (wM m) (s_X9_bad m hp.1) rfl cwX9_bad dX9_fold_21 rfl rfl (hm0_M_M _) ((len_M _).trans (len_M _).symm) (wM ((f_X9_bad m).2)) (pw0_M_M _ _) ?_
    replace hp := hp.2
    obtain ⟨g2, hg2⟩ : ∃ z, z = (f_X9_bad m) := ⟨_, rfl⟩
    try rw [← hg2] at hp
    try rw [← hg2] at hq
    rw [← hg2]
    refine g_blk hz0 kX9_fold_24 ?_
    subst hq
    exact ⟨fun h => (by cases h), rfl, rfl⟩
  · rw [if_neg (show ¬ ((f_X9_in (Int32.toInt64 a) ((Int64.ofNat 0)) ((Int64.ofNat 1))) = 0) from c1)] at hq
    replace hp := hp.2 c1
    refine g_blk hz0 kX9_fold_10 ?_
    refine cS0 (s_X9_in (Int32.toInt64 w) ((Int64.ofNat 0)) ((Int64.ofNat 1))) rfl cwX9_in dX9_fold_14 rfl ?_
    refine g_blk hz0 kX9_fold_17 ?_
    refine ⟨fun c3 => ?_, fun c3 => ?_⟩
    · rw [if_neg (show ¬ ((f_X9_in (Int32.toInt64 w) ((Int64.ofNat 0)) ((Int64.ofNat 1))) = 0) from c3)] at hq
      replace hp := hp.2 c3
      refine g_blk hz0 kX9_fold_25 ?_
      refine cV [0, 1, 2, 3, 4, 5, 6, 7, 8, 9, 10, 11, 12, 13, 14, 15, 16] (wM m) (s_X9_lays m hp.1) rfl cwX9_lays dX9_fold_26 rfl rfl (hm0_M_M _) ((len_M _).trans (len_M _).symm) (wM (f_X9_lays m)) (pw0_M_M _ _) ?_
      replace hp := hp.2
      obtain ⟨g5, hg5⟩ : ∃ z, z = (f_X9_lays m) := ⟨_, rfl⟩
      try rw [← hg5] at hp
      try rw [← hg5] at hq
      rw [← hg5]
      refine g_blk hz0 kX9_fold_29 ?_
      refine cV [0, 1, 2, 3, 4, 5, 6, 7, 8, 9, 10, 11, 12, 13, 14, 15, 16] (wM g5) (s_X9_keeps_v9 g5 ((Int32.ofInt 0)) hp.1) rfl cwX9_keeps dX9_fold_35 rfl rfl (hm0_M_M _) ((len_M _).trans (len_M _).symm) (wM (f_X9_keeps_v9 g5 ((Int32.ofInt 0)))) (pw0_M_M _ _) ?_
      replace hp := hp.2
      obtain ⟨g6, hg6⟩ : ∃ z, z = (f_X9_keeps_v9 g5 ((Int32.ofInt 0))) := ⟨_, rfl⟩
      try rw [← hg6] at hp
      try rw [← hg6] at hq
      rw [← hg6]
      refine g_blk hz0 kX9_fold_38 ?_
      refine cV [0, 1, 2, 3, 4, 5, 6, 7, 8, 9, 10, 11, 12, 13, 14, 15, 16] (wM g6) (s_X9_makes g6 a l w hp.1) rfl cwX9_makes dX9_fold_42 rfl rfl (hm0_M_M _) ((len_M _).trans (len_M _).symm) (wM ((f_X9_makes g6 a l w).2)) (pw0_M_M _ _) ?_
      replace hp := hp.2
      obtain ⟨g7, hg7⟩ : ∃ z, z = (f_X9_makes g6 a l w) := ⟨_, rfl⟩
      try rw [← hg7] at hp
      try rw [← hg7] at hq
      rw [← hg7]
      refine g_blk hz0 kX9_fold_45 ?_
      refine ⟨fun c8 => ?_, fun c8 => ?_⟩
      · rw [if_neg (show ¬ ((g7.1) = 0) from c8)] at hq
        replace hp := hp.2 c8
        refine g_blk hz0 kX9_fold_53 ?_
        refine cV [0, 1, 2, 3, 4, 5, 6, 7, 8, 9, 10, 11, 12, 13, 14, 15, 16] (wM (g7.2)) (s_X9_remembers (g7.2) hp.1) rfl cwX9_remembers dX9_fold_54 rfl rfl (hm0_M_M _) ((len_M _).trans (len_M _).symm) (wM (f_X9_remembers (g7.2))) (pw0_M_M _ _) ?_
        replace hp := hp.2
        obtain ⟨g10, hg10⟩ : ∃ z, z = (f_X9_remembers (g7.2)) := ⟨_, rfl⟩
        try rw [← hg10] at hp
        try rw [← hg10] at hq
        rw [← hg10]
        refine g_blk hz0 kX9_fold_57 ?_
        refine ⟨vinL (by decide), ?_⟩
        subst hq
        exact ⟨fun h => (by cases h), rfl, rfl⟩
      · rw [if_pos (show (g7.1) = 0 from c8)] at hq
        replace hp := hp.1 c8
        refine g_blk hz0 kX9_fold_48 ?_
        refine cV [0, 1, 2, 3, 4, 5, 6, 7, 8, 9, 10, 11, 12, 13, 14, 15, 16] (wM (g7.2)) (s_X9_no (g7.2) hp.1) rfl cwX9_no dX9_fold_49 rfl rfl (hm0_M_M _) ((len_M _).trans (len_M _).symm) (wM ((f_X9_no (g7.2)).2)) (pw0_M_M _ _) ?_
        replace hp := hp.2
        obtain ⟨g9, hg9⟩ : ∃ z, z = (f_X9_no (g7.2)) := ⟨_, rfl⟩
        try rw [← hg9] at hp
        try rw [← hg9] at hq
        rw [← hg9]
        refine g_blk hz0 kX9_fold_52 ?_
        subst hq
        exact ⟨fun h => (by cases h), rfl, rfl⟩
    · rw [if_pos (show (f_X9_in (Int32.toInt64 w) ((Int64.ofNat 0)) ((Int64.ofNat 1))) = 0 from c3)] at hq
      replace hp := hp.1 c3
      refine g_blk hz0 kX9_fold_20 ?_
      refine cV [0, 1, 2, 3, 4, 5, 6, 7, 8, 9, 10, 11, 12, 13, 14, 15, 16] (wM m) (s_X9_bad m hp.1) rfl cwX9_bad dX9_fold_21 rfl rfl (hm0_M_M _) ((len_M _).trans (len_M _).symm) (wM ((f_X9_bad m).2)) (pw0_M_M _ _) ?_
      replace hp := hp.2
      obtain ⟨g4, hg4⟩ : ∃ z, z = (f_X9_bad m) := ⟨_, rfl⟩
      try rw [← hg4] at hp
      try rw [← hg4] at hq
      rw [← hg4]
      refine g_blk hz0 kX9_fold_24 ?_
      subst hq
      exact ⟨fun h => (by cases h), rfl, rfl⟩
