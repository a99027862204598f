set_option maxHeartbeats 16000000 in
set_option maxRecDepth 20000 in
theorem s_X8_fold (c : Rec) (s : Rec) (p : Rec) (t : Rec) (e : Rec) (o : Rec) (oh : Rec) (h : Rec) (k : Rec) (q : Rec) (s1 : Rec) (p1 : Rec) (s2 : Rec) (p2 : Rec) (t1 : Rec) (t2 : Rec) (a : Int32) (l : Int32) (w : Int32) (hp : p_X8_fold c s p t e o oh h k q s1 p1 s2 p2 t1 t2 a l w) : Spec 3 0 0 mX8_fold [.ref 0, .int a, .int l, .int w] (wB c s p t e o oh h k q s1 p1 s2 p2 t1 t2) (Ret (some (.int ((f_X8_fold c s p t e o oh h k q s1 p1 s2 p2 t1 t2 a l w).1))) (wB ((f_X8_fold c s p t e o oh h k q s1 p1 s2 p2 t1 t2 a l w).2.1) ((f_X8_fold c s p t e o oh h k q s1 p1 s2 p2 t1 t2 a l w).2.2.1) ((f_X8_fold c s p t e o oh h k q s1 p1 s2 p2 t1 t2 a l w).2.2.2.1) ((f_X8_fold c s p t e o oh h k q s1 p1 s2 p2 t1 t2 a l w).2.2.2.2) e o oh h k q s1 p1 s2 p2 t1 t2)) := by
  obtain ⟨zq, hq⟩ : ∃ z, z = (f_X8_fold c s p t e o oh h k q s1 p1 s2 p2 t1 t2 a l w) := ⟨_, rfl⟩
  rw [← hq]
  unfold f_X8_fold at hq
  unfold p_X8_fold at hp
  refine Sof fun sc => ?_
  refine g_blk hz0 kX8_fold_0 ?_
  refine cS0 (s_X8_within a ((Int32.ofInt 0)) ((Int32.ofInt 1))) rfl cwX8_within dX8_fold_3 rfl ?_
  refine g_blk hz0 kX8_fold_6 ?_
  refine ⟨fun c1 => ?_, fun c1 => ?_⟩
  · rw [if_pos (show (f_X8_within a ((Int32.ofInt 0)) ((Int32.ofInt 1))) = 0 from c1)] at hq
    refine g_blk hz0 kX8_fold_18 ?_
    refine cV [0, 1, 2, 3, 4, 5, 6, 7, 8, 9, 10, 11, 12, 13, 14, 15, 16, 17, 18, 19, 20, 21, 22, 23, 24, 25, 26, 27, 28, 29, 30, 31, 32, 33, 34, 35, 36, 37, 38, 39, 40, 41, 42, 43, 44, 45, 46, 47, 48, 49, 50, 51, 52, 53, 54, 55, 56, 57, 58, 59, 60, 61, 62, 63, 64, 65, 66, 67, 68, 69, 70, 71, 72, 73, 74, 75, 76, 77, 78, 79, 80, 81, 82, 83, 84, 85, 86, 87, 88, 89, 90, 91, 92, 93, 94, 95, 96, 97, 98, 99, 100, 101, 102, 103, 104, 105, 106, 107, 108, 109, 110, 111] (wB c s p t e o oh h k q s1 p1 s2 p2 t1 t2) (s_X8_refuseBad c s p t e o oh h k q s1 p1 s2 p2 t1 t2 ((Int32.ofInt (-2)))) rfl cwX8_refuseBad dX8_fold_21 rfl rfl (hm63_B_B _ _ _ _ _ _ _ _ _ _ _ _ _ _ _ _) ((len_B _ _ _ _ _ _ _ _ _ _ _ _ _ _ _ _).trans (len_B _ _ _ _ _ _ _ _ _ _ _ _ _ _ _ _).symm) (wB ((f_X8_refuseBad c s p t e o oh h k q s1 p1 s2 p2 t1 t2 ((Int32.ofInt (-2)))).2) s p t e o oh h k q s1 p1 s2 p2 t1 t2) (pw85_B_B _ _ _ _ _ _ _ _ _ _ _ _ _ _ _ _ _) ?_
    obtain ⟨g2, hg2⟩ : ∃ z, z = (f_X8_refuseBad c s p t e o oh h k q s1 p1 s2 p2 t1 t2 ((Int32.ofInt (-2)))) := ⟨_, rfl⟩
    try rw [← hg2] at hp
    try rw [← hg2] at hq
    rw [← hg2]
    refine g_blk hz0 kX8_fold_24 ?_
    subst hq
    exact ⟨fun h => (by cases h), rfl, rfl⟩
  · rw [if_neg (show ¬ ((f_X8_within a ((Int32.ofInt 0)) ((Int32.ofInt 1))) = 0) from c1)] at hq
    replace hp := hp.2 c1
    refine g_blk hz0 kX8_fold_9 ?_
    refine cS0 (s_X8_within w ((Int32.ofInt 0)) ((Int32.ofInt 1))) rfl cwX8_within dX8_fold_12 rfl ?_
    refine g_blk hz0 kX8_fold_15 ?_
    refine ⟨fun c3 => ?_, fun c3 => ?_⟩
    · rw [if_neg (show ¬ ((f_X8_within w ((Int32.ofInt 0)) ((Int32.ofInt 1))) = 0) from c3)] at hq
      replace hp := hp.2 c3
      refine g_blk hz0 kX8_fold_25 ?_
      refine ⟨fun c5 => ?_, fun c5 => ?_⟩
      · rw [if_pos (show (p.1 7) = 0 from c5)] at hq
        refine g_blk hz0 kX8_fold_50 ?_
        refine cV [0, 1, 2, 3, 4, 5, 6, 7, 8, 9, 10, 11, 12, 13, 14, 15, 16, 17, 18, 19, 20, 21, 22, 23, 24, 25, 26, 27, 28, 29, 30, 31, 32, 33, 34, 35, 36, 37, 38, 39, 40, 41, 42, 43, 44, 45, 46, 47, 48, 49, 50, 51, 52, 53, 54, 55, 56, 57, 58, 59, 60, 61, 62, 63, 64, 65, 66, 67, 68, 69, 70, 71, 72, 73, 74, 75, 76, 77, 78, 79, 80, 81, 82, 83, 84, 85, 86, 87, 88, 89, 90, 91, 92, 93, 94, 95, 96, 97, 98, 99, 100, 101, 102, 103, 104, 105, 106, 107, 108, 109, 110, 111] (wB c s p t e o oh h k q s1 p1 s2 p2 t1 t2) (s_X8_refuseNo c s p t e o oh h k q s1 p1 s2 p2 t1 t2 ((Int32.ofInt (-3)))) rfl cwX8_refuseNo dX8_fold_53 rfl rfl (hm63_B_B _ _ _ _ _ _ _ _ _ _ _ _ _ _ _ _) ((len_B _ _ _ _ _ _ _ _ _ _ _ _ _ _ _ _).trans (len_B _ _ _ _ _ _ _ _ _ _ _ _ _ _ _ _).symm) (wB ((f_X8_refuseNo c s p t e o oh h k q s1 p1 s2 p2 t1 t2 ((Int32.ofInt (-3)))).2) s p t e o oh h k q s1 p1 s2 p2 t1 t2) (pw85_B_B _ _ _ _ _ _ _ _ _ _ _ _ _ _ _ _ _) ?_
        obtain ⟨g6, hg6⟩ : ∃ z, z = (f_X8_refuseNo c s p t e o oh h k q s1 p1 s2 p2 t1 t2 ((Int32.ofInt (-3)))) := ⟨_, rfl⟩
        try rw [← hg6] at hp
        try rw [← hg6] at hq
        rw [← hg6]
        refine g_blk hz0 kX8_fold_56 ?_
        subst hq
        exact ⟨fun h => (by cases h), rfl, rfl⟩
      · rw [if_neg (show ¬ ((p.1 7) = 0) from c5)] at hq
        replace hp := hp.2 c5
        refine g_blk hz0 kX8_fold_35 ?_
        refine cVp [2, 3, 4, 5, 6, 7, 8] (wS s) (s_X4_mayCrease s a l) rfl cwX4_mayCrease dX8_fold_44 rfl rfl (hm67_B_S _ _ _ _ _ _ _ _ _ _ _ _ _ _ _ _) ?_
        refine g_blk hz0 kX8_fold_47 ?_
        refine ⟨fun c7 => ?_, fun c7 => ?_⟩
        · rw [if_neg (show ¬ ((f_X4_mayCrease s a l) = 0) from c7)] at hq
          replace hp := hp.2 c7
          refine g_blk hz0 kX8_fold_57 ?_
          refine cV [13, 14, 15, 16, 17, 18, 19, 20, 21, 22, 1, 2, 3, 4, 5, 6, 7, 8, 9, 10, 11, 12] (wTP t s p) (s_X2_keep t s p hp.1) rfl cwX2_keep dX8_fold_65 rfl rfl (hm68_B_TP _ _ _ _ _ _ _ _ _ _ _ _ _ _ _ _) ((len_TP _ _ _).trans (len_TP _ _ _).symm) (wB c s p (f_X2_keep t s p) e o oh h k q s1 p1 s2 p2 t1 t2) (pw93_B_TP _ _ _ _ _ _ _ _ _ _ _ _ _ _ _ _ _) ?_
          replace hp := hp.2
          obtain ⟨g9, hg9⟩ : ∃ z, z = (f_X2_keep t s p) := ⟨_, rfl⟩
          try rw [← hg9] at hp
          try rw [← hg9] at hq
          rw [← hg9]
          refine g_blk hz0 kX8_fold_68 ?_
          refine cV [1, 2, 3, 4, 5, 6, 7, 8, 9, 10, 11, 12] (wP s p) (s_X3_creaseDue s p a l w hp.1) rfl cwX3_creaseDue dX8_fold_75 rfl rfl (hm64_B_P _ _ _ _ _ _ _ _ _ _ _ _ _ _ _ _) ((len_P _ _).trans (len_P _ _).symm) (wB c ((f_X3_creaseDue s p a l w).1) ((f_X3_creaseDue s p a l w).2) g9 e o oh h k q s1 p1 s2 p2 t1 t2) (pw86_B_P _ _ _ _ _ _ _ _ _ _ _ _ _ _ _ _ _ _) ?_
          replace hp := hp.2
          obtain ⟨g10, hg10⟩ : ∃ z, z = (f_X3_creaseDue s p a l w) := ⟨_, rfl⟩
          try rw [← hg10] at hp
          try rw [← hg10] at hq
          rw [← hg10]
          refine g_blk hz0 kX8_fold_78 ?_
          subst hq
          exact ⟨fun h => (by cases h), rfl, rfl⟩
        · rw [if_pos (show (f_X4_mayCrease s a l) = 0 from c7)] at hq
          refine g_blk hz0 kX8_fold_50 ?_
          refine cV [0, 1, 2, 3, 4, 5, 6, 7, 8, 9, 10, 11, 12, 13, 14, 15, 16, 17, 18, 19, 20, 21, 22, 23, 24, 25, 26, 27, 28, 29, 30, 31, 32, 33, 34, 35, 36, 37, 38, 39, 40, 41, 42, 43, 44, 45, 46, 47, 48, 49, 50, 51, 52, 53, 54, 55, 56, 57, 58, 59, 60, 61, 62, 63, 64, 65, 66, 67, 68, 69, 70, 71, 72, 73, 74, 75, 76, 77, 78, 79, 80, 81, 82, 83, 84, 85, 86, 87, 88, 89, 90, 91, 92, 93, 94, 95, 96, 97, 98, 99, 100, 101, 102, 103, 104, 105, 106, 107, 108, 109, 110, 111] (wB c s p t e o oh h k q s1 p1 s2 p2 t1 t2) (s_X8_refuseNo c s p t e o oh h k q s1 p1 s2 p2 t1 t2 ((Int32.ofInt (-3)))) rfl cwX8_refuseNo dX8_fold_53 rfl rfl (hm63_B_B _ _ _ _ _ _ _ _ _ _ _ _ _ _ _ _) ((len_B _ _ _ _ _ _ _ _ _ _ _ _ _ _ _ _).trans (len_B _ _ _ _ _ _ _ _ _ _ _ _ _ _ _ _).symm) (wB ((f_X8_refuseNo c s p t e o oh h k q s1 p1 s2 p2 t1 t2 ((Int32.ofInt (-3)))).2) s p t e o oh h k q s1 p1 s2 p2 t1 t2) (pw85_B_B _ _ _ _ _ _ _ _ _ _ _ _ _ _ _ _ _) ?_
          obtain ⟨g8, hg8⟩ : ∃ z, z = (f_X8_refuseNo c s p t e o oh h k q s1 p1 s2 p2 t1 t2 ((Int32.ofInt (-3)))) := ⟨_, rfl⟩
          try rw [← hg8] at hp
          try rw [← hg8] at hq
          rw [← hg8]
          refine g_blk hz0 kX8_fold_56 ?_
          subst hq
          exact ⟨fun h => (by cases h), rfl, rfl⟩
    · rw [if_pos (show (f_X8_within w ((Int32.ofInt 0)) ((Int32.ofInt 1))) = 0 from c3)] at hq
      refine g_blk hz0 kX8_fold_18 ?_
      refine cV [0, 1, 2, 3, 4, 5, 6, 7, 8, 9, 10, 11, 12, 13, 14, 15, 16, 17, 18, 19, 20, 21, 22, 23, 24, 25, 26, 27, 28, 29, 30, 31, 32, 33, 34, 35, 36, 37, 38, 39, 40, 41, 42, 43, 44, 45, 46, 47, 48, 49, 50, 51, 52, 53, 54, 55, 56, 57, 58, 59, 60, 61, 62, 63, 64, 65, 66, 67, 68, 69, 70, 71, 72, 73, 74, 75, 76, 77, 78, 79, 80, 81, 82, 83, 84, 85, 86, 87, 88, 89, 90, 91, 92, 93, 94, 95, 96, 97, 98, 99, 100, 101, 102, 103, 104, 105, 106, 107, 108, 109, 110, 111] (wB c s p t e o oh h k q s1 p1 s2 p2 t1 t2) (s_X8_refuseBad c s p t e o oh h k q s1 p1 s2 p2 t1 t2 ((Int32.ofInt (-2)))) rfl cwX8_refuseBad dX8_fold_21 rfl rfl (hm63_B_B _ _ _ _ _ _ _ _ _ _ _ _ _ _ _ _) ((len_B _ _ _ _ _ _ _ _ _ _ _ _ _ _ _ _).trans (len_B _ _ _ _ _ _ _ _ _ _ _ _ _ _ _ _).symm) (wB ((f_X8_refuseBad c s p t e o oh h k q s1 p1 s2 p2 t1 t2 ((Int32.ofInt (-2)))).2) s p t e o oh h k q s1 p1 s2 p2 t1 t2) (pw85_B_B _ _ _ _ _ _ _ _ _ _ _ _ _ _ _ _ _) ?_
      obtain ⟨g4, hg4⟩ : ∃ z, z = (f_X8_refuseBad c s p t e o oh h k q s1 p1 s2 p2 t1 t2 ((Int32.ofInt (-2)))) := ⟨_, rfl⟩
      try rw [← hg4] at hp
      try rw [← hg4] at hq
      rw [← hg4]
      refine g_blk hz0 kX8_fold_24 ?_
      subst hq
      exact ⟨fun h => (by cases h), rfl, rfl⟩
