set_option maxHeartbeats 16000000 in
theorem hm68_B_TP (c : Rec) (s : Rec) (p : Rec) (t : Rec) (e : Rec) (o : Rec) (oh : Rec) (h : Rec) (k : Rec) (q : Rec) (s1 : Rec) (p1 : Rec) (s2 : Rec) (p2 : Rec) (t1 : Rec) (t2 : Rec) : [13, 14, 15, 16, 17, 18, 19, 20, 21, 22, 1, 2, 3, 4, 5, 6, 7, 8, 9, 10, 11, 12].map (lk (wB c s p t e o oh h k q s1 p1 s2 p2 t1 t2)) = (wTP t s p).map (fun e => some (ren [13, 14, 15, 16, 17, 18, 19, 20, 21, 22, 1, 2, 3, 4, 5, 6, 7, 8, 9, 10, 11, 12] e)) := by
  simp only [List.map_cons, List.map_nil, lkB_13, lkB_14, lkB_15, lkB_16, lkB_17, lkB_18, lkB_19, lkB_20, lkB_21, lkB_22, lkB_1, lkB_2, lkB_3, lkB_4, lkB_5, lkB_6, lkB_7, lkB_8, lkB_9, lkB_10, lkB_11, lkB_12]
  unfold wTP
  simp only [List.map_cons, List.map_nil, renQ]
  rfl
set_option maxHeartbeats 16000000 in
theorem pw93_B_TP (c : Rec) (s : Rec) (p : Rec) (t : Rec) (e : Rec) (o : Rec) (oh : Rec) (h : Rec) (k : Rec) (q : Rec) (s1 : Rec) (p1 : Rec) (s2 : Rec) (p2 : Rec) (t1 : Rec) (t2 : Rec) (t9 : Rec) : putW (wB c s p t e o oh h k q s1 p1 s2 p2 t1 t2) [13, 14, 15, 16, 17, 18, 19, 20, 21, 22, 1, 2, 3, 4, 5, 6, 7, 8, 9, 10, 11, 12] ((wTP t9 s p).map (ren [13, 14, 15, 16, 17, 18, 19, 20, 21, 22, 1, 2, 3, 4, 5, 6, 7, 8, 9, 10, 11, 12])) = (wB c s p t9 e o oh h k q s1 p1 s2 p2 t1 t2) := by
  refine pw_gen (cp := [0, 23, 24, 25, 26, 27, 28, 29, 30, 31, 32, 33, 34, 35, 36, 37, 38, 39, 40, 41, 42, 43, 44, 45, 46, 47, 48, 49, 50, 51, 52, 53, 54, 55, 56, 57, 58, 59, 60, 61, 62, 63, 64, 65, 66, 67, 68, 69, 70, 71, 72, 73, 74, 75, 76, 77, 78, 79, 80, 81, 82, 83, 84, 85, 86, 87, 88, 89, 90, 91, 92, 93, 94, 95, 96, 97, 98, 99, 100, 101, 102, 103, 104, 105, 106, 107, 108, 109, 110, 111]) (len_B ..) (len_B ..) (by decide) (hm68_B_TP _ _ _ _ _ _ _ _ _ _ _ _ _ _ _ _) (by decide) ?_
  simp only [List.map_cons, List.map_nil, lkB_0, lkB_23, lkB_24, lkB_25, lkB_26, lkB_27, lkB_28, lkB_29, lkB_30, lkB_31, lkB_32, lkB_33, lkB_34, lkB_35, lkB_36, lkB_37, lkB_38, lkB_39, lkB_40, lkB_41, lkB_42, lkB_43, lkB_44, lkB_45, lkB_46, lkB_47, lkB_48, lkB_49, lkB_50, lkB_51, lkB_52, lkB_53, lkB_54, lkB_55, lkB_56, lkB_57, lkB_58, lkB_59, lkB_60, lkB_61, lkB_62, lkB_63, lkB_64, lkB_65, lkB_66, lkB_67, lkB_68, lkB_69, lkB_70, lkB_71, lkB_72, lkB_73, lkB_74, lkB_75, lkB_76, lkB_77, lkB_78, lkB_79, lkB_80, lkB_81, lkB_82, lkB_83, lkB_84, lkB_85, lkB_86, lkB_87, lkB_88, lkB_89, lkB_90, lkB_91, lkB_92, lkB_93, lkB_94, lkB_95, lkB_96, lkB_97, lkB_98, lkB_99, lkB_100, lkB_101, lkB_102, lkB_103, lkB_104, lkB_105, lkB_106, lkB_107, lkB_108, lkB_109, lkB_110, lkB_111] <;> rfl
set_option maxHeartbeats 16000000 in
set_option maxRecDepth 20000 in
theorem s_X8_step (c : Rec) (s : Rec) (p : Rec) (t : Rec) (e : Rec) (o : Rec) (oh : Rec) (h : Rec) (k : Rec) (q : Rec) (s1 : Rec) (p1 : Rec) (s2 : Rec) (p2 : Rec) (t1 : Rec) (t2 : Rec) (x : Int32) (y : Int32) (w : Int32) (d : Int32) (hp : p_X8_step c s p t e o oh h k q s1 p1 s2 p2 t1 t2 x y w d) : Spec 4 0 0 mX8_step [.ref 0, .int x, .int y, .int w, .int d] (wB c s p t e o oh h k q s1 p1 s2 p2 t1 t2) (Ret (some (.int ((f_X8_step c s p t e o oh h k q s1 p1 s2 p2 t1 t2 x y w d).1))) (wB ((f_X8_step c s p t e o oh h k q s1 p1 s2 p2 t1 t2 x y w d).2.1) ((f_X8_step c s p t e o oh h k q s1 p1 s2 p2 t1 t2 x y w d).2.2.1) ((f_X8_step c s p t e o oh h k q s1 p1 s2 p2 t1 t2 x y w d).2.2.2.1) ((f_X8_step c s p t e o oh h k q s1 p1 s2 p2 t1 t2 x y w d).2.2.2.2) e o oh h k q s1 p1 s2 p2 t1 t2)) := by
  obtain ⟨zq, hq⟩ : ∃ z, z = (f_X8_step c s p t e o oh h k q s1 p1 s2 p2 t1 t2 x y w d) := ⟨_, rfl⟩
  rw [← hq]
  unfold f_X8_step at hq
  unfold p_X8_step at hp
  refine Sof fun sc => ?_
  refine g_blk hz0 kX8_step_0 ?_
  refine cS0 (s_X8_within w ((Int32.ofInt 0)) ((Int32.ofInt 3))) rfl cwX8_within dX8_step_3 rfl ?_
  refine g_blk hz0 kX8_step_6 ?_
  refine ⟨fun c1 => ?_, fun c1 => ?_⟩
  · rw [if_pos (show (f_X8_within w ((Int32.ofInt 0)) ((Int32.ofInt 3))) = 0 from c1)] at hq
    refine g_blk hz0 kX8_step_19 ?_
    refine cV [0, 1, 2, 3, 4, 5, 6, 7, 8, 9, 10, 11, 12, 13, 14, 15, 16, 17, 18, 19, 20, 21, 22, 23, 24, 25, 26, 27, 28, 29, 30, 31, 32, 33, 34, 35, 36, 37, 38, 39, 40, 41, 42, 43, 44, 45, 46, 47, 48, 49, 50, 51, 52, 53, 54, 55, 56, 57, 58, 59, 60, 61, 62, 63, 64, 65, 66, 67, 68, 69, 70, 71, 72, 73, 74, 75, 76, 77, 78, 79, 80, 81, 82, 83, 84, 85, 86, 87, 88, 89, 90, 91, 92, 93, 94, 95, 96, 97, 98, 99, 100, 101, 102, 103, 104, 105, 106, 107, 108, 109, 110, 111] (wB c s p t e o oh h k q s1 p1 s2 p2 t1 t2) (s_X8_refuseBad c s p t e o oh h k q s1 p1 s2 p2 t1 t2 ((Int32.ofInt (-10)))) rfl cwX8_refuseBad dX8_step_22 rfl rfl (hm63_B_B _ _ _ _ _ _ _ _ _ _ _ _ _ _ _ _) ((len_B _ _ _ _ _ _ _ _ _ _ _ _ _ _ _ _).trans (len_B _ _ _ _ _ _ _ _ _ _ _ _ _ _ _ _).symm) (wB ((f_X8_refuseBad c s p t e o oh h k q s1 p1 s2 p2 t1 t2 ((Int32.ofInt (-10)))).2) s p t e o oh h k q s1 p1 s2 p2 t1 t2) (pw85_B_B _ _ _ _ _ _ _ _ _ _ _ _ _ _ _ _ _) ?_
    obtain ⟨g2, hg2⟩ : ∃ z, z = (f_X8_refuseBad c s p t e o oh h k q s1 p1 s2 p2 t1 t2 ((Int32.ofInt (-10)))) := ⟨_, rfl⟩
    try rw [← hg2] at hp
    try rw [← hg2] at hq
    rw [← hg2]
    refine g_blk hz0 kX8_step_25 ?_
    subst hq
    exact ⟨fun h => (by cases h), rfl, rfl⟩
  · rw [if_neg (show ¬ ((f_X8_within w ((Int32.ofInt 0)) ((Int32.ofInt 3))) = 0) from c1)] at hq
    replace hp := hp.2 c1
    refine g_blk hz0 kX8_step_9 ?_
    refine cS0 (s_X8_within d ((Int32.ofInt 1)) ((Int32.ofInt 2))) rfl cwX8_within dX8_step_13 rfl ?_
    refine g_blk hz0 kX8_step_16 ?_
    refine ⟨fun c3 => ?_, fun c3 => ?_⟩
    · rw [if_neg (show ¬ ((f_X8_within d ((Int32.ofInt 1)) ((Int32.ofInt 2))) = 0) from c3)] at hq
      replace hp := hp.2 c3
      refine g_blk hz0 kX8_step_26 ?_
      refine cVp [1, 2, 3, 4, 5, 6, 7, 8, 9, 10, 11, 12] (wP s p) (s_X3_goalOf s p x y w d hp.1) rfl cwX3_goalOf dX8_step_35 rfl rfl (hm64_B_P _ _ _ _ _ _ _ _ _ _ _ _ _ _ _ _) ?_
      replace hp := hp.2
      refine g_blk hz0 kX8_step_38 ?_
      refine ⟨fun c5 => ?_, fun c5 => ?_⟩
      · rw [if_neg (show ¬ ((f_X3_goalOf s p x y w d) = (Int32.ofInt (-1))) from c5)] at hq
        replace hp := hp.2 c5
        refine g_blk hz0 kX8_step_53 ?_
        refine cV [13, 14, 15, 16, 17, 18, 19, 20, 21, 22, 1, 2, 3, 4, 5, 6, 7, 8, 9, 10, 11, 12] (wTP t s p) (s_X2_keep t s p hp.1) rfl cwX2_keep dX8_step_61 rfl rfl (hm68_B_TP _ _ _ _ _ _ _ _ _ _ _ _ _ _ _ _) ((len_TP _ _ _).trans (len_TP _ _ _).symm) (wB c s p (f_X2_keep t s p) e o oh h k q s1 p1 s2 p2 t1 t2) (pw93_B_TP _ _ _ _ _ _ _ _ _ _ _ _ _ _ _ _ _) ?_
        replace hp := hp.2
        obtain ⟨g7, hg7⟩ : ∃ z, z = (f_X2_keep t s p) := ⟨_, rfl⟩
        try rw [← hg7] at hp
        try rw [← hg7] at hq
        rw [← hg7]
        refine g_blk hz0 kX8_step_64 ?_
        refine cVp [1, 2, 3, 4, 5, 6, 7, 8, 9, 10, 11, 12] (wP s p) (s_X3_rulerAt s p x y hp.1) rfl cwX3_rulerAt dX8_step_74 rfl rfl (hm64_B_P _ _ _ _ _ _ _ _ _ _ _ _ _ _ _ _) ?_
        replace hp := hp.2
        refine g_blk hz0 kX8_step_77 ?_
        refine cV [1, 2, 3, 4, 5, 6, 7, 8, 9, 10, 11, 12] (wP s p) (s_X3_carry s p (f_X3_rulerAt s p x y) (f_X3_goalOf s p x y w d) hp.1) rfl cwX3_carry dX8_step_79 rfl rfl (hm64_B_P _ _ _ _ _ _ _ _ _ _ _ _ _ _ _ _) ((len_P _ _).trans (len_P _ _).symm) (wB c ((f_X3_carry s p (f_X3_rulerAt s p x y) (f_X3_goalOf s p x y w d)).2.1) ((f_X3_carry s p (f_X3_rulerAt s p x y) (f_X3_goalOf s p x y w d)).2.2) g7 e o oh h k q s1 p1 s2 p2 t1 t2) (pw86_B_P _ _ _ _ _ _ _ _ _ _ _ _ _ _ _ _ _ _) ?_
        replace hp := hp.2
        obtain ⟨g8, hg8⟩ : ∃ z, z = (f_X3_carry s p (f_X3_rulerAt s p x y) (f_X3_goalOf s p x y w d)) := ⟨_, rfl⟩
        try rw [← hg8] at hp
        try rw [← hg8] at hq
        rw [← hg8]
        refine g_blk hz0 kX8_step_82 ?_
        subst hq
        exact ⟨fun h => (by cases h), rfl, rfl⟩
      · rw [if_pos (show (f_X3_goalOf s p x y w d) = (Int32.ofInt (-1)) from c5)] at hq
        refine g_blk hz0 kX8_step_46 ?_
        refine cV [0, 1, 2, 3, 4, 5, 6, 7, 8, 9, 10, 11, 12, 13, 14, 15, 16, 17, 18, 19, 20, 21, 22, 23, 24, 25, 26, 27, 28, 29, 30, 31, 32, 33, 34, 35, 36, 37, 38, 39, 40, 41, 42, 43, 44, 45, 46, 47, 48, 49, 50, 51, 52, 53, 54, 55, 56, 57, 58, 59, 60, 61, 62, 63, 64, 65, 66, 67, 68, 69, 70, 71, 72, 73, 74, 75, 76, 77, 78, 79, 80, 81, 82, 83, 84, 85, 86, 87, 88, 89, 90, 91, 92, 93, 94, 95, 96, 97, 98, 99, 100, 101, 102, 103, 104, 105, 106, 107, 108, 109, 110, 111] (wB c s p t e o oh h k q s1 p1 s2 p2 t1 t2) (s_X8_refuseNo c s p t e o oh h k q s1 p1 s2 p2 t1 t2 ((Int32.ofInt (-20)))) rfl cwX8_refuseNo dX8_step_49 rfl rfl (hm63_B_B _ _ _ _ _ _ _ _ _ _ _ _ _ _ _ _) ((len_B _ _ _ _ _ _ _ _ _ _ _ _ _ _ _ _).trans (len_B _ _ _ _ _ _ _ _ _ _ _ _ _ _ _ _).symm) (wB ((f_X8_refuseNo c s p t e o oh h k q s1 p1 s2 p2 t1 t2 ((Int32.ofInt (-20)))).2) s p t e o oh h k q s1 p1 s2 p2 t1 t2) (pw85_B_B _ _ _ _ _ _ _ _ _ _ _ _ _ _ _ _ _) ?_
        obtain ⟨g6, hg6⟩ : ∃ z, z = (f_X8_refuseNo c s p t e o oh h k q s1 p1 s2 p2 t1 t2 ((Int32.ofInt (-20)))) := ⟨_, rfl⟩
        try rw [← hg6] at hp
        try rw [← hg6] at hq
        rw [← hg6]
        refine g_blk hz0 kX8_step_52 ?_
        subst hq
        exact ⟨fun h => (by cases h), rfl, rfl⟩
    · rw [if_pos (show (f_X8_within d ((Int32.ofInt 1)) ((Int32.ofInt 2))) = 0 from c3)] at hq
      refine g_blk hz0 kX8_step_19 ?_
      refine cV [0, 1, 2, 3, 4, 5, 6, 7, 8, 9, 10, 11, 12, 13, 14, 15, 16, 17, 18, 19, 20, 21, 22, 23, 24, 25, 26, 27, 28, 29, 30, 31, 32, 33, 34, 35, 36, 37, 38, 39, 40, 41, 42, 43, 44, 45, 46, 47, 48, 49, 50, 51, 52, 53, 54, 55, 56, 57, 58, 59, 60, 61, 62, 63, 64, 65, 66, 67, 68, 69, 70, 71, 72, 73, 74, 75, 76, 77, 78, 79, 80, 81, 82, 83, 84, 85, 86, 87, 88, 89, 90, 91, 92, 93, 94, 95, 96, 97, 98, 99, 100, 101, 102, 103, 104, 105, 106, 107, 108, 109, 110, 111] (wB c s p t e o oh h k q s1 p1 s2 p2 t1 t2) (s_X8_refuseBad c s p t e o oh h k q s1 p1 s2 p2 t1 t2 ((Int32.ofInt (-10)))) rfl cwX8_refuseBad dX8_step_22 rfl rfl (hm63_B_B _ _ _ _ _ _ _ _ _ _ _ _ _ _ _ _) ((len_B _ _ _ _ _ _ _ _ _ _ _ _ _ _ _ _).trans (len_B _ _ _ _ _ _ _ _ _ _ _ _ _ _ _ _).symm) (wB ((f_X8_refuseBad c s p t e o oh h k q s1 p1 s2 p2 t1 t2 ((Int32.ofInt (-10)))).2) s p t e o oh h k q s1 p1 s2 p2 t1 t2) (pw85_B_B _ _ _ _ _ _ _ _ _ _ _ _ _ _ _ _ _) ?_
      obtain ⟨g4, hg4⟩ : ∃ z, z = (f_X8_refuseBad c s p t e o oh h k q s1 p1 s2 p2 t1 t2 ((Int32.ofInt (-10)))) := ⟨_, rfl⟩
      try rw [← hg4] at hp
      try rw [← hg4] at hq
      rw [← hg4]
      refine g_blk hz0 kX8_step_25 ?_
      subst hq
      exact ⟨fun h => (by cases h), rfl, rfl⟩
