set_option maxHeartbeats 16000000 in
theorem pw114_B_HP (c : Rec) (s : Rec) (p : Rec) (t : Rec) (e : Rec) (o : Rec) (oh : Rec) (h : Rec) (k : Rec) (q : Rec) (s1 : Rec) (p1 : Rec) (s2 : Rec) (p2 : Rec) (t1 : Rec) (t2 : Rec)  : putW (wB c s p t e o oh h k q s1 p1 s2 p2 t1 t2) [31, 32, 33, 34, 35, 36, 37, 38, 39, 40, 41, 42, 43, 44, 45, 46, 1, 2, 3, 4, 5, 6, 7, 8, 9, 10, 11, 12] ((wHP oh h s p).map (ren [31, 32, 33, 34, 35, 36, 37, 38, 39, 40, 41, 42, 43, 44, 45, 46, 1, 2, 3, 4, 5, 6, 7, 8, 9, 10, 11, 12])) = (wB c s p t e o oh h k q s1 p1 s2 p2 t1 t2) := by
  refine pw_gen (cp := [0, 13, 14, 15, 16, 17, 18, 19, 20, 21, 22, 23, 24, 25, 26, 27, 28, 29, 30, 47, 48, 49, 50, 51, 52, 53, 54, 55, 56, 57, 58, 59, 60, 61, 62, 63, 64, 65, 66, 67, 68, 69, 70, 71, 72, 73, 74, 75, 76, 77, 78, 79, 80, 81, 82, 83, 84, 85, 86, 87, 88, 89, 90, 91, 92, 93, 94, 95, 96, 97, 98, 99, 100, 101, 102, 103, 104, 105, 106, 107, 108, 109, 110, 111]) (len_B ..) (len_B ..) (by decide) (hm82_B_HP _ _ _ _ _ _ _ _ _ _ _ _ _ _ _ _) (by decide) ?_
  simp only [List.map_cons, List.map_nil, lkB_0, lkB_13, lkB_14, lkB_15, lkB_16, lkB_17, lkB_18, lkB_19, lkB_20, lkB_21, lkB_22, lkB_23, lkB_24, lkB_25, lkB_26, lkB_27, lkB_28, lkB_29, lkB_30, lkB_47, lkB_48, lkB_49, lkB_50, lkB_51, lkB_52, lkB_53, lkB_54, lkB_55, lkB_56, lkB_57, lkB_58, lkB_59, lkB_60, lkB_61, lkB_62, lkB_63, lkB_64, lkB_65, lkB_66, lkB_67, lkB_68, lkB_69, lkB_70, lkB_71, lkB_72, lkB_73, lkB_74, lkB_75, lkB_76, lkB_77, lkB_78, lkB_79, lkB_80, lkB_81, lkB_82, lkB_83, lkB_84, lkB_85, lkB_86, lkB_87, lkB_88, lkB_89, lkB_90, lkB_91, lkB_92, lkB_93, lkB_94, lkB_95, lkB_96, lkB_97, lkB_98, lkB_99, lkB_100, lkB_101, lkB_102, lkB_103, lkB_104, lkB_105, lkB_106, lkB_107, lkB_108, lkB_109, lkB_110, lkB_111] <;> rfl
set_option maxHeartbeats 16000000 in
set_option maxRecDepth 20000 in
theorem s_X8_best (c : Rec) (s : Rec) (p : Rec) (t : Rec) (e : Rec) (o : Rec) (oh : Rec) (h : Rec) (k : Rec) (q : Rec) (s1 : Rec) (p1 : Rec) (s2 : Rec) (p2 : Rec) (t1 : Rec) (t2 : Rec) (n : Int32) (hp : p_X8_best c s p t e o oh h k q s1 p1 s2 p2 t1 t2 n) : Spec 11 0 0 mX8_best [.ref 0, .int n] (wB c s p t e o oh h k q s1 p1 s2 p2 t1 t2) (Ret (some (.int ((f_X8_best c s p t e o oh h k q s1 p1 s2 p2 t1 t2 n).1))) (wB ((f_X8_best c s p t e o oh h k q s1 p1 s2 p2 t1 t2 n).2.1) ((f_X8_best c s p t e o oh h k q s1 p1 s2 p2 t1 t2 n).2.2.1) ((f_X8_best c s p t e o oh h k q s1 p1 s2 p2 t1 t2 n).2.2.2.1) t e o ((f_X8_best c s p t e o oh h k q s1 p1 s2 p2 t1 t2 n).2.2.2.2.1) ((f_X8_best c s p t e o oh h k q s1 p1 s2 p2 t1 t2 n).2.2.2.2.2) k q s1 p1 s2 p2 t1 t2)) := by
  obtain ⟨zq, hq⟩ : ∃ z, z = (f_X8_best c s p t e o oh h k q s1 p1 s2 p2 t1 t2 n) := ⟨_, rfl⟩
  rw [← hq]
  unfold f_X8_best at hq
  unfold p_X8_best at hp
  refine Sof fun sc => ?_
  refine g_blk hz0 kX8_best_0 ?_
  refine cS0 (s_X8_within n ((Int32.ofInt 0)) ((Int32.ofInt 3))) rfl cwX8_within dX8_best_3 rfl ?_
  refine g_blk hz0 kX8_best_6 ?_
  refine ⟨fun c1 => ?_, fun c1 => ?_⟩
  · rw [if_neg (show ¬ ((f_X8_within n ((Int32.ofInt 0)) ((Int32.ofInt 3))) = 0) from c1)] at hq
    replace hp := hp.2 c1
    refine g_blk hz0 kX8_best_16 ?_
    by_cases e3 : n = (Int32.ofInt 0)
    · rw [if_pos e3] at hq
      subst e3
      refine cVp [31, 32, 33, 34, 35, 36, 37, 38, 39, 40, 41, 42, 43, 44, 45, 46, 1, 2, 3, 4, 5, 6, 7, 8, 9, 10, 11, 12] (wHP oh h s p) (s_X0_firstSure_c0 oh h s p) rfl cwX0_firstSure dX8_best_25 rfl rfl (hm82_B_HP _ _ _ _ _ _ _ _ _ _ _ _ _ _ _ _) ?_
      refine g_blk hz0 kX8_best_28 ?_
      subst hq
      exact ⟨fun h => (by cases h), rfl, rfl⟩
    · rw [if_neg e3] at hq
      replace hp := hp.2 e3
      by_cases e4 : n = (Int32.ofInt 1)
      · rw [if_pos e4] at hq
        replace hp := hp.1 e4
        subst e4
        refine cV [31, 32, 33, 34, 35, 36, 37, 38, 39, 40, 41, 42, 43, 44, 45, 46, 1, 2, 3, 4, 5, 6, 7, 8, 9, 10, 11, 12] (wHP oh h s p) (s_X0_firstSure_c1 oh h s p hp.1) rfl cwX0_firstSure dX8_best_25 rfl rfl (hm82_B_HP _ _ _ _ _ _ _ _ _ _ _ _ _ _ _ _) ((len_HP _ _ _ _).trans (len_HP _ _ _ _).symm) (wB c ((f_X0_firstSure_c1 oh h s p).2.2.2.1) ((f_X0_firstSure_c1 oh h s p).2.2.2.2) t e o ((f_X0_firstSure_c1 oh h s p).2.1) ((f_X0_firstSure_c1 oh h s p).2.2.1) k q s1 p1 s2 p2 t1 t2) (pw113_B_HP _ _ _ _ _ _ _ _ _ _ _ _ _ _ _ _ _ _ _ _) ?_
        replace hp := hp.2
        obtain ⟨g5, hg5⟩ : ∃ z, z = (f_X0_firstSure_c1 oh h s p) := ⟨_, rfl⟩
        try rw [← hg5] at hp
        try rw [← hg5] at hq
        rw [← hg5]
        refine g_blk hz0 kX8_best_28 ?_
        subst hq
        exact ⟨fun h => (by cases h), rfl, rfl⟩
      · rw [if_neg e4] at hq
        replace hp := hp.2 e4
        by_cases e6 : n = (Int32.ofInt 2)
        · rw [if_pos e6] at hq
          replace hp := hp.1 e6
          subst e6
          refine cV [31, 32, 33, 34, 35, 36, 37, 38, 39, 40, 41, 42, 43, 44, 45, 46, 1, 2, 3, 4, 5, 6, 7, 8, 9, 10, 11, 12] (wHP oh h s p) (s_X0_firstSure_c2 oh h s p hp.1) rfl cwX0_firstSure dX8_best_25 rfl rfl (hm82_B_HP _ _ _ _ _ _ _ _ _ _ _ _ _ _ _ _) ((len_HP _ _ _ _).trans (len_HP _ _ _ _).symm) (wB c ((f_X0_firstSure_c2 oh h s p).2.2.2.1) ((f_X0_firstSure_c2 oh h s p).2.2.2.2) t e o ((f_X0_firstSure_c2 oh h s p).2.1) ((f_X0_firstSure_c2 oh h s p).2.2.1) k q s1 p1 s2 p2 t1 t2) (pw113_B_HP _ _ _ _ _ _ _ _ _ _ _ _ _ _ _ _ _ _ _ _) ?_
          replace hp := hp.2
          obtain ⟨g7, hg7⟩ : ∃ z, z = (f_X0_firstSure_c2 oh h s p) := ⟨_, rfl⟩
          try rw [← hg7] at hp
          try rw [← hg7] at hq
          rw [← hg7]
          refine g_blk hz0 kX8_best_28 ?_
          subst hq
          exact ⟨fun h => (by cases h), rfl, rfl⟩
        · rw [if_neg e6] at hq
          replace hp := hp.2 e6
          by_cases e8 : n = (Int32.ofInt 3)
          · rw [if_pos e8] at hq
            replace hp := hp.1 e8
            subst e8
            refine cV [31, 32, 33, 34, 35, 36, 37, 38, 39, 40, 41, 42, 43, 44, 45, 46, 1, 2, 3, 4, 5, 6, 7, 8, 9, 10, 11, 12] (wHP oh h s p) (s_X0_firstSure_c3 oh h s p hp.1) rfl cwX0_firstSure dX8_best_25 rfl rfl (hm82_B_HP _ _ _ _ _ _ _ _ _ _ _ _ _ _ _ _) ((len_HP _ _ _ _).trans (len_HP _ _ _ _).symm) (wB c ((f_X0_firstSure_c3 oh h s p).2.2.2.1) ((f_X0_firstSure_c3 oh h s p).2.2.2.2) t e o ((f_X0_firstSure_c3 oh h s p).2.1) ((f_X0_firstSure_c3 oh h s p).2.2.1) k q s1 p1 s2 p2 t1 t2) (pw113_B_HP _ _ _ _ _ _ _ _ _ _ _ _ _ _ _ _ _ _ _ _) ?_
            replace hp := hp.2
            obtain ⟨g9, hg9⟩ : ∃ z, z = (f_X0_firstSure_c3 oh h s p) := ⟨_, rfl⟩
            try rw [← hg9] at hp
            try rw [← hg9] at hq
            rw [← hg9]
            refine g_blk hz0 kX8_best_28 ?_
            subst hq
            exact ⟨fun h => (by cases h), rfl, rfl⟩
          · rw [if_neg e8] at hq
            replace hp := hp.2 e8
            exact hp.elim
  · rw [if_pos (show (f_X8_within n ((Int32.ofInt 0)) ((Int32.ofInt 3))) = 0 from c1)] at hq
    refine g_blk hz0 kX8_best_9 ?_
    refine cV [0, 1, 2, 3, 4, 5, 6, 7, 8, 9, 10, 11, 12, 13, 14, 15, 16, 17, 18, 19, 20, 21, 22, 23, 24, 25, 26, 27, 28, 29, 30, 31, 32, 33, 34, 35, 36, 37, 38, 39, 40, 41, 42, 43, 44, 45, 46, 47, 48, 49, 50, 51, 52, 53, 54, 55, 56, 57, 58, 59, 60, 61, 62, 63, 64, 65, 66, 67, 68, 69, 70, 71, 72, 73, 74, 75, 76, 77, 78, 79, 80, 81, 82, 83, 84, 85, 86, 87, 88, 89, 90, 91, 92, 93, 94, 95, 96, 97, 98, 99, 100, 101, 102, 103, 104, 105, 106, 107, 108, 109, 110, 111] (wB c s p t e o oh h k q s1 p1 s2 p2 t1 t2) (s_X8_refuseBad c s p t e o oh h k q s1 p1 s2 p2 t1 t2 ((Int32.ofInt (-2)))) rfl cwX8_refuseBad dX8_best_12 rfl rfl (hm63_B_B _ _ _ _ _ _ _ _ _ _ _ _ _ _ _ _) ((len_B _ _ _ _ _ _ _ _ _ _ _ _ _ _ _ _).trans (len_B _ _ _ _ _ _ _ _ _ _ _ _ _ _ _ _).symm) (wB ((f_X8_refuseBad c s p t e o oh h k q s1 p1 s2 p2 t1 t2 ((Int32.ofInt (-2)))).2) s p t e o oh h k q s1 p1 s2 p2 t1 t2) (pw85_B_B _ _ _ _ _ _ _ _ _ _ _ _ _ _ _ _ _) ?_
    obtain ⟨g2, hg2⟩ : ∃ z, z = (f_X8_refuseBad c s p t e o oh h k q s1 p1 s2 p2 t1 t2 ((Int32.ofInt (-2)))) := ⟨_, rfl⟩
    try rw [← hg2] at hp
    try rw [← hg2] at hq
    rw [← hg2]
    refine g_blk hz0 kX8_best_15 ?_
    subst hq
    exact ⟨fun h => (by cases h), rfl, rfl⟩
