set_option maxHeartbeats 16000000 in
theorem hm82_B_HP (c : Rec) (s : Rec) (p : Rec) (t : Rec) (e : Rec) (o : Rec) (oh : Rec) (h : Rec) (k : Rec) (q : Rec) (s1 : Rec) (p1 : Rec) (s2 : Rec) (p2 : Rec) (t1 : Rec) (t2 : Rec) : [31, 32, 33, 34, 35, 36, 37, 38, 39, 40, 41, 42, 43, 44, 45, 46, 1, 2, 3, 4, 5, 6, 7, 8, 9, 10, 11, 12].map (lk (wB c s p t e o oh h k q s1 p1 s2 p2 t1 t2)) = (wHP oh h s p).map (fun e => some (ren [31, 32, 33, 34, 35, 36, 37, 38, 39, 40, 41, 42, 43, 44, 45, 46, 1, 2, 3, 4, 5, 6, 7, 8, 9, 10, 11, 12] e)) := by
  simp only [List.map_cons, List.map_nil, lkB_31, lkB_32, lkB_33, lkB_34, lkB_35, lkB_36, lkB_37, lkB_38, lkB_39, lkB_40, lkB_41, lkB_42, lkB_43, lkB_44, lkB_45, lkB_46, lkB_1, lkB_2, lkB_3, lkB_4, lkB_5, lkB_6, lkB_7, lkB_8, lkB_9, lkB_10, lkB_11, lkB_12]
  unfold wHP
  simp only [List.map_cons, List.map_nil, renQ]
  rfl
set_option maxHeartbeats 16000000 in
theorem pw113_B_HP (c : Rec) (s : Rec) (p : Rec) (t : Rec) (e : Rec) (o : Rec) (oh : Rec) (h : Rec) (k : Rec) (q : Rec) (s1 : Rec) (p1 : Rec) (s2 : Rec) (p2 : Rec) (t1 : Rec) (t2 : Rec) (o9 : Rec) (h9 : Rec) (s9 : Rec) (p9 : Rec) : putW (wB c s p t e o oh h k q s1 p1 s2 p2 t1 t2) [31, 32, 33, 34, 35, 36, 37, 38, 39, 40, 41, 42, 43, 44, 45, 46, 1, 2, 3, 4, 5, 6, 7, 8, 9, 10, 11, 12] ((wHP o9 h9 s9 p9).map (ren [31, 32, 33, 34, 35, 36, 37, 38, 39, 40, 41, 42, 43, 44, 45, 46, 1, 2, 3, 4, 5, 6, 7, 8, 9, 10, 11, 12])) = (wB c s9 p9 t e o o9 h9 k q s1 p1 s2 p2 t1 t2) := by
  refine pw_gen (cp := [0, 13, 14, 15, 16, 17, 18, 19, 20, 21, 22, 23, 24, 25, 26, 27, 28, 29, 30, 47, 48, 49, 50, 51, 52, 53, 54, 55, 56, 57, 58, 59, 60, 61, 62, 63, 64, 65, 66, 67, 68, 69, 70, 71, 72, 73, 74, 75, 76, 77, 78, 79, 80, 81, 82, 83, 84, 85, 86, 87, 88, 89, 90, 91, 92, 93, 94, 95, 96, 97, 98, 99, 100, 101, 102, 103, 104, 105, 106, 107, 108, 109, 110, 111]) (len_B ..) (len_B ..) (by decide) (hm82_B_HP _ _ _ _ _ _ _ _ _ _ _ _ _ _ _ _) (by decide) ?_
  simp only [List.map_cons, List.map_nil, lkB_0, lkB_13, lkB_14, lkB_15, lkB_16, lkB_17, lkB_18, lkB_19, lkB_20, lkB_21, lkB_22, lkB_23, lkB_24, lkB_25, lkB_26, lkB_27, lkB_28, lkB_29, lkB_30, lkB_47, lkB_48, lkB_49, lkB_50, lkB_51, lkB_52, lkB_53, lkB_54, lkB_55, lkB_56, lkB_57, lkB_58, lkB_59, lkB_60, lkB_61, lkB_62, lkB_63, lkB_64, lkB_65, lkB_66, lkB_67, lkB_68, lkB_69, lkB_70, lkB_71, lkB_72, lkB_73, lkB_74, lkB_75, lkB_76, lkB_77, lkB_78, lkB_79, lkB_80, lkB_81, lkB_82, lkB_83, lkB_84, lkB_85, lkB_86, lkB_87, lkB_88, lkB_89, lkB_90, lkB_91, lkB_92, lkB_93, lkB_94, lkB_95, lkB_96, lkB_97, lkB_98, lkB_99, lkB_100, lkB_101, lkB_102, lkB_103, lkB_104, lkB_105, lkB_106, lkB_107, lkB_108, lkB_109, lkB_110, lkB_111] <;> rfl
set_option maxHeartbeats 16000000 in
set_option maxRecDepth 20000 in
theorem s_X8_wins (c : Rec) (s : Rec) (p : Rec) (t : Rec) (e : Rec) (o : Rec) (oh : Rec) (h : Rec) (k : Rec) (q : Rec) (s1 : Rec) (p1 : Rec) (s2 : Rec) (p2 : Rec) (t1 : Rec) (t2 : Rec) (n : Int32) (hp : p_X8_wins c s p t e o oh h k q s1 p1 s2 p2 t1 t2 n) : Spec 12 0 0 mX8_wins [.ref 0, .int n] (wB c s p t e o oh h k q s1 p1 s2 p2 t1 t2) (Ret (some (.int ((f_X8_wins c s p t e o oh h k q s1 p1 s2 p2 t1 t2 n).1))) (wB ((f_X8_wins c s p t e o oh h k q s1 p1 s2 p2 t1 t2 n).2.1) ((f_X8_wins c s p t e o oh h k q s1 p1 s2 p2 t1 t2 n).2.2.1) ((f_X8_wins c s p t e o oh h k q s1 p1 s2 p2 t1 t2 n).2.2.2.1) t e o ((f_X8_wins c s p t e o oh h k q s1 p1 s2 p2 t1 t2 n).2.2.2.2.1) ((f_X8_wins c s p t e o oh h k q s1 p1 s2 p2 t1 t2 n).2.2.2.2.2) k q s1 p1 s2 p2 t1 t2)) := by
  obtain ⟨zq, hq⟩ : ∃ z, z = (f_X8_wins c s p t e o oh h k q s1 p1 s2 p2 t1 t2 n) := ⟨_, rfl⟩
  rw [← hq]
  unfold f_X8_wins at hq
  unfold p_X8_wins at hp
  refine Sof fun sc => ?_
  refine g_blk hz0 kX8_wins_0 ?_
  refine cS0 (s_X8_within n ((Int32.ofInt 0)) ((Int32.ofInt 3))) rfl cwX8_within dX8_wins_3 rfl ?_
  refine g_blk hz0 kX8_wins_6 ?_
  refine ⟨fun c1 => ?_, fun c1 => ?_⟩
  · rw [if_neg (show ¬ ((f_X8_within n ((Int32.ofInt 0)) ((Int32.ofInt 3))) = 0) from c1)] at hq
    replace hp := hp.2 c1
    refine g_blk hz0 kX8_wins_16 ?_
    by_cases e3 : n = (Int32.ofInt 0)
    · rw [if_pos e3] at hq
      replace hp := hp.1 e3
      subst e3
      refine cV [31, 32, 33, 34, 35, 36, 37, 38, 39, 40, 41, 42, 43, 44, 45, 46, 1, 2, 3, 4, 5, 6, 7, 8, 9, 10, 11, 12] (wHP oh h s p) (s_X0_sureWithin_c0 oh h s p hp.1) rfl cwX0_sureWithin dX8_wins_25 rfl rfl (hm82_B_HP _ _ _ _ _ _ _ _ _ _ _ _ _ _ _ _) ((len_HP _ _ _ _).trans (len_HP _ _ _ _).symm) (wB c ((f_X0_sureWithin_c0 oh h s p).2.2.2.1) ((f_X0_sureWithin_c0 oh h s p).2.2.2.2) t e o ((f_X0_sureWithin_c0 oh h s p).2.1) ((f_X0_sureWithin_c0 oh h s p).2.2.1) k q s1 p1 s2 p2 t1 t2) (pw113_B_HP _ _ _ _ _ _ _ _ _ _ _ _ _ _ _ _ _ _ _ _) ?_
      replace hp := hp.2
      obtain ⟨g4, hg4⟩ : ∃ z, z = (f_X0_sureWithin_c0 oh h s p) := ⟨_, rfl⟩
      try rw [← hg4] at hp
      try rw [← hg4] at hq
      rw [← hg4]
      refine g_blk hz0 kX8_wins_28 ?_
      refine ⟨fun c5 => ?_, fun c5 => ?_⟩
      · rw [if_pos (show (g4.1) = 0 from c5)] at hq
        refine g_blk hz0 kX8_wins_35 ?_
        refine g_blk hz0 kX8_wins_36 ?_
        subst hq
        exact ⟨fun h => (by cases h), rfl, rfl⟩
      · rw [if_neg (show ¬ ((g4.1) = 0) from c5)] at hq
        refine g_blk hz0 kX8_wins_31 ?_
        refine g_blk hz0 kX8_wins_36 ?_
        subst hq
        exact ⟨fun h => (by cases h), rfl, rfl⟩
    · rw [if_neg e3] at hq
      replace hp := hp.2 e3
      by_cases e6 : n = (Int32.ofInt 1)
      · rw [if_pos e6] at hq
        replace hp := hp.1 e6
        subst e6
        refine cV [31, 32, 33, 34, 35, 36, 37, 38, 39, 40, 41, 42, 43, 44, 45, 46, 1, 2, 3, 4, 5, 6, 7, 8, 9, 10, 11, 12] (wHP oh h s p) (s_X0_sureWithin_c1 oh h s p hp.1) rfl cwX0_sureWithin dX8_wins_25 rfl rfl (hm82_B_HP _ _ _ _ _ _ _ _ _ _ _ _ _ _ _ _) ((len_HP _ _ _ _).trans (len_HP _ _ _ _).symm) (wB c ((f_X0_sureWithin_c1 oh h s p).2.2.2.1) ((f_X0_sureWithin_c1 oh h s p).2.2.2.2) t e o ((f_X0_sureWithin_c1 oh h s p).2.1) ((f_X0_sureWithin_c1 oh h s p).2.2.1) k q s1 p1 s2 p2 t1 t2) (pw113_B_HP _ _ _ _ _ _ _ _ _ _ _ _ _ _ _ _ _ _ _ _) ?_
        replace hp := hp.2
        obtain ⟨g7, hg7⟩ : ∃ z, z = (f_X0_sureWithin_c1 oh h s p) := ⟨_, rfl⟩
        try rw [← hg7] at hp
        try rw [← hg7] at hq
        rw [← hg7]
        refine g_blk hz0 kX8_wins_28 ?_
        refine ⟨fun c8 => ?_, fun c8 => ?_⟩
        · rw [if_pos (show (g7.1) = 0 from c8)] at hq
          refine g_blk hz0 kX8_wins_35 ?_
          refine g_blk hz0 kX8_wins_36 ?_
          subst hq
          exact ⟨fun h => (by cases h), rfl, rfl⟩
        · rw [if_neg (show ¬ ((g7.1) = 0) from c8)] at hq
          refine g_blk hz0 kX8_wins_31 ?_
          refine g_blk hz0 kX8_wins_36 ?_
          subst hq
          exact ⟨fun h => (by cases h), rfl, rfl⟩
      · rw [if_neg e6] at hq
        replace hp := hp.2 e6
        by_cases e9 : n = (Int32.ofInt 2)
        · rw [if_pos e9] at hq
          replace hp := hp.1 e9
          subst e9
          refine cV [31, 32, 33, 34, 35, 36, 37, 38, 39, 40, 41, 42, 43, 44, 45, 46, 1, 2, 3, 4, 5, 6, 7, 8, 9, 10, 11, 12] (wHP oh h s p) (s_X0_sureWithin_c2 oh h s p hp.1) rfl cwX0_sureWithin dX8_wins_25 rfl rfl (hm82_B_HP _ _ _ _ _ _ _ _ _ _ _ _ _ _ _ _) ((len_HP _ _ _ _).trans (len_HP _ _ _ _).symm) (wB c ((f_X0_sureWithin_c2 oh h s p).2.2.2.1) ((f_X0_sureWithin_c2 oh h s p).2.2.2.2) t e o ((f_X0_sureWithin_c2 oh h s p).2.1) ((f_X0_sureWithin_c2 oh h s p).2.2.1) k q s1 p1 s2 p2 t1 t2) (pw113_B_HP _ _ _ _ _ _ _ _ _ _ _ _ _ _ _ _ _ _ _ _) ?_
          replace hp := hp.2
          obtain ⟨g10, hg10⟩ : ∃ z, z = (f_X0_sureWithin_c2 oh h s p) := ⟨_, rfl⟩
          try rw [← hg10] at hp
          try rw [← hg10] at hq
          rw [← hg10]
          refine g_blk hz0 kX8_wins_28 ?_
          refine ⟨fun c11 => ?_, fun c11 => ?_⟩
          · rw [if_pos (show (g10.1) = 0 from c11)] at hq
            refine g_blk hz0 kX8_wins_35 ?_
            refine g_blk hz0 kX8_wins_36 ?_
            subst hq
            exact ⟨fun h => (by cases h), rfl, rfl⟩
          · rw [if_neg (show ¬ ((g10.1) = 0) from c11)] at hq
            refine g_blk hz0 kX8_wins_31 ?_
            refine g_blk hz0 kX8_wins_36 ?_
            subst hq
            exact ⟨fun h => (by cases h), rfl, rfl⟩
        · rw [if_neg e9] at hq
          replace hp := hp.2 e9
          by_cases e12 : n = (Int32.ofInt 3)
          · rw [if_pos e12] at hq
            replace hp := hp.1 e12
            subst e12
            refine cV [31, 32, 33, 34, 35, 36, 37, 38, 39, 40, 41, 42, 43, 44, 45, 46, 1, 2, 3, 4, 5, 6, 7, 8, 9, 10, 11, 12] (wHP oh h s p) (s_X0_sureWithin_c3 oh h s p hp.1) rfl cwX0_sureWithin dX8_wins_25 rfl rfl (hm82_B_HP _ _ _ _ _ _ _ _ _ _ _ _ _ _ _ _) ((len_HP _ _ _ _).trans (len_HP _ _ _ _).symm) (wB c ((f_X0_sureWithin_c3 oh h s p).2.2.2.1) ((f_X0_sureWithin_c3 oh h s p).2.2.2.2) t e o ((f_X0_sureWithin_c3 oh h s p).2.1) ((f_X0_sureWithin_c3 oh h s p).2.2.1) k q s1 p1 s2 p2 t1 t2) (pw113_B_HP _ _ _ _ _ _ _ _ _ _ _ _ _ _ _ _ _ _ _ _) ?_
            replace hp := hp.2
            obtain ⟨g13, hg13⟩ : ∃ z, z = (f_X0_sureWithin_c3 oh h s p) := ⟨_, rfl⟩
            try rw [← hg13] at hp
            try rw [← hg13] at hq
            rw [← hg13]
            refine g_blk hz0 kX8_wins_28 ?_
            refine ⟨fun c14 => ?_, fun c14 => ?_⟩
            · rw [if_pos (show (g13.1) = 0 from c14)] at hq
              refine g_blk hz0 kX8_wins_35 ?_
              refine g_blk hz0 kX8_wins_36 ?_
              subst hq
              exact ⟨fun h => (by cases h), rfl, rfl⟩
            · rw [if_neg (show ¬ ((g13.1) = 0) from c14)] at hq
              refine g_blk hz0 kX8_wins_31 ?_
              refine g_blk hz0 kX8_wins_36 ?_
              subst hq
              exact ⟨fun h => (by cases h), rfl, rfl⟩
          · rw [if_neg e12] at hq
            replace hp := hp.2 e12
            exact hp.elim
  · rw [if_pos (show (f_X8_within n ((Int32.ofInt 0)) ((Int32.ofInt 3))) = 0 from c1)] at hq
    refine g_blk hz0 kX8_wins_9 ?_
    refine cV [0, 1, 2, 3, 4, 5, 6, 7, 8, 9, 10, 11, 12, 13, 14, 15, 16, 17, 18, 19, 20, 21, 22, 23, 24, 25, 26, 27, 28, 29, 30, 31, 32, 33, 34, 35, 36, 37, 38, 39, 40, 41, 42, 43, 44, 45, 46, 47, 48, 49, 50, 51, 52, 53, 54, 55, 56, 57, 58, 59, 60, 61, 62, 63, 64, 65, 66, 67, 68, 69, 70, 71, 72, 73, 74, 75, 76, 77, 78, 79, 80, 81, 82, 83, 84, 85, 86, 87, 88, 89, 90, 91, 92, 93, 94, 95, 96, 97, 98, 99, 100, 101, 102, 103, 104, 105, 106, 107, 108, 109, 110, 111] (wB c s p t e o oh h k q s1 p1 s2 p2 t1 t2) (s_X8_refuseBad c s p t e o oh h k q s1 p1 s2 p2 t1 t2 ((Int32.ofInt (-2)))) rfl cwX8_refuseBad dX8_wins_12 rfl rfl (hm63_B_B _ _ _ _ _ _ _ _ _ _ _ _ _ _ _ _) ((len_B _ _ _ _ _ _ _ _ _ _ _ _ _ _ _ _).trans (len_B _ _ _ _ _ _ _ _ _ _ _ _ _ _ _ _).symm) (wB ((f_X8_refuseBad c s p t e o oh h k q s1 p1 s2 p2 t1 t2 ((Int32.ofInt (-2)))).2) s p t e o oh h k q s1 p1 s2 p2 t1 t2) (pw85_B_B _ _ _ _ _ _ _ _ _ _ _ _ _ _ _ _ _) ?_
    obtain ⟨g2, hg2⟩ : ∃ z, z = (f_X8_refuseBad c s p t e o oh h k q s1 p1 s2 p2 t1 t2 ((Int32.ofInt (-2)))) := ⟨_, rfl⟩
    try rw [← hg2] at hp
    try rw [← hg2] at hq
    rw [← hg2]
    refine g_blk hz0 kX8_wins_15 ?_
    subst hq
    exact ⟨fun h => (by cases h), rfl, rfl⟩
