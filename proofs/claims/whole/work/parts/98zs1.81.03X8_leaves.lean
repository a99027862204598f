set_option maxHeartbeats 16000000 in
theorem hm69_B_OP (c : Rec) (s : Rec) (p : Rec) (t : Rec) (e : Rec) (o : Rec) (oh : Rec) (h : Rec) (k : Rec) (q : Rec) (s1 : Rec) (p1 : Rec) (s2 : Rec) (p2 : Rec) (t1 : Rec) (t2 : Rec) : [26, 27, 28, 29, 30, 1, 2, 3, 4, 5, 6, 7, 8, 9, 10, 11, 12].map (lk (wB c s p t e o oh h k q s1 p1 s2 p2 t1 t2)) = (wOP o s p).map (fun e => some (ren [26, 27, 28, 29, 30, 1, 2, 3, 4, 5, 6, 7, 8, 9, 10, 11, 12] e)) := by
  simp only [List.map_cons, List.map_nil, lkB_26, lkB_27, lkB_28, lkB_29, lkB_30, lkB_1, lkB_2, lkB_3, lkB_4, lkB_5, lkB_6, lkB_7, lkB_8, lkB_9, lkB_10, lkB_11, lkB_12]
  unfold wOP
  rfl
set_option maxHeartbeats 16000000 in
theorem pw95_B_OP (c : Rec) (s : Rec) (p : Rec) (t : Rec) (e : Rec) (o : Rec) (oh : Rec) (h : Rec) (k : Rec) (q : Rec) (s1 : Rec) (p1 : Rec) (s2 : Rec) (p2 : Rec) (t1 : Rec) (t2 : Rec) (o9 : Rec) : putW (wB c s p t e o oh h k q s1 p1 s2 p2 t1 t2) [26, 27, 28, 29, 30, 1, 2, 3, 4, 5, 6, 7, 8, 9, 10, 11, 12] ((wOP o9 s p).map (ren [26, 27, 28, 29, 30, 1, 2, 3, 4, 5, 6, 7, 8, 9, 10, 11, 12])) = (wB c s p t e o9 oh h k q s1 p1 s2 p2 t1 t2) := by
  refine pw_gen (cp := [0, 13, 14, 15, 16, 17, 18, 19, 20, 21, 22, 23, 24, 25, 31, 32, 33, 34, 35, 36, 37, 38, 39, 40, 41, 42, 43, 44, 45, 46, 47, 48, 49, 50, 51, 52, 53, 54, 55, 56, 57, 58, 59, 60, 61, 62, 63, 64, 65, 66, 67, 68, 69, 70, 71, 72, 73, 74, 75, 76, 77, 78, 79, 80, 81, 82, 83, 84, 85, 86, 87, 88, 89, 90, 91, 92, 93, 94, 95, 96, 97, 98, 99, 100, 101, 102, 103, 104, 105, 106, 107, 108, 109, 110, 111]) (len_B ..) (len_B ..) (by decide) (hm69_B_OP _ _ _ _ _ _ _ _ _ _ _ _ _ _ _ _) (by decide) ?_
  simp only [List.map_cons, List.map_nil, lkB_0, lkB_13, lkB_14, lkB_15, lkB_16, lkB_17, lkB_18, lkB_19, lkB_20, lkB_21, lkB_22, lkB_23, lkB_24, lkB_25, lkB_31, lkB_32, lkB_33, lkB_34, lkB_35, lkB_36, lkB_37, lkB_38, lkB_39, lkB_40, lkB_41, lkB_42, lkB_43, lkB_44, lkB_45, lkB_46, lkB_47, lkB_48, lkB_49, lkB_50, lkB_51, lkB_52, lkB_53, lkB_54, lkB_55, lkB_56, lkB_57, lkB_58, lkB_59, lkB_60, lkB_61, lkB_62, lkB_63, lkB_64, lkB_65, lkB_66, lkB_67, lkB_68, lkB_69, lkB_70, lkB_71, lkB_72, lkB_73, lkB_74, lkB_75, lkB_76, lkB_77, lkB_78, lkB_79, lkB_80, lkB_81, lkB_82, lkB_83, lkB_84, lkB_85, lkB_86, lkB_87, lkB_88, lkB_89, lkB_90, lkB_91, lkB_92, lkB_93, lkB_94, lkB_95, lkB_96, lkB_97, lkB_98, lkB_99, lkB_100, lkB_101, lkB_102, lkB_103, lkB_104, lkB_105, lkB_106, lkB_107, lkB_108, lkB_109, lkB_110, lkB_111] <;> rfl
set_option maxHeartbeats 16000000 in
theorem pw96_B_OP (c : Rec) (s : Rec) (p : Rec) (t : Rec) (e : Rec) (o : Rec) (oh : Rec) (h : Rec) (k : Rec) (q : Rec) (s1 : Rec) (p1 : Rec) (s2 : Rec) (p2 : Rec) (t1 : Rec) (t2 : Rec)  : putW (wB c s p t e o oh h k q s1 p1 s2 p2 t1 t2) [26, 27, 28, 29, 30, 1, 2, 3, 4, 5, 6, 7, 8, 9, 10, 11, 12] ((wOP o s p).map (ren [26, 27, 28, 29, 30, 1, 2, 3, 4, 5, 6, 7, 8, 9, 10, 11, 12])) = (wB c s p t e o oh h k q s1 p1 s2 p2 t1 t2) := by
  refine pw_gen (cp := [0, 13, 14, 15, 16, 17, 18, 19, 20, 21, 22, 23, 24, 25, 31, 32, 33, 34, 35, 36, 37, 38, 39, 40, 41, 42, 43, 44, 45, 46, 47, 48, 49, 50, 51, 52, 53, 54, 55, 56, 57, 58, 59, 60, 61, 62, 63, 64, 65, 66, 67, 68, 69, 70, 71, 72, 73, 74, 75, 76, 77, 78, 79, 80, 81, 82, 83, 84, 85, 86, 87, 88, 89, 90, 91, 92, 93, 94, 95, 96, 97, 98, 99, 100, 101, 102, 103, 104, 105, 106, 107, 108, 109, 110, 111]) (len_B ..) (len_B ..) (by decide) (hm69_B_OP _ _ _ _ _ _ _ _ _ _ _ _ _ _ _ _) (by decide) ?_
  simp only [List.map_cons, List.map_nil, lkB_0, lkB_13, lkB_14, lkB_15, lkB_16, lkB_17, lkB_18, lkB_19, lkB_20, lkB_21, lkB_22, lkB_23, lkB_24, lkB_25, lkB_31, lkB_32, lkB_33, lkB_34, lkB_35, lkB_36, lkB_37, lkB_38, lkB_39, lkB_40, lkB_41, lkB_42, lkB_43, lkB_44, lkB_45, lkB_46, lkB_47, lkB_48, lkB_49, lkB_50, lkB_51, lkB_52, lkB_53, lkB_54, lkB_55, lkB_56, lkB_57, lkB_58, lkB_59, lkB_60, lkB_61, lkB_62, lkB_63, lkB_64, lkB_65, lkB_66, lkB_67, lkB_68, lkB_69, lkB_70, lkB_71, lkB_72, lkB_73, lkB_74, lkB_75, lkB_76, lkB_77, lkB_78, lkB_79, lkB_80, lkB_81, lkB_82, lkB_83, lkB_84, lkB_85, lkB_86, lkB_87, lkB_88, lkB_89, lkB_90, lkB_91, lkB_92, lkB_93, lkB_94, lkB_95, lkB_96, lkB_97, lkB_98, lkB_99, lkB_100, lkB_101, lkB_102, lkB_103, lkB_104, lkB_105, lkB_106, lkB_107, lkB_108, lkB_109, lkB_110, lkB_111] <;> rfl
set_option maxHeartbeats 16000000 in
set_option maxRecDepth 20000 in
theorem s_X8_leaves (c : Rec) (s : Rec) (p : Rec) (t : Rec) (e : Rec) (o : Rec) (oh : Rec) (h : Rec) (k : Rec) (q : Rec) (s1 : Rec) (p1 : Rec) (s2 : Rec) (p2 : Rec) (t1 : Rec) (t2 : Rec) (i : Int32) (o1 : Int32) (hp : p_X8_leaves c s p t e o oh h k q s1 p1 s2 p2 t1 t2 i o1) : Spec 3 0 0 mX8_leaves [.ref 0, .int i, .int o1] (wB c s p t e o oh h k q s1 p1 s2 p2 t1 t2) (Ret (some (.int ((f_X8_leaves c s p t e o oh h k q s1 p1 s2 p2 t1 t2 i o1).1))) (wB ((f_X8_leaves c s p t e o oh h k q s1 p1 s2 p2 t1 t2 i o1).2.1) s p t e ((f_X8_leaves c s p t e o oh h k q s1 p1 s2 p2 t1 t2 i o1).2.2) oh h k q s1 p1 s2 p2 t1 t2)) := by
  obtain ⟨zq, hq⟩ : ∃ z, z = (f_X8_leaves c s p t e o oh h k q s1 p1 s2 p2 t1 t2 i o1) := ⟨_, rfl⟩
  rw [← hq]
  unfold f_X8_leaves at hq
  unfold p_X8_leaves at hp
  refine Sof fun sc => ?_
  refine g_blk hz0 kX8_leaves_0 ?_
  refine cVp [2, 3, 4, 5, 6, 7, 8] (wS s) (s_X4_choices s) rfl cwX4_choices dX8_leaves_9 rfl rfl (hm67_B_S _ _ _ _ _ _ _ _ _ _ _ _ _ _ _ _) ?_
  refine g_blk hz0 kX8_leaves_12 ?_
  refine cS0 (s_X8_within i ((Int32.ofInt 0)) ((f_X4_choices s) - (Int32.ofInt 1))) rfl cwX8_within dX8_leaves_14 rfl ?_
  refine g_blk hz0 kX8_leaves_17 ?_
  refine ⟨fun c1 => ?_, fun c1 => ?_⟩
  · rw [if_pos (show (f_X8_within i ((Int32.ofInt 0)) ((f_X4_choices s) - (Int32.ofInt 1))) = 0 from c1)] at hq
    refine g_blk hz0 kX8_leaves_29 ?_
    refine cV [0, 1, 2, 3, 4, 5, 6, 7, 8, 9, 10, 11, 12, 13, 14, 15, 16, 17, 18, 19, 20, 21, 22, 23, 24, 25, 26, 27, 28, 29, 30, 31, 32, 33, 34, 35, 36, 37, 38, 39, 40, 41, 42, 43, 44, 45, 46, 47, 48, 49, 50, 51, 52, 53, 54, 55, 56, 57, 58, 59, 60, 61, 62, 63, 64, 65, 66, 67, 68, 69, 70, 71, 72, 73, 74, 75, 76, 77, 78, 79, 80, 81, 82, 83, 84, 85, 86, 87, 88, 89, 90, 91, 92, 93, 94, 95, 96, 97, 98, 99, 100, 101, 102, 103, 104, 105, 106, 107, 108, 109, 110, 111] (wB c s p t e o oh h k q s1 p1 s2 p2 t1 t2) (s_X8_refuseBad c s p t e o oh h k q s1 p1 s2 p2 t1 t2 ((Int32.ofInt (-2)))) rfl cwX8_refuseBad dX8_leaves_32 rfl rfl (hm63_B_B _ _ _ _ _ _ _ _ _ _ _ _ _ _ _ _) ((len_B _ _ _ _ _ _ _ _ _ _ _ _ _ _ _ _).trans (len_B _ _ _ _ _ _ _ _ _ _ _ _ _ _ _ _).symm) (wB ((f_X8_refuseBad c s p t e o oh h k q s1 p1 s2 p2 t1 t2 ((Int32.ofInt (-2)))).2) s p t e o oh h k q s1 p1 s2 p2 t1 t2) (pw85_B_B _ _ _ _ _ _ _ _ _ _ _ _ _ _ _ _ _) ?_
    obtain ⟨g2, hg2⟩ : ∃ z, z = (f_X8_refuseBad c s p t e o oh h k q s1 p1 s2 p2 t1 t2 ((Int32.ofInt (-2)))) := ⟨_, rfl⟩
    try rw [← hg2] at hp
    try rw [← hg2] at hq
    rw [← hg2]
    refine g_blk hz0 kX8_leaves_35 ?_
    subst hq
    exact ⟨fun h => (by cases h), rfl, rfl⟩
  · rw [if_neg (show ¬ ((f_X8_within i ((Int32.ofInt 0)) ((f_X4_choices s) - (Int32.ofInt 1))) = 0) from c1)] at hq
    replace hp := hp.2 c1
    refine g_blk hz0 kX8_leaves_20 ?_
    refine cS0 (s_X8_within o1 ((Int32.ofInt 0)) ((Int32.ofInt 1))) rfl cwX8_within dX8_leaves_23 rfl ?_
    refine g_blk hz0 kX8_leaves_26 ?_
    refine ⟨fun c3 => ?_, fun c3 => ?_⟩
    · rw [if_neg (show ¬ ((f_X8_within o1 ((Int32.ofInt 0)) ((Int32.ofInt 1))) = 0) from c3)] at hq
      replace hp := hp.2 c3
      refine g_blk hz0 kX8_leaves_36 ?_
      refine cV [26, 27, 28, 29, 30, 1, 2, 3, 4, 5, 6, 7, 8, 9, 10, 11, 12] (wOP o s p) (s_X1_lookBehind o s p i hp.1) rfl cwX1_lookBehind dX8_leaves_45 rfl rfl (hm69_B_OP _ _ _ _ _ _ _ _ _ _ _ _ _ _ _ _) ((len_OP _ _ _).trans (len_OP _ _ _).symm) (wB c s p t e (f_X1_lookBehind o s p i) oh h k q s1 p1 s2 p2 t1 t2) (pw95_B_OP _ _ _ _ _ _ _ _ _ _ _ _ _ _ _ _ _) ?_
      replace hp := hp.2
      obtain ⟨g5, hg5⟩ : ∃ z, z = (f_X1_lookBehind o s p i) := ⟨_, rfl⟩
      try rw [← hg5] at hp
      try rw [← hg5] at hq
      rw [← hg5]
      refine g_blk hz0 kX8_leaves_48 ?_
      refine cVp [26, 27, 28, 29, 30, 1, 2, 3, 4, 5, 6, 7, 8, 9, 10, 11, 12] (wOP g5 s p) (s_X1_rulersOf g5 s p o1 hp.1) rfl cwX1_rulersOf dX8_leaves_57 rfl rfl (hm69_B_OP _ _ _ _ _ _ _ _ _ _ _ _ _ _ _ _) ?_
      replace hp := hp.2
      refine g_blk hz0 kX8_leaves_60 ?_
      subst hq
      exact ⟨fun h => (by cases h), rfl, rfl⟩
    · rw [if_pos (show (f_X8_within o1 ((Int32.ofInt 0)) ((Int32.ofInt 1))) = 0 from c3)] at hq
      refine g_blk hz0 kX8_leaves_29 ?_
      refine cV [0, 1, 2, 3, 4, 5, 6, 7, 8, 9, 10, 11, 12, 13, 14, 15, 16, 17, 18, 19, 20, 21, 22, 23, 24, 25, 26, 27, 28, 29, 30, 31, 32, 33, 34, 35, 36, 37, 38, 39, 40, 41, 42, 43, 44, 45, 46, 47, 48, 49, 50, 51, 52, 53, 54, 55, 56, 57, 58, 59, 60, 61, 62, 63, 64, 65, 66, 67, 68, 69, 70, 71, 72, 73, 74, 75, 76, 77, 78, 79, 80, 81, 82, 83, 84, 85, 86, 87, 88, 89, 90, 91, 92, 93, 94, 95, 96, 97, 98, 99, 100, 101, 102, 103, 104, 105, 106, 107, 108, 109, 110, 111] (wB c s p t e o oh h k q s1 p1 s2 p2 t1 t2) (s_X8_refuseBad c s p t e o oh h k q s1 p1 s2 p2 t1 t2 ((Int32.ofInt (-2)))) rfl cwX8_refuseBad dX8_leaves_32 rfl rfl (hm63_B_B _ _ _ _ _ _ _ _ _ _ _ _ _ _ _ _) ((len_B _ _ _ _ _ _ _ _ _ _ _ _ _ _ _ _).trans (len_B _ _ _ _ _ _ _ _ _ _ _ _ _ _ _ _).symm) (wB ((f_X8_refuseBad c s p t e o oh h k q s1 p1 s2 p2 t1 t2 ((Int32.ofInt (-2)))).2) s p t e o oh h k q s1 p1 s2 p2 t1 t2) (pw85_B_B _ _ _ _ _ _ _ _ _ _ _ _ _ _ _ _ _) ?_
      obtain ⟨g4, hg4⟩ : ∃ z, z = (f_X8_refuseBad c s p t e o oh h k q s1 p1 s2 p2 t1 t2 ((Int32.ofInt (-2)))) := ⟨_, rfl⟩
      try rw [← hg4] at hp
      try rw [← hg4] at hq
      rw [← hg4]
      refine g_blk hz0 kX8_leaves_35 ?_
      subst hq
      exact ⟨fun h => (by cases h), rfl, rfl⟩
