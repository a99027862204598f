set_option maxHeartbeats 16000000 in
theorem hm73_B_PA (c : Rec) (s : Rec) (p : Rec) (t : Rec) (e : Rec) (o : Rec) (oh : Rec) (h : Rec) (k : Rec) (q : Rec) (s1 : Rec) (p1 : Rec) (s2 : Rec) (p2 : Rec) (t1 : Rec) (t2 : Rec) : [1, 2, 3, 4, 5, 6, 7, 8, 9, 10, 11, 12, 67].map (lk (wB c s p t e o oh h k q s1 p1 s2 p2 t1 t2)) = (wPA s p ((fun _ => 0, fun _ => c.2 10) : Rec)).map (fun e => some (ren [1, 2, 3, 4, 5, 6, 7, 8, 9, 10, 11, 12, 67] e)) := by
  simp only [List.map_cons, List.map_nil, lkB_1, lkB_2, lkB_3, lkB_4, lkB_5, lkB_6, lkB_7, lkB_8, lkB_9, lkB_10, lkB_11, lkB_12, lkB_67]
  unfold wPA
  rfl
set_option maxHeartbeats 16000000 in
theorem pw102_B_PA (c : Rec) (s : Rec) (p : Rec) (t : Rec) (e : Rec) (o : Rec) (oh : Rec) (h : Rec) (k : Rec) (q : Rec) (s1 : Rec) (p1 : Rec) (s2 : Rec) (p2 : Rec) (t1 : Rec) (t2 : Rec) (a9 : Rec) : putW (wB c s p t e o oh h k q s1 p1 s2 p2 t1 t2) [1, 2, 3, 4, 5, 6, 7, 8, 9, 10, 11, 12, 67] ((wPA s p a9).map (ren [1, 2, 3, 4, 5, 6, 7, 8, 9, 10, 11, 12, 67])) = (wB (setA c 10 (a9.2 0)) s p t e o oh h k q s1 p1 s2 p2 t1 t2) := by
  refine pw_gen (cp := [0, 13, 14, 15, 16, 17, 18, 19, 20, 21, 22, 23, 24, 25, 26, 27, 28, 29, 30, 31, 32, 33, 34, 35, 36, 37, 38, 39, 40, 41, 42, 43, 44, 45, 46, 47, 48, 49, 50, 51, 52, 53, 54, 55, 56, 57, 58, 59, 60, 61, 62, 63, 64, 65, 66, 68, 69, 70, 71, 72, 73, 74, 75, 76, 77, 78, 79, 80, 81, 82, 83, 84, 85, 86, 87, 88, 89, 90, 91, 92, 93, 94, 95, 96, 97, 98, 99, 100, 101, 102, 103, 104, 105, 106, 107, 108, 109, 110, 111]) (len_B ..) (len_B ..) (by decide) (hm73_B_PA _ _ _ _ _ _ _ _ _ _ _ _ _ _ _ _) (by decide) ?_
  simp only [List.map_cons, List.map_nil, lkB_0, lkB_13, lkB_14, lkB_15, lkB_16, lkB_17, lkB_18, lkB_19, lkB_20, lkB_21, lkB_22, lkB_23, lkB_24, lkB_25, lkB_26, lkB_27, lkB_28, lkB_29, lkB_30, lkB_31, lkB_32, lkB_33, lkB_34, lkB_35, lkB_36, lkB_37, lkB_38, lkB_39, lkB_40, lkB_41, lkB_42, lkB_43, lkB_44, lkB_45, lkB_46, lkB_47, lkB_48, lkB_49, lkB_50, lkB_51, lkB_52, lkB_53, lkB_54, lkB_55, lkB_56, lkB_57, lkB_58, lkB_59, lkB_60, lkB_61, lkB_62, lkB_63, lkB_64, lkB_65, lkB_66, lkB_68, lkB_69, lkB_70, lkB_71, lkB_72, lkB_73, lkB_74, lkB_75, lkB_76, lkB_77, lkB_78, lkB_79, lkB_80, lkB_81, lkB_82, lkB_83, lkB_84, lkB_85, lkB_86, lkB_87, lkB_88, lkB_89, lkB_90, lkB_91, lkB_92, lkB_93, lkB_94, lkB_95, lkB_96, lkB_97, lkB_98, lkB_99, lkB_100, lkB_101, lkB_102, lkB_103, lkB_104, lkB_105, lkB_106, lkB_107, lkB_108, lkB_109, lkB_110, lkB_111] <;> rfl
set_option maxHeartbeats 16000000 in
theorem pw103_B_B (c : Rec) (s : Rec) (p : Rec) (t : Rec) (e : Rec) (o : Rec) (oh : Rec) (h : Rec) (k : Rec) (q : Rec) (s1 : Rec) (p1 : Rec) (s2 : Rec) (p2 : Rec) (t1 : Rec) (t2 : Rec) (s9 : Rec) (p9 : Rec) (e9 : Rec) : putW (wB c s p t e o oh h k q s1 p1 s2 p2 t1 t2) [0, 1, 2, 3, 4, 5, 6, 7, 8, 9, 10, 11, 12, 13, 14, 15, 16, 17, 18, 19, 20, 21, 22, 23, 24, 25, 26, 27, 28, 29, 30, 31, 32, 33, 34, 35, 36, 37, 38, 39, 40, 41, 42, 43, 44, 45, 46, 47, 48, 49, 50, 51, 52, 53, 54, 55, 56, 57, 58, 59, 60, 61, 62, 63, 64, 65, 66, 67, 68, 69, 70, 71, 72, 73, 74, 75, 76, 77, 78, 79, 80, 81, 82, 83, 84, 85, 86, 87, 88, 89, 90, 91, 92, 93, 94, 95, 96, 97, 98, 99, 100, 101, 102, 103, 104, 105, 106, 107, 108, 109, 110, 111] ((wB c s9 p9 t e9 o oh h k q s1 p1 s2 p2 t1 t2).map (ren [0, 1, 2, 3, 4, 5, 6, 7, 8, 9, 10, 11, 12, 13, 14, 15, 16, 17, 18, 19, 20, 21, 22, 23, 24, 25, 26, 27, 28, 29, 30, 31, 32, 33, 34, 35, 36, 37, 38, 39, 40, 41, 42, 43, 44, 45, 46, 47, 48, 49, 50, 51, 52, 53, 54, 55, 56, 57, 58, 59, 60, 61, 62, 63, 64, 65, 66, 67, 68, 69, 70, 71, 72, 73, 74, 75, 76, 77, 78, 79, 80, 81, 82, 83, 84, 85, 86, 87, 88, 89, 90, 91, 92, 93, 94, 95, 96, 97, 98, 99, 100, 101, 102, 103, 104, 105, 106, 107, 108, 109, 110, 111])) = (wB c s9 p9 t e9 o oh h k q s1 p1 s2 p2 t1 t2) := by
  exact pwI_B _ _ _ _ _ _ _ _ _ _ _ _ _ _ _ _ _ _ _ _ _ _ _ _ _ _ _ _ _ _ _ _
set_option maxHeartbeats 16000000 in
theorem pw104_B_PA (c : Rec) (s : Rec) (p : Rec) (t : Rec) (e : Rec) (o : Rec) (oh : Rec) (h : Rec) (k : Rec) (q : Rec) (s1 : Rec) (p1 : Rec) (s2 : Rec) (p2 : Rec) (t1 : Rec) (t2 : Rec) (s9 : Rec) (p9 : Rec) : putW (wB c s p t e o oh h k q s1 p1 s2 p2 t1 t2) [1, 2, 3, 4, 5, 6, 7, 8, 9, 10, 11, 12, 67] ((wPA s9 p9 ((fun _ => 0, fun _ => c.2 10) : Rec)).map (ren [1, 2, 3, 4, 5, 6, 7, 8, 9, 10, 11, 12, 67])) = (wB c s9 p9 t e o oh h k q s1 p1 s2 p2 t1 t2) := by
  refine pw_gen (cp := [0, 13, 14, 15, 16, 17, 18, 19, 20, 21, 22, 23, 24, 25, 26, 27, 28, 29, 30, 31, 32, 33, 34, 35, 36, 37, 38, 39, 40, 41, 42, 43, 44, 45, 46, 47, 48, 49, 50, 51, 52, 53, 54, 55, 56, 57, 58, 59, 60, 61, 62, 63, 64, 65, 66, 68, 69, 70, 71, 72, 73, 74, 75, 76, 77, 78, 79, 80, 81, 82, 83, 84, 85, 86, 87, 88, 89, 90, 91, 92, 93, 94, 95, 96, 97, 98, 99, 100, 101, 102, 103, 104, 105, 106, 107, 108, 109, 110, 111]) (len_B ..) (len_B ..) (by decide) (hm73_B_PA _ _ _ _ _ _ _ _ _ _ _ _ _ _ _ _) (by decide) ?_
  simp only [List.map_cons, List.map_nil, lkB_0, lkB_13, lkB_14, lkB_15, lkB_16, lkB_17, lkB_18, lkB_19, lkB_20, lkB_21, lkB_22, lkB_23, lkB_24, lkB_25, lkB_26, lkB_27, lkB_28, lkB_29, lkB_30, lkB_31, lkB_32, lkB_33, lkB_34, lkB_35, lkB_36, lkB_37, lkB_38, lkB_39, lkB_40, lkB_41, lkB_42, lkB_43, lkB_44, lkB_45, lkB_46, lkB_47, lkB_48, lkB_49, lkB_50, lkB_51, lkB_52, lkB_53, lkB_54, lkB_55, lkB_56, lkB_57, lkB_58, lkB_59, lkB_60, lkB_61, lkB_62, lkB_63, lkB_64, lkB_65, lkB_66, lkB_68, lkB_69, lkB_70, lkB_71, lkB_72, lkB_73, lkB_74, lkB_75, lkB_76, lkB_77, lkB_78, lkB_79, lkB_80, lkB_81, lkB_82, lkB_83, lkB_84, lkB_85, lkB_86, lkB_87, lkB_88, lkB_89, lkB_90, lkB_91, lkB_92, lkB_93, lkB_94, lkB_95, lkB_96, lkB_97, lkB_98, lkB_99, lkB_100, lkB_101, lkB_102, lkB_103, lkB_104, lkB_105, lkB_106, lkB_107, lkB_108, lkB_109, lkB_110, lkB_111] <;> rfl
set_option maxHeartbeats 16000000 in
set_option maxRecDepth 20000 in
theorem s_X8_judge (c : Rec) (s : Rec) (p : Rec) (t : Rec) (e : Rec) (o : Rec) (oh : Rec) (h : Rec) (k : Rec) (q : Rec) (s1 : Rec) (p1 : Rec) (s2 : Rec) (p2 : Rec) (t1 : Rec) (t2 : Rec)  (hp : p_X8_judge c s p t e o oh h k q s1 p1 s2 p2 t1 t2) : Spec 11 0 0 mX8_judge [.ref 0] (wB c s p t e o oh h k q s1 p1 s2 p2 t1 t2) (Ret (some (.int ((f_X8_judge c s p t e o oh h k q s1 p1 s2 p2 t1 t2).1))) (wB ((f_X8_judge c s p t e o oh h k q s1 p1 s2 p2 t1 t2).2.1) ((f_X8_judge c s p t e o oh h k q s1 p1 s2 p2 t1 t2).2.2.1) ((f_X8_judge c s p t e o oh h k q s1 p1 s2 p2 t1 t2).2.2.2.1) t ((f_X8_judge c s p t e o oh h k q s1 p1 s2 p2 t1 t2).2.2.2.2) o oh h k q s1 p1 s2 p2 t1 t2)) := by
  obtain ⟨zq, hq⟩ : ∃ z, z = (f_X8_judge c s p t e o oh h k q s1 p1 s2 p2 t1 t2) := ⟨_, rfl⟩
  rw [← hq]
  unfold f_X8_judge at hq
  unfold p_X8_judge at hp
  refine Sof fun sc => ?_
  refine g_blk hz0 kX8_judge_0 ?_
  refine cV [23, 24, 25] (wE e) (s_X6_faultPlace e hp.1) rfl cwX6_faultPlace dX8_judge_4 rfl rfl (hm71_B_E _ _ _ _ _ _ _ _ _ _ _ _ _ _ _ _) ((len_E _).trans (len_E _).symm) (wB c s p t ((f_X6_faultPlace e).2) o oh h k q s1 p1 s2 p2 t1 t2) (pw98_B_E _ _ _ _ _ _ _ _ _ _ _ _ _ _ _ _ _) ?_
  replace hp := hp.2
  obtain ⟨g1, hg1⟩ : ∃ z, z = (f_X6_faultPlace e) := ⟨_, rfl⟩
  try rw [← hg1] at hp
  try rw [← hg1] at hq
  rw [← hg1]
  refine g_blk hz0 kX8_judge_7 ?_
  refine ⟨fun c2 => ?_, fun c2 => ?_⟩
  · rw [if_pos (show (g1.1) = (Int32.ofInt (-1)) from c2)] at hq
    replace hp := hp.1 c2
    refine g_blk hz0 kX8_judge_18 ?_
    refine cV [1, 2, 3, 4, 5, 6, 7, 8, 9, 10, 11, 12, 67] (wPA s p ((fun _ => 0, fun _ => (c.2 10)) : Rec)) (s_X3_save s p ((fun _ => 0, fun _ => (c.2 10)) : Rec) hp.1) rfl cwX3_save dX8_judge_26 rfl rfl (hm73_B_PA _ _ _ _ _ _ _ _ _ _ _ _ _ _ _ _) ((len_PA _ _ _).trans (len_PA _ _ _).symm) (wB (setA c 10 ((f_X3_save s p ((fun _ => 0, fun _ => (c.2 10)) : Rec)).2 0)) s p t (g1.2) o oh h k q s1 p1 s2 p2 t1 t2) (pw102_B_PA _ _ _ _ _ _ _ _ _ _ _ _ _ _ _ _ _) ?_
    replace hp := hp.2
    obtain ⟨g3, hg3⟩ : ∃ z, z = (f_X3_save s p ((fun _ => 0, fun _ => (c.2 10)) : Rec)) := ⟨_, rfl⟩
    try rw [← hg3] at hp
    try rw [← hg3] at hq
    rw [← hg3]
    refine g_blk hz0 kX8_judge_29 ?_
    refine cV [0, 1, 2, 3, 4, 5, 6, 7, 8, 9, 10, 11, 12, 13, 14, 15, 16, 17, 18, 19, 20, 21, 22, 23, 24, 25, 26, 27, 28, 29, 30, 31, 32, 33, 34, 35, 36, 37, 38, 39, 40, 41, 42, 43, 44, 45, 46, 47, 48, 49, 50, 51, 52, 53, 54, 55, 56, 57, 58, 59, 60, 61, 62, 63, 64, 65, 66, 67, 68, 69, 70, 71, 72, 73, 74, 75, 76, 77, 78, 79, 80, 81, 82, 83, 84, 85, 86, 87, 88, 89, 90, 91, 92, 93, 94, 95, 96, 97, 98, 99, 100, 101, 102, 103, 104, 105, 106, 107, 108, 109, 110, 111] (wB (setA c 10 (g3.2 0)) s p t (g1.2) o oh h k q s1 p1 s2 p2 t1 t2) (s_X8_firstWrongItem (setA c 10 (g3.2 0)) s p t (g1.2) o oh h k q s1 p1 s2 p2 t1 t2 hp.1) rfl cwX8_firstWrongItem dX8_judge_30 rfl rfl (hm63_B_B _ _ _ _ _ _ _ _ _ _ _ _ _ _ _ _) ((len_B _ _ _ _ _ _ _ _ _ _ _ _ _ _ _ _).trans (len_B _ _ _ _ _ _ _ _ _ _ _ _ _ _ _ _).symm) (wB (setA c 10 (g3.2 0)) ((f_X8_firstWrongItem (setA c 10 (g3.2 0)) s p t (g1.2) o oh h k q s1 p1 s2 p2 t1 t2).2.1) ((f_X8_firstWrongItem (setA c 10 (g3.2 0)) s p t (g1.2) o oh h k q s1 p1 s2 p2 t1 t2).2.2.1) t ((f_X8_firstWrongItem (setA c 10 (g3.2 0)) s p t (g1.2) o oh h k q s1 p1 s2 p2 t1 t2).2.2.2) o oh h k q s1 p1 s2 p2 t1 t2) (pw103_B_B _ _ _ _ _ _ _ _ _ _ _ _ _ _ _ _ _ _ _) ?_
    replace hp := hp.2
    obtain ⟨g4, hg4⟩ : ∃ z, z = (f_X8_firstWrongItem (setA c 10 (g3.2 0)) s p t (g1.2) o oh h k q s1 p1 s2 p2 t1 t2) := ⟨_, rfl⟩
    try rw [← hg4] at hp
    try rw [← hg4] at hq
    rw [← hg4]
    refine g_blk hz0 kX8_judge_33 ?_
    refine cV [1, 2, 3, 4, 5, 6, 7, 8, 9, 10, 11, 12, 67] (wPA (g4.2.1) (g4.2.2.1) ((fun _ => 0, fun _ => (g3.2 0)) : Rec)) (s_X3_load (g4.2.1) (g4.2.2.1) ((fun _ => 0, fun _ => (g3.2 0)) : Rec) hp.1) rfl cwX3_load dX8_judge_42 rfl rfl (hm73_B_PA _ _ _ _ _ _ _ _ _ _ _ _ _ _ _ _) ((len_PA _ _ _).trans (len_PA _ _ _).symm) (wB (setA c 10 (g3.2 0)) ((f_X3_load (g4.2.1) (g4.2.2.1) ((fun _ => 0, fun _ => (g3.2 0)) : Rec)).1) ((f_X3_load (g4.2.1) (g4.2.2.1) ((fun _ => 0, fun _ => (g3.2 0)) : Rec)).2) t (g4.2.2.2) o oh h k q s1 p1 s2 p2 t1 t2) (pw104_B_PA _ _ _ _ _ _ _ _ _ _ _ _ _ _ _ _ _ _) ?_
    replace hp := hp.2
    obtain ⟨g5, hg5⟩ : ∃ z, z = (f_X3_load (g4.2.1) (g4.2.2.1) ((fun _ => 0, fun _ => (g3.2 0)) : Rec)) := ⟨_, rfl⟩
    try rw [← hg5] at hp
    try rw [← hg5] at hq
    rw [← hg5]
    refine g_blk hz0 kX8_judge_45 ?_
    subst hq
    exact ⟨fun h => (by cases h), rfl, rfl⟩
  · rw [if_neg (show ¬ ((g1.1) = (Int32.ofInt (-1))) from c2)] at hq
    refine g_blk hz0 kX8_judge_11 ?_
    refine cV [0, 1, 2, 3, 4, 5, 6, 7, 8, 9, 10, 11, 12, 13, 14, 15, 16, 17, 18, 19, 20, 21, 22, 23, 24, 25, 26, 27, 28, 29, 30, 31, 32, 33, 34, 35, 36, 37, 38, 39, 40, 41, 42, 43, 44, 45, 46, 47, 48, 49, 50, 51, 52, 53, 54, 55, 56, 57, 58, 59, 60, 61, 62, 63, 64, 65, 66, 67, 68, 69, 70, 71, 72, 73, 74, 75, 76, 77, 78, 79, 80, 81, 82, 83, 84, 85, 86, 87, 88, 89, 90, 91, 92, 93, 94, 95, 96, 97, 98, 99, 100, 101, 102, 103, 104, 105, 106, 107, 108, 109, 110, 111] (wB c s p t (g1.2) o oh h k q s1 p1 s2 p2 t1 t2) (s_X8_refuseNo c s p t (g1.2) o oh h k q s1 p1 s2 p2 t1 t2 ((Int32.ofInt (-3)))) rfl cwX8_refuseNo dX8_judge_14 rfl rfl (hm63_B_B _ _ _ _ _ _ _ _ _ _ _ _ _ _ _ _) ((len_B _ _ _ _ _ _ _ _ _ _ _ _ _ _ _ _).trans (len_B _ _ _ _ _ _ _ _ _ _ _ _ _ _ _ _).symm) (wB ((f_X8_refuseNo c s p t (g1.2) o oh h k q s1 p1 s2 p2 t1 t2 ((Int32.ofInt (-3)))).2) s p t (g1.2) o oh h k q s1 p1 s2 p2 t1 t2) (pw85_B_B _ _ _ _ _ _ _ _ _ _ _ _ _ _ _ _ _) ?_
    obtain ⟨g6, hg6⟩ : ∃ z, z = (f_X8_refuseNo c s p t (g1.2) o oh h k q s1 p1 s2 p2 t1 t2 ((Int32.ofInt (-3)))) := ⟨_, rfl⟩
    try rw [← hg6] at hp
    try rw [← hg6] at hq
    rw [← hg6]
    refine g_blk hz0 kX8_judge_17 ?_
    subst hq
    exact ⟨fun h => (by cases h), rfl, rfl⟩
