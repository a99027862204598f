set_option maxHeartbeats 16000000 in
theorem hm74_B_PP (c : Rec) (s : Rec) (p : Rec) (t : Rec) (e : Rec) (o : Rec) (oh : Rec) (h : Rec) (k : Rec) (q : Rec) (s1 : Rec) (p1 : Rec) (s2 : Rec) (p2 : Rec) (t1 : Rec) (t2 : Rec) : [68, 69, 70, 71, 72, 73, 74, 75, 76, 77, 78, 79, 1, 2, 3, 4, 5, 6, 7, 8, 9, 10, 11, 12].map (lk (wB c s p t e o oh h k q s1 p1 s2 p2 t1 t2)) = (wPP s1 p1 s p).map (fun e => some (ren [68, 69, 70, 71, 72, 73, 74, 75, 76, 77, 78, 79, 1, 2, 3, 4, 5, 6, 7, 8, 9, 10, 11, 12] e)) := by
  simp only [List.map_cons, List.map_nil, lkB_68, lkB_69, lkB_70, lkB_71, lkB_72, lkB_73, lkB_74, lkB_75, lkB_76, lkB_77, lkB_78, lkB_79, lkB_1, lkB_2, lkB_3, lkB_4, lkB_5, lkB_6, lkB_7, lkB_8, lkB_9, lkB_10, lkB_11, lkB_12]
  unfold wPP
  rfl
set_option maxHeartbeats 16000000 in
theorem pw105_B_PP (c : Rec) (s : Rec) (p : Rec) (t : Rec) (e : Rec) (o : Rec) (oh : Rec) (h : Rec) (k : Rec) (q : Rec) (s1 : Rec) (p1 : Rec) (s2 : Rec) (p2 : Rec) (t1 : Rec) (t2 : Rec) (s9 : Rec) (p9 : Rec) : putW (wB c s p t e o oh h k q s1 p1 s2 p2 t1 t2) [68, 69, 70, 71, 72, 73, 74, 75, 76, 77, 78, 79, 1, 2, 3, 4, 5, 6, 7, 8, 9, 10, 11, 12] ((wPP s9 p9 s p).map (ren [68, 69, 70, 71, 72, 73, 74, 75, 76, 77, 78, 79, 1, 2, 3, 4, 5, 6, 7, 8, 9, 10, 11, 12])) = (wB c s p t e o oh h k q s9 p9 s2 p2 t1 t2) := by
  refine pw_gen (cp := [0, 13, 14, 15, 16, 17, 18, 19, 20, 21, 22, 23, 24, 25, 26, 27, 28, 29, 30, 31, 32, 33, 34, 35, 36, 37, 38, 39, 40, 41, 42, 43, 44, 45, 46, 47, 48, 49, 50, 51, 52, 53, 54, 55, 56, 57, 58, 59, 60, 61, 62, 63, 64, 65, 66, 67, 80, 81, 82, 83, 84, 85, 86, 87, 88, 89, 90, 91, 92, 93, 94, 95, 96, 97, 98, 99, 100, 101, 102, 103, 104, 105, 106, 107, 108, 109, 110, 111]) (len_B ..) (len_B ..) (by decide) (hm74_B_PP _ _ _ _ _ _ _ _ _ _ _ _ _ _ _ _) (by decide) ?_
  simp only [List.map_cons, List.map_nil, lkB_0, lkB_13, lkB_14, lkB_15, lkB_16, lkB_17, lkB_18, lkB_19, lkB_20, lkB_21, lkB_22, lkB_23, lkB_24, lkB_25, lkB_26, lkB_27, lkB_28, lkB_29, lkB_30, lkB_31, lkB_32, lkB_33, lkB_34, lkB_35, lkB_36, lkB_37, lkB_38, lkB_39, lkB_40, lkB_41, lkB_42, lkB_43, lkB_44, lkB_45, lkB_46, lkB_47, lkB_48, lkB_49, lkB_50, lkB_51, lkB_52, lkB_53, lkB_54, lkB_55, lkB_56, lkB_57, lkB_58, lkB_59, lkB_60, lkB_61, lkB_62, lkB_63, lkB_64, lkB_65, lkB_66, lkB_67, lkB_80, lkB_81, lkB_82, lkB_83, lkB_84, lkB_85, lkB_86, lkB_87, lkB_88, lkB_89, lkB_90, lkB_91, lkB_92, lkB_93, lkB_94, lkB_95, lkB_96, lkB_97, lkB_98, lkB_99, lkB_100, lkB_101, lkB_102, lkB_103, lkB_104, lkB_105, lkB_106, lkB_107, lkB_108, lkB_109, lkB_110, lkB_111] <;> rfl
set_option maxHeartbeats 16000000 in
theorem hm75_B_TT (c : Rec) (s : Rec) (p : Rec) (t : Rec) (e : Rec) (o : Rec) (oh : Rec) (h : Rec) (k : Rec) (q : Rec) (s1 : Rec) (p1 : Rec) (s2 : Rec) (p2 : Rec) (t1 : Rec) (t2 : Rec) : [80, 81, 82, 83, 84, 85, 86, 87, 88, 89, 13, 14, 15, 16, 17, 18, 19, 20, 21, 22].map (lk (wB c s p t e o oh h k q s1 p1 s2 p2 t1 t2)) = (wTT t1 t).map (fun e => some (ren [80, 81, 82, 83, 84, 85, 86, 87, 88, 89, 13, 14, 15, 16, 17, 18, 19, 20, 21, 22] e)) := by
  simp only [List.map_cons, List.map_nil, lkB_80, lkB_81, lkB_82, lkB_83, lkB_84, lkB_85, lkB_86, lkB_87, lkB_88, lkB_89, lkB_13, lkB_14, lkB_15, lkB_16, lkB_17, lkB_18, lkB_19, lkB_20, lkB_21, lkB_22]
  unfold wTT
  simp only [List.map_cons, List.map_nil, renQ]
  rfl
set_option maxHeartbeats 16000000 in
theorem pw106_B_TT (c : Rec) (s : Rec) (p : Rec) (t : Rec) (e : Rec) (o : Rec) (oh : Rec) (h : Rec) (k : Rec) (q : Rec) (s1 : Rec) (p1 : Rec) (s2 : Rec) (p2 : Rec) (t1 : Rec) (t2 : Rec) (t9 : Rec) : putW (wB c s p t e o oh h k q s1 p1 s2 p2 t1 t2) [80, 81, 82, 83, 84, 85, 86, 87, 88, 89, 13, 14, 15, 16, 17, 18, 19, 20, 21, 22] ((wTT t9 t).map (ren [80, 81, 82, 83, 84, 85, 86, 87, 88, 89, 13, 14, 15, 16, 17, 18, 19, 20, 21, 22])) = (wB c s p t e o oh h k q s1 p1 s2 p2 t9 t2) := by
  refine pw_gen (cp := [0, 1, 2, 3, 4, 5, 6, 7, 8, 9, 10, 11, 12, 23, 24, 25, 26, 27, 28, 29, 30, 31, 32, 33, 34, 35, 36, 37, 38, 39, 40, 41, 42, 43, 44, 45, 46, 47, 48, 49, 50, 51, 52, 53, 54, 55, 56, 57, 58, 59, 60, 61, 62, 63, 64, 65, 66, 67, 68, 69, 70, 71, 72, 73, 74, 75, 76, 77, 78, 79, 90, 91, 92, 93, 94, 95, 96, 97, 98, 99, 100, 101, 102, 103, 104, 105, 106, 107, 108, 109, 110, 111]) (len_B ..) (len_B ..) (by decide) (hm75_B_TT _ _ _ _ _ _ _ _ _ _ _ _ _ _ _ _) (by decide) ?_
  simp only [List.map_cons, List.map_nil, lkB_0, lkB_1, lkB_2, lkB_3, lkB_4, lkB_5, lkB_6, lkB_7, lkB_8, lkB_9, lkB_10, lkB_11, lkB_12, lkB_23, lkB_24, lkB_25, lkB_26, lkB_27, lkB_28, lkB_29, lkB_30, lkB_31, lkB_32, lkB_33, lkB_34, lkB_35, lkB_36, lkB_37, lkB_38, lkB_39, lkB_40, lkB_41, lkB_42, lkB_43, lkB_44, lkB_45, lkB_46, lkB_47, lkB_48, lkB_49, lkB_50, lkB_51, lkB_52, lkB_53, lkB_54, lkB_55, lkB_56, lkB_57, lkB_58, lkB_59, lkB_60, lkB_61, lkB_62, lkB_63, lkB_64, lkB_65, lkB_66, lkB_67, lkB_68, lkB_69, lkB_70, lkB_71, lkB_72, lkB_73, lkB_74, lkB_75, lkB_76, lkB_77, lkB_78, lkB_79, lkB_90, lkB_91, lkB_92, lkB_93, lkB_94, lkB_95, lkB_96, lkB_97, lkB_98, lkB_99, lkB_100, lkB_101, lkB_102, lkB_103, lkB_104, lkB_105, lkB_106, lkB_107, lkB_108, lkB_109, lkB_110, lkB_111] <;> rfl
set_option maxHeartbeats 16000000 in
theorem hm76_B_PP (c : Rec) (s : Rec) (p : Rec) (t : Rec) (e : Rec) (o : Rec) (oh : Rec) (h : Rec) (k : Rec) (q : Rec) (s1 : Rec) (p1 : Rec) (s2 : Rec) (p2 : Rec) (t1 : Rec) (t2 : Rec) : [90, 91, 92, 93, 94, 95, 96, 97, 98, 99, 100, 101, 1, 2, 3, 4, 5, 6, 7, 8, 9, 10, 11, 12].map (lk (wB c s p t e o oh h k q s1 p1 s2 p2 t1 t2)) = (wPP s2 p2 s p).map (fun e => some (ren [90, 91, 92, 93, 94, 95, 96, 97, 98, 99, 100, 101, 1, 2, 3, 4, 5, 6, 7, 8, 9, 10, 11, 12] e)) := by
  simp only [List.map_cons, List.map_nil, lkB_90, lkB_91, lkB_92, lkB_93, lkB_94, lkB_95, lkB_96, lkB_97, lkB_98, lkB_99, lkB_100, lkB_101, lkB_1, lkB_2, lkB_3, lkB_4, lkB_5, lkB_6, lkB_7, lkB_8, lkB_9, lkB_10, lkB_11, lkB_12]
  unfold wPP
  rfl
set_option maxHeartbeats 16000000 in
theorem pw107_B_PP (c : Rec) (s : Rec) (p : Rec) (t : Rec) (e : Rec) (o : Rec) (oh : Rec) (h : Rec) (k : Rec) (q : Rec) (s1 : Rec) (p1 : Rec) (s2 : Rec) (p2 : Rec) (t1 : Rec) (t2 : Rec) (s9 : Rec) (p9 : Rec) : putW (wB c s p t e o oh h k q s1 p1 s2 p2 t1 t2) [90, 91, 92, 93, 94, 95, 96, 97, 98, 99, 100, 101, 1, 2, 3, 4, 5, 6, 7, 8, 9, 10, 11, 12] ((wPP s9 p9 s p).map (ren [90, 91, 92, 93, 94, 95, 96, 97, 98, 99, 100, 101, 1, 2, 3, 4, 5, 6, 7, 8, 9, 10, 11, 12])) = (wB c s p t e o oh h k q s1 p1 s9 p9 t1 t2) := by
  refine pw_gen (cp := [0, 13, 14, 15, 16, 17, 18, 19, 20, 21, 22, 23, 24, 25, 26, 27, 28, 29, 30, 31, 32, 33, 34, 35, 36, 37, 38, 39, 40, 41, 42, 43, 44, 45, 46, 47, 48, 49, 50, 51, 52, 53, 54, 55, 56, 57, 58, 59, 60, 61, 62, 63, 64, 65, 66, 67, 68, 69, 70, 71, 72, 73, 74, 75, 76, 77, 78, 79, 80, 81, 82, 83, 84, 85, 86, 87, 88, 89, 102, 103, 104, 105, 106, 107, 108, 109, 110, 111]) (len_B ..) (len_B ..) (by decide) (hm76_B_PP _ _ _ _ _ _ _ _ _ _ _ _ _ _ _ _) (by decide) ?_
  simp only [List.map_cons, List.map_nil, lkB_0, lkB_13, lkB_14, lkB_15, lkB_16, lkB_17, lkB_18, lkB_19, lkB_20, lkB_21, lkB_22, lkB_23, lkB_24, lkB_25, lkB_26, lkB_27, lkB_28, lkB_29, lkB_30, lkB_31, lkB_32, lkB_33, lkB_34, lkB_35, lkB_36, lkB_37, lkB_38, lkB_39, lkB_40, lkB_41, lkB_42, lkB_43, lkB_44, lkB_45, lkB_46, lkB_47, lkB_48, lkB_49, lkB_50, lkB_51, lkB_52, lkB_53, lkB_54, lkB_55, lkB_56, lkB_57, lkB_58, lkB_59, lkB_60, lkB_61, lkB_62, lkB_63, lkB_64, lkB_65, lkB_66, lkB_67, lkB_68, lkB_69, lkB_70, lkB_71, lkB_72, lkB_73, lkB_74, lkB_75, lkB_76, lkB_77, lkB_78, lkB_79, lkB_80, lkB_81, lkB_82, lkB_83, lkB_84, lkB_85, lkB_86, lkB_87, lkB_88, lkB_89, lkB_102, lkB_103, lkB_104, lkB_105, lkB_106, lkB_107, lkB_108, lkB_109, lkB_110, lkB_111] <;> rfl
set_option maxHeartbeats 16000000 in
theorem hm77_B_TT (c : Rec) (s : Rec) (p : Rec) (t : Rec) (e : Rec) (o : Rec) (oh : Rec) (h : Rec) (k : Rec) (q : Rec) (s1 : Rec) (p1 : Rec) (s2 : Rec) (p2 : Rec) (t1 : Rec) (t2 : Rec) : [102, 103, 104, 105, 106, 107, 108, 109, 110, 111, 13, 14, 15, 16, 17, 18, 19, 20, 21, 22].map (lk (wB c s p t e o oh h k q s1 p1 s2 p2 t1 t2)) = (wTT t2 t).map (fun e => some (ren [102, 103, 104, 105, 106, 107, 108, 109, 110, 111, 13, 14, 15, 16, 17, 18, 19, 20, 21, 22] e)) := by
  simp only [List.map_cons, List.map_nil, lkB_102, lkB_103, lkB_104, lkB_105, lkB_106, lkB_107, lkB_108, lkB_109, lkB_110, lkB_111, lkB_13, lkB_14, lkB_15, lkB_16, lkB_17, lkB_18, lkB_19, lkB_20, lkB_21, lkB_22]
  unfold wTT
  simp only [List.map_cons, List.map_nil, renQ]
  rfl
set_option maxHeartbeats 16000000 in
theorem pw108_B_TT (c : Rec) (s : Rec) (p : Rec) (t : Rec) (e : Rec) (o : Rec) (oh : Rec) (h : Rec) (k : Rec) (q : Rec) (s1 : Rec) (p1 : Rec) (s2 : Rec) (p2 : Rec) (t1 : Rec) (t2 : Rec) (t9 : Rec) : putW (wB c s p t e o oh h k q s1 p1 s2 p2 t1 t2) [102, 103, 104, 105, 106, 107, 108, 109, 110, 111, 13, 14, 15, 16, 17, 18, 19, 20, 21, 22] ((wTT t9 t).map (ren [102, 103, 104, 105, 106, 107, 108, 109, 110, 111, 13, 14, 15, 16, 17, 18, 19, 20, 21, 22])) = (wB c s p t e o oh h k q s1 p1 s2 p2 t1 t9) := by
  refine pw_gen (cp := [0, 1, 2, 3, 4, 5, 6, 7, 8, 9, 10, 11, 12, 23, 24, 25, 26, 27, 28, 29, 30, 31, 32, 33, 34, 35, 36, 37, 38, 39, 40, 41, 42, 43, 44, 45, 46, 47, 48, 49, 50, 51, 52, 53, 54, 55, 56, 57, 58, 59, 60, 61, 62, 63, 64, 65, 66, 67, 68, 69, 70, 71, 72, 73, 74, 75, 76, 77, 78, 79, 80, 81, 82, 83, 84, 85, 86, 87, 88, 89, 90, 91, 92, 93, 94, 95, 96, 97, 98, 99, 100, 101]) (len_B ..) (len_B ..) (by decide) (hm77_B_TT _ _ _ _ _ _ _ _ _ _ _ _ _ _ _ _) (by decide) ?_
  simp only [List.map_cons, List.map_nil, lkB_0, lkB_1, lkB_2, lkB_3, lkB_4, lkB_5, lkB_6, lkB_7, lkB_8, lkB_9, lkB_10, lkB_11, lkB_12, lkB_23, lkB_24, lkB_25, lkB_26, lkB_27, lkB_28, lkB_29, lkB_30, lkB_31, lkB_32, lkB_33, lkB_34, lkB_35, lkB_36, lkB_37, lkB_38, lkB_39, lkB_40, lkB_41, lkB_42, lkB_43, lkB_44, lkB_45, lkB_46, lkB_47, lkB_48, lkB_49, lkB_50, lkB_51, lkB_52, lkB_53, lkB_54, lkB_55, lkB_56, lkB_57, lkB_58, lkB_59, lkB_60, lkB_61, lkB_62, lkB_63, lkB_64, lkB_65, lkB_66, lkB_67, lkB_68, lkB_69, lkB_70, lkB_71, lkB_72, lkB_73, lkB_74, lkB_75, lkB_76, lkB_77, lkB_78, lkB_79, lkB_80, lkB_81, lkB_82, lkB_83, lkB_84, lkB_85, lkB_86, lkB_87, lkB_88, lkB_89, lkB_90, lkB_91, lkB_92, lkB_93, lkB_94, lkB_95, lkB_96, lkB_97, lkB_98, lkB_99, lkB_100, lkB_101] <;> rfl
set_option maxHeartbeats 16000000 in
set_option maxRecDepth 20000 in
theorem s_X8_image (c : Rec) (s : Rec) (p : Rec) (t : Rec) (e : Rec) (o : Rec) (oh : Rec) (h : Rec) (k : Rec) (q : Rec) (s1 : Rec) (p1 : Rec) (s2 : Rec) (p2 : Rec) (t1 : Rec) (t2 : Rec) (i : Int32) (hp : p_X8_image c s p t e o oh h k q s1 p1 s2 p2 t1 t2 i) : Spec 3 0 0 mX8_image [.ref 0, .int i] (wB c s p t e o oh h k q s1 p1 s2 p2 t1 t2) (Ret (some (.int ((f_X8_image c s p t e o oh h k q s1 p1 s2 p2 t1 t2 i).1))) (wB ((f_X8_image c s p t e o oh h k q s1 p1 s2 p2 t1 t2 i).2.1) s p t e o oh h k q ((f_X8_image c s p t e o oh h k q s1 p1 s2 p2 t1 t2 i).2.2.1) ((f_X8_image c s p t e o oh h k q s1 p1 s2 p2 t1 t2 i).2.2.2.1) ((f_X8_image c s p t e o oh h k q s1 p1 s2 p2 t1 t2 i).2.2.2.2.1) ((f_X8_image c s p t e o oh h k q s1 p1 s2 p2 t1 t2 i).2.2.2.2.2.1) ((f_X8_image c s p t e o oh h k q s1 p1 s2 p2 t1 t2 i).2.2.2.2.2.2.1) ((f_X8_image c s p t e o oh h k q s1 p1 s2 p2 t1 t2 i).2.2.2.2.2.2.2))) := by
  obtain ⟨zq, hq⟩ : ∃ z, z = (f_X8_image c s p t e o oh h k q s1 p1 s2 p2 t1 t2 i) := ⟨_, rfl⟩
  rw [← hq]
  unfold f_X8_image at hq
  unfold p_X8_image at hp
  refine Sof fun sc => ?_
  refine g_blk hz0 kX8_image_0 ?_
  refine cV [0, 1, 2, 3, 4, 5, 6, 7, 8, 9, 10, 11, 12, 13, 14, 15, 16, 17, 18, 19, 20, 21, 22, 23, 24, 25, 26, 27, 28, 29, 30, 31, 32, 33, 34, 35, 36, 37, 38, 39, 40, 41, 42, 43, 44, 45, 46, 47, 48, 49, 50, 51, 52, 53, 54, 55, 56, 57, 58, 59, 60, 61, 62, 63, 64, 65, 66, 67, 68, 69, 70, 71, 72, 73, 74, 75, 76, 77, 78, 79, 80, 81, 82, 83, 84, 85, 86, 87, 88, 89, 90, 91, 92, 93, 94, 95, 96, 97, 98, 99, 100, 101, 102, 103, 104, 105, 106, 107, 108, 109, 110, 111] (wB c s p t e o oh h k q s1 p1 s2 p2 t1 t2) (s_X8_isImage c s p t e o oh h k q s1 p1 s2 p2 t1 t2 i) rfl cwX8_isImage dX8_image_2 rfl rfl (hm63_B_B _ _ _ _ _ _ _ _ _ _ _ _ _ _ _ _) ((len_B _ _ _ _ _ _ _ _ _ _ _ _ _ _ _ _).trans (len_B _ _ _ _ _ _ _ _ _ _ _ _ _ _ _ _).symm) (wB c s p t e o oh h k q s1 p1 s2 p2 t1 t2) (pw85_B_B _ _ _ _ _ _ _ _ _ _ _ _ _ _ _ _ _) ?_
  refine g_blk hz0 kX8_image_5 ?_
  refine ⟨fun c1 => ?_, fun c1 => ?_⟩
  · rw [if_neg (show ¬ ((f_X8_within i ((Int32.ofInt 0)) ((Int32.ofInt 1))) = 0) from c1)] at hq
    replace hp := hp.2 c1
    refine g_blk hz0 kX8_image_15 ?_
    by_cases e3 : i = (Int32.ofInt 0)
    · rw [if_pos e3] at hq
      replace hp := hp.1 e3
      refine ⟨(show vp_in i 2 from by rw [e3]; exact vinL (by decide)), 68, (show rowF [68, 90] (Int32.toNatClampNeg i) = some 68 from by rw [e3]; rfl), ?_⟩
      refine cV [68, 69, 70, 71, 72, 73, 74, 75, 76, 77, 78, 79, 1, 2, 3, 4, 5, 6, 7, 8, 9, 10, 11, 12] (wPP s1 p1 s p) (s_X3_copy s1 p1 s p hp.1) rfl cwX3_copy dX8_image_25 rfl rfl (hm74_B_PP _ _ _ _ _ _ _ _ _ _ _ _ _ _ _ _) ((len_PP _ _ _ _).trans (len_PP _ _ _ _).symm) (wB c s p t e o oh h k q ((f_X3_copy s1 p1 s p).1) ((f_X3_copy s1 p1 s p).2) s2 p2 t1 t2) (pw105_B_PP _ _ _ _ _ _ _ _ _ _ _ _ _ _ _ _ _ _) ?_
      replace hp := hp.2
      obtain ⟨g4, hg4⟩ : ∃ z, z = (f_X3_copy s1 p1 s p) := ⟨_, rfl⟩
      try rw [← hg4] at hp
      try rw [← hg4] at hq
      rw [← hg4]
      refine g_blk hz0 kX8_image_28 ?_
      refine ⟨(show vp_in i 2 from by rw [e3]; exact vinL (by decide)), 80, (show rowF [80, 102] (Int32.toNatClampNeg i) = some 80 from by rw [e3]; rfl), ?_⟩
      refine cV [80, 81, 82, 83, 84, 85, 86, 87, 88, 89, 13, 14, 15, 16, 17, 18, 19, 20, 21, 22] (wTT t1 t) (s_X2_copy t1 t hp.1) rfl cwX2_copy dX8_image_38 rfl rfl (hm75_B_TT _ _ _ _ _ _ _ _ _ _ _ _ _ _ _ _) ((len_TT _ _).trans (len_TT _ _).symm) (wB c s p t e o oh h k q (g4.1) (g4.2) s2 p2 (f_X2_copy t1 t) t2) (pw106_B_TT _ _ _ _ _ _ _ _ _ _ _ _ _ _ _ _ _) ?_
      replace hp := hp.2
      obtain ⟨g5, hg5⟩ : ∃ z, z = (f_X2_copy t1 t) := ⟨_, rfl⟩
      try rw [← hg5] at hp
      try rw [← hg5] at hq
      rw [← hg5]
      refine g_blk hz0 kX8_image_41 ?_
      refine ⟨hp.1, ?_⟩
      replace hp := hp.2
      refine ⟨Or.inr rfl, ?_⟩
      subst hq
      exact ⟨fun h => (by cases h), rfl, rfl⟩
    · rw [if_neg e3] at hq
      replace hp := hp.2 e3
      by_cases e6 : i = (Int32.ofInt 1)
      · rw [if_pos e6] at hq
        replace hp := hp.1 e6
        refine ⟨(show vp_in i 2 from by rw [e6]; exact vinL (by decide)), 90, (show rowF [68, 90] (Int32.toNatClampNeg i) = some 90 from by rw [e6]; rfl), ?_⟩
        refine cV [90, 91, 92, 93, 94, 95, 96, 97, 98, 99, 100, 101, 1, 2, 3, 4, 5, 6, 7, 8, 9, 10, 11, 12] (wPP s2 p2 s p) (s_X3_copy s2 p2 s p hp.1) rfl cwX3_copy dX8_image_25 rfl rfl (hm76_B_PP _ _ _ _ _ _ _ _ _ _ _ _ _ _ _ _) ((len_PP _ _ _ _).trans (len_PP _ _ _ _).symm) (wB c s p t e o oh h k q s1 p1 ((f_X3_copy s2 p2 s p).1) ((f_X3_copy s2 p2 s p).2) t1 t2) (pw107_B_PP _ _ _ _ _ _ _ _ _ _ _ _ _ _ _ _ _ _) ?_
        replace hp := hp.2
        obtain ⟨g7, hg7⟩ : ∃ z, z = (f_X3_copy s2 p2 s p) := ⟨_, rfl⟩
        try rw [← hg7] at hp
        try rw [← hg7] at hq
        rw [← hg7]
        refine g_blk hz0 kX8_image_28 ?_
        refine ⟨(show vp_in i 2 from by rw [e6]; exact vinL (by decide)), 102, (show rowF [80, 102] (Int32.toNatClampNeg i) = some 102 from by rw [e6]; rfl), ?_⟩
        refine cV [102, 103, 104, 105, 106, 107, 108, 109, 110, 111, 13, 14, 15, 16, 17, 18, 19, 20, 21, 22] (wTT t2 t) (s_X2_copy t2 t hp.1) rfl cwX2_copy dX8_image_38 rfl rfl (hm77_B_TT _ _ _ _ _ _ _ _ _ _ _ _ _ _ _ _) ((len_TT _ _).trans (len_TT _ _).symm) (wB c s p t e o oh h k q s1 p1 (g7.1) (g7.2) t1 (f_X2_copy t2 t)) (pw108_B_TT _ _ _ _ _ _ _ _ _ _ _ _ _ _ _ _ _) ?_
        replace hp := hp.2
        obtain ⟨g8, hg8⟩ : ∃ z, z = (f_X2_copy t2 t) := ⟨_, rfl⟩
        try rw [← hg8] at hp
        try rw [← hg8] at hq
        rw [← hg8]
        refine g_blk hz0 kX8_image_41 ?_
        refine ⟨hp.1, ?_⟩
        replace hp := hp.2
        refine ⟨Or.inr rfl, ?_⟩
        subst hq
        exact ⟨fun h => (by cases h), rfl, rfl⟩
      · rw [if_neg e6] at hq
        replace hp := hp.2 e6
        exact hp.elim
  · rw [if_pos (show (f_X8_within i ((Int32.ofInt 0)) ((Int32.ofInt 1))) = 0 from c1)] at hq
    refine g_blk hz0 kX8_image_8 ?_
    refine cV [0, 1, 2, 3, 4, 5, 6, 7, 8, 9, 10, 11, 12, 13, 14, 15, 16, 17, 18, 19, 20, 21, 22, 23, 24, 25, 26, 27, 28, 29, 30, 31, 32, 33, 34, 35, 36, 37, 38, 39, 40, 41, 42, 43, 44, 45, 46, 47, 48, 49, 50, 51, 52, 53, 54, 55, 56, 57, 58, 59, 60, 61, 62, 63, 64, 65, 66, 67, 68, 69, 70, 71, 72, 73, 74, 75, 76, 77, 78, 79, 80, 81, 82, 83, 84, 85, 86, 87, 88, 89, 90, 91, 92, 93, 94, 95, 96, 97, 98, 99, 100, 101, 102, 103, 104, 105, 106, 107, 108, 109, 110, 111] (wB c s p t e o oh h k q s1 p1 s2 p2 t1 t2) (s_X8_refuseBad c s p t e o oh h k q s1 p1 s2 p2 t1 t2 ((Int32.ofInt (-2)))) rfl cwX8_refuseBad dX8_image_11 rfl rfl (hm63_B_B _ _ _ _ _ _ _ _ _ _ _ _ _ _ _ _) ((len_B _ _ _ _ _ _ _ _ _ _ _ _ _ _ _ _).trans (len_B _ _ _ _ _ _ _ _ _ _ _ _ _ _ _ _).symm) (wB ((f_X8_refuseBad c s p t e o oh h k q s1 p1 s2 p2 t1 t2 ((Int32.ofInt (-2)))).2) s p t e o oh h k q s1 p1 s2 p2 t1 t2) (pw85_B_B _ _ _ _ _ _ _ _ _ _ _ _ _ _ _ _ _) ?_
    obtain ⟨g2, hg2⟩ : ∃ z, z = (f_X8_refuseBad c s p t e o oh h k q s1 p1 s2 p2 t1 t2 ((Int32.ofInt (-2)))) := ⟨_, rfl⟩
    try rw [← hg2] at hp
    try rw [← hg2] at hq
    rw [← hg2]
    refine g_blk hz0 kX8_image_14 ?_
    subst hq
    exact ⟨fun h => (by cases h), rfl, rfl⟩
