set_option maxHeartbeats 16000000 in
theorem pw90_B_P (c : Rec) (s : Rec) (p : Rec) (t : Rec) (e : Rec) (o : Rec) (oh : Rec) (h : Rec) (k : Rec) (q : Rec) (s1 : Rec) (p1 : Rec) (s2 : Rec) (p2 : Rec) (t1 : Rec) (t2 : Rec)  : putW (wB c s p t e o oh h k q s1 p1 s2 p2 t1 t2) [1, 2, 3, 4, 5, 6, 7, 8, 9, 10, 11, 12] ((wP s p).map (ren [1, 2, 3, 4, 5, 6, 7, 8, 9, 10, 11, 12])) = (wB c s p t e o oh h k q s1 p1 s2 p2 t1 t2) := rfl
set_option maxHeartbeats 16000000 in
theorem pw91_B_S (c : Rec) (s : Rec) (p : Rec) (t : Rec) (e : Rec) (o : Rec) (oh : Rec) (h : Rec) (k : Rec) (q : Rec) (s1 : Rec) (p1 : Rec) (s2 : Rec) (p2 : Rec) (t1 : Rec) (t2 : Rec) (s9 : Rec) : putW (wB c s p t e o oh h k q s1 p1 s2 p2 t1 t2) [2, 3, 4, 5, 6, 7, 8] ((wS s9).map (ren [2, 3, 4, 5, 6, 7, 8])) = (wB c s9 p t e o oh h k q s1 p1 s2 p2 t1 t2) := rfl
def f_X8_hole (c : Rec) (s : Rec) (p : Rec) (t : Rec) (e : Rec) (o : Rec) (oh : Rec) (h : Rec) (k : Rec) (q : Rec) (s1 : Rec) (p1 : Rec) (s2 : Rec) (p2 : Rec) (t1 : Rec) (t2 : Rec) (c1 : Int32) : Int32 × Rec × Rec × Rec × Rec := if (f_X4_onBoard s c1) = 0 then (((f_X8_refuseBad c s p t e o oh h k q s1 p1 s2 p2 t1 t2 ((Int32.ofInt (-2)))).1), ((f_X8_refuseBad c s p t e o oh h k q s1 p1 s2 p2 t1 t2 ((Int32.ofInt (-2)))).2), s, t, q) else (if (f_X4_has s c1) = 0 then (((f_X8_refuseNo c s p t e o oh h k q s1 p1 s2 p2 t1 t2 ((Int32.ofInt (-3)))).1), ((f_X8_refuseNo c s p t e o oh h k q s1 p1 s2 p2 t1 t2 ((Int32.ofInt (-3)))).2), s, t, q) else (if (f_X3_manOn s p c1) = (Int32.ofInt (-1)) then (if 0 < (s.1 2) then (((f_X8_refuseNo c s p t e o oh h k q s1 p1 s2 p2 t1 t2 ((Int32.ofInt (-3)))).1), ((f_X8_refuseNo c s p t e o oh h k q s1 p1 s2 p2 t1 t2 ((Int32.ofInt (-3)))).2), s, t, q) else (if (p.1 7) ≤ 0 then ((Int32.ofInt 1), c, (f_X4_cutOut s c1), (f_X2_forget t), (f_X5_forget q)) else (((f_X8_refuseNo c s p t e o oh h k q s1 p1 s2 p2 t1 t2 ((Int32.ofInt (-3)))).1), ((f_X8_refuseNo c s p t e o oh h k q s1 p1 s2 p2 t1 t2 ((Int32.ofInt (-3)))).2), s, t, q))) else (((f_X8_refuseNo c s p t e o oh h k q s1 p1 s2 p2 t1 t2 ((Int32.ofInt (-3)))).1), ((f_X8_refuseNo c s p t e o oh h k q s1 p1 s2 p2 t1 t2 ((Int32.ofInt (-3)))).2), s, t, q)))
def p_X8_hole (c : Rec) (s : Rec) (p : Rec) (t : Rec) (e : Rec) (o : Rec) (oh : Rec) (h : Rec) (k : Rec) (q : Rec) (s1 : Rec) (p1 : Rec) (s2 : Rec) (p2 : Rec) (t1 : Rec) (t2 : Rec) (c1 : Int32) : Prop := ((f_X4_onBoard s c1) = 0 → True) ∧ (¬ ((f_X4_onBoard s c1) = 0) → ((p_X4_has s c1) ∧ (((f_X4_has s c1) = 0 → True) ∧ (¬ ((f_X4_has s c1) = 0) → ((p_X3_manOn s p c1) ∧ (((f_X3_manOn s p c1) = (Int32.ofInt (-1)) → ((0 < (s.1 2) → True) ∧ (¬ (0 < (s.1 2)) → (((p.1 7) ≤ 0 → ((p_X4_cutOut s c1) ∧ True)) ∧ (¬ ((p.1 7) ≤ 0) → True))))) ∧ (¬ ((f_X3_manOn s p c1) = (Int32.ofInt (-1))) → True)))))))
set_option maxHeartbeats 16000000 in
set_option maxRecDepth 20000 in
theorem s_X8_hole (c : Rec) (s : Rec) (p : Rec) (t : Rec) (e : Rec) (o : Rec) (oh : Rec) (h : Rec) (k : Rec) (q : Rec) (s1 : Rec) (p1 : Rec) (s2 : Rec) (p2 : Rec) (t1 : Rec) (t2 : Rec) (c1 : Int32) (hp : p_X8_hole c s p t e o oh h k q s1 p1 s2 p2 t1 t2 c1) : Spec 3 0 0 mX8_hole [.ref 0, .int c1] (wB c s p t e o oh h k q s1 p1 s2 p2 t1 t2) (Ret (some (.int ((f_X8_hole c s p t e o oh h k q s1 p1 s2 p2 t1 t2 c1).1))) (wB ((f_X8_hole c s p t e o oh h k q s1 p1 s2 p2 t1 t2 c1).2.1) ((f_X8_hole c s p t e o oh h k q s1 p1 s2 p2 t1 t2 c1).2.2.1) p ((f_X8_hole c s p t e o oh h k q s1 p1 s2 p2 t1 t2 c1).2.2.2.1) e o oh h k ((f_X8_hole c s p t e o oh h k q s1 p1 s2 p2 t1 t2 c1).2.2.2.2) s1 p1 s2 p2 t1 t2)) := by
  obtain ⟨zq, hq⟩ : ∃ z, z = (f_X8_hole c s p t e o oh h k q s1 p1 s2 p2 t1 t2 c1) := ⟨_, rfl⟩
  rw [← hq]
  unfold f_X8_hole at hq
  unfold p_X8_hole at hp
  refine Sof fun sc => ?_
  refine g_blk hz0 kX8_hole_0 ?_
  refine cVp [2, 3, 4, 5, 6, 7, 8] (wS s) (s_X4_onBoard s c1) rfl cwX4_onBoard dX8_hole_8 rfl rfl (hm67_B_S _ _ _ _ _ _ _ _ _ _ _ _ _ _ _ _) ?_
  refine g_blk hz0 kX8_hole_11 ?_
  refine ⟨fun hc1 => ?_, fun hc1 => ?_⟩
  · rw [if_neg (show ¬ ((f_X4_onBoard s c1) = 0) from hc1)] at hq
    replace hp := hp.2 hc1
    refine g_blk hz0 kX8_hole_21 ?_
    refine cVp [2, 3, 4, 5, 6, 7, 8] (wS s) (s_X4_has s c1 hp.1) rfl cwX4_has dX8_hole_29 rfl rfl (hm67_B_S _ _ _ _ _ _ _ _ _ _ _ _ _ _ _ _) ?_
    replace hp := hp.2
    refine g_blk hz0 kX8_hole_32 ?_
    refine ⟨fun hc3 => ?_, fun hc3 => ?_⟩
    · rw [if_pos (show (f_X4_has s c1) = 0 from hc3)] at hq
      refine g_blk hz0 kX8_hole_70 ?_
      refine cV [0, 1, 2, 3, 4, 5, 6, 7, 8, 9, 10, 11, 12, 13, 14, 15, 16, 17, 18, 19, 20, 21, 22, 23, 24, 25, 26, 27, 28, 29, 30, 31, 32, 33, 34, 35, 36, 37, 38, 39, 40, 41, 42, 43, 44, 45, 46, 47, 48, 49, 50, 51, 52, 53, 54, 55, 56, 57, 58, 59, 60, 61, 62, 63, 64, 65, 66, 67, 68, 69, 70, 71, 72, 73, 74, 75, 76, 77, 78, 79, 80, 81, 82, 83, 84, 85, 86, 87, 88, 89, 90, 91, 92, 93, 94, 95, 96, 97, 98, 99, 100, 101, 102, 103, 104, 105, 106, 107, 108, 109, 110, 111] (wB c s p t e o oh h k q s1 p1 s2 p2 t1 t2) (s_X8_refuseNo c s p t e o oh h k q s1 p1 s2 p2 t1 t2 ((Int32.ofInt (-3)))) rfl cwX8_refuseNo dX8_hole_73 rfl rfl (hm63_B_B _ _ _ _ _ _ _ _ _ _ _ _ _ _ _ _) ((len_B _ _ _ _ _ _ _ _ _ _ _ _ _ _ _ _).trans (len_B _ _ _ _ _ _ _ _ _ _ _ _ _ _ _ _).symm) (wB ((f_X8_refuseNo c s p t e o oh h k q s1 p1 s2 p2 t1 t2 ((Int32.ofInt (-3)))).2) s p t e o oh h k q s1 p1 s2 p2 t1 t2) (pw85_B_B _ _ _ _ _ _ _ _ _ _ _ _ _ _ _ _ _) ?_
      obtain ⟨g4, hg4⟩ : ∃ z, z = (f_X8_refuseNo c s p t e o oh h k q s1 p1 s2 p2 t1 t2 ((Int32.ofInt (-3)))) := ⟨_, rfl⟩
      try rw [← hg4] at hp
      try rw [← hg4] at hq
      rw [← hg4]
      refine g_blk hz0 kX8_hole_76 ?_
      subst hq
      exact ⟨fun h => (by cases h), rfl, rfl⟩
    · rw [if_neg (show ¬ ((f_X4_has s c1) = 0) from hc3)] at hq
      replace hp := hp.2 hc3
      refine g_blk hz0 kX8_hole_35 ?_
      refine cVp [1, 2, 3, 4, 5, 6, 7, 8, 9, 10, 11, 12] (wP s p) (s_X3_manOn s p c1 hp.1) rfl cwX3_manOn dX8_hole_40 rfl rfl (hm64_B_P _ _ _ _ _ _ _ _ _ _ _ _ _ _ _ _) ?_
      replace hp := hp.2
      refine g_blk hz0 kX8_hole_43 ?_
      refine ⟨fun hc5 => ?_, fun hc5 => ?_⟩
      · rw [if_neg (show ¬ ((f_X3_manOn s p c1) = (Int32.ofInt (-1))) from hc5)] at hq
        refine g_blk hz0 kX8_hole_70 ?_
        refine cV [0, 1, 2, 3, 4, 5, 6, 7, 8, 9, 10, 11, 12, 13, 14, 15, 16, 17, 18, 19, 20, 21, 22, 23, 24, 25, 26, 27, 28, 29, 30, 31, 32, 33, 34, 35, 36, 37, 38, 39, 40, 41, 42, 43, 44, 45, 46, 47, 48, 49, 50, 51, 52, 53, 54, 55, 56, 57, 58, 59, 60, 61, 62, 63, 64, 65, 66, 67, 68, 69, 70, 71, 72, 73, 74, 75, 76, 77, 78, 79, 80, 81, 82, 83, 84, 85, 86, 87, 88, 89, 90, 91, 92, 93, 94, 95, 96, 97, 98, 99, 100, 101, 102, 103, 104, 105, 106, 107, 108, 109, 110, 111] (wB c s p t e o oh h k q s1 p1 s2 p2 t1 t2) (s_X8_refuseNo c s p t e o oh h k q s1 p1 s2 p2 t1 t2 ((Int32.ofInt (-3)))) rfl cwX8_refuseNo dX8_hole_73 rfl rfl (hm63_B_B _ _ _ _ _ _ _ _ _ _ _ _ _ _ _ _) ((len_B _ _ _ _ _ _ _ _ _ _ _ _ _ _ _ _).trans (len_B _ _ _ _ _ _ _ _ _ _ _ _ _ _ _ _).symm) (wB ((f_X8_refuseNo c s p t e o oh h k q s1 p1 s2 p2 t1 t2 ((Int32.ofInt (-3)))).2) s p t e o oh h k q s1 p1 s2 p2 t1 t2) (pw85_B_B _ _ _ _ _ _ _ _ _ _ _ _ _ _ _ _ _) ?_
        obtain ⟨g13, hg13⟩ : ∃ z, z = (f_X8_refuseNo c s p t e o oh h k q s1 p1 s2 p2 t1 t2 ((Int32.ofInt (-3)))) := ⟨_, rfl⟩
        try rw [← hg13] at hp
        try rw [← hg13] at hq
        rw [← hg13]
        refine g_blk hz0 kX8_hole_76 ?_
        subst hq
        exact ⟨fun h => (by cases h), rfl, rfl⟩
      · rw [if_pos (show (f_X3_manOn s p c1) = (Int32.ofInt (-1)) from hc5)] at hq
        replace hp := hp.1 hc5
        refine g_blk hz0 kX8_hole_47 ?_
        refine ⟨fun hc6 => ?_, fun hc6 => ?_⟩
        · rw [if_pos (show 0 < (s.1 2) from hc6)] at hq
          refine g_blk hz0 kX8_hole_70 ?_
          refine cV [0, 1, 2, 3, 4, 5, 6, 7, 8, 9, 10, 11, 12, 13, 14, 15, 16, 17, 18, 19, 20, 21, 22, 23, 24, 25, 26, 27, 28, 29, 30, 31, 32, 33, 34, 35, 36, 37, 38, 39, 40, 41, 42, 43, 44, 45, 46, 47, 48, 49, 50, 51, 52, 53, 54, 55, 56, 57, 58, 59, 60, 61, 62, 63, 64, 65, 66, 67, 68, 69, 70, 71, 72, 73, 74, 75, 76, 77, 78, 79, 80, 81, 82, 83, 84, 85, 86, 87, 88, 89, 90, 91, 92, 93, 94, 95, 96, 97, 98, 99, 100, 101, 102, 103, 104, 105, 106, 107, 108, 109, 110, 111] (wB c s p t e o oh h k q s1 p1 s2 p2 t1 t2) (s_X8_refuseNo c s p t e o oh h k q s1 p1 s2 p2 t1 t2 ((Int32.ofInt (-3)))) rfl cwX8_refuseNo dX8_hole_73 rfl rfl (hm63_B_B _ _ _ _ _ _ _ _ _ _ _ _ _ _ _ _) ((len_B _ _ _ _ _ _ _ _ _ _ _ _ _ _ _ _).trans (len_B _ _ _ _ _ _ _ _ _ _ _ _ _ _ _ _).symm) (wB ((f_X8_refuseNo c s p t e o oh h k q s1 p1 s2 p2 t1 t2 ((Int32.ofInt (-3)))).2) s p t e o oh h k q s1 p1 s2 p2 t1 t2) (pw85_B_B _ _ _ _ _ _ _ _ _ _ _ _ _ _ _ _ _) ?_
          obtain ⟨g7, hg7⟩ : ∃ z, z = (f_X8_refuseNo c s p t e o oh h k q s1 p1 s2 p2 t1 t2 ((Int32.ofInt (-3)))) := ⟨_, rfl⟩
          try rw [← hg7] at hp
          try rw [← hg7] at hq
          rw [← hg7]
          refine g_blk hz0 kX8_hole_76 ?_
          subst hq
          exact ⟨fun h => (by cases h), rfl, rfl⟩
        · rw [if_neg (show ¬ (0 < (s.1 2)) from hc6)] at hq
          replace hp := hp.2 hc6
          refine g_blk hz0 kX8_hole_60 ?_
          refine ⟨fun hc8 => ?_, fun hc8 => ?_⟩
          · rw [if_pos (show (p.1 7) ≤ 0 from hc8)] at hq
            replace hp := hp.1 hc8
            refine g_blk hz0 kX8_hole_77 ?_
            refine cV [2, 3, 4, 5, 6, 7, 8] (wS s) (s_X4_cutOut s c1 hp.1) rfl cwX4_cutOut dX8_hole_85 rfl rfl (hm67_B_S _ _ _ _ _ _ _ _ _ _ _ _ _ _ _ _) ((len_S _).trans (len_S _).symm) (wB c (f_X4_cutOut s c1) p t e o oh h k q s1 p1 s2 p2 t1 t2) (pw91_B_S _ _ _ _ _ _ _ _ _ _ _ _ _ _ _ _ _) ?_
            replace hp := hp.2
            obtain ⟨g9, hg9⟩ : ∃ z, z = (f_X4_cutOut s c1) := ⟨_, rfl⟩
            try rw [← hg9] at hp
            try rw [← hg9] at hq
            rw [← hg9]
            refine g_blk hz0 kX8_hole_88 ?_
            refine cV [13, 14, 15, 16, 17, 18, 19, 20, 21, 22] (wT t) (s_X2_forget t) rfl cwX2_forget dX8_hole_92 rfl rfl (hm65_B_T _ _ _ _ _ _ _ _ _ _ _ _ _ _ _ _) ((len_T _).trans (len_T _).symm) (wB c g9 p (f_X2_forget t) e o oh h k q s1 p1 s2 p2 t1 t2) (pw87_B_T _ _ _ _ _ _ _ _ _ _ _ _ _ _ _ _ _) ?_
            obtain ⟨g10, hg10⟩ : ∃ z, z = (f_X2_forget t) := ⟨_, rfl⟩
            try rw [← hg10] at hp
            try rw [← hg10] at hq
            rw [← hg10]
            refine g_blk hz0 kX8_hole_95 ?_
            refine cV [50, 51, 52, 53, 54, 55, 56, 57, 58, 59, 60, 61, 62, 63] (wQ q) (s_X5_forget q) rfl cwX5_forget dX8_hole_99 rfl rfl (hm66_B_Q _ _ _ _ _ _ _ _ _ _ _ _ _ _ _ _) ((len_Q _).trans (len_Q _).symm) (wB c g9 p g10 e o oh h k (f_X5_forget q) s1 p1 s2 p2 t1 t2) (pw88_B_Q _ _ _ _ _ _ _ _ _ _ _ _ _ _ _ _ _) ?_
            obtain ⟨g11, hg11⟩ : ∃ z, z = (f_X5_forget q) := ⟨_, rfl⟩
            try rw [← hg11] at hp
            try rw [← hg11] at hq
            rw [← hg11]
            refine g_blk hz0 kX8_hole_102 ?_
            subst hq
            exact ⟨fun h => (by cases h), rfl, rfl⟩
          · rw [if_neg (show ¬ ((p.1 7) ≤ 0) from hc8)] at hq
            refine g_blk hz0 kX8_hole_70 ?_
            refine cV [0, 1, 2, 3, 4, 5, 6, 7, 8, 9, 10, 11, 12, 13, 14, 15, 16, 17, 18, 19, 20, 21, 22, 23, 24, 25, 26, 27, 28, 29, 30, 31, 32, 33, 34, 35, 36, 37, 38, 39, 40, 41, 42, 43, 44, 45, 46, 47, 48, 49, 50, 51, 52, 53, 54, 55, 56, 57, 58, 59, 60, 61, 62, 63, 64, 65, 66, 67, 68, 69, 70, 71, 72, 73, 74, 75, 76, 77, 78, 79, 80, 81, 82, 83, 84, 85, 86, 87, 88, 89, 90, 91, 92, 93, 94, 95, 96, 97, 98, 99, 100, 101, 102, 103, 104, 105, 106, 107, 108, 109, 110, 111] (wB c s p t e o oh h k q s1 p1 s2 p2 t1 t2) (s_X8_refuseNo c s p t e o oh h k q s1 p1 s2 p2 t1 t2 ((Int32.ofInt (-3)))) rfl cwX8_refuseNo dX8_hole_73 rfl rfl (hm63_B_B _ _ _ _ _ _ _ _ _ _ _ _ _ _ _ _) ((len_B _ _ _ _ _ _ _ _ _ _ _ _ _ _ _ _).trans (len_B _ _ _ _ _ _ _ _ _ _ _ _ _ _ _ _).symm) (wB ((f_X8_refuseNo c s p t e o oh h k q s1 p1 s2 p2 t1 t2 ((Int32.ofInt (-3)))).2) s p t e o oh h k q s1 p1 s2 p2 t1 t2) (pw85_B_B _ _ _ _ _ _ _ _ _ _ _ _ _ _ _ _ _) ?_
            obtain ⟨g12, hg12⟩ : ∃ z, z = (f_X8_refuseNo c s p t e o oh h k q s1 p1 s2 p2 t1 t2 ((Int32.ofInt (-3)))) := ⟨_, rfl⟩
            try rw [← hg12] at hp
            try rw [← hg12] at hq
            rw [← hg12]
            refine g_blk hz0 kX8_hole_76 ?_
            subst hq
            exact ⟨fun h => (by cases h), rfl, rfl⟩
  · rw [if_pos (show (f_X4_onBoard s c1) = 0 from hc1)] at hq
    refine g_blk hz0 kX8_hole_14 ?_
    refine cV [0, 1, 2, 3, 4, 5, 6, 7, 8, 9, 10, 11, 12, 13, 14, 15, 16, 17, 18, 19, 20, 21, 22, 23, 24, 25, 26, 27, 28, 29, 30, 31, 32, 33, 34, 35, 36, 37, 38, 39, 40, 41, 42, 43, 44, 45, 46, 47, 48, 49, 50, 51, 52, 53, 54, 55, 56, 57, 58, 59, 60, 61, 62, 63, 64, 65, 66, 67, 68, 69, 70, 71, 72, 73, 74, 75, 76, 77, 78, 79, 80, 81, 82, 83, 84, 85, 86, 87, 88, 89, 90, 91, 92, 93, 94, 95, 96, 97, 98, 99, 100, 101, 102, 103, 104, 105, 106, 107, 108, 109, 110, 111] (wB c s p t e o oh h k q s1 p1 s2 p2 t1 t2) (s_X8_refuseBad c s p t e o oh h k q s1 p1 s2 p2 t1 t2 ((Int32.ofInt (-2)))) rfl cwX8_refuseBad dX8_hole_17 rfl rfl (hm63_B_B _ _ _ _ _ _ _ _ _ _ _ _ _ _ _ _) ((len_B _ _ _ _ _ _ _ _ _ _ _ _ _ _ _ _).trans (len_B _ _ _ _ _ _ _ _ _ _ _ _ _ _ _ _).symm) (wB ((f_X8_refuseBad c s p t e o oh h k q s1 p1 s2 p2 t1 t2 ((Int32.ofInt (-2)))).2) s p t e o oh h k q s1 p1 s2 p2 t1 t2) (pw85_B_B _ _ _ _ _ _ _ _ _ _ _ _ _ _ _ _ _) ?_
    obtain ⟨g2, hg2⟩ : ∃ z, z = (f_X8_refuseBad c s p t e o oh h k q s1 p1 s2 p2 t1 t2 ((Int32.ofInt (-2)))) := ⟨_, rfl⟩
    try rw [← hg2] at hp
    try rw [← hg2] at hq
    rw [← hg2]
    refine g_blk hz0 kX8_hole_20 ?_
    subst hq
    exact ⟨fun h => (by cases h), rfl, rfl⟩
