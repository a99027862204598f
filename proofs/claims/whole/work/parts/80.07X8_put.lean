def f_X8_put (c : Rec) (s : Rec) (p : Rec) (t : Rec) (e : Rec) (o : Rec) (oh : Rec) (h : Rec) (k : Rec) (q : Rec) (s1 : Rec) (p1 : Rec) (s2 : Rec) (p2 : Rec) (t1 : Rec) (t2 : Rec) (w : Int32) (v : Int32) : Int32 × Rec × Rec × Rec := if w = 0 then (if (f_X8_within v ((Int32.ofInt 1)) ((Int32.ofInt 9))) = 0 then (if w = (Int32.ofInt 1) then (if (f_X8_within v ((Int32.ofInt 1)) ((Int32.ofInt 3))) = 0 then (((f_X8_refuseBad c s p t e o oh h k q s1 p1 s2 p2 t1 t2 ((Int32.ofInt (-2)))).1), ((f_X8_refuseBad c s p t e o oh h k q s1 p1 s2 p2 t1 t2 ((Int32.ofInt (-2)))).2), p, t) else ((p.1 9), c, (setG p 9 v), (f_X2_forget t))) else (((f_X8_refuseBad c s p t e o oh h k q s1 p1 s2 p2 t1 t2 ((Int32.ofInt (-2)))).1), ((f_X8_refuseBad c s p t e o oh h k q s1 p1 s2 p2 t1 t2 ((Int32.ofInt (-2)))).2), p, t)) else ((p.1 8), c, (setG p 8 v), (f_X2_forget t))) else (if w = (Int32.ofInt 1) then (if (f_X8_within v ((Int32.ofInt 1)) ((Int32.ofInt 3))) = 0 then (((f_X8_refuseBad c s p t e o oh h k q s1 p1 s2 p2 t1 t2 ((Int32.ofInt (-2)))).1), ((f_X8_refuseBad c s p t e o oh h k q s1 p1 s2 p2 t1 t2 ((Int32.ofInt (-2)))).2), p, t) else ((p.1 9), c, (setG p 9 v), (f_X2_forget t))) else (((f_X8_refuseBad c s p t e o oh h k q s1 p1 s2 p2 t1 t2 ((Int32.ofInt (-2)))).1), ((f_X8_refuseBad c s p t e o oh h k q s1 p1 s2 p2 t1 t2 ((Int32.ofInt (-2)))).2), p, t))
set_option maxHeartbeats 16000000 in
set_option maxRecDepth 20000 in
theorem s_X8_put (c : Rec) (s : Rec) (p : Rec) (t : Rec) (e : Rec) (o : Rec) (oh : Rec) (h : Rec) (k : Rec) (q : Rec) (s1 : Rec) (p1 : Rec) (s2 : Rec) (p2 : Rec) (t1 : Rec) (t2 : Rec) (w : Int32) (v : Int32) : Spec 1 0 0 mX8_put [.ref 0, .int w, .int v] (wB c s p t e o oh h k q s1 p1 s2 p2 t1 t2) (Ret (some (.int ((f_X8_put c s p t e o oh h k q s1 p1 s2 p2 t1 t2 w v).1))) (wB ((f_X8_put c s p t e o oh h k q s1 p1 s2 p2 t1 t2 w v).2.1) s ((f_X8_put c s p t e o oh h k q s1 p1 s2 p2 t1 t2 w v).2.2.1) ((f_X8_put c s p t e o oh h k q s1 p1 s2 p2 t1 t2 w v).2.2.2) e o oh h k q s1 p1 s2 p2 t1 t2)) := by
  obtain ⟨zq, hq⟩ : ∃ z, z = (f_X8_put c s p t e o oh h k q s1 p1 s2 p2 t1 t2 w v) := ⟨_, rfl⟩
  rw [← hq]
  unfold f_X8_put at hq
  refine Sof fun sc => ?_
  refine g_blk hz0 kX8_put_0 ?_
  refine ⟨fun c1 => ?_, fun c1 => ?_⟩
  · rw [if_neg (show ¬ (w = 0) from c1)] at hq
    refine g_blk hz0 kX8_put_39 ?_
    refine ⟨fun c9 => ?_, fun c9 => ?_⟩
    · rw [if_neg (show ¬ (w = (Int32.ofInt 1)) from c9)] at hq
      refine g_blk hz0 kX8_put_78 ?_
      refine cV [0, 1, 2, 3, 4, 5, 6, 7, 8, 9, 10, 11, 12, 13, 14, 15, 16, 17, 18, 19, 20, 21, 22, 23, 24, 25, 26, 27, 28, 29, 30, 31, 32, 33, 34, 35, 36, 37, 38, 39, 40, 41, 42, 43, 44, 45, 46, 47, 48, 49, 50, 51, 52, 53, 54, 55, 56, 57, 58, 59, 60, 61, 62, 63, 64, 65, 66, 67, 68, 69, 70, 71, 72, 73, 74, 75, 76, 77, 78, 79, 80, 81, 82, 83, 84, 85, 86, 87, 88, 89, 90, 91, 92, 93, 94, 95, 96, 97, 98, 99, 100, 101, 102, 103, 104, 105, 106, 107, 108, 109, 110, 111] (wB c s p t e o oh h k q s1 p1 s2 p2 t1 t2) (s_X8_refuseBad c s p t e o oh h k q s1 p1 s2 p2 t1 t2 ((Int32.ofInt (-2)))) rfl cwX8_refuseBad dX8_put_81 rfl rfl (hm63_B_B _ _ _ _ _ _ _ _ _ _ _ _ _ _ _ _) ((len_B _ _ _ _ _ _ _ _ _ _ _ _ _ _ _ _).trans (len_B _ _ _ _ _ _ _ _ _ _ _ _ _ _ _ _).symm) (wB ((f_X8_refuseBad c s p t e o oh h k q s1 p1 s2 p2 t1 t2 ((Int32.ofInt (-2)))).2) s p t e o oh h k q s1 p1 s2 p2 t1 t2) (pw85_B_B _ _ _ _ _ _ _ _ _ _ _ _ _ _ _ _ _) ?_
      obtain ⟨g13, hg13⟩ : ∃ z, z = (f_X8_refuseBad c s p t e o oh h k q s1 p1 s2 p2 t1 t2 ((Int32.ofInt (-2)))) := ⟨_, rfl⟩
      try rw [← hg13] at hp
      try rw [← hg13] at hq
      rw [← hg13]
      refine g_blk hz0 kX8_put_84 ?_
      subst hq
      exact ⟨fun h => (by cases h), rfl, rfl⟩
    · rw [if_pos (show w = (Int32.ofInt 1) from c9)] at hq
      refine g_blk hz0 kX8_put_44 ?_
      refine cS0 (s_X8_within v ((Int32.ofInt 1)) ((Int32.ofInt 3))) rfl cwX8_within dX8_put_47 rfl ?_
      refine g_blk hz0 kX8_put_50 ?_
      refine ⟨fun c10 => ?_, fun c10 => ?_⟩
      · rw [if_pos (show (f_X8_within v ((Int32.ofInt 1)) ((Int32.ofInt 3))) = 0 from c10)] at hq
        refine g_blk hz0 kX8_put_78 ?_
        refine cV [0, 1, 2, 3, 4, 5, 6, 7, 8, 9, 10, 11, 12, 13, 14, 15, 16, 17, 18, 19, 20, 21, 22, 23, 24, 25, 26, 27, 28, 29, 30, 31, 32, 33, 34, 35, 36, 37, 38, 39, 40, 41, 42, 43, 44, 45, 46, 47, 48, 49, 50, 51, 52, 53, 54, 55, 56, 57, 58, 59, 60, 61, 62, 63, 64, 65, 66, 67, 68, 69, 70, 71, 72, 73, 74, 75, 76, 77, 78, 79, 80, 81, 82, 83, 84, 85, 86, 87, 88, 89, 90, 91, 92, 93, 94, 95, 96, 97, 98, 99, 100, 101, 102, 103, 104, 105, 106, 107, 108, 109, 110, 111] (wB c s p t e o oh h k q s1 p1 s2 p2 t1 t2) (s_X8_refuseBad c s p t e o oh h k q s1 p1 s2 p2 t1 t2 ((Int32.ofInt (-2)))) rfl cwX8_refuseBad dX8_put_81 rfl rfl (hm63_B_B _ _ _ _ _ _ _ _ _ _ _ _ _ _ _ _) ((len_B _ _ _ _ _ _ _ _ _ _ _ _ _ _ _ _).trans (len_B _ _ _ _ _ _ _ _ _ _ _ _ _ _ _ _).symm) (wB ((f_X8_refuseBad c s p t e o oh h k q s1 p1 s2 p2 t1 t2 ((Int32.ofInt (-2)))).2) s p t e o oh h k q s1 p1 s2 p2 t1 t2) (pw85_B_B _ _ _ _ _ _ _ _ _ _ _ _ _ _ _ _ _) ?_
        obtain ⟨g11, hg11⟩ : ∃ z, z = (f_X8_refuseBad c s p t e o oh h k q s1 p1 s2 p2 t1 t2 ((Int32.ofInt (-2)))) := ⟨_, rfl⟩
        try rw [← hg11] at hp
        try rw [← hg11] at hq
        rw [← hg11]
        refine g_blk hz0 kX8_put_84 ?_
        subst hq
        exact ⟨fun h => (by cases h), rfl, rfl⟩
      · rw [if_neg (show ¬ ((f_X8_within v ((Int32.ofInt 1)) ((Int32.ofInt 3))) = 0) from c10)] at hq
        refine g_blk hz0 kX8_put_53 ?_
        refine ⟨fun h => (by cases h), Or.inl rfl, ?_⟩
        refine g_w (w2 := (wB c s (setG p 9 v) t e o oh h k q s1 p1 s2 p2 t1 t2)) rfl ?_
        refine cV [13, 14, 15, 16, 17, 18, 19, 20, 21, 22] (wT t) (s_X2_forget t) rfl cwX2_forget dX8_put_73 rfl rfl (hm65_B_T _ _ _ _ _ _ _ _ _ _ _ _ _ _ _ _) ((len_T _).trans (len_T _).symm) (wB c s (setG p 9 v) (f_X2_forget t) e o oh h k q s1 p1 s2 p2 t1 t2) (pw87_B_T _ _ _ _ _ _ _ _ _ _ _ _ _ _ _ _ _) ?_
        obtain ⟨g12, hg12⟩ : ∃ z, z = (f_X2_forget t) := ⟨_, rfl⟩
        try rw [← hg12] at hp
        try rw [← hg12] at hq
        rw [← hg12]
        refine g_blk hz0 kX8_put_76 ?_
        subst hq
        exact ⟨fun h => (by cases h), rfl, rfl⟩
  · rw [if_pos (show w = 0 from c1)] at hq
    refine g_blk hz0 kX8_put_4 ?_
    refine cS0 (s_X8_within v ((Int32.ofInt 1)) ((Int32.ofInt 9))) rfl cwX8_within dX8_put_8 rfl ?_
    refine g_blk hz0 kX8_put_11 ?_
    refine ⟨fun c2 => ?_, fun c2 => ?_⟩
    · rw [if_pos (show (f_X8_within v ((Int32.ofInt 1)) ((Int32.ofInt 9))) = 0 from c2)] at hq
      refine g_blk hz0 kX8_put_39 ?_
      refine ⟨fun c3 => ?_, fun c3 => ?_⟩
      · rw [if_neg (show ¬ (w = (Int32.ofInt 1)) from c3)] at hq
        refine g_blk hz0 kX8_put_78 ?_
        refine cV [0, 1, 2, 3, 4, 5, 6, 7, 8, 9, 10, 11, 12, 13, 14, 15, 16, 17, 18, 19, 20, 21, 22, 23, 24, 25, 26, 27, 28, 29, 30, 31, 32, 33, 34, 35, 36, 37, 38, 39, 40, 41, 42, 43, 44, 45, 46, 47, 48, 49, 50, 51, 52, 53, 54, 55, 56, 57, 58, 59, 60, 61, 62, 63, 64, 65, 66, 67, 68, 69, 70, 71, 72, 73, 74, 75, 76, 77, 78, 79, 80, 81, 82, 83, 84, 85, 86, 87, 88, 89, 90, 91, 92, 93, 94, 95, 96, 97, 98, 99, 100, 101, 102, 103, 104, 105, 106, 107, 108, 109, 110, 111] (wB c s p t e o oh h k q s1 p1 s2 p2 t1 t2) (s_X8_refuseBad c s p t e o oh h k q s1 p1 s2 p2 t1 t2 ((Int32.ofInt (-2)))) rfl cwX8_refuseBad dX8_put_81 rfl rfl (hm63_B_B _ _ _ _ _ _ _ _ _ _ _ _ _ _ _ _) ((len_B _ _ _ _ _ _ _ _ _ _ _ _ _ _ _ _).trans (len_B _ _ _ _ _ _ _ _ _ _ _ _ _ _ _ _).symm) (wB ((f_X8_refuseBad c s p t e o oh h k q s1 p1 s2 p2 t1 t2 ((Int32.ofInt (-2)))).2) s p t e o oh h k q s1 p1 s2 p2 t1 t2) (pw85_B_B _ _ _ _ _ _ _ _ _ _ _ _ _ _ _ _ _) ?_
        obtain ⟨g7, hg7⟩ : ∃ z, z = (f_X8_refuseBad c s p t e o oh h k q s1 p1 s2 p2 t1 t2 ((Int32.ofInt (-2)))) := ⟨_, rfl⟩
        try rw [← hg7] at hp
        try rw [← hg7] at hq
        rw [← hg7]
        refine g_blk hz0 kX8_put_84 ?_
        subst hq
        exact ⟨fun h => (by cases h), rfl, rfl⟩
      · rw [if_pos (show w = (Int32.ofInt 1) from c3)] at hq
        refine g_blk hz0 kX8_put_44 ?_
        refine cS0 (s_X8_within v ((Int32.ofInt 1)) ((Int32.ofInt 3))) rfl cwX8_within dX8_put_47 rfl ?_
        refine g_blk hz0 kX8_put_50 ?_
        refine ⟨fun c4 => ?_, fun c4 => ?_⟩
        · rw [if_pos (show (f_X8_within v ((Int32.ofInt 1)) ((Int32.ofInt 3))) = 0 from c4)] at hq
          refine g_blk hz0 kX8_put_78 ?_
          refine cV [0, 1, 2, 3, 4, 5, 6, 7, 8, 9, 10, 11, 12, 13, 14, 15, 16, 17, 18, 19, 20, 21, 22, 23, 24, 25, 26, 27, 28, 29, 30, 31, 32, 33, 34, 35, 36, 37, 38, 39, 40, 41, 42, 43, 44, 45, 46, 47, 48, 49, 50, 51, 52, 53, 54, 55, 56, 57, 58, 59, 60, 61, 62, 63, 64, 65, 66, 67, 68, 69, 70, 71, 72, 73, 74, 75, 76, 77, 78, 79, 80, 81, 82, 83, 84, 85, 86, 87, 88, 89, 90, 91, 92, 93, 94, 95, 96, 97, 98, 99, 100, 101, 102, 103, 104, 105, 106, 107, 108, 109, 110, 111] (wB c s p t e o oh h k q s1 p1 s2 p2 t1 t2) (s_X8_refuseBad c s p t e o oh h k q s1 p1 s2 p2 t1 t2 ((Int32.ofInt (-2)))) rfl cwX8_refuseBad dX8_put_81 rfl rfl (hm63_B_B _ _ _ _ _ _ _ _ _ _ _ _ _ _ _ _) ((len_B _ _ _ _ _ _ _ _ _ _ _ _ _ _ _ _).trans (len_B _ _ _ _ _ _ _ _ _ _ _ _ _ _ _ _).symm) (wB ((f_X8_refuseBad c s p t e o oh h k q s1 p1 s2 p2 t1 t2 ((Int32.ofInt (-2)))).2) s p t e o oh h k q s1 p1 s2 p2 t1 t2) (pw85_B_B _ _ _ _ _ _ _ _ _ _ _ _ _ _ _ _ _) ?_
          obtain ⟨g5, hg5⟩ : ∃ z, z = (f_X8_refuseBad c s p t e o oh h k q s1 p1 s2 p2 t1 t2 ((Int32.ofInt (-2)))) := ⟨_, rfl⟩
          try rw [← hg5] at hp
          try rw [← hg5] at hq
          rw [← hg5]
          refine g_blk hz0 kX8_put_84 ?_
          subst hq
          exact ⟨fun h => (by cases h), rfl, rfl⟩
        · rw [if_neg (show ¬ ((f_X8_within v ((Int32.ofInt 1)) ((Int32.ofInt 3))) = 0) from c4)] at hq
          refine g_blk hz0 kX8_put_53 ?_
          refine ⟨fun h => (by cases h), Or.inl rfl, ?_⟩
          refine g_w (w2 := (wB c s (setG p 9 v) t e o oh h k q s1 p1 s2 p2 t1 t2)) rfl ?_
          refine cV [13, 14, 15, 16, 17, 18, 19, 20, 21, 22] (wT t) (s_X2_forget t) rfl cwX2_forget dX8_put_73 rfl rfl (hm65_B_T _ _ _ _ _ _ _ _ _ _ _ _ _ _ _ _) ((len_T _).trans (len_T _).symm) (wB c s (setG p 9 v) (f_X2_forget t) e o oh h k q s1 p1 s2 p2 t1 t2) (pw87_B_T _ _ _ _ _ _ _ _ _ _ _ _ _ _ _ _ _) ?_
          obtain ⟨g6, hg6⟩ : ∃ z, z = (f_X2_forget t) := ⟨_, rfl⟩
          try rw [← hg6] at hp
          try rw [← hg6] at hq
          rw [← hg6]
          refine g_blk hz0 kX8_put_76 ?_
          subst hq
          exact ⟨fun h => (by cases h), rfl, rfl⟩
    · rw [if_neg (show ¬ ((f_X8_within v ((Int32.ofInt 1)) ((Int32.ofInt 9))) = 0) from c2)] at hq
      refine g_blk hz0 kX8_put_14 ?_
      refine ⟨fun h => (by cases h), Or.inl rfl, ?_⟩
      refine g_w (w2 := (wB c s (setG p 8 v) t e o oh h k q s1 p1 s2 p2 t1 t2)) rfl ?_
      refine cV [13, 14, 15, 16, 17, 18, 19, 20, 21, 22] (wT t) (s_X2_forget t) rfl cwX2_forget dX8_put_34 rfl rfl (hm65_B_T _ _ _ _ _ _ _ _ _ _ _ _ _ _ _ _) ((len_T _).trans (len_T _).symm) (wB c s (setG p 8 v) (f_X2_forget t) e o oh h k q s1 p1 s2 p2 t1 t2) (pw87_B_T _ _ _ _ _ _ _ _ _ _ _ _ _ _ _ _ _) ?_
      obtain ⟨g8, hg8⟩ : ∃ z, z = (f_X2_forget t) := ⟨_, rfl⟩
      try rw [← hg8] at hp
      try rw [← hg8] at hq
      rw [← hg8]
      refine g_blk hz0 kX8_put_37 ?_
      subst hq
      exact ⟨fun h => (by cases h), rfl, rfl⟩
