set_option maxHeartbeats 16000000 in
theorem hm68_B_TP (c : Rec) (s : Rec) (p : Rec) (t : Rec) (e : Rec) (o : Rec) (oh : Rec) (h : Rec) (k : Rec) (q : Rec) (s1 : Rec) (p1 : Rec) (s2 : Rec) (p2 : Rec) (t1 : Rec) (t2 : Rec) : [13, 14, 15, 16, 17, 18, 19, 20, 21, 22, 1, 2, 3, 4, 5, 6, 7, 8, 9, 10, 11, 12].map (lk (wB c s p t e o oh h k q s1 p1 s2 p2 t1 t2)) = (wTP t s p).map (fun e => some (ren [13, 14, 15, 16, 17, 18, 19, 20, 21, 22, 1, 2, 3, 4, 5, 6, 7, 8, 9, 10, 11, 12] e)) := rfl
set_option maxHeartbeats 16000000 in
theorem pw93_B_TP (c : Rec) (s : Rec) (p : Rec) (t : Rec) (e : Rec) (o : Rec) (oh : Rec) (h : Rec) (k : Rec) (q : Rec) (s1 : Rec) (p1 : Rec) (s2 : Rec) (p2 : Rec) (t1 : Rec) (t2 : Rec) (t9 : Rec) : putW (wB c s p t e o oh h k q s1 p1 s2 p2 t1 t2) [13, 14, 15, 16, 17, 18, 19, 20, 21, 22, 1, 2, 3, 4, 5, 6, 7, 8, 9, 10, 11, 12] ((wTP t9 s p).map (ren [13, 14, 15, 16, 17, 18, 19, 20, 21, 22, 1, 2, 3, 4, 5, 6, 7, 8, 9, 10, 11, 12])) = (wB c s p t9 e o oh h k q s1 p1 s2 p2 t1 t2) := rfl
def f_X8_step (c : Rec) (s : Rec) (p : Rec) (t : Rec) (e : Rec) (o : Rec) (oh : Rec) (h : Rec) (k : Rec) (q : Rec) (s1 : Rec) (p1 : Rec) (s2 : Rec) (p2 : Rec) (t1 : Rec) (t2 : Rec) (x : Int32) (y : Int32) (w : Int32) (d : Int32) : Int32 × Rec × Rec × Rec × Rec := if (f_X8_within w ((Int32.ofInt 0)) ((Int32.ofInt 3))) = 0 then (((f_X8_refuseBad c s p t e o oh h k q s1 p1 s2 p2 t1 t2 ((Int32.ofInt (-10)))).1), ((f_X8_refuseBad c s p t e o oh h k q s1 p1 s2 p2 t1 t2 ((Int32.ofInt (-10)))).2), s, p, t) else (if (f_X8_within d ((Int32.ofInt 1)) ((Int32.ofInt 2))) = 0 then (((f_X8_refuseBad c s p t e o oh h k q s1 p1 s2 p2 t1 t2 ((Int32.ofInt (-10)))).1), ((f_X8_refuseBad c s p t e o oh h k q s1 p1 s2 p2 t1 t2 ((Int32.ofInt (-10)))).2), s, p, t) else (if (f_X3_goalOf s p x y w d) = (Int32.ofInt (-1)) then (((f_X8_refuseNo c s p t e o oh h k q s1 p1 s2 p2 t1 t2 ((Int32.ofInt (-20)))).1), ((f_X8_refuseNo c s p t e o oh h k q s1 p1 s2 p2 t1 t2 ((Int32.ofInt (-20)))).2), s, p, t) else (((f_X3_carry s p (f_X3_rulerAt s p x y) (f_X3_goalOf s p x y w d)).1), c, ((f_X3_carry s p (f_X3_rulerAt s p x y) (f_X3_goalOf s p x y w d)).2.1), ((f_X3_carry s p (f_X3_rulerAt s p x y) (f_X3_goalOf s p x y w d)).2.2), (f_X2_keep t s p))))
def p_X8_step (c : Rec) (s : Rec) (p : Rec) (t : Rec) (e : Rec) (o : Rec) (oh : Rec) (h : Rec) (k : Rec) (q : Rec) (s1 : Rec) (p1 : Rec) (s2 : Rec) (p2 : Rec) (t1 : Rec) (t2 : Rec) (x : Int32) (y : Int32) (w : Int32) (d : Int32) : Prop := ((f_X8_within w ((Int32.ofInt 0)) ((Int32.ofInt 3))) = 0 → True) ∧ (¬ ((f_X8_within w ((Int32.ofInt 0)) ((Int32.ofInt 3))) = 0) → (((f_X8_within d ((Int32.ofInt 1)) ((Int32.ofInt 2))) = 0 → True) ∧ (¬ ((f_X8_within d ((Int32.ofInt 1)) ((Int32.ofInt 2))) = 0) → ((p_X3_goalOf s p x y w d) ∧ (((f_X3_goalOf s p x y w d) = (Int32.ofInt (-1)) → True) ∧ (¬ ((f_X3_goalOf s p x y w d) = (Int32.ofInt (-1))) → ((p_X2_keep t s p) ∧ ((p_X3_rulerAt s p x y) ∧ ((p_X3_carry s p (f_X3_rulerAt s p x y) (f_X3_goalOf s p x y w d)) ∧ True)))))))))
set_option maxHeartbeats 16000000 in
set_option maxRecDepth 20000 in
theorem s_X8_step (c : Rec) (s : Rec) (p : Rec) (t : Rec) (e : Rec) (o : Rec) (oh : Rec) (h : Rec) (k : Rec) (q : Rec) (s1 : Rec) (p1 : Rec) (s2 : Rec) (p2 : Rec) (t1 : Rec) (t2 : Rec) (x : Int32) (y : Int32) (w : Int32) (d : Int32) (hp : p_X8_step c s p t e o oh h k q s1 p1 s2 p2 t1 t2 x y w d) : Spec 4 0 0 mX8_step [.ref 0, .int x, .int y, .int w, .int d] (wB c s p t e o oh h k q s1 p1 s2 p2 t1 t2) (Ret (some (.int ((f_X8_step c s p t e o oh h k q s1 p1 s2 p2 t1 t2 x y w d).1))) (wB ((f_X8_step c s p t e o oh h k q s1 p1 s2 p2 t1 t2 x y w d).2.1) ((f_X8_step c s p t e o oh h k q s1 p1 s2 p2 t1 t2 x y w d).2.2.1) ((f_X8_step c s p t e o oh h k q s1 p1 s2 p2 t1 t2 x y w d).2.2.2.1) ((f_X8_step c s p t e o oh h k q s1 p1 s2 p2 t1 t2 x y w d).2.2.2.2) e o oh h k q s1 p1 s2 p2 t1 t2)) := by
  obtain ⟨zq, hq⟩ : ∃ z, z = (f_X8_step c s p t e o oh h k q s1 p1 s2 p2 t1 t2 x y w d) := ⟨_, rfl⟩
  rw [← hq]
  unfold f_X8_step at hq
  unfold p_X8_step at hp
  refine Sof fun sc => ?_
  refine g_blk hz0 kX8_step_0 ?_
  refine cS0 (s_X8_within w ((Int32.ofInt 0)) ((Int32.ofInt 3))) rfl cwX8_within dX8_step_3 rfl ?_
  refine g_blk hz0 kX8_step_6 ?_
  refine ⟨fun c1 => ?_, fun c1 => ?_⟩
  · rw [if_pos (show (f_X8_within w ((Int32.ofInt 0)) ((Int32.ofInt 3))) = 0 from c1)] at hq
    refine g_blk hz0 kX8_step_19 ?_
    refine cV [0, 1, 2, 3, 4, 5, 6, 7, 8, 9, 10, 11, 12, 13, 14, 15, 16, 17, 18, 19, 20, 21, 22, 23, 24, 25, 26, 27, 28, 29, 30, 31, 32, 33, 34, 35, 36, 37, 38, 39, 40, 41, 42, 43, 44, 45, 46, 47, 48, 49, 50, 51, 52, 53, 54, 55, 56, 57, 58, 59, 60, 61, 62, 63, 64, 65, 66, 67, 68, 69, 70, 71, 72, 73, 74, 75, 76, 77, 78, 79, 80, 81, 82, 83, 84, 85, 86, 87, 88, 89, 90, 91, 92, 93, 94, 95, 96, 97, 98, 99, 100, 101, 102, 103, 104, 105, 106, 107, 108, 109, 110, 111] (wB c s p t e o oh h k q s1 p1 s2 p2 t1 t2) (s_X8_refuseBad c s p t e o oh h k q s1 p1 s2 p2 t1 t2 ((Int32.ofInt (-10)))) rfl cwX8_refuseBad dX8_step_22 rfl rfl (hm63_B_B _ _ _ _ _ _ _ _ _ _ _ _ _ _ _ _) ((len_B _ _ _ _ _ _ _ _ _ _ _ _ _ _ _ _).trans (len_B _ _ _ _ _ _ _ _ _ _ _ _ _ _ _ _).symm) (wB ((f_X8_refuseBad c s p t e o oh h k q s1 p1 s2 p2 t1 t2 ((Int32.ofInt (-10)))).2) s p t e o oh h k q s1 p1 s2 p2 t1 t2) (pw85_B_B _ _ _ _ _ _ _ _ _ _ _ _ _ _ _ _ _) ?_
    obtain ⟨g2, hg2⟩ : ∃ z, z = (f_X8_refuseBad c s p t e o oh h k q s1 p1 s2 p2 t1 t2 ((Int32.ofInt (-10)))) := ⟨_, rfl⟩
    try rw [← hg2] at hp
    try rw [← hg2] at hq
    rw [← hg2]
    refine g_blk hz0 kX8_step_25 ?_
    subst hq
    exact ⟨fun h => (by cases h), rfl, rfl⟩
  · rw [if_neg (show ¬ ((f_X8_within w ((Int32.ofInt 0)) ((Int32.ofInt 3))) = 0) from c1)] at hq
    replace hp := hp.2 c1
    refine g_blk hz0 kX8_step_9 ?_
    refine cS0 (s_X8_within d ((Int32.ofInt 1)) ((Int32.ofInt 2))) rfl cwX8_within dX8_step_13 rfl ?_
    refine g_blk hz0 kX8_step_16 ?_
    refine ⟨fun c3 => ?_, fun c3 => ?_⟩
    · rw [if_neg (show ¬ ((f_X8_within d ((Int32.ofInt 1)) ((Int32.ofInt 2))) = 0) from c3)] at hq
      replace hp := hp.2 c3
      refine g_blk hz0 kX8_step_26 ?_
      refine cVp [1, 2, 3, 4, 5, 6, 7, 8, 9, 10, 11, 12] (wP s p) (s_X3_goalOf s p x y w d hp.1) rfl cwX3_goalOf dX8_step_35 rfl rfl (hm64_B_P _ _ _ _ _ _ _ _ _ _ _ _ _ _ _ _) ?_
      replace hp := hp.2
      refine g_blk hz0 kX8_step_38 ?_
      refine ⟨fun c5 => ?_, fun c5 => ?_⟩
      · rw [if_neg (show ¬ ((f_X3_goalOf s p x y w d) = (Int32.ofInt (-1))) from c5)] at hq
        replace hp := hp.2 c5
        refine g_blk hz0 kX8_step_53 ?_
        refine cV [13, 14, 15, 16, 17, 18, 19, 20, 21, 22, 1, 2, 3, 4, 5, 6, 7, 8, 9, 10, 11, 12] (wTP t s p) (s_X2_keep t s p hp.1) rfl cwX2_keep dX8_step_61 rfl rfl (hm68_B_TP _ _ _ _ _ _ _ _ _ _ _ _ _ _ _ _) ((len_TP _ _ _).trans (len_TP _ _ _).symm) (wB c s p (f_X2_keep t s p) e o oh h k q s1 p1 s2 p2 t1 t2) (pw93_B_TP _ _ _ _ _ _ _ _ _ _ _ _ _ _ _ _ _) ?_
        replace hp := hp.2
        obtain ⟨g7, hg7⟩ : ∃ z, z = (f_X2_keep t s p) := ⟨_, rfl⟩
        try rw [← hg7] at hp
        try rw [← hg7] at hq
        rw [← hg7]
        refine g_blk hz0 kX8_step_64 ?_
        refine cVp [1, 2, 3, 4, 5, 6, 7, 8, 9, 10, 11, 12] (wP s p) (s_X3_rulerAt s p x y hp.1) rfl cwX3_rulerAt dX8_step_74 rfl rfl (hm64_B_P _ _ _ _ _ _ _ _ _ _ _ _ _ _ _ _) ?_
        replace hp := hp.2
        refine g_blk hz0 kX8_step_77 ?_
        refine cV [1, 2, 3, 4, 5, 6, 7, 8, 9, 10, 11, 12] (wP s p) (s_X3_carry s p (f_X3_rulerAt s p x y) (f_X3_goalOf s p x y w d) hp.1) rfl cwX3_carry dX8_step_79 rfl rfl (hm64_B_P _ _ _ _ _ _ _ _ _ _ _ _ _ _ _ _) ((len_P _ _).trans (len_P _ _).symm) (wB c ((f_X3_carry s p (f_X3_rulerAt s p x y) (f_X3_goalOf s p x y w d)).2.1) ((f_X3_carry s p (f_X3_rulerAt s p x y) (f_X3_goalOf s p x y w d)).2.2) g7 e o oh h k q s1 p1 s2 p2 t1 t2) (pw86_B_P _ _ _ _ _ _ _ _ _ _ _ _ _ _ _ _ _ _) ?_
        replace hp := hp.2
        obtain ⟨g8, hg8⟩ : ∃ z, z = (f_X3_carry s p (f_X3_rulerAt s p x y) (f_X3_goalOf s p x y w d)) := ⟨_, rfl⟩
        try rw [← hg8] at hp
        try rw [← hg8] at hq
        rw [← hg8]
        refine g_blk hz0 kX8_step_82 ?_
        subst hq
        exact ⟨fun h => (by cases h), rfl, rfl⟩
      · rw [if_pos (show (f_X3_goalOf s p x y w d) = (Int32.ofInt (-1)) from c5)] at hq
        refine g_blk hz0 kX8_step_46 ?_
        refine cV [0, 1, 2, 3, 4, 5, 6, 7, 8, 9, 10, 11, 12, 13, 14, 15, 16, 17, 18, 19, 20, 21, 22, 23, 24, 25, 26, 27, 28, 29, 30, 31, 32, 33, 34, 35, 36, 37, 38, 39, 40, 41, 42, 43, 44, 45, 46, 47, 48, 49, 50, 51, 52, 53, 54, 55, 56, 57, 58, 59, 60, 61, 62, 63, 64, 65, 66, 67, 68, 69, 70, 71, 72, 73, 74, 75, 76, 77, 78, 79, 80, 81, 82, 83, 84, 85, 86, 87, 88, 89, 90, 91, 92, 93, 94, 95, 96, 97, 98, 99, 100, 101, 102, 103, 104, 105, 106, 107, 108, 109, 110, 111] (wB c s p t e o oh h k q s1 p1 s2 p2 t1 t2) (s_X8_refuseNo c s p t e o oh h k q s1 p1 s2 p2 t1 t2 ((Int32.ofInt (-20)))) rfl cwX8_refuseNo dX8_step_49 rfl rfl (hm63_B_B _ _ _ _ _ _ _ _ _ _ _ _ _ _ _ _) ((len_B _ _ _ _ _ _ _ _ _ _ _ _ _ _ _ _).trans (len_B _ _ _ _ _ _ _ _ _ _ _ _ _ _ _ _).symm) (wB ((f_X8_refuseNo c s p t e o oh h k q s1 p1 s2 p2 t1 t2 ((Int32.ofInt (-20)))).2) s p t e o oh h k q s1 p1 s2 p2 t1 t2) (pw85_B_B _ _ _ _ _ _ _ _ _ _ _ _ _ _ _ _ _) ?_
        obtain ⟨g6, hg6⟩ : ∃ z, z = (f_X8_refuseNo c s p t e o oh h k q s1 p1 s2 p2 t1 t2 ((Int32.ofInt (-20)))) := ⟨_, rfl⟩
        try rw [← hg6] at hp
        try rw [← hg6] at hq
        rw [← hg6]
        refine g_blk hz0 kX8_step_52 ?_
        subst hq
        exact ⟨fun h => (by cases h), rfl, rfl⟩
    · rw [if_pos (show (f_X8_within d ((Int32.ofInt 1)) ((Int32.ofInt 2))) = 0 from c3)] at hq
      refine g_blk hz0 kX8_step_19 ?_
      refine cV [0, 1, 2, 3, 4, 5, 6, 7, 8, 9, 10, 11, 12, 13, 14, 15, 16, 17, 18, 19, 20, 21, 22, 23, 24, 25, 26, 27, 28, 29, 30, 31, 32, 33, 34, 35, 36, 37, 38, 39, 40, 41, 42, 43, 44, 45, 46, 47, 48, 49, 50, 51, 52, 53, 54, 55, 56, 57, 58, 59, 60, 61, 62, 63, 64, 65, 66, 67, 68, 69, 70, 71, 72, 73, 74, 75, 76, 77, 78, 79, 80, 81, 82, 83, 84, 85, 86, 87, 88, 89, 90, 91, 92, 93, 94, 95, 96, 97, 98, 99, 100, 101, 102, 103, 104, 105, 106, 107, 108, 109, 110, 111] (wB c s p t e o oh h k q s1 p1 s2 p2 t1 t2) (s_X8_refuseBad c s p t e o oh h k q s1 p1 s2 p2 t1 t2 ((Int32.ofInt (-10)))) rfl cwX8_refuseBad dX8_step_22 rfl rfl (hm63_B_B _ _ _ _ _ _ _ _ _ _ _ _ _ _ _ _) ((len_B _ _ _ _ _ _ _ _ _ _ _ _ _ _ _ _).trans (len_B _ _ _ _ _ _ _ _ _ _ _ _ _ _ _ _).symm) (wB ((f_X8_refuseBad c s p t e o oh h k q s1 p1 s2 p2 t1 t2 ((Int32.ofInt (-10)))).2) s p t e o oh h k q s1 p1 s2 p2 t1 t2) (pw85_B_B _ _ _ _ _ _ _ _ _ _ _ _ _ _ _ _ _) ?_
      obtain ⟨g4, hg4⟩ : ∃ z, z = (f_X8_refuseBad c s p t e o oh h k q s1 p1 s2 p2 t1 t2 ((Int32.ofInt (-10)))) := ⟨_, rfl⟩
      try rw [← hg4] at hp
      try rw [← hg4] at hq
      rw [← hg4]
      refine g_blk hz0 kX8_step_25 ?_
      subst hq
      exact ⟨fun h => (by cases h), rfl, rfl⟩

def f_X8_fold (c : Rec) (s : Rec) (p : Rec) (t : Rec) (e : Rec) (o : Rec) (oh : Rec) (h : Rec) (k : Rec) (q : Rec) (s1 : Rec) (p1 : Rec) (s2 : Rec) (p2 : Rec) (t1 : Rec) (t2 : Rec) (a : Int32) (l : Int32) (w : Int32) : Int32 × Rec × Rec × Rec × Rec := if (f_X8_within a ((Int32.ofInt 0)) ((Int32.ofInt 1))) = 0 then (((f_X8_refuseBad c s p t e o oh h k q s1 p1 s2 p2 t1 t2 ((Int32.ofInt (-2)))).1), ((f_X8_refuseBad c s p t e o oh h k q s1 p1 s2 p2 t1 t2 ((Int32.ofInt (-2)))).2), s, p, t) else (if (f_X8_within w ((Int32.ofInt 0)) ((Int32.ofInt 1))) = 0 then (((f_X8_refuseBad c s p t e o oh h k q s1 p1 s2 p2 t1 t2 ((Int32.ofInt (-2)))).1), ((f_X8_refuseBad c s p t e o oh h k q s1 p1 s2 p2 t1 t2 ((Int32.ofInt (-2)))).2), s, p, t) else (if (p.1 7) = 0 then (((f_X8_refuseNo c s p t e o oh h k q s1 p1 s2 p2 t1 t2 ((Int32.ofInt (-3)))).1), ((f_X8_refuseNo c s p t e o oh h k q s1 p1 s2 p2 t1 t2 ((Int32.ofInt (-3)))).2), s, p, t) else (if (f_X4_mayCrease s a l) = 0 then (((f_X8_refuseNo c s p t e o oh h k q s1 p1 s2 p2 t1 t2 ((Int32.ofInt (-3)))).1), ((f_X8_refuseNo c s p t e o oh h k q s1 p1 s2 p2 t1 t2 ((Int32.ofInt (-3)))).2), s, p, t) else ((((f_X3_creaseDue s p a l w).2).1 7), c, ((f_X3_creaseDue s p a l w).1), ((f_X3_creaseDue s p a l w).2), (f_X2_keep t s p)))))
def p_X8_fold (c : Rec) (s : Rec) (p : Rec) (t : Rec) (e : Rec) (o : Rec) (oh : Rec) (h : Rec) (k : Rec) (q : Rec) (s1 : Rec) (p1 : Rec) (s2 : Rec) (p2 : Rec) (t1 : Rec) (t2 : Rec) (a : Int32) (l : Int32) (w : Int32) : Prop := ((f_X8_within a ((Int32.ofInt 0)) ((Int32.ofInt 1))) = 0 → True) ∧ (¬ ((f_X8_within a ((Int32.ofInt 0)) ((Int32.ofInt 1))) = 0) → (((f_X8_within w ((Int32.ofInt 0)) ((Int32.ofInt 1))) = 0 → True) ∧ (¬ ((f_X8_within w ((Int32.ofInt 0)) ((Int32.ofInt 1))) = 0) → (((p.1 7) = 0 → True) ∧ (¬ ((p.1 7) = 0) → (((f_X4_mayCrease s a l) = 0 → True) ∧ (¬ ((f_X4_mayCrease s a l) = 0) → ((p_X2_keep t s p) ∧ ((p_X3_creaseDue s p a l w) ∧ True)))))))))
set_option maxHeartbeats 16000000 in
set_option maxRecDepth 20000 in
theorem s_X8_fold (c : Rec) (s : Rec) (p : Rec) (t : Rec) (e : Rec) (o : Rec) (oh : Rec) (h : Rec) (k : Rec) (q : Rec) (s1 : Rec) (p1 : Rec) (s2 : Rec) (p2 : Rec) (t1 : Rec) (t2 : Rec) (a : Int32) (l : Int32) (w : Int32) (hp : p_X8_fold c s p t e o oh h k q s1 p1 s2 p2 t1 t2 a l w) : Spec 3 0 0 mX8_fold [.ref 0, .int a, .int l, .int w] (wB c s p t e o oh h k q s1 p1 s2 p2 t1 t2) (Ret (some (.int ((f_X8_fold c s p t e o oh h k q s1 p1 s2 p2 t1 t2 a l w).1))) (wB ((f_X8_fold c s p t e o oh h k q s1 p1 s2 p2 t1 t2 a l w).2.1) ((f_X8_fold c s p t e o oh h k q s1 p1 s2 p2 t1 t2 a l w).2.2.1) ((f_X8_fold c s p t e o oh h k q s1 p1 s2 p2 t1 t2 a l w).2.2.2.1) ((f_X8_fold c s p t e o oh h k q s1 p1 s2 p2 t1 t2 a l w).2.2.2.2) e o oh h k q s1 p1 s2 p2 t1 t2)) := by
  obtain ⟨zq, hq⟩ : ∃ z, z = (f_X8_fold c s p t e o oh h k q s1 p1 s2 p2 t1 t2 a l w) := ⟨_, rfl⟩
  rw [← hq]
  unfold f_X8_fold at hq
  unfold p_X8_fold at hp
  refine Sof fun sc => ?_
  refine g_blk hz0 kX8_fold_0 ?_
  refine cS0 (s_X8_within a ((Int32.ofInt 0)) ((Int32.ofInt 1))) rfl cwX8_within dX8_fold_3 rfl ?_
  refine g_blk hz0 kX8_fold_6 ?_
  refine ⟨fun c1 => ?_, fun c1 => ?_⟩
  · rw [if_pos (show (f_X8_within a ((Int32.ofInt 0)) ((Int32.ofInt 1))) = 0 from c1)] at hq
    refine g_blk hz0 kX8_fold_18 ?_
    refine cV [0, 1, 2, 3, 4, 5, 6, 7, 8, 9, 10, 11, 12, 13, 14, 15, 16, 17, 18, 19, 20, 21, 22, 23, 24, 25, 26, 27, 28, 29, 30, 31, 32, 33, 34, 35, 36, 37, 38, 39, 40, 41, 42, 43, 44, 45, 46, 47, 48, 49, 50, 51, 52, 53, 54, 55, 56, 57, 58, 59, 60, 61, 62, 63, 64, 65, 66, 67, 68, 69, 70, 71, 72, 73, 74, 75, 76, 77, 78, 79, 80, 81, 82, 83, 84, 85, 86, 87, 88, 89, 90, 91, 92, 93, 94, 95, 96, 97, 98, 99, 100, 101, 102, 103, 104, 105, 106, 107, 108, 109, 110, 111] (wB c s p t e o oh h k q s1 p1 s2 p2 t1 t2) (s_X8_refuseBad c s p t e o oh h k q s1 p1 s2 p2 t1 t2 ((Int32.ofInt (-2)))) rfl cwX8_refuseBad dX8_fold_21 rfl rfl (hm63_B_B _ _ _ _ _ _ _ _ _ _ _ _ _ _ _ _) ((len_B _ _ _ _ _ _ _ _ _ _ _ _ _ _ _ _).trans (len_B _ _ _ _ _ _ _ _ _ _ _ _ _ _ _ _).symm) (wB ((f_X8_refuseBad c s p t e o oh h k q s1 p1 s2 p2 t1 t2 ((Int32.ofInt (-2)))).2) s p t e o oh h k q s1 p1 s2 p2 t1 t2) (pw85_B_B _ _ _ _ _ _ _ _ _ _ _ _ _ _ _ _ _) ?_
    obtain ⟨g2, hg2⟩ : ∃ z, z = (f_X8_refuseBad c s p t e o oh h k q s1 p1 s2 p2 t1 t2 ((Int32.ofInt (-2)))) := ⟨_, rfl⟩
    try rw [← hg2] at hp
    try rw [← hg2] at hq
    rw [← hg2]
    refine g_blk hz0 kX8_fold_24 ?_
    subst hq
    exact ⟨fun h => (by cases h), rfl, rfl⟩
  · rw [if_neg (show ¬ ((f_X8_within a ((Int32.ofInt 0)) ((Int32.ofInt 1))) = 0) from c1)] at hq
    replace hp := hp.2 c1
    refine g_blk hz0 kX8_fold_9 ?_
    refine cS0 (s_X8_within w ((Int32.ofInt 0)) ((Int32.ofInt 1))) rfl cwX8_within dX8_fold_12 rfl ?_
    refine g_blk hz0 kX8_fold_15 ?_
    refine ⟨fun c3 => ?_, fun c3 => ?_⟩
    · rw [if_neg (show ¬ ((f_X8_within w ((Int32.ofInt 0)) ((Int32.ofInt 1))) = 0) from c3)] at hq
      replace hp := hp.2 c3
      refine g_blk hz0 kX8_fold_25 ?_
      refine ⟨fun c5 => ?_, fun c5 => ?_⟩
      · rw [if_pos (show (p.1 7) = 0 from c5)] at hq
        refine g_blk hz0 kX8_fold_50 ?_
        refine cV [0, 1, 2, 3, 4, 5, 6, 7, 8, 9, 10, 11, 12, 13, 14, 15, 16, 17, 18, 19, 20, 21, 22, 23, 24, 25, 26, 27, 28, 29, 30, 31, 32, 33, 34, 35, 36, 37, 38, 39, 40, 41, 42, 43, 44, 45, 46, 47, 48, 49, 50, 51, 52, 53, 54, 55, 56, 57, 58, 59, 60, 61, 62, 63, 64, 65, 66, 67, 68, 69, 70, 71, 72, 73, 74, 75, 76, 77, 78, 79, 80, 81, 82, 83, 84, 85, 86, 87, 88, 89, 90, 91, 92, 93, 94, 95, 96, 97, 98, 99, 100, 101, 102, 103, 104, 105, 106, 107, 108, 109, 110, 111] (wB c s p t e o oh h k q s1 p1 s2 p2 t1 t2) (s_X8_refuseNo c s p t e o oh h k q s1 p1 s2 p2 t1 t2 ((Int32.ofInt (-3)))) rfl cwX8_refuseNo dX8_fold_53 rfl rfl (hm63_B_B _ _ _ _ _ _ _ _ _ _ _ _ _ _ _ _) ((len_B _ _ _ _ _ _ _ _ _ _ _ _ _ _ _ _).trans (len_B _ _ _ _ _ _ _ _ _ _ _ _ _ _ _ _).symm) (wB ((f_X8_refuseNo c s p t e o oh h k q s1 p1 s2 p2 t1 t2 ((Int32.ofInt (-3)))).2) s p t e o oh h k q s1 p1 s2 p2 t1 t2) (pw85_B_B _ _ _ _ _ _ _ _ _ _ _ _ _ _ _ _ _) ?_
        obtain ⟨g6, hg6⟩ : ∃ z, z = (f_X8_refuseNo c s p t e o oh h k q s1 p1 s2 p2 t1 t2 ((Int32.ofInt (-3)))) := ⟨_, rfl⟩
        try rw [← hg6] at hp
        try rw [← hg6] at hq
        rw [← hg6]
        refine g_blk hz0 kX8_fold_56 ?_
        subst hq
        exact ⟨fun h => (by cases h), rfl, rfl⟩
      · rw [if_neg (show ¬ ((p.1 7) = 0) from c5)] at hq
        replace hp := hp.2 c5
        refine g_blk hz0 kX8_fold_35 ?_
        refine cVp [2, 3, 4, 5, 6, 7, 8] (wS s) (s_X4_mayCrease s a l) rfl cwX4_mayCrease dX8_fold_44 rfl rfl (hm67_B_S _ _ _ _ _ _ _ _ _ _ _ _ _ _ _ _) ?_
        refine g_blk hz0 kX8_fold_47 ?_
        refine ⟨fun c7 => ?_, fun c7 => ?_⟩
        · rw [if_neg (show ¬ ((f_X4_mayCrease s a l) = 0) from c7)] at hq
          replace hp := hp.2 c7
          refine g_blk hz0 kX8_fold_57 ?_
          refine cV [13, 14, 15, 16, 17, 18, 19, 20, 21, 22, 1, 2, 3, 4, 5, 6, 7, 8, 9, 10, 11, 12] (wTP t s p) (s_X2_keep t s p hp.1) rfl cwX2_keep dX8_fold_65 rfl rfl (hm68_B_TP _ _ _ _ _ _ _ _ _ _ _ _ _ _ _ _) ((len_TP _ _ _).trans (len_TP _ _ _).symm) (wB c s p (f_X2_keep t s p) e o oh h k q s1 p1 s2 p2 t1 t2) (pw93_B_TP _ _ _ _ _ _ _ _ _ _ _ _ _ _ _ _ _) ?_
          replace hp := hp.2
          obtain ⟨g9, hg9⟩ : ∃ z, z = (f_X2_keep t s p) := ⟨_, rfl⟩
          try rw [← hg9] at hp
          try rw [← hg9] at hq
          rw [← hg9]
          refine g_blk hz0 kX8_fold_68 ?_
          refine cV [1, 2, 3, 4, 5, 6, 7, 8, 9, 10, 11, 12] (wP s p) (s_X3_creaseDue s p a l w hp.1) rfl cwX3_creaseDue dX8_fold_75 rfl rfl (hm64_B_P _ _ _ _ _ _ _ _ _ _ _ _ _ _ _ _) ((len_P _ _).trans (len_P _ _).symm) (wB c ((f_X3_creaseDue s p a l w).1) ((f_X3_creaseDue s p a l w).2) g9 e o oh h k q s1 p1 s2 p2 t1 t2) (pw86_B_P _ _ _ _ _ _ _ _ _ _ _ _ _ _ _ _ _ _) ?_
          replace hp := hp.2
          obtain ⟨g10, hg10⟩ : ∃ z, z = (f_X3_creaseDue s p a l w) := ⟨_, rfl⟩
          try rw [← hg10] at hp
          try rw [← hg10] at hq
          rw [← hg10]
          refine g_blk hz0 kX8_fold_78 ?_
          subst hq
          exact ⟨fun h => (by cases h), rfl, rfl⟩
        · rw [if_pos (show (f_X4_mayCrease s a l) = 0 from c7)] at hq
          refine g_blk hz0 kX8_fold_50 ?_
          refine cV [0, 1, 2, 3, 4, 5, 6, 7, 8, 9, 10, 11, 12, 13, 14, 15, 16, 17, 18, 19, 20, 21, 22, 23, 24, 25, 26, 27, 28, 29, 30, 31, 32, 33, 34, 35, 36, 37, 38, 39, 40, 41, 42, 43, 44, 45, 46, 47, 48, 49, 50, 51, 52, 53, 54, 55, 56, 57, 58, 59, 60, 61, 62, 63, 64, 65, 66, 67, 68, 69, 70, 71, 72, 73, 74, 75, 76, 77, 78, 79, 80, 81, 82, 83, 84, 85, 86, 87, 88, 89, 90, 91, 92, 93, 94, 95, 96, 97, 98, 99, 100, 101, 102, 103, 104, 105, 106, 107, 108, 109, 110, 111] (wB c s p t e o oh h k q s1 p1 s2 p2 t1 t2) (s_X8_refuseNo c s p t e o oh h k q s1 p1 s2 p2 t1 t2 ((Int32.ofInt (-3)))) rfl cwX8_refuseNo dX8_fold_53 rfl rfl (hm63_B_B _ _ _ _ _ _ _ _ _ _ _ _ _ _ _ _) ((len_B _ _ _ _ _ _ _ _ _ _ _ _ _ _ _ _).trans (len_B _ _ _ _ _ _ _ _ _ _ _ _ _ _ _ _).symm) (wB ((f_X8_refuseNo c s p t e o oh h k q s1 p1 s2 p2 t1 t2 ((Int32.ofInt (-3)))).2) s p t e o oh h k q s1 p1 s2 p2 t1 t2) (pw85_B_B _ _ _ _ _ _ _ _ _ _ _ _ _ _ _ _ _) ?_
          obtain ⟨g8, hg8⟩ : ∃ z, z = (f_X8_refuseNo c s p t e o oh h k q s1 p1 s2 p2 t1 t2 ((Int32.ofInt (-3)))) := ⟨_, rfl⟩
          try rw [← hg8] at hp
          try rw [← hg8] at hq
          rw [← hg8]
          refine g_blk hz0 kX8_fold_56 ?_
          subst hq
          exact ⟨fun h => (by cases h), rfl, rfl⟩
    · rw [if_pos (show (f_X8_within w ((Int32.ofInt 0)) ((Int32.ofInt 1))) = 0 from c3)] at hq
      refine g_blk hz0 kX8_fold_18 ?_
      refine cV [0, 1, 2, 3, 4, 5, 6, 7, 8, 9, 10, 11, 12, 13, 14, 15, 16, 17, 18, 19, 20, 21, 22, 23, 24, 25, 26, 27, 28, 29, 30, 31, 32, 33, 34, 35, 36, 37, 38, 39, 40, 41, 42, 43, 44, 45, 46, 47, 48, 49, 50, 51, 52, 53, 54, 55, 56, 57, 58, 59, 60, 61, 62, 63, 64, 65, 66, 67, 68, 69, 70, 71, 72, 73, 74, 75, 76, 77, 78, 79, 80, 81, 82, 83, 84, 85, 86, 87, 88, 89, 90, 91, 92, 93, 94, 95, 96, 97, 98, 99, 100, 101, 102, 103, 104, 105, 106, 107, 108, 109, 110, 111] (wB c s p t e o oh h k q s1 p1 s2 p2 t1 t2) (s_X8_refuseBad c s p t e o oh h k q s1 p1 s2 p2 t1 t2 ((Int32.ofInt (-2)))) rfl cwX8_refuseBad dX8_fold_21 rfl rfl (hm63_B_B _ _ _ _ _ _ _ _ _ _ _ _ _ _ _ _) ((len_B _ _ _ _ _ _ _ _ _ _ _ _ _ _ _ _).trans (len_B _ _ _ _ _ _ _ _ _ _ _ _ _ _ _ _).symm) (wB ((f_X8_refuseBad c s p t e o oh h k q s1 p1 s2 p2 t1 t2 ((Int32.ofInt (-2)))).2) s p t e o oh h k q s1 p1 s2 p2 t1 t2) (pw85_B_B _ _ _ _ _ _ _ _ _ _ _ _ _ _ _ _ _) ?_
      obtain ⟨g4, hg4⟩ : ∃ z, z = (f_X8_refuseBad c s p t e o oh h k q s1 p1 s2 p2 t1 t2 ((Int32.ofInt (-2)))) := ⟨_, rfl⟩
      try rw [← hg4] at hp
      try rw [← hg4] at hq
      rw [← hg4]
      refine g_blk hz0 kX8_fold_24 ?_
      subst hq
      exact ⟨fun h => (by cases h), rfl, rfl⟩

set_option maxHeartbeats 16000000 in
theorem pw94_B_TP (c : Rec) (s : Rec) (p : Rec) (t : Rec) (e : Rec) (o : Rec) (oh : Rec) (h : Rec) (k : Rec) (q : Rec) (s1 : Rec) (p1 : Rec) (s2 : Rec) (p2 : Rec) (t1 : Rec) (t2 : Rec) (t9 : Rec) (s9 : Rec) (p9 : Rec) : putW (wB c s p t e o oh h k q s1 p1 s2 p2 t1 t2) [13, 14, 15, 16, 17, 18, 19, 20, 21, 22, 1, 2, 3, 4, 5, 6, 7, 8, 9, 10, 11, 12] ((wTP t9 s9 p9).map (ren [13, 14, 15, 16, 17, 18, 19, 20, 21, 22, 1, 2, 3, 4, 5, 6, 7, 8, 9, 10, 11, 12])) = (wB c s9 p9 t9 e o oh h k q s1 p1 s2 p2 t1 t2) := rfl
def f_X8_undo (c : Rec) (s : Rec) (p : Rec) (t : Rec) (e : Rec) (o : Rec) (oh : Rec) (h : Rec) (k : Rec) (q : Rec) (s1 : Rec) (p1 : Rec) (s2 : Rec) (p2 : Rec) (t1 : Rec) (t2 : Rec)  : Int32 × Rec × Rec × Rec × Rec := if ((f_X2_goBack t s p).1) = 0 then (((f_X8_refuseNo c ((f_X2_goBack t s p).2.2.1) ((f_X2_goBack t s p).2.2.2) ((f_X2_goBack t s p).2.1) e o oh h k q s1 p1 s2 p2 t1 t2 ((Int32.ofInt (-3)))).1), ((f_X8_refuseNo c ((f_X2_goBack t s p).2.2.1) ((f_X2_goBack t s p).2.2.2) ((f_X2_goBack t s p).2.1) e o oh h k q s1 p1 s2 p2 t1 t2 ((Int32.ofInt (-3)))).2), ((f_X2_goBack t s p).2.2.1), ((f_X2_goBack t s p).2.2.2), ((f_X2_goBack t s p).2.1)) else ((Int32.ofInt 1), c, ((f_X2_goBack t s p).2.2.1), ((f_X2_goBack t s p).2.2.2), ((f_X2_goBack t s p).2.1))
def p_X8_undo (c : Rec) (s : Rec) (p : Rec) (t : Rec) (e : Rec) (o : Rec) (oh : Rec) (h : Rec) (k : Rec) (q : Rec) (s1 : Rec) (p1 : Rec) (s2 : Rec) (p2 : Rec) (t1 : Rec) (t2 : Rec)  : Prop := (p_X2_goBack t s p) ∧ True
set_option maxHeartbeats 16000000 in
set_option maxRecDepth 20000 in
theorem s_X8_undo (c : Rec) (s : Rec) (p : Rec) (t : Rec) (e : Rec) (o : Rec) (oh : Rec) (h : Rec) (k : Rec) (q : Rec) (s1 : Rec) (p1 : Rec) (s2 : Rec) (p2 : Rec) (t1 : Rec) (t2 : Rec)  (hp : p_X8_undo c s p t e o oh h k q s1 p1 s2 p2 t1 t2) : Spec 5 0 0 mX8_undo [.ref 0] (wB c s p t e o oh h k q s1 p1 s2 p2 t1 t2) (Ret (some (.int ((f_X8_undo c s p t e o oh h k q s1 p1 s2 p2 t1 t2).1))) (wB ((f_X8_undo c s p t e o oh h k q s1 p1 s2 p2 t1 t2).2.1) ((f_X8_undo c s p t e o oh h k q s1 p1 s2 p2 t1 t2).2.2.1) ((f_X8_undo c s p t e o oh h k q s1 p1 s2 p2 t1 t2).2.2.2.1) ((f_X8_undo c s p t e o oh h k q s1 p1 s2 p2 t1 t2).2.2.2.2) e o oh h k q s1 p1 s2 p2 t1 t2)) := by
  obtain ⟨zq, hq⟩ : ∃ z, z = (f_X8_undo c s p t e o oh h k q s1 p1 s2 p2 t1 t2) := ⟨_, rfl⟩
  rw [← hq]
  unfold f_X8_undo at hq
  unfold p_X8_undo at hp
  refine Sof fun sc => ?_
  refine g_blk hz0 kX8_undo_0 ?_
  refine cV [13, 14, 15, 16, 17, 18, 19, 20, 21, 22, 1, 2, 3, 4, 5, 6, 7, 8, 9, 10, 11, 12] (wTP t s p) (s_X2_goBack t s p hp.1) rfl cwX2_goBack dX8_undo_8 rfl rfl (hm68_B_TP _ _ _ _ _ _ _ _ _ _ _ _ _ _ _ _) ((len_TP _ _ _).trans (len_TP _ _ _).symm) (wB c ((f_X2_goBack t s p).2.2.1) ((f_X2_goBack t s p).2.2.2) ((f_X2_goBack t s p).2.1) e o oh h k q s1 p1 s2 p2 t1 t2) (pw94_B_TP _ _ _ _ _ _ _ _ _ _ _ _ _ _ _ _ _ _ _) ?_
  replace hp := hp.2
  obtain ⟨g1, hg1⟩ : ∃ z, z = (f_X2_goBack t s p) := ⟨_, rfl⟩
  try rw [← hg1] at hp
  try rw [← hg1] at hq
  rw [← hg1]
  refine g_blk hz0 kX8_undo_11 ?_
  refine ⟨fun c2 => ?_, fun c2 => ?_⟩
  · rw [if_pos (show (g1.1) = 0 from c2)] at hq
    refine g_blk hz0 kX8_undo_18 ?_
    refine cV [0, 1, 2, 3, 4, 5, 6, 7, 8, 9, 10, 11, 12, 13, 14, 15, 16, 17, 18, 19, 20, 21, 22, 23, 24, 25, 26, 27, 28, 29, 30, 31, 32, 33, 34, 35, 36, 37, 38, 39, 40, 41, 42, 43, 44, 45, 46, 47, 48, 49, 50, 51, 52, 53, 54, 55, 56, 57, 58, 59, 60, 61, 62, 63, 64, 65, 66, 67, 68, 69, 70, 71, 72, 73, 74, 75, 76, 77, 78, 79, 80, 81, 82, 83, 84, 85, 86, 87, 88, 89, 90, 91, 92, 93, 94, 95, 96, 97, 98, 99, 100, 101, 102, 103, 104, 105, 106, 107, 108, 109, 110, 111] (wB c (g1.2.2.1) (g1.2.2.2) (g1.2.1) e o oh h k q s1 p1 s2 p2 t1 t2) (s_X8_refuseNo c (g1.2.2.1) (g1.2.2.2) (g1.2.1) e o oh h k q s1 p1 s2 p2 t1 t2 ((Int32.ofInt (-3)))) rfl cwX8_refuseNo dX8_undo_21 rfl rfl (hm63_B_B _ _ _ _ _ _ _ _ _ _ _ _ _ _ _ _) ((len_B _ _ _ _ _ _ _ _ _ _ _ _ _ _ _ _).trans (len_B _ _ _ _ _ _ _ _ _ _ _ _ _ _ _ _).symm) (wB ((f_X8_refuseNo c (g1.2.2.1) (g1.2.2.2) (g1.2.1) e o oh h k q s1 p1 s2 p2 t1 t2 ((Int32.ofInt (-3)))).2) (g1.2.2.1) (g1.2.2.2) (g1.2.1) e o oh h k q s1 p1 s2 p2 t1 t2) (pw85_B_B _ _ _ _ _ _ _ _ _ _ _ _ _ _ _ _ _) ?_
    obtain ⟨g3, hg3⟩ : ∃ z, z = (f_X8_refuseNo c (g1.2.2.1) (g1.2.2.2) (g1.2.1) e o oh h k q s1 p1 s2 p2 t1 t2 ((Int32.ofInt (-3)))) := ⟨_, rfl⟩
    try rw [← hg3] at hp
    try rw [← hg3] at hq
    rw [← hg3]
    refine g_blk hz0 kX8_undo_24 ?_
    subst hq
    exact ⟨fun h => (by cases h), rfl, rfl⟩
  · rw [if_neg (show ¬ ((g1.1) = 0) from c2)] at hq
    refine g_blk hz0 kX8_undo_14 ?_
    refine g_blk hz0 kX8_undo_24 ?_
    subst hq
    exact ⟨fun h => (by cases h), rfl, rfl⟩

set_option maxHeartbeats 16000000 in
theorem hm69_B_OP (c : Rec) (s : Rec) (p : Rec) (t : Rec) (e : Rec) (o : Rec) (oh : Rec) (h : Rec) (k : Rec) (q : Rec) (s1 : Rec) (p1 : Rec) (s2 : Rec) (p2 : Rec) (t1 : Rec) (t2 : Rec) : [26, 27, 28, 29, 30, 1, 2, 3, 4, 5, 6, 7, 8, 9, 10, 11, 12].map (lk (wB c s p t e o oh h k q s1 p1 s2 p2 t1 t2)) = (wOP o s p).map (fun e => some (ren [26, 27, 28, 29, 30, 1, 2, 3, 4, 5, 6, 7, 8, 9, 10, 11, 12] e)) := rfl
set_option maxHeartbeats 16000000 in
theorem pw95_B_OP (c : Rec) (s : Rec) (p : Rec) (t : Rec) (e : Rec) (o : Rec) (oh : Rec) (h : Rec) (k : Rec) (q : Rec) (s1 : Rec) (p1 : Rec) (s2 : Rec) (p2 : Rec) (t1 : Rec) (t2 : Rec) (o9 : Rec) : putW (wB c s p t e o oh h k q s1 p1 s2 p2 t1 t2) [26, 27, 28, 29, 30, 1, 2, 3, 4, 5, 6, 7, 8, 9, 10, 11, 12] ((wOP o9 s p).map (ren [26, 27, 28, 29, 30, 1, 2, 3, 4, 5, 6, 7, 8, 9, 10, 11, 12])) = (wB c s p t e o9 oh h k q s1 p1 s2 p2 t1 t2) := rfl
set_option maxHeartbeats 16000000 in
theorem pw96_B_OP (c : Rec) (s : Rec) (p : Rec) (t : Rec) (e : Rec) (o : Rec) (oh : Rec) (h : Rec) (k : Rec) (q : Rec) (s1 : Rec) (p1 : Rec) (s2 : Rec) (p2 : Rec) (t1 : Rec) (t2 : Rec)  : putW (wB c s p t e o oh h k q s1 p1 s2 p2 t1 t2) [26, 27, 28, 29, 30, 1, 2, 3, 4, 5, 6, 7, 8, 9, 10, 11, 12] ((wOP o s p).map (ren [26, 27, 28, 29, 30, 1, 2, 3, 4, 5, 6, 7, 8, 9, 10, 11, 12])) = (wB c s p t e o oh h k q s1 p1 s2 p2 t1 t2) := rfl
def f_X8_leaves (c : Rec) (s : Rec) (p : Rec) (t : Rec) (e : Rec) (o : Rec) (oh : Rec) (h : Rec) (k : Rec) (q : Rec) (s1 : Rec) (p1 : Rec) (s2 : Rec) (p2 : Rec) (t1 : Rec) (t2 : Rec) (i : Int32) (o1 : Int32) : Int32 × Rec × Rec := if (f_X8_within i ((Int32.ofInt 0)) ((f_X4_choices s) - (Int32.ofInt 1))) = 0 then (((f_X8_refuseBad c s p t e o oh h k q s1 p1 s2 p2 t1 t2 ((Int32.ofInt (-2)))).1), ((f_X8_refuseBad c s p t e o oh h k q s1 p1 s2 p2 t1 t2 ((Int32.ofInt (-2)))).2), o) else (if (f_X8_within o1 ((Int32.ofInt 0)) ((Int32.ofInt 1))) = 0 then (((f_X8_refuseBad c s p t e o oh h k q s1 p1 s2 p2 t1 t2 ((Int32.ofInt (-2)))).1), ((f_X8_refuseBad c s p t e o oh h k q s1 p1 s2 p2 t1 t2 ((Int32.ofInt (-2)))).2), o) else ((f_X1_rulersOf (f_X1_lookBehind o s p i) s p o1), c, (f_X1_lookBehind o s p i)))
def p_X8_leaves (c : Rec) (s : Rec) (p : Rec) (t : Rec) (e : Rec) (o : Rec) (oh : Rec) (h : Rec) (k : Rec) (q : Rec) (s1 : Rec) (p1 : Rec) (s2 : Rec) (p2 : Rec) (t1 : Rec) (t2 : Rec) (i : Int32) (o1 : Int32) : Prop := ((f_X8_within i ((Int32.ofInt 0)) ((f_X4_choices s) - (Int32.ofInt 1))) = 0 → True) ∧ (¬ ((f_X8_within i ((Int32.ofInt 0)) ((f_X4_choices s) - (Int32.ofInt 1))) = 0) → (((f_X8_within o1 ((Int32.ofInt 0)) ((Int32.ofInt 1))) = 0 → True) ∧ (¬ ((f_X8_within o1 ((Int32.ofInt 0)) ((Int32.ofInt 1))) = 0) → ((p_X1_lookBehind o s p i) ∧ ((p_X1_rulersOf (f_X1_lookBehind o s p i) s p o1) ∧ True)))))
set_option maxHeartbeats 16000000 in
set_option maxRecDepth 20000 in
theorem s_X8_leaves (c : Rec) (s : Rec) (p : Rec) (t : Rec) (e : Rec) (o : Rec) (oh : Rec) (h : Rec) (k : Rec) (q : Rec) (s1 : Rec) (p1 : Rec) (s2 : Rec) (p2 : Rec) (t1 : Rec) (t2 : Rec) (i : Int32) (o1 : Int32) (hp : p_X8_leaves c s p t e o oh h k q s1 p1 s2 p2 t1 t2 i o1) : Spec 3 0 0 mX8_leaves [.ref 0, .int i, .int o1] (wB c s p t e o oh h k q s1 p1 s2 p2 t1 t2) (Ret (some (.int ((f_X8_leaves c s p t e o oh h k q s1 p1 s2 p2 t1 t2 i o1).1))) (wB ((f_X8_leaves c s p t e o oh h k q s1 p1 s2 p2 t1 t2 i o1).2.1) s p t e ((f_X8_leaves c s p t e o oh h k q s1 p1 s2 p2 t1 t2 i o1).2.2) oh h k q s1 p1 s2 p2 t1 t2)) := by
  obtain ⟨zq, hq⟩ : ∃ z, z = (f_X8_leaves c s p t e o oh h k q s1 p1 s2 p2 t1 t2 i o1) := ⟨_, rfl⟩
  rw [← hq]
  unfold f_X8_leaves at hq
  unfold p_X8_leaves at hp
  refine Sof fun sc => ?_
  refine g_blk hz0 kX8_leaves_0 ?_
  refine cVp [2, 3, 4, 5, 6, 7, 8] (wS s) (s_X4_choices s) rfl cwX4_choices dX8_leaves_9 rfl rfl (hm67_B_S _ _ _ _ _ _ _ _ _ _ _ _ _ _ _ _) ?_
  refine g_blk hz0 kX8_leaves_12 ?_
  refine cS0 (s_X8_within i ((Int32.ofInt 0)) ((f_X4_choices s) - (Int32.ofInt 1))) rfl cwX8_within dX8_leaves_14 rfl ?_
  refine g_blk hz0 kX8_leaves_17 ?_
  refine ⟨fun c1 => ?_, fun c1 => ?_⟩
  · rw [if_pos (show (f_X8_within i ((Int32.ofInt 0)) ((f_X4_choices s) - (Int32.ofInt 1))) = 0 from c1)] at hq
    refine g_blk hz0 kX8_leaves_29 ?_
    refine cV [0, 1, 2, 3, 4, 5, 6, 7, 8, 9, 10, 11, 12, 13, 14, 15, 16, 17, 18, 19, 20, 21, 22, 23, 24, 25, 26, 27, 28, 29, 30, 31, 32, 33, 34, 35, 36, 37, 38, 39, 40, 41, 42, 43, 44, 45, 46, 47, 48, 49, 50, 51, 52, 53, 54, 55, 56, 57, 58, 59, 60, 61, 62, 63, 64, 65, 66, 67, 68, 69, 70, 71, 72, 73, 74, 75, 76, 77, 78, 79, 80, 81, 82, 83, 84, 85, 86, 87, 88, 89, 90, 91, 92, 93, 94, 95, 96, 97, 98, 99, 100, 101, 102, 103, 104, 105, 106, 107, 108, 109, 110, 111] (wB c s p t e o oh h k q s1 p1 s2 p2 t1 t2) (s_X8_refuseBad c s p t e o oh h k q s1 p1 s2 p2 t1 t2 ((Int32.ofInt (-2)))) rfl cwX8_refuseBad dX8_leaves_32 rfl rfl (hm63_B_B _ _ _ _ _ _ _ _ _ _ _ _ _ _ _ _) ((len_B _ _ _ _ _ _ _ _ _ _ _ _ _ _ _ _).trans (len_B _ _ _ _ _ _ _ _ _ _ _ _ _ _ _ _).symm) (wB ((f_X8_refuseBad c s p t e o oh h k q s1 p1 s2 p2 t1 t2 ((Int32.ofInt (-2)))).2) s p t e o oh h k q s1 p1 s2 p2 t1 t2) (pw85_B_B _ _ _ _ _ _ _ _ _ _ _ _ _ _ _ _ _) ?_
    obtain ⟨g2, hg2⟩ : ∃ z, z = (f_X8_refuseBad c s p t e o oh h k q s1 p1 s2 p2 t1 t2 ((Int32.ofInt (-2)))) := ⟨_, rfl⟩
    try rw [← hg2] at hp
    try rw [← hg2] at hq
    rw [← hg2]
    refine g_blk hz0 kX8_leaves_35 ?_
    subst hq
    exact ⟨fun h => (by cases h), rfl, rfl⟩
  · rw [if_neg (show ¬ ((f_X8_within i ((Int32.ofInt 0)) ((f_X4_choices s) - (Int32.ofInt 1))) = 0) from c1)] at hq
    replace hp := hp.2 c1
    refine g_blk hz0 kX8_leaves_20 ?_
    refine cS0 (s_X8_within o1 ((Int32.ofInt 0)) ((Int32.ofInt 1))) rfl cwX8_within dX8_leaves_23 rfl ?_
    refine g_blk hz0 kX8_leaves_26 ?_
    refine ⟨fun c3 => ?_, fun c3 => ?_⟩
    · rw [if_neg (show ¬ ((f_X8_within o1 ((Int32.ofInt 0)) ((Int32.ofInt 1))) = 0) from c3)] at hq
      replace hp := hp.2 c3
      refine g_blk hz0 kX8_leaves_36 ?_
      refine cV [26, 27, 28, 29, 30, 1, 2, 3, 4, 5, 6, 7, 8, 9, 10, 11, 12] (wOP o s p) (s_X1_lookBehind o s p i hp.1) rfl cwX1_lookBehind dX8_leaves_45 rfl rfl (hm69_B_OP _ _ _ _ _ _ _ _ _ _ _ _ _ _ _ _) ((len_OP _ _ _).trans (len_OP _ _ _).symm) (wB c s p t e (f_X1_lookBehind o s p i) oh h k q s1 p1 s2 p2 t1 t2) (pw95_B_OP _ _ _ _ _ _ _ _ _ _ _ _ _ _ _ _ _) ?_
      replace hp := hp.2
      obtain ⟨g5, hg5⟩ : ∃ z, z = (f_X1_lookBehind o s p i) := ⟨_, rfl⟩
      try rw [← hg5] at hp
      try rw [← hg5] at hq
      rw [← hg5]
      refine g_blk hz0 kX8_leaves_48 ?_
      refine cVp [26, 27, 28, 29, 30, 1, 2, 3, 4, 5, 6, 7, 8, 9, 10, 11, 12] (wOP g5 s p) (s_X1_rulersOf g5 s p o1 hp.1) rfl cwX1_rulersOf dX8_leaves_57 rfl rfl (hm69_B_OP _ _ _ _ _ _ _ _ _ _ _ _ _ _ _ _) ?_
      replace hp := hp.2
      refine g_blk hz0 kX8_leaves_60 ?_
      subst hq
      exact ⟨fun h => (by cases h), rfl, rfl⟩
    · rw [if_pos (show (f_X8_within o1 ((Int32.ofInt 0)) ((Int32.ofInt 1))) = 0 from c3)] at hq
      refine g_blk hz0 kX8_leaves_29 ?_
      refine cV [0, 1, 2, 3, 4, 5, 6, 7, 8, 9, 10, 11, 12, 13, 14, 15, 16, 17, 18, 19, 20, 21, 22, 23, 24, 25, 26, 27, 28, 29, 30, 31, 32, 33, 34, 35, 36, 37, 38, 39, 40, 41, 42, 43, 44, 45, 46, 47, 48, 49, 50, 51, 52, 53, 54, 55, 56, 57, 58, 59, 60, 61, 62, 63, 64, 65, 66, 67, 68, 69, 70, 71, 72, 73, 74, 75, 76, 77, 78, 79, 80, 81, 82, 83, 84, 85, 86, 87, 88, 89, 90, 91, 92, 93, 94, 95, 96, 97, 98, 99, 100, 101, 102, 103, 104, 105, 106, 107, 108, 109, 110, 111] (wB c s p t e o oh h k q s1 p1 s2 p2 t1 t2) (s_X8_refuseBad c s p t e o oh h k q s1 p1 s2 p2 t1 t2 ((Int32.ofInt (-2)))) rfl cwX8_refuseBad dX8_leaves_32 rfl rfl (hm63_B_B _ _ _ _ _ _ _ _ _ _ _ _ _ _ _ _) ((len_B _ _ _ _ _ _ _ _ _ _ _ _ _ _ _ _).trans (len_B _ _ _ _ _ _ _ _ _ _ _ _ _ _ _ _).symm) (wB ((f_X8_refuseBad c s p t e o oh h k q s1 p1 s2 p2 t1 t2 ((Int32.ofInt (-2)))).2) s p t e o oh h k q s1 p1 s2 p2 t1 t2) (pw85_B_B _ _ _ _ _ _ _ _ _ _ _ _ _ _ _ _ _) ?_
      obtain ⟨g4, hg4⟩ : ∃ z, z = (f_X8_refuseBad c s p t e o oh h k q s1 p1 s2 p2 t1 t2 ((Int32.ofInt (-2)))) := ⟨_, rfl⟩
      try rw [← hg4] at hp
      try rw [← hg4] at hq
      rw [← hg4]
      refine g_blk hz0 kX8_leaves_35 ?_
      subst hq
      exact ⟨fun h => (by cases h), rfl, rfl⟩

def f_X8_habit (c : Rec) (s : Rec) (p : Rec) (t : Rec) (e : Rec) (o : Rec) (oh : Rec) (h : Rec) (k : Rec) (q : Rec) (s1 : Rec) (p1 : Rec) (s2 : Rec) (p2 : Rec) (t1 : Rec) (t2 : Rec)  : Int32 × Rec := (((f_X1_habitOf o s p).1), ((f_X1_habitOf o s p).2))
def p_X8_habit (c : Rec) (s : Rec) (p : Rec) (t : Rec) (e : Rec) (o : Rec) (oh : Rec) (h : Rec) (k : Rec) (q : Rec) (s1 : Rec) (p1 : Rec) (s2 : Rec) (p2 : Rec) (t1 : Rec) (t2 : Rec)  : Prop := (p_X1_habitOf o s p) ∧ True
set_option maxHeartbeats 16000000 in
set_option maxRecDepth 20000 in
theorem s_X8_habit (c : Rec) (s : Rec) (p : Rec) (t : Rec) (e : Rec) (o : Rec) (oh : Rec) (h : Rec) (k : Rec) (q : Rec) (s1 : Rec) (p1 : Rec) (s2 : Rec) (p2 : Rec) (t1 : Rec) (t2 : Rec)  (hp : p_X8_habit c s p t e o oh h k q s1 p1 s2 p2 t1 t2) : Spec 4 0 0 mX8_habit [.ref 0] (wB c s p t e o oh h k q s1 p1 s2 p2 t1 t2) (Ret (some (.int ((f_X8_habit c s p t e o oh h k q s1 p1 s2 p2 t1 t2).1))) (wB c s p t e ((f_X8_habit c s p t e o oh h k q s1 p1 s2 p2 t1 t2).2) oh h k q s1 p1 s2 p2 t1 t2)) := by
  obtain ⟨zq, hq⟩ : ∃ z, z = (f_X8_habit c s p t e o oh h k q s1 p1 s2 p2 t1 t2) := ⟨_, rfl⟩
  rw [← hq]
  unfold f_X8_habit at hq
  unfold p_X8_habit at hp
  refine Sof fun sc => ?_
  refine g_blk hz0 kX8_habit_0 ?_
  refine cV [26, 27, 28, 29, 30, 1, 2, 3, 4, 5, 6, 7, 8, 9, 10, 11, 12] (wOP o s p) (s_X1_habitOf o s p hp.1) rfl cwX1_habitOf dX8_habit_8 rfl rfl (hm69_B_OP _ _ _ _ _ _ _ _ _ _ _ _ _ _ _ _) ((len_OP _ _ _).trans (len_OP _ _ _).symm) (wB c s p t e ((f_X1_habitOf o s p).2) oh h k q s1 p1 s2 p2 t1 t2) (pw95_B_OP _ _ _ _ _ _ _ _ _ _ _ _ _ _ _ _ _) ?_
  replace hp := hp.2
  obtain ⟨g1, hg1⟩ : ∃ z, z = (f_X1_habitOf o s p) := ⟨_, rfl⟩
  try rw [← hg1] at hp
  try rw [← hg1] at hq
  rw [← hg1]
  refine g_blk hz0 kX8_habit_11 ?_
  subst hq
  exact ⟨fun h => (by cases h), rfl, rfl⟩

def f_X8_safe (c : Rec) (s : Rec) (p : Rec) (t : Rec) (e : Rec) (o : Rec) (oh : Rec) (h : Rec) (k : Rec) (q : Rec) (s1 : Rec) (p1 : Rec) (s2 : Rec) (p2 : Rec) (t1 : Rec) (t2 : Rec)  : Int32 × Rec := (((f_X1_safeMen o s p).1), ((f_X1_safeMen o s p).2))
def p_X8_safe (c : Rec) (s : Rec) (p : Rec) (t : Rec) (e : Rec) (o : Rec) (oh : Rec) (h : Rec) (k : Rec) (q : Rec) (s1 : Rec) (p1 : Rec) (s2 : Rec) (p2 : Rec) (t1 : Rec) (t2 : Rec)  : Prop := (p_X1_safeMen o s p) ∧ True
set_option maxHeartbeats 16000000 in
set_option maxRecDepth 20000 in
theorem s_X8_safe (c : Rec) (s : Rec) (p : Rec) (t : Rec) (e : Rec) (o : Rec) (oh : Rec) (h : Rec) (k : Rec) (q : Rec) (s1 : Rec) (p1 : Rec) (s2 : Rec) (p2 : Rec) (t1 : Rec) (t2 : Rec)  (hp : p_X8_safe c s p t e o oh h k q s1 p1 s2 p2 t1 t2) : Spec 4 0 0 mX8_safe [.ref 0] (wB c s p t e o oh h k q s1 p1 s2 p2 t1 t2) (Ret (some (.int ((f_X8_safe c s p t e o oh h k q s1 p1 s2 p2 t1 t2).1))) (wB c s p t e ((f_X8_safe c s p t e o oh h k q s1 p1 s2 p2 t1 t2).2) oh h k q s1 p1 s2 p2 t1 t2)) := by
  obtain ⟨zq, hq⟩ : ∃ z, z = (f_X8_safe c s p t e o oh h k q s1 p1 s2 p2 t1 t2) := ⟨_, rfl⟩
  rw [← hq]
  unfold f_X8_safe at hq
  unfold p_X8_safe at hp
  refine Sof fun sc => ?_
  refine g_blk hz0 kX8_safe_0 ?_
  refine cV [26, 27, 28, 29, 30, 1, 2, 3, 4, 5, 6, 7, 8, 9, 10, 11, 12] (wOP o s p) (s_X1_safeMen o s p hp.1) rfl cwX1_safeMen dX8_safe_8 rfl rfl (hm69_B_OP _ _ _ _ _ _ _ _ _ _ _ _ _ _ _ _) ((len_OP _ _ _).trans (len_OP _ _ _).symm) (wB c s p t e ((f_X1_safeMen o s p).2) oh h k q s1 p1 s2 p2 t1 t2) (pw95_B_OP _ _ _ _ _ _ _ _ _ _ _ _ _ _ _ _ _) ?_
  replace hp := hp.2
  obtain ⟨g1, hg1⟩ : ∃ z, z = (f_X1_safeMen o s p) := ⟨_, rfl⟩
  try rw [← hg1] at hp
  try rw [← hg1] at hq
  rw [← hg1]
  refine g_blk hz0 kX8_safe_11 ?_
  subst hq
  exact ⟨fun h => (by cases h), rfl, rfl⟩

set_option maxHeartbeats 16000000 in
theorem hm70_B_KP (c : Rec) (s : Rec) (p : Rec) (t : Rec) (e : Rec) (o : Rec) (oh : Rec) (h : Rec) (k : Rec) (q : Rec) (s1 : Rec) (p1 : Rec) (s2 : Rec) (p2 : Rec) (t1 : Rec) (t2 : Rec) : [47, 48, 49, 1, 2, 3, 4, 5, 6, 7, 8, 9, 10, 11, 12].map (lk (wB c s p t e o oh h k q s1 p1 s2 p2 t1 t2)) = (wKP k s p).map (fun e => some (ren [47, 48, 49, 1, 2, 3, 4, 5, 6, 7, 8, 9, 10, 11, 12] e)) := rfl
set_option maxHeartbeats 16000000 in
theorem pw97_B_KP (c : Rec) (s : Rec) (p : Rec) (t : Rec) (e : Rec) (o : Rec) (oh : Rec) (h : Rec) (k : Rec) (q : Rec) (s1 : Rec) (p1 : Rec) (s2 : Rec) (p2 : Rec) (t1 : Rec) (t2 : Rec) (k9 : Rec) : putW (wB c s p t e o oh h k q s1 p1 s2 p2 t1 t2) [47, 48, 49, 1, 2, 3, 4, 5, 6, 7, 8, 9, 10, 11, 12] ((wKP k9 s p).map (ren [47, 48, 49, 1, 2, 3, 4, 5, 6, 7, 8, 9, 10, 11, 12])) = (wB c s p t e o oh h k9 q s1 p1 s2 p2 t1 t2) := rfl
def f_X8_reach (c : Rec) (s : Rec) (p : Rec) (t : Rec) (e : Rec) (o : Rec) (oh : Rec) (h : Rec) (k : Rec) (q : Rec) (s1 : Rec) (p1 : Rec) (s2 : Rec) (p2 : Rec) (t1 : Rec) (t2 : Rec) (x : Int32) (y : Int32) (n : Int32) : Int32 × Rec × Rec := if (f_X8_within n ((Int32.ofInt 0)) ((Int32.ofInt 9))) = 0 then (((f_X8_refuseBad c s p t e o oh h k q s1 p1 s2 p2 t1 t2 ((Int32.ofInt (-2)))).1), ((f_X8_refuseBad c s p t e o oh h k q s1 p1 s2 p2 t1 t2 ((Int32.ofInt (-2)))).2), k) else (if (f_X3_rulerAt s p x y) = (Int32.ofInt (-1)) then (((f_X8_refuseBad c s p t e o oh h k q s1 p1 s2 p2 t1 t2 ((Int32.ofInt (-2)))).1), ((f_X8_refuseBad c s p t e o oh h k q s1 p1 s2 p2 t1 t2 ((Int32.ofInt (-2)))).2), k) else (((f_X7_howFar k s p x y n).1), c, ((f_X7_howFar k s p x y n).2)))
def p_X8_reach (c : Rec) (s : Rec) (p : Rec) (t : Rec) (e : Rec) (o : Rec) (oh : Rec) (h : Rec) (k : Rec) (q : Rec) (s1 : Rec) (p1 : Rec) (s2 : Rec) (p2 : Rec) (t1 : Rec) (t2 : Rec) (x : Int32) (y : Int32) (n : Int32) : Prop := ((f_X8_within n ((Int32.ofInt 0)) ((Int32.ofInt 9))) = 0 → True) ∧ (¬ ((f_X8_within n ((Int32.ofInt 0)) ((Int32.ofInt 9))) = 0) → ((p_X3_rulerAt s p x y) ∧ (((f_X3_rulerAt s p x y) = (Int32.ofInt (-1)) → True) ∧ (¬ ((f_X3_rulerAt s p x y) = (Int32.ofInt (-1))) → ((p_X7_howFar k s p x y n) ∧ True)))))
set_option maxHeartbeats 16000000 in
set_option maxRecDepth 20000 in
theorem s_X8_reach (c : Rec) (s : Rec) (p : Rec) (t : Rec) (e : Rec) (o : Rec) (oh : Rec) (h : Rec) (k : Rec) (q : Rec) (s1 : Rec) (p1 : Rec) (s2 : Rec) (p2 : Rec) (t1 : Rec) (t2 : Rec) (x : Int32) (y : Int32) (n : Int32) (hp : p_X8_reach c s p t e o oh h k q s1 p1 s2 p2 t1 t2 x y n) : Spec 4 0 0 mX8_reach [.ref 0, .int x, .int y, .int n] (wB c s p t e o oh h k q s1 p1 s2 p2 t1 t2) (Ret (some (.int ((f_X8_reach c s p t e o oh h k q s1 p1 s2 p2 t1 t2 x y n).1))) (wB ((f_X8_reach c s p t e o oh h k q s1 p1 s2 p2 t1 t2 x y n).2.1) s p t e o oh h ((f_X8_reach c s p t e o oh h k q s1 p1 s2 p2 t1 t2 x y n).2.2) q s1 p1 s2 p2 t1 t2)) := by
  obtain ⟨zq, hq⟩ : ∃ z, z = (f_X8_reach c s p t e o oh h k q s1 p1 s2 p2 t1 t2 x y n) := ⟨_, rfl⟩
  rw [← hq]
  unfold f_X8_reach at hq
  unfold p_X8_reach at hp
  refine Sof fun sc => ?_
  refine g_blk hz0 kX8_reach_0 ?_
  refine cS0 (s_X8_within n ((Int32.ofInt 0)) ((Int32.ofInt 9))) rfl cwX8_within dX8_reach_4 rfl ?_
  refine g_blk hz0 kX8_reach_7 ?_
  refine ⟨fun c1 => ?_, fun c1 => ?_⟩
  · rw [if_pos (show (f_X8_within n ((Int32.ofInt 0)) ((Int32.ofInt 9))) = 0 from c1)] at hq
    refine g_blk hz0 kX8_reach_23 ?_
    refine cV [0, 1, 2, 3, 4, 5, 6, 7, 8, 9, 10, 11, 12, 13, 14, 15, 16, 17, 18, 19, 20, 21, 22, 23, 24, 25, 26, 27, 28, 29, 30, 31, 32, 33, 34, 35, 36, 37, 38, 39, 40, 41, 42, 43, 44, 45, 46, 47, 48, 49, 50, 51, 52, 53, 54, 55, 56, 57, 58, 59, 60, 61, 62, 63, 64, 65, 66, 67, 68, 69, 70, 71, 72, 73, 74, 75, 76, 77, 78, 79, 80, 81, 82, 83, 84, 85, 86, 87, 88, 89, 90, 91, 92, 93, 94, 95, 96, 97, 98, 99, 100, 101, 102, 103, 104, 105, 106, 107, 108, 109, 110, 111] (wB c s p t e o oh h k q s1 p1 s2 p2 t1 t2) (s_X8_refuseBad c s p t e o oh h k q s1 p1 s2 p2 t1 t2 ((Int32.ofInt (-2)))) rfl cwX8_refuseBad dX8_reach_26 rfl rfl (hm63_B_B _ _ _ _ _ _ _ _ _ _ _ _ _ _ _ _) ((len_B _ _ _ _ _ _ _ _ _ _ _ _ _ _ _ _).trans (len_B _ _ _ _ _ _ _ _ _ _ _ _ _ _ _ _).symm) (wB ((f_X8_refuseBad c s p t e o oh h k q s1 p1 s2 p2 t1 t2 ((Int32.ofInt (-2)))).2) s p t e o oh h k q s1 p1 s2 p2 t1 t2) (pw85_B_B _ _ _ _ _ _ _ _ _ _ _ _ _ _ _ _ _) ?_
    obtain ⟨g2, hg2⟩ : ∃ z, z = (f_X8_refuseBad c s p t e o oh h k q s1 p1 s2 p2 t1 t2 ((Int32.ofInt (-2)))) := ⟨_, rfl⟩
    try rw [← hg2] at hp
    try rw [← hg2] at hq
    rw [← hg2]
    refine g_blk hz0 kX8_reach_29 ?_
    subst hq
    exact ⟨fun h => (by cases h), rfl, rfl⟩
  · rw [if_neg (show ¬ ((f_X8_within n ((Int32.ofInt 0)) ((Int32.ofInt 9))) = 0) from c1)] at hq
    replace hp := hp.2 c1
    refine g_blk hz0 kX8_reach_10 ?_
    refine cVp [1, 2, 3, 4, 5, 6, 7, 8, 9, 10, 11, 12] (wP s p) (s_X3_rulerAt s p x y hp.1) rfl cwX3_rulerAt dX8_reach_16 rfl rfl (hm64_B_P _ _ _ _ _ _ _ _ _ _ _ _ _ _ _ _) ?_
    replace hp := hp.2
    refine g_blk hz0 kX8_reach_19 ?_
    refine ⟨fun c3 => ?_, fun c3 => ?_⟩
    · rw [if_neg (show ¬ ((f_X3_rulerAt s p x y) = (Int32.ofInt (-1))) from c3)] at hq
      replace hp := hp.2 c3
      refine g_blk hz0 kX8_reach_30 ?_
      refine cV [47, 48, 49, 1, 2, 3, 4, 5, 6, 7, 8, 9, 10, 11, 12] (wKP k s p) (s_X7_howFar k s p x y n hp.1) rfl cwX7_howFar dX8_reach_41 rfl rfl (hm70_B_KP _ _ _ _ _ _ _ _ _ _ _ _ _ _ _ _) ((len_KP _ _ _).trans (len_KP _ _ _).symm) (wB c s p t e o oh h ((f_X7_howFar k s p x y n).2) q s1 p1 s2 p2 t1 t2) (pw97_B_KP _ _ _ _ _ _ _ _ _ _ _ _ _ _ _ _ _) ?_
      replace hp := hp.2
      obtain ⟨g5, hg5⟩ : ∃ z, z = (f_X7_howFar k s p x y n) := ⟨_, rfl⟩
      try rw [← hg5] at hp
      try rw [← hg5] at hq
      rw [← hg5]
      refine g_blk hz0 kX8_reach_44 ?_
      subst hq
      exact ⟨fun h => (by cases h), rfl, rfl⟩
    · rw [if_pos (show (f_X3_rulerAt s p x y) = (Int32.ofInt (-1)) from c3)] at hq
      refine g_blk hz0 kX8_reach_23 ?_
      refine cV [0, 1, 2, 3, 4, 5, 6, 7, 8, 9, 10, 11, 12, 13, 14, 15, 16, 17, 18, 19, 20, 21, 22, 23, 24, 25, 26, 27, 28, 29, 30, 31, 32, 33, 34, 35, 36, 37, 38, 39, 40, 41, 42, 43, 44, 45, 46, 47, 48, 49, 50, 51, 52, 53, 54, 55, 56, 57, 58, 59, 60, 61, 62, 63, 64, 65, 66, 67, 68, 69, 70, 71, 72, 73, 74, 75, 76, 77, 78, 79, 80, 81, 82, 83, 84, 85, 86, 87, 88, 89, 90, 91, 92, 93, 94, 95, 96, 97, 98, 99, 100, 101, 102, 103, 104, 105, 106, 107, 108, 109, 110, 111] (wB c s p t e o oh h k q s1 p1 s2 p2 t1 t2) (s_X8_refuseBad c s p t e o oh h k q s1 p1 s2 p2 t1 t2 ((Int32.ofInt (-2)))) rfl cwX8_refuseBad dX8_reach_26 rfl rfl (hm63_B_B _ _ _ _ _ _ _ _ _ _ _ _ _ _ _ _) ((len_B _ _ _ _ _ _ _ _ _ _ _ _ _ _ _ _).trans (len_B _ _ _ _ _ _ _ _ _ _ _ _ _ _ _ _).symm) (wB ((f_X8_refuseBad c s p t e o oh h k q s1 p1 s2 p2 t1 t2 ((Int32.ofInt (-2)))).2) s p t e o oh h k q s1 p1 s2 p2 t1 t2) (pw85_B_B _ _ _ _ _ _ _ _ _ _ _ _ _ _ _ _ _) ?_
      obtain ⟨g4, hg4⟩ : ∃ z, z = (f_X8_refuseBad c s p t e o oh h k q s1 p1 s2 p2 t1 t2 ((Int32.ofInt (-2)))) := ⟨_, rfl⟩
      try rw [← hg4] at hp
      try rw [← hg4] at hq
      rw [← hg4]
      refine g_blk hz0 kX8_reach_29 ?_
      subst hq
      exact ⟨fun h => (by cases h), rfl, rfl⟩

set_option maxHeartbeats 16000000 in
theorem hm71_B_E (c : Rec) (s : Rec) (p : Rec) (t : Rec) (e : Rec) (o : Rec) (oh : Rec) (h : Rec) (k : Rec) (q : Rec) (s1 : Rec) (p1 : Rec) (s2 : Rec) (p2 : Rec) (t1 : Rec) (t2 : Rec) : [23, 24, 25].map (lk (wB c s p t e o oh h k q s1 p1 s2 p2 t1 t2)) = (wE e).map (fun e => some (ren [23, 24, 25] e)) := rfl
set_option maxHeartbeats 16000000 in
theorem pw98_B_E (c : Rec) (s : Rec) (p : Rec) (t : Rec) (e : Rec) (o : Rec) (oh : Rec) (h : Rec) (k : Rec) (q : Rec) (s1 : Rec) (p1 : Rec) (s2 : Rec) (p2 : Rec) (t1 : Rec) (t2 : Rec) (e9 : Rec) : putW (wB c s p t e o oh h k q s1 p1 s2 p2 t1 t2) [23, 24, 25] ((wE e9).map (ren [23, 24, 25])) = (wB c s p t e9 o oh h k q s1 p1 s2 p2 t1 t2) := rfl
def f_X8_type_42  : Nat → Rec → Rec → Rec → Rec → Rec → Rec → Rec → Rec → Rec → Rec → Rec → Rec → Rec → Rec → Rec → Rec → Int64 → Int32 → Int32 × Rec × Rec
  | 0, c, s, p, t, e, o, oh, h, k, q, s1, p1, s2, p2, t1, t2, v1, v4 => (0, c, e)
  | n + 1, c, s, p, t, e, o, oh, h, k, q, s1, p1, s2, p2, t1, t2, v1, v4 => if v4 < 0 then ((e.1 2), c, e) else (f_X8_type_42 n c s p t (f_X6_add e (Int64.toInt32 ((Int64.toUInt64 v1 >>> ((Int32.toInt64 ((Int32.ofInt 8) * v4)).toUInt64 &&& Int64.toUInt64 63)).toInt64 &&& 255))) o oh h k q s1 p1 s2 p2 t1 t2 v1 (v4 + (Int32.ofInt (-1))))
def p_X8_type_42  : Nat → Rec → Rec → Rec → Rec → Rec → Rec → Rec → Rec → Rec → Rec → Rec → Rec → Rec → Rec → Rec → Rec → Int64 → Int32 → Prop
  | 0, _, _, _, _, _, _, _, _, _, _, _, _, _, _, _, _, _, _ => False
  | n + 1, c, s, p, t, e, o, oh, h, k, q, s1, p1, s2, p2, t1, t2, v1, v4 => (v4 < 0 → True) ∧ (¬ (v4 < 0) → ((p_X6_add e (Int64.toInt32 ((Int64.toUInt64 v1 >>> ((Int32.toInt64 ((Int32.ofInt 8) * v4)).toUInt64 &&& Int64.toUInt64 63)).toInt64 &&& 255))) ∧ (p_X8_type_42 n c s p t (f_X6_add e (Int64.toInt32 ((Int64.toUInt64 v1 >>> ((Int32.toInt64 ((Int32.ofInt 8) * v4)).toUInt64 &&& Int64.toUInt64 63)).toInt64 &&& 255))) o oh h k q s1 p1 s2 p2 t1 t2 v1 (v4 + (Int32.ofInt (-1))))))
set_option maxHeartbeats 16000000 in
set_option maxRecDepth 20000 in
theorem l_X8_type_42 (sc : SC) (s : Rec) (p : Rec) (t : Rec) (o : Rec) (oh : Rec) (h : Rec) (k : Rec) (q : Rec) (s1 : Rec) (p1 : Rec) (s2 : Rec) (p2 : Rec) (t1 : Rec) (t2 : Rec)  (zq : Int32 × Rec × Rec)  : ∀ (n : Nat) (c : Rec) (e : Rec) (v1 : Int64) (v4 : Int32), p_X8_type_42 n c s p t e o oh h k q s1 p1 s2 p2 t1 t2 v1 v4 → zq = f_X8_type_42 n c s p t e o oh h k q s1 p1 s2 p2 t1 t2 v1 v4 → Good sc 1 0 0 112 mX8_type (Ret (some (.int (zq.1))) (wB (zq.2.1) s p t (zq.2.2) o oh h k q s1 p1 s2 p2 t1 t2)) 0 0 42 [some (.ref 0), some (.long v1), none, none, some (.int v4)] [] (wB c s p t e o oh h k q s1 p1 s2 p2 t1 t2) := by
  intro n
  induction n with
  | zero => intro c e v1 v4 hp; exact hp.elim
  | succ n ih =>
    intro c e v1 v4 hp hq
    unfold p_X8_type_42 at hp
    unfold f_X8_type_42 at hq
    refine g_blk hz0 kX8_type_42 ?_
    refine ⟨fun c5 => ?_, fun c5 => ?_⟩
    · rw [if_pos (show v4 < 0 from c5)] at hq
      refine g_blk hz0 kX8_type_72 ?_
      subst hq
      exact ⟨fun h => (by cases h), rfl, rfl⟩
    · rw [if_neg (show ¬ (v4 < 0) from c5)] at hq
      replace hp := hp.2 c5
      refine g_blk hz0 kX8_type_47 ?_
      refine cV [23, 24, 25] (wE e) (s_X6_add e (Int64.toInt32 ((Int64.toUInt64 v1 >>> ((Int32.toInt64 ((Int32.ofInt 8) * v4)).toUInt64 &&& Int64.toUInt64 63)).toInt64 &&& 255)) hp.1) rfl cwX6_add dX8_type_63 rfl rfl (hm71_B_E _ _ _ _ _ _ _ _ _ _ _ _ _ _ _ _) ((len_E _).trans (len_E _).symm) (wB c s p t (f_X6_add e (Int64.toInt32 ((Int64.toUInt64 v1 >>> ((Int32.toInt64 ((Int32.ofInt 8) * v4)).toUInt64 &&& Int64.toUInt64 63)).toInt64 &&& 255))) o oh h k q s1 p1 s2 p2 t1 t2) (pw98_B_E _ _ _ _ _ _ _ _ _ _ _ _ _ _ _ _ _) ?_
      replace hp := hp.2
      obtain ⟨g6, hg6⟩ : ∃ z, z = (f_X6_add e (Int64.toInt32 ((Int64.toUInt64 v1 >>> ((Int32.toInt64 ((Int32.ofInt 8) * v4)).toUInt64 &&& Int64.toUInt64 63)).toInt64 &&& 255))) := ⟨_, rfl⟩
      try rw [← hg6] at hp
      try rw [← hg6] at hq
      rw [← hg6]
      refine g_blk hz0 kX8_type_66 ?_
      refine g_le (L2 := [some (.ref 0), some (.long v1), none, none, some (.int (v4 + (Int32.ofInt (-1))))]) ⟨rfl, rfl, rfl, trivial⟩ ?_
      exact ih c g6 v1 (v4 + (Int32.ofInt (-1))) hp hq
def f_X8_type (c : Rec) (s : Rec) (p : Rec) (t : Rec) (e : Rec) (o : Rec) (oh : Rec) (h : Rec) (k : Rec) (q : Rec) (s1 : Rec) (p1 : Rec) (s2 : Rec) (p2 : Rec) (t1 : Rec) (t2 : Rec) (v : Int64) (n : Int32) : Int32 × Rec × Rec := if (f_X8_within n ((Int32.ofInt 1)) ((Int32.ofInt 8))) = 0 then (((f_X8_refuseBad c s p t e o oh h k q s1 p1 s2 p2 t1 t2 ((Int32.ofInt (-2)))).1), ((f_X8_refuseBad c s p t e o oh h k q s1 p1 s2 p2 t1 t2 ((Int32.ofInt (-2)))).2), e) else (if ((e.1 2) + n) ≤ (Int32.ofInt 200) then (f_X8_type_42 40 c s p t e o oh h k q s1 p1 s2 p2 t1 t2 v (n - (Int32.ofInt 1))) else (((f_X8_refuseFull c s p t e o oh h k q s1 p1 s2 p2 t1 t2).1), ((f_X8_refuseFull c s p t e o oh h k q s1 p1 s2 p2 t1 t2).2), e))
def p_X8_type (c : Rec) (s : Rec) (p : Rec) (t : Rec) (e : Rec) (o : Rec) (oh : Rec) (h : Rec) (k : Rec) (q : Rec) (s1 : Rec) (p1 : Rec) (s2 : Rec) (p2 : Rec) (t1 : Rec) (t2 : Rec) (v : Int64) (n : Int32) : Prop := ((f_X8_within n ((Int32.ofInt 1)) ((Int32.ofInt 8))) = 0 → True) ∧ (¬ ((f_X8_within n ((Int32.ofInt 1)) ((Int32.ofInt 8))) = 0) → ((((e.1 2) + n) ≤ (Int32.ofInt 200) → (p_X8_type_42 40 c s p t e o oh h k q s1 p1 s2 p2 t1 t2 v (n - (Int32.ofInt 1)))) ∧ (¬ (((e.1 2) + n) ≤ (Int32.ofInt 200)) → True)))
set_option maxHeartbeats 16000000 in
set_option maxRecDepth 20000 in
theorem s_X8_type (c : Rec) (s : Rec) (p : Rec) (t : Rec) (e : Rec) (o : Rec) (oh : Rec) (h : Rec) (k : Rec) (q : Rec) (s1 : Rec) (p1 : Rec) (s2 : Rec) (p2 : Rec) (t1 : Rec) (t2 : Rec) (v : Int64) (n : Int32) (hp : p_X8_type c s p t e o oh h k q s1 p1 s2 p2 t1 t2 v n) : Spec 1 0 0 mX8_type [.ref 0, .long v, .int n] (wB c s p t e o oh h k q s1 p1 s2 p2 t1 t2) (Ret (some (.int ((f_X8_type c s p t e o oh h k q s1 p1 s2 p2 t1 t2 v n).1))) (wB ((f_X8_type c s p t e o oh h k q s1 p1 s2 p2 t1 t2 v n).2.1) s p t ((f_X8_type c s p t e o oh h k q s1 p1 s2 p2 t1 t2 v n).2.2) o oh h k q s1 p1 s2 p2 t1 t2)) := by
  obtain ⟨zq, hq⟩ : ∃ z, z = (f_X8_type c s p t e o oh h k q s1 p1 s2 p2 t1 t2 v n) := ⟨_, rfl⟩
  rw [← hq]
  unfold f_X8_type at hq
  unfold p_X8_type at hp
  refine Sof fun sc => ?_
  refine g_blk hz0 kX8_type_0 ?_
  refine cS0 (s_X8_within n ((Int32.ofInt 1)) ((Int32.ofInt 8))) rfl cwX8_within dX8_type_4 rfl ?_
  refine g_blk hz0 kX8_type_7 ?_
  refine ⟨fun c1 => ?_, fun c1 => ?_⟩
  · rw [if_neg (show ¬ ((f_X8_within n ((Int32.ofInt 1)) ((Int32.ofInt 8))) = 0) from c1)] at hq
    replace hp := hp.2 c1
    refine g_blk hz0 kX8_type_17 ?_
    refine ⟨fun c3 => ?_, fun c3 => ?_⟩
    · rw [if_pos (show ((e.1 2) + n) ≤ (Int32.ofInt 200) from c3)] at hq
      replace hp := hp.1 c3
      refine g_blk hz0 kX8_type_37 ?_
      refine g_le (L2 := [some (.ref 0), some (.long v), none, none, some (.int (n - (Int32.ofInt 1)))]) ⟨rfl, rfl, rfl, trivial⟩ ?_
      exact l_X8_type_42 sc s p t o oh h k q s1 p1 s2 p2 t1 t2 zq 40 c e v (n - (Int32.ofInt 1)) hp hq
    · rw [if_neg (show ¬ (((e.1 2) + n) ≤ (Int32.ofInt 200)) from c3)] at hq
      refine g_blk hz0 kX8_type_32 ?_
      refine cV [0, 1, 2, 3, 4, 5, 6, 7, 8, 9, 10, 11, 12, 13, 14, 15, 16, 17, 18, 19, 20, 21, 22, 23, 24, 25, 26, 27, 28, 29, 30, 31, 32, 33, 34, 35, 36, 37, 38, 39, 40, 41, 42, 43, 44, 45, 46, 47, 48, 49, 50, 51, 52, 53, 54, 55, 56, 57, 58, 59, 60, 61, 62, 63, 64, 65, 66, 67, 68, 69, 70, 71, 72, 73, 74, 75, 76, 77, 78, 79, 80, 81, 82, 83, 84, 85, 86, 87, 88, 89, 90, 91, 92, 93, 94, 95, 96, 97, 98, 99, 100, 101, 102, 103, 104, 105, 106, 107, 108, 109, 110, 111] (wB c s p t e o oh h k q s1 p1 s2 p2 t1 t2) (s_X8_refuseFull c s p t e o oh h k q s1 p1 s2 p2 t1 t2) rfl cwX8_refuseFull dX8_type_33 rfl rfl (hm63_B_B _ _ _ _ _ _ _ _ _ _ _ _ _ _ _ _) ((len_B _ _ _ _ _ _ _ _ _ _ _ _ _ _ _ _).trans (len_B _ _ _ _ _ _ _ _ _ _ _ _ _ _ _ _).symm) (wB ((f_X8_refuseFull c s p t e o oh h k q s1 p1 s2 p2 t1 t2).2) s p t e o oh h k q s1 p1 s2 p2 t1 t2) (pw85_B_B _ _ _ _ _ _ _ _ _ _ _ _ _ _ _ _ _) ?_
      obtain ⟨g4, hg4⟩ : ∃ z, z = (f_X8_refuseFull c s p t e o oh h k q s1 p1 s2 p2 t1 t2) := ⟨_, rfl⟩
      try rw [← hg4] at hp
      try rw [← hg4] at hq
      rw [← hg4]
      refine g_blk hz0 kX8_type_36 ?_
      subst hq
      exact ⟨fun h => (by cases h), rfl, rfl⟩
  · rw [if_pos (show (f_X8_within n ((Int32.ofInt 1)) ((Int32.ofInt 8))) = 0 from c1)] at hq
    refine g_blk hz0 kX8_type_10 ?_
    refine cV [0, 1, 2, 3, 4, 5, 6, 7, 8, 9, 10, 11, 12, 13, 14, 15, 16, 17, 18, 19, 20, 21, 22, 23, 24, 25, 26, 27, 28, 29, 30, 31, 32, 33, 34, 35, 36, 37, 38, 39, 40, 41, 42, 43, 44, 45, 46, 47, 48, 49, 50, 51, 52, 53, 54, 55, 56, 57, 58, 59, 60, 61, 62, 63, 64, 65, 66, 67, 68, 69, 70, 71, 72, 73, 74, 75, 76, 77, 78, 79, 80, 81, 82, 83, 84, 85, 86, 87, 88, 89, 90, 91, 92, 93, 94, 95, 96, 97, 98, 99, 100, 101, 102, 103, 104, 105, 106, 107, 108, 109, 110, 111] (wB c s p t e o oh h k q s1 p1 s2 p2 t1 t2) (s_X8_refuseBad c s p t e o oh h k q s1 p1 s2 p2 t1 t2 ((Int32.ofInt (-2)))) rfl cwX8_refuseBad dX8_type_13 rfl rfl (hm63_B_B _ _ _ _ _ _ _ _ _ _ _ _ _ _ _ _) ((len_B _ _ _ _ _ _ _ _ _ _ _ _ _ _ _ _).trans (len_B _ _ _ _ _ _ _ _ _ _ _ _ _ _ _ _).symm) (wB ((f_X8_refuseBad c s p t e o oh h k q s1 p1 s2 p2 t1 t2 ((Int32.ofInt (-2)))).2) s p t e o oh h k q s1 p1 s2 p2 t1 t2) (pw85_B_B _ _ _ _ _ _ _ _ _ _ _ _ _ _ _ _ _) ?_
    obtain ⟨g2, hg2⟩ : ∃ z, z = (f_X8_refuseBad c s p t e o oh h k q s1 p1 s2 p2 t1 t2 ((Int32.ofInt (-2)))) := ⟨_, rfl⟩
    try rw [← hg2] at hp
    try rw [← hg2] at hq
    rw [← hg2]
    refine g_blk hz0 kX8_type_16 ?_
    subst hq
    exact ⟨fun h => (by cases h), rfl, rfl⟩

def f_X8_mixBoard_71  : Nat → Rec → Rec → Rec → Rec → Rec → Rec → Rec → Rec → Rec → Rec → Rec → Rec → Rec → Rec → Rec → Rec → Int64 → Int32 → Int64
  | 0, c, s, p, t, e, o, oh, h, k, q, s1, p1, s2, p2, t1, t2, v3, v5 => 0
  | n + 1, c, s, p, t, e, o, oh, h, k, q, s1, p1, s2, p2, t1, t2, v3, v5 => if (p.1 5) ≤ v5 then v3 else (f_X8_mixBoard_71 n c s p t e o oh h k q s1 p1 s2 p2 t1 t2 (f_X8_mix (f_X8_mix (f_X8_mix (f_X8_mix v3 ((p.2 1) (Int32.toNatClampNeg v5))) ((p.2 2) (Int32.toNatClampNeg v5))) ((p.2 3) (Int32.toNatClampNeg v5))) ((p.2 4) (Int32.toNatClampNeg v5))) (v5 + (Int32.ofInt 1)))
def p_X8_mixBoard_71  : Nat → Rec → Rec → Rec → Rec → Rec → Rec → Rec → Rec → Rec → Rec → Rec → Rec → Rec → Rec → Rec → Rec → Int64 → Int32 → Prop
  | 0, _, _, _, _, _, _, _, _, _, _, _, _, _, _, _, _, _, _ => False
  | n + 1, c, s, p, t, e, o, oh, h, k, q, s1, p1, s2, p2, t1, t2, v3, v5 => ((p.1 5) ≤ v5 → True) ∧ (¬ ((p.1 5) ≤ v5) → (vp_in v5 8 ∧ (vp_in v5 8 ∧ (vp_in v5 8 ∧ (vp_in v5 8 ∧ (p_X8_mixBoard_71 n c s p t e o oh h k q s1 p1 s2 p2 t1 t2 (f_X8_mix (f_X8_mix (f_X8_mix (f_X8_mix v3 ((p.2 1) (Int32.toNatClampNeg v5))) ((p.2 2) (Int32.toNatClampNeg v5))) ((p.2 3) (Int32.toNatClampNeg v5))) ((p.2 4) (Int32.toNatClampNeg v5))) (v5 + (Int32.ofInt 1))))))))
set_option maxHeartbeats 16000000 in
set_option maxRecDepth 20000 in
theorem l_X8_mixBoard_71 (sc : SC) (c : Rec) (s : Rec) (p : Rec) (t : Rec) (e : Rec) (o : Rec) (oh : Rec) (h : Rec) (k : Rec) (q : Rec) (s1 : Rec) (p1 : Rec) (s2 : Rec) (p2 : Rec) (t1 : Rec) (t2 : Rec)  (zq : Int64)  : ∀ (n : Nat)  (v3 : Int64) (v5 : Int32), p_X8_mixBoard_71 n c s p t e o oh h k q s1 p1 s2 p2 t1 t2 v3 v5 → zq = f_X8_mixBoard_71 n c s p t e o oh h k q s1 p1 s2 p2 t1 t2 v3 v5 → Good sc 2 0 0 112 mX8_mixBoard (Ret (some (.long (zq))) (wB c s p t e o oh h k q s1 p1 s2 p2 t1 t2)) 0 0 71 [some (.ref 0), none, none, some (.long v3), none, some (.int v5)] [] (wB c s p t e o oh h k q s1 p1 s2 p2 t1 t2) := by
  intro n
  induction n with
  | zero => intro v3 v5 hp; exact hp.elim
  | succ n ih =>
    intro v3 v5 hp hq
    unfold p_X8_mixBoard_71 at hp
    unfold f_X8_mixBoard_71 at hq
    refine g_blk hz0 kX8_mixBoard_71 ?_
    refine ⟨fun c3 => ?_, fun c3 => ?_⟩
    · rw [if_pos (show (p.1 5) ≤ v5 from c3)] at hq
      refine g_blk hz0 kX8_mixBoard_149 ?_
      subst hq
      exact ⟨rfl, rfl⟩
    · rw [if_neg (show ¬ ((p.1 5) ≤ v5) from c3)] at hq
      replace hp := hp.2 c3
      refine g_blk hz0 kX8_mixBoard_83 ?_
      refine ⟨hp.1, ?_⟩
      replace hp := hp.2
      refine cS0 (s_X8_mix v3 ((p.2 1) (Int32.toNatClampNeg v5))) rfl cwX8_mix dX8_mixBoard_94 rfl ?_
      refine g_blk hz0 kX8_mixBoard_97 ?_
      refine ⟨hp.1, ?_⟩
      replace hp := hp.2
      refine cS0 (s_X8_mix (f_X8_mix v3 ((p.2 1) (Int32.toNatClampNeg v5))) ((p.2 2) (Int32.toNatClampNeg v5))) rfl cwX8_mix dX8_mixBoard_109 rfl ?_
      refine g_blk hz0 kX8_mixBoard_112 ?_
      refine ⟨hp.1, ?_⟩
      replace hp := hp.2
      refine cS0 (s_X8_mix (f_X8_mix (f_X8_mix v3 ((p.2 1) (Int32.toNatClampNeg v5))) ((p.2 2) (Int32.toNatClampNeg v5))) ((p.2 3) (Int32.toNatClampNeg v5))) rfl cwX8_mix dX8_mixBoard_124 rfl ?_
      refine g_blk hz0 kX8_mixBoard_127 ?_
      refine ⟨hp.1, ?_⟩
      replace hp := hp.2
      refine cS0 (s_X8_mix (f_X8_mix (f_X8_mix (f_X8_mix v3 ((p.2 1) (Int32.toNatClampNeg v5))) ((p.2 2) (Int32.toNatClampNeg v5))) ((p.2 3) (Int32.toNatClampNeg v5))) ((p.2 4) (Int32.toNatClampNeg v5))) rfl cwX8_mix dX8_mixBoard_139 rfl ?_
      refine g_blk hz0 kX8_mixBoard_142 ?_
      refine g_le (L2 := [some (.ref 0), none, none, some (.long (f_X8_mix (f_X8_mix (f_X8_mix (f_X8_mix v3 ((p.2 1) (Int32.toNatClampNeg v5))) ((p.2 2) (Int32.toNatClampNeg v5))) ((p.2 3) (Int32.toNatClampNeg v5))) ((p.2 4) (Int32.toNatClampNeg v5)))), none, some (.int (v5 + (Int32.ofInt 1)))]) ⟨rfl, rfl, rfl, trivial⟩ ?_
      exact ih (f_X8_mix (f_X8_mix (f_X8_mix (f_X8_mix v3 ((p.2 1) (Int32.toNatClampNeg v5))) ((p.2 2) (Int32.toNatClampNeg v5))) ((p.2 3) (Int32.toNatClampNeg v5))) ((p.2 4) (Int32.toNatClampNeg v5))) (v5 + (Int32.ofInt 1)) hp hq
def f_X8_mixBoard_33  : Nat → Rec → Rec → Rec → Rec → Rec → Rec → Rec → Rec → Rec → Rec → Rec → Rec → Rec → Rec → Rec → Rec → Int64 → Int32 → Int64
  | 0, c, s, p, t, e, o, oh, h, k, q, s1, p1, s2, p2, t1, t2, v3, v5 => 0
  | n + 1, c, s, p, t, e, o, oh, h, k, q, s1, p1, s2, p2, t1, t2, v3, v5 => if (Int32.ofInt 36) ≤ v5 then (f_X8_mixBoard_71 40 c s p t e o oh h k q s1 p1 s2 p2 t1 t2 v3 ((Int32.ofInt 0))) else (if (f_X4_has s v5) = 0 then (f_X8_mixBoard_33 n c s p t e o oh h k q s1 p1 s2 p2 t1 t2 v3 (v5 + (Int32.ofInt 1))) else (f_X8_mixBoard_33 n c s p t e o oh h k q s1 p1 s2 p2 t1 t2 (f_X8_mix v3 v5) (v5 + (Int32.ofInt 1))))
def p_X8_mixBoard_33  : Nat → Rec → Rec → Rec → Rec → Rec → Rec → Rec → Rec → Rec → Rec → Rec → Rec → Rec → Rec → Rec → Rec → Int64 → Int32 → Prop
  | 0, _, _, _, _, _, _, _, _, _, _, _, _, _, _, _, _, _, _ => False
  | n + 1, c, s, p, t, e, o, oh, h, k, q, s1, p1, s2, p2, t1, t2, v3, v5 => ((Int32.ofInt 36) ≤ v5 → (p_X8_mixBoard_71 40 c s p t e o oh h k q s1 p1 s2 p2 t1 t2 v3 ((Int32.ofInt 0)))) ∧ (¬ ((Int32.ofInt 36) ≤ v5) → ((p_X4_has s v5) ∧ (((f_X4_has s v5) = 0 → (p_X8_mixBoard_33 n c s p t e o oh h k q s1 p1 s2 p2 t1 t2 v3 (v5 + (Int32.ofInt 1)))) ∧ (¬ ((f_X4_has s v5) = 0) → (p_X8_mixBoard_33 n c s p t e o oh h k q s1 p1 s2 p2 t1 t2 (f_X8_mix v3 v5) (v5 + (Int32.ofInt 1)))))))
set_option maxHeartbeats 16000000 in
set_option maxRecDepth 20000 in
theorem l_X8_mixBoard_33 (sc : SC) (c : Rec) (s : Rec) (p : Rec) (t : Rec) (e : Rec) (o : Rec) (oh : Rec) (h : Rec) (k : Rec) (q : Rec) (s1 : Rec) (p1 : Rec) (s2 : Rec) (p2 : Rec) (t1 : Rec) (t2 : Rec)  (zq : Int64)  : ∀ (n : Nat)  (v3 : Int64) (v5 : Int32), p_X8_mixBoard_33 n c s p t e o oh h k q s1 p1 s2 p2 t1 t2 v3 v5 → zq = f_X8_mixBoard_33 n c s p t e o oh h k q s1 p1 s2 p2 t1 t2 v3 v5 → Good sc 2 0 0 112 mX8_mixBoard (Ret (some (.long (zq))) (wB c s p t e o oh h k q s1 p1 s2 p2 t1 t2)) 0 0 33 [some (.ref 0), none, none, some (.long v3), none, some (.int v5)] [] (wB c s p t e o oh h k q s1 p1 s2 p2 t1 t2) := by
  intro n
  induction n with
  | zero => intro v3 v5 hp; exact hp.elim
  | succ n ih =>
    intro v3 v5 hp hq
    unfold p_X8_mixBoard_33 at hp
    unfold f_X8_mixBoard_33 at hq
    refine g_blk hz0 kX8_mixBoard_33 ?_
    refine ⟨fun c1 => ?_, fun c1 => ?_⟩
    · rw [if_pos (show (Int32.ofInt 36) ≤ v5 from c1)] at hq
      replace hp := hp.1 c1
      refine g_blk hz0 kX8_mixBoard_68 ?_
      refine g_le (L2 := [some (.ref 0), none, none, some (.long v3), none, some (.int (Int32.ofInt 0))]) ⟨rfl, rfl, rfl, trivial⟩ ?_
      exact l_X8_mixBoard_71 sc c s p t e o oh h k q s1 p1 s2 p2 t1 t2 zq 40 v3 ((Int32.ofInt 0)) hp hq
    · rw [if_neg (show ¬ ((Int32.ofInt 36) ≤ v5) from c1)] at hq
      replace hp := hp.2 c1
      refine g_blk hz0 kX8_mixBoard_40 ?_
      refine cVp [2, 3, 4, 5, 6, 7, 8] (wS s) (s_X4_has s v5 hp.1) rfl cwX4_has dX8_mixBoard_49 rfl rfl (hm67_B_S _ _ _ _ _ _ _ _ _ _ _ _ _ _ _ _) ?_
      replace hp := hp.2
      refine g_blk hz0 kX8_mixBoard_52 ?_
      refine ⟨fun c2 => ?_, fun c2 => ?_⟩
      · rw [if_pos (show (f_X4_has s v5) = 0 from c2)] at hq
        replace hp := hp.1 c2
        refine g_blk hz0 kX8_mixBoard_62 ?_
        refine g_le (L2 := [some (.ref 0), none, none, some (.long v3), none, some (.int (v5 + (Int32.ofInt 1)))]) ⟨rfl, rfl, rfl, trivial⟩ ?_
        exact ih v3 (v5 + (Int32.ofInt 1)) hp hq
      · rw [if_neg (show ¬ ((f_X4_has s v5) = 0) from c2)] at hq
        replace hp := hp.2 c2
        refine g_blk hz0 kX8_mixBoard_55 ?_
        refine cS0 (s_X8_mix v3 v5) rfl cwX8_mix dX8_mixBoard_58 rfl ?_
        refine g_blk hz0 kX8_mixBoard_61 ?_
        refine g_blk hz0 kX8_mixBoard_62 ?_
        refine g_le (L2 := [some (.ref 0), none, none, some (.long (f_X8_mix v3 v5)), none, some (.int (v5 + (Int32.ofInt 1)))]) ⟨rfl, rfl, rfl, trivial⟩ ?_
        exact ih (f_X8_mix v3 v5) (v5 + (Int32.ofInt 1)) hp hq
def f_X8_mixBoard (c : Rec) (s : Rec) (p : Rec) (t : Rec) (e : Rec) (o : Rec) (oh : Rec) (h : Rec) (k : Rec) (q : Rec) (s1 : Rec) (p1 : Rec) (s2 : Rec) (p2 : Rec) (t1 : Rec) (t2 : Rec) (v : Int64) : Int64 := (f_X8_mixBoard_33 40 c s p t e o oh h k q s1 p1 s2 p2 t1 t2 (f_X8_mix (f_X8_mix v (s.1 0)) (s.1 1)) ((Int32.ofInt 0)))
def p_X8_mixBoard (c : Rec) (s : Rec) (p : Rec) (t : Rec) (e : Rec) (o : Rec) (oh : Rec) (h : Rec) (k : Rec) (q : Rec) (s1 : Rec) (p1 : Rec) (s2 : Rec) (p2 : Rec) (t1 : Rec) (t2 : Rec) (v : Int64) : Prop := (p_X8_mixBoard_33 40 c s p t e o oh h k q s1 p1 s2 p2 t1 t2 (f_X8_mix (f_X8_mix v (s.1 0)) (s.1 1)) ((Int32.ofInt 0)))
set_option maxHeartbeats 16000000 in
set_option maxRecDepth 20000 in
theorem s_X8_mixBoard (c : Rec) (s : Rec) (p : Rec) (t : Rec) (e : Rec) (o : Rec) (oh : Rec) (h : Rec) (k : Rec) (q : Rec) (s1 : Rec) (p1 : Rec) (s2 : Rec) (p2 : Rec) (t1 : Rec) (t2 : Rec) (v : Int64) (hp : p_X8_mixBoard c s p t e o oh h k q s1 p1 s2 p2 t1 t2 v) : Spec 2 0 0 mX8_mixBoard [.ref 0, .long v] (wB c s p t e o oh h k q s1 p1 s2 p2 t1 t2) (Ret (some (.long ((f_X8_mixBoard c s p t e o oh h k q s1 p1 s2 p2 t1 t2 v)))) (wB c s p t e o oh h k q s1 p1 s2 p2 t1 t2)) := by
  obtain ⟨zq, hq⟩ : ∃ z, z = (f_X8_mixBoard c s p t e o oh h k q s1 p1 s2 p2 t1 t2 v) := ⟨_, rfl⟩
  rw [← hq]
  unfold f_X8_mixBoard at hq
  unfold p_X8_mixBoard at hp
  refine Sof fun sc => ?_
  refine g_blk hz0 kX8_mixBoard_0 ?_
  refine cS0 (s_X8_mix v (s.1 0)) rfl cwX8_mix dX8_mixBoard_11 rfl ?_
  refine g_blk hz0 kX8_mixBoard_14 ?_
  refine cS0 (s_X8_mix (f_X8_mix v (s.1 0)) (s.1 1)) rfl cwX8_mix dX8_mixBoard_26 rfl ?_
  refine g_blk hz0 kX8_mixBoard_29 ?_
  refine g_le (L2 := [some (.ref 0), none, none, some (.long (f_X8_mix (f_X8_mix v (s.1 0)) (s.1 1))), none, some (.int (Int32.ofInt 0))]) ⟨rfl, rfl, rfl, trivial⟩ ?_
  exact l_X8_mixBoard_33 sc c s p t e o oh h k q s1 p1 s2 p2 t1 t2 zq 40 (f_X8_mix (f_X8_mix v (s.1 0)) (s.1 1)) ((Int32.ofInt 0)) hp hq

set_option maxHeartbeats 16000000 in
theorem pw99_B_B (c : Rec) (s : Rec) (p : Rec) (t : Rec) (e : Rec) (o : Rec) (oh : Rec) (h : Rec) (k : Rec) (q : Rec) (s1 : Rec) (p1 : Rec) (s2 : Rec) (p2 : Rec) (t1 : Rec) (t2 : Rec)  : putW (wB c s p t e o oh h k q s1 p1 s2 p2 t1 t2) [0, 1, 2, 3, 4, 5, 6, 7, 8, 9, 10, 11, 12, 13, 14, 15, 16, 17, 18, 19, 20, 21, 22, 23, 24, 25, 26, 27, 28, 29, 30, 31, 32, 33, 34, 35, 36, 37, 38, 39, 40, 41, 42, 43, 44, 45, 46, 47, 48, 49, 50, 51, 52, 53, 54, 55, 56, 57, 58, 59, 60, 61, 62, 63, 64, 65, 66, 67, 68, 69, 70, 71, 72, 73, 74, 75, 76, 77, 78, 79, 80, 81, 82, 83, 84, 85, 86, 87, 88, 89, 90, 91, 92, 93, 94, 95, 96, 97, 98, 99, 100, 101, 102, 103, 104, 105, 106, 107, 108, 109, 110, 111] ((wB c s p t e o oh h k q s1 p1 s2 p2 t1 t2).map (ren [0, 1, 2, 3, 4, 5, 6, 7, 8, 9, 10, 11, 12, 13, 14, 15, 16, 17, 18, 19, 20, 21, 22, 23, 24, 25, 26, 27, 28, 29, 30, 31, 32, 33, 34, 35, 36, 37, 38, 39, 40, 41, 42, 43, 44, 45, 46, 47, 48, 49, 50, 51, 52, 53, 54, 55, 56, 57, 58, 59, 60, 61, 62, 63, 64, 65, 66, 67, 68, 69, 70, 71, 72, 73, 74, 75, 76, 77, 78, 79, 80, 81, 82, 83, 84, 85, 86, 87, 88, 89, 90, 91, 92, 93, 94, 95, 96, 97, 98, 99, 100, 101, 102, 103, 104, 105, 106, 107, 108, 109, 110, 111])) = (wB c s p t e o oh h k q s1 p1 s2 p2 t1 t2) := rfl
def f_X8_digest_152  : Nat → Rec → Rec → Rec → Rec → Rec → Rec → Rec → Rec → Rec → Rec → Rec → Rec → Rec → Rec → Rec → Rec → Int64 → Int32 → Int64
  | 0, c, s, p, t, e, o, oh, h, k, q, s1, p1, s2, p2, t1, t2, v1, v3 => 0
  | n + 1, c, s, p, t, e, o, oh, h, k, q, s1, p1, s2, p2, t1, t2, v1, v3 => if (e.1 2) ≤ v3 then v1 else (f_X8_digest_152 n c s p t e o oh h k q s1 p1 s2 p2 t1 t2 (f_X8_mix v1 ((e.2 0) (Int32.toNatClampNeg v3))) (v3 + (Int32.ofInt 1)))
def p_X8_digest_152  : Nat → Rec → Rec → Rec → Rec → Rec → Rec → Rec → Rec → Rec → Rec → Rec → Rec → Rec → Rec → Rec → Rec → Int64 → Int32 → Prop
  | 0, _, _, _, _, _, _, _, _, _, _, _, _, _, _, _, _, _, _ => False
  | n + 1, c, s, p, t, e, o, oh, h, k, q, s1, p1, s2, p2, t1, t2, v1, v3 => ((e.1 2) ≤ v3 → True) ∧ (¬ ((e.1 2) ≤ v3) → (vp_in v3 200 ∧ (p_X8_digest_152 n c s p t e o oh h k q s1 p1 s2 p2 t1 t2 (f_X8_mix v1 ((e.2 0) (Int32.toNatClampNeg v3))) (v3 + (Int32.ofInt 1)))))
set_option maxHeartbeats 16000000 in
set_option maxRecDepth 20000 in
theorem l_X8_digest_152 (sc : SC) (c : Rec) (s : Rec) (p : Rec) (t : Rec) (e : Rec) (o : Rec) (oh : Rec) (h : Rec) (k : Rec) (q : Rec) (s1 : Rec) (p1 : Rec) (s2 : Rec) (p2 : Rec) (t1 : Rec) (t2 : Rec)  (zq : Int64)  : ∀ (n : Nat)  (v1 : Int64) (v3 : Int32), p_X8_digest_152 n c s p t e o oh h k q s1 p1 s2 p2 t1 t2 v1 v3 → zq = f_X8_digest_152 n c s p t e o oh h k q s1 p1 s2 p2 t1 t2 v1 v3 → Good sc 3 0 0 112 mX8_digest (Ret (some (.long (zq))) (wB c s p t e o oh h k q s1 p1 s2 p2 t1 t2)) 0 0 152 [some (.ref 0), some (.long v1), none, some (.int v3)] [] (wB c s p t e o oh h k q s1 p1 s2 p2 t1 t2) := by
  intro n
  induction n with
  | zero => intro v1 v3 hp; exact hp.elim
  | succ n ih =>
    intro v1 v3 hp hq
    unfold p_X8_digest_152 at hp
    unfold f_X8_digest_152 at hq
    refine g_blk hz0 kX8_digest_152 ?_
    refine ⟨fun c2 => ?_, fun c2 => ?_⟩
    · rw [if_pos (show (e.1 2) ≤ v3 from c2)] at hq
      refine g_blk hz0 kX8_digest_183 ?_
      subst hq
      exact ⟨rfl, rfl⟩
    · rw [if_neg (show ¬ ((e.1 2) ≤ v3) from c2)] at hq
      replace hp := hp.2 c2
      refine g_blk hz0 kX8_digest_163 ?_
      refine ⟨hp.1, ?_⟩
      replace hp := hp.2
      refine cS0 (s_X8_mix v1 ((e.2 0) (Int32.toNatClampNeg v3))) rfl cwX8_mix dX8_digest_173 rfl ?_
      refine g_blk hz0 kX8_digest_176 ?_
      refine g_le (L2 := [some (.ref 0), some (.long (f_X8_mix v1 ((e.2 0) (Int32.toNatClampNeg v3)))), none, some (.int (v3 + (Int32.ofInt 1)))]) ⟨rfl, rfl, rfl, trivial⟩ ?_
      exact ih (f_X8_mix v1 ((e.2 0) (Int32.toNatClampNeg v3))) (v3 + (Int32.ofInt 1)) hp hq
def f_X8_digest_111  : Nat → Rec → Rec → Rec → Rec → Rec → Rec → Rec → Rec → Rec → Rec → Rec → Rec → Rec → Rec → Rec → Rec → Int64 → Int32 → Int64
  | 0, c, s, p, t, e, o, oh, h, k, q, s1, p1, s2, p2, t1, t2, v1, v3 => 0
  | n + 1, c, s, p, t, e, o, oh, h, k, q, s1, p1, s2, p2, t1, t2, v1, v3 => if ((Int32.ofInt 3) * (s.1 2)) ≤ v3 then (f_X8_digest_152 300 c s p t e o oh h k q s1 p1 s2 p2 t1 t2 v1 ((Int32.ofInt 0))) else (f_X8_digest_111 n c s p t e o oh h k q s1 p1 s2 p2 t1 t2 (f_X8_mix v1 ((s.2 13) (Int32.toNatClampNeg v3))) (v3 + (Int32.ofInt 1)))
def p_X8_digest_111  : Nat → Rec → Rec → Rec → Rec → Rec → Rec → Rec → Rec → Rec → Rec → Rec → Rec → Rec → Rec → Rec → Rec → Int64 → Int32 → Prop
  | 0, _, _, _, _, _, _, _, _, _, _, _, _, _, _, _, _, _, _ => False
  | n + 1, c, s, p, t, e, o, oh, h, k, q, s1, p1, s2, p2, t1, t2, v1, v3 => (((Int32.ofInt 3) * (s.1 2)) ≤ v3 → (p_X8_digest_152 300 c s p t e o oh h k q s1 p1 s2 p2 t1 t2 v1 ((Int32.ofInt 0)))) ∧ (¬ (((Int32.ofInt 3) * (s.1 2)) ≤ v3) → (vp_in v3 9 ∧ (p_X8_digest_111 n c s p t e o oh h k q s1 p1 s2 p2 t1 t2 (f_X8_mix v1 ((s.2 13) (Int32.toNatClampNeg v3))) (v3 + (Int32.ofInt 1)))))
set_option maxHeartbeats 16000000 in
set_option maxRecDepth 20000 in
theorem l_X8_digest_111 (sc : SC) (c : Rec) (s : Rec) (p : Rec) (t : Rec) (e : Rec) (o : Rec) (oh : Rec) (h : Rec) (k : Rec) (q : Rec) (s1 : Rec) (p1 : Rec) (s2 : Rec) (p2 : Rec) (t1 : Rec) (t2 : Rec)  (zq : Int64)  : ∀ (n : Nat)  (v1 : Int64) (v3 : Int32), p_X8_digest_111 n c s p t e o oh h k q s1 p1 s2 p2 t1 t2 v1 v3 → zq = f_X8_digest_111 n c s p t e o oh h k q s1 p1 s2 p2 t1 t2 v1 v3 → Good sc 3 0 0 112 mX8_digest (Ret (some (.long (zq))) (wB c s p t e o oh h k q s1 p1 s2 p2 t1 t2)) 0 0 111 [some (.ref 0), some (.long v1), none, some (.int v3)] [] (wB c s p t e o oh h k q s1 p1 s2 p2 t1 t2) := by
  intro n
  induction n with
  | zero => intro v1 v3 hp; exact hp.elim
  | succ n ih =>
    intro v1 v3 hp hq
    unfold p_X8_digest_111 at hp
    unfold f_X8_digest_111 at hq
    refine g_blk hz0 kX8_digest_111 ?_
    refine ⟨fun c1 => ?_, fun c1 => ?_⟩
    · rw [if_pos (show ((Int32.ofInt 3) * (s.1 2)) ≤ v3 from c1)] at hq
      replace hp := hp.1 c1
      refine g_blk hz0 kX8_digest_150 ?_
      refine g_le (L2 := [some (.ref 0), some (.long v1), none, some (.int (Int32.ofInt 0))]) ⟨rfl, rfl, rfl, trivial⟩ ?_
      exact l_X8_digest_152 sc c s p t e o oh h k q s1 p1 s2 p2 t1 t2 zq 300 v1 ((Int32.ofInt 0)) hp hq
    · rw [if_neg (show ¬ (((Int32.ofInt 3) * (s.1 2)) ≤ v3) from c1)] at hq
      replace hp := hp.2 c1
      refine g_blk hz0 kX8_digest_127 ?_
      refine ⟨hp.1, ?_⟩
      replace hp := hp.2
      refine cS0 (s_X8_mix v1 ((s.2 13) (Int32.toNatClampNeg v3))) rfl cwX8_mix dX8_digest_140 rfl ?_
      refine g_blk hz0 kX8_digest_143 ?_
      refine g_le (L2 := [some (.ref 0), some (.long (f_X8_mix v1 ((s.2 13) (Int32.toNatClampNeg v3)))), none, some (.int (v3 + (Int32.ofInt 1)))]) ⟨rfl, rfl, rfl, trivial⟩ ?_
      exact ih (f_X8_mix v1 ((s.2 13) (Int32.toNatClampNeg v3))) (v3 + (Int32.ofInt 1)) hp hq
def f_X8_digest (c : Rec) (s : Rec) (p : Rec) (t : Rec) (e : Rec) (o : Rec) (oh : Rec) (h : Rec) (k : Rec) (q : Rec) (s1 : Rec) (p1 : Rec) (s2 : Rec) (p2 : Rec) (t1 : Rec) (t2 : Rec)  : Int64 := (f_X8_digest_111 300 c s p t e o oh h k q s1 p1 s2 p2 t1 t2 (f_X8_mix (f_X8_mix (f_X8_mix (f_X8_mix (f_X8_mixBoard c s p t e o oh h k q s1 p1 s2 p2 t1 t2 (f_X8_mix (f_X8_mix (f_X8_mix (f_X8_mix 653 (f_X4_howMany s)) (p.1 5)) (e.1 2)) (t.1 2))) (p.1 8)) (p.1 9)) (p.1 6)) (p.1 7)) ((Int32.ofInt 0)))
def p_X8_digest (c : Rec) (s : Rec) (p : Rec) (t : Rec) (e : Rec) (o : Rec) (oh : Rec) (h : Rec) (k : Rec) (q : Rec) (s1 : Rec) (p1 : Rec) (s2 : Rec) (p2 : Rec) (t1 : Rec) (t2 : Rec)  : Prop := (p_X4_howMany s) ∧ ((p_X8_mixBoard c s p t e o oh h k q s1 p1 s2 p2 t1 t2 (f_X8_mix (f_X8_mix (f_X8_mix (f_X8_mix 653 (f_X4_howMany s)) (p.1 5)) (e.1 2)) (t.1 2))) ∧ (p_X8_digest_111 300 c s p t e o oh h k q s1 p1 s2 p2 t1 t2 (f_X8_mix (f_X8_mix (f_X8_mix (f_X8_mix (f_X8_mixBoard c s p t e o oh h k q s1 p1 s2 p2 t1 t2 (f_X8_mix (f_X8_mix (f_X8_mix (f_X8_mix 653 (f_X4_howMany s)) (p.1 5)) (e.1 2)) (t.1 2))) (p.1 8)) (p.1 9)) (p.1 6)) (p.1 7)) ((Int32.ofInt 0))))
set_option maxHeartbeats 16000000 in
set_option maxRecDepth 20000 in
theorem s_X8_digest (c : Rec) (s : Rec) (p : Rec) (t : Rec) (e : Rec) (o : Rec) (oh : Rec) (h : Rec) (k : Rec) (q : Rec) (s1 : Rec) (p1 : Rec) (s2 : Rec) (p2 : Rec) (t1 : Rec) (t2 : Rec)  (hp : p_X8_digest c s p t e o oh h k q s1 p1 s2 p2 t1 t2) : Spec 3 0 0 mX8_digest [.ref 0] (wB c s p t e o oh h k q s1 p1 s2 p2 t1 t2) (Ret (some (.long ((f_X8_digest c s p t e o oh h k q s1 p1 s2 p2 t1 t2)))) (wB c s p t e o oh h k q s1 p1 s2 p2 t1 t2)) := by
  obtain ⟨zq, hq⟩ : ∃ z, z = (f_X8_digest c s p t e o oh h k q s1 p1 s2 p2 t1 t2) := ⟨_, rfl⟩
  rw [← hq]
  unfold f_X8_digest at hq
  unfold p_X8_digest at hp
  refine Sof fun sc => ?_
  refine g_blk hz0 kX8_digest_0 ?_
  refine cVp [2, 3, 4, 5, 6, 7, 8] (wS s) (s_X4_howMany s hp.1) rfl cwX4_howMany dX8_digest_12 rfl rfl (hm67_B_S _ _ _ _ _ _ _ _ _ _ _ _ _ _ _ _) ?_
  replace hp := hp.2
  refine cS0 (s_X8_mix 653 (f_X4_howMany s)) rfl cwX8_mix dX8_digest_15 rfl ?_
  refine g_blk hz0 kX8_digest_18 ?_
  refine cS0 (s_X8_mix (f_X8_mix 653 (f_X4_howMany s)) (p.1 5)) rfl cwX8_mix dX8_digest_27 rfl ?_
  refine g_blk hz0 kX8_digest_30 ?_
  refine cS0 (s_X8_mix (f_X8_mix (f_X8_mix 653 (f_X4_howMany s)) (p.1 5)) (e.1 2)) rfl cwX8_mix dX8_digest_39 rfl ?_
  refine g_blk hz0 kX8_digest_42 ?_
  refine cS0 (s_X8_mix (f_X8_mix (f_X8_mix (f_X8_mix 653 (f_X4_howMany s)) (p.1 5)) (e.1 2)) (t.1 2)) rfl cwX8_mix dX8_digest_51 rfl ?_
  refine g_blk hz0 kX8_digest_54 ?_
  refine cVp [0, 1, 2, 3, 4, 5, 6, 7, 8, 9, 10, 11, 12, 13, 14, 15, 16, 17, 18, 19, 20, 21, 22, 23, 24, 25, 26, 27, 28, 29, 30, 31, 32, 33, 34, 35, 36, 37, 38, 39, 40, 41, 42, 43, 44, 45, 46, 47, 48, 49, 50, 51, 52, 53, 54, 55, 56, 57, 58, 59, 60, 61, 62, 63, 64, 65, 66, 67, 68, 69, 70, 71, 72, 73, 74, 75, 76, 77, 78, 79, 80, 81, 82, 83, 84, 85, 86, 87, 88, 89, 90, 91, 92, 93, 94, 95, 96, 97, 98, 99, 100, 101, 102, 103, 104, 105, 106, 107, 108, 109, 110, 111] (wB c s p t e o oh h k q s1 p1 s2 p2 t1 t2) (s_X8_mixBoard c s p t e o oh h k q s1 p1 s2 p2 t1 t2 (f_X8_mix (f_X8_mix (f_X8_mix (f_X8_mix 653 (f_X4_howMany s)) (p.1 5)) (e.1 2)) (t.1 2)) hp.1) rfl cwX8_mixBoard dX8_digest_57 rfl rfl (hm63_B_B _ _ _ _ _ _ _ _ _ _ _ _ _ _ _ _) ?_
  replace hp := hp.2
  refine g_blk hz0 kX8_digest_60 ?_
  refine cS0 (s_X8_mix (f_X8_mixBoard c s p t e o oh h k q s1 p1 s2 p2 t1 t2 (f_X8_mix (f_X8_mix (f_X8_mix (f_X8_mix 653 (f_X4_howMany s)) (p.1 5)) (e.1 2)) (t.1 2))) (p.1 8)) rfl cwX8_mix dX8_digest_69 rfl ?_
  refine g_blk hz0 kX8_digest_72 ?_
  refine cS0 (s_X8_mix (f_X8_mix (f_X8_mixBoard c s p t e o oh h k q s1 p1 s2 p2 t1 t2 (f_X8_mix (f_X8_mix (f_X8_mix (f_X8_mix 653 (f_X4_howMany s)) (p.1 5)) (e.1 2)) (t.1 2))) (p.1 8)) (p.1 9)) rfl cwX8_mix dX8_digest_81 rfl ?_
  refine g_blk hz0 kX8_digest_84 ?_
  refine cS0 (s_X8_mix (f_X8_mix (f_X8_mix (f_X8_mixBoard c s p t e o oh h k q s1 p1 s2 p2 t1 t2 (f_X8_mix (f_X8_mix (f_X8_mix (f_X8_mix 653 (f_X4_howMany s)) (p.1 5)) (e.1 2)) (t.1 2))) (p.1 8)) (p.1 9)) (p.1 6)) rfl cwX8_mix dX8_digest_93 rfl ?_
  refine g_blk hz0 kX8_digest_96 ?_
  refine cS0 (s_X8_mix (f_X8_mix (f_X8_mix (f_X8_mix (f_X8_mixBoard c s p t e o oh h k q s1 p1 s2 p2 t1 t2 (f_X8_mix (f_X8_mix (f_X8_mix (f_X8_mix 653 (f_X4_howMany s)) (p.1 5)) (e.1 2)) (t.1 2))) (p.1 8)) (p.1 9)) (p.1 6)) (p.1 7)) rfl cwX8_mix dX8_digest_105 rfl ?_
  refine g_blk hz0 kX8_digest_108 ?_
  refine g_le (L2 := [some (.ref 0), some (.long (f_X8_mix (f_X8_mix (f_X8_mix (f_X8_mix (f_X8_mixBoard c s p t e o oh h k q s1 p1 s2 p2 t1 t2 (f_X8_mix (f_X8_mix (f_X8_mix (f_X8_mix 653 (f_X4_howMany s)) (p.1 5)) (e.1 2)) (t.1 2))) (p.1 8)) (p.1 9)) (p.1 6)) (p.1 7))), none, some (.int (Int32.ofInt 0))]) ⟨rfl, rfl, rfl, trivial⟩ ?_
  exact l_X8_digest_111 sc c s p t e o oh h k q s1 p1 s2 p2 t1 t2 zq 300 (f_X8_mix (f_X8_mix (f_X8_mix (f_X8_mix (f_X8_mixBoard c s p t e o oh h k q s1 p1 s2 p2 t1 t2 (f_X8_mix (f_X8_mix (f_X8_mix (f_X8_mix 653 (f_X4_howMany s)) (p.1 5)) (e.1 2)) (t.1 2))) (p.1 8)) (p.1 9)) (p.1 6)) (p.1 7)) ((Int32.ofInt 0)) hp hq
