set_option maxHeartbeats 16000000 in
theorem hm63_B_B (c : Rec) (s : Rec) (p : Rec) (t : Rec) (e : Rec) (o : Rec) (oh : Rec) (h : Rec) (k : Rec) (q : Rec) (s1 : Rec) (p1 : Rec) (s2 : Rec) (p2 : Rec) (t1 : Rec) (t2 : Rec) : [0, 1, 2, 3, 4, 5, 6, 7, 8, 9, 10, 11, 12, 13, 14, 15, 16, 17, 18, 19, 20, 21, 22, 23, 24, 25, 26, 27, 28, 29, 30, 31, 32, 33, 34, 35, 36, 37, 38, 39, 40, 41, 42, 43, 44, 45, 46, 47, 48, 49, 50, 51, 52, 53, 54, 55, 56, 57, 58, 59, 60, 61, 62, 63, 64, 65, 66, 67, 68, 69, 70, 71, 72, 73, 74, 75, 76, 77, 78, 79, 80, 81, 82, 83, 84, 85, 86, 87, 88, 89, 90, 91, 92, 93, 94, 95, 96, 97, 98, 99, 100, 101, 102, 103, 104, 105, 106, 107, 108, 109, 110, 111].map (lk (wB c s p t e o oh h k q s1 p1 s2 p2 t1 t2)) = (wB c s p t e o oh h k q s1 p1 s2 p2 t1 t2).map (fun e => some (ren [0, 1, 2, 3, 4, 5, 6, 7, 8, 9, 10, 11, 12, 13, 14, 15, 16, 17, 18, 19, 20, 21, 22, 23, 24, 25, 26, 27, 28, 29, 30, 31, 32, 33, 34, 35, 36, 37, 38, 39, 40, 41, 42, 43, 44, 45, 46, 47, 48, 49, 50, 51, 52, 53, 54, 55, 56, 57, 58, 59, 60, 61, 62, 63, 64, 65, 66, 67, 68, 69, 70, 71, 72, 73, 74, 75, 76, 77, 78, 79, 80, 81, 82, 83, 84, 85, 86, 87, 88, 89, 90, 91, 92, 93, 94, 95, 96, 97, 98, 99, 100, 101, 102, 103, 104, 105, 106, 107, 108, 109, 110, 111] e)) := by
  exact hmI_B _ _ _ _ _ _ _ _ _ _ _ _ _ _ _ _
set_option maxHeartbeats 16000000 in
theorem pw85_B_B (c : Rec) (s : Rec) (p : Rec) (t : Rec) (e : Rec) (o : Rec) (oh : Rec) (h : Rec) (k : Rec) (q : Rec) (s1 : Rec) (p1 : Rec) (s2 : Rec) (p2 : Rec) (t1 : Rec) (t2 : Rec) (c9 : Rec) : putW (wB c s p t e o oh h k q s1 p1 s2 p2 t1 t2) [0, 1, 2, 3, 4, 5, 6, 7, 8, 9, 10, 11, 12, 13, 14, 15, 16, 17, 18, 19, 20, 21, 22, 23, 24, 25, 26, 27, 28, 29, 30, 31, 32, 33, 34, 35, 36, 37, 38, 39, 40, 41, 42, 43, 44, 45, 46, 47, 48, 49, 50, 51, 52, 53, 54, 55, 56, 57, 58, 59, 60, 61, 62, 63, 64, 65, 66, 67, 68, 69, 70, 71, 72, 73, 74, 75, 76, 77, 78, 79, 80, 81, 82, 83, 84, 85, 86, 87, 88, 89, 90, 91, 92, 93, 94, 95, 96, 97, 98, 99, 100, 101, 102, 103, 104, 105, 106, 107, 108, 109, 110, 111] ((wB c9 s p t e o oh h k q s1 p1 s2 p2 t1 t2).map (ren [0, 1, 2, 3, 4, 5, 6, 7, 8, 9, 10, 11, 12, 13, 14, 15, 16, 17, 18, 19, 20, 21, 22, 23, 24, 25, 26, 27, 28, 29, 30, 31, 32, 33, 34, 35, 36, 37, 38, 39, 40, 41, 42, 43, 44, 45, 46, 47, 48, 49, 50, 51, 52, 53, 54, 55, 56, 57, 58, 59, 60, 61, 62, 63, 64, 65, 66, 67, 68, 69, 70, 71, 72, 73, 74, 75, 76, 77, 78, 79, 80, 81, 82, 83, 84, 85, 86, 87, 88, 89, 90, 91, 92, 93, 94, 95, 96, 97, 98, 99, 100, 101, 102, 103, 104, 105, 106, 107, 108, 109, 110, 111])) = (wB c9 s p t e o oh h k q s1 p1 s2 p2 t1 t2) := by
  exact pwI_B _ _ _ _ _ _ _ _ _ _ _ _ _ _ _ _ _ _ _ _ _ _ _ _ _ _ _ _ _ _ _ _
set_option maxHeartbeats 16000000 in
theorem hm64_B_P (c : Rec) (s : Rec) (p : Rec) (t : Rec) (e : Rec) (o : Rec) (oh : Rec) (h : Rec) (k : Rec) (q : Rec) (s1 : Rec) (p1 : Rec) (s2 : Rec) (p2 : Rec) (t1 : Rec) (t2 : Rec) : [1, 2, 3, 4, 5, 6, 7, 8, 9, 10, 11, 12].map (lk (wB c s p t e o oh h k q s1 p1 s2 p2 t1 t2)) = (wP s p).map (fun e => some (ren [1, 2, 3, 4, 5, 6, 7, 8, 9, 10, 11, 12] e)) := rfl
set_option maxHeartbeats 16000000 in
theorem pw86_B_P (c : Rec) (s : Rec) (p : Rec) (t : Rec) (e : Rec) (o : Rec) (oh : Rec) (h : Rec) (k : Rec) (q : Rec) (s1 : Rec) (p1 : Rec) (s2 : Rec) (p2 : Rec) (t1 : Rec) (t2 : Rec) (s9 : Rec) (p9 : Rec) : putW (wB c s p t e o oh h k q s1 p1 s2 p2 t1 t2) [1, 2, 3, 4, 5, 6, 7, 8, 9, 10, 11, 12] ((wP s9 p9).map (ren [1, 2, 3, 4, 5, 6, 7, 8, 9, 10, 11, 12])) = (wB c s9 p9 t e o oh h k q s1 p1 s2 p2 t1 t2) := rfl
set_option maxHeartbeats 16000000 in
theorem hm65_B_T (c : Rec) (s : Rec) (p : Rec) (t : Rec) (e : Rec) (o : Rec) (oh : Rec) (h : Rec) (k : Rec) (q : Rec) (s1 : Rec) (p1 : Rec) (s2 : Rec) (p2 : Rec) (t1 : Rec) (t2 : Rec) : [13, 14, 15, 16, 17, 18, 19, 20, 21, 22].map (lk (wB c s p t e o oh h k q s1 p1 s2 p2 t1 t2)) = (wT t).map (fun e => some (ren [13, 14, 15, 16, 17, 18, 19, 20, 21, 22] e)) := by
  unfold wB wT
  simp only [List.map_cons, List.map_nil, renQ]
  rfl
set_option maxHeartbeats 16000000 in
theorem pw87_B_T (c : Rec) (s : Rec) (p : Rec) (t : Rec) (e : Rec) (o : Rec) (oh : Rec) (h : Rec) (k : Rec) (q : Rec) (s1 : Rec) (p1 : Rec) (s2 : Rec) (p2 : Rec) (t1 : Rec) (t2 : Rec) (t9 : Rec) : putW (wB c s p t e o oh h k q s1 p1 s2 p2 t1 t2) [13, 14, 15, 16, 17, 18, 19, 20, 21, 22] ((wT t9).map (ren [13, 14, 15, 16, 17, 18, 19, 20, 21, 22])) = (wB c s p t9 e o oh h k q s1 p1 s2 p2 t1 t2) := by
  unfold wB wT
  simp only [List.map_cons, List.map_nil, renQ]
  rfl
set_option maxHeartbeats 16000000 in
theorem hm66_B_Q (c : Rec) (s : Rec) (p : Rec) (t : Rec) (e : Rec) (o : Rec) (oh : Rec) (h : Rec) (k : Rec) (q : Rec) (s1 : Rec) (p1 : Rec) (s2 : Rec) (p2 : Rec) (t1 : Rec) (t2 : Rec) : [50, 51, 52, 53, 54, 55, 56, 57, 58, 59, 60, 61, 62, 63].map (lk (wB c s p t e o oh h k q s1 p1 s2 p2 t1 t2)) = (wQ q).map (fun e => some (ren [50, 51, 52, 53, 54, 55, 56, 57, 58, 59, 60, 61, 62, 63] e)) := by
  unfold wB wQ
  simp only [List.map_cons, List.map_nil, renQ]
  rfl
set_option maxHeartbeats 16000000 in
theorem pw88_B_Q (c : Rec) (s : Rec) (p : Rec) (t : Rec) (e : Rec) (o : Rec) (oh : Rec) (h : Rec) (k : Rec) (q : Rec) (s1 : Rec) (p1 : Rec) (s2 : Rec) (p2 : Rec) (t1 : Rec) (t2 : Rec) (q9 : Rec) : putW (wB c s p t e o oh h k q s1 p1 s2 p2 t1 t2) [50, 51, 52, 53, 54, 55, 56, 57, 58, 59, 60, 61, 62, 63] ((wQ q9).map (ren [50, 51, 52, 53, 54, 55, 56, 57, 58, 59, 60, 61, 62, 63])) = (wB c s p t e o oh h k q9 s1 p1 s2 p2 t1 t2) := by
  unfold wB wQ
  simp only [List.map_cons, List.map_nil, renQ]
  rfl
set_option maxHeartbeats 16000000 in
theorem hm67_B_S (c : Rec) (s : Rec) (p : Rec) (t : Rec) (e : Rec) (o : Rec) (oh : Rec) (h : Rec) (k : Rec) (q : Rec) (s1 : Rec) (p1 : Rec) (s2 : Rec) (p2 : Rec) (t1 : Rec) (t2 : Rec) : [2, 3, 4, 5, 6, 7, 8].map (lk (wB c s p t e o oh h k q s1 p1 s2 p2 t1 t2)) = (wS s).map (fun e => some (ren [2, 3, 4, 5, 6, 7, 8] e)) := rfl
set_option maxHeartbeats 16000000 in
theorem pw89_B_S (c : Rec) (s : Rec) (p : Rec) (t : Rec) (e : Rec) (o : Rec) (oh : Rec) (h : Rec) (k : Rec) (q : Rec) (s1 : Rec) (p1 : Rec) (s2 : Rec) (p2 : Rec) (t1 : Rec) (t2 : Rec)  : putW (wB c s p t e o oh h k q s1 p1 s2 p2 t1 t2) [2, 3, 4, 5, 6, 7, 8] ((wS s).map (ren [2, 3, 4, 5, 6, 7, 8])) = (wB c s p t e o oh h k q s1 p1 s2 p2 t1 t2) := rfl
def f_X8_board (c : Rec) (s : Rec) (p : Rec) (t : Rec) (e : Rec) (o : Rec) (oh : Rec) (h : Rec) (k : Rec) (q : Rec) (s1 : Rec) (p1 : Rec) (s2 : Rec) (p2 : Rec) (t1 : Rec) (t2 : Rec) (w : Int32) (h1 : Int32) : Int32 × Rec × Rec × Rec × Rec × Rec := if (f_X8_within w ((Int32.ofInt 2)) ((Int32.ofInt 6))) = 0 then (((f_X8_refuseBad c s p t e o oh h k q s1 p1 s2 p2 t1 t2 ((Int32.ofInt (-2)))).1), ((f_X8_refuseBad c s p t e o oh h k q s1 p1 s2 p2 t1 t2 ((Int32.ofInt (-2)))).2), s, p, t, q) else (if (f_X8_within h1 ((Int32.ofInt 2)) ((Int32.ofInt 6))) = 0 then (((f_X8_refuseBad c s p t e o oh h k q s1 p1 s2 p2 t1 t2 ((Int32.ofInt (-2)))).1), ((f_X8_refuseBad c s p t e o oh h k q s1 p1 s2 p2 t1 t2 ((Int32.ofInt (-2)))).2), s, p, t, q) else ((f_X4_howMany ((f_X3_begin s p w h1).1)), c, ((f_X3_begin s p w h1).1), ((f_X3_begin s p w h1).2), (f_X2_forget t), (f_X5_forget q)))
def p_X8_board (c : Rec) (s : Rec) (p : Rec) (t : Rec) (e : Rec) (o : Rec) (oh : Rec) (h : Rec) (k : Rec) (q : Rec) (s1 : Rec) (p1 : Rec) (s2 : Rec) (p2 : Rec) (t1 : Rec) (t2 : Rec) (w : Int32) (h1 : Int32) : Prop := ((f_X8_within w ((Int32.ofInt 2)) ((Int32.ofInt 6))) = 0 → True) ∧ (¬ ((f_X8_within w ((Int32.ofInt 2)) ((Int32.ofInt 6))) = 0) → (((f_X8_within h1 ((Int32.ofInt 2)) ((Int32.ofInt 6))) = 0 → True) ∧ (¬ ((f_X8_within h1 ((Int32.ofInt 2)) ((Int32.ofInt 6))) = 0) → ((p_X3_begin s p w h1) ∧ ((p_X4_howMany ((f_X3_begin s p w h1).1)) ∧ True)))))
set_option maxHeartbeats 16000000 in
set_option maxRecDepth 20000 in
theorem s_X8_board (c : Rec) (s : Rec) (p : Rec) (t : Rec) (e : Rec) (o : Rec) (oh : Rec) (h : Rec) (k : Rec) (q : Rec) (s1 : Rec) (p1 : Rec) (s2 : Rec) (p2 : Rec) (t1 : Rec) (t2 : Rec) (w : Int32) (h1 : Int32) (hp : p_X8_board c s p t e o oh h k q s1 p1 s2 p2 t1 t2 w h1) : Spec 4 0 0 mX8_board [.ref 0, .int w, .int h1] (wB c s p t e o oh h k q s1 p1 s2 p2 t1 t2) (Ret (some (.int ((f_X8_board c s p t e o oh h k q s1 p1 s2 p2 t1 t2 w h1).1))) (wB ((f_X8_board c s p t e o oh h k q s1 p1 s2 p2 t1 t2 w h1).2.1) ((f_X8_board c s p t e o oh h k q s1 p1 s2 p2 t1 t2 w h1).2.2.1) ((f_X8_board c s p t e o oh h k q s1 p1 s2 p2 t1 t2 w h1).2.2.2.1) ((f_X8_board c s p t e o oh h k q s1 p1 s2 p2 t1 t2 w h1).2.2.2.2.1) e o oh h k ((f_X8_board c s p t e o oh h k q s1 p1 s2 p2 t1 t2 w h1).2.2.2.2.2) s1 p1 s2 p2 t1 t2)) := by
  obtain ⟨zq, hq⟩ : ∃ z, z = (f_X8_board c s p t e o oh h k q s1 p1 s2 p2 t1 t2 w h1) := ⟨_, rfl⟩
  rw [← hq]
  unfold f_X8_board at hq
  unfold p_X8_board at hp
  refine Sof fun sc => ?_
  refine g_blk hz0 kX8_board_0 ?_
  refine cS0 (s_X8_within w ((Int32.ofInt 2)) ((Int32.ofInt 6))) rfl cwX8_within dX8_board_4 rfl ?_
  refine g_blk hz0 kX8_board_7 ?_
  refine ⟨fun c1 => ?_, fun c1 => ?_⟩
  · rw [if_pos (show (f_X8_within w ((Int32.ofInt 2)) ((Int32.ofInt 6))) = 0 from c1)] at hq
    refine g_blk hz0 kX8_board_20 ?_
    refine cV [0, 1, 2, 3, 4, 5, 6, 7, 8, 9, 10, 11, 12, 13, 14, 15, 16, 17, 18, 19, 20, 21, 22, 23, 24, 25, 26, 27, 28, 29, 30, 31, 32, 33, 34, 35, 36, 37, 38, 39, 40, 41, 42, 43, 44, 45, 46, 47, 48, 49, 50, 51, 52, 53, 54, 55, 56, 57, 58, 59, 60, 61, 62, 63, 64, 65, 66, 67, 68, 69, 70, 71, 72, 73, 74, 75, 76, 77, 78, 79, 80, 81, 82, 83, 84, 85, 86, 87, 88, 89, 90, 91, 92, 93, 94, 95, 96, 97, 98, 99, 100, 101, 102, 103, 104, 105, 106, 107, 108, 109, 110, 111] (wB c s p t e o oh h k q s1 p1 s2 p2 t1 t2) (s_X8_refuseBad c s p t e o oh h k q s1 p1 s2 p2 t1 t2 ((Int32.ofInt (-2)))) rfl cwX8_refuseBad dX8_board_23 rfl rfl (hm63_B_B _ _ _ _ _ _ _ _ _ _ _ _ _ _ _ _) ((len_B _ _ _ _ _ _ _ _ _ _ _ _ _ _ _ _).trans (len_B _ _ _ _ _ _ _ _ _ _ _ _ _ _ _ _).symm) (wB ((f_X8_refuseBad c s p t e o oh h k q s1 p1 s2 p2 t1 t2 ((Int32.ofInt (-2)))).2) s p t e o oh h k q s1 p1 s2 p2 t1 t2) (pw85_B_B _ _ _ _ _ _ _ _ _ _ _ _ _ _ _ _ _) ?_
    obtain ⟨g2, hg2⟩ : ∃ z, z = (f_X8_refuseBad c s p t e o oh h k q s1 p1 s2 p2 t1 t2 ((Int32.ofInt (-2)))) := ⟨_, rfl⟩
    try rw [← hg2] at hp
    try rw [← hg2] at hq
    rw [← hg2]
    refine g_blk hz0 kX8_board_26 ?_
    subst hq
    exact ⟨fun h => (by cases h), rfl, rfl⟩
  · rw [if_neg (show ¬ ((f_X8_within w ((Int32.ofInt 2)) ((Int32.ofInt 6))) = 0) from c1)] at hq
    replace hp := hp.2 c1
    refine g_blk hz0 kX8_board_10 ?_
    refine cS0 (s_X8_within h1 ((Int32.ofInt 2)) ((Int32.ofInt 6))) rfl cwX8_within dX8_board_14 rfl ?_
    refine g_blk hz0 kX8_board_17 ?_
    refine ⟨fun c3 => ?_, fun c3 => ?_⟩
    · rw [if_neg (show ¬ ((f_X8_within h1 ((Int32.ofInt 2)) ((Int32.ofInt 6))) = 0) from c3)] at hq
      replace hp := hp.2 c3
      refine g_blk hz0 kX8_board_27 ?_
      refine cV [1, 2, 3, 4, 5, 6, 7, 8, 9, 10, 11, 12] (wP s p) (s_X3_begin s p w h1 hp.1) rfl cwX3_begin dX8_board_33 rfl rfl (hm64_B_P _ _ _ _ _ _ _ _ _ _ _ _ _ _ _ _) ((len_P _ _).trans (len_P _ _).symm) (wB c ((f_X3_begin s p w h1).1) ((f_X3_begin s p w h1).2) t e o oh h k q s1 p1 s2 p2 t1 t2) (pw86_B_P _ _ _ _ _ _ _ _ _ _ _ _ _ _ _ _ _ _) ?_
      replace hp := hp.2
      obtain ⟨g5, hg5⟩ : ∃ z, z = (f_X3_begin s p w h1) := ⟨_, rfl⟩
      try rw [← hg5] at hp
      try rw [← hg5] at hq
      rw [← hg5]
      refine g_blk hz0 kX8_board_36 ?_
      refine cV [13, 14, 15, 16, 17, 18, 19, 20, 21, 22] (wT t) (s_X2_forget t) rfl cwX2_forget dX8_board_40 rfl rfl (hm65_B_T _ _ _ _ _ _ _ _ _ _ _ _ _ _ _ _) ((len_T _).trans (len_T _).symm) (wB c (g5.1) (g5.2) (f_X2_forget t) e o oh h k q s1 p1 s2 p2 t1 t2) (pw87_B_T _ _ _ _ _ _ _ _ _ _ _ _ _ _ _ _ _) ?_
      obtain ⟨g6, hg6⟩ : ∃ z, z = (f_X2_forget t) := ⟨_, rfl⟩
      try rw [← hg6] at hp
      try rw [← hg6] at hq
      rw [← hg6]
      refine g_blk hz0 kX8_board_43 ?_
      refine cV [50, 51, 52, 53, 54, 55, 56, 57, 58, 59, 60, 61, 62, 63] (wQ q) (s_X5_forget q) rfl cwX5_forget dX8_board_47 rfl rfl (hm66_B_Q _ _ _ _ _ _ _ _ _ _ _ _ _ _ _ _) ((len_Q _).trans (len_Q _).symm) (wB c (g5.1) (g5.2) g6 e o oh h k (f_X5_forget q) s1 p1 s2 p2 t1 t2) (pw88_B_Q _ _ _ _ _ _ _ _ _ _ _ _ _ _ _ _ _) ?_
      obtain ⟨g7, hg7⟩ : ∃ z, z = (f_X5_forget q) := ⟨_, rfl⟩
      try rw [← hg7] at hp
      try rw [← hg7] at hq
      rw [← hg7]
      refine g_blk hz0 kX8_board_50 ?_
      refine cVp [2, 3, 4, 5, 6, 7, 8] (wS (g5.1)) (s_X4_howMany (g5.1) hp.1) rfl cwX4_howMany dX8_board_57 rfl rfl (hm67_B_S _ _ _ _ _ _ _ _ _ _ _ _ _ _ _ _) ?_
      replace hp := hp.2
      refine g_blk hz0 kX8_board_60 ?_
      subst hq
      exact ⟨fun h => (by cases h), rfl, rfl⟩
    · rw [if_pos (show (f_X8_within h1 ((Int32.ofInt 2)) ((Int32.ofInt 6))) = 0 from c3)] at hq
      refine g_blk hz0 kX8_board_20 ?_
      refine cV [0, 1, 2, 3, 4, 5, 6, 7, 8, 9, 10, 11, 12, 13, 14, 15, 16, 17, 18, 19, 20, 21, 22, 23, 24, 25, 26, 27, 28, 29, 30, 31, 32, 33, 34, 35, 36, 37, 38, 39, 40, 41, 42, 43, 44, 45, 46, 47, 48, 49, 50, 51, 52, 53, 54, 55, 56, 57, 58, 59, 60, 61, 62, 63, 64, 65, 66, 67, 68, 69, 70, 71, 72, 73, 74, 75, 76, 77, 78, 79, 80, 81, 82, 83, 84, 85, 86, 87, 88, 89, 90, 91, 92, 93, 94, 95, 96, 97, 98, 99, 100, 101, 102, 103, 104, 105, 106, 107, 108, 109, 110, 111] (wB c s p t e o oh h k q s1 p1 s2 p2 t1 t2) (s_X8_refuseBad c s p t e o oh h k q s1 p1 s2 p2 t1 t2 ((Int32.ofInt (-2)))) rfl cwX8_refuseBad dX8_board_23 rfl rfl (hm63_B_B _ _ _ _ _ _ _ _ _ _ _ _ _ _ _ _) ((len_B _ _ _ _ _ _ _ _ _ _ _ _ _ _ _ _).trans (len_B _ _ _ _ _ _ _ _ _ _ _ _ _ _ _ _).symm) (wB ((f_X8_refuseBad c s p t e o oh h k q s1 p1 s2 p2 t1 t2 ((Int32.ofInt (-2)))).2) s p t e o oh h k q s1 p1 s2 p2 t1 t2) (pw85_B_B _ _ _ _ _ _ _ _ _ _ _ _ _ _ _ _ _) ?_
      obtain ⟨g4, hg4⟩ : ∃ z, z = (f_X8_refuseBad c s p t e o oh h k q s1 p1 s2 p2 t1 t2 ((Int32.ofInt (-2)))) := ⟨_, rfl⟩
      try rw [← hg4] at hp
      try rw [← hg4] at hq
      rw [← hg4]
      refine g_blk hz0 kX8_board_26 ?_
      subst hq
      exact ⟨fun h => (by cases h), rfl, rfl⟩
