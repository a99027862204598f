set_option maxHeartbeats 16000000 in
theorem pw94_B_TP (c : Rec) (s : Rec) (p : Rec) (t : Rec) (e : Rec) (o : Rec) (oh : Rec) (h : Rec) (k : Rec) (q : Rec) (s1 : Rec) (p1 : Rec) (s2 : Rec) (p2 : Rec) (t1 : Rec) (t2 : Rec) (t9 : Rec) (s9 : Rec) (p9 : Rec) : putW (wB c s p t e o oh h k q s1 p1 s2 p2 t1 t2) [13, 14, 15, 16, 17, 18, 19, 20, 21, 22, 1, 2, 3, 4, 5, 6, 7, 8, 9, 10, 11, 12] ((wTP t9 s9 p9).map (ren [13, 14, 15, 16, 17, 18, 19, 20, 21, 22, 1, 2, 3, 4, 5, 6, 7, 8, 9, 10, 11, 12])) = (wB c s9 p9 t9 e o oh h k q s1 p1 s2 p2 t1 t2) := by
  unfold wB wTP
  simp only [List.map_cons, List.map_nil, renQ]
  rfl
def f_X8_undo (c : Rec) (s : Rec) (p : Rec) (t : Rec) (e : Rec) (o : Rec) (oh : Rec) (h : Rec) (k : Rec) (q : Rec) (s1 : Rec) (p1 : Rec) (s2 : Rec) (p2 : Rec) (t1 : Rec) (t2 : Rec)  : Int32 × Rec × Rec × Rec × Rec := if ((f_X2_goBack t s p).1) = 0 then (((f_X8_refuseNo c ((f_X2_goBack t s p).2.2.1) ((f_X2_goBack t s p).2.2.2) ((f_X2_goBack t s p).2.1) e o oh h k q s1 p1 s2 p2 t1 t2 ((Int32.ofInt (-3)))).1), ((f_X8_refuseNo c ((f_X2_goBack t s p).2.2.1) ((f_X2_goBack t s p).2.2.2) ((f_X2_goBack t s p).2.1) e o oh h k q s1 p1 s2 p2 t1 t2 ((Int32.ofInt (-3)))).2), ((f_X2_goBack t s p).2.2.1), ((f_X2_goBack t s p).2.2.2), ((f_X2_goBack t s p).2.1)) else ((Int32.ofInt 1), c, ((f_X2_goBack t s p).2.2.1), ((f_X2_goBack t s p).2.2.2), ((f_X2_goBack t s p).2.1))
def p_X8_undo (c : Rec) (s : Rec) (p : Rec) (t : Rec) (e : Rec) (o : Rec) (oh : Rec) (h : Rec) (k : Rec) (q : Rec) (s1 : Rec) (p1 : Rec) (s2 : Rec) (p2 : Rec) (t1 : Rec) (t2 : Rec)  : Prop := (p_X2_goBack t s p) ∧ True
set_option maxHeartbeats 16000000 in
set_option maxRecDepth 20000 in
theorem s_X8_undo (c : Rec) (s : Rec) (p : Rec) (t : Rec) (e : Rec) (o : Rec) (oh : Rec) (h : Rec) (k : Rec) (q : Rec) (s1 : Rec) (p1 : Rec) (s2 : Rec) (p2 : Rec) (t1 : Rec) (t2 : Rec)  (hp : p_X8_undo c s p t e o oh h k q s1 p1 s2 p2 t1 t2) : Spec 5 0 0 mX8_undo [.ref 0] (wB c s p t e o oh h k q s1 p1 s2 p2 t1 t2) (Ret (some (.int ((f_X8_undo c s p t e o oh h k q s1 p1 s2 p2 t1 t2).1))) (wB ((f_X8_undo c s p t e o oh h k q s1 p1 s2 p2 t1 t2).2.1) ((f_X8_undo c s p t e o oh h k q s1 p1 s2 p2 t1 t2).2.2.1) ((f_X8_undo c s p t e o oh h k q s1 p1 s2 p2 t1 t2).2.2.2.1) ((f_X8_undo c s p t e o oh h k q s1 p1 s2 p2 t1 t2).2.2.2.2) e o oh h k q s1 p1 s2 p2 t1 t2)) := by
  obtain ⟨zq, hq⟩ : ∃ z, z = (f_X8_undo c s p t e o oh h k q s1 p1 s2 p2 t1 t2) := ⟨_, rfl⟩
  rw [← hq]
  unfold f_X8_undo at hq
  unfold p_X8_undo at hp
  refine Sof fun sc => ?_
  refine g_blk hz0 kX8_undo_0 ?_
  refine cV [13, 14, 15, 16, 17, 18, 19, 20, 21, 22, 1, 2, 3, 4, 5, 6, 7, 8, 9, 10, 11, 12] (wTP t s p) (s_X2_goBack t s p hp.1) rfl cwX2_goBack dX8_undo_8 rfl rfl (hm68_B_TP _ _ _ _ _ _ _ _ _ _ _ _ _ _ _ _) ((len_TP _ _ _).trans (len_TP _ _ _).symm) (wB c ((f_X2_goBack t s p).2.2.1) ((f_X2_goBack t s p).2.2.2) ((f_X2_goBack t s p).2.1) e o oh h k q s1 p1 s2 p2 t1 t2) (pw94_B_TP _ _ _ _ _ _ _ _ _ _ _ _ _ _ _ _ _ _ _) ?_
  replace hp := hp.2
  obtain ⟨g1, hg1⟩ : ∃ z, z = (f_X2_goBack t s p) := ⟨_, rfl⟩
  try rw [← hg1] at hp
  try rw [← hg1] at hq
  rw [← hg1]
  refine g_blk hz0 kX8_undo_11 ?_
  refine ⟨fun c2 => ?_, fun c2 => ?_⟩
  · rw [if_pos (show (g1.1) = 0 from c2)] at hq
    refine g_blk hz0 kX8_undo_18 ?_
    refine cV [0, 1, 2, 3, 4, 5, 6, 7, 8, 9, 10, 11, 12, 13, 14, 15, 16, 17, 18, 19, 20, 21, 22, 23, 24, 25, 26, 27, 28, 29, 30, 31, 32, 33, 34, 35, 36, 37, 38, 39, 40, 41, 42, 43, 44, 45, 46, 47, 48, 49, 50, 51, 52, 53, 54, 55, 56, 57, 58, 59, 60, 61, 62, 63, 64, 65, 66, 67, 68, 69, 70, 71, 72, 73, 74, 75, 76, 77, 78, 79, 80, 81, 82, 83, 84, 85, 86, 87, 88, 89, 90, 91, 92, 93, 94, 95, 96, 97, 98, 99, 100, 101, 102, 103, 104, 105, 106, 107, 108, 109, 110, 111] (wB c (g1.2.2.1) (g1.2.2.2) (g1.2.1) e o oh h k q s1 p1 s2 p2 t1 t2) (s_X8_refuseNo c (g1.2.2.1) (g1.2.2.2) (g1.2.1) e o oh h k q s1 p1 s2 p2 t1 t2 ((Int32.ofInt (-3)))) rfl cwX8_refuseNo dX8_undo_21 rfl rfl (hm63_B_B _ _ _ _ _ _ _ _ _ _ _ _ _ _ _ _) ((len_B _ _ _ _ _ _ _ _ _ _ _ _ _ _ _ _).trans (len_B _ _ _ _ _ _ _ _ _ _ _ _ _ _ _ _).symm) (wB ((f_X8_refuseNo c (g1.2.2.1) (g1.2.2.2) (g1.2.1) e o oh h k q s1 p1 s2 p2 t1 t2 ((Int32.ofInt (-3)))).2) (g1.2.2.1) (g1.2.2.2) (g1.2.1) e o oh h k q s1 p1 s2 p2 t1 t2) (pw85_B_B _ _ _ _ _ _ _ _ _ _ _ _ _ _ _ _ _) ?_
    obtain ⟨g3, hg3⟩ : ∃ z, z = (f_X8_refuseNo c (g1.2.2.1) (g1.2.2.2) (g1.2.1) e o oh h k q s1 p1 s2 p2 t1 t2 ((Int32.ofInt (-3)))) := ⟨_, rfl⟩
    try rw [← hg3] at hp
    try rw [← hg3] at hq
    rw [← hg3]
    refine g_blk hz0 kX8_undo_24 ?_
    subst hq
    exact ⟨fun h => (by cases h), rfl, rfl⟩
  · rw [if_neg (show ¬ ((g1.1) = 0) from c2)] at hq
    refine g_blk hz0 kX8_undo_14 ?_
    refine g_blk hz0 kX8_undo_24 ?_
    subst hq
    exact ⟨fun h => (by cases h), rfl, rfl⟩
