def f_X8_strength (c : Rec) (s : Rec) (p : Rec) (t : Rec) (e : Rec) (o : Rec) (oh : Rec) (h : Rec) (k : Rec) (q : Rec) (s1 : Rec) (p1 : Rec) (s2 : Rec) (p2 : Rec) (t1 : Rec) (t2 : Rec) (m : Int32) : Int32 × Rec := if (f_X3_isIn s p m) = 0 then (((f_X8_refuseBad c s p t e o oh h k q s1 p1 s2 p2 t1 t2 ((Int32.ofInt (-2)))).1), ((f_X8_refuseBad c s p t e o oh h k q s1 p1 s2 p2 t1 t2 ((Int32.ofInt (-2)))).2)) else ((f_X3_powerOf s p m), c)
def p_X8_strength (c : Rec) (s : Rec) (p : Rec) (t : Rec) (e : Rec) (o : Rec) (oh : Rec) (h : Rec) (k : Rec) (q : Rec) (s1 : Rec) (p1 : Rec) (s2 : Rec) (p2 : Rec) (t1 : Rec) (t2 : Rec) (m : Int32) : Prop := (p_X3_isIn s p m) ∧ (((f_X3_isIn s p m) = 0 → True) ∧ (¬ ((f_X3_isIn s p m) = 0) → ((p_X3_powerOf s p m) ∧ True)))
set_option maxHeartbeats 16000000 in
set_option maxRecDepth 20000 in
theorem s_X8_strength (c : Rec) (s : Rec) (p : Rec) (t : Rec) (e : Rec) (o : Rec) (oh : Rec) (h : Rec) (k : Rec) (q : Rec) (s1 : Rec) (p1 : Rec) (s2 : Rec) (p2 : Rec) (t1 : Rec) (t2 : Rec) (m : Int32) (hp : p_X8_strength c s p t e o oh h k q s1 p1 s2 p2 t1 t2 m) : Spec 2 0 0 mX8_strength [.ref 0, .int m] (wB c s p t e o oh h k q s1 p1 s2 p2 t1 t2) (Ret (some (.int ((f_X8_strength c s p t e o oh h k q s1 p1 s2 p2 t1 t2 m).1))) (wB ((f_X8_strength c s p t e o oh h k q s1 p1 s2 p2 t1 t2 m).2) s p t e o oh h k q s1 p1 s2 p2 t1 t2)) := by
  obtain ⟨zq, hq⟩ : ∃ z, z = (f_X8_strength c s p t e o oh h k q s1 p1 s2 p2 t1 t2 m) := ⟨_, rfl⟩
  rw [← hq]
  unfold f_X8_strength at hq
  unfold p_X8_strength at hp
  refine Sof fun sc => ?_
  refine g_blk hz0 kX8_strength_0 ?_
  refine cVp [1, 2, 3, 4, 5, 6, 7, 8, 9, 10, 11, 12] (wP s p) (s_X3_isIn s p m hp.1) rfl cwX3_isIn dX8_strength_5 rfl rfl (hm64_B_P _ _ _ _ _ _ _ _ _ _ _ _ _ _ _ _) ?_
  replace hp := hp.2
  refine g_blk hz0 kX8_strength_8 ?_
  refine ⟨fun c1 => ?_, fun c1 => ?_⟩
  · rw [if_neg (show ¬ ((f_X3_isIn s p m) = 0) from c1)] at hq
    replace hp := hp.2 c1
    refine g_blk hz0 kX8_strength_18 ?_
    refine cVp [1, 2, 3, 4, 5, 6, 7, 8, 9, 10, 11, 12] (wP s p) (s_X3_powerOf s p m hp.1) rfl cwX3_powerOf dX8_strength_23 rfl rfl (hm64_B_P _ _ _ _ _ _ _ _ _ _ _ _ _ _ _ _) ?_
    replace hp := hp.2
    refine g_blk hz0 kX8_strength_26 ?_
    subst hq
    exact ⟨fun h => (by cases h), rfl, rfl⟩
  · rw [if_pos (show (f_X3_isIn s p m) = 0 from c1)] at hq
    refine g_blk hz0 kX8_strength_11 ?_
    refine cV [0, 1, 2, 3, 4, 5, 6, 7, 8, 9, 10, 11, 12, 13, 14, 15, 16, 17, 18, 19, 20, 21, 22, 23, 24, 25, 26, 27, 28, 29, 30, 31, 32, 33, 34, 35, 36, 37, 38, 39, 40, 41, 42, 43, 44, 45, 46, 47, 48, 49, 50, 51, 52, 53, 54, 55, 56, 57, 58, 59, 60, 61, 62, 63, 64, 65, 66, 67, 68, 69, 70, 71, 72, 73, 74, 75, 76, 77, 78, 79, 80, 81, 82, 83, 84, 85, 86, 87, 88, 89, 90, 91, 92, 93, 94, 95, 96, 97, 98, 99, 100, 101, 102, 103, 104, 105, 106, 107, 108, 109, 110, 111] (wB c s p t e o oh h k q s1 p1 s2 p2 t1 t2) (s_X8_refuseBad c s p t e o oh h k q s1 p1 s2 p2 t1 t2 ((Int32.ofInt (-2)))) rfl cwX8_refuseBad dX8_strength_14 rfl rfl (hm63_B_B _ _ _ _ _ _ _ _ _ _ _ _ _ _ _ _) ((len_B _ _ _ _ _ _ _ _ _ _ _ _ _ _ _ _).trans (len_B _ _ _ _ _ _ _ _ _ _ _ _ _ _ _ _).symm) (wB ((f_X8_refuseBad c s p t e o oh h k q s1 p1 s2 p2 t1 t2 ((Int32.ofInt (-2)))).2) s p t e o oh h k q s1 p1 s2 p2 t1 t2) (pw85_B_B _ _ _ _ _ _ _ _ _ _ _ _ _ _ _ _ _) ?_
    obtain ⟨g2, hg2⟩ : ∃ z, z = (f_X8_refuseBad c s p t e o oh h k q s1 p1 s2 p2 t1 t2 ((Int32.ofInt (-2)))) := ⟨_, rfl⟩
    try rw [← hg2] at hp
    try rw [← hg2] at hq
    rw [← hg2]
    refine g_blk hz0 kX8_strength_17 ?_
    subst hq
    exact ⟨fun h => (by cases h), rfl, rfl⟩
