def f_X8_where (c : Rec) (s : Rec) (p : Rec) (t : Rec) (e : Rec) (o : Rec) (oh : Rec) (h : Rec) (k : Rec) (q : Rec) (s1 : Rec) (p1 : Rec) (s2 : Rec) (p2 : Rec) (t1 : Rec) (t2 : Rec) (m : Int32) : Int32 × Rec := if (f_X8_within m ((Int32.ofInt 0)) ((p.1 5) - (Int32.ofInt 1))) = 0 then (((f_X8_refuseBad c s p t e o oh h k q s1 p1 s2 p2 t1 t2 ((Int32.ofInt (-2)))).1), ((f_X8_refuseBad c s p t e o oh h k q s1 p1 s2 p2 t1 t2 ((Int32.ofInt (-2)))).2)) else (((p.2 4) (Int32.toNatClampNeg m)), c)
def p_X8_where (c : Rec) (s : Rec) (p : Rec) (t : Rec) (e : Rec) (o : Rec) (oh : Rec) (h : Rec) (k : Rec) (q : Rec) (s1 : Rec) (p1 : Rec) (s2 : Rec) (p2 : Rec) (t1 : Rec) (t2 : Rec) (m : Int32) : Prop := ((f_X8_within m ((Int32.ofInt 0)) ((p.1 5) - (Int32.ofInt 1))) = 0 → True) ∧ (¬ ((f_X8_within m ((Int32.ofInt 0)) ((p.1 5) - (Int32.ofInt 1))) = 0) → (vp_in m 8 ∧ True))
set_option maxHeartbeats 16000000 in
set_option maxRecDepth 20000 in
theorem s_X8_where (c : Rec) (s : Rec) (p : Rec) (t : Rec) (e : Rec) (o : Rec) (oh : Rec) (h : Rec) (k : Rec) (q : Rec) (s1 : Rec) (p1 : Rec) (s2 : Rec) (p2 : Rec) (t1 : Rec) (t2 : Rec) (m : Int32) (hp : p_X8_where c s p t e o oh h k q s1 p1 s2 p2 t1 t2 m) : Spec 1 0 0 mX8_where [.ref 0, .int m] (wB c s p t e o oh h k q s1 p1 s2 p2 t1 t2) (Ret (some (.int ((f_X8_where c s p t e o oh h k q s1 p1 s2 p2 t1 t2 m).1))) (wB ((f_X8_where c s p t e o oh h k q s1 p1 s2 p2 t1 t2 m).2) s p t e o oh h k q s1 p1 s2 p2 t1 t2)) := by
  obtain ⟨zq, hq⟩ : ∃ z, z = (f_X8_where c s p t e o oh h k q s1 p1 s2 p2 t1 t2 m) := ⟨_, rfl⟩
  rw [← hq]
  unfold f_X8_where at hq
  unfold p_X8_where at hp
  refine Sof fun sc => ?_
  refine g_blk hz0 kX8_where_0 ?_
  refine cS0 (s_X8_within m ((Int32.ofInt 0)) ((p.1 5) - (Int32.ofInt 1))) rfl cwX8_within dX8_where_11 rfl ?_
  refine g_blk hz0 kX8_where_14 ?_
  refine ⟨fun c1 => ?_, fun c1 => ?_⟩
  · rw [if_neg (show ¬ ((f_X8_within m ((Int32.ofInt 0)) ((p.1 5) - (Int32.ofInt 1))) = 0) from c1)] at hq
    replace hp := hp.2 c1
    refine g_blk hz0 kX8_where_24 ?_
    refine ⟨hp.1, ?_⟩
    replace hp := hp.2
    subst hq
    exact ⟨fun h => (by cases h), rfl, rfl⟩
  · rw [if_pos (show (f_X8_within m ((Int32.ofInt 0)) ((p.1 5) - (Int32.ofInt 1))) = 0 from c1)] at hq
    refine g_blk hz0 kX8_where_17 ?_
    refine cV [0, 1, 2, 3, 4, 5, 6, 7, 8, 9, 10, 11, 12, 13, 14, 15, 16, 17, 18, 19, 20, 21, 22, 23, 24, 25, 26, 27, 28, 29, 30, 31, 32, 33, 34, 35, 36, 37, 38, 39, 40, 41, 42, 43, 44, 45, 46, 47, 48, 49, 50, 51, 52, 53, 54, 55, 56, 57, 58, 59, 60, 61, 62, 63, 64, 65, 66, 67, 68, 69, 70, 71, 72, 73, 74, 75, 76, 77, 78, 79, 80, 81, 82, 83, 84, 85, 86, 87, 88, 89, 90, 91, 92, 93, 94, 95, 96, 97, 98, 99, 100, 101, 102, 103, 104, 105, 106, 107, 108, 109, 110, 111] (wB c s p t e o oh h k q s1 p1 s2 p2 t1 t2) (s_X8_refuseBad c s p t e o oh h k q s1 p1 s2 p2 t1 t2 ((Int32.ofInt (-2)))) rfl cwX8_refuseBad dX8_where_20 rfl rfl (hm63_B_B _ _ _ _ _ _ _ _ _ _ _ _ _ _ _ _) ((len_B _ _ _ _ _ _ _ _ _ _ _ _ _ _ _ _).trans (len_B _ _ _ _ _ _ _ _ _ _ _ _ _ _ _ _).symm) (wB ((f_X8_refuseBad c s p t e o oh h k q s1 p1 s2 p2 t1 t2 ((Int32.ofInt (-2)))).2) s p t e o oh h k q s1 p1 s2 p2 t1 t2) (pw85_B_B _ _ _ _ _ _ _ _ _ _ _ _ _ _ _ _ _) ?_
    obtain ⟨g2, hg2⟩ : ∃ z, z = (f_X8_refuseBad c s p t e o oh h k q s1 p1 s2 p2 t1 t2 ((Int32.ofInt (-2)))) := ⟨_, rfl⟩
    try rw [← hg2] at hp
    try rw [← hg2] at hq
    rw [← hg2]
    refine g_blk hz0 kX8_where_23 ?_
    subst hq
    exact ⟨fun h => (by cases h), rfl, rfl⟩
