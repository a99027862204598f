def f_X8_pile (c : Rec) (s : Rec) (p : Rec) (t : Rec) (e : Rec) (o : Rec) (oh : Rec) (h : Rec) (k : Rec) (q : Rec) (s1 : Rec) (p1 : Rec) (s2 : Rec) (p2 : Rec) (t1 : Rec) (t2 : Rec) (x : Int32) (y : Int32) (i : Int32) : Int32 × Rec := if (Int32.ofInt (-1)) ≤ i then (if i = (Int32.ofInt (-1)) then ((f_X4_heightAt s x y), c) else (if (f_X4_cellAt s x y i) = (Int32.ofInt (-1)) then ((Int32.ofInt (-5)), c) else ((f_X4_cellAt s x y i), c))) else (((f_X8_refuseBad c s p t e o oh h k q s1 p1 s2 p2 t1 t2 ((Int32.ofInt (-10)))).1), ((f_X8_refuseBad c s p t e o oh h k q s1 p1 s2 p2 t1 t2 ((Int32.ofInt (-10)))).2))
def p_X8_pile (c : Rec) (s : Rec) (p : Rec) (t : Rec) (e : Rec) (o : Rec) (oh : Rec) (h : Rec) (k : Rec) (q : Rec) (s1 : Rec) (p1 : Rec) (s2 : Rec) (p2 : Rec) (t1 : Rec) (t2 : Rec) (x : Int32) (y : Int32) (i : Int32) : Prop := ((Int32.ofInt (-1)) ≤ i → ((i = (Int32.ofInt (-1)) → ((p_X4_heightAt s x y) ∧ True)) ∧ (¬ (i = (Int32.ofInt (-1))) → ((p_X4_cellAt s x y i) ∧ True)))) ∧ (¬ ((Int32.ofInt (-1)) ≤ i) → True)
set_option maxHeartbeats 16000000 in
set_option maxRecDepth 20000 in
theorem s_X8_pile (c : Rec) (s : Rec) (p : Rec) (t : Rec) (e : Rec) (o : Rec) (oh : Rec) (h : Rec) (k : Rec) (q : Rec) (s1 : Rec) (p1 : Rec) (s2 : Rec) (p2 : Rec) (t1 : Rec) (t2 : Rec) (x : Int32) (y : Int32) (i : Int32) (hp : p_X8_pile c s p t e o oh h k q s1 p1 s2 p2 t1 t2 x y i) : Spec 3 0 0 mX8_pile [.ref 0, .int x, .int y, .int i] (wB c s p t e o oh h k q s1 p1 s2 p2 t1 t2) (Ret (some (.int ((f_X8_pile c s p t e o oh h k q s1 p1 s2 p2 t1 t2 x y i).1))) (wB ((f_X8_pile c s p t e o oh h k q s1 p1 s2 p2 t1 t2 x y i).2) s p t e o oh h k q s1 p1 s2 p2 t1 t2)) := by
  obtain ⟨zq, hq⟩ : ∃ z, z = (f_X8_pile c s p t e o oh h k q s1 p1 s2 p2 t1 t2 x y i) := ⟨_, rfl⟩
  rw [← hq]
  unfold f_X8_pile at hq
  unfold p_X8_pile at hp
  refine Sof fun sc => ?_
  refine g_blk hz0 kX8_pile_0 ?_
  refine ⟨fun c1 => ?_, fun c1 => ?_⟩
  · rw [if_pos (show (Int32.ofInt (-1)) ≤ i from c1)] at hq
    replace hp := hp.1 c1
    refine g_blk hz0 kX8_pile_12 ?_
    refine ⟨fun c2 => ?_, fun c2 => ?_⟩
    · rw [if_neg (show ¬ (i = (Int32.ofInt (-1))) from c2)] at hq
      replace hp := hp.2 c2
      refine g_blk hz0 kX8_pile_30 ?_
      refine cVp [2, 3, 4, 5, 6, 7, 8] (wS s) (s_X4_cellAt s x y i hp.1) rfl cwX4_cellAt dX8_pile_40 rfl rfl (hm67_B_S _ _ _ _ _ _ _ _ _ _ _ _ _ _ _ _) ?_
      replace hp := hp.2
      refine g_blk hz0 kX8_pile_43 ?_
      refine ⟨fun c3 => ?_, fun c3 => ?_⟩
      · rw [if_neg (show ¬ ((f_X4_cellAt s x y i) = (Int32.ofInt (-1))) from c3)] at hq
        refine g_blk hz0 kX8_pile_56 ?_
        refine g_blk hz0 kX8_pile_58 ?_
        subst hq
        exact ⟨fun h => (by cases h), rfl, rfl⟩
      · rw [if_pos (show (f_X4_cellAt s x y i) = (Int32.ofInt (-1)) from c3)] at hq
        refine g_blk hz0 kX8_pile_51 ?_
        refine g_blk hz0 kX8_pile_58 ?_
        subst hq
        exact ⟨fun h => (by cases h), rfl, rfl⟩
    · rw [if_pos (show i = (Int32.ofInt (-1)) from c2)] at hq
      replace hp := hp.1 c2
      refine g_blk hz0 kX8_pile_17 ?_
      refine cVp [2, 3, 4, 5, 6, 7, 8] (wS s) (s_X4_heightAt s x y hp.1) rfl cwX4_heightAt dX8_pile_26 rfl rfl (hm67_B_S _ _ _ _ _ _ _ _ _ _ _ _ _ _ _ _) ?_
      replace hp := hp.2
      refine g_blk hz0 kX8_pile_29 ?_
      subst hq
      exact ⟨fun h => (by cases h), rfl, rfl⟩
  · rw [if_neg (show ¬ ((Int32.ofInt (-1)) ≤ i) from c1)] at hq
    refine g_blk hz0 kX8_pile_5 ?_
    refine cV [0, 1, 2, 3, 4, 5, 6, 7, 8, 9, 10, 11, 12, 13, 14, 15, 16, 17, 18, 19, 20, 21, 22, 23, 24, 25, 26, 27, 28, 29, 30, 31, 32, 33, 34, 35, 36, 37, 38, 39, 40, 41, 42, 43, 44, 45, 46, 47, 48, 49, 50, 51, 52, 53, 54, 55, 56, 57, 58, 59, 60, 61, 62, 63, 64, 65, 66, 67, 68, 69, 70, 71, 72, 73, 74, 75, 76, 77, 78, 79, 80, 81, 82, 83, 84, 85, 86, 87, 88, 89, 90, 91, 92, 93, 94, 95, 96, 97, 98, 99, 100, 101, 102, 103, 104, 105, 106, 107, 108, 109, 110, 111] (wB c s p t e o oh h k q s1 p1 s2 p2 t1 t2) (s_X8_refuseBad c s p t e o oh h k q s1 p1 s2 p2 t1 t2 ((Int32.ofInt (-10)))) rfl cwX8_refuseBad dX8_pile_8 rfl rfl (hm63_B_B _ _ _ _ _ _ _ _ _ _ _ _ _ _ _ _) ((len_B _ _ _ _ _ _ _ _ _ _ _ _ _ _ _ _).trans (len_B _ _ _ _ _ _ _ _ _ _ _ _ _ _ _ _).symm) (wB ((f_X8_refuseBad c s p t e o oh h k q s1 p1 s2 p2 t1 t2 ((Int32.ofInt (-10)))).2) s p t e o oh h k q s1 p1 s2 p2 t1 t2) (pw85_B_B _ _ _ _ _ _ _ _ _ _ _ _ _ _ _ _ _) ?_
    obtain ⟨g4, hg4⟩ : ∃ z, z = (f_X8_refuseBad c s p t e o oh h k q s1 p1 s2 p2 t1 t2 ((Int32.ofInt (-10)))) := ⟨_, rfl⟩
    try rw [← hg4] at hp
    try rw [← hg4] at hq
    rw [← hg4]
    refine g_blk hz0 kX8_pile_11 ?_
    subst hq
    exact ⟨fun h => (by cases h), rfl, rfl⟩
