set_option maxHeartbeats 16000000 in
theorem hm72_B_QS (c : Rec) (s : Rec) (p : Rec) (t : Rec) (e : Rec) (o : Rec) (oh : Rec) (h : Rec) (k : Rec) (q : Rec) (s1 : Rec) (p1 : Rec) (s2 : Rec) (p2 : Rec) (t1 : Rec) (t2 : Rec) : [50, 51, 52, 53, 54, 55, 56, 57, 58, 59, 60, 61, 62, 63, 2, 3, 4, 5, 6, 7, 8].map (lk (wB c s p t e o oh h k q s1 p1 s2 p2 t1 t2)) = (wQS q s).map (fun e => some (ren [50, 51, 52, 53, 54, 55, 56, 57, 58, 59, 60, 61, 62, 63, 2, 3, 4, 5, 6, 7, 8] e)) := rfl
set_option maxHeartbeats 16000000 in
theorem pw100_B_QS (c : Rec) (s : Rec) (p : Rec) (t : Rec) (e : Rec) (o : Rec) (oh : Rec) (h : Rec) (k : Rec) (q : Rec) (s1 : Rec) (p1 : Rec) (s2 : Rec) (p2 : Rec) (t1 : Rec) (t2 : Rec) (q9 : Rec) : putW (wB c s p t e o oh h k q s1 p1 s2 p2 t1 t2) [50, 51, 52, 53, 54, 55, 56, 57, 58, 59, 60, 61, 62, 63, 2, 3, 4, 5, 6, 7, 8] ((wQS q9 s).map (ren [50, 51, 52, 53, 54, 55, 56, 57, 58, 59, 60, 61, 62, 63, 2, 3, 4, 5, 6, 7, 8])) = (wB c s p t e o oh h k q9 s1 p1 s2 p2 t1 t2) := rfl
def f_X8_small (c : Rec) (s : Rec) (p : Rec) (t : Rec) (e : Rec) (o : Rec) (oh : Rec) (h : Rec) (k : Rec) (q : Rec) (s1 : Rec) (p1 : Rec) (s2 : Rec) (p2 : Rec) (t1 : Rec) (t2 : Rec) (k1 : Int32) : Int32 × Rec × Rec := if (f_X8_within k1 ((Int32.ofInt 1)) ((Int32.ofInt 36))) = 0 then (((f_X8_refuseBad c s p t e o oh h k q s1 p1 s2 p2 t1 t2 ((Int32.ofInt (-2)))).1), ((f_X8_refuseBad c s p t e o oh h k q s1 p1 s2 p2 t1 t2 ((Int32.ofInt (-2)))).2), q) else (((f_X5_fewestFolds q s k1).1), c, ((f_X5_fewestFolds q s k1).2))
def p_X8_small (c : Rec) (s : Rec) (p : Rec) (t : Rec) (e : Rec) (o : Rec) (oh : Rec) (h : Rec) (k : Rec) (q : Rec) (s1 : Rec) (p1 : Rec) (s2 : Rec) (p2 : Rec) (t1 : Rec) (t2 : Rec) (k1 : Int32) : Prop := ((f_X8_within k1 ((Int32.ofInt 1)) ((Int32.ofInt 36))) = 0 → True) ∧ (¬ ((f_X8_within k1 ((Int32.ofInt 1)) ((Int32.ofInt 36))) = 0) → ((p_X5_fewestFolds q s k1) ∧ True))
set_option maxHeartbeats 16000000 in
set_option maxRecDepth 20000 in
theorem s_X8_small (c : Rec) (s : Rec) (p : Rec) (t : Rec) (e : Rec) (o : Rec) (oh : Rec) (h : Rec) (k : Rec) (q : Rec) (s1 : Rec) (p1 : Rec) (s2 : Rec) (p2 : Rec) (t1 : Rec) (t2 : Rec) (k1 : Int32) (hp : p_X8_small c s p t e o oh h k q s1 p1 s2 p2 t1 t2 k1) : Spec 9 0 0 mX8_small [.ref 0, .int k1] (wB c s p t e o oh h k q s1 p1 s2 p2 t1 t2) (Ret (some (.int ((f_X8_small c s p t e o oh h k q s1 p1 s2 p2 t1 t2 k1).1))) (wB ((f_X8_small c s p t e o oh h k q s1 p1 s2 p2 t1 t2 k1).2.1) s p t e o oh h k ((f_X8_small c s p t e o oh h k q s1 p1 s2 p2 t1 t2 k1).2.2) s1 p1 s2 p2 t1 t2)) := by
  obtain ⟨zq, hq⟩ : ∃ z, z = (f_X8_small c s p t e o oh h k q s1 p1 s2 p2 t1 t2 k1) := ⟨_, rfl⟩
  rw [← hq]
  unfold f_X8_small at hq
  unfold p_X8_small at hp
  refine Sof fun sc => ?_
  refine g_blk hz0 kX8_small_0 ?_
  refine cS0 (s_X8_within k1 ((Int32.ofInt 1)) ((Int32.ofInt 36))) rfl cwX8_within dX8_small_4 rfl ?_
  refine g_blk hz0 kX8_small_7 ?_
  refine ⟨fun c1 => ?_, fun c1 => ?_⟩
  · rw [if_neg (show ¬ ((f_X8_within k1 ((Int32.ofInt 1)) ((Int32.ofInt 36))) = 0) from c1)] at hq
    replace hp := hp.2 c1
    refine g_blk hz0 kX8_small_17 ?_
    refine cV [50, 51, 52, 53, 54, 55, 56, 57, 58, 59, 60, 61, 62, 63, 2, 3, 4, 5, 6, 7, 8] (wQS q s) (s_X5_fewestFolds q s k1 hp.1) rfl cwX5_fewestFolds dX8_small_29 rfl rfl (hm72_B_QS _ _ _ _ _ _ _ _ _ _ _ _ _ _ _ _) ((len_QS _ _).trans (len_QS _ _).symm) (wB c s p t e o oh h k ((f_X5_fewestFolds q s k1).2) s1 p1 s2 p2 t1 t2) (pw100_B_QS _ _ _ _ _ _ _ _ _ _ _ _ _ _ _ _ _) ?_
    replace hp := hp.2
    obtain ⟨g3, hg3⟩ : ∃ z, z = (f_X5_fewestFolds q s k1) := ⟨_, rfl⟩
    try rw [← hg3] at hp
    try rw [← hg3] at hq
    rw [← hg3]
    refine g_blk hz0 kX8_small_32 ?_
    subst hq
    exact ⟨fun h => (by cases h), rfl, rfl⟩
  · rw [if_pos (show (f_X8_within k1 ((Int32.ofInt 1)) ((Int32.ofInt 36))) = 0 from c1)] at hq
    refine g_blk hz0 kX8_small_10 ?_
    refine cV [0, 1, 2, 3, 4, 5, 6, 7, 8, 9, 10, 11, 12, 13, 14, 15, 16, 17, 18, 19, 20, 21, 22, 23, 24, 25, 26, 27, 28, 29, 30, 31, 32, 33, 34, 35, 36, 37, 38, 39, 40, 41, 42, 43, 44, 45, 46, 47, 48, 49, 50, 51, 52, 53, 54, 55, 56, 57, 58, 59, 60, 61, 62, 63, 64, 65, 66, 67, 68, 69, 70, 71, 72, 73, 74, 75, 76, 77, 78, 79, 80, 81, 82, 83, 84, 85, 86, 87, 88, 89, 90, 91, 92, 93, 94, 95, 96, 97, 98, 99, 100, 101, 102, 103, 104, 105, 106, 107, 108, 109, 110, 111] (wB c s p t e o oh h k q s1 p1 s2 p2 t1 t2) (s_X8_refuseBad c s p t e o oh h k q s1 p1 s2 p2 t1 t2 ((Int32.ofInt (-2)))) rfl cwX8_refuseBad dX8_small_13 rfl rfl (hm63_B_B _ _ _ _ _ _ _ _ _ _ _ _ _ _ _ _) ((len_B _ _ _ _ _ _ _ _ _ _ _ _ _ _ _ _).trans (len_B _ _ _ _ _ _ _ _ _ _ _ _ _ _ _ _).symm) (wB ((f_X8_refuseBad c s p t e o oh h k q s1 p1 s2 p2 t1 t2 ((Int32.ofInt (-2)))).2) s p t e o oh h k q s1 p1 s2 p2 t1 t2) (pw85_B_B _ _ _ _ _ _ _ _ _ _ _ _ _ _ _ _ _) ?_
    obtain ⟨g2, hg2⟩ : ∃ z, z = (f_X8_refuseBad c s p t e o oh h k q s1 p1 s2 p2 t1 t2 ((Int32.ofInt (-2)))) := ⟨_, rfl⟩
    try rw [← hg2] at hp
    try rw [← hg2] at hq
    rw [← hg2]
    refine g_blk hz0 kX8_small_16 ?_
    subst hq
    exact ⟨fun h => (by cases h), rfl, rfl⟩

set_option maxHeartbeats 16000000 in
theorem hm73_B_HP (c : Rec) (s : Rec) (p : Rec) (t : Rec) (e : Rec) (o : Rec) (oh : Rec) (h : Rec) (k : Rec) (q : Rec) (s1 : Rec) (p1 : Rec) (s2 : Rec) (p2 : Rec) (t1 : Rec) (t2 : Rec) : [31, 32, 33, 34, 35, 36, 37, 38, 39, 40, 41, 42, 43, 44, 45, 46, 1, 2, 3, 4, 5, 6, 7, 8, 9, 10, 11, 12].map (lk (wB c s p t e o oh h k q s1 p1 s2 p2 t1 t2)) = (wHP oh h s p).map (fun e => some (ren [31, 32, 33, 34, 35, 36, 37, 38, 39, 40, 41, 42, 43, 44, 45, 46, 1, 2, 3, 4, 5, 6, 7, 8, 9, 10, 11, 12] e)) := rfl
set_option maxHeartbeats 16000000 in
theorem pw101_B_HP (c : Rec) (s : Rec) (p : Rec) (t : Rec) (e : Rec) (o : Rec) (oh : Rec) (h : Rec) (k : Rec) (q : Rec) (s1 : Rec) (p1 : Rec) (s2 : Rec) (p2 : Rec) (t1 : Rec) (t2 : Rec) (o9 : Rec) (h9 : Rec) (s9 : Rec) (p9 : Rec) : putW (wB c s p t e o oh h k q s1 p1 s2 p2 t1 t2) [31, 32, 33, 34, 35, 36, 37, 38, 39, 40, 41, 42, 43, 44, 45, 46, 1, 2, 3, 4, 5, 6, 7, 8, 9, 10, 11, 12] ((wHP o9 h9 s9 p9).map (ren [31, 32, 33, 34, 35, 36, 37, 38, 39, 40, 41, 42, 43, 44, 45, 46, 1, 2, 3, 4, 5, 6, 7, 8, 9, 10, 11, 12])) = (wB c s9 p9 t e o o9 h9 k q s1 p1 s2 p2 t1 t2) := rfl
def f_X8_wins (c : Rec) (s : Rec) (p : Rec) (t : Rec) (e : Rec) (o : Rec) (oh : Rec) (h : Rec) (k : Rec) (q : Rec) (s1 : Rec) (p1 : Rec) (s2 : Rec) (p2 : Rec) (t1 : Rec) (t2 : Rec) (n : Int32) : Int32 × Rec × Rec × Rec × Rec × Rec := if (f_X8_within n ((Int32.ofInt 0)) ((Int32.ofInt 3))) = 0 then (((f_X8_refuseBad c s p t e o oh h k q s1 p1 s2 p2 t1 t2 ((Int32.ofInt (-2)))).1), ((f_X8_refuseBad c s p t e o oh h k q s1 p1 s2 p2 t1 t2 ((Int32.ofInt (-2)))).2), s, p, oh, h) else (if n = (Int32.ofInt 0) then (if ((f_X0_sureWithin_c0 oh h s p).1) = 0 then ((Int32.ofInt 0), c, ((f_X0_sureWithin_c0 oh h s p).2.2.2.1), ((f_X0_sureWithin_c0 oh h s p).2.2.2.2), ((f_X0_sureWithin_c0 oh h s p).2.1), ((f_X0_sureWithin_c0 oh h s p).2.2.1)) else ((Int32.ofInt 1), c, ((f_X0_sureWithin_c0 oh h s p).2.2.2.1), ((f_X0_sureWithin_c0 oh h s p).2.2.2.2), ((f_X0_sureWithin_c0 oh h s p).2.1), ((f_X0_sureWithin_c0 oh h s p).2.2.1))) else (if n = (Int32.ofInt 1) then (if ((f_X0_sureWithin_c1 oh h s p).1) = 0 then ((Int32.ofInt 0), c, ((f_X0_sureWithin_c1 oh h s p).2.2.2.1), ((f_X0_sureWithin_c1 oh h s p).2.2.2.2), ((f_X0_sureWithin_c1 oh h s p).2.1), ((f_X0_sureWithin_c1 oh h s p).2.2.1)) else ((Int32.ofInt 1), c, ((f_X0_sureWithin_c1 oh h s p).2.2.2.1), ((f_X0_sureWithin_c1 oh h s p).2.2.2.2), ((f_X0_sureWithin_c1 oh h s p).2.1), ((f_X0_sureWithin_c1 oh h s p).2.2.1))) else (if n = (Int32.ofInt 2) then (if ((f_X0_sureWithin_c2 oh h s p).1) = 0 then ((Int32.ofInt 0), c, ((f_X0_sureWithin_c2 oh h s p).2.2.2.1), ((f_X0_sureWithin_c2 oh h s p).2.2.2.2), ((f_X0_sureWithin_c2 oh h s p).2.1), ((f_X0_sureWithin_c2 oh h s p).2.2.1)) else ((Int32.ofInt 1), c, ((f_X0_sureWithin_c2 oh h s p).2.2.2.1), ((f_X0_sureWithin_c2 oh h s p).2.2.2.2), ((f_X0_sureWithin_c2 oh h s p).2.1), ((f_X0_sureWithin_c2 oh h s p).2.2.1))) else (if n = (Int32.ofInt 3) then (if ((f_X0_sureWithin_c3 oh h s p).1) = 0 then ((Int32.ofInt 0), c, ((f_X0_sureWithin_c3 oh h s p).2.2.2.1), ((f_X0_sureWithin_c3 oh h s p).2.2.2.2), ((f_X0_sureWithin_c3 oh h s p).2.1), ((f_X0_sureWithin_c3 oh h s p).2.2.1)) else ((Int32.ofInt 1), c, ((f_X0_sureWithin_c3 oh h s p).2.2.2.1), ((f_X0_sureWithin_c3 oh h s p).2.2.2.2), ((f_X0_sureWithin_c3 oh h s p).2.1), ((f_X0_sureWithin_c3 oh h s p).2.2.1))) else (0, c, s, p, oh, h)))))
def p_X8_wins (c : Rec) (s : Rec) (p : Rec) (t : Rec) (e : Rec) (o : Rec) (oh : Rec) (h : Rec) (k : Rec) (q : Rec) (s1 : Rec) (p1 : Rec) (s2 : Rec) (p2 : Rec) (t1 : Rec) (t2 : Rec) (n : Int32) : Prop := ((f_X8_within n ((Int32.ofInt 0)) ((Int32.ofInt 3))) = 0 → True) ∧ (¬ ((f_X8_within n ((Int32.ofInt 0)) ((Int32.ofInt 3))) = 0) → ((n = (Int32.ofInt 0) → ((p_X0_sureWithin_c0 oh h s p) ∧ True)) ∧ (¬ (n = (Int32.ofInt 0)) → ((n = (Int32.ofInt 1) → ((p_X0_sureWithin_c1 oh h s p) ∧ True)) ∧ (¬ (n = (Int32.ofInt 1)) → ((n = (Int32.ofInt 2) → ((p_X0_sureWithin_c2 oh h s p) ∧ True)) ∧ (¬ (n = (Int32.ofInt 2)) → ((n = (Int32.ofInt 3) → ((p_X0_sureWithin_c3 oh h s p) ∧ True)) ∧ (¬ (n = (Int32.ofInt 3)) → (False))))))))))
set_option maxHeartbeats 16000000 in
set_option maxRecDepth 20000 in
theorem s_X8_wins (c : Rec) (s : Rec) (p : Rec) (t : Rec) (e : Rec) (o : Rec) (oh : Rec) (h : Rec) (k : Rec) (q : Rec) (s1 : Rec) (p1 : Rec) (s2 : Rec) (p2 : Rec) (t1 : Rec) (t2 : Rec) (n : Int32) (hp : p_X8_wins c s p t e o oh h k q s1 p1 s2 p2 t1 t2 n) : Spec 12 0 0 mX8_wins [.ref 0, .int n] (wB c s p t e o oh h k q s1 p1 s2 p2 t1 t2) (Ret (some (.int ((f_X8_wins c s p t e o oh h k q s1 p1 s2 p2 t1 t2 n).1))) (wB ((f_X8_wins c s p t e o oh h k q s1 p1 s2 p2 t1 t2 n).2.1) ((f_X8_wins c s p t e o oh h k q s1 p1 s2 p2 t1 t2 n).2.2.1) ((f_X8_wins c s p t e o oh h k q s1 p1 s2 p2 t1 t2 n).2.2.2.1) t e o ((f_X8_wins c s p t e o oh h k q s1 p1 s2 p2 t1 t2 n).2.2.2.2.1) ((f_X8_wins c s p t e o oh h k q s1 p1 s2 p2 t1 t2 n).2.2.2.2.2) k q s1 p1 s2 p2 t1 t2)) := by
  obtain ⟨zq, hq⟩ : ∃ z, z = (f_X8_wins c s p t e o oh h k q s1 p1 s2 p2 t1 t2 n) := ⟨_, rfl⟩
  rw [← hq]
  unfold f_X8_wins at hq
  unfold p_X8_wins at hp
  refine Sof fun sc => ?_
  refine g_blk hz0 kX8_wins_0 ?_
  refine cS0 (s_X8_within n ((Int32.ofInt 0)) ((Int32.ofInt 3))) rfl cwX8_within dX8_wins_3 rfl ?_
  refine g_blk hz0 kX8_wins_6 ?_
  refine ⟨fun c1 => ?_, fun c1 => ?_⟩
  · rw [if_neg (show ¬ ((f_X8_within n ((Int32.ofInt 0)) ((Int32.ofInt 3))) = 0) from c1)] at hq
    replace hp := hp.2 c1
    refine g_blk hz0 kX8_wins_16 ?_
    by_cases e3 : n = (Int32.ofInt 0)
    · rw [if_pos e3] at hq
      replace hp := hp.1 e3
      subst e3
      refine cV [31, 32, 33, 34, 35, 36, 37, 38, 39, 40, 41, 42, 43, 44, 45, 46, 1, 2, 3, 4, 5, 6, 7, 8, 9, 10, 11, 12] (wHP oh h s p) (s_X0_sureWithin_c0 oh h s p hp.1) rfl cwX0_sureWithin dX8_wins_25 rfl rfl (hm73_B_HP _ _ _ _ _ _ _ _ _ _ _ _ _ _ _ _) ((len_HP _ _ _ _).trans (len_HP _ _ _ _).symm) (wB c ((f_X0_sureWithin_c0 oh h s p).2.2.2.1) ((f_X0_sureWithin_c0 oh h s p).2.2.2.2) t e o ((f_X0_sureWithin_c0 oh h s p).2.1) ((f_X0_sureWithin_c0 oh h s p).2.2.1) k q s1 p1 s2 p2 t1 t2) (pw101_B_HP _ _ _ _ _ _ _ _ _ _ _ _ _ _ _ _ _ _ _ _) ?_
      replace hp := hp.2
      obtain ⟨g4, hg4⟩ : ∃ z, z = (f_X0_sureWithin_c0 oh h s p) := ⟨_, rfl⟩
      try rw [← hg4] at hp
      try rw [← hg4] at hq
      rw [← hg4]
      refine g_blk hz0 kX8_wins_28 ?_
      refine ⟨fun c5 => ?_, fun c5 => ?_⟩
      · rw [if_pos (show (g4.1) = 0 from c5)] at hq
        refine g_blk hz0 kX8_wins_35 ?_
        refine g_blk hz0 kX8_wins_36 ?_
        subst hq
        exact ⟨fun h => (by cases h), rfl, rfl⟩
      · rw [if_neg (show ¬ ((g4.1) = 0) from c5)] at hq
        refine g_blk hz0 kX8_wins_31 ?_
        refine g_blk hz0 kX8_wins_36 ?_
        subst hq
        exact ⟨fun h => (by cases h), rfl, rfl⟩
    · rw [if_neg e3] at hq
      replace hp := hp.2 e3
      by_cases e6 : n = (Int32.ofInt 1)
      · rw [if_pos e6] at hq
        replace hp := hp.1 e6
        subst e6
        refine cV [31, 32, 33, 34, 35, 36, 37, 38, 39, 40, 41, 42, 43, 44, 45, 46, 1, 2, 3, 4, 5, 6, 7, 8, 9, 10, 11, 12] (wHP oh h s p) (s_X0_sureWithin_c1 oh h s p hp.1) rfl cwX0_sureWithin dX8_wins_25 rfl rfl (hm73_B_HP _ _ _ _ _ _ _ _ _ _ _ _ _ _ _ _) ((len_HP _ _ _ _).trans (len_HP _ _ _ _).symm) (wB c ((f_X0_sureWithin_c1 oh h s p).2.2.2.1) ((f_X0_sureWithin_c1 oh h s p).2.2.2.2) t e o ((f_X0_sureWithin_c1 oh h s p).2.1) ((f_X0_sureWithin_c1 oh h s p).2.2.1) k q s1 p1 s2 p2 t1 t2) (pw101_B_HP _ _ _ _ _ _ _ _ _ _ _ _ _ _ _ _ _ _ _ _) ?_
        replace hp := hp.2
        obtain ⟨g7, hg7⟩ : ∃ z, z = (f_X0_sureWithin_c1 oh h s p) := ⟨_, rfl⟩
        try rw [← hg7] at hp
        try rw [← hg7] at hq
        rw [← hg7]
        refine g_blk hz0 kX8_wins_28 ?_
        refine ⟨fun c8 => ?_, fun c8 => ?_⟩
        · rw [if_pos (show (g7.1) = 0 from c8)] at hq
          refine g_blk hz0 kX8_wins_35 ?_
          refine g_blk hz0 kX8_wins_36 ?_
          subst hq
          exact ⟨fun h => (by cases h), rfl, rfl⟩
        · rw [if_neg (show ¬ ((g7.1) = 0) from c8)] at hq
          refine g_blk hz0 kX8_wins_31 ?_
          refine g_blk hz0 kX8_wins_36 ?_
          subst hq
          exact ⟨fun h => (by cases h), rfl, rfl⟩
      · rw [if_neg e6] at hq
        replace hp := hp.2 e6
        by_cases e9 : n = (Int32.ofInt 2)
        · rw [if_pos e9] at hq
          replace hp := hp.1 e9
          subst e9
          refine cV [31, 32, 33, 34, 35, 36, 37, 38, 39, 40, 41, 42, 43, 44, 45, 46, 1, 2, 3, 4, 5, 6, 7, 8, 9, 10, 11, 12] (wHP oh h s p) (s_X0_sureWithin_c2 oh h s p hp.1) rfl cwX0_sureWithin dX8_wins_25 rfl rfl (hm73_B_HP _ _ _ _ _ _ _ _ _ _ _ _ _ _ _ _) ((len_HP _ _ _ _).trans (len_HP _ _ _ _).symm) (wB c ((f_X0_sureWithin_c2 oh h s p).2.2.2.1) ((f_X0_sureWithin_c2 oh h s p).2.2.2.2) t e o ((f_X0_sureWithin_c2 oh h s p).2.1) ((f_X0_sureWithin_c2 oh h s p).2.2.1) k q s1 p1 s2 p2 t1 t2) (pw101_B_HP _ _ _ _ _ _ _ _ _ _ _ _ _ _ _ _ _ _ _ _) ?_
          replace hp := hp.2
          obtain ⟨g10, hg10⟩ : ∃ z, z = (f_X0_sureWithin_c2 oh h s p) := ⟨_, rfl⟩
          try rw [← hg10] at hp
          try rw [← hg10] at hq
          rw [← hg10]
          refine g_blk hz0 kX8_wins_28 ?_
          refine ⟨fun c11 => ?_, fun c11 => ?_⟩
          · rw [if_pos (show (g10.1) = 0 from c11)] at hq
            refine g_blk hz0 kX8_wins_35 ?_
            refine g_blk hz0 kX8_wins_36 ?_
            subst hq
            exact ⟨fun h => (by cases h), rfl, rfl⟩
          · rw [if_neg (show ¬ ((g10.1) = 0) from c11)] at hq
            refine g_blk hz0 kX8_wins_31 ?_
            refine g_blk hz0 kX8_wins_36 ?_
            subst hq
            exact ⟨fun h => (by cases h), rfl, rfl⟩
        · rw [if_neg e9] at hq
          replace hp := hp.2 e9
          by_cases e12 : n = (Int32.ofInt 3)
          · rw [if_pos e12] at hq
            replace hp := hp.1 e12
            subst e12
            refine cV [31, 32, 33, 34, 35, 36, 37, 38, 39, 40, 41, 42, 43, 44, 45, 46, 1, 2, 3, 4, 5, 6, 7, 8, 9, 10, 11, 12] (wHP oh h s p) (s_X0_sureWithin_c3 oh h s p hp.1) rfl cwX0_sureWithin dX8_wins_25 rfl rfl (hm73_B_HP _ _ _ _ _ _ _ _ _ _ _ _ _ _ _ _) ((len_HP _ _ _ _).trans (len_HP _ _ _ _).symm) (wB c ((f_X0_sureWithin_c3 oh h s p).2.2.2.1) ((f_X0_sureWithin_c3 oh h s p).2.2.2.2) t e o ((f_X0_sureWithin_c3 oh h s p).2.1) ((f_X0_sureWithin_c3 oh h s p).2.2.1) k q s1 p1 s2 p2 t1 t2) (pw101_B_HP _ _ _ _ _ _ _ _ _ _ _ _ _ _ _ _ _ _ _ _) ?_
            replace hp := hp.2
            obtain ⟨g13, hg13⟩ : ∃ z, z = (f_X0_sureWithin_c3 oh h s p) := ⟨_, rfl⟩
            try rw [← hg13] at hp
            try rw [← hg13] at hq
            rw [← hg13]
            refine g_blk hz0 kX8_wins_28 ?_
            refine ⟨fun c14 => ?_, fun c14 => ?_⟩
            · rw [if_pos (show (g13.1) = 0 from c14)] at hq
              refine g_blk hz0 kX8_wins_35 ?_
              refine g_blk hz0 kX8_wins_36 ?_
              subst hq
              exact ⟨fun h => (by cases h), rfl, rfl⟩
            · rw [if_neg (show ¬ ((g13.1) = 0) from c14)] at hq
              refine g_blk hz0 kX8_wins_31 ?_
              refine g_blk hz0 kX8_wins_36 ?_
              subst hq
              exact ⟨fun h => (by cases h), rfl, rfl⟩
          · rw [if_neg e12] at hq
            replace hp := hp.2 e12
            exact hp.elim
  · rw [if_pos (show (f_X8_within n ((Int32.ofInt 0)) ((Int32.ofInt 3))) = 0 from c1)] at hq
    refine g_blk hz0 kX8_wins_9 ?_
    refine cV [0, 1, 2, 3, 4, 5, 6, 7, 8, 9, 10, 11, 12, 13, 14, 15, 16, 17, 18, 19, 20, 21, 22, 23, 24, 25, 26, 27, 28, 29, 30, 31, 32, 33, 34, 35, 36, 37, 38, 39, 40, 41, 42, 43, 44, 45, 46, 47, 48, 49, 50, 51, 52, 53, 54, 55, 56, 57, 58, 59, 60, 61, 62, 63, 64, 65, 66, 67, 68, 69, 70, 71, 72, 73, 74, 75, 76, 77, 78, 79, 80, 81, 82, 83, 84, 85, 86, 87, 88, 89, 90, 91, 92, 93, 94, 95, 96, 97, 98, 99, 100, 101, 102, 103, 104, 105, 106, 107, 108, 109, 110, 111] (wB c s p t e o oh h k q s1 p1 s2 p2 t1 t2) (s_X8_refuseBad c s p t e o oh h k q s1 p1 s2 p2 t1 t2 ((Int32.ofInt (-2)))) rfl cwX8_refuseBad dX8_wins_12 rfl rfl (hm63_B_B _ _ _ _ _ _ _ _ _ _ _ _ _ _ _ _) ((len_B _ _ _ _ _ _ _ _ _ _ _ _ _ _ _ _).trans (len_B _ _ _ _ _ _ _ _ _ _ _ _ _ _ _ _).symm) (wB ((f_X8_refuseBad c s p t e o oh h k q s1 p1 s2 p2 t1 t2 ((Int32.ofInt (-2)))).2) s p t e o oh h k q s1 p1 s2 p2 t1 t2) (pw85_B_B _ _ _ _ _ _ _ _ _ _ _ _ _ _ _ _ _) ?_
    obtain ⟨g2, hg2⟩ : ∃ z, z = (f_X8_refuseBad c s p t e o oh h k q s1 p1 s2 p2 t1 t2 ((Int32.ofInt (-2)))) := ⟨_, rfl⟩
    try rw [← hg2] at hp
    try rw [← hg2] at hq
    rw [← hg2]
    refine g_blk hz0 kX8_wins_15 ?_
    subst hq
    exact ⟨fun h => (by cases h), rfl, rfl⟩

set_option maxHeartbeats 16000000 in
theorem pw102_B_HP (c : Rec) (s : Rec) (p : Rec) (t : Rec) (e : Rec) (o : Rec) (oh : Rec) (h : Rec) (k : Rec) (q : Rec) (s1 : Rec) (p1 : Rec) (s2 : Rec) (p2 : Rec) (t1 : Rec) (t2 : Rec)  : putW (wB c s p t e o oh h k q s1 p1 s2 p2 t1 t2) [31, 32, 33, 34, 35, 36, 37, 38, 39, 40, 41, 42, 43, 44, 45, 46, 1, 2, 3, 4, 5, 6, 7, 8, 9, 10, 11, 12] ((wHP oh h s p).map (ren [31, 32, 33, 34, 35, 36, 37, 38, 39, 40, 41, 42, 43, 44, 45, 46, 1, 2, 3, 4, 5, 6, 7, 8, 9, 10, 11, 12])) = (wB c s p t e o oh h k q s1 p1 s2 p2 t1 t2) := rfl
def f_X8_best (c : Rec) (s : Rec) (p : Rec) (t : Rec) (e : Rec) (o : Rec) (oh : Rec) (h : Rec) (k : Rec) (q : Rec) (s1 : Rec) (p1 : Rec) (s2 : Rec) (p2 : Rec) (t1 : Rec) (t2 : Rec) (n : Int32) : Int32 × Rec × Rec × Rec × Rec × Rec := if (f_X8_within n ((Int32.ofInt 0)) ((Int32.ofInt 3))) = 0 then (((f_X8_refuseBad c s p t e o oh h k q s1 p1 s2 p2 t1 t2 ((Int32.ofInt (-2)))).1), ((f_X8_refuseBad c s p t e o oh h k q s1 p1 s2 p2 t1 t2 ((Int32.ofInt (-2)))).2), s, p, oh, h) else (if n = (Int32.ofInt 0) then ((f_X0_firstSure_c0 oh h s p), c, s, p, oh, h) else (if n = (Int32.ofInt 1) then (((f_X0_firstSure_c1 oh h s p).1), c, ((f_X0_firstSure_c1 oh h s p).2.2.2.1), ((f_X0_firstSure_c1 oh h s p).2.2.2.2), ((f_X0_firstSure_c1 oh h s p).2.1), ((f_X0_firstSure_c1 oh h s p).2.2.1)) else (if n = (Int32.ofInt 2) then (((f_X0_firstSure_c2 oh h s p).1), c, ((f_X0_firstSure_c2 oh h s p).2.2.2.1), ((f_X0_firstSure_c2 oh h s p).2.2.2.2), ((f_X0_firstSure_c2 oh h s p).2.1), ((f_X0_firstSure_c2 oh h s p).2.2.1)) else (if n = (Int32.ofInt 3) then (((f_X0_firstSure_c3 oh h s p).1), c, ((f_X0_firstSure_c3 oh h s p).2.2.2.1), ((f_X0_firstSure_c3 oh h s p).2.2.2.2), ((f_X0_firstSure_c3 oh h s p).2.1), ((f_X0_firstSure_c3 oh h s p).2.2.1)) else (0, c, s, p, oh, h)))))
def p_X8_best (c : Rec) (s : Rec) (p : Rec) (t : Rec) (e : Rec) (o : Rec) (oh : Rec) (h : Rec) (k : Rec) (q : Rec) (s1 : Rec) (p1 : Rec) (s2 : Rec) (p2 : Rec) (t1 : Rec) (t2 : Rec) (n : Int32) : Prop := ((f_X8_within n ((Int32.ofInt 0)) ((Int32.ofInt 3))) = 0 → True) ∧ (¬ ((f_X8_within n ((Int32.ofInt 0)) ((Int32.ofInt 3))) = 0) → ((n = (Int32.ofInt 0) → True) ∧ (¬ (n = (Int32.ofInt 0)) → ((n = (Int32.ofInt 1) → ((p_X0_firstSure_c1 oh h s p) ∧ True)) ∧ (¬ (n = (Int32.ofInt 1)) → ((n = (Int32.ofInt 2) → ((p_X0_firstSure_c2 oh h s p) ∧ True)) ∧ (¬ (n = (Int32.ofInt 2)) → ((n = (Int32.ofInt 3) → ((p_X0_firstSure_c3 oh h s p) ∧ True)) ∧ (¬ (n = (Int32.ofInt 3)) → (False))))))))))
set_option maxHeartbeats 16000000 in
set_option maxRecDepth 20000 in
theorem s_X8_best (c : Rec) (s : Rec) (p : Rec) (t : Rec) (e : Rec) (o : Rec) (oh : Rec) (h : Rec) (k : Rec) (q : Rec) (s1 : Rec) (p1 : Rec) (s2 : Rec) (p2 : Rec) (t1 : Rec) (t2 : Rec) (n : Int32) (hp : p_X8_best c s p t e o oh h k q s1 p1 s2 p2 t1 t2 n) : Spec 11 0 0 mX8_best [.ref 0, .int n] (wB c s p t e o oh h k q s1 p1 s2 p2 t1 t2) (Ret (some (.int ((f_X8_best c s p t e o oh h k q s1 p1 s2 p2 t1 t2 n).1))) (wB ((f_X8_best c s p t e o oh h k q s1 p1 s2 p2 t1 t2 n).2.1) ((f_X8_best c s p t e o oh h k q s1 p1 s2 p2 t1 t2 n).2.2.1) ((f_X8_best c s p t e o oh h k q s1 p1 s2 p2 t1 t2 n).2.2.2.1) t e o ((f_X8_best c s p t e o oh h k q s1 p1 s2 p2 t1 t2 n).2.2.2.2.1) ((f_X8_best c s p t e o oh h k q s1 p1 s2 p2 t1 t2 n).2.2.2.2.2) k q s1 p1 s2 p2 t1 t2)) := by
  obtain ⟨zq, hq⟩ : ∃ z, z = (f_X8_best c s p t e o oh h k q s1 p1 s2 p2 t1 t2 n) := ⟨_, rfl⟩
  rw [← hq]
  unfold f_X8_best at hq
  unfold p_X8_best at hp
  refine Sof fun sc => ?_
  refine g_blk hz0 kX8_best_0 ?_
  refine cS0 (s_X8_within n ((Int32.ofInt 0)) ((Int32.ofInt 3))) rfl cwX8_within dX8_best_3 rfl ?_
  refine g_blk hz0 kX8_best_6 ?_
  refine ⟨fun c1 => ?_, fun c1 => ?_⟩
  · rw [if_neg (show ¬ ((f_X8_within n ((Int32.ofInt 0)) ((Int32.ofInt 3))) = 0) from c1)] at hq
    replace hp := hp.2 c1
    refine g_blk hz0 kX8_best_16 ?_
    by_cases e3 : n = (Int32.ofInt 0)
    · rw [if_pos e3] at hq
      subst e3
      refine cVp [31, 32, 33, 34, 35, 36, 37, 38, 39, 40, 41, 42, 43, 44, 45, 46, 1, 2, 3, 4, 5, 6, 7, 8, 9, 10, 11, 12] (wHP oh h s p) (s_X0_firstSure_c0 oh h s p) rfl cwX0_firstSure dX8_best_25 rfl rfl (hm73_B_HP _ _ _ _ _ _ _ _ _ _ _ _ _ _ _ _) ?_
      refine g_blk hz0 kX8_best_28 ?_
      subst hq
      exact ⟨fun h => (by cases h), rfl, rfl⟩
    · rw [if_neg e3] at hq
      replace hp := hp.2 e3
      by_cases e4 : n = (Int32.ofInt 1)
      · rw [if_pos e4] at hq
        replace hp := hp.1 e4
        subst e4
        refine cV [31, 32, 33, 34, 35, 36, 37, 38, 39, 40, 41, 42, 43, 44, 45, 46, 1, 2, 3, 4, 5, 6, 7, 8, 9, 10, 11, 12] (wHP oh h s p) (s_X0_firstSure_c1 oh h s p hp.1) rfl cwX0_firstSure dX8_best_25 rfl rfl (hm73_B_HP _ _ _ _ _ _ _ _ _ _ _ _ _ _ _ _) ((len_HP _ _ _ _).trans (len_HP _ _ _ _).symm) (wB c ((f_X0_firstSure_c1 oh h s p).2.2.2.1) ((f_X0_firstSure_c1 oh h s p).2.2.2.2) t e o ((f_X0_firstSure_c1 oh h s p).2.1) ((f_X0_firstSure_c1 oh h s p).2.2.1) k q s1 p1 s2 p2 t1 t2) (pw101_B_HP _ _ _ _ _ _ _ _ _ _ _ _ _ _ _ _ _ _ _ _) ?_
        replace hp := hp.2
        obtain ⟨g5, hg5⟩ : ∃ z, z = (f_X0_firstSure_c1 oh h s p) := ⟨_, rfl⟩
        try rw [← hg5] at hp
        try rw [← hg5] at hq
        rw [← hg5]
        refine g_blk hz0 kX8_best_28 ?_
        subst hq
        exact ⟨fun h => (by cases h), rfl, rfl⟩
      · rw [if_neg e4] at hq
        replace hp := hp.2 e4
        by_cases e6 : n = (Int32.ofInt 2)
        · rw [if_pos e6] at hq
          replace hp := hp.1 e6
          subst e6
          refine cV [31, 32, 33, 34, 35, 36, 37, 38, 39, 40, 41, 42, 43, 44, 45, 46, 1, 2, 3, 4, 5, 6, 7, 8, 9, 10, 11, 12] (wHP oh h s p) (s_X0_firstSure_c2 oh h s p hp.1) rfl cwX0_firstSure dX8_best_25 rfl rfl (hm73_B_HP _ _ _ _ _ _ _ _ _ _ _ _ _ _ _ _) ((len_HP _ _ _ _).trans (len_HP _ _ _ _).symm) (wB c ((f_X0_firstSure_c2 oh h s p).2.2.2.1) ((f_X0_firstSure_c2 oh h s p).2.2.2.2) t e o ((f_X0_firstSure_c2 oh h s p).2.1) ((f_X0_firstSure_c2 oh h s p).2.2.1) k q s1 p1 s2 p2 t1 t2) (pw101_B_HP _ _ _ _ _ _ _ _ _ _ _ _ _ _ _ _ _ _ _ _) ?_
          replace hp := hp.2
          obtain ⟨g7, hg7⟩ : ∃ z, z = (f_X0_firstSure_c2 oh h s p) := ⟨_, rfl⟩
          try rw [← hg7] at hp
          try rw [← hg7] at hq
          rw [← hg7]
          refine g_blk hz0 kX8_best_28 ?_
          subst hq
          exact ⟨fun h => (by cases h), rfl, rfl⟩
        · rw [if_neg e6] at hq
          replace hp := hp.2 e6
          by_cases e8 : n = (Int32.ofInt 3)
          · rw [if_pos e8] at hq
            replace hp := hp.1 e8
            subst e8
            refine cV [31, 32, 33, 34, 35, 36, 37, 38, 39, 40, 41, 42, 43, 44, 45, 46, 1, 2, 3, 4, 5, 6, 7, 8, 9, 10, 11, 12] (wHP oh h s p) (s_X0_firstSure_c3 oh h s p hp.1) rfl cwX0_firstSure dX8_best_25 rfl rfl (hm73_B_HP _ _ _ _ _ _ _ _ _ _ _ _ _ _ _ _) ((len_HP _ _ _ _).trans (len_HP _ _ _ _).symm) (wB c ((f_X0_firstSure_c3 oh h s p).2.2.2.1) ((f_X0_firstSure_c3 oh h s p).2.2.2.2) t e o ((f_X0_firstSure_c3 oh h s p).2.1) ((f_X0_firstSure_c3 oh h s p).2.2.1) k q s1 p1 s2 p2 t1 t2) (pw101_B_HP _ _ _ _ _ _ _ _ _ _ _ _ _ _ _ _ _ _ _ _) ?_
            replace hp := hp.2
            obtain ⟨g9, hg9⟩ : ∃ z, z = (f_X0_firstSure_c3 oh h s p) := ⟨_, rfl⟩
            try rw [← hg9] at hp
            try rw [← hg9] at hq
            rw [← hg9]
            refine g_blk hz0 kX8_best_28 ?_
            subst hq
            exact ⟨fun h => (by cases h), rfl, rfl⟩
          · rw [if_neg e8] at hq
            replace hp := hp.2 e8
            exact hp.elim
  · rw [if_pos (show (f_X8_within n ((Int32.ofInt 0)) ((Int32.ofInt 3))) = 0 from c1)] at hq
    refine g_blk hz0 kX8_best_9 ?_
    refine cV [0, 1, 2, 3, 4, 5, 6, 7, 8, 9, 10, 11, 12, 13, 14, 15, 16, 17, 18, 19, 20, 21, 22, 23, 24, 25, 26, 27, 28, 29, 30, 31, 32, 33, 34, 35, 36, 37, 38, 39, 40, 41, 42, 43, 44, 45, 46, 47, 48, 49, 50, 51, 52, 53, 54, 55, 56, 57, 58, 59, 60, 61, 62, 63, 64, 65, 66, 67, 68, 69, 70, 71, 72, 73, 74, 75, 76, 77, 78, 79, 80, 81, 82, 83, 84, 85, 86, 87, 88, 89, 90, 91, 92, 93, 94, 95, 96, 97, 98, 99, 100, 101, 102, 103, 104, 105, 106, 107, 108, 109, 110, 111] (wB c s p t e o oh h k q s1 p1 s2 p2 t1 t2) (s_X8_refuseBad c s p t e o oh h k q s1 p1 s2 p2 t1 t2 ((Int32.ofInt (-2)))) rfl cwX8_refuseBad dX8_best_12 rfl rfl (hm63_B_B _ _ _ _ _ _ _ _ _ _ _ _ _ _ _ _) ((len_B _ _ _ _ _ _ _ _ _ _ _ _ _ _ _ _).trans (len_B _ _ _ _ _ _ _ _ _ _ _ _ _ _ _ _).symm) (wB ((f_X8_refuseBad c s p t e o oh h k q s1 p1 s2 p2 t1 t2 ((Int32.ofInt (-2)))).2) s p t e o oh h k q s1 p1 s2 p2 t1 t2) (pw85_B_B _ _ _ _ _ _ _ _ _ _ _ _ _ _ _ _ _) ?_
    obtain ⟨g2, hg2⟩ : ∃ z, z = (f_X8_refuseBad c s p t e o oh h k q s1 p1 s2 p2 t1 t2 ((Int32.ofInt (-2)))) := ⟨_, rfl⟩
    try rw [← hg2] at hp
    try rw [← hg2] at hq
    rw [← hg2]
    refine g_blk hz0 kX8_best_15 ?_
    subst hq
    exact ⟨fun h => (by cases h), rfl, rfl⟩

def f_X8_fault (c : Rec) (s : Rec) (p : Rec) (t : Rec) (e : Rec) (o : Rec) (oh : Rec) (h : Rec) (k : Rec) (q : Rec) (s1 : Rec) (p1 : Rec) (s2 : Rec) (p2 : Rec) (t1 : Rec) (t2 : Rec)  : Int32 × Rec := (((f_X6_faultPlace e).1), ((f_X6_faultPlace e).2))
def p_X8_fault (c : Rec) (s : Rec) (p : Rec) (t : Rec) (e : Rec) (o : Rec) (oh : Rec) (h : Rec) (k : Rec) (q : Rec) (s1 : Rec) (p1 : Rec) (s2 : Rec) (p2 : Rec) (t1 : Rec) (t2 : Rec)  : Prop := (p_X6_faultPlace e) ∧ True
set_option maxHeartbeats 16000000 in
set_option maxRecDepth 20000 in
theorem s_X8_fault (c : Rec) (s : Rec) (p : Rec) (t : Rec) (e : Rec) (o : Rec) (oh : Rec) (h : Rec) (k : Rec) (q : Rec) (s1 : Rec) (p1 : Rec) (s2 : Rec) (p2 : Rec) (t1 : Rec) (t2 : Rec)  (hp : p_X8_fault c s p t e o oh h k q s1 p1 s2 p2 t1 t2) : Spec 11 0 0 mX8_fault [.ref 0] (wB c s p t e o oh h k q s1 p1 s2 p2 t1 t2) (Ret (some (.int ((f_X8_fault c s p t e o oh h k q s1 p1 s2 p2 t1 t2).1))) (wB c s p t ((f_X8_fault c s p t e o oh h k q s1 p1 s2 p2 t1 t2).2) o oh h k q s1 p1 s2 p2 t1 t2)) := by
  obtain ⟨zq, hq⟩ : ∃ z, z = (f_X8_fault c s p t e o oh h k q s1 p1 s2 p2 t1 t2) := ⟨_, rfl⟩
  rw [← hq]
  unfold f_X8_fault at hq
  unfold p_X8_fault at hp
  refine Sof fun sc => ?_
  refine g_blk hz0 kX8_fault_0 ?_
  refine cV [23, 24, 25] (wE e) (s_X6_faultPlace e hp.1) rfl cwX6_faultPlace dX8_fault_4 rfl rfl (hm71_B_E _ _ _ _ _ _ _ _ _ _ _ _ _ _ _ _) ((len_E _).trans (len_E _).symm) (wB c s p t ((f_X6_faultPlace e).2) o oh h k q s1 p1 s2 p2 t1 t2) (pw98_B_E _ _ _ _ _ _ _ _ _ _ _ _ _ _ _ _ _) ?_
  replace hp := hp.2
  obtain ⟨g1, hg1⟩ : ∃ z, z = (f_X6_faultPlace e) := ⟨_, rfl⟩
  try rw [← hg1] at hp
  try rw [← hg1] at hq
  rw [← hg1]
  refine g_blk hz0 kX8_fault_7 ?_
  subst hq
  exact ⟨fun h => (by cases h), rfl, rfl⟩

def f_X8_playItem_96  (c : Rec) (s : Rec) (p : Rec) (t : Rec) (e : Rec) (o : Rec) (oh : Rec) (h : Rec) (k : Rec) (q : Rec) (s1 : Rec) (p1 : Rec) (s2 : Rec) (p2 : Rec) (t1 : Rec) (t2 : Rec) (u0 : Int32) : Int32 × Rec × Rec := if u0 = 0 then ((Int32.ofInt 0), s, p) else (if (p.1 7) = 0 then ((Int32.ofInt 0), s, p) else (if (f_X4_mayCrease s ((e.2 1) (Int32.toNatClampNeg (Int32.ofInt 0))) ((e.2 1) (Int32.toNatClampNeg (Int32.ofInt 1)))) = 0 then ((Int32.ofInt 0), s, p) else ((Int32.ofInt 1), ((f_X3_creaseDue s p ((e.2 1) (Int32.toNatClampNeg (Int32.ofInt 0))) ((e.2 1) (Int32.toNatClampNeg (Int32.ofInt 1))) ((e.2 1) (Int32.toNatClampNeg (Int32.ofInt 2)))).1), ((f_X3_creaseDue s p ((e.2 1) (Int32.toNatClampNeg (Int32.ofInt 0))) ((e.2 1) (Int32.toNatClampNeg (Int32.ofInt 1))) ((e.2 1) (Int32.toNatClampNeg (Int32.ofInt 2)))).2))))
def p_X8_playItem_96  (c : Rec) (s : Rec) (p : Rec) (t : Rec) (e : Rec) (o : Rec) (oh : Rec) (h : Rec) (k : Rec) (q : Rec) (s1 : Rec) (p1 : Rec) (s2 : Rec) (p2 : Rec) (t1 : Rec) (t2 : Rec) (u0 : Int32) : Prop := (u0 = 0 → True) ∧ (¬ (u0 = 0) → (((p.1 7) = 0 → True) ∧ (¬ ((p.1 7) = 0) → (((f_X4_mayCrease s ((e.2 1) (Int32.toNatClampNeg (Int32.ofInt 0))) ((e.2 1) (Int32.toNatClampNeg (Int32.ofInt 1)))) = 0 → True) ∧ (¬ ((f_X4_mayCrease s ((e.2 1) (Int32.toNatClampNeg (Int32.ofInt 0))) ((e.2 1) (Int32.toNatClampNeg (Int32.ofInt 1)))) = 0) → ((p_X3_creaseDue s p ((e.2 1) (Int32.toNatClampNeg (Int32.ofInt 0))) ((e.2 1) (Int32.toNatClampNeg (Int32.ofInt 1))) ((e.2 1) (Int32.toNatClampNeg (Int32.ofInt 2)))) ∧ True))))))
set_option maxHeartbeats 16000000 in
set_option maxRecDepth 20000 in
theorem l_X8_playItem_96 (sc : SC) (c : Rec) (t : Rec) (e : Rec) (o : Rec) (oh : Rec) (h : Rec) (k : Rec) (q : Rec) (s1 : Rec) (p1 : Rec) (s2 : Rec) (p2 : Rec) (t1 : Rec) (t2 : Rec)  (zq : Int32 × Rec × Rec)  (s : Rec) (p : Rec) (u0 : Int32) (hp : p_X8_playItem_96 c s p t e o oh h k q s1 p1 s2 p2 t1 t2 u0) (hq : zq = f_X8_playItem_96 c s p t e o oh h k q s1 p1 s2 p2 t1 t2 u0) : Good sc 4 0 0 112 mX8_playItem (Ret (some (.int (zq.1))) (wB c (zq.2.1) (zq.2.2) t e o oh h k q s1 p1 s2 p2 t1 t2)) 0 0 96 [some (.ref 0), some (.ref 25), none] [.int u0] (wB c s p t e o oh h k q s1 p1 s2 p2 t1 t2) := by
  unfold p_X8_playItem_96 at hp
  unfold f_X8_playItem_96 at hq
  refine g_blk hz0 kX8_playItem_96 ?_
  refine ⟨fun c6 => ?_, fun c6 => ?_⟩
  · rw [if_pos (show u0 = 0 from c6)] at hq
    refine g_blk hz0 kX8_playItem_130 ?_
    subst hq
    exact ⟨fun _ => Or.inl rfl, rfl, rfl⟩
  · rw [if_neg (show ¬ (u0 = 0) from c6)] at hq
    replace hp := hp.2 c6
    refine g_blk hz0 kX8_playItem_101 ?_
    refine ⟨fun c7 => ?_, fun c7 => ?_⟩
    · rw [if_pos (show (p.1 7) = 0 from c7)] at hq
      refine g_blk hz0 kX8_playItem_130 ?_
      subst hq
      exact ⟨fun _ => Or.inl rfl, rfl, rfl⟩
    · rw [if_neg (show ¬ ((p.1 7) = 0) from c7)] at hq
      replace hp := hp.2 c7
      refine g_blk hz0 kX8_playItem_111 ?_
      refine ⟨vinL (by decide), ?_⟩
      refine ⟨vinL (by decide), ?_⟩
      refine cVp [2, 3, 4, 5, 6, 7, 8] (wS s) (s_X4_mayCrease s ((e.2 1) (Int32.toNatClampNeg (Int32.ofInt 0))) ((e.2 1) (Int32.toNatClampNeg (Int32.ofInt 1)))) rfl cwX4_mayCrease dX8_playItem_124 rfl rfl (hm67_B_S _ _ _ _ _ _ _ _ _ _ _ _ _ _ _ _) ?_
      refine g_blk hz0 kX8_playItem_127 ?_
      refine ⟨fun c8 => ?_, fun c8 => ?_⟩
      · rw [if_neg (show ¬ ((f_X4_mayCrease s ((e.2 1) (Int32.toNatClampNeg (Int32.ofInt 0))) ((e.2 1) (Int32.toNatClampNeg (Int32.ofInt 1)))) = 0) from c8)] at hq
        replace hp := hp.2 c8
        refine g_blk hz0 kX8_playItem_132 ?_
        refine ⟨vinL (by decide), ?_⟩
        refine ⟨vinL (by decide), ?_⟩
        refine ⟨vinL (by decide), ?_⟩
        refine cV [1, 2, 3, 4, 5, 6, 7, 8, 9, 10, 11, 12] (wP s p) (s_X3_creaseDue s p ((e.2 1) (Int32.toNatClampNeg (Int32.ofInt 0))) ((e.2 1) (Int32.toNatClampNeg (Int32.ofInt 1))) ((e.2 1) (Int32.toNatClampNeg (Int32.ofInt 2))) hp.1) rfl cwX3_creaseDue dX8_playItem_145 rfl rfl (hm64_B_P _ _ _ _ _ _ _ _ _ _ _ _ _ _ _ _) ((len_P _ _).trans (len_P _ _).symm) (wB c ((f_X3_creaseDue s p ((e.2 1) (Int32.toNatClampNeg (Int32.ofInt 0))) ((e.2 1) (Int32.toNatClampNeg (Int32.ofInt 1))) ((e.2 1) (Int32.toNatClampNeg (Int32.ofInt 2)))).1) ((f_X3_creaseDue s p ((e.2 1) (Int32.toNatClampNeg (Int32.ofInt 0))) ((e.2 1) (Int32.toNatClampNeg (Int32.ofInt 1))) ((e.2 1) (Int32.toNatClampNeg (Int32.ofInt 2)))).2) t e o oh h k q s1 p1 s2 p2 t1 t2) (pw86_B_P _ _ _ _ _ _ _ _ _ _ _ _ _ _ _ _ _ _) ?_
        replace hp := hp.2
        obtain ⟨g9, hg9⟩ : ∃ z, z = (f_X3_creaseDue s p ((e.2 1) (Int32.toNatClampNeg (Int32.ofInt 0))) ((e.2 1) (Int32.toNatClampNeg (Int32.ofInt 1))) ((e.2 1) (Int32.toNatClampNeg (Int32.ofInt 2)))) := ⟨_, rfl⟩
        try rw [← hg9] at hp
        try rw [← hg9] at hq
        rw [← hg9]
        refine g_blk hz0 kX8_playItem_148 ?_
        subst hq
        exact ⟨fun _ => Or.inr rfl, rfl, rfl⟩
      · rw [if_pos (show (f_X4_mayCrease s ((e.2 1) (Int32.toNatClampNeg (Int32.ofInt 0))) ((e.2 1) (Int32.toNatClampNeg (Int32.ofInt 1)))) = 0 from c8)] at hq
        refine g_blk hz0 kX8_playItem_130 ?_
        subst hq
        exact ⟨fun _ => Or.inl rfl, rfl, rfl⟩
def f_X8_playItem (c : Rec) (s : Rec) (p : Rec) (t : Rec) (e : Rec) (o : Rec) (oh : Rec) (h : Rec) (k : Rec) (q : Rec) (s1 : Rec) (p1 : Rec) (s2 : Rec) (p2 : Rec) (t1 : Rec) (t2 : Rec)  : Int32 × Rec × Rec := if (e.1 3) = 0 then (if (f_X8_within ((e.2 1) (Int32.toNatClampNeg (Int32.ofInt 0))) ((Int32.ofInt 0)) ((Int32.ofInt 1))) = 0 then (f_X8_playItem_96 c s p t e o oh h k q s1 p1 s2 p2 t1 t2 ((Int32.ofInt 0))) else (if (f_X8_within ((e.2 1) (Int32.toNatClampNeg (Int32.ofInt 2))) ((Int32.ofInt 0)) ((Int32.ofInt 1))) = 0 then (f_X8_playItem_96 c s p t e o oh h k q s1 p1 s2 p2 t1 t2 ((Int32.ofInt 0))) else (f_X8_playItem_96 c s p t e o oh h k q s1 p1 s2 p2 t1 t2 ((Int32.ofInt 1))))) else (if (f_X3_goalOf s p ((e.2 1) (Int32.toNatClampNeg (Int32.ofInt 0))) ((e.2 1) (Int32.toNatClampNeg (Int32.ofInt 1))) ((e.2 1) (Int32.toNatClampNeg (Int32.ofInt 2))) ((e.2 1) (Int32.toNatClampNeg (Int32.ofInt 3)))) = (Int32.ofInt (-1)) then ((Int32.ofInt 0), s, p) else ((Int32.ofInt 1), ((f_X3_carry s p (f_X3_rulerAt s p ((e.2 1) (Int32.toNatClampNeg (Int32.ofInt 0))) ((e.2 1) (Int32.toNatClampNeg (Int32.ofInt 1)))) (f_X3_goalOf s p ((e.2 1) (Int32.toNatClampNeg (Int32.ofInt 0))) ((e.2 1) (Int32.toNatClampNeg (Int32.ofInt 1))) ((e.2 1) (Int32.toNatClampNeg (Int32.ofInt 2))) ((e.2 1) (Int32.toNatClampNeg (Int32.ofInt 3))))).2.1), ((f_X3_carry s p (f_X3_rulerAt s p ((e.2 1) (Int32.toNatClampNeg (Int32.ofInt 0))) ((e.2 1) (Int32.toNatClampNeg (Int32.ofInt 1)))) (f_X3_goalOf s p ((e.2 1) (Int32.toNatClampNeg (Int32.ofInt 0))) ((e.2 1) (Int32.toNatClampNeg (Int32.ofInt 1))) ((e.2 1) (Int32.toNatClampNeg (Int32.ofInt 2))) ((e.2 1) (Int32.toNatClampNeg (Int32.ofInt 3))))).2.2)))
def p_X8_playItem (c : Rec) (s : Rec) (p : Rec) (t : Rec) (e : Rec) (o : Rec) (oh : Rec) (h : Rec) (k : Rec) (q : Rec) (s1 : Rec) (p1 : Rec) (s2 : Rec) (p2 : Rec) (t1 : Rec) (t2 : Rec)  : Prop := ((e.1 3) = 0 → (((f_X8_within ((e.2 1) (Int32.toNatClampNeg (Int32.ofInt 0))) ((Int32.ofInt 0)) ((Int32.ofInt 1))) = 0 → (p_X8_playItem_96 c s p t e o oh h k q s1 p1 s2 p2 t1 t2 ((Int32.ofInt 0)))) ∧ (¬ ((f_X8_within ((e.2 1) (Int32.toNatClampNeg (Int32.ofInt 0))) ((Int32.ofInt 0)) ((Int32.ofInt 1))) = 0) → (((f_X8_within ((e.2 1) (Int32.toNatClampNeg (Int32.ofInt 2))) ((Int32.ofInt 0)) ((Int32.ofInt 1))) = 0 → (p_X8_playItem_96 c s p t e o oh h k q s1 p1 s2 p2 t1 t2 ((Int32.ofInt 0)))) ∧ (¬ ((f_X8_within ((e.2 1) (Int32.toNatClampNeg (Int32.ofInt 2))) ((Int32.ofInt 0)) ((Int32.ofInt 1))) = 0) → (p_X8_playItem_96 c s p t e o oh h k q s1 p1 s2 p2 t1 t2 ((Int32.ofInt 1)))))))) ∧ (¬ ((e.1 3) = 0) → ((p_X3_goalOf s p ((e.2 1) (Int32.toNatClampNeg (Int32.ofInt 0))) ((e.2 1) (Int32.toNatClampNeg (Int32.ofInt 1))) ((e.2 1) (Int32.toNatClampNeg (Int32.ofInt 2))) ((e.2 1) (Int32.toNatClampNeg (Int32.ofInt 3)))) ∧ (((f_X3_goalOf s p ((e.2 1) (Int32.toNatClampNeg (Int32.ofInt 0))) ((e.2 1) (Int32.toNatClampNeg (Int32.ofInt 1))) ((e.2 1) (Int32.toNatClampNeg (Int32.ofInt 2))) ((e.2 1) (Int32.toNatClampNeg (Int32.ofInt 3)))) = (Int32.ofInt (-1)) → True) ∧ (¬ ((f_X3_goalOf s p ((e.2 1) (Int32.toNatClampNeg (Int32.ofInt 0))) ((e.2 1) (Int32.toNatClampNeg (Int32.ofInt 1))) ((e.2 1) (Int32.toNatClampNeg (Int32.ofInt 2))) ((e.2 1) (Int32.toNatClampNeg (Int32.ofInt 3)))) = (Int32.ofInt (-1))) → ((p_X3_rulerAt s p ((e.2 1) (Int32.toNatClampNeg (Int32.ofInt 0))) ((e.2 1) (Int32.toNatClampNeg (Int32.ofInt 1)))) ∧ ((p_X3_carry s p (f_X3_rulerAt s p ((e.2 1) (Int32.toNatClampNeg (Int32.ofInt 0))) ((e.2 1) (Int32.toNatClampNeg (Int32.ofInt 1)))) (f_X3_goalOf s p ((e.2 1) (Int32.toNatClampNeg (Int32.ofInt 0))) ((e.2 1) (Int32.toNatClampNeg (Int32.ofInt 1))) ((e.2 1) (Int32.toNatClampNeg (Int32.ofInt 2))) ((e.2 1) (Int32.toNatClampNeg (Int32.ofInt 3))))) ∧ True))))))
set_option maxHeartbeats 16000000 in
set_option maxRecDepth 20000 in
theorem s_X8_playItem (c : Rec) (s : Rec) (p : Rec) (t : Rec) (e : Rec) (o : Rec) (oh : Rec) (h : Rec) (k : Rec) (q : Rec) (s1 : Rec) (p1 : Rec) (s2 : Rec) (p2 : Rec) (t1 : Rec) (t2 : Rec)  (hp : p_X8_playItem c s p t e o oh h k q s1 p1 s2 p2 t1 t2) : Spec 4 0 0 mX8_playItem [.ref 0] (wB c s p t e o oh h k q s1 p1 s2 p2 t1 t2) (Ret (some (.int ((f_X8_playItem c s p t e o oh h k q s1 p1 s2 p2 t1 t2).1))) (wB c ((f_X8_playItem c s p t e o oh h k q s1 p1 s2 p2 t1 t2).2.1) ((f_X8_playItem c s p t e o oh h k q s1 p1 s2 p2 t1 t2).2.2) t e o oh h k q s1 p1 s2 p2 t1 t2)) := by
  obtain ⟨zq, hq⟩ : ∃ z, z = (f_X8_playItem c s p t e o oh h k q s1 p1 s2 p2 t1 t2) := ⟨_, rfl⟩
  rw [← hq]
  unfold f_X8_playItem at hq
  unfold p_X8_playItem at hp
  refine Sof fun sc => ?_
  refine g_blk hz0 kX8_playItem_0 ?_
  refine ⟨fun c1 => ?_, fun c1 => ?_⟩
  · rw [if_pos (show (e.1 3) = 0 from c1)] at hq
    replace hp := hp.1 c1
    refine g_blk hz0 kX8_playItem_69 ?_
    refine ⟨vinL (by decide), ?_⟩
    refine cS0 (s_X8_within ((e.2 1) (Int32.toNatClampNeg (Int32.ofInt 0))) ((Int32.ofInt 0)) ((Int32.ofInt 1))) rfl cwX8_within dX8_playItem_74 rfl ?_
    refine g_blk hz0 kX8_playItem_77 ?_
    refine ⟨fun c2 => ?_, fun c2 => ?_⟩
    · rw [if_pos (show (f_X8_within ((e.2 1) (Int32.toNatClampNeg (Int32.ofInt 0))) ((Int32.ofInt 0)) ((Int32.ofInt 1))) = 0 from c2)] at hq
      replace hp := hp.1 c2
      refine g_blk hz0 kX8_playItem_95 ?_
      refine g_le (L2 := [some (.ref 0), some (.ref 25), none]) ⟨rfl, rfl, trivial⟩ ?_
      exact l_X8_playItem_96 sc c t e o oh h k q s1 p1 s2 p2 t1 t2 zq s p ((Int32.ofInt 0)) hp hq
    · rw [if_neg (show ¬ ((f_X8_within ((e.2 1) (Int32.toNatClampNeg (Int32.ofInt 0))) ((Int32.ofInt 0)) ((Int32.ofInt 1))) = 0) from c2)] at hq
      replace hp := hp.2 c2
      refine g_blk hz0 kX8_playItem_80 ?_
      refine ⟨vinL (by decide), ?_⟩
      refine cS0 (s_X8_within ((e.2 1) (Int32.toNatClampNeg (Int32.ofInt 2))) ((Int32.ofInt 0)) ((Int32.ofInt 1))) rfl cwX8_within dX8_playItem_85 rfl ?_
      refine g_blk hz0 kX8_playItem_88 ?_
      refine ⟨fun c3 => ?_, fun c3 => ?_⟩
      · rw [if_pos (show (f_X8_within ((e.2 1) (Int32.toNatClampNeg (Int32.ofInt 2))) ((Int32.ofInt 0)) ((Int32.ofInt 1))) = 0 from c3)] at hq
        replace hp := hp.1 c3
        refine g_blk hz0 kX8_playItem_95 ?_
        refine g_le (L2 := [some (.ref 0), some (.ref 25), none]) ⟨rfl, rfl, trivial⟩ ?_
        exact l_X8_playItem_96 sc c t e o oh h k q s1 p1 s2 p2 t1 t2 zq s p ((Int32.ofInt 0)) hp hq
      · rw [if_neg (show ¬ ((f_X8_within ((e.2 1) (Int32.toNatClampNeg (Int32.ofInt 2))) ((Int32.ofInt 0)) ((Int32.ofInt 1))) = 0) from c3)] at hq
        replace hp := hp.2 c3
        refine g_blk hz0 kX8_playItem_91 ?_
        refine g_le (L2 := [some (.ref 0), some (.ref 25), none]) ⟨rfl, rfl, trivial⟩ ?_
        exact l_X8_playItem_96 sc c t e o oh h k q s1 p1 s2 p2 t1 t2 zq s p ((Int32.ofInt 1)) hp hq
  · rw [if_neg (show ¬ ((e.1 3) = 0) from c1)] at hq
    replace hp := hp.2 c1
    refine g_blk hz0 kX8_playItem_18 ?_
    refine ⟨vinL (by decide), ?_⟩
    refine ⟨vinL (by decide), ?_⟩
    refine ⟨vinL (by decide), ?_⟩
    refine ⟨vinL (by decide), ?_⟩
    refine cVp [1, 2, 3, 4, 5, 6, 7, 8, 9, 10, 11, 12] (wP s p) (s_X3_goalOf s p ((e.2 1) (Int32.toNatClampNeg (Int32.ofInt 0))) ((e.2 1) (Int32.toNatClampNeg (Int32.ofInt 1))) ((e.2 1) (Int32.toNatClampNeg (Int32.ofInt 2))) ((e.2 1) (Int32.toNatClampNeg (Int32.ofInt 3))) hp.1) rfl cwX3_goalOf dX8_playItem_34 rfl rfl (hm64_B_P _ _ _ _ _ _ _ _ _ _ _ _ _ _ _ _) ?_
    replace hp := hp.2
    refine g_blk hz0 kX8_playItem_37 ?_
    refine ⟨fun c4 => ?_, fun c4 => ?_⟩
    · rw [if_neg (show ¬ ((f_X3_goalOf s p ((e.2 1) (Int32.toNatClampNeg (Int32.ofInt 0))) ((e.2 1) (Int32.toNatClampNeg (Int32.ofInt 1))) ((e.2 1) (Int32.toNatClampNeg (Int32.ofInt 2))) ((e.2 1) (Int32.toNatClampNeg (Int32.ofInt 3)))) = (Int32.ofInt (-1))) from c4)] at hq
      replace hp := hp.2 c4
      refine g_blk hz0 kX8_playItem_45 ?_
      refine ⟨vinL (by decide), ?_⟩
      refine ⟨vinL (by decide), ?_⟩
      refine cVp [1, 2, 3, 4, 5, 6, 7, 8, 9, 10, 11, 12] (wP s p) (s_X3_rulerAt s p ((e.2 1) (Int32.toNatClampNeg (Int32.ofInt 0))) ((e.2 1) (Int32.toNatClampNeg (Int32.ofInt 1))) hp.1) rfl cwX3_rulerAt dX8_playItem_59 rfl rfl (hm64_B_P _ _ _ _ _ _ _ _ _ _ _ _ _ _ _ _) ?_
      replace hp := hp.2
      refine g_blk hz0 kX8_playItem_62 ?_
      refine cV [1, 2, 3, 4, 5, 6, 7, 8, 9, 10, 11, 12] (wP s p) (s_X3_carry s p (f_X3_rulerAt s p ((e.2 1) (Int32.toNatClampNeg (Int32.ofInt 0))) ((e.2 1) (Int32.toNatClampNeg (Int32.ofInt 1)))) (f_X3_goalOf s p ((e.2 1) (Int32.toNatClampNeg (Int32.ofInt 0))) ((e.2 1) (Int32.toNatClampNeg (Int32.ofInt 1))) ((e.2 1) (Int32.toNatClampNeg (Int32.ofInt 2))) ((e.2 1) (Int32.toNatClampNeg (Int32.ofInt 3)))) hp.1) rfl cwX3_carry dX8_playItem_63 rfl rfl (hm64_B_P _ _ _ _ _ _ _ _ _ _ _ _ _ _ _ _) ((len_P _ _).trans (len_P _ _).symm) (wB c ((f_X3_carry s p (f_X3_rulerAt s p ((e.2 1) (Int32.toNatClampNeg (Int32.ofInt 0))) ((e.2 1) (Int32.toNatClampNeg (Int32.ofInt 1)))) (f_X3_goalOf s p ((e.2 1) (Int32.toNatClampNeg (Int32.ofInt 0))) ((e.2 1) (Int32.toNatClampNeg (Int32.ofInt 1))) ((e.2 1) (Int32.toNatClampNeg (Int32.ofInt 2))) ((e.2 1) (Int32.toNatClampNeg (Int32.ofInt 3))))).2.1) ((f_X3_carry s p (f_X3_rulerAt s p ((e.2 1) (Int32.toNatClampNeg (Int32.ofInt 0))) ((e.2 1) (Int32.toNatClampNeg (Int32.ofInt 1)))) (f_X3_goalOf s p ((e.2 1) (Int32.toNatClampNeg (Int32.ofInt 0))) ((e.2 1) (Int32.toNatClampNeg (Int32.ofInt 1))) ((e.2 1) (Int32.toNatClampNeg (Int32.ofInt 2))) ((e.2 1) (Int32.toNatClampNeg (Int32.ofInt 3))))).2.2) t e o oh h k q s1 p1 s2 p2 t1 t2) (pw86_B_P _ _ _ _ _ _ _ _ _ _ _ _ _ _ _ _ _ _) ?_
      replace hp := hp.2
      obtain ⟨g5, hg5⟩ : ∃ z, z = (f_X3_carry s p (f_X3_rulerAt s p ((e.2 1) (Int32.toNatClampNeg (Int32.ofInt 0))) ((e.2 1) (Int32.toNatClampNeg (Int32.ofInt 1)))) (f_X3_goalOf s p ((e.2 1) (Int32.toNatClampNeg (Int32.ofInt 0))) ((e.2 1) (Int32.toNatClampNeg (Int32.ofInt 1))) ((e.2 1) (Int32.toNatClampNeg (Int32.ofInt 2))) ((e.2 1) (Int32.toNatClampNeg (Int32.ofInt 3))))) := ⟨_, rfl⟩
      try rw [← hg5] at hp
      try rw [← hg5] at hq
      rw [← hg5]
      refine g_blk hz0 kX8_playItem_66 ?_
      subst hq
      exact ⟨fun _ => Or.inr rfl, rfl, rfl⟩
    · rw [if_pos (show (f_X3_goalOf s p ((e.2 1) (Int32.toNatClampNeg (Int32.ofInt 0))) ((e.2 1) (Int32.toNatClampNeg (Int32.ofInt 1))) ((e.2 1) (Int32.toNatClampNeg (Int32.ofInt 2))) ((e.2 1) (Int32.toNatClampNeg (Int32.ofInt 3)))) = (Int32.ofInt (-1)) from c4)] at hq
      refine g_blk hz0 kX8_playItem_43 ?_
      subst hq
      exact ⟨fun _ => Or.inl rfl, rfl, rfl⟩

set_option maxHeartbeats 16000000 in
theorem pw103_B_B (c : Rec) (s : Rec) (p : Rec) (t : Rec) (e : Rec) (o : Rec) (oh : Rec) (h : Rec) (k : Rec) (q : Rec) (s1 : Rec) (p1 : Rec) (s2 : Rec) (p2 : Rec) (t1 : Rec) (t2 : Rec) (s9 : Rec) (p9 : Rec) : putW (wB c s p t e o oh h k q s1 p1 s2 p2 t1 t2) [0, 1, 2, 3, 4, 5, 6, 7, 8, 9, 10, 11, 12, 13, 14, 15, 16, 17, 18, 19, 20, 21, 22, 23, 24, 25, 26, 27, 28, 29, 30, 31, 32, 33, 34, 35, 36, 37, 38, 39, 40, 41, 42, 43, 44, 45, 46, 47, 48, 49, 50, 51, 52, 53, 54, 55, 56, 57, 58, 59, 60, 61, 62, 63, 64, 65, 66, 67, 68, 69, 70, 71, 72, 73, 74, 75, 76, 77, 78, 79, 80, 81, 82, 83, 84, 85, 86, 87, 88, 89, 90, 91, 92, 93, 94, 95, 96, 97, 98, 99, 100, 101, 102, 103, 104, 105, 106, 107, 108, 109, 110, 111] ((wB c s9 p9 t e o oh h k q s1 p1 s2 p2 t1 t2).map (ren [0, 1, 2, 3, 4, 5, 6, 7, 8, 9, 10, 11, 12, 13, 14, 15, 16, 17, 18, 19, 20, 21, 22, 23, 24, 25, 26, 27, 28, 29, 30, 31, 32, 33, 34, 35, 36, 37, 38, 39, 40, 41, 42, 43, 44, 45, 46, 47, 48, 49, 50, 51, 52, 53, 54, 55, 56, 57, 58, 59, 60, 61, 62, 63, 64, 65, 66, 67, 68, 69, 70, 71, 72, 73, 74, 75, 76, 77, 78, 79, 80, 81, 82, 83, 84, 85, 86, 87, 88, 89, 90, 91, 92, 93, 94, 95, 96, 97, 98, 99, 100, 101, 102, 103, 104, 105, 106, 107, 108, 109, 110, 111])) = (wB c s9 p9 t e o oh h k q s1 p1 s2 p2 t1 t2) := rfl
def f_X8_firstWrongItem_9  : Nat → Rec → Rec → Rec → Rec → Rec → Rec → Rec → Rec → Rec → Rec → Rec → Rec → Rec → Rec → Rec → Rec → Int32 → Int32 × Rec × Rec × Rec
  | 0, c, s, p, t, e, o, oh, h, k, q, s1, p1, s2, p2, t1, t2, v1 => (0, s, p, e)
  | n + 1, c, s, p, t, e, o, oh, h, k, q, s1, p1, s2, p2, t1, t2, v1 => if (Int32.ofInt 200) ≤ v1 then ((Int32.ofInt (-1)), s, p, e) else (if ((f_X6_readItem e).1) = 0 then (if ((f_X8_playItem c s p t ((f_X6_readItem e).2) o oh h k q s1 p1 s2 p2 t1 t2).1) = 0 then (v1, ((f_X8_playItem c s p t ((f_X6_readItem e).2) o oh h k q s1 p1 s2 p2 t1 t2).2.1), ((f_X8_playItem c s p t ((f_X6_readItem e).2) o oh h k q s1 p1 s2 p2 t1 t2).2.2), ((f_X6_readItem e).2)) else (f_X8_firstWrongItem_9 n c ((f_X8_playItem c s p t ((f_X6_readItem e).2) o oh h k q s1 p1 s2 p2 t1 t2).2.1) ((f_X8_playItem c s p t ((f_X6_readItem e).2) o oh h k q s1 p1 s2 p2 t1 t2).2.2) t ((f_X6_readItem e).2) o oh h k q s1 p1 s2 p2 t1 t2 (v1 + (Int32.ofInt 1)))) else ((Int32.ofInt (-1)), s, p, ((f_X6_readItem e).2)))
def p_X8_firstWrongItem_9  : Nat → Rec → Rec → Rec → Rec → Rec → Rec → Rec → Rec → Rec → Rec → Rec → Rec → Rec → Rec → Rec → Rec → Int32 → Prop
  | 0, _, _, _, _, _, _, _, _, _, _, _, _, _, _, _, _, _ => False
  | n + 1, c, s, p, t, e, o, oh, h, k, q, s1, p1, s2, p2, t1, t2, v1 => ((Int32.ofInt 200) ≤ v1 → True) ∧ (¬ ((Int32.ofInt 200) ≤ v1) → ((p_X6_readItem e) ∧ ((((f_X6_readItem e).1) = 0 → ((p_X8_playItem c s p t ((f_X6_readItem e).2) o oh h k q s1 p1 s2 p2 t1 t2) ∧ ((((f_X8_playItem c s p t ((f_X6_readItem e).2) o oh h k q s1 p1 s2 p2 t1 t2).1) = 0 → True) ∧ (¬ (((f_X8_playItem c s p t ((f_X6_readItem e).2) o oh h k q s1 p1 s2 p2 t1 t2).1) = 0) → (p_X8_firstWrongItem_9 n c ((f_X8_playItem c s p t ((f_X6_readItem e).2) o oh h k q s1 p1 s2 p2 t1 t2).2.1) ((f_X8_playItem c s p t ((f_X6_readItem e).2) o oh h k q s1 p1 s2 p2 t1 t2).2.2) t ((f_X6_readItem e).2) o oh h k q s1 p1 s2 p2 t1 t2 (v1 + (Int32.ofInt 1))))))) ∧ (¬ (((f_X6_readItem e).1) = 0) → True))))
set_option maxHeartbeats 16000000 in
set_option maxRecDepth 20000 in
theorem l_X8_firstWrongItem_9 (sc : SC) (c : Rec) (t : Rec) (o : Rec) (oh : Rec) (h : Rec) (k : Rec) (q : Rec) (s1 : Rec) (p1 : Rec) (s2 : Rec) (p2 : Rec) (t1 : Rec) (t2 : Rec)  (zq : Int32 × Rec × Rec × Rec)  : ∀ (n : Nat) (s : Rec) (p : Rec) (e : Rec) (v1 : Int32), p_X8_firstWrongItem_9 n c s p t e o oh h k q s1 p1 s2 p2 t1 t2 v1 → zq = f_X8_firstWrongItem_9 n c s p t e o oh h k q s1 p1 s2 p2 t1 t2 v1 → Good sc 10 0 0 112 mX8_firstWrongItem (Ret (some (.int (zq.1))) (wB c (zq.2.1) (zq.2.2.1) t (zq.2.2.2) o oh h k q s1 p1 s2 p2 t1 t2)) 0 0 9 [some (.ref 0), some (.int v1)] [] (wB c s p t e o oh h k q s1 p1 s2 p2 t1 t2) := by
  intro n
  induction n with
  | zero => intro s p e v1 hp; exact hp.elim
  | succ n ih =>
    intro s p e v1 hp hq
    unfold p_X8_firstWrongItem_9 at hp
    unfold f_X8_firstWrongItem_9 at hq
    refine g_blk hz0 kX8_firstWrongItem_9 ?_
    refine ⟨fun c2 => ?_, fun c2 => ?_⟩
    · rw [if_pos (show (Int32.ofInt 200) ≤ v1 from c2)] at hq
      refine g_blk hz0 kX8_firstWrongItem_43 ?_
      subst hq
      exact ⟨fun h => (by cases h), rfl, rfl⟩
    · rw [if_neg (show ¬ ((Int32.ofInt 200) ≤ v1) from c2)] at hq
      replace hp := hp.2 c2
      refine g_blk hz0 kX8_firstWrongItem_16 ?_
      refine cV [23, 24, 25] (wE e) (s_X6_readItem e hp.1) rfl cwX6_readItem dX8_firstWrongItem_20 rfl rfl (hm71_B_E _ _ _ _ _ _ _ _ _ _ _ _ _ _ _ _) ((len_E _).trans (len_E _).symm) (wB c s p t ((f_X6_readItem e).2) o oh h k q s1 p1 s2 p2 t1 t2) (pw98_B_E _ _ _ _ _ _ _ _ _ _ _ _ _ _ _ _ _) ?_
      replace hp := hp.2
      obtain ⟨g3, hg3⟩ : ∃ z, z = (f_X6_readItem e) := ⟨_, rfl⟩
      try rw [← hg3] at hp
      try rw [← hg3] at hq
      rw [← hg3]
      refine g_blk hz0 kX8_firstWrongItem_23 ?_
      refine ⟨fun c4 => ?_, fun c4 => ?_⟩
      · rw [if_pos (show (g3.1) = 0 from c4)] at hq
        replace hp := hp.1 c4
        refine g_blk hz0 kX8_firstWrongItem_28 ?_
        refine cV [0, 1, 2, 3, 4, 5, 6, 7, 8, 9, 10, 11, 12, 13, 14, 15, 16, 17, 18, 19, 20, 21, 22, 23, 24, 25, 26, 27, 28, 29, 30, 31, 32, 33, 34, 35, 36, 37, 38, 39, 40, 41, 42, 43, 44, 45, 46, 47, 48, 49, 50, 51, 52, 53, 54, 55, 56, 57, 58, 59, 60, 61, 62, 63, 64, 65, 66, 67, 68, 69, 70, 71, 72, 73, 74, 75, 76, 77, 78, 79, 80, 81, 82, 83, 84, 85, 86, 87, 88, 89, 90, 91, 92, 93, 94, 95, 96, 97, 98, 99, 100, 101, 102, 103, 104, 105, 106, 107, 108, 109, 110, 111] (wB c s p t (g3.2) o oh h k q s1 p1 s2 p2 t1 t2) (s_X8_playItem c s p t (g3.2) o oh h k q s1 p1 s2 p2 t1 t2 hp.1) rfl cwX8_playItem dX8_firstWrongItem_29 rfl rfl (hm63_B_B _ _ _ _ _ _ _ _ _ _ _ _ _ _ _ _) ((len_B _ _ _ _ _ _ _ _ _ _ _ _ _ _ _ _).trans (len_B _ _ _ _ _ _ _ _ _ _ _ _ _ _ _ _).symm) (wB c ((f_X8_playItem c s p t (g3.2) o oh h k q s1 p1 s2 p2 t1 t2).2.1) ((f_X8_playItem c s p t (g3.2) o oh h k q s1 p1 s2 p2 t1 t2).2.2) t (g3.2) o oh h k q s1 p1 s2 p2 t1 t2) (pw103_B_B _ _ _ _ _ _ _ _ _ _ _ _ _ _ _ _ _ _) ?_
        replace hp := hp.2
        obtain ⟨g5, hg5⟩ : ∃ z, z = (f_X8_playItem c s p t (g3.2) o oh h k q s1 p1 s2 p2 t1 t2) := ⟨_, rfl⟩
        try rw [← hg5] at hp
        try rw [← hg5] at hq
        rw [← hg5]
        refine g_blk hz0 kX8_firstWrongItem_32 ?_
        refine ⟨fun c6 => ?_, fun c6 => ?_⟩
        · rw [if_neg (show ¬ ((g5.1) = 0) from c6)] at hq
          replace hp := hp.2 c6
          refine g_blk hz0 kX8_firstWrongItem_37 ?_
          refine g_le (L2 := [some (.ref 0), some (.int (v1 + (Int32.ofInt 1)))]) ⟨rfl, rfl, trivial⟩ ?_
          exact ih (g5.2.1) (g5.2.2) (g3.2) (v1 + (Int32.ofInt 1)) hp hq
        · rw [if_pos (show (g5.1) = 0 from c6)] at hq
          refine g_blk hz0 kX8_firstWrongItem_35 ?_
          subst hq
          exact ⟨fun h => (by cases h), rfl, rfl⟩
      · rw [if_neg (show ¬ ((g3.1) = 0) from c4)] at hq
        refine g_blk hz0 kX8_firstWrongItem_26 ?_
        subst hq
        exact ⟨fun h => (by cases h), rfl, rfl⟩
def f_X8_firstWrongItem (c : Rec) (s : Rec) (p : Rec) (t : Rec) (e : Rec) (o : Rec) (oh : Rec) (h : Rec) (k : Rec) (q : Rec) (s1 : Rec) (p1 : Rec) (s2 : Rec) (p2 : Rec) (t1 : Rec) (t2 : Rec)  : Int32 × Rec × Rec × Rec := (f_X8_firstWrongItem_9 300 c s p t (f_X6_rewind e) o oh h k q s1 p1 s2 p2 t1 t2 ((Int32.ofInt 0)))
def p_X8_firstWrongItem (c : Rec) (s : Rec) (p : Rec) (t : Rec) (e : Rec) (o : Rec) (oh : Rec) (h : Rec) (k : Rec) (q : Rec) (s1 : Rec) (p1 : Rec) (s2 : Rec) (p2 : Rec) (t1 : Rec) (t2 : Rec)  : Prop := (p_X8_firstWrongItem_9 300 c s p t (f_X6_rewind e) o oh h k q s1 p1 s2 p2 t1 t2 ((Int32.ofInt 0)))
set_option maxHeartbeats 16000000 in
set_option maxRecDepth 20000 in
theorem s_X8_firstWrongItem (c : Rec) (s : Rec) (p : Rec) (t : Rec) (e : Rec) (o : Rec) (oh : Rec) (h : Rec) (k : Rec) (q : Rec) (s1 : Rec) (p1 : Rec) (s2 : Rec) (p2 : Rec) (t1 : Rec) (t2 : Rec)  (hp : p_X8_firstWrongItem c s p t e o oh h k q s1 p1 s2 p2 t1 t2) : Spec 10 0 0 mX8_firstWrongItem [.ref 0] (wB c s p t e o oh h k q s1 p1 s2 p2 t1 t2) (Ret (some (.int ((f_X8_firstWrongItem c s p t e o oh h k q s1 p1 s2 p2 t1 t2).1))) (wB c ((f_X8_firstWrongItem c s p t e o oh h k q s1 p1 s2 p2 t1 t2).2.1) ((f_X8_firstWrongItem c s p t e o oh h k q s1 p1 s2 p2 t1 t2).2.2.1) t ((f_X8_firstWrongItem c s p t e o oh h k q s1 p1 s2 p2 t1 t2).2.2.2) o oh h k q s1 p1 s2 p2 t1 t2)) := by
  obtain ⟨zq, hq⟩ : ∃ z, z = (f_X8_firstWrongItem c s p t e o oh h k q s1 p1 s2 p2 t1 t2) := ⟨_, rfl⟩
  rw [← hq]
  unfold f_X8_firstWrongItem at hq
  unfold p_X8_firstWrongItem at hp
  refine Sof fun sc => ?_
  refine g_blk hz0 kX8_firstWrongItem_0 ?_
  refine cV [23, 24, 25] (wE e) (s_X6_rewind e) rfl cwX6_rewind dX8_firstWrongItem_4 rfl rfl (hm71_B_E _ _ _ _ _ _ _ _ _ _ _ _ _ _ _ _) ((len_E _).trans (len_E _).symm) (wB c s p t (f_X6_rewind e) o oh h k q s1 p1 s2 p2 t1 t2) (pw98_B_E _ _ _ _ _ _ _ _ _ _ _ _ _ _ _ _ _) ?_
  obtain ⟨g1, hg1⟩ : ∃ z, z = (f_X6_rewind e) := ⟨_, rfl⟩
  try rw [← hg1] at hp
  try rw [← hg1] at hq
  rw [← hg1]
  refine g_blk hz0 kX8_firstWrongItem_7 ?_
  refine g_le (L2 := [some (.ref 0), some (.int (Int32.ofInt 0))]) ⟨rfl, rfl, trivial⟩ ?_
  exact l_X8_firstWrongItem_9 sc c t o oh h k q s1 p1 s2 p2 t1 t2 zq 300 s p g1 ((Int32.ofInt 0)) hp hq

set_option maxHeartbeats 16000000 in
theorem hm74_B_PA (c : Rec) (s : Rec) (p : Rec) (t : Rec) (e : Rec) (o : Rec) (oh : Rec) (h : Rec) (k : Rec) (q : Rec) (s1 : Rec) (p1 : Rec) (s2 : Rec) (p2 : Rec) (t1 : Rec) (t2 : Rec) : [1, 2, 3, 4, 5, 6, 7, 8, 9, 10, 11, 12, 67].map (lk (wB c s p t e o oh h k q s1 p1 s2 p2 t1 t2)) = (wPA s p ((fun _ => 0, fun _ => c.2 10) : Rec)).map (fun e => some (ren [1, 2, 3, 4, 5, 6, 7, 8, 9, 10, 11, 12, 67] e)) := rfl
set_option maxHeartbeats 16000000 in
theorem pw104_B_PA (c : Rec) (s : Rec) (p : Rec) (t : Rec) (e : Rec) (o : Rec) (oh : Rec) (h : Rec) (k : Rec) (q : Rec) (s1 : Rec) (p1 : Rec) (s2 : Rec) (p2 : Rec) (t1 : Rec) (t2 : Rec) (a9 : Rec) : putW (wB c s p t e o oh h k q s1 p1 s2 p2 t1 t2) [1, 2, 3, 4, 5, 6, 7, 8, 9, 10, 11, 12, 67] ((wPA s p a9).map (ren [1, 2, 3, 4, 5, 6, 7, 8, 9, 10, 11, 12, 67])) = (wB (setA c 10 (a9.2 0)) s p t e o oh h k q s1 p1 s2 p2 t1 t2) := rfl
set_option maxHeartbeats 16000000 in
theorem pw105_B_B (c : Rec) (s : Rec) (p : Rec) (t : Rec) (e : Rec) (o : Rec) (oh : Rec) (h : Rec) (k : Rec) (q : Rec) (s1 : Rec) (p1 : Rec) (s2 : Rec) (p2 : Rec) (t1 : Rec) (t2 : Rec) (s9 : Rec) (p9 : Rec) (e9 : Rec) : putW (wB c s p t e o oh h k q s1 p1 s2 p2 t1 t2) [0, 1, 2, 3, 4, 5, 6, 7, 8, 9, 10, 11, 12, 13, 14, 15, 16, 17, 18, 19, 20, 21, 22, 23, 24, 25, 26, 27, 28, 29, 30, 31, 32, 33, 34, 35, 36, 37, 38, 39, 40, 41, 42, 43, 44, 45, 46, 47, 48, 49, 50, 51, 52, 53, 54, 55, 56, 57, 58, 59, 60, 61, 62, 63, 64, 65, 66, 67, 68, 69, 70, 71, 72, 73, 74, 75, 76, 77, 78, 79, 80, 81, 82, 83, 84, 85, 86, 87, 88, 89, 90, 91, 92, 93, 94, 95, 96, 97, 98, 99, 100, 101, 102, 103, 104, 105, 106, 107, 108, 109, 110, 111] ((wB c s9 p9 t e9 o oh h k q s1 p1 s2 p2 t1 t2).map (ren [0, 1, 2, 3, 4, 5, 6, 7, 8, 9, 10, 11, 12, 13, 14, 15, 16, 17, 18, 19, 20, 21, 22, 23, 24, 25, 26, 27, 28, 29, 30, 31, 32, 33, 34, 35, 36, 37, 38, 39, 40, 41, 42, 43, 44, 45, 46, 47, 48, 49, 50, 51, 52, 53, 54, 55, 56, 57, 58, 59, 60, 61, 62, 63, 64, 65, 66, 67, 68, 69, 70, 71, 72, 73, 74, 75, 76, 77, 78, 79, 80, 81, 82, 83, 84, 85, 86, 87, 88, 89, 90, 91, 92, 93, 94, 95, 96, 97, 98, 99, 100, 101, 102, 103, 104, 105, 106, 107, 108, 109, 110, 111])) = (wB c s9 p9 t e9 o oh h k q s1 p1 s2 p2 t1 t2) := rfl
set_option maxHeartbeats 16000000 in
theorem pw106_B_PA (c : Rec) (s : Rec) (p : Rec) (t : Rec) (e : Rec) (o : Rec) (oh : Rec) (h : Rec) (k : Rec) (q : Rec) (s1 : Rec) (p1 : Rec) (s2 : Rec) (p2 : Rec) (t1 : Rec) (t2 : Rec) (s9 : Rec) (p9 : Rec) : putW (wB c s p t e o oh h k q s1 p1 s2 p2 t1 t2) [1, 2, 3, 4, 5, 6, 7, 8, 9, 10, 11, 12, 67] ((wPA s9 p9 ((fun _ => 0, fun _ => c.2 10) : Rec)).map (ren [1, 2, 3, 4, 5, 6, 7, 8, 9, 10, 11, 12, 67])) = (wB c s9 p9 t e o oh h k q s1 p1 s2 p2 t1 t2) := rfl
def f_X8_judge (c : Rec) (s : Rec) (p : Rec) (t : Rec) (e : Rec) (o : Rec) (oh : Rec) (h : Rec) (k : Rec) (q : Rec) (s1 : Rec) (p1 : Rec) (s2 : Rec) (p2 : Rec) (t1 : Rec) (t2 : Rec)  : Int32 × Rec × Rec × Rec × Rec := if ((f_X6_faultPlace e).1) = (Int32.ofInt (-1)) then (((f_X8_firstWrongItem (setA c 10 ((f_X3_save s p ((fun _ => 0, fun _ => (c.2 10)) : Rec)).2 0)) s p t ((f_X6_faultPlace e).2) o oh h k q s1 p1 s2 p2 t1 t2).1), (setA c 10 ((f_X3_save s p ((fun _ => 0, fun _ => (c.2 10)) : Rec)).2 0)), ((f_X3_load ((f_X8_firstWrongItem (setA c 10 ((f_X3_save s p ((fun _ => 0, fun _ => (c.2 10)) : Rec)).2 0)) s p t ((f_X6_faultPlace e).2) o oh h k q s1 p1 s2 p2 t1 t2).2.1) ((f_X8_firstWrongItem (setA c 10 ((f_X3_save s p ((fun _ => 0, fun _ => (c.2 10)) : Rec)).2 0)) s p t ((f_X6_faultPlace e).2) o oh h k q s1 p1 s2 p2 t1 t2).2.2.1) ((fun _ => 0, fun _ => ((f_X3_save s p ((fun _ => 0, fun _ => (c.2 10)) : Rec)).2 0)) : Rec)).1), ((f_X3_load ((f_X8_firstWrongItem (setA c 10 ((f_X3_save s p ((fun _ => 0, fun _ => (c.2 10)) : Rec)).2 0)) s p t ((f_X6_faultPlace e).2) o oh h k q s1 p1 s2 p2 t1 t2).2.1) ((f_X8_firstWrongItem (setA c 10 ((f_X3_save s p ((fun _ => 0, fun _ => (c.2 10)) : Rec)).2 0)) s p t ((f_X6_faultPlace e).2) o oh h k q s1 p1 s2 p2 t1 t2).2.2.1) ((fun _ => 0, fun _ => ((f_X3_save s p ((fun _ => 0, fun _ => (c.2 10)) : Rec)).2 0)) : Rec)).2), ((f_X8_firstWrongItem (setA c 10 ((f_X3_save s p ((fun _ => 0, fun _ => (c.2 10)) : Rec)).2 0)) s p t ((f_X6_faultPlace e).2) o oh h k q s1 p1 s2 p2 t1 t2).2.2.2)) else (((f_X8_refuseNo c s p t ((f_X6_faultPlace e).2) o oh h k q s1 p1 s2 p2 t1 t2 ((Int32.ofInt (-3)))).1), ((f_X8_refuseNo c s p t ((f_X6_faultPlace e).2) o oh h k q s1 p1 s2 p2 t1 t2 ((Int32.ofInt (-3)))).2), s, p, ((f_X6_faultPlace e).2))
def p_X8_judge (c : Rec) (s : Rec) (p : Rec) (t : Rec) (e : Rec) (o : Rec) (oh : Rec) (h : Rec) (k : Rec) (q : Rec) (s1 : Rec) (p1 : Rec) (s2 : Rec) (p2 : Rec) (t1 : Rec) (t2 : Rec)  : Prop := (p_X6_faultPlace e) ∧ ((((f_X6_faultPlace e).1) = (Int32.ofInt (-1)) → ((p_X3_save s p ((fun _ => 0, fun _ => (c.2 10)) : Rec)) ∧ ((p_X8_firstWrongItem (setA c 10 ((f_X3_save s p ((fun _ => 0, fun _ => (c.2 10)) : Rec)).2 0)) s p t ((f_X6_faultPlace e).2) o oh h k q s1 p1 s2 p2 t1 t2) ∧ ((p_X3_load ((f_X8_firstWrongItem (setA c 10 ((f_X3_save s p ((fun _ => 0, fun _ => (c.2 10)) : Rec)).2 0)) s p t ((f_X6_faultPlace e).2) o oh h k q s1 p1 s2 p2 t1 t2).2.1) ((f_X8_firstWrongItem (setA c 10 ((f_X3_save s p ((fun _ => 0, fun _ => (c.2 10)) : Rec)).2 0)) s p t ((f_X6_faultPlace e).2) o oh h k q s1 p1 s2 p2 t1 t2).2.2.1) ((fun _ => 0, fun _ => ((f_X3_save s p ((fun _ => 0, fun _ => (c.2 10)) : Rec)).2 0)) : Rec)) ∧ True)))) ∧ (¬ (((f_X6_faultPlace e).1) = (Int32.ofInt (-1))) → True))
set_option maxHeartbeats 16000000 in
set_option maxRecDepth 20000 in
theorem s_X8_judge (c : Rec) (s : Rec) (p : Rec) (t : Rec) (e : Rec) (o : Rec) (oh : Rec) (h : Rec) (k : Rec) (q : Rec) (s1 : Rec) (p1 : Rec) (s2 : Rec) (p2 : Rec) (t1 : Rec) (t2 : Rec)  (hp : p_X8_judge c s p t e o oh h k q s1 p1 s2 p2 t1 t2) : Spec 11 0 0 mX8_judge [.ref 0] (wB c s p t e o oh h k q s1 p1 s2 p2 t1 t2) (Ret (some (.int ((f_X8_judge c s p t e o oh h k q s1 p1 s2 p2 t1 t2).1))) (wB ((f_X8_judge c s p t e o oh h k q s1 p1 s2 p2 t1 t2).2.1) ((f_X8_judge c s p t e o oh h k q s1 p1 s2 p2 t1 t2).2.2.1) ((f_X8_judge c s p t e o oh h k q s1 p1 s2 p2 t1 t2).2.2.2.1) t ((f_X8_judge c s p t e o oh h k q s1 p1 s2 p2 t1 t2).2.2.2.2) o oh h k q s1 p1 s2 p2 t1 t2)) := by
  obtain ⟨zq, hq⟩ : ∃ z, z = (f_X8_judge c s p t e o oh h k q s1 p1 s2 p2 t1 t2) := ⟨_, rfl⟩
  rw [← hq]
  unfold f_X8_judge at hq
  unfold p_X8_judge at hp
  refine Sof fun sc => ?_
  refine g_blk hz0 kX8_judge_0 ?_
  refine cV [23, 24, 25] (wE e) (s_X6_faultPlace e hp.1) rfl cwX6_faultPlace dX8_judge_4 rfl rfl (hm71_B_E _ _ _ _ _ _ _ _ _ _ _ _ _ _ _ _) ((len_E _).trans (len_E _).symm) (wB c s p t ((f_X6_faultPlace e).2) o oh h k q s1 p1 s2 p2 t1 t2) (pw98_B_E _ _ _ _ _ _ _ _ _ _ _ _ _ _ _ _ _) ?_
  replace hp := hp.2
  obtain ⟨g1, hg1⟩ : ∃ z, z = (f_X6_faultPlace e) := ⟨_, rfl⟩
  try rw [← hg1] at hp
  try rw [← hg1] at hq
  rw [← hg1]
  refine g_blk hz0 kX8_judge_7 ?_
  refine ⟨fun c2 => ?_, fun c2 => ?_⟩
  · rw [if_pos (show (g1.1) = (Int32.ofInt (-1)) from c2)] at hq
    replace hp := hp.1 c2
    refine g_blk hz0 kX8_judge_18 ?_
    refine cV [1, 2, 3, 4, 5, 6, 7, 8, 9, 10, 11, 12, 67] (wPA s p ((fun _ => 0, fun _ => (c.2 10)) : Rec)) (s_X3_save s p ((fun _ => 0, fun _ => (c.2 10)) : Rec) hp.1) rfl cwX3_save dX8_judge_26 rfl rfl (hm74_B_PA _ _ _ _ _ _ _ _ _ _ _ _ _ _ _ _) ((len_PA _ _ _).trans (len_PA _ _ _).symm) (wB (setA c 10 ((f_X3_save s p ((fun _ => 0, fun _ => (c.2 10)) : Rec)).2 0)) s p t (g1.2) o oh h k q s1 p1 s2 p2 t1 t2) (pw104_B_PA _ _ _ _ _ _ _ _ _ _ _ _ _ _ _ _ _) ?_
    replace hp := hp.2
    obtain ⟨g3, hg3⟩ : ∃ z, z = (f_X3_save s p ((fun _ => 0, fun _ => (c.2 10)) : Rec)) := ⟨_, rfl⟩
    try rw [← hg3] at hp
    try rw [← hg3] at hq
    rw [← hg3]
    refine g_blk hz0 kX8_judge_29 ?_
    refine cV [0, 1, 2, 3, 4, 5, 6, 7, 8, 9, 10, 11, 12, 13, 14, 15, 16, 17, 18, 19, 20, 21, 22, 23, 24, 25, 26, 27, 28, 29, 30, 31, 32, 33, 34, 35, 36, 37, 38, 39, 40, 41, 42, 43, 44, 45, 46, 47, 48, 49, 50, 51, 52, 53, 54, 55, 56, 57, 58, 59, 60, 61, 62, 63, 64, 65, 66, 67, 68, 69, 70, 71, 72, 73, 74, 75, 76, 77, 78, 79, 80, 81, 82, 83, 84, 85, 86, 87, 88, 89, 90, 91, 92, 93, 94, 95, 96, 97, 98, 99, 100, 101, 102, 103, 104, 105, 106, 107, 108, 109, 110, 111] (wB (setA c 10 (g3.2 0)) s p t (g1.2) o oh h k q s1 p1 s2 p2 t1 t2) (s_X8_firstWrongItem (setA c 10 (g3.2 0)) s p t (g1.2) o oh h k q s1 p1 s2 p2 t1 t2 hp.1) rfl cwX8_firstWrongItem dX8_judge_30 rfl rfl (hm63_B_B _ _ _ _ _ _ _ _ _ _ _ _ _ _ _ _) ((len_B _ _ _ _ _ _ _ _ _ _ _ _ _ _ _ _).trans (len_B _ _ _ _ _ _ _ _ _ _ _ _ _ _ _ _).symm) (wB (setA c 10 (g3.2 0)) ((f_X8_firstWrongItem (setA c 10 (g3.2 0)) s p t (g1.2) o oh h k q s1 p1 s2 p2 t1 t2).2.1) ((f_X8_firstWrongItem (setA c 10 (g3.2 0)) s p t (g1.2) o oh h k q s1 p1 s2 p2 t1 t2).2.2.1) t ((f_X8_firstWrongItem (setA c 10 (g3.2 0)) s p t (g1.2) o oh h k q s1 p1 s2 p2 t1 t2).2.2.2) o oh h k q s1 p1 s2 p2 t1 t2) (pw105_B_B _ _ _ _ _ _ _ _ _ _ _ _ _ _ _ _ _ _ _) ?_
    replace hp := hp.2
    obtain ⟨g4, hg4⟩ : ∃ z, z = (f_X8_firstWrongItem (setA c 10 (g3.2 0)) s p t (g1.2) o oh h k q s1 p1 s2 p2 t1 t2) := ⟨_, rfl⟩
    try rw [← hg4] at hp
    try rw [← hg4] at hq
    rw [← hg4]
    refine g_blk hz0 kX8_judge_33 ?_
    refine cV [1, 2, 3, 4, 5, 6, 7, 8, 9, 10, 11, 12, 67] (wPA (g4.2.1) (g4.2.2.1) ((fun _ => 0, fun _ => (g3.2 0)) : Rec)) (s_X3_load (g4.2.1) (g4.2.2.1) ((fun _ => 0, fun _ => (g3.2 0)) : Rec) hp.1) rfl cwX3_load dX8_judge_42 rfl rfl (hm74_B_PA _ _ _ _ _ _ _ _ _ _ _ _ _ _ _ _) ((len_PA _ _ _).trans (len_PA _ _ _).symm) (wB (setA c 10 (g3.2 0)) ((f_X3_load (g4.2.1) (g4.2.2.1) ((fun _ => 0, fun _ => (g3.2 0)) : Rec)).1) ((f_X3_load (g4.2.1) (g4.2.2.1) ((fun _ => 0, fun _ => (g3.2 0)) : Rec)).2) t (g4.2.2.2) o oh h k q s1 p1 s2 p2 t1 t2) (pw106_B_PA _ _ _ _ _ _ _ _ _ _ _ _ _ _ _ _ _ _) ?_
    replace hp := hp.2
    obtain ⟨g5, hg5⟩ : ∃ z, z = (f_X3_load (g4.2.1) (g4.2.2.1) ((fun _ => 0, fun _ => (g3.2 0)) : Rec)) := ⟨_, rfl⟩
    try rw [← hg5] at hp
    try rw [← hg5] at hq
    rw [← hg5]
    refine g_blk hz0 kX8_judge_45 ?_
    subst hq
    exact ⟨fun h => (by cases h), rfl, rfl⟩
  · rw [if_neg (show ¬ ((g1.1) = (Int32.ofInt (-1))) from c2)] at hq
    refine g_blk hz0 kX8_judge_11 ?_
    refine cV [0, 1, 2, 3, 4, 5, 6, 7, 8, 9, 10, 11, 12, 13, 14, 15, 16, 17, 18, 19, 20, 21, 22, 23, 24, 25, 26, 27, 28, 29, 30, 31, 32, 33, 34, 35, 36, 37, 38, 39, 40, 41, 42, 43, 44, 45, 46, 47, 48, 49, 50, 51, 52, 53, 54, 55, 56, 57, 58, 59, 60, 61, 62, 63, 64, 65, 66, 67, 68, 69, 70, 71, 72, 73, 74, 75, 76, 77, 78, 79, 80, 81, 82, 83, 84, 85, 86, 87, 88, 89, 90, 91, 92, 93, 94, 95, 96, 97, 98, 99, 100, 101, 102, 103, 104, 105, 106, 107, 108, 109, 110, 111] (wB c s p t (g1.2) o oh h k q s1 p1 s2 p2 t1 t2) (s_X8_refuseNo c s p t (g1.2) o oh h k q s1 p1 s2 p2 t1 t2 ((Int32.ofInt (-3)))) rfl cwX8_refuseNo dX8_judge_14 rfl rfl (hm63_B_B _ _ _ _ _ _ _ _ _ _ _ _ _ _ _ _) ((len_B _ _ _ _ _ _ _ _ _ _ _ _ _ _ _ _).trans (len_B _ _ _ _ _ _ _ _ _ _ _ _ _ _ _ _).symm) (wB ((f_X8_refuseNo c s p t (g1.2) o oh h k q s1 p1 s2 p2 t1 t2 ((Int32.ofInt (-3)))).2) s p t (g1.2) o oh h k q s1 p1 s2 p2 t1 t2) (pw85_B_B _ _ _ _ _ _ _ _ _ _ _ _ _ _ _ _ _) ?_
    obtain ⟨g6, hg6⟩ : ∃ z, z = (f_X8_refuseNo c s p t (g1.2) o oh h k q s1 p1 s2 p2 t1 t2 ((Int32.ofInt (-3)))) := ⟨_, rfl⟩
    try rw [← hg6] at hp
    try rw [← hg6] at hq
    rw [← hg6]
    refine g_blk hz0 kX8_judge_17 ?_
    subst hq
    exact ⟨fun h => (by cases h), rfl, rfl⟩

set_option maxHeartbeats 16000000 in
theorem hm75_B_PP (c : Rec) (s : Rec) (p : Rec) (t : Rec) (e : Rec) (o : Rec) (oh : Rec) (h : Rec) (k : Rec) (q : Rec) (s1 : Rec) (p1 : Rec) (s2 : Rec) (p2 : Rec) (t1 : Rec) (t2 : Rec) : [68, 69, 70, 71, 72, 73, 74, 75, 76, 77, 78, 79, 1, 2, 3, 4, 5, 6, 7, 8, 9, 10, 11, 12].map (lk (wB c s p t e o oh h k q s1 p1 s2 p2 t1 t2)) = (wPP s1 p1 s p).map (fun e => some (ren [68, 69, 70, 71, 72, 73, 74, 75, 76, 77, 78, 79, 1, 2, 3, 4, 5, 6, 7, 8, 9, 10, 11, 12] e)) := rfl
set_option maxHeartbeats 16000000 in
theorem pw107_B_PP (c : Rec) (s : Rec) (p : Rec) (t : Rec) (e : Rec) (o : Rec) (oh : Rec) (h : Rec) (k : Rec) (q : Rec) (s1 : Rec) (p1 : Rec) (s2 : Rec) (p2 : Rec) (t1 : Rec) (t2 : Rec) (s9 : Rec) (p9 : Rec) : putW (wB c s p t e o oh h k q s1 p1 s2 p2 t1 t2) [68, 69, 70, 71, 72, 73, 74, 75, 76, 77, 78, 79, 1, 2, 3, 4, 5, 6, 7, 8, 9, 10, 11, 12] ((wPP s9 p9 s p).map (ren [68, 69, 70, 71, 72, 73, 74, 75, 76, 77, 78, 79, 1, 2, 3, 4, 5, 6, 7, 8, 9, 10, 11, 12])) = (wB c s p t e o oh h k q s9 p9 s2 p2 t1 t2) := rfl
set_option maxHeartbeats 16000000 in
theorem hm76_B_TT (c : Rec) (s : Rec) (p : Rec) (t : Rec) (e : Rec) (o : Rec) (oh : Rec) (h : Rec) (k : Rec) (q : Rec) (s1 : Rec) (p1 : Rec) (s2 : Rec) (p2 : Rec) (t1 : Rec) (t2 : Rec) : [80, 81, 82, 83, 84, 85, 86, 87, 88, 89, 13, 14, 15, 16, 17, 18, 19, 20, 21, 22].map (lk (wB c s p t e o oh h k q s1 p1 s2 p2 t1 t2)) = (wTT t1 t).map (fun e => some (ren [80, 81, 82, 83, 84, 85, 86, 87, 88, 89, 13, 14, 15, 16, 17, 18, 19, 20, 21, 22] e)) := rfl
set_option maxHeartbeats 16000000 in
theorem pw108_B_TT (c : Rec) (s : Rec) (p : Rec) (t : Rec) (e : Rec) (o : Rec) (oh : Rec) (h : Rec) (k : Rec) (q : Rec) (s1 : Rec) (p1 : Rec) (s2 : Rec) (p2 : Rec) (t1 : Rec) (t2 : Rec) (t9 : Rec) : putW (wB c s p t e o oh h k q s1 p1 s2 p2 t1 t2) [80, 81, 82, 83, 84, 85, 86, 87, 88, 89, 13, 14, 15, 16, 17, 18, 19, 20, 21, 22] ((wTT t9 t).map (ren [80, 81, 82, 83, 84, 85, 86, 87, 88, 89, 13, 14, 15, 16, 17, 18, 19, 20, 21, 22])) = (wB c s p t e o oh h k q s1 p1 s2 p2 t9 t2) := rfl
set_option maxHeartbeats 16000000 in
theorem hm77_B_PP (c : Rec) (s : Rec) (p : Rec) (t : Rec) (e : Rec) (o : Rec) (oh : Rec) (h : Rec) (k : Rec) (q : Rec) (s1 : Rec) (p1 : Rec) (s2 : Rec) (p2 : Rec) (t1 : Rec) (t2 : Rec) : [90, 91, 92, 93, 94, 95, 96, 97, 98, 99, 100, 101, 1, 2, 3, 4, 5, 6, 7, 8, 9, 10, 11, 12].map (lk (wB c s p t e o oh h k q s1 p1 s2 p2 t1 t2)) = (wPP s2 p2 s p).map (fun e => some (ren [90, 91, 92, 93, 94, 95, 96, 97, 98, 99, 100, 101, 1, 2, 3, 4, 5, 6, 7, 8, 9, 10, 11, 12] e)) := rfl
set_option maxHeartbeats 16000000 in
theorem pw109_B_PP (c : Rec) (s : Rec) (p : Rec) (t : Rec) (e : Rec) (o : Rec) (oh : Rec) (h : Rec) (k : Rec) (q : Rec) (s1 : Rec) (p1 : Rec) (s2 : Rec) (p2 : Rec) (t1 : Rec) (t2 : Rec) (s9 : Rec) (p9 : Rec) : putW (wB c s p t e o oh h k q s1 p1 s2 p2 t1 t2) [90, 91, 92, 93, 94, 95, 96, 97, 98, 99, 100, 101, 1, 2, 3, 4, 5, 6, 7, 8, 9, 10, 11, 12] ((wPP s9 p9 s p).map (ren [90, 91, 92, 93, 94, 95, 96, 97, 98, 99, 100, 101, 1, 2, 3, 4, 5, 6, 7, 8, 9, 10, 11, 12])) = (wB c s p t e o oh h k q s1 p1 s9 p9 t1 t2) := rfl
set_option maxHeartbeats 16000000 in
theorem hm78_B_TT (c : Rec) (s : Rec) (p : Rec) (t : Rec) (e : Rec) (o : Rec) (oh : Rec) (h : Rec) (k : Rec) (q : Rec) (s1 : Rec) (p1 : Rec) (s2 : Rec) (p2 : Rec) (t1 : Rec) (t2 : Rec) : [102, 103, 104, 105, 106, 107, 108, 109, 110, 111, 13, 14, 15, 16, 17, 18, 19, 20, 21, 22].map (lk (wB c s p t e o oh h k q s1 p1 s2 p2 t1 t2)) = (wTT t2 t).map (fun e => some (ren [102, 103, 104, 105, 106, 107, 108, 109, 110, 111, 13, 14, 15, 16, 17, 18, 19, 20, 21, 22] e)) := rfl
set_option maxHeartbeats 16000000 in
theorem pw110_B_TT (c : Rec) (s : Rec) (p : Rec) (t : Rec) (e : Rec) (o : Rec) (oh : Rec) (h : Rec) (k : Rec) (q : Rec) (s1 : Rec) (p1 : Rec) (s2 : Rec) (p2 : Rec) (t1 : Rec) (t2 : Rec) (t9 : Rec) : putW (wB c s p t e o oh h k q s1 p1 s2 p2 t1 t2) [102, 103, 104, 105, 106, 107, 108, 109, 110, 111, 13, 14, 15, 16, 17, 18, 19, 20, 21, 22] ((wTT t9 t).map (ren [102, 103, 104, 105, 106, 107, 108, 109, 110, 111, 13, 14, 15, 16, 17, 18, 19, 20, 21, 22])) = (wB c s p t e o oh h k q s1 p1 s2 p2 t1 t9) := rfl
def f_X8_image (c : Rec) (s : Rec) (p : Rec) (t : Rec) (e : Rec) (o : Rec) (oh : Rec) (h : Rec) (k : Rec) (q : Rec) (s1 : Rec) (p1 : Rec) (s2 : Rec) (p2 : Rec) (t1 : Rec) (t2 : Rec) (i : Int32) : Int32 × Rec × Rec × Rec × Rec × Rec × Rec × Rec := if (f_X8_within i ((Int32.ofInt 0)) ((Int32.ofInt 1))) = 0 then (((f_X8_refuseBad c s p t e o oh h k q s1 p1 s2 p2 t1 t2 ((Int32.ofInt (-2)))).1), ((f_X8_refuseBad c s p t e o oh h k q s1 p1 s2 p2 t1 t2 ((Int32.ofInt (-2)))).2), s1, p1, s2, p2, t1, t2) else (if i = (Int32.ofInt 0) then ((Int32.ofInt 1), (setA c 9 (upd (c.2 9) (Int32.toNatClampNeg i) (Int32.ofInt 1))), ((f_X3_copy s1 p1 s p).1), ((f_X3_copy s1 p1 s p).2), s2, p2, (f_X2_copy t1 t), t2) else (if i = (Int32.ofInt 1) then ((Int32.ofInt 1), (setA c 9 (upd (c.2 9) (Int32.toNatClampNeg i) (Int32.ofInt 1))), s1, p1, ((f_X3_copy s2 p2 s p).1), ((f_X3_copy s2 p2 s p).2), t1, (f_X2_copy t2 t)) else (0, c, s1, p1, s2, p2, t1, t2)))
def p_X8_image (c : Rec) (s : Rec) (p : Rec) (t : Rec) (e : Rec) (o : Rec) (oh : Rec) (h : Rec) (k : Rec) (q : Rec) (s1 : Rec) (p1 : Rec) (s2 : Rec) (p2 : Rec) (t1 : Rec) (t2 : Rec) (i : Int32) : Prop := ((f_X8_within i ((Int32.ofInt 0)) ((Int32.ofInt 1))) = 0 → True) ∧ (¬ ((f_X8_within i ((Int32.ofInt 0)) ((Int32.ofInt 1))) = 0) → ((i = (Int32.ofInt 0) → ((p_X3_copy s1 p1 s p) ∧ ((p_X2_copy t1 t) ∧ (vp_in i 2 ∧ True)))) ∧ (¬ (i = (Int32.ofInt 0)) → ((i = (Int32.ofInt 1) → ((p_X3_copy s2 p2 s p) ∧ ((p_X2_copy t2 t) ∧ (vp_in i 2 ∧ True)))) ∧ (¬ (i = (Int32.ofInt 1)) → (False))))))
set_option maxHeartbeats 16000000 in
set_option maxRecDepth 20000 in
theorem s_X8_image (c : Rec) (s : Rec) (p : Rec) (t : Rec) (e : Rec) (o : Rec) (oh : Rec) (h : Rec) (k : Rec) (q : Rec) (s1 : Rec) (p1 : Rec) (s2 : Rec) (p2 : Rec) (t1 : Rec) (t2 : Rec) (i : Int32) (hp : p_X8_image c s p t e o oh h k q s1 p1 s2 p2 t1 t2 i) : Spec 3 0 0 mX8_image [.ref 0, .int i] (wB c s p t e o oh h k q s1 p1 s2 p2 t1 t2) (Ret (some (.int ((f_X8_image c s p t e o oh h k q s1 p1 s2 p2 t1 t2 i).1))) (wB ((f_X8_image c s p t e o oh h k q s1 p1 s2 p2 t1 t2 i).2.1) s p t e o oh h k q ((f_X8_image c s p t e o oh h k q s1 p1 s2 p2 t1 t2 i).2.2.1) ((f_X8_image c s p t e o oh h k q s1 p1 s2 p2 t1 t2 i).2.2.2.1) ((f_X8_image c s p t e o oh h k q s1 p1 s2 p2 t1 t2 i).2.2.2.2.1) ((f_X8_image c s p t e o oh h k q s1 p1 s2 p2 t1 t2 i).2.2.2.2.2.1) ((f_X8_image c s p t e o oh h k q s1 p1 s2 p2 t1 t2 i).2.2.2.2.2.2.1) ((f_X8_image c s p t e o oh h k q s1 p1 s2 p2 t1 t2 i).2.2.2.2.2.2.2))) := by
  obtain ⟨zq, hq⟩ : ∃ z, z = (f_X8_image c s p t e o oh h k q s1 p1 s2 p2 t1 t2 i) := ⟨_, rfl⟩
  rw [← hq]
  unfold f_X8_image at hq
  unfold p_X8_image at hp
  refine Sof fun sc => ?_
  refine g_blk hz0 kX8_image_0 ?_
  refine cS0 (s_X8_within i ((Int32.ofInt 0)) ((Int32.ofInt 1))) rfl cwX8_within dX8_image_3 rfl ?_
  refine g_blk hz0 kX8_image_6 ?_
  refine ⟨fun c1 => ?_, fun c1 => ?_⟩
  · rw [if_neg (show ¬ ((f_X8_within i ((Int32.ofInt 0)) ((Int32.ofInt 1))) = 0) from c1)] at hq
    replace hp := hp.2 c1
    refine g_blk hz0 kX8_image_16 ?_
    by_cases e3 : i = (Int32.ofInt 0)
    · rw [if_pos e3] at hq
      replace hp := hp.1 e3
      refine ⟨(show vp_in i 2 from by rw [e3]; exact vinL (by decide)), 68, (show rowF [68, 90] (Int32.toNatClampNeg i) = some 68 from by rw [e3]; rfl), ?_⟩
      refine cV [68, 69, 70, 71, 72, 73, 74, 75, 76, 77, 78, 79, 1, 2, 3, 4, 5, 6, 7, 8, 9, 10, 11, 12] (wPP s1 p1 s p) (s_X3_copy s1 p1 s p hp.1) rfl cwX3_copy dX8_image_26 rfl rfl (hm75_B_PP _ _ _ _ _ _ _ _ _ _ _ _ _ _ _ _) ((len_PP _ _ _ _).trans (len_PP _ _ _ _).symm) (wB c s p t e o oh h k q ((f_X3_copy s1 p1 s p).1) ((f_X3_copy s1 p1 s p).2) s2 p2 t1 t2) (pw107_B_PP _ _ _ _ _ _ _ _ _ _ _ _ _ _ _ _ _ _) ?_
      replace hp := hp.2
      obtain ⟨g4, hg4⟩ : ∃ z, z = (f_X3_copy s1 p1 s p) := ⟨_, rfl⟩
      try rw [← hg4] at hp
      try rw [← hg4] at hq
      rw [← hg4]
      refine g_blk hz0 kX8_image_29 ?_
      refine ⟨(show vp_in i 2 from by rw [e3]; exact vinL (by decide)), 80, (show rowF [80, 102] (Int32.toNatClampNeg i) = some 80 from by rw [e3]; rfl), ?_⟩
      refine cV [80, 81, 82, 83, 84, 85, 86, 87, 88, 89, 13, 14, 15, 16, 17, 18, 19, 20, 21, 22] (wTT t1 t) (s_X2_copy t1 t hp.1) rfl cwX2_copy dX8_image_39 rfl rfl (hm76_B_TT _ _ _ _ _ _ _ _ _ _ _ _ _ _ _ _) ((len_TT _ _).trans (len_TT _ _).symm) (wB c s p t e o oh h k q (g4.1) (g4.2) s2 p2 (f_X2_copy t1 t) t2) (pw108_B_TT _ _ _ _ _ _ _ _ _ _ _ _ _ _ _ _ _) ?_
      replace hp := hp.2
      obtain ⟨g5, hg5⟩ : ∃ z, z = (f_X2_copy t1 t) := ⟨_, rfl⟩
      try rw [← hg5] at hp
      try rw [← hg5] at hq
      rw [← hg5]
      refine g_blk hz0 kX8_image_42 ?_
      refine ⟨hp.1, ?_⟩
      replace hp := hp.2
      refine ⟨Or.inr rfl, ?_⟩
      subst hq
      exact ⟨fun h => (by cases h), rfl, rfl⟩
    · rw [if_neg e3] at hq
      replace hp := hp.2 e3
      by_cases e6 : i = (Int32.ofInt 1)
      · rw [if_pos e6] at hq
        replace hp := hp.1 e6
        refine ⟨(show vp_in i 2 from by rw [e6]; exact vinL (by decide)), 90, (show rowF [68, 90] (Int32.toNatClampNeg i) = some 90 from by rw [e6]; rfl), ?_⟩
        refine cV [90, 91, 92, 93, 94, 95, 96, 97, 98, 99, 100, 101, 1, 2, 3, 4, 5, 6, 7, 8, 9, 10, 11, 12] (wPP s2 p2 s p) (s_X3_copy s2 p2 s p hp.1) rfl cwX3_copy dX8_image_26 rfl rfl (hm77_B_PP _ _ _ _ _ _ _ _ _ _ _ _ _ _ _ _) ((len_PP _ _ _ _).trans (len_PP _ _ _ _).symm) (wB c s p t e o oh h k q s1 p1 ((f_X3_copy s2 p2 s p).1) ((f_X3_copy s2 p2 s p).2) t1 t2) (pw109_B_PP _ _ _ _ _ _ _ _ _ _ _ _ _ _ _ _ _ _) ?_
        replace hp := hp.2
        obtain ⟨g7, hg7⟩ : ∃ z, z = (f_X3_copy s2 p2 s p) := ⟨_, rfl⟩
        try rw [← hg7] at hp
        try rw [← hg7] at hq
        rw [← hg7]
        refine g_blk hz0 kX8_image_29 ?_
        refine ⟨(show vp_in i 2 from by rw [e6]; exact vinL (by decide)), 102, (show rowF [80, 102] (Int32.toNatClampNeg i) = some 102 from by rw [e6]; rfl), ?_⟩
        refine cV [102, 103, 104, 105, 106, 107, 108, 109, 110, 111, 13, 14, 15, 16, 17, 18, 19, 20, 21, 22] (wTT t2 t) (s_X2_copy t2 t hp.1) rfl cwX2_copy dX8_image_39 rfl rfl (hm78_B_TT _ _ _ _ _ _ _ _ _ _ _ _ _ _ _ _) ((len_TT _ _).trans (len_TT _ _).symm) (wB c s p t e o oh h k q s1 p1 (g7.1) (g7.2) t1 (f_X2_copy t2 t)) (pw110_B_TT _ _ _ _ _ _ _ _ _ _ _ _ _ _ _ _ _) ?_
        replace hp := hp.2
        obtain ⟨g8, hg8⟩ : ∃ z, z = (f_X2_copy t2 t) := ⟨_, rfl⟩
        try rw [← hg8] at hp
        try rw [← hg8] at hq
        rw [← hg8]
        refine g_blk hz0 kX8_image_42 ?_
        refine ⟨hp.1, ?_⟩
        replace hp := hp.2
        refine ⟨Or.inr rfl, ?_⟩
        subst hq
        exact ⟨fun h => (by cases h), rfl, rfl⟩
      · rw [if_neg e6] at hq
        replace hp := hp.2 e6
        exact hp.elim
  · rw [if_pos (show (f_X8_within i ((Int32.ofInt 0)) ((Int32.ofInt 1))) = 0 from c1)] at hq
    refine g_blk hz0 kX8_image_9 ?_
    refine cV [0, 1, 2, 3, 4, 5, 6, 7, 8, 9, 10, 11, 12, 13, 14, 15, 16, 17, 18, 19, 20, 21, 22, 23, 24, 25, 26, 27, 28, 29, 30, 31, 32, 33, 34, 35, 36, 37, 38, 39, 40, 41, 42, 43, 44, 45, 46, 47, 48, 49, 50, 51, 52, 53, 54, 55, 56, 57, 58, 59, 60, 61, 62, 63, 64, 65, 66, 67, 68, 69, 70, 71, 72, 73, 74, 75, 76, 77, 78, 79, 80, 81, 82, 83, 84, 85, 86, 87, 88, 89, 90, 91, 92, 93, 94, 95, 96, 97, 98, 99, 100, 101, 102, 103, 104, 105, 106, 107, 108, 109, 110, 111] (wB c s p t e o oh h k q s1 p1 s2 p2 t1 t2) (s_X8_refuseBad c s p t e o oh h k q s1 p1 s2 p2 t1 t2 ((Int32.ofInt (-2)))) rfl cwX8_refuseBad dX8_image_12 rfl rfl (hm63_B_B _ _ _ _ _ _ _ _ _ _ _ _ _ _ _ _) ((len_B _ _ _ _ _ _ _ _ _ _ _ _ _ _ _ _).trans (len_B _ _ _ _ _ _ _ _ _ _ _ _ _ _ _ _).symm) (wB ((f_X8_refuseBad c s p t e o oh h k q s1 p1 s2 p2 t1 t2 ((Int32.ofInt (-2)))).2) s p t e o oh h k q s1 p1 s2 p2 t1 t2) (pw85_B_B _ _ _ _ _ _ _ _ _ _ _ _ _ _ _ _ _) ?_
    obtain ⟨g2, hg2⟩ : ∃ z, z = (f_X8_refuseBad c s p t e o oh h k q s1 p1 s2 p2 t1 t2 ((Int32.ofInt (-2)))) := ⟨_, rfl⟩
    try rw [← hg2] at hp
    try rw [← hg2] at hq
    rw [← hg2]
    refine g_blk hz0 kX8_image_15 ?_
    subst hq
    exact ⟨fun h => (by cases h), rfl, rfl⟩

set_option maxHeartbeats 16000000 in
theorem hm79_B_PP (c : Rec) (s : Rec) (p : Rec) (t : Rec) (e : Rec) (o : Rec) (oh : Rec) (h : Rec) (k : Rec) (q : Rec) (s1 : Rec) (p1 : Rec) (s2 : Rec) (p2 : Rec) (t1 : Rec) (t2 : Rec) : [1, 2, 3, 4, 5, 6, 7, 8, 9, 10, 11, 12, 68, 69, 70, 71, 72, 73, 74, 75, 76, 77, 78, 79].map (lk (wB c s p t e o oh h k q s1 p1 s2 p2 t1 t2)) = (wPP s p s1 p1).map (fun e => some (ren [1, 2, 3, 4, 5, 6, 7, 8, 9, 10, 11, 12, 68, 69, 70, 71, 72, 73, 74, 75, 76, 77, 78, 79] e)) := rfl
set_option maxHeartbeats 16000000 in
theorem pw111_B_PP (c : Rec) (s : Rec) (p : Rec) (t : Rec) (e : Rec) (o : Rec) (oh : Rec) (h : Rec) (k : Rec) (q : Rec) (s1 : Rec) (p1 : Rec) (s2 : Rec) (p2 : Rec) (t1 : Rec) (t2 : Rec) (s9 : Rec) (p9 : Rec) : putW (wB c s p t e o oh h k q s1 p1 s2 p2 t1 t2) [1, 2, 3, 4, 5, 6, 7, 8, 9, 10, 11, 12, 68, 69, 70, 71, 72, 73, 74, 75, 76, 77, 78, 79] ((wPP s9 p9 s1 p1).map (ren [1, 2, 3, 4, 5, 6, 7, 8, 9, 10, 11, 12, 68, 69, 70, 71, 72, 73, 74, 75, 76, 77, 78, 79])) = (wB c s9 p9 t e o oh h k q s1 p1 s2 p2 t1 t2) := rfl
set_option maxHeartbeats 16000000 in
theorem hm80_B_TT (c : Rec) (s : Rec) (p : Rec) (t : Rec) (e : Rec) (o : Rec) (oh : Rec) (h : Rec) (k : Rec) (q : Rec) (s1 : Rec) (p1 : Rec) (s2 : Rec) (p2 : Rec) (t1 : Rec) (t2 : Rec) : [13, 14, 15, 16, 17, 18, 19, 20, 21, 22, 80, 81, 82, 83, 84, 85, 86, 87, 88, 89].map (lk (wB c s p t e o oh h k q s1 p1 s2 p2 t1 t2)) = (wTT t t1).map (fun e => some (ren [13, 14, 15, 16, 17, 18, 19, 20, 21, 22, 80, 81, 82, 83, 84, 85, 86, 87, 88, 89] e)) := rfl
set_option maxHeartbeats 16000000 in
theorem pw112_B_TT (c : Rec) (s : Rec) (p : Rec) (t : Rec) (e : Rec) (o : Rec) (oh : Rec) (h : Rec) (k : Rec) (q : Rec) (s1 : Rec) (p1 : Rec) (s2 : Rec) (p2 : Rec) (t1 : Rec) (t2 : Rec) (t9 : Rec) : putW (wB c s p t e o oh h k q s1 p1 s2 p2 t1 t2) [13, 14, 15, 16, 17, 18, 19, 20, 21, 22, 80, 81, 82, 83, 84, 85, 86, 87, 88, 89] ((wTT t9 t1).map (ren [13, 14, 15, 16, 17, 18, 19, 20, 21, 22, 80, 81, 82, 83, 84, 85, 86, 87, 88, 89])) = (wB c s p t9 e o oh h k q s1 p1 s2 p2 t1 t2) := rfl
set_option maxHeartbeats 16000000 in
theorem hm81_B_PP (c : Rec) (s : Rec) (p : Rec) (t : Rec) (e : Rec) (o : Rec) (oh : Rec) (h : Rec) (k : Rec) (q : Rec) (s1 : Rec) (p1 : Rec) (s2 : Rec) (p2 : Rec) (t1 : Rec) (t2 : Rec) : [1, 2, 3, 4, 5, 6, 7, 8, 9, 10, 11, 12, 90, 91, 92, 93, 94, 95, 96, 97, 98, 99, 100, 101].map (lk (wB c s p t e o oh h k q s1 p1 s2 p2 t1 t2)) = (wPP s p s2 p2).map (fun e => some (ren [1, 2, 3, 4, 5, 6, 7, 8, 9, 10, 11, 12, 90, 91, 92, 93, 94, 95, 96, 97, 98, 99, 100, 101] e)) := rfl
set_option maxHeartbeats 16000000 in
theorem pw113_B_PP (c : Rec) (s : Rec) (p : Rec) (t : Rec) (e : Rec) (o : Rec) (oh : Rec) (h : Rec) (k : Rec) (q : Rec) (s1 : Rec) (p1 : Rec) (s2 : Rec) (p2 : Rec) (t1 : Rec) (t2 : Rec) (s9 : Rec) (p9 : Rec) : putW (wB c s p t e o oh h k q s1 p1 s2 p2 t1 t2) [1, 2, 3, 4, 5, 6, 7, 8, 9, 10, 11, 12, 90, 91, 92, 93, 94, 95, 96, 97, 98, 99, 100, 101] ((wPP s9 p9 s2 p2).map (ren [1, 2, 3, 4, 5, 6, 7, 8, 9, 10, 11, 12, 90, 91, 92, 93, 94, 95, 96, 97, 98, 99, 100, 101])) = (wB c s9 p9 t e o oh h k q s1 p1 s2 p2 t1 t2) := rfl
set_option maxHeartbeats 16000000 in
theorem hm82_B_TT (c : Rec) (s : Rec) (p : Rec) (t : Rec) (e : Rec) (o : Rec) (oh : Rec) (h : Rec) (k : Rec) (q : Rec) (s1 : Rec) (p1 : Rec) (s2 : Rec) (p2 : Rec) (t1 : Rec) (t2 : Rec) : [13, 14, 15, 16, 17, 18, 19, 20, 21, 22, 102, 103, 104, 105, 106, 107, 108, 109, 110, 111].map (lk (wB c s p t e o oh h k q s1 p1 s2 p2 t1 t2)) = (wTT t t2).map (fun e => some (ren [13, 14, 15, 16, 17, 18, 19, 20, 21, 22, 102, 103, 104, 105, 106, 107, 108, 109, 110, 111] e)) := rfl
set_option maxHeartbeats 16000000 in
theorem pw114_B_TT (c : Rec) (s : Rec) (p : Rec) (t : Rec) (e : Rec) (o : Rec) (oh : Rec) (h : Rec) (k : Rec) (q : Rec) (s1 : Rec) (p1 : Rec) (s2 : Rec) (p2 : Rec) (t1 : Rec) (t2 : Rec) (t9 : Rec) : putW (wB c s p t e o oh h k q s1 p1 s2 p2 t1 t2) [13, 14, 15, 16, 17, 18, 19, 20, 21, 22, 102, 103, 104, 105, 106, 107, 108, 109, 110, 111] ((wTT t9 t2).map (ren [13, 14, 15, 16, 17, 18, 19, 20, 21, 22, 102, 103, 104, 105, 106, 107, 108, 109, 110, 111])) = (wB c s p t9 e o oh h k q s1 p1 s2 p2 t1 t2) := rfl
def f_X8_from (c : Rec) (s : Rec) (p : Rec) (t : Rec) (e : Rec) (o : Rec) (oh : Rec) (h : Rec) (k : Rec) (q : Rec) (s1 : Rec) (p1 : Rec) (s2 : Rec) (p2 : Rec) (t1 : Rec) (t2 : Rec) (i : Int32) : Int32 × Rec × Rec × Rec × Rec × Rec := if (f_X8_within i ((Int32.ofInt 0)) ((Int32.ofInt 1))) = 0 then (((f_X8_refuseBad c s p t e o oh h k q s1 p1 s2 p2 t1 t2 ((Int32.ofInt (-2)))).1), ((f_X8_refuseBad c s p t e o oh h k q s1 p1 s2 p2 t1 t2 ((Int32.ofInt (-2)))).2), s, p, t, q) else (if ((c.2 9) (Int32.toNatClampNeg i)) = 0 then (((f_X8_refuseNo c s p t e o oh h k q s1 p1 s2 p2 t1 t2 ((Int32.ofInt (-3)))).1), ((f_X8_refuseNo c s p t e o oh h k q s1 p1 s2 p2 t1 t2 ((Int32.ofInt (-3)))).2), s, p, t, q) else (if i = (Int32.ofInt 0) then ((Int32.ofInt 1), c, ((f_X3_copy s p s1 p1).1), ((f_X3_copy s p s1 p1).2), (f_X2_copy t t1), (f_X5_forget q)) else (if i = (Int32.ofInt 1) then ((Int32.ofInt 1), c, ((f_X3_copy s p s2 p2).1), ((f_X3_copy s p s2 p2).2), (f_X2_copy t t2), (f_X5_forget q)) else (0, c, s, p, t, q))))
def p_X8_from (c : Rec) (s : Rec) (p : Rec) (t : Rec) (e : Rec) (o : Rec) (oh : Rec) (h : Rec) (k : Rec) (q : Rec) (s1 : Rec) (p1 : Rec) (s2 : Rec) (p2 : Rec) (t1 : Rec) (t2 : Rec) (i : Int32) : Prop := ((f_X8_within i ((Int32.ofInt 0)) ((Int32.ofInt 1))) = 0 → True) ∧ (¬ ((f_X8_within i ((Int32.ofInt 0)) ((Int32.ofInt 1))) = 0) → (vp_in i 2 ∧ ((((c.2 9) (Int32.toNatClampNeg i)) = 0 → True) ∧ (¬ (((c.2 9) (Int32.toNatClampNeg i)) = 0) → ((i = (Int32.ofInt 0) → ((p_X3_copy s p s1 p1) ∧ ((p_X2_copy t t1) ∧ True))) ∧ (¬ (i = (Int32.ofInt 0)) → ((i = (Int32.ofInt 1) → ((p_X3_copy s p s2 p2) ∧ ((p_X2_copy t t2) ∧ True))) ∧ (¬ (i = (Int32.ofInt 1)) → (False)))))))))
set_option maxHeartbeats 16000000 in
set_option maxRecDepth 20000 in
theorem s_X8_from (c : Rec) (s : Rec) (p : Rec) (t : Rec) (e : Rec) (o : Rec) (oh : Rec) (h : Rec) (k : Rec) (q : Rec) (s1 : Rec) (p1 : Rec) (s2 : Rec) (p2 : Rec) (t1 : Rec) (t2 : Rec) (i : Int32) (hp : p_X8_from c s p t e o oh h k q s1 p1 s2 p2 t1 t2 i) : Spec 3 0 0 mX8_from [.ref 0, .int i] (wB c s p t e o oh h k q s1 p1 s2 p2 t1 t2) (Ret (some (.int ((f_X8_from c s p t e o oh h k q s1 p1 s2 p2 t1 t2 i).1))) (wB ((f_X8_from c s p t e o oh h k q s1 p1 s2 p2 t1 t2 i).2.1) ((f_X8_from c s p t e o oh h k q s1 p1 s2 p2 t1 t2 i).2.2.1) ((f_X8_from c s p t e o oh h k q s1 p1 s2 p2 t1 t2 i).2.2.2.1) ((f_X8_from c s p t e o oh h k q s1 p1 s2 p2 t1 t2 i).2.2.2.2.1) e o oh h k ((f_X8_from c s p t e o oh h k q s1 p1 s2 p2 t1 t2 i).2.2.2.2.2) s1 p1 s2 p2 t1 t2)) := by
  obtain ⟨zq, hq⟩ : ∃ z, z = (f_X8_from c s p t e o oh h k q s1 p1 s2 p2 t1 t2 i) := ⟨_, rfl⟩
  rw [← hq]
  unfold f_X8_from at hq
  unfold p_X8_from at hp
  refine Sof fun sc => ?_
  refine g_blk hz0 kX8_from_0 ?_
  refine cS0 (s_X8_within i ((Int32.ofInt 0)) ((Int32.ofInt 1))) rfl cwX8_within dX8_from_3 rfl ?_
  refine g_blk hz0 kX8_from_6 ?_
  refine ⟨fun c1 => ?_, fun c1 => ?_⟩
  · rw [if_neg (show ¬ ((f_X8_within i ((Int32.ofInt 0)) ((Int32.ofInt 1))) = 0) from c1)] at hq
    replace hp := hp.2 c1
    refine g_blk hz0 kX8_from_16 ?_
    refine ⟨hp.1, ?_⟩
    replace hp := hp.2
    refine ⟨fun c3 => ?_, fun c3 => ?_⟩
    · rw [if_neg (show ¬ (((c.2 9) (Int32.toNatClampNeg i)) = 0) from c3)] at hq
      replace hp := hp.2 c3
      refine g_blk hz0 kX8_from_32 ?_
      by_cases e5 : i = (Int32.ofInt 0)
      · rw [if_pos e5] at hq
        replace hp := hp.1 e5
        refine ⟨(show vp_in i 2 from by rw [e5]; exact vinL (by decide)), 68, (show rowF [68, 90] (Int32.toNatClampNeg i) = some 68 from by rw [e5]; rfl), ?_⟩
        refine cV [1, 2, 3, 4, 5, 6, 7, 8, 9, 10, 11, 12, 68, 69, 70, 71, 72, 73, 74, 75, 76, 77, 78, 79] (wPP s p s1 p1) (s_X3_copy s p s1 p1 hp.1) rfl cwX3_copy dX8_from_42 rfl rfl (hm79_B_PP _ _ _ _ _ _ _ _ _ _ _ _ _ _ _ _) ((len_PP _ _ _ _).trans (len_PP _ _ _ _).symm) (wB c ((f_X3_copy s p s1 p1).1) ((f_X3_copy s p s1 p1).2) t e o oh h k q s1 p1 s2 p2 t1 t2) (pw111_B_PP _ _ _ _ _ _ _ _ _ _ _ _ _ _ _ _ _ _) ?_
        replace hp := hp.2
        obtain ⟨g6, hg6⟩ : ∃ z, z = (f_X3_copy s p s1 p1) := ⟨_, rfl⟩
        try rw [← hg6] at hp
        try rw [← hg6] at hq
        rw [← hg6]
        refine g_blk hz0 kX8_from_45 ?_
        refine ⟨(show vp_in i 2 from by rw [e5]; exact vinL (by decide)), 80, (show rowF [80, 102] (Int32.toNatClampNeg i) = some 80 from by rw [e5]; rfl), ?_⟩
        refine cV [13, 14, 15, 16, 17, 18, 19, 20, 21, 22, 80, 81, 82, 83, 84, 85, 86, 87, 88, 89] (wTT t t1) (s_X2_copy t t1 hp.1) rfl cwX2_copy dX8_from_55 rfl rfl (hm80_B_TT _ _ _ _ _ _ _ _ _ _ _ _ _ _ _ _) ((len_TT _ _).trans (len_TT _ _).symm) (wB c (g6.1) (g6.2) (f_X2_copy t t1) e o oh h k q s1 p1 s2 p2 t1 t2) (pw112_B_TT _ _ _ _ _ _ _ _ _ _ _ _ _ _ _ _ _) ?_
        replace hp := hp.2
        obtain ⟨g7, hg7⟩ : ∃ z, z = (f_X2_copy t t1) := ⟨_, rfl⟩
        try rw [← hg7] at hp
        try rw [← hg7] at hq
        rw [← hg7]
        refine g_blk hz0 kX8_from_58 ?_
        refine cV [50, 51, 52, 53, 54, 55, 56, 57, 58, 59, 60, 61, 62, 63] (wQ q) (s_X5_forget q) rfl cwX5_forget dX8_from_62 rfl rfl (hm66_B_Q _ _ _ _ _ _ _ _ _ _ _ _ _ _ _ _) ((len_Q _).trans (len_Q _).symm) (wB c (g6.1) (g6.2) g7 e o oh h k (f_X5_forget q) s1 p1 s2 p2 t1 t2) (pw88_B_Q _ _ _ _ _ _ _ _ _ _ _ _ _ _ _ _ _) ?_
        obtain ⟨g8, hg8⟩ : ∃ z, z = (f_X5_forget q) := ⟨_, rfl⟩
        try rw [← hg8] at hp
        try rw [← hg8] at hq
        rw [← hg8]
        refine g_blk hz0 kX8_from_65 ?_
        subst hq
        exact ⟨fun h => (by cases h), rfl, rfl⟩
      · rw [if_neg e5] at hq
        replace hp := hp.2 e5
        by_cases e9 : i = (Int32.ofInt 1)
        · rw [if_pos e9] at hq
          replace hp := hp.1 e9
          refine ⟨(show vp_in i 2 from by rw [e9]; exact vinL (by decide)), 90, (show rowF [68, 90] (Int32.toNatClampNeg i) = some 90 from by rw [e9]; rfl), ?_⟩
          refine cV [1, 2, 3, 4, 5, 6, 7, 8, 9, 10, 11, 12, 90, 91, 92, 93, 94, 95, 96, 97, 98, 99, 100, 101] (wPP s p s2 p2) (s_X3_copy s p s2 p2 hp.1) rfl cwX3_copy dX8_from_42 rfl rfl (hm81_B_PP _ _ _ _ _ _ _ _ _ _ _ _ _ _ _ _) ((len_PP _ _ _ _).trans (len_PP _ _ _ _).symm) (wB c ((f_X3_copy s p s2 p2).1) ((f_X3_copy s p s2 p2).2) t e o oh h k q s1 p1 s2 p2 t1 t2) (pw113_B_PP _ _ _ _ _ _ _ _ _ _ _ _ _ _ _ _ _ _) ?_
          replace hp := hp.2
          obtain ⟨g10, hg10⟩ : ∃ z, z = (f_X3_copy s p s2 p2) := ⟨_, rfl⟩
          try rw [← hg10] at hp
          try rw [← hg10] at hq
          rw [← hg10]
          refine g_blk hz0 kX8_from_45 ?_
          refine ⟨(show vp_in i 2 from by rw [e9]; exact vinL (by decide)), 102, (show rowF [80, 102] (Int32.toNatClampNeg i) = some 102 from by rw [e9]; rfl), ?_⟩
          refine cV [13, 14, 15, 16, 17, 18, 19, 20, 21, 22, 102, 103, 104, 105, 106, 107, 108, 109, 110, 111] (wTT t t2) (s_X2_copy t t2 hp.1) rfl cwX2_copy dX8_from_55 rfl rfl (hm82_B_TT _ _ _ _ _ _ _ _ _ _ _ _ _ _ _ _) ((len_TT _ _).trans (len_TT _ _).symm) (wB c (g10.1) (g10.2) (f_X2_copy t t2) e o oh h k q s1 p1 s2 p2 t1 t2) (pw114_B_TT _ _ _ _ _ _ _ _ _ _ _ _ _ _ _ _ _) ?_
          replace hp := hp.2
          obtain ⟨g11, hg11⟩ : ∃ z, z = (f_X2_copy t t2) := ⟨_, rfl⟩
          try rw [← hg11] at hp
          try rw [← hg11] at hq
          rw [← hg11]
          refine g_blk hz0 kX8_from_58 ?_
          refine cV [50, 51, 52, 53, 54, 55, 56, 57, 58, 59, 60, 61, 62, 63] (wQ q) (s_X5_forget q) rfl cwX5_forget dX8_from_62 rfl rfl (hm66_B_Q _ _ _ _ _ _ _ _ _ _ _ _ _ _ _ _) ((len_Q _).trans (len_Q _).symm) (wB c (g10.1) (g10.2) g11 e o oh h k (f_X5_forget q) s1 p1 s2 p2 t1 t2) (pw88_B_Q _ _ _ _ _ _ _ _ _ _ _ _ _ _ _ _ _) ?_
          obtain ⟨g12, hg12⟩ : ∃ z, z = (f_X5_forget q) := ⟨_, rfl⟩
          try rw [← hg12] at hp
          try rw [← hg12] at hq
          rw [← hg12]
          refine g_blk hz0 kX8_from_65 ?_
          subst hq
          exact ⟨fun h => (by cases h), rfl, rfl⟩
        · rw [if_neg e9] at hq
          replace hp := hp.2 e9
          exact hp.elim
    · rw [if_pos (show ((c.2 9) (Int32.toNatClampNeg i)) = 0 from c3)] at hq
      refine g_blk hz0 kX8_from_25 ?_
      refine cV [0, 1, 2, 3, 4, 5, 6, 7, 8, 9, 10, 11, 12, 13, 14, 15, 16, 17, 18, 19, 20, 21, 22, 23, 24, 25, 26, 27, 28, 29, 30, 31, 32, 33, 34, 35, 36, 37, 38, 39, 40, 41, 42, 43, 44, 45, 46, 47, 48, 49, 50, 51, 52, 53, 54, 55, 56, 57, 58, 59, 60, 61, 62, 63, 64, 65, 66, 67, 68, 69, 70, 71, 72, 73, 74, 75, 76, 77, 78, 79, 80, 81, 82, 83, 84, 85, 86, 87, 88, 89, 90, 91, 92, 93, 94, 95, 96, 97, 98, 99, 100, 101, 102, 103, 104, 105, 106, 107, 108, 109, 110, 111] (wB c s p t e o oh h k q s1 p1 s2 p2 t1 t2) (s_X8_refuseNo c s p t e o oh h k q s1 p1 s2 p2 t1 t2 ((Int32.ofInt (-3)))) rfl cwX8_refuseNo dX8_from_28 rfl rfl (hm63_B_B _ _ _ _ _ _ _ _ _ _ _ _ _ _ _ _) ((len_B _ _ _ _ _ _ _ _ _ _ _ _ _ _ _ _).trans (len_B _ _ _ _ _ _ _ _ _ _ _ _ _ _ _ _).symm) (wB ((f_X8_refuseNo c s p t e o oh h k q s1 p1 s2 p2 t1 t2 ((Int32.ofInt (-3)))).2) s p t e o oh h k q s1 p1 s2 p2 t1 t2) (pw85_B_B _ _ _ _ _ _ _ _ _ _ _ _ _ _ _ _ _) ?_
      obtain ⟨g4, hg4⟩ : ∃ z, z = (f_X8_refuseNo c s p t e o oh h k q s1 p1 s2 p2 t1 t2 ((Int32.ofInt (-3)))) := ⟨_, rfl⟩
      try rw [← hg4] at hp
      try rw [← hg4] at hq
      rw [← hg4]
      refine g_blk hz0 kX8_from_31 ?_
      subst hq
      exact ⟨fun h => (by cases h), rfl, rfl⟩
  · rw [if_pos (show (f_X8_within i ((Int32.ofInt 0)) ((Int32.ofInt 1))) = 0 from c1)] at hq
    refine g_blk hz0 kX8_from_9 ?_
    refine cV [0, 1, 2, 3, 4, 5, 6, 7, 8, 9, 10, 11, 12, 13, 14, 15, 16, 17, 18, 19, 20, 21, 22, 23, 24, 25, 26, 27, 28, 29, 30, 31, 32, 33, 34, 35, 36, 37, 38, 39, 40, 41, 42, 43, 44, 45, 46, 47, 48, 49, 50, 51, 52, 53, 54, 55, 56, 57, 58, 59, 60, 61, 62, 63, 64, 65, 66, 67, 68, 69, 70, 71, 72, 73, 74, 75, 76, 77, 78, 79, 80, 81, 82, 83, 84, 85, 86, 87, 88, 89, 90, 91, 92, 93, 94, 95, 96, 97, 98, 99, 100, 101, 102, 103, 104, 105, 106, 107, 108, 109, 110, 111] (wB c s p t e o oh h k q s1 p1 s2 p2 t1 t2) (s_X8_refuseBad c s p t e o oh h k q s1 p1 s2 p2 t1 t2 ((Int32.ofInt (-2)))) rfl cwX8_refuseBad dX8_from_12 rfl rfl (hm63_B_B _ _ _ _ _ _ _ _ _ _ _ _ _ _ _ _) ((len_B _ _ _ _ _ _ _ _ _ _ _ _ _ _ _ _).trans (len_B _ _ _ _ _ _ _ _ _ _ _ _ _ _ _ _).symm) (wB ((f_X8_refuseBad c s p t e o oh h k q s1 p1 s2 p2 t1 t2 ((Int32.ofInt (-2)))).2) s p t e o oh h k q s1 p1 s2 p2 t1 t2) (pw85_B_B _ _ _ _ _ _ _ _ _ _ _ _ _ _ _ _ _) ?_
    obtain ⟨g2, hg2⟩ : ∃ z, z = (f_X8_refuseBad c s p t e o oh h k q s1 p1 s2 p2 t1 t2 ((Int32.ofInt (-2)))) := ⟨_, rfl⟩
    try rw [← hg2] at hp
    try rw [← hg2] at hq
    rw [← hg2]
    refine g_blk hz0 kX8_from_15 ?_
    subst hq
    exact ⟨fun h => (by cases h), rfl, rfl⟩
