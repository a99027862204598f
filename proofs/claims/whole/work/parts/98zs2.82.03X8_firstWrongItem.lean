set_option maxHeartbeats 16000000 in
theorem pw101_B_B (c : Rec) (s : Rec) (p : Rec) (t : Rec) (e : Rec) (o : Rec) (oh : Rec) (h : Rec) (k : Rec) (q : Rec) (s1 : Rec) (p1 : Rec) (s2 : Rec) (p2 : Rec) (t1 : Rec) (t2 : Rec) (s9 : Rec) (p9 : Rec) : putW (wB c s p t e o oh h k q s1 p1 s2 p2 t1 t2) [0, 1, 2, 3, 4, 5, 6, 7, 8, 9, 10, 11, 12, 13, 14, 15, 16, 17, 18, 19, 20, 21, 22, 23, 24, 25, 26, 27, 28, 29, 30, 31, 32, 33, 34, 35, 36, 37, 38, 39, 40, 41, 42, 43, 44, 45, 46, 47, 48, 49, 50, 51, 52, 53, 54, 55, 56, 57, 58, 59, 60, 61, 62, 63, 64, 65, 66, 67, 68, 69, 70, 71, 72, 73, 74, 75, 76, 77, 78, 79, 80, 81, 82, 83, 84, 85, 86, 87, 88, 89, 90, 91, 92, 93, 94, 95, 96, 97, 98, 99, 100, 101, 102, 103, 104, 105, 106, 107, 108, 109, 110, 111] ((wB c s9 p9 t e o oh h k q s1 p1 s2 p2 t1 t2).map (ren [0, 1, 2, 3, 4, 5, 6, 7, 8, 9, 10, 11, 12, 13, 14, 15, 16, 17, 18, 19, 20, 21, 22, 23, 24, 25, 26, 27, 28, 29, 30, 31, 32, 33, 34, 35, 36, 37, 38, 39, 40, 41, 42, 43, 44, 45, 46, 47, 48, 49, 50, 51, 52, 53, 54, 55, 56, 57, 58, 59, 60, 61, 62, 63, 64, 65, 66, 67, 68, 69, 70, 71, 72, 73, 74, 75, 76, 77, 78, 79, 80, 81, 82, 83, 84, 85, 86, 87, 88, 89, 90, 91, 92, 93, 94, 95, 96, 97, 98, 99, 100, 101, 102, 103, 104, 105, 106, 107, 108, 109, 110, 111])) = (wB c s9 p9 t e o oh h k q s1 p1 s2 p2 t1 t2) := by
  exact pwI_B _ _ _ _ _ _ _ _ _ _ _ _ _ _ _ _ _ _ _ _ _ _ _ _ _ _ _ _ _ _ _ _
set_option maxHeartbeats 16000000 in
set_option maxRecDepth 20000 in
theorem l_X8_firstWrongItem_9 (sc : SC) (c : Rec) (t : Rec) (o : Rec) (oh : Rec) (h : Rec) (k : Rec) (q : Rec) (s1 : Rec) (p1 : Rec) (s2 : Rec) (p2 : Rec) (t1 : Rec) (t2 : Rec)  (zq : Int32 × Rec × Rec × Rec)  : ∀ (n : Nat) (s : Rec) (p : Rec) (e : Rec) (v1 : Int32), p_X8_firstWrongItem_9 n c s p t e o oh h k q s1 p1 s2 p2 t1 t2 v1 → zq = f_X8_firstWrongItem_9 n c s p t e o oh h k q s1 p1 s2 p2 t1 t2 v1 → Good sc 10 0 0 112 mX8_firstWrongItem (Ret (some (.int (zq.1))) (wB c (zq.2.1) (zq.2.2.1) t (zq.2.2.2) o oh h k q s1 p1 s2 p2 t1 t2)) 0 0 9 [some (.ref 0), some (.int v1)] [] (wB c s p t e o oh h k q s1 p1 s2 p2 t1 t2) := by
  intro n
  induction n with
  | zero => intro s p e v1 hp; exact hp.elim
  | succ n ih =>
    intro s p e v1 hp hq
    unfold p_X8_firstWrongItem_9 at hp
    unfold f_X8_firstWrongItem_9 at hq
    refine g_blk hz0 kX8_firstWrongItem_9 ?_
    refine ⟨fun c2 => ?_, fun c2 => ?_⟩
    · rw [if_pos (show (Int32.ofInt 200) ≤ v1 from c2)] at hq
      refine g_blk hz0 kX8_firstWrongItem_43 ?_
      subst hq
      exact ⟨fun h => (by cases h), rfl, rfl⟩
    · rw [if_neg (show ¬ ((Int32.ofInt 200) ≤ v1) from c2)] at hq
      replace hp := hp.2 c2
      refine g_blk hz0 kX8_firstWrongItem_16 ?_
      refine cV [23, 24, 25] (wE e) (s_X6_readItem e hp.1) rfl cwX6_readItem dX8_firstWrongItem_20 rfl rfl (hm71_B_E _ _ _ _ _ _ _ _ _ _ _ _ _ _ _ _) ((len_E _).trans (len_E _).symm) (wB c s p t ((f_X6_readItem e).2) o oh h k q s1 p1 s2 p2 t1 t2) (pw98_B_E _ _ _ _ _ _ _ _ _ _ _ _ _ _ _ _ _) ?_
      replace hp := hp.2
      obtain ⟨g3, hg3⟩ : ∃ z, z = (f_X6_readItem e) := ⟨_, rfl⟩
      try rw [← hg3] at hp
      try rw [← hg3] at hq
      rw [← hg3]
      refine g_blk hz0 kX8_firstWrongItem_23 ?_
      refine ⟨fun c4 => ?_, fun c4 => ?_⟩
      · rw [if_pos (show (g3.1) = 0 from c4)] at hq
        replace hp := hp.1 c4
        refine g_blk hz0 kX8_firstWrongItem_28 ?_
        refine cV [0, 1, 2, 3, 4, 5, 6, 7, 8, 9, 10, 11, 12, 13, 14, 15, 16, 17, 18, 19, 20, 21, 22, 23, 24, 25, 26, 27, 28, 29, 30, 31, 32, 33, 34, 35, 36, 37, 38, 39, 40, 41, 42, 43, 44, 45, 46, 47, 48, 49, 50, 51, 52, 53, 54, 55, 56, 57, 58, 59, 60, 61, 62, 63, 64, 65, 66, 67, 68, 69, 70, 71, 72, 73, 74, 75, 76, 77, 78, 79, 80, 81, 82, 83, 84, 85, 86, 87, 88, 89, 90, 91, 92, 93, 94, 95, 96, 97, 98, 99, 100, 101, 102, 103, 104, 105, 106, 107, 108, 109, 110, 111] (wB c s p t (g3.2) o oh h k q s1 p1 s2 p2 t1 t2) (s_X8_playItem c s p t (g3.2) o oh h k q s1 p1 s2 p2 t1 t2 hp.1) rfl cwX8_playItem dX8_firstWrongItem_29 rfl rfl (hm63_B_B _ _ _ _ _ _ _ _ _ _ _ _ _ _ _ _) ((len_B _ _ _ _ _ _ _ _ _ _ _ _ _ _ _ _).trans (len_B _ _ _ _ _ _ _ _ _ _ _ _ _ _ _ _).symm) (wB c ((f_X8_playItem c s p t (g3.2) o oh h k q s1 p1 s2 p2 t1 t2).2.1) ((f_X8_playItem c s p t (g3.2) o oh h k q s1 p1 s2 p2 t1 t2).2.2) t (g3.2) o oh h k q s1 p1 s2 p2 t1 t2) (pw101_B_B _ _ _ _ _ _ _ _ _ _ _ _ _ _ _ _ _ _) ?_
        replace hp := hp.2
        obtain ⟨g5, hg5⟩ : ∃ z, z = (f_X8_playItem c s p t (g3.2) o oh h k q s1 p1 s2 p2 t1 t2) := ⟨_, rfl⟩
        try rw [← hg5] at hp
        try rw [← hg5] at hq
        rw [← hg5]
        refine g_blk hz0 kX8_firstWrongItem_32 ?_
        refine ⟨fun c6 => ?_, fun c6 => ?_⟩
        · rw [if_neg (show ¬ ((g5.1) = 0) from c6)] at hq
          replace hp := hp.2 c6
          refine g_blk hz0 kX8_firstWrongItem_37 ?_
          refine g_le (L2 := [some (.ref 0), some (.int (v1 + (Int32.ofInt 1)))]) ⟨rfl, rfl, trivial⟩ ?_
          exact ih (g5.2.1) (g5.2.2) (g3.2) (v1 + (Int32.ofInt 1)) hp hq
        · rw [if_pos (show (g5.1) = 0 from c6)] at hq
          refine g_blk hz0 kX8_firstWrongItem_35 ?_
          subst hq
          exact ⟨fun h => (by cases h), rfl, rfl⟩
      · rw [if_neg (show ¬ ((g3.1) = 0) from c4)] at hq
        refine g_blk hz0 kX8_firstWrongItem_26 ?_
        subst hq
        exact ⟨fun h => (by cases h), rfl, rfl⟩
set_option maxHeartbeats 16000000 in
set_option maxRecDepth 20000 in
theorem s_X8_firstWrongItem (c : Rec) (s : Rec) (p : Rec) (t : Rec) (e : Rec) (o : Rec) (oh : Rec) (h : Rec) (k : Rec) (q : Rec) (s1 : Rec) (p1 : Rec) (s2 : Rec) (p2 : Rec) (t1 : Rec) (t2 : Rec)  (hp : p_X8_firstWrongItem c s p t e o oh h k q s1 p1 s2 p2 t1 t2) : Spec 10 0 0 mX8_firstWrongItem [.ref 0] (wB c s p t e o oh h k q s1 p1 s2 p2 t1 t2) (Ret (some (.int ((f_X8_firstWrongItem c s p t e o oh h k q s1 p1 s2 p2 t1 t2).1))) (wB c ((f_X8_firstWrongItem c s p t e o oh h k q s1 p1 s2 p2 t1 t2).2.1) ((f_X8_firstWrongItem c s p t e o oh h k q s1 p1 s2 p2 t1 t2).2.2.1) t ((f_X8_firstWrongItem c s p t e o oh h k q s1 p1 s2 p2 t1 t2).2.2.2) o oh h k q s1 p1 s2 p2 t1 t2)) := by
  obtain ⟨zq, hq⟩ : ∃ z, z = (f_X8_firstWrongItem c s p t e o oh h k q s1 p1 s2 p2 t1 t2) := ⟨_, rfl⟩
  rw [← hq]
  unfold f_X8_firstWrongItem at hq
  unfold p_X8_firstWrongItem at hp
  refine Sof fun sc => ?_
  refine g_blk hz0 kX8_firstWrongItem_0 ?_
  refine cV [23, 24, 25] (wE e) (s_X6_rewind e) rfl cwX6_rewind dX8_firstWrongItem_4 rfl rfl (hm71_B_E _ _ _ _ _ _ _ _ _ _ _ _ _ _ _ _) ((len_E _).trans (len_E _).symm) (wB c s p t (f_X6_rewind e) o oh h k q s1 p1 s2 p2 t1 t2) (pw98_B_E _ _ _ _ _ _ _ _ _ _ _ _ _ _ _ _ _) ?_
  obtain ⟨g1, hg1⟩ : ∃ z, z = (f_X6_rewind e) := ⟨_, rfl⟩
  try rw [← hg1] at hp
  try rw [← hg1] at hq
  rw [← hg1]
  refine g_blk hz0 kX8_firstWrongItem_7 ?_
  refine g_le (L2 := [some (.ref 0), some (.int (Int32.ofInt 0))]) ⟨rfl, rfl, trivial⟩ ?_
  exact l_X8_firstWrongItem_9 sc c t o oh h k q s1 p1 s2 p2 t1 t2 zq 300 s p g1 ((Int32.ofInt 0)) hp hq
