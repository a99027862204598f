def f_X8_state (c : Rec) (s : Rec) (p : Rec) (t : Rec) (e : Rec) (o : Rec) (oh : Rec) (h : Rec) (k : Rec) (q : Rec) (s1 : Rec) (p1 : Rec) (s2 : Rec) (p2 : Rec) (t1 : Rec) (t2 : Rec) (w : Int32) : Int32 × Rec := if (Int32.toInt w) < 0 ∨ 5 < (Int32.toInt w) then (((f_X8_refuseBad c s p t e o oh h k q s1 p1 s2 p2 t1 t2 ((Int32.ofInt (-10)))).1), ((f_X8_refuseBad c s p t e o oh h k q s1 p1 s2 p2 t1 t2 ((Int32.ofInt (-10)))).2)) else (if (Int32.toInt w) = 0 then ((p.1 6), c) else (if (Int32.toInt w) = 1 then ((f_X3_onTurn s p), c) else (if (Int32.toInt w) = 2 then ((p.1 7), c) else (if (Int32.toInt w) = 3 then ((s.1 2), c) else (if (Int32.toInt w) = 4 then ((f_X3_behindNow s p), c) else ((f_X3_winner s p), c))))))
def p_X8_state (c : Rec) (s : Rec) (p : Rec) (t : Rec) (e : Rec) (o : Rec) (oh : Rec) (h : Rec) (k : Rec) (q : Rec) (s1 : Rec) (p1 : Rec) (s2 : Rec) (p2 : Rec) (t1 : Rec) (t2 : Rec) (w : Int32) : Prop := ((Int32.toInt w) < 0 ∨ 5 < (Int32.toInt w) → True) ∧ (¬ ((Int32.toInt w) < 0 ∨ 5 < (Int32.toInt w)) → (((Int32.toInt w) = 0 → True) ∧ (¬ ((Int32.toInt w) = 0) → (((Int32.toInt w) = 1 → True) ∧ (¬ ((Int32.toInt w) = 1) → (((Int32.toInt w) = 2 → True) ∧ (¬ ((Int32.toInt w) = 2) → (((Int32.toInt w) = 3 → True) ∧ (¬ ((Int32.toInt w) = 3) → (((Int32.toInt w) = 4 → ((p_X3_behindNow s p) ∧ True)) ∧ (¬ ((Int32.toInt w) = 4) → ((p_X3_winner s p) ∧ True))))))))))))
set_option maxHeartbeats 16000000 in
set_option maxRecDepth 20000 in
theorem s_X8_state (c : Rec) (s : Rec) (p : Rec) (t : Rec) (e : Rec) (o : Rec) (oh : Rec) (h : Rec) (k : Rec) (q : Rec) (s1 : Rec) (p1 : Rec) (s2 : Rec) (p2 : Rec) (t1 : Rec) (t2 : Rec) (w : Int32) (hp : p_X8_state c s p t e o oh h k q s1 p1 s2 p2 t1 t2 w) : Spec 3 0 0 mX8_state [.ref 0, .int w] (wB c s p t e o oh h k q s1 p1 s2 p2 t1 t2) (Ret (some (.int ((f_X8_state c s p t e o oh h k q s1 p1 s2 p2 t1 t2 w).1))) (wB ((f_X8_state c s p t e o oh h k q s1 p1 s2 p2 t1 t2 w).2) s p t e o oh h k q s1 p1 s2 p2 t1 t2)) := by
  obtain ⟨zq, hq⟩ : ∃ z, z = (f_X8_state c s p t e o oh h k q s1 p1 s2 p2 t1 t2 w) := ⟨_, rfl⟩
  rw [← hq]
  unfold f_X8_state at hq
  unfold p_X8_state at hp
  refine Sof fun sc => ?_
  refine g_blk hz0 kX8_state_0 ?_
  refine g_tsw dX8_state_1 (by decide +kernel) (by decide +kernel) (by decide +kernel) (fun c1 => ?_) (fun j o hj hx => ?_)
  · rw [if_pos (show (Int32.toInt w) < 0 ∨ 5 < (Int32.toInt w) from c1)] at hq
    refine g_blk hz0 kX8_state_91 ?_
    refine cV [0, 1, 2, 3, 4, 5, 6, 7, 8, 9, 10, 11, 12, 13, 14, 15, 16, 17, 18, 19, 20, 21, 22, 23, 24, 25, 26, 27, 28, 29, 30, 31, 32, 33, 34, 35, 36, 37, 38, 39, 40, 41, 42, 43, 44, 45, 46, 47, 48, 49, 50, 51, 52, 53, 54, 55, 56, 57, 58, 59, 60, 61, 62, 63, 64, 65, 66, 67, 68, 69, 70, 71, 72, 73, 74, 75, 76, 77, 78, 79, 80, 81, 82, 83, 84, 85, 86, 87, 88, 89, 90, 91, 92, 93, 94, 95, 96, 97, 98, 99, 100, 101, 102, 103, 104, 105, 106, 107, 108, 109, 110, 111] (wB c s p t e o oh h k q s1 p1 s2 p2 t1 t2) (s_X8_refuseBad c s p t e o oh h k q s1 p1 s2 p2 t1 t2 ((Int32.ofInt (-10)))) rfl cwX8_refuseBad dX8_state_94 rfl rfl (hm63_B_B _ _ _ _ _ _ _ _ _ _ _ _ _ _ _ _) ((len_B _ _ _ _ _ _ _ _ _ _ _ _ _ _ _ _).trans (len_B _ _ _ _ _ _ _ _ _ _ _ _ _ _ _ _).symm) (wB ((f_X8_refuseBad c s p t e o oh h k q s1 p1 s2 p2 t1 t2 ((Int32.ofInt (-10)))).2) s p t e o oh h k q s1 p1 s2 p2 t1 t2) (pw85_B_B _ _ _ _ _ _ _ _ _ _ _ _ _ _ _ _ _) ?_
    obtain ⟨g2, hg2⟩ : ∃ z, z = (f_X8_refuseBad c s p t e o oh h k q s1 p1 s2 p2 t1 t2 ((Int32.ofInt (-10)))) := ⟨_, rfl⟩
    try rw [← hg2] at hp
    try rw [← hg2] at hq
    rw [← hg2]
    refine g_blk hz0 kX8_state_97 ?_
    subst hq
    exact ⟨fun h => (by cases h), rfl, rfl⟩
  · rcases j with _ | _ | _ | _ | _ | _ | j
    · have ho : o = 39 := by simpa using hj.symm
      subst ho
      have hx2 : (Int32.toInt w) = 0 := by simpa using hx
      rw [if_neg (show ¬ ((Int32.toInt w) < 0 ∨ 5 < (Int32.toInt w)) by omega)] at hq
      replace hp := hp.2 (by omega)
      rw [if_pos (show (Int32.toInt w) = 0 from hx2)] at hq
      refine g_blk hz0 kX8_state_40 ?_
      subst hq
      exact ⟨fun h => (by cases h), rfl, rfl⟩
    · have ho : o = 47 := by simpa using hj.symm
      subst ho
      have hx2 : (Int32.toInt w) = 1 := by simpa using hx
      rw [if_neg (show ¬ ((Int32.toInt w) < 0 ∨ 5 < (Int32.toInt w)) by omega)] at hq
      replace hp := hp.2 (by omega)
      rw [if_neg (show ¬ ((Int32.toInt w) = 0) by omega)] at hq
      replace hp := hp.2 (by omega)
      rw [if_pos (show (Int32.toInt w) = 1 from hx2)] at hq
      refine g_blk hz0 kX8_state_48 ?_
      refine cVp [1, 2, 3, 4, 5, 6, 7, 8, 9, 10, 11, 12] (wP s p) (s_X3_onTurn s p) rfl cwX3_onTurn dX8_state_52 rfl rfl (hm64_B_P _ _ _ _ _ _ _ _ _ _ _ _ _ _ _ _) ?_
      refine g_blk hz0 kX8_state_55 ?_
      subst hq
      exact ⟨fun h => (by cases h), rfl, rfl⟩
    · have ho : o = 55 := by simpa using hj.symm
      subst ho
      have hx2 : (Int32.toInt w) = 2 := by simpa using hx
      rw [if_neg (show ¬ ((Int32.toInt w) < 0 ∨ 5 < (Int32.toInt w)) by omega)] at hq
      replace hp := hp.2 (by omega)
      rw [if_neg (show ¬ ((Int32.toInt w) = 0) by omega)] at hq
      replace hp := hp.2 (by omega)
      rw [if_neg (show ¬ ((Int32.toInt w) = 1) by omega)] at hq
      replace hp := hp.2 (by omega)
      rw [if_pos (show (Int32.toInt w) = 2 from hx2)] at hq
      refine g_blk hz0 kX8_state_56 ?_
      subst hq
      exact ⟨fun h => (by cases h), rfl, rfl⟩
    · have ho : o = 63 := by simpa using hj.symm
      subst ho
      have hx2 : (Int32.toInt w) = 3 := by simpa using hx
      rw [if_neg (show ¬ ((Int32.toInt w) < 0 ∨ 5 < (Int32.toInt w)) by omega)] at hq
      replace hp := hp.2 (by omega)
      rw [if_neg (show ¬ ((Int32.toInt w) = 0) by omega)] at hq
      replace hp := hp.2 (by omega)
      rw [if_neg (show ¬ ((Int32.toInt w) = 1) by omega)] at hq
      replace hp := hp.2 (by omega)
      rw [if_neg (show ¬ ((Int32.toInt w) = 2) by omega)] at hq
      replace hp := hp.2 (by omega)
      rw [if_pos (show (Int32.toInt w) = 3 from hx2)] at hq
      refine g_blk hz0 kX8_state_64 ?_
      subst hq
      exact ⟨fun h => (by cases h), rfl, rfl⟩
    · have ho : o = 74 := by simpa using hj.symm
      subst ho
      have hx2 : (Int32.toInt w) = 4 := by simpa using hx
      rw [if_neg (show ¬ ((Int32.toInt w) < 0 ∨ 5 < (Int32.toInt w)) by omega)] at hq
      replace hp := hp.2 (by omega)
      rw [if_neg (show ¬ ((Int32.toInt w) = 0) by omega)] at hq
      replace hp := hp.2 (by omega)
      rw [if_neg (show ¬ ((Int32.toInt w) = 1) by omega)] at hq
      replace hp := hp.2 (by omega)
      rw [if_neg (show ¬ ((Int32.toInt w) = 2) by omega)] at hq
      replace hp := hp.2 (by omega)
      rw [if_neg (show ¬ ((Int32.toInt w) = 3) by omega)] at hq
      replace hp := hp.2 (by omega)
      rw [if_pos (show (Int32.toInt w) = 4 from hx2)] at hq
      replace hp := hp.1 hx2
      refine g_blk hz0 kX8_state_75 ?_
      refine cVp [1, 2, 3, 4, 5, 6, 7, 8, 9, 10, 11, 12] (wP s p) (s_X3_behindNow s p hp.1) rfl cwX3_behindNow dX8_state_79 rfl rfl (hm64_B_P _ _ _ _ _ _ _ _ _ _ _ _ _ _ _ _) ?_
      replace hp := hp.2
      refine g_blk hz0 kX8_state_82 ?_
      subst hq
      exact ⟨fun h => (by cases h), rfl, rfl⟩
    · have ho : o = 82 := by simpa using hj.symm
      subst ho
      have hx2 : (Int32.toInt w) = 5 := by simpa using hx
      rw [if_neg (show ¬ ((Int32.toInt w) < 0 ∨ 5 < (Int32.toInt w)) by omega)] at hq
      replace hp := hp.2 (by omega)
      rw [if_neg (show ¬ ((Int32.toInt w) = 0) by omega)] at hq
      replace hp := hp.2 (by omega)
      rw [if_neg (show ¬ ((Int32.toInt w) = 1) by omega)] at hq
      replace hp := hp.2 (by omega)
      rw [if_neg (show ¬ ((Int32.toInt w) = 2) by omega)] at hq
      replace hp := hp.2 (by omega)
      rw [if_neg (show ¬ ((Int32.toInt w) = 3) by omega)] at hq
      replace hp := hp.2 (by omega)
      rw [if_neg (show ¬ ((Int32.toInt w) = 4) by omega)] at hq
      replace hp := hp.2 (by omega)
      refine g_blk hz0 kX8_state_83 ?_
      refine cVp [1, 2, 3, 4, 5, 6, 7, 8, 9, 10, 11, 12] (wP s p) (s_X3_winner s p hp.1) rfl cwX3_winner dX8_state_87 rfl rfl (hm64_B_P _ _ _ _ _ _ _ _ _ _ _ _ _ _ _ _) ?_
      replace hp := hp.2
      refine g_blk hz0 kX8_state_90 ?_
      subst hq
      exact ⟨fun h => (by cases h), rfl, rfl⟩
    · exact absurd hj (by simp)
