def f_X8_status (c : Rec) (s : Rec) (p : Rec) (t : Rec) (e : Rec) (o : Rec) (oh : Rec) (h : Rec) (k : Rec) (q : Rec) (s1 : Rec) (p1 : Rec) (s2 : Rec) (p2 : Rec) (t1 : Rec) (t2 : Rec) (w : Int32) : Int32 × Rec := if (Int32.toInt w) < 0 ∨ 2 < (Int32.toInt w) then (((f_X8_refuseBad c s p t e o oh h k q s1 p1 s2 p2 t1 t2 ((Int32.ofInt (-1)))).1), ((f_X8_refuseBad c s p t e o oh h k q s1 p1 s2 p2 t1 t2 ((Int32.ofInt (-1)))).2)) else (if (Int32.toInt w) = 0 then ((c.1 11), c) else (if (Int32.toInt w) = 1 then ((c.1 12), c) else ((c.1 13), c)))
set_option maxHeartbeats 16000000 in
set_option maxRecDepth 20000 in
theorem s_X8_status (c : Rec) (s : Rec) (p : Rec) (t : Rec) (e : Rec) (o : Rec) (oh : Rec) (h : Rec) (k : Rec) (q : Rec) (s1 : Rec) (p1 : Rec) (s2 : Rec) (p2 : Rec) (t1 : Rec) (t2 : Rec) (w : Int32) : Spec 1 0 0 mX8_status [.ref 0, .int w] (wB c s p t e o oh h k q s1 p1 s2 p2 t1 t2) (Ret (some (.int ((f_X8_status c s p t e o oh h k q s1 p1 s2 p2 t1 t2 w).1))) (wB ((f_X8_status c s p t e o oh h k q s1 p1 s2 p2 t1 t2 w).2) s p t e o oh h k q s1 p1 s2 p2 t1 t2)) := by
  obtain ⟨zq, hq⟩ : ∃ z, z = (f_X8_status c s p t e o oh h k q s1 p1 s2 p2 t1 t2 w) := ⟨_, rfl⟩
  rw [← hq]
  unfold f_X8_status at hq
  refine Sof fun sc => ?_
  refine g_blk hz0 kX8_status_0 ?_
  refine g_tsw dX8_status_1 (by decide +kernel) (by decide +kernel) (by decide +kernel) (fun c1 => ?_) (fun j o hj hx => ?_)
  · rw [if_pos (show (Int32.toInt w) < 0 ∨ 2 < (Int32.toInt w) from c1)] at hq
    refine g_blk hz0 kX8_status_43 ?_
    refine cV [0, 1, 2, 3, 4, 5, 6, 7, 8, 9, 10, 11, 12, 13, 14, 15, 16, 17, 18, 19, 20, 21, 22, 23, 24, 25, 26, 27, 28, 29, 30, 31, 32, 33, 34, 35, 36, 37, 38, 39, 40, 41, 42, 43, 44, 45, 46, 47, 48, 49, 50, 51, 52, 53, 54, 55, 56, 57, 58, 59, 60, 61, 62, 63, 64, 65, 66, 67, 68, 69, 70, 71, 72, 73, 74, 75, 76, 77, 78, 79, 80, 81, 82, 83, 84, 85, 86, 87, 88, 89, 90, 91, 92, 93, 94, 95, 96, 97, 98, 99, 100, 101, 102, 103, 104, 105, 106, 107, 108, 109, 110, 111] (wB c s p t e o oh h k q s1 p1 s2 p2 t1 t2) (s_X8_refuseBad c s p t e o oh h k q s1 p1 s2 p2 t1 t2 ((Int32.ofInt (-1)))) rfl cwX8_refuseBad dX8_status_45 rfl rfl (hm63_B_B _ _ _ _ _ _ _ _ _ _ _ _ _ _ _ _) ((len_B _ _ _ _ _ _ _ _ _ _ _ _ _ _ _ _).trans (len_B _ _ _ _ _ _ _ _ _ _ _ _ _ _ _ _).symm) (wB ((f_X8_refuseBad c s p t e o oh h k q s1 p1 s2 p2 t1 t2 ((Int32.ofInt (-1)))).2) s p t e o oh h k q s1 p1 s2 p2 t1 t2) (pw85_B_B _ _ _ _ _ _ _ _ _ _ _ _ _ _ _ _ _) ?_
    obtain ⟨g2, hg2⟩ : ∃ z, z = (f_X8_refuseBad c s p t e o oh h k q s1 p1 s2 p2 t1 t2 ((Int32.ofInt (-1)))) := ⟨_, rfl⟩
    try rw [← hg2] at hp
    try rw [← hg2] at hq
    rw [← hg2]
    refine g_blk hz0 kX8_status_48 ?_
    subst hq
    exact ⟨fun h => (by cases h), rfl, rfl⟩
  · rcases j with _ | _ | _ | j
    · have ho : o = 27 := by simpa using hj.symm
      subst ho
      have hx2 : (Int32.toInt w) = 0 := by simpa using hx
      rw [if_neg (show ¬ ((Int32.toInt w) < 0 ∨ 2 < (Int32.toInt w)) by omega)] at hq
      rw [if_pos (show (Int32.toInt w) = 0 from hx2)] at hq
      refine g_blk hz0 kX8_status_28 ?_
      subst hq
      exact ⟨fun h => (by cases h), rfl, rfl⟩
    · have ho : o = 32 := by simpa using hj.symm
      subst ho
      have hx2 : (Int32.toInt w) = 1 := by simpa using hx
      rw [if_neg (show ¬ ((Int32.toInt w) < 0 ∨ 2 < (Int32.toInt w)) by omega)] at hq
      rw [if_neg (show ¬ ((Int32.toInt w) = 0) by omega)] at hq
      rw [if_pos (show (Int32.toInt w) = 1 from hx2)] at hq
      refine g_blk hz0 kX8_status_33 ?_
      subst hq
      exact ⟨fun h => (by cases h), rfl, rfl⟩
    · have ho : o = 37 := by simpa using hj.symm
      subst ho
      have hx2 : (Int32.toInt w) = 2 := by simpa using hx
      rw [if_neg (show ¬ ((Int32.toInt w) < 0 ∨ 2 < (Int32.toInt w)) by omega)] at hq
      rw [if_neg (show ¬ ((Int32.toInt w) = 0) by omega)] at hq
      rw [if_neg (show ¬ ((Int32.toInt w) = 1) by omega)] at hq
      refine g_blk hz0 kX8_status_38 ?_
      subst hq
      exact ⟨fun h => (by cases h), rfl, rfl⟩
    · exact absurd hj (by simp)
