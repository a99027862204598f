def f_X8_cell (c : Rec) (s : Rec) (p : Rec) (t : Rec) (e : Rec) (o : Rec) (oh : Rec) (h : Rec) (k : Rec) (q : Rec) (s1 : Rec) (p1 : Rec) (s2 : Rec) (p2 : Rec) (t1 : Rec) (t2 : Rec) (c1 : Int32) (w : Int32) : Int32 × Rec := if (f_X4_has s c1) = 0 then (((f_X8_refuseBad c s p t e o oh h k q s1 p1 s2 p2 t1 t2 ((Int32.ofInt (-1000)))).1), ((f_X8_refuseBad c s p t e o oh h k q s1 p1 s2 p2 t1 t2 ((Int32.ofInt (-1000)))).2)) else (if (f_X8_within w ((Int32.ofInt 0)) ((Int32.ofInt 3))) = 0 then (((f_X8_refuseBad c s p t e o oh h k q s1 p1 s2 p2 t1 t2 ((Int32.ofInt (-1000)))).1), ((f_X8_refuseBad c s p t e o oh h k q s1 p1 s2 p2 t1 t2 ((Int32.ofInt (-1000)))).2)) else (if (Int32.toInt w) < 0 ∨ 2 < (Int32.toInt w) then (if ((s.2 9) (Int32.toNatClampNeg c1)) = 0 then ((Int32.ofInt 0), c) else ((Int32.ofInt 1), c)) else (if (Int32.toInt w) = 0 then (((s.2 10) (Int32.toNatClampNeg c1)), c) else (if (Int32.toInt w) = 1 then (((s.2 11) (Int32.toNatClampNeg c1)), c) else (((s.2 12) (Int32.toNatClampNeg c1)), c)))))
def p_X8_cell (c : Rec) (s : Rec) (p : Rec) (t : Rec) (e : Rec) (o : Rec) (oh : Rec) (h : Rec) (k : Rec) (q : Rec) (s1 : Rec) (p1 : Rec) (s2 : Rec) (p2 : Rec) (t1 : Rec) (t2 : Rec) (c1 : Int32) (w : Int32) : Prop := (p_X4_has s c1) ∧ (((f_X4_has s c1) = 0 → True) ∧ (¬ ((f_X4_has s c1) = 0) → (((f_X8_within w ((Int32.ofInt 0)) ((Int32.ofInt 3))) = 0 → True) ∧ (¬ ((f_X8_within w ((Int32.ofInt 0)) ((Int32.ofInt 3))) = 0) → (((Int32.toInt w) < 0 ∨ 2 < (Int32.toInt w) → (vp_in c1 36 ∧ True)) ∧ (¬ ((Int32.toInt w) < 0 ∨ 2 < (Int32.toInt w)) → (((Int32.toInt w) = 0 → (vp_in c1 36 ∧ True)) ∧ (¬ ((Int32.toInt w) = 0) → (((Int32.toInt w) = 1 → (vp_in c1 36 ∧ True)) ∧ (¬ ((Int32.toInt w) = 1) → (vp_in c1 36 ∧ True)))))))))))
set_option maxHeartbeats 16000000 in
set_option maxRecDepth 20000 in
theorem s_X8_cell (c : Rec) (s : Rec) (p : Rec) (t : Rec) (e : Rec) (o : Rec) (oh : Rec) (h : Rec) (k : Rec) (q : Rec) (s1 : Rec) (p1 : Rec) (s2 : Rec) (p2 : Rec) (t1 : Rec) (t2 : Rec) (c1 : Int32) (w : Int32) (hp : p_X8_cell c s p t e o oh h k q s1 p1 s2 p2 t1 t2 c1 w) : Spec 2 0 0 mX8_cell [.ref 0, .int c1, .int w] (wB c s p t e o oh h k q s1 p1 s2 p2 t1 t2) (Ret (some (.int ((f_X8_cell c s p t e o oh h k q s1 p1 s2 p2 t1 t2 c1 w).1))) (wB ((f_X8_cell c s p t e o oh h k q s1 p1 s2 p2 t1 t2 c1 w).2) s p t e o oh h k q s1 p1 s2 p2 t1 t2)) := by
  obtain ⟨zq, hq⟩ : ∃ z, z = (f_X8_cell c s p t e o oh h k q s1 p1 s2 p2 t1 t2 c1 w) := ⟨_, rfl⟩
  rw [← hq]
  unfold f_X8_cell at hq
  unfold p_X8_cell at hp
  refine Sof fun sc => ?_
  refine g_blk hz0 kX8_cell_0 ?_
  refine cVp [2, 3, 4, 5, 6, 7, 8] (wS s) (s_X4_has s c1 hp.1) rfl cwX4_has dX8_cell_8 rfl rfl (hm67_B_S _ _ _ _ _ _ _ _ _ _ _ _ _ _ _ _) ?_
  replace hp := hp.2
  refine g_blk hz0 kX8_cell_11 ?_
  refine ⟨fun hc1 => ?_, fun hc1 => ?_⟩
  · rw [if_pos (show (f_X4_has s c1) = 0 from hc1)] at hq
    refine g_blk hz0 kX8_cell_23 ?_
    refine cV [0, 1, 2, 3, 4, 5, 6, 7, 8, 9, 10, 11, 12, 13, 14, 15, 16, 17, 18, 19, 20, 21, 22, 23, 24, 25, 26, 27, 28, 29, 30, 31, 32, 33, 34, 35, 36, 37, 38, 39, 40, 41, 42, 43, 44, 45, 46, 47, 48, 49, 50, 51, 52, 53, 54, 55, 56, 57, 58, 59, 60, 61, 62, 63, 64, 65, 66, 67, 68, 69, 70, 71, 72, 73, 74, 75, 76, 77, 78, 79, 80, 81, 82, 83, 84, 85, 86, 87, 88, 89, 90, 91, 92, 93, 94, 95, 96, 97, 98, 99, 100, 101, 102, 103, 104, 105, 106, 107, 108, 109, 110, 111] (wB c s p t e o oh h k q s1 p1 s2 p2 t1 t2) (s_X8_refuseBad c s p t e o oh h k q s1 p1 s2 p2 t1 t2 ((Int32.ofInt (-1000)))) rfl cwX8_refuseBad dX8_cell_27 rfl rfl (hm63_B_B _ _ _ _ _ _ _ _ _ _ _ _ _ _ _ _) ((len_B _ _ _ _ _ _ _ _ _ _ _ _ _ _ _ _).trans (len_B _ _ _ _ _ _ _ _ _ _ _ _ _ _ _ _).symm) (wB ((f_X8_refuseBad c s p t e o oh h k q s1 p1 s2 p2 t1 t2 ((Int32.ofInt (-1000)))).2) s p t e o oh h k q s1 p1 s2 p2 t1 t2) (pw85_B_B _ _ _ _ _ _ _ _ _ _ _ _ _ _ _ _ _) ?_
    obtain ⟨g2, hg2⟩ : ∃ z, z = (f_X8_refuseBad c s p t e o oh h k q s1 p1 s2 p2 t1 t2 ((Int32.ofInt (-1000)))) := ⟨_, rfl⟩
    try rw [← hg2] at hp
    try rw [← hg2] at hq
    rw [← hg2]
    refine g_blk hz0 kX8_cell_30 ?_
    subst hq
    exact ⟨fun h => (by cases h), rfl, rfl⟩
  · rw [if_neg (show ¬ ((f_X4_has s c1) = 0) from hc1)] at hq
    replace hp := hp.2 hc1
    refine g_blk hz0 kX8_cell_14 ?_
    refine cS0 (s_X8_within w ((Int32.ofInt 0)) ((Int32.ofInt 3))) rfl cwX8_within dX8_cell_17 rfl ?_
    refine g_blk hz0 kX8_cell_20 ?_
    refine ⟨fun hc3 => ?_, fun hc3 => ?_⟩
    · rw [if_neg (show ¬ ((f_X8_within w ((Int32.ofInt 0)) ((Int32.ofInt 3))) = 0) from hc3)] at hq
      replace hp := hp.2 hc3
      refine g_blk hz0 kX8_cell_31 ?_
      refine g_tsw dX8_cell_32 (by decide +kernel) (by decide +kernel) (by decide +kernel) (fun hc5 => ?_) (fun j o hj hx => ?_)
      · rw [if_pos (show (Int32.toInt w) < 0 ∨ 2 < (Int32.toInt w) from hc5)] at hq
        replace hp := hp.1 hc5
        refine g_blk hz0 kX8_cell_99 ?_
        refine ⟨hp.1, ?_⟩
        replace hp := hp.2
        refine ⟨fun hc6 => ?_, fun hc6 => ?_⟩
        · rw [if_pos (show ((s.2 9) (Int32.toNatClampNeg c1)) = 0 from hc6)] at hq
          refine g_blk hz0 kX8_cell_118 ?_
          refine g_blk hz0 kX8_cell_119 ?_
          subst hq
          exact ⟨fun h => (by cases h), rfl, rfl⟩
        · rw [if_neg (show ¬ (((s.2 9) (Int32.toNatClampNeg c1)) = 0) from hc6)] at hq
          refine g_blk hz0 kX8_cell_114 ?_
          refine g_blk hz0 kX8_cell_119 ?_
          subst hq
          exact ⟨fun h => (by cases h), rfl, rfl⟩
      · rcases j with _ | _ | _ | j
        · have ho : o = 28 := by simpa using hj.symm
          subst ho
          have hx2 : (Int32.toInt w) = 0 := by simpa using hx
          rw [if_neg (show ¬ ((Int32.toInt w) < 0 ∨ 2 < (Int32.toInt w)) by omega)] at hq
          replace hp := hp.2 (by omega)
          rw [if_pos (show (Int32.toInt w) = 0 from hx2)] at hq
          replace hp := hp.1 hx2
          refine g_blk hz0 kX8_cell_60 ?_
          refine ⟨hp.1, ?_⟩
          replace hp := hp.2
          subst hq
          exact ⟨fun h => (by cases h), rfl, rfl⟩
        · have ho : o = 41 := by simpa using hj.symm
          subst ho
          have hx2 : (Int32.toInt w) = 1 := by simpa using hx
          rw [if_neg (show ¬ ((Int32.toInt w) < 0 ∨ 2 < (Int32.toInt w)) by omega)] at hq
          replace hp := hp.2 (by omega)
          rw [if_neg (show ¬ ((Int32.toInt w) = 0) by omega)] at hq
          replace hp := hp.2 (by omega)
          rw [if_pos (show (Int32.toInt w) = 1 from hx2)] at hq
          replace hp := hp.1 hx2
          refine g_blk hz0 kX8_cell_73 ?_
          refine ⟨hp.1, ?_⟩
          replace hp := hp.2
          subst hq
          exact ⟨fun h => (by cases h), rfl, rfl⟩
        · have ho : o = 54 := by simpa using hj.symm
          subst ho
          have hx2 : (Int32.toInt w) = 2 := by simpa using hx
          rw [if_neg (show ¬ ((Int32.toInt w) < 0 ∨ 2 < (Int32.toInt w)) by omega)] at hq
          replace hp := hp.2 (by omega)
          rw [if_neg (show ¬ ((Int32.toInt w) = 0) by omega)] at hq
          replace hp := hp.2 (by omega)
          rw [if_neg (show ¬ ((Int32.toInt w) = 1) by omega)] at hq
          replace hp := hp.2 (by omega)
          refine g_blk hz0 kX8_cell_86 ?_
          refine ⟨hp.1, ?_⟩
          replace hp := hp.2
          subst hq
          exact ⟨fun h => (by cases h), rfl, rfl⟩
        · exact absurd hj (by simp)
    · rw [if_pos (show (f_X8_within w ((Int32.ofInt 0)) ((Int32.ofInt 3))) = 0 from hc3)] at hq
      refine g_blk hz0 kX8_cell_23 ?_
      refine cV [0, 1, 2, 3, 4, 5, 6, 7, 8, 9, 10, 11, 12, 13, 14, 15, 16, 17, 18, 19, 20, 21, 22, 23, 24, 25, 26, 27, 28, 29, 30, 31, 32, 33, 34, 35, 36, 37, 38, 39, 40, 41, 42, 43, 44, 45, 46, 47, 48, 49, 50, 51, 52, 53, 54, 55, 56, 57, 58, 59, 60, 61, 62, 63, 64, 65, 66, 67, 68, 69, 70, 71, 72, 73, 74, 75, 76, 77, 78, 79, 80, 81, 82, 83, 84, 85, 86, 87, 88, 89, 90, 91, 92, 93, 94, 95, 96, 97, 98, 99, 100, 101, 102, 103, 104, 105, 106, 107, 108, 109, 110, 111] (wB c s p t e o oh h k q s1 p1 s2 p2 t1 t2) (s_X8_refuseBad c s p t e o oh h k q s1 p1 s2 p2 t1 t2 ((Int32.ofInt (-1000)))) rfl cwX8_refuseBad dX8_cell_27 rfl rfl (hm63_B_B _ _ _ _ _ _ _ _ _ _ _ _ _ _ _ _) ((len_B _ _ _ _ _ _ _ _ _ _ _ _ _ _ _ _).trans (len_B _ _ _ _ _ _ _ _ _ _ _ _ _ _ _ _).symm) (wB ((f_X8_refuseBad c s p t e o oh h k q s1 p1 s2 p2 t1 t2 ((Int32.ofInt (-1000)))).2) s p t e o oh h k q s1 p1 s2 p2 t1 t2) (pw85_B_B _ _ _ _ _ _ _ _ _ _ _ _ _ _ _ _ _) ?_
      obtain ⟨g4, hg4⟩ : ∃ z, z = (f_X8_refuseBad c s p t e o oh h k q s1 p1 s2 p2 t1 t2 ((Int32.ofInt (-1000)))) := ⟨_, rfl⟩
      try rw [← hg4] at hp
      try rw [← hg4] at hq
      rw [← hg4]
      refine g_blk hz0 kX8_cell_30 ?_
      subst hq
      exact ⟨fun h => (by cases h), rfl, rfl⟩
