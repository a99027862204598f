set_option maxHeartbeats 16000000 in
theorem pw92_B_P (c : Rec) (s : Rec) (p : Rec) (t : Rec) (e : Rec) (o : Rec) (oh : Rec) (h : Rec) (k : Rec) (q : Rec) (s1 : Rec) (p1 : Rec) (s2 : Rec) (p2 : Rec) (t1 : Rec) (t2 : Rec) (p9 : Rec) : putW (wB c s p t e o oh h k q s1 p1 s2 p2 t1 t2) [1, 2, 3, 4, 5, 6, 7, 8, 9, 10, 11, 12] ((wP s p9).map (ren [1, 2, 3, 4, 5, 6, 7, 8, 9, 10, 11, 12])) = (wB c s p9 t e o oh h k q s1 p1 s2 p2 t1 t2) := rfl
def f_X8_man_33  (c : Rec) (s : Rec) (p : Rec) (t : Rec) (e : Rec) (o : Rec) (oh : Rec) (h : Rec) (k : Rec) (q : Rec) (s1 : Rec) (p1 : Rec) (s2 : Rec) (p2 : Rec) (t1 : Rec) (t2 : Rec) (v1 : Int32) (v2 : Int32) (v3 : Int32) (v4 : Int32) (u0 : Int32) : Int32 × Rec × Rec × Rec := if u0 = 0 then (((f_X8_refuseBad c s p t e o oh h k q s1 p1 s2 p2 t1 t2 ((Int32.ofInt (-2)))).1), ((f_X8_refuseBad c s p t e o oh h k q s1 p1 s2 p2 t1 t2 ((Int32.ofInt (-2)))).2), p, t) else (if (f_X4_has s v4) = 0 then (((f_X8_refuseBad c s p t e o oh h k q s1 p1 s2 p2 t1 t2 ((Int32.ofInt (-2)))).1), ((f_X8_refuseBad c s p t e o oh h k q s1 p1 s2 p2 t1 t2 ((Int32.ofInt (-2)))).2), p, t) else (if (f_X3_manOn s p v4) = (Int32.ofInt (-1)) then (if (p.1 5) < (Int32.ofInt 8) then (((f_X3_enter s p v1 v2 v3 v4).1), c, ((f_X3_enter s p v1 v2 v3 v4).2), (f_X2_forget t)) else (((f_X8_refuseFull c s p t e o oh h k q s1 p1 s2 p2 t1 t2).1), ((f_X8_refuseFull c s p t e o oh h k q s1 p1 s2 p2 t1 t2).2), p, t)) else (((f_X8_refuseBad c s p t e o oh h k q s1 p1 s2 p2 t1 t2 ((Int32.ofInt (-2)))).1), ((f_X8_refuseBad c s p t e o oh h k q s1 p1 s2 p2 t1 t2 ((Int32.ofInt (-2)))).2), p, t)))
def p_X8_man_33  (c : Rec) (s : Rec) (p : Rec) (t : Rec) (e : Rec) (o : Rec) (oh : Rec) (h : Rec) (k : Rec) (q : Rec) (s1 : Rec) (p1 : Rec) (s2 : Rec) (p2 : Rec) (t1 : Rec) (t2 : Rec) (v1 : Int32) (v2 : Int32) (v3 : Int32) (v4 : Int32) (u0 : Int32) : Prop := (u0 = 0 → True) ∧ (¬ (u0 = 0) → ((p_X4_has s v4) ∧ (((f_X4_has s v4) = 0 → True) ∧ (¬ ((f_X4_has s v4) = 0) → ((p_X3_manOn s p v4) ∧ (((f_X3_manOn s p v4) = (Int32.ofInt (-1)) → (((p.1 5) < (Int32.ofInt 8) → ((p_X3_enter s p v1 v2 v3 v4) ∧ True)) ∧ (¬ ((p.1 5) < (Int32.ofInt 8)) → True))) ∧ (¬ ((f_X3_manOn s p v4) = (Int32.ofInt (-1))) → True)))))))
set_option maxHeartbeats 16000000 in
set_option maxRecDepth 20000 in
theorem l_X8_man_33 (sc : SC) (s : Rec) (e : Rec) (o : Rec) (oh : Rec) (h : Rec) (k : Rec) (q : Rec) (s1 : Rec) (p1 : Rec) (s2 : Rec) (p2 : Rec) (t1 : Rec) (t2 : Rec)  (zq : Int32 × Rec × Rec × Rec)  (c : Rec) (p : Rec) (t : Rec) (v1 : Int32) (v2 : Int32) (v3 : Int32) (v4 : Int32) (u0 : Int32) (hp : p_X8_man_33 c s p t e o oh h k q s1 p1 s2 p2 t1 t2 v1 v2 v3 v4 u0) (hq : zq = f_X8_man_33 c s p t e o oh h k q s1 p1 s2 p2 t1 t2 v1 v2 v3 v4 u0) : Good sc 2 0 0 112 mX8_man (Ret (some (.int (zq.1))) (wB (zq.2.1) s (zq.2.2.1) (zq.2.2.2) e o oh h k q s1 p1 s2 p2 t1 t2)) 0 0 33 [some (.ref 0), some (.int v1), some (.int v2), some (.int v3), some (.int v4), none] [.int u0] (wB c s p t e o oh h k q s1 p1 s2 p2 t1 t2) := by
  unfold p_X8_man_33 at hp
  unfold f_X8_man_33 at hq
  refine g_blk hz0 kX8_man_33 ?_
  refine ⟨fun hc4 => ?_, fun hc4 => ?_⟩
  · rw [if_pos (show u0 = 0 from hc4)] at hq
    refine g_blk hz0 kX8_man_68 ?_
    refine cV [0, 1, 2, 3, 4, 5, 6, 7, 8, 9, 10, 11, 12, 13, 14, 15, 16, 17, 18, 19, 20, 21, 22, 23, 24, 25, 26, 27, 28, 29, 30, 31, 32, 33, 34, 35, 36, 37, 38, 39, 40, 41, 42, 43, 44, 45, 46, 47, 48, 49, 50, 51, 52, 53, 54, 55, 56, 57, 58, 59, 60, 61, 62, 63, 64, 65, 66, 67, 68, 69, 70, 71, 72, 73, 74, 75, 76, 77, 78, 79, 80, 81, 82, 83, 84, 85, 86, 87, 88, 89, 90, 91, 92, 93, 94, 95, 96, 97, 98, 99, 100, 101, 102, 103, 104, 105, 106, 107, 108, 109, 110, 111] (wB c s p t e o oh h k q s1 p1 s2 p2 t1 t2) (s_X8_refuseBad c s p t e o oh h k q s1 p1 s2 p2 t1 t2 ((Int32.ofInt (-2)))) rfl cwX8_refuseBad dX8_man_71 rfl rfl (hm63_B_B _ _ _ _ _ _ _ _ _ _ _ _ _ _ _ _) ((len_B _ _ _ _ _ _ _ _ _ _ _ _ _ _ _ _).trans (len_B _ _ _ _ _ _ _ _ _ _ _ _ _ _ _ _).symm) (wB ((f_X8_refuseBad c s p t e o oh h k q s1 p1 s2 p2 t1 t2 ((Int32.ofInt (-2)))).2) s p t e o oh h k q s1 p1 s2 p2 t1 t2) (pw85_B_B _ _ _ _ _ _ _ _ _ _ _ _ _ _ _ _ _) ?_
    obtain ⟨g5, hg5⟩ : ∃ z, z = (f_X8_refuseBad c s p t e o oh h k q s1 p1 s2 p2 t1 t2 ((Int32.ofInt (-2)))) := ⟨_, rfl⟩
    try rw [← hg5] at hp
    try rw [← hg5] at hq
    rw [← hg5]
    refine g_blk hz0 kX8_man_74 ?_
    subst hq
    exact ⟨fun h => (by cases h), rfl, rfl⟩
  · rw [if_neg (show ¬ (u0 = 0) from hc4)] at hq
    replace hp := hp.2 hc4
    refine g_blk hz0 kX8_man_40 ?_
    refine cVp [2, 3, 4, 5, 6, 7, 8] (wS s) (s_X4_has s v4 hp.1) rfl cwX4_has dX8_man_49 rfl rfl (hm67_B_S _ _ _ _ _ _ _ _ _ _ _ _ _ _ _ _) ?_
    replace hp := hp.2
    refine g_blk hz0 kX8_man_52 ?_
    refine ⟨fun hc6 => ?_, fun hc6 => ?_⟩
    · rw [if_pos (show (f_X4_has s v4) = 0 from hc6)] at hq
      refine g_blk hz0 kX8_man_68 ?_
      refine cV [0, 1, 2, 3, 4, 5, 6, 7, 8, 9, 10, 11, 12, 13, 14, 15, 16, 17, 18, 19, 20, 21, 22, 23, 24, 25, 26, 27, 28, 29, 30, 31, 32, 33, 34, 35, 36, 37, 38, 39, 40, 41, 42, 43, 44, 45, 46, 47, 48, 49, 50, 51, 52, 53, 54, 55, 56, 57, 58, 59, 60, 61, 62, 63, 64, 65, 66, 67, 68, 69, 70, 71, 72, 73, 74, 75, 76, 77, 78, 79, 80, 81, 82, 83, 84, 85, 86, 87, 88, 89, 90, 91, 92, 93, 94, 95, 96, 97, 98, 99, 100, 101, 102, 103, 104, 105, 106, 107, 108, 109, 110, 111] (wB c s p t e o oh h k q s1 p1 s2 p2 t1 t2) (s_X8_refuseBad c s p t e o oh h k q s1 p1 s2 p2 t1 t2 ((Int32.ofInt (-2)))) rfl cwX8_refuseBad dX8_man_71 rfl rfl (hm63_B_B _ _ _ _ _ _ _ _ _ _ _ _ _ _ _ _) ((len_B _ _ _ _ _ _ _ _ _ _ _ _ _ _ _ _).trans (len_B _ _ _ _ _ _ _ _ _ _ _ _ _ _ _ _).symm) (wB ((f_X8_refuseBad c s p t e o oh h k q s1 p1 s2 p2 t1 t2 ((Int32.ofInt (-2)))).2) s p t e o oh h k q s1 p1 s2 p2 t1 t2) (pw85_B_B _ _ _ _ _ _ _ _ _ _ _ _ _ _ _ _ _) ?_
      obtain ⟨g7, hg7⟩ : ∃ z, z = (f_X8_refuseBad c s p t e o oh h k q s1 p1 s2 p2 t1 t2 ((Int32.ofInt (-2)))) := ⟨_, rfl⟩
      try rw [← hg7] at hp
      try rw [← hg7] at hq
      rw [← hg7]
      refine g_blk hz0 kX8_man_74 ?_
      subst hq
      exact ⟨fun h => (by cases h), rfl, rfl⟩
    · rw [if_neg (show ¬ ((f_X4_has s v4) = 0) from hc6)] at hq
      replace hp := hp.2 hc6
      refine g_blk hz0 kX8_man_55 ?_
      refine cVp [1, 2, 3, 4, 5, 6, 7, 8, 9, 10, 11, 12] (wP s p) (s_X3_manOn s p v4 hp.1) rfl cwX3_manOn dX8_man_61 rfl rfl (hm64_B_P _ _ _ _ _ _ _ _ _ _ _ _ _ _ _ _) ?_
      replace hp := hp.2
      refine g_blk hz0 kX8_man_64 ?_
      refine ⟨fun hc8 => ?_, fun hc8 => ?_⟩
      · rw [if_pos (show (f_X3_manOn s p v4) = (Int32.ofInt (-1)) from hc8)] at hq
        replace hp := hp.1 hc8
        refine g_blk hz0 kX8_man_75 ?_
        refine ⟨fun hc9 => ?_, fun hc9 => ?_⟩
        · rw [if_pos (show (p.1 5) < (Int32.ofInt 8) from hc9)] at hq
          replace hp := hp.1 hc9
          refine g_blk hz0 kX8_man_92 ?_
          refine cV [13, 14, 15, 16, 17, 18, 19, 20, 21, 22] (wT t) (s_X2_forget t) rfl cwX2_forget dX8_man_96 rfl rfl (hm65_B_T _ _ _ _ _ _ _ _ _ _ _ _ _ _ _ _) ((len_T _).trans (len_T _).symm) (wB c s p (f_X2_forget t) e o oh h k q s1 p1 s2 p2 t1 t2) (pw87_B_T _ _ _ _ _ _ _ _ _ _ _ _ _ _ _ _ _) ?_
          obtain ⟨g10, hg10⟩ : ∃ z, z = (f_X2_forget t) := ⟨_, rfl⟩
          try rw [← hg10] at hp
          try rw [← hg10] at hq
          rw [← hg10]
          refine g_blk hz0 kX8_man_99 ?_
          refine cV [1, 2, 3, 4, 5, 6, 7, 8, 9, 10, 11, 12] (wP s p) (s_X3_enter s p v1 v2 v3 v4 hp.1) rfl cwX3_enter dX8_man_108 rfl rfl (hm64_B_P _ _ _ _ _ _ _ _ _ _ _ _ _ _ _ _) ((len_P _ _).trans (len_P _ _).symm) (wB c s ((f_X3_enter s p v1 v2 v3 v4).2) g10 e o oh h k q s1 p1 s2 p2 t1 t2) (pw92_B_P _ _ _ _ _ _ _ _ _ _ _ _ _ _ _ _ _) ?_
          replace hp := hp.2
          obtain ⟨g11, hg11⟩ : ∃ z, z = (f_X3_enter s p v1 v2 v3 v4) := ⟨_, rfl⟩
          try rw [← hg11] at hp
          try rw [← hg11] at hq
          rw [← hg11]
          refine g_blk hz0 kX8_man_111 ?_
          subst hq
          exact ⟨fun h => (by cases h), rfl, rfl⟩
        · rw [if_neg (show ¬ ((p.1 5) < (Int32.ofInt 8)) from hc9)] at hq
          refine g_blk hz0 kX8_man_87 ?_
          refine cV [0, 1, 2, 3, 4, 5, 6, 7, 8, 9, 10, 11, 12, 13, 14, 15, 16, 17, 18, 19, 20, 21, 22, 23, 24, 25, 26, 27, 28, 29, 30, 31, 32, 33, 34, 35, 36, 37, 38, 39, 40, 41, 42, 43, 44, 45, 46, 47, 48, 49, 50, 51, 52, 53, 54, 55, 56, 57, 58, 59, 60, 61, 62, 63, 64, 65, 66, 67, 68, 69, 70, 71, 72, 73, 74, 75, 76, 77, 78, 79, 80, 81, 82, 83, 84, 85, 86, 87, 88, 89, 90, 91, 92, 93, 94, 95, 96, 97, 98, 99, 100, 101, 102, 103, 104, 105, 106, 107, 108, 109, 110, 111] (wB c s p t e o oh h k q s1 p1 s2 p2 t1 t2) (s_X8_refuseFull c s p t e o oh h k q s1 p1 s2 p2 t1 t2) rfl cwX8_refuseFull dX8_man_88 rfl rfl (hm63_B_B _ _ _ _ _ _ _ _ _ _ _ _ _ _ _ _) ((len_B _ _ _ _ _ _ _ _ _ _ _ _ _ _ _ _).trans (len_B _ _ _ _ _ _ _ _ _ _ _ _ _ _ _ _).symm) (wB ((f_X8_refuseFull c s p t e o oh h k q s1 p1 s2 p2 t1 t2).2) s p t e o oh h k q s1 p1 s2 p2 t1 t2) (pw85_B_B _ _ _ _ _ _ _ _ _ _ _ _ _ _ _ _ _) ?_
          obtain ⟨g12, hg12⟩ : ∃ z, z = (f_X8_refuseFull c s p t e o oh h k q s1 p1 s2 p2 t1 t2) := ⟨_, rfl⟩
          try rw [← hg12] at hp
          try rw [← hg12] at hq
          rw [← hg12]
          refine g_blk hz0 kX8_man_91 ?_
          subst hq
          exact ⟨fun h => (by cases h), rfl, rfl⟩
      · rw [if_neg (show ¬ ((f_X3_manOn s p v4) = (Int32.ofInt (-1))) from hc8)] at hq
        refine g_blk hz0 kX8_man_68 ?_
        refine cV [0, 1, 2, 3, 4, 5, 6, 7, 8, 9, 10, 11, 12, 13, 14, 15, 16, 17, 18, 19, 20, 21, 22, 23, 24, 25, 26, 27, 28, 29, 30, 31, 32, 33, 34, 35, 36, 37, 38, 39, 40, 41, 42, 43, 44, 45, 46, 47, 48, 49, 50, 51, 52, 53, 54, 55, 56, 57, 58, 59, 60, 61, 62, 63, 64, 65, 66, 67, 68, 69, 70, 71, 72, 73, 74, 75, 76, 77, 78, 79, 80, 81, 82, 83, 84, 85, 86, 87, 88, 89, 90, 91, 92, 93, 94, 95, 96, 97, 98, 99, 100, 101, 102, 103, 104, 105, 106, 107, 108, 109, 110, 111] (wB c s p t e o oh h k q s1 p1 s2 p2 t1 t2) (s_X8_refuseBad c s p t e o oh h k q s1 p1 s2 p2 t1 t2 ((Int32.ofInt (-2)))) rfl cwX8_refuseBad dX8_man_71 rfl rfl (hm63_B_B _ _ _ _ _ _ _ _ _ _ _ _ _ _ _ _) ((len_B _ _ _ _ _ _ _ _ _ _ _ _ _ _ _ _).trans (len_B _ _ _ _ _ _ _ _ _ _ _ _ _ _ _ _).symm) (wB ((f_X8_refuseBad c s p t e o oh h k q s1 p1 s2 p2 t1 t2 ((Int32.ofInt (-2)))).2) s p t e o oh h k q s1 p1 s2 p2 t1 t2) (pw85_B_B _ _ _ _ _ _ _ _ _ _ _ _ _ _ _ _ _) ?_
        obtain ⟨g13, hg13⟩ : ∃ z, z = (f_X8_refuseBad c s p t e o oh h k q s1 p1 s2 p2 t1 t2 ((Int32.ofInt (-2)))) := ⟨_, rfl⟩
        try rw [← hg13] at hp
        try rw [← hg13] at hq
        rw [← hg13]
        refine g_blk hz0 kX8_man_74 ?_
        subst hq
        exact ⟨fun h => (by cases h), rfl, rfl⟩
def f_X8_man (c : Rec) (s : Rec) (p : Rec) (t : Rec) (e : Rec) (o : Rec) (oh : Rec) (h : Rec) (k : Rec) (q : Rec) (s1 : Rec) (p1 : Rec) (s2 : Rec) (p2 : Rec) (t1 : Rec) (t2 : Rec) (k1 : Int32) (o1 : Int32) (h1 : Int32) (c1 : Int32) : Int32 × Rec × Rec × Rec := if (f_X8_within k1 ((Int32.ofInt 0)) ((Int32.ofInt 4))) = 0 then (f_X8_man_33 c s p t e o oh h k q s1 p1 s2 p2 t1 t2 k1 o1 h1 c1 ((Int32.ofInt 0))) else (if (f_X8_within o1 ((Int32.ofInt 0)) ((Int32.ofInt 1))) = 0 then (f_X8_man_33 c s p t e o oh h k q s1 p1 s2 p2 t1 t2 k1 o1 h1 c1 ((Int32.ofInt 0))) else (if (f_X8_within h1 ((Int32.ofInt 1)) ((Int32.ofInt 9))) = 0 then (f_X8_man_33 c s p t e o oh h k q s1 p1 s2 p2 t1 t2 k1 o1 h1 c1 ((Int32.ofInt 0))) else (f_X8_man_33 c s p t e o oh h k q s1 p1 s2 p2 t1 t2 k1 o1 h1 c1 ((Int32.ofInt 1)))))
def p_X8_man (c : Rec) (s : Rec) (p : Rec) (t : Rec) (e : Rec) (o : Rec) (oh : Rec) (h : Rec) (k : Rec) (q : Rec) (s1 : Rec) (p1 : Rec) (s2 : Rec) (p2 : Rec) (t1 : Rec) (t2 : Rec) (k1 : Int32) (o1 : Int32) (h1 : Int32) (c1 : Int32) : Prop := ((f_X8_within k1 ((Int32.ofInt 0)) ((Int32.ofInt 4))) = 0 → (p_X8_man_33 c s p t e o oh h k q s1 p1 s2 p2 t1 t2 k1 o1 h1 c1 ((Int32.ofInt 0)))) ∧ (¬ ((f_X8_within k1 ((Int32.ofInt 0)) ((Int32.ofInt 4))) = 0) → (((f_X8_within o1 ((Int32.ofInt 0)) ((Int32.ofInt 1))) = 0 → (p_X8_man_33 c s p t e o oh h k q s1 p1 s2 p2 t1 t2 k1 o1 h1 c1 ((Int32.ofInt 0)))) ∧ (¬ ((f_X8_within o1 ((Int32.ofInt 0)) ((Int32.ofInt 1))) = 0) → (((f_X8_within h1 ((Int32.ofInt 1)) ((Int32.ofInt 9))) = 0 → (p_X8_man_33 c s p t e o oh h k q s1 p1 s2 p2 t1 t2 k1 o1 h1 c1 ((Int32.ofInt 0)))) ∧ (¬ ((f_X8_within h1 ((Int32.ofInt 1)) ((Int32.ofInt 9))) = 0) → (p_X8_man_33 c s p t e o oh h k q s1 p1 s2 p2 t1 t2 k1 o1 h1 c1 ((Int32.ofInt 1))))))))
set_option maxHeartbeats 16000000 in
set_option maxRecDepth 20000 in
theorem s_X8_man (c : Rec) (s : Rec) (p : Rec) (t : Rec) (e : Rec) (o : Rec) (oh : Rec) (h : Rec) (k : Rec) (q : Rec) (s1 : Rec) (p1 : Rec) (s2 : Rec) (p2 : Rec) (t1 : Rec) (t2 : Rec) (k1 : Int32) (o1 : Int32) (h1 : Int32) (c1 : Int32) (hp : p_X8_man c s p t e o oh h k q s1 p1 s2 p2 t1 t2 k1 o1 h1 c1) : Spec 2 0 0 mX8_man [.ref 0, .int k1, .int o1, .int h1, .int c1] (wB c s p t e o oh h k q s1 p1 s2 p2 t1 t2) (Ret (some (.int ((f_X8_man c s p t e o oh h k q s1 p1 s2 p2 t1 t2 k1 o1 h1 c1).1))) (wB ((f_X8_man c s p t e o oh h k q s1 p1 s2 p2 t1 t2 k1 o1 h1 c1).2.1) s ((f_X8_man c s p t e o oh h k q s1 p1 s2 p2 t1 t2 k1 o1 h1 c1).2.2.1) ((f_X8_man c s p t e o oh h k q s1 p1 s2 p2 t1 t2 k1 o1 h1 c1).2.2.2) e o oh h k q s1 p1 s2 p2 t1 t2)) := by
  obtain ⟨zq, hq⟩ : ∃ z, z = (f_X8_man c s p t e o oh h k q s1 p1 s2 p2 t1 t2 k1 o1 h1 c1) := ⟨_, rfl⟩
  rw [← hq]
  unfold f_X8_man at hq
  unfold p_X8_man at hp
  refine Sof fun sc => ?_
  refine g_blk hz0 kX8_man_0 ?_
  refine cS0 (s_X8_within k1 ((Int32.ofInt 0)) ((Int32.ofInt 4))) rfl cwX8_within dX8_man_3 rfl ?_
  refine g_blk hz0 kX8_man_6 ?_
  refine ⟨fun hc1 => ?_, fun hc1 => ?_⟩
  · rw [if_pos (show (f_X8_within k1 ((Int32.ofInt 0)) ((Int32.ofInt 4))) = 0 from hc1)] at hq
    replace hp := hp.1 hc1
    refine g_blk hz0 kX8_man_32 ?_
    refine g_le (L2 := [some (.ref 0), some (.int k1), some (.int o1), some (.int h1), some (.int c1), none]) ⟨rfl, rfl, rfl, rfl, rfl, trivial⟩ ?_
    exact l_X8_man_33 sc s e o oh h k q s1 p1 s2 p2 t1 t2 zq c p t k1 o1 h1 c1 ((Int32.ofInt 0)) hp hq
  · rw [if_neg (show ¬ ((f_X8_within k1 ((Int32.ofInt 0)) ((Int32.ofInt 4))) = 0) from hc1)] at hq
    replace hp := hp.2 hc1
    refine g_blk hz0 kX8_man_9 ?_
    refine cS0 (s_X8_within o1 ((Int32.ofInt 0)) ((Int32.ofInt 1))) rfl cwX8_within dX8_man_12 rfl ?_
    refine g_blk hz0 kX8_man_15 ?_
    refine ⟨fun hc2 => ?_, fun hc2 => ?_⟩
    · rw [if_pos (show (f_X8_within o1 ((Int32.ofInt 0)) ((Int32.ofInt 1))) = 0 from hc2)] at hq
      replace hp := hp.1 hc2
      refine g_blk hz0 kX8_man_32 ?_
      refine g_le (L2 := [some (.ref 0), some (.int k1), some (.int o1), some (.int h1), some (.int c1), none]) ⟨rfl, rfl, rfl, rfl, rfl, trivial⟩ ?_
      exact l_X8_man_33 sc s e o oh h k q s1 p1 s2 p2 t1 t2 zq c p t k1 o1 h1 c1 ((Int32.ofInt 0)) hp hq
    · rw [if_neg (show ¬ ((f_X8_within o1 ((Int32.ofInt 0)) ((Int32.ofInt 1))) = 0) from hc2)] at hq
      replace hp := hp.2 hc2
      refine g_blk hz0 kX8_man_18 ?_
      refine cS0 (s_X8_within h1 ((Int32.ofInt 1)) ((Int32.ofInt 9))) rfl cwX8_within dX8_man_22 rfl ?_
      refine g_blk hz0 kX8_man_25 ?_
      refine ⟨fun hc3 => ?_, fun hc3 => ?_⟩
      · rw [if_pos (show (f_X8_within h1 ((Int32.ofInt 1)) ((Int32.ofInt 9))) = 0 from hc3)] at hq
        replace hp := hp.1 hc3
        refine g_blk hz0 kX8_man_32 ?_
        refine g_le (L2 := [some (.ref 0), some (.int k1), some (.int o1), some (.int h1), some (.int c1), none]) ⟨rfl, rfl, rfl, rfl, rfl, trivial⟩ ?_
        exact l_X8_man_33 sc s e o oh h k q s1 p1 s2 p2 t1 t2 zq c p t k1 o1 h1 c1 ((Int32.ofInt 0)) hp hq
      · rw [if_neg (show ¬ ((f_X8_within h1 ((Int32.ofInt 1)) ((Int32.ofInt 9))) = 0) from hc3)] at hq
        replace hp := hp.2 hc3
        refine g_blk hz0 kX8_man_28 ?_
        refine g_le (L2 := [some (.ref 0), some (.int k1), some (.int o1), some (.int h1), some (.int c1), none]) ⟨rfl, rfl, rfl, rfl, rfl, trivial⟩ ?_
        exact l_X8_man_33 sc s e o oh h k q s1 p1 s2 p2 t1 t2 zq c p t k1 o1 h1 c1 ((Int32.ofInt 1)) hp hq
