set_option maxHeartbeats 16000000 in
set_option maxRecDepth 20000 in
theorem l_X8_playItem_96 (sc : SC) (c : Rec) (t : Rec) (e : Rec) (o : Rec) (oh : Rec) (h : Rec) (k : Rec) (q : Rec) (s1 : Rec) (p1 : Rec) (s2 : Rec) (p2 : Rec) (t1 : Rec) (t2 : Rec)  (zq : Int32 × Rec × Rec)  (s : Rec) (p : Rec) (u0 : Int32) (hp : p_X8_playItem_96 c s p t e o oh h k q s1 p1 s2 p2 t1 t2 u0) (hq : zq = f_X8_playItem_96 c s p t e o oh h k q s1 p1 s2 p2 t1 t2 u0) : Good sc 4 0 0 112 mX8_playItem (Ret (some (.int (zq.1))) (wB c (zq.2.1) (zq.2.2) t e o oh h k q s1 p1 s2 p2 t1 t2)) 0 0 96 [some (.ref 0), some (.ref 25), none] [.int u0] (wB c s p t e o oh h k q s1 p1 s2 p2 t1 t2) := by
  unfold p_X8_playItem_96 at hp
  unfold f_X8_playItem_96 at hq
  refine g_blk hz0 kX8_playItem_96 ?_
  refine ⟨fun c6 => ?_, fun c6 => ?_⟩
  · rw [if_pos (show u0 = 0 from c6)] at hq
    refine g_blk hz0 kX8_playItem_130 ?_
    subst hq
    exact ⟨fun _ => Or.inl rfl, rfl, rfl⟩
  · rw [if_neg (show ¬ (u0 = 0) from c6)] at hq
    replace hp := hp.2 c6
    refine g_blk hz0 kX8_playItem_101 ?_
    refine ⟨fun c7 => ?_, fun c7 => ?_⟩
    · rw [if_pos (show (p.1 7) = 0 from c7)] at hq
      refine g_blk hz0 kX8_playItem_130 ?_
      subst hq
      exact ⟨fun _ => Or.inl rfl, rfl, rfl⟩
    · rw [if_neg (show ¬ ((p.1 7) = 0) from c7)] at hq
      replace hp := hp.2 c7
      refine g_blk hz0 kX8_playItem_111 ?_
      refine ⟨vinL (by decide), ?_⟩
      refine ⟨vinL (by decide), ?_⟩
      refine cVp [2, 3, 4, 5, 6, 7, 8] (wS s) (s_X4_mayCrease s ((e.2 1) (Int32.toNatClampNeg (Int32.ofInt 0))) ((e.2 1) (Int32.toNatClampNeg (Int32.ofInt 1)))) rfl cwX4_mayCrease dX8_playItem_124 rfl rfl (hm67_B_S _ _ _ _ _ _ _ _ _ _ _ _ _ _ _ _) ?_
      refine g_blk hz0 kX8_playItem_127 ?_
      refine ⟨fun c8 => ?_, fun c8 => ?_⟩
      · rw [if_neg (show ¬ ((f_X4_mayCrease s ((e.2 1) (Int32.toNatClampNeg (Int32.ofInt 0))) ((e.2 1) (Int32.toNatClampNeg (Int32.ofInt 1)))) = 0) from c8)] at hq
        replace hp := hp.2 c8
        refine g_blk hz0 kX8_playItem_132 ?_
        refine ⟨vinL (by decide), ?_⟩
        refine ⟨vinL (by decide), ?_⟩
        refine ⟨vinL (by decide), ?_⟩
        refine cV [1, 2, 3, 4, 5, 6, 7, 8, 9, 10, 11, 12] (wP s p) (s_X3_creaseDue s p ((e.2 1) (Int32.toNatClampNeg (Int32.ofInt 0))) ((e.2 1) (Int32.toNatClampNeg (Int32.ofInt 1))) ((e.2 1) (Int32.toNatClampNeg (Int32.ofInt 2))) hp.1) rfl cwX3_creaseDue dX8_playItem_145 rfl rfl (hm64_B_P _ _ _ _ _ _ _ _ _ _ _ _ _ _ _ _) ((len_P _ _).trans (len_P _ _).symm) (wB c ((f_X3_creaseDue s p ((e.2 1) (Int32.toNatClampNeg (Int32.ofInt 0))) ((e.2 1) (Int32.toNatClampNeg (Int32.ofInt 1))) ((e.2 1) (Int32.toNatClampNeg (Int32.ofInt 2)))).1) ((f_X3_creaseDue s p ((e.2 1) (Int32.toNatClampNeg (Int32.ofInt 0))) ((e.2 1) (Int32.toNatClampNeg (Int32.ofInt 1))) ((e.2 1) (Int32.toNatClampNeg (Int32.ofInt 2)))).2) t e o oh h k q s1 p1 s2 p2 t1 t2) (pw86_B_P _ _ _ _ _ _ _ _ _ _ _ _ _ _ _ _ _ _) ?_
        replace hp := hp.2
        obtain ⟨g9, hg9⟩ : ∃ z, z = (f_X3_creaseDue s p ((e.2 1) (Int32.toNatClampNeg (Int32.ofInt 0))) ((e.2 1) (Int32.toNatClampNeg (Int32.ofInt 1))) ((e.2 1) (Int32.toNatClampNeg (Int32.ofInt 2)))) := ⟨_, rfl⟩
        try rw [← hg9] at hp
        try rw [← hg9] at hq
        rw [← hg9]
        refine g_blk hz0 kX8_playItem_148 ?_
        subst hq
        exact ⟨fun _ => Or.inr rfl, rfl, rfl⟩
      · rw [if_pos (show (f_X4_mayCrease s ((e.2 1) (Int32.toNatClampNeg (Int32.ofInt 0))) ((e.2 1) (Int32.toNatClampNeg (Int32.ofInt 1)))) = 0 from c8)] at hq
        refine g_blk hz0 kX8_playItem_130 ?_
        subst hq
        exact ⟨fun _ => Or.inl rfl, rfl, rfl⟩
set_option maxHeartbeats 16000000 in
set_option maxRecDepth 20000 in
theorem s_X8_playItem (c : Rec) (s : Rec) (p : Rec) (t : Rec) (e : Rec) (o : Rec) (oh : Rec) (h : Rec) (k : Rec) (q : Rec) (s1 : Rec) (p1 : Rec) (s2 : Rec) (p2 : Rec) (t1 : Rec) (t2 : Rec)  (hp : p_X8_playItem c s p t e o oh h k q s1 p1 s2 p2 t1 t2) : Spec 4 0 0 mX8_playItem [.ref 0] (wB c s p t e o oh h k q s1 p1 s2 p2 t1 t2) (Ret (some (.int ((f_X8_playItem c s p t e o oh h k q s1 p1 s2 p2 t1 t2).1))) (wB c ((f_X8_playItem c s p t e o oh h k q s1 p1 s2 p2 t1 t2).2.1) ((f_X8_playItem c s p t e o oh h k q s1 p1 s2 p2 t1 t2).2.2) t e o oh h k q s1 p1 s2 p2 t1 t2)) := by
  obtain ⟨zq, hq⟩ : ∃ z, z = (f_X8_playItem c s p t e o oh h k q s1 p1 s2 p2 t1 t2) := ⟨_, rfl⟩
  rw [← hq]
  unfold f_X8_playItem at hq
  unfold p_X8_playItem at hp
  refine Sof fun sc => ?_
  refine g_blk hz0 kX8_playItem_0 ?_
  refine ⟨fun c1 => ?_, fun c1 => ?_⟩
  · rw [if_pos (show (e.1 3) = 0 from c1)] at hq
    replace hp := hp.1 c1
    refine g_blk hz0 kX8_playItem_69 ?_
    refine ⟨vinL (by decide), ?_⟩
    refine cS0 (s_X8_within ((e.2 1) (Int32.toNatClampNeg (Int32.ofInt 0))) ((Int32.ofInt 0)) ((Int32.ofInt 1))) rfl cwX8_within dX8_playItem_74 rfl ?_
    refine g_blk hz0 kX8_playItem_77 ?_
    refine ⟨fun c2 => ?_, fun c2 => ?_⟩
    · rw [if_pos (show (f_X8_within ((e.2 1) (Int32.toNatClampNeg (Int32.ofInt 0))) ((Int32.ofInt 0)) ((Int32.ofInt 1))) = 0 from c2)] at hq
      replace hp := hp.1 c2
      refine g_blk hz0 kX8_playItem_95 ?_
      refine g_le (L2 := [some (.ref 0), some (.ref 25), none]) ⟨rfl, rfl, trivial⟩ ?_
      exact l_X8_playItem_96 sc c t e o oh h k q s1 p1 s2 p2 t1 t2 zq s p ((Int32.ofInt 0)) hp hq
    · rw [if_neg (show ¬ ((f_X8_within ((e.2 1) (Int32.toNatClampNeg (Int32.ofInt 0))) ((Int32.ofInt 0)) ((Int32.ofInt 1))) = 0) from c2)] at hq
      replace hp := hp.2 c2
      refine g_blk hz0 kX8_playItem_80 ?_
      refine ⟨vinL (by decide), ?_⟩
      refine cS0 (s_X8_within ((e.2 1) (Int32.toNatClampNeg (Int32.ofInt 2))) ((Int32.ofInt 0)) ((Int32.ofInt 1))) rfl cwX8_within dX8_playItem_85 rfl ?_
      refine g_blk hz0 kX8_playItem_88 ?_
      refine ⟨fun c3 => ?_, fun c3 => ?_⟩
      · rw [if_pos (show (f_X8_within ((e.2 1) (Int32.toNatClampNeg (Int32.ofInt 2))) ((Int32.ofInt 0)) ((Int32.ofInt 1))) = 0 from c3)] at hq
        replace hp := hp.1 c3
        refine g_blk hz0 kX8_playItem_95 ?_
        refine g_le (L2 := [some (.ref 0), some (.ref 25), none]) ⟨rfl, rfl, trivial⟩ ?_
        exact l_X8_playItem_96 sc c t e o oh h k q s1 p1 s2 p2 t1 t2 zq s p ((Int32.ofInt 0)) hp hq
      · rw [if_neg (show ¬ ((f_X8_within ((e.2 1) (Int32.toNatClampNeg (Int32.ofInt 2))) ((Int32.ofInt 0)) ((Int32.ofInt 1))) = 0) from c3)] at hq
        replace hp := hp.2 c3
        refine g_blk hz0 kX8_playItem_91 ?_
        refine g_le (L2 := [some (.ref 0), some (.ref 25), none]) ⟨rfl, rfl, trivial⟩ ?_
        exact l_X8_playItem_96 sc c t e o oh h k q s1 p1 s2 p2 t1 t2 zq s p ((Int32.ofInt 1)) hp hq
  · rw [if_neg (show ¬ ((e.1 3) = 0) from c1)] at hq
    replace hp := hp.2 c1
    refine g_blk hz0 kX8_playItem_18 ?_
    refine ⟨vinL (by decide), ?_⟩
    refine ⟨vinL (by decide), ?_⟩
    refine ⟨vinL (by decide), ?_⟩
    refine ⟨vinL (by decide), ?_⟩
    refine cVp [1, 2, 3, 4, 5, 6, 7, 8, 9, 10, 11, 12] (wP s p) (s_X3_goalOf s p ((e.2 1) (Int32.toNatClampNeg (Int32.ofInt 0))) ((e.2 1) (Int32.toNatClampNeg (Int32.ofInt 1))) ((e.2 1) (Int32.toNatClampNeg (Int32.ofInt 2))) ((e.2 1) (Int32.toNatClampNeg (Int32.ofInt 3))) hp.1) rfl cwX3_goalOf dX8_playItem_34 rfl rfl (hm64_B_P _ _ _ _ _ _ _ _ _ _ _ _ _ _ _ _) ?_
    replace hp := hp.2
    refine g_blk hz0 kX8_playItem_37 ?_
    refine ⟨fun c4 => ?_, fun c4 => ?_⟩
    · rw [if_neg (show ¬ ((f_X3_goalOf s p ((e.2 1) (Int32.toNatClampNeg (Int32.ofInt 0))) ((e.2 1) (Int32.toNatClampNeg (Int32.ofInt 1))) ((e.2 1) (Int32.toNatClampNeg (Int32.ofInt 2))) ((e.2 1) (Int32.toNatClampNeg (Int32.ofInt 3)))) = (Int32.ofInt (-1))) from c4)] at hq
      replace hp := hp.2 c4
      refine g_blk hz0 kX8_playItem_45 ?_
      refine ⟨vinL (by decide), ?_⟩
      refine ⟨vinL (by decide), ?_⟩
      refine cVp [1, 2, 3, 4, 5, 6, 7, 8, 9, 10, 11, 12] (wP s p) (s_X3_rulerAt s p ((e.2 1) (Int32.toNatClampNeg (Int32.ofInt 0))) ((e.2 1) (Int32.toNatClampNeg (Int32.ofInt 1))) hp.1) rfl cwX3_rulerAt dX8_playItem_59 rfl rfl (hm64_B_P _ _ _ _ _ _ _ _ _ _ _ _ _ _ _ _) ?_
      replace hp := hp.2
      refine g_blk hz0 kX8_playItem_62 ?_
      refine cV [1, 2, 3, 4, 5, 6, 7, 8, 9, 10, 11, 12] (wP s p) (s_X3_carry s p (f_X3_rulerAt s p ((e.2 1) (Int32.toNatClampNeg (Int32.ofInt 0))) ((e.2 1) (Int32.toNatClampNeg (Int32.ofInt 1)))) (f_X3_goalOf s p ((e.2 1) (Int32.toNatClampNeg (Int32.ofInt 0))) ((e.2 1) (Int32.toNatClampNeg (Int32.ofInt 1))) ((e.2 1) (Int32.toNatClampNeg (Int32.ofInt 2))) ((e.2 1) (Int32.toNatClampNeg (Int32.ofInt 3)))) hp.1) rfl cwX3_carry dX8_playItem_63 rfl rfl (hm64_B_P _ _ _ _ _ _ _ _ _ _ _ _ _ _ _ _) ((len_P _ _).trans (len_P _ _).symm) (wB c ((f_X3_carry s p (f_X3_rulerAt s p ((e.2 1) (Int32.toNatClampNeg (Int32.ofInt 0))) ((e.2 1) (Int32.toNatClampNeg (Int32.ofInt 1)))) (f_X3_goalOf s p ((e.2 1) (Int32.toNatClampNeg (Int32.ofInt 0))) ((e.2 1) (Int32.toNatClampNeg (Int32.ofInt 1))) ((e.2 1) (Int32.toNatClampNeg (Int32.ofInt 2))) ((e.2 1) (Int32.toNatClampNeg (Int32.ofInt 3))))).2.1) ((f_X3_carry s p (f_X3_rulerAt s p ((e.2 1) (Int32.toNatClampNeg (Int32.ofInt 0))) ((e.2 1) (Int32.toNatClampNeg (Int32.ofInt 1)))) (f_X3_goalOf s p ((e.2 1) (Int32.toNatClampNeg (Int32.ofInt 0))) ((e.2 1) (Int32.toNatClampNeg (Int32.ofInt 1))) ((e.2 1) (Int32.toNatClampNeg (Int32.ofInt 2))) ((e.2 1) (Int32.toNatClampNeg (Int32.ofInt 3))))).2.2) t e o oh h k q s1 p1 s2 p2 t1 t2) (pw86_B_P _ _ _ _ _ _ _ _ _ _ _ _ _ _ _ _ _ _) ?_
      replace hp := hp.2
      obtain ⟨g5, hg5⟩ : ∃ z, z = (f_X3_carry s p (f_X3_rulerAt s p ((e.2 1) (Int32.toNatClampNeg (Int32.ofInt 0))) ((e.2 1) (Int32.toNatClampNeg (Int32.ofInt 1)))) (f_X3_goalOf s p ((e.2 1) (Int32.toNatClampNeg (Int32.ofInt 0))) ((e.2 1) (Int32.toNatClampNeg (Int32.ofInt 1))) ((e.2 1) (Int32.toNatClampNeg (Int32.ofInt 2))) ((e.2 1) (Int32.toNatClampNeg (Int32.ofInt 3))))) := ⟨_, rfl⟩
      try rw [← hg5] at hp
      try rw [← hg5] at hq
      rw [← hg5]
      refine g_blk hz0 kX8_playItem_66 ?_
      subst hq
      exact ⟨fun _ => Or.inr rfl, rfl, rfl⟩
    · rw [if_pos (show (f_X3_goalOf s p ((e.2 1) (Int32.toNatClampNeg (Int32.ofInt 0))) ((e.2 1) (Int32.toNatClampNeg (Int32.ofInt 1))) ((e.2 1) (Int32.toNatClampNeg (Int32.ofInt 2))) ((e.2 1) (Int32.toNatClampNeg (Int32.ofInt 3)))) = (Int32.ofInt (-1)) from c4)] at hq
      refine g_blk hz0 kX8_playItem_43 ?_
      subst hq
      exact ⟨fun _ => Or.inl rfl, rfl, rfl⟩
