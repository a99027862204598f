def f_X9_step (m : Rec) (x : Int32) (y : Int32) (w : Int32) (d : Int32) : Int32 × Rec := if (f_X9_in (Int32.toInt64 w) ((Int64.ofNat 0)) 3) = 0 then (((f_X9_refuses m ((Int32.ofInt 0)) ((Int32.ofInt (-10)))).1), ((f_X9_refuses m ((Int32.ofInt 0)) ((Int32.ofInt (-10)))).2)) else (if (f_X9_in (Int32.toInt64 d) ((Int64.ofNat 1)) 2) = 0 then (((f_X9_refuses m ((Int32.ofInt 0)) ((Int32.ofInt (-10)))).1), ((f_X9_refuses m ((Int32.ofInt 0)) ((Int32.ofInt (-10)))).2)) else (if ((f_X9_steps (f_X9_keeps_v9 (f_X9_lays m) ((Int32.ofInt 0))) x y w d).1) = 0 then (((f_X9_refuses ((f_X9_steps (f_X9_keeps_v9 (f_X9_lays m) ((Int32.ofInt 0))) x y w d).2) ((Int32.ofInt 1)) ((Int32.ofInt (-20)))).1), ((f_X9_refuses ((f_X9_steps (f_X9_keeps_v9 (f_X9_lays m) ((Int32.ofInt 0))) x y w d).2) ((Int32.ofInt 1)) ((Int32.ofInt (-20)))).2)) else (((f_X9_remembers ((f_X9_steps (f_X9_keeps_v9 (f_X9_lays m) ((Int32.ofInt 0))) x y w d).2)).1 8), (f_X9_remembers ((f_X9_steps (f_X9_keeps_v9 (f_X9_lays m) ((Int32.ofInt 0))) x y w d).2)))))
def p_X9_step (m : Rec) (x : Int32) (y : Int32) (w : Int32) (d : Int32) : Prop := ((f_X9_in (Int32.toInt64 w) ((Int64.ofNat 0)) 3) = 0 → ((p_X9_refuses m ((Int32.ofInt 0)) ((Int32.ofInt (-10)))) ∧ True)) ∧ (¬ ((f_X9_in (Int32.toInt64 w) ((Int64.ofNat 0)) 3) = 0) → (((f_X9_in (Int32.toInt64 d) ((Int64.ofNat 1)) 2) = 0 → ((p_X9_refuses m ((Int32.ofInt 0)) ((Int32.ofInt (-10)))) ∧ True)) ∧ (¬ ((f_X9_in (Int32.toInt64 d) ((Int64.ofNat 1)) 2) = 0) → ((p_X9_lays m) ∧ ((p_X9_keeps_v9 (f_X9_lays m) ((Int32.ofInt 0))) ∧ ((p_X9_steps (f_X9_keeps_v9 (f_X9_lays m) ((Int32.ofInt 0))) x y w d) ∧ ((((f_X9_steps (f_X9_keeps_v9 (f_X9_lays m) ((Int32.ofInt 0))) x y w d).1) = 0 → ((p_X9_refuses ((f_X9_steps (f_X9_keeps_v9 (f_X9_lays m) ((Int32.ofInt 0))) x y w d).2) ((Int32.ofInt 1)) ((Int32.ofInt (-20)))) ∧ True)) ∧ (¬ (((f_X9_steps (f_X9_keeps_v9 (f_X9_lays m) ((Int32.ofInt 0))) x y w d).1) = 0) → ((p_X9_remembers ((f_X9_steps (f_X9_keeps_v9 (f_X9_lays m) ((Int32.ofInt 0))) x y w d).2)) ∧ True)))))))))
set_option maxHeartbeats 16000000 in
set_option maxRecDepth 20000 in
theorem s_X9_step (m : Rec) (x : Int32) (y : Int32) (w : Int32) (d : Int32) (hp : p_X9_step m x y w d) : Spec 5 0 0 mX9_step [.ref 0, .int x, .int y, .int w, .int d] (wM m) (Ret (some (.int ((f_X9_step m x y w d).1))) (wM ((f_X9_step m x y w d).2))) := by
  obtain ⟨zq, hq⟩ : ∃ z, z = (f_X9_step m x y w d) := ⟨_, rfl⟩
  rw [← hq]
  unfold f_X9_step at hq
  unfold p_X9_step at hp
  refine Sof fun sc => ?_
  refine g_blk hz0 kX9_step_0 ?_
  refine cS0 (s_X9_in (Int32.toInt64 w) ((Int64.ofNat 0)) 3) rfl cwX9_in dX9_step_6 rfl ?_
  refine g_blk hz0 kX9_step_9 ?_
  refine ⟨fun c1 => ?_, fun c1 => ?_⟩
  · rw [if_pos (show (f_X9_in (Int32.toInt64 w) ((Int64.ofNat 0)) 3) = 0 from c1)] at hq
    replace hp := hp.1 c1
    refine g_blk hz0 kX9_step_25 ?_
    refine cV [0, 1, 2, 3, 4, 5, 6, 7, 8, 9, 10, 11, 12, 13, 14, 15, 16] (wM m) (s_X9_refuses m ((Int32.ofInt 0)) ((Int32.ofInt (-10))) hp.1) rfl cwX9_refuses dX9_step_29 rfl rfl (hm0_M_M _) ((len_M _).trans (len_M _).symm) (wM ((f_X9_refuses m ((Int32.ofInt 0)) ((Int32.ofInt (-10)))).2)) (pw0_M_M _ _) ?_
    replace hp := hp.2
    obtain ⟨g2, hg2⟩ : ∃ z, z = (f_X9_refuses m ((Int32.ofInt 0)) ((Int32.ofInt (-10)))) := ⟨_, rfl⟩
    try rw [← hg2] at hp
    try rw [← hg2] at hq
    rw [← hg2]
    refine g_blk hz0 kX9_step_32 ?_
    subst hq
    exact ⟨fun h => (by cases h), rfl, rfl⟩
  · rw [if_neg (show ¬ ((f_X9_in (Int32.toInt64 w) ((Int64.ofNat 0)) 3) = 0) from c1)] at hq
    replace hp := hp.2 c1
    refine g_blk hz0 kX9_step_12 ?_
    refine cS0 (s_X9_in (Int32.toInt64 d) ((Int64.ofNat 1)) 2) rfl cwX9_in dX9_step_19 rfl ?_
    refine g_blk hz0 kX9_step_22 ?_
    refine ⟨fun c3 => ?_, fun c3 => ?_⟩
    · rw [if_neg (show ¬ ((f_X9_in (Int32.toInt64 d) ((Int64.ofNat 1)) 2) = 0) from c3)] at hq
      replace hp := hp.2 c3
      refine g_blk hz0 kX9_step_33 ?_
      refine cV [0, 1, 2, 3, 4, 5, 6, 7, 8, 9, 10, 11, 12, 13, 14, 15, 16] (wM m) (s_X9_lays m hp.1) rfl cwX9_lays dX9_step_34 rfl rfl (hm0_M_M _) ((len_M _).trans (len_M _).symm) (wM (f_X9_lays m)) (pw0_M_M _ _) ?_
      replace hp := hp.2
      obtain ⟨g5, hg5⟩ : ∃ z, z = (f_X9_lays m) := ⟨_, rfl⟩
      try rw [← hg5] at hp
      try rw [← hg5] at hq
      rw [← hg5]
      refine g_blk hz0 kX9_step_37 ?_
      refine cV [0, 1, 2, 3, 4, 5, 6, 7, 8, 9, 10, 11, 12, 13, 14, 15, 16] (wM g5) (s_X9_keeps_v9 g5 ((Int32.ofInt 0)) hp.1) rfl cwX9_keeps dX9_step_43 rfl rfl (hm0_M_M _) ((len_M _).trans (len_M _).symm) (wM (f_X9_keeps_v9 g5 ((Int32.ofInt 0)))) (pw0_M_M _ _) ?_
      replace hp := hp.2
      obtain ⟨g6, hg6⟩ : ∃ z, z = (f_X9_keeps_v9 g5 ((Int32.ofInt 0))) := ⟨_, rfl⟩
      try rw [← hg6] at hp
      try rw [← hg6] at hq
      rw [← hg6]
      refine g_blk hz0 kX9_step_46 ?_
      refine cV [0, 1, 2, 3, 4, 5, 6, 7, 8, 9, 10, 11, 12, 13, 14, 15, 16] (wM g6) (s_X9_steps g6 x y w d hp.1) rfl cwX9_steps dX9_step_52 rfl rfl (hm0_M_M _) ((len_M _).trans (len_M _).symm) (wM ((f_X9_steps g6 x y w d).2)) (pw0_M_M _ _) ?_
      replace hp := hp.2
      obtain ⟨g7, hg7⟩ : ∃ z, z = (f_X9_steps g6 x y w d) := ⟨_, rfl⟩
      try rw [← hg7] at hp
      try rw [← hg7] at hq
      rw [← hg7]
      refine g_blk hz0 kX9_step_55 ?_
      refine ⟨fun c8 => ?_, fun c8 => ?_⟩
      · rw [if_neg (show ¬ ((g7.1) = 0) from c8)] at hq
        replace hp := hp.2 c8
        refine g_blk hz0 kX9_step_66 ?_
        refine cV [0, 1, 2, 3, 4, 5, 6, 7, 8, 9, 10, 11, 12, 13, 14, 15, 16] (wM (g7.2)) (s_X9_remembers (g7.2) hp.1) rfl cwX9_remembers dX9_step_67 rfl rfl (hm0_M_M _) ((len_M _).trans (len_M _).symm) (wM (f_X9_remembers (g7.2))) (pw0_M_M _ _) ?_
        replace hp := hp.2
        obtain ⟨g10, hg10⟩ : ∃ z, z = (f_X9_remembers (g7.2)) := ⟨_, rfl⟩
        try rw [← hg10] at hp
        try rw [← hg10] at hq
        rw [← hg10]
        refine g_blk hz0 kX9_step_70 ?_
        subst hq
        exact ⟨fun h => (by cases h), rfl, rfl⟩
      · rw [if_pos (show (g7.1) = 0 from c8)] at hq
        replace hp := hp.1 c8
        refine g_blk hz0 kX9_step_58 ?_
        refine cV [0, 1, 2, 3, 4, 5, 6, 7, 8, 9, 10, 11, 12, 13, 14, 15, 16] (wM (g7.2)) (s_X9_refuses (g7.2) ((Int32.ofInt 1)) ((Int32.ofInt (-20))) hp.1) rfl cwX9_refuses dX9_step_62 rfl rfl (hm0_M_M _) ((len_M _).trans (len_M _).symm) (wM ((f_X9_refuses (g7.2) ((Int32.ofInt 1)) ((Int32.ofInt (-20)))).2)) (pw0_M_M _ _) ?_
        replace hp := hp.2
        obtain ⟨g9, hg9⟩ : ∃ z, z = (f_X9_refuses (g7.2) ((Int32.ofInt 1)) ((Int32.ofInt (-20)))) := ⟨_, rfl⟩
        try rw [← hg9] at hp
        try rw [← hg9] at hq
        rw [← hg9]
        refine g_blk hz0 kX9_step_65 ?_
        subst hq
        exact ⟨fun h => (by cases h), rfl, rfl⟩
    · rw [if_pos (show (f_X9_in (Int32.toInt64 d) ((Int64.ofNat 1)) 2) = 0 from c3)] at hq
      replace hp := hp.1 c3
      refine g_blk hz0 kX9_step_25 ?_
      refine cV [0, 1, 2, 3, 4, 5, 6, 7, 8, 9, 10, 11, 12, 13, 14, 15, 16] (wM m) (s_X9_refuses m ((Int32.ofInt 0)) ((Int32.ofInt (-10))) hp.1) rfl cwX9_refuses dX9_step_29 rfl rfl (hm0_M_M _) ((len_M _).trans (len_M _).symm) (wM ((f_X9_refuses m ((Int32.ofInt 0)) ((Int32.ofInt (-10)))).2)) (pw0_M_M _ _) ?_
      replace hp := hp.2
      obtain ⟨g4, hg4⟩ : ∃ z, z = (f_X9_refuses m ((Int32.ofInt 0)) ((Int32.ofInt (-10)))) := ⟨_, rfl⟩
      try rw [← hg4] at hp
      try rw [← hg4] at hq
      rw [← hg4]
      refine g_blk hz0 kX9_step_32 ?_
      subst hq
      exact ⟨fun h => (by cases h), rfl, rfl⟩
