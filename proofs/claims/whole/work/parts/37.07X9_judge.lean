def f_X9_judge_27  : Nat → Rec → Int32 → Int32 × Rec
  | 0, m, v1 => (0, m)
  | n + 1, m, v1 => if (m.1 29) ≤ v1 then (if ((f_X9_takes_v14 m ((Int32.ofInt 0))).1 29) ≤ v1 then ((Int32.ofInt (-1)), (f_X9_takes_v14 m ((Int32.ofInt 0)))) else (v1, (f_X9_takes_v14 m ((Int32.ofInt 0))))) else (if ((f_X9_goes m v1).1) = 0 then (if ((f_X9_takes_v14 ((f_X9_goes m v1).2) ((Int32.ofInt 0))).1 29) ≤ v1 then ((Int32.ofInt (-1)), (f_X9_takes_v14 ((f_X9_goes m v1).2) ((Int32.ofInt 0)))) else (v1, (f_X9_takes_v14 ((f_X9_goes m v1).2) ((Int32.ofInt 0))))) else (f_X9_judge_27 n ((f_X9_goes m v1).2) (v1 + (Int32.ofInt 1))))
def p_X9_judge_27  : Nat → Rec → Int32 → Prop
  | 0, _, _ => False
  | n + 1, m, v1 => ((m.1 29) ≤ v1 → ((p_X9_takes_v14 m ((Int32.ofInt 0))) ∧ True)) ∧ (¬ ((m.1 29) ≤ v1) → ((p_X9_goes m v1) ∧ ((((f_X9_goes m v1).1) = 0 → ((p_X9_takes_v14 ((f_X9_goes m v1).2) ((Int32.ofInt 0))) ∧ True)) ∧ (¬ (((f_X9_goes m v1).1) = 0) → (p_X9_judge_27 n ((f_X9_goes m v1).2) (v1 + (Int32.ofInt 1)))))))
set_option maxHeartbeats 16000000 in
set_option maxRecDepth 20000 in
theorem l_X9_judge_27 (sc : SC)   (zq : Int32 × Rec)  : ∀ (n : Nat) (m : Rec) (v1 : Int32), p_X9_judge_27 n m v1 → zq = f_X9_judge_27 n m v1 → Good sc 6 0 0 17 mX9_judge (Ret (some (.int (zq.1))) (wM (zq.2))) 0 0 27 [some (.ref 0), some (.int v1)] [] (wM m) := by
  intro n
  induction n with
  | zero => intro m v1 hp; exact hp.elim
  | succ n ih =>
    intro m v1 hp hq
    unfold p_X9_judge_27 at hp
    unfold f_X9_judge_27 at hq
    refine g_blk hz0 kX9_judge_27 ?_
    refine ⟨fun c6 => ?_, fun c6 => ?_⟩
    · rw [if_pos (show (m.1 29) ≤ v1 from c6)] at hq
      replace hp := hp.1 c6
      refine g_blk hz0 kX9_judge_49 ?_
      refine cV [0, 1, 2, 3, 4, 5, 6, 7, 8, 9, 10, 11, 12, 13, 14, 15, 16] (wM m) (s_X9_takes_v14 m ((Int32.ofInt 0)) hp.1) rfl cwX9_takes dX9_judge_55 rfl rfl (hm0_M_M _) ((len_M _).trans (len_M _).symm) (wM (f_X9_takes_v14 m ((Int32.ofInt 0)))) (pw0_M_M _ _) ?_
      replace hp := hp.2
      obtain ⟨g7, hg7⟩ : ∃ z, z = (f_X9_takes_v14 m ((Int32.ofInt 0))) := ⟨_, rfl⟩
      try rw [← hg7] at hp
      try rw [← hg7] at hq
      rw [← hg7]
      refine g_blk hz0 kX9_judge_58 ?_
      refine ⟨fun c8 => ?_, fun c8 => ?_⟩
      · rw [if_pos (show (g7.1 29) ≤ v1 from c8)] at hq
        refine g_blk hz0 kX9_judge_70 ?_
        refine g_blk hz0 kX9_judge_71 ?_
        subst hq
        exact ⟨fun h => (by cases h), rfl, rfl⟩
      · rw [if_neg (show ¬ ((g7.1 29) ≤ v1) from c8)] at hq
        refine g_blk hz0 kX9_judge_66 ?_
        refine g_blk hz0 kX9_judge_71 ?_
        subst hq
        exact ⟨fun h => (by cases h), rfl, rfl⟩
    · rw [if_neg (show ¬ ((m.1 29) ≤ v1) from c6)] at hq
      replace hp := hp.2 c6
      refine g_blk hz0 kX9_judge_35 ?_
      refine cV [0, 1, 2, 3, 4, 5, 6, 7, 8, 9, 10, 11, 12, 13, 14, 15, 16] (wM m) (s_X9_goes m v1 hp.1) rfl cwX9_goes dX9_judge_37 rfl rfl (hm0_M_M _) ((len_M _).trans (len_M _).symm) (wM ((f_X9_goes m v1).2)) (pw0_M_M _ _) ?_
      replace hp := hp.2
      obtain ⟨g9, hg9⟩ : ∃ z, z = (f_X9_goes m v1) := ⟨_, rfl⟩
      try rw [← hg9] at hp
      try rw [← hg9] at hq
      rw [← hg9]
      refine g_blk hz0 kX9_judge_40 ?_
      refine ⟨fun c10 => ?_, fun c10 => ?_⟩
      · rw [if_pos (show (g9.1) = 0 from c10)] at hq
        replace hp := hp.1 c10
        refine g_blk hz0 kX9_judge_49 ?_
        refine cV [0, 1, 2, 3, 4, 5, 6, 7, 8, 9, 10, 11, 12, 13, 14, 15, 16] (wM (g9.2)) (s_X9_takes_v14 (g9.2) ((Int32.ofInt 0)) hp.1) rfl cwX9_takes dX9_judge_55 rfl rfl (hm0_M_M _) ((len_M _).trans (len_M _).symm) (wM (f_X9_takes_v14 (g9.2) ((Int32.ofInt 0)))) (pw0_M_M _ _) ?_
        replace hp := hp.2
        obtain ⟨g11, hg11⟩ : ∃ z, z = (f_X9_takes_v14 (g9.2) ((Int32.ofInt 0))) := ⟨_, rfl⟩
        try rw [← hg11] at hp
        try rw [← hg11] at hq
        rw [← hg11]
        refine g_blk hz0 kX9_judge_58 ?_
        refine ⟨fun c12 => ?_, fun c12 => ?_⟩
        · rw [if_pos (show (g11.1 29) ≤ v1 from c12)] at hq
          refine g_blk hz0 kX9_judge_70 ?_
          refine g_blk hz0 kX9_judge_71 ?_
          subst hq
          exact ⟨fun h => (by cases h), rfl, rfl⟩
        · rw [if_neg (show ¬ ((g11.1 29) ≤ v1) from c12)] at hq
          refine g_blk hz0 kX9_judge_66 ?_
          refine g_blk hz0 kX9_judge_71 ?_
          subst hq
          exact ⟨fun h => (by cases h), rfl, rfl⟩
      · rw [if_neg (show ¬ ((g9.1) = 0) from c10)] at hq
        replace hp := hp.2 c10
        refine g_blk hz0 kX9_judge_43 ?_
        refine g_le (L2 := [some (.ref 0), some (.int (v1 + (Int32.ofInt 1)))]) ⟨rfl, rfl, trivial⟩ ?_
        exact ih (g9.2) (v1 + (Int32.ofInt 1)) hp hq
def f_X9_judge (m : Rec)  : Int32 × Rec := if ((f_X9_reads m).1) = 0 then (((f_X9_no ((f_X9_reads m).2)).1), ((f_X9_no ((f_X9_reads m).2)).2)) else (f_X9_judge_27 300 (f_X9_keeps_v14 (f_X9_lays ((f_X9_reads m).2)) ((Int32.ofInt 0))) ((Int32.ofInt 0)))
def p_X9_judge (m : Rec)  : Prop := (p_X9_reads m) ∧ ((((f_X9_reads m).1) = 0 → ((p_X9_no ((f_X9_reads m).2)) ∧ True)) ∧ (¬ (((f_X9_reads m).1) = 0) → ((p_X9_lays ((f_X9_reads m).2)) ∧ ((p_X9_keeps_v14 (f_X9_lays ((f_X9_reads m).2)) ((Int32.ofInt 0))) ∧ (p_X9_judge_27 300 (f_X9_keeps_v14 (f_X9_lays ((f_X9_reads m).2)) ((Int32.ofInt 0))) ((Int32.ofInt 0)))))))
set_option maxHeartbeats 16000000 in
set_option maxRecDepth 20000 in
theorem s_X9_judge (m : Rec)  (hp : p_X9_judge m) : Spec 6 0 0 mX9_judge [.ref 0] (wM m) (Ret (some (.int ((f_X9_judge m).1))) (wM ((f_X9_judge m).2))) := by
  obtain ⟨zq, hq⟩ : ∃ z, z = (f_X9_judge m) := ⟨_, rfl⟩
  rw [← hq]
  unfold f_X9_judge at hq
  unfold p_X9_judge at hp
  refine Sof fun sc => ?_
  refine g_blk hz0 kX9_judge_0 ?_
  refine cV [0, 1, 2, 3, 4, 5, 6, 7, 8, 9, 10, 11, 12, 13, 14, 15, 16] (wM m) (s_X9_reads m hp.1) rfl cwX9_reads dX9_judge_1 rfl rfl (hm0_M_M _) ((len_M _).trans (len_M _).symm) (wM ((f_X9_reads m).2)) (pw0_M_M _ _) ?_
  replace hp := hp.2
  obtain ⟨g1, hg1⟩ : ∃ z, z = (f_X9_reads m) := ⟨_, rfl⟩
  try rw [← hg1] at hp
  try rw [← hg1] at hq
  rw [← hg1]
  refine g_blk hz0 kX9_judge_4 ?_
  refine ⟨fun c2 => ?_, fun c2 => ?_⟩
  · rw [if_neg (show ¬ ((g1.1) = 0) from c2)] at hq
    replace hp := hp.2 c2
    refine g_blk hz0 kX9_judge_12 ?_
    refine cV [0, 1, 2, 3, 4, 5, 6, 7, 8, 9, 10, 11, 12, 13, 14, 15, 16] (wM (g1.2)) (s_X9_lays (g1.2) hp.1) rfl cwX9_lays dX9_judge_13 rfl rfl (hm0_M_M _) ((len_M _).trans (len_M _).symm) (wM (f_X9_lays (g1.2))) (pw0_M_M _ _) ?_
    replace hp := hp.2
    obtain ⟨g4, hg4⟩ : ∃ z, z = (f_X9_lays (g1.2)) := ⟨_, rfl⟩
    try rw [← hg4] at hp
    try rw [← hg4] at hq
    rw [← hg4]
    refine g_blk hz0 kX9_judge_16 ?_
    refine cV [0, 1, 2, 3, 4, 5, 6, 7, 8, 9, 10, 11, 12, 13, 14, 15, 16] (wM g4) (s_X9_keeps_v14 g4 ((Int32.ofInt 0)) hp.1) rfl cwX9_keeps dX9_judge_22 rfl rfl (hm0_M_M _) ((len_M _).trans (len_M _).symm) (wM (f_X9_keeps_v14 g4 ((Int32.ofInt 0)))) (pw0_M_M _ _) ?_
    replace hp := hp.2
    obtain ⟨g5, hg5⟩ : ∃ z, z = (f_X9_keeps_v14 g4 ((Int32.ofInt 0))) := ⟨_, rfl⟩
    try rw [← hg5] at hp
    try rw [← hg5] at hq
    rw [← hg5]
    refine g_blk hz0 kX9_judge_25 ?_
    refine g_le (L2 := [some (.ref 0), some (.int (Int32.ofInt 0))]) ⟨rfl, rfl, trivial⟩ ?_
    exact l_X9_judge_27 sc zq 300 g5 ((Int32.ofInt 0)) hp hq
  · rw [if_pos (show (g1.1) = 0 from c2)] at hq
    replace hp := hp.1 c2
    refine g_blk hz0 kX9_judge_7 ?_
    refine cV [0, 1, 2, 3, 4, 5, 6, 7, 8, 9, 10, 11, 12, 13, 14, 15, 16] (wM (g1.2)) (s_X9_no (g1.2) hp.1) rfl cwX9_no dX9_judge_8 rfl rfl (hm0_M_M _) ((len_M _).trans (len_M _).symm) (wM ((f_X9_no (g1.2)).2)) (pw0_M_M _ _) ?_
    replace hp := hp.2
    obtain ⟨g3, hg3⟩ : ∃ z, z = (f_X9_no (g1.2)) := ⟨_, rfl⟩
    try rw [← hg3] at hp
    try rw [← hg3] at hq
    rw [← hg3]
    refine g_blk hz0 kX9_judge_11 ?_
    subst hq
    exact ⟨fun h => (by cases h), rfl, rfl⟩
