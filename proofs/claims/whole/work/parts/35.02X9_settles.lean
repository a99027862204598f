def f_X9_settles_0  : Nat → Rec → Rec
  | 0, m => m
  | n + 1, m => if ((m.2 0) (Int32.toNatClampNeg (Int32.ofInt 27))) ≤ 0 then m else (f_X9_settles_0 n ((f_X9_makes (f_X9_pick ((f_X9_habitNow m).2) ((f_X9_habitNow m).1)) ((f_X9_pick ((f_X9_habitNow m).2) ((f_X9_habitNow m).1)).1 10) ((f_X9_pick ((f_X9_habitNow m).2) ((f_X9_habitNow m).1)).1 11) ((f_X9_pick ((f_X9_habitNow m).2) ((f_X9_habitNow m).1)).1 12)).2))
def p_X9_settles_0  : Nat → Rec → Prop
  | 0, _ => False
  | n + 1, m => (((m.2 0) (Int32.toNatClampNeg (Int32.ofInt 27))) ≤ 0 → True) ∧ (¬ (((m.2 0) (Int32.toNatClampNeg (Int32.ofInt 27))) ≤ 0) → ((p_X9_habitNow m) ∧ ((p_X9_pick ((f_X9_habitNow m).2) ((f_X9_habitNow m).1)) ∧ ((p_X9_makes (f_X9_pick ((f_X9_habitNow m).2) ((f_X9_habitNow m).1)) ((f_X9_pick ((f_X9_habitNow m).2) ((f_X9_habitNow m).1)).1 10) ((f_X9_pick ((f_X9_habitNow m).2) ((f_X9_habitNow m).1)).1 11) ((f_X9_pick ((f_X9_habitNow m).2) ((f_X9_habitNow m).1)).1 12)) ∧ (p_X9_settles_0 n ((f_X9_makes (f_X9_pick ((f_X9_habitNow m).2) ((f_X9_habitNow m).1)) ((f_X9_pick ((f_X9_habitNow m).2) ((f_X9_habitNow m).1)).1 10) ((f_X9_pick ((f_X9_habitNow m).2) ((f_X9_habitNow m).1)).1 11) ((f_X9_pick ((f_X9_habitNow m).2) ((f_X9_habitNow m).1)).1 12)).2))))))
set_option maxHeartbeats 16000000 in
set_option maxRecDepth 20000 in
theorem l_X9_settles_0 (sc : SC)   (zq : Rec)  : ∀ (n : Nat) (m : Rec) , p_X9_settles_0 n m → zq = f_X9_settles_0 n m → Good sc 6 0 0 17 mX9_settles (Ret none (wM (zq))) 0 0 0 [some (.ref 0)] [] (wM m) := by
  intro n
  induction n with
  | zero => intro m hp; exact hp.elim
  | succ n ih =>
    intro m hp hq
    unfold p_X9_settles_0 at hp
    unfold f_X9_settles_0 at hq
    refine g_blk hz0 kX9_settles_0 ?_
    refine ⟨vinL (by decide), ?_⟩
    refine ⟨fun c1 => ?_, fun c1 => ?_⟩
    · rw [if_pos (show ((m.2 0) (Int32.toNatClampNeg (Int32.ofInt 27))) ≤ 0 from c1)] at hq
      refine g_blk hz0 kX9_settles_38 ?_
      subst hq
      exact ⟨rfl, rfl⟩
    · rw [if_neg (show ¬ (((m.2 0) (Int32.toNatClampNeg (Int32.ofInt 27))) ≤ 0) from c1)] at hq
      replace hp := hp.2 c1
      refine g_blk hz0 kX9_settles_10 ?_
      refine cV [0, 1, 2, 3, 4, 5, 6, 7, 8, 9, 10, 11, 12, 13, 14, 15, 16] (wM m) (s_X9_habitNow m hp.1) rfl cwX9_habitNow dX9_settles_12 rfl rfl (hm0_M_M _) ((len_M _).trans (len_M _).symm) (wM ((f_X9_habitNow m).2)) (pw0_M_M _ _) ?_
      replace hp := hp.2
      obtain ⟨g2, hg2⟩ : ∃ z, z = (f_X9_habitNow m) := ⟨_, rfl⟩
      try rw [← hg2] at hp
      try rw [← hg2] at hq
      rw [← hg2]
      refine cV [0, 1, 2, 3, 4, 5, 6, 7, 8, 9, 10, 11, 12, 13, 14, 15, 16] (wM (g2.2)) (s_X9_pick (g2.2) (g2.1) hp.1) rfl cwX9_pick dX9_settles_15 rfl rfl (hm0_M_M _) ((len_M _).trans (len_M _).symm) (wM (f_X9_pick (g2.2) (g2.1))) (pw0_M_M _ _) ?_
      replace hp := hp.2
      obtain ⟨g3, hg3⟩ : ∃ z, z = (f_X9_pick (g2.2) (g2.1)) := ⟨_, rfl⟩
      try rw [← hg3] at hp
      try rw [← hg3] at hq
      rw [← hg3]
      refine g_blk hz0 kX9_settles_18 ?_
      refine cV [0, 1, 2, 3, 4, 5, 6, 7, 8, 9, 10, 11, 12, 13, 14, 15, 16] (wM g3) (s_X9_makes g3 (g3.1 10) (g3.1 11) (g3.1 12) hp.1) rfl cwX9_makes dX9_settles_31 rfl rfl (hm0_M_M _) ((len_M _).trans (len_M _).symm) (wM ((f_X9_makes g3 (g3.1 10) (g3.1 11) (g3.1 12)).2)) (pw0_M_M _ _) ?_
      replace hp := hp.2
      obtain ⟨g4, hg4⟩ : ∃ z, z = (f_X9_makes g3 (g3.1 10) (g3.1 11) (g3.1 12)) := ⟨_, rfl⟩
      try rw [← hg4] at hp
      try rw [← hg4] at hq
      rw [← hg4]
      refine g_blk hz0 kX9_settles_34 ?_
      refine g_le (L2 := [some (.ref 0)]) ⟨rfl, trivial⟩ ?_
      exact ih (g4.2) hp hq
def f_X9_settles (m : Rec)  : Rec := (f_X9_settles_0 40 m)
def p_X9_settles (m : Rec)  : Prop := (p_X9_settles_0 40 m)
set_option maxHeartbeats 16000000 in
set_option maxRecDepth 20000 in
theorem s_X9_settles (m : Rec)  (hp : p_X9_settles m) : Spec 6 0 0 mX9_settles [.ref 0] (wM m) (Ret none (wM ((f_X9_settles m)))) := by
  obtain ⟨zq, hq⟩ : ∃ z, z = (f_X9_settles m) := ⟨_, rfl⟩
  rw [← hq]
  unfold f_X9_settles at hq
  unfold p_X9_settles at hp
  refine Sof fun sc => ?_
  refine g_le (L2 := [some (.ref 0)]) ⟨rfl, trivial⟩ ?_
  exact l_X9_settles_0 sc zq 40 m hp hq
