def f_X9_lays_6  : Nat → Rec → Int32 → Rec
  | 0, m, v1 => m
  | n + 1, m, v1 => if ((m.2 0) (Int32.toNatClampNeg (Int32.ofInt 16))) ≤ v1 then m else (f_X9_lays_6 n (f_X9_turnsOver m ((m.2 0) (Int32.toNatClampNeg ((Int32.ofInt 17) + ((Int32.ofInt 3) * v1)))) ((m.2 0) (Int32.toNatClampNeg (((Int32.ofInt 17) + ((Int32.ofInt 3) * v1)) + (Int32.ofInt 1)))) ((m.2 0) (Int32.toNatClampNeg (((Int32.ofInt 17) + ((Int32.ofInt 3) * v1)) + (Int32.ofInt 2))))) (v1 + (Int32.ofInt 1)))
def p_X9_lays_6  : Nat → Rec → Int32 → Prop
  | 0, _, _ => False
  | n + 1, m, v1 => (((m.2 0) (Int32.toNatClampNeg (Int32.ofInt 16))) ≤ v1 → True) ∧ (¬ (((m.2 0) (Int32.toNatClampNeg (Int32.ofInt 16))) ≤ v1) → (vp_in ((Int32.ofInt 17) + ((Int32.ofInt 3) * v1)) 248 ∧ (vp_in (((Int32.ofInt 17) + ((Int32.ofInt 3) * v1)) + (Int32.ofInt 1)) 248 ∧ (vp_in (((Int32.ofInt 17) + ((Int32.ofInt 3) * v1)) + (Int32.ofInt 2)) 248 ∧ ((p_X9_turnsOver m ((m.2 0) (Int32.toNatClampNeg ((Int32.ofInt 17) + ((Int32.ofInt 3) * v1)))) ((m.2 0) (Int32.toNatClampNeg (((Int32.ofInt 17) + ((Int32.ofInt 3) * v1)) + (Int32.ofInt 1)))) ((m.2 0) (Int32.toNatClampNeg (((Int32.ofInt 17) + ((Int32.ofInt 3) * v1)) + (Int32.ofInt 2))))) ∧ (p_X9_lays_6 n (f_X9_turnsOver m ((m.2 0) (Int32.toNatClampNeg ((Int32.ofInt 17) + ((Int32.ofInt 3) * v1)))) ((m.2 0) (Int32.toNatClampNeg (((Int32.ofInt 17) + ((Int32.ofInt 3) * v1)) + (Int32.ofInt 1)))) ((m.2 0) (Int32.toNatClampNeg (((Int32.ofInt 17) + ((Int32.ofInt 3) * v1)) + (Int32.ofInt 2))))) (v1 + (Int32.ofInt 1))))))))
set_option maxHeartbeats 16000000 in
set_option maxRecDepth 20000 in
theorem l_X9_lays_6 (sc : SC)   (zq : Rec)  : ∀ (n : Nat) (m : Rec) (v1 : Int32), p_X9_lays_6 n m v1 → zq = f_X9_lays_6 n m v1 → Good sc 3 0 0 17 mX9_lays (Ret none (wM (zq))) 0 0 6 [some (.ref 0), some (.int v1)] [] (wM m) := by
  intro n
  induction n with
  | zero => intro m v1 hp; exact hp.elim
  | succ n ih =>
    intro m v1 hp hq
    unfold p_X9_lays_6 at hp
    unfold f_X9_lays_6 at hq
    refine g_blk hz0 kX9_lays_6 ?_
    refine ⟨vinL (by decide), ?_⟩
    refine ⟨fun c2 => ?_, fun c2 => ?_⟩
    · rw [if_pos (show ((m.2 0) (Int32.toNatClampNeg (Int32.ofInt 16))) ≤ v1 from c2)] at hq
      refine g_blk hz0 kX9_lays_64 ?_
      subst hq
      exact ⟨rfl, rfl⟩
    · rw [if_neg (show ¬ (((m.2 0) (Int32.toNatClampNeg (Int32.ofInt 16))) ≤ v1) from c2)] at hq
      replace hp := hp.2 c2
      refine g_blk hz0 kX9_lays_17 ?_
      refine ⟨hp.1, ?_⟩
      replace hp := hp.2
      refine ⟨hp.1, ?_⟩
      replace hp := hp.2
      refine ⟨hp.1, ?_⟩
      replace hp := hp.2
      refine cV [0, 1, 2, 3, 4, 5, 6, 7, 8, 9, 10, 11, 12, 13, 14, 15, 16] (wM m) (s_X9_turnsOver m ((m.2 0) (Int32.toNatClampNeg ((Int32.ofInt 17) + ((Int32.ofInt 3) * v1)))) ((m.2 0) (Int32.toNatClampNeg (((Int32.ofInt 17) + ((Int32.ofInt 3) * v1)) + (Int32.ofInt 1)))) ((m.2 0) (Int32.toNatClampNeg (((Int32.ofInt 17) + ((Int32.ofInt 3) * v1)) + (Int32.ofInt 2)))) hp.1) rfl cwX9_turnsOver dX9_lays_55 rfl rfl (hm0_M_M _) ((len_M _).trans (len_M _).symm) (wM (f_X9_turnsOver m ((m.2 0) (Int32.toNatClampNeg ((Int32.ofInt 17) + ((Int32.ofInt 3) * v1)))) ((m.2 0) (Int32.toNatClampNeg (((Int32.ofInt 17) + ((Int32.ofInt 3) * v1)) + (Int32.ofInt 1)))) ((m.2 0) (Int32.toNatClampNeg (((Int32.ofInt 17) + ((Int32.ofInt 3) * v1)) + (Int32.ofInt 2)))))) (pw0_M_M _ _) ?_
      replace hp := hp.2
      obtain ⟨g3, hg3⟩ : ∃ z, z = (f_X9_turnsOver m ((m.2 0) (Int32.toNatClampNeg ((Int32.ofInt 17) + ((Int32.ofInt 3) * v1)))) ((m.2 0) (Int32.toNatClampNeg (((Int32.ofInt 17) + ((Int32.ofInt 3) * v1)) + (Int32.ofInt 1)))) ((m.2 0) (Int32.toNatClampNeg (((Int32.ofInt 17) + ((Int32.ofInt 3) * v1)) + (Int32.ofInt 2))))) := ⟨_, rfl⟩
      try rw [← hg3] at hp
      try rw [← hg3] at hq
      rw [← hg3]
      refine g_blk hz0 kX9_lays_58 ?_
      refine g_le (L2 := [some (.ref 0), some (.int (v1 + (Int32.ofInt 1)))]) ⟨rfl, rfl, trivial⟩ ?_
      exact ih g3 (v1 + (Int32.ofInt 1)) hp hq
def f_X9_lays (m : Rec)  : Rec := (f_X9_lays_6 40 (f_X9_flat m) ((Int32.ofInt 0)))
def p_X9_lays (m : Rec)  : Prop := (p_X9_flat m) ∧ (p_X9_lays_6 40 (f_X9_flat m) ((Int32.ofInt 0)))
set_option maxHeartbeats 16000000 in
set_option maxRecDepth 20000 in
theorem s_X9_lays (m : Rec)  (hp : p_X9_lays m) : Spec 3 0 0 mX9_lays [.ref 0] (wM m) (Ret none (wM ((f_X9_lays m)))) := by
  obtain ⟨zq, hq⟩ : ∃ z, z = (f_X9_lays m) := ⟨_, rfl⟩
  rw [← hq]
  unfold f_X9_lays at hq
  unfold p_X9_lays at hp
  refine Sof fun sc => ?_
  refine g_blk hz0 kX9_lays_0 ?_
  refine cV [0, 1, 2, 3, 4, 5, 6, 7, 8, 9, 10, 11, 12, 13, 14, 15, 16] (wM m) (s_X9_flat m hp.1) rfl cwX9_flat dX9_lays_1 rfl rfl (hm0_M_M _) ((len_M _).trans (len_M _).symm) (wM (f_X9_flat m)) (pw0_M_M _ _) ?_
  replace hp := hp.2
  obtain ⟨g1, hg1⟩ : ∃ z, z = (f_X9_flat m) := ⟨_, rfl⟩
  try rw [← hg1] at hp
  try rw [← hg1] at hq
  rw [← hg1]
  refine g_blk hz0 kX9_lays_4 ?_
  refine g_le (L2 := [some (.ref 0), some (.int (Int32.ofInt 0))]) ⟨rfl, rfl, trivial⟩ ?_
  exact l_X9_lays_6 sc zq 40 g1 ((Int32.ofInt 0)) hp hq
