def f_X9_takes_v14_2  : Nat → Rec → Int32 → Int32 → Rec
  | 0, m, v2, v3 => m
  | n + 1, m, v2, v3 => if (Int32.ofInt 20) ≤ v3 then (f_X9_lays m) else (f_X9_takes_v14_2 n (setA m 0 (upd (m.2 0) (Int32.toNatClampNeg ((Int32.ofInt 8) + v3)) ((m.2 17) (Int32.toNatClampNeg (v2 + v3))))) v2 (v3 + (Int32.ofInt 1)))
def p_X9_takes_v14_2  : Nat → Rec → Int32 → Int32 → Prop
  | 0, _, _, _ => False
  | n + 1, m, v2, v3 => ((Int32.ofInt 20) ≤ v3 → ((p_X9_lays m) ∧ True)) ∧ (¬ ((Int32.ofInt 20) ≤ v3) → (vp_in (v2 + v3) 20 ∧ (vp_in ((Int32.ofInt 8) + v3) 248 ∧ (p_X9_takes_v14_2 n (setA m 0 (upd (m.2 0) (Int32.toNatClampNeg ((Int32.ofInt 8) + v3)) ((m.2 17) (Int32.toNatClampNeg (v2 + v3))))) v2 (v3 + (Int32.ofInt 1))))))
set_option maxHeartbeats 16000000 in
set_option maxRecDepth 20000 in
theorem l_X9_takes_v14_2 (sc : SC)   (zq : Rec)  : ∀ (n : Nat) (m : Rec) (v2 : Int32) (v3 : Int32), p_X9_takes_v14_2 n m v2 v3 → zq = f_X9_takes_v14_2 n m v2 v3 → Good sc 4 0 0 17 mX9_takes (Ret none (wM (zq))) 0 0 2 [some (.ref 0), some (.ref 14), some (.int v2), some (.int v3)] [] (wM m) := by
  intro n
  induction n with
  | zero => intro m v2 v3 hp; exact hp.elim
  | succ n ih =>
    intro m v2 v3 hp hq
    unfold p_X9_takes_v14_2 at hp
    unfold f_X9_takes_v14_2 at hq
    refine g_blk hz0 kX9_takes_2 ?_
    refine ⟨fun c1 => ?_, fun c1 => ?_⟩
    · rw [if_pos (show (Int32.ofInt 20) ≤ v3 from c1)] at hq
      replace hp := hp.1 c1
      refine g_blk hz0 kX9_takes_28 ?_
      refine cV [0, 1, 2, 3, 4, 5, 6, 7, 8, 9, 10, 11, 12, 13, 14, 15, 16] (wM m) (s_X9_lays m hp.1) rfl cwX9_lays dX9_takes_29 rfl rfl (hm0_M_M _) ((len_M _).trans (len_M _).symm) (wM (f_X9_lays m)) (pw0_M_M _ _) ?_
      replace hp := hp.2
      obtain ⟨g2, hg2⟩ : ∃ z, z = (f_X9_lays m) := ⟨_, rfl⟩
      try rw [← hg2] at hp
      try rw [← hg2] at hq
      rw [← hg2]
      refine g_blk hz0 kX9_takes_32 ?_
      subst hq
      exact ⟨rfl, rfl⟩
    · rw [if_neg (show ¬ ((Int32.ofInt 20) ≤ v3) from c1)] at hq
      replace hp := hp.2 c1
      refine g_blk hz0 kX9_takes_8 ?_
      refine ⟨hp.1, ?_⟩
      replace hp := hp.2
      refine ⟨hp.1, ?_⟩
      replace hp := hp.2
      refine g_le (L2 := [some (.ref 0), some (.ref 14), some (.int v2), some (.int (v3 + (Int32.ofInt 1)))]) ⟨rfl, rfl, rfl, rfl, trivial⟩ ?_
      exact ih (setA m 0 (upd (m.2 0) (Int32.toNatClampNeg ((Int32.ofInt 8) + v3)) ((m.2 17) (Int32.toNatClampNeg (v2 + v3))))) v2 (v3 + (Int32.ofInt 1)) hp hq
def f_X9_takes_v14 (m : Rec) (a : Int32) : Rec := (f_X9_takes_v14_2 40 m a ((Int32.ofInt 0)))
def p_X9_takes_v14 (m : Rec) (a : Int32) : Prop := (p_X9_takes_v14_2 40 m a ((Int32.ofInt 0)))
set_option maxHeartbeats 16000000 in
set_option maxRecDepth 20000 in
theorem s_X9_takes_v14 (m : Rec) (a : Int32) (hp : p_X9_takes_v14 m a) : Spec 4 0 0 mX9_takes [.ref 0, .ref 14, .int a] (wM m) (Ret none (wM ((f_X9_takes_v14 m a)))) := by
  obtain ⟨zq, hq⟩ : ∃ z, z = (f_X9_takes_v14 m a) := ⟨_, rfl⟩
  rw [← hq]
  unfold f_X9_takes_v14 at hq
  unfold p_X9_takes_v14 at hp
  refine Sof fun sc => ?_
  refine g_blk hz0 kX9_takes_0 ?_
  refine g_le (L2 := [some (.ref 0), some (.ref 14), some (.int a), some (.int (Int32.ofInt 0))]) ⟨rfl, rfl, rfl, rfl, trivial⟩ ?_
  exact l_X9_takes_v14_2 sc zq 40 m a ((Int32.ofInt 0)) hp hq
