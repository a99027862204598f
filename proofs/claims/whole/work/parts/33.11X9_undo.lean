def f_X9_undo_28  : Nat → Rec → Int32 → Int32 × Rec
  | 0, m, v1 => (0, m)
  | n + 1, m, v1 => if (Int32.ofInt 20) ≤ v1 then ((Int32.ofInt 1), m) else (f_X9_undo_28 n (setA m 0 (upd (m.2 0) (Int32.toNatClampNeg ((Int32.ofInt 8) + v1)) ((m.2 0) (Int32.toNatClampNeg (((Int32.ofInt 88) + ((Int32.ofInt 20) * ((m.2 0) (Int32.toNatClampNeg (Int32.ofInt 6))))) + v1))))) (v1 + (Int32.ofInt 1)))
def p_X9_undo_28  : Nat → Rec → Int32 → Prop
  | 0, _, _ => False
  | n + 1, m, v1 => ((Int32.ofInt 20) ≤ v1 → True) ∧ (¬ ((Int32.ofInt 20) ≤ v1) → (vp_in (((Int32.ofInt 88) + ((Int32.ofInt 20) * ((m.2 0) (Int32.toNatClampNeg (Int32.ofInt 6))))) + v1) 248 ∧ (vp_in ((Int32.ofInt 8) + v1) 248 ∧ (p_X9_undo_28 n (setA m 0 (upd (m.2 0) (Int32.toNatClampNeg ((Int32.ofInt 8) + v1)) ((m.2 0) (Int32.toNatClampNeg (((Int32.ofInt 88) + ((Int32.ofInt 20) * ((m.2 0) (Int32.toNatClampNeg (Int32.ofInt 6))))) + v1))))) (v1 + (Int32.ofInt 1))))))
set_option maxHeartbeats 16000000 in
set_option maxRecDepth 20000 in
theorem l_X9_undo_28 (sc : SC)   (zq : Int32 × Rec)  : ∀ (n : Nat) (m : Rec) (v1 : Int32), p_X9_undo_28 n m v1 → zq = f_X9_undo_28 n m v1 → Good sc 2 0 0 17 mX9_undo (Ret (some (.int (zq.1))) (wM (zq.2))) 0 0 28 [some (.ref 0), some (.int v1)] [] (wM m) := by
  intro n
  induction n with
  | zero => intro m v1 hp; exact hp.elim
  | succ n ih =>
    intro m v1 hp hq
    unfold p_X9_undo_28 at hp
    unfold f_X9_undo_28 at hq
    refine g_blk hz0 kX9_undo_28 ?_
    refine ⟨fun c3 => ?_, fun c3 => ?_⟩
    · rw [if_pos (show (Int32.ofInt 20) ≤ v1 from c3)] at hq
      refine g_blk hz0 kX9_undo_69 ?_
      subst hq
      exact ⟨fun h => (by cases h), rfl, rfl⟩
    · rw [if_neg (show ¬ ((Int32.ofInt 20) ≤ v1) from c3)] at hq
      replace hp := hp.2 c3
      refine g_blk hz0 kX9_undo_34 ?_
      refine ⟨vinL (by decide), ?_⟩
      refine ⟨hp.1, ?_⟩
      replace hp := hp.2
      refine ⟨hp.1, ?_⟩
      replace hp := hp.2
      refine g_le (L2 := [some (.ref 0), some (.int (v1 + (Int32.ofInt 1)))]) ⟨rfl, rfl, trivial⟩ ?_
      exact ih (setA m 0 (upd (m.2 0) (Int32.toNatClampNeg ((Int32.ofInt 8) + v1)) ((m.2 0) (Int32.toNatClampNeg (((Int32.ofInt 88) + ((Int32.ofInt 20) * ((m.2 0) (Int32.toNatClampNeg (Int32.ofInt 6))))) + v1))))) (v1 + (Int32.ofInt 1)) hp hq
def f_X9_undo (m : Rec)  : Int32 × Rec := if ((m.2 0) (Int32.toNatClampNeg (Int32.ofInt 6))) = 0 then (((f_X9_no m).1), ((f_X9_no m).2)) else (f_X9_undo_28 40 (setA m 0 (upd (m.2 0) (Int32.toNatClampNeg (Int32.ofInt 6)) (((m.2 0) (Int32.toNatClampNeg (Int32.ofInt 6))) - (Int32.ofInt 1)))) ((Int32.ofInt 0)))
def p_X9_undo (m : Rec)  : Prop := (((m.2 0) (Int32.toNatClampNeg (Int32.ofInt 6))) = 0 → ((p_X9_no m) ∧ True)) ∧ (¬ (((m.2 0) (Int32.toNatClampNeg (Int32.ofInt 6))) = 0) → (p_X9_undo_28 40 (setA m 0 (upd (m.2 0) (Int32.toNatClampNeg (Int32.ofInt 6)) (((m.2 0) (Int32.toNatClampNeg (Int32.ofInt 6))) - (Int32.ofInt 1)))) ((Int32.ofInt 0))))
set_option maxHeartbeats 16000000 in
set_option maxRecDepth 20000 in
theorem s_X9_undo (m : Rec)  (hp : p_X9_undo m) : Spec 2 0 0 mX9_undo [.ref 0] (wM m) (Ret (some (.int ((f_X9_undo m).1))) (wM ((f_X9_undo m).2))) := by
  obtain ⟨zq, hq⟩ : ∃ z, z = (f_X9_undo m) := ⟨_, rfl⟩
  rw [← hq]
  unfold f_X9_undo at hq
  unfold p_X9_undo at hp
  refine Sof fun sc => ?_
  refine g_blk hz0 kX9_undo_0 ?_
  refine ⟨vinL (by decide), ?_⟩
  refine ⟨fun c1 => ?_, fun c1 => ?_⟩
  · rw [if_neg (show ¬ (((m.2 0) (Int32.toNatClampNeg (Int32.ofInt 6))) = 0) from c1)] at hq
    replace hp := hp.2 c1
    refine g_blk hz0 kX9_undo_15 ?_
    refine ⟨vinL (by decide), ?_⟩
    refine ⟨vinL (by decide), ?_⟩
    refine g_le (L2 := [some (.ref 0), some (.int (Int32.ofInt 0))]) ⟨rfl, rfl, trivial⟩ ?_
    exact l_X9_undo_28 sc zq 40 (setA m 0 (upd (m.2 0) (Int32.toNatClampNeg (Int32.ofInt 6)) (((m.2 0) (Int32.toNatClampNeg (Int32.ofInt 6))) - (Int32.ofInt 1)))) ((Int32.ofInt 0)) hp hq
  · rw [if_pos (show ((m.2 0) (Int32.toNatClampNeg (Int32.ofInt 6))) = 0 from c1)] at hq
    replace hp := hp.1 c1
    refine g_blk hz0 kX9_undo_10 ?_
    refine cV [0, 1, 2, 3, 4, 5, 6, 7, 8, 9, 10, 11, 12, 13, 14, 15, 16] (wM m) (s_X9_no m hp.1) rfl cwX9_no dX9_undo_11 rfl rfl (hm0_M_M _) ((len_M _).trans (len_M _).symm) (wM ((f_X9_no m).2)) (pw0_M_M _ _) ?_
    replace hp := hp.2
    obtain ⟨g2, hg2⟩ : ∃ z, z = (f_X9_no m) := ⟨_, rfl⟩
    try rw [← hg2] at hp
    try rw [← hg2] at hq
    rw [← hg2]
    refine g_blk hz0 kX9_undo_14 ?_
    subst hq
    exact ⟨fun h => (by cases h), rfl, rfl⟩
