set_option maxHeartbeats 16000000 in
theorem hm44_QS_QS (q : Rec) (s : Rec) : [0, 1, 2, 3, 4, 5, 6, 7, 8, 9, 10, 11, 12, 13, 14, 15, 16, 17, 18, 19, 20].map (lk (wQS q s)) = (wQS q s).map (fun e => some (ren [0, 1, 2, 3, 4, 5, 6, 7, 8, 9, 10, 11, 12, 13, 14, 15, 16, 17, 18, 19, 20] e)) := by
  unfold wQS
  simp only [List.map_cons, List.map_nil, renQ]
  rfl
set_option maxHeartbeats 16000000 in
theorem pw64_QS_QS (q : Rec) (s : Rec)  : putW (wQS q s) [0, 1, 2, 3, 4, 5, 6, 7, 8, 9, 10, 11, 12, 13, 14, 15, 16, 17, 18, 19, 20] ((wQS q s).map (ren [0, 1, 2, 3, 4, 5, 6, 7, 8, 9, 10, 11, 12, 13, 14, 15, 16, 17, 18, 19, 20])) = (wQS q s) := putW_same (by decide) (hm44_QS_QS q s)
def f_X5_explore_c3_34  : Nat → Rec → Rec → Int32 → Rec
  | 0, q, s, v4 => q
  | n + 1, q, s, v4 => if (Int32.ofInt 1) < v4 then q else q
def p_X5_explore_c3_34  : Nat → Rec → Rec → Int32 → Prop
  | 0, _, _, _ => False
  | n + 1, q, s, v4 => True
set_option maxHeartbeats 16000000 in
set_option maxRecDepth 20000 in
theorem l_X5_explore_c3_34 (sc : SC) (s : Rec)  (zq : Rec)  : ∀ (n : Nat) (q : Rec) (v4 : Int32), p_X5_explore_c3_34 n q s v4 → zq = f_X5_explore_c3_34 n q s v4 → Good sc 3 0 0 21 mX5_explore (Ret none (wQS (zq) s)) 0 0 34 [some (.ref 0), some (.ref 14), some (.int (Int32.ofInt 3)), none, some (.int v4), none, none, none, none, none] [] (wQS q s) := by
  intro n
  induction n with
  | zero => intro q v4 hp; exact hp.elim
  | succ n ih =>
    intro q v4 hp hq
    unfold p_X5_explore_c3_34 at hp
    unfold f_X5_explore_c3_34 at hq
    try dsimp only at hp
    try dsimp only at hq
    refine g_blk hz0 kX5_explore_34 ?_
    refine ⟨fun c1 => ?_, fun c1 => ?_⟩
    · rw [if_pos (show (Int32.ofInt 1) < v4 from c1)] at hq
      refine g_blk hz0 kX5_explore_199 ?_
      subst hq
      exact ⟨rfl, rfl⟩
    · rw [if_neg (show ¬ ((Int32.ofInt 1) < v4) from c1)] at hq
      refine g_blk hz0 kX5_explore_40 ?_
      refine ⟨fun _ => ?_, fun c => absurd c (by decide)⟩
      refine g_blk hz0 kX5_explore_199 ?_
      subst hq
      exact ⟨rfl, rfl⟩
def f_X5_explore_c3 (q : Rec) (s : Rec) (a : Int32) : Rec := (f_X5_explore_c3_34 4000000000 (setA q 4 (upd (q.2 4) (Int32.toNatClampNeg (Int32.ofInt 3)) (if (f_X5_positions_c3 q s) < ((q.2 4) (Int32.toNatClampNeg (Int32.ofInt 3))) then (f_X5_positions_c3 q s) else ((q.2 4) (Int32.toNatClampNeg (Int32.ofInt 3)))))) s a)
def p_X5_explore_c3 (q : Rec) (s : Rec) (a : Int32) : Prop := (p_X5_positions_c3 q s) ∧ (p_X5_explore_c3_34 4000000000 (setA q 4 (upd (q.2 4) (Int32.toNatClampNeg (Int32.ofInt 3)) (if (f_X5_positions_c3 q s) < ((q.2 4) (Int32.toNatClampNeg (Int32.ofInt 3))) then (f_X5_positions_c3 q s) else ((q.2 4) (Int32.toNatClampNeg (Int32.ofInt 3)))))) s a)
set_option maxHeartbeats 16000000 in
set_option maxRecDepth 20000 in
theorem s_X5_explore_c3 (q : Rec) (s : Rec) (a : Int32) (hp : p_X5_explore_c3 q s a) : Spec 3 0 0 mX5_explore [.ref 0, .ref 14, .int (Int32.ofInt 3), .int a] (wQS q s) (Ret none (wQS ((f_X5_explore_c3 q s a)) s)) := by
  obtain ⟨zq, hq⟩ : ∃ z, z = (f_X5_explore_c3 q s a) := ⟨_, rfl⟩
  rw [← hq]
  unfold f_X5_explore_c3 at hq
  unfold p_X5_explore_c3 at hp
  refine Sof fun sc => ?_
  refine g_blk hz0 kX5_explore_0 ?_
  refine cS0 (s_X8_within (Int32.ofInt 3) (Int32.ofInt 0) (Int32.ofInt 3)) rfl cwX8_within dX5_explore_3 rfl ?_
  refine g_blk hz0 kX5_explore_6 ?_
  refine ⟨fun _ => ?_, fun c => absurd c (by decide)⟩
  refine g_blk hz0 kX5_explore_10 ?_
  refine ⟨vinL (by decide), ?_⟩
  refine cVp [0, 1, 2, 3, 4, 5, 6, 7, 8, 9, 10, 11, 12, 13, 14, 15, 16, 17, 18, 19, 20] (wQS q s) (s_X5_positions_c3 q s hp.1) rfl cwX5_positions dX5_explore_24 rfl rfl (hm44_QS_QS _ _) ?_
  replace hp := hp.2
  refine g_min (by decide) hz0 (gw_mem (by decide +kernel)) (Nat.le_of_ble_eq_true rfl) dX5_explore_27 ?_
  refine g_blk hz0 kX5_explore_30 ?_
  refine ⟨vinL (by decide), ?_⟩
  refine g_le (L2 := [some (.ref 0), some (.ref 14), some (.int (Int32.ofInt 3)), none, some (.int a), none, none, none, none, none]) ⟨rfl, rfl, rfl, rfl, trivial⟩ ?_
  exact l_X5_explore_c3_34 sc s zq 4000000000 (setA q 4 (upd (q.2 4) (Int32.toNatClampNeg (Int32.ofInt 3)) (if (f_X5_positions_c3 q s) < ((q.2 4) (Int32.toNatClampNeg (Int32.ofInt 3))) then (f_X5_positions_c3 q s) else ((q.2 4) (Int32.toNatClampNeg (Int32.ofInt 3)))))) a hp hq
