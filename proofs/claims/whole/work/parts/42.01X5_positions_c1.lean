set_option maxHeartbeats 16000000 in
theorem hm38_QS_I6 (q : Rec) (s : Rec) : [8].map (lk (wQS q s)) = (wI6 ((fun _ => 0, fun _ => q.2 201) : Rec)).map (fun e => some (ren [8] e)) := rfl
set_option maxHeartbeats 16000000 in
theorem pw58_QS_I6 (q : Rec) (s : Rec)  : putW (wQS q s) [8] ((wI6 ((fun _ => 0, fun _ => q.2 201) : Rec)).map (ren [8])) = (wQS q s) := rfl
set_option maxHeartbeats 16000000 in
theorem hm39_QS_I6 (q : Rec) (s : Rec) : [3].map (lk (wQS q s)) = (wI6 ((fun _ => 0, fun _ => q.2 101) : Rec)).map (fun e => some (ren [3] e)) := rfl
set_option maxHeartbeats 16000000 in
theorem pw59_QS_I6 (q : Rec) (s : Rec)  : putW (wQS q s) [3] ((wI6 ((fun _ => 0, fun _ => q.2 101) : Rec)).map (ren [3])) = (wQS q s) := rfl
def f_X5_positions_c1_5  : Nat → Rec → Rec → Int64 → Int32 → Int32
  | 0, q, s, v3, v5 => 0
  | n + 1, q, s, v3, v5 => if (Int32.ofInt 36) ≤ v5 then (f_J13_bitCount_95d88 v3) else (if (f_X4_has s v5) = 0 then (f_X5_positions_c1_5 n q s v3 (v5 + (Int32.ofInt 1))) else (f_X5_positions_c1_5 n q s (v3 ||| ((Int64.ofNat 1) <<< (Int32.toInt64 (((Int32.ofInt 6) * (f_X5_firstLike ((fun _ => 0, fun _ => (q.2 201)) : Rec) (v5 / (Int32.ofInt 6)))) + (f_X5_firstLike ((fun _ => 0, fun _ => (q.2 101)) : Rec) (v5 - v5 / (Int32.ofInt 6) * (Int32.ofInt 6)))) &&& 63))) (v5 + (Int32.ofInt 1))))
def p_X5_positions_c1_5  : Nat → Rec → Rec → Int64 → Int32 → Prop
  | 0, _, _, _, _ => False
  | n + 1, q, s, v3, v5 => ((Int32.ofInt 36) ≤ v5 → ((p_J13_bitCount_95d88 v3) ∧ True)) ∧ (¬ ((Int32.ofInt 36) ≤ v5) → ((p_X4_has s v5) ∧ (((f_X4_has s v5) = 0 → (p_X5_positions_c1_5 n q s v3 (v5 + (Int32.ofInt 1)))) ∧ (¬ ((f_X4_has s v5) = 0) → ((p_X5_firstLike ((fun _ => 0, fun _ => (q.2 201)) : Rec) (v5 / (Int32.ofInt 6))) ∧ ((p_X5_firstLike ((fun _ => 0, fun _ => (q.2 101)) : Rec) (v5 - v5 / (Int32.ofInt 6) * (Int32.ofInt 6))) ∧ (p_X5_positions_c1_5 n q s (v3 ||| ((Int64.ofNat 1) <<< (Int32.toInt64 (((Int32.ofInt 6) * (f_X5_firstLike ((fun _ => 0, fun _ => (q.2 201)) : Rec) (v5 / (Int32.ofInt 6)))) + (f_X5_firstLike ((fun _ => 0, fun _ => (q.2 101)) : Rec) (v5 - v5 / (Int32.ofInt 6) * (Int32.ofInt 6)))) &&& 63))) (v5 + (Int32.ofInt 1)))))))))
set_option maxHeartbeats 16000000 in
set_option maxRecDepth 20000 in
theorem l_X5_positions_c1_5 (sc : SC) (q : Rec) (s : Rec)  (zq : Int32)  : ∀ (n : Nat)  (v3 : Int64) (v5 : Int32), p_X5_positions_c1_5 n q s v3 v5 → zq = f_X5_positions_c1_5 n q s v3 v5 → Good sc 2 0 0 21 mX5_positions (Ret (some (.int (zq))) (wQS q s)) 0 0 5 [some (.ref 0), some (.ref 14), some (.int (Int32.ofInt 1)), some (.long v3), none, some (.int v5)] [] (wQS q s) := by
  intro n
  induction n with
  | zero => intro v3 v5 hp; exact hp.elim
  | succ n ih =>
    intro v3 v5 hp hq
    unfold p_X5_positions_c1_5 at hp
    unfold f_X5_positions_c1_5 at hq
    refine g_blk hz0 kX5_positions_5 ?_
    refine ⟨fun c1 => ?_, fun c1 => ?_⟩
    · rw [if_pos (show (Int32.ofInt 36) ≤ v5 from c1)] at hq
      replace hp := hp.1 c1
      refine g_blk hz0 kX5_positions_64 ?_
      refine cS0 (s_J13_bitCount_95d88 v3 hp.1) rfl cwJ13_bitCount_95d88 dX5_positions_65 rfl ?_
      replace hp := hp.2
      refine g_blk hz0 kX5_positions_68 ?_
      subst hq
      exact ⟨fun h => (by cases h), rfl, rfl⟩
    · rw [if_neg (show ¬ ((Int32.ofInt 36) ≤ v5) from c1)] at hq
      replace hp := hp.2 c1
      refine g_blk hz0 kX5_positions_12 ?_
      refine cVp [14, 15, 16, 17, 18, 19, 20] (wS s) (s_X4_has s v5 hp.1) rfl cwX4_has dX5_positions_15 rfl rfl (hm35_QS_S _ _) ?_
      replace hp := hp.2
      refine g_blk hz0 kX5_positions_18 ?_
      refine ⟨fun c2 => ?_, fun c2 => ?_⟩
      · rw [if_pos (show (f_X4_has s v5) = 0 from c2)] at hq
        replace hp := hp.1 c2
        refine g_blk hz0 kX5_positions_58 ?_
        refine g_le (L2 := [some (.ref 0), some (.ref 14), some (.int (Int32.ofInt 1)), some (.long v3), none, some (.int (v5 + (Int32.ofInt 1)))]) ⟨rfl, rfl, rfl, rfl, rfl, trivial⟩ ?_
        exact ih v3 (v5 + (Int32.ofInt 1)) hp hq
      · rw [if_neg (show ¬ ((f_X4_has s v5) = 0) from c2)] at hq
        replace hp := hp.2 c2
        refine g_blk hz0 kX5_positions_21 ?_
        refine ⟨vinL (by decide), 8, rfl, ?_⟩
        refine ⟨by decide, ?_⟩
        refine cS [8] (wI6 ((fun _ => 0, fun _ => (q.2 201)) : Rec)) (s_X5_firstLike ((fun _ => 0, fun _ => (q.2 201)) : Rec) (v5 / (Int32.ofInt 6)) hp.1) rfl cwX5_firstLike dX5_positions_36 rfl (hm38_QS_I6 _ _) ((len_I6 _).trans (len_I6 _).symm) (wQS q s) (pw58_QS_I6 _ _) ?_
        replace hp := hp.2
        refine g_blk hz0 kX5_positions_39 ?_
        refine ⟨vinL (by decide), 3, rfl, ?_⟩
        refine ⟨by decide, ?_⟩
        refine cS [3] (wI6 ((fun _ => 0, fun _ => (q.2 101)) : Rec)) (s_X5_firstLike ((fun _ => 0, fun _ => (q.2 101)) : Rec) (v5 - v5 / (Int32.ofInt 6) * (Int32.ofInt 6)) hp.1) rfl cwX5_firstLike dX5_positions_51 rfl (hm39_QS_I6 _ _) ((len_I6 _).trans (len_I6 _).symm) (wQS q s) (pw59_QS_I6 _ _) ?_
        replace hp := hp.2
        refine g_blk hz0 kX5_positions_54 ?_
        refine g_blk hz0 kX5_positions_58 ?_
        refine g_le (L2 := [some (.ref 0), some (.ref 14), some (.int (Int32.ofInt 1)), some (.long (v3 ||| ((Int64.ofNat 1) <<< (Int32.toInt64 (((Int32.ofInt 6) * (f_X5_firstLike ((fun _ => 0, fun _ => (q.2 201)) : Rec) (v5 / (Int32.ofInt 6)))) + (f_X5_firstLike ((fun _ => 0, fun _ => (q.2 101)) : Rec) (v5 - v5 / (Int32.ofInt 6) * (Int32.ofInt 6)))) &&& 63)))), none, some (.int (v5 + (Int32.ofInt 1)))]) ⟨rfl, rfl, rfl, rfl, rfl, trivial⟩ ?_
        exact ih (v3 ||| ((Int64.ofNat 1) <<< (Int32.toInt64 (((Int32.ofInt 6) * (f_X5_firstLike ((fun _ => 0, fun _ => (q.2 201)) : Rec) (v5 / (Int32.ofInt 6)))) + (f_X5_firstLike ((fun _ => 0, fun _ => (q.2 101)) : Rec) (v5 - v5 / (Int32.ofInt 6) * (Int32.ofInt 6)))) &&& 63))) (v5 + (Int32.ofInt 1)) hp hq
def f_X5_positions_c1 (q : Rec) (s : Rec)  : Int32 := (f_X5_positions_c1_5 40 q s ((Int64.ofNat 0)) ((Int32.ofInt 0)))
def p_X5_positions_c1 (q : Rec) (s : Rec)  : Prop := (p_X5_positions_c1_5 40 q s ((Int64.ofNat 0)) ((Int32.ofInt 0)))
set_option maxHeartbeats 16000000 in
set_option maxRecDepth 20000 in
theorem s_X5_positions_c1 (q : Rec) (s : Rec)  (hp : p_X5_positions_c1 q s) : Spec 2 0 0 mX5_positions [.ref 0, .ref 14, .int (Int32.ofInt 1)] (wQS q s) (Ret (some (.int ((f_X5_positions_c1 q s)))) (wQS q s)) := by
  obtain ⟨zq, hq⟩ : ∃ z, z = (f_X5_positions_c1 q s) := ⟨_, rfl⟩
  rw [← hq]
  unfold f_X5_positions_c1 at hq
  unfold p_X5_positions_c1 at hp
  refine Sof fun sc => ?_
  refine g_blk hz0 kX5_positions_0 ?_
  refine g_le (L2 := [some (.ref 0), some (.ref 14), some (.int (Int32.ofInt 1)), some (.long (Int64.ofNat 0)), none, some (.int (Int32.ofInt 0))]) ⟨rfl, rfl, rfl, rfl, rfl, trivial⟩ ?_
  exact l_X5_positions_c1_5 sc q s zq 40 ((Int64.ofNat 0)) ((Int32.ofInt 0)) hp hq
