set_option maxHeartbeats 16000000 in
theorem hm35_QS_S (q : Rec) (s : Rec) : [14, 15, 16, 17, 18, 19, 20].map (lk (wQS q s)) = (wS s).map (fun e => some (ren [14, 15, 16, 17, 18, 19, 20] e)) := rfl
set_option maxHeartbeats 16000000 in
theorem pw55_QS_S (q : Rec) (s : Rec)  : putW (wQS q s) [14, 15, 16, 17, 18, 19, 20] ((wS s).map (ren [14, 15, 16, 17, 18, 19, 20])) = (wQS q s) := rfl
set_option maxHeartbeats 16000000 in
theorem hm36_QS_I6 (q : Rec) (s : Rec) : [7].map (lk (wQS q s)) = (wI6 ((fun _ => 0, fun _ => q.2 200) : Rec)).map (fun e => some (ren [7] e)) := rfl
set_option maxHeartbeats 16000000 in
theorem pw56_QS_I6 (q : Rec) (s : Rec)  : putW (wQS q s) [7] ((wI6 ((fun _ => 0, fun _ => q.2 200) : Rec)).map (ren [7])) = (wQS q s) := rfl
set_option maxHeartbeats 16000000 in
theorem hm37_QS_I6 (q : Rec) (s : Rec) : [2].map (lk (wQS q s)) = (wI6 ((fun _ => 0, fun _ => q.2 100) : Rec)).map (fun e => some (ren [2] e)) := rfl
set_option maxHeartbeats 16000000 in
theorem pw57_QS_I6 (q : Rec) (s : Rec)  : putW (wQS q s) [2] ((wI6 ((fun _ => 0, fun _ => q.2 100) : Rec)).map (ren [2])) = (wQS q s) := rfl
def f_X5_positions_c0_5  : Nat → Rec → Rec → Int64 → Int32 → Int32
  | 0, q, s, v3, v5 => 0
  | n + 1, q, s, v3, v5 => if (Int32.ofInt 36) ≤ v5 then (f_J13_bitCount_95d88 v3) else (if (f_X4_has s v5) = 0 then (f_X5_positions_c0_5 n q s v3 (v5 + (Int32.ofInt 1))) else (f_X5_positions_c0_5 n q s (v3 ||| ((Int64.ofNat 1) <<< (Int32.toInt64 (((Int32.ofInt 6) * (f_X5_firstLike ((fun _ => 0, fun _ => (q.2 200)) : Rec) (v5 / (Int32.ofInt 6)))) + (f_X5_firstLike ((fun _ => 0, fun _ => (q.2 100)) : Rec) (v5 - v5 / (Int32.ofInt 6) * (Int32.ofInt 6)))) &&& 63))) (v5 + (Int32.ofInt 1))))
def p_X5_positions_c0_5  : Nat → Rec → Rec → Int64 → Int32 → Prop
  | 0, _, _, _, _ => False
  | n + 1, q, s, v3, v5 => ((Int32.ofInt 36) ≤ v5 → ((p_J13_bitCount_95d88 v3) ∧ True)) ∧ (¬ ((Int32.ofInt 36) ≤ v5) → ((p_X4_has s v5) ∧ (((f_X4_has s v5) = 0 → (p_X5_positions_c0_5 n q s v3 (v5 + (Int32.ofInt 1)))) ∧ (¬ ((f_X4_has s v5) = 0) → ((p_X5_firstLike ((fun _ => 0, fun _ => (q.2 200)) : Rec) (v5 / (Int32.ofInt 6))) ∧ ((p_X5_firstLike ((fun _ => 0, fun _ => (q.2 100)) : Rec) (v5 - v5 / (Int32.ofInt 6) * (Int32.ofInt 6))) ∧ (p_X5_positions_c0_5 n q s (v3 ||| ((Int64.ofNat 1) <<< (Int32.toInt64 (((Int32.ofInt 6) * (f_X5_firstLike ((fun _ => 0, fun _ => (q.2 200)) : Rec) (v5 / (Int32.ofInt 6)))) + (f_X5_firstLike ((fun _ => 0, fun _ => (q.2 100)) : Rec) (v5 - v5 / (Int32.ofInt 6) * (Int32.ofInt 6)))) &&& 63))) (v5 + (Int32.ofInt 1)))))))))
set_option maxHeartbeats 16000000 in
set_option maxRecDepth 20000 in
theorem l_X5_positions_c0_5 (sc : SC) (q : Rec) (s : Rec)  (zq : Int32)  : ∀ (n : Nat)  (v3 : Int64) (v5 : Int32), p_X5_positions_c0_5 n q s v3 v5 → zq = f_X5_positions_c0_5 n q s v3 v5 → Good sc 2 0 0 21 mX5_positions (Ret (some (.int (zq))) (wQS q s)) 0 0 5 [some (.ref 0), some (.ref 14), some (.int (Int32.ofInt 0)), some (.long v3), none, some (.int v5)] [] (wQS q s) := by
  intro n
  induction n with
  | zero => intro v3 v5 hp; exact hp.elim
  | succ n ih =>
    intro v3 v5 hp hq
    unfold p_X5_positions_c0_5 at hp
    unfold f_X5_positions_c0_5 at hq
    refine g_blk hz0 kX5_positions_5 ?_
    refine ⟨fun c1 => ?_, fun c1 => ?_⟩
    · rw [if_pos (show (Int32.ofInt 36) ≤ v5 from c1)] at hq
      replace hp := hp.1 c1
      refine g_blk hz0 kX5_positions_64 ?_
      refine cS0 (s_J13_bitCount_95d88 v3 hp.1) rfl cwJ13_bitCount_95d88 dX5_positions_65 rfl ?_
      replace hp := hp.2
      refine g_blk hz0 kX5_positions_68 ?_
      subst hq
      exact ⟨fun h => (by cases h), rfl, rfl⟩
    · rw [if_neg (show ¬ ((Int32.ofInt 36) ≤ v5) from c1)] at hq
      replace hp := hp.2 c1
      refine g_blk hz0 kX5_positions_12 ?_
      refine cVp [14, 15, 16, 17, 18, 19, 20] (wS s) (s_X4_has s v5 hp.1) rfl cwX4_has dX5_positions_15 rfl rfl (hm35_QS_S _ _) ?_
      replace hp := hp.2
      refine g_blk hz0 kX5_positions_18 ?_
      refine ⟨fun c2 => ?_, fun c2 => ?_⟩
      · rw [if_pos (show (f_X4_has s v5) = 0 from c2)] at hq
        replace hp := hp.1 c2
        refine g_blk hz0 kX5_positions_58 ?_
        refine g_le (L2 := [some (.ref 0), some (.ref 14), some (.int (Int32.ofInt 0)), some (.long v3), none, some (.int (v5 + (Int32.ofInt 1)))]) ⟨rfl, rfl, rfl, rfl, rfl, trivial⟩ ?_
        exact ih v3 (v5 + (Int32.ofInt 1)) hp hq
      · rw [if_neg (show ¬ ((f_X4_has s v5) = 0) from c2)] at hq
        replace hp := hp.2 c2
        refine g_blk hz0 kX5_positions_21 ?_
        refine ⟨vinL (by decide), 7, rfl, ?_⟩
        refine ⟨by decide, ?_⟩
        refine cS [7] (wI6 ((fun _ => 0, fun _ => (q.2 200)) : Rec)) (s_X5_firstLike ((fun _ => 0, fun _ => (q.2 200)) : Rec) (v5 / (Int32.ofInt 6)) hp.1) rfl cwX5_firstLike dX5_positions_36 rfl (hm36_QS_I6 _ _) ((len_I6 _).trans (len_I6 _).symm) (wQS q s) (pw56_QS_I6 _ _) ?_
        replace hp := hp.2
        refine g_blk hz0 kX5_positions_39 ?_
        refine ⟨vinL (by decide), 2, rfl, ?_⟩
        refine ⟨by decide, ?_⟩
        refine cS [2] (wI6 ((fun _ => 0, fun _ => (q.2 100)) : Rec)) (s_X5_firstLike ((fun _ => 0, fun _ => (q.2 100)) : Rec) (v5 - v5 / (Int32.ofInt 6) * (Int32.ofInt 6)) hp.1) rfl cwX5_firstLike dX5_positions_51 rfl (hm37_QS_I6 _ _) ((len_I6 _).trans (len_I6 _).symm) (wQS q s) (pw57_QS_I6 _ _) ?_
        replace hp := hp.2
        refine g_blk hz0 kX5_positions_54 ?_
        refine g_blk hz0 kX5_positions_58 ?_
        refine g_le (L2 := [some (.ref 0), some (.ref 14), some (.int (Int32.ofInt 0)), some (.long (v3 ||| ((Int64.ofNat 1) <<< (Int32.toInt64 (((Int32.ofInt 6) * (f_X5_firstLike ((fun _ => 0, fun _ => (q.2 200)) : Rec) (v5 / (Int32.ofInt 6)))) + (f_X5_firstLike ((fun _ => 0, fun _ => (q.2 100)) : Rec) (v5 - v5 / (Int32.ofInt 6) * (Int32.ofInt 6)))) &&& 63)))), none, some (.int (v5 + (Int32.ofInt 1)))]) ⟨rfl, rfl, rfl, rfl, rfl, trivial⟩ ?_
        exact ih (v3 ||| ((Int64.ofNat 1) <<< (Int32.toInt64 (((Int32.ofInt 6) * (f_X5_firstLike ((fun _ => 0, fun _ => (q.2 200)) : Rec) (v5 / (Int32.ofInt 6)))) + (f_X5_firstLike ((fun _ => 0, fun _ => (q.2 100)) : Rec) (v5 - v5 / (Int32.ofInt 6) * (Int32.ofInt 6)))) &&& 63))) (v5 + (Int32.ofInt 1)) hp hq
def f_X5_positions_c0 (q : Rec) (s : Rec)  : Int32 := (f_X5_positions_c0_5 40 q s ((Int64.ofNat 0)) ((Int32.ofInt 0)))
def p_X5_positions_c0 (q : Rec) (s : Rec)  : Prop := (p_X5_positions_c0_5 40 q s ((Int64.ofNat 0)) ((Int32.ofInt 0)))
set_option maxHeartbeats 16000000 in
set_option maxRecDepth 20000 in
theorem s_X5_positions_c0 (q : Rec) (s : Rec)  (hp : p_X5_positions_c0 q s) : Spec 2 0 0 mX5_positions [.ref 0, .ref 14, .int (Int32.ofInt 0)] (wQS q s) (Ret (some (.int ((f_X5_positions_c0 q s)))) (wQS q s)) := by
  obtain ⟨zq, hq⟩ : ∃ z, z = (f_X5_positions_c0 q s) := ⟨_, rfl⟩
  rw [← hq]
  unfold f_X5_positions_c0 at hq
  unfold p_X5_positions_c0 at hp
  refine Sof fun sc => ?_
  refine g_blk hz0 kX5_positions_0 ?_
  refine g_le (L2 := [some (.ref 0), some (.ref 14), some (.int (Int32.ofInt 0)), some (.long (Int64.ofNat 0)), none, some (.int (Int32.ofInt 0))]) ⟨rfl, rfl, rfl, rfl, rfl, trivial⟩ ?_
  exact l_X5_positions_c0_5 sc q s zq 40 ((Int64.ofNat 0)) ((Int32.ofInt 0)) hp hq

set_option maxHeartbeats 16000000 in
theorem hm38_QS_I6 (q : Rec) (s : Rec) : [8].map (lk (wQS q s)) = (wI6 ((fun _ => 0, fun _ => q.2 201) : Rec)).map (fun e => some (ren [8] e)) := rfl
set_option maxHeartbeats 16000000 in
theorem pw58_QS_I6 (q : Rec) (s : Rec)  : putW (wQS q s) [8] ((wI6 ((fun _ => 0, fun _ => q.2 201) : Rec)).map (ren [8])) = (wQS q s) := rfl
set_option maxHeartbeats 16000000 in
theorem hm39_QS_I6 (q : Rec) (s : Rec) : [3].map (lk (wQS q s)) = (wI6 ((fun _ => 0, fun _ => q.2 101) : Rec)).map (fun e => some (ren [3] e)) := rfl
set_option maxHeartbeats 16000000 in
theorem pw59_QS_I6 (q : Rec) (s : Rec)  : putW (wQS q s) [3] ((wI6 ((fun _ => 0, fun _ => q.2 101) : Rec)).map (ren [3])) = (wQS q s) := rfl
def f_X5_positions_c1_5  : Nat → Rec → Rec → Int64 → Int32 → Int32
  | 0, q, s, v3, v5 => 0
  | n + 1, q, s, v3, v5 => if (Int32.ofInt 36) ≤ v5 then (f_J13_bitCount_95d88 v3) else (if (f_X4_has s v5) = 0 then (f_X5_positions_c1_5 n q s v3 (v5 + (Int32.ofInt 1))) else (f_X5_positions_c1_5 n q s (v3 ||| ((Int64.ofNat 1) <<< (Int32.toInt64 (((Int32.ofInt 6) * (f_X5_firstLike ((fun _ => 0, fun _ => (q.2 201)) : Rec) (v5 / (Int32.ofInt 6)))) + (f_X5_firstLike ((fun _ => 0, fun _ => (q.2 101)) : Rec) (v5 - v5 / (Int32.ofInt 6) * (Int32.ofInt 6)))) &&& 63))) (v5 + (Int32.ofInt 1))))
def p_X5_positions_c1_5  : Nat → Rec → Rec → Int64 → Int32 → Prop
  | 0, _, _, _, _ => False
  | n + 1, q, s, v3, v5 => ((Int32.ofInt 36) ≤ v5 → ((p_J13_bitCount_95d88 v3) ∧ True)) ∧ (¬ ((Int32.ofInt 36) ≤ v5) → ((p_X4_has s v5) ∧ (((f_X4_has s v5) = 0 → (p_X5_positions_c1_5 n q s v3 (v5 + (Int32.ofInt 1)))) ∧ (¬ ((f_X4_has s v5) = 0) → ((p_X5_firstLike ((fun _ => 0, fun _ => (q.2 201)) : Rec) (v5 / (Int32.ofInt 6))) ∧ ((p_X5_firstLike ((fun _ => 0, fun _ => (q.2 101)) : Rec) (v5 - v5 / (Int32.ofInt 6) * (Int32.ofInt 6))) ∧ (p_X5_positions_c1_5 n q s (v3 ||| ((Int64.ofNat 1) <<< (Int32.toInt64 (((Int32.ofInt 6) * (f_X5_firstLike ((fun _ => 0, fun _ => (q.2 201)) : Rec) (v5 / (Int32.ofInt 6)))) + (f_X5_firstLike ((fun _ => 0, fun _ => (q.2 101)) : Rec) (v5 - v5 / (Int32.ofInt 6) * (Int32.ofInt 6)))) &&& 63))) (v5 + (Int32.ofInt 1)))))))))
set_option maxHeartbeats 16000000 in
set_option maxRecDepth 20000 in
theorem l_X5_positions_c1_5 (sc : SC) (q : Rec) (s : Rec)  (zq : Int32)  : ∀ (n : Nat)  (v3 : Int64) (v5 : Int32), p_X5_positions_c1_5 n q s v3 v5 → zq = f_X5_positions_c1_5 n q s v3 v5 → Good sc 2 0 0 21 mX5_positions (Ret (some (.int (zq))) (wQS q s)) 0 0 5 [some (.ref 0), some (.ref 14), some (.int (Int32.ofInt 1)), some (.long v3), none, some (.int v5)] [] (wQS q s) := by
  intro n
  induction n with
  | zero => intro v3 v5 hp; exact hp.elim
  | succ n ih =>
    intro v3 v5 hp hq
    unfold p_X5_positions_c1_5 at hp
    unfold f_X5_positions_c1_5 at hq
    refine g_blk hz0 kX5_positions_5 ?_
    refine ⟨fun c1 => ?_, fun c1 => ?_⟩
    · rw [if_pos (show (Int32.ofInt 36) ≤ v5 from c1)] at hq
      replace hp := hp.1 c1
      refine g_blk hz0 kX5_positions_64 ?_
      refine cS0 (s_J13_bitCount_95d88 v3 hp.1) rfl cwJ13_bitCount_95d88 dX5_positions_65 rfl ?_
      replace hp := hp.2
      refine g_blk hz0 kX5_positions_68 ?_
      subst hq
      exact ⟨fun h => (by cases h), rfl, rfl⟩
    · rw [if_neg (show ¬ ((Int32.ofInt 36) ≤ v5) from c1)] at hq
      replace hp := hp.2 c1
      refine g_blk hz0 kX5_positions_12 ?_
      refine cVp [14, 15, 16, 17, 18, 19, 20] (wS s) (s_X4_has s v5 hp.1) rfl cwX4_has dX5_positions_15 rfl rfl (hm35_QS_S _ _) ?_
      replace hp := hp.2
      refine g_blk hz0 kX5_positions_18 ?_
      refine ⟨fun c2 => ?_, fun c2 => ?_⟩
      · rw [if_pos (show (f_X4_has s v5) = 0 from c2)] at hq
        replace hp := hp.1 c2
        refine g_blk hz0 kX5_positions_58 ?_
        refine g_le (L2 := [some (.ref 0), some (.ref 14), some (.int (Int32.ofInt 1)), some (.long v3), none, some (.int (v5 + (Int32.ofInt 1)))]) ⟨rfl, rfl, rfl, rfl, rfl, trivial⟩ ?_
        exact ih v3 (v5 + (Int32.ofInt 1)) hp hq
      · rw [if_neg (show ¬ ((f_X4_has s v5) = 0) from c2)] at hq
        replace hp := hp.2 c2
        refine g_blk hz0 kX5_positions_21 ?_
        refine ⟨vinL (by decide), 8, rfl, ?_⟩
        refine ⟨by decide, ?_⟩
        refine cS [8] (wI6 ((fun _ => 0, fun _ => (q.2 201)) : Rec)) (s_X5_firstLike ((fun _ => 0, fun _ => (q.2 201)) : Rec) (v5 / (Int32.ofInt 6)) hp.1) rfl cwX5_firstLike dX5_positions_36 rfl (hm38_QS_I6 _ _) ((len_I6 _).trans (len_I6 _).symm) (wQS q s) (pw58_QS_I6 _ _) ?_
        replace hp := hp.2
        refine g_blk hz0 kX5_positions_39 ?_
        refine ⟨vinL (by decide), 3, rfl, ?_⟩
        refine ⟨by decide, ?_⟩
        refine cS [3] (wI6 ((fun _ => 0, fun _ => (q.2 101)) : Rec)) (s_X5_firstLike ((fun _ => 0, fun _ => (q.2 101)) : Rec) (v5 - v5 / (Int32.ofInt 6) * (Int32.ofInt 6)) hp.1) rfl cwX5_firstLike dX5_positions_51 rfl (hm39_QS_I6 _ _) ((len_I6 _).trans (len_I6 _).symm) (wQS q s) (pw59_QS_I6 _ _) ?_
        replace hp := hp.2
        refine g_blk hz0 kX5_positions_54 ?_
        refine g_blk hz0 kX5_positions_58 ?_
        refine g_le (L2 := [some (.ref 0), some (.ref 14), some (.int (Int32.ofInt 1)), some (.long (v3 ||| ((Int64.ofNat 1) <<< (Int32.toInt64 (((Int32.ofInt 6) * (f_X5_firstLike ((fun _ => 0, fun _ => (q.2 201)) : Rec) (v5 / (Int32.ofInt 6)))) + (f_X5_firstLike ((fun _ => 0, fun _ => (q.2 101)) : Rec) (v5 - v5 / (Int32.ofInt 6) * (Int32.ofInt 6)))) &&& 63)))), none, some (.int (v5 + (Int32.ofInt 1)))]) ⟨rfl, rfl, rfl, rfl, rfl, trivial⟩ ?_
        exact ih (v3 ||| ((Int64.ofNat 1) <<< (Int32.toInt64 (((Int32.ofInt 6) * (f_X5_firstLike ((fun _ => 0, fun _ => (q.2 201)) : Rec) (v5 / (Int32.ofInt 6)))) + (f_X5_firstLike ((fun _ => 0, fun _ => (q.2 101)) : Rec) (v5 - v5 / (Int32.ofInt 6) * (Int32.ofInt 6)))) &&& 63))) (v5 + (Int32.ofInt 1)) hp hq
def f_X5_positions_c1 (q : Rec) (s : Rec)  : Int32 := (f_X5_positions_c1_5 40 q s ((Int64.ofNat 0)) ((Int32.ofInt 0)))
def p_X5_positions_c1 (q : Rec) (s : Rec)  : Prop := (p_X5_positions_c1_5 40 q s ((Int64.ofNat 0)) ((Int32.ofInt 0)))
set_option maxHeartbeats 16000000 in
set_option maxRecDepth 20000 in
theorem s_X5_positions_c1 (q : Rec) (s : Rec)  (hp : p_X5_positions_c1 q s) : Spec 2 0 0 mX5_positions [.ref 0, .ref 14, .int (Int32.ofInt 1)] (wQS q s) (Ret (some (.int ((f_X5_positions_c1 q s)))) (wQS q s)) := by
  obtain ⟨zq, hq⟩ : ∃ z, z = (f_X5_positions_c1 q s) := ⟨_, rfl⟩
  rw [← hq]
  unfold f_X5_positions_c1 at hq
  unfold p_X5_positions_c1 at hp
  refine Sof fun sc => ?_
  refine g_blk hz0 kX5_positions_0 ?_
  refine g_le (L2 := [some (.ref 0), some (.ref 14), some (.int (Int32.ofInt 1)), some (.long (Int64.ofNat 0)), none, some (.int (Int32.ofInt 0))]) ⟨rfl, rfl, rfl, rfl, rfl, trivial⟩ ?_
  exact l_X5_positions_c1_5 sc q s zq 40 ((Int64.ofNat 0)) ((Int32.ofInt 0)) hp hq

set_option maxHeartbeats 16000000 in
theorem hm40_QS_I6 (q : Rec) (s : Rec) : [9].map (lk (wQS q s)) = (wI6 ((fun _ => 0, fun _ => q.2 202) : Rec)).map (fun e => some (ren [9] e)) := rfl
set_option maxHeartbeats 16000000 in
theorem pw60_QS_I6 (q : Rec) (s : Rec)  : putW (wQS q s) [9] ((wI6 ((fun _ => 0, fun _ => q.2 202) : Rec)).map (ren [9])) = (wQS q s) := rfl
set_option maxHeartbeats 16000000 in
theorem hm41_QS_I6 (q : Rec) (s : Rec) : [4].map (lk (wQS q s)) = (wI6 ((fun _ => 0, fun _ => q.2 102) : Rec)).map (fun e => some (ren [4] e)) := rfl
set_option maxHeartbeats 16000000 in
theorem pw61_QS_I6 (q : Rec) (s : Rec)  : putW (wQS q s) [4] ((wI6 ((fun _ => 0, fun _ => q.2 102) : Rec)).map (ren [4])) = (wQS q s) := rfl
def f_X5_positions_c2_5  : Nat → Rec → Rec → Int64 → Int32 → Int32
  | 0, q, s, v3, v5 => 0
  | n + 1, q, s, v3, v5 => if (Int32.ofInt 36) ≤ v5 then (f_J13_bitCount_95d88 v3) else (if (f_X4_has s v5) = 0 then (f_X5_positions_c2_5 n q s v3 (v5 + (Int32.ofInt 1))) else (f_X5_positions_c2_5 n q s (v3 ||| ((Int64.ofNat 1) <<< (Int32.toInt64 (((Int32.ofInt 6) * (f_X5_firstLike ((fun _ => 0, fun _ => (q.2 202)) : Rec) (v5 / (Int32.ofInt 6)))) + (f_X5_firstLike ((fun _ => 0, fun _ => (q.2 102)) : Rec) (v5 - v5 / (Int32.ofInt 6) * (Int32.ofInt 6)))) &&& 63))) (v5 + (Int32.ofInt 1))))
def p_X5_positions_c2_5  : Nat → Rec → Rec → Int64 → Int32 → Prop
  | 0, _, _, _, _ => False
  | n + 1, q, s, v3, v5 => ((Int32.ofInt 36) ≤ v5 → ((p_J13_bitCount_95d88 v3) ∧ True)) ∧ (¬ ((Int32.ofInt 36) ≤ v5) → ((p_X4_has s v5) ∧ (((f_X4_has s v5) = 0 → (p_X5_positions_c2_5 n q s v3 (v5 + (Int32.ofInt 1)))) ∧ (¬ ((f_X4_has s v5) = 0) → ((p_X5_firstLike ((fun _ => 0, fun _ => (q.2 202)) : Rec) (v5 / (Int32.ofInt 6))) ∧ ((p_X5_firstLike ((fun _ => 0, fun _ => (q.2 102)) : Rec) (v5 - v5 / (Int32.ofInt 6) * (Int32.ofInt 6))) ∧ (p_X5_positions_c2_5 n q s (v3 ||| ((Int64.ofNat 1) <<< (Int32.toInt64 (((Int32.ofInt 6) * (f_X5_firstLike ((fun _ => 0, fun _ => (q.2 202)) : Rec) (v5 / (Int32.ofInt 6)))) + (f_X5_firstLike ((fun _ => 0, fun _ => (q.2 102)) : Rec) (v5 - v5 / (Int32.ofInt 6) * (Int32.ofInt 6)))) &&& 63))) (v5 + (Int32.ofInt 1)))))))))
set_option maxHeartbeats 16000000 in
set_option maxRecDepth 20000 in
theorem l_X5_positions_c2_5 (sc : SC) (q : Rec) (s : Rec)  (zq : Int32)  : ∀ (n : Nat)  (v3 : Int64) (v5 : Int32), p_X5_positions_c2_5 n q s v3 v5 → zq = f_X5_positions_c2_5 n q s v3 v5 → Good sc 2 0 0 21 mX5_positions (Ret (some (.int (zq))) (wQS q s)) 0 0 5 [some (.ref 0), some (.ref 14), some (.int (Int32.ofInt 2)), some (.long v3), none, some (.int v5)] [] (wQS q s) := by
  intro n
  induction n with
  | zero => intro v3 v5 hp; exact hp.elim
  | succ n ih =>
    intro v3 v5 hp hq
    unfold p_X5_positions_c2_5 at hp
    unfold f_X5_positions_c2_5 at hq
    refine g_blk hz0 kX5_positions_5 ?_
    refine ⟨fun c1 => ?_, fun c1 => ?_⟩
    · rw [if_pos (show (Int32.ofInt 36) ≤ v5 from c1)] at hq
      replace hp := hp.1 c1
      refine g_blk hz0 kX5_positions_64 ?_
      refine cS0 (s_J13_bitCount_95d88 v3 hp.1) rfl cwJ13_bitCount_95d88 dX5_positions_65 rfl ?_
      replace hp := hp.2
      refine g_blk hz0 kX5_positions_68 ?_
      subst hq
      exact ⟨fun h => (by cases h), rfl, rfl⟩
    · rw [if_neg (show ¬ ((Int32.ofInt 36) ≤ v5) from c1)] at hq
      replace hp := hp.2 c1
      refine g_blk hz0 kX5_positions_12 ?_
      refine cVp [14, 15, 16, 17, 18, 19, 20] (wS s) (s_X4_has s v5 hp.1) rfl cwX4_has dX5_positions_15 rfl rfl (hm35_QS_S _ _) ?_
      replace hp := hp.2
      refine g_blk hz0 kX5_positions_18 ?_
      refine ⟨fun c2 => ?_, fun c2 => ?_⟩
      · rw [if_pos (show (f_X4_has s v5) = 0 from c2)] at hq
        replace hp := hp.1 c2
        refine g_blk hz0 kX5_positions_58 ?_
        refine g_le (L2 := [some (.ref 0), some (.ref 14), some (.int (Int32.ofInt 2)), some (.long v3), none, some (.int (v5 + (Int32.ofInt 1)))]) ⟨rfl, rfl, rfl, rfl, rfl, trivial⟩ ?_
        exact ih v3 (v5 + (Int32.ofInt 1)) hp hq
      · rw [if_neg (show ¬ ((f_X4_has s v5) = 0) from c2)] at hq
        replace hp := hp.2 c2
        refine g_blk hz0 kX5_positions_21 ?_
        refine ⟨vinL (by decide), 9, rfl, ?_⟩
        refine ⟨by decide, ?_⟩
        refine cS [9] (wI6 ((fun _ => 0, fun _ => (q.2 202)) : Rec)) (s_X5_firstLike ((fun _ => 0, fun _ => (q.2 202)) : Rec) (v5 / (Int32.ofInt 6)) hp.1) rfl cwX5_firstLike dX5_positions_36 rfl (hm40_QS_I6 _ _) ((len_I6 _).trans (len_I6 _).symm) (wQS q s) (pw60_QS_I6 _ _) ?_
        replace hp := hp.2
        refine g_blk hz0 kX5_positions_39 ?_
        refine ⟨vinL (by decide), 4, rfl, ?_⟩
        refine ⟨by decide, ?_⟩
        refine cS [4] (wI6 ((fun _ => 0, fun _ => (q.2 102)) : Rec)) (s_X5_firstLike ((fun _ => 0, fun _ => (q.2 102)) : Rec) (v5 - v5 / (Int32.ofInt 6) * (Int32.ofInt 6)) hp.1) rfl cwX5_firstLike dX5_positions_51 rfl (hm41_QS_I6 _ _) ((len_I6 _).trans (len_I6 _).symm) (wQS q s) (pw61_QS_I6 _ _) ?_
        replace hp := hp.2
        refine g_blk hz0 kX5_positions_54 ?_
        refine g_blk hz0 kX5_positions_58 ?_
        refine g_le (L2 := [some (.ref 0), some (.ref 14), some (.int (Int32.ofInt 2)), some (.long (v3 ||| ((Int64.ofNat 1) <<< (Int32.toInt64 (((Int32.ofInt 6) * (f_X5_firstLike ((fun _ => 0, fun _ => (q.2 202)) : Rec) (v5 / (Int32.ofInt 6)))) + (f_X5_firstLike ((fun _ => 0, fun _ => (q.2 102)) : Rec) (v5 - v5 / (Int32.ofInt 6) * (Int32.ofInt 6)))) &&& 63)))), none, some (.int (v5 + (Int32.ofInt 1)))]) ⟨rfl, rfl, rfl, rfl, rfl, trivial⟩ ?_
        exact ih (v3 ||| ((Int64.ofNat 1) <<< (Int32.toInt64 (((Int32.ofInt 6) * (f_X5_firstLike ((fun _ => 0, fun _ => (q.2 202)) : Rec) (v5 / (Int32.ofInt 6)))) + (f_X5_firstLike ((fun _ => 0, fun _ => (q.2 102)) : Rec) (v5 - v5 / (Int32.ofInt 6) * (Int32.ofInt 6)))) &&& 63))) (v5 + (Int32.ofInt 1)) hp hq
def f_X5_positions_c2 (q : Rec) (s : Rec)  : Int32 := (f_X5_positions_c2_5 40 q s ((Int64.ofNat 0)) ((Int32.ofInt 0)))
def p_X5_positions_c2 (q : Rec) (s : Rec)  : Prop := (p_X5_positions_c2_5 40 q s ((Int64.ofNat 0)) ((Int32.ofInt 0)))
set_option maxHeartbeats 16000000 in
set_option maxRecDepth 20000 in
theorem s_X5_positions_c2 (q : Rec) (s : Rec)  (hp : p_X5_positions_c2 q s) : Spec 2 0 0 mX5_positions [.ref 0, .ref 14, .int (Int32.ofInt 2)] (wQS q s) (Ret (some (.int ((f_X5_positions_c2 q s)))) (wQS q s)) := by
  obtain ⟨zq, hq⟩ : ∃ z, z = (f_X5_positions_c2 q s) := ⟨_, rfl⟩
  rw [← hq]
  unfold f_X5_positions_c2 at hq
  unfold p_X5_positions_c2 at hp
  refine Sof fun sc => ?_
  refine g_blk hz0 kX5_positions_0 ?_
  refine g_le (L2 := [some (.ref 0), some (.ref 14), some (.int (Int32.ofInt 2)), some (.long (Int64.ofNat 0)), none, some (.int (Int32.ofInt 0))]) ⟨rfl, rfl, rfl, rfl, rfl, trivial⟩ ?_
  exact l_X5_positions_c2_5 sc q s zq 40 ((Int64.ofNat 0)) ((Int32.ofInt 0)) hp hq

set_option maxHeartbeats 16000000 in
theorem hm42_QS_I6 (q : Rec) (s : Rec) : [10].map (lk (wQS q s)) = (wI6 ((fun _ => 0, fun _ => q.2 203) : Rec)).map (fun e => some (ren [10] e)) := rfl
set_option maxHeartbeats 16000000 in
theorem pw62_QS_I6 (q : Rec) (s : Rec)  : putW (wQS q s) [10] ((wI6 ((fun _ => 0, fun _ => q.2 203) : Rec)).map (ren [10])) = (wQS q s) := rfl
set_option maxHeartbeats 16000000 in
theorem hm43_QS_I6 (q : Rec) (s : Rec) : [5].map (lk (wQS q s)) = (wI6 ((fun _ => 0, fun _ => q.2 103) : Rec)).map (fun e => some (ren [5] e)) := rfl
set_option maxHeartbeats 16000000 in
theorem pw63_QS_I6 (q : Rec) (s : Rec)  : putW (wQS q s) [5] ((wI6 ((fun _ => 0, fun _ => q.2 103) : Rec)).map (ren [5])) = (wQS q s) := rfl
def f_X5_positions_c3_5  : Nat → Rec → Rec → Int64 → Int32 → Int32
  | 0, q, s, v3, v5 => 0
  | n + 1, q, s, v3, v5 => if (Int32.ofInt 36) ≤ v5 then (f_J13_bitCount_95d88 v3) else (if (f_X4_has s v5) = 0 then (f_X5_positions_c3_5 n q s v3 (v5 + (Int32.ofInt 1))) else (f_X5_positions_c3_5 n q s (v3 ||| ((Int64.ofNat 1) <<< (Int32.toInt64 (((Int32.ofInt 6) * (f_X5_firstLike ((fun _ => 0, fun _ => (q.2 203)) : Rec) (v5 / (Int32.ofInt 6)))) + (f_X5_firstLike ((fun _ => 0, fun _ => (q.2 103)) : Rec) (v5 - v5 / (Int32.ofInt 6) * (Int32.ofInt 6)))) &&& 63))) (v5 + (Int32.ofInt 1))))
def p_X5_positions_c3_5  : Nat → Rec → Rec → Int64 → Int32 → Prop
  | 0, _, _, _, _ => False
  | n + 1, q, s, v3, v5 => ((Int32.ofInt 36) ≤ v5 → ((p_J13_bitCount_95d88 v3) ∧ True)) ∧ (¬ ((Int32.ofInt 36) ≤ v5) → ((p_X4_has s v5) ∧ (((f_X4_has s v5) = 0 → (p_X5_positions_c3_5 n q s v3 (v5 + (Int32.ofInt 1)))) ∧ (¬ ((f_X4_has s v5) = 0) → ((p_X5_firstLike ((fun _ => 0, fun _ => (q.2 203)) : Rec) (v5 / (Int32.ofInt 6))) ∧ ((p_X5_firstLike ((fun _ => 0, fun _ => (q.2 103)) : Rec) (v5 - v5 / (Int32.ofInt 6) * (Int32.ofInt 6))) ∧ (p_X5_positions_c3_5 n q s (v3 ||| ((Int64.ofNat 1) <<< (Int32.toInt64 (((Int32.ofInt 6) * (f_X5_firstLike ((fun _ => 0, fun _ => (q.2 203)) : Rec) (v5 / (Int32.ofInt 6)))) + (f_X5_firstLike ((fun _ => 0, fun _ => (q.2 103)) : Rec) (v5 - v5 / (Int32.ofInt 6) * (Int32.ofInt 6)))) &&& 63))) (v5 + (Int32.ofInt 1)))))))))
set_option maxHeartbeats 16000000 in
set_option maxRecDepth 20000 in
theorem l_X5_positions_c3_5 (sc : SC) (q : Rec) (s : Rec)  (zq : Int32)  : ∀ (n : Nat)  (v3 : Int64) (v5 : Int32), p_X5_positions_c3_5 n q s v3 v5 → zq = f_X5_positions_c3_5 n q s v3 v5 → Good sc 2 0 0 21 mX5_positions (Ret (some (.int (zq))) (wQS q s)) 0 0 5 [some (.ref 0), some (.ref 14), some (.int (Int32.ofInt 3)), some (.long v3), none, some (.int v5)] [] (wQS q s) := by
  intro n
  induction n with
  | zero => intro v3 v5 hp; exact hp.elim
  | succ n ih =>
    intro v3 v5 hp hq
    unfold p_X5_positions_c3_5 at hp
    unfold f_X5_positions_c3_5 at hq
    refine g_blk hz0 kX5_positions_5 ?_
    refine ⟨fun c1 => ?_, fun c1 => ?_⟩
    · rw [if_pos (show (Int32.ofInt 36) ≤ v5 from c1)] at hq
      replace hp := hp.1 c1
      refine g_blk hz0 kX5_positions_64 ?_
      refine cS0 (s_J13_bitCount_95d88 v3 hp.1) rfl cwJ13_bitCount_95d88 dX5_positions_65 rfl ?_
      replace hp := hp.2
      refine g_blk hz0 kX5_positions_68 ?_
      subst hq
      exact ⟨fun h => (by cases h), rfl, rfl⟩
    · rw [if_neg (show ¬ ((Int32.ofInt 36) ≤ v5) from c1)] at hq
      replace hp := hp.2 c1
      refine g_blk hz0 kX5_positions_12 ?_
      refine cVp [14, 15, 16, 17, 18, 19, 20] (wS s) (s_X4_has s v5 hp.1) rfl cwX4_has dX5_positions_15 rfl rfl (hm35_QS_S _ _) ?_
      replace hp := hp.2
      refine g_blk hz0 kX5_positions_18 ?_
      refine ⟨fun c2 => ?_, fun c2 => ?_⟩
      · rw [if_pos (show (f_X4_has s v5) = 0 from c2)] at hq
        replace hp := hp.1 c2
        refine g_blk hz0 kX5_positions_58 ?_
        refine g_le (L2 := [some (.ref 0), some (.ref 14), some (.int (Int32.ofInt 3)), some (.long v3), none, some (.int (v5 + (Int32.ofInt 1)))]) ⟨rfl, rfl, rfl, rfl, rfl, trivial⟩ ?_
        exact ih v3 (v5 + (Int32.ofInt 1)) hp hq
      · rw [if_neg (show ¬ ((f_X4_has s v5) = 0) from c2)] at hq
        replace hp := hp.2 c2
        refine g_blk hz0 kX5_positions_21 ?_
        refine ⟨vinL (by decide), 10, rfl, ?_⟩
        refine ⟨by decide, ?_⟩
        refine cS [10] (wI6 ((fun _ => 0, fun _ => (q.2 203)) : Rec)) (s_X5_firstLike ((fun _ => 0, fun _ => (q.2 203)) : Rec) (v5 / (Int32.ofInt 6)) hp.1) rfl cwX5_firstLike dX5_positions_36 rfl (hm42_QS_I6 _ _) ((len_I6 _).trans (len_I6 _).symm) (wQS q s) (pw62_QS_I6 _ _) ?_
        replace hp := hp.2
        refine g_blk hz0 kX5_positions_39 ?_
        refine ⟨vinL (by decide), 5, rfl, ?_⟩
        refine ⟨by decide, ?_⟩
        refine cS [5] (wI6 ((fun _ => 0, fun _ => (q.2 103)) : Rec)) (s_X5_firstLike ((fun _ => 0, fun _ => (q.2 103)) : Rec) (v5 - v5 / (Int32.ofInt 6) * (Int32.ofInt 6)) hp.1) rfl cwX5_firstLike dX5_positions_51 rfl (hm43_QS_I6 _ _) ((len_I6 _).trans (len_I6 _).symm) (wQS q s) (pw63_QS_I6 _ _) ?_
        replace hp := hp.2
        refine g_blk hz0 kX5_positions_54 ?_
        refine g_blk hz0 kX5_positions_58 ?_
        refine g_le (L2 := [some (.ref 0), some (.ref 14), some (.int (Int32.ofInt 3)), some (.long (v3 ||| ((Int64.ofNat 1) <<< (Int32.toInt64 (((Int32.ofInt 6) * (f_X5_firstLike ((fun _ => 0, fun _ => (q.2 203)) : Rec) (v5 / (Int32.ofInt 6)))) + (f_X5_firstLike ((fun _ => 0, fun _ => (q.2 103)) : Rec) (v5 - v5 / (Int32.ofInt 6) * (Int32.ofInt 6)))) &&& 63)))), none, some (.int (v5 + (Int32.ofInt 1)))]) ⟨rfl, rfl, rfl, rfl, rfl, trivial⟩ ?_
        exact ih (v3 ||| ((Int64.ofNat 1) <<< (Int32.toInt64 (((Int32.ofInt 6) * (f_X5_firstLike ((fun _ => 0, fun _ => (q.2 203)) : Rec) (v5 / (Int32.ofInt 6)))) + (f_X5_firstLike ((fun _ => 0, fun _ => (q.2 103)) : Rec) (v5 - v5 / (Int32.ofInt 6) * (Int32.ofInt 6)))) &&& 63))) (v5 + (Int32.ofInt 1)) hp hq
def f_X5_positions_c3 (q : Rec) (s : Rec)  : Int32 := (f_X5_positions_c3_5 40 q s ((Int64.ofNat 0)) ((Int32.ofInt 0)))
def p_X5_positions_c3 (q : Rec) (s : Rec)  : Prop := (p_X5_positions_c3_5 40 q s ((Int64.ofNat 0)) ((Int32.ofInt 0)))
set_option maxHeartbeats 16000000 in
set_option maxRecDepth 20000 in
theorem s_X5_positions_c3 (q : Rec) (s : Rec)  (hp : p_X5_positions_c3 q s) : Spec 2 0 0 mX5_positions [.ref 0, .ref 14, .int (Int32.ofInt 3)] (wQS q s) (Ret (some (.int ((f_X5_positions_c3 q s)))) (wQS q s)) := by
  obtain ⟨zq, hq⟩ : ∃ z, z = (f_X5_positions_c3 q s) := ⟨_, rfl⟩
  rw [← hq]
  unfold f_X5_positions_c3 at hq
  unfold p_X5_positions_c3 at hp
  refine Sof fun sc => ?_
  refine g_blk hz0 kX5_positions_0 ?_
  refine g_le (L2 := [some (.ref 0), some (.ref 14), some (.int (Int32.ofInt 3)), some (.long (Int64.ofNat 0)), none, some (.int (Int32.ofInt 0))]) ⟨rfl, rfl, rfl, rfl, rfl, trivial⟩ ?_
  exact l_X5_positions_c3_5 sc q s zq 40 ((Int64.ofNat 0)) ((Int32.ofInt 0)) hp hq

set_option maxHeartbeats 16000000 in
theorem hm44_QS_QS (q : Rec) (s : Rec) : [0, 1, 2, 3, 4, 5, 6, 7, 8, 9, 10, 11, 12, 13, 14, 15, 16, 17, 18, 19, 20].map (lk (wQS q s)) = (wQS q s).map (fun e => some (ren [0, 1, 2, 3, 4, 5, 6, 7, 8, 9, 10, 11, 12, 13, 14, 15, 16, 17, 18, 19, 20] e)) := rfl
set_option maxHeartbeats 16000000 in
theorem pw64_QS_QS (q : Rec) (s : Rec)  : putW (wQS q s) [0, 1, 2, 3, 4, 5, 6, 7, 8, 9, 10, 11, 12, 13, 14, 15, 16, 17, 18, 19, 20] ((wQS q s).map (ren [0, 1, 2, 3, 4, 5, 6, 7, 8, 9, 10, 11, 12, 13, 14, 15, 16, 17, 18, 19, 20])) = (wQS q s) := rfl
def f_X5_explore_c3_34  : Nat → Rec → Rec → Int32 → Rec
  | 0, q, s, v4 => q
  | n + 1, q, s, v4 => if (Int32.ofInt 1) < v4 then q else q
def p_X5_explore_c3_34  : Nat → Rec → Rec → Int32 → Prop
  | 0, _, _, _ => False
  | n + 1, q, s, v4 => True
set_option maxHeartbeats 16000000 in
set_option maxRecDepth 20000 in
theorem l_X5_explore_c3_34 (sc : SC) (s : Rec)  (zq : Rec)  : ∀ (n : Nat) (q : Rec) (v4 : Int32), p_X5_explore_c3_34 n q s v4 → zq = f_X5_explore_c3_34 n q s v4 → Good sc 3 0 0 21 mX5_explore (Ret none (wQS (zq) s)) 0 0 34 [some (.ref 0), some (.ref 14), some (.int (Int32.ofInt 3)), none, some (.int v4), none, none, none, none, none] [] (wQS q s) := by
  intro n
  induction n with
  | zero => intro q v4 hp; exact hp.elim
  | succ n ih =>
    intro q v4 hp hq
    unfold p_X5_explore_c3_34 at hp
    unfold f_X5_explore_c3_34 at hq
    refine g_blk hz0 kX5_explore_34 ?_
    refine ⟨fun c1 => ?_, fun c1 => ?_⟩
    · rw [if_pos (show (Int32.ofInt 1) < v4 from c1)] at hq
      refine g_blk hz0 kX5_explore_199 ?_
      subst hq
      exact ⟨rfl, rfl⟩
    · rw [if_neg (show ¬ ((Int32.ofInt 1) < v4) from c1)] at hq
      refine g_blk hz0 kX5_explore_40 ?_
      refine ⟨fun _ => ?_, fun c => absurd c (by decide)⟩
      refine g_blk hz0 kX5_explore_199 ?_
      subst hq
      exact ⟨rfl, rfl⟩
def f_X5_explore_c3 (q : Rec) (s : Rec) (a : Int32) : Rec := (f_X5_explore_c3_34 4000000000 (setA q 4 (upd (q.2 4) (Int32.toNatClampNeg (Int32.ofInt 3)) (if (f_X5_positions_c3 q s) < ((q.2 4) (Int32.toNatClampNeg (Int32.ofInt 3))) then (f_X5_positions_c3 q s) else ((q.2 4) (Int32.toNatClampNeg (Int32.ofInt 3)))))) s a)
def p_X5_explore_c3 (q : Rec) (s : Rec) (a : Int32) : Prop := (p_X5_positions_c3 q s) ∧ (p_X5_explore_c3_34 4000000000 (setA q 4 (upd (q.2 4) (Int32.toNatClampNeg (Int32.ofInt 3)) (if (f_X5_positions_c3 q s) < ((q.2 4) (Int32.toNatClampNeg (Int32.ofInt 3))) then (f_X5_positions_c3 q s) else ((q.2 4) (Int32.toNatClampNeg (Int32.ofInt 3)))))) s a)
set_option maxHeartbeats 16000000 in
set_option maxRecDepth 20000 in
theorem s_X5_explore_c3 (q : Rec) (s : Rec) (a : Int32) (hp : p_X5_explore_c3 q s a) : Spec 3 0 0 mX5_explore [.ref 0, .ref 14, .int (Int32.ofInt 3), .int a] (wQS q s) (Ret none (wQS ((f_X5_explore_c3 q s a)) s)) := by
  obtain ⟨zq, hq⟩ : ∃ z, z = (f_X5_explore_c3 q s a) := ⟨_, rfl⟩
  rw [← hq]
  unfold f_X5_explore_c3 at hq
  unfold p_X5_explore_c3 at hp
  refine Sof fun sc => ?_
  refine g_blk hz0 kX5_explore_0 ?_
  refine cS0 (s_X8_within (Int32.ofInt 3) (Int32.ofInt 0) (Int32.ofInt 3)) rfl cwX8_within dX5_explore_3 rfl ?_
  refine g_blk hz0 kX5_explore_6 ?_
  refine ⟨fun _ => ?_, fun c => absurd c (by decide)⟩
  refine g_blk hz0 kX5_explore_10 ?_
  refine ⟨vinL (by decide), ?_⟩
  refine cVp [0, 1, 2, 3, 4, 5, 6, 7, 8, 9, 10, 11, 12, 13, 14, 15, 16, 17, 18, 19, 20] (wQS q s) (s_X5_positions_c3 q s hp.1) rfl cwX5_positions dX5_explore_24 rfl rfl (hm44_QS_QS _ _) ?_
  replace hp := hp.2
  refine g_min (by decide) hz0 (gw_mem (by decide +kernel)) (Nat.le_of_ble_eq_true rfl) dX5_explore_27 ?_
  refine g_blk hz0 kX5_explore_30 ?_
  refine ⟨vinL (by decide), ?_⟩
  refine g_le (L2 := [some (.ref 0), some (.ref 14), some (.int (Int32.ofInt 3)), none, some (.int a), none, none, none, none, none]) ⟨rfl, rfl, rfl, rfl, trivial⟩ ?_
  exact l_X5_explore_c3_34 sc s zq 4000000000 (setA q 4 (upd (q.2 4) (Int32.toNatClampNeg (Int32.ofInt 3)) (if (f_X5_positions_c3 q s) < ((q.2 4) (Int32.toNatClampNeg (Int32.ofInt 3))) then (f_X5_positions_c3 q s) else ((q.2 4) (Int32.toNatClampNeg (Int32.ofInt 3)))))) a hp hq

set_option maxHeartbeats 16000000 in
theorem hm45_QS_I6Z6 (q : Rec) (s : Rec) : [4, 11].map (lk (wQS q s)) = (wI6Z6 ((fun _ => 0, fun _ => q.2 102) : Rec) ((fun _ => 0, fun _ => q.2 2) : Rec)).map (fun e => some (ren [4, 11] e)) := rfl
set_option maxHeartbeats 16000000 in
theorem pw65_QS_I6Z6 (q : Rec) (s : Rec)  : putW (wQS q s) [4, 11] ((wI6Z6 ((fun _ => 0, fun _ => q.2 102) : Rec) ((fun _ => 0, fun _ => q.2 2) : Rec)).map (ren [4, 11])) = (wQS q s) := rfl
set_option maxHeartbeats 16000000 in
theorem hm46_QS_I6Z6 (q : Rec) (s : Rec) : [4, 12].map (lk (wQS q s)) = (wI6Z6 ((fun _ => 0, fun _ => q.2 102) : Rec) ((fun _ => 0, fun _ => q.2 3) : Rec)).map (fun e => some (ren [4, 12] e)) := rfl
set_option maxHeartbeats 16000000 in
theorem pw66_QS_I6Z6 (q : Rec) (s : Rec)  : putW (wQS q s) [4, 12] ((wI6Z6 ((fun _ => 0, fun _ => q.2 102) : Rec) ((fun _ => 0, fun _ => q.2 3) : Rec)).map (ren [4, 12])) = (wQS q s) := rfl
set_option maxHeartbeats 16000000 in
theorem hm47_QS_I6Z6 (q : Rec) (s : Rec) : [9, 11].map (lk (wQS q s)) = (wI6Z6 ((fun _ => 0, fun _ => q.2 202) : Rec) ((fun _ => 0, fun _ => q.2 2) : Rec)).map (fun e => some (ren [9, 11] e)) := rfl
set_option maxHeartbeats 16000000 in
theorem pw67_QS_I6Z6 (q : Rec) (s : Rec)  : putW (wQS q s) [9, 11] ((wI6Z6 ((fun _ => 0, fun _ => q.2 202) : Rec) ((fun _ => 0, fun _ => q.2 2) : Rec)).map (ren [9, 11])) = (wQS q s) := rfl
set_option maxHeartbeats 16000000 in
theorem hm48_QS_I6Z6 (q : Rec) (s : Rec) : [9, 12].map (lk (wQS q s)) = (wI6Z6 ((fun _ => 0, fun _ => q.2 202) : Rec) ((fun _ => 0, fun _ => q.2 3) : Rec)).map (fun e => some (ren [9, 12] e)) := rfl
set_option maxHeartbeats 16000000 in
theorem pw68_QS_I6Z6 (q : Rec) (s : Rec)  : putW (wQS q s) [9, 12] ((wI6Z6 ((fun _ => 0, fun _ => q.2 202) : Rec) ((fun _ => 0, fun _ => q.2 3) : Rec)).map (ren [9, 12])) = (wQS q s) := rfl
set_option maxHeartbeats 16000000 in
theorem hm49_QS_I6I6 (q : Rec) (s : Rec) : [4, 5].map (lk (wQS q s)) = (wI6I6 ((fun _ => 0, fun _ => q.2 102) : Rec) ((fun _ => 0, fun _ => q.2 103) : Rec)).map (fun e => some (ren [4, 5] e)) := rfl
set_option maxHeartbeats 16000000 in
theorem pw69_QS_I6I6 (q : Rec) (s : Rec) (b9 : Rec) : putW (wQS q s) [4, 5] ((wI6I6 ((fun _ => 0, fun _ => q.2 102) : Rec) b9).map (ren [4, 5])) = (wQS (setA q 103 (b9.2 0)) s) := rfl
set_option maxHeartbeats 16000000 in
theorem hm50_QS_I6I6 (q : Rec) (s : Rec) : [9, 10].map (lk (wQS q s)) = (wI6I6 ((fun _ => 0, fun _ => q.2 202) : Rec) ((fun _ => 0, fun _ => q.2 203) : Rec)).map (fun e => some (ren [9, 10] e)) := rfl
set_option maxHeartbeats 16000000 in
theorem pw70_QS_I6I6 (q : Rec) (s : Rec) (b9 : Rec) : putW (wQS q s) [9, 10] ((wI6I6 ((fun _ => 0, fun _ => q.2 202) : Rec) b9).map (ren [9, 10])) = (wQS (setA q 203 (b9.2 0)) s) := rfl
set_option maxHeartbeats 16000000 in
theorem pw71_QS_QS (q : Rec) (s : Rec) (q9 : Rec) : putW (wQS q s) [0, 1, 2, 3, 4, 5, 6, 7, 8, 9, 10, 11, 12, 13, 14, 15, 16, 17, 18, 19, 20] ((wQS q9 s).map (ren [0, 1, 2, 3, 4, 5, 6, 7, 8, 9, 10, 11, 12, 13, 14, 15, 16, 17, 18, 19, 20])) = (wQS q9 s) := rfl
def f_X5_explore_c2_111 (K34 : Rec → Rec → Int32 → Rec) : Nat → Rec → Rec → Int32 → Int32 → Int32 → Rec
  | 0, q, s, v4, v8, v9 => q
  | n + 1, q, s, v4, v8, v9 => if v8 < v9 then (K34 q s (v4 + (Int32.ofInt 1))) else (if v4 = 0 then (if v4 = (Int32.ofInt 1) then (f_X5_explore_c2_111 K34 n (f_X5_explore_c3 (setA (setA q 103 ((f_X5_bend ((fun _ => 0, fun _ => (q.2 102)) : Rec) ((fun _ => 0, fun _ => (q.2 103)) : Rec) ((Int32.ofInt 1)) v9).2 0)) 203 ((f_X5_bend ((fun _ => 0, fun _ => (q.2 202)) : Rec) ((fun _ => 0, fun _ => (q.2 203)) : Rec) ((Int32.ofInt 1)) v9).2 0)) s v4) s v4 v8 (v9 + (Int32.ofInt 1))) else (f_X5_explore_c2_111 K34 n (f_X5_explore_c3 (setA (setA q 103 ((f_X5_bend ((fun _ => 0, fun _ => (q.2 102)) : Rec) ((fun _ => 0, fun _ => (q.2 103)) : Rec) ((Int32.ofInt 1)) v9).2 0)) 203 ((f_X5_bend ((fun _ => 0, fun _ => (q.2 202)) : Rec) ((fun _ => 0, fun _ => (q.2 203)) : Rec) ((Int32.ofInt 0)) v9).2 0)) s v4) s v4 v8 (v9 + (Int32.ofInt 1)))) else (if v4 = (Int32.ofInt 1) then (f_X5_explore_c2_111 K34 n (f_X5_explore_c3 (setA (setA q 103 ((f_X5_bend ((fun _ => 0, fun _ => (q.2 102)) : Rec) ((fun _ => 0, fun _ => (q.2 103)) : Rec) ((Int32.ofInt 0)) v9).2 0)) 203 ((f_X5_bend ((fun _ => 0, fun _ => (q.2 202)) : Rec) ((fun _ => 0, fun _ => (q.2 203)) : Rec) ((Int32.ofInt 1)) v9).2 0)) s v4) s v4 v8 (v9 + (Int32.ofInt 1))) else (f_X5_explore_c2_111 K34 n (f_X5_explore_c3 (setA (setA q 103 ((f_X5_bend ((fun _ => 0, fun _ => (q.2 102)) : Rec) ((fun _ => 0, fun _ => (q.2 103)) : Rec) ((Int32.ofInt 0)) v9).2 0)) 203 ((f_X5_bend ((fun _ => 0, fun _ => (q.2 202)) : Rec) ((fun _ => 0, fun _ => (q.2 203)) : Rec) ((Int32.ofInt 0)) v9).2 0)) s v4) s v4 v8 (v9 + (Int32.ofInt 1)))))
def p_X5_explore_c2_111 (G34 : Rec → Rec → Int32 → Prop) : Nat → Rec → Rec → Int32 → Int32 → Int32 → Prop
  | 0, _, _, _, _, _ => False
  | n + 1, q, s, v4, v8, v9 => (v8 < v9 → (G34 q s (v4 + (Int32.ofInt 1)))) ∧ (¬ (v8 < v9) → ((v4 = 0 → ((p_X5_bend ((fun _ => 0, fun _ => (q.2 102)) : Rec) ((fun _ => 0, fun _ => (q.2 103)) : Rec) ((Int32.ofInt 1)) v9) ∧ ((v4 = (Int32.ofInt 1) → ((p_X5_bend ((fun _ => 0, fun _ => (q.2 202)) : Rec) ((fun _ => 0, fun _ => (q.2 203)) : Rec) ((Int32.ofInt 1)) v9) ∧ ((p_X5_explore_c3 (setA (setA q 103 ((f_X5_bend ((fun _ => 0, fun _ => (q.2 102)) : Rec) ((fun _ => 0, fun _ => (q.2 103)) : Rec) ((Int32.ofInt 1)) v9).2 0)) 203 ((f_X5_bend ((fun _ => 0, fun _ => (q.2 202)) : Rec) ((fun _ => 0, fun _ => (q.2 203)) : Rec) ((Int32.ofInt 1)) v9).2 0)) s v4) ∧ (p_X5_explore_c2_111 G34 n (f_X5_explore_c3 (setA (setA q 103 ((f_X5_bend ((fun _ => 0, fun _ => (q.2 102)) : Rec) ((fun _ => 0, fun _ => (q.2 103)) : Rec) ((Int32.ofInt 1)) v9).2 0)) 203 ((f_X5_bend ((fun _ => 0, fun _ => (q.2 202)) : Rec) ((fun _ => 0, fun _ => (q.2 203)) : Rec) ((Int32.ofInt 1)) v9).2 0)) s v4) s v4 v8 (v9 + (Int32.ofInt 1)))))) ∧ (¬ (v4 = (Int32.ofInt 1)) → ((p_X5_bend ((fun _ => 0, fun _ => (q.2 202)) : Rec) ((fun _ => 0, fun _ => (q.2 203)) : Rec) ((Int32.ofInt 0)) v9) ∧ ((p_X5_explore_c3 (setA (setA q 103 ((f_X5_bend ((fun _ => 0, fun _ => (q.2 102)) : Rec) ((fun _ => 0, fun _ => (q.2 103)) : Rec) ((Int32.ofInt 1)) v9).2 0)) 203 ((f_X5_bend ((fun _ => 0, fun _ => (q.2 202)) : Rec) ((fun _ => 0, fun _ => (q.2 203)) : Rec) ((Int32.ofInt 0)) v9).2 0)) s v4) ∧ (p_X5_explore_c2_111 G34 n (f_X5_explore_c3 (setA (setA q 103 ((f_X5_bend ((fun _ => 0, fun _ => (q.2 102)) : Rec) ((fun _ => 0, fun _ => (q.2 103)) : Rec) ((Int32.ofInt 1)) v9).2 0)) 203 ((f_X5_bend ((fun _ => 0, fun _ => (q.2 202)) : Rec) ((fun _ => 0, fun _ => (q.2 203)) : Rec) ((Int32.ofInt 0)) v9).2 0)) s v4) s v4 v8 (v9 + (Int32.ofInt 1))))))))) ∧ (¬ (v4 = 0) → ((p_X5_bend ((fun _ => 0, fun _ => (q.2 102)) : Rec) ((fun _ => 0, fun _ => (q.2 103)) : Rec) ((Int32.ofInt 0)) v9) ∧ ((v4 = (Int32.ofInt 1) → ((p_X5_bend ((fun _ => 0, fun _ => (q.2 202)) : Rec) ((fun _ => 0, fun _ => (q.2 203)) : Rec) ((Int32.ofInt 1)) v9) ∧ ((p_X5_explore_c3 (setA (setA q 103 ((f_X5_bend ((fun _ => 0, fun _ => (q.2 102)) : Rec) ((fun _ => 0, fun _ => (q.2 103)) : Rec) ((Int32.ofInt 0)) v9).2 0)) 203 ((f_X5_bend ((fun _ => 0, fun _ => (q.2 202)) : Rec) ((fun _ => 0, fun _ => (q.2 203)) : Rec) ((Int32.ofInt 1)) v9).2 0)) s v4) ∧ (p_X5_explore_c2_111 G34 n (f_X5_explore_c3 (setA (setA q 103 ((f_X5_bend ((fun _ => 0, fun _ => (q.2 102)) : Rec) ((fun _ => 0, fun _ => (q.2 103)) : Rec) ((Int32.ofInt 0)) v9).2 0)) 203 ((f_X5_bend ((fun _ => 0, fun _ => (q.2 202)) : Rec) ((fun _ => 0, fun _ => (q.2 203)) : Rec) ((Int32.ofInt 1)) v9).2 0)) s v4) s v4 v8 (v9 + (Int32.ofInt 1)))))) ∧ (¬ (v4 = (Int32.ofInt 1)) → ((p_X5_bend ((fun _ => 0, fun _ => (q.2 202)) : Rec) ((fun _ => 0, fun _ => (q.2 203)) : Rec) ((Int32.ofInt 0)) v9) ∧ ((p_X5_explore_c3 (setA (setA q 103 ((f_X5_bend ((fun _ => 0, fun _ => (q.2 102)) : Rec) ((fun _ => 0, fun _ => (q.2 103)) : Rec) ((Int32.ofInt 0)) v9).2 0)) 203 ((f_X5_bend ((fun _ => 0, fun _ => (q.2 202)) : Rec) ((fun _ => 0, fun _ => (q.2 203)) : Rec) ((Int32.ofInt 0)) v9).2 0)) s v4) ∧ (p_X5_explore_c2_111 G34 n (f_X5_explore_c3 (setA (setA q 103 ((f_X5_bend ((fun _ => 0, fun _ => (q.2 102)) : Rec) ((fun _ => 0, fun _ => (q.2 103)) : Rec) ((Int32.ofInt 0)) v9).2 0)) 203 ((f_X5_bend ((fun _ => 0, fun _ => (q.2 202)) : Rec) ((fun _ => 0, fun _ => (q.2 203)) : Rec) ((Int32.ofInt 0)) v9).2 0)) s v4) s v4 v8 (v9 + (Int32.ofInt 1)))))))))))
set_option maxHeartbeats 16000000 in
set_option maxRecDepth 20000 in
theorem l_X5_explore_c2_111 (sc : SC) (s : Rec) {K34 : Rec → Rec → Int32 → Rec} {G34 : Rec → Rec → Int32 → Prop} (zq : Rec) (hK34 : ∀ (q : Rec) (v4 : Int32), G34 q s v4 → zq = K34 q s v4 → Good sc 4 0 0 21 mX5_explore (Ret none (wQS (zq) s)) 0 0 34 [some (.ref 0), some (.ref 14), some (.int (Int32.ofInt 2)), none, some (.int v4), none, none, none, none, none] [] (wQS q s)) : ∀ (n : Nat) (q : Rec) (v4 : Int32) (v8 : Int32) (v9 : Int32), p_X5_explore_c2_111 G34 n q s v4 v8 v9 → zq = f_X5_explore_c2_111 K34 n q s v4 v8 v9 → Good sc 4 0 0 21 mX5_explore (Ret none (wQS (zq) s)) 0 0 111 [some (.ref 0), some (.ref 14), some (.int (Int32.ofInt 2)), none, some (.int v4), none, none, none, some (.int v8), some (.int v9)] [] (wQS q s) := by
  intro n
  induction n with
  | zero => intro q v4 v8 v9 hp; exact hp.elim
  | succ n ih =>
    intro q v4 v8 v9 hp hq
    unfold p_X5_explore_c2_111 at hp
    unfold f_X5_explore_c2_111 at hq
    refine g_blk hz0 kX5_explore_111 ?_
    refine ⟨fun c5 => ?_, fun c5 => ?_⟩
    · rw [if_pos (show v8 < v9 from c5)] at hq
      replace hp := hp.1 c5
      refine g_blk hz0 kX5_explore_193 ?_
      refine g_le (L2 := [some (.ref 0), some (.ref 14), some (.int (Int32.ofInt 2)), none, some (.int (v4 + (Int32.ofInt 1))), none, none, none, none, none]) ⟨rfl, rfl, rfl, rfl, trivial⟩ ?_
      exact hK34 q (v4 + (Int32.ofInt 1)) hp hq
    · rw [if_neg (show ¬ (v8 < v9) from c5)] at hq
      replace hp := hp.2 c5
      refine g_blk hz0 kX5_explore_118 ?_
      refine ⟨vinL (by decide), 4, rfl, ?_⟩
      refine ⟨vinL (by decide), 5, rfl, ?_⟩
      refine ⟨fun c6 => ?_, fun c6 => ?_⟩
      · rw [if_neg (show ¬ (v4 = 0) from c6)] at hq
        replace hp := hp.2 c6
        refine g_blk hz0 kX5_explore_141 ?_
        refine g_blk hz0 kX5_explore_142 ?_
        refine cS [4, 5] (wI6I6 ((fun _ => 0, fun _ => (q.2 102)) : Rec) ((fun _ => 0, fun _ => (q.2 103)) : Rec)) (s_X5_bend ((fun _ => 0, fun _ => (q.2 102)) : Rec) ((fun _ => 0, fun _ => (q.2 103)) : Rec) ((Int32.ofInt 0)) v9 hp.1) rfl cwX5_bend dX5_explore_144 rfl (hm49_QS_I6I6 _ _) ((len_I6I6 _ _).trans (len_I6I6 _ _).symm) (wQS (setA q 103 ((f_X5_bend ((fun _ => 0, fun _ => (q.2 102)) : Rec) ((fun _ => 0, fun _ => (q.2 103)) : Rec) ((Int32.ofInt 0)) v9).2 0)) s) (pw69_QS_I6I6 _ _ _) ?_
        replace hp := hp.2
        obtain ⟨g13, hg13⟩ : ∃ z, z = (f_X5_bend ((fun _ => 0, fun _ => (q.2 102)) : Rec) ((fun _ => 0, fun _ => (q.2 103)) : Rec) ((Int32.ofInt 0)) v9) := ⟨_, rfl⟩
        try rw [← hg13] at hp
        try rw [← hg13] at hq
        rw [← hg13]
        refine g_blk hz0 kX5_explore_147 ?_
        refine ⟨vinL (by decide), 9, rfl, ?_⟩
        refine ⟨vinL (by decide), 10, rfl, ?_⟩
        refine ⟨fun c14 => ?_, fun c14 => ?_⟩
        · rw [if_neg (show ¬ (v4 = (Int32.ofInt 1)) from c14)] at hq
          replace hp := hp.2 c14
          refine g_blk hz0 kX5_explore_171 ?_
          refine g_blk hz0 kX5_explore_172 ?_
          refine cS [9, 10] (wI6I6 ((fun _ => 0, fun _ => (q.2 202)) : Rec) ((fun _ => 0, fun _ => (q.2 203)) : Rec)) (s_X5_bend ((fun _ => 0, fun _ => (q.2 202)) : Rec) ((fun _ => 0, fun _ => (q.2 203)) : Rec) ((Int32.ofInt 0)) v9 hp.1) rfl cwX5_bend dX5_explore_174 rfl (hm50_QS_I6I6 _ _) ((len_I6I6 _ _).trans (len_I6I6 _ _).symm) (wQS (setA (setA q 103 (g13.2 0)) 203 ((f_X5_bend ((fun _ => 0, fun _ => (q.2 202)) : Rec) ((fun _ => 0, fun _ => (q.2 203)) : Rec) ((Int32.ofInt 0)) v9).2 0)) s) (pw70_QS_I6I6 _ _ _) ?_
          replace hp := hp.2
          obtain ⟨g17, hg17⟩ : ∃ z, z = (f_X5_bend ((fun _ => 0, fun _ => (q.2 202)) : Rec) ((fun _ => 0, fun _ => (q.2 203)) : Rec) ((Int32.ofInt 0)) v9) := ⟨_, rfl⟩
          try rw [← hg17] at hp
          try rw [← hg17] at hq
          rw [← hg17]
          refine g_blk hz0 kX5_explore_177 ?_
          refine cV [0, 1, 2, 3, 4, 5, 6, 7, 8, 9, 10, 11, 12, 13, 14, 15, 16, 17, 18, 19, 20] (wQS (setA (setA q 103 (g13.2 0)) 203 (g17.2 0)) s) (s_X5_explore_c3 (setA (setA q 103 (g13.2 0)) 203 (g17.2 0)) s v4 hp.1) rfl cwX5_explore dX5_explore_184 rfl rfl (hm44_QS_QS _ _) ((len_QS _ _).trans (len_QS _ _).symm) (wQS (f_X5_explore_c3 (setA (setA q 103 (g13.2 0)) 203 (g17.2 0)) s v4) s) (pw71_QS_QS _ _ _) ?_
          replace hp := hp.2
          obtain ⟨g18, hg18⟩ : ∃ z, z = (f_X5_explore_c3 (setA (setA q 103 (g13.2 0)) 203 (g17.2 0)) s v4) := ⟨_, rfl⟩
          try rw [← hg18] at hp
          try rw [← hg18] at hq
          rw [← hg18]
          refine g_blk hz0 kX5_explore_187 ?_
          refine g_le (L2 := [some (.ref 0), some (.ref 14), some (.int (Int32.ofInt 2)), none, some (.int v4), none, none, none, some (.int v8), some (.int (v9 + (Int32.ofInt 1)))]) ⟨rfl, rfl, rfl, rfl, rfl, rfl, trivial⟩ ?_
          exact ih g18 v4 v8 (v9 + (Int32.ofInt 1)) hp hq
        · rw [if_pos (show v4 = (Int32.ofInt 1) from c14)] at hq
          replace hp := hp.1 c14
          refine g_blk hz0 kX5_explore_167 ?_
          refine g_blk hz0 kX5_explore_172 ?_
          refine cS [9, 10] (wI6I6 ((fun _ => 0, fun _ => (q.2 202)) : Rec) ((fun _ => 0, fun _ => (q.2 203)) : Rec)) (s_X5_bend ((fun _ => 0, fun _ => (q.2 202)) : Rec) ((fun _ => 0, fun _ => (q.2 203)) : Rec) ((Int32.ofInt 1)) v9 hp.1) rfl cwX5_bend dX5_explore_174 rfl (hm50_QS_I6I6 _ _) ((len_I6I6 _ _).trans (len_I6I6 _ _).symm) (wQS (setA (setA q 103 (g13.2 0)) 203 ((f_X5_bend ((fun _ => 0, fun _ => (q.2 202)) : Rec) ((fun _ => 0, fun _ => (q.2 203)) : Rec) ((Int32.ofInt 1)) v9).2 0)) s) (pw70_QS_I6I6 _ _ _) ?_
          replace hp := hp.2
          obtain ⟨g15, hg15⟩ : ∃ z, z = (f_X5_bend ((fun _ => 0, fun _ => (q.2 202)) : Rec) ((fun _ => 0, fun _ => (q.2 203)) : Rec) ((Int32.ofInt 1)) v9) := ⟨_, rfl⟩
          try rw [← hg15] at hp
          try rw [← hg15] at hq
          rw [← hg15]
          refine g_blk hz0 kX5_explore_177 ?_
          refine cV [0, 1, 2, 3, 4, 5, 6, 7, 8, 9, 10, 11, 12, 13, 14, 15, 16, 17, 18, 19, 20] (wQS (setA (setA q 103 (g13.2 0)) 203 (g15.2 0)) s) (s_X5_explore_c3 (setA (setA q 103 (g13.2 0)) 203 (g15.2 0)) s v4 hp.1) rfl cwX5_explore dX5_explore_184 rfl rfl (hm44_QS_QS _ _) ((len_QS _ _).trans (len_QS _ _).symm) (wQS (f_X5_explore_c3 (setA (setA q 103 (g13.2 0)) 203 (g15.2 0)) s v4) s) (pw71_QS_QS _ _ _) ?_
          replace hp := hp.2
          obtain ⟨g16, hg16⟩ : ∃ z, z = (f_X5_explore_c3 (setA (setA q 103 (g13.2 0)) 203 (g15.2 0)) s v4) := ⟨_, rfl⟩
          try rw [← hg16] at hp
          try rw [← hg16] at hq
          rw [← hg16]
          refine g_blk hz0 kX5_explore_187 ?_
          refine g_le (L2 := [some (.ref 0), some (.ref 14), some (.int (Int32.ofInt 2)), none, some (.int v4), none, none, none, some (.int v8), some (.int (v9 + (Int32.ofInt 1)))]) ⟨rfl, rfl, rfl, rfl, rfl, rfl, trivial⟩ ?_
          exact ih g16 v4 v8 (v9 + (Int32.ofInt 1)) hp hq
      · rw [if_pos (show v4 = 0 from c6)] at hq
        replace hp := hp.1 c6
        refine g_blk hz0 kX5_explore_137 ?_
        refine g_blk hz0 kX5_explore_142 ?_
        refine cS [4, 5] (wI6I6 ((fun _ => 0, fun _ => (q.2 102)) : Rec) ((fun _ => 0, fun _ => (q.2 103)) : Rec)) (s_X5_bend ((fun _ => 0, fun _ => (q.2 102)) : Rec) ((fun _ => 0, fun _ => (q.2 103)) : Rec) ((Int32.ofInt 1)) v9 hp.1) rfl cwX5_bend dX5_explore_144 rfl (hm49_QS_I6I6 _ _) ((len_I6I6 _ _).trans (len_I6I6 _ _).symm) (wQS (setA q 103 ((f_X5_bend ((fun _ => 0, fun _ => (q.2 102)) : Rec) ((fun _ => 0, fun _ => (q.2 103)) : Rec) ((Int32.ofInt 1)) v9).2 0)) s) (pw69_QS_I6I6 _ _ _) ?_
        replace hp := hp.2
        obtain ⟨g7, hg7⟩ : ∃ z, z = (f_X5_bend ((fun _ => 0, fun _ => (q.2 102)) : Rec) ((fun _ => 0, fun _ => (q.2 103)) : Rec) ((Int32.ofInt 1)) v9) := ⟨_, rfl⟩
        try rw [← hg7] at hp
        try rw [← hg7] at hq
        rw [← hg7]
        refine g_blk hz0 kX5_explore_147 ?_
        refine ⟨vinL (by decide), 9, rfl, ?_⟩
        refine ⟨vinL (by decide), 10, rfl, ?_⟩
        refine ⟨fun c8 => ?_, fun c8 => ?_⟩
        · rw [if_neg (show ¬ (v4 = (Int32.ofInt 1)) from c8)] at hq
          replace hp := hp.2 c8
          refine g_blk hz0 kX5_explore_171 ?_
          refine g_blk hz0 kX5_explore_172 ?_
          refine cS [9, 10] (wI6I6 ((fun _ => 0, fun _ => (q.2 202)) : Rec) ((fun _ => 0, fun _ => (q.2 203)) : Rec)) (s_X5_bend ((fun _ => 0, fun _ => (q.2 202)) : Rec) ((fun _ => 0, fun _ => (q.2 203)) : Rec) ((Int32.ofInt 0)) v9 hp.1) rfl cwX5_bend dX5_explore_174 rfl (hm50_QS_I6I6 _ _) ((len_I6I6 _ _).trans (len_I6I6 _ _).symm) (wQS (setA (setA q 103 (g7.2 0)) 203 ((f_X5_bend ((fun _ => 0, fun _ => (q.2 202)) : Rec) ((fun _ => 0, fun _ => (q.2 203)) : Rec) ((Int32.ofInt 0)) v9).2 0)) s) (pw70_QS_I6I6 _ _ _) ?_
          replace hp := hp.2
          obtain ⟨g11, hg11⟩ : ∃ z, z = (f_X5_bend ((fun _ => 0, fun _ => (q.2 202)) : Rec) ((fun _ => 0, fun _ => (q.2 203)) : Rec) ((Int32.ofInt 0)) v9) := ⟨_, rfl⟩
          try rw [← hg11] at hp
          try rw [← hg11] at hq
          rw [← hg11]
          refine g_blk hz0 kX5_explore_177 ?_
          refine cV [0, 1, 2, 3, 4, 5, 6, 7, 8, 9, 10, 11, 12, 13, 14, 15, 16, 17, 18, 19, 20] (wQS (setA (setA q 103 (g7.2 0)) 203 (g11.2 0)) s) (s_X5_explore_c3 (setA (setA q 103 (g7.2 0)) 203 (g11.2 0)) s v4 hp.1) rfl cwX5_explore dX5_explore_184 rfl rfl (hm44_QS_QS _ _) ((len_QS _ _).trans (len_QS _ _).symm) (wQS (f_X5_explore_c3 (setA (setA q 103 (g7.2 0)) 203 (g11.2 0)) s v4) s) (pw71_QS_QS _ _ _) ?_
          replace hp := hp.2
          obtain ⟨g12, hg12⟩ : ∃ z, z = (f_X5_explore_c3 (setA (setA q 103 (g7.2 0)) 203 (g11.2 0)) s v4) := ⟨_, rfl⟩
          try rw [← hg12] at hp
          try rw [← hg12] at hq
          rw [← hg12]
          refine g_blk hz0 kX5_explore_187 ?_
          refine g_le (L2 := [some (.ref 0), some (.ref 14), some (.int (Int32.ofInt 2)), none, some (.int v4), none, none, none, some (.int v8), some (.int (v9 + (Int32.ofInt 1)))]) ⟨rfl, rfl, rfl, rfl, rfl, rfl, trivial⟩ ?_
          exact ih g12 v4 v8 (v9 + (Int32.ofInt 1)) hp hq
        · rw [if_pos (show v4 = (Int32.ofInt 1) from c8)] at hq
          replace hp := hp.1 c8
          refine g_blk hz0 kX5_explore_167 ?_
          refine g_blk hz0 kX5_explore_172 ?_
          refine cS [9, 10] (wI6I6 ((fun _ => 0, fun _ => (q.2 202)) : Rec) ((fun _ => 0, fun _ => (q.2 203)) : Rec)) (s_X5_bend ((fun _ => 0, fun _ => (q.2 202)) : Rec) ((fun _ => 0, fun _ => (q.2 203)) : Rec) ((Int32.ofInt 1)) v9 hp.1) rfl cwX5_bend dX5_explore_174 rfl (hm50_QS_I6I6 _ _) ((len_I6I6 _ _).trans (len_I6I6 _ _).symm) (wQS (setA (setA q 103 (g7.2 0)) 203 ((f_X5_bend ((fun _ => 0, fun _ => (q.2 202)) : Rec) ((fun _ => 0, fun _ => (q.2 203)) : Rec) ((Int32.ofInt 1)) v9).2 0)) s) (pw70_QS_I6I6 _ _ _) ?_
          replace hp := hp.2
          obtain ⟨g9, hg9⟩ : ∃ z, z = (f_X5_bend ((fun _ => 0, fun _ => (q.2 202)) : Rec) ((fun _ => 0, fun _ => (q.2 203)) : Rec) ((Int32.ofInt 1)) v9) := ⟨_, rfl⟩
          try rw [← hg9] at hp
          try rw [← hg9] at hq
          rw [← hg9]
          refine g_blk hz0 kX5_explore_177 ?_
          refine cV [0, 1, 2, 3, 4, 5, 6, 7, 8, 9, 10, 11, 12, 13, 14, 15, 16, 17, 18, 19, 20] (wQS (setA (setA q 103 (g7.2 0)) 203 (g9.2 0)) s) (s_X5_explore_c3 (setA (setA q 103 (g7.2 0)) 203 (g9.2 0)) s v4 hp.1) rfl cwX5_explore dX5_explore_184 rfl rfl (hm44_QS_QS _ _) ((len_QS _ _).trans (len_QS _ _).symm) (wQS (f_X5_explore_c3 (setA (setA q 103 (g7.2 0)) 203 (g9.2 0)) s v4) s) (pw71_QS_QS _ _ _) ?_
          replace hp := hp.2
          obtain ⟨g10, hg10⟩ : ∃ z, z = (f_X5_explore_c3 (setA (setA q 103 (g7.2 0)) 203 (g9.2 0)) s v4) := ⟨_, rfl⟩
          try rw [← hg10] at hp
          try rw [← hg10] at hq
          rw [← hg10]
          refine g_blk hz0 kX5_explore_187 ?_
          refine g_le (L2 := [some (.ref 0), some (.ref 14), some (.int (Int32.ofInt 2)), none, some (.int v4), none, none, none, some (.int v8), some (.int (v9 + (Int32.ofInt 1)))]) ⟨rfl, rfl, rfl, rfl, rfl, rfl, trivial⟩ ?_
          exact ih g10 v4 v8 (v9 + (Int32.ofInt 1)) hp hq
def f_X5_explore_c2_34  : Nat → Rec → Rec → Int32 → Rec
  | 0, q, s, v4 => q
  | n + 1, q, s, v4 => if (Int32.ofInt 1) < v4 then q else (if v4 = 0 then (if v4 = 0 then (f_X5_explore_c2_111 (f_X5_explore_c2_34 n) 4000000000 q s v4 (f_X5_outmost ((fun _ => 0, fun _ => (q.2 102)) : Rec) ((fun _ => 0, fun _ => (q.2 2)) : Rec) ((Int32.ofInt 1))) ((f_X5_outmost ((fun _ => 0, fun _ => (q.2 102)) : Rec) ((fun _ => 0, fun _ => (q.2 2)) : Rec) ((Int32.ofInt 0))) + (Int32.ofInt 1))) else (f_X5_explore_c2_111 (f_X5_explore_c2_34 n) 4000000000 q s v4 (f_X5_outmost ((fun _ => 0, fun _ => (q.2 102)) : Rec) ((fun _ => 0, fun _ => (q.2 3)) : Rec) ((Int32.ofInt 1))) ((f_X5_outmost ((fun _ => 0, fun _ => (q.2 102)) : Rec) ((fun _ => 0, fun _ => (q.2 3)) : Rec) ((Int32.ofInt 0))) + (Int32.ofInt 1)))) else (if v4 = 0 then (f_X5_explore_c2_111 (f_X5_explore_c2_34 n) 4000000000 q s v4 (f_X5_outmost ((fun _ => 0, fun _ => (q.2 202)) : Rec) ((fun _ => 0, fun _ => (q.2 2)) : Rec) ((Int32.ofInt 1))) ((f_X5_outmost ((fun _ => 0, fun _ => (q.2 202)) : Rec) ((fun _ => 0, fun _ => (q.2 2)) : Rec) ((Int32.ofInt 0))) + (Int32.ofInt 1))) else (f_X5_explore_c2_111 (f_X5_explore_c2_34 n) 4000000000 q s v4 (f_X5_outmost ((fun _ => 0, fun _ => (q.2 202)) : Rec) ((fun _ => 0, fun _ => (q.2 3)) : Rec) ((Int32.ofInt 1))) ((f_X5_outmost ((fun _ => 0, fun _ => (q.2 202)) : Rec) ((fun _ => 0, fun _ => (q.2 3)) : Rec) ((Int32.ofInt 0))) + (Int32.ofInt 1)))))
def p_X5_explore_c2_34  : Nat → Rec → Rec → Int32 → Prop
  | 0, _, _, _ => False
  | n + 1, q, s, v4 => ((Int32.ofInt 1) < v4 → True) ∧ (¬ ((Int32.ofInt 1) < v4) → ((v4 = 0 → ((v4 = 0 → ((p_X5_outmost ((fun _ => 0, fun _ => (q.2 102)) : Rec) ((fun _ => 0, fun _ => (q.2 2)) : Rec) ((Int32.ofInt 0))) ∧ ((p_X5_outmost ((fun _ => 0, fun _ => (q.2 102)) : Rec) ((fun _ => 0, fun _ => (q.2 2)) : Rec) ((Int32.ofInt 1))) ∧ (p_X5_explore_c2_111 (p_X5_explore_c2_34 n) 4000000000 q s v4 (f_X5_outmost ((fun _ => 0, fun _ => (q.2 102)) : Rec) ((fun _ => 0, fun _ => (q.2 2)) : Rec) ((Int32.ofInt 1))) ((f_X5_outmost ((fun _ => 0, fun _ => (q.2 102)) : Rec) ((fun _ => 0, fun _ => (q.2 2)) : Rec) ((Int32.ofInt 0))) + (Int32.ofInt 1)))))) ∧ (¬ (v4 = 0) → ((p_X5_outmost ((fun _ => 0, fun _ => (q.2 102)) : Rec) ((fun _ => 0, fun _ => (q.2 3)) : Rec) ((Int32.ofInt 0))) ∧ ((p_X5_outmost ((fun _ => 0, fun _ => (q.2 102)) : Rec) ((fun _ => 0, fun _ => (q.2 3)) : Rec) ((Int32.ofInt 1))) ∧ (p_X5_explore_c2_111 (p_X5_explore_c2_34 n) 4000000000 q s v4 (f_X5_outmost ((fun _ => 0, fun _ => (q.2 102)) : Rec) ((fun _ => 0, fun _ => (q.2 3)) : Rec) ((Int32.ofInt 1))) ((f_X5_outmost ((fun _ => 0, fun _ => (q.2 102)) : Rec) ((fun _ => 0, fun _ => (q.2 3)) : Rec) ((Int32.ofInt 0))) + (Int32.ofInt 1)))))))) ∧ (¬ (v4 = 0) → ((v4 = 0 → ((p_X5_outmost ((fun _ => 0, fun _ => (q.2 202)) : Rec) ((fun _ => 0, fun _ => (q.2 2)) : Rec) ((Int32.ofInt 0))) ∧ ((p_X5_outmost ((fun _ => 0, fun _ => (q.2 202)) : Rec) ((fun _ => 0, fun _ => (q.2 2)) : Rec) ((Int32.ofInt 1))) ∧ (p_X5_explore_c2_111 (p_X5_explore_c2_34 n) 4000000000 q s v4 (f_X5_outmost ((fun _ => 0, fun _ => (q.2 202)) : Rec) ((fun _ => 0, fun _ => (q.2 2)) : Rec) ((Int32.ofInt 1))) ((f_X5_outmost ((fun _ => 0, fun _ => (q.2 202)) : Rec) ((fun _ => 0, fun _ => (q.2 2)) : Rec) ((Int32.ofInt 0))) + (Int32.ofInt 1)))))) ∧ (¬ (v4 = 0) → ((p_X5_outmost ((fun _ => 0, fun _ => (q.2 202)) : Rec) ((fun _ => 0, fun _ => (q.2 3)) : Rec) ((Int32.ofInt 0))) ∧ ((p_X5_outmost ((fun _ => 0, fun _ => (q.2 202)) : Rec) ((fun _ => 0, fun _ => (q.2 3)) : Rec) ((Int32.ofInt 1))) ∧ (p_X5_explore_c2_111 (p_X5_explore_c2_34 n) 4000000000 q s v4 (f_X5_outmost ((fun _ => 0, fun _ => (q.2 202)) : Rec) ((fun _ => 0, fun _ => (q.2 3)) : Rec) ((Int32.ofInt 1))) ((f_X5_outmost ((fun _ => 0, fun _ => (q.2 202)) : Rec) ((fun _ => 0, fun _ => (q.2 3)) : Rec) ((Int32.ofInt 0))) + (Int32.ofInt 1))))))))))
set_option maxHeartbeats 16000000 in
set_option maxRecDepth 20000 in
theorem l_X5_explore_c2_34 (sc : SC) (s : Rec)  (zq : Rec)  : ∀ (n : Nat) (q : Rec) (v4 : Int32), p_X5_explore_c2_34 n q s v4 → zq = f_X5_explore_c2_34 n q s v4 → Good sc 4 0 0 21 mX5_explore (Ret none (wQS (zq) s)) 0 0 34 [some (.ref 0), some (.ref 14), some (.int (Int32.ofInt 2)), none, some (.int v4), none, none, none, none, none] [] (wQS q s) := by
  intro n
  induction n with
  | zero => intro q v4 hp; exact hp.elim
  | succ n ih =>
    intro q v4 hp hq
    unfold p_X5_explore_c2_34 at hp
    unfold f_X5_explore_c2_34 at hq
    refine g_blk hz0 kX5_explore_34 ?_
    refine ⟨fun c1 => ?_, fun c1 => ?_⟩
    · rw [if_pos (show (Int32.ofInt 1) < v4 from c1)] at hq
      refine g_blk hz0 kX5_explore_199 ?_
      subst hq
      exact ⟨rfl, rfl⟩
    · rw [if_neg (show ¬ ((Int32.ofInt 1) < v4) from c1)] at hq
      replace hp := hp.2 c1
      refine g_blk hz0 kX5_explore_40 ?_
      refine ⟨fun c => absurd c (by decide), fun _ => ?_⟩
      refine g_blk hz0 kX5_explore_45 ?_
      refine ⟨fun c2 => ?_, fun c2 => ?_⟩
      · rw [if_neg (show ¬ (v4 = 0) from c2)] at hq
        replace hp := hp.2 c2
        refine g_blk hz0 kX5_explore_59 ?_
        refine ⟨vinL (by decide), 9, rfl, ?_⟩
        refine g_blk hz0 kX5_explore_65 ?_
        refine ⟨fun c4 => ?_, fun c4 => ?_⟩
        · rw [if_neg (show ¬ (v4 = 0) from c4)] at hq
          replace hp := hp.2 c4
          refine g_blk hz0 kX5_explore_79 ?_
          refine g_blk hz0 kX5_explore_83 ?_
          refine cS [9, 12] (wI6Z6 ((fun _ => 0, fun _ => (q.2 202)) : Rec) ((fun _ => 0, fun _ => (q.2 3)) : Rec)) (s_X5_outmost ((fun _ => 0, fun _ => (q.2 202)) : Rec) ((fun _ => 0, fun _ => (q.2 3)) : Rec) ((Int32.ofInt 0)) hp.1) rfl cwX5_outmost dX5_explore_90 rfl (hm48_QS_I6Z6 _ _) ((len_I6Z6 _ _).trans (len_I6Z6 _ _).symm) (wQS q s) (pw68_QS_I6Z6 _ _) ?_
          replace hp := hp.2
          refine g_blk hz0 kX5_explore_93 ?_
          refine cS [9, 12] (wI6Z6 ((fun _ => 0, fun _ => (q.2 202)) : Rec) ((fun _ => 0, fun _ => (q.2 3)) : Rec)) (s_X5_outmost ((fun _ => 0, fun _ => (q.2 202)) : Rec) ((fun _ => 0, fun _ => (q.2 3)) : Rec) ((Int32.ofInt 1)) hp.1) rfl cwX5_outmost dX5_explore_100 rfl (hm48_QS_I6Z6 _ _) ((len_I6Z6 _ _).trans (len_I6Z6 _ _).symm) (wQS q s) (pw68_QS_I6Z6 _ _) ?_
          replace hp := hp.2
          refine g_blk hz0 kX5_explore_103 ?_
          refine g_le (L2 := [some (.ref 0), some (.ref 14), some (.int (Int32.ofInt 2)), none, some (.int v4), none, none, none, some (.int (f_X5_outmost ((fun _ => 0, fun _ => (q.2 202)) : Rec) ((fun _ => 0, fun _ => (q.2 3)) : Rec) ((Int32.ofInt 1)))), some (.int ((f_X5_outmost ((fun _ => 0, fun _ => (q.2 202)) : Rec) ((fun _ => 0, fun _ => (q.2 3)) : Rec) ((Int32.ofInt 0))) + (Int32.ofInt 1)))]) ⟨rfl, rfl, rfl, rfl, rfl, rfl, trivial⟩ ?_
          exact l_X5_explore_c2_111 sc s zq (fun r0 r1 hp hq => ih r0 r1 hp hq) 4000000000 q v4 (f_X5_outmost ((fun _ => 0, fun _ => (q.2 202)) : Rec) ((fun _ => 0, fun _ => (q.2 3)) : Rec) ((Int32.ofInt 1))) ((f_X5_outmost ((fun _ => 0, fun _ => (q.2 202)) : Rec) ((fun _ => 0, fun _ => (q.2 3)) : Rec) ((Int32.ofInt 0))) + (Int32.ofInt 1)) hp hq
        · rw [if_pos (show v4 = 0 from c4)] at hq
          replace hp := hp.1 c4
          refine g_blk hz0 kX5_explore_72 ?_
          refine g_blk hz0 kX5_explore_83 ?_
          refine cS [9, 11] (wI6Z6 ((fun _ => 0, fun _ => (q.2 202)) : Rec) ((fun _ => 0, fun _ => (q.2 2)) : Rec)) (s_X5_outmost ((fun _ => 0, fun _ => (q.2 202)) : Rec) ((fun _ => 0, fun _ => (q.2 2)) : Rec) ((Int32.ofInt 0)) hp.1) rfl cwX5_outmost dX5_explore_90 rfl (hm47_QS_I6Z6 _ _) ((len_I6Z6 _ _).trans (len_I6Z6 _ _).symm) (wQS q s) (pw67_QS_I6Z6 _ _) ?_
          replace hp := hp.2
          refine g_blk hz0 kX5_explore_93 ?_
          refine cS [9, 11] (wI6Z6 ((fun _ => 0, fun _ => (q.2 202)) : Rec) ((fun _ => 0, fun _ => (q.2 2)) : Rec)) (s_X5_outmost ((fun _ => 0, fun _ => (q.2 202)) : Rec) ((fun _ => 0, fun _ => (q.2 2)) : Rec) ((Int32.ofInt 1)) hp.1) rfl cwX5_outmost dX5_explore_100 rfl (hm47_QS_I6Z6 _ _) ((len_I6Z6 _ _).trans (len_I6Z6 _ _).symm) (wQS q s) (pw67_QS_I6Z6 _ _) ?_
          replace hp := hp.2
          refine g_blk hz0 kX5_explore_103 ?_
          refine g_le (L2 := [some (.ref 0), some (.ref 14), some (.int (Int32.ofInt 2)), none, some (.int v4), none, none, none, some (.int (f_X5_outmost ((fun _ => 0, fun _ => (q.2 202)) : Rec) ((fun _ => 0, fun _ => (q.2 2)) : Rec) ((Int32.ofInt 1)))), some (.int ((f_X5_outmost ((fun _ => 0, fun _ => (q.2 202)) : Rec) ((fun _ => 0, fun _ => (q.2 2)) : Rec) ((Int32.ofInt 0))) + (Int32.ofInt 1)))]) ⟨rfl, rfl, rfl, rfl, rfl, rfl, trivial⟩ ?_
          exact l_X5_explore_c2_111 sc s zq (fun r0 r1 hp hq => ih r0 r1 hp hq) 4000000000 q v4 (f_X5_outmost ((fun _ => 0, fun _ => (q.2 202)) : Rec) ((fun _ => 0, fun _ => (q.2 2)) : Rec) ((Int32.ofInt 1))) ((f_X5_outmost ((fun _ => 0, fun _ => (q.2 202)) : Rec) ((fun _ => 0, fun _ => (q.2 2)) : Rec) ((Int32.ofInt 0))) + (Int32.ofInt 1)) hp hq
      · rw [if_pos (show v4 = 0 from c2)] at hq
        replace hp := hp.1 c2
        refine g_blk hz0 kX5_explore_50 ?_
        refine ⟨vinL (by decide), 4, rfl, ?_⟩
        refine g_blk hz0 kX5_explore_65 ?_
        refine ⟨fun c3 => ?_, fun c3 => ?_⟩
        · rw [if_neg (show ¬ (v4 = 0) from c3)] at hq
          replace hp := hp.2 c3
          refine g_blk hz0 kX5_explore_79 ?_
          refine g_blk hz0 kX5_explore_83 ?_
          refine cS [4, 12] (wI6Z6 ((fun _ => 0, fun _ => (q.2 102)) : Rec) ((fun _ => 0, fun _ => (q.2 3)) : Rec)) (s_X5_outmost ((fun _ => 0, fun _ => (q.2 102)) : Rec) ((fun _ => 0, fun _ => (q.2 3)) : Rec) ((Int32.ofInt 0)) hp.1) rfl cwX5_outmost dX5_explore_90 rfl (hm46_QS_I6Z6 _ _) ((len_I6Z6 _ _).trans (len_I6Z6 _ _).symm) (wQS q s) (pw66_QS_I6Z6 _ _) ?_
          replace hp := hp.2
          refine g_blk hz0 kX5_explore_93 ?_
          refine cS [4, 12] (wI6Z6 ((fun _ => 0, fun _ => (q.2 102)) : Rec) ((fun _ => 0, fun _ => (q.2 3)) : Rec)) (s_X5_outmost ((fun _ => 0, fun _ => (q.2 102)) : Rec) ((fun _ => 0, fun _ => (q.2 3)) : Rec) ((Int32.ofInt 1)) hp.1) rfl cwX5_outmost dX5_explore_100 rfl (hm46_QS_I6Z6 _ _) ((len_I6Z6 _ _).trans (len_I6Z6 _ _).symm) (wQS q s) (pw66_QS_I6Z6 _ _) ?_
          replace hp := hp.2
          refine g_blk hz0 kX5_explore_103 ?_
          refine g_le (L2 := [some (.ref 0), some (.ref 14), some (.int (Int32.ofInt 2)), none, some (.int v4), none, none, none, some (.int (f_X5_outmost ((fun _ => 0, fun _ => (q.2 102)) : Rec) ((fun _ => 0, fun _ => (q.2 3)) : Rec) ((Int32.ofInt 1)))), some (.int ((f_X5_outmost ((fun _ => 0, fun _ => (q.2 102)) : Rec) ((fun _ => 0, fun _ => (q.2 3)) : Rec) ((Int32.ofInt 0))) + (Int32.ofInt 1)))]) ⟨rfl, rfl, rfl, rfl, rfl, rfl, trivial⟩ ?_
          exact l_X5_explore_c2_111 sc s zq (fun r0 r1 hp hq => ih r0 r1 hp hq) 4000000000 q v4 (f_X5_outmost ((fun _ => 0, fun _ => (q.2 102)) : Rec) ((fun _ => 0, fun _ => (q.2 3)) : Rec) ((Int32.ofInt 1))) ((f_X5_outmost ((fun _ => 0, fun _ => (q.2 102)) : Rec) ((fun _ => 0, fun _ => (q.2 3)) : Rec) ((Int32.ofInt 0))) + (Int32.ofInt 1)) hp hq
        · rw [if_pos (show v4 = 0 from c3)] at hq
          replace hp := hp.1 c3
          refine g_blk hz0 kX5_explore_72 ?_
          refine g_blk hz0 kX5_explore_83 ?_
          refine cS [4, 11] (wI6Z6 ((fun _ => 0, fun _ => (q.2 102)) : Rec) ((fun _ => 0, fun _ => (q.2 2)) : Rec)) (s_X5_outmost ((fun _ => 0, fun _ => (q.2 102)) : Rec) ((fun _ => 0, fun _ => (q.2 2)) : Rec) ((Int32.ofInt 0)) hp.1) rfl cwX5_outmost dX5_explore_90 rfl (hm45_QS_I6Z6 _ _) ((len_I6Z6 _ _).trans (len_I6Z6 _ _).symm) (wQS q s) (pw65_QS_I6Z6 _ _) ?_
          replace hp := hp.2
          refine g_blk hz0 kX5_explore_93 ?_
          refine cS [4, 11] (wI6Z6 ((fun _ => 0, fun _ => (q.2 102)) : Rec) ((fun _ => 0, fun _ => (q.2 2)) : Rec)) (s_X5_outmost ((fun _ => 0, fun _ => (q.2 102)) : Rec) ((fun _ => 0, fun _ => (q.2 2)) : Rec) ((Int32.ofInt 1)) hp.1) rfl cwX5_outmost dX5_explore_100 rfl (hm45_QS_I6Z6 _ _) ((len_I6Z6 _ _).trans (len_I6Z6 _ _).symm) (wQS q s) (pw65_QS_I6Z6 _ _) ?_
          replace hp := hp.2
          refine g_blk hz0 kX5_explore_103 ?_
          refine g_le (L2 := [some (.ref 0), some (.ref 14), some (.int (Int32.ofInt 2)), none, some (.int v4), none, none, none, some (.int (f_X5_outmost ((fun _ => 0, fun _ => (q.2 102)) : Rec) ((fun _ => 0, fun _ => (q.2 2)) : Rec) ((Int32.ofInt 1)))), some (.int ((f_X5_outmost ((fun _ => 0, fun _ => (q.2 102)) : Rec) ((fun _ => 0, fun _ => (q.2 2)) : Rec) ((Int32.ofInt 0))) + (Int32.ofInt 1)))]) ⟨rfl, rfl, rfl, rfl, rfl, rfl, trivial⟩ ?_
          exact l_X5_explore_c2_111 sc s zq (fun r0 r1 hp hq => ih r0 r1 hp hq) 4000000000 q v4 (f_X5_outmost ((fun _ => 0, fun _ => (q.2 102)) : Rec) ((fun _ => 0, fun _ => (q.2 2)) : Rec) ((Int32.ofInt 1))) ((f_X5_outmost ((fun _ => 0, fun _ => (q.2 102)) : Rec) ((fun _ => 0, fun _ => (q.2 2)) : Rec) ((Int32.ofInt 0))) + (Int32.ofInt 1)) hp hq
def f_X5_explore_c2 (q : Rec) (s : Rec) (a : Int32) : Rec := (f_X5_explore_c2_34 4000000000 (setA q 4 (upd (q.2 4) (Int32.toNatClampNeg (Int32.ofInt 2)) (if (f_X5_positions_c2 q s) < ((q.2 4) (Int32.toNatClampNeg (Int32.ofInt 2))) then (f_X5_positions_c2 q s) else ((q.2 4) (Int32.toNatClampNeg (Int32.ofInt 2)))))) s a)
def p_X5_explore_c2 (q : Rec) (s : Rec) (a : Int32) : Prop := (p_X5_positions_c2 q s) ∧ (p_X5_explore_c2_34 4000000000 (setA q 4 (upd (q.2 4) (Int32.toNatClampNeg (Int32.ofInt 2)) (if (f_X5_positions_c2 q s) < ((q.2 4) (Int32.toNatClampNeg (Int32.ofInt 2))) then (f_X5_positions_c2 q s) else ((q.2 4) (Int32.toNatClampNeg (Int32.ofInt 2)))))) s a)
set_option maxHeartbeats 16000000 in
set_option maxRecDepth 20000 in
theorem s_X5_explore_c2 (q : Rec) (s : Rec) (a : Int32) (hp : p_X5_explore_c2 q s a) : Spec 4 0 0 mX5_explore [.ref 0, .ref 14, .int (Int32.ofInt 2), .int a] (wQS q s) (Ret none (wQS ((f_X5_explore_c2 q s a)) s)) := by
  obtain ⟨zq, hq⟩ : ∃ z, z = (f_X5_explore_c2 q s a) := ⟨_, rfl⟩
  rw [← hq]
  unfold f_X5_explore_c2 at hq
  unfold p_X5_explore_c2 at hp
  refine Sof fun sc => ?_
  refine g_blk hz0 kX5_explore_0 ?_
  refine cS0 (s_X8_within (Int32.ofInt 2) (Int32.ofInt 0) (Int32.ofInt 3)) rfl cwX8_within dX5_explore_3 rfl ?_
  refine g_blk hz0 kX5_explore_6 ?_
  refine ⟨fun _ => ?_, fun c => absurd c (by decide)⟩
  refine g_blk hz0 kX5_explore_10 ?_
  refine ⟨vinL (by decide), ?_⟩
  refine cVp [0, 1, 2, 3, 4, 5, 6, 7, 8, 9, 10, 11, 12, 13, 14, 15, 16, 17, 18, 19, 20] (wQS q s) (s_X5_positions_c2 q s hp.1) rfl cwX5_positions dX5_explore_24 rfl rfl (hm44_QS_QS _ _) ?_
  replace hp := hp.2
  refine g_min (by decide) hz0 (gw_mem (by decide +kernel)) (Nat.le_of_ble_eq_true rfl) dX5_explore_27 ?_
  refine g_blk hz0 kX5_explore_30 ?_
  refine ⟨vinL (by decide), ?_⟩
  refine g_le (L2 := [some (.ref 0), some (.ref 14), some (.int (Int32.ofInt 2)), none, some (.int a), none, none, none, none, none]) ⟨rfl, rfl, rfl, rfl, trivial⟩ ?_
  exact l_X5_explore_c2_34 sc s zq 4000000000 (setA q 4 (upd (q.2 4) (Int32.toNatClampNeg (Int32.ofInt 2)) (if (f_X5_positions_c2 q s) < ((q.2 4) (Int32.toNatClampNeg (Int32.ofInt 2))) then (f_X5_positions_c2 q s) else ((q.2 4) (Int32.toNatClampNeg (Int32.ofInt 2)))))) a hp hq

set_option maxHeartbeats 16000000 in
theorem hm51_QS_I6Z6 (q : Rec) (s : Rec) : [3, 11].map (lk (wQS q s)) = (wI6Z6 ((fun _ => 0, fun _ => q.2 101) : Rec) ((fun _ => 0, fun _ => q.2 2) : Rec)).map (fun e => some (ren [3, 11] e)) := rfl
set_option maxHeartbeats 16000000 in
theorem pw72_QS_I6Z6 (q : Rec) (s : Rec)  : putW (wQS q s) [3, 11] ((wI6Z6 ((fun _ => 0, fun _ => q.2 101) : Rec) ((fun _ => 0, fun _ => q.2 2) : Rec)).map (ren [3, 11])) = (wQS q s) := rfl
set_option maxHeartbeats 16000000 in
theorem hm52_QS_I6Z6 (q : Rec) (s : Rec) : [3, 12].map (lk (wQS q s)) = (wI6Z6 ((fun _ => 0, fun _ => q.2 101) : Rec) ((fun _ => 0, fun _ => q.2 3) : Rec)).map (fun e => some (ren [3, 12] e)) := rfl
set_option maxHeartbeats 16000000 in
theorem pw73_QS_I6Z6 (q : Rec) (s : Rec)  : putW (wQS q s) [3, 12] ((wI6Z6 ((fun _ => 0, fun _ => q.2 101) : Rec) ((fun _ => 0, fun _ => q.2 3) : Rec)).map (ren [3, 12])) = (wQS q s) := rfl
set_option maxHeartbeats 16000000 in
theorem hm53_QS_I6Z6 (q : Rec) (s : Rec) : [8, 11].map (lk (wQS q s)) = (wI6Z6 ((fun _ => 0, fun _ => q.2 201) : Rec) ((fun _ => 0, fun _ => q.2 2) : Rec)).map (fun e => some (ren [8, 11] e)) := rfl
set_option maxHeartbeats 16000000 in
theorem pw74_QS_I6Z6 (q : Rec) (s : Rec)  : putW (wQS q s) [8, 11] ((wI6Z6 ((fun _ => 0, fun _ => q.2 201) : Rec) ((fun _ => 0, fun _ => q.2 2) : Rec)).map (ren [8, 11])) = (wQS q s) := rfl
set_option maxHeartbeats 16000000 in
theorem hm54_QS_I6Z6 (q : Rec) (s : Rec) : [8, 12].map (lk (wQS q s)) = (wI6Z6 ((fun _ => 0, fun _ => q.2 201) : Rec) ((fun _ => 0, fun _ => q.2 3) : Rec)).map (fun e => some (ren [8, 12] e)) := rfl
set_option maxHeartbeats 16000000 in
theorem pw75_QS_I6Z6 (q : Rec) (s : Rec)  : putW (wQS q s) [8, 12] ((wI6Z6 ((fun _ => 0, fun _ => q.2 201) : Rec) ((fun _ => 0, fun _ => q.2 3) : Rec)).map (ren [8, 12])) = (wQS q s) := rfl
set_option maxHeartbeats 16000000 in
theorem hm55_QS_I6I6 (q : Rec) (s : Rec) : [3, 4].map (lk (wQS q s)) = (wI6I6 ((fun _ => 0, fun _ => q.2 101) : Rec) ((fun _ => 0, fun _ => q.2 102) : Rec)).map (fun e => some (ren [3, 4] e)) := rfl
set_option maxHeartbeats 16000000 in
theorem pw76_QS_I6I6 (q : Rec) (s : Rec) (b9 : Rec) : putW (wQS q s) [3, 4] ((wI6I6 ((fun _ => 0, fun _ => q.2 101) : Rec) b9).map (ren [3, 4])) = (wQS (setA q 102 (b9.2 0)) s) := rfl
set_option maxHeartbeats 16000000 in
theorem hm56_QS_I6I6 (q : Rec) (s : Rec) : [8, 9].map (lk (wQS q s)) = (wI6I6 ((fun _ => 0, fun _ => q.2 201) : Rec) ((fun _ => 0, fun _ => q.2 202) : Rec)).map (fun e => some (ren [8, 9] e)) := rfl
set_option maxHeartbeats 16000000 in
theorem pw77_QS_I6I6 (q : Rec) (s : Rec) (b9 : Rec) : putW (wQS q s) [8, 9] ((wI6I6 ((fun _ => 0, fun _ => q.2 201) : Rec) b9).map (ren [8, 9])) = (wQS (setA q 202 (b9.2 0)) s) := rfl
def f_X5_explore_c1_111 (K34 : Rec → Rec → Int32 → Rec) : Nat → Rec → Rec → Int32 → Int32 → Int32 → Rec
  | 0, q, s, v4, v8, v9 => q
  | n + 1, q, s, v4, v8, v9 => if v8 < v9 then (K34 q s (v4 + (Int32.ofInt 1))) else (if v4 = 0 then (if v4 = (Int32.ofInt 1) then (f_X5_explore_c1_111 K34 n (f_X5_explore_c2 (setA (setA q 102 ((f_X5_bend ((fun _ => 0, fun _ => (q.2 101)) : Rec) ((fun _ => 0, fun _ => (q.2 102)) : Rec) ((Int32.ofInt 1)) v9).2 0)) 202 ((f_X5_bend ((fun _ => 0, fun _ => (q.2 201)) : Rec) ((fun _ => 0, fun _ => (q.2 202)) : Rec) ((Int32.ofInt 1)) v9).2 0)) s v4) s v4 v8 (v9 + (Int32.ofInt 1))) else (f_X5_explore_c1_111 K34 n (f_X5_explore_c2 (setA (setA q 102 ((f_X5_bend ((fun _ => 0, fun _ => (q.2 101)) : Rec) ((fun _ => 0, fun _ => (q.2 102)) : Rec) ((Int32.ofInt 1)) v9).2 0)) 202 ((f_X5_bend ((fun _ => 0, fun _ => (q.2 201)) : Rec) ((fun _ => 0, fun _ => (q.2 202)) : Rec) ((Int32.ofInt 0)) v9).2 0)) s v4) s v4 v8 (v9 + (Int32.ofInt 1)))) else (if v4 = (Int32.ofInt 1) then (f_X5_explore_c1_111 K34 n (f_X5_explore_c2 (setA (setA q 102 ((f_X5_bend ((fun _ => 0, fun _ => (q.2 101)) : Rec) ((fun _ => 0, fun _ => (q.2 102)) : Rec) ((Int32.ofInt 0)) v9).2 0)) 202 ((f_X5_bend ((fun _ => 0, fun _ => (q.2 201)) : Rec) ((fun _ => 0, fun _ => (q.2 202)) : Rec) ((Int32.ofInt 1)) v9).2 0)) s v4) s v4 v8 (v9 + (Int32.ofInt 1))) else (f_X5_explore_c1_111 K34 n (f_X5_explore_c2 (setA (setA q 102 ((f_X5_bend ((fun _ => 0, fun _ => (q.2 101)) : Rec) ((fun _ => 0, fun _ => (q.2 102)) : Rec) ((Int32.ofInt 0)) v9).2 0)) 202 ((f_X5_bend ((fun _ => 0, fun _ => (q.2 201)) : Rec) ((fun _ => 0, fun _ => (q.2 202)) : Rec) ((Int32.ofInt 0)) v9).2 0)) s v4) s v4 v8 (v9 + (Int32.ofInt 1)))))
def p_X5_explore_c1_111 (G34 : Rec → Rec → Int32 → Prop) : Nat → Rec → Rec → Int32 → Int32 → Int32 → Prop
  | 0, _, _, _, _, _ => False
  | n + 1, q, s, v4, v8, v9 => (v8 < v9 → (G34 q s (v4 + (Int32.ofInt 1)))) ∧ (¬ (v8 < v9) → ((v4 = 0 → ((p_X5_bend ((fun _ => 0, fun _ => (q.2 101)) : Rec) ((fun _ => 0, fun _ => (q.2 102)) : Rec) ((Int32.ofInt 1)) v9) ∧ ((v4 = (Int32.ofInt 1) → ((p_X5_bend ((fun _ => 0, fun _ => (q.2 201)) : Rec) ((fun _ => 0, fun _ => (q.2 202)) : Rec) ((Int32.ofInt 1)) v9) ∧ ((p_X5_explore_c2 (setA (setA q 102 ((f_X5_bend ((fun _ => 0, fun _ => (q.2 101)) : Rec) ((fun _ => 0, fun _ => (q.2 102)) : Rec) ((Int32.ofInt 1)) v9).2 0)) 202 ((f_X5_bend ((fun _ => 0, fun _ => (q.2 201)) : Rec) ((fun _ => 0, fun _ => (q.2 202)) : Rec) ((Int32.ofInt 1)) v9).2 0)) s v4) ∧ (p_X5_explore_c1_111 G34 n (f_X5_explore_c2 (setA (setA q 102 ((f_X5_bend ((fun _ => 0, fun _ => (q.2 101)) : Rec) ((fun _ => 0, fun _ => (q.2 102)) : Rec) ((Int32.ofInt 1)) v9).2 0)) 202 ((f_X5_bend ((fun _ => 0, fun _ => (q.2 201)) : Rec) ((fun _ => 0, fun _ => (q.2 202)) : Rec) ((Int32.ofInt 1)) v9).2 0)) s v4) s v4 v8 (v9 + (Int32.ofInt 1)))))) ∧ (¬ (v4 = (Int32.ofInt 1)) → ((p_X5_bend ((fun _ => 0, fun _ => (q.2 201)) : Rec) ((fun _ => 0, fun _ => (q.2 202)) : Rec) ((Int32.ofInt 0)) v9) ∧ ((p_X5_explore_c2 (setA (setA q 102 ((f_X5_bend ((fun _ => 0, fun _ => (q.2 101)) : Rec) ((fun _ => 0, fun _ => (q.2 102)) : Rec) ((Int32.ofInt 1)) v9).2 0)) 202 ((f_X5_bend ((fun _ => 0, fun _ => (q.2 201)) : Rec) ((fun _ => 0, fun _ => (q.2 202)) : Rec) ((Int32.ofInt 0)) v9).2 0)) s v4) ∧ (p_X5_explore_c1_111 G34 n (f_X5_explore_c2 (setA (setA q 102 ((f_X5_bend ((fun _ => 0, fun _ => (q.2 101)) : Rec) ((fun _ => 0, fun _ => (q.2 102)) : Rec) ((Int32.ofInt 1)) v9).2 0)) 202 ((f_X5_bend ((fun _ => 0, fun _ => (q.2 201)) : Rec) ((fun _ => 0, fun _ => (q.2 202)) : Rec) ((Int32.ofInt 0)) v9).2 0)) s v4) s v4 v8 (v9 + (Int32.ofInt 1))))))))) ∧ (¬ (v4 = 0) → ((p_X5_bend ((fun _ => 0, fun _ => (q.2 101)) : Rec) ((fun _ => 0, fun _ => (q.2 102)) : Rec) ((Int32.ofInt 0)) v9) ∧ ((v4 = (Int32.ofInt 1) → ((p_X5_bend ((fun _ => 0, fun _ => (q.2 201)) : Rec) ((fun _ => 0, fun _ => (q.2 202)) : Rec) ((Int32.ofInt 1)) v9) ∧ ((p_X5_explore_c2 (setA (setA q 102 ((f_X5_bend ((fun _ => 0, fun _ => (q.2 101)) : Rec) ((fun _ => 0, fun _ => (q.2 102)) : Rec) ((Int32.ofInt 0)) v9).2 0)) 202 ((f_X5_bend ((fun _ => 0, fun _ => (q.2 201)) : Rec) ((fun _ => 0, fun _ => (q.2 202)) : Rec) ((Int32.ofInt 1)) v9).2 0)) s v4) ∧ (p_X5_explore_c1_111 G34 n (f_X5_explore_c2 (setA (setA q 102 ((f_X5_bend ((fun _ => 0, fun _ => (q.2 101)) : Rec) ((fun _ => 0, fun _ => (q.2 102)) : Rec) ((Int32.ofInt 0)) v9).2 0)) 202 ((f_X5_bend ((fun _ => 0, fun _ => (q.2 201)) : Rec) ((fun _ => 0, fun _ => (q.2 202)) : Rec) ((Int32.ofInt 1)) v9).2 0)) s v4) s v4 v8 (v9 + (Int32.ofInt 1)))))) ∧ (¬ (v4 = (Int32.ofInt 1)) → ((p_X5_bend ((fun _ => 0, fun _ => (q.2 201)) : Rec) ((fun _ => 0, fun _ => (q.2 202)) : Rec) ((Int32.ofInt 0)) v9) ∧ ((p_X5_explore_c2 (setA (setA q 102 ((f_X5_bend ((fun _ => 0, fun _ => (q.2 101)) : Rec) ((fun _ => 0, fun _ => (q.2 102)) : Rec) ((Int32.ofInt 0)) v9).2 0)) 202 ((f_X5_bend ((fun _ => 0, fun _ => (q.2 201)) : Rec) ((fun _ => 0, fun _ => (q.2 202)) : Rec) ((Int32.ofInt 0)) v9).2 0)) s v4) ∧ (p_X5_explore_c1_111 G34 n (f_X5_explore_c2 (setA (setA q 102 ((f_X5_bend ((fun _ => 0, fun _ => (q.2 101)) : Rec) ((fun _ => 0, fun _ => (q.2 102)) : Rec) ((Int32.ofInt 0)) v9).2 0)) 202 ((f_X5_bend ((fun _ => 0, fun _ => (q.2 201)) : Rec) ((fun _ => 0, fun _ => (q.2 202)) : Rec) ((Int32.ofInt 0)) v9).2 0)) s v4) s v4 v8 (v9 + (Int32.ofInt 1)))))))))))
set_option maxHeartbeats 16000000 in
set_option maxRecDepth 20000 in
theorem l_X5_explore_c1_111 (sc : SC) (s : Rec) {K34 : Rec → Rec → Int32 → Rec} {G34 : Rec → Rec → Int32 → Prop} (zq : Rec) (hK34 : ∀ (q : Rec) (v4 : Int32), G34 q s v4 → zq = K34 q s v4 → Good sc 5 0 0 21 mX5_explore (Ret none (wQS (zq) s)) 0 0 34 [some (.ref 0), some (.ref 14), some (.int (Int32.ofInt 1)), none, some (.int v4), none, none, none, none, none] [] (wQS q s)) : ∀ (n : Nat) (q : Rec) (v4 : Int32) (v8 : Int32) (v9 : Int32), p_X5_explore_c1_111 G34 n q s v4 v8 v9 → zq = f_X5_explore_c1_111 K34 n q s v4 v8 v9 → Good sc 5 0 0 21 mX5_explore (Ret none (wQS (zq) s)) 0 0 111 [some (.ref 0), some (.ref 14), some (.int (Int32.ofInt 1)), none, some (.int v4), none, none, none, some (.int v8), some (.int v9)] [] (wQS q s) := by
  intro n
  induction n with
  | zero => intro q v4 v8 v9 hp; exact hp.elim
  | succ n ih =>
    intro q v4 v8 v9 hp hq
    unfold p_X5_explore_c1_111 at hp
    unfold f_X5_explore_c1_111 at hq
    refine g_blk hz0 kX5_explore_111 ?_
    refine ⟨fun c5 => ?_, fun c5 => ?_⟩
    · rw [if_pos (show v8 < v9 from c5)] at hq
      replace hp := hp.1 c5
      refine g_blk hz0 kX5_explore_193 ?_
      refine g_le (L2 := [some (.ref 0), some (.ref 14), some (.int (Int32.ofInt 1)), none, some (.int (v4 + (Int32.ofInt 1))), none, none, none, none, none]) ⟨rfl, rfl, rfl, rfl, trivial⟩ ?_
      exact hK34 q (v4 + (Int32.ofInt 1)) hp hq
    · rw [if_neg (show ¬ (v8 < v9) from c5)] at hq
      replace hp := hp.2 c5
      refine g_blk hz0 kX5_explore_118 ?_
      refine ⟨vinL (by decide), 3, rfl, ?_⟩
      refine ⟨vinL (by decide), 4, rfl, ?_⟩
      refine ⟨fun c6 => ?_, fun c6 => ?_⟩
      · rw [if_neg (show ¬ (v4 = 0) from c6)] at hq
        replace hp := hp.2 c6
        refine g_blk hz0 kX5_explore_141 ?_
        refine g_blk hz0 kX5_explore_142 ?_
        refine cS [3, 4] (wI6I6 ((fun _ => 0, fun _ => (q.2 101)) : Rec) ((fun _ => 0, fun _ => (q.2 102)) : Rec)) (s_X5_bend ((fun _ => 0, fun _ => (q.2 101)) : Rec) ((fun _ => 0, fun _ => (q.2 102)) : Rec) ((Int32.ofInt 0)) v9 hp.1) rfl cwX5_bend dX5_explore_144 rfl (hm55_QS_I6I6 _ _) ((len_I6I6 _ _).trans (len_I6I6 _ _).symm) (wQS (setA q 102 ((f_X5_bend ((fun _ => 0, fun _ => (q.2 101)) : Rec) ((fun _ => 0, fun _ => (q.2 102)) : Rec) ((Int32.ofInt 0)) v9).2 0)) s) (pw76_QS_I6I6 _ _ _) ?_
        replace hp := hp.2
        obtain ⟨g13, hg13⟩ : ∃ z, z = (f_X5_bend ((fun _ => 0, fun _ => (q.2 101)) : Rec) ((fun _ => 0, fun _ => (q.2 102)) : Rec) ((Int32.ofInt 0)) v9) := ⟨_, rfl⟩
        try rw [← hg13] at hp
        try rw [← hg13] at hq
        rw [← hg13]
        refine g_blk hz0 kX5_explore_147 ?_
        refine ⟨vinL (by decide), 8, rfl, ?_⟩
        refine ⟨vinL (by decide), 9, rfl, ?_⟩
        refine ⟨fun c14 => ?_, fun c14 => ?_⟩
        · rw [if_neg (show ¬ (v4 = (Int32.ofInt 1)) from c14)] at hq
          replace hp := hp.2 c14
          refine g_blk hz0 kX5_explore_171 ?_
          refine g_blk hz0 kX5_explore_172 ?_
          refine cS [8, 9] (wI6I6 ((fun _ => 0, fun _ => (q.2 201)) : Rec) ((fun _ => 0, fun _ => (q.2 202)) : Rec)) (s_X5_bend ((fun _ => 0, fun _ => (q.2 201)) : Rec) ((fun _ => 0, fun _ => (q.2 202)) : Rec) ((Int32.ofInt 0)) v9 hp.1) rfl cwX5_bend dX5_explore_174 rfl (hm56_QS_I6I6 _ _) ((len_I6I6 _ _).trans (len_I6I6 _ _).symm) (wQS (setA (setA q 102 (g13.2 0)) 202 ((f_X5_bend ((fun _ => 0, fun _ => (q.2 201)) : Rec) ((fun _ => 0, fun _ => (q.2 202)) : Rec) ((Int32.ofInt 0)) v9).2 0)) s) (pw77_QS_I6I6 _ _ _) ?_
          replace hp := hp.2
          obtain ⟨g17, hg17⟩ : ∃ z, z = (f_X5_bend ((fun _ => 0, fun _ => (q.2 201)) : Rec) ((fun _ => 0, fun _ => (q.2 202)) : Rec) ((Int32.ofInt 0)) v9) := ⟨_, rfl⟩
          try rw [← hg17] at hp
          try rw [← hg17] at hq
          rw [← hg17]
          refine g_blk hz0 kX5_explore_177 ?_
          refine cV [0, 1, 2, 3, 4, 5, 6, 7, 8, 9, 10, 11, 12, 13, 14, 15, 16, 17, 18, 19, 20] (wQS (setA (setA q 102 (g13.2 0)) 202 (g17.2 0)) s) (s_X5_explore_c2 (setA (setA q 102 (g13.2 0)) 202 (g17.2 0)) s v4 hp.1) rfl cwX5_explore dX5_explore_184 rfl rfl (hm44_QS_QS _ _) ((len_QS _ _).trans (len_QS _ _).symm) (wQS (f_X5_explore_c2 (setA (setA q 102 (g13.2 0)) 202 (g17.2 0)) s v4) s) (pw71_QS_QS _ _ _) ?_
          replace hp := hp.2
          obtain ⟨g18, hg18⟩ : ∃ z, z = (f_X5_explore_c2 (setA (setA q 102 (g13.2 0)) 202 (g17.2 0)) s v4) := ⟨_, rfl⟩
          try rw [← hg18] at hp
          try rw [← hg18] at hq
          rw [← hg18]
          refine g_blk hz0 kX5_explore_187 ?_
          refine g_le (L2 := [some (.ref 0), some (.ref 14), some (.int (Int32.ofInt 1)), none, some (.int v4), none, none, none, some (.int v8), some (.int (v9 + (Int32.ofInt 1)))]) ⟨rfl, rfl, rfl, rfl, rfl, rfl, trivial⟩ ?_
          exact ih g18 v4 v8 (v9 + (Int32.ofInt 1)) hp hq
        · rw [if_pos (show v4 = (Int32.ofInt 1) from c14)] at hq
          replace hp := hp.1 c14
          refine g_blk hz0 kX5_explore_167 ?_
          refine g_blk hz0 kX5_explore_172 ?_
          refine cS [8, 9] (wI6I6 ((fun _ => 0, fun _ => (q.2 201)) : Rec) ((fun _ => 0, fun _ => (q.2 202)) : Rec)) (s_X5_bend ((fun _ => 0, fun _ => (q.2 201)) : Rec) ((fun _ => 0, fun _ => (q.2 202)) : Rec) ((Int32.ofInt 1)) v9 hp.1) rfl cwX5_bend dX5_explore_174 rfl (hm56_QS_I6I6 _ _) ((len_I6I6 _ _).trans (len_I6I6 _ _).symm) (wQS (setA (setA q 102 (g13.2 0)) 202 ((f_X5_bend ((fun _ => 0, fun _ => (q.2 201)) : Rec) ((fun _ => 0, fun _ => (q.2 202)) : Rec) ((Int32.ofInt 1)) v9).2 0)) s) (pw77_QS_I6I6 _ _ _) ?_
          replace hp := hp.2
          obtain ⟨g15, hg15⟩ : ∃ z, z = (f_X5_bend ((fun _ => 0, fun _ => (q.2 201)) : Rec) ((fun _ => 0, fun _ => (q.2 202)) : Rec) ((Int32.ofInt 1)) v9) := ⟨_, rfl⟩
          try rw [← hg15] at hp
          try rw [← hg15] at hq
          rw [← hg15]
          refine g_blk hz0 kX5_explore_177 ?_
          refine cV [0, 1, 2, 3, 4, 5, 6, 7, 8, 9, 10, 11, 12, 13, 14, 15, 16, 17, 18, 19, 20] (wQS (setA (setA q 102 (g13.2 0)) 202 (g15.2 0)) s) (s_X5_explore_c2 (setA (setA q 102 (g13.2 0)) 202 (g15.2 0)) s v4 hp.1) rfl cwX5_explore dX5_explore_184 rfl rfl (hm44_QS_QS _ _) ((len_QS _ _).trans (len_QS _ _).symm) (wQS (f_X5_explore_c2 (setA (setA q 102 (g13.2 0)) 202 (g15.2 0)) s v4) s) (pw71_QS_QS _ _ _) ?_
          replace hp := hp.2
          obtain ⟨g16, hg16⟩ : ∃ z, z = (f_X5_explore_c2 (setA (setA q 102 (g13.2 0)) 202 (g15.2 0)) s v4) := ⟨_, rfl⟩
          try rw [← hg16] at hp
          try rw [← hg16] at hq
          rw [← hg16]
          refine g_blk hz0 kX5_explore_187 ?_
          refine g_le (L2 := [some (.ref 0), some (.ref 14), some (.int (Int32.ofInt 1)), none, some (.int v4), none, none, none, some (.int v8), some (.int (v9 + (Int32.ofInt 1)))]) ⟨rfl, rfl, rfl, rfl, rfl, rfl, trivial⟩ ?_
          exact ih g16 v4 v8 (v9 + (Int32.ofInt 1)) hp hq
      · rw [if_pos (show v4 = 0 from c6)] at hq
        replace hp := hp.1 c6
        refine g_blk hz0 kX5_explore_137 ?_
        refine g_blk hz0 kX5_explore_142 ?_
        refine cS [3, 4] (wI6I6 ((fun _ => 0, fun _ => (q.2 101)) : Rec) ((fun _ => 0, fun _ => (q.2 102)) : Rec)) (s_X5_bend ((fun _ => 0, fun _ => (q.2 101)) : Rec) ((fun _ => 0, fun _ => (q.2 102)) : Rec) ((Int32.ofInt 1)) v9 hp.1) rfl cwX5_bend dX5_explore_144 rfl (hm55_QS_I6I6 _ _) ((len_I6I6 _ _).trans (len_I6I6 _ _).symm) (wQS (setA q 102 ((f_X5_bend ((fun _ => 0, fun _ => (q.2 101)) : Rec) ((fun _ => 0, fun _ => (q.2 102)) : Rec) ((Int32.ofInt 1)) v9).2 0)) s) (pw76_QS_I6I6 _ _ _) ?_
        replace hp := hp.2
        obtain ⟨g7, hg7⟩ : ∃ z, z = (f_X5_bend ((fun _ => 0, fun _ => (q.2 101)) : Rec) ((fun _ => 0, fun _ => (q.2 102)) : Rec) ((Int32.ofInt 1)) v9) := ⟨_, rfl⟩
        try rw [← hg7] at hp
        try rw [← hg7] at hq
        rw [← hg7]
        refine g_blk hz0 kX5_explore_147 ?_
        refine ⟨vinL (by decide), 8, rfl, ?_⟩
        refine ⟨vinL (by decide), 9, rfl, ?_⟩
        refine ⟨fun c8 => ?_, fun c8 => ?_⟩
        · rw [if_neg (show ¬ (v4 = (Int32.ofInt 1)) from c8)] at hq
          replace hp := hp.2 c8
          refine g_blk hz0 kX5_explore_171 ?_
          refine g_blk hz0 kX5_explore_172 ?_
          refine cS [8, 9] (wI6I6 ((fun _ => 0, fun _ => (q.2 201)) : Rec) ((fun _ => 0, fun _ => (q.2 202)) : Rec)) (s_X5_bend ((fun _ => 0, fun _ => (q.2 201)) : Rec) ((fun _ => 0, fun _ => (q.2 202)) : Rec) ((Int32.ofInt 0)) v9 hp.1) rfl cwX5_bend dX5_explore_174 rfl (hm56_QS_I6I6 _ _) ((len_I6I6 _ _).trans (len_I6I6 _ _).symm) (wQS (setA (setA q 102 (g7.2 0)) 202 ((f_X5_bend ((fun _ => 0, fun _ => (q.2 201)) : Rec) ((fun _ => 0, fun _ => (q.2 202)) : Rec) ((Int32.ofInt 0)) v9).2 0)) s) (pw77_QS_I6I6 _ _ _) ?_
          replace hp := hp.2
          obtain ⟨g11, hg11⟩ : ∃ z, z = (f_X5_bend ((fun _ => 0, fun _ => (q.2 201)) : Rec) ((fun _ => 0, fun _ => (q.2 202)) : Rec) ((Int32.ofInt 0)) v9) := ⟨_, rfl⟩
          try rw [← hg11] at hp
          try rw [← hg11] at hq
          rw [← hg11]
          refine g_blk hz0 kX5_explore_177 ?_
          refine cV [0, 1, 2, 3, 4, 5, 6, 7, 8, 9, 10, 11, 12, 13, 14, 15, 16, 17, 18, 19, 20] (wQS (setA (setA q 102 (g7.2 0)) 202 (g11.2 0)) s) (s_X5_explore_c2 (setA (setA q 102 (g7.2 0)) 202 (g11.2 0)) s v4 hp.1) rfl cwX5_explore dX5_explore_184 rfl rfl (hm44_QS_QS _ _) ((len_QS _ _).trans (len_QS _ _).symm) (wQS (f_X5_explore_c2 (setA (setA q 102 (g7.2 0)) 202 (g11.2 0)) s v4) s) (pw71_QS_QS _ _ _) ?_
          replace hp := hp.2
          obtain ⟨g12, hg12⟩ : ∃ z, z = (f_X5_explore_c2 (setA (setA q 102 (g7.2 0)) 202 (g11.2 0)) s v4) := ⟨_, rfl⟩
          try rw [← hg12] at hp
          try rw [← hg12] at hq
          rw [← hg12]
          refine g_blk hz0 kX5_explore_187 ?_
          refine g_le (L2 := [some (.ref 0), some (.ref 14), some (.int (Int32.ofInt 1)), none, some (.int v4), none, none, none, some (.int v8), some (.int (v9 + (Int32.ofInt 1)))]) ⟨rfl, rfl, rfl, rfl, rfl, rfl, trivial⟩ ?_
          exact ih g12 v4 v8 (v9 + (Int32.ofInt 1)) hp hq
        · rw [if_pos (show v4 = (Int32.ofInt 1) from c8)] at hq
          replace hp := hp.1 c8
          refine g_blk hz0 kX5_explore_167 ?_
          refine g_blk hz0 kX5_explore_172 ?_
          refine cS [8, 9] (wI6I6 ((fun _ => 0, fun _ => (q.2 201)) : Rec) ((fun _ => 0, fun _ => (q.2 202)) : Rec)) (s_X5_bend ((fun _ => 0, fun _ => (q.2 201)) : Rec) ((fun _ => 0, fun _ => (q.2 202)) : Rec) ((Int32.ofInt 1)) v9 hp.1) rfl cwX5_bend dX5_explore_174 rfl (hm56_QS_I6I6 _ _) ((len_I6I6 _ _).trans (len_I6I6 _ _).symm) (wQS (setA (setA q 102 (g7.2 0)) 202 ((f_X5_bend ((fun _ => 0, fun _ => (q.2 201)) : Rec) ((fun _ => 0, fun _ => (q.2 202)) : Rec) ((Int32.ofInt 1)) v9).2 0)) s) (pw77_QS_I6I6 _ _ _) ?_
          replace hp := hp.2
          obtain ⟨g9, hg9⟩ : ∃ z, z = (f_X5_bend ((fun _ => 0, fun _ => (q.2 201)) : Rec) ((fun _ => 0, fun _ => (q.2 202)) : Rec) ((Int32.ofInt 1)) v9) := ⟨_, rfl⟩
          try rw [← hg9] at hp
          try rw [← hg9] at hq
          rw [← hg9]
          refine g_blk hz0 kX5_explore_177 ?_
          refine cV [0, 1, 2, 3, 4, 5, 6, 7, 8, 9, 10, 11, 12, 13, 14, 15, 16, 17, 18, 19, 20] (wQS (setA (setA q 102 (g7.2 0)) 202 (g9.2 0)) s) (s_X5_explore_c2 (setA (setA q 102 (g7.2 0)) 202 (g9.2 0)) s v4 hp.1) rfl cwX5_explore dX5_explore_184 rfl rfl (hm44_QS_QS _ _) ((len_QS _ _).trans (len_QS _ _).symm) (wQS (f_X5_explore_c2 (setA (setA q 102 (g7.2 0)) 202 (g9.2 0)) s v4) s) (pw71_QS_QS _ _ _) ?_
          replace hp := hp.2
          obtain ⟨g10, hg10⟩ : ∃ z, z = (f_X5_explore_c2 (setA (setA q 102 (g7.2 0)) 202 (g9.2 0)) s v4) := ⟨_, rfl⟩
          try rw [← hg10] at hp
          try rw [← hg10] at hq
          rw [← hg10]
          refine g_blk hz0 kX5_explore_187 ?_
          refine g_le (L2 := [some (.ref 0), some (.ref 14), some (.int (Int32.ofInt 1)), none, some (.int v4), none, none, none, some (.int v8), some (.int (v9 + (Int32.ofInt 1)))]) ⟨rfl, rfl, rfl, rfl, rfl, rfl, trivial⟩ ?_
          exact ih g10 v4 v8 (v9 + (Int32.ofInt 1)) hp hq
def f_X5_explore_c1_34  : Nat → Rec → Rec → Int32 → Rec
  | 0, q, s, v4 => q
  | n + 1, q, s, v4 => if (Int32.ofInt 1) < v4 then q else (if v4 = 0 then (if v4 = 0 then (f_X5_explore_c1_111 (f_X5_explore_c1_34 n) 4000000000 q s v4 (f_X5_outmost ((fun _ => 0, fun _ => (q.2 101)) : Rec) ((fun _ => 0, fun _ => (q.2 2)) : Rec) ((Int32.ofInt 1))) ((f_X5_outmost ((fun _ => 0, fun _ => (q.2 101)) : Rec) ((fun _ => 0, fun _ => (q.2 2)) : Rec) ((Int32.ofInt 0))) + (Int32.ofInt 1))) else (f_X5_explore_c1_111 (f_X5_explore_c1_34 n) 4000000000 q s v4 (f_X5_outmost ((fun _ => 0, fun _ => (q.2 101)) : Rec) ((fun _ => 0, fun _ => (q.2 3)) : Rec) ((Int32.ofInt 1))) ((f_X5_outmost ((fun _ => 0, fun _ => (q.2 101)) : Rec) ((fun _ => 0, fun _ => (q.2 3)) : Rec) ((Int32.ofInt 0))) + (Int32.ofInt 1)))) else (if v4 = 0 then (f_X5_explore_c1_111 (f_X5_explore_c1_34 n) 4000000000 q s v4 (f_X5_outmost ((fun _ => 0, fun _ => (q.2 201)) : Rec) ((fun _ => 0, fun _ => (q.2 2)) : Rec) ((Int32.ofInt 1))) ((f_X5_outmost ((fun _ => 0, fun _ => (q.2 201)) : Rec) ((fun _ => 0, fun _ => (q.2 2)) : Rec) ((Int32.ofInt 0))) + (Int32.ofInt 1))) else (f_X5_explore_c1_111 (f_X5_explore_c1_34 n) 4000000000 q s v4 (f_X5_outmost ((fun _ => 0, fun _ => (q.2 201)) : Rec) ((fun _ => 0, fun _ => (q.2 3)) : Rec) ((Int32.ofInt 1))) ((f_X5_outmost ((fun _ => 0, fun _ => (q.2 201)) : Rec) ((fun _ => 0, fun _ => (q.2 3)) : Rec) ((Int32.ofInt 0))) + (Int32.ofInt 1)))))
def p_X5_explore_c1_34  : Nat → Rec → Rec → Int32 → Prop
  | 0, _, _, _ => False
  | n + 1, q, s, v4 => ((Int32.ofInt 1) < v4 → True) ∧ (¬ ((Int32.ofInt 1) < v4) → ((v4 = 0 → ((v4 = 0 → ((p_X5_outmost ((fun _ => 0, fun _ => (q.2 101)) : Rec) ((fun _ => 0, fun _ => (q.2 2)) : Rec) ((Int32.ofInt 0))) ∧ ((p_X5_outmost ((fun _ => 0, fun _ => (q.2 101)) : Rec) ((fun _ => 0, fun _ => (q.2 2)) : Rec) ((Int32.ofInt 1))) ∧ (p_X5_explore_c1_111 (p_X5_explore_c1_34 n) 4000000000 q s v4 (f_X5_outmost ((fun _ => 0, fun _ => (q.2 101)) : Rec) ((fun _ => 0, fun _ => (q.2 2)) : Rec) ((Int32.ofInt 1))) ((f_X5_outmost ((fun _ => 0, fun _ => (q.2 101)) : Rec) ((fun _ => 0, fun _ => (q.2 2)) : Rec) ((Int32.ofInt 0))) + (Int32.ofInt 1)))))) ∧ (¬ (v4 = 0) → ((p_X5_outmost ((fun _ => 0, fun _ => (q.2 101)) : Rec) ((fun _ => 0, fun _ => (q.2 3)) : Rec) ((Int32.ofInt 0))) ∧ ((p_X5_outmost ((fun _ => 0, fun _ => (q.2 101)) : Rec) ((fun _ => 0, fun _ => (q.2 3)) : Rec) ((Int32.ofInt 1))) ∧ (p_X5_explore_c1_111 (p_X5_explore_c1_34 n) 4000000000 q s v4 (f_X5_outmost ((fun _ => 0, fun _ => (q.2 101)) : Rec) ((fun _ => 0, fun _ => (q.2 3)) : Rec) ((Int32.ofInt 1))) ((f_X5_outmost ((fun _ => 0, fun _ => (q.2 101)) : Rec) ((fun _ => 0, fun _ => (q.2 3)) : Rec) ((Int32.ofInt 0))) + (Int32.ofInt 1)))))))) ∧ (¬ (v4 = 0) → ((v4 = 0 → ((p_X5_outmost ((fun _ => 0, fun _ => (q.2 201)) : Rec) ((fun _ => 0, fun _ => (q.2 2)) : Rec) ((Int32.ofInt 0))) ∧ ((p_X5_outmost ((fun _ => 0, fun _ => (q.2 201)) : Rec) ((fun _ => 0, fun _ => (q.2 2)) : Rec) ((Int32.ofInt 1))) ∧ (p_X5_explore_c1_111 (p_X5_explore_c1_34 n) 4000000000 q s v4 (f_X5_outmost ((fun _ => 0, fun _ => (q.2 201)) : Rec) ((fun _ => 0, fun _ => (q.2 2)) : Rec) ((Int32.ofInt 1))) ((f_X5_outmost ((fun _ => 0, fun _ => (q.2 201)) : Rec) ((fun _ => 0, fun _ => (q.2 2)) : Rec) ((Int32.ofInt 0))) + (Int32.ofInt 1)))))) ∧ (¬ (v4 = 0) → ((p_X5_outmost ((fun _ => 0, fun _ => (q.2 201)) : Rec) ((fun _ => 0, fun _ => (q.2 3)) : Rec) ((Int32.ofInt 0))) ∧ ((p_X5_outmost ((fun _ => 0, fun _ => (q.2 201)) : Rec) ((fun _ => 0, fun _ => (q.2 3)) : Rec) ((Int32.ofInt 1))) ∧ (p_X5_explore_c1_111 (p_X5_explore_c1_34 n) 4000000000 q s v4 (f_X5_outmost ((fun _ => 0, fun _ => (q.2 201)) : Rec) ((fun _ => 0, fun _ => (q.2 3)) : Rec) ((Int32.ofInt 1))) ((f_X5_outmost ((fun _ => 0, fun _ => (q.2 201)) : Rec) ((fun _ => 0, fun _ => (q.2 3)) : Rec) ((Int32.ofInt 0))) + (Int32.ofInt 1))))))))))
set_option maxHeartbeats 16000000 in
set_option maxRecDepth 20000 in
theorem l_X5_explore_c1_34 (sc : SC) (s : Rec)  (zq : Rec)  : ∀ (n : Nat) (q : Rec) (v4 : Int32), p_X5_explore_c1_34 n q s v4 → zq = f_X5_explore_c1_34 n q s v4 → Good sc 5 0 0 21 mX5_explore (Ret none (wQS (zq) s)) 0 0 34 [some (.ref 0), some (.ref 14), some (.int (Int32.ofInt 1)), none, some (.int v4), none, none, none, none, none] [] (wQS q s) := by
  intro n
  induction n with
  | zero => intro q v4 hp; exact hp.elim
  | succ n ih =>
    intro q v4 hp hq
    unfold p_X5_explore_c1_34 at hp
    unfold f_X5_explore_c1_34 at hq
    refine g_blk hz0 kX5_explore_34 ?_
    refine ⟨fun c1 => ?_, fun c1 => ?_⟩
    · rw [if_pos (show (Int32.ofInt 1) < v4 from c1)] at hq
      refine g_blk hz0 kX5_explore_199 ?_
      subst hq
      exact ⟨rfl, rfl⟩
    · rw [if_neg (show ¬ ((Int32.ofInt 1) < v4) from c1)] at hq
      replace hp := hp.2 c1
      refine g_blk hz0 kX5_explore_40 ?_
      refine ⟨fun c => absurd c (by decide), fun _ => ?_⟩
      refine g_blk hz0 kX5_explore_45 ?_
      refine ⟨fun c2 => ?_, fun c2 => ?_⟩
      · rw [if_neg (show ¬ (v4 = 0) from c2)] at hq
        replace hp := hp.2 c2
        refine g_blk hz0 kX5_explore_59 ?_
        refine ⟨vinL (by decide), 8, rfl, ?_⟩
        refine g_blk hz0 kX5_explore_65 ?_
        refine ⟨fun c4 => ?_, fun c4 => ?_⟩
        · rw [if_neg (show ¬ (v4 = 0) from c4)] at hq
          replace hp := hp.2 c4
          refine g_blk hz0 kX5_explore_79 ?_
          refine g_blk hz0 kX5_explore_83 ?_
          refine cS [8, 12] (wI6Z6 ((fun _ => 0, fun _ => (q.2 201)) : Rec) ((fun _ => 0, fun _ => (q.2 3)) : Rec)) (s_X5_outmost ((fun _ => 0, fun _ => (q.2 201)) : Rec) ((fun _ => 0, fun _ => (q.2 3)) : Rec) ((Int32.ofInt 0)) hp.1) rfl cwX5_outmost dX5_explore_90 rfl (hm54_QS_I6Z6 _ _) ((len_I6Z6 _ _).trans (len_I6Z6 _ _).symm) (wQS q s) (pw75_QS_I6Z6 _ _) ?_
          replace hp := hp.2
          refine g_blk hz0 kX5_explore_93 ?_
          refine cS [8, 12] (wI6Z6 ((fun _ => 0, fun _ => (q.2 201)) : Rec) ((fun _ => 0, fun _ => (q.2 3)) : Rec)) (s_X5_outmost ((fun _ => 0, fun _ => (q.2 201)) : Rec) ((fun _ => 0, fun _ => (q.2 3)) : Rec) ((Int32.ofInt 1)) hp.1) rfl cwX5_outmost dX5_explore_100 rfl (hm54_QS_I6Z6 _ _) ((len_I6Z6 _ _).trans (len_I6Z6 _ _).symm) (wQS q s) (pw75_QS_I6Z6 _ _) ?_
          replace hp := hp.2
          refine g_blk hz0 kX5_explore_103 ?_
          refine g_le (L2 := [some (.ref 0), some (.ref 14), some (.int (Int32.ofInt 1)), none, some (.int v4), none, none, none, some (.int (f_X5_outmost ((fun _ => 0, fun _ => (q.2 201)) : Rec) ((fun _ => 0, fun _ => (q.2 3)) : Rec) ((Int32.ofInt 1)))), some (.int ((f_X5_outmost ((fun _ => 0, fun _ => (q.2 201)) : Rec) ((fun _ => 0, fun _ => (q.2 3)) : Rec) ((Int32.ofInt 0))) + (Int32.ofInt 1)))]) ⟨rfl, rfl, rfl, rfl, rfl, rfl, trivial⟩ ?_
          exact l_X5_explore_c1_111 sc s zq (fun r0 r1 hp hq => ih r0 r1 hp hq) 4000000000 q v4 (f_X5_outmost ((fun _ => 0, fun _ => (q.2 201)) : Rec) ((fun _ => 0, fun _ => (q.2 3)) : Rec) ((Int32.ofInt 1))) ((f_X5_outmost ((fun _ => 0, fun _ => (q.2 201)) : Rec) ((fun _ => 0, fun _ => (q.2 3)) : Rec) ((Int32.ofInt 0))) + (Int32.ofInt 1)) hp hq
        · rw [if_pos (show v4 = 0 from c4)] at hq
          replace hp := hp.1 c4
          refine g_blk hz0 kX5_explore_72 ?_
          refine g_blk hz0 kX5_explore_83 ?_
          refine cS [8, 11] (wI6Z6 ((fun _ => 0, fun _ => (q.2 201)) : Rec) ((fun _ => 0, fun _ => (q.2 2)) : Rec)) (s_X5_outmost ((fun _ => 0, fun _ => (q.2 201)) : Rec) ((fun _ => 0, fun _ => (q.2 2)) : Rec) ((Int32.ofInt 0)) hp.1) rfl cwX5_outmost dX5_explore_90 rfl (hm53_QS_I6Z6 _ _) ((len_I6Z6 _ _).trans (len_I6Z6 _ _).symm) (wQS q s) (pw74_QS_I6Z6 _ _) ?_
          replace hp := hp.2
          refine g_blk hz0 kX5_explore_93 ?_
          refine cS [8, 11] (wI6Z6 ((fun _ => 0, fun _ => (q.2 201)) : Rec) ((fun _ => 0, fun _ => (q.2 2)) : Rec)) (s_X5_outmost ((fun _ => 0, fun _ => (q.2 201)) : Rec) ((fun _ => 0, fun _ => (q.2 2)) : Rec) ((Int32.ofInt 1)) hp.1) rfl cwX5_outmost dX5_explore_100 rfl (hm53_QS_I6Z6 _ _) ((len_I6Z6 _ _).trans (len_I6Z6 _ _).symm) (wQS q s) (pw74_QS_I6Z6 _ _) ?_
          replace hp := hp.2
          refine g_blk hz0 kX5_explore_103 ?_
          refine g_le (L2 := [some (.ref 0), some (.ref 14), some (.int (Int32.ofInt 1)), none, some (.int v4), none, none, none, some (.int (f_X5_outmost ((fun _ => 0, fun _ => (q.2 201)) : Rec) ((fun _ => 0, fun _ => (q.2 2)) : Rec) ((Int32.ofInt 1)))), some (.int ((f_X5_outmost ((fun _ => 0, fun _ => (q.2 201)) : Rec) ((fun _ => 0, fun _ => (q.2 2)) : Rec) ((Int32.ofInt 0))) + (Int32.ofInt 1)))]) ⟨rfl, rfl, rfl, rfl, rfl, rfl, trivial⟩ ?_
          exact l_X5_explore_c1_111 sc s zq (fun r0 r1 hp hq => ih r0 r1 hp hq) 4000000000 q v4 (f_X5_outmost ((fun _ => 0, fun _ => (q.2 201)) : Rec) ((fun _ => 0, fun _ => (q.2 2)) : Rec) ((Int32.ofInt 1))) ((f_X5_outmost ((fun _ => 0, fun _ => (q.2 201)) : Rec) ((fun _ => 0, fun _ => (q.2 2)) : Rec) ((Int32.ofInt 0))) + (Int32.ofInt 1)) hp hq
      · rw [if_pos (show v4 = 0 from c2)] at hq
        replace hp := hp.1 c2
        refine g_blk hz0 kX5_explore_50 ?_
        refine ⟨vinL (by decide), 3, rfl, ?_⟩
        refine g_blk hz0 kX5_explore_65 ?_
        refine ⟨fun c3 => ?_, fun c3 => ?_⟩
        · rw [if_neg (show ¬ (v4 = 0) from c3)] at hq
          replace hp := hp.2 c3
          refine g_blk hz0 kX5_explore_79 ?_
          refine g_blk hz0 kX5_explore_83 ?_
          refine cS [3, 12] (wI6Z6 ((fun _ => 0, fun _ => (q.2 101)) : Rec) ((fun _ => 0, fun _ => (q.2 3)) : Rec)) (s_X5_outmost ((fun _ => 0, fun _ => (q.2 101)) : Rec) ((fun _ => 0, fun _ => (q.2 3)) : Rec) ((Int32.ofInt 0)) hp.1) rfl cwX5_outmost dX5_explore_90 rfl (hm52_QS_I6Z6 _ _) ((len_I6Z6 _ _).trans (len_I6Z6 _ _).symm) (wQS q s) (pw73_QS_I6Z6 _ _) ?_
          replace hp := hp.2
          refine g_blk hz0 kX5_explore_93 ?_
          refine cS [3, 12] (wI6Z6 ((fun _ => 0, fun _ => (q.2 101)) : Rec) ((fun _ => 0, fun _ => (q.2 3)) : Rec)) (s_X5_outmost ((fun _ => 0, fun _ => (q.2 101)) : Rec) ((fun _ => 0, fun _ => (q.2 3)) : Rec) ((Int32.ofInt 1)) hp.1) rfl cwX5_outmost dX5_explore_100 rfl (hm52_QS_I6Z6 _ _) ((len_I6Z6 _ _).trans (len_I6Z6 _ _).symm) (wQS q s) (pw73_QS_I6Z6 _ _) ?_
          replace hp := hp.2
          refine g_blk hz0 kX5_explore_103 ?_
          refine g_le (L2 := [some (.ref 0), some (.ref 14), some (.int (Int32.ofInt 1)), none, some (.int v4), none, none, none, some (.int (f_X5_outmost ((fun _ => 0, fun _ => (q.2 101)) : Rec) ((fun _ => 0, fun _ => (q.2 3)) : Rec) ((Int32.ofInt 1)))), some (.int ((f_X5_outmost ((fun _ => 0, fun _ => (q.2 101)) : Rec) ((fun _ => 0, fun _ => (q.2 3)) : Rec) ((Int32.ofInt 0))) + (Int32.ofInt 1)))]) ⟨rfl, rfl, rfl, rfl, rfl, rfl, trivial⟩ ?_
          exact l_X5_explore_c1_111 sc s zq (fun r0 r1 hp hq => ih r0 r1 hp hq) 4000000000 q v4 (f_X5_outmost ((fun _ => 0, fun _ => (q.2 101)) : Rec) ((fun _ => 0, fun _ => (q.2 3)) : Rec) ((Int32.ofInt 1))) ((f_X5_outmost ((fun _ => 0, fun _ => (q.2 101)) : Rec) ((fun _ => 0, fun _ => (q.2 3)) : Rec) ((Int32.ofInt 0))) + (Int32.ofInt 1)) hp hq
        · rw [if_pos (show v4 = 0 from c3)] at hq
          replace hp := hp.1 c3
          refine g_blk hz0 kX5_explore_72 ?_
          refine g_blk hz0 kX5_explore_83 ?_
          refine cS [3, 11] (wI6Z6 ((fun _ => 0, fun _ => (q.2 101)) : Rec) ((fun _ => 0, fun _ => (q.2 2)) : Rec)) (s_X5_outmost ((fun _ => 0, fun _ => (q.2 101)) : Rec) ((fun _ => 0, fun _ => (q.2 2)) : Rec) ((Int32.ofInt 0)) hp.1) rfl cwX5_outmost dX5_explore_90 rfl (hm51_QS_I6Z6 _ _) ((len_I6Z6 _ _).trans (len_I6Z6 _ _).symm) (wQS q s) (pw72_QS_I6Z6 _ _) ?_
          replace hp := hp.2
          refine g_blk hz0 kX5_explore_93 ?_
          refine cS [3, 11] (wI6Z6 ((fun _ => 0, fun _ => (q.2 101)) : Rec) ((fun _ => 0, fun _ => (q.2 2)) : Rec)) (s_X5_outmost ((fun _ => 0, fun _ => (q.2 101)) : Rec) ((fun _ => 0, fun _ => (q.2 2)) : Rec) ((Int32.ofInt 1)) hp.1) rfl cwX5_outmost dX5_explore_100 rfl (hm51_QS_I6Z6 _ _) ((len_I6Z6 _ _).trans (len_I6Z6 _ _).symm) (wQS q s) (pw72_QS_I6Z6 _ _) ?_
          replace hp := hp.2
          refine g_blk hz0 kX5_explore_103 ?_
          refine g_le (L2 := [some (.ref 0), some (.ref 14), some (.int (Int32.ofInt 1)), none, some (.int v4), none, none, none, some (.int (f_X5_outmost ((fun _ => 0, fun _ => (q.2 101)) : Rec) ((fun _ => 0, fun _ => (q.2 2)) : Rec) ((Int32.ofInt 1)))), some (.int ((f_X5_outmost ((fun _ => 0, fun _ => (q.2 101)) : Rec) ((fun _ => 0, fun _ => (q.2 2)) : Rec) ((Int32.ofInt 0))) + (Int32.ofInt 1)))]) ⟨rfl, rfl, rfl, rfl, rfl, rfl, trivial⟩ ?_
          exact l_X5_explore_c1_111 sc s zq (fun r0 r1 hp hq => ih r0 r1 hp hq) 4000000000 q v4 (f_X5_outmost ((fun _ => 0, fun _ => (q.2 101)) : Rec) ((fun _ => 0, fun _ => (q.2 2)) : Rec) ((Int32.ofInt 1))) ((f_X5_outmost ((fun _ => 0, fun _ => (q.2 101)) : Rec) ((fun _ => 0, fun _ => (q.2 2)) : Rec) ((Int32.ofInt 0))) + (Int32.ofInt 1)) hp hq
def f_X5_explore_c1 (q : Rec) (s : Rec) (a : Int32) : Rec := (f_X5_explore_c1_34 4000000000 (setA q 4 (upd (q.2 4) (Int32.toNatClampNeg (Int32.ofInt 1)) (if (f_X5_positions_c1 q s) < ((q.2 4) (Int32.toNatClampNeg (Int32.ofInt 1))) then (f_X5_positions_c1 q s) else ((q.2 4) (Int32.toNatClampNeg (Int32.ofInt 1)))))) s a)
def p_X5_explore_c1 (q : Rec) (s : Rec) (a : Int32) : Prop := (p_X5_positions_c1 q s) ∧ (p_X5_explore_c1_34 4000000000 (setA q 4 (upd (q.2 4) (Int32.toNatClampNeg (Int32.ofInt 1)) (if (f_X5_positions_c1 q s) < ((q.2 4) (Int32.toNatClampNeg (Int32.ofInt 1))) then (f_X5_positions_c1 q s) else ((q.2 4) (Int32.toNatClampNeg (Int32.ofInt 1)))))) s a)
set_option maxHeartbeats 16000000 in
set_option maxRecDepth 20000 in
theorem s_X5_explore_c1 (q : Rec) (s : Rec) (a : Int32) (hp : p_X5_explore_c1 q s a) : Spec 5 0 0 mX5_explore [.ref 0, .ref 14, .int (Int32.ofInt 1), .int a] (wQS q s) (Ret none (wQS ((f_X5_explore_c1 q s a)) s)) := by
  obtain ⟨zq, hq⟩ : ∃ z, z = (f_X5_explore_c1 q s a) := ⟨_, rfl⟩
  rw [← hq]
  unfold f_X5_explore_c1 at hq
  unfold p_X5_explore_c1 at hp
  refine Sof fun sc => ?_
  refine g_blk hz0 kX5_explore_0 ?_
  refine cS0 (s_X8_within (Int32.ofInt 1) (Int32.ofInt 0) (Int32.ofInt 3)) rfl cwX8_within dX5_explore_3 rfl ?_
  refine g_blk hz0 kX5_explore_6 ?_
  refine ⟨fun _ => ?_, fun c => absurd c (by decide)⟩
  refine g_blk hz0 kX5_explore_10 ?_
  refine ⟨vinL (by decide), ?_⟩
  refine cVp [0, 1, 2, 3, 4, 5, 6, 7, 8, 9, 10, 11, 12, 13, 14, 15, 16, 17, 18, 19, 20] (wQS q s) (s_X5_positions_c1 q s hp.1) rfl cwX5_positions dX5_explore_24 rfl rfl (hm44_QS_QS _ _) ?_
  replace hp := hp.2
  refine g_min (by decide) hz0 (gw_mem (by decide +kernel)) (Nat.le_of_ble_eq_true rfl) dX5_explore_27 ?_
  refine g_blk hz0 kX5_explore_30 ?_
  refine ⟨vinL (by decide), ?_⟩
  refine g_le (L2 := [some (.ref 0), some (.ref 14), some (.int (Int32.ofInt 1)), none, some (.int a), none, none, none, none, none]) ⟨rfl, rfl, rfl, rfl, trivial⟩ ?_
  exact l_X5_explore_c1_34 sc s zq 4000000000 (setA q 4 (upd (q.2 4) (Int32.toNatClampNeg (Int32.ofInt 1)) (if (f_X5_positions_c1 q s) < ((q.2 4) (Int32.toNatClampNeg (Int32.ofInt 1))) then (f_X5_positions_c1 q s) else ((q.2 4) (Int32.toNatClampNeg (Int32.ofInt 1)))))) a hp hq

set_option maxHeartbeats 16000000 in
theorem hm57_QS_I6Z6 (q : Rec) (s : Rec) : [2, 11].map (lk (wQS q s)) = (wI6Z6 ((fun _ => 0, fun _ => q.2 100) : Rec) ((fun _ => 0, fun _ => q.2 2) : Rec)).map (fun e => some (ren [2, 11] e)) := rfl
set_option maxHeartbeats 16000000 in
theorem pw78_QS_I6Z6 (q : Rec) (s : Rec)  : putW (wQS q s) [2, 11] ((wI6Z6 ((fun _ => 0, fun _ => q.2 100) : Rec) ((fun _ => 0, fun _ => q.2 2) : Rec)).map (ren [2, 11])) = (wQS q s) := rfl
set_option maxHeartbeats 16000000 in
theorem hm58_QS_I6Z6 (q : Rec) (s : Rec) : [2, 12].map (lk (wQS q s)) = (wI6Z6 ((fun _ => 0, fun _ => q.2 100) : Rec) ((fun _ => 0, fun _ => q.2 3) : Rec)).map (fun e => some (ren [2, 12] e)) := rfl
set_option maxHeartbeats 16000000 in
theorem pw79_QS_I6Z6 (q : Rec) (s : Rec)  : putW (wQS q s) [2, 12] ((wI6Z6 ((fun _ => 0, fun _ => q.2 100) : Rec) ((fun _ => 0, fun _ => q.2 3) : Rec)).map (ren [2, 12])) = (wQS q s) := rfl
set_option maxHeartbeats 16000000 in
theorem hm59_QS_I6Z6 (q : Rec) (s : Rec) : [7, 11].map (lk (wQS q s)) = (wI6Z6 ((fun _ => 0, fun _ => q.2 200) : Rec) ((fun _ => 0, fun _ => q.2 2) : Rec)).map (fun e => some (ren [7, 11] e)) := rfl
set_option maxHeartbeats 16000000 in
theorem pw80_QS_I6Z6 (q : Rec) (s : Rec)  : putW (wQS q s) [7, 11] ((wI6Z6 ((fun _ => 0, fun _ => q.2 200) : Rec) ((fun _ => 0, fun _ => q.2 2) : Rec)).map (ren [7, 11])) = (wQS q s) := rfl
set_option maxHeartbeats 16000000 in
theorem hm60_QS_I6Z6 (q : Rec) (s : Rec) : [7, 12].map (lk (wQS q s)) = (wI6Z6 ((fun _ => 0, fun _ => q.2 200) : Rec) ((fun _ => 0, fun _ => q.2 3) : Rec)).map (fun e => some (ren [7, 12] e)) := rfl
set_option maxHeartbeats 16000000 in
theorem pw81_QS_I6Z6 (q : Rec) (s : Rec)  : putW (wQS q s) [7, 12] ((wI6Z6 ((fun _ => 0, fun _ => q.2 200) : Rec) ((fun _ => 0, fun _ => q.2 3) : Rec)).map (ren [7, 12])) = (wQS q s) := rfl
set_option maxHeartbeats 16000000 in
theorem hm61_QS_I6I6 (q : Rec) (s : Rec) : [2, 3].map (lk (wQS q s)) = (wI6I6 ((fun _ => 0, fun _ => q.2 100) : Rec) ((fun _ => 0, fun _ => q.2 101) : Rec)).map (fun e => some (ren [2, 3] e)) := rfl
set_option maxHeartbeats 16000000 in
theorem pw82_QS_I6I6 (q : Rec) (s : Rec) (b9 : Rec) : putW (wQS q s) [2, 3] ((wI6I6 ((fun _ => 0, fun _ => q.2 100) : Rec) b9).map (ren [2, 3])) = (wQS (setA q 101 (b9.2 0)) s) := rfl
set_option maxHeartbeats 16000000 in
theorem hm62_QS_I6I6 (q : Rec) (s : Rec) : [7, 8].map (lk (wQS q s)) = (wI6I6 ((fun _ => 0, fun _ => q.2 200) : Rec) ((fun _ => 0, fun _ => q.2 201) : Rec)).map (fun e => some (ren [7, 8] e)) := rfl
set_option maxHeartbeats 16000000 in
theorem pw83_QS_I6I6 (q : Rec) (s : Rec) (b9 : Rec) : putW (wQS q s) [7, 8] ((wI6I6 ((fun _ => 0, fun _ => q.2 200) : Rec) b9).map (ren [7, 8])) = (wQS (setA q 201 (b9.2 0)) s) := rfl
def f_X5_explore_c0_111 (K34 : Rec → Rec → Int32 → Rec) : Nat → Rec → Rec → Int32 → Int32 → Int32 → Rec
  | 0, q, s, v4, v8, v9 => q
  | n + 1, q, s, v4, v8, v9 => if v8 < v9 then (K34 q s (v4 + (Int32.ofInt 1))) else (if v4 = 0 then (if v4 = (Int32.ofInt 1) then (f_X5_explore_c0_111 K34 n (f_X5_explore_c1 (setA (setA q 101 ((f_X5_bend ((fun _ => 0, fun _ => (q.2 100)) : Rec) ((fun _ => 0, fun _ => (q.2 101)) : Rec) ((Int32.ofInt 1)) v9).2 0)) 201 ((f_X5_bend ((fun _ => 0, fun _ => (q.2 200)) : Rec) ((fun _ => 0, fun _ => (q.2 201)) : Rec) ((Int32.ofInt 1)) v9).2 0)) s v4) s v4 v8 (v9 + (Int32.ofInt 1))) else (f_X5_explore_c0_111 K34 n (f_X5_explore_c1 (setA (setA q 101 ((f_X5_bend ((fun _ => 0, fun _ => (q.2 100)) : Rec) ((fun _ => 0, fun _ => (q.2 101)) : Rec) ((Int32.ofInt 1)) v9).2 0)) 201 ((f_X5_bend ((fun _ => 0, fun _ => (q.2 200)) : Rec) ((fun _ => 0, fun _ => (q.2 201)) : Rec) ((Int32.ofInt 0)) v9).2 0)) s v4) s v4 v8 (v9 + (Int32.ofInt 1)))) else (if v4 = (Int32.ofInt 1) then (f_X5_explore_c0_111 K34 n (f_X5_explore_c1 (setA (setA q 101 ((f_X5_bend ((fun _ => 0, fun _ => (q.2 100)) : Rec) ((fun _ => 0, fun _ => (q.2 101)) : Rec) ((Int32.ofInt 0)) v9).2 0)) 201 ((f_X5_bend ((fun _ => 0, fun _ => (q.2 200)) : Rec) ((fun _ => 0, fun _ => (q.2 201)) : Rec) ((Int32.ofInt 1)) v9).2 0)) s v4) s v4 v8 (v9 + (Int32.ofInt 1))) else (f_X5_explore_c0_111 K34 n (f_X5_explore_c1 (setA (setA q 101 ((f_X5_bend ((fun _ => 0, fun _ => (q.2 100)) : Rec) ((fun _ => 0, fun _ => (q.2 101)) : Rec) ((Int32.ofInt 0)) v9).2 0)) 201 ((f_X5_bend ((fun _ => 0, fun _ => (q.2 200)) : Rec) ((fun _ => 0, fun _ => (q.2 201)) : Rec) ((Int32.ofInt 0)) v9).2 0)) s v4) s v4 v8 (v9 + (Int32.ofInt 1)))))
def p_X5_explore_c0_111 (G34 : Rec → Rec → Int32 → Prop) : Nat → Rec → Rec → Int32 → Int32 → Int32 → Prop
  | 0, _, _, _, _, _ => False
  | n + 1, q, s, v4, v8, v9 => (v8 < v9 → (G34 q s (v4 + (Int32.ofInt 1)))) ∧ (¬ (v8 < v9) → ((v4 = 0 → ((p_X5_bend ((fun _ => 0, fun _ => (q.2 100)) : Rec) ((fun _ => 0, fun _ => (q.2 101)) : Rec) ((Int32.ofInt 1)) v9) ∧ ((v4 = (Int32.ofInt 1) → ((p_X5_bend ((fun _ => 0, fun _ => (q.2 200)) : Rec) ((fun _ => 0, fun _ => (q.2 201)) : Rec) ((Int32.ofInt 1)) v9) ∧ ((p_X5_explore_c1 (setA (setA q 101 ((f_X5_bend ((fun _ => 0, fun _ => (q.2 100)) : Rec) ((fun _ => 0, fun _ => (q.2 101)) : Rec) ((Int32.ofInt 1)) v9).2 0)) 201 ((f_X5_bend ((fun _ => 0, fun _ => (q.2 200)) : Rec) ((fun _ => 0, fun _ => (q.2 201)) : Rec) ((Int32.ofInt 1)) v9).2 0)) s v4) ∧ (p_X5_explore_c0_111 G34 n (f_X5_explore_c1 (setA (setA q 101 ((f_X5_bend ((fun _ => 0, fun _ => (q.2 100)) : Rec) ((fun _ => 0, fun _ => (q.2 101)) : Rec) ((Int32.ofInt 1)) v9).2 0)) 201 ((f_X5_bend ((fun _ => 0, fun _ => (q.2 200)) : Rec) ((fun _ => 0, fun _ => (q.2 201)) : Rec) ((Int32.ofInt 1)) v9).2 0)) s v4) s v4 v8 (v9 + (Int32.ofInt 1)))))) ∧ (¬ (v4 = (Int32.ofInt 1)) → ((p_X5_bend ((fun _ => 0, fun _ => (q.2 200)) : Rec) ((fun _ => 0, fun _ => (q.2 201)) : Rec) ((Int32.ofInt 0)) v9) ∧ ((p_X5_explore_c1 (setA (setA q 101 ((f_X5_bend ((fun _ => 0, fun _ => (q.2 100)) : Rec) ((fun _ => 0, fun _ => (q.2 101)) : Rec) ((Int32.ofInt 1)) v9).2 0)) 201 ((f_X5_bend ((fun _ => 0, fun _ => (q.2 200)) : Rec) ((fun _ => 0, fun _ => (q.2 201)) : Rec) ((Int32.ofInt 0)) v9).2 0)) s v4) ∧ (p_X5_explore_c0_111 G34 n (f_X5_explore_c1 (setA (setA q 101 ((f_X5_bend ((fun _ => 0, fun _ => (q.2 100)) : Rec) ((fun _ => 0, fun _ => (q.2 101)) : Rec) ((Int32.ofInt 1)) v9).2 0)) 201 ((f_X5_bend ((fun _ => 0, fun _ => (q.2 200)) : Rec) ((fun _ => 0, fun _ => (q.2 201)) : Rec) ((Int32.ofInt 0)) v9).2 0)) s v4) s v4 v8 (v9 + (Int32.ofInt 1))))))))) ∧ (¬ (v4 = 0) → ((p_X5_bend ((fun _ => 0, fun _ => (q.2 100)) : Rec) ((fun _ => 0, fun _ => (q.2 101)) : Rec) ((Int32.ofInt 0)) v9) ∧ ((v4 = (Int32.ofInt 1) → ((p_X5_bend ((fun _ => 0, fun _ => (q.2 200)) : Rec) ((fun _ => 0, fun _ => (q.2 201)) : Rec) ((Int32.ofInt 1)) v9) ∧ ((p_X5_explore_c1 (setA (setA q 101 ((f_X5_bend ((fun _ => 0, fun _ => (q.2 100)) : Rec) ((fun _ => 0, fun _ => (q.2 101)) : Rec) ((Int32.ofInt 0)) v9).2 0)) 201 ((f_X5_bend ((fun _ => 0, fun _ => (q.2 200)) : Rec) ((fun _ => 0, fun _ => (q.2 201)) : Rec) ((Int32.ofInt 1)) v9).2 0)) s v4) ∧ (p_X5_explore_c0_111 G34 n (f_X5_explore_c1 (setA (setA q 101 ((f_X5_bend ((fun _ => 0, fun _ => (q.2 100)) : Rec) ((fun _ => 0, fun _ => (q.2 101)) : Rec) ((Int32.ofInt 0)) v9).2 0)) 201 ((f_X5_bend ((fun _ => 0, fun _ => (q.2 200)) : Rec) ((fun _ => 0, fun _ => (q.2 201)) : Rec) ((Int32.ofInt 1)) v9).2 0)) s v4) s v4 v8 (v9 + (Int32.ofInt 1)))))) ∧ (¬ (v4 = (Int32.ofInt 1)) → ((p_X5_bend ((fun _ => 0, fun _ => (q.2 200)) : Rec) ((fun _ => 0, fun _ => (q.2 201)) : Rec) ((Int32.ofInt 0)) v9) ∧ ((p_X5_explore_c1 (setA (setA q 101 ((f_X5_bend ((fun _ => 0, fun _ => (q.2 100)) : Rec) ((fun _ => 0, fun _ => (q.2 101)) : Rec) ((Int32.ofInt 0)) v9).2 0)) 201 ((f_X5_bend ((fun _ => 0, fun _ => (q.2 200)) : Rec) ((fun _ => 0, fun _ => (q.2 201)) : Rec) ((Int32.ofInt 0)) v9).2 0)) s v4) ∧ (p_X5_explore_c0_111 G34 n (f_X5_explore_c1 (setA (setA q 101 ((f_X5_bend ((fun _ => 0, fun _ => (q.2 100)) : Rec) ((fun _ => 0, fun _ => (q.2 101)) : Rec) ((Int32.ofInt 0)) v9).2 0)) 201 ((f_X5_bend ((fun _ => 0, fun _ => (q.2 200)) : Rec) ((fun _ => 0, fun _ => (q.2 201)) : Rec) ((Int32.ofInt 0)) v9).2 0)) s v4) s v4 v8 (v9 + (Int32.ofInt 1)))))))))))
set_option maxHeartbeats 16000000 in
set_option maxRecDepth 20000 in
theorem l_X5_explore_c0_111 (sc : SC) (s : Rec) {K34 : Rec → Rec → Int32 → Rec} {G34 : Rec → Rec → Int32 → Prop} (zq : Rec) (hK34 : ∀ (q : Rec) (v4 : Int32), G34 q s v4 → zq = K34 q s v4 → Good sc 6 0 0 21 mX5_explore (Ret none (wQS (zq) s)) 0 0 34 [some (.ref 0), some (.ref 14), some (.int (Int32.ofInt 0)), none, some (.int v4), none, none, none, none, none] [] (wQS q s)) : ∀ (n : Nat) (q : Rec) (v4 : Int32) (v8 : Int32) (v9 : Int32), p_X5_explore_c0_111 G34 n q s v4 v8 v9 → zq = f_X5_explore_c0_111 K34 n q s v4 v8 v9 → Good sc 6 0 0 21 mX5_explore (Ret none (wQS (zq) s)) 0 0 111 [some (.ref 0), some (.ref 14), some (.int (Int32.ofInt 0)), none, some (.int v4), none, none, none, some (.int v8), some (.int v9)] [] (wQS q s) := by
  intro n
  induction n with
  | zero => intro q v4 v8 v9 hp; exact hp.elim
  | succ n ih =>
    intro q v4 v8 v9 hp hq
    unfold p_X5_explore_c0_111 at hp
    unfold f_X5_explore_c0_111 at hq
    refine g_blk hz0 kX5_explore_111 ?_
    refine ⟨fun c5 => ?_, fun c5 => ?_⟩
    · rw [if_pos (show v8 < v9 from c5)] at hq
      replace hp := hp.1 c5
      refine g_blk hz0 kX5_explore_193 ?_
      refine g_le (L2 := [some (.ref 0), some (.ref 14), some (.int (Int32.ofInt 0)), none, some (.int (v4 + (Int32.ofInt 1))), none, none, none, none, none]) ⟨rfl, rfl, rfl, rfl, trivial⟩ ?_
      exact hK34 q (v4 + (Int32.ofInt 1)) hp hq
    · rw [if_neg (show ¬ (v8 < v9) from c5)] at hq
      replace hp := hp.2 c5
      refine g_blk hz0 kX5_explore_118 ?_
      refine ⟨vinL (by decide), 2, rfl, ?_⟩
      refine ⟨vinL (by decide), 3, rfl, ?_⟩
      refine ⟨fun c6 => ?_, fun c6 => ?_⟩
      · rw [if_neg (show ¬ (v4 = 0) from c6)] at hq
        replace hp := hp.2 c6
        refine g_blk hz0 kX5_explore_141 ?_
        refine g_blk hz0 kX5_explore_142 ?_
        refine cS [2, 3] (wI6I6 ((fun _ => 0, fun _ => (q.2 100)) : Rec) ((fun _ => 0, fun _ => (q.2 101)) : Rec)) (s_X5_bend ((fun _ => 0, fun _ => (q.2 100)) : Rec) ((fun _ => 0, fun _ => (q.2 101)) : Rec) ((Int32.ofInt 0)) v9 hp.1) rfl cwX5_bend dX5_explore_144 rfl (hm61_QS_I6I6 _ _) ((len_I6I6 _ _).trans (len_I6I6 _ _).symm) (wQS (setA q 101 ((f_X5_bend ((fun _ => 0, fun _ => (q.2 100)) : Rec) ((fun _ => 0, fun _ => (q.2 101)) : Rec) ((Int32.ofInt 0)) v9).2 0)) s) (pw82_QS_I6I6 _ _ _) ?_
        replace hp := hp.2
        obtain ⟨g13, hg13⟩ : ∃ z, z = (f_X5_bend ((fun _ => 0, fun _ => (q.2 100)) : Rec) ((fun _ => 0, fun _ => (q.2 101)) : Rec) ((Int32.ofInt 0)) v9) := ⟨_, rfl⟩
        try rw [← hg13] at hp
        try rw [← hg13] at hq
        rw [← hg13]
        refine g_blk hz0 kX5_explore_147 ?_
        refine ⟨vinL (by decide), 7, rfl, ?_⟩
        refine ⟨vinL (by decide), 8, rfl, ?_⟩
        refine ⟨fun c14 => ?_, fun c14 => ?_⟩
        · rw [if_neg (show ¬ (v4 = (Int32.ofInt 1)) from c14)] at hq
          replace hp := hp.2 c14
          refine g_blk hz0 kX5_explore_171 ?_
          refine g_blk hz0 kX5_explore_172 ?_
          refine cS [7, 8] (wI6I6 ((fun _ => 0, fun _ => (q.2 200)) : Rec) ((fun _ => 0, fun _ => (q.2 201)) : Rec)) (s_X5_bend ((fun _ => 0, fun _ => (q.2 200)) : Rec) ((fun _ => 0, fun _ => (q.2 201)) : Rec) ((Int32.ofInt 0)) v9 hp.1) rfl cwX5_bend dX5_explore_174 rfl (hm62_QS_I6I6 _ _) ((len_I6I6 _ _).trans (len_I6I6 _ _).symm) (wQS (setA (setA q 101 (g13.2 0)) 201 ((f_X5_bend ((fun _ => 0, fun _ => (q.2 200)) : Rec) ((fun _ => 0, fun _ => (q.2 201)) : Rec) ((Int32.ofInt 0)) v9).2 0)) s) (pw83_QS_I6I6 _ _ _) ?_
          replace hp := hp.2
          obtain ⟨g17, hg17⟩ : ∃ z, z = (f_X5_bend ((fun _ => 0, fun _ => (q.2 200)) : Rec) ((fun _ => 0, fun _ => (q.2 201)) : Rec) ((Int32.ofInt 0)) v9) := ⟨_, rfl⟩
          try rw [← hg17] at hp
          try rw [← hg17] at hq
          rw [← hg17]
          refine g_blk hz0 kX5_explore_177 ?_
          refine cV [0, 1, 2, 3, 4, 5, 6, 7, 8, 9, 10, 11, 12, 13, 14, 15, 16, 17, 18, 19, 20] (wQS (setA (setA q 101 (g13.2 0)) 201 (g17.2 0)) s) (s_X5_explore_c1 (setA (setA q 101 (g13.2 0)) 201 (g17.2 0)) s v4 hp.1) rfl cwX5_explore dX5_explore_184 rfl rfl (hm44_QS_QS _ _) ((len_QS _ _).trans (len_QS _ _).symm) (wQS (f_X5_explore_c1 (setA (setA q 101 (g13.2 0)) 201 (g17.2 0)) s v4) s) (pw71_QS_QS _ _ _) ?_
          replace hp := hp.2
          obtain ⟨g18, hg18⟩ : ∃ z, z = (f_X5_explore_c1 (setA (setA q 101 (g13.2 0)) 201 (g17.2 0)) s v4) := ⟨_, rfl⟩
          try rw [← hg18] at hp
          try rw [← hg18] at hq
          rw [← hg18]
          refine g_blk hz0 kX5_explore_187 ?_
          refine g_le (L2 := [some (.ref 0), some (.ref 14), some (.int (Int32.ofInt 0)), none, some (.int v4), none, none, none, some (.int v8), some (.int (v9 + (Int32.ofInt 1)))]) ⟨rfl, rfl, rfl, rfl, rfl, rfl, trivial⟩ ?_
          exact ih g18 v4 v8 (v9 + (Int32.ofInt 1)) hp hq
        · rw [if_pos (show v4 = (Int32.ofInt 1) from c14)] at hq
          replace hp := hp.1 c14
          refine g_blk hz0 kX5_explore_167 ?_
          refine g_blk hz0 kX5_explore_172 ?_
          refine cS [7, 8] (wI6I6 ((fun _ => 0, fun _ => (q.2 200)) : Rec) ((fun _ => 0, fun _ => (q.2 201)) : Rec)) (s_X5_bend ((fun _ => 0, fun _ => (q.2 200)) : Rec) ((fun _ => 0, fun _ => (q.2 201)) : Rec) ((Int32.ofInt 1)) v9 hp.1) rfl cwX5_bend dX5_explore_174 rfl (hm62_QS_I6I6 _ _) ((len_I6I6 _ _).trans (len_I6I6 _ _).symm) (wQS (setA (setA q 101 (g13.2 0)) 201 ((f_X5_bend ((fun _ => 0, fun _ => (q.2 200)) : Rec) ((fun _ => 0, fun _ => (q.2 201)) : Rec) ((Int32.ofInt 1)) v9).2 0)) s) (pw83_QS_I6I6 _ _ _) ?_
          replace hp := hp.2
          obtain ⟨g15, hg15⟩ : ∃ z, z = (f_X5_bend ((fun _ => 0, fun _ => (q.2 200)) : Rec) ((fun _ => 0, fun _ => (q.2 201)) : Rec) ((Int32.ofInt 1)) v9) := ⟨_, rfl⟩
          try rw [← hg15] at hp
          try rw [← hg15] at hq
          rw [← hg15]
          refine g_blk hz0 kX5_explore_177 ?_
          refine cV [0, 1, 2, 3, 4, 5, 6, 7, 8, 9, 10, 11, 12, 13, 14, 15, 16, 17, 18, 19, 20] (wQS (setA (setA q 101 (g13.2 0)) 201 (g15.2 0)) s) (s_X5_explore_c1 (setA (setA q 101 (g13.2 0)) 201 (g15.2 0)) s v4 hp.1) rfl cwX5_explore dX5_explore_184 rfl rfl (hm44_QS_QS _ _) ((len_QS _ _).trans (len_QS _ _).symm) (wQS (f_X5_explore_c1 (setA (setA q 101 (g13.2 0)) 201 (g15.2 0)) s v4) s) (pw71_QS_QS _ _ _) ?_
          replace hp := hp.2
          obtain ⟨g16, hg16⟩ : ∃ z, z = (f_X5_explore_c1 (setA (setA q 101 (g13.2 0)) 201 (g15.2 0)) s v4) := ⟨_, rfl⟩
          try rw [← hg16] at hp
          try rw [← hg16] at hq
          rw [← hg16]
          refine g_blk hz0 kX5_explore_187 ?_
          refine g_le (L2 := [some (.ref 0), some (.ref 14), some (.int (Int32.ofInt 0)), none, some (.int v4), none, none, none, some (.int v8), some (.int (v9 + (Int32.ofInt 1)))]) ⟨rfl, rfl, rfl, rfl, rfl, rfl, trivial⟩ ?_
          exact ih g16 v4 v8 (v9 + (Int32.ofInt 1)) hp hq
      · rw [if_pos (show v4 = 0 from c6)] at hq
        replace hp := hp.1 c6
        refine g_blk hz0 kX5_explore_137 ?_
        refine g_blk hz0 kX5_explore_142 ?_
        refine cS [2, 3] (wI6I6 ((fun _ => 0, fun _ => (q.2 100)) : Rec) ((fun _ => 0, fun _ => (q.2 101)) : Rec)) (s_X5_bend ((fun _ => 0, fun _ => (q.2 100)) : Rec) ((fun _ => 0, fun _ => (q.2 101)) : Rec) ((Int32.ofInt 1)) v9 hp.1) rfl cwX5_bend dX5_explore_144 rfl (hm61_QS_I6I6 _ _) ((len_I6I6 _ _).trans (len_I6I6 _ _).symm) (wQS (setA q 101 ((f_X5_bend ((fun _ => 0, fun _ => (q.2 100)) : Rec) ((fun _ => 0, fun _ => (q.2 101)) : Rec) ((Int32.ofInt 1)) v9).2 0)) s) (pw82_QS_I6I6 _ _ _) ?_
        replace hp := hp.2
        obtain ⟨g7, hg7⟩ : ∃ z, z = (f_X5_bend ((fun _ => 0, fun _ => (q.2 100)) : Rec) ((fun _ => 0, fun _ => (q.2 101)) : Rec) ((Int32.ofInt 1)) v9) := ⟨_, rfl⟩
        try rw [← hg7] at hp
        try rw [← hg7] at hq
        rw [← hg7]
        refine g_blk hz0 kX5_explore_147 ?_
        refine ⟨vinL (by decide), 7, rfl, ?_⟩
        refine ⟨vinL (by decide), 8, rfl, ?_⟩
        refine ⟨fun c8 => ?_, fun c8 => ?_⟩
        · rw [if_neg (show ¬ (v4 = (Int32.ofInt 1)) from c8)] at hq
          replace hp := hp.2 c8
          refine g_blk hz0 kX5_explore_171 ?_
          refine g_blk hz0 kX5_explore_172 ?_
          refine cS [7, 8] (wI6I6 ((fun _ => 0, fun _ => (q.2 200)) : Rec) ((fun _ => 0, fun _ => (q.2 201)) : Rec)) (s_X5_bend ((fun _ => 0, fun _ => (q.2 200)) : Rec) ((fun _ => 0, fun _ => (q.2 201)) : Rec) ((Int32.ofInt 0)) v9 hp.1) rfl cwX5_bend dX5_explore_174 rfl (hm62_QS_I6I6 _ _) ((len_I6I6 _ _).trans (len_I6I6 _ _).symm) (wQS (setA (setA q 101 (g7.2 0)) 201 ((f_X5_bend ((fun _ => 0, fun _ => (q.2 200)) : Rec) ((fun _ => 0, fun _ => (q.2 201)) : Rec) ((Int32.ofInt 0)) v9).2 0)) s) (pw83_QS_I6I6 _ _ _) ?_
          replace hp := hp.2
          obtain ⟨g11, hg11⟩ : ∃ z, z = (f_X5_bend ((fun _ => 0, fun _ => (q.2 200)) : Rec) ((fun _ => 0, fun _ => (q.2 201)) : Rec) ((Int32.ofInt 0)) v9) := ⟨_, rfl⟩
          try rw [← hg11] at hp
          try rw [← hg11] at hq
          rw [← hg11]
          refine g_blk hz0 kX5_explore_177 ?_
          refine cV [0, 1, 2, 3, 4, 5, 6, 7, 8, 9, 10, 11, 12, 13, 14, 15, 16, 17, 18, 19, 20] (wQS (setA (setA q 101 (g7.2 0)) 201 (g11.2 0)) s) (s_X5_explore_c1 (setA (setA q 101 (g7.2 0)) 201 (g11.2 0)) s v4 hp.1) rfl cwX5_explore dX5_explore_184 rfl rfl (hm44_QS_QS _ _) ((len_QS _ _).trans (len_QS _ _).symm) (wQS (f_X5_explore_c1 (setA (setA q 101 (g7.2 0)) 201 (g11.2 0)) s v4) s) (pw71_QS_QS _ _ _) ?_
          replace hp := hp.2
          obtain ⟨g12, hg12⟩ : ∃ z, z = (f_X5_explore_c1 (setA (setA q 101 (g7.2 0)) 201 (g11.2 0)) s v4) := ⟨_, rfl⟩
          try rw [← hg12] at hp
          try rw [← hg12] at hq
          rw [← hg12]
          refine g_blk hz0 kX5_explore_187 ?_
          refine g_le (L2 := [some (.ref 0), some (.ref 14), some (.int (Int32.ofInt 0)), none, some (.int v4), none, none, none, some (.int v8), some (.int (v9 + (Int32.ofInt 1)))]) ⟨rfl, rfl, rfl, rfl, rfl, rfl, trivial⟩ ?_
          exact ih g12 v4 v8 (v9 + (Int32.ofInt 1)) hp hq
        · rw [if_pos (show v4 = (Int32.ofInt 1) from c8)] at hq
          replace hp := hp.1 c8
          refine g_blk hz0 kX5_explore_167 ?_
          refine g_blk hz0 kX5_explore_172 ?_
          refine cS [7, 8] (wI6I6 ((fun _ => 0, fun _ => (q.2 200)) : Rec) ((fun _ => 0, fun _ => (q.2 201)) : Rec)) (s_X5_bend ((fun _ => 0, fun _ => (q.2 200)) : Rec) ((fun _ => 0, fun _ => (q.2 201)) : Rec) ((Int32.ofInt 1)) v9 hp.1) rfl cwX5_bend dX5_explore_174 rfl (hm62_QS_I6I6 _ _) ((len_I6I6 _ _).trans (len_I6I6 _ _).symm) (wQS (setA (setA q 101 (g7.2 0)) 201 ((f_X5_bend ((fun _ => 0, fun _ => (q.2 200)) : Rec) ((fun _ => 0, fun _ => (q.2 201)) : Rec) ((Int32.ofInt 1)) v9).2 0)) s) (pw83_QS_I6I6 _ _ _) ?_
          replace hp := hp.2
          obtain ⟨g9, hg9⟩ : ∃ z, z = (f_X5_bend ((fun _ => 0, fun _ => (q.2 200)) : Rec) ((fun _ => 0, fun _ => (q.2 201)) : Rec) ((Int32.ofInt 1)) v9) := ⟨_, rfl⟩
          try rw [← hg9] at hp
          try rw [← hg9] at hq
          rw [← hg9]
          refine g_blk hz0 kX5_explore_177 ?_
          refine cV [0, 1, 2, 3, 4, 5, 6, 7, 8, 9, 10, 11, 12, 13, 14, 15, 16, 17, 18, 19, 20] (wQS (setA (setA q 101 (g7.2 0)) 201 (g9.2 0)) s) (s_X5_explore_c1 (setA (setA q 101 (g7.2 0)) 201 (g9.2 0)) s v4 hp.1) rfl cwX5_explore dX5_explore_184 rfl rfl (hm44_QS_QS _ _) ((len_QS _ _).trans (len_QS _ _).symm) (wQS (f_X5_explore_c1 (setA (setA q 101 (g7.2 0)) 201 (g9.2 0)) s v4) s) (pw71_QS_QS _ _ _) ?_
          replace hp := hp.2
          obtain ⟨g10, hg10⟩ : ∃ z, z = (f_X5_explore_c1 (setA (setA q 101 (g7.2 0)) 201 (g9.2 0)) s v4) := ⟨_, rfl⟩
          try rw [← hg10] at hp
          try rw [← hg10] at hq
          rw [← hg10]
          refine g_blk hz0 kX5_explore_187 ?_
          refine g_le (L2 := [some (.ref 0), some (.ref 14), some (.int (Int32.ofInt 0)), none, some (.int v4), none, none, none, some (.int v8), some (.int (v9 + (Int32.ofInt 1)))]) ⟨rfl, rfl, rfl, rfl, rfl, rfl, trivial⟩ ?_
          exact ih g10 v4 v8 (v9 + (Int32.ofInt 1)) hp hq
def f_X5_explore_c0_34  : Nat → Rec → Rec → Int32 → Rec
  | 0, q, s, v4 => q
  | n + 1, q, s, v4 => if (Int32.ofInt 1) < v4 then q else (if v4 = 0 then (if v4 = 0 then (f_X5_explore_c0_111 (f_X5_explore_c0_34 n) 4000000000 q s v4 (f_X5_outmost ((fun _ => 0, fun _ => (q.2 100)) : Rec) ((fun _ => 0, fun _ => (q.2 2)) : Rec) ((Int32.ofInt 1))) ((f_X5_outmost ((fun _ => 0, fun _ => (q.2 100)) : Rec) ((fun _ => 0, fun _ => (q.2 2)) : Rec) ((Int32.ofInt 0))) + (Int32.ofInt 1))) else (f_X5_explore_c0_111 (f_X5_explore_c0_34 n) 4000000000 q s v4 (f_X5_outmost ((fun _ => 0, fun _ => (q.2 100)) : Rec) ((fun _ => 0, fun _ => (q.2 3)) : Rec) ((Int32.ofInt 1))) ((f_X5_outmost ((fun _ => 0, fun _ => (q.2 100)) : Rec) ((fun _ => 0, fun _ => (q.2 3)) : Rec) ((Int32.ofInt 0))) + (Int32.ofInt 1)))) else (if v4 = 0 then (f_X5_explore_c0_111 (f_X5_explore_c0_34 n) 4000000000 q s v4 (f_X5_outmost ((fun _ => 0, fun _ => (q.2 200)) : Rec) ((fun _ => 0, fun _ => (q.2 2)) : Rec) ((Int32.ofInt 1))) ((f_X5_outmost ((fun _ => 0, fun _ => (q.2 200)) : Rec) ((fun _ => 0, fun _ => (q.2 2)) : Rec) ((Int32.ofInt 0))) + (Int32.ofInt 1))) else (f_X5_explore_c0_111 (f_X5_explore_c0_34 n) 4000000000 q s v4 (f_X5_outmost ((fun _ => 0, fun _ => (q.2 200)) : Rec) ((fun _ => 0, fun _ => (q.2 3)) : Rec) ((Int32.ofInt 1))) ((f_X5_outmost ((fun _ => 0, fun _ => (q.2 200)) : Rec) ((fun _ => 0, fun _ => (q.2 3)) : Rec) ((Int32.ofInt 0))) + (Int32.ofInt 1)))))
def p_X5_explore_c0_34  : Nat → Rec → Rec → Int32 → Prop
  | 0, _, _, _ => False
  | n + 1, q, s, v4 => ((Int32.ofInt 1) < v4 → True) ∧ (¬ ((Int32.ofInt 1) < v4) → ((v4 = 0 → ((v4 = 0 → ((p_X5_outmost ((fun _ => 0, fun _ => (q.2 100)) : Rec) ((fun _ => 0, fun _ => (q.2 2)) : Rec) ((Int32.ofInt 0))) ∧ ((p_X5_outmost ((fun _ => 0, fun _ => (q.2 100)) : Rec) ((fun _ => 0, fun _ => (q.2 2)) : Rec) ((Int32.ofInt 1))) ∧ (p_X5_explore_c0_111 (p_X5_explore_c0_34 n) 4000000000 q s v4 (f_X5_outmost ((fun _ => 0, fun _ => (q.2 100)) : Rec) ((fun _ => 0, fun _ => (q.2 2)) : Rec) ((Int32.ofInt 1))) ((f_X5_outmost ((fun _ => 0, fun _ => (q.2 100)) : Rec) ((fun _ => 0, fun _ => (q.2 2)) : Rec) ((Int32.ofInt 0))) + (Int32.ofInt 1)))))) ∧ (¬ (v4 = 0) → ((p_X5_outmost ((fun _ => 0, fun _ => (q.2 100)) : Rec) ((fun _ => 0, fun _ => (q.2 3)) : Rec) ((Int32.ofInt 0))) ∧ ((p_X5_outmost ((fun _ => 0, fun _ => (q.2 100)) : Rec) ((fun _ => 0, fun _ => (q.2 3)) : Rec) ((Int32.ofInt 1))) ∧ (p_X5_explore_c0_111 (p_X5_explore_c0_34 n) 4000000000 q s v4 (f_X5_outmost ((fun _ => 0, fun _ => (q.2 100)) : Rec) ((fun _ => 0, fun _ => (q.2 3)) : Rec) ((Int32.ofInt 1))) ((f_X5_outmost ((fun _ => 0, fun _ => (q.2 100)) : Rec) ((fun _ => 0, fun _ => (q.2 3)) : Rec) ((Int32.ofInt 0))) + (Int32.ofInt 1)))))))) ∧ (¬ (v4 = 0) → ((v4 = 0 → ((p_X5_outmost ((fun _ => 0, fun _ => (q.2 200)) : Rec) ((fun _ => 0, fun _ => (q.2 2)) : Rec) ((Int32.ofInt 0))) ∧ ((p_X5_outmost ((fun _ => 0, fun _ => (q.2 200)) : Rec) ((fun _ => 0, fun _ => (q.2 2)) : Rec) ((Int32.ofInt 1))) ∧ (p_X5_explore_c0_111 (p_X5_explore_c0_34 n) 4000000000 q s v4 (f_X5_outmost ((fun _ => 0, fun _ => (q.2 200)) : Rec) ((fun _ => 0, fun _ => (q.2 2)) : Rec) ((Int32.ofInt 1))) ((f_X5_outmost ((fun _ => 0, fun _ => (q.2 200)) : Rec) ((fun _ => 0, fun _ => (q.2 2)) : Rec) ((Int32.ofInt 0))) + (Int32.ofInt 1)))))) ∧ (¬ (v4 = 0) → ((p_X5_outmost ((fun _ => 0, fun _ => (q.2 200)) : Rec) ((fun _ => 0, fun _ => (q.2 3)) : Rec) ((Int32.ofInt 0))) ∧ ((p_X5_outmost ((fun _ => 0, fun _ => (q.2 200)) : Rec) ((fun _ => 0, fun _ => (q.2 3)) : Rec) ((Int32.ofInt 1))) ∧ (p_X5_explore_c0_111 (p_X5_explore_c0_34 n) 4000000000 q s v4 (f_X5_outmost ((fun _ => 0, fun _ => (q.2 200)) : Rec) ((fun _ => 0, fun _ => (q.2 3)) : Rec) ((Int32.ofInt 1))) ((f_X5_outmost ((fun _ => 0, fun _ => (q.2 200)) : Rec) ((fun _ => 0, fun _ => (q.2 3)) : Rec) ((Int32.ofInt 0))) + (Int32.ofInt 1))))))))))
set_option maxHeartbeats 16000000 in
set_option maxRecDepth 20000 in
theorem l_X5_explore_c0_34 (sc : SC) (s : Rec)  (zq : Rec)  : ∀ (n : Nat) (q : Rec) (v4 : Int32), p_X5_explore_c0_34 n q s v4 → zq = f_X5_explore_c0_34 n q s v4 → Good sc 6 0 0 21 mX5_explore (Ret none (wQS (zq) s)) 0 0 34 [some (.ref 0), some (.ref 14), some (.int (Int32.ofInt 0)), none, some (.int v4), none, none, none, none, none] [] (wQS q s) := by
  intro n
  induction n with
  | zero => intro q v4 hp; exact hp.elim
  | succ n ih =>
    intro q v4 hp hq
    unfold p_X5_explore_c0_34 at hp
    unfold f_X5_explore_c0_34 at hq
    refine g_blk hz0 kX5_explore_34 ?_
    refine ⟨fun c1 => ?_, fun c1 => ?_⟩
    · rw [if_pos (show (Int32.ofInt 1) < v4 from c1)] at hq
      refine g_blk hz0 kX5_explore_199 ?_
      subst hq
      exact ⟨rfl, rfl⟩
    · rw [if_neg (show ¬ ((Int32.ofInt 1) < v4) from c1)] at hq
      replace hp := hp.2 c1
      refine g_blk hz0 kX5_explore_40 ?_
      refine ⟨fun c => absurd c (by decide), fun _ => ?_⟩
      refine g_blk hz0 kX5_explore_45 ?_
      refine ⟨fun c2 => ?_, fun c2 => ?_⟩
      · rw [if_neg (show ¬ (v4 = 0) from c2)] at hq
        replace hp := hp.2 c2
        refine g_blk hz0 kX5_explore_59 ?_
        refine ⟨vinL (by decide), 7, rfl, ?_⟩
        refine g_blk hz0 kX5_explore_65 ?_
        refine ⟨fun c4 => ?_, fun c4 => ?_⟩
        · rw [if_neg (show ¬ (v4 = 0) from c4)] at hq
          replace hp := hp.2 c4
          refine g_blk hz0 kX5_explore_79 ?_
          refine g_blk hz0 kX5_explore_83 ?_
          refine cS [7, 12] (wI6Z6 ((fun _ => 0, fun _ => (q.2 200)) : Rec) ((fun _ => 0, fun _ => (q.2 3)) : Rec)) (s_X5_outmost ((fun _ => 0, fun _ => (q.2 200)) : Rec) ((fun _ => 0, fun _ => (q.2 3)) : Rec) ((Int32.ofInt 0)) hp.1) rfl cwX5_outmost dX5_explore_90 rfl (hm60_QS_I6Z6 _ _) ((len_I6Z6 _ _).trans (len_I6Z6 _ _).symm) (wQS q s) (pw81_QS_I6Z6 _ _) ?_
          replace hp := hp.2
          refine g_blk hz0 kX5_explore_93 ?_
          refine cS [7, 12] (wI6Z6 ((fun _ => 0, fun _ => (q.2 200)) : Rec) ((fun _ => 0, fun _ => (q.2 3)) : Rec)) (s_X5_outmost ((fun _ => 0, fun _ => (q.2 200)) : Rec) ((fun _ => 0, fun _ => (q.2 3)) : Rec) ((Int32.ofInt 1)) hp.1) rfl cwX5_outmost dX5_explore_100 rfl (hm60_QS_I6Z6 _ _) ((len_I6Z6 _ _).trans (len_I6Z6 _ _).symm) (wQS q s) (pw81_QS_I6Z6 _ _) ?_
          replace hp := hp.2
          refine g_blk hz0 kX5_explore_103 ?_
          refine g_le (L2 := [some (.ref 0), some (.ref 14), some (.int (Int32.ofInt 0)), none, some (.int v4), none, none, none, some (.int (f_X5_outmost ((fun _ => 0, fun _ => (q.2 200)) : Rec) ((fun _ => 0, fun _ => (q.2 3)) : Rec) ((Int32.ofInt 1)))), some (.int ((f_X5_outmost ((fun _ => 0, fun _ => (q.2 200)) : Rec) ((fun _ => 0, fun _ => (q.2 3)) : Rec) ((Int32.ofInt 0))) + (Int32.ofInt 1)))]) ⟨rfl, rfl, rfl, rfl, rfl, rfl, trivial⟩ ?_
          exact l_X5_explore_c0_111 sc s zq (fun r0 r1 hp hq => ih r0 r1 hp hq) 4000000000 q v4 (f_X5_outmost ((fun _ => 0, fun _ => (q.2 200)) : Rec) ((fun _ => 0, fun _ => (q.2 3)) : Rec) ((Int32.ofInt 1))) ((f_X5_outmost ((fun _ => 0, fun _ => (q.2 200)) : Rec) ((fun _ => 0, fun _ => (q.2 3)) : Rec) ((Int32.ofInt 0))) + (Int32.ofInt 1)) hp hq
        · rw [if_pos (show v4 = 0 from c4)] at hq
          replace hp := hp.1 c4
          refine g_blk hz0 kX5_explore_72 ?_
          refine g_blk hz0 kX5_explore_83 ?_
          refine cS [7, 11] (wI6Z6 ((fun _ => 0, fun _ => (q.2 200)) : Rec) ((fun _ => 0, fun _ => (q.2 2)) : Rec)) (s_X5_outmost ((fun _ => 0, fun _ => (q.2 200)) : Rec) ((fun _ => 0, fun _ => (q.2 2)) : Rec) ((Int32.ofInt 0)) hp.1) rfl cwX5_outmost dX5_explore_90 rfl (hm59_QS_I6Z6 _ _) ((len_I6Z6 _ _).trans (len_I6Z6 _ _).symm) (wQS q s) (pw80_QS_I6Z6 _ _) ?_
          replace hp := hp.2
          refine g_blk hz0 kX5_explore_93 ?_
          refine cS [7, 11] (wI6Z6 ((fun _ => 0, fun _ => (q.2 200)) : Rec) ((fun _ => 0, fun _ => (q.2 2)) : Rec)) (s_X5_outmost ((fun _ => 0, fun _ => (q.2 200)) : Rec) ((fun _ => 0, fun _ => (q.2 2)) : Rec) ((Int32.ofInt 1)) hp.1) rfl cwX5_outmost dX5_explore_100 rfl (hm59_QS_I6Z6 _ _) ((len_I6Z6 _ _).trans (len_I6Z6 _ _).symm) (wQS q s) (pw80_QS_I6Z6 _ _) ?_
          replace hp := hp.2
          refine g_blk hz0 kX5_explore_103 ?_
          refine g_le (L2 := [some (.ref 0), some (.ref 14), some (.int (Int32.ofInt 0)), none, some (.int v4), none, none, none, some (.int (f_X5_outmost ((fun _ => 0, fun _ => (q.2 200)) : Rec) ((fun _ => 0, fun _ => (q.2 2)) : Rec) ((Int32.ofInt 1)))), some (.int ((f_X5_outmost ((fun _ => 0, fun _ => (q.2 200)) : Rec) ((fun _ => 0, fun _ => (q.2 2)) : Rec) ((Int32.ofInt 0))) + (Int32.ofInt 1)))]) ⟨rfl, rfl, rfl, rfl, rfl, rfl, trivial⟩ ?_
          exact l_X5_explore_c0_111 sc s zq (fun r0 r1 hp hq => ih r0 r1 hp hq) 4000000000 q v4 (f_X5_outmost ((fun _ => 0, fun _ => (q.2 200)) : Rec) ((fun _ => 0, fun _ => (q.2 2)) : Rec) ((Int32.ofInt 1))) ((f_X5_outmost ((fun _ => 0, fun _ => (q.2 200)) : Rec) ((fun _ => 0, fun _ => (q.2 2)) : Rec) ((Int32.ofInt 0))) + (Int32.ofInt 1)) hp hq
      · rw [if_pos (show v4 = 0 from c2)] at hq
        replace hp := hp.1 c2
        refine g_blk hz0 kX5_explore_50 ?_
        refine ⟨vinL (by decide), 2, rfl, ?_⟩
        refine g_blk hz0 kX5_explore_65 ?_
        refine ⟨fun c3 => ?_, fun c3 => ?_⟩
        · rw [if_neg (show ¬ (v4 = 0) from c3)] at hq
          replace hp := hp.2 c3
          refine g_blk hz0 kX5_explore_79 ?_
          refine g_blk hz0 kX5_explore_83 ?_
          refine cS [2, 12] (wI6Z6 ((fun _ => 0, fun _ => (q.2 100)) : Rec) ((fun _ => 0, fun _ => (q.2 3)) : Rec)) (s_X5_outmost ((fun _ => 0, fun _ => (q.2 100)) : Rec) ((fun _ => 0, fun _ => (q.2 3)) : Rec) ((Int32.ofInt 0)) hp.1) rfl cwX5_outmost dX5_explore_90 rfl (hm58_QS_I6Z6 _ _) ((len_I6Z6 _ _).trans (len_I6Z6 _ _).symm) (wQS q s) (pw79_QS_I6Z6 _ _) ?_
          replace hp := hp.2
          refine g_blk hz0 kX5_explore_93 ?_
          refine cS [2, 12] (wI6Z6 ((fun _ => 0, fun _ => (q.2 100)) : Rec) ((fun _ => 0, fun _ => (q.2 3)) : Rec)) (s_X5_outmost ((fun _ => 0, fun _ => (q.2 100)) : Rec) ((fun _ => 0, fun _ => (q.2 3)) : Rec) ((Int32.ofInt 1)) hp.1) rfl cwX5_outmost dX5_explore_100 rfl (hm58_QS_I6Z6 _ _) ((len_I6Z6 _ _).trans (len_I6Z6 _ _).symm) (wQS q s) (pw79_QS_I6Z6 _ _) ?_
          replace hp := hp.2
          refine g_blk hz0 kX5_explore_103 ?_
          refine g_le (L2 := [some (.ref 0), some (.ref 14), some (.int (Int32.ofInt 0)), none, some (.int v4), none, none, none, some (.int (f_X5_outmost ((fun _ => 0, fun _ => (q.2 100)) : Rec) ((fun _ => 0, fun _ => (q.2 3)) : Rec) ((Int32.ofInt 1)))), some (.int ((f_X5_outmost ((fun _ => 0, fun _ => (q.2 100)) : Rec) ((fun _ => 0, fun _ => (q.2 3)) : Rec) ((Int32.ofInt 0))) + (Int32.ofInt 1)))]) ⟨rfl, rfl, rfl, rfl, rfl, rfl, trivial⟩ ?_
          exact l_X5_explore_c0_111 sc s zq (fun r0 r1 hp hq => ih r0 r1 hp hq) 4000000000 q v4 (f_X5_outmost ((fun _ => 0, fun _ => (q.2 100)) : Rec) ((fun _ => 0, fun _ => (q.2 3)) : Rec) ((Int32.ofInt 1))) ((f_X5_outmost ((fun _ => 0, fun _ => (q.2 100)) : Rec) ((fun _ => 0, fun _ => (q.2 3)) : Rec) ((Int32.ofInt 0))) + (Int32.ofInt 1)) hp hq
        · rw [if_pos (show v4 = 0 from c3)] at hq
          replace hp := hp.1 c3
          refine g_blk hz0 kX5_explore_72 ?_
          refine g_blk hz0 kX5_explore_83 ?_
          refine cS [2, 11] (wI6Z6 ((fun _ => 0, fun _ => (q.2 100)) : Rec) ((fun _ => 0, fun _ => (q.2 2)) : Rec)) (s_X5_outmost ((fun _ => 0, fun _ => (q.2 100)) : Rec) ((fun _ => 0, fun _ => (q.2 2)) : Rec) ((Int32.ofInt 0)) hp.1) rfl cwX5_outmost dX5_explore_90 rfl (hm57_QS_I6Z6 _ _) ((len_I6Z6 _ _).trans (len_I6Z6 _ _).symm) (wQS q s) (pw78_QS_I6Z6 _ _) ?_
          replace hp := hp.2
          refine g_blk hz0 kX5_explore_93 ?_
          refine cS [2, 11] (wI6Z6 ((fun _ => 0, fun _ => (q.2 100)) : Rec) ((fun _ => 0, fun _ => (q.2 2)) : Rec)) (s_X5_outmost ((fun _ => 0, fun _ => (q.2 100)) : Rec) ((fun _ => 0, fun _ => (q.2 2)) : Rec) ((Int32.ofInt 1)) hp.1) rfl cwX5_outmost dX5_explore_100 rfl (hm57_QS_I6Z6 _ _) ((len_I6Z6 _ _).trans (len_I6Z6 _ _).symm) (wQS q s) (pw78_QS_I6Z6 _ _) ?_
          replace hp := hp.2
          refine g_blk hz0 kX5_explore_103 ?_
          refine g_le (L2 := [some (.ref 0), some (.ref 14), some (.int (Int32.ofInt 0)), none, some (.int v4), none, none, none, some (.int (f_X5_outmost ((fun _ => 0, fun _ => (q.2 100)) : Rec) ((fun _ => 0, fun _ => (q.2 2)) : Rec) ((Int32.ofInt 1)))), some (.int ((f_X5_outmost ((fun _ => 0, fun _ => (q.2 100)) : Rec) ((fun _ => 0, fun _ => (q.2 2)) : Rec) ((Int32.ofInt 0))) + (Int32.ofInt 1)))]) ⟨rfl, rfl, rfl, rfl, rfl, rfl, trivial⟩ ?_
          exact l_X5_explore_c0_111 sc s zq (fun r0 r1 hp hq => ih r0 r1 hp hq) 4000000000 q v4 (f_X5_outmost ((fun _ => 0, fun _ => (q.2 100)) : Rec) ((fun _ => 0, fun _ => (q.2 2)) : Rec) ((Int32.ofInt 1))) ((f_X5_outmost ((fun _ => 0, fun _ => (q.2 100)) : Rec) ((fun _ => 0, fun _ => (q.2 2)) : Rec) ((Int32.ofInt 0))) + (Int32.ofInt 1)) hp hq
def f_X5_explore_c0 (q : Rec) (s : Rec) (a : Int32) : Rec := (f_X5_explore_c0_34 4000000000 (setA q 4 (upd (q.2 4) (Int32.toNatClampNeg (Int32.ofInt 0)) (if (f_X5_positions_c0 q s) < ((q.2 4) (Int32.toNatClampNeg (Int32.ofInt 0))) then (f_X5_positions_c0 q s) else ((q.2 4) (Int32.toNatClampNeg (Int32.ofInt 0)))))) s a)
def p_X5_explore_c0 (q : Rec) (s : Rec) (a : Int32) : Prop := (p_X5_positions_c0 q s) ∧ (p_X5_explore_c0_34 4000000000 (setA q 4 (upd (q.2 4) (Int32.toNatClampNeg (Int32.ofInt 0)) (if (f_X5_positions_c0 q s) < ((q.2 4) (Int32.toNatClampNeg (Int32.ofInt 0))) then (f_X5_positions_c0 q s) else ((q.2 4) (Int32.toNatClampNeg (Int32.ofInt 0)))))) s a)
set_option maxHeartbeats 16000000 in
set_option maxRecDepth 20000 in
theorem s_X5_explore_c0 (q : Rec) (s : Rec) (a : Int32) (hp : p_X5_explore_c0 q s a) : Spec 6 0 0 mX5_explore [.ref 0, .ref 14, .int (Int32.ofInt 0), .int a] (wQS q s) (Ret none (wQS ((f_X5_explore_c0 q s a)) s)) := by
  obtain ⟨zq, hq⟩ : ∃ z, z = (f_X5_explore_c0 q s a) := ⟨_, rfl⟩
  rw [← hq]
  unfold f_X5_explore_c0 at hq
  unfold p_X5_explore_c0 at hp
  refine Sof fun sc => ?_
  refine g_blk hz0 kX5_explore_0 ?_
  refine cS0 (s_X8_within (Int32.ofInt 0) (Int32.ofInt 0) (Int32.ofInt 3)) rfl cwX8_within dX5_explore_3 rfl ?_
  refine g_blk hz0 kX5_explore_6 ?_
  refine ⟨fun _ => ?_, fun c => absurd c (by decide)⟩
  refine g_blk hz0 kX5_explore_10 ?_
  refine ⟨vinL (by decide), ?_⟩
  refine cVp [0, 1, 2, 3, 4, 5, 6, 7, 8, 9, 10, 11, 12, 13, 14, 15, 16, 17, 18, 19, 20] (wQS q s) (s_X5_positions_c0 q s hp.1) rfl cwX5_positions dX5_explore_24 rfl rfl (hm44_QS_QS _ _) ?_
  replace hp := hp.2
  refine g_min (by decide) hz0 (gw_mem (by decide +kernel)) (Nat.le_of_ble_eq_true rfl) dX5_explore_27 ?_
  refine g_blk hz0 kX5_explore_30 ?_
  refine ⟨vinL (by decide), ?_⟩
  refine g_le (L2 := [some (.ref 0), some (.ref 14), some (.int (Int32.ofInt 0)), none, some (.int a), none, none, none, none, none]) ⟨rfl, rfl, rfl, rfl, trivial⟩ ?_
  exact l_X5_explore_c0_34 sc s zq 4000000000 (setA q 4 (upd (q.2 4) (Int32.toNatClampNeg (Int32.ofInt 0)) (if (f_X5_positions_c0 q s) < ((q.2 4) (Int32.toNatClampNeg (Int32.ofInt 0))) then (f_X5_positions_c0 q s) else ((q.2 4) (Int32.toNatClampNeg (Int32.ofInt 0)))))) a hp hq

def f_X5_survey_90  : Nat → Rec → Rec → Int32 → Rec
  | 0, q, s, v2 => q
  | n + 1, q, s, v2 => if (Int32.ofInt 3) < v2 then (f_X5_explore_c0 q s ((Int32.ofInt 0))) else (f_X5_survey_90 n (setA q 4 (upd (q.2 4) (Int32.toNatClampNeg v2) (Int32.ofInt 37))) s (v2 + (Int32.ofInt 1)))
def p_X5_survey_90  : Nat → Rec → Rec → Int32 → Prop
  | 0, _, _, _ => False
  | n + 1, q, s, v2 => ((Int32.ofInt 3) < v2 → ((p_X5_explore_c0 q s ((Int32.ofInt 0))) ∧ True)) ∧ (¬ ((Int32.ofInt 3) < v2) → (vp_in v2 4 ∧ (p_X5_survey_90 n (setA q 4 (upd (q.2 4) (Int32.toNatClampNeg v2) (Int32.ofInt 37))) s (v2 + (Int32.ofInt 1)))))
set_option maxHeartbeats 16000000 in
set_option maxRecDepth 20000 in
theorem l_X5_survey_90 (sc : SC) (s : Rec)  (zq : Rec)  : ∀ (n : Nat) (q : Rec) (v2 : Int32), p_X5_survey_90 n q s v2 → zq = f_X5_survey_90 n q s v2 → Good sc 7 0 0 21 mX5_survey (Ret none (wQS (zq) s)) 0 0 90 [some (.ref 0), some (.ref 14), some (.int v2)] [] (wQS q s) := by
  intro n
  induction n with
  | zero => intro q v2 hp; exact hp.elim
  | succ n ih =>
    intro q v2 hp hq
    unfold p_X5_survey_90 at hp
    unfold f_X5_survey_90 at hq
    refine g_blk hz0 kX5_survey_90 ?_
    refine ⟨fun c4 => ?_, fun c4 => ?_⟩
    · rw [if_pos (show (Int32.ofInt 3) < v2 from c4)] at hq
      replace hp := hp.1 c4
      refine g_blk hz0 kX5_survey_109 ?_
      refine cV [0, 1, 2, 3, 4, 5, 6, 7, 8, 9, 10, 11, 12, 13, 14, 15, 16, 17, 18, 19, 20] (wQS q s) (s_X5_explore_c0 q s ((Int32.ofInt 0)) hp.1) rfl cwX5_explore dX5_survey_113 rfl rfl (hm44_QS_QS _ _) ((len_QS _ _).trans (len_QS _ _).symm) (wQS (f_X5_explore_c0 q s ((Int32.ofInt 0))) s) (pw71_QS_QS _ _ _) ?_
      replace hp := hp.2
      obtain ⟨g5, hg5⟩ : ∃ z, z = (f_X5_explore_c0 q s ((Int32.ofInt 0))) := ⟨_, rfl⟩
      try rw [← hg5] at hp
      try rw [← hg5] at hq
      rw [← hg5]
      refine g_blk hz0 kX5_survey_116 ?_
      subst hq
      exact ⟨rfl, rfl⟩
    · rw [if_neg (show ¬ ((Int32.ofInt 3) < v2) from c4)] at hq
      replace hp := hp.2 c4
      refine g_blk hz0 kX5_survey_95 ?_
      refine ⟨hp.1, ?_⟩
      replace hp := hp.2
      refine g_le (L2 := [some (.ref 0), some (.ref 14), some (.int (v2 + (Int32.ofInt 1)))]) ⟨rfl, rfl, rfl, trivial⟩ ?_
      exact ih (setA q 4 (upd (q.2 4) (Int32.toNatClampNeg v2) (Int32.ofInt 37))) (v2 + (Int32.ofInt 1)) hp hq
def f_X5_survey_48  : Nat → Rec → Rec → Int32 → Rec
  | 0, q, s, v2 => q
  | n + 1, q, s, v2 => if (Int32.ofInt 36) ≤ v2 then (f_X5_survey_90 40 q s ((Int32.ofInt 0))) else (if (f_X4_has s v2) = 0 then (f_X5_survey_48 n q s (v2 + (Int32.ofInt 1))) else (f_X5_survey_48 n (setA (setA q 2 (upd (q.2 2) (Int32.toNatClampNeg (v2 - v2 / (Int32.ofInt 6) * (Int32.ofInt 6))) (Int32.ofInt 1))) 3 (upd (q.2 3) (Int32.toNatClampNeg (v2 / (Int32.ofInt 6))) (Int32.ofInt 1))) s (v2 + (Int32.ofInt 1))))
def p_X5_survey_48  : Nat → Rec → Rec → Int32 → Prop
  | 0, _, _, _ => False
  | n + 1, q, s, v2 => ((Int32.ofInt 36) ≤ v2 → (p_X5_survey_90 40 q s ((Int32.ofInt 0)))) ∧ (¬ ((Int32.ofInt 36) ≤ v2) → ((p_X4_has s v2) ∧ (((f_X4_has s v2) = 0 → (p_X5_survey_48 n q s (v2 + (Int32.ofInt 1)))) ∧ (¬ ((f_X4_has s v2) = 0) → (vp_in (v2 - v2 / (Int32.ofInt 6) * (Int32.ofInt 6)) 6 ∧ (vp_in (v2 / (Int32.ofInt 6)) 6 ∧ (p_X5_survey_48 n (setA (setA q 2 (upd (q.2 2) (Int32.toNatClampNeg (v2 - v2 / (Int32.ofInt 6) * (Int32.ofInt 6))) (Int32.ofInt 1))) 3 (upd (q.2 3) (Int32.toNatClampNeg (v2 / (Int32.ofInt 6))) (Int32.ofInt 1))) s (v2 + (Int32.ofInt 1)))))))))
set_option maxHeartbeats 16000000 in
set_option maxRecDepth 20000 in
theorem l_X5_survey_48 (sc : SC) (s : Rec)  (zq : Rec)  : ∀ (n : Nat) (q : Rec) (v2 : Int32), p_X5_survey_48 n q s v2 → zq = f_X5_survey_48 n q s v2 → Good sc 7 0 0 21 mX5_survey (Ret none (wQS (zq) s)) 0 0 48 [some (.ref 0), some (.ref 14), some (.int v2)] [] (wQS q s) := by
  intro n
  induction n with
  | zero => intro q v2 hp; exact hp.elim
  | succ n ih =>
    intro q v2 hp hq
    unfold p_X5_survey_48 at hp
    unfold f_X5_survey_48 at hq
    refine g_blk hz0 kX5_survey_48 ?_
    refine ⟨fun c2 => ?_, fun c2 => ?_⟩
    · rw [if_pos (show (Int32.ofInt 36) ≤ v2 from c2)] at hq
      replace hp := hp.1 c2
      refine g_blk hz0 kX5_survey_88 ?_
      refine g_le (L2 := [some (.ref 0), some (.ref 14), some (.int (Int32.ofInt 0))]) ⟨rfl, rfl, rfl, trivial⟩ ?_
      exact l_X5_survey_90 sc s zq 40 q ((Int32.ofInt 0)) hp hq
    · rw [if_neg (show ¬ ((Int32.ofInt 36) ≤ v2) from c2)] at hq
      replace hp := hp.2 c2
      refine g_blk hz0 kX5_survey_54 ?_
      refine cVp [14, 15, 16, 17, 18, 19, 20] (wS s) (s_X4_has s v2 hp.1) rfl cwX4_has dX5_survey_56 rfl rfl (hm35_QS_S _ _) ?_
      replace hp := hp.2
      refine g_blk hz0 kX5_survey_59 ?_
      refine ⟨fun c3 => ?_, fun c3 => ?_⟩
      · rw [if_pos (show (f_X4_has s v2) = 0 from c3)] at hq
        replace hp := hp.1 c3
        refine g_blk hz0 kX5_survey_82 ?_
        refine g_le (L2 := [some (.ref 0), some (.ref 14), some (.int (v2 + (Int32.ofInt 1)))]) ⟨rfl, rfl, rfl, trivial⟩ ?_
        exact ih q (v2 + (Int32.ofInt 1)) hp hq
      · rw [if_neg (show ¬ ((f_X4_has s v2) = 0) from c3)] at hq
        replace hp := hp.2 c3
        refine g_blk hz0 kX5_survey_62 ?_
        refine ⟨by decide, ?_⟩
        refine ⟨hp.1, ?_⟩
        replace hp := hp.2
        refine ⟨Or.inr rfl, ?_⟩
        refine ⟨by decide, ?_⟩
        refine ⟨hp.1, ?_⟩
        replace hp := hp.2
        refine ⟨Or.inr rfl, ?_⟩
        refine g_blk hz0 kX5_survey_82 ?_
        refine g_le (L2 := [some (.ref 0), some (.ref 14), some (.int (v2 + (Int32.ofInt 1)))]) ⟨rfl, rfl, rfl, trivial⟩ ?_
        exact ih (setA (setA q 2 (upd (q.2 2) (Int32.toNatClampNeg (v2 - v2 / (Int32.ofInt 6) * (Int32.ofInt 6))) (Int32.ofInt 1))) 3 (upd (q.2 3) (Int32.toNatClampNeg (v2 / (Int32.ofInt 6))) (Int32.ofInt 1))) (v2 + (Int32.ofInt 1)) hp hq
def f_X5_survey_2  : Nat → Rec → Rec → Int32 → Rec
  | 0, q, s, v2 => q
  | n + 1, q, s, v2 => if (Int32.ofInt 6) ≤ v2 then (f_X5_survey_48 40 q s ((Int32.ofInt 0))) else (f_X5_survey_2 n (setA (setA (setA (setA q 2 (upd (q.2 2) (Int32.toNatClampNeg v2) (Int32.ofInt 0))) 3 (upd (q.2 3) (Int32.toNatClampNeg v2) (Int32.ofInt 0))) 100 (upd (q.2 100) (Int32.toNatClampNeg v2) v2)) 200 (upd (q.2 200) (Int32.toNatClampNeg v2) v2)) s (v2 + (Int32.ofInt 1)))
def p_X5_survey_2  : Nat → Rec → Rec → Int32 → Prop
  | 0, _, _, _ => False
  | n + 1, q, s, v2 => ((Int32.ofInt 6) ≤ v2 → (p_X5_survey_48 40 q s ((Int32.ofInt 0)))) ∧ (¬ ((Int32.ofInt 6) ≤ v2) → (vp_in v2 6 ∧ (vp_in v2 6 ∧ (vp_in v2 6 ∧ (vp_in v2 6 ∧ (p_X5_survey_2 n (setA (setA (setA (setA q 2 (upd (q.2 2) (Int32.toNatClampNeg v2) (Int32.ofInt 0))) 3 (upd (q.2 3) (Int32.toNatClampNeg v2) (Int32.ofInt 0))) 100 (upd (q.2 100) (Int32.toNatClampNeg v2) v2)) 200 (upd (q.2 200) (Int32.toNatClampNeg v2) v2)) s (v2 + (Int32.ofInt 1))))))))
set_option maxHeartbeats 16000000 in
set_option maxRecDepth 20000 in
theorem l_X5_survey_2 (sc : SC) (s : Rec)  (zq : Rec)  : ∀ (n : Nat) (q : Rec) (v2 : Int32), p_X5_survey_2 n q s v2 → zq = f_X5_survey_2 n q s v2 → Good sc 7 0 0 21 mX5_survey (Ret none (wQS (zq) s)) 0 0 2 [some (.ref 0), some (.ref 14), some (.int v2)] [] (wQS q s) := by
  intro n
  induction n with
  | zero => intro q v2 hp; exact hp.elim
  | succ n ih =>
    intro q v2 hp hq
    unfold p_X5_survey_2 at hp
    unfold f_X5_survey_2 at hq
    refine g_blk hz0 kX5_survey_2 ?_
    refine ⟨fun c1 => ?_, fun c1 => ?_⟩
    · rw [if_pos (show (Int32.ofInt 6) ≤ v2 from c1)] at hq
      replace hp := hp.1 c1
      refine g_blk hz0 kX5_survey_46 ?_
      refine g_le (L2 := [some (.ref 0), some (.ref 14), some (.int (Int32.ofInt 0))]) ⟨rfl, rfl, rfl, trivial⟩ ?_
      exact l_X5_survey_48 sc s zq 40 q ((Int32.ofInt 0)) hp hq
    · rw [if_neg (show ¬ ((Int32.ofInt 6) ≤ v2) from c1)] at hq
      replace hp := hp.2 c1
      refine g_blk hz0 kX5_survey_8 ?_
      refine ⟨vinL (by decide), 2, rfl, ?_⟩
      refine ⟨hp.1, ?_⟩
      replace hp := hp.2
      refine ⟨vinL (by decide), 7, rfl, ?_⟩
      refine ⟨hp.1, ?_⟩
      replace hp := hp.2
      refine ⟨hp.1, ?_⟩
      replace hp := hp.2
      refine ⟨Or.inl rfl, ?_⟩
      refine ⟨hp.1, ?_⟩
      replace hp := hp.2
      refine ⟨Or.inl rfl, ?_⟩
      refine g_le (L2 := [some (.ref 0), some (.ref 14), some (.int (v2 + (Int32.ofInt 1)))]) ⟨rfl, rfl, rfl, trivial⟩ ?_
      exact ih (setA (setA (setA (setA q 2 (upd (q.2 2) (Int32.toNatClampNeg v2) (Int32.ofInt 0))) 3 (upd (q.2 3) (Int32.toNatClampNeg v2) (Int32.ofInt 0))) 100 (upd (q.2 100) (Int32.toNatClampNeg v2) v2)) 200 (upd (q.2 200) (Int32.toNatClampNeg v2) v2)) (v2 + (Int32.ofInt 1)) hp hq
def f_X5_survey (q : Rec) (s : Rec)  : Rec := (f_X5_survey_2 40 q s ((Int32.ofInt 0)))
def p_X5_survey (q : Rec) (s : Rec)  : Prop := (p_X5_survey_2 40 q s ((Int32.ofInt 0)))
set_option maxHeartbeats 16000000 in
set_option maxRecDepth 20000 in
theorem s_X5_survey (q : Rec) (s : Rec)  (hp : p_X5_survey q s) : Spec 7 0 0 mX5_survey [.ref 0, .ref 14] (wQS q s) (Ret none (wQS ((f_X5_survey q s)) s)) := by
  obtain ⟨zq, hq⟩ : ∃ z, z = (f_X5_survey q s) := ⟨_, rfl⟩
  rw [← hq]
  unfold f_X5_survey at hq
  unfold p_X5_survey at hp
  refine Sof fun sc => ?_
  refine g_blk hz0 kX5_survey_0 ?_
  refine g_le (L2 := [some (.ref 0), some (.ref 14), some (.int (Int32.ofInt 0))]) ⟨rfl, rfl, rfl, trivial⟩ ?_
  exact l_X5_survey_2 sc s zq 40 q ((Int32.ofInt 0)) hp hq

def f_X5_fewestFolds_19  : Nat → Rec → Rec → Int32 → Int32 → Int32 × Rec
  | 0, q, s, v2, v3 => (0, q)
  | n + 1, q, s, v2, v3 => if (Int32.ofInt 3) < v3 then ((Int32.ofInt (-1)), q) else (if v2 < ((q.2 4) (Int32.toNatClampNeg v3)) then (f_X5_fewestFolds_19 n q s v2 (v3 + (Int32.ofInt 1))) else (v3, q))
def p_X5_fewestFolds_19  : Nat → Rec → Rec → Int32 → Int32 → Prop
  | 0, _, _, _, _ => False
  | n + 1, q, s, v2, v3 => ((Int32.ofInt 3) < v3 → True) ∧ (¬ ((Int32.ofInt 3) < v3) → (vp_in v3 4 ∧ ((v2 < ((q.2 4) (Int32.toNatClampNeg v3)) → (p_X5_fewestFolds_19 n q s v2 (v3 + (Int32.ofInt 1)))) ∧ (¬ (v2 < ((q.2 4) (Int32.toNatClampNeg v3))) → True))))
set_option maxHeartbeats 16000000 in
set_option maxRecDepth 20000 in
theorem l_X5_fewestFolds_19 (sc : SC) (s : Rec)  (zq : Int32 × Rec)  : ∀ (n : Nat) (q : Rec) (v2 : Int32) (v3 : Int32), p_X5_fewestFolds_19 n q s v2 v3 → zq = f_X5_fewestFolds_19 n q s v2 v3 → Good sc 8 0 0 21 mX5_fewestFolds (Ret (some (.int (zq.1))) (wQS (zq.2) s)) 0 0 19 [some (.ref 0), none, some (.int v2), some (.int v3)] [] (wQS q s) := by
  intro n
  induction n with
  | zero => intro q v2 v3 hp; exact hp.elim
  | succ n ih =>
    intro q v2 v3 hp hq
    unfold p_X5_fewestFolds_19 at hp
    unfold f_X5_fewestFolds_19 at hq
    refine g_blk hz0 kX5_fewestFolds_19 ?_
    refine ⟨fun c3 => ?_, fun c3 => ?_⟩
    · rw [if_pos (show (Int32.ofInt 3) < v3 from c3)] at hq
      refine g_blk hz0 kX5_fewestFolds_42 ?_
      subst hq
      exact ⟨fun h => (by cases h), rfl, rfl⟩
    · rw [if_neg (show ¬ ((Int32.ofInt 3) < v3) from c3)] at hq
      replace hp := hp.2 c3
      refine g_blk hz0 kX5_fewestFolds_24 ?_
      refine ⟨hp.1, ?_⟩
      replace hp := hp.2
      refine ⟨fun c4 => ?_, fun c4 => ?_⟩
      · rw [if_pos (show v2 < ((q.2 4) (Int32.toNatClampNeg v3)) from c4)] at hq
        replace hp := hp.1 c4
        refine g_blk hz0 kX5_fewestFolds_36 ?_
        refine g_le (L2 := [some (.ref 0), none, some (.int v2), some (.int (v3 + (Int32.ofInt 1)))]) ⟨rfl, rfl, rfl, trivial⟩ ?_
        exact ih q v2 (v3 + (Int32.ofInt 1)) hp hq
      · rw [if_neg (show ¬ (v2 < ((q.2 4) (Int32.toNatClampNeg v3))) from c4)] at hq
        refine g_blk hz0 kX5_fewestFolds_34 ?_
        subst hq
        exact ⟨fun h => (by cases h), rfl, rfl⟩
def f_X5_fewestFolds (q : Rec) (s : Rec) (k1 : Int32) : Int32 × Rec := if (q.1 5) = 0 then (f_X5_fewestFolds_19 40 (setG (f_X5_survey q s) 5 ((Int32.ofInt 1))) s k1 ((Int32.ofInt 0))) else (f_X5_fewestFolds_19 40 q s k1 ((Int32.ofInt 0)))
def p_X5_fewestFolds (q : Rec) (s : Rec) (k1 : Int32) : Prop := ((q.1 5) = 0 → ((p_X5_survey q s) ∧ (p_X5_fewestFolds_19 40 (setG (f_X5_survey q s) 5 ((Int32.ofInt 1))) s k1 ((Int32.ofInt 0))))) ∧ (¬ ((q.1 5) = 0) → (p_X5_fewestFolds_19 40 q s k1 ((Int32.ofInt 0))))
set_option maxHeartbeats 16000000 in
set_option maxRecDepth 20000 in
theorem s_X5_fewestFolds (q : Rec) (s : Rec) (k1 : Int32) (hp : p_X5_fewestFolds q s k1) : Spec 8 0 0 mX5_fewestFolds [.ref 0, .ref 14, .int k1] (wQS q s) (Ret (some (.int ((f_X5_fewestFolds q s k1).1))) (wQS ((f_X5_fewestFolds q s k1).2) s)) := by
  obtain ⟨zq, hq⟩ : ∃ z, z = (f_X5_fewestFolds q s k1) := ⟨_, rfl⟩
  rw [← hq]
  unfold f_X5_fewestFolds at hq
  unfold p_X5_fewestFolds at hp
  refine Sof fun sc => ?_
  refine g_blk hz0 kX5_fewestFolds_0 ?_
  refine ⟨fun c1 => ?_, fun c1 => ?_⟩
  · rw [if_neg (show ¬ ((q.1 5) = 0) from c1)] at hq
    replace hp := hp.2 c1
    refine g_blk hz0 kX5_fewestFolds_17 ?_
    refine g_le (L2 := [some (.ref 0), none, some (.int k1), some (.int (Int32.ofInt 0))]) ⟨rfl, rfl, rfl, trivial⟩ ?_
    exact l_X5_fewestFolds_19 sc s zq 40 q k1 ((Int32.ofInt 0)) hp hq
  · rw [if_pos (show (q.1 5) = 0 from c1)] at hq
    replace hp := hp.1 c1
    refine g_blk hz0 kX5_fewestFolds_7 ?_
    refine cV [0, 1, 2, 3, 4, 5, 6, 7, 8, 9, 10, 11, 12, 13, 14, 15, 16, 17, 18, 19, 20] (wQS q s) (s_X5_survey q s hp.1) rfl cwX5_survey dX5_fewestFolds_9 rfl rfl (hm44_QS_QS _ _) ((len_QS _ _).trans (len_QS _ _).symm) (wQS (f_X5_survey q s) s) (pw71_QS_QS _ _ _) ?_
    replace hp := hp.2
    obtain ⟨g2, hg2⟩ : ∃ z, z = (f_X5_survey q s) := ⟨_, rfl⟩
    try rw [← hg2] at hp
    try rw [← hg2] at hq
    rw [← hg2]
    refine g_blk hz0 kX5_fewestFolds_12 ?_
    refine ⟨fun _ => Or.inr rfl, Or.inr rfl, ?_⟩
    refine g_blk hz0 kX5_fewestFolds_17 ?_
    refine g_le (L2 := [some (.ref 0), none, some (.int k1), some (.int (Int32.ofInt 0))]) ⟨rfl, rfl, rfl, trivial⟩ ?_
    exact l_X5_fewestFolds_19 sc s zq 40 (setG g2 5 ((Int32.ofInt 1))) k1 ((Int32.ofInt 0)) hp hq
