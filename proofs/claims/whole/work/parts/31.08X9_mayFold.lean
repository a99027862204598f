set_option maxHeartbeats 16000000 in
theorem pw1_M_M (m : Rec)  : putW (wM m) [0, 1, 2, 3, 4, 5, 6, 7, 8, 9, 10, 11, 12, 13, 14, 15, 16] ((wM m).map (ren [0, 1, 2, 3, 4, 5, 6, 7, 8, 9, 10, 11, 12, 13, 14, 15, 16])) = (wM m) := rfl
def f_X9_mayFold_9  : Nat → Rec → Int32 → Int32 → Int32 → Int32 → Int32 → Int32 → Int32
  | 0, m, v1, v2, v3, v4, v5, v6 => 0
  | n + 1, m, v1, v2, v3, v4, v5, v6 => if (Int32.ofInt 36) ≤ v6 then (if v4 ≤ 0 then (Int32.ofInt 0) else (if v5 ≤ v4 then (Int32.ofInt 0) else (Int32.ofInt 1))) else (if (f_X9_isCell m v6) = 0 then (f_X9_mayFold_9 n m v1 v2 v3 v4 v5 (v6 + (Int32.ofInt 1))) else (if (f_X9_moves m v6 v1 v2 v3) = 0 then (f_X9_mayFold_9 n m v1 v2 v3 (v4 + (Int32.ofInt 0)) (v5 + (Int32.ofInt 1)) (v6 + (Int32.ofInt 1))) else (f_X9_mayFold_9 n m v1 v2 v3 (v4 + (Int32.ofInt 1)) (v5 + (Int32.ofInt 1)) (v6 + (Int32.ofInt 1)))))
def p_X9_mayFold_9  : Nat → Rec → Int32 → Int32 → Int32 → Int32 → Int32 → Int32 → Prop
  | 0, _, _, _, _, _, _, _ => False
  | n + 1, m, v1, v2, v3, v4, v5, v6 => ((Int32.ofInt 36) ≤ v6 → True) ∧ (¬ ((Int32.ofInt 36) ≤ v6) → ((p_X9_isCell m v6) ∧ (((f_X9_isCell m v6) = 0 → (p_X9_mayFold_9 n m v1 v2 v3 v4 v5 (v6 + (Int32.ofInt 1)))) ∧ (¬ ((f_X9_isCell m v6) = 0) → ((p_X9_moves m v6 v1 v2 v3) ∧ (((f_X9_moves m v6 v1 v2 v3) = 0 → (p_X9_mayFold_9 n m v1 v2 v3 (v4 + (Int32.ofInt 0)) (v5 + (Int32.ofInt 1)) (v6 + (Int32.ofInt 1)))) ∧ (¬ ((f_X9_moves m v6 v1 v2 v3) = 0) → (p_X9_mayFold_9 n m v1 v2 v3 (v4 + (Int32.ofInt 1)) (v5 + (Int32.ofInt 1)) (v6 + (Int32.ofInt 1))))))))))
set_option maxHeartbeats 16000000 in
set_option maxRecDepth 20000 in
theorem l_X9_mayFold_9 (sc : SC) (m : Rec)  (zq : Int32)  : ∀ (n : Nat)  (v1 : Int32) (v2 : Int32) (v3 : Int32) (v4 : Int32) (v5 : Int32) (v6 : Int32), p_X9_mayFold_9 n m v1 v2 v3 v4 v5 v6 → zq = f_X9_mayFold_9 n m v1 v2 v3 v4 v5 v6 → Good sc 2 0 0 17 mX9_mayFold (Ret (some (.int (zq))) (wM m)) 0 0 9 [some (.ref 0), some (.int v1), some (.int v2), some (.int v3), some (.int v4), some (.int v5), some (.int v6)] [] (wM m) := by
  intro n
  induction n with
  | zero => intro v1 v2 v3 v4 v5 v6 hp; exact hp.elim
  | succ n ih =>
    intro v1 v2 v3 v4 v5 v6 hp hq
    unfold p_X9_mayFold_9 at hp
    unfold f_X9_mayFold_9 at hq
    refine g_blk hz0 kX9_mayFold_9 ?_
    refine ⟨fun c1 => ?_, fun c1 => ?_⟩
    · rw [if_pos (show (Int32.ofInt 36) ≤ v6 from c1)] at hq
      refine g_blk hz0 kX9_mayFold_56 ?_
      refine ⟨fun c2 => ?_, fun c2 => ?_⟩
      · rw [if_pos (show v4 ≤ 0 from c2)] at hq
        refine g_blk hz0 kX9_mayFold_72 ?_
        refine g_blk hz0 kX9_mayFold_73 ?_
        subst hq
        exact ⟨fun _ => Or.inl rfl, rfl, rfl⟩
      · rw [if_neg (show ¬ (v4 ≤ 0) from c2)] at hq
        refine g_blk hz0 kX9_mayFold_61 ?_
        refine ⟨fun c3 => ?_, fun c3 => ?_⟩
        · rw [if_pos (show v5 ≤ v4 from c3)] at hq
          refine g_blk hz0 kX9_mayFold_72 ?_
          refine g_blk hz0 kX9_mayFold_73 ?_
          subst hq
          exact ⟨fun _ => Or.inl rfl, rfl, rfl⟩
        · rw [if_neg (show ¬ (v5 ≤ v4) from c3)] at hq
          refine g_blk hz0 kX9_mayFold_68 ?_
          refine g_blk hz0 kX9_mayFold_73 ?_
          subst hq
          exact ⟨fun _ => Or.inr rfl, rfl, rfl⟩
    · rw [if_neg (show ¬ ((Int32.ofInt 36) ≤ v6) from c1)] at hq
      replace hp := hp.2 c1
      refine g_blk hz0 kX9_mayFold_16 ?_
      refine cVp [0, 1, 2, 3, 4, 5, 6, 7, 8, 9, 10, 11, 12, 13, 14, 15, 16] (wM m) (s_X9_isCell m v6 hp.1) rfl cwX9_isCell dX9_mayFold_19 rfl rfl (hm0_M_M _) ?_
      replace hp := hp.2
      refine g_blk hz0 kX9_mayFold_22 ?_
      refine ⟨fun c4 => ?_, fun c4 => ?_⟩
      · rw [if_pos (show (f_X9_isCell m v6) = 0 from c4)] at hq
        replace hp := hp.1 c4
        refine g_blk hz0 kX9_mayFold_50 ?_
        refine g_le (L2 := [some (.ref 0), some (.int v1), some (.int v2), some (.int v3), some (.int v4), some (.int v5), some (.int (v6 + (Int32.ofInt 1)))]) ⟨rfl, rfl, rfl, rfl, rfl, rfl, rfl, trivial⟩ ?_
        exact ih v1 v2 v3 v4 v5 (v6 + (Int32.ofInt 1)) hp hq
      · rw [if_neg (show ¬ ((f_X9_isCell m v6) = 0) from c4)] at hq
        replace hp := hp.2 c4
        refine g_blk hz0 kX9_mayFold_25 ?_
        refine cVp [0, 1, 2, 3, 4, 5, 6, 7, 8, 9, 10, 11, 12, 13, 14, 15, 16] (wM m) (s_X9_moves m v6 v1 v2 v3 hp.1) rfl cwX9_moves dX9_mayFold_36 rfl rfl (hm0_M_M _) ?_
        replace hp := hp.2
        refine g_blk hz0 kX9_mayFold_39 ?_
        refine ⟨fun c5 => ?_, fun c5 => ?_⟩
        · rw [if_pos (show (f_X9_moves m v6 v1 v2 v3) = 0 from c5)] at hq
          replace hp := hp.1 c5
          refine g_blk hz0 kX9_mayFold_46 ?_
          refine g_blk hz0 kX9_mayFold_47 ?_
          refine g_blk hz0 kX9_mayFold_50 ?_
          refine g_le (L2 := [some (.ref 0), some (.int v1), some (.int v2), some (.int v3), some (.int (v4 + (Int32.ofInt 0))), some (.int (v5 + (Int32.ofInt 1))), some (.int (v6 + (Int32.ofInt 1)))]) ⟨rfl, rfl, rfl, rfl, rfl, rfl, rfl, trivial⟩ ?_
          exact ih v1 v2 v3 (v4 + (Int32.ofInt 0)) (v5 + (Int32.ofInt 1)) (v6 + (Int32.ofInt 1)) hp hq
        · rw [if_neg (show ¬ ((f_X9_moves m v6 v1 v2 v3) = 0) from c5)] at hq
          replace hp := hp.2 c5
          refine g_blk hz0 kX9_mayFold_42 ?_
          refine g_blk hz0 kX9_mayFold_47 ?_
          refine g_blk hz0 kX9_mayFold_50 ?_
          refine g_le (L2 := [some (.ref 0), some (.int v1), some (.int v2), some (.int v3), some (.int (v4 + (Int32.ofInt 1))), some (.int (v5 + (Int32.ofInt 1))), some (.int (v6 + (Int32.ofInt 1)))]) ⟨rfl, rfl, rfl, rfl, rfl, rfl, rfl, trivial⟩ ?_
          exact ih v1 v2 v3 (v4 + (Int32.ofInt 1)) (v5 + (Int32.ofInt 1)) (v6 + (Int32.ofInt 1)) hp hq
def f_X9_mayFold (m : Rec) (a : Int32) (l : Int32) (w : Int32) : Int32 := (f_X9_mayFold_9 40 m a l w ((Int32.ofInt 0)) ((Int32.ofInt 0)) ((Int32.ofInt 0)))
def p_X9_mayFold (m : Rec) (a : Int32) (l : Int32) (w : Int32) : Prop := (p_X9_mayFold_9 40 m a l w ((Int32.ofInt 0)) ((Int32.ofInt 0)) ((Int32.ofInt 0)))
set_option maxHeartbeats 16000000 in
set_option maxRecDepth 20000 in
theorem s_X9_mayFold (m : Rec) (a : Int32) (l : Int32) (w : Int32) (hp : p_X9_mayFold m a l w) : Spec 2 0 0 mX9_mayFold [.ref 0, .int a, .int l, .int w] (wM m) (Ret (some (.int ((f_X9_mayFold m a l w)))) (wM m)) := by
  obtain ⟨zq, hq⟩ : ∃ z, z = (f_X9_mayFold m a l w) := ⟨_, rfl⟩
  rw [← hq]
  unfold f_X9_mayFold at hq
  unfold p_X9_mayFold at hp
  refine Sof fun sc => ?_
  refine g_blk hz0 kX9_mayFold_0 ?_
  refine g_le (L2 := [some (.ref 0), some (.int a), some (.int l), some (.int w), some (.int (Int32.ofInt 0)), some (.int (Int32.ofInt 0)), some (.int (Int32.ofInt 0))]) ⟨rfl, rfl, rfl, rfl, rfl, rfl, rfl, trivial⟩ ?_
  exact l_X9_mayFold_9 sc m zq 40 a l w ((Int32.ofInt 0)) ((Int32.ofInt 0)) ((Int32.ofInt 0)) hp hq
