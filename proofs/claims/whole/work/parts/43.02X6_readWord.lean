def f_X6_readWord_0  : Nat → Rec → Int32 × Rec
  | 0, e => (0, e)
  | n + 1, e => if (e.1 2) ≤ (e.1 4) then (if (f_X6_tokenIs_v1002 e) = 0 then (if (f_X6_tokenIs_v1003 e) = 0 then ((Int32.ofInt 2), e) else ((Int32.ofInt 4), e)) else ((Int32.ofInt 3), e)) else (if (f_X6_isLetter (f_X6_byteAt e (e.1 4))) = 0 then (if (f_X6_tokenIs_v1002 e) = 0 then (if (f_X6_tokenIs_v1003 e) = 0 then ((Int32.ofInt 2), e) else ((Int32.ofInt 4), e)) else ((Int32.ofInt 3), e)) else (f_X6_readWord_0 n (setG e 4 ((e.1 4) + (Int32.ofInt 1)))))
def p_X6_readWord_0  : Nat → Rec → Prop
  | 0, _ => False
  | n + 1, e => ((e.1 2) ≤ (e.1 4) → ((p_X6_tokenIs_v1002 e) ∧ (((f_X6_tokenIs_v1002 e) = 0 → ((p_X6_tokenIs_v1003 e) ∧ True)) ∧ (¬ ((f_X6_tokenIs_v1002 e) = 0) → True)))) ∧ (¬ ((e.1 2) ≤ (e.1 4)) → ((p_X6_byteAt e (e.1 4)) ∧ (((f_X6_isLetter (f_X6_byteAt e (e.1 4))) = 0 → ((p_X6_tokenIs_v1002 e) ∧ (((f_X6_tokenIs_v1002 e) = 0 → ((p_X6_tokenIs_v1003 e) ∧ True)) ∧ (¬ ((f_X6_tokenIs_v1002 e) = 0) → True)))) ∧ (¬ ((f_X6_isLetter (f_X6_byteAt e (e.1 4))) = 0) → (p_X6_readWord_0 n (setG e 4 ((e.1 4) + (Int32.ofInt 1))))))))
set_option maxHeartbeats 16000000 in
set_option maxRecDepth 20000 in
theorem l_X6_readWord_0 (sc : SC)   (zq : Int32 × Rec)  : ∀ (n : Nat) (e : Rec) , p_X6_readWord_0 n e → zq = f_X6_readWord_0 n e → Good sc 7 0 0 3 mX6_readWord (Ret (some (.int (zq.1))) (wE (zq.2))) 0 0 0 [some (.ref 0)] [] (wE e) := by
  intro n
  induction n with
  | zero => intro e hp; exact hp.elim
  | succ n ih =>
    intro e hp hq
    unfold p_X6_readWord_0 at hp
    unfold f_X6_readWord_0 at hq
    refine g_blk hz0 kX6_readWord_0 ?_
    refine ⟨fun c1 => ?_, fun c1 => ?_⟩
    · rw [if_pos (show (e.1 2) ≤ (e.1 4) from c1)] at hq
      replace hp := hp.1 c1
      refine g_blk hz0 kX6_readWord_38 ?_
      refine cVp [0, 1, 2] (wE e) (s_X6_tokenIs_v1002 e hp.1) rfl cwX6_tokenIs dX6_readWord_41 rfl rfl (hm22_E_E _) ?_
      replace hp := hp.2
      refine g_blk hz0 kX6_readWord_44 ?_
      refine ⟨fun c2 => ?_, fun c2 => ?_⟩
      · rw [if_pos (show (f_X6_tokenIs_v1002 e) = 0 from c2)] at hq
        replace hp := hp.1 c2
        refine g_blk hz0 kX6_readWord_49 ?_
        refine cVp [0, 1, 2] (wE e) (s_X6_tokenIs_v1003 e hp.1) rfl cwX6_tokenIs dX6_readWord_52 rfl rfl (hm22_E_E _) ?_
        replace hp := hp.2
        refine g_blk hz0 kX6_readWord_55 ?_
        refine ⟨fun c3 => ?_, fun c3 => ?_⟩
        · rw [if_pos (show (f_X6_tokenIs_v1003 e) = 0 from c3)] at hq
          refine g_blk hz0 kX6_readWord_62 ?_
          refine g_blk hz0 kX6_readWord_63 ?_
          subst hq
          exact ⟨fun h => (by cases h), rfl, rfl⟩
        · rw [if_neg (show ¬ ((f_X6_tokenIs_v1003 e) = 0) from c3)] at hq
          refine g_blk hz0 kX6_readWord_58 ?_
          refine g_blk hz0 kX6_readWord_63 ?_
          subst hq
          exact ⟨fun h => (by cases h), rfl, rfl⟩
      · rw [if_neg (show ¬ ((f_X6_tokenIs_v1002 e) = 0) from c2)] at hq
        refine g_blk hz0 kX6_readWord_47 ?_
        subst hq
        exact ⟨fun h => (by cases h), rfl, rfl⟩
    · rw [if_neg (show ¬ ((e.1 2) ≤ (e.1 4)) from c1)] at hq
      replace hp := hp.2 c1
      refine g_blk hz0 kX6_readWord_11 ?_
      refine cVp [0, 1, 2] (wE e) (s_X6_byteAt e (e.1 4) hp.1) rfl cwX6_byteAt dX6_readWord_16 rfl rfl (hm22_E_E _) ?_
      replace hp := hp.2
      refine cS0 (s_X6_isLetter (f_X6_byteAt e (e.1 4))) rfl cwX6_isLetter dX6_readWord_19 rfl ?_
      refine g_blk hz0 kX6_readWord_22 ?_
      refine ⟨fun c4 => ?_, fun c4 => ?_⟩
      · rw [if_pos (show (f_X6_isLetter (f_X6_byteAt e (e.1 4))) = 0 from c4)] at hq
        replace hp := hp.1 c4
        refine g_blk hz0 kX6_readWord_38 ?_
        refine cVp [0, 1, 2] (wE e) (s_X6_tokenIs_v1002 e hp.1) rfl cwX6_tokenIs dX6_readWord_41 rfl rfl (hm22_E_E _) ?_
        replace hp := hp.2
        refine g_blk hz0 kX6_readWord_44 ?_
        refine ⟨fun c5 => ?_, fun c5 => ?_⟩
        · rw [if_pos (show (f_X6_tokenIs_v1002 e) = 0 from c5)] at hq
          replace hp := hp.1 c5
          refine g_blk hz0 kX6_readWord_49 ?_
          refine cVp [0, 1, 2] (wE e) (s_X6_tokenIs_v1003 e hp.1) rfl cwX6_tokenIs dX6_readWord_52 rfl rfl (hm22_E_E _) ?_
          replace hp := hp.2
          refine g_blk hz0 kX6_readWord_55 ?_
          refine ⟨fun c6 => ?_, fun c6 => ?_⟩
          · rw [if_pos (show (f_X6_tokenIs_v1003 e) = 0 from c6)] at hq
            refine g_blk hz0 kX6_readWord_62 ?_
            refine g_blk hz0 kX6_readWord_63 ?_
            subst hq
            exact ⟨fun h => (by cases h), rfl, rfl⟩
          · rw [if_neg (show ¬ ((f_X6_tokenIs_v1003 e) = 0) from c6)] at hq
            refine g_blk hz0 kX6_readWord_58 ?_
            refine g_blk hz0 kX6_readWord_63 ?_
            subst hq
            exact ⟨fun h => (by cases h), rfl, rfl⟩
        · rw [if_neg (show ¬ ((f_X6_tokenIs_v1002 e) = 0) from c5)] at hq
          refine g_blk hz0 kX6_readWord_47 ?_
          subst hq
          exact ⟨fun h => (by cases h), rfl, rfl⟩
      · rw [if_neg (show ¬ ((f_X6_isLetter (f_X6_byteAt e (e.1 4))) = 0) from c4)] at hq
        replace hp := hp.2 c4
        refine g_blk hz0 kX6_readWord_25 ?_
        refine ⟨fun h => (by cases h), Or.inl rfl, ?_⟩
        refine g_le (L2 := [some (.ref 0)]) ⟨rfl, trivial⟩ ?_
        exact ih (setG e 4 ((e.1 4) + (Int32.ofInt 1))) hp hq
def f_X6_readWord (e : Rec)  : Int32 × Rec := (f_X6_readWord_0 300 e)
def p_X6_readWord (e : Rec)  : Prop := (p_X6_readWord_0 300 e)
set_option maxHeartbeats 16000000 in
set_option maxRecDepth 20000 in
theorem s_X6_readWord (e : Rec)  (hp : p_X6_readWord e) : Spec 7 0 0 mX6_readWord [.ref 0] (wE e) (Ret (some (.int ((f_X6_readWord e).1))) (wE ((f_X6_readWord e).2))) := by
  obtain ⟨zq, hq⟩ : ∃ z, z = (f_X6_readWord e) := ⟨_, rfl⟩
  rw [← hq]
  unfold f_X6_readWord at hq
  unfold p_X6_readWord at hp
  refine Sof fun sc => ?_
  refine g_le (L2 := [some (.ref 0)]) ⟨rfl, trivial⟩ ?_
  exact l_X6_readWord_0 sc zq 300 e hp hq
