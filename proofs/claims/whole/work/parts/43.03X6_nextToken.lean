set_option maxHeartbeats 16000000 in
theorem pw84_E_E (e : Rec) (e9 : Rec) : putW (wE e) [0, 1, 2] ((wE e9).map (ren [0, 1, 2])) = (wE e9) := rfl
def f_X6_nextToken_37  (e : Rec)  : Int32 × Rec := if (f_X6_byteAt (setG e 5 (e.1 4)) (e.1 4)) = (Int32.ofInt (-1)) then ((Int32.ofInt 1), (setG e 5 (e.1 4))) else (if (f_X6_isLetter (f_X6_byteAt (setG e 5 (e.1 4)) (e.1 4))) = 0 then (if (f_X6_isFigure (f_X6_byteAt (setG e 5 (e.1 4)) (e.1 4))) = 0 then (if (f_X6_byteAt (setG e 5 (e.1 4)) (e.1 4)) = (Int32.ofInt 45) then (((f_X6_readNumber (setG e 5 (e.1 4))).1), ((f_X6_readNumber (setG e 5 (e.1 4))).2)) else (if (f_X6_byteAt (setG e 5 (e.1 4)) (e.1 4)) = (Int32.ofInt 59) then ((Int32.ofInt 6), (setG (setG e 4 ((e.1 4) + (Int32.ofInt 1))) 5 (e.1 4))) else ((Int32.ofInt 2), (setG (setG e 4 ((e.1 4) + (Int32.ofInt 1))) 5 (e.1 4))))) else (((f_X6_readNumber (setG e 5 (e.1 4))).1), ((f_X6_readNumber (setG e 5 (e.1 4))).2))) else (((f_X6_readWord (setG e 5 (e.1 4))).1), ((f_X6_readWord (setG e 5 (e.1 4))).2)))
def p_X6_nextToken_37  (e : Rec)  : Prop := (p_X6_byteAt (setG e 5 (e.1 4)) (e.1 4)) ∧ (((f_X6_byteAt (setG e 5 (e.1 4)) (e.1 4)) = (Int32.ofInt (-1)) → True) ∧ (¬ ((f_X6_byteAt (setG e 5 (e.1 4)) (e.1 4)) = (Int32.ofInt (-1))) → (((f_X6_isLetter (f_X6_byteAt (setG e 5 (e.1 4)) (e.1 4))) = 0 → (((f_X6_isFigure (f_X6_byteAt (setG e 5 (e.1 4)) (e.1 4))) = 0 → (((f_X6_byteAt (setG e 5 (e.1 4)) (e.1 4)) = (Int32.ofInt 45) → ((p_X6_readNumber (setG e 5 (e.1 4))) ∧ True)) ∧ (¬ ((f_X6_byteAt (setG e 5 (e.1 4)) (e.1 4)) = (Int32.ofInt 45)) → True))) ∧ (¬ ((f_X6_isFigure (f_X6_byteAt (setG e 5 (e.1 4)) (e.1 4))) = 0) → ((p_X6_readNumber (setG e 5 (e.1 4))) ∧ True)))) ∧ (¬ ((f_X6_isLetter (f_X6_byteAt (setG e 5 (e.1 4)) (e.1 4))) = 0) → ((p_X6_readWord (setG e 5 (e.1 4))) ∧ True)))))
set_option maxHeartbeats 16000000 in
set_option maxRecDepth 20000 in
theorem l_X6_nextToken_37 (sc : SC)   (zq : Int32 × Rec)  (e : Rec)  (hp : p_X6_nextToken_37 e) (hq : zq = f_X6_nextToken_37 e) : Good sc 8 0 0 3 mX6_nextToken (Ret (some (.int (zq.1))) (wE (zq.2))) 0 0 37 [some (.ref 0), none] [] (wE e) := by
  unfold p_X6_nextToken_37 at hp
  unfold f_X6_nextToken_37 at hq
  refine g_blk hz0 kX6_nextToken_37 ?_
  refine ⟨fun h => (by cases h), Or.inl rfl, ?_⟩
  refine g_w (w2 := (wE (setG e 5 (e.1 4)))) rfl ?_
  refine cVp [0, 1, 2] (wE (setG e 5 (e.1 4))) (s_X6_byteAt (setG e 5 (e.1 4)) (e.1 4) hp.1) rfl cwX6_byteAt dX6_nextToken_50 rfl rfl (hm22_E_E _) ?_
  replace hp := hp.2
  refine g_blk hz0 kX6_nextToken_53 ?_
  refine ⟨fun c3 => ?_, fun c3 => ?_⟩
  · rw [if_neg (show ¬ ((f_X6_byteAt (setG e 5 (e.1 4)) (e.1 4)) = (Int32.ofInt (-1))) from c3)] at hq
    replace hp := hp.2 c3
    refine g_blk hz0 kX6_nextToken_61 ?_
    refine cS0 (s_X6_isLetter (f_X6_byteAt (setG e 5 (e.1 4)) (e.1 4))) rfl cwX6_isLetter dX6_nextToken_62 rfl ?_
    refine g_blk hz0 kX6_nextToken_65 ?_
    refine ⟨fun c4 => ?_, fun c4 => ?_⟩
    · rw [if_pos (show (f_X6_isLetter (f_X6_byteAt (setG e 5 (e.1 4)) (e.1 4))) = 0 from c4)] at hq
      replace hp := hp.1 c4
      refine g_blk hz0 kX6_nextToken_73 ?_
      refine cS0 (s_X6_isFigure (f_X6_byteAt (setG e 5 (e.1 4)) (e.1 4))) rfl cwX6_isFigure dX6_nextToken_74 rfl ?_
      refine g_blk hz0 kX6_nextToken_77 ?_
      refine ⟨fun c5 => ?_, fun c5 => ?_⟩
      · rw [if_neg (show ¬ ((f_X6_isFigure (f_X6_byteAt (setG e 5 (e.1 4)) (e.1 4))) = 0) from c5)] at hq
        replace hp := hp.2 c5
        refine g_blk hz0 kX6_nextToken_86 ?_
        refine cV [0, 1, 2] (wE (setG e 5 (e.1 4))) (s_X6_readNumber (setG e 5 (e.1 4)) hp.1) rfl cwX6_readNumber dX6_nextToken_87 rfl rfl (hm22_E_E _) ((len_E _).trans (len_E _).symm) (wE ((f_X6_readNumber (setG e 5 (e.1 4))).2)) (pw84_E_E _ _) ?_
        replace hp := hp.2
        obtain ⟨g9, hg9⟩ : ∃ z, z = (f_X6_readNumber (setG e 5 (e.1 4))) := ⟨_, rfl⟩
        try rw [← hg9] at hp
        try rw [← hg9] at hq
        rw [← hg9]
        refine g_blk hz0 kX6_nextToken_90 ?_
        subst hq
        exact ⟨fun h => (by cases h), rfl, rfl⟩
      · rw [if_pos (show (f_X6_isFigure (f_X6_byteAt (setG e 5 (e.1 4)) (e.1 4))) = 0 from c5)] at hq
        replace hp := hp.1 c5
        refine g_blk hz0 kX6_nextToken_80 ?_
        refine ⟨fun c6 => ?_, fun c6 => ?_⟩
        · rw [if_neg (show ¬ ((f_X6_byteAt (setG e 5 (e.1 4)) (e.1 4)) = (Int32.ofInt 45)) from c6)] at hq
          refine g_blk hz0 kX6_nextToken_91 ?_
          refine ⟨fun h => (by cases h), Or.inl rfl, ?_⟩
          refine ⟨fun c8 => ?_, fun c8 => ?_⟩
          · rw [if_neg (show ¬ ((f_X6_byteAt (setG e 5 (e.1 4)) (e.1 4)) = (Int32.ofInt 59)) from c8)] at hq
            refine g_blk hz0 kX6_nextToken_112 ?_
            refine g_blk hz0 kX6_nextToken_113 ?_
            subst hq
            exact ⟨fun h => (by cases h), rfl, rfl⟩
          · rw [if_pos (show (f_X6_byteAt (setG e 5 (e.1 4)) (e.1 4)) = (Int32.ofInt 59) from c8)] at hq
            refine g_blk hz0 kX6_nextToken_107 ?_
            refine g_blk hz0 kX6_nextToken_113 ?_
            subst hq
            exact ⟨fun h => (by cases h), rfl, rfl⟩
        · rw [if_pos (show (f_X6_byteAt (setG e 5 (e.1 4)) (e.1 4)) = (Int32.ofInt 45) from c6)] at hq
          replace hp := hp.1 c6
          refine g_blk hz0 kX6_nextToken_86 ?_
          refine cV [0, 1, 2] (wE (setG e 5 (e.1 4))) (s_X6_readNumber (setG e 5 (e.1 4)) hp.1) rfl cwX6_readNumber dX6_nextToken_87 rfl rfl (hm22_E_E _) ((len_E _).trans (len_E _).symm) (wE ((f_X6_readNumber (setG e 5 (e.1 4))).2)) (pw84_E_E _ _) ?_
          replace hp := hp.2
          obtain ⟨g7, hg7⟩ : ∃ z, z = (f_X6_readNumber (setG e 5 (e.1 4))) := ⟨_, rfl⟩
          try rw [← hg7] at hp
          try rw [← hg7] at hq
          rw [← hg7]
          refine g_blk hz0 kX6_nextToken_90 ?_
          subst hq
          exact ⟨fun h => (by cases h), rfl, rfl⟩
    · rw [if_neg (show ¬ ((f_X6_isLetter (f_X6_byteAt (setG e 5 (e.1 4)) (e.1 4))) = 0) from c4)] at hq
      replace hp := hp.2 c4
      refine g_blk hz0 kX6_nextToken_68 ?_
      refine cV [0, 1, 2] (wE (setG e 5 (e.1 4))) (s_X6_readWord (setG e 5 (e.1 4)) hp.1) rfl cwX6_readWord dX6_nextToken_69 rfl rfl (hm22_E_E _) ((len_E _).trans (len_E _).symm) (wE ((f_X6_readWord (setG e 5 (e.1 4))).2)) (pw84_E_E _ _) ?_
      replace hp := hp.2
      obtain ⟨g10, hg10⟩ : ∃ z, z = (f_X6_readWord (setG e 5 (e.1 4))) := ⟨_, rfl⟩
      try rw [← hg10] at hp
      try rw [← hg10] at hq
      rw [← hg10]
      refine g_blk hz0 kX6_nextToken_72 ?_
      subst hq
      exact ⟨fun h => (by cases h), rfl, rfl⟩
  · rw [if_pos (show (f_X6_byteAt (setG e 5 (e.1 4)) (e.1 4)) = (Int32.ofInt (-1)) from c3)] at hq
    refine g_blk hz0 kX6_nextToken_59 ?_
    subst hq
    exact ⟨fun h => (by cases h), rfl, rfl⟩
def f_X6_nextToken_0  : Nat → Rec → Int32 × Rec
  | 0, e => (0, e)
  | n + 1, e => if (e.1 2) ≤ (e.1 4) then (f_X6_nextToken_37 e) else (if (f_X6_byteAt e (e.1 4)) = (Int32.ofInt 32) then (f_X6_nextToken_0 n (setG e 4 ((e.1 4) + (Int32.ofInt 1)))) else (f_X6_nextToken_37 e))
def p_X6_nextToken_0  : Nat → Rec → Prop
  | 0, _ => False
  | n + 1, e => ((e.1 2) ≤ (e.1 4) → (p_X6_nextToken_37 e)) ∧ (¬ ((e.1 2) ≤ (e.1 4)) → ((p_X6_byteAt e (e.1 4)) ∧ (((f_X6_byteAt e (e.1 4)) = (Int32.ofInt 32) → (p_X6_nextToken_0 n (setG e 4 ((e.1 4) + (Int32.ofInt 1))))) ∧ (¬ ((f_X6_byteAt e (e.1 4)) = (Int32.ofInt 32)) → (p_X6_nextToken_37 e)))))
set_option maxHeartbeats 16000000 in
set_option maxRecDepth 20000 in
theorem l_X6_nextToken_0 (sc : SC)   (zq : Int32 × Rec)  : ∀ (n : Nat) (e : Rec) , p_X6_nextToken_0 n e → zq = f_X6_nextToken_0 n e → Good sc 8 0 0 3 mX6_nextToken (Ret (some (.int (zq.1))) (wE (zq.2))) 0 0 0 [some (.ref 0), none] [] (wE e) := by
  intro n
  induction n with
  | zero => intro e hp; exact hp.elim
  | succ n ih =>
    intro e hp hq
    unfold p_X6_nextToken_0 at hp
    unfold f_X6_nextToken_0 at hq
    refine g_blk hz0 kX6_nextToken_0 ?_
    refine ⟨fun c1 => ?_, fun c1 => ?_⟩
    · rw [if_pos (show (e.1 2) ≤ (e.1 4) from c1)] at hq
      replace hp := hp.1 c1
      refine g_le (L2 := [some (.ref 0), none]) ⟨rfl, trivial⟩ ?_
      exact l_X6_nextToken_37 sc zq e hp hq
    · rw [if_neg (show ¬ ((e.1 2) ≤ (e.1 4)) from c1)] at hq
      replace hp := hp.2 c1
      refine g_blk hz0 kX6_nextToken_11 ?_
      refine cVp [0, 1, 2] (wE e) (s_X6_byteAt e (e.1 4) hp.1) rfl cwX6_byteAt dX6_nextToken_16 rfl rfl (hm22_E_E _) ?_
      replace hp := hp.2
      refine g_blk hz0 kX6_nextToken_19 ?_
      refine ⟨fun c2 => ?_, fun c2 => ?_⟩
      · rw [if_neg (show ¬ ((f_X6_byteAt e (e.1 4)) = (Int32.ofInt 32)) from c2)] at hq
        replace hp := hp.2 c2
        refine g_le (L2 := [some (.ref 0), none]) ⟨rfl, trivial⟩ ?_
        exact l_X6_nextToken_37 sc zq e hp hq
      · rw [if_pos (show (f_X6_byteAt e (e.1 4)) = (Int32.ofInt 32) from c2)] at hq
        replace hp := hp.1 c2
        refine g_blk hz0 kX6_nextToken_24 ?_
        refine ⟨fun h => (by cases h), Or.inl rfl, ?_⟩
        refine g_le (L2 := [some (.ref 0), none]) ⟨rfl, trivial⟩ ?_
        exact ih (setG e 4 ((e.1 4) + (Int32.ofInt 1))) hp hq
def f_X6_nextToken (e : Rec)  : Int32 × Rec := (f_X6_nextToken_0 300 e)
def p_X6_nextToken (e : Rec)  : Prop := (p_X6_nextToken_0 300 e)
set_option maxHeartbeats 16000000 in
set_option maxRecDepth 20000 in
theorem s_X6_nextToken (e : Rec)  (hp : p_X6_nextToken e) : Spec 8 0 0 mX6_nextToken [.ref 0] (wE e) (Ret (some (.int ((f_X6_nextToken e).1))) (wE ((f_X6_nextToken e).2))) := by
  obtain ⟨zq, hq⟩ : ∃ z, z = (f_X6_nextToken e) := ⟨_, rfl⟩
  rw [← hq]
  unfold f_X6_nextToken at hq
  unfold p_X6_nextToken at hp
  refine Sof fun sc => ?_
  refine g_le (L2 := [some (.ref 0), none]) ⟨rfl, trivial⟩ ?_
  exact l_X6_nextToken_0 sc zq 300 e hp hq
