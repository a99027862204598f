def f_X6_tokenIs_v1002_20  : Nat → Rec → Int32 → Int32
  | 0, e, v2 => 0
  | n + 1, e, v2 => if 4 ≤ v2 then (Int32.ofInt 1) else (if (f_X6_byteAt e ((e.1 5) + v2)) = (chF1002 (Int32.toNatClampNeg v2)) then (f_X6_tokenIs_v1002_20 n e (v2 + (Int32.ofInt 1))) else (Int32.ofInt 0))
def p_X6_tokenIs_v1002_20  : Nat → Rec → Int32 → Prop
  | 0, _, _ => False
  | n + 1, e, v2 => (4 ≤ v2 → True) ∧ (¬ (4 ≤ v2) → ((p_X6_byteAt e ((e.1 5) + v2)) ∧ (vp_in v2 4 ∧ (((f_X6_byteAt e ((e.1 5) + v2)) = (chF1002 (Int32.toNatClampNeg v2)) → (p_X6_tokenIs_v1002_20 n e (v2 + (Int32.ofInt 1)))) ∧ (¬ ((f_X6_byteAt e ((e.1 5) + v2)) = (chF1002 (Int32.toNatClampNeg v2))) → True)))))
set_option maxHeartbeats 16000000 in
set_option maxRecDepth 20000 in
theorem l_X6_tokenIs_v1002_20 (sc : SC) (e : Rec)  (zq : Int32)  : ∀ (n : Nat)  (v2 : Int32), p_X6_tokenIs_v1002_20 n e v2 → zq = f_X6_tokenIs_v1002_20 n e v2 → Good sc 6 0 0 3 mX6_tokenIs (Ret (some (.int (zq))) (wE e)) 0 0 20 [some (.ref 0), some (.ref 1002), some (.int v2)] [] (wE e) := by
  intro n
  induction n with
  | zero => intro v2 hp; exact hp.elim
  | succ n ih =>
    intro v2 hp hq
    unfold p_X6_tokenIs_v1002_20 at hp
    unfold f_X6_tokenIs_v1002_20 at hq
    refine g_blk hz0 kX6_tokenIs_20 ?_
    refine g_strlen1002 (by decide) hz0 dX6_tokenIs_22 ?_
    refine g_blk hz0 kX6_tokenIs_25 ?_
    refine ⟨fun c2 => ?_, fun c2 => ?_⟩
    · rw [if_pos (show 4 ≤ v2 from c2)] at hq
      refine g_blk hz0 kX6_tokenIs_54 ?_
      subst hq
      exact ⟨fun _ => Or.inr rfl, rfl, rfl⟩
    · rw [if_neg (show ¬ (4 ≤ v2) from c2)] at hq
      replace hp := hp.2 c2
      refine g_blk hz0 kX6_tokenIs_28 ?_
      refine cVp [0, 1, 2] (wE e) (s_X6_byteAt e ((e.1 5) + v2) hp.1) rfl cwX6_byteAt dX6_tokenIs_35 rfl rfl (hm22_E_E _) ?_
      replace hp := hp.2
      refine g_blk hz0 kX6_tokenIs_38 ?_
      refine g_charAt1002 (by decide) hz0 hp.1 dX6_tokenIs_40 ?_
      replace hp := hp.2
      refine g_blk hz0 kX6_tokenIs_43 ?_
      refine ⟨fun c3 => ?_, fun c3 => ?_⟩
      · rw [if_pos (show (f_X6_byteAt e ((e.1 5) + v2)) = (chF1002 (Int32.toNatClampNeg v2)) from c3)] at hq
        replace hp := hp.1 c3
        refine g_blk hz0 kX6_tokenIs_48 ?_
        refine g_le (L2 := [some (.ref 0), some (.ref 1002), some (.int (v2 + (Int32.ofInt 1)))]) ⟨rfl, rfl, rfl, trivial⟩ ?_
        exact ih (v2 + (Int32.ofInt 1)) hp hq
      · rw [if_neg (show ¬ ((f_X6_byteAt e ((e.1 5) + v2)) = (chF1002 (Int32.toNatClampNeg v2))) from c3)] at hq
        refine g_blk hz0 kX6_tokenIs_46 ?_
        subst hq
        exact ⟨fun _ => Or.inl rfl, rfl, rfl⟩
def f_X6_tokenIs_v1002 (e : Rec)  : Int32 := if ((e.1 4) - (e.1 5)) = 4 then (f_X6_tokenIs_v1002_20 40 e ((Int32.ofInt 0))) else (Int32.ofInt 0)
def p_X6_tokenIs_v1002 (e : Rec)  : Prop := (((e.1 4) - (e.1 5)) = 4 → (p_X6_tokenIs_v1002_20 40 e ((Int32.ofInt 0)))) ∧ (¬ (((e.1 4) - (e.1 5)) = 4) → True)
set_option maxHeartbeats 16000000 in
set_option maxRecDepth 20000 in
theorem s_X6_tokenIs_v1002 (e : Rec)  (hp : p_X6_tokenIs_v1002 e) : Spec 6 0 0 mX6_tokenIs [.ref 0, .ref 1002] (wE e) (Ret (some (.int ((f_X6_tokenIs_v1002 e)))) (wE e)) := by
  obtain ⟨zq, hq⟩ : ∃ z, z = (f_X6_tokenIs_v1002 e) := ⟨_, rfl⟩
  rw [← hq]
  unfold f_X6_tokenIs_v1002 at hq
  unfold p_X6_tokenIs_v1002 at hp
  refine Sof fun sc => ?_
  refine g_blk hz0 kX6_tokenIs_0 ?_
  refine g_strlen1002 (by decide) hz0 dX6_tokenIs_10 ?_
  refine g_blk hz0 kX6_tokenIs_13 ?_
  refine ⟨fun c1 => ?_, fun c1 => ?_⟩
  · rw [if_pos (show ((e.1 4) - (e.1 5)) = 4 from c1)] at hq
    replace hp := hp.1 c1
    refine g_blk hz0 kX6_tokenIs_18 ?_
    refine g_le (L2 := [some (.ref 0), some (.ref 1002), some (.int (Int32.ofInt 0))]) ⟨rfl, rfl, rfl, trivial⟩ ?_
    exact l_X6_tokenIs_v1002_20 sc e zq 40 ((Int32.ofInt 0)) hp hq
  · rw [if_neg (show ¬ (((e.1 4) - (e.1 5)) = 4) from c1)] at hq
    refine g_blk hz0 kX6_tokenIs_16 ?_
    subst hq
    exact ⟨fun _ => Or.inl rfl, rfl, rfl⟩

def f_X6_tokenIs_v1003_20  : Nat → Rec → Int32 → Int32
  | 0, e, v2 => 0
  | n + 1, e, v2 => if 4 ≤ v2 then (Int32.ofInt 1) else (if (f_X6_byteAt e ((e.1 5) + v2)) = (chF1003 (Int32.toNatClampNeg v2)) then (f_X6_tokenIs_v1003_20 n e (v2 + (Int32.ofInt 1))) else (Int32.ofInt 0))
def p_X6_tokenIs_v1003_20  : Nat → Rec → Int32 → Prop
  | 0, _, _ => False
  | n + 1, e, v2 => (4 ≤ v2 → True) ∧ (¬ (4 ≤ v2) → ((p_X6_byteAt e ((e.1 5) + v2)) ∧ (vp_in v2 4 ∧ (((f_X6_byteAt e ((e.1 5) + v2)) = (chF1003 (Int32.toNatClampNeg v2)) → (p_X6_tokenIs_v1003_20 n e (v2 + (Int32.ofInt 1)))) ∧ (¬ ((f_X6_byteAt e ((e.1 5) + v2)) = (chF1003 (Int32.toNatClampNeg v2))) → True)))))
set_option maxHeartbeats 16000000 in
set_option maxRecDepth 20000 in
theorem l_X6_tokenIs_v1003_20 (sc : SC) (e : Rec)  (zq : Int32)  : ∀ (n : Nat)  (v2 : Int32), p_X6_tokenIs_v1003_20 n e v2 → zq = f_X6_tokenIs_v1003_20 n e v2 → Good sc 6 0 0 3 mX6_tokenIs (Ret (some (.int (zq))) (wE e)) 0 0 20 [some (.ref 0), some (.ref 1003), some (.int v2)] [] (wE e) := by
  intro n
  induction n with
  | zero => intro v2 hp; exact hp.elim
  | succ n ih =>
    intro v2 hp hq
    unfold p_X6_tokenIs_v1003_20 at hp
    unfold f_X6_tokenIs_v1003_20 at hq
    refine g_blk hz0 kX6_tokenIs_20 ?_
    refine g_strlen1003 (by decide) hz0 dX6_tokenIs_22 ?_
    refine g_blk hz0 kX6_tokenIs_25 ?_
    refine ⟨fun c2 => ?_, fun c2 => ?_⟩
    · rw [if_pos (show 4 ≤ v2 from c2)] at hq
      refine g_blk hz0 kX6_tokenIs_54 ?_
      subst hq
      exact ⟨fun _ => Or.inr rfl, rfl, rfl⟩
    · rw [if_neg (show ¬ (4 ≤ v2) from c2)] at hq
      replace hp := hp.2 c2
      refine g_blk hz0 kX6_tokenIs_28 ?_
      refine cVp [0, 1, 2] (wE e) (s_X6_byteAt e ((e.1 5) + v2) hp.1) rfl cwX6_byteAt dX6_tokenIs_35 rfl rfl (hm22_E_E _) ?_
      replace hp := hp.2
      refine g_blk hz0 kX6_tokenIs_38 ?_
      refine g_charAt1003 (by decide) hz0 hp.1 dX6_tokenIs_40 ?_
      replace hp := hp.2
      refine g_blk hz0 kX6_tokenIs_43 ?_
      refine ⟨fun c3 => ?_, fun c3 => ?_⟩
      · rw [if_pos (show (f_X6_byteAt e ((e.1 5) + v2)) = (chF1003 (Int32.toNatClampNeg v2)) from c3)] at hq
        replace hp := hp.1 c3
        refine g_blk hz0 kX6_tokenIs_48 ?_
        refine g_le (L2 := [some (.ref 0), some (.ref 1003), some (.int (v2 + (Int32.ofInt 1)))]) ⟨rfl, rfl, rfl, trivial⟩ ?_
        exact ih (v2 + (Int32.ofInt 1)) hp hq
      · rw [if_neg (show ¬ ((f_X6_byteAt e ((e.1 5) + v2)) = (chF1003 (Int32.toNatClampNeg v2))) from c3)] at hq
        refine g_blk hz0 kX6_tokenIs_46 ?_
        subst hq
        exact ⟨fun _ => Or.inl rfl, rfl, rfl⟩
def f_X6_tokenIs_v1003 (e : Rec)  : Int32 := if ((e.1 4) - (e.1 5)) = 4 then (f_X6_tokenIs_v1003_20 40 e ((Int32.ofInt 0))) else (Int32.ofInt 0)
def p_X6_tokenIs_v1003 (e : Rec)  : Prop := (((e.1 4) - (e.1 5)) = 4 → (p_X6_tokenIs_v1003_20 40 e ((Int32.ofInt 0)))) ∧ (¬ (((e.1 4) - (e.1 5)) = 4) → True)
set_option maxHeartbeats 16000000 in
set_option maxRecDepth 20000 in
theorem s_X6_tokenIs_v1003 (e : Rec)  (hp : p_X6_tokenIs_v1003 e) : Spec 6 0 0 mX6_tokenIs [.ref 0, .ref 1003] (wE e) (Ret (some (.int ((f_X6_tokenIs_v1003 e)))) (wE e)) := by
  obtain ⟨zq, hq⟩ : ∃ z, z = (f_X6_tokenIs_v1003 e) := ⟨_, rfl⟩
  rw [← hq]
  unfold f_X6_tokenIs_v1003 at hq
  unfold p_X6_tokenIs_v1003 at hp
  refine Sof fun sc => ?_
  refine g_blk hz0 kX6_tokenIs_0 ?_
  refine g_strlen1003 (by decide) hz0 dX6_tokenIs_10 ?_
  refine g_blk hz0 kX6_tokenIs_13 ?_
  refine ⟨fun c1 => ?_, fun c1 => ?_⟩
  · rw [if_pos (show ((e.1 4) - (e.1 5)) = 4 from c1)] at hq
    replace hp := hp.1 c1
    refine g_blk hz0 kX6_tokenIs_18 ?_
    refine g_le (L2 := [some (.ref 0), some (.ref 1003), some (.int (Int32.ofInt 0))]) ⟨rfl, rfl, rfl, trivial⟩ ?_
    exact l_X6_tokenIs_v1003_20 sc e zq 40 ((Int32.ofInt 0)) hp hq
  · rw [if_neg (show ¬ (((e.1 4) - (e.1 5)) = 4) from c1)] at hq
    refine g_blk hz0 kX6_tokenIs_16 ?_
    subst hq
    exact ⟨fun _ => Or.inl rfl, rfl, rfl⟩

def f_X6_readWord_0  : Nat → Rec → Int32 × Rec
  | 0, e => (0, e)
  | n + 1, e => if (e.1 2) ≤ (e.1 4) then (if (f_X6_tokenIs_v1002 e) = 0 then (if (f_X6_tokenIs_v1003 e) = 0 then ((Int32.ofInt 2), e) else ((Int32.ofInt 4), e)) else ((Int32.ofInt 3), e)) else (if (f_X6_isLetter (f_X6_byteAt e (e.1 4))) = 0 then (if (f_X6_tokenIs_v1002 e) = 0 then (if (f_X6_tokenIs_v1003 e) = 0 then ((Int32.ofInt 2), e) else ((Int32.ofInt 4), e)) else ((Int32.ofInt 3), e)) else (f_X6_readWord_0 n (setG e 4 ((e.1 4) + (Int32.ofInt 1)))))
def p_X6_readWord_0  : Nat → Rec → Prop
  | 0, _ => False
  | n + 1, e => ((e.1 2) ≤ (e.1 4) → ((p_X6_tokenIs_v1002 e) ∧ (((f_X6_tokenIs_v1002 e) = 0 → ((p_X6_tokenIs_v1003 e) ∧ True)) ∧ (¬ ((f_X6_tokenIs_v1002 e) = 0) → True)))) ∧ (¬ ((e.1 2) ≤ (e.1 4)) → ((p_X6_byteAt e (e.1 4)) ∧ (((f_X6_isLetter (f_X6_byteAt e (e.1 4))) = 0 → ((p_X6_tokenIs_v1002 e) ∧ (((f_X6_tokenIs_v1002 e) = 0 → ((p_X6_tokenIs_v1003 e) ∧ True)) ∧ (¬ ((f_X6_tokenIs_v1002 e) = 0) → True)))) ∧ (¬ ((f_X6_isLetter (f_X6_byteAt e (e.1 4))) = 0) → (p_X6_readWord_0 n (setG e 4 ((e.1 4) + (Int32.ofInt 1))))))))
set_option maxHeartbeats 16000000 in
set_option maxRecDepth 20000 in
theorem l_X6_readWord_0 (sc : SC)   (zq : Int32 × Rec)  : ∀ (n : Nat) (e : Rec) , p_X6_readWord_0 n e → zq = f_X6_readWord_0 n e → Good sc 7 0 0 3 mX6_readWord (Ret (some (.int (zq.1))) (wE (zq.2))) 0 0 0 [some (.ref 0)] [] (wE e) := by
  intro n
  induction n with
  | zero => intro e hp; exact hp.elim
  | succ n ih =>
    intro e hp hq
    unfold p_X6_readWord_0 at hp
    unfold f_X6_readWord_0 at hq
    refine g_blk hz0 kX6_readWord_0 ?_
    refine ⟨fun c1 => ?_, fun c1 => ?_⟩
    · rw [if_pos (show (e.1 2) ≤ (e.1 4) from c1)] at hq
      replace hp := hp.1 c1
      refine g_blk hz0 kX6_readWord_38 ?_
      refine cVp [0, 1, 2] (wE e) (s_X6_tokenIs_v1002 e hp.1) rfl cwX6_tokenIs dX6_readWord_41 rfl rfl (hm22_E_E _) ?_
      replace hp := hp.2
      refine g_blk hz0 kX6_readWord_44 ?_
      refine ⟨fun c2 => ?_, fun c2 => ?_⟩
      · rw [if_pos (show (f_X6_tokenIs_v1002 e) = 0 from c2)] at hq
        replace hp := hp.1 c2
        refine g_blk hz0 kX6_readWord_49 ?_
        refine cVp [0, 1, 2] (wE e) (s_X6_tokenIs_v1003 e hp.1) rfl cwX6_tokenIs dX6_readWord_52 rfl rfl (hm22_E_E _) ?_
        replace hp := hp.2
        refine g_blk hz0 kX6_readWord_55 ?_
        refine ⟨fun c3 => ?_, fun c3 => ?_⟩
        · rw [if_pos (show (f_X6_tokenIs_v1003 e) = 0 from c3)] at hq
          refine g_blk hz0 kX6_readWord_62 ?_
          refine g_blk hz0 kX6_readWord_63 ?_
          subst hq
          exact ⟨fun h => (by cases h), rfl, rfl⟩
        · rw [if_neg (show ¬ ((f_X6_tokenIs_v1003 e) = 0) from c3)] at hq
          refine g_blk hz0 kX6_readWord_58 ?_
          refine g_blk hz0 kX6_readWord_63 ?_
          subst hq
          exact ⟨fun h => (by cases h), rfl, rfl⟩
      · rw [if_neg (show ¬ ((f_X6_tokenIs_v1002 e) = 0) from c2)] at hq
        refine g_blk hz0 kX6_readWord_47 ?_
        subst hq
        exact ⟨fun h => (by cases h), rfl, rfl⟩
    · rw [if_neg (show ¬ ((e.1 2) ≤ (e.1 4)) from c1)] at hq
      replace hp := hp.2 c1
      refine g_blk hz0 kX6_readWord_11 ?_
      refine cVp [0, 1, 2] (wE e) (s_X6_byteAt e (e.1 4) hp.1) rfl cwX6_byteAt dX6_readWord_16 rfl rfl (hm22_E_E _) ?_
      replace hp := hp.2
      refine cS0 (s_X6_isLetter (f_X6_byteAt e (e.1 4))) rfl cwX6_isLetter dX6_readWord_19 rfl ?_
      refine g_blk hz0 kX6_readWord_22 ?_
      refine ⟨fun c4 => ?_, fun c4 => ?_⟩
      · rw [if_pos (show (f_X6_isLetter (f_X6_byteAt e (e.1 4))) = 0 from c4)] at hq
        replace hp := hp.1 c4
        refine g_blk hz0 kX6_readWord_38 ?_
        refine cVp [0, 1, 2] (wE e) (s_X6_tokenIs_v1002 e hp.1) rfl cwX6_tokenIs dX6_readWord_41 rfl rfl (hm22_E_E _) ?_
        replace hp := hp.2
        refine g_blk hz0 kX6_readWord_44 ?_
        refine ⟨fun c5 => ?_, fun c5 => ?_⟩
        · rw [if_pos (show (f_X6_tokenIs_v1002 e) = 0 from c5)] at hq
          replace hp := hp.1 c5
          refine g_blk hz0 kX6_readWord_49 ?_
          refine cVp [0, 1, 2] (wE e) (s_X6_tokenIs_v1003 e hp.1) rfl cwX6_tokenIs dX6_readWord_52 rfl rfl (hm22_E_E _) ?_
          replace hp := hp.2
          refine g_blk hz0 kX6_readWord_55 ?_
          refine ⟨fun c6 => ?_, fun c6 => ?_⟩
          · rw [if_pos (show (f_X6_tokenIs_v1003 e) = 0 from c6)] at hq
            refine g_blk hz0 kX6_readWord_62 ?_
            refine g_blk hz0 kX6_readWord_63 ?_
            subst hq
            exact ⟨fun h => (by cases h), rfl, rfl⟩
          · rw [if_neg (show ¬ ((f_X6_tokenIs_v1003 e) = 0) from c6)] at hq
            refine g_blk hz0 kX6_readWord_58 ?_
            refine g_blk hz0 kX6_readWord_63 ?_
            subst hq
            exact ⟨fun h => (by cases h), rfl, rfl⟩
        · rw [if_neg (show ¬ ((f_X6_tokenIs_v1002 e) = 0) from c5)] at hq
          refine g_blk hz0 kX6_readWord_47 ?_
          subst hq
          exact ⟨fun h => (by cases h), rfl, rfl⟩
      · rw [if_neg (show ¬ ((f_X6_isLetter (f_X6_byteAt e (e.1 4))) = 0) from c4)] at hq
        replace hp := hp.2 c4
        refine g_blk hz0 kX6_readWord_25 ?_
        refine ⟨fun h => (by cases h), Or.inl rfl, ?_⟩
        refine g_le (L2 := [some (.ref 0)]) ⟨rfl, trivial⟩ ?_
        exact ih (setG e 4 ((e.1 4) + (Int32.ofInt 1))) hp hq
def f_X6_readWord (e : Rec)  : Int32 × Rec := (f_X6_readWord_0 300 e)
def p_X6_readWord (e : Rec)  : Prop := (p_X6_readWord_0 300 e)
set_option maxHeartbeats 16000000 in
set_option maxRecDepth 20000 in
theorem s_X6_readWord (e : Rec)  (hp : p_X6_readWord e) : Spec 7 0 0 mX6_readWord [.ref 0] (wE e) (Ret (some (.int ((f_X6_readWord e).1))) (wE ((f_X6_readWord e).2))) := by
  obtain ⟨zq, hq⟩ : ∃ z, z = (f_X6_readWord e) := ⟨_, rfl⟩
  rw [← hq]
  unfold f_X6_readWord at hq
  unfold p_X6_readWord at hp
  refine Sof fun sc => ?_
  refine g_le (L2 := [some (.ref 0)]) ⟨rfl, trivial⟩ ?_
  exact l_X6_readWord_0 sc zq 300 e hp hq

set_option maxHeartbeats 16000000 in
theorem pw84_E_E (e : Rec) (e9 : Rec) : putW (wE e) [0, 1, 2] ((wE e9).map (ren [0, 1, 2])) = (wE e9) := rfl
def f_X6_nextToken_37  (e : Rec)  : Int32 × Rec := if (f_X6_byteAt (setG e 5 (e.1 4)) (e.1 4)) = (Int32.ofInt (-1)) then ((Int32.ofInt 1), (setG e 5 (e.1 4))) else (if (f_X6_isLetter (f_X6_byteAt (setG e 5 (e.1 4)) (e.1 4))) = 0 then (if (f_X6_isFigure (f_X6_byteAt (setG e 5 (e.1 4)) (e.1 4))) = 0 then (if (f_X6_byteAt (setG e 5 (e.1 4)) (e.1 4)) = (Int32.ofInt 45) then (((f_X6_readNumber (setG e 5 (e.1 4))).1), ((f_X6_readNumber (setG e 5 (e.1 4))).2)) else (if (f_X6_byteAt (setG e 5 (e.1 4)) (e.1 4)) = (Int32.ofInt 59) then ((Int32.ofInt 6), (setG (setG e 4 ((e.1 4) + (Int32.ofInt 1))) 5 (e.1 4))) else ((Int32.ofInt 2), (setG (setG e 4 ((e.1 4) + (Int32.ofInt 1))) 5 (e.1 4))))) else (((f_X6_readNumber (setG e 5 (e.1 4))).1), ((f_X6_readNumber (setG e 5 (e.1 4))).2))) else (((f_X6_readWord (setG e 5 (e.1 4))).1), ((f_X6_readWord (setG e 5 (e.1 4))).2)))
def p_X6_nextToken_37  (e : Rec)  : Prop := (p_X6_byteAt (setG e 5 (e.1 4)) (e.1 4)) ∧ (((f_X6_byteAt (setG e 5 (e.1 4)) (e.1 4)) = (Int32.ofInt (-1)) → True) ∧ (¬ ((f_X6_byteAt (setG e 5 (e.1 4)) (e.1 4)) = (Int32.ofInt (-1))) → (((f_X6_isLetter (f_X6_byteAt (setG e 5 (e.1 4)) (e.1 4))) = 0 → (((f_X6_isFigure (f_X6_byteAt (setG e 5 (e.1 4)) (e.1 4))) = 0 → (((f_X6_byteAt (setG e 5 (e.1 4)) (e.1 4)) = (Int32.ofInt 45) → ((p_X6_readNumber (setG e 5 (e.1 4))) ∧ True)) ∧ (¬ ((f_X6_byteAt (setG e 5 (e.1 4)) (e.1 4)) = (Int32.ofInt 45)) → True))) ∧ (¬ ((f_X6_isFigure (f_X6_byteAt (setG e 5 (e.1 4)) (e.1 4))) = 0) → ((p_X6_readNumber (setG e 5 (e.1 4))) ∧ True)))) ∧ (¬ ((f_X6_isLetter (f_X6_byteAt (setG e 5 (e.1 4)) (e.1 4))) = 0) → ((p_X6_readWord (setG e 5 (e.1 4))) ∧ True)))))
set_option maxHeartbeats 16000000 in
set_option maxRecDepth 20000 in
theorem l_X6_nextToken_37 (sc : SC)   (zq : Int32 × Rec)  (e : Rec)  (hp : p_X6_nextToken_37 e) (hq : zq = f_X6_nextToken_37 e) : Good sc 8 0 0 3 mX6_nextToken (Ret (some (.int (zq.1))) (wE (zq.2))) 0 0 37 [some (.ref 0), none] [] (wE e) := by
  unfold p_X6_nextToken_37 at hp
  unfold f_X6_nextToken_37 at hq
  refine g_blk hz0 kX6_nextToken_37 ?_
  refine ⟨fun h => (by cases h), Or.inl rfl, ?_⟩
  refine g_w (w2 := (wE (setG e 5 (e.1 4)))) rfl ?_
  refine cVp [0, 1, 2] (wE (setG e 5 (e.1 4))) (s_X6_byteAt (setG e 5 (e.1 4)) (e.1 4) hp.1) rfl cwX6_byteAt dX6_nextToken_50 rfl rfl (hm22_E_E _) ?_
  replace hp := hp.2
  refine g_blk hz0 kX6_nextToken_53 ?_
  refine ⟨fun c3 => ?_, fun c3 => ?_⟩
  · rw [if_neg (show ¬ ((f_X6_byteAt (setG e 5 (e.1 4)) (e.1 4)) = (Int32.ofInt (-1))) from c3)] at hq
    replace hp := hp.2 c3
    refine g_blk hz0 kX6_nextToken_61 ?_
    refine cS0 (s_X6_isLetter (f_X6_byteAt (setG e 5 (e.1 4)) (e.1 4))) rfl cwX6_isLetter dX6_nextToken_62 rfl ?_
    refine g_blk hz0 kX6_nextToken_65 ?_
    refine ⟨fun c4 => ?_, fun c4 => ?_⟩
    · rw [if_pos (show (f_X6_isLetter (f_X6_byteAt (setG e 5 (e.1 4)) (e.1 4))) = 0 from c4)] at hq
      replace hp := hp.1 c4
      refine g_blk hz0 kX6_nextToken_73 ?_
      refine cS0 (s_X6_isFigure (f_X6_byteAt (setG e 5 (e.1 4)) (e.1 4))) rfl cwX6_isFigure dX6_nextToken_74 rfl ?_
      refine g_blk hz0 kX6_nextToken_77 ?_
      refine ⟨fun c5 => ?_, fun c5 => ?_⟩
      · rw [if_neg (show ¬ ((f_X6_isFigure (f_X6_byteAt (setG e 5 (e.1 4)) (e.1 4))) = 0) from c5)] at hq
        replace hp := hp.2 c5
        refine g_blk hz0 kX6_nextToken_86 ?_
        refine cV [0, 1, 2] (wE (setG e 5 (e.1 4))) (s_X6_readNumber (setG e 5 (e.1 4)) hp.1) rfl cwX6_readNumber dX6_nextToken_87 rfl rfl (hm22_E_E _) ((len_E _).trans (len_E _).symm) (wE ((f_X6_readNumber (setG e 5 (e.1 4))).2)) (pw84_E_E _ _) ?_
        replace hp := hp.2
        obtain ⟨g9, hg9⟩ : ∃ z, z = (f_X6_readNumber (setG e 5 (e.1 4))) := ⟨_, rfl⟩
        try rw [← hg9] at hp
        try rw [← hg9] at hq
        rw [← hg9]
        refine g_blk hz0 kX6_nextToken_90 ?_
        subst hq
        exact ⟨fun h => (by cases h), rfl, rfl⟩
      · rw [if_pos (show (f_X6_isFigure (f_X6_byteAt (setG e 5 (e.1 4)) (e.1 4))) = 0 from c5)] at hq
        replace hp := hp.1 c5
        refine g_blk hz0 kX6_nextToken_80 ?_
        refine ⟨fun c6 => ?_, fun c6 => ?_⟩
        · rw [if_neg (show ¬ ((f_X6_byteAt (setG e 5 (e.1 4)) (e.1 4)) = (Int32.ofInt 45)) from c6)] at hq
          refine g_blk hz0 kX6_nextToken_91 ?_
          refine ⟨fun h => (by cases h), Or.inl rfl, ?_⟩
          refine ⟨fun c8 => ?_, fun c8 => ?_⟩
          · rw [if_neg (show ¬ ((f_X6_byteAt (setG e 5 (e.1 4)) (e.1 4)) = (Int32.ofInt 59)) from c8)] at hq
            refine g_blk hz0 kX6_nextToken_112 ?_
            refine g_blk hz0 kX6_nextToken_113 ?_
            subst hq
            exact ⟨fun h => (by cases h), rfl, rfl⟩
          · rw [if_pos (show (f_X6_byteAt (setG e 5 (e.1 4)) (e.1 4)) = (Int32.ofInt 59) from c8)] at hq
            refine g_blk hz0 kX6_nextToken_107 ?_
            refine g_blk hz0 kX6_nextToken_113 ?_
            subst hq
            exact ⟨fun h => (by cases h), rfl, rfl⟩
        · rw [if_pos (show (f_X6_byteAt (setG e 5 (e.1 4)) (e.1 4)) = (Int32.ofInt 45) from c6)] at hq
          replace hp := hp.1 c6
          refine g_blk hz0 kX6_nextToken_86 ?_
          refine cV [0, 1, 2] (wE (setG e 5 (e.1 4))) (s_X6_readNumber (setG e 5 (e.1 4)) hp.1) rfl cwX6_readNumber dX6_nextToken_87 rfl rfl (hm22_E_E _) ((len_E _).trans (len_E _).symm) (wE ((f_X6_readNumber (setG e 5 (e.1 4))).2)) (pw84_E_E _ _) ?_
          replace hp := hp.2
          obtain ⟨g7, hg7⟩ : ∃ z, z = (f_X6_readNumber (setG e 5 (e.1 4))) := ⟨_, rfl⟩
          try rw [← hg7] at hp
          try rw [← hg7] at hq
          rw [← hg7]
          refine g_blk hz0 kX6_nextToken_90 ?_
          subst hq
          exact ⟨fun h => (by cases h), rfl, rfl⟩
    · rw [if_neg (show ¬ ((f_X6_isLetter (f_X6_byteAt (setG e 5 (e.1 4)) (e.1 4))) = 0) from c4)] at hq
      replace hp := hp.2 c4
      refine g_blk hz0 kX6_nextToken_68 ?_
      refine cV [0, 1, 2] (wE (setG e 5 (e.1 4))) (s_X6_readWord (setG e 5 (e.1 4)) hp.1) rfl cwX6_readWord dX6_nextToken_69 rfl rfl (hm22_E_E _) ((len_E _).trans (len_E _).symm) (wE ((f_X6_readWord (setG e 5 (e.1 4))).2)) (pw84_E_E _ _) ?_
      replace hp := hp.2
      obtain ⟨g10, hg10⟩ : ∃ z, z = (f_X6_readWord (setG e 5 (e.1 4))) := ⟨_, rfl⟩
      try rw [← hg10] at hp
      try rw [← hg10] at hq
      rw [← hg10]
      refine g_blk hz0 kX6_nextToken_72 ?_
      subst hq
      exact ⟨fun h => (by cases h), rfl, rfl⟩
  · rw [if_pos (show (f_X6_byteAt (setG e 5 (e.1 4)) (e.1 4)) = (Int32.ofInt (-1)) from c3)] at hq
    refine g_blk hz0 kX6_nextToken_59 ?_
    subst hq
    exact ⟨fun h => (by cases h), rfl, rfl⟩
def f_X6_nextToken_0  : Nat → Rec → Int32 × Rec
  | 0, e => (0, e)
  | n + 1, e => if (e.1 2) ≤ (e.1 4) then (f_X6_nextToken_37 e) else (if (f_X6_byteAt e (e.1 4)) = (Int32.ofInt 32) then (f_X6_nextToken_0 n (setG e 4 ((e.1 4) + (Int32.ofInt 1)))) else (f_X6_nextToken_37 e))
def p_X6_nextToken_0  : Nat → Rec → Prop
  | 0, _ => False
  | n + 1, e => ((e.1 2) ≤ (e.1 4) → (p_X6_nextToken_37 e)) ∧ (¬ ((e.1 2) ≤ (e.1 4)) → ((p_X6_byteAt e (e.1 4)) ∧ (((f_X6_byteAt e (e.1 4)) = (Int32.ofInt 32) → (p_X6_nextToken_0 n (setG e 4 ((e.1 4) + (Int32.ofInt 1))))) ∧ (¬ ((f_X6_byteAt e (e.1 4)) = (Int32.ofInt 32)) → (p_X6_nextToken_37 e)))))
set_option maxHeartbeats 16000000 in
set_option maxRecDepth 20000 in
theorem l_X6_nextToken_0 (sc : SC)   (zq : Int32 × Rec)  : ∀ (n : Nat) (e : Rec) , p_X6_nextToken_0 n e → zq = f_X6_nextToken_0 n e → Good sc 8 0 0 3 mX6_nextToken (Ret (some (.int (zq.1))) (wE (zq.2))) 0 0 0 [some (.ref 0), none] [] (wE e) := by
  intro n
  induction n with
  | zero => intro e hp; exact hp.elim
  | succ n ih =>
    intro e hp hq
    unfold p_X6_nextToken_0 at hp
    unfold f_X6_nextToken_0 at hq
    refine g_blk hz0 kX6_nextToken_0 ?_
    refine ⟨fun c1 => ?_, fun c1 => ?_⟩
    · rw [if_pos (show (e.1 2) ≤ (e.1 4) from c1)] at hq
      replace hp := hp.1 c1
      refine g_le (L2 := [some (.ref 0), none]) ⟨rfl, trivial⟩ ?_
      exact l_X6_nextToken_37 sc zq e hp hq
    · rw [if_neg (show ¬ ((e.1 2) ≤ (e.1 4)) from c1)] at hq
      replace hp := hp.2 c1
      refine g_blk hz0 kX6_nextToken_11 ?_
      refine cVp [0, 1, 2] (wE e) (s_X6_byteAt e (e.1 4) hp.1) rfl cwX6_byteAt dX6_nextToken_16 rfl rfl (hm22_E_E _) ?_
      replace hp := hp.2
      refine g_blk hz0 kX6_nextToken_19 ?_
      refine ⟨fun c2 => ?_, fun c2 => ?_⟩
      · rw [if_neg (show ¬ ((f_X6_byteAt e (e.1 4)) = (Int32.ofInt 32)) from c2)] at hq
        replace hp := hp.2 c2
        refine g_le (L2 := [some (.ref 0), none]) ⟨rfl, trivial⟩ ?_
        exact l_X6_nextToken_37 sc zq e hp hq
      · rw [if_pos (show (f_X6_byteAt e (e.1 4)) = (Int32.ofInt 32) from c2)] at hq
        replace hp := hp.1 c2
        refine g_blk hz0 kX6_nextToken_24 ?_
        refine ⟨fun h => (by cases h), Or.inl rfl, ?_⟩
        refine g_le (L2 := [some (.ref 0), none]) ⟨rfl, trivial⟩ ?_
        exact ih (setG e 4 ((e.1 4) + (Int32.ofInt 1))) hp hq
def f_X6_nextToken (e : Rec)  : Int32 × Rec := (f_X6_nextToken_0 300 e)
def p_X6_nextToken (e : Rec)  : Prop := (p_X6_nextToken_0 300 e)
set_option maxHeartbeats 16000000 in
set_option maxRecDepth 20000 in
theorem s_X6_nextToken (e : Rec)  (hp : p_X6_nextToken e) : Spec 8 0 0 mX6_nextToken [.ref 0] (wE e) (Ret (some (.int ((f_X6_nextToken e).1))) (wE ((f_X6_nextToken e).2))) := by
  obtain ⟨zq, hq⟩ : ∃ z, z = (f_X6_nextToken e) := ⟨_, rfl⟩
  rw [← hq]
  unfold f_X6_nextToken at hq
  unfold p_X6_nextToken at hp
  refine Sof fun sc => ?_
  refine g_le (L2 := [some (.ref 0), none]) ⟨rfl, trivial⟩ ?_
  exact l_X6_nextToken_0 sc zq 300 e hp hq

def f_X6_readItem_53  : Nat → Rec → Int32 → Int32 → Int32 × Rec
  | 0, e, v2, v3 => (0, e)
  | n + 1, e, v2, v3 => if v2 ≤ v3 then (if ((f_X6_nextToken e).1) = (Int32.ofInt 6) then ((Int32.ofInt 0), ((f_X6_nextToken e).2)) else ((Int32.ofInt 2), ((f_X6_nextToken e).2))) else (if ((f_X6_nextToken e).1) = (Int32.ofInt 5) then (f_X6_readItem_53 n (setA ((f_X6_nextToken e).2) 1 (upd (((f_X6_nextToken e).2).2 1) (Int32.toNatClampNeg v3) (((f_X6_nextToken e).2).1 6))) v2 (v3 + (Int32.ofInt 1))) else ((Int32.ofInt 2), ((f_X6_nextToken e).2)))
def p_X6_readItem_53  : Nat → Rec → Int32 → Int32 → Prop
  | 0, _, _, _ => False
  | n + 1, e, v2, v3 => (v2 ≤ v3 → ((p_X6_nextToken e) ∧ True)) ∧ (¬ (v2 ≤ v3) → ((p_X6_nextToken e) ∧ ((((f_X6_nextToken e).1) = (Int32.ofInt 5) → (vp_in v3 4 ∧ (p_X6_readItem_53 n (setA ((f_X6_nextToken e).2) 1 (upd (((f_X6_nextToken e).2).2 1) (Int32.toNatClampNeg v3) (((f_X6_nextToken e).2).1 6))) v2 (v3 + (Int32.ofInt 1))))) ∧ (¬ (((f_X6_nextToken e).1) = (Int32.ofInt 5)) → True))))
set_option maxHeartbeats 16000000 in
set_option maxRecDepth 20000 in
theorem l_X6_readItem_53 (sc : SC)   (zq : Int32 × Rec)  : ∀ (n : Nat) (e : Rec) (v2 : Int32) (v3 : Int32), p_X6_readItem_53 n e v2 v3 → zq = f_X6_readItem_53 n e v2 v3 → Good sc 9 0 0 3 mX6_readItem (Ret (some (.int (zq.1))) (wE (zq.2))) 0 0 53 [some (.ref 0), none, some (.int v2), some (.int v3)] [] (wE e) := by
  intro n
  induction n with
  | zero => intro e v2 v3 hp; exact hp.elim
  | succ n ih =>
    intro e v2 v3 hp hq
    unfold p_X6_readItem_53 at hp
    unfold f_X6_readItem_53 at hq
    refine g_blk hz0 kX6_readItem_53 ?_
    refine ⟨fun c7 => ?_, fun c7 => ?_⟩
    · rw [if_pos (show v2 ≤ v3 from c7)] at hq
      replace hp := hp.1 c7
      refine g_blk hz0 kX6_readItem_84 ?_
      refine cV [0, 1, 2] (wE e) (s_X6_nextToken e hp.1) rfl cwX6_nextToken dX6_readItem_85 rfl rfl (hm22_E_E _) ((len_E _).trans (len_E _).symm) (wE ((f_X6_nextToken e).2)) (pw84_E_E _ _) ?_
      replace hp := hp.2
      obtain ⟨g8, hg8⟩ : ∃ z, z = (f_X6_nextToken e) := ⟨_, rfl⟩
      try rw [← hg8] at hp
      try rw [← hg8] at hq
      rw [← hg8]
      refine g_blk hz0 kX6_readItem_88 ?_
      refine ⟨fun c9 => ?_, fun c9 => ?_⟩
      · rw [if_neg (show ¬ ((g8.1) = (Int32.ofInt 6)) from c9)] at hq
        refine g_blk hz0 kX6_readItem_97 ?_
        refine g_blk hz0 kX6_readItem_98 ?_
        subst hq
        exact ⟨fun h => (by cases h), rfl, rfl⟩
      · rw [if_pos (show (g8.1) = (Int32.ofInt 6) from c9)] at hq
        refine g_blk hz0 kX6_readItem_93 ?_
        refine g_blk hz0 kX6_readItem_98 ?_
        subst hq
        exact ⟨fun h => (by cases h), rfl, rfl⟩
    · rw [if_neg (show ¬ (v2 ≤ v3) from c7)] at hq
      replace hp := hp.2 c7
      refine g_blk hz0 kX6_readItem_58 ?_
      refine cV [0, 1, 2] (wE e) (s_X6_nextToken e hp.1) rfl cwX6_nextToken dX6_readItem_59 rfl rfl (hm22_E_E _) ((len_E _).trans (len_E _).symm) (wE ((f_X6_nextToken e).2)) (pw84_E_E _ _) ?_
      replace hp := hp.2
      obtain ⟨g10, hg10⟩ : ∃ z, z = (f_X6_nextToken e) := ⟨_, rfl⟩
      try rw [← hg10] at hp
      try rw [← hg10] at hq
      rw [← hg10]
      refine g_blk hz0 kX6_readItem_62 ?_
      refine ⟨fun c11 => ?_, fun c11 => ?_⟩
      · rw [if_pos (show (g10.1) = (Int32.ofInt 5) from c11)] at hq
        replace hp := hp.1 c11
        refine g_blk hz0 kX6_readItem_68 ?_
        refine ⟨hp.1, ?_⟩
        replace hp := hp.2
        refine g_le (L2 := [some (.ref 0), none, some (.int v2), some (.int (v3 + (Int32.ofInt 1)))]) ⟨rfl, rfl, rfl, trivial⟩ ?_
        exact ih (setA (g10.2) 1 (upd ((g10.2).2 1) (Int32.toNatClampNeg v3) ((g10.2).1 6))) v2 (v3 + (Int32.ofInt 1)) hp hq
      · rw [if_neg (show ¬ ((g10.1) = (Int32.ofInt 5)) from c11)] at hq
        refine g_blk hz0 kX6_readItem_66 ?_
        subst hq
        exact ⟨fun h => (by cases h), rfl, rfl⟩
def f_X6_readItem (e : Rec)  : Int32 × Rec := if ((f_X6_nextToken e).1) = (Int32.ofInt 1) then ((Int32.ofInt 1), ((f_X6_nextToken e).2)) else (if ((f_X6_nextToken e).1) = (Int32.ofInt 3) then (if ((f_X6_nextToken e).1) = (Int32.ofInt 3) then (f_X6_readItem_53 300 (setG ((f_X6_nextToken e).2) 3 ((Int32.ofInt 1))) ((Int32.ofInt 4)) ((Int32.ofInt 0))) else (f_X6_readItem_53 300 (setG ((f_X6_nextToken e).2) 3 ((Int32.ofInt 0))) ((Int32.ofInt 3)) ((Int32.ofInt 0)))) else (if ((f_X6_nextToken e).1) = (Int32.ofInt 4) then (if ((f_X6_nextToken e).1) = (Int32.ofInt 3) then (f_X6_readItem_53 300 (setG ((f_X6_nextToken e).2) 3 ((Int32.ofInt 1))) ((Int32.ofInt 4)) ((Int32.ofInt 0))) else (f_X6_readItem_53 300 (setG ((f_X6_nextToken e).2) 3 ((Int32.ofInt 0))) ((Int32.ofInt 3)) ((Int32.ofInt 0)))) else ((Int32.ofInt 2), ((f_X6_nextToken e).2))))
def p_X6_readItem (e : Rec)  : Prop := (p_X6_nextToken e) ∧ ((((f_X6_nextToken e).1) = (Int32.ofInt 1) → True) ∧ (¬ (((f_X6_nextToken e).1) = (Int32.ofInt 1)) → ((((f_X6_nextToken e).1) = (Int32.ofInt 3) → ((((f_X6_nextToken e).1) = (Int32.ofInt 3) → (p_X6_readItem_53 300 (setG ((f_X6_nextToken e).2) 3 ((Int32.ofInt 1))) ((Int32.ofInt 4)) ((Int32.ofInt 0)))) ∧ (¬ (((f_X6_nextToken e).1) = (Int32.ofInt 3)) → (p_X6_readItem_53 300 (setG ((f_X6_nextToken e).2) 3 ((Int32.ofInt 0))) ((Int32.ofInt 3)) ((Int32.ofInt 0)))))) ∧ (¬ (((f_X6_nextToken e).1) = (Int32.ofInt 3)) → ((((f_X6_nextToken e).1) = (Int32.ofInt 4) → ((((f_X6_nextToken e).1) = (Int32.ofInt 3) → (p_X6_readItem_53 300 (setG ((f_X6_nextToken e).2) 3 ((Int32.ofInt 1))) ((Int32.ofInt 4)) ((Int32.ofInt 0)))) ∧ (¬ (((f_X6_nextToken e).1) = (Int32.ofInt 3)) → (p_X6_readItem_53 300 (setG ((f_X6_nextToken e).2) 3 ((Int32.ofInt 0))) ((Int32.ofInt 3)) ((Int32.ofInt 0)))))) ∧ (¬ (((f_X6_nextToken e).1) = (Int32.ofInt 4)) → True))))))
set_option maxHeartbeats 16000000 in
set_option maxRecDepth 20000 in
theorem s_X6_readItem (e : Rec)  (hp : p_X6_readItem e) : Spec 9 0 0 mX6_readItem [.ref 0] (wE e) (Ret (some (.int ((f_X6_readItem e).1))) (wE ((f_X6_readItem e).2))) := by
  obtain ⟨zq, hq⟩ : ∃ z, z = (f_X6_readItem e) := ⟨_, rfl⟩
  rw [← hq]
  unfold f_X6_readItem at hq
  unfold p_X6_readItem at hp
  refine Sof fun sc => ?_
  refine g_blk hz0 kX6_readItem_0 ?_
  refine cV [0, 1, 2] (wE e) (s_X6_nextToken e hp.1) rfl cwX6_nextToken dX6_readItem_1 rfl rfl (hm22_E_E _) ((len_E _).trans (len_E _).symm) (wE ((f_X6_nextToken e).2)) (pw84_E_E _ _) ?_
  replace hp := hp.2
  obtain ⟨g1, hg1⟩ : ∃ z, z = (f_X6_nextToken e) := ⟨_, rfl⟩
  try rw [← hg1] at hp
  try rw [← hg1] at hq
  rw [← hg1]
  refine g_blk hz0 kX6_readItem_4 ?_
  refine ⟨fun c2 => ?_, fun c2 => ?_⟩
  · rw [if_neg (show ¬ ((g1.1) = (Int32.ofInt 1)) from c2)] at hq
    replace hp := hp.2 c2
    refine g_blk hz0 kX6_readItem_12 ?_
    refine ⟨fun c3 => ?_, fun c3 => ?_⟩
    · rw [if_pos (show (g1.1) = (Int32.ofInt 3) from c3)] at hq
      replace hp := hp.1 c3
      refine g_blk hz0 kX6_readItem_24 ?_
      refine ⟨fun c4 => ?_, fun c4 => ?_⟩
      · rw [if_neg (show ¬ ((g1.1) = (Int32.ofInt 3)) from c4)] at hq
        replace hp := hp.2 c4
        refine g_blk hz0 kX6_readItem_34 ?_
        refine g_blk hz0 kX6_readItem_35 ?_
        refine ⟨fun _ => Or.inl rfl, Or.inr rfl, ?_⟩
        refine ⟨fun _ => ?_, fun c => absurd c (by decide)⟩
        refine g_blk hz0 kX6_readItem_49 ?_
        refine g_blk hz0 kX6_readItem_50 ?_
        refine g_le (L2 := [some (.ref 0), none, some (.int (Int32.ofInt 3)), some (.int (Int32.ofInt 0))]) ⟨rfl, rfl, rfl, trivial⟩ ?_
        exact l_X6_readItem_53 sc zq 300 (setG (g1.2) 3 ((Int32.ofInt 0))) ((Int32.ofInt 3)) ((Int32.ofInt 0)) hp hq
      · rw [if_pos (show (g1.1) = (Int32.ofInt 3) from c4)] at hq
        replace hp := hp.1 c4
        refine g_blk hz0 kX6_readItem_30 ?_
        refine g_blk hz0 kX6_readItem_35 ?_
        refine ⟨fun _ => Or.inr rfl, Or.inr rfl, ?_⟩
        refine ⟨fun c => absurd c (by decide), fun _ => ?_⟩
        refine g_blk hz0 kX6_readItem_45 ?_
        refine g_blk hz0 kX6_readItem_50 ?_
        refine g_le (L2 := [some (.ref 0), none, some (.int (Int32.ofInt 4)), some (.int (Int32.ofInt 0))]) ⟨rfl, rfl, rfl, trivial⟩ ?_
        exact l_X6_readItem_53 sc zq 300 (setG (g1.2) 3 ((Int32.ofInt 1))) ((Int32.ofInt 4)) ((Int32.ofInt 0)) hp hq
    · rw [if_neg (show ¬ ((g1.1) = (Int32.ofInt 3)) from c3)] at hq
      replace hp := hp.2 c3
      refine g_blk hz0 kX6_readItem_17 ?_
      refine ⟨fun c5 => ?_, fun c5 => ?_⟩
      · rw [if_pos (show (g1.1) = (Int32.ofInt 4) from c5)] at hq
        replace hp := hp.1 c5
        refine g_blk hz0 kX6_readItem_24 ?_
        refine ⟨fun c6 => ?_, fun c6 => ?_⟩
        · rw [if_neg (show ¬ ((g1.1) = (Int32.ofInt 3)) from c6)] at hq
          replace hp := hp.2 c6
          refine g_blk hz0 kX6_readItem_34 ?_
          refine g_blk hz0 kX6_readItem_35 ?_
          refine ⟨fun _ => Or.inl rfl, Or.inr rfl, ?_⟩
          refine ⟨fun _ => ?_, fun c => absurd c (by decide)⟩
          refine g_blk hz0 kX6_readItem_49 ?_
          refine g_blk hz0 kX6_readItem_50 ?_
          refine g_le (L2 := [some (.ref 0), none, some (.int (Int32.ofInt 3)), some (.int (Int32.ofInt 0))]) ⟨rfl, rfl, rfl, trivial⟩ ?_
          exact l_X6_readItem_53 sc zq 300 (setG (g1.2) 3 ((Int32.ofInt 0))) ((Int32.ofInt 3)) ((Int32.ofInt 0)) hp hq
        · rw [if_pos (show (g1.1) = (Int32.ofInt 3) from c6)] at hq
          replace hp := hp.1 c6
          refine g_blk hz0 kX6_readItem_30 ?_
          refine g_blk hz0 kX6_readItem_35 ?_
          refine ⟨fun _ => Or.inr rfl, Or.inr rfl, ?_⟩
          refine ⟨fun c => absurd c (by decide), fun _ => ?_⟩
          refine g_blk hz0 kX6_readItem_45 ?_
          refine g_blk hz0 kX6_readItem_50 ?_
          refine g_le (L2 := [some (.ref 0), none, some (.int (Int32.ofInt 4)), some (.int (Int32.ofInt 0))]) ⟨rfl, rfl, rfl, trivial⟩ ?_
          exact l_X6_readItem_53 sc zq 300 (setG (g1.2) 3 ((Int32.ofInt 1))) ((Int32.ofInt 4)) ((Int32.ofInt 0)) hp hq
      · rw [if_neg (show ¬ ((g1.1) = (Int32.ofInt 4)) from c5)] at hq
        refine g_blk hz0 kX6_readItem_22 ?_
        subst hq
        exact ⟨fun h => (by cases h), rfl, rfl⟩
  · rw [if_pos (show (g1.1) = (Int32.ofInt 1) from c2)] at hq
    refine g_blk hz0 kX6_readItem_10 ?_
    subst hq
    exact ⟨fun h => (by cases h), rfl, rfl⟩

def f_X6_faultPlace_8  : Nat → Rec → Int32 → Int32 → Int32 × Rec
  | 0, e, v1, v2 => (0, e)
  | n + 1, e, v1, v2 => if (Int32.ofInt 200) < v2 then (if v1 = (Int32.ofInt 2) then ((e.1 5), e) else ((Int32.ofInt (-1)), e)) else (if v1 = 0 then (f_X6_faultPlace_8 n ((f_X6_readItem e).2) ((f_X6_readItem e).1) (v2 + (Int32.ofInt 1))) else (if v1 = (Int32.ofInt 2) then ((e.1 5), e) else ((Int32.ofInt (-1)), e)))
def p_X6_faultPlace_8  : Nat → Rec → Int32 → Int32 → Prop
  | 0, _, _, _ => False
  | n + 1, e, v1, v2 => ((Int32.ofInt 200) < v2 → True) ∧ (¬ ((Int32.ofInt 200) < v2) → ((v1 = 0 → ((p_X6_readItem e) ∧ (p_X6_faultPlace_8 n ((f_X6_readItem e).2) ((f_X6_readItem e).1) (v2 + (Int32.ofInt 1))))) ∧ (¬ (v1 = 0) → True)))
set_option maxHeartbeats 16000000 in
set_option maxRecDepth 20000 in
theorem l_X6_faultPlace_8 (sc : SC)   (zq : Int32 × Rec)  : ∀ (n : Nat) (e : Rec) (v1 : Int32) (v2 : Int32), p_X6_faultPlace_8 n e v1 v2 → zq = f_X6_faultPlace_8 n e v1 v2 → Good sc 10 0 0 3 mX6_faultPlace (Ret (some (.int (zq.1))) (wE (zq.2))) 0 0 8 [some (.ref 0), some (.int v1), some (.int v2)] [] (wE e) := by
  intro n
  induction n with
  | zero => intro e v1 v2 hp; exact hp.elim
  | succ n ih =>
    intro e v1 v2 hp hq
    unfold p_X6_faultPlace_8 at hp
    unfold f_X6_faultPlace_8 at hq
    refine g_blk hz0 kX6_faultPlace_8 ?_
    refine ⟨fun c2 => ?_, fun c2 => ?_⟩
    · rw [if_pos (show (Int32.ofInt 200) < v2 from c2)] at hq
      refine g_blk hz0 kX6_faultPlace_30 ?_
      refine ⟨fun c3 => ?_, fun c3 => ?_⟩
      · rw [if_neg (show ¬ (v1 = (Int32.ofInt 2)) from c3)] at hq
        refine g_blk hz0 kX6_faultPlace_42 ?_
        refine g_blk hz0 kX6_faultPlace_43 ?_
        subst hq
        exact ⟨fun h => (by cases h), rfl, rfl⟩
      · rw [if_pos (show v1 = (Int32.ofInt 2) from c3)] at hq
        refine g_blk hz0 kX6_faultPlace_35 ?_
        refine g_blk hz0 kX6_faultPlace_43 ?_
        subst hq
        exact ⟨fun h => (by cases h), rfl, rfl⟩
    · rw [if_neg (show ¬ ((Int32.ofInt 200) < v2) from c2)] at hq
      replace hp := hp.2 c2
      refine g_blk hz0 kX6_faultPlace_15 ?_
      refine ⟨fun c4 => ?_, fun c4 => ?_⟩
      · rw [if_neg (show ¬ (v1 = 0) from c4)] at hq
        refine g_blk hz0 kX6_faultPlace_30 ?_
        refine ⟨fun c6 => ?_, fun c6 => ?_⟩
        · rw [if_neg (show ¬ (v1 = (Int32.ofInt 2)) from c6)] at hq
          refine g_blk hz0 kX6_faultPlace_42 ?_
          refine g_blk hz0 kX6_faultPlace_43 ?_
          subst hq
          exact ⟨fun h => (by cases h), rfl, rfl⟩
        · rw [if_pos (show v1 = (Int32.ofInt 2) from c6)] at hq
          refine g_blk hz0 kX6_faultPlace_35 ?_
          refine g_blk hz0 kX6_faultPlace_43 ?_
          subst hq
          exact ⟨fun h => (by cases h), rfl, rfl⟩
      · rw [if_pos (show v1 = 0 from c4)] at hq
        replace hp := hp.1 c4
        refine g_blk hz0 kX6_faultPlace_19 ?_
        refine cV [0, 1, 2] (wE e) (s_X6_readItem e hp.1) rfl cwX6_readItem dX6_faultPlace_20 rfl rfl (hm22_E_E _) ((len_E _).trans (len_E _).symm) (wE ((f_X6_readItem e).2)) (pw84_E_E _ _) ?_
        replace hp := hp.2
        obtain ⟨g5, hg5⟩ : ∃ z, z = (f_X6_readItem e) := ⟨_, rfl⟩
        try rw [← hg5] at hp
        try rw [← hg5] at hq
        rw [← hg5]
        refine g_blk hz0 kX6_faultPlace_23 ?_
        refine g_le (L2 := [some (.ref 0), some (.int (g5.1)), some (.int (v2 + (Int32.ofInt 1)))]) ⟨rfl, rfl, rfl, trivial⟩ ?_
        exact ih (g5.2) (g5.1) (v2 + (Int32.ofInt 1)) hp hq
def f_X6_faultPlace (e : Rec)  : Int32 × Rec := (f_X6_faultPlace_8 300 (f_X6_rewind e) ((Int32.ofInt 0)) ((Int32.ofInt 0)))
def p_X6_faultPlace (e : Rec)  : Prop := (p_X6_faultPlace_8 300 (f_X6_rewind e) ((Int32.ofInt 0)) ((Int32.ofInt 0)))
set_option maxHeartbeats 16000000 in
set_option maxRecDepth 20000 in
theorem s_X6_faultPlace (e : Rec)  (hp : p_X6_faultPlace e) : Spec 10 0 0 mX6_faultPlace [.ref 0] (wE e) (Ret (some (.int ((f_X6_faultPlace e).1))) (wE ((f_X6_faultPlace e).2))) := by
  obtain ⟨zq, hq⟩ : ∃ z, z = (f_X6_faultPlace e) := ⟨_, rfl⟩
  rw [← hq]
  unfold f_X6_faultPlace at hq
  unfold p_X6_faultPlace at hp
  refine Sof fun sc => ?_
  refine g_blk hz0 kX6_faultPlace_0 ?_
  refine cV [0, 1, 2] (wE e) (s_X6_rewind e) rfl cwX6_rewind dX6_faultPlace_1 rfl rfl (hm22_E_E _) ((len_E _).trans (len_E _).symm) (wE (f_X6_rewind e)) (pw84_E_E _ _) ?_
  obtain ⟨g1, hg1⟩ : ∃ z, z = (f_X6_rewind e) := ⟨_, rfl⟩
  try rw [← hg1] at hp
  try rw [← hg1] at hq
  rw [← hg1]
  refine g_blk hz0 kX6_faultPlace_4 ?_
  refine g_le (L2 := [some (.ref 0), some (.int (Int32.ofInt 0)), some (.int (Int32.ofInt 0))]) ⟨rfl, rfl, rfl, trivial⟩ ?_
  exact l_X6_faultPlace_8 sc zq 300 g1 ((Int32.ofInt 0)) ((Int32.ofInt 0)) hp hq
