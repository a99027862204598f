def f_X3_isIn (s : Rec) (p : Rec) (m : Int32) : Int32 := if m < 0 then (Int32.ofInt 0) else (if (p.1 5) ≤ m then (Int32.ofInt 0) else (if ((p.2 4) (Int32.toNatClampNeg m)) < 0 then (Int32.ofInt 0) else (if (Int32.ofInt 36) ≤ ((p.2 4) (Int32.toNatClampNeg m)) then (Int32.ofInt 0) else (Int32.ofInt 1))))
def p_X3_isIn (s : Rec) (p : Rec) (m : Int32) : Prop := (m < 0 → True) ∧ (¬ (m < 0) → (((p.1 5) ≤ m → True) ∧ (¬ ((p.1 5) ≤ m) → (vp_in m 8 ∧ ((((p.2 4) (Int32.toNatClampNeg m)) < 0 → True) ∧ (¬ (((p.2 4) (Int32.toNatClampNeg m)) < 0) → (vp_in m 8 ∧ True)))))))
theorem z_X3_isIn (s : Rec) (p : Rec) (m : Int32) : (f_X3_isIn s p m) = 0 ∨ (f_X3_isIn s p m) = 1 := by
  unfold f_X3_isIn
  repeat' split
  all_goals first | exact Or.inl rfl | exact Or.inr rfl | apply z_any <;> assumption
set_option maxHeartbeats 16000000 in
set_option maxRecDepth 20000 in
theorem s_X3_isIn (s : Rec) (p : Rec) (m : Int32) (hp : p_X3_isIn s p m) : Spec 0 0 0 mX3_isIn [.ref 0, .int m] (wP s p) (Ret (some (.int ((f_X3_isIn s p m)))) (wP s p)) := by
  obtain ⟨zq, hq⟩ : ∃ z, z = (f_X3_isIn s p m) := ⟨_, rfl⟩
  rw [← hq]
  unfold f_X3_isIn at hq
  unfold p_X3_isIn at hp
  refine Sof fun sc => ?_
  refine g_blk hz0 kX3_isIn_0 ?_
  refine ⟨fun c1 => ?_, fun c1 => ?_⟩
  · rw [if_pos (show m < 0 from c1)] at hq
    refine g_blk hz0 kX3_isIn_36 ?_
    refine g_blk hz0 kX3_isIn_37 ?_
    subst hq
    exact ⟨fun _ => Or.inl rfl, rfl, rfl⟩
  · rw [if_neg (show ¬ (m < 0) from c1)] at hq
    replace hp := hp.2 c1
    refine g_blk hz0 kX3_isIn_4 ?_
    refine ⟨fun c2 => ?_, fun c2 => ?_⟩
    · rw [if_pos (show (p.1 5) ≤ m from c2)] at hq
      refine g_blk hz0 kX3_isIn_36 ?_
      refine g_blk hz0 kX3_isIn_37 ?_
      subst hq
      exact ⟨fun _ => Or.inl rfl, rfl, rfl⟩
    · rw [if_neg (show ¬ ((p.1 5) ≤ m) from c2)] at hq
      replace hp := hp.2 c2
      refine g_blk hz0 kX3_isIn_12 ?_
      refine ⟨hp.1, ?_⟩
      replace hp := hp.2
      refine ⟨fun c3 => ?_, fun c3 => ?_⟩
      · rw [if_pos (show ((p.2 4) (Int32.toNatClampNeg m)) < 0 from c3)] at hq
        refine g_blk hz0 kX3_isIn_36 ?_
        refine g_blk hz0 kX3_isIn_37 ?_
        subst hq
        exact ⟨fun _ => Or.inl rfl, rfl, rfl⟩
      · rw [if_neg (show ¬ (((p.2 4) (Int32.toNatClampNeg m)) < 0) from c3)] at hq
        replace hp := hp.2 c3
        refine g_blk hz0 kX3_isIn_21 ?_
        refine ⟨hp.1, ?_⟩
        replace hp := hp.2
        refine ⟨fun c4 => ?_, fun c4 => ?_⟩
        · rw [if_pos (show (Int32.ofInt 36) ≤ ((p.2 4) (Int32.toNatClampNeg m)) from c4)] at hq
          refine g_blk hz0 kX3_isIn_36 ?_
          refine g_blk hz0 kX3_isIn_37 ?_
          subst hq
          exact ⟨fun _ => Or.inl rfl, rfl, rfl⟩
        · rw [if_neg (show ¬ ((Int32.ofInt 36) ≤ ((p.2 4) (Int32.toNatClampNeg m))) from c4)] at hq
          refine g_blk hz0 kX3_isIn_32 ?_
          refine g_blk hz0 kX3_isIn_37 ?_
          subst hq
          exact ⟨fun _ => Or.inr rfl, rfl, rfl⟩

set_option maxHeartbeats 16000000 in
theorem hm4_P_P (s : Rec) (p : Rec) : [0, 1, 2, 3, 4, 5, 6, 7, 8, 9, 10, 11].map (lk (wP s p)) = (wP s p).map (fun e => some (ren [0, 1, 2, 3, 4, 5, 6, 7, 8, 9, 10, 11] e)) := rfl
set_option maxHeartbeats 16000000 in
theorem pw5_P_P (s : Rec) (p : Rec)  : putW (wP s p) [0, 1, 2, 3, 4, 5, 6, 7, 8, 9, 10, 11] ((wP s p).map (ren [0, 1, 2, 3, 4, 5, 6, 7, 8, 9, 10, 11])) = (wP s p) := rfl
def f_X3_manOn_2  : Nat → Rec → Rec → Int32 → Int32 → Int32
  | 0, s, p, v1, v2 => 0
  | n + 1, s, p, v1, v2 => if (p.1 5) ≤ v2 then (Int32.ofInt (-1)) else (if (f_X3_isIn s p v2) = 0 then (f_X3_manOn_2 n s p v1 (v2 + (Int32.ofInt 1))) else (if ((p.2 4) (Int32.toNatClampNeg v2)) = v1 then v2 else (f_X3_manOn_2 n s p v1 (v2 + (Int32.ofInt 1)))))
def p_X3_manOn_2  : Nat → Rec → Rec → Int32 → Int32 → Prop
  | 0, _, _, _, _ => False
  | n + 1, s, p, v1, v2 => ((p.1 5) ≤ v2 → True) ∧ (¬ ((p.1 5) ≤ v2) → ((p_X3_isIn s p v2) ∧ (((f_X3_isIn s p v2) = 0 → (p_X3_manOn_2 n s p v1 (v2 + (Int32.ofInt 1)))) ∧ (¬ ((f_X3_isIn s p v2) = 0) → (vp_in v2 8 ∧ ((((p.2 4) (Int32.toNatClampNeg v2)) = v1 → True) ∧ (¬ (((p.2 4) (Int32.toNatClampNeg v2)) = v1) → (p_X3_manOn_2 n s p v1 (v2 + (Int32.ofInt 1))))))))))
set_option maxHeartbeats 16000000 in
set_option maxRecDepth 20000 in
theorem l_X3_manOn_2 (sc : SC) (s : Rec) (p : Rec)  (zq : Int32)  : ∀ (n : Nat)  (v1 : Int32) (v2 : Int32), p_X3_manOn_2 n s p v1 v2 → zq = f_X3_manOn_2 n s p v1 v2 → Good sc 1 0 0 12 mX3_manOn (Ret (some (.int (zq))) (wP s p)) 0 0 2 [some (.ref 0), some (.int v1), some (.int v2)] [] (wP s p) := by
  intro n
  induction n with
  | zero => intro v1 v2 hp; exact hp.elim
  | succ n ih =>
    intro v1 v2 hp hq
    unfold p_X3_manOn_2 at hp
    unfold f_X3_manOn_2 at hq
    refine g_blk hz0 kX3_manOn_2 ?_
    refine ⟨fun c1 => ?_, fun c1 => ?_⟩
    · rw [if_pos (show (p.1 5) ≤ v2 from c1)] at hq
      refine g_blk hz0 kX3_manOn_36 ?_
      subst hq
      exact ⟨fun h => (by cases h), rfl, rfl⟩
    · rw [if_neg (show ¬ ((p.1 5) ≤ v2) from c1)] at hq
      replace hp := hp.2 c1
      refine g_blk hz0 kX3_manOn_10 ?_
      refine cVp [0, 1, 2, 3, 4, 5, 6, 7, 8, 9, 10, 11] (wP s p) (s_X3_isIn s p v2 hp.1) rfl cwX3_isIn dX3_manOn_12 rfl rfl (hm4_P_P _ _) ?_
      replace hp := hp.2
      refine g_blk hz0 kX3_manOn_15 ?_
      refine ⟨fun c2 => ?_, fun c2 => ?_⟩
      · rw [if_pos (show (f_X3_isIn s p v2) = 0 from c2)] at hq
        replace hp := hp.1 c2
        refine g_blk hz0 kX3_manOn_30 ?_
        refine g_le (L2 := [some (.ref 0), some (.int v1), some (.int (v2 + (Int32.ofInt 1)))]) ⟨rfl, rfl, rfl, trivial⟩ ?_
        exact ih v1 (v2 + (Int32.ofInt 1)) hp hq
      · rw [if_neg (show ¬ ((f_X3_isIn s p v2) = 0) from c2)] at hq
        replace hp := hp.2 c2
        refine g_blk hz0 kX3_manOn_18 ?_
        refine ⟨hp.1, ?_⟩
        replace hp := hp.2
        refine ⟨fun c3 => ?_, fun c3 => ?_⟩
        · rw [if_neg (show ¬ (((p.2 4) (Int32.toNatClampNeg v2)) = v1) from c3)] at hq
          replace hp := hp.2 c3
          refine g_blk hz0 kX3_manOn_30 ?_
          refine g_le (L2 := [some (.ref 0), some (.int v1), some (.int (v2 + (Int32.ofInt 1)))]) ⟨rfl, rfl, rfl, trivial⟩ ?_
          exact ih v1 (v2 + (Int32.ofInt 1)) hp hq
        · rw [if_pos (show ((p.2 4) (Int32.toNatClampNeg v2)) = v1 from c3)] at hq
          refine g_blk hz0 kX3_manOn_28 ?_
          subst hq
          exact ⟨fun h => (by cases h), rfl, rfl⟩
def f_X3_manOn (s : Rec) (p : Rec) (c : Int32) : Int32 := (f_X3_manOn_2 40 s p c ((Int32.ofInt 0)))
def p_X3_manOn (s : Rec) (p : Rec) (c : Int32) : Prop := (p_X3_manOn_2 40 s p c ((Int32.ofInt 0)))
set_option maxHeartbeats 16000000 in
set_option maxRecDepth 20000 in
theorem s_X3_manOn (s : Rec) (p : Rec) (c : Int32) (hp : p_X3_manOn s p c) : Spec 1 0 0 mX3_manOn [.ref 0, .int c] (wP s p) (Ret (some (.int ((f_X3_manOn s p c)))) (wP s p)) := by
  obtain ⟨zq, hq⟩ : ∃ z, z = (f_X3_manOn s p c) := ⟨_, rfl⟩
  rw [← hq]
  unfold f_X3_manOn at hq
  unfold p_X3_manOn at hp
  refine Sof fun sc => ?_
  refine g_blk hz0 kX3_manOn_0 ?_
  refine g_le (L2 := [some (.ref 0), some (.int c), some (.int (Int32.ofInt 0))]) ⟨rfl, rfl, rfl, trivial⟩ ?_
  exact l_X3_manOn_2 sc s p zq 40 c ((Int32.ofInt 0)) hp hq

def f_X3_onTurn (s : Rec) (p : Rec)  : Int32 := ((p.1 6) - (p.1 6) / (Int32.ofInt 2) * (Int32.ofInt 2))
set_option maxHeartbeats 16000000 in
set_option maxRecDepth 20000 in
theorem s_X3_onTurn (s : Rec) (p : Rec)  : Spec 0 0 0 mX3_onTurn [.ref 0] (wP s p) (Ret (some (.int ((f_X3_onTurn s p)))) (wP s p)) := by
  obtain ⟨zq, hq⟩ : ∃ z, z = (f_X3_onTurn s p) := ⟨_, rfl⟩
  rw [← hq]
  unfold f_X3_onTurn at hq
  refine Sof fun sc => ?_
  refine g_blk hz0 kX3_onTurn_0 ?_
  refine ⟨by decide, ?_⟩
  subst hq
  exact ⟨fun h => (by cases h), rfl, rfl⟩

def f_X3_powerOf (s : Rec) (p : Rec) (m : Int32) : Int32 := if (f_X3_isIn s p m) = 0 then (Int32.ofInt 0) else (f_X8_powerOfKind ((p.2 1) (Int32.toNatClampNeg m)) ((p.2 3) (Int32.toNatClampNeg m)) ((s.2 9) (Int32.toNatClampNeg ((p.2 4) (Int32.toNatClampNeg m)))))
def p_X3_powerOf (s : Rec) (p : Rec) (m : Int32) : Prop := (p_X3_isIn s p m) ∧ (((f_X3_isIn s p m) = 0 → True) ∧ (¬ ((f_X3_isIn s p m) = 0) → (vp_in m 8 ∧ (vp_in m 8 ∧ (vp_in m 8 ∧ (vp_in ((p.2 4) (Int32.toNatClampNeg m)) 36 ∧ True))))))
set_option maxHeartbeats 16000000 in
set_option maxRecDepth 20000 in
theorem s_X3_powerOf (s : Rec) (p : Rec) (m : Int32) (hp : p_X3_powerOf s p m) : Spec 1 0 0 mX3_powerOf [.ref 0, .int m] (wP s p) (Ret (some (.int ((f_X3_powerOf s p m)))) (wP s p)) := by
  obtain ⟨zq, hq⟩ : ∃ z, z = (f_X3_powerOf s p m) := ⟨_, rfl⟩
  rw [← hq]
  unfold f_X3_powerOf at hq
  unfold p_X3_powerOf at hp
  refine Sof fun sc => ?_
  refine g_blk hz0 kX3_powerOf_0 ?_
  refine cVp [0, 1, 2, 3, 4, 5, 6, 7, 8, 9, 10, 11] (wP s p) (s_X3_isIn s p m hp.1) rfl cwX3_isIn dX3_powerOf_2 rfl rfl (hm4_P_P _ _) ?_
  replace hp := hp.2
  refine g_blk hz0 kX3_powerOf_5 ?_
  refine ⟨fun c1 => ?_, fun c1 => ?_⟩
  · rw [if_pos (show (f_X3_isIn s p m) = 0 from c1)] at hq
    refine g_blk hz0 kX3_powerOf_40 ?_
    refine g_blk hz0 kX3_powerOf_41 ?_
    subst hq
    exact ⟨fun h => (by cases h), rfl, rfl⟩
  · rw [if_neg (show ¬ ((f_X3_isIn s p m) = 0) from c1)] at hq
    replace hp := hp.2 c1
    refine g_blk hz0 kX3_powerOf_8 ?_
    refine ⟨hp.1, ?_⟩
    replace hp := hp.2
    refine ⟨hp.1, ?_⟩
    replace hp := hp.2
    refine ⟨hp.1, ?_⟩
    replace hp := hp.2
    refine ⟨hp.1, ?_⟩
    replace hp := hp.2
    refine cS0 (s_X8_powerOfKind ((p.2 1) (Int32.toNatClampNeg m)) ((p.2 3) (Int32.toNatClampNeg m)) ((s.2 9) (Int32.toNatClampNeg ((p.2 4) (Int32.toNatClampNeg m))))) rfl cwX8_powerOfKind dX3_powerOf_34 rfl ?_
    refine g_blk hz0 kX3_powerOf_37 ?_
    refine g_blk hz0 kX3_powerOf_41 ?_
    subst hq
    exact ⟨fun h => (by cases h), rfl, rfl⟩

set_option maxHeartbeats 16000000 in
theorem hm5_P_S (s : Rec) (p : Rec) : [1, 2, 3, 4, 5, 6, 7].map (lk (wP s p)) = (wS s).map (fun e => some (ren [1, 2, 3, 4, 5, 6, 7] e)) := rfl
set_option maxHeartbeats 16000000 in
theorem pw6_P_S (s : Rec) (p : Rec)  : putW (wP s p) [1, 2, 3, 4, 5, 6, 7] ((wS s).map (ren [1, 2, 3, 4, 5, 6, 7])) = (wP s p) := rfl
def f_X3_rulerAt_11  : Nat → Rec → Rec → Int32 → Int32 → Int32 → Int32 → Int32 → Int32 → Int32
  | 0, s, p, v1, v2, v3, v4, v5, v6 => 0
  | n + 1, s, p, v1, v2, v3, v4, v5, v6 => if (p.1 5) ≤ v6 then v3 else (if (f_X4_liesAt s ((p.2 4) (Int32.toNatClampNeg v6)) v1 v2) = 0 then (f_X3_rulerAt_11 n s p v1 v2 v3 v4 v5 (v6 + (Int32.ofInt 1))) else (if v3 = (Int32.ofInt (-1)) then (f_X3_rulerAt_11 n s p v1 v2 v6 (f_X8_powerOfKind ((p.2 1) (Int32.toNatClampNeg v6)) ((p.2 3) (Int32.toNatClampNeg v6)) ((s.2 9) (Int32.toNatClampNeg ((p.2 4) (Int32.toNatClampNeg v6))))) ((s.2 12) (Int32.toNatClampNeg ((p.2 4) (Int32.toNatClampNeg v6)))) (v6 + (Int32.ofInt 1))) else (if v4 < (f_X8_powerOfKind ((p.2 1) (Int32.toNatClampNeg v6)) ((p.2 3) (Int32.toNatClampNeg v6)) ((s.2 9) (Int32.toNatClampNeg ((p.2 4) (Int32.toNatClampNeg v6))))) then (f_X3_rulerAt_11 n s p v1 v2 v6 (f_X8_powerOfKind ((p.2 1) (Int32.toNatClampNeg v6)) ((p.2 3) (Int32.toNatClampNeg v6)) ((s.2 9) (Int32.toNatClampNeg ((p.2 4) (Int32.toNatClampNeg v6))))) ((s.2 12) (Int32.toNatClampNeg ((p.2 4) (Int32.toNatClampNeg v6)))) (v6 + (Int32.ofInt 1))) else (if (f_X8_powerOfKind ((p.2 1) (Int32.toNatClampNeg v6)) ((p.2 3) (Int32.toNatClampNeg v6)) ((s.2 9) (Int32.toNatClampNeg ((p.2 4) (Int32.toNatClampNeg v6))))) = v4 then (if ((s.2 12) (Int32.toNatClampNeg ((p.2 4) (Int32.toNatClampNeg v6)))) ≤ v5 then (f_X3_rulerAt_11 n s p v1 v2 v3 v4 v5 (v6 + (Int32.ofInt 1))) else (f_X3_rulerAt_11 n s p v1 v2 v6 (f_X8_powerOfKind ((p.2 1) (Int32.toNatClampNeg v6)) ((p.2 3) (Int32.toNatClampNeg v6)) ((s.2 9) (Int32.toNatClampNeg ((p.2 4) (Int32.toNatClampNeg v6))))) ((s.2 12) (Int32.toNatClampNeg ((p.2 4) (Int32.toNatClampNeg v6)))) (v6 + (Int32.ofInt 1)))) else (f_X3_rulerAt_11 n s p v1 v2 v3 v4 v5 (v6 + (Int32.ofInt 1)))))))
def p_X3_rulerAt_11  : Nat → Rec → Rec → Int32 → Int32 → Int32 → Int32 → Int32 → Int32 → Prop
  | 0, _, _, _, _, _, _, _, _ => False
  | n + 1, s, p, v1, v2, v3, v4, v5, v6 => ((p.1 5) ≤ v6 → True) ∧ (¬ ((p.1 5) ≤ v6) → (vp_in v6 8 ∧ ((p_X4_liesAt s ((p.2 4) (Int32.toNatClampNeg v6)) v1 v2) ∧ (((f_X4_liesAt s ((p.2 4) (Int32.toNatClampNeg v6)) v1 v2) = 0 → (p_X3_rulerAt_11 n s p v1 v2 v3 v4 v5 (v6 + (Int32.ofInt 1)))) ∧ (¬ ((f_X4_liesAt s ((p.2 4) (Int32.toNatClampNeg v6)) v1 v2) = 0) → (vp_in v6 8 ∧ (vp_in v6 8 ∧ (vp_in ((p.2 4) (Int32.toNatClampNeg v6)) 36 ∧ (vp_in ((p.2 4) (Int32.toNatClampNeg v6)) 36 ∧ ((v3 = (Int32.ofInt (-1)) → (p_X3_rulerAt_11 n s p v1 v2 v6 (f_X8_powerOfKind ((p.2 1) (Int32.toNatClampNeg v6)) ((p.2 3) (Int32.toNatClampNeg v6)) ((s.2 9) (Int32.toNatClampNeg ((p.2 4) (Int32.toNatClampNeg v6))))) ((s.2 12) (Int32.toNatClampNeg ((p.2 4) (Int32.toNatClampNeg v6)))) (v6 + (Int32.ofInt 1)))) ∧ (¬ (v3 = (Int32.ofInt (-1))) → ((v4 < (f_X8_powerOfKind ((p.2 1) (Int32.toNatClampNeg v6)) ((p.2 3) (Int32.toNatClampNeg v6)) ((s.2 9) (Int32.toNatClampNeg ((p.2 4) (Int32.toNatClampNeg v6))))) → (p_X3_rulerAt_11 n s p v1 v2 v6 (f_X8_powerOfKind ((p.2 1) (Int32.toNatClampNeg v6)) ((p.2 3) (Int32.toNatClampNeg v6)) ((s.2 9) (Int32.toNatClampNeg ((p.2 4) (Int32.toNatClampNeg v6))))) ((s.2 12) (Int32.toNatClampNeg ((p.2 4) (Int32.toNatClampNeg v6)))) (v6 + (Int32.ofInt 1)))) ∧ (¬ (v4 < (f_X8_powerOfKind ((p.2 1) (Int32.toNatClampNeg v6)) ((p.2 3) (Int32.toNatClampNeg v6)) ((s.2 9) (Int32.toNatClampNeg ((p.2 4) (Int32.toNatClampNeg v6)))))) → (((f_X8_powerOfKind ((p.2 1) (Int32.toNatClampNeg v6)) ((p.2 3) (Int32.toNatClampNeg v6)) ((s.2 9) (Int32.toNatClampNeg ((p.2 4) (Int32.toNatClampNeg v6))))) = v4 → ((((s.2 12) (Int32.toNatClampNeg ((p.2 4) (Int32.toNatClampNeg v6)))) ≤ v5 → (p_X3_rulerAt_11 n s p v1 v2 v3 v4 v5 (v6 + (Int32.ofInt 1)))) ∧ (¬ (((s.2 12) (Int32.toNatClampNeg ((p.2 4) (Int32.toNatClampNeg v6)))) ≤ v5) → (p_X3_rulerAt_11 n s p v1 v2 v6 (f_X8_powerOfKind ((p.2 1) (Int32.toNatClampNeg v6)) ((p.2 3) (Int32.toNatClampNeg v6)) ((s.2 9) (Int32.toNatClampNeg ((p.2 4) (Int32.toNatClampNeg v6))))) ((s.2 12) (Int32.toNatClampNeg ((p.2 4) (Int32.toNatClampNeg v6)))) (v6 + (Int32.ofInt 1)))))) ∧ (¬ ((f_X8_powerOfKind ((p.2 1) (Int32.toNatClampNeg v6)) ((p.2 3) (Int32.toNatClampNeg v6)) ((s.2 9) (Int32.toNatClampNeg ((p.2 4) (Int32.toNatClampNeg v6))))) = v4) → (p_X3_rulerAt_11 n s p v1 v2 v3 v4 v5 (v6 + (Int32.ofInt 1))))))))))))))))))
set_option maxHeartbeats 16000000 in
set_option maxRecDepth 20000 in
theorem l_X3_rulerAt_11 (sc : SC) (s : Rec) (p : Rec)  (zq : Int32)  : ∀ (n : Nat)  (v1 : Int32) (v2 : Int32) (v3 : Int32) (v4 : Int32) (v5 : Int32) (v6 : Int32), p_X3_rulerAt_11 n s p v1 v2 v3 v4 v5 v6 → zq = f_X3_rulerAt_11 n s p v1 v2 v3 v4 v5 v6 → Good sc 1 0 0 12 mX3_rulerAt (Ret (some (.int (zq))) (wP s p)) 0 0 11 [some (.ref 0), some (.int v1), some (.int v2), some (.int v3), some (.int v4), some (.int v5), some (.int v6), none, none, none] [] (wP s p) := by
  intro n
  induction n with
  | zero => intro v1 v2 v3 v4 v5 v6 hp; exact hp.elim
  | succ n ih =>
    intro v1 v2 v3 v4 v5 v6 hp hq
    unfold p_X3_rulerAt_11 at hp
    unfold f_X3_rulerAt_11 at hq
    refine g_blk hz0 kX3_rulerAt_11 ?_
    refine ⟨fun c1 => ?_, fun c1 => ?_⟩
    · rw [if_pos (show (p.1 5) ≤ v6 from c1)] at hq
      refine g_blk hz0 kX3_rulerAt_130 ?_
      subst hq
      exact ⟨fun h => (by cases h), rfl, rfl⟩
    · rw [if_neg (show ¬ ((p.1 5) ≤ v6) from c1)] at hq
      replace hp := hp.2 c1
      refine g_blk hz0 kX3_rulerAt_20 ?_
      refine ⟨hp.1, ?_⟩
      replace hp := hp.2
      refine cVp [1, 2, 3, 4, 5, 6, 7] (wS s) (s_X4_liesAt s ((p.2 4) (Int32.toNatClampNeg v6)) v1 v2 hp.1) rfl cwX4_liesAt dX3_rulerAt_37 rfl rfl (hm5_P_S _ _) ?_
      replace hp := hp.2
      refine g_blk hz0 kX3_rulerAt_40 ?_
      refine ⟨fun c2 => ?_, fun c2 => ?_⟩
      · rw [if_neg (show ¬ ((f_X4_liesAt s ((p.2 4) (Int32.toNatClampNeg v6)) v1 v2) = 0) from c2)] at hq
        replace hp := hp.2 c2
        refine g_blk hz0 kX3_rulerAt_46 ?_
        refine ⟨hp.1, ?_⟩
        replace hp := hp.2
        refine ⟨hp.1, ?_⟩
        replace hp := hp.2
        refine ⟨hp.1, ?_⟩
        replace hp := hp.2
        refine cS0 (s_X8_powerOfKind ((p.2 1) (Int32.toNatClampNeg v6)) ((p.2 3) (Int32.toNatClampNeg v6)) ((s.2 9) (Int32.toNatClampNeg ((p.2 4) (Int32.toNatClampNeg v6))))) rfl cwX8_powerOfKind dX3_rulerAt_70 rfl ?_
        refine g_blk hz0 kX3_rulerAt_73 ?_
        refine ⟨hp.1, ?_⟩
        replace hp := hp.2
        refine ⟨fun c3 => ?_, fun c3 => ?_⟩
        · rw [if_pos (show v3 = (Int32.ofInt (-1)) from c3)] at hq
          replace hp := hp.1 c3
          refine g_blk hz0 kX3_rulerAt_113 ?_
          refine g_blk hz0 kX3_rulerAt_124 ?_
          refine g_le (L2 := [some (.ref 0), some (.int v1), some (.int v2), some (.int v6), some (.int (f_X8_powerOfKind ((p.2 1) (Int32.toNatClampNeg v6)) ((p.2 3) (Int32.toNatClampNeg v6)) ((s.2 9) (Int32.toNatClampNeg ((p.2 4) (Int32.toNatClampNeg v6)))))), some (.int ((s.2 12) (Int32.toNatClampNeg ((p.2 4) (Int32.toNatClampNeg v6))))), some (.int (v6 + (Int32.ofInt 1))), none, none, none]) ⟨rfl, rfl, rfl, rfl, rfl, rfl, rfl, trivial⟩ ?_
          exact ih v1 v2 v6 (f_X8_powerOfKind ((p.2 1) (Int32.toNatClampNeg v6)) ((p.2 3) (Int32.toNatClampNeg v6)) ((s.2 9) (Int32.toNatClampNeg ((p.2 4) (Int32.toNatClampNeg v6))))) ((s.2 12) (Int32.toNatClampNeg ((p.2 4) (Int32.toNatClampNeg v6)))) (v6 + (Int32.ofInt 1)) hp hq
        · rw [if_neg (show ¬ (v3 = (Int32.ofInt (-1))) from c3)] at hq
          replace hp := hp.2 c3
          refine g_blk hz0 kX3_rulerAt_92 ?_
          refine ⟨fun c4 => ?_, fun c4 => ?_⟩
          · rw [if_pos (show v4 < (f_X8_powerOfKind ((p.2 1) (Int32.toNatClampNeg v6)) ((p.2 3) (Int32.toNatClampNeg v6)) ((s.2 9) (Int32.toNatClampNeg ((p.2 4) (Int32.toNatClampNeg v6))))) from c4)] at hq
            replace hp := hp.1 c4
            refine g_blk hz0 kX3_rulerAt_113 ?_
            refine g_blk hz0 kX3_rulerAt_124 ?_
            refine g_le (L2 := [some (.ref 0), some (.int v1), some (.int v2), some (.int v6), some (.int (f_X8_powerOfKind ((p.2 1) (Int32.toNatClampNeg v6)) ((p.2 3) (Int32.toNatClampNeg v6)) ((s.2 9) (Int32.toNatClampNeg ((p.2 4) (Int32.toNatClampNeg v6)))))), some (.int ((s.2 12) (Int32.toNatClampNeg ((p.2 4) (Int32.toNatClampNeg v6))))), some (.int (v6 + (Int32.ofInt 1))), none, none, none]) ⟨rfl, rfl, rfl, rfl, rfl, rfl, rfl, trivial⟩ ?_
            exact ih v1 v2 v6 (f_X8_powerOfKind ((p.2 1) (Int32.toNatClampNeg v6)) ((p.2 3) (Int32.toNatClampNeg v6)) ((s.2 9) (Int32.toNatClampNeg ((p.2 4) (Int32.toNatClampNeg v6))))) ((s.2 12) (Int32.toNatClampNeg ((p.2 4) (Int32.toNatClampNeg v6)))) (v6 + (Int32.ofInt 1)) hp hq
          · rw [if_neg (show ¬ (v4 < (f_X8_powerOfKind ((p.2 1) (Int32.toNatClampNeg v6)) ((p.2 3) (Int32.toNatClampNeg v6)) ((s.2 9) (Int32.toNatClampNeg ((p.2 4) (Int32.toNatClampNeg v6)))))) from c4)] at hq
            replace hp := hp.2 c4
            refine g_blk hz0 kX3_rulerAt_99 ?_
            refine ⟨fun c5 => ?_, fun c5 => ?_⟩
            · rw [if_neg (show ¬ ((f_X8_powerOfKind ((p.2 1) (Int32.toNatClampNeg v6)) ((p.2 3) (Int32.toNatClampNeg v6)) ((s.2 9) (Int32.toNatClampNeg ((p.2 4) (Int32.toNatClampNeg v6))))) = v4) from c5)] at hq
              replace hp := hp.2 c5
              refine g_blk hz0 kX3_rulerAt_124 ?_
              refine g_le (L2 := [some (.ref 0), some (.int v1), some (.int v2), some (.int v3), some (.int v4), some (.int v5), some (.int (v6 + (Int32.ofInt 1))), none, none, none]) ⟨rfl, rfl, rfl, rfl, rfl, rfl, rfl, trivial⟩ ?_
              exact ih v1 v2 v3 v4 v5 (v6 + (Int32.ofInt 1)) hp hq
            · rw [if_pos (show (f_X8_powerOfKind ((p.2 1) (Int32.toNatClampNeg v6)) ((p.2 3) (Int32.toNatClampNeg v6)) ((s.2 9) (Int32.toNatClampNeg ((p.2 4) (Int32.toNatClampNeg v6))))) = v4 from c5)] at hq
              replace hp := hp.1 c5
              refine g_blk hz0 kX3_rulerAt_106 ?_
              refine ⟨fun c6 => ?_, fun c6 => ?_⟩
              · rw [if_pos (show ((s.2 12) (Int32.toNatClampNeg ((p.2 4) (Int32.toNatClampNeg v6)))) ≤ v5 from c6)] at hq
                replace hp := hp.1 c6
                refine g_blk hz0 kX3_rulerAt_124 ?_
                refine g_le (L2 := [some (.ref 0), some (.int v1), some (.int v2), some (.int v3), some (.int v4), some (.int v5), some (.int (v6 + (Int32.ofInt 1))), none, none, none]) ⟨rfl, rfl, rfl, rfl, rfl, rfl, rfl, trivial⟩ ?_
                exact ih v1 v2 v3 v4 v5 (v6 + (Int32.ofInt 1)) hp hq
              · rw [if_neg (show ¬ (((s.2 12) (Int32.toNatClampNeg ((p.2 4) (Int32.toNatClampNeg v6)))) ≤ v5) from c6)] at hq
                replace hp := hp.2 c6
                refine g_blk hz0 kX3_rulerAt_113 ?_
                refine g_blk hz0 kX3_rulerAt_124 ?_
                refine g_le (L2 := [some (.ref 0), some (.int v1), some (.int v2), some (.int v6), some (.int (f_X8_powerOfKind ((p.2 1) (Int32.toNatClampNeg v6)) ((p.2 3) (Int32.toNatClampNeg v6)) ((s.2 9) (Int32.toNatClampNeg ((p.2 4) (Int32.toNatClampNeg v6)))))), some (.int ((s.2 12) (Int32.toNatClampNeg ((p.2 4) (Int32.toNatClampNeg v6))))), some (.int (v6 + (Int32.ofInt 1))), none, none, none]) ⟨rfl, rfl, rfl, rfl, rfl, rfl, rfl, trivial⟩ ?_
                exact ih v1 v2 v6 (f_X8_powerOfKind ((p.2 1) (Int32.toNatClampNeg v6)) ((p.2 3) (Int32.toNatClampNeg v6)) ((s.2 9) (Int32.toNatClampNeg ((p.2 4) (Int32.toNatClampNeg v6))))) ((s.2 12) (Int32.toNatClampNeg ((p.2 4) (Int32.toNatClampNeg v6)))) (v6 + (Int32.ofInt 1)) hp hq
      · rw [if_pos (show (f_X4_liesAt s ((p.2 4) (Int32.toNatClampNeg v6)) v1 v2) = 0 from c2)] at hq
        replace hp := hp.1 c2
        refine g_blk hz0 kX3_rulerAt_43 ?_
        refine g_blk hz0 kX3_rulerAt_124 ?_
        refine g_le (L2 := [some (.ref 0), some (.int v1), some (.int v2), some (.int v3), some (.int v4), some (.int v5), some (.int (v6 + (Int32.ofInt 1))), none, none, none]) ⟨rfl, rfl, rfl, rfl, rfl, rfl, rfl, trivial⟩ ?_
        exact ih v1 v2 v3 v4 v5 (v6 + (Int32.ofInt 1)) hp hq
def f_X3_rulerAt (s : Rec) (p : Rec) (x : Int32) (y : Int32) : Int32 := (f_X3_rulerAt_11 40 s p x y ((Int32.ofInt (-1))) ((Int32.ofInt 0)) ((Int32.ofInt 0)) ((Int32.ofInt 0)))
def p_X3_rulerAt (s : Rec) (p : Rec) (x : Int32) (y : Int32) : Prop := (p_X3_rulerAt_11 40 s p x y ((Int32.ofInt (-1))) ((Int32.ofInt 0)) ((Int32.ofInt 0)) ((Int32.ofInt 0)))
set_option maxHeartbeats 16000000 in
set_option maxRecDepth 20000 in
theorem s_X3_rulerAt (s : Rec) (p : Rec) (x : Int32) (y : Int32) (hp : p_X3_rulerAt s p x y) : Spec 1 0 0 mX3_rulerAt [.ref 0, .int x, .int y] (wP s p) (Ret (some (.int ((f_X3_rulerAt s p x y)))) (wP s p)) := by
  obtain ⟨zq, hq⟩ : ∃ z, z = (f_X3_rulerAt s p x y) := ⟨_, rfl⟩
  rw [← hq]
  unfold f_X3_rulerAt at hq
  unfold p_X3_rulerAt at hp
  refine Sof fun sc => ?_
  refine g_blk hz0 kX3_rulerAt_0 ?_
  refine g_le (L2 := [some (.ref 0), some (.int x), some (.int y), some (.int (Int32.ofInt (-1))), some (.int (Int32.ofInt 0)), some (.int (Int32.ofInt 0)), some (.int (Int32.ofInt 0)), none, none, none]) ⟨rfl, rfl, rfl, rfl, rfl, rfl, rfl, trivial⟩ ?_
  exact l_X3_rulerAt_11 sc s p zq 40 x y ((Int32.ofInt (-1))) ((Int32.ofInt 0)) ((Int32.ofInt 0)) ((Int32.ofInt 0)) hp hq

def f_X3_isOpen (s : Rec) (p : Rec) (x : Int32) (y : Int32) : Int32 := if (f_X3_rulerAt s p x y) = (Int32.ofInt (-1)) then (if (f_X4_topAt s x y) = (Int32.ofInt (-1)) then (Int32.ofInt 0) else (Int32.ofInt 1)) else (Int32.ofInt 0)
def p_X3_isOpen (s : Rec) (p : Rec) (x : Int32) (y : Int32) : Prop := (p_X3_rulerAt s p x y) ∧ (((f_X3_rulerAt s p x y) = (Int32.ofInt (-1)) → ((p_X4_topAt s x y) ∧ True)) ∧ (¬ ((f_X3_rulerAt s p x y) = (Int32.ofInt (-1))) → True))
theorem z_X3_isOpen (s : Rec) (p : Rec) (x : Int32) (y : Int32) : (f_X3_isOpen s p x y) = 0 ∨ (f_X3_isOpen s p x y) = 1 := by
  unfold f_X3_isOpen
  repeat' split
  all_goals first | exact Or.inl rfl | exact Or.inr rfl | apply z_any <;> assumption
set_option maxHeartbeats 16000000 in
set_option maxRecDepth 20000 in
theorem s_X3_isOpen (s : Rec) (p : Rec) (x : Int32) (y : Int32) (hp : p_X3_isOpen s p x y) : Spec 2 0 0 mX3_isOpen [.ref 0, .int x, .int y] (wP s p) (Ret (some (.int ((f_X3_isOpen s p x y)))) (wP s p)) := by
  obtain ⟨zq, hq⟩ : ∃ z, z = (f_X3_isOpen s p x y) := ⟨_, rfl⟩
  rw [← hq]
  unfold f_X3_isOpen at hq
  unfold p_X3_isOpen at hp
  refine Sof fun sc => ?_
  refine g_blk hz0 kX3_isOpen_0 ?_
  refine cVp [0, 1, 2, 3, 4, 5, 6, 7, 8, 9, 10, 11] (wP s p) (s_X3_rulerAt s p x y hp.1) rfl cwX3_rulerAt dX3_isOpen_3 rfl rfl (hm4_P_P _ _) ?_
  replace hp := hp.2
  refine g_blk hz0 kX3_isOpen_6 ?_
  refine ⟨fun c1 => ?_, fun c1 => ?_⟩
  · rw [if_neg (show ¬ ((f_X3_rulerAt s p x y) = (Int32.ofInt (-1))) from c1)] at hq
    refine g_blk hz0 kX3_isOpen_27 ?_
    refine g_blk hz0 kX3_isOpen_28 ?_
    subst hq
    exact ⟨fun _ => Or.inl rfl, rfl, rfl⟩
  · rw [if_pos (show (f_X3_rulerAt s p x y) = (Int32.ofInt (-1)) from c1)] at hq
    replace hp := hp.1 c1
    refine g_blk hz0 kX3_isOpen_10 ?_
    refine cVp [1, 2, 3, 4, 5, 6, 7] (wS s) (s_X4_topAt s x y hp.1) rfl cwX4_topAt dX3_isOpen_16 rfl rfl (hm5_P_S _ _) ?_
    replace hp := hp.2
    refine g_blk hz0 kX3_isOpen_19 ?_
    refine ⟨fun c2 => ?_, fun c2 => ?_⟩
    · rw [if_pos (show (f_X4_topAt s x y) = (Int32.ofInt (-1)) from c2)] at hq
      refine g_blk hz0 kX3_isOpen_27 ?_
      refine g_blk hz0 kX3_isOpen_28 ?_
      subst hq
      exact ⟨fun _ => Or.inl rfl, rfl, rfl⟩
    · rw [if_neg (show ¬ ((f_X4_topAt s x y) = (Int32.ofInt (-1))) from c2)] at hq
      refine g_blk hz0 kX3_isOpen_23 ?_
      refine g_blk hz0 kX3_isOpen_28 ?_
      subst hq
      exact ⟨fun _ => Or.inr rfl, rfl, rfl⟩

def f_X3_goalOf_98  (s : Rec) (p : Rec) (v1 : Int32) (v2 : Int32) (v3 : Int32) (v4 : Int32) (v5 : Int32) : Int32 := if (f_X3_rulerAt s p (v1 + (v4 * (wXf (Int32.toNatClampNeg v3)))) (v2 + (v4 * (wYf (Int32.toNatClampNeg v3))))) = (Int32.ofInt (-1)) then (f_X4_topAt s (v1 + (v4 * (wXf (Int32.toNatClampNeg v3)))) (v2 + (v4 * (wYf (Int32.toNatClampNeg v3))))) else (if ((p.2 2) (Int32.toNatClampNeg (f_X3_rulerAt s p (v1 + (v4 * (wXf (Int32.toNatClampNeg v3)))) (v2 + (v4 * (wYf (Int32.toNatClampNeg v3))))))) = ((p.2 2) (Int32.toNatClampNeg v5)) then (Int32.ofInt (-1)) else (if (f_X3_powerOf s p v5) ≤ (f_X3_powerOf s p (f_X3_rulerAt s p (v1 + (v4 * (wXf (Int32.toNatClampNeg v3)))) (v2 + (v4 * (wYf (Int32.toNatClampNeg v3)))))) then (Int32.ofInt (-1)) else ((p.2 4) (Int32.toNatClampNeg (f_X3_rulerAt s p (v1 + (v4 * (wXf (Int32.toNatClampNeg v3)))) (v2 + (v4 * (wYf (Int32.toNatClampNeg v3)))))))))
def p_X3_goalOf_98  (s : Rec) (p : Rec) (v1 : Int32) (v2 : Int32) (v3 : Int32) (v4 : Int32) (v5 : Int32) : Prop := vp_in v3 4 ∧ (vp_in v3 4 ∧ ((p_X3_rulerAt s p (v1 + (v4 * (wXf (Int32.toNatClampNeg v3)))) (v2 + (v4 * (wYf (Int32.toNatClampNeg v3))))) ∧ (((f_X3_rulerAt s p (v1 + (v4 * (wXf (Int32.toNatClampNeg v3)))) (v2 + (v4 * (wYf (Int32.toNatClampNeg v3))))) = (Int32.ofInt (-1)) → ((p_X4_topAt s (v1 + (v4 * (wXf (Int32.toNatClampNeg v3)))) (v2 + (v4 * (wYf (Int32.toNatClampNeg v3))))) ∧ True)) ∧ (¬ ((f_X3_rulerAt s p (v1 + (v4 * (wXf (Int32.toNatClampNeg v3)))) (v2 + (v4 * (wYf (Int32.toNatClampNeg v3))))) = (Int32.ofInt (-1))) → (vp_in (f_X3_rulerAt s p (v1 + (v4 * (wXf (Int32.toNatClampNeg v3)))) (v2 + (v4 * (wYf (Int32.toNatClampNeg v3))))) 8 ∧ (vp_in v5 8 ∧ ((((p.2 2) (Int32.toNatClampNeg (f_X3_rulerAt s p (v1 + (v4 * (wXf (Int32.toNatClampNeg v3)))) (v2 + (v4 * (wYf (Int32.toNatClampNeg v3))))))) = ((p.2 2) (Int32.toNatClampNeg v5)) → True) ∧ (¬ (((p.2 2) (Int32.toNatClampNeg (f_X3_rulerAt s p (v1 + (v4 * (wXf (Int32.toNatClampNeg v3)))) (v2 + (v4 * (wYf (Int32.toNatClampNeg v3))))))) = ((p.2 2) (Int32.toNatClampNeg v5))) → ((p_X3_powerOf s p (f_X3_rulerAt s p (v1 + (v4 * (wXf (Int32.toNatClampNeg v3)))) (v2 + (v4 * (wYf (Int32.toNatClampNeg v3)))))) ∧ ((p_X3_powerOf s p v5) ∧ (((f_X3_powerOf s p v5) ≤ (f_X3_powerOf s p (f_X3_rulerAt s p (v1 + (v4 * (wXf (Int32.toNatClampNeg v3)))) (v2 + (v4 * (wYf (Int32.toNatClampNeg v3)))))) → True) ∧ (¬ ((f_X3_powerOf s p v5) ≤ (f_X3_powerOf s p (f_X3_rulerAt s p (v1 + (v4 * (wXf (Int32.toNatClampNeg v3)))) (v2 + (v4 * (wYf (Int32.toNatClampNeg v3))))))) → (vp_in (f_X3_rulerAt s p (v1 + (v4 * (wXf (Int32.toNatClampNeg v3)))) (v2 + (v4 * (wYf (Int32.toNatClampNeg v3))))) 8 ∧ True)))))))))))))
set_option maxHeartbeats 16000000 in
set_option maxRecDepth 20000 in
theorem l_X3_goalOf_98 (sc : SC) (s : Rec) (p : Rec)  (zq : Int32)   (v1 : Int32) (v2 : Int32) (v3 : Int32) (v4 : Int32) (v5 : Int32) (hp : p_X3_goalOf_98 s p v1 v2 v3 v4 v5) (hq : zq = f_X3_goalOf_98 s p v1 v2 v3 v4 v5) : Good sc 3 0 0 12 mX3_goalOf (Ret (some (.int (zq))) (wP s p)) 0 0 98 [some (.ref 0), some (.int v1), some (.int v2), some (.int v3), some (.int v4), some (.int v5), none, none, none, none] [] (wP s p) := by
  unfold p_X3_goalOf_98 at hp
  unfold f_X3_goalOf_98 at hq
  refine g_blk hz0 kX3_goalOf_98 ?_
  refine ⟨hp.1, ?_⟩
  replace hp := hp.2
  refine ⟨hp.1, ?_⟩
  replace hp := hp.2
  refine cVp [0, 1, 2, 3, 4, 5, 6, 7, 8, 9, 10, 11] (wP s p) (s_X3_rulerAt s p (v1 + (v4 * (wXf (Int32.toNatClampNeg v3)))) (v2 + (v4 * (wYf (Int32.toNatClampNeg v3)))) hp.1) rfl cwX3_rulerAt dX3_goalOf_127 rfl rfl (hm4_P_P _ _) ?_
  replace hp := hp.2
  refine g_blk hz0 kX3_goalOf_130 ?_
  refine ⟨fun c9 => ?_, fun c9 => ?_⟩
  · rw [if_neg (show ¬ ((f_X3_rulerAt s p (v1 + (v4 * (wXf (Int32.toNatClampNeg v3)))) (v2 + (v4 * (wYf (Int32.toNatClampNeg v3))))) = (Int32.ofInt (-1))) from c9)] at hq
    replace hp := hp.2 c9
    refine g_blk hz0 kX3_goalOf_150 ?_
    refine ⟨hp.1, ?_⟩
    replace hp := hp.2
    refine ⟨hp.1, ?_⟩
    replace hp := hp.2
    refine ⟨fun c10 => ?_, fun c10 => ?_⟩
    · rw [if_pos (show ((p.2 2) (Int32.toNatClampNeg (f_X3_rulerAt s p (v1 + (v4 * (wXf (Int32.toNatClampNeg v3)))) (v2 + (v4 * (wYf (Int32.toNatClampNeg v3))))))) = ((p.2 2) (Int32.toNatClampNeg v5)) from c10)] at hq
      refine g_blk hz0 kX3_goalOf_186 ?_
      refine g_blk hz0 kX3_goalOf_187 ?_
      refine ⟨fun _ => ?_, fun c => absurd c (by decide)⟩
      refine g_blk hz0 kX3_goalOf_204 ?_
      refine g_blk hz0 kX3_goalOf_205 ?_
      subst hq
      exact ⟨fun h => (by cases h), rfl, rfl⟩
    · rw [if_neg (show ¬ (((p.2 2) (Int32.toNatClampNeg (f_X3_rulerAt s p (v1 + (v4 * (wXf (Int32.toNatClampNeg v3)))) (v2 + (v4 * (wYf (Int32.toNatClampNeg v3))))))) = ((p.2 2) (Int32.toNatClampNeg v5))) from c10)] at hq
      replace hp := hp.2 c10
      refine g_blk hz0 kX3_goalOf_167 ?_
      refine cVp [0, 1, 2, 3, 4, 5, 6, 7, 8, 9, 10, 11] (wP s p) (s_X3_powerOf s p (f_X3_rulerAt s p (v1 + (v4 * (wXf (Int32.toNatClampNeg v3)))) (v2 + (v4 * (wYf (Int32.toNatClampNeg v3))))) hp.1) rfl cwX3_powerOf dX3_goalOf_170 rfl rfl (hm4_P_P _ _) ?_
      replace hp := hp.2
      refine g_blk hz0 kX3_goalOf_173 ?_
      refine cVp [0, 1, 2, 3, 4, 5, 6, 7, 8, 9, 10, 11] (wP s p) (s_X3_powerOf s p v5 hp.1) rfl cwX3_powerOf dX3_goalOf_176 rfl rfl (hm4_P_P _ _) ?_
      replace hp := hp.2
      refine g_blk hz0 kX3_goalOf_179 ?_
      refine ⟨fun c11 => ?_, fun c11 => ?_⟩
      · rw [if_pos (show (f_X3_powerOf s p v5) ≤ (f_X3_powerOf s p (f_X3_rulerAt s p (v1 + (v4 * (wXf (Int32.toNatClampNeg v3)))) (v2 + (v4 * (wYf (Int32.toNatClampNeg v3)))))) from c11)] at hq
        refine g_blk hz0 kX3_goalOf_186 ?_
        refine g_blk hz0 kX3_goalOf_187 ?_
        refine ⟨fun _ => ?_, fun c => absurd c (by decide)⟩
        refine g_blk hz0 kX3_goalOf_204 ?_
        refine g_blk hz0 kX3_goalOf_205 ?_
        subst hq
        exact ⟨fun h => (by cases h), rfl, rfl⟩
      · rw [if_neg (show ¬ ((f_X3_powerOf s p v5) ≤ (f_X3_powerOf s p (f_X3_rulerAt s p (v1 + (v4 * (wXf (Int32.toNatClampNeg v3)))) (v2 + (v4 * (wYf (Int32.toNatClampNeg v3))))))) from c11)] at hq
        replace hp := hp.2 c11
        refine g_blk hz0 kX3_goalOf_182 ?_
        refine g_blk hz0 kX3_goalOf_187 ?_
        refine ⟨fun c => absurd c (by decide), fun _ => ?_⟩
        refine g_blk hz0 kX3_goalOf_194 ?_
        refine ⟨hp.1, ?_⟩
        replace hp := hp.2
        refine g_blk hz0 kX3_goalOf_205 ?_
        subst hq
        exact ⟨fun h => (by cases h), rfl, rfl⟩
  · rw [if_pos (show (f_X3_rulerAt s p (v1 + (v4 * (wXf (Int32.toNatClampNeg v3)))) (v2 + (v4 * (wYf (Int32.toNatClampNeg v3))))) = (Int32.ofInt (-1)) from c9)] at hq
    replace hp := hp.1 c9
    refine g_blk hz0 kX3_goalOf_138 ?_
    refine cVp [1, 2, 3, 4, 5, 6, 7] (wS s) (s_X4_topAt s (v1 + (v4 * (wXf (Int32.toNatClampNeg v3)))) (v2 + (v4 * (wYf (Int32.toNatClampNeg v3)))) hp.1) rfl cwX4_topAt dX3_goalOf_146 rfl rfl (hm5_P_S _ _) ?_
    replace hp := hp.2
    refine g_blk hz0 kX3_goalOf_149 ?_
    subst hq
    exact ⟨fun h => (by cases h), rfl, rfl⟩
def f_X3_goalOf (s : Rec) (p : Rec) (x : Int32) (y : Int32) (w : Int32) (f : Int32) : Int32 := if 0 < (p.1 7) then (Int32.ofInt (-1)) else (if (f_X8_within w ((Int32.ofInt 0)) ((Int32.ofInt 3))) = 0 then (Int32.ofInt (-1)) else (if (f_X8_within f ((Int32.ofInt 1)) ((Int32.ofInt 2))) = 0 then (Int32.ofInt (-1)) else (if (f_X3_rulerAt s p x y) = (Int32.ofInt (-1)) then (Int32.ofInt (-1)) else (if ((p.2 2) (Int32.toNatClampNeg (f_X3_rulerAt s p x y))) = (f_X3_onTurn s p) then (if f = (Int32.ofInt 2) then (if ((p.2 1) (Int32.toNatClampNeg (f_X3_rulerAt s p x y))) = (Int32.ofInt 4) then (if (f_X3_isOpen s p (x + (wXf (Int32.toNatClampNeg w))) (y + (wYf (Int32.toNatClampNeg w)))) = 0 then (Int32.ofInt (-1)) else (f_X3_goalOf_98 s p x y w f (f_X3_rulerAt s p x y))) else (Int32.ofInt (-1))) else (f_X3_goalOf_98 s p x y w f (f_X3_rulerAt s p x y))) else (Int32.ofInt (-1))))))
def p_X3_goalOf (s : Rec) (p : Rec) (x : Int32) (y : Int32) (w : Int32) (f : Int32) : Prop := (0 < (p.1 7) → True) ∧ (¬ (0 < (p.1 7)) → (((f_X8_within w ((Int32.ofInt 0)) ((Int32.ofInt 3))) = 0 → True) ∧ (¬ ((f_X8_within w ((Int32.ofInt 0)) ((Int32.ofInt 3))) = 0) → (((f_X8_within f ((Int32.ofInt 1)) ((Int32.ofInt 2))) = 0 → True) ∧ (¬ ((f_X8_within f ((Int32.ofInt 1)) ((Int32.ofInt 2))) = 0) → ((p_X3_rulerAt s p x y) ∧ (((f_X3_rulerAt s p x y) = (Int32.ofInt (-1)) → True) ∧ (¬ ((f_X3_rulerAt s p x y) = (Int32.ofInt (-1))) → (vp_in (f_X3_rulerAt s p x y) 8 ∧ ((((p.2 2) (Int32.toNatClampNeg (f_X3_rulerAt s p x y))) = (f_X3_onTurn s p) → ((f = (Int32.ofInt 2) → (vp_in (f_X3_rulerAt s p x y) 8 ∧ ((((p.2 1) (Int32.toNatClampNeg (f_X3_rulerAt s p x y))) = (Int32.ofInt 4) → (vp_in w 4 ∧ (vp_in w 4 ∧ ((p_X3_isOpen s p (x + (wXf (Int32.toNatClampNeg w))) (y + (wYf (Int32.toNatClampNeg w)))) ∧ (((f_X3_isOpen s p (x + (wXf (Int32.toNatClampNeg w))) (y + (wYf (Int32.toNatClampNeg w)))) = 0 → True) ∧ (¬ ((f_X3_isOpen s p (x + (wXf (Int32.toNatClampNeg w))) (y + (wYf (Int32.toNatClampNeg w)))) = 0) → (p_X3_goalOf_98 s p x y w f (f_X3_rulerAt s p x y)))))))) ∧ (¬ (((p.2 1) (Int32.toNatClampNeg (f_X3_rulerAt s p x y))) = (Int32.ofInt 4)) → True)))) ∧ (¬ (f = (Int32.ofInt 2)) → (p_X3_goalOf_98 s p x y w f (f_X3_rulerAt s p x y))))) ∧ (¬ (((p.2 2) (Int32.toNatClampNeg (f_X3_rulerAt s p x y))) = (f_X3_onTurn s p)) → True)))))))))))
set_option maxHeartbeats 16000000 in
set_option maxRecDepth 20000 in
theorem s_X3_goalOf (s : Rec) (p : Rec) (x : Int32) (y : Int32) (w : Int32) (f : Int32) (hp : p_X3_goalOf s p x y w f) : Spec 3 0 0 mX3_goalOf [.ref 0, .int x, .int y, .int w, .int f] (wP s p) (Ret (some (.int ((f_X3_goalOf s p x y w f)))) (wP s p)) := by
  obtain ⟨zq, hq⟩ : ∃ z, z = (f_X3_goalOf s p x y w f) := ⟨_, rfl⟩
  rw [← hq]
  unfold f_X3_goalOf at hq
  unfold p_X3_goalOf at hp
  refine Sof fun sc => ?_
  refine g_blk hz0 kX3_goalOf_0 ?_
  refine ⟨fun c1 => ?_, fun c1 => ?_⟩
  · rw [if_pos (show 0 < (p.1 7) from c1)] at hq
    refine g_blk hz0 kX3_goalOf_26 ?_
    subst hq
    exact ⟨fun h => (by cases h), rfl, rfl⟩
  · rw [if_neg (show ¬ (0 < (p.1 7)) from c1)] at hq
    replace hp := hp.2 c1
    refine g_blk hz0 kX3_goalOf_7 ?_
    refine cS0 (s_X8_within w ((Int32.ofInt 0)) ((Int32.ofInt 3))) rfl cwX8_within dX3_goalOf_10 rfl ?_
    refine g_blk hz0 kX3_goalOf_13 ?_
    refine ⟨fun c2 => ?_, fun c2 => ?_⟩
    · rw [if_pos (show (f_X8_within w ((Int32.ofInt 0)) ((Int32.ofInt 3))) = 0 from c2)] at hq
      refine g_blk hz0 kX3_goalOf_26 ?_
      subst hq
      exact ⟨fun h => (by cases h), rfl, rfl⟩
    · rw [if_neg (show ¬ ((f_X8_within w ((Int32.ofInt 0)) ((Int32.ofInt 3))) = 0) from c2)] at hq
      replace hp := hp.2 c2
      refine g_blk hz0 kX3_goalOf_16 ?_
      refine cS0 (s_X8_within f ((Int32.ofInt 1)) ((Int32.ofInt 2))) rfl cwX8_within dX3_goalOf_20 rfl ?_
      refine g_blk hz0 kX3_goalOf_23 ?_
      refine ⟨fun c3 => ?_, fun c3 => ?_⟩
      · rw [if_neg (show ¬ ((f_X8_within f ((Int32.ofInt 1)) ((Int32.ofInt 2))) = 0) from c3)] at hq
        replace hp := hp.2 c3
        refine g_blk hz0 kX3_goalOf_28 ?_
        refine cVp [0, 1, 2, 3, 4, 5, 6, 7, 8, 9, 10, 11] (wP s p) (s_X3_rulerAt s p x y hp.1) rfl cwX3_rulerAt dX3_goalOf_31 rfl rfl (hm4_P_P _ _) ?_
        replace hp := hp.2
        refine g_blk hz0 kX3_goalOf_34 ?_
        refine ⟨fun c4 => ?_, fun c4 => ?_⟩
        · rw [if_pos (show (f_X3_rulerAt s p x y) = (Int32.ofInt (-1)) from c4)] at hq
          refine g_blk hz0 kX3_goalOf_56 ?_
          subst hq
          exact ⟨fun h => (by cases h), rfl, rfl⟩
        · rw [if_neg (show ¬ ((f_X3_rulerAt s p x y) = (Int32.ofInt (-1))) from c4)] at hq
          replace hp := hp.2 c4
          refine g_blk hz0 kX3_goalOf_42 ?_
          refine ⟨hp.1, ?_⟩
          replace hp := hp.2
          refine cVp [0, 1, 2, 3, 4, 5, 6, 7, 8, 9, 10, 11] (wP s p) (s_X3_onTurn s p) rfl cwX3_onTurn dX3_goalOf_50 rfl rfl (hm4_P_P _ _) ?_
          refine g_blk hz0 kX3_goalOf_53 ?_
          refine ⟨fun c5 => ?_, fun c5 => ?_⟩
          · rw [if_pos (show ((p.2 2) (Int32.toNatClampNeg (f_X3_rulerAt s p x y))) = (f_X3_onTurn s p) from c5)] at hq
            replace hp := hp.1 c5
            refine g_blk hz0 kX3_goalOf_58 ?_
            refine ⟨fun c6 => ?_, fun c6 => ?_⟩
            · rw [if_neg (show ¬ (f = (Int32.ofInt 2)) from c6)] at hq
              replace hp := hp.2 c6
              refine g_le (L2 := [some (.ref 0), some (.int x), some (.int y), some (.int w), some (.int f), some (.int (f_X3_rulerAt s p x y)), none, none, none, none]) ⟨rfl, rfl, rfl, rfl, rfl, rfl, trivial⟩ ?_
              exact l_X3_goalOf_98 sc s p zq x y w f (f_X3_rulerAt s p x y) hp hq
            · rw [if_pos (show f = (Int32.ofInt 2) from c6)] at hq
              replace hp := hp.1 c6
              refine g_blk hz0 kX3_goalOf_64 ?_
              refine ⟨hp.1, ?_⟩
              replace hp := hp.2
              refine ⟨fun c7 => ?_, fun c7 => ?_⟩
              · rw [if_neg (show ¬ (((p.2 1) (Int32.toNatClampNeg (f_X3_rulerAt s p x y))) = (Int32.ofInt 4)) from c7)] at hq
                refine g_blk hz0 kX3_goalOf_96 ?_
                subst hq
                exact ⟨fun h => (by cases h), rfl, rfl⟩
              · rw [if_pos (show ((p.2 1) (Int32.toNatClampNeg (f_X3_rulerAt s p x y))) = (Int32.ofInt 4) from c7)] at hq
                replace hp := hp.1 c7
                refine g_blk hz0 kX3_goalOf_75 ?_
                refine ⟨hp.1, ?_⟩
                replace hp := hp.2
                refine ⟨hp.1, ?_⟩
                replace hp := hp.2
                refine cVp [0, 1, 2, 3, 4, 5, 6, 7, 8, 9, 10, 11] (wP s p) (s_X3_isOpen s p (x + (wXf (Int32.toNatClampNeg w))) (y + (wYf (Int32.toNatClampNeg w))) hp.1) rfl cwX3_isOpen dX3_goalOf_90 rfl rfl (hm4_P_P _ _) ?_
                replace hp := hp.2
                refine g_blk hz0 kX3_goalOf_93 ?_
                refine ⟨fun c8 => ?_, fun c8 => ?_⟩
                · rw [if_neg (show ¬ ((f_X3_isOpen s p (x + (wXf (Int32.toNatClampNeg w))) (y + (wYf (Int32.toNatClampNeg w)))) = 0) from c8)] at hq
                  replace hp := hp.2 c8
                  refine g_le (L2 := [some (.ref 0), some (.int x), some (.int y), some (.int w), some (.int f), some (.int (f_X3_rulerAt s p x y)), none, none, none, none]) ⟨rfl, rfl, rfl, rfl, rfl, rfl, trivial⟩ ?_
                  exact l_X3_goalOf_98 sc s p zq x y w f (f_X3_rulerAt s p x y) hp hq
                · rw [if_pos (show (f_X3_isOpen s p (x + (wXf (Int32.toNatClampNeg w))) (y + (wYf (Int32.toNatClampNeg w)))) = 0 from c8)] at hq
                  refine g_blk hz0 kX3_goalOf_96 ?_
                  subst hq
                  exact ⟨fun h => (by cases h), rfl, rfl⟩
          · rw [if_neg (show ¬ (((p.2 2) (Int32.toNatClampNeg (f_X3_rulerAt s p x y))) = (f_X3_onTurn s p)) from c5)] at hq
            refine g_blk hz0 kX3_goalOf_56 ?_
            subst hq
            exact ⟨fun h => (by cases h), rfl, rfl⟩
      · rw [if_pos (show (f_X8_within f ((Int32.ofInt 1)) ((Int32.ofInt 2))) = 0 from c3)] at hq
        refine g_blk hz0 kX3_goalOf_26 ?_
        subst hq
        exact ⟨fun h => (by cases h), rfl, rfl⟩

def f_X3_makeDue (s : Rec) (p : Rec) (w : Int32) : Rec := if (f_X4_choices s) = 0 then (if (Int32.ofInt 0) ≤ w then (setG p 7 ((Int32.ofInt 0))) else (setG p 7 w)) else (if ((Int32.ofInt 3) - (s.1 2)) ≤ w then (setG p 7 ((Int32.ofInt 3) - (s.1 2))) else (setG p 7 w))
set_option maxHeartbeats 16000000 in
set_option maxRecDepth 20000 in
theorem s_X3_makeDue (s : Rec) (p : Rec) (w : Int32) : Spec 1 0 0 mX3_makeDue [.ref 0, .int w] (wP s p) (Ret none (wP s ((f_X3_makeDue s p w)))) := by
  obtain ⟨zq, hq⟩ : ∃ z, z = (f_X3_makeDue s p w) := ⟨_, rfl⟩
  rw [← hq]
  unfold f_X3_makeDue at hq
  refine Sof fun sc => ?_
  refine g_blk hz0 kX3_makeDue_0 ?_
  refine cVp [1, 2, 3, 4, 5, 6, 7] (wS s) (s_X4_choices s) rfl cwX4_choices dX3_makeDue_4 rfl rfl (hm5_P_S _ _) ?_
  refine g_blk hz0 kX3_makeDue_7 ?_
  refine ⟨fun c1 => ?_, fun c1 => ?_⟩
  · rw [if_neg (show ¬ ((f_X4_choices s) = 0) from c1)] at hq
    refine g_blk hz0 kX3_makeDue_14 ?_
    refine g_blk hz0 kX3_makeDue_23 ?_
    refine ⟨fun c3 => ?_, fun c3 => ?_⟩
    · rw [if_pos (show ((Int32.ofInt 3) - (s.1 2)) ≤ w from c3)] at hq
      refine g_blk hz0 kX3_makeDue_34 ?_
      refine g_blk hz0 kX3_makeDue_35 ?_
      refine ⟨fun h => (by cases h), Or.inl rfl, ?_⟩
      subst hq
      exact ⟨rfl, rfl⟩
    · rw [if_neg (show ¬ (((Int32.ofInt 3) - (s.1 2)) ≤ w) from c3)] at hq
      refine g_blk hz0 kX3_makeDue_30 ?_
      refine g_blk hz0 kX3_makeDue_35 ?_
      refine ⟨fun h => (by cases h), Or.inl rfl, ?_⟩
      subst hq
      exact ⟨rfl, rfl⟩
  · rw [if_pos (show (f_X4_choices s) = 0 from c1)] at hq
    refine g_blk hz0 kX3_makeDue_10 ?_
    refine g_blk hz0 kX3_makeDue_23 ?_
    refine ⟨fun c2 => ?_, fun c2 => ?_⟩
    · rw [if_pos (show (Int32.ofInt 0) ≤ w from c2)] at hq
      refine g_blk hz0 kX3_makeDue_34 ?_
      refine g_blk hz0 kX3_makeDue_35 ?_
      refine ⟨fun h => (by cases h), Or.inl rfl, ?_⟩
      subst hq
      exact ⟨rfl, rfl⟩
    · rw [if_neg (show ¬ ((Int32.ofInt 0) ≤ w) from c2)] at hq
      refine g_blk hz0 kX3_makeDue_30 ?_
      refine g_blk hz0 kX3_makeDue_35 ?_
      refine ⟨fun h => (by cases h), Or.inl rfl, ?_⟩
      subst hq
      exact ⟨rfl, rfl⟩

set_option maxHeartbeats 16000000 in
theorem pw7_P_S (s : Rec) (p : Rec) (s9 : Rec) : putW (wP s p) [1, 2, 3, 4, 5, 6, 7] ((wS s9).map (ren [1, 2, 3, 4, 5, 6, 7])) = (wP s9 p) := rfl
set_option maxHeartbeats 16000000 in
theorem pw8_P_P (s : Rec) (p : Rec) (p9 : Rec) : putW (wP s p) [0, 1, 2, 3, 4, 5, 6, 7, 8, 9, 10, 11] ((wP s p9).map (ren [0, 1, 2, 3, 4, 5, 6, 7, 8, 9, 10, 11])) = (wP s p9) := rfl
def f_X3_carry (s : Rec) (p : Rec) (m : Int32) (g : Int32) : Int32 × Rec × Rec := if (f_X3_isIn s p m) = 0 then ((Int32.ofInt (-1)), s, p) else (if (f_X4_has s g) = 0 then ((Int32.ofInt (-1)), s, p) else (if (f_X3_manOn s p g) = (Int32.ofInt (-1)) then (if (p.1 8) ≤ 0 then ((f_X3_manOn s p g), s, (setA (setG p 6 ((p.1 6) + (Int32.ofInt 1))) 4 (upd (p.2 4) (Int32.toNatClampNeg m) g))) else (if (((p.1 6) + (Int32.ofInt 1)) - ((p.1 6) + (Int32.ofInt 1)) / (p.1 8) * (p.1 8)) = 0 then (if ((((p.1 6) + (Int32.ofInt 1)) / (p.1 8)) - (((p.1 6) + (Int32.ofInt 1)) / (p.1 8)) / (Int32.ofInt 2) * (Int32.ofInt 2)) = 0 then ((f_X3_manOn s p g), (f_X4_flatten s), (setA (setG p 6 ((p.1 6) + (Int32.ofInt 1))) 4 (upd (p.2 4) (Int32.toNatClampNeg m) g))) else ((f_X3_manOn s p g), s, (f_X3_makeDue s (setA (setG p 6 ((p.1 6) + (Int32.ofInt 1))) 4 (upd (p.2 4) (Int32.toNatClampNeg m) g)) (p.1 9)))) else ((f_X3_manOn s p g), s, (setA (setG p 6 ((p.1 6) + (Int32.ofInt 1))) 4 (upd (p.2 4) (Int32.toNatClampNeg m) g))))) else (if (p.1 8) ≤ 0 then ((f_X3_manOn s p g), s, (setA (setG p 6 ((p.1 6) + (Int32.ofInt 1))) 4 (upd (upd (p.2 4) (Int32.toNatClampNeg (f_X3_manOn s p g)) (Int32.ofInt (-1))) (Int32.toNatClampNeg m) g))) else (if (((p.1 6) + (Int32.ofInt 1)) - ((p.1 6) + (Int32.ofInt 1)) / (p.1 8) * (p.1 8)) = 0 then (if ((((p.1 6) + (Int32.ofInt 1)) / (p.1 8)) - (((p.1 6) + (Int32.ofInt 1)) / (p.1 8)) / (Int32.ofInt 2) * (Int32.ofInt 2)) = 0 then ((f_X3_manOn s p g), (f_X4_flatten s), (setA (setG p 6 ((p.1 6) + (Int32.ofInt 1))) 4 (upd (upd (p.2 4) (Int32.toNatClampNeg (f_X3_manOn s p g)) (Int32.ofInt (-1))) (Int32.toNatClampNeg m) g))) else ((f_X3_manOn s p g), s, (f_X3_makeDue s (setA (setG p 6 ((p.1 6) + (Int32.ofInt 1))) 4 (upd (upd (p.2 4) (Int32.toNatClampNeg (f_X3_manOn s p g)) (Int32.ofInt (-1))) (Int32.toNatClampNeg m) g)) (p.1 9)))) else ((f_X3_manOn s p g), s, (setA (setG p 6 ((p.1 6) + (Int32.ofInt 1))) 4 (upd (upd (p.2 4) (Int32.toNatClampNeg (f_X3_manOn s p g)) (Int32.ofInt (-1))) (Int32.toNatClampNeg m) g)))))))
def p_X3_carry (s : Rec) (p : Rec) (m : Int32) (g : Int32) : Prop := (p_X3_isIn s p m) ∧ (((f_X3_isIn s p m) = 0 → True) ∧ (¬ ((f_X3_isIn s p m) = 0) → ((p_X4_has s g) ∧ (((f_X4_has s g) = 0 → True) ∧ (¬ ((f_X4_has s g) = 0) → ((p_X3_manOn s p g) ∧ (((f_X3_manOn s p g) = (Int32.ofInt (-1)) → (vp_in m 8 ∧ (((p.1 8) ≤ 0 → True) ∧ (¬ ((p.1 8) ≤ 0) → ((¬ (p.1 8) = 0) ∧ (((((p.1 6) + (Int32.ofInt 1)) - ((p.1 6) + (Int32.ofInt 1)) / (p.1 8) * (p.1 8)) = 0 → ((¬ (p.1 8) = 0) ∧ ((((((p.1 6) + (Int32.ofInt 1)) / (p.1 8)) - (((p.1 6) + (Int32.ofInt 1)) / (p.1 8)) / (Int32.ofInt 2) * (Int32.ofInt 2)) = 0 → ((p_X4_flatten s) ∧ True)) ∧ (¬ (((((p.1 6) + (Int32.ofInt 1)) / (p.1 8)) - (((p.1 6) + (Int32.ofInt 1)) / (p.1 8)) / (Int32.ofInt 2) * (Int32.ofInt 2)) = 0) → True)))) ∧ (¬ ((((p.1 6) + (Int32.ofInt 1)) - ((p.1 6) + (Int32.ofInt 1)) / (p.1 8) * (p.1 8)) = 0) → True))))))) ∧ (¬ ((f_X3_manOn s p g) = (Int32.ofInt (-1))) → (vp_in (f_X3_manOn s p g) 8 ∧ (vp_in m 8 ∧ (((p.1 8) ≤ 0 → True) ∧ (¬ ((p.1 8) ≤ 0) → ((¬ (p.1 8) = 0) ∧ (((((p.1 6) + (Int32.ofInt 1)) - ((p.1 6) + (Int32.ofInt 1)) / (p.1 8) * (p.1 8)) = 0 → ((¬ (p.1 8) = 0) ∧ ((((((p.1 6) + (Int32.ofInt 1)) / (p.1 8)) - (((p.1 6) + (Int32.ofInt 1)) / (p.1 8)) / (Int32.ofInt 2) * (Int32.ofInt 2)) = 0 → ((p_X4_flatten s) ∧ True)) ∧ (¬ (((((p.1 6) + (Int32.ofInt 1)) / (p.1 8)) - (((p.1 6) + (Int32.ofInt 1)) / (p.1 8)) / (Int32.ofInt 2) * (Int32.ofInt 2)) = 0) → True)))) ∧ (¬ ((((p.1 6) + (Int32.ofInt 1)) - ((p.1 6) + (Int32.ofInt 1)) / (p.1 8) * (p.1 8)) = 0) → True)))))))))))))))
set_option maxHeartbeats 16000000 in
set_option maxRecDepth 20000 in
theorem s_X3_carry (s : Rec) (p : Rec) (m : Int32) (g : Int32) (hp : p_X3_carry s p m g) : Spec 2 0 0 mX3_carry [.ref 0, .int m, .int g] (wP s p) (Ret (some (.int ((f_X3_carry s p m g).1))) (wP ((f_X3_carry s p m g).2.1) ((f_X3_carry s p m g).2.2))) := by
  obtain ⟨zq, hq⟩ : ∃ z, z = (f_X3_carry s p m g) := ⟨_, rfl⟩
  rw [← hq]
  unfold f_X3_carry at hq
  unfold p_X3_carry at hp
  refine Sof fun sc => ?_
  refine g_blk hz0 kX3_carry_0 ?_
  refine cVp [0, 1, 2, 3, 4, 5, 6, 7, 8, 9, 10, 11] (wP s p) (s_X3_isIn s p m hp.1) rfl cwX3_isIn dX3_carry_2 rfl rfl (hm4_P_P _ _) ?_
  replace hp := hp.2
  refine g_blk hz0 kX3_carry_5 ?_
  refine ⟨fun c1 => ?_, fun c1 => ?_⟩
  · rw [if_pos (show (f_X3_isIn s p m) = 0 from c1)] at hq
    refine g_blk hz0 kX3_carry_19 ?_
    subst hq
    exact ⟨fun h => (by cases h), rfl, rfl⟩
  · rw [if_neg (show ¬ ((f_X3_isIn s p m) = 0) from c1)] at hq
    replace hp := hp.2 c1
    refine g_blk hz0 kX3_carry_8 ?_
    refine cVp [1, 2, 3, 4, 5, 6, 7] (wS s) (s_X4_has s g hp.1) rfl cwX4_has dX3_carry_13 rfl rfl (hm5_P_S _ _) ?_
    replace hp := hp.2
    refine g_blk hz0 kX3_carry_16 ?_
    refine ⟨fun c2 => ?_, fun c2 => ?_⟩
    · rw [if_neg (show ¬ ((f_X4_has s g) = 0) from c2)] at hq
      replace hp := hp.2 c2
      refine g_blk hz0 kX3_carry_21 ?_
      refine cVp [0, 1, 2, 3, 4, 5, 6, 7, 8, 9, 10, 11] (wP s p) (s_X3_manOn s p g hp.1) rfl cwX3_manOn dX3_carry_23 rfl rfl (hm4_P_P _ _) ?_
      replace hp := hp.2
      refine g_blk hz0 kX3_carry_26 ?_
      refine ⟨fun c3 => ?_, fun c3 => ?_⟩
      · rw [if_pos (show (f_X3_manOn s p g) = (Int32.ofInt (-1)) from c3)] at hq
        replace hp := hp.1 c3
        refine g_blk hz0 kX3_carry_39 ?_
        refine ⟨hp.1, ?_⟩
        replace hp := hp.2
        refine ⟨fun h => (by cases h), Or.inl rfl, ?_⟩
        refine ⟨fun c4 => ?_, fun c4 => ?_⟩
        · rw [if_pos (show (p.1 8) ≤ 0 from c4)] at hq
          refine g_blk hz0 kX3_carry_107 ?_
          subst hq
          exact ⟨fun h => (by cases h), rfl, rfl⟩
        · rw [if_neg (show ¬ ((p.1 8) ≤ 0) from c4)] at hq
          replace hp := hp.2 c4
          refine g_blk hz0 kX3_carry_63 ?_
          refine ⟨hp.1, ?_⟩
          replace hp := hp.2
          refine ⟨fun c5 => ?_, fun c5 => ?_⟩
          · rw [if_neg (show ¬ ((((p.1 6) + (Int32.ofInt 1)) - ((p.1 6) + (Int32.ofInt 1)) / (p.1 8) * (p.1 8)) = 0) from c5)] at hq
            refine g_blk hz0 kX3_carry_107 ?_
            subst hq
            exact ⟨fun h => (by cases h), rfl, rfl⟩
          · rw [if_pos (show (((p.1 6) + (Int32.ofInt 1)) - ((p.1 6) + (Int32.ofInt 1)) / (p.1 8) * (p.1 8)) = 0 from c5)] at hq
            replace hp := hp.1 c5
            refine g_blk hz0 kX3_carry_75 ?_
            refine ⟨hp.1, ?_⟩
            replace hp := hp.2
            refine ⟨by decide, ?_⟩
            refine ⟨fun c6 => ?_, fun c6 => ?_⟩
            · rw [if_neg (show ¬ (((((p.1 6) + (Int32.ofInt 1)) / (p.1 8)) - (((p.1 6) + (Int32.ofInt 1)) / (p.1 8)) / (Int32.ofInt 2) * (Int32.ofInt 2)) = 0) from c6)] at hq
              refine g_blk hz0 kX3_carry_99 ?_
              refine g_w (w2 := (wP s (setA (setG p 6 ((p.1 6) + (Int32.ofInt 1))) 4 (upd (p.2 4) (Int32.toNatClampNeg m) g)))) rfl ?_
              refine cV [0, 1, 2, 3, 4, 5, 6, 7, 8, 9, 10, 11] (wP s (setA (setG p 6 ((p.1 6) + (Int32.ofInt 1))) 4 (upd (p.2 4) (Int32.toNatClampNeg m) g))) (s_X3_makeDue s (setA (setG p 6 ((p.1 6) + (Int32.ofInt 1))) 4 (upd (p.2 4) (Int32.toNatClampNeg m) g)) (p.1 9)) rfl cwX3_makeDue dX3_carry_104 rfl rfl (hm4_P_P _ _) ((len_P _ _).trans (len_P _ _).symm) (wP s (f_X3_makeDue s (setA (setG p 6 ((p.1 6) + (Int32.ofInt 1))) 4 (upd (p.2 4) (Int32.toNatClampNeg m) g)) (p.1 9))) (pw8_P_P _ _ _) ?_
              obtain ⟨g8, hg8⟩ : ∃ z, z = (f_X3_makeDue s (setA (setG p 6 ((p.1 6) + (Int32.ofInt 1))) 4 (upd (p.2 4) (Int32.toNatClampNeg m) g)) (p.1 9)) := ⟨_, rfl⟩
              try rw [← hg8] at hp
              try rw [← hg8] at hq
              rw [← hg8]
              refine g_blk hz0 kX3_carry_107 ?_
              subst hq
              exact ⟨fun h => (by cases h), rfl, rfl⟩
            · rw [if_pos (show ((((p.1 6) + (Int32.ofInt 1)) / (p.1 8)) - (((p.1 6) + (Int32.ofInt 1)) / (p.1 8)) / (Int32.ofInt 2) * (Int32.ofInt 2)) = 0 from c6)] at hq
              replace hp := hp.1 c6
              refine g_blk hz0 kX3_carry_89 ?_
              refine g_w (w2 := (wP s (setA (setG p 6 ((p.1 6) + (Int32.ofInt 1))) 4 (upd (p.2 4) (Int32.toNatClampNeg m) g)))) rfl ?_
              refine cV [1, 2, 3, 4, 5, 6, 7] (wS s) (s_X4_flatten s hp.1) rfl cwX4_flatten dX3_carry_93 rfl rfl (hm5_P_S _ _) ((len_S _).trans (len_S _).symm) (wP (f_X4_flatten s) (setA (setG p 6 ((p.1 6) + (Int32.ofInt 1))) 4 (upd (p.2 4) (Int32.toNatClampNeg m) g))) (pw7_P_S _ _ _) ?_
              replace hp := hp.2
              obtain ⟨g7, hg7⟩ : ∃ z, z = (f_X4_flatten s) := ⟨_, rfl⟩
              try rw [← hg7] at hp
              try rw [← hg7] at hq
              rw [← hg7]
              refine g_blk hz0 kX3_carry_96 ?_
              refine g_blk hz0 kX3_carry_107 ?_
              subst hq
              exact ⟨fun h => (by cases h), rfl, rfl⟩
      · rw [if_neg (show ¬ ((f_X3_manOn s p g) = (Int32.ofInt (-1))) from c3)] at hq
        replace hp := hp.2 c3
        refine g_blk hz0 kX3_carry_32 ?_
        refine ⟨hp.1, ?_⟩
        replace hp := hp.2
        refine g_blk hz0 kX3_carry_39 ?_
        refine ⟨hp.1, ?_⟩
        replace hp := hp.2
        refine ⟨fun h => (by cases h), Or.inl rfl, ?_⟩
        refine ⟨fun c9 => ?_, fun c9 => ?_⟩
        · rw [if_pos (show (p.1 8) ≤ 0 from c9)] at hq
          refine g_blk hz0 kX3_carry_107 ?_
          subst hq
          exact ⟨fun h => (by cases h), rfl, rfl⟩
        · rw [if_neg (show ¬ ((p.1 8) ≤ 0) from c9)] at hq
          replace hp := hp.2 c9
          refine g_blk hz0 kX3_carry_63 ?_
          refine ⟨hp.1, ?_⟩
          replace hp := hp.2
          refine ⟨fun c10 => ?_, fun c10 => ?_⟩
          · rw [if_neg (show ¬ ((((p.1 6) + (Int32.ofInt 1)) - ((p.1 6) + (Int32.ofInt 1)) / (p.1 8) * (p.1 8)) = 0) from c10)] at hq
            refine g_blk hz0 kX3_carry_107 ?_
            subst hq
            exact ⟨fun h => (by cases h), rfl, rfl⟩
          · rw [if_pos (show (((p.1 6) + (Int32.ofInt 1)) - ((p.1 6) + (Int32.ofInt 1)) / (p.1 8) * (p.1 8)) = 0 from c10)] at hq
            replace hp := hp.1 c10
            refine g_blk hz0 kX3_carry_75 ?_
            refine ⟨hp.1, ?_⟩
            replace hp := hp.2
            refine ⟨by decide, ?_⟩
            refine ⟨fun c11 => ?_, fun c11 => ?_⟩
            · rw [if_neg (show ¬ (((((p.1 6) + (Int32.ofInt 1)) / (p.1 8)) - (((p.1 6) + (Int32.ofInt 1)) / (p.1 8)) / (Int32.ofInt 2) * (Int32.ofInt 2)) = 0) from c11)] at hq
              refine g_blk hz0 kX3_carry_99 ?_
              refine g_w (w2 := (wP s (setA (setG p 6 ((p.1 6) + (Int32.ofInt 1))) 4 (upd (upd (p.2 4) (Int32.toNatClampNeg (f_X3_manOn s p g)) (Int32.ofInt (-1))) (Int32.toNatClampNeg m) g)))) rfl ?_
              refine cV [0, 1, 2, 3, 4, 5, 6, 7, 8, 9, 10, 11] (wP s (setA (setG p 6 ((p.1 6) + (Int32.ofInt 1))) 4 (upd (upd (p.2 4) (Int32.toNatClampNeg (f_X3_manOn s p g)) (Int32.ofInt (-1))) (Int32.toNatClampNeg m) g))) (s_X3_makeDue s (setA (setG p 6 ((p.1 6) + (Int32.ofInt 1))) 4 (upd (upd (p.2 4) (Int32.toNatClampNeg (f_X3_manOn s p g)) (Int32.ofInt (-1))) (Int32.toNatClampNeg m) g)) (p.1 9)) rfl cwX3_makeDue dX3_carry_104 rfl rfl (hm4_P_P _ _) ((len_P _ _).trans (len_P _ _).symm) (wP s (f_X3_makeDue s (setA (setG p 6 ((p.1 6) + (Int32.ofInt 1))) 4 (upd (upd (p.2 4) (Int32.toNatClampNeg (f_X3_manOn s p g)) (Int32.ofInt (-1))) (Int32.toNatClampNeg m) g)) (p.1 9))) (pw8_P_P _ _ _) ?_
              obtain ⟨g13, hg13⟩ : ∃ z, z = (f_X3_makeDue s (setA (setG p 6 ((p.1 6) + (Int32.ofInt 1))) 4 (upd (upd (p.2 4) (Int32.toNatClampNeg (f_X3_manOn s p g)) (Int32.ofInt (-1))) (Int32.toNatClampNeg m) g)) (p.1 9)) := ⟨_, rfl⟩
              try rw [← hg13] at hp
              try rw [← hg13] at hq
              rw [← hg13]
              refine g_blk hz0 kX3_carry_107 ?_
              subst hq
              exact ⟨fun h => (by cases h), rfl, rfl⟩
            · rw [if_pos (show ((((p.1 6) + (Int32.ofInt 1)) / (p.1 8)) - (((p.1 6) + (Int32.ofInt 1)) / (p.1 8)) / (Int32.ofInt 2) * (Int32.ofInt 2)) = 0 from c11)] at hq
              replace hp := hp.1 c11
              refine g_blk hz0 kX3_carry_89 ?_
              refine g_w (w2 := (wP s (setA (setG p 6 ((p.1 6) + (Int32.ofInt 1))) 4 (upd (upd (p.2 4) (Int32.toNatClampNeg (f_X3_manOn s p g)) (Int32.ofInt (-1))) (Int32.toNatClampNeg m) g)))) rfl ?_
              refine cV [1, 2, 3, 4, 5, 6, 7] (wS s) (s_X4_flatten s hp.1) rfl cwX4_flatten dX3_carry_93 rfl rfl (hm5_P_S _ _) ((len_S _).trans (len_S _).symm) (wP (f_X4_flatten s) (setA (setG p 6 ((p.1 6) + (Int32.ofInt 1))) 4 (upd (upd (p.2 4) (Int32.toNatClampNeg (f_X3_manOn s p g)) (Int32.ofInt (-1))) (Int32.toNatClampNeg m) g))) (pw7_P_S _ _ _) ?_
              replace hp := hp.2
              obtain ⟨g12, hg12⟩ : ∃ z, z = (f_X4_flatten s) := ⟨_, rfl⟩
              try rw [← hg12] at hp
              try rw [← hg12] at hq
              rw [← hg12]
              refine g_blk hz0 kX3_carry_96 ?_
              refine g_blk hz0 kX3_carry_107 ?_
              subst hq
              exact ⟨fun h => (by cases h), rfl, rfl⟩
    · rw [if_pos (show (f_X4_has s g) = 0 from c2)] at hq
      refine g_blk hz0 kX3_carry_19 ?_
      subst hq
      exact ⟨fun h => (by cases h), rfl, rfl⟩

def f_X3_creaseDue (s : Rec) (p : Rec) (a : Int32) (l : Int32) (w : Int32) : Rec × Rec := ((f_X4_crease s a l w), (f_X3_makeDue (f_X4_crease s a l w) p ((p.1 7) - (Int32.ofInt 1))))
def p_X3_creaseDue (s : Rec) (p : Rec) (a : Int32) (l : Int32) (w : Int32) : Prop := (p_X4_crease s a l w) ∧ True
set_option maxHeartbeats 16000000 in
set_option maxRecDepth 20000 in
theorem s_X3_creaseDue (s : Rec) (p : Rec) (a : Int32) (l : Int32) (w : Int32) (hp : p_X3_creaseDue s p a l w) : Spec 2 0 0 mX3_creaseDue [.ref 0, .int a, .int l, .int w] (wP s p) (Ret none (wP ((f_X3_creaseDue s p a l w).1) ((f_X3_creaseDue s p a l w).2))) := by
  obtain ⟨zq, hq⟩ : ∃ z, z = (f_X3_creaseDue s p a l w) := ⟨_, rfl⟩
  rw [← hq]
  unfold f_X3_creaseDue at hq
  unfold p_X3_creaseDue at hp
  refine Sof fun sc => ?_
  refine g_blk hz0 kX3_creaseDue_0 ?_
  refine cV [1, 2, 3, 4, 5, 6, 7] (wS s) (s_X4_crease s a l w hp.1) rfl cwX4_crease dX3_creaseDue_7 rfl rfl (hm5_P_S _ _) ((len_S _).trans (len_S _).symm) (wP (f_X4_crease s a l w) p) (pw7_P_S _ _ _) ?_
  replace hp := hp.2
  obtain ⟨g1, hg1⟩ : ∃ z, z = (f_X4_crease s a l w) := ⟨_, rfl⟩
  try rw [← hg1] at hp
  try rw [← hg1] at hq
  rw [← hg1]
  refine g_blk hz0 kX3_creaseDue_10 ?_
  refine cV [0, 1, 2, 3, 4, 5, 6, 7, 8, 9, 10, 11] (wP g1 p) (s_X3_makeDue g1 p ((p.1 7) - (Int32.ofInt 1))) rfl cwX3_makeDue dX3_creaseDue_17 rfl rfl (hm4_P_P _ _) ((len_P _ _).trans (len_P _ _).symm) (wP g1 (f_X3_makeDue g1 p ((p.1 7) - (Int32.ofInt 1)))) (pw8_P_P _ _ _) ?_
  obtain ⟨g2, hg2⟩ : ∃ z, z = (f_X3_makeDue g1 p ((p.1 7) - (Int32.ofInt 1))) := ⟨_, rfl⟩
  try rw [← hg2] at hp
  try rw [← hg2] at hq
  rw [← hg2]
  refine g_blk hz0 kX3_creaseDue_20 ?_
  subst hq
  exact ⟨rfl, rfl⟩

def f_X3_behindNow_4  : Nat → Rec → Rec → Int32 → Int32 → Int32
  | 0, s, p, v1, v2 => 0
  | n + 1, s, p, v1, v2 => if (p.1 5) ≤ v2 then (if v1 = 0 then (f_X3_onTurn s p) else (if 0 ≤ v1 then (Int32.ofInt 1) else (Int32.ofInt 0))) else (if (f_X4_has s ((p.2 4) (Int32.toNatClampNeg v2))) = 0 then (if ((p.2 2) (Int32.toNatClampNeg v2)) = 0 then (f_X3_behindNow_4 n s p (v1 + (Int32.ofInt 0)) (v2 + (Int32.ofInt 1))) else (f_X3_behindNow_4 n s p (v1 + (-(Int32.ofInt 0))) (v2 + (Int32.ofInt 1)))) else (if ((p.2 2) (Int32.toNatClampNeg v2)) = 0 then (f_X3_behindNow_4 n s p (v1 + (f_X8_powerOfKind ((p.2 1) (Int32.toNatClampNeg v2)) ((p.2 3) (Int32.toNatClampNeg v2)) ((s.2 9) (Int32.toNatClampNeg ((p.2 4) (Int32.toNatClampNeg v2)))))) (v2 + (Int32.ofInt 1))) else (f_X3_behindNow_4 n s p (v1 + (-(f_X8_powerOfKind ((p.2 1) (Int32.toNatClampNeg v2)) ((p.2 3) (Int32.toNatClampNeg v2)) ((s.2 9) (Int32.toNatClampNeg ((p.2 4) (Int32.toNatClampNeg v2))))))) (v2 + (Int32.ofInt 1)))))
def p_X3_behindNow_4  : Nat → Rec → Rec → Int32 → Int32 → Prop
  | 0, _, _, _, _ => False
  | n + 1, s, p, v1, v2 => ((p.1 5) ≤ v2 → True) ∧ (¬ ((p.1 5) ≤ v2) → (vp_in v2 8 ∧ ((p_X4_has s ((p.2 4) (Int32.toNatClampNeg v2))) ∧ (((f_X4_has s ((p.2 4) (Int32.toNatClampNeg v2))) = 0 → (vp_in v2 8 ∧ ((((p.2 2) (Int32.toNatClampNeg v2)) = 0 → (p_X3_behindNow_4 n s p (v1 + (Int32.ofInt 0)) (v2 + (Int32.ofInt 1)))) ∧ (¬ (((p.2 2) (Int32.toNatClampNeg v2)) = 0) → (p_X3_behindNow_4 n s p (v1 + (-(Int32.ofInt 0))) (v2 + (Int32.ofInt 1))))))) ∧ (¬ ((f_X4_has s ((p.2 4) (Int32.toNatClampNeg v2))) = 0) → (vp_in v2 8 ∧ (vp_in v2 8 ∧ (vp_in ((p.2 4) (Int32.toNatClampNeg v2)) 36 ∧ (vp_in v2 8 ∧ ((((p.2 2) (Int32.toNatClampNeg v2)) = 0 → (p_X3_behindNow_4 n s p (v1 + (f_X8_powerOfKind ((p.2 1) (Int32.toNatClampNeg v2)) ((p.2 3) (Int32.toNatClampNeg v2)) ((s.2 9) (Int32.toNatClampNeg ((p.2 4) (Int32.toNatClampNeg v2)))))) (v2 + (Int32.ofInt 1)))) ∧ (¬ (((p.2 2) (Int32.toNatClampNeg v2)) = 0) → (p_X3_behindNow_4 n s p (v1 + (-(f_X8_powerOfKind ((p.2 1) (Int32.toNatClampNeg v2)) ((p.2 3) (Int32.toNatClampNeg v2)) ((s.2 9) (Int32.toNatClampNeg ((p.2 4) (Int32.toNatClampNeg v2))))))) (v2 + (Int32.ofInt 1))))))))))))))
set_option maxHeartbeats 16000000 in
set_option maxRecDepth 20000 in
theorem l_X3_behindNow_4 (sc : SC) (s : Rec) (p : Rec)  (zq : Int32)  : ∀ (n : Nat)  (v1 : Int32) (v2 : Int32), p_X3_behindNow_4 n s p v1 v2 → zq = f_X3_behindNow_4 n s p v1 v2 → Good sc 2 0 0 12 mX3_behindNow (Ret (some (.int (zq))) (wP s p)) 0 0 4 [some (.ref 0), some (.int v1), some (.int v2), none, none] [] (wP s p) := by
  intro n
  induction n with
  | zero => intro v1 v2 hp; exact hp.elim
  | succ n ih =>
    intro v1 v2 hp hq
    unfold p_X3_behindNow_4 at hp
    unfold f_X3_behindNow_4 at hq
    refine g_blk hz0 kX3_behindNow_4 ?_
    refine ⟨fun c1 => ?_, fun c1 => ?_⟩
    · rw [if_pos (show (p.1 5) ≤ v2 from c1)] at hq
      refine g_blk hz0 kX3_behindNow_86 ?_
      refine ⟨fun c2 => ?_, fun c2 => ?_⟩
      · rw [if_neg (show ¬ (v1 = 0) from c2)] at hq
        refine g_blk hz0 kX3_behindNow_95 ?_
        refine ⟨fun c3 => ?_, fun c3 => ?_⟩
        · rw [if_pos (show 0 ≤ v1 from c3)] at hq
          refine g_blk hz0 kX3_behindNow_103 ?_
          refine g_blk hz0 kX3_behindNow_104 ?_
          subst hq
          exact ⟨fun h => (by cases h), rfl, rfl⟩
        · rw [if_neg (show ¬ (0 ≤ v1) from c3)] at hq
          refine g_blk hz0 kX3_behindNow_99 ?_
          refine g_blk hz0 kX3_behindNow_104 ?_
          subst hq
          exact ⟨fun h => (by cases h), rfl, rfl⟩
      · rw [if_pos (show v1 = 0 from c2)] at hq
        refine g_blk hz0 kX3_behindNow_90 ?_
        refine cVp [0, 1, 2, 3, 4, 5, 6, 7, 8, 9, 10, 11] (wP s p) (s_X3_onTurn s p) rfl cwX3_onTurn dX3_behindNow_91 rfl rfl (hm4_P_P _ _) ?_
        refine g_blk hz0 kX3_behindNow_94 ?_
        subst hq
        exact ⟨fun h => (by cases h), rfl, rfl⟩
    · rw [if_neg (show ¬ ((p.1 5) ≤ v2) from c1)] at hq
      replace hp := hp.2 c1
      refine g_blk hz0 kX3_behindNow_12 ?_
      refine ⟨hp.1, ?_⟩
      replace hp := hp.2
      refine cVp [1, 2, 3, 4, 5, 6, 7] (wS s) (s_X4_has s ((p.2 4) (Int32.toNatClampNeg v2)) hp.1) rfl cwX4_has dX3_behindNow_24 rfl rfl (hm5_P_S _ _) ?_
      replace hp := hp.2
      refine g_blk hz0 kX3_behindNow_27 ?_
      refine ⟨fun c4 => ?_, fun c4 => ?_⟩
      · rw [if_pos (show (f_X4_has s ((p.2 4) (Int32.toNatClampNeg v2))) = 0 from c4)] at hq
        replace hp := hp.1 c4
        refine g_blk hz0 kX3_behindNow_57 ?_
        refine g_blk hz0 kX3_behindNow_58 ?_
        refine ⟨hp.1, ?_⟩
        replace hp := hp.2
        refine ⟨fun c5 => ?_, fun c5 => ?_⟩
        · rw [if_neg (show ¬ (((p.2 2) (Int32.toNatClampNeg v2)) = 0) from c5)] at hq
          replace hp := hp.2 c5
          refine g_blk hz0 kX3_behindNow_75 ?_
          refine g_blk hz0 kX3_behindNow_78 ?_
          refine g_le (L2 := [some (.ref 0), some (.int (v1 + (-(Int32.ofInt 0)))), some (.int (v2 + (Int32.ofInt 1))), none, none]) ⟨rfl, rfl, rfl, trivial⟩ ?_
          exact ih (v1 + (-(Int32.ofInt 0))) (v2 + (Int32.ofInt 1)) hp hq
        · rw [if_pos (show ((p.2 2) (Int32.toNatClampNeg v2)) = 0 from c5)] at hq
          replace hp := hp.1 c5
          refine g_blk hz0 kX3_behindNow_70 ?_
          refine g_blk hz0 kX3_behindNow_78 ?_
          refine g_le (L2 := [some (.ref 0), some (.int (v1 + (Int32.ofInt 0))), some (.int (v2 + (Int32.ofInt 1))), none, none]) ⟨rfl, rfl, rfl, trivial⟩ ?_
          exact ih (v1 + (Int32.ofInt 0)) (v2 + (Int32.ofInt 1)) hp hq
      · rw [if_neg (show ¬ ((f_X4_has s ((p.2 4) (Int32.toNatClampNeg v2))) = 0) from c4)] at hq
        replace hp := hp.2 c4
        refine g_blk hz0 kX3_behindNow_30 ?_
        refine ⟨hp.1, ?_⟩
        replace hp := hp.2
        refine ⟨hp.1, ?_⟩
        replace hp := hp.2
        refine ⟨hp.1, ?_⟩
        replace hp := hp.2
        refine cS0 (s_X8_powerOfKind ((p.2 1) (Int32.toNatClampNeg v2)) ((p.2 3) (Int32.toNatClampNeg v2)) ((s.2 9) (Int32.toNatClampNeg ((p.2 4) (Int32.toNatClampNeg v2))))) rfl cwX8_powerOfKind dX3_behindNow_51 rfl ?_
        refine g_blk hz0 kX3_behindNow_54 ?_
        refine g_blk hz0 kX3_behindNow_58 ?_
        refine ⟨hp.1, ?_⟩
        replace hp := hp.2
        refine ⟨fun c6 => ?_, fun c6 => ?_⟩
        · rw [if_neg (show ¬ (((p.2 2) (Int32.toNatClampNeg v2)) = 0) from c6)] at hq
          replace hp := hp.2 c6
          refine g_blk hz0 kX3_behindNow_75 ?_
          refine g_blk hz0 kX3_behindNow_78 ?_
          refine g_le (L2 := [some (.ref 0), some (.int (v1 + (-(f_X8_powerOfKind ((p.2 1) (Int32.toNatClampNeg v2)) ((p.2 3) (Int32.toNatClampNeg v2)) ((s.2 9) (Int32.toNatClampNeg ((p.2 4) (Int32.toNatClampNeg v2)))))))), some (.int (v2 + (Int32.ofInt 1))), none, none]) ⟨rfl, rfl, rfl, trivial⟩ ?_
          exact ih (v1 + (-(f_X8_powerOfKind ((p.2 1) (Int32.toNatClampNeg v2)) ((p.2 3) (Int32.toNatClampNeg v2)) ((s.2 9) (Int32.toNatClampNeg ((p.2 4) (Int32.toNatClampNeg v2))))))) (v2 + (Int32.ofInt 1)) hp hq
        · rw [if_pos (show ((p.2 2) (Int32.toNatClampNeg v2)) = 0 from c6)] at hq
          replace hp := hp.1 c6
          refine g_blk hz0 kX3_behindNow_70 ?_
          refine g_blk hz0 kX3_behindNow_78 ?_
          refine g_le (L2 := [some (.ref 0), some (.int (v1 + (f_X8_powerOfKind ((p.2 1) (Int32.toNatClampNeg v2)) ((p.2 3) (Int32.toNatClampNeg v2)) ((s.2 9) (Int32.toNatClampNeg ((p.2 4) (Int32.toNatClampNeg v2))))))), some (.int (v2 + (Int32.ofInt 1))), none, none]) ⟨rfl, rfl, rfl, trivial⟩ ?_
          exact ih (v1 + (f_X8_powerOfKind ((p.2 1) (Int32.toNatClampNeg v2)) ((p.2 3) (Int32.toNatClampNeg v2)) ((s.2 9) (Int32.toNatClampNeg ((p.2 4) (Int32.toNatClampNeg v2)))))) (v2 + (Int32.ofInt 1)) hp hq
def f_X3_behindNow (s : Rec) (p : Rec)  : Int32 := (f_X3_behindNow_4 40 s p ((Int32.ofInt 0)) ((Int32.ofInt 0)))
def p_X3_behindNow (s : Rec) (p : Rec)  : Prop := (p_X3_behindNow_4 40 s p ((Int32.ofInt 0)) ((Int32.ofInt 0)))
set_option maxHeartbeats 16000000 in
set_option maxRecDepth 20000 in
theorem s_X3_behindNow (s : Rec) (p : Rec)  (hp : p_X3_behindNow s p) : Spec 2 0 0 mX3_behindNow [.ref 0] (wP s p) (Ret (some (.int ((f_X3_behindNow s p)))) (wP s p)) := by
  obtain ⟨zq, hq⟩ : ∃ z, z = (f_X3_behindNow s p) := ⟨_, rfl⟩
  rw [← hq]
  unfold f_X3_behindNow at hq
  unfold p_X3_behindNow at hp
  refine Sof fun sc => ?_
  refine g_blk hz0 kX3_behindNow_0 ?_
  refine g_le (L2 := [some (.ref 0), some (.int (Int32.ofInt 0)), some (.int (Int32.ofInt 0)), none, none]) ⟨rfl, rfl, rfl, trivial⟩ ?_
  exact l_X3_behindNow_4 sc s p zq 40 ((Int32.ofInt 0)) ((Int32.ofInt 0)) hp hq

def f_X3_menOf_4  : Nat → Rec → Rec → Int32 → Int32 → Int32 → Int32
  | 0, s, p, v1, v2, v3 => 0
  | n + 1, s, p, v1, v2, v3 => if (p.1 5) ≤ v3 then v2 else (if (f_X3_isIn s p v3) = 0 then (f_X3_menOf_4 n s p v1 v2 (v3 + (Int32.ofInt 1))) else (if ((p.2 2) (Int32.toNatClampNeg v3)) = v1 then (f_X3_menOf_4 n s p v1 (v2 + (Int32.ofInt 1)) (v3 + (Int32.ofInt 1))) else (f_X3_menOf_4 n s p v1 v2 (v3 + (Int32.ofInt 1)))))
def p_X3_menOf_4  : Nat → Rec → Rec → Int32 → Int32 → Int32 → Prop
  | 0, _, _, _, _, _ => False
  | n + 1, s, p, v1, v2, v3 => ((p.1 5) ≤ v3 → True) ∧ (¬ ((p.1 5) ≤ v3) → ((p_X3_isIn s p v3) ∧ (((f_X3_isIn s p v3) = 0 → (p_X3_menOf_4 n s p v1 v2 (v3 + (Int32.ofInt 1)))) ∧ (¬ ((f_X3_isIn s p v3) = 0) → (vp_in v3 8 ∧ ((((p.2 2) (Int32.toNatClampNeg v3)) = v1 → (p_X3_menOf_4 n s p v1 (v2 + (Int32.ofInt 1)) (v3 + (Int32.ofInt 1)))) ∧ (¬ (((p.2 2) (Int32.toNatClampNeg v3)) = v1) → (p_X3_menOf_4 n s p v1 v2 (v3 + (Int32.ofInt 1))))))))))
set_option maxHeartbeats 16000000 in
set_option maxRecDepth 20000 in
theorem l_X3_menOf_4 (sc : SC) (s : Rec) (p : Rec)  (zq : Int32)  : ∀ (n : Nat)  (v1 : Int32) (v2 : Int32) (v3 : Int32), p_X3_menOf_4 n s p v1 v2 v3 → zq = f_X3_menOf_4 n s p v1 v2 v3 → Good sc 1 0 0 12 mX3_menOf (Ret (some (.int (zq))) (wP s p)) 0 0 4 [some (.ref 0), some (.int v1), some (.int v2), some (.int v3)] [] (wP s p) := by
  intro n
  induction n with
  | zero => intro v1 v2 v3 hp; exact hp.elim
  | succ n ih =>
    intro v1 v2 v3 hp hq
    unfold p_X3_menOf_4 at hp
    unfold f_X3_menOf_4 at hq
    refine g_blk hz0 kX3_menOf_4 ?_
    refine ⟨fun c1 => ?_, fun c1 => ?_⟩
    · rw [if_pos (show (p.1 5) ≤ v3 from c1)] at hq
      refine g_blk hz0 kX3_menOf_39 ?_
      subst hq
      exact ⟨fun h => (by cases h), rfl, rfl⟩
    · rw [if_neg (show ¬ ((p.1 5) ≤ v3) from c1)] at hq
      replace hp := hp.2 c1
      refine g_blk hz0 kX3_menOf_12 ?_
      refine cVp [0, 1, 2, 3, 4, 5, 6, 7, 8, 9, 10, 11] (wP s p) (s_X3_isIn s p v3 hp.1) rfl cwX3_isIn dX3_menOf_14 rfl rfl (hm4_P_P _ _) ?_
      replace hp := hp.2
      refine g_blk hz0 kX3_menOf_17 ?_
      refine ⟨fun c2 => ?_, fun c2 => ?_⟩
      · rw [if_pos (show (f_X3_isIn s p v3) = 0 from c2)] at hq
        replace hp := hp.1 c2
        refine g_blk hz0 kX3_menOf_33 ?_
        refine g_le (L2 := [some (.ref 0), some (.int v1), some (.int v2), some (.int (v3 + (Int32.ofInt 1)))]) ⟨rfl, rfl, rfl, rfl, trivial⟩ ?_
        exact ih v1 v2 (v3 + (Int32.ofInt 1)) hp hq
      · rw [if_neg (show ¬ ((f_X3_isIn s p v3) = 0) from c2)] at hq
        replace hp := hp.2 c2
        refine g_blk hz0 kX3_menOf_20 ?_
        refine ⟨hp.1, ?_⟩
        replace hp := hp.2
        refine ⟨fun c3 => ?_, fun c3 => ?_⟩
        · rw [if_neg (show ¬ (((p.2 2) (Int32.toNatClampNeg v3)) = v1) from c3)] at hq
          replace hp := hp.2 c3
          refine g_blk hz0 kX3_menOf_33 ?_
          refine g_le (L2 := [some (.ref 0), some (.int v1), some (.int v2), some (.int (v3 + (Int32.ofInt 1)))]) ⟨rfl, rfl, rfl, rfl, trivial⟩ ?_
          exact ih v1 v2 (v3 + (Int32.ofInt 1)) hp hq
        · rw [if_pos (show ((p.2 2) (Int32.toNatClampNeg v3)) = v1 from c3)] at hq
          replace hp := hp.1 c3
          refine g_blk hz0 kX3_menOf_30 ?_
          refine g_blk hz0 kX3_menOf_33 ?_
          refine g_le (L2 := [some (.ref 0), some (.int v1), some (.int (v2 + (Int32.ofInt 1))), some (.int (v3 + (Int32.ofInt 1)))]) ⟨rfl, rfl, rfl, rfl, trivial⟩ ?_
          exact ih v1 (v2 + (Int32.ofInt 1)) (v3 + (Int32.ofInt 1)) hp hq
def f_X3_menOf (s : Rec) (p : Rec) (o : Int32) : Int32 := (f_X3_menOf_4 40 s p o ((Int32.ofInt 0)) ((Int32.ofInt 0)))
def p_X3_menOf (s : Rec) (p : Rec) (o : Int32) : Prop := (p_X3_menOf_4 40 s p o ((Int32.ofInt 0)) ((Int32.ofInt 0)))
set_option maxHeartbeats 16000000 in
set_option maxRecDepth 20000 in
theorem s_X3_menOf (s : Rec) (p : Rec) (o : Int32) (hp : p_X3_menOf s p o) : Spec 1 0 0 mX3_menOf [.ref 0, .int o] (wP s p) (Ret (some (.int ((f_X3_menOf s p o)))) (wP s p)) := by
  obtain ⟨zq, hq⟩ : ∃ z, z = (f_X3_menOf s p o) := ⟨_, rfl⟩
  rw [← hq]
  unfold f_X3_menOf at hq
  unfold p_X3_menOf at hp
  refine Sof fun sc => ?_
  refine g_blk hz0 kX3_menOf_0 ?_
  refine g_le (L2 := [some (.ref 0), some (.int o), some (.int (Int32.ofInt 0)), some (.int (Int32.ofInt 0))]) ⟨rfl, rfl, rfl, rfl, trivial⟩ ?_
  exact l_X3_menOf_4 sc s p zq 40 o ((Int32.ofInt 0)) ((Int32.ofInt 0)) hp hq

def f_X3_winner (s : Rec) (p : Rec)  : Int32 := if ((f_X3_menOf s p ((Int32.ofInt 0))) + (f_X3_menOf s p ((Int32.ofInt 1)))) = (p.1 5) then (Int32.ofInt (-1)) else (if (f_X3_menOf s p ((Int32.ofInt 0))) ≤ 0 then (if (f_X3_menOf s p ((Int32.ofInt 0))) = 0 then (if (f_X3_menOf s p ((Int32.ofInt 1))) ≤ 0 then (Int32.ofInt (-1)) else (Int32.ofInt 1)) else (Int32.ofInt (-1))) else (if (f_X3_menOf s p ((Int32.ofInt 1))) = 0 then (Int32.ofInt 0) else (if (f_X3_menOf s p ((Int32.ofInt 0))) = 0 then (if (f_X3_menOf s p ((Int32.ofInt 1))) ≤ 0 then (Int32.ofInt (-1)) else (Int32.ofInt 1)) else (Int32.ofInt (-1)))))
def p_X3_winner (s : Rec) (p : Rec)  : Prop := (p_X3_menOf s p ((Int32.ofInt 0))) ∧ ((p_X3_menOf s p ((Int32.ofInt 1))) ∧ True)
set_option maxHeartbeats 16000000 in
set_option maxRecDepth 20000 in
theorem s_X3_winner (s : Rec) (p : Rec)  (hp : p_X3_winner s p) : Spec 2 0 0 mX3_winner [.ref 0] (wP s p) (Ret (some (.int ((f_X3_winner s p)))) (wP s p)) := by
  obtain ⟨zq, hq⟩ : ∃ z, z = (f_X3_winner s p) := ⟨_, rfl⟩
  rw [← hq]
  unfold f_X3_winner at hq
  unfold p_X3_winner at hp
  refine Sof fun sc => ?_
  refine g_blk hz0 kX3_winner_0 ?_
  refine cVp [0, 1, 2, 3, 4, 5, 6, 7, 8, 9, 10, 11] (wP s p) (s_X3_menOf s p ((Int32.ofInt 0)) hp.1) rfl cwX3_menOf dX3_winner_2 rfl rfl (hm4_P_P _ _) ?_
  replace hp := hp.2
  refine g_blk hz0 kX3_winner_5 ?_
  refine cVp [0, 1, 2, 3, 4, 5, 6, 7, 8, 9, 10, 11] (wP s p) (s_X3_menOf s p ((Int32.ofInt 1)) hp.1) rfl cwX3_menOf dX3_winner_8 rfl rfl (hm4_P_P _ _) ?_
  replace hp := hp.2
  refine g_blk hz0 kX3_winner_11 ?_
  refine ⟨fun c1 => ?_, fun c1 => ?_⟩
  · rw [if_neg (show ¬ (((f_X3_menOf s p ((Int32.ofInt 0))) + (f_X3_menOf s p ((Int32.ofInt 1)))) = (p.1 5)) from c1)] at hq
    refine g_blk hz0 kX3_winner_24 ?_
    refine ⟨fun c2 => ?_, fun c2 => ?_⟩
    · rw [if_pos (show (f_X3_menOf s p ((Int32.ofInt 0))) ≤ 0 from c2)] at hq
      refine g_blk hz0 kX3_winner_34 ?_
      refine ⟨fun c3 => ?_, fun c3 => ?_⟩
      · rw [if_neg (show ¬ ((f_X3_menOf s p ((Int32.ofInt 0))) = 0) from c3)] at hq
        refine g_blk hz0 kX3_winner_46 ?_
        refine g_blk hz0 kX3_winner_47 ?_
        subst hq
        exact ⟨fun h => (by cases h), rfl, rfl⟩
      · rw [if_pos (show (f_X3_menOf s p ((Int32.ofInt 0))) = 0 from c3)] at hq
        refine g_blk hz0 kX3_winner_38 ?_
        refine ⟨fun c4 => ?_, fun c4 => ?_⟩
        · rw [if_pos (show (f_X3_menOf s p ((Int32.ofInt 1))) ≤ 0 from c4)] at hq
          refine g_blk hz0 kX3_winner_46 ?_
          refine g_blk hz0 kX3_winner_47 ?_
          subst hq
          exact ⟨fun h => (by cases h), rfl, rfl⟩
        · rw [if_neg (show ¬ ((f_X3_menOf s p ((Int32.ofInt 1))) ≤ 0) from c4)] at hq
          refine g_blk hz0 kX3_winner_42 ?_
          refine g_blk hz0 kX3_winner_47 ?_
          subst hq
          exact ⟨fun h => (by cases h), rfl, rfl⟩
    · rw [if_neg (show ¬ ((f_X3_menOf s p ((Int32.ofInt 0))) ≤ 0) from c2)] at hq
      refine g_blk hz0 kX3_winner_28 ?_
      refine ⟨fun c5 => ?_, fun c5 => ?_⟩
      · rw [if_neg (show ¬ ((f_X3_menOf s p ((Int32.ofInt 1))) = 0) from c5)] at hq
        refine g_blk hz0 kX3_winner_34 ?_
        refine ⟨fun c6 => ?_, fun c6 => ?_⟩
        · rw [if_neg (show ¬ ((f_X3_menOf s p ((Int32.ofInt 0))) = 0) from c6)] at hq
          refine g_blk hz0 kX3_winner_46 ?_
          refine g_blk hz0 kX3_winner_47 ?_
          subst hq
          exact ⟨fun h => (by cases h), rfl, rfl⟩
        · rw [if_pos (show (f_X3_menOf s p ((Int32.ofInt 0))) = 0 from c6)] at hq
          refine g_blk hz0 kX3_winner_38 ?_
          refine ⟨fun c7 => ?_, fun c7 => ?_⟩
          · rw [if_pos (show (f_X3_menOf s p ((Int32.ofInt 1))) ≤ 0 from c7)] at hq
            refine g_blk hz0 kX3_winner_46 ?_
            refine g_blk hz0 kX3_winner_47 ?_
            subst hq
            exact ⟨fun h => (by cases h), rfl, rfl⟩
          · rw [if_neg (show ¬ ((f_X3_menOf s p ((Int32.ofInt 1))) ≤ 0) from c7)] at hq
            refine g_blk hz0 kX3_winner_42 ?_
            refine g_blk hz0 kX3_winner_47 ?_
            subst hq
            exact ⟨fun h => (by cases h), rfl, rfl⟩
      · rw [if_pos (show (f_X3_menOf s p ((Int32.ofInt 1))) = 0 from c5)] at hq
        refine g_blk hz0 kX3_winner_32 ?_
        subst hq
        exact ⟨fun h => (by cases h), rfl, rfl⟩
  · rw [if_pos (show ((f_X3_menOf s p ((Int32.ofInt 0))) + (f_X3_menOf s p ((Int32.ofInt 1)))) = (p.1 5) from c1)] at hq
    refine g_blk hz0 kX3_winner_22 ?_
    subst hq
    exact ⟨fun h => (by cases h), rfl, rfl⟩

def f_X3_begin (s : Rec) (p : Rec) (w : Int32) (h : Int32) : Rec × Rec := ((f_X4_begin s w h), (setG (setG (setG p 5 ((Int32.ofInt 0))) 6 ((Int32.ofInt 0))) 7 ((Int32.ofInt 0))))
def p_X3_begin (s : Rec) (p : Rec) (w : Int32) (h : Int32) : Prop := (p_X4_begin s w h) ∧ True
set_option maxHeartbeats 16000000 in
set_option maxRecDepth 20000 in
theorem s_X3_begin (s : Rec) (p : Rec) (w : Int32) (h : Int32) (hp : p_X3_begin s p w h) : Spec 3 0 0 mX3_begin [.ref 0, .int w, .int h] (wP s p) (Ret none (wP ((f_X3_begin s p w h).1) ((f_X3_begin s p w h).2))) := by
  obtain ⟨zq, hq⟩ : ∃ z, z = (f_X3_begin s p w h) := ⟨_, rfl⟩
  rw [← hq]
  unfold f_X3_begin at hq
  unfold p_X3_begin at hp
  refine Sof fun sc => ?_
  refine g_blk hz0 kX3_begin_0 ?_
  refine cV [1, 2, 3, 4, 5, 6, 7] (wS s) (s_X4_begin s w h hp.1) rfl cwX4_begin dX3_begin_6 rfl rfl (hm5_P_S _ _) ((len_S _).trans (len_S _).symm) (wP (f_X4_begin s w h) p) (pw7_P_S _ _ _) ?_
  replace hp := hp.2
  obtain ⟨g1, hg1⟩ : ∃ z, z = (f_X4_begin s w h) := ⟨_, rfl⟩
  try rw [← hg1] at hp
  try rw [← hg1] at hq
  rw [← hg1]
  refine g_blk hz0 kX3_begin_9 ?_
  refine ⟨fun h => (by cases h), Or.inl rfl, ?_⟩
  refine ⟨fun h => (by cases h), Or.inl rfl, ?_⟩
  refine ⟨fun h => (by cases h), Or.inl rfl, ?_⟩
  subst hq
  exact ⟨rfl, rfl⟩

def f_X3_enter (s : Rec) (p : Rec) (k : Int32) (o : Int32) (h : Int32) (c : Int32) : Int32 × Rec := if (p.1 5) < (Int32.ofInt 8) then ((((p.1 5) + (Int32.ofInt 1)) - (Int32.ofInt 1)), (setA (setA (setA (setA (setG p 5 ((p.1 5) + (Int32.ofInt 1))) 1 (upd (p.2 1) (Int32.toNatClampNeg (p.1 5)) k)) 2 (upd (p.2 2) (Int32.toNatClampNeg (p.1 5)) o)) 3 (upd (p.2 3) (Int32.toNatClampNeg (p.1 5)) h)) 4 (upd (p.2 4) (Int32.toNatClampNeg (p.1 5)) c))) else ((Int32.ofInt (-1)), p)
def p_X3_enter (s : Rec) (p : Rec) (k : Int32) (o : Int32) (h : Int32) (c : Int32) : Prop := ((p.1 5) < (Int32.ofInt 8) → (vp_in (p.1 5) 8 ∧ (vp_in (p.1 5) 8 ∧ (vp_in (p.1 5) 8 ∧ (vp_in (p.1 5) 8 ∧ True))))) ∧ (¬ ((p.1 5) < (Int32.ofInt 8)) → True)
set_option maxHeartbeats 16000000 in
set_option maxRecDepth 20000 in
theorem s_X3_enter (s : Rec) (p : Rec) (k : Int32) (o : Int32) (h : Int32) (c : Int32) (hp : p_X3_enter s p k o h c) : Spec 0 0 0 mX3_enter [.ref 0, .int k, .int o, .int h, .int c] (wP s p) (Ret (some (.int ((f_X3_enter s p k o h c).1))) (wP s ((f_X3_enter s p k o h c).2))) := by
  obtain ⟨zq, hq⟩ : ∃ z, z = (f_X3_enter s p k o h c) := ⟨_, rfl⟩
  rw [← hq]
  unfold f_X3_enter at hq
  unfold p_X3_enter at hp
  refine Sof fun sc => ?_
  refine g_blk hz0 kX3_enter_0 ?_
  refine ⟨fun c1 => ?_, fun c1 => ?_⟩
  · rw [if_pos (show (p.1 5) < (Int32.ofInt 8) from c1)] at hq
    replace hp := hp.1 c1
    refine g_blk hz0 kX3_enter_11 ?_
    refine ⟨hp.1, ?_⟩
    replace hp := hp.2
    refine ⟨hp.1, ?_⟩
    replace hp := hp.2
    refine ⟨hp.1, ?_⟩
    replace hp := hp.2
    refine ⟨hp.1, ?_⟩
    replace hp := hp.2
    refine ⟨fun h => (by cases h), Or.inl rfl, ?_⟩
    subst hq
    exact ⟨fun h => (by cases h), rfl, rfl⟩
  · rw [if_neg (show ¬ ((p.1 5) < (Int32.ofInt 8)) from c1)] at hq
    refine g_blk hz0 kX3_enter_9 ?_
    subst hq
    exact ⟨fun h => (by cases h), rfl, rfl⟩

set_option maxHeartbeats 16000000 in
theorem hm6_PA_SA (s : Rec) (p : Rec) (a : Rec) : [1, 2, 3, 4, 5, 6, 7, 12].map (lk (wPA s p a)) = (wSA s a).map (fun e => some (ren [1, 2, 3, 4, 5, 6, 7, 12] e)) := rfl
set_option maxHeartbeats 16000000 in
theorem pw9_PA_SA (s : Rec) (p : Rec) (a : Rec) (a9 : Rec) : putW (wPA s p a) [1, 2, 3, 4, 5, 6, 7, 12] ((wSA s a9).map (ren [1, 2, 3, 4, 5, 6, 7, 12])) = (wPA s p a9) := rfl
def f_X3_save (s : Rec) (p : Rec) (a : Rec)  : Rec := (setA (f_X4_save s (setA a 0 (upd (upd (a.2 0) (Int32.toNatClampNeg (Int32.ofInt 0)) (p.1 6)) (Int32.toNatClampNeg (Int32.ofInt 1)) (p.1 7)))) 0 (va_cpy (p.2 4) ((f_X4_save s (setA a 0 (upd (upd (a.2 0) (Int32.toNatClampNeg (Int32.ofInt 0)) (p.1 6)) (Int32.toNatClampNeg (Int32.ofInt 1)) (p.1 7)))).2 0) 0 12 8))
def p_X3_save (s : Rec) (p : Rec) (a : Rec)  : Prop := (p_X4_save s (setA a 0 (upd (upd (a.2 0) (Int32.toNatClampNeg (Int32.ofInt 0)) (p.1 6)) (Int32.toNatClampNeg (Int32.ofInt 1)) (p.1 7)))) ∧ True
set_option maxHeartbeats 16000000 in
set_option maxRecDepth 20000 in
theorem s_X3_save (s : Rec) (p : Rec) (a : Rec)  (hp : p_X3_save s p a) : Spec 1 0 0 mX3_save [.ref 0, .ref 12] (wPA s p a) (Ret none (wPA s p ((f_X3_save s p a)))) := by
  obtain ⟨zq, hq⟩ : ∃ z, z = (f_X3_save s p a) := ⟨_, rfl⟩
  rw [← hq]
  unfold f_X3_save at hq
  unfold p_X3_save at hp
  refine Sof fun sc => ?_
  refine g_blk hz0 kX3_save_0 ?_
  refine ⟨vinL (by decide), ?_⟩
  refine ⟨vinL (by decide), ?_⟩
  refine g_w (w2 := (wPA s p (setA a 0 (upd (upd (a.2 0) (Int32.toNatClampNeg (Int32.ofInt 0)) (p.1 6)) (Int32.toNatClampNeg (Int32.ofInt 1)) (p.1 7))))) rfl ?_
  refine cV [1, 2, 3, 4, 5, 6, 7, 12] (wSA s (setA a 0 (upd (upd (a.2 0) (Int32.toNatClampNeg (Int32.ofInt 0)) (p.1 6)) (Int32.toNatClampNeg (Int32.ofInt 1)) (p.1 7)))) (s_X4_save s (setA a 0 (upd (upd (a.2 0) (Int32.toNatClampNeg (Int32.ofInt 0)) (p.1 6)) (Int32.toNatClampNeg (Int32.ofInt 1)) (p.1 7))) hp.1) rfl cwX4_save dX3_save_19 rfl rfl (hm6_PA_SA _ _ _) ((len_SA _ _).trans (len_SA _ _).symm) (wPA s p (f_X4_save s (setA a 0 (upd (upd (a.2 0) (Int32.toNatClampNeg (Int32.ofInt 0)) (p.1 6)) (Int32.toNatClampNeg (Int32.ofInt 1)) (p.1 7))))) (pw9_PA_SA _ _ _ _) ?_
  replace hp := hp.2
  obtain ⟨g1, hg1⟩ : ∃ z, z = (f_X4_save s (setA a 0 (upd (upd (a.2 0) (Int32.toNatClampNeg (Int32.ofInt 0)) (p.1 6)) (Int32.toNatClampNeg (Int32.ofInt 1)) (p.1 7)))) := ⟨_, rfl⟩
  try rw [← hg1] at hp
  try rw [← hg1] at hq
  rw [← hg1]
  refine g_blk hz0 kX3_save_22 ?_
  refine g_copy (t := 0) (m0 := 8) (m1 := 20) (f := (p.2 4)) (g := (g1.2 0)) (by decide) (Or.inl rfl) (gw_mem (by decide +kernel)) rfl rfl (by decide) (by decide) (by decide) (by decide) (by decide) (fun h => by cases h) (Nat.le_of_ble_eq_true rfl) dX3_save_32 ?_
  refine g_blk hz0 kX3_save_35 ?_
  subst hq
  exact ⟨rfl, rfl⟩

set_option maxHeartbeats 16000000 in
theorem pw10_PA_SA (s : Rec) (p : Rec) (a : Rec) (s9 : Rec) : putW (wPA s p a) [1, 2, 3, 4, 5, 6, 7, 12] ((wSA s9 a).map (ren [1, 2, 3, 4, 5, 6, 7, 12])) = (wPA s9 p a) := rfl
def f_X3_load (s : Rec) (p : Rec) (a : Rec)  : Rec × Rec := ((f_X4_load s a), (setA (setG (setG p 6 ((a.2 0) (Int32.toNatClampNeg (Int32.ofInt 0)))) 7 ((a.2 0) (Int32.toNatClampNeg (Int32.ofInt 1)))) 4 (va_cpy (a.2 0) (p.2 4) 12 0 8)))
def p_X3_load (s : Rec) (p : Rec) (a : Rec)  : Prop := (p_X4_load s a) ∧ True
set_option maxHeartbeats 16000000 in
set_option maxRecDepth 20000 in
theorem s_X3_load (s : Rec) (p : Rec) (a : Rec)  (hp : p_X3_load s p a) : Spec 3 0 0 mX3_load [.ref 0, .ref 12] (wPA s p a) (Ret none (wPA ((f_X3_load s p a).1) ((f_X3_load s p a).2) a)) := by
  obtain ⟨zq, hq⟩ : ∃ z, z = (f_X3_load s p a) := ⟨_, rfl⟩
  rw [← hq]
  unfold f_X3_load at hq
  unfold p_X3_load at hp
  refine Sof fun sc => ?_
  refine g_blk hz0 kX3_load_0 ?_
  refine ⟨vinL (by decide), ?_⟩
  refine ⟨fun h => (by cases h), Or.inl rfl, ?_⟩
  refine ⟨vinL (by decide), ?_⟩
  refine ⟨fun h => (by cases h), Or.inl rfl, ?_⟩
  refine g_w (w2 := (wPA s (setG (setG p 6 ((a.2 0) (Int32.toNatClampNeg (Int32.ofInt 0)))) 7 ((a.2 0) (Int32.toNatClampNeg (Int32.ofInt 1)))) a)) rfl ?_
  refine cV [1, 2, 3, 4, 5, 6, 7, 12] (wSA s a) (s_X4_load s a hp.1) rfl cwX4_load dX3_load_19 rfl rfl (hm6_PA_SA _ _ _) ((len_SA _ _).trans (len_SA _ _).symm) (wPA (f_X4_load s a) (setG (setG p 6 ((a.2 0) (Int32.toNatClampNeg (Int32.ofInt 0)))) 7 ((a.2 0) (Int32.toNatClampNeg (Int32.ofInt 1)))) a) (pw10_PA_SA _ _ _ _) ?_
  replace hp := hp.2
  obtain ⟨g1, hg1⟩ : ∃ z, z = (f_X4_load s a) := ⟨_, rfl⟩
  try rw [← hg1] at hp
  try rw [← hg1] at hq
  rw [← hg1]
  refine g_blk hz0 kX3_load_22 ?_
  refine g_copy (t := 0) (m0 := 20) (m1 := 8) (f := (a.2 0)) (g := (p.2 4)) (by decide) (Or.inl rfl) (gw_mem (by decide +kernel)) rfl rfl (by decide) (by decide) (by decide) (by decide) (by decide) (fun h => by cases h) (Nat.le_of_ble_eq_true rfl) dX3_load_32 ?_
  refine g_blk hz0 kX3_load_35 ?_
  subst hq
  exact ⟨rfl, rfl⟩

set_option maxHeartbeats 16000000 in
theorem hm7_PP_SS (s : Rec) (p : Rec) (s2 : Rec) (p2 : Rec) : [1, 2, 3, 4, 5, 6, 7, 13, 14, 15, 16, 17, 18, 19].map (lk (wPP s p s2 p2)) = (wSS s s2).map (fun e => some (ren [1, 2, 3, 4, 5, 6, 7, 13, 14, 15, 16, 17, 18, 19] e)) := rfl
set_option maxHeartbeats 16000000 in
theorem pw11_PP_SS (s : Rec) (p : Rec) (s2 : Rec) (p2 : Rec) (s9 : Rec) : putW (wPP s p s2 p2) [1, 2, 3, 4, 5, 6, 7, 13, 14, 15, 16, 17, 18, 19] ((wSS s9 s2).map (ren [1, 2, 3, 4, 5, 6, 7, 13, 14, 15, 16, 17, 18, 19])) = (wPP s9 p s2 p2) := rfl
def f_X3_copy (s : Rec) (p : Rec) (s2 : Rec) (p2 : Rec)  : Rec × Rec := ((f_X4_copy s s2), (setA (setA (setA (setA (setG (setG (setG (setG (setG p 5 (p2.1 5)) 6 (p2.1 6)) 7 (p2.1 7)) 8 (p2.1 8)) 9 (p2.1 9)) 1 (va_cpy (p2.2 1) (p.2 1) 0 0 8)) 2 (va_cpy (p2.2 2) (p.2 2) 0 0 8)) 3 (va_cpy (p2.2 3) (p.2 3) 0 0 8)) 4 (va_cpy (p2.2 4) (p.2 4) 0 0 8)))
def p_X3_copy (s : Rec) (p : Rec) (s2 : Rec) (p2 : Rec)  : Prop := (p_X4_copy s s2) ∧ True
set_option maxHeartbeats 16000000 in
set_option maxRecDepth 20000 in
theorem s_X3_copy (s : Rec) (p : Rec) (s2 : Rec) (p2 : Rec)  (hp : p_X3_copy s p s2 p2) : Spec 2 0 0 mX3_copy [.ref 0, .ref 12] (wPP s p s2 p2) (Ret none (wPP ((f_X3_copy s p s2 p2).1) ((f_X3_copy s p s2 p2).2) s2 p2)) := by
  obtain ⟨zq, hq⟩ : ∃ z, z = (f_X3_copy s p s2 p2) := ⟨_, rfl⟩
  rw [← hq]
  unfold f_X3_copy at hq
  unfold p_X3_copy at hp
  refine Sof fun sc => ?_
  refine g_blk hz0 kX3_copy_0 ?_
  refine cV [1, 2, 3, 4, 5, 6, 7, 13, 14, 15, 16, 17, 18, 19] (wSS s s2) (s_X4_copy s s2 hp.1) rfl cwX4_copy dX3_copy_8 rfl rfl (hm7_PP_SS _ _ _ _) ((len_SS _ _).trans (len_SS _ _).symm) (wPP (f_X4_copy s s2) p s2 p2) (pw11_PP_SS _ _ _ _ _) ?_
  replace hp := hp.2
  obtain ⟨g1, hg1⟩ : ∃ z, z = (f_X4_copy s s2) := ⟨_, rfl⟩
  try rw [← hg1] at hp
  try rw [← hg1] at hq
  rw [← hg1]
  refine g_blk hz0 kX3_copy_11 ?_
  refine g_copy (t := 0) (m0 := 8) (m1 := 8) (f := (p2.2 1)) (g := (p.2 1)) (by decide) (Or.inl rfl) (gw_mem (by decide +kernel)) rfl rfl (by decide) (by decide) (by decide) (by decide) (by decide) (fun h => by cases h) (Nat.le_of_ble_eq_true rfl) dX3_copy_23 ?_
  refine g_blk hz0 kX3_copy_26 ?_
  refine g_copy (t := 0) (m0 := 8) (m1 := 8) (f := (p2.2 2)) (g := (p.2 2)) (by decide) (Or.inl rfl) (gw_mem (by decide +kernel)) rfl rfl (by decide) (by decide) (by decide) (by decide) (by decide) (fun h => by cases h) (Nat.le_of_ble_eq_true rfl) dX3_copy_38 ?_
  refine g_blk hz0 kX3_copy_41 ?_
  refine g_copy (t := 0) (m0 := 8) (m1 := 8) (f := (p2.2 3)) (g := (p.2 3)) (by decide) (Or.inl rfl) (gw_mem (by decide +kernel)) rfl rfl (by decide) (by decide) (by decide) (by decide) (by decide) (fun h => by cases h) (Nat.le_of_ble_eq_true rfl) dX3_copy_53 ?_
  refine g_blk hz0 kX3_copy_56 ?_
  refine g_copy (t := 0) (m0 := 8) (m1 := 8) (f := (p2.2 4)) (g := (p.2 4)) (by decide) (Or.inl rfl) (gw_mem (by decide +kernel)) rfl rfl (by decide) (by decide) (by decide) (by decide) (by decide) (fun h => by cases h) (Nat.le_of_ble_eq_true rfl) dX3_copy_68 ?_
  refine g_blk hz0 kX3_copy_71 ?_
  refine ⟨fun h => (by cases h), Or.inl rfl, ?_⟩
  refine ⟨fun h => (by cases h), Or.inl rfl, ?_⟩
  refine ⟨fun h => (by cases h), Or.inl rfl, ?_⟩
  refine ⟨fun h => (by cases h), Or.inl rfl, ?_⟩
  refine ⟨fun h => (by cases h), Or.inl rfl, ?_⟩
  subst hq
  exact ⟨rfl, rfl⟩
