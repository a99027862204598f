def f_X0_firstStep_c0 (o : Rec) (h : Rec) (s : Rec) (p : Rec) (me : Int32) (wt : Int32) : Int32 := (Int32.ofInt (-2))
set_option maxHeartbeats 16000000 in
set_option maxRecDepth 20000 in
theorem s_X0_firstStep_c0 (o : Rec) (h : Rec) (s : Rec) (p : Rec) (me : Int32) (wt : Int32) : Spec 1 0 0 mX0_firstStep [.ref 0, .ref 16, .int me, .int (Int32.ofInt 0), .int wt] (wHP o h s p) (Ret (some (.int ((f_X0_firstStep_c0 o h s p me wt)))) (wHP o h s p)) := by
  obtain ⟨zq, hq⟩ : ∃ z, z = (f_X0_firstStep_c0 o h s p me wt) := ⟨_, rfl⟩
  rw [← hq]
  unfold f_X0_firstStep_c0 at hq
  refine Sof fun sc => ?_
  refine g_blk hz0 kX0_firstStep_0 ?_
  refine cS0 (s_X8_within (Int32.ofInt 0) (Int32.ofInt 1) (Int32.ofInt 3)) rfl cwX8_within dX0_firstStep_3 rfl ?_
  refine g_blk hz0 kX0_firstStep_6 ?_
  refine ⟨fun c => absurd c (by decide), fun _ => ?_⟩
  refine g_blk hz0 kX0_firstStep_9 ?_
  subst hq
  exact ⟨fun h => (by cases h), rfl, rfl⟩

set_option maxHeartbeats 16000000 in
theorem hm24_HP_P (o : Rec) (h : Rec) (s : Rec) (p : Rec) : [16, 17, 18, 19, 20, 21, 22, 23, 24, 25, 26, 27].map (lk (wHP o h s p)) = (wP s p).map (fun e => some (ren [16, 17, 18, 19, 20, 21, 22, 23, 24, 25, 26, 27] e)) := rfl
set_option maxHeartbeats 16000000 in
theorem pw37_HP_P (o : Rec) (h : Rec) (s : Rec) (p : Rec)  : putW (wHP o h s p) [16, 17, 18, 19, 20, 21, 22, 23, 24, 25, 26, 27] ((wP s p).map (ren [16, 17, 18, 19, 20, 21, 22, 23, 24, 25, 26, 27])) = (wHP o h s p) := rfl
set_option maxHeartbeats 16000000 in
theorem hm25_HP_HP (o : Rec) (h : Rec) (s : Rec) (p : Rec) : [0, 1, 2, 3, 4, 5, 6, 7, 8, 9, 10, 11, 12, 13, 14, 15, 16, 17, 18, 19, 20, 21, 22, 23, 24, 25, 26, 27].map (lk (wHP o h s p)) = (wHP o h s p).map (fun e => some (ren [0, 1, 2, 3, 4, 5, 6, 7, 8, 9, 10, 11, 12, 13, 14, 15, 16, 17, 18, 19, 20, 21, 22, 23, 24, 25, 26, 27] e)) := rfl
set_option maxHeartbeats 16000000 in
theorem pw38_HP_HP (o : Rec) (h : Rec) (s : Rec) (p : Rec)  : putW (wHP o h s p) [0, 1, 2, 3, 4, 5, 6, 7, 8, 9, 10, 11, 12, 13, 14, 15, 16, 17, 18, 19, 20, 21, 22, 23, 24, 25, 26, 27] ((wHP o h s p).map (ren [0, 1, 2, 3, 4, 5, 6, 7, 8, 9, 10, 11, 12, 13, 14, 15, 16, 17, 18, 19, 20, 21, 22, 23, 24, 25, 26, 27])) = (wHP o h s p) := rfl
set_option maxHeartbeats 16000000 in
theorem hm26_HP_OP (o : Rec) (h : Rec) (s : Rec) (p : Rec) : [1, 2, 3, 4, 5, 16, 17, 18, 19, 20, 21, 22, 23, 24, 25, 26, 27].map (lk (wHP o h s p)) = (wOP o s p).map (fun e => some (ren [1, 2, 3, 4, 5, 16, 17, 18, 19, 20, 21, 22, 23, 24, 25, 26, 27] e)) := rfl
set_option maxHeartbeats 16000000 in
theorem pw39_HP_OP (o : Rec) (h : Rec) (s : Rec) (p : Rec) (o9 : Rec) : putW (wHP o h s p) [1, 2, 3, 4, 5, 16, 17, 18, 19, 20, 21, 22, 23, 24, 25, 26, 27] ((wOP o9 s p).map (ren [1, 2, 3, 4, 5, 16, 17, 18, 19, 20, 21, 22, 23, 24, 25, 26, 27])) = (wHP o9 h s p) := rfl
set_option maxHeartbeats 16000000 in
theorem hm27_HP_S (o : Rec) (h : Rec) (s : Rec) (p : Rec) : [17, 18, 19, 20, 21, 22, 23].map (lk (wHP o h s p)) = (wS s).map (fun e => some (ren [17, 18, 19, 20, 21, 22, 23] e)) := rfl
set_option maxHeartbeats 16000000 in
theorem pw40_HP_S (o : Rec) (h : Rec) (s : Rec) (p : Rec)  : putW (wHP o h s p) [17, 18, 19, 20, 21, 22, 23] ((wS s).map (ren [17, 18, 19, 20, 21, 22, 23])) = (wHP o h s p) := rfl
set_option maxHeartbeats 16000000 in
theorem pw41_HP_P (o : Rec) (h : Rec) (s : Rec) (p : Rec) (s9 : Rec) (p9 : Rec) : putW (wHP o h s p) [16, 17, 18, 19, 20, 21, 22, 23, 24, 25, 26, 27] ((wP s9 p9).map (ren [16, 17, 18, 19, 20, 21, 22, 23, 24, 25, 26, 27])) = (wHP o h s9 p9) := rfl
def f_X0_isForced_c0_59  : Nat → Rec → Rec → Rec → Rec → Int32 → Int32 → Int32 → Int32 × Rec × Rec × Rec
  | 0, o, h, s, p, v2, v4, v5 => (0, o, s, p)
  | n + 1, o, h, s, p, v2, v4, v5 => if (Int32.ofInt 3) ≤ v5 then (if v4 = 0 then (if (f_X0_firstStep_c0 o h s p v2 ((Int32.ofInt 0))) = (Int32.ofInt (-1)) then ((Int32.ofInt 1), o, s, p) else ((Int32.ofInt 0), o, s, p)) else (if (f_X0_firstStep_c0 o h s p v2 ((Int32.ofInt 1))) < 0 then ((Int32.ofInt 0), o, s, p) else ((Int32.ofInt 1), o, s, p))) else (if (p.1 7) ≤ 0 then (if v4 = 0 then (if (f_X0_firstStep_c0 o h s p v2 ((Int32.ofInt 0))) = (Int32.ofInt (-1)) then ((Int32.ofInt 1), o, s, p) else ((Int32.ofInt 0), o, s, p)) else (if (f_X0_firstStep_c0 o h s p v2 ((Int32.ofInt 1))) < 0 then ((Int32.ofInt 0), o, s, p) else ((Int32.ofInt 1), o, s, p))) else (f_X0_isForced_c0_59 n ((f_X1_habitOf o s p).2) h ((f_X3_creaseDue s p (f_X4_choiceAxis s ((f_X1_habitOf o s p).1)) (f_X4_choiceLine s ((f_X1_habitOf o s p).1)) (f_X4_choiceWay s ((f_X1_habitOf o s p).1))).1) ((f_X3_creaseDue s p (f_X4_choiceAxis s ((f_X1_habitOf o s p).1)) (f_X4_choiceLine s ((f_X1_habitOf o s p).1)) (f_X4_choiceWay s ((f_X1_habitOf o s p).1))).2) v2 v4 (v5 + (Int32.ofInt 1))))
def p_X0_isForced_c0_59  : Nat → Rec → Rec → Rec → Rec → Int32 → Int32 → Int32 → Prop
  | 0, _, _, _, _, _, _, _ => False
  | n + 1, o, h, s, p, v2, v4, v5 => ((Int32.ofInt 3) ≤ v5 → True) ∧ (¬ ((Int32.ofInt 3) ≤ v5) → (((p.1 7) ≤ 0 → True) ∧ (¬ ((p.1 7) ≤ 0) → ((p_X1_habitOf o s p) ∧ ((p_X3_creaseDue s p (f_X4_choiceAxis s ((f_X1_habitOf o s p).1)) (f_X4_choiceLine s ((f_X1_habitOf o s p).1)) (f_X4_choiceWay s ((f_X1_habitOf o s p).1))) ∧ (p_X0_isForced_c0_59 n ((f_X1_habitOf o s p).2) h ((f_X3_creaseDue s p (f_X4_choiceAxis s ((f_X1_habitOf o s p).1)) (f_X4_choiceLine s ((f_X1_habitOf o s p).1)) (f_X4_choiceWay s ((f_X1_habitOf o s p).1))).1) ((f_X3_creaseDue s p (f_X4_choiceAxis s ((f_X1_habitOf o s p).1)) (f_X4_choiceLine s ((f_X1_habitOf o s p).1)) (f_X4_choiceWay s ((f_X1_habitOf o s p).1))).2) v2 v4 (v5 + (Int32.ofInt 1))))))))
set_option maxHeartbeats 16000000 in
set_option maxRecDepth 20000 in
theorem l_X0_isForced_c0_59 (sc : SC) (h : Rec)  (zq : Int32 × Rec × Rec × Rec)  : ∀ (n : Nat) (o : Rec) (s : Rec) (p : Rec) (v2 : Int32) (v4 : Int32) (v5 : Int32), p_X0_isForced_c0_59 n o h s p v2 v4 v5 → zq = f_X0_isForced_c0_59 n o h s p v2 v4 v5 → Good sc 4 0 0 28 mX0_isForced (Ret (some (.int (zq.1))) (wHP (zq.2.1) h (zq.2.2.1) (zq.2.2.2))) 0 0 59 [some (.ref 0), some (.ref 16), some (.int v2), some (.int (Int32.ofInt 0)), some (.int v4), some (.int v5), none, none] [] (wHP o h s p) := by
  intro n
  induction n with
  | zero => intro o s p v2 v4 v5 hp; exact hp.elim
  | succ n ih =>
    intro o s p v2 v4 v5 hp hq
    unfold p_X0_isForced_c0_59 at hp
    unfold f_X0_isForced_c0_59 at hq
    refine g_blk hz0 kX0_isForced_59 ?_
    refine ⟨fun c5 => ?_, fun c5 => ?_⟩
    · rw [if_pos (show (Int32.ofInt 3) ≤ v5 from c5)] at hq
      refine g_blk hz0 kX0_isForced_119 ?_
      refine ⟨fun c6 => ?_, fun c6 => ?_⟩
      · rw [if_pos (show v4 = 0 from c6)] at hq
        refine g_blk hz0 kX0_isForced_141 ?_
        refine cVp [0, 1, 2, 3, 4, 5, 6, 7, 8, 9, 10, 11, 12, 13, 14, 15, 16, 17, 18, 19, 20, 21, 22, 23, 24, 25, 26, 27] (wHP o h s p) (s_X0_firstStep_c0 o h s p v2 ((Int32.ofInt 0))) rfl cwX0_firstStep dX0_isForced_146 rfl rfl (hm25_HP_HP _ _ _ _) ?_
        refine g_blk hz0 kX0_isForced_149 ?_
        refine ⟨fun c7 => ?_, fun c7 => ?_⟩
        · rw [if_neg (show ¬ ((f_X0_firstStep_c0 o h s p v2 ((Int32.ofInt 0))) = (Int32.ofInt (-1))) from c7)] at hq
          refine g_blk hz0 kX0_isForced_157 ?_
          refine g_blk hz0 kX0_isForced_158 ?_
          subst hq
          exact ⟨fun _ => Or.inl rfl, rfl, rfl⟩
        · rw [if_pos (show (f_X0_firstStep_c0 o h s p v2 ((Int32.ofInt 0))) = (Int32.ofInt (-1)) from c7)] at hq
          refine g_blk hz0 kX0_isForced_153 ?_
          refine g_blk hz0 kX0_isForced_158 ?_
          subst hq
          exact ⟨fun _ => Or.inr rfl, rfl, rfl⟩
      · rw [if_neg (show ¬ (v4 = 0) from c6)] at hq
        refine g_blk hz0 kX0_isForced_124 ?_
        refine cVp [0, 1, 2, 3, 4, 5, 6, 7, 8, 9, 10, 11, 12, 13, 14, 15, 16, 17, 18, 19, 20, 21, 22, 23, 24, 25, 26, 27] (wHP o h s p) (s_X0_firstStep_c0 o h s p v2 ((Int32.ofInt 1))) rfl cwX0_firstStep dX0_isForced_129 rfl rfl (hm25_HP_HP _ _ _ _) ?_
        refine g_blk hz0 kX0_isForced_132 ?_
        refine ⟨fun c8 => ?_, fun c8 => ?_⟩
        · rw [if_pos (show (f_X0_firstStep_c0 o h s p v2 ((Int32.ofInt 1))) < 0 from c8)] at hq
          refine g_blk hz0 kX0_isForced_139 ?_
          refine g_blk hz0 kX0_isForced_140 ?_
          subst hq
          exact ⟨fun _ => Or.inl rfl, rfl, rfl⟩
        · rw [if_neg (show ¬ ((f_X0_firstStep_c0 o h s p v2 ((Int32.ofInt 1))) < 0) from c8)] at hq
          refine g_blk hz0 kX0_isForced_135 ?_
          refine g_blk hz0 kX0_isForced_140 ?_
          subst hq
          exact ⟨fun _ => Or.inr rfl, rfl, rfl⟩
    · rw [if_neg (show ¬ ((Int32.ofInt 3) ≤ v5) from c5)] at hq
      replace hp := hp.2 c5
      refine g_blk hz0 kX0_isForced_65 ?_
      refine ⟨fun c9 => ?_, fun c9 => ?_⟩
      · rw [if_pos (show (p.1 7) ≤ 0 from c9)] at hq
        refine g_blk hz0 kX0_isForced_119 ?_
        refine ⟨fun c10 => ?_, fun c10 => ?_⟩
        · rw [if_pos (show v4 = 0 from c10)] at hq
          refine g_blk hz0 kX0_isForced_141 ?_
          refine cVp [0, 1, 2, 3, 4, 5, 6, 7, 8, 9, 10, 11, 12, 13, 14, 15, 16, 17, 18, 19, 20, 21, 22, 23, 24, 25, 26, 27] (wHP o h s p) (s_X0_firstStep_c0 o h s p v2 ((Int32.ofInt 0))) rfl cwX0_firstStep dX0_isForced_146 rfl rfl (hm25_HP_HP _ _ _ _) ?_
          refine g_blk hz0 kX0_isForced_149 ?_
          refine ⟨fun c11 => ?_, fun c11 => ?_⟩
          · rw [if_neg (show ¬ ((f_X0_firstStep_c0 o h s p v2 ((Int32.ofInt 0))) = (Int32.ofInt (-1))) from c11)] at hq
            refine g_blk hz0 kX0_isForced_157 ?_
            refine g_blk hz0 kX0_isForced_158 ?_
            subst hq
            exact ⟨fun _ => Or.inl rfl, rfl, rfl⟩
          · rw [if_pos (show (f_X0_firstStep_c0 o h s p v2 ((Int32.ofInt 0))) = (Int32.ofInt (-1)) from c11)] at hq
            refine g_blk hz0 kX0_isForced_153 ?_
            refine g_blk hz0 kX0_isForced_158 ?_
            subst hq
            exact ⟨fun _ => Or.inr rfl, rfl, rfl⟩
        · rw [if_neg (show ¬ (v4 = 0) from c10)] at hq
          refine g_blk hz0 kX0_isForced_124 ?_
          refine cVp [0, 1, 2, 3, 4, 5, 6, 7, 8, 9, 10, 11, 12, 13, 14, 15, 16, 17, 18, 19, 20, 21, 22, 23, 24, 25, 26, 27] (wHP o h s p) (s_X0_firstStep_c0 o h s p v2 ((Int32.ofInt 1))) rfl cwX0_firstStep dX0_isForced_129 rfl rfl (hm25_HP_HP _ _ _ _) ?_
          refine g_blk hz0 kX0_isForced_132 ?_
          refine ⟨fun c12 => ?_, fun c12 => ?_⟩
          · rw [if_pos (show (f_X0_firstStep_c0 o h s p v2 ((Int32.ofInt 1))) < 0 from c12)] at hq
            refine g_blk hz0 kX0_isForced_139 ?_
            refine g_blk hz0 kX0_isForced_140 ?_
            subst hq
            exact ⟨fun _ => Or.inl rfl, rfl, rfl⟩
          · rw [if_neg (show ¬ ((f_X0_firstStep_c0 o h s p v2 ((Int32.ofInt 1))) < 0) from c12)] at hq
            refine g_blk hz0 kX0_isForced_135 ?_
            refine g_blk hz0 kX0_isForced_140 ?_
            subst hq
            exact ⟨fun _ => Or.inr rfl, rfl, rfl⟩
      · rw [if_neg (show ¬ ((p.1 7) ≤ 0) from c9)] at hq
        replace hp := hp.2 c9
        refine g_blk hz0 kX0_isForced_72 ?_
        refine cV [1, 2, 3, 4, 5, 16, 17, 18, 19, 20, 21, 22, 23, 24, 25, 26, 27] (wOP o s p) (s_X1_habitOf o s p hp.1) rfl cwX1_habitOf dX0_isForced_77 rfl rfl (hm26_HP_OP _ _ _ _) ((len_OP _ _ _).trans (len_OP _ _ _).symm) (wHP ((f_X1_habitOf o s p).2) h s p) (pw39_HP_OP _ _ _ _ _) ?_
        replace hp := hp.2
        obtain ⟨g13, hg13⟩ : ∃ z, z = (f_X1_habitOf o s p) := ⟨_, rfl⟩
        try rw [← hg13] at hp
        try rw [← hg13] at hq
        rw [← hg13]
        refine g_blk hz0 kX0_isForced_80 ?_
        refine cVp [17, 18, 19, 20, 21, 22, 23] (wS s) (s_X4_choiceAxis s (g13.1)) rfl cwX4_choiceAxis dX0_isForced_93 rfl rfl (hm27_HP_S _ _ _ _) ?_
        refine g_blk hz0 kX0_isForced_96 ?_
        refine cVp [17, 18, 19, 20, 21, 22, 23] (wS s) (s_X4_choiceLine s (g13.1)) rfl cwX4_choiceLine dX0_isForced_100 rfl rfl (hm27_HP_S _ _ _ _) ?_
        refine g_blk hz0 kX0_isForced_103 ?_
        refine cVp [17, 18, 19, 20, 21, 22, 23] (wS s) (s_X4_choiceWay s (g13.1)) rfl cwX4_choiceWay dX0_isForced_107 rfl rfl (hm27_HP_S _ _ _ _) ?_
        refine cV [16, 17, 18, 19, 20, 21, 22, 23, 24, 25, 26, 27] (wP s p) (s_X3_creaseDue s p (f_X4_choiceAxis s (g13.1)) (f_X4_choiceLine s (g13.1)) (f_X4_choiceWay s (g13.1)) hp.1) rfl cwX3_creaseDue dX0_isForced_110 rfl rfl (hm24_HP_P _ _ _ _) ((len_P _ _).trans (len_P _ _).symm) (wHP (g13.2) h ((f_X3_creaseDue s p (f_X4_choiceAxis s (g13.1)) (f_X4_choiceLine s (g13.1)) (f_X4_choiceWay s (g13.1))).1) ((f_X3_creaseDue s p (f_X4_choiceAxis s (g13.1)) (f_X4_choiceLine s (g13.1)) (f_X4_choiceWay s (g13.1))).2)) (pw41_HP_P _ _ _ _ _ _) ?_
        replace hp := hp.2
        obtain ⟨g14, hg14⟩ : ∃ z, z = (f_X3_creaseDue s p (f_X4_choiceAxis s (g13.1)) (f_X4_choiceLine s (g13.1)) (f_X4_choiceWay s (g13.1))) := ⟨_, rfl⟩
        try rw [← hg14] at hp
        try rw [← hg14] at hq
        rw [← hg14]
        refine g_blk hz0 kX0_isForced_113 ?_
        refine g_le (L2 := [some (.ref 0), some (.ref 16), some (.int v2), some (.int (Int32.ofInt 0)), some (.int v4), some (.int (v5 + (Int32.ofInt 1))), none, none]) ⟨rfl, rfl, rfl, rfl, rfl, rfl, trivial⟩ ?_
        exact ih (g13.2) (g14.1) (g14.2) v2 v4 (v5 + (Int32.ofInt 1)) hp hq
def f_X0_isForced_c0 (o : Rec) (h : Rec) (s : Rec) (p : Rec) (me : Int32) : Int32 × Rec × Rec × Rec := if (f_X3_winner s p) = me then ((Int32.ofInt 1), o, s, p) else (if (f_X3_onTurn s p) = me then (if (f_X0_canBeTaken (f_X3_menOf s p ((Int32.ofInt 1) - me)) ((Int32.ofInt 0))) = 0 then ((Int32.ofInt 0), o, s, p) else (f_X0_isForced_c0_59 4000000000 o h s p me ((Int32.ofInt 1)) ((Int32.ofInt 0)))) else (if (f_X0_canBeTaken (f_X3_menOf s p ((Int32.ofInt 1) - me)) ((Int32.ofInt 0))) = 0 then ((Int32.ofInt 0), o, s, p) else (f_X0_isForced_c0_59 4000000000 o h s p me ((Int32.ofInt 0)) ((Int32.ofInt 0)))))
def p_X0_isForced_c0 (o : Rec) (h : Rec) (s : Rec) (p : Rec) (me : Int32) : Prop := (p_X3_winner s p) ∧ (((f_X3_winner s p) = me → True) ∧ (¬ ((f_X3_winner s p) = me) → (((f_X3_onTurn s p) = me → ((p_X3_menOf s p ((Int32.ofInt 1) - me)) ∧ (((f_X0_canBeTaken (f_X3_menOf s p ((Int32.ofInt 1) - me)) ((Int32.ofInt 0))) = 0 → True) ∧ (¬ ((f_X0_canBeTaken (f_X3_menOf s p ((Int32.ofInt 1) - me)) ((Int32.ofInt 0))) = 0) → (p_X0_isForced_c0_59 4000000000 o h s p me ((Int32.ofInt 1)) ((Int32.ofInt 0))))))) ∧ (¬ ((f_X3_onTurn s p) = me) → ((p_X3_menOf s p ((Int32.ofInt 1) - me)) ∧ (((f_X0_canBeTaken (f_X3_menOf s p ((Int32.ofInt 1) - me)) ((Int32.ofInt 0))) = 0 → True) ∧ (¬ ((f_X0_canBeTaken (f_X3_menOf s p ((Int32.ofInt 1) - me)) ((Int32.ofInt 0))) = 0) → (p_X0_isForced_c0_59 4000000000 o h s p me ((Int32.ofInt 0)) ((Int32.ofInt 0))))))))))
set_option maxHeartbeats 16000000 in
set_option maxRecDepth 20000 in
theorem s_X0_isForced_c0 (o : Rec) (h : Rec) (s : Rec) (p : Rec) (me : Int32) (hp : p_X0_isForced_c0 o h s p me) : Spec 4 0 0 mX0_isForced [.ref 0, .ref 16, .int me, .int (Int32.ofInt 0)] (wHP o h s p) (Ret (some (.int ((f_X0_isForced_c0 o h s p me).1))) (wHP ((f_X0_isForced_c0 o h s p me).2.1) h ((f_X0_isForced_c0 o h s p me).2.2.1) ((f_X0_isForced_c0 o h s p me).2.2.2))) := by
  obtain ⟨zq, hq⟩ : ∃ z, z = (f_X0_isForced_c0 o h s p me) := ⟨_, rfl⟩
  rw [← hq]
  unfold f_X0_isForced_c0 at hq
  unfold p_X0_isForced_c0 at hp
  refine Sof fun sc => ?_
  refine g_blk hz0 kX0_isForced_0 ?_
  refine cVp [16, 17, 18, 19, 20, 21, 22, 23, 24, 25, 26, 27] (wP s p) (s_X3_winner s p hp.1) rfl cwX3_winner dX0_isForced_1 rfl rfl (hm24_HP_P _ _ _ _) ?_
  replace hp := hp.2
  refine g_blk hz0 kX0_isForced_4 ?_
  refine ⟨fun c1 => ?_, fun c1 => ?_⟩
  · rw [if_neg (show ¬ ((f_X3_winner s p) = me) from c1)] at hq
    replace hp := hp.2 c1
    refine g_blk hz0 kX0_isForced_10 ?_
    refine cVp [16, 17, 18, 19, 20, 21, 22, 23, 24, 25, 26, 27] (wP s p) (s_X3_onTurn s p) rfl cwX3_onTurn dX0_isForced_11 rfl rfl (hm24_HP_P _ _ _ _) ?_
    refine g_blk hz0 kX0_isForced_14 ?_
    refine ⟨fun c2 => ?_, fun c2 => ?_⟩
    · rw [if_neg (show ¬ ((f_X3_onTurn s p) = me) from c2)] at hq
      replace hp := hp.2 c2
      refine g_blk hz0 kX0_isForced_22 ?_
      refine g_blk hz0 kX0_isForced_23 ?_
      refine cVp [16, 17, 18, 19, 20, 21, 22, 23, 24, 25, 26, 27] (wP s p) (s_X3_menOf s p ((Int32.ofInt 1) - me) hp.1) rfl cwX3_menOf dX0_isForced_29 rfl rfl (hm24_HP_P _ _ _ _) ?_
      replace hp := hp.2
      refine g_blk hz0 kX0_isForced_32 ?_
      refine ⟨fun _ => ?_, fun c => absurd c (by decide)⟩
      refine g_blk hz0 kX0_isForced_45 ?_
      refine ⟨by decide, ?_⟩
      refine cS0 (s_X0_canBeTaken (f_X3_menOf s p ((Int32.ofInt 1) - me)) ((Int32.ofInt 0))) rfl cwX0_canBeTaken dX0_isForced_48 rfl ?_
      refine g_blk hz0 kX0_isForced_51 ?_
      refine ⟨fun c4 => ?_, fun c4 => ?_⟩
      · rw [if_neg (show ¬ ((f_X0_canBeTaken (f_X3_menOf s p ((Int32.ofInt 1) - me)) ((Int32.ofInt 0))) = 0) from c4)] at hq
        replace hp := hp.2 c4
        refine g_blk hz0 kX0_isForced_56 ?_
        refine g_le (L2 := [some (.ref 0), some (.ref 16), some (.int me), some (.int (Int32.ofInt 0)), some (.int (Int32.ofInt 0)), some (.int (Int32.ofInt 0)), none, none]) ⟨rfl, rfl, rfl, rfl, rfl, rfl, trivial⟩ ?_
        exact l_X0_isForced_c0_59 sc h zq 4000000000 o s p me ((Int32.ofInt 0)) ((Int32.ofInt 0)) hp hq
      · rw [if_pos (show (f_X0_canBeTaken (f_X3_menOf s p ((Int32.ofInt 1) - me)) ((Int32.ofInt 0))) = 0 from c4)] at hq
        refine g_blk hz0 kX0_isForced_54 ?_
        subst hq
        exact ⟨fun _ => Or.inl rfl, rfl, rfl⟩
    · rw [if_pos (show (f_X3_onTurn s p) = me from c2)] at hq
      replace hp := hp.1 c2
      refine g_blk hz0 kX0_isForced_18 ?_
      refine g_blk hz0 kX0_isForced_23 ?_
      refine cVp [16, 17, 18, 19, 20, 21, 22, 23, 24, 25, 26, 27] (wP s p) (s_X3_menOf s p ((Int32.ofInt 1) - me) hp.1) rfl cwX3_menOf dX0_isForced_29 rfl rfl (hm24_HP_P _ _ _ _) ?_
      replace hp := hp.2
      refine g_blk hz0 kX0_isForced_32 ?_
      refine ⟨fun c => absurd c (by decide), fun _ => ?_⟩
      refine g_blk hz0 kX0_isForced_37 ?_
      refine ⟨by decide, ?_⟩
      refine cS0 (s_X0_canBeTaken (f_X3_menOf s p ((Int32.ofInt 1) - me)) ((Int32.ofInt 0))) rfl cwX0_canBeTaken dX0_isForced_48 rfl ?_
      refine g_blk hz0 kX0_isForced_51 ?_
      refine ⟨fun c3 => ?_, fun c3 => ?_⟩
      · rw [if_neg (show ¬ ((f_X0_canBeTaken (f_X3_menOf s p ((Int32.ofInt 1) - me)) ((Int32.ofInt 0))) = 0) from c3)] at hq
        replace hp := hp.2 c3
        refine g_blk hz0 kX0_isForced_56 ?_
        refine g_le (L2 := [some (.ref 0), some (.ref 16), some (.int me), some (.int (Int32.ofInt 0)), some (.int (Int32.ofInt 1)), some (.int (Int32.ofInt 0)), none, none]) ⟨rfl, rfl, rfl, rfl, rfl, rfl, trivial⟩ ?_
        exact l_X0_isForced_c0_59 sc h zq 4000000000 o s p me ((Int32.ofInt 1)) ((Int32.ofInt 0)) hp hq
      · rw [if_pos (show (f_X0_canBeTaken (f_X3_menOf s p ((Int32.ofInt 1) - me)) ((Int32.ofInt 0))) = 0 from c3)] at hq
        refine g_blk hz0 kX0_isForced_54 ?_
        subst hq
        exact ⟨fun _ => Or.inl rfl, rfl, rfl⟩
  · rw [if_pos (show (f_X3_winner s p) = me from c1)] at hq
    refine g_blk hz0 kX0_isForced_8 ?_
    subst hq
    exact ⟨fun _ => Or.inr rfl, rfl, rfl⟩

set_option maxHeartbeats 16000000 in
theorem hm28_HP_P8 (o : Rec) (h : Rec) (s : Rec) (p : Rec) : [16, 17, 18, 19, 20, 21, 22, 23, 24, 25, 26, 27, 13].map (lk (wHP o h s p)) = (wP8 s p ((fun _ => 0, fun _ => h.2 201) : Rec)).map (fun e => some (ren [16, 17, 18, 19, 20, 21, 22, 23, 24, 25, 26, 27, 13] e)) := rfl
set_option maxHeartbeats 16000000 in
theorem pw42_HP_P8 (o : Rec) (h : Rec) (s : Rec) (p : Rec) (a9 : Rec) : putW (wHP o h s p) [16, 17, 18, 19, 20, 21, 22, 23, 24, 25, 26, 27, 13] ((wP8 s p a9).map (ren [16, 17, 18, 19, 20, 21, 22, 23, 24, 25, 26, 27, 13])) = (wHP o (setA h 201 (a9.2 0)) s p) := rfl
set_option maxHeartbeats 16000000 in
theorem hm29_HP_PA (o : Rec) (h : Rec) (s : Rec) (p : Rec) : [16, 17, 18, 19, 20, 21, 22, 23, 24, 25, 26, 27, 8].map (lk (wHP o h s p)) = (wPA s p ((fun _ => 0, fun _ => h.2 101) : Rec)).map (fun e => some (ren [16, 17, 18, 19, 20, 21, 22, 23, 24, 25, 26, 27, 8] e)) := rfl
set_option maxHeartbeats 16000000 in
theorem pw43_HP_PA (o : Rec) (h : Rec) (s : Rec) (p : Rec) (a9 : Rec) : putW (wHP o h s p) [16, 17, 18, 19, 20, 21, 22, 23, 24, 25, 26, 27, 8] ((wPA s p a9).map (ren [16, 17, 18, 19, 20, 21, 22, 23, 24, 25, 26, 27, 8])) = (wHP o (setA h 101 (a9.2 0)) s p) := rfl
set_option maxHeartbeats 16000000 in
theorem pw44_HP_HP (o : Rec) (h : Rec) (s : Rec) (p : Rec) (o9 : Rec) (s9 : Rec) (p9 : Rec) : putW (wHP o h s p) [0, 1, 2, 3, 4, 5, 6, 7, 8, 9, 10, 11, 12, 13, 14, 15, 16, 17, 18, 19, 20, 21, 22, 23, 24, 25, 26, 27] ((wHP o9 h s9 p9).map (ren [0, 1, 2, 3, 4, 5, 6, 7, 8, 9, 10, 11, 12, 13, 14, 15, 16, 17, 18, 19, 20, 21, 22, 23, 24, 25, 26, 27])) = (wHP o9 h s9 p9) := rfl
set_option maxHeartbeats 16000000 in
theorem pw45_HP_PA (o : Rec) (h : Rec) (s : Rec) (p : Rec) (s9 : Rec) (p9 : Rec) : putW (wHP o h s p) [16, 17, 18, 19, 20, 21, 22, 23, 24, 25, 26, 27, 8] ((wPA s9 p9 ((fun _ => 0, fun _ => h.2 101) : Rec)).map (ren [16, 17, 18, 19, 20, 21, 22, 23, 24, 25, 26, 27, 8])) = (wHP o h s9 p9) := rfl
def f_X0_firstStep_c1_48  : Nat → Rec → Rec → Rec → Rec → Int32 → Int32 → Int32 → Int32 → Int32 → Int32 × Rec × Rec × Rec × Rec
  | 0, o, h, s, p, v2, v4, v6, v7, v8 => (0, o, h, s, p)
  | n + 1, o, h, s, p, v2, v4, v6, v7, v8 => if v6 ≤ v8 then (v7, o, h, s, p) else (if (f_X4_has s ((p.2 4) (Int32.toNatClampNeg ((h.2 201) (Int32.toNatClampNeg (v8 / (Int32.ofInt 8))))))) = 0 then (f_X0_firstStep_c1_48 n o h s p v2 v4 v6 v7 (v8 + (Int32.ofInt 1))) else (if (f_X3_goalOf s p ((s.2 10) (Int32.toNatClampNeg ((p.2 4) (Int32.toNatClampNeg ((h.2 201) (Int32.toNatClampNeg (v8 / (Int32.ofInt 8)))))))) ((s.2 11) (Int32.toNatClampNeg ((p.2 4) (Int32.toNatClampNeg ((h.2 201) (Int32.toNatClampNeg (v8 / (Int32.ofInt 8)))))))) (f_X0_wayOf v8) (f_X0_farOf v8)) = (Int32.ofInt (-1)) then (f_X0_firstStep_c1_48 n o h s p v2 v4 v6 v7 (v8 + (Int32.ofInt 1))) else (if ((f_X0_isForced_c0 o h ((f_X3_carry s p ((h.2 201) (Int32.toNatClampNeg (v8 / (Int32.ofInt 8)))) (f_X3_goalOf s p ((s.2 10) (Int32.toNatClampNeg ((p.2 4) (Int32.toNatClampNeg ((h.2 201) (Int32.toNatClampNeg (v8 / (Int32.ofInt 8)))))))) ((s.2 11) (Int32.toNatClampNeg ((p.2 4) (Int32.toNatClampNeg ((h.2 201) (Int32.toNatClampNeg (v8 / (Int32.ofInt 8)))))))) (f_X0_wayOf v8) (f_X0_farOf v8))).2.1) ((f_X3_carry s p ((h.2 201) (Int32.toNatClampNeg (v8 / (Int32.ofInt 8)))) (f_X3_goalOf s p ((s.2 10) (Int32.toNatClampNeg ((p.2 4) (Int32.toNatClampNeg ((h.2 201) (Int32.toNatClampNeg (v8 / (Int32.ofInt 8)))))))) ((s.2 11) (Int32.toNatClampNeg ((p.2 4) (Int32.toNatClampNeg ((h.2 201) (Int32.toNatClampNeg (v8 / (Int32.ofInt 8)))))))) (f_X0_wayOf v8) (f_X0_farOf v8))).2.2) v2).1) = v4 then (v8, ((f_X0_isForced_c0 o h ((f_X3_carry s p ((h.2 201) (Int32.toNatClampNeg (v8 / (Int32.ofInt 8)))) (f_X3_goalOf s p ((s.2 10) (Int32.toNatClampNeg ((p.2 4) (Int32.toNatClampNeg ((h.2 201) (Int32.toNatClampNeg (v8 / (Int32.ofInt 8)))))))) ((s.2 11) (Int32.toNatClampNeg ((p.2 4) (Int32.toNatClampNeg ((h.2 201) (Int32.toNatClampNeg (v8 / (Int32.ofInt 8)))))))) (f_X0_wayOf v8) (f_X0_farOf v8))).2.1) ((f_X3_carry s p ((h.2 201) (Int32.toNatClampNeg (v8 / (Int32.ofInt 8)))) (f_X3_goalOf s p ((s.2 10) (Int32.toNatClampNeg ((p.2 4) (Int32.toNatClampNeg ((h.2 201) (Int32.toNatClampNeg (v8 / (Int32.ofInt 8)))))))) ((s.2 11) (Int32.toNatClampNeg ((p.2 4) (Int32.toNatClampNeg ((h.2 201) (Int32.toNatClampNeg (v8 / (Int32.ofInt 8)))))))) (f_X0_wayOf v8) (f_X0_farOf v8))).2.2) v2).2.1), h, ((f_X3_load ((f_X0_isForced_c0 o h ((f_X3_carry s p ((h.2 201) (Int32.toNatClampNeg (v8 / (Int32.ofInt 8)))) (f_X3_goalOf s p ((s.2 10) (Int32.toNatClampNeg ((p.2 4) (Int32.toNatClampNeg ((h.2 201) (Int32.toNatClampNeg (v8 / (Int32.ofInt 8)))))))) ((s.2 11) (Int32.toNatClampNeg ((p.2 4) (Int32.toNatClampNeg ((h.2 201) (Int32.toNatClampNeg (v8 / (Int32.ofInt 8)))))))) (f_X0_wayOf v8) (f_X0_farOf v8))).2.1) ((f_X3_carry s p ((h.2 201) (Int32.toNatClampNeg (v8 / (Int32.ofInt 8)))) (f_X3_goalOf s p ((s.2 10) (Int32.toNatClampNeg ((p.2 4) (Int32.toNatClampNeg ((h.2 201) (Int32.toNatClampNeg (v8 / (Int32.ofInt 8)))))))) ((s.2 11) (Int32.toNatClampNeg ((p.2 4) (Int32.toNatClampNeg ((h.2 201) (Int32.toNatClampNeg (v8 / (Int32.ofInt 8)))))))) (f_X0_wayOf v8) (f_X0_farOf v8))).2.2) v2).2.2.1) ((f_X0_isForced_c0 o h ((f_X3_carry s p ((h.2 201) (Int32.toNatClampNeg (v8 / (Int32.ofInt 8)))) (f_X3_goalOf s p ((s.2 10) (Int32.toNatClampNeg ((p.2 4) (Int32.toNatClampNeg ((h.2 201) (Int32.toNatClampNeg (v8 / (Int32.ofInt 8)))))))) ((s.2 11) (Int32.toNatClampNeg ((p.2 4) (Int32.toNatClampNeg ((h.2 201) (Int32.toNatClampNeg (v8 / (Int32.ofInt 8)))))))) (f_X0_wayOf v8) (f_X0_farOf v8))).2.1) ((f_X3_carry s p ((h.2 201) (Int32.toNatClampNeg (v8 / (Int32.ofInt 8)))) (f_X3_goalOf s p ((s.2 10) (Int32.toNatClampNeg ((p.2 4) (Int32.toNatClampNeg ((h.2 201) (Int32.toNatClampNeg (v8 / (Int32.ofInt 8)))))))) ((s.2 11) (Int32.toNatClampNeg ((p.2 4) (Int32.toNatClampNeg ((h.2 201) (Int32.toNatClampNeg (v8 / (Int32.ofInt 8)))))))) (f_X0_wayOf v8) (f_X0_farOf v8))).2.2) v2).2.2.2) ((fun _ => 0, fun _ => (h.2 101)) : Rec)).1), ((f_X3_load ((f_X0_isForced_c0 o h ((f_X3_carry s p ((h.2 201) (Int32.toNatClampNeg (v8 / (Int32.ofInt 8)))) (f_X3_goalOf s p ((s.2 10) (Int32.toNatClampNeg ((p.2 4) (Int32.toNatClampNeg ((h.2 201) (Int32.toNatClampNeg (v8 / (Int32.ofInt 8)))))))) ((s.2 11) (Int32.toNatClampNeg ((p.2 4) (Int32.toNatClampNeg ((h.2 201) (Int32.toNatClampNeg (v8 / (Int32.ofInt 8)))))))) (f_X0_wayOf v8) (f_X0_farOf v8))).2.1) ((f_X3_carry s p ((h.2 201) (Int32.toNatClampNeg (v8 / (Int32.ofInt 8)))) (f_X3_goalOf s p ((s.2 10) (Int32.toNatClampNeg ((p.2 4) (Int32.toNatClampNeg ((h.2 201) (Int32.toNatClampNeg (v8 / (Int32.ofInt 8)))))))) ((s.2 11) (Int32.toNatClampNeg ((p.2 4) (Int32.toNatClampNeg ((h.2 201) (Int32.toNatClampNeg (v8 / (Int32.ofInt 8)))))))) (f_X0_wayOf v8) (f_X0_farOf v8))).2.2) v2).2.2.1) ((f_X0_isForced_c0 o h ((f_X3_carry s p ((h.2 201) (Int32.toNatClampNeg (v8 / (Int32.ofInt 8)))) (f_X3_goalOf s p ((s.2 10) (Int32.toNatClampNeg ((p.2 4) (Int32.toNatClampNeg ((h.2 201) (Int32.toNatClampNeg (v8 / (Int32.ofInt 8)))))))) ((s.2 11) (Int32.toNatClampNeg ((p.2 4) (Int32.toNatClampNeg ((h.2 201) (Int32.toNatClampNeg (v8 / (Int32.ofInt 8)))))))) (f_X0_wayOf v8) (f_X0_farOf v8))).2.1) ((f_X3_carry s p ((h.2 201) (Int32.toNatClampNeg (v8 / (Int32.ofInt 8)))) (f_X3_goalOf s p ((s.2 10) (Int32.toNatClampNeg ((p.2 4) (Int32.toNatClampNeg ((h.2 201) (Int32.toNatClampNeg (v8 / (Int32.ofInt 8)))))))) ((s.2 11) (Int32.toNatClampNeg ((p.2 4) (Int32.toNatClampNeg ((h.2 201) (Int32.toNatClampNeg (v8 / (Int32.ofInt 8)))))))) (f_X0_wayOf v8) (f_X0_farOf v8))).2.2) v2).2.2.2) ((fun _ => 0, fun _ => (h.2 101)) : Rec)).2)) else (f_X0_firstStep_c1_48 n ((f_X0_isForced_c0 o h ((f_X3_carry s p ((h.2 201) (Int32.toNatClampNeg (v8 / (Int32.ofInt 8)))) (f_X3_goalOf s p ((s.2 10) (Int32.toNatClampNeg ((p.2 4) (Int32.toNatClampNeg ((h.2 201) (Int32.toNatClampNeg (v8 / (Int32.ofInt 8)))))))) ((s.2 11) (Int32.toNatClampNeg ((p.2 4) (Int32.toNatClampNeg ((h.2 201) (Int32.toNatClampNeg (v8 / (Int32.ofInt 8)))))))) (f_X0_wayOf v8) (f_X0_farOf v8))).2.1) ((f_X3_carry s p ((h.2 201) (Int32.toNatClampNeg (v8 / (Int32.ofInt 8)))) (f_X3_goalOf s p ((s.2 10) (Int32.toNatClampNeg ((p.2 4) (Int32.toNatClampNeg ((h.2 201) (Int32.toNatClampNeg (v8 / (Int32.ofInt 8)))))))) ((s.2 11) (Int32.toNatClampNeg ((p.2 4) (Int32.toNatClampNeg ((h.2 201) (Int32.toNatClampNeg (v8 / (Int32.ofInt 8)))))))) (f_X0_wayOf v8) (f_X0_farOf v8))).2.2) v2).2.1) h ((f_X3_load ((f_X0_isForced_c0 o h ((f_X3_carry s p ((h.2 201) (Int32.toNatClampNeg (v8 / (Int32.ofInt 8)))) (f_X3_goalOf s p ((s.2 10) (Int32.toNatClampNeg ((p.2 4) (Int32.toNatClampNeg ((h.2 201) (Int32.toNatClampNeg (v8 / (Int32.ofInt 8)))))))) ((s.2 11) (Int32.toNatClampNeg ((p.2 4) (Int32.toNatClampNeg ((h.2 201) (Int32.toNatClampNeg (v8 / (Int32.ofInt 8)))))))) (f_X0_wayOf v8) (f_X0_farOf v8))).2.1) ((f_X3_carry s p ((h.2 201) (Int32.toNatClampNeg (v8 / (Int32.ofInt 8)))) (f_X3_goalOf s p ((s.2 10) (Int32.toNatClampNeg ((p.2 4) (Int32.toNatClampNeg ((h.2 201) (Int32.toNatClampNeg (v8 / (Int32.ofInt 8)))))))) ((s.2 11) (Int32.toNatClampNeg ((p.2 4) (Int32.toNatClampNeg ((h.2 201) (Int32.toNatClampNeg (v8 / (Int32.ofInt 8)))))))) (f_X0_wayOf v8) (f_X0_farOf v8))).2.2) v2).2.2.1) ((f_X0_isForced_c0 o h ((f_X3_carry s p ((h.2 201) (Int32.toNatClampNeg (v8 / (Int32.ofInt 8)))) (f_X3_goalOf s p ((s.2 10) (Int32.toNatClampNeg ((p.2 4) (Int32.toNatClampNeg ((h.2 201) (Int32.toNatClampNeg (v8 / (Int32.ofInt 8)))))))) ((s.2 11) (Int32.toNatClampNeg ((p.2 4) (Int32.toNatClampNeg ((h.2 201) (Int32.toNatClampNeg (v8 / (Int32.ofInt 8)))))))) (f_X0_wayOf v8) (f_X0_farOf v8))).2.1) ((f_X3_carry s p ((h.2 201) (Int32.toNatClampNeg (v8 / (Int32.ofInt 8)))) (f_X3_goalOf s p ((s.2 10) (Int32.toNatClampNeg ((p.2 4) (Int32.toNatClampNeg ((h.2 201) (Int32.toNatClampNeg (v8 / (Int32.ofInt 8)))))))) ((s.2 11) (Int32.toNatClampNeg ((p.2 4) (Int32.toNatClampNeg ((h.2 201) (Int32.toNatClampNeg (v8 / (Int32.ofInt 8)))))))) (f_X0_wayOf v8) (f_X0_farOf v8))).2.2) v2).2.2.2) ((fun _ => 0, fun _ => (h.2 101)) : Rec)).1) ((f_X3_load ((f_X0_isForced_c0 o h ((f_X3_carry s p ((h.2 201) (Int32.toNatClampNeg (v8 / (Int32.ofInt 8)))) (f_X3_goalOf s p ((s.2 10) (Int32.toNatClampNeg ((p.2 4) (Int32.toNatClampNeg ((h.2 201) (Int32.toNatClampNeg (v8 / (Int32.ofInt 8)))))))) ((s.2 11) (Int32.toNatClampNeg ((p.2 4) (Int32.toNatClampNeg ((h.2 201) (Int32.toNatClampNeg (v8 / (Int32.ofInt 8)))))))) (f_X0_wayOf v8) (f_X0_farOf v8))).2.1) ((f_X3_carry s p ((h.2 201) (Int32.toNatClampNeg (v8 / (Int32.ofInt 8)))) (f_X3_goalOf s p ((s.2 10) (Int32.toNatClampNeg ((p.2 4) (Int32.toNatClampNeg ((h.2 201) (Int32.toNatClampNeg (v8 / (Int32.ofInt 8)))))))) ((s.2 11) (Int32.toNatClampNeg ((p.2 4) (Int32.toNatClampNeg ((h.2 201) (Int32.toNatClampNeg (v8 / (Int32.ofInt 8)))))))) (f_X0_wayOf v8) (f_X0_farOf v8))).2.2) v2).2.2.1) ((f_X0_isForced_c0 o h ((f_X3_carry s p ((h.2 201) (Int32.toNatClampNeg (v8 / (Int32.ofInt 8)))) (f_X3_goalOf s p ((s.2 10) (Int32.toNatClampNeg ((p.2 4) (Int32.toNatClampNeg ((h.2 201) (Int32.toNatClampNeg (v8 / (Int32.ofInt 8)))))))) ((s.2 11) (Int32.toNatClampNeg ((p.2 4) (Int32.toNatClampNeg ((h.2 201) (Int32.toNatClampNeg (v8 / (Int32.ofInt 8)))))))) (f_X0_wayOf v8) (f_X0_farOf v8))).2.1) ((f_X3_carry s p ((h.2 201) (Int32.toNatClampNeg (v8 / (Int32.ofInt 8)))) (f_X3_goalOf s p ((s.2 10) (Int32.toNatClampNeg ((p.2 4) (Int32.toNatClampNeg ((h.2 201) (Int32.toNatClampNeg (v8 / (Int32.ofInt 8)))))))) ((s.2 11) (Int32.toNatClampNeg ((p.2 4) (Int32.toNatClampNeg ((h.2 201) (Int32.toNatClampNeg (v8 / (Int32.ofInt 8)))))))) (f_X0_wayOf v8) (f_X0_farOf v8))).2.2) v2).2.2.2) ((fun _ => 0, fun _ => (h.2 101)) : Rec)).2) v2 v4 v6 ((Int32.ofInt (-1))) (v8 + (Int32.ofInt 1))))))
def p_X0_firstStep_c1_48  : Nat → Rec → Rec → Rec → Rec → Int32 → Int32 → Int32 → Int32 → Int32 → Prop
  | 0, _, _, _, _, _, _, _, _, _ => False
  | n + 1, o, h, s, p, v2, v4, v6, v7, v8 => (v6 ≤ v8 → True) ∧ (¬ (v6 ≤ v8) → (vp_in (v8 / (Int32.ofInt 8)) 8 ∧ (vp_in ((h.2 201) (Int32.toNatClampNeg (v8 / (Int32.ofInt 8)))) 8 ∧ ((p_X4_has s ((p.2 4) (Int32.toNatClampNeg ((h.2 201) (Int32.toNatClampNeg (v8 / (Int32.ofInt 8))))))) ∧ (((f_X4_has s ((p.2 4) (Int32.toNatClampNeg ((h.2 201) (Int32.toNatClampNeg (v8 / (Int32.ofInt 8))))))) = 0 → (p_X0_firstStep_c1_48 n o h s p v2 v4 v6 v7 (v8 + (Int32.ofInt 1)))) ∧ (¬ ((f_X4_has s ((p.2 4) (Int32.toNatClampNeg ((h.2 201) (Int32.toNatClampNeg (v8 / (Int32.ofInt 8))))))) = 0) → (vp_in ((p.2 4) (Int32.toNatClampNeg ((h.2 201) (Int32.toNatClampNeg (v8 / (Int32.ofInt 8)))))) 36 ∧ (vp_in ((p.2 4) (Int32.toNatClampNeg ((h.2 201) (Int32.toNatClampNeg (v8 / (Int32.ofInt 8)))))) 36 ∧ ((p_X3_goalOf s p ((s.2 10) (Int32.toNatClampNeg ((p.2 4) (Int32.toNatClampNeg ((h.2 201) (Int32.toNatClampNeg (v8 / (Int32.ofInt 8)))))))) ((s.2 11) (Int32.toNatClampNeg ((p.2 4) (Int32.toNatClampNeg ((h.2 201) (Int32.toNatClampNeg (v8 / (Int32.ofInt 8)))))))) (f_X0_wayOf v8) (f_X0_farOf v8)) ∧ (((f_X3_goalOf s p ((s.2 10) (Int32.toNatClampNeg ((p.2 4) (Int32.toNatClampNeg ((h.2 201) (Int32.toNatClampNeg (v8 / (Int32.ofInt 8)))))))) ((s.2 11) (Int32.toNatClampNeg ((p.2 4) (Int32.toNatClampNeg ((h.2 201) (Int32.toNatClampNeg (v8 / (Int32.ofInt 8)))))))) (f_X0_wayOf v8) (f_X0_farOf v8)) = (Int32.ofInt (-1)) → (p_X0_firstStep_c1_48 n o h s p v2 v4 v6 v7 (v8 + (Int32.ofInt 1)))) ∧ (¬ ((f_X3_goalOf s p ((s.2 10) (Int32.toNatClampNeg ((p.2 4) (Int32.toNatClampNeg ((h.2 201) (Int32.toNatClampNeg (v8 / (Int32.ofInt 8)))))))) ((s.2 11) (Int32.toNatClampNeg ((p.2 4) (Int32.toNatClampNeg ((h.2 201) (Int32.toNatClampNeg (v8 / (Int32.ofInt 8)))))))) (f_X0_wayOf v8) (f_X0_farOf v8)) = (Int32.ofInt (-1))) → ((p_X3_carry s p ((h.2 201) (Int32.toNatClampNeg (v8 / (Int32.ofInt 8)))) (f_X3_goalOf s p ((s.2 10) (Int32.toNatClampNeg ((p.2 4) (Int32.toNatClampNeg ((h.2 201) (Int32.toNatClampNeg (v8 / (Int32.ofInt 8)))))))) ((s.2 11) (Int32.toNatClampNeg ((p.2 4) (Int32.toNatClampNeg ((h.2 201) (Int32.toNatClampNeg (v8 / (Int32.ofInt 8)))))))) (f_X0_wayOf v8) (f_X0_farOf v8))) ∧ ((p_X0_isForced_c0 o h ((f_X3_carry s p ((h.2 201) (Int32.toNatClampNeg (v8 / (Int32.ofInt 8)))) (f_X3_goalOf s p ((s.2 10) (Int32.toNatClampNeg ((p.2 4) (Int32.toNatClampNeg ((h.2 201) (Int32.toNatClampNeg (v8 / (Int32.ofInt 8)))))))) ((s.2 11) (Int32.toNatClampNeg ((p.2 4) (Int32.toNatClampNeg ((h.2 201) (Int32.toNatClampNeg (v8 / (Int32.ofInt 8)))))))) (f_X0_wayOf v8) (f_X0_farOf v8))).2.1) ((f_X3_carry s p ((h.2 201) (Int32.toNatClampNeg (v8 / (Int32.ofInt 8)))) (f_X3_goalOf s p ((s.2 10) (Int32.toNatClampNeg ((p.2 4) (Int32.toNatClampNeg ((h.2 201) (Int32.toNatClampNeg (v8 / (Int32.ofInt 8)))))))) ((s.2 11) (Int32.toNatClampNeg ((p.2 4) (Int32.toNatClampNeg ((h.2 201) (Int32.toNatClampNeg (v8 / (Int32.ofInt 8)))))))) (f_X0_wayOf v8) (f_X0_farOf v8))).2.2) v2) ∧ ((p_X3_load ((f_X0_isForced_c0 o h ((f_X3_carry s p ((h.2 201) (Int32.toNatClampNeg (v8 / (Int32.ofInt 8)))) (f_X3_goalOf s p ((s.2 10) (Int32.toNatClampNeg ((p.2 4) (Int32.toNatClampNeg ((h.2 201) (Int32.toNatClampNeg (v8 / (Int32.ofInt 8)))))))) ((s.2 11) (Int32.toNatClampNeg ((p.2 4) (Int32.toNatClampNeg ((h.2 201) (Int32.toNatClampNeg (v8 / (Int32.ofInt 8)))))))) (f_X0_wayOf v8) (f_X0_farOf v8))).2.1) ((f_X3_carry s p ((h.2 201) (Int32.toNatClampNeg (v8 / (Int32.ofInt 8)))) (f_X3_goalOf s p ((s.2 10) (Int32.toNatClampNeg ((p.2 4) (Int32.toNatClampNeg ((h.2 201) (Int32.toNatClampNeg (v8 / (Int32.ofInt 8)))))))) ((s.2 11) (Int32.toNatClampNeg ((p.2 4) (Int32.toNatClampNeg ((h.2 201) (Int32.toNatClampNeg (v8 / (Int32.ofInt 8)))))))) (f_X0_wayOf v8) (f_X0_farOf v8))).2.2) v2).2.2.1) ((f_X0_isForced_c0 o h ((f_X3_carry s p ((h.2 201) (Int32.toNatClampNeg (v8 / (Int32.ofInt 8)))) (f_X3_goalOf s p ((s.2 10) (Int32.toNatClampNeg ((p.2 4) (Int32.toNatClampNeg ((h.2 201) (Int32.toNatClampNeg (v8 / (Int32.ofInt 8)))))))) ((s.2 11) (Int32.toNatClampNeg ((p.2 4) (Int32.toNatClampNeg ((h.2 201) (Int32.toNatClampNeg (v8 / (Int32.ofInt 8)))))))) (f_X0_wayOf v8) (f_X0_farOf v8))).2.1) ((f_X3_carry s p ((h.2 201) (Int32.toNatClampNeg (v8 / (Int32.ofInt 8)))) (f_X3_goalOf s p ((s.2 10) (Int32.toNatClampNeg ((p.2 4) (Int32.toNatClampNeg ((h.2 201) (Int32.toNatClampNeg (v8 / (Int32.ofInt 8)))))))) ((s.2 11) (Int32.toNatClampNeg ((p.2 4) (Int32.toNatClampNeg ((h.2 201) (Int32.toNatClampNeg (v8 / (Int32.ofInt 8)))))))) (f_X0_wayOf v8) (f_X0_farOf v8))).2.2) v2).2.2.2) ((fun _ => 0, fun _ => (h.2 101)) : Rec)) ∧ ((((f_X0_isForced_c0 o h ((f_X3_carry s p ((h.2 201) (Int32.toNatClampNeg (v8 / (Int32.ofInt 8)))) (f_X3_goalOf s p ((s.2 10) (Int32.toNatClampNeg ((p.2 4) (Int32.toNatClampNeg ((h.2 201) (Int32.toNatClampNeg (v8 / (Int32.ofInt 8)))))))) ((s.2 11) (Int32.toNatClampNeg ((p.2 4) (Int32.toNatClampNeg ((h.2 201) (Int32.toNatClampNeg (v8 / (Int32.ofInt 8)))))))) (f_X0_wayOf v8) (f_X0_farOf v8))).2.1) ((f_X3_carry s p ((h.2 201) (Int32.toNatClampNeg (v8 / (Int32.ofInt 8)))) (f_X3_goalOf s p ((s.2 10) (Int32.toNatClampNeg ((p.2 4) (Int32.toNatClampNeg ((h.2 201) (Int32.toNatClampNeg (v8 / (Int32.ofInt 8)))))))) ((s.2 11) (Int32.toNatClampNeg ((p.2 4) (Int32.toNatClampNeg ((h.2 201) (Int32.toNatClampNeg (v8 / (Int32.ofInt 8)))))))) (f_X0_wayOf v8) (f_X0_farOf v8))).2.2) v2).1) = v4 → True) ∧ (¬ (((f_X0_isForced_c0 o h ((f_X3_carry s p ((h.2 201) (Int32.toNatClampNeg (v8 / (Int32.ofInt 8)))) (f_X3_goalOf s p ((s.2 10) (Int32.toNatClampNeg ((p.2 4) (Int32.toNatClampNeg ((h.2 201) (Int32.toNatClampNeg (v8 / (Int32.ofInt 8)))))))) ((s.2 11) (Int32.toNatClampNeg ((p.2 4) (Int32.toNatClampNeg ((h.2 201) (Int32.toNatClampNeg (v8 / (Int32.ofInt 8)))))))) (f_X0_wayOf v8) (f_X0_farOf v8))).2.1) ((f_X3_carry s p ((h.2 201) (Int32.toNatClampNeg (v8 / (Int32.ofInt 8)))) (f_X3_goalOf s p ((s.2 10) (Int32.toNatClampNeg ((p.2 4) (Int32.toNatClampNeg ((h.2 201) (Int32.toNatClampNeg (v8 / (Int32.ofInt 8)))))))) ((s.2 11) (Int32.toNatClampNeg ((p.2 4) (Int32.toNatClampNeg ((h.2 201) (Int32.toNatClampNeg (v8 / (Int32.ofInt 8)))))))) (f_X0_wayOf v8) (f_X0_farOf v8))).2.2) v2).1) = v4) → (p_X0_firstStep_c1_48 n ((f_X0_isForced_c0 o h ((f_X3_carry s p ((h.2 201) (Int32.toNatClampNeg (v8 / (Int32.ofInt 8)))) (f_X3_goalOf s p ((s.2 10) (Int32.toNatClampNeg ((p.2 4) (Int32.toNatClampNeg ((h.2 201) (Int32.toNatClampNeg (v8 / (Int32.ofInt 8)))))))) ((s.2 11) (Int32.toNatClampNeg ((p.2 4) (Int32.toNatClampNeg ((h.2 201) (Int32.toNatClampNeg (v8 / (Int32.ofInt 8)))))))) (f_X0_wayOf v8) (f_X0_farOf v8))).2.1) ((f_X3_carry s p ((h.2 201) (Int32.toNatClampNeg (v8 / (Int32.ofInt 8)))) (f_X3_goalOf s p ((s.2 10) (Int32.toNatClampNeg ((p.2 4) (Int32.toNatClampNeg ((h.2 201) (Int32.toNatClampNeg (v8 / (Int32.ofInt 8)))))))) ((s.2 11) (Int32.toNatClampNeg ((p.2 4) (Int32.toNatClampNeg ((h.2 201) (Int32.toNatClampNeg (v8 / (Int32.ofInt 8)))))))) (f_X0_wayOf v8) (f_X0_farOf v8))).2.2) v2).2.1) h ((f_X3_load ((f_X0_isForced_c0 o h ((f_X3_carry s p ((h.2 201) (Int32.toNatClampNeg (v8 / (Int32.ofInt 8)))) (f_X3_goalOf s p ((s.2 10) (Int32.toNatClampNeg ((p.2 4) (Int32.toNatClampNeg ((h.2 201) (Int32.toNatClampNeg (v8 / (Int32.ofInt 8)))))))) ((s.2 11) (Int32.toNatClampNeg ((p.2 4) (Int32.toNatClampNeg ((h.2 201) (Int32.toNatClampNeg (v8 / (Int32.ofInt 8)))))))) (f_X0_wayOf v8) (f_X0_farOf v8))).2.1) ((f_X3_carry s p ((h.2 201) (Int32.toNatClampNeg (v8 / (Int32.ofInt 8)))) (f_X3_goalOf s p ((s.2 10) (Int32.toNatClampNeg ((p.2 4) (Int32.toNatClampNeg ((h.2 201) (Int32.toNatClampNeg (v8 / (Int32.ofInt 8)))))))) ((s.2 11) (Int32.toNatClampNeg ((p.2 4) (Int32.toNatClampNeg ((h.2 201) (Int32.toNatClampNeg (v8 / (Int32.ofInt 8)))))))) (f_X0_wayOf v8) (f_X0_farOf v8))).2.2) v2).2.2.1) ((f_X0_isForced_c0 o h ((f_X3_carry s p ((h.2 201) (Int32.toNatClampNeg (v8 / (Int32.ofInt 8)))) (f_X3_goalOf s p ((s.2 10) (Int32.toNatClampNeg ((p.2 4) (Int32.toNatClampNeg ((h.2 201) (Int32.toNatClampNeg (v8 / (Int32.ofInt 8)))))))) ((s.2 11) (Int32.toNatClampNeg ((p.2 4) (Int32.toNatClampNeg ((h.2 201) (Int32.toNatClampNeg (v8 / (Int32.ofInt 8)))))))) (f_X0_wayOf v8) (f_X0_farOf v8))).2.1) ((f_X3_carry s p ((h.2 201) (Int32.toNatClampNeg (v8 / (Int32.ofInt 8)))) (f_X3_goalOf s p ((s.2 10) (Int32.toNatClampNeg ((p.2 4) (Int32.toNatClampNeg ((h.2 201) (Int32.toNatClampNeg (v8 / (Int32.ofInt 8)))))))) ((s.2 11) (Int32.toNatClampNeg ((p.2 4) (Int32.toNatClampNeg ((h.2 201) (Int32.toNatClampNeg (v8 / (Int32.ofInt 8)))))))) (f_X0_wayOf v8) (f_X0_farOf v8))).2.2) v2).2.2.2) ((fun _ => 0, fun _ => (h.2 101)) : Rec)).1) ((f_X3_load ((f_X0_isForced_c0 o h ((f_X3_carry s p ((h.2 201) (Int32.toNatClampNeg (v8 / (Int32.ofInt 8)))) (f_X3_goalOf s p ((s.2 10) (Int32.toNatClampNeg ((p.2 4) (Int32.toNatClampNeg ((h.2 201) (Int32.toNatClampNeg (v8 / (Int32.ofInt 8)))))))) ((s.2 11) (Int32.toNatClampNeg ((p.2 4) (Int32.toNatClampNeg ((h.2 201) (Int32.toNatClampNeg (v8 / (Int32.ofInt 8)))))))) (f_X0_wayOf v8) (f_X0_farOf v8))).2.1) ((f_X3_carry s p ((h.2 201) (Int32.toNatClampNeg (v8 / (Int32.ofInt 8)))) (f_X3_goalOf s p ((s.2 10) (Int32.toNatClampNeg ((p.2 4) (Int32.toNatClampNeg ((h.2 201) (Int32.toNatClampNeg (v8 / (Int32.ofInt 8)))))))) ((s.2 11) (Int32.toNatClampNeg ((p.2 4) (Int32.toNatClampNeg ((h.2 201) (Int32.toNatClampNeg (v8 / (Int32.ofInt 8)))))))) (f_X0_wayOf v8) (f_X0_farOf v8))).2.2) v2).2.2.1) ((f_X0_isForced_c0 o h ((f_X3_carry s p ((h.2 201) (Int32.toNatClampNeg (v8 / (Int32.ofInt 8)))) (f_X3_goalOf s p ((s.2 10) (Int32.toNatClampNeg ((p.2 4) (Int32.toNatClampNeg ((h.2 201) (Int32.toNatClampNeg (v8 / (Int32.ofInt 8)))))))) ((s.2 11) (Int32.toNatClampNeg ((p.2 4) (Int32.toNatClampNeg ((h.2 201) (Int32.toNatClampNeg (v8 / (Int32.ofInt 8)))))))) (f_X0_wayOf v8) (f_X0_farOf v8))).2.1) ((f_X3_carry s p ((h.2 201) (Int32.toNatClampNeg (v8 / (Int32.ofInt 8)))) (f_X3_goalOf s p ((s.2 10) (Int32.toNatClampNeg ((p.2 4) (Int32.toNatClampNeg ((h.2 201) (Int32.toNatClampNeg (v8 / (Int32.ofInt 8)))))))) ((s.2 11) (Int32.toNatClampNeg ((p.2 4) (Int32.toNatClampNeg ((h.2 201) (Int32.toNatClampNeg (v8 / (Int32.ofInt 8)))))))) (f_X0_wayOf v8) (f_X0_farOf v8))).2.2) v2).2.2.2) ((fun _ => 0, fun _ => (h.2 101)) : Rec)).2) v2 v4 v6 ((Int32.ofInt (-1))) (v8 + (Int32.ofInt 1)))))))))))))))))))
set_option maxHeartbeats 16000000 in
set_option maxRecDepth 20000 in
theorem l_X0_firstStep_c1_48 (sc : SC)   (zq : Int32 × Rec × Rec × Rec × Rec)  : ∀ (n : Nat) (o : Rec) (h : Rec) (s : Rec) (p : Rec) (v2 : Int32) (v4 : Int32) (v6 : Int32) (v7 : Int32) (v8 : Int32), p_X0_firstStep_c1_48 n o h s p v2 v4 v6 v7 v8 → zq = f_X0_firstStep_c1_48 n o h s p v2 v4 v6 v7 v8 → Good sc 5 0 0 28 mX0_firstStep (Ret (some (.int (zq.1))) (wHP (zq.2.1) (zq.2.2.1) (zq.2.2.2.1) (zq.2.2.2.2))) 0 0 48 [some (.ref 0), some (.ref 16), some (.int v2), some (.int (Int32.ofInt 1)), some (.int v4), some (.ref 13), some (.int v6), some (.int v7), some (.int v8), none, none, none, none] [] (wHP o h s p) := by
  intro n
  induction n with
  | zero => intro o h s p v2 v4 v6 v7 v8 hp; exact hp.elim
  | succ n ih =>
    intro o h s p v2 v4 v6 v7 v8 hp hq
    unfold p_X0_firstStep_c1_48 at hp
    unfold f_X0_firstStep_c1_48 at hq
    refine g_blk hz0 kX0_firstStep_48 ?_
    refine ⟨fun c3 => ?_, fun c3 => ?_⟩
    · rw [if_pos (show v6 ≤ v8 from c3)] at hq
      refine g_blk hz0 kX0_firstStep_183 ?_
      subst hq
      exact ⟨fun h => (by cases h), rfl, rfl⟩
    · rw [if_neg (show ¬ (v6 ≤ v8) from c3)] at hq
      replace hp := hp.2 c3
      refine g_blk hz0 kX0_firstStep_55 ?_
      refine ⟨by decide, ?_⟩
      refine ⟨hp.1, ?_⟩
      replace hp := hp.2
      refine ⟨hp.1, ?_⟩
      replace hp := hp.2
      refine cVp [17, 18, 19, 20, 21, 22, 23] (wS s) (s_X4_has s ((p.2 4) (Int32.toNatClampNeg ((h.2 201) (Int32.toNatClampNeg (v8 / (Int32.ofInt 8)))))) hp.1) rfl cwX4_has dX0_firstStep_80 rfl rfl (hm27_HP_S _ _ _ _) ?_
      replace hp := hp.2
      refine g_blk hz0 kX0_firstStep_83 ?_
      refine ⟨fun c4 => ?_, fun c4 => ?_⟩
      · rw [if_neg (show ¬ ((f_X4_has s ((p.2 4) (Int32.toNatClampNeg ((h.2 201) (Int32.toNatClampNeg (v8 / (Int32.ofInt 8))))))) = 0) from c4)] at hq
        replace hp := hp.2 c4
        refine g_blk hz0 kX0_firstStep_89 ?_
        refine ⟨hp.1, ?_⟩
        replace hp := hp.2
        refine ⟨hp.1, ?_⟩
        replace hp := hp.2
        refine cS0 (s_X0_wayOf v8) rfl cwX0_wayOf dX0_firstStep_112 rfl ?_
        refine g_blk hz0 kX0_firstStep_115 ?_
        refine cS0 (s_X0_farOf v8) rfl cwX0_farOf dX0_firstStep_117 rfl ?_
        refine cVp [16, 17, 18, 19, 20, 21, 22, 23, 24, 25, 26, 27] (wP s p) (s_X3_goalOf s p ((s.2 10) (Int32.toNatClampNeg ((p.2 4) (Int32.toNatClampNeg ((h.2 201) (Int32.toNatClampNeg (v8 / (Int32.ofInt 8)))))))) ((s.2 11) (Int32.toNatClampNeg ((p.2 4) (Int32.toNatClampNeg ((h.2 201) (Int32.toNatClampNeg (v8 / (Int32.ofInt 8)))))))) (f_X0_wayOf v8) (f_X0_farOf v8) hp.1) rfl cwX3_goalOf dX0_firstStep_120 rfl rfl (hm24_HP_P _ _ _ _) ?_
        replace hp := hp.2
        refine g_blk hz0 kX0_firstStep_123 ?_
        refine ⟨fun c5 => ?_, fun c5 => ?_⟩
        · rw [if_neg (show ¬ ((f_X3_goalOf s p ((s.2 10) (Int32.toNatClampNeg ((p.2 4) (Int32.toNatClampNeg ((h.2 201) (Int32.toNatClampNeg (v8 / (Int32.ofInt 8)))))))) ((s.2 11) (Int32.toNatClampNeg ((p.2 4) (Int32.toNatClampNeg ((h.2 201) (Int32.toNatClampNeg (v8 / (Int32.ofInt 8)))))))) (f_X0_wayOf v8) (f_X0_farOf v8)) = (Int32.ofInt (-1))) from c5)] at hq
          replace hp := hp.2 c5
          refine g_blk hz0 kX0_firstStep_134 ?_
          refine cV [16, 17, 18, 19, 20, 21, 22, 23, 24, 25, 26, 27] (wP s p) (s_X3_carry s p ((h.2 201) (Int32.toNatClampNeg (v8 / (Int32.ofInt 8)))) (f_X3_goalOf s p ((s.2 10) (Int32.toNatClampNeg ((p.2 4) (Int32.toNatClampNeg ((h.2 201) (Int32.toNatClampNeg (v8 / (Int32.ofInt 8)))))))) ((s.2 11) (Int32.toNatClampNeg ((p.2 4) (Int32.toNatClampNeg ((h.2 201) (Int32.toNatClampNeg (v8 / (Int32.ofInt 8)))))))) (f_X0_wayOf v8) (f_X0_farOf v8)) hp.1) rfl cwX3_carry dX0_firstStep_142 rfl rfl (hm24_HP_P _ _ _ _) ((len_P _ _).trans (len_P _ _).symm) (wHP o h ((f_X3_carry s p ((h.2 201) (Int32.toNatClampNeg (v8 / (Int32.ofInt 8)))) (f_X3_goalOf s p ((s.2 10) (Int32.toNatClampNeg ((p.2 4) (Int32.toNatClampNeg ((h.2 201) (Int32.toNatClampNeg (v8 / (Int32.ofInt 8)))))))) ((s.2 11) (Int32.toNatClampNeg ((p.2 4) (Int32.toNatClampNeg ((h.2 201) (Int32.toNatClampNeg (v8 / (Int32.ofInt 8)))))))) (f_X0_wayOf v8) (f_X0_farOf v8))).2.1) ((f_X3_carry s p ((h.2 201) (Int32.toNatClampNeg (v8 / (Int32.ofInt 8)))) (f_X3_goalOf s p ((s.2 10) (Int32.toNatClampNeg ((p.2 4) (Int32.toNatClampNeg ((h.2 201) (Int32.toNatClampNeg (v8 / (Int32.ofInt 8)))))))) ((s.2 11) (Int32.toNatClampNeg ((p.2 4) (Int32.toNatClampNeg ((h.2 201) (Int32.toNatClampNeg (v8 / (Int32.ofInt 8)))))))) (f_X0_wayOf v8) (f_X0_farOf v8))).2.2)) (pw41_HP_P _ _ _ _ _ _) ?_
          replace hp := hp.2
          obtain ⟨g6, hg6⟩ : ∃ z, z = (f_X3_carry s p ((h.2 201) (Int32.toNatClampNeg (v8 / (Int32.ofInt 8)))) (f_X3_goalOf s p ((s.2 10) (Int32.toNatClampNeg ((p.2 4) (Int32.toNatClampNeg ((h.2 201) (Int32.toNatClampNeg (v8 / (Int32.ofInt 8)))))))) ((s.2 11) (Int32.toNatClampNeg ((p.2 4) (Int32.toNatClampNeg ((h.2 201) (Int32.toNatClampNeg (v8 / (Int32.ofInt 8)))))))) (f_X0_wayOf v8) (f_X0_farOf v8))) := ⟨_, rfl⟩
          try rw [← hg6] at hp
          try rw [← hg6] at hq
          rw [← hg6]
          refine g_blk hz0 kX0_firstStep_145 ?_
          refine cV [0, 1, 2, 3, 4, 5, 6, 7, 8, 9, 10, 11, 12, 13, 14, 15, 16, 17, 18, 19, 20, 21, 22, 23, 24, 25, 26, 27] (wHP o h (g6.2.1) (g6.2.2)) (s_X0_isForced_c0 o h (g6.2.1) (g6.2.2) v2 hp.1) rfl cwX0_isForced dX0_firstStep_152 rfl rfl (hm25_HP_HP _ _ _ _) ((len_HP _ _ _ _).trans (len_HP _ _ _ _).symm) (wHP ((f_X0_isForced_c0 o h (g6.2.1) (g6.2.2) v2).2.1) h ((f_X0_isForced_c0 o h (g6.2.1) (g6.2.2) v2).2.2.1) ((f_X0_isForced_c0 o h (g6.2.1) (g6.2.2) v2).2.2.2)) (pw44_HP_HP _ _ _ _ _ _ _) ?_
          replace hp := hp.2
          obtain ⟨g7, hg7⟩ : ∃ z, z = (f_X0_isForced_c0 o h (g6.2.1) (g6.2.2) v2) := ⟨_, rfl⟩
          try rw [← hg7] at hp
          try rw [← hg7] at hq
          rw [← hg7]
          refine g_blk hz0 kX0_firstStep_155 ?_
          refine ⟨vinL (by decide), 8, rfl, ?_⟩
          refine cV [16, 17, 18, 19, 20, 21, 22, 23, 24, 25, 26, 27, 8] (wPA (g7.2.2.1) (g7.2.2.2) ((fun _ => 0, fun _ => (h.2 101)) : Rec)) (s_X3_load (g7.2.2.1) (g7.2.2.2) ((fun _ => 0, fun _ => (h.2 101)) : Rec) hp.1) rfl cwX3_load dX0_firstStep_164 rfl rfl (hm29_HP_PA _ _ _ _) ((len_PA _ _ _).trans (len_PA _ _ _).symm) (wHP (g7.2.1) h ((f_X3_load (g7.2.2.1) (g7.2.2.2) ((fun _ => 0, fun _ => (h.2 101)) : Rec)).1) ((f_X3_load (g7.2.2.1) (g7.2.2.2) ((fun _ => 0, fun _ => (h.2 101)) : Rec)).2)) (pw45_HP_PA _ _ _ _ _ _) ?_
          replace hp := hp.2
          obtain ⟨g8, hg8⟩ : ∃ z, z = (f_X3_load (g7.2.2.1) (g7.2.2.2) ((fun _ => 0, fun _ => (h.2 101)) : Rec)) := ⟨_, rfl⟩
          try rw [← hg8] at hp
          try rw [← hg8] at hq
          rw [← hg8]
          refine g_blk hz0 kX0_firstStep_167 ?_
          refine ⟨fun c9 => ?_, fun c9 => ?_⟩
          · rw [if_neg (show ¬ ((g7.1) = v4) from c9)] at hq
            replace hp := hp.2 c9
            refine g_blk hz0 kX0_firstStep_177 ?_
            refine g_le (L2 := [some (.ref 0), some (.ref 16), some (.int v2), some (.int (Int32.ofInt 1)), some (.int v4), some (.ref 13), some (.int v6), some (.int (Int32.ofInt (-1))), some (.int (v8 + (Int32.ofInt 1))), none, none, none, none]) ⟨rfl, rfl, rfl, rfl, rfl, rfl, rfl, rfl, rfl, trivial⟩ ?_
            exact ih (g7.2.1) h (g8.1) (g8.2) v2 v4 v6 ((Int32.ofInt (-1))) (v8 + (Int32.ofInt 1)) hp hq
          · rw [if_pos (show (g7.1) = v4 from c9)] at hq
            refine g_blk hz0 kX0_firstStep_174 ?_
            subst hq
            exact ⟨fun h => (by cases h), rfl, rfl⟩
        · rw [if_pos (show (f_X3_goalOf s p ((s.2 10) (Int32.toNatClampNeg ((p.2 4) (Int32.toNatClampNeg ((h.2 201) (Int32.toNatClampNeg (v8 / (Int32.ofInt 8)))))))) ((s.2 11) (Int32.toNatClampNeg ((p.2 4) (Int32.toNatClampNeg ((h.2 201) (Int32.toNatClampNeg (v8 / (Int32.ofInt 8)))))))) (f_X0_wayOf v8) (f_X0_farOf v8)) = (Int32.ofInt (-1)) from c5)] at hq
          replace hp := hp.1 c5
          refine g_blk hz0 kX0_firstStep_131 ?_
          refine g_blk hz0 kX0_firstStep_177 ?_
          refine g_le (L2 := [some (.ref 0), some (.ref 16), some (.int v2), some (.int (Int32.ofInt 1)), some (.int v4), some (.ref 13), some (.int v6), some (.int v7), some (.int (v8 + (Int32.ofInt 1))), none, none, none, none]) ⟨rfl, rfl, rfl, rfl, rfl, rfl, rfl, rfl, rfl, trivial⟩ ?_
          exact ih o h s p v2 v4 v6 v7 (v8 + (Int32.ofInt 1)) hp hq
      · rw [if_pos (show (f_X4_has s ((p.2 4) (Int32.toNatClampNeg ((h.2 201) (Int32.toNatClampNeg (v8 / (Int32.ofInt 8))))))) = 0 from c4)] at hq
        replace hp := hp.1 c4
        refine g_blk hz0 kX0_firstStep_86 ?_
        refine g_blk hz0 kX0_firstStep_177 ?_
        refine g_le (L2 := [some (.ref 0), some (.ref 16), some (.int v2), some (.int (Int32.ofInt 1)), some (.int v4), some (.ref 13), some (.int v6), some (.int v7), some (.int (v8 + (Int32.ofInt 1))), none, none, none, none]) ⟨rfl, rfl, rfl, rfl, rfl, rfl, rfl, rfl, rfl, trivial⟩ ?_
        exact ih o h s p v2 v4 v6 v7 (v8 + (Int32.ofInt 1)) hp hq
def f_X0_firstStep_c1 (o : Rec) (h : Rec) (s : Rec) (p : Rec) (me : Int32) (wt : Int32) : Int32 × Rec × Rec × Rec × Rec := (f_X0_firstStep_c1_48 4000000000 o (setA (setA h 101 ((f_X3_save s p ((fun _ => 0, fun _ => (h.2 101)) : Rec)).2 0)) 201 (((f_X0_listLeaders s p ((fun _ => 0, fun _ => (h.2 201)) : Rec)).2).2 0)) s p me wt ((Int32.ofInt 8) * ((f_X0_listLeaders s p ((fun _ => 0, fun _ => (h.2 201)) : Rec)).1)) ((Int32.ofInt (-2))) ((Int32.ofInt 0)))
def p_X0_firstStep_c1 (o : Rec) (h : Rec) (s : Rec) (p : Rec) (me : Int32) (wt : Int32) : Prop := (p_X0_listLeaders s p ((fun _ => 0, fun _ => (h.2 201)) : Rec)) ∧ ((p_X3_save s p ((fun _ => 0, fun _ => (h.2 101)) : Rec)) ∧ (p_X0_firstStep_c1_48 4000000000 o (setA (setA h 101 ((f_X3_save s p ((fun _ => 0, fun _ => (h.2 101)) : Rec)).2 0)) 201 (((f_X0_listLeaders s p ((fun _ => 0, fun _ => (h.2 201)) : Rec)).2).2 0)) s p me wt ((Int32.ofInt 8) * ((f_X0_listLeaders s p ((fun _ => 0, fun _ => (h.2 201)) : Rec)).1)) ((Int32.ofInt (-2))) ((Int32.ofInt 0))))
set_option maxHeartbeats 16000000 in
set_option maxRecDepth 20000 in
theorem s_X0_firstStep_c1 (o : Rec) (h : Rec) (s : Rec) (p : Rec) (me : Int32) (wt : Int32) (hp : p_X0_firstStep_c1 o h s p me wt) : Spec 5 0 0 mX0_firstStep [.ref 0, .ref 16, .int me, .int (Int32.ofInt 1), .int wt] (wHP o h s p) (Ret (some (.int ((f_X0_firstStep_c1 o h s p me wt).1))) (wHP ((f_X0_firstStep_c1 o h s p me wt).2.1) ((f_X0_firstStep_c1 o h s p me wt).2.2.1) ((f_X0_firstStep_c1 o h s p me wt).2.2.2.1) ((f_X0_firstStep_c1 o h s p me wt).2.2.2.2))) := by
  obtain ⟨zq, hq⟩ : ∃ z, z = (f_X0_firstStep_c1 o h s p me wt) := ⟨_, rfl⟩
  rw [← hq]
  unfold f_X0_firstStep_c1 at hq
  unfold p_X0_firstStep_c1 at hp
  refine Sof fun sc => ?_
  refine g_blk hz0 kX0_firstStep_0 ?_
  refine cS0 (s_X8_within (Int32.ofInt 1) (Int32.ofInt 1) (Int32.ofInt 3)) rfl cwX8_within dX0_firstStep_3 rfl ?_
  refine g_blk hz0 kX0_firstStep_6 ?_
  refine ⟨fun _ => ?_, fun c => absurd c (by decide)⟩
  refine g_blk hz0 kX0_firstStep_12 ?_
  refine ⟨vinL (by decide), 13, rfl, ?_⟩
  refine cS [16, 17, 18, 19, 20, 21, 22, 23, 24, 25, 26, 27, 13] (wP8 s p ((fun _ => 0, fun _ => (h.2 201)) : Rec)) (s_X0_listLeaders s p ((fun _ => 0, fun _ => (h.2 201)) : Rec) hp.1) rfl cwX0_listLeaders dX0_firstStep_25 rfl (hm28_HP_P8 _ _ _ _) ((len_P8 _ _ _).trans (len_P8 _ _ _).symm) (wHP o (setA h 201 (((f_X0_listLeaders s p ((fun _ => 0, fun _ => (h.2 201)) : Rec)).2).2 0)) s p) (pw42_HP_P8 _ _ _ _ _) ?_
  replace hp := hp.2
  obtain ⟨g1, hg1⟩ : ∃ z, z = (f_X0_listLeaders s p ((fun _ => 0, fun _ => (h.2 201)) : Rec)) := ⟨_, rfl⟩
  try rw [← hg1] at hp
  try rw [← hg1] at hq
  rw [← hg1]
  refine g_blk hz0 kX0_firstStep_28 ?_
  refine ⟨vinL (by decide), 8, rfl, ?_⟩
  refine cV [16, 17, 18, 19, 20, 21, 22, 23, 24, 25, 26, 27, 8] (wPA s p ((fun _ => 0, fun _ => (h.2 101)) : Rec)) (s_X3_save s p ((fun _ => 0, fun _ => (h.2 101)) : Rec) hp.1) rfl cwX3_save dX0_firstStep_42 rfl rfl (hm29_HP_PA _ _ _ _) ((len_PA _ _ _).trans (len_PA _ _ _).symm) (wHP o (setA (setA h 101 ((f_X3_save s p ((fun _ => 0, fun _ => (h.2 101)) : Rec)).2 0)) 201 ((g1.2).2 0)) s p) (pw43_HP_PA _ _ _ _ _) ?_
  replace hp := hp.2
  obtain ⟨g2, hg2⟩ : ∃ z, z = (f_X3_save s p ((fun _ => 0, fun _ => (h.2 101)) : Rec)) := ⟨_, rfl⟩
  try rw [← hg2] at hp
  try rw [← hg2] at hq
  rw [← hg2]
  refine g_blk hz0 kX0_firstStep_45 ?_
  refine g_le (L2 := [some (.ref 0), some (.ref 16), some (.int me), some (.int (Int32.ofInt 1)), some (.int wt), some (.ref 13), some (.int ((Int32.ofInt 8) * (g1.1))), some (.int (Int32.ofInt (-2))), some (.int (Int32.ofInt 0)), none, none, none, none]) ⟨rfl, rfl, rfl, rfl, rfl, rfl, rfl, rfl, rfl, trivial⟩ ?_
  exact l_X0_firstStep_c1_48 sc zq 4000000000 o (setA (setA h 101 (g2.2 0)) 201 ((g1.2).2 0)) s p me wt ((Int32.ofInt 8) * (g1.1)) ((Int32.ofInt (-2))) ((Int32.ofInt 0)) hp hq

set_option maxHeartbeats 16000000 in
theorem pw46_HP_HP (o : Rec) (h : Rec) (s : Rec) (p : Rec) (o9 : Rec) (h9 : Rec) (s9 : Rec) (p9 : Rec) : putW (wHP o h s p) [0, 1, 2, 3, 4, 5, 6, 7, 8, 9, 10, 11, 12, 13, 14, 15, 16, 17, 18, 19, 20, 21, 22, 23, 24, 25, 26, 27] ((wHP o9 h9 s9 p9).map (ren [0, 1, 2, 3, 4, 5, 6, 7, 8, 9, 10, 11, 12, 13, 14, 15, 16, 17, 18, 19, 20, 21, 22, 23, 24, 25, 26, 27])) = (wHP o9 h9 s9 p9) := rfl
def f_X0_isForced_c1_59  : Nat → Rec → Rec → Rec → Rec → Int32 → Int32 → Int32 → Int32 × Rec × Rec × Rec × Rec
  | 0, o, h, s, p, v2, v4, v5 => (0, o, h, s, p)
  | n + 1, o, h, s, p, v2, v4, v5 => if (Int32.ofInt 3) ≤ v5 then (if v4 = 0 then (if ((f_X0_firstStep_c1 o h s p v2 ((Int32.ofInt 0))).1) = (Int32.ofInt (-1)) then ((Int32.ofInt 1), ((f_X0_firstStep_c1 o h s p v2 ((Int32.ofInt 0))).2.1), ((f_X0_firstStep_c1 o h s p v2 ((Int32.ofInt 0))).2.2.1), ((f_X0_firstStep_c1 o h s p v2 ((Int32.ofInt 0))).2.2.2.1), ((f_X0_firstStep_c1 o h s p v2 ((Int32.ofInt 0))).2.2.2.2)) else ((Int32.ofInt 0), ((f_X0_firstStep_c1 o h s p v2 ((Int32.ofInt 0))).2.1), ((f_X0_firstStep_c1 o h s p v2 ((Int32.ofInt 0))).2.2.1), ((f_X0_firstStep_c1 o h s p v2 ((Int32.ofInt 0))).2.2.2.1), ((f_X0_firstStep_c1 o h s p v2 ((Int32.ofInt 0))).2.2.2.2))) else (if ((f_X0_firstStep_c1 o h s p v2 ((Int32.ofInt 1))).1) < 0 then ((Int32.ofInt 0), ((f_X0_firstStep_c1 o h s p v2 ((Int32.ofInt 1))).2.1), ((f_X0_firstStep_c1 o h s p v2 ((Int32.ofInt 1))).2.2.1), ((f_X0_firstStep_c1 o h s p v2 ((Int32.ofInt 1))).2.2.2.1), ((f_X0_firstStep_c1 o h s p v2 ((Int32.ofInt 1))).2.2.2.2)) else ((Int32.ofInt 1), ((f_X0_firstStep_c1 o h s p v2 ((Int32.ofInt 1))).2.1), ((f_X0_firstStep_c1 o h s p v2 ((Int32.ofInt 1))).2.2.1), ((f_X0_firstStep_c1 o h s p v2 ((Int32.ofInt 1))).2.2.2.1), ((f_X0_firstStep_c1 o h s p v2 ((Int32.ofInt 1))).2.2.2.2)))) else (if (p.1 7) ≤ 0 then (if v4 = 0 then (if ((f_X0_firstStep_c1 o h s p v2 ((Int32.ofInt 0))).1) = (Int32.ofInt (-1)) then ((Int32.ofInt 1), ((f_X0_firstStep_c1 o h s p v2 ((Int32.ofInt 0))).2.1), ((f_X0_firstStep_c1 o h s p v2 ((Int32.ofInt 0))).2.2.1), ((f_X0_firstStep_c1 o h s p v2 ((Int32.ofInt 0))).2.2.2.1), ((f_X0_firstStep_c1 o h s p v2 ((Int32.ofInt 0))).2.2.2.2)) else ((Int32.ofInt 0), ((f_X0_firstStep_c1 o h s p v2 ((Int32.ofInt 0))).2.1), ((f_X0_firstStep_c1 o h s p v2 ((Int32.ofInt 0))).2.2.1), ((f_X0_firstStep_c1 o h s p v2 ((Int32.ofInt 0))).2.2.2.1), ((f_X0_firstStep_c1 o h s p v2 ((Int32.ofInt 0))).2.2.2.2))) else (if ((f_X0_firstStep_c1 o h s p v2 ((Int32.ofInt 1))).1) < 0 then ((Int32.ofInt 0), ((f_X0_firstStep_c1 o h s p v2 ((Int32.ofInt 1))).2.1), ((f_X0_firstStep_c1 o h s p v2 ((Int32.ofInt 1))).2.2.1), ((f_X0_firstStep_c1 o h s p v2 ((Int32.ofInt 1))).2.2.2.1), ((f_X0_firstStep_c1 o h s p v2 ((Int32.ofInt 1))).2.2.2.2)) else ((Int32.ofInt 1), ((f_X0_firstStep_c1 o h s p v2 ((Int32.ofInt 1))).2.1), ((f_X0_firstStep_c1 o h s p v2 ((Int32.ofInt 1))).2.2.1), ((f_X0_firstStep_c1 o h s p v2 ((Int32.ofInt 1))).2.2.2.1), ((f_X0_firstStep_c1 o h s p v2 ((Int32.ofInt 1))).2.2.2.2)))) else (f_X0_isForced_c1_59 n ((f_X1_habitOf o s p).2) h ((f_X3_creaseDue s p (f_X4_choiceAxis s ((f_X1_habitOf o s p).1)) (f_X4_choiceLine s ((f_X1_habitOf o s p).1)) (f_X4_choiceWay s ((f_X1_habitOf o s p).1))).1) ((f_X3_creaseDue s p (f_X4_choiceAxis s ((f_X1_habitOf o s p).1)) (f_X4_choiceLine s ((f_X1_habitOf o s p).1)) (f_X4_choiceWay s ((f_X1_habitOf o s p).1))).2) v2 v4 (v5 + (Int32.ofInt 1))))
def p_X0_isForced_c1_59  : Nat → Rec → Rec → Rec → Rec → Int32 → Int32 → Int32 → Prop
  | 0, _, _, _, _, _, _, _ => False
  | n + 1, o, h, s, p, v2, v4, v5 => ((Int32.ofInt 3) ≤ v5 → ((v4 = 0 → ((p_X0_firstStep_c1 o h s p v2 ((Int32.ofInt 0))) ∧ True)) ∧ (¬ (v4 = 0) → ((p_X0_firstStep_c1 o h s p v2 ((Int32.ofInt 1))) ∧ True)))) ∧ (¬ ((Int32.ofInt 3) ≤ v5) → (((p.1 7) ≤ 0 → ((v4 = 0 → ((p_X0_firstStep_c1 o h s p v2 ((Int32.ofInt 0))) ∧ True)) ∧ (¬ (v4 = 0) → ((p_X0_firstStep_c1 o h s p v2 ((Int32.ofInt 1))) ∧ True)))) ∧ (¬ ((p.1 7) ≤ 0) → ((p_X1_habitOf o s p) ∧ ((p_X3_creaseDue s p (f_X4_choiceAxis s ((f_X1_habitOf o s p).1)) (f_X4_choiceLine s ((f_X1_habitOf o s p).1)) (f_X4_choiceWay s ((f_X1_habitOf o s p).1))) ∧ (p_X0_isForced_c1_59 n ((f_X1_habitOf o s p).2) h ((f_X3_creaseDue s p (f_X4_choiceAxis s ((f_X1_habitOf o s p).1)) (f_X4_choiceLine s ((f_X1_habitOf o s p).1)) (f_X4_choiceWay s ((f_X1_habitOf o s p).1))).1) ((f_X3_creaseDue s p (f_X4_choiceAxis s ((f_X1_habitOf o s p).1)) (f_X4_choiceLine s ((f_X1_habitOf o s p).1)) (f_X4_choiceWay s ((f_X1_habitOf o s p).1))).2) v2 v4 (v5 + (Int32.ofInt 1))))))))
set_option maxHeartbeats 16000000 in
set_option maxRecDepth 20000 in
theorem l_X0_isForced_c1_59 (sc : SC)   (zq : Int32 × Rec × Rec × Rec × Rec)  : ∀ (n : Nat) (o : Rec) (h : Rec) (s : Rec) (p : Rec) (v2 : Int32) (v4 : Int32) (v5 : Int32), p_X0_isForced_c1_59 n o h s p v2 v4 v5 → zq = f_X0_isForced_c1_59 n o h s p v2 v4 v5 → Good sc 6 0 0 28 mX0_isForced (Ret (some (.int (zq.1))) (wHP (zq.2.1) (zq.2.2.1) (zq.2.2.2.1) (zq.2.2.2.2))) 0 0 59 [some (.ref 0), some (.ref 16), some (.int v2), some (.int (Int32.ofInt 1)), some (.int v4), some (.int v5), none, none] [] (wHP o h s p) := by
  intro n
  induction n with
  | zero => intro o h s p v2 v4 v5 hp; exact hp.elim
  | succ n ih =>
    intro o h s p v2 v4 v5 hp hq
    unfold p_X0_isForced_c1_59 at hp
    unfold f_X0_isForced_c1_59 at hq
    refine g_blk hz0 kX0_isForced_59 ?_
    refine ⟨fun c5 => ?_, fun c5 => ?_⟩
    · rw [if_pos (show (Int32.ofInt 3) ≤ v5 from c5)] at hq
      replace hp := hp.1 c5
      refine g_blk hz0 kX0_isForced_119 ?_
      refine ⟨fun c6 => ?_, fun c6 => ?_⟩
      · rw [if_pos (show v4 = 0 from c6)] at hq
        replace hp := hp.1 c6
        refine g_blk hz0 kX0_isForced_141 ?_
        refine cV [0, 1, 2, 3, 4, 5, 6, 7, 8, 9, 10, 11, 12, 13, 14, 15, 16, 17, 18, 19, 20, 21, 22, 23, 24, 25, 26, 27] (wHP o h s p) (s_X0_firstStep_c1 o h s p v2 ((Int32.ofInt 0)) hp.1) rfl cwX0_firstStep dX0_isForced_146 rfl rfl (hm25_HP_HP _ _ _ _) ((len_HP _ _ _ _).trans (len_HP _ _ _ _).symm) (wHP ((f_X0_firstStep_c1 o h s p v2 ((Int32.ofInt 0))).2.1) ((f_X0_firstStep_c1 o h s p v2 ((Int32.ofInt 0))).2.2.1) ((f_X0_firstStep_c1 o h s p v2 ((Int32.ofInt 0))).2.2.2.1) ((f_X0_firstStep_c1 o h s p v2 ((Int32.ofInt 0))).2.2.2.2)) (pw46_HP_HP _ _ _ _ _ _ _ _) ?_
        replace hp := hp.2
        obtain ⟨g7, hg7⟩ : ∃ z, z = (f_X0_firstStep_c1 o h s p v2 ((Int32.ofInt 0))) := ⟨_, rfl⟩
        try rw [← hg7] at hp
        try rw [← hg7] at hq
        rw [← hg7]
        refine g_blk hz0 kX0_isForced_149 ?_
        refine ⟨fun c8 => ?_, fun c8 => ?_⟩
        · rw [if_neg (show ¬ ((g7.1) = (Int32.ofInt (-1))) from c8)] at hq
          refine g_blk hz0 kX0_isForced_157 ?_
          refine g_blk hz0 kX0_isForced_158 ?_
          subst hq
          exact ⟨fun _ => Or.inl rfl, rfl, rfl⟩
        · rw [if_pos (show (g7.1) = (Int32.ofInt (-1)) from c8)] at hq
          refine g_blk hz0 kX0_isForced_153 ?_
          refine g_blk hz0 kX0_isForced_158 ?_
          subst hq
          exact ⟨fun _ => Or.inr rfl, rfl, rfl⟩
      · rw [if_neg (show ¬ (v4 = 0) from c6)] at hq
        replace hp := hp.2 c6
        refine g_blk hz0 kX0_isForced_124 ?_
        refine cV [0, 1, 2, 3, 4, 5, 6, 7, 8, 9, 10, 11, 12, 13, 14, 15, 16, 17, 18, 19, 20, 21, 22, 23, 24, 25, 26, 27] (wHP o h s p) (s_X0_firstStep_c1 o h s p v2 ((Int32.ofInt 1)) hp.1) rfl cwX0_firstStep dX0_isForced_129 rfl rfl (hm25_HP_HP _ _ _ _) ((len_HP _ _ _ _).trans (len_HP _ _ _ _).symm) (wHP ((f_X0_firstStep_c1 o h s p v2 ((Int32.ofInt 1))).2.1) ((f_X0_firstStep_c1 o h s p v2 ((Int32.ofInt 1))).2.2.1) ((f_X0_firstStep_c1 o h s p v2 ((Int32.ofInt 1))).2.2.2.1) ((f_X0_firstStep_c1 o h s p v2 ((Int32.ofInt 1))).2.2.2.2)) (pw46_HP_HP _ _ _ _ _ _ _ _) ?_
        replace hp := hp.2
        obtain ⟨g9, hg9⟩ : ∃ z, z = (f_X0_firstStep_c1 o h s p v2 ((Int32.ofInt 1))) := ⟨_, rfl⟩
        try rw [← hg9] at hp
        try rw [← hg9] at hq
        rw [← hg9]
        refine g_blk hz0 kX0_isForced_132 ?_
        refine ⟨fun c10 => ?_, fun c10 => ?_⟩
        · rw [if_pos (show (g9.1) < 0 from c10)] at hq
          refine g_blk hz0 kX0_isForced_139 ?_
          refine g_blk hz0 kX0_isForced_140 ?_
          subst hq
          exact ⟨fun _ => Or.inl rfl, rfl, rfl⟩
        · rw [if_neg (show ¬ ((g9.1) < 0) from c10)] at hq
          refine g_blk hz0 kX0_isForced_135 ?_
          refine g_blk hz0 kX0_isForced_140 ?_
          subst hq
          exact ⟨fun _ => Or.inr rfl, rfl, rfl⟩
    · rw [if_neg (show ¬ ((Int32.ofInt 3) ≤ v5) from c5)] at hq
      replace hp := hp.2 c5
      refine g_blk hz0 kX0_isForced_65 ?_
      refine ⟨fun c11 => ?_, fun c11 => ?_⟩
      · rw [if_pos (show (p.1 7) ≤ 0 from c11)] at hq
        replace hp := hp.1 c11
        refine g_blk hz0 kX0_isForced_119 ?_
        refine ⟨fun c12 => ?_, fun c12 => ?_⟩
        · rw [if_pos (show v4 = 0 from c12)] at hq
          replace hp := hp.1 c12
          refine g_blk hz0 kX0_isForced_141 ?_
          refine cV [0, 1, 2, 3, 4, 5, 6, 7, 8, 9, 10, 11, 12, 13, 14, 15, 16, 17, 18, 19, 20, 21, 22, 23, 24, 25, 26, 27] (wHP o h s p) (s_X0_firstStep_c1 o h s p v2 ((Int32.ofInt 0)) hp.1) rfl cwX0_firstStep dX0_isForced_146 rfl rfl (hm25_HP_HP _ _ _ _) ((len_HP _ _ _ _).trans (len_HP _ _ _ _).symm) (wHP ((f_X0_firstStep_c1 o h s p v2 ((Int32.ofInt 0))).2.1) ((f_X0_firstStep_c1 o h s p v2 ((Int32.ofInt 0))).2.2.1) ((f_X0_firstStep_c1 o h s p v2 ((Int32.ofInt 0))).2.2.2.1) ((f_X0_firstStep_c1 o h s p v2 ((Int32.ofInt 0))).2.2.2.2)) (pw46_HP_HP _ _ _ _ _ _ _ _) ?_
          replace hp := hp.2
          obtain ⟨g13, hg13⟩ : ∃ z, z = (f_X0_firstStep_c1 o h s p v2 ((Int32.ofInt 0))) := ⟨_, rfl⟩
          try rw [← hg13] at hp
          try rw [← hg13] at hq
          rw [← hg13]
          refine g_blk hz0 kX0_isForced_149 ?_
          refine ⟨fun c14 => ?_, fun c14 => ?_⟩
          · rw [if_neg (show ¬ ((g13.1) = (Int32.ofInt (-1))) from c14)] at hq
            refine g_blk hz0 kX0_isForced_157 ?_
            refine g_blk hz0 kX0_isForced_158 ?_
            subst hq
            exact ⟨fun _ => Or.inl rfl, rfl, rfl⟩
          · rw [if_pos (show (g13.1) = (Int32.ofInt (-1)) from c14)] at hq
            refine g_blk hz0 kX0_isForced_153 ?_
            refine g_blk hz0 kX0_isForced_158 ?_
            subst hq
            exact ⟨fun _ => Or.inr rfl, rfl, rfl⟩
        · rw [if_neg (show ¬ (v4 = 0) from c12)] at hq
          replace hp := hp.2 c12
          refine g_blk hz0 kX0_isForced_124 ?_
          refine cV [0, 1, 2, 3, 4, 5, 6, 7, 8, 9, 10, 11, 12, 13, 14, 15, 16, 17, 18, 19, 20, 21, 22, 23, 24, 25, 26, 27] (wHP o h s p) (s_X0_firstStep_c1 o h s p v2 ((Int32.ofInt 1)) hp.1) rfl cwX0_firstStep dX0_isForced_129 rfl rfl (hm25_HP_HP _ _ _ _) ((len_HP _ _ _ _).trans (len_HP _ _ _ _).symm) (wHP ((f_X0_firstStep_c1 o h s p v2 ((Int32.ofInt 1))).2.1) ((f_X0_firstStep_c1 o h s p v2 ((Int32.ofInt 1))).2.2.1) ((f_X0_firstStep_c1 o h s p v2 ((Int32.ofInt 1))).2.2.2.1) ((f_X0_firstStep_c1 o h s p v2 ((Int32.ofInt 1))).2.2.2.2)) (pw46_HP_HP _ _ _ _ _ _ _ _) ?_
          replace hp := hp.2
          obtain ⟨g15, hg15⟩ : ∃ z, z = (f_X0_firstStep_c1 o h s p v2 ((Int32.ofInt 1))) := ⟨_, rfl⟩
          try rw [← hg15] at hp
          try rw [← hg15] at hq
          rw [← hg15]
          refine g_blk hz0 kX0_isForced_132 ?_
          refine ⟨fun c16 => ?_, fun c16 => ?_⟩
          · rw [if_pos (show (g15.1) < 0 from c16)] at hq
            refine g_blk hz0 kX0_isForced_139 ?_
            refine g_blk hz0 kX0_isForced_140 ?_
            subst hq
            exact ⟨fun _ => Or.inl rfl, rfl, rfl⟩
          · rw [if_neg (show ¬ ((g15.1) < 0) from c16)] at hq
            refine g_blk hz0 kX0_isForced_135 ?_
            refine g_blk hz0 kX0_isForced_140 ?_
            subst hq
            exact ⟨fun _ => Or.inr rfl, rfl, rfl⟩
      · rw [if_neg (show ¬ ((p.1 7) ≤ 0) from c11)] at hq
        replace hp := hp.2 c11
        refine g_blk hz0 kX0_isForced_72 ?_
        refine cV [1, 2, 3, 4, 5, 16, 17, 18, 19, 20, 21, 22, 23, 24, 25, 26, 27] (wOP o s p) (s_X1_habitOf o s p hp.1) rfl cwX1_habitOf dX0_isForced_77 rfl rfl (hm26_HP_OP _ _ _ _) ((len_OP _ _ _).trans (len_OP _ _ _).symm) (wHP ((f_X1_habitOf o s p).2) h s p) (pw39_HP_OP _ _ _ _ _) ?_
        replace hp := hp.2
        obtain ⟨g17, hg17⟩ : ∃ z, z = (f_X1_habitOf o s p) := ⟨_, rfl⟩
        try rw [← hg17] at hp
        try rw [← hg17] at hq
        rw [← hg17]
        refine g_blk hz0 kX0_isForced_80 ?_
        refine cVp [17, 18, 19, 20, 21, 22, 23] (wS s) (s_X4_choiceAxis s (g17.1)) rfl cwX4_choiceAxis dX0_isForced_93 rfl rfl (hm27_HP_S _ _ _ _) ?_
        refine g_blk hz0 kX0_isForced_96 ?_
        refine cVp [17, 18, 19, 20, 21, 22, 23] (wS s) (s_X4_choiceLine s (g17.1)) rfl cwX4_choiceLine dX0_isForced_100 rfl rfl (hm27_HP_S _ _ _ _) ?_
        refine g_blk hz0 kX0_isForced_103 ?_
        refine cVp [17, 18, 19, 20, 21, 22, 23] (wS s) (s_X4_choiceWay s (g17.1)) rfl cwX4_choiceWay dX0_isForced_107 rfl rfl (hm27_HP_S _ _ _ _) ?_
        refine cV [16, 17, 18, 19, 20, 21, 22, 23, 24, 25, 26, 27] (wP s p) (s_X3_creaseDue s p (f_X4_choiceAxis s (g17.1)) (f_X4_choiceLine s (g17.1)) (f_X4_choiceWay s (g17.1)) hp.1) rfl cwX3_creaseDue dX0_isForced_110 rfl rfl (hm24_HP_P _ _ _ _) ((len_P _ _).trans (len_P _ _).symm) (wHP (g17.2) h ((f_X3_creaseDue s p (f_X4_choiceAxis s (g17.1)) (f_X4_choiceLine s (g17.1)) (f_X4_choiceWay s (g17.1))).1) ((f_X3_creaseDue s p (f_X4_choiceAxis s (g17.1)) (f_X4_choiceLine s (g17.1)) (f_X4_choiceWay s (g17.1))).2)) (pw41_HP_P _ _ _ _ _ _) ?_
        replace hp := hp.2
        obtain ⟨g18, hg18⟩ : ∃ z, z = (f_X3_creaseDue s p (f_X4_choiceAxis s (g17.1)) (f_X4_choiceLine s (g17.1)) (f_X4_choiceWay s (g17.1))) := ⟨_, rfl⟩
        try rw [← hg18] at hp
        try rw [← hg18] at hq
        rw [← hg18]
        refine g_blk hz0 kX0_isForced_113 ?_
        refine g_le (L2 := [some (.ref 0), some (.ref 16), some (.int v2), some (.int (Int32.ofInt 1)), some (.int v4), some (.int (v5 + (Int32.ofInt 1))), none, none]) ⟨rfl, rfl, rfl, rfl, rfl, rfl, trivial⟩ ?_
        exact ih (g17.2) h (g18.1) (g18.2) v2 v4 (v5 + (Int32.ofInt 1)) hp hq
def f_X0_isForced_c1 (o : Rec) (h : Rec) (s : Rec) (p : Rec) (me : Int32) : Int32 × Rec × Rec × Rec × Rec := if (f_X3_winner s p) = me then ((Int32.ofInt 1), o, h, s, p) else (if (f_X3_onTurn s p) = me then (if (f_X0_canBeTaken (f_X3_menOf s p ((Int32.ofInt 1) - me)) ((Int32.ofInt 1))) = 0 then ((Int32.ofInt 0), o, h, s, p) else (f_X0_isForced_c1_59 4000000000 o h s p me ((Int32.ofInt 1)) ((Int32.ofInt 0)))) else (if (f_X0_canBeTaken (f_X3_menOf s p ((Int32.ofInt 1) - me)) ((Int32.ofInt 0))) = 0 then ((Int32.ofInt 0), o, h, s, p) else (f_X0_isForced_c1_59 4000000000 o h s p me ((Int32.ofInt 0)) ((Int32.ofInt 0)))))
def p_X0_isForced_c1 (o : Rec) (h : Rec) (s : Rec) (p : Rec) (me : Int32) : Prop := (p_X3_winner s p) ∧ (((f_X3_winner s p) = me → True) ∧ (¬ ((f_X3_winner s p) = me) → (((f_X3_onTurn s p) = me → ((p_X3_menOf s p ((Int32.ofInt 1) - me)) ∧ (((f_X0_canBeTaken (f_X3_menOf s p ((Int32.ofInt 1) - me)) ((Int32.ofInt 1))) = 0 → True) ∧ (¬ ((f_X0_canBeTaken (f_X3_menOf s p ((Int32.ofInt 1) - me)) ((Int32.ofInt 1))) = 0) → (p_X0_isForced_c1_59 4000000000 o h s p me ((Int32.ofInt 1)) ((Int32.ofInt 0))))))) ∧ (¬ ((f_X3_onTurn s p) = me) → ((p_X3_menOf s p ((Int32.ofInt 1) - me)) ∧ (((f_X0_canBeTaken (f_X3_menOf s p ((Int32.ofInt 1) - me)) ((Int32.ofInt 0))) = 0 → True) ∧ (¬ ((f_X0_canBeTaken (f_X3_menOf s p ((Int32.ofInt 1) - me)) ((Int32.ofInt 0))) = 0) → (p_X0_isForced_c1_59 4000000000 o h s p me ((Int32.ofInt 0)) ((Int32.ofInt 0))))))))))
set_option maxHeartbeats 16000000 in
set_option maxRecDepth 20000 in
theorem s_X0_isForced_c1 (o : Rec) (h : Rec) (s : Rec) (p : Rec) (me : Int32) (hp : p_X0_isForced_c1 o h s p me) : Spec 6 0 0 mX0_isForced [.ref 0, .ref 16, .int me, .int (Int32.ofInt 1)] (wHP o h s p) (Ret (some (.int ((f_X0_isForced_c1 o h s p me).1))) (wHP ((f_X0_isForced_c1 o h s p me).2.1) ((f_X0_isForced_c1 o h s p me).2.2.1) ((f_X0_isForced_c1 o h s p me).2.2.2.1) ((f_X0_isForced_c1 o h s p me).2.2.2.2))) := by
  obtain ⟨zq, hq⟩ : ∃ z, z = (f_X0_isForced_c1 o h s p me) := ⟨_, rfl⟩
  rw [← hq]
  unfold f_X0_isForced_c1 at hq
  unfold p_X0_isForced_c1 at hp
  refine Sof fun sc => ?_
  refine g_blk hz0 kX0_isForced_0 ?_
  refine cVp [16, 17, 18, 19, 20, 21, 22, 23, 24, 25, 26, 27] (wP s p) (s_X3_winner s p hp.1) rfl cwX3_winner dX0_isForced_1 rfl rfl (hm24_HP_P _ _ _ _) ?_
  replace hp := hp.2
  refine g_blk hz0 kX0_isForced_4 ?_
  refine ⟨fun c1 => ?_, fun c1 => ?_⟩
  · rw [if_neg (show ¬ ((f_X3_winner s p) = me) from c1)] at hq
    replace hp := hp.2 c1
    refine g_blk hz0 kX0_isForced_10 ?_
    refine cVp [16, 17, 18, 19, 20, 21, 22, 23, 24, 25, 26, 27] (wP s p) (s_X3_onTurn s p) rfl cwX3_onTurn dX0_isForced_11 rfl rfl (hm24_HP_P _ _ _ _) ?_
    refine g_blk hz0 kX0_isForced_14 ?_
    refine ⟨fun c2 => ?_, fun c2 => ?_⟩
    · rw [if_neg (show ¬ ((f_X3_onTurn s p) = me) from c2)] at hq
      replace hp := hp.2 c2
      refine g_blk hz0 kX0_isForced_22 ?_
      refine g_blk hz0 kX0_isForced_23 ?_
      refine cVp [16, 17, 18, 19, 20, 21, 22, 23, 24, 25, 26, 27] (wP s p) (s_X3_menOf s p ((Int32.ofInt 1) - me) hp.1) rfl cwX3_menOf dX0_isForced_29 rfl rfl (hm24_HP_P _ _ _ _) ?_
      replace hp := hp.2
      refine g_blk hz0 kX0_isForced_32 ?_
      refine ⟨fun _ => ?_, fun c => absurd c (by decide)⟩
      refine g_blk hz0 kX0_isForced_45 ?_
      refine ⟨by decide, ?_⟩
      refine cS0 (s_X0_canBeTaken (f_X3_menOf s p ((Int32.ofInt 1) - me)) ((Int32.ofInt 0))) rfl cwX0_canBeTaken dX0_isForced_48 rfl ?_
      refine g_blk hz0 kX0_isForced_51 ?_
      refine ⟨fun c4 => ?_, fun c4 => ?_⟩
      · rw [if_neg (show ¬ ((f_X0_canBeTaken (f_X3_menOf s p ((Int32.ofInt 1) - me)) ((Int32.ofInt 0))) = 0) from c4)] at hq
        replace hp := hp.2 c4
        refine g_blk hz0 kX0_isForced_56 ?_
        refine g_le (L2 := [some (.ref 0), some (.ref 16), some (.int me), some (.int (Int32.ofInt 1)), some (.int (Int32.ofInt 0)), some (.int (Int32.ofInt 0)), none, none]) ⟨rfl, rfl, rfl, rfl, rfl, rfl, trivial⟩ ?_
        exact l_X0_isForced_c1_59 sc zq 4000000000 o h s p me ((Int32.ofInt 0)) ((Int32.ofInt 0)) hp hq
      · rw [if_pos (show (f_X0_canBeTaken (f_X3_menOf s p ((Int32.ofInt 1) - me)) ((Int32.ofInt 0))) = 0 from c4)] at hq
        refine g_blk hz0 kX0_isForced_54 ?_
        subst hq
        exact ⟨fun _ => Or.inl rfl, rfl, rfl⟩
    · rw [if_pos (show (f_X3_onTurn s p) = me from c2)] at hq
      replace hp := hp.1 c2
      refine g_blk hz0 kX0_isForced_18 ?_
      refine g_blk hz0 kX0_isForced_23 ?_
      refine cVp [16, 17, 18, 19, 20, 21, 22, 23, 24, 25, 26, 27] (wP s p) (s_X3_menOf s p ((Int32.ofInt 1) - me) hp.1) rfl cwX3_menOf dX0_isForced_29 rfl rfl (hm24_HP_P _ _ _ _) ?_
      replace hp := hp.2
      refine g_blk hz0 kX0_isForced_32 ?_
      refine ⟨fun c => absurd c (by decide), fun _ => ?_⟩
      refine g_blk hz0 kX0_isForced_37 ?_
      refine ⟨by decide, ?_⟩
      refine cS0 (s_X0_canBeTaken (f_X3_menOf s p ((Int32.ofInt 1) - me)) ((Int32.ofInt 1))) rfl cwX0_canBeTaken dX0_isForced_48 rfl ?_
      refine g_blk hz0 kX0_isForced_51 ?_
      refine ⟨fun c3 => ?_, fun c3 => ?_⟩
      · rw [if_neg (show ¬ ((f_X0_canBeTaken (f_X3_menOf s p ((Int32.ofInt 1) - me)) ((Int32.ofInt 1))) = 0) from c3)] at hq
        replace hp := hp.2 c3
        refine g_blk hz0 kX0_isForced_56 ?_
        refine g_le (L2 := [some (.ref 0), some (.ref 16), some (.int me), some (.int (Int32.ofInt 1)), some (.int (Int32.ofInt 1)), some (.int (Int32.ofInt 0)), none, none]) ⟨rfl, rfl, rfl, rfl, rfl, rfl, trivial⟩ ?_
        exact l_X0_isForced_c1_59 sc zq 4000000000 o h s p me ((Int32.ofInt 1)) ((Int32.ofInt 0)) hp hq
      · rw [if_pos (show (f_X0_canBeTaken (f_X3_menOf s p ((Int32.ofInt 1) - me)) ((Int32.ofInt 1))) = 0 from c3)] at hq
        refine g_blk hz0 kX0_isForced_54 ?_
        subst hq
        exact ⟨fun _ => Or.inl rfl, rfl, rfl⟩
  · rw [if_pos (show (f_X3_winner s p) = me from c1)] at hq
    refine g_blk hz0 kX0_isForced_8 ?_
    subst hq
    exact ⟨fun _ => Or.inr rfl, rfl, rfl⟩

set_option maxHeartbeats 16000000 in
theorem hm30_HP_P8 (o : Rec) (h : Rec) (s : Rec) (p : Rec) : [16, 17, 18, 19, 20, 21, 22, 23, 24, 25, 26, 27, 14].map (lk (wHP o h s p)) = (wP8 s p ((fun _ => 0, fun _ => h.2 202) : Rec)).map (fun e => some (ren [16, 17, 18, 19, 20, 21, 22, 23, 24, 25, 26, 27, 14] e)) := rfl
set_option maxHeartbeats 16000000 in
theorem pw47_HP_P8 (o : Rec) (h : Rec) (s : Rec) (p : Rec) (a9 : Rec) : putW (wHP o h s p) [16, 17, 18, 19, 20, 21, 22, 23, 24, 25, 26, 27, 14] ((wP8 s p a9).map (ren [16, 17, 18, 19, 20, 21, 22, 23, 24, 25, 26, 27, 14])) = (wHP o (setA h 202 (a9.2 0)) s p) := rfl
set_option maxHeartbeats 16000000 in
theorem hm31_HP_PA (o : Rec) (h : Rec) (s : Rec) (p : Rec) : [16, 17, 18, 19, 20, 21, 22, 23, 24, 25, 26, 27, 9].map (lk (wHP o h s p)) = (wPA s p ((fun _ => 0, fun _ => h.2 102) : Rec)).map (fun e => some (ren [16, 17, 18, 19, 20, 21, 22, 23, 24, 25, 26, 27, 9] e)) := rfl
set_option maxHeartbeats 16000000 in
theorem pw48_HP_PA (o : Rec) (h : Rec) (s : Rec) (p : Rec) (a9 : Rec) : putW (wHP o h s p) [16, 17, 18, 19, 20, 21, 22, 23, 24, 25, 26, 27, 9] ((wPA s p a9).map (ren [16, 17, 18, 19, 20, 21, 22, 23, 24, 25, 26, 27, 9])) = (wHP o (setA h 102 (a9.2 0)) s p) := rfl
set_option maxHeartbeats 16000000 in
theorem pw49_HP_PA (o : Rec) (h : Rec) (s : Rec) (p : Rec) (s9 : Rec) (p9 : Rec) : putW (wHP o h s p) [16, 17, 18, 19, 20, 21, 22, 23, 24, 25, 26, 27, 9] ((wPA s9 p9 ((fun _ => 0, fun _ => h.2 102) : Rec)).map (ren [16, 17, 18, 19, 20, 21, 22, 23, 24, 25, 26, 27, 9])) = (wHP o h s9 p9) := rfl
def f_X0_firstStep_c2_48  : Nat → Rec → Rec → Rec → Rec → Int32 → Int32 → Int32 → Int32 → Int32 → Int32 × Rec × Rec × Rec × Rec
  | 0, o, h, s, p, v2, v4, v6, v7, v8 => (0, o, h, s, p)
  | n + 1, o, h, s, p, v2, v4, v6, v7, v8 => if v6 ≤ v8 then (v7, o, h, s, p) else (if (f_X4_has s ((p.2 4) (Int32.toNatClampNeg ((h.2 202) (Int32.toNatClampNeg (v8 / (Int32.ofInt 8))))))) = 0 then (f_X0_firstStep_c2_48 n o h s p v2 v4 v6 v7 (v8 + (Int32.ofInt 1))) else (if (f_X3_goalOf s p ((s.2 10) (Int32.toNatClampNeg ((p.2 4) (Int32.toNatClampNeg ((h.2 202) (Int32.toNatClampNeg (v8 / (Int32.ofInt 8)))))))) ((s.2 11) (Int32.toNatClampNeg ((p.2 4) (Int32.toNatClampNeg ((h.2 202) (Int32.toNatClampNeg (v8 / (Int32.ofInt 8)))))))) (f_X0_wayOf v8) (f_X0_farOf v8)) = (Int32.ofInt (-1)) then (f_X0_firstStep_c2_48 n o h s p v2 v4 v6 v7 (v8 + (Int32.ofInt 1))) else (if ((f_X0_isForced_c1 o h ((f_X3_carry s p ((h.2 202) (Int32.toNatClampNeg (v8 / (Int32.ofInt 8)))) (f_X3_goalOf s p ((s.2 10) (Int32.toNatClampNeg ((p.2 4) (Int32.toNatClampNeg ((h.2 202) (Int32.toNatClampNeg (v8 / (Int32.ofInt 8)))))))) ((s.2 11) (Int32.toNatClampNeg ((p.2 4) (Int32.toNatClampNeg ((h.2 202) (Int32.toNatClampNeg (v8 / (Int32.ofInt 8)))))))) (f_X0_wayOf v8) (f_X0_farOf v8))).2.1) ((f_X3_carry s p ((h.2 202) (Int32.toNatClampNeg (v8 / (Int32.ofInt 8)))) (f_X3_goalOf s p ((s.2 10) (Int32.toNatClampNeg ((p.2 4) (Int32.toNatClampNeg ((h.2 202) (Int32.toNatClampNeg (v8 / (Int32.ofInt 8)))))))) ((s.2 11) (Int32.toNatClampNeg ((p.2 4) (Int32.toNatClampNeg ((h.2 202) (Int32.toNatClampNeg (v8 / (Int32.ofInt 8)))))))) (f_X0_wayOf v8) (f_X0_farOf v8))).2.2) v2).1) = v4 then (v8, ((f_X0_isForced_c1 o h ((f_X3_carry s p ((h.2 202) (Int32.toNatClampNeg (v8 / (Int32.ofInt 8)))) (f_X3_goalOf s p ((s.2 10) (Int32.toNatClampNeg ((p.2 4) (Int32.toNatClampNeg ((h.2 202) (Int32.toNatClampNeg (v8 / (Int32.ofInt 8)))))))) ((s.2 11) (Int32.toNatClampNeg ((p.2 4) (Int32.toNatClampNeg ((h.2 202) (Int32.toNatClampNeg (v8 / (Int32.ofInt 8)))))))) (f_X0_wayOf v8) (f_X0_farOf v8))).2.1) ((f_X3_carry s p ((h.2 202) (Int32.toNatClampNeg (v8 / (Int32.ofInt 8)))) (f_X3_goalOf s p ((s.2 10) (Int32.toNatClampNeg ((p.2 4) (Int32.toNatClampNeg ((h.2 202) (Int32.toNatClampNeg (v8 / (Int32.ofInt 8)))))))) ((s.2 11) (Int32.toNatClampNeg ((p.2 4) (Int32.toNatClampNeg ((h.2 202) (Int32.toNatClampNeg (v8 / (Int32.ofInt 8)))))))) (f_X0_wayOf v8) (f_X0_farOf v8))).2.2) v2).2.1), ((f_X0_isForced_c1 o h ((f_X3_carry s p ((h.2 202) (Int32.toNatClampNeg (v8 / (Int32.ofInt 8)))) (f_X3_goalOf s p ((s.2 10) (Int32.toNatClampNeg ((p.2 4) (Int32.toNatClampNeg ((h.2 202) (Int32.toNatClampNeg (v8 / (Int32.ofInt 8)))))))) ((s.2 11) (Int32.toNatClampNeg ((p.2 4) (Int32.toNatClampNeg ((h.2 202) (Int32.toNatClampNeg (v8 / (Int32.ofInt 8)))))))) (f_X0_wayOf v8) (f_X0_farOf v8))).2.1) ((f_X3_carry s p ((h.2 202) (Int32.toNatClampNeg (v8 / (Int32.ofInt 8)))) (f_X3_goalOf s p ((s.2 10) (Int32.toNatClampNeg ((p.2 4) (Int32.toNatClampNeg ((h.2 202) (Int32.toNatClampNeg (v8 / (Int32.ofInt 8)))))))) ((s.2 11) (Int32.toNatClampNeg ((p.2 4) (Int32.toNatClampNeg ((h.2 202) (Int32.toNatClampNeg (v8 / (Int32.ofInt 8)))))))) (f_X0_wayOf v8) (f_X0_farOf v8))).2.2) v2).2.2.1), ((f_X3_load ((f_X0_isForced_c1 o h ((f_X3_carry s p ((h.2 202) (Int32.toNatClampNeg (v8 / (Int32.ofInt 8)))) (f_X3_goalOf s p ((s.2 10) (Int32.toNatClampNeg ((p.2 4) (Int32.toNatClampNeg ((h.2 202) (Int32.toNatClampNeg (v8 / (Int32.ofInt 8)))))))) ((s.2 11) (Int32.toNatClampNeg ((p.2 4) (Int32.toNatClampNeg ((h.2 202) (Int32.toNatClampNeg (v8 / (Int32.ofInt 8)))))))) (f_X0_wayOf v8) (f_X0_farOf v8))).2.1) ((f_X3_carry s p ((h.2 202) (Int32.toNatClampNeg (v8 / (Int32.ofInt 8)))) (f_X3_goalOf s p ((s.2 10) (Int32.toNatClampNeg ((p.2 4) (Int32.toNatClampNeg ((h.2 202) (Int32.toNatClampNeg (v8 / (Int32.ofInt 8)))))))) ((s.2 11) (Int32.toNatClampNeg ((p.2 4) (Int32.toNatClampNeg ((h.2 202) (Int32.toNatClampNeg (v8 / (Int32.ofInt 8)))))))) (f_X0_wayOf v8) (f_X0_farOf v8))).2.2) v2).2.2.2.1) ((f_X0_isForced_c1 o h ((f_X3_carry s p ((h.2 202) (Int32.toNatClampNeg (v8 / (Int32.ofInt 8)))) (f_X3_goalOf s p ((s.2 10) (Int32.toNatClampNeg ((p.2 4) (Int32.toNatClampNeg ((h.2 202) (Int32.toNatClampNeg (v8 / (Int32.ofInt 8)))))))) ((s.2 11) (Int32.toNatClampNeg ((p.2 4) (Int32.toNatClampNeg ((h.2 202) (Int32.toNatClampNeg (v8 / (Int32.ofInt 8)))))))) (f_X0_wayOf v8) (f_X0_farOf v8))).2.1) ((f_X3_carry s p ((h.2 202) (Int32.toNatClampNeg (v8 / (Int32.ofInt 8)))) (f_X3_goalOf s p ((s.2 10) (Int32.toNatClampNeg ((p.2 4) (Int32.toNatClampNeg ((h.2 202) (Int32.toNatClampNeg (v8 / (Int32.ofInt 8)))))))) ((s.2 11) (Int32.toNatClampNeg ((p.2 4) (Int32.toNatClampNeg ((h.2 202) (Int32.toNatClampNeg (v8 / (Int32.ofInt 8)))))))) (f_X0_wayOf v8) (f_X0_farOf v8))).2.2) v2).2.2.2.2) ((fun _ => 0, fun _ => (((f_X0_isForced_c1 o h ((f_X3_carry s p ((h.2 202) (Int32.toNatClampNeg (v8 / (Int32.ofInt 8)))) (f_X3_goalOf s p ((s.2 10) (Int32.toNatClampNeg ((p.2 4) (Int32.toNatClampNeg ((h.2 202) (Int32.toNatClampNeg (v8 / (Int32.ofInt 8)))))))) ((s.2 11) (Int32.toNatClampNeg ((p.2 4) (Int32.toNatClampNeg ((h.2 202) (Int32.toNatClampNeg (v8 / (Int32.ofInt 8)))))))) (f_X0_wayOf v8) (f_X0_farOf v8))).2.1) ((f_X3_carry s p ((h.2 202) (Int32.toNatClampNeg (v8 / (Int32.ofInt 8)))) (f_X3_goalOf s p ((s.2 10) (Int32.toNatClampNeg ((p.2 4) (Int32.toNatClampNeg ((h.2 202) (Int32.toNatClampNeg (v8 / (Int32.ofInt 8)))))))) ((s.2 11) (Int32.toNatClampNeg ((p.2 4) (Int32.toNatClampNeg ((h.2 202) (Int32.toNatClampNeg (v8 / (Int32.ofInt 8)))))))) (f_X0_wayOf v8) (f_X0_farOf v8))).2.2) v2).2.2.1).2 102)) : Rec)).1), ((f_X3_load ((f_X0_isForced_c1 o h ((f_X3_carry s p ((h.2 202) (Int32.toNatClampNeg (v8 / (Int32.ofInt 8)))) (f_X3_goalOf s p ((s.2 10) (Int32.toNatClampNeg ((p.2 4) (Int32.toNatClampNeg ((h.2 202) (Int32.toNatClampNeg (v8 / (Int32.ofInt 8)))))))) ((s.2 11) (Int32.toNatClampNeg ((p.2 4) (Int32.toNatClampNeg ((h.2 202) (Int32.toNatClampNeg (v8 / (Int32.ofInt 8)))))))) (f_X0_wayOf v8) (f_X0_farOf v8))).2.1) ((f_X3_carry s p ((h.2 202) (Int32.toNatClampNeg (v8 / (Int32.ofInt 8)))) (f_X3_goalOf s p ((s.2 10) (Int32.toNatClampNeg ((p.2 4) (Int32.toNatClampNeg ((h.2 202) (Int32.toNatClampNeg (v8 / (Int32.ofInt 8)))))))) ((s.2 11) (Int32.toNatClampNeg ((p.2 4) (Int32.toNatClampNeg ((h.2 202) (Int32.toNatClampNeg (v8 / (Int32.ofInt 8)))))))) (f_X0_wayOf v8) (f_X0_farOf v8))).2.2) v2).2.2.2.1) ((f_X0_isForced_c1 o h ((f_X3_carry s p ((h.2 202) (Int32.toNatClampNeg (v8 / (Int32.ofInt 8)))) (f_X3_goalOf s p ((s.2 10) (Int32.toNatClampNeg ((p.2 4) (Int32.toNatClampNeg ((h.2 202) (Int32.toNatClampNeg (v8 / (Int32.ofInt 8)))))))) ((s.2 11) (Int32.toNatClampNeg ((p.2 4) (Int32.toNatClampNeg ((h.2 202) (Int32.toNatClampNeg (v8 / (Int32.ofInt 8)))))))) (f_X0_wayOf v8) (f_X0_farOf v8))).2.1) ((f_X3_carry s p ((h.2 202) (Int32.toNatClampNeg (v8 / (Int32.ofInt 8)))) (f_X3_goalOf s p ((s.2 10) (Int32.toNatClampNeg ((p.2 4) (Int32.toNatClampNeg ((h.2 202) (Int32.toNatClampNeg (v8 / (Int32.ofInt 8)))))))) ((s.2 11) (Int32.toNatClampNeg ((p.2 4) (Int32.toNatClampNeg ((h.2 202) (Int32.toNatClampNeg (v8 / (Int32.ofInt 8)))))))) (f_X0_wayOf v8) (f_X0_farOf v8))).2.2) v2).2.2.2.2) ((fun _ => 0, fun _ => (((f_X0_isForced_c1 o h ((f_X3_carry s p ((h.2 202) (Int32.toNatClampNeg (v8 / (Int32.ofInt 8)))) (f_X3_goalOf s p ((s.2 10) (Int32.toNatClampNeg ((p.2 4) (Int32.toNatClampNeg ((h.2 202) (Int32.toNatClampNeg (v8 / (Int32.ofInt 8)))))))) ((s.2 11) (Int32.toNatClampNeg ((p.2 4) (Int32.toNatClampNeg ((h.2 202) (Int32.toNatClampNeg (v8 / (Int32.ofInt 8)))))))) (f_X0_wayOf v8) (f_X0_farOf v8))).2.1) ((f_X3_carry s p ((h.2 202) (Int32.toNatClampNeg (v8 / (Int32.ofInt 8)))) (f_X3_goalOf s p ((s.2 10) (Int32.toNatClampNeg ((p.2 4) (Int32.toNatClampNeg ((h.2 202) (Int32.toNatClampNeg (v8 / (Int32.ofInt 8)))))))) ((s.2 11) (Int32.toNatClampNeg ((p.2 4) (Int32.toNatClampNeg ((h.2 202) (Int32.toNatClampNeg (v8 / (Int32.ofInt 8)))))))) (f_X0_wayOf v8) (f_X0_farOf v8))).2.2) v2).2.2.1).2 102)) : Rec)).2)) else (f_X0_firstStep_c2_48 n ((f_X0_isForced_c1 o h ((f_X3_carry s p ((h.2 202) (Int32.toNatClampNeg (v8 / (Int32.ofInt 8)))) (f_X3_goalOf s p ((s.2 10) (Int32.toNatClampNeg ((p.2 4) (Int32.toNatClampNeg ((h.2 202) (Int32.toNatClampNeg (v8 / (Int32.ofInt 8)))))))) ((s.2 11) (Int32.toNatClampNeg ((p.2 4) (Int32.toNatClampNeg ((h.2 202) (Int32.toNatClampNeg (v8 / (Int32.ofInt 8)))))))) (f_X0_wayOf v8) (f_X0_farOf v8))).2.1) ((f_X3_carry s p ((h.2 202) (Int32.toNatClampNeg (v8 / (Int32.ofInt 8)))) (f_X3_goalOf s p ((s.2 10) (Int32.toNatClampNeg ((p.2 4) (Int32.toNatClampNeg ((h.2 202) (Int32.toNatClampNeg (v8 / (Int32.ofInt 8)))))))) ((s.2 11) (Int32.toNatClampNeg ((p.2 4) (Int32.toNatClampNeg ((h.2 202) (Int32.toNatClampNeg (v8 / (Int32.ofInt 8)))))))) (f_X0_wayOf v8) (f_X0_farOf v8))).2.2) v2).2.1) ((f_X0_isForced_c1 o h ((f_X3_carry s p ((h.2 202) (Int32.toNatClampNeg (v8 / (Int32.ofInt 8)))) (f_X3_goalOf s p ((s.2 10) (Int32.toNatClampNeg ((p.2 4) (Int32.toNatClampNeg ((h.2 202) (Int32.toNatClampNeg (v8 / (Int32.ofInt 8)))))))) ((s.2 11) (Int32.toNatClampNeg ((p.2 4) (Int32.toNatClampNeg ((h.2 202) (Int32.toNatClampNeg (v8 / (Int32.ofInt 8)))))))) (f_X0_wayOf v8) (f_X0_farOf v8))).2.1) ((f_X3_carry s p ((h.2 202) (Int32.toNatClampNeg (v8 / (Int32.ofInt 8)))) (f_X3_goalOf s p ((s.2 10) (Int32.toNatClampNeg ((p.2 4) (Int32.toNatClampNeg ((h.2 202) (Int32.toNatClampNeg (v8 / (Int32.ofInt 8)))))))) ((s.2 11) (Int32.toNatClampNeg ((p.2 4) (Int32.toNatClampNeg ((h.2 202) (Int32.toNatClampNeg (v8 / (Int32.ofInt 8)))))))) (f_X0_wayOf v8) (f_X0_farOf v8))).2.2) v2).2.2.1) ((f_X3_load ((f_X0_isForced_c1 o h ((f_X3_carry s p ((h.2 202) (Int32.toNatClampNeg (v8 / (Int32.ofInt 8)))) (f_X3_goalOf s p ((s.2 10) (Int32.toNatClampNeg ((p.2 4) (Int32.toNatClampNeg ((h.2 202) (Int32.toNatClampNeg (v8 / (Int32.ofInt 8)))))))) ((s.2 11) (Int32.toNatClampNeg ((p.2 4) (Int32.toNatClampNeg ((h.2 202) (Int32.toNatClampNeg (v8 / (Int32.ofInt 8)))))))) (f_X0_wayOf v8) (f_X0_farOf v8))).2.1) ((f_X3_carry s p ((h.2 202) (Int32.toNatClampNeg (v8 / (Int32.ofInt 8)))) (f_X3_goalOf s p ((s.2 10) (Int32.toNatClampNeg ((p.2 4) (Int32.toNatClampNeg ((h.2 202) (Int32.toNatClampNeg (v8 / (Int32.ofInt 8)))))))) ((s.2 11) (Int32.toNatClampNeg ((p.2 4) (Int32.toNatClampNeg ((h.2 202) (Int32.toNatClampNeg (v8 / (Int32.ofInt 8)))))))) (f_X0_wayOf v8) (f_X0_farOf v8))).2.2) v2).2.2.2.1) ((f_X0_isForced_c1 o h ((f_X3_carry s p ((h.2 202) (Int32.toNatClampNeg (v8 / (Int32.ofInt 8)))) (f_X3_goalOf s p ((s.2 10) (Int32.toNatClampNeg ((p.2 4) (Int32.toNatClampNeg ((h.2 202) (Int32.toNatClampNeg (v8 / (Int32.ofInt 8)))))))) ((s.2 11) (Int32.toNatClampNeg ((p.2 4) (Int32.toNatClampNeg ((h.2 202) (Int32.toNatClampNeg (v8 / (Int32.ofInt 8)))))))) (f_X0_wayOf v8) (f_X0_farOf v8))).2.1) ((f_X3_carry s p ((h.2 202) (Int32.toNatClampNeg (v8 / (Int32.ofInt 8)))) (f_X3_goalOf s p ((s.2 10) (Int32.toNatClampNeg ((p.2 4) (Int32.toNatClampNeg ((h.2 202) (Int32.toNatClampNeg (v8 / (Int32.ofInt 8)))))))) ((s.2 11) (Int32.toNatClampNeg ((p.2 4) (Int32.toNatClampNeg ((h.2 202) (Int32.toNatClampNeg (v8 / (Int32.ofInt 8)))))))) (f_X0_wayOf v8) (f_X0_farOf v8))).2.2) v2).2.2.2.2) ((fun _ => 0, fun _ => (((f_X0_isForced_c1 o h ((f_X3_carry s p ((h.2 202) (Int32.toNatClampNeg (v8 / (Int32.ofInt 8)))) (f_X3_goalOf s p ((s.2 10) (Int32.toNatClampNeg ((p.2 4) (Int32.toNatClampNeg ((h.2 202) (Int32.toNatClampNeg (v8 / (Int32.ofInt 8)))))))) ((s.2 11) (Int32.toNatClampNeg ((p.2 4) (Int32.toNatClampNeg ((h.2 202) (Int32.toNatClampNeg (v8 / (Int32.ofInt 8)))))))) (f_X0_wayOf v8) (f_X0_farOf v8))).2.1) ((f_X3_carry s p ((h.2 202) (Int32.toNatClampNeg (v8 / (Int32.ofInt 8)))) (f_X3_goalOf s p ((s.2 10) (Int32.toNatClampNeg ((p.2 4) (Int32.toNatClampNeg ((h.2 202) (Int32.toNatClampNeg (v8 / (Int32.ofInt 8)))))))) ((s.2 11) (Int32.toNatClampNeg ((p.2 4) (Int32.toNatClampNeg ((h.2 202) (Int32.toNatClampNeg (v8 / (Int32.ofInt 8)))))))) (f_X0_wayOf v8) (f_X0_farOf v8))).2.2) v2).2.2.1).2 102)) : Rec)).1) ((f_X3_load ((f_X0_isForced_c1 o h ((f_X3_carry s p ((h.2 202) (Int32.toNatClampNeg (v8 / (Int32.ofInt 8)))) (f_X3_goalOf s p ((s.2 10) (Int32.toNatClampNeg ((p.2 4) (Int32.toNatClampNeg ((h.2 202) (Int32.toNatClampNeg (v8 / (Int32.ofInt 8)))))))) ((s.2 11) (Int32.toNatClampNeg ((p.2 4) (Int32.toNatClampNeg ((h.2 202) (Int32.toNatClampNeg (v8 / (Int32.ofInt 8)))))))) (f_X0_wayOf v8) (f_X0_farOf v8))).2.1) ((f_X3_carry s p ((h.2 202) (Int32.toNatClampNeg (v8 / (Int32.ofInt 8)))) (f_X3_goalOf s p ((s.2 10) (Int32.toNatClampNeg ((p.2 4) (Int32.toNatClampNeg ((h.2 202) (Int32.toNatClampNeg (v8 / (Int32.ofInt 8)))))))) ((s.2 11) (Int32.toNatClampNeg ((p.2 4) (Int32.toNatClampNeg ((h.2 202) (Int32.toNatClampNeg (v8 / (Int32.ofInt 8)))))))) (f_X0_wayOf v8) (f_X0_farOf v8))).2.2) v2).2.2.2.1) ((f_X0_isForced_c1 o h ((f_X3_carry s p ((h.2 202) (Int32.toNatClampNeg (v8 / (Int32.ofInt 8)))) (f_X3_goalOf s p ((s.2 10) (Int32.toNatClampNeg ((p.2 4) (Int32.toNatClampNeg ((h.2 202) (Int32.toNatClampNeg (v8 / (Int32.ofInt 8)))))))) ((s.2 11) (Int32.toNatClampNeg ((p.2 4) (Int32.toNatClampNeg ((h.2 202) (Int32.toNatClampNeg (v8 / (Int32.ofInt 8)))))))) (f_X0_wayOf v8) (f_X0_farOf v8))).2.1) ((f_X3_carry s p ((h.2 202) (Int32.toNatClampNeg (v8 / (Int32.ofInt 8)))) (f_X3_goalOf s p ((s.2 10) (Int32.toNatClampNeg ((p.2 4) (Int32.toNatClampNeg ((h.2 202) (Int32.toNatClampNeg (v8 / (Int32.ofInt 8)))))))) ((s.2 11) (Int32.toNatClampNeg ((p.2 4) (Int32.toNatClampNeg ((h.2 202) (Int32.toNatClampNeg (v8 / (Int32.ofInt 8)))))))) (f_X0_wayOf v8) (f_X0_farOf v8))).2.2) v2).2.2.2.2) ((fun _ => 0, fun _ => (((f_X0_isForced_c1 o h ((f_X3_carry s p ((h.2 202) (Int32.toNatClampNeg (v8 / (Int32.ofInt 8)))) (f_X3_goalOf s p ((s.2 10) (Int32.toNatClampNeg ((p.2 4) (Int32.toNatClampNeg ((h.2 202) (Int32.toNatClampNeg (v8 / (Int32.ofInt 8)))))))) ((s.2 11) (Int32.toNatClampNeg ((p.2 4) (Int32.toNatClampNeg ((h.2 202) (Int32.toNatClampNeg (v8 / (Int32.ofInt 8)))))))) (f_X0_wayOf v8) (f_X0_farOf v8))).2.1) ((f_X3_carry s p ((h.2 202) (Int32.toNatClampNeg (v8 / (Int32.ofInt 8)))) (f_X3_goalOf s p ((s.2 10) (Int32.toNatClampNeg ((p.2 4) (Int32.toNatClampNeg ((h.2 202) (Int32.toNatClampNeg (v8 / (Int32.ofInt 8)))))))) ((s.2 11) (Int32.toNatClampNeg ((p.2 4) (Int32.toNatClampNeg ((h.2 202) (Int32.toNatClampNeg (v8 / (Int32.ofInt 8)))))))) (f_X0_wayOf v8) (f_X0_farOf v8))).2.2) v2).2.2.1).2 102)) : Rec)).2) v2 v4 v6 ((Int32.ofInt (-1))) (v8 + (Int32.ofInt 1))))))
def p_X0_firstStep_c2_48  : Nat → Rec → Rec → Rec → Rec → Int32 → Int32 → Int32 → Int32 → Int32 → Prop
  | 0, _, _, _, _, _, _, _, _, _ => False
  | n + 1, o, h, s, p, v2, v4, v6, v7, v8 => (v6 ≤ v8 → True) ∧ (¬ (v6 ≤ v8) → (vp_in (v8 / (Int32.ofInt 8)) 8 ∧ (vp_in ((h.2 202) (Int32.toNatClampNeg (v8 / (Int32.ofInt 8)))) 8 ∧ ((p_X4_has s ((p.2 4) (Int32.toNatClampNeg ((h.2 202) (Int32.toNatClampNeg (v8 / (Int32.ofInt 8))))))) ∧ (((f_X4_has s ((p.2 4) (Int32.toNatClampNeg ((h.2 202) (Int32.toNatClampNeg (v8 / (Int32.ofInt 8))))))) = 0 → (p_X0_firstStep_c2_48 n o h s p v2 v4 v6 v7 (v8 + (Int32.ofInt 1)))) ∧ (¬ ((f_X4_has s ((p.2 4) (Int32.toNatClampNeg ((h.2 202) (Int32.toNatClampNeg (v8 / (Int32.ofInt 8))))))) = 0) → (vp_in ((p.2 4) (Int32.toNatClampNeg ((h.2 202) (Int32.toNatClampNeg (v8 / (Int32.ofInt 8)))))) 36 ∧ (vp_in ((p.2 4) (Int32.toNatClampNeg ((h.2 202) (Int32.toNatClampNeg (v8 / (Int32.ofInt 8)))))) 36 ∧ ((p_X3_goalOf s p ((s.2 10) (Int32.toNatClampNeg ((p.2 4) (Int32.toNatClampNeg ((h.2 202) (Int32.toNatClampNeg (v8 / (Int32.ofInt 8)))))))) ((s.2 11) (Int32.toNatClampNeg ((p.2 4) (Int32.toNatClampNeg ((h.2 202) (Int32.toNatClampNeg (v8 / (Int32.ofInt 8)))))))) (f_X0_wayOf v8) (f_X0_farOf v8)) ∧ (((f_X3_goalOf s p ((s.2 10) (Int32.toNatClampNeg ((p.2 4) (Int32.toNatClampNeg ((h.2 202) (Int32.toNatClampNeg (v8 / (Int32.ofInt 8)))))))) ((s.2 11) (Int32.toNatClampNeg ((p.2 4) (Int32.toNatClampNeg ((h.2 202) (Int32.toNatClampNeg (v8 / (Int32.ofInt 8)))))))) (f_X0_wayOf v8) (f_X0_farOf v8)) = (Int32.ofInt (-1)) → (p_X0_firstStep_c2_48 n o h s p v2 v4 v6 v7 (v8 + (Int32.ofInt 1)))) ∧ (¬ ((f_X3_goalOf s p ((s.2 10) (Int32.toNatClampNeg ((p.2 4) (Int32.toNatClampNeg ((h.2 202) (Int32.toNatClampNeg (v8 / (Int32.ofInt 8)))))))) ((s.2 11) (Int32.toNatClampNeg ((p.2 4) (Int32.toNatClampNeg ((h.2 202) (Int32.toNatClampNeg (v8 / (Int32.ofInt 8)))))))) (f_X0_wayOf v8) (f_X0_farOf v8)) = (Int32.ofInt (-1))) → ((p_X3_carry s p ((h.2 202) (Int32.toNatClampNeg (v8 / (Int32.ofInt 8)))) (f_X3_goalOf s p ((s.2 10) (Int32.toNatClampNeg ((p.2 4) (Int32.toNatClampNeg ((h.2 202) (Int32.toNatClampNeg (v8 / (Int32.ofInt 8)))))))) ((s.2 11) (Int32.toNatClampNeg ((p.2 4) (Int32.toNatClampNeg ((h.2 202) (Int32.toNatClampNeg (v8 / (Int32.ofInt 8)))))))) (f_X0_wayOf v8) (f_X0_farOf v8))) ∧ ((p_X0_isForced_c1 o h ((f_X3_carry s p ((h.2 202) (Int32.toNatClampNeg (v8 / (Int32.ofInt 8)))) (f_X3_goalOf s p ((s.2 10) (Int32.toNatClampNeg ((p.2 4) (Int32.toNatClampNeg ((h.2 202) (Int32.toNatClampNeg (v8 / (Int32.ofInt 8)))))))) ((s.2 11) (Int32.toNatClampNeg ((p.2 4) (Int32.toNatClampNeg ((h.2 202) (Int32.toNatClampNeg (v8 / (Int32.ofInt 8)))))))) (f_X0_wayOf v8) (f_X0_farOf v8))).2.1) ((f_X3_carry s p ((h.2 202) (Int32.toNatClampNeg (v8 / (Int32.ofInt 8)))) (f_X3_goalOf s p ((s.2 10) (Int32.toNatClampNeg ((p.2 4) (Int32.toNatClampNeg ((h.2 202) (Int32.toNatClampNeg (v8 / (Int32.ofInt 8)))))))) ((s.2 11) (Int32.toNatClampNeg ((p.2 4) (Int32.toNatClampNeg ((h.2 202) (Int32.toNatClampNeg (v8 / (Int32.ofInt 8)))))))) (f_X0_wayOf v8) (f_X0_farOf v8))).2.2) v2) ∧ ((p_X3_load ((f_X0_isForced_c1 o h ((f_X3_carry s p ((h.2 202) (Int32.toNatClampNeg (v8 / (Int32.ofInt 8)))) (f_X3_goalOf s p ((s.2 10) (Int32.toNatClampNeg ((p.2 4) (Int32.toNatClampNeg ((h.2 202) (Int32.toNatClampNeg (v8 / (Int32.ofInt 8)))))))) ((s.2 11) (Int32.toNatClampNeg ((p.2 4) (Int32.toNatClampNeg ((h.2 202) (Int32.toNatClampNeg (v8 / (Int32.ofInt 8)))))))) (f_X0_wayOf v8) (f_X0_farOf v8))).2.1) ((f_X3_carry s p ((h.2 202) (Int32.toNatClampNeg (v8 / (Int32.ofInt 8)))) (f_X3_goalOf s p ((s.2 10) (Int32.toNatClampNeg ((p.2 4) (Int32.toNatClampNeg ((h.2 202) (Int32.toNatClampNeg (v8 / (Int32.ofInt 8)))))))) ((s.2 11) (Int32.toNatClampNeg ((p.2 4) (Int32.toNatClampNeg ((h.2 202) (Int32.toNatClampNeg (v8 / (Int32.ofInt 8)))))))) (f_X0_wayOf v8) (f_X0_farOf v8))).2.2) v2).2.2.2.1) ((f_X0_isForced_c1 o h ((f_X3_carry s p ((h.2 202) (Int32.toNatClampNeg (v8 / (Int32.ofInt 8)))) (f_X3_goalOf s p ((s.2 10) (Int32.toNatClampNeg ((p.2 4) (Int32.toNatClampNeg ((h.2 202) (Int32.toNatClampNeg (v8 / (Int32.ofInt 8)))))))) ((s.2 11) (Int32.toNatClampNeg ((p.2 4) (Int32.toNatClampNeg ((h.2 202) (Int32.toNatClampNeg (v8 / (Int32.ofInt 8)))))))) (f_X0_wayOf v8) (f_X0_farOf v8))).2.1) ((f_X3_carry s p ((h.2 202) (Int32.toNatClampNeg (v8 / (Int32.ofInt 8)))) (f_X3_goalOf s p ((s.2 10) (Int32.toNatClampNeg ((p.2 4) (Int32.toNatClampNeg ((h.2 202) (Int32.toNatClampNeg (v8 / (Int32.ofInt 8)))))))) ((s.2 11) (Int32.toNatClampNeg ((p.2 4) (Int32.toNatClampNeg ((h.2 202) (Int32.toNatClampNeg (v8 / (Int32.ofInt 8)))))))) (f_X0_wayOf v8) (f_X0_farOf v8))).2.2) v2).2.2.2.2) ((fun _ => 0, fun _ => (((f_X0_isForced_c1 o h ((f_X3_carry s p ((h.2 202) (Int32.toNatClampNeg (v8 / (Int32.ofInt 8)))) (f_X3_goalOf s p ((s.2 10) (Int32.toNatClampNeg ((p.2 4) (Int32.toNatClampNeg ((h.2 202) (Int32.toNatClampNeg (v8 / (Int32.ofInt 8)))))))) ((s.2 11) (Int32.toNatClampNeg ((p.2 4) (Int32.toNatClampNeg ((h.2 202) (Int32.toNatClampNeg (v8 / (Int32.ofInt 8)))))))) (f_X0_wayOf v8) (f_X0_farOf v8))).2.1) ((f_X3_carry s p ((h.2 202) (Int32.toNatClampNeg (v8 / (Int32.ofInt 8)))) (f_X3_goalOf s p ((s.2 10) (Int32.toNatClampNeg ((p.2 4) (Int32.toNatClampNeg ((h.2 202) (Int32.toNatClampNeg (v8 / (Int32.ofInt 8)))))))) ((s.2 11) (Int32.toNatClampNeg ((p.2 4) (Int32.toNatClampNeg ((h.2 202) (Int32.toNatClampNeg (v8 / (Int32.ofInt 8)))))))) (f_X0_wayOf v8) (f_X0_farOf v8))).2.2) v2).2.2.1).2 102)) : Rec)) ∧ ((((f_X0_isForced_c1 o h ((f_X3_carry s p ((h.2 202) (Int32.toNatClampNeg (v8 / (Int32.ofInt 8)))) (f_X3_goalOf s p ((s.2 10) (Int32.toNatClampNeg ((p.2 4) (Int32.toNatClampNeg ((h.2 202) (Int32.toNatClampNeg (v8 / (Int32.ofInt 8)))))))) ((s.2 11) (Int32.toNatClampNeg ((p.2 4) (Int32.toNatClampNeg ((h.2 202) (Int32.toNatClampNeg (v8 / (Int32.ofInt 8)))))))) (f_X0_wayOf v8) (f_X0_farOf v8))).2.1) ((f_X3_carry s p ((h.2 202) (Int32.toNatClampNeg (v8 / (Int32.ofInt 8)))) (f_X3_goalOf s p ((s.2 10) (Int32.toNatClampNeg ((p.2 4) (Int32.toNatClampNeg ((h.2 202) (Int32.toNatClampNeg (v8 / (Int32.ofInt 8)))))))) ((s.2 11) (Int32.toNatClampNeg ((p.2 4) (Int32.toNatClampNeg ((h.2 202) (Int32.toNatClampNeg (v8 / (Int32.ofInt 8)))))))) (f_X0_wayOf v8) (f_X0_farOf v8))).2.2) v2).1) = v4 → True) ∧ (¬ (((f_X0_isForced_c1 o h ((f_X3_carry s p ((h.2 202) (Int32.toNatClampNeg (v8 / (Int32.ofInt 8)))) (f_X3_goalOf s p ((s.2 10) (Int32.toNatClampNeg ((p.2 4) (Int32.toNatClampNeg ((h.2 202) (Int32.toNatClampNeg (v8 / (Int32.ofInt 8)))))))) ((s.2 11) (Int32.toNatClampNeg ((p.2 4) (Int32.toNatClampNeg ((h.2 202) (Int32.toNatClampNeg (v8 / (Int32.ofInt 8)))))))) (f_X0_wayOf v8) (f_X0_farOf v8))).2.1) ((f_X3_carry s p ((h.2 202) (Int32.toNatClampNeg (v8 / (Int32.ofInt 8)))) (f_X3_goalOf s p ((s.2 10) (Int32.toNatClampNeg ((p.2 4) (Int32.toNatClampNeg ((h.2 202) (Int32.toNatClampNeg (v8 / (Int32.ofInt 8)))))))) ((s.2 11) (Int32.toNatClampNeg ((p.2 4) (Int32.toNatClampNeg ((h.2 202) (Int32.toNatClampNeg (v8 / (Int32.ofInt 8)))))))) (f_X0_wayOf v8) (f_X0_farOf v8))).2.2) v2).1) = v4) → (p_X0_firstStep_c2_48 n ((f_X0_isForced_c1 o h ((f_X3_carry s p ((h.2 202) (Int32.toNatClampNeg (v8 / (Int32.ofInt 8)))) (f_X3_goalOf s p ((s.2 10) (Int32.toNatClampNeg ((p.2 4) (Int32.toNatClampNeg ((h.2 202) (Int32.toNatClampNeg (v8 / (Int32.ofInt 8)))))))) ((s.2 11) (Int32.toNatClampNeg ((p.2 4) (Int32.toNatClampNeg ((h.2 202) (Int32.toNatClampNeg (v8 / (Int32.ofInt 8)))))))) (f_X0_wayOf v8) (f_X0_farOf v8))).2.1) ((f_X3_carry s p ((h.2 202) (Int32.toNatClampNeg (v8 / (Int32.ofInt 8)))) (f_X3_goalOf s p ((s.2 10) (Int32.toNatClampNeg ((p.2 4) (Int32.toNatClampNeg ((h.2 202) (Int32.toNatClampNeg (v8 / (Int32.ofInt 8)))))))) ((s.2 11) (Int32.toNatClampNeg ((p.2 4) (Int32.toNatClampNeg ((h.2 202) (Int32.toNatClampNeg (v8 / (Int32.ofInt 8)))))))) (f_X0_wayOf v8) (f_X0_farOf v8))).2.2) v2).2.1) ((f_X0_isForced_c1 o h ((f_X3_carry s p ((h.2 202) (Int32.toNatClampNeg (v8 / (Int32.ofInt 8)))) (f_X3_goalOf s p ((s.2 10) (Int32.toNatClampNeg ((p.2 4) (Int32.toNatClampNeg ((h.2 202) (Int32.toNatClampNeg (v8 / (Int32.ofInt 8)))))))) ((s.2 11) (Int32.toNatClampNeg ((p.2 4) (Int32.toNatClampNeg ((h.2 202) (Int32.toNatClampNeg (v8 / (Int32.ofInt 8)))))))) (f_X0_wayOf v8) (f_X0_farOf v8))).2.1) ((f_X3_carry s p ((h.2 202) (Int32.toNatClampNeg (v8 / (Int32.ofInt 8)))) (f_X3_goalOf s p ((s.2 10) (Int32.toNatClampNeg ((p.2 4) (Int32.toNatClampNeg ((h.2 202) (Int32.toNatClampNeg (v8 / (Int32.ofInt 8)))))))) ((s.2 11) (Int32.toNatClampNeg ((p.2 4) (Int32.toNatClampNeg ((h.2 202) (Int32.toNatClampNeg (v8 / (Int32.ofInt 8)))))))) (f_X0_wayOf v8) (f_X0_farOf v8))).2.2) v2).2.2.1) ((f_X3_load ((f_X0_isForced_c1 o h ((f_X3_carry s p ((h.2 202) (Int32.toNatClampNeg (v8 / (Int32.ofInt 8)))) (f_X3_goalOf s p ((s.2 10) (Int32.toNatClampNeg ((p.2 4) (Int32.toNatClampNeg ((h.2 202) (Int32.toNatClampNeg (v8 / (Int32.ofInt 8)))))))) ((s.2 11) (Int32.toNatClampNeg ((p.2 4) (Int32.toNatClampNeg ((h.2 202) (Int32.toNatClampNeg (v8 / (Int32.ofInt 8)))))))) (f_X0_wayOf v8) (f_X0_farOf v8))).2.1) ((f_X3_carry s p ((h.2 202) (Int32.toNatClampNeg (v8 / (Int32.ofInt 8)))) (f_X3_goalOf s p ((s.2 10) (Int32.toNatClampNeg ((p.2 4) (Int32.toNatClampNeg ((h.2 202) (Int32.toNatClampNeg (v8 / (Int32.ofInt 8)))))))) ((s.2 11) (Int32.toNatClampNeg ((p.2 4) (Int32.toNatClampNeg ((h.2 202) (Int32.toNatClampNeg (v8 / (Int32.ofInt 8)))))))) (f_X0_wayOf v8) (f_X0_farOf v8))).2.2) v2).2.2.2.1) ((f_X0_isForced_c1 o h ((f_X3_carry s p ((h.2 202) (Int32.toNatClampNeg (v8 / (Int32.ofInt 8)))) (f_X3_goalOf s p ((s.2 10) (Int32.toNatClampNeg ((p.2 4) (Int32.toNatClampNeg ((h.2 202) (Int32.toNatClampNeg (v8 / (Int32.ofInt 8)))))))) ((s.2 11) (Int32.toNatClampNeg ((p.2 4) (Int32.toNatClampNeg ((h.2 202) (Int32.toNatClampNeg (v8 / (Int32.ofInt 8)))))))) (f_X0_wayOf v8) (f_X0_farOf v8))).2.1) ((f_X3_carry s p ((h.2 202) (Int32.toNatClampNeg (v8 / (Int32.ofInt 8)))) (f_X3_goalOf s p ((s.2 10) (Int32.toNatClampNeg ((p.2 4) (Int32.toNatClampNeg ((h.2 202) (Int32.toNatClampNeg (v8 / (Int32.ofInt 8)))))))) ((s.2 11) (Int32.toNatClampNeg ((p.2 4) (Int32.toNatClampNeg ((h.2 202) (Int32.toNatClampNeg (v8 / (Int32.ofInt 8)))))))) (f_X0_wayOf v8) (f_X0_farOf v8))).2.2) v2).2.2.2.2) ((fun _ => 0, fun _ => (((f_X0_isForced_c1 o h ((f_X3_carry s p ((h.2 202) (Int32.toNatClampNeg (v8 / (Int32.ofInt 8)))) (f_X3_goalOf s p ((s.2 10) (Int32.toNatClampNeg ((p.2 4) (Int32.toNatClampNeg ((h.2 202) (Int32.toNatClampNeg (v8 / (Int32.ofInt 8)))))))) ((s.2 11) (Int32.toNatClampNeg ((p.2 4) (Int32.toNatClampNeg ((h.2 202) (Int32.toNatClampNeg (v8 / (Int32.ofInt 8)))))))) (f_X0_wayOf v8) (f_X0_farOf v8))).2.1) ((f_X3_carry s p ((h.2 202) (Int32.toNatClampNeg (v8 / (Int32.ofInt 8)))) (f_X3_goalOf s p ((s.2 10) (Int32.toNatClampNeg ((p.2 4) (Int32.toNatClampNeg ((h.2 202) (Int32.toNatClampNeg (v8 / (Int32.ofInt 8)))))))) ((s.2 11) (Int32.toNatClampNeg ((p.2 4) (Int32.toNatClampNeg ((h.2 202) (Int32.toNatClampNeg (v8 / (Int32.ofInt 8)))))))) (f_X0_wayOf v8) (f_X0_farOf v8))).2.2) v2).2.2.1).2 102)) : Rec)).1) ((f_X3_load ((f_X0_isForced_c1 o h ((f_X3_carry s p ((h.2 202) (Int32.toNatClampNeg (v8 / (Int32.ofInt 8)))) (f_X3_goalOf s p ((s.2 10) (Int32.toNatClampNeg ((p.2 4) (Int32.toNatClampNeg ((h.2 202) (Int32.toNatClampNeg (v8 / (Int32.ofInt 8)))))))) ((s.2 11) (Int32.toNatClampNeg ((p.2 4) (Int32.toNatClampNeg ((h.2 202) (Int32.toNatClampNeg (v8 / (Int32.ofInt 8)))))))) (f_X0_wayOf v8) (f_X0_farOf v8))).2.1) ((f_X3_carry s p ((h.2 202) (Int32.toNatClampNeg (v8 / (Int32.ofInt 8)))) (f_X3_goalOf s p ((s.2 10) (Int32.toNatClampNeg ((p.2 4) (Int32.toNatClampNeg ((h.2 202) (Int32.toNatClampNeg (v8 / (Int32.ofInt 8)))))))) ((s.2 11) (Int32.toNatClampNeg ((p.2 4) (Int32.toNatClampNeg ((h.2 202) (Int32.toNatClampNeg (v8 / (Int32.ofInt 8)))))))) (f_X0_wayOf v8) (f_X0_farOf v8))).2.2) v2).2.2.2.1) ((f_X0_isForced_c1 o h ((f_X3_carry s p ((h.2 202) (Int32.toNatClampNeg (v8 / (Int32.ofInt 8)))) (f_X3_goalOf s p ((s.2 10) (Int32.toNatClampNeg ((p.2 4) (Int32.toNatClampNeg ((h.2 202) (Int32.toNatClampNeg (v8 / (Int32.ofInt 8)))))))) ((s.2 11) (Int32.toNatClampNeg ((p.2 4) (Int32.toNatClampNeg ((h.2 202) (Int32.toNatClampNeg (v8 / (Int32.ofInt 8)))))))) (f_X0_wayOf v8) (f_X0_farOf v8))).2.1) ((f_X3_carry s p ((h.2 202) (Int32.toNatClampNeg (v8 / (Int32.ofInt 8)))) (f_X3_goalOf s p ((s.2 10) (Int32.toNatClampNeg ((p.2 4) (Int32.toNatClampNeg ((h.2 202) (Int32.toNatClampNeg (v8 / (Int32.ofInt 8)))))))) ((s.2 11) (Int32.toNatClampNeg ((p.2 4) (Int32.toNatClampNeg ((h.2 202) (Int32.toNatClampNeg (v8 / (Int32.ofInt 8)))))))) (f_X0_wayOf v8) (f_X0_farOf v8))).2.2) v2).2.2.2.2) ((fun _ => 0, fun _ => (((f_X0_isForced_c1 o h ((f_X3_carry s p ((h.2 202) (Int32.toNatClampNeg (v8 / (Int32.ofInt 8)))) (f_X3_goalOf s p ((s.2 10) (Int32.toNatClampNeg ((p.2 4) (Int32.toNatClampNeg ((h.2 202) (Int32.toNatClampNeg (v8 / (Int32.ofInt 8)))))))) ((s.2 11) (Int32.toNatClampNeg ((p.2 4) (Int32.toNatClampNeg ((h.2 202) (Int32.toNatClampNeg (v8 / (Int32.ofInt 8)))))))) (f_X0_wayOf v8) (f_X0_farOf v8))).2.1) ((f_X3_carry s p ((h.2 202) (Int32.toNatClampNeg (v8 / (Int32.ofInt 8)))) (f_X3_goalOf s p ((s.2 10) (Int32.toNatClampNeg ((p.2 4) (Int32.toNatClampNeg ((h.2 202) (Int32.toNatClampNeg (v8 / (Int32.ofInt 8)))))))) ((s.2 11) (Int32.toNatClampNeg ((p.2 4) (Int32.toNatClampNeg ((h.2 202) (Int32.toNatClampNeg (v8 / (Int32.ofInt 8)))))))) (f_X0_wayOf v8) (f_X0_farOf v8))).2.2) v2).2.2.1).2 102)) : Rec)).2) v2 v4 v6 ((Int32.ofInt (-1))) (v8 + (Int32.ofInt 1)))))))))))))))))))
set_option maxHeartbeats 16000000 in
set_option maxRecDepth 20000 in
theorem l_X0_firstStep_c2_48 (sc : SC)   (zq : Int32 × Rec × Rec × Rec × Rec)  : ∀ (n : Nat) (o : Rec) (h : Rec) (s : Rec) (p : Rec) (v2 : Int32) (v4 : Int32) (v6 : Int32) (v7 : Int32) (v8 : Int32), p_X0_firstStep_c2_48 n o h s p v2 v4 v6 v7 v8 → zq = f_X0_firstStep_c2_48 n o h s p v2 v4 v6 v7 v8 → Good sc 7 0 0 28 mX0_firstStep (Ret (some (.int (zq.1))) (wHP (zq.2.1) (zq.2.2.1) (zq.2.2.2.1) (zq.2.2.2.2))) 0 0 48 [some (.ref 0), some (.ref 16), some (.int v2), some (.int (Int32.ofInt 2)), some (.int v4), some (.ref 14), some (.int v6), some (.int v7), some (.int v8), none, none, none, none] [] (wHP o h s p) := by
  intro n
  induction n with
  | zero => intro o h s p v2 v4 v6 v7 v8 hp; exact hp.elim
  | succ n ih =>
    intro o h s p v2 v4 v6 v7 v8 hp hq
    unfold p_X0_firstStep_c2_48 at hp
    unfold f_X0_firstStep_c2_48 at hq
    refine g_blk hz0 kX0_firstStep_48 ?_
    refine ⟨fun c3 => ?_, fun c3 => ?_⟩
    · rw [if_pos (show v6 ≤ v8 from c3)] at hq
      refine g_blk hz0 kX0_firstStep_183 ?_
      subst hq
      exact ⟨fun h => (by cases h), rfl, rfl⟩
    · rw [if_neg (show ¬ (v6 ≤ v8) from c3)] at hq
      replace hp := hp.2 c3
      refine g_blk hz0 kX0_firstStep_55 ?_
      refine ⟨by decide, ?_⟩
      refine ⟨hp.1, ?_⟩
      replace hp := hp.2
      refine ⟨hp.1, ?_⟩
      replace hp := hp.2
      refine cVp [17, 18, 19, 20, 21, 22, 23] (wS s) (s_X4_has s ((p.2 4) (Int32.toNatClampNeg ((h.2 202) (Int32.toNatClampNeg (v8 / (Int32.ofInt 8)))))) hp.1) rfl cwX4_has dX0_firstStep_80 rfl rfl (hm27_HP_S _ _ _ _) ?_
      replace hp := hp.2
      refine g_blk hz0 kX0_firstStep_83 ?_
      refine ⟨fun c4 => ?_, fun c4 => ?_⟩
      · rw [if_neg (show ¬ ((f_X4_has s ((p.2 4) (Int32.toNatClampNeg ((h.2 202) (Int32.toNatClampNeg (v8 / (Int32.ofInt 8))))))) = 0) from c4)] at hq
        replace hp := hp.2 c4
        refine g_blk hz0 kX0_firstStep_89 ?_
        refine ⟨hp.1, ?_⟩
        replace hp := hp.2
        refine ⟨hp.1, ?_⟩
        replace hp := hp.2
        refine cS0 (s_X0_wayOf v8) rfl cwX0_wayOf dX0_firstStep_112 rfl ?_
        refine g_blk hz0 kX0_firstStep_115 ?_
        refine cS0 (s_X0_farOf v8) rfl cwX0_farOf dX0_firstStep_117 rfl ?_
        refine cVp [16, 17, 18, 19, 20, 21, 22, 23, 24, 25, 26, 27] (wP s p) (s_X3_goalOf s p ((s.2 10) (Int32.toNatClampNeg ((p.2 4) (Int32.toNatClampNeg ((h.2 202) (Int32.toNatClampNeg (v8 / (Int32.ofInt 8)))))))) ((s.2 11) (Int32.toNatClampNeg ((p.2 4) (Int32.toNatClampNeg ((h.2 202) (Int32.toNatClampNeg (v8 / (Int32.ofInt 8)))))))) (f_X0_wayOf v8) (f_X0_farOf v8) hp.1) rfl cwX3_goalOf dX0_firstStep_120 rfl rfl (hm24_HP_P _ _ _ _) ?_
        replace hp := hp.2
        refine g_blk hz0 kX0_firstStep_123 ?_
        refine ⟨fun c5 => ?_, fun c5 => ?_⟩
        · rw [if_neg (show ¬ ((f_X3_goalOf s p ((s.2 10) (Int32.toNatClampNeg ((p.2 4) (Int32.toNatClampNeg ((h.2 202) (Int32.toNatClampNeg (v8 / (Int32.ofInt 8)))))))) ((s.2 11) (Int32.toNatClampNeg ((p.2 4) (Int32.toNatClampNeg ((h.2 202) (Int32.toNatClampNeg (v8 / (Int32.ofInt 8)))))))) (f_X0_wayOf v8) (f_X0_farOf v8)) = (Int32.ofInt (-1))) from c5)] at hq
          replace hp := hp.2 c5
          refine g_blk hz0 kX0_firstStep_134 ?_
          refine cV [16, 17, 18, 19, 20, 21, 22, 23, 24, 25, 26, 27] (wP s p) (s_X3_carry s p ((h.2 202) (Int32.toNatClampNeg (v8 / (Int32.ofInt 8)))) (f_X3_goalOf s p ((s.2 10) (Int32.toNatClampNeg ((p.2 4) (Int32.toNatClampNeg ((h.2 202) (Int32.toNatClampNeg (v8 / (Int32.ofInt 8)))))))) ((s.2 11) (Int32.toNatClampNeg ((p.2 4) (Int32.toNatClampNeg ((h.2 202) (Int32.toNatClampNeg (v8 / (Int32.ofInt 8)))))))) (f_X0_wayOf v8) (f_X0_farOf v8)) hp.1) rfl cwX3_carry dX0_firstStep_142 rfl rfl (hm24_HP_P _ _ _ _) ((len_P _ _).trans (len_P _ _).symm) (wHP o h ((f_X3_carry s p ((h.2 202) (Int32.toNatClampNeg (v8 / (Int32.ofInt 8)))) (f_X3_goalOf s p ((s.2 10) (Int32.toNatClampNeg ((p.2 4) (Int32.toNatClampNeg ((h.2 202) (Int32.toNatClampNeg (v8 / (Int32.ofInt 8)))))))) ((s.2 11) (Int32.toNatClampNeg ((p.2 4) (Int32.toNatClampNeg ((h.2 202) (Int32.toNatClampNeg (v8 / (Int32.ofInt 8)))))))) (f_X0_wayOf v8) (f_X0_farOf v8))).2.1) ((f_X3_carry s p ((h.2 202) (Int32.toNatClampNeg (v8 / (Int32.ofInt 8)))) (f_X3_goalOf s p ((s.2 10) (Int32.toNatClampNeg ((p.2 4) (Int32.toNatClampNeg ((h.2 202) (Int32.toNatClampNeg (v8 / (Int32.ofInt 8)))))))) ((s.2 11) (Int32.toNatClampNeg ((p.2 4) (Int32.toNatClampNeg ((h.2 202) (Int32.toNatClampNeg (v8 / (Int32.ofInt 8)))))))) (f_X0_wayOf v8) (f_X0_farOf v8))).2.2)) (pw41_HP_P _ _ _ _ _ _) ?_
          replace hp := hp.2
          obtain ⟨g6, hg6⟩ : ∃ z, z = (f_X3_carry s p ((h.2 202) (Int32.toNatClampNeg (v8 / (Int32.ofInt 8)))) (f_X3_goalOf s p ((s.2 10) (Int32.toNatClampNeg ((p.2 4) (Int32.toNatClampNeg ((h.2 202) (Int32.toNatClampNeg (v8 / (Int32.ofInt 8)))))))) ((s.2 11) (Int32.toNatClampNeg ((p.2 4) (Int32.toNatClampNeg ((h.2 202) (Int32.toNatClampNeg (v8 / (Int32.ofInt 8)))))))) (f_X0_wayOf v8) (f_X0_farOf v8))) := ⟨_, rfl⟩
          try rw [← hg6] at hp
          try rw [← hg6] at hq
          rw [← hg6]
          refine g_blk hz0 kX0_firstStep_145 ?_
          refine cV [0, 1, 2, 3, 4, 5, 6, 7, 8, 9, 10, 11, 12, 13, 14, 15, 16, 17, 18, 19, 20, 21, 22, 23, 24, 25, 26, 27] (wHP o h (g6.2.1) (g6.2.2)) (s_X0_isForced_c1 o h (g6.2.1) (g6.2.2) v2 hp.1) rfl cwX0_isForced dX0_firstStep_152 rfl rfl (hm25_HP_HP _ _ _ _) ((len_HP _ _ _ _).trans (len_HP _ _ _ _).symm) (wHP ((f_X0_isForced_c1 o h (g6.2.1) (g6.2.2) v2).2.1) ((f_X0_isForced_c1 o h (g6.2.1) (g6.2.2) v2).2.2.1) ((f_X0_isForced_c1 o h (g6.2.1) (g6.2.2) v2).2.2.2.1) ((f_X0_isForced_c1 o h (g6.2.1) (g6.2.2) v2).2.2.2.2)) (pw46_HP_HP _ _ _ _ _ _ _ _) ?_
          replace hp := hp.2
          obtain ⟨g7, hg7⟩ : ∃ z, z = (f_X0_isForced_c1 o h (g6.2.1) (g6.2.2) v2) := ⟨_, rfl⟩
          try rw [← hg7] at hp
          try rw [← hg7] at hq
          rw [← hg7]
          refine g_blk hz0 kX0_firstStep_155 ?_
          refine ⟨vinL (by decide), 9, rfl, ?_⟩
          refine cV [16, 17, 18, 19, 20, 21, 22, 23, 24, 25, 26, 27, 9] (wPA (g7.2.2.2.1) (g7.2.2.2.2) ((fun _ => 0, fun _ => ((g7.2.2.1).2 102)) : Rec)) (s_X3_load (g7.2.2.2.1) (g7.2.2.2.2) ((fun _ => 0, fun _ => ((g7.2.2.1).2 102)) : Rec) hp.1) rfl cwX3_load dX0_firstStep_164 rfl rfl (hm31_HP_PA _ _ _ _) ((len_PA _ _ _).trans (len_PA _ _ _).symm) (wHP (g7.2.1) (g7.2.2.1) ((f_X3_load (g7.2.2.2.1) (g7.2.2.2.2) ((fun _ => 0, fun _ => ((g7.2.2.1).2 102)) : Rec)).1) ((f_X3_load (g7.2.2.2.1) (g7.2.2.2.2) ((fun _ => 0, fun _ => ((g7.2.2.1).2 102)) : Rec)).2)) (pw49_HP_PA _ _ _ _ _ _) ?_
          replace hp := hp.2
          obtain ⟨g8, hg8⟩ : ∃ z, z = (f_X3_load (g7.2.2.2.1) (g7.2.2.2.2) ((fun _ => 0, fun _ => ((g7.2.2.1).2 102)) : Rec)) := ⟨_, rfl⟩
          try rw [← hg8] at hp
          try rw [← hg8] at hq
          rw [← hg8]
          refine g_blk hz0 kX0_firstStep_167 ?_
          refine ⟨fun c9 => ?_, fun c9 => ?_⟩
          · rw [if_neg (show ¬ ((g7.1) = v4) from c9)] at hq
            replace hp := hp.2 c9
            refine g_blk hz0 kX0_firstStep_177 ?_
            refine g_le (L2 := [some (.ref 0), some (.ref 16), some (.int v2), some (.int (Int32.ofInt 2)), some (.int v4), some (.ref 14), some (.int v6), some (.int (Int32.ofInt (-1))), some (.int (v8 + (Int32.ofInt 1))), none, none, none, none]) ⟨rfl, rfl, rfl, rfl, rfl, rfl, rfl, rfl, rfl, trivial⟩ ?_
            exact ih (g7.2.1) (g7.2.2.1) (g8.1) (g8.2) v2 v4 v6 ((Int32.ofInt (-1))) (v8 + (Int32.ofInt 1)) hp hq
          · rw [if_pos (show (g7.1) = v4 from c9)] at hq
            refine g_blk hz0 kX0_firstStep_174 ?_
            subst hq
            exact ⟨fun h => (by cases h), rfl, rfl⟩
        · rw [if_pos (show (f_X3_goalOf s p ((s.2 10) (Int32.toNatClampNeg ((p.2 4) (Int32.toNatClampNeg ((h.2 202) (Int32.toNatClampNeg (v8 / (Int32.ofInt 8)))))))) ((s.2 11) (Int32.toNatClampNeg ((p.2 4) (Int32.toNatClampNeg ((h.2 202) (Int32.toNatClampNeg (v8 / (Int32.ofInt 8)))))))) (f_X0_wayOf v8) (f_X0_farOf v8)) = (Int32.ofInt (-1)) from c5)] at hq
          replace hp := hp.1 c5
          refine g_blk hz0 kX0_firstStep_131 ?_
          refine g_blk hz0 kX0_firstStep_177 ?_
          refine g_le (L2 := [some (.ref 0), some (.ref 16), some (.int v2), some (.int (Int32.ofInt 2)), some (.int v4), some (.ref 14), some (.int v6), some (.int v7), some (.int (v8 + (Int32.ofInt 1))), none, none, none, none]) ⟨rfl, rfl, rfl, rfl, rfl, rfl, rfl, rfl, rfl, trivial⟩ ?_
          exact ih o h s p v2 v4 v6 v7 (v8 + (Int32.ofInt 1)) hp hq
      · rw [if_pos (show (f_X4_has s ((p.2 4) (Int32.toNatClampNeg ((h.2 202) (Int32.toNatClampNeg (v8 / (Int32.ofInt 8))))))) = 0 from c4)] at hq
        replace hp := hp.1 c4
        refine g_blk hz0 kX0_firstStep_86 ?_
        refine g_blk hz0 kX0_firstStep_177 ?_
        refine g_le (L2 := [some (.ref 0), some (.ref 16), some (.int v2), some (.int (Int32.ofInt 2)), some (.int v4), some (.ref 14), some (.int v6), some (.int v7), some (.int (v8 + (Int32.ofInt 1))), none, none, none, none]) ⟨rfl, rfl, rfl, rfl, rfl, rfl, rfl, rfl, rfl, trivial⟩ ?_
        exact ih o h s p v2 v4 v6 v7 (v8 + (Int32.ofInt 1)) hp hq
def f_X0_firstStep_c2 (o : Rec) (h : Rec) (s : Rec) (p : Rec) (me : Int32) (wt : Int32) : Int32 × Rec × Rec × Rec × Rec := (f_X0_firstStep_c2_48 4000000000 o (setA (setA h 102 ((f_X3_save s p ((fun _ => 0, fun _ => (h.2 102)) : Rec)).2 0)) 202 (((f_X0_listLeaders s p ((fun _ => 0, fun _ => (h.2 202)) : Rec)).2).2 0)) s p me wt ((Int32.ofInt 8) * ((f_X0_listLeaders s p ((fun _ => 0, fun _ => (h.2 202)) : Rec)).1)) ((Int32.ofInt (-2))) ((Int32.ofInt 0)))
def p_X0_firstStep_c2 (o : Rec) (h : Rec) (s : Rec) (p : Rec) (me : Int32) (wt : Int32) : Prop := (p_X0_listLeaders s p ((fun _ => 0, fun _ => (h.2 202)) : Rec)) ∧ ((p_X3_save s p ((fun _ => 0, fun _ => (h.2 102)) : Rec)) ∧ (p_X0_firstStep_c2_48 4000000000 o (setA (setA h 102 ((f_X3_save s p ((fun _ => 0, fun _ => (h.2 102)) : Rec)).2 0)) 202 (((f_X0_listLeaders s p ((fun _ => 0, fun _ => (h.2 202)) : Rec)).2).2 0)) s p me wt ((Int32.ofInt 8) * ((f_X0_listLeaders s p ((fun _ => 0, fun _ => (h.2 202)) : Rec)).1)) ((Int32.ofInt (-2))) ((Int32.ofInt 0))))
set_option maxHeartbeats 16000000 in
set_option maxRecDepth 20000 in
theorem s_X0_firstStep_c2 (o : Rec) (h : Rec) (s : Rec) (p : Rec) (me : Int32) (wt : Int32) (hp : p_X0_firstStep_c2 o h s p me wt) : Spec 7 0 0 mX0_firstStep [.ref 0, .ref 16, .int me, .int (Int32.ofInt 2), .int wt] (wHP o h s p) (Ret (some (.int ((f_X0_firstStep_c2 o h s p me wt).1))) (wHP ((f_X0_firstStep_c2 o h s p me wt).2.1) ((f_X0_firstStep_c2 o h s p me wt).2.2.1) ((f_X0_firstStep_c2 o h s p me wt).2.2.2.1) ((f_X0_firstStep_c2 o h s p me wt).2.2.2.2))) := by
  obtain ⟨zq, hq⟩ : ∃ z, z = (f_X0_firstStep_c2 o h s p me wt) := ⟨_, rfl⟩
  rw [← hq]
  unfold f_X0_firstStep_c2 at hq
  unfold p_X0_firstStep_c2 at hp
  refine Sof fun sc => ?_
  refine g_blk hz0 kX0_firstStep_0 ?_
  refine cS0 (s_X8_within (Int32.ofInt 2) (Int32.ofInt 1) (Int32.ofInt 3)) rfl cwX8_within dX0_firstStep_3 rfl ?_
  refine g_blk hz0 kX0_firstStep_6 ?_
  refine ⟨fun _ => ?_, fun c => absurd c (by decide)⟩
  refine g_blk hz0 kX0_firstStep_12 ?_
  refine ⟨vinL (by decide), 14, rfl, ?_⟩
  refine cS [16, 17, 18, 19, 20, 21, 22, 23, 24, 25, 26, 27, 14] (wP8 s p ((fun _ => 0, fun _ => (h.2 202)) : Rec)) (s_X0_listLeaders s p ((fun _ => 0, fun _ => (h.2 202)) : Rec) hp.1) rfl cwX0_listLeaders dX0_firstStep_25 rfl (hm30_HP_P8 _ _ _ _) ((len_P8 _ _ _).trans (len_P8 _ _ _).symm) (wHP o (setA h 202 (((f_X0_listLeaders s p ((fun _ => 0, fun _ => (h.2 202)) : Rec)).2).2 0)) s p) (pw47_HP_P8 _ _ _ _ _) ?_
  replace hp := hp.2
  obtain ⟨g1, hg1⟩ : ∃ z, z = (f_X0_listLeaders s p ((fun _ => 0, fun _ => (h.2 202)) : Rec)) := ⟨_, rfl⟩
  try rw [← hg1] at hp
  try rw [← hg1] at hq
  rw [← hg1]
  refine g_blk hz0 kX0_firstStep_28 ?_
  refine ⟨vinL (by decide), 9, rfl, ?_⟩
  refine cV [16, 17, 18, 19, 20, 21, 22, 23, 24, 25, 26, 27, 9] (wPA s p ((fun _ => 0, fun _ => (h.2 102)) : Rec)) (s_X3_save s p ((fun _ => 0, fun _ => (h.2 102)) : Rec) hp.1) rfl cwX3_save dX0_firstStep_42 rfl rfl (hm31_HP_PA _ _ _ _) ((len_PA _ _ _).trans (len_PA _ _ _).symm) (wHP o (setA (setA h 102 ((f_X3_save s p ((fun _ => 0, fun _ => (h.2 102)) : Rec)).2 0)) 202 ((g1.2).2 0)) s p) (pw48_HP_PA _ _ _ _ _) ?_
  replace hp := hp.2
  obtain ⟨g2, hg2⟩ : ∃ z, z = (f_X3_save s p ((fun _ => 0, fun _ => (h.2 102)) : Rec)) := ⟨_, rfl⟩
  try rw [← hg2] at hp
  try rw [← hg2] at hq
  rw [← hg2]
  refine g_blk hz0 kX0_firstStep_45 ?_
  refine g_le (L2 := [some (.ref 0), some (.ref 16), some (.int me), some (.int (Int32.ofInt 2)), some (.int wt), some (.ref 14), some (.int ((Int32.ofInt 8) * (g1.1))), some (.int (Int32.ofInt (-2))), some (.int (Int32.ofInt 0)), none, none, none, none]) ⟨rfl, rfl, rfl, rfl, rfl, rfl, rfl, rfl, rfl, trivial⟩ ?_
  exact l_X0_firstStep_c2_48 sc zq 4000000000 o (setA (setA h 102 (g2.2 0)) 202 ((g1.2).2 0)) s p me wt ((Int32.ofInt 8) * (g1.1)) ((Int32.ofInt (-2))) ((Int32.ofInt 0)) hp hq

def f_X0_isForced_c2_59  : Nat → Rec → Rec → Rec → Rec → Int32 → Int32 → Int32 → Int32 × Rec × Rec × Rec × Rec
  | 0, o, h, s, p, v2, v4, v5 => (0, o, h, s, p)
  | n + 1, o, h, s, p, v2, v4, v5 => if (Int32.ofInt 3) ≤ v5 then (if v4 = 0 then (if ((f_X0_firstStep_c2 o h s p v2 ((Int32.ofInt 0))).1) = (Int32.ofInt (-1)) then ((Int32.ofInt 1), ((f_X0_firstStep_c2 o h s p v2 ((Int32.ofInt 0))).2.1), ((f_X0_firstStep_c2 o h s p v2 ((Int32.ofInt 0))).2.2.1), ((f_X0_firstStep_c2 o h s p v2 ((Int32.ofInt 0))).2.2.2.1), ((f_X0_firstStep_c2 o h s p v2 ((Int32.ofInt 0))).2.2.2.2)) else ((Int32.ofInt 0), ((f_X0_firstStep_c2 o h s p v2 ((Int32.ofInt 0))).2.1), ((f_X0_firstStep_c2 o h s p v2 ((Int32.ofInt 0))).2.2.1), ((f_X0_firstStep_c2 o h s p v2 ((Int32.ofInt 0))).2.2.2.1), ((f_X0_firstStep_c2 o h s p v2 ((Int32.ofInt 0))).2.2.2.2))) else (if ((f_X0_firstStep_c2 o h s p v2 ((Int32.ofInt 1))).1) < 0 then ((Int32.ofInt 0), ((f_X0_firstStep_c2 o h s p v2 ((Int32.ofInt 1))).2.1), ((f_X0_firstStep_c2 o h s p v2 ((Int32.ofInt 1))).2.2.1), ((f_X0_firstStep_c2 o h s p v2 ((Int32.ofInt 1))).2.2.2.1), ((f_X0_firstStep_c2 o h s p v2 ((Int32.ofInt 1))).2.2.2.2)) else ((Int32.ofInt 1), ((f_X0_firstStep_c2 o h s p v2 ((Int32.ofInt 1))).2.1), ((f_X0_firstStep_c2 o h s p v2 ((Int32.ofInt 1))).2.2.1), ((f_X0_firstStep_c2 o h s p v2 ((Int32.ofInt 1))).2.2.2.1), ((f_X0_firstStep_c2 o h s p v2 ((Int32.ofInt 1))).2.2.2.2)))) else (if (p.1 7) ≤ 0 then (if v4 = 0 then (if ((f_X0_firstStep_c2 o h s p v2 ((Int32.ofInt 0))).1) = (Int32.ofInt (-1)) then ((Int32.ofInt 1), ((f_X0_firstStep_c2 o h s p v2 ((Int32.ofInt 0))).2.1), ((f_X0_firstStep_c2 o h s p v2 ((Int32.ofInt 0))).2.2.1), ((f_X0_firstStep_c2 o h s p v2 ((Int32.ofInt 0))).2.2.2.1), ((f_X0_firstStep_c2 o h s p v2 ((Int32.ofInt 0))).2.2.2.2)) else ((Int32.ofInt 0), ((f_X0_firstStep_c2 o h s p v2 ((Int32.ofInt 0))).2.1), ((f_X0_firstStep_c2 o h s p v2 ((Int32.ofInt 0))).2.2.1), ((f_X0_firstStep_c2 o h s p v2 ((Int32.ofInt 0))).2.2.2.1), ((f_X0_firstStep_c2 o h s p v2 ((Int32.ofInt 0))).2.2.2.2))) else (if ((f_X0_firstStep_c2 o h s p v2 ((Int32.ofInt 1))).1) < 0 then ((Int32.ofInt 0), ((f_X0_firstStep_c2 o h s p v2 ((Int32.ofInt 1))).2.1), ((f_X0_firstStep_c2 o h s p v2 ((Int32.ofInt 1))).2.2.1), ((f_X0_firstStep_c2 o h s p v2 ((Int32.ofInt 1))).2.2.2.1), ((f_X0_firstStep_c2 o h s p v2 ((Int32.ofInt 1))).2.2.2.2)) else ((Int32.ofInt 1), ((f_X0_firstStep_c2 o h s p v2 ((Int32.ofInt 1))).2.1), ((f_X0_firstStep_c2 o h s p v2 ((Int32.ofInt 1))).2.2.1), ((f_X0_firstStep_c2 o h s p v2 ((Int32.ofInt 1))).2.2.2.1), ((f_X0_firstStep_c2 o h s p v2 ((Int32.ofInt 1))).2.2.2.2)))) else (f_X0_isForced_c2_59 n ((f_X1_habitOf o s p).2) h ((f_X3_creaseDue s p (f_X4_choiceAxis s ((f_X1_habitOf o s p).1)) (f_X4_choiceLine s ((f_X1_habitOf o s p).1)) (f_X4_choiceWay s ((f_X1_habitOf o s p).1))).1) ((f_X3_creaseDue s p (f_X4_choiceAxis s ((f_X1_habitOf o s p).1)) (f_X4_choiceLine s ((f_X1_habitOf o s p).1)) (f_X4_choiceWay s ((f_X1_habitOf o s p).1))).2) v2 v4 (v5 + (Int32.ofInt 1))))
def p_X0_isForced_c2_59  : Nat → Rec → Rec → Rec → Rec → Int32 → Int32 → Int32 → Prop
  | 0, _, _, _, _, _, _, _ => False
  | n + 1, o, h, s, p, v2, v4, v5 => ((Int32.ofInt 3) ≤ v5 → ((v4 = 0 → ((p_X0_firstStep_c2 o h s p v2 ((Int32.ofInt 0))) ∧ True)) ∧ (¬ (v4 = 0) → ((p_X0_firstStep_c2 o h s p v2 ((Int32.ofInt 1))) ∧ True)))) ∧ (¬ ((Int32.ofInt 3) ≤ v5) → (((p.1 7) ≤ 0 → ((v4 = 0 → ((p_X0_firstStep_c2 o h s p v2 ((Int32.ofInt 0))) ∧ True)) ∧ (¬ (v4 = 0) → ((p_X0_firstStep_c2 o h s p v2 ((Int32.ofInt 1))) ∧ True)))) ∧ (¬ ((p.1 7) ≤ 0) → ((p_X1_habitOf o s p) ∧ ((p_X3_creaseDue s p (f_X4_choiceAxis s ((f_X1_habitOf o s p).1)) (f_X4_choiceLine s ((f_X1_habitOf o s p).1)) (f_X4_choiceWay s ((f_X1_habitOf o s p).1))) ∧ (p_X0_isForced_c2_59 n ((f_X1_habitOf o s p).2) h ((f_X3_creaseDue s p (f_X4_choiceAxis s ((f_X1_habitOf o s p).1)) (f_X4_choiceLine s ((f_X1_habitOf o s p).1)) (f_X4_choiceWay s ((f_X1_habitOf o s p).1))).1) ((f_X3_creaseDue s p (f_X4_choiceAxis s ((f_X1_habitOf o s p).1)) (f_X4_choiceLine s ((f_X1_habitOf o s p).1)) (f_X4_choiceWay s ((f_X1_habitOf o s p).1))).2) v2 v4 (v5 + (Int32.ofInt 1))))))))
set_option maxHeartbeats 16000000 in
set_option maxRecDepth 20000 in
theorem l_X0_isForced_c2_59 (sc : SC)   (zq : Int32 × Rec × Rec × Rec × Rec)  : ∀ (n : Nat) (o : Rec) (h : Rec) (s : Rec) (p : Rec) (v2 : Int32) (v4 : Int32) (v5 : Int32), p_X0_isForced_c2_59 n o h s p v2 v4 v5 → zq = f_X0_isForced_c2_59 n o h s p v2 v4 v5 → Good sc 8 0 0 28 mX0_isForced (Ret (some (.int (zq.1))) (wHP (zq.2.1) (zq.2.2.1) (zq.2.2.2.1) (zq.2.2.2.2))) 0 0 59 [some (.ref 0), some (.ref 16), some (.int v2), some (.int (Int32.ofInt 2)), some (.int v4), some (.int v5), none, none] [] (wHP o h s p) := by
  intro n
  induction n with
  | zero => intro o h s p v2 v4 v5 hp; exact hp.elim
  | succ n ih =>
    intro o h s p v2 v4 v5 hp hq
    unfold p_X0_isForced_c2_59 at hp
    unfold f_X0_isForced_c2_59 at hq
    refine g_blk hz0 kX0_isForced_59 ?_
    refine ⟨fun c5 => ?_, fun c5 => ?_⟩
    · rw [if_pos (show (Int32.ofInt 3) ≤ v5 from c5)] at hq
      replace hp := hp.1 c5
      refine g_blk hz0 kX0_isForced_119 ?_
      refine ⟨fun c6 => ?_, fun c6 => ?_⟩
      · rw [if_pos (show v4 = 0 from c6)] at hq
        replace hp := hp.1 c6
        refine g_blk hz0 kX0_isForced_141 ?_
        refine cV [0, 1, 2, 3, 4, 5, 6, 7, 8, 9, 10, 11, 12, 13, 14, 15, 16, 17, 18, 19, 20, 21, 22, 23, 24, 25, 26, 27] (wHP o h s p) (s_X0_firstStep_c2 o h s p v2 ((Int32.ofInt 0)) hp.1) rfl cwX0_firstStep dX0_isForced_146 rfl rfl (hm25_HP_HP _ _ _ _) ((len_HP _ _ _ _).trans (len_HP _ _ _ _).symm) (wHP ((f_X0_firstStep_c2 o h s p v2 ((Int32.ofInt 0))).2.1) ((f_X0_firstStep_c2 o h s p v2 ((Int32.ofInt 0))).2.2.1) ((f_X0_firstStep_c2 o h s p v2 ((Int32.ofInt 0))).2.2.2.1) ((f_X0_firstStep_c2 o h s p v2 ((Int32.ofInt 0))).2.2.2.2)) (pw46_HP_HP _ _ _ _ _ _ _ _) ?_
        replace hp := hp.2
        obtain ⟨g7, hg7⟩ : ∃ z, z = (f_X0_firstStep_c2 o h s p v2 ((Int32.ofInt 0))) := ⟨_, rfl⟩
        try rw [← hg7] at hp
        try rw [← hg7] at hq
        rw [← hg7]
        refine g_blk hz0 kX0_isForced_149 ?_
        refine ⟨fun c8 => ?_, fun c8 => ?_⟩
        · rw [if_neg (show ¬ ((g7.1) = (Int32.ofInt (-1))) from c8)] at hq
          refine g_blk hz0 kX0_isForced_157 ?_
          refine g_blk hz0 kX0_isForced_158 ?_
          subst hq
          exact ⟨fun _ => Or.inl rfl, rfl, rfl⟩
        · rw [if_pos (show (g7.1) = (Int32.ofInt (-1)) from c8)] at hq
          refine g_blk hz0 kX0_isForced_153 ?_
          refine g_blk hz0 kX0_isForced_158 ?_
          subst hq
          exact ⟨fun _ => Or.inr rfl, rfl, rfl⟩
      · rw [if_neg (show ¬ (v4 = 0) from c6)] at hq
        replace hp := hp.2 c6
        refine g_blk hz0 kX0_isForced_124 ?_
        refine cV [0, 1, 2, 3, 4, 5, 6, 7, 8, 9, 10, 11, 12, 13, 14, 15, 16, 17, 18, 19, 20, 21, 22, 23, 24, 25, 26, 27] (wHP o h s p) (s_X0_firstStep_c2 o h s p v2 ((Int32.ofInt 1)) hp.1) rfl cwX0_firstStep dX0_isForced_129 rfl rfl (hm25_HP_HP _ _ _ _) ((len_HP _ _ _ _).trans (len_HP _ _ _ _).symm) (wHP ((f_X0_firstStep_c2 o h s p v2 ((Int32.ofInt 1))).2.1) ((f_X0_firstStep_c2 o h s p v2 ((Int32.ofInt 1))).2.2.1) ((f_X0_firstStep_c2 o h s p v2 ((Int32.ofInt 1))).2.2.2.1) ((f_X0_firstStep_c2 o h s p v2 ((Int32.ofInt 1))).2.2.2.2)) (pw46_HP_HP _ _ _ _ _ _ _ _) ?_
        replace hp := hp.2
        obtain ⟨g9, hg9⟩ : ∃ z, z = (f_X0_firstStep_c2 o h s p v2 ((Int32.ofInt 1))) := ⟨_, rfl⟩
        try rw [← hg9] at hp
        try rw [← hg9] at hq
        rw [← hg9]
        refine g_blk hz0 kX0_isForced_132 ?_
        refine ⟨fun c10 => ?_, fun c10 => ?_⟩
        · rw [if_pos (show (g9.1) < 0 from c10)] at hq
          refine g_blk hz0 kX0_isForced_139 ?_
          refine g_blk hz0 kX0_isForced_140 ?_
          subst hq
          exact ⟨fun _ => Or.inl rfl, rfl, rfl⟩
        · rw [if_neg (show ¬ ((g9.1) < 0) from c10)] at hq
          refine g_blk hz0 kX0_isForced_135 ?_
          refine g_blk hz0 kX0_isForced_140 ?_
          subst hq
          exact ⟨fun _ => Or.inr rfl, rfl, rfl⟩
    · rw [if_neg (show ¬ ((Int32.ofInt 3) ≤ v5) from c5)] at hq
      replace hp := hp.2 c5
      refine g_blk hz0 kX0_isForced_65 ?_
      refine ⟨fun c11 => ?_, fun c11 => ?_⟩
      · rw [if_pos (show (p.1 7) ≤ 0 from c11)] at hq
        replace hp := hp.1 c11
        refine g_blk hz0 kX0_isForced_119 ?_
        refine ⟨fun c12 => ?_, fun c12 => ?_⟩
        · rw [if_pos (show v4 = 0 from c12)] at hq
          replace hp := hp.1 c12
          refine g_blk hz0 kX0_isForced_141 ?_
          refine cV [0, 1, 2, 3, 4, 5, 6, 7, 8, 9, 10, 11, 12, 13, 14, 15, 16, 17, 18, 19, 20, 21, 22, 23, 24, 25, 26, 27] (wHP o h s p) (s_X0_firstStep_c2 o h s p v2 ((Int32.ofInt 0)) hp.1) rfl cwX0_firstStep dX0_isForced_146 rfl rfl (hm25_HP_HP _ _ _ _) ((len_HP _ _ _ _).trans (len_HP _ _ _ _).symm) (wHP ((f_X0_firstStep_c2 o h s p v2 ((Int32.ofInt 0))).2.1) ((f_X0_firstStep_c2 o h s p v2 ((Int32.ofInt 0))).2.2.1) ((f_X0_firstStep_c2 o h s p v2 ((Int32.ofInt 0))).2.2.2.1) ((f_X0_firstStep_c2 o h s p v2 ((Int32.ofInt 0))).2.2.2.2)) (pw46_HP_HP _ _ _ _ _ _ _ _) ?_
          replace hp := hp.2
          obtain ⟨g13, hg13⟩ : ∃ z, z = (f_X0_firstStep_c2 o h s p v2 ((Int32.ofInt 0))) := ⟨_, rfl⟩
          try rw [← hg13] at hp
          try rw [← hg13] at hq
          rw [← hg13]
          refine g_blk hz0 kX0_isForced_149 ?_
          refine ⟨fun c14 => ?_, fun c14 => ?_⟩
          · rw [if_neg (show ¬ ((g13.1) = (Int32.ofInt (-1))) from c14)] at hq
            refine g_blk hz0 kX0_isForced_157 ?_
            refine g_blk hz0 kX0_isForced_158 ?_
            subst hq
            exact ⟨fun _ => Or.inl rfl, rfl, rfl⟩
          · rw [if_pos (show (g13.1) = (Int32.ofInt (-1)) from c14)] at hq
            refine g_blk hz0 kX0_isForced_153 ?_
            refine g_blk hz0 kX0_isForced_158 ?_
            subst hq
            exact ⟨fun _ => Or.inr rfl, rfl, rfl⟩
        · rw [if_neg (show ¬ (v4 = 0) from c12)] at hq
          replace hp := hp.2 c12
          refine g_blk hz0 kX0_isForced_124 ?_
          refine cV [0, 1, 2, 3, 4, 5, 6, 7, 8, 9, 10, 11, 12, 13, 14, 15, 16, 17, 18, 19, 20, 21, 22, 23, 24, 25, 26, 27] (wHP o h s p) (s_X0_firstStep_c2 o h s p v2 ((Int32.ofInt 1)) hp.1) rfl cwX0_firstStep dX0_isForced_129 rfl rfl (hm25_HP_HP _ _ _ _) ((len_HP _ _ _ _).trans (len_HP _ _ _ _).symm) (wHP ((f_X0_firstStep_c2 o h s p v2 ((Int32.ofInt 1))).2.1) ((f_X0_firstStep_c2 o h s p v2 ((Int32.ofInt 1))).2.2.1) ((f_X0_firstStep_c2 o h s p v2 ((Int32.ofInt 1))).2.2.2.1) ((f_X0_firstStep_c2 o h s p v2 ((Int32.ofInt 1))).2.2.2.2)) (pw46_HP_HP _ _ _ _ _ _ _ _) ?_
          replace hp := hp.2
          obtain ⟨g15, hg15⟩ : ∃ z, z = (f_X0_firstStep_c2 o h s p v2 ((Int32.ofInt 1))) := ⟨_, rfl⟩
          try rw [← hg15] at hp
          try rw [← hg15] at hq
          rw [← hg15]
          refine g_blk hz0 kX0_isForced_132 ?_
          refine ⟨fun c16 => ?_, fun c16 => ?_⟩
          · rw [if_pos (show (g15.1) < 0 from c16)] at hq
            refine g_blk hz0 kX0_isForced_139 ?_
            refine g_blk hz0 kX0_isForced_140 ?_
            subst hq
            exact ⟨fun _ => Or.inl rfl, rfl, rfl⟩
          · rw [if_neg (show ¬ ((g15.1) < 0) from c16)] at hq
            refine g_blk hz0 kX0_isForced_135 ?_
            refine g_blk hz0 kX0_isForced_140 ?_
            subst hq
            exact ⟨fun _ => Or.inr rfl, rfl, rfl⟩
      · rw [if_neg (show ¬ ((p.1 7) ≤ 0) from c11)] at hq
        replace hp := hp.2 c11
        refine g_blk hz0 kX0_isForced_72 ?_
        refine cV [1, 2, 3, 4, 5, 16, 17, 18, 19, 20, 21, 22, 23, 24, 25, 26, 27] (wOP o s p) (s_X1_habitOf o s p hp.1) rfl cwX1_habitOf dX0_isForced_77 rfl rfl (hm26_HP_OP _ _ _ _) ((len_OP _ _ _).trans (len_OP _ _ _).symm) (wHP ((f_X1_habitOf o s p).2) h s p) (pw39_HP_OP _ _ _ _ _) ?_
        replace hp := hp.2
        obtain ⟨g17, hg17⟩ : ∃ z, z = (f_X1_habitOf o s p) := ⟨_, rfl⟩
        try rw [← hg17] at hp
        try rw [← hg17] at hq
        rw [← hg17]
        refine g_blk hz0 kX0_isForced_80 ?_
        refine cVp [17, 18, 19, 20, 21, 22, 23] (wS s) (s_X4_choiceAxis s (g17.1)) rfl cwX4_choiceAxis dX0_isForced_93 rfl rfl (hm27_HP_S _ _ _ _) ?_
        refine g_blk hz0 kX0_isForced_96 ?_
        refine cVp [17, 18, 19, 20, 21, 22, 23] (wS s) (s_X4_choiceLine s (g17.1)) rfl cwX4_choiceLine dX0_isForced_100 rfl rfl (hm27_HP_S _ _ _ _) ?_
        refine g_blk hz0 kX0_isForced_103 ?_
        refine cVp [17, 18, 19, 20, 21, 22, 23] (wS s) (s_X4_choiceWay s (g17.1)) rfl cwX4_choiceWay dX0_isForced_107 rfl rfl (hm27_HP_S _ _ _ _) ?_
        refine cV [16, 17, 18, 19, 20, 21, 22, 23, 24, 25, 26, 27] (wP s p) (s_X3_creaseDue s p (f_X4_choiceAxis s (g17.1)) (f_X4_choiceLine s (g17.1)) (f_X4_choiceWay s (g17.1)) hp.1) rfl cwX3_creaseDue dX0_isForced_110 rfl rfl (hm24_HP_P _ _ _ _) ((len_P _ _).trans (len_P _ _).symm) (wHP (g17.2) h ((f_X3_creaseDue s p (f_X4_choiceAxis s (g17.1)) (f_X4_choiceLine s (g17.1)) (f_X4_choiceWay s (g17.1))).1) ((f_X3_creaseDue s p (f_X4_choiceAxis s (g17.1)) (f_X4_choiceLine s (g17.1)) (f_X4_choiceWay s (g17.1))).2)) (pw41_HP_P _ _ _ _ _ _) ?_
        replace hp := hp.2
        obtain ⟨g18, hg18⟩ : ∃ z, z = (f_X3_creaseDue s p (f_X4_choiceAxis s (g17.1)) (f_X4_choiceLine s (g17.1)) (f_X4_choiceWay s (g17.1))) := ⟨_, rfl⟩
        try rw [← hg18] at hp
        try rw [← hg18] at hq
        rw [← hg18]
        refine g_blk hz0 kX0_isForced_113 ?_
        refine g_le (L2 := [some (.ref 0), some (.ref 16), some (.int v2), some (.int (Int32.ofInt 2)), some (.int v4), some (.int (v5 + (Int32.ofInt 1))), none, none]) ⟨rfl, rfl, rfl, rfl, rfl, rfl, trivial⟩ ?_
        exact ih (g17.2) h (g18.1) (g18.2) v2 v4 (v5 + (Int32.ofInt 1)) hp hq
def f_X0_isForced_c2 (o : Rec) (h : Rec) (s : Rec) (p : Rec) (me : Int32) : Int32 × Rec × Rec × Rec × Rec := if (f_X3_winner s p) = me then ((Int32.ofInt 1), o, h, s, p) else (if (f_X3_onTurn s p) = me then (if (f_X0_canBeTaken (f_X3_menOf s p ((Int32.ofInt 1) - me)) ((Int32.ofInt 1))) = 0 then ((Int32.ofInt 0), o, h, s, p) else (f_X0_isForced_c2_59 4000000000 o h s p me ((Int32.ofInt 1)) ((Int32.ofInt 0)))) else (if (f_X0_canBeTaken (f_X3_menOf s p ((Int32.ofInt 1) - me)) ((Int32.ofInt 1))) = 0 then ((Int32.ofInt 0), o, h, s, p) else (f_X0_isForced_c2_59 4000000000 o h s p me ((Int32.ofInt 0)) ((Int32.ofInt 0)))))
def p_X0_isForced_c2 (o : Rec) (h : Rec) (s : Rec) (p : Rec) (me : Int32) : Prop := (p_X3_winner s p) ∧ (((f_X3_winner s p) = me → True) ∧ (¬ ((f_X3_winner s p) = me) → (((f_X3_onTurn s p) = me → ((p_X3_menOf s p ((Int32.ofInt 1) - me)) ∧ (((f_X0_canBeTaken (f_X3_menOf s p ((Int32.ofInt 1) - me)) ((Int32.ofInt 1))) = 0 → True) ∧ (¬ ((f_X0_canBeTaken (f_X3_menOf s p ((Int32.ofInt 1) - me)) ((Int32.ofInt 1))) = 0) → (p_X0_isForced_c2_59 4000000000 o h s p me ((Int32.ofInt 1)) ((Int32.ofInt 0))))))) ∧ (¬ ((f_X3_onTurn s p) = me) → ((p_X3_menOf s p ((Int32.ofInt 1) - me)) ∧ (((f_X0_canBeTaken (f_X3_menOf s p ((Int32.ofInt 1) - me)) ((Int32.ofInt 1))) = 0 → True) ∧ (¬ ((f_X0_canBeTaken (f_X3_menOf s p ((Int32.ofInt 1) - me)) ((Int32.ofInt 1))) = 0) → (p_X0_isForced_c2_59 4000000000 o h s p me ((Int32.ofInt 0)) ((Int32.ofInt 0))))))))))
set_option maxHeartbeats 16000000 in
set_option maxRecDepth 20000 in
theorem s_X0_isForced_c2 (o : Rec) (h : Rec) (s : Rec) (p : Rec) (me : Int32) (hp : p_X0_isForced_c2 o h s p me) : Spec 8 0 0 mX0_isForced [.ref 0, .ref 16, .int me, .int (Int32.ofInt 2)] (wHP o h s p) (Ret (some (.int ((f_X0_isForced_c2 o h s p me).1))) (wHP ((f_X0_isForced_c2 o h s p me).2.1) ((f_X0_isForced_c2 o h s p me).2.2.1) ((f_X0_isForced_c2 o h s p me).2.2.2.1) ((f_X0_isForced_c2 o h s p me).2.2.2.2))) := by
  obtain ⟨zq, hq⟩ : ∃ z, z = (f_X0_isForced_c2 o h s p me) := ⟨_, rfl⟩
  rw [← hq]
  unfold f_X0_isForced_c2 at hq
  unfold p_X0_isForced_c2 at hp
  refine Sof fun sc => ?_
  refine g_blk hz0 kX0_isForced_0 ?_
  refine cVp [16, 17, 18, 19, 20, 21, 22, 23, 24, 25, 26, 27] (wP s p) (s_X3_winner s p hp.1) rfl cwX3_winner dX0_isForced_1 rfl rfl (hm24_HP_P _ _ _ _) ?_
  replace hp := hp.2
  refine g_blk hz0 kX0_isForced_4 ?_
  refine ⟨fun c1 => ?_, fun c1 => ?_⟩
  · rw [if_neg (show ¬ ((f_X3_winner s p) = me) from c1)] at hq
    replace hp := hp.2 c1
    refine g_blk hz0 kX0_isForced_10 ?_
    refine cVp [16, 17, 18, 19, 20, 21, 22, 23, 24, 25, 26, 27] (wP s p) (s_X3_onTurn s p) rfl cwX3_onTurn dX0_isForced_11 rfl rfl (hm24_HP_P _ _ _ _) ?_
    refine g_blk hz0 kX0_isForced_14 ?_
    refine ⟨fun c2 => ?_, fun c2 => ?_⟩
    · rw [if_neg (show ¬ ((f_X3_onTurn s p) = me) from c2)] at hq
      replace hp := hp.2 c2
      refine g_blk hz0 kX0_isForced_22 ?_
      refine g_blk hz0 kX0_isForced_23 ?_
      refine cVp [16, 17, 18, 19, 20, 21, 22, 23, 24, 25, 26, 27] (wP s p) (s_X3_menOf s p ((Int32.ofInt 1) - me) hp.1) rfl cwX3_menOf dX0_isForced_29 rfl rfl (hm24_HP_P _ _ _ _) ?_
      replace hp := hp.2
      refine g_blk hz0 kX0_isForced_32 ?_
      refine ⟨fun _ => ?_, fun c => absurd c (by decide)⟩
      refine g_blk hz0 kX0_isForced_45 ?_
      refine ⟨by decide, ?_⟩
      refine cS0 (s_X0_canBeTaken (f_X3_menOf s p ((Int32.ofInt 1) - me)) ((Int32.ofInt 1))) rfl cwX0_canBeTaken dX0_isForced_48 rfl ?_
      refine g_blk hz0 kX0_isForced_51 ?_
      refine ⟨fun c4 => ?_, fun c4 => ?_⟩
      · rw [if_neg (show ¬ ((f_X0_canBeTaken (f_X3_menOf s p ((Int32.ofInt 1) - me)) ((Int32.ofInt 1))) = 0) from c4)] at hq
        replace hp := hp.2 c4
        refine g_blk hz0 kX0_isForced_56 ?_
        refine g_le (L2 := [some (.ref 0), some (.ref 16), some (.int me), some (.int (Int32.ofInt 2)), some (.int (Int32.ofInt 0)), some (.int (Int32.ofInt 0)), none, none]) ⟨rfl, rfl, rfl, rfl, rfl, rfl, trivial⟩ ?_
        exact l_X0_isForced_c2_59 sc zq 4000000000 o h s p me ((Int32.ofInt 0)) ((Int32.ofInt 0)) hp hq
      · rw [if_pos (show (f_X0_canBeTaken (f_X3_menOf s p ((Int32.ofInt 1) - me)) ((Int32.ofInt 1))) = 0 from c4)] at hq
        refine g_blk hz0 kX0_isForced_54 ?_
        subst hq
        exact ⟨fun _ => Or.inl rfl, rfl, rfl⟩
    · rw [if_pos (show (f_X3_onTurn s p) = me from c2)] at hq
      replace hp := hp.1 c2
      refine g_blk hz0 kX0_isForced_18 ?_
      refine g_blk hz0 kX0_isForced_23 ?_
      refine cVp [16, 17, 18, 19, 20, 21, 22, 23, 24, 25, 26, 27] (wP s p) (s_X3_menOf s p ((Int32.ofInt 1) - me) hp.1) rfl cwX3_menOf dX0_isForced_29 rfl rfl (hm24_HP_P _ _ _ _) ?_
      replace hp := hp.2
      refine g_blk hz0 kX0_isForced_32 ?_
      refine ⟨fun c => absurd c (by decide), fun _ => ?_⟩
      refine g_blk hz0 kX0_isForced_37 ?_
      refine ⟨by decide, ?_⟩
      refine cS0 (s_X0_canBeTaken (f_X3_menOf s p ((Int32.ofInt 1) - me)) ((Int32.ofInt 1))) rfl cwX0_canBeTaken dX0_isForced_48 rfl ?_
      refine g_blk hz0 kX0_isForced_51 ?_
      refine ⟨fun c3 => ?_, fun c3 => ?_⟩
      · rw [if_neg (show ¬ ((f_X0_canBeTaken (f_X3_menOf s p ((Int32.ofInt 1) - me)) ((Int32.ofInt 1))) = 0) from c3)] at hq
        replace hp := hp.2 c3
        refine g_blk hz0 kX0_isForced_56 ?_
        refine g_le (L2 := [some (.ref 0), some (.ref 16), some (.int me), some (.int (Int32.ofInt 2)), some (.int (Int32.ofInt 1)), some (.int (Int32.ofInt 0)), none, none]) ⟨rfl, rfl, rfl, rfl, rfl, rfl, trivial⟩ ?_
        exact l_X0_isForced_c2_59 sc zq 4000000000 o h s p me ((Int32.ofInt 1)) ((Int32.ofInt 0)) hp hq
      · rw [if_pos (show (f_X0_canBeTaken (f_X3_menOf s p ((Int32.ofInt 1) - me)) ((Int32.ofInt 1))) = 0 from c3)] at hq
        refine g_blk hz0 kX0_isForced_54 ?_
        subst hq
        exact ⟨fun _ => Or.inl rfl, rfl, rfl⟩
  · rw [if_pos (show (f_X3_winner s p) = me from c1)] at hq
    refine g_blk hz0 kX0_isForced_8 ?_
    subst hq
    exact ⟨fun _ => Or.inr rfl, rfl, rfl⟩

set_option maxHeartbeats 16000000 in
theorem hm32_HP_P8 (o : Rec) (h : Rec) (s : Rec) (p : Rec) : [16, 17, 18, 19, 20, 21, 22, 23, 24, 25, 26, 27, 15].map (lk (wHP o h s p)) = (wP8 s p ((fun _ => 0, fun _ => h.2 203) : Rec)).map (fun e => some (ren [16, 17, 18, 19, 20, 21, 22, 23, 24, 25, 26, 27, 15] e)) := rfl
set_option maxHeartbeats 16000000 in
theorem pw50_HP_P8 (o : Rec) (h : Rec) (s : Rec) (p : Rec) (a9 : Rec) : putW (wHP o h s p) [16, 17, 18, 19, 20, 21, 22, 23, 24, 25, 26, 27, 15] ((wP8 s p a9).map (ren [16, 17, 18, 19, 20, 21, 22, 23, 24, 25, 26, 27, 15])) = (wHP o (setA h 203 (a9.2 0)) s p) := rfl
set_option maxHeartbeats 16000000 in
theorem hm33_HP_PA (o : Rec) (h : Rec) (s : Rec) (p : Rec) : [16, 17, 18, 19, 20, 21, 22, 23, 24, 25, 26, 27, 10].map (lk (wHP o h s p)) = (wPA s p ((fun _ => 0, fun _ => h.2 103) : Rec)).map (fun e => some (ren [16, 17, 18, 19, 20, 21, 22, 23, 24, 25, 26, 27, 10] e)) := rfl
set_option maxHeartbeats 16000000 in
theorem pw51_HP_PA (o : Rec) (h : Rec) (s : Rec) (p : Rec) (a9 : Rec) : putW (wHP o h s p) [16, 17, 18, 19, 20, 21, 22, 23, 24, 25, 26, 27, 10] ((wPA s p a9).map (ren [16, 17, 18, 19, 20, 21, 22, 23, 24, 25, 26, 27, 10])) = (wHP o (setA h 103 (a9.2 0)) s p) := rfl
set_option maxHeartbeats 16000000 in
theorem pw52_HP_PA (o : Rec) (h : Rec) (s : Rec) (p : Rec) (s9 : Rec) (p9 : Rec) : putW (wHP o h s p) [16, 17, 18, 19, 20, 21, 22, 23, 24, 25, 26, 27, 10] ((wPA s9 p9 ((fun _ => 0, fun _ => h.2 103) : Rec)).map (ren [16, 17, 18, 19, 20, 21, 22, 23, 24, 25, 26, 27, 10])) = (wHP o h s9 p9) := rfl
def f_X0_firstStep_c3_48  : Nat → Rec → Rec → Rec → Rec → Int32 → Int32 → Int32 → Int32 → Int32 → Int32 × Rec × Rec × Rec × Rec
  | 0, o, h, s, p, v2, v4, v6, v7, v8 => (0, o, h, s, p)
  | n + 1, o, h, s, p, v2, v4, v6, v7, v8 => if v6 ≤ v8 then (v7, o, h, s, p) else (if (f_X4_has s ((p.2 4) (Int32.toNatClampNeg ((h.2 203) (Int32.toNatClampNeg (v8 / (Int32.ofInt 8))))))) = 0 then (f_X0_firstStep_c3_48 n o h s p v2 v4 v6 v7 (v8 + (Int32.ofInt 1))) else (if (f_X3_goalOf s p ((s.2 10) (Int32.toNatClampNeg ((p.2 4) (Int32.toNatClampNeg ((h.2 203) (Int32.toNatClampNeg (v8 / (Int32.ofInt 8)))))))) ((s.2 11) (Int32.toNatClampNeg ((p.2 4) (Int32.toNatClampNeg ((h.2 203) (Int32.toNatClampNeg (v8 / (Int32.ofInt 8)))))))) (f_X0_wayOf v8) (f_X0_farOf v8)) = (Int32.ofInt (-1)) then (f_X0_firstStep_c3_48 n o h s p v2 v4 v6 v7 (v8 + (Int32.ofInt 1))) else (if ((f_X0_isForced_c2 o h ((f_X3_carry s p ((h.2 203) (Int32.toNatClampNeg (v8 / (Int32.ofInt 8)))) (f_X3_goalOf s p ((s.2 10) (Int32.toNatClampNeg ((p.2 4) (Int32.toNatClampNeg ((h.2 203) (Int32.toNatClampNeg (v8 / (Int32.ofInt 8)))))))) ((s.2 11) (Int32.toNatClampNeg ((p.2 4) (Int32.toNatClampNeg ((h.2 203) (Int32.toNatClampNeg (v8 / (Int32.ofInt 8)))))))) (f_X0_wayOf v8) (f_X0_farOf v8))).2.1) ((f_X3_carry s p ((h.2 203) (Int32.toNatClampNeg (v8 / (Int32.ofInt 8)))) (f_X3_goalOf s p ((s.2 10) (Int32.toNatClampNeg ((p.2 4) (Int32.toNatClampNeg ((h.2 203) (Int32.toNatClampNeg (v8 / (Int32.ofInt 8)))))))) ((s.2 11) (Int32.toNatClampNeg ((p.2 4) (Int32.toNatClampNeg ((h.2 203) (Int32.toNatClampNeg (v8 / (Int32.ofInt 8)))))))) (f_X0_wayOf v8) (f_X0_farOf v8))).2.2) v2).1) = v4 then (v8, ((f_X0_isForced_c2 o h ((f_X3_carry s p ((h.2 203) (Int32.toNatClampNeg (v8 / (Int32.ofInt 8)))) (f_X3_goalOf s p ((s.2 10) (Int32.toNatClampNeg ((p.2 4) (Int32.toNatClampNeg ((h.2 203) (Int32.toNatClampNeg (v8 / (Int32.ofInt 8)))))))) ((s.2 11) (Int32.toNatClampNeg ((p.2 4) (Int32.toNatClampNeg ((h.2 203) (Int32.toNatClampNeg (v8 / (Int32.ofInt 8)))))))) (f_X0_wayOf v8) (f_X0_farOf v8))).2.1) ((f_X3_carry s p ((h.2 203) (Int32.toNatClampNeg (v8 / (Int32.ofInt 8)))) (f_X3_goalOf s p ((s.2 10) (Int32.toNatClampNeg ((p.2 4) (Int32.toNatClampNeg ((h.2 203) (Int32.toNatClampNeg (v8 / (Int32.ofInt 8)))))))) ((s.2 11) (Int32.toNatClampNeg ((p.2 4) (Int32.toNatClampNeg ((h.2 203) (Int32.toNatClampNeg (v8 / (Int32.ofInt 8)))))))) (f_X0_wayOf v8) (f_X0_farOf v8))).2.2) v2).2.1), ((f_X0_isForced_c2 o h ((f_X3_carry s p ((h.2 203) (Int32.toNatClampNeg (v8 / (Int32.ofInt 8)))) (f_X3_goalOf s p ((s.2 10) (Int32.toNatClampNeg ((p.2 4) (Int32.toNatClampNeg ((h.2 203) (Int32.toNatClampNeg (v8 / (Int32.ofInt 8)))))))) ((s.2 11) (Int32.toNatClampNeg ((p.2 4) (Int32.toNatClampNeg ((h.2 203) (Int32.toNatClampNeg (v8 / (Int32.ofInt 8)))))))) (f_X0_wayOf v8) (f_X0_farOf v8))).2.1) ((f_X3_carry s p ((h.2 203) (Int32.toNatClampNeg (v8 / (Int32.ofInt 8)))) (f_X3_goalOf s p ((s.2 10) (Int32.toNatClampNeg ((p.2 4) (Int32.toNatClampNeg ((h.2 203) (Int32.toNatClampNeg (v8 / (Int32.ofInt 8)))))))) ((s.2 11) (Int32.toNatClampNeg ((p.2 4) (Int32.toNatClampNeg ((h.2 203) (Int32.toNatClampNeg (v8 / (Int32.ofInt 8)))))))) (f_X0_wayOf v8) (f_X0_farOf v8))).2.2) v2).2.2.1), ((f_X3_load ((f_X0_isForced_c2 o h ((f_X3_carry s p ((h.2 203) (Int32.toNatClampNeg (v8 / (Int32.ofInt 8)))) (f_X3_goalOf s p ((s.2 10) (Int32.toNatClampNeg ((p.2 4) (Int32.toNatClampNeg ((h.2 203) (Int32.toNatClampNeg (v8 / (Int32.ofInt 8)))))))) ((s.2 11) (Int32.toNatClampNeg ((p.2 4) (Int32.toNatClampNeg ((h.2 203) (Int32.toNatClampNeg (v8 / (Int32.ofInt 8)))))))) (f_X0_wayOf v8) (f_X0_farOf v8))).2.1) ((f_X3_carry s p ((h.2 203) (Int32.toNatClampNeg (v8 / (Int32.ofInt 8)))) (f_X3_goalOf s p ((s.2 10) (Int32.toNatClampNeg ((p.2 4) (Int32.toNatClampNeg ((h.2 203) (Int32.toNatClampNeg (v8 / (Int32.ofInt 8)))))))) ((s.2 11) (Int32.toNatClampNeg ((p.2 4) (Int32.toNatClampNeg ((h.2 203) (Int32.toNatClampNeg (v8 / (Int32.ofInt 8)))))))) (f_X0_wayOf v8) (f_X0_farOf v8))).2.2) v2).2.2.2.1) ((f_X0_isForced_c2 o h ((f_X3_carry s p ((h.2 203) (Int32.toNatClampNeg (v8 / (Int32.ofInt 8)))) (f_X3_goalOf s p ((s.2 10) (Int32.toNatClampNeg ((p.2 4) (Int32.toNatClampNeg ((h.2 203) (Int32.toNatClampNeg (v8 / (Int32.ofInt 8)))))))) ((s.2 11) (Int32.toNatClampNeg ((p.2 4) (Int32.toNatClampNeg ((h.2 203) (Int32.toNatClampNeg (v8 / (Int32.ofInt 8)))))))) (f_X0_wayOf v8) (f_X0_farOf v8))).2.1) ((f_X3_carry s p ((h.2 203) (Int32.toNatClampNeg (v8 / (Int32.ofInt 8)))) (f_X3_goalOf s p ((s.2 10) (Int32.toNatClampNeg ((p.2 4) (Int32.toNatClampNeg ((h.2 203) (Int32.toNatClampNeg (v8 / (Int32.ofInt 8)))))))) ((s.2 11) (Int32.toNatClampNeg ((p.2 4) (Int32.toNatClampNeg ((h.2 203) (Int32.toNatClampNeg (v8 / (Int32.ofInt 8)))))))) (f_X0_wayOf v8) (f_X0_farOf v8))).2.2) v2).2.2.2.2) ((fun _ => 0, fun _ => (((f_X0_isForced_c2 o h ((f_X3_carry s p ((h.2 203) (Int32.toNatClampNeg (v8 / (Int32.ofInt 8)))) (f_X3_goalOf s p ((s.2 10) (Int32.toNatClampNeg ((p.2 4) (Int32.toNatClampNeg ((h.2 203) (Int32.toNatClampNeg (v8 / (Int32.ofInt 8)))))))) ((s.2 11) (Int32.toNatClampNeg ((p.2 4) (Int32.toNatClampNeg ((h.2 203) (Int32.toNatClampNeg (v8 / (Int32.ofInt 8)))))))) (f_X0_wayOf v8) (f_X0_farOf v8))).2.1) ((f_X3_carry s p ((h.2 203) (Int32.toNatClampNeg (v8 / (Int32.ofInt 8)))) (f_X3_goalOf s p ((s.2 10) (Int32.toNatClampNeg ((p.2 4) (Int32.toNatClampNeg ((h.2 203) (Int32.toNatClampNeg (v8 / (Int32.ofInt 8)))))))) ((s.2 11) (Int32.toNatClampNeg ((p.2 4) (Int32.toNatClampNeg ((h.2 203) (Int32.toNatClampNeg (v8 / (Int32.ofInt 8)))))))) (f_X0_wayOf v8) (f_X0_farOf v8))).2.2) v2).2.2.1).2 103)) : Rec)).1), ((f_X3_load ((f_X0_isForced_c2 o h ((f_X3_carry s p ((h.2 203) (Int32.toNatClampNeg (v8 / (Int32.ofInt 8)))) (f_X3_goalOf s p ((s.2 10) (Int32.toNatClampNeg ((p.2 4) (Int32.toNatClampNeg ((h.2 203) (Int32.toNatClampNeg (v8 / (Int32.ofInt 8)))))))) ((s.2 11) (Int32.toNatClampNeg ((p.2 4) (Int32.toNatClampNeg ((h.2 203) (Int32.toNatClampNeg (v8 / (Int32.ofInt 8)))))))) (f_X0_wayOf v8) (f_X0_farOf v8))).2.1) ((f_X3_carry s p ((h.2 203) (Int32.toNatClampNeg (v8 / (Int32.ofInt 8)))) (f_X3_goalOf s p ((s.2 10) (Int32.toNatClampNeg ((p.2 4) (Int32.toNatClampNeg ((h.2 203) (Int32.toNatClampNeg (v8 / (Int32.ofInt 8)))))))) ((s.2 11) (Int32.toNatClampNeg ((p.2 4) (Int32.toNatClampNeg ((h.2 203) (Int32.toNatClampNeg (v8 / (Int32.ofInt 8)))))))) (f_X0_wayOf v8) (f_X0_farOf v8))).2.2) v2).2.2.2.1) ((f_X0_isForced_c2 o h ((f_X3_carry s p ((h.2 203) (Int32.toNatClampNeg (v8 / (Int32.ofInt 8)))) (f_X3_goalOf s p ((s.2 10) (Int32.toNatClampNeg ((p.2 4) (Int32.toNatClampNeg ((h.2 203) (Int32.toNatClampNeg (v8 / (Int32.ofInt 8)))))))) ((s.2 11) (Int32.toNatClampNeg ((p.2 4) (Int32.toNatClampNeg ((h.2 203) (Int32.toNatClampNeg (v8 / (Int32.ofInt 8)))))))) (f_X0_wayOf v8) (f_X0_farOf v8))).2.1) ((f_X3_carry s p ((h.2 203) (Int32.toNatClampNeg (v8 / (Int32.ofInt 8)))) (f_X3_goalOf s p ((s.2 10) (Int32.toNatClampNeg ((p.2 4) (Int32.toNatClampNeg ((h.2 203) (Int32.toNatClampNeg (v8 / (Int32.ofInt 8)))))))) ((s.2 11) (Int32.toNatClampNeg ((p.2 4) (Int32.toNatClampNeg ((h.2 203) (Int32.toNatClampNeg (v8 / (Int32.ofInt 8)))))))) (f_X0_wayOf v8) (f_X0_farOf v8))).2.2) v2).2.2.2.2) ((fun _ => 0, fun _ => (((f_X0_isForced_c2 o h ((f_X3_carry s p ((h.2 203) (Int32.toNatClampNeg (v8 / (Int32.ofInt 8)))) (f_X3_goalOf s p ((s.2 10) (Int32.toNatClampNeg ((p.2 4) (Int32.toNatClampNeg ((h.2 203) (Int32.toNatClampNeg (v8 / (Int32.ofInt 8)))))))) ((s.2 11) (Int32.toNatClampNeg ((p.2 4) (Int32.toNatClampNeg ((h.2 203) (Int32.toNatClampNeg (v8 / (Int32.ofInt 8)))))))) (f_X0_wayOf v8) (f_X0_farOf v8))).2.1) ((f_X3_carry s p ((h.2 203) (Int32.toNatClampNeg (v8 / (Int32.ofInt 8)))) (f_X3_goalOf s p ((s.2 10) (Int32.toNatClampNeg ((p.2 4) (Int32.toNatClampNeg ((h.2 203) (Int32.toNatClampNeg (v8 / (Int32.ofInt 8)))))))) ((s.2 11) (Int32.toNatClampNeg ((p.2 4) (Int32.toNatClampNeg ((h.2 203) (Int32.toNatClampNeg (v8 / (Int32.ofInt 8)))))))) (f_X0_wayOf v8) (f_X0_farOf v8))).2.2) v2).2.2.1).2 103)) : Rec)).2)) else (f_X0_firstStep_c3_48 n ((f_X0_isForced_c2 o h ((f_X3_carry s p ((h.2 203) (Int32.toNatClampNeg (v8 / (Int32.ofInt 8)))) (f_X3_goalOf s p ((s.2 10) (Int32.toNatClampNeg ((p.2 4) (Int32.toNatClampNeg ((h.2 203) (Int32.toNatClampNeg (v8 / (Int32.ofInt 8)))))))) ((s.2 11) (Int32.toNatClampNeg ((p.2 4) (Int32.toNatClampNeg ((h.2 203) (Int32.toNatClampNeg (v8 / (Int32.ofInt 8)))))))) (f_X0_wayOf v8) (f_X0_farOf v8))).2.1) ((f_X3_carry s p ((h.2 203) (Int32.toNatClampNeg (v8 / (Int32.ofInt 8)))) (f_X3_goalOf s p ((s.2 10) (Int32.toNatClampNeg ((p.2 4) (Int32.toNatClampNeg ((h.2 203) (Int32.toNatClampNeg (v8 / (Int32.ofInt 8)))))))) ((s.2 11) (Int32.toNatClampNeg ((p.2 4) (Int32.toNatClampNeg ((h.2 203) (Int32.toNatClampNeg (v8 / (Int32.ofInt 8)))))))) (f_X0_wayOf v8) (f_X0_farOf v8))).2.2) v2).2.1) ((f_X0_isForced_c2 o h ((f_X3_carry s p ((h.2 203) (Int32.toNatClampNeg (v8 / (Int32.ofInt 8)))) (f_X3_goalOf s p ((s.2 10) (Int32.toNatClampNeg ((p.2 4) (Int32.toNatClampNeg ((h.2 203) (Int32.toNatClampNeg (v8 / (Int32.ofInt 8)))))))) ((s.2 11) (Int32.toNatClampNeg ((p.2 4) (Int32.toNatClampNeg ((h.2 203) (Int32.toNatClampNeg (v8 / (Int32.ofInt 8)))))))) (f_X0_wayOf v8) (f_X0_farOf v8))).2.1) ((f_X3_carry s p ((h.2 203) (Int32.toNatClampNeg (v8 / (Int32.ofInt 8)))) (f_X3_goalOf s p ((s.2 10) (Int32.toNatClampNeg ((p.2 4) (Int32.toNatClampNeg ((h.2 203) (Int32.toNatClampNeg (v8 / (Int32.ofInt 8)))))))) ((s.2 11) (Int32.toNatClampNeg ((p.2 4) (Int32.toNatClampNeg ((h.2 203) (Int32.toNatClampNeg (v8 / (Int32.ofInt 8)))))))) (f_X0_wayOf v8) (f_X0_farOf v8))).2.2) v2).2.2.1) ((f_X3_load ((f_X0_isForced_c2 o h ((f_X3_carry s p ((h.2 203) (Int32.toNatClampNeg (v8 / (Int32.ofInt 8)))) (f_X3_goalOf s p ((s.2 10) (Int32.toNatClampNeg ((p.2 4) (Int32.toNatClampNeg ((h.2 203) (Int32.toNatClampNeg (v8 / (Int32.ofInt 8)))))))) ((s.2 11) (Int32.toNatClampNeg ((p.2 4) (Int32.toNatClampNeg ((h.2 203) (Int32.toNatClampNeg (v8 / (Int32.ofInt 8)))))))) (f_X0_wayOf v8) (f_X0_farOf v8))).2.1) ((f_X3_carry s p ((h.2 203) (Int32.toNatClampNeg (v8 / (Int32.ofInt 8)))) (f_X3_goalOf s p ((s.2 10) (Int32.toNatClampNeg ((p.2 4) (Int32.toNatClampNeg ((h.2 203) (Int32.toNatClampNeg (v8 / (Int32.ofInt 8)))))))) ((s.2 11) (Int32.toNatClampNeg ((p.2 4) (Int32.toNatClampNeg ((h.2 203) (Int32.toNatClampNeg (v8 / (Int32.ofInt 8)))))))) (f_X0_wayOf v8) (f_X0_farOf v8))).2.2) v2).2.2.2.1) ((f_X0_isForced_c2 o h ((f_X3_carry s p ((h.2 203) (Int32.toNatClampNeg (v8 / (Int32.ofInt 8)))) (f_X3_goalOf s p ((s.2 10) (Int32.toNatClampNeg ((p.2 4) (Int32.toNatClampNeg ((h.2 203) (Int32.toNatClampNeg (v8 / (Int32.ofInt 8)))))))) ((s.2 11) (Int32.toNatClampNeg ((p.2 4) (Int32.toNatClampNeg ((h.2 203) (Int32.toNatClampNeg (v8 / (Int32.ofInt 8)))))))) (f_X0_wayOf v8) (f_X0_farOf v8))).2.1) ((f_X3_carry s p ((h.2 203) (Int32.toNatClampNeg (v8 / (Int32.ofInt 8)))) (f_X3_goalOf s p ((s.2 10) (Int32.toNatClampNeg ((p.2 4) (Int32.toNatClampNeg ((h.2 203) (Int32.toNatClampNeg (v8 / (Int32.ofInt 8)))))))) ((s.2 11) (Int32.toNatClampNeg ((p.2 4) (Int32.toNatClampNeg ((h.2 203) (Int32.toNatClampNeg (v8 / (Int32.ofInt 8)))))))) (f_X0_wayOf v8) (f_X0_farOf v8))).2.2) v2).2.2.2.2) ((fun _ => 0, fun _ => (((f_X0_isForced_c2 o h ((f_X3_carry s p ((h.2 203) (Int32.toNatClampNeg (v8 / (Int32.ofInt 8)))) (f_X3_goalOf s p ((s.2 10) (Int32.toNatClampNeg ((p.2 4) (Int32.toNatClampNeg ((h.2 203) (Int32.toNatClampNeg (v8 / (Int32.ofInt 8)))))))) ((s.2 11) (Int32.toNatClampNeg ((p.2 4) (Int32.toNatClampNeg ((h.2 203) (Int32.toNatClampNeg (v8 / (Int32.ofInt 8)))))))) (f_X0_wayOf v8) (f_X0_farOf v8))).2.1) ((f_X3_carry s p ((h.2 203) (Int32.toNatClampNeg (v8 / (Int32.ofInt 8)))) (f_X3_goalOf s p ((s.2 10) (Int32.toNatClampNeg ((p.2 4) (Int32.toNatClampNeg ((h.2 203) (Int32.toNatClampNeg (v8 / (Int32.ofInt 8)))))))) ((s.2 11) (Int32.toNatClampNeg ((p.2 4) (Int32.toNatClampNeg ((h.2 203) (Int32.toNatClampNeg (v8 / (Int32.ofInt 8)))))))) (f_X0_wayOf v8) (f_X0_farOf v8))).2.2) v2).2.2.1).2 103)) : Rec)).1) ((f_X3_load ((f_X0_isForced_c2 o h ((f_X3_carry s p ((h.2 203) (Int32.toNatClampNeg (v8 / (Int32.ofInt 8)))) (f_X3_goalOf s p ((s.2 10) (Int32.toNatClampNeg ((p.2 4) (Int32.toNatClampNeg ((h.2 203) (Int32.toNatClampNeg (v8 / (Int32.ofInt 8)))))))) ((s.2 11) (Int32.toNatClampNeg ((p.2 4) (Int32.toNatClampNeg ((h.2 203) (Int32.toNatClampNeg (v8 / (Int32.ofInt 8)))))))) (f_X0_wayOf v8) (f_X0_farOf v8))).2.1) ((f_X3_carry s p ((h.2 203) (Int32.toNatClampNeg (v8 / (Int32.ofInt 8)))) (f_X3_goalOf s p ((s.2 10) (Int32.toNatClampNeg ((p.2 4) (Int32.toNatClampNeg ((h.2 203) (Int32.toNatClampNeg (v8 / (Int32.ofInt 8)))))))) ((s.2 11) (Int32.toNatClampNeg ((p.2 4) (Int32.toNatClampNeg ((h.2 203) (Int32.toNatClampNeg (v8 / (Int32.ofInt 8)))))))) (f_X0_wayOf v8) (f_X0_farOf v8))).2.2) v2).2.2.2.1) ((f_X0_isForced_c2 o h ((f_X3_carry s p ((h.2 203) (Int32.toNatClampNeg (v8 / (Int32.ofInt 8)))) (f_X3_goalOf s p ((s.2 10) (Int32.toNatClampNeg ((p.2 4) (Int32.toNatClampNeg ((h.2 203) (Int32.toNatClampNeg (v8 / (Int32.ofInt 8)))))))) ((s.2 11) (Int32.toNatClampNeg ((p.2 4) (Int32.toNatClampNeg ((h.2 203) (Int32.toNatClampNeg (v8 / (Int32.ofInt 8)))))))) (f_X0_wayOf v8) (f_X0_farOf v8))).2.1) ((f_X3_carry s p ((h.2 203) (Int32.toNatClampNeg (v8 / (Int32.ofInt 8)))) (f_X3_goalOf s p ((s.2 10) (Int32.toNatClampNeg ((p.2 4) (Int32.toNatClampNeg ((h.2 203) (Int32.toNatClampNeg (v8 / (Int32.ofInt 8)))))))) ((s.2 11) (Int32.toNatClampNeg ((p.2 4) (Int32.toNatClampNeg ((h.2 203) (Int32.toNatClampNeg (v8 / (Int32.ofInt 8)))))))) (f_X0_wayOf v8) (f_X0_farOf v8))).2.2) v2).2.2.2.2) ((fun _ => 0, fun _ => (((f_X0_isForced_c2 o h ((f_X3_carry s p ((h.2 203) (Int32.toNatClampNeg (v8 / (Int32.ofInt 8)))) (f_X3_goalOf s p ((s.2 10) (Int32.toNatClampNeg ((p.2 4) (Int32.toNatClampNeg ((h.2 203) (Int32.toNatClampNeg (v8 / (Int32.ofInt 8)))))))) ((s.2 11) (Int32.toNatClampNeg ((p.2 4) (Int32.toNatClampNeg ((h.2 203) (Int32.toNatClampNeg (v8 / (Int32.ofInt 8)))))))) (f_X0_wayOf v8) (f_X0_farOf v8))).2.1) ((f_X3_carry s p ((h.2 203) (Int32.toNatClampNeg (v8 / (Int32.ofInt 8)))) (f_X3_goalOf s p ((s.2 10) (Int32.toNatClampNeg ((p.2 4) (Int32.toNatClampNeg ((h.2 203) (Int32.toNatClampNeg (v8 / (Int32.ofInt 8)))))))) ((s.2 11) (Int32.toNatClampNeg ((p.2 4) (Int32.toNatClampNeg ((h.2 203) (Int32.toNatClampNeg (v8 / (Int32.ofInt 8)))))))) (f_X0_wayOf v8) (f_X0_farOf v8))).2.2) v2).2.2.1).2 103)) : Rec)).2) v2 v4 v6 ((Int32.ofInt (-1))) (v8 + (Int32.ofInt 1))))))
def p_X0_firstStep_c3_48  : Nat → Rec → Rec → Rec → Rec → Int32 → Int32 → Int32 → Int32 → Int32 → Prop
  | 0, _, _, _, _, _, _, _, _, _ => False
  | n + 1, o, h, s, p, v2, v4, v6, v7, v8 => (v6 ≤ v8 → True) ∧ (¬ (v6 ≤ v8) → (vp_in (v8 / (Int32.ofInt 8)) 8 ∧ (vp_in ((h.2 203) (Int32.toNatClampNeg (v8 / (Int32.ofInt 8)))) 8 ∧ ((p_X4_has s ((p.2 4) (Int32.toNatClampNeg ((h.2 203) (Int32.toNatClampNeg (v8 / (Int32.ofInt 8))))))) ∧ (((f_X4_has s ((p.2 4) (Int32.toNatClampNeg ((h.2 203) (Int32.toNatClampNeg (v8 / (Int32.ofInt 8))))))) = 0 → (p_X0_firstStep_c3_48 n o h s p v2 v4 v6 v7 (v8 + (Int32.ofInt 1)))) ∧ (¬ ((f_X4_has s ((p.2 4) (Int32.toNatClampNeg ((h.2 203) (Int32.toNatClampNeg (v8 / (Int32.ofInt 8))))))) = 0) → (vp_in ((p.2 4) (Int32.toNatClampNeg ((h.2 203) (Int32.toNatClampNeg (v8 / (Int32.ofInt 8)))))) 36 ∧ (vp_in ((p.2 4) (Int32.toNatClampNeg ((h.2 203) (Int32.toNatClampNeg (v8 / (Int32.ofInt 8)))))) 36 ∧ ((p_X3_goalOf s p ((s.2 10) (Int32.toNatClampNeg ((p.2 4) (Int32.toNatClampNeg ((h.2 203) (Int32.toNatClampNeg (v8 / (Int32.ofInt 8)))))))) ((s.2 11) (Int32.toNatClampNeg ((p.2 4) (Int32.toNatClampNeg ((h.2 203) (Int32.toNatClampNeg (v8 / (Int32.ofInt 8)))))))) (f_X0_wayOf v8) (f_X0_farOf v8)) ∧ (((f_X3_goalOf s p ((s.2 10) (Int32.toNatClampNeg ((p.2 4) (Int32.toNatClampNeg ((h.2 203) (Int32.toNatClampNeg (v8 / (Int32.ofInt 8)))))))) ((s.2 11) (Int32.toNatClampNeg ((p.2 4) (Int32.toNatClampNeg ((h.2 203) (Int32.toNatClampNeg (v8 / (Int32.ofInt 8)))))))) (f_X0_wayOf v8) (f_X0_farOf v8)) = (Int32.ofInt (-1)) → (p_X0_firstStep_c3_48 n o h s p v2 v4 v6 v7 (v8 + (Int32.ofInt 1)))) ∧ (¬ ((f_X3_goalOf s p ((s.2 10) (Int32.toNatClampNeg ((p.2 4) (Int32.toNatClampNeg ((h.2 203) (Int32.toNatClampNeg (v8 / (Int32.ofInt 8)))))))) ((s.2 11) (Int32.toNatClampNeg ((p.2 4) (Int32.toNatClampNeg ((h.2 203) (Int32.toNatClampNeg (v8 / (Int32.ofInt 8)))))))) (f_X0_wayOf v8) (f_X0_farOf v8)) = (Int32.ofInt (-1))) → ((p_X3_carry s p ((h.2 203) (Int32.toNatClampNeg (v8 / (Int32.ofInt 8)))) (f_X3_goalOf s p ((s.2 10) (Int32.toNatClampNeg ((p.2 4) (Int32.toNatClampNeg ((h.2 203) (Int32.toNatClampNeg (v8 / (Int32.ofInt 8)))))))) ((s.2 11) (Int32.toNatClampNeg ((p.2 4) (Int32.toNatClampNeg ((h.2 203) (Int32.toNatClampNeg (v8 / (Int32.ofInt 8)))))))) (f_X0_wayOf v8) (f_X0_farOf v8))) ∧ ((p_X0_isForced_c2 o h ((f_X3_carry s p ((h.2 203) (Int32.toNatClampNeg (v8 / (Int32.ofInt 8)))) (f_X3_goalOf s p ((s.2 10) (Int32.toNatClampNeg ((p.2 4) (Int32.toNatClampNeg ((h.2 203) (Int32.toNatClampNeg (v8 / (Int32.ofInt 8)))))))) ((s.2 11) (Int32.toNatClampNeg ((p.2 4) (Int32.toNatClampNeg ((h.2 203) (Int32.toNatClampNeg (v8 / (Int32.ofInt 8)))))))) (f_X0_wayOf v8) (f_X0_farOf v8))).2.1) ((f_X3_carry s p ((h.2 203) (Int32.toNatClampNeg (v8 / (Int32.ofInt 8)))) (f_X3_goalOf s p ((s.2 10) (Int32.toNatClampNeg ((p.2 4) (Int32.toNatClampNeg ((h.2 203) (Int32.toNatClampNeg (v8 / (Int32.ofInt 8)))))))) ((s.2 11) (Int32.toNatClampNeg ((p.2 4) (Int32.toNatClampNeg ((h.2 203) (Int32.toNatClampNeg (v8 / (Int32.ofInt 8)))))))) (f_X0_wayOf v8) (f_X0_farOf v8))).2.2) v2) ∧ ((p_X3_load ((f_X0_isForced_c2 o h ((f_X3_carry s p ((h.2 203) (Int32.toNatClampNeg (v8 / (Int32.ofInt 8)))) (f_X3_goalOf s p ((s.2 10) (Int32.toNatClampNeg ((p.2 4) (Int32.toNatClampNeg ((h.2 203) (Int32.toNatClampNeg (v8 / (Int32.ofInt 8)))))))) ((s.2 11) (Int32.toNatClampNeg ((p.2 4) (Int32.toNatClampNeg ((h.2 203) (Int32.toNatClampNeg (v8 / (Int32.ofInt 8)))))))) (f_X0_wayOf v8) (f_X0_farOf v8))).2.1) ((f_X3_carry s p ((h.2 203) (Int32.toNatClampNeg (v8 / (Int32.ofInt 8)))) (f_X3_goalOf s p ((s.2 10) (Int32.toNatClampNeg ((p.2 4) (Int32.toNatClampNeg ((h.2 203) (Int32.toNatClampNeg (v8 / (Int32.ofInt 8)))))))) ((s.2 11) (Int32.toNatClampNeg ((p.2 4) (Int32.toNatClampNeg ((h.2 203) (Int32.toNatClampNeg (v8 / (Int32.ofInt 8)))))))) (f_X0_wayOf v8) (f_X0_farOf v8))).2.2) v2).2.2.2.1) ((f_X0_isForced_c2 o h ((f_X3_carry s p ((h.2 203) (Int32.toNatClampNeg (v8 / (Int32.ofInt 8)))) (f_X3_goalOf s p ((s.2 10) (Int32.toNatClampNeg ((p.2 4) (Int32.toNatClampNeg ((h.2 203) (Int32.toNatClampNeg (v8 / (Int32.ofInt 8)))))))) ((s.2 11) (Int32.toNatClampNeg ((p.2 4) (Int32.toNatClampNeg ((h.2 203) (Int32.toNatClampNeg (v8 / (Int32.ofInt 8)))))))) (f_X0_wayOf v8) (f_X0_farOf v8))).2.1) ((f_X3_carry s p ((h.2 203) (Int32.toNatClampNeg (v8 / (Int32.ofInt 8)))) (f_X3_goalOf s p ((s.2 10) (Int32.toNatClampNeg ((p.2 4) (Int32.toNatClampNeg ((h.2 203) (Int32.toNatClampNeg (v8 / (Int32.ofInt 8)))))))) ((s.2 11) (Int32.toNatClampNeg ((p.2 4) (Int32.toNatClampNeg ((h.2 203) (Int32.toNatClampNeg (v8 / (Int32.ofInt 8)))))))) (f_X0_wayOf v8) (f_X0_farOf v8))).2.2) v2).2.2.2.2) ((fun _ => 0, fun _ => (((f_X0_isForced_c2 o h ((f_X3_carry s p ((h.2 203) (Int32.toNatClampNeg (v8 / (Int32.ofInt 8)))) (f_X3_goalOf s p ((s.2 10) (Int32.toNatClampNeg ((p.2 4) (Int32.toNatClampNeg ((h.2 203) (Int32.toNatClampNeg (v8 / (Int32.ofInt 8)))))))) ((s.2 11) (Int32.toNatClampNeg ((p.2 4) (Int32.toNatClampNeg ((h.2 203) (Int32.toNatClampNeg (v8 / (Int32.ofInt 8)))))))) (f_X0_wayOf v8) (f_X0_farOf v8))).2.1) ((f_X3_carry s p ((h.2 203) (Int32.toNatClampNeg (v8 / (Int32.ofInt 8)))) (f_X3_goalOf s p ((s.2 10) (Int32.toNatClampNeg ((p.2 4) (Int32.toNatClampNeg ((h.2 203) (Int32.toNatClampNeg (v8 / (Int32.ofInt 8)))))))) ((s.2 11) (Int32.toNatClampNeg ((p.2 4) (Int32.toNatClampNeg ((h.2 203) (Int32.toNatClampNeg (v8 / (Int32.ofInt 8)))))))) (f_X0_wayOf v8) (f_X0_farOf v8))).2.2) v2).2.2.1).2 103)) : Rec)) ∧ ((((f_X0_isForced_c2 o h ((f_X3_carry s p ((h.2 203) (Int32.toNatClampNeg (v8 / (Int32.ofInt 8)))) (f_X3_goalOf s p ((s.2 10) (Int32.toNatClampNeg ((p.2 4) (Int32.toNatClampNeg ((h.2 203) (Int32.toNatClampNeg (v8 / (Int32.ofInt 8)))))))) ((s.2 11) (Int32.toNatClampNeg ((p.2 4) (Int32.toNatClampNeg ((h.2 203) (Int32.toNatClampNeg (v8 / (Int32.ofInt 8)))))))) (f_X0_wayOf v8) (f_X0_farOf v8))).2.1) ((f_X3_carry s p ((h.2 203) (Int32.toNatClampNeg (v8 / (Int32.ofInt 8)))) (f_X3_goalOf s p ((s.2 10) (Int32.toNatClampNeg ((p.2 4) (Int32.toNatClampNeg ((h.2 203) (Int32.toNatClampNeg (v8 / (Int32.ofInt 8)))))))) ((s.2 11) (Int32.toNatClampNeg ((p.2 4) (Int32.toNatClampNeg ((h.2 203) (Int32.toNatClampNeg (v8 / (Int32.ofInt 8)))))))) (f_X0_wayOf v8) (f_X0_farOf v8))).2.2) v2).1) = v4 → True) ∧ (¬ (((f_X0_isForced_c2 o h ((f_X3_carry s p ((h.2 203) (Int32.toNatClampNeg (v8 / (Int32.ofInt 8)))) (f_X3_goalOf s p ((s.2 10) (Int32.toNatClampNeg ((p.2 4) (Int32.toNatClampNeg ((h.2 203) (Int32.toNatClampNeg (v8 / (Int32.ofInt 8)))))))) ((s.2 11) (Int32.toNatClampNeg ((p.2 4) (Int32.toNatClampNeg ((h.2 203) (Int32.toNatClampNeg (v8 / (Int32.ofInt 8)))))))) (f_X0_wayOf v8) (f_X0_farOf v8))).2.1) ((f_X3_carry s p ((h.2 203) (Int32.toNatClampNeg (v8 / (Int32.ofInt 8)))) (f_X3_goalOf s p ((s.2 10) (Int32.toNatClampNeg ((p.2 4) (Int32.toNatClampNeg ((h.2 203) (Int32.toNatClampNeg (v8 / (Int32.ofInt 8)))))))) ((s.2 11) (Int32.toNatClampNeg ((p.2 4) (Int32.toNatClampNeg ((h.2 203) (Int32.toNatClampNeg (v8 / (Int32.ofInt 8)))))))) (f_X0_wayOf v8) (f_X0_farOf v8))).2.2) v2).1) = v4) → (p_X0_firstStep_c3_48 n ((f_X0_isForced_c2 o h ((f_X3_carry s p ((h.2 203) (Int32.toNatClampNeg (v8 / (Int32.ofInt 8)))) (f_X3_goalOf s p ((s.2 10) (Int32.toNatClampNeg ((p.2 4) (Int32.toNatClampNeg ((h.2 203) (Int32.toNatClampNeg (v8 / (Int32.ofInt 8)))))))) ((s.2 11) (Int32.toNatClampNeg ((p.2 4) (Int32.toNatClampNeg ((h.2 203) (Int32.toNatClampNeg (v8 / (Int32.ofInt 8)))))))) (f_X0_wayOf v8) (f_X0_farOf v8))).2.1) ((f_X3_carry s p ((h.2 203) (Int32.toNatClampNeg (v8 / (Int32.ofInt 8)))) (f_X3_goalOf s p ((s.2 10) (Int32.toNatClampNeg ((p.2 4) (Int32.toNatClampNeg ((h.2 203) (Int32.toNatClampNeg (v8 / (Int32.ofInt 8)))))))) ((s.2 11) (Int32.toNatClampNeg ((p.2 4) (Int32.toNatClampNeg ((h.2 203) (Int32.toNatClampNeg (v8 / (Int32.ofInt 8)))))))) (f_X0_wayOf v8) (f_X0_farOf v8))).2.2) v2).2.1) ((f_X0_isForced_c2 o h ((f_X3_carry s p ((h.2 203) (Int32.toNatClampNeg (v8 / (Int32.ofInt 8)))) (f_X3_goalOf s p ((s.2 10) (Int32.toNatClampNeg ((p.2 4) (Int32.toNatClampNeg ((h.2 203) (Int32.toNatClampNeg (v8 / (Int32.ofInt 8)))))))) ((s.2 11) (Int32.toNatClampNeg ((p.2 4) (Int32.toNatClampNeg ((h.2 203) (Int32.toNatClampNeg (v8 / (Int32.ofInt 8)))))))) (f_X0_wayOf v8) (f_X0_farOf v8))).2.1) ((f_X3_carry s p ((h.2 203) (Int32.toNatClampNeg (v8 / (Int32.ofInt 8)))) (f_X3_goalOf s p ((s.2 10) (Int32.toNatClampNeg ((p.2 4) (Int32.toNatClampNeg ((h.2 203) (Int32.toNatClampNeg (v8 / (Int32.ofInt 8)))))))) ((s.2 11) (Int32.toNatClampNeg ((p.2 4) (Int32.toNatClampNeg ((h.2 203) (Int32.toNatClampNeg (v8 / (Int32.ofInt 8)))))))) (f_X0_wayOf v8) (f_X0_farOf v8))).2.2) v2).2.2.1) ((f_X3_load ((f_X0_isForced_c2 o h ((f_X3_carry s p ((h.2 203) (Int32.toNatClampNeg (v8 / (Int32.ofInt 8)))) (f_X3_goalOf s p ((s.2 10) (Int32.toNatClampNeg ((p.2 4) (Int32.toNatClampNeg ((h.2 203) (Int32.toNatClampNeg (v8 / (Int32.ofInt 8)))))))) ((s.2 11) (Int32.toNatClampNeg ((p.2 4) (Int32.toNatClampNeg ((h.2 203) (Int32.toNatClampNeg (v8 / (Int32.ofInt 8)))))))) (f_X0_wayOf v8) (f_X0_farOf v8))).2.1) ((f_X3_carry s p ((h.2 203) (Int32.toNatClampNeg (v8 / (Int32.ofInt 8)))) (f_X3_goalOf s p ((s.2 10) (Int32.toNatClampNeg ((p.2 4) (Int32.toNatClampNeg ((h.2 203) (Int32.toNatClampNeg (v8 / (Int32.ofInt 8)))))))) ((s.2 11) (Int32.toNatClampNeg ((p.2 4) (Int32.toNatClampNeg ((h.2 203) (Int32.toNatClampNeg (v8 / (Int32.ofInt 8)))))))) (f_X0_wayOf v8) (f_X0_farOf v8))).2.2) v2).2.2.2.1) ((f_X0_isForced_c2 o h ((f_X3_carry s p ((h.2 203) (Int32.toNatClampNeg (v8 / (Int32.ofInt 8)))) (f_X3_goalOf s p ((s.2 10) (Int32.toNatClampNeg ((p.2 4) (Int32.toNatClampNeg ((h.2 203) (Int32.toNatClampNeg (v8 / (Int32.ofInt 8)))))))) ((s.2 11) (Int32.toNatClampNeg ((p.2 4) (Int32.toNatClampNeg ((h.2 203) (Int32.toNatClampNeg (v8 / (Int32.ofInt 8)))))))) (f_X0_wayOf v8) (f_X0_farOf v8))).2.1) ((f_X3_carry s p ((h.2 203) (Int32.toNatClampNeg (v8 / (Int32.ofInt 8)))) (f_X3_goalOf s p ((s.2 10) (Int32.toNatClampNeg ((p.2 4) (Int32.toNatClampNeg ((h.2 203) (Int32.toNatClampNeg (v8 / (Int32.ofInt 8)))))))) ((s.2 11) (Int32.toNatClampNeg ((p.2 4) (Int32.toNatClampNeg ((h.2 203) (Int32.toNatClampNeg (v8 / (Int32.ofInt 8)))))))) (f_X0_wayOf v8) (f_X0_farOf v8))).2.2) v2).2.2.2.2) ((fun _ => 0, fun _ => (((f_X0_isForced_c2 o h ((f_X3_carry s p ((h.2 203) (Int32.toNatClampNeg (v8 / (Int32.ofInt 8)))) (f_X3_goalOf s p ((s.2 10) (Int32.toNatClampNeg ((p.2 4) (Int32.toNatClampNeg ((h.2 203) (Int32.toNatClampNeg (v8 / (Int32.ofInt 8)))))))) ((s.2 11) (Int32.toNatClampNeg ((p.2 4) (Int32.toNatClampNeg ((h.2 203) (Int32.toNatClampNeg (v8 / (Int32.ofInt 8)))))))) (f_X0_wayOf v8) (f_X0_farOf v8))).2.1) ((f_X3_carry s p ((h.2 203) (Int32.toNatClampNeg (v8 / (Int32.ofInt 8)))) (f_X3_goalOf s p ((s.2 10) (Int32.toNatClampNeg ((p.2 4) (Int32.toNatClampNeg ((h.2 203) (Int32.toNatClampNeg (v8 / (Int32.ofInt 8)))))))) ((s.2 11) (Int32.toNatClampNeg ((p.2 4) (Int32.toNatClampNeg ((h.2 203) (Int32.toNatClampNeg (v8 / (Int32.ofInt 8)))))))) (f_X0_wayOf v8) (f_X0_farOf v8))).2.2) v2).2.2.1).2 103)) : Rec)).1) ((f_X3_load ((f_X0_isForced_c2 o h ((f_X3_carry s p ((h.2 203) (Int32.toNatClampNeg (v8 / (Int32.ofInt 8)))) (f_X3_goalOf s p ((s.2 10) (Int32.toNatClampNeg ((p.2 4) (Int32.toNatClampNeg ((h.2 203) (Int32.toNatClampNeg (v8 / (Int32.ofInt 8)))))))) ((s.2 11) (Int32.toNatClampNeg ((p.2 4) (Int32.toNatClampNeg ((h.2 203) (Int32.toNatClampNeg (v8 / (Int32.ofInt 8)))))))) (f_X0_wayOf v8) (f_X0_farOf v8))).2.1) ((f_X3_carry s p ((h.2 203) (Int32.toNatClampNeg (v8 / (Int32.ofInt 8)))) (f_X3_goalOf s p ((s.2 10) (Int32.toNatClampNeg ((p.2 4) (Int32.toNatClampNeg ((h.2 203) (Int32.toNatClampNeg (v8 / (Int32.ofInt 8)))))))) ((s.2 11) (Int32.toNatClampNeg ((p.2 4) (Int32.toNatClampNeg ((h.2 203) (Int32.toNatClampNeg (v8 / (Int32.ofInt 8)))))))) (f_X0_wayOf v8) (f_X0_farOf v8))).2.2) v2).2.2.2.1) ((f_X0_isForced_c2 o h ((f_X3_carry s p ((h.2 203) (Int32.toNatClampNeg (v8 / (Int32.ofInt 8)))) (f_X3_goalOf s p ((s.2 10) (Int32.toNatClampNeg ((p.2 4) (Int32.toNatClampNeg ((h.2 203) (Int32.toNatClampNeg (v8 / (Int32.ofInt 8)))))))) ((s.2 11) (Int32.toNatClampNeg ((p.2 4) (Int32.toNatClampNeg ((h.2 203) (Int32.toNatClampNeg (v8 / (Int32.ofInt 8)))))))) (f_X0_wayOf v8) (f_X0_farOf v8))).2.1) ((f_X3_carry s p ((h.2 203) (Int32.toNatClampNeg (v8 / (Int32.ofInt 8)))) (f_X3_goalOf s p ((s.2 10) (Int32.toNatClampNeg ((p.2 4) (Int32.toNatClampNeg ((h.2 203) (Int32.toNatClampNeg (v8 / (Int32.ofInt 8)))))))) ((s.2 11) (Int32.toNatClampNeg ((p.2 4) (Int32.toNatClampNeg ((h.2 203) (Int32.toNatClampNeg (v8 / (Int32.ofInt 8)))))))) (f_X0_wayOf v8) (f_X0_farOf v8))).2.2) v2).2.2.2.2) ((fun _ => 0, fun _ => (((f_X0_isForced_c2 o h ((f_X3_carry s p ((h.2 203) (Int32.toNatClampNeg (v8 / (Int32.ofInt 8)))) (f_X3_goalOf s p ((s.2 10) (Int32.toNatClampNeg ((p.2 4) (Int32.toNatClampNeg ((h.2 203) (Int32.toNatClampNeg (v8 / (Int32.ofInt 8)))))))) ((s.2 11) (Int32.toNatClampNeg ((p.2 4) (Int32.toNatClampNeg ((h.2 203) (Int32.toNatClampNeg (v8 / (Int32.ofInt 8)))))))) (f_X0_wayOf v8) (f_X0_farOf v8))).2.1) ((f_X3_carry s p ((h.2 203) (Int32.toNatClampNeg (v8 / (Int32.ofInt 8)))) (f_X3_goalOf s p ((s.2 10) (Int32.toNatClampNeg ((p.2 4) (Int32.toNatClampNeg ((h.2 203) (Int32.toNatClampNeg (v8 / (Int32.ofInt 8)))))))) ((s.2 11) (Int32.toNatClampNeg ((p.2 4) (Int32.toNatClampNeg ((h.2 203) (Int32.toNatClampNeg (v8 / (Int32.ofInt 8)))))))) (f_X0_wayOf v8) (f_X0_farOf v8))).2.2) v2).2.2.1).2 103)) : Rec)).2) v2 v4 v6 ((Int32.ofInt (-1))) (v8 + (Int32.ofInt 1)))))))))))))))))))
set_option maxHeartbeats 16000000 in
set_option maxRecDepth 20000 in
theorem l_X0_firstStep_c3_48 (sc : SC)   (zq : Int32 × Rec × Rec × Rec × Rec)  : ∀ (n : Nat) (o : Rec) (h : Rec) (s : Rec) (p : Rec) (v2 : Int32) (v4 : Int32) (v6 : Int32) (v7 : Int32) (v8 : Int32), p_X0_firstStep_c3_48 n o h s p v2 v4 v6 v7 v8 → zq = f_X0_firstStep_c3_48 n o h s p v2 v4 v6 v7 v8 → Good sc 9 0 0 28 mX0_firstStep (Ret (some (.int (zq.1))) (wHP (zq.2.1) (zq.2.2.1) (zq.2.2.2.1) (zq.2.2.2.2))) 0 0 48 [some (.ref 0), some (.ref 16), some (.int v2), some (.int (Int32.ofInt 3)), some (.int v4), some (.ref 15), some (.int v6), some (.int v7), some (.int v8), none, none, none, none] [] (wHP o h s p) := by
  intro n
  induction n with
  | zero => intro o h s p v2 v4 v6 v7 v8 hp; exact hp.elim
  | succ n ih =>
    intro o h s p v2 v4 v6 v7 v8 hp hq
    unfold p_X0_firstStep_c3_48 at hp
    unfold f_X0_firstStep_c3_48 at hq
    refine g_blk hz0 kX0_firstStep_48 ?_
    refine ⟨fun c3 => ?_, fun c3 => ?_⟩
    · rw [if_pos (show v6 ≤ v8 from c3)] at hq
      refine g_blk hz0 kX0_firstStep_183 ?_
      subst hq
      exact ⟨fun h => (by cases h), rfl, rfl⟩
    · rw [if_neg (show ¬ (v6 ≤ v8) from c3)] at hq
      replace hp := hp.2 c3
      refine g_blk hz0 kX0_firstStep_55 ?_
      refine ⟨by decide, ?_⟩
      refine ⟨hp.1, ?_⟩
      replace hp := hp.2
      refine ⟨hp.1, ?_⟩
      replace hp := hp.2
      refine cVp [17, 18, 19, 20, 21, 22, 23] (wS s) (s_X4_has s ((p.2 4) (Int32.toNatClampNeg ((h.2 203) (Int32.toNatClampNeg (v8 / (Int32.ofInt 8)))))) hp.1) rfl cwX4_has dX0_firstStep_80 rfl rfl (hm27_HP_S _ _ _ _) ?_
      replace hp := hp.2
      refine g_blk hz0 kX0_firstStep_83 ?_
      refine ⟨fun c4 => ?_, fun c4 => ?_⟩
      · rw [if_neg (show ¬ ((f_X4_has s ((p.2 4) (Int32.toNatClampNeg ((h.2 203) (Int32.toNatClampNeg (v8 / (Int32.ofInt 8))))))) = 0) from c4)] at hq
        replace hp := hp.2 c4
        refine g_blk hz0 kX0_firstStep_89 ?_
        refine ⟨hp.1, ?_⟩
        replace hp := hp.2
        refine ⟨hp.1, ?_⟩
        replace hp := hp.2
        refine cS0 (s_X0_wayOf v8) rfl cwX0_wayOf dX0_firstStep_112 rfl ?_
        refine g_blk hz0 kX0_firstStep_115 ?_
        refine cS0 (s_X0_farOf v8) rfl cwX0_farOf dX0_firstStep_117 rfl ?_
        refine cVp [16, 17, 18, 19, 20, 21, 22, 23, 24, 25, 26, 27] (wP s p) (s_X3_goalOf s p ((s.2 10) (Int32.toNatClampNeg ((p.2 4) (Int32.toNatClampNeg ((h.2 203) (Int32.toNatClampNeg (v8 / (Int32.ofInt 8)))))))) ((s.2 11) (Int32.toNatClampNeg ((p.2 4) (Int32.toNatClampNeg ((h.2 203) (Int32.toNatClampNeg (v8 / (Int32.ofInt 8)))))))) (f_X0_wayOf v8) (f_X0_farOf v8) hp.1) rfl cwX3_goalOf dX0_firstStep_120 rfl rfl (hm24_HP_P _ _ _ _) ?_
        replace hp := hp.2
        refine g_blk hz0 kX0_firstStep_123 ?_
        refine ⟨fun c5 => ?_, fun c5 => ?_⟩
        · rw [if_neg (show ¬ ((f_X3_goalOf s p ((s.2 10) (Int32.toNatClampNeg ((p.2 4) (Int32.toNatClampNeg ((h.2 203) (Int32.toNatClampNeg (v8 / (Int32.ofInt 8)))))))) ((s.2 11) (Int32.toNatClampNeg ((p.2 4) (Int32.toNatClampNeg ((h.2 203) (Int32.toNatClampNeg (v8 / (Int32.ofInt 8)))))))) (f_X0_wayOf v8) (f_X0_farOf v8)) = (Int32.ofInt (-1))) from c5)] at hq
          replace hp := hp.2 c5
          refine g_blk hz0 kX0_firstStep_134 ?_
          refine cV [16, 17, 18, 19, 20, 21, 22, 23, 24, 25, 26, 27] (wP s p) (s_X3_carry s p ((h.2 203) (Int32.toNatClampNeg (v8 / (Int32.ofInt 8)))) (f_X3_goalOf s p ((s.2 10) (Int32.toNatClampNeg ((p.2 4) (Int32.toNatClampNeg ((h.2 203) (Int32.toNatClampNeg (v8 / (Int32.ofInt 8)))))))) ((s.2 11) (Int32.toNatClampNeg ((p.2 4) (Int32.toNatClampNeg ((h.2 203) (Int32.toNatClampNeg (v8 / (Int32.ofInt 8)))))))) (f_X0_wayOf v8) (f_X0_farOf v8)) hp.1) rfl cwX3_carry dX0_firstStep_142 rfl rfl (hm24_HP_P _ _ _ _) ((len_P _ _).trans (len_P _ _).symm) (wHP o h ((f_X3_carry s p ((h.2 203) (Int32.toNatClampNeg (v8 / (Int32.ofInt 8)))) (f_X3_goalOf s p ((s.2 10) (Int32.toNatClampNeg ((p.2 4) (Int32.toNatClampNeg ((h.2 203) (Int32.toNatClampNeg (v8 / (Int32.ofInt 8)))))))) ((s.2 11) (Int32.toNatClampNeg ((p.2 4) (Int32.toNatClampNeg ((h.2 203) (Int32.toNatClampNeg (v8 / (Int32.ofInt 8)))))))) (f_X0_wayOf v8) (f_X0_farOf v8))).2.1) ((f_X3_carry s p ((h.2 203) (Int32.toNatClampNeg (v8 / (Int32.ofInt 8)))) (f_X3_goalOf s p ((s.2 10) (Int32.toNatClampNeg ((p.2 4) (Int32.toNatClampNeg ((h.2 203) (Int32.toNatClampNeg (v8 / (Int32.ofInt 8)))))))) ((s.2 11) (Int32.toNatClampNeg ((p.2 4) (Int32.toNatClampNeg ((h.2 203) (Int32.toNatClampNeg (v8 / (Int32.ofInt 8)))))))) (f_X0_wayOf v8) (f_X0_farOf v8))).2.2)) (pw41_HP_P _ _ _ _ _ _) ?_
          replace hp := hp.2
          obtain ⟨g6, hg6⟩ : ∃ z, z = (f_X3_carry s p ((h.2 203) (Int32.toNatClampNeg (v8 / (Int32.ofInt 8)))) (f_X3_goalOf s p ((s.2 10) (Int32.toNatClampNeg ((p.2 4) (Int32.toNatClampNeg ((h.2 203) (Int32.toNatClampNeg (v8 / (Int32.ofInt 8)))))))) ((s.2 11) (Int32.toNatClampNeg ((p.2 4) (Int32.toNatClampNeg ((h.2 203) (Int32.toNatClampNeg (v8 / (Int32.ofInt 8)))))))) (f_X0_wayOf v8) (f_X0_farOf v8))) := ⟨_, rfl⟩
          try rw [← hg6] at hp
          try rw [← hg6] at hq
          rw [← hg6]
          refine g_blk hz0 kX0_firstStep_145 ?_
          refine cV [0, 1, 2, 3, 4, 5, 6, 7, 8, 9, 10, 11, 12, 13, 14, 15, 16, 17, 18, 19, 20, 21, 22, 23, 24, 25, 26, 27] (wHP o h (g6.2.1) (g6.2.2)) (s_X0_isForced_c2 o h (g6.2.1) (g6.2.2) v2 hp.1) rfl cwX0_isForced dX0_firstStep_152 rfl rfl (hm25_HP_HP _ _ _ _) ((len_HP _ _ _ _).trans (len_HP _ _ _ _).symm) (wHP ((f_X0_isForced_c2 o h (g6.2.1) (g6.2.2) v2).2.1) ((f_X0_isForced_c2 o h (g6.2.1) (g6.2.2) v2).2.2.1) ((f_X0_isForced_c2 o h (g6.2.1) (g6.2.2) v2).2.2.2.1) ((f_X0_isForced_c2 o h (g6.2.1) (g6.2.2) v2).2.2.2.2)) (pw46_HP_HP _ _ _ _ _ _ _ _) ?_
          replace hp := hp.2
          obtain ⟨g7, hg7⟩ : ∃ z, z = (f_X0_isForced_c2 o h (g6.2.1) (g6.2.2) v2) := ⟨_, rfl⟩
          try rw [← hg7] at hp
          try rw [← hg7] at hq
          rw [← hg7]
          refine g_blk hz0 kX0_firstStep_155 ?_
          refine ⟨vinL (by decide), 10, rfl, ?_⟩
          refine cV [16, 17, 18, 19, 20, 21, 22, 23, 24, 25, 26, 27, 10] (wPA (g7.2.2.2.1) (g7.2.2.2.2) ((fun _ => 0, fun _ => ((g7.2.2.1).2 103)) : Rec)) (s_X3_load (g7.2.2.2.1) (g7.2.2.2.2) ((fun _ => 0, fun _ => ((g7.2.2.1).2 103)) : Rec) hp.1) rfl cwX3_load dX0_firstStep_164 rfl rfl (hm33_HP_PA _ _ _ _) ((len_PA _ _ _).trans (len_PA _ _ _).symm) (wHP (g7.2.1) (g7.2.2.1) ((f_X3_load (g7.2.2.2.1) (g7.2.2.2.2) ((fun _ => 0, fun _ => ((g7.2.2.1).2 103)) : Rec)).1) ((f_X3_load (g7.2.2.2.1) (g7.2.2.2.2) ((fun _ => 0, fun _ => ((g7.2.2.1).2 103)) : Rec)).2)) (pw52_HP_PA _ _ _ _ _ _) ?_
          replace hp := hp.2
          obtain ⟨g8, hg8⟩ : ∃ z, z = (f_X3_load (g7.2.2.2.1) (g7.2.2.2.2) ((fun _ => 0, fun _ => ((g7.2.2.1).2 103)) : Rec)) := ⟨_, rfl⟩
          try rw [← hg8] at hp
          try rw [← hg8] at hq
          rw [← hg8]
          refine g_blk hz0 kX0_firstStep_167 ?_
          refine ⟨fun c9 => ?_, fun c9 => ?_⟩
          · rw [if_neg (show ¬ ((g7.1) = v4) from c9)] at hq
            replace hp := hp.2 c9
            refine g_blk hz0 kX0_firstStep_177 ?_
            refine g_le (L2 := [some (.ref 0), some (.ref 16), some (.int v2), some (.int (Int32.ofInt 3)), some (.int v4), some (.ref 15), some (.int v6), some (.int (Int32.ofInt (-1))), some (.int (v8 + (Int32.ofInt 1))), none, none, none, none]) ⟨rfl, rfl, rfl, rfl, rfl, rfl, rfl, rfl, rfl, trivial⟩ ?_
            exact ih (g7.2.1) (g7.2.2.1) (g8.1) (g8.2) v2 v4 v6 ((Int32.ofInt (-1))) (v8 + (Int32.ofInt 1)) hp hq
          · rw [if_pos (show (g7.1) = v4 from c9)] at hq
            refine g_blk hz0 kX0_firstStep_174 ?_
            subst hq
            exact ⟨fun h => (by cases h), rfl, rfl⟩
        · rw [if_pos (show (f_X3_goalOf s p ((s.2 10) (Int32.toNatClampNeg ((p.2 4) (Int32.toNatClampNeg ((h.2 203) (Int32.toNatClampNeg (v8 / (Int32.ofInt 8)))))))) ((s.2 11) (Int32.toNatClampNeg ((p.2 4) (Int32.toNatClampNeg ((h.2 203) (Int32.toNatClampNeg (v8 / (Int32.ofInt 8)))))))) (f_X0_wayOf v8) (f_X0_farOf v8)) = (Int32.ofInt (-1)) from c5)] at hq
          replace hp := hp.1 c5
          refine g_blk hz0 kX0_firstStep_131 ?_
          refine g_blk hz0 kX0_firstStep_177 ?_
          refine g_le (L2 := [some (.ref 0), some (.ref 16), some (.int v2), some (.int (Int32.ofInt 3)), some (.int v4), some (.ref 15), some (.int v6), some (.int v7), some (.int (v8 + (Int32.ofInt 1))), none, none, none, none]) ⟨rfl, rfl, rfl, rfl, rfl, rfl, rfl, rfl, rfl, trivial⟩ ?_
          exact ih o h s p v2 v4 v6 v7 (v8 + (Int32.ofInt 1)) hp hq
      · rw [if_pos (show (f_X4_has s ((p.2 4) (Int32.toNatClampNeg ((h.2 203) (Int32.toNatClampNeg (v8 / (Int32.ofInt 8))))))) = 0 from c4)] at hq
        replace hp := hp.1 c4
        refine g_blk hz0 kX0_firstStep_86 ?_
        refine g_blk hz0 kX0_firstStep_177 ?_
        refine g_le (L2 := [some (.ref 0), some (.ref 16), some (.int v2), some (.int (Int32.ofInt 3)), some (.int v4), some (.ref 15), some (.int v6), some (.int v7), some (.int (v8 + (Int32.ofInt 1))), none, none, none, none]) ⟨rfl, rfl, rfl, rfl, rfl, rfl, rfl, rfl, rfl, trivial⟩ ?_
        exact ih o h s p v2 v4 v6 v7 (v8 + (Int32.ofInt 1)) hp hq
def f_X0_firstStep_c3 (o : Rec) (h : Rec) (s : Rec) (p : Rec) (me : Int32) (wt : Int32) : Int32 × Rec × Rec × Rec × Rec := (f_X0_firstStep_c3_48 4000000000 o (setA (setA h 103 ((f_X3_save s p ((fun _ => 0, fun _ => (h.2 103)) : Rec)).2 0)) 203 (((f_X0_listLeaders s p ((fun _ => 0, fun _ => (h.2 203)) : Rec)).2).2 0)) s p me wt ((Int32.ofInt 8) * ((f_X0_listLeaders s p ((fun _ => 0, fun _ => (h.2 203)) : Rec)).1)) ((Int32.ofInt (-2))) ((Int32.ofInt 0)))
def p_X0_firstStep_c3 (o : Rec) (h : Rec) (s : Rec) (p : Rec) (me : Int32) (wt : Int32) : Prop := (p_X0_listLeaders s p ((fun _ => 0, fun _ => (h.2 203)) : Rec)) ∧ ((p_X3_save s p ((fun _ => 0, fun _ => (h.2 103)) : Rec)) ∧ (p_X0_firstStep_c3_48 4000000000 o (setA (setA h 103 ((f_X3_save s p ((fun _ => 0, fun _ => (h.2 103)) : Rec)).2 0)) 203 (((f_X0_listLeaders s p ((fun _ => 0, fun _ => (h.2 203)) : Rec)).2).2 0)) s p me wt ((Int32.ofInt 8) * ((f_X0_listLeaders s p ((fun _ => 0, fun _ => (h.2 203)) : Rec)).1)) ((Int32.ofInt (-2))) ((Int32.ofInt 0))))
set_option maxHeartbeats 16000000 in
set_option maxRecDepth 20000 in
theorem s_X0_firstStep_c3 (o : Rec) (h : Rec) (s : Rec) (p : Rec) (me : Int32) (wt : Int32) (hp : p_X0_firstStep_c3 o h s p me wt) : Spec 9 0 0 mX0_firstStep [.ref 0, .ref 16, .int me, .int (Int32.ofInt 3), .int wt] (wHP o h s p) (Ret (some (.int ((f_X0_firstStep_c3 o h s p me wt).1))) (wHP ((f_X0_firstStep_c3 o h s p me wt).2.1) ((f_X0_firstStep_c3 o h s p me wt).2.2.1) ((f_X0_firstStep_c3 o h s p me wt).2.2.2.1) ((f_X0_firstStep_c3 o h s p me wt).2.2.2.2))) := by
  obtain ⟨zq, hq⟩ : ∃ z, z = (f_X0_firstStep_c3 o h s p me wt) := ⟨_, rfl⟩
  rw [← hq]
  unfold f_X0_firstStep_c3 at hq
  unfold p_X0_firstStep_c3 at hp
  refine Sof fun sc => ?_
  refine g_blk hz0 kX0_firstStep_0 ?_
  refine cS0 (s_X8_within (Int32.ofInt 3) (Int32.ofInt 1) (Int32.ofInt 3)) rfl cwX8_within dX0_firstStep_3 rfl ?_
  refine g_blk hz0 kX0_firstStep_6 ?_
  refine ⟨fun _ => ?_, fun c => absurd c (by decide)⟩
  refine g_blk hz0 kX0_firstStep_12 ?_
  refine ⟨vinL (by decide), 15, rfl, ?_⟩
  refine cS [16, 17, 18, 19, 20, 21, 22, 23, 24, 25, 26, 27, 15] (wP8 s p ((fun _ => 0, fun _ => (h.2 203)) : Rec)) (s_X0_listLeaders s p ((fun _ => 0, fun _ => (h.2 203)) : Rec) hp.1) rfl cwX0_listLeaders dX0_firstStep_25 rfl (hm32_HP_P8 _ _ _ _) ((len_P8 _ _ _).trans (len_P8 _ _ _).symm) (wHP o (setA h 203 (((f_X0_listLeaders s p ((fun _ => 0, fun _ => (h.2 203)) : Rec)).2).2 0)) s p) (pw50_HP_P8 _ _ _ _ _) ?_
  replace hp := hp.2
  obtain ⟨g1, hg1⟩ : ∃ z, z = (f_X0_listLeaders s p ((fun _ => 0, fun _ => (h.2 203)) : Rec)) := ⟨_, rfl⟩
  try rw [← hg1] at hp
  try rw [← hg1] at hq
  rw [← hg1]
  refine g_blk hz0 kX0_firstStep_28 ?_
  refine ⟨vinL (by decide), 10, rfl, ?_⟩
  refine cV [16, 17, 18, 19, 20, 21, 22, 23, 24, 25, 26, 27, 10] (wPA s p ((fun _ => 0, fun _ => (h.2 103)) : Rec)) (s_X3_save s p ((fun _ => 0, fun _ => (h.2 103)) : Rec) hp.1) rfl cwX3_save dX0_firstStep_42 rfl rfl (hm33_HP_PA _ _ _ _) ((len_PA _ _ _).trans (len_PA _ _ _).symm) (wHP o (setA (setA h 103 ((f_X3_save s p ((fun _ => 0, fun _ => (h.2 103)) : Rec)).2 0)) 203 ((g1.2).2 0)) s p) (pw51_HP_PA _ _ _ _ _) ?_
  replace hp := hp.2
  obtain ⟨g2, hg2⟩ : ∃ z, z = (f_X3_save s p ((fun _ => 0, fun _ => (h.2 103)) : Rec)) := ⟨_, rfl⟩
  try rw [← hg2] at hp
  try rw [← hg2] at hq
  rw [← hg2]
  refine g_blk hz0 kX0_firstStep_45 ?_
  refine g_le (L2 := [some (.ref 0), some (.ref 16), some (.int me), some (.int (Int32.ofInt 3)), some (.int wt), some (.ref 15), some (.int ((Int32.ofInt 8) * (g1.1))), some (.int (Int32.ofInt (-2))), some (.int (Int32.ofInt 0)), none, none, none, none]) ⟨rfl, rfl, rfl, rfl, rfl, rfl, rfl, rfl, rfl, trivial⟩ ?_
  exact l_X0_firstStep_c3_48 sc zq 4000000000 o (setA (setA h 103 (g2.2 0)) 203 ((g1.2).2 0)) s p me wt ((Int32.ofInt 8) * (g1.1)) ((Int32.ofInt (-2))) ((Int32.ofInt 0)) hp hq

def f_X0_isForced_c3_59  : Nat → Rec → Rec → Rec → Rec → Int32 → Int32 → Int32 → Int32 × Rec × Rec × Rec × Rec
  | 0, o, h, s, p, v2, v4, v5 => (0, o, h, s, p)
  | n + 1, o, h, s, p, v2, v4, v5 => if (Int32.ofInt 3) ≤ v5 then (if v4 = 0 then (if ((f_X0_firstStep_c3 o h s p v2 ((Int32.ofInt 0))).1) = (Int32.ofInt (-1)) then ((Int32.ofInt 1), ((f_X0_firstStep_c3 o h s p v2 ((Int32.ofInt 0))).2.1), ((f_X0_firstStep_c3 o h s p v2 ((Int32.ofInt 0))).2.2.1), ((f_X0_firstStep_c3 o h s p v2 ((Int32.ofInt 0))).2.2.2.1), ((f_X0_firstStep_c3 o h s p v2 ((Int32.ofInt 0))).2.2.2.2)) else ((Int32.ofInt 0), ((f_X0_firstStep_c3 o h s p v2 ((Int32.ofInt 0))).2.1), ((f_X0_firstStep_c3 o h s p v2 ((Int32.ofInt 0))).2.2.1), ((f_X0_firstStep_c3 o h s p v2 ((Int32.ofInt 0))).2.2.2.1), ((f_X0_firstStep_c3 o h s p v2 ((Int32.ofInt 0))).2.2.2.2))) else (if ((f_X0_firstStep_c3 o h s p v2 ((Int32.ofInt 1))).1) < 0 then ((Int32.ofInt 0), ((f_X0_firstStep_c3 o h s p v2 ((Int32.ofInt 1))).2.1), ((f_X0_firstStep_c3 o h s p v2 ((Int32.ofInt 1))).2.2.1), ((f_X0_firstStep_c3 o h s p v2 ((Int32.ofInt 1))).2.2.2.1), ((f_X0_firstStep_c3 o h s p v2 ((Int32.ofInt 1))).2.2.2.2)) else ((Int32.ofInt 1), ((f_X0_firstStep_c3 o h s p v2 ((Int32.ofInt 1))).2.1), ((f_X0_firstStep_c3 o h s p v2 ((Int32.ofInt 1))).2.2.1), ((f_X0_firstStep_c3 o h s p v2 ((Int32.ofInt 1))).2.2.2.1), ((f_X0_firstStep_c3 o h s p v2 ((Int32.ofInt 1))).2.2.2.2)))) else (if (p.1 7) ≤ 0 then (if v4 = 0 then (if ((f_X0_firstStep_c3 o h s p v2 ((Int32.ofInt 0))).1) = (Int32.ofInt (-1)) then ((Int32.ofInt 1), ((f_X0_firstStep_c3 o h s p v2 ((Int32.ofInt 0))).2.1), ((f_X0_firstStep_c3 o h s p v2 ((Int32.ofInt 0))).2.2.1), ((f_X0_firstStep_c3 o h s p v2 ((Int32.ofInt 0))).2.2.2.1), ((f_X0_firstStep_c3 o h s p v2 ((Int32.ofInt 0))).2.2.2.2)) else ((Int32.ofInt 0), ((f_X0_firstStep_c3 o h s p v2 ((Int32.ofInt 0))).2.1), ((f_X0_firstStep_c3 o h s p v2 ((Int32.ofInt 0))).2.2.1), ((f_X0_firstStep_c3 o h s p v2 ((Int32.ofInt 0))).2.2.2.1), ((f_X0_firstStep_c3 o h s p v2 ((Int32.ofInt 0))).2.2.2.2))) else (if ((f_X0_firstStep_c3 o h s p v2 ((Int32.ofInt 1))).1) < 0 then ((Int32.ofInt 0), ((f_X0_firstStep_c3 o h s p v2 ((Int32.ofInt 1))).2.1), ((f_X0_firstStep_c3 o h s p v2 ((Int32.ofInt 1))).2.2.1), ((f_X0_firstStep_c3 o h s p v2 ((Int32.ofInt 1))).2.2.2.1), ((f_X0_firstStep_c3 o h s p v2 ((Int32.ofInt 1))).2.2.2.2)) else ((Int32.ofInt 1), ((f_X0_firstStep_c3 o h s p v2 ((Int32.ofInt 1))).2.1), ((f_X0_firstStep_c3 o h s p v2 ((Int32.ofInt 1))).2.2.1), ((f_X0_firstStep_c3 o h s p v2 ((Int32.ofInt 1))).2.2.2.1), ((f_X0_firstStep_c3 o h s p v2 ((Int32.ofInt 1))).2.2.2.2)))) else (f_X0_isForced_c3_59 n ((f_X1_habitOf o s p).2) h ((f_X3_creaseDue s p (f_X4_choiceAxis s ((f_X1_habitOf o s p).1)) (f_X4_choiceLine s ((f_X1_habitOf o s p).1)) (f_X4_choiceWay s ((f_X1_habitOf o s p).1))).1) ((f_X3_creaseDue s p (f_X4_choiceAxis s ((f_X1_habitOf o s p).1)) (f_X4_choiceLine s ((f_X1_habitOf o s p).1)) (f_X4_choiceWay s ((f_X1_habitOf o s p).1))).2) v2 v4 (v5 + (Int32.ofInt 1))))
def p_X0_isForced_c3_59  : Nat → Rec → Rec → Rec → Rec → Int32 → Int32 → Int32 → Prop
  | 0, _, _, _, _, _, _, _ => False
  | n + 1, o, h, s, p, v2, v4, v5 => ((Int32.ofInt 3) ≤ v5 → ((v4 = 0 → ((p_X0_firstStep_c3 o h s p v2 ((Int32.ofInt 0))) ∧ True)) ∧ (¬ (v4 = 0) → ((p_X0_firstStep_c3 o h s p v2 ((Int32.ofInt 1))) ∧ True)))) ∧ (¬ ((Int32.ofInt 3) ≤ v5) → (((p.1 7) ≤ 0 → ((v4 = 0 → ((p_X0_firstStep_c3 o h s p v2 ((Int32.ofInt 0))) ∧ True)) ∧ (¬ (v4 = 0) → ((p_X0_firstStep_c3 o h s p v2 ((Int32.ofInt 1))) ∧ True)))) ∧ (¬ ((p.1 7) ≤ 0) → ((p_X1_habitOf o s p) ∧ ((p_X3_creaseDue s p (f_X4_choiceAxis s ((f_X1_habitOf o s p).1)) (f_X4_choiceLine s ((f_X1_habitOf o s p).1)) (f_X4_choiceWay s ((f_X1_habitOf o s p).1))) ∧ (p_X0_isForced_c3_59 n ((f_X1_habitOf o s p).2) h ((f_X3_creaseDue s p (f_X4_choiceAxis s ((f_X1_habitOf o s p).1)) (f_X4_choiceLine s ((f_X1_habitOf o s p).1)) (f_X4_choiceWay s ((f_X1_habitOf o s p).1))).1) ((f_X3_creaseDue s p (f_X4_choiceAxis s ((f_X1_habitOf o s p).1)) (f_X4_choiceLine s ((f_X1_habitOf o s p).1)) (f_X4_choiceWay s ((f_X1_habitOf o s p).1))).2) v2 v4 (v5 + (Int32.ofInt 1))))))))
set_option maxHeartbeats 16000000 in
set_option maxRecDepth 20000 in
theorem l_X0_isForced_c3_59 (sc : SC)   (zq : Int32 × Rec × Rec × Rec × Rec)  : ∀ (n : Nat) (o : Rec) (h : Rec) (s : Rec) (p : Rec) (v2 : Int32) (v4 : Int32) (v5 : Int32), p_X0_isForced_c3_59 n o h s p v2 v4 v5 → zq = f_X0_isForced_c3_59 n o h s p v2 v4 v5 → Good sc 10 0 0 28 mX0_isForced (Ret (some (.int (zq.1))) (wHP (zq.2.1) (zq.2.2.1) (zq.2.2.2.1) (zq.2.2.2.2))) 0 0 59 [some (.ref 0), some (.ref 16), some (.int v2), some (.int (Int32.ofInt 3)), some (.int v4), some (.int v5), none, none] [] (wHP o h s p) := by
  intro n
  induction n with
  | zero => intro o h s p v2 v4 v5 hp; exact hp.elim
  | succ n ih =>
    intro o h s p v2 v4 v5 hp hq
    unfold p_X0_isForced_c3_59 at hp
    unfold f_X0_isForced_c3_59 at hq
    refine g_blk hz0 kX0_isForced_59 ?_
    refine ⟨fun c5 => ?_, fun c5 => ?_⟩
    · rw [if_pos (show (Int32.ofInt 3) ≤ v5 from c5)] at hq
      replace hp := hp.1 c5
      refine g_blk hz0 kX0_isForced_119 ?_
      refine ⟨fun c6 => ?_, fun c6 => ?_⟩
      · rw [if_pos (show v4 = 0 from c6)] at hq
        replace hp := hp.1 c6
        refine g_blk hz0 kX0_isForced_141 ?_
        refine cV [0, 1, 2, 3, 4, 5, 6, 7, 8, 9, 10, 11, 12, 13, 14, 15, 16, 17, 18, 19, 20, 21, 22, 23, 24, 25, 26, 27] (wHP o h s p) (s_X0_firstStep_c3 o h s p v2 ((Int32.ofInt 0)) hp.1) rfl cwX0_firstStep dX0_isForced_146 rfl rfl (hm25_HP_HP _ _ _ _) ((len_HP _ _ _ _).trans (len_HP _ _ _ _).symm) (wHP ((f_X0_firstStep_c3 o h s p v2 ((Int32.ofInt 0))).2.1) ((f_X0_firstStep_c3 o h s p v2 ((Int32.ofInt 0))).2.2.1) ((f_X0_firstStep_c3 o h s p v2 ((Int32.ofInt 0))).2.2.2.1) ((f_X0_firstStep_c3 o h s p v2 ((Int32.ofInt 0))).2.2.2.2)) (pw46_HP_HP _ _ _ _ _ _ _ _) ?_
        replace hp := hp.2
        obtain ⟨g7, hg7⟩ : ∃ z, z = (f_X0_firstStep_c3 o h s p v2 ((Int32.ofInt 0))) := ⟨_, rfl⟩
        try rw [← hg7] at hp
        try rw [← hg7] at hq
        rw [← hg7]
        refine g_blk hz0 kX0_isForced_149 ?_
        refine ⟨fun c8 => ?_, fun c8 => ?_⟩
        · rw [if_neg (show ¬ ((g7.1) = (Int32.ofInt (-1))) from c8)] at hq
          refine g_blk hz0 kX0_isForced_157 ?_
          refine g_blk hz0 kX0_isForced_158 ?_
          subst hq
          exact ⟨fun _ => Or.inl rfl, rfl, rfl⟩
        · rw [if_pos (show (g7.1) = (Int32.ofInt (-1)) from c8)] at hq
          refine g_blk hz0 kX0_isForced_153 ?_
          refine g_blk hz0 kX0_isForced_158 ?_
          subst hq
          exact ⟨fun _ => Or.inr rfl, rfl, rfl⟩
      · rw [if_neg (show ¬ (v4 = 0) from c6)] at hq
        replace hp := hp.2 c6
        refine g_blk hz0 kX0_isForced_124 ?_
        refine cV [0, 1, 2, 3, 4, 5, 6, 7, 8, 9, 10, 11, 12, 13, 14, 15, 16, 17, 18, 19, 20, 21, 22, 23, 24, 25, 26, 27] (wHP o h s p) (s_X0_firstStep_c3 o h s p v2 ((Int32.ofInt 1)) hp.1) rfl cwX0_firstStep dX0_isForced_129 rfl rfl (hm25_HP_HP _ _ _ _) ((len_HP _ _ _ _).trans (len_HP _ _ _ _).symm) (wHP ((f_X0_firstStep_c3 o h s p v2 ((Int32.ofInt 1))).2.1) ((f_X0_firstStep_c3 o h s p v2 ((Int32.ofInt 1))).2.2.1) ((f_X0_firstStep_c3 o h s p v2 ((Int32.ofInt 1))).2.2.2.1) ((f_X0_firstStep_c3 o h s p v2 ((Int32.ofInt 1))).2.2.2.2)) (pw46_HP_HP _ _ _ _ _ _ _ _) ?_
        replace hp := hp.2
        obtain ⟨g9, hg9⟩ : ∃ z, z = (f_X0_firstStep_c3 o h s p v2 ((Int32.ofInt 1))) := ⟨_, rfl⟩
        try rw [← hg9] at hp
        try rw [← hg9] at hq
        rw [← hg9]
        refine g_blk hz0 kX0_isForced_132 ?_
        refine ⟨fun c10 => ?_, fun c10 => ?_⟩
        · rw [if_pos (show (g9.1) < 0 from c10)] at hq
          refine g_blk hz0 kX0_isForced_139 ?_
          refine g_blk hz0 kX0_isForced_140 ?_
          subst hq
          exact ⟨fun _ => Or.inl rfl, rfl, rfl⟩
        · rw [if_neg (show ¬ ((g9.1) < 0) from c10)] at hq
          refine g_blk hz0 kX0_isForced_135 ?_
          refine g_blk hz0 kX0_isForced_140 ?_
          subst hq
          exact ⟨fun _ => Or.inr rfl, rfl, rfl⟩
    · rw [if_neg (show ¬ ((Int32.ofInt 3) ≤ v5) from c5)] at hq
      replace hp := hp.2 c5
      refine g_blk hz0 kX0_isForced_65 ?_
      refine ⟨fun c11 => ?_, fun c11 => ?_⟩
      · rw [if_pos (show (p.1 7) ≤ 0 from c11)] at hq
        replace hp := hp.1 c11
        refine g_blk hz0 kX0_isForced_119 ?_
        refine ⟨fun c12 => ?_, fun c12 => ?_⟩
        · rw [if_pos (show v4 = 0 from c12)] at hq
          replace hp := hp.1 c12
          refine g_blk hz0 kX0_isForced_141 ?_
          refine cV [0, 1, 2, 3, 4, 5, 6, 7, 8, 9, 10, 11, 12, 13, 14, 15, 16, 17, 18, 19, 20, 21, 22, 23, 24, 25, 26, 27] (wHP o h s p) (s_X0_firstStep_c3 o h s p v2 ((Int32.ofInt 0)) hp.1) rfl cwX0_firstStep dX0_isForced_146 rfl rfl (hm25_HP_HP _ _ _ _) ((len_HP _ _ _ _).trans (len_HP _ _ _ _).symm) (wHP ((f_X0_firstStep_c3 o h s p v2 ((Int32.ofInt 0))).2.1) ((f_X0_firstStep_c3 o h s p v2 ((Int32.ofInt 0))).2.2.1) ((f_X0_firstStep_c3 o h s p v2 ((Int32.ofInt 0))).2.2.2.1) ((f_X0_firstStep_c3 o h s p v2 ((Int32.ofInt 0))).2.2.2.2)) (pw46_HP_HP _ _ _ _ _ _ _ _) ?_
          replace hp := hp.2
          obtain ⟨g13, hg13⟩ : ∃ z, z = (f_X0_firstStep_c3 o h s p v2 ((Int32.ofInt 0))) := ⟨_, rfl⟩
          try rw [← hg13] at hp
          try rw [← hg13] at hq
          rw [← hg13]
          refine g_blk hz0 kX0_isForced_149 ?_
          refine ⟨fun c14 => ?_, fun c14 => ?_⟩
          · rw [if_neg (show ¬ ((g13.1) = (Int32.ofInt (-1))) from c14)] at hq
            refine g_blk hz0 kX0_isForced_157 ?_
            refine g_blk hz0 kX0_isForced_158 ?_
            subst hq
            exact ⟨fun _ => Or.inl rfl, rfl, rfl⟩
          · rw [if_pos (show (g13.1) = (Int32.ofInt (-1)) from c14)] at hq
            refine g_blk hz0 kX0_isForced_153 ?_
            refine g_blk hz0 kX0_isForced_158 ?_
            subst hq
            exact ⟨fun _ => Or.inr rfl, rfl, rfl⟩
        · rw [if_neg (show ¬ (v4 = 0) from c12)] at hq
          replace hp := hp.2 c12
          refine g_blk hz0 kX0_isForced_124 ?_
          refine cV [0, 1, 2, 3, 4, 5, 6, 7, 8, 9, 10, 11, 12, 13, 14, 15, 16, 17, 18, 19, 20, 21, 22, 23, 24, 25, 26, 27] (wHP o h s p) (s_X0_firstStep_c3 o h s p v2 ((Int32.ofInt 1)) hp.1) rfl cwX0_firstStep dX0_isForced_129 rfl rfl (hm25_HP_HP _ _ _ _) ((len_HP _ _ _ _).trans (len_HP _ _ _ _).symm) (wHP ((f_X0_firstStep_c3 o h s p v2 ((Int32.ofInt 1))).2.1) ((f_X0_firstStep_c3 o h s p v2 ((Int32.ofInt 1))).2.2.1) ((f_X0_firstStep_c3 o h s p v2 ((Int32.ofInt 1))).2.2.2.1) ((f_X0_firstStep_c3 o h s p v2 ((Int32.ofInt 1))).2.2.2.2)) (pw46_HP_HP _ _ _ _ _ _ _ _) ?_
          replace hp := hp.2
          obtain ⟨g15, hg15⟩ : ∃ z, z = (f_X0_firstStep_c3 o h s p v2 ((Int32.ofInt 1))) := ⟨_, rfl⟩
          try rw [← hg15] at hp
          try rw [← hg15] at hq
          rw [← hg15]
          refine g_blk hz0 kX0_isForced_132 ?_
          refine ⟨fun c16 => ?_, fun c16 => ?_⟩
          · rw [if_pos (show (g15.1) < 0 from c16)] at hq
            refine g_blk hz0 kX0_isForced_139 ?_
            refine g_blk hz0 kX0_isForced_140 ?_
            subst hq
            exact ⟨fun _ => Or.inl rfl, rfl, rfl⟩
          · rw [if_neg (show ¬ ((g15.1) < 0) from c16)] at hq
            refine g_blk hz0 kX0_isForced_135 ?_
            refine g_blk hz0 kX0_isForced_140 ?_
            subst hq
            exact ⟨fun _ => Or.inr rfl, rfl, rfl⟩
      · rw [if_neg (show ¬ ((p.1 7) ≤ 0) from c11)] at hq
        replace hp := hp.2 c11
        refine g_blk hz0 kX0_isForced_72 ?_
        refine cV [1, 2, 3, 4, 5, 16, 17, 18, 19, 20, 21, 22, 23, 24, 25, 26, 27] (wOP o s p) (s_X1_habitOf o s p hp.1) rfl cwX1_habitOf dX0_isForced_77 rfl rfl (hm26_HP_OP _ _ _ _) ((len_OP _ _ _).trans (len_OP _ _ _).symm) (wHP ((f_X1_habitOf o s p).2) h s p) (pw39_HP_OP _ _ _ _ _) ?_
        replace hp := hp.2
        obtain ⟨g17, hg17⟩ : ∃ z, z = (f_X1_habitOf o s p) := ⟨_, rfl⟩
        try rw [← hg17] at hp
        try rw [← hg17] at hq
        rw [← hg17]
        refine g_blk hz0 kX0_isForced_80 ?_
        refine cVp [17, 18, 19, 20, 21, 22, 23] (wS s) (s_X4_choiceAxis s (g17.1)) rfl cwX4_choiceAxis dX0_isForced_93 rfl rfl (hm27_HP_S _ _ _ _) ?_
        refine g_blk hz0 kX0_isForced_96 ?_
        refine cVp [17, 18, 19, 20, 21, 22, 23] (wS s) (s_X4_choiceLine s (g17.1)) rfl cwX4_choiceLine dX0_isForced_100 rfl rfl (hm27_HP_S _ _ _ _) ?_
        refine g_blk hz0 kX0_isForced_103 ?_
        refine cVp [17, 18, 19, 20, 21, 22, 23] (wS s) (s_X4_choiceWay s (g17.1)) rfl cwX4_choiceWay dX0_isForced_107 rfl rfl (hm27_HP_S _ _ _ _) ?_
        refine cV [16, 17, 18, 19, 20, 21, 22, 23, 24, 25, 26, 27] (wP s p) (s_X3_creaseDue s p (f_X4_choiceAxis s (g17.1)) (f_X4_choiceLine s (g17.1)) (f_X4_choiceWay s (g17.1)) hp.1) rfl cwX3_creaseDue dX0_isForced_110 rfl rfl (hm24_HP_P _ _ _ _) ((len_P _ _).trans (len_P _ _).symm) (wHP (g17.2) h ((f_X3_creaseDue s p (f_X4_choiceAxis s (g17.1)) (f_X4_choiceLine s (g17.1)) (f_X4_choiceWay s (g17.1))).1) ((f_X3_creaseDue s p (f_X4_choiceAxis s (g17.1)) (f_X4_choiceLine s (g17.1)) (f_X4_choiceWay s (g17.1))).2)) (pw41_HP_P _ _ _ _ _ _) ?_
        replace hp := hp.2
        obtain ⟨g18, hg18⟩ : ∃ z, z = (f_X3_creaseDue s p (f_X4_choiceAxis s (g17.1)) (f_X4_choiceLine s (g17.1)) (f_X4_choiceWay s (g17.1))) := ⟨_, rfl⟩
        try rw [← hg18] at hp
        try rw [← hg18] at hq
        rw [← hg18]
        refine g_blk hz0 kX0_isForced_113 ?_
        refine g_le (L2 := [some (.ref 0), some (.ref 16), some (.int v2), some (.int (Int32.ofInt 3)), some (.int v4), some (.int (v5 + (Int32.ofInt 1))), none, none]) ⟨rfl, rfl, rfl, rfl, rfl, rfl, trivial⟩ ?_
        exact ih (g17.2) h (g18.1) (g18.2) v2 v4 (v5 + (Int32.ofInt 1)) hp hq
def f_X0_isForced_c3 (o : Rec) (h : Rec) (s : Rec) (p : Rec) (me : Int32) : Int32 × Rec × Rec × Rec × Rec := if (f_X3_winner s p) = me then ((Int32.ofInt 1), o, h, s, p) else (if (f_X3_onTurn s p) = me then (if (f_X0_canBeTaken (f_X3_menOf s p ((Int32.ofInt 1) - me)) ((Int32.ofInt 2))) = 0 then ((Int32.ofInt 0), o, h, s, p) else (f_X0_isForced_c3_59 4000000000 o h s p me ((Int32.ofInt 1)) ((Int32.ofInt 0)))) else (if (f_X0_canBeTaken (f_X3_menOf s p ((Int32.ofInt 1) - me)) ((Int32.ofInt 1))) = 0 then ((Int32.ofInt 0), o, h, s, p) else (f_X0_isForced_c3_59 4000000000 o h s p me ((Int32.ofInt 0)) ((Int32.ofInt 0)))))
def p_X0_isForced_c3 (o : Rec) (h : Rec) (s : Rec) (p : Rec) (me : Int32) : Prop := (p_X3_winner s p) ∧ (((f_X3_winner s p) = me → True) ∧ (¬ ((f_X3_winner s p) = me) → (((f_X3_onTurn s p) = me → ((p_X3_menOf s p ((Int32.ofInt 1) - me)) ∧ (((f_X0_canBeTaken (f_X3_menOf s p ((Int32.ofInt 1) - me)) ((Int32.ofInt 2))) = 0 → True) ∧ (¬ ((f_X0_canBeTaken (f_X3_menOf s p ((Int32.ofInt 1) - me)) ((Int32.ofInt 2))) = 0) → (p_X0_isForced_c3_59 4000000000 o h s p me ((Int32.ofInt 1)) ((Int32.ofInt 0))))))) ∧ (¬ ((f_X3_onTurn s p) = me) → ((p_X3_menOf s p ((Int32.ofInt 1) - me)) ∧ (((f_X0_canBeTaken (f_X3_menOf s p ((Int32.ofInt 1) - me)) ((Int32.ofInt 1))) = 0 → True) ∧ (¬ ((f_X0_canBeTaken (f_X3_menOf s p ((Int32.ofInt 1) - me)) ((Int32.ofInt 1))) = 0) → (p_X0_isForced_c3_59 4000000000 o h s p me ((Int32.ofInt 0)) ((Int32.ofInt 0))))))))))
set_option maxHeartbeats 16000000 in
set_option maxRecDepth 20000 in
theorem s_X0_isForced_c3 (o : Rec) (h : Rec) (s : Rec) (p : Rec) (me : Int32) (hp : p_X0_isForced_c3 o h s p me) : Spec 10 0 0 mX0_isForced [.ref 0, .ref 16, .int me, .int (Int32.ofInt 3)] (wHP o h s p) (Ret (some (.int ((f_X0_isForced_c3 o h s p me).1))) (wHP ((f_X0_isForced_c3 o h s p me).2.1) ((f_X0_isForced_c3 o h s p me).2.2.1) ((f_X0_isForced_c3 o h s p me).2.2.2.1) ((f_X0_isForced_c3 o h s p me).2.2.2.2))) := by
  obtain ⟨zq, hq⟩ : ∃ z, z = (f_X0_isForced_c3 o h s p me) := ⟨_, rfl⟩
  rw [← hq]
  unfold f_X0_isForced_c3 at hq
  unfold p_X0_isForced_c3 at hp
  refine Sof fun sc => ?_
  refine g_blk hz0 kX0_isForced_0 ?_
  refine cVp [16, 17, 18, 19, 20, 21, 22, 23, 24, 25, 26, 27] (wP s p) (s_X3_winner s p hp.1) rfl cwX3_winner dX0_isForced_1 rfl rfl (hm24_HP_P _ _ _ _) ?_
  replace hp := hp.2
  refine g_blk hz0 kX0_isForced_4 ?_
  refine ⟨fun c1 => ?_, fun c1 => ?_⟩
  · rw [if_neg (show ¬ ((f_X3_winner s p) = me) from c1)] at hq
    replace hp := hp.2 c1
    refine g_blk hz0 kX0_isForced_10 ?_
    refine cVp [16, 17, 18, 19, 20, 21, 22, 23, 24, 25, 26, 27] (wP s p) (s_X3_onTurn s p) rfl cwX3_onTurn dX0_isForced_11 rfl rfl (hm24_HP_P _ _ _ _) ?_
    refine g_blk hz0 kX0_isForced_14 ?_
    refine ⟨fun c2 => ?_, fun c2 => ?_⟩
    · rw [if_neg (show ¬ ((f_X3_onTurn s p) = me) from c2)] at hq
      replace hp := hp.2 c2
      refine g_blk hz0 kX0_isForced_22 ?_
      refine g_blk hz0 kX0_isForced_23 ?_
      refine cVp [16, 17, 18, 19, 20, 21, 22, 23, 24, 25, 26, 27] (wP s p) (s_X3_menOf s p ((Int32.ofInt 1) - me) hp.1) rfl cwX3_menOf dX0_isForced_29 rfl rfl (hm24_HP_P _ _ _ _) ?_
      replace hp := hp.2
      refine g_blk hz0 kX0_isForced_32 ?_
      refine ⟨fun _ => ?_, fun c => absurd c (by decide)⟩
      refine g_blk hz0 kX0_isForced_45 ?_
      refine ⟨by decide, ?_⟩
      refine cS0 (s_X0_canBeTaken (f_X3_menOf s p ((Int32.ofInt 1) - me)) ((Int32.ofInt 1))) rfl cwX0_canBeTaken dX0_isForced_48 rfl ?_
      refine g_blk hz0 kX0_isForced_51 ?_
      refine ⟨fun c4 => ?_, fun c4 => ?_⟩
      · rw [if_neg (show ¬ ((f_X0_canBeTaken (f_X3_menOf s p ((Int32.ofInt 1) - me)) ((Int32.ofInt 1))) = 0) from c4)] at hq
        replace hp := hp.2 c4
        refine g_blk hz0 kX0_isForced_56 ?_
        refine g_le (L2 := [some (.ref 0), some (.ref 16), some (.int me), some (.int (Int32.ofInt 3)), some (.int (Int32.ofInt 0)), some (.int (Int32.ofInt 0)), none, none]) ⟨rfl, rfl, rfl, rfl, rfl, rfl, trivial⟩ ?_
        exact l_X0_isForced_c3_59 sc zq 4000000000 o h s p me ((Int32.ofInt 0)) ((Int32.ofInt 0)) hp hq
      · rw [if_pos (show (f_X0_canBeTaken (f_X3_menOf s p ((Int32.ofInt 1) - me)) ((Int32.ofInt 1))) = 0 from c4)] at hq
        refine g_blk hz0 kX0_isForced_54 ?_
        subst hq
        exact ⟨fun _ => Or.inl rfl, rfl, rfl⟩
    · rw [if_pos (show (f_X3_onTurn s p) = me from c2)] at hq
      replace hp := hp.1 c2
      refine g_blk hz0 kX0_isForced_18 ?_
      refine g_blk hz0 kX0_isForced_23 ?_
      refine cVp [16, 17, 18, 19, 20, 21, 22, 23, 24, 25, 26, 27] (wP s p) (s_X3_menOf s p ((Int32.ofInt 1) - me) hp.1) rfl cwX3_menOf dX0_isForced_29 rfl rfl (hm24_HP_P _ _ _ _) ?_
      replace hp := hp.2
      refine g_blk hz0 kX0_isForced_32 ?_
      refine ⟨fun c => absurd c (by decide), fun _ => ?_⟩
      refine g_blk hz0 kX0_isForced_37 ?_
      refine ⟨by decide, ?_⟩
      refine cS0 (s_X0_canBeTaken (f_X3_menOf s p ((Int32.ofInt 1) - me)) ((Int32.ofInt 2))) rfl cwX0_canBeTaken dX0_isForced_48 rfl ?_
      refine g_blk hz0 kX0_isForced_51 ?_
      refine ⟨fun c3 => ?_, fun c3 => ?_⟩
      · rw [if_neg (show ¬ ((f_X0_canBeTaken (f_X3_menOf s p ((Int32.ofInt 1) - me)) ((Int32.ofInt 2))) = 0) from c3)] at hq
        replace hp := hp.2 c3
        refine g_blk hz0 kX0_isForced_56 ?_
        refine g_le (L2 := [some (.ref 0), some (.ref 16), some (.int me), some (.int (Int32.ofInt 3)), some (.int (Int32.ofInt 1)), some (.int (Int32.ofInt 0)), none, none]) ⟨rfl, rfl, rfl, rfl, rfl, rfl, trivial⟩ ?_
        exact l_X0_isForced_c3_59 sc zq 4000000000 o h s p me ((Int32.ofInt 1)) ((Int32.ofInt 0)) hp hq
      · rw [if_pos (show (f_X0_canBeTaken (f_X3_menOf s p ((Int32.ofInt 1) - me)) ((Int32.ofInt 2))) = 0 from c3)] at hq
        refine g_blk hz0 kX0_isForced_54 ?_
        subst hq
        exact ⟨fun _ => Or.inl rfl, rfl, rfl⟩
  · rw [if_pos (show (f_X3_winner s p) = me from c1)] at hq
    refine g_blk hz0 kX0_isForced_8 ?_
    subst hq
    exact ⟨fun _ => Or.inr rfl, rfl, rfl⟩
