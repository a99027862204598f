set_option maxHeartbeats 16000000 in
theorem pw46_HP_HP (o : Rec) (h : Rec) (s : Rec) (p : Rec) (o9 : Rec) (h9 : Rec) (s9 : Rec) (p9 : Rec) : putW (wHP o h s p) [0, 1, 2, 3, 4, 5, 6, 7, 8, 9, 10, 11, 12, 13, 14, 15, 16, 17, 18, 19, 20, 21, 22, 23, 24, 25, 26, 27] ((wHP o9 h9 s9 p9).map (ren [0, 1, 2, 3, 4, 5, 6, 7, 8, 9, 10, 11, 12, 13, 14, 15, 16, 17, 18, 19, 20, 21, 22, 23, 24, 25, 26, 27])) = (wHP o9 h9 s9 p9) := by
  refine pw_gen (cp := []) (len_HP ..) (len_HP ..) (by decide) ?_ (by decide) ?_
  · simp only [List.map_cons, List.map_nil, lkHP_0, lkHP_1, lkHP_2, lkHP_3, lkHP_4, lkHP_5, lkHP_6, lkHP_7, lkHP_8, lkHP_9, lkHP_10, lkHP_11, lkHP_12, lkHP_13, lkHP_14, lkHP_15, lkHP_16, lkHP_17, lkHP_18, lkHP_19, lkHP_20, lkHP_21, lkHP_22, lkHP_23, lkHP_24, lkHP_25, lkHP_26, lkHP_27]
    unfold wHP
    simp only [List.map_cons, List.map_nil, renQ]
    rfl
  · rfl
set_option maxHeartbeats 16000000 in
set_option maxRecDepth 20000 in
theorem l_X0_isForced_c1_59 (sc : SC)   (zq : Int32 × Rec × Rec × Rec × Rec)  : ∀ (n : Nat) (o : Rec) (h : Rec) (s : Rec) (p : Rec) (v2 : Int32) (v4 : Int32) (v5 : Int32), p_X0_isForced_c1_59 n o h s p v2 v4 v5 → zq = f_X0_isForced_c1_59 n o h s p v2 v4 v5 → Good sc 6 0 0 28 mX0_isForced (Ret (some (.int (zq.1))) (wHP (zq.2.1) (zq.2.2.1) (zq.2.2.2.1) (zq.2.2.2.2))) 0 0 59 [some (.ref 0), some (.ref 16), some (.int v2), some (.int (Int32.ofInt 1)), some (.int v4), some (.int v5), none, none] [] (wHP o h s p) := by
  intro n
  induction n with
  | zero => intro o h s p v2 v4 v5 hp; exact hp.elim
  | succ n ih =>
    intro o h s p v2 v4 v5 hp hq
    unfold p_X0_isForced_c1_59 at hp
    unfold f_X0_isForced_c1_59 at hq
    refine g_blk hz0 kX0_isForced_59 ?_
    refine ⟨fun c5 => ?_, fun c5 => ?_⟩
    · rw [if_pos (show (Int32.ofInt 3) ≤ v5 from c5)] at hq
      replace hp := hp.1 c5
      refine g_blk hz0 kX0_isForced_119 ?_
      refine ⟨fun c6 => ?_, fun c6 => ?_⟩
      · rw [if_pos (show v4 = 0 from c6)] at hq
        replace hp := hp.1 c6
        refine g_blk hz0 kX0_isForced_141 ?_
        refine cV [0, 1, 2, 3, 4, 5, 6, 7, 8, 9, 10, 11, 12, 13, 14, 15, 16, 17, 18, 19, 20, 21, 22, 23, 24, 25, 26, 27] (wHP o h s p) (s_X0_firstStep_c1 o h s p v2 ((Int32.ofInt 0)) hp.1) rfl cwX0_firstStep dX0_isForced_146 rfl rfl (hm25_HP_HP _ _ _ _) ((len_HP _ _ _ _).trans (len_HP _ _ _ _).symm) (wHP ((f_X0_firstStep_c1 o h s p v2 ((Int32.ofInt 0))).2.1) ((f_X0_firstStep_c1 o h s p v2 ((Int32.ofInt 0))).2.2.1) ((f_X0_firstStep_c1 o h s p v2 ((Int32.ofInt 0))).2.2.2.1) ((f_X0_firstStep_c1 o h s p v2 ((Int32.ofInt 0))).2.2.2.2)) (pw46_HP_HP _ _ _ _ _ _ _ _) ?_
        replace hp := hp.2
        obtain ⟨g7, hg7⟩ : ∃ z, z = (f_X0_firstStep_c1 o h s p v2 ((Int32.ofInt 0))) := ⟨_, rfl⟩
        try rw [← hg7] at hp
        try rw [← hg7] at hq
        rw [← hg7]
        refine g_blk hz0 kX0_isForced_149 ?_
        refine ⟨fun c8 => ?_, fun c8 => ?_⟩
        · rw [if_neg (show ¬ ((g7.1) = (Int32.ofInt (-1))) from c8)] at hq
          refine g_blk hz0 kX0_isForced_157 ?_
          refine g_blk hz0 kX0_isForced_158 ?_
          subst hq
          exact ⟨fun _ => Or.inl rfl, rfl, rfl⟩
        · rw [if_pos (show (g7.1) = (Int32.ofInt (-1)) from c8)] at hq
          refine g_blk hz0 kX0_isForced_153 ?_
          refine g_blk hz0 kX0_isForced_158 ?_
          subst hq
          exact ⟨fun _ => Or.inr rfl, rfl, rfl⟩
      · rw [if_neg (show ¬ (v4 = 0) from c6)] at hq
        replace hp := hp.2 c6
        refine g_blk hz0 kX0_isForced_124 ?_
        refine cV [0, 1, 2, 3, 4, 5, 6, 7, 8, 9, 10, 11, 12, 13, 14, 15, 16, 17, 18, 19, 20, 21, 22, 23, 24, 25, 26, 27] (wHP o h s p) (s_X0_firstStep_c1 o h s p v2 ((Int32.ofInt 1)) hp.1) rfl cwX0_firstStep dX0_isForced_129 rfl rfl (hm25_HP_HP _ _ _ _) ((len_HP _ _ _ _).trans (len_HP _ _ _ _).symm) (wHP ((f_X0_firstStep_c1 o h s p v2 ((Int32.ofInt 1))).2.1) ((f_X0_firstStep_c1 o h s p v2 ((Int32.ofInt 1))).2.2.1) ((f_X0_firstStep_c1 o h s p v2 ((Int32.ofInt 1))).2.2.2.1) ((f_X0_firstStep_c1 o h s p v2 ((Int32.ofInt 1))).2.2.2.2)) (pw46_HP_HP _ _ _ _ _ _ _ _) ?_
        replace hp := hp.2
        obtain ⟨g9, hg9⟩ : ∃ z, z = (f_X0_firstStep_c1 o h s p v2 ((Int32.ofInt 1))) := ⟨_, rfl⟩
        try rw [← hg9] at hp
        try rw [← hg9] at hq
        rw [← hg9]
        refine g_blk hz0 kX0_isForced_132 ?_
        refine ⟨fun c10 => ?_, fun c10 => ?_⟩
        · rw [if_pos (show (g9.1) < 0 from c10)] at hq
          refine g_blk hz0 kX0_isForced_139 ?_
          refine g_blk hz0 kX0_isForced_140 ?_
          subst hq
          exact ⟨fun _ => Or.inl rfl, rfl, rfl⟩
        · rw [if_neg (show ¬ ((g9.1) < 0) from c10)] at hq
          refine g_blk hz0 kX0_isForced_135 ?_
          refine g_blk hz0 kX0_isForced_140 ?_
          subst hq
          exact ⟨fun _ => Or.inr rfl, rfl, rfl⟩
    · rw [if_neg (show ¬ ((Int32.ofInt 3) ≤ v5) from c5)] at hq
      replace hp := hp.2 c5
      refine g_blk hz0 kX0_isForced_65 ?_
      refine ⟨fun c11 => ?_, fun c11 => ?_⟩
      · rw [if_pos (show (p.1 7) ≤ 0 from c11)] at hq
        replace hp := hp.1 c11
        refine g_blk hz0 kX0_isForced_119 ?_
        refine ⟨fun c12 => ?_, fun c12 => ?_⟩
        · rw [if_pos (show v4 = 0 from c12)] at hq
          replace hp := hp.1 c12
          refine g_blk hz0 kX0_isForced_141 ?_
          refine cV [0, 1, 2, 3, 4, 5, 6, 7, 8, 9, 10, 11, 12, 13, 14, 15, 16, 17, 18, 19, 20, 21, 22, 23, 24, 25, 26, 27] (wHP o h s p) (s_X0_firstStep_c1 o h s p v2 ((Int32.ofInt 0)) hp.1) rfl cwX0_firstStep dX0_isForced_146 rfl rfl (hm25_HP_HP _ _ _ _) ((len_HP _ _ _ _).trans (len_HP _ _ _ _).symm) (wHP ((f_X0_firstStep_c1 o h s p v2 ((Int32.ofInt 0))).2.1) ((f_X0_firstStep_c1 o h s p v2 ((Int32.ofInt 0))).2.2.1) ((f_X0_firstStep_c1 o h s p v2 ((Int32.ofInt 0))).2.2.2.1) ((f_X0_firstStep_c1 o h s p v2 ((Int32.ofInt 0))).2.2.2.2)) (pw46_HP_HP _ _ _ _ _ _ _ _) ?_
          replace hp := hp.2
          obtain ⟨g13, hg13⟩ : ∃ z, z = (f_X0_firstStep_c1 o h s p v2 ((Int32.ofInt 0))) := ⟨_, rfl⟩
          try rw [← hg13] at hp
          try rw [← hg13] at hq
          rw [← hg13]
          refine g_blk hz0 kX0_isForced_149 ?_
          refine ⟨fun c14 => ?_, fun c14 => ?_⟩
          · rw [if_neg (show ¬ ((g13.1) = (Int32.ofInt (-1))) from c14)] at hq
            refine g_blk hz0 kX0_isForced_157 ?_
            refine g_blk hz0 kX0_isForced_158 ?_
            subst hq
            exact ⟨fun _ => Or.inl rfl, rfl, rfl⟩
          · rw [if_pos (show (g13.1) = (Int32.ofInt (-1)) from c14)] at hq
            refine g_blk hz0 kX0_isForced_153 ?_
            refine g_blk hz0 kX0_isForced_158 ?_
            subst hq
            exact ⟨fun _ => Or.inr rfl, rfl, rfl⟩
        · rw [if_neg (show ¬ (v4 = 0) from c12)] at hq
          replace hp := hp.2 c12
          refine g_blk hz0 kX0_isForced_124 ?_
          refine cV [0, 1, 2, 3, 4, 5, 6, 7, 8, 9, 10, 11, 12, 13, 14, 15, 16, 17, 18, 19, 20, 21, 22, 23, 24, 25, 26, 27] (wHP o h s p) (s_X0_firstStep_c1 o h s p v2 ((Int32.ofInt 1)) hp.1) rfl cwX0_firstStep dX0_isForced_129 rfl rfl (hm25_HP_HP _ _ _ _) ((len_HP _ _ _ _).trans (len_HP _ _ _ _).symm) (wHP ((f_X0_firstStep_c1 o h s p v2 ((Int32.ofInt 1))).2.1) ((f_X0_firstStep_c1 o h s p v2 ((Int32.ofInt 1))).2.2.1) ((f_X0_firstStep_c1 o h s p v2 ((Int32.ofInt 1))).2.2.2.1) ((f_X0_firstStep_c1 o h s p v2 ((Int32.ofInt 1))).2.2.2.2)) (pw46_HP_HP _ _ _ _ _ _ _ _) ?_
          replace hp := hp.2
          obtain ⟨g15, hg15⟩ : ∃ z, z = (f_X0_firstStep_c1 o h s p v2 ((Int32.ofInt 1))) := ⟨_, rfl⟩
          try rw [← hg15] at hp
          try rw [← hg15] at hq
          rw [← hg15]
          refine g_blk hz0 kX0_isForced_132 ?_
          refine ⟨fun c16 => ?_, fun c16 => ?_⟩
          · rw [if_pos (show (g15.1) < 0 from c16)] at hq
            refine g_blk hz0 kX0_isForced_139 ?_
            refine g_blk hz0 kX0_isForced_140 ?_
            subst hq
            exact ⟨fun _ => Or.inl rfl, rfl, rfl⟩
          · rw [if_neg (show ¬ ((g15.1) < 0) from c16)] at hq
            refine g_blk hz0 kX0_isForced_135 ?_
            refine g_blk hz0 kX0_isForced_140 ?_
            subst hq
            exact ⟨fun _ => Or.inr rfl, rfl, rfl⟩
      · rw [if_neg (show ¬ ((p.1 7) ≤ 0) from c11)] at hq
        replace hp := hp.2 c11
        refine g_blk hz0 kX0_isForced_72 ?_
        refine cV [1, 2, 3, 4, 5, 16, 17, 18, 19, 20, 21, 22, 23, 24, 25, 26, 27] (wOP o s p) (s_X1_habitOf o s p hp.1) rfl cwX1_habitOf dX0_isForced_77 rfl rfl (hm26_HP_OP _ _ _ _) ((len_OP _ _ _).trans (len_OP _ _ _).symm) (wHP ((f_X1_habitOf o s p).2) h s p) (pw39_HP_OP _ _ _ _ _) ?_
        replace hp := hp.2
        obtain ⟨g17, hg17⟩ : ∃ z, z = (f_X1_habitOf o s p) := ⟨_, rfl⟩
        try rw [← hg17] at hp
        try rw [← hg17] at hq
        rw [← hg17]
        refine g_blk hz0 kX0_isForced_80 ?_
        refine cVp [17, 18, 19, 20, 21, 22, 23] (wS s) (s_X4_choiceAxis s (g17.1)) rfl cwX4_choiceAxis dX0_isForced_93 rfl rfl (hm27_HP_S _ _ _ _) ?_
        refine g_blk hz0 kX0_isForced_96 ?_
        refine cVp [17, 18, 19, 20, 21, 22, 23] (wS s) (s_X4_choiceLine s (g17.1)) rfl cwX4_choiceLine dX0_isForced_100 rfl rfl (hm27_HP_S _ _ _ _) ?_
        refine g_blk hz0 kX0_isForced_103 ?_
        refine cVp [17, 18, 19, 20, 21, 22, 23] (wS s) (s_X4_choiceWay s (g17.1)) rfl cwX4_choiceWay dX0_isForced_107 rfl rfl (hm27_HP_S _ _ _ _) ?_
        refine cV [16, 17, 18, 19, 20, 21, 22, 23, 24, 25, 26, 27] (wP s p) (s_X3_creaseDue s p (f_X4_choiceAxis s (g17.1)) (f_X4_choiceLine s (g17.1)) (f_X4_choiceWay s (g17.1)) hp.1) rfl cwX3_creaseDue dX0_isForced_110 rfl rfl (hm24_HP_P _ _ _ _) ((len_P _ _).trans (len_P _ _).symm) (wHP (g17.2) h ((f_X3_creaseDue s p (f_X4_choiceAxis s (g17.1)) (f_X4_choiceLine s (g17.1)) (f_X4_choiceWay s (g17.1))).1) ((f_X3_creaseDue s p (f_X4_choiceAxis s (g17.1)) (f_X4_choiceLine s (g17.1)) (f_X4_choiceWay s (g17.1))).2)) (pw41_HP_P _ _ _ _ _ _) ?_
        replace hp := hp.2
        obtain ⟨g18, hg18⟩ : ∃ z, z = (f_X3_creaseDue s p (f_X4_choiceAxis s (g17.1)) (f_X4_choiceLine s (g17.1)) (f_X4_choiceWay s (g17.1))) := ⟨_, rfl⟩
        try rw [← hg18] at hp
        try rw [← hg18] at hq
        rw [← hg18]
        refine g_blk hz0 kX0_isForced_113 ?_
        refine g_le (L2 := [some (.ref 0), some (.ref 16), some (.int v2), some (.int (Int32.ofInt 1)), some (.int v4), some (.int (v5 + (Int32.ofInt 1))), none, none]) ⟨rfl, rfl, rfl, rfl, rfl, rfl, trivial⟩ ?_
        exact ih (g17.2) h (g18.1) (g18.2) v2 v4 (v5 + (Int32.ofInt 1)) hp hq
set_option maxHeartbeats 16000000 in
set_option maxRecDepth 20000 in
theorem s_X0_isForced_c1 (o : Rec) (h : Rec) (s : Rec) (p : Rec) (me : Int32) (hp : p_X0_isForced_c1 o h s p me) : Spec 6 0 0 mX0_isForced [.ref 0, .ref 16, .int me, .int (Int32.ofInt 1)] (wHP o h s p) (Ret (some (.int ((f_X0_isForced_c1 o h s p me).1))) (wHP ((f_X0_isForced_c1 o h s p me).2.1) ((f_X0_isForced_c1 o h s p me).2.2.1) ((f_X0_isForced_c1 o h s p me).2.2.2.1) ((f_X0_isForced_c1 o h s p me).2.2.2.2))) := by
  obtain ⟨zq, hq⟩ : ∃ z, z = (f_X0_isForced_c1 o h s p me) := ⟨_, rfl⟩
  rw [← hq]
  unfold f_X0_isForced_c1 at hq
  unfold p_X0_isForced_c1 at hp
  refine Sof fun sc => ?_
  refine g_blk hz0 kX0_isForced_0 ?_
  refine cVp [16, 17, 18, 19, 20, 21, 22, 23, 24, 25, 26, 27] (wP s p) (s_X3_winner s p hp.1) rfl cwX3_winner dX0_isForced_1 rfl rfl (hm24_HP_P _ _ _ _) ?_
  replace hp := hp.2
  refine g_blk hz0 kX0_isForced_4 ?_
  refine ⟨fun c1 => ?_, fun c1 => ?_⟩
  · rw [if_neg (show ¬ ((f_X3_winner s p) = me) from c1)] at hq
    replace hp := hp.2 c1
    refine g_blk hz0 kX0_isForced_10 ?_
    refine cVp [16, 17, 18, 19, 20, 21, 22, 23, 24, 25, 26, 27] (wP s p) (s_X3_onTurn s p) rfl cwX3_onTurn dX0_isForced_11 rfl rfl (hm24_HP_P _ _ _ _) ?_
    refine g_blk hz0 kX0_isForced_14 ?_
    refine ⟨fun c2 => ?_, fun c2 => ?_⟩
    · rw [if_neg (show ¬ ((f_X3_onTurn s p) = me) from c2)] at hq
      replace hp := hp.2 c2
      refine g_blk hz0 kX0_isForced_22 ?_
      refine g_blk hz0 kX0_isForced_23 ?_
      refine cVp [16, 17, 18, 19, 20, 21, 22, 23, 24, 25, 26, 27] (wP s p) (s_X3_menOf s p ((Int32.ofInt 1) - me) hp.1) rfl cwX3_menOf dX0_isForced_29 rfl rfl (hm24_HP_P _ _ _ _) ?_
      replace hp := hp.2
      refine g_blk hz0 kX0_isForced_32 ?_
      refine ⟨fun _ => ?_, fun c => absurd c (by decide)⟩
      refine g_blk hz0 kX0_isForced_45 ?_
      refine ⟨by decide, ?_⟩
      refine cS0 (s_X0_canBeTaken (f_X3_menOf s p ((Int32.ofInt 1) - me)) ((Int32.ofInt 0))) rfl cwX0_canBeTaken dX0_isForced_48 rfl ?_
      refine g_blk hz0 kX0_isForced_51 ?_
      refine ⟨fun c4 => ?_, fun c4 => ?_⟩
      · rw [if_neg (show ¬ ((f_X0_canBeTaken (f_X3_menOf s p ((Int32.ofInt 1) - me)) ((Int32.ofInt 0))) = 0) from c4)] at hq
        replace hp := hp.2 c4
        refine g_blk hz0 kX0_isForced_56 ?_
        refine g_le (L2 := [some (.ref 0), some (.ref 16), some (.int me), some (.int (Int32.ofInt 1)), some (.int (Int32.ofInt 0)), some (.int (Int32.ofInt 0)), none, none]) ⟨rfl, rfl, rfl, rfl, rfl, rfl, trivial⟩ ?_
        exact l_X0_isForced_c1_59 sc zq 4000000000 o h s p me ((Int32.ofInt 0)) ((Int32.ofInt 0)) hp hq
      · rw [if_pos (show (f_X0_canBeTaken (f_X3_menOf s p ((Int32.ofInt 1) - me)) ((Int32.ofInt 0))) = 0 from c4)] at hq
        refine g_blk hz0 kX0_isForced_54 ?_
        subst hq
        exact ⟨fun _ => Or.inl rfl, rfl, rfl⟩
    · rw [if_pos (show (f_X3_onTurn s p) = me from c2)] at hq
      replace hp := hp.1 c2
      refine g_blk hz0 kX0_isForced_18 ?_
      refine g_blk hz0 kX0_isForced_23 ?_
      refine cVp [16, 17, 18, 19, 20, 21, 22, 23, 24, 25, 26, 27] (wP s p) (s_X3_menOf s p ((Int32.ofInt 1) - me) hp.1) rfl cwX3_menOf dX0_isForced_29 rfl rfl (hm24_HP_P _ _ _ _) ?_
      replace hp := hp.2
      refine g_blk hz0 kX0_isForced_32 ?_
      refine ⟨fun c => absurd c (by decide), fun _ => ?_⟩
      refine g_blk hz0 kX0_isForced_37 ?_
      refine ⟨by decide, ?_⟩
      refine cS0 (s_X0_canBeTaken (f_X3_menOf s p ((Int32.ofInt 1) - me)) ((Int32.ofInt 1))) rfl cwX0_canBeTaken dX0_isForced_48 rfl ?_
      refine g_blk hz0 kX0_isForced_51 ?_
      refine ⟨fun c3 => ?_, fun c3 => ?_⟩
      · rw [if_neg (show ¬ ((f_X0_canBeTaken (f_X3_menOf s p ((Int32.ofInt 1) - me)) ((Int32.ofInt 1))) = 0) from c3)] at hq
        replace hp := hp.2 c3
        refine g_blk hz0 kX0_isForced_56 ?_
        refine g_le (L2 := [some (.ref 0), some (.ref 16), some (.int me), some (.int (Int32.ofInt 1)), some (.int (Int32.ofInt 1)), some (.int (Int32.ofInt 0)), none, none]) ⟨rfl, rfl, rfl, rfl, rfl, rfl, trivial⟩ ?_
        exact l_X0_isForced_c1_59 sc zq 4000000000 o h s p me ((Int32.ofInt 1)) ((Int32.ofInt 0)) hp hq
      · rw [if_pos (show (f_X0_canBeTaken (f_X3_menOf s p ((Int32.ofInt 1) - me)) ((Int32.ofInt 1))) = 0 from c3)] at hq
        refine g_blk hz0 kX0_isForced_54 ?_
        subst hq
        exact ⟨fun _ => Or.inl rfl, rfl, rfl⟩
  · rw [if_pos (show (f_X3_winner s p) = me from c1)] at hq
    refine g_blk hz0 kX0_isForced_8 ?_
    subst hq
    exact ⟨fun _ => Or.inr rfl, rfl, rfl⟩
