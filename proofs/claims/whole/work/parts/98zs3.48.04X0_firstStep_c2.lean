set_option maxHeartbeats 16000000 in
theorem hm30_HP_P8 (o : Rec) (h : Rec) (s : Rec) (p : Rec) : [16, 17, 18, 19, 20, 21, 22, 23, 24, 25, 26, 27, 14].map (lk (wHP o h s p)) = (wP8 s p ((fun _ => 0, fun _ => h.2 202) : Rec)).map (fun e => some (ren [16, 17, 18, 19, 20, 21, 22, 23, 24, 25, 26, 27, 14] e)) := by
  simp only [List.map_cons, List.map_nil, lkHP_16, lkHP_17, lkHP_18, lkHP_19, lkHP_20, lkHP_21, lkHP_22, lkHP_23, lkHP_24, lkHP_25, lkHP_26, lkHP_27, lkHP_14]
  unfold wP8
  rfl
set_option maxHeartbeats 16000000 in
theorem pw47_HP_P8 (o : Rec) (h : Rec) (s : Rec) (p : Rec) (a9 : Rec) : putW (wHP o h s p) [16, 17, 18, 19, 20, 21, 22, 23, 24, 25, 26, 27, 14] ((wP8 s p a9).map (ren [16, 17, 18, 19, 20, 21, 22, 23, 24, 25, 26, 27, 14])) = (wHP o (setA h 202 (a9.2 0)) s p) := by
  refine pw_gen (cp := [0, 1, 2, 3, 4, 5, 6, 7, 8, 9, 10, 11, 12, 13, 15]) (len_HP ..) (len_HP ..) (by decide) ?_ (by decide) ?_
  · simp only [List.map_cons, List.map_nil, lkHP_16, lkHP_17, lkHP_18, lkHP_19, lkHP_20, lkHP_21, lkHP_22, lkHP_23, lkHP_24, lkHP_25, lkHP_26, lkHP_27, lkHP_14]
    unfold wP8
    rfl
  · simp only [List.map_cons, List.map_nil, lkHP_0, lkHP_1, lkHP_2, lkHP_3, lkHP_4, lkHP_5, lkHP_6, lkHP_7, lkHP_8, lkHP_9, lkHP_10, lkHP_11, lkHP_12, lkHP_13, lkHP_15] <;> rfl
set_option maxHeartbeats 16000000 in
theorem hm31_HP_PA (o : Rec) (h : Rec) (s : Rec) (p : Rec) : [16, 17, 18, 19, 20, 21, 22, 23, 24, 25, 26, 27, 9].map (lk (wHP o h s p)) = (wPA s p ((fun _ => 0, fun _ => h.2 102) : Rec)).map (fun e => some (ren [16, 17, 18, 19, 20, 21, 22, 23, 24, 25, 26, 27, 9] e)) := by
  simp only [List.map_cons, List.map_nil, lkHP_16, lkHP_17, lkHP_18, lkHP_19, lkHP_20, lkHP_21, lkHP_22, lkHP_23, lkHP_24, lkHP_25, lkHP_26, lkHP_27, lkHP_9]
  unfold wPA
  rfl
set_option maxHeartbeats 16000000 in
theorem pw48_HP_PA (o : Rec) (h : Rec) (s : Rec) (p : Rec) (a9 : Rec) : putW (wHP o h s p) [16, 17, 18, 19, 20, 21, 22, 23, 24, 25, 26, 27, 9] ((wPA s p a9).map (ren [16, 17, 18, 19, 20, 21, 22, 23, 24, 25, 26, 27, 9])) = (wHP o (setA h 102 (a9.2 0)) s p) := by
  refine pw_gen (cp := [0, 1, 2, 3, 4, 5, 6, 7, 8, 10, 11, 12, 13, 14, 15]) (len_HP ..) (len_HP ..) (by decide) ?_ (by decide) ?_
  · simp only [List.map_cons, List.map_nil, lkHP_16, lkHP_17, lkHP_18, lkHP_19, lkHP_20, lkHP_21, lkHP_22, lkHP_23, lkHP_24, lkHP_25, lkHP_26, lkHP_27, lkHP_9]
    unfold wPA
    rfl
  · simp only [List.map_cons, List.map_nil, lkHP_0, lkHP_1, lkHP_2, lkHP_3, lkHP_4, lkHP_5, lkHP_6, lkHP_7, lkHP_8, lkHP_10, lkHP_11, lkHP_12, lkHP_13, lkHP_14, lkHP_15] <;> rfl
set_option maxHeartbeats 16000000 in
theorem pw49_HP_PA (o : Rec) (h : Rec) (s : Rec) (p : Rec) (s9 : Rec) (p9 : Rec) : putW (wHP o h s p) [16, 17, 18, 19, 20, 21, 22, 23, 24, 25, 26, 27, 9] ((wPA s9 p9 ((fun _ => 0, fun _ => h.2 102) : Rec)).map (ren [16, 17, 18, 19, 20, 21, 22, 23, 24, 25, 26, 27, 9])) = (wHP o h s9 p9) := by
  refine pw_gen (cp := [0, 1, 2, 3, 4, 5, 6, 7, 8, 10, 11, 12, 13, 14, 15]) (len_HP ..) (len_HP ..) (by decide) ?_ (by decide) ?_
  · simp only [List.map_cons, List.map_nil, lkHP_16, lkHP_17, lkHP_18, lkHP_19, lkHP_20, lkHP_21, lkHP_22, lkHP_23, lkHP_24, lkHP_25, lkHP_26, lkHP_27, lkHP_9]
    unfold wPA
    rfl
  · simp only [List.map_cons, List.map_nil, lkHP_0, lkHP_1, lkHP_2, lkHP_3, lkHP_4, lkHP_5, lkHP_6, lkHP_7, lkHP_8, lkHP_10, lkHP_11, lkHP_12, lkHP_13, lkHP_14, lkHP_15] <;> rfl
set_option maxHeartbeats 16000000 in
set_option maxRecDepth 20000 in
theorem l_X0_firstStep_c2_48 (sc : SC)   (zq : Int32 × Rec × Rec × Rec × Rec)  : ∀ (n : Nat) (o : Rec) (h : Rec) (s : Rec) (p : Rec) (v2 : Int32) (v4 : Int32) (v6 : Int32) (v7 : Int32) (v8 : Int32), p_X0_firstStep_c2_48 n o h s p v2 v4 v6 v7 v8 → zq = f_X0_firstStep_c2_48 n o h s p v2 v4 v6 v7 v8 → Good sc 7 0 0 28 mX0_firstStep (Ret (some (.int (zq.1))) (wHP (zq.2.1) (zq.2.2.1) (zq.2.2.2.1) (zq.2.2.2.2))) 0 0 48 [some (.ref 0), some (.ref 16), some (.int v2), some (.int (Int32.ofInt 2)), some (.int v4), some (.ref 14), some (.int v6), some (.int v7), some (.int v8), none, none, none, none] [] (wHP o h s p) := by
  intro n
  induction n with
  | zero => intro o h s p v2 v4 v6 v7 v8 hp; exact hp.elim
  | succ n ih =>
    intro o h s p v2 v4 v6 v7 v8 hp hq
    unfold p_X0_firstStep_c2_48 at hp
    unfold f_X0_firstStep_c2_48 at hq
    refine g_blk hz0 kX0_firstStep_48 ?_
    refine ⟨fun c3 => ?_, fun c3 => ?_⟩
    · rw [if_pos (show v6 ≤ v8 from c3)] at hq
      refine g_blk hz0 kX0_firstStep_183 ?_
      subst hq
      exact ⟨fun h => (by cases h), rfl, rfl⟩
    · rw [if_neg (show ¬ (v6 ≤ v8) from c3)] at hq
      replace hp := hp.2 c3
      refine g_blk hz0 kX0_firstStep_55 ?_
      refine ⟨by decide, ?_⟩
      refine ⟨hp.1, ?_⟩
      replace hp := hp.2
      refine ⟨hp.1, ?_⟩
      replace hp := hp.2
      refine cVp [17, 18, 19, 20, 21, 22, 23] (wS s) (s_X4_has s ((p.2 4) (Int32.toNatClampNeg ((h.2 202) (Int32.toNatClampNeg (v8 / (Int32.ofInt 8)))))) hp.1) rfl cwX4_has dX0_firstStep_80 rfl rfl (hm27_HP_S _ _ _ _) ?_
      replace hp := hp.2
      refine g_blk hz0 kX0_firstStep_83 ?_
      refine ⟨fun c4 => ?_, fun c4 => ?_⟩
      · rw [if_neg (show ¬ ((f_X4_has s ((p.2 4) (Int32.toNatClampNeg ((h.2 202) (Int32.toNatClampNeg (v8 / (Int32.ofInt 8))))))) = 0) from c4)] at hq
        replace hp := hp.2 c4
        refine g_blk hz0 kX0_firstStep_89 ?_
        refine ⟨hp.1, ?_⟩
        replace hp := hp.2
        refine ⟨hp.1, ?_⟩
        replace hp := hp.2
        refine cS0 (s_X0_wayOf v8) rfl cwX0_wayOf dX0_firstStep_112 rfl ?_
        refine g_blk hz0 kX0_firstStep_115 ?_
        refine cS0 (s_X0_farOf v8) rfl cwX0_farOf dX0_firstStep_117 rfl ?_
        refine cVp [16, 17, 18, 19, 20, 21, 22, 23, 24, 25, 26, 27] (wP s p) (s_X3_goalOf s p ((s.2 10) (Int32.toNatClampNeg ((p.2 4) (Int32.toNatClampNeg ((h.2 202) (Int32.toNatClampNeg (v8 / (Int32.ofInt 8)))))))) ((s.2 11) (Int32.toNatClampNeg ((p.2 4) (Int32.toNatClampNeg ((h.2 202) (Int32.toNatClampNeg (v8 / (Int32.ofInt 8)))))))) (f_X0_wayOf v8) (f_X0_farOf v8) hp.1) rfl cwX3_goalOf dX0_firstStep_120 rfl rfl (hm24_HP_P _ _ _ _) ?_
        replace hp := hp.2
        refine g_blk hz0 kX0_firstStep_123 ?_
        refine ⟨fun c5 => ?_, fun c5 => ?_⟩
        · rw [if_neg (show ¬ ((f_X3_goalOf s p ((s.2 10) (Int32.toNatClampNeg ((p.2 4) (Int32.toNatClampNeg ((h.2 202) (Int32.toNatClampNeg (v8 / (Int32.ofInt 8)))))))) ((s.2 11) (Int32.toNatClampNeg ((p.2 4) (Int32.toNatClampNeg ((h.2 202) (Int32.toNatClampNeg (v8 / (Int32.ofInt 8)))))))) (f_X0_wayOf v8) (f_X0_farOf v8)) = (Int32.ofInt (-1))) from c5)] at hq
          replace hp := hp.2 c5
          refine g_blk hz0 kX0_firstStep_134 ?_
          refine cV [16, 17, 18, 19, 20, 21, 22, 23, 24, 25, 26, 27] (wP s p) (s_X3_carry s p ((h.2 202) (Int32.toNatClampNeg (v8 / (Int32.ofInt 8)))) (f_X3_goalOf s p ((s.2 10) (Int32.toNatClampNeg ((p.2 4) (Int32.toNatClampNeg ((h.2 202) (Int32.toNatClampNeg (v8 / (Int32.ofInt 8)))))))) ((s.2 11) (Int32.toNatClampNeg ((p.2 4) (Int32.toNatClampNeg ((h.2 202) (Int32.toNatClampNeg (v8 / (Int32.ofInt 8)))))))) (f_X0_wayOf v8) (f_X0_farOf v8)) hp.1) rfl cwX3_carry dX0_firstStep_142 rfl rfl (hm24_HP_P _ _ _ _) ((len_P _ _).trans (len_P _ _).symm) (wHP o h ((f_X3_carry s p ((h.2 202) (Int32.toNatClampNeg (v8 / (Int32.ofInt 8)))) (f_X3_goalOf s p ((s.2 10) (Int32.toNatClampNeg ((p.2 4) (Int32.toNatClampNeg ((h.2 202) (Int32.toNatClampNeg (v8 / (Int32.ofInt 8)))))))) ((s.2 11) (Int32.toNatClampNeg ((p.2 4) (Int32.toNatClampNeg ((h.2 202) (Int32.toNatClampNeg (v8 / (Int32.ofInt 8)))))))) (f_X0_wayOf v8) (f_X0_farOf v8))).2.1) ((f_X3_carry s p ((h.2 202) (Int32.toNatClampNeg (v8 / (Int32.ofInt 8)))) (f_X3_goalOf s p ((s.2 10) (Int32.toNatClampNeg ((p.2 4) (Int32.toNatClampNeg ((h.2 202) (Int32.toNatClampNeg (v8 / (Int32.ofInt 8)))))))) ((s.2 11) (Int32.toNatClampNeg ((p.2 4) (Int32.toNatClampNeg ((h.2 202) (Int32.toNatClampNeg (v8 / (Int32.ofInt 8)))))))) (f_X0_wayOf v8) (f_X0_farOf v8))).2.2)) (pw41_HP_P _ _ _ _ _ _) ?_
          replace hp := hp.2
          obtain ⟨g6, hg6⟩ : ∃ z, z = (f_X3_carry s p ((h.2 202) (Int32.toNatClampNeg (v8 / (Int32.ofInt 8)))) (f_X3_goalOf s p ((s.2 10) (Int32.toNatClampNeg ((p.2 4) (Int32.toNatClampNeg ((h.2 202) (Int32.toNatClampNeg (v8 / (Int32.ofInt 8)))))))) ((s.2 11) (Int32.toNatClampNeg ((p.2 4) (Int32.toNatClampNeg ((h.2 202) (Int32.toNatClampNeg (v8 / (Int32.ofInt 8)))))))) (f_X0_wayOf v8) (f_X0_farOf v8))) := ⟨_, rfl⟩
          try rw [← hg6] at hp
          try rw [← hg6] at hq
          rw [← hg6]
          refine g_blk hz0 kX0_firstStep_145 ?_
          refine cV [0, 1, 2, 3, 4, 5, 6, 7, 8, 9, 10, 11, 12, 13, 14, 15, 16, 17, 18, 19, 20, 21, 22, 23, 24, 25, 26, 27] (wHP o h (g6.2.1) (g6.2.2)) (s_X0_isForced_c1 o h (g6.2.1) (g6.2.2) v2 hp.1) rfl cwX0_isForced dX0_firstStep_152 rfl rfl (hm25_HP_HP _ _ _ _) ((len_HP _ _ _ _).trans (len_HP _ _ _ _).symm) (wHP ((f_X0_isForced_c1 o h (g6.2.1) (g6.2.2) v2).2.1) ((f_X0_isForced_c1 o h (g6.2.1) (g6.2.2) v2).2.2.1) ((f_X0_isForced_c1 o h (g6.2.1) (g6.2.2) v2).2.2.2.1) ((f_X0_isForced_c1 o h (g6.2.1) (g6.2.2) v2).2.2.2.2)) (pw46_HP_HP _ _ _ _ _ _ _ _) ?_
          replace hp := hp.2
          obtain ⟨g7, hg7⟩ : ∃ z, z = (f_X0_isForced_c1 o h (g6.2.1) (g6.2.2) v2) := ⟨_, rfl⟩
          try rw [← hg7] at hp
          try rw [← hg7] at hq
          rw [← hg7]
          refine g_blk hz0 kX0_firstStep_155 ?_
          refine ⟨vinL (by decide), 9, rfl, ?_⟩
          refine cV [16, 17, 18, 19, 20, 21, 22, 23, 24, 25, 26, 27, 9] (wPA (g7.2.2.2.1) (g7.2.2.2.2) ((fun _ => 0, fun _ => ((g7.2.2.1).2 102)) : Rec)) (s_X3_load (g7.2.2.2.1) (g7.2.2.2.2) ((fun _ => 0, fun _ => ((g7.2.2.1).2 102)) : Rec) hp.1) rfl cwX3_load dX0_firstStep_164 rfl rfl (hm31_HP_PA _ _ _ _) ((len_PA _ _ _).trans (len_PA _ _ _).symm) (wHP (g7.2.1) (g7.2.2.1) ((f_X3_load (g7.2.2.2.1) (g7.2.2.2.2) ((fun _ => 0, fun _ => ((g7.2.2.1).2 102)) : Rec)).1) ((f_X3_load (g7.2.2.2.1) (g7.2.2.2.2) ((fun _ => 0, fun _ => ((g7.2.2.1).2 102)) : Rec)).2)) (pw49_HP_PA _ _ _ _ _ _) ?_
          replace hp := hp.2
          obtain ⟨g8, hg8⟩ : ∃ z, z = (f_X3_load (g7.2.2.2.1) (g7.2.2.2.2) ((fun _ => 0, fun _ => ((g7.2.2.1).2 102)) : Rec)) := ⟨_, rfl⟩
          try rw [← hg8] at hp
          try rw [← hg8] at hq
          rw [← hg8]
          refine g_blk hz0 kX0_firstStep_167 ?_
          refine ⟨fun c9 => ?_, fun c9 => ?_⟩
          · rw [if_neg (show ¬ ((g7.1) = v4) from c9)] at hq
            replace hp := hp.2 c9
            refine g_blk hz0 kX0_firstStep_177 ?_
            refine g_le (L2 := [some (.ref 0), some (.ref 16), some (.int v2), some (.int (Int32.ofInt 2)), some (.int v4), some (.ref 14), some (.int v6), some (.int (Int32.ofInt (-1))), some (.int (v8 + (Int32.ofInt 1))), none, none, none, none]) ⟨rfl, rfl, rfl, rfl, rfl, rfl, rfl, rfl, rfl, trivial⟩ ?_
            exact ih (g7.2.1) (g7.2.2.1) (g8.1) (g8.2) v2 v4 v6 ((Int32.ofInt (-1))) (v8 + (Int32.ofInt 1)) hp hq
          · rw [if_pos (show (g7.1) = v4 from c9)] at hq
            refine g_blk hz0 kX0_firstStep_174 ?_
            subst hq
            exact ⟨fun h => (by cases h), rfl, rfl⟩
        · rw [if_pos (show (f_X3_goalOf s p ((s.2 10) (Int32.toNatClampNeg ((p.2 4) (Int32.toNatClampNeg ((h.2 202) (Int32.toNatClampNeg (v8 / (Int32.ofInt 8)))))))) ((s.2 11) (Int32.toNatClampNeg ((p.2 4) (Int32.toNatClampNeg ((h.2 202) (Int32.toNatClampNeg (v8 / (Int32.ofInt 8)))))))) (f_X0_wayOf v8) (f_X0_farOf v8)) = (Int32.ofInt (-1)) from c5)] at hq
          replace hp := hp.1 c5
          refine g_blk hz0 kX0_firstStep_131 ?_
          refine g_blk hz0 kX0_firstStep_177 ?_
          refine g_le (L2 := [some (.ref 0), some (.ref 16), some (.int v2), some (.int (Int32.ofInt 2)), some (.int v4), some (.ref 14), some (.int v6), some (.int v7), some (.int (v8 + (Int32.ofInt 1))), none, none, none, none]) ⟨rfl, rfl, rfl, rfl, rfl, rfl, rfl, rfl, rfl, trivial⟩ ?_
          exact ih o h s p v2 v4 v6 v7 (v8 + (Int32.ofInt 1)) hp hq
      · rw [if_pos (show (f_X4_has s ((p.2 4) (Int32.toNatClampNeg ((h.2 202) (Int32.toNatClampNeg (v8 / (Int32.ofInt 8))))))) = 0 from c4)] at hq
        replace hp := hp.1 c4
        refine g_blk hz0 kX0_firstStep_86 ?_
        refine g_blk hz0 kX0_firstStep_177 ?_
        refine g_le (L2 := [some (.ref 0), some (.ref 16), some (.int v2), some (.int (Int32.ofInt 2)), some (.int v4), some (.ref 14), some (.int v6), some (.int v7), some (.int (v8 + (Int32.ofInt 1))), none, none, none, none]) ⟨rfl, rfl, rfl, rfl, rfl, rfl, rfl, rfl, rfl, trivial⟩ ?_
        exact ih o h s p v2 v4 v6 v7 (v8 + (Int32.ofInt 1)) hp hq
set_option maxHeartbeats 16000000 in
set_option maxRecDepth 20000 in
theorem s_X0_firstStep_c2 (o : Rec) (h : Rec) (s : Rec) (p : Rec) (me : Int32) (wt : Int32) (hp : p_X0_firstStep_c2 o h s p me wt) : Spec 7 0 0 mX0_firstStep [.ref 0, .ref 16, .int me, .int (Int32.ofInt 2), .int wt] (wHP o h s p) (Ret (some (.int ((f_X0_firstStep_c2 o h s p me wt).1))) (wHP ((f_X0_firstStep_c2 o h s p me wt).2.1) ((f_X0_firstStep_c2 o h s p me wt).2.2.1) ((f_X0_firstStep_c2 o h s p me wt).2.2.2.1) ((f_X0_firstStep_c2 o h s p me wt).2.2.2.2))) := by
  obtain ⟨zq, hq⟩ : ∃ z, z = (f_X0_firstStep_c2 o h s p me wt) := ⟨_, rfl⟩
  rw [← hq]
  unfold f_X0_firstStep_c2 at hq
  unfold p_X0_firstStep_c2 at hp
  refine Sof fun sc => ?_
  refine g_blk hz0 kX0_firstStep_0 ?_
  refine cS0 (s_X8_within (Int32.ofInt 2) (Int32.ofInt 1) (Int32.ofInt 3)) rfl cwX8_within dX0_firstStep_3 rfl ?_
  refine g_blk hz0 kX0_firstStep_6 ?_
  refine ⟨fun _ => ?_, fun c => absurd c (by decide)⟩
  refine g_blk hz0 kX0_firstStep_12 ?_
  refine ⟨vinL (by decide), 14, rfl, ?_⟩
  refine cS [16, 17, 18, 19, 20, 21, 22, 23, 24, 25, 26, 27, 14] (wP8 s p ((fun _ => 0, fun _ => (h.2 202)) : Rec)) (s_X0_listLeaders s p ((fun _ => 0, fun _ => (h.2 202)) : Rec) hp.1) rfl cwX0_listLeaders dX0_firstStep_25 rfl (hm30_HP_P8 _ _ _ _) ((len_P8 _ _ _).trans (len_P8 _ _ _).symm) (wHP o (setA h 202 (((f_X0_listLeaders s p ((fun _ => 0, fun _ => (h.2 202)) : Rec)).2).2 0)) s p) (pw47_HP_P8 _ _ _ _ _) ?_
  replace hp := hp.2
  obtain ⟨g1, hg1⟩ : ∃ z, z = (f_X0_listLeaders s p ((fun _ => 0, fun _ => (h.2 202)) : Rec)) := ⟨_, rfl⟩
  try rw [← hg1] at hp
  try rw [← hg1] at hq
  rw [← hg1]
  refine g_blk hz0 kX0_firstStep_28 ?_
  refine ⟨vinL (by decide), 9, rfl, ?_⟩
  refine cV [16, 17, 18, 19, 20, 21, 22, 23, 24, 25, 26, 27, 9] (wPA s p ((fun _ => 0, fun _ => (h.2 102)) : Rec)) (s_X3_save s p ((fun _ => 0, fun _ => (h.2 102)) : Rec) hp.1) rfl cwX3_save dX0_firstStep_42 rfl rfl (hm31_HP_PA _ _ _ _) ((len_PA _ _ _).trans (len_PA _ _ _).symm) (wHP o (setA (setA h 102 ((f_X3_save s p ((fun _ => 0, fun _ => (h.2 102)) : Rec)).2 0)) 202 ((g1.2).2 0)) s p) (pw48_HP_PA _ _ _ _ _) ?_
  replace hp := hp.2
  obtain ⟨g2, hg2⟩ : ∃ z, z = (f_X3_save s p ((fun _ => 0, fun _ => (h.2 102)) : Rec)) := ⟨_, rfl⟩
  try rw [← hg2] at hp
  try rw [← hg2] at hq
  rw [← hg2]
  refine g_blk hz0 kX0_firstStep_45 ?_
  refine g_le (L2 := [some (.ref 0), some (.ref 16), some (.int me), some (.int (Int32.ofInt 2)), some (.int wt), some (.ref 14), some (.int ((Int32.ofInt 8) * (g1.1))), some (.int (Int32.ofInt (-2))), some (.int (Int32.ofInt 0)), none, none, none, none]) ⟨rfl, rfl, rfl, rfl, rfl, rfl, rfl, rfl, rfl, trivial⟩ ?_
  exact l_X0_firstStep_c2_48 sc zq 4000000000 o (setA (setA h 102 (g2.2 0)) 202 ((g1.2).2 0)) s p me wt ((Int32.ofInt 8) * (g1.1)) ((Int32.ofInt (-2))) ((Int32.ofInt 0)) hp hq
