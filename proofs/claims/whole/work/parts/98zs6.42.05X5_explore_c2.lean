set_option maxHeartbeats 16000000 in
theorem hm45_QS_I6Z6 (q : Rec) (s : Rec) : [4, 11].map (lk (wQS q s)) = (wI6Z6 ((fun _ => 0, fun _ => q.2 102) : Rec) ((fun _ => 0, fun _ => q.2 2) : Rec)).map (fun e => some (ren [4, 11] e)) := by
  simp only [List.map_cons, List.map_nil, lkQS_4, lkQS_11]
  unfold wI6Z6
  rfl
set_option maxHeartbeats 16000000 in
theorem pw65_QS_I6Z6 (q : Rec) (s : Rec)  : putW (wQS q s) [4, 11] ((wI6Z6 ((fun _ => 0, fun _ => q.2 102) : Rec) ((fun _ => 0, fun _ => q.2 2) : Rec)).map (ren [4, 11])) = (wQS q s) := by
  refine pw_gen (cp := [0, 1, 2, 3, 5, 6, 7, 8, 9, 10, 12, 13, 14, 15, 16, 17, 18, 19, 20]) (len_QS ..) (len_QS ..) (by decide) ?_ (by decide) ?_
  · simp only [List.map_cons, List.map_nil, lkQS_4, lkQS_11]
    unfold wI6Z6
    rfl
  · simp only [List.map_cons, List.map_nil, lkQS_0, lkQS_1, lkQS_2, lkQS_3, lkQS_5, lkQS_6, lkQS_7, lkQS_8, lkQS_9, lkQS_10, lkQS_12, lkQS_13, lkQS_14, lkQS_15, lkQS_16, lkQS_17, lkQS_18, lkQS_19, lkQS_20] <;> rfl
set_option maxHeartbeats 16000000 in
theorem hm46_QS_I6Z6 (q : Rec) (s : Rec) : [4, 12].map (lk (wQS q s)) = (wI6Z6 ((fun _ => 0, fun _ => q.2 102) : Rec) ((fun _ => 0, fun _ => q.2 3) : Rec)).map (fun e => some (ren [4, 12] e)) := by
  simp only [List.map_cons, List.map_nil, lkQS_4, lkQS_12]
  unfold wI6Z6
  rfl
set_option maxHeartbeats 16000000 in
theorem pw66_QS_I6Z6 (q : Rec) (s : Rec)  : putW (wQS q s) [4, 12] ((wI6Z6 ((fun _ => 0, fun _ => q.2 102) : Rec) ((fun _ => 0, fun _ => q.2 3) : Rec)).map (ren [4, 12])) = (wQS q s) := by
  refine pw_gen (cp := [0, 1, 2, 3, 5, 6, 7, 8, 9, 10, 11, 13, 14, 15, 16, 17, 18, 19, 20]) (len_QS ..) (len_QS ..) (by decide) ?_ (by decide) ?_
  · simp only [List.map_cons, List.map_nil, lkQS_4, lkQS_12]
    unfold wI6Z6
    rfl
  · simp only [List.map_cons, List.map_nil, lkQS_0, lkQS_1, lkQS_2, lkQS_3, lkQS_5, lkQS_6, lkQS_7, lkQS_8, lkQS_9, lkQS_10, lkQS_11, lkQS_13, lkQS_14, lkQS_15, lkQS_16, lkQS_17, lkQS_18, lkQS_19, lkQS_20] <;> rfl
set_option maxHeartbeats 16000000 in
theorem hm47_QS_I6Z6 (q : Rec) (s : Rec) : [9, 11].map (lk (wQS q s)) = (wI6Z6 ((fun _ => 0, fun _ => q.2 202) : Rec) ((fun _ => 0, fun _ => q.2 2) : Rec)).map (fun e => some (ren [9, 11] e)) := by
  simp only [List.map_cons, List.map_nil, lkQS_9, lkQS_11]
  unfold wI6Z6
  rfl
set_option maxHeartbeats 16000000 in
theorem pw67_QS_I6Z6 (q : Rec) (s : Rec)  : putW (wQS q s) [9, 11] ((wI6Z6 ((fun _ => 0, fun _ => q.2 202) : Rec) ((fun _ => 0, fun _ => q.2 2) : Rec)).map (ren [9, 11])) = (wQS q s) := by
  refine pw_gen (cp := [0, 1, 2, 3, 4, 5, 6, 7, 8, 10, 12, 13, 14, 15, 16, 17, 18, 19, 20]) (len_QS ..) (len_QS ..) (by decide) ?_ (by decide) ?_
  · simp only [List.map_cons, List.map_nil, lkQS_9, lkQS_11]
    unfold wI6Z6
    rfl
  · simp only [List.map_cons, List.map_nil, lkQS_0, lkQS_1, lkQS_2, lkQS_3, lkQS_4, lkQS_5, lkQS_6, lkQS_7, lkQS_8, lkQS_10, lkQS_12, lkQS_13, lkQS_14, lkQS_15, lkQS_16, lkQS_17, lkQS_18, lkQS_19, lkQS_20] <;> rfl
set_option maxHeartbeats 16000000 in
theorem hm48_QS_I6Z6 (q : Rec) (s : Rec) : [9, 12].map (lk (wQS q s)) = (wI6Z6 ((fun _ => 0, fun _ => q.2 202) : Rec) ((fun _ => 0, fun _ => q.2 3) : Rec)).map (fun e => some (ren [9, 12] e)) := by
  simp only [List.map_cons, List.map_nil, lkQS_9, lkQS_12]
  unfold wI6Z6
  rfl
set_option maxHeartbeats 16000000 in
theorem pw68_QS_I6Z6 (q : Rec) (s : Rec)  : putW (wQS q s) [9, 12] ((wI6Z6 ((fun _ => 0, fun _ => q.2 202) : Rec) ((fun _ => 0, fun _ => q.2 3) : Rec)).map (ren [9, 12])) = (wQS q s) := by
  refine pw_gen (cp := [0, 1, 2, 3, 4, 5, 6, 7, 8, 10, 11, 13, 14, 15, 16, 17, 18, 19, 20]) (len_QS ..) (len_QS ..) (by decide) ?_ (by decide) ?_
  · simp only [List.map_cons, List.map_nil, lkQS_9, lkQS_12]
    unfold wI6Z6
    rfl
  · simp only [List.map_cons, List.map_nil, lkQS_0, lkQS_1, lkQS_2, lkQS_3, lkQS_4, lkQS_5, lkQS_6, lkQS_7, lkQS_8, lkQS_10, lkQS_11, lkQS_13, lkQS_14, lkQS_15, lkQS_16, lkQS_17, lkQS_18, lkQS_19, lkQS_20] <;> rfl
set_option maxHeartbeats 16000000 in
theorem hm49_QS_I6I6 (q : Rec) (s : Rec) : [4, 5].map (lk (wQS q s)) = (wI6I6 ((fun _ => 0, fun _ => q.2 102) : Rec) ((fun _ => 0, fun _ => q.2 103) : Rec)).map (fun e => some (ren [4, 5] e)) := by
  simp only [List.map_cons, List.map_nil, lkQS_4, lkQS_5]
  unfold wI6I6
  rfl
set_option maxHeartbeats 16000000 in
theorem pw69_QS_I6I6 (q : Rec) (s : Rec) (b9 : Rec) : putW (wQS q s) [4, 5] ((wI6I6 ((fun _ => 0, fun _ => q.2 102) : Rec) b9).map (ren [4, 5])) = (wQS (setA q 103 (b9.2 0)) s) := by
  refine pw_gen (cp := [0, 1, 2, 3, 6, 7, 8, 9, 10, 11, 12, 13, 14, 15, 16, 17, 18, 19, 20]) (len_QS ..) (len_QS ..) (by decide) ?_ (by decide) ?_
  · simp only [List.map_cons, List.map_nil, lkQS_4, lkQS_5]
    unfold wI6I6
    rfl
  · simp only [List.map_cons, List.map_nil, lkQS_0, lkQS_1, lkQS_2, lkQS_3, lkQS_6, lkQS_7, lkQS_8, lkQS_9, lkQS_10, lkQS_11, lkQS_12, lkQS_13, lkQS_14, lkQS_15, lkQS_16, lkQS_17, lkQS_18, lkQS_19, lkQS_20] <;> rfl
set_option maxHeartbeats 16000000 in
theorem hm50_QS_I6I6 (q : Rec) (s : Rec) : [9, 10].map (lk (wQS q s)) = (wI6I6 ((fun _ => 0, fun _ => q.2 202) : Rec) ((fun _ => 0, fun _ => q.2 203) : Rec)).map (fun e => some (ren [9, 10] e)) := by
  simp only [List.map_cons, List.map_nil, lkQS_9, lkQS_10]
  unfold wI6I6
  rfl
set_option maxHeartbeats 16000000 in
theorem pw70_QS_I6I6 (q : Rec) (s : Rec) (b9 : Rec) : putW (wQS q s) [9, 10] ((wI6I6 ((fun _ => 0, fun _ => q.2 202) : Rec) b9).map (ren [9, 10])) = (wQS (setA q 203 (b9.2 0)) s) := by
  refine pw_gen (cp := [0, 1, 2, 3, 4, 5, 6, 7, 8, 11, 12, 13, 14, 15, 16, 17, 18, 19, 20]) (len_QS ..) (len_QS ..) (by decide) ?_ (by decide) ?_
  · simp only [List.map_cons, List.map_nil, lkQS_9, lkQS_10]
    unfold wI6I6
    rfl
  · simp only [List.map_cons, List.map_nil, lkQS_0, lkQS_1, lkQS_2, lkQS_3, lkQS_4, lkQS_5, lkQS_6, lkQS_7, lkQS_8, lkQS_11, lkQS_12, lkQS_13, lkQS_14, lkQS_15, lkQS_16, lkQS_17, lkQS_18, lkQS_19, lkQS_20] <;> rfl
set_option maxHeartbeats 16000000 in
theorem pw71_QS_QS (q : Rec) (s : Rec) (q9 : Rec) : putW (wQS q s) [0, 1, 2, 3, 4, 5, 6, 7, 8, 9, 10, 11, 12, 13, 14, 15, 16, 17, 18, 19, 20] ((wQS q9 s).map (ren [0, 1, 2, 3, 4, 5, 6, 7, 8, 9, 10, 11, 12, 13, 14, 15, 16, 17, 18, 19, 20])) = (wQS q9 s) := by
  refine pw_gen (cp := []) (len_QS ..) (len_QS ..) (by decide) ?_ (by decide) ?_
  · simp only [List.map_cons, List.map_nil, lkQS_0, lkQS_1, lkQS_2, lkQS_3, lkQS_4, lkQS_5, lkQS_6, lkQS_7, lkQS_8, lkQS_9, lkQS_10, lkQS_11, lkQS_12, lkQS_13, lkQS_14, lkQS_15, lkQS_16, lkQS_17, lkQS_18, lkQS_19, lkQS_20]
    unfold wQS
    simp only [List.map_cons, List.map_nil, renQ]
    rfl
  · rfl
set_option maxHeartbeats 16000000 in
set_option maxRecDepth 20000 in
theorem l_X5_explore_c2_111 (sc : SC) (s : Rec) {K34 : Rec → Rec → Int32 → Rec} {G34 : Rec → Rec → Int32 → Prop} (zq : Rec) (hK34 : ∀ (q : Rec) (v4 : Int32), G34 q s v4 → zq = K34 q s v4 → Good sc 4 0 0 21 mX5_explore (Ret none (wQS (zq) s)) 0 0 34 [some (.ref 0), some (.ref 14), some (.int (Int32.ofInt 2)), none, some (.int v4), none, none, none, none, none] [] (wQS q s)) : ∀ (n : Nat) (q : Rec) (v4 : Int32) (v8 : Int32) (v9 : Int32), p_X5_explore_c2_111 G34 n q s v4 v8 v9 → zq = f_X5_explore_c2_111 K34 n q s v4 v8 v9 → Good sc 4 0 0 21 mX5_explore (Ret none (wQS (zq) s)) 0 0 111 [some (.ref 0), some (.ref 14), some (.int (Int32.ofInt 2)), none, some (.int v4), none, none, none, some (.int v8), some (.int v9)] [] (wQS q s) := by
  intro n
  induction n with
  | zero => intro q v4 v8 v9 hp; exact hp.elim
  | succ n ih =>
    intro q v4 v8 v9 hp hq
    unfold p_X5_explore_c2_111 at hp
    unfold f_X5_explore_c2_111 at hq
    refine g_blk hz0 kX5_explore_111 ?_
    refine ⟨fun c5 => ?_, fun c5 => ?_⟩
    · rw [if_pos (show v8 < v9 from c5)] at hq
      replace hp := hp.1 c5
      refine g_blk hz0 kX5_explore_193 ?_
      refine g_le (L2 := [some (.ref 0), some (.ref 14), some (.int (Int32.ofInt 2)), none, some (.int (v4 + (Int32.ofInt 1))), none, none, none, none, none]) ⟨rfl, rfl, rfl, rfl, trivial⟩ ?_
      exact hK34 q (v4 + (Int32.ofInt 1)) hp hq
    · rw [if_neg (show ¬ (v8 < v9) from c5)] at hq
      replace hp := hp.2 c5
      refine g_blk hz0 kX5_explore_118 ?_
      refine ⟨vinL (by decide), 4, rfl, ?_⟩
      refine ⟨vinL (by decide), 5, rfl, ?_⟩
      refine ⟨fun c6 => ?_, fun c6 => ?_⟩
      · rw [if_neg (show ¬ (v4 = 0) from c6)] at hq
        replace hp := hp.2 c6
        refine g_blk hz0 kX5_explore_141 ?_
        refine g_blk hz0 kX5_explore_142 ?_
        refine cS [4, 5] (wI6I6 ((fun _ => 0, fun _ => (q.2 102)) : Rec) ((fun _ => 0, fun _ => (q.2 103)) : Rec)) (s_X5_bend ((fun _ => 0, fun _ => (q.2 102)) : Rec) ((fun _ => 0, fun _ => (q.2 103)) : Rec) ((Int32.ofInt 0)) v9 hp.1) rfl cwX5_bend dX5_explore_144 rfl (hm49_QS_I6I6 _ _) ((len_I6I6 _ _).trans (len_I6I6 _ _).symm) (wQS (setA q 103 ((f_X5_bend ((fun _ => 0, fun _ => (q.2 102)) : Rec) ((fun _ => 0, fun _ => (q.2 103)) : Rec) ((Int32.ofInt 0)) v9).2 0)) s) (pw69_QS_I6I6 _ _ _) ?_
        replace hp := hp.2
        obtain ⟨g13, hg13⟩ : ∃ z, z = (f_X5_bend ((fun _ => 0, fun _ => (q.2 102)) : Rec) ((fun _ => 0, fun _ => (q.2 103)) : Rec) ((Int32.ofInt 0)) v9) := ⟨_, rfl⟩
        try rw [← hg13] at hp
        try rw [← hg13] at hq
        rw [← hg13]
        refine g_blk hz0 kX5_explore_147 ?_
        refine ⟨vinL (by decide), 9, rfl, ?_⟩
        refine ⟨vinL (by decide), 10, rfl, ?_⟩
        refine ⟨fun c14 => ?_, fun c14 => ?_⟩
        · rw [if_neg (show ¬ (v4 = (Int32.ofInt 1)) from c14)] at hq
          replace hp := hp.2 c14
          refine g_blk hz0 kX5_explore_171 ?_
          refine g_blk hz0 kX5_explore_172 ?_
          refine cS [9, 10] (wI6I6 ((fun _ => 0, fun _ => (q.2 202)) : Rec) ((fun _ => 0, fun _ => (q.2 203)) : Rec)) (s_X5_bend ((fun _ => 0, fun _ => (q.2 202)) : Rec) ((fun _ => 0, fun _ => (q.2 203)) : Rec) ((Int32.ofInt 0)) v9 hp.1) rfl cwX5_bend dX5_explore_174 rfl (hm50_QS_I6I6 _ _) ((len_I6I6 _ _).trans (len_I6I6 _ _).symm) (wQS (setA (setA q 103 (g13.2 0)) 203 ((f_X5_bend ((fun _ => 0, fun _ => (q.2 202)) : Rec) ((fun _ => 0, fun _ => (q.2 203)) : Rec) ((Int32.ofInt 0)) v9).2 0)) s) (pw70_QS_I6I6 _ _ _) ?_
          replace hp := hp.2
          obtain ⟨g17, hg17⟩ : ∃ z, z = (f_X5_bend ((fun _ => 0, fun _ => (q.2 202)) : Rec) ((fun _ => 0, fun _ => (q.2 203)) : Rec) ((Int32.ofInt 0)) v9) := ⟨_, rfl⟩
          try rw [← hg17] at hp
          try rw [← hg17] at hq
          rw [← hg17]
          refine g_blk hz0 kX5_explore_177 ?_
          refine cV [0, 1, 2, 3, 4, 5, 6, 7, 8, 9, 10, 11, 12, 13, 14, 15, 16, 17, 18, 19, 20] (wQS (setA (setA q 103 (g13.2 0)) 203 (g17.2 0)) s) (s_X5_explore_c3 (setA (setA q 103 (g13.2 0)) 203 (g17.2 0)) s v4 hp.1) rfl cwX5_explore dX5_explore_184 rfl rfl (hm44_QS_QS _ _) ((len_QS _ _).trans (len_QS _ _).symm) (wQS (f_X5_explore_c3 (setA (setA q 103 (g13.2 0)) 203 (g17.2 0)) s v4) s) (pw71_QS_QS _ _ _) ?_
          replace hp := hp.2
          obtain ⟨g18, hg18⟩ : ∃ z, z = (f_X5_explore_c3 (setA (setA q 103 (g13.2 0)) 203 (g17.2 0)) s v4) := ⟨_, rfl⟩
          try rw [← hg18] at hp
          try rw [← hg18] at hq
          rw [← hg18]
          refine g_blk hz0 kX5_explore_187 ?_
          refine g_le (L2 := [some (.ref 0), some (.ref 14), some (.int (Int32.ofInt 2)), none, some (.int v4), none, none, none, some (.int v8), some (.int (v9 + (Int32.ofInt 1)))]) ⟨rfl, rfl, rfl, rfl, rfl, rfl, trivial⟩ ?_
          exact ih g18 v4 v8 (v9 + (Int32.ofInt 1)) hp hq
        · rw [if_pos (show v4 = (Int32.ofInt 1) from c14)] at hq
          replace hp := hp.1 c14
          refine g_blk hz0 kX5_explore_167 ?_
          refine g_blk hz0 kX5_explore_172 ?_
          refine cS [9, 10] (wI6I6 ((fun _ => 0, fun _ => (q.2 202)) : Rec) ((fun _ => 0, fun _ => (q.2 203)) : Rec)) (s_X5_bend ((fun _ => 0, fun _ => (q.2 202)) : Rec) ((fun _ => 0, fun _ => (q.2 203)) : Rec) ((Int32.ofInt 1)) v9 hp.1) rfl cwX5_bend dX5_explore_174 rfl (hm50_QS_I6I6 _ _) ((len_I6I6 _ _).trans (len_I6I6 _ _).symm) (wQS (setA (setA q 103 (g13.2 0)) 203 ((f_X5_bend ((fun _ => 0, fun _ => (q.2 202)) : Rec) ((fun _ => 0, fun _ => (q.2 203)) : Rec) ((Int32.ofInt 1)) v9).2 0)) s) (pw70_QS_I6I6 _ _ _) ?_
          replace hp := hp.2
          obtain ⟨g15, hg15⟩ : ∃ z, z = (f_X5_bend ((fun _ => 0, fun _ => (q.2 202)) : Rec) ((fun _ => 0, fun _ => (q.2 203)) : Rec) ((Int32.ofInt 1)) v9) := ⟨_, rfl⟩
          try rw [← hg15] at hp
          try rw [← hg15] at hq
          rw [← hg15]
          refine g_blk hz0 kX5_explore_177 ?_
          refine cV [0, 1, 2, 3, 4, 5, 6, 7, 8, 9, 10, 11, 12, 13, 14, 15, 16, 17, 18, 19, 20] (wQS (setA (setA q 103 (g13.2 0)) 203 (g15.2 0)) s) (s_X5_explore_c3 (setA (setA q 103 (g13.2 0)) 203 (g15.2 0)) s v4 hp.1) rfl cwX5_explore dX5_explore_184 rfl rfl (hm44_QS_QS _ _) ((len_QS _ _).trans (len_QS _ _).symm) (wQS (f_X5_explore_c3 (setA (setA q 103 (g13.2 0)) 203 (g15.2 0)) s v4) s) (pw71_QS_QS _ _ _) ?_
          replace hp := hp.2
          obtain ⟨g16, hg16⟩ : ∃ z, z = (f_X5_explore_c3 (setA (setA q 103 (g13.2 0)) 203 (g15.2 0)) s v4) := ⟨_, rfl⟩
          try rw [← hg16] at hp
          try rw [← hg16] at hq
          rw [← hg16]
          refine g_blk hz0 kX5_explore_187 ?_
          refine g_le (L2 := [some (.ref 0), some (.ref 14), some (.int (Int32.ofInt 2)), none, some (.int v4), none, none, none, some (.int v8), some (.int (v9 + (Int32.ofInt 1)))]) ⟨rfl, rfl, rfl, rfl, rfl, rfl, trivial⟩ ?_
          exact ih g16 v4 v8 (v9 + (Int32.ofInt 1)) hp hq
      · rw [if_pos (show v4 = 0 from c6)] at hq
        replace hp := hp.1 c6
        refine g_blk hz0 kX5_explore_137 ?_
        refine g_blk hz0 kX5_explore_142 ?_
        refine cS [4, 5] (wI6I6 ((fun _ => 0, fun _ => (q.2 102)) : Rec) ((fun _ => 0, fun _ => (q.2 103)) : Rec)) (s_X5_bend ((fun _ => 0, fun _ => (q.2 102)) : Rec) ((fun _ => 0, fun _ => (q.2 103)) : Rec) ((Int32.ofInt 1)) v9 hp.1) rfl cwX5_bend dX5_explore_144 rfl (hm49_QS_I6I6 _ _) ((len_I6I6 _ _).trans (len_I6I6 _ _).symm) (wQS (setA q 103 ((f_X5_bend ((fun _ => 0, fun _ => (q.2 102)) : Rec) ((fun _ => 0, fun _ => (q.2 103)) : Rec) ((Int32.ofInt 1)) v9).2 0)) s) (pw69_QS_I6I6 _ _ _) ?_
        replace hp := hp.2
        obtain ⟨g7, hg7⟩ : ∃ z, z = (f_X5_bend ((fun _ => 0, fun _ => (q.2 102)) : Rec) ((fun _ => 0, fun _ => (q.2 103)) : Rec) ((Int32.ofInt 1)) v9) := ⟨_, rfl⟩
        try rw [← hg7] at hp
        try rw [← hg7] at hq
        rw [← hg7]
        refine g_blk hz0 kX5_explore_147 ?_
        refine ⟨vinL (by decide), 9, rfl, ?_⟩
        refine ⟨vinL (by decide), 10, rfl, ?_⟩
        refine ⟨fun c8 => ?_, fun c8 => ?_⟩
        · rw [if_neg (show ¬ (v4 = (Int32.ofInt 1)) from c8)] at hq
          replace hp := hp.2 c8
          refine g_blk hz0 kX5_explore_171 ?_
          refine g_blk hz0 kX5_explore_172 ?_
          refine cS [9, 10] (wI6I6 ((fun _ => 0, fun _ => (q.2 202)) : Rec) ((fun _ => 0, fun _ => (q.2 203)) : Rec)) (s_X5_bend ((fun _ => 0, fun _ => (q.2 202)) : Rec) ((fun _ => 0, fun _ => (q.2 203)) : Rec) ((Int32.ofInt 0)) v9 hp.1) rfl cwX5_bend dX5_explore_174 rfl (hm50_QS_I6I6 _ _) ((len_I6I6 _ _).trans (len_I6I6 _ _).symm) (wQS (setA (setA q 103 (g7.2 0)) 203 ((f_X5_bend ((fun _ => 0, fun _ => (q.2 202)) : Rec) ((fun _ => 0, fun _ => (q.2 203)) : Rec) ((Int32.ofInt 0)) v9).2 0)) s) (pw70_QS_I6I6 _ _ _) ?_
          replace hp := hp.2
          obtain ⟨g11, hg11⟩ : ∃ z, z = (f_X5_bend ((fun _ => 0, fun _ => (q.2 202)) : Rec) ((fun _ => 0, fun _ => (q.2 203)) : Rec) ((Int32.ofInt 0)) v9) := ⟨_, rfl⟩
          try rw [← hg11] at hp
          try rw [← hg11] at hq
          rw [← hg11]
          refine g_blk hz0 kX5_explore_177 ?_
          refine cV [0, 1, 2, 3, 4, 5, 6, 7, 8, 9, 10, 11, 12, 13, 14, 15, 16, 17, 18, 19, 20] (wQS (setA (setA q 103 (g7.2 0)) 203 (g11.2 0)) s) (s_X5_explore_c3 (setA (setA q 103 (g7.2 0)) 203 (g11.2 0)) s v4 hp.1) rfl cwX5_explore dX5_explore_184 rfl rfl (hm44_QS_QS _ _) ((len_QS _ _).trans (len_QS _ _).symm) (wQS (f_X5_explore_c3 (setA (setA q 103 (g7.2 0)) 203 (g11.2 0)) s v4) s) (pw71_QS_QS _ _ _) ?_
          replace hp := hp.2
          obtain ⟨g12, hg12⟩ : ∃ z, z = (f_X5_explore_c3 (setA (setA q 103 (g7.2 0)) 203 (g11.2 0)) s v4) := ⟨_, rfl⟩
          try rw [← hg12] at hp
          try rw [← hg12] at hq
          rw [← hg12]
          refine g_blk hz0 kX5_explore_187 ?_
          refine g_le (L2 := [some (.ref 0), some (.ref 14), some (.int (Int32.ofInt 2)), none, some (.int v4), none, none, none, some (.int v8), some (.int (v9 + (Int32.ofInt 1)))]) ⟨rfl, rfl, rfl, rfl, rfl, rfl, trivial⟩ ?_
          exact ih g12 v4 v8 (v9 + (Int32.ofInt 1)) hp hq
        · rw [if_pos (show v4 = (Int32.ofInt 1) from c8)] at hq
          replace hp := hp.1 c8
          refine g_blk hz0 kX5_explore_167 ?_
          refine g_blk hz0 kX5_explore_172 ?_
          refine cS [9, 10] (wI6I6 ((fun _ => 0, fun _ => (q.2 202)) : Rec) ((fun _ => 0, fun _ => (q.2 203)) : Rec)) (s_X5_bend ((fun _ => 0, fun _ => (q.2 202)) : Rec) ((fun _ => 0, fun _ => (q.2 203)) : Rec) ((Int32.ofInt 1)) v9 hp.1) rfl cwX5_bend dX5_explore_174 rfl (hm50_QS_I6I6 _ _) ((len_I6I6 _ _).trans (len_I6I6 _ _).symm) (wQS (setA (setA q 103 (g7.2 0)) 203 ((f_X5_bend ((fun _ => 0, fun _ => (q.2 202)) : Rec) ((fun _ => 0, fun _ => (q.2 203)) : Rec) ((Int32.ofInt 1)) v9).2 0)) s) (pw70_QS_I6I6 _ _ _) ?_
          replace hp := hp.2
          obtain ⟨g9, hg9⟩ : ∃ z, z = (f_X5_bend ((fun _ => 0, fun _ => (q.2 202)) : Rec) ((fun _ => 0, fun _ => (q.2 203)) : Rec) ((Int32.ofInt 1)) v9) := ⟨_, rfl⟩
          try rw [← hg9] at hp
          try rw [← hg9] at hq
          rw [← hg9]
          refine g_blk hz0 kX5_explore_177 ?_
          refine cV [0, 1, 2, 3, 4, 5, 6, 7, 8, 9, 10, 11, 12, 13, 14, 15, 16, 17, 18, 19, 20] (wQS (setA (setA q 103 (g7.2 0)) 203 (g9.2 0)) s) (s_X5_explore_c3 (setA (setA q 103 (g7.2 0)) 203 (g9.2 0)) s v4 hp.1) rfl cwX5_explore dX5_explore_184 rfl rfl (hm44_QS_QS _ _) ((len_QS _ _).trans (len_QS _ _).symm) (wQS (f_X5_explore_c3 (setA (setA q 103 (g7.2 0)) 203 (g9.2 0)) s v4) s) (pw71_QS_QS _ _ _) ?_
          replace hp := hp.2
          obtain ⟨g10, hg10⟩ : ∃ z, z = (f_X5_explore_c3 (setA (setA q 103 (g7.2 0)) 203 (g9.2 0)) s v4) := ⟨_, rfl⟩
          try rw [← hg10] at hp
          try rw [← hg10] at hq
          rw [← hg10]
          refine g_blk hz0 kX5_explore_187 ?_
          refine g_le (L2 := [some (.ref 0), some (.ref 14), some (.int (Int32.ofInt 2)), none, some (.int v4), none, none, none, some (.int v8), some (.int (v9 + (Int32.ofInt 1)))]) ⟨rfl, rfl, rfl, rfl, rfl, rfl, trivial⟩ ?_
          exact ih g10 v4 v8 (v9 + (Int32.ofInt 1)) hp hq
set_option maxHeartbeats 16000000 in
set_option maxRecDepth 20000 in
theorem l_X5_explore_c2_34 (sc : SC) (s : Rec)  (zq : Rec)  : ∀ (n : Nat) (q : Rec) (v4 : Int32), p_X5_explore_c2_34 n q s v4 → zq = f_X5_explore_c2_34 n q s v4 → Good sc 4 0 0 21 mX5_explore (Ret none (wQS (zq) s)) 0 0 34 [some (.ref 0), some (.ref 14), some (.int (Int32.ofInt 2)), none, some (.int v4), none, none, none, none, none] [] (wQS q s) := by
  intro n
  induction n with
  | zero => intro q v4 hp; exact hp.elim
  | succ n ih =>
    intro q v4 hp hq
    unfold p_X5_explore_c2_34 at hp
    unfold f_X5_explore_c2_34 at hq
    try dsimp only at hp
    try dsimp only at hq
    refine g_blk hz0 kX5_explore_34 ?_
    refine ⟨fun c1 => ?_, fun c1 => ?_⟩
    · rw [if_pos (show (Int32.ofInt 1) < v4 from c1)] at hq
      refine g_blk hz0 kX5_explore_199 ?_
      subst hq
      exact ⟨rfl, rfl⟩
    · rw [if_neg (show ¬ ((Int32.ofInt 1) < v4) from c1)] at hq
      replace hp := hp.2 c1
      refine g_blk hz0 kX5_explore_40 ?_
      refine ⟨fun c => absurd c (by decide), fun _ => ?_⟩
      refine g_blk hz0 kX5_explore_45 ?_
      refine ⟨fun c2 => ?_, fun c2 => ?_⟩
      · rw [if_neg (show ¬ (v4 = 0) from c2)] at hq
        replace hp := hp.2 c2
        refine g_blk hz0 kX5_explore_59 ?_
        refine ⟨vinL (by decide), 9, rfl, ?_⟩
        refine g_blk hz0 kX5_explore_65 ?_
        refine ⟨fun c4 => ?_, fun c4 => ?_⟩
        · rw [if_neg (show ¬ (v4 = 0) from c4)] at hq
          replace hp := hp.2 c4
          refine g_blk hz0 kX5_explore_79 ?_
          refine g_blk hz0 kX5_explore_83 ?_
          refine cS [9, 12] (wI6Z6 ((fun _ => 0, fun _ => (q.2 202)) : Rec) ((fun _ => 0, fun _ => (q.2 3)) : Rec)) (s_X5_outmost ((fun _ => 0, fun _ => (q.2 202)) : Rec) ((fun _ => 0, fun _ => (q.2 3)) : Rec) ((Int32.ofInt 0)) hp.1) rfl cwX5_outmost dX5_explore_90 rfl (hm48_QS_I6Z6 _ _) ((len_I6Z6 _ _).trans (len_I6Z6 _ _).symm) (wQS q s) (pw68_QS_I6Z6 _ _) ?_
          replace hp := hp.2
          refine g_blk hz0 kX5_explore_93 ?_
          refine cS [9, 12] (wI6Z6 ((fun _ => 0, fun _ => (q.2 202)) : Rec) ((fun _ => 0, fun _ => (q.2 3)) : Rec)) (s_X5_outmost ((fun _ => 0, fun _ => (q.2 202)) : Rec) ((fun _ => 0, fun _ => (q.2 3)) : Rec) ((Int32.ofInt 1)) hp.1) rfl cwX5_outmost dX5_explore_100 rfl (hm48_QS_I6Z6 _ _) ((len_I6Z6 _ _).trans (len_I6Z6 _ _).symm) (wQS q s) (pw68_QS_I6Z6 _ _) ?_
          replace hp := hp.2
          refine g_blk hz0 kX5_explore_103 ?_
          refine g_le (L2 := [some (.ref 0), some (.ref 14), some (.int (Int32.ofInt 2)), none, some (.int v4), none, none, none, some (.int (f_X5_outmost ((fun _ => 0, fun _ => (q.2 202)) : Rec) ((fun _ => 0, fun _ => (q.2 3)) : Rec) ((Int32.ofInt 1)))), some (.int ((f_X5_outmost ((fun _ => 0, fun _ => (q.2 202)) : Rec) ((fun _ => 0, fun _ => (q.2 3)) : Rec) ((Int32.ofInt 0))) + (Int32.ofInt 1)))]) ⟨rfl, rfl, rfl, rfl, rfl, rfl, trivial⟩ ?_
          exact l_X5_explore_c2_111 sc s zq (fun r0 r1 hp hq => ih r0 r1 hp hq) 4000000000 q v4 (f_X5_outmost ((fun _ => 0, fun _ => (q.2 202)) : Rec) ((fun _ => 0, fun _ => (q.2 3)) : Rec) ((Int32.ofInt 1))) ((f_X5_outmost ((fun _ => 0, fun _ => (q.2 202)) : Rec) ((fun _ => 0, fun _ => (q.2 3)) : Rec) ((Int32.ofInt 0))) + (Int32.ofInt 1)) hp hq
        · rw [if_pos (show v4 = 0 from c4)] at hq
          replace hp := hp.1 c4
          refine g_blk hz0 kX5_explore_72 ?_
          refine g_blk hz0 kX5_explore_83 ?_
          refine cS [9, 11] (wI6Z6 ((fun _ => 0, fun _ => (q.2 202)) : Rec) ((fun _ => 0, fun _ => (q.2 2)) : Rec)) (s_X5_outmost ((fun _ => 0, fun _ => (q.2 202)) : Rec) ((fun _ => 0, fun _ => (q.2 2)) : Rec) ((Int32.ofInt 0)) hp.1) rfl cwX5_outmost dX5_explore_90 rfl (hm47_QS_I6Z6 _ _) ((len_I6Z6 _ _).trans (len_I6Z6 _ _).symm) (wQS q s) (pw67_QS_I6Z6 _ _) ?_
          replace hp := hp.2
          refine g_blk hz0 kX5_explore_93 ?_
          refine cS [9, 11] (wI6Z6 ((fun _ => 0, fun _ => (q.2 202)) : Rec) ((fun _ => 0, fun _ => (q.2 2)) : Rec)) (s_X5_outmost ((fun _ => 0, fun _ => (q.2 202)) : Rec) ((fun _ => 0, fun _ => (q.2 2)) : Rec) ((Int32.ofInt 1)) hp.1) rfl cwX5_outmost dX5_explore_100 rfl (hm47_QS_I6Z6 _ _) ((len_I6Z6 _ _).trans (len_I6Z6 _ _).symm) (wQS q s) (pw67_QS_I6Z6 _ _) ?_
          replace hp := hp.2
          refine g_blk hz0 kX5_explore_103 ?_
          refine g_le (L2 := [some (.ref 0), some (.ref 14), some (.int (Int32.ofInt 2)), none, some (.int v4), none, none, none, some (.int (f_X5_outmost ((fun _ => 0, fun _ => (q.2 202)) : Rec) ((fun _ => 0, fun _ => (q.2 2)) : Rec) ((Int32.ofInt 1)))), some (.int ((f_X5_outmost ((fun _ => 0, fun _ => (q.2 202)) : Rec) ((fun _ => 0, fun _ => (q.2 2)) : Rec) ((Int32.ofInt 0))) + (Int32.ofInt 1)))]) ⟨rfl, rfl, rfl, rfl, rfl, rfl, trivial⟩ ?_
          exact l_X5_explore_c2_111 sc s zq (fun r0 r1 hp hq => ih r0 r1 hp hq) 4000000000 q v4 (f_X5_outmost ((fun _ => 0, fun _ => (q.2 202)) : Rec) ((fun _ => 0, fun _ => (q.2 2)) : Rec) ((Int32.ofInt 1))) ((f_X5_outmost ((fun _ => 0, fun _ => (q.2 202)) : Rec) ((fun _ => 0, fun _ => (q.2 2)) : Rec) ((Int32.ofInt 0))) + (Int32.ofInt 1)) hp hq
      · rw [if_pos (show v4 = 0 from c2)] at hq
        replace hp := hp.1 c2
        refine g_blk hz0 kX5_explore_50 ?_
        refine ⟨vinL (by decide), 4, rfl, ?_⟩
        refine g_blk hz0 kX5_explore_65 ?_
        refine ⟨fun c3 => ?_, fun c3 => ?_⟩
        · rw [if_neg (show ¬ (v4 = 0) from c3)] at hq
          replace hp := hp.2 c3
          refine g_blk hz0 kX5_explore_79 ?_
          refine g_blk hz0 kX5_explore_83 ?_
          refine cS [4, 12] (wI6Z6 ((fun _ => 0, fun _ => (q.2 102)) : Rec) ((fun _ => 0, fun _ => (q.2 3)) : Rec)) (s_X5_outmost ((fun _ => 0, fun _ => (q.2 102)) : Rec) ((fun _ => 0, fun _ => (q.2 3)) : Rec) ((Int32.ofInt 0)) hp.1) rfl cwX5_outmost dX5_explore_90 rfl (hm46_QS_I6Z6 _ _) ((len_I6Z6 _ _).trans (len_I6Z6 _ _).symm) (wQS q s) (pw66_QS_I6Z6 _ _) ?_
          replace hp := hp.2
          refine g_blk hz0 kX5_explore_93 ?_
          refine cS [4, 12] (wI6Z6 ((fun _ => 0, fun _ => (q.2 102)) : Rec) ((fun _ => 0, fun _ => (q.2 3)) : Rec)) (s_X5_outmost ((fun _ => 0, fun _ => (q.2 102)) : Rec) ((fun _ => 0, fun _ => (q.2 3)) : Rec) ((Int32.ofInt 1)) hp.1) rfl cwX5_outmost dX5_explore_100 rfl (hm46_QS_I6Z6 _ _) ((len_I6Z6 _ _).trans (len_I6Z6 _ _).symm) (wQS q s) (pw66_QS_I6Z6 _ _) ?_
          replace hp := hp.2
          refine g_blk hz0 kX5_explore_103 ?_
          refine g_le (L2 := [some (.ref 0), some (.ref 14), some (.int (Int32.ofInt 2)), none, some (.int v4), none, none, none, some (.int (f_X5_outmost ((fun _ => 0, fun _ => (q.2 102)) : Rec) ((fun _ => 0, fun _ => (q.2 3)) : Rec) ((Int32.ofInt 1)))), some (.int ((f_X5_outmost ((fun _ => 0, fun _ => (q.2 102)) : Rec) ((fun _ => 0, fun _ => (q.2 3)) : Rec) ((Int32.ofInt 0))) + (Int32.ofInt 1)))]) ⟨rfl, rfl, rfl, rfl, rfl, rfl, trivial⟩ ?_
          exact l_X5_explore_c2_111 sc s zq (fun r0 r1 hp hq => ih r0 r1 hp hq) 4000000000 q v4 (f_X5_outmost ((fun _ => 0, fun _ => (q.2 102)) : Rec) ((fun _ => 0, fun _ => (q.2 3)) : Rec) ((Int32.ofInt 1))) ((f_X5_outmost ((fun _ => 0, fun _ => (q.2 102)) : Rec) ((fun _ => 0, fun _ => (q.2 3)) : Rec) ((Int32.ofInt 0))) + (Int32.ofInt 1)) hp hq
        · rw [if_pos (show v4 = 0 from c3)] at hq
          replace hp := hp.1 c3
          refine g_blk hz0 kX5_explore_72 ?_
          refine g_blk hz0 kX5_explore_83 ?_
          refine cS [4, 11] (wI6Z6 ((fun _ => 0, fun _ => (q.2 102)) : Rec) ((fun _ => 0, fun _ => (q.2 2)) : Rec)) (s_X5_outmost ((fun _ => 0, fun _ => (q.2 102)) : Rec) ((fun _ => 0, fun _ => (q.2 2)) : Rec) ((Int32.ofInt 0)) hp.1) rfl cwX5_outmost dX5_explore_90 rfl (hm45_QS_I6Z6 _ _) ((len_I6Z6 _ _).trans (len_I6Z6 _ _).symm) (wQS q s) (pw65_QS_I6Z6 _ _) ?_
          replace hp := hp.2
          refine g_blk hz0 kX5_explore_93 ?_
          refine cS [4, 11] (wI6Z6 ((fun _ => 0, fun _ => (q.2 102)) : Rec) ((fun _ => 0, fun _ => (q.2 2)) : Rec)) (s_X5_outmost ((fun _ => 0, fun _ => (q.2 102)) : Rec) ((fun _ => 0, fun _ => (q.2 2)) : Rec) ((Int32.ofInt 1)) hp.1) rfl cwX5_outmost dX5_explore_100 rfl (hm45_QS_I6Z6 _ _) ((len_I6Z6 _ _).trans (len_I6Z6 _ _).symm) (wQS q s) (pw65_QS_I6Z6 _ _) ?_
          replace hp := hp.2
          refine g_blk hz0 kX5_explore_103 ?_
          refine g_le (L2 := [some (.ref 0), some (.ref 14), some (.int (Int32.ofInt 2)), none, some (.int v4), none, none, none, some (.int (f_X5_outmost ((fun _ => 0, fun _ => (q.2 102)) : Rec) ((fun _ => 0, fun _ => (q.2 2)) : Rec) ((Int32.ofInt 1)))), some (.int ((f_X5_outmost ((fun _ => 0, fun _ => (q.2 102)) : Rec) ((fun _ => 0, fun _ => (q.2 2)) : Rec) ((Int32.ofInt 0))) + (Int32.ofInt 1)))]) ⟨rfl, rfl, rfl, rfl, rfl, rfl, trivial⟩ ?_
          exact l_X5_explore_c2_111 sc s zq (fun r0 r1 hp hq => ih r0 r1 hp hq) 4000000000 q v4 (f_X5_outmost ((fun _ => 0, fun _ => (q.2 102)) : Rec) ((fun _ => 0, fun _ => (q.2 2)) : Rec) ((Int32.ofInt 1))) ((f_X5_outmost ((fun _ => 0, fun _ => (q.2 102)) : Rec) ((fun _ => 0, fun _ => (q.2 2)) : Rec) ((Int32.ofInt 0))) + (Int32.ofInt 1)) hp hq
set_option maxHeartbeats 16000000 in
set_option maxRecDepth 20000 in
theorem s_X5_explore_c2 (q : Rec) (s : Rec) (a : Int32) (hp : p_X5_explore_c2 q s a) : Spec 4 0 0 mX5_explore [.ref 0, .ref 14, .int (Int32.ofInt 2), .int a] (wQS q s) (Ret none (wQS ((f_X5_explore_c2 q s a)) s)) := by
  obtain ⟨zq, hq⟩ : ∃ z, z = (f_X5_explore_c2 q s a) := ⟨_, rfl⟩
  rw [← hq]
  unfold f_X5_explore_c2 at hq
  unfold p_X5_explore_c2 at hp
  refine Sof fun sc => ?_
  refine g_blk hz0 kX5_explore_0 ?_
  refine cS0 (s_X8_within (Int32.ofInt 2) (Int32.ofInt 0) (Int32.ofInt 3)) rfl cwX8_within dX5_explore_3 rfl ?_
  refine g_blk hz0 kX5_explore_6 ?_
  refine ⟨fun _ => ?_, fun c => absurd c (by decide)⟩
  refine g_blk hz0 kX5_explore_10 ?_
  refine ⟨vinL (by decide), ?_⟩
  refine cVp [0, 1, 2, 3, 4, 5, 6, 7, 8, 9, 10, 11, 12, 13, 14, 15, 16, 17, 18, 19, 20] (wQS q s) (s_X5_positions_c2 q s hp.1) rfl cwX5_positions dX5_explore_24 rfl rfl (hm44_QS_QS _ _) ?_
  replace hp := hp.2
  refine g_min (by decide) hz0 (gw_mem (by decide +kernel)) (Nat.le_of_ble_eq_true rfl) dX5_explore_27 ?_
  refine g_blk hz0 kX5_explore_30 ?_
  refine ⟨vinL (by decide), ?_⟩
  refine g_le (L2 := [some (.ref 0), some (.ref 14), some (.int (Int32.ofInt 2)), none, some (.int a), none, none, none, none, none]) ⟨rfl, rfl, rfl, rfl, trivial⟩ ?_
  exact l_X5_explore_c2_34 sc s zq 4000000000 (setA q 4 (upd (q.2 4) (Int32.toNatClampNeg (Int32.ofInt 2)) (if (f_X5_positions_c2 q s) < ((q.2 4) (Int32.toNatClampNeg (Int32.ofInt 2))) then (f_X5_positions_c2 q s) else ((q.2 4) (Int32.toNatClampNeg (Int32.ofInt 2)))))) a hp hq
