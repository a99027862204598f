def f_X9_leaves (m : Rec) (i : Int32) (o : Int32) : Int32 × Rec := if (f_X9_in (Int32.toInt64 i) ((Int64.ofNat 0)) (Int32.toInt64 ((f_X9_foldsNow (f_X9_lays m)) - (Int32.ofInt 1)))) = 0 then (((f_X9_bad (f_X9_lays m)).1), ((f_X9_bad (f_X9_lays m)).2)) else (if (f_X9_in (Int32.toInt64 o) ((Int64.ofNat 0)) ((Int64.ofNat 1))) = 0 then (((f_X9_bad (f_X9_lays m)).1), ((f_X9_bad (f_X9_lays m)).2)) else ((f_X9_rules (f_X9_laysWith (f_X9_lays m) i) o), (f_X9_laysWith (f_X9_lays m) i)))
def p_X9_leaves (m : Rec) (i : Int32) (o : Int32) : Prop := (p_X9_lays m) ∧ ((p_X9_foldsNow (f_X9_lays m)) ∧ (((f_X9_in (Int32.toInt64 i) ((Int64.ofNat 0)) (Int32.toInt64 ((f_X9_foldsNow (f_X9_lays m)) - (Int32.ofInt 1)))) = 0 → ((p_X9_bad (f_X9_lays m)) ∧ True)) ∧ (¬ ((f_X9_in (Int32.toInt64 i) ((Int64.ofNat 0)) (Int32.toInt64 ((f_X9_foldsNow (f_X9_lays m)) - (Int32.ofInt 1)))) = 0) → (((f_X9_in (Int32.toInt64 o) ((Int64.ofNat 0)) ((Int64.ofNat 1))) = 0 → ((p_X9_bad (f_X9_lays m)) ∧ True)) ∧ (¬ ((f_X9_in (Int32.toInt64 o) ((Int64.ofNat 0)) ((Int64.ofNat 1))) = 0) → ((p_X9_laysWith (f_X9_lays m) i) ∧ ((p_X9_rules (f_X9_laysWith (f_X9_lays m) i) o) ∧ True)))))))
set_option maxHeartbeats 16000000 in
set_option maxRecDepth 20000 in
theorem s_X9_leaves (m : Rec) (i : Int32) (o : Int32) (hp : p_X9_leaves m i o) : Spec 5 0 0 mX9_leaves [.ref 0, .int i, .int o] (wM m) (Ret (some (.int ((f_X9_leaves m i o).1))) (wM ((f_X9_leaves m i o).2))) := by
  obtain ⟨zq, hq⟩ : ∃ z, z = (f_X9_leaves m i o) := ⟨_, rfl⟩
  rw [← hq]
  unfold f_X9_leaves at hq
  unfold p_X9_leaves at hp
  refine Sof fun sc => ?_
  refine g_blk hz0 kX9_leaves_0 ?_
  refine cV [0, 1, 2, 3, 4, 5, 6, 7, 8, 9, 10, 11, 12, 13, 14, 15, 16] (wM m) (s_X9_lays m hp.1) rfl cwX9_lays dX9_leaves_1 rfl rfl (hm0_M_M _) ((len_M _).trans (len_M _).symm) (wM (f_X9_lays m)) (pw0_M_M _ _) ?_
  replace hp := hp.2
  obtain ⟨g1, hg1⟩ : ∃ z, z = (f_X9_lays m) := ⟨_, rfl⟩
  try rw [← hg1] at hp
  try rw [← hg1] at hq
  rw [← hg1]
  refine g_blk hz0 kX9_leaves_4 ?_
  refine cVp [0, 1, 2, 3, 4, 5, 6, 7, 8, 9, 10, 11, 12, 13, 14, 15, 16] (wM g1) (s_X9_foldsNow g1 hp.1) rfl cwX9_foldsNow dX9_leaves_8 rfl rfl (hm0_M_M _) ?_
  replace hp := hp.2
  refine g_blk hz0 kX9_leaves_11 ?_
  refine cS0 (s_X9_in (Int32.toInt64 i) ((Int64.ofNat 0)) (Int32.toInt64 ((f_X9_foldsNow g1) - (Int32.ofInt 1)))) rfl cwX9_in dX9_leaves_14 rfl ?_
  refine g_blk hz0 kX9_leaves_17 ?_
  refine ⟨fun c2 => ?_, fun c2 => ?_⟩
  · rw [if_pos (show (f_X9_in (Int32.toInt64 i) ((Int64.ofNat 0)) (Int32.toInt64 ((f_X9_foldsNow g1) - (Int32.ofInt 1)))) = 0 from c2)] at hq
    replace hp := hp.1 c2
    refine g_blk hz0 kX9_leaves_30 ?_
    refine cV [0, 1, 2, 3, 4, 5, 6, 7, 8, 9, 10, 11, 12, 13, 14, 15, 16] (wM g1) (s_X9_bad g1 hp.1) rfl cwX9_bad dX9_leaves_31 rfl rfl (hm0_M_M _) ((len_M _).trans (len_M _).symm) (wM ((f_X9_bad g1).2)) (pw0_M_M _ _) ?_
    replace hp := hp.2
    obtain ⟨g3, hg3⟩ : ∃ z, z = (f_X9_bad g1) := ⟨_, rfl⟩
    try rw [← hg3] at hp
    try rw [← hg3] at hq
    rw [← hg3]
    refine g_blk hz0 kX9_leaves_34 ?_
    subst hq
    exact ⟨fun h => (by cases h), rfl, rfl⟩
  · rw [if_neg (show ¬ ((f_X9_in (Int32.toInt64 i) ((Int64.ofNat 0)) (Int32.toInt64 ((f_X9_foldsNow g1) - (Int32.ofInt 1)))) = 0) from c2)] at hq
    replace hp := hp.2 c2
    refine g_blk hz0 kX9_leaves_20 ?_
    refine cS0 (s_X9_in (Int32.toInt64 o) ((Int64.ofNat 0)) ((Int64.ofNat 1))) rfl cwX9_in dX9_leaves_24 rfl ?_
    refine g_blk hz0 kX9_leaves_27 ?_
    refine ⟨fun c4 => ?_, fun c4 => ?_⟩
    · rw [if_neg (show ¬ ((f_X9_in (Int32.toInt64 o) ((Int64.ofNat 0)) ((Int64.ofNat 1))) = 0) from c4)] at hq
      replace hp := hp.2 c4
      refine g_blk hz0 kX9_leaves_35 ?_
      refine cV [0, 1, 2, 3, 4, 5, 6, 7, 8, 9, 10, 11, 12, 13, 14, 15, 16] (wM g1) (s_X9_laysWith g1 i hp.1) rfl cwX9_laysWith dX9_leaves_37 rfl rfl (hm0_M_M _) ((len_M _).trans (len_M _).symm) (wM (f_X9_laysWith g1 i)) (pw0_M_M _ _) ?_
      replace hp := hp.2
      obtain ⟨g6, hg6⟩ : ∃ z, z = (f_X9_laysWith g1 i) := ⟨_, rfl⟩
      try rw [← hg6] at hp
      try rw [← hg6] at hq
      rw [← hg6]
      refine g_blk hz0 kX9_leaves_40 ?_
      refine cVp [0, 1, 2, 3, 4, 5, 6, 7, 8, 9, 10, 11, 12, 13, 14, 15, 16] (wM g6) (s_X9_rules g6 o hp.1) rfl cwX9_rules dX9_leaves_42 rfl rfl (hm0_M_M _) ?_
      replace hp := hp.2
      refine g_blk hz0 kX9_leaves_45 ?_
      subst hq
      exact ⟨fun h => (by cases h), rfl, rfl⟩
    · rw [if_pos (show (f_X9_in (Int32.toInt64 o) ((Int64.ofNat 0)) ((Int64.ofNat 1))) = 0 from c4)] at hq
      replace hp := hp.1 c4
      refine g_blk hz0 kX9_leaves_30 ?_
      refine cV [0, 1, 2, 3, 4, 5, 6, 7, 8, 9, 10, 11, 12, 13, 14, 15, 16] (wM g1) (s_X9_bad g1 hp.1) rfl cwX9_bad dX9_leaves_31 rfl rfl (hm0_M_M _) ((len_M _).trans (len_M _).symm) (wM ((f_X9_bad g1).2)) (pw0_M_M _ _) ?_
      replace hp := hp.2
      obtain ⟨g5, hg5⟩ : ∃ z, z = (f_X9_bad g1) := ⟨_, rfl⟩
      try rw [← hg5] at hp
      try rw [← hg5] at hq
      rw [← hg5]
      refine g_blk hz0 kX9_leaves_34 ?_
      subst hq
      exact ⟨fun h => (by cases h), rfl, rfl⟩
