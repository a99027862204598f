def f_X9_cell (m : Rec) (c : Int32) (w : Int32) : Int32 × Rec := if (f_X9_isCell m c) = 0 then (((f_X9_refuses m ((Int32.ofInt 0)) ((Int32.ofInt (-1000)))).1), ((f_X9_refuses m ((Int32.ofInt 0)) ((Int32.ofInt (-1000)))).2)) else (if (f_X9_in (Int32.toInt64 w) ((Int64.ofNat 0)) 3) = 0 then (((f_X9_refuses m ((Int32.ofInt 0)) ((Int32.ofInt (-1000)))).1), ((f_X9_refuses m ((Int32.ofInt 0)) ((Int32.ofInt (-1000)))).2)) else (if w = 0 then ((((f_X9_lays m).2 4) (Int32.toNatClampNeg c)), (f_X9_lays m)) else (if w = (Int32.ofInt 1) then ((((f_X9_lays m).2 5) (Int32.toNatClampNeg c)), (f_X9_lays m)) else (if w = (Int32.ofInt 2) then ((((f_X9_lays m).2 6) (Int32.toNatClampNeg c)), (f_X9_lays m)) else (if (((f_X9_lays m).2 7) (Int32.toNatClampNeg c)) = 0 then ((Int32.ofInt 0), (f_X9_lays m)) else ((Int32.ofInt 1), (f_X9_lays m)))))))
def p_X9_cell (m : Rec) (c : Int32) (w : Int32) : Prop := (p_X9_isCell m c) ∧ (((f_X9_isCell m c) = 0 → ((p_X9_refuses m ((Int32.ofInt 0)) ((Int32.ofInt (-1000)))) ∧ True)) ∧ (¬ ((f_X9_isCell m c) = 0) → (((f_X9_in (Int32.toInt64 w) ((Int64.ofNat 0)) 3) = 0 → ((p_X9_refuses m ((Int32.ofInt 0)) ((Int32.ofInt (-1000)))) ∧ True)) ∧ (¬ ((f_X9_in (Int32.toInt64 w) ((Int64.ofNat 0)) 3) = 0) → ((p_X9_lays m) ∧ ((w = 0 → (vp_in c 36 ∧ True)) ∧ (¬ (w = 0) → ((w = (Int32.ofInt 1) → (vp_in c 36 ∧ True)) ∧ (¬ (w = (Int32.ofInt 1)) → ((w = (Int32.ofInt 2) → (vp_in c 36 ∧ True)) ∧ (¬ (w = (Int32.ofInt 2)) → (vp_in c 36 ∧ True))))))))))))
set_option maxHeartbeats 16000000 in
set_option maxRecDepth 20000 in
theorem s_X9_cell (m : Rec) (c : Int32) (w : Int32) (hp : p_X9_cell m c w) : Spec 4 0 0 mX9_cell [.ref 0, .int c, .int w] (wM m) (Ret (some (.int ((f_X9_cell m c w).1))) (wM ((f_X9_cell m c w).2))) := by
  obtain ⟨zq, hq⟩ : ∃ z, z = (f_X9_cell m c w) := ⟨_, rfl⟩
  rw [← hq]
  unfold f_X9_cell at hq
  unfold p_X9_cell at hp
  refine Sof fun sc => ?_
  refine g_blk hz0 kX9_cell_0 ?_
  refine cVp [0, 1, 2, 3, 4, 5, 6, 7, 8, 9, 10, 11, 12, 13, 14, 15, 16] (wM m) (s_X9_isCell m c hp.1) rfl cwX9_isCell dX9_cell_2 rfl rfl (hm0_M_M _) ?_
  replace hp := hp.2
  refine g_blk hz0 kX9_cell_5 ?_
  refine ⟨fun c1 => ?_, fun c1 => ?_⟩
  · rw [if_pos (show (f_X9_isCell m c) = 0 from c1)] at hq
    replace hp := hp.1 c1
    refine g_blk hz0 kX9_cell_20 ?_
    refine cV [0, 1, 2, 3, 4, 5, 6, 7, 8, 9, 10, 11, 12, 13, 14, 15, 16] (wM m) (s_X9_refuses m ((Int32.ofInt 0)) ((Int32.ofInt (-1000))) hp.1) rfl cwX9_refuses dX9_cell_25 rfl rfl (hm0_M_M _) ((len_M _).trans (len_M _).symm) (wM ((f_X9_refuses m ((Int32.ofInt 0)) ((Int32.ofInt (-1000)))).2)) (pw0_M_M _ _) ?_
    replace hp := hp.2
    obtain ⟨g2, hg2⟩ : ∃ z, z = (f_X9_refuses m ((Int32.ofInt 0)) ((Int32.ofInt (-1000)))) := ⟨_, rfl⟩
    try rw [← hg2] at hp
    try rw [← hg2] at hq
    rw [← hg2]
    refine g_blk hz0 kX9_cell_28 ?_
    subst hq
    exact ⟨fun h => (by cases h), rfl, rfl⟩
  · rw [if_neg (show ¬ ((f_X9_isCell m c) = 0) from c1)] at hq
    replace hp := hp.2 c1
    refine g_blk hz0 kX9_cell_8 ?_
    refine cS0 (s_X9_in (Int32.toInt64 w) ((Int64.ofNat 0)) 3) rfl cwX9_in dX9_cell_14 rfl ?_
    refine g_blk hz0 kX9_cell_17 ?_
    refine ⟨fun c3 => ?_, fun c3 => ?_⟩
    · rw [if_neg (show ¬ ((f_X9_in (Int32.toInt64 w) ((Int64.ofNat 0)) 3) = 0) from c3)] at hq
      replace hp := hp.2 c3
      refine g_blk hz0 kX9_cell_29 ?_
      refine cV [0, 1, 2, 3, 4, 5, 6, 7, 8, 9, 10, 11, 12, 13, 14, 15, 16] (wM m) (s_X9_lays m hp.1) rfl cwX9_lays dX9_cell_30 rfl rfl (hm0_M_M _) ((len_M _).trans (len_M _).symm) (wM (f_X9_lays m)) (pw0_M_M _ _) ?_
      replace hp := hp.2
      obtain ⟨g5, hg5⟩ : ∃ z, z = (f_X9_lays m) := ⟨_, rfl⟩
      try rw [← hg5] at hp
      try rw [← hg5] at hq
      rw [← hg5]
      refine g_blk hz0 kX9_cell_33 ?_
      refine ⟨fun c6 => ?_, fun c6 => ?_⟩
      · rw [if_neg (show ¬ (w = 0) from c6)] at hq
        replace hp := hp.2 c6
        refine g_blk hz0 kX9_cell_46 ?_
        refine ⟨fun c7 => ?_, fun c7 => ?_⟩
        · rw [if_neg (show ¬ (w = (Int32.ofInt 1)) from c7)] at hq
          replace hp := hp.2 c7
          refine g_blk hz0 kX9_cell_60 ?_
          refine ⟨fun c8 => ?_, fun c8 => ?_⟩
          · rw [if_neg (show ¬ (w = (Int32.ofInt 2)) from c8)] at hq
            replace hp := hp.2 c8
            refine g_blk hz0 kX9_cell_74 ?_
            refine ⟨hp.1, ?_⟩
            replace hp := hp.2
            refine ⟨fun c9 => ?_, fun c9 => ?_⟩
            · rw [if_pos (show ((g5.2 7) (Int32.toNatClampNeg c)) = 0 from c9)] at hq
              refine g_blk hz0 kX9_cell_87 ?_
              refine g_blk hz0 kX9_cell_88 ?_
              subst hq
              exact ⟨fun h => (by cases h), rfl, rfl⟩
            · rw [if_neg (show ¬ (((g5.2 7) (Int32.toNatClampNeg c)) = 0) from c9)] at hq
              refine g_blk hz0 kX9_cell_83 ?_
              refine g_blk hz0 kX9_cell_88 ?_
              subst hq
              exact ⟨fun h => (by cases h), rfl, rfl⟩
          · rw [if_pos (show w = (Int32.ofInt 2) from c8)] at hq
            replace hp := hp.1 c8
            refine g_blk hz0 kX9_cell_65 ?_
            refine ⟨hp.1, ?_⟩
            replace hp := hp.2
            refine g_blk hz0 kX9_cell_88 ?_
            subst hq
            exact ⟨fun h => (by cases h), rfl, rfl⟩
        · rw [if_pos (show w = (Int32.ofInt 1) from c7)] at hq
          replace hp := hp.1 c7
          refine g_blk hz0 kX9_cell_51 ?_
          refine ⟨hp.1, ?_⟩
          replace hp := hp.2
          refine g_blk hz0 kX9_cell_88 ?_
          subst hq
          exact ⟨fun h => (by cases h), rfl, rfl⟩
      · rw [if_pos (show w = 0 from c6)] at hq
        replace hp := hp.1 c6
        refine g_blk hz0 kX9_cell_37 ?_
        refine ⟨hp.1, ?_⟩
        replace hp := hp.2
        refine g_blk hz0 kX9_cell_88 ?_
        subst hq
        exact ⟨fun h => (by cases h), rfl, rfl⟩
    · rw [if_pos (show (f_X9_in (Int32.toInt64 w) ((Int64.ofNat 0)) 3) = 0 from c3)] at hq
      replace hp := hp.1 c3
      refine g_blk hz0 kX9_cell_20 ?_
      refine cV [0, 1, 2, 3, 4, 5, 6, 7, 8, 9, 10, 11, 12, 13, 14, 15, 16] (wM m) (s_X9_refuses m ((Int32.ofInt 0)) ((Int32.ofInt (-1000))) hp.1) rfl cwX9_refuses dX9_cell_25 rfl rfl (hm0_M_M _) ((len_M _).trans (len_M _).symm) (wM ((f_X9_refuses m ((Int32.ofInt 0)) ((Int32.ofInt (-1000)))).2)) (pw0_M_M _ _) ?_
      replace hp := hp.2
      obtain ⟨g4, hg4⟩ : ∃ z, z = (f_X9_refuses m ((Int32.ofInt 0)) ((Int32.ofInt (-1000)))) := ⟨_, rfl⟩
      try rw [← hg4] at hp
      try rw [← hg4] at hq
      rw [← hg4]
      refine g_blk hz0 kX9_cell_28 ?_
      subst hq
      exact ⟨fun h => (by cases h), rfl, rfl⟩
