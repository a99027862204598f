def f_X9_state (m : Rec) (w : Int32) : Int32 × Rec := if (f_X9_in (Int32.toInt64 w) ((Int64.ofNat 0)) 5) = 0 then (((f_X9_refuses m ((Int32.ofInt 0)) ((Int32.ofInt (-10)))).1), ((f_X9_refuses m ((Int32.ofInt 0)) ((Int32.ofInt (-10)))).2)) else (if w = 0 then ((((f_X9_lays m).2 0) (Int32.toNatClampNeg (Int32.ofInt 26))), (f_X9_lays m)) else (if w = (Int32.ofInt 1) then ((f_X9_turn (f_X9_lays m)), (f_X9_lays m)) else (if w = (Int32.ofInt 2) then ((((f_X9_lays m).2 0) (Int32.toNatClampNeg (Int32.ofInt 27))), (f_X9_lays m)) else (if w = (Int32.ofInt 3) then ((((f_X9_lays m).2 0) (Int32.toNatClampNeg (Int32.ofInt 16))), (f_X9_lays m)) else (if w = (Int32.ofInt 4) then ((f_X9_behind (f_X9_lays m)), (f_X9_lays m)) else ((f_X9_won (f_X9_lays m)), (f_X9_lays m)))))))
def p_X9_state (m : Rec) (w : Int32) : Prop := ((f_X9_in (Int32.toInt64 w) ((Int64.ofNat 0)) 5) = 0 → ((p_X9_refuses m ((Int32.ofInt 0)) ((Int32.ofInt (-10)))) ∧ True)) ∧ (¬ ((f_X9_in (Int32.toInt64 w) ((Int64.ofNat 0)) 5) = 0) → ((p_X9_lays m) ∧ ((w = 0 → True) ∧ (¬ (w = 0) → ((w = (Int32.ofInt 1) → True) ∧ (¬ (w = (Int32.ofInt 1)) → ((w = (Int32.ofInt 2) → True) ∧ (¬ (w = (Int32.ofInt 2)) → ((w = (Int32.ofInt 3) → True) ∧ (¬ (w = (Int32.ofInt 3)) → ((w = (Int32.ofInt 4) → ((p_X9_behind (f_X9_lays m)) ∧ True)) ∧ (¬ (w = (Int32.ofInt 4)) → ((p_X9_won (f_X9_lays m)) ∧ True)))))))))))))
set_option maxHeartbeats 16000000 in
set_option maxRecDepth 20000 in
theorem s_X9_state (m : Rec) (w : Int32) (hp : p_X9_state m w) : Spec 4 0 0 mX9_state [.ref 0, .int w] (wM m) (Ret (some (.int ((f_X9_state m w).1))) (wM ((f_X9_state m w).2))) := by
  obtain ⟨zq, hq⟩ : ∃ z, z = (f_X9_state m w) := ⟨_, rfl⟩
  rw [← hq]
  unfold f_X9_state at hq
  unfold p_X9_state at hp
  refine Sof fun sc => ?_
  refine g_blk hz0 kX9_state_0 ?_
  refine cS0 (s_X9_in (Int32.toInt64 w) ((Int64.ofNat 0)) 5) rfl cwX9_in dX9_state_6 rfl ?_
  refine g_blk hz0 kX9_state_9 ?_
  refine ⟨fun c1 => ?_, fun c1 => ?_⟩
  · rw [if_neg (show ¬ ((f_X9_in (Int32.toInt64 w) ((Int64.ofNat 0)) 5) = 0) from c1)] at hq
    replace hp := hp.2 c1
    refine g_blk hz0 kX9_state_20 ?_
    refine cV [0, 1, 2, 3, 4, 5, 6, 7, 8, 9, 10, 11, 12, 13, 14, 15, 16] (wM m) (s_X9_lays m hp.1) rfl cwX9_lays dX9_state_21 rfl rfl (hm0_M_M _) ((len_M _).trans (len_M _).symm) (wM (f_X9_lays m)) (pw0_M_M _ _) ?_
    replace hp := hp.2
    obtain ⟨g3, hg3⟩ : ∃ z, z = (f_X9_lays m) := ⟨_, rfl⟩
    try rw [← hg3] at hp
    try rw [← hg3] at hq
    rw [← hg3]
    refine g_blk hz0 kX9_state_24 ?_
    refine ⟨fun c4 => ?_, fun c4 => ?_⟩
    · rw [if_neg (show ¬ (w = 0) from c4)] at hq
      replace hp := hp.2 c4
      refine g_blk hz0 kX9_state_38 ?_
      refine ⟨fun c5 => ?_, fun c5 => ?_⟩
      · rw [if_neg (show ¬ (w = (Int32.ofInt 1)) from c5)] at hq
        replace hp := hp.2 c5
        refine g_blk hz0 kX9_state_50 ?_
        refine ⟨fun c6 => ?_, fun c6 => ?_⟩
        · rw [if_neg (show ¬ (w = (Int32.ofInt 2)) from c6)] at hq
          replace hp := hp.2 c6
          refine g_blk hz0 kX9_state_65 ?_
          refine ⟨fun c7 => ?_, fun c7 => ?_⟩
          · rw [if_neg (show ¬ (w = (Int32.ofInt 3)) from c7)] at hq
            replace hp := hp.2 c7
            refine g_blk hz0 kX9_state_80 ?_
            refine ⟨fun c8 => ?_, fun c8 => ?_⟩
            · rw [if_neg (show ¬ (w = (Int32.ofInt 4)) from c8)] at hq
              replace hp := hp.2 c8
              refine g_blk hz0 kX9_state_92 ?_
              refine cVp [0, 1, 2, 3, 4, 5, 6, 7, 8, 9, 10, 11, 12, 13, 14, 15, 16] (wM g3) (s_X9_won g3 hp.1) rfl cwX9_won dX9_state_93 rfl rfl (hm0_M_M _) ?_
              replace hp := hp.2
              refine g_blk hz0 kX9_state_96 ?_
              subst hq
              exact ⟨fun h => (by cases h), rfl, rfl⟩
            · rw [if_pos (show w = (Int32.ofInt 4) from c8)] at hq
              replace hp := hp.1 c8
              refine g_blk hz0 kX9_state_85 ?_
              refine cVp [0, 1, 2, 3, 4, 5, 6, 7, 8, 9, 10, 11, 12, 13, 14, 15, 16] (wM g3) (s_X9_behind g3 hp.1) rfl cwX9_behind dX9_state_86 rfl rfl (hm0_M_M _) ?_
              replace hp := hp.2
              refine g_blk hz0 kX9_state_89 ?_
              refine g_blk hz0 kX9_state_96 ?_
              subst hq
              exact ⟨fun h => (by cases h), rfl, rfl⟩
          · rw [if_pos (show w = (Int32.ofInt 3) from c7)] at hq
            refine g_blk hz0 kX9_state_70 ?_
            refine ⟨vinL (by decide), ?_⟩
            refine g_blk hz0 kX9_state_96 ?_
            subst hq
            exact ⟨fun h => (by cases h), rfl, rfl⟩
        · rw [if_pos (show w = (Int32.ofInt 2) from c6)] at hq
          refine g_blk hz0 kX9_state_55 ?_
          refine ⟨vinL (by decide), ?_⟩
          refine g_blk hz0 kX9_state_96 ?_
          subst hq
          exact ⟨fun h => (by cases h), rfl, rfl⟩
      · rw [if_pos (show w = (Int32.ofInt 1) from c5)] at hq
        refine g_blk hz0 kX9_state_43 ?_
        refine cVp [0, 1, 2, 3, 4, 5, 6, 7, 8, 9, 10, 11, 12, 13, 14, 15, 16] (wM g3) (s_X9_turn g3) rfl cwX9_turn dX9_state_44 rfl rfl (hm0_M_M _) ?_
        refine g_blk hz0 kX9_state_47 ?_
        refine g_blk hz0 kX9_state_96 ?_
        subst hq
        exact ⟨fun h => (by cases h), rfl, rfl⟩
    · rw [if_pos (show w = 0 from c4)] at hq
      refine g_blk hz0 kX9_state_28 ?_
      refine ⟨vinL (by decide), ?_⟩
      refine g_blk hz0 kX9_state_96 ?_
      subst hq
      exact ⟨fun h => (by cases h), rfl, rfl⟩
  · rw [if_pos (show (f_X9_in (Int32.toInt64 w) ((Int64.ofNat 0)) 5) = 0 from c1)] at hq
    replace hp := hp.1 c1
    refine g_blk hz0 kX9_state_12 ?_
    refine cV [0, 1, 2, 3, 4, 5, 6, 7, 8, 9, 10, 11, 12, 13, 14, 15, 16] (wM m) (s_X9_refuses m ((Int32.ofInt 0)) ((Int32.ofInt (-10))) hp.1) rfl cwX9_refuses dX9_state_16 rfl rfl (hm0_M_M _) ((len_M _).trans (len_M _).symm) (wM ((f_X9_refuses m ((Int32.ofInt 0)) ((Int32.ofInt (-10)))).2)) (pw0_M_M _ _) ?_
    replace hp := hp.2
    obtain ⟨g2, hg2⟩ : ∃ z, z = (f_X9_refuses m ((Int32.ofInt 0)) ((Int32.ofInt (-10)))) := ⟨_, rfl⟩
    try rw [← hg2] at hp
    try rw [← hg2] at hq
    rw [← hg2]
    refine g_blk hz0 kX9_state_19 ?_
    subst hq
    exact ⟨fun h => (by cases h), rfl, rfl⟩
