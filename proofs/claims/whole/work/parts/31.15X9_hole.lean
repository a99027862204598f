def f_X9_hole (m : Rec) (c : Int32) : Int32 × Rec := if (f_X9_in (Int32.toInt64 c) ((Int64.ofNat 0)) 35) = 0 then (((f_X9_bad m).1), ((f_X9_bad m).2)) else (if ((m.2 0) (Int32.toNatClampNeg (Int32.ofInt 0))) ≤ (c - c / (Int32.ofInt 6) * (Int32.ofInt 6)) then (((f_X9_bad m).1), ((f_X9_bad m).2)) else (if (c / (Int32.ofInt 6)) < ((m.2 0) (Int32.toNatClampNeg (Int32.ofInt 1))) then (if ((m.2 0) (Int32.toNatClampNeg ((Int32.ofInt 52) + c))) = (Int32.ofInt 1) then (((f_X9_no m).1), ((f_X9_no m).2)) else (if (f_X9_isManOn m c) = 0 then (if 0 < ((m.2 0) (Int32.toNatClampNeg (Int32.ofInt 16))) then (((f_X9_no m).1), ((f_X9_no m).2)) else (if ((m.2 0) (Int32.toNatClampNeg (Int32.ofInt 27))) ≤ 0 then ((Int32.ofInt 1), (setA m 0 (upd (upd (m.2 0) (Int32.toNatClampNeg ((Int32.ofInt 52) + c)) (Int32.ofInt 1)) (Int32.toNatClampNeg (Int32.ofInt 6)) (Int32.ofInt 0)))) else (((f_X9_no m).1), ((f_X9_no m).2)))) else (((f_X9_no m).1), ((f_X9_no m).2)))) else (((f_X9_bad m).1), ((f_X9_bad m).2))))
def p_X9_hole (m : Rec) (c : Int32) : Prop := ((f_X9_in (Int32.toInt64 c) ((Int64.ofNat 0)) 35) = 0 → ((p_X9_bad m) ∧ True)) ∧ (¬ ((f_X9_in (Int32.toInt64 c) ((Int64.ofNat 0)) 35) = 0) → ((((m.2 0) (Int32.toNatClampNeg (Int32.ofInt 0))) ≤ (c - c / (Int32.ofInt 6) * (Int32.ofInt 6)) → ((p_X9_bad m) ∧ True)) ∧ (¬ (((m.2 0) (Int32.toNatClampNeg (Int32.ofInt 0))) ≤ (c - c / (Int32.ofInt 6) * (Int32.ofInt 6))) → (((c / (Int32.ofInt 6)) < ((m.2 0) (Int32.toNatClampNeg (Int32.ofInt 1))) → (vp_in ((Int32.ofInt 52) + c) 248 ∧ ((((m.2 0) (Int32.toNatClampNeg ((Int32.ofInt 52) + c))) = (Int32.ofInt 1) → ((p_X9_no m) ∧ True)) ∧ (¬ (((m.2 0) (Int32.toNatClampNeg ((Int32.ofInt 52) + c))) = (Int32.ofInt 1)) → ((p_X9_isManOn m c) ∧ (((f_X9_isManOn m c) = 0 → ((0 < ((m.2 0) (Int32.toNatClampNeg (Int32.ofInt 16))) → ((p_X9_no m) ∧ True)) ∧ (¬ (0 < ((m.2 0) (Int32.toNatClampNeg (Int32.ofInt 16)))) → ((((m.2 0) (Int32.toNatClampNeg (Int32.ofInt 27))) ≤ 0 → (vp_in ((Int32.ofInt 52) + c) 248 ∧ True)) ∧ (¬ (((m.2 0) (Int32.toNatClampNeg (Int32.ofInt 27))) ≤ 0) → ((p_X9_no m) ∧ True)))))) ∧ (¬ ((f_X9_isManOn m c) = 0) → ((p_X9_no m) ∧ True)))))))) ∧ (¬ ((c / (Int32.ofInt 6)) < ((m.2 0) (Int32.toNatClampNeg (Int32.ofInt 1)))) → ((p_X9_bad m) ∧ True))))))
set_option maxHeartbeats 16000000 in
set_option maxRecDepth 20000 in
theorem s_X9_hole (m : Rec) (c : Int32) (hp : p_X9_hole m c) : Spec 2 0 0 mX9_hole [.ref 0, .int c] (wM m) (Ret (some (.int ((f_X9_hole m c).1))) (wM ((f_X9_hole m c).2))) := by
  obtain ⟨zq, hq⟩ : ∃ z, z = (f_X9_hole m c) := ⟨_, rfl⟩
  rw [← hq]
  unfold f_X9_hole at hq
  unfold p_X9_hole at hp
  refine Sof fun sc => ?_
  refine g_blk hz0 kX9_hole_0 ?_
  refine cS0 (s_X9_in (Int32.toInt64 c) ((Int64.ofNat 0)) 35) rfl cwX9_in dX9_hole_6 rfl ?_
  refine g_blk hz0 kX9_hole_9 ?_
  refine ⟨fun c1 => ?_, fun c1 => ?_⟩
  · rw [if_pos (show (f_X9_in (Int32.toInt64 c) ((Int64.ofNat 0)) 35) = 0 from c1)] at hq
    replace hp := hp.1 c1
    refine g_blk hz0 kX9_hole_38 ?_
    refine cV [0, 1, 2, 3, 4, 5, 6, 7, 8, 9, 10, 11, 12, 13, 14, 15, 16] (wM m) (s_X9_bad m hp.1) rfl cwX9_bad dX9_hole_39 rfl rfl (hm0_M_M _) ((len_M _).trans (len_M _).symm) (wM ((f_X9_bad m).2)) (pw0_M_M _ _) ?_
    replace hp := hp.2
    obtain ⟨g2, hg2⟩ : ∃ z, z = (f_X9_bad m) := ⟨_, rfl⟩
    try rw [← hg2] at hp
    try rw [← hg2] at hq
    rw [← hg2]
    refine g_blk hz0 kX9_hole_42 ?_
    subst hq
    exact ⟨fun h => (by cases h), rfl, rfl⟩
  · rw [if_neg (show ¬ ((f_X9_in (Int32.toInt64 c) ((Int64.ofNat 0)) 35) = 0) from c1)] at hq
    replace hp := hp.2 c1
    refine g_blk hz0 kX9_hole_12 ?_
    refine ⟨by decide, ?_⟩
    refine ⟨vinL (by decide), ?_⟩
    refine ⟨fun c3 => ?_, fun c3 => ?_⟩
    · rw [if_pos (show ((m.2 0) (Int32.toNatClampNeg (Int32.ofInt 0))) ≤ (c - c / (Int32.ofInt 6) * (Int32.ofInt 6)) from c3)] at hq
      replace hp := hp.1 c3
      refine g_blk hz0 kX9_hole_38 ?_
      refine cV [0, 1, 2, 3, 4, 5, 6, 7, 8, 9, 10, 11, 12, 13, 14, 15, 16] (wM m) (s_X9_bad m hp.1) rfl cwX9_bad dX9_hole_39 rfl rfl (hm0_M_M _) ((len_M _).trans (len_M _).symm) (wM ((f_X9_bad m).2)) (pw0_M_M _ _) ?_
      replace hp := hp.2
      obtain ⟨g4, hg4⟩ : ∃ z, z = (f_X9_bad m) := ⟨_, rfl⟩
      try rw [← hg4] at hp
      try rw [← hg4] at hq
      rw [← hg4]
      refine g_blk hz0 kX9_hole_42 ?_
      subst hq
      exact ⟨fun h => (by cases h), rfl, rfl⟩
    · rw [if_neg (show ¬ (((m.2 0) (Int32.toNatClampNeg (Int32.ofInt 0))) ≤ (c - c / (Int32.ofInt 6) * (Int32.ofInt 6))) from c3)] at hq
      replace hp := hp.2 c3
      refine g_blk hz0 kX9_hole_25 ?_
      refine ⟨by decide, ?_⟩
      refine ⟨vinL (by decide), ?_⟩
      refine ⟨fun c5 => ?_, fun c5 => ?_⟩
      · rw [if_pos (show (c / (Int32.ofInt 6)) < ((m.2 0) (Int32.toNatClampNeg (Int32.ofInt 1))) from c5)] at hq
        replace hp := hp.1 c5
        refine g_blk hz0 kX9_hole_43 ?_
        refine ⟨hp.1, ?_⟩
        replace hp := hp.2
        refine ⟨fun c6 => ?_, fun c6 => ?_⟩
        · rw [if_pos (show ((m.2 0) (Int32.toNatClampNeg ((Int32.ofInt 52) + c))) = (Int32.ofInt 1) from c6)] at hq
          replace hp := hp.1 c6
          refine g_blk hz0 kX9_hole_84 ?_
          refine cV [0, 1, 2, 3, 4, 5, 6, 7, 8, 9, 10, 11, 12, 13, 14, 15, 16] (wM m) (s_X9_no m hp.1) rfl cwX9_no dX9_hole_85 rfl rfl (hm0_M_M _) ((len_M _).trans (len_M _).symm) (wM ((f_X9_no m).2)) (pw0_M_M _ _) ?_
          replace hp := hp.2
          obtain ⟨g7, hg7⟩ : ∃ z, z = (f_X9_no m) := ⟨_, rfl⟩
          try rw [← hg7] at hp
          try rw [← hg7] at hq
          rw [← hg7]
          refine g_blk hz0 kX9_hole_88 ?_
          subst hq
          exact ⟨fun h => (by cases h), rfl, rfl⟩
        · rw [if_neg (show ¬ (((m.2 0) (Int32.toNatClampNeg ((Int32.ofInt 52) + c))) = (Int32.ofInt 1)) from c6)] at hq
          replace hp := hp.2 c6
          refine g_blk hz0 kX9_hole_56 ?_
          refine cVp [0, 1, 2, 3, 4, 5, 6, 7, 8, 9, 10, 11, 12, 13, 14, 15, 16] (wM m) (s_X9_isManOn m c hp.1) rfl cwX9_isManOn dX9_hole_58 rfl rfl (hm0_M_M _) ?_
          replace hp := hp.2
          refine g_blk hz0 kX9_hole_61 ?_
          refine ⟨fun c8 => ?_, fun c8 => ?_⟩
          · rw [if_neg (show ¬ ((f_X9_isManOn m c) = 0) from c8)] at hq
            replace hp := hp.2 c8
            refine g_blk hz0 kX9_hole_84 ?_
            refine cV [0, 1, 2, 3, 4, 5, 6, 7, 8, 9, 10, 11, 12, 13, 14, 15, 16] (wM m) (s_X9_no m hp.1) rfl cwX9_no dX9_hole_85 rfl rfl (hm0_M_M _) ((len_M _).trans (len_M _).symm) (wM ((f_X9_no m).2)) (pw0_M_M _ _) ?_
            replace hp := hp.2
            obtain ⟨g13, hg13⟩ : ∃ z, z = (f_X9_no m) := ⟨_, rfl⟩
            try rw [← hg13] at hp
            try rw [← hg13] at hq
            rw [← hg13]
            refine g_blk hz0 kX9_hole_88 ?_
            subst hq
            exact ⟨fun h => (by cases h), rfl, rfl⟩
          · rw [if_pos (show (f_X9_isManOn m c) = 0 from c8)] at hq
            replace hp := hp.1 c8
            refine g_blk hz0 kX9_hole_64 ?_
            refine ⟨vinL (by decide), ?_⟩
            refine ⟨fun c9 => ?_, fun c9 => ?_⟩
            · rw [if_pos (show 0 < ((m.2 0) (Int32.toNatClampNeg (Int32.ofInt 16))) from c9)] at hq
              replace hp := hp.1 c9
              refine g_blk hz0 kX9_hole_84 ?_
              refine cV [0, 1, 2, 3, 4, 5, 6, 7, 8, 9, 10, 11, 12, 13, 14, 15, 16] (wM m) (s_X9_no m hp.1) rfl cwX9_no dX9_hole_85 rfl rfl (hm0_M_M _) ((len_M _).trans (len_M _).symm) (wM ((f_X9_no m).2)) (pw0_M_M _ _) ?_
              replace hp := hp.2
              obtain ⟨g10, hg10⟩ : ∃ z, z = (f_X9_no m) := ⟨_, rfl⟩
              try rw [← hg10] at hp
              try rw [← hg10] at hq
              rw [← hg10]
              refine g_blk hz0 kX9_hole_88 ?_
              subst hq
              exact ⟨fun h => (by cases h), rfl, rfl⟩
            · rw [if_neg (show ¬ (0 < ((m.2 0) (Int32.toNatClampNeg (Int32.ofInt 16)))) from c9)] at hq
              replace hp := hp.2 c9
              refine g_blk hz0 kX9_hole_74 ?_
              refine ⟨vinL (by decide), ?_⟩
              refine ⟨fun c11 => ?_, fun c11 => ?_⟩
              · rw [if_pos (show ((m.2 0) (Int32.toNatClampNeg (Int32.ofInt 27))) ≤ 0 from c11)] at hq
                replace hp := hp.1 c11
                refine g_blk hz0 kX9_hole_89 ?_
                refine ⟨hp.1, ?_⟩
                replace hp := hp.2
                refine ⟨vinL (by decide), ?_⟩
                subst hq
                exact ⟨fun h => (by cases h), rfl, rfl⟩
              · rw [if_neg (show ¬ (((m.2 0) (Int32.toNatClampNeg (Int32.ofInt 27))) ≤ 0) from c11)] at hq
                replace hp := hp.2 c11
                refine g_blk hz0 kX9_hole_84 ?_
                refine cV [0, 1, 2, 3, 4, 5, 6, 7, 8, 9, 10, 11, 12, 13, 14, 15, 16] (wM m) (s_X9_no m hp.1) rfl cwX9_no dX9_hole_85 rfl rfl (hm0_M_M _) ((len_M _).trans (len_M _).symm) (wM ((f_X9_no m).2)) (pw0_M_M _ _) ?_
                replace hp := hp.2
                obtain ⟨g12, hg12⟩ : ∃ z, z = (f_X9_no m) := ⟨_, rfl⟩
                try rw [← hg12] at hp
                try rw [← hg12] at hq
                rw [← hg12]
                refine g_blk hz0 kX9_hole_88 ?_
                subst hq
                exact ⟨fun h => (by cases h), rfl, rfl⟩
      · rw [if_neg (show ¬ ((c / (Int32.ofInt 6)) < ((m.2 0) (Int32.toNatClampNeg (Int32.ofInt 1)))) from c5)] at hq
        replace hp := hp.2 c5
        refine g_blk hz0 kX9_hole_38 ?_
        refine cV [0, 1, 2, 3, 4, 5, 6, 7, 8, 9, 10, 11, 12, 13, 14, 15, 16] (wM m) (s_X9_bad m hp.1) rfl cwX9_bad dX9_hole_39 rfl rfl (hm0_M_M _) ((len_M _).trans (len_M _).symm) (wM ((f_X9_bad m).2)) (pw0_M_M _ _) ?_
        replace hp := hp.2
        obtain ⟨g14, hg14⟩ : ∃ z, z = (f_X9_bad m) := ⟨_, rfl⟩
        try rw [← hg14] at hp
        try rw [← hg14] at hq
        rw [← hg14]
        refine g_blk hz0 kX9_hole_42 ?_
        subst hq
        exact ⟨fun h => (by cases h), rfl, rfl⟩
