def f_X9_man (m : Rec) (k : Int32) (o : Int32) (h : Int32) (c : Int32) : Int32 × Rec := if (f_X9_in (Int32.toInt64 k) ((Int64.ofNat 0)) 4) = 0 then (((f_X9_bad m).1), ((f_X9_bad m).2)) else (if (f_X9_in (Int32.toInt64 o) ((Int64.ofNat 0)) ((Int64.ofNat 1))) = 0 then (((f_X9_bad m).1), ((f_X9_bad m).2)) else (if (f_X9_in (Int32.toInt64 h) ((Int64.ofNat 1)) 9) = 0 then (((f_X9_bad m).1), ((f_X9_bad m).2)) else (if (f_X9_isCell m c) = 0 then (((f_X9_bad m).1), ((f_X9_bad m).2)) else (if (f_X9_isManOn m c) = 0 then (if ((m.2 0) (Int32.toNatClampNeg (Int32.ofInt 2))) = (Int32.ofInt 8) then (((f_X9_full m).1), ((f_X9_full m).2)) else (((m.2 0) (Int32.toNatClampNeg (Int32.ofInt 2))), (setA m 0 (upd (upd (upd (upd (upd (upd (m.2 0) (Int32.toNatClampNeg ((Int32.ofInt 28) + ((Int32.ofInt 3) * ((m.2 0) (Int32.toNatClampNeg (Int32.ofInt 2)))))) k) (Int32.toNatClampNeg (((Int32.ofInt 28) + ((Int32.ofInt 3) * ((m.2 0) (Int32.toNatClampNeg (Int32.ofInt 2))))) + (Int32.ofInt 1))) o) (Int32.toNatClampNeg (((Int32.ofInt 28) + ((Int32.ofInt 3) * ((m.2 0) (Int32.toNatClampNeg (Int32.ofInt 2))))) + (Int32.ofInt 2))) h) (Int32.toNatClampNeg ((Int32.ofInt 8) + ((m.2 0) (Int32.toNatClampNeg (Int32.ofInt 2))))) c) (Int32.toNatClampNeg (Int32.ofInt 2)) (((upd (upd (upd (upd (m.2 0) (Int32.toNatClampNeg ((Int32.ofInt 28) + ((Int32.ofInt 3) * ((m.2 0) (Int32.toNatClampNeg (Int32.ofInt 2)))))) k) (Int32.toNatClampNeg (((Int32.ofInt 28) + ((Int32.ofInt 3) * ((m.2 0) (Int32.toNatClampNeg (Int32.ofInt 2))))) + (Int32.ofInt 1))) o) (Int32.toNatClampNeg (((Int32.ofInt 28) + ((Int32.ofInt 3) * ((m.2 0) (Int32.toNatClampNeg (Int32.ofInt 2))))) + (Int32.ofInt 2))) h) (Int32.toNatClampNeg ((Int32.ofInt 8) + ((m.2 0) (Int32.toNatClampNeg (Int32.ofInt 2))))) c) (Int32.toNatClampNeg (Int32.ofInt 2))) + (Int32.ofInt 1))) (Int32.toNatClampNeg (Int32.ofInt 6)) (Int32.ofInt 0))))) else (((f_X9_bad m).1), ((f_X9_bad m).2))))))
def p_X9_man (m : Rec) (k : Int32) (o : Int32) (h : Int32) (c : Int32) : Prop := ((f_X9_in (Int32.toInt64 k) ((Int64.ofNat 0)) 4) = 0 → ((p_X9_bad m) ∧ True)) ∧ (¬ ((f_X9_in (Int32.toInt64 k) ((Int64.ofNat 0)) 4) = 0) → (((f_X9_in (Int32.toInt64 o) ((Int64.ofNat 0)) ((Int64.ofNat 1))) = 0 → ((p_X9_bad m) ∧ True)) ∧ (¬ ((f_X9_in (Int32.toInt64 o) ((Int64.ofNat 0)) ((Int64.ofNat 1))) = 0) → (((f_X9_in (Int32.toInt64 h) ((Int64.ofNat 1)) 9) = 0 → ((p_X9_bad m) ∧ True)) ∧ (¬ ((f_X9_in (Int32.toInt64 h) ((Int64.ofNat 1)) 9) = 0) → ((p_X9_isCell m c) ∧ (((f_X9_isCell m c) = 0 → ((p_X9_bad m) ∧ True)) ∧ (¬ ((f_X9_isCell m c) = 0) → ((p_X9_isManOn m c) ∧ (((f_X9_isManOn m c) = 0 → ((((m.2 0) (Int32.toNatClampNeg (Int32.ofInt 2))) = (Int32.ofInt 8) → ((p_X9_full m) ∧ True)) ∧ (¬ (((m.2 0) (Int32.toNatClampNeg (Int32.ofInt 2))) = (Int32.ofInt 8)) → (vp_in ((Int32.ofInt 28) + ((Int32.ofInt 3) * ((m.2 0) (Int32.toNatClampNeg (Int32.ofInt 2))))) 248 ∧ (vp_in (((Int32.ofInt 28) + ((Int32.ofInt 3) * ((m.2 0) (Int32.toNatClampNeg (Int32.ofInt 2))))) + (Int32.ofInt 1)) 248 ∧ (vp_in (((Int32.ofInt 28) + ((Int32.ofInt 3) * ((m.2 0) (Int32.toNatClampNeg (Int32.ofInt 2))))) + (Int32.ofInt 2)) 248 ∧ (vp_in ((Int32.ofInt 8) + ((m.2 0) (Int32.toNatClampNeg (Int32.ofInt 2)))) 248 ∧ True))))))) ∧ (¬ ((f_X9_isManOn m c) = 0) → ((p_X9_bad m) ∧ True))))))))))))
set_option maxHeartbeats 16000000 in
set_option maxRecDepth 20000 in
theorem s_X9_man (m : Rec) (k : Int32) (o : Int32) (h : Int32) (c : Int32) (hp : p_X9_man m k o h c) : Spec 2 0 0 mX9_man [.ref 0, .int k, .int o, .int h, .int c] (wM m) (Ret (some (.int ((f_X9_man m k o h c).1))) (wM ((f_X9_man m k o h c).2))) := by
  obtain ⟨zq, hq⟩ : ∃ z, z = (f_X9_man m k o h c) := ⟨_, rfl⟩
  rw [← hq]
  unfold f_X9_man at hq
  unfold p_X9_man at hp
  refine Sof fun sc => ?_
  refine g_blk hz0 kX9_man_0 ?_
  refine cS0 (s_X9_in (Int32.toInt64 k) ((Int64.ofNat 0)) 4) rfl cwX9_in dX9_man_6 rfl ?_
  refine g_blk hz0 kX9_man_9 ?_
  refine ⟨fun c1 => ?_, fun c1 => ?_⟩
  · rw [if_pos (show (f_X9_in (Int32.toInt64 k) ((Int64.ofNat 0)) 4) = 0 from c1)] at hq
    replace hp := hp.1 c1
    refine g_blk hz0 kX9_man_52 ?_
    refine cV [0, 1, 2, 3, 4, 5, 6, 7, 8, 9, 10, 11, 12, 13, 14, 15, 16] (wM m) (s_X9_bad m hp.1) rfl cwX9_bad dX9_man_53 rfl rfl (hm0_M_M _) ((len_M _).trans (len_M _).symm) (wM ((f_X9_bad m).2)) (pw0_M_M _ _) ?_
    replace hp := hp.2
    obtain ⟨g2, hg2⟩ : ∃ z, z = (f_X9_bad m) := ⟨_, rfl⟩
    try rw [← hg2] at hp
    try rw [← hg2] at hq
    rw [← hg2]
    refine g_blk hz0 kX9_man_56 ?_
    subst hq
    exact ⟨fun h => (by cases h), rfl, rfl⟩
  · rw [if_neg (show ¬ ((f_X9_in (Int32.toInt64 k) ((Int64.ofNat 0)) 4) = 0) from c1)] at hq
    replace hp := hp.2 c1
    refine g_blk hz0 kX9_man_12 ?_
    refine cS0 (s_X9_in (Int32.toInt64 o) ((Int64.ofNat 0)) ((Int64.ofNat 1))) rfl cwX9_in dX9_man_16 rfl ?_
    refine g_blk hz0 kX9_man_19 ?_
    refine ⟨fun c3 => ?_, fun c3 => ?_⟩
    · rw [if_pos (show (f_X9_in (Int32.toInt64 o) ((Int64.ofNat 0)) ((Int64.ofNat 1))) = 0 from c3)] at hq
      replace hp := hp.1 c3
      refine g_blk hz0 kX9_man_52 ?_
      refine cV [0, 1, 2, 3, 4, 5, 6, 7, 8, 9, 10, 11, 12, 13, 14, 15, 16] (wM m) (s_X9_bad m hp.1) rfl cwX9_bad dX9_man_53 rfl rfl (hm0_M_M _) ((len_M _).trans (len_M _).symm) (wM ((f_X9_bad m).2)) (pw0_M_M _ _) ?_
      replace hp := hp.2
      obtain ⟨g4, hg4⟩ : ∃ z, z = (f_X9_bad m) := ⟨_, rfl⟩
      try rw [← hg4] at hp
      try rw [← hg4] at hq
      rw [← hg4]
      refine g_blk hz0 kX9_man_56 ?_
      subst hq
      exact ⟨fun h => (by cases h), rfl, rfl⟩
    · rw [if_neg (show ¬ ((f_X9_in (Int32.toInt64 o) ((Int64.ofNat 0)) ((Int64.ofNat 1))) = 0) from c3)] at hq
      replace hp := hp.2 c3
      refine g_blk hz0 kX9_man_22 ?_
      refine cS0 (s_X9_in (Int32.toInt64 h) ((Int64.ofNat 1)) 9) rfl cwX9_in dX9_man_28 rfl ?_
      refine g_blk hz0 kX9_man_31 ?_
      refine ⟨fun c5 => ?_, fun c5 => ?_⟩
      · rw [if_pos (show (f_X9_in (Int32.toInt64 h) ((Int64.ofNat 1)) 9) = 0 from c5)] at hq
        replace hp := hp.1 c5
        refine g_blk hz0 kX9_man_52 ?_
        refine cV [0, 1, 2, 3, 4, 5, 6, 7, 8, 9, 10, 11, 12, 13, 14, 15, 16] (wM m) (s_X9_bad m hp.1) rfl cwX9_bad dX9_man_53 rfl rfl (hm0_M_M _) ((len_M _).trans (len_M _).symm) (wM ((f_X9_bad m).2)) (pw0_M_M _ _) ?_
        replace hp := hp.2
        obtain ⟨g6, hg6⟩ : ∃ z, z = (f_X9_bad m) := ⟨_, rfl⟩
        try rw [← hg6] at hp
        try rw [← hg6] at hq
        rw [← hg6]
        refine g_blk hz0 kX9_man_56 ?_
        subst hq
        exact ⟨fun h => (by cases h), rfl, rfl⟩
      · rw [if_neg (show ¬ ((f_X9_in (Int32.toInt64 h) ((Int64.ofNat 1)) 9) = 0) from c5)] at hq
        replace hp := hp.2 c5
        refine g_blk hz0 kX9_man_34 ?_
        refine cVp [0, 1, 2, 3, 4, 5, 6, 7, 8, 9, 10, 11, 12, 13, 14, 15, 16] (wM m) (s_X9_isCell m c hp.1) rfl cwX9_isCell dX9_man_37 rfl rfl (hm0_M_M _) ?_
        replace hp := hp.2
        refine g_blk hz0 kX9_man_40 ?_
        refine ⟨fun c7 => ?_, fun c7 => ?_⟩
        · rw [if_pos (show (f_X9_isCell m c) = 0 from c7)] at hq
          replace hp := hp.1 c7
          refine g_blk hz0 kX9_man_52 ?_
          refine cV [0, 1, 2, 3, 4, 5, 6, 7, 8, 9, 10, 11, 12, 13, 14, 15, 16] (wM m) (s_X9_bad m hp.1) rfl cwX9_bad dX9_man_53 rfl rfl (hm0_M_M _) ((len_M _).trans (len_M _).symm) (wM ((f_X9_bad m).2)) (pw0_M_M _ _) ?_
          replace hp := hp.2
          obtain ⟨g8, hg8⟩ : ∃ z, z = (f_X9_bad m) := ⟨_, rfl⟩
          try rw [← hg8] at hp
          try rw [← hg8] at hq
          rw [← hg8]
          refine g_blk hz0 kX9_man_56 ?_
          subst hq
          exact ⟨fun h => (by cases h), rfl, rfl⟩
        · rw [if_neg (show ¬ ((f_X9_isCell m c) = 0) from c7)] at hq
          replace hp := hp.2 c7
          refine g_blk hz0 kX9_man_43 ?_
          refine cVp [0, 1, 2, 3, 4, 5, 6, 7, 8, 9, 10, 11, 12, 13, 14, 15, 16] (wM m) (s_X9_isManOn m c hp.1) rfl cwX9_isManOn dX9_man_46 rfl rfl (hm0_M_M _) ?_
          replace hp := hp.2
          refine g_blk hz0 kX9_man_49 ?_
          refine ⟨fun c9 => ?_, fun c9 => ?_⟩
          · rw [if_pos (show (f_X9_isManOn m c) = 0 from c9)] at hq
            replace hp := hp.1 c9
            refine g_blk hz0 kX9_man_57 ?_
            refine ⟨vinL (by decide), ?_⟩
            refine ⟨fun c10 => ?_, fun c10 => ?_⟩
            · rw [if_neg (show ¬ (((m.2 0) (Int32.toNatClampNeg (Int32.ofInt 2))) = (Int32.ofInt 8)) from c10)] at hq
              replace hp := hp.2 c10
              refine g_blk hz0 kX9_man_73 ?_
              refine ⟨vinL (by decide), ?_⟩
              refine ⟨hp.1, ?_⟩
              replace hp := hp.2
              refine ⟨hp.1, ?_⟩
              replace hp := hp.2
              refine ⟨hp.1, ?_⟩
              replace hp := hp.2
              refine ⟨hp.1, ?_⟩
              replace hp := hp.2
              refine ⟨vinL (by decide), ?_⟩
              refine ⟨vinL (by decide), ?_⟩
              refine ⟨vinL (by decide), ?_⟩
              subst hq
              exact ⟨fun h => (by cases h), rfl, rfl⟩
            · rw [if_pos (show ((m.2 0) (Int32.toNatClampNeg (Int32.ofInt 2))) = (Int32.ofInt 8) from c10)] at hq
              replace hp := hp.1 c10
              refine g_blk hz0 kX9_man_68 ?_
              refine cV [0, 1, 2, 3, 4, 5, 6, 7, 8, 9, 10, 11, 12, 13, 14, 15, 16] (wM m) (s_X9_full m hp.1) rfl cwX9_full dX9_man_69 rfl rfl (hm0_M_M _) ((len_M _).trans (len_M _).symm) (wM ((f_X9_full m).2)) (pw0_M_M _ _) ?_
              replace hp := hp.2
              obtain ⟨g11, hg11⟩ : ∃ z, z = (f_X9_full m) := ⟨_, rfl⟩
              try rw [← hg11] at hp
              try rw [← hg11] at hq
              rw [← hg11]
              refine g_blk hz0 kX9_man_72 ?_
              subst hq
              exact ⟨fun h => (by cases h), rfl, rfl⟩
          · rw [if_neg (show ¬ ((f_X9_isManOn m c) = 0) from c9)] at hq
            replace hp := hp.2 c9
            refine g_blk hz0 kX9_man_52 ?_
            refine cV [0, 1, 2, 3, 4, 5, 6, 7, 8, 9, 10, 11, 12, 13, 14, 15, 16] (wM m) (s_X9_bad m hp.1) rfl cwX9_bad dX9_man_53 rfl rfl (hm0_M_M _) ((len_M _).trans (len_M _).symm) (wM ((f_X9_bad m).2)) (pw0_M_M _ _) ?_
            replace hp := hp.2
            obtain ⟨g12, hg12⟩ : ∃ z, z = (f_X9_bad m) := ⟨_, rfl⟩
            try rw [← hg12] at hp
            try rw [← hg12] at hq
            rw [← hg12]
            refine g_blk hz0 kX9_man_56 ?_
            subst hq
            exact ⟨fun h => (by cases h), rfl, rfl⟩
