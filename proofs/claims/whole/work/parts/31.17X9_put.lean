def f_X9_put (m : Rec) (w : Int32) (v : Int32) : Int32 × Rec := if (f_X9_in (Int32.toInt64 w) ((Int64.ofNat 0)) ((Int64.ofNat 1))) = 0 then (((f_X9_bad m).1), ((f_X9_bad m).2)) else (if w = 0 then (if (f_X9_in (Int32.toInt64 v) ((Int64.ofNat 1)) 9) = 0 then (((f_X9_bad m).1), ((f_X9_bad m).2)) else (((m.2 0) (Int32.toNatClampNeg ((Int32.ofInt 4) + w))), (setA m 0 (upd (upd (m.2 0) (Int32.toNatClampNeg ((Int32.ofInt 4) + w)) v) (Int32.toNatClampNeg (Int32.ofInt 6)) (Int32.ofInt 0))))) else (if (f_X9_in (Int32.toInt64 v) ((Int64.ofNat 1)) 3) = 0 then (((f_X9_bad m).1), ((f_X9_bad m).2)) else (((m.2 0) (Int32.toNatClampNeg ((Int32.ofInt 4) + w))), (setA m 0 (upd (upd (m.2 0) (Int32.toNatClampNeg ((Int32.ofInt 4) + w)) v) (Int32.toNatClampNeg (Int32.ofInt 6)) (Int32.ofInt 0))))))
def p_X9_put (m : Rec) (w : Int32) (v : Int32) : Prop := ((f_X9_in (Int32.toInt64 w) ((Int64.ofNat 0)) ((Int64.ofNat 1))) = 0 → ((p_X9_bad m) ∧ True)) ∧ (¬ ((f_X9_in (Int32.toInt64 w) ((Int64.ofNat 0)) ((Int64.ofNat 1))) = 0) → ((w = 0 → (((f_X9_in (Int32.toInt64 v) ((Int64.ofNat 1)) 9) = 0 → ((p_X9_bad m) ∧ True)) ∧ (¬ ((f_X9_in (Int32.toInt64 v) ((Int64.ofNat 1)) 9) = 0) → (vp_in ((Int32.ofInt 4) + w) 248 ∧ (vp_in ((Int32.ofInt 4) + w) 248 ∧ True))))) ∧ (¬ (w = 0) → (((f_X9_in (Int32.toInt64 v) ((Int64.ofNat 1)) 3) = 0 → ((p_X9_bad m) ∧ True)) ∧ (¬ ((f_X9_in (Int32.toInt64 v) ((Int64.ofNat 1)) 3) = 0) → (vp_in ((Int32.ofInt 4) + w) 248 ∧ (vp_in ((Int32.ofInt 4) + w) 248 ∧ True)))))))
set_option maxHeartbeats 16000000 in
set_option maxRecDepth 20000 in
theorem s_X9_put (m : Rec) (w : Int32) (v : Int32) (hp : p_X9_put m w v) : Spec 2 0 0 mX9_put [.ref 0, .int w, .int v] (wM m) (Ret (some (.int ((f_X9_put m w v).1))) (wM ((f_X9_put m w v).2))) := by
  obtain ⟨zq, hq⟩ : ∃ z, z = (f_X9_put m w v) := ⟨_, rfl⟩
  rw [← hq]
  unfold f_X9_put at hq
  unfold p_X9_put at hp
  refine Sof fun sc => ?_
  refine g_blk hz0 kX9_put_0 ?_
  refine cS0 (s_X9_in (Int32.toInt64 w) ((Int64.ofNat 0)) ((Int64.ofNat 1))) rfl cwX9_in dX9_put_4 rfl ?_
  refine g_blk hz0 kX9_put_7 ?_
  refine ⟨fun c1 => ?_, fun c1 => ?_⟩
  · rw [if_pos (show (f_X9_in (Int32.toInt64 w) ((Int64.ofNat 0)) ((Int64.ofNat 1))) = 0 from c1)] at hq
    replace hp := hp.1 c1
    refine g_blk hz0 kX9_put_32 ?_
    refine cV [0, 1, 2, 3, 4, 5, 6, 7, 8, 9, 10, 11, 12, 13, 14, 15, 16] (wM m) (s_X9_bad m hp.1) rfl cwX9_bad dX9_put_33 rfl rfl (hm0_M_M _) ((len_M _).trans (len_M _).symm) (wM ((f_X9_bad m).2)) (pw0_M_M _ _) ?_
    replace hp := hp.2
    obtain ⟨g2, hg2⟩ : ∃ z, z = (f_X9_bad m) := ⟨_, rfl⟩
    try rw [← hg2] at hp
    try rw [← hg2] at hq
    rw [← hg2]
    refine g_blk hz0 kX9_put_36 ?_
    subst hq
    exact ⟨fun h => (by cases h), rfl, rfl⟩
  · rw [if_neg (show ¬ ((f_X9_in (Int32.toInt64 w) ((Int64.ofNat 0)) ((Int64.ofNat 1))) = 0) from c1)] at hq
    replace hp := hp.2 c1
    refine g_blk hz0 kX9_put_10 ?_
    refine ⟨fun c3 => ?_, fun c3 => ?_⟩
    · rw [if_neg (show ¬ (w = 0) from c3)] at hq
      replace hp := hp.2 c3
      refine g_blk hz0 kX9_put_23 ?_
      refine cS0 (s_X9_in (Int32.toInt64 v) ((Int64.ofNat 1)) 3) rfl cwX9_in dX9_put_26 rfl ?_
      refine g_blk hz0 kX9_put_29 ?_
      refine ⟨fun c6 => ?_, fun c6 => ?_⟩
      · rw [if_neg (show ¬ ((f_X9_in (Int32.toInt64 v) ((Int64.ofNat 1)) 3) = 0) from c6)] at hq
        replace hp := hp.2 c6
        refine g_blk hz0 kX9_put_37 ?_
        refine ⟨hp.1, ?_⟩
        replace hp := hp.2
        refine ⟨hp.1, ?_⟩
        replace hp := hp.2
        refine ⟨vinL (by decide), ?_⟩
        subst hq
        exact ⟨fun h => (by cases h), rfl, rfl⟩
      · rw [if_pos (show (f_X9_in (Int32.toInt64 v) ((Int64.ofNat 1)) 3) = 0 from c6)] at hq
        replace hp := hp.1 c6
        refine g_blk hz0 kX9_put_32 ?_
        refine cV [0, 1, 2, 3, 4, 5, 6, 7, 8, 9, 10, 11, 12, 13, 14, 15, 16] (wM m) (s_X9_bad m hp.1) rfl cwX9_bad dX9_put_33 rfl rfl (hm0_M_M _) ((len_M _).trans (len_M _).symm) (wM ((f_X9_bad m).2)) (pw0_M_M _ _) ?_
        replace hp := hp.2
        obtain ⟨g7, hg7⟩ : ∃ z, z = (f_X9_bad m) := ⟨_, rfl⟩
        try rw [← hg7] at hp
        try rw [← hg7] at hq
        rw [← hg7]
        refine g_blk hz0 kX9_put_36 ?_
        subst hq
        exact ⟨fun h => (by cases h), rfl, rfl⟩
    · rw [if_pos (show w = 0 from c3)] at hq
      replace hp := hp.1 c3
      refine g_blk hz0 kX9_put_17 ?_
      refine cS0 (s_X9_in (Int32.toInt64 v) ((Int64.ofNat 1)) 9) rfl cwX9_in dX9_put_26 rfl ?_
      refine g_blk hz0 kX9_put_29 ?_
      refine ⟨fun c4 => ?_, fun c4 => ?_⟩
      · rw [if_neg (show ¬ ((f_X9_in (Int32.toInt64 v) ((Int64.ofNat 1)) 9) = 0) from c4)] at hq
        replace hp := hp.2 c4
        refine g_blk hz0 kX9_put_37 ?_
        refine ⟨hp.1, ?_⟩
        replace hp := hp.2
        refine ⟨hp.1, ?_⟩
        replace hp := hp.2
        refine ⟨vinL (by decide), ?_⟩
        subst hq
        exact ⟨fun h => (by cases h), rfl, rfl⟩
      · rw [if_pos (show (f_X9_in (Int32.toInt64 v) ((Int64.ofNat 1)) 9) = 0 from c4)] at hq
        replace hp := hp.1 c4
        refine g_blk hz0 kX9_put_32 ?_
        refine cV [0, 1, 2, 3, 4, 5, 6, 7, 8, 9, 10, 11, 12, 13, 14, 15, 16] (wM m) (s_X9_bad m hp.1) rfl cwX9_bad dX9_put_33 rfl rfl (hm0_M_M _) ((len_M _).trans (len_M _).symm) (wM ((f_X9_bad m).2)) (pw0_M_M _ _) ?_
        replace hp := hp.2
        obtain ⟨g5, hg5⟩ : ∃ z, z = (f_X9_bad m) := ⟨_, rfl⟩
        try rw [← hg5] at hp
        try rw [← hg5] at hq
        rw [← hg5]
        refine g_blk hz0 kX9_put_36 ?_
        subst hq
        exact ⟨fun h => (by cases h), rfl, rfl⟩
