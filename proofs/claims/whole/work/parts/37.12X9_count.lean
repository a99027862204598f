def f_X9_count (m : Rec) (w : Int32) : Int32 × Rec := if (f_X9_in (Int32.toInt64 w) ((Int64.ofNat 0)) 3) = 0 then (((f_X9_bad m).1), ((f_X9_bad m).2)) else ((f_X9_countOf m w), m)
def p_X9_count (m : Rec) (w : Int32) : Prop := ((f_X9_in (Int32.toInt64 w) ((Int64.ofNat 0)) 3) = 0 → ((p_X9_bad m) ∧ True)) ∧ (¬ ((f_X9_in (Int32.toInt64 w) ((Int64.ofNat 0)) 3) = 0) → ((p_X9_countOf m w) ∧ True))
set_option maxHeartbeats 16000000 in
set_option maxRecDepth 20000 in
theorem s_X9_count (m : Rec) (w : Int32) (hp : p_X9_count m w) : Spec 4 0 0 mX9_count [.ref 0, .int w] (wM m) (Ret (some (.int ((f_X9_count m w).1))) (wM ((f_X9_count m w).2))) := by
  obtain ⟨zq, hq⟩ : ∃ z, z = (f_X9_count m w) := ⟨_, rfl⟩
  rw [← hq]
  unfold f_X9_count at hq
  unfold p_X9_count at hp
  refine Sof fun sc => ?_
  refine g_blk hz0 kX9_count_0 ?_
  refine cS0 (s_X9_in (Int32.toInt64 w) ((Int64.ofNat 0)) 3) rfl cwX9_in dX9_count_6 rfl ?_
  refine g_blk hz0 kX9_count_9 ?_
  refine ⟨fun c1 => ?_, fun c1 => ?_⟩
  · rw [if_pos (show (f_X9_in (Int32.toInt64 w) ((Int64.ofNat 0)) 3) = 0 from c1)] at hq
    replace hp := hp.1 c1
    refine g_blk hz0 kX9_count_20 ?_
    refine cV [0, 1, 2, 3, 4, 5, 6, 7, 8, 9, 10, 11, 12, 13, 14, 15, 16] (wM m) (s_X9_bad m hp.1) rfl cwX9_bad dX9_count_21 rfl rfl (hm0_M_M _) ((len_M _).trans (len_M _).symm) (wM ((f_X9_bad m).2)) (pw0_M_M _ _) ?_
    replace hp := hp.2
    obtain ⟨g2, hg2⟩ : ∃ z, z = (f_X9_bad m) := ⟨_, rfl⟩
    try rw [← hg2] at hp
    try rw [← hg2] at hq
    rw [← hg2]
    refine g_blk hz0 kX9_count_24 ?_
    subst hq
    exact ⟨fun h => (by cases h), rfl, rfl⟩
  · rw [if_neg (show ¬ ((f_X9_in (Int32.toInt64 w) ((Int64.ofNat 0)) 3) = 0) from c1)] at hq
    replace hp := hp.2 c1
    refine g_blk hz0 kX9_count_12 ?_
    refine cVp [0, 1, 2, 3, 4, 5, 6, 7, 8, 9, 10, 11, 12, 13, 14, 15, 16] (wM m) (s_X9_countOf m w hp.1) rfl cwX9_countOf dX9_count_14 rfl rfl (hm0_M_M _) ?_
    replace hp := hp.2
    refine g_blk hz0 kX9_count_17 ?_
    refine g_blk hz0 kX9_count_24 ?_
    subst hq
    exact ⟨fun h => (by cases h), rfl, rfl⟩
