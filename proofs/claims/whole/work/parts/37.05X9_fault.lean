def f_X9_fault (m : Rec)  : Int32 × Rec := if ((f_X9_reads m).1) = 0 then ((((f_X9_reads m).2).1 25), ((f_X9_reads m).2)) else ((Int32.ofInt (-1)), ((f_X9_reads m).2))
def p_X9_fault (m : Rec)  : Prop := (p_X9_reads m) ∧ True
set_option maxHeartbeats 16000000 in
set_option maxRecDepth 20000 in
theorem s_X9_fault (m : Rec)  (hp : p_X9_fault m) : Spec 4 0 0 mX9_fault [.ref 0] (wM m) (Ret (some (.int ((f_X9_fault m).1))) (wM ((f_X9_fault m).2))) := by
  obtain ⟨zq, hq⟩ : ∃ z, z = (f_X9_fault m) := ⟨_, rfl⟩
  rw [← hq]
  unfold f_X9_fault at hq
  unfold p_X9_fault at hp
  refine Sof fun sc => ?_
  refine g_blk hz0 kX9_fault_0 ?_
  refine cV [0, 1, 2, 3, 4, 5, 6, 7, 8, 9, 10, 11, 12, 13, 14, 15, 16] (wM m) (s_X9_reads m hp.1) rfl cwX9_reads dX9_fault_1 rfl rfl (hm0_M_M _) ((len_M _).trans (len_M _).symm) (wM ((f_X9_reads m).2)) (pw0_M_M _ _) ?_
  replace hp := hp.2
  obtain ⟨g1, hg1⟩ : ∃ z, z = (f_X9_reads m) := ⟨_, rfl⟩
  try rw [← hg1] at hp
  try rw [← hg1] at hq
  rw [← hg1]
  refine g_blk hz0 kX9_fault_4 ?_
  refine ⟨fun c2 => ?_, fun c2 => ?_⟩
  · rw [if_pos (show (g1.1) = 0 from c2)] at hq
    refine g_blk hz0 kX9_fault_11 ?_
    refine g_blk hz0 kX9_fault_15 ?_
    subst hq
    exact ⟨fun h => (by cases h), rfl, rfl⟩
  · rw [if_neg (show ¬ ((g1.1) = 0) from c2)] at hq
    refine g_blk hz0 kX9_fault_7 ?_
    refine g_blk hz0 kX9_fault_15 ?_
    subst hq
    exact ⟨fun h => (by cases h), rfl, rfl⟩
