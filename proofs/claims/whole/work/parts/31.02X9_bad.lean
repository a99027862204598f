set_option maxHeartbeats 16000000 in
theorem hm0_M_M (m : Rec) : [0, 1, 2, 3, 4, 5, 6, 7, 8, 9, 10, 11, 12, 13, 14, 15, 16].map (lk (wM m)) = (wM m).map (fun e => some (ren [0, 1, 2, 3, 4, 5, 6, 7, 8, 9, 10, 11, 12, 13, 14, 15, 16] e)) := rfl
set_option maxHeartbeats 16000000 in
theorem pw0_M_M (m : Rec) (m9 : Rec) : putW (wM m) [0, 1, 2, 3, 4, 5, 6, 7, 8, 9, 10, 11, 12, 13, 14, 15, 16] ((wM m9).map (ren [0, 1, 2, 3, 4, 5, 6, 7, 8, 9, 10, 11, 12, 13, 14, 15, 16])) = (wM m9) := rfl
def f_X9_bad (m : Rec)  : Int32 × Rec := (((f_X9_refuses m ((Int32.ofInt 0)) ((Int32.ofInt (-2)))).1), ((f_X9_refuses m ((Int32.ofInt 0)) ((Int32.ofInt (-2)))).2))
def p_X9_bad (m : Rec)  : Prop := (p_X9_refuses m ((Int32.ofInt 0)) ((Int32.ofInt (-2)))) ∧ True
set_option maxHeartbeats 16000000 in
set_option maxRecDepth 20000 in
theorem s_X9_bad (m : Rec)  (hp : p_X9_bad m) : Spec 1 0 0 mX9_bad [.ref 0] (wM m) (Ret (some (.int ((f_X9_bad m).1))) (wM ((f_X9_bad m).2))) := by
  obtain ⟨zq, hq⟩ : ∃ z, z = (f_X9_bad m) := ⟨_, rfl⟩
  rw [← hq]
  unfold f_X9_bad at hq
  unfold p_X9_bad at hp
  refine Sof fun sc => ?_
  refine g_blk hz0 kX9_bad_0 ?_
  refine cV [0, 1, 2, 3, 4, 5, 6, 7, 8, 9, 10, 11, 12, 13, 14, 15, 16] (wM m) (s_X9_refuses m ((Int32.ofInt 0)) ((Int32.ofInt (-2))) hp.1) rfl cwX9_refuses dX9_bad_4 rfl rfl (hm0_M_M _) ((len_M _).trans (len_M _).symm) (wM ((f_X9_refuses m ((Int32.ofInt 0)) ((Int32.ofInt (-2)))).2)) (pw0_M_M _ _) ?_
  replace hp := hp.2
  obtain ⟨g1, hg1⟩ : ∃ z, z = (f_X9_refuses m ((Int32.ofInt 0)) ((Int32.ofInt (-2)))) := ⟨_, rfl⟩
  try rw [← hg1] at hp
  try rw [← hg1] at hq
  rw [← hg1]
  refine g_blk hz0 kX9_bad_7 ?_
  subst hq
  exact ⟨fun h => (by cases h), rfl, rfl⟩
