def f_X9_foldsNow (m : Rec)  : Int32 := ((Int32.ofInt 2) * ((((f_X9_end m ((Int32.ofInt 0)) ((Int32.ofInt 1))) - (f_X9_end m ((Int32.ofInt 0)) ((Int32.ofInt 0)))) + (f_X9_end m ((Int32.ofInt 1)) ((Int32.ofInt 1)))) - (f_X9_end m ((Int32.ofInt 1)) ((Int32.ofInt 0)))))
def p_X9_foldsNow (m : Rec)  : Prop := (p_X9_end m ((Int32.ofInt 0)) ((Int32.ofInt 1))) ∧ ((p_X9_end m ((Int32.ofInt 0)) ((Int32.ofInt 0))) ∧ ((p_X9_end m ((Int32.ofInt 1)) ((Int32.ofInt 1))) ∧ ((p_X9_end m ((Int32.ofInt 1)) ((Int32.ofInt 0))) ∧ True)))
set_option maxHeartbeats 16000000 in
set_option maxRecDepth 20000 in
theorem s_X9_foldsNow (m : Rec)  (hp : p_X9_foldsNow m) : Spec 3 0 0 mX9_foldsNow [.ref 0] (wM m) (Ret (some (.int ((f_X9_foldsNow m)))) (wM m)) := by
  obtain ⟨zq, hq⟩ : ∃ z, z = (f_X9_foldsNow m) := ⟨_, rfl⟩
  rw [← hq]
  unfold f_X9_foldsNow at hq
  unfold p_X9_foldsNow at hp
  refine Sof fun sc => ?_
  refine g_blk hz0 kX9_foldsNow_0 ?_
  refine cVp [0, 1, 2, 3, 4, 5, 6, 7, 8, 9, 10, 11, 12, 13, 14, 15, 16] (wM m) (s_X9_end m ((Int32.ofInt 0)) ((Int32.ofInt 1)) hp.1) rfl cwX9_end dX9_foldsNow_4 rfl rfl (hm0_M_M _) ?_
  replace hp := hp.2
  refine g_blk hz0 kX9_foldsNow_7 ?_
  refine cVp [0, 1, 2, 3, 4, 5, 6, 7, 8, 9, 10, 11, 12, 13, 14, 15, 16] (wM m) (s_X9_end m ((Int32.ofInt 0)) ((Int32.ofInt 0)) hp.1) rfl cwX9_end dX9_foldsNow_10 rfl rfl (hm0_M_M _) ?_
  replace hp := hp.2
  refine g_blk hz0 kX9_foldsNow_13 ?_
  refine cVp [0, 1, 2, 3, 4, 5, 6, 7, 8, 9, 10, 11, 12, 13, 14, 15, 16] (wM m) (s_X9_end m ((Int32.ofInt 1)) ((Int32.ofInt 1)) hp.1) rfl cwX9_end dX9_foldsNow_17 rfl rfl (hm0_M_M _) ?_
  replace hp := hp.2
  refine g_blk hz0 kX9_foldsNow_20 ?_
  refine cVp [0, 1, 2, 3, 4, 5, 6, 7, 8, 9, 10, 11, 12, 13, 14, 15, 16] (wM m) (s_X9_end m ((Int32.ofInt 1)) ((Int32.ofInt 0)) hp.1) rfl cwX9_end dX9_foldsNow_24 rfl rfl (hm0_M_M _) ?_
  replace hp := hp.2
  refine g_blk hz0 kX9_foldsNow_27 ?_
  subst hq
  exact ⟨fun h => (by cases h), rfl, rfl⟩
