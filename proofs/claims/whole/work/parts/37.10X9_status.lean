def f_X9_status (m : Rec) (w : Int32) : Int32 × Rec := if (f_X9_in (Int32.toInt64 w) ((Int64.ofNat 0)) 2) = 0 then (((f_X9_refuses m ((Int32.ofInt 0)) ((Int32.ofInt (-1)))).1), ((f_X9_refuses m ((Int32.ofInt 0)) ((Int32.ofInt (-1)))).2)) else (((m.2 3) (Int32.toNatClampNeg w)), m)
def p_X9_status (m : Rec) (w : Int32) : Prop := ((f_X9_in (Int32.toInt64 w) ((Int64.ofNat 0)) 2) = 0 → ((p_X9_refuses m ((Int32.ofInt 0)) ((Int32.ofInt (-1)))) ∧ True)) ∧ (¬ ((f_X9_in (Int32.toInt64 w) ((Int64.ofNat 0)) 2) = 0) → (vp_in w 3 ∧ True))
set_option maxHeartbeats 16000000 in
set_option maxRecDepth 20000 in
theorem s_X9_status (m : Rec) (w : Int32) (hp : p_X9_status m w) : Spec 1 0 0 mX9_status [.ref 0, .int w] (wM m) (Ret (some (.int ((f_X9_status m w).1))) (wM ((f_X9_status m w).2))) := by
  obtain ⟨zq, hq⟩ : ∃ z, z = (f_X9_status m w) := ⟨_, rfl⟩
  rw [← hq]
  unfold f_X9_status at hq
  unfold p_X9_status at hp
  refine Sof fun sc => ?_
  refine g_blk hz0 kX9_status_0 ?_
  refine cS0 (s_X9_in (Int32.toInt64 w) ((Int64.ofNat 0)) 2) rfl cwX9_in dX9_status_6 rfl ?_
  refine g_blk hz0 kX9_status_9 ?_
  refine ⟨fun c1 => ?_, fun c1 => ?_⟩
  · rw [if_pos (show (f_X9_in (Int32.toInt64 w) ((Int64.ofNat 0)) 2) = 0 from c1)] at hq
    replace hp := hp.1 c1
    refine g_blk hz0 kX9_status_21 ?_
    refine cV [0, 1, 2, 3, 4, 5, 6, 7, 8, 9, 10, 11, 12, 13, 14, 15, 16] (wM m) (s_X9_refuses m ((Int32.ofInt 0)) ((Int32.ofInt (-1))) hp.1) rfl cwX9_refuses dX9_status_24 rfl rfl (hm0_M_M _) ((len_M _).trans (len_M _).symm) (wM ((f_X9_refuses m ((Int32.ofInt 0)) ((Int32.ofInt (-1)))).2)) (pw0_M_M _ _) ?_
    replace hp := hp.2
    obtain ⟨g2, hg2⟩ : ∃ z, z = (f_X9_refuses m ((Int32.ofInt 0)) ((Int32.ofInt (-1)))) := ⟨_, rfl⟩
    try rw [← hg2] at hp
    try rw [← hg2] at hq
    rw [← hg2]
    refine g_blk hz0 kX9_status_27 ?_
    subst hq
    exact ⟨fun h => (by cases h), rfl, rfl⟩
  · rw [if_neg (show ¬ ((f_X9_in (Int32.toInt64 w) ((Int64.ofNat 0)) 2) = 0) from c1)] at hq
    replace hp := hp.2 c1
    refine g_blk hz0 kX9_status_12 ?_
    refine ⟨hp.1, ?_⟩
    replace hp := hp.2
    refine g_blk hz0 kX9_status_27 ?_
    subst hq
    exact ⟨fun h => (by cases h), rfl, rfl⟩
