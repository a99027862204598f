def f_X9_pick (m : Rec) (i : Int32) : Rec := if ((Int32.ofInt 2) * ((f_X9_end m ((Int32.ofInt 0)) ((Int32.ofInt 1))) - (f_X9_end m ((Int32.ofInt 0)) ((Int32.ofInt 0))))) ≤ i then (if ((Int32.ofInt 2) * ((f_X9_end m ((Int32.ofInt 0)) ((Int32.ofInt 1))) - (f_X9_end m ((Int32.ofInt 0)) ((Int32.ofInt 0))))) ≤ i then (setG (setG (setG m 10 ((Int32.ofInt 1))) 11 (((f_X9_end (setG m 10 ((Int32.ofInt 1))) ((Int32.ofInt 1)) ((Int32.ofInt 0))) + (Int32.ofInt 1)) + ((i - ((Int32.ofInt 2) * ((f_X9_end m ((Int32.ofInt 0)) ((Int32.ofInt 1))) - (f_X9_end m ((Int32.ofInt 0)) ((Int32.ofInt 0)))))) / (Int32.ofInt 2)))) 12 ((i - ((Int32.ofInt 2) * ((f_X9_end m ((Int32.ofInt 0)) ((Int32.ofInt 1))) - (f_X9_end m ((Int32.ofInt 0)) ((Int32.ofInt 0)))))) - (i - ((Int32.ofInt 2) * ((f_X9_end m ((Int32.ofInt 0)) ((Int32.ofInt 1))) - (f_X9_end m ((Int32.ofInt 0)) ((Int32.ofInt 0)))))) / (Int32.ofInt 2) * (Int32.ofInt 2))) else (setG (setG (setG m 10 ((Int32.ofInt 1))) 11 (((f_X9_end (setG m 10 ((Int32.ofInt 1))) ((Int32.ofInt 1)) ((Int32.ofInt 0))) + (Int32.ofInt 1)) + (i / (Int32.ofInt 2)))) 12 (i - i / (Int32.ofInt 2) * (Int32.ofInt 2)))) else (if ((Int32.ofInt 2) * ((f_X9_end m ((Int32.ofInt 0)) ((Int32.ofInt 1))) - (f_X9_end m ((Int32.ofInt 0)) ((Int32.ofInt 0))))) ≤ i then (setG (setG (setG m 10 ((Int32.ofInt 0))) 11 (((f_X9_end (setG m 10 ((Int32.ofInt 0))) ((Int32.ofInt 0)) ((Int32.ofInt 0))) + (Int32.ofInt 1)) + ((i - ((Int32.ofInt 2) * ((f_X9_end m ((Int32.ofInt 0)) ((Int32.ofInt 1))) - (f_X9_end m ((Int32.ofInt 0)) ((Int32.ofInt 0)))))) / (Int32.ofInt 2)))) 12 ((i - ((Int32.ofInt 2) * ((f_X9_end m ((Int32.ofInt 0)) ((Int32.ofInt 1))) - (f_X9_end m ((Int32.ofInt 0)) ((Int32.ofInt 0)))))) - (i - ((Int32.ofInt 2) * ((f_X9_end m ((Int32.ofInt 0)) ((Int32.ofInt 1))) - (f_X9_end m ((Int32.ofInt 0)) ((Int32.ofInt 0)))))) / (Int32.ofInt 2) * (Int32.ofInt 2))) else (setG (setG (setG m 10 ((Int32.ofInt 0))) 11 (((f_X9_end (setG m 10 ((Int32.ofInt 0))) ((Int32.ofInt 0)) ((Int32.ofInt 0))) + (Int32.ofInt 1)) + (i / (Int32.ofInt 2)))) 12 (i - i / (Int32.ofInt 2) * (Int32.ofInt 2))))
def p_X9_pick (m : Rec) (i : Int32) : Prop := (p_X9_end m ((Int32.ofInt 0)) ((Int32.ofInt 1))) ∧ ((p_X9_end m ((Int32.ofInt 0)) ((Int32.ofInt 0))) ∧ ((((Int32.ofInt 2) * ((f_X9_end m ((Int32.ofInt 0)) ((Int32.ofInt 1))) - (f_X9_end m ((Int32.ofInt 0)) ((Int32.ofInt 0))))) ≤ i → ((((Int32.ofInt 2) * ((f_X9_end m ((Int32.ofInt 0)) ((Int32.ofInt 1))) - (f_X9_end m ((Int32.ofInt 0)) ((Int32.ofInt 0))))) ≤ i → ((p_X9_end (setG m 10 ((Int32.ofInt 1))) ((Int32.ofInt 1)) ((Int32.ofInt 0))) ∧ True)) ∧ (¬ (((Int32.ofInt 2) * ((f_X9_end m ((Int32.ofInt 0)) ((Int32.ofInt 1))) - (f_X9_end m ((Int32.ofInt 0)) ((Int32.ofInt 0))))) ≤ i) → ((p_X9_end (setG m 10 ((Int32.ofInt 1))) ((Int32.ofInt 1)) ((Int32.ofInt 0))) ∧ True)))) ∧ (¬ (((Int32.ofInt 2) * ((f_X9_end m ((Int32.ofInt 0)) ((Int32.ofInt 1))) - (f_X9_end m ((Int32.ofInt 0)) ((Int32.ofInt 0))))) ≤ i) → ((((Int32.ofInt 2) * ((f_X9_end m ((Int32.ofInt 0)) ((Int32.ofInt 1))) - (f_X9_end m ((Int32.ofInt 0)) ((Int32.ofInt 0))))) ≤ i → ((p_X9_end (setG m 10 ((Int32.ofInt 0))) ((Int32.ofInt 0)) ((Int32.ofInt 0))) ∧ True)) ∧ (¬ (((Int32.ofInt 2) * ((f_X9_end m ((Int32.ofInt 0)) ((Int32.ofInt 1))) - (f_X9_end m ((Int32.ofInt 0)) ((Int32.ofInt 0))))) ≤ i) → ((p_X9_end (setG m 10 ((Int32.ofInt 0))) ((Int32.ofInt 0)) ((Int32.ofInt 0))) ∧ True))))))
set_option maxHeartbeats 16000000 in
set_option maxRecDepth 20000 in
theorem s_X9_pick (m : Rec) (i : Int32) (hp : p_X9_pick m i) : Spec 3 0 0 mX9_pick [.ref 0, .int i] (wM m) (Ret none (wM ((f_X9_pick m i)))) := by
  obtain ⟨zq, hq⟩ : ∃ z, z = (f_X9_pick m i) := ⟨_, rfl⟩
  rw [← hq]
  unfold f_X9_pick at hq
  unfold p_X9_pick at hp
  refine Sof fun sc => ?_
  refine g_blk hz0 kX9_pick_0 ?_
  refine cVp [0, 1, 2, 3, 4, 5, 6, 7, 8, 9, 10, 11, 12, 13, 14, 15, 16] (wM m) (s_X9_end m ((Int32.ofInt 0)) ((Int32.ofInt 1)) hp.1) rfl cwX9_end dX9_pick_4 rfl rfl (hm0_M_M _) ?_
  replace hp := hp.2
  refine g_blk hz0 kX9_pick_7 ?_
  refine cVp [0, 1, 2, 3, 4, 5, 6, 7, 8, 9, 10, 11, 12, 13, 14, 15, 16] (wM m) (s_X9_end m ((Int32.ofInt 0)) ((Int32.ofInt 0)) hp.1) rfl cwX9_end dX9_pick_10 rfl rfl (hm0_M_M _) ?_
  replace hp := hp.2
  refine g_blk hz0 kX9_pick_13 ?_
  refine ⟨fun c1 => ?_, fun c1 => ?_⟩
  · rw [if_pos (show ((Int32.ofInt 2) * ((f_X9_end m ((Int32.ofInt 0)) ((Int32.ofInt 1))) - (f_X9_end m ((Int32.ofInt 0)) ((Int32.ofInt 0))))) ≤ i from c1)] at hq
    replace hp := hp.1 c1
    refine g_blk hz0 kX9_pick_26 ?_
    refine g_blk hz0 kX9_pick_27 ?_
    refine ⟨fun h => (by cases h), Or.inl rfl, ?_⟩
    refine ⟨fun c2 => ?_, fun c2 => ?_⟩
    · rw [if_pos (show ((Int32.ofInt 2) * ((f_X9_end m ((Int32.ofInt 0)) ((Int32.ofInt 1))) - (f_X9_end m ((Int32.ofInt 0)) ((Int32.ofInt 0))))) ≤ i from c2)] at hq
      replace hp := hp.1 c2
      refine g_blk hz0 kX9_pick_39 ?_
      refine g_blk hz0 kX9_pick_42 ?_
      refine g_w (w2 := (wM (setG m 10 ((Int32.ofInt 1))))) rfl ?_
      refine cVp [0, 1, 2, 3, 4, 5, 6, 7, 8, 9, 10, 11, 12, 13, 14, 15, 16] (wM (setG m 10 ((Int32.ofInt 1)))) (s_X9_end (setG m 10 ((Int32.ofInt 1))) ((Int32.ofInt 1)) ((Int32.ofInt 0)) hp.1) rfl cwX9_end dX9_pick_50 rfl rfl (hm0_M_M _) ?_
      replace hp := hp.2
      refine g_blk hz0 kX9_pick_53 ?_
      refine ⟨by decide, ?_⟩
      refine ⟨fun h => (by cases h), Or.inl rfl, ?_⟩
      refine ⟨by decide, ?_⟩
      refine ⟨fun h => (by cases h), Or.inl rfl, ?_⟩
      subst hq
      exact ⟨rfl, rfl⟩
    · rw [if_neg (show ¬ (((Int32.ofInt 2) * ((f_X9_end m ((Int32.ofInt 0)) ((Int32.ofInt 1))) - (f_X9_end m ((Int32.ofInt 0)) ((Int32.ofInt 0))))) ≤ i) from c2)] at hq
      replace hp := hp.2 c2
      refine g_blk hz0 kX9_pick_35 ?_
      refine g_blk hz0 kX9_pick_42 ?_
      refine g_w (w2 := (wM (setG m 10 ((Int32.ofInt 1))))) rfl ?_
      refine cVp [0, 1, 2, 3, 4, 5, 6, 7, 8, 9, 10, 11, 12, 13, 14, 15, 16] (wM (setG m 10 ((Int32.ofInt 1)))) (s_X9_end (setG m 10 ((Int32.ofInt 1))) ((Int32.ofInt 1)) ((Int32.ofInt 0)) hp.1) rfl cwX9_end dX9_pick_50 rfl rfl (hm0_M_M _) ?_
      replace hp := hp.2
      refine g_blk hz0 kX9_pick_53 ?_
      refine ⟨by decide, ?_⟩
      refine ⟨fun h => (by cases h), Or.inl rfl, ?_⟩
      refine ⟨by decide, ?_⟩
      refine ⟨fun h => (by cases h), Or.inl rfl, ?_⟩
      subst hq
      exact ⟨rfl, rfl⟩
  · rw [if_neg (show ¬ (((Int32.ofInt 2) * ((f_X9_end m ((Int32.ofInt 0)) ((Int32.ofInt 1))) - (f_X9_end m ((Int32.ofInt 0)) ((Int32.ofInt 0))))) ≤ i) from c1)] at hq
    replace hp := hp.2 c1
    refine g_blk hz0 kX9_pick_22 ?_
    refine g_blk hz0 kX9_pick_27 ?_
    refine ⟨fun h => (by cases h), Or.inl rfl, ?_⟩
    refine ⟨fun c3 => ?_, fun c3 => ?_⟩
    · rw [if_pos (show ((Int32.ofInt 2) * ((f_X9_end m ((Int32.ofInt 0)) ((Int32.ofInt 1))) - (f_X9_end m ((Int32.ofInt 0)) ((Int32.ofInt 0))))) ≤ i from c3)] at hq
      replace hp := hp.1 c3
      refine g_blk hz0 kX9_pick_39 ?_
      refine g_blk hz0 kX9_pick_42 ?_
      refine g_w (w2 := (wM (setG m 10 ((Int32.ofInt 0))))) rfl ?_
      refine cVp [0, 1, 2, 3, 4, 5, 6, 7, 8, 9, 10, 11, 12, 13, 14, 15, 16] (wM (setG m 10 ((Int32.ofInt 0)))) (s_X9_end (setG m 10 ((Int32.ofInt 0))) ((Int32.ofInt 0)) ((Int32.ofInt 0)) hp.1) rfl cwX9_end dX9_pick_50 rfl rfl (hm0_M_M _) ?_
      replace hp := hp.2
      refine g_blk hz0 kX9_pick_53 ?_
      refine ⟨by decide, ?_⟩
      refine ⟨fun h => (by cases h), Or.inl rfl, ?_⟩
      refine ⟨by decide, ?_⟩
      refine ⟨fun h => (by cases h), Or.inl rfl, ?_⟩
      subst hq
      exact ⟨rfl, rfl⟩
    · rw [if_neg (show ¬ (((Int32.ofInt 2) * ((f_X9_end m ((Int32.ofInt 0)) ((Int32.ofInt 1))) - (f_X9_end m ((Int32.ofInt 0)) ((Int32.ofInt 0))))) ≤ i) from c3)] at hq
      replace hp := hp.2 c3
      refine g_blk hz0 kX9_pick_35 ?_
      refine g_blk hz0 kX9_pick_42 ?_
      refine g_w (w2 := (wM (setG m 10 ((Int32.ofInt 0))))) rfl ?_
      refine cVp [0, 1, 2, 3, 4, 5, 6, 7, 8, 9, 10, 11, 12, 13, 14, 15, 16] (wM (setG m 10 ((Int32.ofInt 0)))) (s_X9_end (setG m 10 ((Int32.ofInt 0))) ((Int32.ofInt 0)) ((Int32.ofInt 0)) hp.1) rfl cwX9_end dX9_pick_50 rfl rfl (hm0_M_M _) ?_
      replace hp := hp.2
      refine g_blk hz0 kX9_pick_53 ?_
      refine ⟨by decide, ?_⟩
      refine ⟨fun h => (by cases h), Or.inl rfl, ?_⟩
      refine ⟨by decide, ?_⟩
      refine ⟨fun h => (by cases h), Or.inl rfl, ?_⟩
      subst hq
      exact ⟨rfl, rfl⟩
