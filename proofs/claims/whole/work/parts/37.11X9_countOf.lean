def f_X9_countOf (m : Rec) (w : Int32) : Int32 := if w = 0 then (f_X9_many m) else (if w = (Int32.ofInt 1) then ((m.2 0) (Int32.toNatClampNeg (Int32.ofInt 2))) else (if w = (Int32.ofInt 2) then (m.1 23) else ((m.2 0) (Int32.toNatClampNeg (Int32.ofInt 6)))))
def p_X9_countOf (m : Rec) (w : Int32) : Prop := (w = 0 → ((p_X9_many m) ∧ True)) ∧ (¬ (w = 0) → True)
set_option maxHeartbeats 16000000 in
set_option maxRecDepth 20000 in
theorem s_X9_countOf (m : Rec) (w : Int32) (hp : p_X9_countOf m w) : Spec 3 0 0 mX9_countOf [.ref 0, .int w] (wM m) (Ret (some (.int ((f_X9_countOf m w)))) (wM m)) := by
  obtain ⟨zq, hq⟩ : ∃ z, z = (f_X9_countOf m w) := ⟨_, rfl⟩
  rw [← hq]
  unfold f_X9_countOf at hq
  unfold p_X9_countOf at hp
  refine Sof fun sc => ?_
  refine g_blk hz0 kX9_countOf_0 ?_
  refine ⟨fun c1 => ?_, fun c1 => ?_⟩
  · rw [if_neg (show ¬ (w = 0) from c1)] at hq
    refine g_blk hz0 kX9_countOf_11 ?_
    refine ⟨fun c2 => ?_, fun c2 => ?_⟩
    · rw [if_neg (show ¬ (w = (Int32.ofInt 1)) from c2)] at hq
      refine g_blk hz0 kX9_countOf_25 ?_
      refine ⟨fun c3 => ?_, fun c3 => ?_⟩
      · rw [if_neg (show ¬ (w = (Int32.ofInt 2)) from c3)] at hq
        refine g_blk hz0 kX9_countOf_37 ?_
        refine ⟨vinL (by decide), ?_⟩
        refine g_blk hz0 kX9_countOf_44 ?_
        subst hq
        exact ⟨fun h => (by cases h), rfl, rfl⟩
      · rw [if_pos (show w = (Int32.ofInt 2) from c3)] at hq
        refine g_blk hz0 kX9_countOf_30 ?_
        refine g_blk hz0 kX9_countOf_44 ?_
        subst hq
        exact ⟨fun h => (by cases h), rfl, rfl⟩
    · rw [if_pos (show w = (Int32.ofInt 1) from c2)] at hq
      refine g_blk hz0 kX9_countOf_16 ?_
      refine ⟨vinL (by decide), ?_⟩
      refine g_blk hz0 kX9_countOf_44 ?_
      subst hq
      exact ⟨fun h => (by cases h), rfl, rfl⟩
  · rw [if_pos (show w = 0 from c1)] at hq
    replace hp := hp.1 c1
    refine g_blk hz0 kX9_countOf_4 ?_
    refine cVp [0, 1, 2, 3, 4, 5, 6, 7, 8, 9, 10, 11, 12, 13, 14, 15, 16] (wM m) (s_X9_many m hp.1) rfl cwX9_many dX9_countOf_5 rfl rfl (hm0_M_M _) ?_
    replace hp := hp.2
    refine g_blk hz0 kX9_countOf_8 ?_
    refine g_blk hz0 kX9_countOf_44 ?_
    subst hq
    exact ⟨fun h => (by cases h), rfl, rfl⟩
