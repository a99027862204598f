def f_X9_strengthOf (m : Rec) (m1 : Int32) : Int32 := if ((m.2 7) (Int32.toNatClampNeg ((m.2 0) (Int32.toNatClampNeg ((Int32.ofInt 8) + m1))))) = 0 then (if ((m.2 0) (Int32.toNatClampNeg ((Int32.ofInt 28) + ((Int32.ofInt 3) * m1)))) = (Int32.ofInt 1) then (((m.2 0) (Int32.toNatClampNeg (((Int32.ofInt 28) + ((Int32.ofInt 3) * m1)) + (Int32.ofInt 2)))) + (Int32.ofInt 2)) else (if ((m.2 0) (Int32.toNatClampNeg ((Int32.ofInt 28) + ((Int32.ofInt 3) * m1)))) = (Int32.ofInt 2) then (if ((m.2 7) (Int32.toNatClampNeg ((m.2 0) (Int32.toNatClampNeg ((Int32.ofInt 8) + m1))))) = 0 then ((m.2 0) (Int32.toNatClampNeg (((Int32.ofInt 28) + ((Int32.ofInt 3) * m1)) + (Int32.ofInt 2)))) else (((m.2 0) (Int32.toNatClampNeg (((Int32.ofInt 28) + ((Int32.ofInt 3) * m1)) + (Int32.ofInt 2)))) + (Int32.ofInt 3))) else (if ((m.2 0) (Int32.toNatClampNeg ((Int32.ofInt 28) + ((Int32.ofInt 3) * m1)))) = (Int32.ofInt 3) then ((Int32.ofInt 2) * (((m.2 0) (Int32.toNatClampNeg (((Int32.ofInt 28) + ((Int32.ofInt 3) * m1)) + (Int32.ofInt 2)))) + (Int32.ofInt 2))) else ((m.2 0) (Int32.toNatClampNeg (((Int32.ofInt 28) + ((Int32.ofInt 3) * m1)) + (Int32.ofInt 2))))))) else (if ((m.2 0) (Int32.toNatClampNeg ((Int32.ofInt 28) + ((Int32.ofInt 3) * m1)))) = (Int32.ofInt 1) then ((m.2 0) (Int32.toNatClampNeg (((Int32.ofInt 28) + ((Int32.ofInt 3) * m1)) + (Int32.ofInt 2)))) else (if ((m.2 0) (Int32.toNatClampNeg ((Int32.ofInt 28) + ((Int32.ofInt 3) * m1)))) = (Int32.ofInt 2) then (if ((m.2 7) (Int32.toNatClampNeg ((m.2 0) (Int32.toNatClampNeg ((Int32.ofInt 8) + m1))))) = 0 then ((m.2 0) (Int32.toNatClampNeg (((Int32.ofInt 28) + ((Int32.ofInt 3) * m1)) + (Int32.ofInt 2)))) else (((m.2 0) (Int32.toNatClampNeg (((Int32.ofInt 28) + ((Int32.ofInt 3) * m1)) + (Int32.ofInt 2)))) + (Int32.ofInt 3))) else (if ((m.2 0) (Int32.toNatClampNeg ((Int32.ofInt 28) + ((Int32.ofInt 3) * m1)))) = (Int32.ofInt 3) then ((Int32.ofInt 2) * ((m.2 0) (Int32.toNatClampNeg (((Int32.ofInt 28) + ((Int32.ofInt 3) * m1)) + (Int32.ofInt 2))))) else ((m.2 0) (Int32.toNatClampNeg (((Int32.ofInt 28) + ((Int32.ofInt 3) * m1)) + (Int32.ofInt 2)))))))
def p_X9_strengthOf (m : Rec) (m1 : Int32) : Prop := vp_in ((Int32.ofInt 28) + ((Int32.ofInt 3) * m1)) 248 ∧ (vp_in (((Int32.ofInt 28) + ((Int32.ofInt 3) * m1)) + (Int32.ofInt 2)) 248 ∧ (vp_in ((Int32.ofInt 8) + m1) 248 ∧ (vp_in ((m.2 0) (Int32.toNatClampNeg ((Int32.ofInt 8) + m1))) 36 ∧ True)))
set_option maxHeartbeats 16000000 in
set_option maxRecDepth 20000 in
theorem s_X9_strengthOf (m : Rec) (m1 : Int32) (hp : p_X9_strengthOf m m1) : Spec 0 0 0 mX9_strengthOf [.ref 0, .int m1] (wM m) (Ret (some (.int ((f_X9_strengthOf m m1)))) (wM m)) := by
  obtain ⟨zq, hq⟩ : ∃ z, z = (f_X9_strengthOf m m1) := ⟨_, rfl⟩
  rw [← hq]
  unfold f_X9_strengthOf at hq
  unfold p_X9_strengthOf at hp
  refine Sof fun sc => ?_
  refine g_blk hz0 kX9_strengthOf_0 ?_
  refine ⟨hp.1, ?_⟩
  replace hp := hp.2
  refine ⟨hp.1, ?_⟩
  replace hp := hp.2
  refine ⟨hp.1, ?_⟩
  replace hp := hp.2
  refine ⟨hp.1, ?_⟩
  replace hp := hp.2
  refine ⟨fun c1 => ?_, fun c1 => ?_⟩
  · rw [if_pos (show ((m.2 7) (Int32.toNatClampNeg ((m.2 0) (Int32.toNatClampNeg ((Int32.ofInt 8) + m1))))) = 0 from c1)] at hq
    refine g_blk hz0 kX9_strengthOf_51 ?_
    refine g_blk hz0 kX9_strengthOf_54 ?_
    refine ⟨fun c2 => ?_, fun c2 => ?_⟩
    · rw [if_neg (show ¬ (((m.2 0) (Int32.toNatClampNeg ((Int32.ofInt 28) + ((Int32.ofInt 3) * m1)))) = (Int32.ofInt 1)) from c2)] at hq
      refine g_blk hz0 kX9_strengthOf_66 ?_
      refine ⟨fun c3 => ?_, fun c3 => ?_⟩
      · rw [if_neg (show ¬ (((m.2 0) (Int32.toNatClampNeg ((Int32.ofInt 28) + ((Int32.ofInt 3) * m1)))) = (Int32.ofInt 2)) from c3)] at hq
        refine g_blk hz0 kX9_strengthOf_86 ?_
        refine ⟨fun c5 => ?_, fun c5 => ?_⟩
        · rw [if_neg (show ¬ (((m.2 0) (Int32.toNatClampNeg ((Int32.ofInt 28) + ((Int32.ofInt 3) * m1)))) = (Int32.ofInt 3)) from c5)] at hq
          refine g_blk hz0 kX9_strengthOf_98 ?_
          refine g_blk hz0 kX9_strengthOf_99 ?_
          subst hq
          exact ⟨fun h => (by cases h), rfl, rfl⟩
        · rw [if_pos (show ((m.2 0) (Int32.toNatClampNeg ((Int32.ofInt 28) + ((Int32.ofInt 3) * m1)))) = (Int32.ofInt 3) from c5)] at hq
          refine g_blk hz0 kX9_strengthOf_91 ?_
          refine g_blk hz0 kX9_strengthOf_99 ?_
          subst hq
          exact ⟨fun h => (by cases h), rfl, rfl⟩
      · rw [if_pos (show ((m.2 0) (Int32.toNatClampNeg ((Int32.ofInt 28) + ((Int32.ofInt 3) * m1)))) = (Int32.ofInt 2) from c3)] at hq
        refine g_blk hz0 kX9_strengthOf_71 ?_
        refine ⟨fun c4 => ?_, fun c4 => ?_⟩
        · rw [if_pos (show ((m.2 7) (Int32.toNatClampNeg ((m.2 0) (Int32.toNatClampNeg ((Int32.ofInt 8) + m1))))) = 0 from c4)] at hq
          refine g_blk hz0 kX9_strengthOf_82 ?_
          refine g_blk hz0 kX9_strengthOf_99 ?_
          subst hq
          exact ⟨fun h => (by cases h), rfl, rfl⟩
        · rw [if_neg (show ¬ (((m.2 7) (Int32.toNatClampNeg ((m.2 0) (Int32.toNatClampNeg ((Int32.ofInt 8) + m1))))) = 0) from c4)] at hq
          refine g_blk hz0 kX9_strengthOf_76 ?_
          refine g_blk hz0 kX9_strengthOf_99 ?_
          subst hq
          exact ⟨fun h => (by cases h), rfl, rfl⟩
    · rw [if_pos (show ((m.2 0) (Int32.toNatClampNeg ((Int32.ofInt 28) + ((Int32.ofInt 3) * m1)))) = (Int32.ofInt 1) from c2)] at hq
      refine g_blk hz0 kX9_strengthOf_61 ?_
      refine g_blk hz0 kX9_strengthOf_99 ?_
      subst hq
      exact ⟨fun h => (by cases h), rfl, rfl⟩
  · rw [if_neg (show ¬ (((m.2 7) (Int32.toNatClampNeg ((m.2 0) (Int32.toNatClampNeg ((Int32.ofInt 8) + m1))))) = 0) from c1)] at hq
    refine g_blk hz0 kX9_strengthOf_47 ?_
    refine g_blk hz0 kX9_strengthOf_54 ?_
    refine ⟨fun c6 => ?_, fun c6 => ?_⟩
    · rw [if_neg (show ¬ (((m.2 0) (Int32.toNatClampNeg ((Int32.ofInt 28) + ((Int32.ofInt 3) * m1)))) = (Int32.ofInt 1)) from c6)] at hq
      refine g_blk hz0 kX9_strengthOf_66 ?_
      refine ⟨fun c7 => ?_, fun c7 => ?_⟩
      · rw [if_neg (show ¬ (((m.2 0) (Int32.toNatClampNeg ((Int32.ofInt 28) + ((Int32.ofInt 3) * m1)))) = (Int32.ofInt 2)) from c7)] at hq
        refine g_blk hz0 kX9_strengthOf_86 ?_
        refine ⟨fun c9 => ?_, fun c9 => ?_⟩
        · rw [if_neg (show ¬ (((m.2 0) (Int32.toNatClampNeg ((Int32.ofInt 28) + ((Int32.ofInt 3) * m1)))) = (Int32.ofInt 3)) from c9)] at hq
          refine g_blk hz0 kX9_strengthOf_98 ?_
          refine g_blk hz0 kX9_strengthOf_99 ?_
          subst hq
          exact ⟨fun h => (by cases h), rfl, rfl⟩
        · rw [if_pos (show ((m.2 0) (Int32.toNatClampNeg ((Int32.ofInt 28) + ((Int32.ofInt 3) * m1)))) = (Int32.ofInt 3) from c9)] at hq
          refine g_blk hz0 kX9_strengthOf_91 ?_
          refine g_blk hz0 kX9_strengthOf_99 ?_
          subst hq
          exact ⟨fun h => (by cases h), rfl, rfl⟩
      · rw [if_pos (show ((m.2 0) (Int32.toNatClampNeg ((Int32.ofInt 28) + ((Int32.ofInt 3) * m1)))) = (Int32.ofInt 2) from c7)] at hq
        refine g_blk hz0 kX9_strengthOf_71 ?_
        refine ⟨fun c8 => ?_, fun c8 => ?_⟩
        · rw [if_pos (show ((m.2 7) (Int32.toNatClampNeg ((m.2 0) (Int32.toNatClampNeg ((Int32.ofInt 8) + m1))))) = 0 from c8)] at hq
          refine g_blk hz0 kX9_strengthOf_82 ?_
          refine g_blk hz0 kX9_strengthOf_99 ?_
          subst hq
          exact ⟨fun h => (by cases h), rfl, rfl⟩
        · rw [if_neg (show ¬ (((m.2 7) (Int32.toNatClampNeg ((m.2 0) (Int32.toNatClampNeg ((Int32.ofInt 8) + m1))))) = 0) from c8)] at hq
          refine g_blk hz0 kX9_strengthOf_76 ?_
          refine g_blk hz0 kX9_strengthOf_99 ?_
          subst hq
          exact ⟨fun h => (by cases h), rfl, rfl⟩
    · rw [if_pos (show ((m.2 0) (Int32.toNatClampNeg ((Int32.ofInt 28) + ((Int32.ofInt 3) * m1)))) = (Int32.ofInt 1) from c6)] at hq
      refine g_blk hz0 kX9_strengthOf_61 ?_
      refine g_blk hz0 kX9_strengthOf_99 ?_
      subst hq
      exact ⟨fun h => (by cases h), rfl, rfl⟩
