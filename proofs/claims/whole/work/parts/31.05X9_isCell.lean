def f_X9_isCell (m : Rec) (c : Int32) : Int32 := if (f_X9_in (Int32.toInt64 c) ((Int64.ofNat 0)) 35) = 0 then (Int32.ofInt 0) else (if ((m.2 0) (Int32.toNatClampNeg (Int32.ofInt 0))) ≤ (c - c / (Int32.ofInt 6) * (Int32.ofInt 6)) then (Int32.ofInt 0) else (if ((m.2 0) (Int32.toNatClampNeg (Int32.ofInt 1))) ≤ (c / (Int32.ofInt 6)) then (Int32.ofInt 0) else (if ((m.2 0) (Int32.toNatClampNeg ((Int32.ofInt 52) + c))) = 0 then (Int32.ofInt 1) else (Int32.ofInt 0))))
def p_X9_isCell (m : Rec) (c : Int32) : Prop := ((f_X9_in (Int32.toInt64 c) ((Int64.ofNat 0)) 35) = 0 → True) ∧ (¬ ((f_X9_in (Int32.toInt64 c) ((Int64.ofNat 0)) 35) = 0) → ((((m.2 0) (Int32.toNatClampNeg (Int32.ofInt 0))) ≤ (c - c / (Int32.ofInt 6) * (Int32.ofInt 6)) → True) ∧ (¬ (((m.2 0) (Int32.toNatClampNeg (Int32.ofInt 0))) ≤ (c - c / (Int32.ofInt 6) * (Int32.ofInt 6))) → ((((m.2 0) (Int32.toNatClampNeg (Int32.ofInt 1))) ≤ (c / (Int32.ofInt 6)) → True) ∧ (¬ (((m.2 0) (Int32.toNatClampNeg (Int32.ofInt 1))) ≤ (c / (Int32.ofInt 6))) → (vp_in ((Int32.ofInt 52) + c) 248 ∧ True))))))
theorem z_X9_isCell (m : Rec) (c : Int32) : (f_X9_isCell m c) = 0 ∨ (f_X9_isCell m c) = 1 := by
  unfold f_X9_isCell
  repeat' split
  all_goals first | exact Or.inl rfl | exact Or.inr rfl | apply z_any <;> assumption
set_option maxHeartbeats 16000000 in
set_option maxRecDepth 20000 in
theorem s_X9_isCell (m : Rec) (c : Int32) (hp : p_X9_isCell m c) : Spec 1 0 0 mX9_isCell [.ref 0, .int c] (wM m) (Ret (some (.int ((f_X9_isCell m c)))) (wM m)) := by
  obtain ⟨zq, hq⟩ : ∃ z, z = (f_X9_isCell m c) := ⟨_, rfl⟩
  rw [← hq]
  unfold f_X9_isCell at hq
  unfold p_X9_isCell at hp
  refine Sof fun sc => ?_
  refine g_blk hz0 kX9_isCell_0 ?_
  refine cS0 (s_X9_in (Int32.toInt64 c) ((Int64.ofNat 0)) 35) rfl cwX9_in dX9_isCell_6 rfl ?_
  refine g_blk hz0 kX9_isCell_9 ?_
  refine ⟨fun c1 => ?_, fun c1 => ?_⟩
  · rw [if_pos (show (f_X9_in (Int32.toInt64 c) ((Int64.ofNat 0)) 35) = 0 from c1)] at hq
    refine g_blk hz0 kX9_isCell_54 ?_
    refine g_blk hz0 kX9_isCell_55 ?_
    subst hq
    exact ⟨fun _ => Or.inl rfl, rfl, rfl⟩
  · rw [if_neg (show ¬ ((f_X9_in (Int32.toInt64 c) ((Int64.ofNat 0)) 35) = 0) from c1)] at hq
    replace hp := hp.2 c1
    refine g_blk hz0 kX9_isCell_12 ?_
    refine ⟨by decide, ?_⟩
    refine ⟨vinL (by decide), ?_⟩
    refine ⟨fun c2 => ?_, fun c2 => ?_⟩
    · rw [if_pos (show ((m.2 0) (Int32.toNatClampNeg (Int32.ofInt 0))) ≤ (c - c / (Int32.ofInt 6) * (Int32.ofInt 6)) from c2)] at hq
      refine g_blk hz0 kX9_isCell_54 ?_
      refine g_blk hz0 kX9_isCell_55 ?_
      subst hq
      exact ⟨fun _ => Or.inl rfl, rfl, rfl⟩
    · rw [if_neg (show ¬ (((m.2 0) (Int32.toNatClampNeg (Int32.ofInt 0))) ≤ (c - c / (Int32.ofInt 6) * (Int32.ofInt 6))) from c2)] at hq
      replace hp := hp.2 c2
      refine g_blk hz0 kX9_isCell_25 ?_
      refine ⟨by decide, ?_⟩
      refine ⟨vinL (by decide), ?_⟩
      refine ⟨fun c3 => ?_, fun c3 => ?_⟩
      · rw [if_pos (show ((m.2 0) (Int32.toNatClampNeg (Int32.ofInt 1))) ≤ (c / (Int32.ofInt 6)) from c3)] at hq
        refine g_blk hz0 kX9_isCell_54 ?_
        refine g_blk hz0 kX9_isCell_55 ?_
        subst hq
        exact ⟨fun _ => Or.inl rfl, rfl, rfl⟩
      · rw [if_neg (show ¬ (((m.2 0) (Int32.toNatClampNeg (Int32.ofInt 1))) ≤ (c / (Int32.ofInt 6))) from c3)] at hq
        replace hp := hp.2 c3
        refine g_blk hz0 kX9_isCell_38 ?_
        refine ⟨hp.1, ?_⟩
        replace hp := hp.2
        refine ⟨fun c4 => ?_, fun c4 => ?_⟩
        · rw [if_neg (show ¬ (((m.2 0) (Int32.toNatClampNeg ((Int32.ofInt 52) + c))) = 0) from c4)] at hq
          refine g_blk hz0 kX9_isCell_54 ?_
          refine g_blk hz0 kX9_isCell_55 ?_
          subst hq
          exact ⟨fun _ => Or.inl rfl, rfl, rfl⟩
        · rw [if_pos (show ((m.2 0) (Int32.toNatClampNeg ((Int32.ofInt 52) + c))) = 0 from c4)] at hq
          refine g_blk hz0 kX9_isCell_50 ?_
          refine g_blk hz0 kX9_isCell_55 ?_
          subst hq
          exact ⟨fun _ => Or.inr rfl, rfl, rfl⟩
