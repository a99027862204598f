def f_X9_isHere (m : Rec) (m1 : Int32) : Int32 := if (f_X9_in (Int32.toInt64 m1) ((Int64.ofNat 0)) (Int32.toInt64 (((m.2 0) (Int32.toNatClampNeg (Int32.ofInt 2))) - (Int32.ofInt 1)))) = 0 then (Int32.ofInt 0) else (if ((m.2 0) (Int32.toNatClampNeg ((Int32.ofInt 8) + m1))) = (Int32.ofInt (-1)) then (Int32.ofInt 0) else (Int32.ofInt 1))
def p_X9_isHere (m : Rec) (m1 : Int32) : Prop := ((f_X9_in (Int32.toInt64 m1) ((Int64.ofNat 0)) (Int32.toInt64 (((m.2 0) (Int32.toNatClampNeg (Int32.ofInt 2))) - (Int32.ofInt 1)))) = 0 → True) ∧ (¬ ((f_X9_in (Int32.toInt64 m1) ((Int64.ofNat 0)) (Int32.toInt64 (((m.2 0) (Int32.toNatClampNeg (Int32.ofInt 2))) - (Int32.ofInt 1)))) = 0) → (vp_in ((Int32.ofInt 8) + m1) 248 ∧ True))
theorem z_X9_isHere (m : Rec) (m1 : Int32) : (f_X9_isHere m m1) = 0 ∨ (f_X9_isHere m m1) = 1 := by
  unfold f_X9_isHere
  repeat' split
  all_goals first | exact Or.inl rfl | exact Or.inr rfl | apply z_any <;> assumption
set_option maxHeartbeats 16000000 in
set_option maxRecDepth 20000 in
theorem s_X9_isHere (m : Rec) (m1 : Int32) (hp : p_X9_isHere m m1) : Spec 1 0 0 mX9_isHere [.ref 0, .int m1] (wM m) (Ret (some (.int ((f_X9_isHere m m1)))) (wM m)) := by
  obtain ⟨zq, hq⟩ : ∃ z, z = (f_X9_isHere m m1) := ⟨_, rfl⟩
  rw [← hq]
  unfold f_X9_isHere at hq
  unfold p_X9_isHere at hp
  refine Sof fun sc => ?_
  refine g_blk hz0 kX9_isHere_0 ?_
  refine ⟨vinL (by decide), ?_⟩
  refine cS0 (s_X9_in (Int32.toInt64 m1) ((Int64.ofNat 0)) (Int32.toInt64 (((m.2 0) (Int32.toNatClampNeg (Int32.ofInt 2))) - (Int32.ofInt 1)))) rfl cwX9_in dX9_isHere_12 rfl ?_
  refine g_blk hz0 kX9_isHere_15 ?_
  refine ⟨fun c1 => ?_, fun c1 => ?_⟩
  · rw [if_pos (show (f_X9_in (Int32.toInt64 m1) ((Int64.ofNat 0)) (Int32.toInt64 (((m.2 0) (Int32.toNatClampNeg (Int32.ofInt 2))) - (Int32.ofInt 1)))) = 0 from c1)] at hq
    refine g_blk hz0 kX9_isHere_35 ?_
    refine g_blk hz0 kX9_isHere_36 ?_
    subst hq
    exact ⟨fun _ => Or.inl rfl, rfl, rfl⟩
  · rw [if_neg (show ¬ ((f_X9_in (Int32.toInt64 m1) ((Int64.ofNat 0)) (Int32.toInt64 (((m.2 0) (Int32.toNatClampNeg (Int32.ofInt 2))) - (Int32.ofInt 1)))) = 0) from c1)] at hq
    replace hp := hp.2 c1
    refine g_blk hz0 kX9_isHere_18 ?_
    refine ⟨hp.1, ?_⟩
    replace hp := hp.2
    refine ⟨fun c2 => ?_, fun c2 => ?_⟩
    · rw [if_pos (show ((m.2 0) (Int32.toNatClampNeg ((Int32.ofInt 8) + m1))) = (Int32.ofInt (-1)) from c2)] at hq
      refine g_blk hz0 kX9_isHere_35 ?_
      refine g_blk hz0 kX9_isHere_36 ?_
      subst hq
      exact ⟨fun _ => Or.inl rfl, rfl, rfl⟩
    · rw [if_neg (show ¬ (((m.2 0) (Int32.toNatClampNeg ((Int32.ofInt 8) + m1))) = (Int32.ofInt (-1))) from c2)] at hq
      refine g_blk hz0 kX9_isHere_31 ?_
      refine g_blk hz0 kX9_isHere_36 ?_
      subst hq
      exact ⟨fun _ => Or.inr rfl, rfl, rfl⟩
