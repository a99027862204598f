def f_X9_isByte (m : Rec) (l : Int32) (h : Int32) : Int32 := if (m.1 23) ≤ (m.1 24) then (Int32.ofInt 0) else (if (f_X9_in (Int32.toInt64 ((m.2 22) (Int32.toNatClampNeg (m.1 24)))) (Int32.toInt64 l) (Int32.toInt64 h)) = 0 then (Int32.ofInt 0) else (Int32.ofInt 1))
def p_X9_isByte (m : Rec) (l : Int32) (h : Int32) : Prop := ((m.1 23) ≤ (m.1 24) → True) ∧ (¬ ((m.1 23) ≤ (m.1 24)) → (vp_in (m.1 24) 200 ∧ True))
theorem z_X9_isByte (m : Rec) (l : Int32) (h : Int32) : (f_X9_isByte m l h) = 0 ∨ (f_X9_isByte m l h) = 1 := by
  unfold f_X9_isByte
  repeat' split
  all_goals first | exact Or.inl rfl | exact Or.inr rfl | apply z_any <;> assumption
set_option maxHeartbeats 16000000 in
set_option maxRecDepth 20000 in
theorem s_X9_isByte (m : Rec) (l : Int32) (h : Int32) (hp : p_X9_isByte m l h) : Spec 1 0 0 mX9_isByte [.ref 0, .int l, .int h] (wM m) (Ret (some (.int ((f_X9_isByte m l h)))) (wM m)) := by
  obtain ⟨zq, hq⟩ : ∃ z, z = (f_X9_isByte m l h) := ⟨_, rfl⟩
  rw [← hq]
  unfold f_X9_isByte at hq
  unfold p_X9_isByte at hp
  refine Sof fun sc => ?_
  refine g_blk hz0 kX9_isByte_0 ?_
  refine ⟨fun c1 => ?_, fun c1 => ?_⟩
  · rw [if_pos (show (m.1 23) ≤ (m.1 24) from c1)] at hq
    refine g_blk hz0 kX9_isByte_35 ?_
    refine g_blk hz0 kX9_isByte_36 ?_
    subst hq
    exact ⟨fun _ => Or.inl rfl, rfl, rfl⟩
  · rw [if_neg (show ¬ ((m.1 23) ≤ (m.1 24)) from c1)] at hq
    replace hp := hp.2 c1
    refine g_blk hz0 kX9_isByte_11 ?_
    refine ⟨hp.1, ?_⟩
    replace hp := hp.2
    refine cS0 (s_X9_in (Int32.toInt64 ((m.2 22) (Int32.toNatClampNeg (m.1 24)))) (Int32.toInt64 l) (Int32.toInt64 h)) rfl cwX9_in dX9_isByte_25 rfl ?_
    refine g_blk hz0 kX9_isByte_28 ?_
    refine ⟨fun c2 => ?_, fun c2 => ?_⟩
    · rw [if_pos (show (f_X9_in (Int32.toInt64 ((m.2 22) (Int32.toNatClampNeg (m.1 24)))) (Int32.toInt64 l) (Int32.toInt64 h)) = 0 from c2)] at hq
      refine g_blk hz0 kX9_isByte_35 ?_
      refine g_blk hz0 kX9_isByte_36 ?_
      subst hq
      exact ⟨fun _ => Or.inl rfl, rfl, rfl⟩
    · rw [if_neg (show ¬ ((f_X9_in (Int32.toInt64 ((m.2 22) (Int32.toNatClampNeg (m.1 24)))) (Int32.toInt64 l) (Int32.toInt64 h)) = 0) from c2)] at hq
      refine g_blk hz0 kX9_isByte_31 ?_
      refine g_blk hz0 kX9_isByte_36 ?_
      subst hq
      exact ⟨fun _ => Or.inr rfl, rfl, rfl⟩
