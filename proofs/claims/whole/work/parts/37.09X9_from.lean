def f_X9_from_31  : Nat → Rec → Int32 → Int32 → Int32 × Rec
  | 0, m, v1, v2 => (0, m)
  | n + 1, m, v1, v2 => if (Int32.ofInt 248) ≤ v2 then ((Int32.ofInt 1), m) else (f_X9_from_31 n (setA m 0 (upd (m.2 0) (Int32.toNatClampNeg v2) ((m.2 1) (Int32.toNatClampNeg (((Int32.ofInt 248) * v1) + v2))))) v1 (v2 + (Int32.ofInt 1)))
def p_X9_from_31  : Nat → Rec → Int32 → Int32 → Prop
  | 0, _, _, _ => False
  | n + 1, m, v1, v2 => ((Int32.ofInt 248) ≤ v2 → True) ∧ (¬ ((Int32.ofInt 248) ≤ v2) → (vp_in (((Int32.ofInt 248) * v1) + v2) 496 ∧ (vp_in v2 248 ∧ (p_X9_from_31 n (setA m 0 (upd (m.2 0) (Int32.toNatClampNeg v2) ((m.2 1) (Int32.toNatClampNeg (((Int32.ofInt 248) * v1) + v2))))) v1 (v2 + (Int32.ofInt 1))))))
set_option maxHeartbeats 16000000 in
set_option maxRecDepth 20000 in
theorem l_X9_from_31 (sc : SC)   (zq : Int32 × Rec)  : ∀ (n : Nat) (m : Rec) (v1 : Int32) (v2 : Int32), p_X9_from_31 n m v1 v2 → zq = f_X9_from_31 n m v1 v2 → Good sc 2 0 0 17 mX9_from (Ret (some (.int (zq.1))) (wM (zq.2))) 0 0 31 [some (.ref 0), some (.int v1), some (.int v2)] [] (wM m) := by
  intro n
  induction n with
  | zero => intro m v1 v2 hp; exact hp.elim
  | succ n ih =>
    intro m v1 v2 hp hq
    unfold p_X9_from_31 at hp
    unfold f_X9_from_31 at hq
    refine g_blk hz0 kX9_from_31 ?_
    refine ⟨fun c5 => ?_, fun c5 => ?_⟩
    · rw [if_pos (show (Int32.ofInt 248) ≤ v2 from c5)] at hq
      refine g_blk hz0 kX9_from_62 ?_
      subst hq
      exact ⟨fun h => (by cases h), rfl, rfl⟩
    · rw [if_neg (show ¬ ((Int32.ofInt 248) ≤ v2) from c5)] at hq
      replace hp := hp.2 c5
      refine g_blk hz0 kX9_from_38 ?_
      refine ⟨hp.1, ?_⟩
      replace hp := hp.2
      refine ⟨hp.1, ?_⟩
      replace hp := hp.2
      refine g_le (L2 := [some (.ref 0), some (.int v1), some (.int (v2 + (Int32.ofInt 1)))]) ⟨rfl, rfl, rfl, trivial⟩ ?_
      exact ih (setA m 0 (upd (m.2 0) (Int32.toNatClampNeg v2) ((m.2 1) (Int32.toNatClampNeg (((Int32.ofInt 248) * v1) + v2))))) v1 (v2 + (Int32.ofInt 1)) hp hq
def f_X9_from (m : Rec) (i : Int32) : Int32 × Rec := if (f_X9_in (Int32.toInt64 i) ((Int64.ofNat 0)) ((Int64.ofNat 1))) = 0 then (((f_X9_bad m).1), ((f_X9_bad m).2)) else (if ((m.2 2) (Int32.toNatClampNeg i)) = 0 then (((f_X9_no m).1), ((f_X9_no m).2)) else (f_X9_from_31 300 m i ((Int32.ofInt 0))))
def p_X9_from (m : Rec) (i : Int32) : Prop := ((f_X9_in (Int32.toInt64 i) ((Int64.ofNat 0)) ((Int64.ofNat 1))) = 0 → ((p_X9_bad m) ∧ True)) ∧ (¬ ((f_X9_in (Int32.toInt64 i) ((Int64.ofNat 0)) ((Int64.ofNat 1))) = 0) → (vp_in i 2 ∧ ((((m.2 2) (Int32.toNatClampNeg i)) = 0 → ((p_X9_no m) ∧ True)) ∧ (¬ (((m.2 2) (Int32.toNatClampNeg i)) = 0) → (p_X9_from_31 300 m i ((Int32.ofInt 0)))))))
set_option maxHeartbeats 16000000 in
set_option maxRecDepth 20000 in
theorem s_X9_from (m : Rec) (i : Int32) (hp : p_X9_from m i) : Spec 2 0 0 mX9_from [.ref 0, .int i] (wM m) (Ret (some (.int ((f_X9_from m i).1))) (wM ((f_X9_from m i).2))) := by
  obtain ⟨zq, hq⟩ : ∃ z, z = (f_X9_from m i) := ⟨_, rfl⟩
  rw [← hq]
  unfold f_X9_from at hq
  unfold p_X9_from at hp
  refine Sof fun sc => ?_
  refine g_blk hz0 kX9_from_0 ?_
  refine cS0 (s_X9_in (Int32.toInt64 i) ((Int64.ofNat 0)) ((Int64.ofNat 1))) rfl cwX9_in dX9_from_4 rfl ?_
  refine g_blk hz0 kX9_from_7 ?_
  refine ⟨fun c1 => ?_, fun c1 => ?_⟩
  · rw [if_neg (show ¬ ((f_X9_in (Int32.toInt64 i) ((Int64.ofNat 0)) ((Int64.ofNat 1))) = 0) from c1)] at hq
    replace hp := hp.2 c1
    refine g_blk hz0 kX9_from_15 ?_
    refine ⟨hp.1, ?_⟩
    replace hp := hp.2
    refine ⟨fun c3 => ?_, fun c3 => ?_⟩
    · rw [if_neg (show ¬ (((m.2 2) (Int32.toNatClampNeg i)) = 0) from c3)] at hq
      replace hp := hp.2 c3
      refine g_blk hz0 kX9_from_29 ?_
      refine g_le (L2 := [some (.ref 0), some (.int i), some (.int (Int32.ofInt 0))]) ⟨rfl, rfl, rfl, trivial⟩ ?_
      exact l_X9_from_31 sc zq 300 m i ((Int32.ofInt 0)) hp hq
    · rw [if_pos (show ((m.2 2) (Int32.toNatClampNeg i)) = 0 from c3)] at hq
      replace hp := hp.1 c3
      refine g_blk hz0 kX9_from_24 ?_
      refine cV [0, 1, 2, 3, 4, 5, 6, 7, 8, 9, 10, 11, 12, 13, 14, 15, 16] (wM m) (s_X9_no m hp.1) rfl cwX9_no dX9_from_25 rfl rfl (hm0_M_M _) ((len_M _).trans (len_M _).symm) (wM ((f_X9_no m).2)) (pw0_M_M _ _) ?_
      replace hp := hp.2
      obtain ⟨g4, hg4⟩ : ∃ z, z = (f_X9_no m) := ⟨_, rfl⟩
      try rw [← hg4] at hp
      try rw [← hg4] at hq
      rw [← hg4]
      refine g_blk hz0 kX9_from_28 ?_
      subst hq
      exact ⟨fun h => (by cases h), rfl, rfl⟩
  · rw [if_pos (show (f_X9_in (Int32.toInt64 i) ((Int64.ofNat 0)) ((Int64.ofNat 1))) = 0 from c1)] at hq
    replace hp := hp.1 c1
    refine g_blk hz0 kX9_from_10 ?_
    refine cV [0, 1, 2, 3, 4, 5, 6, 7, 8, 9, 10, 11, 12, 13, 14, 15, 16] (wM m) (s_X9_bad m hp.1) rfl cwX9_bad dX9_from_11 rfl rfl (hm0_M_M _) ((len_M _).trans (len_M _).symm) (wM ((f_X9_bad m).2)) (pw0_M_M _ _) ?_
    replace hp := hp.2
    obtain ⟨g2, hg2⟩ : ∃ z, z = (f_X9_bad m) := ⟨_, rfl⟩
    try rw [← hg2] at hp
    try rw [← hg2] at hq
    rw [← hg2]
    refine g_blk hz0 kX9_from_14 ?_
    subst hq
    exact ⟨fun h => (by cases h), rfl, rfl⟩
