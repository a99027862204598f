def f_X8_within  (v : Int32) (a : Int32) (b : Int32) : Int32 := if v < a then (Int32.ofInt 0) else (if b < v then (Int32.ofInt 0) else (Int32.ofInt 1))
theorem z_X8_within  (v : Int32) (a : Int32) (b : Int32) : (f_X8_within v a b) = 0 ∨ (f_X8_within v a b) = 1 := by
  unfold f_X8_within
  repeat' split
  all_goals first | exact Or.inl rfl | exact Or.inr rfl | apply z_any <;> assumption
set_option maxHeartbeats 16000000 in
set_option maxRecDepth 20000 in
theorem s_X8_within  (v : Int32) (a : Int32) (b : Int32) : Spec 0 0 0 mX8_within [.int v, .int a, .int b] [] (Ret (some (.int ((f_X8_within v a b)))) []) := by
  obtain ⟨zq, hq⟩ : ∃ z, z = (f_X8_within v a b) := ⟨_, rfl⟩
  rw [← hq]
  unfold f_X8_within at hq
  refine Sof fun sc => ?_
  refine g_blk hz0 kX8_within_0 ?_
  refine ⟨fun c1 => ?_, fun c1 => ?_⟩
  · rw [if_pos (show v < a from c1)] at hq
    refine g_blk hz0 kX8_within_14 ?_
    refine g_blk hz0 kX8_within_15 ?_
    subst hq
    exact ⟨fun _ => Or.inl rfl, rfl, rfl⟩
  · rw [if_neg (show ¬ (v < a) from c1)] at hq
    refine g_blk hz0 kX8_within_5 ?_
    refine ⟨fun c2 => ?_, fun c2 => ?_⟩
    · rw [if_pos (show b < v from c2)] at hq
      refine g_blk hz0 kX8_within_14 ?_
      refine g_blk hz0 kX8_within_15 ?_
      subst hq
      exact ⟨fun _ => Or.inl rfl, rfl, rfl⟩
    · rw [if_neg (show ¬ (b < v) from c2)] at hq
      refine g_blk hz0 kX8_within_10 ?_
      refine g_blk hz0 kX8_within_15 ?_
      subst hq
      exact ⟨fun _ => Or.inr rfl, rfl, rfl⟩

def f_X8_turns  (a : Int32) (l : Int32) (w : Int32) : Int32 := if w = 0 then (if a < l then (Int32.ofInt 0) else (Int32.ofInt 1)) else (if l ≤ a then (Int32.ofInt 0) else (Int32.ofInt 1))
theorem z_X8_turns  (a : Int32) (l : Int32) (w : Int32) : (f_X8_turns a l w) = 0 ∨ (f_X8_turns a l w) = 1 := by
  unfold f_X8_turns
  repeat' split
  all_goals first | exact Or.inl rfl | exact Or.inr rfl | apply z_any <;> assumption
set_option maxHeartbeats 16000000 in
set_option maxRecDepth 20000 in
theorem s_X8_turns  (a : Int32) (l : Int32) (w : Int32) : Spec 0 0 0 mX8_turns [.int a, .int l, .int w] [] (Ret (some (.int ((f_X8_turns a l w)))) []) := by
  obtain ⟨zq, hq⟩ : ∃ z, z = (f_X8_turns a l w) := ⟨_, rfl⟩
  rw [← hq]
  unfold f_X8_turns at hq
  refine Sof fun sc => ?_
  refine g_blk hz0 kX8_turns_0 ?_
  refine ⟨fun c1 => ?_, fun c1 => ?_⟩
  · rw [if_neg (show ¬ (w = 0) from c1)] at hq
    refine g_blk hz0 kX8_turns_17 ?_
    refine ⟨fun c3 => ?_, fun c3 => ?_⟩
    · rw [if_pos (show l ≤ a from c3)] at hq
      refine g_blk hz0 kX8_turns_26 ?_
      refine g_blk hz0 kX8_turns_27 ?_
      subst hq
      exact ⟨fun _ => Or.inl rfl, rfl, rfl⟩
    · rw [if_neg (show ¬ (l ≤ a) from c3)] at hq
      refine g_blk hz0 kX8_turns_22 ?_
      refine g_blk hz0 kX8_turns_27 ?_
      subst hq
      exact ⟨fun _ => Or.inr rfl, rfl, rfl⟩
  · rw [if_pos (show w = 0 from c1)] at hq
    refine g_blk hz0 kX8_turns_4 ?_
    refine ⟨fun c2 => ?_, fun c2 => ?_⟩
    · rw [if_pos (show a < l from c2)] at hq
      refine g_blk hz0 kX8_turns_13 ?_
      refine g_blk hz0 kX8_turns_27 ?_
      subst hq
      exact ⟨fun _ => Or.inl rfl, rfl, rfl⟩
    · rw [if_neg (show ¬ (a < l) from c2)] at hq
      refine g_blk hz0 kX8_turns_9 ?_
      refine g_blk hz0 kX8_turns_27 ?_
      subst hq
      exact ⟨fun _ => Or.inr rfl, rfl, rfl⟩

def f_X8_mirrored  (a : Int32) (l : Int32) : Int32 := ((((Int32.ofInt 2) * l) - (Int32.ofInt 1)) - a)
set_option maxHeartbeats 16000000 in
set_option maxRecDepth 20000 in
theorem s_X8_mirrored  (a : Int32) (l : Int32) : Spec 0 0 0 mX8_mirrored [.int a, .int l] [] (Ret (some (.int ((f_X8_mirrored a l)))) []) := by
  obtain ⟨zq, hq⟩ : ∃ z, z = (f_X8_mirrored a l) := ⟨_, rfl⟩
  rw [← hq]
  unfold f_X8_mirrored at hq
  refine Sof fun sc => ?_
  refine g_blk hz0 kX8_mirrored_0 ?_
  subst hq
  exact ⟨fun h => (by cases h), rfl, rfl⟩

def f_X8_powerOfKind  (k : Int32) (h : Int32) (w : Int32) : Int32 := if w = 0 then (if (Int32.toInt k) < 1 ∨ 3 < (Int32.toInt k) then h else (if (Int32.toInt k) = 1 then (h + (Int32.ofInt 2)) else (if (Int32.toInt k) = 2 then (if w = 0 then h else (h + (Int32.ofInt 3))) else ((Int32.ofInt 2) * (h + (Int32.ofInt 2)))))) else (if (Int32.toInt k) < 1 ∨ 3 < (Int32.toInt k) then h else (if (Int32.toInt k) = 1 then h else (if (Int32.toInt k) = 2 then (if w = 0 then h else (h + (Int32.ofInt 3))) else ((Int32.ofInt 2) * h))))
set_option maxHeartbeats 16000000 in
set_option maxRecDepth 20000 in
theorem s_X8_powerOfKind  (k : Int32) (h : Int32) (w : Int32) : Spec 0 0 0 mX8_powerOfKind [.int k, .int h, .int w] [] (Ret (some (.int ((f_X8_powerOfKind k h w)))) []) := by
  obtain ⟨zq, hq⟩ : ∃ z, z = (f_X8_powerOfKind k h w) := ⟨_, rfl⟩
  rw [← hq]
  unfold f_X8_powerOfKind at hq
  refine Sof fun sc => ?_
  refine g_blk hz0 kX8_powerOfKind_0 ?_
  refine ⟨fun c1 => ?_, fun c1 => ?_⟩
  · rw [if_pos (show w = 0 from c1)] at hq
    refine g_blk hz0 kX8_powerOfKind_8 ?_
    refine g_blk hz0 kX8_powerOfKind_11 ?_
    refine g_tsw dX8_powerOfKind_13 (by decide +kernel) (by decide +kernel) (by decide +kernel) (fun c2 => ?_) (fun j o hj hx => ?_)
    · rw [if_pos (show (Int32.toInt k) < 1 ∨ 3 < (Int32.toInt k) from c2)] at hq
      refine g_blk hz0 kX8_powerOfKind_58 ?_
      subst hq
      exact ⟨fun h => (by cases h), rfl, rfl⟩
    · rcases j with _ | _ | _ | j
      · have ho : o = 27 := by simpa using hj.symm
        subst ho
        have hx2 : (Int32.toInt k) = 1 := by simpa using hx
        rw [if_neg (show ¬ ((Int32.toInt k) < 1 ∨ 3 < (Int32.toInt k)) by omega)] at hq
        rw [if_pos (show (Int32.toInt k) = 1 from hx2)] at hq
        refine g_blk hz0 kX8_powerOfKind_40 ?_
        subst hq
        exact ⟨fun h => (by cases h), rfl, rfl⟩
      · have ho : o = 29 := by simpa using hj.symm
        subst ho
        have hx2 : (Int32.toInt k) = 2 := by simpa using hx
        rw [if_neg (show ¬ ((Int32.toInt k) < 1 ∨ 3 < (Int32.toInt k)) by omega)] at hq
        rw [if_neg (show ¬ ((Int32.toInt k) = 1) by omega)] at hq
        rw [if_pos (show (Int32.toInt k) = 2 from hx2)] at hq
        refine g_blk hz0 kX8_powerOfKind_42 ?_
        refine ⟨fun c3 => ?_, fun c3 => ?_⟩
        · rw [if_pos (show w = 0 from c3)] at hq
          refine g_blk hz0 kX8_powerOfKind_52 ?_
          refine g_blk hz0 kX8_powerOfKind_53 ?_
          subst hq
          exact ⟨fun h => (by cases h), rfl, rfl⟩
        · rw [if_neg (show ¬ (w = 0) from c3)] at hq
          refine g_blk hz0 kX8_powerOfKind_46 ?_
          refine g_blk hz0 kX8_powerOfKind_53 ?_
          subst hq
          exact ⟨fun h => (by cases h), rfl, rfl⟩
      · have ho : o = 41 := by simpa using hj.symm
        subst ho
        have hx2 : (Int32.toInt k) = 3 := by simpa using hx
        rw [if_neg (show ¬ ((Int32.toInt k) < 1 ∨ 3 < (Int32.toInt k)) by omega)] at hq
        rw [if_neg (show ¬ ((Int32.toInt k) = 1) by omega)] at hq
        rw [if_neg (show ¬ ((Int32.toInt k) = 2) by omega)] at hq
        refine g_blk hz0 kX8_powerOfKind_54 ?_
        subst hq
        exact ⟨fun h => (by cases h), rfl, rfl⟩
      · exact absurd hj (by simp)
  · rw [if_neg (show ¬ (w = 0) from c1)] at hq
    refine g_blk hz0 kX8_powerOfKind_4 ?_
    refine g_blk hz0 kX8_powerOfKind_11 ?_
    refine g_tsw dX8_powerOfKind_13 (by decide +kernel) (by decide +kernel) (by decide +kernel) (fun c4 => ?_) (fun j o hj hx => ?_)
    · rw [if_pos (show (Int32.toInt k) < 1 ∨ 3 < (Int32.toInt k) from c4)] at hq
      refine g_blk hz0 kX8_powerOfKind_58 ?_
      subst hq
      exact ⟨fun h => (by cases h), rfl, rfl⟩
    · rcases j with _ | _ | _ | j
      · have ho : o = 27 := by simpa using hj.symm
        subst ho
        have hx2 : (Int32.toInt k) = 1 := by simpa using hx
        rw [if_neg (show ¬ ((Int32.toInt k) < 1 ∨ 3 < (Int32.toInt k)) by omega)] at hq
        rw [if_pos (show (Int32.toInt k) = 1 from hx2)] at hq
        refine g_blk hz0 kX8_powerOfKind_40 ?_
        subst hq
        exact ⟨fun h => (by cases h), rfl, rfl⟩
      · have ho : o = 29 := by simpa using hj.symm
        subst ho
        have hx2 : (Int32.toInt k) = 2 := by simpa using hx
        rw [if_neg (show ¬ ((Int32.toInt k) < 1 ∨ 3 < (Int32.toInt k)) by omega)] at hq
        rw [if_neg (show ¬ ((Int32.toInt k) = 1) by omega)] at hq
        rw [if_pos (show (Int32.toInt k) = 2 from hx2)] at hq
        refine g_blk hz0 kX8_powerOfKind_42 ?_
        refine ⟨fun c5 => ?_, fun c5 => ?_⟩
        · rw [if_pos (show w = 0 from c5)] at hq
          refine g_blk hz0 kX8_powerOfKind_52 ?_
          refine g_blk hz0 kX8_powerOfKind_53 ?_
          subst hq
          exact ⟨fun h => (by cases h), rfl, rfl⟩
        · rw [if_neg (show ¬ (w = 0) from c5)] at hq
          refine g_blk hz0 kX8_powerOfKind_46 ?_
          refine g_blk hz0 kX8_powerOfKind_53 ?_
          subst hq
          exact ⟨fun h => (by cases h), rfl, rfl⟩
      · have ho : o = 41 := by simpa using hj.symm
        subst ho
        have hx2 : (Int32.toInt k) = 3 := by simpa using hx
        rw [if_neg (show ¬ ((Int32.toInt k) < 1 ∨ 3 < (Int32.toInt k)) by omega)] at hq
        rw [if_neg (show ¬ ((Int32.toInt k) = 1) by omega)] at hq
        rw [if_neg (show ¬ ((Int32.toInt k) = 2) by omega)] at hq
        refine g_blk hz0 kX8_powerOfKind_54 ?_
        subst hq
        exact ⟨fun h => (by cases h), rfl, rfl⟩
      · exact absurd hj (by simp)

def f_X4_onBoard (s : Rec) (c : Int32) : Int32 := if (f_X8_within c ((Int32.ofInt 0)) ((Int32.ofInt 35))) = 0 then (Int32.ofInt 0) else (if (s.1 0) ≤ (c - c / (Int32.ofInt 6) * (Int32.ofInt 6)) then (Int32.ofInt 0) else (if (s.1 1) ≤ (c / (Int32.ofInt 6)) then (Int32.ofInt 0) else (Int32.ofInt 1)))
theorem z_X4_onBoard (s : Rec) (c : Int32) : (f_X4_onBoard s c) = 0 ∨ (f_X4_onBoard s c) = 1 := by
  unfold f_X4_onBoard
  repeat' split
  all_goals first | exact Or.inl rfl | exact Or.inr rfl | apply z_any <;> assumption
set_option maxHeartbeats 16000000 in
set_option maxRecDepth 20000 in
theorem s_X4_onBoard (s : Rec) (c : Int32) : Spec 1 0 0 mX4_onBoard [.ref 0, .int c] (wS s) (Ret (some (.int ((f_X4_onBoard s c)))) (wS s)) := by
  obtain ⟨zq, hq⟩ : ∃ z, z = (f_X4_onBoard s c) := ⟨_, rfl⟩
  rw [← hq]
  unfold f_X4_onBoard at hq
  refine Sof fun sc => ?_
  refine g_blk hz0 kX4_onBoard_0 ?_
  refine cS0 (s_X8_within c ((Int32.ofInt 0)) ((Int32.ofInt 35))) rfl cwX8_within dX4_onBoard_4 rfl ?_
  refine g_blk hz0 kX4_onBoard_7 ?_
  refine ⟨fun c1 => ?_, fun c1 => ?_⟩
  · rw [if_pos (show (f_X8_within c ((Int32.ofInt 0)) ((Int32.ofInt 35))) = 0 from c1)] at hq
    refine g_blk hz0 kX4_onBoard_36 ?_
    refine g_blk hz0 kX4_onBoard_37 ?_
    subst hq
    exact ⟨fun _ => Or.inl rfl, rfl, rfl⟩
  · rw [if_neg (show ¬ ((f_X8_within c ((Int32.ofInt 0)) ((Int32.ofInt 35))) = 0) from c1)] at hq
    refine g_blk hz0 kX4_onBoard_10 ?_
    refine ⟨by decide, ?_⟩
    refine ⟨fun c2 => ?_, fun c2 => ?_⟩
    · rw [if_pos (show (s.1 0) ≤ (c - c / (Int32.ofInt 6) * (Int32.ofInt 6)) from c2)] at hq
      refine g_blk hz0 kX4_onBoard_36 ?_
      refine g_blk hz0 kX4_onBoard_37 ?_
      subst hq
      exact ⟨fun _ => Or.inl rfl, rfl, rfl⟩
    · rw [if_neg (show ¬ ((s.1 0) ≤ (c - c / (Int32.ofInt 6) * (Int32.ofInt 6))) from c2)] at hq
      refine g_blk hz0 kX4_onBoard_21 ?_
      refine ⟨by decide, ?_⟩
      refine ⟨fun c3 => ?_, fun c3 => ?_⟩
      · rw [if_pos (show (s.1 1) ≤ (c / (Int32.ofInt 6)) from c3)] at hq
        refine g_blk hz0 kX4_onBoard_36 ?_
        refine g_blk hz0 kX4_onBoard_37 ?_
        subst hq
        exact ⟨fun _ => Or.inl rfl, rfl, rfl⟩
      · rw [if_neg (show ¬ ((s.1 1) ≤ (c / (Int32.ofInt 6))) from c3)] at hq
        refine g_blk hz0 kX4_onBoard_32 ?_
        refine g_blk hz0 kX4_onBoard_37 ?_
        subst hq
        exact ⟨fun _ => Or.inr rfl, rfl, rfl⟩

def f_X4_has (s : Rec) (c : Int32) : Int32 := if (f_X8_within c ((Int32.ofInt 0)) ((Int32.ofInt 35))) = 0 then (Int32.ofInt 0) else (if ((s.2 8) (Int32.toNatClampNeg c)) = 0 then (Int32.ofInt 0) else (Int32.ofInt 1))
def p_X4_has (s : Rec) (c : Int32) : Prop := ((f_X8_within c ((Int32.ofInt 0)) ((Int32.ofInt 35))) = 0 → True) ∧ (¬ ((f_X8_within c ((Int32.ofInt 0)) ((Int32.ofInt 35))) = 0) → (vp_in c 36 ∧ True))
theorem z_X4_has (s : Rec) (c : Int32) : (f_X4_has s c) = 0 ∨ (f_X4_has s c) = 1 := by
  unfold f_X4_has
  repeat' split
  all_goals first | exact Or.inl rfl | exact Or.inr rfl | apply z_any <;> assumption
set_option maxHeartbeats 16000000 in
set_option maxRecDepth 20000 in
theorem s_X4_has (s : Rec) (c : Int32) (hp : p_X4_has s c) : Spec 1 0 0 mX4_has [.ref 0, .int c] (wS s) (Ret (some (.int ((f_X4_has s c)))) (wS s)) := by
  obtain ⟨zq, hq⟩ : ∃ z, z = (f_X4_has s c) := ⟨_, rfl⟩
  rw [← hq]
  unfold f_X4_has at hq
  unfold p_X4_has at hp
  refine Sof fun sc => ?_
  refine g_blk hz0 kX4_has_0 ?_
  refine cS0 (s_X8_within c ((Int32.ofInt 0)) ((Int32.ofInt 35))) rfl cwX8_within dX4_has_4 rfl ?_
  refine g_blk hz0 kX4_has_7 ?_
  refine ⟨fun c1 => ?_, fun c1 => ?_⟩
  · rw [if_pos (show (f_X8_within c ((Int32.ofInt 0)) ((Int32.ofInt 35))) = 0 from c1)] at hq
    refine g_blk hz0 kX4_has_23 ?_
    refine g_blk hz0 kX4_has_24 ?_
    subst hq
    exact ⟨fun _ => Or.inl rfl, rfl, rfl⟩
  · rw [if_neg (show ¬ ((f_X8_within c ((Int32.ofInt 0)) ((Int32.ofInt 35))) = 0) from c1)] at hq
    replace hp := hp.2 c1
    refine g_blk hz0 kX4_has_10 ?_
    refine ⟨hp.1, ?_⟩
    replace hp := hp.2
    refine ⟨fun c2 => ?_, fun c2 => ?_⟩
    · rw [if_pos (show ((s.2 8) (Int32.toNatClampNeg c)) = 0 from c2)] at hq
      refine g_blk hz0 kX4_has_23 ?_
      refine g_blk hz0 kX4_has_24 ?_
      subst hq
      exact ⟨fun _ => Or.inl rfl, rfl, rfl⟩
    · rw [if_neg (show ¬ (((s.2 8) (Int32.toNatClampNeg c)) = 0) from c2)] at hq
      refine g_blk hz0 kX4_has_19 ?_
      refine g_blk hz0 kX4_has_24 ?_
      subst hq
      exact ⟨fun _ => Or.inr rfl, rfl, rfl⟩

def f_X4_liesAt (s : Rec) (c : Int32) (x : Int32) (y : Int32) : Int32 := if c < 0 then (Int32.ofInt 0) else (if (Int32.ofInt 36) ≤ c then (Int32.ofInt 0) else (if ((s.2 8) (Int32.toNatClampNeg c)) = 0 then (Int32.ofInt 0) else (if ((s.2 10) (Int32.toNatClampNeg c)) = x then (if ((s.2 11) (Int32.toNatClampNeg c)) = y then (Int32.ofInt 1) else (Int32.ofInt 0)) else (Int32.ofInt 0))))
def p_X4_liesAt (s : Rec) (c : Int32) (x : Int32) (y : Int32) : Prop := (c < 0 → True) ∧ (¬ (c < 0) → (((Int32.ofInt 36) ≤ c → True) ∧ (¬ ((Int32.ofInt 36) ≤ c) → (vp_in c 36 ∧ ((((s.2 8) (Int32.toNatClampNeg c)) = 0 → True) ∧ (¬ (((s.2 8) (Int32.toNatClampNeg c)) = 0) → (vp_in c 36 ∧ ((((s.2 10) (Int32.toNatClampNeg c)) = x → (vp_in c 36 ∧ True)) ∧ (¬ (((s.2 10) (Int32.toNatClampNeg c)) = x) → True)))))))))
theorem z_X4_liesAt (s : Rec) (c : Int32) (x : Int32) (y : Int32) : (f_X4_liesAt s c x y) = 0 ∨ (f_X4_liesAt s c x y) = 1 := by
  unfold f_X4_liesAt
  repeat' split
  all_goals first | exact Or.inl rfl | exact Or.inr rfl | apply z_any <;> assumption
set_option maxHeartbeats 16000000 in
set_option maxRecDepth 20000 in
theorem s_X4_liesAt (s : Rec) (c : Int32) (x : Int32) (y : Int32) (hp : p_X4_liesAt s c x y) : Spec 0 0 0 mX4_liesAt [.ref 0, .int c, .int x, .int y] (wS s) (Ret (some (.int ((f_X4_liesAt s c x y)))) (wS s)) := by
  obtain ⟨zq, hq⟩ : ∃ z, z = (f_X4_liesAt s c x y) := ⟨_, rfl⟩
  rw [← hq]
  unfold f_X4_liesAt at hq
  unfold p_X4_liesAt at hp
  refine Sof fun sc => ?_
  refine g_blk hz0 kX4_liesAt_0 ?_
  refine ⟨fun c1 => ?_, fun c1 => ?_⟩
  · rw [if_pos (show c < 0 from c1)] at hq
    refine g_blk hz0 kX4_liesAt_43 ?_
    refine g_blk hz0 kX4_liesAt_44 ?_
    subst hq
    exact ⟨fun _ => Or.inl rfl, rfl, rfl⟩
  · rw [if_neg (show ¬ (c < 0) from c1)] at hq
    replace hp := hp.2 c1
    refine g_blk hz0 kX4_liesAt_4 ?_
    refine ⟨fun c2 => ?_, fun c2 => ?_⟩
    · rw [if_pos (show (Int32.ofInt 36) ≤ c from c2)] at hq
      refine g_blk hz0 kX4_liesAt_43 ?_
      refine g_blk hz0 kX4_liesAt_44 ?_
      subst hq
      exact ⟨fun _ => Or.inl rfl, rfl, rfl⟩
    · rw [if_neg (show ¬ ((Int32.ofInt 36) ≤ c) from c2)] at hq
      replace hp := hp.2 c2
      refine g_blk hz0 kX4_liesAt_10 ?_
      refine ⟨hp.1, ?_⟩
      replace hp := hp.2
      refine ⟨fun c3 => ?_, fun c3 => ?_⟩
      · rw [if_pos (show ((s.2 8) (Int32.toNatClampNeg c)) = 0 from c3)] at hq
        refine g_blk hz0 kX4_liesAt_43 ?_
        refine g_blk hz0 kX4_liesAt_44 ?_
        subst hq
        exact ⟨fun _ => Or.inl rfl, rfl, rfl⟩
      · rw [if_neg (show ¬ (((s.2 8) (Int32.toNatClampNeg c)) = 0) from c3)] at hq
        replace hp := hp.2 c3
        refine g_blk hz0 kX4_liesAt_19 ?_
        refine ⟨hp.1, ?_⟩
        replace hp := hp.2
        refine ⟨fun c4 => ?_, fun c4 => ?_⟩
        · rw [if_neg (show ¬ (((s.2 10) (Int32.toNatClampNeg c)) = x) from c4)] at hq
          refine g_blk hz0 kX4_liesAt_43 ?_
          refine g_blk hz0 kX4_liesAt_44 ?_
          subst hq
          exact ⟨fun _ => Or.inl rfl, rfl, rfl⟩
        · rw [if_pos (show ((s.2 10) (Int32.toNatClampNeg c)) = x from c4)] at hq
          replace hp := hp.1 c4
          refine g_blk hz0 kX4_liesAt_29 ?_
          refine ⟨hp.1, ?_⟩
          replace hp := hp.2
          refine ⟨fun c5 => ?_, fun c5 => ?_⟩
          · rw [if_neg (show ¬ (((s.2 11) (Int32.toNatClampNeg c)) = y) from c5)] at hq
            refine g_blk hz0 kX4_liesAt_43 ?_
            refine g_blk hz0 kX4_liesAt_44 ?_
            subst hq
            exact ⟨fun _ => Or.inl rfl, rfl, rfl⟩
          · rw [if_pos (show ((s.2 11) (Int32.toNatClampNeg c)) = y from c5)] at hq
            refine g_blk hz0 kX4_liesAt_39 ?_
            refine g_blk hz0 kX4_liesAt_44 ?_
            subst hq
            exact ⟨fun _ => Or.inr rfl, rfl, rfl⟩

def f_X4_mayCrease (s : Rec) (a : Int32) (l : Int32) : Int32 := if a = 0 then (if l ≤ (s.1 3) then (Int32.ofInt 0) else (if (s.1 4) < l then (Int32.ofInt 0) else (Int32.ofInt 1))) else (if l ≤ (s.1 5) then (Int32.ofInt 0) else (if (s.1 6) < l then (Int32.ofInt 0) else (Int32.ofInt 1)))
theorem z_X4_mayCrease (s : Rec) (a : Int32) (l : Int32) : (f_X4_mayCrease s a l) = 0 ∨ (f_X4_mayCrease s a l) = 1 := by
  unfold f_X4_mayCrease
  repeat' split
  all_goals first | exact Or.inl rfl | exact Or.inr rfl | apply z_any <;> assumption
set_option maxHeartbeats 16000000 in
set_option maxRecDepth 20000 in
theorem s_X4_mayCrease (s : Rec) (a : Int32) (l : Int32) : Spec 0 0 0 mX4_mayCrease [.ref 0, .int a, .int l] (wS s) (Ret (some (.int ((f_X4_mayCrease s a l)))) (wS s)) := by
  obtain ⟨zq, hq⟩ : ∃ z, z = (f_X4_mayCrease s a l) := ⟨_, rfl⟩
  rw [← hq]
  unfold f_X4_mayCrease at hq
  refine Sof fun sc => ?_
  refine g_blk hz0 kX4_mayCrease_0 ?_
  refine ⟨fun c1 => ?_, fun c1 => ?_⟩
  · rw [if_neg (show ¬ (a = 0) from c1)] at hq
    refine g_blk hz0 kX4_mayCrease_28 ?_
    refine ⟨fun c4 => ?_, fun c4 => ?_⟩
    · rw [if_pos (show l ≤ (s.1 5) from c4)] at hq
      refine g_blk hz0 kX4_mayCrease_48 ?_
      refine g_blk hz0 kX4_mayCrease_49 ?_
      subst hq
      exact ⟨fun _ => Or.inl rfl, rfl, rfl⟩
    · rw [if_neg (show ¬ (l ≤ (s.1 5)) from c4)] at hq
      refine g_blk hz0 kX4_mayCrease_36 ?_
      refine ⟨fun c5 => ?_, fun c5 => ?_⟩
      · rw [if_pos (show (s.1 6) < l from c5)] at hq
        refine g_blk hz0 kX4_mayCrease_48 ?_
        refine g_blk hz0 kX4_mayCrease_49 ?_
        subst hq
        exact ⟨fun _ => Or.inl rfl, rfl, rfl⟩
      · rw [if_neg (show ¬ ((s.1 6) < l) from c5)] at hq
        refine g_blk hz0 kX4_mayCrease_44 ?_
        refine g_blk hz0 kX4_mayCrease_49 ?_
        subst hq
        exact ⟨fun _ => Or.inr rfl, rfl, rfl⟩
  · rw [if_pos (show a = 0 from c1)] at hq
    refine g_blk hz0 kX4_mayCrease_4 ?_
    refine ⟨fun c2 => ?_, fun c2 => ?_⟩
    · rw [if_pos (show l ≤ (s.1 3) from c2)] at hq
      refine g_blk hz0 kX4_mayCrease_24 ?_
      refine g_blk hz0 kX4_mayCrease_49 ?_
      subst hq
      exact ⟨fun _ => Or.inl rfl, rfl, rfl⟩
    · rw [if_neg (show ¬ (l ≤ (s.1 3)) from c2)] at hq
      refine g_blk hz0 kX4_mayCrease_12 ?_
      refine ⟨fun c3 => ?_, fun c3 => ?_⟩
      · rw [if_pos (show (s.1 4) < l from c3)] at hq
        refine g_blk hz0 kX4_mayCrease_24 ?_
        refine g_blk hz0 kX4_mayCrease_49 ?_
        subst hq
        exact ⟨fun _ => Or.inl rfl, rfl, rfl⟩
      · rw [if_neg (show ¬ ((s.1 4) < l) from c3)] at hq
        refine g_blk hz0 kX4_mayCrease_20 ?_
        refine g_blk hz0 kX4_mayCrease_49 ?_
        subst hq
        exact ⟨fun _ => Or.inr rfl, rfl, rfl⟩

def f_X4_choices (s : Rec)  : Int32 := (((Int32.ofInt 2) * ((s.1 4) - (s.1 3))) + ((Int32.ofInt 2) * ((s.1 6) - (s.1 5))))
set_option maxHeartbeats 16000000 in
set_option maxRecDepth 20000 in
theorem s_X4_choices (s : Rec)  : Spec 0 0 0 mX4_choices [.ref 0] (wS s) (Ret (some (.int ((f_X4_choices s)))) (wS s)) := by
  obtain ⟨zq, hq⟩ : ∃ z, z = (f_X4_choices s) := ⟨_, rfl⟩
  rw [← hq]
  unfold f_X4_choices at hq
  refine Sof fun sc => ?_
  refine g_blk hz0 kX4_choices_0 ?_
  subst hq
  exact ⟨fun h => (by cases h), rfl, rfl⟩

def f_X4_choiceAxis (s : Rec) (i : Int32) : Int32 := if ((Int32.ofInt 2) * ((s.1 4) - (s.1 3))) ≤ i then (Int32.ofInt 1) else (Int32.ofInt 0)
set_option maxHeartbeats 16000000 in
set_option maxRecDepth 20000 in
theorem s_X4_choiceAxis (s : Rec) (i : Int32) : Spec 0 0 0 mX4_choiceAxis [.ref 0, .int i] (wS s) (Ret (some (.int ((f_X4_choiceAxis s i)))) (wS s)) := by
  obtain ⟨zq, hq⟩ : ∃ z, z = (f_X4_choiceAxis s i) := ⟨_, rfl⟩
  rw [← hq]
  unfold f_X4_choiceAxis at hq
  refine Sof fun sc => ?_
  refine g_blk hz0 kX4_choiceAxis_0 ?_
  refine ⟨fun c1 => ?_, fun c1 => ?_⟩
  · rw [if_pos (show ((Int32.ofInt 2) * ((s.1 4) - (s.1 3))) ≤ i from c1)] at hq
    refine g_blk hz0 kX4_choiceAxis_19 ?_
    refine g_blk hz0 kX4_choiceAxis_20 ?_
    subst hq
    exact ⟨fun h => (by cases h), rfl, rfl⟩
  · rw [if_neg (show ¬ (((Int32.ofInt 2) * ((s.1 4) - (s.1 3))) ≤ i) from c1)] at hq
    refine g_blk hz0 kX4_choiceAxis_15 ?_
    refine g_blk hz0 kX4_choiceAxis_20 ?_
    subst hq
    exact ⟨fun h => (by cases h), rfl, rfl⟩

def f_X4_choiceLine (s : Rec) (i : Int32) : Int32 := if ((Int32.ofInt 2) * ((s.1 4) - (s.1 3))) ≤ i then (((s.1 5) + (Int32.ofInt 1)) + ((i - ((Int32.ofInt 2) * ((s.1 4) - (s.1 3)))) / (Int32.ofInt 2))) else (((s.1 3) + (Int32.ofInt 1)) + (i / (Int32.ofInt 2)))
set_option maxHeartbeats 16000000 in
set_option maxRecDepth 20000 in
theorem s_X4_choiceLine (s : Rec) (i : Int32) : Spec 0 0 0 mX4_choiceLine [.ref 0, .int i] (wS s) (Ret (some (.int ((f_X4_choiceLine s i)))) (wS s)) := by
  obtain ⟨zq, hq⟩ : ∃ z, z = (f_X4_choiceLine s i) := ⟨_, rfl⟩
  rw [← hq]
  unfold f_X4_choiceLine at hq
  refine Sof fun sc => ?_
  refine g_blk hz0 kX4_choiceLine_0 ?_
  refine ⟨fun c1 => ?_, fun c1 => ?_⟩
  · rw [if_pos (show ((Int32.ofInt 2) * ((s.1 4) - (s.1 3))) ≤ i from c1)] at hq
    refine g_blk hz0 kX4_choiceLine_30 ?_
    refine ⟨by decide, ?_⟩
    refine g_blk hz0 kX4_choiceLine_42 ?_
    subst hq
    exact ⟨fun h => (by cases h), rfl, rfl⟩
  · rw [if_neg (show ¬ (((Int32.ofInt 2) * ((s.1 4) - (s.1 3))) ≤ i) from c1)] at hq
    refine g_blk hz0 kX4_choiceLine_17 ?_
    refine ⟨by decide, ?_⟩
    refine g_blk hz0 kX4_choiceLine_42 ?_
    subst hq
    exact ⟨fun h => (by cases h), rfl, rfl⟩

def f_X4_choiceWay (s : Rec) (i : Int32) : Int32 := (i - i / (Int32.ofInt 2) * (Int32.ofInt 2))
set_option maxHeartbeats 16000000 in
set_option maxRecDepth 20000 in
theorem s_X4_choiceWay (s : Rec) (i : Int32) : Spec 0 0 0 mX4_choiceWay [.ref 0, .int i] (wS s) (Ret (some (.int ((f_X4_choiceWay s i)))) (wS s)) := by
  obtain ⟨zq, hq⟩ : ∃ z, z = (f_X4_choiceWay s i) := ⟨_, rfl⟩
  rw [← hq]
  unfold f_X4_choiceWay at hq
  refine Sof fun sc => ?_
  refine g_blk hz0 kX4_choiceWay_0 ?_
  refine ⟨by decide, ?_⟩
  subst hq
  exact ⟨fun h => (by cases h), rfl, rfl⟩

def f_X4_howMany_4  : Nat → Rec → Int32 → Int32 → Int32
  | 0, s, v1, v2 => 0
  | n + 1, s, v1, v2 => if (Int32.ofInt 36) ≤ v2 then v1 else (if ((s.2 8) (Int32.toNatClampNeg v2)) = 0 then (f_X4_howMany_4 n s v1 (v2 + (Int32.ofInt 1))) else (f_X4_howMany_4 n s (v1 + (Int32.ofInt 1)) (v2 + (Int32.ofInt 1))))
def p_X4_howMany_4  : Nat → Rec → Int32 → Int32 → Prop
  | 0, _, _, _ => False
  | n + 1, s, v1, v2 => ((Int32.ofInt 36) ≤ v2 → True) ∧ (¬ ((Int32.ofInt 36) ≤ v2) → (vp_in v2 36 ∧ ((((s.2 8) (Int32.toNatClampNeg v2)) = 0 → (p_X4_howMany_4 n s v1 (v2 + (Int32.ofInt 1)))) ∧ (¬ (((s.2 8) (Int32.toNatClampNeg v2)) = 0) → (p_X4_howMany_4 n s (v1 + (Int32.ofInt 1)) (v2 + (Int32.ofInt 1)))))))
set_option maxHeartbeats 16000000 in
set_option maxRecDepth 20000 in
theorem l_X4_howMany_4 (sc : SC) (s : Rec)  (zq : Int32)  : ∀ (n : Nat)  (v1 : Int32) (v2 : Int32), p_X4_howMany_4 n s v1 v2 → zq = f_X4_howMany_4 n s v1 v2 → Good sc 0 0 0 7 mX4_howMany (Ret (some (.int (zq))) (wS s)) 0 0 4 [some (.ref 0), some (.int v1), some (.int v2)] [] (wS s) := by
  intro n
  induction n with
  | zero => intro v1 v2 hp; exact hp.elim
  | succ n ih =>
    intro v1 v2 hp hq
    unfold p_X4_howMany_4 at hp
    unfold f_X4_howMany_4 at hq
    refine g_blk hz0 kX4_howMany_4 ?_
    refine ⟨fun c1 => ?_, fun c1 => ?_⟩
    · rw [if_pos (show (Int32.ofInt 36) ≤ v2 from c1)] at hq
      refine g_blk hz0 kX4_howMany_28 ?_
      subst hq
      exact ⟨fun h => (by cases h), rfl, rfl⟩
    · rw [if_neg (show ¬ ((Int32.ofInt 36) ≤ v2) from c1)] at hq
      replace hp := hp.2 c1
      refine g_blk hz0 kX4_howMany_10 ?_
      refine ⟨hp.1, ?_⟩
      replace hp := hp.2
      refine ⟨fun c2 => ?_, fun c2 => ?_⟩
      · rw [if_pos (show ((s.2 8) (Int32.toNatClampNeg v2)) = 0 from c2)] at hq
        replace hp := hp.1 c2
        refine g_blk hz0 kX4_howMany_22 ?_
        refine g_le (L2 := [some (.ref 0), some (.int v1), some (.int (v2 + (Int32.ofInt 1)))]) ⟨rfl, rfl, rfl, trivial⟩ ?_
        exact ih v1 (v2 + (Int32.ofInt 1)) hp hq
      · rw [if_neg (show ¬ (((s.2 8) (Int32.toNatClampNeg v2)) = 0) from c2)] at hq
        replace hp := hp.2 c2
        refine g_blk hz0 kX4_howMany_19 ?_
        refine g_blk hz0 kX4_howMany_22 ?_
        refine g_le (L2 := [some (.ref 0), some (.int (v1 + (Int32.ofInt 1))), some (.int (v2 + (Int32.ofInt 1)))]) ⟨rfl, rfl, rfl, trivial⟩ ?_
        exact ih (v1 + (Int32.ofInt 1)) (v2 + (Int32.ofInt 1)) hp hq
def f_X4_howMany (s : Rec)  : Int32 := (f_X4_howMany_4 40 s ((Int32.ofInt 0)) ((Int32.ofInt 0)))
def p_X4_howMany (s : Rec)  : Prop := (p_X4_howMany_4 40 s ((Int32.ofInt 0)) ((Int32.ofInt 0)))
set_option maxHeartbeats 16000000 in
set_option maxRecDepth 20000 in
theorem s_X4_howMany (s : Rec)  (hp : p_X4_howMany s) : Spec 0 0 0 mX4_howMany [.ref 0] (wS s) (Ret (some (.int ((f_X4_howMany s)))) (wS s)) := by
  obtain ⟨zq, hq⟩ : ∃ z, z = (f_X4_howMany s) := ⟨_, rfl⟩
  rw [← hq]
  unfold f_X4_howMany at hq
  unfold p_X4_howMany at hp
  refine Sof fun sc => ?_
  refine g_blk hz0 kX4_howMany_0 ?_
  refine g_le (L2 := [some (.ref 0), some (.int (Int32.ofInt 0)), some (.int (Int32.ofInt 0))]) ⟨rfl, rfl, rfl, trivial⟩ ?_
  exact l_X4_howMany_4 sc s zq 40 ((Int32.ofInt 0)) ((Int32.ofInt 0)) hp hq

set_option maxHeartbeats 16000000 in
theorem hm0_S_S (s : Rec) : [0, 1, 2, 3, 4, 5, 6].map (lk (wS s)) = (wS s).map (fun e => some (ren [0, 1, 2, 3, 4, 5, 6] e)) := rfl
set_option maxHeartbeats 16000000 in
theorem pw0_S_S (s : Rec)  : putW (wS s) [0, 1, 2, 3, 4, 5, 6] ((wS s).map (ren [0, 1, 2, 3, 4, 5, 6])) = (wS s) := rfl
def f_X4_topAt_5  : Nat → Rec → Int32 → Int32 → Int32 → Int32 → Int32
  | 0, s, v1, v2, v3, v4 => 0
  | n + 1, s, v1, v2, v3, v4 => if (Int32.ofInt 36) ≤ v4 then v3 else (if (f_X4_liesAt s v4 v1 v2) = 0 then (f_X4_topAt_5 n s v1 v2 v3 (v4 + (Int32.ofInt 1))) else (if v3 = (Int32.ofInt (-1)) then (f_X4_topAt_5 n s v1 v2 v4 (v4 + (Int32.ofInt 1))) else (if ((s.2 12) (Int32.toNatClampNeg v4)) ≤ ((s.2 12) (Int32.toNatClampNeg v3)) then (f_X4_topAt_5 n s v1 v2 v3 (v4 + (Int32.ofInt 1))) else (f_X4_topAt_5 n s v1 v2 v4 (v4 + (Int32.ofInt 1))))))
def p_X4_topAt_5  : Nat → Rec → Int32 → Int32 → Int32 → Int32 → Prop
  | 0, _, _, _, _, _ => False
  | n + 1, s, v1, v2, v3, v4 => ((Int32.ofInt 36) ≤ v4 → True) ∧ (¬ ((Int32.ofInt 36) ≤ v4) → ((p_X4_liesAt s v4 v1 v2) ∧ (((f_X4_liesAt s v4 v1 v2) = 0 → (p_X4_topAt_5 n s v1 v2 v3 (v4 + (Int32.ofInt 1)))) ∧ (¬ ((f_X4_liesAt s v4 v1 v2) = 0) → ((v3 = (Int32.ofInt (-1)) → (p_X4_topAt_5 n s v1 v2 v4 (v4 + (Int32.ofInt 1)))) ∧ (¬ (v3 = (Int32.ofInt (-1))) → (vp_in v4 36 ∧ (vp_in v3 36 ∧ ((((s.2 12) (Int32.toNatClampNeg v4)) ≤ ((s.2 12) (Int32.toNatClampNeg v3)) → (p_X4_topAt_5 n s v1 v2 v3 (v4 + (Int32.ofInt 1)))) ∧ (¬ (((s.2 12) (Int32.toNatClampNeg v4)) ≤ ((s.2 12) (Int32.toNatClampNeg v3))) → (p_X4_topAt_5 n s v1 v2 v4 (v4 + (Int32.ofInt 1)))))))))))))
set_option maxHeartbeats 16000000 in
set_option maxRecDepth 20000 in
theorem l_X4_topAt_5 (sc : SC) (s : Rec)  (zq : Int32)  : ∀ (n : Nat)  (v1 : Int32) (v2 : Int32) (v3 : Int32) (v4 : Int32), p_X4_topAt_5 n s v1 v2 v3 v4 → zq = f_X4_topAt_5 n s v1 v2 v3 v4 → Good sc 1 0 0 7 mX4_topAt (Ret (some (.int (zq))) (wS s)) 0 0 5 [some (.ref 0), some (.int v1), some (.int v2), some (.int v3), some (.int v4)] [] (wS s) := by
  intro n
  induction n with
  | zero => intro v1 v2 v3 v4 hp; exact hp.elim
  | succ n ih =>
    intro v1 v2 v3 v4 hp hq
    unfold p_X4_topAt_5 at hp
    unfold f_X4_topAt_5 at hq
    refine g_blk hz0 kX4_topAt_5 ?_
    refine ⟨fun c1 => ?_, fun c1 => ?_⟩
    · rw [if_pos (show (Int32.ofInt 36) ≤ v4 from c1)] at hq
      refine g_blk hz0 kX4_topAt_53 ?_
      subst hq
      exact ⟨fun h => (by cases h), rfl, rfl⟩
    · rw [if_neg (show ¬ ((Int32.ofInt 36) ≤ v4) from c1)] at hq
      replace hp := hp.2 c1
      refine g_blk hz0 kX4_topAt_12 ?_
      refine cVp [0, 1, 2, 3, 4, 5, 6] (wS s) (s_X4_liesAt s v4 v1 v2 hp.1) rfl cwX4_liesAt dX4_topAt_17 rfl rfl (hm0_S_S _) ?_
      replace hp := hp.2
      refine g_blk hz0 kX4_topAt_20 ?_
      refine ⟨fun c2 => ?_, fun c2 => ?_⟩
      · rw [if_pos (show (f_X4_liesAt s v4 v1 v2) = 0 from c2)] at hq
        replace hp := hp.1 c2
        refine g_blk hz0 kX4_topAt_47 ?_
        refine g_le (L2 := [some (.ref 0), some (.int v1), some (.int v2), some (.int v3), some (.int (v4 + (Int32.ofInt 1)))]) ⟨rfl, rfl, rfl, rfl, rfl, trivial⟩ ?_
        exact ih v1 v2 v3 (v4 + (Int32.ofInt 1)) hp hq
      · rw [if_neg (show ¬ ((f_X4_liesAt s v4 v1 v2) = 0) from c2)] at hq
        replace hp := hp.2 c2
        refine g_blk hz0 kX4_topAt_23 ?_
        refine ⟨fun c3 => ?_, fun c3 => ?_⟩
        · rw [if_pos (show v3 = (Int32.ofInt (-1)) from c3)] at hq
          replace hp := hp.1 c3
          refine g_blk hz0 kX4_topAt_44 ?_
          refine g_blk hz0 kX4_topAt_47 ?_
          refine g_le (L2 := [some (.ref 0), some (.int v1), some (.int v2), some (.int v4), some (.int (v4 + (Int32.ofInt 1)))]) ⟨rfl, rfl, rfl, rfl, rfl, trivial⟩ ?_
          exact ih v1 v2 v4 (v4 + (Int32.ofInt 1)) hp hq
        · rw [if_neg (show ¬ (v3 = (Int32.ofInt (-1))) from c3)] at hq
          replace hp := hp.2 c3
          refine g_blk hz0 kX4_topAt_28 ?_
          refine ⟨hp.1, ?_⟩
          replace hp := hp.2
          refine ⟨hp.1, ?_⟩
          replace hp := hp.2
          refine ⟨fun c4 => ?_, fun c4 => ?_⟩
          · rw [if_pos (show ((s.2 12) (Int32.toNatClampNeg v4)) ≤ ((s.2 12) (Int32.toNatClampNeg v3)) from c4)] at hq
            replace hp := hp.1 c4
            refine g_blk hz0 kX4_topAt_47 ?_
            refine g_le (L2 := [some (.ref 0), some (.int v1), some (.int v2), some (.int v3), some (.int (v4 + (Int32.ofInt 1)))]) ⟨rfl, rfl, rfl, rfl, rfl, trivial⟩ ?_
            exact ih v1 v2 v3 (v4 + (Int32.ofInt 1)) hp hq
          · rw [if_neg (show ¬ (((s.2 12) (Int32.toNatClampNeg v4)) ≤ ((s.2 12) (Int32.toNatClampNeg v3))) from c4)] at hq
            replace hp := hp.2 c4
            refine g_blk hz0 kX4_topAt_44 ?_
            refine g_blk hz0 kX4_topAt_47 ?_
            refine g_le (L2 := [some (.ref 0), some (.int v1), some (.int v2), some (.int v4), some (.int (v4 + (Int32.ofInt 1)))]) ⟨rfl, rfl, rfl, rfl, rfl, trivial⟩ ?_
            exact ih v1 v2 v4 (v4 + (Int32.ofInt 1)) hp hq
def f_X4_topAt (s : Rec) (x : Int32) (y : Int32) : Int32 := (f_X4_topAt_5 40 s x y ((Int32.ofInt (-1))) ((Int32.ofInt 0)))
def p_X4_topAt (s : Rec) (x : Int32) (y : Int32) : Prop := (p_X4_topAt_5 40 s x y ((Int32.ofInt (-1))) ((Int32.ofInt 0)))
set_option maxHeartbeats 16000000 in
set_option maxRecDepth 20000 in
theorem s_X4_topAt (s : Rec) (x : Int32) (y : Int32) (hp : p_X4_topAt s x y) : Spec 1 0 0 mX4_topAt [.ref 0, .int x, .int y] (wS s) (Ret (some (.int ((f_X4_topAt s x y)))) (wS s)) := by
  obtain ⟨zq, hq⟩ : ∃ z, z = (f_X4_topAt s x y) := ⟨_, rfl⟩
  rw [← hq]
  unfold f_X4_topAt at hq
  unfold p_X4_topAt at hp
  refine Sof fun sc => ?_
  refine g_blk hz0 kX4_topAt_0 ?_
  refine g_le (L2 := [some (.ref 0), some (.int x), some (.int y), some (.int (Int32.ofInt (-1))), some (.int (Int32.ofInt 0))]) ⟨rfl, rfl, rfl, rfl, rfl, trivial⟩ ?_
  exact l_X4_topAt_5 sc s zq 40 x y ((Int32.ofInt (-1))) ((Int32.ofInt 0)) hp hq

def f_X4_heightAt_5  : Nat → Rec → Int32 → Int32 → Int32 → Int32 → Int32
  | 0, s, v1, v2, v3, v4 => 0
  | n + 1, s, v1, v2, v3, v4 => if (Int32.ofInt 36) ≤ v4 then v3 else (if (f_X4_liesAt s v4 v1 v2) = 0 then (f_X4_heightAt_5 n s v1 v2 v3 (v4 + (Int32.ofInt 1))) else (f_X4_heightAt_5 n s v1 v2 (v3 + (Int32.ofInt 1)) (v4 + (Int32.ofInt 1))))
def p_X4_heightAt_5  : Nat → Rec → Int32 → Int32 → Int32 → Int32 → Prop
  | 0, _, _, _, _, _ => False
  | n + 1, s, v1, v2, v3, v4 => ((Int32.ofInt 36) ≤ v4 → True) ∧ (¬ ((Int32.ofInt 36) ≤ v4) → ((p_X4_liesAt s v4 v1 v2) ∧ (((f_X4_liesAt s v4 v1 v2) = 0 → (p_X4_heightAt_5 n s v1 v2 v3 (v4 + (Int32.ofInt 1)))) ∧ (¬ ((f_X4_liesAt s v4 v1 v2) = 0) → (p_X4_heightAt_5 n s v1 v2 (v3 + (Int32.ofInt 1)) (v4 + (Int32.ofInt 1)))))))
set_option maxHeartbeats 16000000 in
set_option maxRecDepth 20000 in
theorem l_X4_heightAt_5 (sc : SC) (s : Rec)  (zq : Int32)  : ∀ (n : Nat)  (v1 : Int32) (v2 : Int32) (v3 : Int32) (v4 : Int32), p_X4_heightAt_5 n s v1 v2 v3 v4 → zq = f_X4_heightAt_5 n s v1 v2 v3 v4 → Good sc 1 0 0 7 mX4_heightAt (Ret (some (.int (zq))) (wS s)) 0 0 5 [some (.ref 0), some (.int v1), some (.int v2), some (.int v3), some (.int v4)] [] (wS s) := by
  intro n
  induction n with
  | zero => intro v1 v2 v3 v4 hp; exact hp.elim
  | succ n ih =>
    intro v1 v2 v3 v4 hp hq
    unfold p_X4_heightAt_5 at hp
    unfold f_X4_heightAt_5 at hq
    refine g_blk hz0 kX4_heightAt_5 ?_
    refine ⟨fun c1 => ?_, fun c1 => ?_⟩
    · rw [if_pos (show (Int32.ofInt 36) ≤ v4 from c1)] at hq
      refine g_blk hz0 kX4_heightAt_32 ?_
      subst hq
      exact ⟨fun h => (by cases h), rfl, rfl⟩
    · rw [if_neg (show ¬ ((Int32.ofInt 36) ≤ v4) from c1)] at hq
      replace hp := hp.2 c1
      refine g_blk hz0 kX4_heightAt_12 ?_
      refine cVp [0, 1, 2, 3, 4, 5, 6] (wS s) (s_X4_liesAt s v4 v1 v2 hp.1) rfl cwX4_liesAt dX4_heightAt_17 rfl rfl (hm0_S_S _) ?_
      replace hp := hp.2
      refine g_blk hz0 kX4_heightAt_20 ?_
      refine ⟨fun c2 => ?_, fun c2 => ?_⟩
      · rw [if_pos (show (f_X4_liesAt s v4 v1 v2) = 0 from c2)] at hq
        replace hp := hp.1 c2
        refine g_blk hz0 kX4_heightAt_26 ?_
        refine g_le (L2 := [some (.ref 0), some (.int v1), some (.int v2), some (.int v3), some (.int (v4 + (Int32.ofInt 1)))]) ⟨rfl, rfl, rfl, rfl, rfl, trivial⟩ ?_
        exact ih v1 v2 v3 (v4 + (Int32.ofInt 1)) hp hq
      · rw [if_neg (show ¬ ((f_X4_liesAt s v4 v1 v2) = 0) from c2)] at hq
        replace hp := hp.2 c2
        refine g_blk hz0 kX4_heightAt_23 ?_
        refine g_blk hz0 kX4_heightAt_26 ?_
        refine g_le (L2 := [some (.ref 0), some (.int v1), some (.int v2), some (.int (v3 + (Int32.ofInt 1))), some (.int (v4 + (Int32.ofInt 1)))]) ⟨rfl, rfl, rfl, rfl, rfl, trivial⟩ ?_
        exact ih v1 v2 (v3 + (Int32.ofInt 1)) (v4 + (Int32.ofInt 1)) hp hq
def f_X4_heightAt (s : Rec) (x : Int32) (y : Int32) : Int32 := (f_X4_heightAt_5 40 s x y ((Int32.ofInt 0)) ((Int32.ofInt 0)))
def p_X4_heightAt (s : Rec) (x : Int32) (y : Int32) : Prop := (p_X4_heightAt_5 40 s x y ((Int32.ofInt 0)) ((Int32.ofInt 0)))
set_option maxHeartbeats 16000000 in
set_option maxRecDepth 20000 in
theorem s_X4_heightAt (s : Rec) (x : Int32) (y : Int32) (hp : p_X4_heightAt s x y) : Spec 1 0 0 mX4_heightAt [.ref 0, .int x, .int y] (wS s) (Ret (some (.int ((f_X4_heightAt s x y)))) (wS s)) := by
  obtain ⟨zq, hq⟩ : ∃ z, z = (f_X4_heightAt s x y) := ⟨_, rfl⟩
  rw [← hq]
  unfold f_X4_heightAt at hq
  unfold p_X4_heightAt at hp
  refine Sof fun sc => ?_
  refine g_blk hz0 kX4_heightAt_0 ?_
  refine g_le (L2 := [some (.ref 0), some (.int x), some (.int y), some (.int (Int32.ofInt 0)), some (.int (Int32.ofInt 0))]) ⟨rfl, rfl, rfl, rfl, rfl, trivial⟩ ?_
  exact l_X4_heightAt_5 sc s zq 40 x y ((Int32.ofInt 0)) ((Int32.ofInt 0)) hp hq

def f_X4_cellsUnder_4  : Nat → Rec → Int32 → Int32 → Int32 → Int32
  | 0, s, v1, v2, v3 => 0
  | n + 1, s, v1, v2, v3 => if (Int32.ofInt 36) ≤ v3 then v2 else (if (f_X4_liesAt s v3 ((s.2 10) (Int32.toNatClampNeg v1)) ((s.2 11) (Int32.toNatClampNeg v1))) = 0 then (f_X4_cellsUnder_4 n s v1 v2 (v3 + (Int32.ofInt 1))) else (if ((s.2 12) (Int32.toNatClampNeg v1)) ≤ ((s.2 12) (Int32.toNatClampNeg v3)) then (f_X4_cellsUnder_4 n s v1 v2 (v3 + (Int32.ofInt 1))) else (f_X4_cellsUnder_4 n s v1 (v2 + (Int32.ofInt 1)) (v3 + (Int32.ofInt 1)))))
def p_X4_cellsUnder_4  : Nat → Rec → Int32 → Int32 → Int32 → Prop
  | 0, _, _, _, _ => False
  | n + 1, s, v1, v2, v3 => ((Int32.ofInt 36) ≤ v3 → True) ∧ (¬ ((Int32.ofInt 36) ≤ v3) → (vp_in v1 36 ∧ (vp_in v1 36 ∧ ((p_X4_liesAt s v3 ((s.2 10) (Int32.toNatClampNeg v1)) ((s.2 11) (Int32.toNatClampNeg v1))) ∧ (((f_X4_liesAt s v3 ((s.2 10) (Int32.toNatClampNeg v1)) ((s.2 11) (Int32.toNatClampNeg v1))) = 0 → (p_X4_cellsUnder_4 n s v1 v2 (v3 + (Int32.ofInt 1)))) ∧ (¬ ((f_X4_liesAt s v3 ((s.2 10) (Int32.toNatClampNeg v1)) ((s.2 11) (Int32.toNatClampNeg v1))) = 0) → (vp_in v3 36 ∧ (vp_in v1 36 ∧ ((((s.2 12) (Int32.toNatClampNeg v1)) ≤ ((s.2 12) (Int32.toNatClampNeg v3)) → (p_X4_cellsUnder_4 n s v1 v2 (v3 + (Int32.ofInt 1)))) ∧ (¬ (((s.2 12) (Int32.toNatClampNeg v1)) ≤ ((s.2 12) (Int32.toNatClampNeg v3))) → (p_X4_cellsUnder_4 n s v1 (v2 + (Int32.ofInt 1)) (v3 + (Int32.ofInt 1)))))))))))))
set_option maxHeartbeats 16000000 in
set_option maxRecDepth 20000 in
theorem l_X4_cellsUnder_4 (sc : SC) (s : Rec)  (zq : Int32)  : ∀ (n : Nat)  (v1 : Int32) (v2 : Int32) (v3 : Int32), p_X4_cellsUnder_4 n s v1 v2 v3 → zq = f_X4_cellsUnder_4 n s v1 v2 v3 → Good sc 1 0 0 7 mX4_cellsUnder (Ret (some (.int (zq))) (wS s)) 0 0 4 [some (.ref 0), some (.int v1), some (.int v2), some (.int v3)] [] (wS s) := by
  intro n
  induction n with
  | zero => intro v1 v2 v3 hp; exact hp.elim
  | succ n ih =>
    intro v1 v2 v3 hp hq
    unfold p_X4_cellsUnder_4 at hp
    unfold f_X4_cellsUnder_4 at hq
    refine g_blk hz0 kX4_cellsUnder_4 ?_
    refine ⟨fun c1 => ?_, fun c1 => ?_⟩
    · rw [if_pos (show (Int32.ofInt 36) ≤ v3 from c1)] at hq
      refine g_blk hz0 kX4_cellsUnder_54 ?_
      subst hq
      exact ⟨fun h => (by cases h), rfl, rfl⟩
    · rw [if_neg (show ¬ ((Int32.ofInt 36) ≤ v3) from c1)] at hq
      replace hp := hp.2 c1
      refine g_blk hz0 kX4_cellsUnder_10 ?_
      refine ⟨hp.1, ?_⟩
      replace hp := hp.2
      refine ⟨hp.1, ?_⟩
      replace hp := hp.2
      refine cVp [0, 1, 2, 3, 4, 5, 6] (wS s) (s_X4_liesAt s v3 ((s.2 10) (Int32.toNatClampNeg v1)) ((s.2 11) (Int32.toNatClampNeg v1)) hp.1) rfl cwX4_liesAt dX4_cellsUnder_24 rfl rfl (hm0_S_S _) ?_
      replace hp := hp.2
      refine g_blk hz0 kX4_cellsUnder_27 ?_
      refine ⟨fun c2 => ?_, fun c2 => ?_⟩
      · rw [if_pos (show (f_X4_liesAt s v3 ((s.2 10) (Int32.toNatClampNeg v1)) ((s.2 11) (Int32.toNatClampNeg v1))) = 0 from c2)] at hq
        replace hp := hp.1 c2
        refine g_blk hz0 kX4_cellsUnder_48 ?_
        refine g_le (L2 := [some (.ref 0), some (.int v1), some (.int v2), some (.int (v3 + (Int32.ofInt 1)))]) ⟨rfl, rfl, rfl, rfl, trivial⟩ ?_
        exact ih v1 v2 (v3 + (Int32.ofInt 1)) hp hq
      · rw [if_neg (show ¬ ((f_X4_liesAt s v3 ((s.2 10) (Int32.toNatClampNeg v1)) ((s.2 11) (Int32.toNatClampNeg v1))) = 0) from c2)] at hq
        replace hp := hp.2 c2
        refine g_blk hz0 kX4_cellsUnder_30 ?_
        refine ⟨hp.1, ?_⟩
        replace hp := hp.2
        refine ⟨hp.1, ?_⟩
        replace hp := hp.2
        refine ⟨fun c3 => ?_, fun c3 => ?_⟩
        · rw [if_pos (show ((s.2 12) (Int32.toNatClampNeg v1)) ≤ ((s.2 12) (Int32.toNatClampNeg v3)) from c3)] at hq
          replace hp := hp.1 c3
          refine g_blk hz0 kX4_cellsUnder_48 ?_
          refine g_le (L2 := [some (.ref 0), some (.int v1), some (.int v2), some (.int (v3 + (Int32.ofInt 1)))]) ⟨rfl, rfl, rfl, rfl, trivial⟩ ?_
          exact ih v1 v2 (v3 + (Int32.ofInt 1)) hp hq
        · rw [if_neg (show ¬ (((s.2 12) (Int32.toNatClampNeg v1)) ≤ ((s.2 12) (Int32.toNatClampNeg v3))) from c3)] at hq
          replace hp := hp.2 c3
          refine g_blk hz0 kX4_cellsUnder_45 ?_
          refine g_blk hz0 kX4_cellsUnder_48 ?_
          refine g_le (L2 := [some (.ref 0), some (.int v1), some (.int (v2 + (Int32.ofInt 1))), some (.int (v3 + (Int32.ofInt 1)))]) ⟨rfl, rfl, rfl, rfl, trivial⟩ ?_
          exact ih v1 (v2 + (Int32.ofInt 1)) (v3 + (Int32.ofInt 1)) hp hq
def f_X4_cellsUnder (s : Rec) (c : Int32) : Int32 := (f_X4_cellsUnder_4 40 s c ((Int32.ofInt 0)) ((Int32.ofInt 0)))
def p_X4_cellsUnder (s : Rec) (c : Int32) : Prop := (p_X4_cellsUnder_4 40 s c ((Int32.ofInt 0)) ((Int32.ofInt 0)))
set_option maxHeartbeats 16000000 in
set_option maxRecDepth 20000 in
theorem s_X4_cellsUnder (s : Rec) (c : Int32) (hp : p_X4_cellsUnder s c) : Spec 1 0 0 mX4_cellsUnder [.ref 0, .int c] (wS s) (Ret (some (.int ((f_X4_cellsUnder s c)))) (wS s)) := by
  obtain ⟨zq, hq⟩ : ∃ z, z = (f_X4_cellsUnder s c) := ⟨_, rfl⟩
  rw [← hq]
  unfold f_X4_cellsUnder at hq
  unfold p_X4_cellsUnder at hp
  refine Sof fun sc => ?_
  refine g_blk hz0 kX4_cellsUnder_0 ?_
  refine g_le (L2 := [some (.ref 0), some (.int c), some (.int (Int32.ofInt 0)), some (.int (Int32.ofInt 0))]) ⟨rfl, rfl, rfl, rfl, trivial⟩ ?_
  exact l_X4_cellsUnder_4 sc s zq 40 c ((Int32.ofInt 0)) ((Int32.ofInt 0)) hp hq

def f_X4_cellAt_3  : Nat → Rec → Int32 → Int32 → Int32 → Int32 → Int32
  | 0, s, v1, v2, v3, v4 => 0
  | n + 1, s, v1, v2, v3, v4 => if (Int32.ofInt 36) ≤ v4 then (Int32.ofInt (-1)) else (if (f_X4_liesAt s v4 v1 v2) = 0 then (f_X4_cellAt_3 n s v1 v2 v3 (v4 + (Int32.ofInt 1))) else (if (f_X4_cellsUnder s v4) = v3 then v4 else (f_X4_cellAt_3 n s v1 v2 v3 (v4 + (Int32.ofInt 1)))))
def p_X4_cellAt_3  : Nat → Rec → Int32 → Int32 → Int32 → Int32 → Prop
  | 0, _, _, _, _, _ => False
  | n + 1, s, v1, v2, v3, v4 => ((Int32.ofInt 36) ≤ v4 → True) ∧ (¬ ((Int32.ofInt 36) ≤ v4) → ((p_X4_liesAt s v4 v1 v2) ∧ (((f_X4_liesAt s v4 v1 v2) = 0 → (p_X4_cellAt_3 n s v1 v2 v3 (v4 + (Int32.ofInt 1)))) ∧ (¬ ((f_X4_liesAt s v4 v1 v2) = 0) → ((p_X4_cellsUnder s v4) ∧ (((f_X4_cellsUnder s v4) = v3 → True) ∧ (¬ ((f_X4_cellsUnder s v4) = v3) → (p_X4_cellAt_3 n s v1 v2 v3 (v4 + (Int32.ofInt 1))))))))))
set_option maxHeartbeats 16000000 in
set_option maxRecDepth 20000 in
theorem l_X4_cellAt_3 (sc : SC) (s : Rec)  (zq : Int32)  : ∀ (n : Nat)  (v1 : Int32) (v2 : Int32) (v3 : Int32) (v4 : Int32), p_X4_cellAt_3 n s v1 v2 v3 v4 → zq = f_X4_cellAt_3 n s v1 v2 v3 v4 → Good sc 2 0 0 7 mX4_cellAt (Ret (some (.int (zq))) (wS s)) 0 0 3 [some (.ref 0), some (.int v1), some (.int v2), some (.int v3), some (.int v4)] [] (wS s) := by
  intro n
  induction n with
  | zero => intro v1 v2 v3 v4 hp; exact hp.elim
  | succ n ih =>
    intro v1 v2 v3 v4 hp hq
    unfold p_X4_cellAt_3 at hp
    unfold f_X4_cellAt_3 at hq
    refine g_blk hz0 kX4_cellAt_3 ?_
    refine ⟨fun c1 => ?_, fun c1 => ?_⟩
    · rw [if_pos (show (Int32.ofInt 36) ≤ v4 from c1)] at hq
      refine g_blk hz0 kX4_cellAt_40 ?_
      subst hq
      exact ⟨fun h => (by cases h), rfl, rfl⟩
    · rw [if_neg (show ¬ ((Int32.ofInt 36) ≤ v4) from c1)] at hq
      replace hp := hp.2 c1
      refine g_blk hz0 kX4_cellAt_10 ?_
      refine cVp [0, 1, 2, 3, 4, 5, 6] (wS s) (s_X4_liesAt s v4 v1 v2 hp.1) rfl cwX4_liesAt dX4_cellAt_15 rfl rfl (hm0_S_S _) ?_
      replace hp := hp.2
      refine g_blk hz0 kX4_cellAt_18 ?_
      refine ⟨fun c2 => ?_, fun c2 => ?_⟩
      · rw [if_pos (show (f_X4_liesAt s v4 v1 v2) = 0 from c2)] at hq
        replace hp := hp.1 c2
        refine g_blk hz0 kX4_cellAt_34 ?_
        refine g_le (L2 := [some (.ref 0), some (.int v1), some (.int v2), some (.int v3), some (.int (v4 + (Int32.ofInt 1)))]) ⟨rfl, rfl, rfl, rfl, rfl, trivial⟩ ?_
        exact ih v1 v2 v3 (v4 + (Int32.ofInt 1)) hp hq
      · rw [if_neg (show ¬ ((f_X4_liesAt s v4 v1 v2) = 0) from c2)] at hq
        replace hp := hp.2 c2
        refine g_blk hz0 kX4_cellAt_21 ?_
        refine cVp [0, 1, 2, 3, 4, 5, 6] (wS s) (s_X4_cellsUnder s v4 hp.1) rfl cwX4_cellsUnder dX4_cellAt_24 rfl rfl (hm0_S_S _) ?_
        replace hp := hp.2
        refine g_blk hz0 kX4_cellAt_27 ?_
        refine ⟨fun c3 => ?_, fun c3 => ?_⟩
        · rw [if_neg (show ¬ ((f_X4_cellsUnder s v4) = v3) from c3)] at hq
          replace hp := hp.2 c3
          refine g_blk hz0 kX4_cellAt_34 ?_
          refine g_le (L2 := [some (.ref 0), some (.int v1), some (.int v2), some (.int v3), some (.int (v4 + (Int32.ofInt 1)))]) ⟨rfl, rfl, rfl, rfl, rfl, trivial⟩ ?_
          exact ih v1 v2 v3 (v4 + (Int32.ofInt 1)) hp hq
        · rw [if_pos (show (f_X4_cellsUnder s v4) = v3 from c3)] at hq
          refine g_blk hz0 kX4_cellAt_31 ?_
          subst hq
          exact ⟨fun h => (by cases h), rfl, rfl⟩
def f_X4_cellAt (s : Rec) (x : Int32) (y : Int32) (i : Int32) : Int32 := (f_X4_cellAt_3 40 s x y i ((Int32.ofInt 0)))
def p_X4_cellAt (s : Rec) (x : Int32) (y : Int32) (i : Int32) : Prop := (p_X4_cellAt_3 40 s x y i ((Int32.ofInt 0)))
set_option maxHeartbeats 16000000 in
set_option maxRecDepth 20000 in
theorem s_X4_cellAt (s : Rec) (x : Int32) (y : Int32) (i : Int32) (hp : p_X4_cellAt s x y i) : Spec 2 0 0 mX4_cellAt [.ref 0, .int x, .int y, .int i] (wS s) (Ret (some (.int ((f_X4_cellAt s x y i)))) (wS s)) := by
  obtain ⟨zq, hq⟩ : ∃ z, z = (f_X4_cellAt s x y i) := ⟨_, rfl⟩
  rw [← hq]
  unfold f_X4_cellAt at hq
  unfold p_X4_cellAt at hp
  refine Sof fun sc => ?_
  refine g_blk hz0 kX4_cellAt_0 ?_
  refine g_le (L2 := [some (.ref 0), some (.int x), some (.int y), some (.int i), some (.int (Int32.ofInt 0))]) ⟨rfl, rfl, rfl, rfl, rfl, trivial⟩ ?_
  exact l_X4_cellAt_3 sc s zq 40 x y i ((Int32.ofInt 0)) hp hq
