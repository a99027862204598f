def f_X9_moves_32  (m : Rec) (v4 : Int32) (u0 : Int32) : Int32 := if v4 = 0 then (if u0 = (Int32.ofInt 1) then (Int32.ofInt 1) else (Int32.ofInt 0)) else (if u0 = (Int32.ofInt 0) then (Int32.ofInt 1) else (Int32.ofInt 0))
def p_X9_moves_32  (m : Rec) (v4 : Int32) (u0 : Int32) : Prop := True
set_option maxHeartbeats 16000000 in
set_option maxRecDepth 20000 in
theorem l_X9_moves_32 (sc : SC) (m : Rec)  (zq : Int32)   (v4 : Int32) (u0 : Int32) (hp : p_X9_moves_32 m v4 u0) (hq : zq = f_X9_moves_32 m v4 u0) : Good sc 0 0 0 17 mX9_moves (Ret (some (.int (zq))) (wM m)) 0 0 32 [none, none, none, none, some (.int v4), none] [.int u0] (wM m) := by
  unfold p_X9_moves_32 at hp
  unfold f_X9_moves_32 at hq
  refine g_blk hz0 kX9_moves_32 ?_
  refine ⟨fun c4 => ?_, fun c4 => ?_⟩
  · rw [if_neg (show ¬ (v4 = 0) from c4)] at hq
    refine g_blk hz0 kX9_moves_41 ?_
    refine g_blk hz0 kX9_moves_42 ?_
    refine ⟨fun c6 => ?_, fun c6 => ?_⟩
    · rw [if_neg (show ¬ (u0 = (Int32.ofInt 0)) from c6)] at hq
      refine g_blk hz0 kX9_moves_49 ?_
      refine g_blk hz0 kX9_moves_50 ?_
      subst hq
      exact ⟨fun _ => Or.inl rfl, rfl, rfl⟩
    · rw [if_pos (show u0 = (Int32.ofInt 0) from c6)] at hq
      refine g_blk hz0 kX9_moves_45 ?_
      refine g_blk hz0 kX9_moves_50 ?_
      subst hq
      exact ⟨fun _ => Or.inr rfl, rfl, rfl⟩
  · rw [if_pos (show v4 = 0 from c4)] at hq
    refine g_blk hz0 kX9_moves_37 ?_
    refine g_blk hz0 kX9_moves_42 ?_
    refine ⟨fun c5 => ?_, fun c5 => ?_⟩
    · rw [if_neg (show ¬ (u0 = (Int32.ofInt 1)) from c5)] at hq
      refine g_blk hz0 kX9_moves_49 ?_
      refine g_blk hz0 kX9_moves_50 ?_
      subst hq
      exact ⟨fun _ => Or.inl rfl, rfl, rfl⟩
    · rw [if_pos (show u0 = (Int32.ofInt 1) from c5)] at hq
      refine g_blk hz0 kX9_moves_45 ?_
      refine g_blk hz0 kX9_moves_50 ?_
      subst hq
      exact ⟨fun _ => Or.inr rfl, rfl, rfl⟩
def f_X9_moves (m : Rec) (c : Int32) (a : Int32) (l : Int32) (w : Int32) : Int32 := if a = 0 then (if ((m.2 4) (Int32.toNatClampNeg c)) < l then (f_X9_moves_32 m w ((Int32.ofInt 0))) else (f_X9_moves_32 m w ((Int32.ofInt 1)))) else (if ((m.2 5) (Int32.toNatClampNeg c)) < l then (f_X9_moves_32 m w ((Int32.ofInt 0))) else (f_X9_moves_32 m w ((Int32.ofInt 1))))
def p_X9_moves (m : Rec) (c : Int32) (a : Int32) (l : Int32) (w : Int32) : Prop := (a = 0 → (vp_in c 36 ∧ ((((m.2 4) (Int32.toNatClampNeg c)) < l → (p_X9_moves_32 m w ((Int32.ofInt 0)))) ∧ (¬ (((m.2 4) (Int32.toNatClampNeg c)) < l) → (p_X9_moves_32 m w ((Int32.ofInt 1))))))) ∧ (¬ (a = 0) → (vp_in c 36 ∧ ((((m.2 5) (Int32.toNatClampNeg c)) < l → (p_X9_moves_32 m w ((Int32.ofInt 0)))) ∧ (¬ (((m.2 5) (Int32.toNatClampNeg c)) < l) → (p_X9_moves_32 m w ((Int32.ofInt 1)))))))
set_option maxHeartbeats 16000000 in
set_option maxRecDepth 20000 in
theorem s_X9_moves (m : Rec) (c : Int32) (a : Int32) (l : Int32) (w : Int32) (hp : p_X9_moves m c a l w) : Spec 0 0 0 mX9_moves [.ref 0, .int c, .int a, .int l, .int w] (wM m) (Ret (some (.int ((f_X9_moves m c a l w)))) (wM m)) := by
  obtain ⟨zq, hq⟩ : ∃ z, z = (f_X9_moves m c a l w) := ⟨_, rfl⟩
  rw [← hq]
  unfold f_X9_moves at hq
  unfold p_X9_moves at hp
  refine Sof fun sc => ?_
  refine g_blk hz0 kX9_moves_0 ?_
  refine ⟨fun c1 => ?_, fun c1 => ?_⟩
  · rw [if_neg (show ¬ (a = 0) from c1)] at hq
    replace hp := hp.2 c1
    refine g_blk hz0 kX9_moves_13 ?_
    refine ⟨hp.1, ?_⟩
    replace hp := hp.2
    refine g_blk hz0 kX9_moves_19 ?_
    refine ⟨fun c3 => ?_, fun c3 => ?_⟩
    · rw [if_pos (show ((m.2 5) (Int32.toNatClampNeg c)) < l from c3)] at hq
      replace hp := hp.1 c3
      refine g_blk hz0 kX9_moves_31 ?_
      refine g_le (L2 := [none, none, none, none, some (.int w), none]) ⟨rfl, trivial⟩ ?_
      exact l_X9_moves_32 sc m zq w ((Int32.ofInt 0)) hp hq
    · rw [if_neg (show ¬ (((m.2 5) (Int32.toNatClampNeg c)) < l) from c3)] at hq
      replace hp := hp.2 c3
      refine g_blk hz0 kX9_moves_27 ?_
      refine g_le (L2 := [none, none, none, none, some (.int w), none]) ⟨rfl, trivial⟩ ?_
      exact l_X9_moves_32 sc m zq w ((Int32.ofInt 1)) hp hq
  · rw [if_pos (show a = 0 from c1)] at hq
    replace hp := hp.1 c1
    refine g_blk hz0 kX9_moves_4 ?_
    refine ⟨hp.1, ?_⟩
    replace hp := hp.2
    refine g_blk hz0 kX9_moves_19 ?_
    refine ⟨fun c2 => ?_, fun c2 => ?_⟩
    · rw [if_pos (show ((m.2 4) (Int32.toNatClampNeg c)) < l from c2)] at hq
      replace hp := hp.1 c2
      refine g_blk hz0 kX9_moves_31 ?_
      refine g_le (L2 := [none, none, none, none, some (.int w), none]) ⟨rfl, trivial⟩ ?_
      exact l_X9_moves_32 sc m zq w ((Int32.ofInt 0)) hp hq
    · rw [if_neg (show ¬ (((m.2 4) (Int32.toNatClampNeg c)) < l) from c2)] at hq
      replace hp := hp.2 c2
      refine g_blk hz0 kX9_moves_27 ?_
      refine g_le (L2 := [none, none, none, none, some (.int w), none]) ⟨rfl, trivial⟩ ?_
      exact l_X9_moves_32 sc m zq w ((Int32.ofInt 1)) hp hq
