set_option maxHeartbeats 16000000 in
set_option maxRecDepth 20000 in
theorem l_X8_mixBoard_71 (sc : SC) (c : Rec) (s : Rec) (p : Rec) (t : Rec) (e : Rec) (o : Rec) (oh : Rec) (h : Rec) (k : Rec) (q : Rec) (s1 : Rec) (p1 : Rec) (s2 : Rec) (p2 : Rec) (t1 : Rec) (t2 : Rec)  (zq : Int64)  : ∀ (n : Nat)  (v3 : Int64) (v5 : Int32), p_X8_mixBoard_71 n c s p t e o oh h k q s1 p1 s2 p2 t1 t2 v3 v5 → zq = f_X8_mixBoard_71 n c s p t e o oh h k q s1 p1 s2 p2 t1 t2 v3 v5 → Good sc 2 0 0 112 mX8_mixBoard (Ret (some (.long (zq))) (wB c s p t e o oh h k q s1 p1 s2 p2 t1 t2)) 0 0 71 [some (.ref 0), none, none, some (.long v3), none, some (.int v5)] [] (wB c s p t e o oh h k q s1 p1 s2 p2 t1 t2) := by
  intro n
  induction n with
  | zero => intro v3 v5 hp; exact hp.elim
  | succ n ih =>
    intro v3 v5 hp hq
    unfold p_X8_mixBoard_71 at hp
    unfold f_X8_mixBoard_71 at hq
    refine g_blk hz0 kX8_mixBoard_71 ?_
    refine ⟨fun c3 => ?_, fun c3 => ?_⟩
    · rw [if_pos (show (p.1 5) ≤ v5 from c3)] at hq
      refine g_blk hz0 kX8_mixBoard_149 ?_
      subst hq
      exact ⟨rfl, rfl⟩
    · rw [if_neg (show ¬ ((p.1 5) ≤ v5) from c3)] at hq
      replace hp := hp.2 c3
      refine g_blk hz0 kX8_mixBoard_83 ?_
      refine ⟨hp.1, ?_⟩
      replace hp := hp.2
      refine cS0 (s_X8_mix v3 ((p.2 1) (Int32.toNatClampNeg v5))) rfl cwX8_mix dX8_mixBoard_94 rfl ?_
      refine g_blk hz0 kX8_mixBoard_97 ?_
      refine ⟨hp.1, ?_⟩
      replace hp := hp.2
      refine cS0 (s_X8_mix (f_X8_mix v3 ((p.2 1) (Int32.toNatClampNeg v5))) ((p.2 2) (Int32.toNatClampNeg v5))) rfl cwX8_mix dX8_mixBoard_109 rfl ?_
      refine g_blk hz0 kX8_mixBoard_112 ?_
      refine ⟨hp.1, ?_⟩
      replace hp := hp.2
      refine cS0 (s_X8_mix (f_X8_mix (f_X8_mix v3 ((p.2 1) (Int32.toNatClampNeg v5))) ((p.2 2) (Int32.toNatClampNeg v5))) ((p.2 3) (Int32.toNatClampNeg v5))) rfl cwX8_mix dX8_mixBoard_124 rfl ?_
      refine g_blk hz0 kX8_mixBoard_127 ?_
      refine ⟨hp.1, ?_⟩
      replace hp := hp.2
      refine cS0 (s_X8_mix (f_X8_mix (f_X8_mix (f_X8_mix v3 ((p.2 1) (Int32.toNatClampNeg v5))) ((p.2 2) (Int32.toNatClampNeg v5))) ((p.2 3) (Int32.toNatClampNeg v5))) ((p.2 4) (Int32.toNatClampNeg v5))) rfl cwX8_mix dX8_mixBoard_139 rfl ?_
      refine g_blk hz0 kX8_mixBoard_142 ?_
      refine g_le (L2 := [some (.ref 0), none, none, some (.long (f_X8_mix (f_X8_mix (f_X8_mix (f_X8_mix v3 ((p.2 1) (Int32.toNatClampNeg v5))) ((p.2 2) (Int32.toNatClampNeg v5))) ((p.2 3) (Int32.toNatClampNeg v5))) ((p.2 4) (Int32.toNatClampNeg v5)))), none, some (.int (v5 + (Int32.ofInt 1)))]) ⟨rfl, rfl, rfl, trivial⟩ ?_
      exact ih (f_X8_mix (f_X8_mix (f_X8_mix (f_X8_mix v3 ((p.2 1) (Int32.toNatClampNeg v5))) ((p.2 2) (Int32.toNatClampNeg v5))) ((p.2 3) (Int32.toNatClampNeg v5))) ((p.2 4) (Int32.toNatClampNeg v5))) (v5 + (Int32.ofInt 1)) hp hq
set_option maxHeartbeats 16000000 in
set_option maxRecDepth 20000 in
theorem l_X8_mixBoard_33 (sc : SC) (c : Rec) (s : Rec) (p : Rec) (t : Rec) (e : Rec) (o : Rec) (oh : Rec) (h : Rec) (k : Rec) (q : Rec) (s1 : Rec) (p1 : Rec) (s2 : Rec) (p2 : Rec) (t1 : Rec) (t2 : Rec)  (zq : Int64)  : ∀ (n : Nat)  (v3 : Int64) (v5 : Int32), p_X8_mixBoard_33 n c s p t e o oh h k q s1 p1 s2 p2 t1 t2 v3 v5 → zq = f_X8_mixBoard_33 n c s p t e o oh h k q s1 p1 s2 p2 t1 t2 v3 v5 → Good sc 2 0 0 112 mX8_mixBoard (Ret (some (.long (zq))) (wB c s p t e o oh h k q s1 p1 s2 p2 t1 t2)) 0 0 33 [some (.ref 0), none, none, some (.long v3), none, some (.int v5)] [] (wB c s p t e o oh h k q s1 p1 s2 p2 t1 t2) := by
  intro n
  induction n with
  | zero => intro v3 v5 hp; exact hp.elim
  | succ n ih =>
    intro v3 v5 hp hq
    unfold p_X8_mixBoard_33 at hp
    unfold f_X8_mixBoard_33 at hq
    refine g_blk hz0 kX8_mixBoard_33 ?_
    refine ⟨fun c1 => ?_, fun c1 => ?_⟩
    · rw [if_pos (show (Int32.ofInt 36) ≤ v5 from c1)] at hq
      replace hp := hp.1 c1
      refine g_blk hz0 kX8_mixBoard_68 ?_
      refine g_le (L2 := [some (.ref 0), none, none, some (.long v3), none, some (.int (Int32.ofInt 0))]) ⟨rfl, rfl, rfl, trivial⟩ ?_
      exact l_X8_mixBoard_71 sc c s p t e o oh h k q s1 p1 s2 p2 t1 t2 zq 40 v3 ((Int32.ofInt 0)) hp hq
    · rw [if_neg (show ¬ ((Int32.ofInt 36) ≤ v5) from c1)] at hq
      replace hp := hp.2 c1
      refine g_blk hz0 kX8_mixBoard_40 ?_
      refine cVp [2, 3, 4, 5, 6, 7, 8] (wS s) (s_X4_has s v5 hp.1) rfl cwX4_has dX8_mixBoard_49 rfl rfl (hm67_B_S _ _ _ _ _ _ _ _ _ _ _ _ _ _ _ _) ?_
      replace hp := hp.2
      refine g_blk hz0 kX8_mixBoard_52 ?_
      refine ⟨fun c2 => ?_, fun c2 => ?_⟩
      · rw [if_pos (show (f_X4_has s v5) = 0 from c2)] at hq
        replace hp := hp.1 c2
        refine g_blk hz0 kX8_mixBoard_62 ?_
        refine g_le (L2 := [some (.ref 0), none, none, some (.long v3), none, some (.int (v5 + (Int32.ofInt 1)))]) ⟨rfl, rfl, rfl, trivial⟩ ?_
        exact ih v3 (v5 + (Int32.ofInt 1)) hp hq
      · rw [if_neg (show ¬ ((f_X4_has s v5) = 0) from c2)] at hq
        replace hp := hp.2 c2
        refine g_blk hz0 kX8_mixBoard_55 ?_
        refine cS0 (s_X8_mix v3 v5) rfl cwX8_mix dX8_mixBoard_58 rfl ?_
        refine g_blk hz0 kX8_mixBoard_61 ?_
        refine g_blk hz0 kX8_mixBoard_62 ?_
        refine g_le (L2 := [some (.ref 0), none, none, some (.long (f_X8_mix v3 v5)), none, some (.int (v5 + (Int32.ofInt 1)))]) ⟨rfl, rfl, rfl, trivial⟩ ?_
        exact ih (f_X8_mix v3 v5) (v5 + (Int32.ofInt 1)) hp hq
set_option maxHeartbeats 16000000 in
set_option maxRecDepth 20000 in
theorem s_X8_mixBoard (c : Rec) (s : Rec) (p : Rec) (t : Rec) (e : Rec) (o : Rec) (oh : Rec) (h : Rec) (k : Rec) (q : Rec) (s1 : Rec) (p1 : Rec) (s2 : Rec) (p2 : Rec) (t1 : Rec) (t2 : Rec) (v : Int64) (hp : p_X8_mixBoard c s p t e o oh h k q s1 p1 s2 p2 t1 t2 v) : Spec 2 0 0 mX8_mixBoard [.ref 0, .long v] (wB c s p t e o oh h k q s1 p1 s2 p2 t1 t2) (Ret (some (.long ((f_X8_mixBoard c s p t e o oh h k q s1 p1 s2 p2 t1 t2 v)))) (wB c s p t e o oh h k q s1 p1 s2 p2 t1 t2)) := by
  obtain ⟨zq, hq⟩ : ∃ z, z = (f_X8_mixBoard c s p t e o oh h k q s1 p1 s2 p2 t1 t2 v) := ⟨_, rfl⟩
  rw [← hq]
  unfold f_X8_mixBoard at hq
  unfold p_X8_mixBoard at hp
  refine Sof fun sc => ?_
  refine g_blk hz0 kX8_mixBoard_0 ?_
  refine cS0 (s_X8_mix v (s.1 0)) rfl cwX8_mix dX8_mixBoard_11 rfl ?_
  refine g_blk hz0 kX8_mixBoard_14 ?_
  refine cS0 (s_X8_mix (f_X8_mix v (s.1 0)) (s.1 1)) rfl cwX8_mix dX8_mixBoard_26 rfl ?_
  refine g_blk hz0 kX8_mixBoard_29 ?_
  refine g_le (L2 := [some (.ref 0), none, none, some (.long (f_X8_mix (f_X8_mix v (s.1 0)) (s.1 1))), none, some (.int (Int32.ofInt 0))]) ⟨rfl, rfl, rfl, trivial⟩ ?_
  exact l_X8_mixBoard_33 sc c s p t e o oh h k q s1 p1 s2 p2 t1 t2 zq 40 (f_X8_mix (f_X8_mix v (s.1 0)) (s.1 1)) ((Int32.ofInt 0)) hp hq
