set_option maxHeartbeats 16000000 in
theorem pw99_B_B (c : Rec) (s : Rec) (p : Rec) (t : Rec) (e : Rec) (o : Rec) (oh : Rec) (h : Rec) (k : Rec) (q : Rec) (s1 : Rec) (p1 : Rec) (s2 : Rec) (p2 : Rec) (t1 : Rec) (t2 : Rec)  : putW (wB c s p t e o oh h k q s1 p1 s2 p2 t1 t2) [0, 1, 2, 3, 4, 5, 6, 7, 8, 9, 10, 11, 12, 13, 14, 15, 16, 17, 18, 19, 20, 21, 22, 23, 24, 25, 26, 27, 28, 29, 30, 31, 32, 33, 34, 35, 36, 37, 38, 39, 40, 41, 42, 43, 44, 45, 46, 47, 48, 49, 50, 51, 52, 53, 54, 55, 56, 57, 58, 59, 60, 61, 62, 63, 64, 65, 66, 67, 68, 69, 70, 71, 72, 73, 74, 75, 76, 77, 78, 79, 80, 81, 82, 83, 84, 85, 86, 87, 88, 89, 90, 91, 92, 93, 94, 95, 96, 97, 98, 99, 100, 101, 102, 103, 104, 105, 106, 107, 108, 109, 110, 111] ((wB c s p t e o oh h k q s1 p1 s2 p2 t1 t2).map (ren [0, 1, 2, 3, 4, 5, 6, 7, 8, 9, 10, 11, 12, 13, 14, 15, 16, 17, 18, 19, 20, 21, 22, 23, 24, 25, 26, 27, 28, 29, 30, 31, 32, 33, 34, 35, 36, 37, 38, 39, 40, 41, 42, 43, 44, 45, 46, 47, 48, 49, 50, 51, 52, 53, 54, 55, 56, 57, 58, 59, 60, 61, 62, 63, 64, 65, 66, 67, 68, 69, 70, 71, 72, 73, 74, 75, 76, 77, 78, 79, 80, 81, 82, 83, 84, 85, 86, 87, 88, 89, 90, 91, 92, 93, 94, 95, 96, 97, 98, 99, 100, 101, 102, 103, 104, 105, 106, 107, 108, 109, 110, 111])) = (wB c s p t e o oh h k q s1 p1 s2 p2 t1 t2) := putW_same (by decide) (hm63_B_B c s p t e o oh h k q s1 p1 s2 p2 t1 t2)
set_option maxHeartbeats 16000000 in
set_option maxRecDepth 20000 in
theorem l_X8_digest_152 (sc : SC) (c : Rec) (s : Rec) (p : Rec) (t : Rec) (e : Rec) (o : Rec) (oh : Rec) (h : Rec) (k : Rec) (q : Rec) (s1 : Rec) (p1 : Rec) (s2 : Rec) (p2 : Rec) (t1 : Rec) (t2 : Rec)  (zq : Int64)  : ∀ (n : Nat)  (v1 : Int64) (v3 : Int32), p_X8_digest_152 n c s p t e o oh h k q s1 p1 s2 p2 t1 t2 v1 v3 → zq = f_X8_digest_152 n c s p t e o oh h k q s1 p1 s2 p2 t1 t2 v1 v3 → Good sc 3 0 0 112 mX8_digest (Ret (some (.long (zq))) (wB c s p t e o oh h k q s1 p1 s2 p2 t1 t2)) 0 0 152 [some (.ref 0), some (.long v1), none, some (.int v3)] [] (wB c s p t e o oh h k q s1 p1 s2 p2 t1 t2) := by
  intro n
  induction n with
  | zero => intro v1 v3 hp; exact hp.elim
  | succ n ih =>
    intro v1 v3 hp hq
    unfold p_X8_digest_152 at hp
    unfold f_X8_digest_152 at hq
    refine g_blk hz0 kX8_digest_152 ?_
    refine ⟨fun c2 => ?_, fun c2 => ?_⟩
    · rw [if_pos (show (e.1 2) ≤ v3 from c2)] at hq
      refine g_blk hz0 kX8_digest_183 ?_
      subst hq
      exact ⟨rfl, rfl⟩
    · rw [if_neg (show ¬ ((e.1 2) ≤ v3) from c2)] at hq
      replace hp := hp.2 c2
      refine g_blk hz0 kX8_digest_163 ?_
      refine ⟨hp.1, ?_⟩
      replace hp := hp.2
      refine cS0 (s_X8_mix v1 ((e.2 0) (Int32.toNatClampNeg v3))) rfl cwX8_mix dX8_digest_173 rfl ?_
      refine g_blk hz0 kX8_digest_176 ?_
      refine g_le (L2 := [some (.ref 0), some (.long (f_X8_mix v1 ((e.2 0) (Int32.toNatClampNeg v3)))), none, some (.int (v3 + (Int32.ofInt 1)))]) ⟨rfl, rfl, rfl, trivial⟩ ?_
      exact ih (f_X8_mix v1 ((e.2 0) (Int32.toNatClampNeg v3))) (v3 + (Int32.ofInt 1)) hp hq
set_option maxHeartbeats 16000000 in
set_option maxRecDepth 20000 in
theorem l_X8_digest_111 (sc : SC) (c : Rec) (s : Rec) (p : Rec) (t : Rec) (e : Rec) (o : Rec) (oh : Rec) (h : Rec) (k : Rec) (q : Rec) (s1 : Rec) (p1 : Rec) (s2 : Rec) (p2 : Rec) (t1 : Rec) (t2 : Rec)  (zq : Int64)  : ∀ (n : Nat)  (v1 : Int64) (v3 : Int32), p_X8_digest_111 n c s p t e o oh h k q s1 p1 s2 p2 t1 t2 v1 v3 → zq = f_X8_digest_111 n c s p t e o oh h k q s1 p1 s2 p2 t1 t2 v1 v3 → Good sc 3 0 0 112 mX8_digest (Ret (some (.long (zq))) (wB c s p t e o oh h k q s1 p1 s2 p2 t1 t2)) 0 0 111 [some (.ref 0), some (.long v1), none, some (.int v3)] [] (wB c s p t e o oh h k q s1 p1 s2 p2 t1 t2) := by
  intro n
  induction n with
  | zero => intro v1 v3 hp; exact hp.elim
  | succ n ih =>
    intro v1 v3 hp hq
    unfold p_X8_digest_111 at hp
    unfold f_X8_digest_111 at hq
    refine g_blk hz0 kX8_digest_111 ?_
    refine ⟨fun c1 => ?_, fun c1 => ?_⟩
    · rw [if_pos (show ((Int32.ofInt 3) * (s.1 2)) ≤ v3 from c1)] at hq
      replace hp := hp.1 c1
      refine g_blk hz0 kX8_digest_150 ?_
      refine g_le (L2 := [some (.ref 0), some (.long v1), none, some (.int (Int32.ofInt 0))]) ⟨rfl, rfl, rfl, trivial⟩ ?_
      exact l_X8_digest_152 sc c s p t e o oh h k q s1 p1 s2 p2 t1 t2 zq 300 v1 ((Int32.ofInt 0)) hp hq
    · rw [if_neg (show ¬ (((Int32.ofInt 3) * (s.1 2)) ≤ v3) from c1)] at hq
      replace hp := hp.2 c1
      refine g_blk hz0 kX8_digest_127 ?_
      refine ⟨hp.1, ?_⟩
      replace hp := hp.2
      refine cS0 (s_X8_mix v1 ((s.2 13) (Int32.toNatClampNeg v3))) rfl cwX8_mix dX8_digest_140 rfl ?_
      refine g_blk hz0 kX8_digest_143 ?_
      refine g_le (L2 := [some (.ref 0), some (.long (f_X8_mix v1 ((s.2 13) (Int32.toNatClampNeg v3)))), none, some (.int (v3 + (Int32.ofInt 1)))]) ⟨rfl, rfl, rfl, trivial⟩ ?_
      exact ih (f_X8_mix v1 ((s.2 13) (Int32.toNatClampNeg v3))) (v3 + (Int32.ofInt 1)) hp hq
set_option maxHeartbeats 16000000 in
set_option maxRecDepth 20000 in
theorem s_X8_digest (c : Rec) (s : Rec) (p : Rec) (t : Rec) (e : Rec) (o : Rec) (oh : Rec) (h : Rec) (k : Rec) (q : Rec) (s1 : Rec) (p1 : Rec) (s2 : Rec) (p2 : Rec) (t1 : Rec) (t2 : Rec)  (hp : p_X8_digest c s p t e o oh h k q s1 p1 s2 p2 t1 t2) : Spec 3 0 0 mX8_digest [.ref 0] (wB c s p t e o oh h k q s1 p1 s2 p2 t1 t2) (Ret (some (.long ((f_X8_digest c s p t e o oh h k q s1 p1 s2 p2 t1 t2)))) (wB c s p t e o oh h k q s1 p1 s2 p2 t1 t2)) := by
  obtain ⟨zq, hq⟩ : ∃ z, z = (f_X8_digest c s p t e o oh h k q s1 p1 s2 p2 t1 t2) := ⟨_, rfl⟩
  rw [← hq]
  unfold f_X8_digest at hq
  unfold p_X8_digest at hp
  refine Sof fun sc => ?_
  refine g_blk hz0 kX8_digest_0 ?_
  refine cVp [2, 3, 4, 5, 6, 7, 8] (wS s) (s_X4_howMany s hp.1) rfl cwX4_howMany dX8_digest_12 rfl rfl (hm67_B_S _ _ _ _ _ _ _ _ _ _ _ _ _ _ _ _) ?_
  replace hp := hp.2
  refine cS0 (s_X8_mix 653 (f_X4_howMany s)) rfl cwX8_mix dX8_digest_15 rfl ?_
  refine g_blk hz0 kX8_digest_18 ?_
  refine cS0 (s_X8_mix (f_X8_mix 653 (f_X4_howMany s)) (p.1 5)) rfl cwX8_mix dX8_digest_27 rfl ?_
  refine g_blk hz0 kX8_digest_30 ?_
  refine cS0 (s_X8_mix (f_X8_mix (f_X8_mix 653 (f_X4_howMany s)) (p.1 5)) (e.1 2)) rfl cwX8_mix dX8_digest_39 rfl ?_
  refine g_blk hz0 kX8_digest_42 ?_
  refine cS0 (s_X8_mix (f_X8_mix (f_X8_mix (f_X8_mix 653 (f_X4_howMany s)) (p.1 5)) (e.1 2)) (t.1 2)) rfl cwX8_mix dX8_digest_51 rfl ?_
  refine g_blk hz0 kX8_digest_54 ?_
  refine cVp [0, 1, 2, 3, 4, 5, 6, 7, 8, 9, 10, 11, 12, 13, 14, 15, 16, 17, 18, 19, 20, 21, 22, 23, 24, 25, 26, 27, 28, 29, 30, 31, 32, 33, 34, 35, 36, 37, 38, 39, 40, 41, 42, 43, 44, 45, 46, 47, 48, 49, 50, 51, 52, 53, 54, 55, 56, 57, 58, 59, 60, 61, 62, 63, 64, 65, 66, 67, 68, 69, 70, 71, 72, 73, 74, 75, 76, 77, 78, 79, 80, 81, 82, 83, 84, 85, 86, 87, 88, 89, 90, 91, 92, 93, 94, 95, 96, 97, 98, 99, 100, 101, 102, 103, 104, 105, 106, 107, 108, 109, 110, 111] (wB c s p t e o oh h k q s1 p1 s2 p2 t1 t2) (s_X8_mixBoard c s p t e o oh h k q s1 p1 s2 p2 t1 t2 (f_X8_mix (f_X8_mix (f_X8_mix (f_X8_mix 653 (f_X4_howMany s)) (p.1 5)) (e.1 2)) (t.1 2)) hp.1) rfl cwX8_mixBoard dX8_digest_57 rfl rfl (hm63_B_B _ _ _ _ _ _ _ _ _ _ _ _ _ _ _ _) ?_
  replace hp := hp.2
  refine g_blk hz0 kX8_digest_60 ?_
  refine cS0 (s_X8_mix (f_X8_mixBoard c s p t e o oh h k q s1 p1 s2 p2 t1 t2 (f_X8_mix (f_X8_mix (f_X8_mix (f_X8_mix 653 (f_X4_howMany s)) (p.1 5)) (e.1 2)) (t.1 2))) (p.1 8)) rfl cwX8_mix dX8_digest_69 rfl ?_
  refine g_blk hz0 kX8_digest_72 ?_
  refine cS0 (s_X8_mix (f_X8_mix (f_X8_mixBoard c s p t e o oh h k q s1 p1 s2 p2 t1 t2 (f_X8_mix (f_X8_mix (f_X8_mix (f_X8_mix 653 (f_X4_howMany s)) (p.1 5)) (e.1 2)) (t.1 2))) (p.1 8)) (p.1 9)) rfl cwX8_mix dX8_digest_81 rfl ?_
  refine g_blk hz0 kX8_digest_84 ?_
  refine cS0 (s_X8_mix (f_X8_mix (f_X8_mix (f_X8_mixBoard c s p t e o oh h k q s1 p1 s2 p2 t1 t2 (f_X8_mix (f_X8_mix (f_X8_mix (f_X8_mix 653 (f_X4_howMany s)) (p.1 5)) (e.1 2)) (t.1 2))) (p.1 8)) (p.1 9)) (p.1 6)) rfl cwX8_mix dX8_digest_93 rfl ?_
  refine g_blk hz0 kX8_digest_96 ?_
  refine cS0 (s_X8_mix (f_X8_mix (f_X8_mix (f_X8_mix (f_X8_mixBoard c s p t e o oh h k q s1 p1 s2 p2 t1 t2 (f_X8_mix (f_X8_mix (f_X8_mix (f_X8_mix 653 (f_X4_howMany s)) (p.1 5)) (e.1 2)) (t.1 2))) (p.1 8)) (p.1 9)) (p.1 6)) (p.1 7)) rfl cwX8_mix dX8_digest_105 rfl ?_
  refine g_blk hz0 kX8_digest_108 ?_
  refine g_le (L2 := [some (.ref 0), some (.long (f_X8_mix (f_X8_mix (f_X8_mix (f_X8_mix (f_X8_mixBoard c s p t e o oh h k q s1 p1 s2 p2 t1 t2 (f_X8_mix (f_X8_mix (f_X8_mix (f_X8_mix 653 (f_X4_howMany s)) (p.1 5)) (e.1 2)) (t.1 2))) (p.1 8)) (p.1 9)) (p.1 6)) (p.1 7))), none, some (.int (Int32.ofInt 0))]) ⟨rfl, rfl, rfl, trivial⟩ ?_
  exact l_X8_digest_111 sc c s p t e o oh h k q s1 p1 s2 p2 t1 t2 zq 300 (f_X8_mix (f_X8_mix (f_X8_mix (f_X8_mix (f_X8_mixBoard c s p t e o oh h k q s1 p1 s2 p2 t1 t2 (f_X8_mix (f_X8_mix (f_X8_mix (f_X8_mix 653 (f_X4_howMany s)) (p.1 5)) (e.1 2)) (t.1 2))) (p.1 8)) (p.1 9)) (p.1 6)) (p.1 7)) ((Int32.ofInt 0)) hp hq
