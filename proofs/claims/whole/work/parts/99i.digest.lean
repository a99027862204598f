set_option maxHeartbeats 16000000 in
set_option maxRecDepth 20000 in
theorem l_X8_digest_152 (sc : SC) (c : Rec) (s : Rec) (p : Rec) (t : Rec) (e : Rec) (o : Rec) (oh : Rec) (h : Rec) (k : Rec) (q : Rec) (s1 : Rec) (p1 : Rec) (s2 : Rec) (p2 : Rec) (t1 : Rec) (t2 : Rec)  (zq : Int64)  : ∀ (n : Nat)  (v1 : Int64) (v3 : Int32), p_X8_digest_152 n c s p t e o oh h k q s1 p1 s2 p2 t1 t2 v1 v3 → zq = f_X8_digest_152 n c s p t e o oh h k q s1 p1 s2 p2 t1 t2 v1 v3 → Good sc 3 0 0 112 mX8_digest (Ret (some (.long (zq))) (wB c s p t e o oh h k q s1 p1 s2 p2 t1 t2)) 0 0 152 [some (.ref 0), some (.long v1), none, some (.int v3)] [] (wB c s p t e o oh h k q s1 p1 s2 p2 t1 t2) := by
  intro n
  induction n with
  | zero => intro v1 v3 hp; exact hp.elim
  | succ n ih =>
    intro v1 v3 hp hq
    unfold p_X8_digest_152 at hp
    unfold f_X8_digest_152 at hq
    refine g_blk hz0 kX8_digest_152 ?_
    refine ⟨fun c2 => ?_, fun c2 => ?_⟩
    · rw [if_pos (show (e.1 2) ≤ v3 from c2)] at hq
      refine g_blk hz0 kX8_digest_183 ?_
      subst hq
      exact ⟨rfl, rfl⟩
    · rw [if_neg (show ¬ ((e.1 2) ≤ v3) from c2)] at hq
      replace hp := hp.2 c2
      refine g_blk hz0 kX8_digest_163 ?_
      refine ⟨hp.1, ?_⟩
      replace hp := hp.2
      refine cS0 (s_X8_mix v1 ((e.2 0) (Int32.toNatClampNeg v3))) rfl cwX8_mix dX8_digest_173 rfl ?_
      refine g_blk hz0 kX8_digest_176 ?_
      refine g_le (L2 := [some (.ref 0), some (.long (f_X8_mix v1 ((e.2 0) (Int32.toNatClampNeg v3)))), none, some (.int (v3 + (Int32.ofInt 1)))]) ⟨rfl, rfl, rfl, trivial⟩ ?_
      exact ih (f_X8_mix v1 ((e.2 0) (Int32.toNatClampNeg v3))) (v3 + (Int32.ofInt 1)) hp hq
set_option maxHeartbeats 16000000 in
set_option maxRecDepth 20000 in
theorem l_X8_digest_111 (sc : SC) (c : Rec) (s : Rec) (p : Rec) (t : Rec) (e : Rec) (o : Rec) (oh : Rec) (h : Rec) (k : Rec) (q : Rec) (s1 : Rec) (p1 : Rec) (s2 : Rec) (p2 : Rec) (t1 : Rec) (t2 : Rec)  (zq : Int64)  : ∀ (n : Nat)  (v1 : Int64) (v3 : Int32), p_X8_digest_111 n c s p t e o oh h k q s1 p1 s2 p2 t1 t2 v1 v3 → zq = f_X8_digest_111 n c s p t e o oh h k q s1 p1 s2 p2 t1 t2 v1 v3 → Good sc 3 0 0 112 mX8_digest (Ret (some (.long (zq))) (wB c s p t e o oh h k q s1 p1 s2 p2 t1 t2)) 0 0 111 [some (.ref 0), some (.long v1), none, some (.int v3)] [] (wB c s p t e o oh h k q s1 p1 s2 p2 t1 t2) := by
  intro n
  induction n with
  | zero => intro v1 v3 hp; exact hp.elim
  | succ n ih =>
    intro v1 v3 hp hq
    unfold p_X8_digest_111 at hp
    unfold f_X8_digest_111 at hq
    refine g_blk hz0 kX8_digest_111 ?_
    refine ⟨fun c1 => ?_, fun c1 => ?_⟩
    · rw [if_pos (show ((Int32.ofInt 3) * (s.1 2)) ≤ v3 from c1)] at hq
      replace hp := hp.1 c1
      refine g_blk hz0 kX8_digest_150 ?_
      refine g_le (L2 := [some (.ref 0), some (.long v1), none, some (.int (Int32.ofInt 0))]) ⟨rfl, rfl, rfl, trivial⟩ ?_
      exact l_X8_digest_152 sc c s p t e o oh h k q s1 p1 s2 p2 t1 t2 zq 300 v1 ((Int32.ofInt 0)) hp hq
    · rw [if_neg (show ¬ (((Int32.ofInt 3) * (s.1 2)) ≤ v3) from c1)] at hq
      replace hp := hp.2 c1
      refine g_blk hz0 kX8_digest_127 ?_
      refine ⟨hp.1, ?_⟩
      replace hp := hp.2
      refine cS0 (s_X8_mix v1 ((s.2 13) (Int32.toNatClampNeg v3))) rfl cwX8_mix dX8_digest_140 rfl ?_
      refine g_blk hz0 kX8_digest_143 ?_
      refine g_le (L2 := [some (.ref 0), some (.long (f_X8_mix v1 ((s.2 13) (Int32.toNatClampNeg v3)))), none, some (.int (v3 + (Int32.ofInt 1)))]) ⟨rfl, rfl, rfl, trivial⟩ ?_
      exact ih (f_X8_mix v1 ((s.2 13) (Int32.toNatClampNeg v3))) (v3 + (Int32.ofInt 1)) hp hq
theorem cVpL {sc : SC} {d mc ms n0 : Nat} {mi : MI} {P : Pst} {kc ks : Nat} {pc : Nat} {L : List (Option Value)} {st : List Value} {w : List va_E} {i k n d1 : Nat} {mi1 : MI} {fs : List Value} {y x : Int64} (sl : List Nat) (w1 : List va_E) (a0 : Nat) (r : List Value) (hs : Spec d1 0 0 mi1 [.ref 0, .long y] w1 (Ret (some (.long x)) w1)) (hz : mzl (mz mi.1) i = some (mi1, k, n)) (hcode : Cond.code mi1.2.1 mi1.2.2.1 mi1.2.2.2.1 mi1.2.2.2.2 ∈ gw) (hd : decode mi.2.2.1 pc = .ok (.invokevirtual i, 3)) (ha0 : sg sl 0 = a0) (hw1 : lk w1 0 = some (.inr (mi1.1, fs))) (hmap : sl.map (lk w) = w1.map (fun e => some (ren sl e))) (hst : st = .long y :: .ref a0 :: r) (kk : Good sc d mc ms n0 mi P kc ks (pc + 3) L (.long x :: r) w)
    (ho : ownS mi.1 = mi.2.1.cls := by rfl) (hk : k = 0 ∨ k = 3 := by decide) (hd1 : d1 < d := by decide) (hkc : kc ≤ mc ∧ ks ≤ ms := by exact hz0) (hsl : va_nd sl = true := by decide) (hl1 : w1.length ≤ 1000 := by exact Nat.le_of_ble_eq_true rfl) (hn : 1 = n := by rfl) (hr : catS r ≤ 8 := by exact Nat.le_of_ble_eq_true rfl) : Good sc d mc ms n0 mi P kc ks pc L st w := by
  subst ha0
  exact cVp (av := [.long y]) (x := .long x) (q1 := 0) (r := r) sl w1 hs hz hcode hd hst hw1 hmap kk ho hk hd1 hkc hsl hl1 (by decide) hn hr
set_option maxHeartbeats 16000000 in
set_option maxRecDepth 20000 in
theorem s_X8_digest (c : Rec) (s : Rec) (p : Rec) (t : Rec) (e : Rec) (o : Rec) (oh : Rec) (h : Rec) (k : Rec) (q : Rec) (s1 : Rec) (p1 : Rec) (s2 : Rec) (p2 : Rec) (t1 : Rec) (t2 : Rec)  (hp : p_X8_digest c s p t e o oh h k q s1 p1 s2 p2 t1 t2) : Spec 3 0 0 mX8_digest [.ref 0] (wB c s p t e o oh h k q s1 p1 s2 p2 t1 t2) (Ret (some (.long ((f_X8_digest c s p t e o oh h k q s1 p1 s2 p2 t1 t2)))) (wB c s p t e o oh h k q s1 p1 s2 p2 t1 t2)) := by
  obtain ⟨zq, hq⟩ : ∃ z, z = (f_X8_digest c s p t e o oh h k q s1 p1 s2 p2 t1 t2) := ⟨_, rfl⟩
  rw [← hq]
  unfold f_X8_digest at hq
  unfold p_X8_digest at hp
  obtain ⟨d1, hd1⟩ : ∃ z, z = (f_X8_mix (653 : Int64) (f_X4_howMany s)) := ⟨_, rfl⟩
  rw [← hd1] at hq hp
  have e1 : Spec 0 0 0 mX8_mix [.long (653 : Int64), .int (f_X4_howMany s)] [] (Ret (some (.long d1)) []) := by rw [hd1]; exact s_X8_mix _ _
  obtain ⟨d2, hd2⟩ : ∃ z, z = (f_X8_mix d1 (p.1 5)) := ⟨_, rfl⟩
  rw [← hd2] at hq hp
  have e2 : Spec 0 0 0 mX8_mix [.long d1, .int (p.1 5)] [] (Ret (some (.long d2)) []) := by rw [hd2]; exact s_X8_mix _ _
  obtain ⟨d3, hd3⟩ : ∃ z, z = (f_X8_mix d2 (e.1 2)) := ⟨_, rfl⟩
  rw [← hd3] at hq hp
  have e3 : Spec 0 0 0 mX8_mix [.long d2, .int (e.1 2)] [] (Ret (some (.long d3)) []) := by rw [hd3]; exact s_X8_mix _ _
  obtain ⟨d4, hd4⟩ : ∃ z, z = (f_X8_mix d3 (t.1 2)) := ⟨_, rfl⟩
  rw [← hd4] at hq hp
  have e4 : Spec 0 0 0 mX8_mix [.long d3, .int (t.1 2)] [] (Ret (some (.long d4)) []) := by rw [hd4]; exact s_X8_mix _ _
  obtain ⟨d5, hd5⟩ : ∃ z, z = (f_X8_mixBoard c s p t e o oh h k q s1 p1 s2 p2 t1 t2 d4) := ⟨_, rfl⟩
  rw [← hd5] at hq hp
  have e5 : p_X8_mixBoard c s p t e o oh h k q s1 p1 s2 p2 t1 t2 d4 → Spec 2 0 0 mX8_mixBoard [.ref 0, .long d4] (wB c s p t e o oh h k q s1 p1 s2 p2 t1 t2) (Ret (some (.long d5)) (wB c s p t e o oh h k q s1 p1 s2 p2 t1 t2)) := by intro h0; rw [hd5]; exact s_X8_mixBoard _ _ _ _ _ _ _ _ _ _ _ _ _ _ _ _ _ h0
  obtain ⟨d6, hd6⟩ : ∃ z, z = (f_X8_mix d5 (p.1 8)) := ⟨_, rfl⟩
  rw [← hd6] at hq hp
  have e6 : Spec 0 0 0 mX8_mix [.long d5, .int (p.1 8)] [] (Ret (some (.long d6)) []) := by rw [hd6]; exact s_X8_mix _ _
  obtain ⟨d7, hd7⟩ : ∃ z, z = (f_X8_mix d6 (p.1 9)) := ⟨_, rfl⟩
  rw [← hd7] at hq hp
  have e7 : Spec 0 0 0 mX8_mix [.long d6, .int (p.1 9)] [] (Ret (some (.long d7)) []) := by rw [hd7]; exact s_X8_mix _ _
  obtain ⟨d8, hd8⟩ : ∃ z, z = (f_X8_mix d7 (p.1 6)) := ⟨_, rfl⟩
  rw [← hd8] at hq hp
  have e8 : Spec 0 0 0 mX8_mix [.long d7, .int (p.1 6)] [] (Ret (some (.long d8)) []) := by rw [hd8]; exact s_X8_mix _ _
  obtain ⟨d9, hd9⟩ : ∃ z, z = (f_X8_mix d8 (p.1 7)) := ⟨_, rfl⟩
  rw [← hd9] at hq hp
  have e9 : Spec 0 0 0 mX8_mix [.long d8, .int (p.1 7)] [] (Ret (some (.long d9)) []) := by rw [hd9]; exact s_X8_mix _ _
  clear hd1 hd2 hd3 hd4 hd5 hd6 hd7 hd8 hd9
  refine Sof fun sc => ?_
  refine g_blk hz0 kX8_digest_0 ?_
  refine cVp [2, 3, 4, 5, 6, 7, 8] (wS s) (s_X4_howMany s hp.1) rfl cwX4_howMany dX8_digest_12 rfl rfl (hm67_B_S _ _ _ _ _ _ _ _ _ _ _ _ _ _ _ _) ?_
  replace hp := hp.2
  refine cS0 e1 rfl cwX8_mix dX8_digest_15 rfl ?_
  refine g_blk hz0 kX8_digest_18 ?_
  refine g_le (L2 := [some (.ref 0), some (.long d1), none, none]) ⟨rfl, rfl, trivial⟩ ?_
  refine cS0 e2 rfl cwX8_mix dX8_digest_27 rfl ?_
  refine g_blk hz0 kX8_digest_30 ?_
  refine g_le (L2 := [some (.ref 0), some (.long d2), none, none]) ⟨rfl, rfl, trivial⟩ ?_
  refine cS0 e3 rfl cwX8_mix dX8_digest_39 rfl ?_
  refine g_blk hz0 kX8_digest_42 ?_
  refine g_le (L2 := [some (.ref 0), some (.long d3), none, none]) ⟨rfl, rfl, trivial⟩ ?_
  refine cS0 e4 rfl cwX8_mix dX8_digest_51 rfl ?_
  refine g_blk hz0 kX8_digest_54 ?_
  refine g_le (L2 := [some (.ref 0), some (.long d4), none, none]) ⟨rfl, rfl, trivial⟩ ?_
  refine cVpL [0, 1, 2, 3, 4, 5, 6, 7, 8, 9, 10, 11, 12, 13, 14, 15, 16, 17, 18, 19, 20, 21, 22, 23, 24, 25, 26, 27, 28, 29, 30, 31, 32, 33, 34, 35, 36, 37, 38, 39, 40, 41, 42, 43, 44, 45, 46, 47, 48, 49, 50, 51, 52, 53, 54, 55, 56, 57, 58, 59, 60, 61, 62, 63, 64, 65, 66, 67, 68, 69, 70, 71, 72, 73, 74, 75, 76, 77, 78, 79, 80, 81, 82, 83, 84, 85, 86, 87, 88, 89, 90, 91, 92, 93, 94, 95, 96, 97, 98, 99, 100, 101, 102, 103, 104, 105, 106, 107, 108, 109, 110, 111] (wB c s p t e o oh h k q s1 p1 s2 p2 t1 t2) 0 [] (e5 hp.1) rfl cwX8_mixBoard dX8_digest_57 rfl rfl (hm63_B_B _ _ _ _ _ _ _ _ _ _ _ _ _ _ _ _) rfl ?_
  replace hp := hp.2
  refine g_blk hz0 kX8_digest_60 ?_
  refine g_le (L2 := [some (.ref 0), some (.long d5), none, none]) ⟨rfl, rfl, trivial⟩ ?_
  refine cS0 e6 rfl cwX8_mix dX8_digest_69 rfl ?_
  refine g_blk hz0 kX8_digest_72 ?_
  refine g_le (L2 := [some (.ref 0), some (.long d6), none, none]) ⟨rfl, rfl, trivial⟩ ?_
  refine cS0 e7 rfl cwX8_mix dX8_digest_81 rfl ?_
  refine g_blk hz0 kX8_digest_84 ?_
  refine g_le (L2 := [some (.ref 0), some (.long d7), none, none]) ⟨rfl, rfl, trivial⟩ ?_
  refine cS0 e8 rfl cwX8_mix dX8_digest_93 rfl ?_
  refine g_blk hz0 kX8_digest_96 ?_
  refine g_le (L2 := [some (.ref 0), some (.long d8), none, none]) ⟨rfl, rfl, trivial⟩ ?_
  refine cS0 e9 rfl cwX8_mix dX8_digest_105 rfl ?_
  refine g_blk hz0 kX8_digest_108 ?_
  refine g_le (L2 := [some (.ref 0), some (.long d9), none, some (.int (Int32.ofInt 0))]) ⟨rfl, rfl, rfl, trivial⟩ ?_
  exact l_X8_digest_111 sc c s p t e o oh h k q s1 p1 s2 p2 t1 t2 zq 300 d9 ((Int32.ofInt 0)) hp hq
