set_option maxHeartbeats 16000000 in
theorem hm71_B_E (c : Rec) (s : Rec) (p : Rec) (t : Rec) (e : Rec) (o : Rec) (oh : Rec) (h : Rec) (k : Rec) (q : Rec) (s1 : Rec) (p1 : Rec) (s2 : Rec) (p2 : Rec) (t1 : Rec) (t2 : Rec) : [23, 24, 25].map (lk (wB c s p t e o oh h k q s1 p1 s2 p2 t1 t2)) = (wE e).map (fun e => some (ren [23, 24, 25] e)) := rfl
set_option maxHeartbeats 16000000 in
theorem pw98_B_E (c : Rec) (s : Rec) (p : Rec) (t : Rec) (e : Rec) (o : Rec) (oh : Rec) (h : Rec) (k : Rec) (q : Rec) (s1 : Rec) (p1 : Rec) (s2 : Rec) (p2 : Rec) (t1 : Rec) (t2 : Rec) (e9 : Rec) : putW (wB c s p t e o oh h k q s1 p1 s2 p2 t1 t2) [23, 24, 25] ((wE e9).map (ren [23, 24, 25])) = (wB c s p t e9 o oh h k q s1 p1 s2 p2 t1 t2) := rfl
def f_X8_type_42  : Nat → Rec → Rec → Rec → Rec → Rec → Rec → Rec → Rec → Rec → Rec → Rec → Rec → Rec → Rec → Rec → Rec → Int64 → Int32 → Int32 × Rec × Rec
  | 0, c, s, p, t, e, o, oh, h, k, q, s1, p1, s2, p2, t1, t2, v1, v4 => (0, c, e)
  | n + 1, c, s, p, t, e, o, oh, h, k, q, s1, p1, s2, p2, t1, t2, v1, v4 => if v4 < 0 then ((e.1 2), c, e) else (f_X8_type_42 n c s p t (f_X6_add e (Int64.toInt32 ((Int64.toUInt64 v1 >>> ((Int32.toInt64 ((Int32.ofInt 8) * v4)).toUInt64 &&& Int64.toUInt64 63)).toInt64 &&& 255))) o oh h k q s1 p1 s2 p2 t1 t2 v1 (v4 + (Int32.ofInt (-1))))
def p_X8_type_42  : Nat → Rec → Rec → Rec → Rec → Rec → Rec → Rec → Rec → Rec → Rec → Rec → Rec → Rec → Rec → Rec → Rec → Int64 → Int32 → Prop
  | 0, _, _, _, _, _, _, _, _, _, _, _, _, _, _, _, _, _, _ => False
  | n + 1, c, s, p, t, e, o, oh, h, k, q, s1, p1, s2, p2, t1, t2, v1, v4 => (v4 < 0 → True) ∧ (¬ (v4 < 0) → ((p_X6_add e (Int64.toInt32 ((Int64.toUInt64 v1 >>> ((Int32.toInt64 ((Int32.ofInt 8) * v4)).toUInt64 &&& Int64.toUInt64 63)).toInt64 &&& 255))) ∧ (p_X8_type_42 n c s p t (f_X6_add e (Int64.toInt32 ((Int64.toUInt64 v1 >>> ((Int32.toInt64 ((Int32.ofInt 8) * v4)).toUInt64 &&& Int64.toUInt64 63)).toInt64 &&& 255))) o oh h k q s1 p1 s2 p2 t1 t2 v1 (v4 + (Int32.ofInt (-1))))))
set_option maxHeartbeats 16000000 in
set_option maxRecDepth 20000 in
theorem l_X8_type_42 (sc : SC) (s : Rec) (p : Rec) (t : Rec) (o : Rec) (oh : Rec) (h : Rec) (k : Rec) (q : Rec) (s1 : Rec) (p1 : Rec) (s2 : Rec) (p2 : Rec) (t1 : Rec) (t2 : Rec)  (zq : Int32 × Rec × Rec)  : ∀ (n : Nat) (c : Rec) (e : Rec) (v1 : Int64) (v4 : Int32), p_X8_type_42 n c s p t e o oh h k q s1 p1 s2 p2 t1 t2 v1 v4 → zq = f_X8_type_42 n c s p t e o oh h k q s1 p1 s2 p2 t1 t2 v1 v4 → Good sc 1 0 0 112 mX8_type (Ret (some (.int (zq.1))) (wB (zq.2.1) s p t (zq.2.2) o oh h k q s1 p1 s2 p2 t1 t2)) 0 0 42 [some (.ref 0), some (.long v1), none, none, some (.int v4)] [] (wB c s p t e o oh h k q s1 p1 s2 p2 t1 t2) := by
  intro n
  induction n with
  | zero => intro c e v1 v4 hp; exact hp.elim
  | succ n ih =>
    intro c e v1 v4 hp hq
    unfold p_X8_type_42 at hp
    unfold f_X8_type_42 at hq
    refine g_blk hz0 kX8_type_42 ?_
    refine ⟨fun c5 => ?_, fun c5 => ?_⟩
    · rw [if_pos (show v4 < 0 from c5)] at hq
      refine g_blk hz0 kX8_type_72 ?_
      subst hq
      exact ⟨fun h => (by cases h), rfl, rfl⟩
    · rw [if_neg (show ¬ (v4 < 0) from c5)] at hq
      replace hp := hp.2 c5
      refine g_blk hz0 kX8_type_47 ?_
      refine cV [23, 24, 25] (wE e) (s_X6_add e (Int64.toInt32 ((Int64.toUInt64 v1 >>> ((Int32.toInt64 ((Int32.ofInt 8) * v4)).toUInt64 &&& Int64.toUInt64 63)).toInt64 &&& 255)) hp.1) rfl cwX6_add dX8_type_63 rfl rfl (hm71_B_E _ _ _ _ _ _ _ _ _ _ _ _ _ _ _ _) ((len_E _).trans (len_E _).symm) (wB c s p t (f_X6_add e (Int64.toInt32 ((Int64.toUInt64 v1 >>> ((Int32.toInt64 ((Int32.ofInt 8) * v4)).toUInt64 &&& Int64.toUInt64 63)).toInt64 &&& 255))) o oh h k q s1 p1 s2 p2 t1 t2) (pw98_B_E _ _ _ _ _ _ _ _ _ _ _ _ _ _ _ _ _) ?_
      replace hp := hp.2
      obtain ⟨g6, hg6⟩ : ∃ z, z = (f_X6_add e (Int64.toInt32 ((Int64.toUInt64 v1 >>> ((Int32.toInt64 ((Int32.ofInt 8) * v4)).toUInt64 &&& Int64.toUInt64 63)).toInt64 &&& 255))) := ⟨_, rfl⟩
      try rw [← hg6] at hp
      try rw [← hg6] at hq
      rw [← hg6]
      refine g_blk hz0 kX8_type_66 ?_
      refine g_le (L2 := [some (.ref 0), some (.long v1), none, none, some (.int (v4 + (Int32.ofInt (-1))))]) ⟨rfl, rfl, rfl, trivial⟩ ?_
      exact ih c g6 v1 (v4 + (Int32.ofInt (-1))) hp hq
def f_X8_type (c : Rec) (s : Rec) (p : Rec) (t : Rec) (e : Rec) (o : Rec) (oh : Rec) (h : Rec) (k : Rec) (q : Rec) (s1 : Rec) (p1 : Rec) (s2 : Rec) (p2 : Rec) (t1 : Rec) (t2 : Rec) (v : Int64) (n : Int32) : Int32 × Rec × Rec := if (f_X8_within n ((Int32.ofInt 1)) ((Int32.ofInt 8))) = 0 then (((f_X8_refuseBad c s p t e o oh h k q s1 p1 s2 p2 t1 t2 ((Int32.ofInt (-2)))).1), ((f_X8_refuseBad c s p t e o oh h k q s1 p1 s2 p2 t1 t2 ((Int32.ofInt (-2)))).2), e) else (if ((e.1 2) + n) ≤ (Int32.ofInt 200) then (f_X8_type_42 40 c s p t e o oh h k q s1 p1 s2 p2 t1 t2 v (n - (Int32.ofInt 1))) else (((f_X8_refuseFull c s p t e o oh h k q s1 p1 s2 p2 t1 t2).1), ((f_X8_refuseFull c s p t e o oh h k q s1 p1 s2 p2 t1 t2).2), e))
def p_X8_type (c : Rec) (s : Rec) (p : Rec) (t : Rec) (e : Rec) (o : Rec) (oh : Rec) (h : Rec) (k : Rec) (q : Rec) (s1 : Rec) (p1 : Rec) (s2 : Rec) (p2 : Rec) (t1 : Rec) (t2 : Rec) (v : Int64) (n : Int32) : Prop := ((f_X8_within n ((Int32.ofInt 1)) ((Int32.ofInt 8))) = 0 → True) ∧ (¬ ((f_X8_within n ((Int32.ofInt 1)) ((Int32.ofInt 8))) = 0) → ((((e.1 2) + n) ≤ (Int32.ofInt 200) → (p_X8_type_42 40 c s p t e o oh h k q s1 p1 s2 p2 t1 t2 v (n - (Int32.ofInt 1)))) ∧ (¬ (((e.1 2) + n) ≤ (Int32.ofInt 200)) → True)))
set_option maxHeartbeats 16000000 in
set_option maxRecDepth 20000 in
theorem s_X8_type (c : Rec) (s : Rec) (p : Rec) (t : Rec) (e : Rec) (o : Rec) (oh : Rec) (h : Rec) (k : Rec) (q : Rec) (s1 : Rec) (p1 : Rec) (s2 : Rec) (p2 : Rec) (t1 : Rec) (t2 : Rec) (v : Int64) (n : Int32) (hp : p_X8_type c s p t e o oh h k q s1 p1 s2 p2 t1 t2 v n) : Spec 1 0 0 mX8_type [.ref 0, .long v, .int n] (wB c s p t e o oh h k q s1 p1 s2 p2 t1 t2) (Ret (some (.int ((f_X8_type c s p t e o oh h k q s1 p1 s2 p2 t1 t2 v n).1))) (wB ((f_X8_type c s p t e o oh h k q s1 p1 s2 p2 t1 t2 v n).2.1) s p t ((f_X8_type c s p t e o oh h k q s1 p1 s2 p2 t1 t2 v n).2.2) o oh h k q s1 p1 s2 p2 t1 t2)) := by
  obtain ⟨zq, hq⟩ : ∃ z, z = (f_X8_type c s p t e o oh h k q s1 p1 s2 p2 t1 t2 v n) := ⟨_, rfl⟩
  rw [← hq]
  unfold f_X8_type at hq
  unfold p_X8_type at hp
  refine Sof fun sc => ?_
  refine g_blk hz0 kX8_type_0 ?_
  refine cS0 (s_X8_within n ((Int32.ofInt 1)) ((Int32.ofInt 8))) rfl cwX8_within dX8_type_4 rfl ?_
  refine g_blk hz0 kX8_type_7 ?_
  refine ⟨fun c1 => ?_, fun c1 => ?_⟩
  · rw [if_neg (show ¬ ((f_X8_within n ((Int32.ofInt 1)) ((Int32.ofInt 8))) = 0) from c1)] at hq
    replace hp := hp.2 c1
    refine g_blk hz0 kX8_type_17 ?_
    refine ⟨fun c3 => ?_, fun c3 => ?_⟩
    · rw [if_pos (show ((e.1 2) + n) ≤ (Int32.ofInt 200) from c3)] at hq
      replace hp := hp.1 c3
      refine g_blk hz0 kX8_type_37 ?_
      refine g_le (L2 := [some (.ref 0), some (.long v), none, none, some (.int (n - (Int32.ofInt 1)))]) ⟨rfl, rfl, rfl, trivial⟩ ?_
      exact l_X8_type_42 sc s p t o oh h k q s1 p1 s2 p2 t1 t2 zq 40 c e v (n - (Int32.ofInt 1)) hp hq
    · rw [if_neg (show ¬ (((e.1 2) + n) ≤ (Int32.ofInt 200)) from c3)] at hq
      refine g_blk hz0 kX8_type_32 ?_
      refine cV [0, 1, 2, 3, 4, 5, 6, 7, 8, 9, 10, 11, 12, 13, 14, 15, 16, 17, 18, 19, 20, 21, 22, 23, 24, 25, 26, 27, 28, 29, 30, 31, 32, 33, 34, 35, 36, 37, 38, 39, 40, 41, 42, 43, 44, 45, 46, 47, 48, 49, 50, 51, 52, 53, 54, 55, 56, 57, 58, 59, 60, 61, 62, 63, 64, 65, 66, 67, 68, 69, 70, 71, 72, 73, 74, 75, 76, 77, 78, 79, 80, 81, 82, 83, 84, 85, 86, 87, 88, 89, 90, 91, 92, 93, 94, 95, 96, 97, 98, 99, 100, 101, 102, 103, 104, 105, 106, 107, 108, 109, 110, 111] (wB c s p t e o oh h k q s1 p1 s2 p2 t1 t2) (s_X8_refuseFull c s p t e o oh h k q s1 p1 s2 p2 t1 t2) rfl cwX8_refuseFull dX8_type_33 rfl rfl (hm63_B_B _ _ _ _ _ _ _ _ _ _ _ _ _ _ _ _) ((len_B _ _ _ _ _ _ _ _ _ _ _ _ _ _ _ _).trans (len_B _ _ _ _ _ _ _ _ _ _ _ _ _ _ _ _).symm) (wB ((f_X8_refuseFull c s p t e o oh h k q s1 p1 s2 p2 t1 t2).2) s p t e o oh h k q s1 p1 s2 p2 t1 t2) (pw85_B_B _ _ _ _ _ _ _ _ _ _ _ _ _ _ _ _ _) ?_
      obtain ⟨g4, hg4⟩ : ∃ z, z = (f_X8_refuseFull c s p t e o oh h k q s1 p1 s2 p2 t1 t2) := ⟨_, rfl⟩
      try rw [← hg4] at hp
      try rw [← hg4] at hq
      rw [← hg4]
      refine g_blk hz0 kX8_type_36 ?_
      subst hq
      exact ⟨fun h => (by cases h), rfl, rfl⟩
  · rw [if_pos (show (f_X8_within n ((Int32.ofInt 1)) ((Int32.ofInt 8))) = 0 from c1)] at hq
    refine g_blk hz0 kX8_type_10 ?_
    refine cV [0, 1, 2, 3, 4, 5, 6, 7, 8, 9, 10, 11, 12, 13, 14, 15, 16, 17, 18, 19, 20, 21, 22, 23, 24, 25, 26, 27, 28, 29, 30, 31, 32, 33, 34, 35, 36, 37, 38, 39, 40, 41, 42, 43, 44, 45, 46, 47, 48, 49, 50, 51, 52, 53, 54, 55, 56, 57, 58, 59, 60, 61, 62, 63, 64, 65, 66, 67, 68, 69, 70, 71, 72, 73, 74, 75, 76, 77, 78, 79, 80, 81, 82, 83, 84, 85, 86, 87, 88, 89, 90, 91, 92, 93, 94, 95, 96, 97, 98, 99, 100, 101, 102, 103, 104, 105, 106, 107, 108, 109, 110, 111] (wB c s p t e o oh h k q s1 p1 s2 p2 t1 t2) (s_X8_refuseBad c s p t e o oh h k q s1 p1 s2 p2 t1 t2 ((Int32.ofInt (-2)))) rfl cwX8_refuseBad dX8_type_13 rfl rfl (hm63_B_B _ _ _ _ _ _ _ _ _ _ _ _ _ _ _ _) ((len_B _ _ _ _ _ _ _ _ _ _ _ _ _ _ _ _).trans (len_B _ _ _ _ _ _ _ _ _ _ _ _ _ _ _ _).symm) (wB ((f_X8_refuseBad c s p t e o oh h k q s1 p1 s2 p2 t1 t2 ((Int32.ofInt (-2)))).2) s p t e o oh h k q s1 p1 s2 p2 t1 t2) (pw85_B_B _ _ _ _ _ _ _ _ _ _ _ _ _ _ _ _ _) ?_
    obtain ⟨g2, hg2⟩ : ∃ z, z = (f_X8_refuseBad c s p t e o oh h k q s1 p1 s2 p2 t1 t2 ((Int32.ofInt (-2)))) := ⟨_, rfl⟩
    try rw [← hg2] at hp
    try rw [← hg2] at hq
    rw [← hg2]
    refine g_blk hz0 kX8_type_16 ?_
    subst hq
    exact ⟨fun h => (by cases h), rfl, rfl⟩
