def wB (c : Rec) (s : Rec) (p : Rec) (t : Rec) (e : Rec) (o : Rec) (oh : Rec) (h : Rec) (k : Rec) (q : Rec) (s1 : Rec) (p1 : Rec) (s2 : Rec) (p2 : Rec) (t1 : Rec) (t2 : Rec) : List va_E := [.inr (8, [.ref 1, .ref 13, .ref 23, .ref 26, .ref 31, .ref 47, .ref 50, .ref 64, .ref 65, .ref 66, .ref 67, .int (c.1 11), .int (c.1 12), .int (c.1 13)]), .inr (3, [.ref 2, .ref 9, .ref 10, .ref 11, .ref 12, .int (p.1 5), .int (p.1 6), .int (p.1 7), .int (p.1 8), .int (p.1 9)]), .inr (4, [.int (s.1 0), .int (s.1 1), .int (s.1 2), .int (s.1 3), .int (s.1 4), .int (s.1 5), .int (s.1 6), .int (s.1 7), .ref 3, .ref 4, .ref 5, .ref 6, .ref 7, .ref 8]), .inl (1, 36, .inl (s.2 8)), .inl (1, 36, .inl (s.2 9)), .inl (0, 36, .inl (s.2 10)), .inl (0, 36, .inl (s.2 11)), .inl (0, 36, .inl (s.2 12)), .inl (0, 9, .inl (s.2 13)), .inl (0, 8, .inl (p.2 1)), .inl (0, 8, .inl (p.2 2)), .inl (0, 8, .inl (p.2 3)), .inl (0, 8, .inl (p.2 4)), .inr (2, [.ref 14, .int (t.1 1), .int (t.1 2)]), .inl (4, 8, .inr (.inr (.inr (.inr (rowF [15, 16, 17, 18, 19, 20, 21, 22]))))), .inl (0, 20, .inl (t.2 100)), .inl (0, 20, .inl (t.2 101)), .inl (0, 20, .inl (t.2 102)), .inl (0, 20, .inl (t.2 103)), .inl (0, 20, .inl (t.2 104)), .inl (0, 20, .inl (t.2 105)), .inl (0, 20, .inl (t.2 106)), .inl (0, 20, .inl (t.2 107)), .inr (6, [.ref 24, .ref 25, .int (e.1 2), .int (e.1 3), .int (e.1 4), .int (e.1 5), .int (e.1 6)]), .inl (0, 200, .inl (e.2 0)), .inl (0, 4, .inl (e.2 1)), .inr (1, [.ref 27, .ref 28, .ref 29, .ref 30]), .inl (0, 8, .inl (o.2 0)), .inl (0, 8, .inl (o.2 1)), .inl (0, 8, .inl (o.2 2)), .inl (0, 8, .inl (o.2 3)), .inr (0, [.ref 32, .ref 37, .ref 42]), .inr (1, [.ref 33, .ref 34, .ref 35, .ref 36]), .inl (0, 8, .inl (oh.2 0)), .inl (0, 8, .inl (oh.2 1)), .inl (0, 8, .inl (oh.2 2)), .inl (0, 8, .inl (oh.2 3)), .inl (4, 4, .inr (.inr (.inr (.inr (rowF [38, 39, 40, 41]))))), .inl (0, 20, .inl (h.2 100)), .inl (0, 20, .inl (h.2 101)), .inl (0, 20, .inl (h.2 102)), .inl (0, 20, .inl (h.2 103)), .inl (4, 4, .inr (.inr (.inr (.inr (rowF [43, 44, 45, 46]))))), .inl (0, 8, .inl (h.2 200)), .inl (0, 8, .inl (h.2 201)), .inl (0, 8, .inl (h.2 202)), .inl (0, 8, .inl (h.2 203)), .inr (7, [.ref 48, .ref 49]), .inl (0, 36, .inl (k.2 0)), .inl (0, 36, .inl (k.2 1)), .inr (5, [.ref 51, .ref 56, .ref 61, .ref 62, .ref 63, .int (q.1 5)]), .inl (4, 4, .inr (.inr (.inr (.inr (rowF [52, 53, 54, 55]))))), .inl (0, 6, .inl (q.2 100)), .inl (0, 6, .inl (q.2 101)), .inl (0, 6, .inl (q.2 102)), .inl (0, 6, .inl (q.2 103)), .inl (4, 4, .inr (.inr (.inr (.inr (rowF [57, 58, 59, 60]))))), .inl (0, 6, .inl (q.2 200)), .inl (0, 6, .inl (q.2 201)), .inl (0, 6, .inl (q.2 202)), .inl (0, 6, .inl (q.2 203)), .inl (1, 6, .inl (q.2 2)), .inl (1, 6, .inl (q.2 3)), .inl (0, 4, .inl (q.2 4)), .inl (3, 2, .inr (.inr (.inr (.inr (rowF [68, 90]))))), .inl (2, 2, .inr (.inr (.inr (.inr (rowF [80, 102]))))), .inl (1, 2, .inl (c.2 9)), .inl (0, 20, .inl (c.2 10)), .inr (3, [.ref 69, .ref 76, .ref 77, .ref 78, .ref 79, .int (p1.1 5), .int (p1.1 6), .int (p1.1 7), .int (p1.1 8), .int (p1.1 9)]), .inr (4, [.int (s1.1 0), .int (s1.1 1), .int (s1.1 2), .int (s1.1 3), .int (s1.1 4), .int (s1.1 5), .int (s1.1 6), .int (s1.1 7), .ref 70, .ref 71, .ref 72, .ref 73, .ref 74, .ref 75]), .inl (1, 36, .inl (s1.2 8)), .inl (1, 36, .inl (s1.2 9)), .inl (0, 36, .inl (s1.2 10)), .inl (0, 36, .inl (s1.2 11)), .inl (0, 36, .inl (s1.2 12)), .inl (0, 9, .inl (s1.2 13)), .inl (0, 8, .inl (p1.2 1)), .inl (0, 8, .inl (p1.2 2)), .inl (0, 8, .inl (p1.2 3)), .inl (0, 8, .inl (p1.2 4)), .inr (2, [.ref 81, .int (t1.1 1), .int (t1.1 2)]), .inl (4, 8, .inr (.inr (.inr (.inr (rowF [82, 83, 84, 85, 86, 87, 88, 89]))))), .inl (0, 20, .inl (t1.2 100)), .inl (0, 20, .inl (t1.2 101)), .inl (0, 20, .inl (t1.2 102)), .inl (0, 20, .inl (t1.2 103)), .inl (0, 20, .inl (t1.2 104)), .inl (0, 20, .inl (t1.2 105)), .inl (0, 20, .inl (t1.2 106)), .inl (0, 20, .inl (t1.2 107)), .inr (3, [.ref 91, .ref 98, .ref 99, .ref 100, .ref 101, .int (p2.1 5), .int (p2.1 6), .int (p2.1 7), .int (p2.1 8), .int (p2.1 9)]), .inr (4, [.int (s2.1 0), .int (s2.1 1), .int (s2.1 2), .int (s2.1 3), .int (s2.1 4), .int (s2.1 5), .int (s2.1 6), .int (s2.1 7), .ref 92, .ref 93, .ref 94, .ref 95, .ref 96, .ref 97]), .inl (1, 36, .inl (s2.2 8)), .inl (1, 36, .inl (s2.2 9)), .inl (0, 36, .inl (s2.2 10)), .inl (0, 36, .inl (s2.2 11)), .inl (0, 36, .inl (s2.2 12)), .inl (0, 9, .inl (s2.2 13)), .inl (0, 8, .inl (p2.2 1)), .inl (0, 8, .inl (p2.2 2)), .inl (0, 8, .inl (p2.2 3)), .inl (0, 8, .inl (p2.2 4)), .inr (2, [.ref 103, .int (t2.1 1), .int (t2.1 2)]), .inl (4, 8, .inr (.inr (.inr (.inr (rowF [104, 105, 106, 107, 108, 109, 110, 111]))))), .inl (0, 20, .inl (t2.2 100)), .inl (0, 20, .inl (t2.2 101)), .inl (0, 20, .inl (t2.2 102)), .inl (0, 20, .inl (t2.2 103)), .inl (0, 20, .inl (t2.2 104)), .inl (0, 20, .inl (t2.2 105)), .inl (0, 20, .inl (t2.2 106)), .inl (0, 20, .inl (t2.2 107))]
theorem len_B (c : Rec) (s : Rec) (p : Rec) (t : Rec) (e : Rec) (o : Rec) (oh : Rec) (h : Rec) (k : Rec) (q : Rec) (s1 : Rec) (p1 : Rec) (s2 : Rec) (p2 : Rec) (t1 : Rec) (t2 : Rec) : (wB c s p t e o oh h k q s1 p1 s2 p2 t1 t2).length = 112 := rfl
def f_X8_mix  (h : Int64) (v : Int32) : Int64 := ((31 * h) + (Int32.toInt64 v))
set_option maxHeartbeats 16000000 in
set_option maxRecDepth 20000 in
theorem s_X8_mix  (h : Int64) (v : Int32) : Spec 0 0 0 mX8_mix [.long h, .int v] [] (Ret (some (.long ((f_X8_mix h v)))) []) := by
  obtain ⟨zq, hq⟩ : ∃ z, z = (f_X8_mix h v) := ⟨_, rfl⟩
  rw [← hq]
  unfold f_X8_mix at hq
  refine Sof fun sc => ?_
  refine g_blk hz0 kX8_mix_0 ?_
  subst hq
  exact ⟨rfl, rfl⟩

def f_X8_refuseBad (c : Rec) (s : Rec) (p : Rec) (t : Rec) (e : Rec) (o : Rec) (oh : Rec) (h : Rec) (k : Rec) (q : Rec) (s1 : Rec) (p1 : Rec) (s2 : Rec) (p2 : Rec) (t1 : Rec) (t2 : Rec) (a : Int32) : Int32 × Rec := (a, (setG c 11 ((c.1 11) + (Int32.ofInt 1))))
set_option maxHeartbeats 16000000 in
set_option maxRecDepth 20000 in
theorem s_X8_refuseBad (c : Rec) (s : Rec) (p : Rec) (t : Rec) (e : Rec) (o : Rec) (oh : Rec) (h : Rec) (k : Rec) (q : Rec) (s1 : Rec) (p1 : Rec) (s2 : Rec) (p2 : Rec) (t1 : Rec) (t2 : Rec) (a : Int32) : Spec 0 0 0 mX8_refuseBad [.ref 0, .int a] (wB c s p t e o oh h k q s1 p1 s2 p2 t1 t2) (Ret (some (.int ((f_X8_refuseBad c s p t e o oh h k q s1 p1 s2 p2 t1 t2 a).1))) (wB ((f_X8_refuseBad c s p t e o oh h k q s1 p1 s2 p2 t1 t2 a).2) s p t e o oh h k q s1 p1 s2 p2 t1 t2)) := by
  obtain ⟨zq, hq⟩ : ∃ z, z = (f_X8_refuseBad c s p t e o oh h k q s1 p1 s2 p2 t1 t2 a) := ⟨_, rfl⟩
  rw [← hq]
  unfold f_X8_refuseBad at hq
  refine Sof fun sc => ?_
  refine g_blk hz0 kX8_refuseBad_0 ?_
  refine ⟨fun h => (by cases h), Or.inl rfl, ?_⟩
  subst hq
  exact ⟨fun h => (by cases h), rfl, rfl⟩

def f_X8_refuseNo (c : Rec) (s : Rec) (p : Rec) (t : Rec) (e : Rec) (o : Rec) (oh : Rec) (h : Rec) (k : Rec) (q : Rec) (s1 : Rec) (p1 : Rec) (s2 : Rec) (p2 : Rec) (t1 : Rec) (t2 : Rec) (a : Int32) : Int32 × Rec := (a, (setG c 12 ((c.1 12) + (Int32.ofInt 1))))
set_option maxHeartbeats 16000000 in
set_option maxRecDepth 20000 in
theorem s_X8_refuseNo (c : Rec) (s : Rec) (p : Rec) (t : Rec) (e : Rec) (o : Rec) (oh : Rec) (h : Rec) (k : Rec) (q : Rec) (s1 : Rec) (p1 : Rec) (s2 : Rec) (p2 : Rec) (t1 : Rec) (t2 : Rec) (a : Int32) : Spec 0 0 0 mX8_refuseNo [.ref 0, .int a] (wB c s p t e o oh h k q s1 p1 s2 p2 t1 t2) (Ret (some (.int ((f_X8_refuseNo c s p t e o oh h k q s1 p1 s2 p2 t1 t2 a).1))) (wB ((f_X8_refuseNo c s p t e o oh h k q s1 p1 s2 p2 t1 t2 a).2) s p t e o oh h k q s1 p1 s2 p2 t1 t2)) := by
  obtain ⟨zq, hq⟩ : ∃ z, z = (f_X8_refuseNo c s p t e o oh h k q s1 p1 s2 p2 t1 t2 a) := ⟨_, rfl⟩
  rw [← hq]
  unfold f_X8_refuseNo at hq
  refine Sof fun sc => ?_
  refine g_blk hz0 kX8_refuseNo_0 ?_
  refine ⟨fun h => (by cases h), Or.inl rfl, ?_⟩
  subst hq
  exact ⟨fun h => (by cases h), rfl, rfl⟩

def f_X8_refuseFull (c : Rec) (s : Rec) (p : Rec) (t : Rec) (e : Rec) (o : Rec) (oh : Rec) (h : Rec) (k : Rec) (q : Rec) (s1 : Rec) (p1 : Rec) (s2 : Rec) (p2 : Rec) (t1 : Rec) (t2 : Rec)  : Int32 × Rec := ((Int32.ofInt (-4)), (setG c 13 ((c.1 13) + (Int32.ofInt 1))))
set_option maxHeartbeats 16000000 in
set_option maxRecDepth 20000 in
theorem s_X8_refuseFull (c : Rec) (s : Rec) (p : Rec) (t : Rec) (e : Rec) (o : Rec) (oh : Rec) (h : Rec) (k : Rec) (q : Rec) (s1 : Rec) (p1 : Rec) (s2 : Rec) (p2 : Rec) (t1 : Rec) (t2 : Rec)  : Spec 0 0 0 mX8_refuseFull [.ref 0] (wB c s p t e o oh h k q s1 p1 s2 p2 t1 t2) (Ret (some (.int ((f_X8_refuseFull c s p t e o oh h k q s1 p1 s2 p2 t1 t2).1))) (wB ((f_X8_refuseFull c s p t e o oh h k q s1 p1 s2 p2 t1 t2).2) s p t e o oh h k q s1 p1 s2 p2 t1 t2)) := by
  obtain ⟨zq, hq⟩ : ∃ z, z = (f_X8_refuseFull c s p t e o oh h k q s1 p1 s2 p2 t1 t2) := ⟨_, rfl⟩
  rw [← hq]
  unfold f_X8_refuseFull at hq
  refine Sof fun sc => ?_
  refine g_blk hz0 kX8_refuseFull_0 ?_
  refine ⟨fun h => (by cases h), Or.inl rfl, ?_⟩
  subst hq
  exact ⟨fun h => (by cases h), rfl, rfl⟩

set_option maxHeartbeats 16000000 in
theorem hm63_B_B (c : Rec) (s : Rec) (p : Rec) (t : Rec) (e : Rec) (o : Rec) (oh : Rec) (h : Rec) (k : Rec) (q : Rec) (s1 : Rec) (p1 : Rec) (s2 : Rec) (p2 : Rec) (t1 : Rec) (t2 : Rec) : [0, 1, 2, 3, 4, 5, 6, 7, 8, 9, 10, 11, 12, 13, 14, 15, 16, 17, 18, 19, 20, 21, 22, 23, 24, 25, 26, 27, 28, 29, 30, 31, 32, 33, 34, 35, 36, 37, 38, 39, 40, 41, 42, 43, 44, 45, 46, 47, 48, 49, 50, 51, 52, 53, 54, 55, 56, 57, 58, 59, 60, 61, 62, 63, 64, 65, 66, 67, 68, 69, 70, 71, 72, 73, 74, 75, 76, 77, 78, 79, 80, 81, 82, 83, 84, 85, 86, 87, 88, 89, 90, 91, 92, 93, 94, 95, 96, 97, 98, 99, 100, 101, 102, 103, 104, 105, 106, 107, 108, 109, 110, 111].map (lk (wB c s p t e o oh h k q s1 p1 s2 p2 t1 t2)) = (wB c s p t e o oh h k q s1 p1 s2 p2 t1 t2).map (fun e => some (ren [0, 1, 2, 3, 4, 5, 6, 7, 8, 9, 10, 11, 12, 13, 14, 15, 16, 17, 18, 19, 20, 21, 22, 23, 24, 25, 26, 27, 28, 29, 30, 31, 32, 33, 34, 35, 36, 37, 38, 39, 40, 41, 42, 43, 44, 45, 46, 47, 48, 49, 50, 51, 52, 53, 54, 55, 56, 57, 58, 59, 60, 61, 62, 63, 64, 65, 66, 67, 68, 69, 70, 71, 72, 73, 74, 75, 76, 77, 78, 79, 80, 81, 82, 83, 84, 85, 86, 87, 88, 89, 90, 91, 92, 93, 94, 95, 96, 97, 98, 99, 100, 101, 102, 103, 104, 105, 106, 107, 108, 109, 110, 111] e)) := rfl
set_option maxHeartbeats 16000000 in
theorem pw85_B_B (c : Rec) (s : Rec) (p : Rec) (t : Rec) (e : Rec) (o : Rec) (oh : Rec) (h : Rec) (k : Rec) (q : Rec) (s1 : Rec) (p1 : Rec) (s2 : Rec) (p2 : Rec) (t1 : Rec) (t2 : Rec) (c9 : Rec) : putW (wB c s p t e o oh h k q s1 p1 s2 p2 t1 t2) [0, 1, 2, 3, 4, 5, 6, 7, 8, 9, 10, 11, 12, 13, 14, 15, 16, 17, 18, 19, 20, 21, 22, 23, 24, 25, 26, 27, 28, 29, 30, 31, 32, 33, 34, 35, 36, 37, 38, 39, 40, 41, 42, 43, 44, 45, 46, 47, 48, 49, 50, 51, 52, 53, 54, 55, 56, 57, 58, 59, 60, 61, 62, 63, 64, 65, 66, 67, 68, 69, 70, 71, 72, 73, 74, 75, 76, 77, 78, 79, 80, 81, 82, 83, 84, 85, 86, 87, 88, 89, 90, 91, 92, 93, 94, 95, 96, 97, 98, 99, 100, 101, 102, 103, 104, 105, 106, 107, 108, 109, 110, 111] ((wB c9 s p t e o oh h k q s1 p1 s2 p2 t1 t2).map (ren [0, 1, 2, 3, 4, 5, 6, 7, 8, 9, 10, 11, 12, 13, 14, 15, 16, 17, 18, 19, 20, 21, 22, 23, 24, 25, 26, 27, 28, 29, 30, 31, 32, 33, 34, 35, 36, 37, 38, 39, 40, 41, 42, 43, 44, 45, 46, 47, 48, 49, 50, 51, 52, 53, 54, 55, 56, 57, 58, 59, 60, 61, 62, 63, 64, 65, 66, 67, 68, 69, 70, 71, 72, 73, 74, 75, 76, 77, 78, 79, 80, 81, 82, 83, 84, 85, 86, 87, 88, 89, 90, 91, 92, 93, 94, 95, 96, 97, 98, 99, 100, 101, 102, 103, 104, 105, 106, 107, 108, 109, 110, 111])) = (wB c9 s p t e o oh h k q s1 p1 s2 p2 t1 t2) := rfl
set_option maxHeartbeats 16000000 in
theorem hm64_B_P (c : Rec) (s : Rec) (p : Rec) (t : Rec) (e : Rec) (o : Rec) (oh : Rec) (h : Rec) (k : Rec) (q : Rec) (s1 : Rec) (p1 : Rec) (s2 : Rec) (p2 : Rec) (t1 : Rec) (t2 : Rec) : [1, 2, 3, 4, 5, 6, 7, 8, 9, 10, 11, 12].map (lk (wB c s p t e o oh h k q s1 p1 s2 p2 t1 t2)) = (wP s p).map (fun e => some (ren [1, 2, 3, 4, 5, 6, 7, 8, 9, 10, 11, 12] e)) := rfl
set_option maxHeartbeats 16000000 in
theorem pw86_B_P (c : Rec) (s : Rec) (p : Rec) (t : Rec) (e : Rec) (o : Rec) (oh : Rec) (h : Rec) (k : Rec) (q : Rec) (s1 : Rec) (p1 : Rec) (s2 : Rec) (p2 : Rec) (t1 : Rec) (t2 : Rec) (s9 : Rec) (p9 : Rec) : putW (wB c s p t e o oh h k q s1 p1 s2 p2 t1 t2) [1, 2, 3, 4, 5, 6, 7, 8, 9, 10, 11, 12] ((wP s9 p9).map (ren [1, 2, 3, 4, 5, 6, 7, 8, 9, 10, 11, 12])) = (wB c s9 p9 t e o oh h k q s1 p1 s2 p2 t1 t2) := rfl
set_option maxHeartbeats 16000000 in
theorem hm65_B_T (c : Rec) (s : Rec) (p : Rec) (t : Rec) (e : Rec) (o : Rec) (oh : Rec) (h : Rec) (k : Rec) (q : Rec) (s1 : Rec) (p1 : Rec) (s2 : Rec) (p2 : Rec) (t1 : Rec) (t2 : Rec) : [13, 14, 15, 16, 17, 18, 19, 20, 21, 22].map (lk (wB c s p t e o oh h k q s1 p1 s2 p2 t1 t2)) = (wT t).map (fun e => some (ren [13, 14, 15, 16, 17, 18, 19, 20, 21, 22] e)) := rfl
set_option maxHeartbeats 16000000 in
theorem pw87_B_T (c : Rec) (s : Rec) (p : Rec) (t : Rec) (e : Rec) (o : Rec) (oh : Rec) (h : Rec) (k : Rec) (q : Rec) (s1 : Rec) (p1 : Rec) (s2 : Rec) (p2 : Rec) (t1 : Rec) (t2 : Rec) (t9 : Rec) : putW (wB c s p t e o oh h k q s1 p1 s2 p2 t1 t2) [13, 14, 15, 16, 17, 18, 19, 20, 21, 22] ((wT t9).map (ren [13, 14, 15, 16, 17, 18, 19, 20, 21, 22])) = (wB c s p t9 e o oh h k q s1 p1 s2 p2 t1 t2) := rfl
set_option maxHeartbeats 16000000 in
theorem hm66_B_Q (c : Rec) (s : Rec) (p : Rec) (t : Rec) (e : Rec) (o : Rec) (oh : Rec) (h : Rec) (k : Rec) (q : Rec) (s1 : Rec) (p1 : Rec) (s2 : Rec) (p2 : Rec) (t1 : Rec) (t2 : Rec) : [50, 51, 52, 53, 54, 55, 56, 57, 58, 59, 60, 61, 62, 63].map (lk (wB c s p t e o oh h k q s1 p1 s2 p2 t1 t2)) = (wQ q).map (fun e => some (ren [50, 51, 52, 53, 54, 55, 56, 57, 58, 59, 60, 61, 62, 63] e)) := rfl
set_option maxHeartbeats 16000000 in
theorem pw88_B_Q (c : Rec) (s : Rec) (p : Rec) (t : Rec) (e : Rec) (o : Rec) (oh : Rec) (h : Rec) (k : Rec) (q : Rec) (s1 : Rec) (p1 : Rec) (s2 : Rec) (p2 : Rec) (t1 : Rec) (t2 : Rec) (q9 : Rec) : putW (wB c s p t e o oh h k q s1 p1 s2 p2 t1 t2) [50, 51, 52, 53, 54, 55, 56, 57, 58, 59, 60, 61, 62, 63] ((wQ q9).map (ren [50, 51, 52, 53, 54, 55, 56, 57, 58, 59, 60, 61, 62, 63])) = (wB c s p t e o oh h k q9 s1 p1 s2 p2 t1 t2) := rfl
set_option maxHeartbeats 16000000 in
theorem hm67_B_S (c : Rec) (s : Rec) (p : Rec) (t : Rec) (e : Rec) (o : Rec) (oh : Rec) (h : Rec) (k : Rec) (q : Rec) (s1 : Rec) (p1 : Rec) (s2 : Rec) (p2 : Rec) (t1 : Rec) (t2 : Rec) : [2, 3, 4, 5, 6, 7, 8].map (lk (wB c s p t e o oh h k q s1 p1 s2 p2 t1 t2)) = (wS s).map (fun e => some (ren [2, 3, 4, 5, 6, 7, 8] e)) := rfl
set_option maxHeartbeats 16000000 in
theorem pw89_B_S (c : Rec) (s : Rec) (p : Rec) (t : Rec) (e : Rec) (o : Rec) (oh : Rec) (h : Rec) (k : Rec) (q : Rec) (s1 : Rec) (p1 : Rec) (s2 : Rec) (p2 : Rec) (t1 : Rec) (t2 : Rec)  : putW (wB c s p t e o oh h k q s1 p1 s2 p2 t1 t2) [2, 3, 4, 5, 6, 7, 8] ((wS s).map (ren [2, 3, 4, 5, 6, 7, 8])) = (wB c s p t e o oh h k q s1 p1 s2 p2 t1 t2) := rfl
def f_X8_board (c : Rec) (s : Rec) (p : Rec) (t : Rec) (e : Rec) (o : Rec) (oh : Rec) (h : Rec) (k : Rec) (q : Rec) (s1 : Rec) (p1 : Rec) (s2 : Rec) (p2 : Rec) (t1 : Rec) (t2 : Rec) (w : Int32) (h1 : Int32) : Int32 × Rec × Rec × Rec × Rec × Rec := if (f_X8_within w ((Int32.ofInt 2)) ((Int32.ofInt 6))) = 0 then (((f_X8_refuseBad c s p t e o oh h k q s1 p1 s2 p2 t1 t2 ((Int32.ofInt (-2)))).1), ((f_X8_refuseBad c s p t e o oh h k q s1 p1 s2 p2 t1 t2 ((Int32.ofInt (-2)))).2), s, p, t, q) else (if (f_X8_within h1 ((Int32.ofInt 2)) ((Int32.ofInt 6))) = 0 then (((f_X8_refuseBad c s p t e o oh h k q s1 p1 s2 p2 t1 t2 ((Int32.ofInt (-2)))).1), ((f_X8_refuseBad c s p t e o oh h k q s1 p1 s2 p2 t1 t2 ((Int32.ofInt (-2)))).2), s, p, t, q) else ((f_X4_howMany ((f_X3_begin s p w h1).1)), c, ((f_X3_begin s p w h1).1), ((f_X3_begin s p w h1).2), (f_X2_forget t), (f_X5_forget q)))
def p_X8_board (c : Rec) (s : Rec) (p : Rec) (t : Rec) (e : Rec) (o : Rec) (oh : Rec) (h : Rec) (k : Rec) (q : Rec) (s1 : Rec) (p1 : Rec) (s2 : Rec) (p2 : Rec) (t1 : Rec) (t2 : Rec) (w : Int32) (h1 : Int32) : Prop := ((f_X8_within w ((Int32.ofInt 2)) ((Int32.ofInt 6))) = 0 → True) ∧ (¬ ((f_X8_within w ((Int32.ofInt 2)) ((Int32.ofInt 6))) = 0) → (((f_X8_within h1 ((Int32.ofInt 2)) ((Int32.ofInt 6))) = 0 → True) ∧ (¬ ((f_X8_within h1 ((Int32.ofInt 2)) ((Int32.ofInt 6))) = 0) → ((p_X3_begin s p w h1) ∧ ((p_X4_howMany ((f_X3_begin s p w h1).1)) ∧ True)))))
set_option maxHeartbeats 16000000 in
set_option maxRecDepth 20000 in
theorem s_X8_board (c : Rec) (s : Rec) (p : Rec) (t : Rec) (e : Rec) (o : Rec) (oh : Rec) (h : Rec) (k : Rec) (q : Rec) (s1 : Rec) (p1 : Rec) (s2 : Rec) (p2 : Rec) (t1 : Rec) (t2 : Rec) (w : Int32) (h1 : Int32) (hp : p_X8_board c s p t e o oh h k q s1 p1 s2 p2 t1 t2 w h1) : Spec 4 0 0 mX8_board [.ref 0, .int w, .int h1] (wB c s p t e o oh h k q s1 p1 s2 p2 t1 t2) (Ret (some (.int ((f_X8_board c s p t e o oh h k q s1 p1 s2 p2 t1 t2 w h1).1))) (wB ((f_X8_board c s p t e o oh h k q s1 p1 s2 p2 t1 t2 w h1).2.1) ((f_X8_board c s p t e o oh h k q s1 p1 s2 p2 t1 t2 w h1).2.2.1) ((f_X8_board c s p t e o oh h k q s1 p1 s2 p2 t1 t2 w h1).2.2.2.1) ((f_X8_board c s p t e o oh h k q s1 p1 s2 p2 t1 t2 w h1).2.2.2.2.1) e o oh h k ((f_X8_board c s p t e o oh h k q s1 p1 s2 p2 t1 t2 w h1).2.2.2.2.2) s1 p1 s2 p2 t1 t2)) := by
  obtain ⟨zq, hq⟩ : ∃ z, z = (f_X8_board c s p t e o oh h k q s1 p1 s2 p2 t1 t2 w h1) := ⟨_, rfl⟩
  rw [← hq]
  unfold f_X8_board at hq
  unfold p_X8_board at hp
  refine Sof fun sc => ?_
  refine g_blk hz0 kX8_board_0 ?_
  refine cS0 (s_X8_within w ((Int32.ofInt 2)) ((Int32.ofInt 6))) rfl cwX8_within dX8_board_4 rfl ?_
  refine g_blk hz0 kX8_board_7 ?_
  refine ⟨fun c1 => ?_, fun c1 => ?_⟩
  · rw [if_pos (show (f_X8_within w ((Int32.ofInt 2)) ((Int32.ofInt 6))) = 0 from c1)] at hq
    refine g_blk hz0 kX8_board_20 ?_
    refine cV [0, 1, 2, 3, 4, 5, 6, 7, 8, 9, 10, 11, 12, 13, 14, 15, 16, 17, 18, 19, 20, 21, 22, 23, 24, 25, 26, 27, 28, 29, 30, 31, 32, 33, 34, 35, 36, 37, 38, 39, 40, 41, 42, 43, 44, 45, 46, 47, 48, 49, 50, 51, 52, 53, 54, 55, 56, 57, 58, 59, 60, 61, 62, 63, 64, 65, 66, 67, 68, 69, 70, 71, 72, 73, 74, 75, 76, 77, 78, 79, 80, 81, 82, 83, 84, 85, 86, 87, 88, 89, 90, 91, 92, 93, 94, 95, 96, 97, 98, 99, 100, 101, 102, 103, 104, 105, 106, 107, 108, 109, 110, 111] (wB c s p t e o oh h k q s1 p1 s2 p2 t1 t2) (s_X8_refuseBad c s p t e o oh h k q s1 p1 s2 p2 t1 t2 ((Int32.ofInt (-2)))) rfl cwX8_refuseBad dX8_board_23 rfl rfl (hm63_B_B _ _ _ _ _ _ _ _ _ _ _ _ _ _ _ _) ((len_B _ _ _ _ _ _ _ _ _ _ _ _ _ _ _ _).trans (len_B _ _ _ _ _ _ _ _ _ _ _ _ _ _ _ _).symm) (wB ((f_X8_refuseBad c s p t e o oh h k q s1 p1 s2 p2 t1 t2 ((Int32.ofInt (-2)))).2) s p t e o oh h k q s1 p1 s2 p2 t1 t2) (pw85_B_B _ _ _ _ _ _ _ _ _ _ _ _ _ _ _ _ _) ?_
    obtain ⟨g2, hg2⟩ : ∃ z, z = (f_X8_refuseBad c s p t e o oh h k q s1 p1 s2 p2 t1 t2 ((Int32.ofInt (-2)))) := ⟨_, rfl⟩
    try rw [← hg2] at hp
    try rw [← hg2] at hq
    rw [← hg2]
    refine g_blk hz0 kX8_board_26 ?_
    subst hq
    exact ⟨fun h => (by cases h), rfl, rfl⟩
  · rw [if_neg (show ¬ ((f_X8_within w ((Int32.ofInt 2)) ((Int32.ofInt 6))) = 0) from c1)] at hq
    replace hp := hp.2 c1
    refine g_blk hz0 kX8_board_10 ?_
    refine cS0 (s_X8_within h1 ((Int32.ofInt 2)) ((Int32.ofInt 6))) rfl cwX8_within dX8_board_14 rfl ?_
    refine g_blk hz0 kX8_board_17 ?_
    refine ⟨fun c3 => ?_, fun c3 => ?_⟩
    · rw [if_neg (show ¬ ((f_X8_within h1 ((Int32.ofInt 2)) ((Int32.ofInt 6))) = 0) from c3)] at hq
      replace hp := hp.2 c3
      refine g_blk hz0 kX8_board_27 ?_
      refine cV [1, 2, 3, 4, 5, 6, 7, 8, 9, 10, 11, 12] (wP s p) (s_X3_begin s p w h1 hp.1) rfl cwX3_begin dX8_board_33 rfl rfl (hm64_B_P _ _ _ _ _ _ _ _ _ _ _ _ _ _ _ _) ((len_P _ _).trans (len_P _ _).symm) (wB c ((f_X3_begin s p w h1).1) ((f_X3_begin s p w h1).2) t e o oh h k q s1 p1 s2 p2 t1 t2) (pw86_B_P _ _ _ _ _ _ _ _ _ _ _ _ _ _ _ _ _ _) ?_
      replace hp := hp.2
      obtain ⟨g5, hg5⟩ : ∃ z, z = (f_X3_begin s p w h1) := ⟨_, rfl⟩
      try rw [← hg5] at hp
      try rw [← hg5] at hq
      rw [← hg5]
      refine g_blk hz0 kX8_board_36 ?_
      refine cV [13, 14, 15, 16, 17, 18, 19, 20, 21, 22] (wT t) (s_X2_forget t) rfl cwX2_forget dX8_board_40 rfl rfl (hm65_B_T _ _ _ _ _ _ _ _ _ _ _ _ _ _ _ _) ((len_T _).trans (len_T _).symm) (wB c (g5.1) (g5.2) (f_X2_forget t) e o oh h k q s1 p1 s2 p2 t1 t2) (pw87_B_T _ _ _ _ _ _ _ _ _ _ _ _ _ _ _ _ _) ?_
      obtain ⟨g6, hg6⟩ : ∃ z, z = (f_X2_forget t) := ⟨_, rfl⟩
      try rw [← hg6] at hp
      try rw [← hg6] at hq
      rw [← hg6]
      refine g_blk hz0 kX8_board_43 ?_
      refine cV [50, 51, 52, 53, 54, 55, 56, 57, 58, 59, 60, 61, 62, 63] (wQ q) (s_X5_forget q) rfl cwX5_forget dX8_board_47 rfl rfl (hm66_B_Q _ _ _ _ _ _ _ _ _ _ _ _ _ _ _ _) ((len_Q _).trans (len_Q _).symm) (wB c (g5.1) (g5.2) g6 e o oh h k (f_X5_forget q) s1 p1 s2 p2 t1 t2) (pw88_B_Q _ _ _ _ _ _ _ _ _ _ _ _ _ _ _ _ _) ?_
      obtain ⟨g7, hg7⟩ : ∃ z, z = (f_X5_forget q) := ⟨_, rfl⟩
      try rw [← hg7] at hp
      try rw [← hg7] at hq
      rw [← hg7]
      refine g_blk hz0 kX8_board_50 ?_
      refine cVp [2, 3, 4, 5, 6, 7, 8] (wS (g5.1)) (s_X4_howMany (g5.1) hp.1) rfl cwX4_howMany dX8_board_57 rfl rfl (hm67_B_S _ _ _ _ _ _ _ _ _ _ _ _ _ _ _ _) ?_
      replace hp := hp.2
      refine g_blk hz0 kX8_board_60 ?_
      subst hq
      exact ⟨fun h => (by cases h), rfl, rfl⟩
    · rw [if_pos (show (f_X8_within h1 ((Int32.ofInt 2)) ((Int32.ofInt 6))) = 0 from c3)] at hq
      refine g_blk hz0 kX8_board_20 ?_
      refine cV [0, 1, 2, 3, 4, 5, 6, 7, 8, 9, 10, 11, 12, 13, 14, 15, 16, 17, 18, 19, 20, 21, 22, 23, 24, 25, 26, 27, 28, 29, 30, 31, 32, 33, 34, 35, 36, 37, 38, 39, 40, 41, 42, 43, 44, 45, 46, 47, 48, 49, 50, 51, 52, 53, 54, 55, 56, 57, 58, 59, 60, 61, 62, 63, 64, 65, 66, 67, 68, 69, 70, 71, 72, 73, 74, 75, 76, 77, 78, 79, 80, 81, 82, 83, 84, 85, 86, 87, 88, 89, 90, 91, 92, 93, 94, 95, 96, 97, 98, 99, 100, 101, 102, 103, 104, 105, 106, 107, 108, 109, 110, 111] (wB c s p t e o oh h k q s1 p1 s2 p2 t1 t2) (s_X8_refuseBad c s p t e o oh h k q s1 p1 s2 p2 t1 t2 ((Int32.ofInt (-2)))) rfl cwX8_refuseBad dX8_board_23 rfl rfl (hm63_B_B _ _ _ _ _ _ _ _ _ _ _ _ _ _ _ _) ((len_B _ _ _ _ _ _ _ _ _ _ _ _ _ _ _ _).trans (len_B _ _ _ _ _ _ _ _ _ _ _ _ _ _ _ _).symm) (wB ((f_X8_refuseBad c s p t e o oh h k q s1 p1 s2 p2 t1 t2 ((Int32.ofInt (-2)))).2) s p t e o oh h k q s1 p1 s2 p2 t1 t2) (pw85_B_B _ _ _ _ _ _ _ _ _ _ _ _ _ _ _ _ _) ?_
      obtain ⟨g4, hg4⟩ : ∃ z, z = (f_X8_refuseBad c s p t e o oh h k q s1 p1 s2 p2 t1 t2 ((Int32.ofInt (-2)))) := ⟨_, rfl⟩
      try rw [← hg4] at hp
      try rw [← hg4] at hq
      rw [← hg4]
      refine g_blk hz0 kX8_board_26 ?_
      subst hq
      exact ⟨fun h => (by cases h), rfl, rfl⟩

set_option maxHeartbeats 16000000 in
theorem pw90_B_P (c : Rec) (s : Rec) (p : Rec) (t : Rec) (e : Rec) (o : Rec) (oh : Rec) (h : Rec) (k : Rec) (q : Rec) (s1 : Rec) (p1 : Rec) (s2 : Rec) (p2 : Rec) (t1 : Rec) (t2 : Rec)  : putW (wB c s p t e o oh h k q s1 p1 s2 p2 t1 t2) [1, 2, 3, 4, 5, 6, 7, 8, 9, 10, 11, 12] ((wP s p).map (ren [1, 2, 3, 4, 5, 6, 7, 8, 9, 10, 11, 12])) = (wB c s p t e o oh h k q s1 p1 s2 p2 t1 t2) := rfl
set_option maxHeartbeats 16000000 in
theorem pw91_B_S (c : Rec) (s : Rec) (p : Rec) (t : Rec) (e : Rec) (o : Rec) (oh : Rec) (h : Rec) (k : Rec) (q : Rec) (s1 : Rec) (p1 : Rec) (s2 : Rec) (p2 : Rec) (t1 : Rec) (t2 : Rec) (s9 : Rec) : putW (wB c s p t e o oh h k q s1 p1 s2 p2 t1 t2) [2, 3, 4, 5, 6, 7, 8] ((wS s9).map (ren [2, 3, 4, 5, 6, 7, 8])) = (wB c s9 p t e o oh h k q s1 p1 s2 p2 t1 t2) := rfl
def f_X8_hole (c : Rec) (s : Rec) (p : Rec) (t : Rec) (e : Rec) (o : Rec) (oh : Rec) (h : Rec) (k : Rec) (q : Rec) (s1 : Rec) (p1 : Rec) (s2 : Rec) (p2 : Rec) (t1 : Rec) (t2 : Rec) (c1 : Int32) : Int32 × Rec × Rec × Rec × Rec := if (f_X4_onBoard s c1) = 0 then (((f_X8_refuseBad c s p t e o oh h k q s1 p1 s2 p2 t1 t2 ((Int32.ofInt (-2)))).1), ((f_X8_refuseBad c s p t e o oh h k q s1 p1 s2 p2 t1 t2 ((Int32.ofInt (-2)))).2), s, t, q) else (if (f_X4_has s c1) = 0 then (((f_X8_refuseNo c s p t e o oh h k q s1 p1 s2 p2 t1 t2 ((Int32.ofInt (-3)))).1), ((f_X8_refuseNo c s p t e o oh h k q s1 p1 s2 p2 t1 t2 ((Int32.ofInt (-3)))).2), s, t, q) else (if (f_X3_manOn s p c1) = (Int32.ofInt (-1)) then (if 0 < (s.1 2) then (((f_X8_refuseNo c s p t e o oh h k q s1 p1 s2 p2 t1 t2 ((Int32.ofInt (-3)))).1), ((f_X8_refuseNo c s p t e o oh h k q s1 p1 s2 p2 t1 t2 ((Int32.ofInt (-3)))).2), s, t, q) else (if (p.1 7) ≤ 0 then ((Int32.ofInt 1), c, (f_X4_cutOut s c1), (f_X2_forget t), (f_X5_forget q)) else (((f_X8_refuseNo c s p t e o oh h k q s1 p1 s2 p2 t1 t2 ((Int32.ofInt (-3)))).1), ((f_X8_refuseNo c s p t e o oh h k q s1 p1 s2 p2 t1 t2 ((Int32.ofInt (-3)))).2), s, t, q))) else (((f_X8_refuseNo c s p t e o oh h k q s1 p1 s2 p2 t1 t2 ((Int32.ofInt (-3)))).1), ((f_X8_refuseNo c s p t e o oh h k q s1 p1 s2 p2 t1 t2 ((Int32.ofInt (-3)))).2), s, t, q)))
def p_X8_hole (c : Rec) (s : Rec) (p : Rec) (t : Rec) (e : Rec) (o : Rec) (oh : Rec) (h : Rec) (k : Rec) (q : Rec) (s1 : Rec) (p1 : Rec) (s2 : Rec) (p2 : Rec) (t1 : Rec) (t2 : Rec) (c1 : Int32) : Prop := ((f_X4_onBoard s c1) = 0 → True) ∧ (¬ ((f_X4_onBoard s c1) = 0) → ((p_X4_has s c1) ∧ (((f_X4_has s c1) = 0 → True) ∧ (¬ ((f_X4_has s c1) = 0) → ((p_X3_manOn s p c1) ∧ (((f_X3_manOn s p c1) = (Int32.ofInt (-1)) → ((0 < (s.1 2) → True) ∧ (¬ (0 < (s.1 2)) → (((p.1 7) ≤ 0 → ((p_X4_cutOut s c1) ∧ True)) ∧ (¬ ((p.1 7) ≤ 0) → True))))) ∧ (¬ ((f_X3_manOn s p c1) = (Int32.ofInt (-1))) → True)))))))
set_option maxHeartbeats 16000000 in
set_option maxRecDepth 20000 in
theorem s_X8_hole (c : Rec) (s : Rec) (p : Rec) (t : Rec) (e : Rec) (o : Rec) (oh : Rec) (h : Rec) (k : Rec) (q : Rec) (s1 : Rec) (p1 : Rec) (s2 : Rec) (p2 : Rec) (t1 : Rec) (t2 : Rec) (c1 : Int32) (hp : p_X8_hole c s p t e o oh h k q s1 p1 s2 p2 t1 t2 c1) : Spec 3 0 0 mX8_hole [.ref 0, .int c1] (wB c s p t e o oh h k q s1 p1 s2 p2 t1 t2) (Ret (some (.int ((f_X8_hole c s p t e o oh h k q s1 p1 s2 p2 t1 t2 c1).1))) (wB ((f_X8_hole c s p t e o oh h k q s1 p1 s2 p2 t1 t2 c1).2.1) ((f_X8_hole c s p t e o oh h k q s1 p1 s2 p2 t1 t2 c1).2.2.1) p ((f_X8_hole c s p t e o oh h k q s1 p1 s2 p2 t1 t2 c1).2.2.2.1) e o oh h k ((f_X8_hole c s p t e o oh h k q s1 p1 s2 p2 t1 t2 c1).2.2.2.2) s1 p1 s2 p2 t1 t2)) := by
  obtain ⟨zq, hq⟩ : ∃ z, z = (f_X8_hole c s p t e o oh h k q s1 p1 s2 p2 t1 t2 c1) := ⟨_, rfl⟩
  rw [← hq]
  unfold f_X8_hole at hq
  unfold p_X8_hole at hp
  refine Sof fun sc => ?_
  refine g_blk hz0 kX8_hole_0 ?_
  refine cVp [2, 3, 4, 5, 6, 7, 8] (wS s) (s_X4_onBoard s c1) rfl cwX4_onBoard dX8_hole_8 rfl rfl (hm67_B_S _ _ _ _ _ _ _ _ _ _ _ _ _ _ _ _) ?_
  refine g_blk hz0 kX8_hole_11 ?_
  refine ⟨fun c1 => ?_, fun c1 => ?_⟩
  · rw [if_neg (show ¬ ((f_X4_onBoard s c1) = 0) from c1)] at hq
    replace hp := hp.2 c1
    refine g_blk hz0 kX8_hole_21 ?_
    refine cVp [2, 3, 4, 5, 6, 7, 8] (wS s) (s_X4_has s c1 hp.1) rfl cwX4_has dX8_hole_29 rfl rfl (hm67_B_S _ _ _ _ _ _ _ _ _ _ _ _ _ _ _ _) ?_
    replace hp := hp.2
    refine g_blk hz0 kX8_hole_32 ?_
    refine ⟨fun c3 => ?_, fun c3 => ?_⟩
    · rw [if_pos (show (f_X4_has s c1) = 0 from c3)] at hq
      refine g_blk hz0 kX8_hole_70 ?_
      refine cV [0, 1, 2, 3, 4, 5, 6, 7, 8, 9, 10, 11, 12, 13, 14, 15, 16, 17, 18, 19, 20, 21, 22, 23, 24, 25, 26, 27, 28, 29, 30, 31, 32, 33, 34, 35, 36, 37, 38, 39, 40, 41, 42, 43, 44, 45, 46, 47, 48, 49, 50, 51, 52, 53, 54, 55, 56, 57, 58, 59, 60, 61, 62, 63, 64, 65, 66, 67, 68, 69, 70, 71, 72, 73, 74, 75, 76, 77, 78, 79, 80, 81, 82, 83, 84, 85, 86, 87, 88, 89, 90, 91, 92, 93, 94, 95, 96, 97, 98, 99, 100, 101, 102, 103, 104, 105, 106, 107, 108, 109, 110, 111] (wB c s p t e o oh h k q s1 p1 s2 p2 t1 t2) (s_X8_refuseNo c s p t e o oh h k q s1 p1 s2 p2 t1 t2 ((Int32.ofInt (-3)))) rfl cwX8_refuseNo dX8_hole_73 rfl rfl (hm63_B_B _ _ _ _ _ _ _ _ _ _ _ _ _ _ _ _) ((len_B _ _ _ _ _ _ _ _ _ _ _ _ _ _ _ _).trans (len_B _ _ _ _ _ _ _ _ _ _ _ _ _ _ _ _).symm) (wB ((f_X8_refuseNo c s p t e o oh h k q s1 p1 s2 p2 t1 t2 ((Int32.ofInt (-3)))).2) s p t e o oh h k q s1 p1 s2 p2 t1 t2) (pw85_B_B _ _ _ _ _ _ _ _ _ _ _ _ _ _ _ _ _) ?_
      obtain ⟨g4, hg4⟩ : ∃ z, z = (f_X8_refuseNo c s p t e o oh h k q s1 p1 s2 p2 t1 t2 ((Int32.ofInt (-3)))) := ⟨_, rfl⟩
      try rw [← hg4] at hp
      try rw [← hg4] at hq
      rw [← hg4]
      refine g_blk hz0 kX8_hole_76 ?_
      subst hq
      exact ⟨fun h => (by cases h), rfl, rfl⟩
    · rw [if_neg (show ¬ ((f_X4_has s c1) = 0) from c3)] at hq
      replace hp := hp.2 c3
      refine g_blk hz0 kX8_hole_35 ?_
      refine cVp [1, 2, 3, 4, 5, 6, 7, 8, 9, 10, 11, 12] (wP s p) (s_X3_manOn s p c1 hp.1) rfl cwX3_manOn dX8_hole_40 rfl rfl (hm64_B_P _ _ _ _ _ _ _ _ _ _ _ _ _ _ _ _) ?_
      replace hp := hp.2
      refine g_blk hz0 kX8_hole_43 ?_
      refine ⟨fun c5 => ?_, fun c5 => ?_⟩
      · rw [if_neg (show ¬ ((f_X3_manOn s p c1) = (Int32.ofInt (-1))) from c5)] at hq
        refine g_blk hz0 kX8_hole_70 ?_
        refine cV [0, 1, 2, 3, 4, 5, 6, 7, 8, 9, 10, 11, 12, 13, 14, 15, 16, 17, 18, 19, 20, 21, 22, 23, 24, 25, 26, 27, 28, 29, 30, 31, 32, 33, 34, 35, 36, 37, 38, 39, 40, 41, 42, 43, 44, 45, 46, 47, 48, 49, 50, 51, 52, 53, 54, 55, 56, 57, 58, 59, 60, 61, 62, 63, 64, 65, 66, 67, 68, 69, 70, 71, 72, 73, 74, 75, 76, 77, 78, 79, 80, 81, 82, 83, 84, 85, 86, 87, 88, 89, 90, 91, 92, 93, 94, 95, 96, 97, 98, 99, 100, 101, 102, 103, 104, 105, 106, 107, 108, 109, 110, 111] (wB c s p t e o oh h k q s1 p1 s2 p2 t1 t2) (s_X8_refuseNo c s p t e o oh h k q s1 p1 s2 p2 t1 t2 ((Int32.ofInt (-3)))) rfl cwX8_refuseNo dX8_hole_73 rfl rfl (hm63_B_B _ _ _ _ _ _ _ _ _ _ _ _ _ _ _ _) ((len_B _ _ _ _ _ _ _ _ _ _ _ _ _ _ _ _).trans (len_B _ _ _ _ _ _ _ _ _ _ _ _ _ _ _ _).symm) (wB ((f_X8_refuseNo c s p t e o oh h k q s1 p1 s2 p2 t1 t2 ((Int32.ofInt (-3)))).2) s p t e o oh h k q s1 p1 s2 p2 t1 t2) (pw85_B_B _ _ _ _ _ _ _ _ _ _ _ _ _ _ _ _ _) ?_
        obtain ⟨g13, hg13⟩ : ∃ z, z = (f_X8_refuseNo c s p t e o oh h k q s1 p1 s2 p2 t1 t2 ((Int32.ofInt (-3)))) := ⟨_, rfl⟩
        try rw [← hg13] at hp
        try rw [← hg13] at hq
        rw [← hg13]
        refine g_blk hz0 kX8_hole_76 ?_
        subst hq
        exact ⟨fun h => (by cases h), rfl, rfl⟩
      · rw [if_pos (show (f_X3_manOn s p c1) = (Int32.ofInt (-1)) from c5)] at hq
        replace hp := hp.1 c5
        refine g_blk hz0 kX8_hole_47 ?_
        refine ⟨fun c6 => ?_, fun c6 => ?_⟩
        · rw [if_pos (show 0 < (s.1 2) from c6)] at hq
          refine g_blk hz0 kX8_hole_70 ?_
          refine cV [0, 1, 2, 3, 4, 5, 6, 7, 8, 9, 10, 11, 12, 13, 14, 15, 16, 17, 18, 19, 20, 21, 22, 23, 24, 25, 26, 27, 28, 29, 30, 31, 32, 33, 34, 35, 36, 37, 38, 39, 40, 41, 42, 43, 44, 45, 46, 47, 48, 49, 50, 51, 52, 53, 54, 55, 56, 57, 58, 59, 60, 61, 62, 63, 64, 65, 66, 67, 68, 69, 70, 71, 72, 73, 74, 75, 76, 77, 78, 79, 80, 81, 82, 83, 84, 85, 86, 87, 88, 89, 90, 91, 92, 93, 94, 95, 96, 97, 98, 99, 100, 101, 102, 103, 104, 105, 106, 107, 108, 109, 110, 111] (wB c s p t e o oh h k q s1 p1 s2 p2 t1 t2) (s_X8_refuseNo c s p t e o oh h k q s1 p1 s2 p2 t1 t2 ((Int32.ofInt (-3)))) rfl cwX8_refuseNo dX8_hole_73 rfl rfl (hm63_B_B _ _ _ _ _ _ _ _ _ _ _ _ _ _ _ _) ((len_B _ _ _ _ _ _ _ _ _ _ _ _ _ _ _ _).trans (len_B _ _ _ _ _ _ _ _ _ _ _ _ _ _ _ _).symm) (wB ((f_X8_refuseNo c s p t e o oh h k q s1 p1 s2 p2 t1 t2 ((Int32.ofInt (-3)))).2) s p t e o oh h k q s1 p1 s2 p2 t1 t2) (pw85_B_B _ _ _ _ _ _ _ _ _ _ _ _ _ _ _ _ _) ?_
          obtain ⟨g7, hg7⟩ : ∃ z, z = (f_X8_refuseNo c s p t e o oh h k q s1 p1 s2 p2 t1 t2 ((Int32.ofInt (-3)))) := ⟨_, rfl⟩
          try rw [← hg7] at hp
          try rw [← hg7] at hq
          rw [← hg7]
          refine g_blk hz0 kX8_hole_76 ?_
          subst hq
          exact ⟨fun h => (by cases h), rfl, rfl⟩
        · rw [if_neg (show ¬ (0 < (s.1 2)) from c6)] at hq
          replace hp := hp.2 c6
          refine g_blk hz0 kX8_hole_60 ?_
          refine ⟨fun c8 => ?_, fun c8 => ?_⟩
          · rw [if_pos (show (p.1 7) ≤ 0 from c8)] at hq
            replace hp := hp.1 c8
            refine g_blk hz0 kX8_hole_77 ?_
            refine cV [2, 3, 4, 5, 6, 7, 8] (wS s) (s_X4_cutOut s c1 hp.1) rfl cwX4_cutOut dX8_hole_85 rfl rfl (hm67_B_S _ _ _ _ _ _ _ _ _ _ _ _ _ _ _ _) ((len_S _).trans (len_S _).symm) (wB c (f_X4_cutOut s c1) p t e o oh h k q s1 p1 s2 p2 t1 t2) (pw91_B_S _ _ _ _ _ _ _ _ _ _ _ _ _ _ _ _ _) ?_
            replace hp := hp.2
            obtain ⟨g9, hg9⟩ : ∃ z, z = (f_X4_cutOut s c1) := ⟨_, rfl⟩
            try rw [← hg9] at hp
            try rw [← hg9] at hq
            rw [← hg9]
            refine g_blk hz0 kX8_hole_88 ?_
            refine cV [13, 14, 15, 16, 17, 18, 19, 20, 21, 22] (wT t) (s_X2_forget t) rfl cwX2_forget dX8_hole_92 rfl rfl (hm65_B_T _ _ _ _ _ _ _ _ _ _ _ _ _ _ _ _) ((len_T _).trans (len_T _).symm) (wB c g9 p (f_X2_forget t) e o oh h k q s1 p1 s2 p2 t1 t2) (pw87_B_T _ _ _ _ _ _ _ _ _ _ _ _ _ _ _ _ _) ?_
            obtain ⟨g10, hg10⟩ : ∃ z, z = (f_X2_forget t) := ⟨_, rfl⟩
            try rw [← hg10] at hp
            try rw [← hg10] at hq
            rw [← hg10]
            refine g_blk hz0 kX8_hole_95 ?_
            refine cV [50, 51, 52, 53, 54, 55, 56, 57, 58, 59, 60, 61, 62, 63] (wQ q) (s_X5_forget q) rfl cwX5_forget dX8_hole_99 rfl rfl (hm66_B_Q _ _ _ _ _ _ _ _ _ _ _ _ _ _ _ _) ((len_Q _).trans (len_Q _).symm) (wB c g9 p g10 e o oh h k (f_X5_forget q) s1 p1 s2 p2 t1 t2) (pw88_B_Q _ _ _ _ _ _ _ _ _ _ _ _ _ _ _ _ _) ?_
            obtain ⟨g11, hg11⟩ : ∃ z, z = (f_X5_forget q) := ⟨_, rfl⟩
            try rw [← hg11] at hp
            try rw [← hg11] at hq
            rw [← hg11]
            refine g_blk hz0 kX8_hole_102 ?_
            subst hq
            exact ⟨fun h => (by cases h), rfl, rfl⟩
          · rw [if_neg (show ¬ ((p.1 7) ≤ 0) from c8)] at hq
            refine g_blk hz0 kX8_hole_70 ?_
            refine cV [0, 1, 2, 3, 4, 5, 6, 7, 8, 9, 10, 11, 12, 13, 14, 15, 16, 17, 18, 19, 20, 21, 22, 23, 24, 25, 26, 27, 28, 29, 30, 31, 32, 33, 34, 35, 36, 37, 38, 39, 40, 41, 42, 43, 44, 45, 46, 47, 48, 49, 50, 51, 52, 53, 54, 55, 56, 57, 58, 59, 60, 61, 62, 63, 64, 65, 66, 67, 68, 69, 70, 71, 72, 73, 74, 75, 76, 77, 78, 79, 80, 81, 82, 83, 84, 85, 86, 87, 88, 89, 90, 91, 92, 93, 94, 95, 96, 97, 98, 99, 100, 101, 102, 103, 104, 105, 106, 107, 108, 109, 110, 111] (wB c s p t e o oh h k q s1 p1 s2 p2 t1 t2) (s_X8_refuseNo c s p t e o oh h k q s1 p1 s2 p2 t1 t2 ((Int32.ofInt (-3)))) rfl cwX8_refuseNo dX8_hole_73 rfl rfl (hm63_B_B _ _ _ _ _ _ _ _ _ _ _ _ _ _ _ _) ((len_B _ _ _ _ _ _ _ _ _ _ _ _ _ _ _ _).trans (len_B _ _ _ _ _ _ _ _ _ _ _ _ _ _ _ _).symm) (wB ((f_X8_refuseNo c s p t e o oh h k q s1 p1 s2 p2 t1 t2 ((Int32.ofInt (-3)))).2) s p t e o oh h k q s1 p1 s2 p2 t1 t2) (pw85_B_B _ _ _ _ _ _ _ _ _ _ _ _ _ _ _ _ _) ?_
            obtain ⟨g12, hg12⟩ : ∃ z, z = (f_X8_refuseNo c s p t e o oh h k q s1 p1 s2 p2 t1 t2 ((Int32.ofInt (-3)))) := ⟨_, rfl⟩
            try rw [← hg12] at hp
            try rw [← hg12] at hq
            rw [← hg12]
            refine g_blk hz0 kX8_hole_76 ?_
            subst hq
            exact ⟨fun h => (by cases h), rfl, rfl⟩
  · rw [if_pos (show (f_X4_onBoard s c1) = 0 from c1)] at hq
    refine g_blk hz0 kX8_hole_14 ?_
    refine cV [0, 1, 2, 3, 4, 5, 6, 7, 8, 9, 10, 11, 12, 13, 14, 15, 16, 17, 18, 19, 20, 21, 22, 23, 24, 25, 26, 27, 28, 29, 30, 31, 32, 33, 34, 35, 36, 37, 38, 39, 40, 41, 42, 43, 44, 45, 46, 47, 48, 49, 50, 51, 52, 53, 54, 55, 56, 57, 58, 59, 60, 61, 62, 63, 64, 65, 66, 67, 68, 69, 70, 71, 72, 73, 74, 75, 76, 77, 78, 79, 80, 81, 82, 83, 84, 85, 86, 87, 88, 89, 90, 91, 92, 93, 94, 95, 96, 97, 98, 99, 100, 101, 102, 103, 104, 105, 106, 107, 108, 109, 110, 111] (wB c s p t e o oh h k q s1 p1 s2 p2 t1 t2) (s_X8_refuseBad c s p t e o oh h k q s1 p1 s2 p2 t1 t2 ((Int32.ofInt (-2)))) rfl cwX8_refuseBad dX8_hole_17 rfl rfl (hm63_B_B _ _ _ _ _ _ _ _ _ _ _ _ _ _ _ _) ((len_B _ _ _ _ _ _ _ _ _ _ _ _ _ _ _ _).trans (len_B _ _ _ _ _ _ _ _ _ _ _ _ _ _ _ _).symm) (wB ((f_X8_refuseBad c s p t e o oh h k q s1 p1 s2 p2 t1 t2 ((Int32.ofInt (-2)))).2) s p t e o oh h k q s1 p1 s2 p2 t1 t2) (pw85_B_B _ _ _ _ _ _ _ _ _ _ _ _ _ _ _ _ _) ?_
    obtain ⟨g2, hg2⟩ : ∃ z, z = (f_X8_refuseBad c s p t e o oh h k q s1 p1 s2 p2 t1 t2 ((Int32.ofInt (-2)))) := ⟨_, rfl⟩
    try rw [← hg2] at hp
    try rw [← hg2] at hq
    rw [← hg2]
    refine g_blk hz0 kX8_hole_20 ?_
    subst hq
    exact ⟨fun h => (by cases h), rfl, rfl⟩

set_option maxHeartbeats 16000000 in
theorem pw92_B_P (c : Rec) (s : Rec) (p : Rec) (t : Rec) (e : Rec) (o : Rec) (oh : Rec) (h : Rec) (k : Rec) (q : Rec) (s1 : Rec) (p1 : Rec) (s2 : Rec) (p2 : Rec) (t1 : Rec) (t2 : Rec) (p9 : Rec) : putW (wB c s p t e o oh h k q s1 p1 s2 p2 t1 t2) [1, 2, 3, 4, 5, 6, 7, 8, 9, 10, 11, 12] ((wP s p9).map (ren [1, 2, 3, 4, 5, 6, 7, 8, 9, 10, 11, 12])) = (wB c s p9 t e o oh h k q s1 p1 s2 p2 t1 t2) := rfl
def f_X8_man_33  (c : Rec) (s : Rec) (p : Rec) (t : Rec) (e : Rec) (o : Rec) (oh : Rec) (h : Rec) (k : Rec) (q : Rec) (s1 : Rec) (p1 : Rec) (s2 : Rec) (p2 : Rec) (t1 : Rec) (t2 : Rec) (v1 : Int32) (v2 : Int32) (v3 : Int32) (v4 : Int32) (u0 : Int32) : Int32 × Rec × Rec × Rec := if u0 = 0 then (((f_X8_refuseBad c s p t e o oh h k q s1 p1 s2 p2 t1 t2 ((Int32.ofInt (-2)))).1), ((f_X8_refuseBad c s p t e o oh h k q s1 p1 s2 p2 t1 t2 ((Int32.ofInt (-2)))).2), p, t) else (if (f_X4_has s v4) = 0 then (((f_X8_refuseBad c s p t e o oh h k q s1 p1 s2 p2 t1 t2 ((Int32.ofInt (-2)))).1), ((f_X8_refuseBad c s p t e o oh h k q s1 p1 s2 p2 t1 t2 ((Int32.ofInt (-2)))).2), p, t) else (if (f_X3_manOn s p v4) = (Int32.ofInt (-1)) then (if (p.1 5) < (Int32.ofInt 8) then (((f_X3_enter s p v1 v2 v3 v4).1), c, ((f_X3_enter s p v1 v2 v3 v4).2), (f_X2_forget t)) else (((f_X8_refuseFull c s p t e o oh h k q s1 p1 s2 p2 t1 t2).1), ((f_X8_refuseFull c s p t e o oh h k q s1 p1 s2 p2 t1 t2).2), p, t)) else (((f_X8_refuseBad c s p t e o oh h k q s1 p1 s2 p2 t1 t2 ((Int32.ofInt (-2)))).1), ((f_X8_refuseBad c s p t e o oh h k q s1 p1 s2 p2 t1 t2 ((Int32.ofInt (-2)))).2), p, t)))
def p_X8_man_33  (c : Rec) (s : Rec) (p : Rec) (t : Rec) (e : Rec) (o : Rec) (oh : Rec) (h : Rec) (k : Rec) (q : Rec) (s1 : Rec) (p1 : Rec) (s2 : Rec) (p2 : Rec) (t1 : Rec) (t2 : Rec) (v1 : Int32) (v2 : Int32) (v3 : Int32) (v4 : Int32) (u0 : Int32) : Prop := (u0 = 0 → True) ∧ (¬ (u0 = 0) → ((p_X4_has s v4) ∧ (((f_X4_has s v4) = 0 → True) ∧ (¬ ((f_X4_has s v4) = 0) → ((p_X3_manOn s p v4) ∧ (((f_X3_manOn s p v4) = (Int32.ofInt (-1)) → (((p.1 5) < (Int32.ofInt 8) → ((p_X3_enter s p v1 v2 v3 v4) ∧ True)) ∧ (¬ ((p.1 5) < (Int32.ofInt 8)) → True))) ∧ (¬ ((f_X3_manOn s p v4) = (Int32.ofInt (-1))) → True)))))))
set_option maxHeartbeats 16000000 in
set_option maxRecDepth 20000 in
theorem l_X8_man_33 (sc : SC) (s : Rec) (e : Rec) (o : Rec) (oh : Rec) (h : Rec) (k : Rec) (q : Rec) (s1 : Rec) (p1 : Rec) (s2 : Rec) (p2 : Rec) (t1 : Rec) (t2 : Rec)  (zq : Int32 × Rec × Rec × Rec)  (c : Rec) (p : Rec) (t : Rec) (v1 : Int32) (v2 : Int32) (v3 : Int32) (v4 : Int32) (u0 : Int32) (hp : p_X8_man_33 c s p t e o oh h k q s1 p1 s2 p2 t1 t2 v1 v2 v3 v4 u0) (hq : zq = f_X8_man_33 c s p t e o oh h k q s1 p1 s2 p2 t1 t2 v1 v2 v3 v4 u0) : Good sc 2 0 0 112 mX8_man (Ret (some (.int (zq.1))) (wB (zq.2.1) s (zq.2.2.1) (zq.2.2.2) e o oh h k q s1 p1 s2 p2 t1 t2)) 0 0 33 [some (.ref 0), some (.int v1), some (.int v2), some (.int v3), some (.int v4), none] [.int u0] (wB c s p t e o oh h k q s1 p1 s2 p2 t1 t2) := by
  unfold p_X8_man_33 at hp
  unfold f_X8_man_33 at hq
  refine g_blk hz0 kX8_man_33 ?_
  refine ⟨fun c4 => ?_, fun c4 => ?_⟩
  · rw [if_pos (show u0 = 0 from c4)] at hq
    refine g_blk hz0 kX8_man_68 ?_
    refine cV [0, 1, 2, 3, 4, 5, 6, 7, 8, 9, 10, 11, 12, 13, 14, 15, 16, 17, 18, 19, 20, 21, 22, 23, 24, 25, 26, 27, 28, 29, 30, 31, 32, 33, 34, 35, 36, 37, 38, 39, 40, 41, 42, 43, 44, 45, 46, 47, 48, 49, 50, 51, 52, 53, 54, 55, 56, 57, 58, 59, 60, 61, 62, 63, 64, 65, 66, 67, 68, 69, 70, 71, 72, 73, 74, 75, 76, 77, 78, 79, 80, 81, 82, 83, 84, 85, 86, 87, 88, 89, 90, 91, 92, 93, 94, 95, 96, 97, 98, 99, 100, 101, 102, 103, 104, 105, 106, 107, 108, 109, 110, 111] (wB c s p t e o oh h k q s1 p1 s2 p2 t1 t2) (s_X8_refuseBad c s p t e o oh h k q s1 p1 s2 p2 t1 t2 ((Int32.ofInt (-2)))) rfl cwX8_refuseBad dX8_man_71 rfl rfl (hm63_B_B _ _ _ _ _ _ _ _ _ _ _ _ _ _ _ _) ((len_B _ _ _ _ _ _ _ _ _ _ _ _ _ _ _ _).trans (len_B _ _ _ _ _ _ _ _ _ _ _ _ _ _ _ _).symm) (wB ((f_X8_refuseBad c s p t e o oh h k q s1 p1 s2 p2 t1 t2 ((Int32.ofInt (-2)))).2) s p t e o oh h k q s1 p1 s2 p2 t1 t2) (pw85_B_B _ _ _ _ _ _ _ _ _ _ _ _ _ _ _ _ _) ?_
    obtain ⟨g5, hg5⟩ : ∃ z, z = (f_X8_refuseBad c s p t e o oh h k q s1 p1 s2 p2 t1 t2 ((Int32.ofInt (-2)))) := ⟨_, rfl⟩
    try rw [← hg5] at hp
    try rw [← hg5] at hq
    rw [← hg5]
    refine g_blk hz0 kX8_man_74 ?_
    subst hq
    exact ⟨fun h => (by cases h), rfl, rfl⟩
  · rw [if_neg (show ¬ (u0 = 0) from c4)] at hq
    replace hp := hp.2 c4
    refine g_blk hz0 kX8_man_40 ?_
    refine cVp [2, 3, 4, 5, 6, 7, 8] (wS s) (s_X4_has s v4 hp.1) rfl cwX4_has dX8_man_49 rfl rfl (hm67_B_S _ _ _ _ _ _ _ _ _ _ _ _ _ _ _ _) ?_
    replace hp := hp.2
    refine g_blk hz0 kX8_man_52 ?_
    refine ⟨fun c6 => ?_, fun c6 => ?_⟩
    · rw [if_pos (show (f_X4_has s v4) = 0 from c6)] at hq
      refine g_blk hz0 kX8_man_68 ?_
      refine cV [0, 1, 2, 3, 4, 5, 6, 7, 8, 9, 10, 11, 12, 13, 14, 15, 16, 17, 18, 19, 20, 21, 22, 23, 24, 25, 26, 27, 28, 29, 30, 31, 32, 33, 34, 35, 36, 37, 38, 39, 40, 41, 42, 43, 44, 45, 46, 47, 48, 49, 50, 51, 52, 53, 54, 55, 56, 57, 58, 59, 60, 61, 62, 63, 64, 65, 66, 67, 68, 69, 70, 71, 72, 73, 74, 75, 76, 77, 78, 79, 80, 81, 82, 83, 84, 85, 86, 87, 88, 89, 90, 91, 92, 93, 94, 95, 96, 97, 98, 99, 100, 101, 102, 103, 104, 105, 106, 107, 108, 109, 110, 111] (wB c s p t e o oh h k q s1 p1 s2 p2 t1 t2) (s_X8_refuseBad c s p t e o oh h k q s1 p1 s2 p2 t1 t2 ((Int32.ofInt (-2)))) rfl cwX8_refuseBad dX8_man_71 rfl rfl (hm63_B_B _ _ _ _ _ _ _ _ _ _ _ _ _ _ _ _) ((len_B _ _ _ _ _ _ _ _ _ _ _ _ _ _ _ _).trans (len_B _ _ _ _ _ _ _ _ _ _ _ _ _ _ _ _).symm) (wB ((f_X8_refuseBad c s p t e o oh h k q s1 p1 s2 p2 t1 t2 ((Int32.ofInt (-2)))).2) s p t e o oh h k q s1 p1 s2 p2 t1 t2) (pw85_B_B _ _ _ _ _ _ _ _ _ _ _ _ _ _ _ _ _) ?_
      obtain ⟨g7, hg7⟩ : ∃ z, z = (f_X8_refuseBad c s p t e o oh h k q s1 p1 s2 p2 t1 t2 ((Int32.ofInt (-2)))) := ⟨_, rfl⟩
      try rw [← hg7] at hp
      try rw [← hg7] at hq
      rw [← hg7]
      refine g_blk hz0 kX8_man_74 ?_
      subst hq
      exact ⟨fun h => (by cases h), rfl, rfl⟩
    · rw [if_neg (show ¬ ((f_X4_has s v4) = 0) from c6)] at hq
      replace hp := hp.2 c6
      refine g_blk hz0 kX8_man_55 ?_
      refine cVp [1, 2, 3, 4, 5, 6, 7, 8, 9, 10, 11, 12] (wP s p) (s_X3_manOn s p v4 hp.1) rfl cwX3_manOn dX8_man_61 rfl rfl (hm64_B_P _ _ _ _ _ _ _ _ _ _ _ _ _ _ _ _) ?_
      replace hp := hp.2
      refine g_blk hz0 kX8_man_64 ?_
      refine ⟨fun c8 => ?_, fun c8 => ?_⟩
      · rw [if_pos (show (f_X3_manOn s p v4) = (Int32.ofInt (-1)) from c8)] at hq
        replace hp := hp.1 c8
        refine g_blk hz0 kX8_man_75 ?_
        refine ⟨fun c9 => ?_, fun c9 => ?_⟩
        · rw [if_pos (show (p.1 5) < (Int32.ofInt 8) from c9)] at hq
          replace hp := hp.1 c9
          refine g_blk hz0 kX8_man_92 ?_
          refine cV [13, 14, 15, 16, 17, 18, 19, 20, 21, 22] (wT t) (s_X2_forget t) rfl cwX2_forget dX8_man_96 rfl rfl (hm65_B_T _ _ _ _ _ _ _ _ _ _ _ _ _ _ _ _) ((len_T _).trans (len_T _).symm) (wB c s p (f_X2_forget t) e o oh h k q s1 p1 s2 p2 t1 t2) (pw87_B_T _ _ _ _ _ _ _ _ _ _ _ _ _ _ _ _ _) ?_
          obtain ⟨g10, hg10⟩ : ∃ z, z = (f_X2_forget t) := ⟨_, rfl⟩
          try rw [← hg10] at hp
          try rw [← hg10] at hq
          rw [← hg10]
          refine g_blk hz0 kX8_man_99 ?_
          refine cV [1, 2, 3, 4, 5, 6, 7, 8, 9, 10, 11, 12] (wP s p) (s_X3_enter s p v1 v2 v3 v4 hp.1) rfl cwX3_enter dX8_man_108 rfl rfl (hm64_B_P _ _ _ _ _ _ _ _ _ _ _ _ _ _ _ _) ((len_P _ _).trans (len_P _ _).symm) (wB c s ((f_X3_enter s p v1 v2 v3 v4).2) g10 e o oh h k q s1 p1 s2 p2 t1 t2) (pw92_B_P _ _ _ _ _ _ _ _ _ _ _ _ _ _ _ _ _) ?_
          replace hp := hp.2
          obtain ⟨g11, hg11⟩ : ∃ z, z = (f_X3_enter s p v1 v2 v3 v4) := ⟨_, rfl⟩
          try rw [← hg11] at hp
          try rw [← hg11] at hq
          rw [← hg11]
          refine g_blk hz0 kX8_man_111 ?_
          subst hq
          exact ⟨fun h => (by cases h), rfl, rfl⟩
        · rw [if_neg (show ¬ ((p.1 5) < (Int32.ofInt 8)) from c9)] at hq
          refine g_blk hz0 kX8_man_87 ?_
          refine cV [0, 1, 2, 3, 4, 5, 6, 7, 8, 9, 10, 11, 12, 13, 14, 15, 16, 17, 18, 19, 20, 21, 22, 23, 24, 25, 26, 27, 28, 29, 30, 31, 32, 33, 34, 35, 36, 37, 38, 39, 40, 41, 42, 43, 44, 45, 46, 47, 48, 49, 50, 51, 52, 53, 54, 55, 56, 57, 58, 59, 60, 61, 62, 63, 64, 65, 66, 67, 68, 69, 70, 71, 72, 73, 74, 75, 76, 77, 78, 79, 80, 81, 82, 83, 84, 85, 86, 87, 88, 89, 90, 91, 92, 93, 94, 95, 96, 97, 98, 99, 100, 101, 102, 103, 104, 105, 106, 107, 108, 109, 110, 111] (wB c s p t e o oh h k q s1 p1 s2 p2 t1 t2) (s_X8_refuseFull c s p t e o oh h k q s1 p1 s2 p2 t1 t2) rfl cwX8_refuseFull dX8_man_88 rfl rfl (hm63_B_B _ _ _ _ _ _ _ _ _ _ _ _ _ _ _ _) ((len_B _ _ _ _ _ _ _ _ _ _ _ _ _ _ _ _).trans (len_B _ _ _ _ _ _ _ _ _ _ _ _ _ _ _ _).symm) (wB ((f_X8_refuseFull c s p t e o oh h k q s1 p1 s2 p2 t1 t2).2) s p t e o oh h k q s1 p1 s2 p2 t1 t2) (pw85_B_B _ _ _ _ _ _ _ _ _ _ _ _ _ _ _ _ _) ?_
          obtain ⟨g12, hg12⟩ : ∃ z, z = (f_X8_refuseFull c s p t e o oh h k q s1 p1 s2 p2 t1 t2) := ⟨_, rfl⟩
          try rw [← hg12] at hp
          try rw [← hg12] at hq
          rw [← hg12]
          refine g_blk hz0 kX8_man_91 ?_
          subst hq
          exact ⟨fun h => (by cases h), rfl, rfl⟩
      · rw [if_neg (show ¬ ((f_X3_manOn s p v4) = (Int32.ofInt (-1))) from c8)] at hq
        refine g_blk hz0 kX8_man_68 ?_
        refine cV [0, 1, 2, 3, 4, 5, 6, 7, 8, 9, 10, 11, 12, 13, 14, 15, 16, 17, 18, 19, 20, 21, 22, 23, 24, 25, 26, 27, 28, 29, 30, 31, 32, 33, 34, 35, 36, 37, 38, 39, 40, 41, 42, 43, 44, 45, 46, 47, 48, 49, 50, 51, 52, 53, 54, 55, 56, 57, 58, 59, 60, 61, 62, 63, 64, 65, 66, 67, 68, 69, 70, 71, 72, 73, 74, 75, 76, 77, 78, 79, 80, 81, 82, 83, 84, 85, 86, 87, 88, 89, 90, 91, 92, 93, 94, 95, 96, 97, 98, 99, 100, 101, 102, 103, 104, 105, 106, 107, 108, 109, 110, 111] (wB c s p t e o oh h k q s1 p1 s2 p2 t1 t2) (s_X8_refuseBad c s p t e o oh h k q s1 p1 s2 p2 t1 t2 ((Int32.ofInt (-2)))) rfl cwX8_refuseBad dX8_man_71 rfl rfl (hm63_B_B _ _ _ _ _ _ _ _ _ _ _ _ _ _ _ _) ((len_B _ _ _ _ _ _ _ _ _ _ _ _ _ _ _ _).trans (len_B _ _ _ _ _ _ _ _ _ _ _ _ _ _ _ _).symm) (wB ((f_X8_refuseBad c s p t e o oh h k q s1 p1 s2 p2 t1 t2 ((Int32.ofInt (-2)))).2) s p t e o oh h k q s1 p1 s2 p2 t1 t2) (pw85_B_B _ _ _ _ _ _ _ _ _ _ _ _ _ _ _ _ _) ?_
        obtain ⟨g13, hg13⟩ : ∃ z, z = (f_X8_refuseBad c s p t e o oh h k q s1 p1 s2 p2 t1 t2 ((Int32.ofInt (-2)))) := ⟨_, rfl⟩
        try rw [← hg13] at hp
        try rw [← hg13] at hq
        rw [← hg13]
        refine g_blk hz0 kX8_man_74 ?_
        subst hq
        exact ⟨fun h => (by cases h), rfl, rfl⟩
def f_X8_man (c : Rec) (s : Rec) (p : Rec) (t : Rec) (e : Rec) (o : Rec) (oh : Rec) (h : Rec) (k : Rec) (q : Rec) (s1 : Rec) (p1 : Rec) (s2 : Rec) (p2 : Rec) (t1 : Rec) (t2 : Rec) (k1 : Int32) (o1 : Int32) (h1 : Int32) (c1 : Int32) : Int32 × Rec × Rec × Rec := if (f_X8_within k1 ((Int32.ofInt 0)) ((Int32.ofInt 4))) = 0 then (f_X8_man_33 c s p t e o oh h k q s1 p1 s2 p2 t1 t2 k1 o1 h1 c1 ((Int32.ofInt 0))) else (if (f_X8_within o1 ((Int32.ofInt 0)) ((Int32.ofInt 1))) = 0 then (f_X8_man_33 c s p t e o oh h k q s1 p1 s2 p2 t1 t2 k1 o1 h1 c1 ((Int32.ofInt 0))) else (if (f_X8_within h1 ((Int32.ofInt 1)) ((Int32.ofInt 9))) = 0 then (f_X8_man_33 c s p t e o oh h k q s1 p1 s2 p2 t1 t2 k1 o1 h1 c1 ((Int32.ofInt 0))) else (f_X8_man_33 c s p t e o oh h k q s1 p1 s2 p2 t1 t2 k1 o1 h1 c1 ((Int32.ofInt 1)))))
def p_X8_man (c : Rec) (s : Rec) (p : Rec) (t : Rec) (e : Rec) (o : Rec) (oh : Rec) (h : Rec) (k : Rec) (q : Rec) (s1 : Rec) (p1 : Rec) (s2 : Rec) (p2 : Rec) (t1 : Rec) (t2 : Rec) (k1 : Int32) (o1 : Int32) (h1 : Int32) (c1 : Int32) : Prop := ((f_X8_within k1 ((Int32.ofInt 0)) ((Int32.ofInt 4))) = 0 → (p_X8_man_33 c s p t e o oh h k q s1 p1 s2 p2 t1 t2 k1 o1 h1 c1 ((Int32.ofInt 0)))) ∧ (¬ ((f_X8_within k1 ((Int32.ofInt 0)) ((Int32.ofInt 4))) = 0) → (((f_X8_within o1 ((Int32.ofInt 0)) ((Int32.ofInt 1))) = 0 → (p_X8_man_33 c s p t e o oh h k q s1 p1 s2 p2 t1 t2 k1 o1 h1 c1 ((Int32.ofInt 0)))) ∧ (¬ ((f_X8_within o1 ((Int32.ofInt 0)) ((Int32.ofInt 1))) = 0) → (((f_X8_within h1 ((Int32.ofInt 1)) ((Int32.ofInt 9))) = 0 → (p_X8_man_33 c s p t e o oh h k q s1 p1 s2 p2 t1 t2 k1 o1 h1 c1 ((Int32.ofInt 0)))) ∧ (¬ ((f_X8_within h1 ((Int32.ofInt 1)) ((Int32.ofInt 9))) = 0) → (p_X8_man_33 c s p t e o oh h k q s1 p1 s2 p2 t1 t2 k1 o1 h1 c1 ((Int32.ofInt 1))))))))
set_option maxHeartbeats 16000000 in
set_option maxRecDepth 20000 in
theorem s_X8_man (c : Rec) (s : Rec) (p : Rec) (t : Rec) (e : Rec) (o : Rec) (oh : Rec) (h : Rec) (k : Rec) (q : Rec) (s1 : Rec) (p1 : Rec) (s2 : Rec) (p2 : Rec) (t1 : Rec) (t2 : Rec) (k1 : Int32) (o1 : Int32) (h1 : Int32) (c1 : Int32) (hp : p_X8_man c s p t e o oh h k q s1 p1 s2 p2 t1 t2 k1 o1 h1 c1) : Spec 2 0 0 mX8_man [.ref 0, .int k1, .int o1, .int h1, .int c1] (wB c s p t e o oh h k q s1 p1 s2 p2 t1 t2) (Ret (some (.int ((f_X8_man c s p t e o oh h k q s1 p1 s2 p2 t1 t2 k1 o1 h1 c1).1))) (wB ((f_X8_man c s p t e o oh h k q s1 p1 s2 p2 t1 t2 k1 o1 h1 c1).2.1) s ((f_X8_man c s p t e o oh h k q s1 p1 s2 p2 t1 t2 k1 o1 h1 c1).2.2.1) ((f_X8_man c s p t e o oh h k q s1 p1 s2 p2 t1 t2 k1 o1 h1 c1).2.2.2) e o oh h k q s1 p1 s2 p2 t1 t2)) := by
  obtain ⟨zq, hq⟩ : ∃ z, z = (f_X8_man c s p t e o oh h k q s1 p1 s2 p2 t1 t2 k1 o1 h1 c1) := ⟨_, rfl⟩
  rw [← hq]
  unfold f_X8_man at hq
  unfold p_X8_man at hp
  refine Sof fun sc => ?_
  refine g_blk hz0 kX8_man_0 ?_
  refine cS0 (s_X8_within k1 ((Int32.ofInt 0)) ((Int32.ofInt 4))) rfl cwX8_within dX8_man_3 rfl ?_
  refine g_blk hz0 kX8_man_6 ?_
  refine ⟨fun c1 => ?_, fun c1 => ?_⟩
  · rw [if_pos (show (f_X8_within k1 ((Int32.ofInt 0)) ((Int32.ofInt 4))) = 0 from c1)] at hq
    replace hp := hp.1 c1
    refine g_blk hz0 kX8_man_32 ?_
    refine g_le (L2 := [some (.ref 0), some (.int k1), some (.int o1), some (.int h1), some (.int c1), none]) ⟨rfl, rfl, rfl, rfl, rfl, trivial⟩ ?_
    exact l_X8_man_33 sc s e o oh h k q s1 p1 s2 p2 t1 t2 zq c p t k1 o1 h1 c1 ((Int32.ofInt 0)) hp hq
  · rw [if_neg (show ¬ ((f_X8_within k1 ((Int32.ofInt 0)) ((Int32.ofInt 4))) = 0) from c1)] at hq
    replace hp := hp.2 c1
    refine g_blk hz0 kX8_man_9 ?_
    refine cS0 (s_X8_within o1 ((Int32.ofInt 0)) ((Int32.ofInt 1))) rfl cwX8_within dX8_man_12 rfl ?_
    refine g_blk hz0 kX8_man_15 ?_
    refine ⟨fun c2 => ?_, fun c2 => ?_⟩
    · rw [if_pos (show (f_X8_within o1 ((Int32.ofInt 0)) ((Int32.ofInt 1))) = 0 from c2)] at hq
      replace hp := hp.1 c2
      refine g_blk hz0 kX8_man_32 ?_
      refine g_le (L2 := [some (.ref 0), some (.int k1), some (.int o1), some (.int h1), some (.int c1), none]) ⟨rfl, rfl, rfl, rfl, rfl, trivial⟩ ?_
      exact l_X8_man_33 sc s e o oh h k q s1 p1 s2 p2 t1 t2 zq c p t k1 o1 h1 c1 ((Int32.ofInt 0)) hp hq
    · rw [if_neg (show ¬ ((f_X8_within o1 ((Int32.ofInt 0)) ((Int32.ofInt 1))) = 0) from c2)] at hq
      replace hp := hp.2 c2
      refine g_blk hz0 kX8_man_18 ?_
      refine cS0 (s_X8_within h1 ((Int32.ofInt 1)) ((Int32.ofInt 9))) rfl cwX8_within dX8_man_22 rfl ?_
      refine g_blk hz0 kX8_man_25 ?_
      refine ⟨fun c3 => ?_, fun c3 => ?_⟩
      · rw [if_pos (show (f_X8_within h1 ((Int32.ofInt 1)) ((Int32.ofInt 9))) = 0 from c3)] at hq
        replace hp := hp.1 c3
        refine g_blk hz0 kX8_man_32 ?_
        refine g_le (L2 := [some (.ref 0), some (.int k1), some (.int o1), some (.int h1), some (.int c1), none]) ⟨rfl, rfl, rfl, rfl, rfl, trivial⟩ ?_
        exact l_X8_man_33 sc s e o oh h k q s1 p1 s2 p2 t1 t2 zq c p t k1 o1 h1 c1 ((Int32.ofInt 0)) hp hq
      · rw [if_neg (show ¬ ((f_X8_within h1 ((Int32.ofInt 1)) ((Int32.ofInt 9))) = 0) from c3)] at hq
        replace hp := hp.2 c3
        refine g_blk hz0 kX8_man_28 ?_
        refine g_le (L2 := [some (.ref 0), some (.int k1), some (.int o1), some (.int h1), some (.int c1), none]) ⟨rfl, rfl, rfl, rfl, rfl, trivial⟩ ?_
        exact l_X8_man_33 sc s e o oh h k q s1 p1 s2 p2 t1 t2 zq c p t k1 o1 h1 c1 ((Int32.ofInt 1)) hp hq

def f_X8_put (c : Rec) (s : Rec) (p : Rec) (t : Rec) (e : Rec) (o : Rec) (oh : Rec) (h : Rec) (k : Rec) (q : Rec) (s1 : Rec) (p1 : Rec) (s2 : Rec) (p2 : Rec) (t1 : Rec) (t2 : Rec) (w : Int32) (v : Int32) : Int32 × Rec × Rec × Rec := if w = 0 then (if (f_X8_within v ((Int32.ofInt 1)) ((Int32.ofInt 9))) = 0 then (if w = (Int32.ofInt 1) then (if (f_X8_within v ((Int32.ofInt 1)) ((Int32.ofInt 3))) = 0 then (((f_X8_refuseBad c s p t e o oh h k q s1 p1 s2 p2 t1 t2 ((Int32.ofInt (-2)))).1), ((f_X8_refuseBad c s p t e o oh h k q s1 p1 s2 p2 t1 t2 ((Int32.ofInt (-2)))).2), p, t) else ((p.1 9), c, (setG p 9 v), (f_X2_forget t))) else (((f_X8_refuseBad c s p t e o oh h k q s1 p1 s2 p2 t1 t2 ((Int32.ofInt (-2)))).1), ((f_X8_refuseBad c s p t e o oh h k q s1 p1 s2 p2 t1 t2 ((Int32.ofInt (-2)))).2), p, t)) else ((p.1 8), c, (setG p 8 v), (f_X2_forget t))) else (if w = (Int32.ofInt 1) then (if (f_X8_within v ((Int32.ofInt 1)) ((Int32.ofInt 3))) = 0 then (((f_X8_refuseBad c s p t e o oh h k q s1 p1 s2 p2 t1 t2 ((Int32.ofInt (-2)))).1), ((f_X8_refuseBad c s p t e o oh h k q s1 p1 s2 p2 t1 t2 ((Int32.ofInt (-2)))).2), p, t) else ((p.1 9), c, (setG p 9 v), (f_X2_forget t))) else (((f_X8_refuseBad c s p t e o oh h k q s1 p1 s2 p2 t1 t2 ((Int32.ofInt (-2)))).1), ((f_X8_refuseBad c s p t e o oh h k q s1 p1 s2 p2 t1 t2 ((Int32.ofInt (-2)))).2), p, t))
set_option maxHeartbeats 16000000 in
set_option maxRecDepth 20000 in
theorem s_X8_put (c : Rec) (s : Rec) (p : Rec) (t : Rec) (e : Rec) (o : Rec) (oh : Rec) (h : Rec) (k : Rec) (q : Rec) (s1 : Rec) (p1 : Rec) (s2 : Rec) (p2 : Rec) (t1 : Rec) (t2 : Rec) (w : Int32) (v : Int32) : Spec 1 0 0 mX8_put [.ref 0, .int w, .int v] (wB c s p t e o oh h k q s1 p1 s2 p2 t1 t2) (Ret (some (.int ((f_X8_put c s p t e o oh h k q s1 p1 s2 p2 t1 t2 w v).1))) (wB ((f_X8_put c s p t e o oh h k q s1 p1 s2 p2 t1 t2 w v).2.1) s ((f_X8_put c s p t e o oh h k q s1 p1 s2 p2 t1 t2 w v).2.2.1) ((f_X8_put c s p t e o oh h k q s1 p1 s2 p2 t1 t2 w v).2.2.2) e o oh h k q s1 p1 s2 p2 t1 t2)) := by
  obtain ⟨zq, hq⟩ : ∃ z, z = (f_X8_put c s p t e o oh h k q s1 p1 s2 p2 t1 t2 w v) := ⟨_, rfl⟩
  rw [← hq]
  unfold f_X8_put at hq
  refine Sof fun sc => ?_
  refine g_blk hz0 kX8_put_0 ?_
  refine ⟨fun c1 => ?_, fun c1 => ?_⟩
  · rw [if_neg (show ¬ (w = 0) from c1)] at hq
    refine g_blk hz0 kX8_put_39 ?_
    refine ⟨fun c9 => ?_, fun c9 => ?_⟩
    · rw [if_neg (show ¬ (w = (Int32.ofInt 1)) from c9)] at hq
      refine g_blk hz0 kX8_put_78 ?_
      refine cV [0, 1, 2, 3, 4, 5, 6, 7, 8, 9, 10, 11, 12, 13, 14, 15, 16, 17, 18, 19, 20, 21, 22, 23, 24, 25, 26, 27, 28, 29, 30, 31, 32, 33, 34, 35, 36, 37, 38, 39, 40, 41, 42, 43, 44, 45, 46, 47, 48, 49, 50, 51, 52, 53, 54, 55, 56, 57, 58, 59, 60, 61, 62, 63, 64, 65, 66, 67, 68, 69, 70, 71, 72, 73, 74, 75, 76, 77, 78, 79, 80, 81, 82, 83, 84, 85, 86, 87, 88, 89, 90, 91, 92, 93, 94, 95, 96, 97, 98, 99, 100, 101, 102, 103, 104, 105, 106, 107, 108, 109, 110, 111] (wB c s p t e o oh h k q s1 p1 s2 p2 t1 t2) (s_X8_refuseBad c s p t e o oh h k q s1 p1 s2 p2 t1 t2 ((Int32.ofInt (-2)))) rfl cwX8_refuseBad dX8_put_81 rfl rfl (hm63_B_B _ _ _ _ _ _ _ _ _ _ _ _ _ _ _ _) ((len_B _ _ _ _ _ _ _ _ _ _ _ _ _ _ _ _).trans (len_B _ _ _ _ _ _ _ _ _ _ _ _ _ _ _ _).symm) (wB ((f_X8_refuseBad c s p t e o oh h k q s1 p1 s2 p2 t1 t2 ((Int32.ofInt (-2)))).2) s p t e o oh h k q s1 p1 s2 p2 t1 t2) (pw85_B_B _ _ _ _ _ _ _ _ _ _ _ _ _ _ _ _ _) ?_
      obtain ⟨g13, hg13⟩ : ∃ z, z = (f_X8_refuseBad c s p t e o oh h k q s1 p1 s2 p2 t1 t2 ((Int32.ofInt (-2)))) := ⟨_, rfl⟩
      try rw [← hg13] at hp
      try rw [← hg13] at hq
      rw [← hg13]
      refine g_blk hz0 kX8_put_84 ?_
      subst hq
      exact ⟨fun h => (by cases h), rfl, rfl⟩
    · rw [if_pos (show w = (Int32.ofInt 1) from c9)] at hq
      refine g_blk hz0 kX8_put_44 ?_
      refine cS0 (s_X8_within v ((Int32.ofInt 1)) ((Int32.ofInt 3))) rfl cwX8_within dX8_put_47 rfl ?_
      refine g_blk hz0 kX8_put_50 ?_
      refine ⟨fun c10 => ?_, fun c10 => ?_⟩
      · rw [if_pos (show (f_X8_within v ((Int32.ofInt 1)) ((Int32.ofInt 3))) = 0 from c10)] at hq
        refine g_blk hz0 kX8_put_78 ?_
        refine cV [0, 1, 2, 3, 4, 5, 6, 7, 8, 9, 10, 11, 12, 13, 14, 15, 16, 17, 18, 19, 20, 21, 22, 23, 24, 25, 26, 27, 28, 29, 30, 31, 32, 33, 34, 35, 36, 37, 38, 39, 40, 41, 42, 43, 44, 45, 46, 47, 48, 49, 50, 51, 52, 53, 54, 55, 56, 57, 58, 59, 60, 61, 62, 63, 64, 65, 66, 67, 68, 69, 70, 71, 72, 73, 74, 75, 76, 77, 78, 79, 80, 81, 82, 83, 84, 85, 86, 87, 88, 89, 90, 91, 92, 93, 94, 95, 96, 97, 98, 99, 100, 101, 102, 103, 104, 105, 106, 107, 108, 109, 110, 111] (wB c s p t e o oh h k q s1 p1 s2 p2 t1 t2) (s_X8_refuseBad c s p t e o oh h k q s1 p1 s2 p2 t1 t2 ((Int32.ofInt (-2)))) rfl cwX8_refuseBad dX8_put_81 rfl rfl (hm63_B_B _ _ _ _ _ _ _ _ _ _ _ _ _ _ _ _) ((len_B _ _ _ _ _ _ _ _ _ _ _ _ _ _ _ _).trans (len_B _ _ _ _ _ _ _ _ _ _ _ _ _ _ _ _).symm) (wB ((f_X8_refuseBad c s p t e o oh h k q s1 p1 s2 p2 t1 t2 ((Int32.ofInt (-2)))).2) s p t e o oh h k q s1 p1 s2 p2 t1 t2) (pw85_B_B _ _ _ _ _ _ _ _ _ _ _ _ _ _ _ _ _) ?_
        obtain ⟨g11, hg11⟩ : ∃ z, z = (f_X8_refuseBad c s p t e o oh h k q s1 p1 s2 p2 t1 t2 ((Int32.ofInt (-2)))) := ⟨_, rfl⟩
        try rw [← hg11] at hp
        try rw [← hg11] at hq
        rw [← hg11]
        refine g_blk hz0 kX8_put_84 ?_
        subst hq
        exact ⟨fun h => (by cases h), rfl, rfl⟩
      · rw [if_neg (show ¬ ((f_X8_within v ((Int32.ofInt 1)) ((Int32.ofInt 3))) = 0) from c10)] at hq
        refine g_blk hz0 kX8_put_53 ?_
        refine ⟨fun h => (by cases h), Or.inl rfl, ?_⟩
        refine g_w (w2 := (wB c s (setG p 9 v) t e o oh h k q s1 p1 s2 p2 t1 t2)) rfl ?_
        refine cV [13, 14, 15, 16, 17, 18, 19, 20, 21, 22] (wT t) (s_X2_forget t) rfl cwX2_forget dX8_put_73 rfl rfl (hm65_B_T _ _ _ _ _ _ _ _ _ _ _ _ _ _ _ _) ((len_T _).trans (len_T _).symm) (wB c s (setG p 9 v) (f_X2_forget t) e o oh h k q s1 p1 s2 p2 t1 t2) (pw87_B_T _ _ _ _ _ _ _ _ _ _ _ _ _ _ _ _ _) ?_
        obtain ⟨g12, hg12⟩ : ∃ z, z = (f_X2_forget t) := ⟨_, rfl⟩
        try rw [← hg12] at hp
        try rw [← hg12] at hq
        rw [← hg12]
        refine g_blk hz0 kX8_put_76 ?_
        subst hq
        exact ⟨fun h => (by cases h), rfl, rfl⟩
  · rw [if_pos (show w = 0 from c1)] at hq
    refine g_blk hz0 kX8_put_4 ?_
    refine cS0 (s_X8_within v ((Int32.ofInt 1)) ((Int32.ofInt 9))) rfl cwX8_within dX8_put_8 rfl ?_
    refine g_blk hz0 kX8_put_11 ?_
    refine ⟨fun c2 => ?_, fun c2 => ?_⟩
    · rw [if_pos (show (f_X8_within v ((Int32.ofInt 1)) ((Int32.ofInt 9))) = 0 from c2)] at hq
      refine g_blk hz0 kX8_put_39 ?_
      refine ⟨fun c3 => ?_, fun c3 => ?_⟩
      · rw [if_neg (show ¬ (w = (Int32.ofInt 1)) from c3)] at hq
        refine g_blk hz0 kX8_put_78 ?_
        refine cV [0, 1, 2, 3, 4, 5, 6, 7, 8, 9, 10, 11, 12, 13, 14, 15, 16, 17, 18, 19, 20, 21, 22, 23, 24, 25, 26, 27, 28, 29, 30, 31, 32, 33, 34, 35, 36, 37, 38, 39, 40, 41, 42, 43, 44, 45, 46, 47, 48, 49, 50, 51, 52, 53, 54, 55, 56, 57, 58, 59, 60, 61, 62, 63, 64, 65, 66, 67, 68, 69, 70, 71, 72, 73, 74, 75, 76, 77, 78, 79, 80, 81, 82, 83, 84, 85, 86, 87, 88, 89, 90, 91, 92, 93, 94, 95, 96, 97, 98, 99, 100, 101, 102, 103, 104, 105, 106, 107, 108, 109, 110, 111] (wB c s p t e o oh h k q s1 p1 s2 p2 t1 t2) (s_X8_refuseBad c s p t e o oh h k q s1 p1 s2 p2 t1 t2 ((Int32.ofInt (-2)))) rfl cwX8_refuseBad dX8_put_81 rfl rfl (hm63_B_B _ _ _ _ _ _ _ _ _ _ _ _ _ _ _ _) ((len_B _ _ _ _ _ _ _ _ _ _ _ _ _ _ _ _).trans (len_B _ _ _ _ _ _ _ _ _ _ _ _ _ _ _ _).symm) (wB ((f_X8_refuseBad c s p t e o oh h k q s1 p1 s2 p2 t1 t2 ((Int32.ofInt (-2)))).2) s p t e o oh h k q s1 p1 s2 p2 t1 t2) (pw85_B_B _ _ _ _ _ _ _ _ _ _ _ _ _ _ _ _ _) ?_
        obtain ⟨g7, hg7⟩ : ∃ z, z = (f_X8_refuseBad c s p t e o oh h k q s1 p1 s2 p2 t1 t2 ((Int32.ofInt (-2)))) := ⟨_, rfl⟩
        try rw [← hg7] at hp
        try rw [← hg7] at hq
        rw [← hg7]
        refine g_blk hz0 kX8_put_84 ?_
        subst hq
        exact ⟨fun h => (by cases h), rfl, rfl⟩
      · rw [if_pos (show w = (Int32.ofInt 1) from c3)] at hq
        refine g_blk hz0 kX8_put_44 ?_
        refine cS0 (s_X8_within v ((Int32.ofInt 1)) ((Int32.ofInt 3))) rfl cwX8_within dX8_put_47 rfl ?_
        refine g_blk hz0 kX8_put_50 ?_
        refine ⟨fun c4 => ?_, fun c4 => ?_⟩
        · rw [if_pos (show (f_X8_within v ((Int32.ofInt 1)) ((Int32.ofInt 3))) = 0 from c4)] at hq
          refine g_blk hz0 kX8_put_78 ?_
          refine cV [0, 1, 2, 3, 4, 5, 6, 7, 8, 9, 10, 11, 12, 13, 14, 15, 16, 17, 18, 19, 20, 21, 22, 23, 24, 25, 26, 27, 28, 29, 30, 31, 32, 33, 34, 35, 36, 37, 38, 39, 40, 41, 42, 43, 44, 45, 46, 47, 48, 49, 50, 51, 52, 53, 54, 55, 56, 57, 58, 59, 60, 61, 62, 63, 64, 65, 66, 67, 68, 69, 70, 71, 72, 73, 74, 75, 76, 77, 78, 79, 80, 81, 82, 83, 84, 85, 86, 87, 88, 89, 90, 91, 92, 93, 94, 95, 96, 97, 98, 99, 100, 101, 102, 103, 104, 105, 106, 107, 108, 109, 110, 111] (wB c s p t e o oh h k q s1 p1 s2 p2 t1 t2) (s_X8_refuseBad c s p t e o oh h k q s1 p1 s2 p2 t1 t2 ((Int32.ofInt (-2)))) rfl cwX8_refuseBad dX8_put_81 rfl rfl (hm63_B_B _ _ _ _ _ _ _ _ _ _ _ _ _ _ _ _) ((len_B _ _ _ _ _ _ _ _ _ _ _ _ _ _ _ _).trans (len_B _ _ _ _ _ _ _ _ _ _ _ _ _ _ _ _).symm) (wB ((f_X8_refuseBad c s p t e o oh h k q s1 p1 s2 p2 t1 t2 ((Int32.ofInt (-2)))).2) s p t e o oh h k q s1 p1 s2 p2 t1 t2) (pw85_B_B _ _ _ _ _ _ _ _ _ _ _ _ _ _ _ _ _) ?_
          obtain ⟨g5, hg5⟩ : ∃ z, z = (f_X8_refuseBad c s p t e o oh h k q s1 p1 s2 p2 t1 t2 ((Int32.ofInt (-2)))) := ⟨_, rfl⟩
          try rw [← hg5] at hp
          try rw [← hg5] at hq
          rw [← hg5]
          refine g_blk hz0 kX8_put_84 ?_
          subst hq
          exact ⟨fun h => (by cases h), rfl, rfl⟩
        · rw [if_neg (show ¬ ((f_X8_within v ((Int32.ofInt 1)) ((Int32.ofInt 3))) = 0) from c4)] at hq
          refine g_blk hz0 kX8_put_53 ?_
          refine ⟨fun h => (by cases h), Or.inl rfl, ?_⟩
          refine g_w (w2 := (wB c s (setG p 9 v) t e o oh h k q s1 p1 s2 p2 t1 t2)) rfl ?_
          refine cV [13, 14, 15, 16, 17, 18, 19, 20, 21, 22] (wT t) (s_X2_forget t) rfl cwX2_forget dX8_put_73 rfl rfl (hm65_B_T _ _ _ _ _ _ _ _ _ _ _ _ _ _ _ _) ((len_T _).trans (len_T _).symm) (wB c s (setG p 9 v) (f_X2_forget t) e o oh h k q s1 p1 s2 p2 t1 t2) (pw87_B_T _ _ _ _ _ _ _ _ _ _ _ _ _ _ _ _ _) ?_
          obtain ⟨g6, hg6⟩ : ∃ z, z = (f_X2_forget t) := ⟨_, rfl⟩
          try rw [← hg6] at hp
          try rw [← hg6] at hq
          rw [← hg6]
          refine g_blk hz0 kX8_put_76 ?_
          subst hq
          exact ⟨fun h => (by cases h), rfl, rfl⟩
    · rw [if_neg (show ¬ ((f_X8_within v ((Int32.ofInt 1)) ((Int32.ofInt 9))) = 0) from c2)] at hq
      refine g_blk hz0 kX8_put_14 ?_
      refine ⟨fun h => (by cases h), Or.inl rfl, ?_⟩
      refine g_w (w2 := (wB c s (setG p 8 v) t e o oh h k q s1 p1 s2 p2 t1 t2)) rfl ?_
      refine cV [13, 14, 15, 16, 17, 18, 19, 20, 21, 22] (wT t) (s_X2_forget t) rfl cwX2_forget dX8_put_34 rfl rfl (hm65_B_T _ _ _ _ _ _ _ _ _ _ _ _ _ _ _ _) ((len_T _).trans (len_T _).symm) (wB c s (setG p 8 v) (f_X2_forget t) e o oh h k q s1 p1 s2 p2 t1 t2) (pw87_B_T _ _ _ _ _ _ _ _ _ _ _ _ _ _ _ _ _) ?_
      obtain ⟨g8, hg8⟩ : ∃ z, z = (f_X2_forget t) := ⟨_, rfl⟩
      try rw [← hg8] at hp
      try rw [← hg8] at hq
      rw [← hg8]
      refine g_blk hz0 kX8_put_37 ?_
      subst hq
      exact ⟨fun h => (by cases h), rfl, rfl⟩

def f_X8_cell (c : Rec) (s : Rec) (p : Rec) (t : Rec) (e : Rec) (o : Rec) (oh : Rec) (h : Rec) (k : Rec) (q : Rec) (s1 : Rec) (p1 : Rec) (s2 : Rec) (p2 : Rec) (t1 : Rec) (t2 : Rec) (c1 : Int32) (w : Int32) : Int32 × Rec := if (f_X4_has s c1) = 0 then (((f_X8_refuseBad c s p t e o oh h k q s1 p1 s2 p2 t1 t2 ((Int32.ofInt (-1000)))).1), ((f_X8_refuseBad c s p t e o oh h k q s1 p1 s2 p2 t1 t2 ((Int32.ofInt (-1000)))).2)) else (if (f_X8_within w ((Int32.ofInt 0)) ((Int32.ofInt 3))) = 0 then (((f_X8_refuseBad c s p t e o oh h k q s1 p1 s2 p2 t1 t2 ((Int32.ofInt (-1000)))).1), ((f_X8_refuseBad c s p t e o oh h k q s1 p1 s2 p2 t1 t2 ((Int32.ofInt (-1000)))).2)) else (if (Int32.toInt w) < 0 ∨ 2 < (Int32.toInt w) then (if ((s.2 9) (Int32.toNatClampNeg c1)) = 0 then ((Int32.ofInt 0), c) else ((Int32.ofInt 1), c)) else (if (Int32.toInt w) = 0 then (((s.2 10) (Int32.toNatClampNeg c1)), c) else (if (Int32.toInt w) = 1 then (((s.2 11) (Int32.toNatClampNeg c1)), c) else (((s.2 12) (Int32.toNatClampNeg c1)), c)))))
def p_X8_cell (c : Rec) (s : Rec) (p : Rec) (t : Rec) (e : Rec) (o : Rec) (oh : Rec) (h : Rec) (k : Rec) (q : Rec) (s1 : Rec) (p1 : Rec) (s2 : Rec) (p2 : Rec) (t1 : Rec) (t2 : Rec) (c1 : Int32) (w : Int32) : Prop := (p_X4_has s c1) ∧ (((f_X4_has s c1) = 0 → True) ∧ (¬ ((f_X4_has s c1) = 0) → (((f_X8_within w ((Int32.ofInt 0)) ((Int32.ofInt 3))) = 0 → True) ∧ (¬ ((f_X8_within w ((Int32.ofInt 0)) ((Int32.ofInt 3))) = 0) → (((Int32.toInt w) < 0 ∨ 2 < (Int32.toInt w) → (vp_in c1 36 ∧ True)) ∧ (¬ ((Int32.toInt w) < 0 ∨ 2 < (Int32.toInt w)) → (((Int32.toInt w) = 0 → (vp_in c1 36 ∧ True)) ∧ (¬ ((Int32.toInt w) = 0) → (((Int32.toInt w) = 1 → (vp_in c1 36 ∧ True)) ∧ (¬ ((Int32.toInt w) = 1) → (vp_in c1 36 ∧ True)))))))))))
set_option maxHeartbeats 16000000 in
set_option maxRecDepth 20000 in
theorem s_X8_cell (c : Rec) (s : Rec) (p : Rec) (t : Rec) (e : Rec) (o : Rec) (oh : Rec) (h : Rec) (k : Rec) (q : Rec) (s1 : Rec) (p1 : Rec) (s2 : Rec) (p2 : Rec) (t1 : Rec) (t2 : Rec) (c1 : Int32) (w : Int32) (hp : p_X8_cell c s p t e o oh h k q s1 p1 s2 p2 t1 t2 c1 w) : Spec 2 0 0 mX8_cell [.ref 0, .int c1, .int w] (wB c s p t e o oh h k q s1 p1 s2 p2 t1 t2) (Ret (some (.int ((f_X8_cell c s p t e o oh h k q s1 p1 s2 p2 t1 t2 c1 w).1))) (wB ((f_X8_cell c s p t e o oh h k q s1 p1 s2 p2 t1 t2 c1 w).2) s p t e o oh h k q s1 p1 s2 p2 t1 t2)) := by
  obtain ⟨zq, hq⟩ : ∃ z, z = (f_X8_cell c s p t e o oh h k q s1 p1 s2 p2 t1 t2 c1 w) := ⟨_, rfl⟩
  rw [← hq]
  unfold f_X8_cell at hq
  unfold p_X8_cell at hp
  refine Sof fun sc => ?_
  refine g_blk hz0 kX8_cell_0 ?_
  refine cVp [2, 3, 4, 5, 6, 7, 8] (wS s) (s_X4_has s c1 hp.1) rfl cwX4_has dX8_cell_8 rfl rfl (hm67_B_S _ _ _ _ _ _ _ _ _ _ _ _ _ _ _ _) ?_
  replace hp := hp.2
  refine g_blk hz0 kX8_cell_11 ?_
  refine ⟨fun c1 => ?_, fun c1 => ?_⟩
  · rw [if_pos (show (f_X4_has s c1) = 0 from c1)] at hq
    refine g_blk hz0 kX8_cell_23 ?_
    refine cV [0, 1, 2, 3, 4, 5, 6, 7, 8, 9, 10, 11, 12, 13, 14, 15, 16, 17, 18, 19, 20, 21, 22, 23, 24, 25, 26, 27, 28, 29, 30, 31, 32, 33, 34, 35, 36, 37, 38, 39, 40, 41, 42, 43, 44, 45, 46, 47, 48, 49, 50, 51, 52, 53, 54, 55, 56, 57, 58, 59, 60, 61, 62, 63, 64, 65, 66, 67, 68, 69, 70, 71, 72, 73, 74, 75, 76, 77, 78, 79, 80, 81, 82, 83, 84, 85, 86, 87, 88, 89, 90, 91, 92, 93, 94, 95, 96, 97, 98, 99, 100, 101, 102, 103, 104, 105, 106, 107, 108, 109, 110, 111] (wB c s p t e o oh h k q s1 p1 s2 p2 t1 t2) (s_X8_refuseBad c s p t e o oh h k q s1 p1 s2 p2 t1 t2 ((Int32.ofInt (-1000)))) rfl cwX8_refuseBad dX8_cell_27 rfl rfl (hm63_B_B _ _ _ _ _ _ _ _ _ _ _ _ _ _ _ _) ((len_B _ _ _ _ _ _ _ _ _ _ _ _ _ _ _ _).trans (len_B _ _ _ _ _ _ _ _ _ _ _ _ _ _ _ _).symm) (wB ((f_X8_refuseBad c s p t e o oh h k q s1 p1 s2 p2 t1 t2 ((Int32.ofInt (-1000)))).2) s p t e o oh h k q s1 p1 s2 p2 t1 t2) (pw85_B_B _ _ _ _ _ _ _ _ _ _ _ _ _ _ _ _ _) ?_
    obtain ⟨g2, hg2⟩ : ∃ z, z = (f_X8_refuseBad c s p t e o oh h k q s1 p1 s2 p2 t1 t2 ((Int32.ofInt (-1000)))) := ⟨_, rfl⟩
    try rw [← hg2] at hp
    try rw [← hg2] at hq
    rw [← hg2]
    refine g_blk hz0 kX8_cell_30 ?_
    subst hq
    exact ⟨fun h => (by cases h), rfl, rfl⟩
  · rw [if_neg (show ¬ ((f_X4_has s c1) = 0) from c1)] at hq
    replace hp := hp.2 c1
    refine g_blk hz0 kX8_cell_14 ?_
    refine cS0 (s_X8_within w ((Int32.ofInt 0)) ((Int32.ofInt 3))) rfl cwX8_within dX8_cell_17 rfl ?_
    refine g_blk hz0 kX8_cell_20 ?_
    refine ⟨fun c3 => ?_, fun c3 => ?_⟩
    · rw [if_neg (show ¬ ((f_X8_within w ((Int32.ofInt 0)) ((Int32.ofInt 3))) = 0) from c3)] at hq
      replace hp := hp.2 c3
      refine g_blk hz0 kX8_cell_31 ?_
      refine g_tsw dX8_cell_32 (by decide +kernel) (by decide +kernel) (by decide +kernel) (fun c5 => ?_) (fun j o hj hx => ?_)
      · rw [if_pos (show (Int32.toInt w) < 0 ∨ 2 < (Int32.toInt w) from c5)] at hq
        replace hp := hp.1 c5
        refine g_blk hz0 kX8_cell_99 ?_
        refine ⟨hp.1, ?_⟩
        replace hp := hp.2
        refine ⟨fun c6 => ?_, fun c6 => ?_⟩
        · rw [if_pos (show ((s.2 9) (Int32.toNatClampNeg c1)) = 0 from c6)] at hq
          refine g_blk hz0 kX8_cell_118 ?_
          refine g_blk hz0 kX8_cell_119 ?_
          subst hq
          exact ⟨fun h => (by cases h), rfl, rfl⟩
        · rw [if_neg (show ¬ (((s.2 9) (Int32.toNatClampNeg c1)) = 0) from c6)] at hq
          refine g_blk hz0 kX8_cell_114 ?_
          refine g_blk hz0 kX8_cell_119 ?_
          subst hq
          exact ⟨fun h => (by cases h), rfl, rfl⟩
      · rcases j with _ | _ | _ | j
        · have ho : o = 28 := by simpa using hj.symm
          subst ho
          have hx2 : (Int32.toInt w) = 0 := by simpa using hx
          rw [if_neg (show ¬ ((Int32.toInt w) < 0 ∨ 2 < (Int32.toInt w)) by omega)] at hq
          replace hp := hp.2 (by omega)
          rw [if_pos (show (Int32.toInt w) = 0 from hx2)] at hq
          replace hp := hp.1 hx2
          refine g_blk hz0 kX8_cell_60 ?_
          refine ⟨hp.1, ?_⟩
          replace hp := hp.2
          subst hq
          exact ⟨fun h => (by cases h), rfl, rfl⟩
        · have ho : o = 41 := by simpa using hj.symm
          subst ho
          have hx2 : (Int32.toInt w) = 1 := by simpa using hx
          rw [if_neg (show ¬ ((Int32.toInt w) < 0 ∨ 2 < (Int32.toInt w)) by omega)] at hq
          replace hp := hp.2 (by omega)
          rw [if_neg (show ¬ ((Int32.toInt w) = 0) by omega)] at hq
          replace hp := hp.2 (by omega)
          rw [if_pos (show (Int32.toInt w) = 1 from hx2)] at hq
          replace hp := hp.1 hx2
          refine g_blk hz0 kX8_cell_73 ?_
          refine ⟨hp.1, ?_⟩
          replace hp := hp.2
          subst hq
          exact ⟨fun h => (by cases h), rfl, rfl⟩
        · have ho : o = 54 := by simpa using hj.symm
          subst ho
          have hx2 : (Int32.toInt w) = 2 := by simpa using hx
          rw [if_neg (show ¬ ((Int32.toInt w) < 0 ∨ 2 < (Int32.toInt w)) by omega)] at hq
          replace hp := hp.2 (by omega)
          rw [if_neg (show ¬ ((Int32.toInt w) = 0) by omega)] at hq
          replace hp := hp.2 (by omega)
          rw [if_neg (show ¬ ((Int32.toInt w) = 1) by omega)] at hq
          replace hp := hp.2 (by omega)
          refine g_blk hz0 kX8_cell_86 ?_
          refine ⟨hp.1, ?_⟩
          replace hp := hp.2
          subst hq
          exact ⟨fun h => (by cases h), rfl, rfl⟩
        · exact absurd hj (by simp)
    · rw [if_pos (show (f_X8_within w ((Int32.ofInt 0)) ((Int32.ofInt 3))) = 0 from c3)] at hq
      refine g_blk hz0 kX8_cell_23 ?_
      refine cV [0, 1, 2, 3, 4, 5, 6, 7, 8, 9, 10, 11, 12, 13, 14, 15, 16, 17, 18, 19, 20, 21, 22, 23, 24, 25, 26, 27, 28, 29, 30, 31, 32, 33, 34, 35, 36, 37, 38, 39, 40, 41, 42, 43, 44, 45, 46, 47, 48, 49, 50, 51, 52, 53, 54, 55, 56, 57, 58, 59, 60, 61, 62, 63, 64, 65, 66, 67, 68, 69, 70, 71, 72, 73, 74, 75, 76, 77, 78, 79, 80, 81, 82, 83, 84, 85, 86, 87, 88, 89, 90, 91, 92, 93, 94, 95, 96, 97, 98, 99, 100, 101, 102, 103, 104, 105, 106, 107, 108, 109, 110, 111] (wB c s p t e o oh h k q s1 p1 s2 p2 t1 t2) (s_X8_refuseBad c s p t e o oh h k q s1 p1 s2 p2 t1 t2 ((Int32.ofInt (-1000)))) rfl cwX8_refuseBad dX8_cell_27 rfl rfl (hm63_B_B _ _ _ _ _ _ _ _ _ _ _ _ _ _ _ _) ((len_B _ _ _ _ _ _ _ _ _ _ _ _ _ _ _ _).trans (len_B _ _ _ _ _ _ _ _ _ _ _ _ _ _ _ _).symm) (wB ((f_X8_refuseBad c s p t e o oh h k q s1 p1 s2 p2 t1 t2 ((Int32.ofInt (-1000)))).2) s p t e o oh h k q s1 p1 s2 p2 t1 t2) (pw85_B_B _ _ _ _ _ _ _ _ _ _ _ _ _ _ _ _ _) ?_
      obtain ⟨g4, hg4⟩ : ∃ z, z = (f_X8_refuseBad c s p t e o oh h k q s1 p1 s2 p2 t1 t2 ((Int32.ofInt (-1000)))) := ⟨_, rfl⟩
      try rw [← hg4] at hp
      try rw [← hg4] at hq
      rw [← hg4]
      refine g_blk hz0 kX8_cell_30 ?_
      subst hq
      exact ⟨fun h => (by cases h), rfl, rfl⟩

def f_X8_pile (c : Rec) (s : Rec) (p : Rec) (t : Rec) (e : Rec) (o : Rec) (oh : Rec) (h : Rec) (k : Rec) (q : Rec) (s1 : Rec) (p1 : Rec) (s2 : Rec) (p2 : Rec) (t1 : Rec) (t2 : Rec) (x : Int32) (y : Int32) (i : Int32) : Int32 × Rec := if (Int32.ofInt (-1)) ≤ i then (if i = (Int32.ofInt (-1)) then ((f_X4_heightAt s x y), c) else (if (f_X4_cellAt s x y i) = (Int32.ofInt (-1)) then ((Int32.ofInt (-5)), c) else ((f_X4_cellAt s x y i), c))) else (((f_X8_refuseBad c s p t e o oh h k q s1 p1 s2 p2 t1 t2 ((Int32.ofInt (-10)))).1), ((f_X8_refuseBad c s p t e o oh h k q s1 p1 s2 p2 t1 t2 ((Int32.ofInt (-10)))).2))
def p_X8_pile (c : Rec) (s : Rec) (p : Rec) (t : Rec) (e : Rec) (o : Rec) (oh : Rec) (h : Rec) (k : Rec) (q : Rec) (s1 : Rec) (p1 : Rec) (s2 : Rec) (p2 : Rec) (t1 : Rec) (t2 : Rec) (x : Int32) (y : Int32) (i : Int32) : Prop := ((Int32.ofInt (-1)) ≤ i → ((i = (Int32.ofInt (-1)) → ((p_X4_heightAt s x y) ∧ True)) ∧ (¬ (i = (Int32.ofInt (-1))) → ((p_X4_cellAt s x y i) ∧ True)))) ∧ (¬ ((Int32.ofInt (-1)) ≤ i) → True)
set_option maxHeartbeats 16000000 in
set_option maxRecDepth 20000 in
theorem s_X8_pile (c : Rec) (s : Rec) (p : Rec) (t : Rec) (e : Rec) (o : Rec) (oh : Rec) (h : Rec) (k : Rec) (q : Rec) (s1 : Rec) (p1 : Rec) (s2 : Rec) (p2 : Rec) (t1 : Rec) (t2 : Rec) (x : Int32) (y : Int32) (i : Int32) (hp : p_X8_pile c s p t e o oh h k q s1 p1 s2 p2 t1 t2 x y i) : Spec 3 0 0 mX8_pile [.ref 0, .int x, .int y, .int i] (wB c s p t e o oh h k q s1 p1 s2 p2 t1 t2) (Ret (some (.int ((f_X8_pile c s p t e o oh h k q s1 p1 s2 p2 t1 t2 x y i).1))) (wB ((f_X8_pile c s p t e o oh h k q s1 p1 s2 p2 t1 t2 x y i).2) s p t e o oh h k q s1 p1 s2 p2 t1 t2)) := by
  obtain ⟨zq, hq⟩ : ∃ z, z = (f_X8_pile c s p t e o oh h k q s1 p1 s2 p2 t1 t2 x y i) := ⟨_, rfl⟩
  rw [← hq]
  unfold f_X8_pile at hq
  unfold p_X8_pile at hp
  refine Sof fun sc => ?_
  refine g_blk hz0 kX8_pile_0 ?_
  refine ⟨fun c1 => ?_, fun c1 => ?_⟩
  · rw [if_pos (show (Int32.ofInt (-1)) ≤ i from c1)] at hq
    replace hp := hp.1 c1
    refine g_blk hz0 kX8_pile_12 ?_
    refine ⟨fun c2 => ?_, fun c2 => ?_⟩
    · rw [if_neg (show ¬ (i = (Int32.ofInt (-1))) from c2)] at hq
      replace hp := hp.2 c2
      refine g_blk hz0 kX8_pile_30 ?_
      refine cVp [2, 3, 4, 5, 6, 7, 8] (wS s) (s_X4_cellAt s x y i hp.1) rfl cwX4_cellAt dX8_pile_40 rfl rfl (hm67_B_S _ _ _ _ _ _ _ _ _ _ _ _ _ _ _ _) ?_
      replace hp := hp.2
      refine g_blk hz0 kX8_pile_43 ?_
      refine ⟨fun c3 => ?_, fun c3 => ?_⟩
      · rw [if_neg (show ¬ ((f_X4_cellAt s x y i) = (Int32.ofInt (-1))) from c3)] at hq
        refine g_blk hz0 kX8_pile_56 ?_
        refine g_blk hz0 kX8_pile_58 ?_
        subst hq
        exact ⟨fun h => (by cases h), rfl, rfl⟩
      · rw [if_pos (show (f_X4_cellAt s x y i) = (Int32.ofInt (-1)) from c3)] at hq
        refine g_blk hz0 kX8_pile_51 ?_
        refine g_blk hz0 kX8_pile_58 ?_
        subst hq
        exact ⟨fun h => (by cases h), rfl, rfl⟩
    · rw [if_pos (show i = (Int32.ofInt (-1)) from c2)] at hq
      replace hp := hp.1 c2
      refine g_blk hz0 kX8_pile_17 ?_
      refine cVp [2, 3, 4, 5, 6, 7, 8] (wS s) (s_X4_heightAt s x y hp.1) rfl cwX4_heightAt dX8_pile_26 rfl rfl (hm67_B_S _ _ _ _ _ _ _ _ _ _ _ _ _ _ _ _) ?_
      replace hp := hp.2
      refine g_blk hz0 kX8_pile_29 ?_
      subst hq
      exact ⟨fun h => (by cases h), rfl, rfl⟩
  · rw [if_neg (show ¬ ((Int32.ofInt (-1)) ≤ i) from c1)] at hq
    refine g_blk hz0 kX8_pile_5 ?_
    refine cV [0, 1, 2, 3, 4, 5, 6, 7, 8, 9, 10, 11, 12, 13, 14, 15, 16, 17, 18, 19, 20, 21, 22, 23, 24, 25, 26, 27, 28, 29, 30, 31, 32, 33, 34, 35, 36, 37, 38, 39, 40, 41, 42, 43, 44, 45, 46, 47, 48, 49, 50, 51, 52, 53, 54, 55, 56, 57, 58, 59, 60, 61, 62, 63, 64, 65, 66, 67, 68, 69, 70, 71, 72, 73, 74, 75, 76, 77, 78, 79, 80, 81, 82, 83, 84, 85, 86, 87, 88, 89, 90, 91, 92, 93, 94, 95, 96, 97, 98, 99, 100, 101, 102, 103, 104, 105, 106, 107, 108, 109, 110, 111] (wB c s p t e o oh h k q s1 p1 s2 p2 t1 t2) (s_X8_refuseBad c s p t e o oh h k q s1 p1 s2 p2 t1 t2 ((Int32.ofInt (-10)))) rfl cwX8_refuseBad dX8_pile_8 rfl rfl (hm63_B_B _ _ _ _ _ _ _ _ _ _ _ _ _ _ _ _) ((len_B _ _ _ _ _ _ _ _ _ _ _ _ _ _ _ _).trans (len_B _ _ _ _ _ _ _ _ _ _ _ _ _ _ _ _).symm) (wB ((f_X8_refuseBad c s p t e o oh h k q s1 p1 s2 p2 t1 t2 ((Int32.ofInt (-10)))).2) s p t e o oh h k q s1 p1 s2 p2 t1 t2) (pw85_B_B _ _ _ _ _ _ _ _ _ _ _ _ _ _ _ _ _) ?_
    obtain ⟨g4, hg4⟩ : ∃ z, z = (f_X8_refuseBad c s p t e o oh h k q s1 p1 s2 p2 t1 t2 ((Int32.ofInt (-10)))) := ⟨_, rfl⟩
    try rw [← hg4] at hp
    try rw [← hg4] at hq
    rw [← hg4]
    refine g_blk hz0 kX8_pile_11 ?_
    subst hq
    exact ⟨fun h => (by cases h), rfl, rfl⟩

def f_X8_strength (c : Rec) (s : Rec) (p : Rec) (t : Rec) (e : Rec) (o : Rec) (oh : Rec) (h : Rec) (k : Rec) (q : Rec) (s1 : Rec) (p1 : Rec) (s2 : Rec) (p2 : Rec) (t1 : Rec) (t2 : Rec) (m : Int32) : Int32 × Rec := if (f_X3_isIn s p m) = 0 then (((f_X8_refuseBad c s p t e o oh h k q s1 p1 s2 p2 t1 t2 ((Int32.ofInt (-2)))).1), ((f_X8_refuseBad c s p t e o oh h k q s1 p1 s2 p2 t1 t2 ((Int32.ofInt (-2)))).2)) else ((f_X3_powerOf s p m), c)
def p_X8_strength (c : Rec) (s : Rec) (p : Rec) (t : Rec) (e : Rec) (o : Rec) (oh : Rec) (h : Rec) (k : Rec) (q : Rec) (s1 : Rec) (p1 : Rec) (s2 : Rec) (p2 : Rec) (t1 : Rec) (t2 : Rec) (m : Int32) : Prop := (p_X3_isIn s p m) ∧ (((f_X3_isIn s p m) = 0 → True) ∧ (¬ ((f_X3_isIn s p m) = 0) → ((p_X3_powerOf s p m) ∧ True)))
set_option maxHeartbeats 16000000 in
set_option maxRecDepth 20000 in
theorem s_X8_strength (c : Rec) (s : Rec) (p : Rec) (t : Rec) (e : Rec) (o : Rec) (oh : Rec) (h : Rec) (k : Rec) (q : Rec) (s1 : Rec) (p1 : Rec) (s2 : Rec) (p2 : Rec) (t1 : Rec) (t2 : Rec) (m : Int32) (hp : p_X8_strength c s p t e o oh h k q s1 p1 s2 p2 t1 t2 m) : Spec 2 0 0 mX8_strength [.ref 0, .int m] (wB c s p t e o oh h k q s1 p1 s2 p2 t1 t2) (Ret (some (.int ((f_X8_strength c s p t e o oh h k q s1 p1 s2 p2 t1 t2 m).1))) (wB ((f_X8_strength c s p t e o oh h k q s1 p1 s2 p2 t1 t2 m).2) s p t e o oh h k q s1 p1 s2 p2 t1 t2)) := by
  obtain ⟨zq, hq⟩ : ∃ z, z = (f_X8_strength c s p t e o oh h k q s1 p1 s2 p2 t1 t2 m) := ⟨_, rfl⟩
  rw [← hq]
  unfold f_X8_strength at hq
  unfold p_X8_strength at hp
  refine Sof fun sc => ?_
  refine g_blk hz0 kX8_strength_0 ?_
  refine cVp [1, 2, 3, 4, 5, 6, 7, 8, 9, 10, 11, 12] (wP s p) (s_X3_isIn s p m hp.1) rfl cwX3_isIn dX8_strength_5 rfl rfl (hm64_B_P _ _ _ _ _ _ _ _ _ _ _ _ _ _ _ _) ?_
  replace hp := hp.2
  refine g_blk hz0 kX8_strength_8 ?_
  refine ⟨fun c1 => ?_, fun c1 => ?_⟩
  · rw [if_neg (show ¬ ((f_X3_isIn s p m) = 0) from c1)] at hq
    replace hp := hp.2 c1
    refine g_blk hz0 kX8_strength_18 ?_
    refine cVp [1, 2, 3, 4, 5, 6, 7, 8, 9, 10, 11, 12] (wP s p) (s_X3_powerOf s p m hp.1) rfl cwX3_powerOf dX8_strength_23 rfl rfl (hm64_B_P _ _ _ _ _ _ _ _ _ _ _ _ _ _ _ _) ?_
    replace hp := hp.2
    refine g_blk hz0 kX8_strength_26 ?_
    subst hq
    exact ⟨fun h => (by cases h), rfl, rfl⟩
  · rw [if_pos (show (f_X3_isIn s p m) = 0 from c1)] at hq
    refine g_blk hz0 kX8_strength_11 ?_
    refine cV [0, 1, 2, 3, 4, 5, 6, 7, 8, 9, 10, 11, 12, 13, 14, 15, 16, 17, 18, 19, 20, 21, 22, 23, 24, 25, 26, 27, 28, 29, 30, 31, 32, 33, 34, 35, 36, 37, 38, 39, 40, 41, 42, 43, 44, 45, 46, 47, 48, 49, 50, 51, 52, 53, 54, 55, 56, 57, 58, 59, 60, 61, 62, 63, 64, 65, 66, 67, 68, 69, 70, 71, 72, 73, 74, 75, 76, 77, 78, 79, 80, 81, 82, 83, 84, 85, 86, 87, 88, 89, 90, 91, 92, 93, 94, 95, 96, 97, 98, 99, 100, 101, 102, 103, 104, 105, 106, 107, 108, 109, 110, 111] (wB c s p t e o oh h k q s1 p1 s2 p2 t1 t2) (s_X8_refuseBad c s p t e o oh h k q s1 p1 s2 p2 t1 t2 ((Int32.ofInt (-2)))) rfl cwX8_refuseBad dX8_strength_14 rfl rfl (hm63_B_B _ _ _ _ _ _ _ _ _ _ _ _ _ _ _ _) ((len_B _ _ _ _ _ _ _ _ _ _ _ _ _ _ _ _).trans (len_B _ _ _ _ _ _ _ _ _ _ _ _ _ _ _ _).symm) (wB ((f_X8_refuseBad c s p t e o oh h k q s1 p1 s2 p2 t1 t2 ((Int32.ofInt (-2)))).2) s p t e o oh h k q s1 p1 s2 p2 t1 t2) (pw85_B_B _ _ _ _ _ _ _ _ _ _ _ _ _ _ _ _ _) ?_
    obtain ⟨g2, hg2⟩ : ∃ z, z = (f_X8_refuseBad c s p t e o oh h k q s1 p1 s2 p2 t1 t2 ((Int32.ofInt (-2)))) := ⟨_, rfl⟩
    try rw [← hg2] at hp
    try rw [← hg2] at hq
    rw [← hg2]
    refine g_blk hz0 kX8_strength_17 ?_
    subst hq
    exact ⟨fun h => (by cases h), rfl, rfl⟩

def f_X8_ruler (c : Rec) (s : Rec) (p : Rec) (t : Rec) (e : Rec) (o : Rec) (oh : Rec) (h : Rec) (k : Rec) (q : Rec) (s1 : Rec) (p1 : Rec) (s2 : Rec) (p2 : Rec) (t1 : Rec) (t2 : Rec) (x : Int32) (y : Int32) : Int32 := (f_X3_rulerAt s p x y)
def p_X8_ruler (c : Rec) (s : Rec) (p : Rec) (t : Rec) (e : Rec) (o : Rec) (oh : Rec) (h : Rec) (k : Rec) (q : Rec) (s1 : Rec) (p1 : Rec) (s2 : Rec) (p2 : Rec) (t1 : Rec) (t2 : Rec) (x : Int32) (y : Int32) : Prop := (p_X3_rulerAt s p x y) ∧ True
set_option maxHeartbeats 16000000 in
set_option maxRecDepth 20000 in
theorem s_X8_ruler (c : Rec) (s : Rec) (p : Rec) (t : Rec) (e : Rec) (o : Rec) (oh : Rec) (h : Rec) (k : Rec) (q : Rec) (s1 : Rec) (p1 : Rec) (s2 : Rec) (p2 : Rec) (t1 : Rec) (t2 : Rec) (x : Int32) (y : Int32) (hp : p_X8_ruler c s p t e o oh h k q s1 p1 s2 p2 t1 t2 x y) : Spec 2 0 0 mX8_ruler [.ref 0, .int x, .int y] (wB c s p t e o oh h k q s1 p1 s2 p2 t1 t2) (Ret (some (.int ((f_X8_ruler c s p t e o oh h k q s1 p1 s2 p2 t1 t2 x y)))) (wB c s p t e o oh h k q s1 p1 s2 p2 t1 t2)) := by
  obtain ⟨zq, hq⟩ : ∃ z, z = (f_X8_ruler c s p t e o oh h k q s1 p1 s2 p2 t1 t2 x y) := ⟨_, rfl⟩
  rw [← hq]
  unfold f_X8_ruler at hq
  unfold p_X8_ruler at hp
  refine Sof fun sc => ?_
  refine g_blk hz0 kX8_ruler_0 ?_
  refine cVp [1, 2, 3, 4, 5, 6, 7, 8, 9, 10, 11, 12] (wP s p) (s_X3_rulerAt s p x y hp.1) rfl cwX3_rulerAt dX8_ruler_6 rfl rfl (hm64_B_P _ _ _ _ _ _ _ _ _ _ _ _ _ _ _ _) ?_
  replace hp := hp.2
  refine g_blk hz0 kX8_ruler_9 ?_
  subst hq
  exact ⟨fun h => (by cases h), rfl, rfl⟩

def f_X8_where (c : Rec) (s : Rec) (p : Rec) (t : Rec) (e : Rec) (o : Rec) (oh : Rec) (h : Rec) (k : Rec) (q : Rec) (s1 : Rec) (p1 : Rec) (s2 : Rec) (p2 : Rec) (t1 : Rec) (t2 : Rec) (m : Int32) : Int32 × Rec := if (f_X8_within m ((Int32.ofInt 0)) ((p.1 5) - (Int32.ofInt 1))) = 0 then (((f_X8_refuseBad c s p t e o oh h k q s1 p1 s2 p2 t1 t2 ((Int32.ofInt (-2)))).1), ((f_X8_refuseBad c s p t e o oh h k q s1 p1 s2 p2 t1 t2 ((Int32.ofInt (-2)))).2)) else (((p.2 4) (Int32.toNatClampNeg m)), c)
def p_X8_where (c : Rec) (s : Rec) (p : Rec) (t : Rec) (e : Rec) (o : Rec) (oh : Rec) (h : Rec) (k : Rec) (q : Rec) (s1 : Rec) (p1 : Rec) (s2 : Rec) (p2 : Rec) (t1 : Rec) (t2 : Rec) (m : Int32) : Prop := ((f_X8_within m ((Int32.ofInt 0)) ((p.1 5) - (Int32.ofInt 1))) = 0 → True) ∧ (¬ ((f_X8_within m ((Int32.ofInt 0)) ((p.1 5) - (Int32.ofInt 1))) = 0) → (vp_in m 8 ∧ True))
set_option maxHeartbeats 16000000 in
set_option maxRecDepth 20000 in
theorem s_X8_where (c : Rec) (s : Rec) (p : Rec) (t : Rec) (e : Rec) (o : Rec) (oh : Rec) (h : Rec) (k : Rec) (q : Rec) (s1 : Rec) (p1 : Rec) (s2 : Rec) (p2 : Rec) (t1 : Rec) (t2 : Rec) (m : Int32) (hp : p_X8_where c s p t e o oh h k q s1 p1 s2 p2 t1 t2 m) : Spec 1 0 0 mX8_where [.ref 0, .int m] (wB c s p t e o oh h k q s1 p1 s2 p2 t1 t2) (Ret (some (.int ((f_X8_where c s p t e o oh h k q s1 p1 s2 p2 t1 t2 m).1))) (wB ((f_X8_where c s p t e o oh h k q s1 p1 s2 p2 t1 t2 m).2) s p t e o oh h k q s1 p1 s2 p2 t1 t2)) := by
  obtain ⟨zq, hq⟩ : ∃ z, z = (f_X8_where c s p t e o oh h k q s1 p1 s2 p2 t1 t2 m) := ⟨_, rfl⟩
  rw [← hq]
  unfold f_X8_where at hq
  unfold p_X8_where at hp
  refine Sof fun sc => ?_
  refine g_blk hz0 kX8_where_0 ?_
  refine cS0 (s_X8_within m ((Int32.ofInt 0)) ((p.1 5) - (Int32.ofInt 1))) rfl cwX8_within dX8_where_11 rfl ?_
  refine g_blk hz0 kX8_where_14 ?_
  refine ⟨fun c1 => ?_, fun c1 => ?_⟩
  · rw [if_neg (show ¬ ((f_X8_within m ((Int32.ofInt 0)) ((p.1 5) - (Int32.ofInt 1))) = 0) from c1)] at hq
    replace hp := hp.2 c1
    refine g_blk hz0 kX8_where_24 ?_
    refine ⟨hp.1, ?_⟩
    replace hp := hp.2
    subst hq
    exact ⟨fun h => (by cases h), rfl, rfl⟩
  · rw [if_pos (show (f_X8_within m ((Int32.ofInt 0)) ((p.1 5) - (Int32.ofInt 1))) = 0 from c1)] at hq
    refine g_blk hz0 kX8_where_17 ?_
    refine cV [0, 1, 2, 3, 4, 5, 6, 7, 8, 9, 10, 11, 12, 13, 14, 15, 16, 17, 18, 19, 20, 21, 22, 23, 24, 25, 26, 27, 28, 29, 30, 31, 32, 33, 34, 35, 36, 37, 38, 39, 40, 41, 42, 43, 44, 45, 46, 47, 48, 49, 50, 51, 52, 53, 54, 55, 56, 57, 58, 59, 60, 61, 62, 63, 64, 65, 66, 67, 68, 69, 70, 71, 72, 73, 74, 75, 76, 77, 78, 79, 80, 81, 82, 83, 84, 85, 86, 87, 88, 89, 90, 91, 92, 93, 94, 95, 96, 97, 98, 99, 100, 101, 102, 103, 104, 105, 106, 107, 108, 109, 110, 111] (wB c s p t e o oh h k q s1 p1 s2 p2 t1 t2) (s_X8_refuseBad c s p t e o oh h k q s1 p1 s2 p2 t1 t2 ((Int32.ofInt (-2)))) rfl cwX8_refuseBad dX8_where_20 rfl rfl (hm63_B_B _ _ _ _ _ _ _ _ _ _ _ _ _ _ _ _) ((len_B _ _ _ _ _ _ _ _ _ _ _ _ _ _ _ _).trans (len_B _ _ _ _ _ _ _ _ _ _ _ _ _ _ _ _).symm) (wB ((f_X8_refuseBad c s p t e o oh h k q s1 p1 s2 p2 t1 t2 ((Int32.ofInt (-2)))).2) s p t e o oh h k q s1 p1 s2 p2 t1 t2) (pw85_B_B _ _ _ _ _ _ _ _ _ _ _ _ _ _ _ _ _) ?_
    obtain ⟨g2, hg2⟩ : ∃ z, z = (f_X8_refuseBad c s p t e o oh h k q s1 p1 s2 p2 t1 t2 ((Int32.ofInt (-2)))) := ⟨_, rfl⟩
    try rw [← hg2] at hp
    try rw [← hg2] at hq
    rw [← hg2]
    refine g_blk hz0 kX8_where_23 ?_
    subst hq
    exact ⟨fun h => (by cases h), rfl, rfl⟩

def f_X8_clear (c : Rec) (s : Rec) (p : Rec) (t : Rec) (e : Rec) (o : Rec) (oh : Rec) (h : Rec) (k : Rec) (q : Rec) (s1 : Rec) (p1 : Rec) (s2 : Rec) (p2 : Rec) (t1 : Rec) (t2 : Rec)  : Int32 × Rec := ((e.1 2), (setG e 2 ((Int32.ofInt 0))))
set_option maxHeartbeats 16000000 in
set_option maxRecDepth 20000 in
theorem s_X8_clear (c : Rec) (s : Rec) (p : Rec) (t : Rec) (e : Rec) (o : Rec) (oh : Rec) (h : Rec) (k : Rec) (q : Rec) (s1 : Rec) (p1 : Rec) (s2 : Rec) (p2 : Rec) (t1 : Rec) (t2 : Rec)  : Spec 0 0 0 mX8_clear [.ref 0] (wB c s p t e o oh h k q s1 p1 s2 p2 t1 t2) (Ret (some (.int ((f_X8_clear c s p t e o oh h k q s1 p1 s2 p2 t1 t2).1))) (wB c s p t ((f_X8_clear c s p t e o oh h k q s1 p1 s2 p2 t1 t2).2) o oh h k q s1 p1 s2 p2 t1 t2)) := by
  obtain ⟨zq, hq⟩ : ∃ z, z = (f_X8_clear c s p t e o oh h k q s1 p1 s2 p2 t1 t2) := ⟨_, rfl⟩
  rw [← hq]
  unfold f_X8_clear at hq
  refine Sof fun sc => ?_
  refine g_blk hz0 kX8_clear_0 ?_
  refine ⟨fun h => (by cases h), Or.inl rfl, ?_⟩
  subst hq
  exact ⟨fun h => (by cases h), rfl, rfl⟩

def f_X8_status (c : Rec) (s : Rec) (p : Rec) (t : Rec) (e : Rec) (o : Rec) (oh : Rec) (h : Rec) (k : Rec) (q : Rec) (s1 : Rec) (p1 : Rec) (s2 : Rec) (p2 : Rec) (t1 : Rec) (t2 : Rec) (w : Int32) : Int32 × Rec := if (Int32.toInt w) < 0 ∨ 2 < (Int32.toInt w) then (((f_X8_refuseBad c s p t e o oh h k q s1 p1 s2 p2 t1 t2 ((Int32.ofInt (-1)))).1), ((f_X8_refuseBad c s p t e o oh h k q s1 p1 s2 p2 t1 t2 ((Int32.ofInt (-1)))).2)) else (if (Int32.toInt w) = 0 then ((c.1 11), c) else (if (Int32.toInt w) = 1 then ((c.1 12), c) else ((c.1 13), c)))
set_option maxHeartbeats 16000000 in
set_option maxRecDepth 20000 in
theorem s_X8_status (c : Rec) (s : Rec) (p : Rec) (t : Rec) (e : Rec) (o : Rec) (oh : Rec) (h : Rec) (k : Rec) (q : Rec) (s1 : Rec) (p1 : Rec) (s2 : Rec) (p2 : Rec) (t1 : Rec) (t2 : Rec) (w : Int32) : Spec 1 0 0 mX8_status [.ref 0, .int w] (wB c s p t e o oh h k q s1 p1 s2 p2 t1 t2) (Ret (some (.int ((f_X8_status c s p t e o oh h k q s1 p1 s2 p2 t1 t2 w).1))) (wB ((f_X8_status c s p t e o oh h k q s1 p1 s2 p2 t1 t2 w).2) s p t e o oh h k q s1 p1 s2 p2 t1 t2)) := by
  obtain ⟨zq, hq⟩ : ∃ z, z = (f_X8_status c s p t e o oh h k q s1 p1 s2 p2 t1 t2 w) := ⟨_, rfl⟩
  rw [← hq]
  unfold f_X8_status at hq
  refine Sof fun sc => ?_
  refine g_blk hz0 kX8_status_0 ?_
  refine g_tsw dX8_status_1 (by decide +kernel) (by decide +kernel) (by decide +kernel) (fun c1 => ?_) (fun j o hj hx => ?_)
  · rw [if_pos (show (Int32.toInt w) < 0 ∨ 2 < (Int32.toInt w) from c1)] at hq
    refine g_blk hz0 kX8_status_43 ?_
    refine cV [0, 1, 2, 3, 4, 5, 6, 7, 8, 9, 10, 11, 12, 13, 14, 15, 16, 17, 18, 19, 20, 21, 22, 23, 24, 25, 26, 27, 28, 29, 30, 31, 32, 33, 34, 35, 36, 37, 38, 39, 40, 41, 42, 43, 44, 45, 46, 47, 48, 49, 50, 51, 52, 53, 54, 55, 56, 57, 58, 59, 60, 61, 62, 63, 64, 65, 66, 67, 68, 69, 70, 71, 72, 73, 74, 75, 76, 77, 78, 79, 80, 81, 82, 83, 84, 85, 86, 87, 88, 89, 90, 91, 92, 93, 94, 95, 96, 97, 98, 99, 100, 101, 102, 103, 104, 105, 106, 107, 108, 109, 110, 111] (wB c s p t e o oh h k q s1 p1 s2 p2 t1 t2) (s_X8_refuseBad c s p t e o oh h k q s1 p1 s2 p2 t1 t2 ((Int32.ofInt (-1)))) rfl cwX8_refuseBad dX8_status_45 rfl rfl (hm63_B_B _ _ _ _ _ _ _ _ _ _ _ _ _ _ _ _) ((len_B _ _ _ _ _ _ _ _ _ _ _ _ _ _ _ _).trans (len_B _ _ _ _ _ _ _ _ _ _ _ _ _ _ _ _).symm) (wB ((f_X8_refuseBad c s p t e o oh h k q s1 p1 s2 p2 t1 t2 ((Int32.ofInt (-1)))).2) s p t e o oh h k q s1 p1 s2 p2 t1 t2) (pw85_B_B _ _ _ _ _ _ _ _ _ _ _ _ _ _ _ _ _) ?_
    obtain ⟨g2, hg2⟩ : ∃ z, z = (f_X8_refuseBad c s p t e o oh h k q s1 p1 s2 p2 t1 t2 ((Int32.ofInt (-1)))) := ⟨_, rfl⟩
    try rw [← hg2] at hp
    try rw [← hg2] at hq
    rw [← hg2]
    refine g_blk hz0 kX8_status_48 ?_
    subst hq
    exact ⟨fun h => (by cases h), rfl, rfl⟩
  · rcases j with _ | _ | _ | j
    · have ho : o = 27 := by simpa using hj.symm
      subst ho
      have hx2 : (Int32.toInt w) = 0 := by simpa using hx
      rw [if_neg (show ¬ ((Int32.toInt w) < 0 ∨ 2 < (Int32.toInt w)) by omega)] at hq
      rw [if_pos (show (Int32.toInt w) = 0 from hx2)] at hq
      refine g_blk hz0 kX8_status_28 ?_
      subst hq
      exact ⟨fun h => (by cases h), rfl, rfl⟩
    · have ho : o = 32 := by simpa using hj.symm
      subst ho
      have hx2 : (Int32.toInt w) = 1 := by simpa using hx
      rw [if_neg (show ¬ ((Int32.toInt w) < 0 ∨ 2 < (Int32.toInt w)) by omega)] at hq
      rw [if_neg (show ¬ ((Int32.toInt w) = 0) by omega)] at hq
      rw [if_pos (show (Int32.toInt w) = 1 from hx2)] at hq
      refine g_blk hz0 kX8_status_33 ?_
      subst hq
      exact ⟨fun h => (by cases h), rfl, rfl⟩
    · have ho : o = 37 := by simpa using hj.symm
      subst ho
      have hx2 : (Int32.toInt w) = 2 := by simpa using hx
      rw [if_neg (show ¬ ((Int32.toInt w) < 0 ∨ 2 < (Int32.toInt w)) by omega)] at hq
      rw [if_neg (show ¬ ((Int32.toInt w) = 0) by omega)] at hq
      rw [if_neg (show ¬ ((Int32.toInt w) = 1) by omega)] at hq
      refine g_blk hz0 kX8_status_38 ?_
      subst hq
      exact ⟨fun h => (by cases h), rfl, rfl⟩
    · exact absurd hj (by simp)

def f_X8_count (c : Rec) (s : Rec) (p : Rec) (t : Rec) (e : Rec) (o : Rec) (oh : Rec) (h : Rec) (k : Rec) (q : Rec) (s1 : Rec) (p1 : Rec) (s2 : Rec) (p2 : Rec) (t1 : Rec) (t2 : Rec) (w : Int32) : Int32 × Rec := if (Int32.toInt w) < 0 ∨ 3 < (Int32.toInt w) then (((f_X8_refuseBad c s p t e o oh h k q s1 p1 s2 p2 t1 t2 ((Int32.ofInt (-2)))).1), ((f_X8_refuseBad c s p t e o oh h k q s1 p1 s2 p2 t1 t2 ((Int32.ofInt (-2)))).2)) else (if (Int32.toInt w) = 0 then ((f_X4_howMany s), c) else (if (Int32.toInt w) = 1 then ((p.1 5), c) else (if (Int32.toInt w) = 2 then ((e.1 2), c) else ((t.1 2), c))))
def p_X8_count (c : Rec) (s : Rec) (p : Rec) (t : Rec) (e : Rec) (o : Rec) (oh : Rec) (h : Rec) (k : Rec) (q : Rec) (s1 : Rec) (p1 : Rec) (s2 : Rec) (p2 : Rec) (t1 : Rec) (t2 : Rec) (w : Int32) : Prop := ((Int32.toInt w) < 0 ∨ 3 < (Int32.toInt w) → True) ∧ (¬ ((Int32.toInt w) < 0 ∨ 3 < (Int32.toInt w)) → (((Int32.toInt w) = 0 → ((p_X4_howMany s) ∧ True)) ∧ (¬ ((Int32.toInt w) = 0) → True)))
set_option maxHeartbeats 16000000 in
set_option maxRecDepth 20000 in
theorem s_X8_count (c : Rec) (s : Rec) (p : Rec) (t : Rec) (e : Rec) (o : Rec) (oh : Rec) (h : Rec) (k : Rec) (q : Rec) (s1 : Rec) (p1 : Rec) (s2 : Rec) (p2 : Rec) (t1 : Rec) (t2 : Rec) (w : Int32) (hp : p_X8_count c s p t e o oh h k q s1 p1 s2 p2 t1 t2 w) : Spec 1 0 0 mX8_count [.ref 0, .int w] (wB c s p t e o oh h k q s1 p1 s2 p2 t1 t2) (Ret (some (.int ((f_X8_count c s p t e o oh h k q s1 p1 s2 p2 t1 t2 w).1))) (wB ((f_X8_count c s p t e o oh h k q s1 p1 s2 p2 t1 t2 w).2) s p t e o oh h k q s1 p1 s2 p2 t1 t2)) := by
  obtain ⟨zq, hq⟩ : ∃ z, z = (f_X8_count c s p t e o oh h k q s1 p1 s2 p2 t1 t2 w) := ⟨_, rfl⟩
  rw [← hq]
  unfold f_X8_count at hq
  unfold p_X8_count at hp
  refine Sof fun sc => ?_
  refine g_blk hz0 kX8_count_0 ?_
  refine g_tsw dX8_count_1 (by decide +kernel) (by decide +kernel) (by decide +kernel) (fun c1 => ?_) (fun j o hj hx => ?_)
  · rw [if_pos (show (Int32.toInt w) < 0 ∨ 3 < (Int32.toInt w) from c1)] at hq
    refine g_blk hz0 kX8_count_67 ?_
    refine cV [0, 1, 2, 3, 4, 5, 6, 7, 8, 9, 10, 11, 12, 13, 14, 15, 16, 17, 18, 19, 20, 21, 22, 23, 24, 25, 26, 27, 28, 29, 30, 31, 32, 33, 34, 35, 36, 37, 38, 39, 40, 41, 42, 43, 44, 45, 46, 47, 48, 49, 50, 51, 52, 53, 54, 55, 56, 57, 58, 59, 60, 61, 62, 63, 64, 65, 66, 67, 68, 69, 70, 71, 72, 73, 74, 75, 76, 77, 78, 79, 80, 81, 82, 83, 84, 85, 86, 87, 88, 89, 90, 91, 92, 93, 94, 95, 96, 97, 98, 99, 100, 101, 102, 103, 104, 105, 106, 107, 108, 109, 110, 111] (wB c s p t e o oh h k q s1 p1 s2 p2 t1 t2) (s_X8_refuseBad c s p t e o oh h k q s1 p1 s2 p2 t1 t2 ((Int32.ofInt (-2)))) rfl cwX8_refuseBad dX8_count_70 rfl rfl (hm63_B_B _ _ _ _ _ _ _ _ _ _ _ _ _ _ _ _) ((len_B _ _ _ _ _ _ _ _ _ _ _ _ _ _ _ _).trans (len_B _ _ _ _ _ _ _ _ _ _ _ _ _ _ _ _).symm) (wB ((f_X8_refuseBad c s p t e o oh h k q s1 p1 s2 p2 t1 t2 ((Int32.ofInt (-2)))).2) s p t e o oh h k q s1 p1 s2 p2 t1 t2) (pw85_B_B _ _ _ _ _ _ _ _ _ _ _ _ _ _ _ _ _) ?_
    obtain ⟨g2, hg2⟩ : ∃ z, z = (f_X8_refuseBad c s p t e o oh h k q s1 p1 s2 p2 t1 t2 ((Int32.ofInt (-2)))) := ⟨_, rfl⟩
    try rw [← hg2] at hp
    try rw [← hg2] at hq
    rw [← hg2]
    refine g_blk hz0 kX8_count_73 ?_
    subst hq
    exact ⟨fun h => (by cases h), rfl, rfl⟩
  · rcases j with _ | _ | _ | _ | j
    · have ho : o = 31 := by simpa using hj.symm
      subst ho
      have hx2 : (Int32.toInt w) = 0 := by simpa using hx
      rw [if_neg (show ¬ ((Int32.toInt w) < 0 ∨ 3 < (Int32.toInt w)) by omega)] at hq
      replace hp := hp.2 (by omega)
      rw [if_pos (show (Int32.toInt w) = 0 from hx2)] at hq
      replace hp := hp.1 hx2
      refine g_blk hz0 kX8_count_32 ?_
      refine cVp [2, 3, 4, 5, 6, 7, 8] (wS s) (s_X4_howMany s hp.1) rfl cwX4_howMany dX8_count_39 rfl rfl (hm67_B_S _ _ _ _ _ _ _ _ _ _ _ _ _ _ _ _) ?_
      replace hp := hp.2
      refine g_blk hz0 kX8_count_42 ?_
      subst hq
      exact ⟨fun h => (by cases h), rfl, rfl⟩
    · have ho : o = 42 := by simpa using hj.symm
      subst ho
      have hx2 : (Int32.toInt w) = 1 := by simpa using hx
      rw [if_neg (show ¬ ((Int32.toInt w) < 0 ∨ 3 < (Int32.toInt w)) by omega)] at hq
      replace hp := hp.2 (by omega)
      rw [if_neg (show ¬ ((Int32.toInt w) = 0) by omega)] at hq
      rw [if_pos (show (Int32.toInt w) = 1 from hx2)] at hq
      refine g_blk hz0 kX8_count_43 ?_
      subst hq
      exact ⟨fun h => (by cases h), rfl, rfl⟩
    · have ho : o = 50 := by simpa using hj.symm
      subst ho
      have hx2 : (Int32.toInt w) = 2 := by simpa using hx
      rw [if_neg (show ¬ ((Int32.toInt w) < 0 ∨ 3 < (Int32.toInt w)) by omega)] at hq
      replace hp := hp.2 (by omega)
      rw [if_neg (show ¬ ((Int32.toInt w) = 0) by omega)] at hq
      rw [if_neg (show ¬ ((Int32.toInt w) = 1) by omega)] at hq
      rw [if_pos (show (Int32.toInt w) = 2 from hx2)] at hq
      refine g_blk hz0 kX8_count_51 ?_
      subst hq
      exact ⟨fun h => (by cases h), rfl, rfl⟩
    · have ho : o = 58 := by simpa using hj.symm
      subst ho
      have hx2 : (Int32.toInt w) = 3 := by simpa using hx
      rw [if_neg (show ¬ ((Int32.toInt w) < 0 ∨ 3 < (Int32.toInt w)) by omega)] at hq
      replace hp := hp.2 (by omega)
      rw [if_neg (show ¬ ((Int32.toInt w) = 0) by omega)] at hq
      rw [if_neg (show ¬ ((Int32.toInt w) = 1) by omega)] at hq
      rw [if_neg (show ¬ ((Int32.toInt w) = 2) by omega)] at hq
      refine g_blk hz0 kX8_count_59 ?_
      subst hq
      exact ⟨fun h => (by cases h), rfl, rfl⟩
    · exact absurd hj (by simp)

def f_X8_state (c : Rec) (s : Rec) (p : Rec) (t : Rec) (e : Rec) (o : Rec) (oh : Rec) (h : Rec) (k : Rec) (q : Rec) (s1 : Rec) (p1 : Rec) (s2 : Rec) (p2 : Rec) (t1 : Rec) (t2 : Rec) (w : Int32) : Int32 × Rec := if (Int32.toInt w) < 0 ∨ 5 < (Int32.toInt w) then (((f_X8_refuseBad c s p t e o oh h k q s1 p1 s2 p2 t1 t2 ((Int32.ofInt (-10)))).1), ((f_X8_refuseBad c s p t e o oh h k q s1 p1 s2 p2 t1 t2 ((Int32.ofInt (-10)))).2)) else (if (Int32.toInt w) = 0 then ((p.1 6), c) else (if (Int32.toInt w) = 1 then ((f_X3_onTurn s p), c) else (if (Int32.toInt w) = 2 then ((p.1 7), c) else (if (Int32.toInt w) = 3 then ((s.1 2), c) else (if (Int32.toInt w) = 4 then ((f_X3_behindNow s p), c) else ((f_X3_winner s p), c))))))
def p_X8_state (c : Rec) (s : Rec) (p : Rec) (t : Rec) (e : Rec) (o : Rec) (oh : Rec) (h : Rec) (k : Rec) (q : Rec) (s1 : Rec) (p1 : Rec) (s2 : Rec) (p2 : Rec) (t1 : Rec) (t2 : Rec) (w : Int32) : Prop := ((Int32.toInt w) < 0 ∨ 5 < (Int32.toInt w) → True) ∧ (¬ ((Int32.toInt w) < 0 ∨ 5 < (Int32.toInt w)) → (((Int32.toInt w) = 0 → True) ∧ (¬ ((Int32.toInt w) = 0) → (((Int32.toInt w) = 1 → True) ∧ (¬ ((Int32.toInt w) = 1) → (((Int32.toInt w) = 2 → True) ∧ (¬ ((Int32.toInt w) = 2) → (((Int32.toInt w) = 3 → True) ∧ (¬ ((Int32.toInt w) = 3) → (((Int32.toInt w) = 4 → ((p_X3_behindNow s p) ∧ True)) ∧ (¬ ((Int32.toInt w) = 4) → ((p_X3_winner s p) ∧ True))))))))))))
set_option maxHeartbeats 16000000 in
set_option maxRecDepth 20000 in
theorem s_X8_state (c : Rec) (s : Rec) (p : Rec) (t : Rec) (e : Rec) (o : Rec) (oh : Rec) (h : Rec) (k : Rec) (q : Rec) (s1 : Rec) (p1 : Rec) (s2 : Rec) (p2 : Rec) (t1 : Rec) (t2 : Rec) (w : Int32) (hp : p_X8_state c s p t e o oh h k q s1 p1 s2 p2 t1 t2 w) : Spec 3 0 0 mX8_state [.ref 0, .int w] (wB c s p t e o oh h k q s1 p1 s2 p2 t1 t2) (Ret (some (.int ((f_X8_state c s p t e o oh h k q s1 p1 s2 p2 t1 t2 w).1))) (wB ((f_X8_state c s p t e o oh h k q s1 p1 s2 p2 t1 t2 w).2) s p t e o oh h k q s1 p1 s2 p2 t1 t2)) := by
  obtain ⟨zq, hq⟩ : ∃ z, z = (f_X8_state c s p t e o oh h k q s1 p1 s2 p2 t1 t2 w) := ⟨_, rfl⟩
  rw [← hq]
  unfold f_X8_state at hq
  unfold p_X8_state at hp
  refine Sof fun sc => ?_
  refine g_blk hz0 kX8_state_0 ?_
  refine g_tsw dX8_state_1 (by decide +kernel) (by decide +kernel) (by decide +kernel) (fun c1 => ?_) (fun j o hj hx => ?_)
  · rw [if_pos (show (Int32.toInt w) < 0 ∨ 5 < (Int32.toInt w) from c1)] at hq
    refine g_blk hz0 kX8_state_91 ?_
    refine cV [0, 1, 2, 3, 4, 5, 6, 7, 8, 9, 10, 11, 12, 13, 14, 15, 16, 17, 18, 19, 20, 21, 22, 23, 24, 25, 26, 27, 28, 29, 30, 31, 32, 33, 34, 35, 36, 37, 38, 39, 40, 41, 42, 43, 44, 45, 46, 47, 48, 49, 50, 51, 52, 53, 54, 55, 56, 57, 58, 59, 60, 61, 62, 63, 64, 65, 66, 67, 68, 69, 70, 71, 72, 73, 74, 75, 76, 77, 78, 79, 80, 81, 82, 83, 84, 85, 86, 87, 88, 89, 90, 91, 92, 93, 94, 95, 96, 97, 98, 99, 100, 101, 102, 103, 104, 105, 106, 107, 108, 109, 110, 111] (wB c s p t e o oh h k q s1 p1 s2 p2 t1 t2) (s_X8_refuseBad c s p t e o oh h k q s1 p1 s2 p2 t1 t2 ((Int32.ofInt (-10)))) rfl cwX8_refuseBad dX8_state_94 rfl rfl (hm63_B_B _ _ _ _ _ _ _ _ _ _ _ _ _ _ _ _) ((len_B _ _ _ _ _ _ _ _ _ _ _ _ _ _ _ _).trans (len_B _ _ _ _ _ _ _ _ _ _ _ _ _ _ _ _).symm) (wB ((f_X8_refuseBad c s p t e o oh h k q s1 p1 s2 p2 t1 t2 ((Int32.ofInt (-10)))).2) s p t e o oh h k q s1 p1 s2 p2 t1 t2) (pw85_B_B _ _ _ _ _ _ _ _ _ _ _ _ _ _ _ _ _) ?_
    obtain ⟨g2, hg2⟩ : ∃ z, z = (f_X8_refuseBad c s p t e o oh h k q s1 p1 s2 p2 t1 t2 ((Int32.ofInt (-10)))) := ⟨_, rfl⟩
    try rw [← hg2] at hp
    try rw [← hg2] at hq
    rw [← hg2]
    refine g_blk hz0 kX8_state_97 ?_
    subst hq
    exact ⟨fun h => (by cases h), rfl, rfl⟩
  · rcases j with _ | _ | _ | _ | _ | _ | j
    · have ho : o = 39 := by simpa using hj.symm
      subst ho
      have hx2 : (Int32.toInt w) = 0 := by simpa using hx
      rw [if_neg (show ¬ ((Int32.toInt w) < 0 ∨ 5 < (Int32.toInt w)) by omega)] at hq
      replace hp := hp.2 (by omega)
      rw [if_pos (show (Int32.toInt w) = 0 from hx2)] at hq
      refine g_blk hz0 kX8_state_40 ?_
      subst hq
      exact ⟨fun h => (by cases h), rfl, rfl⟩
    · have ho : o = 47 := by simpa using hj.symm
      subst ho
      have hx2 : (Int32.toInt w) = 1 := by simpa using hx
      rw [if_neg (show ¬ ((Int32.toInt w) < 0 ∨ 5 < (Int32.toInt w)) by omega)] at hq
      replace hp := hp.2 (by omega)
      rw [if_neg (show ¬ ((Int32.toInt w) = 0) by omega)] at hq
      replace hp := hp.2 (by omega)
      rw [if_pos (show (Int32.toInt w) = 1 from hx2)] at hq
      refine g_blk hz0 kX8_state_48 ?_
      refine cVp [1, 2, 3, 4, 5, 6, 7, 8, 9, 10, 11, 12] (wP s p) (s_X3_onTurn s p) rfl cwX3_onTurn dX8_state_52 rfl rfl (hm64_B_P _ _ _ _ _ _ _ _ _ _ _ _ _ _ _ _) ?_
      refine g_blk hz0 kX8_state_55 ?_
      subst hq
      exact ⟨fun h => (by cases h), rfl, rfl⟩
    · have ho : o = 55 := by simpa using hj.symm
      subst ho
      have hx2 : (Int32.toInt w) = 2 := by simpa using hx
      rw [if_neg (show ¬ ((Int32.toInt w) < 0 ∨ 5 < (Int32.toInt w)) by omega)] at hq
      replace hp := hp.2 (by omega)
      rw [if_neg (show ¬ ((Int32.toInt w) = 0) by omega)] at hq
      replace hp := hp.2 (by omega)
      rw [if_neg (show ¬ ((Int32.toInt w) = 1) by omega)] at hq
      replace hp := hp.2 (by omega)
      rw [if_pos (show (Int32.toInt w) = 2 from hx2)] at hq
      refine g_blk hz0 kX8_state_56 ?_
      subst hq
      exact ⟨fun h => (by cases h), rfl, rfl⟩
    · have ho : o = 63 := by simpa using hj.symm
      subst ho
      have hx2 : (Int32.toInt w) = 3 := by simpa using hx
      rw [if_neg (show ¬ ((Int32.toInt w) < 0 ∨ 5 < (Int32.toInt w)) by omega)] at hq
      replace hp := hp.2 (by omega)
      rw [if_neg (show ¬ ((Int32.toInt w) = 0) by omega)] at hq
      replace hp := hp.2 (by omega)
      rw [if_neg (show ¬ ((Int32.toInt w) = 1) by omega)] at hq
      replace hp := hp.2 (by omega)
      rw [if_neg (show ¬ ((Int32.toInt w) = 2) by omega)] at hq
      replace hp := hp.2 (by omega)
      rw [if_pos (show (Int32.toInt w) = 3 from hx2)] at hq
      refine g_blk hz0 kX8_state_64 ?_
      subst hq
      exact ⟨fun h => (by cases h), rfl, rfl⟩
    · have ho : o = 74 := by simpa using hj.symm
      subst ho
      have hx2 : (Int32.toInt w) = 4 := by simpa using hx
      rw [if_neg (show ¬ ((Int32.toInt w) < 0 ∨ 5 < (Int32.toInt w)) by omega)] at hq
      replace hp := hp.2 (by omega)
      rw [if_neg (show ¬ ((Int32.toInt w) = 0) by omega)] at hq
      replace hp := hp.2 (by omega)
      rw [if_neg (show ¬ ((Int32.toInt w) = 1) by omega)] at hq
      replace hp := hp.2 (by omega)
      rw [if_neg (show ¬ ((Int32.toInt w) = 2) by omega)] at hq
      replace hp := hp.2 (by omega)
      rw [if_neg (show ¬ ((Int32.toInt w) = 3) by omega)] at hq
      replace hp := hp.2 (by omega)
      rw [if_pos (show (Int32.toInt w) = 4 from hx2)] at hq
      replace hp := hp.1 hx2
      refine g_blk hz0 kX8_state_75 ?_
      refine cVp [1, 2, 3, 4, 5, 6, 7, 8, 9, 10, 11, 12] (wP s p) (s_X3_behindNow s p hp.1) rfl cwX3_behindNow dX8_state_79 rfl rfl (hm64_B_P _ _ _ _ _ _ _ _ _ _ _ _ _ _ _ _) ?_
      replace hp := hp.2
      refine g_blk hz0 kX8_state_82 ?_
      subst hq
      exact ⟨fun h => (by cases h), rfl, rfl⟩
    · have ho : o = 82 := by simpa using hj.symm
      subst ho
      have hx2 : (Int32.toInt w) = 5 := by simpa using hx
      rw [if_neg (show ¬ ((Int32.toInt w) < 0 ∨ 5 < (Int32.toInt w)) by omega)] at hq
      replace hp := hp.2 (by omega)
      rw [if_neg (show ¬ ((Int32.toInt w) = 0) by omega)] at hq
      replace hp := hp.2 (by omega)
      rw [if_neg (show ¬ ((Int32.toInt w) = 1) by omega)] at hq
      replace hp := hp.2 (by omega)
      rw [if_neg (show ¬ ((Int32.toInt w) = 2) by omega)] at hq
      replace hp := hp.2 (by omega)
      rw [if_neg (show ¬ ((Int32.toInt w) = 3) by omega)] at hq
      replace hp := hp.2 (by omega)
      rw [if_neg (show ¬ ((Int32.toInt w) = 4) by omega)] at hq
      replace hp := hp.2 (by omega)
      refine g_blk hz0 kX8_state_83 ?_
      refine cVp [1, 2, 3, 4, 5, 6, 7, 8, 9, 10, 11, 12] (wP s p) (s_X3_winner s p hp.1) rfl cwX3_winner dX8_state_87 rfl rfl (hm64_B_P _ _ _ _ _ _ _ _ _ _ _ _ _ _ _ _) ?_
      replace hp := hp.2
      refine g_blk hz0 kX8_state_90 ?_
      subst hq
      exact ⟨fun h => (by cases h), rfl, rfl⟩
    · exact absurd hj (by simp)

def f_X8_folds (c : Rec) (s : Rec) (p : Rec) (t : Rec) (e : Rec) (o : Rec) (oh : Rec) (h : Rec) (k : Rec) (q : Rec) (s1 : Rec) (p1 : Rec) (s2 : Rec) (p2 : Rec) (t1 : Rec) (t2 : Rec) (i : Int32) : Int32 × Rec := if (Int32.ofInt (-1)) ≤ i then (if i = (Int32.ofInt (-1)) then ((f_X4_choices s), c) else (if i < (f_X4_choices s) then (((((Int32.ofInt 1000) * (f_X4_choiceAxis s i)) + ((Int32.ofInt 10) * ((f_X4_choiceLine s i) + (Int32.ofInt 20)))) + (f_X4_choiceWay s i)), c) else ((Int32.ofInt (-5)), c))) else (((f_X8_refuseBad c s p t e o oh h k q s1 p1 s2 p2 t1 t2 ((Int32.ofInt (-10)))).1), ((f_X8_refuseBad c s p t e o oh h k q s1 p1 s2 p2 t1 t2 ((Int32.ofInt (-10)))).2))
set_option maxHeartbeats 16000000 in
set_option maxRecDepth 20000 in
theorem s_X8_folds (c : Rec) (s : Rec) (p : Rec) (t : Rec) (e : Rec) (o : Rec) (oh : Rec) (h : Rec) (k : Rec) (q : Rec) (s1 : Rec) (p1 : Rec) (s2 : Rec) (p2 : Rec) (t1 : Rec) (t2 : Rec) (i : Int32) : Spec 1 0 0 mX8_folds [.ref 0, .int i] (wB c s p t e o oh h k q s1 p1 s2 p2 t1 t2) (Ret (some (.int ((f_X8_folds c s p t e o oh h k q s1 p1 s2 p2 t1 t2 i).1))) (wB ((f_X8_folds c s p t e o oh h k q s1 p1 s2 p2 t1 t2 i).2) s p t e o oh h k q s1 p1 s2 p2 t1 t2)) := by
  obtain ⟨zq, hq⟩ : ∃ z, z = (f_X8_folds c s p t e o oh h k q s1 p1 s2 p2 t1 t2 i) := ⟨_, rfl⟩
  rw [← hq]
  unfold f_X8_folds at hq
  refine Sof fun sc => ?_
  refine g_blk hz0 kX8_folds_0 ?_
  refine ⟨fun c1 => ?_, fun c1 => ?_⟩
  · rw [if_pos (show (Int32.ofInt (-1)) ≤ i from c1)] at hq
    refine g_blk hz0 kX8_folds_12 ?_
    refine ⟨fun c2 => ?_, fun c2 => ?_⟩
    · rw [if_neg (show ¬ (i = (Int32.ofInt (-1))) from c2)] at hq
      refine g_blk hz0 kX8_folds_30 ?_
      refine cVp [2, 3, 4, 5, 6, 7, 8] (wS s) (s_X4_choices s) rfl cwX4_choices dX8_folds_32 rfl rfl (hm67_B_S _ _ _ _ _ _ _ _ _ _ _ _ _ _ _ _) ?_
      refine g_blk hz0 kX8_folds_35 ?_
      refine ⟨fun c3 => ?_, fun c3 => ?_⟩
      · rw [if_pos (show i < (f_X4_choices s) from c3)] at hq
        refine g_blk hz0 kX8_folds_41 ?_
        refine cVp [2, 3, 4, 5, 6, 7, 8] (wS s) (s_X4_choiceAxis s i) rfl cwX4_choiceAxis dX8_folds_46 rfl rfl (hm67_B_S _ _ _ _ _ _ _ _ _ _ _ _ _ _ _ _) ?_
        refine g_blk hz0 kX8_folds_49 ?_
        refine cVp [2, 3, 4, 5, 6, 7, 8] (wS s) (s_X4_choiceLine s i) rfl cwX4_choiceLine dX8_folds_54 rfl rfl (hm67_B_S _ _ _ _ _ _ _ _ _ _ _ _ _ _ _ _) ?_
        refine g_blk hz0 kX8_folds_57 ?_
        refine cVp [2, 3, 4, 5, 6, 7, 8] (wS s) (s_X4_choiceWay s i) rfl cwX4_choiceWay dX8_folds_64 rfl rfl (hm67_B_S _ _ _ _ _ _ _ _ _ _ _ _ _ _ _ _) ?_
        refine g_blk hz0 kX8_folds_67 ?_
        subst hq
        exact ⟨fun h => (by cases h), rfl, rfl⟩
      · rw [if_neg (show ¬ (i < (f_X4_choices s)) from c3)] at hq
        refine g_blk hz0 kX8_folds_38 ?_
        subst hq
        exact ⟨fun h => (by cases h), rfl, rfl⟩
    · rw [if_pos (show i = (Int32.ofInt (-1)) from c2)] at hq
      refine g_blk hz0 kX8_folds_25 ?_
      refine cVp [2, 3, 4, 5, 6, 7, 8] (wS s) (s_X4_choices s) rfl cwX4_choices dX8_folds_26 rfl rfl (hm67_B_S _ _ _ _ _ _ _ _ _ _ _ _ _ _ _ _) ?_
      refine g_blk hz0 kX8_folds_29 ?_
      subst hq
      exact ⟨fun h => (by cases h), rfl, rfl⟩
  · rw [if_neg (show ¬ ((Int32.ofInt (-1)) ≤ i) from c1)] at hq
    refine g_blk hz0 kX8_folds_5 ?_
    refine cV [0, 1, 2, 3, 4, 5, 6, 7, 8, 9, 10, 11, 12, 13, 14, 15, 16, 17, 18, 19, 20, 21, 22, 23, 24, 25, 26, 27, 28, 29, 30, 31, 32, 33, 34, 35, 36, 37, 38, 39, 40, 41, 42, 43, 44, 45, 46, 47, 48, 49, 50, 51, 52, 53, 54, 55, 56, 57, 58, 59, 60, 61, 62, 63, 64, 65, 66, 67, 68, 69, 70, 71, 72, 73, 74, 75, 76, 77, 78, 79, 80, 81, 82, 83, 84, 85, 86, 87, 88, 89, 90, 91, 92, 93, 94, 95, 96, 97, 98, 99, 100, 101, 102, 103, 104, 105, 106, 107, 108, 109, 110, 111] (wB c s p t e o oh h k q s1 p1 s2 p2 t1 t2) (s_X8_refuseBad c s p t e o oh h k q s1 p1 s2 p2 t1 t2 ((Int32.ofInt (-10)))) rfl cwX8_refuseBad dX8_folds_8 rfl rfl (hm63_B_B _ _ _ _ _ _ _ _ _ _ _ _ _ _ _ _) ((len_B _ _ _ _ _ _ _ _ _ _ _ _ _ _ _ _).trans (len_B _ _ _ _ _ _ _ _ _ _ _ _ _ _ _ _).symm) (wB ((f_X8_refuseBad c s p t e o oh h k q s1 p1 s2 p2 t1 t2 ((Int32.ofInt (-10)))).2) s p t e o oh h k q s1 p1 s2 p2 t1 t2) (pw85_B_B _ _ _ _ _ _ _ _ _ _ _ _ _ _ _ _ _) ?_
    obtain ⟨g4, hg4⟩ : ∃ z, z = (f_X8_refuseBad c s p t e o oh h k q s1 p1 s2 p2 t1 t2 ((Int32.ofInt (-10)))) := ⟨_, rfl⟩
    try rw [← hg4] at hp
    try rw [← hg4] at hq
    rw [← hg4]
    refine g_blk hz0 kX8_folds_11 ?_
    subst hq
    exact ⟨fun h => (by cases h), rfl, rfl⟩
