def f_X8_refuseNo (c : Rec) (s : Rec) (p : Rec) (t : Rec) (e : Rec) (o : Rec) (oh : Rec) (h : Rec) (k : Rec) (q : Rec) (s1 : Rec) (p1 : Rec) (s2 : Rec) (p2 : Rec) (t1 : Rec) (t2 : Rec) (a : Int32) : Int32 × Rec := (a, (setG c 12 ((c.1 12) + (Int32.ofInt 1))))
set_option maxHeartbeats 16000000 in
set_option maxRecDepth 20000 in
theorem s_X8_refuseNo (c : Rec) (s : Rec) (p : Rec) (t : Rec) (e : Rec) (o : Rec) (oh : Rec) (h : Rec) (k : Rec) (q : Rec) (s1 : Rec) (p1 : Rec) (s2 : Rec) (p2 : Rec) (t1 : Rec) (t2 : Rec) (a : Int32) : Spec 0 0 0 mX8_refuseNo [.ref 0, .int a] (wB c s p t e o oh h k q s1 p1 s2 p2 t1 t2) (Ret (some (.int ((f_X8_refuseNo c s p t e o oh h k q s1 p1 s2 p2 t1 t2 a).1))) (wB ((f_X8_refuseNo c s p t e o oh h k q s1 p1 s2 p2 t1 t2 a).2) s p t e o oh h k q s1 p1 s2 p2 t1 t2)) := by
  obtain ⟨zq, hq⟩ : ∃ z, z = (f_X8_refuseNo c s p t e o oh h k q s1 p1 s2 p2 t1 t2 a) := ⟨_, rfl⟩
  rw [← hq]
  unfold f_X8_refuseNo at hq
  refine Sof fun sc => ?_
  refine g_blk hz0 kX8_refuseNo_0 ?_
  refine ⟨fun h => (by cases h), Or.inl rfl, ?_⟩
  subst hq
  exact ⟨fun h => (by cases h), rfl, rfl⟩
