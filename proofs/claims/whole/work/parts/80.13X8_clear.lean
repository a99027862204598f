def f_X8_clear (c : Rec) (s : Rec) (p : Rec) (t : Rec) (e : Rec) (o : Rec) (oh : Rec) (h : Rec) (k : Rec) (q : Rec) (s1 : Rec) (p1 : Rec) (s2 : Rec) (p2 : Rec) (t1 : Rec) (t2 : Rec)  : Int32 × Rec := ((e.1 2), (setG e 2 ((Int32.ofInt 0))))
set_option maxHeartbeats 16000000 in
set_option maxRecDepth 20000 in
theorem s_X8_clear (c : Rec) (s : Rec) (p : Rec) (t : Rec) (e : Rec) (o : Rec) (oh : Rec) (h : Rec) (k : Rec) (q : Rec) (s1 : Rec) (p1 : Rec) (s2 : Rec) (p2 : Rec) (t1 : Rec) (t2 : Rec)  : Spec 0 0 0 mX8_clear [.ref 0] (wB c s p t e o oh h k q s1 p1 s2 p2 t1 t2) (Ret (some (.int ((f_X8_clear c s p t e o oh h k q s1 p1 s2 p2 t1 t2).1))) (wB c s p t ((f_X8_clear c s p t e o oh h k q s1 p1 s2 p2 t1 t2).2) o oh h k q s1 p1 s2 p2 t1 t2)) := by
  obtain ⟨zq, hq⟩ : ∃ z, z = (f_X8_clear c s p t e o oh h k q s1 p1 s2 p2 t1 t2) := ⟨_, rfl⟩
  rw [← hq]
  unfold f_X8_clear at hq
  refine Sof fun sc => ?_
  refine g_blk hz0 kX8_clear_0 ?_
  refine ⟨fun h => (by cases h), Or.inl rfl, ?_⟩
  subst hq
  exact ⟨fun h => (by cases h), rfl, rfl⟩
