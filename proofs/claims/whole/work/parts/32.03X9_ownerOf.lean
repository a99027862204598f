def f_X9_ownerOf (m : Rec) (m1 : Int32) : Int32 := ((m.2 0) (Int32.toNatClampNeg (((Int32.ofInt 28) + ((Int32.ofInt 3) * m1)) + (Int32.ofInt 1))))
def p_X9_ownerOf (m : Rec) (m1 : Int32) : Prop := vp_in (((Int32.ofInt 28) + ((Int32.ofInt 3) * m1)) + (Int32.ofInt 1)) 248 ∧ True
set_option maxHeartbeats 16000000 in
set_option maxRecDepth 20000 in
theorem s_X9_ownerOf (m : Rec) (m1 : Int32) (hp : p_X9_ownerOf m m1) : Spec 0 0 0 mX9_ownerOf [.ref 0, .int m1] (wM m) (Ret (some (.int ((f_X9_ownerOf m m1)))) (wM m)) := by
  obtain ⟨zq, hq⟩ : ∃ z, z = (f_X9_ownerOf m m1) := ⟨_, rfl⟩
  rw [← hq]
  unfold f_X9_ownerOf at hq
  unfold p_X9_ownerOf at hp
  refine Sof fun sc => ?_
  refine g_blk hz0 kX9_ownerOf_0 ?_
  refine ⟨hp.1, ?_⟩
  replace hp := hp.2
  subst hq
  exact ⟨fun h => (by cases h), rfl, rfl⟩
