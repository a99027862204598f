def f_X9_refuses (m : Rec) (t : Int32) (v : Int32) : Int32 × Rec := (v, (setA m 3 (upd (m.2 3) (Int32.toNatClampNeg t) (((m.2 3) (Int32.toNatClampNeg t)) + (Int32.ofInt 1)))))
def p_X9_refuses (m : Rec) (t : Int32) (v : Int32) : Prop := vp_in t 3 ∧ (vp_in t 3 ∧ True)
set_option maxHeartbeats 16000000 in
set_option maxRecDepth 20000 in
theorem s_X9_refuses (m : Rec) (t : Int32) (v : Int32) (hp : p_X9_refuses m t v) : Spec 0 0 0 mX9_refuses [.ref 0, .int t, .int v] (wM m) (Ret (some (.int ((f_X9_refuses m t v).1))) (wM ((f_X9_refuses m t v).2))) := by
  obtain ⟨zq, hq⟩ : ∃ z, z = (f_X9_refuses m t v) := ⟨_, rfl⟩
  rw [← hq]
  unfold f_X9_refuses at hq
  unfold p_X9_refuses at hp
  refine Sof fun sc => ?_
  refine g_blk hz0 kX9_refuses_0 ?_
  refine ⟨hp.1, ?_⟩
  replace hp := hp.2
  refine ⟨hp.1, ?_⟩
  replace hp := hp.2
  subst hq
  exact ⟨fun h => (by cases h), rfl, rfl⟩
