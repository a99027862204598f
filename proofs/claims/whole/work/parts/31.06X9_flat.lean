def f_X9_flat_2  : Nat → Rec → Int32 → Rec
  | 0, m, v1 => m
  | n + 1, m, v1 => if (Int32.ofInt 36) ≤ v1 then m else (f_X9_flat_2 n (setA (setA (setA (setA m 4 (upd (m.2 4) (Int32.toNatClampNeg v1) (v1 - v1 / (Int32.ofInt 6) * (Int32.ofInt 6)))) 5 (upd (m.2 5) (Int32.toNatClampNeg v1) (v1 / (Int32.ofInt 6)))) 6 (upd (m.2 6) (Int32.toNatClampNeg v1) (Int32.ofInt 0))) 7 (upd (m.2 7) (Int32.toNatClampNeg v1) (Int32.ofInt 0))) (v1 + (Int32.ofInt 1)))
def p_X9_flat_2  : Nat → Rec → Int32 → Prop
  | 0, _, _ => False
  | n + 1, m, v1 => ((Int32.ofInt 36) ≤ v1 → True) ∧ (¬ ((Int32.ofInt 36) ≤ v1) → (vp_in v1 36 ∧ (vp_in v1 36 ∧ (vp_in v1 36 ∧ (vp_in v1 36 ∧ (p_X9_flat_2 n (setA (setA (setA (setA m 4 (upd (m.2 4) (Int32.toNatClampNeg v1) (v1 - v1 / (Int32.ofInt 6) * (Int32.ofInt 6)))) 5 (upd (m.2 5) (Int32.toNatClampNeg v1) (v1 / (Int32.ofInt 6)))) 6 (upd (m.2 6) (Int32.toNatClampNeg v1) (Int32.ofInt 0))) 7 (upd (m.2 7) (Int32.toNatClampNeg v1) (Int32.ofInt 0))) (v1 + (Int32.ofInt 1))))))))
set_option maxHeartbeats 16000000 in
set_option maxRecDepth 20000 in
theorem l_X9_flat_2 (sc : SC)   (zq : Rec)  : ∀ (n : Nat) (m : Rec) (v1 : Int32), p_X9_flat_2 n m v1 → zq = f_X9_flat_2 n m v1 → Good sc 0 0 0 17 mX9_flat (Ret none (wM (zq))) 0 0 2 [some (.ref 0), some (.int v1)] [] (wM m) := by
  intro n
  induction n with
  | zero => intro m v1 hp; exact hp.elim
  | succ n ih =>
    intro m v1 hp hq
    unfold p_X9_flat_2 at hp
    unfold f_X9_flat_2 at hq
    refine g_blk hz0 kX9_flat_2 ?_
    refine ⟨fun c1 => ?_, fun c1 => ?_⟩
    · rw [if_pos (show (Int32.ofInt 36) ≤ v1 from c1)] at hq
      refine g_blk hz0 kX9_flat_48 ?_
      subst hq
      exact ⟨rfl, rfl⟩
    · rw [if_neg (show ¬ ((Int32.ofInt 36) ≤ v1) from c1)] at hq
      replace hp := hp.2 c1
      refine g_blk hz0 kX9_flat_8 ?_
      refine ⟨by decide, ?_⟩
      refine ⟨hp.1, ?_⟩
      replace hp := hp.2
      refine ⟨by decide, ?_⟩
      refine ⟨hp.1, ?_⟩
      replace hp := hp.2
      refine ⟨hp.1, ?_⟩
      replace hp := hp.2
      refine ⟨hp.1, ?_⟩
      replace hp := hp.2
      refine ⟨Or.inl rfl, ?_⟩
      refine g_le (L2 := [some (.ref 0), some (.int (v1 + (Int32.ofInt 1)))]) ⟨rfl, rfl, trivial⟩ ?_
      exact ih (setA (setA (setA (setA m 4 (upd (m.2 4) (Int32.toNatClampNeg v1) (v1 - v1 / (Int32.ofInt 6) * (Int32.ofInt 6)))) 5 (upd (m.2 5) (Int32.toNatClampNeg v1) (v1 / (Int32.ofInt 6)))) 6 (upd (m.2 6) (Int32.toNatClampNeg v1) (Int32.ofInt 0))) 7 (upd (m.2 7) (Int32.toNatClampNeg v1) (Int32.ofInt 0))) (v1 + (Int32.ofInt 1)) hp hq
def f_X9_flat (m : Rec)  : Rec := (f_X9_flat_2 40 m ((Int32.ofInt 0)))
def p_X9_flat (m : Rec)  : Prop := (p_X9_flat_2 40 m ((Int32.ofInt 0)))
set_option maxHeartbeats 16000000 in
set_option maxRecDepth 20000 in
theorem s_X9_flat (m : Rec)  (hp : p_X9_flat m) : Spec 0 0 0 mX9_flat [.ref 0] (wM m) (Ret none (wM ((f_X9_flat m)))) := by
  obtain ⟨zq, hq⟩ : ∃ z, z = (f_X9_flat m) := ⟨_, rfl⟩
  rw [← hq]
  unfold f_X9_flat at hq
  unfold p_X9_flat at hp
  refine Sof fun sc => ?_
  refine g_blk hz0 kX9_flat_0 ?_
  refine g_le (L2 := [some (.ref 0), some (.int (Int32.ofInt 0))]) ⟨rfl, rfl, trivial⟩ ?_
  exact l_X9_flat_2 sc zq 40 m ((Int32.ofInt 0)) hp hq
