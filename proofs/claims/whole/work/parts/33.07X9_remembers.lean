def f_X9_remembers_61  : Nat → Rec → Int32 → Rec
  | 0, m, v1 => m
  | n + 1, m, v1 => if (Int32.ofInt 20) ≤ v1 then (setA m 0 (upd (m.2 0) (Int32.toNatClampNeg (Int32.ofInt 6)) (((m.2 0) (Int32.toNatClampNeg (Int32.ofInt 6))) + (Int32.ofInt 1)))) else (f_X9_remembers_61 n (setA m 0 (upd (m.2 0) (Int32.toNatClampNeg (((Int32.ofInt 88) + ((Int32.ofInt 20) * ((m.2 0) (Int32.toNatClampNeg (Int32.ofInt 6))))) + v1)) ((m.2 9) (Int32.toNatClampNeg v1)))) (v1 + (Int32.ofInt 1)))
def p_X9_remembers_61  : Nat → Rec → Int32 → Prop
  | 0, _, _ => False
  | n + 1, m, v1 => ((Int32.ofInt 20) ≤ v1 → True) ∧ (¬ ((Int32.ofInt 20) ≤ v1) → (vp_in v1 20 ∧ (vp_in (((Int32.ofInt 88) + ((Int32.ofInt 20) * ((m.2 0) (Int32.toNatClampNeg (Int32.ofInt 6))))) + v1) 248 ∧ (p_X9_remembers_61 n (setA m 0 (upd (m.2 0) (Int32.toNatClampNeg (((Int32.ofInt 88) + ((Int32.ofInt 20) * ((m.2 0) (Int32.toNatClampNeg (Int32.ofInt 6))))) + v1)) ((m.2 9) (Int32.toNatClampNeg v1)))) (v1 + (Int32.ofInt 1))))))
set_option maxHeartbeats 16000000 in
set_option maxRecDepth 20000 in
theorem l_X9_remembers_61 (sc : SC)   (zq : Rec)  : ∀ (n : Nat) (m : Rec) (v1 : Int32), p_X9_remembers_61 n m v1 → zq = f_X9_remembers_61 n m v1 → Good sc 0 0 0 17 mX9_remembers (Ret none (wM (zq))) 0 0 61 [some (.ref 0), some (.int v1)] [] (wM m) := by
  intro n
  induction n with
  | zero => intro m v1 hp; exact hp.elim
  | succ n ih =>
    intro m v1 hp hq
    unfold p_X9_remembers_61 at hp
    unfold f_X9_remembers_61 at hq
    refine g_blk hz0 kX9_remembers_61 ?_
    refine ⟨fun c3 => ?_, fun c3 => ?_⟩
    · rw [if_pos (show (Int32.ofInt 20) ≤ v1 from c3)] at hq
      refine g_blk hz0 kX9_remembers_99 ?_
      refine ⟨vinL (by decide), ?_⟩
      refine ⟨vinL (by decide), ?_⟩
      subst hq
      exact ⟨rfl, rfl⟩
    · rw [if_neg (show ¬ ((Int32.ofInt 20) ≤ v1) from c3)] at hq
      replace hp := hp.2 c3
      refine g_blk hz0 kX9_remembers_67 ?_
      refine ⟨vinL (by decide), ?_⟩
      refine ⟨hp.1, ?_⟩
      replace hp := hp.2
      refine ⟨hp.1, ?_⟩
      replace hp := hp.2
      refine g_le (L2 := [some (.ref 0), some (.int (v1 + (Int32.ofInt 1)))]) ⟨rfl, rfl, trivial⟩ ?_
      exact ih (setA m 0 (upd (m.2 0) (Int32.toNatClampNeg (((Int32.ofInt 88) + ((Int32.ofInt 20) * ((m.2 0) (Int32.toNatClampNeg (Int32.ofInt 6))))) + v1)) ((m.2 9) (Int32.toNatClampNeg v1)))) (v1 + (Int32.ofInt 1)) hp hq
def f_X9_remembers_14  : Nat → Rec → Int32 → Rec
  | 0, m, v1 => m
  | n + 1, m, v1 => if (Int32.ofInt 140) ≤ v1 then (f_X9_remembers_61 200 (setA m 0 (upd (m.2 0) (Int32.toNatClampNeg (Int32.ofInt 6)) (((m.2 0) (Int32.toNatClampNeg (Int32.ofInt 6))) - (Int32.ofInt 1)))) ((Int32.ofInt 0))) else (f_X9_remembers_14 n (setA m 0 (upd (m.2 0) (Int32.toNatClampNeg ((Int32.ofInt 88) + v1)) ((m.2 0) (Int32.toNatClampNeg (((Int32.ofInt 88) + v1) + (Int32.ofInt 20)))))) (v1 + (Int32.ofInt 1)))
def p_X9_remembers_14  : Nat → Rec → Int32 → Prop
  | 0, _, _ => False
  | n + 1, m, v1 => ((Int32.ofInt 140) ≤ v1 → (p_X9_remembers_61 200 (setA m 0 (upd (m.2 0) (Int32.toNatClampNeg (Int32.ofInt 6)) (((m.2 0) (Int32.toNatClampNeg (Int32.ofInt 6))) - (Int32.ofInt 1)))) ((Int32.ofInt 0)))) ∧ (¬ ((Int32.ofInt 140) ≤ v1) → (vp_in (((Int32.ofInt 88) + v1) + (Int32.ofInt 20)) 248 ∧ (vp_in ((Int32.ofInt 88) + v1) 248 ∧ (p_X9_remembers_14 n (setA m 0 (upd (m.2 0) (Int32.toNatClampNeg ((Int32.ofInt 88) + v1)) ((m.2 0) (Int32.toNatClampNeg (((Int32.ofInt 88) + v1) + (Int32.ofInt 20)))))) (v1 + (Int32.ofInt 1))))))
set_option maxHeartbeats 16000000 in
set_option maxRecDepth 20000 in
theorem l_X9_remembers_14 (sc : SC)   (zq : Rec)  : ∀ (n : Nat) (m : Rec) (v1 : Int32), p_X9_remembers_14 n m v1 → zq = f_X9_remembers_14 n m v1 → Good sc 0 0 0 17 mX9_remembers (Ret none (wM (zq))) 0 0 14 [some (.ref 0), some (.int v1)] [] (wM m) := by
  intro n
  induction n with
  | zero => intro m v1 hp; exact hp.elim
  | succ n ih =>
    intro m v1 hp hq
    unfold p_X9_remembers_14 at hp
    unfold f_X9_remembers_14 at hq
    refine g_blk hz0 kX9_remembers_14 ?_
    refine ⟨fun c2 => ?_, fun c2 => ?_⟩
    · rw [if_pos (show (Int32.ofInt 140) ≤ v1 from c2)] at hq
      replace hp := hp.1 c2
      refine g_blk hz0 kX9_remembers_48 ?_
      refine ⟨vinL (by decide), ?_⟩
      refine ⟨vinL (by decide), ?_⟩
      refine g_blk hz0 kX9_remembers_59 ?_
      refine g_le (L2 := [some (.ref 0), some (.int (Int32.ofInt 0))]) ⟨rfl, rfl, trivial⟩ ?_
      exact l_X9_remembers_61 sc zq 200 (setA m 0 (upd (m.2 0) (Int32.toNatClampNeg (Int32.ofInt 6)) (((m.2 0) (Int32.toNatClampNeg (Int32.ofInt 6))) - (Int32.ofInt 1)))) ((Int32.ofInt 0)) hp hq
    · rw [if_neg (show ¬ ((Int32.ofInt 140) ≤ v1) from c2)] at hq
      replace hp := hp.2 c2
      refine g_blk hz0 kX9_remembers_21 ?_
      refine ⟨hp.1, ?_⟩
      replace hp := hp.2
      refine ⟨hp.1, ?_⟩
      replace hp := hp.2
      refine g_le (L2 := [some (.ref 0), some (.int (v1 + (Int32.ofInt 1)))]) ⟨rfl, rfl, trivial⟩ ?_
      exact ih (setA m 0 (upd (m.2 0) (Int32.toNatClampNeg ((Int32.ofInt 88) + v1)) ((m.2 0) (Int32.toNatClampNeg (((Int32.ofInt 88) + v1) + (Int32.ofInt 20)))))) (v1 + (Int32.ofInt 1)) hp hq
def f_X9_remembers (m : Rec)  : Rec := if ((m.2 0) (Int32.toNatClampNeg (Int32.ofInt 6))) = (Int32.ofInt 8) then (f_X9_remembers_14 200 m ((Int32.ofInt 0))) else (f_X9_remembers_61 200 m ((Int32.ofInt 0)))
def p_X9_remembers (m : Rec)  : Prop := (((m.2 0) (Int32.toNatClampNeg (Int32.ofInt 6))) = (Int32.ofInt 8) → (p_X9_remembers_14 200 m ((Int32.ofInt 0)))) ∧ (¬ (((m.2 0) (Int32.toNatClampNeg (Int32.ofInt 6))) = (Int32.ofInt 8)) → (p_X9_remembers_61 200 m ((Int32.ofInt 0))))
set_option maxHeartbeats 16000000 in
set_option maxRecDepth 20000 in
theorem s_X9_remembers (m : Rec)  (hp : p_X9_remembers m) : Spec 0 0 0 mX9_remembers [.ref 0] (wM m) (Ret none (wM ((f_X9_remembers m)))) := by
  obtain ⟨zq, hq⟩ : ∃ z, z = (f_X9_remembers m) := ⟨_, rfl⟩
  rw [← hq]
  unfold f_X9_remembers at hq
  unfold p_X9_remembers at hp
  refine Sof fun sc => ?_
  refine g_blk hz0 kX9_remembers_0 ?_
  refine ⟨vinL (by decide), ?_⟩
  refine ⟨fun c1 => ?_, fun c1 => ?_⟩
  · rw [if_neg (show ¬ (((m.2 0) (Int32.toNatClampNeg (Int32.ofInt 6))) = (Int32.ofInt 8)) from c1)] at hq
    replace hp := hp.2 c1
    refine g_blk hz0 kX9_remembers_59 ?_
    refine g_le (L2 := [some (.ref 0), some (.int (Int32.ofInt 0))]) ⟨rfl, rfl, trivial⟩ ?_
    exact l_X9_remembers_61 sc zq 200 m ((Int32.ofInt 0)) hp hq
  · rw [if_pos (show ((m.2 0) (Int32.toNatClampNeg (Int32.ofInt 6))) = (Int32.ofInt 8) from c1)] at hq
    replace hp := hp.1 c1
    refine g_blk hz0 kX9_remembers_12 ?_
    refine g_le (L2 := [some (.ref 0), some (.int (Int32.ofInt 0))]) ⟨rfl, rfl, trivial⟩ ?_
    exact l_X9_remembers_14 sc zq 200 m ((Int32.ofInt 0)) hp hq
