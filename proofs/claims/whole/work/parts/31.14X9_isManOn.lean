def f_X9_isManOn_4  : Nat → Rec → Int32 → Int32 → Int32 → Int32
  | 0, m, v1, v2, v3 => 0
  | n + 1, m, v1, v2, v3 => if ((m.2 0) (Int32.toNatClampNeg (Int32.ofInt 2))) ≤ v3 then v2 else (if v2 = 0 then (if ((m.2 0) (Int32.toNatClampNeg ((Int32.ofInt 8) + v3))) = v1 then (f_X9_isManOn_4 n m v1 ((Int32.ofInt 1)) (v3 + (Int32.ofInt 1))) else (f_X9_isManOn_4 n m v1 ((Int32.ofInt 0)) (v3 + (Int32.ofInt 1)))) else (f_X9_isManOn_4 n m v1 ((Int32.ofInt 1)) (v3 + (Int32.ofInt 1))))
def p_X9_isManOn_4  : Nat → Rec → Int32 → Int32 → Int32 → Prop
  | 0, _, _, _, _ => False
  | n + 1, m, v1, v2, v3 => (((m.2 0) (Int32.toNatClampNeg (Int32.ofInt 2))) ≤ v3 → ((v2 = 0 ∨ v2 = 1) ∧ True)) ∧ (¬ (((m.2 0) (Int32.toNatClampNeg (Int32.ofInt 2))) ≤ v3) → ((v2 = 0 → (vp_in ((Int32.ofInt 8) + v3) 248 ∧ ((((m.2 0) (Int32.toNatClampNeg ((Int32.ofInt 8) + v3))) = v1 → (p_X9_isManOn_4 n m v1 ((Int32.ofInt 1)) (v3 + (Int32.ofInt 1)))) ∧ (¬ (((m.2 0) (Int32.toNatClampNeg ((Int32.ofInt 8) + v3))) = v1) → (p_X9_isManOn_4 n m v1 ((Int32.ofInt 0)) (v3 + (Int32.ofInt 1))))))) ∧ (¬ (v2 = 0) → (p_X9_isManOn_4 n m v1 ((Int32.ofInt 1)) (v3 + (Int32.ofInt 1))))))
set_option maxHeartbeats 16000000 in
set_option maxRecDepth 20000 in
theorem l_X9_isManOn_4 (sc : SC) (m : Rec)  (zq : Int32)  : ∀ (n : Nat)  (v1 : Int32) (v2 : Int32) (v3 : Int32), p_X9_isManOn_4 n m v1 v2 v3 → zq = f_X9_isManOn_4 n m v1 v2 v3 → Good sc 0 0 0 17 mX9_isManOn (Ret (some (.int (zq))) (wM m)) 0 0 4 [some (.ref 0), some (.int v1), some (.int v2), some (.int v3)] [] (wM m) := by
  intro n
  induction n with
  | zero => intro v1 v2 v3 hp; exact hp.elim
  | succ n ih =>
    intro v1 v2 v3 hp hq
    unfold p_X9_isManOn_4 at hp
    unfold f_X9_isManOn_4 at hq
    refine g_blk hz0 kX9_isManOn_4 ?_
    refine ⟨vinL (by decide), ?_⟩
    refine ⟨fun c1 => ?_, fun c1 => ?_⟩
    · rw [if_pos (show ((m.2 0) (Int32.toNatClampNeg (Int32.ofInt 2))) ≤ v3 from c1)] at hq
      replace hp := hp.1 c1
      refine g_blk hz0 kX9_isManOn_43 ?_
      have b2 := hp.1
      replace hp := hp.2
      subst hq
      exact ⟨fun _ => b2, rfl, rfl⟩
    · rw [if_neg (show ¬ (((m.2 0) (Int32.toNatClampNeg (Int32.ofInt 2))) ≤ v3) from c1)] at hq
      replace hp := hp.2 c1
      refine g_blk hz0 kX9_isManOn_14 ?_
      refine ⟨fun c3 => ?_, fun c3 => ?_⟩
      · rw [if_neg (show ¬ (v2 = 0) from c3)] at hq
        replace hp := hp.2 c3
        refine g_blk hz0 kX9_isManOn_31 ?_
        refine g_blk hz0 kX9_isManOn_36 ?_
        refine g_le (L2 := [some (.ref 0), some (.int v1), some (.int (Int32.ofInt 1)), some (.int (v3 + (Int32.ofInt 1)))]) ⟨rfl, rfl, rfl, rfl, trivial⟩ ?_
        exact ih v1 ((Int32.ofInt 1)) (v3 + (Int32.ofInt 1)) hp hq
      · rw [if_pos (show v2 = 0 from c3)] at hq
        replace hp := hp.1 c3
        refine g_blk hz0 kX9_isManOn_18 ?_
        refine ⟨hp.1, ?_⟩
        replace hp := hp.2
        refine ⟨fun c4 => ?_, fun c4 => ?_⟩
        · rw [if_neg (show ¬ (((m.2 0) (Int32.toNatClampNeg ((Int32.ofInt 8) + v3))) = v1) from c4)] at hq
          replace hp := hp.2 c4
          refine g_blk hz0 kX9_isManOn_35 ?_
          refine g_blk hz0 kX9_isManOn_36 ?_
          refine g_le (L2 := [some (.ref 0), some (.int v1), some (.int (Int32.ofInt 0)), some (.int (v3 + (Int32.ofInt 1)))]) ⟨rfl, rfl, rfl, rfl, trivial⟩ ?_
          exact ih v1 ((Int32.ofInt 0)) (v3 + (Int32.ofInt 1)) hp hq
        · rw [if_pos (show ((m.2 0) (Int32.toNatClampNeg ((Int32.ofInt 8) + v3))) = v1 from c4)] at hq
          replace hp := hp.1 c4
          refine g_blk hz0 kX9_isManOn_31 ?_
          refine g_blk hz0 kX9_isManOn_36 ?_
          refine g_le (L2 := [some (.ref 0), some (.int v1), some (.int (Int32.ofInt 1)), some (.int (v3 + (Int32.ofInt 1)))]) ⟨rfl, rfl, rfl, rfl, trivial⟩ ?_
          exact ih v1 ((Int32.ofInt 1)) (v3 + (Int32.ofInt 1)) hp hq
def f_X9_isManOn (m : Rec) (c : Int32) : Int32 := (f_X9_isManOn_4 40 m c ((Int32.ofInt 0)) ((Int32.ofInt 0)))
def p_X9_isManOn (m : Rec) (c : Int32) : Prop := (p_X9_isManOn_4 40 m c ((Int32.ofInt 0)) ((Int32.ofInt 0)))
set_option maxHeartbeats 16000000 in
set_option maxRecDepth 20000 in
theorem s_X9_isManOn (m : Rec) (c : Int32) (hp : p_X9_isManOn m c) : Spec 0 0 0 mX9_isManOn [.ref 0, .int c] (wM m) (Ret (some (.int ((f_X9_isManOn m c)))) (wM m)) := by
  obtain ⟨zq, hq⟩ : ∃ z, z = (f_X9_isManOn m c) := ⟨_, rfl⟩
  rw [← hq]
  unfold f_X9_isManOn at hq
  unfold p_X9_isManOn at hp
  refine Sof fun sc => ?_
  refine g_blk hz0 kX9_isManOn_0 ?_
  refine g_le (L2 := [some (.ref 0), some (.int c), some (.int (Int32.ofInt 0)), some (.int (Int32.ofInt 0))]) ⟨rfl, rfl, rfl, rfl, trivial⟩ ?_
  exact l_X9_isManOn_4 sc m zq 40 c ((Int32.ofInt 0)) ((Int32.ofInt 0)) hp hq
