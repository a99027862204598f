def f_X9_topAt_5  : Nat → Rec → Int32 → Int32 → Int32 → Int32 → Int32
  | 0, m, v1, v2, v3, v4 => 0
  | n + 1, m, v1, v2, v3, v4 => if (Int32.ofInt 36) ≤ v4 then v3 else (if (f_X9_isAt m v4 v1 v2) = 0 then (f_X9_topAt_5 n m v1 v2 v3 (v4 + (Int32.ofInt 1))) else (if v3 = (Int32.ofInt (-1)) then (f_X9_topAt_5 n m v1 v2 v4 (v4 + (Int32.ofInt 1))) else (if 0 ≤ v3 then (if ((m.2 6) (Int32.toNatClampNeg v4)) ≤ ((m.2 6) (Int32.toNatClampNeg v3)) then (f_X9_topAt_5 n m v1 v2 v3 (v4 + (Int32.ofInt 1))) else (f_X9_topAt_5 n m v1 v2 v4 (v4 + (Int32.ofInt 1)))) else (if ((m.2 6) (Int32.toNatClampNeg v4)) ≤ ((m.2 6) (Int32.toNatClampNeg (Int32.ofInt 0))) then (f_X9_topAt_5 n m v1 v2 v3 (v4 + (Int32.ofInt 1))) else (f_X9_topAt_5 n m v1 v2 v4 (v4 + (Int32.ofInt 1)))))))
def p_X9_topAt_5  : Nat → Rec → Int32 → Int32 → Int32 → Int32 → Prop
  | 0, _, _, _, _, _ => False
  | n + 1, m, v1, v2, v3, v4 => ((Int32.ofInt 36) ≤ v4 → True) ∧ (¬ ((Int32.ofInt 36) ≤ v4) → ((p_X9_isAt m v4 v1 v2) ∧ (((f_X9_isAt m v4 v1 v2) = 0 → (p_X9_topAt_5 n m v1 v2 v3 (v4 + (Int32.ofInt 1)))) ∧ (¬ ((f_X9_isAt m v4 v1 v2) = 0) → ((v3 = (Int32.ofInt (-1)) → (p_X9_topAt_5 n m v1 v2 v4 (v4 + (Int32.ofInt 1)))) ∧ (¬ (v3 = (Int32.ofInt (-1))) → (vp_in v4 36 ∧ ((0 ≤ v3 → (vp_in v3 36 ∧ ((((m.2 6) (Int32.toNatClampNeg v4)) ≤ ((m.2 6) (Int32.toNatClampNeg v3)) → (p_X9_topAt_5 n m v1 v2 v3 (v4 + (Int32.ofInt 1)))) ∧ (¬ (((m.2 6) (Int32.toNatClampNeg v4)) ≤ ((m.2 6) (Int32.toNatClampNeg v3))) → (p_X9_topAt_5 n m v1 v2 v4 (v4 + (Int32.ofInt 1))))))) ∧ (¬ (0 ≤ v3) → ((((m.2 6) (Int32.toNatClampNeg v4)) ≤ ((m.2 6) (Int32.toNatClampNeg (Int32.ofInt 0))) → (p_X9_topAt_5 n m v1 v2 v3 (v4 + (Int32.ofInt 1)))) ∧ (¬ (((m.2 6) (Int32.toNatClampNeg v4)) ≤ ((m.2 6) (Int32.toNatClampNeg (Int32.ofInt 0)))) → (p_X9_topAt_5 n m v1 v2 v4 (v4 + (Int32.ofInt 1))))))))))))))
set_option maxHeartbeats 16000000 in
set_option maxRecDepth 20000 in
theorem l_X9_topAt_5 (sc : SC) (m : Rec)  (zq : Int32)  : ∀ (n : Nat)  (v1 : Int32) (v2 : Int32) (v3 : Int32) (v4 : Int32), p_X9_topAt_5 n m v1 v2 v3 v4 → zq = f_X9_topAt_5 n m v1 v2 v3 v4 → Good sc 3 0 0 17 mX9_topAt (Ret (some (.int (zq))) (wM m)) 0 0 5 [some (.ref 0), some (.int v1), some (.int v2), some (.int v3), some (.int v4)] [] (wM m) := by
  intro n
  induction n with
  | zero => intro v1 v2 v3 v4 hp; exact hp.elim
  | succ n ih =>
    intro v1 v2 v3 v4 hp hq
    unfold p_X9_topAt_5 at hp
    unfold f_X9_topAt_5 at hq
    refine g_blk hz0 kX9_topAt_5 ?_
    refine ⟨fun c1 => ?_, fun c1 => ?_⟩
    · rw [if_pos (show (Int32.ofInt 36) ≤ v4 from c1)] at hq
      refine g_blk hz0 kX9_topAt_65 ?_
      subst hq
      exact ⟨fun h => (by cases h), rfl, rfl⟩
    · rw [if_neg (show ¬ ((Int32.ofInt 36) ≤ v4) from c1)] at hq
      replace hp := hp.2 c1
      refine g_blk hz0 kX9_topAt_12 ?_
      refine cVp [0, 1, 2, 3, 4, 5, 6, 7, 8, 9, 10, 11, 12, 13, 14, 15, 16] (wM m) (s_X9_isAt m v4 v1 v2 hp.1) rfl cwX9_isAt dX9_topAt_17 rfl rfl (hm0_M_M _) ?_
      replace hp := hp.2
      refine g_blk hz0 kX9_topAt_20 ?_
      refine ⟨fun c2 => ?_, fun c2 => ?_⟩
      · rw [if_pos (show (f_X9_isAt m v4 v1 v2) = 0 from c2)] at hq
        replace hp := hp.1 c2
        refine g_blk hz0 kX9_topAt_57 ?_
        refine g_blk hz0 kX9_topAt_58 ?_
        refine g_le (L2 := [some (.ref 0), some (.int v1), some (.int v2), some (.int v3), some (.int (v4 + (Int32.ofInt 1)))]) ⟨rfl, rfl, rfl, rfl, rfl, trivial⟩ ?_
        exact ih v1 v2 v3 (v4 + (Int32.ofInt 1)) hp hq
      · rw [if_neg (show ¬ ((f_X9_isAt m v4 v1 v2) = 0) from c2)] at hq
        replace hp := hp.2 c2
        refine g_blk hz0 kX9_topAt_23 ?_
        refine ⟨fun c3 => ?_, fun c3 => ?_⟩
        · rw [if_pos (show v3 = (Int32.ofInt (-1)) from c3)] at hq
          replace hp := hp.1 c3
          refine g_blk hz0 kX9_topAt_52 ?_
          refine g_blk hz0 kX9_topAt_58 ?_
          refine g_le (L2 := [some (.ref 0), some (.int v1), some (.int v2), some (.int v4), some (.int (v4 + (Int32.ofInt 1)))]) ⟨rfl, rfl, rfl, rfl, rfl, trivial⟩ ?_
          exact ih v1 v2 v4 (v4 + (Int32.ofInt 1)) hp hq
        · rw [if_neg (show ¬ (v3 = (Int32.ofInt (-1))) from c3)] at hq
          replace hp := hp.2 c3
          refine g_blk hz0 kX9_topAt_28 ?_
          refine ⟨hp.1, ?_⟩
          replace hp := hp.2
          refine ⟨fun c4 => ?_, fun c4 => ?_⟩
          · rw [if_pos (show 0 ≤ v3 from c4)] at hq
            replace hp := hp.1 c4
            refine g_blk hz0 kX9_topAt_47 ?_
            refine g_blk hz0 kX9_topAt_48 ?_
            refine ⟨hp.1, ?_⟩
            replace hp := hp.2
            refine ⟨fun c5 => ?_, fun c5 => ?_⟩
            · rw [if_pos (show ((m.2 6) (Int32.toNatClampNeg v4)) ≤ ((m.2 6) (Int32.toNatClampNeg v3)) from c5)] at hq
              replace hp := hp.1 c5
              refine g_blk hz0 kX9_topAt_57 ?_
              refine g_blk hz0 kX9_topAt_58 ?_
              refine g_le (L2 := [some (.ref 0), some (.int v1), some (.int v2), some (.int v3), some (.int (v4 + (Int32.ofInt 1)))]) ⟨rfl, rfl, rfl, rfl, rfl, trivial⟩ ?_
              exact ih v1 v2 v3 (v4 + (Int32.ofInt 1)) hp hq
            · rw [if_neg (show ¬ (((m.2 6) (Int32.toNatClampNeg v4)) ≤ ((m.2 6) (Int32.toNatClampNeg v3))) from c5)] at hq
              replace hp := hp.2 c5
              refine g_blk hz0 kX9_topAt_52 ?_
              refine g_blk hz0 kX9_topAt_58 ?_
              refine g_le (L2 := [some (.ref 0), some (.int v1), some (.int v2), some (.int v4), some (.int (v4 + (Int32.ofInt 1)))]) ⟨rfl, rfl, rfl, rfl, rfl, trivial⟩ ?_
              exact ih v1 v2 v4 (v4 + (Int32.ofInt 1)) hp hq
          · rw [if_neg (show ¬ (0 ≤ v3) from c4)] at hq
            replace hp := hp.2 c4
            refine g_blk hz0 kX9_topAt_43 ?_
            refine g_blk hz0 kX9_topAt_48 ?_
            refine ⟨vinL (by decide), ?_⟩
            refine ⟨fun c6 => ?_, fun c6 => ?_⟩
            · rw [if_pos (show ((m.2 6) (Int32.toNatClampNeg v4)) ≤ ((m.2 6) (Int32.toNatClampNeg (Int32.ofInt 0))) from c6)] at hq
              replace hp := hp.1 c6
              refine g_blk hz0 kX9_topAt_57 ?_
              refine g_blk hz0 kX9_topAt_58 ?_
              refine g_le (L2 := [some (.ref 0), some (.int v1), some (.int v2), some (.int v3), some (.int (v4 + (Int32.ofInt 1)))]) ⟨rfl, rfl, rfl, rfl, rfl, trivial⟩ ?_
              exact ih v1 v2 v3 (v4 + (Int32.ofInt 1)) hp hq
            · rw [if_neg (show ¬ (((m.2 6) (Int32.toNatClampNeg v4)) ≤ ((m.2 6) (Int32.toNatClampNeg (Int32.ofInt 0)))) from c6)] at hq
              replace hp := hp.2 c6
              refine g_blk hz0 kX9_topAt_52 ?_
              refine g_blk hz0 kX9_topAt_58 ?_
              refine g_le (L2 := [some (.ref 0), some (.int v1), some (.int v2), some (.int v4), some (.int (v4 + (Int32.ofInt 1)))]) ⟨rfl, rfl, rfl, rfl, rfl, trivial⟩ ?_
              exact ih v1 v2 v4 (v4 + (Int32.ofInt 1)) hp hq
def f_X9_topAt (m : Rec) (x : Int32) (y : Int32) : Int32 := (f_X9_topAt_5 40 m x y ((Int32.ofInt (-1))) ((Int32.ofInt 0)))
def p_X9_topAt (m : Rec) (x : Int32) (y : Int32) : Prop := (p_X9_topAt_5 40 m x y ((Int32.ofInt (-1))) ((Int32.ofInt 0)))
set_option maxHeartbeats 16000000 in
set_option maxRecDepth 20000 in
theorem s_X9_topAt (m : Rec) (x : Int32) (y : Int32) (hp : p_X9_topAt m x y) : Spec 3 0 0 mX9_topAt [.ref 0, .int x, .int y] (wM m) (Ret (some (.int ((f_X9_topAt m x y)))) (wM m)) := by
  obtain ⟨zq, hq⟩ : ∃ z, z = (f_X9_topAt m x y) := ⟨_, rfl⟩
  rw [← hq]
  unfold f_X9_topAt at hq
  unfold p_X9_topAt at hp
  refine Sof fun sc => ?_
  refine g_blk hz0 kX9_topAt_0 ?_
  refine g_le (L2 := [some (.ref 0), some (.int x), some (.int y), some (.int (Int32.ofInt (-1))), some (.int (Int32.ofInt 0))]) ⟨rfl, rfl, rfl, rfl, rfl, trivial⟩ ?_
  exact l_X9_topAt_5 sc m zq 40 x y ((Int32.ofInt (-1))) ((Int32.ofInt 0)) hp hq
