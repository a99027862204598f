def f_X6_faultPlace_8  : Nat → Rec → Int32 → Int32 → Int32 × Rec
  | 0, e, v1, v2 => (0, e)
  | n + 1, e, v1, v2 => if (Int32.ofInt 200) < v2 then (if v1 = (Int32.ofInt 2) then ((e.1 5), e) else ((Int32.ofInt (-1)), e)) else (if v1 = 0 then (f_X6_faultPlace_8 n ((f_X6_readItem e).2) ((f_X6_readItem e).1) (v2 + (Int32.ofInt 1))) else (if v1 = (Int32.ofInt 2) then ((e.1 5), e) else ((Int32.ofInt (-1)), e)))
def p_X6_faultPlace_8  : Nat → Rec → Int32 → Int32 → Prop
  | 0, _, _, _ => False
  | n + 1, e, v1, v2 => ((Int32.ofInt 200) < v2 → True) ∧ (¬ ((Int32.ofInt 200) < v2) → ((v1 = 0 → ((p_X6_readItem e) ∧ (p_X6_faultPlace_8 n ((f_X6_readItem e).2) ((f_X6_readItem e).1) (v2 + (Int32.ofInt 1))))) ∧ (¬ (v1 = 0) → True)))
set_option maxHeartbeats 16000000 in
set_option maxRecDepth 20000 in
theorem l_X6_faultPlace_8 (sc : SC)   (zq : Int32 × Rec)  : ∀ (n : Nat) (e : Rec) (v1 : Int32) (v2 : Int32), p_X6_faultPlace_8 n e v1 v2 → zq = f_X6_faultPlace_8 n e v1 v2 → Good sc 10 0 0 3 mX6_faultPlace (Ret (some (.int (zq.1))) (wE (zq.2))) 0 0 8 [some (.ref 0), some (.int v1), some (.int v2)] [] (wE e) := by
  intro n
  induction n with
  | zero => intro e v1 v2 hp; exact hp.elim
  | succ n ih =>
    intro e v1 v2 hp hq
    unfold p_X6_faultPlace_8 at hp
    unfold f_X6_faultPlace_8 at hq
    refine g_blk hz0 kX6_faultPlace_8 ?_
    refine ⟨fun c2 => ?_, fun c2 => ?_⟩
    · rw [if_pos (show (Int32.ofInt 200) < v2 from c2)] at hq
      refine g_blk hz0 kX6_faultPlace_30 ?_
      refine ⟨fun c3 => ?_, fun c3 => ?_⟩
      · rw [if_neg (show ¬ (v1 = (Int32.ofInt 2)) from c3)] at hq
        refine g_blk hz0 kX6_faultPlace_42 ?_
        refine g_blk hz0 kX6_faultPlace_43 ?_
        subst hq
        exact ⟨fun h => (by cases h), rfl, rfl⟩
      · rw [if_pos (show v1 = (Int32.ofInt 2) from c3)] at hq
        refine g_blk hz0 kX6_faultPlace_35 ?_
        refine g_blk hz0 kX6_faultPlace_43 ?_
        subst hq
        exact ⟨fun h => (by cases h), rfl, rfl⟩
    · rw [if_neg (show ¬ ((Int32.ofInt 200) < v2) from c2)] at hq
      replace hp := hp.2 c2
      refine g_blk hz0 kX6_faultPlace_15 ?_
      refine ⟨fun c4 => ?_, fun c4 => ?_⟩
      · rw [if_neg (show ¬ (v1 = 0) from c4)] at hq
        refine g_blk hz0 kX6_faultPlace_30 ?_
        refine ⟨fun c6 => ?_, fun c6 => ?_⟩
        · rw [if_neg (show ¬ (v1 = (Int32.ofInt 2)) from c6)] at hq
          refine g_blk hz0 kX6_faultPlace_42 ?_
          refine g_blk hz0 kX6_faultPlace_43 ?_
          subst hq
          exact ⟨fun h => (by cases h), rfl, rfl⟩
        · rw [if_pos (show v1 = (Int32.ofInt 2) from c6)] at hq
          refine g_blk hz0 kX6_faultPlace_35 ?_
          refine g_blk hz0 kX6_faultPlace_43 ?_
          subst hq
          exact ⟨fun h => (by cases h), rfl, rfl⟩
      · rw [if_pos (show v1 = 0 from c4)] at hq
        replace hp := hp.1 c4
        refine g_blk hz0 kX6_faultPlace_19 ?_
        refine cV [0, 1, 2] (wE e) (s_X6_readItem e hp.1) rfl cwX6_readItem dX6_faultPlace_20 rfl rfl (hm22_E_E _) ((len_E _).trans (len_E _).symm) (wE ((f_X6_readItem e).2)) (pw84_E_E _ _) ?_
        replace hp := hp.2
        obtain ⟨g5, hg5⟩ : ∃ z, z = (f_X6_readItem e) := ⟨_, rfl⟩
        try rw [← hg5] at hp
        try rw [← hg5] at hq
        rw [← hg5]
        refine g_blk hz0 kX6_faultPlace_23 ?_
        refine g_le (L2 := [some (.ref 0), some (.int (g5.1)), some (.int (v2 + (Int32.ofInt 1)))]) ⟨rfl, rfl, rfl, trivial⟩ ?_
        exact ih (g5.2) (g5.1) (v2 + (Int32.ofInt 1)) hp hq
def f_X6_faultPlace (e : Rec)  : Int32 × Rec := (f_X6_faultPlace_8 300 (f_X6_rewind e) ((Int32.ofInt 0)) ((Int32.ofInt 0)))
def p_X6_faultPlace (e : Rec)  : Prop := (p_X6_faultPlace_8 300 (f_X6_rewind e) ((Int32.ofInt 0)) ((Int32.ofInt 0)))
set_option maxHeartbeats 16000000 in
set_option maxRecDepth 20000 in
theorem s_X6_faultPlace (e : Rec)  (hp : p_X6_faultPlace e) : Spec 10 0 0 mX6_faultPlace [.ref 0] (wE e) (Ret (some (.int ((f_X6_faultPlace e).1))) (wE ((f_X6_faultPlace e).2))) := by
  obtain ⟨zq, hq⟩ : ∃ z, z = (f_X6_faultPlace e) := ⟨_, rfl⟩
  rw [← hq]
  unfold f_X6_faultPlace at hq
  unfold p_X6_faultPlace at hp
  refine Sof fun sc => ?_
  refine g_blk hz0 kX6_faultPlace_0 ?_
  refine cV [0, 1, 2] (wE e) (s_X6_rewind e) rfl cwX6_rewind dX6_faultPlace_1 rfl rfl (hm22_E_E _) ((len_E _).trans (len_E _).symm) (wE (f_X6_rewind e)) (pw84_E_E _ _) ?_
  obtain ⟨g1, hg1⟩ : ∃ z, z = (f_X6_rewind e) := ⟨_, rfl⟩
  try rw [← hg1] at hp
  try rw [← hg1] at hq
  rw [← hg1]
  refine g_blk hz0 kX6_faultPlace_4 ?_
  refine g_le (L2 := [some (.ref 0), some (.int (Int32.ofInt 0)), some (.int (Int32.ofInt 0))]) ⟨rfl, rfl, rfl, trivial⟩ ?_
  exact l_X6_faultPlace_8 sc zq 300 g1 ((Int32.ofInt 0)) ((Int32.ofInt 0)) hp hq
