def f_X6_readItem_53  : Nat → Rec → Int32 → Int32 → Int32 × Rec
  | 0, e, v2, v3 => (0, e)
  | n + 1, e, v2, v3 => if v2 ≤ v3 then (if ((f_X6_nextToken e).1) = (Int32.ofInt 6) then ((Int32.ofInt 0), ((f_X6_nextToken e).2)) else ((Int32.ofInt 2), ((f_X6_nextToken e).2))) else (if ((f_X6_nextToken e).1) = (Int32.ofInt 5) then (f_X6_readItem_53 n (setA ((f_X6_nextToken e).2) 1 (upd (((f_X6_nextToken e).2).2 1) (Int32.toNatClampNeg v3) (((f_X6_nextToken e).2).1 6))) v2 (v3 + (Int32.ofInt 1))) else ((Int32.ofInt 2), ((f_X6_nextToken e).2)))
def p_X6_readItem_53  : Nat → Rec → Int32 → Int32 → Prop
  | 0, _, _, _ => False
  | n + 1, e, v2, v3 => (v2 ≤ v3 → ((p_X6_nextToken e) ∧ True)) ∧ (¬ (v2 ≤ v3) → ((p_X6_nextToken e) ∧ ((((f_X6_nextToken e).1) = (Int32.ofInt 5) → (vp_in v3 4 ∧ (p_X6_readItem_53 n (setA ((f_X6_nextToken e).2) 1 (upd (((f_X6_nextToken e).2).2 1) (Int32.toNatClampNeg v3) (((f_X6_nextToken e).2).1 6))) v2 (v3 + (Int32.ofInt 1))))) ∧ (¬ (((f_X6_nextToken e).1) = (Int32.ofInt 5)) → True))))
set_option maxHeartbeats 16000000 in
set_option maxRecDepth 20000 in
theorem l_X6_readItem_53 (sc : SC)   (zq : Int32 × Rec)  : ∀ (n : Nat) (e : Rec) (v2 : Int32) (v3 : Int32), p_X6_readItem_53 n e v2 v3 → zq = f_X6_readItem_53 n e v2 v3 → Good sc 9 0 0 3 mX6_readItem (Ret (some (.int (zq.1))) (wE (zq.2))) 0 0 53 [some (.ref 0), none, some (.int v2), some (.int v3)] [] (wE e) := by
  intro n
  induction n with
  | zero => intro e v2 v3 hp; exact hp.elim
  | succ n ih =>
    intro e v2 v3 hp hq
    unfold p_X6_readItem_53 at hp
    unfold f_X6_readItem_53 at hq
    refine g_blk hz0 kX6_readItem_53 ?_
    refine ⟨fun c7 => ?_, fun c7 => ?_⟩
    · rw [if_pos (show v2 ≤ v3 from c7)] at hq
      replace hp := hp.1 c7
      refine g_blk hz0 kX6_readItem_84 ?_
      refine cV [0, 1, 2] (wE e) (s_X6_nextToken e hp.1) rfl cwX6_nextToken dX6_readItem_85 rfl rfl (hm22_E_E _) ((len_E _).trans (len_E _).symm) (wE ((f_X6_nextToken e).2)) (pw84_E_E _ _) ?_
      replace hp := hp.2
      obtain ⟨g8, hg8⟩ : ∃ z, z = (f_X6_nextToken e) := ⟨_, rfl⟩
      try rw [← hg8] at hp
      try rw [← hg8] at hq
      rw [← hg8]
      refine g_blk hz0 kX6_readItem_88 ?_
      refine ⟨fun c9 => ?_, fun c9 => ?_⟩
      · rw [if_neg (show ¬ ((g8.1) = (Int32.ofInt 6)) from c9)] at hq
        refine g_blk hz0 kX6_readItem_97 ?_
        refine g_blk hz0 kX6_readItem_98 ?_
        subst hq
        exact ⟨fun h => (by cases h), rfl, rfl⟩
      · rw [if_pos (show (g8.1) = (Int32.ofInt 6) from c9)] at hq
        refine g_blk hz0 kX6_readItem_93 ?_
        refine g_blk hz0 kX6_readItem_98 ?_
        subst hq
        exact ⟨fun h => (by cases h), rfl, rfl⟩
    · rw [if_neg (show ¬ (v2 ≤ v3) from c7)] at hq
      replace hp := hp.2 c7
      refine g_blk hz0 kX6_readItem_58 ?_
      refine cV [0, 1, 2] (wE e) (s_X6_nextToken e hp.1) rfl cwX6_nextToken dX6_readItem_59 rfl rfl (hm22_E_E _) ((len_E _).trans (len_E _).symm) (wE ((f_X6_nextToken e).2)) (pw84_E_E _ _) ?_
      replace hp := hp.2
      obtain ⟨g10, hg10⟩ : ∃ z, z = (f_X6_nextToken e) := ⟨_, rfl⟩
      try rw [← hg10] at hp
      try rw [← hg10] at hq
      rw [← hg10]
      refine g_blk hz0 kX6_readItem_62 ?_
      refine ⟨fun c11 => ?_, fun c11 => ?_⟩
      · rw [if_pos (show (g10.1) = (Int32.ofInt 5) from c11)] at hq
        replace hp := hp.1 c11
        refine g_blk hz0 kX6_readItem_68 ?_
        refine ⟨hp.1, ?_⟩
        replace hp := hp.2
        refine g_le (L2 := [some (.ref 0), none, some (.int v2), some (.int (v3 + (Int32.ofInt 1)))]) ⟨rfl, rfl, rfl, trivial⟩ ?_
        exact ih (setA (g10.2) 1 (upd ((g10.2).2 1) (Int32.toNatClampNeg v3) ((g10.2).1 6))) v2 (v3 + (Int32.ofInt 1)) hp hq
      · rw [if_neg (show ¬ ((g10.1) = (Int32.ofInt 5)) from c11)] at hq
        refine g_blk hz0 kX6_readItem_66 ?_
        subst hq
        exact ⟨fun h => (by cases h), rfl, rfl⟩
def f_X6_readItem (e : Rec)  : Int32 × Rec := if ((f_X6_nextToken e).1) = (Int32.ofInt 1) then ((Int32.ofInt 1), ((f_X6_nextToken e).2)) else (if ((f_X6_nextToken e).1) = (Int32.ofInt 3) then (if ((f_X6_nextToken e).1) = (Int32.ofInt 3) then (f_X6_readItem_53 300 (setG ((f_X6_nextToken e).2) 3 ((Int32.ofInt 1))) ((Int32.ofInt 4)) ((Int32.ofInt 0))) else (f_X6_readItem_53 300 (setG ((f_X6_nextToken e).2) 3 ((Int32.ofInt 0))) ((Int32.ofInt 3)) ((Int32.ofInt 0)))) else (if ((f_X6_nextToken e).1) = (Int32.ofInt 4) then (if ((f_X6_nextToken e).1) = (Int32.ofInt 3) then (f_X6_readItem_53 300 (setG ((f_X6_nextToken e).2) 3 ((Int32.ofInt 1))) ((Int32.ofInt 4)) ((Int32.ofInt 0))) else (f_X6_readItem_53 300 (setG ((f_X6_nextToken e).2) 3 ((Int32.ofInt 0))) ((Int32.ofInt 3)) ((Int32.ofInt 0)))) else ((Int32.ofInt 2), ((f_X6_nextToken e).2))))
def p_X6_readItem (e : Rec)  : Prop := (p_X6_nextToken e) ∧ ((((f_X6_nextToken e).1) = (Int32.ofInt 1) → True) ∧ (¬ (((f_X6_nextToken e).1) = (Int32.ofInt 1)) → ((((f_X6_nextToken e).1) = (Int32.ofInt 3) → ((((f_X6_nextToken e).1) = (Int32.ofInt 3) → (p_X6_readItem_53 300 (setG ((f_X6_nextToken e).2) 3 ((Int32.ofInt 1))) ((Int32.ofInt 4)) ((Int32.ofInt 0)))) ∧ (¬ (((f_X6_nextToken e).1) = (Int32.ofInt 3)) → (p_X6_readItem_53 300 (setG ((f_X6_nextToken e).2) 3 ((Int32.ofInt 0))) ((Int32.ofInt 3)) ((Int32.ofInt 0)))))) ∧ (¬ (((f_X6_nextToken e).1) = (Int32.ofInt 3)) → ((((f_X6_nextToken e).1) = (Int32.ofInt 4) → ((((f_X6_nextToken e).1) = (Int32.ofInt 3) → (p_X6_readItem_53 300 (setG ((f_X6_nextToken e).2) 3 ((Int32.ofInt 1))) ((Int32.ofInt 4)) ((Int32.ofInt 0)))) ∧ (¬ (((f_X6_nextToken e).1) = (Int32.ofInt 3)) → (p_X6_readItem_53 300 (setG ((f_X6_nextToken e).2) 3 ((Int32.ofInt 0))) ((Int32.ofInt 3)) ((Int32.ofInt 0)))))) ∧ (¬ (((f_X6_nextToken e).1) = (Int32.ofInt 4)) → True))))))
set_option maxHeartbeats 16000000 in
set_option maxRecDepth 20000 in
theorem s_X6_readItem (e : Rec)  (hp : p_X6_readItem e) : Spec 9 0 0 mX6_readItem [.ref 0] (wE e) (Ret (some (.int ((f_X6_readItem e).1))) (wE ((f_X6_readItem e).2))) := by
  obtain ⟨zq, hq⟩ : ∃ z, z = (f_X6_readItem e) := ⟨_, rfl⟩
  rw [← hq]
  unfold f_X6_readItem at hq
  unfold p_X6_readItem at hp
  refine Sof fun sc => ?_
  refine g_blk hz0 kX6_readItem_0 ?_
  refine cV [0, 1, 2] (wE e) (s_X6_nextToken e hp.1) rfl cwX6_nextToken dX6_readItem_1 rfl rfl (hm22_E_E _) ((len_E _).trans (len_E _).symm) (wE ((f_X6_nextToken e).2)) (pw84_E_E _ _) ?_
  replace hp := hp.2
  obtain ⟨g1, hg1⟩ : ∃ z, z = (f_X6_nextToken e) := ⟨_, rfl⟩
  try rw [← hg1] at hp
  try rw [← hg1] at hq
  rw [← hg1]
  refine g_blk hz0 kX6_readItem_4 ?_
  refine ⟨fun c2 => ?_, fun c2 => ?_⟩
  · rw [if_neg (show ¬ ((g1.1) = (Int32.ofInt 1)) from c2)] at hq
    replace hp := hp.2 c2
    refine g_blk hz0 kX6_readItem_12 ?_
    refine ⟨fun c3 => ?_, fun c3 => ?_⟩
    · rw [if_pos (show (g1.1) = (Int32.ofInt 3) from c3)] at hq
      replace hp := hp.1 c3
      refine g_blk hz0 kX6_readItem_24 ?_
      refine ⟨fun c4 => ?_, fun c4 => ?_⟩
      · rw [if_neg (show ¬ ((g1.1) = (Int32.ofInt 3)) from c4)] at hq
        replace hp := hp.2 c4
        refine g_blk hz0 kX6_readItem_34 ?_
        refine g_blk hz0 kX6_readItem_35 ?_
        refine ⟨fun _ => Or.inl rfl, Or.inr rfl, ?_⟩
        refine ⟨fun _ => ?_, fun c => absurd c (by decide)⟩
        refine g_blk hz0 kX6_readItem_49 ?_
        refine g_blk hz0 kX6_readItem_50 ?_
        refine g_le (L2 := [some (.ref 0), none, some (.int (Int32.ofInt 3)), some (.int (Int32.ofInt 0))]) ⟨rfl, rfl, rfl, trivial⟩ ?_
        exact l_X6_readItem_53 sc zq 300 (setG (g1.2) 3 ((Int32.ofInt 0))) ((Int32.ofInt 3)) ((Int32.ofInt 0)) hp hq
      · rw [if_pos (show (g1.1) = (Int32.ofInt 3) from c4)] at hq
        replace hp := hp.1 c4
        refine g_blk hz0 kX6_readItem_30 ?_
        refine g_blk hz0 kX6_readItem_35 ?_
        refine ⟨fun _ => Or.inr rfl, Or.inr rfl, ?_⟩
        refine ⟨fun c => absurd c (by decide), fun _ => ?_⟩
        refine g_blk hz0 kX6_readItem_45 ?_
        refine g_blk hz0 kX6_readItem_50 ?_
        refine g_le (L2 := [some (.ref 0), none, some (.int (Int32.ofInt 4)), some (.int (Int32.ofInt 0))]) ⟨rfl, rfl, rfl, trivial⟩ ?_
        exact l_X6_readItem_53 sc zq 300 (setG (g1.2) 3 ((Int32.ofInt 1))) ((Int32.ofInt 4)) ((Int32.ofInt 0)) hp hq
    · rw [if_neg (show ¬ ((g1.1) = (Int32.ofInt 3)) from c3)] at hq
      replace hp := hp.2 c3
      refine g_blk hz0 kX6_readItem_17 ?_
      refine ⟨fun c5 => ?_, fun c5 => ?_⟩
      · rw [if_pos (show (g1.1) = (Int32.ofInt 4) from c5)] at hq
        replace hp := hp.1 c5
        refine g_blk hz0 kX6_readItem_24 ?_
        refine ⟨fun c6 => ?_, fun c6 => ?_⟩
        · rw [if_neg (show ¬ ((g1.1) = (Int32.ofInt 3)) from c6)] at hq
          replace hp := hp.2 c6
          refine g_blk hz0 kX6_readItem_34 ?_
          refine g_blk hz0 kX6_readItem_35 ?_
          refine ⟨fun _ => Or.inl rfl, Or.inr rfl, ?_⟩
          refine ⟨fun _ => ?_, fun c => absurd c (by decide)⟩
          refine g_blk hz0 kX6_readItem_49 ?_
          refine g_blk hz0 kX6_readItem_50 ?_
          refine g_le (L2 := [some (.ref 0), none, some (.int (Int32.ofInt 3)), some (.int (Int32.ofInt 0))]) ⟨rfl, rfl, rfl, trivial⟩ ?_
          exact l_X6_readItem_53 sc zq 300 (setG (g1.2) 3 ((Int32.ofInt 0))) ((Int32.ofInt 3)) ((Int32.ofInt 0)) hp hq
        · rw [if_pos (show (g1.1) = (Int32.ofInt 3) from c6)] at hq
          replace hp := hp.1 c6
          refine g_blk hz0 kX6_readItem_30 ?_
          refine g_blk hz0 kX6_readItem_35 ?_
          refine ⟨fun _ => Or.inr rfl, Or.inr rfl, ?_⟩
          refine ⟨fun c => absurd c (by decide), fun _ => ?_⟩
          refine g_blk hz0 kX6_readItem_45 ?_
          refine g_blk hz0 kX6_readItem_50 ?_
          refine g_le (L2 := [some (.ref 0), none, some (.int (Int32.ofInt 4)), some (.int (Int32.ofInt 0))]) ⟨rfl, rfl, rfl, trivial⟩ ?_
          exact l_X6_readItem_53 sc zq 300 (setG (g1.2) 3 ((Int32.ofInt 1))) ((Int32.ofInt 4)) ((Int32.ofInt 0)) hp hq
      · rw [if_neg (show ¬ ((g1.1) = (Int32.ofInt 4)) from c5)] at hq
        refine g_blk hz0 kX6_readItem_22 ?_
        subst hq
        exact ⟨fun h => (by cases h), rfl, rfl⟩
  · rw [if_pos (show (g1.1) = (Int32.ofInt 1) from c2)] at hq
    refine g_blk hz0 kX6_readItem_10 ?_
    subst hq
    exact ⟨fun h => (by cases h), rfl, rfl⟩
