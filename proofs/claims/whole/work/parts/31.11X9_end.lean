def f_X9_end_36 (K8 : Rec → Int32 → Int32 → Int32 → Int32 → Int32 → Int32) (m : Rec) (v1 : Int32) (v2 : Int32) (v3 : Int32) (v4 : Int32) (v5 : Int32) (u0 : Int32) : Int32 := if (f_X9_isCell m v5) = 0 then (K8 m v1 v2 v3 v4 (v5 + (Int32.ofInt 1))) else (if v4 = 0 then (K8 m v1 v2 u0 ((Int32.ofInt 1)) (v5 + (Int32.ofInt 1))) else (if v2 = 0 then (if v3 ≤ u0 then (K8 m v1 v2 v3 v4 (v5 + (Int32.ofInt 1))) else (K8 m v1 v2 u0 ((Int32.ofInt 1)) (v5 + (Int32.ofInt 1)))) else (if u0 ≤ v3 then (K8 m v1 v2 v3 v4 (v5 + (Int32.ofInt 1))) else (K8 m v1 v2 u0 ((Int32.ofInt 1)) (v5 + (Int32.ofInt 1))))))
def p_X9_end_36 (G8 : Rec → Int32 → Int32 → Int32 → Int32 → Int32 → Prop) (m : Rec) (v1 : Int32) (v2 : Int32) (v3 : Int32) (v4 : Int32) (v5 : Int32) (u0 : Int32) : Prop := (p_X9_isCell m v5) ∧ (((f_X9_isCell m v5) = 0 → (G8 m v1 v2 v3 v4 (v5 + (Int32.ofInt 1)))) ∧ (¬ ((f_X9_isCell m v5) = 0) → ((v4 = 0 → (G8 m v1 v2 u0 ((Int32.ofInt 1)) (v5 + (Int32.ofInt 1)))) ∧ (¬ (v4 = 0) → ((v2 = 0 → ((v3 ≤ u0 → (G8 m v1 v2 v3 v4 (v5 + (Int32.ofInt 1)))) ∧ (¬ (v3 ≤ u0) → (G8 m v1 v2 u0 ((Int32.ofInt 1)) (v5 + (Int32.ofInt 1)))))) ∧ (¬ (v2 = 0) → ((u0 ≤ v3 → (G8 m v1 v2 v3 v4 (v5 + (Int32.ofInt 1)))) ∧ (¬ (u0 ≤ v3) → (G8 m v1 v2 u0 ((Int32.ofInt 1)) (v5 + (Int32.ofInt 1)))))))))))
set_option maxHeartbeats 16000000 in
set_option maxRecDepth 20000 in
theorem l_X9_end_36 (sc : SC) (m : Rec) {K8 : Rec → Int32 → Int32 → Int32 → Int32 → Int32 → Int32} {G8 : Rec → Int32 → Int32 → Int32 → Int32 → Int32 → Prop} (zq : Int32) (hK8 : ∀ (v1 : Int32) (v2 : Int32) (v3 : Int32) (v4 : Int32) (v5 : Int32), G8 m v1 v2 v3 v4 v5 → zq = K8 m v1 v2 v3 v4 v5 → Good sc 2 0 0 17 mX9_end (Ret (some (.int (zq))) (wM m)) 0 0 8 [some (.ref 0), some (.int v1), some (.int v2), some (.int v3), some (.int v4), some (.int v5), none] [] (wM m))  (v1 : Int32) (v2 : Int32) (v3 : Int32) (v4 : Int32) (v5 : Int32) (u0 : Int32) (hp : p_X9_end_36 G8 m v1 v2 v3 v4 v5 u0) (hq : zq = f_X9_end_36 K8 m v1 v2 v3 v4 v5 u0) : Good sc 2 0 0 17 mX9_end (Ret (some (.int (zq))) (wM m)) 0 0 36 [some (.ref 0), some (.int v1), some (.int v2), some (.int v3), some (.int v4), some (.int v5), none] [.int u0] (wM m) := by
  unfold p_X9_end_36 at hp
  unfold f_X9_end_36 at hq
  refine g_blk hz0 kX9_end_36 ?_
  refine cVp [0, 1, 2, 3, 4, 5, 6, 7, 8, 9, 10, 11, 12, 13, 14, 15, 16] (wM m) (s_X9_isCell m v5 hp.1) rfl cwX9_isCell dX9_end_41 rfl rfl (hm0_M_M _) ?_
  replace hp := hp.2
  refine g_blk hz0 kX9_end_44 ?_
  refine ⟨fun c3 => ?_, fun c3 => ?_⟩
  · rw [if_pos (show (f_X9_isCell m v5) = 0 from c3)] at hq
    replace hp := hp.1 c3
    refine g_blk hz0 kX9_end_77 ?_
    refine g_le (L2 := [some (.ref 0), some (.int v1), some (.int v2), some (.int v3), some (.int v4), some (.int (v5 + (Int32.ofInt 1))), none]) ⟨rfl, rfl, rfl, rfl, rfl, rfl, trivial⟩ ?_
    exact hK8 v1 v2 v3 v4 (v5 + (Int32.ofInt 1)) hp hq
  · rw [if_neg (show ¬ ((f_X9_isCell m v5) = 0) from c3)] at hq
    replace hp := hp.2 c3
    refine g_blk hz0 kX9_end_47 ?_
    refine ⟨fun c4 => ?_, fun c4 => ?_⟩
    · rw [if_pos (show v4 = 0 from c4)] at hq
      replace hp := hp.1 c4
      refine g_blk hz0 kX9_end_71 ?_
      refine g_blk hz0 kX9_end_77 ?_
      refine g_le (L2 := [some (.ref 0), some (.int v1), some (.int v2), some (.int u0), some (.int (Int32.ofInt 1)), some (.int (v5 + (Int32.ofInt 1))), none]) ⟨rfl, rfl, rfl, rfl, rfl, rfl, trivial⟩ ?_
      exact hK8 v1 v2 u0 ((Int32.ofInt 1)) (v5 + (Int32.ofInt 1)) hp hq
    · rw [if_neg (show ¬ (v4 = 0) from c4)] at hq
      replace hp := hp.2 c4
      refine g_blk hz0 kX9_end_52 ?_
      refine ⟨fun c5 => ?_, fun c5 => ?_⟩
      · rw [if_pos (show v2 = 0 from c5)] at hq
        replace hp := hp.1 c5
        refine g_blk hz0 kX9_end_65 ?_
        refine ⟨fun c6 => ?_, fun c6 => ?_⟩
        · rw [if_pos (show v3 ≤ u0 from c6)] at hq
          replace hp := hp.1 c6
          refine g_blk hz0 kX9_end_77 ?_
          refine g_le (L2 := [some (.ref 0), some (.int v1), some (.int v2), some (.int v3), some (.int v4), some (.int (v5 + (Int32.ofInt 1))), none]) ⟨rfl, rfl, rfl, rfl, rfl, rfl, trivial⟩ ?_
          exact hK8 v1 v2 v3 v4 (v5 + (Int32.ofInt 1)) hp hq
        · rw [if_neg (show ¬ (v3 ≤ u0) from c6)] at hq
          replace hp := hp.2 c6
          refine g_blk hz0 kX9_end_71 ?_
          refine g_blk hz0 kX9_end_77 ?_
          refine g_le (L2 := [some (.ref 0), some (.int v1), some (.int v2), some (.int u0), some (.int (Int32.ofInt 1)), some (.int (v5 + (Int32.ofInt 1))), none]) ⟨rfl, rfl, rfl, rfl, rfl, rfl, trivial⟩ ?_
          exact hK8 v1 v2 u0 ((Int32.ofInt 1)) (v5 + (Int32.ofInt 1)) hp hq
      · rw [if_neg (show ¬ (v2 = 0) from c5)] at hq
        replace hp := hp.2 c5
        refine g_blk hz0 kX9_end_56 ?_
        refine ⟨fun c7 => ?_, fun c7 => ?_⟩
        · rw [if_pos (show u0 ≤ v3 from c7)] at hq
          replace hp := hp.1 c7
          refine g_blk hz0 kX9_end_77 ?_
          refine g_le (L2 := [some (.ref 0), some (.int v1), some (.int v2), some (.int v3), some (.int v4), some (.int (v5 + (Int32.ofInt 1))), none]) ⟨rfl, rfl, rfl, rfl, rfl, rfl, trivial⟩ ?_
          exact hK8 v1 v2 v3 v4 (v5 + (Int32.ofInt 1)) hp hq
        · rw [if_neg (show ¬ (u0 ≤ v3) from c7)] at hq
          replace hp := hp.2 c7
          refine g_blk hz0 kX9_end_62 ?_
          refine g_blk hz0 kX9_end_71 ?_
          refine g_blk hz0 kX9_end_77 ?_
          refine g_le (L2 := [some (.ref 0), some (.int v1), some (.int v2), some (.int u0), some (.int (Int32.ofInt 1)), some (.int (v5 + (Int32.ofInt 1))), none]) ⟨rfl, rfl, rfl, rfl, rfl, rfl, trivial⟩ ?_
          exact hK8 v1 v2 u0 ((Int32.ofInt 1)) (v5 + (Int32.ofInt 1)) hp hq
def f_X9_end_8  : Nat → Rec → Int32 → Int32 → Int32 → Int32 → Int32 → Int32
  | 0, m, v1, v2, v3, v4, v5 => 0
  | n + 1, m, v1, v2, v3, v4, v5 => if (Int32.ofInt 36) ≤ v5 then v3 else (if v1 = 0 then (f_X9_end_36 (f_X9_end_8 n) m v1 v2 v3 v4 v5 ((m.2 4) (Int32.toNatClampNeg v5))) else (f_X9_end_36 (f_X9_end_8 n) m v1 v2 v3 v4 v5 ((m.2 5) (Int32.toNatClampNeg v5))))
def p_X9_end_8  : Nat → Rec → Int32 → Int32 → Int32 → Int32 → Int32 → Prop
  | 0, _, _, _, _, _, _ => False
  | n + 1, m, v1, v2, v3, v4, v5 => ((Int32.ofInt 36) ≤ v5 → True) ∧ (¬ ((Int32.ofInt 36) ≤ v5) → ((v1 = 0 → (vp_in v5 36 ∧ (p_X9_end_36 (p_X9_end_8 n) m v1 v2 v3 v4 v5 ((m.2 4) (Int32.toNatClampNeg v5))))) ∧ (¬ (v1 = 0) → (vp_in v5 36 ∧ (p_X9_end_36 (p_X9_end_8 n) m v1 v2 v3 v4 v5 ((m.2 5) (Int32.toNatClampNeg v5)))))))
set_option maxHeartbeats 16000000 in
set_option maxRecDepth 20000 in
theorem l_X9_end_8 (sc : SC) (m : Rec)  (zq : Int32)  : ∀ (n : Nat)  (v1 : Int32) (v2 : Int32) (v3 : Int32) (v4 : Int32) (v5 : Int32), p_X9_end_8 n m v1 v2 v3 v4 v5 → zq = f_X9_end_8 n m v1 v2 v3 v4 v5 → Good sc 2 0 0 17 mX9_end (Ret (some (.int (zq))) (wM m)) 0 0 8 [some (.ref 0), some (.int v1), some (.int v2), some (.int v3), some (.int v4), some (.int v5), none] [] (wM m) := by
  intro n
  induction n with
  | zero => intro v1 v2 v3 v4 v5 hp; exact hp.elim
  | succ n ih =>
    intro v1 v2 v3 v4 v5 hp hq
    unfold p_X9_end_8 at hp
    unfold f_X9_end_8 at hq
    refine g_blk hz0 kX9_end_8 ?_
    refine ⟨fun c1 => ?_, fun c1 => ?_⟩
    · rw [if_pos (show (Int32.ofInt 36) ≤ v5 from c1)] at hq
      refine g_blk hz0 kX9_end_83 ?_
      subst hq
      exact ⟨fun h => (by cases h), rfl, rfl⟩
    · rw [if_neg (show ¬ ((Int32.ofInt 36) ≤ v5) from c1)] at hq
      replace hp := hp.2 c1
      refine g_blk hz0 kX9_end_15 ?_
      refine ⟨fun c2 => ?_, fun c2 => ?_⟩
      · rw [if_neg (show ¬ (v1 = 0) from c2)] at hq
        replace hp := hp.2 c2
        refine g_blk hz0 kX9_end_29 ?_
        refine ⟨hp.1, ?_⟩
        replace hp := hp.2
        refine g_le (L2 := [some (.ref 0), some (.int v1), some (.int v2), some (.int v3), some (.int v4), some (.int v5), none]) ⟨rfl, rfl, rfl, rfl, rfl, rfl, trivial⟩ ?_
        exact l_X9_end_36 sc m zq (fun r0 r1 r2 r3 r4 hp hq => ih r0 r1 r2 r3 r4 hp hq) v1 v2 v3 v4 v5 ((m.2 5) (Int32.toNatClampNeg v5)) hp hq
      · rw [if_pos (show v1 = 0 from c2)] at hq
        replace hp := hp.1 c2
        refine g_blk hz0 kX9_end_19 ?_
        refine ⟨hp.1, ?_⟩
        replace hp := hp.2
        refine g_le (L2 := [some (.ref 0), some (.int v1), some (.int v2), some (.int v3), some (.int v4), some (.int v5), none]) ⟨rfl, rfl, rfl, rfl, rfl, rfl, trivial⟩ ?_
        exact l_X9_end_36 sc m zq (fun r0 r1 r2 r3 r4 hp hq => ih r0 r1 r2 r3 r4 hp hq) v1 v2 v3 v4 v5 ((m.2 4) (Int32.toNatClampNeg v5)) hp hq
def f_X9_end (m : Rec) (a : Int32) (g : Int32) : Int32 := (f_X9_end_8 40 m a g ((Int32.ofInt 0)) ((Int32.ofInt 0)) ((Int32.ofInt 0)))
def p_X9_end (m : Rec) (a : Int32) (g : Int32) : Prop := (p_X9_end_8 40 m a g ((Int32.ofInt 0)) ((Int32.ofInt 0)) ((Int32.ofInt 0)))
set_option maxHeartbeats 16000000 in
set_option maxRecDepth 20000 in
theorem s_X9_end (m : Rec) (a : Int32) (g : Int32) (hp : p_X9_end m a g) : Spec 2 0 0 mX9_end [.ref 0, .int a, .int g] (wM m) (Ret (some (.int ((f_X9_end m a g)))) (wM m)) := by
  obtain ⟨zq, hq⟩ : ∃ z, z = (f_X9_end m a g) := ⟨_, rfl⟩
  rw [← hq]
  unfold f_X9_end at hq
  unfold p_X9_end at hp
  refine Sof fun sc => ?_
  refine g_blk hz0 kX9_end_0 ?_
  refine g_le (L2 := [some (.ref 0), some (.int a), some (.int g), some (.int (Int32.ofInt 0)), some (.int (Int32.ofInt 0)), some (.int (Int32.ofInt 0)), none]) ⟨rfl, rfl, rfl, rfl, rfl, rfl, trivial⟩ ?_
  exact l_X9_end_8 sc m zq 40 a g ((Int32.ofInt 0)) ((Int32.ofInt 0)) ((Int32.ofInt 0)) hp hq
