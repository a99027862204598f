def f_X9_isAt (m : Rec) (c : Int32) (x : Int32) (y : Int32) : Int32 := if (f_X9_isCell m c) = 0 then 0 else (if ((m.2 4) (Int32.toNatClampNeg c)) = x then (if ((m.2 5) (Int32.toNatClampNeg c)) = y then 1 else 0) else 0)
def p_X9_isAt (m : Rec) (c : Int32) (x : Int32) (y : Int32) : Prop := (p_X9_isCell m c) ∧ (((f_X9_isCell m c) = 0 → True) ∧ (¬ ((f_X9_isCell m c) = 0) → (vp_in c 36 ∧ ((((m.2 4) (Int32.toNatClampNeg c)) = x → (vp_in c 36 ∧ True)) ∧ (¬ (((m.2 4) (Int32.toNatClampNeg c)) = x) → True)))))
theorem z_X9_isAt (m : Rec) (c : Int32) (x : Int32) (y : Int32) : (f_X9_isAt m c x y) = 0 ∨ (f_X9_isAt m c x y) = 1 := by
  unfold f_X9_isAt
  repeat' split
  all_goals first | exact Or.inl rfl | exact Or.inr rfl | apply z_any <;> assumption
set_option maxHeartbeats 16000000 in
set_option maxRecDepth 20000 in
theorem s_X9_isAt (m : Rec) (c : Int32) (x : Int32) (y : Int32) (hp : p_X9_isAt m c x y) : Spec 2 0 0 mX9_isAt [.ref 0, .int c, .int x, .int y] (wM m) (Ret (some (.int ((f_X9_isAt m c x y)))) (wM m)) := by
  obtain ⟨zq, hq⟩ : ∃ z, z = (f_X9_isAt m c x y) := ⟨_, rfl⟩
  rw [← hq]
  unfold f_X9_isAt at hq
  unfold p_X9_isAt at hp
  refine Sof fun sc => ?_
  refine g_blk hz0 kX9_isAt_0 ?_
  refine cVp [0, 1, 2, 3, 4, 5, 6, 7, 8, 9, 10, 11, 12, 13, 14, 15, 16] (wM m) (s_X9_isCell m c hp.1) rfl cwX9_isCell dX9_isAt_2 rfl rfl (hm0_M_M _) ?_
  replace hp := hp.2
  refine g_blk hz0 kX9_isAt_5 ?_
  refine ⟨fun c1 => ?_, fun c1 => ?_⟩
  · rw [if_pos (show (f_X9_isCell m c) = 0 from c1)] at hq
    refine g_blk hz0 kX9_isAt_32 ?_
    refine g_blk hz0 kX9_isAt_33 ?_
    subst hq
    exact ⟨fun _ => Or.inl rfl, rfl, rfl⟩
  · rw [if_neg (show ¬ ((f_X9_isCell m c) = 0) from c1)] at hq
    replace hp := hp.2 c1
    refine g_blk hz0 kX9_isAt_8 ?_
    refine ⟨hp.1, ?_⟩
    replace hp := hp.2
    refine ⟨fun c2 => ?_, fun c2 => ?_⟩
    · rw [if_neg (show ¬ (((m.2 4) (Int32.toNatClampNeg c)) = x) from c2)] at hq
      refine g_blk hz0 kX9_isAt_32 ?_
      refine g_blk hz0 kX9_isAt_33 ?_
      subst hq
      exact ⟨fun _ => Or.inl rfl, rfl, rfl⟩
    · rw [if_pos (show ((m.2 4) (Int32.toNatClampNeg c)) = x from c2)] at hq
      replace hp := hp.1 c2
      refine g_blk hz0 kX9_isAt_18 ?_
      refine ⟨hp.1, ?_⟩
      replace hp := hp.2
      refine ⟨fun c3 => ?_, fun c3 => ?_⟩
      · rw [if_neg (show ¬ (((m.2 5) (Int32.toNatClampNeg c)) = y) from c3)] at hq
        refine g_blk hz0 kX9_isAt_32 ?_
        refine g_blk hz0 kX9_isAt_33 ?_
        subst hq
        exact ⟨fun _ => Or.inl rfl, rfl, rfl⟩
      · rw [if_pos (show ((m.2 5) (Int32.toNatClampNeg c)) = y from c3)] at hq
        refine g_blk hz0 kX9_isAt_28 ?_
        refine g_blk hz0 kX9_isAt_33 ?_
        subst hq
        exact ⟨fun _ => Or.inr rfl, rfl, rfl⟩

def f_X9_pile_97 (K84 : Rec → Int32 → Int32 → Int32 → Int32 → Int32 × Rec) : Nat → Rec → Int32 → Int32 → Int32 → Int32 → Int32 → Int32 → Int32 × Rec
  | 0, m, v1, v2, v3, v5, v6, v7 => (0, m)
  | n + 1, m, v1, v2, v3, v5, v6, v7 => if 36 ≤ v7 then (if (f_X9_isAt m v5 v1 v2) = 0 then (K84 m v1 v2 v3 (v5 + 1)) else (if v6 = v3 then (v5, m) else (K84 m v1 v2 v3 (v5 + 1)))) else (if (f_X9_isAt m v5 v1 v2) = 0 then (if (f_X9_isAt m v5 v1 v2) = 0 then (K84 m v1 v2 v3 (v5 + 1)) else (if v6 = v3 then (v5, m) else (K84 m v1 v2 v3 (v5 + 1)))) else (if (f_X9_isAt m v7 v1 v2) = 0 then (f_X9_pile_97 K84 n m v1 v2 v3 v5 (v6 + 0) (v7 + 1)) else (if ((m.2 6) (Int32.toNatClampNeg v5)) ≤ ((m.2 6) (Int32.toNatClampNeg v7)) then (f_X9_pile_97 K84 n m v1 v2 v3 v5 (v6 + 0) (v7 + 1)) else (f_X9_pile_97 K84 n m v1 v2 v3 v5 (v6 + 1) (v7 + 1)))))
def p_X9_pile_97 (G84 : Rec → Int32 → Int32 → Int32 → Int32 → Prop) : Nat → Rec → Int32 → Int32 → Int32 → Int32 → Int32 → Int32 → Prop
  | 0, _, _, _, _, _, _, _ => False
  | n + 1, m, v1, v2, v3, v5, v6, v7 => (36 ≤ v7 → ((p_X9_isAt m v5 v1 v2) ∧ (((f_X9_isAt m v5 v1 v2) = 0 → (G84 m v1 v2 v3 (v5 + 1))) ∧ (¬ ((f_X9_isAt m v5 v1 v2) = 0) → ((v6 = v3 → True) ∧ (¬ (v6 = v3) → (G84 m v1 v2 v3 (v5 + 1)))))))) ∧ (¬ (36 ≤ v7) → ((p_X9_isAt m v5 v1 v2) ∧ (((f_X9_isAt m v5 v1 v2) = 0 → ((p_X9_isAt m v5 v1 v2) ∧ (((f_X9_isAt m v5 v1 v2) = 0 → (G84 m v1 v2 v3 (v5 + 1))) ∧ (¬ ((f_X9_isAt m v5 v1 v2) = 0) → ((v6 = v3 → True) ∧ (¬ (v6 = v3) → (G84 m v1 v2 v3 (v5 + 1)))))))) ∧ (¬ ((f_X9_isAt m v5 v1 v2) = 0) → ((p_X9_isAt m v7 v1 v2) ∧ (((f_X9_isAt m v7 v1 v2) = 0 → (p_X9_pile_97 G84 n m v1 v2 v3 v5 (v6 + 0) (v7 + 1))) ∧ (¬ ((f_X9_isAt m v7 v1 v2) = 0) → (vp_in v7 36 ∧ (vp_in v5 36 ∧ ((((m.2 6) (Int32.toNatClampNeg v5)) ≤ ((m.2 6) (Int32.toNatClampNeg v7)) → (p_X9_pile_97 G84 n m v1 v2 v3 v5 (v6 + 0) (v7 + 1))) ∧ (¬ (((m.2 6) (Int32.toNatClampNeg v5)) ≤ ((m.2 6) (Int32.toNatClampNeg v7))) → (p_X9_pile_97 G84 n m v1 v2 v3 v5 (v6 + 1) (v7 + 1)))))))))))))
set_option maxHeartbeats 16000000 in
set_option maxRecDepth 20000 in
theorem l_X9_pile_97 (sc : SC)  {K84 : Rec → Int32 → Int32 → Int32 → Int32 → Int32 × Rec} {G84 : Rec → Int32 → Int32 → Int32 → Int32 → Prop} (zq : Int32 × Rec) (hK84 : ∀ (m : Rec) (v1 : Int32) (v2 : Int32) (v3 : Int32) (v5 : Int32), G84 m v1 v2 v3 v5 → zq = K84 m v1 v2 v3 v5 → Good sc 4 0 0 17 mX9_pile (Ret (some (.int (zq.1))) (wM (zq.2))) 0 0 84 [some (.ref 0), some (.int v1), some (.int v2), some (.int v3), none, some (.int v5), none, none] [] (wM m)) : ∀ (n : Nat) (m : Rec) (v1 : Int32) (v2 : Int32) (v3 : Int32) (v5 : Int32) (v6 : Int32) (v7 : Int32), p_X9_pile_97 G84 n m v1 v2 v3 v5 v6 v7 → zq = f_X9_pile_97 K84 n m v1 v2 v3 v5 v6 v7 → Good sc 4 0 0 17 mX9_pile (Ret (some (.int (zq.1))) (wM (zq.2))) 0 0 97 [some (.ref 0), some (.int v1), some (.int v2), some (.int v3), none, some (.int v5), some (.int v6), some (.int v7)] [] (wM m) := by
  intro n
  induction n with
  | zero => intro m v1 v2 v3 v5 v6 v7 hp; exact hp.elim
  | succ n ih =>
    intro m v1 v2 v3 v5 v6 v7 hp hq
    unfold p_X9_pile_97 at hp
    unfold f_X9_pile_97 at hq
    refine g_blk hz0 kX9_pile_97 ?_
    refine ⟨fun c9 => ?_, fun c9 => ?_⟩
    · rw [if_pos (show 36 ≤ v7 from c9)] at hq
      replace hp := hp.1 c9
      refine g_blk hz0 kX9_pile_159 ?_
      refine cVp [0, 1, 2, 3, 4, 5, 6, 7, 8, 9, 10, 11, 12, 13, 14, 15, 16] (wM m) (s_X9_isAt m v5 v1 v2 hp.1) rfl cwX9_isAt dX9_pile_164 rfl rfl (hm0_M_M _) ?_
      replace hp := hp.2
      refine g_blk hz0 kX9_pile_167 ?_
      refine ⟨fun c10 => ?_, fun c10 => ?_⟩
      · rw [if_pos (show (f_X9_isAt m v5 v1 v2) = 0 from c10)] at hq
        replace hp := hp.1 c10
        refine g_blk hz0 kX9_pile_179 ?_
        refine g_le (L2 := [some (.ref 0), some (.int v1), some (.int v2), some (.int v3), none, some (.int (v5 + 1)), none, none]) ⟨rfl, rfl, rfl, rfl, rfl, trivial⟩ ?_
        exact hK84 m v1 v2 v3 (v5 + 1) hp hq
      · rw [if_neg (show ¬ ((f_X9_isAt m v5 v1 v2) = 0) from c10)] at hq
        replace hp := hp.2 c10
        refine g_blk hz0 kX9_pile_170 ?_
        refine ⟨fun c11 => ?_, fun c11 => ?_⟩
        · rw [if_neg (show ¬ (v6 = v3) from c11)] at hq
          replace hp := hp.2 c11
          refine g_blk hz0 kX9_pile_179 ?_
          refine g_le (L2 := [some (.ref 0), some (.int v1), some (.int v2), some (.int v3), none, some (.int (v5 + 1)), none, none]) ⟨rfl, rfl, rfl, rfl, rfl, trivial⟩ ?_
          exact hK84 m v1 v2 v3 (v5 + 1) hp hq
        · rw [if_pos (show v6 = v3 from c11)] at hq
          refine g_blk hz0 kX9_pile_176 ?_
          subst hq
          exact ⟨fun h => (by cases h), rfl, rfl⟩
    · rw [if_neg (show ¬ (36 ≤ v7) from c9)] at hq
      replace hp := hp.2 c9
      refine g_blk hz0 kX9_pile_104 ?_
      refine cVp [0, 1, 2, 3, 4, 5, 6, 7, 8, 9, 10, 11, 12, 13, 14, 15, 16] (wM m) (s_X9_isAt m v5 v1 v2 hp.1) rfl cwX9_isAt dX9_pile_109 rfl rfl (hm0_M_M _) ?_
      replace hp := hp.2
      refine g_blk hz0 kX9_pile_112 ?_
      refine ⟨fun c12 => ?_, fun c12 => ?_⟩
      · rw [if_pos (show (f_X9_isAt m v5 v1 v2) = 0 from c12)] at hq
        replace hp := hp.1 c12
        refine g_blk hz0 kX9_pile_159 ?_
        refine cVp [0, 1, 2, 3, 4, 5, 6, 7, 8, 9, 10, 11, 12, 13, 14, 15, 16] (wM m) (s_X9_isAt m v5 v1 v2 hp.1) rfl cwX9_isAt dX9_pile_164 rfl rfl (hm0_M_M _) ?_
        replace hp := hp.2
        refine g_blk hz0 kX9_pile_167 ?_
        refine ⟨fun c13 => ?_, fun c13 => ?_⟩
        · rw [if_pos (show (f_X9_isAt m v5 v1 v2) = 0 from c13)] at hq
          replace hp := hp.1 c13
          refine g_blk hz0 kX9_pile_179 ?_
          refine g_le (L2 := [some (.ref 0), some (.int v1), some (.int v2), some (.int v3), none, some (.int (v5 + 1)), none, none]) ⟨rfl, rfl, rfl, rfl, rfl, trivial⟩ ?_
          exact hK84 m v1 v2 v3 (v5 + 1) hp hq
        · rw [if_neg (show ¬ ((f_X9_isAt m v5 v1 v2) = 0) from c13)] at hq
          replace hp := hp.2 c13
          refine g_blk hz0 kX9_pile_170 ?_
          refine ⟨fun c14 => ?_, fun c14 => ?_⟩
          · rw [if_neg (show ¬ (v6 = v3) from c14)] at hq
            replace hp := hp.2 c14
            refine g_blk hz0 kX9_pile_179 ?_
            refine g_le (L2 := [some (.ref 0), some (.int v1), some (.int v2), some (.int v3), none, some (.int (v5 + 1)), none, none]) ⟨rfl, rfl, rfl, rfl, rfl, trivial⟩ ?_
            exact hK84 m v1 v2 v3 (v5 + 1) hp hq
          · rw [if_pos (show v6 = v3 from c14)] at hq
            refine g_blk hz0 kX9_pile_176 ?_
            subst hq
            exact ⟨fun h => (by cases h), rfl, rfl⟩
      · rw [if_neg (show ¬ ((f_X9_isAt m v5 v1 v2) = 0) from c12)] at hq
        replace hp := hp.2 c12
        refine g_blk hz0 kX9_pile_115 ?_
        refine cVp [0, 1, 2, 3, 4, 5, 6, 7, 8, 9, 10, 11, 12, 13, 14, 15, 16] (wM m) (s_X9_isAt m v7 v1 v2 hp.1) rfl cwX9_isAt dX9_pile_122 rfl rfl (hm0_M_M _) ?_
        replace hp := hp.2
        refine g_blk hz0 kX9_pile_125 ?_
        refine ⟨fun c15 => ?_, fun c15 => ?_⟩
        · rw [if_pos (show (f_X9_isAt m v7 v1 v2) = 0 from c15)] at hq
          replace hp := hp.1 c15
          refine g_blk hz0 kX9_pile_149 ?_
          refine g_blk hz0 kX9_pile_150 ?_
          refine g_le (L2 := [some (.ref 0), some (.int v1), some (.int v2), some (.int v3), none, some (.int v5), some (.int (v6 + 0)), some (.int (v7 + 1))]) ⟨rfl, rfl, rfl, rfl, rfl, rfl, rfl, trivial⟩ ?_
          exact ih m v1 v2 v3 v5 (v6 + 0) (v7 + 1) hp hq
        · rw [if_neg (show ¬ ((f_X9_isAt m v7 v1 v2) = 0) from c15)] at hq
          replace hp := hp.2 c15
          refine g_blk hz0 kX9_pile_128 ?_
          refine ⟨hp.1, ?_⟩
          replace hp := hp.2
          refine ⟨hp.1, ?_⟩
          replace hp := hp.2
          refine ⟨fun c16 => ?_, fun c16 => ?_⟩
          · rw [if_pos (show ((m.2 6) (Int32.toNatClampNeg v5)) ≤ ((m.2 6) (Int32.toNatClampNeg v7)) from c16)] at hq
            replace hp := hp.1 c16
            refine g_blk hz0 kX9_pile_149 ?_
            refine g_blk hz0 kX9_pile_150 ?_
            refine g_le (L2 := [some (.ref 0), some (.int v1), some (.int v2), some (.int v3), none, some (.int v5), some (.int (v6 + 0)), some (.int (v7 + 1))]) ⟨rfl, rfl, rfl, rfl, rfl, rfl, rfl, trivial⟩ ?_
            exact ih m v1 v2 v3 v5 (v6 + 0) (v7 + 1) hp hq
          · rw [if_neg (show ¬ (((m.2 6) (Int32.toNatClampNeg v5)) ≤ ((m.2 6) (Int32.toNatClampNeg v7))) from c16)] at hq
            replace hp := hp.2 c16
            refine g_blk hz0 kX9_pile_145 ?_
            refine g_blk hz0 kX9_pile_150 ?_
            refine g_le (L2 := [some (.ref 0), some (.int v1), some (.int v2), some (.int v3), none, some (.int v5), some (.int (v6 + 1)), some (.int (v7 + 1))]) ⟨rfl, rfl, rfl, rfl, rfl, rfl, rfl, trivial⟩ ?_
            exact ih m v1 v2 v3 v5 (v6 + 1) (v7 + 1) hp hq
def f_X9_pile_84  : Nat → Rec → Int32 → Int32 → Int32 → Int32 → Int32 × Rec
  | 0, m, v1, v2, v3, v5 => (0, m)
  | n + 1, m, v1, v2, v3, v5 => if 36 ≤ v5 then ((-5), m) else (f_X9_pile_97 (f_X9_pile_84 n) 40 m v1 v2 v3 v5 0 0)
def p_X9_pile_84  : Nat → Rec → Int32 → Int32 → Int32 → Int32 → Prop
  | 0, _, _, _, _, _ => False
  | n + 1, m, v1, v2, v3, v5 => (36 ≤ v5 → True) ∧ (¬ (36 ≤ v5) → (p_X9_pile_97 (p_X9_pile_84 n) 40 m v1 v2 v3 v5 0 0))
set_option maxHeartbeats 16000000 in
set_option maxRecDepth 20000 in
theorem l_X9_pile_84 (sc : SC)   (zq : Int32 × Rec)  : ∀ (n : Nat) (m : Rec) (v1 : Int32) (v2 : Int32) (v3 : Int32) (v5 : Int32), p_X9_pile_84 n m v1 v2 v3 v5 → zq = f_X9_pile_84 n m v1 v2 v3 v5 → Good sc 4 0 0 17 mX9_pile (Ret (some (.int (zq.1))) (wM (zq.2))) 0 0 84 [some (.ref 0), some (.int v1), some (.int v2), some (.int v3), none, some (.int v5), none, none] [] (wM m) := by
  intro n
  induction n with
  | zero => intro m v1 v2 v3 v5 hp; exact hp.elim
  | succ n ih =>
    intro m v1 v2 v3 v5 hp hq
    unfold p_X9_pile_84 at hp
    unfold f_X9_pile_84 at hq
    refine g_blk hz0 kX9_pile_84 ?_
    refine ⟨fun c8 => ?_, fun c8 => ?_⟩
    · rw [if_pos (show 36 ≤ v5 from c8)] at hq
      refine g_blk hz0 kX9_pile_185 ?_
      subst hq
      exact ⟨fun h => (by cases h), rfl, rfl⟩
    · rw [if_neg (show ¬ (36 ≤ v5) from c8)] at hq
      replace hp := hp.2 c8
      refine g_blk hz0 kX9_pile_91 ?_
      refine g_le (L2 := [some (.ref 0), some (.int v1), some (.int v2), some (.int v3), none, some (.int v5), some (.int 0), some (.int 0)]) ⟨rfl, rfl, rfl, rfl, rfl, rfl, rfl, trivial⟩ ?_
      exact l_X9_pile_97 sc zq (fun r0 r1 r2 r3 r4 hp hq => ih r0 r1 r2 r3 r4 hp hq) 40 m v1 v2 v3 v5 0 0 hp hq
def f_X9_pile_23  : Nat → Rec → Int32 → Int32 → Int32 → Int32 → Int32 → Int32 × Rec
  | 0, m, v1, v2, v3, v4, v5 => (0, m)
  | n + 1, m, v1, v2, v3, v4, v5 => if 36 ≤ v5 then (if v3 = (-1) then (if v3 = (-1) then (v4, m) else ((-5), m)) else (if v3 < v4 then (f_X9_pile_84 40 m v1 v2 v3 0) else (if v3 = (-1) then (v4, m) else ((-5), m)))) else (if (f_X9_isAt m v5 v1 v2) = 0 then (f_X9_pile_23 n m v1 v2 v3 (v4 + 0) (v5 + 1)) else (f_X9_pile_23 n m v1 v2 v3 (v4 + 1) (v5 + 1)))
def p_X9_pile_23  : Nat → Rec → Int32 → Int32 → Int32 → Int32 → Int32 → Prop
  | 0, _, _, _, _, _, _ => False
  | n + 1, m, v1, v2, v3, v4, v5 => (36 ≤ v5 → ((v3 = (-1) → True) ∧ (¬ (v3 = (-1)) → ((v3 < v4 → (p_X9_pile_84 40 m v1 v2 v3 0)) ∧ (¬ (v3 < v4) → True))))) ∧ (¬ (36 ≤ v5) → ((p_X9_isAt m v5 v1 v2) ∧ (((f_X9_isAt m v5 v1 v2) = 0 → (p_X9_pile_23 n m v1 v2 v3 (v4 + 0) (v5 + 1))) ∧ (¬ ((f_X9_isAt m v5 v1 v2) = 0) → (p_X9_pile_23 n m v1 v2 v3 (v4 + 1) (v5 + 1))))))
set_option maxHeartbeats 16000000 in
set_option maxRecDepth 20000 in
theorem l_X9_pile_23 (sc : SC)   (zq : Int32 × Rec)  : ∀ (n : Nat) (m : Rec) (v1 : Int32) (v2 : Int32) (v3 : Int32) (v4 : Int32) (v5 : Int32), p_X9_pile_23 n m v1 v2 v3 v4 v5 → zq = f_X9_pile_23 n m v1 v2 v3 v4 v5 → Good sc 4 0 0 17 mX9_pile (Ret (some (.int (zq.1))) (wM (zq.2))) 0 0 23 [some (.ref 0), some (.int v1), some (.int v2), some (.int v3), some (.int v4), some (.int v5), none, none] [] (wM m) := by
  intro n
  induction n with
  | zero => intro m v1 v2 v3 v4 v5 hp; exact hp.elim
  | succ n ih =>
    intro m v1 v2 v3 v4 v5 hp hq
    unfold p_X9_pile_23 at hp
    unfold f_X9_pile_23 at hq
    refine g_blk hz0 kX9_pile_23 ?_
    refine ⟨fun c2 => ?_, fun c2 => ?_⟩
    · rw [if_pos (show 36 ≤ v5 from c2)] at hq
      replace hp := hp.1 c2
      refine g_blk hz0 kX9_pile_57 ?_
      refine ⟨fun c3 => ?_, fun c3 => ?_⟩
      · rw [if_pos (show v3 = (-1) from c3)] at hq
        refine g_blk hz0 kX9_pile_68 ?_
        refine ⟨fun c4 => ?_, fun c4 => ?_⟩
        · rw [if_neg (show ¬ (v3 = (-1)) from c4)] at hq
          refine g_blk hz0 kX9_pile_78 ?_
          refine g_blk hz0 kX9_pile_80 ?_
          subst hq
          exact ⟨fun h => (by cases h), rfl, rfl⟩
        · rw [if_pos (show v3 = (-1) from c4)] at hq
          refine g_blk hz0 kX9_pile_73 ?_
          refine g_blk hz0 kX9_pile_80 ?_
          subst hq
          exact ⟨fun h => (by cases h), rfl, rfl⟩
      · rw [if_neg (show ¬ (v3 = (-1)) from c3)] at hq
        replace hp := hp.2 c3
        refine g_blk hz0 kX9_pile_62 ?_
        refine ⟨fun c5 => ?_, fun c5 => ?_⟩
        · rw [if_pos (show v3 < v4 from c5)] at hq
          replace hp := hp.1 c5
          refine g_blk hz0 kX9_pile_81 ?_
          refine g_le (L2 := [some (.ref 0), some (.int v1), some (.int v2), some (.int v3), none, some (.int 0), none, none]) ⟨rfl, rfl, rfl, rfl, rfl, trivial⟩ ?_
          exact l_X9_pile_84 sc zq 40 m v1 v2 v3 0 hp hq
        · rw [if_neg (show ¬ (v3 < v4) from c5)] at hq
          refine g_blk hz0 kX9_pile_68 ?_
          refine ⟨fun c6 => ?_, fun c6 => ?_⟩
          · rw [if_neg (show ¬ (v3 = (-1)) from c6)] at hq
            refine g_blk hz0 kX9_pile_78 ?_
            refine g_blk hz0 kX9_pile_80 ?_
            subst hq
            exact ⟨fun h => (by cases h), rfl, rfl⟩
          · rw [if_pos (show v3 = (-1) from c6)] at hq
            refine g_blk hz0 kX9_pile_73 ?_
            refine g_blk hz0 kX9_pile_80 ?_
            subst hq
            exact ⟨fun h => (by cases h), rfl, rfl⟩
    · rw [if_neg (show ¬ (36 ≤ v5) from c2)] at hq
      replace hp := hp.2 c2
      refine g_blk hz0 kX9_pile_30 ?_
      refine cVp [0, 1, 2, 3, 4, 5, 6, 7, 8, 9, 10, 11, 12, 13, 14, 15, 16] (wM m) (s_X9_isAt m v5 v1 v2 hp.1) rfl cwX9_isAt dX9_pile_37 rfl rfl (hm0_M_M _) ?_
      replace hp := hp.2
      refine g_blk hz0 kX9_pile_40 ?_
      refine ⟨fun c7 => ?_, fun c7 => ?_⟩
      · rw [if_pos (show (f_X9_isAt m v5 v1 v2) = 0 from c7)] at hq
        replace hp := hp.1 c7
        refine g_blk hz0 kX9_pile_47 ?_
        refine g_blk hz0 kX9_pile_48 ?_
        refine g_le (L2 := [some (.ref 0), some (.int v1), some (.int v2), some (.int v3), some (.int (v4 + 0)), some (.int (v5 + 1)), none, none]) ⟨rfl, rfl, rfl, rfl, rfl, rfl, trivial⟩ ?_
        exact ih m v1 v2 v3 (v4 + 0) (v5 + 1) hp hq
      · rw [if_neg (show ¬ ((f_X9_isAt m v5 v1 v2) = 0) from c7)] at hq
        replace hp := hp.2 c7
        refine g_blk hz0 kX9_pile_43 ?_
        refine g_blk hz0 kX9_pile_48 ?_
        refine g_le (L2 := [some (.ref 0), some (.int v1), some (.int v2), some (.int v3), some (.int (v4 + 1)), some (.int (v5 + 1)), none, none]) ⟨rfl, rfl, rfl, rfl, rfl, rfl, trivial⟩ ?_
        exact ih m v1 v2 v3 (v4 + 1) (v5 + 1) hp hq
def f_X9_pile (m : Rec) (x : Int32) (y : Int32) (i : Int32) : Int32 × Rec := if (-1) ≤ i then (f_X9_pile_23 40 (f_X9_lays m) x y i 0 0) else (((f_X9_refuses m 0 (-10)).1), ((f_X9_refuses m 0 (-10)).2))
def p_X9_pile (m : Rec) (x : Int32) (y : Int32) (i : Int32) : Prop := ((-1) ≤ i → ((p_X9_lays m) ∧ (p_X9_pile_23 40 (f_X9_lays m) x y i 0 0))) ∧ (¬ ((-1) ≤ i) → ((p_X9_refuses m 0 (-10)) ∧ True))
set_option maxHeartbeats 16000000 in
set_option maxRecDepth 20000 in
theorem s_X9_pile (m : Rec) (x : Int32) (y : Int32) (i : Int32) (hp : p_X9_pile m x y i) : Spec 4 0 0 mX9_pile [.ref 0, .int x, .int y, .int i] (wM m) (Ret (some (.int ((f_X9_pile m x y i).1))) (wM ((f_X9_pile m x y i).2))) := by
  obtain ⟨zq, hq⟩ : ∃ z, z = (f_X9_pile m x y i) := ⟨_, rfl⟩
  rw [← hq]
  unfold f_X9_pile at hq
  unfold p_X9_pile at hp
  refine Sof fun sc => ?_
  refine g_blk hz0 kX9_pile_0 ?_
  refine ⟨fun c1 => ?_, fun c1 => ?_⟩
  · rw [if_pos (show (-1) ≤ i from c1)] at hq
    replace hp := hp.1 c1
    refine g_blk hz0 kX9_pile_13 ?_
    refine cV [0, 1, 2, 3, 4, 5, 6, 7, 8, 9, 10, 11, 12, 13, 14, 15, 16] (wM m) (s_X9_lays m hp.1) rfl cwX9_lays dX9_pile_14 rfl rfl (hm0_M_M _) rfl (wM (f_X9_lays m)) (pw0_M_M _ _) ?_
    replace hp := hp.2
    refine g_blk hz0 kX9_pile_17 ?_
    refine g_le (L2 := [some (.ref 0), some (.int x), some (.int y), some (.int i), some (.int 0), some (.int 0), none, none]) ⟨rfl, rfl, rfl, rfl, rfl, rfl, trivial⟩ ?_
    exact l_X9_pile_23 sc zq 40 (f_X9_lays m) x y i 0 0 hp hq
  · rw [if_neg (show ¬ ((-1) ≤ i) from c1)] at hq
    replace hp := hp.2 c1
    refine g_blk hz0 kX9_pile_5 ?_
    refine cV [0, 1, 2, 3, 4, 5, 6, 7, 8, 9, 10, 11, 12, 13, 14, 15, 16] (wM m) (s_X9_refuses m 0 (-10) hp.1) rfl cwX9_refuses dX9_pile_9 rfl rfl (hm0_M_M _) rfl (wM ((f_X9_refuses m 0 (-10)).2)) (pw0_M_M _ _) ?_
    replace hp := hp.2
    refine g_blk hz0 kX9_pile_12 ?_
    subst hq
    exact ⟨fun h => (by cases h), rfl, rfl⟩

def f_X9_isHere (m : Rec) (m1 : Int32) : Int32 := if (f_X9_in (Int32.toInt64 m1) 0 (Int32.toInt64 (((m.2 0) 2) - 1))) = 0 then 0 else (if ((m.2 0) (Int32.toNatClampNeg (8 + m1))) = (-1) then 0 else 1)
def p_X9_isHere (m : Rec) (m1 : Int32) : Prop := ((f_X9_in (Int32.toInt64 m1) 0 (Int32.toInt64 (((m.2 0) 2) - 1))) = 0 → True) ∧ (¬ ((f_X9_in (Int32.toInt64 m1) 0 (Int32.toInt64 (((m.2 0) 2) - 1))) = 0) → (vp_in (8 + m1) 248 ∧ True))
theorem z_X9_isHere (m : Rec) (m1 : Int32) : (f_X9_isHere m m1) = 0 ∨ (f_X9_isHere m m1) = 1 := by
  unfold f_X9_isHere
  repeat' split
  all_goals first | exact Or.inl rfl | exact Or.inr rfl | apply z_any <;> assumption
set_option maxHeartbeats 16000000 in
set_option maxRecDepth 20000 in
theorem s_X9_isHere (m : Rec) (m1 : Int32) (hp : p_X9_isHere m m1) : Spec 1 0 0 mX9_isHere [.ref 0, .int m1] (wM m) (Ret (some (.int ((f_X9_isHere m m1)))) (wM m)) := by
  obtain ⟨zq, hq⟩ : ∃ z, z = (f_X9_isHere m m1) := ⟨_, rfl⟩
  rw [← hq]
  unfold f_X9_isHere at hq
  unfold p_X9_isHere at hp
  refine Sof fun sc => ?_
  refine g_blk hz0 kX9_isHere_0 ?_
  refine ⟨vinL (by decide), ?_⟩
  refine cS0 (s_X9_in (Int32.toInt64 m1) 0 (Int32.toInt64 (((m.2 0) 2) - 1))) rfl cwX9_in dX9_isHere_12 rfl ?_
  refine g_blk hz0 kX9_isHere_15 ?_
  refine ⟨fun c1 => ?_, fun c1 => ?_⟩
  · rw [if_pos (show (f_X9_in (Int32.toInt64 m1) 0 (Int32.toInt64 (((m.2 0) 2) - 1))) = 0 from c1)] at hq
    refine g_blk hz0 kX9_isHere_35 ?_
    refine g_blk hz0 kX9_isHere_36 ?_
    subst hq
    exact ⟨fun _ => Or.inl rfl, rfl, rfl⟩
  · rw [if_neg (show ¬ ((f_X9_in (Int32.toInt64 m1) 0 (Int32.toInt64 (((m.2 0) 2) - 1))) = 0) from c1)] at hq
    replace hp := hp.2 c1
    refine g_blk hz0 kX9_isHere_18 ?_
    refine ⟨hp.1, ?_⟩
    replace hp := hp.2
    refine ⟨fun c2 => ?_, fun c2 => ?_⟩
    · rw [if_pos (show ((m.2 0) (Int32.toNatClampNeg (8 + m1))) = (-1) from c2)] at hq
      refine g_blk hz0 kX9_isHere_35 ?_
      refine g_blk hz0 kX9_isHere_36 ?_
      subst hq
      exact ⟨fun _ => Or.inl rfl, rfl, rfl⟩
    · rw [if_neg (show ¬ (((m.2 0) (Int32.toNatClampNeg (8 + m1))) = (-1)) from c2)] at hq
      refine g_blk hz0 kX9_isHere_31 ?_
      refine g_blk hz0 kX9_isHere_36 ?_
      subst hq
      exact ⟨fun _ => Or.inr rfl, rfl, rfl⟩

def f_X9_ownerOf (m : Rec) (m1 : Int32) : Int32 := ((m.2 0) (Int32.toNatClampNeg ((28 + (3 * m1)) + 1)))
def p_X9_ownerOf (m : Rec) (m1 : Int32) : Prop := vp_in ((28 + (3 * m1)) + 1) 248 ∧ True
set_option maxHeartbeats 16000000 in
set_option maxRecDepth 20000 in
theorem s_X9_ownerOf (m : Rec) (m1 : Int32) (hp : p_X9_ownerOf m m1) : Spec 0 0 0 mX9_ownerOf [.ref 0, .int m1] (wM m) (Ret (some (.int ((f_X9_ownerOf m m1)))) (wM m)) := by
  obtain ⟨zq, hq⟩ : ∃ z, z = (f_X9_ownerOf m m1) := ⟨_, rfl⟩
  rw [← hq]
  unfold f_X9_ownerOf at hq
  unfold p_X9_ownerOf at hp
  refine Sof fun sc => ?_
  refine g_blk hz0 kX9_ownerOf_0 ?_
  refine ⟨hp.1, ?_⟩
  replace hp := hp.2
  subst hq
  exact ⟨fun h => (by cases h), rfl, rfl⟩

def f_X9_strengthOf (m : Rec) (m1 : Int32) : Int32 := if ((m.2 7) (Int32.toNatClampNeg ((m.2 0) (Int32.toNatClampNeg (8 + m1))))) = 0 then (if ((m.2 0) (Int32.toNatClampNeg (28 + (3 * m1)))) = 1 then (((m.2 0) (Int32.toNatClampNeg ((28 + (3 * m1)) + 2))) + 2) else (if ((m.2 0) (Int32.toNatClampNeg (28 + (3 * m1)))) = 2 then (if ((m.2 7) (Int32.toNatClampNeg ((m.2 0) (Int32.toNatClampNeg (8 + m1))))) = 0 then ((m.2 0) (Int32.toNatClampNeg ((28 + (3 * m1)) + 2))) else (((m.2 0) (Int32.toNatClampNeg ((28 + (3 * m1)) + 2))) + 3)) else (if ((m.2 0) (Int32.toNatClampNeg (28 + (3 * m1)))) = 3 then (2 * (((m.2 0) (Int32.toNatClampNeg ((28 + (3 * m1)) + 2))) + 2)) else ((m.2 0) (Int32.toNatClampNeg ((28 + (3 * m1)) + 2)))))) else (if ((m.2 0) (Int32.toNatClampNeg (28 + (3 * m1)))) = 1 then ((m.2 0) (Int32.toNatClampNeg ((28 + (3 * m1)) + 2))) else (if ((m.2 0) (Int32.toNatClampNeg (28 + (3 * m1)))) = 2 then (if ((m.2 7) (Int32.toNatClampNeg ((m.2 0) (Int32.toNatClampNeg (8 + m1))))) = 0 then ((m.2 0) (Int32.toNatClampNeg ((28 + (3 * m1)) + 2))) else (((m.2 0) (Int32.toNatClampNeg ((28 + (3 * m1)) + 2))) + 3)) else (if ((m.2 0) (Int32.toNatClampNeg (28 + (3 * m1)))) = 3 then (2 * ((m.2 0) (Int32.toNatClampNeg ((28 + (3 * m1)) + 2)))) else ((m.2 0) (Int32.toNatClampNeg ((28 + (3 * m1)) + 2))))))
def p_X9_strengthOf (m : Rec) (m1 : Int32) : Prop := vp_in (28 + (3 * m1)) 248 ∧ (vp_in ((28 + (3 * m1)) + 2) 248 ∧ (vp_in (8 + m1) 248 ∧ (vp_in ((m.2 0) (Int32.toNatClampNeg (8 + m1))) 36 ∧ True)))
set_option maxHeartbeats 16000000 in
set_option maxRecDepth 20000 in
theorem s_X9_strengthOf (m : Rec) (m1 : Int32) (hp : p_X9_strengthOf m m1) : Spec 0 0 0 mX9_strengthOf [.ref 0, .int m1] (wM m) (Ret (some (.int ((f_X9_strengthOf m m1)))) (wM m)) := by
  obtain ⟨zq, hq⟩ : ∃ z, z = (f_X9_strengthOf m m1) := ⟨_, rfl⟩
  rw [← hq]
  unfold f_X9_strengthOf at hq
  unfold p_X9_strengthOf at hp
  refine Sof fun sc => ?_
  refine g_blk hz0 kX9_strengthOf_0 ?_
  refine ⟨hp.1, ?_⟩
  replace hp := hp.2
  refine ⟨hp.1, ?_⟩
  replace hp := hp.2
  refine ⟨hp.1, ?_⟩
  replace hp := hp.2
  refine ⟨hp.1, ?_⟩
  replace hp := hp.2
  refine ⟨fun c1 => ?_, fun c1 => ?_⟩
  · rw [if_pos (show ((m.2 7) (Int32.toNatClampNeg ((m.2 0) (Int32.toNatClampNeg (8 + m1))))) = 0 from c1)] at hq
    refine g_blk hz0 kX9_strengthOf_51 ?_
    refine g_blk hz0 kX9_strengthOf_54 ?_
    refine ⟨fun c2 => ?_, fun c2 => ?_⟩
    · rw [if_neg (show ¬ (((m.2 0) (Int32.toNatClampNeg (28 + (3 * m1)))) = 1) from c2)] at hq
      refine g_blk hz0 kX9_strengthOf_66 ?_
      refine ⟨fun c3 => ?_, fun c3 => ?_⟩
      · rw [if_neg (show ¬ (((m.2 0) (Int32.toNatClampNeg (28 + (3 * m1)))) = 2) from c3)] at hq
        refine g_blk hz0 kX9_strengthOf_86 ?_
        refine ⟨fun c5 => ?_, fun c5 => ?_⟩
        · rw [if_neg (show ¬ (((m.2 0) (Int32.toNatClampNeg (28 + (3 * m1)))) = 3) from c5)] at hq
          refine g_blk hz0 kX9_strengthOf_98 ?_
          refine g_blk hz0 kX9_strengthOf_99 ?_
          subst hq
          exact ⟨fun h => (by cases h), rfl, rfl⟩
        · rw [if_pos (show ((m.2 0) (Int32.toNatClampNeg (28 + (3 * m1)))) = 3 from c5)] at hq
          refine g_blk hz0 kX9_strengthOf_91 ?_
          refine g_blk hz0 kX9_strengthOf_99 ?_
          subst hq
          exact ⟨fun h => (by cases h), rfl, rfl⟩
      · rw [if_pos (show ((m.2 0) (Int32.toNatClampNeg (28 + (3 * m1)))) = 2 from c3)] at hq
        refine g_blk hz0 kX9_strengthOf_71 ?_
        refine ⟨fun c4 => ?_, fun c4 => ?_⟩
        · rw [if_pos (show ((m.2 7) (Int32.toNatClampNeg ((m.2 0) (Int32.toNatClampNeg (8 + m1))))) = 0 from c4)] at hq
          refine g_blk hz0 kX9_strengthOf_82 ?_
          refine g_blk hz0 kX9_strengthOf_99 ?_
          subst hq
          exact ⟨fun h => (by cases h), rfl, rfl⟩
        · rw [if_neg (show ¬ (((m.2 7) (Int32.toNatClampNeg ((m.2 0) (Int32.toNatClampNeg (8 + m1))))) = 0) from c4)] at hq
          refine g_blk hz0 kX9_strengthOf_76 ?_
          refine g_blk hz0 kX9_strengthOf_99 ?_
          subst hq
          exact ⟨fun h => (by cases h), rfl, rfl⟩
    · rw [if_pos (show ((m.2 0) (Int32.toNatClampNeg (28 + (3 * m1)))) = 1 from c2)] at hq
      refine g_blk hz0 kX9_strengthOf_61 ?_
      refine g_blk hz0 kX9_strengthOf_99 ?_
      subst hq
      exact ⟨fun h => (by cases h), rfl, rfl⟩
  · rw [if_neg (show ¬ (((m.2 7) (Int32.toNatClampNeg ((m.2 0) (Int32.toNatClampNeg (8 + m1))))) = 0) from c1)] at hq
    refine g_blk hz0 kX9_strengthOf_47 ?_
    refine g_blk hz0 kX9_strengthOf_54 ?_
    refine ⟨fun c6 => ?_, fun c6 => ?_⟩
    · rw [if_neg (show ¬ (((m.2 0) (Int32.toNatClampNeg (28 + (3 * m1)))) = 1) from c6)] at hq
      refine g_blk hz0 kX9_strengthOf_66 ?_
      refine ⟨fun c7 => ?_, fun c7 => ?_⟩
      · rw [if_neg (show ¬ (((m.2 0) (Int32.toNatClampNeg (28 + (3 * m1)))) = 2) from c7)] at hq
        refine g_blk hz0 kX9_strengthOf_86 ?_
        refine ⟨fun c9 => ?_, fun c9 => ?_⟩
        · rw [if_neg (show ¬ (((m.2 0) (Int32.toNatClampNeg (28 + (3 * m1)))) = 3) from c9)] at hq
          refine g_blk hz0 kX9_strengthOf_98 ?_
          refine g_blk hz0 kX9_strengthOf_99 ?_
          subst hq
          exact ⟨fun h => (by cases h), rfl, rfl⟩
        · rw [if_pos (show ((m.2 0) (Int32.toNatClampNeg (28 + (3 * m1)))) = 3 from c9)] at hq
          refine g_blk hz0 kX9_strengthOf_91 ?_
          refine g_blk hz0 kX9_strengthOf_99 ?_
          subst hq
          exact ⟨fun h => (by cases h), rfl, rfl⟩
      · rw [if_pos (show ((m.2 0) (Int32.toNatClampNeg (28 + (3 * m1)))) = 2 from c7)] at hq
        refine g_blk hz0 kX9_strengthOf_71 ?_
        refine ⟨fun c8 => ?_, fun c8 => ?_⟩
        · rw [if_pos (show ((m.2 7) (Int32.toNatClampNeg ((m.2 0) (Int32.toNatClampNeg (8 + m1))))) = 0 from c8)] at hq
          refine g_blk hz0 kX9_strengthOf_82 ?_
          refine g_blk hz0 kX9_strengthOf_99 ?_
          subst hq
          exact ⟨fun h => (by cases h), rfl, rfl⟩
        · rw [if_neg (show ¬ (((m.2 7) (Int32.toNatClampNeg ((m.2 0) (Int32.toNatClampNeg (8 + m1))))) = 0) from c8)] at hq
          refine g_blk hz0 kX9_strengthOf_76 ?_
          refine g_blk hz0 kX9_strengthOf_99 ?_
          subst hq
          exact ⟨fun h => (by cases h), rfl, rfl⟩
    · rw [if_pos (show ((m.2 0) (Int32.toNatClampNeg (28 + (3 * m1)))) = 1 from c6)] at hq
      refine g_blk hz0 kX9_strengthOf_61 ?_
      refine g_blk hz0 kX9_strengthOf_99 ?_
      subst hq
      exact ⟨fun h => (by cases h), rfl, rfl⟩

def f_X9_strength (m : Rec) (m1 : Int32) : Int32 × Rec := if (f_X9_isHere m m1) = 0 then (((f_X9_bad m).1), ((f_X9_bad m).2)) else ((f_X9_strengthOf (f_X9_lays m) m1), (f_X9_lays m))
def p_X9_strength (m : Rec) (m1 : Int32) : Prop := (p_X9_isHere m m1) ∧ (((f_X9_isHere m m1) = 0 → ((p_X9_bad m) ∧ True)) ∧ (¬ ((f_X9_isHere m m1) = 0) → ((p_X9_lays m) ∧ ((p_X9_strengthOf (f_X9_lays m) m1) ∧ True))))
set_option maxHeartbeats 16000000 in
set_option maxRecDepth 20000 in
theorem s_X9_strength (m : Rec) (m1 : Int32) (hp : p_X9_strength m m1) : Spec 4 0 0 mX9_strength [.ref 0, .int m1] (wM m) (Ret (some (.int ((f_X9_strength m m1).1))) (wM ((f_X9_strength m m1).2))) := by
  obtain ⟨zq, hq⟩ : ∃ z, z = (f_X9_strength m m1) := ⟨_, rfl⟩
  rw [← hq]
  unfold f_X9_strength at hq
  unfold p_X9_strength at hp
  refine Sof fun sc => ?_
  refine g_blk hz0 kX9_strength_0 ?_
  refine cVp [0, 1, 2, 3, 4, 5, 6, 7, 8, 9, 10, 11, 12, 13, 14, 15, 16] (wM m) (s_X9_isHere m m1 hp.1) rfl cwX9_isHere dX9_strength_2 rfl rfl (hm0_M_M _) ?_
  replace hp := hp.2
  refine g_blk hz0 kX9_strength_5 ?_
  refine ⟨fun c1 => ?_, fun c1 => ?_⟩
  · rw [if_neg (show ¬ ((f_X9_isHere m m1) = 0) from c1)] at hq
    replace hp := hp.2 c1
    refine g_blk hz0 kX9_strength_13 ?_
    refine cV [0, 1, 2, 3, 4, 5, 6, 7, 8, 9, 10, 11, 12, 13, 14, 15, 16] (wM m) (s_X9_lays m hp.1) rfl cwX9_lays dX9_strength_14 rfl rfl (hm0_M_M _) rfl (wM (f_X9_lays m)) (pw0_M_M _ _) ?_
    replace hp := hp.2
    refine g_blk hz0 kX9_strength_17 ?_
    refine cVp [0, 1, 2, 3, 4, 5, 6, 7, 8, 9, 10, 11, 12, 13, 14, 15, 16] (wM (f_X9_lays m)) (s_X9_strengthOf (f_X9_lays m) m1 hp.1) rfl cwX9_strengthOf dX9_strength_19 rfl rfl (hm0_M_M _) ?_
    replace hp := hp.2
    refine g_blk hz0 kX9_strength_22 ?_
    subst hq
    exact ⟨fun h => (by cases h), rfl, rfl⟩
  · rw [if_pos (show (f_X9_isHere m m1) = 0 from c1)] at hq
    replace hp := hp.1 c1
    refine g_blk hz0 kX9_strength_8 ?_
    refine cV [0, 1, 2, 3, 4, 5, 6, 7, 8, 9, 10, 11, 12, 13, 14, 15, 16] (wM m) (s_X9_bad m hp.1) rfl cwX9_bad dX9_strength_9 rfl rfl (hm0_M_M _) rfl (wM ((f_X9_bad m).2)) (pw0_M_M _ _) ?_
    replace hp := hp.2
    refine g_blk hz0 kX9_strength_12 ?_
    subst hq
    exact ⟨fun h => (by cases h), rfl, rfl⟩

def f_X9_rulerAt_54 (K5 : Rec → Int32 → Int32 → Int32 → Int32 → Int32) (m : Rec) (v1 : Int32) (v2 : Int32) (v3 : Int32) (v4 : Int32) (u0 : Int32) : Int32 := if u0 = 0 then (if (f_X9_strengthOf m v3) < (f_X9_strengthOf m v4) then (K5 m v1 v2 v4 (v4 + 1)) else (if (f_X9_strengthOf m v4) = (f_X9_strengthOf m v3) then (if ((m.2 6) (Int32.toNatClampNeg ((m.2 0) (Int32.toNatClampNeg (8 + v4))))) ≤ ((m.2 6) (Int32.toNatClampNeg ((m.2 0) (Int32.toNatClampNeg (8 + v3))))) then (K5 m v1 v2 v3 (v4 + 1)) else (K5 m v1 v2 v4 (v4 + 1))) else (K5 m v1 v2 v3 (v4 + 1)))) else (if u0 = 0 then (K5 m v1 v2 v3 (v4 + 1)) else (K5 m v1 v2 v4 (v4 + 1)))
def p_X9_rulerAt_54 (G5 : Rec → Int32 → Int32 → Int32 → Int32 → Prop) (m : Rec) (v1 : Int32) (v2 : Int32) (v3 : Int32) (v4 : Int32) (u0 : Int32) : Prop := (u0 = 0 → ((p_X9_strengthOf m v4) ∧ ((p_X9_strengthOf m v3) ∧ (((f_X9_strengthOf m v3) < (f_X9_strengthOf m v4) → (G5 m v1 v2 v4 (v4 + 1))) ∧ (¬ ((f_X9_strengthOf m v3) < (f_X9_strengthOf m v4)) → (((f_X9_strengthOf m v4) = (f_X9_strengthOf m v3) → (vp_in (8 + v4) 248 ∧ (vp_in ((m.2 0) (Int32.toNatClampNeg (8 + v4))) 36 ∧ (vp_in (8 + v3) 248 ∧ (vp_in ((m.2 0) (Int32.toNatClampNeg (8 + v3))) 36 ∧ ((((m.2 6) (Int32.toNatClampNeg ((m.2 0) (Int32.toNatClampNeg (8 + v4))))) ≤ ((m.2 6) (Int32.toNatClampNeg ((m.2 0) (Int32.toNatClampNeg (8 + v3))))) → (G5 m v1 v2 v3 (v4 + 1))) ∧ (¬ (((m.2 6) (Int32.toNatClampNeg ((m.2 0) (Int32.toNatClampNeg (8 + v4))))) ≤ ((m.2 6) (Int32.toNatClampNeg ((m.2 0) (Int32.toNatClampNeg (8 + v3)))))) → (G5 m v1 v2 v4 (v4 + 1))))))))) ∧ (¬ ((f_X9_strengthOf m v4) = (f_X9_strengthOf m v3)) → (G5 m v1 v2 v3 (v4 + 1))))))))) ∧ (¬ (u0 = 0) → ((u0 = 0 → (G5 m v1 v2 v3 (v4 + 1))) ∧ (¬ (u0 = 0) → (G5 m v1 v2 v4 (v4 + 1)))))
set_option maxHeartbeats 16000000 in
set_option maxRecDepth 20000 in
theorem l_X9_rulerAt_54 (sc : SC) (m : Rec) {K5 : Rec → Int32 → Int32 → Int32 → Int32 → Int32} {G5 : Rec → Int32 → Int32 → Int32 → Int32 → Prop} (zq : Int32) (hK5 : ∀ (v1 : Int32) (v2 : Int32) (v3 : Int32) (v4 : Int32), G5 m v1 v2 v3 v4 → zq = K5 m v1 v2 v3 v4 → Good sc 3 0 0 17 mX9_rulerAt (Ret (some (.int (zq))) (wM m)) 0 0 5 [some (.ref 0), some (.int v1), some (.int v2), some (.int v3), some (.int v4), none, none, none] [] (wM m))  (v1 : Int32) (v2 : Int32) (v3 : Int32) (v4 : Int32) (u0 : Int32) (hp : p_X9_rulerAt_54 G5 m v1 v2 v3 v4 u0) (hq : zq = f_X9_rulerAt_54 K5 m v1 v2 v3 v4 u0) : Good sc 3 0 0 17 mX9_rulerAt (Ret (some (.int (zq))) (wM m)) 0 0 54 [some (.ref 0), some (.int v1), some (.int v2), some (.int v3), some (.int v4), none, none, none] [.int u0] (wM m) := by
  unfold p_X9_rulerAt_54 at hp
  unfold f_X9_rulerAt_54 at hq
  refine g_blk hz0 kX9_rulerAt_54 ?_
  refine ⟨fun c5 => ?_, fun c5 => ?_⟩
  · rw [if_neg (show ¬ (u0 = 0) from c5)] at hq
    replace hp := hp.2 c5
    refine g_blk hz0 kX9_rulerAt_129 ?_
    refine ⟨fun c9 => ?_, fun c9 => ?_⟩
    · rw [if_pos (show u0 = 0 from c9)] at hq
      replace hp := hp.1 c9
      refine g_blk hz0 kX9_rulerAt_139 ?_
      refine g_blk hz0 kX9_rulerAt_140 ?_
      refine g_blk hz0 kX9_rulerAt_141 ?_
      refine g_le (L2 := [some (.ref 0), some (.int v1), some (.int v2), some (.int v3), some (.int (v4 + 1)), none, none, none]) ⟨rfl, rfl, rfl, rfl, rfl, trivial⟩ ?_
      exact hK5 v1 v2 v3 (v4 + 1) hp hq
    · rw [if_neg (show ¬ (u0 = 0) from c9)] at hq
      replace hp := hp.2 c9
      refine g_blk hz0 kX9_rulerAt_134 ?_
      refine g_blk hz0 kX9_rulerAt_140 ?_
      refine g_blk hz0 kX9_rulerAt_141 ?_
      refine g_le (L2 := [some (.ref 0), some (.int v1), some (.int v2), some (.int v4), some (.int (v4 + 1)), none, none, none]) ⟨rfl, rfl, rfl, rfl, rfl, trivial⟩ ?_
      exact hK5 v1 v2 v4 (v4 + 1) hp hq
  · rw [if_pos (show u0 = 0 from c5)] at hq
    replace hp := hp.1 c5
    refine g_blk hz0 kX9_rulerAt_61 ?_
    refine cVp [0, 1, 2, 3, 4, 5, 6, 7, 8, 9, 10, 11, 12, 13, 14, 15, 16] (wM m) (s_X9_strengthOf m v4 hp.1) rfl cwX9_strengthOf dX9_rulerAt_64 rfl rfl (hm0_M_M _) ?_
    replace hp := hp.2
    refine g_blk hz0 kX9_rulerAt_67 ?_
    refine cVp [0, 1, 2, 3, 4, 5, 6, 7, 8, 9, 10, 11, 12, 13, 14, 15, 16] (wM m) (s_X9_strengthOf m v3 hp.1) rfl cwX9_strengthOf dX9_rulerAt_71 rfl rfl (hm0_M_M _) ?_
    replace hp := hp.2
    refine g_blk hz0 kX9_rulerAt_74 ?_
    refine ⟨fun c6 => ?_, fun c6 => ?_⟩
    · rw [if_pos (show (f_X9_strengthOf m v3) < (f_X9_strengthOf m v4) from c6)] at hq
      replace hp := hp.1 c6
      refine g_blk hz0 kX9_rulerAt_122 ?_
      refine g_blk hz0 kX9_rulerAt_127 ?_
      refine g_blk hz0 kX9_rulerAt_129 ?_
      refine ⟨fun c => absurd c (by decide), fun _ => ?_⟩
      refine g_blk hz0 kX9_rulerAt_134 ?_
      refine g_blk hz0 kX9_rulerAt_140 ?_
      refine g_blk hz0 kX9_rulerAt_141 ?_
      refine g_le (L2 := [some (.ref 0), some (.int v1), some (.int v2), some (.int v4), some (.int (v4 + 1)), none, none, none]) ⟨rfl, rfl, rfl, rfl, rfl, trivial⟩ ?_
      exact hK5 v1 v2 v4 (v4 + 1) hp hq
    · rw [if_neg (show ¬ ((f_X9_strengthOf m v3) < (f_X9_strengthOf m v4)) from c6)] at hq
      replace hp := hp.2 c6
      refine g_blk hz0 kX9_rulerAt_83 ?_
      refine ⟨fun c7 => ?_, fun c7 => ?_⟩
      · rw [if_neg (show ¬ ((f_X9_strengthOf m v4) = (f_X9_strengthOf m v3)) from c7)] at hq
        replace hp := hp.2 c7
        refine g_blk hz0 kX9_rulerAt_126 ?_
        refine g_blk hz0 kX9_rulerAt_127 ?_
        refine g_blk hz0 kX9_rulerAt_129 ?_
        refine ⟨fun _ => ?_, fun c => absurd c (by decide)⟩
        refine g_blk hz0 kX9_rulerAt_139 ?_
        refine g_blk hz0 kX9_rulerAt_140 ?_
        refine g_blk hz0 kX9_rulerAt_141 ?_
        refine g_le (L2 := [some (.ref 0), some (.int v1), some (.int v2), some (.int v3), some (.int (v4 + 1)), none, none, none]) ⟨rfl, rfl, rfl, rfl, rfl, trivial⟩ ?_
        exact hK5 v1 v2 v3 (v4 + 1) hp hq
      · rw [if_pos (show (f_X9_strengthOf m v4) = (f_X9_strengthOf m v3) from c7)] at hq
        replace hp := hp.1 c7
        refine g_blk hz0 kX9_rulerAt_90 ?_
        refine ⟨hp.1, ?_⟩
        replace hp := hp.2
        refine ⟨hp.1, ?_⟩
        replace hp := hp.2
        refine ⟨hp.1, ?_⟩
        replace hp := hp.2
        refine ⟨hp.1, ?_⟩
        replace hp := hp.2
        refine ⟨fun c8 => ?_, fun c8 => ?_⟩
        · rw [if_pos (show ((m.2 6) (Int32.toNatClampNeg ((m.2 0) (Int32.toNatClampNeg (8 + v4))))) ≤ ((m.2 6) (Int32.toNatClampNeg ((m.2 0) (Int32.toNatClampNeg (8 + v3))))) from c8)] at hq
          replace hp := hp.1 c8
          refine g_blk hz0 kX9_rulerAt_126 ?_
          refine g_blk hz0 kX9_rulerAt_127 ?_
          refine g_blk hz0 kX9_rulerAt_129 ?_
          refine ⟨fun _ => ?_, fun c => absurd c (by decide)⟩
          refine g_blk hz0 kX9_rulerAt_139 ?_
          refine g_blk hz0 kX9_rulerAt_140 ?_
          refine g_blk hz0 kX9_rulerAt_141 ?_
          refine g_le (L2 := [some (.ref 0), some (.int v1), some (.int v2), some (.int v3), some (.int (v4 + 1)), none, none, none]) ⟨rfl, rfl, rfl, rfl, rfl, trivial⟩ ?_
          exact hK5 v1 v2 v3 (v4 + 1) hp hq
        · rw [if_neg (show ¬ (((m.2 6) (Int32.toNatClampNeg ((m.2 0) (Int32.toNatClampNeg (8 + v4))))) ≤ ((m.2 6) (Int32.toNatClampNeg ((m.2 0) (Int32.toNatClampNeg (8 + v3)))))) from c8)] at hq
          replace hp := hp.2 c8
          refine g_blk hz0 kX9_rulerAt_122 ?_
          refine g_blk hz0 kX9_rulerAt_127 ?_
          refine g_blk hz0 kX9_rulerAt_129 ?_
          refine ⟨fun c => absurd c (by decide), fun _ => ?_⟩
          refine g_blk hz0 kX9_rulerAt_134 ?_
          refine g_blk hz0 kX9_rulerAt_140 ?_
          refine g_blk hz0 kX9_rulerAt_141 ?_
          refine g_le (L2 := [some (.ref 0), some (.int v1), some (.int v2), some (.int v4), some (.int (v4 + 1)), none, none, none]) ⟨rfl, rfl, rfl, rfl, rfl, trivial⟩ ?_
          exact hK5 v1 v2 v4 (v4 + 1) hp hq
def f_X9_rulerAt_5  : Nat → Rec → Int32 → Int32 → Int32 → Int32 → Int32
  | 0, m, v1, v2, v3, v4 => 0
  | n + 1, m, v1, v2, v3, v4 => if ((m.2 0) 2) ≤ v4 then v3 else (if (f_X9_isHere m v4) = 0 then (f_X9_rulerAt_5 n m v1 v2 v3 (v4 + 1)) else (if (f_X9_isAt m ((m.2 0) (Int32.toNatClampNeg (8 + v4))) v1 v2) = 0 then (f_X9_rulerAt_5 n m v1 v2 v3 (v4 + 1)) else (if v3 = (-1) then (f_X9_rulerAt_54 (f_X9_rulerAt_5 n) m v1 v2 v3 v4 1) else (f_X9_rulerAt_54 (f_X9_rulerAt_5 n) m v1 v2 v3 v4 0))))
def p_X9_rulerAt_5  : Nat → Rec → Int32 → Int32 → Int32 → Int32 → Prop
  | 0, _, _, _, _, _ => False
  | n + 1, m, v1, v2, v3, v4 => (((m.2 0) 2) ≤ v4 → True) ∧ (¬ (((m.2 0) 2) ≤ v4) → ((p_X9_isHere m v4) ∧ (((f_X9_isHere m v4) = 0 → (p_X9_rulerAt_5 n m v1 v2 v3 (v4 + 1))) ∧ (¬ ((f_X9_isHere m v4) = 0) → (vp_in (8 + v4) 248 ∧ ((p_X9_isAt m ((m.2 0) (Int32.toNatClampNeg (8 + v4))) v1 v2) ∧ (((f_X9_isAt m ((m.2 0) (Int32.toNatClampNeg (8 + v4))) v1 v2) = 0 → (p_X9_rulerAt_5 n m v1 v2 v3 (v4 + 1))) ∧ (¬ ((f_X9_isAt m ((m.2 0) (Int32.toNatClampNeg (8 + v4))) v1 v2) = 0) → ((v3 = (-1) → (p_X9_rulerAt_54 (p_X9_rulerAt_5 n) m v1 v2 v3 v4 1)) ∧ (¬ (v3 = (-1)) → (p_X9_rulerAt_54 (p_X9_rulerAt_5 n) m v1 v2 v3 v4 0)))))))))))
set_option maxHeartbeats 16000000 in
set_option maxRecDepth 20000 in
theorem l_X9_rulerAt_5 (sc : SC) (m : Rec)  (zq : Int32)  : ∀ (n : Nat)  (v1 : Int32) (v2 : Int32) (v3 : Int32) (v4 : Int32), p_X9_rulerAt_5 n m v1 v2 v3 v4 → zq = f_X9_rulerAt_5 n m v1 v2 v3 v4 → Good sc 3 0 0 17 mX9_rulerAt (Ret (some (.int (zq))) (wM m)) 0 0 5 [some (.ref 0), some (.int v1), some (.int v2), some (.int v3), some (.int v4), none, none, none] [] (wM m) := by
  intro n
  induction n with
  | zero => intro v1 v2 v3 v4 hp; exact hp.elim
  | succ n ih =>
    intro v1 v2 v3 v4 hp hq
    unfold p_X9_rulerAt_5 at hp
    unfold f_X9_rulerAt_5 at hq
    refine g_blk hz0 kX9_rulerAt_5 ?_
    refine ⟨vinL (by decide), ?_⟩
    refine ⟨fun c1 => ?_, fun c1 => ?_⟩
    · rw [if_pos (show ((m.2 0) 2) ≤ v4 from c1)] at hq
      refine g_blk hz0 kX9_rulerAt_147 ?_
      subst hq
      exact ⟨fun h => (by cases h), rfl, rfl⟩
    · rw [if_neg (show ¬ (((m.2 0) 2) ≤ v4) from c1)] at hq
      replace hp := hp.2 c1
      refine g_blk hz0 kX9_rulerAt_16 ?_
      refine cVp [0, 1, 2, 3, 4, 5, 6, 7, 8, 9, 10, 11, 12, 13, 14, 15, 16] (wM m) (s_X9_isHere m v4 hp.1) rfl cwX9_isHere dX9_rulerAt_19 rfl rfl (hm0_M_M _) ?_
      replace hp := hp.2
      refine g_blk hz0 kX9_rulerAt_22 ?_
      refine ⟨fun c2 => ?_, fun c2 => ?_⟩
      · rw [if_pos (show (f_X9_isHere m v4) = 0 from c2)] at hq
        replace hp := hp.1 c2
        refine g_blk hz0 kX9_rulerAt_141 ?_
        refine g_le (L2 := [some (.ref 0), some (.int v1), some (.int v2), some (.int v3), some (.int (v4 + 1)), none, none, none]) ⟨rfl, rfl, rfl, rfl, rfl, trivial⟩ ?_
        exact ih v1 v2 v3 (v4 + 1) hp hq
      · rw [if_neg (show ¬ ((f_X9_isHere m v4) = 0) from c2)] at hq
        replace hp := hp.2 c2
        refine g_blk hz0 kX9_rulerAt_25 ?_
        refine ⟨hp.1, ?_⟩
        replace hp := hp.2
        refine cVp [0, 1, 2, 3, 4, 5, 6, 7, 8, 9, 10, 11, 12, 13, 14, 15, 16] (wM m) (s_X9_isAt m ((m.2 0) (Int32.toNatClampNeg (8 + v4))) v1 v2 hp.1) rfl cwX9_isAt dX9_rulerAt_38 rfl rfl (hm0_M_M _) ?_
        replace hp := hp.2
        refine g_blk hz0 kX9_rulerAt_41 ?_
        refine ⟨fun c3 => ?_, fun c3 => ?_⟩
        · rw [if_pos (show (f_X9_isAt m ((m.2 0) (Int32.toNatClampNeg (8 + v4))) v1 v2) = 0 from c3)] at hq
          replace hp := hp.1 c3
          refine g_blk hz0 kX9_rulerAt_141 ?_
          refine g_le (L2 := [some (.ref 0), some (.int v1), some (.int v2), some (.int v3), some (.int (v4 + 1)), none, none, none]) ⟨rfl, rfl, rfl, rfl, rfl, trivial⟩ ?_
          exact ih v1 v2 v3 (v4 + 1) hp hq
        · rw [if_neg (show ¬ ((f_X9_isAt m ((m.2 0) (Int32.toNatClampNeg (8 + v4))) v1 v2) = 0) from c3)] at hq
          replace hp := hp.2 c3
          refine g_blk hz0 kX9_rulerAt_44 ?_
          refine ⟨fun c4 => ?_, fun c4 => ?_⟩
          · rw [if_neg (show ¬ (v3 = (-1)) from c4)] at hq
            replace hp := hp.2 c4
            refine g_blk hz0 kX9_rulerAt_53 ?_
            refine g_le (L2 := [some (.ref 0), some (.int v1), some (.int v2), some (.int v3), some (.int v4), none, none, none]) ⟨rfl, rfl, rfl, rfl, rfl, trivial⟩ ?_
            exact l_X9_rulerAt_54 sc m zq (fun r0 r1 r2 r3 hp hq => ih r0 r1 r2 r3 hp hq) v1 v2 v3 v4 0 hp hq
          · rw [if_pos (show v3 = (-1) from c4)] at hq
            replace hp := hp.1 c4
            refine g_blk hz0 kX9_rulerAt_49 ?_
            refine g_le (L2 := [some (.ref 0), some (.int v1), some (.int v2), some (.int v3), some (.int v4), none, none, none]) ⟨rfl, rfl, rfl, rfl, rfl, trivial⟩ ?_
            exact l_X9_rulerAt_54 sc m zq (fun r0 r1 r2 r3 hp hq => ih r0 r1 r2 r3 hp hq) v1 v2 v3 v4 1 hp hq
def f_X9_rulerAt (m : Rec) (x : Int32) (y : Int32) : Int32 := (f_X9_rulerAt_5 40 m x y (-1) 0)
def p_X9_rulerAt (m : Rec) (x : Int32) (y : Int32) : Prop := (p_X9_rulerAt_5 40 m x y (-1) 0)
set_option maxHeartbeats 16000000 in
set_option maxRecDepth 20000 in
theorem s_X9_rulerAt (m : Rec) (x : Int32) (y : Int32) (hp : p_X9_rulerAt m x y) : Spec 3 0 0 mX9_rulerAt [.ref 0, .int x, .int y] (wM m) (Ret (some (.int ((f_X9_rulerAt m x y)))) (wM m)) := by
  obtain ⟨zq, hq⟩ : ∃ z, z = (f_X9_rulerAt m x y) := ⟨_, rfl⟩
  rw [← hq]
  unfold f_X9_rulerAt at hq
  unfold p_X9_rulerAt at hp
  refine Sof fun sc => ?_
  refine g_blk hz0 kX9_rulerAt_0 ?_
  refine g_le (L2 := [some (.ref 0), some (.int x), some (.int y), some (.int (-1)), some (.int 0), none, none, none]) ⟨rfl, rfl, rfl, rfl, rfl, trivial⟩ ?_
  exact l_X9_rulerAt_5 sc m zq 40 x y (-1) 0 hp hq

def f_X9_ruler (m : Rec) (x : Int32) (y : Int32) : Int32 × Rec := ((f_X9_rulerAt (f_X9_lays m) x y), (f_X9_lays m))
def p_X9_ruler (m : Rec) (x : Int32) (y : Int32) : Prop := (p_X9_lays m) ∧ ((p_X9_rulerAt (f_X9_lays m) x y) ∧ True)
set_option maxHeartbeats 16000000 in
set_option maxRecDepth 20000 in
theorem s_X9_ruler (m : Rec) (x : Int32) (y : Int32) (hp : p_X9_ruler m x y) : Spec 4 0 0 mX9_ruler [.ref 0, .int x, .int y] (wM m) (Ret (some (.int ((f_X9_ruler m x y).1))) (wM ((f_X9_ruler m x y).2))) := by
  obtain ⟨zq, hq⟩ : ∃ z, z = (f_X9_ruler m x y) := ⟨_, rfl⟩
  rw [← hq]
  unfold f_X9_ruler at hq
  unfold p_X9_ruler at hp
  refine Sof fun sc => ?_
  refine g_blk hz0 kX9_ruler_0 ?_
  refine cV [0, 1, 2, 3, 4, 5, 6, 7, 8, 9, 10, 11, 12, 13, 14, 15, 16] (wM m) (s_X9_lays m hp.1) rfl cwX9_lays dX9_ruler_1 rfl rfl (hm0_M_M _) rfl (wM (f_X9_lays m)) (pw0_M_M _ _) ?_
  replace hp := hp.2
  refine g_blk hz0 kX9_ruler_4 ?_
  refine cVp [0, 1, 2, 3, 4, 5, 6, 7, 8, 9, 10, 11, 12, 13, 14, 15, 16] (wM (f_X9_lays m)) (s_X9_rulerAt (f_X9_lays m) x y hp.1) rfl cwX9_rulerAt dX9_ruler_7 rfl rfl (hm0_M_M _) ?_
  replace hp := hp.2
  refine g_blk hz0 kX9_ruler_10 ?_
  subst hq
  exact ⟨fun h => (by cases h), rfl, rfl⟩

def f_X9_where (m : Rec) (m1 : Int32) : Int32 × Rec := if (f_X9_in (Int32.toInt64 m1) 0 (Int32.toInt64 (((m.2 0) 2) - 1))) = 0 then (((f_X9_bad m).1), ((f_X9_bad m).2)) else (((m.2 0) (Int32.toNatClampNeg (8 + m1))), m)
def p_X9_where (m : Rec) (m1 : Int32) : Prop := ((f_X9_in (Int32.toInt64 m1) 0 (Int32.toInt64 (((m.2 0) 2) - 1))) = 0 → ((p_X9_bad m) ∧ True)) ∧ (¬ ((f_X9_in (Int32.toInt64 m1) 0 (Int32.toInt64 (((m.2 0) 2) - 1))) = 0) → (vp_in (8 + m1) 248 ∧ True))
set_option maxHeartbeats 16000000 in
set_option maxRecDepth 20000 in
theorem s_X9_where (m : Rec) (m1 : Int32) (hp : p_X9_where m m1) : Spec 2 0 0 mX9_where [.ref 0, .int m1] (wM m) (Ret (some (.int ((f_X9_where m m1).1))) (wM ((f_X9_where m m1).2))) := by
  obtain ⟨zq, hq⟩ : ∃ z, z = (f_X9_where m m1) := ⟨_, rfl⟩
  rw [← hq]
  unfold f_X9_where at hq
  unfold p_X9_where at hp
  refine Sof fun sc => ?_
  refine g_blk hz0 kX9_where_0 ?_
  refine ⟨vinL (by decide), ?_⟩
  refine cS0 (s_X9_in (Int32.toInt64 m1) 0 (Int32.toInt64 (((m.2 0) 2) - 1))) rfl cwX9_in dX9_where_12 rfl ?_
  refine g_blk hz0 kX9_where_15 ?_
  refine ⟨fun c1 => ?_, fun c1 => ?_⟩
  · rw [if_pos (show (f_X9_in (Int32.toInt64 m1) 0 (Int32.toInt64 (((m.2 0) 2) - 1))) = 0 from c1)] at hq
    replace hp := hp.1 c1
    refine g_blk hz0 kX9_where_30 ?_
    refine cV [0, 1, 2, 3, 4, 5, 6, 7, 8, 9, 10, 11, 12, 13, 14, 15, 16] (wM m) (s_X9_bad m hp.1) rfl cwX9_bad dX9_where_31 rfl rfl (hm0_M_M _) rfl (wM ((f_X9_bad m).2)) (pw0_M_M _ _) ?_
    replace hp := hp.2
    refine g_blk hz0 kX9_where_34 ?_
    subst hq
    exact ⟨fun h => (by cases h), rfl, rfl⟩
  · rw [if_neg (show ¬ ((f_X9_in (Int32.toInt64 m1) 0 (Int32.toInt64 (((m.2 0) 2) - 1))) = 0) from c1)] at hq
    replace hp := hp.2 c1
    refine g_blk hz0 kX9_where_18 ?_
    refine ⟨hp.1, ?_⟩
    replace hp := hp.2
    refine g_blk hz0 kX9_where_34 ?_
    subst hq
    exact ⟨fun h => (by cases h), rfl, rfl⟩

def f_X9_turn (m : Rec)  : Int32 := (((m.2 0) 26) - ((m.2 0) 26) / 2 * 2)
set_option maxHeartbeats 16000000 in
set_option maxRecDepth 20000 in
theorem s_X9_turn (m : Rec)  : Spec 0 0 0 mX9_turn [.ref 0] (wM m) (Ret (some (.int ((f_X9_turn m)))) (wM m)) := by
  obtain ⟨zq, hq⟩ : ∃ z, z = (f_X9_turn m) := ⟨_, rfl⟩
  rw [← hq]
  unfold f_X9_turn at hq
  refine Sof fun sc => ?_
  refine g_blk hz0 kX9_turn_0 ?_
  refine ⟨vinL (by decide), ?_⟩
  refine ⟨by decide, ?_⟩
  subst hq
  exact ⟨fun h => (by cases h), rfl, rfl⟩

def f_X9_won_116  (m : Rec) (v1 : Int32) (v2 : Int32) : Int32 := if v2 ≤ 0 then (-1) else (if v1 = 0 then 1 else (-1))
def p_X9_won_116  (m : Rec) (v1 : Int32) (v2 : Int32) : Prop := True
set_option maxHeartbeats 16000000 in
set_option maxRecDepth 20000 in
theorem l_X9_won_116 (sc : SC) (m : Rec)  (zq : Int32)   (v1 : Int32) (v2 : Int32) (hp : p_X9_won_116 m v1 v2) (hq : zq = f_X9_won_116 m v1 v2) : Good sc 2 0 0 17 mX9_won (Ret (some (.int (zq))) (wM m)) 0 0 116 [none, some (.int v1), some (.int v2), none, none] [] (wM m) := by
  unfold p_X9_won_116 at hp
  unfold f_X9_won_116 at hq
  refine g_blk hz0 kX9_won_116 ?_
  refine ⟨fun c7 => ?_, fun c7 => ?_⟩
  · rw [if_pos (show v2 ≤ 0 from c7)] at hq
    refine g_blk hz0 kX9_won_128 ?_
    refine g_blk hz0 kX9_won_129 ?_
    subst hq
    exact ⟨fun h => (by cases h), rfl, rfl⟩
  · rw [if_neg (show ¬ (v2 ≤ 0) from c7)] at hq
    refine g_blk hz0 kX9_won_120 ?_
    refine ⟨fun c8 => ?_, fun c8 => ?_⟩
    · rw [if_neg (show ¬ (v1 = 0) from c8)] at hq
      refine g_blk hz0 kX9_won_128 ?_
      refine g_blk hz0 kX9_won_129 ?_
      subst hq
      exact ⟨fun h => (by cases h), rfl, rfl⟩
    · rw [if_pos (show v1 = 0 from c8)] at hq
      refine g_blk hz0 kX9_won_124 ?_
      refine g_blk hz0 kX9_won_129 ?_
      subst hq
      exact ⟨fun h => (by cases h), rfl, rfl⟩
def f_X9_won_71 (K9 : Rec → Int32 → Int32 → Int32 → Int32 → Int32) (m : Rec) (v1 : Int32) (v3 : Int32) (v4 : Int32) (u0 : Int32) (u1 : Int32) : Int32 := if (f_X9_isHere m v4) = 0 then (K9 m v1 (u0 + u1) (v3 + 1) (v4 + 1)) else (K9 m v1 (u0 + u1) (v3 + 0) (v4 + 1))
def p_X9_won_71 (G9 : Rec → Int32 → Int32 → Int32 → Int32 → Prop) (m : Rec) (v1 : Int32) (v3 : Int32) (v4 : Int32) (u0 : Int32) (u1 : Int32) : Prop := (p_X9_isHere m v4) ∧ (((f_X9_isHere m v4) = 0 → (G9 m v1 (u0 + u1) (v3 + 1) (v4 + 1))) ∧ (¬ ((f_X9_isHere m v4) = 0) → (G9 m v1 (u0 + u1) (v3 + 0) (v4 + 1))))
set_option maxHeartbeats 16000000 in
set_option maxRecDepth 20000 in
theorem l_X9_won_71 (sc : SC) (m : Rec) {K9 : Rec → Int32 → Int32 → Int32 → Int32 → Int32} {G9 : Rec → Int32 → Int32 → Int32 → Int32 → Prop} (zq : Int32) (hK9 : ∀ (v1 : Int32) (v2 : Int32) (v3 : Int32) (v4 : Int32), G9 m v1 v2 v3 v4 → zq = K9 m v1 v2 v3 v4 → Good sc 2 0 0 17 mX9_won (Ret (some (.int (zq))) (wM m)) 0 0 9 [some (.ref 0), some (.int v1), some (.int v2), some (.int v3), some (.int v4)] [] (wM m))  (v1 : Int32) (v3 : Int32) (v4 : Int32) (u0 : Int32) (u1 : Int32) (hp : p_X9_won_71 G9 m v1 v3 v4 u0 u1) (hq : zq = f_X9_won_71 K9 m v1 v3 v4 u0 u1) : Good sc 2 0 0 17 mX9_won (Ret (some (.int (zq))) (wM m)) 0 0 71 [some (.ref 0), some (.int v1), none, some (.int v3), some (.int v4)] [.int u1, .int u0] (wM m) := by
  unfold p_X9_won_71 at hp
  unfold f_X9_won_71 at hq
  refine g_blk hz0 kX9_won_71 ?_
  refine cVp [0, 1, 2, 3, 4, 5, 6, 7, 8, 9, 10, 11, 12, 13, 14, 15, 16] (wM m) (s_X9_isHere m v4 hp.1) rfl cwX9_isHere dX9_won_77 rfl rfl (hm0_M_M _) ?_
  replace hp := hp.2
  refine g_blk hz0 kX9_won_80 ?_
  refine ⟨fun c11 => ?_, fun c11 => ?_⟩
  · rw [if_pos (show (f_X9_isHere m v4) = 0 from c11)] at hq
    replace hp := hp.1 c11
    refine g_blk hz0 kX9_won_87 ?_
    refine g_blk hz0 kX9_won_88 ?_
    refine g_le (L2 := [some (.ref 0), some (.int v1), some (.int (u0 + u1)), some (.int (v3 + 1)), some (.int (v4 + 1))]) ⟨rfl, rfl, rfl, rfl, rfl, trivial⟩ ?_
    exact hK9 v1 (u0 + u1) (v3 + 1) (v4 + 1) hp hq
  · rw [if_neg (show ¬ ((f_X9_isHere m v4) = 0) from c11)] at hq
    replace hp := hp.2 c11
    refine g_blk hz0 kX9_won_83 ?_
    refine g_blk hz0 kX9_won_88 ?_
    refine g_le (L2 := [some (.ref 0), some (.int v1), some (.int (u0 + u1)), some (.int (v3 + 0)), some (.int (v4 + 1))]) ⟨rfl, rfl, rfl, rfl, rfl, trivial⟩ ?_
    exact hK9 v1 (u0 + u1) (v3 + 0) (v4 + 1) hp hq
def f_X9_won_44 (K9 : Rec → Int32 → Int32 → Int32 → Int32 → Int32) (m : Rec) (v2 : Int32) (v3 : Int32) (v4 : Int32) (u0 : Int32) (u1 : Int32) : Int32 := if (f_X9_isHere m v4) = 0 then (f_X9_won_71 K9 m (u0 + u1) v3 v4 v2 0) else (if (f_X9_ownerOf m v4) = 1 then (f_X9_won_71 K9 m (u0 + u1) v3 v4 v2 1) else (f_X9_won_71 K9 m (u0 + u1) v3 v4 v2 0))
def p_X9_won_44 (G9 : Rec → Int32 → Int32 → Int32 → Int32 → Prop) (m : Rec) (v2 : Int32) (v3 : Int32) (v4 : Int32) (u0 : Int32) (u1 : Int32) : Prop := (p_X9_isHere m v4) ∧ (((f_X9_isHere m v4) = 0 → (p_X9_won_71 G9 m (u0 + u1) v3 v4 v2 0)) ∧ (¬ ((f_X9_isHere m v4) = 0) → ((p_X9_ownerOf m v4) ∧ (((f_X9_ownerOf m v4) = 1 → (p_X9_won_71 G9 m (u0 + u1) v3 v4 v2 1)) ∧ (¬ ((f_X9_ownerOf m v4) = 1) → (p_X9_won_71 G9 m (u0 + u1) v3 v4 v2 0))))))
set_option maxHeartbeats 16000000 in
set_option maxRecDepth 20000 in
theorem l_X9_won_44 (sc : SC) (m : Rec) {K9 : Rec → Int32 → Int32 → Int32 → Int32 → Int32} {G9 : Rec → Int32 → Int32 → Int32 → Int32 → Prop} (zq : Int32) (hK9 : ∀ (v1 : Int32) (v2 : Int32) (v3 : Int32) (v4 : Int32), G9 m v1 v2 v3 v4 → zq = K9 m v1 v2 v3 v4 → Good sc 2 0 0 17 mX9_won (Ret (some (.int (zq))) (wM m)) 0 0 9 [some (.ref 0), some (.int v1), some (.int v2), some (.int v3), some (.int v4)] [] (wM m))  (v2 : Int32) (v3 : Int32) (v4 : Int32) (u0 : Int32) (u1 : Int32) (hp : p_X9_won_44 G9 m v2 v3 v4 u0 u1) (hq : zq = f_X9_won_44 K9 m v2 v3 v4 u0 u1) : Good sc 2 0 0 17 mX9_won (Ret (some (.int (zq))) (wM m)) 0 0 44 [some (.ref 0), none, some (.int v2), some (.int v3), some (.int v4)] [.int u1, .int u0] (wM m) := by
  unfold p_X9_won_44 at hp
  unfold f_X9_won_44 at hq
  refine g_blk hz0 kX9_won_44 ?_
  refine cVp [0, 1, 2, 3, 4, 5, 6, 7, 8, 9, 10, 11, 12, 13, 14, 15, 16] (wM m) (s_X9_isHere m v4 hp.1) rfl cwX9_isHere dX9_won_50 rfl rfl (hm0_M_M _) ?_
  replace hp := hp.2
  refine g_blk hz0 kX9_won_53 ?_
  refine ⟨fun c9 => ?_, fun c9 => ?_⟩
  · rw [if_pos (show (f_X9_isHere m v4) = 0 from c9)] at hq
    replace hp := hp.1 c9
    refine g_blk hz0 kX9_won_70 ?_
    refine g_le (L2 := [some (.ref 0), some (.int (u0 + u1)), none, some (.int v3), some (.int v4)]) ⟨rfl, rfl, rfl, rfl, trivial⟩ ?_
    exact l_X9_won_71 sc m zq hK9 (u0 + u1) v3 v4 v2 0 hp hq
  · rw [if_neg (show ¬ ((f_X9_isHere m v4) = 0) from c9)] at hq
    replace hp := hp.2 c9
    refine g_blk hz0 kX9_won_56 ?_
    refine cVp [0, 1, 2, 3, 4, 5, 6, 7, 8, 9, 10, 11, 12, 13, 14, 15, 16] (wM m) (s_X9_ownerOf m v4 hp.1) rfl cwX9_ownerOf dX9_won_59 rfl rfl (hm0_M_M _) ?_
    replace hp := hp.2
    refine g_blk hz0 kX9_won_62 ?_
    refine ⟨fun c10 => ?_, fun c10 => ?_⟩
    · rw [if_neg (show ¬ ((f_X9_ownerOf m v4) = 1) from c10)] at hq
      replace hp := hp.2 c10
      refine g_blk hz0 kX9_won_70 ?_
      refine g_le (L2 := [some (.ref 0), some (.int (u0 + u1)), none, some (.int v3), some (.int v4)]) ⟨rfl, rfl, rfl, rfl, trivial⟩ ?_
      exact l_X9_won_71 sc m zq hK9 (u0 + u1) v3 v4 v2 0 hp hq
    · rw [if_pos (show (f_X9_ownerOf m v4) = 1 from c10)] at hq
      replace hp := hp.1 c10
      refine g_blk hz0 kX9_won_66 ?_
      refine g_le (L2 := [some (.ref 0), some (.int (u0 + u1)), none, some (.int v3), some (.int v4)]) ⟨rfl, rfl, rfl, rfl, trivial⟩ ?_
      exact l_X9_won_71 sc m zq hK9 (u0 + u1) v3 v4 v2 1 hp hq
def f_X9_won_9  : Nat → Rec → Int32 → Int32 → Int32 → Int32 → Int32
  | 0, m, v1, v2, v3, v4 => 0
  | n + 1, m, v1, v2, v3, v4 => if ((m.2 0) 2) ≤ v4 then (if v3 = 0 then (-1) else (if v1 ≤ 0 then (f_X9_won_116 m v1 v2) else (if v2 = 0 then 0 else (f_X9_won_116 m v1 v2)))) else (if (f_X9_isHere m v4) = 0 then (f_X9_won_44 (f_X9_won_9 n) m v2 v3 v4 v1 0) else (if (f_X9_ownerOf m v4) = 0 then (f_X9_won_44 (f_X9_won_9 n) m v2 v3 v4 v1 1) else (f_X9_won_44 (f_X9_won_9 n) m v2 v3 v4 v1 0)))
def p_X9_won_9  : Nat → Rec → Int32 → Int32 → Int32 → Int32 → Prop
  | 0, _, _, _, _, _ => False
  | n + 1, m, v1, v2, v3, v4 => (((m.2 0) 2) ≤ v4 → ((v3 = 0 → True) ∧ (¬ (v3 = 0) → ((v1 ≤ 0 → (p_X9_won_116 m v1 v2)) ∧ (¬ (v1 ≤ 0) → ((v2 = 0 → True) ∧ (¬ (v2 = 0) → (p_X9_won_116 m v1 v2)))))))) ∧ (¬ (((m.2 0) 2) ≤ v4) → ((p_X9_isHere m v4) ∧ (((f_X9_isHere m v4) = 0 → (p_X9_won_44 (p_X9_won_9 n) m v2 v3 v4 v1 0)) ∧ (¬ ((f_X9_isHere m v4) = 0) → ((p_X9_ownerOf m v4) ∧ (((f_X9_ownerOf m v4) = 0 → (p_X9_won_44 (p_X9_won_9 n) m v2 v3 v4 v1 1)) ∧ (¬ ((f_X9_ownerOf m v4) = 0) → (p_X9_won_44 (p_X9_won_9 n) m v2 v3 v4 v1 0))))))))
set_option maxHeartbeats 16000000 in
set_option maxRecDepth 20000 in
theorem l_X9_won_9 (sc : SC) (m : Rec)  (zq : Int32)  : ∀ (n : Nat)  (v1 : Int32) (v2 : Int32) (v3 : Int32) (v4 : Int32), p_X9_won_9 n m v1 v2 v3 v4 → zq = f_X9_won_9 n m v1 v2 v3 v4 → Good sc 2 0 0 17 mX9_won (Ret (some (.int (zq))) (wM m)) 0 0 9 [some (.ref 0), some (.int v1), some (.int v2), some (.int v3), some (.int v4)] [] (wM m) := by
  intro n
  induction n with
  | zero => intro v1 v2 v3 v4 hp; exact hp.elim
  | succ n ih =>
    intro v1 v2 v3 v4 hp hq
    unfold p_X9_won_9 at hp
    unfold f_X9_won_9 at hq
    refine g_blk hz0 kX9_won_9 ?_
    refine ⟨vinL (by decide), ?_⟩
    refine ⟨fun c1 => ?_, fun c1 => ?_⟩
    · rw [if_pos (show ((m.2 0) 2) ≤ v4 from c1)] at hq
      replace hp := hp.1 c1
      refine g_blk hz0 kX9_won_96 ?_
      refine ⟨fun c2 => ?_, fun c2 => ?_⟩
      · rw [if_neg (show ¬ (v3 = 0) from c2)] at hq
        replace hp := hp.2 c2
        refine g_blk hz0 kX9_won_104 ?_
        refine ⟨fun c3 => ?_, fun c3 => ?_⟩
        · rw [if_pos (show v1 ≤ 0 from c3)] at hq
          replace hp := hp.1 c3
          refine g_le (L2 := [none, some (.int v1), some (.int v2), none, none]) ⟨rfl, rfl, trivial⟩ ?_
          exact l_X9_won_116 sc m zq v1 v2 hp hq
        · rw [if_neg (show ¬ (v1 ≤ 0) from c3)] at hq
          replace hp := hp.2 c3
          refine g_blk hz0 kX9_won_108 ?_
          refine ⟨fun c4 => ?_, fun c4 => ?_⟩
          · rw [if_neg (show ¬ (v2 = 0) from c4)] at hq
            replace hp := hp.2 c4
            refine g_le (L2 := [none, some (.int v1), some (.int v2), none, none]) ⟨rfl, rfl, trivial⟩ ?_
            exact l_X9_won_116 sc m zq v1 v2 hp hq
          · rw [if_pos (show v2 = 0 from c4)] at hq
            refine g_blk hz0 kX9_won_112 ?_
            refine g_blk hz0 kX9_won_129 ?_
            subst hq
            exact ⟨fun h => (by cases h), rfl, rfl⟩
      · rw [if_pos (show v3 = 0 from c2)] at hq
        refine g_blk hz0 kX9_won_100 ?_
        refine g_blk hz0 kX9_won_129 ?_
        subst hq
        exact ⟨fun h => (by cases h), rfl, rfl⟩
    · rw [if_neg (show ¬ (((m.2 0) 2) ≤ v4) from c1)] at hq
      replace hp := hp.2 c1
      refine g_blk hz0 kX9_won_20 ?_
      refine cVp [0, 1, 2, 3, 4, 5, 6, 7, 8, 9, 10, 11, 12, 13, 14, 15, 16] (wM m) (s_X9_isHere m v4 hp.1) rfl cwX9_isHere dX9_won_24 rfl rfl (hm0_M_M _) ?_
      replace hp := hp.2
      refine g_blk hz0 kX9_won_27 ?_
      refine ⟨fun c5 => ?_, fun c5 => ?_⟩
      · rw [if_pos (show (f_X9_isHere m v4) = 0 from c5)] at hq
        replace hp := hp.1 c5
        refine g_blk hz0 kX9_won_43 ?_
        refine g_le (L2 := [some (.ref 0), none, some (.int v2), some (.int v3), some (.int v4)]) ⟨rfl, rfl, rfl, rfl, trivial⟩ ?_
        exact l_X9_won_44 sc m zq (fun r0 r1 r2 r3 hp hq => ih r0 r1 r2 r3 hp hq) v2 v3 v4 v1 0 hp hq
      · rw [if_neg (show ¬ ((f_X9_isHere m v4) = 0) from c5)] at hq
        replace hp := hp.2 c5
        refine g_blk hz0 kX9_won_30 ?_
        refine cVp [0, 1, 2, 3, 4, 5, 6, 7, 8, 9, 10, 11, 12, 13, 14, 15, 16] (wM m) (s_X9_ownerOf m v4 hp.1) rfl cwX9_ownerOf dX9_won_33 rfl rfl (hm0_M_M _) ?_
        replace hp := hp.2
        refine g_blk hz0 kX9_won_36 ?_
        refine ⟨fun c6 => ?_, fun c6 => ?_⟩
        · rw [if_neg (show ¬ ((f_X9_ownerOf m v4) = 0) from c6)] at hq
          replace hp := hp.2 c6
          refine g_blk hz0 kX9_won_43 ?_
          refine g_le (L2 := [some (.ref 0), none, some (.int v2), some (.int v3), some (.int v4)]) ⟨rfl, rfl, rfl, rfl, trivial⟩ ?_
          exact l_X9_won_44 sc m zq (fun r0 r1 r2 r3 hp hq => ih r0 r1 r2 r3 hp hq) v2 v3 v4 v1 0 hp hq
        · rw [if_pos (show (f_X9_ownerOf m v4) = 0 from c6)] at hq
          replace hp := hp.1 c6
          refine g_blk hz0 kX9_won_39 ?_
          refine g_le (L2 := [some (.ref 0), none, some (.int v2), some (.int v3), some (.int v4)]) ⟨rfl, rfl, rfl, rfl, trivial⟩ ?_
          exact l_X9_won_44 sc m zq (fun r0 r1 r2 r3 hp hq => ih r0 r1 r2 r3 hp hq) v2 v3 v4 v1 1 hp hq
def f_X9_won (m : Rec)  : Int32 := (f_X9_won_9 40 m 0 0 0 0)
def p_X9_won (m : Rec)  : Prop := (p_X9_won_9 40 m 0 0 0 0)
set_option maxHeartbeats 16000000 in
set_option maxRecDepth 20000 in
theorem s_X9_won (m : Rec)  (hp : p_X9_won m) : Spec 2 0 0 mX9_won [.ref 0] (wM m) (Ret (some (.int ((f_X9_won m)))) (wM m)) := by
  obtain ⟨zq, hq⟩ : ∃ z, z = (f_X9_won m) := ⟨_, rfl⟩
  rw [← hq]
  unfold f_X9_won at hq
  unfold p_X9_won at hp
  refine Sof fun sc => ?_
  refine g_blk hz0 kX9_won_0 ?_
  refine g_le (L2 := [some (.ref 0), some (.int 0), some (.int 0), some (.int 0), some (.int 0)]) ⟨rfl, rfl, rfl, rfl, rfl, trivial⟩ ?_
  exact l_X9_won_9 sc m zq 40 0 0 0 0 hp hq

def f_X9_behind_6  : Nat → Rec → Int32 → Int32 → Int32 → Int32
  | 0, m, v1, v2, v3 => 0
  | n + 1, m, v1, v2, v3 => if ((m.2 0) 2) ≤ v3 then (if v2 ≤ v1 then (if v1 ≤ v2 then (f_X9_turn m) else 1) else 0) else (if (f_X9_isHere m v3) = 0 then (f_X9_behind_6 n m v1 v2 (v3 + 1)) else (if (f_X9_ownerOf m v3) = 0 then (if (f_X9_ownerOf m v3) = 1 then (f_X9_behind_6 n m (v1 + (f_X9_strengthOf m v3)) (v2 + (f_X9_strengthOf m v3)) (v3 + 1)) else (f_X9_behind_6 n m (v1 + (f_X9_strengthOf m v3)) (v2 + 0) (v3 + 1))) else (if (f_X9_ownerOf m v3) = 1 then (f_X9_behind_6 n m (v1 + 0) (v2 + (f_X9_strengthOf m v3)) (v3 + 1)) else (f_X9_behind_6 n m (v1 + 0) (v2 + 0) (v3 + 1)))))
def p_X9_behind_6  : Nat → Rec → Int32 → Int32 → Int32 → Prop
  | 0, _, _, _, _ => False
  | n + 1, m, v1, v2, v3 => (((m.2 0) 2) ≤ v3 → True) ∧ (¬ (((m.2 0) 2) ≤ v3) → ((p_X9_isHere m v3) ∧ (((f_X9_isHere m v3) = 0 → (p_X9_behind_6 n m v1 v2 (v3 + 1))) ∧ (¬ ((f_X9_isHere m v3) = 0) → ((p_X9_ownerOf m v3) ∧ (((f_X9_ownerOf m v3) = 0 → ((p_X9_strengthOf m v3) ∧ ((p_X9_ownerOf m v3) ∧ (((f_X9_ownerOf m v3) = 1 → ((p_X9_strengthOf m v3) ∧ (p_X9_behind_6 n m (v1 + (f_X9_strengthOf m v3)) (v2 + (f_X9_strengthOf m v3)) (v3 + 1)))) ∧ (¬ ((f_X9_ownerOf m v3) = 1) → (p_X9_behind_6 n m (v1 + (f_X9_strengthOf m v3)) (v2 + 0) (v3 + 1))))))) ∧ (¬ ((f_X9_ownerOf m v3) = 0) → ((p_X9_ownerOf m v3) ∧ (((f_X9_ownerOf m v3) = 1 → ((p_X9_strengthOf m v3) ∧ (p_X9_behind_6 n m (v1 + 0) (v2 + (f_X9_strengthOf m v3)) (v3 + 1)))) ∧ (¬ ((f_X9_ownerOf m v3) = 1) → (p_X9_behind_6 n m (v1 + 0) (v2 + 0) (v3 + 1))))))))))))
set_option maxHeartbeats 16000000 in
set_option maxRecDepth 20000 in
theorem l_X9_behind_6 (sc : SC) (m : Rec)  (zq : Int32)  : ∀ (n : Nat)  (v1 : Int32) (v2 : Int32) (v3 : Int32), p_X9_behind_6 n m v1 v2 v3 → zq = f_X9_behind_6 n m v1 v2 v3 → Good sc 2 0 0 17 mX9_behind (Ret (some (.int (zq))) (wM m)) 0 0 6 [some (.ref 0), some (.int v1), some (.int v2), some (.int v3)] [] (wM m) := by
  intro n
  induction n with
  | zero => intro v1 v2 v3 hp; exact hp.elim
  | succ n ih =>
    intro v1 v2 v3 hp hq
    unfold p_X9_behind_6 at hp
    unfold f_X9_behind_6 at hq
    refine g_blk hz0 kX9_behind_6 ?_
    refine ⟨vinL (by decide), ?_⟩
    refine ⟨fun c1 => ?_, fun c1 => ?_⟩
    · rw [if_pos (show ((m.2 0) 2) ≤ v3 from c1)] at hq
      refine g_blk hz0 kX9_behind_71 ?_
      refine ⟨fun c2 => ?_, fun c2 => ?_⟩
      · rw [if_pos (show v2 ≤ v1 from c2)] at hq
        refine g_blk hz0 kX9_behind_80 ?_
        refine ⟨fun c3 => ?_, fun c3 => ?_⟩
        · rw [if_pos (show v1 ≤ v2 from c3)] at hq
          refine g_blk hz0 kX9_behind_89 ?_
          refine cVp [0, 1, 2, 3, 4, 5, 6, 7, 8, 9, 10, 11, 12, 13, 14, 15, 16] (wM m) (s_X9_turn m) rfl cwX9_turn dX9_behind_90 rfl rfl (hm0_M_M _) ?_
          refine g_blk hz0 kX9_behind_93 ?_
          subst hq
          exact ⟨fun h => (by cases h), rfl, rfl⟩
        · rw [if_neg (show ¬ (v1 ≤ v2) from c3)] at hq
          refine g_blk hz0 kX9_behind_85 ?_
          refine g_blk hz0 kX9_behind_93 ?_
          subst hq
          exact ⟨fun h => (by cases h), rfl, rfl⟩
      · rw [if_neg (show ¬ (v2 ≤ v1) from c2)] at hq
        refine g_blk hz0 kX9_behind_76 ?_
        refine g_blk hz0 kX9_behind_93 ?_
        subst hq
        exact ⟨fun h => (by cases h), rfl, rfl⟩
    · rw [if_neg (show ¬ (((m.2 0) 2) ≤ v3) from c1)] at hq
      replace hp := hp.2 c1
      refine g_blk hz0 kX9_behind_16 ?_
      refine cVp [0, 1, 2, 3, 4, 5, 6, 7, 8, 9, 10, 11, 12, 13, 14, 15, 16] (wM m) (s_X9_isHere m v3 hp.1) rfl cwX9_isHere dX9_behind_18 rfl rfl (hm0_M_M _) ?_
      replace hp := hp.2
      refine g_blk hz0 kX9_behind_21 ?_
      refine ⟨fun c4 => ?_, fun c4 => ?_⟩
      · rw [if_pos (show (f_X9_isHere m v3) = 0 from c4)] at hq
        replace hp := hp.1 c4
        refine g_blk hz0 kX9_behind_65 ?_
        refine g_le (L2 := [some (.ref 0), some (.int v1), some (.int v2), some (.int (v3 + 1))]) ⟨rfl, rfl, rfl, rfl, trivial⟩ ?_
        exact ih v1 v2 (v3 + 1) hp hq
      · rw [if_neg (show ¬ ((f_X9_isHere m v3) = 0) from c4)] at hq
        replace hp := hp.2 c4
        refine g_blk hz0 kX9_behind_24 ?_
        refine cVp [0, 1, 2, 3, 4, 5, 6, 7, 8, 9, 10, 11, 12, 13, 14, 15, 16] (wM m) (s_X9_ownerOf m v3 hp.1) rfl cwX9_ownerOf dX9_behind_27 rfl rfl (hm0_M_M _) ?_
        replace hp := hp.2
        refine g_blk hz0 kX9_behind_30 ?_
        refine ⟨fun c5 => ?_, fun c5 => ?_⟩
        · rw [if_neg (show ¬ ((f_X9_ownerOf m v3) = 0) from c5)] at hq
          replace hp := hp.2 c5
          refine g_blk hz0 kX9_behind_41 ?_
          refine g_blk hz0 kX9_behind_42 ?_
          refine cVp [0, 1, 2, 3, 4, 5, 6, 7, 8, 9, 10, 11, 12, 13, 14, 15, 16] (wM m) (s_X9_ownerOf m v3 hp.1) rfl cwX9_ownerOf dX9_behind_47 rfl rfl (hm0_M_M _) ?_
          replace hp := hp.2
          refine g_blk hz0 kX9_behind_50 ?_
          refine ⟨fun c7 => ?_, fun c7 => ?_⟩
          · rw [if_neg (show ¬ ((f_X9_ownerOf m v3) = 1) from c7)] at hq
            replace hp := hp.2 c7
            refine g_blk hz0 kX9_behind_62 ?_
            refine g_blk hz0 kX9_behind_63 ?_
            refine g_blk hz0 kX9_behind_65 ?_
            refine g_le (L2 := [some (.ref 0), some (.int (v1 + 0)), some (.int (v2 + 0)), some (.int (v3 + 1))]) ⟨rfl, rfl, rfl, rfl, trivial⟩ ?_
            exact ih (v1 + 0) (v2 + 0) (v3 + 1) hp hq
          · rw [if_pos (show (f_X9_ownerOf m v3) = 1 from c7)] at hq
            replace hp := hp.1 c7
            refine g_blk hz0 kX9_behind_54 ?_
            refine cVp [0, 1, 2, 3, 4, 5, 6, 7, 8, 9, 10, 11, 12, 13, 14, 15, 16] (wM m) (s_X9_strengthOf m v3 hp.1) rfl cwX9_strengthOf dX9_behind_56 rfl rfl (hm0_M_M _) ?_
            replace hp := hp.2
            refine g_blk hz0 kX9_behind_59 ?_
            refine g_blk hz0 kX9_behind_63 ?_
            refine g_blk hz0 kX9_behind_65 ?_
            refine g_le (L2 := [some (.ref 0), some (.int (v1 + 0)), some (.int (v2 + (f_X9_strengthOf m v3))), some (.int (v3 + 1))]) ⟨rfl, rfl, rfl, rfl, trivial⟩ ?_
            exact ih (v1 + 0) (v2 + (f_X9_strengthOf m v3)) (v3 + 1) hp hq
        · rw [if_pos (show (f_X9_ownerOf m v3) = 0 from c5)] at hq
          replace hp := hp.1 c5
          refine g_blk hz0 kX9_behind_33 ?_
          refine cVp [0, 1, 2, 3, 4, 5, 6, 7, 8, 9, 10, 11, 12, 13, 14, 15, 16] (wM m) (s_X9_strengthOf m v3 hp.1) rfl cwX9_strengthOf dX9_behind_35 rfl rfl (hm0_M_M _) ?_
          replace hp := hp.2
          refine g_blk hz0 kX9_behind_38 ?_
          refine g_blk hz0 kX9_behind_42 ?_
          refine cVp [0, 1, 2, 3, 4, 5, 6, 7, 8, 9, 10, 11, 12, 13, 14, 15, 16] (wM m) (s_X9_ownerOf m v3 hp.1) rfl cwX9_ownerOf dX9_behind_47 rfl rfl (hm0_M_M _) ?_
          replace hp := hp.2
          refine g_blk hz0 kX9_behind_50 ?_
          refine ⟨fun c6 => ?_, fun c6 => ?_⟩
          · rw [if_neg (show ¬ ((f_X9_ownerOf m v3) = 1) from c6)] at hq
            replace hp := hp.2 c6
            refine g_blk hz0 kX9_behind_62 ?_
            refine g_blk hz0 kX9_behind_63 ?_
            refine g_blk hz0 kX9_behind_65 ?_
            refine g_le (L2 := [some (.ref 0), some (.int (v1 + (f_X9_strengthOf m v3))), some (.int (v2 + 0)), some (.int (v3 + 1))]) ⟨rfl, rfl, rfl, rfl, trivial⟩ ?_
            exact ih (v1 + (f_X9_strengthOf m v3)) (v2 + 0) (v3 + 1) hp hq
          · rw [if_pos (show (f_X9_ownerOf m v3) = 1 from c6)] at hq
            replace hp := hp.1 c6
            refine g_blk hz0 kX9_behind_54 ?_
            refine cVp [0, 1, 2, 3, 4, 5, 6, 7, 8, 9, 10, 11, 12, 13, 14, 15, 16] (wM m) (s_X9_strengthOf m v3 hp.1) rfl cwX9_strengthOf dX9_behind_56 rfl rfl (hm0_M_M _) ?_
            replace hp := hp.2
            refine g_blk hz0 kX9_behind_59 ?_
            refine g_blk hz0 kX9_behind_63 ?_
            refine g_blk hz0 kX9_behind_65 ?_
            refine g_le (L2 := [some (.ref 0), some (.int (v1 + (f_X9_strengthOf m v3))), some (.int (v2 + (f_X9_strengthOf m v3))), some (.int (v3 + 1))]) ⟨rfl, rfl, rfl, rfl, trivial⟩ ?_
            exact ih (v1 + (f_X9_strengthOf m v3)) (v2 + (f_X9_strengthOf m v3)) (v3 + 1) hp hq
def f_X9_behind (m : Rec)  : Int32 := (f_X9_behind_6 40 m 0 0 0)
def p_X9_behind (m : Rec)  : Prop := (p_X9_behind_6 40 m 0 0 0)
set_option maxHeartbeats 16000000 in
set_option maxRecDepth 20000 in
theorem s_X9_behind (m : Rec)  (hp : p_X9_behind m) : Spec 2 0 0 mX9_behind [.ref 0] (wM m) (Ret (some (.int ((f_X9_behind m)))) (wM m)) := by
  obtain ⟨zq, hq⟩ : ∃ z, z = (f_X9_behind m) := ⟨_, rfl⟩
  rw [← hq]
  unfold f_X9_behind at hq
  unfold p_X9_behind at hp
  refine Sof fun sc => ?_
  refine g_blk hz0 kX9_behind_0 ?_
  refine g_le (L2 := [some (.ref 0), some (.int 0), some (.int 0), some (.int 0)]) ⟨rfl, rfl, rfl, rfl, trivial⟩ ?_
  exact l_X9_behind_6 sc m zq 40 0 0 0 hp hq

def f_X9_topAt_5  : Nat → Rec → Int32 → Int32 → Int32 → Int32 → Int32
  | 0, m, v1, v2, v3, v4 => 0
  | n + 1, m, v1, v2, v3, v4 => if 36 ≤ v4 then v3 else (if (f_X9_isAt m v4 v1 v2) = 0 then (f_X9_topAt_5 n m v1 v2 v3 (v4 + 1)) else (if v3 = (-1) then (f_X9_topAt_5 n m v1 v2 v4 (v4 + 1)) else (if 0 ≤ v3 then (if ((m.2 6) (Int32.toNatClampNeg v4)) ≤ ((m.2 6) (Int32.toNatClampNeg v3)) then (f_X9_topAt_5 n m v1 v2 v3 (v4 + 1)) else (f_X9_topAt_5 n m v1 v2 v4 (v4 + 1))) else (if ((m.2 6) (Int32.toNatClampNeg v4)) ≤ ((m.2 6) 0) then (f_X9_topAt_5 n m v1 v2 v3 (v4 + 1)) else (f_X9_topAt_5 n m v1 v2 v4 (v4 + 1))))))
def p_X9_topAt_5  : Nat → Rec → Int32 → Int32 → Int32 → Int32 → Prop
  | 0, _, _, _, _, _ => False
  | n + 1, m, v1, v2, v3, v4 => (36 ≤ v4 → True) ∧ (¬ (36 ≤ v4) → ((p_X9_isAt m v4 v1 v2) ∧ (((f_X9_isAt m v4 v1 v2) = 0 → (p_X9_topAt_5 n m v1 v2 v3 (v4 + 1))) ∧ (¬ ((f_X9_isAt m v4 v1 v2) = 0) → ((v3 = (-1) → (p_X9_topAt_5 n m v1 v2 v4 (v4 + 1))) ∧ (¬ (v3 = (-1)) → (vp_in v4 36 ∧ ((0 ≤ v3 → (vp_in v3 36 ∧ ((((m.2 6) (Int32.toNatClampNeg v4)) ≤ ((m.2 6) (Int32.toNatClampNeg v3)) → (p_X9_topAt_5 n m v1 v2 v3 (v4 + 1))) ∧ (¬ (((m.2 6) (Int32.toNatClampNeg v4)) ≤ ((m.2 6) (Int32.toNatClampNeg v3))) → (p_X9_topAt_5 n m v1 v2 v4 (v4 + 1)))))) ∧ (¬ (0 ≤ v3) → ((((m.2 6) (Int32.toNatClampNeg v4)) ≤ ((m.2 6) 0) → (p_X9_topAt_5 n m v1 v2 v3 (v4 + 1))) ∧ (¬ (((m.2 6) (Int32.toNatClampNeg v4)) ≤ ((m.2 6) 0)) → (p_X9_topAt_5 n m v1 v2 v4 (v4 + 1)))))))))))))
set_option maxHeartbeats 16000000 in
set_option maxRecDepth 20000 in
theorem l_X9_topAt_5 (sc : SC) (m : Rec)  (zq : Int32)  : ∀ (n : Nat)  (v1 : Int32) (v2 : Int32) (v3 : Int32) (v4 : Int32), p_X9_topAt_5 n m v1 v2 v3 v4 → zq = f_X9_topAt_5 n m v1 v2 v3 v4 → Good sc 3 0 0 17 mX9_topAt (Ret (some (.int (zq))) (wM m)) 0 0 5 [some (.ref 0), some (.int v1), some (.int v2), some (.int v3), some (.int v4)] [] (wM m) := by
  intro n
  induction n with
  | zero => intro v1 v2 v3 v4 hp; exact hp.elim
  | succ n ih =>
    intro v1 v2 v3 v4 hp hq
    unfold p_X9_topAt_5 at hp
    unfold f_X9_topAt_5 at hq
    refine g_blk hz0 kX9_topAt_5 ?_
    refine ⟨fun c1 => ?_, fun c1 => ?_⟩
    · rw [if_pos (show 36 ≤ v4 from c1)] at hq
      refine g_blk hz0 kX9_topAt_65 ?_
      subst hq
      exact ⟨fun h => (by cases h), rfl, rfl⟩
    · rw [if_neg (show ¬ (36 ≤ v4) from c1)] at hq
      replace hp := hp.2 c1
      refine g_blk hz0 kX9_topAt_12 ?_
      refine cVp [0, 1, 2, 3, 4, 5, 6, 7, 8, 9, 10, 11, 12, 13, 14, 15, 16] (wM m) (s_X9_isAt m v4 v1 v2 hp.1) rfl cwX9_isAt dX9_topAt_17 rfl rfl (hm0_M_M _) ?_
      replace hp := hp.2
      refine g_blk hz0 kX9_topAt_20 ?_
      refine ⟨fun c2 => ?_, fun c2 => ?_⟩
      · rw [if_pos (show (f_X9_isAt m v4 v1 v2) = 0 from c2)] at hq
        replace hp := hp.1 c2
        refine g_blk hz0 kX9_topAt_57 ?_
        refine g_blk hz0 kX9_topAt_58 ?_
        refine g_le (L2 := [some (.ref 0), some (.int v1), some (.int v2), some (.int v3), some (.int (v4 + 1))]) ⟨rfl, rfl, rfl, rfl, rfl, trivial⟩ ?_
        exact ih v1 v2 v3 (v4 + 1) hp hq
      · rw [if_neg (show ¬ ((f_X9_isAt m v4 v1 v2) = 0) from c2)] at hq
        replace hp := hp.2 c2
        refine g_blk hz0 kX9_topAt_23 ?_
        refine ⟨fun c3 => ?_, fun c3 => ?_⟩
        · rw [if_pos (show v3 = (-1) from c3)] at hq
          replace hp := hp.1 c3
          refine g_blk hz0 kX9_topAt_52 ?_
          refine g_blk hz0 kX9_topAt_58 ?_
          refine g_le (L2 := [some (.ref 0), some (.int v1), some (.int v2), some (.int v4), some (.int (v4 + 1))]) ⟨rfl, rfl, rfl, rfl, rfl, trivial⟩ ?_
          exact ih v1 v2 v4 (v4 + 1) hp hq
        · rw [if_neg (show ¬ (v3 = (-1)) from c3)] at hq
          replace hp := hp.2 c3
          refine g_blk hz0 kX9_topAt_28 ?_
          refine ⟨hp.1, ?_⟩
          replace hp := hp.2
          refine ⟨fun c4 => ?_, fun c4 => ?_⟩
          · rw [if_pos (show 0 ≤ v3 from c4)] at hq
            replace hp := hp.1 c4
            refine g_blk hz0 kX9_topAt_47 ?_
            refine g_blk hz0 kX9_topAt_48 ?_
            refine ⟨hp.1, ?_⟩
            replace hp := hp.2
            refine ⟨fun c5 => ?_, fun c5 => ?_⟩
            · rw [if_pos (show ((m.2 6) (Int32.toNatClampNeg v4)) ≤ ((m.2 6) (Int32.toNatClampNeg v3)) from c5)] at hq
              replace hp := hp.1 c5
              refine g_blk hz0 kX9_topAt_57 ?_
              refine g_blk hz0 kX9_topAt_58 ?_
              refine g_le (L2 := [some (.ref 0), some (.int v1), some (.int v2), some (.int v3), some (.int (v4 + 1))]) ⟨rfl, rfl, rfl, rfl, rfl, trivial⟩ ?_
              exact ih v1 v2 v3 (v4 + 1) hp hq
            · rw [if_neg (show ¬ (((m.2 6) (Int32.toNatClampNeg v4)) ≤ ((m.2 6) (Int32.toNatClampNeg v3))) from c5)] at hq
              replace hp := hp.2 c5
              refine g_blk hz0 kX9_topAt_52 ?_
              refine g_blk hz0 kX9_topAt_58 ?_
              refine g_le (L2 := [some (.ref 0), some (.int v1), some (.int v2), some (.int v4), some (.int (v4 + 1))]) ⟨rfl, rfl, rfl, rfl, rfl, trivial⟩ ?_
              exact ih v1 v2 v4 (v4 + 1) hp hq
          · rw [if_neg (show ¬ (0 ≤ v3) from c4)] at hq
            replace hp := hp.2 c4
            refine g_blk hz0 kX9_topAt_43 ?_
            refine g_blk hz0 kX9_topAt_48 ?_
            refine ⟨vinL (by decide), ?_⟩
            refine ⟨fun c6 => ?_, fun c6 => ?_⟩
            · rw [if_pos (show ((m.2 6) (Int32.toNatClampNeg v4)) ≤ ((m.2 6) 0) from c6)] at hq
              replace hp := hp.1 c6
              refine g_blk hz0 kX9_topAt_57 ?_
              refine g_blk hz0 kX9_topAt_58 ?_
              refine g_le (L2 := [some (.ref 0), some (.int v1), some (.int v2), some (.int v3), some (.int (v4 + 1))]) ⟨rfl, rfl, rfl, rfl, rfl, trivial⟩ ?_
              exact ih v1 v2 v3 (v4 + 1) hp hq
            · rw [if_neg (show ¬ (((m.2 6) (Int32.toNatClampNeg v4)) ≤ ((m.2 6) 0)) from c6)] at hq
              replace hp := hp.2 c6
              refine g_blk hz0 kX9_topAt_52 ?_
              refine g_blk hz0 kX9_topAt_58 ?_
              refine g_le (L2 := [some (.ref 0), some (.int v1), some (.int v2), some (.int v4), some (.int (v4 + 1))]) ⟨rfl, rfl, rfl, rfl, rfl, trivial⟩ ?_
              exact ih v1 v2 v4 (v4 + 1) hp hq
def f_X9_topAt (m : Rec) (x : Int32) (y : Int32) : Int32 := (f_X9_topAt_5 40 m x y (-1) 0)
def p_X9_topAt (m : Rec) (x : Int32) (y : Int32) : Prop := (p_X9_topAt_5 40 m x y (-1) 0)
set_option maxHeartbeats 16000000 in
set_option maxRecDepth 20000 in
theorem s_X9_topAt (m : Rec) (x : Int32) (y : Int32) (hp : p_X9_topAt m x y) : Spec 3 0 0 mX9_topAt [.ref 0, .int x, .int y] (wM m) (Ret (some (.int ((f_X9_topAt m x y)))) (wM m)) := by
  obtain ⟨zq, hq⟩ : ∃ z, z = (f_X9_topAt m x y) := ⟨_, rfl⟩
  rw [← hq]
  unfold f_X9_topAt at hq
  unfold p_X9_topAt at hp
  refine Sof fun sc => ?_
  refine g_blk hz0 kX9_topAt_0 ?_
  refine g_le (L2 := [some (.ref 0), some (.int x), some (.int y), some (.int (-1)), some (.int 0)]) ⟨rfl, rfl, rfl, rfl, rfl, trivial⟩ ?_
  exact l_X9_topAt_5 sc m zq 40 x y (-1) 0 hp hq

def f_X9_wayX  (w : Int32) : Int32 := if w = 1 then 1 else (if w = 3 then (-1) else 0)
set_option maxHeartbeats 16000000 in
set_option maxRecDepth 20000 in
theorem s_X9_wayX  (w : Int32) : Spec 0 0 0 mX9_wayX [.int w] [] (Ret (some (.int ((f_X9_wayX w)))) []) := by
  obtain ⟨zq, hq⟩ : ∃ z, z = (f_X9_wayX w) := ⟨_, rfl⟩
  rw [← hq]
  unfold f_X9_wayX at hq
  refine Sof fun sc => ?_
  refine g_blk hz0 kX9_wayX_0 ?_
  refine ⟨fun c1 => ?_, fun c1 => ?_⟩
  · rw [if_neg (show ¬ (w = 1) from c1)] at hq
    refine g_blk hz0 kX9_wayX_9 ?_
    refine ⟨fun c2 => ?_, fun c2 => ?_⟩
    · rw [if_neg (show ¬ (w = 3) from c2)] at hq
      refine g_blk hz0 kX9_wayX_18 ?_
      refine g_blk hz0 kX9_wayX_19 ?_
      subst hq
      exact ⟨fun h => (by cases h), rfl, rfl⟩
    · rw [if_pos (show w = 3 from c2)] at hq
      refine g_blk hz0 kX9_wayX_14 ?_
      refine g_blk hz0 kX9_wayX_19 ?_
      subst hq
      exact ⟨fun h => (by cases h), rfl, rfl⟩
  · rw [if_pos (show w = 1 from c1)] at hq
    refine g_blk hz0 kX9_wayX_5 ?_
    refine g_blk hz0 kX9_wayX_19 ?_
    subst hq
    exact ⟨fun h => (by cases h), rfl, rfl⟩

def f_X9_wayY  (w : Int32) : Int32 := if w = 0 then (-1) else (if w = 2 then 1 else 0)
set_option maxHeartbeats 16000000 in
set_option maxRecDepth 20000 in
theorem s_X9_wayY  (w : Int32) : Spec 0 0 0 mX9_wayY [.int w] [] (Ret (some (.int ((f_X9_wayY w)))) []) := by
  obtain ⟨zq, hq⟩ : ∃ z, z = (f_X9_wayY w) := ⟨_, rfl⟩
  rw [← hq]
  unfold f_X9_wayY at hq
  refine Sof fun sc => ?_
  refine g_blk hz0 kX9_wayY_0 ?_
  refine ⟨fun c1 => ?_, fun c1 => ?_⟩
  · rw [if_neg (show ¬ (w = 0) from c1)] at hq
    refine g_blk hz0 kX9_wayY_8 ?_
    refine ⟨fun c2 => ?_, fun c2 => ?_⟩
    · rw [if_neg (show ¬ (w = 2) from c2)] at hq
      refine g_blk hz0 kX9_wayY_17 ?_
      refine g_blk hz0 kX9_wayY_18 ?_
      subst hq
      exact ⟨fun h => (by cases h), rfl, rfl⟩
    · rw [if_pos (show w = 2 from c2)] at hq
      refine g_blk hz0 kX9_wayY_13 ?_
      refine g_blk hz0 kX9_wayY_18 ?_
      subst hq
      exact ⟨fun h => (by cases h), rfl, rfl⟩
  · rw [if_pos (show w = 0 from c1)] at hq
    refine g_blk hz0 kX9_wayY_4 ?_
    refine g_blk hz0 kX9_wayY_18 ?_
    subst hq
    exact ⟨fun h => (by cases h), rfl, rfl⟩

def f_X9_anyFold (m : Rec)  : Int32 := if (f_X9_end m 0 0) < (f_X9_end m 0 1) then 1 else (if (f_X9_end m 1 1) ≤ (f_X9_end m 1 0) then 0 else 1)
def p_X9_anyFold (m : Rec)  : Prop := (p_X9_end m 0 1) ∧ ((p_X9_end m 0 0) ∧ (((f_X9_end m 0 0) < (f_X9_end m 0 1) → True) ∧ (¬ ((f_X9_end m 0 0) < (f_X9_end m 0 1)) → ((p_X9_end m 1 1) ∧ ((p_X9_end m 1 0) ∧ True)))))
theorem z_X9_anyFold (m : Rec)  : (f_X9_anyFold m) = 0 ∨ (f_X9_anyFold m) = 1 := by
  unfold f_X9_anyFold
  repeat' split
  all_goals first | exact Or.inl rfl | exact Or.inr rfl | apply z_any <;> assumption
set_option maxHeartbeats 16000000 in
set_option maxRecDepth 20000 in
theorem s_X9_anyFold (m : Rec)  (hp : p_X9_anyFold m) : Spec 3 0 0 mX9_anyFold [.ref 0] (wM m) (Ret (some (.int ((f_X9_anyFold m)))) (wM m)) := by
  obtain ⟨zq, hq⟩ : ∃ z, z = (f_X9_anyFold m) := ⟨_, rfl⟩
  rw [← hq]
  unfold f_X9_anyFold at hq
  unfold p_X9_anyFold at hp
  refine Sof fun sc => ?_
  refine g_blk hz0 kX9_anyFold_0 ?_
  refine cVp [0, 1, 2, 3, 4, 5, 6, 7, 8, 9, 10, 11, 12, 13, 14, 15, 16] (wM m) (s_X9_end m 0 1 hp.1) rfl cwX9_end dX9_anyFold_3 rfl rfl (hm0_M_M _) ?_
  replace hp := hp.2
  refine g_blk hz0 kX9_anyFold_6 ?_
  refine cVp [0, 1, 2, 3, 4, 5, 6, 7, 8, 9, 10, 11, 12, 13, 14, 15, 16] (wM m) (s_X9_end m 0 0 hp.1) rfl cwX9_end dX9_anyFold_9 rfl rfl (hm0_M_M _) ?_
  replace hp := hp.2
  refine g_blk hz0 kX9_anyFold_12 ?_
  refine ⟨fun c1 => ?_, fun c1 => ?_⟩
  · rw [if_pos (show (f_X9_end m 0 0) < (f_X9_end m 0 1) from c1)] at hq
    refine g_blk hz0 kX9_anyFold_30 ?_
    refine g_blk hz0 kX9_anyFold_35 ?_
    subst hq
    exact ⟨fun _ => Or.inr rfl, rfl, rfl⟩
  · rw [if_neg (show ¬ ((f_X9_end m 0 0) < (f_X9_end m 0 1)) from c1)] at hq
    replace hp := hp.2 c1
    refine g_blk hz0 kX9_anyFold_15 ?_
    refine cVp [0, 1, 2, 3, 4, 5, 6, 7, 8, 9, 10, 11, 12, 13, 14, 15, 16] (wM m) (s_X9_end m 1 1 hp.1) rfl cwX9_end dX9_anyFold_18 rfl rfl (hm0_M_M _) ?_
    replace hp := hp.2
    refine g_blk hz0 kX9_anyFold_21 ?_
    refine cVp [0, 1, 2, 3, 4, 5, 6, 7, 8, 9, 10, 11, 12, 13, 14, 15, 16] (wM m) (s_X9_end m 1 0 hp.1) rfl cwX9_end dX9_anyFold_24 rfl rfl (hm0_M_M _) ?_
    replace hp := hp.2
    refine g_blk hz0 kX9_anyFold_27 ?_
    refine ⟨fun c2 => ?_, fun c2 => ?_⟩
    · rw [if_pos (show (f_X9_end m 1 1) ≤ (f_X9_end m 1 0) from c2)] at hq
      refine g_blk hz0 kX9_anyFold_34 ?_
      refine g_blk hz0 kX9_anyFold_35 ?_
      subst hq
      exact ⟨fun _ => Or.inl rfl, rfl, rfl⟩
    · rw [if_neg (show ¬ ((f_X9_end m 1 1) ≤ (f_X9_end m 1 0)) from c2)] at hq
      refine g_blk hz0 kX9_anyFold_30 ?_
      refine g_blk hz0 kX9_anyFold_35 ?_
      subst hq
      exact ⟨fun _ => Or.inr rfl, rfl, rfl⟩
