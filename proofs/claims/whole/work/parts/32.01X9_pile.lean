def f_X9_pile_97 (K84 : Rec → Int32 → Int32 → Int32 → Int32 → Int32 × Rec) : Nat → Rec → Int32 → Int32 → Int32 → Int32 → Int32 → Int32 → Int32 × Rec
  | 0, m, v1, v2, v3, v5, v6, v7 => (0, m)
  | n + 1, m, v1, v2, v3, v5, v6, v7 => if (Int32.ofInt 36) ≤ v7 then (if (f_X9_isAt m v5 v1 v2) = 0 then (K84 m v1 v2 v3 (v5 + (Int32.ofInt 1))) else (if v6 = v3 then (v5, m) else (K84 m v1 v2 v3 (v5 + (Int32.ofInt 1))))) else (if (f_X9_isAt m v5 v1 v2) = 0 then (if (f_X9_isAt m v5 v1 v2) = 0 then (K84 m v1 v2 v3 (v5 + (Int32.ofInt 1))) else (if v6 = v3 then (v5, m) else (K84 m v1 v2 v3 (v5 + (Int32.ofInt 1))))) else (if (f_X9_isAt m v7 v1 v2) = 0 then (f_X9_pile_97 K84 n m v1 v2 v3 v5 (v6 + (Int32.ofInt 0)) (v7 + (Int32.ofInt 1))) else (if ((m.2 6) (Int32.toNatClampNeg v5)) ≤ ((m.2 6) (Int32.toNatClampNeg v7)) then (f_X9_pile_97 K84 n m v1 v2 v3 v5 (v6 + (Int32.ofInt 0)) (v7 + (Int32.ofInt 1))) else (f_X9_pile_97 K84 n m v1 v2 v3 v5 (v6 + (Int32.ofInt 1)) (v7 + (Int32.ofInt 1))))))
def p_X9_pile_97 (G84 : Rec → Int32 → Int32 → Int32 → Int32 → Prop) : Nat → Rec → Int32 → Int32 → Int32 → Int32 → Int32 → Int32 → Prop
  | 0, _, _, _, _, _, _, _ => False
  | n + 1, m, v1, v2, v3, v5, v6, v7 => ((Int32.ofInt 36) ≤ v7 → ((p_X9_isAt m v5 v1 v2) ∧ (((f_X9_isAt m v5 v1 v2) = 0 → (G84 m v1 v2 v3 (v5 + (Int32.ofInt 1)))) ∧ (¬ ((f_X9_isAt m v5 v1 v2) = 0) → ((v6 = v3 → True) ∧ (¬ (v6 = v3) → (G84 m v1 v2 v3 (v5 + (Int32.ofInt 1))))))))) ∧ (¬ ((Int32.ofInt 36) ≤ v7) → ((p_X9_isAt m v5 v1 v2) ∧ (((f_X9_isAt m v5 v1 v2) = 0 → ((p_X9_isAt m v5 v1 v2) ∧ (((f_X9_isAt m v5 v1 v2) = 0 → (G84 m v1 v2 v3 (v5 + (Int32.ofInt 1)))) ∧ (¬ ((f_X9_isAt m v5 v1 v2) = 0) → ((v6 = v3 → True) ∧ (¬ (v6 = v3) → (G84 m v1 v2 v3 (v5 + (Int32.ofInt 1))))))))) ∧ (¬ ((f_X9_isAt m v5 v1 v2) = 0) → ((p_X9_isAt m v7 v1 v2) ∧ (((f_X9_isAt m v7 v1 v2) = 0 → (p_X9_pile_97 G84 n m v1 v2 v3 v5 (v6 + (Int32.ofInt 0)) (v7 + (Int32.ofInt 1)))) ∧ (¬ ((f_X9_isAt m v7 v1 v2) = 0) → (vp_in v7 36 ∧ (vp_in v5 36 ∧ ((((m.2 6) (Int32.toNatClampNeg v5)) ≤ ((m.2 6) (Int32.toNatClampNeg v7)) → (p_X9_pile_97 G84 n m v1 v2 v3 v5 (v6 + (Int32.ofInt 0)) (v7 + (Int32.ofInt 1)))) ∧ (¬ (((m.2 6) (Int32.toNatClampNeg v5)) ≤ ((m.2 6) (Int32.toNatClampNeg v7))) → (p_X9_pile_97 G84 n m v1 v2 v3 v5 (v6 + (Int32.ofInt 1)) (v7 + (Int32.ofInt 1))))))))))))))
set_option maxHeartbeats 16000000 in
set_option maxRecDepth 20000 in
theorem l_X9_pile_97 (sc : SC)  {K84 : Rec → Int32 → Int32 → Int32 → Int32 → Int32 × Rec} {G84 : Rec → Int32 → Int32 → Int32 → Int32 → Prop} (zq : Int32 × Rec) (hK84 : ∀ (m : Rec) (v1 : Int32) (v2 : Int32) (v3 : Int32) (v5 : Int32), G84 m v1 v2 v3 v5 → zq = K84 m v1 v2 v3 v5 → Good sc 4 0 0 17 mX9_pile (Ret (some (.int (zq.1))) (wM (zq.2))) 0 0 84 [some (.ref 0), some (.int v1), some (.int v2), some (.int v3), none, some (.int v5), none, none] [] (wM m)) : ∀ (n : Nat) (m : Rec) (v1 : Int32) (v2 : Int32) (v3 : Int32) (v5 : Int32) (v6 : Int32) (v7 : Int32), p_X9_pile_97 G84 n m v1 v2 v3 v5 v6 v7 → zq = f_X9_pile_97 K84 n m v1 v2 v3 v5 v6 v7 → Good sc 4 0 0 17 mX9_pile (Ret (some (.int (zq.1))) (wM (zq.2))) 0 0 97 [some (.ref 0), some (.int v1), some (.int v2), some (.int v3), none, some (.int v5), some (.int v6), some (.int v7)] [] (wM m) := by
  intro n
  induction n with
  | zero => intro m v1 v2 v3 v5 v6 v7 hp; exact hp.elim
  | succ n ih =>
    intro m v1 v2 v3 v5 v6 v7 hp hq
    unfold p_X9_pile_97 at hp
    unfold f_X9_pile_97 at hq
    refine g_blk hz0 kX9_pile_97 ?_
    refine ⟨fun c11 => ?_, fun c11 => ?_⟩
    · rw [if_pos (show (Int32.ofInt 36) ≤ v7 from c11)] at hq
      replace hp := hp.1 c11
      refine g_blk hz0 kX9_pile_159 ?_
      refine cVp [0, 1, 2, 3, 4, 5, 6, 7, 8, 9, 10, 11, 12, 13, 14, 15, 16] (wM m) (s_X9_isAt m v5 v1 v2 hp.1) rfl cwX9_isAt dX9_pile_164 rfl rfl (hm0_M_M _) ?_
      replace hp := hp.2
      refine g_blk hz0 kX9_pile_167 ?_
      refine ⟨fun c12 => ?_, fun c12 => ?_⟩
      · rw [if_pos (show (f_X9_isAt m v5 v1 v2) = 0 from c12)] at hq
        replace hp := hp.1 c12
        refine g_blk hz0 kX9_pile_179 ?_
        refine g_le (L2 := [some (.ref 0), some (.int v1), some (.int v2), some (.int v3), none, some (.int (v5 + (Int32.ofInt 1))), none, none]) ⟨rfl, rfl, rfl, rfl, rfl, trivial⟩ ?_
        exact hK84 m v1 v2 v3 (v5 + (Int32.ofInt 1)) hp hq
      · rw [if_neg (show ¬ ((f_X9_isAt m v5 v1 v2) = 0) from c12)] at hq
        replace hp := hp.2 c12
        refine g_blk hz0 kX9_pile_170 ?_
        refine ⟨fun c13 => ?_, fun c13 => ?_⟩
        · rw [if_neg (show ¬ (v6 = v3) from c13)] at hq
          replace hp := hp.2 c13
          refine g_blk hz0 kX9_pile_179 ?_
          refine g_le (L2 := [some (.ref 0), some (.int v1), some (.int v2), some (.int v3), none, some (.int (v5 + (Int32.ofInt 1))), none, none]) ⟨rfl, rfl, rfl, rfl, rfl, trivial⟩ ?_
          exact hK84 m v1 v2 v3 (v5 + (Int32.ofInt 1)) hp hq
        · rw [if_pos (show v6 = v3 from c13)] at hq
          refine g_blk hz0 kX9_pile_176 ?_
          subst hq
          exact ⟨fun h => (by cases h), rfl, rfl⟩
    · rw [if_neg (show ¬ ((Int32.ofInt 36) ≤ v7) from c11)] at hq
      replace hp := hp.2 c11
      refine g_blk hz0 kX9_pile_104 ?_
      refine cVp [0, 1, 2, 3, 4, 5, 6, 7, 8, 9, 10, 11, 12, 13, 14, 15, 16] (wM m) (s_X9_isAt m v5 v1 v2 hp.1) rfl cwX9_isAt dX9_pile_109 rfl rfl (hm0_M_M _) ?_
      replace hp := hp.2
      refine g_blk hz0 kX9_pile_112 ?_
      refine ⟨fun c14 => ?_, fun c14 => ?_⟩
      · rw [if_pos (show (f_X9_isAt m v5 v1 v2) = 0 from c14)] at hq
        replace hp := hp.1 c14
        refine g_blk hz0 kX9_pile_159 ?_
        refine cVp [0, 1, 2, 3, 4, 5, 6, 7, 8, 9, 10, 11, 12, 13, 14, 15, 16] (wM m) (s_X9_isAt m v5 v1 v2 hp.1) rfl cwX9_isAt dX9_pile_164 rfl rfl (hm0_M_M _) ?_
        replace hp := hp.2
        refine g_blk hz0 kX9_pile_167 ?_
        refine ⟨fun c15 => ?_, fun c15 => ?_⟩
        · rw [if_pos (show (f_X9_isAt m v5 v1 v2) = 0 from c15)] at hq
          replace hp := hp.1 c15
          refine g_blk hz0 kX9_pile_179 ?_
          refine g_le (L2 := [some (.ref 0), some (.int v1), some (.int v2), some (.int v3), none, some (.int (v5 + (Int32.ofInt 1))), none, none]) ⟨rfl, rfl, rfl, rfl, rfl, trivial⟩ ?_
          exact hK84 m v1 v2 v3 (v5 + (Int32.ofInt 1)) hp hq
        · rw [if_neg (show ¬ ((f_X9_isAt m v5 v1 v2) = 0) from c15)] at hq
          replace hp := hp.2 c15
          refine g_blk hz0 kX9_pile_170 ?_
          refine ⟨fun c16 => ?_, fun c16 => ?_⟩
          · rw [if_neg (show ¬ (v6 = v3) from c16)] at hq
            replace hp := hp.2 c16
            refine g_blk hz0 kX9_pile_179 ?_
            refine g_le (L2 := [some (.ref 0), some (.int v1), some (.int v2), some (.int v3), none, some (.int (v5 + (Int32.ofInt 1))), none, none]) ⟨rfl, rfl, rfl, rfl, rfl, trivial⟩ ?_
            exact hK84 m v1 v2 v3 (v5 + (Int32.ofInt 1)) hp hq
          · rw [if_pos (show v6 = v3 from c16)] at hq
            refine g_blk hz0 kX9_pile_176 ?_
            subst hq
            exact ⟨fun h => (by cases h), rfl, rfl⟩
      · rw [if_neg (show ¬ ((f_X9_isAt m v5 v1 v2) = 0) from c14)] at hq
        replace hp := hp.2 c14
        refine g_blk hz0 kX9_pile_115 ?_
        refine cVp [0, 1, 2, 3, 4, 5, 6, 7, 8, 9, 10, 11, 12, 13, 14, 15, 16] (wM m) (s_X9_isAt m v7 v1 v2 hp.1) rfl cwX9_isAt dX9_pile_122 rfl rfl (hm0_M_M _) ?_
        replace hp := hp.2
        refine g_blk hz0 kX9_pile_125 ?_
        refine ⟨fun c17 => ?_, fun c17 => ?_⟩
        · rw [if_pos (show (f_X9_isAt m v7 v1 v2) = 0 from c17)] at hq
          replace hp := hp.1 c17
          refine g_blk hz0 kX9_pile_149 ?_
          refine g_blk hz0 kX9_pile_150 ?_
          refine g_le (L2 := [some (.ref 0), some (.int v1), some (.int v2), some (.int v3), none, some (.int v5), some (.int (v6 + (Int32.ofInt 0))), some (.int (v7 + (Int32.ofInt 1)))]) ⟨rfl, rfl, rfl, rfl, rfl, rfl, rfl, trivial⟩ ?_
          exact ih m v1 v2 v3 v5 (v6 + (Int32.ofInt 0)) (v7 + (Int32.ofInt 1)) hp hq
        · rw [if_neg (show ¬ ((f_X9_isAt m v7 v1 v2) = 0) from c17)] at hq
          replace hp := hp.2 c17
          refine g_blk hz0 kX9_pile_128 ?_
          refine ⟨hp.1, ?_⟩
          replace hp := hp.2
          refine ⟨hp.1, ?_⟩
          replace hp := hp.2
          refine ⟨fun c18 => ?_, fun c18 => ?_⟩
          · rw [if_pos (show ((m.2 6) (Int32.toNatClampNeg v5)) ≤ ((m.2 6) (Int32.toNatClampNeg v7)) from c18)] at hq
            replace hp := hp.1 c18
            refine g_blk hz0 kX9_pile_149 ?_
            refine g_blk hz0 kX9_pile_150 ?_
            refine g_le (L2 := [some (.ref 0), some (.int v1), some (.int v2), some (.int v3), none, some (.int v5), some (.int (v6 + (Int32.ofInt 0))), some (.int (v7 + (Int32.ofInt 1)))]) ⟨rfl, rfl, rfl, rfl, rfl, rfl, rfl, trivial⟩ ?_
            exact ih m v1 v2 v3 v5 (v6 + (Int32.ofInt 0)) (v7 + (Int32.ofInt 1)) hp hq
          · rw [if_neg (show ¬ (((m.2 6) (Int32.toNatClampNeg v5)) ≤ ((m.2 6) (Int32.toNatClampNeg v7))) from c18)] at hq
            replace hp := hp.2 c18
            refine g_blk hz0 kX9_pile_145 ?_
            refine g_blk hz0 kX9_pile_150 ?_
            refine g_le (L2 := [some (.ref 0), some (.int v1), some (.int v2), some (.int v3), none, some (.int v5), some (.int (v6 + (Int32.ofInt 1))), some (.int (v7 + (Int32.ofInt 1)))]) ⟨rfl, rfl, rfl, rfl, rfl, rfl, rfl, trivial⟩ ?_
            exact ih m v1 v2 v3 v5 (v6 + (Int32.ofInt 1)) (v7 + (Int32.ofInt 1)) hp hq
def f_X9_pile_84  : Nat → Rec → Int32 → Int32 → Int32 → Int32 → Int32 × Rec
  | 0, m, v1, v2, v3, v5 => (0, m)
  | n + 1, m, v1, v2, v3, v5 => if (Int32.ofInt 36) ≤ v5 then ((Int32.ofInt (-5)), m) else (f_X9_pile_97 (f_X9_pile_84 n) 40 m v1 v2 v3 v5 ((Int32.ofInt 0)) ((Int32.ofInt 0)))
def p_X9_pile_84  : Nat → Rec → Int32 → Int32 → Int32 → Int32 → Prop
  | 0, _, _, _, _, _ => False
  | n + 1, m, v1, v2, v3, v5 => ((Int32.ofInt 36) ≤ v5 → True) ∧ (¬ ((Int32.ofInt 36) ≤ v5) → (p_X9_pile_97 (p_X9_pile_84 n) 40 m v1 v2 v3 v5 ((Int32.ofInt 0)) ((Int32.ofInt 0))))
set_option maxHeartbeats 16000000 in
set_option maxRecDepth 20000 in
theorem l_X9_pile_84 (sc : SC)   (zq : Int32 × Rec)  : ∀ (n : Nat) (m : Rec) (v1 : Int32) (v2 : Int32) (v3 : Int32) (v5 : Int32), p_X9_pile_84 n m v1 v2 v3 v5 → zq = f_X9_pile_84 n m v1 v2 v3 v5 → Good sc 4 0 0 17 mX9_pile (Ret (some (.int (zq.1))) (wM (zq.2))) 0 0 84 [some (.ref 0), some (.int v1), some (.int v2), some (.int v3), none, some (.int v5), none, none] [] (wM m) := by
  intro n
  induction n with
  | zero => intro m v1 v2 v3 v5 hp; exact hp.elim
  | succ n ih =>
    intro m v1 v2 v3 v5 hp hq
    unfold p_X9_pile_84 at hp
    unfold f_X9_pile_84 at hq
    refine g_blk hz0 kX9_pile_84 ?_
    refine ⟨fun c10 => ?_, fun c10 => ?_⟩
    · rw [if_pos (show (Int32.ofInt 36) ≤ v5 from c10)] at hq
      refine g_blk hz0 kX9_pile_185 ?_
      subst hq
      exact ⟨fun h => (by cases h), rfl, rfl⟩
    · rw [if_neg (show ¬ ((Int32.ofInt 36) ≤ v5) from c10)] at hq
      replace hp := hp.2 c10
      refine g_blk hz0 kX9_pile_91 ?_
      refine g_le (L2 := [some (.ref 0), some (.int v1), some (.int v2), some (.int v3), none, some (.int v5), some (.int (Int32.ofInt 0)), some (.int (Int32.ofInt 0))]) ⟨rfl, rfl, rfl, rfl, rfl, rfl, rfl, trivial⟩ ?_
      exact l_X9_pile_97 sc zq (fun r0 r1 r2 r3 r4 hp hq => ih r0 r1 r2 r3 r4 hp hq) 40 m v1 v2 v3 v5 ((Int32.ofInt 0)) ((Int32.ofInt 0)) hp hq
def f_X9_pile_23  : Nat → Rec → Int32 → Int32 → Int32 → Int32 → Int32 → Int32 × Rec
  | 0, m, v1, v2, v3, v4, v5 => (0, m)
  | n + 1, m, v1, v2, v3, v4, v5 => if (Int32.ofInt 36) ≤ v5 then (if v3 = (Int32.ofInt (-1)) then (if v3 = (Int32.ofInt (-1)) then (v4, m) else ((Int32.ofInt (-5)), m)) else (if v3 < v4 then (f_X9_pile_84 40 m v1 v2 v3 ((Int32.ofInt 0))) else (if v3 = (Int32.ofInt (-1)) then (v4, m) else ((Int32.ofInt (-5)), m)))) else (if (f_X9_isAt m v5 v1 v2) = 0 then (f_X9_pile_23 n m v1 v2 v3 (v4 + (Int32.ofInt 0)) (v5 + (Int32.ofInt 1))) else (f_X9_pile_23 n m v1 v2 v3 (v4 + (Int32.ofInt 1)) (v5 + (Int32.ofInt 1))))
def p_X9_pile_23  : Nat → Rec → Int32 → Int32 → Int32 → Int32 → Int32 → Prop
  | 0, _, _, _, _, _, _ => False
  | n + 1, m, v1, v2, v3, v4, v5 => ((Int32.ofInt 36) ≤ v5 → ((v3 = (Int32.ofInt (-1)) → True) ∧ (¬ (v3 = (Int32.ofInt (-1))) → ((v3 < v4 → (p_X9_pile_84 40 m v1 v2 v3 ((Int32.ofInt 0)))) ∧ (¬ (v3 < v4) → True))))) ∧ (¬ ((Int32.ofInt 36) ≤ v5) → ((p_X9_isAt m v5 v1 v2) ∧ (((f_X9_isAt m v5 v1 v2) = 0 → (p_X9_pile_23 n m v1 v2 v3 (v4 + (Int32.ofInt 0)) (v5 + (Int32.ofInt 1)))) ∧ (¬ ((f_X9_isAt m v5 v1 v2) = 0) → (p_X9_pile_23 n m v1 v2 v3 (v4 + (Int32.ofInt 1)) (v5 + (Int32.ofInt 1)))))))
set_option maxHeartbeats 16000000 in
set_option maxRecDepth 20000 in
theorem l_X9_pile_23 (sc : SC)   (zq : Int32 × Rec)  : ∀ (n : Nat) (m : Rec) (v1 : Int32) (v2 : Int32) (v3 : Int32) (v4 : Int32) (v5 : Int32), p_X9_pile_23 n m v1 v2 v3 v4 v5 → zq = f_X9_pile_23 n m v1 v2 v3 v4 v5 → Good sc 4 0 0 17 mX9_pile (Ret (some (.int (zq.1))) (wM (zq.2))) 0 0 23 [some (.ref 0), some (.int v1), some (.int v2), some (.int v3), some (.int v4), some (.int v5), none, none] [] (wM m) := by
  intro n
  induction n with
  | zero => intro m v1 v2 v3 v4 v5 hp; exact hp.elim
  | succ n ih =>
    intro m v1 v2 v3 v4 v5 hp hq
    unfold p_X9_pile_23 at hp
    unfold f_X9_pile_23 at hq
    refine g_blk hz0 kX9_pile_23 ?_
    refine ⟨fun c4 => ?_, fun c4 => ?_⟩
    · rw [if_pos (show (Int32.ofInt 36) ≤ v5 from c4)] at hq
      replace hp := hp.1 c4
      refine g_blk hz0 kX9_pile_57 ?_
      refine ⟨fun c5 => ?_, fun c5 => ?_⟩
      · rw [if_pos (show v3 = (Int32.ofInt (-1)) from c5)] at hq
        refine g_blk hz0 kX9_pile_68 ?_
        refine ⟨fun c6 => ?_, fun c6 => ?_⟩
        · rw [if_neg (show ¬ (v3 = (Int32.ofInt (-1))) from c6)] at hq
          refine g_blk hz0 kX9_pile_78 ?_
          refine g_blk hz0 kX9_pile_80 ?_
          subst hq
          exact ⟨fun h => (by cases h), rfl, rfl⟩
        · rw [if_pos (show v3 = (Int32.ofInt (-1)) from c6)] at hq
          refine g_blk hz0 kX9_pile_73 ?_
          refine g_blk hz0 kX9_pile_80 ?_
          subst hq
          exact ⟨fun h => (by cases h), rfl, rfl⟩
      · rw [if_neg (show ¬ (v3 = (Int32.ofInt (-1))) from c5)] at hq
        replace hp := hp.2 c5
        refine g_blk hz0 kX9_pile_62 ?_
        refine ⟨fun c7 => ?_, fun c7 => ?_⟩
        · rw [if_pos (show v3 < v4 from c7)] at hq
          replace hp := hp.1 c7
          refine g_blk hz0 kX9_pile_81 ?_
          refine g_le (L2 := [some (.ref 0), some (.int v1), some (.int v2), some (.int v3), none, some (.int (Int32.ofInt 0)), none, none]) ⟨rfl, rfl, rfl, rfl, rfl, trivial⟩ ?_
          exact l_X9_pile_84 sc zq 40 m v1 v2 v3 ((Int32.ofInt 0)) hp hq
        · rw [if_neg (show ¬ (v3 < v4) from c7)] at hq
          refine g_blk hz0 kX9_pile_68 ?_
          refine ⟨fun c8 => ?_, fun c8 => ?_⟩
          · rw [if_neg (show ¬ (v3 = (Int32.ofInt (-1))) from c8)] at hq
            refine g_blk hz0 kX9_pile_78 ?_
            refine g_blk hz0 kX9_pile_80 ?_
            subst hq
            exact ⟨fun h => (by cases h), rfl, rfl⟩
          · rw [if_pos (show v3 = (Int32.ofInt (-1)) from c8)] at hq
            refine g_blk hz0 kX9_pile_73 ?_
            refine g_blk hz0 kX9_pile_80 ?_
            subst hq
            exact ⟨fun h => (by cases h), rfl, rfl⟩
    · rw [if_neg (show ¬ ((Int32.ofInt 36) ≤ v5) from c4)] at hq
      replace hp := hp.2 c4
      refine g_blk hz0 kX9_pile_30 ?_
      refine cVp [0, 1, 2, 3, 4, 5, 6, 7, 8, 9, 10, 11, 12, 13, 14, 15, 16] (wM m) (s_X9_isAt m v5 v1 v2 hp.1) rfl cwX9_isAt dX9_pile_37 rfl rfl (hm0_M_M _) ?_
      replace hp := hp.2
      refine g_blk hz0 kX9_pile_40 ?_
      refine ⟨fun c9 => ?_, fun c9 => ?_⟩
      · rw [if_pos (show (f_X9_isAt m v5 v1 v2) = 0 from c9)] at hq
        replace hp := hp.1 c9
        refine g_blk hz0 kX9_pile_47 ?_
        refine g_blk hz0 kX9_pile_48 ?_
        refine g_le (L2 := [some (.ref 0), some (.int v1), some (.int v2), some (.int v3), some (.int (v4 + (Int32.ofInt 0))), some (.int (v5 + (Int32.ofInt 1))), none, none]) ⟨rfl, rfl, rfl, rfl, rfl, rfl, trivial⟩ ?_
        exact ih m v1 v2 v3 (v4 + (Int32.ofInt 0)) (v5 + (Int32.ofInt 1)) hp hq
      · rw [if_neg (show ¬ ((f_X9_isAt m v5 v1 v2) = 0) from c9)] at hq
        replace hp := hp.2 c9
        refine g_blk hz0 kX9_pile_43 ?_
        refine g_blk hz0 kX9_pile_48 ?_
        refine g_le (L2 := [some (.ref 0), some (.int v1), some (.int v2), some (.int v3), some (.int (v4 + (Int32.ofInt 1))), some (.int (v5 + (Int32.ofInt 1))), none, none]) ⟨rfl, rfl, rfl, rfl, rfl, rfl, trivial⟩ ?_
        exact ih m v1 v2 v3 (v4 + (Int32.ofInt 1)) (v5 + (Int32.ofInt 1)) hp hq
def f_X9_pile (m : Rec) (x : Int32) (y : Int32) (i : Int32) : Int32 × Rec := if (Int32.ofInt (-1)) ≤ i then (f_X9_pile_23 40 (f_X9_lays m) x y i ((Int32.ofInt 0)) ((Int32.ofInt 0))) else (((f_X9_refuses m ((Int32.ofInt 0)) ((Int32.ofInt (-10)))).1), ((f_X9_refuses m ((Int32.ofInt 0)) ((Int32.ofInt (-10)))).2))
def p_X9_pile (m : Rec) (x : Int32) (y : Int32) (i : Int32) : Prop := ((Int32.ofInt (-1)) ≤ i → ((p_X9_lays m) ∧ (p_X9_pile_23 40 (f_X9_lays m) x y i ((Int32.ofInt 0)) ((Int32.ofInt 0))))) ∧ (¬ ((Int32.ofInt (-1)) ≤ i) → ((p_X9_refuses m ((Int32.ofInt 0)) ((Int32.ofInt (-10)))) ∧ True))
set_option maxHeartbeats 16000000 in
set_option maxRecDepth 20000 in
theorem s_X9_pile (m : Rec) (x : Int32) (y : Int32) (i : Int32) (hp : p_X9_pile m x y i) : Spec 4 0 0 mX9_pile [.ref 0, .int x, .int y, .int i] (wM m) (Ret (some (.int ((f_X9_pile m x y i).1))) (wM ((f_X9_pile m x y i).2))) := by
  obtain ⟨zq, hq⟩ : ∃ z, z = (f_X9_pile m x y i) := ⟨_, rfl⟩
  rw [← hq]
  unfold f_X9_pile at hq
  unfold p_X9_pile at hp
  refine Sof fun sc => ?_
  refine g_blk hz0 kX9_pile_0 ?_
  refine ⟨fun c1 => ?_, fun c1 => ?_⟩
  · rw [if_pos (show (Int32.ofInt (-1)) ≤ i from c1)] at hq
    replace hp := hp.1 c1
    refine g_blk hz0 kX9_pile_13 ?_
    refine cV [0, 1, 2, 3, 4, 5, 6, 7, 8, 9, 10, 11, 12, 13, 14, 15, 16] (wM m) (s_X9_lays m hp.1) rfl cwX9_lays dX9_pile_14 rfl rfl (hm0_M_M _) ((len_M _).trans (len_M _).symm) (wM (f_X9_lays m)) (pw0_M_M _ _) ?_
    replace hp := hp.2
    obtain ⟨g2, hg2⟩ : ∃ z, z = (f_X9_lays m) := ⟨_, rfl⟩
    try rw [← hg2] at hp
    try rw [← hg2] at hq
    rw [← hg2]
    refine g_blk hz0 kX9_pile_17 ?_
    refine g_le (L2 := [some (.ref 0), some (.int x), some (.int y), some (.int i), some (.int (Int32.ofInt 0)), some (.int (Int32.ofInt 0)), none, none]) ⟨rfl, rfl, rfl, rfl, rfl, rfl, trivial⟩ ?_
    exact l_X9_pile_23 sc zq 40 g2 x y i ((Int32.ofInt 0)) ((Int32.ofInt 0)) hp hq
  · rw [if_neg (show ¬ ((Int32.ofInt (-1)) ≤ i) from c1)] at hq
    replace hp := hp.2 c1
    refine g_blk hz0 kX9_pile_5 ?_
    refine cV [0, 1, 2, 3, 4, 5, 6, 7, 8, 9, 10, 11, 12, 13, 14, 15, 16] (wM m) (s_X9_refuses m ((Int32.ofInt 0)) ((Int32.ofInt (-10))) hp.1) rfl cwX9_refuses dX9_pile_9 rfl rfl (hm0_M_M _) ((len_M _).trans (len_M _).symm) (wM ((f_X9_refuses m ((Int32.ofInt 0)) ((Int32.ofInt (-10)))).2)) (pw0_M_M _ _) ?_
    replace hp := hp.2
    obtain ⟨g3, hg3⟩ : ∃ z, z = (f_X9_refuses m ((Int32.ofInt 0)) ((Int32.ofInt (-10)))) := ⟨_, rfl⟩
    try rw [← hg3] at hp
    try rw [← hg3] at hq
    rw [← hg3]
    refine g_blk hz0 kX9_pile_12 ?_
    subst hq
    exact ⟨fun h => (by cases h), rfl, rfl⟩
