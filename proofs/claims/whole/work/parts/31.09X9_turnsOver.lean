def f_X9_turnsOver_57  : Nat → Rec → Int32 → Int32 → Int32 → Int32 → Int32 → Rec
  | 0, m, v1, v2, v3, v4, v5 => m
  | n + 1, m, v1, v2, v3, v4, v5 => if (Int32.ofInt 36) ≤ v5 then m else (if (f_X9_isCell m v5) = 0 then (f_X9_turnsOver_57 n m v1 v2 v3 v4 (v5 + (Int32.ofInt 1))) else (if (f_X9_moves m v5 v1 v2 v3) = 0 then (f_X9_turnsOver_57 n m v1 v2 v3 v4 (v5 + (Int32.ofInt 1))) else (if v1 = 0 then (if ((m.2 7) (Int32.toNatClampNeg v5)) = 0 then (f_X9_turnsOver_57 n (setA (setA (setA m 4 (upd (m.2 4) (Int32.toNatClampNeg v5) ((((Int32.ofInt 2) * v2) - (Int32.ofInt 1)) - ((m.2 4) (Int32.toNatClampNeg v5))))) 6 (upd (m.2 6) (Int32.toNatClampNeg v5) ((((Int32.ofInt 2) * v4) + (Int32.ofInt 1)) - ((m.2 6) (Int32.toNatClampNeg v5))))) 7 (upd (m.2 7) (Int32.toNatClampNeg v5) (Int32.ofInt 1))) v1 v2 v3 v4 (v5 + (Int32.ofInt 1))) else (f_X9_turnsOver_57 n (setA (setA (setA m 4 (upd (m.2 4) (Int32.toNatClampNeg v5) ((((Int32.ofInt 2) * v2) - (Int32.ofInt 1)) - ((m.2 4) (Int32.toNatClampNeg v5))))) 6 (upd (m.2 6) (Int32.toNatClampNeg v5) ((((Int32.ofInt 2) * v4) + (Int32.ofInt 1)) - ((m.2 6) (Int32.toNatClampNeg v5))))) 7 (upd (m.2 7) (Int32.toNatClampNeg v5) (Int32.ofInt 0))) v1 v2 v3 v4 (v5 + (Int32.ofInt 1)))) else (if ((m.2 7) (Int32.toNatClampNeg v5)) = 0 then (f_X9_turnsOver_57 n (setA (setA (setA m 5 (upd (m.2 5) (Int32.toNatClampNeg v5) ((((Int32.ofInt 2) * v2) - (Int32.ofInt 1)) - ((m.2 5) (Int32.toNatClampNeg v5))))) 6 (upd (m.2 6) (Int32.toNatClampNeg v5) ((((Int32.ofInt 2) * v4) + (Int32.ofInt 1)) - ((m.2 6) (Int32.toNatClampNeg v5))))) 7 (upd (m.2 7) (Int32.toNatClampNeg v5) (Int32.ofInt 1))) v1 v2 v3 v4 (v5 + (Int32.ofInt 1))) else (f_X9_turnsOver_57 n (setA (setA (setA m 5 (upd (m.2 5) (Int32.toNatClampNeg v5) ((((Int32.ofInt 2) * v2) - (Int32.ofInt 1)) - ((m.2 5) (Int32.toNatClampNeg v5))))) 6 (upd (m.2 6) (Int32.toNatClampNeg v5) ((((Int32.ofInt 2) * v4) + (Int32.ofInt 1)) - ((m.2 6) (Int32.toNatClampNeg v5))))) 7 (upd (m.2 7) (Int32.toNatClampNeg v5) (Int32.ofInt 0))) v1 v2 v3 v4 (v5 + (Int32.ofInt 1)))))))
def p_X9_turnsOver_57  : Nat → Rec → Int32 → Int32 → Int32 → Int32 → Int32 → Prop
  | 0, _, _, _, _, _, _ => False
  | n + 1, m, v1, v2, v3, v4, v5 => ((Int32.ofInt 36) ≤ v5 → True) ∧ (¬ ((Int32.ofInt 36) ≤ v5) → ((p_X9_isCell m v5) ∧ (((f_X9_isCell m v5) = 0 → (p_X9_turnsOver_57 n m v1 v2 v3 v4 (v5 + (Int32.ofInt 1)))) ∧ (¬ ((f_X9_isCell m v5) = 0) → ((p_X9_moves m v5 v1 v2 v3) ∧ (((f_X9_moves m v5 v1 v2 v3) = 0 → (p_X9_turnsOver_57 n m v1 v2 v3 v4 (v5 + (Int32.ofInt 1)))) ∧ (¬ ((f_X9_moves m v5 v1 v2 v3) = 0) → ((v1 = 0 → (vp_in v5 36 ∧ (vp_in v5 36 ∧ (vp_in v5 36 ∧ (vp_in v5 36 ∧ (vp_in v5 36 ∧ ((((m.2 7) (Int32.toNatClampNeg v5)) = 0 → (vp_in v5 36 ∧ (p_X9_turnsOver_57 n (setA (setA (setA m 4 (upd (m.2 4) (Int32.toNatClampNeg v5) ((((Int32.ofInt 2) * v2) - (Int32.ofInt 1)) - ((m.2 4) (Int32.toNatClampNeg v5))))) 6 (upd (m.2 6) (Int32.toNatClampNeg v5) ((((Int32.ofInt 2) * v4) + (Int32.ofInt 1)) - ((m.2 6) (Int32.toNatClampNeg v5))))) 7 (upd (m.2 7) (Int32.toNatClampNeg v5) (Int32.ofInt 1))) v1 v2 v3 v4 (v5 + (Int32.ofInt 1))))) ∧ (¬ (((m.2 7) (Int32.toNatClampNeg v5)) = 0) → (vp_in v5 36 ∧ (p_X9_turnsOver_57 n (setA (setA (setA m 4 (upd (m.2 4) (Int32.toNatClampNeg v5) ((((Int32.ofInt 2) * v2) - (Int32.ofInt 1)) - ((m.2 4) (Int32.toNatClampNeg v5))))) 6 (upd (m.2 6) (Int32.toNatClampNeg v5) ((((Int32.ofInt 2) * v4) + (Int32.ofInt 1)) - ((m.2 6) (Int32.toNatClampNeg v5))))) 7 (upd (m.2 7) (Int32.toNatClampNeg v5) (Int32.ofInt 0))) v1 v2 v3 v4 (v5 + (Int32.ofInt 1)))))))))))) ∧ (¬ (v1 = 0) → (vp_in v5 36 ∧ (vp_in v5 36 ∧ (vp_in v5 36 ∧ (vp_in v5 36 ∧ (vp_in v5 36 ∧ ((((m.2 7) (Int32.toNatClampNeg v5)) = 0 → (vp_in v5 36 ∧ (p_X9_turnsOver_57 n (setA (setA (setA m 5 (upd (m.2 5) (Int32.toNatClampNeg v5) ((((Int32.ofInt 2) * v2) - (Int32.ofInt 1)) - ((m.2 5) (Int32.toNatClampNeg v5))))) 6 (upd (m.2 6) (Int32.toNatClampNeg v5) ((((Int32.ofInt 2) * v4) + (Int32.ofInt 1)) - ((m.2 6) (Int32.toNatClampNeg v5))))) 7 (upd (m.2 7) (Int32.toNatClampNeg v5) (Int32.ofInt 1))) v1 v2 v3 v4 (v5 + (Int32.ofInt 1))))) ∧ (¬ (((m.2 7) (Int32.toNatClampNeg v5)) = 0) → (vp_in v5 36 ∧ (p_X9_turnsOver_57 n (setA (setA (setA m 5 (upd (m.2 5) (Int32.toNatClampNeg v5) ((((Int32.ofInt 2) * v2) - (Int32.ofInt 1)) - ((m.2 5) (Int32.toNatClampNeg v5))))) 6 (upd (m.2 6) (Int32.toNatClampNeg v5) ((((Int32.ofInt 2) * v4) + (Int32.ofInt 1)) - ((m.2 6) (Int32.toNatClampNeg v5))))) 7 (upd (m.2 7) (Int32.toNatClampNeg v5) (Int32.ofInt 0))) v1 v2 v3 v4 (v5 + (Int32.ofInt 1))))))))))))))))))))
set_option maxHeartbeats 16000000 in
set_option maxRecDepth 20000 in
theorem l_X9_turnsOver_57 (sc : SC)   (zq : Rec)  : ∀ (n : Nat) (m : Rec) (v1 : Int32) (v2 : Int32) (v3 : Int32) (v4 : Int32) (v5 : Int32), p_X9_turnsOver_57 n m v1 v2 v3 v4 v5 → zq = f_X9_turnsOver_57 n m v1 v2 v3 v4 v5 → Good sc 2 0 0 17 mX9_turnsOver (Ret none (wM (zq))) 0 0 57 [some (.ref 0), some (.int v1), some (.int v2), some (.int v3), some (.int v4), some (.int v5)] [] (wM m) := by
  intro n
  induction n with
  | zero => intro m v1 v2 v3 v4 v5 hp; exact hp.elim
  | succ n ih =>
    intro m v1 v2 v3 v4 v5 hp hq
    unfold p_X9_turnsOver_57 at hp
    unfold f_X9_turnsOver_57 at hq
    refine g_blk hz0 kX9_turnsOver_57 ?_
    refine ⟨fun c4 => ?_, fun c4 => ?_⟩
    · rw [if_pos (show (Int32.ofInt 36) ≤ v5 from c4)] at hq
      refine g_blk hz0 kX9_turnsOver_181 ?_
      subst hq
      exact ⟨rfl, rfl⟩
    · rw [if_neg (show ¬ ((Int32.ofInt 36) ≤ v5) from c4)] at hq
      replace hp := hp.2 c4
      refine g_blk hz0 kX9_turnsOver_64 ?_
      refine cVp [0, 1, 2, 3, 4, 5, 6, 7, 8, 9, 10, 11, 12, 13, 14, 15, 16] (wM m) (s_X9_isCell m v5 hp.1) rfl cwX9_isCell dX9_turnsOver_67 rfl rfl (hm0_M_M _) ?_
      replace hp := hp.2
      refine g_blk hz0 kX9_turnsOver_70 ?_
      refine ⟨fun c5 => ?_, fun c5 => ?_⟩
      · rw [if_pos (show (f_X9_isCell m v5) = 0 from c5)] at hq
        replace hp := hp.1 c5
        refine g_blk hz0 kX9_turnsOver_175 ?_
        refine g_le (L2 := [some (.ref 0), some (.int v1), some (.int v2), some (.int v3), some (.int v4), some (.int (v5 + (Int32.ofInt 1)))]) ⟨rfl, rfl, rfl, rfl, rfl, rfl, trivial⟩ ?_
        exact ih m v1 v2 v3 v4 (v5 + (Int32.ofInt 1)) hp hq
      · rw [if_neg (show ¬ ((f_X9_isCell m v5) = 0) from c5)] at hq
        replace hp := hp.2 c5
        refine g_blk hz0 kX9_turnsOver_73 ?_
        refine cVp [0, 1, 2, 3, 4, 5, 6, 7, 8, 9, 10, 11, 12, 13, 14, 15, 16] (wM m) (s_X9_moves m v5 v1 v2 v3 hp.1) rfl cwX9_moves dX9_turnsOver_79 rfl rfl (hm0_M_M _) ?_
        replace hp := hp.2
        refine g_blk hz0 kX9_turnsOver_82 ?_
        refine ⟨fun c6 => ?_, fun c6 => ?_⟩
        · rw [if_pos (show (f_X9_moves m v5 v1 v2 v3) = 0 from c6)] at hq
          replace hp := hp.1 c6
          refine g_blk hz0 kX9_turnsOver_175 ?_
          refine g_le (L2 := [some (.ref 0), some (.int v1), some (.int v2), some (.int v3), some (.int v4), some (.int (v5 + (Int32.ofInt 1)))]) ⟨rfl, rfl, rfl, rfl, rfl, rfl, trivial⟩ ?_
          exact ih m v1 v2 v3 v4 (v5 + (Int32.ofInt 1)) hp hq
        · rw [if_neg (show ¬ ((f_X9_moves m v5 v1 v2 v3) = 0) from c6)] at hq
          replace hp := hp.2 c6
          refine g_blk hz0 kX9_turnsOver_85 ?_
          refine ⟨fun c7 => ?_, fun c7 => ?_⟩
          · rw [if_neg (show ¬ (v1 = 0) from c7)] at hq
            replace hp := hp.2 c7
            refine g_blk hz0 kX9_turnsOver_112 ?_
            refine ⟨hp.1, ?_⟩
            replace hp := hp.2
            refine ⟨hp.1, ?_⟩
            replace hp := hp.2
            refine g_blk hz0 kX9_turnsOver_132 ?_
            refine ⟨hp.1, ?_⟩
            replace hp := hp.2
            refine ⟨hp.1, ?_⟩
            replace hp := hp.2
            refine ⟨hp.1, ?_⟩
            replace hp := hp.2
            refine ⟨fun c9 => ?_, fun c9 => ?_⟩
            · rw [if_neg (show ¬ (((m.2 7) (Int32.toNatClampNeg v5)) = 0) from c9)] at hq
              replace hp := hp.2 c9
              refine g_blk hz0 kX9_turnsOver_173 ?_
              refine g_blk hz0 kX9_turnsOver_174 ?_
              refine ⟨hp.1, ?_⟩
              replace hp := hp.2
              refine ⟨Or.inl rfl, ?_⟩
              refine g_blk hz0 kX9_turnsOver_175 ?_
              refine g_le (L2 := [some (.ref 0), some (.int v1), some (.int v2), some (.int v3), some (.int v4), some (.int (v5 + (Int32.ofInt 1)))]) ⟨rfl, rfl, rfl, rfl, rfl, rfl, trivial⟩ ?_
              exact ih (setA (setA (setA m 5 (upd (m.2 5) (Int32.toNatClampNeg v5) ((((Int32.ofInt 2) * v2) - (Int32.ofInt 1)) - ((m.2 5) (Int32.toNatClampNeg v5))))) 6 (upd (m.2 6) (Int32.toNatClampNeg v5) ((((Int32.ofInt 2) * v4) + (Int32.ofInt 1)) - ((m.2 6) (Int32.toNatClampNeg v5))))) 7 (upd (m.2 7) (Int32.toNatClampNeg v5) (Int32.ofInt 0))) v1 v2 v3 v4 (v5 + (Int32.ofInt 1)) hp hq
            · rw [if_pos (show ((m.2 7) (Int32.toNatClampNeg v5)) = 0 from c9)] at hq
              replace hp := hp.1 c9
              refine g_blk hz0 kX9_turnsOver_169 ?_
              refine g_blk hz0 kX9_turnsOver_174 ?_
              refine ⟨hp.1, ?_⟩
              replace hp := hp.2
              refine ⟨Or.inr rfl, ?_⟩
              refine g_blk hz0 kX9_turnsOver_175 ?_
              refine g_le (L2 := [some (.ref 0), some (.int v1), some (.int v2), some (.int v3), some (.int v4), some (.int (v5 + (Int32.ofInt 1)))]) ⟨rfl, rfl, rfl, rfl, rfl, rfl, trivial⟩ ?_
              exact ih (setA (setA (setA m 5 (upd (m.2 5) (Int32.toNatClampNeg v5) ((((Int32.ofInt 2) * v2) - (Int32.ofInt 1)) - ((m.2 5) (Int32.toNatClampNeg v5))))) 6 (upd (m.2 6) (Int32.toNatClampNeg v5) ((((Int32.ofInt 2) * v4) + (Int32.ofInt 1)) - ((m.2 6) (Int32.toNatClampNeg v5))))) 7 (upd (m.2 7) (Int32.toNatClampNeg v5) (Int32.ofInt 1))) v1 v2 v3 v4 (v5 + (Int32.ofInt 1)) hp hq
          · rw [if_pos (show v1 = 0 from c7)] at hq
            replace hp := hp.1 c7
            refine g_blk hz0 kX9_turnsOver_89 ?_
            refine ⟨hp.1, ?_⟩
            replace hp := hp.2
            refine ⟨hp.1, ?_⟩
            replace hp := hp.2
            refine g_blk hz0 kX9_turnsOver_132 ?_
            refine ⟨hp.1, ?_⟩
            replace hp := hp.2
            refine ⟨hp.1, ?_⟩
            replace hp := hp.2
            refine ⟨hp.1, ?_⟩
            replace hp := hp.2
            refine ⟨fun c8 => ?_, fun c8 => ?_⟩
            · rw [if_neg (show ¬ (((m.2 7) (Int32.toNatClampNeg v5)) = 0) from c8)] at hq
              replace hp := hp.2 c8
              refine g_blk hz0 kX9_turnsOver_173 ?_
              refine g_blk hz0 kX9_turnsOver_174 ?_
              refine ⟨hp.1, ?_⟩
              replace hp := hp.2
              refine ⟨Or.inl rfl, ?_⟩
              refine g_blk hz0 kX9_turnsOver_175 ?_
              refine g_le (L2 := [some (.ref 0), some (.int v1), some (.int v2), some (.int v3), some (.int v4), some (.int (v5 + (Int32.ofInt 1)))]) ⟨rfl, rfl, rfl, rfl, rfl, rfl, trivial⟩ ?_
              exact ih (setA (setA (setA m 4 (upd (m.2 4) (Int32.toNatClampNeg v5) ((((Int32.ofInt 2) * v2) - (Int32.ofInt 1)) - ((m.2 4) (Int32.toNatClampNeg v5))))) 6 (upd (m.2 6) (Int32.toNatClampNeg v5) ((((Int32.ofInt 2) * v4) + (Int32.ofInt 1)) - ((m.2 6) (Int32.toNatClampNeg v5))))) 7 (upd (m.2 7) (Int32.toNatClampNeg v5) (Int32.ofInt 0))) v1 v2 v3 v4 (v5 + (Int32.ofInt 1)) hp hq
            · rw [if_pos (show ((m.2 7) (Int32.toNatClampNeg v5)) = 0 from c8)] at hq
              replace hp := hp.1 c8
              refine g_blk hz0 kX9_turnsOver_169 ?_
              refine g_blk hz0 kX9_turnsOver_174 ?_
              refine ⟨hp.1, ?_⟩
              replace hp := hp.2
              refine ⟨Or.inr rfl, ?_⟩
              refine g_blk hz0 kX9_turnsOver_175 ?_
              refine g_le (L2 := [some (.ref 0), some (.int v1), some (.int v2), some (.int v3), some (.int v4), some (.int (v5 + (Int32.ofInt 1)))]) ⟨rfl, rfl, rfl, rfl, rfl, rfl, trivial⟩ ?_
              exact ih (setA (setA (setA m 4 (upd (m.2 4) (Int32.toNatClampNeg v5) ((((Int32.ofInt 2) * v2) - (Int32.ofInt 1)) - ((m.2 4) (Int32.toNatClampNeg v5))))) 6 (upd (m.2 6) (Int32.toNatClampNeg v5) ((((Int32.ofInt 2) * v4) + (Int32.ofInt 1)) - ((m.2 6) (Int32.toNatClampNeg v5))))) 7 (upd (m.2 7) (Int32.toNatClampNeg v5) (Int32.ofInt 1))) v1 v2 v3 v4 (v5 + (Int32.ofInt 1)) hp hq
def f_X9_turnsOver_6  : Nat → Rec → Int32 → Int32 → Int32 → Int32 → Int32 → Rec
  | 0, m, v1, v2, v3, v4, v5 => m
  | n + 1, m, v1, v2, v3, v4, v5 => if (Int32.ofInt 36) ≤ v5 then (f_X9_turnsOver_57 40 m v1 v2 v3 v4 ((Int32.ofInt 0))) else (if (f_X9_isCell m v5) = 0 then (f_X9_turnsOver_6 n m v1 v2 v3 v4 (v5 + (Int32.ofInt 1))) else (if ((m.2 6) (Int32.toNatClampNeg v5)) ≤ v4 then (f_X9_turnsOver_6 n m v1 v2 v3 v4 (v5 + (Int32.ofInt 1))) else (f_X9_turnsOver_6 n m v1 v2 v3 ((m.2 6) (Int32.toNatClampNeg v5)) (v5 + (Int32.ofInt 1)))))
def p_X9_turnsOver_6  : Nat → Rec → Int32 → Int32 → Int32 → Int32 → Int32 → Prop
  | 0, _, _, _, _, _, _ => False
  | n + 1, m, v1, v2, v3, v4, v5 => ((Int32.ofInt 36) ≤ v5 → (p_X9_turnsOver_57 40 m v1 v2 v3 v4 ((Int32.ofInt 0)))) ∧ (¬ ((Int32.ofInt 36) ≤ v5) → ((p_X9_isCell m v5) ∧ (((f_X9_isCell m v5) = 0 → (p_X9_turnsOver_6 n m v1 v2 v3 v4 (v5 + (Int32.ofInt 1)))) ∧ (¬ ((f_X9_isCell m v5) = 0) → (vp_in v5 36 ∧ ((((m.2 6) (Int32.toNatClampNeg v5)) ≤ v4 → (p_X9_turnsOver_6 n m v1 v2 v3 v4 (v5 + (Int32.ofInt 1)))) ∧ (¬ (((m.2 6) (Int32.toNatClampNeg v5)) ≤ v4) → (vp_in v5 36 ∧ (p_X9_turnsOver_6 n m v1 v2 v3 ((m.2 6) (Int32.toNatClampNeg v5)) (v5 + (Int32.ofInt 1)))))))))))
set_option maxHeartbeats 16000000 in
set_option maxRecDepth 20000 in
theorem l_X9_turnsOver_6 (sc : SC)   (zq : Rec)  : ∀ (n : Nat) (m : Rec) (v1 : Int32) (v2 : Int32) (v3 : Int32) (v4 : Int32) (v5 : Int32), p_X9_turnsOver_6 n m v1 v2 v3 v4 v5 → zq = f_X9_turnsOver_6 n m v1 v2 v3 v4 v5 → Good sc 2 0 0 17 mX9_turnsOver (Ret none (wM (zq))) 0 0 6 [some (.ref 0), some (.int v1), some (.int v2), some (.int v3), some (.int v4), some (.int v5)] [] (wM m) := by
  intro n
  induction n with
  | zero => intro m v1 v2 v3 v4 v5 hp; exact hp.elim
  | succ n ih =>
    intro m v1 v2 v3 v4 v5 hp hq
    unfold p_X9_turnsOver_6 at hp
    unfold f_X9_turnsOver_6 at hq
    refine g_blk hz0 kX9_turnsOver_6 ?_
    refine ⟨fun c1 => ?_, fun c1 => ?_⟩
    · rw [if_pos (show (Int32.ofInt 36) ≤ v5 from c1)] at hq
      replace hp := hp.1 c1
      refine g_blk hz0 kX9_turnsOver_54 ?_
      refine g_le (L2 := [some (.ref 0), some (.int v1), some (.int v2), some (.int v3), some (.int v4), some (.int (Int32.ofInt 0))]) ⟨rfl, rfl, rfl, rfl, rfl, rfl, trivial⟩ ?_
      exact l_X9_turnsOver_57 sc zq 40 m v1 v2 v3 v4 ((Int32.ofInt 0)) hp hq
    · rw [if_neg (show ¬ ((Int32.ofInt 36) ≤ v5) from c1)] at hq
      replace hp := hp.2 c1
      refine g_blk hz0 kX9_turnsOver_13 ?_
      refine cVp [0, 1, 2, 3, 4, 5, 6, 7, 8, 9, 10, 11, 12, 13, 14, 15, 16] (wM m) (s_X9_isCell m v5 hp.1) rfl cwX9_isCell dX9_turnsOver_16 rfl rfl (hm0_M_M _) ?_
      replace hp := hp.2
      refine g_blk hz0 kX9_turnsOver_19 ?_
      refine ⟨fun c2 => ?_, fun c2 => ?_⟩
      · rw [if_pos (show (f_X9_isCell m v5) = 0 from c2)] at hq
        replace hp := hp.1 c2
        refine g_blk hz0 kX9_turnsOver_44 ?_
        refine g_blk hz0 kX9_turnsOver_46 ?_
        refine g_le (L2 := [some (.ref 0), some (.int v1), some (.int v2), some (.int v3), some (.int v4), some (.int (v5 + (Int32.ofInt 1)))]) ⟨rfl, rfl, rfl, rfl, rfl, rfl, trivial⟩ ?_
        exact ih m v1 v2 v3 v4 (v5 + (Int32.ofInt 1)) hp hq
      · rw [if_neg (show ¬ ((f_X9_isCell m v5) = 0) from c2)] at hq
        replace hp := hp.2 c2
        refine g_blk hz0 kX9_turnsOver_22 ?_
        refine ⟨hp.1, ?_⟩
        replace hp := hp.2
        refine ⟨fun c3 => ?_, fun c3 => ?_⟩
        · rw [if_pos (show ((m.2 6) (Int32.toNatClampNeg v5)) ≤ v4 from c3)] at hq
          replace hp := hp.1 c3
          refine g_blk hz0 kX9_turnsOver_44 ?_
          refine g_blk hz0 kX9_turnsOver_46 ?_
          refine g_le (L2 := [some (.ref 0), some (.int v1), some (.int v2), some (.int v3), some (.int v4), some (.int (v5 + (Int32.ofInt 1)))]) ⟨rfl, rfl, rfl, rfl, rfl, rfl, trivial⟩ ?_
          exact ih m v1 v2 v3 v4 (v5 + (Int32.ofInt 1)) hp hq
        · rw [if_neg (show ¬ (((m.2 6) (Int32.toNatClampNeg v5)) ≤ v4) from c3)] at hq
          replace hp := hp.2 c3
          refine g_blk hz0 kX9_turnsOver_34 ?_
          refine ⟨hp.1, ?_⟩
          replace hp := hp.2
          refine g_blk hz0 kX9_turnsOver_46 ?_
          refine g_le (L2 := [some (.ref 0), some (.int v1), some (.int v2), some (.int v3), some (.int ((m.2 6) (Int32.toNatClampNeg v5))), some (.int (v5 + (Int32.ofInt 1)))]) ⟨rfl, rfl, rfl, rfl, rfl, rfl, trivial⟩ ?_
          exact ih m v1 v2 v3 ((m.2 6) (Int32.toNatClampNeg v5)) (v5 + (Int32.ofInt 1)) hp hq
def f_X9_turnsOver (m : Rec) (a : Int32) (l : Int32) (w : Int32) : Rec := (f_X9_turnsOver_6 40 m a l w ((Int32.ofInt 0)) ((Int32.ofInt 0)))
def p_X9_turnsOver (m : Rec) (a : Int32) (l : Int32) (w : Int32) : Prop := (p_X9_turnsOver_6 40 m a l w ((Int32.ofInt 0)) ((Int32.ofInt 0)))
set_option maxHeartbeats 16000000 in
set_option maxRecDepth 20000 in
theorem s_X9_turnsOver (m : Rec) (a : Int32) (l : Int32) (w : Int32) (hp : p_X9_turnsOver m a l w) : Spec 2 0 0 mX9_turnsOver [.ref 0, .int a, .int l, .int w] (wM m) (Ret none (wM ((f_X9_turnsOver m a l w)))) := by
  obtain ⟨zq, hq⟩ : ∃ z, z = (f_X9_turnsOver m a l w) := ⟨_, rfl⟩
  rw [← hq]
  unfold f_X9_turnsOver at hq
  unfold p_X9_turnsOver at hp
  refine Sof fun sc => ?_
  refine g_blk hz0 kX9_turnsOver_0 ?_
  refine g_le (L2 := [some (.ref 0), some (.int a), some (.int l), some (.int w), some (.int (Int32.ofInt 0)), some (.int (Int32.ofInt 0))]) ⟨rfl, rfl, rfl, rfl, rfl, rfl, trivial⟩ ?_
  exact l_X9_turnsOver_6 sc zq 40 m a l w ((Int32.ofInt 0)) ((Int32.ofInt 0)) hp hq
