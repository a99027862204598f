def f_X9_plays_224 (K8 : Rec → Int32 → Int32 → Int32 → Int32 → Int32 → Int32 × Rec) (m : Rec) (v1 : Int32) (v2 : Int32) (v3 : Int32) (v4 : Int32) (v5 : Int32) (v6 : Int32) : Int32 × Rec := if v6 = 0 then (if ((m.2 16) (Int32.toNatClampNeg v3)) = 0 then (K8 m v1 v2 (v3 + (Int32.ofInt (-1))) ((Int32.ofInt 0)) ((Int32.ofInt 0))) else (if (f_X9_turn m) = v2 then (K8 m v1 v2 (v3 + (Int32.ofInt (-1))) ((Int32.ofInt 0)) ((Int32.ofInt 0))) else (K8 m v1 v2 (v3 + (Int32.ofInt (-1))) ((Int32.ofInt 0)) ((Int32.ofInt 1))))) else (K8 m v1 v2 (v3 + (Int32.ofInt 1)) v4 v5)
def p_X9_plays_224 (G8 : Rec → Int32 → Int32 → Int32 → Int32 → Int32 → Prop) (m : Rec) (v1 : Int32) (v2 : Int32) (v3 : Int32) (v4 : Int32) (v5 : Int32) (v6 : Int32) : Prop := (v6 = 0 → (vp_in v3 5 ∧ ((((m.2 16) (Int32.toNatClampNeg v3)) = 0 → (G8 m v1 v2 (v3 + (Int32.ofInt (-1))) ((Int32.ofInt 0)) ((Int32.ofInt 0)))) ∧ (¬ (((m.2 16) (Int32.toNatClampNeg v3)) = 0) → (((f_X9_turn m) = v2 → (G8 m v1 v2 (v3 + (Int32.ofInt (-1))) ((Int32.ofInt 0)) ((Int32.ofInt 0)))) ∧ (¬ ((f_X9_turn m) = v2) → (G8 m v1 v2 (v3 + (Int32.ofInt (-1))) ((Int32.ofInt 0)) ((Int32.ofInt 1))))))))) ∧ (¬ (v6 = 0) → (G8 m v1 v2 (v3 + (Int32.ofInt 1)) v4 v5))
set_option maxHeartbeats 16000000 in
set_option maxRecDepth 20000 in
theorem l_X9_plays_224 (sc : SC)  {K8 : Rec → Int32 → Int32 → Int32 → Int32 → Int32 → Int32 × Rec} {G8 : Rec → Int32 → Int32 → Int32 → Int32 → Int32 → Prop} (zq : Int32 × Rec) (hK8 : ∀ (m : Rec) (v1 : Int32) (v2 : Int32) (v3 : Int32) (v4 : Int32) (v5 : Int32), G8 m v1 v2 v3 v4 v5 → zq = K8 m v1 v2 v3 v4 v5 → Good sc 7 0 0 17 mX9_plays (Ret (some (.int (zq.1))) (wM (zq.2))) 0 0 8 [some (.ref 0), some (.int v1), some (.int v2), some (.int v3), some (.int v4), some (.int v5), none, none] [] (wM m)) (m : Rec) (v1 : Int32) (v2 : Int32) (v3 : Int32) (v4 : Int32) (v5 : Int32) (v6 : Int32) (hp : p_X9_plays_224 G8 m v1 v2 v3 v4 v5 v6) (hq : zq = f_X9_plays_224 K8 m v1 v2 v3 v4 v5 v6) : Good sc 7 0 0 17 mX9_plays (Ret (some (.int (zq.1))) (wM (zq.2))) 0 0 224 [some (.ref 0), some (.int v1), some (.int v2), some (.int v3), some (.int v4), some (.int v5), some (.int v6), none] [] (wM m) := by
  unfold p_X9_plays_224 at hp
  unfold f_X9_plays_224 at hq
  refine g_blk hz0 kX9_plays_224 ?_
  refine ⟨fun c22 => ?_, fun c22 => ?_⟩
  · rw [if_pos (show v6 = 0 from c22)] at hq
    replace hp := hp.1 c22
    refine g_blk hz0 kX9_plays_235 ?_
    refine ⟨hp.1, ?_⟩
    replace hp := hp.2
    refine ⟨fun c23 => ?_, fun c23 => ?_⟩
    · rw [if_pos (show ((m.2 16) (Int32.toNatClampNeg v3)) = 0 from c23)] at hq
      replace hp := hp.1 c23
      refine g_blk hz0 kX9_plays_256 ?_
      refine g_blk hz0 kX9_plays_257 ?_
      refine g_blk hz0 kX9_plays_265 ?_
      refine g_le (L2 := [some (.ref 0), some (.int v1), some (.int v2), some (.int (v3 + (Int32.ofInt (-1)))), some (.int (Int32.ofInt 0)), some (.int (Int32.ofInt 0)), none, none]) ⟨rfl, rfl, rfl, rfl, rfl, rfl, trivial⟩ ?_
      exact hK8 m v1 v2 (v3 + (Int32.ofInt (-1))) ((Int32.ofInt 0)) ((Int32.ofInt 0)) hp hq
    · rw [if_neg (show ¬ (((m.2 16) (Int32.toNatClampNeg v3)) = 0) from c23)] at hq
      replace hp := hp.2 c23
      refine g_blk hz0 kX9_plays_244 ?_
      refine cVp [0, 1, 2, 3, 4, 5, 6, 7, 8, 9, 10, 11, 12, 13, 14, 15, 16] (wM m) (s_X9_turn m) rfl cwX9_turn dX9_plays_245 rfl rfl (hm0_M_M _) ?_
      refine g_blk hz0 kX9_plays_248 ?_
      refine ⟨fun c24 => ?_, fun c24 => ?_⟩
      · rw [if_pos (show (f_X9_turn m) = v2 from c24)] at hq
        replace hp := hp.1 c24
        refine g_blk hz0 kX9_plays_256 ?_
        refine g_blk hz0 kX9_plays_257 ?_
        refine g_blk hz0 kX9_plays_265 ?_
        refine g_le (L2 := [some (.ref 0), some (.int v1), some (.int v2), some (.int (v3 + (Int32.ofInt (-1)))), some (.int (Int32.ofInt 0)), some (.int (Int32.ofInt 0)), none, none]) ⟨rfl, rfl, rfl, rfl, rfl, rfl, trivial⟩ ?_
        exact hK8 m v1 v2 (v3 + (Int32.ofInt (-1))) ((Int32.ofInt 0)) ((Int32.ofInt 0)) hp hq
      · rw [if_neg (show ¬ ((f_X9_turn m) = v2) from c24)] at hq
        replace hp := hp.2 c24
        refine g_blk hz0 kX9_plays_252 ?_
        refine g_blk hz0 kX9_plays_257 ?_
        refine g_blk hz0 kX9_plays_265 ?_
        refine g_le (L2 := [some (.ref 0), some (.int v1), some (.int v2), some (.int (v3 + (Int32.ofInt (-1)))), some (.int (Int32.ofInt 0)), some (.int (Int32.ofInt 1)), none, none]) ⟨rfl, rfl, rfl, rfl, rfl, rfl, trivial⟩ ?_
        exact hK8 m v1 v2 (v3 + (Int32.ofInt (-1))) ((Int32.ofInt 0)) ((Int32.ofInt 1)) hp hq
  · rw [if_neg (show ¬ (v6 = 0) from c22)] at hq
    replace hp := hp.2 c22
    refine g_blk hz0 kX9_plays_229 ?_
    refine g_blk hz0 kX9_plays_265 ?_
    refine g_le (L2 := [some (.ref 0), some (.int v1), some (.int v2), some (.int (v3 + (Int32.ofInt 1))), some (.int v4), some (.int v5), none, none]) ⟨rfl, rfl, rfl, rfl, rfl, rfl, trivial⟩ ?_
    exact hK8 m v1 v2 (v3 + (Int32.ofInt 1)) v4 v5 hp hq
def f_X9_plays_154 (K8 : Rec → Int32 → Int32 → Int32 → Int32 → Int32 → Int32 × Rec) : Nat → Rec → Int32 → Int32 → Int32 → Int32 → Int32 → Int32 → Int32 → Int32 × Rec
  | 0, m, v1, v2, v3, v4, v5, v6, v7 => (0, m)
  | n + 1, m, v1, v2, v3, v4, v5, v6, v7 => if v7 = 0 then (f_X9_plays_224 K8 m v1 v2 v3 v4 v5 v6) else (if v6 = 0 then (if ((f_X9_picksStep m ((m.2 15) (Int32.toNatClampNeg v3))).1) = 0 then (f_X9_plays_154 K8 n (setA ((f_X9_picksStep m ((m.2 15) (Int32.toNatClampNeg v3))).2) 15 (upd (((f_X9_picksStep m ((m.2 15) (Int32.toNatClampNeg v3))).2).2 15) (Int32.toNatClampNeg v3) (((((f_X9_picksStep m ((m.2 15) (Int32.toNatClampNeg v3))).2).2 15) (Int32.toNatClampNeg v3)) + (Int32.ofInt 1)))) v1 v2 v3 v4 v5 ((Int32.ofInt 0)) ((f_X9_picksStep m ((m.2 15) (Int32.toNatClampNeg v3))).1)) else (if ((f_X9_steps (setA ((f_X9_picksStep m ((m.2 15) (Int32.toNatClampNeg v3))).2) 15 (upd (((f_X9_picksStep m ((m.2 15) (Int32.toNatClampNeg v3))).2).2 15) (Int32.toNatClampNeg v3) (((((f_X9_picksStep m ((m.2 15) (Int32.toNatClampNeg v3))).2).2 15) (Int32.toNatClampNeg v3)) + (Int32.ofInt 1)))) (((f_X9_picksStep m ((m.2 15) (Int32.toNatClampNeg v3))).2).1 18) (((f_X9_picksStep m ((m.2 15) (Int32.toNatClampNeg v3))).2).1 19) (((f_X9_picksStep m ((m.2 15) (Int32.toNatClampNeg v3))).2).1 20) (((f_X9_picksStep m ((m.2 15) (Int32.toNatClampNeg v3))).2).1 21)).1) = 0 then (f_X9_plays_154 K8 n ((f_X9_steps (setA ((f_X9_picksStep m ((m.2 15) (Int32.toNatClampNeg v3))).2) 15 (upd (((f_X9_picksStep m ((m.2 15) (Int32.toNatClampNeg v3))).2).2 15) (Int32.toNatClampNeg v3) (((((f_X9_picksStep m ((m.2 15) (Int32.toNatClampNeg v3))).2).2 15) (Int32.toNatClampNeg v3)) + (Int32.ofInt 1)))) (((f_X9_picksStep m ((m.2 15) (Int32.toNatClampNeg v3))).2).1 18) (((f_X9_picksStep m ((m.2 15) (Int32.toNatClampNeg v3))).2).1 19) (((f_X9_picksStep m ((m.2 15) (Int32.toNatClampNeg v3))).2).1 20) (((f_X9_picksStep m ((m.2 15) (Int32.toNatClampNeg v3))).2).1 21)).2) v1 v2 v3 v4 v5 ((Int32.ofInt 0)) ((f_X9_picksStep m ((m.2 15) (Int32.toNatClampNeg v3))).1)) else (f_X9_plays_154 K8 n ((f_X9_steps (setA ((f_X9_picksStep m ((m.2 15) (Int32.toNatClampNeg v3))).2) 15 (upd (((f_X9_picksStep m ((m.2 15) (Int32.toNatClampNeg v3))).2).2 15) (Int32.toNatClampNeg v3) (((((f_X9_picksStep m ((m.2 15) (Int32.toNatClampNeg v3))).2).2 15) (Int32.toNatClampNeg v3)) + (Int32.ofInt 1)))) (((f_X9_picksStep m ((m.2 15) (Int32.toNatClampNeg v3))).2).1 18) (((f_X9_picksStep m ((m.2 15) (Int32.toNatClampNeg v3))).2).1 19) (((f_X9_picksStep m ((m.2 15) (Int32.toNatClampNeg v3))).2).1 20) (((f_X9_picksStep m ((m.2 15) (Int32.toNatClampNeg v3))).2).1 21)).2) v1 v2 v3 v4 v5 ((Int32.ofInt 1)) ((f_X9_picksStep m ((m.2 15) (Int32.toNatClampNeg v3))).1)))) else (f_X9_plays_224 K8 m v1 v2 v3 v4 v5 v6))
def p_X9_plays_154 (G8 : Rec → Int32 → Int32 → Int32 → Int32 → Int32 → Prop) : Nat → Rec → Int32 → Int32 → Int32 → Int32 → Int32 → Int32 → Int32 → Prop
  | 0, _, _, _, _, _, _, _, _ => False
  | n + 1, m, v1, v2, v3, v4, v5, v6, v7 => (v7 = 0 → (p_X9_plays_224 G8 m v1 v2 v3 v4 v5 v6)) ∧ (¬ (v7 = 0) → ((v6 = 0 → (vp_in v3 5 ∧ ((p_X9_picksStep m ((m.2 15) (Int32.toNatClampNeg v3))) ∧ (vp_in v3 5 ∧ (vp_in v3 5 ∧ ((((f_X9_picksStep m ((m.2 15) (Int32.toNatClampNeg v3))).1) = 0 → (p_X9_plays_154 G8 n (setA ((f_X9_picksStep m ((m.2 15) (Int32.toNatClampNeg v3))).2) 15 (upd (((f_X9_picksStep m ((m.2 15) (Int32.toNatClampNeg v3))).2).2 15) (Int32.toNatClampNeg v3) (((((f_X9_picksStep m ((m.2 15) (Int32.toNatClampNeg v3))).2).2 15) (Int32.toNatClampNeg v3)) + (Int32.ofInt 1)))) v1 v2 v3 v4 v5 ((Int32.ofInt 0)) ((f_X9_picksStep m ((m.2 15) (Int32.toNatClampNeg v3))).1))) ∧ (¬ (((f_X9_picksStep m ((m.2 15) (Int32.toNatClampNeg v3))).1) = 0) → ((p_X9_steps (setA ((f_X9_picksStep m ((m.2 15) (Int32.toNatClampNeg v3))).2) 15 (upd (((f_X9_picksStep m ((m.2 15) (Int32.toNatClampNeg v3))).2).2 15) (Int32.toNatClampNeg v3) (((((f_X9_picksStep m ((m.2 15) (Int32.toNatClampNeg v3))).2).2 15) (Int32.toNatClampNeg v3)) + (Int32.ofInt 1)))) (((f_X9_picksStep m ((m.2 15) (Int32.toNatClampNeg v3))).2).1 18) (((f_X9_picksStep m ((m.2 15) (Int32.toNatClampNeg v3))).2).1 19) (((f_X9_picksStep m ((m.2 15) (Int32.toNatClampNeg v3))).2).1 20) (((f_X9_picksStep m ((m.2 15) (Int32.toNatClampNeg v3))).2).1 21)) ∧ ((((f_X9_steps (setA ((f_X9_picksStep m ((m.2 15) (Int32.toNatClampNeg v3))).2) 15 (upd (((f_X9_picksStep m ((m.2 15) (Int32.toNatClampNeg v3))).2).2 15) (Int32.toNatClampNeg v3) (((((f_X9_picksStep m ((m.2 15) (Int32.toNatClampNeg v3))).2).2 15) (Int32.toNatClampNeg v3)) + (Int32.ofInt 1)))) (((f_X9_picksStep m ((m.2 15) (Int32.toNatClampNeg v3))).2).1 18) (((f_X9_picksStep m ((m.2 15) (Int32.toNatClampNeg v3))).2).1 19) (((f_X9_picksStep m ((m.2 15) (Int32.toNatClampNeg v3))).2).1 20) (((f_X9_picksStep m ((m.2 15) (Int32.toNatClampNeg v3))).2).1 21)).1) = 0 → (p_X9_plays_154 G8 n ((f_X9_steps (setA ((f_X9_picksStep m ((m.2 15) (Int32.toNatClampNeg v3))).2) 15 (upd (((f_X9_picksStep m ((m.2 15) (Int32.toNatClampNeg v3))).2).2 15) (Int32.toNatClampNeg v3) (((((f_X9_picksStep m ((m.2 15) (Int32.toNatClampNeg v3))).2).2 15) (Int32.toNatClampNeg v3)) + (Int32.ofInt 1)))) (((f_X9_picksStep m ((m.2 15) (Int32.toNatClampNeg v3))).2).1 18) (((f_X9_picksStep m ((m.2 15) (Int32.toNatClampNeg v3))).2).1 19) (((f_X9_picksStep m ((m.2 15) (Int32.toNatClampNeg v3))).2).1 20) (((f_X9_picksStep m ((m.2 15) (Int32.toNatClampNeg v3))).2).1 21)).2) v1 v2 v3 v4 v5 ((Int32.ofInt 0)) ((f_X9_picksStep m ((m.2 15) (Int32.toNatClampNeg v3))).1))) ∧ (¬ (((f_X9_steps (setA ((f_X9_picksStep m ((m.2 15) (Int32.toNatClampNeg v3))).2) 15 (upd (((f_X9_picksStep m ((m.2 15) (Int32.toNatClampNeg v3))).2).2 15) (Int32.toNatClampNeg v3) (((((f_X9_picksStep m ((m.2 15) (Int32.toNatClampNeg v3))).2).2 15) (Int32.toNatClampNeg v3)) + (Int32.ofInt 1)))) (((f_X9_picksStep m ((m.2 15) (Int32.toNatClampNeg v3))).2).1 18) (((f_X9_picksStep m ((m.2 15) (Int32.toNatClampNeg v3))).2).1 19) (((f_X9_picksStep m ((m.2 15) (Int32.toNatClampNeg v3))).2).1 20) (((f_X9_picksStep m ((m.2 15) (Int32.toNatClampNeg v3))).2).1 21)).1) = 0) → (p_X9_plays_154 G8 n ((f_X9_steps (setA ((f_X9_picksStep m ((m.2 15) (Int32.toNatClampNeg v3))).2) 15 (upd (((f_X9_picksStep m ((m.2 15) (Int32.toNatClampNeg v3))).2).2 15) (Int32.toNatClampNeg v3) (((((f_X9_picksStep m ((m.2 15) (Int32.toNatClampNeg v3))).2).2 15) (Int32.toNatClampNeg v3)) + (Int32.ofInt 1)))) (((f_X9_picksStep m ((m.2 15) (Int32.toNatClampNeg v3))).2).1 18) (((f_X9_picksStep m ((m.2 15) (Int32.toNatClampNeg v3))).2).1 19) (((f_X9_picksStep m ((m.2 15) (Int32.toNatClampNeg v3))).2).1 20) (((f_X9_picksStep m ((m.2 15) (Int32.toNatClampNeg v3))).2).1 21)).2) v1 v2 v3 v4 v5 ((Int32.ofInt 1)) ((f_X9_picksStep m ((m.2 15) (Int32.toNatClampNeg v3))).1)))))))))))) ∧ (¬ (v6 = 0) → (p_X9_plays_224 G8 m v1 v2 v3 v4 v5 v6))))
set_option maxHeartbeats 16000000 in
set_option maxRecDepth 20000 in
theorem l_X9_plays_154 (sc : SC)  {K8 : Rec → Int32 → Int32 → Int32 → Int32 → Int32 → Int32 × Rec} {G8 : Rec → Int32 → Int32 → Int32 → Int32 → Int32 → Prop} (zq : Int32 × Rec) (hK8 : ∀ (m : Rec) (v1 : Int32) (v2 : Int32) (v3 : Int32) (v4 : Int32) (v5 : Int32), G8 m v1 v2 v3 v4 v5 → zq = K8 m v1 v2 v3 v4 v5 → Good sc 7 0 0 17 mX9_plays (Ret (some (.int (zq.1))) (wM (zq.2))) 0 0 8 [some (.ref 0), some (.int v1), some (.int v2), some (.int v3), some (.int v4), some (.int v5), none, none] [] (wM m)) : ∀ (n : Nat) (m : Rec) (v1 : Int32) (v2 : Int32) (v3 : Int32) (v4 : Int32) (v5 : Int32) (v6 : Int32) (v7 : Int32), p_X9_plays_154 G8 n m v1 v2 v3 v4 v5 v6 v7 → zq = f_X9_plays_154 K8 n m v1 v2 v3 v4 v5 v6 v7 → Good sc 7 0 0 17 mX9_plays (Ret (some (.int (zq.1))) (wM (zq.2))) 0 0 154 [some (.ref 0), some (.int v1), some (.int v2), some (.int v3), some (.int v4), some (.int v5), some (.int v6), some (.int v7)] [] (wM m) := by
  intro n
  induction n with
  | zero => intro m v1 v2 v3 v4 v5 v6 v7 hp; exact hp.elim
  | succ n ih =>
    intro m v1 v2 v3 v4 v5 v6 v7 hp hq
    unfold p_X9_plays_154 at hp
    unfold f_X9_plays_154 at hq
    refine g_blk hz0 kX9_plays_154 ?_
    refine ⟨fun c16 => ?_, fun c16 => ?_⟩
    · rw [if_pos (show v7 = 0 from c16)] at hq
      replace hp := hp.1 c16
      refine g_le (L2 := [some (.ref 0), some (.int v1), some (.int v2), some (.int v3), some (.int v4), some (.int v5), some (.int v6), none]) ⟨rfl, rfl, rfl, rfl, rfl, rfl, rfl, trivial⟩ ?_
      exact l_X9_plays_224 sc zq hK8 m v1 v2 v3 v4 v5 v6 hp hq
    · rw [if_neg (show ¬ (v7 = 0) from c16)] at hq
      replace hp := hp.2 c16
      refine g_blk hz0 kX9_plays_159 ?_
      refine ⟨fun c17 => ?_, fun c17 => ?_⟩
      · rw [if_neg (show ¬ (v6 = 0) from c17)] at hq
        replace hp := hp.2 c17
        refine g_le (L2 := [some (.ref 0), some (.int v1), some (.int v2), some (.int v3), some (.int v4), some (.int v5), some (.int v6), none]) ⟨rfl, rfl, rfl, rfl, rfl, rfl, rfl, trivial⟩ ?_
        exact l_X9_plays_224 sc zq hK8 m v1 v2 v3 v4 v5 v6 hp hq
      · rw [if_pos (show v6 = 0 from c17)] at hq
        replace hp := hp.1 c17
        refine g_blk hz0 kX9_plays_164 ?_
        refine ⟨hp.1, ?_⟩
        replace hp := hp.2
        refine cV [0, 1, 2, 3, 4, 5, 6, 7, 8, 9, 10, 11, 12, 13, 14, 15, 16] (wM m) (s_X9_picksStep m ((m.2 15) (Int32.toNatClampNeg v3)) hp.1) rfl cwX9_picksStep dX9_plays_171 rfl rfl (hm0_M_M _) ((len_M _).trans (len_M _).symm) (wM ((f_X9_picksStep m ((m.2 15) (Int32.toNatClampNeg v3))).2)) (pw0_M_M _ _) ?_
        replace hp := hp.2
        obtain ⟨g18, hg18⟩ : ∃ z, z = (f_X9_picksStep m ((m.2 15) (Int32.toNatClampNeg v3))) := ⟨_, rfl⟩
        try rw [← hg18] at hp
        try rw [← hg18] at hq
        rw [← hg18]
        refine g_blk hz0 kX9_plays_174 ?_
        refine ⟨hp.1, ?_⟩
        replace hp := hp.2
        refine ⟨hp.1, ?_⟩
        replace hp := hp.2
        refine ⟨fun c19 => ?_, fun c19 => ?_⟩
        · rw [if_pos (show (g18.1) = 0 from c19)] at hq
          replace hp := hp.1 c19
          refine g_blk hz0 kX9_plays_218 ?_
          refine g_blk hz0 kX9_plays_219 ?_
          refine g_le (L2 := [some (.ref 0), some (.int v1), some (.int v2), some (.int v3), some (.int v4), some (.int v5), some (.int (Int32.ofInt 0)), some (.int (g18.1))]) ⟨rfl, rfl, rfl, rfl, rfl, rfl, rfl, rfl, trivial⟩ ?_
          exact ih (setA (g18.2) 15 (upd ((g18.2).2 15) (Int32.toNatClampNeg v3) ((((g18.2).2 15) (Int32.toNatClampNeg v3)) + (Int32.ofInt 1)))) v1 v2 v3 v4 v5 ((Int32.ofInt 0)) (g18.1) hp hq
        · rw [if_neg (show ¬ ((g18.1) = 0) from c19)] at hq
          replace hp := hp.2 c19
          refine g_blk hz0 kX9_plays_191 ?_
          refine g_w (w2 := (wM (setA (g18.2) 15 (upd ((g18.2).2 15) (Int32.toNatClampNeg v3) ((((g18.2).2 15) (Int32.toNatClampNeg v3)) + (Int32.ofInt 1)))))) rfl ?_
          refine cV [0, 1, 2, 3, 4, 5, 6, 7, 8, 9, 10, 11, 12, 13, 14, 15, 16] (wM (setA (g18.2) 15 (upd ((g18.2).2 15) (Int32.toNatClampNeg v3) ((((g18.2).2 15) (Int32.toNatClampNeg v3)) + (Int32.ofInt 1))))) (s_X9_steps (setA (g18.2) 15 (upd ((g18.2).2 15) (Int32.toNatClampNeg v3) ((((g18.2).2 15) (Int32.toNatClampNeg v3)) + (Int32.ofInt 1)))) ((g18.2).1 18) ((g18.2).1 19) ((g18.2).1 20) ((g18.2).1 21) hp.1) rfl cwX9_steps dX9_plays_208 rfl rfl (hm0_M_M _) ((len_M _).trans (len_M _).symm) (wM ((f_X9_steps (setA (g18.2) 15 (upd ((g18.2).2 15) (Int32.toNatClampNeg v3) ((((g18.2).2 15) (Int32.toNatClampNeg v3)) + (Int32.ofInt 1)))) ((g18.2).1 18) ((g18.2).1 19) ((g18.2).1 20) ((g18.2).1 21)).2)) (pw0_M_M _ _) ?_
          replace hp := hp.2
          obtain ⟨g20, hg20⟩ : ∃ z, z = (f_X9_steps (setA (g18.2) 15 (upd ((g18.2).2 15) (Int32.toNatClampNeg v3) ((((g18.2).2 15) (Int32.toNatClampNeg v3)) + (Int32.ofInt 1)))) ((g18.2).1 18) ((g18.2).1 19) ((g18.2).1 20) ((g18.2).1 21)) := ⟨_, rfl⟩
          try rw [← hg20] at hp
          try rw [← hg20] at hq
          rw [← hg20]
          refine g_blk hz0 kX9_plays_211 ?_
          refine ⟨fun c21 => ?_, fun c21 => ?_⟩
          · rw [if_pos (show (g20.1) = 0 from c21)] at hq
            replace hp := hp.1 c21
            refine g_blk hz0 kX9_plays_218 ?_
            refine g_blk hz0 kX9_plays_219 ?_
            refine g_le (L2 := [some (.ref 0), some (.int v1), some (.int v2), some (.int v3), some (.int v4), some (.int v5), some (.int (Int32.ofInt 0)), some (.int (g18.1))]) ⟨rfl, rfl, rfl, rfl, rfl, rfl, rfl, rfl, trivial⟩ ?_
            exact ih (g20.2) v1 v2 v3 v4 v5 ((Int32.ofInt 0)) (g18.1) hp hq
          · rw [if_neg (show ¬ ((g20.1) = 0) from c21)] at hq
            replace hp := hp.2 c21
            refine g_blk hz0 kX9_plays_214 ?_
            refine g_blk hz0 kX9_plays_219 ?_
            refine g_le (L2 := [some (.ref 0), some (.int v1), some (.int v2), some (.int v3), some (.int v4), some (.int v5), some (.int (Int32.ofInt 1)), some (.int (g18.1))]) ⟨rfl, rfl, rfl, rfl, rfl, rfl, rfl, rfl, trivial⟩ ?_
            exact ih (g20.2) v1 v2 v3 v4 v5 ((Int32.ofInt 1)) (g18.1) hp hq
def f_X9_plays_139 (K8 : Rec → Int32 → Int32 → Int32 → Int32 → Int32 → Int32 × Rec) (m : Rec) (v1 : Int32) (v2 : Int32) (v3 : Int32) (v4 : Int32) (v5 : Int32) : Int32 × Rec := if v4 = 0 then (K8 m v1 v2 v3 v4 v5) else (if v3 < 0 then (K8 m v1 v2 v3 v4 v5) else (f_X9_plays_154 K8 1000000000000 m v1 v2 v3 v4 v5 ((Int32.ofInt 0)) ((Int32.ofInt 1))))
def p_X9_plays_139 (G8 : Rec → Int32 → Int32 → Int32 → Int32 → Int32 → Prop) (m : Rec) (v1 : Int32) (v2 : Int32) (v3 : Int32) (v4 : Int32) (v5 : Int32) : Prop := (v4 = 0 → (G8 m v1 v2 v3 v4 v5)) ∧ (¬ (v4 = 0) → ((v3 < 0 → (G8 m v1 v2 v3 v4 v5)) ∧ (¬ (v3 < 0) → (p_X9_plays_154 G8 1000000000000 m v1 v2 v3 v4 v5 ((Int32.ofInt 0)) ((Int32.ofInt 1))))))
set_option maxHeartbeats 16000000 in
set_option maxRecDepth 20000 in
theorem l_X9_plays_139 (sc : SC)  {K8 : Rec → Int32 → Int32 → Int32 → Int32 → Int32 → Int32 × Rec} {G8 : Rec → Int32 → Int32 → Int32 → Int32 → Int32 → Prop} (zq : Int32 × Rec) (hK8 : ∀ (m : Rec) (v1 : Int32) (v2 : Int32) (v3 : Int32) (v4 : Int32) (v5 : Int32), G8 m v1 v2 v3 v4 v5 → zq = K8 m v1 v2 v3 v4 v5 → Good sc 7 0 0 17 mX9_plays (Ret (some (.int (zq.1))) (wM (zq.2))) 0 0 8 [some (.ref 0), some (.int v1), some (.int v2), some (.int v3), some (.int v4), some (.int v5), none, none] [] (wM m)) (m : Rec) (v1 : Int32) (v2 : Int32) (v3 : Int32) (v4 : Int32) (v5 : Int32) (hp : p_X9_plays_139 G8 m v1 v2 v3 v4 v5) (hq : zq = f_X9_plays_139 K8 m v1 v2 v3 v4 v5) : Good sc 7 0 0 17 mX9_plays (Ret (some (.int (zq.1))) (wM (zq.2))) 0 0 139 [some (.ref 0), some (.int v1), some (.int v2), some (.int v3), some (.int v4), some (.int v5), none, none] [] (wM m) := by
  unfold p_X9_plays_139 at hp
  unfold f_X9_plays_139 at hq
  refine g_blk hz0 kX9_plays_139 ?_
  refine ⟨fun c14 => ?_, fun c14 => ?_⟩
  · rw [if_pos (show v4 = 0 from c14)] at hq
    replace hp := hp.1 c14
    refine g_le (L2 := [some (.ref 0), some (.int v1), some (.int v2), some (.int v3), some (.int v4), some (.int v5), none, none]) ⟨rfl, rfl, rfl, rfl, rfl, rfl, trivial⟩ ?_
    exact hK8 m v1 v2 v3 v4 v5 hp hq
  · rw [if_neg (show ¬ (v4 = 0) from c14)] at hq
    replace hp := hp.2 c14
    refine g_blk hz0 kX9_plays_144 ?_
    refine ⟨fun c15 => ?_, fun c15 => ?_⟩
    · rw [if_pos (show v3 < 0 from c15)] at hq
      replace hp := hp.1 c15
      refine g_le (L2 := [some (.ref 0), some (.int v1), some (.int v2), some (.int v3), some (.int v4), some (.int v5), none, none]) ⟨rfl, rfl, rfl, rfl, rfl, rfl, trivial⟩ ?_
      exact hK8 m v1 v2 v3 v4 v5 hp hq
    · rw [if_neg (show ¬ (v3 < 0) from c15)] at hq
      replace hp := hp.2 c15
      refine g_blk hz0 kX9_plays_148 ?_
      refine g_le (L2 := [some (.ref 0), some (.int v1), some (.int v2), some (.int v3), some (.int v4), some (.int v5), some (.int (Int32.ofInt 0)), some (.int (Int32.ofInt 1))]) ⟨rfl, rfl, rfl, rfl, rfl, rfl, rfl, rfl, trivial⟩ ?_
      exact l_X9_plays_154 sc zq hK8 1000000000000 m v1 v2 v3 v4 v5 ((Int32.ofInt 0)) ((Int32.ofInt 1)) hp hq
def f_X9_plays_8  : Nat → Rec → Int32 → Int32 → Int32 → Int32 → Int32 → Int32 × Rec
  | 0, m, v1, v2, v3, v4, v5 => (0, m)
  | n + 1, m, v1, v2, v3, v4, v5 => if v3 < 0 then (v5, m) else (if v4 = 0 then (if (f_X9_turn (f_X9_takes_v11 m ((Int32.ofInt 20) * v3))) = v2 then (if v5 = (Int32.ofInt 1) then (f_X9_plays_139 (f_X9_plays_8 n) (f_X9_takes_v11 m ((Int32.ofInt 20) * v3)) v1 v2 (v3 + (Int32.ofInt (-1))) v4 v5) else (f_X9_plays_139 (f_X9_plays_8 n) (setA (f_X9_takes_v11 m ((Int32.ofInt 20) * v3)) 16 (upd ((f_X9_takes_v11 m ((Int32.ofInt 20) * v3)).2 16) (Int32.toNatClampNeg v3) (Int32.ofInt 1))) v1 v2 v3 ((Int32.ofInt 1)) v5)) else (if v5 = (Int32.ofInt 0) then (f_X9_plays_139 (f_X9_plays_8 n) (f_X9_takes_v11 m ((Int32.ofInt 20) * v3)) v1 v2 (v3 + (Int32.ofInt (-1))) v4 v5) else (f_X9_plays_139 (f_X9_plays_8 n) (setA (f_X9_takes_v11 m ((Int32.ofInt 20) * v3)) 16 (upd ((f_X9_takes_v11 m ((Int32.ofInt 20) * v3)).2 16) (Int32.toNatClampNeg v3) (Int32.ofInt 1))) v1 v2 v3 ((Int32.ofInt 1)) v5))) else (if (f_X9_won m) = (Int32.ofInt (-1)) then (if v3 = v1 then (if (f_X9_won m) = v2 then (f_X9_plays_139 (f_X9_plays_8 n) m v1 v2 (v3 + (Int32.ofInt (-1))) ((Int32.ofInt 0)) ((Int32.ofInt 1))) else (f_X9_plays_139 (f_X9_plays_8 n) m v1 v2 (v3 + (Int32.ofInt (-1))) ((Int32.ofInt 0)) ((Int32.ofInt 0)))) else (f_X9_plays_139 (f_X9_plays_8 n) (setA (setA (f_X9_keeps_v11 (f_X9_settles m) ((Int32.ofInt 20) * v3)) 15 (upd ((f_X9_keeps_v11 (f_X9_settles m) ((Int32.ofInt 20) * v3)).2 15) (Int32.toNatClampNeg v3) (Int32.ofInt 0))) 16 (upd ((f_X9_keeps_v11 (f_X9_settles m) ((Int32.ofInt 20) * v3)).2 16) (Int32.toNatClampNeg v3) (Int32.ofInt 0))) v1 v2 v3 v4 v5)) else (if (f_X9_won m) = v2 then (f_X9_plays_139 (f_X9_plays_8 n) m v1 v2 (v3 + (Int32.ofInt (-1))) ((Int32.ofInt 0)) ((Int32.ofInt 1))) else (f_X9_plays_139 (f_X9_plays_8 n) m v1 v2 (v3 + (Int32.ofInt (-1))) ((Int32.ofInt 0)) ((Int32.ofInt 0))))))
def p_X9_plays_8  : Nat → Rec → Int32 → Int32 → Int32 → Int32 → Int32 → Prop
  | 0, _, _, _, _, _, _ => False
  | n + 1, m, v1, v2, v3, v4, v5 => (v3 < 0 → ((v5 = 0 ∨ v5 = 1) ∧ True)) ∧ (¬ (v3 < 0) → ((v4 = 0 → ((p_X9_takes_v11 m ((Int32.ofInt 20) * v3)) ∧ (((f_X9_turn (f_X9_takes_v11 m ((Int32.ofInt 20) * v3))) = v2 → ((v5 = (Int32.ofInt 1) → (p_X9_plays_139 (p_X9_plays_8 n) (f_X9_takes_v11 m ((Int32.ofInt 20) * v3)) v1 v2 (v3 + (Int32.ofInt (-1))) v4 v5)) ∧ (¬ (v5 = (Int32.ofInt 1)) → (vp_in v3 5 ∧ (p_X9_plays_139 (p_X9_plays_8 n) (setA (f_X9_takes_v11 m ((Int32.ofInt 20) * v3)) 16 (upd ((f_X9_takes_v11 m ((Int32.ofInt 20) * v3)).2 16) (Int32.toNatClampNeg v3) (Int32.ofInt 1))) v1 v2 v3 ((Int32.ofInt 1)) v5))))) ∧ (¬ ((f_X9_turn (f_X9_takes_v11 m ((Int32.ofInt 20) * v3))) = v2) → ((v5 = (Int32.ofInt 0) → (p_X9_plays_139 (p_X9_plays_8 n) (f_X9_takes_v11 m ((Int32.ofInt 20) * v3)) v1 v2 (v3 + (Int32.ofInt (-1))) v4 v5)) ∧ (¬ (v5 = (Int32.ofInt 0)) → (vp_in v3 5 ∧ (p_X9_plays_139 (p_X9_plays_8 n) (setA (f_X9_takes_v11 m ((Int32.ofInt 20) * v3)) 16 (upd ((f_X9_takes_v11 m ((Int32.ofInt 20) * v3)).2 16) (Int32.toNatClampNeg v3) (Int32.ofInt 1))) v1 v2 v3 ((Int32.ofInt 1)) v5)))))))) ∧ (¬ (v4 = 0) → ((p_X9_won m) ∧ (((f_X9_won m) = (Int32.ofInt (-1)) → ((v3 = v1 → (((f_X9_won m) = v2 → (p_X9_plays_139 (p_X9_plays_8 n) m v1 v2 (v3 + (Int32.ofInt (-1))) ((Int32.ofInt 0)) ((Int32.ofInt 1)))) ∧ (¬ ((f_X9_won m) = v2) → (p_X9_plays_139 (p_X9_plays_8 n) m v1 v2 (v3 + (Int32.ofInt (-1))) ((Int32.ofInt 0)) ((Int32.ofInt 0)))))) ∧ (¬ (v3 = v1) → ((p_X9_settles m) ∧ ((p_X9_keeps_v11 (f_X9_settles m) ((Int32.ofInt 20) * v3)) ∧ (vp_in v3 5 ∧ (vp_in v3 5 ∧ (p_X9_plays_139 (p_X9_plays_8 n) (setA (setA (f_X9_keeps_v11 (f_X9_settles m) ((Int32.ofInt 20) * v3)) 15 (upd ((f_X9_keeps_v11 (f_X9_settles m) ((Int32.ofInt 20) * v3)).2 15) (Int32.toNatClampNeg v3) (Int32.ofInt 0))) 16 (upd ((f_X9_keeps_v11 (f_X9_settles m) ((Int32.ofInt 20) * v3)).2 16) (Int32.toNatClampNeg v3) (Int32.ofInt 0))) v1 v2 v3 v4 v5)))))))) ∧ (¬ ((f_X9_won m) = (Int32.ofInt (-1))) → (((f_X9_won m) = v2 → (p_X9_plays_139 (p_X9_plays_8 n) m v1 v2 (v3 + (Int32.ofInt (-1))) ((Int32.ofInt 0)) ((Int32.ofInt 1)))) ∧ (¬ ((f_X9_won m) = v2) → (p_X9_plays_139 (p_X9_plays_8 n) m v1 v2 (v3 + (Int32.ofInt (-1))) ((Int32.ofInt 0)) ((Int32.ofInt 0)))))))))))
set_option maxHeartbeats 16000000 in
set_option maxRecDepth 20000 in
theorem l_X9_plays_8 (sc : SC)   (zq : Int32 × Rec)  : ∀ (n : Nat) (m : Rec) (v1 : Int32) (v2 : Int32) (v3 : Int32) (v4 : Int32) (v5 : Int32), p_X9_plays_8 n m v1 v2 v3 v4 v5 → zq = f_X9_plays_8 n m v1 v2 v3 v4 v5 → Good sc 7 0 0 17 mX9_plays (Ret (some (.int (zq.1))) (wM (zq.2))) 0 0 8 [some (.ref 0), some (.int v1), some (.int v2), some (.int v3), some (.int v4), some (.int v5), none, none] [] (wM m) := by
  intro n
  induction n with
  | zero => intro m v1 v2 v3 v4 v5 hp; exact hp.elim
  | succ n ih =>
    intro m v1 v2 v3 v4 v5 hp hq
    unfold p_X9_plays_8 at hp
    unfold f_X9_plays_8 at hq
    refine g_blk hz0 kX9_plays_8 ?_
    refine ⟨fun c1 => ?_, fun c1 => ?_⟩
    · rw [if_pos (show v3 < 0 from c1)] at hq
      replace hp := hp.1 c1
      refine g_blk hz0 kX9_plays_268 ?_
      have b2 := hp.1
      replace hp := hp.2
      subst hq
      exact ⟨fun _ => b2, rfl, rfl⟩
    · rw [if_neg (show ¬ (v3 < 0) from c1)] at hq
      replace hp := hp.2 c1
      refine g_blk hz0 kX9_plays_12 ?_
      refine ⟨fun c3 => ?_, fun c3 => ?_⟩
      · rw [if_pos (show v4 = 0 from c3)] at hq
        replace hp := hp.1 c3
        refine g_blk hz0 kX9_plays_89 ?_
        refine cV [0, 1, 2, 3, 4, 5, 6, 7, 8, 9, 10, 11, 12, 13, 14, 15, 16] (wM m) (s_X9_takes_v11 m ((Int32.ofInt 20) * v3) hp.1) rfl cwX9_takes dX9_plays_98 rfl rfl (hm0_M_M _) ((len_M _).trans (len_M _).symm) (wM (f_X9_takes_v11 m ((Int32.ofInt 20) * v3))) (pw0_M_M _ _) ?_
        replace hp := hp.2
        obtain ⟨g4, hg4⟩ : ∃ z, z = (f_X9_takes_v11 m ((Int32.ofInt 20) * v3)) := ⟨_, rfl⟩
        try rw [← hg4] at hp
        try rw [← hg4] at hq
        rw [← hg4]
        refine g_blk hz0 kX9_plays_101 ?_
        refine cVp [0, 1, 2, 3, 4, 5, 6, 7, 8, 9, 10, 11, 12, 13, 14, 15, 16] (wM g4) (s_X9_turn g4) rfl cwX9_turn dX9_plays_102 rfl rfl (hm0_M_M _) ?_
        refine g_blk hz0 kX9_plays_105 ?_
        refine ⟨fun c5 => ?_, fun c5 => ?_⟩
        · rw [if_neg (show ¬ ((f_X9_turn g4) = v2) from c5)] at hq
          replace hp := hp.2 c5
          refine g_blk hz0 kX9_plays_113 ?_
          refine g_blk hz0 kX9_plays_114 ?_
          refine ⟨fun c7 => ?_, fun c7 => ?_⟩
          · rw [if_neg (show ¬ (v5 = (Int32.ofInt 0)) from c7)] at hq
            replace hp := hp.2 c7
            refine g_blk hz0 kX9_plays_129 ?_
            refine ⟨hp.1, ?_⟩
            replace hp := hp.2
            refine ⟨Or.inr rfl, ?_⟩
            refine g_le (L2 := [some (.ref 0), some (.int v1), some (.int v2), some (.int v3), some (.int (Int32.ofInt 1)), some (.int v5), none, none]) ⟨rfl, rfl, rfl, rfl, rfl, rfl, trivial⟩ ?_
            exact l_X9_plays_139 sc zq (fun r0 r1 r2 r3 r4 r5 hp hq => ih r0 r1 r2 r3 r4 r5 hp hq) (setA g4 16 (upd (g4.2 16) (Int32.toNatClampNeg v3) (Int32.ofInt 1))) v1 v2 v3 ((Int32.ofInt 1)) v5 hp hq
          · rw [if_pos (show v5 = (Int32.ofInt 0) from c7)] at hq
            replace hp := hp.1 c7
            refine g_blk hz0 kX9_plays_123 ?_
            refine g_le (L2 := [some (.ref 0), some (.int v1), some (.int v2), some (.int (v3 + (Int32.ofInt (-1)))), some (.int v4), some (.int v5), none, none]) ⟨rfl, rfl, rfl, rfl, rfl, rfl, trivial⟩ ?_
            exact l_X9_plays_139 sc zq (fun r0 r1 r2 r3 r4 r5 hp hq => ih r0 r1 r2 r3 r4 r5 hp hq) g4 v1 v2 (v3 + (Int32.ofInt (-1))) v4 v5 hp hq
        · rw [if_pos (show (f_X9_turn g4) = v2 from c5)] at hq
          replace hp := hp.1 c5
          refine g_blk hz0 kX9_plays_109 ?_
          refine g_blk hz0 kX9_plays_114 ?_
          refine ⟨fun c6 => ?_, fun c6 => ?_⟩
          · rw [if_neg (show ¬ (v5 = (Int32.ofInt 1)) from c6)] at hq
            replace hp := hp.2 c6
            refine g_blk hz0 kX9_plays_129 ?_
            refine ⟨hp.1, ?_⟩
            replace hp := hp.2
            refine ⟨Or.inr rfl, ?_⟩
            refine g_le (L2 := [some (.ref 0), some (.int v1), some (.int v2), some (.int v3), some (.int (Int32.ofInt 1)), some (.int v5), none, none]) ⟨rfl, rfl, rfl, rfl, rfl, rfl, trivial⟩ ?_
            exact l_X9_plays_139 sc zq (fun r0 r1 r2 r3 r4 r5 hp hq => ih r0 r1 r2 r3 r4 r5 hp hq) (setA g4 16 (upd (g4.2 16) (Int32.toNatClampNeg v3) (Int32.ofInt 1))) v1 v2 v3 ((Int32.ofInt 1)) v5 hp hq
          · rw [if_pos (show v5 = (Int32.ofInt 1) from c6)] at hq
            replace hp := hp.1 c6
            refine g_blk hz0 kX9_plays_123 ?_
            refine g_le (L2 := [some (.ref 0), some (.int v1), some (.int v2), some (.int (v3 + (Int32.ofInt (-1)))), some (.int v4), some (.int v5), none, none]) ⟨rfl, rfl, rfl, rfl, rfl, rfl, trivial⟩ ?_
            exact l_X9_plays_139 sc zq (fun r0 r1 r2 r3 r4 r5 hp hq => ih r0 r1 r2 r3 r4 r5 hp hq) g4 v1 v2 (v3 + (Int32.ofInt (-1))) v4 v5 hp hq
      · rw [if_neg (show ¬ (v4 = 0) from c3)] at hq
        replace hp := hp.2 c3
        refine g_blk hz0 kX9_plays_17 ?_
        refine cVp [0, 1, 2, 3, 4, 5, 6, 7, 8, 9, 10, 11, 12, 13, 14, 15, 16] (wM m) (s_X9_won m hp.1) rfl cwX9_won dX9_plays_18 rfl rfl (hm0_M_M _) ?_
        replace hp := hp.2
        refine g_blk hz0 kX9_plays_21 ?_
        refine ⟨fun c8 => ?_, fun c8 => ?_⟩
        · rw [if_neg (show ¬ ((f_X9_won m) = (Int32.ofInt (-1))) from c8)] at hq
          replace hp := hp.2 c8
          refine g_blk hz0 kX9_plays_34 ?_
          refine ⟨fun c13 => ?_, fun c13 => ?_⟩
          · rw [if_neg (show ¬ ((f_X9_won m) = v2) from c13)] at hq
            replace hp := hp.2 c13
            refine g_blk hz0 kX9_plays_44 ?_
            refine g_blk hz0 kX9_plays_45 ?_
            refine g_blk hz0 kX9_plays_86 ?_
            refine g_le (L2 := [some (.ref 0), some (.int v1), some (.int v2), some (.int (v3 + (Int32.ofInt (-1)))), some (.int (Int32.ofInt 0)), some (.int (Int32.ofInt 0)), none, none]) ⟨rfl, rfl, rfl, rfl, rfl, rfl, trivial⟩ ?_
            exact l_X9_plays_139 sc zq (fun r0 r1 r2 r3 r4 r5 hp hq => ih r0 r1 r2 r3 r4 r5 hp hq) m v1 v2 (v3 + (Int32.ofInt (-1))) ((Int32.ofInt 0)) ((Int32.ofInt 0)) hp hq
          · rw [if_pos (show (f_X9_won m) = v2 from c13)] at hq
            replace hp := hp.1 c13
            refine g_blk hz0 kX9_plays_40 ?_
            refine g_blk hz0 kX9_plays_45 ?_
            refine g_blk hz0 kX9_plays_86 ?_
            refine g_le (L2 := [some (.ref 0), some (.int v1), some (.int v2), some (.int (v3 + (Int32.ofInt (-1)))), some (.int (Int32.ofInt 0)), some (.int (Int32.ofInt 1)), none, none]) ⟨rfl, rfl, rfl, rfl, rfl, rfl, trivial⟩ ?_
            exact l_X9_plays_139 sc zq (fun r0 r1 r2 r3 r4 r5 hp hq => ih r0 r1 r2 r3 r4 r5 hp hq) m v1 v2 (v3 + (Int32.ofInt (-1))) ((Int32.ofInt 0)) ((Int32.ofInt 1)) hp hq
        · rw [if_pos (show (f_X9_won m) = (Int32.ofInt (-1)) from c8)] at hq
          replace hp := hp.1 c8
          refine g_blk hz0 kX9_plays_29 ?_
          refine ⟨fun c9 => ?_, fun c9 => ?_⟩
          · rw [if_neg (show ¬ (v3 = v1) from c9)] at hq
            replace hp := hp.2 c9
            refine g_blk hz0 kX9_plays_56 ?_
            refine cV [0, 1, 2, 3, 4, 5, 6, 7, 8, 9, 10, 11, 12, 13, 14, 15, 16] (wM m) (s_X9_settles m hp.1) rfl cwX9_settles dX9_plays_57 rfl rfl (hm0_M_M _) ((len_M _).trans (len_M _).symm) (wM (f_X9_settles m)) (pw0_M_M _ _) ?_
            replace hp := hp.2
            obtain ⟨g11, hg11⟩ : ∃ z, z = (f_X9_settles m) := ⟨_, rfl⟩
            try rw [← hg11] at hp
            try rw [← hg11] at hq
            rw [← hg11]
            refine g_blk hz0 kX9_plays_60 ?_
            refine cV [0, 1, 2, 3, 4, 5, 6, 7, 8, 9, 10, 11, 12, 13, 14, 15, 16] (wM g11) (s_X9_keeps_v11 g11 ((Int32.ofInt 20) * v3) hp.1) rfl cwX9_keeps dX9_plays_69 rfl rfl (hm0_M_M _) ((len_M _).trans (len_M _).symm) (wM (f_X9_keeps_v11 g11 ((Int32.ofInt 20) * v3))) (pw0_M_M _ _) ?_
            replace hp := hp.2
            obtain ⟨g12, hg12⟩ : ∃ z, z = (f_X9_keeps_v11 g11 ((Int32.ofInt 20) * v3)) := ⟨_, rfl⟩
            try rw [← hg12] at hp
            try rw [← hg12] at hq
            rw [← hg12]
            refine g_blk hz0 kX9_plays_72 ?_
            refine ⟨hp.1, ?_⟩
            replace hp := hp.2
            refine ⟨hp.1, ?_⟩
            replace hp := hp.2
            refine ⟨Or.inl rfl, ?_⟩
            refine g_blk hz0 kX9_plays_86 ?_
            refine g_le (L2 := [some (.ref 0), some (.int v1), some (.int v2), some (.int v3), some (.int v4), some (.int v5), none, none]) ⟨rfl, rfl, rfl, rfl, rfl, rfl, trivial⟩ ?_
            exact l_X9_plays_139 sc zq (fun r0 r1 r2 r3 r4 r5 hp hq => ih r0 r1 r2 r3 r4 r5 hp hq) (setA (setA g12 15 (upd (g12.2 15) (Int32.toNatClampNeg v3) (Int32.ofInt 0))) 16 (upd (g12.2 16) (Int32.toNatClampNeg v3) (Int32.ofInt 0))) v1 v2 v3 v4 v5 hp hq
          · rw [if_pos (show v3 = v1 from c9)] at hq
            replace hp := hp.1 c9
            refine g_blk hz0 kX9_plays_34 ?_
            refine ⟨fun c10 => ?_, fun c10 => ?_⟩
            · rw [if_neg (show ¬ ((f_X9_won m) = v2) from c10)] at hq
              replace hp := hp.2 c10
              refine g_blk hz0 kX9_plays_44 ?_
              refine g_blk hz0 kX9_plays_45 ?_
              refine g_blk hz0 kX9_plays_86 ?_
              refine g_le (L2 := [some (.ref 0), some (.int v1), some (.int v2), some (.int (v3 + (Int32.ofInt (-1)))), some (.int (Int32.ofInt 0)), some (.int (Int32.ofInt 0)), none, none]) ⟨rfl, rfl, rfl, rfl, rfl, rfl, trivial⟩ ?_
              exact l_X9_plays_139 sc zq (fun r0 r1 r2 r3 r4 r5 hp hq => ih r0 r1 r2 r3 r4 r5 hp hq) m v1 v2 (v3 + (Int32.ofInt (-1))) ((Int32.ofInt 0)) ((Int32.ofInt 0)) hp hq
            · rw [if_pos (show (f_X9_won m) = v2 from c10)] at hq
              replace hp := hp.1 c10
              refine g_blk hz0 kX9_plays_40 ?_
              refine g_blk hz0 kX9_plays_45 ?_
              refine g_blk hz0 kX9_plays_86 ?_
              refine g_le (L2 := [some (.ref 0), some (.int v1), some (.int v2), some (.int (v3 + (Int32.ofInt (-1)))), some (.int (Int32.ofInt 0)), some (.int (Int32.ofInt 1)), none, none]) ⟨rfl, rfl, rfl, rfl, rfl, rfl, trivial⟩ ?_
              exact l_X9_plays_139 sc zq (fun r0 r1 r2 r3 r4 r5 hp hq => ih r0 r1 r2 r3 r4 r5 hp hq) m v1 v2 (v3 + (Int32.ofInt (-1))) ((Int32.ofInt 0)) ((Int32.ofInt 1)) hp hq
def f_X9_plays (m : Rec) (n : Int32) (me : Int32) : Int32 × Rec := (f_X9_plays_8 1000000000000 m n me ((Int32.ofInt 0)) ((Int32.ofInt 1)) ((Int32.ofInt 0)))
def p_X9_plays (m : Rec) (n : Int32) (me : Int32) : Prop := (p_X9_plays_8 1000000000000 m n me ((Int32.ofInt 0)) ((Int32.ofInt 1)) ((Int32.ofInt 0)))
set_option maxHeartbeats 16000000 in
set_option maxRecDepth 20000 in
theorem s_X9_plays (m : Rec) (n : Int32) (me : Int32) (hp : p_X9_plays m n me) : Spec 7 0 0 mX9_plays [.ref 0, .int n, .int me] (wM m) (Ret (some (.int ((f_X9_plays m n me).1))) (wM ((f_X9_plays m n me).2))) := by
  obtain ⟨zq, hq⟩ : ∃ z, z = (f_X9_plays m n me) := ⟨_, rfl⟩
  rw [← hq]
  unfold f_X9_plays at hq
  unfold p_X9_plays at hp
  refine Sof fun sc => ?_
  refine g_blk hz0 kX9_plays_0 ?_
  refine g_le (L2 := [some (.ref 0), some (.int n), some (.int me), some (.int (Int32.ofInt 0)), some (.int (Int32.ofInt 1)), some (.int (Int32.ofInt 0)), none, none]) ⟨rfl, rfl, rfl, rfl, rfl, rfl, trivial⟩ ?_
  exact l_X9_plays_8 sc zq 1000000000000 m n me ((Int32.ofInt 0)) ((Int32.ofInt 1)) ((Int32.ofInt 0)) hp hq
