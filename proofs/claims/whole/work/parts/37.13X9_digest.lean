def f_X9_digest_106 (K93 : Rec → Int64 → Int32 → Int64) : Nat → Rec → Int64 → Int32 → Int32 → Int64
  | 0, m, v1, v3, v4 => 0
  | n + 1, m, v1, v3, v4 => if (Int32.ofInt 3) ≤ v4 then (K93 m ((31 * v1) + (Int32.toInt64 ((m.2 0) (Int32.toNatClampNeg ((Int32.ofInt 8) + v3))))) (v3 + (Int32.ofInt 1))) else (f_X9_digest_106 K93 n m ((31 * v1) + (Int32.toInt64 ((m.2 0) (Int32.toNatClampNeg (((Int32.ofInt 28) + ((Int32.ofInt 3) * v3)) + v4))))) v3 (v4 + (Int32.ofInt 1)))
def p_X9_digest_106 (G93 : Rec → Int64 → Int32 → Prop) : Nat → Rec → Int64 → Int32 → Int32 → Prop
  | 0, _, _, _, _ => False
  | n + 1, m, v1, v3, v4 => ((Int32.ofInt 3) ≤ v4 → (vp_in ((Int32.ofInt 8) + v3) 248 ∧ (G93 m ((31 * v1) + (Int32.toInt64 ((m.2 0) (Int32.toNatClampNeg ((Int32.ofInt 8) + v3))))) (v3 + (Int32.ofInt 1))))) ∧ (¬ ((Int32.ofInt 3) ≤ v4) → (vp_in (((Int32.ofInt 28) + ((Int32.ofInt 3) * v3)) + v4) 248 ∧ (p_X9_digest_106 G93 n m ((31 * v1) + (Int32.toInt64 ((m.2 0) (Int32.toNatClampNeg (((Int32.ofInt 28) + ((Int32.ofInt 3) * v3)) + v4))))) v3 (v4 + (Int32.ofInt 1)))))
set_option maxHeartbeats 16000000 in
set_option maxRecDepth 20000 in
theorem l_X9_digest_106 (sc : SC) (m : Rec) {K93 : Rec → Int64 → Int32 → Int64} {G93 : Rec → Int64 → Int32 → Prop} (zq : Int64) (hK93 : ∀ (v1 : Int64) (v3 : Int32), G93 m v1 v3 → zq = K93 m v1 v3 → Good sc 4 0 0 17 mX9_digest (Ret (some (.long (zq))) (wM m)) 0 0 93 [some (.ref 0), some (.long v1), none, some (.int v3), none] [] (wM m)) : ∀ (n : Nat)  (v1 : Int64) (v3 : Int32) (v4 : Int32), p_X9_digest_106 G93 n m v1 v3 v4 → zq = f_X9_digest_106 K93 n m v1 v3 v4 → Good sc 4 0 0 17 mX9_digest (Ret (some (.long (zq))) (wM m)) 0 0 106 [some (.ref 0), some (.long v1), none, some (.int v3), some (.int v4)] [] (wM m) := by
  intro n
  induction n with
  | zero => intro v1 v3 v4 hp; exact hp.elim
  | succ n ih =>
    intro v1 v3 v4 hp hq
    unfold p_X9_digest_106 at hp
    unfold f_X9_digest_106 at hq
    refine g_blk hz0 kX9_digest_106 ?_
    refine ⟨fun c6 => ?_, fun c6 => ?_⟩
    · rw [if_pos (show (Int32.ofInt 3) ≤ v4 from c6)] at hq
      replace hp := hp.1 c6
      refine g_blk hz0 kX9_digest_140 ?_
      refine ⟨hp.1, ?_⟩
      replace hp := hp.2
      refine g_le (L2 := [some (.ref 0), some (.long ((31 * v1) + (Int32.toInt64 ((m.2 0) (Int32.toNatClampNeg ((Int32.ofInt 8) + v3)))))), none, some (.int (v3 + (Int32.ofInt 1))), none]) ⟨rfl, rfl, rfl, trivial⟩ ?_
      exact hK93 ((31 * v1) + (Int32.toInt64 ((m.2 0) (Int32.toNatClampNeg ((Int32.ofInt 8) + v3))))) (v3 + (Int32.ofInt 1)) hp hq
    · rw [if_neg (show ¬ ((Int32.ofInt 3) ≤ v4) from c6)] at hq
      replace hp := hp.2 c6
      refine g_blk hz0 kX9_digest_112 ?_
      refine ⟨hp.1, ?_⟩
      replace hp := hp.2
      refine g_le (L2 := [some (.ref 0), some (.long ((31 * v1) + (Int32.toInt64 ((m.2 0) (Int32.toNatClampNeg (((Int32.ofInt 28) + ((Int32.ofInt 3) * v3)) + v4)))))), none, some (.int v3), some (.int (v4 + (Int32.ofInt 1)))]) ⟨rfl, rfl, rfl, rfl, trivial⟩ ?_
      exact ih ((31 * v1) + (Int32.toInt64 ((m.2 0) (Int32.toNatClampNeg (((Int32.ofInt 28) + ((Int32.ofInt 3) * v3)) + v4))))) v3 (v4 + (Int32.ofInt 1)) hp hq
def f_X9_digest_257  : Nat → Rec → Int64 → Int32 → Int64
  | 0, m, v1, v3 => 0
  | n + 1, m, v1, v3 => if (m.1 23) ≤ v3 then v1 else (f_X9_digest_257 n m ((31 * v1) + (Int32.toInt64 ((m.2 22) (Int32.toNatClampNeg v3)))) (v3 + (Int32.ofInt 1)))
def p_X9_digest_257  : Nat → Rec → Int64 → Int32 → Prop
  | 0, _, _, _ => False
  | n + 1, m, v1, v3 => ((m.1 23) ≤ v3 → True) ∧ (¬ ((m.1 23) ≤ v3) → (vp_in v3 200 ∧ (p_X9_digest_257 n m ((31 * v1) + (Int32.toInt64 ((m.2 22) (Int32.toNatClampNeg v3)))) (v3 + (Int32.ofInt 1)))))
set_option maxHeartbeats 16000000 in
set_option maxRecDepth 20000 in
theorem l_X9_digest_257 (sc : SC) (m : Rec)  (zq : Int64)  : ∀ (n : Nat)  (v1 : Int64) (v3 : Int32), p_X9_digest_257 n m v1 v3 → zq = f_X9_digest_257 n m v1 v3 → Good sc 4 0 0 17 mX9_digest (Ret (some (.long (zq))) (wM m)) 0 0 257 [some (.ref 0), some (.long v1), none, some (.int v3), none] [] (wM m) := by
  intro n
  induction n with
  | zero => intro v1 v3 hp; exact hp.elim
  | succ n ih =>
    intro v1 v3 hp hq
    unfold p_X9_digest_257 at hp
    unfold f_X9_digest_257 at hq
    refine g_blk hz0 kX9_digest_257 ?_
    refine ⟨fun c7 => ?_, fun c7 => ?_⟩
    · rw [if_pos (show (m.1 23) ≤ v3 from c7)] at hq
      refine g_blk hz0 kX9_digest_285 ?_
      subst hq
      exact ⟨rfl, rfl⟩
    · rw [if_neg (show ¬ ((m.1 23) ≤ v3) from c7)] at hq
      replace hp := hp.2 c7
      refine g_blk hz0 kX9_digest_265 ?_
      refine ⟨hp.1, ?_⟩
      replace hp := hp.2
      refine g_le (L2 := [some (.ref 0), some (.long ((31 * v1) + (Int32.toInt64 ((m.2 22) (Int32.toNatClampNeg v3))))), none, some (.int (v3 + (Int32.ofInt 1))), none]) ⟨rfl, rfl, rfl, trivial⟩ ?_
      exact ih ((31 * v1) + (Int32.toInt64 ((m.2 22) (Int32.toNatClampNeg v3)))) (v3 + (Int32.ofInt 1)) hp hq
def f_X9_digest_219  : Nat → Rec → Int64 → Int32 → Int64
  | 0, m, v1, v3 => 0
  | n + 1, m, v1, v3 => if ((Int32.ofInt 3) * ((m.2 0) (Int32.toNatClampNeg (Int32.ofInt 16)))) ≤ v3 then (f_X9_digest_257 300 m v1 ((Int32.ofInt 0))) else (f_X9_digest_219 n m ((31 * v1) + (Int32.toInt64 ((m.2 0) (Int32.toNatClampNeg ((Int32.ofInt 17) + v3))))) (v3 + (Int32.ofInt 1)))
def p_X9_digest_219  : Nat → Rec → Int64 → Int32 → Prop
  | 0, _, _, _ => False
  | n + 1, m, v1, v3 => (((Int32.ofInt 3) * ((m.2 0) (Int32.toNatClampNeg (Int32.ofInt 16)))) ≤ v3 → (p_X9_digest_257 300 m v1 ((Int32.ofInt 0)))) ∧ (¬ (((Int32.ofInt 3) * ((m.2 0) (Int32.toNatClampNeg (Int32.ofInt 16)))) ≤ v3) → (vp_in ((Int32.ofInt 17) + v3) 248 ∧ (p_X9_digest_219 n m ((31 * v1) + (Int32.toInt64 ((m.2 0) (Int32.toNatClampNeg ((Int32.ofInt 17) + v3))))) (v3 + (Int32.ofInt 1)))))
set_option maxHeartbeats 16000000 in
set_option maxRecDepth 20000 in
theorem l_X9_digest_219 (sc : SC) (m : Rec)  (zq : Int64)  : ∀ (n : Nat)  (v1 : Int64) (v3 : Int32), p_X9_digest_219 n m v1 v3 → zq = f_X9_digest_219 n m v1 v3 → Good sc 4 0 0 17 mX9_digest (Ret (some (.long (zq))) (wM m)) 0 0 219 [some (.ref 0), some (.long v1), none, some (.int v3), none] [] (wM m) := by
  intro n
  induction n with
  | zero => intro v1 v3 hp; exact hp.elim
  | succ n ih =>
    intro v1 v3 hp hq
    unfold p_X9_digest_219 at hp
    unfold f_X9_digest_219 at hq
    refine g_blk hz0 kX9_digest_219 ?_
    refine ⟨vinL (by decide), ?_⟩
    refine ⟨fun c5 => ?_, fun c5 => ?_⟩
    · rw [if_pos (show ((Int32.ofInt 3) * ((m.2 0) (Int32.toNatClampNeg (Int32.ofInt 16)))) ≤ v3 from c5)] at hq
      replace hp := hp.1 c5
      refine g_blk hz0 kX9_digest_255 ?_
      refine g_le (L2 := [some (.ref 0), some (.long v1), none, some (.int (Int32.ofInt 0)), none]) ⟨rfl, rfl, rfl, trivial⟩ ?_
      exact l_X9_digest_257 sc m zq 300 v1 ((Int32.ofInt 0)) hp hq
    · rw [if_neg (show ¬ (((Int32.ofInt 3) * ((m.2 0) (Int32.toNatClampNeg (Int32.ofInt 16)))) ≤ v3) from c5)] at hq
      replace hp := hp.2 c5
      refine g_blk hz0 kX9_digest_232 ?_
      refine ⟨hp.1, ?_⟩
      replace hp := hp.2
      refine g_le (L2 := [some (.ref 0), some (.long ((31 * v1) + (Int32.toInt64 ((m.2 0) (Int32.toNatClampNeg ((Int32.ofInt 17) + v3)))))), none, some (.int (v3 + (Int32.ofInt 1))), none]) ⟨rfl, rfl, rfl, trivial⟩ ?_
      exact ih ((31 * v1) + (Int32.toInt64 ((m.2 0) (Int32.toNatClampNeg ((Int32.ofInt 17) + v3))))) (v3 + (Int32.ofInt 1)) hp hq
def f_X9_digest_93  : Nat → Rec → Int64 → Int32 → Int64
  | 0, m, v1, v3 => 0
  | n + 1, m, v1, v3 => if ((m.2 0) (Int32.toNatClampNeg (Int32.ofInt 2))) ≤ v3 then (f_X9_digest_219 300 m ((31 * ((31 * ((31 * ((31 * v1) + (Int32.toInt64 ((m.2 0) (Int32.toNatClampNeg (Int32.ofInt 4)))))) + (Int32.toInt64 ((m.2 0) (Int32.toNatClampNeg (Int32.ofInt 5)))))) + (Int32.toInt64 ((m.2 0) (Int32.toNatClampNeg (Int32.ofInt 26)))))) + (Int32.toInt64 ((m.2 0) (Int32.toNatClampNeg (Int32.ofInt 27))))) ((Int32.ofInt 0))) else (f_X9_digest_106 (f_X9_digest_93 n) 300 m v1 v3 ((Int32.ofInt 0)))
def p_X9_digest_93  : Nat → Rec → Int64 → Int32 → Prop
  | 0, _, _, _ => False
  | n + 1, m, v1, v3 => (((m.2 0) (Int32.toNatClampNeg (Int32.ofInt 2))) ≤ v3 → (p_X9_digest_219 300 m ((31 * ((31 * ((31 * ((31 * v1) + (Int32.toInt64 ((m.2 0) (Int32.toNatClampNeg (Int32.ofInt 4)))))) + (Int32.toInt64 ((m.2 0) (Int32.toNatClampNeg (Int32.ofInt 5)))))) + (Int32.toInt64 ((m.2 0) (Int32.toNatClampNeg (Int32.ofInt 26)))))) + (Int32.toInt64 ((m.2 0) (Int32.toNatClampNeg (Int32.ofInt 27))))) ((Int32.ofInt 0)))) ∧ (¬ (((m.2 0) (Int32.toNatClampNeg (Int32.ofInt 2))) ≤ v3) → (p_X9_digest_106 (p_X9_digest_93 n) 300 m v1 v3 ((Int32.ofInt 0))))
set_option maxHeartbeats 16000000 in
set_option maxRecDepth 20000 in
theorem l_X9_digest_93 (sc : SC) (m : Rec)  (zq : Int64)  : ∀ (n : Nat)  (v1 : Int64) (v3 : Int32), p_X9_digest_93 n m v1 v3 → zq = f_X9_digest_93 n m v1 v3 → Good sc 4 0 0 17 mX9_digest (Ret (some (.long (zq))) (wM m)) 0 0 93 [some (.ref 0), some (.long v1), none, some (.int v3), none] [] (wM m) := by
  intro n
  induction n with
  | zero => intro v1 v3 hp; exact hp.elim
  | succ n ih =>
    intro v1 v3 hp hq
    unfold p_X9_digest_93 at hp
    unfold f_X9_digest_93 at hq
    refine g_blk hz0 kX9_digest_93 ?_
    refine ⟨vinL (by decide), ?_⟩
    refine ⟨fun c4 => ?_, fun c4 => ?_⟩
    · rw [if_pos (show ((m.2 0) (Int32.toNatClampNeg (Int32.ofInt 2))) ≤ v3 from c4)] at hq
      replace hp := hp.1 c4
      refine g_blk hz0 kX9_digest_163 ?_
      refine ⟨vinL (by decide), ?_⟩
      refine ⟨vinL (by decide), ?_⟩
      refine ⟨vinL (by decide), ?_⟩
      refine ⟨vinL (by decide), ?_⟩
      refine g_le (L2 := [some (.ref 0), some (.long ((31 * ((31 * ((31 * ((31 * v1) + (Int32.toInt64 ((m.2 0) (Int32.toNatClampNeg (Int32.ofInt 4)))))) + (Int32.toInt64 ((m.2 0) (Int32.toNatClampNeg (Int32.ofInt 5)))))) + (Int32.toInt64 ((m.2 0) (Int32.toNatClampNeg (Int32.ofInt 26)))))) + (Int32.toInt64 ((m.2 0) (Int32.toNatClampNeg (Int32.ofInt 27)))))), none, some (.int (Int32.ofInt 0)), none]) ⟨rfl, rfl, rfl, trivial⟩ ?_
      exact l_X9_digest_219 sc m zq 300 ((31 * ((31 * ((31 * ((31 * v1) + (Int32.toInt64 ((m.2 0) (Int32.toNatClampNeg (Int32.ofInt 4)))))) + (Int32.toInt64 ((m.2 0) (Int32.toNatClampNeg (Int32.ofInt 5)))))) + (Int32.toInt64 ((m.2 0) (Int32.toNatClampNeg (Int32.ofInt 26)))))) + (Int32.toInt64 ((m.2 0) (Int32.toNatClampNeg (Int32.ofInt 27))))) ((Int32.ofInt 0)) hp hq
    · rw [if_neg (show ¬ (((m.2 0) (Int32.toNatClampNeg (Int32.ofInt 2))) ≤ v3) from c4)] at hq
      replace hp := hp.2 c4
      refine g_blk hz0 kX9_digest_103 ?_
      refine g_le (L2 := [some (.ref 0), some (.long v1), none, some (.int v3), some (.int (Int32.ofInt 0))]) ⟨rfl, rfl, rfl, rfl, trivial⟩ ?_
      exact l_X9_digest_106 sc m zq (fun r0 r1 hp hq => ih r0 r1 hp hq) 300 v1 v3 ((Int32.ofInt 0)) hp hq
def f_X9_digest_58  : Nat → Rec → Int64 → Int32 → Int64
  | 0, m, v1, v3 => 0
  | n + 1, m, v1, v3 => if (Int32.ofInt 36) ≤ v3 then (f_X9_digest_93 300 m v1 ((Int32.ofInt 0))) else (if (f_X9_isCell m v3) = 0 then (f_X9_digest_58 n m v1 (v3 + (Int32.ofInt 1))) else (f_X9_digest_58 n m ((31 * v1) + (Int32.toInt64 v3)) (v3 + (Int32.ofInt 1))))
def p_X9_digest_58  : Nat → Rec → Int64 → Int32 → Prop
  | 0, _, _, _ => False
  | n + 1, m, v1, v3 => ((Int32.ofInt 36) ≤ v3 → (p_X9_digest_93 300 m v1 ((Int32.ofInt 0)))) ∧ (¬ ((Int32.ofInt 36) ≤ v3) → ((p_X9_isCell m v3) ∧ (((f_X9_isCell m v3) = 0 → (p_X9_digest_58 n m v1 (v3 + (Int32.ofInt 1)))) ∧ (¬ ((f_X9_isCell m v3) = 0) → (p_X9_digest_58 n m ((31 * v1) + (Int32.toInt64 v3)) (v3 + (Int32.ofInt 1)))))))
set_option maxHeartbeats 16000000 in
set_option maxRecDepth 20000 in
theorem l_X9_digest_58 (sc : SC) (m : Rec)  (zq : Int64)  : ∀ (n : Nat)  (v1 : Int64) (v3 : Int32), p_X9_digest_58 n m v1 v3 → zq = f_X9_digest_58 n m v1 v3 → Good sc 4 0 0 17 mX9_digest (Ret (some (.long (zq))) (wM m)) 0 0 58 [some (.ref 0), some (.long v1), none, some (.int v3), none] [] (wM m) := by
  intro n
  induction n with
  | zero => intro v1 v3 hp; exact hp.elim
  | succ n ih =>
    intro v1 v3 hp hq
    unfold p_X9_digest_58 at hp
    unfold f_X9_digest_58 at hq
    refine g_blk hz0 kX9_digest_58 ?_
    refine ⟨fun c2 => ?_, fun c2 => ?_⟩
    · rw [if_pos (show (Int32.ofInt 36) ≤ v3 from c2)] at hq
      replace hp := hp.1 c2
      refine g_blk hz0 kX9_digest_91 ?_
      refine g_le (L2 := [some (.ref 0), some (.long v1), none, some (.int (Int32.ofInt 0)), none]) ⟨rfl, rfl, rfl, trivial⟩ ?_
      exact l_X9_digest_93 sc m zq 300 v1 ((Int32.ofInt 0)) hp hq
    · rw [if_neg (show ¬ ((Int32.ofInt 36) ≤ v3) from c2)] at hq
      replace hp := hp.2 c2
      refine g_blk hz0 kX9_digest_64 ?_
      refine cVp [0, 1, 2, 3, 4, 5, 6, 7, 8, 9, 10, 11, 12, 13, 14, 15, 16] (wM m) (s_X9_isCell m v3 hp.1) rfl cwX9_isCell dX9_digest_66 rfl rfl (hm0_M_M _) ?_
      replace hp := hp.2
      refine g_blk hz0 kX9_digest_69 ?_
      refine ⟨fun c3 => ?_, fun c3 => ?_⟩
      · rw [if_pos (show (f_X9_isCell m v3) = 0 from c3)] at hq
        replace hp := hp.1 c3
        refine g_blk hz0 kX9_digest_83 ?_
        refine g_blk hz0 kX9_digest_84 ?_
        refine g_le (L2 := [some (.ref 0), some (.long v1), none, some (.int (v3 + (Int32.ofInt 1))), none]) ⟨rfl, rfl, rfl, trivial⟩ ?_
        exact ih v1 (v3 + (Int32.ofInt 1)) hp hq
      · rw [if_neg (show ¬ ((f_X9_isCell m v3) = 0) from c3)] at hq
        replace hp := hp.2 c3
        refine g_blk hz0 kX9_digest_72 ?_
        refine g_blk hz0 kX9_digest_84 ?_
        refine g_le (L2 := [some (.ref 0), some (.long ((31 * v1) + (Int32.toInt64 v3))), none, some (.int (v3 + (Int32.ofInt 1))), none]) ⟨rfl, rfl, rfl, trivial⟩ ?_
        exact ih ((31 * v1) + (Int32.toInt64 v3)) (v3 + (Int32.ofInt 1)) hp hq
def f_X9_digest_6  : Nat → Rec → Int64 → Int32 → Int64
  | 0, m, v1, v3 => 0
  | n + 1, m, v1, v3 => if (Int32.ofInt 4) ≤ v3 then (f_X9_digest_58 300 m ((31 * ((31 * v1) + (Int32.toInt64 ((m.2 0) (Int32.toNatClampNeg (Int32.ofInt 0)))))) + (Int32.toInt64 ((m.2 0) (Int32.toNatClampNeg (Int32.ofInt 1))))) ((Int32.ofInt 0))) else (f_X9_digest_6 n m ((31 * v1) + (Int32.toInt64 (f_X9_countOf m v3))) (v3 + (Int32.ofInt 1)))
def p_X9_digest_6  : Nat → Rec → Int64 → Int32 → Prop
  | 0, _, _, _ => False
  | n + 1, m, v1, v3 => ((Int32.ofInt 4) ≤ v3 → (p_X9_digest_58 300 m ((31 * ((31 * v1) + (Int32.toInt64 ((m.2 0) (Int32.toNatClampNeg (Int32.ofInt 0)))))) + (Int32.toInt64 ((m.2 0) (Int32.toNatClampNeg (Int32.ofInt 1))))) ((Int32.ofInt 0)))) ∧ (¬ ((Int32.ofInt 4) ≤ v3) → ((p_X9_countOf m v3) ∧ (p_X9_digest_6 n m ((31 * v1) + (Int32.toInt64 (f_X9_countOf m v3))) (v3 + (Int32.ofInt 1)))))
set_option maxHeartbeats 16000000 in
set_option maxRecDepth 20000 in
theorem l_X9_digest_6 (sc : SC) (m : Rec)  (zq : Int64)  : ∀ (n : Nat)  (v1 : Int64) (v3 : Int32), p_X9_digest_6 n m v1 v3 → zq = f_X9_digest_6 n m v1 v3 → Good sc 4 0 0 17 mX9_digest (Ret (some (.long (zq))) (wM m)) 0 0 6 [some (.ref 0), some (.long v1), none, some (.int v3), none] [] (wM m) := by
  intro n
  induction n with
  | zero => intro v1 v3 hp; exact hp.elim
  | succ n ih =>
    intro v1 v3 hp hq
    unfold p_X9_digest_6 at hp
    unfold f_X9_digest_6 at hq
    refine g_blk hz0 kX9_digest_6 ?_
    refine ⟨fun c1 => ?_, fun c1 => ?_⟩
    · rw [if_pos (show (Int32.ofInt 4) ≤ v3 from c1)] at hq
      replace hp := hp.1 c1
      refine g_blk hz0 kX9_digest_30 ?_
      refine ⟨vinL (by decide), ?_⟩
      refine ⟨vinL (by decide), ?_⟩
      refine g_le (L2 := [some (.ref 0), some (.long ((31 * ((31 * v1) + (Int32.toInt64 ((m.2 0) (Int32.toNatClampNeg (Int32.ofInt 0)))))) + (Int32.toInt64 ((m.2 0) (Int32.toNatClampNeg (Int32.ofInt 1)))))), none, some (.int (Int32.ofInt 0)), none]) ⟨rfl, rfl, rfl, trivial⟩ ?_
      exact l_X9_digest_58 sc m zq 300 ((31 * ((31 * v1) + (Int32.toInt64 ((m.2 0) (Int32.toNatClampNeg (Int32.ofInt 0)))))) + (Int32.toInt64 ((m.2 0) (Int32.toNatClampNeg (Int32.ofInt 1))))) ((Int32.ofInt 0)) hp hq
    · rw [if_neg (show ¬ ((Int32.ofInt 4) ≤ v3) from c1)] at hq
      replace hp := hp.2 c1
      refine g_blk hz0 kX9_digest_11 ?_
      refine cVp [0, 1, 2, 3, 4, 5, 6, 7, 8, 9, 10, 11, 12, 13, 14, 15, 16] (wM m) (s_X9_countOf m v3 hp.1) rfl cwX9_countOf dX9_digest_18 rfl rfl (hm0_M_M _) ?_
      replace hp := hp.2
      refine g_blk hz0 kX9_digest_21 ?_
      refine g_le (L2 := [some (.ref 0), some (.long ((31 * v1) + (Int32.toInt64 (f_X9_countOf m v3)))), none, some (.int (v3 + (Int32.ofInt 1))), none]) ⟨rfl, rfl, rfl, trivial⟩ ?_
      exact ih ((31 * v1) + (Int32.toInt64 (f_X9_countOf m v3))) (v3 + (Int32.ofInt 1)) hp hq
def f_X9_digest (m : Rec)  : Int64 := (f_X9_digest_6 300 m 653 ((Int32.ofInt 0)))
def p_X9_digest (m : Rec)  : Prop := (p_X9_digest_6 300 m 653 ((Int32.ofInt 0)))
set_option maxHeartbeats 16000000 in
set_option maxRecDepth 20000 in
theorem s_X9_digest (m : Rec)  (hp : p_X9_digest m) : Spec 4 0 0 mX9_digest [.ref 0] (wM m) (Ret (some (.long ((f_X9_digest m)))) (wM m)) := by
  obtain ⟨zq, hq⟩ : ∃ z, z = (f_X9_digest m) := ⟨_, rfl⟩
  rw [← hq]
  unfold f_X9_digest at hq
  unfold p_X9_digest at hp
  refine Sof fun sc => ?_
  refine g_blk hz0 kX9_digest_0 ?_
  refine g_le (L2 := [some (.ref 0), some (.long 653), none, some (.int (Int32.ofInt 0)), none]) ⟨rfl, rfl, rfl, trivial⟩ ?_
  exact l_X9_digest_6 sc m zq 300 653 ((Int32.ofInt 0)) hp hq
