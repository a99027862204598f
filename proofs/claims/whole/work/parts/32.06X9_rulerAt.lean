def f_X9_rulerAt_54 (K5 : Rec → Int32 → Int32 → Int32 → Int32 → Int32) (m : Rec) (v1 : Int32) (v2 : Int32) (v3 : Int32) (v4 : Int32) (u0 : Int32) : Int32 := if u0 = 0 then (if (f_X9_strengthOf m v3) < (f_X9_strengthOf m v4) then (K5 m v1 v2 v4 (v4 + (Int32.ofInt 1))) else (if (f_X9_strengthOf m v4) = (f_X9_strengthOf m v3) then (if ((m.2 6) (Int32.toNatClampNeg ((m.2 0) (Int32.toNatClampNeg ((Int32.ofInt 8) + v4))))) ≤ ((m.2 6) (Int32.toNatClampNeg ((m.2 0) (Int32.toNatClampNeg ((Int32.ofInt 8) + v3))))) then (K5 m v1 v2 v3 (v4 + (Int32.ofInt 1))) else (K5 m v1 v2 v4 (v4 + (Int32.ofInt 1)))) else (K5 m v1 v2 v3 (v4 + (Int32.ofInt 1))))) else (if u0 = 0 then (K5 m v1 v2 v3 (v4 + (Int32.ofInt 1))) else (K5 m v1 v2 v4 (v4 + (Int32.ofInt 1))))
def p_X9_rulerAt_54 (G5 : Rec → Int32 → Int32 → Int32 → Int32 → Prop) (m : Rec) (v1 : Int32) (v2 : Int32) (v3 : Int32) (v4 : Int32) (u0 : Int32) : Prop := (u0 = 0 → ((p_X9_strengthOf m v4) ∧ ((p_X9_strengthOf m v3) ∧ (((f_X9_strengthOf m v3) < (f_X9_strengthOf m v4) → (G5 m v1 v2 v4 (v4 + (Int32.ofInt 1)))) ∧ (¬ ((f_X9_strengthOf m v3) < (f_X9_strengthOf m v4)) → (((f_X9_strengthOf m v4) = (f_X9_strengthOf m v3) → (vp_in ((Int32.ofInt 8) + v4) 248 ∧ (vp_in ((m.2 0) (Int32.toNatClampNeg ((Int32.ofInt 8) + v4))) 36 ∧ (vp_in ((Int32.ofInt 8) + v3) 248 ∧ (vp_in ((m.2 0) (Int32.toNatClampNeg ((Int32.ofInt 8) + v3))) 36 ∧ ((((m.2 6) (Int32.toNatClampNeg ((m.2 0) (Int32.toNatClampNeg ((Int32.ofInt 8) + v4))))) ≤ ((m.2 6) (Int32.toNatClampNeg ((m.2 0) (Int32.toNatClampNeg ((Int32.ofInt 8) + v3))))) → (G5 m v1 v2 v3 (v4 + (Int32.ofInt 1)))) ∧ (¬ (((m.2 6) (Int32.toNatClampNeg ((m.2 0) (Int32.toNatClampNeg ((Int32.ofInt 8) + v4))))) ≤ ((m.2 6) (Int32.toNatClampNeg ((m.2 0) (Int32.toNatClampNeg ((Int32.ofInt 8) + v3)))))) → (G5 m v1 v2 v4 (v4 + (Int32.ofInt 1)))))))))) ∧ (¬ ((f_X9_strengthOf m v4) = (f_X9_strengthOf m v3)) → (G5 m v1 v2 v3 (v4 + (Int32.ofInt 1)))))))))) ∧ (¬ (u0 = 0) → ((u0 = 0 → (G5 m v1 v2 v3 (v4 + (Int32.ofInt 1)))) ∧ (¬ (u0 = 0) → (G5 m v1 v2 v4 (v4 + (Int32.ofInt 1))))))
set_option maxHeartbeats 16000000 in
set_option maxRecDepth 20000 in
theorem l_X9_rulerAt_54 (sc : SC) (m : Rec) {K5 : Rec → Int32 → Int32 → Int32 → Int32 → Int32} {G5 : Rec → Int32 → Int32 → Int32 → Int32 → Prop} (zq : Int32) (hK5 : ∀ (v1 : Int32) (v2 : Int32) (v3 : Int32) (v4 : Int32), G5 m v1 v2 v3 v4 → zq = K5 m v1 v2 v3 v4 → Good sc 3 0 0 17 mX9_rulerAt (Ret (some (.int (zq))) (wM m)) 0 0 5 [some (.ref 0), some (.int v1), some (.int v2), some (.int v3), some (.int v4), none, none, none] [] (wM m))  (v1 : Int32) (v2 : Int32) (v3 : Int32) (v4 : Int32) (u0 : Int32) (hp : p_X9_rulerAt_54 G5 m v1 v2 v3 v4 u0) (hq : zq = f_X9_rulerAt_54 K5 m v1 v2 v3 v4 u0) : Good sc 3 0 0 17 mX9_rulerAt (Ret (some (.int (zq))) (wM m)) 0 0 54 [some (.ref 0), some (.int v1), some (.int v2), some (.int v3), some (.int v4), none, none, none] [.int u0] (wM m) := by
  unfold p_X9_rulerAt_54 at hp
  unfold f_X9_rulerAt_54 at hq
  refine g_blk hz0 kX9_rulerAt_54 ?_
  refine ⟨fun c5 => ?_, fun c5 => ?_⟩
  · rw [if_neg (show ¬ (u0 = 0) from c5)] at hq
    replace hp := hp.2 c5
    refine g_blk hz0 kX9_rulerAt_129 ?_
    refine ⟨fun c9 => ?_, fun c9 => ?_⟩
    · rw [if_pos (show u0 = 0 from c9)] at hq
      replace hp := hp.1 c9
      refine g_blk hz0 kX9_rulerAt_139 ?_
      refine g_blk hz0 kX9_rulerAt_140 ?_
      refine g_blk hz0 kX9_rulerAt_141 ?_
      refine g_le (L2 := [some (.ref 0), some (.int v1), some (.int v2), some (.int v3), some (.int (v4 + (Int32.ofInt 1))), none, none, none]) ⟨rfl, rfl, rfl, rfl, rfl, trivial⟩ ?_
      exact hK5 v1 v2 v3 (v4 + (Int32.ofInt 1)) hp hq
    · rw [if_neg (show ¬ (u0 = 0) from c9)] at hq
      replace hp := hp.2 c9
      refine g_blk hz0 kX9_rulerAt_134 ?_
      refine g_blk hz0 kX9_rulerAt_140 ?_
      refine g_blk hz0 kX9_rulerAt_141 ?_
      refine g_le (L2 := [some (.ref 0), some (.int v1), some (.int v2), some (.int v4), some (.int (v4 + (Int32.ofInt 1))), none, none, none]) ⟨rfl, rfl, rfl, rfl, rfl, trivial⟩ ?_
      exact hK5 v1 v2 v4 (v4 + (Int32.ofInt 1)) hp hq
  · rw [if_pos (show u0 = 0 from c5)] at hq
    replace hp := hp.1 c5
    refine g_blk hz0 kX9_rulerAt_61 ?_
    refine cVp [0, 1, 2, 3, 4, 5, 6, 7, 8, 9, 10, 11, 12, 13, 14, 15, 16] (wM m) (s_X9_strengthOf m v4 hp.1) rfl cwX9_strengthOf dX9_rulerAt_64 rfl rfl (hm0_M_M _) ?_
    replace hp := hp.2
    refine g_blk hz0 kX9_rulerAt_67 ?_
    refine cVp [0, 1, 2, 3, 4, 5, 6, 7, 8, 9, 10, 11, 12, 13, 14, 15, 16] (wM m) (s_X9_strengthOf m v3 hp.1) rfl cwX9_strengthOf dX9_rulerAt_71 rfl rfl (hm0_M_M _) ?_
    replace hp := hp.2
    refine g_blk hz0 kX9_rulerAt_74 ?_
    refine ⟨fun c6 => ?_, fun c6 => ?_⟩
    · rw [if_pos (show (f_X9_strengthOf m v3) < (f_X9_strengthOf m v4) from c6)] at hq
      replace hp := hp.1 c6
      refine g_blk hz0 kX9_rulerAt_122 ?_
      refine g_blk hz0 kX9_rulerAt_127 ?_
      refine g_blk hz0 kX9_rulerAt_129 ?_
      refine ⟨fun c => absurd c (by decide), fun _ => ?_⟩
      refine g_blk hz0 kX9_rulerAt_134 ?_
      refine g_blk hz0 kX9_rulerAt_140 ?_
      refine g_blk hz0 kX9_rulerAt_141 ?_
      refine g_le (L2 := [some (.ref 0), some (.int v1), some (.int v2), some (.int v4), some (.int (v4 + (Int32.ofInt 1))), none, none, none]) ⟨rfl, rfl, rfl, rfl, rfl, trivial⟩ ?_
      exact hK5 v1 v2 v4 (v4 + (Int32.ofInt 1)) hp hq
    · rw [if_neg (show ¬ ((f_X9_strengthOf m v3) < (f_X9_strengthOf m v4)) from c6)] at hq
      replace hp := hp.2 c6
      refine g_blk hz0 kX9_rulerAt_83 ?_
      refine ⟨fun c7 => ?_, fun c7 => ?_⟩
      · rw [if_neg (show ¬ ((f_X9_strengthOf m v4) = (f_X9_strengthOf m v3)) from c7)] at hq
        replace hp := hp.2 c7
        refine g_blk hz0 kX9_rulerAt_126 ?_
        refine g_blk hz0 kX9_rulerAt_127 ?_
        refine g_blk hz0 kX9_rulerAt_129 ?_
        refine ⟨fun _ => ?_, fun c => absurd c (by decide)⟩
        refine g_blk hz0 kX9_rulerAt_139 ?_
        refine g_blk hz0 kX9_rulerAt_140 ?_
        refine g_blk hz0 kX9_rulerAt_141 ?_
        refine g_le (L2 := [some (.ref 0), some (.int v1), some (.int v2), some (.int v3), some (.int (v4 + (Int32.ofInt 1))), none, none, none]) ⟨rfl, rfl, rfl, rfl, rfl, trivial⟩ ?_
        exact hK5 v1 v2 v3 (v4 + (Int32.ofInt 1)) hp hq
      · rw [if_pos (show (f_X9_strengthOf m v4) = (f_X9_strengthOf m v3) from c7)] at hq
        replace hp := hp.1 c7
        refine g_blk hz0 kX9_rulerAt_90 ?_
        refine ⟨hp.1, ?_⟩
        replace hp := hp.2
        refine ⟨hp.1, ?_⟩
        replace hp := hp.2
        refine ⟨hp.1, ?_⟩
        replace hp := hp.2
        refine ⟨hp.1, ?_⟩
        replace hp := hp.2
        refine ⟨fun c8 => ?_, fun c8 => ?_⟩
        · rw [if_pos (show ((m.2 6) (Int32.toNatClampNeg ((m.2 0) (Int32.toNatClampNeg ((Int32.ofInt 8) + v4))))) ≤ ((m.2 6) (Int32.toNatClampNeg ((m.2 0) (Int32.toNatClampNeg ((Int32.ofInt 8) + v3))))) from c8)] at hq
          replace hp := hp.1 c8
          refine g_blk hz0 kX9_rulerAt_126 ?_
          refine g_blk hz0 kX9_rulerAt_127 ?_
          refine g_blk hz0 kX9_rulerAt_129 ?_
          refine ⟨fun _ => ?_, fun c => absurd c (by decide)⟩
          refine g_blk hz0 kX9_rulerAt_139 ?_
          refine g_blk hz0 kX9_rulerAt_140 ?_
          refine g_blk hz0 kX9_rulerAt_141 ?_
          refine g_le (L2 := [some (.ref 0), some (.int v1), some (.int v2), some (.int v3), some (.int (v4 + (Int32.ofInt 1))), none, none, none]) ⟨rfl, rfl, rfl, rfl, rfl, trivial⟩ ?_
          exact hK5 v1 v2 v3 (v4 + (Int32.ofInt 1)) hp hq
        · rw [if_neg (show ¬ (((m.2 6) (Int32.toNatClampNeg ((m.2 0) (Int32.toNatClampNeg ((Int32.ofInt 8) + v4))))) ≤ ((m.2 6) (Int32.toNatClampNeg ((m.2 0) (Int32.toNatClampNeg ((Int32.ofInt 8) + v3)))))) from c8)] at hq
          replace hp := hp.2 c8
          refine g_blk hz0 kX9_rulerAt_122 ?_
          refine g_blk hz0 kX9_rulerAt_127 ?_
          refine g_blk hz0 kX9_rulerAt_129 ?_
          refine ⟨fun c => absurd c (by decide), fun _ => ?_⟩
          refine g_blk hz0 kX9_rulerAt_134 ?_
          refine g_blk hz0 kX9_rulerAt_140 ?_
          refine g_blk hz0 kX9_rulerAt_141 ?_
          refine g_le (L2 := [some (.ref 0), some (.int v1), some (.int v2), some (.int v4), some (.int (v4 + (Int32.ofInt 1))), none, none, none]) ⟨rfl, rfl, rfl, rfl, rfl, trivial⟩ ?_
          exact hK5 v1 v2 v4 (v4 + (Int32.ofInt 1)) hp hq
def f_X9_rulerAt_5  : Nat → Rec → Int32 → Int32 → Int32 → Int32 → Int32
  | 0, m, v1, v2, v3, v4 => 0
  | n + 1, m, v1, v2, v3, v4 => if ((m.2 0) (Int32.toNatClampNeg (Int32.ofInt 2))) ≤ v4 then v3 else (if (f_X9_isHere m v4) = 0 then (f_X9_rulerAt_5 n m v1 v2 v3 (v4 + (Int32.ofInt 1))) else (if (f_X9_isAt m ((m.2 0) (Int32.toNatClampNeg ((Int32.ofInt 8) + v4))) v1 v2) = 0 then (f_X9_rulerAt_5 n m v1 v2 v3 (v4 + (Int32.ofInt 1))) else (if v3 = (Int32.ofInt (-1)) then (f_X9_rulerAt_54 (f_X9_rulerAt_5 n) m v1 v2 v3 v4 ((Int32.ofInt 1))) else (f_X9_rulerAt_54 (f_X9_rulerAt_5 n) m v1 v2 v3 v4 ((Int32.ofInt 0))))))
def p_X9_rulerAt_5  : Nat → Rec → Int32 → Int32 → Int32 → Int32 → Prop
  | 0, _, _, _, _, _ => False
  | n + 1, m, v1, v2, v3, v4 => (((m.2 0) (Int32.toNatClampNeg (Int32.ofInt 2))) ≤ v4 → True) ∧ (¬ (((m.2 0) (Int32.toNatClampNeg (Int32.ofInt 2))) ≤ v4) → ((p_X9_isHere m v4) ∧ (((f_X9_isHere m v4) = 0 → (p_X9_rulerAt_5 n m v1 v2 v3 (v4 + (Int32.ofInt 1)))) ∧ (¬ ((f_X9_isHere m v4) = 0) → (vp_in ((Int32.ofInt 8) + v4) 248 ∧ ((p_X9_isAt m ((m.2 0) (Int32.toNatClampNeg ((Int32.ofInt 8) + v4))) v1 v2) ∧ (((f_X9_isAt m ((m.2 0) (Int32.toNatClampNeg ((Int32.ofInt 8) + v4))) v1 v2) = 0 → (p_X9_rulerAt_5 n m v1 v2 v3 (v4 + (Int32.ofInt 1)))) ∧ (¬ ((f_X9_isAt m ((m.2 0) (Int32.toNatClampNeg ((Int32.ofInt 8) + v4))) v1 v2) = 0) → ((v3 = (Int32.ofInt (-1)) → (p_X9_rulerAt_54 (p_X9_rulerAt_5 n) m v1 v2 v3 v4 ((Int32.ofInt 1)))) ∧ (¬ (v3 = (Int32.ofInt (-1))) → (p_X9_rulerAt_54 (p_X9_rulerAt_5 n) m v1 v2 v3 v4 ((Int32.ofInt 0)))))))))))))
set_option maxHeartbeats 16000000 in
set_option maxRecDepth 20000 in
theorem l_X9_rulerAt_5 (sc : SC) (m : Rec)  (zq : Int32)  : ∀ (n : Nat)  (v1 : Int32) (v2 : Int32) (v3 : Int32) (v4 : Int32), p_X9_rulerAt_5 n m v1 v2 v3 v4 → zq = f_X9_rulerAt_5 n m v1 v2 v3 v4 → Good sc 3 0 0 17 mX9_rulerAt (Ret (some (.int (zq))) (wM m)) 0 0 5 [some (.ref 0), some (.int v1), some (.int v2), some (.int v3), some (.int v4), none, none, none] [] (wM m) := by
  intro n
  induction n with
  | zero => intro v1 v2 v3 v4 hp; exact hp.elim
  | succ n ih =>
    intro v1 v2 v3 v4 hp hq
    unfold p_X9_rulerAt_5 at hp
    unfold f_X9_rulerAt_5 at hq
    refine g_blk hz0 kX9_rulerAt_5 ?_
    refine ⟨vinL (by decide), ?_⟩
    refine ⟨fun c1 => ?_, fun c1 => ?_⟩
    · rw [if_pos (show ((m.2 0) (Int32.toNatClampNeg (Int32.ofInt 2))) ≤ v4 from c1)] at hq
      refine g_blk hz0 kX9_rulerAt_147 ?_
      subst hq
      exact ⟨fun h => (by cases h), rfl, rfl⟩
    · rw [if_neg (show ¬ (((m.2 0) (Int32.toNatClampNeg (Int32.ofInt 2))) ≤ v4) from c1)] at hq
      replace hp := hp.2 c1
      refine g_blk hz0 kX9_rulerAt_16 ?_
      refine cVp [0, 1, 2, 3, 4, 5, 6, 7, 8, 9, 10, 11, 12, 13, 14, 15, 16] (wM m) (s_X9_isHere m v4 hp.1) rfl cwX9_isHere dX9_rulerAt_19 rfl rfl (hm0_M_M _) ?_
      replace hp := hp.2
      refine g_blk hz0 kX9_rulerAt_22 ?_
      refine ⟨fun c2 => ?_, fun c2 => ?_⟩
      · rw [if_pos (show (f_X9_isHere m v4) = 0 from c2)] at hq
        replace hp := hp.1 c2
        refine g_blk hz0 kX9_rulerAt_141 ?_
        refine g_le (L2 := [some (.ref 0), some (.int v1), some (.int v2), some (.int v3), some (.int (v4 + (Int32.ofInt 1))), none, none, none]) ⟨rfl, rfl, rfl, rfl, rfl, trivial⟩ ?_
        exact ih v1 v2 v3 (v4 + (Int32.ofInt 1)) hp hq
      · rw [if_neg (show ¬ ((f_X9_isHere m v4) = 0) from c2)] at hq
        replace hp := hp.2 c2
        refine g_blk hz0 kX9_rulerAt_25 ?_
        refine ⟨hp.1, ?_⟩
        replace hp := hp.2
        refine cVp [0, 1, 2, 3, 4, 5, 6, 7, 8, 9, 10, 11, 12, 13, 14, 15, 16] (wM m) (s_X9_isAt m ((m.2 0) (Int32.toNatClampNeg ((Int32.ofInt 8) + v4))) v1 v2 hp.1) rfl cwX9_isAt dX9_rulerAt_38 rfl rfl (hm0_M_M _) ?_
        replace hp := hp.2
        refine g_blk hz0 kX9_rulerAt_41 ?_
        refine ⟨fun c3 => ?_, fun c3 => ?_⟩
        · rw [if_pos (show (f_X9_isAt m ((m.2 0) (Int32.toNatClampNeg ((Int32.ofInt 8) + v4))) v1 v2) = 0 from c3)] at hq
          replace hp := hp.1 c3
          refine g_blk hz0 kX9_rulerAt_141 ?_
          refine g_le (L2 := [some (.ref 0), some (.int v1), some (.int v2), some (.int v3), some (.int (v4 + (Int32.ofInt 1))), none, none, none]) ⟨rfl, rfl, rfl, rfl, rfl, trivial⟩ ?_
          exact ih v1 v2 v3 (v4 + (Int32.ofInt 1)) hp hq
        · rw [if_neg (show ¬ ((f_X9_isAt m ((m.2 0) (Int32.toNatClampNeg ((Int32.ofInt 8) + v4))) v1 v2) = 0) from c3)] at hq
          replace hp := hp.2 c3
          refine g_blk hz0 kX9_rulerAt_44 ?_
          refine ⟨fun c4 => ?_, fun c4 => ?_⟩
          · rw [if_neg (show ¬ (v3 = (Int32.ofInt (-1))) from c4)] at hq
            replace hp := hp.2 c4
            refine g_blk hz0 kX9_rulerAt_53 ?_
            refine g_le (L2 := [some (.ref 0), some (.int v1), some (.int v2), some (.int v3), some (.int v4), none, none, none]) ⟨rfl, rfl, rfl, rfl, rfl, trivial⟩ ?_
            exact l_X9_rulerAt_54 sc m zq (fun r0 r1 r2 r3 hp hq => ih r0 r1 r2 r3 hp hq) v1 v2 v3 v4 ((Int32.ofInt 0)) hp hq
          · rw [if_pos (show v3 = (Int32.ofInt (-1)) from c4)] at hq
            replace hp := hp.1 c4
            refine g_blk hz0 kX9_rulerAt_49 ?_
            refine g_le (L2 := [some (.ref 0), some (.int v1), some (.int v2), some (.int v3), some (.int v4), none, none, none]) ⟨rfl, rfl, rfl, rfl, rfl, trivial⟩ ?_
            exact l_X9_rulerAt_54 sc m zq (fun r0 r1 r2 r3 hp hq => ih r0 r1 r2 r3 hp hq) v1 v2 v3 v4 ((Int32.ofInt 1)) hp hq
def f_X9_rulerAt (m : Rec) (x : Int32) (y : Int32) : Int32 := (f_X9_rulerAt_5 40 m x y ((Int32.ofInt (-1))) ((Int32.ofInt 0)))
def p_X9_rulerAt (m : Rec) (x : Int32) (y : Int32) : Prop := (p_X9_rulerAt_5 40 m x y ((Int32.ofInt (-1))) ((Int32.ofInt 0)))
set_option maxHeartbeats 16000000 in
set_option maxRecDepth 20000 in
theorem s_X9_rulerAt (m : Rec) (x : Int32) (y : Int32) (hp : p_X9_rulerAt m x y) : Spec 3 0 0 mX9_rulerAt [.ref 0, .int x, .int y] (wM m) (Ret (some (.int ((f_X9_rulerAt m x y)))) (wM m)) := by
  obtain ⟨zq, hq⟩ : ∃ z, z = (f_X9_rulerAt m x y) := ⟨_, rfl⟩
  rw [← hq]
  unfold f_X9_rulerAt at hq
  unfold p_X9_rulerAt at hp
  refine Sof fun sc => ?_
  refine g_blk hz0 kX9_rulerAt_0 ?_
  refine g_le (L2 := [some (.ref 0), some (.int x), some (.int y), some (.int (Int32.ofInt (-1))), some (.int (Int32.ofInt 0)), none, none, none]) ⟨rfl, rfl, rfl, rfl, rfl, trivial⟩ ?_
  exact l_X9_rulerAt_5 sc m zq 40 x y ((Int32.ofInt (-1))) ((Int32.ofInt 0)) hp hq
