set_option maxHeartbeats 16000000 in
theorem hm19_KP_S (k : Rec) (s : Rec) (p : Rec) : [4, 5, 6, 7, 8, 9, 10].map (lk (wKP k s p)) = (wS s).map (fun e => some (ren [4, 5, 6, 7, 8, 9, 10] e)) := rfl
set_option maxHeartbeats 16000000 in
theorem pw32_KP_S (k : Rec) (s : Rec) (p : Rec)  : putW (wKP k s p) [4, 5, 6, 7, 8, 9, 10] ((wS s).map (ren [4, 5, 6, 7, 8, 9, 10])) = (wKP k s p) := rfl
set_option maxHeartbeats 16000000 in
theorem hm20_KP_P (k : Rec) (s : Rec) (p : Rec) : [3, 4, 5, 6, 7, 8, 9, 10, 11, 12, 13, 14].map (lk (wKP k s p)) = (wP s p).map (fun e => some (ren [3, 4, 5, 6, 7, 8, 9, 10, 11, 12, 13, 14] e)) := rfl
set_option maxHeartbeats 16000000 in
theorem pw33_KP_P (k : Rec) (s : Rec) (p : Rec)  : putW (wKP k s p) [3, 4, 5, 6, 7, 8, 9, 10, 11, 12, 13, 14] ((wP s p).map (ren [3, 4, 5, 6, 7, 8, 9, 10, 11, 12, 13, 14])) = (wKP k s p) := rfl
def f_X7_spread_6  : Nat → Rec → Rec → Rec → Int32 → Int32 → Int32 → Int32 × Rec
  | 0, k, s, p, v2, v4, v5 => (0, k)
  | n + 1, k, s, p, v2, v4, v5 => if (Int32.ofInt 4) ≤ v5 then (v4, k) else (if (f_X4_topAt s (((s.2 10) (Int32.toNatClampNeg v2)) + (wXf (Int32.toNatClampNeg v5))) (((s.2 11) (Int32.toNatClampNeg v2)) + (wYf (Int32.toNatClampNeg v5)))) = (Int32.ofInt (-1)) then (f_X7_spread_6 n k s p v2 v4 (v5 + (Int32.ofInt 1))) else (if ((k.2 0) (Int32.toNatClampNeg (f_X4_topAt s (((s.2 10) (Int32.toNatClampNeg v2)) + (wXf (Int32.toNatClampNeg v5))) (((s.2 11) (Int32.toNatClampNeg v2)) + (wYf (Int32.toNatClampNeg v5)))))) = (Int32.ofInt (-1)) then (if (Int32.ofInt 36) ≤ v4 then (f_X7_spread_6 n k s p v2 v4 (v5 + (Int32.ofInt 1))) else (if (f_X3_rulerAt s p (((s.2 10) (Int32.toNatClampNeg v2)) + (wXf (Int32.toNatClampNeg v5))) (((s.2 11) (Int32.toNatClampNeg v2)) + (wYf (Int32.toNatClampNeg v5)))) = (Int32.ofInt (-1)) then (f_X7_spread_6 n (setA (setA k 0 (upd (k.2 0) (Int32.toNatClampNeg (f_X4_topAt s (((s.2 10) (Int32.toNatClampNeg v2)) + (wXf (Int32.toNatClampNeg v5))) (((s.2 11) (Int32.toNatClampNeg v2)) + (wYf (Int32.toNatClampNeg v5))))) (((k.2 0) (Int32.toNatClampNeg v2)) + (Int32.ofInt 1)))) 1 (upd (k.2 1) (Int32.toNatClampNeg v4) (f_X4_topAt s (((s.2 10) (Int32.toNatClampNeg v2)) + (wXf (Int32.toNatClampNeg v5))) (((s.2 11) (Int32.toNatClampNeg v2)) + (wYf (Int32.toNatClampNeg v5)))))) s p v2 (v4 + (Int32.ofInt 1)) (v5 + (Int32.ofInt 1))) else (f_X7_spread_6 n k s p v2 v4 (v5 + (Int32.ofInt 1))))) else (f_X7_spread_6 n k s p v2 v4 (v5 + (Int32.ofInt 1)))))
def p_X7_spread_6  : Nat → Rec → Rec → Rec → Int32 → Int32 → Int32 → Prop
  | 0, _, _, _, _, _, _ => False
  | n + 1, k, s, p, v2, v4, v5 => ((Int32.ofInt 4) ≤ v5 → True) ∧ (¬ ((Int32.ofInt 4) ≤ v5) → (vp_in v2 36 ∧ (vp_in v5 4 ∧ (vp_in v2 36 ∧ (vp_in v5 4 ∧ ((p_X4_topAt s (((s.2 10) (Int32.toNatClampNeg v2)) + (wXf (Int32.toNatClampNeg v5))) (((s.2 11) (Int32.toNatClampNeg v2)) + (wYf (Int32.toNatClampNeg v5)))) ∧ (((f_X4_topAt s (((s.2 10) (Int32.toNatClampNeg v2)) + (wXf (Int32.toNatClampNeg v5))) (((s.2 11) (Int32.toNatClampNeg v2)) + (wYf (Int32.toNatClampNeg v5)))) = (Int32.ofInt (-1)) → (p_X7_spread_6 n k s p v2 v4 (v5 + (Int32.ofInt 1)))) ∧ (¬ ((f_X4_topAt s (((s.2 10) (Int32.toNatClampNeg v2)) + (wXf (Int32.toNatClampNeg v5))) (((s.2 11) (Int32.toNatClampNeg v2)) + (wYf (Int32.toNatClampNeg v5)))) = (Int32.ofInt (-1))) → (vp_in (f_X4_topAt s (((s.2 10) (Int32.toNatClampNeg v2)) + (wXf (Int32.toNatClampNeg v5))) (((s.2 11) (Int32.toNatClampNeg v2)) + (wYf (Int32.toNatClampNeg v5)))) 36 ∧ ((((k.2 0) (Int32.toNatClampNeg (f_X4_topAt s (((s.2 10) (Int32.toNatClampNeg v2)) + (wXf (Int32.toNatClampNeg v5))) (((s.2 11) (Int32.toNatClampNeg v2)) + (wYf (Int32.toNatClampNeg v5)))))) = (Int32.ofInt (-1)) → (((Int32.ofInt 36) ≤ v4 → (p_X7_spread_6 n k s p v2 v4 (v5 + (Int32.ofInt 1)))) ∧ (¬ ((Int32.ofInt 36) ≤ v4) → ((p_X3_rulerAt s p (((s.2 10) (Int32.toNatClampNeg v2)) + (wXf (Int32.toNatClampNeg v5))) (((s.2 11) (Int32.toNatClampNeg v2)) + (wYf (Int32.toNatClampNeg v5)))) ∧ (((f_X3_rulerAt s p (((s.2 10) (Int32.toNatClampNeg v2)) + (wXf (Int32.toNatClampNeg v5))) (((s.2 11) (Int32.toNatClampNeg v2)) + (wYf (Int32.toNatClampNeg v5)))) = (Int32.ofInt (-1)) → (vp_in v2 36 ∧ (vp_in (f_X4_topAt s (((s.2 10) (Int32.toNatClampNeg v2)) + (wXf (Int32.toNatClampNeg v5))) (((s.2 11) (Int32.toNatClampNeg v2)) + (wYf (Int32.toNatClampNeg v5)))) 36 ∧ (vp_in v4 36 ∧ (p_X7_spread_6 n (setA (setA k 0 (upd (k.2 0) (Int32.toNatClampNeg (f_X4_topAt s (((s.2 10) (Int32.toNatClampNeg v2)) + (wXf (Int32.toNatClampNeg v5))) (((s.2 11) (Int32.toNatClampNeg v2)) + (wYf (Int32.toNatClampNeg v5))))) (((k.2 0) (Int32.toNatClampNeg v2)) + (Int32.ofInt 1)))) 1 (upd (k.2 1) (Int32.toNatClampNeg v4) (f_X4_topAt s (((s.2 10) (Int32.toNatClampNeg v2)) + (wXf (Int32.toNatClampNeg v5))) (((s.2 11) (Int32.toNatClampNeg v2)) + (wYf (Int32.toNatClampNeg v5)))))) s p v2 (v4 + (Int32.ofInt 1)) (v5 + (Int32.ofInt 1))))))) ∧ (¬ ((f_X3_rulerAt s p (((s.2 10) (Int32.toNatClampNeg v2)) + (wXf (Int32.toNatClampNeg v5))) (((s.2 11) (Int32.toNatClampNeg v2)) + (wYf (Int32.toNatClampNeg v5)))) = (Int32.ofInt (-1))) → (p_X7_spread_6 n k s p v2 v4 (v5 + (Int32.ofInt 1))))))))) ∧ (¬ (((k.2 0) (Int32.toNatClampNeg (f_X4_topAt s (((s.2 10) (Int32.toNatClampNeg v2)) + (wXf (Int32.toNatClampNeg v5))) (((s.2 11) (Int32.toNatClampNeg v2)) + (wYf (Int32.toNatClampNeg v5)))))) = (Int32.ofInt (-1))) → (p_X7_spread_6 n k s p v2 v4 (v5 + (Int32.ofInt 1))))))))))))))
set_option maxHeartbeats 16000000 in
set_option maxRecDepth 20000 in
theorem l_X7_spread_6 (sc : SC) (s : Rec) (p : Rec)  (zq : Int32 × Rec)  : ∀ (n : Nat) (k : Rec) (v2 : Int32) (v4 : Int32) (v5 : Int32), p_X7_spread_6 n k s p v2 v4 v5 → zq = f_X7_spread_6 n k s p v2 v4 v5 → Good sc 2 0 0 15 mX7_spread (Ret (some (.int (zq.1))) (wKP (zq.2) s p)) 0 0 6 [some (.ref 0), some (.ref 3), some (.int v2), none, some (.int v4), some (.int v5), none, none, none] [] (wKP k s p) := by
  intro n
  induction n with
  | zero => intro k v2 v4 v5 hp; exact hp.elim
  | succ n ih =>
    intro k v2 v4 v5 hp hq
    unfold p_X7_spread_6 at hp
    unfold f_X7_spread_6 at hq
    refine g_blk hz0 kX7_spread_6 ?_
    refine ⟨fun c1 => ?_, fun c1 => ?_⟩
    · rw [if_pos (show (Int32.ofInt 4) ≤ v5 from c1)] at hq
      refine g_blk hz0 kX7_spread_130 ?_
      subst hq
      exact ⟨fun h => (by cases h), rfl, rfl⟩
    · rw [if_neg (show ¬ ((Int32.ofInt 4) ≤ v5) from c1)] at hq
      replace hp := hp.2 c1
      refine g_blk hz0 kX7_spread_12 ?_
      refine ⟨hp.1, ?_⟩
      replace hp := hp.2
      refine ⟨hp.1, ?_⟩
      replace hp := hp.2
      refine ⟨hp.1, ?_⟩
      replace hp := hp.2
      refine ⟨hp.1, ?_⟩
      replace hp := hp.2
      refine cVp [4, 5, 6, 7, 8, 9, 10] (wS s) (s_X4_topAt s (((s.2 10) (Int32.toNatClampNeg v2)) + (wXf (Int32.toNatClampNeg v5))) (((s.2 11) (Int32.toNatClampNeg v2)) + (wYf (Int32.toNatClampNeg v5))) hp.1) rfl cwX4_topAt dX7_spread_56 rfl rfl (hm19_KP_S _ _ _) ?_
      replace hp := hp.2
      refine g_blk hz0 kX7_spread_59 ?_
      refine ⟨fun c2 => ?_, fun c2 => ?_⟩
      · rw [if_pos (show (f_X4_topAt s (((s.2 10) (Int32.toNatClampNeg v2)) + (wXf (Int32.toNatClampNeg v5))) (((s.2 11) (Int32.toNatClampNeg v2)) + (wYf (Int32.toNatClampNeg v5)))) = (Int32.ofInt (-1)) from c2)] at hq
        replace hp := hp.1 c2
        refine g_blk hz0 kX7_spread_124 ?_
        refine g_le (L2 := [some (.ref 0), some (.ref 3), some (.int v2), none, some (.int v4), some (.int (v5 + (Int32.ofInt 1))), none, none, none]) ⟨rfl, rfl, rfl, rfl, rfl, trivial⟩ ?_
        exact ih k v2 v4 (v5 + (Int32.ofInt 1)) hp hq
      · rw [if_neg (show ¬ ((f_X4_topAt s (((s.2 10) (Int32.toNatClampNeg v2)) + (wXf (Int32.toNatClampNeg v5))) (((s.2 11) (Int32.toNatClampNeg v2)) + (wYf (Int32.toNatClampNeg v5)))) = (Int32.ofInt (-1))) from c2)] at hq
        replace hp := hp.2 c2
        refine g_blk hz0 kX7_spread_67 ?_
        refine ⟨hp.1, ?_⟩
        replace hp := hp.2
        refine ⟨fun c3 => ?_, fun c3 => ?_⟩
        · rw [if_neg (show ¬ (((k.2 0) (Int32.toNatClampNeg (f_X4_topAt s (((s.2 10) (Int32.toNatClampNeg v2)) + (wXf (Int32.toNatClampNeg v5))) (((s.2 11) (Int32.toNatClampNeg v2)) + (wYf (Int32.toNatClampNeg v5)))))) = (Int32.ofInt (-1))) from c3)] at hq
          replace hp := hp.2 c3
          refine g_blk hz0 kX7_spread_124 ?_
          refine g_le (L2 := [some (.ref 0), some (.ref 3), some (.int v2), none, some (.int v4), some (.int (v5 + (Int32.ofInt 1))), none, none, none]) ⟨rfl, rfl, rfl, rfl, rfl, trivial⟩ ?_
          exact ih k v2 v4 (v5 + (Int32.ofInt 1)) hp hq
        · rw [if_pos (show ((k.2 0) (Int32.toNatClampNeg (f_X4_topAt s (((s.2 10) (Int32.toNatClampNeg v2)) + (wXf (Int32.toNatClampNeg v5))) (((s.2 11) (Int32.toNatClampNeg v2)) + (wYf (Int32.toNatClampNeg v5)))))) = (Int32.ofInt (-1)) from c3)] at hq
          replace hp := hp.1 c3
          refine g_blk hz0 kX7_spread_78 ?_
          refine ⟨fun c4 => ?_, fun c4 => ?_⟩
          · rw [if_pos (show (Int32.ofInt 36) ≤ v4 from c4)] at hq
            replace hp := hp.1 c4
            refine g_blk hz0 kX7_spread_124 ?_
            refine g_le (L2 := [some (.ref 0), some (.ref 3), some (.int v2), none, some (.int v4), some (.int (v5 + (Int32.ofInt 1))), none, none, none]) ⟨rfl, rfl, rfl, rfl, rfl, trivial⟩ ?_
            exact ih k v2 v4 (v5 + (Int32.ofInt 1)) hp hq
          · rw [if_neg (show ¬ ((Int32.ofInt 36) ≤ v4) from c4)] at hq
            replace hp := hp.2 c4
            refine g_blk hz0 kX7_spread_85 ?_
            refine cVp [3, 4, 5, 6, 7, 8, 9, 10, 11, 12, 13, 14] (wP s p) (s_X3_rulerAt s p (((s.2 10) (Int32.toNatClampNeg v2)) + (wXf (Int32.toNatClampNeg v5))) (((s.2 11) (Int32.toNatClampNeg v2)) + (wYf (Int32.toNatClampNeg v5))) hp.1) rfl cwX3_rulerAt dX7_spread_90 rfl rfl (hm20_KP_P _ _ _) ?_
            replace hp := hp.2
            refine g_blk hz0 kX7_spread_93 ?_
            refine ⟨fun c5 => ?_, fun c5 => ?_⟩
            · rw [if_neg (show ¬ ((f_X3_rulerAt s p (((s.2 10) (Int32.toNatClampNeg v2)) + (wXf (Int32.toNatClampNeg v5))) (((s.2 11) (Int32.toNatClampNeg v2)) + (wYf (Int32.toNatClampNeg v5)))) = (Int32.ofInt (-1))) from c5)] at hq
              replace hp := hp.2 c5
              refine g_blk hz0 kX7_spread_124 ?_
              refine g_le (L2 := [some (.ref 0), some (.ref 3), some (.int v2), none, some (.int v4), some (.int (v5 + (Int32.ofInt 1))), none, none, none]) ⟨rfl, rfl, rfl, rfl, rfl, trivial⟩ ?_
              exact ih k v2 v4 (v5 + (Int32.ofInt 1)) hp hq
            · rw [if_pos (show (f_X3_rulerAt s p (((s.2 10) (Int32.toNatClampNeg v2)) + (wXf (Int32.toNatClampNeg v5))) (((s.2 11) (Int32.toNatClampNeg v2)) + (wYf (Int32.toNatClampNeg v5)))) = (Int32.ofInt (-1)) from c5)] at hq
              replace hp := hp.1 c5
              refine g_blk hz0 kX7_spread_97 ?_
              refine ⟨hp.1, ?_⟩
              replace hp := hp.2
              refine ⟨hp.1, ?_⟩
              replace hp := hp.2
              refine ⟨hp.1, ?_⟩
              replace hp := hp.2
              refine g_blk hz0 kX7_spread_124 ?_
              refine g_le (L2 := [some (.ref 0), some (.ref 3), some (.int v2), none, some (.int (v4 + (Int32.ofInt 1))), some (.int (v5 + (Int32.ofInt 1))), none, none, none]) ⟨rfl, rfl, rfl, rfl, rfl, trivial⟩ ?_
              exact ih (setA (setA k 0 (upd (k.2 0) (Int32.toNatClampNeg (f_X4_topAt s (((s.2 10) (Int32.toNatClampNeg v2)) + (wXf (Int32.toNatClampNeg v5))) (((s.2 11) (Int32.toNatClampNeg v2)) + (wYf (Int32.toNatClampNeg v5))))) (((k.2 0) (Int32.toNatClampNeg v2)) + (Int32.ofInt 1)))) 1 (upd (k.2 1) (Int32.toNatClampNeg v4) (f_X4_topAt s (((s.2 10) (Int32.toNatClampNeg v2)) + (wXf (Int32.toNatClampNeg v5))) (((s.2 11) (Int32.toNatClampNeg v2)) + (wYf (Int32.toNatClampNeg v5)))))) v2 (v4 + (Int32.ofInt 1)) (v5 + (Int32.ofInt 1)) hp hq
def f_X7_spread (k : Rec) (s : Rec) (p : Rec) (c : Int32) (b : Int32) : Int32 × Rec := (f_X7_spread_6 40 k s p c b ((Int32.ofInt 0)))
def p_X7_spread (k : Rec) (s : Rec) (p : Rec) (c : Int32) (b : Int32) : Prop := (p_X7_spread_6 40 k s p c b ((Int32.ofInt 0)))
set_option maxHeartbeats 16000000 in
set_option maxRecDepth 20000 in
theorem s_X7_spread (k : Rec) (s : Rec) (p : Rec) (c : Int32) (b : Int32) (hp : p_X7_spread k s p c b) : Spec 2 0 0 mX7_spread [.ref 0, .ref 3, .int c, .int b] (wKP k s p) (Ret (some (.int ((f_X7_spread k s p c b).1))) (wKP ((f_X7_spread k s p c b).2) s p)) := by
  obtain ⟨zq, hq⟩ : ∃ z, z = (f_X7_spread k s p c b) := ⟨_, rfl⟩
  rw [← hq]
  unfold f_X7_spread at hq
  unfold p_X7_spread at hp
  refine Sof fun sc => ?_
  refine g_blk hz0 kX7_spread_0 ?_
  refine g_le (L2 := [some (.ref 0), some (.ref 3), some (.int c), none, some (.int b), some (.int (Int32.ofInt 0)), none, none, none]) ⟨rfl, rfl, rfl, rfl, rfl, trivial⟩ ?_
  exact l_X7_spread_6 sc s p zq 40 k c b ((Int32.ofInt 0)) hp hq

set_option maxHeartbeats 16000000 in
theorem hm21_KP_KP (k : Rec) (s : Rec) (p : Rec) : [0, 1, 2, 3, 4, 5, 6, 7, 8, 9, 10, 11, 12, 13, 14].map (lk (wKP k s p)) = (wKP k s p).map (fun e => some (ren [0, 1, 2, 3, 4, 5, 6, 7, 8, 9, 10, 11, 12, 13, 14] e)) := rfl
set_option maxHeartbeats 16000000 in
theorem pw34_KP_KP (k : Rec) (s : Rec) (p : Rec) (k9 : Rec) : putW (wKP k s p) [0, 1, 2, 3, 4, 5, 6, 7, 8, 9, 10, 11, 12, 13, 14] ((wKP k9 s p).map (ren [0, 1, 2, 3, 4, 5, 6, 7, 8, 9, 10, 11, 12, 13, 14])) = (wKP k9 s p) := rfl
def f_X7_howFar_65  : Nat → Rec → Rec → Rec → Int32 → Int32 → Int32 → Int32 × Rec
  | 0, k, s, p, v4, v6, v7 => (0, k)
  | n + 1, k, s, p, v4, v6, v7 => if v6 ≤ v7 then (v6, k) else (if (Int32.ofInt 36) ≤ v7 then (v6, k) else (if v4 ≤ ((k.2 0) (Int32.toNatClampNeg ((k.2 1) (Int32.toNatClampNeg v7)))) then (f_X7_howFar_65 n k s p v4 v6 (v7 + (Int32.ofInt 1))) else (f_X7_howFar_65 n ((f_X7_spread k s p ((k.2 1) (Int32.toNatClampNeg v7)) v6).2) s p v4 ((f_X7_spread k s p ((k.2 1) (Int32.toNatClampNeg v7)) v6).1) (v7 + (Int32.ofInt 1)))))
def p_X7_howFar_65  : Nat → Rec → Rec → Rec → Int32 → Int32 → Int32 → Prop
  | 0, _, _, _, _, _, _ => False
  | n + 1, k, s, p, v4, v6, v7 => (v6 ≤ v7 → True) ∧ (¬ (v6 ≤ v7) → (((Int32.ofInt 36) ≤ v7 → True) ∧ (¬ ((Int32.ofInt 36) ≤ v7) → (vp_in v7 36 ∧ (vp_in ((k.2 1) (Int32.toNatClampNeg v7)) 36 ∧ ((v4 ≤ ((k.2 0) (Int32.toNatClampNeg ((k.2 1) (Int32.toNatClampNeg v7)))) → (p_X7_howFar_65 n k s p v4 v6 (v7 + (Int32.ofInt 1)))) ∧ (¬ (v4 ≤ ((k.2 0) (Int32.toNatClampNeg ((k.2 1) (Int32.toNatClampNeg v7))))) → (vp_in v7 36 ∧ ((p_X7_spread k s p ((k.2 1) (Int32.toNatClampNeg v7)) v6) ∧ (p_X7_howFar_65 n ((f_X7_spread k s p ((k.2 1) (Int32.toNatClampNeg v7)) v6).2) s p v4 ((f_X7_spread k s p ((k.2 1) (Int32.toNatClampNeg v7)) v6).1) (v7 + (Int32.ofInt 1))))))))))))
set_option maxHeartbeats 16000000 in
set_option maxRecDepth 20000 in
theorem l_X7_howFar_65 (sc : SC) (s : Rec) (p : Rec)  (zq : Int32 × Rec)  : ∀ (n : Nat) (k : Rec) (v4 : Int32) (v6 : Int32) (v7 : Int32), p_X7_howFar_65 n k s p v4 v6 v7 → zq = f_X7_howFar_65 n k s p v4 v6 v7 → Good sc 3 0 0 15 mX7_howFar (Ret (some (.int (zq.1))) (wKP (zq.2) s p)) 0 0 65 [some (.ref 0), some (.ref 3), none, none, some (.int v4), none, some (.int v6), some (.int v7)] [] (wKP k s p) := by
  intro n
  induction n with
  | zero => intro k v4 v6 v7 hp; exact hp.elim
  | succ n ih =>
    intro k v4 v6 v7 hp hq
    unfold p_X7_howFar_65 at hp
    unfold f_X7_howFar_65 at hq
    refine g_blk hz0 kX7_howFar_65 ?_
    refine ⟨fun c3 => ?_, fun c3 => ?_⟩
    · rw [if_pos (show v6 ≤ v7 from c3)] at hq
      refine g_blk hz0 kX7_howFar_118 ?_
      subst hq
      exact ⟨fun h => (by cases h), rfl, rfl⟩
    · rw [if_neg (show ¬ (v6 ≤ v7) from c3)] at hq
      replace hp := hp.2 c3
      refine g_blk hz0 kX7_howFar_72 ?_
      refine ⟨fun c4 => ?_, fun c4 => ?_⟩
      · rw [if_pos (show (Int32.ofInt 36) ≤ v7 from c4)] at hq
        refine g_blk hz0 kX7_howFar_118 ?_
        subst hq
        exact ⟨fun h => (by cases h), rfl, rfl⟩
      · rw [if_neg (show ¬ ((Int32.ofInt 36) ≤ v7) from c4)] at hq
        replace hp := hp.2 c4
        refine g_blk hz0 kX7_howFar_79 ?_
        refine ⟨hp.1, ?_⟩
        replace hp := hp.2
        refine ⟨hp.1, ?_⟩
        replace hp := hp.2
        refine ⟨fun c5 => ?_, fun c5 => ?_⟩
        · rw [if_pos (show v4 ≤ ((k.2 0) (Int32.toNatClampNeg ((k.2 1) (Int32.toNatClampNeg v7)))) from c5)] at hq
          replace hp := hp.1 c5
          refine g_blk hz0 kX7_howFar_112 ?_
          refine g_le (L2 := [some (.ref 0), some (.ref 3), none, none, some (.int v4), none, some (.int v6), some (.int (v7 + (Int32.ofInt 1)))]) ⟨rfl, rfl, rfl, rfl, rfl, trivial⟩ ?_
          exact ih k v4 v6 (v7 + (Int32.ofInt 1)) hp hq
        · rw [if_neg (show ¬ (v4 ≤ ((k.2 0) (Int32.toNatClampNeg ((k.2 1) (Int32.toNatClampNeg v7))))) from c5)] at hq
          replace hp := hp.2 c5
          refine g_blk hz0 kX7_howFar_96 ?_
          refine ⟨hp.1, ?_⟩
          replace hp := hp.2
          refine cV [0, 1, 2, 3, 4, 5, 6, 7, 8, 9, 10, 11, 12, 13, 14] (wKP k s p) (s_X7_spread k s p ((k.2 1) (Int32.toNatClampNeg v7)) v6 hp.1) rfl cwX7_spread dX7_howFar_107 rfl rfl (hm21_KP_KP _ _ _) ((len_KP _ _ _).trans (len_KP _ _ _).symm) (wKP ((f_X7_spread k s p ((k.2 1) (Int32.toNatClampNeg v7)) v6).2) s p) (pw34_KP_KP _ _ _ _) ?_
          replace hp := hp.2
          obtain ⟨g6, hg6⟩ : ∃ z, z = (f_X7_spread k s p ((k.2 1) (Int32.toNatClampNeg v7)) v6) := ⟨_, rfl⟩
          try rw [← hg6] at hp
          try rw [← hg6] at hq
          rw [← hg6]
          refine g_blk hz0 kX7_howFar_110 ?_
          refine g_blk hz0 kX7_howFar_112 ?_
          refine g_le (L2 := [some (.ref 0), some (.ref 3), none, none, some (.int v4), none, some (.int (g6.1)), some (.int (v7 + (Int32.ofInt 1)))]) ⟨rfl, rfl, rfl, rfl, rfl, trivial⟩ ?_
          exact ih (g6.2) v4 (g6.1) (v7 + (Int32.ofInt 1)) hp hq
def f_X7_howFar_3  : Nat → Rec → Rec → Rec → Int32 → Int32 → Int32 → Int32 → Int32 × Rec
  | 0, k, s, p, v2, v3, v4, v5 => (0, k)
  | n + 1, k, s, p, v2, v3, v4, v5 => if (Int32.ofInt 36) ≤ v5 then (if (f_X4_topAt s v2 v3) = (Int32.ofInt (-1)) then ((Int32.ofInt 0), k) else (f_X7_howFar_65 40 (setA (setA k 0 (upd (k.2 0) (Int32.toNatClampNeg (f_X4_topAt s v2 v3)) (Int32.ofInt 0))) 1 (upd (k.2 1) (Int32.toNatClampNeg (Int32.ofInt 0)) (f_X4_topAt s v2 v3))) s p v4 ((Int32.ofInt 1)) ((Int32.ofInt 0)))) else (f_X7_howFar_3 n (setA k 0 (upd (k.2 0) (Int32.toNatClampNeg v5) (Int32.ofInt (-1)))) s p v2 v3 v4 (v5 + (Int32.ofInt 1)))
def p_X7_howFar_3  : Nat → Rec → Rec → Rec → Int32 → Int32 → Int32 → Int32 → Prop
  | 0, _, _, _, _, _, _, _ => False
  | n + 1, k, s, p, v2, v3, v4, v5 => ((Int32.ofInt 36) ≤ v5 → ((p_X4_topAt s v2 v3) ∧ (((f_X4_topAt s v2 v3) = (Int32.ofInt (-1)) → True) ∧ (¬ ((f_X4_topAt s v2 v3) = (Int32.ofInt (-1))) → (vp_in (f_X4_topAt s v2 v3) 36 ∧ (p_X7_howFar_65 40 (setA (setA k 0 (upd (k.2 0) (Int32.toNatClampNeg (f_X4_topAt s v2 v3)) (Int32.ofInt 0))) 1 (upd (k.2 1) (Int32.toNatClampNeg (Int32.ofInt 0)) (f_X4_topAt s v2 v3))) s p v4 ((Int32.ofInt 1)) ((Int32.ofInt 0)))))))) ∧ (¬ ((Int32.ofInt 36) ≤ v5) → (vp_in v5 36 ∧ (p_X7_howFar_3 n (setA k 0 (upd (k.2 0) (Int32.toNatClampNeg v5) (Int32.ofInt (-1)))) s p v2 v3 v4 (v5 + (Int32.ofInt 1)))))
set_option maxHeartbeats 16000000 in
set_option maxRecDepth 20000 in
theorem l_X7_howFar_3 (sc : SC) (s : Rec) (p : Rec)  (zq : Int32 × Rec)  : ∀ (n : Nat) (k : Rec) (v2 : Int32) (v3 : Int32) (v4 : Int32) (v5 : Int32), p_X7_howFar_3 n k s p v2 v3 v4 v5 → zq = f_X7_howFar_3 n k s p v2 v3 v4 v5 → Good sc 3 0 0 15 mX7_howFar (Ret (some (.int (zq.1))) (wKP (zq.2) s p)) 0 0 3 [some (.ref 0), some (.ref 3), some (.int v2), some (.int v3), some (.int v4), some (.int v5), none, none] [] (wKP k s p) := by
  intro n
  induction n with
  | zero => intro k v2 v3 v4 v5 hp; exact hp.elim
  | succ n ih =>
    intro k v2 v3 v4 v5 hp hq
    unfold p_X7_howFar_3 at hp
    unfold f_X7_howFar_3 at hq
    refine g_blk hz0 kX7_howFar_3 ?_
    refine ⟨fun c1 => ?_, fun c1 => ?_⟩
    · rw [if_pos (show (Int32.ofInt 36) ≤ v5 from c1)] at hq
      replace hp := hp.1 c1
      refine g_blk hz0 kX7_howFar_24 ?_
      refine cVp [4, 5, 6, 7, 8, 9, 10] (wS s) (s_X4_topAt s v2 v3 hp.1) rfl cwX4_topAt dX7_howFar_30 rfl rfl (hm19_KP_S _ _ _) ?_
      replace hp := hp.2
      refine g_blk hz0 kX7_howFar_33 ?_
      refine ⟨fun c2 => ?_, fun c2 => ?_⟩
      · rw [if_neg (show ¬ ((f_X4_topAt s v2 v3) = (Int32.ofInt (-1))) from c2)] at hq
        replace hp := hp.2 c2
        refine g_blk hz0 kX7_howFar_43 ?_
        refine ⟨hp.1, ?_⟩
        replace hp := hp.2
        refine ⟨vinL (by decide), ?_⟩
        refine g_le (L2 := [some (.ref 0), some (.ref 3), none, none, some (.int v4), none, some (.int (Int32.ofInt 1)), some (.int (Int32.ofInt 0))]) ⟨rfl, rfl, rfl, rfl, rfl, trivial⟩ ?_
        exact l_X7_howFar_65 sc s p zq 40 (setA (setA k 0 (upd (k.2 0) (Int32.toNatClampNeg (f_X4_topAt s v2 v3)) (Int32.ofInt 0))) 1 (upd (k.2 1) (Int32.toNatClampNeg (Int32.ofInt 0)) (f_X4_topAt s v2 v3))) v4 ((Int32.ofInt 1)) ((Int32.ofInt 0)) hp hq
      · rw [if_pos (show (f_X4_topAt s v2 v3) = (Int32.ofInt (-1)) from c2)] at hq
        refine g_blk hz0 kX7_howFar_41 ?_
        subst hq
        exact ⟨fun h => (by cases h), rfl, rfl⟩
    · rw [if_neg (show ¬ ((Int32.ofInt 36) ≤ v5) from c1)] at hq
      replace hp := hp.2 c1
      refine g_blk hz0 kX7_howFar_10 ?_
      refine ⟨hp.1, ?_⟩
      replace hp := hp.2
      refine g_le (L2 := [some (.ref 0), some (.ref 3), some (.int v2), some (.int v3), some (.int v4), some (.int (v5 + (Int32.ofInt 1))), none, none]) ⟨rfl, rfl, rfl, rfl, rfl, rfl, trivial⟩ ?_
      exact ih (setA k 0 (upd (k.2 0) (Int32.toNatClampNeg v5) (Int32.ofInt (-1)))) v2 v3 v4 (v5 + (Int32.ofInt 1)) hp hq
def f_X7_howFar (k : Rec) (s : Rec) (p : Rec) (x : Int32) (y : Int32) (n : Int32) : Int32 × Rec := (f_X7_howFar_3 40 k s p x y n ((Int32.ofInt 0)))
def p_X7_howFar (k : Rec) (s : Rec) (p : Rec) (x : Int32) (y : Int32) (n : Int32) : Prop := (p_X7_howFar_3 40 k s p x y n ((Int32.ofInt 0)))
set_option maxHeartbeats 16000000 in
set_option maxRecDepth 20000 in
theorem s_X7_howFar (k : Rec) (s : Rec) (p : Rec) (x : Int32) (y : Int32) (n : Int32) (hp : p_X7_howFar k s p x y n) : Spec 3 0 0 mX7_howFar [.ref 0, .ref 3, .int x, .int y, .int n] (wKP k s p) (Ret (some (.int ((f_X7_howFar k s p x y n).1))) (wKP ((f_X7_howFar k s p x y n).2) s p)) := by
  obtain ⟨zq, hq⟩ : ∃ z, z = (f_X7_howFar k s p x y n) := ⟨_, rfl⟩
  rw [← hq]
  unfold f_X7_howFar at hq
  unfold p_X7_howFar at hp
  refine Sof fun sc => ?_
  refine g_blk hz0 kX7_howFar_0 ?_
  refine g_le (L2 := [some (.ref 0), some (.ref 3), some (.int x), some (.int y), some (.int n), some (.int (Int32.ofInt 0)), none, none]) ⟨rfl, rfl, rfl, rfl, rfl, rfl, trivial⟩ ?_
  exact l_X7_howFar_3 sc s p zq 40 k x y n ((Int32.ofInt 0)) hp hq

def f_X6_rewind (e : Rec)  : Rec := (setG e 4 ((Int32.ofInt 0)))
set_option maxHeartbeats 16000000 in
set_option maxRecDepth 20000 in
theorem s_X6_rewind (e : Rec)  : Spec 0 0 0 mX6_rewind [.ref 0] (wE e) (Ret none (wE ((f_X6_rewind e)))) := by
  obtain ⟨zq, hq⟩ : ∃ z, z = (f_X6_rewind e) := ⟨_, rfl⟩
  rw [← hq]
  unfold f_X6_rewind at hq
  refine Sof fun sc => ?_
  refine g_blk hz0 kX6_rewind_0 ?_
  refine ⟨fun h => (by cases h), Or.inl rfl, ?_⟩
  subst hq
  exact ⟨rfl, rfl⟩

def f_X6_add (e : Rec) (b : Int32) : Rec := if (Int32.ofInt 200) ≤ (e.1 2) then e else (setA (setG e 2 ((e.1 2) + (Int32.ofInt 1))) 0 (upd (e.2 0) (Int32.toNatClampNeg (e.1 2)) b))
def p_X6_add (e : Rec) (b : Int32) : Prop := ((Int32.ofInt 200) ≤ (e.1 2) → True) ∧ (¬ ((Int32.ofInt 200) ≤ (e.1 2)) → (vp_in (e.1 2) 200 ∧ True))
set_option maxHeartbeats 16000000 in
set_option maxRecDepth 20000 in
theorem s_X6_add (e : Rec) (b : Int32) (hp : p_X6_add e b) : Spec 0 0 0 mX6_add [.ref 0, .int b] (wE e) (Ret none (wE ((f_X6_add e b)))) := by
  obtain ⟨zq, hq⟩ : ∃ z, z = (f_X6_add e b) := ⟨_, rfl⟩
  rw [← hq]
  unfold f_X6_add at hq
  unfold p_X6_add at hp
  refine Sof fun sc => ?_
  refine g_blk hz0 kX6_add_0 ?_
  refine ⟨fun c1 => ?_, fun c1 => ?_⟩
  · rw [if_pos (show (Int32.ofInt 200) ≤ (e.1 2) from c1)] at hq
    refine g_blk hz0 kX6_add_30 ?_
    subst hq
    exact ⟨rfl, rfl⟩
  · rw [if_neg (show ¬ ((Int32.ofInt 200) ≤ (e.1 2)) from c1)] at hq
    replace hp := hp.2 c1
    refine g_blk hz0 kX6_add_10 ?_
    refine ⟨hp.1, ?_⟩
    replace hp := hp.2
    refine ⟨fun h => (by cases h), Or.inl rfl, ?_⟩
    refine g_blk hz0 kX6_add_30 ?_
    subst hq
    exact ⟨rfl, rfl⟩

def f_X6_byteAt (e : Rec) (i : Int32) : Int32 := if (f_X8_within i ((Int32.ofInt 0)) ((e.1 2) - (Int32.ofInt 1))) = 0 then (Int32.ofInt (-1)) else ((e.2 0) (Int32.toNatClampNeg i))
def p_X6_byteAt (e : Rec) (i : Int32) : Prop := ((f_X8_within i ((Int32.ofInt 0)) ((e.1 2) - (Int32.ofInt 1))) = 0 → True) ∧ (¬ ((f_X8_within i ((Int32.ofInt 0)) ((e.1 2) - (Int32.ofInt 1))) = 0) → (vp_in i 200 ∧ True))
set_option maxHeartbeats 16000000 in
set_option maxRecDepth 20000 in
theorem s_X6_byteAt (e : Rec) (i : Int32) (hp : p_X6_byteAt e i) : Spec 1 0 0 mX6_byteAt [.ref 0, .int i] (wE e) (Ret (some (.int ((f_X6_byteAt e i)))) (wE e)) := by
  obtain ⟨zq, hq⟩ : ∃ z, z = (f_X6_byteAt e i) := ⟨_, rfl⟩
  rw [← hq]
  unfold f_X6_byteAt at hq
  unfold p_X6_byteAt at hp
  refine Sof fun sc => ?_
  refine g_blk hz0 kX6_byteAt_0 ?_
  refine cS0 (s_X8_within i ((Int32.ofInt 0)) ((e.1 2) - (Int32.ofInt 1))) rfl cwX8_within dX6_byteAt_8 rfl ?_
  refine g_blk hz0 kX6_byteAt_11 ?_
  refine ⟨fun c1 => ?_, fun c1 => ?_⟩
  · rw [if_pos (show (f_X8_within i ((Int32.ofInt 0)) ((e.1 2) - (Int32.ofInt 1))) = 0 from c1)] at hq
    refine g_blk hz0 kX6_byteAt_23 ?_
    refine g_blk hz0 kX6_byteAt_24 ?_
    subst hq
    exact ⟨fun h => (by cases h), rfl, rfl⟩
  · rw [if_neg (show ¬ ((f_X8_within i ((Int32.ofInt 0)) ((e.1 2) - (Int32.ofInt 1))) = 0) from c1)] at hq
    replace hp := hp.2 c1
    refine g_blk hz0 kX6_byteAt_14 ?_
    refine ⟨hp.1, ?_⟩
    replace hp := hp.2
    refine g_blk hz0 kX6_byteAt_24 ?_
    subst hq
    exact ⟨fun h => (by cases h), rfl, rfl⟩

def f_X6_isLetter  (b : Int32) : Int32 := (f_X8_within b ((Int32.ofInt 97)) ((Int32.ofInt 122)))
theorem z_X6_isLetter  (b : Int32) : (f_X6_isLetter b) = 0 ∨ (f_X6_isLetter b) = 1 := z_X8_within b ((Int32.ofInt 97)) ((Int32.ofInt 122))
set_option maxHeartbeats 16000000 in
set_option maxRecDepth 20000 in
theorem s_X6_isLetter  (b : Int32) : Spec 1 0 0 mX6_isLetter [.int b] [] (Ret (some (.int ((f_X6_isLetter b)))) []) := by
  obtain ⟨zq, hq⟩ : ∃ z, z = (f_X6_isLetter b) := ⟨_, rfl⟩
  rw [← hq]
  unfold f_X6_isLetter at hq
  refine Sof fun sc => ?_
  refine g_blk hz0 kX6_isLetter_0 ?_
  refine cS0 (s_X8_within b ((Int32.ofInt 97)) ((Int32.ofInt 122))) rfl cwX8_within dX6_isLetter_5 rfl ?_
  refine g_blk hz0 kX6_isLetter_8 ?_
  subst hq
  exact ⟨fun _ => (z_X8_within b ((Int32.ofInt 97)) ((Int32.ofInt 122))), rfl, rfl⟩

def f_X6_isFigure  (b : Int32) : Int32 := (f_X8_within b ((Int32.ofInt 48)) ((Int32.ofInt 57)))
theorem z_X6_isFigure  (b : Int32) : (f_X6_isFigure b) = 0 ∨ (f_X6_isFigure b) = 1 := z_X8_within b ((Int32.ofInt 48)) ((Int32.ofInt 57))
set_option maxHeartbeats 16000000 in
set_option maxRecDepth 20000 in
theorem s_X6_isFigure  (b : Int32) : Spec 1 0 0 mX6_isFigure [.int b] [] (Ret (some (.int ((f_X6_isFigure b)))) []) := by
  obtain ⟨zq, hq⟩ : ∃ z, z = (f_X6_isFigure b) := ⟨_, rfl⟩
  rw [← hq]
  unfold f_X6_isFigure at hq
  refine Sof fun sc => ?_
  refine g_blk hz0 kX6_isFigure_0 ?_
  refine cS0 (s_X8_within b ((Int32.ofInt 48)) ((Int32.ofInt 57))) rfl cwX8_within dX6_isFigure_5 rfl ?_
  refine g_blk hz0 kX6_isFigure_8 ?_
  subst hq
  exact ⟨fun _ => (z_X8_within b ((Int32.ofInt 48)) ((Int32.ofInt 57))), rfl, rfl⟩

set_option maxHeartbeats 16000000 in
theorem hm22_E_E (e : Rec) : [0, 1, 2].map (lk (wE e)) = (wE e).map (fun e => some (ren [0, 1, 2] e)) := rfl
set_option maxHeartbeats 16000000 in
theorem pw35_E_E (e : Rec)  : putW (wE e) [0, 1, 2] ((wE e).map (ren [0, 1, 2])) = (wE e) := rfl
def f_X6_readNumber_37  : Nat → Rec → Int32 → Int32 → Int32 → Int32 × Rec
  | 0, e, v1, v2, v3 => (0, e)
  | n + 1, e, v1, v2, v3 => if (e.1 2) ≤ (e.1 4) then (if v1 = 0 then (if (f_X8_within v2 ((Int32.ofInt 1)) ((Int32.ofInt 2))) = 0 then ((Int32.ofInt 2), (setG e 6 v3)) else ((Int32.ofInt 5), (setG e 6 v3))) else (if (f_X8_within v2 ((Int32.ofInt 1)) ((Int32.ofInt 2))) = 0 then ((Int32.ofInt 2), (setG e 6 (-v3))) else ((Int32.ofInt 5), (setG e 6 (-v3))))) else (if (f_X6_isFigure (f_X6_byteAt e (e.1 4))) = 0 then (if v1 = 0 then (if (f_X8_within v2 ((Int32.ofInt 1)) ((Int32.ofInt 2))) = 0 then ((Int32.ofInt 2), (setG e 6 v3)) else ((Int32.ofInt 5), (setG e 6 v3))) else (if (f_X8_within v2 ((Int32.ofInt 1)) ((Int32.ofInt 2))) = 0 then ((Int32.ofInt 2), (setG e 6 (-v3))) else ((Int32.ofInt 5), (setG e 6 (-v3))))) else (if (Int32.ofInt 2) ≤ v2 then (f_X6_readNumber_37 n (setG e 4 ((e.1 4) + (Int32.ofInt 1))) v1 (v2 + (Int32.ofInt 1)) ((Int32.ofInt 0))) else (f_X6_readNumber_37 n (setG e 4 ((e.1 4) + (Int32.ofInt 1))) v1 (v2 + (Int32.ofInt 1)) ((((Int32.ofInt 10) * v3) + (f_X6_byteAt e (e.1 4))) - (Int32.ofInt 48)))))
def p_X6_readNumber_37  : Nat → Rec → Int32 → Int32 → Int32 → Prop
  | 0, _, _, _, _ => False
  | n + 1, e, v1, v2, v3 => ((e.1 2) ≤ (e.1 4) → True) ∧ (¬ ((e.1 2) ≤ (e.1 4)) → ((p_X6_byteAt e (e.1 4)) ∧ (((f_X6_isFigure (f_X6_byteAt e (e.1 4))) = 0 → True) ∧ (¬ ((f_X6_isFigure (f_X6_byteAt e (e.1 4))) = 0) → (((Int32.ofInt 2) ≤ v2 → (p_X6_readNumber_37 n (setG e 4 ((e.1 4) + (Int32.ofInt 1))) v1 (v2 + (Int32.ofInt 1)) ((Int32.ofInt 0)))) ∧ (¬ ((Int32.ofInt 2) ≤ v2) → ((p_X6_byteAt e (e.1 4)) ∧ (p_X6_readNumber_37 n (setG e 4 ((e.1 4) + (Int32.ofInt 1))) v1 (v2 + (Int32.ofInt 1)) ((((Int32.ofInt 10) * v3) + (f_X6_byteAt e (e.1 4))) - (Int32.ofInt 48))))))))))
set_option maxHeartbeats 16000000 in
set_option maxRecDepth 20000 in
theorem l_X6_readNumber_37 (sc : SC)   (zq : Int32 × Rec)  : ∀ (n : Nat) (e : Rec) (v1 : Int32) (v2 : Int32) (v3 : Int32), p_X6_readNumber_37 n e v1 v2 v3 → zq = f_X6_readNumber_37 n e v1 v2 v3 → Good sc 2 0 0 3 mX6_readNumber (Ret (some (.int (zq.1))) (wE (zq.2))) 0 0 37 [some (.ref 0), some (.int v1), some (.int v2), some (.int v3)] [] (wE e) := by
  intro n
  induction n with
  | zero => intro e v1 v2 v3 hp; exact hp.elim
  | succ n ih =>
    intro e v1 v2 v3 hp hq
    unfold p_X6_readNumber_37 at hp
    unfold f_X6_readNumber_37 at hq
    refine g_blk hz0 kX6_readNumber_37 ?_
    refine ⟨fun c2 => ?_, fun c2 => ?_⟩
    · rw [if_pos (show (e.1 2) ≤ (e.1 4) from c2)] at hq
      refine g_blk hz0 kX6_readNumber_104 ?_
      refine ⟨fun c3 => ?_, fun c3 => ?_⟩
      · rw [if_pos (show v1 = 0 from c3)] at hq
        refine g_blk hz0 kX6_readNumber_114 ?_
        refine g_blk hz0 kX6_readNumber_115 ?_
        refine ⟨fun h => (by cases h), Or.inl rfl, ?_⟩
        refine cS0 (s_X8_within v2 ((Int32.ofInt 1)) ((Int32.ofInt 2))) rfl cwX8_within dX6_readNumber_121 rfl ?_
        refine g_blk hz0 kX6_readNumber_124 ?_
        refine ⟨fun c4 => ?_, fun c4 => ?_⟩
        · rw [if_pos (show (f_X8_within v2 ((Int32.ofInt 1)) ((Int32.ofInt 2))) = 0 from c4)] at hq
          refine g_blk hz0 kX6_readNumber_131 ?_
          refine g_blk hz0 kX6_readNumber_132 ?_
          subst hq
          exact ⟨fun h => (by cases h), rfl, rfl⟩
        · rw [if_neg (show ¬ ((f_X8_within v2 ((Int32.ofInt 1)) ((Int32.ofInt 2))) = 0) from c4)] at hq
          refine g_blk hz0 kX6_readNumber_127 ?_
          refine g_blk hz0 kX6_readNumber_132 ?_
          subst hq
          exact ⟨fun h => (by cases h), rfl, rfl⟩
      · rw [if_neg (show ¬ (v1 = 0) from c3)] at hq
        refine g_blk hz0 kX6_readNumber_109 ?_
        refine g_blk hz0 kX6_readNumber_115 ?_
        refine ⟨fun h => (by cases h), Or.inl rfl, ?_⟩
        refine cS0 (s_X8_within v2 ((Int32.ofInt 1)) ((Int32.ofInt 2))) rfl cwX8_within dX6_readNumber_121 rfl ?_
        refine g_blk hz0 kX6_readNumber_124 ?_
        refine ⟨fun c5 => ?_, fun c5 => ?_⟩
        · rw [if_pos (show (f_X8_within v2 ((Int32.ofInt 1)) ((Int32.ofInt 2))) = 0 from c5)] at hq
          refine g_blk hz0 kX6_readNumber_131 ?_
          refine g_blk hz0 kX6_readNumber_132 ?_
          subst hq
          exact ⟨fun h => (by cases h), rfl, rfl⟩
        · rw [if_neg (show ¬ ((f_X8_within v2 ((Int32.ofInt 1)) ((Int32.ofInt 2))) = 0) from c5)] at hq
          refine g_blk hz0 kX6_readNumber_127 ?_
          refine g_blk hz0 kX6_readNumber_132 ?_
          subst hq
          exact ⟨fun h => (by cases h), rfl, rfl⟩
    · rw [if_neg (show ¬ ((e.1 2) ≤ (e.1 4)) from c2)] at hq
      replace hp := hp.2 c2
      refine g_blk hz0 kX6_readNumber_48 ?_
      refine cVp [0, 1, 2] (wE e) (s_X6_byteAt e (e.1 4) hp.1) rfl cwX6_byteAt dX6_readNumber_53 rfl rfl (hm22_E_E _) ?_
      replace hp := hp.2
      refine cS0 (s_X6_isFigure (f_X6_byteAt e (e.1 4))) rfl cwX6_isFigure dX6_readNumber_56 rfl ?_
      refine g_blk hz0 kX6_readNumber_59 ?_
      refine ⟨fun c6 => ?_, fun c6 => ?_⟩
      · rw [if_pos (show (f_X6_isFigure (f_X6_byteAt e (e.1 4))) = 0 from c6)] at hq
        refine g_blk hz0 kX6_readNumber_104 ?_
        refine ⟨fun c7 => ?_, fun c7 => ?_⟩
        · rw [if_pos (show v1 = 0 from c7)] at hq
          refine g_blk hz0 kX6_readNumber_114 ?_
          refine g_blk hz0 kX6_readNumber_115 ?_
          refine ⟨fun h => (by cases h), Or.inl rfl, ?_⟩
          refine cS0 (s_X8_within v2 ((Int32.ofInt 1)) ((Int32.ofInt 2))) rfl cwX8_within dX6_readNumber_121 rfl ?_
          refine g_blk hz0 kX6_readNumber_124 ?_
          refine ⟨fun c8 => ?_, fun c8 => ?_⟩
          · rw [if_pos (show (f_X8_within v2 ((Int32.ofInt 1)) ((Int32.ofInt 2))) = 0 from c8)] at hq
            refine g_blk hz0 kX6_readNumber_131 ?_
            refine g_blk hz0 kX6_readNumber_132 ?_
            subst hq
            exact ⟨fun h => (by cases h), rfl, rfl⟩
          · rw [if_neg (show ¬ ((f_X8_within v2 ((Int32.ofInt 1)) ((Int32.ofInt 2))) = 0) from c8)] at hq
            refine g_blk hz0 kX6_readNumber_127 ?_
            refine g_blk hz0 kX6_readNumber_132 ?_
            subst hq
            exact ⟨fun h => (by cases h), rfl, rfl⟩
        · rw [if_neg (show ¬ (v1 = 0) from c7)] at hq
          refine g_blk hz0 kX6_readNumber_109 ?_
          refine g_blk hz0 kX6_readNumber_115 ?_
          refine ⟨fun h => (by cases h), Or.inl rfl, ?_⟩
          refine cS0 (s_X8_within v2 ((Int32.ofInt 1)) ((Int32.ofInt 2))) rfl cwX8_within dX6_readNumber_121 rfl ?_
          refine g_blk hz0 kX6_readNumber_124 ?_
          refine ⟨fun c9 => ?_, fun c9 => ?_⟩
          · rw [if_pos (show (f_X8_within v2 ((Int32.ofInt 1)) ((Int32.ofInt 2))) = 0 from c9)] at hq
            refine g_blk hz0 kX6_readNumber_131 ?_
            refine g_blk hz0 kX6_readNumber_132 ?_
            subst hq
            exact ⟨fun h => (by cases h), rfl, rfl⟩
          · rw [if_neg (show ¬ ((f_X8_within v2 ((Int32.ofInt 1)) ((Int32.ofInt 2))) = 0) from c9)] at hq
            refine g_blk hz0 kX6_readNumber_127 ?_
            refine g_blk hz0 kX6_readNumber_132 ?_
            subst hq
            exact ⟨fun h => (by cases h), rfl, rfl⟩
      · rw [if_neg (show ¬ ((f_X6_isFigure (f_X6_byteAt e (e.1 4))) = 0) from c6)] at hq
        replace hp := hp.2 c6
        refine g_blk hz0 kX6_readNumber_62 ?_
        refine ⟨fun c10 => ?_, fun c10 => ?_⟩
        · rw [if_pos (show (Int32.ofInt 2) ≤ v2 from c10)] at hq
          replace hp := hp.1 c10
          refine g_blk hz0 kX6_readNumber_86 ?_
          refine g_blk hz0 kX6_readNumber_87 ?_
          refine ⟨fun h => (by cases h), Or.inl rfl, ?_⟩
          refine g_le (L2 := [some (.ref 0), some (.int v1), some (.int (v2 + (Int32.ofInt 1))), some (.int (Int32.ofInt 0))]) ⟨rfl, rfl, rfl, rfl, trivial⟩ ?_
          exact ih (setG e 4 ((e.1 4) + (Int32.ofInt 1))) v1 (v2 + (Int32.ofInt 1)) ((Int32.ofInt 0)) hp hq
        · rw [if_neg (show ¬ ((Int32.ofInt 2) ≤ v2) from c10)] at hq
          replace hp := hp.2 c10
          refine g_blk hz0 kX6_readNumber_67 ?_
          refine cVp [0, 1, 2] (wE e) (s_X6_byteAt e (e.1 4) hp.1) rfl cwX6_byteAt dX6_readNumber_76 rfl rfl (hm22_E_E _) ?_
          replace hp := hp.2
          refine g_blk hz0 kX6_readNumber_79 ?_
          refine g_blk hz0 kX6_readNumber_87 ?_
          refine ⟨fun h => (by cases h), Or.inl rfl, ?_⟩
          refine g_le (L2 := [some (.ref 0), some (.int v1), some (.int (v2 + (Int32.ofInt 1))), some (.int ((((Int32.ofInt 10) * v3) + (f_X6_byteAt e (e.1 4))) - (Int32.ofInt 48)))]) ⟨rfl, rfl, rfl, rfl, trivial⟩ ?_
          exact ih (setG e 4 ((e.1 4) + (Int32.ofInt 1))) v1 (v2 + (Int32.ofInt 1)) ((((Int32.ofInt 10) * v3) + (f_X6_byteAt e (e.1 4))) - (Int32.ofInt 48)) hp hq
def f_X6_readNumber (e : Rec)  : Int32 × Rec := if (f_X6_byteAt e (e.1 4)) = (Int32.ofInt 45) then (f_X6_readNumber_37 300 (setG e 4 ((e.1 4) + (Int32.ofInt 1))) ((Int32.ofInt 1)) ((Int32.ofInt 0)) ((Int32.ofInt 0))) else (f_X6_readNumber_37 300 e ((Int32.ofInt 0)) ((Int32.ofInt 0)) ((Int32.ofInt 0)))
def p_X6_readNumber (e : Rec)  : Prop := (p_X6_byteAt e (e.1 4)) ∧ (((f_X6_byteAt e (e.1 4)) = (Int32.ofInt 45) → (p_X6_readNumber_37 300 (setG e 4 ((e.1 4) + (Int32.ofInt 1))) ((Int32.ofInt 1)) ((Int32.ofInt 0)) ((Int32.ofInt 0)))) ∧ (¬ ((f_X6_byteAt e (e.1 4)) = (Int32.ofInt 45)) → (p_X6_readNumber_37 300 e ((Int32.ofInt 0)) ((Int32.ofInt 0)) ((Int32.ofInt 0)))))
set_option maxHeartbeats 16000000 in
set_option maxRecDepth 20000 in
theorem s_X6_readNumber (e : Rec)  (hp : p_X6_readNumber e) : Spec 2 0 0 mX6_readNumber [.ref 0] (wE e) (Ret (some (.int ((f_X6_readNumber e).1))) (wE ((f_X6_readNumber e).2))) := by
  obtain ⟨zq, hq⟩ : ∃ z, z = (f_X6_readNumber e) := ⟨_, rfl⟩
  rw [← hq]
  unfold f_X6_readNumber at hq
  unfold p_X6_readNumber at hp
  refine Sof fun sc => ?_
  refine g_blk hz0 kX6_readNumber_0 ?_
  refine cVp [0, 1, 2] (wE e) (s_X6_byteAt e (e.1 4) hp.1) rfl cwX6_byteAt dX6_readNumber_5 rfl rfl (hm22_E_E _) ?_
  replace hp := hp.2
  refine g_blk hz0 kX6_readNumber_8 ?_
  refine ⟨fun c1 => ?_, fun c1 => ?_⟩
  · rw [if_neg (show ¬ ((f_X6_byteAt e (e.1 4)) = (Int32.ofInt 45)) from c1)] at hq
    replace hp := hp.2 c1
    refine g_blk hz0 kX6_readNumber_17 ?_
    refine g_blk hz0 kX6_readNumber_18 ?_
    refine ⟨fun _ => ?_, fun c => absurd c (by decide)⟩
    refine g_blk hz0 kX6_readNumber_33 ?_
    refine g_le (L2 := [some (.ref 0), some (.int (Int32.ofInt 0)), some (.int (Int32.ofInt 0)), some (.int (Int32.ofInt 0))]) ⟨rfl, rfl, rfl, rfl, trivial⟩ ?_
    exact l_X6_readNumber_37 sc zq 300 e ((Int32.ofInt 0)) ((Int32.ofInt 0)) ((Int32.ofInt 0)) hp hq
  · rw [if_pos (show (f_X6_byteAt e (e.1 4)) = (Int32.ofInt 45) from c1)] at hq
    replace hp := hp.1 c1
    refine g_blk hz0 kX6_readNumber_13 ?_
    refine g_blk hz0 kX6_readNumber_18 ?_
    refine ⟨fun c => absurd c (by decide), fun _ => ?_⟩
    refine g_blk hz0 kX6_readNumber_23 ?_
    refine ⟨fun h => (by cases h), Or.inl rfl, ?_⟩
    refine g_blk hz0 kX6_readNumber_33 ?_
    refine g_le (L2 := [some (.ref 0), some (.int (Int32.ofInt 1)), some (.int (Int32.ofInt 0)), some (.int (Int32.ofInt 0))]) ⟨rfl, rfl, rfl, rfl, trivial⟩ ?_
    exact l_X6_readNumber_37 sc zq 300 (setG e 4 ((e.1 4) + (Int32.ofInt 1))) ((Int32.ofInt 1)) ((Int32.ofInt 0)) ((Int32.ofInt 0)) hp hq

def f_X5_forget (q : Rec)  : Rec := (setG q 5 ((Int32.ofInt 0)))
set_option maxHeartbeats 16000000 in
set_option maxRecDepth 20000 in
theorem s_X5_forget (q : Rec)  : Spec 0 0 0 mX5_forget [.ref 0] (wQ q) (Ret none (wQ ((f_X5_forget q)))) := by
  obtain ⟨zq, hq⟩ : ∃ z, z = (f_X5_forget q) := ⟨_, rfl⟩
  rw [← hq]
  unfold f_X5_forget at hq
  refine Sof fun sc => ?_
  refine g_blk hz0 kX5_forget_0 ?_
  refine ⟨fun _ => Or.inl rfl, Or.inr rfl, ?_⟩
  subst hq
  exact ⟨rfl, rfl⟩

def f_X5_firstLike_2  : Nat → Rec → Int32 → Int32 → Int32
  | 0, a, v1, v2 => 0
  | n + 1, a, v1, v2 => if v1 ≤ v2 then v2 else (if ((a.2 0) (Int32.toNatClampNeg v2)) = ((a.2 0) (Int32.toNatClampNeg v1)) then v2 else (f_X5_firstLike_2 n a v1 (v2 + (Int32.ofInt 1))))
def p_X5_firstLike_2  : Nat → Rec → Int32 → Int32 → Prop
  | 0, _, _, _ => False
  | n + 1, a, v1, v2 => (v1 ≤ v2 → True) ∧ (¬ (v1 ≤ v2) → (vp_in v2 6 ∧ (vp_in v1 6 ∧ ((((a.2 0) (Int32.toNatClampNeg v2)) = ((a.2 0) (Int32.toNatClampNeg v1)) → True) ∧ (¬ (((a.2 0) (Int32.toNatClampNeg v2)) = ((a.2 0) (Int32.toNatClampNeg v1))) → (p_X5_firstLike_2 n a v1 (v2 + (Int32.ofInt 1))))))))
set_option maxHeartbeats 16000000 in
set_option maxRecDepth 20000 in
theorem l_X5_firstLike_2 (sc : SC) (a : Rec)  (zq : Int32)  : ∀ (n : Nat)  (v1 : Int32) (v2 : Int32), p_X5_firstLike_2 n a v1 v2 → zq = f_X5_firstLike_2 n a v1 v2 → Good sc 0 0 0 1 mX5_firstLike (Ret (some (.int (zq))) (wI6 a)) 0 0 2 [some (.ref 0), some (.int v1), some (.int v2)] [] (wI6 a) := by
  intro n
  induction n with
  | zero => intro v1 v2 hp; exact hp.elim
  | succ n ih =>
    intro v1 v2 hp hq
    unfold p_X5_firstLike_2 at hp
    unfold f_X5_firstLike_2 at hq
    refine g_blk hz0 kX5_firstLike_2 ?_
    refine ⟨fun c1 => ?_, fun c1 => ?_⟩
    · rw [if_pos (show v1 ≤ v2 from c1)] at hq
      refine g_blk hz0 kX5_firstLike_22 ?_
      subst hq
      exact ⟨fun h => (by cases h), rfl, rfl⟩
    · rw [if_neg (show ¬ (v1 ≤ v2) from c1)] at hq
      replace hp := hp.2 c1
      refine g_blk hz0 kX5_firstLike_7 ?_
      refine ⟨hp.1, ?_⟩
      replace hp := hp.2
      refine ⟨hp.1, ?_⟩
      replace hp := hp.2
      refine ⟨fun c2 => ?_, fun c2 => ?_⟩
      · rw [if_pos (show ((a.2 0) (Int32.toNatClampNeg v2)) = ((a.2 0) (Int32.toNatClampNeg v1)) from c2)] at hq
        refine g_blk hz0 kX5_firstLike_22 ?_
        subst hq
        exact ⟨fun h => (by cases h), rfl, rfl⟩
      · rw [if_neg (show ¬ (((a.2 0) (Int32.toNatClampNeg v2)) = ((a.2 0) (Int32.toNatClampNeg v1))) from c2)] at hq
        replace hp := hp.2 c2
        refine g_blk hz0 kX5_firstLike_16 ?_
        refine g_le (L2 := [some (.ref 0), some (.int v1), some (.int (v2 + (Int32.ofInt 1)))]) ⟨rfl, rfl, rfl, trivial⟩ ?_
        exact ih v1 (v2 + (Int32.ofInt 1)) hp hq
def f_X5_firstLike (a : Rec) (i : Int32) : Int32 := (f_X5_firstLike_2 40 a i ((Int32.ofInt 0)))
def p_X5_firstLike (a : Rec) (i : Int32) : Prop := (p_X5_firstLike_2 40 a i ((Int32.ofInt 0)))
set_option maxHeartbeats 16000000 in
set_option maxRecDepth 20000 in
theorem s_X5_firstLike (a : Rec) (i : Int32) (hp : p_X5_firstLike a i) : Spec 0 0 0 mX5_firstLike [.ref 0, .int i] (wI6 a) (Ret (some (.int ((f_X5_firstLike a i)))) (wI6 a)) := by
  obtain ⟨zq, hq⟩ : ∃ z, z = (f_X5_firstLike a i) := ⟨_, rfl⟩
  rw [← hq]
  unfold f_X5_firstLike at hq
  unfold p_X5_firstLike at hp
  refine Sof fun sc => ?_
  refine g_blk hz0 kX5_firstLike_0 ?_
  refine g_le (L2 := [some (.ref 0), some (.int i), some (.int (Int32.ofInt 0))]) ⟨rfl, rfl, rfl, trivial⟩ ?_
  exact l_X5_firstLike_2 sc a zq 40 i ((Int32.ofInt 0)) hp hq

def f_X5_outmost_8  : Nat → Rec → Rec → Int32 → Int32 → Int32 → Int32 → Int32
  | 0, a, b, v2, v3, v4, v5 => 0
  | n + 1, a, b, v2, v3, v4, v5 => if (Int32.ofInt 6) ≤ v5 then v4 else (if ((b.2 0) (Int32.toNatClampNeg v5)) = 0 then (f_X5_outmost_8 n a b v2 v3 v4 (v5 + (Int32.ofInt 1))) else (if v3 = 0 then (f_X5_outmost_8 n a b v2 ((Int32.ofInt 1)) ((a.2 0) (Int32.toNatClampNeg v5)) (v5 + (Int32.ofInt 1))) else (if v2 = 0 then (if v4 ≤ ((a.2 0) (Int32.toNatClampNeg v5)) then (f_X5_outmost_8 n a b v2 v3 v4 (v5 + (Int32.ofInt 1))) else (f_X5_outmost_8 n a b v2 ((Int32.ofInt 1)) ((a.2 0) (Int32.toNatClampNeg v5)) (v5 + (Int32.ofInt 1)))) else (if ((a.2 0) (Int32.toNatClampNeg v5)) ≤ v4 then (f_X5_outmost_8 n a b v2 v3 v4 (v5 + (Int32.ofInt 1))) else (f_X5_outmost_8 n a b v2 ((Int32.ofInt 1)) ((a.2 0) (Int32.toNatClampNeg v5)) (v5 + (Int32.ofInt 1)))))))
def p_X5_outmost_8  : Nat → Rec → Rec → Int32 → Int32 → Int32 → Int32 → Prop
  | 0, _, _, _, _, _, _ => False
  | n + 1, a, b, v2, v3, v4, v5 => ((Int32.ofInt 6) ≤ v5 → True) ∧ (¬ ((Int32.ofInt 6) ≤ v5) → (vp_in v5 6 ∧ ((((b.2 0) (Int32.toNatClampNeg v5)) = 0 → (p_X5_outmost_8 n a b v2 v3 v4 (v5 + (Int32.ofInt 1)))) ∧ (¬ (((b.2 0) (Int32.toNatClampNeg v5)) = 0) → ((v3 = 0 → (vp_in v5 6 ∧ (p_X5_outmost_8 n a b v2 ((Int32.ofInt 1)) ((a.2 0) (Int32.toNatClampNeg v5)) (v5 + (Int32.ofInt 1))))) ∧ (¬ (v3 = 0) → ((v2 = 0 → (vp_in v5 6 ∧ ((v4 ≤ ((a.2 0) (Int32.toNatClampNeg v5)) → (p_X5_outmost_8 n a b v2 v3 v4 (v5 + (Int32.ofInt 1)))) ∧ (¬ (v4 ≤ ((a.2 0) (Int32.toNatClampNeg v5))) → (vp_in v5 6 ∧ (p_X5_outmost_8 n a b v2 ((Int32.ofInt 1)) ((a.2 0) (Int32.toNatClampNeg v5)) (v5 + (Int32.ofInt 1)))))))) ∧ (¬ (v2 = 0) → (vp_in v5 6 ∧ ((((a.2 0) (Int32.toNatClampNeg v5)) ≤ v4 → (p_X5_outmost_8 n a b v2 v3 v4 (v5 + (Int32.ofInt 1)))) ∧ (¬ (((a.2 0) (Int32.toNatClampNeg v5)) ≤ v4) → (vp_in v5 6 ∧ (p_X5_outmost_8 n a b v2 ((Int32.ofInt 1)) ((a.2 0) (Int32.toNatClampNeg v5)) (v5 + (Int32.ofInt 1)))))))))))))))
set_option maxHeartbeats 16000000 in
set_option maxRecDepth 20000 in
theorem l_X5_outmost_8 (sc : SC) (a : Rec) (b : Rec)  (zq : Int32)  : ∀ (n : Nat)  (v2 : Int32) (v3 : Int32) (v4 : Int32) (v5 : Int32), p_X5_outmost_8 n a b v2 v3 v4 v5 → zq = f_X5_outmost_8 n a b v2 v3 v4 v5 → Good sc 0 0 0 2 mX5_outmost (Ret (some (.int (zq))) (wI6Z6 a b)) 0 0 8 [some (.ref 0), some (.ref 1), some (.int v2), some (.int v3), some (.int v4), some (.int v5)] [] (wI6Z6 a b) := by
  intro n
  induction n with
  | zero => intro v2 v3 v4 v5 hp; exact hp.elim
  | succ n ih =>
    intro v2 v3 v4 v5 hp hq
    unfold p_X5_outmost_8 at hp
    unfold f_X5_outmost_8 at hq
    refine g_blk hz0 kX5_outmost_8 ?_
    refine ⟨fun c1 => ?_, fun c1 => ?_⟩
    · rw [if_pos (show (Int32.ofInt 6) ≤ v5 from c1)] at hq
      refine g_blk hz0 kX5_outmost_65 ?_
      subst hq
      exact ⟨fun h => (by cases h), rfl, rfl⟩
    · rw [if_neg (show ¬ ((Int32.ofInt 6) ≤ v5) from c1)] at hq
      replace hp := hp.2 c1
      refine g_blk hz0 kX5_outmost_15 ?_
      refine ⟨hp.1, ?_⟩
      replace hp := hp.2
      refine ⟨fun c2 => ?_, fun c2 => ?_⟩
      · rw [if_pos (show ((b.2 0) (Int32.toNatClampNeg v5)) = 0 from c2)] at hq
        replace hp := hp.1 c2
        refine g_blk hz0 kX5_outmost_59 ?_
        refine g_le (L2 := [some (.ref 0), some (.ref 1), some (.int v2), some (.int v3), some (.int v4), some (.int (v5 + (Int32.ofInt 1)))]) ⟨rfl, rfl, rfl, rfl, rfl, rfl, trivial⟩ ?_
        exact ih v2 v3 v4 (v5 + (Int32.ofInt 1)) hp hq
      · rw [if_neg (show ¬ (((b.2 0) (Int32.toNatClampNeg v5)) = 0) from c2)] at hq
        replace hp := hp.2 c2
        refine g_blk hz0 kX5_outmost_22 ?_
        refine ⟨fun c3 => ?_, fun c3 => ?_⟩
        · rw [if_pos (show v3 = 0 from c3)] at hq
          replace hp := hp.1 c3
          refine g_blk hz0 kX5_outmost_51 ?_
          refine ⟨hp.1, ?_⟩
          replace hp := hp.2
          refine g_blk hz0 kX5_outmost_59 ?_
          refine g_le (L2 := [some (.ref 0), some (.ref 1), some (.int v2), some (.int (Int32.ofInt 1)), some (.int ((a.2 0) (Int32.toNatClampNeg v5))), some (.int (v5 + (Int32.ofInt 1)))]) ⟨rfl, rfl, rfl, rfl, rfl, rfl, trivial⟩ ?_
          exact ih v2 ((Int32.ofInt 1)) ((a.2 0) (Int32.toNatClampNeg v5)) (v5 + (Int32.ofInt 1)) hp hq
        · rw [if_neg (show ¬ (v3 = 0) from c3)] at hq
          replace hp := hp.2 c3
          refine g_blk hz0 kX5_outmost_26 ?_
          refine ⟨fun c4 => ?_, fun c4 => ?_⟩
          · rw [if_pos (show v2 = 0 from c4)] at hq
            replace hp := hp.1 c4
            refine g_blk hz0 kX5_outmost_42 ?_
            refine ⟨hp.1, ?_⟩
            replace hp := hp.2
            refine ⟨fun c5 => ?_, fun c5 => ?_⟩
            · rw [if_pos (show v4 ≤ ((a.2 0) (Int32.toNatClampNeg v5)) from c5)] at hq
              replace hp := hp.1 c5
              refine g_blk hz0 kX5_outmost_59 ?_
              refine g_le (L2 := [some (.ref 0), some (.ref 1), some (.int v2), some (.int v3), some (.int v4), some (.int (v5 + (Int32.ofInt 1)))]) ⟨rfl, rfl, rfl, rfl, rfl, rfl, trivial⟩ ?_
              exact ih v2 v3 v4 (v5 + (Int32.ofInt 1)) hp hq
            · rw [if_neg (show ¬ (v4 ≤ ((a.2 0) (Int32.toNatClampNeg v5))) from c5)] at hq
              replace hp := hp.2 c5
              refine g_blk hz0 kX5_outmost_51 ?_
              refine ⟨hp.1, ?_⟩
              replace hp := hp.2
              refine g_blk hz0 kX5_outmost_59 ?_
              refine g_le (L2 := [some (.ref 0), some (.ref 1), some (.int v2), some (.int (Int32.ofInt 1)), some (.int ((a.2 0) (Int32.toNatClampNeg v5))), some (.int (v5 + (Int32.ofInt 1)))]) ⟨rfl, rfl, rfl, rfl, rfl, rfl, trivial⟩ ?_
              exact ih v2 ((Int32.ofInt 1)) ((a.2 0) (Int32.toNatClampNeg v5)) (v5 + (Int32.ofInt 1)) hp hq
          · rw [if_neg (show ¬ (v2 = 0) from c4)] at hq
            replace hp := hp.2 c4
            refine g_blk hz0 kX5_outmost_30 ?_
            refine ⟨hp.1, ?_⟩
            replace hp := hp.2
            refine ⟨fun c6 => ?_, fun c6 => ?_⟩
            · rw [if_pos (show ((a.2 0) (Int32.toNatClampNeg v5)) ≤ v4 from c6)] at hq
              replace hp := hp.1 c6
              refine g_blk hz0 kX5_outmost_59 ?_
              refine g_le (L2 := [some (.ref 0), some (.ref 1), some (.int v2), some (.int v3), some (.int v4), some (.int (v5 + (Int32.ofInt 1)))]) ⟨rfl, rfl, rfl, rfl, rfl, rfl, trivial⟩ ?_
              exact ih v2 v3 v4 (v5 + (Int32.ofInt 1)) hp hq
            · rw [if_neg (show ¬ (((a.2 0) (Int32.toNatClampNeg v5)) ≤ v4) from c6)] at hq
              replace hp := hp.2 c6
              refine g_blk hz0 kX5_outmost_39 ?_
              refine g_blk hz0 kX5_outmost_51 ?_
              refine ⟨hp.1, ?_⟩
              replace hp := hp.2
              refine g_blk hz0 kX5_outmost_59 ?_
              refine g_le (L2 := [some (.ref 0), some (.ref 1), some (.int v2), some (.int (Int32.ofInt 1)), some (.int ((a.2 0) (Int32.toNatClampNeg v5))), some (.int (v5 + (Int32.ofInt 1)))]) ⟨rfl, rfl, rfl, rfl, rfl, rfl, trivial⟩ ?_
              exact ih v2 ((Int32.ofInt 1)) ((a.2 0) (Int32.toNatClampNeg v5)) (v5 + (Int32.ofInt 1)) hp hq
def f_X5_outmost (a : Rec) (b : Rec) (g : Int32) : Int32 := (f_X5_outmost_8 40 a b g ((Int32.ofInt 0)) ((Int32.ofInt 0)) ((Int32.ofInt 0)))
def p_X5_outmost (a : Rec) (b : Rec) (g : Int32) : Prop := (p_X5_outmost_8 40 a b g ((Int32.ofInt 0)) ((Int32.ofInt 0)) ((Int32.ofInt 0)))
set_option maxHeartbeats 16000000 in
set_option maxRecDepth 20000 in
theorem s_X5_outmost (a : Rec) (b : Rec) (g : Int32) (hp : p_X5_outmost a b g) : Spec 0 0 0 mX5_outmost [.ref 0, .ref 1, .int g] (wI6Z6 a b) (Ret (some (.int ((f_X5_outmost a b g)))) (wI6Z6 a b)) := by
  obtain ⟨zq, hq⟩ : ∃ z, z = (f_X5_outmost a b g) := ⟨_, rfl⟩
  rw [← hq]
  unfold f_X5_outmost at hq
  unfold p_X5_outmost at hp
  refine Sof fun sc => ?_
  refine g_blk hz0 kX5_outmost_0 ?_
  refine g_le (L2 := [some (.ref 0), some (.ref 1), some (.int g), some (.int (Int32.ofInt 0)), some (.int (Int32.ofInt 0)), some (.int (Int32.ofInt 0))]) ⟨rfl, rfl, rfl, rfl, rfl, rfl, trivial⟩ ?_
  exact l_X5_outmost_8 sc a b zq 40 g ((Int32.ofInt 0)) ((Int32.ofInt 0)) ((Int32.ofInt 0)) hp hq

def f_X5_bend_3  : Nat → Rec → Rec → Int32 → Int32 → Int32 → Rec
  | 0, a, b, v2, v3, v4 => b
  | n + 1, a, b, v2, v3, v4 => if (Int32.ofInt 6) ≤ v4 then b else (if v2 = 0 then (f_X5_bend_3 n a (setA b 0 (upd (b.2 0) (Int32.toNatClampNeg v4) ((a.2 0) (Int32.toNatClampNeg v4)))) v2 v3 (v4 + (Int32.ofInt 1))) else (if (f_X8_turns ((a.2 0) (Int32.toNatClampNeg v4)) v3 ((Int32.ofInt 0))) = 0 then (f_X5_bend_3 n a (setA b 0 (upd (b.2 0) (Int32.toNatClampNeg v4) ((a.2 0) (Int32.toNatClampNeg v4)))) v2 v3 (v4 + (Int32.ofInt 1))) else (f_X5_bend_3 n a (setA b 0 (upd (b.2 0) (Int32.toNatClampNeg v4) (f_X8_mirrored ((a.2 0) (Int32.toNatClampNeg v4)) v3))) v2 v3 (v4 + (Int32.ofInt 1)))))
def p_X5_bend_3  : Nat → Rec → Rec → Int32 → Int32 → Int32 → Prop
  | 0, _, _, _, _, _ => False
  | n + 1, a, b, v2, v3, v4 => ((Int32.ofInt 6) ≤ v4 → True) ∧ (¬ ((Int32.ofInt 6) ≤ v4) → ((v2 = 0 → (vp_in v4 6 ∧ (vp_in v4 6 ∧ (p_X5_bend_3 n a (setA b 0 (upd (b.2 0) (Int32.toNatClampNeg v4) ((a.2 0) (Int32.toNatClampNeg v4)))) v2 v3 (v4 + (Int32.ofInt 1)))))) ∧ (¬ (v2 = 0) → (vp_in v4 6 ∧ (((f_X8_turns ((a.2 0) (Int32.toNatClampNeg v4)) v3 ((Int32.ofInt 0))) = 0 → (vp_in v4 6 ∧ (vp_in v4 6 ∧ (p_X5_bend_3 n a (setA b 0 (upd (b.2 0) (Int32.toNatClampNeg v4) ((a.2 0) (Int32.toNatClampNeg v4)))) v2 v3 (v4 + (Int32.ofInt 1)))))) ∧ (¬ ((f_X8_turns ((a.2 0) (Int32.toNatClampNeg v4)) v3 ((Int32.ofInt 0))) = 0) → (vp_in v4 6 ∧ (vp_in v4 6 ∧ (p_X5_bend_3 n a (setA b 0 (upd (b.2 0) (Int32.toNatClampNeg v4) (f_X8_mirrored ((a.2 0) (Int32.toNatClampNeg v4)) v3))) v2 v3 (v4 + (Int32.ofInt 1)))))))))))
set_option maxHeartbeats 16000000 in
set_option maxRecDepth 20000 in
theorem l_X5_bend_3 (sc : SC) (a : Rec)  (zq : Rec)  : ∀ (n : Nat) (b : Rec) (v2 : Int32) (v3 : Int32) (v4 : Int32), p_X5_bend_3 n a b v2 v3 v4 → zq = f_X5_bend_3 n a b v2 v3 v4 → Good sc 1 0 0 2 mX5_bend (Ret none (wI6I6 a (zq))) 0 0 3 [some (.ref 0), some (.ref 1), some (.int v2), some (.int v3), some (.int v4)] [] (wI6I6 a b) := by
  intro n
  induction n with
  | zero => intro b v2 v3 v4 hp; exact hp.elim
  | succ n ih =>
    intro b v2 v3 v4 hp hq
    unfold p_X5_bend_3 at hp
    unfold f_X5_bend_3 at hq
    refine g_blk hz0 kX5_bend_3 ?_
    refine ⟨fun c1 => ?_, fun c1 => ?_⟩
    · rw [if_pos (show (Int32.ofInt 6) ≤ v4 from c1)] at hq
      refine g_blk hz0 kX5_bend_51 ?_
      subst hq
      exact ⟨rfl, rfl⟩
    · rw [if_neg (show ¬ ((Int32.ofInt 6) ≤ v4) from c1)] at hq
      replace hp := hp.2 c1
      refine g_blk hz0 kX5_bend_10 ?_
      refine ⟨fun c2 => ?_, fun c2 => ?_⟩
      · rw [if_pos (show v2 = 0 from c2)] at hq
        replace hp := hp.1 c2
        refine g_blk hz0 kX5_bend_40 ?_
        refine ⟨hp.1, ?_⟩
        replace hp := hp.2
        refine g_blk hz0 kX5_bend_44 ?_
        refine ⟨hp.1, ?_⟩
        replace hp := hp.2
        refine g_le (L2 := [some (.ref 0), some (.ref 1), some (.int v2), some (.int v3), some (.int (v4 + (Int32.ofInt 1)))]) ⟨rfl, rfl, rfl, rfl, rfl, trivial⟩ ?_
        exact ih (setA b 0 (upd (b.2 0) (Int32.toNatClampNeg v4) ((a.2 0) (Int32.toNatClampNeg v4)))) v2 v3 (v4 + (Int32.ofInt 1)) hp hq
      · rw [if_neg (show ¬ (v2 = 0) from c2)] at hq
        replace hp := hp.2 c2
        refine g_blk hz0 kX5_bend_17 ?_
        refine ⟨hp.1, ?_⟩
        replace hp := hp.2
        refine cS0 (s_X8_turns ((a.2 0) (Int32.toNatClampNeg v4)) v3 ((Int32.ofInt 0))) rfl cwX8_turns dX5_bend_23 rfl ?_
        refine g_blk hz0 kX5_bend_26 ?_
        refine ⟨fun c3 => ?_, fun c3 => ?_⟩
        · rw [if_pos (show (f_X8_turns ((a.2 0) (Int32.toNatClampNeg v4)) v3 ((Int32.ofInt 0))) = 0 from c3)] at hq
          replace hp := hp.1 c3
          refine g_blk hz0 kX5_bend_40 ?_
          refine ⟨hp.1, ?_⟩
          replace hp := hp.2
          refine g_blk hz0 kX5_bend_44 ?_
          refine ⟨hp.1, ?_⟩
          replace hp := hp.2
          refine g_le (L2 := [some (.ref 0), some (.ref 1), some (.int v2), some (.int v3), some (.int (v4 + (Int32.ofInt 1)))]) ⟨rfl, rfl, rfl, rfl, rfl, trivial⟩ ?_
          exact ih (setA b 0 (upd (b.2 0) (Int32.toNatClampNeg v4) ((a.2 0) (Int32.toNatClampNeg v4)))) v2 v3 (v4 + (Int32.ofInt 1)) hp hq
        · rw [if_neg (show ¬ ((f_X8_turns ((a.2 0) (Int32.toNatClampNeg v4)) v3 ((Int32.ofInt 0))) = 0) from c3)] at hq
          replace hp := hp.2 c3
          refine g_blk hz0 kX5_bend_29 ?_
          refine ⟨hp.1, ?_⟩
          replace hp := hp.2
          refine cS0 (s_X8_mirrored ((a.2 0) (Int32.toNatClampNeg v4)) v3) rfl cwX8_mirrored dX5_bend_34 rfl ?_
          refine g_blk hz0 kX5_bend_37 ?_
          refine g_blk hz0 kX5_bend_44 ?_
          refine ⟨hp.1, ?_⟩
          replace hp := hp.2
          refine g_le (L2 := [some (.ref 0), some (.ref 1), some (.int v2), some (.int v3), some (.int (v4 + (Int32.ofInt 1)))]) ⟨rfl, rfl, rfl, rfl, rfl, trivial⟩ ?_
          exact ih (setA b 0 (upd (b.2 0) (Int32.toNatClampNeg v4) (f_X8_mirrored ((a.2 0) (Int32.toNatClampNeg v4)) v3))) v2 v3 (v4 + (Int32.ofInt 1)) hp hq
def f_X5_bend (a : Rec) (b : Rec) (b1 : Int32) (l : Int32) : Rec := (f_X5_bend_3 40 a b b1 l ((Int32.ofInt 0)))
def p_X5_bend (a : Rec) (b : Rec) (b1 : Int32) (l : Int32) : Prop := (p_X5_bend_3 40 a b b1 l ((Int32.ofInt 0)))
set_option maxHeartbeats 16000000 in
set_option maxRecDepth 20000 in
theorem s_X5_bend (a : Rec) (b : Rec) (b1 : Int32) (l : Int32) (hp : p_X5_bend a b b1 l) : Spec 1 0 0 mX5_bend [.ref 0, .ref 1, .int b1, .int l] (wI6I6 a b) (Ret none (wI6I6 a ((f_X5_bend a b b1 l)))) := by
  obtain ⟨zq, hq⟩ : ∃ z, z = (f_X5_bend a b b1 l) := ⟨_, rfl⟩
  rw [← hq]
  unfold f_X5_bend at hq
  unfold p_X5_bend at hp
  refine Sof fun sc => ?_
  refine g_blk hz0 kX5_bend_0 ?_
  refine g_le (L2 := [some (.ref 0), some (.ref 1), some (.int b1), some (.int l), some (.int (Int32.ofInt 0))]) ⟨rfl, rfl, rfl, rfl, rfl, trivial⟩ ?_
  exact l_X5_bend_3 sc a zq 40 b b1 l ((Int32.ofInt 0)) hp hq

def f_X0_canBeTaken  (m : Int32) (s : Int32) : Int32 := if m ≤ 0 then (Int32.ofInt 0) else (if s < m then (Int32.ofInt 0) else (Int32.ofInt 1))
theorem z_X0_canBeTaken  (m : Int32) (s : Int32) : (f_X0_canBeTaken m s) = 0 ∨ (f_X0_canBeTaken m s) = 1 := by
  unfold f_X0_canBeTaken
  repeat' split
  all_goals first | exact Or.inl rfl | exact Or.inr rfl | apply z_any <;> assumption
set_option maxHeartbeats 16000000 in
set_option maxRecDepth 20000 in
theorem s_X0_canBeTaken  (m : Int32) (s : Int32) : Spec 0 0 0 mX0_canBeTaken [.int m, .int s] [] (Ret (some (.int ((f_X0_canBeTaken m s)))) []) := by
  obtain ⟨zq, hq⟩ : ∃ z, z = (f_X0_canBeTaken m s) := ⟨_, rfl⟩
  rw [← hq]
  unfold f_X0_canBeTaken at hq
  refine Sof fun sc => ?_
  refine g_blk hz0 kX0_canBeTaken_0 ?_
  refine ⟨fun c1 => ?_, fun c1 => ?_⟩
  · rw [if_pos (show m ≤ 0 from c1)] at hq
    refine g_blk hz0 kX0_canBeTaken_13 ?_
    refine g_blk hz0 kX0_canBeTaken_14 ?_
    subst hq
    exact ⟨fun _ => Or.inl rfl, rfl, rfl⟩
  · rw [if_neg (show ¬ (m ≤ 0) from c1)] at hq
    refine g_blk hz0 kX0_canBeTaken_4 ?_
    refine ⟨fun c2 => ?_, fun c2 => ?_⟩
    · rw [if_pos (show s < m from c2)] at hq
      refine g_blk hz0 kX0_canBeTaken_13 ?_
      refine g_blk hz0 kX0_canBeTaken_14 ?_
      subst hq
      exact ⟨fun _ => Or.inl rfl, rfl, rfl⟩
    · rw [if_neg (show ¬ (s < m) from c2)] at hq
      refine g_blk hz0 kX0_canBeTaken_9 ?_
      refine g_blk hz0 kX0_canBeTaken_14 ?_
      subst hq
      exact ⟨fun _ => Or.inr rfl, rfl, rfl⟩

def f_X0_wayOf  (s : Int32) : Int32 := ((s / (Int32.ofInt 2)) - (s / (Int32.ofInt 2)) / (Int32.ofInt 4) * (Int32.ofInt 4))
set_option maxHeartbeats 16000000 in
set_option maxRecDepth 20000 in
theorem s_X0_wayOf  (s : Int32) : Spec 0 0 0 mX0_wayOf [.int s] [] (Ret (some (.int ((f_X0_wayOf s)))) []) := by
  obtain ⟨zq, hq⟩ : ∃ z, z = (f_X0_wayOf s) := ⟨_, rfl⟩
  rw [← hq]
  unfold f_X0_wayOf at hq
  refine Sof fun sc => ?_
  refine g_blk hz0 kX0_wayOf_0 ?_
  refine ⟨by decide, ?_⟩
  refine ⟨by decide, ?_⟩
  subst hq
  exact ⟨fun h => (by cases h), rfl, rfl⟩

def f_X0_farOf  (s : Int32) : Int32 := ((s - s / (Int32.ofInt 2) * (Int32.ofInt 2)) + (Int32.ofInt 1))
set_option maxHeartbeats 16000000 in
set_option maxRecDepth 20000 in
theorem s_X0_farOf  (s : Int32) : Spec 0 0 0 mX0_farOf [.int s] [] (Ret (some (.int ((f_X0_farOf s)))) []) := by
  obtain ⟨zq, hq⟩ : ∃ z, z = (f_X0_farOf s) := ⟨_, rfl⟩
  rw [← hq]
  unfold f_X0_farOf at hq
  refine Sof fun sc => ?_
  refine g_blk hz0 kX0_farOf_0 ?_
  refine ⟨by decide, ?_⟩
  subst hq
  exact ⟨fun h => (by cases h), rfl, rfl⟩

def f_X0_leads (s : Rec) (p : Rec) (m : Int32) : Int32 := if (f_X3_isIn s p m) = 0 then (Int32.ofInt 0) else (if ((p.2 2) (Int32.toNatClampNeg m)) = (f_X3_onTurn s p) then (if (f_X3_rulerAt s p ((s.2 10) (Int32.toNatClampNeg ((p.2 4) (Int32.toNatClampNeg m)))) ((s.2 11) (Int32.toNatClampNeg ((p.2 4) (Int32.toNatClampNeg m))))) = m then (Int32.ofInt 1) else (Int32.ofInt 0)) else (Int32.ofInt 0))
def p_X0_leads (s : Rec) (p : Rec) (m : Int32) : Prop := (p_X3_isIn s p m) ∧ (((f_X3_isIn s p m) = 0 → True) ∧ (¬ ((f_X3_isIn s p m) = 0) → (vp_in m 8 ∧ ((((p.2 2) (Int32.toNatClampNeg m)) = (f_X3_onTurn s p) → (vp_in m 8 ∧ (vp_in ((p.2 4) (Int32.toNatClampNeg m)) 36 ∧ (vp_in ((p.2 4) (Int32.toNatClampNeg m)) 36 ∧ ((p_X3_rulerAt s p ((s.2 10) (Int32.toNatClampNeg ((p.2 4) (Int32.toNatClampNeg m)))) ((s.2 11) (Int32.toNatClampNeg ((p.2 4) (Int32.toNatClampNeg m))))) ∧ True))))) ∧ (¬ (((p.2 2) (Int32.toNatClampNeg m)) = (f_X3_onTurn s p)) → True)))))
theorem z_X0_leads (s : Rec) (p : Rec) (m : Int32) : (f_X0_leads s p m) = 0 ∨ (f_X0_leads s p m) = 1 := by
  unfold f_X0_leads
  repeat' split
  all_goals first | exact Or.inl rfl | exact Or.inr rfl | apply z_any <;> assumption
set_option maxHeartbeats 16000000 in
set_option maxRecDepth 20000 in
theorem s_X0_leads (s : Rec) (p : Rec) (m : Int32) (hp : p_X0_leads s p m) : Spec 2 0 0 mX0_leads [.ref 0, .int m] (wP s p) (Ret (some (.int ((f_X0_leads s p m)))) (wP s p)) := by
  obtain ⟨zq, hq⟩ : ∃ z, z = (f_X0_leads s p m) := ⟨_, rfl⟩
  rw [← hq]
  unfold f_X0_leads at hq
  unfold p_X0_leads at hp
  refine Sof fun sc => ?_
  refine g_blk hz0 kX0_leads_0 ?_
  refine cVp [0, 1, 2, 3, 4, 5, 6, 7, 8, 9, 10, 11] (wP s p) (s_X3_isIn s p m hp.1) rfl cwX3_isIn dX0_leads_2 rfl rfl (hm4_P_P _ _) ?_
  replace hp := hp.2
  refine g_blk hz0 kX0_leads_5 ?_
  refine ⟨fun c1 => ?_, fun c1 => ?_⟩
  · rw [if_pos (show (f_X3_isIn s p m) = 0 from c1)] at hq
    refine g_blk hz0 kX0_leads_21 ?_
    subst hq
    exact ⟨fun _ => Or.inl rfl, rfl, rfl⟩
  · rw [if_neg (show ¬ ((f_X3_isIn s p m) = 0) from c1)] at hq
    replace hp := hp.2 c1
    refine g_blk hz0 kX0_leads_8 ?_
    refine ⟨hp.1, ?_⟩
    replace hp := hp.2
    refine cVp [0, 1, 2, 3, 4, 5, 6, 7, 8, 9, 10, 11] (wP s p) (s_X3_onTurn s p) rfl cwX3_onTurn dX0_leads_15 rfl rfl (hm4_P_P _ _) ?_
    refine g_blk hz0 kX0_leads_18 ?_
    refine ⟨fun c2 => ?_, fun c2 => ?_⟩
    · rw [if_pos (show ((p.2 2) (Int32.toNatClampNeg m)) = (f_X3_onTurn s p) from c2)] at hq
      replace hp := hp.1 c2
      refine g_blk hz0 kX0_leads_23 ?_
      refine ⟨hp.1, ?_⟩
      replace hp := hp.2
      refine ⟨hp.1, ?_⟩
      replace hp := hp.2
      refine ⟨hp.1, ?_⟩
      replace hp := hp.2
      refine cVp [0, 1, 2, 3, 4, 5, 6, 7, 8, 9, 10, 11] (wP s p) (s_X3_rulerAt s p ((s.2 10) (Int32.toNatClampNeg ((p.2 4) (Int32.toNatClampNeg m)))) ((s.2 11) (Int32.toNatClampNeg ((p.2 4) (Int32.toNatClampNeg m)))) hp.1) rfl cwX3_rulerAt dX0_leads_49 rfl rfl (hm4_P_P _ _) ?_
      replace hp := hp.2
      refine g_blk hz0 kX0_leads_52 ?_
      refine ⟨fun c3 => ?_, fun c3 => ?_⟩
      · rw [if_neg (show ¬ ((f_X3_rulerAt s p ((s.2 10) (Int32.toNatClampNeg ((p.2 4) (Int32.toNatClampNeg m)))) ((s.2 11) (Int32.toNatClampNeg ((p.2 4) (Int32.toNatClampNeg m))))) = m) from c3)] at hq
        refine g_blk hz0 kX0_leads_60 ?_
        refine g_blk hz0 kX0_leads_61 ?_
        subst hq
        exact ⟨fun _ => Or.inl rfl, rfl, rfl⟩
      · rw [if_pos (show (f_X3_rulerAt s p ((s.2 10) (Int32.toNatClampNeg ((p.2 4) (Int32.toNatClampNeg m)))) ((s.2 11) (Int32.toNatClampNeg ((p.2 4) (Int32.toNatClampNeg m))))) = m from c3)] at hq
        refine g_blk hz0 kX0_leads_56 ?_
        refine g_blk hz0 kX0_leads_61 ?_
        subst hq
        exact ⟨fun _ => Or.inr rfl, rfl, rfl⟩
    · rw [if_neg (show ¬ (((p.2 2) (Int32.toNatClampNeg m)) = (f_X3_onTurn s p)) from c2)] at hq
      refine g_blk hz0 kX0_leads_21 ?_
      subst hq
      exact ⟨fun _ => Or.inl rfl, rfl, rfl⟩

def f_X0_liesAhead (s : Rec) (p : Rec) (m : Int32) (o : Int32) : Int32 := if (f_X4_has s ((p.2 4) (Int32.toNatClampNeg m))) = 0 then (Int32.ofInt 0) else (if (f_X4_has s ((p.2 4) (Int32.toNatClampNeg o))) = 0 then (Int32.ofInt 0) else (if (((s.2 11) (Int32.toNatClampNeg ((p.2 4) (Int32.toNatClampNeg m)))) - ((s.2 11) (Int32.toNatClampNeg ((p.2 4) (Int32.toNatClampNeg o))))) < 0 then (Int32.ofInt 1) else (if (((s.2 11) (Int32.toNatClampNeg ((p.2 4) (Int32.toNatClampNeg m)))) - ((s.2 11) (Int32.toNatClampNeg ((p.2 4) (Int32.toNatClampNeg o))))) = 0 then (if ((s.2 10) (Int32.toNatClampNeg ((p.2 4) (Int32.toNatClampNeg o)))) ≤ ((s.2 10) (Int32.toNatClampNeg ((p.2 4) (Int32.toNatClampNeg m)))) then (Int32.ofInt 0) else (Int32.ofInt 1)) else (Int32.ofInt 0))))
def p_X0_liesAhead (s : Rec) (p : Rec) (m : Int32) (o : Int32) : Prop := vp_in m 8 ∧ (vp_in o 8 ∧ ((p_X4_has s ((p.2 4) (Int32.toNatClampNeg m))) ∧ (((f_X4_has s ((p.2 4) (Int32.toNatClampNeg m))) = 0 → True) ∧ (¬ ((f_X4_has s ((p.2 4) (Int32.toNatClampNeg m))) = 0) → ((p_X4_has s ((p.2 4) (Int32.toNatClampNeg o))) ∧ (((f_X4_has s ((p.2 4) (Int32.toNatClampNeg o))) = 0 → True) ∧ (¬ ((f_X4_has s ((p.2 4) (Int32.toNatClampNeg o))) = 0) → (vp_in ((p.2 4) (Int32.toNatClampNeg m)) 36 ∧ (vp_in ((p.2 4) (Int32.toNatClampNeg o)) 36 ∧ (((((s.2 11) (Int32.toNatClampNeg ((p.2 4) (Int32.toNatClampNeg m)))) - ((s.2 11) (Int32.toNatClampNeg ((p.2 4) (Int32.toNatClampNeg o))))) < 0 → True) ∧ (¬ ((((s.2 11) (Int32.toNatClampNeg ((p.2 4) (Int32.toNatClampNeg m)))) - ((s.2 11) (Int32.toNatClampNeg ((p.2 4) (Int32.toNatClampNeg o))))) < 0) → (((((s.2 11) (Int32.toNatClampNeg ((p.2 4) (Int32.toNatClampNeg m)))) - ((s.2 11) (Int32.toNatClampNeg ((p.2 4) (Int32.toNatClampNeg o))))) = 0 → (vp_in ((p.2 4) (Int32.toNatClampNeg m)) 36 ∧ (vp_in ((p.2 4) (Int32.toNatClampNeg o)) 36 ∧ True))) ∧ (¬ ((((s.2 11) (Int32.toNatClampNeg ((p.2 4) (Int32.toNatClampNeg m)))) - ((s.2 11) (Int32.toNatClampNeg ((p.2 4) (Int32.toNatClampNeg o))))) = 0) → True)))))))))))))
theorem z_X0_liesAhead (s : Rec) (p : Rec) (m : Int32) (o : Int32) : (f_X0_liesAhead s p m o) = 0 ∨ (f_X0_liesAhead s p m o) = 1 := by
  unfold f_X0_liesAhead
  repeat' split
  all_goals first | exact Or.inl rfl | exact Or.inr rfl | apply z_any <;> assumption
set_option maxHeartbeats 16000000 in
set_option maxRecDepth 20000 in
theorem s_X0_liesAhead (s : Rec) (p : Rec) (m : Int32) (o : Int32) (hp : p_X0_liesAhead s p m o) : Spec 2 0 0 mX0_liesAhead [.ref 0, .int m, .int o] (wP s p) (Ret (some (.int ((f_X0_liesAhead s p m o)))) (wP s p)) := by
  obtain ⟨zq, hq⟩ : ∃ z, z = (f_X0_liesAhead s p m o) := ⟨_, rfl⟩
  rw [← hq]
  unfold f_X0_liesAhead at hq
  unfold p_X0_liesAhead at hp
  refine Sof fun sc => ?_
  refine g_blk hz0 kX0_liesAhead_0 ?_
  refine ⟨hp.1, ?_⟩
  replace hp := hp.2
  refine ⟨hp.1, ?_⟩
  replace hp := hp.2
  refine cVp [1, 2, 3, 4, 5, 6, 7] (wS s) (s_X4_has s ((p.2 4) (Int32.toNatClampNeg m)) hp.1) rfl cwX4_has dX0_liesAhead_20 rfl rfl (hm5_P_S _ _) ?_
  replace hp := hp.2
  refine g_blk hz0 kX0_liesAhead_23 ?_
  refine ⟨fun c1 => ?_, fun c1 => ?_⟩
  · rw [if_pos (show (f_X4_has s ((p.2 4) (Int32.toNatClampNeg m))) = 0 from c1)] at hq
    refine g_blk hz0 kX0_liesAhead_38 ?_
    subst hq
    exact ⟨fun _ => Or.inl rfl, rfl, rfl⟩
  · rw [if_neg (show ¬ ((f_X4_has s ((p.2 4) (Int32.toNatClampNeg m))) = 0) from c1)] at hq
    replace hp := hp.2 c1
    refine g_blk hz0 kX0_liesAhead_26 ?_
    refine cVp [1, 2, 3, 4, 5, 6, 7] (wS s) (s_X4_has s ((p.2 4) (Int32.toNatClampNeg o)) hp.1) rfl cwX4_has dX0_liesAhead_32 rfl rfl (hm5_P_S _ _) ?_
    replace hp := hp.2
    refine g_blk hz0 kX0_liesAhead_35 ?_
    refine ⟨fun c2 => ?_, fun c2 => ?_⟩
    · rw [if_neg (show ¬ ((f_X4_has s ((p.2 4) (Int32.toNatClampNeg o))) = 0) from c2)] at hq
      replace hp := hp.2 c2
      refine g_blk hz0 kX0_liesAhead_40 ?_
      refine ⟨hp.1, ?_⟩
      replace hp := hp.2
      refine ⟨hp.1, ?_⟩
      replace hp := hp.2
      refine ⟨fun c3 => ?_, fun c3 => ?_⟩
      · rw [if_pos (show (((s.2 11) (Int32.toNatClampNeg ((p.2 4) (Int32.toNatClampNeg m)))) - ((s.2 11) (Int32.toNatClampNeg ((p.2 4) (Int32.toNatClampNeg o))))) < 0 from c3)] at hq
        refine g_blk hz0 kX0_liesAhead_94 ?_
        refine g_blk hz0 kX0_liesAhead_99 ?_
        subst hq
        exact ⟨fun _ => Or.inr rfl, rfl, rfl⟩
      · rw [if_neg (show ¬ ((((s.2 11) (Int32.toNatClampNeg ((p.2 4) (Int32.toNatClampNeg m)))) - ((s.2 11) (Int32.toNatClampNeg ((p.2 4) (Int32.toNatClampNeg o))))) < 0) from c3)] at hq
        replace hp := hp.2 c3
        refine g_blk hz0 kX0_liesAhead_67 ?_
        refine ⟨fun c4 => ?_, fun c4 => ?_⟩
        · rw [if_neg (show ¬ ((((s.2 11) (Int32.toNatClampNeg ((p.2 4) (Int32.toNatClampNeg m)))) - ((s.2 11) (Int32.toNatClampNeg ((p.2 4) (Int32.toNatClampNeg o))))) = 0) from c4)] at hq
          refine g_blk hz0 kX0_liesAhead_98 ?_
          refine g_blk hz0 kX0_liesAhead_99 ?_
          subst hq
          exact ⟨fun _ => Or.inl rfl, rfl, rfl⟩
        · rw [if_pos (show (((s.2 11) (Int32.toNatClampNeg ((p.2 4) (Int32.toNatClampNeg m)))) - ((s.2 11) (Int32.toNatClampNeg ((p.2 4) (Int32.toNatClampNeg o))))) = 0 from c4)] at hq
          replace hp := hp.1 c4
          refine g_blk hz0 kX0_liesAhead_72 ?_
          refine ⟨hp.1, ?_⟩
          replace hp := hp.2
          refine ⟨hp.1, ?_⟩
          replace hp := hp.2
          refine ⟨fun c5 => ?_, fun c5 => ?_⟩
          · rw [if_pos (show ((s.2 10) (Int32.toNatClampNeg ((p.2 4) (Int32.toNatClampNeg o)))) ≤ ((s.2 10) (Int32.toNatClampNeg ((p.2 4) (Int32.toNatClampNeg m)))) from c5)] at hq
            refine g_blk hz0 kX0_liesAhead_98 ?_
            refine g_blk hz0 kX0_liesAhead_99 ?_
            subst hq
            exact ⟨fun _ => Or.inl rfl, rfl, rfl⟩
          · rw [if_neg (show ¬ (((s.2 10) (Int32.toNatClampNeg ((p.2 4) (Int32.toNatClampNeg o)))) ≤ ((s.2 10) (Int32.toNatClampNeg ((p.2 4) (Int32.toNatClampNeg m))))) from c5)] at hq
            refine g_blk hz0 kX0_liesAhead_94 ?_
            refine g_blk hz0 kX0_liesAhead_99 ?_
            subst hq
            exact ⟨fun _ => Or.inr rfl, rfl, rfl⟩
    · rw [if_pos (show (f_X4_has s ((p.2 4) (Int32.toNatClampNeg o))) = 0 from c2)] at hq
      refine g_blk hz0 kX0_liesAhead_38 ?_
      subst hq
      exact ⟨fun _ => Or.inl rfl, rfl, rfl⟩

set_option maxHeartbeats 16000000 in
theorem hm23_P8_P (s : Rec) (p : Rec) (a : Rec) : [0, 1, 2, 3, 4, 5, 6, 7, 8, 9, 10, 11].map (lk (wP8 s p a)) = (wP s p).map (fun e => some (ren [0, 1, 2, 3, 4, 5, 6, 7, 8, 9, 10, 11] e)) := rfl
set_option maxHeartbeats 16000000 in
theorem pw36_P8_P (s : Rec) (p : Rec) (a : Rec)  : putW (wP8 s p a) [0, 1, 2, 3, 4, 5, 6, 7, 8, 9, 10, 11] ((wP s p).map (ren [0, 1, 2, 3, 4, 5, 6, 7, 8, 9, 10, 11])) = (wP8 s p a) := rfl
def f_X0_listLeaders_26 (K4 : Rec → Rec → Rec → Int32 → Int32 → Int32 × Rec) : Nat → Rec → Rec → Rec → Int32 → Int32 → Int32 → Int32 × Rec
  | 0, s, p, a, v2, v3, v4 => (0, a)
  | n + 1, s, p, a, v2, v3, v4 => if v4 ≤ 0 then (K4 s p (setA a 0 (upd (a.2 0) (Int32.toNatClampNeg v4) v3)) (v2 + (Int32.ofInt 1)) (v3 + (Int32.ofInt 1))) else (if (f_X0_liesAhead s p v3 ((a.2 0) (Int32.toNatClampNeg (v4 - (Int32.ofInt 1))))) = 0 then (K4 s p (setA a 0 (upd (a.2 0) (Int32.toNatClampNeg v4) v3)) (v2 + (Int32.ofInt 1)) (v3 + (Int32.ofInt 1))) else (f_X0_listLeaders_26 K4 n s p (setA a 0 (upd (a.2 0) (Int32.toNatClampNeg v4) ((a.2 0) (Int32.toNatClampNeg (v4 - (Int32.ofInt 1)))))) v2 v3 (v4 + (Int32.ofInt (-1)))))
def p_X0_listLeaders_26 (G4 : Rec → Rec → Rec → Int32 → Int32 → Prop) : Nat → Rec → Rec → Rec → Int32 → Int32 → Int32 → Prop
  | 0, _, _, _, _, _, _ => False
  | n + 1, s, p, a, v2, v3, v4 => (v4 ≤ 0 → (vp_in v4 8 ∧ (G4 s p (setA a 0 (upd (a.2 0) (Int32.toNatClampNeg v4) v3)) (v2 + (Int32.ofInt 1)) (v3 + (Int32.ofInt 1))))) ∧ (¬ (v4 ≤ 0) → (vp_in (v4 - (Int32.ofInt 1)) 8 ∧ ((p_X0_liesAhead s p v3 ((a.2 0) (Int32.toNatClampNeg (v4 - (Int32.ofInt 1))))) ∧ (((f_X0_liesAhead s p v3 ((a.2 0) (Int32.toNatClampNeg (v4 - (Int32.ofInt 1))))) = 0 → (vp_in v4 8 ∧ (G4 s p (setA a 0 (upd (a.2 0) (Int32.toNatClampNeg v4) v3)) (v2 + (Int32.ofInt 1)) (v3 + (Int32.ofInt 1))))) ∧ (¬ ((f_X0_liesAhead s p v3 ((a.2 0) (Int32.toNatClampNeg (v4 - (Int32.ofInt 1))))) = 0) → (vp_in (v4 - (Int32.ofInt 1)) 8 ∧ (vp_in v4 8 ∧ (p_X0_listLeaders_26 G4 n s p (setA a 0 (upd (a.2 0) (Int32.toNatClampNeg v4) ((a.2 0) (Int32.toNatClampNeg (v4 - (Int32.ofInt 1)))))) v2 v3 (v4 + (Int32.ofInt (-1)))))))))))
set_option maxHeartbeats 16000000 in
set_option maxRecDepth 20000 in
theorem l_X0_listLeaders_26 (sc : SC) (s : Rec) (p : Rec) {K4 : Rec → Rec → Rec → Int32 → Int32 → Int32 × Rec} {G4 : Rec → Rec → Rec → Int32 → Int32 → Prop} (zq : Int32 × Rec) (hK4 : ∀ (a : Rec) (v2 : Int32) (v3 : Int32), G4 s p a v2 v3 → zq = K4 s p a v2 v3 → Good sc 3 0 0 13 mX0_listLeaders (Ret (some (.int (zq.1))) (wP8 s p (zq.2))) 0 0 4 [some (.ref 0), some (.ref 12), some (.int v2), some (.int v3), none] [] (wP8 s p a)) : ∀ (n : Nat) (a : Rec) (v2 : Int32) (v3 : Int32) (v4 : Int32), p_X0_listLeaders_26 G4 n s p a v2 v3 v4 → zq = f_X0_listLeaders_26 K4 n s p a v2 v3 v4 → Good sc 3 0 0 13 mX0_listLeaders (Ret (some (.int (zq.1))) (wP8 s p (zq.2))) 0 0 26 [some (.ref 0), some (.ref 12), some (.int v2), some (.int v3), some (.int v4)] [] (wP8 s p a) := by
  intro n
  induction n with
  | zero => intro a v2 v3 v4 hp; exact hp.elim
  | succ n ih =>
    intro a v2 v3 v4 hp hq
    unfold p_X0_listLeaders_26 at hp
    unfold f_X0_listLeaders_26 at hq
    refine g_blk hz0 kX0_listLeaders_26 ?_
    refine ⟨fun c3 => ?_, fun c3 => ?_⟩
    · rw [if_pos (show v4 ≤ 0 from c3)] at hq
      replace hp := hp.1 c3
      refine g_blk hz0 kX0_listLeaders_61 ?_
      refine ⟨hp.1, ?_⟩
      replace hp := hp.2
      refine g_blk hz0 kX0_listLeaders_69 ?_
      refine g_le (L2 := [some (.ref 0), some (.ref 12), some (.int (v2 + (Int32.ofInt 1))), some (.int (v3 + (Int32.ofInt 1))), none]) ⟨rfl, rfl, rfl, rfl, trivial⟩ ?_
      exact hK4 (setA a 0 (upd (a.2 0) (Int32.toNatClampNeg v4) v3)) (v2 + (Int32.ofInt 1)) (v3 + (Int32.ofInt 1)) hp hq
    · rw [if_neg (show ¬ (v4 ≤ 0) from c3)] at hq
      replace hp := hp.2 c3
      refine g_blk hz0 kX0_listLeaders_31 ?_
      refine ⟨hp.1, ?_⟩
      replace hp := hp.2
      refine cS [0, 1, 2, 3, 4, 5, 6, 7, 8, 9, 10, 11] (wP s p) (s_X0_liesAhead s p v3 ((a.2 0) (Int32.toNatClampNeg (v4 - (Int32.ofInt 1)))) hp.1) rfl cwX0_liesAhead dX0_listLeaders_39 rfl (hm23_P8_P _ _ _) ((len_P _ _).trans (len_P _ _).symm) (wP8 s p a) (pw36_P8_P _ _ _) ?_
      replace hp := hp.2
      refine g_blk hz0 kX0_listLeaders_42 ?_
      refine ⟨fun c4 => ?_, fun c4 => ?_⟩
      · rw [if_pos (show (f_X0_liesAhead s p v3 ((a.2 0) (Int32.toNatClampNeg (v4 - (Int32.ofInt 1))))) = 0 from c4)] at hq
        replace hp := hp.1 c4
        refine g_blk hz0 kX0_listLeaders_61 ?_
        refine ⟨hp.1, ?_⟩
        replace hp := hp.2
        refine g_blk hz0 kX0_listLeaders_69 ?_
        refine g_le (L2 := [some (.ref 0), some (.ref 12), some (.int (v2 + (Int32.ofInt 1))), some (.int (v3 + (Int32.ofInt 1))), none]) ⟨rfl, rfl, rfl, rfl, trivial⟩ ?_
        exact hK4 (setA a 0 (upd (a.2 0) (Int32.toNatClampNeg v4) v3)) (v2 + (Int32.ofInt 1)) (v3 + (Int32.ofInt 1)) hp hq
      · rw [if_neg (show ¬ ((f_X0_liesAhead s p v3 ((a.2 0) (Int32.toNatClampNeg (v4 - (Int32.ofInt 1))))) = 0) from c4)] at hq
        replace hp := hp.2 c4
        refine g_blk hz0 kX0_listLeaders_45 ?_
        refine ⟨hp.1, ?_⟩
        replace hp := hp.2
        refine ⟨hp.1, ?_⟩
        replace hp := hp.2
        refine g_le (L2 := [some (.ref 0), some (.ref 12), some (.int v2), some (.int v3), some (.int (v4 + (Int32.ofInt (-1))))]) ⟨rfl, rfl, rfl, rfl, rfl, trivial⟩ ?_
        exact ih (setA a 0 (upd (a.2 0) (Int32.toNatClampNeg v4) ((a.2 0) (Int32.toNatClampNeg (v4 - (Int32.ofInt 1)))))) v2 v3 (v4 + (Int32.ofInt (-1))) hp hq
def f_X0_listLeaders_4  : Nat → Rec → Rec → Rec → Int32 → Int32 → Int32 × Rec
  | 0, s, p, a, v2, v3 => (0, a)
  | n + 1, s, p, a, v2, v3 => if (p.1 5) ≤ v3 then (v2, a) else (if (f_X0_leads s p v3) = 0 then (f_X0_listLeaders_4 n s p a v2 (v3 + (Int32.ofInt 1))) else (f_X0_listLeaders_26 (f_X0_listLeaders_4 n) 40 s p a v2 v3 v2))
def p_X0_listLeaders_4  : Nat → Rec → Rec → Rec → Int32 → Int32 → Prop
  | 0, _, _, _, _, _ => False
  | n + 1, s, p, a, v2, v3 => ((p.1 5) ≤ v3 → True) ∧ (¬ ((p.1 5) ≤ v3) → ((p_X0_leads s p v3) ∧ (((f_X0_leads s p v3) = 0 → (p_X0_listLeaders_4 n s p a v2 (v3 + (Int32.ofInt 1)))) ∧ (¬ ((f_X0_leads s p v3) = 0) → (p_X0_listLeaders_26 (p_X0_listLeaders_4 n) 40 s p a v2 v3 v2)))))
set_option maxHeartbeats 16000000 in
set_option maxRecDepth 20000 in
theorem l_X0_listLeaders_4 (sc : SC) (s : Rec) (p : Rec)  (zq : Int32 × Rec)  : ∀ (n : Nat) (a : Rec) (v2 : Int32) (v3 : Int32), p_X0_listLeaders_4 n s p a v2 v3 → zq = f_X0_listLeaders_4 n s p a v2 v3 → Good sc 3 0 0 13 mX0_listLeaders (Ret (some (.int (zq.1))) (wP8 s p (zq.2))) 0 0 4 [some (.ref 0), some (.ref 12), some (.int v2), some (.int v3), none] [] (wP8 s p a) := by
  intro n
  induction n with
  | zero => intro a v2 v3 hp; exact hp.elim
  | succ n ih =>
    intro a v2 v3 hp hq
    unfold p_X0_listLeaders_4 at hp
    unfold f_X0_listLeaders_4 at hq
    refine g_blk hz0 kX0_listLeaders_4 ?_
    refine ⟨fun c1 => ?_, fun c1 => ?_⟩
    · rw [if_pos (show (p.1 5) ≤ v3 from c1)] at hq
      refine g_blk hz0 kX0_listLeaders_75 ?_
      subst hq
      exact ⟨fun h => (by cases h), rfl, rfl⟩
    · rw [if_neg (show ¬ ((p.1 5) ≤ v3) from c1)] at hq
      replace hp := hp.2 c1
      refine g_blk hz0 kX0_listLeaders_12 ?_
      refine cS [0, 1, 2, 3, 4, 5, 6, 7, 8, 9, 10, 11] (wP s p) (s_X0_leads s p v3 hp.1) rfl cwX0_leads dX0_listLeaders_14 rfl (hm23_P8_P _ _ _) ((len_P _ _).trans (len_P _ _).symm) (wP8 s p a) (pw36_P8_P _ _ _) ?_
      replace hp := hp.2
      refine g_blk hz0 kX0_listLeaders_17 ?_
      refine ⟨fun c2 => ?_, fun c2 => ?_⟩
      · rw [if_neg (show ¬ ((f_X0_leads s p v3) = 0) from c2)] at hq
        replace hp := hp.2 c2
        refine g_blk hz0 kX0_listLeaders_23 ?_
        refine g_le (L2 := [some (.ref 0), some (.ref 12), some (.int v2), some (.int v3), some (.int v2)]) ⟨rfl, rfl, rfl, rfl, rfl, trivial⟩ ?_
        exact l_X0_listLeaders_26 sc s p zq (fun r0 r1 r2 hp hq => ih r0 r1 r2 hp hq) 40 a v2 v3 v2 hp hq
      · rw [if_pos (show (f_X0_leads s p v3) = 0 from c2)] at hq
        replace hp := hp.1 c2
        refine g_blk hz0 kX0_listLeaders_20 ?_
        refine g_blk hz0 kX0_listLeaders_69 ?_
        refine g_le (L2 := [some (.ref 0), some (.ref 12), some (.int v2), some (.int (v3 + (Int32.ofInt 1))), none]) ⟨rfl, rfl, rfl, rfl, trivial⟩ ?_
        exact ih a v2 (v3 + (Int32.ofInt 1)) hp hq
def f_X0_listLeaders (s : Rec) (p : Rec) (a : Rec)  : Int32 × Rec := (f_X0_listLeaders_4 40 s p a ((Int32.ofInt 0)) ((Int32.ofInt 0)))
def p_X0_listLeaders (s : Rec) (p : Rec) (a : Rec)  : Prop := (p_X0_listLeaders_4 40 s p a ((Int32.ofInt 0)) ((Int32.ofInt 0)))
set_option maxHeartbeats 16000000 in
set_option maxRecDepth 20000 in
theorem s_X0_listLeaders (s : Rec) (p : Rec) (a : Rec)  (hp : p_X0_listLeaders s p a) : Spec 3 0 0 mX0_listLeaders [.ref 0, .ref 12] (wP8 s p a) (Ret (some (.int ((f_X0_listLeaders s p a).1))) (wP8 s p ((f_X0_listLeaders s p a).2))) := by
  obtain ⟨zq, hq⟩ : ∃ z, z = (f_X0_listLeaders s p a) := ⟨_, rfl⟩
  rw [← hq]
  unfold f_X0_listLeaders at hq
  unfold p_X0_listLeaders at hp
  refine Sof fun sc => ?_
  refine g_blk hz0 kX0_listLeaders_0 ?_
  refine g_le (L2 := [some (.ref 0), some (.ref 12), some (.int (Int32.ofInt 0)), some (.int (Int32.ofInt 0)), none]) ⟨rfl, rfl, rfl, rfl, trivial⟩ ?_
  exact l_X0_listLeaders_4 sc s p zq 40 a ((Int32.ofInt 0)) ((Int32.ofInt 0)) hp hq
