def f_X9_won_116  (m : Rec) (v1 : Int32) (v2 : Int32) : Int32 := if v2 ≤ 0 then (Int32.ofInt (-1)) else (if v1 = 0 then (Int32.ofInt 1) else (Int32.ofInt (-1)))
def p_X9_won_116  (m : Rec) (v1 : Int32) (v2 : Int32) : Prop := True
set_option maxHeartbeats 16000000 in
set_option maxRecDepth 20000 in
theorem l_X9_won_116 (sc : SC) (m : Rec)  (zq : Int32)   (v1 : Int32) (v2 : Int32) (hp : p_X9_won_116 m v1 v2) (hq : zq = f_X9_won_116 m v1 v2) : Good sc 2 0 0 17 mX9_won (Ret (some (.int (zq))) (wM m)) 0 0 116 [none, some (.int v1), some (.int v2), none, none] [] (wM m) := by
  unfold p_X9_won_116 at hp
  unfold f_X9_won_116 at hq
  refine g_blk hz0 kX9_won_116 ?_
  refine ⟨fun c7 => ?_, fun c7 => ?_⟩
  · rw [if_pos (show v2 ≤ 0 from c7)] at hq
    refine g_blk hz0 kX9_won_128 ?_
    refine g_blk hz0 kX9_won_129 ?_
    subst hq
    exact ⟨fun h => (by cases h), rfl, rfl⟩
  · rw [if_neg (show ¬ (v2 ≤ 0) from c7)] at hq
    refine g_blk hz0 kX9_won_120 ?_
    refine ⟨fun c8 => ?_, fun c8 => ?_⟩
    · rw [if_neg (show ¬ (v1 = 0) from c8)] at hq
      refine g_blk hz0 kX9_won_128 ?_
      refine g_blk hz0 kX9_won_129 ?_
      subst hq
      exact ⟨fun h => (by cases h), rfl, rfl⟩
    · rw [if_pos (show v1 = 0 from c8)] at hq
      refine g_blk hz0 kX9_won_124 ?_
      refine g_blk hz0 kX9_won_129 ?_
      subst hq
      exact ⟨fun h => (by cases h), rfl, rfl⟩
def f_X9_won_71 (K9 : Rec → Int32 → Int32 → Int32 → Int32 → Int32) (m : Rec) (v1 : Int32) (v3 : Int32) (v4 : Int32) (u0 : Int32) (u1 : Int32) : Int32 := if (f_X9_isHere m v4) = 0 then (K9 m v1 (u0 + u1) (v3 + (Int32.ofInt 1)) (v4 + (Int32.ofInt 1))) else (K9 m v1 (u0 + u1) (v3 + (Int32.ofInt 0)) (v4 + (Int32.ofInt 1)))
def p_X9_won_71 (G9 : Rec → Int32 → Int32 → Int32 → Int32 → Prop) (m : Rec) (v1 : Int32) (v3 : Int32) (v4 : Int32) (u0 : Int32) (u1 : Int32) : Prop := (p_X9_isHere m v4) ∧ (((f_X9_isHere m v4) = 0 → (G9 m v1 (u0 + u1) (v3 + (Int32.ofInt 1)) (v4 + (Int32.ofInt 1)))) ∧ (¬ ((f_X9_isHere m v4) = 0) → (G9 m v1 (u0 + u1) (v3 + (Int32.ofInt 0)) (v4 + (Int32.ofInt 1)))))
set_option maxHeartbeats 16000000 in
set_option maxRecDepth 20000 in
theorem l_X9_won_71 (sc : SC) (m : Rec) {K9 : Rec → Int32 → Int32 → Int32 → Int32 → Int32} {G9 : Rec → Int32 → Int32 → Int32 → Int32 → Prop} (zq : Int32) (hK9 : ∀ (v1 : Int32) (v2 : Int32) (v3 : Int32) (v4 : Int32), G9 m v1 v2 v3 v4 → zq = K9 m v1 v2 v3 v4 → Good sc 2 0 0 17 mX9_won (Ret (some (.int (zq))) (wM m)) 0 0 9 [some (.ref 0), some (.int v1), some (.int v2), some (.int v3), some (.int v4)] [] (wM m))  (v1 : Int32) (v3 : Int32) (v4 : Int32) (u0 : Int32) (u1 : Int32) (hp : p_X9_won_71 G9 m v1 v3 v4 u0 u1) (hq : zq = f_X9_won_71 K9 m v1 v3 v4 u0 u1) : Good sc 2 0 0 17 mX9_won (Ret (some (.int (zq))) (wM m)) 0 0 71 [some (.ref 0), some (.int v1), none, some (.int v3), some (.int v4)] [.int u1, .int u0] (wM m) := by
  unfold p_X9_won_71 at hp
  unfold f_X9_won_71 at hq
  refine g_blk hz0 kX9_won_71 ?_
  refine cVp [0, 1, 2, 3, 4, 5, 6, 7, 8, 9, 10, 11, 12, 13, 14, 15, 16] (wM m) (s_X9_isHere m v4 hp.1) rfl cwX9_isHere dX9_won_77 rfl rfl (hm0_M_M _) ?_
  replace hp := hp.2
  refine g_blk hz0 kX9_won_80 ?_
  refine ⟨fun c11 => ?_, fun c11 => ?_⟩
  · rw [if_pos (show (f_X9_isHere m v4) = 0 from c11)] at hq
    replace hp := hp.1 c11
    refine g_blk hz0 kX9_won_87 ?_
    refine g_blk hz0 kX9_won_88 ?_
    refine g_le (L2 := [some (.ref 0), some (.int v1), some (.int (u0 + u1)), some (.int (v3 + (Int32.ofInt 1))), some (.int (v4 + (Int32.ofInt 1)))]) ⟨rfl, rfl, rfl, rfl, rfl, trivial⟩ ?_
    exact hK9 v1 (u0 + u1) (v3 + (Int32.ofInt 1)) (v4 + (Int32.ofInt 1)) hp hq
  · rw [if_neg (show ¬ ((f_X9_isHere m v4) = 0) from c11)] at hq
    replace hp := hp.2 c11
    refine g_blk hz0 kX9_won_83 ?_
    refine g_blk hz0 kX9_won_88 ?_
    refine g_le (L2 := [some (.ref 0), some (.int v1), some (.int (u0 + u1)), some (.int (v3 + (Int32.ofInt 0))), some (.int (v4 + (Int32.ofInt 1)))]) ⟨rfl, rfl, rfl, rfl, rfl, trivial⟩ ?_
    exact hK9 v1 (u0 + u1) (v3 + (Int32.ofInt 0)) (v4 + (Int32.ofInt 1)) hp hq
def f_X9_won_44 (K9 : Rec → Int32 → Int32 → Int32 → Int32 → Int32) (m : Rec) (v2 : Int32) (v3 : Int32) (v4 : Int32) (u0 : Int32) (u1 : Int32) : Int32 := if (f_X9_isHere m v4) = 0 then (f_X9_won_71 K9 m (u0 + u1) v3 v4 v2 ((Int32.ofInt 0))) else (if (f_X9_ownerOf m v4) = (Int32.ofInt 1) then (f_X9_won_71 K9 m (u0 + u1) v3 v4 v2 ((Int32.ofInt 1))) else (f_X9_won_71 K9 m (u0 + u1) v3 v4 v2 ((Int32.ofInt 0))))
def p_X9_won_44 (G9 : Rec → Int32 → Int32 → Int32 → Int32 → Prop) (m : Rec) (v2 : Int32) (v3 : Int32) (v4 : Int32) (u0 : Int32) (u1 : Int32) : Prop := (p_X9_isHere m v4) ∧ (((f_X9_isHere m v4) = 0 → (p_X9_won_71 G9 m (u0 + u1) v3 v4 v2 ((Int32.ofInt 0)))) ∧ (¬ ((f_X9_isHere m v4) = 0) → ((p_X9_ownerOf m v4) ∧ (((f_X9_ownerOf m v4) = (Int32.ofInt 1) → (p_X9_won_71 G9 m (u0 + u1) v3 v4 v2 ((Int32.ofInt 1)))) ∧ (¬ ((f_X9_ownerOf m v4) = (Int32.ofInt 1)) → (p_X9_won_71 G9 m (u0 + u1) v3 v4 v2 ((Int32.ofInt 0))))))))
set_option maxHeartbeats 16000000 in
set_option maxRecDepth 20000 in
theorem l_X9_won_44 (sc : SC) (m : Rec) {K9 : Rec → Int32 → Int32 → Int32 → Int32 → Int32} {G9 : Rec → Int32 → Int32 → Int32 → Int32 → Prop} (zq : Int32) (hK9 : ∀ (v1 : Int32) (v2 : Int32) (v3 : Int32) (v4 : Int32), G9 m v1 v2 v3 v4 → zq = K9 m v1 v2 v3 v4 → Good sc 2 0 0 17 mX9_won (Ret (some (.int (zq))) (wM m)) 0 0 9 [some (.ref 0), some (.int v1), some (.int v2), some (.int v3), some (.int v4)] [] (wM m))  (v2 : Int32) (v3 : Int32) (v4 : Int32) (u0 : Int32) (u1 : Int32) (hp : p_X9_won_44 G9 m v2 v3 v4 u0 u1) (hq : zq = f_X9_won_44 K9 m v2 v3 v4 u0 u1) : Good sc 2 0 0 17 mX9_won (Ret (some (.int (zq))) (wM m)) 0 0 44 [some (.ref 0), none, some (.int v2), some (.int v3), some (.int v4)] [.int u1, .int u0] (wM m) := by
  unfold p_X9_won_44 at hp
  unfold f_X9_won_44 at hq
  refine g_blk hz0 kX9_won_44 ?_
  refine cVp [0, 1, 2, 3, 4, 5, 6, 7, 8, 9, 10, 11, 12, 13, 14, 15, 16] (wM m) (s_X9_isHere m v4 hp.1) rfl cwX9_isHere dX9_won_50 rfl rfl (hm0_M_M _) ?_
  replace hp := hp.2
  refine g_blk hz0 kX9_won_53 ?_
  refine ⟨fun c9 => ?_, fun c9 => ?_⟩
  · rw [if_pos (show (f_X9_isHere m v4) = 0 from c9)] at hq
    replace hp := hp.1 c9
    refine g_blk hz0 kX9_won_70 ?_
    refine g_le (L2 := [some (.ref 0), some (.int (u0 + u1)), none, some (.int v3), some (.int v4)]) ⟨rfl, rfl, rfl, rfl, trivial⟩ ?_
    exact l_X9_won_71 sc m zq hK9 (u0 + u1) v3 v4 v2 ((Int32.ofInt 0)) hp hq
  · rw [if_neg (show ¬ ((f_X9_isHere m v4) = 0) from c9)] at hq
    replace hp := hp.2 c9
    refine g_blk hz0 kX9_won_56 ?_
    refine cVp [0, 1, 2, 3, 4, 5, 6, 7, 8, 9, 10, 11, 12, 13, 14, 15, 16] (wM m) (s_X9_ownerOf m v4 hp.1) rfl cwX9_ownerOf dX9_won_59 rfl rfl (hm0_M_M _) ?_
    replace hp := hp.2
    refine g_blk hz0 kX9_won_62 ?_
    refine ⟨fun c10 => ?_, fun c10 => ?_⟩
    · rw [if_neg (show ¬ ((f_X9_ownerOf m v4) = (Int32.ofInt 1)) from c10)] at hq
      replace hp := hp.2 c10
      refine g_blk hz0 kX9_won_70 ?_
      refine g_le (L2 := [some (.ref 0), some (.int (u0 + u1)), none, some (.int v3), some (.int v4)]) ⟨rfl, rfl, rfl, rfl, trivial⟩ ?_
      exact l_X9_won_71 sc m zq hK9 (u0 + u1) v3 v4 v2 ((Int32.ofInt 0)) hp hq
    · rw [if_pos (show (f_X9_ownerOf m v4) = (Int32.ofInt 1) from c10)] at hq
      replace hp := hp.1 c10
      refine g_blk hz0 kX9_won_66 ?_
      refine g_le (L2 := [some (.ref 0), some (.int (u0 + u1)), none, some (.int v3), some (.int v4)]) ⟨rfl, rfl, rfl, rfl, trivial⟩ ?_
      exact l_X9_won_71 sc m zq hK9 (u0 + u1) v3 v4 v2 ((Int32.ofInt 1)) hp hq
def f_X9_won_9  : Nat → Rec → Int32 → Int32 → Int32 → Int32 → Int32
  | 0, m, v1, v2, v3, v4 => 0
  | n + 1, m, v1, v2, v3, v4 => if ((m.2 0) (Int32.toNatClampNeg (Int32.ofInt 2))) ≤ v4 then (if v3 = 0 then (Int32.ofInt (-1)) else (if v1 ≤ 0 then (f_X9_won_116 m v1 v2) else (if v2 = 0 then (Int32.ofInt 0) else (f_X9_won_116 m v1 v2)))) else (if (f_X9_isHere m v4) = 0 then (f_X9_won_44 (f_X9_won_9 n) m v2 v3 v4 v1 ((Int32.ofInt 0))) else (if (f_X9_ownerOf m v4) = 0 then (f_X9_won_44 (f_X9_won_9 n) m v2 v3 v4 v1 ((Int32.ofInt 1))) else (f_X9_won_44 (f_X9_won_9 n) m v2 v3 v4 v1 ((Int32.ofInt 0)))))
def p_X9_won_9  : Nat → Rec → Int32 → Int32 → Int32 → Int32 → Prop
  | 0, _, _, _, _, _ => False
  | n + 1, m, v1, v2, v3, v4 => (((m.2 0) (Int32.toNatClampNeg (Int32.ofInt 2))) ≤ v4 → ((v3 = 0 → True) ∧ (¬ (v3 = 0) → ((v1 ≤ 0 → (p_X9_won_116 m v1 v2)) ∧ (¬ (v1 ≤ 0) → ((v2 = 0 → True) ∧ (¬ (v2 = 0) → (p_X9_won_116 m v1 v2)))))))) ∧ (¬ (((m.2 0) (Int32.toNatClampNeg (Int32.ofInt 2))) ≤ v4) → ((p_X9_isHere m v4) ∧ (((f_X9_isHere m v4) = 0 → (p_X9_won_44 (p_X9_won_9 n) m v2 v3 v4 v1 ((Int32.ofInt 0)))) ∧ (¬ ((f_X9_isHere m v4) = 0) → ((p_X9_ownerOf m v4) ∧ (((f_X9_ownerOf m v4) = 0 → (p_X9_won_44 (p_X9_won_9 n) m v2 v3 v4 v1 ((Int32.ofInt 1)))) ∧ (¬ ((f_X9_ownerOf m v4) = 0) → (p_X9_won_44 (p_X9_won_9 n) m v2 v3 v4 v1 ((Int32.ofInt 0))))))))))
set_option maxHeartbeats 16000000 in
set_option maxRecDepth 20000 in
theorem l_X9_won_9 (sc : SC) (m : Rec)  (zq : Int32)  : ∀ (n : Nat)  (v1 : Int32) (v2 : Int32) (v3 : Int32) (v4 : Int32), p_X9_won_9 n m v1 v2 v3 v4 → zq = f_X9_won_9 n m v1 v2 v3 v4 → Good sc 2 0 0 17 mX9_won (Ret (some (.int (zq))) (wM m)) 0 0 9 [some (.ref 0), some (.int v1), some (.int v2), some (.int v3), some (.int v4)] [] (wM m) := by
  intro n
  induction n with
  | zero => intro v1 v2 v3 v4 hp; exact hp.elim
  | succ n ih =>
    intro v1 v2 v3 v4 hp hq
    unfold p_X9_won_9 at hp
    unfold f_X9_won_9 at hq
    refine g_blk hz0 kX9_won_9 ?_
    refine ⟨vinL (by decide), ?_⟩
    refine ⟨fun c1 => ?_, fun c1 => ?_⟩
    · rw [if_pos (show ((m.2 0) (Int32.toNatClampNeg (Int32.ofInt 2))) ≤ v4 from c1)] at hq
      replace hp := hp.1 c1
      refine g_blk hz0 kX9_won_96 ?_
      refine ⟨fun c2 => ?_, fun c2 => ?_⟩
      · rw [if_neg (show ¬ (v3 = 0) from c2)] at hq
        replace hp := hp.2 c2
        refine g_blk hz0 kX9_won_104 ?_
        refine ⟨fun c3 => ?_, fun c3 => ?_⟩
        · rw [if_pos (show v1 ≤ 0 from c3)] at hq
          replace hp := hp.1 c3
          refine g_le (L2 := [none, some (.int v1), some (.int v2), none, none]) ⟨rfl, rfl, trivial⟩ ?_
          exact l_X9_won_116 sc m zq v1 v2 hp hq
        · rw [if_neg (show ¬ (v1 ≤ 0) from c3)] at hq
          replace hp := hp.2 c3
          refine g_blk hz0 kX9_won_108 ?_
          refine ⟨fun c4 => ?_, fun c4 => ?_⟩
          · rw [if_neg (show ¬ (v2 = 0) from c4)] at hq
            replace hp := hp.2 c4
            refine g_le (L2 := [none, some (.int v1), some (.int v2), none, none]) ⟨rfl, rfl, trivial⟩ ?_
            exact l_X9_won_116 sc m zq v1 v2 hp hq
          · rw [if_pos (show v2 = 0 from c4)] at hq
            refine g_blk hz0 kX9_won_112 ?_
            refine g_blk hz0 kX9_won_129 ?_
            subst hq
            exact ⟨fun h => (by cases h), rfl, rfl⟩
      · rw [if_pos (show v3 = 0 from c2)] at hq
        refine g_blk hz0 kX9_won_100 ?_
        refine g_blk hz0 kX9_won_129 ?_
        subst hq
        exact ⟨fun h => (by cases h), rfl, rfl⟩
    · rw [if_neg (show ¬ (((m.2 0) (Int32.toNatClampNeg (Int32.ofInt 2))) ≤ v4) from c1)] at hq
      replace hp := hp.2 c1
      refine g_blk hz0 kX9_won_20 ?_
      refine cVp [0, 1, 2, 3, 4, 5, 6, 7, 8, 9, 10, 11, 12, 13, 14, 15, 16] (wM m) (s_X9_isHere m v4 hp.1) rfl cwX9_isHere dX9_won_24 rfl rfl (hm0_M_M _) ?_
      replace hp := hp.2
      refine g_blk hz0 kX9_won_27 ?_
      refine ⟨fun c5 => ?_, fun c5 => ?_⟩
      · rw [if_pos (show (f_X9_isHere m v4) = 0 from c5)] at hq
        replace hp := hp.1 c5
        refine g_blk hz0 kX9_won_43 ?_
        refine g_le (L2 := [some (.ref 0), none, some (.int v2), some (.int v3), some (.int v4)]) ⟨rfl, rfl, rfl, rfl, trivial⟩ ?_
        exact l_X9_won_44 sc m zq (fun r0 r1 r2 r3 hp hq => ih r0 r1 r2 r3 hp hq) v2 v3 v4 v1 ((Int32.ofInt 0)) hp hq
      · rw [if_neg (show ¬ ((f_X9_isHere m v4) = 0) from c5)] at hq
        replace hp := hp.2 c5
        refine g_blk hz0 kX9_won_30 ?_
        refine cVp [0, 1, 2, 3, 4, 5, 6, 7, 8, 9, 10, 11, 12, 13, 14, 15, 16] (wM m) (s_X9_ownerOf m v4 hp.1) rfl cwX9_ownerOf dX9_won_33 rfl rfl (hm0_M_M _) ?_
        replace hp := hp.2
        refine g_blk hz0 kX9_won_36 ?_
        refine ⟨fun c6 => ?_, fun c6 => ?_⟩
        · rw [if_neg (show ¬ ((f_X9_ownerOf m v4) = 0) from c6)] at hq
          replace hp := hp.2 c6
          refine g_blk hz0 kX9_won_43 ?_
          refine g_le (L2 := [some (.ref 0), none, some (.int v2), some (.int v3), some (.int v4)]) ⟨rfl, rfl, rfl, rfl, trivial⟩ ?_
          exact l_X9_won_44 sc m zq (fun r0 r1 r2 r3 hp hq => ih r0 r1 r2 r3 hp hq) v2 v3 v4 v1 ((Int32.ofInt 0)) hp hq
        · rw [if_pos (show (f_X9_ownerOf m v4) = 0 from c6)] at hq
          replace hp := hp.1 c6
          refine g_blk hz0 kX9_won_39 ?_
          refine g_le (L2 := [some (.ref 0), none, some (.int v2), some (.int v3), some (.int v4)]) ⟨rfl, rfl, rfl, rfl, trivial⟩ ?_
          exact l_X9_won_44 sc m zq (fun r0 r1 r2 r3 hp hq => ih r0 r1 r2 r3 hp hq) v2 v3 v4 v1 ((Int32.ofInt 1)) hp hq
def f_X9_won (m : Rec)  : Int32 := (f_X9_won_9 40 m ((Int32.ofInt 0)) ((Int32.ofInt 0)) ((Int32.ofInt 0)) ((Int32.ofInt 0)))
def p_X9_won (m : Rec)  : Prop := (p_X9_won_9 40 m ((Int32.ofInt 0)) ((Int32.ofInt 0)) ((Int32.ofInt 0)) ((Int32.ofInt 0)))
set_option maxHeartbeats 16000000 in
set_option maxRecDepth 20000 in
theorem s_X9_won (m : Rec)  (hp : p_X9_won m) : Spec 2 0 0 mX9_won [.ref 0] (wM m) (Ret (some (.int ((f_X9_won m)))) (wM m)) := by
  obtain ⟨zq, hq⟩ : ∃ z, z = (f_X9_won m) := ⟨_, rfl⟩
  rw [← hq]
  unfold f_X9_won at hq
  unfold p_X9_won at hp
  refine Sof fun sc => ?_
  refine g_blk hz0 kX9_won_0 ?_
  refine g_le (L2 := [some (.ref 0), some (.int (Int32.ofInt 0)), some (.int (Int32.ofInt 0)), some (.int (Int32.ofInt 0)), some (.int (Int32.ofInt 0))]) ⟨rfl, rfl, rfl, rfl, rfl, trivial⟩ ?_
  exact l_X9_won_9 sc m zq 40 ((Int32.ofInt 0)) ((Int32.ofInt 0)) ((Int32.ofInt 0)) ((Int32.ofInt 0)) hp hq
