def f_X9_behind_6  : Nat → Rec → Int32 → Int32 → Int32 → Int32
  | 0, m, v1, v2, v3 => 0
  | n + 1, m, v1, v2, v3 => if ((m.2 0) (Int32.toNatClampNeg (Int32.ofInt 2))) ≤ v3 then (if v2 ≤ v1 then (if v1 ≤ v2 then (f_X9_turn m) else (Int32.ofInt 1)) else (Int32.ofInt 0)) else (if (f_X9_isHere m v3) = 0 then (f_X9_behind_6 n m v1 v2 (v3 + (Int32.ofInt 1))) else (if (f_X9_ownerOf m v3) = 0 then (if (f_X9_ownerOf m v3) = (Int32.ofInt 1) then (f_X9_behind_6 n m (v1 + (f_X9_strengthOf m v3)) (v2 + (f_X9_strengthOf m v3)) (v3 + (Int32.ofInt 1))) else (f_X9_behind_6 n m (v1 + (f_X9_strengthOf m v3)) (v2 + (Int32.ofInt 0)) (v3 + (Int32.ofInt 1)))) else (if (f_X9_ownerOf m v3) = (Int32.ofInt 1) then (f_X9_behind_6 n m (v1 + (Int32.ofInt 0)) (v2 + (f_X9_strengthOf m v3)) (v3 + (Int32.ofInt 1))) else (f_X9_behind_6 n m (v1 + (Int32.ofInt 0)) (v2 + (Int32.ofInt 0)) (v3 + (Int32.ofInt 1))))))
def p_X9_behind_6  : Nat → Rec → Int32 → Int32 → Int32 → Prop
  | 0, _, _, _, _ => False
  | n + 1, m, v1, v2, v3 => (((m.2 0) (Int32.toNatClampNeg (Int32.ofInt 2))) ≤ v3 → True) ∧ (¬ (((m.2 0) (Int32.toNatClampNeg (Int32.ofInt 2))) ≤ v3) → ((p_X9_isHere m v3) ∧ (((f_X9_isHere m v3) = 0 → (p_X9_behind_6 n m v1 v2 (v3 + (Int32.ofInt 1)))) ∧ (¬ ((f_X9_isHere m v3) = 0) → ((p_X9_ownerOf m v3) ∧ (((f_X9_ownerOf m v3) = 0 → ((p_X9_strengthOf m v3) ∧ ((p_X9_ownerOf m v3) ∧ (((f_X9_ownerOf m v3) = (Int32.ofInt 1) → ((p_X9_strengthOf m v3) ∧ (p_X9_behind_6 n m (v1 + (f_X9_strengthOf m v3)) (v2 + (f_X9_strengthOf m v3)) (v3 + (Int32.ofInt 1))))) ∧ (¬ ((f_X9_ownerOf m v3) = (Int32.ofInt 1)) → (p_X9_behind_6 n m (v1 + (f_X9_strengthOf m v3)) (v2 + (Int32.ofInt 0)) (v3 + (Int32.ofInt 1)))))))) ∧ (¬ ((f_X9_ownerOf m v3) = 0) → ((p_X9_ownerOf m v3) ∧ (((f_X9_ownerOf m v3) = (Int32.ofInt 1) → ((p_X9_strengthOf m v3) ∧ (p_X9_behind_6 n m (v1 + (Int32.ofInt 0)) (v2 + (f_X9_strengthOf m v3)) (v3 + (Int32.ofInt 1))))) ∧ (¬ ((f_X9_ownerOf m v3) = (Int32.ofInt 1)) → (p_X9_behind_6 n m (v1 + (Int32.ofInt 0)) (v2 + (Int32.ofInt 0)) (v3 + (Int32.ofInt 1)))))))))))))
set_option maxHeartbeats 16000000 in
set_option maxRecDepth 20000 in
theorem l_X9_behind_6 (sc : SC) (m : Rec)  (zq : Int32)  : ∀ (n : Nat)  (v1 : Int32) (v2 : Int32) (v3 : Int32), p_X9_behind_6 n m v1 v2 v3 → zq = f_X9_behind_6 n m v1 v2 v3 → Good sc 2 0 0 17 mX9_behind (Ret (some (.int (zq))) (wM m)) 0 0 6 [some (.ref 0), some (.int v1), some (.int v2), some (.int v3)] [] (wM m) := by
  intro n
  induction n with
  | zero => intro v1 v2 v3 hp; exact hp.elim
  | succ n ih =>
    intro v1 v2 v3 hp hq
    unfold p_X9_behind_6 at hp
    unfold f_X9_behind_6 at hq
    refine g_blk hz0 kX9_behind_6 ?_
    refine ⟨vinL (by decide), ?_⟩
    refine ⟨fun c1 => ?_, fun c1 => ?_⟩
    · rw [if_pos (show ((m.2 0) (Int32.toNatClampNeg (Int32.ofInt 2))) ≤ v3 from c1)] at hq
      refine g_blk hz0 kX9_behind_71 ?_
      refine ⟨fun c2 => ?_, fun c2 => ?_⟩
      · rw [if_pos (show v2 ≤ v1 from c2)] at hq
        refine g_blk hz0 kX9_behind_80 ?_
        refine ⟨fun c3 => ?_, fun c3 => ?_⟩
        · rw [if_pos (show v1 ≤ v2 from c3)] at hq
          refine g_blk hz0 kX9_behind_89 ?_
          refine cVp [0, 1, 2, 3, 4, 5, 6, 7, 8, 9, 10, 11, 12, 13, 14, 15, 16] (wM m) (s_X9_turn m) rfl cwX9_turn dX9_behind_90 rfl rfl (hm0_M_M _) ?_
          refine g_blk hz0 kX9_behind_93 ?_
          subst hq
          exact ⟨fun h => (by cases h), rfl, rfl⟩
        · rw [if_neg (show ¬ (v1 ≤ v2) from c3)] at hq
          refine g_blk hz0 kX9_behind_85 ?_
          refine g_blk hz0 kX9_behind_93 ?_
          subst hq
          exact ⟨fun h => (by cases h), rfl, rfl⟩
      · rw [if_neg (show ¬ (v2 ≤ v1) from c2)] at hq
        refine g_blk hz0 kX9_behind_76 ?_
        refine g_blk hz0 kX9_behind_93 ?_
        subst hq
        exact ⟨fun h => (by cases h), rfl, rfl⟩
    · rw [if_neg (show ¬ (((m.2 0) (Int32.toNatClampNeg (Int32.ofInt 2))) ≤ v3) from c1)] at hq
      replace hp := hp.2 c1
      refine g_blk hz0 kX9_behind_16 ?_
      refine cVp [0, 1, 2, 3, 4, 5, 6, 7, 8, 9, 10, 11, 12, 13, 14, 15, 16] (wM m) (s_X9_isHere m v3 hp.1) rfl cwX9_isHere dX9_behind_18 rfl rfl (hm0_M_M _) ?_
      replace hp := hp.2
      refine g_blk hz0 kX9_behind_21 ?_
      refine ⟨fun c4 => ?_, fun c4 => ?_⟩
      · rw [if_pos (show (f_X9_isHere m v3) = 0 from c4)] at hq
        replace hp := hp.1 c4
        refine g_blk hz0 kX9_behind_65 ?_
        refine g_le (L2 := [some (.ref 0), some (.int v1), some (.int v2), some (.int (v3 + (Int32.ofInt 1)))]) ⟨rfl, rfl, rfl, rfl, trivial⟩ ?_
        exact ih v1 v2 (v3 + (Int32.ofInt 1)) hp hq
      · rw [if_neg (show ¬ ((f_X9_isHere m v3) = 0) from c4)] at hq
        replace hp := hp.2 c4
        refine g_blk hz0 kX9_behind_24 ?_
        refine cVp [0, 1, 2, 3, 4, 5, 6, 7, 8, 9, 10, 11, 12, 13, 14, 15, 16] (wM m) (s_X9_ownerOf m v3 hp.1) rfl cwX9_ownerOf dX9_behind_27 rfl rfl (hm0_M_M _) ?_
        replace hp := hp.2
        refine g_blk hz0 kX9_behind_30 ?_
        refine ⟨fun c5 => ?_, fun c5 => ?_⟩
        · rw [if_neg (show ¬ ((f_X9_ownerOf m v3) = 0) from c5)] at hq
          replace hp := hp.2 c5
          refine g_blk hz0 kX9_behind_41 ?_
          refine g_blk hz0 kX9_behind_42 ?_
          refine cVp [0, 1, 2, 3, 4, 5, 6, 7, 8, 9, 10, 11, 12, 13, 14, 15, 16] (wM m) (s_X9_ownerOf m v3 hp.1) rfl cwX9_ownerOf dX9_behind_47 rfl rfl (hm0_M_M _) ?_
          replace hp := hp.2
          refine g_blk hz0 kX9_behind_50 ?_
          refine ⟨fun c7 => ?_, fun c7 => ?_⟩
          · rw [if_neg (show ¬ ((f_X9_ownerOf m v3) = (Int32.ofInt 1)) from c7)] at hq
            replace hp := hp.2 c7
            refine g_blk hz0 kX9_behind_62 ?_
            refine g_blk hz0 kX9_behind_63 ?_
            refine g_blk hz0 kX9_behind_65 ?_
            refine g_le (L2 := [some (.ref 0), some (.int (v1 + (Int32.ofInt 0))), some (.int (v2 + (Int32.ofInt 0))), some (.int (v3 + (Int32.ofInt 1)))]) ⟨rfl, rfl, rfl, rfl, trivial⟩ ?_
            exact ih (v1 + (Int32.ofInt 0)) (v2 + (Int32.ofInt 0)) (v3 + (Int32.ofInt 1)) hp hq
          · rw [if_pos (show (f_X9_ownerOf m v3) = (Int32.ofInt 1) from c7)] at hq
            replace hp := hp.1 c7
            refine g_blk hz0 kX9_behind_54 ?_
            refine cVp [0, 1, 2, 3, 4, 5, 6, 7, 8, 9, 10, 11, 12, 13, 14, 15, 16] (wM m) (s_X9_strengthOf m v3 hp.1) rfl cwX9_strengthOf dX9_behind_56 rfl rfl (hm0_M_M _) ?_
            replace hp := hp.2
            refine g_blk hz0 kX9_behind_59 ?_
            refine g_blk hz0 kX9_behind_63 ?_
            refine g_blk hz0 kX9_behind_65 ?_
            refine g_le (L2 := [some (.ref 0), some (.int (v1 + (Int32.ofInt 0))), some (.int (v2 + (f_X9_strengthOf m v3))), some (.int (v3 + (Int32.ofInt 1)))]) ⟨rfl, rfl, rfl, rfl, trivial⟩ ?_
            exact ih (v1 + (Int32.ofInt 0)) (v2 + (f_X9_strengthOf m v3)) (v3 + (Int32.ofInt 1)) hp hq
        · rw [if_pos (show (f_X9_ownerOf m v3) = 0 from c5)] at hq
          replace hp := hp.1 c5
          refine g_blk hz0 kX9_behind_33 ?_
          refine cVp [0, 1, 2, 3, 4, 5, 6, 7, 8, 9, 10, 11, 12, 13, 14, 15, 16] (wM m) (s_X9_strengthOf m v3 hp.1) rfl cwX9_strengthOf dX9_behind_35 rfl rfl (hm0_M_M _) ?_
          replace hp := hp.2
          refine g_blk hz0 kX9_behind_38 ?_
          refine g_blk hz0 kX9_behind_42 ?_
          refine cVp [0, 1, 2, 3, 4, 5, 6, 7, 8, 9, 10, 11, 12, 13, 14, 15, 16] (wM m) (s_X9_ownerOf m v3 hp.1) rfl cwX9_ownerOf dX9_behind_47 rfl rfl (hm0_M_M _) ?_
          replace hp := hp.2
          refine g_blk hz0 kX9_behind_50 ?_
          refine ⟨fun c6 => ?_, fun c6 => ?_⟩
          · rw [if_neg (show ¬ ((f_X9_ownerOf m v3) = (Int32.ofInt 1)) from c6)] at hq
            replace hp := hp.2 c6
            refine g_blk hz0 kX9_behind_62 ?_
            refine g_blk hz0 kX9_behind_63 ?_
            refine g_blk hz0 kX9_behind_65 ?_
            refine g_le (L2 := [some (.ref 0), some (.int (v1 + (f_X9_strengthOf m v3))), some (.int (v2 + (Int32.ofInt 0))), some (.int (v3 + (Int32.ofInt 1)))]) ⟨rfl, rfl, rfl, rfl, trivial⟩ ?_
            exact ih (v1 + (f_X9_strengthOf m v3)) (v2 + (Int32.ofInt 0)) (v3 + (Int32.ofInt 1)) hp hq
          · rw [if_pos (show (f_X9_ownerOf m v3) = (Int32.ofInt 1) from c6)] at hq
            replace hp := hp.1 c6
            refine g_blk hz0 kX9_behind_54 ?_
            refine cVp [0, 1, 2, 3, 4, 5, 6, 7, 8, 9, 10, 11, 12, 13, 14, 15, 16] (wM m) (s_X9_strengthOf m v3 hp.1) rfl cwX9_strengthOf dX9_behind_56 rfl rfl (hm0_M_M _) ?_
            replace hp := hp.2
            refine g_blk hz0 kX9_behind_59 ?_
            refine g_blk hz0 kX9_behind_63 ?_
            refine g_blk hz0 kX9_behind_65 ?_
            refine g_le (L2 := [some (.ref 0), some (.int (v1 + (f_X9_strengthOf m v3))), some (.int (v2 + (f_X9_strengthOf m v3))), some (.int (v3 + (Int32.ofInt 1)))]) ⟨rfl, rfl, rfl, rfl, trivial⟩ ?_
            exact ih (v1 + (f_X9_strengthOf m v3)) (v2 + (f_X9_strengthOf m v3)) (v3 + (Int32.ofInt 1)) hp hq
def f_X9_behind (m : Rec)  : Int32 := (f_X9_behind_6 40 m ((Int32.ofInt 0)) ((Int32.ofInt 0)) ((Int32.ofInt 0)))
def p_X9_behind (m : Rec)  : Prop := (p_X9_behind_6 40 m ((Int32.ofInt 0)) ((Int32.ofInt 0)) ((Int32.ofInt 0)))
set_option maxHeartbeats 16000000 in
set_option maxRecDepth 20000 in
theorem s_X9_behind (m : Rec)  (hp : p_X9_behind m) : Spec 2 0 0 mX9_behind [.ref 0] (wM m) (Ret (some (.int ((f_X9_behind m)))) (wM m)) := by
  obtain ⟨zq, hq⟩ : ∃ z, z = (f_X9_behind m) := ⟨_, rfl⟩
  rw [← hq]
  unfold f_X9_behind at hq
  unfold p_X9_behind at hp
  refine Sof fun sc => ?_
  refine g_blk hz0 kX9_behind_0 ?_
  refine g_le (L2 := [some (.ref 0), some (.int (Int32.ofInt 0)), some (.int (Int32.ofInt 0)), some (.int (Int32.ofInt 0))]) ⟨rfl, rfl, rfl, rfl, trivial⟩ ?_
  exact l_X9_behind_6 sc m zq 40 ((Int32.ofInt 0)) ((Int32.ofInt 0)) ((Int32.ofInt 0)) hp hq
