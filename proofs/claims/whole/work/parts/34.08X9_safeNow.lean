def f_X9_safeNow_4  : Nat → Rec → Int32 → Int32 → Int32
  | 0, m, v1, v2 => 0
  | n + 1, m, v1, v2 => if ((m.2 0) (Int32.toNatClampNeg (Int32.ofInt 2))) ≤ v2 then v1 else (if (f_X9_isHere m v2) = 0 then (f_X9_safeNow_4 n m v1 (v2 + (Int32.ofInt 1))) else (if (f_X9_ownerOf m (f_X9_rulerAt m ((m.2 4) (Int32.toNatClampNeg ((m.2 0) (Int32.toNatClampNeg ((Int32.ofInt 8) + v2))))) ((m.2 5) (Int32.toNatClampNeg ((m.2 0) (Int32.toNatClampNeg ((Int32.ofInt 8) + v2))))))) = (f_X9_ownerOf m v2) then (f_X9_safeNow_4 n m (v1 ||| ((Int32.ofInt 1) <<< (v2 &&& 31))) (v2 + (Int32.ofInt 1))) else (f_X9_safeNow_4 n m (v1 ||| (Int32.ofInt 0)) (v2 + (Int32.ofInt 1)))))
def p_X9_safeNow_4  : Nat → Rec → Int32 → Int32 → Prop
  | 0, _, _, _ => False
  | n + 1, m, v1, v2 => (((m.2 0) (Int32.toNatClampNeg (Int32.ofInt 2))) ≤ v2 → True) ∧ (¬ (((m.2 0) (Int32.toNatClampNeg (Int32.ofInt 2))) ≤ v2) → ((p_X9_isHere m v2) ∧ (((f_X9_isHere m v2) = 0 → (p_X9_safeNow_4 n m v1 (v2 + (Int32.ofInt 1)))) ∧ (¬ ((f_X9_isHere m v2) = 0) → (vp_in ((Int32.ofInt 8) + v2) 248 ∧ (vp_in ((m.2 0) (Int32.toNatClampNeg ((Int32.ofInt 8) + v2))) 36 ∧ (vp_in ((Int32.ofInt 8) + v2) 248 ∧ (vp_in ((m.2 0) (Int32.toNatClampNeg ((Int32.ofInt 8) + v2))) 36 ∧ ((p_X9_rulerAt m ((m.2 4) (Int32.toNatClampNeg ((m.2 0) (Int32.toNatClampNeg ((Int32.ofInt 8) + v2))))) ((m.2 5) (Int32.toNatClampNeg ((m.2 0) (Int32.toNatClampNeg ((Int32.ofInt 8) + v2)))))) ∧ ((p_X9_ownerOf m (f_X9_rulerAt m ((m.2 4) (Int32.toNatClampNeg ((m.2 0) (Int32.toNatClampNeg ((Int32.ofInt 8) + v2))))) ((m.2 5) (Int32.toNatClampNeg ((m.2 0) (Int32.toNatClampNeg ((Int32.ofInt 8) + v2))))))) ∧ ((p_X9_ownerOf m v2) ∧ (((f_X9_ownerOf m (f_X9_rulerAt m ((m.2 4) (Int32.toNatClampNeg ((m.2 0) (Int32.toNatClampNeg ((Int32.ofInt 8) + v2))))) ((m.2 5) (Int32.toNatClampNeg ((m.2 0) (Int32.toNatClampNeg ((Int32.ofInt 8) + v2))))))) = (f_X9_ownerOf m v2) → (p_X9_safeNow_4 n m (v1 ||| ((Int32.ofInt 1) <<< (v2 &&& 31))) (v2 + (Int32.ofInt 1)))) ∧ (¬ ((f_X9_ownerOf m (f_X9_rulerAt m ((m.2 4) (Int32.toNatClampNeg ((m.2 0) (Int32.toNatClampNeg ((Int32.ofInt 8) + v2))))) ((m.2 5) (Int32.toNatClampNeg ((m.2 0) (Int32.toNatClampNeg ((Int32.ofInt 8) + v2))))))) = (f_X9_ownerOf m v2)) → (p_X9_safeNow_4 n m (v1 ||| (Int32.ofInt 0)) (v2 + (Int32.ofInt 1))))))))))))))))
set_option maxHeartbeats 16000000 in
set_option maxRecDepth 20000 in
theorem l_X9_safeNow_4 (sc : SC) (m : Rec)  (zq : Int32)  : ∀ (n : Nat)  (v1 : Int32) (v2 : Int32), p_X9_safeNow_4 n m v1 v2 → zq = f_X9_safeNow_4 n m v1 v2 → Good sc 4 0 0 17 mX9_safeNow (Ret (some (.int (zq))) (wM m)) 0 0 4 [some (.ref 0), some (.int v1), some (.int v2)] [] (wM m) := by
  intro n
  induction n with
  | zero => intro v1 v2 hp; exact hp.elim
  | succ n ih =>
    intro v1 v2 hp hq
    unfold p_X9_safeNow_4 at hp
    unfold f_X9_safeNow_4 at hq
    refine g_blk hz0 kX9_safeNow_4 ?_
    refine ⟨vinL (by decide), ?_⟩
    refine ⟨fun c1 => ?_, fun c1 => ?_⟩
    · rw [if_pos (show ((m.2 0) (Int32.toNatClampNeg (Int32.ofInt 2))) ≤ v2 from c1)] at hq
      refine g_blk hz0 kX9_safeNow_82 ?_
      subst hq
      exact ⟨fun h => (by cases h), rfl, rfl⟩
    · rw [if_neg (show ¬ (((m.2 0) (Int32.toNatClampNeg (Int32.ofInt 2))) ≤ v2) from c1)] at hq
      replace hp := hp.2 c1
      refine g_blk hz0 kX9_safeNow_14 ?_
      refine cVp [0, 1, 2, 3, 4, 5, 6, 7, 8, 9, 10, 11, 12, 13, 14, 15, 16] (wM m) (s_X9_isHere m v2 hp.1) rfl cwX9_isHere dX9_safeNow_16 rfl rfl (hm0_M_M _) ?_
      replace hp := hp.2
      refine g_blk hz0 kX9_safeNow_19 ?_
      refine ⟨fun c2 => ?_, fun c2 => ?_⟩
      · rw [if_pos (show (f_X9_isHere m v2) = 0 from c2)] at hq
        replace hp := hp.1 c2
        refine g_blk hz0 kX9_safeNow_76 ?_
        refine g_le (L2 := [some (.ref 0), some (.int v1), some (.int (v2 + (Int32.ofInt 1)))]) ⟨rfl, rfl, rfl, trivial⟩ ?_
        exact ih v1 (v2 + (Int32.ofInt 1)) hp hq
      · rw [if_neg (show ¬ ((f_X9_isHere m v2) = 0) from c2)] at hq
        replace hp := hp.2 c2
        refine g_blk hz0 kX9_safeNow_22 ?_
        refine ⟨hp.1, ?_⟩
        replace hp := hp.2
        refine ⟨hp.1, ?_⟩
        replace hp := hp.2
        refine ⟨hp.1, ?_⟩
        replace hp := hp.2
        refine ⟨hp.1, ?_⟩
        replace hp := hp.2
        refine cVp [0, 1, 2, 3, 4, 5, 6, 7, 8, 9, 10, 11, 12, 13, 14, 15, 16] (wM m) (s_X9_rulerAt m ((m.2 4) (Int32.toNatClampNeg ((m.2 0) (Int32.toNatClampNeg ((Int32.ofInt 8) + v2))))) ((m.2 5) (Int32.toNatClampNeg ((m.2 0) (Int32.toNatClampNeg ((Int32.ofInt 8) + v2))))) hp.1) rfl cwX9_rulerAt dX9_safeNow_53 rfl rfl (hm0_M_M _) ?_
        replace hp := hp.2
        refine cVp [0, 1, 2, 3, 4, 5, 6, 7, 8, 9, 10, 11, 12, 13, 14, 15, 16] (wM m) (s_X9_ownerOf m (f_X9_rulerAt m ((m.2 4) (Int32.toNatClampNeg ((m.2 0) (Int32.toNatClampNeg ((Int32.ofInt 8) + v2))))) ((m.2 5) (Int32.toNatClampNeg ((m.2 0) (Int32.toNatClampNeg ((Int32.ofInt 8) + v2)))))) hp.1) rfl cwX9_ownerOf dX9_safeNow_56 rfl rfl (hm0_M_M _) ?_
        replace hp := hp.2
        refine g_blk hz0 kX9_safeNow_59 ?_
        refine cVp [0, 1, 2, 3, 4, 5, 6, 7, 8, 9, 10, 11, 12, 13, 14, 15, 16] (wM m) (s_X9_ownerOf m v2 hp.1) rfl cwX9_ownerOf dX9_safeNow_61 rfl rfl (hm0_M_M _) ?_
        replace hp := hp.2
        refine g_blk hz0 kX9_safeNow_64 ?_
        refine ⟨fun c3 => ?_, fun c3 => ?_⟩
        · rw [if_neg (show ¬ ((f_X9_ownerOf m (f_X9_rulerAt m ((m.2 4) (Int32.toNatClampNeg ((m.2 0) (Int32.toNatClampNeg ((Int32.ofInt 8) + v2))))) ((m.2 5) (Int32.toNatClampNeg ((m.2 0) (Int32.toNatClampNeg ((Int32.ofInt 8) + v2))))))) = (f_X9_ownerOf m v2)) from c3)] at hq
          replace hp := hp.2 c3
          refine g_blk hz0 kX9_safeNow_73 ?_
          refine g_blk hz0 kX9_safeNow_74 ?_
          refine g_blk hz0 kX9_safeNow_76 ?_
          refine g_le (L2 := [some (.ref 0), some (.int (v1 ||| (Int32.ofInt 0))), some (.int (v2 + (Int32.ofInt 1)))]) ⟨rfl, rfl, rfl, trivial⟩ ?_
          exact ih (v1 ||| (Int32.ofInt 0)) (v2 + (Int32.ofInt 1)) hp hq
        · rw [if_pos (show (f_X9_ownerOf m (f_X9_rulerAt m ((m.2 4) (Int32.toNatClampNeg ((m.2 0) (Int32.toNatClampNeg ((Int32.ofInt 8) + v2))))) ((m.2 5) (Int32.toNatClampNeg ((m.2 0) (Int32.toNatClampNeg ((Int32.ofInt 8) + v2))))))) = (f_X9_ownerOf m v2) from c3)] at hq
          replace hp := hp.1 c3
          refine g_blk hz0 kX9_safeNow_67 ?_
          refine g_blk hz0 kX9_safeNow_74 ?_
          refine g_blk hz0 kX9_safeNow_76 ?_
          refine g_le (L2 := [some (.ref 0), some (.int (v1 ||| ((Int32.ofInt 1) <<< (v2 &&& 31)))), some (.int (v2 + (Int32.ofInt 1)))]) ⟨rfl, rfl, rfl, trivial⟩ ?_
          exact ih (v1 ||| ((Int32.ofInt 1) <<< (v2 &&& 31))) (v2 + (Int32.ofInt 1)) hp hq
def f_X9_safeNow (m : Rec)  : Int32 := (f_X9_safeNow_4 40 m ((Int32.ofInt 0)) ((Int32.ofInt 0)))
def p_X9_safeNow (m : Rec)  : Prop := (p_X9_safeNow_4 40 m ((Int32.ofInt 0)) ((Int32.ofInt 0)))
set_option maxHeartbeats 16000000 in
set_option maxRecDepth 20000 in
theorem s_X9_safeNow (m : Rec)  (hp : p_X9_safeNow m) : Spec 4 0 0 mX9_safeNow [.ref 0] (wM m) (Ret (some (.int ((f_X9_safeNow m)))) (wM m)) := by
  obtain ⟨zq, hq⟩ : ∃ z, z = (f_X9_safeNow m) := ⟨_, rfl⟩
  rw [← hq]
  unfold f_X9_safeNow at hq
  unfold p_X9_safeNow at hp
  refine Sof fun sc => ?_
  refine g_blk hz0 kX9_safeNow_0 ?_
  refine g_le (L2 := [some (.ref 0), some (.int (Int32.ofInt 0)), some (.int (Int32.ofInt 0))]) ⟨rfl, rfl, rfl, trivial⟩ ?_
  exact l_X9_safeNow_4 sc m zq 40 ((Int32.ofInt 0)) ((Int32.ofInt 0)) hp hq
