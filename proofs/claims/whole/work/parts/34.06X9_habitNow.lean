def f_X9_habitNow_22  : Nat → Rec → Int32 → Int32 → Int32 → Int32 → Int32 → Int32 × Rec
  | 0, m, v1, v2, v3, v4, v5 => (0, m)
  | n + 1, m, v1, v2, v3, v4, v5 => if v2 ≤ v5 then (v3, (f_X9_lays m)) else (if v3 = (Int32.ofInt (-1)) then (f_X9_habitNow_22 n (f_X9_laysWith m v5) v1 v2 v5 ((f_X9_rules (f_X9_laysWith m v5) v1) - (f_X9_rules (f_X9_laysWith m v5) ((Int32.ofInt 1) - v1))) (v5 + (Int32.ofInt 1))) else (if ((f_X9_rules (f_X9_laysWith m v5) v1) - (f_X9_rules (f_X9_laysWith m v5) ((Int32.ofInt 1) - v1))) ≤ v4 then (f_X9_habitNow_22 n (f_X9_laysWith m v5) v1 v2 v3 v4 (v5 + (Int32.ofInt 1))) else (f_X9_habitNow_22 n (f_X9_laysWith m v5) v1 v2 v5 ((f_X9_rules (f_X9_laysWith m v5) v1) - (f_X9_rules (f_X9_laysWith m v5) ((Int32.ofInt 1) - v1))) (v5 + (Int32.ofInt 1)))))
def p_X9_habitNow_22  : Nat → Rec → Int32 → Int32 → Int32 → Int32 → Int32 → Prop
  | 0, _, _, _, _, _, _ => False
  | n + 1, m, v1, v2, v3, v4, v5 => (v2 ≤ v5 → ((p_X9_lays m) ∧ True)) ∧ (¬ (v2 ≤ v5) → ((p_X9_laysWith m v5) ∧ ((p_X9_rules (f_X9_laysWith m v5) v1) ∧ ((p_X9_rules (f_X9_laysWith m v5) ((Int32.ofInt 1) - v1)) ∧ ((v3 = (Int32.ofInt (-1)) → (p_X9_habitNow_22 n (f_X9_laysWith m v5) v1 v2 v5 ((f_X9_rules (f_X9_laysWith m v5) v1) - (f_X9_rules (f_X9_laysWith m v5) ((Int32.ofInt 1) - v1))) (v5 + (Int32.ofInt 1)))) ∧ (¬ (v3 = (Int32.ofInt (-1))) → ((((f_X9_rules (f_X9_laysWith m v5) v1) - (f_X9_rules (f_X9_laysWith m v5) ((Int32.ofInt 1) - v1))) ≤ v4 → (p_X9_habitNow_22 n (f_X9_laysWith m v5) v1 v2 v3 v4 (v5 + (Int32.ofInt 1)))) ∧ (¬ (((f_X9_rules (f_X9_laysWith m v5) v1) - (f_X9_rules (f_X9_laysWith m v5) ((Int32.ofInt 1) - v1))) ≤ v4) → (p_X9_habitNow_22 n (f_X9_laysWith m v5) v1 v2 v5 ((f_X9_rules (f_X9_laysWith m v5) v1) - (f_X9_rules (f_X9_laysWith m v5) ((Int32.ofInt 1) - v1))) (v5 + (Int32.ofInt 1)))))))))))
set_option maxHeartbeats 16000000 in
set_option maxRecDepth 20000 in
theorem l_X9_habitNow_22 (sc : SC)   (zq : Int32 × Rec)  : ∀ (n : Nat) (m : Rec) (v1 : Int32) (v2 : Int32) (v3 : Int32) (v4 : Int32) (v5 : Int32), p_X9_habitNow_22 n m v1 v2 v3 v4 v5 → zq = f_X9_habitNow_22 n m v1 v2 v3 v4 v5 → Good sc 5 0 0 17 mX9_habitNow (Ret (some (.int (zq.1))) (wM (zq.2))) 0 0 22 [some (.ref 0), some (.int v1), some (.int v2), some (.int v3), some (.int v4), some (.int v5), none] [] (wM m) := by
  intro n
  induction n with
  | zero => intro m v1 v2 v3 v4 v5 hp; exact hp.elim
  | succ n ih =>
    intro m v1 v2 v3 v4 v5 hp hq
    unfold p_X9_habitNow_22 at hp
    unfold f_X9_habitNow_22 at hq
    refine g_blk hz0 kX9_habitNow_22 ?_
    refine ⟨fun c2 => ?_, fun c2 => ?_⟩
    · rw [if_pos (show v2 ≤ v5 from c2)] at hq
      replace hp := hp.1 c2
      refine g_blk hz0 kX9_habitNow_74 ?_
      refine cV [0, 1, 2, 3, 4, 5, 6, 7, 8, 9, 10, 11, 12, 13, 14, 15, 16] (wM m) (s_X9_lays m hp.1) rfl cwX9_lays dX9_habitNow_75 rfl rfl (hm0_M_M _) ((len_M _).trans (len_M _).symm) (wM (f_X9_lays m)) (pw0_M_M _ _) ?_
      replace hp := hp.2
      obtain ⟨g3, hg3⟩ : ∃ z, z = (f_X9_lays m) := ⟨_, rfl⟩
      try rw [← hg3] at hp
      try rw [← hg3] at hq
      rw [← hg3]
      refine g_blk hz0 kX9_habitNow_78 ?_
      subst hq
      exact ⟨fun h => (by cases h), rfl, rfl⟩
    · rw [if_neg (show ¬ (v2 ≤ v5) from c2)] at hq
      replace hp := hp.2 c2
      refine g_blk hz0 kX9_habitNow_28 ?_
      refine cV [0, 1, 2, 3, 4, 5, 6, 7, 8, 9, 10, 11, 12, 13, 14, 15, 16] (wM m) (s_X9_laysWith m v5 hp.1) rfl cwX9_laysWith dX9_habitNow_31 rfl rfl (hm0_M_M _) ((len_M _).trans (len_M _).symm) (wM (f_X9_laysWith m v5)) (pw0_M_M _ _) ?_
      replace hp := hp.2
      obtain ⟨g4, hg4⟩ : ∃ z, z = (f_X9_laysWith m v5) := ⟨_, rfl⟩
      try rw [← hg4] at hp
      try rw [← hg4] at hq
      rw [← hg4]
      refine g_blk hz0 kX9_habitNow_34 ?_
      refine cVp [0, 1, 2, 3, 4, 5, 6, 7, 8, 9, 10, 11, 12, 13, 14, 15, 16] (wM g4) (s_X9_rules g4 v1 hp.1) rfl cwX9_rules dX9_habitNow_36 rfl rfl (hm0_M_M _) ?_
      replace hp := hp.2
      refine g_blk hz0 kX9_habitNow_39 ?_
      refine cVp [0, 1, 2, 3, 4, 5, 6, 7, 8, 9, 10, 11, 12, 13, 14, 15, 16] (wM g4) (s_X9_rules g4 ((Int32.ofInt 1) - v1) hp.1) rfl cwX9_rules dX9_habitNow_43 rfl rfl (hm0_M_M _) ?_
      replace hp := hp.2
      refine g_blk hz0 kX9_habitNow_46 ?_
      refine ⟨fun c5 => ?_, fun c5 => ?_⟩
      · rw [if_pos (show v3 = (Int32.ofInt (-1)) from c5)] at hq
        replace hp := hp.1 c5
        refine g_blk hz0 kX9_habitNow_61 ?_
        refine g_blk hz0 kX9_habitNow_68 ?_
        refine g_le (L2 := [some (.ref 0), some (.int v1), some (.int v2), some (.int v5), some (.int ((f_X9_rules g4 v1) - (f_X9_rules g4 ((Int32.ofInt 1) - v1)))), some (.int (v5 + (Int32.ofInt 1))), none]) ⟨rfl, rfl, rfl, rfl, rfl, rfl, trivial⟩ ?_
        exact ih g4 v1 v2 v5 ((f_X9_rules g4 v1) - (f_X9_rules g4 ((Int32.ofInt 1) - v1))) (v5 + (Int32.ofInt 1)) hp hq
      · rw [if_neg (show ¬ (v3 = (Int32.ofInt (-1))) from c5)] at hq
        replace hp := hp.2 c5
        refine g_blk hz0 kX9_habitNow_54 ?_
        refine ⟨fun c6 => ?_, fun c6 => ?_⟩
        · rw [if_pos (show ((f_X9_rules g4 v1) - (f_X9_rules g4 ((Int32.ofInt 1) - v1))) ≤ v4 from c6)] at hq
          replace hp := hp.1 c6
          refine g_blk hz0 kX9_habitNow_68 ?_
          refine g_le (L2 := [some (.ref 0), some (.int v1), some (.int v2), some (.int v3), some (.int v4), some (.int (v5 + (Int32.ofInt 1))), none]) ⟨rfl, rfl, rfl, rfl, rfl, rfl, trivial⟩ ?_
          exact ih g4 v1 v2 v3 v4 (v5 + (Int32.ofInt 1)) hp hq
        · rw [if_neg (show ¬ (((f_X9_rules g4 v1) - (f_X9_rules g4 ((Int32.ofInt 1) - v1))) ≤ v4) from c6)] at hq
          replace hp := hp.2 c6
          refine g_blk hz0 kX9_habitNow_61 ?_
          refine g_blk hz0 kX9_habitNow_68 ?_
          refine g_le (L2 := [some (.ref 0), some (.int v1), some (.int v2), some (.int v5), some (.int ((f_X9_rules g4 v1) - (f_X9_rules g4 ((Int32.ofInt 1) - v1)))), some (.int (v5 + (Int32.ofInt 1))), none]) ⟨rfl, rfl, rfl, rfl, rfl, rfl, trivial⟩ ?_
          exact ih g4 v1 v2 v5 ((f_X9_rules g4 v1) - (f_X9_rules g4 ((Int32.ofInt 1) - v1))) (v5 + (Int32.ofInt 1)) hp hq
def f_X9_habitNow (m : Rec)  : Int32 × Rec := (f_X9_habitNow_22 4000000000 (f_X9_lays m) (f_X9_behind (f_X9_lays m)) (f_X9_foldsNow (f_X9_lays m)) ((Int32.ofInt (-1))) ((Int32.ofInt 0)) ((Int32.ofInt 0)))
def p_X9_habitNow (m : Rec)  : Prop := (p_X9_lays m) ∧ ((p_X9_behind (f_X9_lays m)) ∧ ((p_X9_foldsNow (f_X9_lays m)) ∧ (p_X9_habitNow_22 4000000000 (f_X9_lays m) (f_X9_behind (f_X9_lays m)) (f_X9_foldsNow (f_X9_lays m)) ((Int32.ofInt (-1))) ((Int32.ofInt 0)) ((Int32.ofInt 0)))))
set_option maxHeartbeats 16000000 in
set_option maxRecDepth 20000 in
theorem s_X9_habitNow (m : Rec)  (hp : p_X9_habitNow m) : Spec 5 0 0 mX9_habitNow [.ref 0] (wM m) (Ret (some (.int ((f_X9_habitNow m).1))) (wM ((f_X9_habitNow m).2))) := by
  obtain ⟨zq, hq⟩ : ∃ z, z = (f_X9_habitNow m) := ⟨_, rfl⟩
  rw [← hq]
  unfold f_X9_habitNow at hq
  unfold p_X9_habitNow at hp
  refine Sof fun sc => ?_
  refine g_blk hz0 kX9_habitNow_0 ?_
  refine cV [0, 1, 2, 3, 4, 5, 6, 7, 8, 9, 10, 11, 12, 13, 14, 15, 16] (wM m) (s_X9_lays m hp.1) rfl cwX9_lays dX9_habitNow_1 rfl rfl (hm0_M_M _) ((len_M _).trans (len_M _).symm) (wM (f_X9_lays m)) (pw0_M_M _ _) ?_
  replace hp := hp.2
  obtain ⟨g1, hg1⟩ : ∃ z, z = (f_X9_lays m) := ⟨_, rfl⟩
  try rw [← hg1] at hp
  try rw [← hg1] at hq
  rw [← hg1]
  refine g_blk hz0 kX9_habitNow_4 ?_
  refine cVp [0, 1, 2, 3, 4, 5, 6, 7, 8, 9, 10, 11, 12, 13, 14, 15, 16] (wM g1) (s_X9_behind g1 hp.1) rfl cwX9_behind dX9_habitNow_5 rfl rfl (hm0_M_M _) ?_
  replace hp := hp.2
  refine g_blk hz0 kX9_habitNow_8 ?_
  refine cVp [0, 1, 2, 3, 4, 5, 6, 7, 8, 9, 10, 11, 12, 13, 14, 15, 16] (wM g1) (s_X9_foldsNow g1 hp.1) rfl cwX9_foldsNow dX9_habitNow_10 rfl rfl (hm0_M_M _) ?_
  replace hp := hp.2
  refine g_blk hz0 kX9_habitNow_13 ?_
  refine g_le (L2 := [some (.ref 0), some (.int (f_X9_behind g1)), some (.int (f_X9_foldsNow g1)), some (.int (Int32.ofInt (-1))), some (.int (Int32.ofInt 0)), some (.int (Int32.ofInt 0)), none]) ⟨rfl, rfl, rfl, rfl, rfl, rfl, trivial⟩ ?_
  exact l_X9_habitNow_22 sc zq 4000000000 g1 (f_X9_behind g1) (f_X9_foldsNow g1) ((Int32.ofInt (-1))) ((Int32.ofInt 0)) ((Int32.ofInt 0)) hp hq
