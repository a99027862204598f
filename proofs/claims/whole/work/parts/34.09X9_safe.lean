def f_X9_safe_16  : Nat → Rec → Int32 → Int32 → Int32 → Int32 × Rec
  | 0, m, v1, v2, v3 => (0, m)
  | n + 1, m, v1, v2, v3 => if v2 ≤ v3 then (v1, m) else (f_X9_safe_16 n (f_X9_laysWith m v3) (v1 &&& (f_X9_safeNow (f_X9_laysWith m v3))) v2 (v3 + (Int32.ofInt 1)))
def p_X9_safe_16  : Nat → Rec → Int32 → Int32 → Int32 → Prop
  | 0, _, _, _, _ => False
  | n + 1, m, v1, v2, v3 => (v2 ≤ v3 → True) ∧ (¬ (v2 ≤ v3) → ((p_X9_laysWith m v3) ∧ ((p_X9_safeNow (f_X9_laysWith m v3)) ∧ (p_X9_safe_16 n (f_X9_laysWith m v3) (v1 &&& (f_X9_safeNow (f_X9_laysWith m v3))) v2 (v3 + (Int32.ofInt 1))))))
set_option maxHeartbeats 16000000 in
set_option maxRecDepth 20000 in
theorem l_X9_safe_16 (sc : SC)   (zq : Int32 × Rec)  : ∀ (n : Nat) (m : Rec) (v1 : Int32) (v2 : Int32) (v3 : Int32), p_X9_safe_16 n m v1 v2 v3 → zq = f_X9_safe_16 n m v1 v2 v3 → Good sc 5 0 0 17 mX9_safe (Ret (some (.int (zq.1))) (wM (zq.2))) 0 0 16 [some (.ref 0), some (.int v1), some (.int v2), some (.int v3)] [] (wM m) := by
  intro n
  induction n with
  | zero => intro m v1 v2 v3 hp; exact hp.elim
  | succ n ih =>
    intro m v1 v2 v3 hp hq
    unfold p_X9_safe_16 at hp
    unfold f_X9_safe_16 at hq
    refine g_blk hz0 kX9_safe_16 ?_
    refine ⟨fun c2 => ?_, fun c2 => ?_⟩
    · rw [if_pos (show v2 ≤ v3 from c2)] at hq
      refine g_blk hz0 kX9_safe_39 ?_
      subst hq
      exact ⟨fun h => (by cases h), rfl, rfl⟩
    · rw [if_neg (show ¬ (v2 ≤ v3) from c2)] at hq
      replace hp := hp.2 c2
      refine g_blk hz0 kX9_safe_21 ?_
      refine cV [0, 1, 2, 3, 4, 5, 6, 7, 8, 9, 10, 11, 12, 13, 14, 15, 16] (wM m) (s_X9_laysWith m v3 hp.1) rfl cwX9_laysWith dX9_safe_23 rfl rfl (hm0_M_M _) ((len_M _).trans (len_M _).symm) (wM (f_X9_laysWith m v3)) (pw0_M_M _ _) ?_
      replace hp := hp.2
      obtain ⟨g3, hg3⟩ : ∃ z, z = (f_X9_laysWith m v3) := ⟨_, rfl⟩
      try rw [← hg3] at hp
      try rw [← hg3] at hq
      rw [← hg3]
      refine g_blk hz0 kX9_safe_26 ?_
      refine cVp [0, 1, 2, 3, 4, 5, 6, 7, 8, 9, 10, 11, 12, 13, 14, 15, 16] (wM g3) (s_X9_safeNow g3 hp.1) rfl cwX9_safeNow dX9_safe_28 rfl rfl (hm0_M_M _) ?_
      replace hp := hp.2
      refine g_blk hz0 kX9_safe_31 ?_
      refine g_le (L2 := [some (.ref 0), some (.int (v1 &&& (f_X9_safeNow g3))), some (.int v2), some (.int (v3 + (Int32.ofInt 1)))]) ⟨rfl, rfl, rfl, rfl, trivial⟩ ?_
      exact ih g3 (v1 &&& (f_X9_safeNow g3)) v2 (v3 + (Int32.ofInt 1)) hp hq
def f_X9_safe (m : Rec)  : Int32 × Rec := (f_X9_safe_16 4000000000 (f_X9_lays m) (f_X9_safeNow (f_X9_lays m)) (f_X9_foldsNow (f_X9_lays m)) ((Int32.ofInt 0)))
def p_X9_safe (m : Rec)  : Prop := (p_X9_lays m) ∧ ((p_X9_safeNow (f_X9_lays m)) ∧ ((p_X9_foldsNow (f_X9_lays m)) ∧ (p_X9_safe_16 4000000000 (f_X9_lays m) (f_X9_safeNow (f_X9_lays m)) (f_X9_foldsNow (f_X9_lays m)) ((Int32.ofInt 0)))))
set_option maxHeartbeats 16000000 in
set_option maxRecDepth 20000 in
theorem s_X9_safe (m : Rec)  (hp : p_X9_safe m) : Spec 5 0 0 mX9_safe [.ref 0] (wM m) (Ret (some (.int ((f_X9_safe m).1))) (wM ((f_X9_safe m).2))) := by
  obtain ⟨zq, hq⟩ : ∃ z, z = (f_X9_safe m) := ⟨_, rfl⟩
  rw [← hq]
  unfold f_X9_safe at hq
  unfold p_X9_safe at hp
  refine Sof fun sc => ?_
  refine g_blk hz0 kX9_safe_0 ?_
  refine cV [0, 1, 2, 3, 4, 5, 6, 7, 8, 9, 10, 11, 12, 13, 14, 15, 16] (wM m) (s_X9_lays m hp.1) rfl cwX9_lays dX9_safe_1 rfl rfl (hm0_M_M _) ((len_M _).trans (len_M _).symm) (wM (f_X9_lays m)) (pw0_M_M _ _) ?_
  replace hp := hp.2
  obtain ⟨g1, hg1⟩ : ∃ z, z = (f_X9_lays m) := ⟨_, rfl⟩
  try rw [← hg1] at hp
  try rw [← hg1] at hq
  rw [← hg1]
  refine g_blk hz0 kX9_safe_4 ?_
  refine cVp [0, 1, 2, 3, 4, 5, 6, 7, 8, 9, 10, 11, 12, 13, 14, 15, 16] (wM g1) (s_X9_safeNow g1 hp.1) rfl cwX9_safeNow dX9_safe_5 rfl rfl (hm0_M_M _) ?_
  replace hp := hp.2
  refine g_blk hz0 kX9_safe_8 ?_
  refine cVp [0, 1, 2, 3, 4, 5, 6, 7, 8, 9, 10, 11, 12, 13, 14, 15, 16] (wM g1) (s_X9_foldsNow g1 hp.1) rfl cwX9_foldsNow dX9_safe_10 rfl rfl (hm0_M_M _) ?_
  replace hp := hp.2
  refine g_blk hz0 kX9_safe_13 ?_
  refine g_le (L2 := [some (.ref 0), some (.int (f_X9_safeNow g1)), some (.int (f_X9_foldsNow g1)), some (.int (Int32.ofInt 0))]) ⟨rfl, rfl, rfl, rfl, trivial⟩ ?_
  exact l_X9_safe_16 sc zq 4000000000 g1 (f_X9_safeNow g1) (f_X9_foldsNow g1) ((Int32.ofInt 0)) hp hq
