def f_X9_foldsNow (m : Rec)  : Int32 := (2 * ((((f_X9_end m 0 1) - (f_X9_end m 0 0)) + (f_X9_end m 1 1)) - (f_X9_end m 1 0)))
def p_X9_foldsNow (m : Rec)  : Prop := (p_X9_end m 0 1) ∧ ((p_X9_end m 0 0) ∧ ((p_X9_end m 1 1) ∧ ((p_X9_end m 1 0) ∧ True)))
set_option maxHeartbeats 16000000 in
set_option maxRecDepth 20000 in
theorem s_X9_foldsNow (m : Rec)  (hp : p_X9_foldsNow m) : Spec 3 0 0 mX9_foldsNow [.ref 0] (wM m) (Ret (some (.int ((f_X9_foldsNow m)))) (wM m)) := by
  obtain ⟨zq, hq⟩ : ∃ z, z = (f_X9_foldsNow m) := ⟨_, rfl⟩
  rw [← hq]
  unfold f_X9_foldsNow at hq
  unfold p_X9_foldsNow at hp
  refine Sof fun sc => ?_
  refine g_blk hz0 kX9_foldsNow_0 ?_
  refine cVp [0, 1, 2, 3, 4, 5, 6, 7, 8, 9, 10, 11, 12, 13, 14, 15, 16] (wM m) (s_X9_end m 0 1 hp.1) rfl cwX9_end dX9_foldsNow_4 rfl rfl (hm0_M_M _) ?_
  replace hp := hp.2
  refine g_blk hz0 kX9_foldsNow_7 ?_
  refine cVp [0, 1, 2, 3, 4, 5, 6, 7, 8, 9, 10, 11, 12, 13, 14, 15, 16] (wM m) (s_X9_end m 0 0 hp.1) rfl cwX9_end dX9_foldsNow_10 rfl rfl (hm0_M_M _) ?_
  replace hp := hp.2
  refine g_blk hz0 kX9_foldsNow_13 ?_
  refine cVp [0, 1, 2, 3, 4, 5, 6, 7, 8, 9, 10, 11, 12, 13, 14, 15, 16] (wM m) (s_X9_end m 1 1 hp.1) rfl cwX9_end dX9_foldsNow_17 rfl rfl (hm0_M_M _) ?_
  replace hp := hp.2
  refine g_blk hz0 kX9_foldsNow_20 ?_
  refine cVp [0, 1, 2, 3, 4, 5, 6, 7, 8, 9, 10, 11, 12, 13, 14, 15, 16] (wM m) (s_X9_end m 1 0 hp.1) rfl cwX9_end dX9_foldsNow_24 rfl rfl (hm0_M_M _) ?_
  replace hp := hp.2
  refine g_blk hz0 kX9_foldsNow_27 ?_
  subst hq
  exact ⟨fun h => (by cases h), rfl, rfl⟩

def f_X9_pick (m : Rec) (i : Int32) : Rec := if (2 * ((f_X9_end m 0 1) - (f_X9_end m 0 0))) ≤ i then (if (2 * ((f_X9_end m 0 1) - (f_X9_end m 0 0))) ≤ i then (setG (setG (setG m 10 1) 11 (((f_X9_end (setG m 10 1) 1 0) + 1) + ((i - (2 * ((f_X9_end m 0 1) - (f_X9_end m 0 0)))) / 2))) 12 ((i - (2 * ((f_X9_end m 0 1) - (f_X9_end m 0 0)))) - (i - (2 * ((f_X9_end m 0 1) - (f_X9_end m 0 0)))) / 2 * 2)) else (setG (setG (setG m 10 1) 11 (((f_X9_end (setG m 10 1) 1 0) + 1) + (i / 2))) 12 (i - i / 2 * 2))) else (if (2 * ((f_X9_end m 0 1) - (f_X9_end m 0 0))) ≤ i then (setG (setG (setG m 10 0) 11 (((f_X9_end (setG m 10 0) 0 0) + 1) + ((i - (2 * ((f_X9_end m 0 1) - (f_X9_end m 0 0)))) / 2))) 12 ((i - (2 * ((f_X9_end m 0 1) - (f_X9_end m 0 0)))) - (i - (2 * ((f_X9_end m 0 1) - (f_X9_end m 0 0)))) / 2 * 2)) else (setG (setG (setG m 10 0) 11 (((f_X9_end (setG m 10 0) 0 0) + 1) + (i / 2))) 12 (i - i / 2 * 2)))
def p_X9_pick (m : Rec) (i : Int32) : Prop := (p_X9_end m 0 1) ∧ ((p_X9_end m 0 0) ∧ (((2 * ((f_X9_end m 0 1) - (f_X9_end m 0 0))) ≤ i → (((2 * ((f_X9_end m 0 1) - (f_X9_end m 0 0))) ≤ i → ((p_X9_end (setG m 10 1) 1 0) ∧ True)) ∧ (¬ ((2 * ((f_X9_end m 0 1) - (f_X9_end m 0 0))) ≤ i) → ((p_X9_end (setG m 10 1) 1 0) ∧ True)))) ∧ (¬ ((2 * ((f_X9_end m 0 1) - (f_X9_end m 0 0))) ≤ i) → (((2 * ((f_X9_end m 0 1) - (f_X9_end m 0 0))) ≤ i → ((p_X9_end (setG m 10 0) 0 0) ∧ True)) ∧ (¬ ((2 * ((f_X9_end m 0 1) - (f_X9_end m 0 0))) ≤ i) → ((p_X9_end (setG m 10 0) 0 0) ∧ True))))))
set_option maxHeartbeats 16000000 in
set_option maxRecDepth 20000 in
theorem s_X9_pick (m : Rec) (i : Int32) (hp : p_X9_pick m i) : Spec 3 0 0 mX9_pick [.ref 0, .int i] (wM m) (Ret none (wM ((f_X9_pick m i)))) := by
  obtain ⟨zq, hq⟩ : ∃ z, z = (f_X9_pick m i) := ⟨_, rfl⟩
  rw [← hq]
  unfold f_X9_pick at hq
  unfold p_X9_pick at hp
  refine Sof fun sc => ?_
  refine g_blk hz0 kX9_pick_0 ?_
  refine cVp [0, 1, 2, 3, 4, 5, 6, 7, 8, 9, 10, 11, 12, 13, 14, 15, 16] (wM m) (s_X9_end m 0 1 hp.1) rfl cwX9_end dX9_pick_4 rfl rfl (hm0_M_M _) ?_
  replace hp := hp.2
  refine g_blk hz0 kX9_pick_7 ?_
  refine cVp [0, 1, 2, 3, 4, 5, 6, 7, 8, 9, 10, 11, 12, 13, 14, 15, 16] (wM m) (s_X9_end m 0 0 hp.1) rfl cwX9_end dX9_pick_10 rfl rfl (hm0_M_M _) ?_
  replace hp := hp.2
  refine g_blk hz0 kX9_pick_13 ?_
  refine ⟨fun c1 => ?_, fun c1 => ?_⟩
  · rw [if_pos (show (2 * ((f_X9_end m 0 1) - (f_X9_end m 0 0))) ≤ i from c1)] at hq
    replace hp := hp.1 c1
    refine g_blk hz0 kX9_pick_26 ?_
    refine g_blk hz0 kX9_pick_27 ?_
    refine ⟨fun h => (by cases h), Or.inl rfl, ?_⟩
    refine ⟨fun c2 => ?_, fun c2 => ?_⟩
    · rw [if_pos (show (2 * ((f_X9_end m 0 1) - (f_X9_end m 0 0))) ≤ i from c2)] at hq
      replace hp := hp.1 c2
      refine g_blk hz0 kX9_pick_39 ?_
      refine g_blk hz0 kX9_pick_42 ?_
      refine g_w (w2 := (wM (setG m 10 1))) rfl ?_
      refine cVp [0, 1, 2, 3, 4, 5, 6, 7, 8, 9, 10, 11, 12, 13, 14, 15, 16] (wM (setG m 10 1)) (s_X9_end (setG m 10 1) 1 0 hp.1) rfl cwX9_end dX9_pick_50 rfl rfl (hm0_M_M _) ?_
      replace hp := hp.2
      refine g_blk hz0 kX9_pick_53 ?_
      refine ⟨by decide, ?_⟩
      refine ⟨fun h => (by cases h), Or.inl rfl, ?_⟩
      refine ⟨by decide, ?_⟩
      refine ⟨fun h => (by cases h), Or.inl rfl, ?_⟩
      subst hq
      exact ⟨rfl, rfl⟩
    · rw [if_neg (show ¬ ((2 * ((f_X9_end m 0 1) - (f_X9_end m 0 0))) ≤ i) from c2)] at hq
      replace hp := hp.2 c2
      refine g_blk hz0 kX9_pick_35 ?_
      refine g_blk hz0 kX9_pick_42 ?_
      refine g_w (w2 := (wM (setG m 10 1))) rfl ?_
      refine cVp [0, 1, 2, 3, 4, 5, 6, 7, 8, 9, 10, 11, 12, 13, 14, 15, 16] (wM (setG m 10 1)) (s_X9_end (setG m 10 1) 1 0 hp.1) rfl cwX9_end dX9_pick_50 rfl rfl (hm0_M_M _) ?_
      replace hp := hp.2
      refine g_blk hz0 kX9_pick_53 ?_
      refine ⟨by decide, ?_⟩
      refine ⟨fun h => (by cases h), Or.inl rfl, ?_⟩
      refine ⟨by decide, ?_⟩
      refine ⟨fun h => (by cases h), Or.inl rfl, ?_⟩
      subst hq
      exact ⟨rfl, rfl⟩
  · rw [if_neg (show ¬ ((2 * ((f_X9_end m 0 1) - (f_X9_end m 0 0))) ≤ i) from c1)] at hq
    replace hp := hp.2 c1
    refine g_blk hz0 kX9_pick_22 ?_
    refine g_blk hz0 kX9_pick_27 ?_
    refine ⟨fun h => (by cases h), Or.inl rfl, ?_⟩
    refine ⟨fun c3 => ?_, fun c3 => ?_⟩
    · rw [if_pos (show (2 * ((f_X9_end m 0 1) - (f_X9_end m 0 0))) ≤ i from c3)] at hq
      replace hp := hp.1 c3
      refine g_blk hz0 kX9_pick_39 ?_
      refine g_blk hz0 kX9_pick_42 ?_
      refine g_w (w2 := (wM (setG m 10 0))) rfl ?_
      refine cVp [0, 1, 2, 3, 4, 5, 6, 7, 8, 9, 10, 11, 12, 13, 14, 15, 16] (wM (setG m 10 0)) (s_X9_end (setG m 10 0) 0 0 hp.1) rfl cwX9_end dX9_pick_50 rfl rfl (hm0_M_M _) ?_
      replace hp := hp.2
      refine g_blk hz0 kX9_pick_53 ?_
      refine ⟨by decide, ?_⟩
      refine ⟨fun h => (by cases h), Or.inl rfl, ?_⟩
      refine ⟨by decide, ?_⟩
      refine ⟨fun h => (by cases h), Or.inl rfl, ?_⟩
      subst hq
      exact ⟨rfl, rfl⟩
    · rw [if_neg (show ¬ ((2 * ((f_X9_end m 0 1) - (f_X9_end m 0 0))) ≤ i) from c3)] at hq
      replace hp := hp.2 c3
      refine g_blk hz0 kX9_pick_35 ?_
      refine g_blk hz0 kX9_pick_42 ?_
      refine g_w (w2 := (wM (setG m 10 0))) rfl ?_
      refine cVp [0, 1, 2, 3, 4, 5, 6, 7, 8, 9, 10, 11, 12, 13, 14, 15, 16] (wM (setG m 10 0)) (s_X9_end (setG m 10 0) 0 0 hp.1) rfl cwX9_end dX9_pick_50 rfl rfl (hm0_M_M _) ?_
      replace hp := hp.2
      refine g_blk hz0 kX9_pick_53 ?_
      refine ⟨by decide, ?_⟩
      refine ⟨fun h => (by cases h), Or.inl rfl, ?_⟩
      refine ⟨by decide, ?_⟩
      refine ⟨fun h => (by cases h), Or.inl rfl, ?_⟩
      subst hq
      exact ⟨rfl, rfl⟩

def f_X9_folds (m : Rec) (i : Int32) : Int32 × Rec := if (-1) ≤ i then (if i = (-1) then (if i = (-1) then ((f_X9_foldsNow (f_X9_lays m)), (f_X9_lays m)) else ((-5), (f_X9_lays m))) else (if i < (f_X9_foldsNow (f_X9_lays m)) then ((((1000 * ((f_X9_pick (f_X9_lays m) i).1 10)) + (10 * (((f_X9_pick (f_X9_lays m) i).1 11) + 20))) + ((f_X9_pick (f_X9_lays m) i).1 12)), (f_X9_pick (f_X9_lays m) i)) else (if i = (-1) then ((f_X9_foldsNow (f_X9_lays m)), (f_X9_lays m)) else ((-5), (f_X9_lays m))))) else (((f_X9_refuses m 0 (-10)).1), ((f_X9_refuses m 0 (-10)).2))
def p_X9_folds (m : Rec) (i : Int32) : Prop := ((-1) ≤ i → ((p_X9_lays m) ∧ ((i = (-1) → ((i = (-1) → ((p_X9_foldsNow (f_X9_lays m)) ∧ True)) ∧ (¬ (i = (-1)) → True))) ∧ (¬ (i = (-1)) → ((p_X9_foldsNow (f_X9_lays m)) ∧ ((i < (f_X9_foldsNow (f_X9_lays m)) → ((p_X9_pick (f_X9_lays m) i) ∧ True)) ∧ (¬ (i < (f_X9_foldsNow (f_X9_lays m))) → ((i = (-1) → ((p_X9_foldsNow (f_X9_lays m)) ∧ True)) ∧ (¬ (i = (-1)) → True))))))))) ∧ (¬ ((-1) ≤ i) → ((p_X9_refuses m 0 (-10)) ∧ True))
set_option maxHeartbeats 16000000 in
set_option maxRecDepth 20000 in
theorem s_X9_folds (m : Rec) (i : Int32) (hp : p_X9_folds m i) : Spec 4 0 0 mX9_folds [.ref 0, .int i] (wM m) (Ret (some (.int ((f_X9_folds m i).1))) (wM ((f_X9_folds m i).2))) := by
  obtain ⟨zq, hq⟩ : ∃ z, z = (f_X9_folds m i) := ⟨_, rfl⟩
  rw [← hq]
  unfold f_X9_folds at hq
  unfold p_X9_folds at hp
  refine Sof fun sc => ?_
  refine g_blk hz0 kX9_folds_0 ?_
  refine ⟨fun c1 => ?_, fun c1 => ?_⟩
  · rw [if_pos (show (-1) ≤ i from c1)] at hq
    replace hp := hp.1 c1
    refine g_blk hz0 kX9_folds_13 ?_
    refine cV [0, 1, 2, 3, 4, 5, 6, 7, 8, 9, 10, 11, 12, 13, 14, 15, 16] (wM m) (s_X9_lays m hp.1) rfl cwX9_lays dX9_folds_14 rfl rfl (hm0_M_M _) rfl (wM (f_X9_lays m)) (pw0_M_M _ _) ?_
    replace hp := hp.2
    refine g_blk hz0 kX9_folds_17 ?_
    refine ⟨fun c2 => ?_, fun c2 => ?_⟩
    · rw [if_pos (show i = (-1) from c2)] at hq
      replace hp := hp.1 c2
      refine g_blk hz0 kX9_folds_30 ?_
      refine ⟨fun c3 => ?_, fun c3 => ?_⟩
      · rw [if_neg (show ¬ (i = (-1)) from c3)] at hq
        refine g_blk hz0 kX9_folds_42 ?_
        refine g_blk hz0 kX9_folds_44 ?_
        subst hq
        exact ⟨fun h => (by cases h), rfl, rfl⟩
      · rw [if_pos (show i = (-1) from c3)] at hq
        replace hp := hp.1 c3
        refine g_blk hz0 kX9_folds_35 ?_
        refine cVp [0, 1, 2, 3, 4, 5, 6, 7, 8, 9, 10, 11, 12, 13, 14, 15, 16] (wM (f_X9_lays m)) (s_X9_foldsNow (f_X9_lays m) hp.1) rfl cwX9_foldsNow dX9_folds_36 rfl rfl (hm0_M_M _) ?_
        replace hp := hp.2
        refine g_blk hz0 kX9_folds_39 ?_
        refine g_blk hz0 kX9_folds_44 ?_
        subst hq
        exact ⟨fun h => (by cases h), rfl, rfl⟩
    · rw [if_neg (show ¬ (i = (-1)) from c2)] at hq
      replace hp := hp.2 c2
      refine g_blk hz0 kX9_folds_22 ?_
      refine cVp [0, 1, 2, 3, 4, 5, 6, 7, 8, 9, 10, 11, 12, 13, 14, 15, 16] (wM (f_X9_lays m)) (s_X9_foldsNow (f_X9_lays m) hp.1) rfl cwX9_foldsNow dX9_folds_24 rfl rfl (hm0_M_M _) ?_
      replace hp := hp.2
      refine g_blk hz0 kX9_folds_27 ?_
      refine ⟨fun c4 => ?_, fun c4 => ?_⟩
      · rw [if_pos (show i < (f_X9_foldsNow (f_X9_lays m)) from c4)] at hq
        replace hp := hp.1 c4
        refine g_blk hz0 kX9_folds_45 ?_
        refine cV [0, 1, 2, 3, 4, 5, 6, 7, 8, 9, 10, 11, 12, 13, 14, 15, 16] (wM (f_X9_lays m)) (s_X9_pick (f_X9_lays m) i hp.1) rfl cwX9_pick dX9_folds_47 rfl rfl (hm0_M_M _) rfl (wM (f_X9_pick (f_X9_lays m) i)) (pw0_M_M _ _) ?_
        replace hp := hp.2
        refine g_blk hz0 kX9_folds_50 ?_
        subst hq
        exact ⟨fun h => (by cases h), rfl, rfl⟩
      · rw [if_neg (show ¬ (i < (f_X9_foldsNow (f_X9_lays m))) from c4)] at hq
        replace hp := hp.2 c4
        refine g_blk hz0 kX9_folds_30 ?_
        refine ⟨fun c5 => ?_, fun c5 => ?_⟩
        · rw [if_neg (show ¬ (i = (-1)) from c5)] at hq
          refine g_blk hz0 kX9_folds_42 ?_
          refine g_blk hz0 kX9_folds_44 ?_
          subst hq
          exact ⟨fun h => (by cases h), rfl, rfl⟩
        · rw [if_pos (show i = (-1) from c5)] at hq
          replace hp := hp.1 c5
          refine g_blk hz0 kX9_folds_35 ?_
          refine cVp [0, 1, 2, 3, 4, 5, 6, 7, 8, 9, 10, 11, 12, 13, 14, 15, 16] (wM (f_X9_lays m)) (s_X9_foldsNow (f_X9_lays m) hp.1) rfl cwX9_foldsNow dX9_folds_36 rfl rfl (hm0_M_M _) ?_
          replace hp := hp.2
          refine g_blk hz0 kX9_folds_39 ?_
          refine g_blk hz0 kX9_folds_44 ?_
          subst hq
          exact ⟨fun h => (by cases h), rfl, rfl⟩
  · rw [if_neg (show ¬ ((-1) ≤ i) from c1)] at hq
    replace hp := hp.2 c1
    refine g_blk hz0 kX9_folds_5 ?_
    refine cV [0, 1, 2, 3, 4, 5, 6, 7, 8, 9, 10, 11, 12, 13, 14, 15, 16] (wM m) (s_X9_refuses m 0 (-10) hp.1) rfl cwX9_refuses dX9_folds_9 rfl rfl (hm0_M_M _) rfl (wM ((f_X9_refuses m 0 (-10)).2)) (pw0_M_M _ _) ?_
    replace hp := hp.2
    refine g_blk hz0 kX9_folds_12 ?_
    subst hq
    exact ⟨fun h => (by cases h), rfl, rfl⟩

def f_X9_rules_36 (K4 : Rec → Int32 → Int32 → Int32 → Int32) (m : Rec) (v1 : Int32) (v2 : Int32) (v3 : Int32) (u0 : Int32) : Int32 := if u0 = 0 then (K4 m v1 (v2 + 0) (v3 + 1)) else (if 0 ≤ ((m.2 0) (Int32.toNatClampNeg (8 + v3))) then (if 0 ≤ ((m.2 0) (Int32.toNatClampNeg (8 + v3))) then (if (f_X9_rulerAt m ((m.2 4) (Int32.toNatClampNeg ((m.2 0) (Int32.toNatClampNeg (8 + v3))))) ((m.2 5) (Int32.toNatClampNeg ((m.2 0) (Int32.toNatClampNeg (8 + v3)))))) = v3 then (K4 m v1 (v2 + 1) (v3 + 1)) else (K4 m v1 (v2 + 0) (v3 + 1))) else (if (f_X9_rulerAt m ((m.2 4) (Int32.toNatClampNeg ((m.2 0) (Int32.toNatClampNeg (8 + v3))))) ((m.2 5) 0)) = v3 then (K4 m v1 (v2 + 1) (v3 + 1)) else (K4 m v1 (v2 + 0) (v3 + 1)))) else (if 0 ≤ ((m.2 0) (Int32.toNatClampNeg (8 + v3))) then (if (f_X9_rulerAt m ((m.2 4) 0) ((m.2 5) (Int32.toNatClampNeg ((m.2 0) (Int32.toNatClampNeg (8 + v3)))))) = v3 then (K4 m v1 (v2 + 1) (v3 + 1)) else (K4 m v1 (v2 + 0) (v3 + 1))) else (if (f_X9_rulerAt m ((m.2 4) 0) ((m.2 5) 0)) = v3 then (K4 m v1 (v2 + 1) (v3 + 1)) else (K4 m v1 (v2 + 0) (v3 + 1)))))
def p_X9_rules_36 (G4 : Rec → Int32 → Int32 → Int32 → Prop) (m : Rec) (v1 : Int32) (v2 : Int32) (v3 : Int32) (u0 : Int32) : Prop := (u0 = 0 → (G4 m v1 (v2 + 0) (v3 + 1))) ∧ (¬ (u0 = 0) → (vp_in (8 + v3) 248 ∧ ((0 ≤ ((m.2 0) (Int32.toNatClampNeg (8 + v3))) → (vp_in (8 + v3) 248 ∧ (vp_in ((m.2 0) (Int32.toNatClampNeg (8 + v3))) 36 ∧ (vp_in (8 + v3) 248 ∧ ((0 ≤ ((m.2 0) (Int32.toNatClampNeg (8 + v3))) → (vp_in (8 + v3) 248 ∧ (vp_in ((m.2 0) (Int32.toNatClampNeg (8 + v3))) 36 ∧ ((p_X9_rulerAt m ((m.2 4) (Int32.toNatClampNeg ((m.2 0) (Int32.toNatClampNeg (8 + v3))))) ((m.2 5) (Int32.toNatClampNeg ((m.2 0) (Int32.toNatClampNeg (8 + v3)))))) ∧ (((f_X9_rulerAt m ((m.2 4) (Int32.toNatClampNeg ((m.2 0) (Int32.toNatClampNeg (8 + v3))))) ((m.2 5) (Int32.toNatClampNeg ((m.2 0) (Int32.toNatClampNeg (8 + v3)))))) = v3 → (G4 m v1 (v2 + 1) (v3 + 1))) ∧ (¬ ((f_X9_rulerAt m ((m.2 4) (Int32.toNatClampNeg ((m.2 0) (Int32.toNatClampNeg (8 + v3))))) ((m.2 5) (Int32.toNatClampNeg ((m.2 0) (Int32.toNatClampNeg (8 + v3)))))) = v3) → (G4 m v1 (v2 + 0) (v3 + 1)))))))) ∧ (¬ (0 ≤ ((m.2 0) (Int32.toNatClampNeg (8 + v3)))) → ((p_X9_rulerAt m ((m.2 4) (Int32.toNatClampNeg ((m.2 0) (Int32.toNatClampNeg (8 + v3))))) ((m.2 5) 0)) ∧ (((f_X9_rulerAt m ((m.2 4) (Int32.toNatClampNeg ((m.2 0) (Int32.toNatClampNeg (8 + v3))))) ((m.2 5) 0)) = v3 → (G4 m v1 (v2 + 1) (v3 + 1))) ∧ (¬ ((f_X9_rulerAt m ((m.2 4) (Int32.toNatClampNeg ((m.2 0) (Int32.toNatClampNeg (8 + v3))))) ((m.2 5) 0)) = v3) → (G4 m v1 (v2 + 0) (v3 + 1))))))))))) ∧ (¬ (0 ≤ ((m.2 0) (Int32.toNatClampNeg (8 + v3)))) → (vp_in (8 + v3) 248 ∧ ((0 ≤ ((m.2 0) (Int32.toNatClampNeg (8 + v3))) → (vp_in (8 + v3) 248 ∧ (vp_in ((m.2 0) (Int32.toNatClampNeg (8 + v3))) 36 ∧ ((p_X9_rulerAt m ((m.2 4) 0) ((m.2 5) (Int32.toNatClampNeg ((m.2 0) (Int32.toNatClampNeg (8 + v3)))))) ∧ (((f_X9_rulerAt m ((m.2 4) 0) ((m.2 5) (Int32.toNatClampNeg ((m.2 0) (Int32.toNatClampNeg (8 + v3)))))) = v3 → (G4 m v1 (v2 + 1) (v3 + 1))) ∧ (¬ ((f_X9_rulerAt m ((m.2 4) 0) ((m.2 5) (Int32.toNatClampNeg ((m.2 0) (Int32.toNatClampNeg (8 + v3)))))) = v3) → (G4 m v1 (v2 + 0) (v3 + 1)))))))) ∧ (¬ (0 ≤ ((m.2 0) (Int32.toNatClampNeg (8 + v3)))) → ((p_X9_rulerAt m ((m.2 4) 0) ((m.2 5) 0)) ∧ (((f_X9_rulerAt m ((m.2 4) 0) ((m.2 5) 0)) = v3 → (G4 m v1 (v2 + 1) (v3 + 1))) ∧ (¬ ((f_X9_rulerAt m ((m.2 4) 0) ((m.2 5) 0)) = v3) → (G4 m v1 (v2 + 0) (v3 + 1))))))))))))
set_option maxHeartbeats 16000000 in
set_option maxRecDepth 20000 in
theorem l_X9_rules_36 (sc : SC) (m : Rec) {K4 : Rec → Int32 → Int32 → Int32 → Int32} {G4 : Rec → Int32 → Int32 → Int32 → Prop} (zq : Int32) (hK4 : ∀ (v1 : Int32) (v2 : Int32) (v3 : Int32), G4 m v1 v2 v3 → zq = K4 m v1 v2 v3 → Good sc 4 0 0 17 mX9_rules (Ret (some (.int (zq))) (wM m)) 0 0 4 [some (.ref 0), some (.int v1), some (.int v2), some (.int v3), none] [] (wM m))  (v1 : Int32) (v2 : Int32) (v3 : Int32) (u0 : Int32) (hp : p_X9_rules_36 G4 m v1 v2 v3 u0) (hq : zq = f_X9_rules_36 K4 m v1 v2 v3 u0) : Good sc 4 0 0 17 mX9_rules (Ret (some (.int (zq))) (wM m)) 0 0 36 [some (.ref 0), some (.int v1), some (.int v2), some (.int v3), none] [.int u0] (wM m) := by
  unfold p_X9_rules_36 at hp
  unfold f_X9_rules_36 at hq
  refine g_blk hz0 kX9_rules_36 ?_
  refine ⟨fun c4 => ?_, fun c4 => ?_⟩
  · rw [if_pos (show u0 = 0 from c4)] at hq
    replace hp := hp.1 c4
    refine g_blk hz0 kX9_rules_116 ?_
    refine g_blk hz0 kX9_rules_117 ?_
    refine g_le (L2 := [some (.ref 0), some (.int v1), some (.int (v2 + 0)), some (.int (v3 + 1)), none]) ⟨rfl, rfl, rfl, rfl, trivial⟩ ?_
    exact hK4 v1 (v2 + 0) (v3 + 1) hp hq
  · rw [if_neg (show ¬ (u0 = 0) from c4)] at hq
    replace hp := hp.2 c4
    refine g_blk hz0 kX9_rules_44 ?_
    refine ⟨hp.1, ?_⟩
    replace hp := hp.2
    refine ⟨fun c5 => ?_, fun c5 => ?_⟩
    · rw [if_pos (show 0 ≤ ((m.2 0) (Int32.toNatClampNeg (8 + v3))) from c5)] at hq
      replace hp := hp.1 c5
      refine g_blk hz0 kX9_rules_65 ?_
      refine ⟨hp.1, ?_⟩
      replace hp := hp.2
      refine g_blk hz0 kX9_rules_74 ?_
      refine ⟨hp.1, ?_⟩
      replace hp := hp.2
      refine ⟨hp.1, ?_⟩
      replace hp := hp.2
      refine ⟨fun c6 => ?_, fun c6 => ?_⟩
      · rw [if_pos (show 0 ≤ ((m.2 0) (Int32.toNatClampNeg (8 + v3))) from c6)] at hq
        replace hp := hp.1 c6
        refine g_blk hz0 kX9_rules_95 ?_
        refine ⟨hp.1, ?_⟩
        replace hp := hp.2
        refine g_blk hz0 kX9_rules_104 ?_
        refine ⟨hp.1, ?_⟩
        replace hp := hp.2
        refine cVp [0, 1, 2, 3, 4, 5, 6, 7, 8, 9, 10, 11, 12, 13, 14, 15, 16] (wM m) (s_X9_rulerAt m ((m.2 4) (Int32.toNatClampNeg ((m.2 0) (Int32.toNatClampNeg (8 + v3))))) ((m.2 5) (Int32.toNatClampNeg ((m.2 0) (Int32.toNatClampNeg (8 + v3))))) hp.1) rfl cwX9_rulerAt dX9_rules_105 rfl rfl (hm0_M_M _) ?_
        replace hp := hp.2
        refine g_blk hz0 kX9_rules_108 ?_
        refine ⟨fun c7 => ?_, fun c7 => ?_⟩
        · rw [if_neg (show ¬ ((f_X9_rulerAt m ((m.2 4) (Int32.toNatClampNeg ((m.2 0) (Int32.toNatClampNeg (8 + v3))))) ((m.2 5) (Int32.toNatClampNeg ((m.2 0) (Int32.toNatClampNeg (8 + v3)))))) = v3) from c7)] at hq
          replace hp := hp.2 c7
          refine g_blk hz0 kX9_rules_116 ?_
          refine g_blk hz0 kX9_rules_117 ?_
          refine g_le (L2 := [some (.ref 0), some (.int v1), some (.int (v2 + 0)), some (.int (v3 + 1)), none]) ⟨rfl, rfl, rfl, rfl, trivial⟩ ?_
          exact hK4 v1 (v2 + 0) (v3 + 1) hp hq
        · rw [if_pos (show (f_X9_rulerAt m ((m.2 4) (Int32.toNatClampNeg ((m.2 0) (Int32.toNatClampNeg (8 + v3))))) ((m.2 5) (Int32.toNatClampNeg ((m.2 0) (Int32.toNatClampNeg (8 + v3)))))) = v3 from c7)] at hq
          replace hp := hp.1 c7
          refine g_blk hz0 kX9_rules_112 ?_
          refine g_blk hz0 kX9_rules_117 ?_
          refine g_le (L2 := [some (.ref 0), some (.int v1), some (.int (v2 + 1)), some (.int (v3 + 1)), none]) ⟨rfl, rfl, rfl, rfl, trivial⟩ ?_
          exact hK4 v1 (v2 + 1) (v3 + 1) hp hq
      · rw [if_neg (show ¬ (0 ≤ ((m.2 0) (Int32.toNatClampNeg (8 + v3)))) from c6)] at hq
        replace hp := hp.2 c6
        refine g_blk hz0 kX9_rules_91 ?_
        refine g_blk hz0 kX9_rules_104 ?_
        refine ⟨vinL (by decide), ?_⟩
        refine cVp [0, 1, 2, 3, 4, 5, 6, 7, 8, 9, 10, 11, 12, 13, 14, 15, 16] (wM m) (s_X9_rulerAt m ((m.2 4) (Int32.toNatClampNeg ((m.2 0) (Int32.toNatClampNeg (8 + v3))))) ((m.2 5) 0) hp.1) rfl cwX9_rulerAt dX9_rules_105 rfl rfl (hm0_M_M _) ?_
        replace hp := hp.2
        refine g_blk hz0 kX9_rules_108 ?_
        refine ⟨fun c8 => ?_, fun c8 => ?_⟩
        · rw [if_neg (show ¬ ((f_X9_rulerAt m ((m.2 4) (Int32.toNatClampNeg ((m.2 0) (Int32.toNatClampNeg (8 + v3))))) ((m.2 5) 0)) = v3) from c8)] at hq
          replace hp := hp.2 c8
          refine g_blk hz0 kX9_rules_116 ?_
          refine g_blk hz0 kX9_rules_117 ?_
          refine g_le (L2 := [some (.ref 0), some (.int v1), some (.int (v2 + 0)), some (.int (v3 + 1)), none]) ⟨rfl, rfl, rfl, rfl, trivial⟩ ?_
          exact hK4 v1 (v2 + 0) (v3 + 1) hp hq
        · rw [if_pos (show (f_X9_rulerAt m ((m.2 4) (Int32.toNatClampNeg ((m.2 0) (Int32.toNatClampNeg (8 + v3))))) ((m.2 5) 0)) = v3 from c8)] at hq
          replace hp := hp.1 c8
          refine g_blk hz0 kX9_rules_112 ?_
          refine g_blk hz0 kX9_rules_117 ?_
          refine g_le (L2 := [some (.ref 0), some (.int v1), some (.int (v2 + 1)), some (.int (v3 + 1)), none]) ⟨rfl, rfl, rfl, rfl, trivial⟩ ?_
          exact hK4 v1 (v2 + 1) (v3 + 1) hp hq
    · rw [if_neg (show ¬ (0 ≤ ((m.2 0) (Int32.toNatClampNeg (8 + v3)))) from c5)] at hq
      replace hp := hp.2 c5
      refine g_blk hz0 kX9_rules_61 ?_
      refine g_blk hz0 kX9_rules_74 ?_
      refine ⟨vinL (by decide), ?_⟩
      refine ⟨hp.1, ?_⟩
      replace hp := hp.2
      refine ⟨fun c9 => ?_, fun c9 => ?_⟩
      · rw [if_pos (show 0 ≤ ((m.2 0) (Int32.toNatClampNeg (8 + v3))) from c9)] at hq
        replace hp := hp.1 c9
        refine g_blk hz0 kX9_rules_95 ?_
        refine ⟨hp.1, ?_⟩
        replace hp := hp.2
        refine g_blk hz0 kX9_rules_104 ?_
        refine ⟨hp.1, ?_⟩
        replace hp := hp.2
        refine cVp [0, 1, 2, 3, 4, 5, 6, 7, 8, 9, 10, 11, 12, 13, 14, 15, 16] (wM m) (s_X9_rulerAt m ((m.2 4) 0) ((m.2 5) (Int32.toNatClampNeg ((m.2 0) (Int32.toNatClampNeg (8 + v3))))) hp.1) rfl cwX9_rulerAt dX9_rules_105 rfl rfl (hm0_M_M _) ?_
        replace hp := hp.2
        refine g_blk hz0 kX9_rules_108 ?_
        refine ⟨fun c10 => ?_, fun c10 => ?_⟩
        · rw [if_neg (show ¬ ((f_X9_rulerAt m ((m.2 4) 0) ((m.2 5) (Int32.toNatClampNeg ((m.2 0) (Int32.toNatClampNeg (8 + v3)))))) = v3) from c10)] at hq
          replace hp := hp.2 c10
          refine g_blk hz0 kX9_rules_116 ?_
          refine g_blk hz0 kX9_rules_117 ?_
          refine g_le (L2 := [some (.ref 0), some (.int v1), some (.int (v2 + 0)), some (.int (v3 + 1)), none]) ⟨rfl, rfl, rfl, rfl, trivial⟩ ?_
          exact hK4 v1 (v2 + 0) (v3 + 1) hp hq
        · rw [if_pos (show (f_X9_rulerAt m ((m.2 4) 0) ((m.2 5) (Int32.toNatClampNeg ((m.2 0) (Int32.toNatClampNeg (8 + v3)))))) = v3 from c10)] at hq
          replace hp := hp.1 c10
          refine g_blk hz0 kX9_rules_112 ?_
          refine g_blk hz0 kX9_rules_117 ?_
          refine g_le (L2 := [some (.ref 0), some (.int v1), some (.int (v2 + 1)), some (.int (v3 + 1)), none]) ⟨rfl, rfl, rfl, rfl, trivial⟩ ?_
          exact hK4 v1 (v2 + 1) (v3 + 1) hp hq
      · rw [if_neg (show ¬ (0 ≤ ((m.2 0) (Int32.toNatClampNeg (8 + v3)))) from c9)] at hq
        replace hp := hp.2 c9
        refine g_blk hz0 kX9_rules_91 ?_
        refine g_blk hz0 kX9_rules_104 ?_
        refine ⟨vinL (by decide), ?_⟩
        refine cVp [0, 1, 2, 3, 4, 5, 6, 7, 8, 9, 10, 11, 12, 13, 14, 15, 16] (wM m) (s_X9_rulerAt m ((m.2 4) 0) ((m.2 5) 0) hp.1) rfl cwX9_rulerAt dX9_rules_105 rfl rfl (hm0_M_M _) ?_
        replace hp := hp.2
        refine g_blk hz0 kX9_rules_108 ?_
        refine ⟨fun c11 => ?_, fun c11 => ?_⟩
        · rw [if_neg (show ¬ ((f_X9_rulerAt m ((m.2 4) 0) ((m.2 5) 0)) = v3) from c11)] at hq
          replace hp := hp.2 c11
          refine g_blk hz0 kX9_rules_116 ?_
          refine g_blk hz0 kX9_rules_117 ?_
          refine g_le (L2 := [some (.ref 0), some (.int v1), some (.int (v2 + 0)), some (.int (v3 + 1)), none]) ⟨rfl, rfl, rfl, rfl, trivial⟩ ?_
          exact hK4 v1 (v2 + 0) (v3 + 1) hp hq
        · rw [if_pos (show (f_X9_rulerAt m ((m.2 4) 0) ((m.2 5) 0)) = v3 from c11)] at hq
          replace hp := hp.1 c11
          refine g_blk hz0 kX9_rules_112 ?_
          refine g_blk hz0 kX9_rules_117 ?_
          refine g_le (L2 := [some (.ref 0), some (.int v1), some (.int (v2 + 1)), some (.int (v3 + 1)), none]) ⟨rfl, rfl, rfl, rfl, trivial⟩ ?_
          exact hK4 v1 (v2 + 1) (v3 + 1) hp hq
def f_X9_rules_4  : Nat → Rec → Int32 → Int32 → Int32 → Int32
  | 0, m, v1, v2, v3 => 0
  | n + 1, m, v1, v2, v3 => if ((m.2 0) 2) ≤ v3 then v2 else (if (f_X9_isHere m v3) = 0 then (f_X9_rules_36 (f_X9_rules_4 n) m v1 v2 v3 0) else (if (f_X9_ownerOf m v3) = v1 then (f_X9_rules_36 (f_X9_rules_4 n) m v1 v2 v3 1) else (f_X9_rules_36 (f_X9_rules_4 n) m v1 v2 v3 0)))
def p_X9_rules_4  : Nat → Rec → Int32 → Int32 → Int32 → Prop
  | 0, _, _, _, _ => False
  | n + 1, m, v1, v2, v3 => (((m.2 0) 2) ≤ v3 → True) ∧ (¬ (((m.2 0) 2) ≤ v3) → ((p_X9_isHere m v3) ∧ (((f_X9_isHere m v3) = 0 → (p_X9_rules_36 (p_X9_rules_4 n) m v1 v2 v3 0)) ∧ (¬ ((f_X9_isHere m v3) = 0) → ((p_X9_ownerOf m v3) ∧ (((f_X9_ownerOf m v3) = v1 → (p_X9_rules_36 (p_X9_rules_4 n) m v1 v2 v3 1)) ∧ (¬ ((f_X9_ownerOf m v3) = v1) → (p_X9_rules_36 (p_X9_rules_4 n) m v1 v2 v3 0))))))))
set_option maxHeartbeats 16000000 in
set_option maxRecDepth 20000 in
theorem l_X9_rules_4 (sc : SC) (m : Rec)  (zq : Int32)  : ∀ (n : Nat)  (v1 : Int32) (v2 : Int32) (v3 : Int32), p_X9_rules_4 n m v1 v2 v3 → zq = f_X9_rules_4 n m v1 v2 v3 → Good sc 4 0 0 17 mX9_rules (Ret (some (.int (zq))) (wM m)) 0 0 4 [some (.ref 0), some (.int v1), some (.int v2), some (.int v3), none] [] (wM m) := by
  intro n
  induction n with
  | zero => intro v1 v2 v3 hp; exact hp.elim
  | succ n ih =>
    intro v1 v2 v3 hp hq
    unfold p_X9_rules_4 at hp
    unfold f_X9_rules_4 at hq
    refine g_blk hz0 kX9_rules_4 ?_
    refine ⟨vinL (by decide), ?_⟩
    refine ⟨fun c1 => ?_, fun c1 => ?_⟩
    · rw [if_pos (show ((m.2 0) 2) ≤ v3 from c1)] at hq
      refine g_blk hz0 kX9_rules_125 ?_
      subst hq
      exact ⟨fun h => (by cases h), rfl, rfl⟩
    · rw [if_neg (show ¬ (((m.2 0) 2) ≤ v3) from c1)] at hq
      replace hp := hp.2 c1
      refine g_blk hz0 kX9_rules_14 ?_
      refine cVp [0, 1, 2, 3, 4, 5, 6, 7, 8, 9, 10, 11, 12, 13, 14, 15, 16] (wM m) (s_X9_isHere m v3 hp.1) rfl cwX9_isHere dX9_rules_16 rfl rfl (hm0_M_M _) ?_
      replace hp := hp.2
      refine g_blk hz0 kX9_rules_19 ?_
      refine ⟨fun c2 => ?_, fun c2 => ?_⟩
      · rw [if_pos (show (f_X9_isHere m v3) = 0 from c2)] at hq
        replace hp := hp.1 c2
        refine g_blk hz0 kX9_rules_35 ?_
        refine g_le (L2 := [some (.ref 0), some (.int v1), some (.int v2), some (.int v3), none]) ⟨rfl, rfl, rfl, rfl, trivial⟩ ?_
        exact l_X9_rules_36 sc m zq (fun r0 r1 r2 hp hq => ih r0 r1 r2 hp hq) v1 v2 v3 0 hp hq
      · rw [if_neg (show ¬ ((f_X9_isHere m v3) = 0) from c2)] at hq
        replace hp := hp.2 c2
        refine g_blk hz0 kX9_rules_22 ?_
        refine cVp [0, 1, 2, 3, 4, 5, 6, 7, 8, 9, 10, 11, 12, 13, 14, 15, 16] (wM m) (s_X9_ownerOf m v3 hp.1) rfl cwX9_ownerOf dX9_rules_24 rfl rfl (hm0_M_M _) ?_
        replace hp := hp.2
        refine g_blk hz0 kX9_rules_27 ?_
        refine ⟨fun c3 => ?_, fun c3 => ?_⟩
        · rw [if_neg (show ¬ ((f_X9_ownerOf m v3) = v1) from c3)] at hq
          replace hp := hp.2 c3
          refine g_blk hz0 kX9_rules_35 ?_
          refine g_le (L2 := [some (.ref 0), some (.int v1), some (.int v2), some (.int v3), none]) ⟨rfl, rfl, rfl, rfl, trivial⟩ ?_
          exact l_X9_rules_36 sc m zq (fun r0 r1 r2 hp hq => ih r0 r1 r2 hp hq) v1 v2 v3 0 hp hq
        · rw [if_pos (show (f_X9_ownerOf m v3) = v1 from c3)] at hq
          replace hp := hp.1 c3
          refine g_blk hz0 kX9_rules_31 ?_
          refine g_le (L2 := [some (.ref 0), some (.int v1), some (.int v2), some (.int v3), none]) ⟨rfl, rfl, rfl, rfl, trivial⟩ ?_
          exact l_X9_rules_36 sc m zq (fun r0 r1 r2 hp hq => ih r0 r1 r2 hp hq) v1 v2 v3 1 hp hq
def f_X9_rules (m : Rec) (o : Int32) : Int32 := (f_X9_rules_4 40 m o 0 0)
def p_X9_rules (m : Rec) (o : Int32) : Prop := (p_X9_rules_4 40 m o 0 0)
set_option maxHeartbeats 16000000 in
set_option maxRecDepth 20000 in
theorem s_X9_rules (m : Rec) (o : Int32) (hp : p_X9_rules m o) : Spec 4 0 0 mX9_rules [.ref 0, .int o] (wM m) (Ret (some (.int ((f_X9_rules m o)))) (wM m)) := by
  obtain ⟨zq, hq⟩ : ∃ z, z = (f_X9_rules m o) := ⟨_, rfl⟩
  rw [← hq]
  unfold f_X9_rules at hq
  unfold p_X9_rules at hp
  refine Sof fun sc => ?_
  refine g_blk hz0 kX9_rules_0 ?_
  refine g_le (L2 := [some (.ref 0), some (.int o), some (.int 0), some (.int 0), none]) ⟨rfl, rfl, rfl, rfl, trivial⟩ ?_
  exact l_X9_rules_4 sc m zq 40 o 0 0 hp hq

def f_X9_laysWith (m : Rec) (i : Int32) : Rec := (f_X9_turnsOver (f_X9_pick (f_X9_lays m) i) ((f_X9_pick (f_X9_lays m) i).1 10) ((f_X9_pick (f_X9_lays m) i).1 11) ((f_X9_pick (f_X9_lays m) i).1 12))
def p_X9_laysWith (m : Rec) (i : Int32) : Prop := (p_X9_lays m) ∧ ((p_X9_pick (f_X9_lays m) i) ∧ ((p_X9_turnsOver (f_X9_pick (f_X9_lays m) i) ((f_X9_pick (f_X9_lays m) i).1 10) ((f_X9_pick (f_X9_lays m) i).1 11) ((f_X9_pick (f_X9_lays m) i).1 12)) ∧ True))
set_option maxHeartbeats 16000000 in
set_option maxRecDepth 20000 in
theorem s_X9_laysWith (m : Rec) (i : Int32) (hp : p_X9_laysWith m i) : Spec 4 0 0 mX9_laysWith [.ref 0, .int i] (wM m) (Ret none (wM ((f_X9_laysWith m i)))) := by
  obtain ⟨zq, hq⟩ : ∃ z, z = (f_X9_laysWith m i) := ⟨_, rfl⟩
  rw [← hq]
  unfold f_X9_laysWith at hq
  unfold p_X9_laysWith at hp
  refine Sof fun sc => ?_
  refine g_blk hz0 kX9_laysWith_0 ?_
  refine cV [0, 1, 2, 3, 4, 5, 6, 7, 8, 9, 10, 11, 12, 13, 14, 15, 16] (wM m) (s_X9_lays m hp.1) rfl cwX9_lays dX9_laysWith_1 rfl rfl (hm0_M_M _) rfl (wM (f_X9_lays m)) (pw0_M_M _ _) ?_
  replace hp := hp.2
  refine g_blk hz0 kX9_laysWith_4 ?_
  refine cV [0, 1, 2, 3, 4, 5, 6, 7, 8, 9, 10, 11, 12, 13, 14, 15, 16] (wM (f_X9_lays m)) (s_X9_pick (f_X9_lays m) i hp.1) rfl cwX9_pick dX9_laysWith_6 rfl rfl (hm0_M_M _) rfl (wM (f_X9_pick (f_X9_lays m) i)) (pw0_M_M _ _) ?_
  replace hp := hp.2
  refine g_blk hz0 kX9_laysWith_9 ?_
  refine cV [0, 1, 2, 3, 4, 5, 6, 7, 8, 9, 10, 11, 12, 13, 14, 15, 16] (wM (f_X9_pick (f_X9_lays m) i)) (s_X9_turnsOver (f_X9_pick (f_X9_lays m) i) ((f_X9_pick (f_X9_lays m) i).1 10) ((f_X9_pick (f_X9_lays m) i).1 11) ((f_X9_pick (f_X9_lays m) i).1 12) hp.1) rfl cwX9_turnsOver dX9_laysWith_22 rfl rfl (hm0_M_M _) rfl (wM (f_X9_turnsOver (f_X9_pick (f_X9_lays m) i) ((f_X9_pick (f_X9_lays m) i).1 10) ((f_X9_pick (f_X9_lays m) i).1 11) ((f_X9_pick (f_X9_lays m) i).1 12))) (pw0_M_M _ _) ?_
  replace hp := hp.2
  refine g_blk hz0 kX9_laysWith_25 ?_
  subst hq
  exact ⟨rfl, rfl⟩

def f_X9_leaves (m : Rec) (i : Int32) (o : Int32) : Int32 × Rec := if (f_X9_in (Int32.toInt64 i) 0 (Int32.toInt64 ((f_X9_foldsNow (f_X9_lays m)) - 1))) = 0 then (((f_X9_bad (f_X9_lays m)).1), ((f_X9_bad (f_X9_lays m)).2)) else (if (f_X9_in (Int32.toInt64 o) 0 1) = 0 then (((f_X9_bad (f_X9_lays m)).1), ((f_X9_bad (f_X9_lays m)).2)) else ((f_X9_rules (f_X9_laysWith (f_X9_lays m) i) o), (f_X9_laysWith (f_X9_lays m) i)))
def p_X9_leaves (m : Rec) (i : Int32) (o : Int32) : Prop := (p_X9_lays m) ∧ ((p_X9_foldsNow (f_X9_lays m)) ∧ (((f_X9_in (Int32.toInt64 i) 0 (Int32.toInt64 ((f_X9_foldsNow (f_X9_lays m)) - 1))) = 0 → ((p_X9_bad (f_X9_lays m)) ∧ True)) ∧ (¬ ((f_X9_in (Int32.toInt64 i) 0 (Int32.toInt64 ((f_X9_foldsNow (f_X9_lays m)) - 1))) = 0) → (((f_X9_in (Int32.toInt64 o) 0 1) = 0 → ((p_X9_bad (f_X9_lays m)) ∧ True)) ∧ (¬ ((f_X9_in (Int32.toInt64 o) 0 1) = 0) → ((p_X9_laysWith (f_X9_lays m) i) ∧ ((p_X9_rules (f_X9_laysWith (f_X9_lays m) i) o) ∧ True)))))))
set_option maxHeartbeats 16000000 in
set_option maxRecDepth 20000 in
theorem s_X9_leaves (m : Rec) (i : Int32) (o : Int32) (hp : p_X9_leaves m i o) : Spec 5 0 0 mX9_leaves [.ref 0, .int i, .int o] (wM m) (Ret (some (.int ((f_X9_leaves m i o).1))) (wM ((f_X9_leaves m i o).2))) := by
  obtain ⟨zq, hq⟩ : ∃ z, z = (f_X9_leaves m i o) := ⟨_, rfl⟩
  rw [← hq]
  unfold f_X9_leaves at hq
  unfold p_X9_leaves at hp
  refine Sof fun sc => ?_
  refine g_blk hz0 kX9_leaves_0 ?_
  refine cV [0, 1, 2, 3, 4, 5, 6, 7, 8, 9, 10, 11, 12, 13, 14, 15, 16] (wM m) (s_X9_lays m hp.1) rfl cwX9_lays dX9_leaves_1 rfl rfl (hm0_M_M _) rfl (wM (f_X9_lays m)) (pw0_M_M _ _) ?_
  replace hp := hp.2
  refine g_blk hz0 kX9_leaves_4 ?_
  refine cVp [0, 1, 2, 3, 4, 5, 6, 7, 8, 9, 10, 11, 12, 13, 14, 15, 16] (wM (f_X9_lays m)) (s_X9_foldsNow (f_X9_lays m) hp.1) rfl cwX9_foldsNow dX9_leaves_8 rfl rfl (hm0_M_M _) ?_
  replace hp := hp.2
  refine g_blk hz0 kX9_leaves_11 ?_
  refine cS0 (s_X9_in (Int32.toInt64 i) 0 (Int32.toInt64 ((f_X9_foldsNow (f_X9_lays m)) - 1))) rfl cwX9_in dX9_leaves_14 rfl ?_
  refine g_blk hz0 kX9_leaves_17 ?_
  refine ⟨fun c1 => ?_, fun c1 => ?_⟩
  · rw [if_pos (show (f_X9_in (Int32.toInt64 i) 0 (Int32.toInt64 ((f_X9_foldsNow (f_X9_lays m)) - 1))) = 0 from c1)] at hq
    replace hp := hp.1 c1
    refine g_blk hz0 kX9_leaves_30 ?_
    refine cV [0, 1, 2, 3, 4, 5, 6, 7, 8, 9, 10, 11, 12, 13, 14, 15, 16] (wM (f_X9_lays m)) (s_X9_bad (f_X9_lays m) hp.1) rfl cwX9_bad dX9_leaves_31 rfl rfl (hm0_M_M _) rfl (wM ((f_X9_bad (f_X9_lays m)).2)) (pw0_M_M _ _) ?_
    replace hp := hp.2
    refine g_blk hz0 kX9_leaves_34 ?_
    subst hq
    exact ⟨fun h => (by cases h), rfl, rfl⟩
  · rw [if_neg (show ¬ ((f_X9_in (Int32.toInt64 i) 0 (Int32.toInt64 ((f_X9_foldsNow (f_X9_lays m)) - 1))) = 0) from c1)] at hq
    replace hp := hp.2 c1
    refine g_blk hz0 kX9_leaves_20 ?_
    refine cS0 (s_X9_in (Int32.toInt64 o) 0 1) rfl cwX9_in dX9_leaves_24 rfl ?_
    refine g_blk hz0 kX9_leaves_27 ?_
    refine ⟨fun c2 => ?_, fun c2 => ?_⟩
    · rw [if_neg (show ¬ ((f_X9_in (Int32.toInt64 o) 0 1) = 0) from c2)] at hq
      replace hp := hp.2 c2
      refine g_blk hz0 kX9_leaves_35 ?_
      refine cV [0, 1, 2, 3, 4, 5, 6, 7, 8, 9, 10, 11, 12, 13, 14, 15, 16] (wM (f_X9_lays m)) (s_X9_laysWith (f_X9_lays m) i hp.1) rfl cwX9_laysWith dX9_leaves_37 rfl rfl (hm0_M_M _) rfl (wM (f_X9_laysWith (f_X9_lays m) i)) (pw0_M_M _ _) ?_
      replace hp := hp.2
      refine g_blk hz0 kX9_leaves_40 ?_
      refine cVp [0, 1, 2, 3, 4, 5, 6, 7, 8, 9, 10, 11, 12, 13, 14, 15, 16] (wM (f_X9_laysWith (f_X9_lays m) i)) (s_X9_rules (f_X9_laysWith (f_X9_lays m) i) o hp.1) rfl cwX9_rules dX9_leaves_42 rfl rfl (hm0_M_M _) ?_
      replace hp := hp.2
      refine g_blk hz0 kX9_leaves_45 ?_
      subst hq
      exact ⟨fun h => (by cases h), rfl, rfl⟩
    · rw [if_pos (show (f_X9_in (Int32.toInt64 o) 0 1) = 0 from c2)] at hq
      replace hp := hp.1 c2
      refine g_blk hz0 kX9_leaves_30 ?_
      refine cV [0, 1, 2, 3, 4, 5, 6, 7, 8, 9, 10, 11, 12, 13, 14, 15, 16] (wM (f_X9_lays m)) (s_X9_bad (f_X9_lays m) hp.1) rfl cwX9_bad dX9_leaves_31 rfl rfl (hm0_M_M _) rfl (wM ((f_X9_bad (f_X9_lays m)).2)) (pw0_M_M _ _) ?_
      replace hp := hp.2
      refine g_blk hz0 kX9_leaves_34 ?_
      subst hq
      exact ⟨fun h => (by cases h), rfl, rfl⟩

def f_X9_habitNow_22  : Nat → Rec → Int32 → Int32 → Int32 → Int32 → Int32 → Int32 × Rec
  | 0, m, v1, v2, v3, v4, v5 => (0, m)
  | n + 1, m, v1, v2, v3, v4, v5 => if v2 ≤ v5 then (v3, (f_X9_lays m)) else (if v3 = (-1) then (f_X9_habitNow_22 n (f_X9_laysWith m v5) v1 v2 v5 ((f_X9_rules (f_X9_laysWith m v5) v1) - (f_X9_rules (f_X9_laysWith m v5) (1 - v1))) (v5 + 1)) else (if ((f_X9_rules (f_X9_laysWith m v5) v1) - (f_X9_rules (f_X9_laysWith m v5) (1 - v1))) ≤ v4 then (f_X9_habitNow_22 n (f_X9_laysWith m v5) v1 v2 v3 v4 (v5 + 1)) else (f_X9_habitNow_22 n (f_X9_laysWith m v5) v1 v2 v5 ((f_X9_rules (f_X9_laysWith m v5) v1) - (f_X9_rules (f_X9_laysWith m v5) (1 - v1))) (v5 + 1))))
def p_X9_habitNow_22  : Nat → Rec → Int32 → Int32 → Int32 → Int32 → Int32 → Prop
  | 0, _, _, _, _, _, _ => False
  | n + 1, m, v1, v2, v3, v4, v5 => (v2 ≤ v5 → ((p_X9_lays m) ∧ True)) ∧ (¬ (v2 ≤ v5) → ((p_X9_laysWith m v5) ∧ ((p_X9_rules (f_X9_laysWith m v5) v1) ∧ ((p_X9_rules (f_X9_laysWith m v5) (1 - v1)) ∧ ((v3 = (-1) → (p_X9_habitNow_22 n (f_X9_laysWith m v5) v1 v2 v5 ((f_X9_rules (f_X9_laysWith m v5) v1) - (f_X9_rules (f_X9_laysWith m v5) (1 - v1))) (v5 + 1))) ∧ (¬ (v3 = (-1)) → ((((f_X9_rules (f_X9_laysWith m v5) v1) - (f_X9_rules (f_X9_laysWith m v5) (1 - v1))) ≤ v4 → (p_X9_habitNow_22 n (f_X9_laysWith m v5) v1 v2 v3 v4 (v5 + 1))) ∧ (¬ (((f_X9_rules (f_X9_laysWith m v5) v1) - (f_X9_rules (f_X9_laysWith m v5) (1 - v1))) ≤ v4) → (p_X9_habitNow_22 n (f_X9_laysWith m v5) v1 v2 v5 ((f_X9_rules (f_X9_laysWith m v5) v1) - (f_X9_rules (f_X9_laysWith m v5) (1 - v1))) (v5 + 1))))))))))
set_option maxHeartbeats 16000000 in
set_option maxRecDepth 20000 in
theorem l_X9_habitNow_22 (sc : SC)   (zq : Int32 × Rec)  : ∀ (n : Nat) (m : Rec) (v1 : Int32) (v2 : Int32) (v3 : Int32) (v4 : Int32) (v5 : Int32), p_X9_habitNow_22 n m v1 v2 v3 v4 v5 → zq = f_X9_habitNow_22 n m v1 v2 v3 v4 v5 → Good sc 5 0 0 17 mX9_habitNow (Ret (some (.int (zq.1))) (wM (zq.2))) 0 0 22 [some (.ref 0), some (.int v1), some (.int v2), some (.int v3), some (.int v4), some (.int v5), none] [] (wM m) := by
  intro n
  induction n with
  | zero => intro m v1 v2 v3 v4 v5 hp; exact hp.elim
  | succ n ih =>
    intro m v1 v2 v3 v4 v5 hp hq
    unfold p_X9_habitNow_22 at hp
    unfold f_X9_habitNow_22 at hq
    refine g_blk hz0 kX9_habitNow_22 ?_
    refine ⟨fun c1 => ?_, fun c1 => ?_⟩
    · rw [if_pos (show v2 ≤ v5 from c1)] at hq
      replace hp := hp.1 c1
      refine g_blk hz0 kX9_habitNow_74 ?_
      refine cV [0, 1, 2, 3, 4, 5, 6, 7, 8, 9, 10, 11, 12, 13, 14, 15, 16] (wM m) (s_X9_lays m hp.1) rfl cwX9_lays dX9_habitNow_75 rfl rfl (hm0_M_M _) rfl (wM (f_X9_lays m)) (pw0_M_M _ _) ?_
      replace hp := hp.2
      refine g_blk hz0 kX9_habitNow_78 ?_
      subst hq
      exact ⟨fun h => (by cases h), rfl, rfl⟩
    · rw [if_neg (show ¬ (v2 ≤ v5) from c1)] at hq
      replace hp := hp.2 c1
      refine g_blk hz0 kX9_habitNow_28 ?_
      refine cV [0, 1, 2, 3, 4, 5, 6, 7, 8, 9, 10, 11, 12, 13, 14, 15, 16] (wM m) (s_X9_laysWith m v5 hp.1) rfl cwX9_laysWith dX9_habitNow_31 rfl rfl (hm0_M_M _) rfl (wM (f_X9_laysWith m v5)) (pw0_M_M _ _) ?_
      replace hp := hp.2
      refine g_blk hz0 kX9_habitNow_34 ?_
      refine cVp [0, 1, 2, 3, 4, 5, 6, 7, 8, 9, 10, 11, 12, 13, 14, 15, 16] (wM (f_X9_laysWith m v5)) (s_X9_rules (f_X9_laysWith m v5) v1 hp.1) rfl cwX9_rules dX9_habitNow_36 rfl rfl (hm0_M_M _) ?_
      replace hp := hp.2
      refine g_blk hz0 kX9_habitNow_39 ?_
      refine cVp [0, 1, 2, 3, 4, 5, 6, 7, 8, 9, 10, 11, 12, 13, 14, 15, 16] (wM (f_X9_laysWith m v5)) (s_X9_rules (f_X9_laysWith m v5) (1 - v1) hp.1) rfl cwX9_rules dX9_habitNow_43 rfl rfl (hm0_M_M _) ?_
      replace hp := hp.2
      refine g_blk hz0 kX9_habitNow_46 ?_
      refine ⟨fun c2 => ?_, fun c2 => ?_⟩
      · rw [if_pos (show v3 = (-1) from c2)] at hq
        replace hp := hp.1 c2
        refine g_blk hz0 kX9_habitNow_61 ?_
        refine g_blk hz0 kX9_habitNow_68 ?_
        refine g_le (L2 := [some (.ref 0), some (.int v1), some (.int v2), some (.int v5), some (.int ((f_X9_rules (f_X9_laysWith m v5) v1) - (f_X9_rules (f_X9_laysWith m v5) (1 - v1)))), some (.int (v5 + 1)), none]) ⟨rfl, rfl, rfl, rfl, rfl, rfl, trivial⟩ ?_
        exact ih (f_X9_laysWith m v5) v1 v2 v5 ((f_X9_rules (f_X9_laysWith m v5) v1) - (f_X9_rules (f_X9_laysWith m v5) (1 - v1))) (v5 + 1) hp hq
      · rw [if_neg (show ¬ (v3 = (-1)) from c2)] at hq
        replace hp := hp.2 c2
        refine g_blk hz0 kX9_habitNow_54 ?_
        refine ⟨fun c3 => ?_, fun c3 => ?_⟩
        · rw [if_pos (show ((f_X9_rules (f_X9_laysWith m v5) v1) - (f_X9_rules (f_X9_laysWith m v5) (1 - v1))) ≤ v4 from c3)] at hq
          replace hp := hp.1 c3
          refine g_blk hz0 kX9_habitNow_68 ?_
          refine g_le (L2 := [some (.ref 0), some (.int v1), some (.int v2), some (.int v3), some (.int v4), some (.int (v5 + 1)), none]) ⟨rfl, rfl, rfl, rfl, rfl, rfl, trivial⟩ ?_
          exact ih (f_X9_laysWith m v5) v1 v2 v3 v4 (v5 + 1) hp hq
        · rw [if_neg (show ¬ (((f_X9_rules (f_X9_laysWith m v5) v1) - (f_X9_rules (f_X9_laysWith m v5) (1 - v1))) ≤ v4) from c3)] at hq
          replace hp := hp.2 c3
          refine g_blk hz0 kX9_habitNow_61 ?_
          refine g_blk hz0 kX9_habitNow_68 ?_
          refine g_le (L2 := [some (.ref 0), some (.int v1), some (.int v2), some (.int v5), some (.int ((f_X9_rules (f_X9_laysWith m v5) v1) - (f_X9_rules (f_X9_laysWith m v5) (1 - v1)))), some (.int (v5 + 1)), none]) ⟨rfl, rfl, rfl, rfl, rfl, rfl, trivial⟩ ?_
          exact ih (f_X9_laysWith m v5) v1 v2 v5 ((f_X9_rules (f_X9_laysWith m v5) v1) - (f_X9_rules (f_X9_laysWith m v5) (1 - v1))) (v5 + 1) hp hq
def f_X9_habitNow (m : Rec)  : Int32 × Rec := (f_X9_habitNow_22 4000000000 (f_X9_lays m) (f_X9_behind (f_X9_lays m)) (f_X9_foldsNow (f_X9_lays m)) (-1) 0 0)
def p_X9_habitNow (m : Rec)  : Prop := (p_X9_lays m) ∧ ((p_X9_behind (f_X9_lays m)) ∧ ((p_X9_foldsNow (f_X9_lays m)) ∧ (p_X9_habitNow_22 4000000000 (f_X9_lays m) (f_X9_behind (f_X9_lays m)) (f_X9_foldsNow (f_X9_lays m)) (-1) 0 0)))
set_option maxHeartbeats 16000000 in
set_option maxRecDepth 20000 in
theorem s_X9_habitNow (m : Rec)  (hp : p_X9_habitNow m) : Spec 5 0 0 mX9_habitNow [.ref 0] (wM m) (Ret (some (.int ((f_X9_habitNow m).1))) (wM ((f_X9_habitNow m).2))) := by
  obtain ⟨zq, hq⟩ : ∃ z, z = (f_X9_habitNow m) := ⟨_, rfl⟩
  rw [← hq]
  unfold f_X9_habitNow at hq
  unfold p_X9_habitNow at hp
  refine Sof fun sc => ?_
  refine g_blk hz0 kX9_habitNow_0 ?_
  refine cV [0, 1, 2, 3, 4, 5, 6, 7, 8, 9, 10, 11, 12, 13, 14, 15, 16] (wM m) (s_X9_lays m hp.1) rfl cwX9_lays dX9_habitNow_1 rfl rfl (hm0_M_M _) rfl (wM (f_X9_lays m)) (pw0_M_M _ _) ?_
  replace hp := hp.2
  refine g_blk hz0 kX9_habitNow_4 ?_
  refine cVp [0, 1, 2, 3, 4, 5, 6, 7, 8, 9, 10, 11, 12, 13, 14, 15, 16] (wM (f_X9_lays m)) (s_X9_behind (f_X9_lays m) hp.1) rfl cwX9_behind dX9_habitNow_5 rfl rfl (hm0_M_M _) ?_
  replace hp := hp.2
  refine g_blk hz0 kX9_habitNow_8 ?_
  refine cVp [0, 1, 2, 3, 4, 5, 6, 7, 8, 9, 10, 11, 12, 13, 14, 15, 16] (wM (f_X9_lays m)) (s_X9_foldsNow (f_X9_lays m) hp.1) rfl cwX9_foldsNow dX9_habitNow_10 rfl rfl (hm0_M_M _) ?_
  replace hp := hp.2
  refine g_blk hz0 kX9_habitNow_13 ?_
  refine g_le (L2 := [some (.ref 0), some (.int (f_X9_behind (f_X9_lays m))), some (.int (f_X9_foldsNow (f_X9_lays m))), some (.int (-1)), some (.int 0), some (.int 0), none]) ⟨rfl, rfl, rfl, rfl, rfl, rfl, trivial⟩ ?_
  exact l_X9_habitNow_22 sc zq 4000000000 (f_X9_lays m) (f_X9_behind (f_X9_lays m)) (f_X9_foldsNow (f_X9_lays m)) (-1) 0 0 hp hq

def f_X9_habit (m : Rec)  : Int32 × Rec := (((f_X9_habitNow m).1), ((f_X9_habitNow m).2))
def p_X9_habit (m : Rec)  : Prop := (p_X9_habitNow m) ∧ True
set_option maxHeartbeats 16000000 in
set_option maxRecDepth 20000 in
theorem s_X9_habit (m : Rec)  (hp : p_X9_habit m) : Spec 6 0 0 mX9_habit [.ref 0] (wM m) (Ret (some (.int ((f_X9_habit m).1))) (wM ((f_X9_habit m).2))) := by
  obtain ⟨zq, hq⟩ : ∃ z, z = (f_X9_habit m) := ⟨_, rfl⟩
  rw [← hq]
  unfold f_X9_habit at hq
  unfold p_X9_habit at hp
  refine Sof fun sc => ?_
  refine g_blk hz0 kX9_habit_0 ?_
  refine cV [0, 1, 2, 3, 4, 5, 6, 7, 8, 9, 10, 11, 12, 13, 14, 15, 16] (wM m) (s_X9_habitNow m hp.1) rfl cwX9_habitNow dX9_habit_1 rfl rfl (hm0_M_M _) rfl (wM ((f_X9_habitNow m).2)) (pw0_M_M _ _) ?_
  replace hp := hp.2
  refine g_blk hz0 kX9_habit_4 ?_
  subst hq
  exact ⟨fun h => (by cases h), rfl, rfl⟩

def f_X9_safeNow_4  : Nat → Rec → Int32 → Int32 → Int32
  | 0, m, v1, v2 => 0
  | n + 1, m, v1, v2 => if ((m.2 0) 2) ≤ v2 then v1 else (if (f_X9_isHere m v2) = 0 then (f_X9_safeNow_4 n m v1 (v2 + 1)) else (if (f_X9_ownerOf m (f_X9_rulerAt m ((m.2 4) (Int32.toNatClampNeg ((m.2 0) (Int32.toNatClampNeg (8 + v2))))) ((m.2 5) (Int32.toNatClampNeg ((m.2 0) (Int32.toNatClampNeg (8 + v2))))))) = (f_X9_ownerOf m v2) then (f_X9_safeNow_4 n m (v1 ||| (1 <<< (v2 &&& 31))) (v2 + 1)) else (f_X9_safeNow_4 n m (v1 ||| 0) (v2 + 1))))
def p_X9_safeNow_4  : Nat → Rec → Int32 → Int32 → Prop
  | 0, _, _, _ => False
  | n + 1, m, v1, v2 => (((m.2 0) 2) ≤ v2 → True) ∧ (¬ (((m.2 0) 2) ≤ v2) → ((p_X9_isHere m v2) ∧ (((f_X9_isHere m v2) = 0 → (p_X9_safeNow_4 n m v1 (v2 + 1))) ∧ (¬ ((f_X9_isHere m v2) = 0) → (vp_in (8 + v2) 248 ∧ (vp_in ((m.2 0) (Int32.toNatClampNeg (8 + v2))) 36 ∧ (vp_in (8 + v2) 248 ∧ (vp_in ((m.2 0) (Int32.toNatClampNeg (8 + v2))) 36 ∧ ((p_X9_rulerAt m ((m.2 4) (Int32.toNatClampNeg ((m.2 0) (Int32.toNatClampNeg (8 + v2))))) ((m.2 5) (Int32.toNatClampNeg ((m.2 0) (Int32.toNatClampNeg (8 + v2)))))) ∧ ((p_X9_ownerOf m (f_X9_rulerAt m ((m.2 4) (Int32.toNatClampNeg ((m.2 0) (Int32.toNatClampNeg (8 + v2))))) ((m.2 5) (Int32.toNatClampNeg ((m.2 0) (Int32.toNatClampNeg (8 + v2))))))) ∧ ((p_X9_ownerOf m v2) ∧ (((f_X9_ownerOf m (f_X9_rulerAt m ((m.2 4) (Int32.toNatClampNeg ((m.2 0) (Int32.toNatClampNeg (8 + v2))))) ((m.2 5) (Int32.toNatClampNeg ((m.2 0) (Int32.toNatClampNeg (8 + v2))))))) = (f_X9_ownerOf m v2) → (p_X9_safeNow_4 n m (v1 ||| (1 <<< (v2 &&& 31))) (v2 + 1))) ∧ (¬ ((f_X9_ownerOf m (f_X9_rulerAt m ((m.2 4) (Int32.toNatClampNeg ((m.2 0) (Int32.toNatClampNeg (8 + v2))))) ((m.2 5) (Int32.toNatClampNeg ((m.2 0) (Int32.toNatClampNeg (8 + v2))))))) = (f_X9_ownerOf m v2)) → (p_X9_safeNow_4 n m (v1 ||| 0) (v2 + 1)))))))))))))))
set_option maxHeartbeats 16000000 in
set_option maxRecDepth 20000 in
theorem l_X9_safeNow_4 (sc : SC) (m : Rec)  (zq : Int32)  : ∀ (n : Nat)  (v1 : Int32) (v2 : Int32), p_X9_safeNow_4 n m v1 v2 → zq = f_X9_safeNow_4 n m v1 v2 → Good sc 4 0 0 17 mX9_safeNow (Ret (some (.int (zq))) (wM m)) 0 0 4 [some (.ref 0), some (.int v1), some (.int v2)] [] (wM m) := by
  intro n
  induction n with
  | zero => intro v1 v2 hp; exact hp.elim
  | succ n ih =>
    intro v1 v2 hp hq
    unfold p_X9_safeNow_4 at hp
    unfold f_X9_safeNow_4 at hq
    refine g_blk hz0 kX9_safeNow_4 ?_
    refine ⟨vinL (by decide), ?_⟩
    refine ⟨fun c1 => ?_, fun c1 => ?_⟩
    · rw [if_pos (show ((m.2 0) 2) ≤ v2 from c1)] at hq
      refine g_blk hz0 kX9_safeNow_82 ?_
      subst hq
      exact ⟨fun h => (by cases h), rfl, rfl⟩
    · rw [if_neg (show ¬ (((m.2 0) 2) ≤ v2) from c1)] at hq
      replace hp := hp.2 c1
      refine g_blk hz0 kX9_safeNow_14 ?_
      refine cVp [0, 1, 2, 3, 4, 5, 6, 7, 8, 9, 10, 11, 12, 13, 14, 15, 16] (wM m) (s_X9_isHere m v2 hp.1) rfl cwX9_isHere dX9_safeNow_16 rfl rfl (hm0_M_M _) ?_
      replace hp := hp.2
      refine g_blk hz0 kX9_safeNow_19 ?_
      refine ⟨fun c2 => ?_, fun c2 => ?_⟩
      · rw [if_pos (show (f_X9_isHere m v2) = 0 from c2)] at hq
        replace hp := hp.1 c2
        refine g_blk hz0 kX9_safeNow_76 ?_
        refine g_le (L2 := [some (.ref 0), some (.int v1), some (.int (v2 + 1))]) ⟨rfl, rfl, rfl, trivial⟩ ?_
        exact ih v1 (v2 + 1) hp hq
      · rw [if_neg (show ¬ ((f_X9_isHere m v2) = 0) from c2)] at hq
        replace hp := hp.2 c2
        refine g_blk hz0 kX9_safeNow_22 ?_
        refine ⟨hp.1, ?_⟩
        replace hp := hp.2
        refine ⟨hp.1, ?_⟩
        replace hp := hp.2
        refine ⟨hp.1, ?_⟩
        replace hp := hp.2
        refine ⟨hp.1, ?_⟩
        replace hp := hp.2
        refine cVp [0, 1, 2, 3, 4, 5, 6, 7, 8, 9, 10, 11, 12, 13, 14, 15, 16] (wM m) (s_X9_rulerAt m ((m.2 4) (Int32.toNatClampNeg ((m.2 0) (Int32.toNatClampNeg (8 + v2))))) ((m.2 5) (Int32.toNatClampNeg ((m.2 0) (Int32.toNatClampNeg (8 + v2))))) hp.1) rfl cwX9_rulerAt dX9_safeNow_53 rfl rfl (hm0_M_M _) ?_
        replace hp := hp.2
        refine cVp [0, 1, 2, 3, 4, 5, 6, 7, 8, 9, 10, 11, 12, 13, 14, 15, 16] (wM m) (s_X9_ownerOf m (f_X9_rulerAt m ((m.2 4) (Int32.toNatClampNeg ((m.2 0) (Int32.toNatClampNeg (8 + v2))))) ((m.2 5) (Int32.toNatClampNeg ((m.2 0) (Int32.toNatClampNeg (8 + v2)))))) hp.1) rfl cwX9_ownerOf dX9_safeNow_56 rfl rfl (hm0_M_M _) ?_
        replace hp := hp.2
        refine g_blk hz0 kX9_safeNow_59 ?_
        refine cVp [0, 1, 2, 3, 4, 5, 6, 7, 8, 9, 10, 11, 12, 13, 14, 15, 16] (wM m) (s_X9_ownerOf m v2 hp.1) rfl cwX9_ownerOf dX9_safeNow_61 rfl rfl (hm0_M_M _) ?_
        replace hp := hp.2
        refine g_blk hz0 kX9_safeNow_64 ?_
        refine ⟨fun c3 => ?_, fun c3 => ?_⟩
        · rw [if_neg (show ¬ ((f_X9_ownerOf m (f_X9_rulerAt m ((m.2 4) (Int32.toNatClampNeg ((m.2 0) (Int32.toNatClampNeg (8 + v2))))) ((m.2 5) (Int32.toNatClampNeg ((m.2 0) (Int32.toNatClampNeg (8 + v2))))))) = (f_X9_ownerOf m v2)) from c3)] at hq
          replace hp := hp.2 c3
          refine g_blk hz0 kX9_safeNow_73 ?_
          refine g_blk hz0 kX9_safeNow_74 ?_
          refine g_blk hz0 kX9_safeNow_76 ?_
          refine g_le (L2 := [some (.ref 0), some (.int (v1 ||| 0)), some (.int (v2 + 1))]) ⟨rfl, rfl, rfl, trivial⟩ ?_
          exact ih (v1 ||| 0) (v2 + 1) hp hq
        · rw [if_pos (show (f_X9_ownerOf m (f_X9_rulerAt m ((m.2 4) (Int32.toNatClampNeg ((m.2 0) (Int32.toNatClampNeg (8 + v2))))) ((m.2 5) (Int32.toNatClampNeg ((m.2 0) (Int32.toNatClampNeg (8 + v2))))))) = (f_X9_ownerOf m v2) from c3)] at hq
          replace hp := hp.1 c3
          refine g_blk hz0 kX9_safeNow_67 ?_
          refine g_blk hz0 kX9_safeNow_74 ?_
          refine g_blk hz0 kX9_safeNow_76 ?_
          refine g_le (L2 := [some (.ref 0), some (.int (v1 ||| (1 <<< (v2 &&& 31)))), some (.int (v2 + 1))]) ⟨rfl, rfl, rfl, trivial⟩ ?_
          exact ih (v1 ||| (1 <<< (v2 &&& 31))) (v2 + 1) hp hq
def f_X9_safeNow (m : Rec)  : Int32 := (f_X9_safeNow_4 40 m 0 0)
def p_X9_safeNow (m : Rec)  : Prop := (p_X9_safeNow_4 40 m 0 0)
set_option maxHeartbeats 16000000 in
set_option maxRecDepth 20000 in
theorem s_X9_safeNow (m : Rec)  (hp : p_X9_safeNow m) : Spec 4 0 0 mX9_safeNow [.ref 0] (wM m) (Ret (some (.int ((f_X9_safeNow m)))) (wM m)) := by
  obtain ⟨zq, hq⟩ : ∃ z, z = (f_X9_safeNow m) := ⟨_, rfl⟩
  rw [← hq]
  unfold f_X9_safeNow at hq
  unfold p_X9_safeNow at hp
  refine Sof fun sc => ?_
  refine g_blk hz0 kX9_safeNow_0 ?_
  refine g_le (L2 := [some (.ref 0), some (.int 0), some (.int 0)]) ⟨rfl, rfl, rfl, trivial⟩ ?_
  exact l_X9_safeNow_4 sc m zq 40 0 0 hp hq

def f_X9_safe_16  : Nat → Rec → Int32 → Int32 → Int32 → Int32 × Rec
  | 0, m, v1, v2, v3 => (0, m)
  | n + 1, m, v1, v2, v3 => if v2 ≤ v3 then (v1, m) else (f_X9_safe_16 n (f_X9_laysWith m v3) (v1 &&& (f_X9_safeNow (f_X9_laysWith m v3))) v2 (v3 + 1))
def p_X9_safe_16  : Nat → Rec → Int32 → Int32 → Int32 → Prop
  | 0, _, _, _, _ => False
  | n + 1, m, v1, v2, v3 => (v2 ≤ v3 → True) ∧ (¬ (v2 ≤ v3) → ((p_X9_laysWith m v3) ∧ ((p_X9_safeNow (f_X9_laysWith m v3)) ∧ (p_X9_safe_16 n (f_X9_laysWith m v3) (v1 &&& (f_X9_safeNow (f_X9_laysWith m v3))) v2 (v3 + 1)))))
set_option maxHeartbeats 16000000 in
set_option maxRecDepth 20000 in
theorem l_X9_safe_16 (sc : SC)   (zq : Int32 × Rec)  : ∀ (n : Nat) (m : Rec) (v1 : Int32) (v2 : Int32) (v3 : Int32), p_X9_safe_16 n m v1 v2 v3 → zq = f_X9_safe_16 n m v1 v2 v3 → Good sc 5 0 0 17 mX9_safe (Ret (some (.int (zq.1))) (wM (zq.2))) 0 0 16 [some (.ref 0), some (.int v1), some (.int v2), some (.int v3)] [] (wM m) := by
  intro n
  induction n with
  | zero => intro m v1 v2 v3 hp; exact hp.elim
  | succ n ih =>
    intro m v1 v2 v3 hp hq
    unfold p_X9_safe_16 at hp
    unfold f_X9_safe_16 at hq
    refine g_blk hz0 kX9_safe_16 ?_
    refine ⟨fun c1 => ?_, fun c1 => ?_⟩
    · rw [if_pos (show v2 ≤ v3 from c1)] at hq
      refine g_blk hz0 kX9_safe_39 ?_
      subst hq
      exact ⟨fun h => (by cases h), rfl, rfl⟩
    · rw [if_neg (show ¬ (v2 ≤ v3) from c1)] at hq
      replace hp := hp.2 c1
      refine g_blk hz0 kX9_safe_21 ?_
      refine cV [0, 1, 2, 3, 4, 5, 6, 7, 8, 9, 10, 11, 12, 13, 14, 15, 16] (wM m) (s_X9_laysWith m v3 hp.1) rfl cwX9_laysWith dX9_safe_23 rfl rfl (hm0_M_M _) rfl (wM (f_X9_laysWith m v3)) (pw0_M_M _ _) ?_
      replace hp := hp.2
      refine g_blk hz0 kX9_safe_26 ?_
      refine cVp [0, 1, 2, 3, 4, 5, 6, 7, 8, 9, 10, 11, 12, 13, 14, 15, 16] (wM (f_X9_laysWith m v3)) (s_X9_safeNow (f_X9_laysWith m v3) hp.1) rfl cwX9_safeNow dX9_safe_28 rfl rfl (hm0_M_M _) ?_
      replace hp := hp.2
      refine g_blk hz0 kX9_safe_31 ?_
      refine g_le (L2 := [some (.ref 0), some (.int (v1 &&& (f_X9_safeNow (f_X9_laysWith m v3)))), some (.int v2), some (.int (v3 + 1))]) ⟨rfl, rfl, rfl, rfl, trivial⟩ ?_
      exact ih (f_X9_laysWith m v3) (v1 &&& (f_X9_safeNow (f_X9_laysWith m v3))) v2 (v3 + 1) hp hq
def f_X9_safe (m : Rec)  : Int32 × Rec := (f_X9_safe_16 4000000000 (f_X9_lays m) (f_X9_safeNow (f_X9_lays m)) (f_X9_foldsNow (f_X9_lays m)) 0)
def p_X9_safe (m : Rec)  : Prop := (p_X9_lays m) ∧ ((p_X9_safeNow (f_X9_lays m)) ∧ ((p_X9_foldsNow (f_X9_lays m)) ∧ (p_X9_safe_16 4000000000 (f_X9_lays m) (f_X9_safeNow (f_X9_lays m)) (f_X9_foldsNow (f_X9_lays m)) 0)))
set_option maxHeartbeats 16000000 in
set_option maxRecDepth 20000 in
theorem s_X9_safe (m : Rec)  (hp : p_X9_safe m) : Spec 5 0 0 mX9_safe [.ref 0] (wM m) (Ret (some (.int ((f_X9_safe m).1))) (wM ((f_X9_safe m).2))) := by
  obtain ⟨zq, hq⟩ : ∃ z, z = (f_X9_safe m) := ⟨_, rfl⟩
  rw [← hq]
  unfold f_X9_safe at hq
  unfold p_X9_safe at hp
  refine Sof fun sc => ?_
  refine g_blk hz0 kX9_safe_0 ?_
  refine cV [0, 1, 2, 3, 4, 5, 6, 7, 8, 9, 10, 11, 12, 13, 14, 15, 16] (wM m) (s_X9_lays m hp.1) rfl cwX9_lays dX9_safe_1 rfl rfl (hm0_M_M _) rfl (wM (f_X9_lays m)) (pw0_M_M _ _) ?_
  replace hp := hp.2
  refine g_blk hz0 kX9_safe_4 ?_
  refine cVp [0, 1, 2, 3, 4, 5, 6, 7, 8, 9, 10, 11, 12, 13, 14, 15, 16] (wM (f_X9_lays m)) (s_X9_safeNow (f_X9_lays m) hp.1) rfl cwX9_safeNow dX9_safe_5 rfl rfl (hm0_M_M _) ?_
  replace hp := hp.2
  refine g_blk hz0 kX9_safe_8 ?_
  refine cVp [0, 1, 2, 3, 4, 5, 6, 7, 8, 9, 10, 11, 12, 13, 14, 15, 16] (wM (f_X9_lays m)) (s_X9_foldsNow (f_X9_lays m) hp.1) rfl cwX9_foldsNow dX9_safe_10 rfl rfl (hm0_M_M _) ?_
  replace hp := hp.2
  refine g_blk hz0 kX9_safe_13 ?_
  refine g_le (L2 := [some (.ref 0), some (.int (f_X9_safeNow (f_X9_lays m))), some (.int (f_X9_foldsNow (f_X9_lays m))), some (.int 0)]) ⟨rfl, rfl, rfl, rfl, trivial⟩ ?_
  exact l_X9_safe_16 sc zq 4000000000 (f_X9_lays m) (f_X9_safeNow (f_X9_lays m)) (f_X9_foldsNow (f_X9_lays m)) 0 hp hq

def f_X9_places_19 (K4 : Rec → Int32 → Int32 → Int32) : Nat → Rec → Int32 → Int32 → Int32 → Int32 → Int32
  | 0, m, v1, v2, v3, v4 => 0
  | n + 1, m, v1, v2, v3, v4 => if v2 ≤ v4 then (if v3 = 0 then (K4 m (v1 + 0) (v2 + 1)) else (K4 m (v1 + 1) (v2 + 1))) else (if v3 = 0 then (if v3 = 0 then (K4 m (v1 + 0) (v2 + 1)) else (K4 m (v1 + 1) (v2 + 1))) else (if (f_X9_isAt m v4 ((m.2 4) (Int32.toNatClampNeg v2)) ((m.2 5) (Int32.toNatClampNeg v2))) = 0 then (f_X9_places_19 K4 n m v1 v2 1 (v4 + 1)) else (f_X9_places_19 K4 n m v1 v2 0 (v4 + 1))))
def p_X9_places_19 (G4 : Rec → Int32 → Int32 → Prop) : Nat → Rec → Int32 → Int32 → Int32 → Int32 → Prop
  | 0, _, _, _, _, _ => False
  | n + 1, m, v1, v2, v3, v4 => (v2 ≤ v4 → ((v3 = 0 → (G4 m (v1 + 0) (v2 + 1))) ∧ (¬ (v3 = 0) → (G4 m (v1 + 1) (v2 + 1))))) ∧ (¬ (v2 ≤ v4) → ((v3 = 0 → ((v3 = 0 → (G4 m (v1 + 0) (v2 + 1))) ∧ (¬ (v3 = 0) → (G4 m (v1 + 1) (v2 + 1))))) ∧ (¬ (v3 = 0) → (vp_in v2 36 ∧ (vp_in v2 36 ∧ ((p_X9_isAt m v4 ((m.2 4) (Int32.toNatClampNeg v2)) ((m.2 5) (Int32.toNatClampNeg v2))) ∧ (((f_X9_isAt m v4 ((m.2 4) (Int32.toNatClampNeg v2)) ((m.2 5) (Int32.toNatClampNeg v2))) = 0 → (p_X9_places_19 G4 n m v1 v2 1 (v4 + 1))) ∧ (¬ ((f_X9_isAt m v4 ((m.2 4) (Int32.toNatClampNeg v2)) ((m.2 5) (Int32.toNatClampNeg v2))) = 0) → (p_X9_places_19 G4 n m v1 v2 0 (v4 + 1))))))))))
set_option maxHeartbeats 16000000 in
set_option maxRecDepth 20000 in
theorem l_X9_places_19 (sc : SC) (m : Rec) {K4 : Rec → Int32 → Int32 → Int32} {G4 : Rec → Int32 → Int32 → Prop} (zq : Int32) (hK4 : ∀ (v1 : Int32) (v2 : Int32), G4 m v1 v2 → zq = K4 m v1 v2 → Good sc 3 0 0 17 mX9_places (Ret (some (.int (zq))) (wM m)) 0 0 4 [some (.ref 0), some (.int v1), some (.int v2), none, none] [] (wM m)) : ∀ (n : Nat)  (v1 : Int32) (v2 : Int32) (v3 : Int32) (v4 : Int32), p_X9_places_19 G4 n m v1 v2 v3 v4 → zq = f_X9_places_19 K4 n m v1 v2 v3 v4 → Good sc 3 0 0 17 mX9_places (Ret (some (.int (zq))) (wM m)) 0 0 19 [some (.ref 0), some (.int v1), some (.int v2), some (.int v3), some (.int v4)] [] (wM m) := by
  intro n
  induction n with
  | zero => intro v1 v2 v3 v4 hp; exact hp.elim
  | succ n ih =>
    intro v1 v2 v3 v4 hp hq
    unfold p_X9_places_19 at hp
    unfold f_X9_places_19 at hq
    refine g_blk hz0 kX9_places_19 ?_
    refine ⟨fun c2 => ?_, fun c2 => ?_⟩
    · rw [if_pos (show v2 ≤ v4 from c2)] at hq
      replace hp := hp.1 c2
      refine g_blk hz0 kX9_places_62 ?_
      refine ⟨fun c3 => ?_, fun c3 => ?_⟩
      · rw [if_pos (show v3 = 0 from c3)] at hq
        replace hp := hp.1 c3
        refine g_blk hz0 kX9_places_71 ?_
        refine g_blk hz0 kX9_places_72 ?_
        refine g_le (L2 := [some (.ref 0), some (.int (v1 + 0)), some (.int (v2 + 1)), none, none]) ⟨rfl, rfl, rfl, trivial⟩ ?_
        exact hK4 (v1 + 0) (v2 + 1) hp hq
      · rw [if_neg (show ¬ (v3 = 0) from c3)] at hq
        replace hp := hp.2 c3
        refine g_blk hz0 kX9_places_67 ?_
        refine g_blk hz0 kX9_places_72 ?_
        refine g_le (L2 := [some (.ref 0), some (.int (v1 + 1)), some (.int (v2 + 1)), none, none]) ⟨rfl, rfl, rfl, trivial⟩ ?_
        exact hK4 (v1 + 1) (v2 + 1) hp hq
    · rw [if_neg (show ¬ (v2 ≤ v4) from c2)] at hq
      replace hp := hp.2 c2
      refine g_blk hz0 kX9_places_25 ?_
      refine ⟨fun c4 => ?_, fun c4 => ?_⟩
      · rw [if_pos (show v3 = 0 from c4)] at hq
        replace hp := hp.1 c4
        refine g_blk hz0 kX9_places_62 ?_
        refine ⟨fun c5 => ?_, fun c5 => ?_⟩
        · rw [if_pos (show v3 = 0 from c5)] at hq
          replace hp := hp.1 c5
          refine g_blk hz0 kX9_places_71 ?_
          refine g_blk hz0 kX9_places_72 ?_
          refine g_le (L2 := [some (.ref 0), some (.int (v1 + 0)), some (.int (v2 + 1)), none, none]) ⟨rfl, rfl, rfl, trivial⟩ ?_
          exact hK4 (v1 + 0) (v2 + 1) hp hq
        · rw [if_neg (show ¬ (v3 = 0) from c5)] at hq
          replace hp := hp.2 c5
          refine g_blk hz0 kX9_places_67 ?_
          refine g_blk hz0 kX9_places_72 ?_
          refine g_le (L2 := [some (.ref 0), some (.int (v1 + 1)), some (.int (v2 + 1)), none, none]) ⟨rfl, rfl, rfl, trivial⟩ ?_
          exact hK4 (v1 + 1) (v2 + 1) hp hq
      · rw [if_neg (show ¬ (v3 = 0) from c4)] at hq
        replace hp := hp.2 c4
        refine g_blk hz0 kX9_places_29 ?_
        refine ⟨hp.1, ?_⟩
        replace hp := hp.2
        refine ⟨hp.1, ?_⟩
        replace hp := hp.2
        refine cVp [0, 1, 2, 3, 4, 5, 6, 7, 8, 9, 10, 11, 12, 13, 14, 15, 16] (wM m) (s_X9_isAt m v4 ((m.2 4) (Int32.toNatClampNeg v2)) ((m.2 5) (Int32.toNatClampNeg v2)) hp.1) rfl cwX9_isAt dX9_places_44 rfl rfl (hm0_M_M _) ?_
        replace hp := hp.2
        refine g_blk hz0 kX9_places_47 ?_
        refine ⟨fun c6 => ?_, fun c6 => ?_⟩
        · rw [if_neg (show ¬ ((f_X9_isAt m v4 ((m.2 4) (Int32.toNatClampNeg v2)) ((m.2 5) (Int32.toNatClampNeg v2))) = 0) from c6)] at hq
          replace hp := hp.2 c6
          refine g_blk hz0 kX9_places_54 ?_
          refine g_blk hz0 kX9_places_55 ?_
          refine g_le (L2 := [some (.ref 0), some (.int v1), some (.int v2), some (.int 0), some (.int (v4 + 1))]) ⟨rfl, rfl, rfl, rfl, rfl, trivial⟩ ?_
          exact ih v1 v2 0 (v4 + 1) hp hq
        · rw [if_pos (show (f_X9_isAt m v4 ((m.2 4) (Int32.toNatClampNeg v2)) ((m.2 5) (Int32.toNatClampNeg v2))) = 0 from c6)] at hq
          replace hp := hp.1 c6
          refine g_blk hz0 kX9_places_50 ?_
          refine g_blk hz0 kX9_places_55 ?_
          refine g_le (L2 := [some (.ref 0), some (.int v1), some (.int v2), some (.int 1), some (.int (v4 + 1))]) ⟨rfl, rfl, rfl, rfl, rfl, trivial⟩ ?_
          exact ih v1 v2 1 (v4 + 1) hp hq
def f_X9_places_4  : Nat → Rec → Int32 → Int32 → Int32
  | 0, m, v1, v2 => 0
  | n + 1, m, v1, v2 => if 36 ≤ v2 then v1 else (f_X9_places_19 (f_X9_places_4 n) 40 m v1 v2 (f_X9_isCell m v2) 0)
def p_X9_places_4  : Nat → Rec → Int32 → Int32 → Prop
  | 0, _, _, _ => False
  | n + 1, m, v1, v2 => (36 ≤ v2 → True) ∧ (¬ (36 ≤ v2) → ((p_X9_isCell m v2) ∧ (p_X9_places_19 (p_X9_places_4 n) 40 m v1 v2 (f_X9_isCell m v2) 0)))
set_option maxHeartbeats 16000000 in
set_option maxRecDepth 20000 in
theorem l_X9_places_4 (sc : SC) (m : Rec)  (zq : Int32)  : ∀ (n : Nat)  (v1 : Int32) (v2 : Int32), p_X9_places_4 n m v1 v2 → zq = f_X9_places_4 n m v1 v2 → Good sc 3 0 0 17 mX9_places (Ret (some (.int (zq))) (wM m)) 0 0 4 [some (.ref 0), some (.int v1), some (.int v2), none, none] [] (wM m) := by
  intro n
  induction n with
  | zero => intro v1 v2 hp; exact hp.elim
  | succ n ih =>
    intro v1 v2 hp hq
    unfold p_X9_places_4 at hp
    unfold f_X9_places_4 at hq
    refine g_blk hz0 kX9_places_4 ?_
    refine ⟨fun c1 => ?_, fun c1 => ?_⟩
    · rw [if_pos (show 36 ≤ v2 from c1)] at hq
      refine g_blk hz0 kX9_places_80 ?_
      subst hq
      exact ⟨fun h => (by cases h), rfl, rfl⟩
    · rw [if_neg (show ¬ (36 ≤ v2) from c1)] at hq
      replace hp := hp.2 c1
      refine g_blk hz0 kX9_places_10 ?_
      refine cVp [0, 1, 2, 3, 4, 5, 6, 7, 8, 9, 10, 11, 12, 13, 14, 15, 16] (wM m) (s_X9_isCell m v2 hp.1) rfl cwX9_isCell dX9_places_12 rfl rfl (hm0_M_M _) ?_
      replace hp := hp.2
      refine g_blk hz0 kX9_places_15 ?_
      refine g_le (L2 := [some (.ref 0), some (.int v1), some (.int v2), some (.int (f_X9_isCell m v2)), some (.int 0)]) ⟨rfl, rfl, rfl, rfl, rfl, trivial⟩ ?_
      exact l_X9_places_19 sc m zq (fun r0 r1 hp hq => ih r0 r1 hp hq) 40 v1 v2 (f_X9_isCell m v2) 0 hp hq
def f_X9_places (m : Rec)  : Int32 := (f_X9_places_4 40 m 0 0)
def p_X9_places (m : Rec)  : Prop := (p_X9_places_4 40 m 0 0)
set_option maxHeartbeats 16000000 in
set_option maxRecDepth 20000 in
theorem s_X9_places (m : Rec)  (hp : p_X9_places m) : Spec 3 0 0 mX9_places [.ref 0] (wM m) (Ret (some (.int ((f_X9_places m)))) (wM m)) := by
  obtain ⟨zq, hq⟩ : ∃ z, z = (f_X9_places m) := ⟨_, rfl⟩
  rw [← hq]
  unfold f_X9_places at hq
  unfold p_X9_places at hp
  refine Sof fun sc => ?_
  refine g_blk hz0 kX9_places_0 ?_
  refine g_le (L2 := [some (.ref 0), some (.int 0), some (.int 0), none, none]) ⟨rfl, rfl, rfl, trivial⟩ ?_
  exact l_X9_places_4 sc m zq 40 0 0 hp hq
