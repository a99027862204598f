def f_X9_rules_36 (K4 : Rec → Int32 → Int32 → Int32 → Int32) (m : Rec) (v1 : Int32) (v2 : Int32) (v3 : Int32) (u0 : Int32) : Int32 := if u0 = 0 then (K4 m v1 (v2 + (Int32.ofInt 0)) (v3 + (Int32.ofInt 1))) else (if 0 ≤ ((m.2 0) (Int32.toNatClampNeg ((Int32.ofInt 8) + v3))) then (if 0 ≤ ((m.2 0) (Int32.toNatClampNeg ((Int32.ofInt 8) + v3))) then (if (f_X9_rulerAt m ((m.2 4) (Int32.toNatClampNeg ((m.2 0) (Int32.toNatClampNeg ((Int32.ofInt 8) + v3))))) ((m.2 5) (Int32.toNatClampNeg ((m.2 0) (Int32.toNatClampNeg ((Int32.ofInt 8) + v3)))))) = v3 then (K4 m v1 (v2 + (Int32.ofInt 1)) (v3 + (Int32.ofInt 1))) else (K4 m v1 (v2 + (Int32.ofInt 0)) (v3 + (Int32.ofInt 1)))) else (if (f_X9_rulerAt m ((m.2 4) (Int32.toNatClampNeg ((m.2 0) (Int32.toNatClampNeg ((Int32.ofInt 8) + v3))))) ((m.2 5) (Int32.toNatClampNeg (Int32.ofInt 0)))) = v3 then (K4 m v1 (v2 + (Int32.ofInt 1)) (v3 + (Int32.ofInt 1))) else (K4 m v1 (v2 + (Int32.ofInt 0)) (v3 + (Int32.ofInt 1))))) else (if 0 ≤ ((m.2 0) (Int32.toNatClampNeg ((Int32.ofInt 8) + v3))) then (if (f_X9_rulerAt m ((m.2 4) (Int32.toNatClampNeg (Int32.ofInt 0))) ((m.2 5) (Int32.toNatClampNeg ((m.2 0) (Int32.toNatClampNeg ((Int32.ofInt 8) + v3)))))) = v3 then (K4 m v1 (v2 + (Int32.ofInt 1)) (v3 + (Int32.ofInt 1))) else (K4 m v1 (v2 + (Int32.ofInt 0)) (v3 + (Int32.ofInt 1)))) else (if (f_X9_rulerAt m ((m.2 4) (Int32.toNatClampNeg (Int32.ofInt 0))) ((m.2 5) (Int32.toNatClampNeg (Int32.ofInt 0)))) = v3 then (K4 m v1 (v2 + (Int32.ofInt 1)) (v3 + (Int32.ofInt 1))) else (K4 m v1 (v2 + (Int32.ofInt 0)) (v3 + (Int32.ofInt 1))))))
def p_X9_rules_36 (G4 : Rec → Int32 → Int32 → Int32 → Prop) (m : Rec) (v1 : Int32) (v2 : Int32) (v3 : Int32) (u0 : Int32) : Prop := (u0 = 0 → (G4 m v1 (v2 + (Int32.ofInt 0)) (v3 + (Int32.ofInt 1)))) ∧ (¬ (u0 = 0) → (vp_in ((Int32.ofInt 8) + v3) 248 ∧ ((0 ≤ ((m.2 0) (Int32.toNatClampNeg ((Int32.ofInt 8) + v3))) → (vp_in ((Int32.ofInt 8) + v3) 248 ∧ (vp_in ((m.2 0) (Int32.toNatClampNeg ((Int32.ofInt 8) + v3))) 36 ∧ (vp_in ((Int32.ofInt 8) + v3) 248 ∧ ((0 ≤ ((m.2 0) (Int32.toNatClampNeg ((Int32.ofInt 8) + v3))) → (vp_in ((Int32.ofInt 8) + v3) 248 ∧ (vp_in ((m.2 0) (Int32.toNatClampNeg ((Int32.ofInt 8) + v3))) 36 ∧ ((p_X9_rulerAt m ((m.2 4) (Int32.toNatClampNeg ((m.2 0) (Int32.toNatClampNeg ((Int32.ofInt 8) + v3))))) ((m.2 5) (Int32.toNatClampNeg ((m.2 0) (Int32.toNatClampNeg ((Int32.ofInt 8) + v3)))))) ∧ (((f_X9_rulerAt m ((m.2 4) (Int32.toNatClampNeg ((m.2 0) (Int32.toNatClampNeg ((Int32.ofInt 8) + v3))))) ((m.2 5) (Int32.toNatClampNeg ((m.2 0) (Int32.toNatClampNeg ((Int32.ofInt 8) + v3)))))) = v3 → (G4 m v1 (v2 + (Int32.ofInt 1)) (v3 + (Int32.ofInt 1)))) ∧ (¬ ((f_X9_rulerAt m ((m.2 4) (Int32.toNatClampNeg ((m.2 0) (Int32.toNatClampNeg ((Int32.ofInt 8) + v3))))) ((m.2 5) (Int32.toNatClampNeg ((m.2 0) (Int32.toNatClampNeg ((Int32.ofInt 8) + v3)))))) = v3) → (G4 m v1 (v2 + (Int32.ofInt 0)) (v3 + (Int32.ofInt 1))))))))) ∧ (¬ (0 ≤ ((m.2 0) (Int32.toNatClampNeg ((Int32.ofInt 8) + v3)))) → ((p_X9_rulerAt m ((m.2 4) (Int32.toNatClampNeg ((m.2 0) (Int32.toNatClampNeg ((Int32.ofInt 8) + v3))))) ((m.2 5) (Int32.toNatClampNeg (Int32.ofInt 0)))) ∧ (((f_X9_rulerAt m ((m.2 4) (Int32.toNatClampNeg ((m.2 0) (Int32.toNatClampNeg ((Int32.ofInt 8) + v3))))) ((m.2 5) (Int32.toNatClampNeg (Int32.ofInt 0)))) = v3 → (G4 m v1 (v2 + (Int32.ofInt 1)) (v3 + (Int32.ofInt 1)))) ∧ (¬ ((f_X9_rulerAt m ((m.2 4) (Int32.toNatClampNeg ((m.2 0) (Int32.toNatClampNeg ((Int32.ofInt 8) + v3))))) ((m.2 5) (Int32.toNatClampNeg (Int32.ofInt 0)))) = v3) → (G4 m v1 (v2 + (Int32.ofInt 0)) (v3 + (Int32.ofInt 1)))))))))))) ∧ (¬ (0 ≤ ((m.2 0) (Int32.toNatClampNeg ((Int32.ofInt 8) + v3)))) → (vp_in ((Int32.ofInt 8) + v3) 248 ∧ ((0 ≤ ((m.2 0) (Int32.toNatClampNeg ((Int32.ofInt 8) + v3))) → (vp_in ((Int32.ofInt 8) + v3) 248 ∧ (vp_in ((m.2 0) (Int32.toNatClampNeg ((Int32.ofInt 8) + v3))) 36 ∧ ((p_X9_rulerAt m ((m.2 4) (Int32.toNatClampNeg (Int32.ofInt 0))) ((m.2 5) (Int32.toNatClampNeg ((m.2 0) (Int32.toNatClampNeg ((Int32.ofInt 8) + v3)))))) ∧ (((f_X9_rulerAt m ((m.2 4) (Int32.toNatClampNeg (Int32.ofInt 0))) ((m.2 5) (Int32.toNatClampNeg ((m.2 0) (Int32.toNatClampNeg ((Int32.ofInt 8) + v3)))))) = v3 → (G4 m v1 (v2 + (Int32.ofInt 1)) (v3 + (Int32.ofInt 1)))) ∧ (¬ ((f_X9_rulerAt m ((m.2 4) (Int32.toNatClampNeg (Int32.ofInt 0))) ((m.2 5) (Int32.toNatClampNeg ((m.2 0) (Int32.toNatClampNeg ((Int32.ofInt 8) + v3)))))) = v3) → (G4 m v1 (v2 + (Int32.ofInt 0)) (v3 + (Int32.ofInt 1))))))))) ∧ (¬ (0 ≤ ((m.2 0) (Int32.toNatClampNeg ((Int32.ofInt 8) + v3)))) → ((p_X9_rulerAt m ((m.2 4) (Int32.toNatClampNeg (Int32.ofInt 0))) ((m.2 5) (Int32.toNatClampNeg (Int32.ofInt 0)))) ∧ (((f_X9_rulerAt m ((m.2 4) (Int32.toNatClampNeg (Int32.ofInt 0))) ((m.2 5) (Int32.toNatClampNeg (Int32.ofInt 0)))) = v3 → (G4 m v1 (v2 + (Int32.ofInt 1)) (v3 + (Int32.ofInt 1)))) ∧ (¬ ((f_X9_rulerAt m ((m.2 4) (Int32.toNatClampNeg (Int32.ofInt 0))) ((m.2 5) (Int32.toNatClampNeg (Int32.ofInt 0)))) = v3) → (G4 m v1 (v2 + (Int32.ofInt 0)) (v3 + (Int32.ofInt 1)))))))))))))
set_option maxHeartbeats 16000000 in
set_option maxRecDepth 20000 in
theorem l_X9_rules_36 (sc : SC) (m : Rec) {K4 : Rec → Int32 → Int32 → Int32 → Int32} {G4 : Rec → Int32 → Int32 → Int32 → Prop} (zq : Int32) (hK4 : ∀ (v1 : Int32) (v2 : Int32) (v3 : Int32), G4 m v1 v2 v3 → zq = K4 m v1 v2 v3 → Good sc 4 0 0 17 mX9_rules (Ret (some (.int (zq))) (wM m)) 0 0 4 [some (.ref 0), some (.int v1), some (.int v2), some (.int v3), none] [] (wM m))  (v1 : Int32) (v2 : Int32) (v3 : Int32) (u0 : Int32) (hp : p_X9_rules_36 G4 m v1 v2 v3 u0) (hq : zq = f_X9_rules_36 K4 m v1 v2 v3 u0) : Good sc 4 0 0 17 mX9_rules (Ret (some (.int (zq))) (wM m)) 0 0 36 [some (.ref 0), some (.int v1), some (.int v2), some (.int v3), none] [.int u0] (wM m) := by
  unfold p_X9_rules_36 at hp
  unfold f_X9_rules_36 at hq
  refine g_blk hz0 kX9_rules_36 ?_
  refine ⟨fun c4 => ?_, fun c4 => ?_⟩
  · rw [if_pos (show u0 = 0 from c4)] at hq
    replace hp := hp.1 c4
    refine g_blk hz0 kX9_rules_116 ?_
    refine g_blk hz0 kX9_rules_117 ?_
    refine g_le (L2 := [some (.ref 0), some (.int v1), some (.int (v2 + (Int32.ofInt 0))), some (.int (v3 + (Int32.ofInt 1))), none]) ⟨rfl, rfl, rfl, rfl, trivial⟩ ?_
    exact hK4 v1 (v2 + (Int32.ofInt 0)) (v3 + (Int32.ofInt 1)) hp hq
  · rw [if_neg (show ¬ (u0 = 0) from c4)] at hq
    replace hp := hp.2 c4
    refine g_blk hz0 kX9_rules_44 ?_
    refine ⟨hp.1, ?_⟩
    replace hp := hp.2
    refine ⟨fun c5 => ?_, fun c5 => ?_⟩
    · rw [if_pos (show 0 ≤ ((m.2 0) (Int32.toNatClampNeg ((Int32.ofInt 8) + v3))) from c5)] at hq
      replace hp := hp.1 c5
      refine g_blk hz0 kX9_rules_65 ?_
      refine ⟨hp.1, ?_⟩
      replace hp := hp.2
      refine g_blk hz0 kX9_rules_74 ?_
      refine ⟨hp.1, ?_⟩
      replace hp := hp.2
      refine ⟨hp.1, ?_⟩
      replace hp := hp.2
      refine ⟨fun c6 => ?_, fun c6 => ?_⟩
      · rw [if_pos (show 0 ≤ ((m.2 0) (Int32.toNatClampNeg ((Int32.ofInt 8) + v3))) from c6)] at hq
        replace hp := hp.1 c6
        refine g_blk hz0 kX9_rules_95 ?_
        refine ⟨hp.1, ?_⟩
        replace hp := hp.2
        refine g_blk hz0 kX9_rules_104 ?_
        refine ⟨hp.1, ?_⟩
        replace hp := hp.2
        refine cVp [0, 1, 2, 3, 4, 5, 6, 7, 8, 9, 10, 11, 12, 13, 14, 15, 16] (wM m) (s_X9_rulerAt m ((m.2 4) (Int32.toNatClampNeg ((m.2 0) (Int32.toNatClampNeg ((Int32.ofInt 8) + v3))))) ((m.2 5) (Int32.toNatClampNeg ((m.2 0) (Int32.toNatClampNeg ((Int32.ofInt 8) + v3))))) hp.1) rfl cwX9_rulerAt dX9_rules_105 rfl rfl (hm0_M_M _) ?_
        replace hp := hp.2
        refine g_blk hz0 kX9_rules_108 ?_
        refine ⟨fun c7 => ?_, fun c7 => ?_⟩
        · rw [if_neg (show ¬ ((f_X9_rulerAt m ((m.2 4) (Int32.toNatClampNeg ((m.2 0) (Int32.toNatClampNeg ((Int32.ofInt 8) + v3))))) ((m.2 5) (Int32.toNatClampNeg ((m.2 0) (Int32.toNatClampNeg ((Int32.ofInt 8) + v3)))))) = v3) from c7)] at hq
          replace hp := hp.2 c7
          refine g_blk hz0 kX9_rules_116 ?_
          refine g_blk hz0 kX9_rules_117 ?_
          refine g_le (L2 := [some (.ref 0), some (.int v1), some (.int (v2 + (Int32.ofInt 0))), some (.int (v3 + (Int32.ofInt 1))), none]) ⟨rfl, rfl, rfl, rfl, trivial⟩ ?_
          exact hK4 v1 (v2 + (Int32.ofInt 0)) (v3 + (Int32.ofInt 1)) hp hq
        · rw [if_pos (show (f_X9_rulerAt m ((m.2 4) (Int32.toNatClampNeg ((m.2 0) (Int32.toNatClampNeg ((Int32.ofInt 8) + v3))))) ((m.2 5) (Int32.toNatClampNeg ((m.2 0) (Int32.toNatClampNeg ((Int32.ofInt 8) + v3)))))) = v3 from c7)] at hq
          replace hp := hp.1 c7
          refine g_blk hz0 kX9_rules_112 ?_
          refine g_blk hz0 kX9_rules_117 ?_
          refine g_le (L2 := [some (.ref 0), some (.int v1), some (.int (v2 + (Int32.ofInt 1))), some (.int (v3 + (Int32.ofInt 1))), none]) ⟨rfl, rfl, rfl, rfl, trivial⟩ ?_
          exact hK4 v1 (v2 + (Int32.ofInt 1)) (v3 + (Int32.ofInt 1)) hp hq
      · rw [if_neg (show ¬ (0 ≤ ((m.2 0) (Int32.toNatClampNeg ((Int32.ofInt 8) + v3)))) from c6)] at hq
        replace hp := hp.2 c6
        refine g_blk hz0 kX9_rules_91 ?_
        refine g_blk hz0 kX9_rules_104 ?_
        refine ⟨vinL (by decide), ?_⟩
        refine cVp [0, 1, 2, 3, 4, 5, 6, 7, 8, 9, 10, 11, 12, 13, 14, 15, 16] (wM m) (s_X9_rulerAt m ((m.2 4) (Int32.toNatClampNeg ((m.2 0) (Int32.toNatClampNeg ((Int32.ofInt 8) + v3))))) ((m.2 5) (Int32.toNatClampNeg (Int32.ofInt 0))) hp.1) rfl cwX9_rulerAt dX9_rules_105 rfl rfl (hm0_M_M _) ?_
        replace hp := hp.2
        refine g_blk hz0 kX9_rules_108 ?_
        refine ⟨fun c8 => ?_, fun c8 => ?_⟩
        · rw [if_neg (show ¬ ((f_X9_rulerAt m ((m.2 4) (Int32.toNatClampNeg ((m.2 0) (Int32.toNatClampNeg ((Int32.ofInt 8) + v3))))) ((m.2 5) (Int32.toNatClampNeg (Int32.ofInt 0)))) = v3) from c8)] at hq
          replace hp := hp.2 c8
          refine g_blk hz0 kX9_rules_116 ?_
          refine g_blk hz0 kX9_rules_117 ?_
          refine g_le (L2 := [some (.ref 0), some (.int v1), some (.int (v2 + (Int32.ofInt 0))), some (.int (v3 + (Int32.ofInt 1))), none]) ⟨rfl, rfl, rfl, rfl, trivial⟩ ?_
          exact hK4 v1 (v2 + (Int32.ofInt 0)) (v3 + (Int32.ofInt 1)) hp hq
        · rw [if_pos (show (f_X9_rulerAt m ((m.2 4) (Int32.toNatClampNeg ((m.2 0) (Int32.toNatClampNeg ((Int32.ofInt 8) + v3))))) ((m.2 5) (Int32.toNatClampNeg (Int32.ofInt 0)))) = v3 from c8)] at hq
          replace hp := hp.1 c8
          refine g_blk hz0 kX9_rules_112 ?_
          refine g_blk hz0 kX9_rules_117 ?_
          refine g_le (L2 := [some (.ref 0), some (.int v1), some (.int (v2 + (Int32.ofInt 1))), some (.int (v3 + (Int32.ofInt 1))), none]) ⟨rfl, rfl, rfl, rfl, trivial⟩ ?_
          exact hK4 v1 (v2 + (Int32.ofInt 1)) (v3 + (Int32.ofInt 1)) hp hq
    · rw [if_neg (show ¬ (0 ≤ ((m.2 0) (Int32.toNatClampNeg ((Int32.ofInt 8) + v3)))) from c5)] at hq
      replace hp := hp.2 c5
      refine g_blk hz0 kX9_rules_61 ?_
      refine g_blk hz0 kX9_rules_74 ?_
      refine ⟨vinL (by decide), ?_⟩
      refine ⟨hp.1, ?_⟩
      replace hp := hp.2
      refine ⟨fun c9 => ?_, fun c9 => ?_⟩
      · rw [if_pos (show 0 ≤ ((m.2 0) (Int32.toNatClampNeg ((Int32.ofInt 8) + v3))) from c9)] at hq
        replace hp := hp.1 c9
        refine g_blk hz0 kX9_rules_95 ?_
        refine ⟨hp.1, ?_⟩
        replace hp := hp.2
        refine g_blk hz0 kX9_rules_104 ?_
        refine ⟨hp.1, ?_⟩
        replace hp := hp.2
        refine cVp [0, 1, 2, 3, 4, 5, 6, 7, 8, 9, 10, 11, 12, 13, 14, 15, 16] (wM m) (s_X9_rulerAt m ((m.2 4) (Int32.toNatClampNeg (Int32.ofInt 0))) ((m.2 5) (Int32.toNatClampNeg ((m.2 0) (Int32.toNatClampNeg ((Int32.ofInt 8) + v3))))) hp.1) rfl cwX9_rulerAt dX9_rules_105 rfl rfl (hm0_M_M _) ?_
        replace hp := hp.2
        refine g_blk hz0 kX9_rules_108 ?_
        refine ⟨fun c10 => ?_, fun c10 => ?_⟩
        · rw [if_neg (show ¬ ((f_X9_rulerAt m ((m.2 4) (Int32.toNatClampNeg (Int32.ofInt 0))) ((m.2 5) (Int32.toNatClampNeg ((m.2 0) (Int32.toNatClampNeg ((Int32.ofInt 8) + v3)))))) = v3) from c10)] at hq
          replace hp := hp.2 c10
          refine g_blk hz0 kX9_rules_116 ?_
          refine g_blk hz0 kX9_rules_117 ?_
          refine g_le (L2 := [some (.ref 0), some (.int v1), some (.int (v2 + (Int32.ofInt 0))), some (.int (v3 + (Int32.ofInt 1))), none]) ⟨rfl, rfl, rfl, rfl, trivial⟩ ?_
          exact hK4 v1 (v2 + (Int32.ofInt 0)) (v3 + (Int32.ofInt 1)) hp hq
        · rw [if_pos (show (f_X9_rulerAt m ((m.2 4) (Int32.toNatClampNeg (Int32.ofInt 0))) ((m.2 5) (Int32.toNatClampNeg ((m.2 0) (Int32.toNatClampNeg ((Int32.ofInt 8) + v3)))))) = v3 from c10)] at hq
          replace hp := hp.1 c10
          refine g_blk hz0 kX9_rules_112 ?_
          refine g_blk hz0 kX9_rules_117 ?_
          refine g_le (L2 := [some (.ref 0), some (.int v1), some (.int (v2 + (Int32.ofInt 1))), some (.int (v3 + (Int32.ofInt 1))), none]) ⟨rfl, rfl, rfl, rfl, trivial⟩ ?_
          exact hK4 v1 (v2 + (Int32.ofInt 1)) (v3 + (Int32.ofInt 1)) hp hq
      · rw [if_neg (show ¬ (0 ≤ ((m.2 0) (Int32.toNatClampNeg ((Int32.ofInt 8) + v3)))) from c9)] at hq
        replace hp := hp.2 c9
        refine g_blk hz0 kX9_rules_91 ?_
        refine g_blk hz0 kX9_rules_104 ?_
        refine ⟨vinL (by decide), ?_⟩
        refine cVp [0, 1, 2, 3, 4, 5, 6, 7, 8, 9, 10, 11, 12, 13, 14, 15, 16] (wM m) (s_X9_rulerAt m ((m.2 4) (Int32.toNatClampNeg (Int32.ofInt 0))) ((m.2 5) (Int32.toNatClampNeg (Int32.ofInt 0))) hp.1) rfl cwX9_rulerAt dX9_rules_105 rfl rfl (hm0_M_M _) ?_
        replace hp := hp.2
        refine g_blk hz0 kX9_rules_108 ?_
        refine ⟨fun c11 => ?_, fun c11 => ?_⟩
        · rw [if_neg (show ¬ ((f_X9_rulerAt m ((m.2 4) (Int32.toNatClampNeg (Int32.ofInt 0))) ((m.2 5) (Int32.toNatClampNeg (Int32.ofInt 0)))) = v3) from c11)] at hq
          replace hp := hp.2 c11
          refine g_blk hz0 kX9_rules_116 ?_
          refine g_blk hz0 kX9_rules_117 ?_
          refine g_le (L2 := [some (.ref 0), some (.int v1), some (.int (v2 + (Int32.ofInt 0))), some (.int (v3 + (Int32.ofInt 1))), none]) ⟨rfl, rfl, rfl, rfl, trivial⟩ ?_
          exact hK4 v1 (v2 + (Int32.ofInt 0)) (v3 + (Int32.ofInt 1)) hp hq
        · rw [if_pos (show (f_X9_rulerAt m ((m.2 4) (Int32.toNatClampNeg (Int32.ofInt 0))) ((m.2 5) (Int32.toNatClampNeg (Int32.ofInt 0)))) = v3 from c11)] at hq
          replace hp := hp.1 c11
          refine g_blk hz0 kX9_rules_112 ?_
          refine g_blk hz0 kX9_rules_117 ?_
          refine g_le (L2 := [some (.ref 0), some (.int v1), some (.int (v2 + (Int32.ofInt 1))), some (.int (v3 + (Int32.ofInt 1))), none]) ⟨rfl, rfl, rfl, rfl, trivial⟩ ?_
          exact hK4 v1 (v2 + (Int32.ofInt 1)) (v3 + (Int32.ofInt 1)) hp hq
def f_X9_rules_4  : Nat → Rec → Int32 → Int32 → Int32 → Int32
  | 0, m, v1, v2, v3 => 0
  | n + 1, m, v1, v2, v3 => if ((m.2 0) (Int32.toNatClampNeg (Int32.ofInt 2))) ≤ v3 then v2 else (if (f_X9_isHere m v3) = 0 then (f_X9_rules_36 (f_X9_rules_4 n) m v1 v2 v3 ((Int32.ofInt 0))) else (if (f_X9_ownerOf m v3) = v1 then (f_X9_rules_36 (f_X9_rules_4 n) m v1 v2 v3 ((Int32.ofInt 1))) else (f_X9_rules_36 (f_X9_rules_4 n) m v1 v2 v3 ((Int32.ofInt 0)))))
def p_X9_rules_4  : Nat → Rec → Int32 → Int32 → Int32 → Prop
  | 0, _, _, _, _ => False
  | n + 1, m, v1, v2, v3 => (((m.2 0) (Int32.toNatClampNeg (Int32.ofInt 2))) ≤ v3 → True) ∧ (¬ (((m.2 0) (Int32.toNatClampNeg (Int32.ofInt 2))) ≤ v3) → ((p_X9_isHere m v3) ∧ (((f_X9_isHere m v3) = 0 → (p_X9_rules_36 (p_X9_rules_4 n) m v1 v2 v3 ((Int32.ofInt 0)))) ∧ (¬ ((f_X9_isHere m v3) = 0) → ((p_X9_ownerOf m v3) ∧ (((f_X9_ownerOf m v3) = v1 → (p_X9_rules_36 (p_X9_rules_4 n) m v1 v2 v3 ((Int32.ofInt 1)))) ∧ (¬ ((f_X9_ownerOf m v3) = v1) → (p_X9_rules_36 (p_X9_rules_4 n) m v1 v2 v3 ((Int32.ofInt 0))))))))))
set_option maxHeartbeats 16000000 in
set_option maxRecDepth 20000 in
theorem l_X9_rules_4 (sc : SC) (m : Rec)  (zq : Int32)  : ∀ (n : Nat)  (v1 : Int32) (v2 : Int32) (v3 : Int32), p_X9_rules_4 n m v1 v2 v3 → zq = f_X9_rules_4 n m v1 v2 v3 → Good sc 4 0 0 17 mX9_rules (Ret (some (.int (zq))) (wM m)) 0 0 4 [some (.ref 0), some (.int v1), some (.int v2), some (.int v3), none] [] (wM m) := by
  intro n
  induction n with
  | zero => intro v1 v2 v3 hp; exact hp.elim
  | succ n ih =>
    intro v1 v2 v3 hp hq
    unfold p_X9_rules_4 at hp
    unfold f_X9_rules_4 at hq
    refine g_blk hz0 kX9_rules_4 ?_
    refine ⟨vinL (by decide), ?_⟩
    refine ⟨fun c1 => ?_, fun c1 => ?_⟩
    · rw [if_pos (show ((m.2 0) (Int32.toNatClampNeg (Int32.ofInt 2))) ≤ v3 from c1)] at hq
      refine g_blk hz0 kX9_rules_125 ?_
      subst hq
      exact ⟨fun h => (by cases h), rfl, rfl⟩
    · rw [if_neg (show ¬ (((m.2 0) (Int32.toNatClampNeg (Int32.ofInt 2))) ≤ v3) from c1)] at hq
      replace hp := hp.2 c1
      refine g_blk hz0 kX9_rules_14 ?_
      refine cVp [0, 1, 2, 3, 4, 5, 6, 7, 8, 9, 10, 11, 12, 13, 14, 15, 16] (wM m) (s_X9_isHere m v3 hp.1) rfl cwX9_isHere dX9_rules_16 rfl rfl (hm0_M_M _) ?_
      replace hp := hp.2
      refine g_blk hz0 kX9_rules_19 ?_
      refine ⟨fun c2 => ?_, fun c2 => ?_⟩
      · rw [if_pos (show (f_X9_isHere m v3) = 0 from c2)] at hq
        replace hp := hp.1 c2
        refine g_blk hz0 kX9_rules_35 ?_
        refine g_le (L2 := [some (.ref 0), some (.int v1), some (.int v2), some (.int v3), none]) ⟨rfl, rfl, rfl, rfl, trivial⟩ ?_
        exact l_X9_rules_36 sc m zq (fun r0 r1 r2 hp hq => ih r0 r1 r2 hp hq) v1 v2 v3 ((Int32.ofInt 0)) hp hq
      · rw [if_neg (show ¬ ((f_X9_isHere m v3) = 0) from c2)] at hq
        replace hp := hp.2 c2
        refine g_blk hz0 kX9_rules_22 ?_
        refine cVp [0, 1, 2, 3, 4, 5, 6, 7, 8, 9, 10, 11, 12, 13, 14, 15, 16] (wM m) (s_X9_ownerOf m v3 hp.1) rfl cwX9_ownerOf dX9_rules_24 rfl rfl (hm0_M_M _) ?_
        replace hp := hp.2
        refine g_blk hz0 kX9_rules_27 ?_
        refine ⟨fun c3 => ?_, fun c3 => ?_⟩
        · rw [if_neg (show ¬ ((f_X9_ownerOf m v3) = v1) from c3)] at hq
          replace hp := hp.2 c3
          refine g_blk hz0 kX9_rules_35 ?_
          refine g_le (L2 := [some (.ref 0), some (.int v1), some (.int v2), some (.int v3), none]) ⟨rfl, rfl, rfl, rfl, trivial⟩ ?_
          exact l_X9_rules_36 sc m zq (fun r0 r1 r2 hp hq => ih r0 r1 r2 hp hq) v1 v2 v3 ((Int32.ofInt 0)) hp hq
        · rw [if_pos (show (f_X9_ownerOf m v3) = v1 from c3)] at hq
          replace hp := hp.1 c3
          refine g_blk hz0 kX9_rules_31 ?_
          refine g_le (L2 := [some (.ref 0), some (.int v1), some (.int v2), some (.int v3), none]) ⟨rfl, rfl, rfl, rfl, trivial⟩ ?_
          exact l_X9_rules_36 sc m zq (fun r0 r1 r2 hp hq => ih r0 r1 r2 hp hq) v1 v2 v3 ((Int32.ofInt 1)) hp hq
def f_X9_rules (m : Rec) (o : Int32) : Int32 := (f_X9_rules_4 40 m o ((Int32.ofInt 0)) ((Int32.ofInt 0)))
def p_X9_rules (m : Rec) (o : Int32) : Prop := (p_X9_rules_4 40 m o ((Int32.ofInt 0)) ((Int32.ofInt 0)))
set_option maxHeartbeats 16000000 in
set_option maxRecDepth 20000 in
theorem s_X9_rules (m : Rec) (o : Int32) (hp : p_X9_rules m o) : Spec 4 0 0 mX9_rules [.ref 0, .int o] (wM m) (Ret (some (.int ((f_X9_rules m o)))) (wM m)) := by
  obtain ⟨zq, hq⟩ : ∃ z, z = (f_X9_rules m o) := ⟨_, rfl⟩
  rw [← hq]
  unfold f_X9_rules at hq
  unfold p_X9_rules at hp
  refine Sof fun sc => ?_
  refine g_blk hz0 kX9_rules_0 ?_
  refine g_le (L2 := [some (.ref 0), some (.int o), some (.int (Int32.ofInt 0)), some (.int (Int32.ofInt 0)), none]) ⟨rfl, rfl, rfl, rfl, trivial⟩ ?_
  exact l_X9_rules_4 sc m zq 40 o ((Int32.ofInt 0)) ((Int32.ofInt 0)) hp hq
