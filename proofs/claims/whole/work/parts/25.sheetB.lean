def f_X4_measure_146 (K29 : Rec → Int32 → Int32 → Rec) (s : Rec) (v1 : Int32) (v2 : Int32) (u1 : Int32) : Rec := if v1 = 0 then (if (s.1 7) ≤ ((s.2 12) (Int32.toNatClampNeg v2)) then (K29 (setG (setG (setG s 5 u1) 6 ((s.2 11) (Int32.toNatClampNeg v2))) 7 ((s.2 12) (Int32.toNatClampNeg v2))) ((Int32.ofInt 1)) (v2 + (Int32.ofInt 1))) else (K29 (setG (setG (setG s 5 u1) 6 ((s.2 11) (Int32.toNatClampNeg v2))) 7 (s.1 7)) ((Int32.ofInt 1)) (v2 + (Int32.ofInt 1)))) else (if (s.1 6) ≤ ((s.2 11) (Int32.toNatClampNeg v2)) then (if (s.1 7) ≤ ((s.2 12) (Int32.toNatClampNeg v2)) then (K29 (setG (setG (setG s 5 u1) 6 ((s.2 11) (Int32.toNatClampNeg v2))) 7 ((s.2 12) (Int32.toNatClampNeg v2))) ((Int32.ofInt 1)) (v2 + (Int32.ofInt 1))) else (K29 (setG (setG (setG s 5 u1) 6 ((s.2 11) (Int32.toNatClampNeg v2))) 7 (s.1 7)) ((Int32.ofInt 1)) (v2 + (Int32.ofInt 1)))) else (if (s.1 7) ≤ ((s.2 12) (Int32.toNatClampNeg v2)) then (K29 (setG (setG (setG s 5 u1) 6 (s.1 6)) 7 ((s.2 12) (Int32.toNatClampNeg v2))) ((Int32.ofInt 1)) (v2 + (Int32.ofInt 1))) else (K29 (setG (setG (setG s 5 u1) 6 (s.1 6)) 7 (s.1 7)) ((Int32.ofInt 1)) (v2 + (Int32.ofInt 1)))))
def p_X4_measure_146 (G29 : Rec → Int32 → Int32 → Prop) (s : Rec) (v1 : Int32) (v2 : Int32) (u1 : Int32) : Prop := (v1 = 0 → (vp_in v2 36 ∧ (vp_in v2 36 ∧ (((s.1 7) ≤ ((s.2 12) (Int32.toNatClampNeg v2)) → (vp_in v2 36 ∧ (G29 (setG (setG (setG s 5 u1) 6 ((s.2 11) (Int32.toNatClampNeg v2))) 7 ((s.2 12) (Int32.toNatClampNeg v2))) ((Int32.ofInt 1)) (v2 + (Int32.ofInt 1))))) ∧ (¬ ((s.1 7) ≤ ((s.2 12) (Int32.toNatClampNeg v2))) → (G29 (setG (setG (setG s 5 u1) 6 ((s.2 11) (Int32.toNatClampNeg v2))) 7 (s.1 7)) ((Int32.ofInt 1)) (v2 + (Int32.ofInt 1)))))))) ∧ (¬ (v1 = 0) → (vp_in v2 36 ∧ (((s.1 6) ≤ ((s.2 11) (Int32.toNatClampNeg v2)) → (vp_in v2 36 ∧ (vp_in v2 36 ∧ (((s.1 7) ≤ ((s.2 12) (Int32.toNatClampNeg v2)) → (vp_in v2 36 ∧ (G29 (setG (setG (setG s 5 u1) 6 ((s.2 11) (Int32.toNatClampNeg v2))) 7 ((s.2 12) (Int32.toNatClampNeg v2))) ((Int32.ofInt 1)) (v2 + (Int32.ofInt 1))))) ∧ (¬ ((s.1 7) ≤ ((s.2 12) (Int32.toNatClampNeg v2))) → (G29 (setG (setG (setG s 5 u1) 6 ((s.2 11) (Int32.toNatClampNeg v2))) 7 (s.1 7)) ((Int32.ofInt 1)) (v2 + (Int32.ofInt 1)))))))) ∧ (¬ ((s.1 6) ≤ ((s.2 11) (Int32.toNatClampNeg v2))) → (vp_in v2 36 ∧ (((s.1 7) ≤ ((s.2 12) (Int32.toNatClampNeg v2)) → (vp_in v2 36 ∧ (G29 (setG (setG (setG s 5 u1) 6 (s.1 6)) 7 ((s.2 12) (Int32.toNatClampNeg v2))) ((Int32.ofInt 1)) (v2 + (Int32.ofInt 1))))) ∧ (¬ ((s.1 7) ≤ ((s.2 12) (Int32.toNatClampNeg v2))) → (G29 (setG (setG (setG s 5 u1) 6 (s.1 6)) 7 (s.1 7)) ((Int32.ofInt 1)) (v2 + (Int32.ofInt 1))))))))))
set_option maxHeartbeats 16000000 in
set_option maxRecDepth 20000 in
theorem l_X4_measure_146 (sc : SC)  {K29 : Rec → Int32 → Int32 → Rec} {G29 : Rec → Int32 → Int32 → Prop} (zq : Rec) (hK29 : ∀ (s : Rec) (v1 : Int32) (v2 : Int32), G29 s v1 v2 → zq = K29 s v1 v2 → Good sc 0 0 0 7 mX4_measure (Ret none (wS (zq))) 0 0 29 [some (.ref 0), some (.int v1), some (.int v2)] [] (wS s)) (s : Rec) (v1 : Int32) (v2 : Int32) (u1 : Int32) (hp : p_X4_measure_146 G29 s v1 v2 u1) (hq : zq = f_X4_measure_146 K29 s v1 v2 u1) : Good sc 0 0 0 7 mX4_measure (Ret none (wS (zq))) 0 0 146 [some (.ref 0), some (.int v1), some (.int v2)] [.int u1, .ref 0] (wS s) := by
  unfold p_X4_measure_146 at hp
  unfold f_X4_measure_146 at hq
  refine g_blk hz0 kX4_measure_146 ?_
  refine ⟨fun h => (by cases h), Or.inl rfl, ?_⟩
  refine ⟨fun c13 => ?_, fun c13 => ?_⟩
  · rw [if_pos (show v1 = 0 from c13)] at hq
    replace hp := hp.1 c13
    refine g_blk hz0 kX4_measure_174 ?_
    refine ⟨hp.1, ?_⟩
    replace hp := hp.2
    refine g_blk hz0 kX4_measure_180 ?_
    refine ⟨fun h => (by cases h), Or.inl rfl, ?_⟩
    refine ⟨hp.1, ?_⟩
    replace hp := hp.2
    refine ⟨fun c14 => ?_, fun c14 => ?_⟩
    · rw [if_pos (show (s.1 7) ≤ ((s.2 12) (Int32.toNatClampNeg v2)) from c14)] at hq
      replace hp := hp.1 c14
      refine g_blk hz0 kX4_measure_204 ?_
      refine ⟨hp.1, ?_⟩
      replace hp := hp.2
      refine g_blk hz0 kX4_measure_210 ?_
      refine ⟨fun h => (by cases h), Or.inl rfl, ?_⟩
      refine g_blk hz0 kX4_measure_215 ?_
      refine g_le (L2 := [some (.ref 0), some (.int (Int32.ofInt 1)), some (.int (v2 + (Int32.ofInt 1)))]) ⟨rfl, rfl, rfl, trivial⟩ ?_
      exact hK29 (setG (setG (setG s 5 u1) 6 ((s.2 11) (Int32.toNatClampNeg v2))) 7 ((s.2 12) (Int32.toNatClampNeg v2))) ((Int32.ofInt 1)) (v2 + (Int32.ofInt 1)) hp hq
    · rw [if_neg (show ¬ ((s.1 7) ≤ ((s.2 12) (Int32.toNatClampNeg v2))) from c14)] at hq
      replace hp := hp.2 c14
      refine g_blk hz0 kX4_measure_197 ?_
      refine g_blk hz0 kX4_measure_210 ?_
      refine ⟨fun h => (by cases h), Or.inl rfl, ?_⟩
      refine g_blk hz0 kX4_measure_215 ?_
      refine g_le (L2 := [some (.ref 0), some (.int (Int32.ofInt 1)), some (.int (v2 + (Int32.ofInt 1)))]) ⟨rfl, rfl, rfl, trivial⟩ ?_
      exact hK29 (setG (setG (setG s 5 u1) 6 ((s.2 11) (Int32.toNatClampNeg v2))) 7 (s.1 7)) ((Int32.ofInt 1)) (v2 + (Int32.ofInt 1)) hp hq
  · rw [if_neg (show ¬ (v1 = 0) from c13)] at hq
    replace hp := hp.2 c13
    refine g_blk hz0 kX4_measure_154 ?_
    refine ⟨hp.1, ?_⟩
    replace hp := hp.2
    refine ⟨fun c15 => ?_, fun c15 => ?_⟩
    · rw [if_pos (show (s.1 6) ≤ ((s.2 11) (Int32.toNatClampNeg v2)) from c15)] at hq
      replace hp := hp.1 c15
      refine g_blk hz0 kX4_measure_174 ?_
      refine ⟨hp.1, ?_⟩
      replace hp := hp.2
      refine g_blk hz0 kX4_measure_180 ?_
      refine ⟨fun h => (by cases h), Or.inl rfl, ?_⟩
      refine ⟨hp.1, ?_⟩
      replace hp := hp.2
      refine ⟨fun c16 => ?_, fun c16 => ?_⟩
      · rw [if_pos (show (s.1 7) ≤ ((s.2 12) (Int32.toNatClampNeg v2)) from c16)] at hq
        replace hp := hp.1 c16
        refine g_blk hz0 kX4_measure_204 ?_
        refine ⟨hp.1, ?_⟩
        replace hp := hp.2
        refine g_blk hz0 kX4_measure_210 ?_
        refine ⟨fun h => (by cases h), Or.inl rfl, ?_⟩
        refine g_blk hz0 kX4_measure_215 ?_
        refine g_le (L2 := [some (.ref 0), some (.int (Int32.ofInt 1)), some (.int (v2 + (Int32.ofInt 1)))]) ⟨rfl, rfl, rfl, trivial⟩ ?_
        exact hK29 (setG (setG (setG s 5 u1) 6 ((s.2 11) (Int32.toNatClampNeg v2))) 7 ((s.2 12) (Int32.toNatClampNeg v2))) ((Int32.ofInt 1)) (v2 + (Int32.ofInt 1)) hp hq
      · rw [if_neg (show ¬ ((s.1 7) ≤ ((s.2 12) (Int32.toNatClampNeg v2))) from c16)] at hq
        replace hp := hp.2 c16
        refine g_blk hz0 kX4_measure_197 ?_
        refine g_blk hz0 kX4_measure_210 ?_
        refine ⟨fun h => (by cases h), Or.inl rfl, ?_⟩
        refine g_blk hz0 kX4_measure_215 ?_
        refine g_le (L2 := [some (.ref 0), some (.int (Int32.ofInt 1)), some (.int (v2 + (Int32.ofInt 1)))]) ⟨rfl, rfl, rfl, trivial⟩ ?_
        exact hK29 (setG (setG (setG s 5 u1) 6 ((s.2 11) (Int32.toNatClampNeg v2))) 7 (s.1 7)) ((Int32.ofInt 1)) (v2 + (Int32.ofInt 1)) hp hq
    · rw [if_neg (show ¬ ((s.1 6) ≤ ((s.2 11) (Int32.toNatClampNeg v2))) from c15)] at hq
      replace hp := hp.2 c15
      refine g_blk hz0 kX4_measure_167 ?_
      refine g_blk hz0 kX4_measure_180 ?_
      refine ⟨fun h => (by cases h), Or.inl rfl, ?_⟩
      refine ⟨hp.1, ?_⟩
      replace hp := hp.2
      refine ⟨fun c17 => ?_, fun c17 => ?_⟩
      · rw [if_pos (show (s.1 7) ≤ ((s.2 12) (Int32.toNatClampNeg v2)) from c17)] at hq
        replace hp := hp.1 c17
        refine g_blk hz0 kX4_measure_204 ?_
        refine ⟨hp.1, ?_⟩
        replace hp := hp.2
        refine g_blk hz0 kX4_measure_210 ?_
        refine ⟨fun h => (by cases h), Or.inl rfl, ?_⟩
        refine g_blk hz0 kX4_measure_215 ?_
        refine g_le (L2 := [some (.ref 0), some (.int (Int32.ofInt 1)), some (.int (v2 + (Int32.ofInt 1)))]) ⟨rfl, rfl, rfl, trivial⟩ ?_
        exact hK29 (setG (setG (setG s 5 u1) 6 (s.1 6)) 7 ((s.2 12) (Int32.toNatClampNeg v2))) ((Int32.ofInt 1)) (v2 + (Int32.ofInt 1)) hp hq
      · rw [if_neg (show ¬ ((s.1 7) ≤ ((s.2 12) (Int32.toNatClampNeg v2))) from c17)] at hq
        replace hp := hp.2 c17
        refine g_blk hz0 kX4_measure_197 ?_
        refine g_blk hz0 kX4_measure_210 ?_
        refine ⟨fun h => (by cases h), Or.inl rfl, ?_⟩
        refine g_blk hz0 kX4_measure_215 ?_
        refine g_le (L2 := [some (.ref 0), some (.int (Int32.ofInt 1)), some (.int (v2 + (Int32.ofInt 1)))]) ⟨rfl, rfl, rfl, trivial⟩ ?_
        exact hK29 (setG (setG (setG s 5 u1) 6 (s.1 6)) 7 (s.1 7)) ((Int32.ofInt 1)) (v2 + (Int32.ofInt 1)) hp hq
def f_X4_measure_78 (K29 : Rec → Int32 → Int32 → Rec) (s : Rec) (v1 : Int32) (v2 : Int32) (u1 : Int32) : Rec := if v1 = 0 then (if v1 = 0 then (f_X4_measure_146 K29 (setG (setG s 3 u1) 4 ((s.2 10) (Int32.toNatClampNeg v2))) v1 v2 ((s.2 11) (Int32.toNatClampNeg v2))) else (if ((s.2 11) (Int32.toNatClampNeg v2)) ≤ (s.1 5) then (f_X4_measure_146 K29 (setG (setG s 3 u1) 4 ((s.2 10) (Int32.toNatClampNeg v2))) v1 v2 ((s.2 11) (Int32.toNatClampNeg v2))) else (f_X4_measure_146 K29 (setG (setG s 3 u1) 4 ((s.2 10) (Int32.toNatClampNeg v2))) v1 v2 (s.1 5)))) else (if (s.1 4) ≤ ((s.2 10) (Int32.toNatClampNeg v2)) then (if v1 = 0 then (f_X4_measure_146 K29 (setG (setG s 3 u1) 4 ((s.2 10) (Int32.toNatClampNeg v2))) v1 v2 ((s.2 11) (Int32.toNatClampNeg v2))) else (if ((s.2 11) (Int32.toNatClampNeg v2)) ≤ (s.1 5) then (f_X4_measure_146 K29 (setG (setG s 3 u1) 4 ((s.2 10) (Int32.toNatClampNeg v2))) v1 v2 ((s.2 11) (Int32.toNatClampNeg v2))) else (f_X4_measure_146 K29 (setG (setG s 3 u1) 4 ((s.2 10) (Int32.toNatClampNeg v2))) v1 v2 (s.1 5)))) else (if v1 = 0 then (f_X4_measure_146 K29 (setG (setG s 3 u1) 4 (s.1 4)) v1 v2 ((s.2 11) (Int32.toNatClampNeg v2))) else (if ((s.2 11) (Int32.toNatClampNeg v2)) ≤ (s.1 5) then (f_X4_measure_146 K29 (setG (setG s 3 u1) 4 (s.1 4)) v1 v2 ((s.2 11) (Int32.toNatClampNeg v2))) else (f_X4_measure_146 K29 (setG (setG s 3 u1) 4 (s.1 4)) v1 v2 (s.1 5)))))
def p_X4_measure_78 (G29 : Rec → Int32 → Int32 → Prop) (s : Rec) (v1 : Int32) (v2 : Int32) (u1 : Int32) : Prop := (v1 = 0 → (vp_in v2 36 ∧ ((v1 = 0 → (vp_in v2 36 ∧ (p_X4_measure_146 G29 (setG (setG s 3 u1) 4 ((s.2 10) (Int32.toNatClampNeg v2))) v1 v2 ((s.2 11) (Int32.toNatClampNeg v2))))) ∧ (¬ (v1 = 0) → (vp_in v2 36 ∧ ((((s.2 11) (Int32.toNatClampNeg v2)) ≤ (s.1 5) → (vp_in v2 36 ∧ (p_X4_measure_146 G29 (setG (setG s 3 u1) 4 ((s.2 10) (Int32.toNatClampNeg v2))) v1 v2 ((s.2 11) (Int32.toNatClampNeg v2))))) ∧ (¬ (((s.2 11) (Int32.toNatClampNeg v2)) ≤ (s.1 5)) → (p_X4_measure_146 G29 (setG (setG s 3 u1) 4 ((s.2 10) (Int32.toNatClampNeg v2))) v1 v2 (s.1 5))))))))) ∧ (¬ (v1 = 0) → (vp_in v2 36 ∧ (((s.1 4) ≤ ((s.2 10) (Int32.toNatClampNeg v2)) → (vp_in v2 36 ∧ ((v1 = 0 → (vp_in v2 36 ∧ (p_X4_measure_146 G29 (setG (setG s 3 u1) 4 ((s.2 10) (Int32.toNatClampNeg v2))) v1 v2 ((s.2 11) (Int32.toNatClampNeg v2))))) ∧ (¬ (v1 = 0) → (vp_in v2 36 ∧ ((((s.2 11) (Int32.toNatClampNeg v2)) ≤ (s.1 5) → (vp_in v2 36 ∧ (p_X4_measure_146 G29 (setG (setG s 3 u1) 4 ((s.2 10) (Int32.toNatClampNeg v2))) v1 v2 ((s.2 11) (Int32.toNatClampNeg v2))))) ∧ (¬ (((s.2 11) (Int32.toNatClampNeg v2)) ≤ (s.1 5)) → (p_X4_measure_146 G29 (setG (setG s 3 u1) 4 ((s.2 10) (Int32.toNatClampNeg v2))) v1 v2 (s.1 5))))))))) ∧ (¬ ((s.1 4) ≤ ((s.2 10) (Int32.toNatClampNeg v2))) → ((v1 = 0 → (vp_in v2 36 ∧ (p_X4_measure_146 G29 (setG (setG s 3 u1) 4 (s.1 4)) v1 v2 ((s.2 11) (Int32.toNatClampNeg v2))))) ∧ (¬ (v1 = 0) → (vp_in v2 36 ∧ ((((s.2 11) (Int32.toNatClampNeg v2)) ≤ (s.1 5) → (vp_in v2 36 ∧ (p_X4_measure_146 G29 (setG (setG s 3 u1) 4 (s.1 4)) v1 v2 ((s.2 11) (Int32.toNatClampNeg v2))))) ∧ (¬ (((s.2 11) (Int32.toNatClampNeg v2)) ≤ (s.1 5)) → (p_X4_measure_146 G29 (setG (setG s 3 u1) 4 (s.1 4)) v1 v2 (s.1 5)))))))))))
set_option maxHeartbeats 16000000 in
set_option maxRecDepth 20000 in
theorem l_X4_measure_78 (sc : SC)  {K29 : Rec → Int32 → Int32 → Rec} {G29 : Rec → Int32 → Int32 → Prop} (zq : Rec) (hK29 : ∀ (s : Rec) (v1 : Int32) (v2 : Int32), G29 s v1 v2 → zq = K29 s v1 v2 → Good sc 0 0 0 7 mX4_measure (Ret none (wS (zq))) 0 0 29 [some (.ref 0), some (.int v1), some (.int v2)] [] (wS s)) (s : Rec) (v1 : Int32) (v2 : Int32) (u1 : Int32) (hp : p_X4_measure_78 G29 s v1 v2 u1) (hq : zq = f_X4_measure_78 K29 s v1 v2 u1) : Good sc 0 0 0 7 mX4_measure (Ret none (wS (zq))) 0 0 78 [some (.ref 0), some (.int v1), some (.int v2)] [.int u1, .ref 0] (wS s) := by
  unfold p_X4_measure_78 at hp
  unfold f_X4_measure_78 at hq
  refine g_blk hz0 kX4_measure_78 ?_
  refine ⟨fun h => (by cases h), Or.inl rfl, ?_⟩
  refine ⟨fun c5 => ?_, fun c5 => ?_⟩
  · rw [if_pos (show v1 = 0 from c5)] at hq
    replace hp := hp.1 c5
    refine g_blk hz0 kX4_measure_106 ?_
    refine ⟨hp.1, ?_⟩
    replace hp := hp.2
    refine g_blk hz0 kX4_measure_112 ?_
    refine ⟨fun h => (by cases h), Or.inl rfl, ?_⟩
    refine ⟨fun c6 => ?_, fun c6 => ?_⟩
    · rw [if_pos (show v1 = 0 from c6)] at hq
      replace hp := hp.1 c6
      refine g_blk hz0 kX4_measure_140 ?_
      refine ⟨hp.1, ?_⟩
      replace hp := hp.2
      refine g_le (L2 := [some (.ref 0), some (.int v1), some (.int v2)]) ⟨rfl, rfl, rfl, trivial⟩ ?_
      exact l_X4_measure_146 sc zq hK29 (setG (setG s 3 u1) 4 ((s.2 10) (Int32.toNatClampNeg v2))) v1 v2 ((s.2 11) (Int32.toNatClampNeg v2)) hp hq
    · rw [if_neg (show ¬ (v1 = 0) from c6)] at hq
      replace hp := hp.2 c6
      refine g_blk hz0 kX4_measure_120 ?_
      refine ⟨hp.1, ?_⟩
      replace hp := hp.2
      refine ⟨fun c7 => ?_, fun c7 => ?_⟩
      · rw [if_pos (show ((s.2 11) (Int32.toNatClampNeg v2)) ≤ (s.1 5) from c7)] at hq
        replace hp := hp.1 c7
        refine g_blk hz0 kX4_measure_140 ?_
        refine ⟨hp.1, ?_⟩
        replace hp := hp.2
        refine g_le (L2 := [some (.ref 0), some (.int v1), some (.int v2)]) ⟨rfl, rfl, rfl, trivial⟩ ?_
        exact l_X4_measure_146 sc zq hK29 (setG (setG s 3 u1) 4 ((s.2 10) (Int32.toNatClampNeg v2))) v1 v2 ((s.2 11) (Int32.toNatClampNeg v2)) hp hq
      · rw [if_neg (show ¬ (((s.2 11) (Int32.toNatClampNeg v2)) ≤ (s.1 5)) from c7)] at hq
        replace hp := hp.2 c7
        refine g_blk hz0 kX4_measure_133 ?_
        refine g_le (L2 := [some (.ref 0), some (.int v1), some (.int v2)]) ⟨rfl, rfl, rfl, trivial⟩ ?_
        exact l_X4_measure_146 sc zq hK29 (setG (setG s 3 u1) 4 ((s.2 10) (Int32.toNatClampNeg v2))) v1 v2 (s.1 5) hp hq
  · rw [if_neg (show ¬ (v1 = 0) from c5)] at hq
    replace hp := hp.2 c5
    refine g_blk hz0 kX4_measure_86 ?_
    refine ⟨hp.1, ?_⟩
    replace hp := hp.2
    refine ⟨fun c8 => ?_, fun c8 => ?_⟩
    · rw [if_pos (show (s.1 4) ≤ ((s.2 10) (Int32.toNatClampNeg v2)) from c8)] at hq
      replace hp := hp.1 c8
      refine g_blk hz0 kX4_measure_106 ?_
      refine ⟨hp.1, ?_⟩
      replace hp := hp.2
      refine g_blk hz0 kX4_measure_112 ?_
      refine ⟨fun h => (by cases h), Or.inl rfl, ?_⟩
      refine ⟨fun c9 => ?_, fun c9 => ?_⟩
      · rw [if_pos (show v1 = 0 from c9)] at hq
        replace hp := hp.1 c9
        refine g_blk hz0 kX4_measure_140 ?_
        refine ⟨hp.1, ?_⟩
        replace hp := hp.2
        refine g_le (L2 := [some (.ref 0), some (.int v1), some (.int v2)]) ⟨rfl, rfl, rfl, trivial⟩ ?_
        exact l_X4_measure_146 sc zq hK29 (setG (setG s 3 u1) 4 ((s.2 10) (Int32.toNatClampNeg v2))) v1 v2 ((s.2 11) (Int32.toNatClampNeg v2)) hp hq
      · rw [if_neg (show ¬ (v1 = 0) from c9)] at hq
        replace hp := hp.2 c9
        refine g_blk hz0 kX4_measure_120 ?_
        refine ⟨hp.1, ?_⟩
        replace hp := hp.2
        refine ⟨fun c10 => ?_, fun c10 => ?_⟩
        · rw [if_pos (show ((s.2 11) (Int32.toNatClampNeg v2)) ≤ (s.1 5) from c10)] at hq
          replace hp := hp.1 c10
          refine g_blk hz0 kX4_measure_140 ?_
          refine ⟨hp.1, ?_⟩
          replace hp := hp.2
          refine g_le (L2 := [some (.ref 0), some (.int v1), some (.int v2)]) ⟨rfl, rfl, rfl, trivial⟩ ?_
          exact l_X4_measure_146 sc zq hK29 (setG (setG s 3 u1) 4 ((s.2 10) (Int32.toNatClampNeg v2))) v1 v2 ((s.2 11) (Int32.toNatClampNeg v2)) hp hq
        · rw [if_neg (show ¬ (((s.2 11) (Int32.toNatClampNeg v2)) ≤ (s.1 5)) from c10)] at hq
          replace hp := hp.2 c10
          refine g_blk hz0 kX4_measure_133 ?_
          refine g_le (L2 := [some (.ref 0), some (.int v1), some (.int v2)]) ⟨rfl, rfl, rfl, trivial⟩ ?_
          exact l_X4_measure_146 sc zq hK29 (setG (setG s 3 u1) 4 ((s.2 10) (Int32.toNatClampNeg v2))) v1 v2 (s.1 5) hp hq
    · rw [if_neg (show ¬ ((s.1 4) ≤ ((s.2 10) (Int32.toNatClampNeg v2))) from c8)] at hq
      replace hp := hp.2 c8
      refine g_blk hz0 kX4_measure_99 ?_
      refine g_blk hz0 kX4_measure_112 ?_
      refine ⟨fun h => (by cases h), Or.inl rfl, ?_⟩
      refine ⟨fun c11 => ?_, fun c11 => ?_⟩
      · rw [if_pos (show v1 = 0 from c11)] at hq
        replace hp := hp.1 c11
        refine g_blk hz0 kX4_measure_140 ?_
        refine ⟨hp.1, ?_⟩
        replace hp := hp.2
        refine g_le (L2 := [some (.ref 0), some (.int v1), some (.int v2)]) ⟨rfl, rfl, rfl, trivial⟩ ?_
        exact l_X4_measure_146 sc zq hK29 (setG (setG s 3 u1) 4 (s.1 4)) v1 v2 ((s.2 11) (Int32.toNatClampNeg v2)) hp hq
      · rw [if_neg (show ¬ (v1 = 0) from c11)] at hq
        replace hp := hp.2 c11
        refine g_blk hz0 kX4_measure_120 ?_
        refine ⟨hp.1, ?_⟩
        replace hp := hp.2
        refine ⟨fun c12 => ?_, fun c12 => ?_⟩
        · rw [if_pos (show ((s.2 11) (Int32.toNatClampNeg v2)) ≤ (s.1 5) from c12)] at hq
          replace hp := hp.1 c12
          refine g_blk hz0 kX4_measure_140 ?_
          refine ⟨hp.1, ?_⟩
          replace hp := hp.2
          refine g_le (L2 := [some (.ref 0), some (.int v1), some (.int v2)]) ⟨rfl, rfl, rfl, trivial⟩ ?_
          exact l_X4_measure_146 sc zq hK29 (setG (setG s 3 u1) 4 (s.1 4)) v1 v2 ((s.2 11) (Int32.toNatClampNeg v2)) hp hq
        · rw [if_neg (show ¬ (((s.2 11) (Int32.toNatClampNeg v2)) ≤ (s.1 5)) from c12)] at hq
          replace hp := hp.2 c12
          refine g_blk hz0 kX4_measure_133 ?_
          refine g_le (L2 := [some (.ref 0), some (.int v1), some (.int v2)]) ⟨rfl, rfl, rfl, trivial⟩ ?_
          exact l_X4_measure_146 sc zq hK29 (setG (setG s 3 u1) 4 (s.1 4)) v1 v2 (s.1 5) hp hq
def f_X4_measure_29  : Nat → Rec → Int32 → Int32 → Rec
  | 0, s, v1, v2 => s
  | n + 1, s, v1, v2 => if (Int32.ofInt 36) ≤ v2 then s else (if ((s.2 8) (Int32.toNatClampNeg v2)) = 0 then (f_X4_measure_29 n s v1 (v2 + (Int32.ofInt 1))) else (if v1 = 0 then (f_X4_measure_78 (f_X4_measure_29 n) s v1 v2 ((s.2 10) (Int32.toNatClampNeg v2))) else (if ((s.2 10) (Int32.toNatClampNeg v2)) ≤ (s.1 3) then (f_X4_measure_78 (f_X4_measure_29 n) s v1 v2 ((s.2 10) (Int32.toNatClampNeg v2))) else (f_X4_measure_78 (f_X4_measure_29 n) s v1 v2 (s.1 3)))))
def p_X4_measure_29  : Nat → Rec → Int32 → Int32 → Prop
  | 0, _, _, _ => False
  | n + 1, s, v1, v2 => ((Int32.ofInt 36) ≤ v2 → True) ∧ (¬ ((Int32.ofInt 36) ≤ v2) → (vp_in v2 36 ∧ ((((s.2 8) (Int32.toNatClampNeg v2)) = 0 → (p_X4_measure_29 n s v1 (v2 + (Int32.ofInt 1)))) ∧ (¬ (((s.2 8) (Int32.toNatClampNeg v2)) = 0) → ((v1 = 0 → (vp_in v2 36 ∧ (p_X4_measure_78 (p_X4_measure_29 n) s v1 v2 ((s.2 10) (Int32.toNatClampNeg v2))))) ∧ (¬ (v1 = 0) → (vp_in v2 36 ∧ ((((s.2 10) (Int32.toNatClampNeg v2)) ≤ (s.1 3) → (vp_in v2 36 ∧ (p_X4_measure_78 (p_X4_measure_29 n) s v1 v2 ((s.2 10) (Int32.toNatClampNeg v2))))) ∧ (¬ (((s.2 10) (Int32.toNatClampNeg v2)) ≤ (s.1 3)) → (p_X4_measure_78 (p_X4_measure_29 n) s v1 v2 (s.1 3)))))))))))
set_option maxHeartbeats 16000000 in
set_option maxRecDepth 20000 in
theorem l_X4_measure_29 (sc : SC)   (zq : Rec)  : ∀ (n : Nat) (s : Rec) (v1 : Int32) (v2 : Int32), p_X4_measure_29 n s v1 v2 → zq = f_X4_measure_29 n s v1 v2 → Good sc 0 0 0 7 mX4_measure (Ret none (wS (zq))) 0 0 29 [some (.ref 0), some (.int v1), some (.int v2)] [] (wS s) := by
  intro n
  induction n with
  | zero => intro s v1 v2 hp; exact hp.elim
  | succ n ih =>
    intro s v1 v2 hp hq
    unfold p_X4_measure_29 at hp
    unfold f_X4_measure_29 at hq
    refine g_blk hz0 kX4_measure_29 ?_
    refine ⟨fun c1 => ?_, fun c1 => ?_⟩
    · rw [if_pos (show (Int32.ofInt 36) ≤ v2 from c1)] at hq
      refine g_blk hz0 kX4_measure_221 ?_
      subst hq
      exact ⟨rfl, rfl⟩
    · rw [if_neg (show ¬ ((Int32.ofInt 36) ≤ v2) from c1)] at hq
      replace hp := hp.2 c1
      refine g_blk hz0 kX4_measure_35 ?_
      refine ⟨hp.1, ?_⟩
      replace hp := hp.2
      refine ⟨fun c2 => ?_, fun c2 => ?_⟩
      · rw [if_neg (show ¬ (((s.2 8) (Int32.toNatClampNeg v2)) = 0) from c2)] at hq
        replace hp := hp.2 c2
        refine g_blk hz0 kX4_measure_47 ?_
        refine ⟨fun c3 => ?_, fun c3 => ?_⟩
        · rw [if_pos (show v1 = 0 from c3)] at hq
          replace hp := hp.1 c3
          refine g_blk hz0 kX4_measure_72 ?_
          refine ⟨hp.1, ?_⟩
          replace hp := hp.2
          refine g_le (L2 := [some (.ref 0), some (.int v1), some (.int v2)]) ⟨rfl, rfl, rfl, trivial⟩ ?_
          exact l_X4_measure_78 sc zq (fun r0 r1 r2 hp hq => ih r0 r1 r2 hp hq) s v1 v2 ((s.2 10) (Int32.toNatClampNeg v2)) hp hq
        · rw [if_neg (show ¬ (v1 = 0) from c3)] at hq
          replace hp := hp.2 c3
          refine g_blk hz0 kX4_measure_52 ?_
          refine ⟨hp.1, ?_⟩
          replace hp := hp.2
          refine ⟨fun c4 => ?_, fun c4 => ?_⟩
          · rw [if_pos (show ((s.2 10) (Int32.toNatClampNeg v2)) ≤ (s.1 3) from c4)] at hq
            replace hp := hp.1 c4
            refine g_blk hz0 kX4_measure_72 ?_
            refine ⟨hp.1, ?_⟩
            replace hp := hp.2
            refine g_le (L2 := [some (.ref 0), some (.int v1), some (.int v2)]) ⟨rfl, rfl, rfl, trivial⟩ ?_
            exact l_X4_measure_78 sc zq (fun r0 r1 r2 hp hq => ih r0 r1 r2 hp hq) s v1 v2 ((s.2 10) (Int32.toNatClampNeg v2)) hp hq
          · rw [if_neg (show ¬ (((s.2 10) (Int32.toNatClampNeg v2)) ≤ (s.1 3)) from c4)] at hq
            replace hp := hp.2 c4
            refine g_blk hz0 kX4_measure_65 ?_
            refine g_le (L2 := [some (.ref 0), some (.int v1), some (.int v2)]) ⟨rfl, rfl, rfl, trivial⟩ ?_
            exact l_X4_measure_78 sc zq (fun r0 r1 r2 hp hq => ih r0 r1 r2 hp hq) s v1 v2 (s.1 3) hp hq
      · rw [if_pos (show ((s.2 8) (Int32.toNatClampNeg v2)) = 0 from c2)] at hq
        replace hp := hp.1 c2
        refine g_blk hz0 kX4_measure_44 ?_
        refine g_blk hz0 kX4_measure_215 ?_
        refine g_le (L2 := [some (.ref 0), some (.int v1), some (.int (v2 + (Int32.ofInt 1)))]) ⟨rfl, rfl, rfl, trivial⟩ ?_
        exact ih s v1 (v2 + (Int32.ofInt 1)) hp hq
def f_X4_measure (s : Rec)  : Rec := (f_X4_measure_29 40 (setG (setG (setG (setG (setG s 3 ((Int32.ofInt 0))) 4 ((Int32.ofInt 0))) 5 ((Int32.ofInt 0))) 6 ((Int32.ofInt 0))) 7 ((Int32.ofInt 0))) ((Int32.ofInt 0)) ((Int32.ofInt 0)))
def p_X4_measure (s : Rec)  : Prop := (p_X4_measure_29 40 (setG (setG (setG (setG (setG s 3 ((Int32.ofInt 0))) 4 ((Int32.ofInt 0))) 5 ((Int32.ofInt 0))) 6 ((Int32.ofInt 0))) 7 ((Int32.ofInt 0))) ((Int32.ofInt 0)) ((Int32.ofInt 0)))
set_option maxHeartbeats 16000000 in
set_option maxRecDepth 20000 in
theorem s_X4_measure (s : Rec)  (hp : p_X4_measure s) : Spec 0 0 0 mX4_measure [.ref 0] (wS s) (Ret none (wS ((f_X4_measure s)))) := by
  obtain ⟨zq, hq⟩ : ∃ z, z = (f_X4_measure s) := ⟨_, rfl⟩
  rw [← hq]
  unfold f_X4_measure at hq
  unfold p_X4_measure at hp
  refine Sof fun sc => ?_
  refine g_blk hz0 kX4_measure_0 ?_
  refine ⟨fun h => (by cases h), Or.inl rfl, ?_⟩
  refine ⟨fun h => (by cases h), Or.inl rfl, ?_⟩
  refine ⟨fun h => (by cases h), Or.inl rfl, ?_⟩
  refine ⟨fun h => (by cases h), Or.inl rfl, ?_⟩
  refine ⟨fun h => (by cases h), Or.inl rfl, ?_⟩
  refine g_le (L2 := [some (.ref 0), some (.int (Int32.ofInt 0)), some (.int (Int32.ofInt 0))]) ⟨rfl, rfl, rfl, trivial⟩ ?_
  exact l_X4_measure_29 sc zq 40 (setG (setG (setG (setG (setG s 3 ((Int32.ofInt 0))) 4 ((Int32.ofInt 0))) 5 ((Int32.ofInt 0))) 6 ((Int32.ofInt 0))) 7 ((Int32.ofInt 0))) ((Int32.ofInt 0)) ((Int32.ofInt 0)) hp hq

set_option maxHeartbeats 16000000 in
theorem pw1_S_S (s : Rec) (s9 : Rec) : putW (wS s) [0, 1, 2, 3, 4, 5, 6] ((wS s9).map (ren [0, 1, 2, 3, 4, 5, 6])) = (wS s9) := rfl
def f_X4_flatten_2  : Nat → Rec → Int32 → Rec
  | 0, s, v1 => s
  | n + 1, s, v1 => if (Int32.ofInt 36) ≤ v1 then (f_X4_measure (setG s 2 ((Int32.ofInt 0)))) else (f_X4_flatten_2 n (setA (setA (setA (setA s 9 (upd (s.2 9) (Int32.toNatClampNeg v1) (Int32.ofInt 0))) 10 (upd (s.2 10) (Int32.toNatClampNeg v1) (v1 - v1 / (Int32.ofInt 6) * (Int32.ofInt 6)))) 11 (upd (s.2 11) (Int32.toNatClampNeg v1) (v1 / (Int32.ofInt 6)))) 12 (upd (s.2 12) (Int32.toNatClampNeg v1) (Int32.ofInt 0))) (v1 + (Int32.ofInt 1)))
def p_X4_flatten_2  : Nat → Rec → Int32 → Prop
  | 0, _, _ => False
  | n + 1, s, v1 => ((Int32.ofInt 36) ≤ v1 → ((p_X4_measure (setG s 2 ((Int32.ofInt 0)))) ∧ True)) ∧ (¬ ((Int32.ofInt 36) ≤ v1) → (vp_in v1 36 ∧ (vp_in v1 36 ∧ (vp_in v1 36 ∧ (vp_in v1 36 ∧ (p_X4_flatten_2 n (setA (setA (setA (setA s 9 (upd (s.2 9) (Int32.toNatClampNeg v1) (Int32.ofInt 0))) 10 (upd (s.2 10) (Int32.toNatClampNeg v1) (v1 - v1 / (Int32.ofInt 6) * (Int32.ofInt 6)))) 11 (upd (s.2 11) (Int32.toNatClampNeg v1) (v1 / (Int32.ofInt 6)))) 12 (upd (s.2 12) (Int32.toNatClampNeg v1) (Int32.ofInt 0))) (v1 + (Int32.ofInt 1))))))))
set_option maxHeartbeats 16000000 in
set_option maxRecDepth 20000 in
theorem l_X4_flatten_2 (sc : SC)   (zq : Rec)  : ∀ (n : Nat) (s : Rec) (v1 : Int32), p_X4_flatten_2 n s v1 → zq = f_X4_flatten_2 n s v1 → Good sc 1 0 0 7 mX4_flatten (Ret none (wS (zq))) 0 0 2 [some (.ref 0), some (.int v1)] [] (wS s) := by
  intro n
  induction n with
  | zero => intro s v1 hp; exact hp.elim
  | succ n ih =>
    intro s v1 hp hq
    unfold p_X4_flatten_2 at hp
    unfold f_X4_flatten_2 at hq
    refine g_blk hz0 kX4_flatten_2 ?_
    refine ⟨fun c1 => ?_, fun c1 => ?_⟩
    · rw [if_pos (show (Int32.ofInt 36) ≤ v1 from c1)] at hq
      replace hp := hp.1 c1
      refine g_blk hz0 kX4_flatten_48 ?_
      refine ⟨fun h => (by cases h), Or.inl rfl, ?_⟩
      refine g_w (w2 := (wS (setG s 2 ((Int32.ofInt 0))))) rfl ?_
      refine cV [0, 1, 2, 3, 4, 5, 6] (wS (setG s 2 ((Int32.ofInt 0)))) (s_X4_measure (setG s 2 ((Int32.ofInt 0))) hp.1) rfl cwX4_measure dX4_flatten_54 rfl rfl (hm0_S_S _) ((len_S _).trans (len_S _).symm) (wS (f_X4_measure (setG s 2 ((Int32.ofInt 0))))) (pw1_S_S _ _) ?_
      replace hp := hp.2
      obtain ⟨g2, hg2⟩ : ∃ z, z = (f_X4_measure (setG s 2 ((Int32.ofInt 0)))) := ⟨_, rfl⟩
      try rw [← hg2] at hp
      try rw [← hg2] at hq
      rw [← hg2]
      refine g_blk hz0 kX4_flatten_57 ?_
      subst hq
      exact ⟨rfl, rfl⟩
    · rw [if_neg (show ¬ ((Int32.ofInt 36) ≤ v1) from c1)] at hq
      replace hp := hp.2 c1
      refine g_blk hz0 kX4_flatten_8 ?_
      refine ⟨by decide, ?_⟩
      refine ⟨hp.1, ?_⟩
      replace hp := hp.2
      refine ⟨by decide, ?_⟩
      refine ⟨hp.1, ?_⟩
      replace hp := hp.2
      refine ⟨hp.1, ?_⟩
      replace hp := hp.2
      refine ⟨hp.1, ?_⟩
      replace hp := hp.2
      refine ⟨Or.inl rfl, ?_⟩
      refine g_le (L2 := [some (.ref 0), some (.int (v1 + (Int32.ofInt 1)))]) ⟨rfl, rfl, trivial⟩ ?_
      exact ih (setA (setA (setA (setA s 9 (upd (s.2 9) (Int32.toNatClampNeg v1) (Int32.ofInt 0))) 10 (upd (s.2 10) (Int32.toNatClampNeg v1) (v1 - v1 / (Int32.ofInt 6) * (Int32.ofInt 6)))) 11 (upd (s.2 11) (Int32.toNatClampNeg v1) (v1 / (Int32.ofInt 6)))) 12 (upd (s.2 12) (Int32.toNatClampNeg v1) (Int32.ofInt 0))) (v1 + (Int32.ofInt 1)) hp hq
def f_X4_flatten (s : Rec)  : Rec := (f_X4_flatten_2 40 s ((Int32.ofInt 0)))
def p_X4_flatten (s : Rec)  : Prop := (p_X4_flatten_2 40 s ((Int32.ofInt 0)))
set_option maxHeartbeats 16000000 in
set_option maxRecDepth 20000 in
theorem s_X4_flatten (s : Rec)  (hp : p_X4_flatten s) : Spec 1 0 0 mX4_flatten [.ref 0] (wS s) (Ret none (wS ((f_X4_flatten s)))) := by
  obtain ⟨zq, hq⟩ : ∃ z, z = (f_X4_flatten s) := ⟨_, rfl⟩
  rw [← hq]
  unfold f_X4_flatten at hq
  unfold p_X4_flatten at hp
  refine Sof fun sc => ?_
  refine g_blk hz0 kX4_flatten_0 ?_
  refine g_le (L2 := [some (.ref 0), some (.int (Int32.ofInt 0))]) ⟨rfl, rfl, trivial⟩ ?_
  exact l_X4_flatten_2 sc zq 40 s ((Int32.ofInt 0)) hp hq

def f_X4_begin_12  : Nat → Rec → Int32 → Rec
  | 0, s, v3 => s
  | n + 1, s, v3 => if (Int32.ofInt 36) ≤ v3 then (f_X4_flatten s) else (f_X4_begin_12 n (setA s 8 (upd (s.2 8) (Int32.toNatClampNeg v3) (f_X4_onBoard s v3))) (v3 + (Int32.ofInt 1)))
def p_X4_begin_12  : Nat → Rec → Int32 → Prop
  | 0, _, _ => False
  | n + 1, s, v3 => ((Int32.ofInt 36) ≤ v3 → ((p_X4_flatten s) ∧ True)) ∧ (¬ ((Int32.ofInt 36) ≤ v3) → (vp_in v3 36 ∧ (p_X4_begin_12 n (setA s 8 (upd (s.2 8) (Int32.toNatClampNeg v3) (f_X4_onBoard s v3))) (v3 + (Int32.ofInt 1)))))
set_option maxHeartbeats 16000000 in
set_option maxRecDepth 20000 in
theorem l_X4_begin_12 (sc : SC)   (zq : Rec)  : ∀ (n : Nat) (s : Rec) (v3 : Int32), p_X4_begin_12 n s v3 → zq = f_X4_begin_12 n s v3 → Good sc 2 0 0 7 mX4_begin (Ret none (wS (zq))) 0 0 12 [some (.ref 0), none, none, some (.int v3)] [] (wS s) := by
  intro n
  induction n with
  | zero => intro s v3 hp; exact hp.elim
  | succ n ih =>
    intro s v3 hp hq
    unfold p_X4_begin_12 at hp
    unfold f_X4_begin_12 at hq
    refine g_blk hz0 kX4_begin_12 ?_
    refine ⟨fun c1 => ?_, fun c1 => ?_⟩
    · rw [if_pos (show (Int32.ofInt 36) ≤ v3 from c1)] at hq
      replace hp := hp.1 c1
      refine g_blk hz0 kX4_begin_35 ?_
      refine cV [0, 1, 2, 3, 4, 5, 6] (wS s) (s_X4_flatten s hp.1) rfl cwX4_flatten dX4_begin_36 rfl rfl (hm0_S_S _) ((len_S _).trans (len_S _).symm) (wS (f_X4_flatten s)) (pw1_S_S _ _) ?_
      replace hp := hp.2
      obtain ⟨g2, hg2⟩ : ∃ z, z = (f_X4_flatten s) := ⟨_, rfl⟩
      try rw [← hg2] at hp
      try rw [← hg2] at hq
      rw [← hg2]
      refine g_blk hz0 kX4_begin_39 ?_
      subst hq
      exact ⟨rfl, rfl⟩
    · rw [if_neg (show ¬ ((Int32.ofInt 36) ≤ v3) from c1)] at hq
      replace hp := hp.2 c1
      refine g_blk hz0 kX4_begin_18 ?_
      refine cVp [0, 1, 2, 3, 4, 5, 6] (wS s) (s_X4_onBoard s v3) rfl cwX4_onBoard dX4_begin_25 rfl rfl (hm0_S_S _) ?_
      refine g_blk hz0 kX4_begin_28 ?_
      refine ⟨hp.1, ?_⟩
      replace hp := hp.2
      refine ⟨(z_X4_onBoard s v3), ?_⟩
      refine g_le (L2 := [some (.ref 0), none, none, some (.int (v3 + (Int32.ofInt 1)))]) ⟨rfl, rfl, trivial⟩ ?_
      exact ih (setA s 8 (upd (s.2 8) (Int32.toNatClampNeg v3) (f_X4_onBoard s v3))) (v3 + (Int32.ofInt 1)) hp hq
def f_X4_begin (s : Rec) (w : Int32) (h : Int32) : Rec := (f_X4_begin_12 40 (setG (setG s 0 w) 1 h) ((Int32.ofInt 0)))
def p_X4_begin (s : Rec) (w : Int32) (h : Int32) : Prop := (p_X4_begin_12 40 (setG (setG s 0 w) 1 h) ((Int32.ofInt 0)))
set_option maxHeartbeats 16000000 in
set_option maxRecDepth 20000 in
theorem s_X4_begin (s : Rec) (w : Int32) (h : Int32) (hp : p_X4_begin s w h) : Spec 2 0 0 mX4_begin [.ref 0, .int w, .int h] (wS s) (Ret none (wS ((f_X4_begin s w h)))) := by
  obtain ⟨zq, hq⟩ : ∃ z, z = (f_X4_begin s w h) := ⟨_, rfl⟩
  rw [← hq]
  unfold f_X4_begin at hq
  unfold p_X4_begin at hp
  refine Sof fun sc => ?_
  refine g_blk hz0 kX4_begin_0 ?_
  refine ⟨fun h => (by cases h), Or.inl rfl, ?_⟩
  refine ⟨fun h => (by cases h), Or.inl rfl, ?_⟩
  refine g_le (L2 := [some (.ref 0), none, none, some (.int (Int32.ofInt 0))]) ⟨rfl, rfl, trivial⟩ ?_
  exact l_X4_begin_12 sc zq 40 (setG (setG s 0 w) 1 h) ((Int32.ofInt 0)) hp hq

def f_X4_cutOut (s : Rec) (c : Int32) : Rec := if (f_X4_has s c) = 0 then s else (f_X4_measure (setA s 8 (upd (s.2 8) (Int32.toNatClampNeg c) (Int32.ofInt 0))))
def p_X4_cutOut (s : Rec) (c : Int32) : Prop := (p_X4_has s c) ∧ (((f_X4_has s c) = 0 → True) ∧ (¬ ((f_X4_has s c) = 0) → (vp_in c 36 ∧ ((p_X4_measure (setA s 8 (upd (s.2 8) (Int32.toNatClampNeg c) (Int32.ofInt 0)))) ∧ True))))
set_option maxHeartbeats 16000000 in
set_option maxRecDepth 20000 in
theorem s_X4_cutOut (s : Rec) (c : Int32) (hp : p_X4_cutOut s c) : Spec 2 0 0 mX4_cutOut [.ref 0, .int c] (wS s) (Ret none (wS ((f_X4_cutOut s c)))) := by
  obtain ⟨zq, hq⟩ : ∃ z, z = (f_X4_cutOut s c) := ⟨_, rfl⟩
  rw [← hq]
  unfold f_X4_cutOut at hq
  unfold p_X4_cutOut at hp
  refine Sof fun sc => ?_
  refine g_blk hz0 kX4_cutOut_0 ?_
  refine cVp [0, 1, 2, 3, 4, 5, 6] (wS s) (s_X4_has s c hp.1) rfl cwX4_has dX4_cutOut_2 rfl rfl (hm0_S_S _) ?_
  replace hp := hp.2
  refine g_blk hz0 kX4_cutOut_5 ?_
  refine ⟨fun c1 => ?_, fun c1 => ?_⟩
  · rw [if_pos (show (f_X4_has s c) = 0 from c1)] at hq
    refine g_blk hz0 kX4_cutOut_19 ?_
    subst hq
    exact ⟨rfl, rfl⟩
  · rw [if_neg (show ¬ ((f_X4_has s c) = 0) from c1)] at hq
    replace hp := hp.2 c1
    refine g_blk hz0 kX4_cutOut_8 ?_
    refine ⟨hp.1, ?_⟩
    replace hp := hp.2
    refine ⟨Or.inl rfl, ?_⟩
    refine g_w (w2 := (wS (setA s 8 (upd (s.2 8) (Int32.toNatClampNeg c) (Int32.ofInt 0))))) rfl ?_
    refine cV [0, 1, 2, 3, 4, 5, 6] (wS (setA s 8 (upd (s.2 8) (Int32.toNatClampNeg c) (Int32.ofInt 0)))) (s_X4_measure (setA s 8 (upd (s.2 8) (Int32.toNatClampNeg c) (Int32.ofInt 0))) hp.1) rfl cwX4_measure dX4_cutOut_16 rfl rfl (hm0_S_S _) ((len_S _).trans (len_S _).symm) (wS (f_X4_measure (setA s 8 (upd (s.2 8) (Int32.toNatClampNeg c) (Int32.ofInt 0))))) (pw1_S_S _ _) ?_
    replace hp := hp.2
    obtain ⟨g2, hg2⟩ : ∃ z, z = (f_X4_measure (setA s 8 (upd (s.2 8) (Int32.toNatClampNeg c) (Int32.ofInt 0)))) := ⟨_, rfl⟩
    try rw [← hg2] at hp
    try rw [← hg2] at hq
    rw [← hg2]
    refine g_blk hz0 kX4_cutOut_19 ?_
    subst hq
    exact ⟨rfl, rfl⟩

def f_X4_crease_60 (K22 : Rec → Int32 → Int32 → Int32 → Int32 → Int32 → Rec) (s : Rec) (v1 : Int32) (v2 : Int32) (v3 : Int32) (v4 : Int32) (v5 : Int32) (u0 : Int32) : Rec := if (f_X8_turns u0 v2 v3) = 0 then (K22 s v1 v2 v3 v4 (v5 + (Int32.ofInt 1))) else (if v1 = 0 then (if ((s.2 9) (Int32.toNatClampNeg v5)) = 0 then (K22 (setA (setA (setA s 9 (upd (s.2 9) (Int32.toNatClampNeg v5) (Int32.ofInt 1))) 10 (upd (s.2 10) (Int32.toNatClampNeg v5) (f_X8_mirrored ((s.2 10) (Int32.toNatClampNeg v5)) v2))) 12 (upd (s.2 12) (Int32.toNatClampNeg v5) (v4 - ((s.2 12) (Int32.toNatClampNeg v5))))) v1 v2 v3 v4 (v5 + (Int32.ofInt 1))) else (K22 (setA (setA (setA s 9 (upd (s.2 9) (Int32.toNatClampNeg v5) (Int32.ofInt 0))) 10 (upd (s.2 10) (Int32.toNatClampNeg v5) (f_X8_mirrored ((s.2 10) (Int32.toNatClampNeg v5)) v2))) 12 (upd (s.2 12) (Int32.toNatClampNeg v5) (v4 - ((s.2 12) (Int32.toNatClampNeg v5))))) v1 v2 v3 v4 (v5 + (Int32.ofInt 1)))) else (if ((s.2 9) (Int32.toNatClampNeg v5)) = 0 then (K22 (setA (setA (setA s 9 (upd (s.2 9) (Int32.toNatClampNeg v5) (Int32.ofInt 1))) 11 (upd (s.2 11) (Int32.toNatClampNeg v5) (f_X8_mirrored ((s.2 11) (Int32.toNatClampNeg v5)) v2))) 12 (upd (s.2 12) (Int32.toNatClampNeg v5) (v4 - ((s.2 12) (Int32.toNatClampNeg v5))))) v1 v2 v3 v4 (v5 + (Int32.ofInt 1))) else (K22 (setA (setA (setA s 9 (upd (s.2 9) (Int32.toNatClampNeg v5) (Int32.ofInt 0))) 11 (upd (s.2 11) (Int32.toNatClampNeg v5) (f_X8_mirrored ((s.2 11) (Int32.toNatClampNeg v5)) v2))) 12 (upd (s.2 12) (Int32.toNatClampNeg v5) (v4 - ((s.2 12) (Int32.toNatClampNeg v5))))) v1 v2 v3 v4 (v5 + (Int32.ofInt 1)))))
def p_X4_crease_60 (G22 : Rec → Int32 → Int32 → Int32 → Int32 → Int32 → Prop) (s : Rec) (v1 : Int32) (v2 : Int32) (v3 : Int32) (v4 : Int32) (v5 : Int32) (u0 : Int32) : Prop := ((f_X8_turns u0 v2 v3) = 0 → (G22 s v1 v2 v3 v4 (v5 + (Int32.ofInt 1)))) ∧ (¬ ((f_X8_turns u0 v2 v3) = 0) → ((v1 = 0 → (vp_in v5 36 ∧ (vp_in v5 36 ∧ (vp_in v5 36 ∧ (vp_in v5 36 ∧ (vp_in v5 36 ∧ ((((s.2 9) (Int32.toNatClampNeg v5)) = 0 → (vp_in v5 36 ∧ (G22 (setA (setA (setA s 9 (upd (s.2 9) (Int32.toNatClampNeg v5) (Int32.ofInt 1))) 10 (upd (s.2 10) (Int32.toNatClampNeg v5) (f_X8_mirrored ((s.2 10) (Int32.toNatClampNeg v5)) v2))) 12 (upd (s.2 12) (Int32.toNatClampNeg v5) (v4 - ((s.2 12) (Int32.toNatClampNeg v5))))) v1 v2 v3 v4 (v5 + (Int32.ofInt 1))))) ∧ (¬ (((s.2 9) (Int32.toNatClampNeg v5)) = 0) → (vp_in v5 36 ∧ (G22 (setA (setA (setA s 9 (upd (s.2 9) (Int32.toNatClampNeg v5) (Int32.ofInt 0))) 10 (upd (s.2 10) (Int32.toNatClampNeg v5) (f_X8_mirrored ((s.2 10) (Int32.toNatClampNeg v5)) v2))) 12 (upd (s.2 12) (Int32.toNatClampNeg v5) (v4 - ((s.2 12) (Int32.toNatClampNeg v5))))) v1 v2 v3 v4 (v5 + (Int32.ofInt 1)))))))))))) ∧ (¬ (v1 = 0) → (vp_in v5 36 ∧ (vp_in v5 36 ∧ (vp_in v5 36 ∧ (vp_in v5 36 ∧ (vp_in v5 36 ∧ ((((s.2 9) (Int32.toNatClampNeg v5)) = 0 → (vp_in v5 36 ∧ (G22 (setA (setA (setA s 9 (upd (s.2 9) (Int32.toNatClampNeg v5) (Int32.ofInt 1))) 11 (upd (s.2 11) (Int32.toNatClampNeg v5) (f_X8_mirrored ((s.2 11) (Int32.toNatClampNeg v5)) v2))) 12 (upd (s.2 12) (Int32.toNatClampNeg v5) (v4 - ((s.2 12) (Int32.toNatClampNeg v5))))) v1 v2 v3 v4 (v5 + (Int32.ofInt 1))))) ∧ (¬ (((s.2 9) (Int32.toNatClampNeg v5)) = 0) → (vp_in v5 36 ∧ (G22 (setA (setA (setA s 9 (upd (s.2 9) (Int32.toNatClampNeg v5) (Int32.ofInt 0))) 11 (upd (s.2 11) (Int32.toNatClampNeg v5) (f_X8_mirrored ((s.2 11) (Int32.toNatClampNeg v5)) v2))) 12 (upd (s.2 12) (Int32.toNatClampNeg v5) (v4 - ((s.2 12) (Int32.toNatClampNeg v5))))) v1 v2 v3 v4 (v5 + (Int32.ofInt 1))))))))))))))
set_option maxHeartbeats 16000000 in
set_option maxRecDepth 20000 in
theorem l_X4_crease_60 (sc : SC)  {K22 : Rec → Int32 → Int32 → Int32 → Int32 → Int32 → Rec} {G22 : Rec → Int32 → Int32 → Int32 → Int32 → Int32 → Prop} (zq : Rec) (hK22 : ∀ (s : Rec) (v1 : Int32) (v2 : Int32) (v3 : Int32) (v4 : Int32) (v5 : Int32), G22 s v1 v2 v3 v4 v5 → zq = K22 s v1 v2 v3 v4 v5 → Good sc 1 0 0 7 mX4_crease (Ret none (wS (zq))) 0 0 22 [some (.ref 0), some (.int v1), some (.int v2), some (.int v3), some (.int v4), some (.int v5)] [] (wS s)) (s : Rec) (v1 : Int32) (v2 : Int32) (v3 : Int32) (v4 : Int32) (v5 : Int32) (u0 : Int32) (hp : p_X4_crease_60 G22 s v1 v2 v3 v4 v5 u0) (hq : zq = f_X4_crease_60 K22 s v1 v2 v3 v4 v5 u0) : Good sc 1 0 0 7 mX4_crease (Ret none (wS (zq))) 0 0 60 [some (.ref 0), some (.int v1), some (.int v2), some (.int v3), some (.int v4), some (.int v5)] [.int u0] (wS s) := by
  unfold p_X4_crease_60 at hp
  unfold f_X4_crease_60 at hq
  refine g_blk hz0 kX4_crease_60 ?_
  refine cS0 (s_X8_turns u0 v2 v3) rfl cwX8_turns dX4_crease_62 rfl ?_
  refine g_blk hz0 kX4_crease_65 ?_
  refine ⟨fun c6 => ?_, fun c6 => ?_⟩
  · rw [if_neg (show ¬ ((f_X8_turns u0 v2 v3) = 0) from c6)] at hq
    replace hp := hp.2 c6
    refine g_blk hz0 kX4_crease_71 ?_
    refine ⟨fun c7 => ?_, fun c7 => ?_⟩
    · rw [if_neg (show ¬ (v1 = 0) from c7)] at hq
      replace hp := hp.2 c7
      refine g_blk hz0 kX4_crease_96 ?_
      refine ⟨hp.1, ?_⟩
      replace hp := hp.2
      refine cS0 (s_X8_mirrored ((s.2 11) (Int32.toNatClampNeg v5)) v2) rfl cwX8_mirrored dX4_crease_110 rfl ?_
      refine g_blk hz0 kX4_crease_113 ?_
      refine ⟨hp.1, ?_⟩
      replace hp := hp.2
      refine g_blk hz0 kX4_crease_114 ?_
      refine ⟨hp.1, ?_⟩
      replace hp := hp.2
      refine ⟨hp.1, ?_⟩
      replace hp := hp.2
      refine ⟨hp.1, ?_⟩
      replace hp := hp.2
      refine ⟨fun c9 => ?_, fun c9 => ?_⟩
      · rw [if_neg (show ¬ (((s.2 9) (Int32.toNatClampNeg v5)) = 0) from c9)] at hq
        replace hp := hp.2 c9
        refine g_blk hz0 kX4_crease_151 ?_
        refine g_blk hz0 kX4_crease_152 ?_
        refine ⟨hp.1, ?_⟩
        replace hp := hp.2
        refine ⟨Or.inl rfl, ?_⟩
        refine g_blk hz0 kX4_crease_153 ?_
        refine g_le (L2 := [some (.ref 0), some (.int v1), some (.int v2), some (.int v3), some (.int v4), some (.int (v5 + (Int32.ofInt 1)))]) ⟨rfl, rfl, rfl, rfl, rfl, rfl, trivial⟩ ?_
        exact hK22 (setA (setA (setA s 9 (upd (s.2 9) (Int32.toNatClampNeg v5) (Int32.ofInt 0))) 11 (upd (s.2 11) (Int32.toNatClampNeg v5) (f_X8_mirrored ((s.2 11) (Int32.toNatClampNeg v5)) v2))) 12 (upd (s.2 12) (Int32.toNatClampNeg v5) (v4 - ((s.2 12) (Int32.toNatClampNeg v5))))) v1 v2 v3 v4 (v5 + (Int32.ofInt 1)) hp hq
      · rw [if_pos (show ((s.2 9) (Int32.toNatClampNeg v5)) = 0 from c9)] at hq
        replace hp := hp.1 c9
        refine g_blk hz0 kX4_crease_147 ?_
        refine g_blk hz0 kX4_crease_152 ?_
        refine ⟨hp.1, ?_⟩
        replace hp := hp.2
        refine ⟨Or.inr rfl, ?_⟩
        refine g_blk hz0 kX4_crease_153 ?_
        refine g_le (L2 := [some (.ref 0), some (.int v1), some (.int v2), some (.int v3), some (.int v4), some (.int (v5 + (Int32.ofInt 1)))]) ⟨rfl, rfl, rfl, rfl, rfl, rfl, trivial⟩ ?_
        exact hK22 (setA (setA (setA s 9 (upd (s.2 9) (Int32.toNatClampNeg v5) (Int32.ofInt 1))) 11 (upd (s.2 11) (Int32.toNatClampNeg v5) (f_X8_mirrored ((s.2 11) (Int32.toNatClampNeg v5)) v2))) 12 (upd (s.2 12) (Int32.toNatClampNeg v5) (v4 - ((s.2 12) (Int32.toNatClampNeg v5))))) v1 v2 v3 v4 (v5 + (Int32.ofInt 1)) hp hq
    · rw [if_pos (show v1 = 0 from c7)] at hq
      replace hp := hp.1 c7
      refine g_blk hz0 kX4_crease_75 ?_
      refine ⟨hp.1, ?_⟩
      replace hp := hp.2
      refine cS0 (s_X8_mirrored ((s.2 10) (Int32.toNatClampNeg v5)) v2) rfl cwX8_mirrored dX4_crease_89 rfl ?_
      refine g_blk hz0 kX4_crease_92 ?_
      refine ⟨hp.1, ?_⟩
      replace hp := hp.2
      refine g_blk hz0 kX4_crease_114 ?_
      refine ⟨hp.1, ?_⟩
      replace hp := hp.2
      refine ⟨hp.1, ?_⟩
      replace hp := hp.2
      refine ⟨hp.1, ?_⟩
      replace hp := hp.2
      refine ⟨fun c8 => ?_, fun c8 => ?_⟩
      · rw [if_neg (show ¬ (((s.2 9) (Int32.toNatClampNeg v5)) = 0) from c8)] at hq
        replace hp := hp.2 c8
        refine g_blk hz0 kX4_crease_151 ?_
        refine g_blk hz0 kX4_crease_152 ?_
        refine ⟨hp.1, ?_⟩
        replace hp := hp.2
        refine ⟨Or.inl rfl, ?_⟩
        refine g_blk hz0 kX4_crease_153 ?_
        refine g_le (L2 := [some (.ref 0), some (.int v1), some (.int v2), some (.int v3), some (.int v4), some (.int (v5 + (Int32.ofInt 1)))]) ⟨rfl, rfl, rfl, rfl, rfl, rfl, trivial⟩ ?_
        exact hK22 (setA (setA (setA s 9 (upd (s.2 9) (Int32.toNatClampNeg v5) (Int32.ofInt 0))) 10 (upd (s.2 10) (Int32.toNatClampNeg v5) (f_X8_mirrored ((s.2 10) (Int32.toNatClampNeg v5)) v2))) 12 (upd (s.2 12) (Int32.toNatClampNeg v5) (v4 - ((s.2 12) (Int32.toNatClampNeg v5))))) v1 v2 v3 v4 (v5 + (Int32.ofInt 1)) hp hq
      · rw [if_pos (show ((s.2 9) (Int32.toNatClampNeg v5)) = 0 from c8)] at hq
        replace hp := hp.1 c8
        refine g_blk hz0 kX4_crease_147 ?_
        refine g_blk hz0 kX4_crease_152 ?_
        refine ⟨hp.1, ?_⟩
        replace hp := hp.2
        refine ⟨Or.inr rfl, ?_⟩
        refine g_blk hz0 kX4_crease_153 ?_
        refine g_le (L2 := [some (.ref 0), some (.int v1), some (.int v2), some (.int v3), some (.int v4), some (.int (v5 + (Int32.ofInt 1)))]) ⟨rfl, rfl, rfl, rfl, rfl, rfl, trivial⟩ ?_
        exact hK22 (setA (setA (setA s 9 (upd (s.2 9) (Int32.toNatClampNeg v5) (Int32.ofInt 1))) 10 (upd (s.2 10) (Int32.toNatClampNeg v5) (f_X8_mirrored ((s.2 10) (Int32.toNatClampNeg v5)) v2))) 12 (upd (s.2 12) (Int32.toNatClampNeg v5) (v4 - ((s.2 12) (Int32.toNatClampNeg v5))))) v1 v2 v3 v4 (v5 + (Int32.ofInt 1)) hp hq
  · rw [if_pos (show (f_X8_turns u0 v2 v3) = 0 from c6)] at hq
    replace hp := hp.1 c6
    refine g_blk hz0 kX4_crease_68 ?_
    refine g_blk hz0 kX4_crease_153 ?_
    refine g_le (L2 := [some (.ref 0), some (.int v1), some (.int v2), some (.int v3), some (.int v4), some (.int (v5 + (Int32.ofInt 1)))]) ⟨rfl, rfl, rfl, rfl, rfl, rfl, trivial⟩ ?_
    exact hK22 s v1 v2 v3 v4 (v5 + (Int32.ofInt 1)) hp hq
def f_X4_crease_22  : Nat → Rec → Int32 → Int32 → Int32 → Int32 → Int32 → Rec
  | 0, s, v1, v2, v3, v4, v5 => s
  | n + 1, s, v1, v2, v3, v4, v5 => if (Int32.ofInt 36) ≤ v5 then (f_X4_measure (setA (setG s 2 ((s.1 2) + (Int32.ofInt 1))) 13 (upd (upd (upd (s.2 13) (Int32.toNatClampNeg ((Int32.ofInt 3) * (s.1 2))) v1) (Int32.toNatClampNeg (((Int32.ofInt 3) * (s.1 2)) + (Int32.ofInt 1))) v2) (Int32.toNatClampNeg (((Int32.ofInt 3) * (s.1 2)) + (Int32.ofInt 2))) v3))) else (if ((s.2 8) (Int32.toNatClampNeg v5)) = 0 then (f_X4_crease_22 n s v1 v2 v3 v4 (v5 + (Int32.ofInt 1))) else (if v1 = 0 then (f_X4_crease_60 (f_X4_crease_22 n) s v1 v2 v3 v4 v5 ((s.2 10) (Int32.toNatClampNeg v5))) else (f_X4_crease_60 (f_X4_crease_22 n) s v1 v2 v3 v4 v5 ((s.2 11) (Int32.toNatClampNeg v5)))))
def p_X4_crease_22  : Nat → Rec → Int32 → Int32 → Int32 → Int32 → Int32 → Prop
  | 0, _, _, _, _, _, _ => False
  | n + 1, s, v1, v2, v3, v4, v5 => ((Int32.ofInt 36) ≤ v5 → (vp_in ((Int32.ofInt 3) * (s.1 2)) 9 ∧ (vp_in (((Int32.ofInt 3) * (s.1 2)) + (Int32.ofInt 1)) 9 ∧ (vp_in (((Int32.ofInt 3) * (s.1 2)) + (Int32.ofInt 2)) 9 ∧ ((p_X4_measure (setA (setG s 2 ((s.1 2) + (Int32.ofInt 1))) 13 (upd (upd (upd (s.2 13) (Int32.toNatClampNeg ((Int32.ofInt 3) * (s.1 2))) v1) (Int32.toNatClampNeg (((Int32.ofInt 3) * (s.1 2)) + (Int32.ofInt 1))) v2) (Int32.toNatClampNeg (((Int32.ofInt 3) * (s.1 2)) + (Int32.ofInt 2))) v3))) ∧ True))))) ∧ (¬ ((Int32.ofInt 36) ≤ v5) → (vp_in v5 36 ∧ ((((s.2 8) (Int32.toNatClampNeg v5)) = 0 → (p_X4_crease_22 n s v1 v2 v3 v4 (v5 + (Int32.ofInt 1)))) ∧ (¬ (((s.2 8) (Int32.toNatClampNeg v5)) = 0) → ((v1 = 0 → (vp_in v5 36 ∧ (p_X4_crease_60 (p_X4_crease_22 n) s v1 v2 v3 v4 v5 ((s.2 10) (Int32.toNatClampNeg v5))))) ∧ (¬ (v1 = 0) → (vp_in v5 36 ∧ (p_X4_crease_60 (p_X4_crease_22 n) s v1 v2 v3 v4 v5 ((s.2 11) (Int32.toNatClampNeg v5))))))))))
set_option maxHeartbeats 16000000 in
set_option maxRecDepth 20000 in
theorem l_X4_crease_22 (sc : SC)   (zq : Rec)  : ∀ (n : Nat) (s : Rec) (v1 : Int32) (v2 : Int32) (v3 : Int32) (v4 : Int32) (v5 : Int32), p_X4_crease_22 n s v1 v2 v3 v4 v5 → zq = f_X4_crease_22 n s v1 v2 v3 v4 v5 → Good sc 1 0 0 7 mX4_crease (Ret none (wS (zq))) 0 0 22 [some (.ref 0), some (.int v1), some (.int v2), some (.int v3), some (.int v4), some (.int v5)] [] (wS s) := by
  intro n
  induction n with
  | zero => intro s v1 v2 v3 v4 v5 hp; exact hp.elim
  | succ n ih =>
    intro s v1 v2 v3 v4 v5 hp hq
    unfold p_X4_crease_22 at hp
    unfold f_X4_crease_22 at hq
    refine g_blk hz0 kX4_crease_22 ?_
    refine ⟨fun c2 => ?_, fun c2 => ?_⟩
    · rw [if_pos (show (Int32.ofInt 36) ≤ v5 from c2)] at hq
      replace hp := hp.1 c2
      refine g_blk hz0 kX4_crease_159 ?_
      refine ⟨hp.1, ?_⟩
      replace hp := hp.2
      refine ⟨hp.1, ?_⟩
      replace hp := hp.2
      refine ⟨hp.1, ?_⟩
      replace hp := hp.2
      refine ⟨fun h => (by cases h), Or.inl rfl, ?_⟩
      refine g_w (w2 := (wS (setA (setG s 2 ((s.1 2) + (Int32.ofInt 1))) 13 (upd (upd (upd (s.2 13) (Int32.toNatClampNeg ((Int32.ofInt 3) * (s.1 2))) v1) (Int32.toNatClampNeg (((Int32.ofInt 3) * (s.1 2)) + (Int32.ofInt 1))) v2) (Int32.toNatClampNeg (((Int32.ofInt 3) * (s.1 2)) + (Int32.ofInt 2))) v3)))) rfl ?_
      refine cV [0, 1, 2, 3, 4, 5, 6] (wS (setA (setG s 2 ((s.1 2) + (Int32.ofInt 1))) 13 (upd (upd (upd (s.2 13) (Int32.toNatClampNeg ((Int32.ofInt 3) * (s.1 2))) v1) (Int32.toNatClampNeg (((Int32.ofInt 3) * (s.1 2)) + (Int32.ofInt 1))) v2) (Int32.toNatClampNeg (((Int32.ofInt 3) * (s.1 2)) + (Int32.ofInt 2))) v3))) (s_X4_measure (setA (setG s 2 ((s.1 2) + (Int32.ofInt 1))) 13 (upd (upd (upd (s.2 13) (Int32.toNatClampNeg ((Int32.ofInt 3) * (s.1 2))) v1) (Int32.toNatClampNeg (((Int32.ofInt 3) * (s.1 2)) + (Int32.ofInt 1))) v2) (Int32.toNatClampNeg (((Int32.ofInt 3) * (s.1 2)) + (Int32.ofInt 2))) v3)) hp.1) rfl cwX4_measure dX4_crease_210 rfl rfl (hm0_S_S _) ((len_S _).trans (len_S _).symm) (wS (f_X4_measure (setA (setG s 2 ((s.1 2) + (Int32.ofInt 1))) 13 (upd (upd (upd (s.2 13) (Int32.toNatClampNeg ((Int32.ofInt 3) * (s.1 2))) v1) (Int32.toNatClampNeg (((Int32.ofInt 3) * (s.1 2)) + (Int32.ofInt 1))) v2) (Int32.toNatClampNeg (((Int32.ofInt 3) * (s.1 2)) + (Int32.ofInt 2))) v3)))) (pw1_S_S _ _) ?_
      replace hp := hp.2
      obtain ⟨g3, hg3⟩ : ∃ z, z = (f_X4_measure (setA (setG s 2 ((s.1 2) + (Int32.ofInt 1))) 13 (upd (upd (upd (s.2 13) (Int32.toNatClampNeg ((Int32.ofInt 3) * (s.1 2))) v1) (Int32.toNatClampNeg (((Int32.ofInt 3) * (s.1 2)) + (Int32.ofInt 1))) v2) (Int32.toNatClampNeg (((Int32.ofInt 3) * (s.1 2)) + (Int32.ofInt 2))) v3))) := ⟨_, rfl⟩
      try rw [← hg3] at hp
      try rw [← hg3] at hq
      rw [← hg3]
      refine g_blk hz0 kX4_crease_213 ?_
      subst hq
      exact ⟨rfl, rfl⟩
    · rw [if_neg (show ¬ ((Int32.ofInt 36) ≤ v5) from c2)] at hq
      replace hp := hp.2 c2
      refine g_blk hz0 kX4_crease_29 ?_
      refine ⟨hp.1, ?_⟩
      replace hp := hp.2
      refine ⟨fun c4 => ?_, fun c4 => ?_⟩
      · rw [if_pos (show ((s.2 8) (Int32.toNatClampNeg v5)) = 0 from c4)] at hq
        replace hp := hp.1 c4
        refine g_blk hz0 kX4_crease_153 ?_
        refine g_le (L2 := [some (.ref 0), some (.int v1), some (.int v2), some (.int v3), some (.int v4), some (.int (v5 + (Int32.ofInt 1)))]) ⟨rfl, rfl, rfl, rfl, rfl, rfl, trivial⟩ ?_
        exact ih s v1 v2 v3 v4 (v5 + (Int32.ofInt 1)) hp hq
      · rw [if_neg (show ¬ (((s.2 8) (Int32.toNatClampNeg v5)) = 0) from c4)] at hq
        replace hp := hp.2 c4
        refine g_blk hz0 kX4_crease_39 ?_
        refine ⟨fun c5 => ?_, fun c5 => ?_⟩
        · rw [if_neg (show ¬ (v1 = 0) from c5)] at hq
          replace hp := hp.2 c5
          refine g_blk hz0 kX4_crease_53 ?_
          refine ⟨hp.1, ?_⟩
          replace hp := hp.2
          refine g_le (L2 := [some (.ref 0), some (.int v1), some (.int v2), some (.int v3), some (.int v4), some (.int v5)]) ⟨rfl, rfl, rfl, rfl, rfl, rfl, trivial⟩ ?_
          exact l_X4_crease_60 sc zq (fun r0 r1 r2 r3 r4 r5 hp hq => ih r0 r1 r2 r3 r4 r5 hp hq) s v1 v2 v3 v4 v5 ((s.2 11) (Int32.toNatClampNeg v5)) hp hq
        · rw [if_pos (show v1 = 0 from c5)] at hq
          replace hp := hp.1 c5
          refine g_blk hz0 kX4_crease_43 ?_
          refine ⟨hp.1, ?_⟩
          replace hp := hp.2
          refine g_le (L2 := [some (.ref 0), some (.int v1), some (.int v2), some (.int v3), some (.int v4), some (.int v5)]) ⟨rfl, rfl, rfl, rfl, rfl, rfl, trivial⟩ ?_
          exact l_X4_crease_60 sc zq (fun r0 r1 r2 r3 r4 r5 hp hq => ih r0 r1 r2 r3 r4 r5 hp hq) s v1 v2 v3 v4 v5 ((s.2 10) (Int32.toNatClampNeg v5)) hp hq
def f_X4_crease (s : Rec) (a : Int32) (l : Int32) (w : Int32) : Rec := if (s.1 2) < (Int32.ofInt 3) then (f_X4_crease_22 40 s a l w (((Int32.ofInt 2) * (s.1 7)) + (Int32.ofInt 1)) ((Int32.ofInt 0))) else s
def p_X4_crease (s : Rec) (a : Int32) (l : Int32) (w : Int32) : Prop := ((s.1 2) < (Int32.ofInt 3) → (p_X4_crease_22 40 s a l w (((Int32.ofInt 2) * (s.1 7)) + (Int32.ofInt 1)) ((Int32.ofInt 0)))) ∧ (¬ ((s.1 2) < (Int32.ofInt 3)) → True)
set_option maxHeartbeats 16000000 in
set_option maxRecDepth 20000 in
theorem s_X4_crease (s : Rec) (a : Int32) (l : Int32) (w : Int32) (hp : p_X4_crease s a l w) : Spec 1 0 0 mX4_crease [.ref 0, .int a, .int l, .int w] (wS s) (Ret none (wS ((f_X4_crease s a l w)))) := by
  obtain ⟨zq, hq⟩ : ∃ z, z = (f_X4_crease s a l w) := ⟨_, rfl⟩
  rw [← hq]
  unfold f_X4_crease at hq
  unfold p_X4_crease at hp
  refine Sof fun sc => ?_
  refine g_blk hz0 kX4_crease_0 ?_
  refine ⟨fun c1 => ?_, fun c1 => ?_⟩
  · rw [if_pos (show (s.1 2) < (Int32.ofInt 3) from c1)] at hq
    replace hp := hp.1 c1
    refine g_blk hz0 kX4_crease_9 ?_
    refine g_le (L2 := [some (.ref 0), some (.int a), some (.int l), some (.int w), some (.int (((Int32.ofInt 2) * (s.1 7)) + (Int32.ofInt 1))), some (.int (Int32.ofInt 0))]) ⟨rfl, rfl, rfl, rfl, rfl, rfl, trivial⟩ ?_
    exact l_X4_crease_22 sc zq 40 s a l w (((Int32.ofInt 2) * (s.1 7)) + (Int32.ofInt 1)) ((Int32.ofInt 0)) hp hq
  · rw [if_neg (show ¬ ((s.1 2) < (Int32.ofInt 3)) from c1)] at hq
    refine g_blk hz0 kX4_crease_8 ?_
    subst hq
    exact ⟨rfl, rfl⟩

def f_X4_isFoldedAs_14  : Nat → Rec → Rec → Int32 → Int32
  | 0, s, a, v2 => 0
  | n + 1, s, a, v2 => if ((Int32.ofInt 3) * (s.1 2)) ≤ v2 then (Int32.ofInt 1) else (if ((s.2 13) (Int32.toNatClampNeg v2)) = ((a.2 0) (Int32.toNatClampNeg ((Int32.ofInt 3) + v2))) then (f_X4_isFoldedAs_14 n s a (v2 + (Int32.ofInt 1))) else (Int32.ofInt 0))
def p_X4_isFoldedAs_14  : Nat → Rec → Rec → Int32 → Prop
  | 0, _, _, _ => False
  | n + 1, s, a, v2 => (((Int32.ofInt 3) * (s.1 2)) ≤ v2 → True) ∧ (¬ (((Int32.ofInt 3) * (s.1 2)) ≤ v2) → (vp_in v2 9 ∧ (vp_in ((Int32.ofInt 3) + v2) 20 ∧ ((((s.2 13) (Int32.toNatClampNeg v2)) = ((a.2 0) (Int32.toNatClampNeg ((Int32.ofInt 3) + v2))) → (p_X4_isFoldedAs_14 n s a (v2 + (Int32.ofInt 1)))) ∧ (¬ (((s.2 13) (Int32.toNatClampNeg v2)) = ((a.2 0) (Int32.toNatClampNeg ((Int32.ofInt 3) + v2)))) → True)))))
set_option maxHeartbeats 16000000 in
set_option maxRecDepth 20000 in
theorem l_X4_isFoldedAs_14 (sc : SC) (s : Rec) (a : Rec)  (zq : Int32)  : ∀ (n : Nat)  (v2 : Int32), p_X4_isFoldedAs_14 n s a v2 → zq = f_X4_isFoldedAs_14 n s a v2 → Good sc 0 0 0 8 mX4_isFoldedAs (Ret (some (.int (zq))) (wSA s a)) 0 0 14 [some (.ref 0), some (.ref 7), some (.int v2)] [] (wSA s a) := by
  intro n
  induction n with
  | zero => intro v2 hp; exact hp.elim
  | succ n ih =>
    intro v2 hp hq
    unfold p_X4_isFoldedAs_14 at hp
    unfold f_X4_isFoldedAs_14 at hq
    refine g_blk hz0 kX4_isFoldedAs_14 ?_
    refine ⟨fun c2 => ?_, fun c2 => ?_⟩
    · rw [if_pos (show ((Int32.ofInt 3) * (s.1 2)) ≤ v2 from c2)] at hq
      refine g_blk hz0 kX4_isFoldedAs_46 ?_
      subst hq
      exact ⟨fun _ => Or.inr rfl, rfl, rfl⟩
    · rw [if_neg (show ¬ (((Int32.ofInt 3) * (s.1 2)) ≤ v2) from c2)] at hq
      replace hp := hp.2 c2
      refine g_blk hz0 kX4_isFoldedAs_24 ?_
      refine ⟨hp.1, ?_⟩
      replace hp := hp.2
      refine ⟨hp.1, ?_⟩
      replace hp := hp.2
      refine ⟨fun c3 => ?_, fun c3 => ?_⟩
      · rw [if_pos (show ((s.2 13) (Int32.toNatClampNeg v2)) = ((a.2 0) (Int32.toNatClampNeg ((Int32.ofInt 3) + v2))) from c3)] at hq
        replace hp := hp.1 c3
        refine g_blk hz0 kX4_isFoldedAs_40 ?_
        refine g_le (L2 := [some (.ref 0), some (.ref 7), some (.int (v2 + (Int32.ofInt 1)))]) ⟨rfl, rfl, rfl, trivial⟩ ?_
        exact ih (v2 + (Int32.ofInt 1)) hp hq
      · rw [if_neg (show ¬ (((s.2 13) (Int32.toNatClampNeg v2)) = ((a.2 0) (Int32.toNatClampNeg ((Int32.ofInt 3) + v2)))) from c3)] at hq
        refine g_blk hz0 kX4_isFoldedAs_38 ?_
        subst hq
        exact ⟨fun _ => Or.inl rfl, rfl, rfl⟩
def f_X4_isFoldedAs (s : Rec) (a : Rec)  : Int32 := if (s.1 2) = ((a.2 0) (Int32.toNatClampNeg (Int32.ofInt 2))) then (f_X4_isFoldedAs_14 40 s a ((Int32.ofInt 0))) else (Int32.ofInt 0)
def p_X4_isFoldedAs (s : Rec) (a : Rec)  : Prop := ((s.1 2) = ((a.2 0) (Int32.toNatClampNeg (Int32.ofInt 2))) → (p_X4_isFoldedAs_14 40 s a ((Int32.ofInt 0)))) ∧ (¬ ((s.1 2) = ((a.2 0) (Int32.toNatClampNeg (Int32.ofInt 2)))) → True)
set_option maxHeartbeats 16000000 in
set_option maxRecDepth 20000 in
theorem s_X4_isFoldedAs (s : Rec) (a : Rec)  (hp : p_X4_isFoldedAs s a) : Spec 0 0 0 mX4_isFoldedAs [.ref 0, .ref 7] (wSA s a) (Ret (some (.int ((f_X4_isFoldedAs s a)))) (wSA s a)) := by
  obtain ⟨zq, hq⟩ : ∃ z, z = (f_X4_isFoldedAs s a) := ⟨_, rfl⟩
  rw [← hq]
  unfold f_X4_isFoldedAs at hq
  unfold p_X4_isFoldedAs at hp
  refine Sof fun sc => ?_
  refine g_blk hz0 kX4_isFoldedAs_0 ?_
  refine ⟨vinL (by decide), ?_⟩
  refine ⟨fun c1 => ?_, fun c1 => ?_⟩
  · rw [if_pos (show (s.1 2) = ((a.2 0) (Int32.toNatClampNeg (Int32.ofInt 2))) from c1)] at hq
    replace hp := hp.1 c1
    refine g_blk hz0 kX4_isFoldedAs_12 ?_
    refine g_le (L2 := [some (.ref 0), some (.ref 7), some (.int (Int32.ofInt 0))]) ⟨rfl, rfl, rfl, trivial⟩ ?_
    exact l_X4_isFoldedAs_14 sc s a zq 40 ((Int32.ofInt 0)) hp hq
  · rw [if_neg (show ¬ ((s.1 2) = ((a.2 0) (Int32.toNatClampNeg (Int32.ofInt 2)))) from c1)] at hq
    refine g_blk hz0 kX4_isFoldedAs_10 ?_
    subst hq
    exact ⟨fun _ => Or.inl rfl, rfl, rfl⟩

def f_X4_save_9  : Nat → Rec → Rec → Int32 → Rec
  | 0, s, a, v2 => a
  | n + 1, s, a, v2 => if ((Int32.ofInt 3) * (s.1 2)) ≤ v2 then a else (f_X4_save_9 n s (setA a 0 (upd (a.2 0) (Int32.toNatClampNeg ((Int32.ofInt 3) + v2)) ((s.2 13) (Int32.toNatClampNeg v2)))) (v2 + (Int32.ofInt 1)))
def p_X4_save_9  : Nat → Rec → Rec → Int32 → Prop
  | 0, _, _, _ => False
  | n + 1, s, a, v2 => (((Int32.ofInt 3) * (s.1 2)) ≤ v2 → True) ∧ (¬ (((Int32.ofInt 3) * (s.1 2)) ≤ v2) → (vp_in v2 9 ∧ (vp_in ((Int32.ofInt 3) + v2) 20 ∧ (p_X4_save_9 n s (setA a 0 (upd (a.2 0) (Int32.toNatClampNeg ((Int32.ofInt 3) + v2)) ((s.2 13) (Int32.toNatClampNeg v2)))) (v2 + (Int32.ofInt 1))))))
set_option maxHeartbeats 16000000 in
set_option maxRecDepth 20000 in
theorem l_X4_save_9 (sc : SC) (s : Rec)  (zq : Rec)  : ∀ (n : Nat) (a : Rec) (v2 : Int32), p_X4_save_9 n s a v2 → zq = f_X4_save_9 n s a v2 → Good sc 0 0 0 8 mX4_save (Ret none (wSA s (zq))) 0 0 9 [some (.ref 0), some (.ref 7), some (.int v2)] [] (wSA s a) := by
  intro n
  induction n with
  | zero => intro a v2 hp; exact hp.elim
  | succ n ih =>
    intro a v2 hp hq
    unfold p_X4_save_9 at hp
    unfold f_X4_save_9 at hq
    refine g_blk hz0 kX4_save_9 ?_
    refine ⟨fun c1 => ?_, fun c1 => ?_⟩
    · rw [if_pos (show ((Int32.ofInt 3) * (s.1 2)) ≤ v2 from c1)] at hq
      refine g_blk hz0 kX4_save_36 ?_
      subst hq
      exact ⟨rfl, rfl⟩
    · rw [if_neg (show ¬ (((Int32.ofInt 3) * (s.1 2)) ≤ v2) from c1)] at hq
      replace hp := hp.2 c1
      refine g_blk hz0 kX4_save_19 ?_
      refine ⟨hp.1, ?_⟩
      replace hp := hp.2
      refine ⟨hp.1, ?_⟩
      replace hp := hp.2
      refine g_le (L2 := [some (.ref 0), some (.ref 7), some (.int (v2 + (Int32.ofInt 1)))]) ⟨rfl, rfl, rfl, trivial⟩ ?_
      exact ih (setA a 0 (upd (a.2 0) (Int32.toNatClampNeg ((Int32.ofInt 3) + v2)) ((s.2 13) (Int32.toNatClampNeg v2)))) (v2 + (Int32.ofInt 1)) hp hq
def f_X4_save (s : Rec) (a : Rec)  : Rec := (f_X4_save_9 40 s (setA a 0 (upd (a.2 0) (Int32.toNatClampNeg (Int32.ofInt 2)) (s.1 2))) ((Int32.ofInt 0)))
def p_X4_save (s : Rec) (a : Rec)  : Prop := (p_X4_save_9 40 s (setA a 0 (upd (a.2 0) (Int32.toNatClampNeg (Int32.ofInt 2)) (s.1 2))) ((Int32.ofInt 0)))
set_option maxHeartbeats 16000000 in
set_option maxRecDepth 20000 in
theorem s_X4_save (s : Rec) (a : Rec)  (hp : p_X4_save s a) : Spec 0 0 0 mX4_save [.ref 0, .ref 7] (wSA s a) (Ret none (wSA s ((f_X4_save s a)))) := by
  obtain ⟨zq, hq⟩ : ∃ z, z = (f_X4_save s a) := ⟨_, rfl⟩
  rw [← hq]
  unfold f_X4_save at hq
  unfold p_X4_save at hp
  refine Sof fun sc => ?_
  refine g_blk hz0 kX4_save_0 ?_
  refine ⟨vinL (by decide), ?_⟩
  refine g_le (L2 := [some (.ref 0), some (.ref 7), some (.int (Int32.ofInt 0))]) ⟨rfl, rfl, rfl, trivial⟩ ?_
  exact l_X4_save_9 sc s zq 40 (setA a 0 (upd (a.2 0) (Int32.toNatClampNeg (Int32.ofInt 2)) (s.1 2))) ((Int32.ofInt 0)) hp hq

set_option maxHeartbeats 16000000 in
theorem hm1_SA_SA (s : Rec) (a : Rec) : [0, 1, 2, 3, 4, 5, 6, 7].map (lk (wSA s a)) = (wSA s a).map (fun e => some (ren [0, 1, 2, 3, 4, 5, 6, 7] e)) := rfl
set_option maxHeartbeats 16000000 in
theorem pw2_SA_SA (s : Rec) (a : Rec)  : putW (wSA s a) [0, 1, 2, 3, 4, 5, 6, 7] ((wSA s a).map (ren [0, 1, 2, 3, 4, 5, 6, 7])) = (wSA s a) := rfl
set_option maxHeartbeats 16000000 in
theorem hm2_SA_S (s : Rec) (a : Rec) : [0, 1, 2, 3, 4, 5, 6].map (lk (wSA s a)) = (wS s).map (fun e => some (ren [0, 1, 2, 3, 4, 5, 6] e)) := rfl
set_option maxHeartbeats 16000000 in
theorem pw3_SA_S (s : Rec) (a : Rec) (s9 : Rec) : putW (wSA s a) [0, 1, 2, 3, 4, 5, 6] ((wS s9).map (ren [0, 1, 2, 3, 4, 5, 6])) = (wSA s9 a) := rfl
def f_X4_load_15  : Nat → Rec → Rec → Int32 → Rec
  | 0, s, a, v2 => s
  | n + 1, s, a, v2 => if ((a.2 0) (Int32.toNatClampNeg (Int32.ofInt 2))) ≤ v2 then s else (if (Int32.ofInt 3) ≤ v2 then s else (f_X4_load_15 n (f_X4_crease s ((a.2 0) (Int32.toNatClampNeg ((Int32.ofInt 3) + ((Int32.ofInt 3) * v2)))) ((a.2 0) (Int32.toNatClampNeg (((Int32.ofInt 3) + ((Int32.ofInt 3) * v2)) + (Int32.ofInt 1)))) ((a.2 0) (Int32.toNatClampNeg (((Int32.ofInt 3) + ((Int32.ofInt 3) * v2)) + (Int32.ofInt 2))))) a (v2 + (Int32.ofInt 1))))
def p_X4_load_15  : Nat → Rec → Rec → Int32 → Prop
  | 0, _, _, _ => False
  | n + 1, s, a, v2 => (((a.2 0) (Int32.toNatClampNeg (Int32.ofInt 2))) ≤ v2 → True) ∧ (¬ (((a.2 0) (Int32.toNatClampNeg (Int32.ofInt 2))) ≤ v2) → (((Int32.ofInt 3) ≤ v2 → True) ∧ (¬ ((Int32.ofInt 3) ≤ v2) → (vp_in ((Int32.ofInt 3) + ((Int32.ofInt 3) * v2)) 20 ∧ (vp_in (((Int32.ofInt 3) + ((Int32.ofInt 3) * v2)) + (Int32.ofInt 1)) 20 ∧ (vp_in (((Int32.ofInt 3) + ((Int32.ofInt 3) * v2)) + (Int32.ofInt 2)) 20 ∧ ((p_X4_crease s ((a.2 0) (Int32.toNatClampNeg ((Int32.ofInt 3) + ((Int32.ofInt 3) * v2)))) ((a.2 0) (Int32.toNatClampNeg (((Int32.ofInt 3) + ((Int32.ofInt 3) * v2)) + (Int32.ofInt 1)))) ((a.2 0) (Int32.toNatClampNeg (((Int32.ofInt 3) + ((Int32.ofInt 3) * v2)) + (Int32.ofInt 2))))) ∧ (p_X4_load_15 n (f_X4_crease s ((a.2 0) (Int32.toNatClampNeg ((Int32.ofInt 3) + ((Int32.ofInt 3) * v2)))) ((a.2 0) (Int32.toNatClampNeg (((Int32.ofInt 3) + ((Int32.ofInt 3) * v2)) + (Int32.ofInt 1)))) ((a.2 0) (Int32.toNatClampNeg (((Int32.ofInt 3) + ((Int32.ofInt 3) * v2)) + (Int32.ofInt 2))))) a (v2 + (Int32.ofInt 1))))))))))
set_option maxHeartbeats 16000000 in
set_option maxRecDepth 20000 in
theorem l_X4_load_15 (sc : SC) (a : Rec)  (zq : Rec)  : ∀ (n : Nat) (s : Rec) (v2 : Int32), p_X4_load_15 n s a v2 → zq = f_X4_load_15 n s a v2 → Good sc 2 0 0 8 mX4_load (Ret none (wSA (zq) a)) 0 0 15 [some (.ref 0), some (.ref 7), some (.int v2), none] [] (wSA s a) := by
  intro n
  induction n with
  | zero => intro s v2 hp; exact hp.elim
  | succ n ih =>
    intro s v2 hp hq
    unfold p_X4_load_15 at hp
    unfold f_X4_load_15 at hq
    refine g_blk hz0 kX4_load_15 ?_
    refine ⟨vinL (by decide), ?_⟩
    refine ⟨fun c3 => ?_, fun c3 => ?_⟩
    · rw [if_pos (show ((a.2 0) (Int32.toNatClampNeg (Int32.ofInt 2))) ≤ v2 from c3)] at hq
      refine g_blk hz0 kX4_load_56 ?_
      subst hq
      exact ⟨rfl, rfl⟩
    · rw [if_neg (show ¬ (((a.2 0) (Int32.toNatClampNeg (Int32.ofInt 2))) ≤ v2) from c3)] at hq
      replace hp := hp.2 c3
      refine g_blk hz0 kX4_load_22 ?_
      refine ⟨fun c4 => ?_, fun c4 => ?_⟩
      · rw [if_pos (show (Int32.ofInt 3) ≤ v2 from c4)] at hq
        refine g_blk hz0 kX4_load_56 ?_
        subst hq
        exact ⟨rfl, rfl⟩
      · rw [if_neg (show ¬ ((Int32.ofInt 3) ≤ v2) from c4)] at hq
        replace hp := hp.2 c4
        refine g_blk hz0 kX4_load_27 ?_
        refine ⟨hp.1, ?_⟩
        replace hp := hp.2
        refine ⟨hp.1, ?_⟩
        replace hp := hp.2
        refine ⟨hp.1, ?_⟩
        replace hp := hp.2
        refine cV [0, 1, 2, 3, 4, 5, 6] (wS s) (s_X4_crease s ((a.2 0) (Int32.toNatClampNeg ((Int32.ofInt 3) + ((Int32.ofInt 3) * v2)))) ((a.2 0) (Int32.toNatClampNeg (((Int32.ofInt 3) + ((Int32.ofInt 3) * v2)) + (Int32.ofInt 1)))) ((a.2 0) (Int32.toNatClampNeg (((Int32.ofInt 3) + ((Int32.ofInt 3) * v2)) + (Int32.ofInt 2)))) hp.1) rfl cwX4_crease dX4_load_47 rfl rfl (hm2_SA_S _ _) ((len_S _).trans (len_S _).symm) (wSA (f_X4_crease s ((a.2 0) (Int32.toNatClampNeg ((Int32.ofInt 3) + ((Int32.ofInt 3) * v2)))) ((a.2 0) (Int32.toNatClampNeg (((Int32.ofInt 3) + ((Int32.ofInt 3) * v2)) + (Int32.ofInt 1)))) ((a.2 0) (Int32.toNatClampNeg (((Int32.ofInt 3) + ((Int32.ofInt 3) * v2)) + (Int32.ofInt 2))))) a) (pw3_SA_S _ _ _) ?_
        replace hp := hp.2
        obtain ⟨g5, hg5⟩ : ∃ z, z = (f_X4_crease s ((a.2 0) (Int32.toNatClampNeg ((Int32.ofInt 3) + ((Int32.ofInt 3) * v2)))) ((a.2 0) (Int32.toNatClampNeg (((Int32.ofInt 3) + ((Int32.ofInt 3) * v2)) + (Int32.ofInt 1)))) ((a.2 0) (Int32.toNatClampNeg (((Int32.ofInt 3) + ((Int32.ofInt 3) * v2)) + (Int32.ofInt 2))))) := ⟨_, rfl⟩
        try rw [← hg5] at hp
        try rw [← hg5] at hq
        rw [← hg5]
        refine g_blk hz0 kX4_load_50 ?_
        refine g_le (L2 := [some (.ref 0), some (.ref 7), some (.int (v2 + (Int32.ofInt 1))), none]) ⟨rfl, rfl, rfl, trivial⟩ ?_
        exact ih g5 (v2 + (Int32.ofInt 1)) hp hq
def f_X4_load (s : Rec) (a : Rec)  : Rec := if (f_X4_isFoldedAs s a) = 0 then (f_X4_load_15 40 (f_X4_flatten s) a ((Int32.ofInt 0))) else s
def p_X4_load (s : Rec) (a : Rec)  : Prop := (p_X4_isFoldedAs s a) ∧ (((f_X4_isFoldedAs s a) = 0 → ((p_X4_flatten s) ∧ (p_X4_load_15 40 (f_X4_flatten s) a ((Int32.ofInt 0))))) ∧ (¬ ((f_X4_isFoldedAs s a) = 0) → True))
set_option maxHeartbeats 16000000 in
set_option maxRecDepth 20000 in
theorem s_X4_load (s : Rec) (a : Rec)  (hp : p_X4_load s a) : Spec 2 0 0 mX4_load [.ref 0, .ref 7] (wSA s a) (Ret none (wSA ((f_X4_load s a)) a)) := by
  obtain ⟨zq, hq⟩ : ∃ z, z = (f_X4_load s a) := ⟨_, rfl⟩
  rw [← hq]
  unfold f_X4_load at hq
  unfold p_X4_load at hp
  refine Sof fun sc => ?_
  refine g_blk hz0 kX4_load_0 ?_
  refine cVp [0, 1, 2, 3, 4, 5, 6, 7] (wSA s a) (s_X4_isFoldedAs s a hp.1) rfl cwX4_isFoldedAs dX4_load_2 rfl rfl (hm1_SA_SA _ _) ?_
  replace hp := hp.2
  refine g_blk hz0 kX4_load_5 ?_
  refine ⟨fun c1 => ?_, fun c1 => ?_⟩
  · rw [if_pos (show (f_X4_isFoldedAs s a) = 0 from c1)] at hq
    replace hp := hp.1 c1
    refine g_blk hz0 kX4_load_9 ?_
    refine cV [0, 1, 2, 3, 4, 5, 6] (wS s) (s_X4_flatten s hp.1) rfl cwX4_flatten dX4_load_10 rfl rfl (hm2_SA_S _ _) ((len_S _).trans (len_S _).symm) (wSA (f_X4_flatten s) a) (pw3_SA_S _ _ _) ?_
    replace hp := hp.2
    obtain ⟨g2, hg2⟩ : ∃ z, z = (f_X4_flatten s) := ⟨_, rfl⟩
    try rw [← hg2] at hp
    try rw [← hg2] at hq
    rw [← hg2]
    refine g_blk hz0 kX4_load_13 ?_
    refine g_le (L2 := [some (.ref 0), some (.ref 7), some (.int (Int32.ofInt 0)), none]) ⟨rfl, rfl, rfl, trivial⟩ ?_
    exact l_X4_load_15 sc a zq 40 g2 ((Int32.ofInt 0)) hp hq
  · rw [if_neg (show ¬ ((f_X4_isFoldedAs s a) = 0) from c1)] at hq
    refine g_blk hz0 kX4_load_8 ?_
    subst hq
    exact ⟨rfl, rfl⟩

set_option maxHeartbeats 16000000 in
theorem hm3_SS_S (s : Rec) (s2 : Rec) : [0, 1, 2, 3, 4, 5, 6].map (lk (wSS s s2)) = (wS s).map (fun e => some (ren [0, 1, 2, 3, 4, 5, 6] e)) := rfl
set_option maxHeartbeats 16000000 in
theorem pw4_SS_S (s : Rec) (s2 : Rec) (s9 : Rec) : putW (wSS s s2) [0, 1, 2, 3, 4, 5, 6] ((wS s9).map (ren [0, 1, 2, 3, 4, 5, 6])) = (wSS s9 s2) := rfl
def f_X4_copy (s : Rec) (s2 : Rec)  : Rec := (f_X4_measure (setA (setA (setA (setA (setA (setA (setG (setG (setG s 0 (s2.1 0)) 1 (s2.1 1)) 2 (s2.1 2)) 8 (va_cpy (s2.2 8) (s.2 8) 0 0 36)) 9 (va_cpy (s2.2 9) (s.2 9) 0 0 36)) 10 (va_cpy (s2.2 10) (s.2 10) 0 0 36)) 11 (va_cpy (s2.2 11) (s.2 11) 0 0 36)) 12 (va_cpy (s2.2 12) (s.2 12) 0 0 36)) 13 (va_cpy (s2.2 13) (s.2 13) 0 0 9)))
def p_X4_copy (s : Rec) (s2 : Rec)  : Prop := (∀ j, j < 36 → ((s2.2 8) (0 + j) = 0 ∨ (s2.2 8) (0 + j) = 1)) ∧ ((∀ j, j < 36 → ((s2.2 9) (0 + j) = 0 ∨ (s2.2 9) (0 + j) = 1)) ∧ ((p_X4_measure (setA (setA (setA (setA (setA (setA (setG (setG (setG s 0 (s2.1 0)) 1 (s2.1 1)) 2 (s2.1 2)) 8 (va_cpy (s2.2 8) (s.2 8) 0 0 36)) 9 (va_cpy (s2.2 9) (s.2 9) 0 0 36)) 10 (va_cpy (s2.2 10) (s.2 10) 0 0 36)) 11 (va_cpy (s2.2 11) (s.2 11) 0 0 36)) 12 (va_cpy (s2.2 12) (s.2 12) 0 0 36)) 13 (va_cpy (s2.2 13) (s.2 13) 0 0 9))) ∧ True))
set_option maxHeartbeats 16000000 in
set_option maxRecDepth 20000 in
theorem s_X4_copy (s : Rec) (s2 : Rec)  (hp : p_X4_copy s s2) : Spec 1 0 0 mX4_copy [.ref 0, .ref 7] (wSS s s2) (Ret none (wSS ((f_X4_copy s s2)) s2)) := by
  obtain ⟨zq, hq⟩ : ∃ z, z = (f_X4_copy s s2) := ⟨_, rfl⟩
  rw [← hq]
  unfold f_X4_copy at hq
  unfold p_X4_copy at hp
  refine Sof fun sc => ?_
  refine g_blk hz0 kX4_copy_0 ?_
  refine ⟨fun h => (by cases h), Or.inl rfl, ?_⟩
  refine ⟨fun h => (by cases h), Or.inl rfl, ?_⟩
  refine ⟨fun h => (by cases h), Or.inl rfl, ?_⟩
  have b1 := hp.1
  replace hp := hp.2
  refine g_copy (t := 1) (m0 := 36) (m1 := 36) (f := (s2.2 8)) (g := (s.2 8)) (by decide) (Or.inr rfl) (gw_mem (by decide +kernel)) rfl rfl (by decide) (by decide) (by decide) (by decide) (by decide) (fun _ => b1) (Nat.le_of_ble_eq_true rfl) dX4_copy_36 ?_
  refine g_blk hz0 kX4_copy_39 ?_
  have b2 := hp.1
  replace hp := hp.2
  refine g_copy (t := 1) (m0 := 36) (m1 := 36) (f := (s2.2 9)) (g := (s.2 9)) (by decide) (Or.inr rfl) (gw_mem (by decide +kernel)) rfl rfl (by decide) (by decide) (by decide) (by decide) (by decide) (fun _ => b2) (Nat.le_of_ble_eq_true rfl) dX4_copy_51 ?_
  refine g_blk hz0 kX4_copy_54 ?_
  refine g_copy (t := 0) (m0 := 36) (m1 := 36) (f := (s2.2 10)) (g := (s.2 10)) (by decide) (Or.inl rfl) (gw_mem (by decide +kernel)) rfl rfl (by decide) (by decide) (by decide) (by decide) (by decide) (fun h => by cases h) (Nat.le_of_ble_eq_true rfl) dX4_copy_66 ?_
  refine g_blk hz0 kX4_copy_69 ?_
  refine g_copy (t := 0) (m0 := 36) (m1 := 36) (f := (s2.2 11)) (g := (s.2 11)) (by decide) (Or.inl rfl) (gw_mem (by decide +kernel)) rfl rfl (by decide) (by decide) (by decide) (by decide) (by decide) (fun h => by cases h) (Nat.le_of_ble_eq_true rfl) dX4_copy_81 ?_
  refine g_blk hz0 kX4_copy_84 ?_
  refine g_copy (t := 0) (m0 := 36) (m1 := 36) (f := (s2.2 12)) (g := (s.2 12)) (by decide) (Or.inl rfl) (gw_mem (by decide +kernel)) rfl rfl (by decide) (by decide) (by decide) (by decide) (by decide) (fun h => by cases h) (Nat.le_of_ble_eq_true rfl) dX4_copy_96 ?_
  refine g_blk hz0 kX4_copy_99 ?_
  refine g_copy (t := 0) (m0 := 9) (m1 := 9) (f := (s2.2 13)) (g := (s.2 13)) (by decide) (Or.inl rfl) (gw_mem (by decide +kernel)) rfl rfl (by decide) (by decide) (by decide) (by decide) (by decide) (fun h => by cases h) (Nat.le_of_ble_eq_true rfl) dX4_copy_111 ?_
  refine g_blk hz0 kX4_copy_114 ?_
  refine g_w (w2 := (wSS (setA (setA (setA (setA (setA (setA (setG (setG (setG s 0 (s2.1 0)) 1 (s2.1 1)) 2 (s2.1 2)) 8 (va_cpy (s2.2 8) (s.2 8) 0 0 36)) 9 (va_cpy (s2.2 9) (s.2 9) 0 0 36)) 10 (va_cpy (s2.2 10) (s.2 10) 0 0 36)) 11 (va_cpy (s2.2 11) (s.2 11) 0 0 36)) 12 (va_cpy (s2.2 12) (s.2 12) 0 0 36)) 13 (va_cpy (s2.2 13) (s.2 13) 0 0 9)) s2)) rfl ?_
  refine cV [0, 1, 2, 3, 4, 5, 6] (wS (setA (setA (setA (setA (setA (setA (setG (setG (setG s 0 (s2.1 0)) 1 (s2.1 1)) 2 (s2.1 2)) 8 (va_cpy (s2.2 8) (s.2 8) 0 0 36)) 9 (va_cpy (s2.2 9) (s.2 9) 0 0 36)) 10 (va_cpy (s2.2 10) (s.2 10) 0 0 36)) 11 (va_cpy (s2.2 11) (s.2 11) 0 0 36)) 12 (va_cpy (s2.2 12) (s.2 12) 0 0 36)) 13 (va_cpy (s2.2 13) (s.2 13) 0 0 9))) (s_X4_measure (setA (setA (setA (setA (setA (setA (setG (setG (setG s 0 (s2.1 0)) 1 (s2.1 1)) 2 (s2.1 2)) 8 (va_cpy (s2.2 8) (s.2 8) 0 0 36)) 9 (va_cpy (s2.2 9) (s.2 9) 0 0 36)) 10 (va_cpy (s2.2 10) (s.2 10) 0 0 36)) 11 (va_cpy (s2.2 11) (s.2 11) 0 0 36)) 12 (va_cpy (s2.2 12) (s.2 12) 0 0 36)) 13 (va_cpy (s2.2 13) (s.2 13) 0 0 9)) hp.1) rfl cwX4_measure dX4_copy_115 rfl rfl (hm3_SS_S _ _) ((len_S _).trans (len_S _).symm) (wSS (f_X4_measure (setA (setA (setA (setA (setA (setA (setG (setG (setG s 0 (s2.1 0)) 1 (s2.1 1)) 2 (s2.1 2)) 8 (va_cpy (s2.2 8) (s.2 8) 0 0 36)) 9 (va_cpy (s2.2 9) (s.2 9) 0 0 36)) 10 (va_cpy (s2.2 10) (s.2 10) 0 0 36)) 11 (va_cpy (s2.2 11) (s.2 11) 0 0 36)) 12 (va_cpy (s2.2 12) (s.2 12) 0 0 36)) 13 (va_cpy (s2.2 13) (s.2 13) 0 0 9))) s2) (pw4_SS_S _ _ _) ?_
  replace hp := hp.2
  obtain ⟨g3, hg3⟩ : ∃ z, z = (f_X4_measure (setA (setA (setA (setA (setA (setA (setG (setG (setG s 0 (s2.1 0)) 1 (s2.1 1)) 2 (s2.1 2)) 8 (va_cpy (s2.2 8) (s.2 8) 0 0 36)) 9 (va_cpy (s2.2 9) (s.2 9) 0 0 36)) 10 (va_cpy (s2.2 10) (s.2 10) 0 0 36)) 11 (va_cpy (s2.2 11) (s.2 11) 0 0 36)) 12 (va_cpy (s2.2 12) (s.2 12) 0 0 36)) 13 (va_cpy (s2.2 13) (s.2 13) 0 0 9))) := ⟨_, rfl⟩
  try rw [← hg3] at hp
  try rw [← hg3] at hq
  rw [← hg3]
  refine g_blk hz0 kX4_copy_118 ?_
  subst hq
  exact ⟨rfl, rfl⟩
