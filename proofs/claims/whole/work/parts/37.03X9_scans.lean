def f_X9_scans_204  : Nat → Rec → Int32 → Int32 → Rec
  | 0, m, v1, v2 => m
  | n + 1, m, v1, v2 => if (f_X9_isByte m ((Int32.ofInt 48)) ((Int32.ofInt 57))) = 0 then (if v1 = 0 then (if ((m.1 24) - v2) ≤ (Int32.ofInt 2) then (setG (setG m 26 ((Int32.ofInt 2))) 27 (m.1 27)) else (setG (setG m 26 ((Int32.ofInt 1))) 27 (m.1 27))) else (if ((m.1 24) - v2) ≤ (Int32.ofInt 2) then (setG (setG m 26 ((Int32.ofInt 2))) 27 (-(m.1 27))) else (setG (setG m 26 ((Int32.ofInt 1))) 27 (-(m.1 27))))) else (if (Int32.ofInt 2) ≤ ((m.1 24) - v2) then (f_X9_scans_204 n (setG (setG m 24 ((m.1 24) + (Int32.ofInt 1))) 27 (m.1 27)) v1 v2) else (f_X9_scans_204 n (setG (setG m 24 ((m.1 24) + (Int32.ofInt 1))) 27 ((((Int32.ofInt 10) * (m.1 27)) + ((m.2 22) (Int32.toNatClampNeg (m.1 24)))) - (Int32.ofInt 48))) v1 v2))
def p_X9_scans_204  : Nat → Rec → Int32 → Int32 → Prop
  | 0, _, _, _ => False
  | n + 1, m, v1, v2 => (p_X9_isByte m ((Int32.ofInt 48)) ((Int32.ofInt 57))) ∧ (((f_X9_isByte m ((Int32.ofInt 48)) ((Int32.ofInt 57))) = 0 → True) ∧ (¬ ((f_X9_isByte m ((Int32.ofInt 48)) ((Int32.ofInt 57))) = 0) → (((Int32.ofInt 2) ≤ ((m.1 24) - v2) → (p_X9_scans_204 n (setG (setG m 24 ((m.1 24) + (Int32.ofInt 1))) 27 (m.1 27)) v1 v2)) ∧ (¬ ((Int32.ofInt 2) ≤ ((m.1 24) - v2)) → (vp_in (m.1 24) 200 ∧ (p_X9_scans_204 n (setG (setG m 24 ((m.1 24) + (Int32.ofInt 1))) 27 ((((Int32.ofInt 10) * (m.1 27)) + ((m.2 22) (Int32.toNatClampNeg (m.1 24)))) - (Int32.ofInt 48))) v1 v2))))))
set_option maxHeartbeats 16000000 in
set_option maxRecDepth 20000 in
theorem l_X9_scans_204 (sc : SC)   (zq : Rec)  : ∀ (n : Nat) (m : Rec) (v1 : Int32) (v2 : Int32), p_X9_scans_204 n m v1 v2 → zq = f_X9_scans_204 n m v1 v2 → Good sc 2 0 0 17 mX9_scans (Ret none (wM (zq))) 0 0 204 [some (.ref 0), some (.int v1), some (.int v2)] [] (wM m) := by
  intro n
  induction n with
  | zero => intro m v1 v2 hp; exact hp.elim
  | succ n ih =>
    intro m v1 v2 hp hq
    unfold p_X9_scans_204 at hp
    unfold f_X9_scans_204 at hq
    refine g_blk hz0 kX9_scans_204 ?_
    refine cVp [0, 1, 2, 3, 4, 5, 6, 7, 8, 9, 10, 11, 12, 13, 14, 15, 16] (wM m) (s_X9_isByte m ((Int32.ofInt 48)) ((Int32.ofInt 57)) hp.1) rfl cwX9_isByte dX9_scans_209 rfl rfl (hm0_M_M _) ?_
    replace hp := hp.2
    refine g_blk hz0 kX9_scans_212 ?_
    refine ⟨fun c13 => ?_, fun c13 => ?_⟩
    · rw [if_pos (show (f_X9_isByte m ((Int32.ofInt 48)) ((Int32.ofInt 57))) = 0 from c13)] at hq
      refine g_blk hz0 kX9_scans_269 ?_
      refine ⟨fun c14 => ?_, fun c14 => ?_⟩
      · rw [if_pos (show v1 = 0 from c14)] at hq
        refine g_blk hz0 kX9_scans_282 ?_
        refine g_blk hz0 kX9_scans_286 ?_
        refine ⟨fun h => (by cases h), Or.inl rfl, ?_⟩
        refine ⟨fun c15 => ?_, fun c15 => ?_⟩
        · rw [if_pos (show ((m.1 24) - v2) ≤ (Int32.ofInt 2) from c15)] at hq
          refine g_blk hz0 kX9_scans_304 ?_
          refine g_blk hz0 kX9_scans_305 ?_
          refine ⟨fun h => (by cases h), Or.inl rfl, ?_⟩
          subst hq
          exact ⟨rfl, rfl⟩
        · rw [if_neg (show ¬ (((m.1 24) - v2) ≤ (Int32.ofInt 2)) from c15)] at hq
          refine g_blk hz0 kX9_scans_300 ?_
          refine g_blk hz0 kX9_scans_305 ?_
          refine ⟨fun h => (by cases h), Or.inl rfl, ?_⟩
          subst hq
          exact ⟨rfl, rfl⟩
      · rw [if_neg (show ¬ (v1 = 0) from c14)] at hq
        refine g_blk hz0 kX9_scans_274 ?_
        refine g_blk hz0 kX9_scans_286 ?_
        refine ⟨fun h => (by cases h), Or.inl rfl, ?_⟩
        refine ⟨fun c16 => ?_, fun c16 => ?_⟩
        · rw [if_pos (show ((m.1 24) - v2) ≤ (Int32.ofInt 2) from c16)] at hq
          refine g_blk hz0 kX9_scans_304 ?_
          refine g_blk hz0 kX9_scans_305 ?_
          refine ⟨fun h => (by cases h), Or.inl rfl, ?_⟩
          subst hq
          exact ⟨rfl, rfl⟩
        · rw [if_neg (show ¬ (((m.1 24) - v2) ≤ (Int32.ofInt 2)) from c16)] at hq
          refine g_blk hz0 kX9_scans_300 ?_
          refine g_blk hz0 kX9_scans_305 ?_
          refine ⟨fun h => (by cases h), Or.inl rfl, ?_⟩
          subst hq
          exact ⟨rfl, rfl⟩
    · rw [if_neg (show ¬ ((f_X9_isByte m ((Int32.ofInt 48)) ((Int32.ofInt 57))) = 0) from c13)] at hq
      replace hp := hp.2 c13
      refine g_blk hz0 kX9_scans_215 ?_
      refine ⟨fun c17 => ?_, fun c17 => ?_⟩
      · rw [if_pos (show (Int32.ofInt 2) ≤ ((m.1 24) - v2) from c17)] at hq
        replace hp := hp.1 c17
        refine g_blk hz0 kX9_scans_249 ?_
        refine g_blk hz0 kX9_scans_253 ?_
        refine ⟨fun h => (by cases h), Or.inl rfl, ?_⟩
        refine ⟨fun h => (by cases h), Or.inl rfl, ?_⟩
        refine g_le (L2 := [some (.ref 0), some (.int v1), some (.int v2)]) ⟨rfl, rfl, rfl, trivial⟩ ?_
        exact ih (setG (setG m 24 ((m.1 24) + (Int32.ofInt 1))) 27 (m.1 27)) v1 v2 hp hq
      · rw [if_neg (show ¬ ((Int32.ofInt 2) ≤ ((m.1 24) - v2)) from c17)] at hq
        replace hp := hp.2 c17
        refine g_blk hz0 kX9_scans_226 ?_
        refine ⟨hp.1, ?_⟩
        replace hp := hp.2
        refine g_blk hz0 kX9_scans_253 ?_
        refine ⟨fun h => (by cases h), Or.inl rfl, ?_⟩
        refine ⟨fun h => (by cases h), Or.inl rfl, ?_⟩
        refine g_le (L2 := [some (.ref 0), some (.int v1), some (.int v2)]) ⟨rfl, rfl, rfl, trivial⟩ ?_
        exact ih (setG (setG m 24 ((m.1 24) + (Int32.ofInt 1))) 27 ((((Int32.ofInt 10) * (m.1 27)) + ((m.2 22) (Int32.toNatClampNeg (m.1 24)))) - (Int32.ofInt 48))) v1 v2 hp hq
def f_X9_scans_334  (m : Rec) (v1 : Int32) (u1 : Int32) : Rec := if v1 = 0 then (setG (setG m 24 ((m.1 24) + (Int32.ofInt 1))) 26 u1) else (setG (setG m 24 ((m.1 24) + (Int32.ofInt 0))) 26 u1)
def p_X9_scans_334  (m : Rec) (v1 : Int32) (u1 : Int32) : Prop := True
set_option maxHeartbeats 16000000 in
set_option maxRecDepth 20000 in
theorem l_X9_scans_334 (sc : SC)   (zq : Rec)  (m : Rec) (v1 : Int32) (u1 : Int32) (hp : p_X9_scans_334 m v1 u1) (hq : zq = f_X9_scans_334 m v1 u1) : Good sc 2 0 0 17 mX9_scans (Ret none (wM (zq))) 0 0 334 [some (.ref 0), some (.int v1), none] [.int u1, .ref 0] (wM m) := by
  unfold p_X9_scans_334 at hp
  unfold f_X9_scans_334 at hq
  refine g_blk hz0 kX9_scans_334 ?_
  refine ⟨fun h => (by cases h), Or.inl rfl, ?_⟩
  refine ⟨fun c12 => ?_, fun c12 => ?_⟩
  · rw [if_pos (show v1 = 0 from c12)] at hq
    refine g_blk hz0 kX9_scans_350 ?_
    refine g_blk hz0 kX9_scans_351 ?_
    refine ⟨fun h => (by cases h), Or.inl rfl, ?_⟩
    subst hq
    exact ⟨rfl, rfl⟩
  · rw [if_neg (show ¬ (v1 = 0) from c12)] at hq
    refine g_blk hz0 kX9_scans_346 ?_
    refine g_blk hz0 kX9_scans_351 ?_
    refine ⟨fun h => (by cases h), Or.inl rfl, ?_⟩
    subst hq
    exact ⟨rfl, rfl⟩
def f_X9_scans_179  (m : Rec) (v1 : Int32) (u1 : Int32) (u2 : Int32) : Rec := if (f_X9_isByte (setG m 24 (u1 + u2)) ((Int32.ofInt 48)) ((Int32.ofInt 57))) = 0 then (if v1 = 0 then (if (f_X9_isByte (setG m 24 (u1 + u2)) ((Int32.ofInt 59)) ((Int32.ofInt 59))) = 0 then (f_X9_scans_334 (setG m 24 (u1 + u2)) v1 ((Int32.ofInt 1))) else (f_X9_scans_334 (setG m 24 (u1 + u2)) v1 ((Int32.ofInt 3)))) else (f_X9_scans_334 (setG m 24 (u1 + u2)) v1 ((Int32.ofInt 1)))) else (f_X9_scans_204 300 (setG (setG m 24 (u1 + u2)) 27 ((Int32.ofInt 0))) v1 (u1 + u2))
def p_X9_scans_179  (m : Rec) (v1 : Int32) (u1 : Int32) (u2 : Int32) : Prop := (p_X9_isByte (setG m 24 (u1 + u2)) ((Int32.ofInt 48)) ((Int32.ofInt 57))) ∧ (((f_X9_isByte (setG m 24 (u1 + u2)) ((Int32.ofInt 48)) ((Int32.ofInt 57))) = 0 → ((v1 = 0 → ((p_X9_isByte (setG m 24 (u1 + u2)) ((Int32.ofInt 59)) ((Int32.ofInt 59))) ∧ (((f_X9_isByte (setG m 24 (u1 + u2)) ((Int32.ofInt 59)) ((Int32.ofInt 59))) = 0 → (p_X9_scans_334 (setG m 24 (u1 + u2)) v1 ((Int32.ofInt 1)))) ∧ (¬ ((f_X9_isByte (setG m 24 (u1 + u2)) ((Int32.ofInt 59)) ((Int32.ofInt 59))) = 0) → (p_X9_scans_334 (setG m 24 (u1 + u2)) v1 ((Int32.ofInt 3))))))) ∧ (¬ (v1 = 0) → (p_X9_scans_334 (setG m 24 (u1 + u2)) v1 ((Int32.ofInt 1)))))) ∧ (¬ ((f_X9_isByte (setG m 24 (u1 + u2)) ((Int32.ofInt 48)) ((Int32.ofInt 57))) = 0) → (p_X9_scans_204 300 (setG (setG m 24 (u1 + u2)) 27 ((Int32.ofInt 0))) v1 (u1 + u2))))
set_option maxHeartbeats 16000000 in
set_option maxRecDepth 20000 in
theorem l_X9_scans_179 (sc : SC)   (zq : Rec)  (m : Rec) (v1 : Int32) (u1 : Int32) (u2 : Int32) (hp : p_X9_scans_179 m v1 u1 u2) (hq : zq = f_X9_scans_179 m v1 u1 u2) : Good sc 2 0 0 17 mX9_scans (Ret none (wM (zq))) 0 0 179 [some (.ref 0), some (.int v1), none] [.int u2, .int u1, .ref 0] (wM m) := by
  unfold p_X9_scans_179 at hp
  unfold f_X9_scans_179 at hq
  refine g_blk hz0 kX9_scans_179 ?_
  refine ⟨fun h => (by cases h), Or.inl rfl, ?_⟩
  refine g_w (w2 := (wM (setG m 24 (u1 + u2)))) rfl ?_
  refine cVp [0, 1, 2, 3, 4, 5, 6, 7, 8, 9, 10, 11, 12, 13, 14, 15, 16] (wM (setG m 24 (u1 + u2))) (s_X9_isByte (setG m 24 (u1 + u2)) ((Int32.ofInt 48)) ((Int32.ofInt 57)) hp.1) rfl cwX9_isByte dX9_scans_188 rfl rfl (hm0_M_M _) ?_
  replace hp := hp.2
  refine g_blk hz0 kX9_scans_191 ?_
  refine ⟨fun c5 => ?_, fun c5 => ?_⟩
  · rw [if_pos (show (f_X9_isByte (setG m 24 (u1 + u2)) ((Int32.ofInt 48)) ((Int32.ofInt 57))) = 0 from c5)] at hq
    replace hp := hp.1 c5
    refine g_blk hz0 kX9_scans_309 ?_
    refine ⟨fun c6 => ?_, fun c6 => ?_⟩
    · rw [if_pos (show v1 = 0 from c6)] at hq
      replace hp := hp.1 c6
      refine g_blk hz0 kX9_scans_318 ?_
      refine cVp [0, 1, 2, 3, 4, 5, 6, 7, 8, 9, 10, 11, 12, 13, 14, 15, 16] (wM (setG m 24 (u1 + u2))) (s_X9_isByte (setG m 24 (u1 + u2)) ((Int32.ofInt 59)) ((Int32.ofInt 59)) hp.1) rfl cwX9_isByte dX9_scans_323 rfl rfl (hm0_M_M _) ?_
      replace hp := hp.2
      refine g_blk hz0 kX9_scans_326 ?_
      refine ⟨fun c7 => ?_, fun c7 => ?_⟩
      · rw [if_pos (show (f_X9_isByte (setG m 24 (u1 + u2)) ((Int32.ofInt 59)) ((Int32.ofInt 59))) = 0 from c7)] at hq
        replace hp := hp.1 c7
        refine g_blk hz0 kX9_scans_333 ?_
        refine g_le (L2 := [some (.ref 0), some (.int v1), none]) ⟨rfl, rfl, trivial⟩ ?_
        exact l_X9_scans_334 sc zq (setG m 24 (u1 + u2)) v1 ((Int32.ofInt 1)) hp hq
      · rw [if_neg (show ¬ ((f_X9_isByte (setG m 24 (u1 + u2)) ((Int32.ofInt 59)) ((Int32.ofInt 59))) = 0) from c7)] at hq
        replace hp := hp.2 c7
        refine g_blk hz0 kX9_scans_329 ?_
        refine g_le (L2 := [some (.ref 0), some (.int v1), none]) ⟨rfl, rfl, trivial⟩ ?_
        exact l_X9_scans_334 sc zq (setG m 24 (u1 + u2)) v1 ((Int32.ofInt 3)) hp hq
    · rw [if_neg (show ¬ (v1 = 0) from c6)] at hq
      replace hp := hp.2 c6
      refine g_blk hz0 kX9_scans_314 ?_
      refine g_le (L2 := [some (.ref 0), some (.int v1), none]) ⟨rfl, rfl, trivial⟩ ?_
      exact l_X9_scans_334 sc zq (setG m 24 (u1 + u2)) v1 ((Int32.ofInt 1)) hp hq
  · rw [if_neg (show ¬ ((f_X9_isByte (setG m 24 (u1 + u2)) ((Int32.ofInt 48)) ((Int32.ofInt 57))) = 0) from c5)] at hq
    replace hp := hp.2 c5
    refine g_blk hz0 kX9_scans_194 ?_
    refine ⟨fun h => (by cases h), Or.inl rfl, ?_⟩
    refine g_le (L2 := [some (.ref 0), some (.int v1), some (.int (u1 + u2))]) ⟨rfl, rfl, rfl, trivial⟩ ?_
    exact l_X9_scans_204 sc zq 300 (setG (setG m 24 (u1 + u2)) 27 ((Int32.ofInt 0))) v1 (u1 + u2) hp hq
def f_X9_scans_62  : Nat → Rec → Int64 → Rec
  | 0, m, v1 => m
  | n + 1, m, v1 => if (f_X9_isByte m ((Int32.ofInt 97)) ((Int32.ofInt 122))) = 0 then (if (lg_cmp v1 643248) = 0 then (setG m 26 ((Int32.ofInt 4))) else (if (lg_cmp v1 212356) = 0 then (setG m 26 ((Int32.ofInt 5))) else (setG m 26 ((Int32.ofInt 1))))) else (if ((m.1 24) - (m.1 25)) ≤ (Int32.ofInt 4) then (f_X9_scans_62 n (setG m 24 ((m.1 24) + (Int32.ofInt 1))) ((((32 * v1) + (Int32.toInt64 ((m.2 22) (Int32.toNatClampNeg (m.1 24))))) - 97) + (Int64.ofNat 1))) else (f_X9_scans_62 n (setG m 24 ((m.1 24) + (Int32.ofInt 1))) ((Int64.ofNat 0))))
def p_X9_scans_62  : Nat → Rec → Int64 → Prop
  | 0, _, _ => False
  | n + 1, m, v1 => (p_X9_isByte m ((Int32.ofInt 97)) ((Int32.ofInt 122))) ∧ (((f_X9_isByte m ((Int32.ofInt 97)) ((Int32.ofInt 122))) = 0 → True) ∧ (¬ ((f_X9_isByte m ((Int32.ofInt 97)) ((Int32.ofInt 122))) = 0) → ((((m.1 24) - (m.1 25)) ≤ (Int32.ofInt 4) → (vp_in (m.1 24) 200 ∧ (p_X9_scans_62 n (setG m 24 ((m.1 24) + (Int32.ofInt 1))) ((((32 * v1) + (Int32.toInt64 ((m.2 22) (Int32.toNatClampNeg (m.1 24))))) - 97) + (Int64.ofNat 1))))) ∧ (¬ (((m.1 24) - (m.1 25)) ≤ (Int32.ofInt 4)) → (p_X9_scans_62 n (setG m 24 ((m.1 24) + (Int32.ofInt 1))) ((Int64.ofNat 0)))))))
set_option maxHeartbeats 16000000 in
set_option maxRecDepth 20000 in
theorem l_X9_scans_62 (sc : SC)   (zq : Rec)  : ∀ (n : Nat) (m : Rec) (v1 : Int64), p_X9_scans_62 n m v1 → zq = f_X9_scans_62 n m v1 → Good sc 2 0 0 17 mX9_scans (Ret none (wM (zq))) 0 0 62 [some (.ref 0), some (.long v1), none] [] (wM m) := by
  intro n
  induction n with
  | zero => intro m v1 hp; exact hp.elim
  | succ n ih =>
    intro m v1 hp hq
    unfold p_X9_scans_62 at hp
    unfold f_X9_scans_62 at hq
    refine g_blk hz0 kX9_scans_62 ?_
    refine cVp [0, 1, 2, 3, 4, 5, 6, 7, 8, 9, 10, 11, 12, 13, 14, 15, 16] (wM m) (s_X9_isByte m ((Int32.ofInt 97)) ((Int32.ofInt 122)) hp.1) rfl cwX9_isByte dX9_scans_67 rfl rfl (hm0_M_M _) ?_
    replace hp := hp.2
    refine g_blk hz0 kX9_scans_70 ?_
    refine ⟨fun c8 => ?_, fun c8 => ?_⟩
    · rw [if_pos (show (f_X9_isByte m ((Int32.ofInt 97)) ((Int32.ofInt 122))) = 0 from c8)] at hq
      refine g_blk hz0 kX9_scans_126 ?_
      refine ⟨fun c9 => ?_, fun c9 => ?_⟩
      · rw [if_neg (show ¬ ((lg_cmp v1 643248) = 0) from c9)] at hq
        refine g_blk hz0 kX9_scans_139 ?_
        refine ⟨fun c10 => ?_, fun c10 => ?_⟩
        · rw [if_neg (show ¬ ((lg_cmp v1 212356) = 0) from c10)] at hq
          refine g_blk hz0 kX9_scans_151 ?_
          refine g_blk hz0 kX9_scans_152 ?_
          refine ⟨fun h => (by cases h), Or.inl rfl, ?_⟩
          subst hq
          exact ⟨rfl, rfl⟩
        · rw [if_pos (show (lg_cmp v1 212356) = 0 from c10)] at hq
          refine g_blk hz0 kX9_scans_147 ?_
          refine g_blk hz0 kX9_scans_152 ?_
          refine ⟨fun h => (by cases h), Or.inl rfl, ?_⟩
          subst hq
          exact ⟨rfl, rfl⟩
      · rw [if_pos (show (lg_cmp v1 643248) = 0 from c9)] at hq
        refine g_blk hz0 kX9_scans_135 ?_
        refine g_blk hz0 kX9_scans_152 ?_
        refine ⟨fun h => (by cases h), Or.inl rfl, ?_⟩
        subst hq
        exact ⟨rfl, rfl⟩
    · rw [if_neg (show ¬ ((f_X9_isByte m ((Int32.ofInt 97)) ((Int32.ofInt 122))) = 0) from c8)] at hq
      replace hp := hp.2 c8
      refine g_blk hz0 kX9_scans_73 ?_
      refine ⟨fun c11 => ?_, fun c11 => ?_⟩
      · rw [if_pos (show ((m.1 24) - (m.1 25)) ≤ (Int32.ofInt 4) from c11)] at hq
        replace hp := hp.1 c11
        refine g_blk hz0 kX9_scans_90 ?_
        refine ⟨hp.1, ?_⟩
        replace hp := hp.2
        refine g_blk hz0 kX9_scans_112 ?_
        refine ⟨fun h => (by cases h), Or.inl rfl, ?_⟩
        refine g_le (L2 := [some (.ref 0), some (.long ((((32 * v1) + (Int32.toInt64 ((m.2 22) (Int32.toNatClampNeg (m.1 24))))) - 97) + (Int64.ofNat 1))), none]) ⟨rfl, rfl, trivial⟩ ?_
        exact ih (setG m 24 ((m.1 24) + (Int32.ofInt 1))) ((((32 * v1) + (Int32.toInt64 ((m.2 22) (Int32.toNatClampNeg (m.1 24))))) - 97) + (Int64.ofNat 1)) hp hq
      · rw [if_neg (show ¬ (((m.1 24) - (m.1 25)) ≤ (Int32.ofInt 4)) from c11)] at hq
        replace hp := hp.2 c11
        refine g_blk hz0 kX9_scans_86 ?_
        refine g_blk hz0 kX9_scans_112 ?_
        refine ⟨fun h => (by cases h), Or.inl rfl, ?_⟩
        refine g_le (L2 := [some (.ref 0), some (.long (Int64.ofNat 0)), none]) ⟨rfl, rfl, trivial⟩ ?_
        exact ih (setG m 24 ((m.1 24) + (Int32.ofInt 1))) ((Int64.ofNat 0)) hp hq
def f_X9_scans_0  : Nat → Rec → Rec
  | 0, m => m
  | n + 1, m => if (f_X9_isByte m ((Int32.ofInt 32)) ((Int32.ofInt 32))) = 0 then (if (m.1 24) = (m.1 23) then (setG (setG m 25 (m.1 24)) 26 ((Int32.ofInt 0))) else (if (f_X9_isByte (setG m 25 (m.1 24)) ((Int32.ofInt 97)) ((Int32.ofInt 122))) = 0 then (if (f_X9_isByte (setG m 25 (m.1 24)) ((Int32.ofInt 45)) ((Int32.ofInt 45))) = 0 then (f_X9_scans_179 (setG m 25 (m.1 24)) (f_X9_isByte (setG m 25 (m.1 24)) ((Int32.ofInt 45)) ((Int32.ofInt 45))) (m.1 24) ((Int32.ofInt 0))) else (f_X9_scans_179 (setG m 25 (m.1 24)) (f_X9_isByte (setG m 25 (m.1 24)) ((Int32.ofInt 45)) ((Int32.ofInt 45))) (m.1 24) ((Int32.ofInt 1)))) else (f_X9_scans_62 300 (setG m 25 (m.1 24)) ((Int64.ofNat 0))))) else (f_X9_scans_0 n (setG m 24 ((m.1 24) + (Int32.ofInt 1))))
def p_X9_scans_0  : Nat → Rec → Prop
  | 0, _ => False
  | n + 1, m => (p_X9_isByte m ((Int32.ofInt 32)) ((Int32.ofInt 32))) ∧ (((f_X9_isByte m ((Int32.ofInt 32)) ((Int32.ofInt 32))) = 0 → (((m.1 24) = (m.1 23) → True) ∧ (¬ ((m.1 24) = (m.1 23)) → ((p_X9_isByte (setG m 25 (m.1 24)) ((Int32.ofInt 97)) ((Int32.ofInt 122))) ∧ (((f_X9_isByte (setG m 25 (m.1 24)) ((Int32.ofInt 97)) ((Int32.ofInt 122))) = 0 → ((p_X9_isByte (setG m 25 (m.1 24)) ((Int32.ofInt 45)) ((Int32.ofInt 45))) ∧ (((f_X9_isByte (setG m 25 (m.1 24)) ((Int32.ofInt 45)) ((Int32.ofInt 45))) = 0 → (p_X9_scans_179 (setG m 25 (m.1 24)) (f_X9_isByte (setG m 25 (m.1 24)) ((Int32.ofInt 45)) ((Int32.ofInt 45))) (m.1 24) ((Int32.ofInt 0)))) ∧ (¬ ((f_X9_isByte (setG m 25 (m.1 24)) ((Int32.ofInt 45)) ((Int32.ofInt 45))) = 0) → (p_X9_scans_179 (setG m 25 (m.1 24)) (f_X9_isByte (setG m 25 (m.1 24)) ((Int32.ofInt 45)) ((Int32.ofInt 45))) (m.1 24) ((Int32.ofInt 1))))))) ∧ (¬ ((f_X9_isByte (setG m 25 (m.1 24)) ((Int32.ofInt 97)) ((Int32.ofInt 122))) = 0) → (p_X9_scans_62 300 (setG m 25 (m.1 24)) ((Int64.ofNat 0))))))))) ∧ (¬ ((f_X9_isByte m ((Int32.ofInt 32)) ((Int32.ofInt 32))) = 0) → (p_X9_scans_0 n (setG m 24 ((m.1 24) + (Int32.ofInt 1))))))
set_option maxHeartbeats 16000000 in
set_option maxRecDepth 20000 in
theorem l_X9_scans_0 (sc : SC)   (zq : Rec)  : ∀ (n : Nat) (m : Rec) , p_X9_scans_0 n m → zq = f_X9_scans_0 n m → Good sc 2 0 0 17 mX9_scans (Ret none (wM (zq))) 0 0 0 [some (.ref 0), none, none] [] (wM m) := by
  intro n
  induction n with
  | zero => intro m hp; exact hp.elim
  | succ n ih =>
    intro m hp hq
    unfold p_X9_scans_0 at hp
    unfold f_X9_scans_0 at hq
    refine g_blk hz0 kX9_scans_0 ?_
    refine cVp [0, 1, 2, 3, 4, 5, 6, 7, 8, 9, 10, 11, 12, 13, 14, 15, 16] (wM m) (s_X9_isByte m ((Int32.ofInt 32)) ((Int32.ofInt 32)) hp.1) rfl cwX9_isByte dX9_scans_5 rfl rfl (hm0_M_M _) ?_
    replace hp := hp.2
    refine g_blk hz0 kX9_scans_8 ?_
    refine ⟨fun c1 => ?_, fun c1 => ?_⟩
    · rw [if_pos (show (f_X9_isByte m ((Int32.ofInt 32)) ((Int32.ofInt 32))) = 0 from c1)] at hq
      replace hp := hp.1 c1
      refine g_blk hz0 kX9_scans_24 ?_
      refine ⟨fun h => (by cases h), Or.inl rfl, ?_⟩
      refine ⟨fun c2 => ?_, fun c2 => ?_⟩
      · rw [if_neg (show ¬ ((m.1 24) = (m.1 23)) from c2)] at hq
        replace hp := hp.2 c2
        refine g_blk hz0 kX9_scans_49 ?_
        refine g_w (w2 := (wM (setG m 25 (m.1 24)))) rfl ?_
        refine cVp [0, 1, 2, 3, 4, 5, 6, 7, 8, 9, 10, 11, 12, 13, 14, 15, 16] (wM (setG m 25 (m.1 24))) (s_X9_isByte (setG m 25 (m.1 24)) ((Int32.ofInt 97)) ((Int32.ofInt 122)) hp.1) rfl cwX9_isByte dX9_scans_54 rfl rfl (hm0_M_M _) ?_
        replace hp := hp.2
        refine g_blk hz0 kX9_scans_57 ?_
        refine ⟨fun c3 => ?_, fun c3 => ?_⟩
        · rw [if_pos (show (f_X9_isByte (setG m 25 (m.1 24)) ((Int32.ofInt 97)) ((Int32.ofInt 122))) = 0 from c3)] at hq
          replace hp := hp.1 c3
          refine g_blk hz0 kX9_scans_156 ?_
          refine cVp [0, 1, 2, 3, 4, 5, 6, 7, 8, 9, 10, 11, 12, 13, 14, 15, 16] (wM (setG m 25 (m.1 24))) (s_X9_isByte (setG m 25 (m.1 24)) ((Int32.ofInt 45)) ((Int32.ofInt 45)) hp.1) rfl cwX9_isByte dX9_scans_161 rfl rfl (hm0_M_M _) ?_
          replace hp := hp.2
          refine g_blk hz0 kX9_scans_164 ?_
          refine ⟨fun c4 => ?_, fun c4 => ?_⟩
          · rw [if_pos (show (f_X9_isByte (setG m 25 (m.1 24)) ((Int32.ofInt 45)) ((Int32.ofInt 45))) = 0 from c4)] at hq
            replace hp := hp.1 c4
            refine g_blk hz0 kX9_scans_178 ?_
            refine g_le (L2 := [some (.ref 0), some (.int (f_X9_isByte (setG m 25 (m.1 24)) ((Int32.ofInt 45)) ((Int32.ofInt 45)))), none]) ⟨rfl, rfl, trivial⟩ ?_
            exact l_X9_scans_179 sc zq (setG m 25 (m.1 24)) (f_X9_isByte (setG m 25 (m.1 24)) ((Int32.ofInt 45)) ((Int32.ofInt 45))) (m.1 24) ((Int32.ofInt 0)) hp hq
          · rw [if_neg (show ¬ ((f_X9_isByte (setG m 25 (m.1 24)) ((Int32.ofInt 45)) ((Int32.ofInt 45))) = 0) from c4)] at hq
            replace hp := hp.2 c4
            refine g_blk hz0 kX9_scans_174 ?_
            refine g_le (L2 := [some (.ref 0), some (.int (f_X9_isByte (setG m 25 (m.1 24)) ((Int32.ofInt 45)) ((Int32.ofInt 45)))), none]) ⟨rfl, rfl, trivial⟩ ?_
            exact l_X9_scans_179 sc zq (setG m 25 (m.1 24)) (f_X9_isByte (setG m 25 (m.1 24)) ((Int32.ofInt 45)) ((Int32.ofInt 45))) (m.1 24) ((Int32.ofInt 1)) hp hq
        · rw [if_neg (show ¬ ((f_X9_isByte (setG m 25 (m.1 24)) ((Int32.ofInt 97)) ((Int32.ofInt 122))) = 0) from c3)] at hq
          replace hp := hp.2 c3
          refine g_blk hz0 kX9_scans_60 ?_
          refine g_le (L2 := [some (.ref 0), some (.long (Int64.ofNat 0)), none]) ⟨rfl, rfl, trivial⟩ ?_
          exact l_X9_scans_62 sc zq 300 (setG m 25 (m.1 24)) ((Int64.ofNat 0)) hp hq
      · rw [if_pos (show (m.1 24) = (m.1 23) from c2)] at hq
        refine g_blk hz0 kX9_scans_43 ?_
        refine ⟨fun h => (by cases h), Or.inl rfl, ?_⟩
        subst hq
        exact ⟨rfl, rfl⟩
    · rw [if_neg (show ¬ ((f_X9_isByte m ((Int32.ofInt 32)) ((Int32.ofInt 32))) = 0) from c1)] at hq
      replace hp := hp.2 c1
      refine g_blk hz0 kX9_scans_11 ?_
      refine ⟨fun h => (by cases h), Or.inl rfl, ?_⟩
      refine g_le (L2 := [some (.ref 0), none, none]) ⟨rfl, trivial⟩ ?_
      exact ih (setG m 24 ((m.1 24) + (Int32.ofInt 1))) hp hq
def f_X9_scans (m : Rec)  : Rec := (f_X9_scans_0 300 m)
def p_X9_scans (m : Rec)  : Prop := (p_X9_scans_0 300 m)
set_option maxHeartbeats 16000000 in
set_option maxRecDepth 20000 in
theorem s_X9_scans (m : Rec)  (hp : p_X9_scans m) : Spec 2 0 0 mX9_scans [.ref 0] (wM m) (Ret none (wM ((f_X9_scans m)))) := by
  obtain ⟨zq, hq⟩ : ∃ z, z = (f_X9_scans m) := ⟨_, rfl⟩
  rw [← hq]
  unfold f_X9_scans at hq
  unfold p_X9_scans at hp
  refine Sof fun sc => ?_
  refine g_le (L2 := [some (.ref 0), none, none]) ⟨rfl, trivial⟩ ?_
  exact l_X9_scans_0 sc zq 300 m hp hq
