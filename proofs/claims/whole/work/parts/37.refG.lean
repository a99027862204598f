def f_X9_type_39  : Nat → Rec → Int64 → Int32 → Int32 × Rec
  | 0, m, v1, v4 => (0, m)
  | n + 1, m, v1, v4 => if v4 < 0 then ((m.1 23), m) else (f_X9_type_39 n (setA (setG m 23 ((m.1 23) + 1)) 22 (upd (m.2 22) (Int32.toNatClampNeg (m.1 23)) (Int64.toInt32 ((v1 >>> (Int32.toInt64 (8 * v4) &&& 63)) &&& 255)))) v1 (v4 + (-1)))
def p_X9_type_39  : Nat → Rec → Int64 → Int32 → Prop
  | 0, _, _, _ => False
  | n + 1, m, v1, v4 => (v4 < 0 → True) ∧ (¬ (v4 < 0) → (vp_in (m.1 23) 200 ∧ (p_X9_type_39 n (setA (setG m 23 ((m.1 23) + 1)) 22 (upd (m.2 22) (Int32.toNatClampNeg (m.1 23)) (Int64.toInt32 ((v1 >>> (Int32.toInt64 (8 * v4) &&& 63)) &&& 255)))) v1 (v4 + (-1)))))
set_option maxHeartbeats 16000000 in
set_option maxRecDepth 20000 in
theorem l_X9_type_39 (sc : SC)   (zq : Int32 × Rec)  : ∀ (n : Nat) (m : Rec) (v1 : Int64) (v4 : Int32), p_X9_type_39 n m v1 v4 → zq = f_X9_type_39 n m v1 v4 → Good sc 2 0 0 17 mX9_type (Ret (some (.int (zq.1))) (wM (zq.2))) 0 0 39 [some (.ref 0), some (.long v1), none, none, some (.int v4)] [] (wM m) := by
  intro n
  induction n with
  | zero => intro m v1 v4 hp; exact hp.elim
  | succ n ih =>
    intro m v1 v4 hp hq
    unfold p_X9_type_39 at hp
    unfold f_X9_type_39 at hq
    refine g_blk hz0 kX9_type_39 ?_
    refine ⟨fun c3 => ?_, fun c3 => ?_⟩
    · rw [if_pos (show v4 < 0 from c3)] at hq
      refine g_blk hz0 kX9_type_81 ?_
      subst hq
      exact ⟨fun h => (by cases h), rfl, rfl⟩
    · rw [if_neg (show ¬ (v4 < 0) from c3)] at hq
      replace hp := hp.2 c3
      refine g_blk hz0 kX9_type_44 ?_
      refine ⟨hp.1, ?_⟩
      replace hp := hp.2
      refine ⟨fun h => (by cases h), Or.inl rfl, ?_⟩
      refine g_le (L2 := [some (.ref 0), some (.long v1), none, none, some (.int (v4 + (-1)))]) ⟨rfl, rfl, rfl, trivial⟩ ?_
      exact ih (setA (setG m 23 ((m.1 23) + 1)) 22 (upd (m.2 22) (Int32.toNatClampNeg (m.1 23)) (Int64.toInt32 ((v1 >>> (Int32.toInt64 (8 * v4) &&& 63)) &&& 255)))) v1 (v4 + (-1)) hp hq
def f_X9_type (m : Rec) (v : Int64) (n : Int32) : Int32 × Rec := if (f_X9_in (Int32.toInt64 n) 1 8) = 0 then (((f_X9_bad m).1), ((f_X9_bad m).2)) else (if ((m.1 23) + n) ≤ 200 then (f_X9_type_39 40 m v (n - 1)) else (((f_X9_full m).1), ((f_X9_full m).2)))
def p_X9_type (m : Rec) (v : Int64) (n : Int32) : Prop := ((f_X9_in (Int32.toInt64 n) 1 8) = 0 → ((p_X9_bad m) ∧ True)) ∧ (¬ ((f_X9_in (Int32.toInt64 n) 1 8) = 0) → ((((m.1 23) + n) ≤ 200 → (p_X9_type_39 40 m v (n - 1))) ∧ (¬ (((m.1 23) + n) ≤ 200) → ((p_X9_full m) ∧ True))))
set_option maxHeartbeats 16000000 in
set_option maxRecDepth 20000 in
theorem s_X9_type (m : Rec) (v : Int64) (n : Int32) (hp : p_X9_type m v n) : Spec 2 0 0 mX9_type [.ref 0, .long v, .int n] (wM m) (Ret (some (.int ((f_X9_type m v n).1))) (wM ((f_X9_type m v n).2))) := by
  obtain ⟨zq, hq⟩ : ∃ z, z = (f_X9_type m v n) := ⟨_, rfl⟩
  rw [← hq]
  unfold f_X9_type at hq
  unfold p_X9_type at hp
  refine Sof fun sc => ?_
  refine g_blk hz0 kX9_type_0 ?_
  refine cS0 (s_X9_in (Int32.toInt64 n) 1 8) rfl cwX9_in dX9_type_6 rfl ?_
  refine g_blk hz0 kX9_type_9 ?_
  refine ⟨fun c1 => ?_, fun c1 => ?_⟩
  · rw [if_neg (show ¬ ((f_X9_in (Int32.toInt64 n) 1 8) = 0) from c1)] at hq
    replace hp := hp.2 c1
    refine g_blk hz0 kX9_type_17 ?_
    refine ⟨fun c2 => ?_, fun c2 => ?_⟩
    · rw [if_pos (show ((m.1 23) + n) ≤ 200 from c2)] at hq
      replace hp := hp.1 c2
      refine g_blk hz0 kX9_type_34 ?_
      refine g_le (L2 := [some (.ref 0), some (.long v), none, none, some (.int (n - 1))]) ⟨rfl, rfl, rfl, trivial⟩ ?_
      exact l_X9_type_39 sc zq 40 m v (n - 1) hp hq
    · rw [if_neg (show ¬ (((m.1 23) + n) ≤ 200) from c2)] at hq
      replace hp := hp.2 c2
      refine g_blk hz0 kX9_type_29 ?_
      refine cV [0, 1, 2, 3, 4, 5, 6, 7, 8, 9, 10, 11, 12, 13, 14, 15, 16] (wM m) (s_X9_full m hp.1) rfl cwX9_full dX9_type_30 rfl rfl (hm0_M_M _) rfl (wM ((f_X9_full m).2)) (pw0_M_M _ _) ?_
      replace hp := hp.2
      refine g_blk hz0 kX9_type_33 ?_
      subst hq
      exact ⟨fun h => (by cases h), rfl, rfl⟩
  · rw [if_pos (show (f_X9_in (Int32.toInt64 n) 1 8) = 0 from c1)] at hq
    replace hp := hp.1 c1
    refine g_blk hz0 kX9_type_12 ?_
    refine cV [0, 1, 2, 3, 4, 5, 6, 7, 8, 9, 10, 11, 12, 13, 14, 15, 16] (wM m) (s_X9_bad m hp.1) rfl cwX9_bad dX9_type_13 rfl rfl (hm0_M_M _) rfl (wM ((f_X9_bad m).2)) (pw0_M_M _ _) ?_
    replace hp := hp.2
    refine g_blk hz0 kX9_type_16 ?_
    subst hq
    exact ⟨fun h => (by cases h), rfl, rfl⟩

def f_X9_clear (m : Rec)  : Int32 × Rec := ((m.1 23), (setG m 23 0))
set_option maxHeartbeats 16000000 in
set_option maxRecDepth 20000 in
theorem s_X9_clear (m : Rec)  : Spec 0 0 0 mX9_clear [.ref 0] (wM m) (Ret (some (.int ((f_X9_clear m).1))) (wM ((f_X9_clear m).2))) := by
  obtain ⟨zq, hq⟩ : ∃ z, z = (f_X9_clear m) := ⟨_, rfl⟩
  rw [← hq]
  unfold f_X9_clear at hq
  refine Sof fun sc => ?_
  refine g_blk hz0 kX9_clear_0 ?_
  refine ⟨fun h => (by cases h), Or.inl rfl, ?_⟩
  subst hq
  exact ⟨fun h => (by cases h), rfl, rfl⟩

def f_X9_isByte (m : Rec) (l : Int32) (h : Int32) : Int32 := if (m.1 23) ≤ (m.1 24) then 0 else (if (f_X9_in (Int32.toInt64 ((m.2 22) (Int32.toNatClampNeg (m.1 24)))) (Int32.toInt64 l) (Int32.toInt64 h)) = 0 then 0 else 1)
def p_X9_isByte (m : Rec) (l : Int32) (h : Int32) : Prop := ((m.1 23) ≤ (m.1 24) → True) ∧ (¬ ((m.1 23) ≤ (m.1 24)) → (vp_in (m.1 24) 200 ∧ True))
theorem z_X9_isByte (m : Rec) (l : Int32) (h : Int32) : (f_X9_isByte m l h) = 0 ∨ (f_X9_isByte m l h) = 1 := by
  unfold f_X9_isByte
  repeat' split
  all_goals first | exact Or.inl rfl | exact Or.inr rfl | apply z_any <;> assumption
set_option maxHeartbeats 16000000 in
set_option maxRecDepth 20000 in
theorem s_X9_isByte (m : Rec) (l : Int32) (h : Int32) (hp : p_X9_isByte m l h) : Spec 1 0 0 mX9_isByte [.ref 0, .int l, .int h] (wM m) (Ret (some (.int ((f_X9_isByte m l h)))) (wM m)) := by
  obtain ⟨zq, hq⟩ : ∃ z, z = (f_X9_isByte m l h) := ⟨_, rfl⟩
  rw [← hq]
  unfold f_X9_isByte at hq
  unfold p_X9_isByte at hp
  refine Sof fun sc => ?_
  refine g_blk hz0 kX9_isByte_0 ?_
  refine ⟨fun c1 => ?_, fun c1 => ?_⟩
  · rw [if_pos (show (m.1 23) ≤ (m.1 24) from c1)] at hq
    refine g_blk hz0 kX9_isByte_35 ?_
    refine g_blk hz0 kX9_isByte_36 ?_
    subst hq
    exact ⟨fun _ => Or.inl rfl, rfl, rfl⟩
  · rw [if_neg (show ¬ ((m.1 23) ≤ (m.1 24)) from c1)] at hq
    replace hp := hp.2 c1
    refine g_blk hz0 kX9_isByte_11 ?_
    refine ⟨hp.1, ?_⟩
    replace hp := hp.2
    refine cS0 (s_X9_in (Int32.toInt64 ((m.2 22) (Int32.toNatClampNeg (m.1 24)))) (Int32.toInt64 l) (Int32.toInt64 h)) rfl cwX9_in dX9_isByte_25 rfl ?_
    refine g_blk hz0 kX9_isByte_28 ?_
    refine ⟨fun c2 => ?_, fun c2 => ?_⟩
    · rw [if_pos (show (f_X9_in (Int32.toInt64 ((m.2 22) (Int32.toNatClampNeg (m.1 24)))) (Int32.toInt64 l) (Int32.toInt64 h)) = 0 from c2)] at hq
      refine g_blk hz0 kX9_isByte_35 ?_
      refine g_blk hz0 kX9_isByte_36 ?_
      subst hq
      exact ⟨fun _ => Or.inl rfl, rfl, rfl⟩
    · rw [if_neg (show ¬ ((f_X9_in (Int32.toInt64 ((m.2 22) (Int32.toNatClampNeg (m.1 24)))) (Int32.toInt64 l) (Int32.toInt64 h)) = 0) from c2)] at hq
      refine g_blk hz0 kX9_isByte_31 ?_
      refine g_blk hz0 kX9_isByte_36 ?_
      subst hq
      exact ⟨fun _ => Or.inr rfl, rfl, rfl⟩

def f_X9_scans_204  : Nat → Rec → Int32 → Int32 → Rec
  | 0, m, v1, v2 => m
  | n + 1, m, v1, v2 => if (f_X9_isByte m 48 57) = 0 then (if v1 = 0 then (if ((m.1 24) - v2) ≤ 2 then (setG (setG m 26 2) 27 (m.1 27)) else (setG (setG m 26 1) 27 (m.1 27))) else (if ((m.1 24) - v2) ≤ 2 then (setG (setG m 26 2) 27 (-(m.1 27))) else (setG (setG m 26 1) 27 (-(m.1 27))))) else (if 2 ≤ ((m.1 24) - v2) then (f_X9_scans_204 n (setG (setG m 24 ((m.1 24) + 1)) 27 (m.1 27)) v1 v2) else (f_X9_scans_204 n (setG (setG m 24 ((m.1 24) + 1)) 27 (((10 * (m.1 27)) + ((m.2 22) (Int32.toNatClampNeg (m.1 24)))) - 48)) v1 v2))
def p_X9_scans_204  : Nat → Rec → Int32 → Int32 → Prop
  | 0, _, _, _ => False
  | n + 1, m, v1, v2 => (p_X9_isByte m 48 57) ∧ (((f_X9_isByte m 48 57) = 0 → True) ∧ (¬ ((f_X9_isByte m 48 57) = 0) → ((2 ≤ ((m.1 24) - v2) → (p_X9_scans_204 n (setG (setG m 24 ((m.1 24) + 1)) 27 (m.1 27)) v1 v2)) ∧ (¬ (2 ≤ ((m.1 24) - v2)) → (vp_in (m.1 24) 200 ∧ (p_X9_scans_204 n (setG (setG m 24 ((m.1 24) + 1)) 27 (((10 * (m.1 27)) + ((m.2 22) (Int32.toNatClampNeg (m.1 24)))) - 48)) v1 v2))))))
set_option maxHeartbeats 16000000 in
set_option maxRecDepth 20000 in
theorem l_X9_scans_204 (sc : SC)   (zq : Rec)  : ∀ (n : Nat) (m : Rec) (v1 : Int32) (v2 : Int32), p_X9_scans_204 n m v1 v2 → zq = f_X9_scans_204 n m v1 v2 → Good sc 2 0 0 17 mX9_scans (Ret none (wM (zq))) 0 0 204 [some (.ref 0), some (.int v1), some (.int v2)] [] (wM m) := by
  intro n
  induction n with
  | zero => intro m v1 v2 hp; exact hp.elim
  | succ n ih =>
    intro m v1 v2 hp hq
    unfold p_X9_scans_204 at hp
    unfold f_X9_scans_204 at hq
    refine g_blk hz0 kX9_scans_204 ?_
    refine cVp [0, 1, 2, 3, 4, 5, 6, 7, 8, 9, 10, 11, 12, 13, 14, 15, 16] (wM m) (s_X9_isByte m 48 57 hp.1) rfl cwX9_isByte dX9_scans_209 rfl rfl (hm0_M_M _) ?_
    replace hp := hp.2
    refine g_blk hz0 kX9_scans_212 ?_
    refine ⟨fun c13 => ?_, fun c13 => ?_⟩
    · rw [if_pos (show (f_X9_isByte m 48 57) = 0 from c13)] at hq
      refine g_blk hz0 kX9_scans_269 ?_
      refine ⟨fun c14 => ?_, fun c14 => ?_⟩
      · rw [if_pos (show v1 = 0 from c14)] at hq
        refine g_blk hz0 kX9_scans_282 ?_
        refine g_blk hz0 kX9_scans_286 ?_
        refine ⟨fun h => (by cases h), Or.inl rfl, ?_⟩
        refine ⟨fun c15 => ?_, fun c15 => ?_⟩
        · rw [if_pos (show ((m.1 24) - v2) ≤ 2 from c15)] at hq
          refine g_blk hz0 kX9_scans_304 ?_
          refine g_blk hz0 kX9_scans_305 ?_
          refine ⟨fun h => (by cases h), Or.inl rfl, ?_⟩
          subst hq
          exact ⟨rfl, rfl⟩
        · rw [if_neg (show ¬ (((m.1 24) - v2) ≤ 2) from c15)] at hq
          refine g_blk hz0 kX9_scans_300 ?_
          refine g_blk hz0 kX9_scans_305 ?_
          refine ⟨fun h => (by cases h), Or.inl rfl, ?_⟩
          subst hq
          exact ⟨rfl, rfl⟩
      · rw [if_neg (show ¬ (v1 = 0) from c14)] at hq
        refine g_blk hz0 kX9_scans_274 ?_
        refine g_blk hz0 kX9_scans_286 ?_
        refine ⟨fun h => (by cases h), Or.inl rfl, ?_⟩
        refine ⟨fun c16 => ?_, fun c16 => ?_⟩
        · rw [if_pos (show ((m.1 24) - v2) ≤ 2 from c16)] at hq
          refine g_blk hz0 kX9_scans_304 ?_
          refine g_blk hz0 kX9_scans_305 ?_
          refine ⟨fun h => (by cases h), Or.inl rfl, ?_⟩
          subst hq
          exact ⟨rfl, rfl⟩
        · rw [if_neg (show ¬ (((m.1 24) - v2) ≤ 2) from c16)] at hq
          refine g_blk hz0 kX9_scans_300 ?_
          refine g_blk hz0 kX9_scans_305 ?_
          refine ⟨fun h => (by cases h), Or.inl rfl, ?_⟩
          subst hq
          exact ⟨rfl, rfl⟩
    · rw [if_neg (show ¬ ((f_X9_isByte m 48 57) = 0) from c13)] at hq
      replace hp := hp.2 c13
      refine g_blk hz0 kX9_scans_215 ?_
      refine ⟨fun c17 => ?_, fun c17 => ?_⟩
      · rw [if_pos (show 2 ≤ ((m.1 24) - v2) from c17)] at hq
        replace hp := hp.1 c17
        refine g_blk hz0 kX9_scans_249 ?_
        refine g_blk hz0 kX9_scans_253 ?_
        refine ⟨fun h => (by cases h), Or.inl rfl, ?_⟩
        refine ⟨fun h => (by cases h), Or.inl rfl, ?_⟩
        refine g_le (L2 := [some (.ref 0), some (.int v1), some (.int v2)]) ⟨rfl, rfl, rfl, trivial⟩ ?_
        exact ih (setG (setG m 24 ((m.1 24) + 1)) 27 (m.1 27)) v1 v2 hp hq
      · rw [if_neg (show ¬ (2 ≤ ((m.1 24) - v2)) from c17)] at hq
        replace hp := hp.2 c17
        refine g_blk hz0 kX9_scans_226 ?_
        refine ⟨hp.1, ?_⟩
        replace hp := hp.2
        refine g_blk hz0 kX9_scans_253 ?_
        refine ⟨fun h => (by cases h), Or.inl rfl, ?_⟩
        refine ⟨fun h => (by cases h), Or.inl rfl, ?_⟩
        refine g_le (L2 := [some (.ref 0), some (.int v1), some (.int v2)]) ⟨rfl, rfl, rfl, trivial⟩ ?_
        exact ih (setG (setG m 24 ((m.1 24) + 1)) 27 (((10 * (m.1 27)) + ((m.2 22) (Int32.toNatClampNeg (m.1 24)))) - 48)) v1 v2 hp hq
def f_X9_scans_334  (m : Rec) (v1 : Int32) (u1 : Int32) : Rec := if v1 = 0 then (setG (setG m 24 ((m.1 24) + 1)) 26 u1) else (setG (setG m 24 ((m.1 24) + 0)) 26 u1)
def p_X9_scans_334  (m : Rec) (v1 : Int32) (u1 : Int32) : Prop := True
set_option maxHeartbeats 16000000 in
set_option maxRecDepth 20000 in
theorem l_X9_scans_334 (sc : SC)   (zq : Rec)  (m : Rec) (v1 : Int32) (u1 : Int32) (hp : p_X9_scans_334 m v1 u1) (hq : zq = f_X9_scans_334 m v1 u1) : Good sc 2 0 0 17 mX9_scans (Ret none (wM (zq))) 0 0 334 [some (.ref 0), some (.int v1), none] [.int u1, .ref 0] (wM m) := by
  unfold p_X9_scans_334 at hp
  unfold f_X9_scans_334 at hq
  refine g_blk hz0 kX9_scans_334 ?_
  refine ⟨fun h => (by cases h), Or.inl rfl, ?_⟩
  refine ⟨fun c12 => ?_, fun c12 => ?_⟩
  · rw [if_pos (show v1 = 0 from c12)] at hq
    refine g_blk hz0 kX9_scans_350 ?_
    refine g_blk hz0 kX9_scans_351 ?_
    refine ⟨fun h => (by cases h), Or.inl rfl, ?_⟩
    subst hq
    exact ⟨rfl, rfl⟩
  · rw [if_neg (show ¬ (v1 = 0) from c12)] at hq
    refine g_blk hz0 kX9_scans_346 ?_
    refine g_blk hz0 kX9_scans_351 ?_
    refine ⟨fun h => (by cases h), Or.inl rfl, ?_⟩
    subst hq
    exact ⟨rfl, rfl⟩
def f_X9_scans_179  (m : Rec) (v1 : Int32) (u1 : Int32) (u2 : Int32) : Rec := if (f_X9_isByte (setG m 24 (u1 + u2)) 48 57) = 0 then (if v1 = 0 then (if (f_X9_isByte (setG m 24 (u1 + u2)) 59 59) = 0 then (f_X9_scans_334 (setG m 24 (u1 + u2)) v1 1) else (f_X9_scans_334 (setG m 24 (u1 + u2)) v1 3)) else (f_X9_scans_334 (setG m 24 (u1 + u2)) v1 1)) else (f_X9_scans_204 300 (setG (setG m 24 (u1 + u2)) 27 0) v1 (u1 + u2))
def p_X9_scans_179  (m : Rec) (v1 : Int32) (u1 : Int32) (u2 : Int32) : Prop := (p_X9_isByte (setG m 24 (u1 + u2)) 48 57) ∧ (((f_X9_isByte (setG m 24 (u1 + u2)) 48 57) = 0 → ((v1 = 0 → ((p_X9_isByte (setG m 24 (u1 + u2)) 59 59) ∧ (((f_X9_isByte (setG m 24 (u1 + u2)) 59 59) = 0 → (p_X9_scans_334 (setG m 24 (u1 + u2)) v1 1)) ∧ (¬ ((f_X9_isByte (setG m 24 (u1 + u2)) 59 59) = 0) → (p_X9_scans_334 (setG m 24 (u1 + u2)) v1 3))))) ∧ (¬ (v1 = 0) → (p_X9_scans_334 (setG m 24 (u1 + u2)) v1 1)))) ∧ (¬ ((f_X9_isByte (setG m 24 (u1 + u2)) 48 57) = 0) → (p_X9_scans_204 300 (setG (setG m 24 (u1 + u2)) 27 0) v1 (u1 + u2))))
set_option maxHeartbeats 16000000 in
set_option maxRecDepth 20000 in
theorem l_X9_scans_179 (sc : SC)   (zq : Rec)  (m : Rec) (v1 : Int32) (u1 : Int32) (u2 : Int32) (hp : p_X9_scans_179 m v1 u1 u2) (hq : zq = f_X9_scans_179 m v1 u1 u2) : Good sc 2 0 0 17 mX9_scans (Ret none (wM (zq))) 0 0 179 [some (.ref 0), some (.int v1), none] [.int u2, .int u1, .ref 0] (wM m) := by
  unfold p_X9_scans_179 at hp
  unfold f_X9_scans_179 at hq
  refine g_blk hz0 kX9_scans_179 ?_
  refine ⟨fun h => (by cases h), Or.inl rfl, ?_⟩
  refine g_w (w2 := (wM (setG m 24 (u1 + u2)))) rfl ?_
  refine cVp [0, 1, 2, 3, 4, 5, 6, 7, 8, 9, 10, 11, 12, 13, 14, 15, 16] (wM (setG m 24 (u1 + u2))) (s_X9_isByte (setG m 24 (u1 + u2)) 48 57 hp.1) rfl cwX9_isByte dX9_scans_188 rfl rfl (hm0_M_M _) ?_
  replace hp := hp.2
  refine g_blk hz0 kX9_scans_191 ?_
  refine ⟨fun c5 => ?_, fun c5 => ?_⟩
  · rw [if_pos (show (f_X9_isByte (setG m 24 (u1 + u2)) 48 57) = 0 from c5)] at hq
    replace hp := hp.1 c5
    refine g_blk hz0 kX9_scans_309 ?_
    refine ⟨fun c6 => ?_, fun c6 => ?_⟩
    · rw [if_pos (show v1 = 0 from c6)] at hq
      replace hp := hp.1 c6
      refine g_blk hz0 kX9_scans_318 ?_
      refine cVp [0, 1, 2, 3, 4, 5, 6, 7, 8, 9, 10, 11, 12, 13, 14, 15, 16] (wM (setG m 24 (u1 + u2))) (s_X9_isByte (setG m 24 (u1 + u2)) 59 59 hp.1) rfl cwX9_isByte dX9_scans_323 rfl rfl (hm0_M_M _) ?_
      replace hp := hp.2
      refine g_blk hz0 kX9_scans_326 ?_
      refine ⟨fun c7 => ?_, fun c7 => ?_⟩
      · rw [if_pos (show (f_X9_isByte (setG m 24 (u1 + u2)) 59 59) = 0 from c7)] at hq
        replace hp := hp.1 c7
        refine g_blk hz0 kX9_scans_333 ?_
        refine g_le (L2 := [some (.ref 0), some (.int v1), none]) ⟨rfl, rfl, trivial⟩ ?_
        exact l_X9_scans_334 sc zq (setG m 24 (u1 + u2)) v1 1 hp hq
      · rw [if_neg (show ¬ ((f_X9_isByte (setG m 24 (u1 + u2)) 59 59) = 0) from c7)] at hq
        replace hp := hp.2 c7
        refine g_blk hz0 kX9_scans_329 ?_
        refine g_le (L2 := [some (.ref 0), some (.int v1), none]) ⟨rfl, rfl, trivial⟩ ?_
        exact l_X9_scans_334 sc zq (setG m 24 (u1 + u2)) v1 3 hp hq
    · rw [if_neg (show ¬ (v1 = 0) from c6)] at hq
      replace hp := hp.2 c6
      refine g_blk hz0 kX9_scans_314 ?_
      refine g_le (L2 := [some (.ref 0), some (.int v1), none]) ⟨rfl, rfl, trivial⟩ ?_
      exact l_X9_scans_334 sc zq (setG m 24 (u1 + u2)) v1 1 hp hq
  · rw [if_neg (show ¬ ((f_X9_isByte (setG m 24 (u1 + u2)) 48 57) = 0) from c5)] at hq
    replace hp := hp.2 c5
    refine g_blk hz0 kX9_scans_194 ?_
    refine ⟨fun h => (by cases h), Or.inl rfl, ?_⟩
    refine g_le (L2 := [some (.ref 0), some (.int v1), some (.int (u1 + u2))]) ⟨rfl, rfl, rfl, trivial⟩ ?_
    exact l_X9_scans_204 sc zq 300 (setG (setG m 24 (u1 + u2)) 27 0) v1 (u1 + u2) hp hq
def f_X9_scans_62  : Nat → Rec → Int64 → Rec
  | 0, m, v1 => m
  | n + 1, m, v1 => if (f_X9_isByte m 97 122) = 0 then (if (lg_cmp v1 643248) = 0 then (setG m 26 4) else (if (lg_cmp v1 212356) = 0 then (setG m 26 5) else (setG m 26 1))) else (if ((m.1 24) - (m.1 25)) ≤ 4 then (f_X9_scans_62 n (setG m 24 ((m.1 24) + 1)) ((((32 * v1) + (Int32.toInt64 ((m.2 22) (Int32.toNatClampNeg (m.1 24))))) - 97) + 1)) else (f_X9_scans_62 n (setG m 24 ((m.1 24) + 1)) 0))
def p_X9_scans_62  : Nat → Rec → Int64 → Prop
  | 0, _, _ => False
  | n + 1, m, v1 => (p_X9_isByte m 97 122) ∧ (((f_X9_isByte m 97 122) = 0 → True) ∧ (¬ ((f_X9_isByte m 97 122) = 0) → ((((m.1 24) - (m.1 25)) ≤ 4 → (vp_in (m.1 24) 200 ∧ (p_X9_scans_62 n (setG m 24 ((m.1 24) + 1)) ((((32 * v1) + (Int32.toInt64 ((m.2 22) (Int32.toNatClampNeg (m.1 24))))) - 97) + 1)))) ∧ (¬ (((m.1 24) - (m.1 25)) ≤ 4) → (p_X9_scans_62 n (setG m 24 ((m.1 24) + 1)) 0)))))
set_option maxHeartbeats 16000000 in
set_option maxRecDepth 20000 in
theorem l_X9_scans_62 (sc : SC)   (zq : Rec)  : ∀ (n : Nat) (m : Rec) (v1 : Int64), p_X9_scans_62 n m v1 → zq = f_X9_scans_62 n m v1 → Good sc 2 0 0 17 mX9_scans (Ret none (wM (zq))) 0 0 62 [some (.ref 0), some (.long v1), none] [] (wM m) := by
  intro n
  induction n with
  | zero => intro m v1 hp; exact hp.elim
  | succ n ih =>
    intro m v1 hp hq
    unfold p_X9_scans_62 at hp
    unfold f_X9_scans_62 at hq
    refine g_blk hz0 kX9_scans_62 ?_
    refine cVp [0, 1, 2, 3, 4, 5, 6, 7, 8, 9, 10, 11, 12, 13, 14, 15, 16] (wM m) (s_X9_isByte m 97 122 hp.1) rfl cwX9_isByte dX9_scans_67 rfl rfl (hm0_M_M _) ?_
    replace hp := hp.2
    refine g_blk hz0 kX9_scans_70 ?_
    refine ⟨fun c8 => ?_, fun c8 => ?_⟩
    · rw [if_pos (show (f_X9_isByte m 97 122) = 0 from c8)] at hq
      refine g_blk hz0 kX9_scans_126 ?_
      refine ⟨fun c9 => ?_, fun c9 => ?_⟩
      · rw [if_neg (show ¬ ((lg_cmp v1 643248) = 0) from c9)] at hq
        refine g_blk hz0 kX9_scans_139 ?_
        refine ⟨fun c10 => ?_, fun c10 => ?_⟩
        · rw [if_neg (show ¬ ((lg_cmp v1 212356) = 0) from c10)] at hq
          refine g_blk hz0 kX9_scans_151 ?_
          refine g_blk hz0 kX9_scans_152 ?_
          refine ⟨fun h => (by cases h), Or.inl rfl, ?_⟩
          subst hq
          exact ⟨rfl, rfl⟩
        · rw [if_pos (show (lg_cmp v1 212356) = 0 from c10)] at hq
          refine g_blk hz0 kX9_scans_147 ?_
          refine g_blk hz0 kX9_scans_152 ?_
          refine ⟨fun h => (by cases h), Or.inl rfl, ?_⟩
          subst hq
          exact ⟨rfl, rfl⟩
      · rw [if_pos (show (lg_cmp v1 643248) = 0 from c9)] at hq
        refine g_blk hz0 kX9_scans_135 ?_
        refine g_blk hz0 kX9_scans_152 ?_
        refine ⟨fun h => (by cases h), Or.inl rfl, ?_⟩
        subst hq
        exact ⟨rfl, rfl⟩
    · rw [if_neg (show ¬ ((f_X9_isByte m 97 122) = 0) from c8)] at hq
      replace hp := hp.2 c8
      refine g_blk hz0 kX9_scans_73 ?_
      refine ⟨fun c11 => ?_, fun c11 => ?_⟩
      · rw [if_pos (show ((m.1 24) - (m.1 25)) ≤ 4 from c11)] at hq
        replace hp := hp.1 c11
        refine g_blk hz0 kX9_scans_90 ?_
        refine ⟨hp.1, ?_⟩
        replace hp := hp.2
        refine g_blk hz0 kX9_scans_112 ?_
        refine ⟨fun h => (by cases h), Or.inl rfl, ?_⟩
        refine g_le (L2 := [some (.ref 0), some (.long ((((32 * v1) + (Int32.toInt64 ((m.2 22) (Int32.toNatClampNeg (m.1 24))))) - 97) + 1)), none]) ⟨rfl, rfl, trivial⟩ ?_
        exact ih (setG m 24 ((m.1 24) + 1)) ((((32 * v1) + (Int32.toInt64 ((m.2 22) (Int32.toNatClampNeg (m.1 24))))) - 97) + 1) hp hq
      · rw [if_neg (show ¬ (((m.1 24) - (m.1 25)) ≤ 4) from c11)] at hq
        replace hp := hp.2 c11
        refine g_blk hz0 kX9_scans_86 ?_
        refine g_blk hz0 kX9_scans_112 ?_
        refine ⟨fun h => (by cases h), Or.inl rfl, ?_⟩
        refine g_le (L2 := [some (.ref 0), some (.long 0), none]) ⟨rfl, rfl, trivial⟩ ?_
        exact ih (setG m 24 ((m.1 24) + 1)) 0 hp hq
def f_X9_scans_0  : Nat → Rec → Rec
  | 0, m => m
  | n + 1, m => if (f_X9_isByte m 32 32) = 0 then (if (m.1 24) = (m.1 23) then (setG (setG m 25 (m.1 24)) 26 0) else (if (f_X9_isByte (setG m 25 (m.1 24)) 97 122) = 0 then (if (f_X9_isByte (setG m 25 (m.1 24)) 45 45) = 0 then (f_X9_scans_179 (setG m 25 (m.1 24)) (f_X9_isByte (setG m 25 (m.1 24)) 45 45) (m.1 24) 0) else (f_X9_scans_179 (setG m 25 (m.1 24)) (f_X9_isByte (setG m 25 (m.1 24)) 45 45) (m.1 24) 1)) else (f_X9_scans_62 300 (setG m 25 (m.1 24)) 0))) else (f_X9_scans_0 n (setG m 24 ((m.1 24) + 1)))
def p_X9_scans_0  : Nat → Rec → Prop
  | 0, _ => False
  | n + 1, m => (p_X9_isByte m 32 32) ∧ (((f_X9_isByte m 32 32) = 0 → (((m.1 24) = (m.1 23) → True) ∧ (¬ ((m.1 24) = (m.1 23)) → ((p_X9_isByte (setG m 25 (m.1 24)) 97 122) ∧ (((f_X9_isByte (setG m 25 (m.1 24)) 97 122) = 0 → ((p_X9_isByte (setG m 25 (m.1 24)) 45 45) ∧ (((f_X9_isByte (setG m 25 (m.1 24)) 45 45) = 0 → (p_X9_scans_179 (setG m 25 (m.1 24)) (f_X9_isByte (setG m 25 (m.1 24)) 45 45) (m.1 24) 0)) ∧ (¬ ((f_X9_isByte (setG m 25 (m.1 24)) 45 45) = 0) → (p_X9_scans_179 (setG m 25 (m.1 24)) (f_X9_isByte (setG m 25 (m.1 24)) 45 45) (m.1 24) 1))))) ∧ (¬ ((f_X9_isByte (setG m 25 (m.1 24)) 97 122) = 0) → (p_X9_scans_62 300 (setG m 25 (m.1 24)) 0))))))) ∧ (¬ ((f_X9_isByte m 32 32) = 0) → (p_X9_scans_0 n (setG m 24 ((m.1 24) + 1)))))
set_option maxHeartbeats 16000000 in
set_option maxRecDepth 20000 in
theorem l_X9_scans_0 (sc : SC)   (zq : Rec)  : ∀ (n : Nat) (m : Rec) , p_X9_scans_0 n m → zq = f_X9_scans_0 n m → Good sc 2 0 0 17 mX9_scans (Ret none (wM (zq))) 0 0 0 [some (.ref 0), none, none] [] (wM m) := by
  intro n
  induction n with
  | zero => intro m hp; exact hp.elim
  | succ n ih =>
    intro m hp hq
    unfold p_X9_scans_0 at hp
    unfold f_X9_scans_0 at hq
    refine g_blk hz0 kX9_scans_0 ?_
    refine cVp [0, 1, 2, 3, 4, 5, 6, 7, 8, 9, 10, 11, 12, 13, 14, 15, 16] (wM m) (s_X9_isByte m 32 32 hp.1) rfl cwX9_isByte dX9_scans_5 rfl rfl (hm0_M_M _) ?_
    replace hp := hp.2
    refine g_blk hz0 kX9_scans_8 ?_
    refine ⟨fun c1 => ?_, fun c1 => ?_⟩
    · rw [if_pos (show (f_X9_isByte m 32 32) = 0 from c1)] at hq
      replace hp := hp.1 c1
      refine g_blk hz0 kX9_scans_24 ?_
      refine ⟨fun h => (by cases h), Or.inl rfl, ?_⟩
      refine ⟨fun c2 => ?_, fun c2 => ?_⟩
      · rw [if_neg (show ¬ ((m.1 24) = (m.1 23)) from c2)] at hq
        replace hp := hp.2 c2
        refine g_blk hz0 kX9_scans_49 ?_
        refine g_w (w2 := (wM (setG m 25 (m.1 24)))) rfl ?_
        refine cVp [0, 1, 2, 3, 4, 5, 6, 7, 8, 9, 10, 11, 12, 13, 14, 15, 16] (wM (setG m 25 (m.1 24))) (s_X9_isByte (setG m 25 (m.1 24)) 97 122 hp.1) rfl cwX9_isByte dX9_scans_54 rfl rfl (hm0_M_M _) ?_
        replace hp := hp.2
        refine g_blk hz0 kX9_scans_57 ?_
        refine ⟨fun c3 => ?_, fun c3 => ?_⟩
        · rw [if_pos (show (f_X9_isByte (setG m 25 (m.1 24)) 97 122) = 0 from c3)] at hq
          replace hp := hp.1 c3
          refine g_blk hz0 kX9_scans_156 ?_
          refine cVp [0, 1, 2, 3, 4, 5, 6, 7, 8, 9, 10, 11, 12, 13, 14, 15, 16] (wM (setG m 25 (m.1 24))) (s_X9_isByte (setG m 25 (m.1 24)) 45 45 hp.1) rfl cwX9_isByte dX9_scans_161 rfl rfl (hm0_M_M _) ?_
          replace hp := hp.2
          refine g_blk hz0 kX9_scans_164 ?_
          refine ⟨fun c4 => ?_, fun c4 => ?_⟩
          · rw [if_pos (show (f_X9_isByte (setG m 25 (m.1 24)) 45 45) = 0 from c4)] at hq
            replace hp := hp.1 c4
            refine g_blk hz0 kX9_scans_178 ?_
            refine g_le (L2 := [some (.ref 0), some (.int (f_X9_isByte (setG m 25 (m.1 24)) 45 45)), none]) ⟨rfl, rfl, trivial⟩ ?_
            exact l_X9_scans_179 sc zq (setG m 25 (m.1 24)) (f_X9_isByte (setG m 25 (m.1 24)) 45 45) (m.1 24) 0 hp hq
          · rw [if_neg (show ¬ ((f_X9_isByte (setG m 25 (m.1 24)) 45 45) = 0) from c4)] at hq
            replace hp := hp.2 c4
            refine g_blk hz0 kX9_scans_174 ?_
            refine g_le (L2 := [some (.ref 0), some (.int (f_X9_isByte (setG m 25 (m.1 24)) 45 45)), none]) ⟨rfl, rfl, trivial⟩ ?_
            exact l_X9_scans_179 sc zq (setG m 25 (m.1 24)) (f_X9_isByte (setG m 25 (m.1 24)) 45 45) (m.1 24) 1 hp hq
        · rw [if_neg (show ¬ ((f_X9_isByte (setG m 25 (m.1 24)) 97 122) = 0) from c3)] at hq
          replace hp := hp.2 c3
          refine g_blk hz0 kX9_scans_60 ?_
          refine g_le (L2 := [some (.ref 0), some (.long 0), none]) ⟨rfl, rfl, trivial⟩ ?_
          exact l_X9_scans_62 sc zq 300 (setG m 25 (m.1 24)) 0 hp hq
      · rw [if_pos (show (m.1 24) = (m.1 23) from c2)] at hq
        refine g_blk hz0 kX9_scans_43 ?_
        refine ⟨fun h => (by cases h), Or.inl rfl, ?_⟩
        subst hq
        exact ⟨rfl, rfl⟩
    · rw [if_neg (show ¬ ((f_X9_isByte m 32 32) = 0) from c1)] at hq
      replace hp := hp.2 c1
      refine g_blk hz0 kX9_scans_11 ?_
      refine ⟨fun h => (by cases h), Or.inl rfl, ?_⟩
      refine g_le (L2 := [some (.ref 0), none, none]) ⟨rfl, trivial⟩ ?_
      exact ih (setG m 24 ((m.1 24) + 1)) hp hq
def f_X9_scans (m : Rec)  : Rec := (f_X9_scans_0 300 m)
def p_X9_scans (m : Rec)  : Prop := (p_X9_scans_0 300 m)
set_option maxHeartbeats 16000000 in
set_option maxRecDepth 20000 in
theorem s_X9_scans (m : Rec)  (hp : p_X9_scans m) : Spec 2 0 0 mX9_scans [.ref 0] (wM m) (Ret none (wM ((f_X9_scans m)))) := by
  obtain ⟨zq, hq⟩ : ∃ z, z = (f_X9_scans m) := ⟨_, rfl⟩
  rw [← hq]
  unfold f_X9_scans at hq
  unfold p_X9_scans at hp
  refine Sof fun sc => ?_
  refine g_le (L2 := [some (.ref 0), none, none]) ⟨rfl, trivial⟩ ?_
  exact l_X9_scans_0 sc zq 300 m hp hq

def f_X9_reads_51 (K14 : Rec → Int32 × Rec) : Nat → Rec → Int32 → Int32 → Int32 × Rec
  | 0, m, v1, v2 => (0, m)
  | n + 1, m, v1, v2 => if v1 = 4 then (if 4 ≤ v2 then (if (m.1 26) = 3 then (K14 (f_X9_scans (setG m 29 ((m.1 29) + 1)))) else (0, m)) else (if (m.1 26) = 2 then (f_X9_reads_51 K14 n (f_X9_scans (setA m 28 (upd (m.2 28) (Int32.toNatClampNeg (((5 * (m.1 29)) + 1) + v2)) (m.1 27)))) v1 (v2 + 1)) else (0, m))) else (if 3 ≤ v2 then (if (m.1 26) = 3 then (K14 (f_X9_scans (setG m 29 ((m.1 29) + 1)))) else (0, m)) else (if (m.1 26) = 2 then (f_X9_reads_51 K14 n (f_X9_scans (setA m 28 (upd (m.2 28) (Int32.toNatClampNeg (((5 * (m.1 29)) + 1) + v2)) (m.1 27)))) v1 (v2 + 1)) else (0, m)))
def p_X9_reads_51 (G14 : Rec → Prop) : Nat → Rec → Int32 → Int32 → Prop
  | 0, _, _, _ => False
  | n + 1, m, v1, v2 => (v1 = 4 → ((4 ≤ v2 → (((m.1 26) = 3 → ((p_X9_scans (setG m 29 ((m.1 29) + 1))) ∧ (G14 (f_X9_scans (setG m 29 ((m.1 29) + 1)))))) ∧ (¬ ((m.1 26) = 3) → True))) ∧ (¬ (4 ≤ v2) → (((m.1 26) = 2 → (vp_in (((5 * (m.1 29)) + 1) + v2) 300 ∧ ((p_X9_scans (setA m 28 (upd (m.2 28) (Int32.toNatClampNeg (((5 * (m.1 29)) + 1) + v2)) (m.1 27)))) ∧ (p_X9_reads_51 G14 n (f_X9_scans (setA m 28 (upd (m.2 28) (Int32.toNatClampNeg (((5 * (m.1 29)) + 1) + v2)) (m.1 27)))) v1 (v2 + 1))))) ∧ (¬ ((m.1 26) = 2) → True))))) ∧ (¬ (v1 = 4) → ((3 ≤ v2 → (((m.1 26) = 3 → ((p_X9_scans (setG m 29 ((m.1 29) + 1))) ∧ (G14 (f_X9_scans (setG m 29 ((m.1 29) + 1)))))) ∧ (¬ ((m.1 26) = 3) → True))) ∧ (¬ (3 ≤ v2) → (((m.1 26) = 2 → (vp_in (((5 * (m.1 29)) + 1) + v2) 300 ∧ ((p_X9_scans (setA m 28 (upd (m.2 28) (Int32.toNatClampNeg (((5 * (m.1 29)) + 1) + v2)) (m.1 27)))) ∧ (p_X9_reads_51 G14 n (f_X9_scans (setA m 28 (upd (m.2 28) (Int32.toNatClampNeg (((5 * (m.1 29)) + 1) + v2)) (m.1 27)))) v1 (v2 + 1))))) ∧ (¬ ((m.1 26) = 2) → True)))))
set_option maxHeartbeats 16000000 in
set_option maxRecDepth 20000 in
theorem l_X9_reads_51 (sc : SC)  {K14 : Rec → Int32 × Rec} {G14 : Rec → Prop} (zq : Int32 × Rec) (hK14 : ∀ (m : Rec), G14 m → zq = K14 m → Good sc 3 0 0 17 mX9_reads (Ret (some (.int (zq.1))) (wM (zq.2))) 0 0 14 [some (.ref 0), none, none] [] (wM m)) : ∀ (n : Nat) (m : Rec) (v1 : Int32) (v2 : Int32), p_X9_reads_51 G14 n m v1 v2 → zq = f_X9_reads_51 K14 n m v1 v2 → Good sc 3 0 0 17 mX9_reads (Ret (some (.int (zq.1))) (wM (zq.2))) 0 0 51 [some (.ref 0), some (.int v1), some (.int v2)] [] (wM m) := by
  intro n
  induction n with
  | zero => intro m v1 v2 hp; exact hp.elim
  | succ n ih =>
    intro m v1 v2 hp hq
    unfold p_X9_reads_51 at hp
    unfold f_X9_reads_51 at hq
    refine g_blk hz0 kX9_reads_51 ?_
    refine ⟨fun c3 => ?_, fun c3 => ?_⟩
    · rw [if_neg (show ¬ (v1 = 4) from c3)] at hq
      replace hp := hp.2 c3
      refine g_blk hz0 kX9_reads_61 ?_
      refine g_blk hz0 kX9_reads_62 ?_
      refine ⟨fun c7 => ?_, fun c7 => ?_⟩
      · rw [if_pos (show 3 ≤ v2 from c7)] at hq
        replace hp := hp.1 c7
        refine g_blk hz0 kX9_reads_104 ?_
        refine ⟨fun c8 => ?_, fun c8 => ?_⟩
        · rw [if_pos (show (m.1 26) = 3 from c8)] at hq
          replace hp := hp.1 c8
          refine g_blk hz0 kX9_reads_114 ?_
          refine ⟨fun h => (by cases h), Or.inl rfl, ?_⟩
          refine g_w (w2 := (wM (setG m 29 ((m.1 29) + 1)))) rfl ?_
          refine cV [0, 1, 2, 3, 4, 5, 6, 7, 8, 9, 10, 11, 12, 13, 14, 15, 16] (wM (setG m 29 ((m.1 29) + 1))) (s_X9_scans (setG m 29 ((m.1 29) + 1)) hp.1) rfl cwX9_scans dX9_reads_125 rfl rfl (hm0_M_M _) rfl (wM (f_X9_scans (setG m 29 ((m.1 29) + 1)))) (pw0_M_M _ _) ?_
          replace hp := hp.2
          refine g_blk hz0 kX9_reads_128 ?_
          refine g_le (L2 := [some (.ref 0), none, none]) ⟨rfl, trivial⟩ ?_
          exact hK14 (f_X9_scans (setG m 29 ((m.1 29) + 1))) hp hq
        · rw [if_neg (show ¬ ((m.1 26) = 3) from c8)] at hq
          refine g_blk hz0 kX9_reads_112 ?_
          subst hq
          exact ⟨fun _ => Or.inl rfl, rfl, rfl⟩
      · rw [if_neg (show ¬ (3 ≤ v2) from c7)] at hq
        replace hp := hp.2 c7
        refine g_blk hz0 kX9_reads_65 ?_
        refine ⟨fun c9 => ?_, fun c9 => ?_⟩
        · rw [if_pos (show (m.1 26) = 2 from c9)] at hq
          replace hp := hp.1 c9
          refine g_blk hz0 kX9_reads_75 ?_
          refine ⟨hp.1, ?_⟩
          replace hp := hp.2
          refine g_w (w2 := (wM (setA m 28 (upd (m.2 28) (Int32.toNatClampNeg (((5 * (m.1 29)) + 1) + v2)) (m.1 27))))) rfl ?_
          refine cV [0, 1, 2, 3, 4, 5, 6, 7, 8, 9, 10, 11, 12, 13, 14, 15, 16] (wM (setA m 28 (upd (m.2 28) (Int32.toNatClampNeg (((5 * (m.1 29)) + 1) + v2)) (m.1 27)))) (s_X9_scans (setA m 28 (upd (m.2 28) (Int32.toNatClampNeg (((5 * (m.1 29)) + 1) + v2)) (m.1 27))) hp.1) rfl cwX9_scans dX9_reads_95 rfl rfl (hm0_M_M _) rfl (wM (f_X9_scans (setA m 28 (upd (m.2 28) (Int32.toNatClampNeg (((5 * (m.1 29)) + 1) + v2)) (m.1 27))))) (pw0_M_M _ _) ?_
          replace hp := hp.2
          refine g_blk hz0 kX9_reads_98 ?_
          refine g_le (L2 := [some (.ref 0), some (.int v1), some (.int (v2 + 1))]) ⟨rfl, rfl, rfl, trivial⟩ ?_
          exact ih (f_X9_scans (setA m 28 (upd (m.2 28) (Int32.toNatClampNeg (((5 * (m.1 29)) + 1) + v2)) (m.1 27)))) v1 (v2 + 1) hp hq
        · rw [if_neg (show ¬ ((m.1 26) = 2) from c9)] at hq
          refine g_blk hz0 kX9_reads_73 ?_
          subst hq
          exact ⟨fun _ => Or.inl rfl, rfl, rfl⟩
    · rw [if_pos (show v1 = 4 from c3)] at hq
      replace hp := hp.1 c3
      refine g_blk hz0 kX9_reads_57 ?_
      refine g_blk hz0 kX9_reads_62 ?_
      refine ⟨fun c4 => ?_, fun c4 => ?_⟩
      · rw [if_pos (show 4 ≤ v2 from c4)] at hq
        replace hp := hp.1 c4
        refine g_blk hz0 kX9_reads_104 ?_
        refine ⟨fun c5 => ?_, fun c5 => ?_⟩
        · rw [if_pos (show (m.1 26) = 3 from c5)] at hq
          replace hp := hp.1 c5
          refine g_blk hz0 kX9_reads_114 ?_
          refine ⟨fun h => (by cases h), Or.inl rfl, ?_⟩
          refine g_w (w2 := (wM (setG m 29 ((m.1 29) + 1)))) rfl ?_
          refine cV [0, 1, 2, 3, 4, 5, 6, 7, 8, 9, 10, 11, 12, 13, 14, 15, 16] (wM (setG m 29 ((m.1 29) + 1))) (s_X9_scans (setG m 29 ((m.1 29) + 1)) hp.1) rfl cwX9_scans dX9_reads_125 rfl rfl (hm0_M_M _) rfl (wM (f_X9_scans (setG m 29 ((m.1 29) + 1)))) (pw0_M_M _ _) ?_
          replace hp := hp.2
          refine g_blk hz0 kX9_reads_128 ?_
          refine g_le (L2 := [some (.ref 0), none, none]) ⟨rfl, trivial⟩ ?_
          exact hK14 (f_X9_scans (setG m 29 ((m.1 29) + 1))) hp hq
        · rw [if_neg (show ¬ ((m.1 26) = 3) from c5)] at hq
          refine g_blk hz0 kX9_reads_112 ?_
          subst hq
          exact ⟨fun _ => Or.inl rfl, rfl, rfl⟩
      · rw [if_neg (show ¬ (4 ≤ v2) from c4)] at hq
        replace hp := hp.2 c4
        refine g_blk hz0 kX9_reads_65 ?_
        refine ⟨fun c6 => ?_, fun c6 => ?_⟩
        · rw [if_pos (show (m.1 26) = 2 from c6)] at hq
          replace hp := hp.1 c6
          refine g_blk hz0 kX9_reads_75 ?_
          refine ⟨hp.1, ?_⟩
          replace hp := hp.2
          refine g_w (w2 := (wM (setA m 28 (upd (m.2 28) (Int32.toNatClampNeg (((5 * (m.1 29)) + 1) + v2)) (m.1 27))))) rfl ?_
          refine cV [0, 1, 2, 3, 4, 5, 6, 7, 8, 9, 10, 11, 12, 13, 14, 15, 16] (wM (setA m 28 (upd (m.2 28) (Int32.toNatClampNeg (((5 * (m.1 29)) + 1) + v2)) (m.1 27)))) (s_X9_scans (setA m 28 (upd (m.2 28) (Int32.toNatClampNeg (((5 * (m.1 29)) + 1) + v2)) (m.1 27))) hp.1) rfl cwX9_scans dX9_reads_95 rfl rfl (hm0_M_M _) rfl (wM (f_X9_scans (setA m 28 (upd (m.2 28) (Int32.toNatClampNeg (((5 * (m.1 29)) + 1) + v2)) (m.1 27))))) (pw0_M_M _ _) ?_
          replace hp := hp.2
          refine g_blk hz0 kX9_reads_98 ?_
          refine g_le (L2 := [some (.ref 0), some (.int v1), some (.int (v2 + 1))]) ⟨rfl, rfl, rfl, trivial⟩ ?_
          exact ih (f_X9_scans (setA m 28 (upd (m.2 28) (Int32.toNatClampNeg (((5 * (m.1 29)) + 1) + v2)) (m.1 27)))) v1 (v2 + 1) hp hq
        · rw [if_neg (show ¬ ((m.1 26) = 2) from c6)] at hq
          refine g_blk hz0 kX9_reads_73 ?_
          subst hq
          exact ⟨fun _ => Or.inl rfl, rfl, rfl⟩
def f_X9_reads_14  : Nat → Rec → Int32 × Rec
  | 0, m => (0, m)
  | n + 1, m => if (m.1 26) = 0 then (1, m) else (if 4 ≤ (m.1 26) then (f_X9_reads_51 (f_X9_reads_14 n) 300 (f_X9_scans (setA m 28 (upd (m.2 28) (Int32.toNatClampNeg (5 * (m.1 29))) (m.1 26)))) (m.1 26) 0) else (0, m))
def p_X9_reads_14  : Nat → Rec → Prop
  | 0, _ => False
  | n + 1, m => ((m.1 26) = 0 → True) ∧ (¬ ((m.1 26) = 0) → ((4 ≤ (m.1 26) → (vp_in (5 * (m.1 29)) 300 ∧ ((p_X9_scans (setA m 28 (upd (m.2 28) (Int32.toNatClampNeg (5 * (m.1 29))) (m.1 26)))) ∧ (p_X9_reads_51 (p_X9_reads_14 n) 300 (f_X9_scans (setA m 28 (upd (m.2 28) (Int32.toNatClampNeg (5 * (m.1 29))) (m.1 26)))) (m.1 26) 0)))) ∧ (¬ (4 ≤ (m.1 26)) → True)))
set_option maxHeartbeats 16000000 in
set_option maxRecDepth 20000 in
theorem l_X9_reads_14 (sc : SC)   (zq : Int32 × Rec)  : ∀ (n : Nat) (m : Rec) , p_X9_reads_14 n m → zq = f_X9_reads_14 n m → Good sc 3 0 0 17 mX9_reads (Ret (some (.int (zq.1))) (wM (zq.2))) 0 0 14 [some (.ref 0), none, none] [] (wM m) := by
  intro n
  induction n with
  | zero => intro m hp; exact hp.elim
  | succ n ih =>
    intro m hp hq
    unfold p_X9_reads_14 at hp
    unfold f_X9_reads_14 at hq
    refine g_blk hz0 kX9_reads_14 ?_
    refine ⟨fun c1 => ?_, fun c1 => ?_⟩
    · rw [if_pos (show (m.1 26) = 0 from c1)] at hq
      refine g_blk hz0 kX9_reads_131 ?_
      subst hq
      exact ⟨fun _ => Or.inr rfl, rfl, rfl⟩
    · rw [if_neg (show ¬ ((m.1 26) = 0) from c1)] at hq
      replace hp := hp.2 c1
      refine g_blk hz0 kX9_reads_21 ?_
      refine ⟨fun c2 => ?_, fun c2 => ?_⟩
      · rw [if_pos (show 4 ≤ (m.1 26) from c2)] at hq
        replace hp := hp.1 c2
        refine g_blk hz0 kX9_reads_33 ?_
        refine ⟨hp.1, ?_⟩
        replace hp := hp.2
        refine g_w (w2 := (wM (setA m 28 (upd (m.2 28) (Int32.toNatClampNeg (5 * (m.1 29))) (m.1 26))))) rfl ?_
        refine cV [0, 1, 2, 3, 4, 5, 6, 7, 8, 9, 10, 11, 12, 13, 14, 15, 16] (wM (setA m 28 (upd (m.2 28) (Int32.toNatClampNeg (5 * (m.1 29))) (m.1 26)))) (s_X9_scans (setA m 28 (upd (m.2 28) (Int32.toNatClampNeg (5 * (m.1 29))) (m.1 26))) hp.1) rfl cwX9_scans dX9_reads_46 rfl rfl (hm0_M_M _) rfl (wM (f_X9_scans (setA m 28 (upd (m.2 28) (Int32.toNatClampNeg (5 * (m.1 29))) (m.1 26))))) (pw0_M_M _ _) ?_
        replace hp := hp.2
        refine g_blk hz0 kX9_reads_49 ?_
        refine g_le (L2 := [some (.ref 0), some (.int (m.1 26)), some (.int 0)]) ⟨rfl, rfl, rfl, trivial⟩ ?_
        exact l_X9_reads_51 sc zq (fun r0 hp hq => ih r0 hp hq) 300 (f_X9_scans (setA m 28 (upd (m.2 28) (Int32.toNatClampNeg (5 * (m.1 29))) (m.1 26)))) (m.1 26) 0 hp hq
      · rw [if_neg (show ¬ (4 ≤ (m.1 26)) from c2)] at hq
        refine g_blk hz0 kX9_reads_31 ?_
        subst hq
        exact ⟨fun _ => Or.inl rfl, rfl, rfl⟩
def f_X9_reads (m : Rec)  : Int32 × Rec := (f_X9_reads_14 300 (f_X9_scans (setG (setG m 24 0) 29 0)))
def p_X9_reads (m : Rec)  : Prop := (p_X9_scans (setG (setG m 24 0) 29 0)) ∧ (p_X9_reads_14 300 (f_X9_scans (setG (setG m 24 0) 29 0)))
set_option maxHeartbeats 16000000 in
set_option maxRecDepth 20000 in
theorem s_X9_reads (m : Rec)  (hp : p_X9_reads m) : Spec 3 0 0 mX9_reads [.ref 0] (wM m) (Ret (some (.int ((f_X9_reads m).1))) (wM ((f_X9_reads m).2))) := by
  obtain ⟨zq, hq⟩ : ∃ z, z = (f_X9_reads m) := ⟨_, rfl⟩
  rw [← hq]
  unfold f_X9_reads at hq
  unfold p_X9_reads at hp
  refine Sof fun sc => ?_
  refine g_blk hz0 kX9_reads_0 ?_
  refine ⟨fun h => (by cases h), Or.inl rfl, ?_⟩
  refine ⟨fun h => (by cases h), Or.inl rfl, ?_⟩
  refine g_w (w2 := (wM (setG (setG m 24 0) 29 0))) rfl ?_
  refine cV [0, 1, 2, 3, 4, 5, 6, 7, 8, 9, 10, 11, 12, 13, 14, 15, 16] (wM (setG (setG m 24 0) 29 0)) (s_X9_scans (setG (setG m 24 0) 29 0) hp.1) rfl cwX9_scans dX9_reads_11 rfl rfl (hm0_M_M _) rfl (wM (f_X9_scans (setG (setG m 24 0) 29 0))) (pw0_M_M _ _) ?_
  replace hp := hp.2
  refine g_le (L2 := [some (.ref 0), none, none]) ⟨rfl, trivial⟩ ?_
  exact l_X9_reads_14 sc zq 300 (f_X9_scans (setG (setG m 24 0) 29 0)) hp hq

def f_X9_fault (m : Rec)  : Int32 × Rec := if ((f_X9_reads m).1) = 0 then ((((f_X9_reads m).2).1 25), ((f_X9_reads m).2)) else ((-1), ((f_X9_reads m).2))
def p_X9_fault (m : Rec)  : Prop := (p_X9_reads m) ∧ True
set_option maxHeartbeats 16000000 in
set_option maxRecDepth 20000 in
theorem s_X9_fault (m : Rec)  (hp : p_X9_fault m) : Spec 4 0 0 mX9_fault [.ref 0] (wM m) (Ret (some (.int ((f_X9_fault m).1))) (wM ((f_X9_fault m).2))) := by
  obtain ⟨zq, hq⟩ : ∃ z, z = (f_X9_fault m) := ⟨_, rfl⟩
  rw [← hq]
  unfold f_X9_fault at hq
  unfold p_X9_fault at hp
  refine Sof fun sc => ?_
  refine g_blk hz0 kX9_fault_0 ?_
  refine cV [0, 1, 2, 3, 4, 5, 6, 7, 8, 9, 10, 11, 12, 13, 14, 15, 16] (wM m) (s_X9_reads m hp.1) rfl cwX9_reads dX9_fault_1 rfl rfl (hm0_M_M _) rfl (wM ((f_X9_reads m).2)) (pw0_M_M _ _) ?_
  replace hp := hp.2
  refine g_blk hz0 kX9_fault_4 ?_
  refine ⟨fun c1 => ?_, fun c1 => ?_⟩
  · rw [if_pos (show ((f_X9_reads m).1) = 0 from c1)] at hq
    refine g_blk hz0 kX9_fault_11 ?_
    refine g_blk hz0 kX9_fault_15 ?_
    subst hq
    exact ⟨fun h => (by cases h), rfl, rfl⟩
  · rw [if_neg (show ¬ (((f_X9_reads m).1) = 0) from c1)] at hq
    refine g_blk hz0 kX9_fault_7 ?_
    refine g_blk hz0 kX9_fault_15 ?_
    subst hq
    exact ⟨fun h => (by cases h), rfl, rfl⟩

def f_X9_goes (m : Rec) (i : Int32) : Int32 × Rec := if ((m.2 28) (Int32.toNatClampNeg (5 * i))) = 4 then (if (f_X9_in (Int32.toInt64 ((m.2 28) (Int32.toNatClampNeg ((5 * i) + 3)))) 0 3) = 0 then (0, m) else (if (f_X9_in (Int32.toInt64 ((m.2 28) (Int32.toNatClampNeg ((5 * i) + 4)))) 1 2) = 0 then (0, m) else (if ((f_X9_steps m ((m.2 28) (Int32.toNatClampNeg ((5 * i) + 1))) ((m.2 28) (Int32.toNatClampNeg ((5 * i) + 2))) ((m.2 28) (Int32.toNatClampNeg ((5 * i) + 3))) ((m.2 28) (Int32.toNatClampNeg ((5 * i) + 4)))).1) = 0 then (0, ((f_X9_steps m ((m.2 28) (Int32.toNatClampNeg ((5 * i) + 1))) ((m.2 28) (Int32.toNatClampNeg ((5 * i) + 2))) ((m.2 28) (Int32.toNatClampNeg ((5 * i) + 3))) ((m.2 28) (Int32.toNatClampNeg ((5 * i) + 4)))).2)) else (1, ((f_X9_steps m ((m.2 28) (Int32.toNatClampNeg ((5 * i) + 1))) ((m.2 28) (Int32.toNatClampNeg ((5 * i) + 2))) ((m.2 28) (Int32.toNatClampNeg ((5 * i) + 3))) ((m.2 28) (Int32.toNatClampNeg ((5 * i) + 4)))).2))))) else (if (f_X9_in (Int32.toInt64 ((m.2 28) (Int32.toNatClampNeg ((5 * i) + 1)))) 0 1) = 0 then (0, m) else (if (f_X9_in (Int32.toInt64 ((m.2 28) (Int32.toNatClampNeg ((5 * i) + 3)))) 0 1) = 0 then (0, m) else (if ((f_X9_makes m ((m.2 28) (Int32.toNatClampNeg ((5 * i) + 1))) ((m.2 28) (Int32.toNatClampNeg ((5 * i) + 2))) ((m.2 28) (Int32.toNatClampNeg ((5 * i) + 3)))).1) = 0 then (0, ((f_X9_makes m ((m.2 28) (Int32.toNatClampNeg ((5 * i) + 1))) ((m.2 28) (Int32.toNatClampNeg ((5 * i) + 2))) ((m.2 28) (Int32.toNatClampNeg ((5 * i) + 3)))).2)) else (1, ((f_X9_makes m ((m.2 28) (Int32.toNatClampNeg ((5 * i) + 1))) ((m.2 28) (Int32.toNatClampNeg ((5 * i) + 2))) ((m.2 28) (Int32.toNatClampNeg ((5 * i) + 3)))).2)))))
def p_X9_goes (m : Rec) (i : Int32) : Prop := vp_in ((5 * i) + 1) 300 ∧ (vp_in ((5 * i) + 2) 300 ∧ (vp_in ((5 * i) + 3) 300 ∧ (vp_in ((5 * i) + 4) 300 ∧ (vp_in (5 * i) 300 ∧ ((((m.2 28) (Int32.toNatClampNeg (5 * i))) = 4 → (((f_X9_in (Int32.toInt64 ((m.2 28) (Int32.toNatClampNeg ((5 * i) + 3)))) 0 3) = 0 → True) ∧ (¬ ((f_X9_in (Int32.toInt64 ((m.2 28) (Int32.toNatClampNeg ((5 * i) + 3)))) 0 3) = 0) → (((f_X9_in (Int32.toInt64 ((m.2 28) (Int32.toNatClampNeg ((5 * i) + 4)))) 1 2) = 0 → True) ∧ (¬ ((f_X9_in (Int32.toInt64 ((m.2 28) (Int32.toNatClampNeg ((5 * i) + 4)))) 1 2) = 0) → ((p_X9_steps m ((m.2 28) (Int32.toNatClampNeg ((5 * i) + 1))) ((m.2 28) (Int32.toNatClampNeg ((5 * i) + 2))) ((m.2 28) (Int32.toNatClampNeg ((5 * i) + 3))) ((m.2 28) (Int32.toNatClampNeg ((5 * i) + 4)))) ∧ True)))))) ∧ (¬ (((m.2 28) (Int32.toNatClampNeg (5 * i))) = 4) → (((f_X9_in (Int32.toInt64 ((m.2 28) (Int32.toNatClampNeg ((5 * i) + 1)))) 0 1) = 0 → True) ∧ (¬ ((f_X9_in (Int32.toInt64 ((m.2 28) (Int32.toNatClampNeg ((5 * i) + 1)))) 0 1) = 0) → (((f_X9_in (Int32.toInt64 ((m.2 28) (Int32.toNatClampNeg ((5 * i) + 3)))) 0 1) = 0 → True) ∧ (¬ ((f_X9_in (Int32.toInt64 ((m.2 28) (Int32.toNatClampNeg ((5 * i) + 3)))) 0 1) = 0) → ((p_X9_makes m ((m.2 28) (Int32.toNatClampNeg ((5 * i) + 1))) ((m.2 28) (Int32.toNatClampNeg ((5 * i) + 2))) ((m.2 28) (Int32.toNatClampNeg ((5 * i) + 3)))) ∧ True)))))))))))
set_option maxHeartbeats 16000000 in
set_option maxRecDepth 20000 in
theorem s_X9_goes (m : Rec) (i : Int32) (hp : p_X9_goes m i) : Spec 5 0 0 mX9_goes [.ref 0, .int i] (wM m) (Ret (some (.int ((f_X9_goes m i).1))) (wM ((f_X9_goes m i).2))) := by
  obtain ⟨zq, hq⟩ : ∃ z, z = (f_X9_goes m i) := ⟨_, rfl⟩
  rw [← hq]
  unfold f_X9_goes at hq
  unfold p_X9_goes at hp
  refine Sof fun sc => ?_
  refine g_blk hz0 kX9_goes_0 ?_
  refine ⟨hp.1, ?_⟩
  replace hp := hp.2
  refine ⟨hp.1, ?_⟩
  replace hp := hp.2
  refine ⟨hp.1, ?_⟩
  replace hp := hp.2
  refine ⟨hp.1, ?_⟩
  replace hp := hp.2
  refine ⟨hp.1, ?_⟩
  replace hp := hp.2
  refine ⟨fun c1 => ?_, fun c1 => ?_⟩
  · rw [if_neg (show ¬ (((m.2 28) (Int32.toNatClampNeg (5 * i))) = 4) from c1)] at hq
    replace hp := hp.2 c1
    refine g_blk hz0 kX9_goes_103 ?_
    refine cS0 (s_X9_in (Int32.toInt64 ((m.2 28) (Int32.toNatClampNeg ((5 * i) + 1)))) 0 1) rfl cwX9_in dX9_goes_107 rfl ?_
    refine g_blk hz0 kX9_goes_110 ?_
    refine ⟨fun c5 => ?_, fun c5 => ?_⟩
    · rw [if_pos (show (f_X9_in (Int32.toInt64 ((m.2 28) (Int32.toNatClampNeg ((5 * i) + 1)))) 0 1) = 0 from c5)] at hq
      refine g_blk hz0 kX9_goes_139 ?_
      refine g_blk hz0 kX9_goes_140 ?_
      subst hq
      exact ⟨fun _ => Or.inl rfl, rfl, rfl⟩
    · rw [if_neg (show ¬ ((f_X9_in (Int32.toInt64 ((m.2 28) (Int32.toNatClampNeg ((5 * i) + 1)))) 0 1) = 0) from c5)] at hq
      replace hp := hp.2 c5
      refine g_blk hz0 kX9_goes_113 ?_
      refine cS0 (s_X9_in (Int32.toInt64 ((m.2 28) (Int32.toNatClampNeg ((5 * i) + 3)))) 0 1) rfl cwX9_in dX9_goes_118 rfl ?_
      refine g_blk hz0 kX9_goes_121 ?_
      refine ⟨fun c6 => ?_, fun c6 => ?_⟩
      · rw [if_pos (show (f_X9_in (Int32.toInt64 ((m.2 28) (Int32.toNatClampNeg ((5 * i) + 3)))) 0 1) = 0 from c6)] at hq
        refine g_blk hz0 kX9_goes_139 ?_
        refine g_blk hz0 kX9_goes_140 ?_
        subst hq
        exact ⟨fun _ => Or.inl rfl, rfl, rfl⟩
      · rw [if_neg (show ¬ ((f_X9_in (Int32.toInt64 ((m.2 28) (Int32.toNatClampNeg ((5 * i) + 3)))) 0 1) = 0) from c6)] at hq
        replace hp := hp.2 c6
        refine g_blk hz0 kX9_goes_124 ?_
        refine cV [0, 1, 2, 3, 4, 5, 6, 7, 8, 9, 10, 11, 12, 13, 14, 15, 16] (wM m) (s_X9_makes m ((m.2 28) (Int32.toNatClampNeg ((5 * i) + 1))) ((m.2 28) (Int32.toNatClampNeg ((5 * i) + 2))) ((m.2 28) (Int32.toNatClampNeg ((5 * i) + 3))) hp.1) rfl cwX9_makes dX9_goes_129 rfl rfl (hm0_M_M _) rfl (wM ((f_X9_makes m ((m.2 28) (Int32.toNatClampNeg ((5 * i) + 1))) ((m.2 28) (Int32.toNatClampNeg ((5 * i) + 2))) ((m.2 28) (Int32.toNatClampNeg ((5 * i) + 3)))).2)) (pw0_M_M _ _) ?_
        replace hp := hp.2
        refine g_blk hz0 kX9_goes_132 ?_
        refine ⟨fun c7 => ?_, fun c7 => ?_⟩
        · rw [if_pos (show ((f_X9_makes m ((m.2 28) (Int32.toNatClampNeg ((5 * i) + 1))) ((m.2 28) (Int32.toNatClampNeg ((5 * i) + 2))) ((m.2 28) (Int32.toNatClampNeg ((5 * i) + 3)))).1) = 0 from c7)] at hq
          refine g_blk hz0 kX9_goes_139 ?_
          refine g_blk hz0 kX9_goes_140 ?_
          subst hq
          exact ⟨fun _ => Or.inl rfl, rfl, rfl⟩
        · rw [if_neg (show ¬ (((f_X9_makes m ((m.2 28) (Int32.toNatClampNeg ((5 * i) + 1))) ((m.2 28) (Int32.toNatClampNeg ((5 * i) + 2))) ((m.2 28) (Int32.toNatClampNeg ((5 * i) + 3)))).1) = 0) from c7)] at hq
          refine g_blk hz0 kX9_goes_135 ?_
          refine g_blk hz0 kX9_goes_140 ?_
          subst hq
          exact ⟨fun _ => Or.inr rfl, rfl, rfl⟩
  · rw [if_pos (show ((m.2 28) (Int32.toNatClampNeg (5 * i))) = 4 from c1)] at hq
    replace hp := hp.1 c1
    refine g_blk hz0 kX9_goes_58 ?_
    refine cS0 (s_X9_in (Int32.toInt64 ((m.2 28) (Int32.toNatClampNeg ((5 * i) + 3)))) 0 3) rfl cwX9_in dX9_goes_65 rfl ?_
    refine g_blk hz0 kX9_goes_68 ?_
    refine ⟨fun c2 => ?_, fun c2 => ?_⟩
    · rw [if_pos (show (f_X9_in (Int32.toInt64 ((m.2 28) (Int32.toNatClampNeg ((5 * i) + 3)))) 0 3) = 0 from c2)] at hq
      refine g_blk hz0 kX9_goes_101 ?_
      refine g_blk hz0 kX9_goes_102 ?_
      subst hq
      exact ⟨fun _ => Or.inl rfl, rfl, rfl⟩
    · rw [if_neg (show ¬ ((f_X9_in (Int32.toInt64 ((m.2 28) (Int32.toNatClampNeg ((5 * i) + 3)))) 0 3) = 0) from c2)] at hq
      replace hp := hp.2 c2
      refine g_blk hz0 kX9_goes_71 ?_
      refine cS0 (s_X9_in (Int32.toInt64 ((m.2 28) (Int32.toNatClampNeg ((5 * i) + 4)))) 1 2) rfl cwX9_in dX9_goes_78 rfl ?_
      refine g_blk hz0 kX9_goes_81 ?_
      refine ⟨fun c3 => ?_, fun c3 => ?_⟩
      · rw [if_pos (show (f_X9_in (Int32.toInt64 ((m.2 28) (Int32.toNatClampNeg ((5 * i) + 4)))) 1 2) = 0 from c3)] at hq
        refine g_blk hz0 kX9_goes_101 ?_
        refine g_blk hz0 kX9_goes_102 ?_
        subst hq
        exact ⟨fun _ => Or.inl rfl, rfl, rfl⟩
      · rw [if_neg (show ¬ ((f_X9_in (Int32.toInt64 ((m.2 28) (Int32.toNatClampNeg ((5 * i) + 4)))) 1 2) = 0) from c3)] at hq
        replace hp := hp.2 c3
        refine g_blk hz0 kX9_goes_84 ?_
        refine cV [0, 1, 2, 3, 4, 5, 6, 7, 8, 9, 10, 11, 12, 13, 14, 15, 16] (wM m) (s_X9_steps m ((m.2 28) (Int32.toNatClampNeg ((5 * i) + 1))) ((m.2 28) (Int32.toNatClampNeg ((5 * i) + 2))) ((m.2 28) (Int32.toNatClampNeg ((5 * i) + 3))) ((m.2 28) (Int32.toNatClampNeg ((5 * i) + 4))) hp.1) rfl cwX9_steps dX9_goes_91 rfl rfl (hm0_M_M _) rfl (wM ((f_X9_steps m ((m.2 28) (Int32.toNatClampNeg ((5 * i) + 1))) ((m.2 28) (Int32.toNatClampNeg ((5 * i) + 2))) ((m.2 28) (Int32.toNatClampNeg ((5 * i) + 3))) ((m.2 28) (Int32.toNatClampNeg ((5 * i) + 4)))).2)) (pw0_M_M _ _) ?_
        replace hp := hp.2
        refine g_blk hz0 kX9_goes_94 ?_
        refine ⟨fun c4 => ?_, fun c4 => ?_⟩
        · rw [if_pos (show ((f_X9_steps m ((m.2 28) (Int32.toNatClampNeg ((5 * i) + 1))) ((m.2 28) (Int32.toNatClampNeg ((5 * i) + 2))) ((m.2 28) (Int32.toNatClampNeg ((5 * i) + 3))) ((m.2 28) (Int32.toNatClampNeg ((5 * i) + 4)))).1) = 0 from c4)] at hq
          refine g_blk hz0 kX9_goes_101 ?_
          refine g_blk hz0 kX9_goes_102 ?_
          subst hq
          exact ⟨fun _ => Or.inl rfl, rfl, rfl⟩
        · rw [if_neg (show ¬ (((f_X9_steps m ((m.2 28) (Int32.toNatClampNeg ((5 * i) + 1))) ((m.2 28) (Int32.toNatClampNeg ((5 * i) + 2))) ((m.2 28) (Int32.toNatClampNeg ((5 * i) + 3))) ((m.2 28) (Int32.toNatClampNeg ((5 * i) + 4)))).1) = 0) from c4)] at hq
          refine g_blk hz0 kX9_goes_97 ?_
          refine g_blk hz0 kX9_goes_102 ?_
          subst hq
          exact ⟨fun _ => Or.inr rfl, rfl, rfl⟩

def f_X9_judge_27  : Nat → Rec → Int32 → Int32 × Rec
  | 0, m, v1 => (0, m)
  | n + 1, m, v1 => if (m.1 29) ≤ v1 then (if ((f_X9_takes_v14 m 0).1 29) ≤ v1 then ((-1), (f_X9_takes_v14 m 0)) else (v1, (f_X9_takes_v14 m 0))) else (if ((f_X9_goes m v1).1) = 0 then (if ((f_X9_takes_v14 ((f_X9_goes m v1).2) 0).1 29) ≤ v1 then ((-1), (f_X9_takes_v14 ((f_X9_goes m v1).2) 0)) else (v1, (f_X9_takes_v14 ((f_X9_goes m v1).2) 0))) else (f_X9_judge_27 n ((f_X9_goes m v1).2) (v1 + 1)))
def p_X9_judge_27  : Nat → Rec → Int32 → Prop
  | 0, _, _ => False
  | n + 1, m, v1 => ((m.1 29) ≤ v1 → ((p_X9_takes_v14 m 0) ∧ True)) ∧ (¬ ((m.1 29) ≤ v1) → ((p_X9_goes m v1) ∧ ((((f_X9_goes m v1).1) = 0 → ((p_X9_takes_v14 ((f_X9_goes m v1).2) 0) ∧ True)) ∧ (¬ (((f_X9_goes m v1).1) = 0) → (p_X9_judge_27 n ((f_X9_goes m v1).2) (v1 + 1))))))
set_option maxHeartbeats 16000000 in
set_option maxRecDepth 20000 in
theorem l_X9_judge_27 (sc : SC)   (zq : Int32 × Rec)  : ∀ (n : Nat) (m : Rec) (v1 : Int32), p_X9_judge_27 n m v1 → zq = f_X9_judge_27 n m v1 → Good sc 6 0 0 17 mX9_judge (Ret (some (.int (zq.1))) (wM (zq.2))) 0 0 27 [some (.ref 0), some (.int v1)] [] (wM m) := by
  intro n
  induction n with
  | zero => intro m v1 hp; exact hp.elim
  | succ n ih =>
    intro m v1 hp hq
    unfold p_X9_judge_27 at hp
    unfold f_X9_judge_27 at hq
    refine g_blk hz0 kX9_judge_27 ?_
    refine ⟨fun c2 => ?_, fun c2 => ?_⟩
    · rw [if_pos (show (m.1 29) ≤ v1 from c2)] at hq
      replace hp := hp.1 c2
      refine g_blk hz0 kX9_judge_49 ?_
      refine cV [0, 1, 2, 3, 4, 5, 6, 7, 8, 9, 10, 11, 12, 13, 14, 15, 16] (wM m) (s_X9_takes_v14 m 0 hp.1) rfl cwX9_takes dX9_judge_55 rfl rfl (hm0_M_M _) rfl (wM (f_X9_takes_v14 m 0)) (pw0_M_M _ _) ?_
      replace hp := hp.2
      refine g_blk hz0 kX9_judge_58 ?_
      refine ⟨fun c3 => ?_, fun c3 => ?_⟩
      · rw [if_pos (show ((f_X9_takes_v14 m 0).1 29) ≤ v1 from c3)] at hq
        refine g_blk hz0 kX9_judge_70 ?_
        refine g_blk hz0 kX9_judge_71 ?_
        subst hq
        exact ⟨fun h => (by cases h), rfl, rfl⟩
      · rw [if_neg (show ¬ (((f_X9_takes_v14 m 0).1 29) ≤ v1) from c3)] at hq
        refine g_blk hz0 kX9_judge_66 ?_
        refine g_blk hz0 kX9_judge_71 ?_
        subst hq
        exact ⟨fun h => (by cases h), rfl, rfl⟩
    · rw [if_neg (show ¬ ((m.1 29) ≤ v1) from c2)] at hq
      replace hp := hp.2 c2
      refine g_blk hz0 kX9_judge_35 ?_
      refine cV [0, 1, 2, 3, 4, 5, 6, 7, 8, 9, 10, 11, 12, 13, 14, 15, 16] (wM m) (s_X9_goes m v1 hp.1) rfl cwX9_goes dX9_judge_37 rfl rfl (hm0_M_M _) rfl (wM ((f_X9_goes m v1).2)) (pw0_M_M _ _) ?_
      replace hp := hp.2
      refine g_blk hz0 kX9_judge_40 ?_
      refine ⟨fun c4 => ?_, fun c4 => ?_⟩
      · rw [if_pos (show ((f_X9_goes m v1).1) = 0 from c4)] at hq
        replace hp := hp.1 c4
        refine g_blk hz0 kX9_judge_49 ?_
        refine cV [0, 1, 2, 3, 4, 5, 6, 7, 8, 9, 10, 11, 12, 13, 14, 15, 16] (wM ((f_X9_goes m v1).2)) (s_X9_takes_v14 ((f_X9_goes m v1).2) 0 hp.1) rfl cwX9_takes dX9_judge_55 rfl rfl (hm0_M_M _) rfl (wM (f_X9_takes_v14 ((f_X9_goes m v1).2) 0)) (pw0_M_M _ _) ?_
        replace hp := hp.2
        refine g_blk hz0 kX9_judge_58 ?_
        refine ⟨fun c5 => ?_, fun c5 => ?_⟩
        · rw [if_pos (show ((f_X9_takes_v14 ((f_X9_goes m v1).2) 0).1 29) ≤ v1 from c5)] at hq
          refine g_blk hz0 kX9_judge_70 ?_
          refine g_blk hz0 kX9_judge_71 ?_
          subst hq
          exact ⟨fun h => (by cases h), rfl, rfl⟩
        · rw [if_neg (show ¬ (((f_X9_takes_v14 ((f_X9_goes m v1).2) 0).1 29) ≤ v1) from c5)] at hq
          refine g_blk hz0 kX9_judge_66 ?_
          refine g_blk hz0 kX9_judge_71 ?_
          subst hq
          exact ⟨fun h => (by cases h), rfl, rfl⟩
      · rw [if_neg (show ¬ (((f_X9_goes m v1).1) = 0) from c4)] at hq
        replace hp := hp.2 c4
        refine g_blk hz0 kX9_judge_43 ?_
        refine g_le (L2 := [some (.ref 0), some (.int (v1 + 1))]) ⟨rfl, rfl, trivial⟩ ?_
        exact ih ((f_X9_goes m v1).2) (v1 + 1) hp hq
def f_X9_judge (m : Rec)  : Int32 × Rec := if ((f_X9_reads m).1) = 0 then (((f_X9_no ((f_X9_reads m).2)).1), ((f_X9_no ((f_X9_reads m).2)).2)) else (f_X9_judge_27 300 (f_X9_keeps_v14 (f_X9_lays ((f_X9_reads m).2)) 0) 0)
def p_X9_judge (m : Rec)  : Prop := (p_X9_reads m) ∧ ((((f_X9_reads m).1) = 0 → ((p_X9_no ((f_X9_reads m).2)) ∧ True)) ∧ (¬ (((f_X9_reads m).1) = 0) → ((p_X9_lays ((f_X9_reads m).2)) ∧ ((p_X9_keeps_v14 (f_X9_lays ((f_X9_reads m).2)) 0) ∧ (p_X9_judge_27 300 (f_X9_keeps_v14 (f_X9_lays ((f_X9_reads m).2)) 0) 0)))))
set_option maxHeartbeats 16000000 in
set_option maxRecDepth 20000 in
theorem s_X9_judge (m : Rec)  (hp : p_X9_judge m) : Spec 6 0 0 mX9_judge [.ref 0] (wM m) (Ret (some (.int ((f_X9_judge m).1))) (wM ((f_X9_judge m).2))) := by
  obtain ⟨zq, hq⟩ : ∃ z, z = (f_X9_judge m) := ⟨_, rfl⟩
  rw [← hq]
  unfold f_X9_judge at hq
  unfold p_X9_judge at hp
  refine Sof fun sc => ?_
  refine g_blk hz0 kX9_judge_0 ?_
  refine cV [0, 1, 2, 3, 4, 5, 6, 7, 8, 9, 10, 11, 12, 13, 14, 15, 16] (wM m) (s_X9_reads m hp.1) rfl cwX9_reads dX9_judge_1 rfl rfl (hm0_M_M _) rfl (wM ((f_X9_reads m).2)) (pw0_M_M _ _) ?_
  replace hp := hp.2
  refine g_blk hz0 kX9_judge_4 ?_
  refine ⟨fun c1 => ?_, fun c1 => ?_⟩
  · rw [if_neg (show ¬ (((f_X9_reads m).1) = 0) from c1)] at hq
    replace hp := hp.2 c1
    refine g_blk hz0 kX9_judge_12 ?_
    refine cV [0, 1, 2, 3, 4, 5, 6, 7, 8, 9, 10, 11, 12, 13, 14, 15, 16] (wM ((f_X9_reads m).2)) (s_X9_lays ((f_X9_reads m).2) hp.1) rfl cwX9_lays dX9_judge_13 rfl rfl (hm0_M_M _) rfl (wM (f_X9_lays ((f_X9_reads m).2))) (pw0_M_M _ _) ?_
    replace hp := hp.2
    refine g_blk hz0 kX9_judge_16 ?_
    refine cV [0, 1, 2, 3, 4, 5, 6, 7, 8, 9, 10, 11, 12, 13, 14, 15, 16] (wM (f_X9_lays ((f_X9_reads m).2))) (s_X9_keeps_v14 (f_X9_lays ((f_X9_reads m).2)) 0 hp.1) rfl cwX9_keeps dX9_judge_22 rfl rfl (hm0_M_M _) rfl (wM (f_X9_keeps_v14 (f_X9_lays ((f_X9_reads m).2)) 0)) (pw0_M_M _ _) ?_
    replace hp := hp.2
    refine g_blk hz0 kX9_judge_25 ?_
    refine g_le (L2 := [some (.ref 0), some (.int 0)]) ⟨rfl, rfl, trivial⟩ ?_
    exact l_X9_judge_27 sc zq 300 (f_X9_keeps_v14 (f_X9_lays ((f_X9_reads m).2)) 0) 0 hp hq
  · rw [if_pos (show ((f_X9_reads m).1) = 0 from c1)] at hq
    replace hp := hp.1 c1
    refine g_blk hz0 kX9_judge_7 ?_
    refine cV [0, 1, 2, 3, 4, 5, 6, 7, 8, 9, 10, 11, 12, 13, 14, 15, 16] (wM ((f_X9_reads m).2)) (s_X9_no ((f_X9_reads m).2) hp.1) rfl cwX9_no dX9_judge_8 rfl rfl (hm0_M_M _) rfl (wM ((f_X9_no ((f_X9_reads m).2)).2)) (pw0_M_M _ _) ?_
    replace hp := hp.2
    refine g_blk hz0 kX9_judge_11 ?_
    subst hq
    exact ⟨fun h => (by cases h), rfl, rfl⟩

def f_X9_image_17  : Nat → Rec → Int32 → Int32 → Int32 × Rec
  | 0, m, v1, v2 => (0, m)
  | n + 1, m, v1, v2 => if 248 ≤ v2 then (1, (setA m 2 (upd (m.2 2) (Int32.toNatClampNeg v1) 1))) else (f_X9_image_17 n (setA m 1 (upd (m.2 1) (Int32.toNatClampNeg ((248 * v1) + v2)) ((m.2 0) (Int32.toNatClampNeg v2)))) v1 (v2 + 1))
def p_X9_image_17  : Nat → Rec → Int32 → Int32 → Prop
  | 0, _, _, _ => False
  | n + 1, m, v1, v2 => (248 ≤ v2 → (vp_in v1 2 ∧ True)) ∧ (¬ (248 ≤ v2) → (vp_in v2 248 ∧ (vp_in ((248 * v1) + v2) 496 ∧ (p_X9_image_17 n (setA m 1 (upd (m.2 1) (Int32.toNatClampNeg ((248 * v1) + v2)) ((m.2 0) (Int32.toNatClampNeg v2)))) v1 (v2 + 1)))))
set_option maxHeartbeats 16000000 in
set_option maxRecDepth 20000 in
theorem l_X9_image_17 (sc : SC)   (zq : Int32 × Rec)  : ∀ (n : Nat) (m : Rec) (v1 : Int32) (v2 : Int32), p_X9_image_17 n m v1 v2 → zq = f_X9_image_17 n m v1 v2 → Good sc 2 0 0 17 mX9_image (Ret (some (.int (zq.1))) (wM (zq.2))) 0 0 17 [some (.ref 0), some (.int v1), some (.int v2)] [] (wM m) := by
  intro n
  induction n with
  | zero => intro m v1 v2 hp; exact hp.elim
  | succ n ih =>
    intro m v1 v2 hp hq
    unfold p_X9_image_17 at hp
    unfold f_X9_image_17 at hq
    refine g_blk hz0 kX9_image_17 ?_
    refine ⟨fun c2 => ?_, fun c2 => ?_⟩
    · rw [if_pos (show 248 ≤ v2 from c2)] at hq
      replace hp := hp.1 c2
      refine g_blk hz0 kX9_image_48 ?_
      refine ⟨hp.1, ?_⟩
      replace hp := hp.2
      refine ⟨Or.inr rfl, ?_⟩
      subst hq
      exact ⟨fun h => (by cases h), rfl, rfl⟩
    · rw [if_neg (show ¬ (248 ≤ v2) from c2)] at hq
      replace hp := hp.2 c2
      refine g_blk hz0 kX9_image_24 ?_
      refine ⟨hp.1, ?_⟩
      replace hp := hp.2
      refine ⟨hp.1, ?_⟩
      replace hp := hp.2
      refine g_le (L2 := [some (.ref 0), some (.int v1), some (.int (v2 + 1))]) ⟨rfl, rfl, rfl, trivial⟩ ?_
      exact ih (setA m 1 (upd (m.2 1) (Int32.toNatClampNeg ((248 * v1) + v2)) ((m.2 0) (Int32.toNatClampNeg v2)))) v1 (v2 + 1) hp hq
def f_X9_image (m : Rec) (i : Int32) : Int32 × Rec := if (f_X9_in (Int32.toInt64 i) 0 1) = 0 then (((f_X9_bad m).1), ((f_X9_bad m).2)) else (f_X9_image_17 300 m i 0)
def p_X9_image (m : Rec) (i : Int32) : Prop := ((f_X9_in (Int32.toInt64 i) 0 1) = 0 → ((p_X9_bad m) ∧ True)) ∧ (¬ ((f_X9_in (Int32.toInt64 i) 0 1) = 0) → (p_X9_image_17 300 m i 0))
set_option maxHeartbeats 16000000 in
set_option maxRecDepth 20000 in
theorem s_X9_image (m : Rec) (i : Int32) (hp : p_X9_image m i) : Spec 2 0 0 mX9_image [.ref 0, .int i] (wM m) (Ret (some (.int ((f_X9_image m i).1))) (wM ((f_X9_image m i).2))) := by
  obtain ⟨zq, hq⟩ : ∃ z, z = (f_X9_image m i) := ⟨_, rfl⟩
  rw [← hq]
  unfold f_X9_image at hq
  unfold p_X9_image at hp
  refine Sof fun sc => ?_
  refine g_blk hz0 kX9_image_0 ?_
  refine cS0 (s_X9_in (Int32.toInt64 i) 0 1) rfl cwX9_in dX9_image_4 rfl ?_
  refine g_blk hz0 kX9_image_7 ?_
  refine ⟨fun c1 => ?_, fun c1 => ?_⟩
  · rw [if_neg (show ¬ ((f_X9_in (Int32.toInt64 i) 0 1) = 0) from c1)] at hq
    replace hp := hp.2 c1
    refine g_blk hz0 kX9_image_15 ?_
    refine g_le (L2 := [some (.ref 0), some (.int i), some (.int 0)]) ⟨rfl, rfl, rfl, trivial⟩ ?_
    exact l_X9_image_17 sc zq 300 m i 0 hp hq
  · rw [if_pos (show (f_X9_in (Int32.toInt64 i) 0 1) = 0 from c1)] at hq
    replace hp := hp.1 c1
    refine g_blk hz0 kX9_image_10 ?_
    refine cV [0, 1, 2, 3, 4, 5, 6, 7, 8, 9, 10, 11, 12, 13, 14, 15, 16] (wM m) (s_X9_bad m hp.1) rfl cwX9_bad dX9_image_11 rfl rfl (hm0_M_M _) rfl (wM ((f_X9_bad m).2)) (pw0_M_M _ _) ?_
    replace hp := hp.2
    refine g_blk hz0 kX9_image_14 ?_
    subst hq
    exact ⟨fun h => (by cases h), rfl, rfl⟩

def f_X9_from_31  : Nat → Rec → Int32 → Int32 → Int32 × Rec
  | 0, m, v1, v2 => (0, m)
  | n + 1, m, v1, v2 => if 248 ≤ v2 then (1, m) else (f_X9_from_31 n (setA m 0 (upd (m.2 0) (Int32.toNatClampNeg v2) ((m.2 1) (Int32.toNatClampNeg ((248 * v1) + v2))))) v1 (v2 + 1))
def p_X9_from_31  : Nat → Rec → Int32 → Int32 → Prop
  | 0, _, _, _ => False
  | n + 1, m, v1, v2 => (248 ≤ v2 → True) ∧ (¬ (248 ≤ v2) → (vp_in ((248 * v1) + v2) 496 ∧ (vp_in v2 248 ∧ (p_X9_from_31 n (setA m 0 (upd (m.2 0) (Int32.toNatClampNeg v2) ((m.2 1) (Int32.toNatClampNeg ((248 * v1) + v2))))) v1 (v2 + 1)))))
set_option maxHeartbeats 16000000 in
set_option maxRecDepth 20000 in
theorem l_X9_from_31 (sc : SC)   (zq : Int32 × Rec)  : ∀ (n : Nat) (m : Rec) (v1 : Int32) (v2 : Int32), p_X9_from_31 n m v1 v2 → zq = f_X9_from_31 n m v1 v2 → Good sc 2 0 0 17 mX9_from (Ret (some (.int (zq.1))) (wM (zq.2))) 0 0 31 [some (.ref 0), some (.int v1), some (.int v2)] [] (wM m) := by
  intro n
  induction n with
  | zero => intro m v1 v2 hp; exact hp.elim
  | succ n ih =>
    intro m v1 v2 hp hq
    unfold p_X9_from_31 at hp
    unfold f_X9_from_31 at hq
    refine g_blk hz0 kX9_from_31 ?_
    refine ⟨fun c3 => ?_, fun c3 => ?_⟩
    · rw [if_pos (show 248 ≤ v2 from c3)] at hq
      refine g_blk hz0 kX9_from_62 ?_
      subst hq
      exact ⟨fun h => (by cases h), rfl, rfl⟩
    · rw [if_neg (show ¬ (248 ≤ v2) from c3)] at hq
      replace hp := hp.2 c3
      refine g_blk hz0 kX9_from_38 ?_
      refine ⟨hp.1, ?_⟩
      replace hp := hp.2
      refine ⟨hp.1, ?_⟩
      replace hp := hp.2
      refine g_le (L2 := [some (.ref 0), some (.int v1), some (.int (v2 + 1))]) ⟨rfl, rfl, rfl, trivial⟩ ?_
      exact ih (setA m 0 (upd (m.2 0) (Int32.toNatClampNeg v2) ((m.2 1) (Int32.toNatClampNeg ((248 * v1) + v2))))) v1 (v2 + 1) hp hq
def f_X9_from (m : Rec) (i : Int32) : Int32 × Rec := if (f_X9_in (Int32.toInt64 i) 0 1) = 0 then (((f_X9_bad m).1), ((f_X9_bad m).2)) else (if ((m.2 2) (Int32.toNatClampNeg i)) = 0 then (((f_X9_no m).1), ((f_X9_no m).2)) else (f_X9_from_31 300 m i 0))
def p_X9_from (m : Rec) (i : Int32) : Prop := ((f_X9_in (Int32.toInt64 i) 0 1) = 0 → ((p_X9_bad m) ∧ True)) ∧ (¬ ((f_X9_in (Int32.toInt64 i) 0 1) = 0) → (vp_in i 2 ∧ ((((m.2 2) (Int32.toNatClampNeg i)) = 0 → ((p_X9_no m) ∧ True)) ∧ (¬ (((m.2 2) (Int32.toNatClampNeg i)) = 0) → (p_X9_from_31 300 m i 0)))))
set_option maxHeartbeats 16000000 in
set_option maxRecDepth 20000 in
theorem s_X9_from (m : Rec) (i : Int32) (hp : p_X9_from m i) : Spec 2 0 0 mX9_from [.ref 0, .int i] (wM m) (Ret (some (.int ((f_X9_from m i).1))) (wM ((f_X9_from m i).2))) := by
  obtain ⟨zq, hq⟩ : ∃ z, z = (f_X9_from m i) := ⟨_, rfl⟩
  rw [← hq]
  unfold f_X9_from at hq
  unfold p_X9_from at hp
  refine Sof fun sc => ?_
  refine g_blk hz0 kX9_from_0 ?_
  refine cS0 (s_X9_in (Int32.toInt64 i) 0 1) rfl cwX9_in dX9_from_4 rfl ?_
  refine g_blk hz0 kX9_from_7 ?_
  refine ⟨fun c1 => ?_, fun c1 => ?_⟩
  · rw [if_neg (show ¬ ((f_X9_in (Int32.toInt64 i) 0 1) = 0) from c1)] at hq
    replace hp := hp.2 c1
    refine g_blk hz0 kX9_from_15 ?_
    refine ⟨hp.1, ?_⟩
    replace hp := hp.2
    refine ⟨fun c2 => ?_, fun c2 => ?_⟩
    · rw [if_neg (show ¬ (((m.2 2) (Int32.toNatClampNeg i)) = 0) from c2)] at hq
      replace hp := hp.2 c2
      refine g_blk hz0 kX9_from_29 ?_
      refine g_le (L2 := [some (.ref 0), some (.int i), some (.int 0)]) ⟨rfl, rfl, rfl, trivial⟩ ?_
      exact l_X9_from_31 sc zq 300 m i 0 hp hq
    · rw [if_pos (show ((m.2 2) (Int32.toNatClampNeg i)) = 0 from c2)] at hq
      replace hp := hp.1 c2
      refine g_blk hz0 kX9_from_24 ?_
      refine cV [0, 1, 2, 3, 4, 5, 6, 7, 8, 9, 10, 11, 12, 13, 14, 15, 16] (wM m) (s_X9_no m hp.1) rfl cwX9_no dX9_from_25 rfl rfl (hm0_M_M _) rfl (wM ((f_X9_no m).2)) (pw0_M_M _ _) ?_
      replace hp := hp.2
      refine g_blk hz0 kX9_from_28 ?_
      subst hq
      exact ⟨fun h => (by cases h), rfl, rfl⟩
  · rw [if_pos (show (f_X9_in (Int32.toInt64 i) 0 1) = 0 from c1)] at hq
    replace hp := hp.1 c1
    refine g_blk hz0 kX9_from_10 ?_
    refine cV [0, 1, 2, 3, 4, 5, 6, 7, 8, 9, 10, 11, 12, 13, 14, 15, 16] (wM m) (s_X9_bad m hp.1) rfl cwX9_bad dX9_from_11 rfl rfl (hm0_M_M _) rfl (wM ((f_X9_bad m).2)) (pw0_M_M _ _) ?_
    replace hp := hp.2
    refine g_blk hz0 kX9_from_14 ?_
    subst hq
    exact ⟨fun h => (by cases h), rfl, rfl⟩

def f_X9_status (m : Rec) (w : Int32) : Int32 × Rec := if (f_X9_in (Int32.toInt64 w) 0 2) = 0 then (((f_X9_refuses m 0 (-1)).1), ((f_X9_refuses m 0 (-1)).2)) else (((m.2 3) (Int32.toNatClampNeg w)), m)
def p_X9_status (m : Rec) (w : Int32) : Prop := ((f_X9_in (Int32.toInt64 w) 0 2) = 0 → ((p_X9_refuses m 0 (-1)) ∧ True)) ∧ (¬ ((f_X9_in (Int32.toInt64 w) 0 2) = 0) → (vp_in w 3 ∧ True))
set_option maxHeartbeats 16000000 in
set_option maxRecDepth 20000 in
theorem s_X9_status (m : Rec) (w : Int32) (hp : p_X9_status m w) : Spec 1 0 0 mX9_status [.ref 0, .int w] (wM m) (Ret (some (.int ((f_X9_status m w).1))) (wM ((f_X9_status m w).2))) := by
  obtain ⟨zq, hq⟩ : ∃ z, z = (f_X9_status m w) := ⟨_, rfl⟩
  rw [← hq]
  unfold f_X9_status at hq
  unfold p_X9_status at hp
  refine Sof fun sc => ?_
  refine g_blk hz0 kX9_status_0 ?_
  refine cS0 (s_X9_in (Int32.toInt64 w) 0 2) rfl cwX9_in dX9_status_6 rfl ?_
  refine g_blk hz0 kX9_status_9 ?_
  refine ⟨fun c1 => ?_, fun c1 => ?_⟩
  · rw [if_pos (show (f_X9_in (Int32.toInt64 w) 0 2) = 0 from c1)] at hq
    replace hp := hp.1 c1
    refine g_blk hz0 kX9_status_21 ?_
    refine cV [0, 1, 2, 3, 4, 5, 6, 7, 8, 9, 10, 11, 12, 13, 14, 15, 16] (wM m) (s_X9_refuses m 0 (-1) hp.1) rfl cwX9_refuses dX9_status_24 rfl rfl (hm0_M_M _) rfl (wM ((f_X9_refuses m 0 (-1)).2)) (pw0_M_M _ _) ?_
    replace hp := hp.2
    refine g_blk hz0 kX9_status_27 ?_
    subst hq
    exact ⟨fun h => (by cases h), rfl, rfl⟩
  · rw [if_neg (show ¬ ((f_X9_in (Int32.toInt64 w) 0 2) = 0) from c1)] at hq
    replace hp := hp.2 c1
    refine g_blk hz0 kX9_status_12 ?_
    refine ⟨hp.1, ?_⟩
    replace hp := hp.2
    refine g_blk hz0 kX9_status_27 ?_
    subst hq
    exact ⟨fun h => (by cases h), rfl, rfl⟩

def f_X9_countOf (m : Rec) (w : Int32) : Int32 := if w = 0 then (f_X9_many m) else (if w = 1 then ((m.2 0) 2) else (if w = 2 then (m.1 23) else ((m.2 0) 6)))
def p_X9_countOf (m : Rec) (w : Int32) : Prop := (w = 0 → ((p_X9_many m) ∧ True)) ∧ (¬ (w = 0) → True)
set_option maxHeartbeats 16000000 in
set_option maxRecDepth 20000 in
theorem s_X9_countOf (m : Rec) (w : Int32) (hp : p_X9_countOf m w) : Spec 3 0 0 mX9_countOf [.ref 0, .int w] (wM m) (Ret (some (.int ((f_X9_countOf m w)))) (wM m)) := by
  obtain ⟨zq, hq⟩ : ∃ z, z = (f_X9_countOf m w) := ⟨_, rfl⟩
  rw [← hq]
  unfold f_X9_countOf at hq
  unfold p_X9_countOf at hp
  refine Sof fun sc => ?_
  refine g_blk hz0 kX9_countOf_0 ?_
  refine ⟨fun c1 => ?_, fun c1 => ?_⟩
  · rw [if_neg (show ¬ (w = 0) from c1)] at hq
    refine g_blk hz0 kX9_countOf_11 ?_
    refine ⟨fun c2 => ?_, fun c2 => ?_⟩
    · rw [if_neg (show ¬ (w = 1) from c2)] at hq
      refine g_blk hz0 kX9_countOf_25 ?_
      refine ⟨fun c3 => ?_, fun c3 => ?_⟩
      · rw [if_neg (show ¬ (w = 2) from c3)] at hq
        refine g_blk hz0 kX9_countOf_37 ?_
        refine ⟨vinL (by decide), ?_⟩
        refine g_blk hz0 kX9_countOf_44 ?_
        subst hq
        exact ⟨fun h => (by cases h), rfl, rfl⟩
      · rw [if_pos (show w = 2 from c3)] at hq
        refine g_blk hz0 kX9_countOf_30 ?_
        refine g_blk hz0 kX9_countOf_44 ?_
        subst hq
        exact ⟨fun h => (by cases h), rfl, rfl⟩
    · rw [if_pos (show w = 1 from c2)] at hq
      refine g_blk hz0 kX9_countOf_16 ?_
      refine ⟨vinL (by decide), ?_⟩
      refine g_blk hz0 kX9_countOf_44 ?_
      subst hq
      exact ⟨fun h => (by cases h), rfl, rfl⟩
  · rw [if_pos (show w = 0 from c1)] at hq
    replace hp := hp.1 c1
    refine g_blk hz0 kX9_countOf_4 ?_
    refine cVp [0, 1, 2, 3, 4, 5, 6, 7, 8, 9, 10, 11, 12, 13, 14, 15, 16] (wM m) (s_X9_many m hp.1) rfl cwX9_many dX9_countOf_5 rfl rfl (hm0_M_M _) ?_
    replace hp := hp.2
    refine g_blk hz0 kX9_countOf_8 ?_
    refine g_blk hz0 kX9_countOf_44 ?_
    subst hq
    exact ⟨fun h => (by cases h), rfl, rfl⟩

def f_X9_count (m : Rec) (w : Int32) : Int32 × Rec := if (f_X9_in (Int32.toInt64 w) 0 3) = 0 then (((f_X9_bad m).1), ((f_X9_bad m).2)) else ((f_X9_countOf m w), m)
def p_X9_count (m : Rec) (w : Int32) : Prop := ((f_X9_in (Int32.toInt64 w) 0 3) = 0 → ((p_X9_bad m) ∧ True)) ∧ (¬ ((f_X9_in (Int32.toInt64 w) 0 3) = 0) → ((p_X9_countOf m w) ∧ True))
set_option maxHeartbeats 16000000 in
set_option maxRecDepth 20000 in
theorem s_X9_count (m : Rec) (w : Int32) (hp : p_X9_count m w) : Spec 4 0 0 mX9_count [.ref 0, .int w] (wM m) (Ret (some (.int ((f_X9_count m w).1))) (wM ((f_X9_count m w).2))) := by
  obtain ⟨zq, hq⟩ : ∃ z, z = (f_X9_count m w) := ⟨_, rfl⟩
  rw [← hq]
  unfold f_X9_count at hq
  unfold p_X9_count at hp
  refine Sof fun sc => ?_
  refine g_blk hz0 kX9_count_0 ?_
  refine cS0 (s_X9_in (Int32.toInt64 w) 0 3) rfl cwX9_in dX9_count_6 rfl ?_
  refine g_blk hz0 kX9_count_9 ?_
  refine ⟨fun c1 => ?_, fun c1 => ?_⟩
  · rw [if_pos (show (f_X9_in (Int32.toInt64 w) 0 3) = 0 from c1)] at hq
    replace hp := hp.1 c1
    refine g_blk hz0 kX9_count_20 ?_
    refine cV [0, 1, 2, 3, 4, 5, 6, 7, 8, 9, 10, 11, 12, 13, 14, 15, 16] (wM m) (s_X9_bad m hp.1) rfl cwX9_bad dX9_count_21 rfl rfl (hm0_M_M _) rfl (wM ((f_X9_bad m).2)) (pw0_M_M _ _) ?_
    replace hp := hp.2
    refine g_blk hz0 kX9_count_24 ?_
    subst hq
    exact ⟨fun h => (by cases h), rfl, rfl⟩
  · rw [if_neg (show ¬ ((f_X9_in (Int32.toInt64 w) 0 3) = 0) from c1)] at hq
    replace hp := hp.2 c1
    refine g_blk hz0 kX9_count_12 ?_
    refine cVp [0, 1, 2, 3, 4, 5, 6, 7, 8, 9, 10, 11, 12, 13, 14, 15, 16] (wM m) (s_X9_countOf m w hp.1) rfl cwX9_countOf dX9_count_14 rfl rfl (hm0_M_M _) ?_
    replace hp := hp.2
    refine g_blk hz0 kX9_count_17 ?_
    refine g_blk hz0 kX9_count_24 ?_
    subst hq
    exact ⟨fun h => (by cases h), rfl, rfl⟩

def f_X9_digest_106 (K93 : Rec → Int64 → Int32 → Int64) : Nat → Rec → Int64 → Int32 → Int32 → Int64
  | 0, m, v1, v3, v4 => 0
  | n + 1, m, v1, v3, v4 => if 3 ≤ v4 then (K93 m ((31 * v1) + (Int32.toInt64 ((m.2 0) (Int32.toNatClampNeg (8 + v3))))) (v3 + 1)) else (f_X9_digest_106 K93 n m ((31 * v1) + (Int32.toInt64 ((m.2 0) (Int32.toNatClampNeg ((28 + (3 * v3)) + v4))))) v3 (v4 + 1))
def p_X9_digest_106 (G93 : Rec → Int64 → Int32 → Prop) : Nat → Rec → Int64 → Int32 → Int32 → Prop
  | 0, _, _, _, _ => False
  | n + 1, m, v1, v3, v4 => (3 ≤ v4 → (vp_in (8 + v3) 248 ∧ (G93 m ((31 * v1) + (Int32.toInt64 ((m.2 0) (Int32.toNatClampNeg (8 + v3))))) (v3 + 1)))) ∧ (¬ (3 ≤ v4) → (vp_in ((28 + (3 * v3)) + v4) 248 ∧ (p_X9_digest_106 G93 n m ((31 * v1) + (Int32.toInt64 ((m.2 0) (Int32.toNatClampNeg ((28 + (3 * v3)) + v4))))) v3 (v4 + 1))))
set_option maxHeartbeats 16000000 in
set_option maxRecDepth 20000 in
theorem l_X9_digest_106 (sc : SC) (m : Rec) {K93 : Rec → Int64 → Int32 → Int64} {G93 : Rec → Int64 → Int32 → Prop} (zq : Int64) (hK93 : ∀ (v1 : Int64) (v3 : Int32), G93 m v1 v3 → zq = K93 m v1 v3 → Good sc 4 0 0 17 mX9_digest (Ret (some (.long (zq))) (wM m)) 0 0 93 [some (.ref 0), some (.long v1), none, some (.int v3), none] [] (wM m)) : ∀ (n : Nat)  (v1 : Int64) (v3 : Int32) (v4 : Int32), p_X9_digest_106 G93 n m v1 v3 v4 → zq = f_X9_digest_106 K93 n m v1 v3 v4 → Good sc 4 0 0 17 mX9_digest (Ret (some (.long (zq))) (wM m)) 0 0 106 [some (.ref 0), some (.long v1), none, some (.int v3), some (.int v4)] [] (wM m) := by
  intro n
  induction n with
  | zero => intro v1 v3 v4 hp; exact hp.elim
  | succ n ih =>
    intro v1 v3 v4 hp hq
    unfold p_X9_digest_106 at hp
    unfold f_X9_digest_106 at hq
    refine g_blk hz0 kX9_digest_106 ?_
    refine ⟨fun c6 => ?_, fun c6 => ?_⟩
    · rw [if_pos (show 3 ≤ v4 from c6)] at hq
      replace hp := hp.1 c6
      refine g_blk hz0 kX9_digest_140 ?_
      refine ⟨hp.1, ?_⟩
      replace hp := hp.2
      refine g_le (L2 := [some (.ref 0), some (.long ((31 * v1) + (Int32.toInt64 ((m.2 0) (Int32.toNatClampNeg (8 + v3)))))), none, some (.int (v3 + 1)), none]) ⟨rfl, rfl, rfl, trivial⟩ ?_
      exact hK93 ((31 * v1) + (Int32.toInt64 ((m.2 0) (Int32.toNatClampNeg (8 + v3))))) (v3 + 1) hp hq
    · rw [if_neg (show ¬ (3 ≤ v4) from c6)] at hq
      replace hp := hp.2 c6
      refine g_blk hz0 kX9_digest_112 ?_
      refine ⟨hp.1, ?_⟩
      replace hp := hp.2
      refine g_le (L2 := [some (.ref 0), some (.long ((31 * v1) + (Int32.toInt64 ((m.2 0) (Int32.toNatClampNeg ((28 + (3 * v3)) + v4)))))), none, some (.int v3), some (.int (v4 + 1))]) ⟨rfl, rfl, rfl, rfl, trivial⟩ ?_
      exact ih ((31 * v1) + (Int32.toInt64 ((m.2 0) (Int32.toNatClampNeg ((28 + (3 * v3)) + v4))))) v3 (v4 + 1) hp hq
def f_X9_digest_257  : Nat → Rec → Int64 → Int32 → Int64
  | 0, m, v1, v3 => 0
  | n + 1, m, v1, v3 => if (m.1 23) ≤ v3 then v1 else (f_X9_digest_257 n m ((31 * v1) + (Int32.toInt64 ((m.2 22) (Int32.toNatClampNeg v3)))) (v3 + 1))
def p_X9_digest_257  : Nat → Rec → Int64 → Int32 → Prop
  | 0, _, _, _ => False
  | n + 1, m, v1, v3 => ((m.1 23) ≤ v3 → True) ∧ (¬ ((m.1 23) ≤ v3) → (vp_in v3 200 ∧ (p_X9_digest_257 n m ((31 * v1) + (Int32.toInt64 ((m.2 22) (Int32.toNatClampNeg v3)))) (v3 + 1))))
set_option maxHeartbeats 16000000 in
set_option maxRecDepth 20000 in
theorem l_X9_digest_257 (sc : SC) (m : Rec)  (zq : Int64)  : ∀ (n : Nat)  (v1 : Int64) (v3 : Int32), p_X9_digest_257 n m v1 v3 → zq = f_X9_digest_257 n m v1 v3 → Good sc 4 0 0 17 mX9_digest (Ret (some (.long (zq))) (wM m)) 0 0 257 [some (.ref 0), some (.long v1), none, some (.int v3), none] [] (wM m) := by
  intro n
  induction n with
  | zero => intro v1 v3 hp; exact hp.elim
  | succ n ih =>
    intro v1 v3 hp hq
    unfold p_X9_digest_257 at hp
    unfold f_X9_digest_257 at hq
    refine g_blk hz0 kX9_digest_257 ?_
    refine ⟨fun c7 => ?_, fun c7 => ?_⟩
    · rw [if_pos (show (m.1 23) ≤ v3 from c7)] at hq
      refine g_blk hz0 kX9_digest_285 ?_
      subst hq
      exact ⟨rfl, rfl⟩
    · rw [if_neg (show ¬ ((m.1 23) ≤ v3) from c7)] at hq
      replace hp := hp.2 c7
      refine g_blk hz0 kX9_digest_265 ?_
      refine ⟨hp.1, ?_⟩
      replace hp := hp.2
      refine g_le (L2 := [some (.ref 0), some (.long ((31 * v1) + (Int32.toInt64 ((m.2 22) (Int32.toNatClampNeg v3))))), none, some (.int (v3 + 1)), none]) ⟨rfl, rfl, rfl, trivial⟩ ?_
      exact ih ((31 * v1) + (Int32.toInt64 ((m.2 22) (Int32.toNatClampNeg v3)))) (v3 + 1) hp hq
def f_X9_digest_219  : Nat → Rec → Int64 → Int32 → Int64
  | 0, m, v1, v3 => 0
  | n + 1, m, v1, v3 => if (3 * ((m.2 0) 16)) ≤ v3 then (f_X9_digest_257 300 m v1 0) else (f_X9_digest_219 n m ((31 * v1) + (Int32.toInt64 ((m.2 0) (Int32.toNatClampNeg (17 + v3))))) (v3 + 1))
def p_X9_digest_219  : Nat → Rec → Int64 → Int32 → Prop
  | 0, _, _, _ => False
  | n + 1, m, v1, v3 => ((3 * ((m.2 0) 16)) ≤ v3 → (p_X9_digest_257 300 m v1 0)) ∧ (¬ ((3 * ((m.2 0) 16)) ≤ v3) → (vp_in (17 + v3) 248 ∧ (p_X9_digest_219 n m ((31 * v1) + (Int32.toInt64 ((m.2 0) (Int32.toNatClampNeg (17 + v3))))) (v3 + 1))))
set_option maxHeartbeats 16000000 in
set_option maxRecDepth 20000 in
theorem l_X9_digest_219 (sc : SC) (m : Rec)  (zq : Int64)  : ∀ (n : Nat)  (v1 : Int64) (v3 : Int32), p_X9_digest_219 n m v1 v3 → zq = f_X9_digest_219 n m v1 v3 → Good sc 4 0 0 17 mX9_digest (Ret (some (.long (zq))) (wM m)) 0 0 219 [some (.ref 0), some (.long v1), none, some (.int v3), none] [] (wM m) := by
  intro n
  induction n with
  | zero => intro v1 v3 hp; exact hp.elim
  | succ n ih =>
    intro v1 v3 hp hq
    unfold p_X9_digest_219 at hp
    unfold f_X9_digest_219 at hq
    refine g_blk hz0 kX9_digest_219 ?_
    refine ⟨vinL (by decide), ?_⟩
    refine ⟨fun c5 => ?_, fun c5 => ?_⟩
    · rw [if_pos (show (3 * ((m.2 0) 16)) ≤ v3 from c5)] at hq
      replace hp := hp.1 c5
      refine g_blk hz0 kX9_digest_255 ?_
      refine g_le (L2 := [some (.ref 0), some (.long v1), none, some (.int 0), none]) ⟨rfl, rfl, rfl, trivial⟩ ?_
      exact l_X9_digest_257 sc m zq 300 v1 0 hp hq
    · rw [if_neg (show ¬ ((3 * ((m.2 0) 16)) ≤ v3) from c5)] at hq
      replace hp := hp.2 c5
      refine g_blk hz0 kX9_digest_232 ?_
      refine ⟨hp.1, ?_⟩
      replace hp := hp.2
      refine g_le (L2 := [some (.ref 0), some (.long ((31 * v1) + (Int32.toInt64 ((m.2 0) (Int32.toNatClampNeg (17 + v3)))))), none, some (.int (v3 + 1)), none]) ⟨rfl, rfl, rfl, trivial⟩ ?_
      exact ih ((31 * v1) + (Int32.toInt64 ((m.2 0) (Int32.toNatClampNeg (17 + v3))))) (v3 + 1) hp hq
def f_X9_digest_93  : Nat → Rec → Int64 → Int32 → Int64
  | 0, m, v1, v3 => 0
  | n + 1, m, v1, v3 => if ((m.2 0) 2) ≤ v3 then (f_X9_digest_219 300 m ((31 * ((31 * ((31 * ((31 * v1) + (Int32.toInt64 ((m.2 0) 4)))) + (Int32.toInt64 ((m.2 0) 5)))) + (Int32.toInt64 ((m.2 0) 26)))) + (Int32.toInt64 ((m.2 0) 27))) 0) else (f_X9_digest_106 (f_X9_digest_93 n) 300 m v1 v3 0)
def p_X9_digest_93  : Nat → Rec → Int64 → Int32 → Prop
  | 0, _, _, _ => False
  | n + 1, m, v1, v3 => (((m.2 0) 2) ≤ v3 → (p_X9_digest_219 300 m ((31 * ((31 * ((31 * ((31 * v1) + (Int32.toInt64 ((m.2 0) 4)))) + (Int32.toInt64 ((m.2 0) 5)))) + (Int32.toInt64 ((m.2 0) 26)))) + (Int32.toInt64 ((m.2 0) 27))) 0)) ∧ (¬ (((m.2 0) 2) ≤ v3) → (p_X9_digest_106 (p_X9_digest_93 n) 300 m v1 v3 0))
set_option maxHeartbeats 16000000 in
set_option maxRecDepth 20000 in
theorem l_X9_digest_93 (sc : SC) (m : Rec)  (zq : Int64)  : ∀ (n : Nat)  (v1 : Int64) (v3 : Int32), p_X9_digest_93 n m v1 v3 → zq = f_X9_digest_93 n m v1 v3 → Good sc 4 0 0 17 mX9_digest (Ret (some (.long (zq))) (wM m)) 0 0 93 [some (.ref 0), some (.long v1), none, some (.int v3), none] [] (wM m) := by
  intro n
  induction n with
  | zero => intro v1 v3 hp; exact hp.elim
  | succ n ih =>
    intro v1 v3 hp hq
    unfold p_X9_digest_93 at hp
    unfold f_X9_digest_93 at hq
    refine g_blk hz0 kX9_digest_93 ?_
    refine ⟨vinL (by decide), ?_⟩
    refine ⟨fun c4 => ?_, fun c4 => ?_⟩
    · rw [if_pos (show ((m.2 0) 2) ≤ v3 from c4)] at hq
      replace hp := hp.1 c4
      refine g_blk hz0 kX9_digest_163 ?_
      refine ⟨vinL (by decide), ?_⟩
      refine ⟨vinL (by decide), ?_⟩
      refine ⟨vinL (by decide), ?_⟩
      refine ⟨vinL (by decide), ?_⟩
      refine g_le (L2 := [some (.ref 0), some (.long ((31 * ((31 * ((31 * ((31 * v1) + (Int32.toInt64 ((m.2 0) 4)))) + (Int32.toInt64 ((m.2 0) 5)))) + (Int32.toInt64 ((m.2 0) 26)))) + (Int32.toInt64 ((m.2 0) 27)))), none, some (.int 0), none]) ⟨rfl, rfl, rfl, trivial⟩ ?_
      exact l_X9_digest_219 sc m zq 300 ((31 * ((31 * ((31 * ((31 * v1) + (Int32.toInt64 ((m.2 0) 4)))) + (Int32.toInt64 ((m.2 0) 5)))) + (Int32.toInt64 ((m.2 0) 26)))) + (Int32.toInt64 ((m.2 0) 27))) 0 hp hq
    · rw [if_neg (show ¬ (((m.2 0) 2) ≤ v3) from c4)] at hq
      replace hp := hp.2 c4
      refine g_blk hz0 kX9_digest_103 ?_
      refine g_le (L2 := [some (.ref 0), some (.long v1), none, some (.int v3), some (.int 0)]) ⟨rfl, rfl, rfl, rfl, trivial⟩ ?_
      exact l_X9_digest_106 sc m zq (fun r0 r1 hp hq => ih r0 r1 hp hq) 300 v1 v3 0 hp hq
def f_X9_digest_58  : Nat → Rec → Int64 → Int32 → Int64
  | 0, m, v1, v3 => 0
  | n + 1, m, v1, v3 => if 36 ≤ v3 then (f_X9_digest_93 300 m v1 0) else (if (f_X9_isCell m v3) = 0 then (f_X9_digest_58 n m v1 (v3 + 1)) else (f_X9_digest_58 n m ((31 * v1) + (Int32.toInt64 v3)) (v3 + 1)))
def p_X9_digest_58  : Nat → Rec → Int64 → Int32 → Prop
  | 0, _, _, _ => False
  | n + 1, m, v1, v3 => (36 ≤ v3 → (p_X9_digest_93 300 m v1 0)) ∧ (¬ (36 ≤ v3) → ((p_X9_isCell m v3) ∧ (((f_X9_isCell m v3) = 0 → (p_X9_digest_58 n m v1 (v3 + 1))) ∧ (¬ ((f_X9_isCell m v3) = 0) → (p_X9_digest_58 n m ((31 * v1) + (Int32.toInt64 v3)) (v3 + 1))))))
set_option maxHeartbeats 16000000 in
set_option maxRecDepth 20000 in
theorem l_X9_digest_58 (sc : SC) (m : Rec)  (zq : Int64)  : ∀ (n : Nat)  (v1 : Int64) (v3 : Int32), p_X9_digest_58 n m v1 v3 → zq = f_X9_digest_58 n m v1 v3 → Good sc 4 0 0 17 mX9_digest (Ret (some (.long (zq))) (wM m)) 0 0 58 [some (.ref 0), some (.long v1), none, some (.int v3), none] [] (wM m) := by
  intro n
  induction n with
  | zero => intro v1 v3 hp; exact hp.elim
  | succ n ih =>
    intro v1 v3 hp hq
    unfold p_X9_digest_58 at hp
    unfold f_X9_digest_58 at hq
    refine g_blk hz0 kX9_digest_58 ?_
    refine ⟨fun c2 => ?_, fun c2 => ?_⟩
    · rw [if_pos (show 36 ≤ v3 from c2)] at hq
      replace hp := hp.1 c2
      refine g_blk hz0 kX9_digest_91 ?_
      refine g_le (L2 := [some (.ref 0), some (.long v1), none, some (.int 0), none]) ⟨rfl, rfl, rfl, trivial⟩ ?_
      exact l_X9_digest_93 sc m zq 300 v1 0 hp hq
    · rw [if_neg (show ¬ (36 ≤ v3) from c2)] at hq
      replace hp := hp.2 c2
      refine g_blk hz0 kX9_digest_64 ?_
      refine cVp [0, 1, 2, 3, 4, 5, 6, 7, 8, 9, 10, 11, 12, 13, 14, 15, 16] (wM m) (s_X9_isCell m v3 hp.1) rfl cwX9_isCell dX9_digest_66 rfl rfl (hm0_M_M _) ?_
      replace hp := hp.2
      refine g_blk hz0 kX9_digest_69 ?_
      refine ⟨fun c3 => ?_, fun c3 => ?_⟩
      · rw [if_pos (show (f_X9_isCell m v3) = 0 from c3)] at hq
        replace hp := hp.1 c3
        refine g_blk hz0 kX9_digest_83 ?_
        refine g_blk hz0 kX9_digest_84 ?_
        refine g_le (L2 := [some (.ref 0), some (.long v1), none, some (.int (v3 + 1)), none]) ⟨rfl, rfl, rfl, trivial⟩ ?_
        exact ih v1 (v3 + 1) hp hq
      · rw [if_neg (show ¬ ((f_X9_isCell m v3) = 0) from c3)] at hq
        replace hp := hp.2 c3
        refine g_blk hz0 kX9_digest_72 ?_
        refine g_blk hz0 kX9_digest_84 ?_
        refine g_le (L2 := [some (.ref 0), some (.long ((31 * v1) + (Int32.toInt64 v3))), none, some (.int (v3 + 1)), none]) ⟨rfl, rfl, rfl, trivial⟩ ?_
        exact ih ((31 * v1) + (Int32.toInt64 v3)) (v3 + 1) hp hq
def f_X9_digest_6  : Nat → Rec → Int64 → Int32 → Int64
  | 0, m, v1, v3 => 0
  | n + 1, m, v1, v3 => if 4 ≤ v3 then (f_X9_digest_58 300 m ((31 * ((31 * v1) + (Int32.toInt64 ((m.2 0) 0)))) + (Int32.toInt64 ((m.2 0) 1))) 0) else (f_X9_digest_6 n m ((31 * v1) + (Int32.toInt64 (f_X9_countOf m v3))) (v3 + 1))
def p_X9_digest_6  : Nat → Rec → Int64 → Int32 → Prop
  | 0, _, _, _ => False
  | n + 1, m, v1, v3 => (4 ≤ v3 → (p_X9_digest_58 300 m ((31 * ((31 * v1) + (Int32.toInt64 ((m.2 0) 0)))) + (Int32.toInt64 ((m.2 0) 1))) 0)) ∧ (¬ (4 ≤ v3) → ((p_X9_countOf m v3) ∧ (p_X9_digest_6 n m ((31 * v1) + (Int32.toInt64 (f_X9_countOf m v3))) (v3 + 1))))
set_option maxHeartbeats 16000000 in
set_option maxRecDepth 20000 in
theorem l_X9_digest_6 (sc : SC) (m : Rec)  (zq : Int64)  : ∀ (n : Nat)  (v1 : Int64) (v3 : Int32), p_X9_digest_6 n m v1 v3 → zq = f_X9_digest_6 n m v1 v3 → Good sc 4 0 0 17 mX9_digest (Ret (some (.long (zq))) (wM m)) 0 0 6 [some (.ref 0), some (.long v1), none, some (.int v3), none] [] (wM m) := by
  intro n
  induction n with
  | zero => intro v1 v3 hp; exact hp.elim
  | succ n ih =>
    intro v1 v3 hp hq
    unfold p_X9_digest_6 at hp
    unfold f_X9_digest_6 at hq
    refine g_blk hz0 kX9_digest_6 ?_
    refine ⟨fun c1 => ?_, fun c1 => ?_⟩
    · rw [if_pos (show 4 ≤ v3 from c1)] at hq
      replace hp := hp.1 c1
      refine g_blk hz0 kX9_digest_30 ?_
      refine ⟨vinL (by decide), ?_⟩
      refine ⟨vinL (by decide), ?_⟩
      refine g_le (L2 := [some (.ref 0), some (.long ((31 * ((31 * v1) + (Int32.toInt64 ((m.2 0) 0)))) + (Int32.toInt64 ((m.2 0) 1)))), none, some (.int 0), none]) ⟨rfl, rfl, rfl, trivial⟩ ?_
      exact l_X9_digest_58 sc m zq 300 ((31 * ((31 * v1) + (Int32.toInt64 ((m.2 0) 0)))) + (Int32.toInt64 ((m.2 0) 1))) 0 hp hq
    · rw [if_neg (show ¬ (4 ≤ v3) from c1)] at hq
      replace hp := hp.2 c1
      refine g_blk hz0 kX9_digest_11 ?_
      refine cVp [0, 1, 2, 3, 4, 5, 6, 7, 8, 9, 10, 11, 12, 13, 14, 15, 16] (wM m) (s_X9_countOf m v3 hp.1) rfl cwX9_countOf dX9_digest_18 rfl rfl (hm0_M_M _) ?_
      replace hp := hp.2
      refine g_blk hz0 kX9_digest_21 ?_
      refine g_le (L2 := [some (.ref 0), some (.long ((31 * v1) + (Int32.toInt64 (f_X9_countOf m v3)))), none, some (.int (v3 + 1)), none]) ⟨rfl, rfl, rfl, trivial⟩ ?_
      exact ih ((31 * v1) + (Int32.toInt64 (f_X9_countOf m v3))) (v3 + 1) hp hq
def f_X9_digest (m : Rec)  : Int64 := (f_X9_digest_6 300 m 653 0)
def p_X9_digest (m : Rec)  : Prop := (p_X9_digest_6 300 m 653 0)
set_option maxHeartbeats 16000000 in
set_option maxRecDepth 20000 in
theorem s_X9_digest (m : Rec)  (hp : p_X9_digest m) : Spec 4 0 0 mX9_digest [.ref 0] (wM m) (Ret (some (.long ((f_X9_digest m)))) (wM m)) := by
  obtain ⟨zq, hq⟩ : ∃ z, z = (f_X9_digest m) := ⟨_, rfl⟩
  rw [← hq]
  unfold f_X9_digest at hq
  unfold p_X9_digest at hp
  refine Sof fun sc => ?_
  refine g_blk hz0 kX9_digest_0 ?_
  refine g_le (L2 := [some (.ref 0), some (.long 653), none, some (.int 0), none]) ⟨rfl, rfl, rfl, trivial⟩ ?_
  exact l_X9_digest_6 sc m zq 300 653 0 hp hq
