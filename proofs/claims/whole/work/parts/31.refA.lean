def f_X9_in  (v : Int64) (a : Int64) (b : Int64) : Int32 := if (lg_cmp v a) < 0 then 0 else (if 0 < (lg_cmp v b) then 0 else 1)
theorem z_X9_in  (v : Int64) (a : Int64) (b : Int64) : (f_X9_in v a b) = 0 ∨ (f_X9_in v a b) = 1 := by
  unfold f_X9_in
  repeat' split
  all_goals first | exact Or.inl rfl | exact Or.inr rfl | apply z_any <;> assumption
set_option maxHeartbeats 16000000 in
set_option maxRecDepth 20000 in
theorem s_X9_in  (v : Int64) (a : Int64) (b : Int64) : Spec 0 0 0 mX9_in [.long v, .long a, .long b] [] (Ret (some (.int ((f_X9_in v a b)))) []) := by
  obtain ⟨zq, hq⟩ : ∃ z, z = (f_X9_in v a b) := ⟨_, rfl⟩
  rw [← hq]
  unfold f_X9_in at hq
  refine Sof fun sc => ?_
  refine g_blk hz0 kX9_in_0 ?_
  refine ⟨fun c1 => ?_, fun c1 => ?_⟩
  · rw [if_pos (show (lg_cmp v a) < 0 from c1)] at hq
    refine g_blk hz0 kX9_in_17 ?_
    refine g_blk hz0 kX9_in_18 ?_
    subst hq
    exact ⟨fun _ => Or.inl rfl, rfl, rfl⟩
  · rw [if_neg (show ¬ ((lg_cmp v a) < 0) from c1)] at hq
    refine g_blk hz0 kX9_in_6 ?_
    refine ⟨fun c2 => ?_, fun c2 => ?_⟩
    · rw [if_pos (show 0 < (lg_cmp v b) from c2)] at hq
      refine g_blk hz0 kX9_in_17 ?_
      refine g_blk hz0 kX9_in_18 ?_
      subst hq
      exact ⟨fun _ => Or.inl rfl, rfl, rfl⟩
    · rw [if_neg (show ¬ (0 < (lg_cmp v b)) from c2)] at hq
      refine g_blk hz0 kX9_in_13 ?_
      refine g_blk hz0 kX9_in_18 ?_
      subst hq
      exact ⟨fun _ => Or.inr rfl, rfl, rfl⟩

def f_X9_refuses (m : Rec) (t : Int32) (v : Int32) : Int32 × Rec := (v, (setA m 3 (upd (m.2 3) (Int32.toNatClampNeg t) (((m.2 3) (Int32.toNatClampNeg t)) + 1))))
def p_X9_refuses (m : Rec) (t : Int32) (v : Int32) : Prop := vp_in t 3 ∧ (vp_in t 3 ∧ True)
set_option maxHeartbeats 16000000 in
set_option maxRecDepth 20000 in
theorem s_X9_refuses (m : Rec) (t : Int32) (v : Int32) (hp : p_X9_refuses m t v) : Spec 0 0 0 mX9_refuses [.ref 0, .int t, .int v] (wM m) (Ret (some (.int ((f_X9_refuses m t v).1))) (wM ((f_X9_refuses m t v).2))) := by
  obtain ⟨zq, hq⟩ : ∃ z, z = (f_X9_refuses m t v) := ⟨_, rfl⟩
  rw [← hq]
  unfold f_X9_refuses at hq
  unfold p_X9_refuses at hp
  refine Sof fun sc => ?_
  refine g_blk hz0 kX9_refuses_0 ?_
  refine ⟨hp.1, ?_⟩
  replace hp := hp.2
  refine ⟨hp.1, ?_⟩
  replace hp := hp.2
  subst hq
  exact ⟨fun h => (by cases h), rfl, rfl⟩

set_option maxHeartbeats 16000000 in
theorem hm0_M_M (m : Rec) : [0, 1, 2, 3, 4, 5, 6, 7, 8, 9, 10, 11, 12, 13, 14, 15, 16].map (lk (wM m)) = (wM m).map (fun e => some (ren [0, 1, 2, 3, 4, 5, 6, 7, 8, 9, 10, 11, 12, 13, 14, 15, 16] e)) := rfl
set_option maxHeartbeats 16000000 in
theorem pw0_M_M (m : Rec) (m9 : Rec) : putW (wM m) [0, 1, 2, 3, 4, 5, 6, 7, 8, 9, 10, 11, 12, 13, 14, 15, 16] ((wM m9).map (ren [0, 1, 2, 3, 4, 5, 6, 7, 8, 9, 10, 11, 12, 13, 14, 15, 16])) = (wM m9) := rfl
def f_X9_bad (m : Rec)  : Int32 × Rec := (((f_X9_refuses m 0 (-2)).1), ((f_X9_refuses m 0 (-2)).2))
def p_X9_bad (m : Rec)  : Prop := (p_X9_refuses m 0 (-2)) ∧ True
set_option maxHeartbeats 16000000 in
set_option maxRecDepth 20000 in
theorem s_X9_bad (m : Rec)  (hp : p_X9_bad m) : Spec 1 0 0 mX9_bad [.ref 0] (wM m) (Ret (some (.int ((f_X9_bad m).1))) (wM ((f_X9_bad m).2))) := by
  obtain ⟨zq, hq⟩ : ∃ z, z = (f_X9_bad m) := ⟨_, rfl⟩
  rw [← hq]
  unfold f_X9_bad at hq
  unfold p_X9_bad at hp
  refine Sof fun sc => ?_
  refine g_blk hz0 kX9_bad_0 ?_
  refine cV [0, 1, 2, 3, 4, 5, 6, 7, 8, 9, 10, 11, 12, 13, 14, 15, 16] (wM m) (s_X9_refuses m 0 (-2) hp.1) rfl cwX9_refuses dX9_bad_4 rfl rfl (hm0_M_M _) rfl (wM ((f_X9_refuses m 0 (-2)).2)) (pw0_M_M _ _) ?_
  replace hp := hp.2
  refine g_blk hz0 kX9_bad_7 ?_
  subst hq
  exact ⟨fun h => (by cases h), rfl, rfl⟩

def f_X9_no (m : Rec)  : Int32 × Rec := (((f_X9_refuses m 1 (-3)).1), ((f_X9_refuses m 1 (-3)).2))
def p_X9_no (m : Rec)  : Prop := (p_X9_refuses m 1 (-3)) ∧ True
set_option maxHeartbeats 16000000 in
set_option maxRecDepth 20000 in
theorem s_X9_no (m : Rec)  (hp : p_X9_no m) : Spec 1 0 0 mX9_no [.ref 0] (wM m) (Ret (some (.int ((f_X9_no m).1))) (wM ((f_X9_no m).2))) := by
  obtain ⟨zq, hq⟩ : ∃ z, z = (f_X9_no m) := ⟨_, rfl⟩
  rw [← hq]
  unfold f_X9_no at hq
  unfold p_X9_no at hp
  refine Sof fun sc => ?_
  refine g_blk hz0 kX9_no_0 ?_
  refine cV [0, 1, 2, 3, 4, 5, 6, 7, 8, 9, 10, 11, 12, 13, 14, 15, 16] (wM m) (s_X9_refuses m 1 (-3) hp.1) rfl cwX9_refuses dX9_no_4 rfl rfl (hm0_M_M _) rfl (wM ((f_X9_refuses m 1 (-3)).2)) (pw0_M_M _ _) ?_
  replace hp := hp.2
  refine g_blk hz0 kX9_no_7 ?_
  subst hq
  exact ⟨fun h => (by cases h), rfl, rfl⟩

def f_X9_full (m : Rec)  : Int32 × Rec := (((f_X9_refuses m 2 (-4)).1), ((f_X9_refuses m 2 (-4)).2))
def p_X9_full (m : Rec)  : Prop := (p_X9_refuses m 2 (-4)) ∧ True
set_option maxHeartbeats 16000000 in
set_option maxRecDepth 20000 in
theorem s_X9_full (m : Rec)  (hp : p_X9_full m) : Spec 1 0 0 mX9_full [.ref 0] (wM m) (Ret (some (.int ((f_X9_full m).1))) (wM ((f_X9_full m).2))) := by
  obtain ⟨zq, hq⟩ : ∃ z, z = (f_X9_full m) := ⟨_, rfl⟩
  rw [← hq]
  unfold f_X9_full at hq
  unfold p_X9_full at hp
  refine Sof fun sc => ?_
  refine g_blk hz0 kX9_full_0 ?_
  refine cV [0, 1, 2, 3, 4, 5, 6, 7, 8, 9, 10, 11, 12, 13, 14, 15, 16] (wM m) (s_X9_refuses m 2 (-4) hp.1) rfl cwX9_refuses dX9_full_4 rfl rfl (hm0_M_M _) rfl (wM ((f_X9_refuses m 2 (-4)).2)) (pw0_M_M _ _) ?_
  replace hp := hp.2
  refine g_blk hz0 kX9_full_7 ?_
  subst hq
  exact ⟨fun h => (by cases h), rfl, rfl⟩

def f_X9_isCell (m : Rec) (c : Int32) : Int32 := if (f_X9_in (Int32.toInt64 c) 0 35) = 0 then 0 else (if ((m.2 0) 0) ≤ (c - c / 6 * 6) then 0 else (if ((m.2 0) 1) ≤ (c / 6) then 0 else (if ((m.2 0) (Int32.toNatClampNeg (52 + c))) = 0 then 1 else 0)))
def p_X9_isCell (m : Rec) (c : Int32) : Prop := ((f_X9_in (Int32.toInt64 c) 0 35) = 0 → True) ∧ (¬ ((f_X9_in (Int32.toInt64 c) 0 35) = 0) → ((((m.2 0) 0) ≤ (c - c / 6 * 6) → True) ∧ (¬ (((m.2 0) 0) ≤ (c - c / 6 * 6)) → ((((m.2 0) 1) ≤ (c / 6) → True) ∧ (¬ (((m.2 0) 1) ≤ (c / 6)) → (vp_in (52 + c) 248 ∧ True))))))
theorem z_X9_isCell (m : Rec) (c : Int32) : (f_X9_isCell m c) = 0 ∨ (f_X9_isCell m c) = 1 := by
  unfold f_X9_isCell
  repeat' split
  all_goals first | exact Or.inl rfl | exact Or.inr rfl | apply z_any <;> assumption
set_option maxHeartbeats 16000000 in
set_option maxRecDepth 20000 in
theorem s_X9_isCell (m : Rec) (c : Int32) (hp : p_X9_isCell m c) : Spec 1 0 0 mX9_isCell [.ref 0, .int c] (wM m) (Ret (some (.int ((f_X9_isCell m c)))) (wM m)) := by
  obtain ⟨zq, hq⟩ : ∃ z, z = (f_X9_isCell m c) := ⟨_, rfl⟩
  rw [← hq]
  unfold f_X9_isCell at hq
  unfold p_X9_isCell at hp
  refine Sof fun sc => ?_
  refine g_blk hz0 kX9_isCell_0 ?_
  refine cS0 (s_X9_in (Int32.toInt64 c) 0 35) rfl cwX9_in dX9_isCell_6 rfl ?_
  refine g_blk hz0 kX9_isCell_9 ?_
  refine ⟨fun c1 => ?_, fun c1 => ?_⟩
  · rw [if_pos (show (f_X9_in (Int32.toInt64 c) 0 35) = 0 from c1)] at hq
    refine g_blk hz0 kX9_isCell_54 ?_
    refine g_blk hz0 kX9_isCell_55 ?_
    subst hq
    exact ⟨fun _ => Or.inl rfl, rfl, rfl⟩
  · rw [if_neg (show ¬ ((f_X9_in (Int32.toInt64 c) 0 35) = 0) from c1)] at hq
    replace hp := hp.2 c1
    refine g_blk hz0 kX9_isCell_12 ?_
    refine ⟨by decide, ?_⟩
    refine ⟨vinL (by decide), ?_⟩
    refine ⟨fun c2 => ?_, fun c2 => ?_⟩
    · rw [if_pos (show ((m.2 0) 0) ≤ (c - c / 6 * 6) from c2)] at hq
      refine g_blk hz0 kX9_isCell_54 ?_
      refine g_blk hz0 kX9_isCell_55 ?_
      subst hq
      exact ⟨fun _ => Or.inl rfl, rfl, rfl⟩
    · rw [if_neg (show ¬ (((m.2 0) 0) ≤ (c - c / 6 * 6)) from c2)] at hq
      replace hp := hp.2 c2
      refine g_blk hz0 kX9_isCell_25 ?_
      refine ⟨by decide, ?_⟩
      refine ⟨vinL (by decide), ?_⟩
      refine ⟨fun c3 => ?_, fun c3 => ?_⟩
      · rw [if_pos (show ((m.2 0) 1) ≤ (c / 6) from c3)] at hq
        refine g_blk hz0 kX9_isCell_54 ?_
        refine g_blk hz0 kX9_isCell_55 ?_
        subst hq
        exact ⟨fun _ => Or.inl rfl, rfl, rfl⟩
      · rw [if_neg (show ¬ (((m.2 0) 1) ≤ (c / 6)) from c3)] at hq
        replace hp := hp.2 c3
        refine g_blk hz0 kX9_isCell_38 ?_
        refine ⟨hp.1, ?_⟩
        replace hp := hp.2
        refine ⟨fun c4 => ?_, fun c4 => ?_⟩
        · rw [if_neg (show ¬ (((m.2 0) (Int32.toNatClampNeg (52 + c))) = 0) from c4)] at hq
          refine g_blk hz0 kX9_isCell_54 ?_
          refine g_blk hz0 kX9_isCell_55 ?_
          subst hq
          exact ⟨fun _ => Or.inl rfl, rfl, rfl⟩
        · rw [if_pos (show ((m.2 0) (Int32.toNatClampNeg (52 + c))) = 0 from c4)] at hq
          refine g_blk hz0 kX9_isCell_50 ?_
          refine g_blk hz0 kX9_isCell_55 ?_
          subst hq
          exact ⟨fun _ => Or.inr rfl, rfl, rfl⟩

def f_X9_flat_2  : Nat → Rec → Int32 → Rec
  | 0, m, v1 => m
  | n + 1, m, v1 => if 36 ≤ v1 then m else (f_X9_flat_2 n (setA (setA (setA (setA m 4 (upd (m.2 4) (Int32.toNatClampNeg v1) (v1 - v1 / 6 * 6))) 5 (upd (m.2 5) (Int32.toNatClampNeg v1) (v1 / 6))) 6 (upd (m.2 6) (Int32.toNatClampNeg v1) 0)) 7 (upd (m.2 7) (Int32.toNatClampNeg v1) 0)) (v1 + 1))
def p_X9_flat_2  : Nat → Rec → Int32 → Prop
  | 0, _, _ => False
  | n + 1, m, v1 => (36 ≤ v1 → True) ∧ (¬ (36 ≤ v1) → (vp_in v1 36 ∧ (vp_in v1 36 ∧ (vp_in v1 36 ∧ (vp_in v1 36 ∧ (p_X9_flat_2 n (setA (setA (setA (setA m 4 (upd (m.2 4) (Int32.toNatClampNeg v1) (v1 - v1 / 6 * 6))) 5 (upd (m.2 5) (Int32.toNatClampNeg v1) (v1 / 6))) 6 (upd (m.2 6) (Int32.toNatClampNeg v1) 0)) 7 (upd (m.2 7) (Int32.toNatClampNeg v1) 0)) (v1 + 1)))))))
set_option maxHeartbeats 16000000 in
set_option maxRecDepth 20000 in
theorem l_X9_flat_2 (sc : SC)   (zq : Rec)  : ∀ (n : Nat) (m : Rec) (v1 : Int32), p_X9_flat_2 n m v1 → zq = f_X9_flat_2 n m v1 → Good sc 0 0 0 17 mX9_flat (Ret none (wM (zq))) 0 0 2 [some (.ref 0), some (.int v1)] [] (wM m) := by
  intro n
  induction n with
  | zero => intro m v1 hp; exact hp.elim
  | succ n ih =>
    intro m v1 hp hq
    unfold p_X9_flat_2 at hp
    unfold f_X9_flat_2 at hq
    refine g_blk hz0 kX9_flat_2 ?_
    refine ⟨fun c1 => ?_, fun c1 => ?_⟩
    · rw [if_pos (show 36 ≤ v1 from c1)] at hq
      refine g_blk hz0 kX9_flat_48 ?_
      subst hq
      exact ⟨rfl, rfl⟩
    · rw [if_neg (show ¬ (36 ≤ v1) from c1)] at hq
      replace hp := hp.2 c1
      refine g_blk hz0 kX9_flat_8 ?_
      refine ⟨by decide, ?_⟩
      refine ⟨hp.1, ?_⟩
      replace hp := hp.2
      refine ⟨by decide, ?_⟩
      refine ⟨hp.1, ?_⟩
      replace hp := hp.2
      refine ⟨hp.1, ?_⟩
      replace hp := hp.2
      refine ⟨hp.1, ?_⟩
      replace hp := hp.2
      refine ⟨Or.inl rfl, ?_⟩
      refine g_le (L2 := [some (.ref 0), some (.int (v1 + 1))]) ⟨rfl, rfl, trivial⟩ ?_
      exact ih (setA (setA (setA (setA m 4 (upd (m.2 4) (Int32.toNatClampNeg v1) (v1 - v1 / 6 * 6))) 5 (upd (m.2 5) (Int32.toNatClampNeg v1) (v1 / 6))) 6 (upd (m.2 6) (Int32.toNatClampNeg v1) 0)) 7 (upd (m.2 7) (Int32.toNatClampNeg v1) 0)) (v1 + 1) hp hq
def f_X9_flat (m : Rec)  : Rec := (f_X9_flat_2 40 m 0)
def p_X9_flat (m : Rec)  : Prop := (p_X9_flat_2 40 m 0)
set_option maxHeartbeats 16000000 in
set_option maxRecDepth 20000 in
theorem s_X9_flat (m : Rec)  (hp : p_X9_flat m) : Spec 0 0 0 mX9_flat [.ref 0] (wM m) (Ret none (wM ((f_X9_flat m)))) := by
  obtain ⟨zq, hq⟩ : ∃ z, z = (f_X9_flat m) := ⟨_, rfl⟩
  rw [← hq]
  unfold f_X9_flat at hq
  unfold p_X9_flat at hp
  refine Sof fun sc => ?_
  refine g_blk hz0 kX9_flat_0 ?_
  refine g_le (L2 := [some (.ref 0), some (.int 0)]) ⟨rfl, rfl, trivial⟩ ?_
  exact l_X9_flat_2 sc zq 40 m 0 hp hq

def f_X9_moves_32  (m : Rec) (v4 : Int32) (u0 : Int32) : Int32 := if v4 = 0 then (if u0 = 1 then 1 else 0) else (if u0 = 0 then 1 else 0)
def p_X9_moves_32  (m : Rec) (v4 : Int32) (u0 : Int32) : Prop := True
set_option maxHeartbeats 16000000 in
set_option maxRecDepth 20000 in
theorem l_X9_moves_32 (sc : SC) (m : Rec)  (zq : Int32)   (v4 : Int32) (u0 : Int32) (hp : p_X9_moves_32 m v4 u0) (hq : zq = f_X9_moves_32 m v4 u0) : Good sc 0 0 0 17 mX9_moves (Ret (some (.int (zq))) (wM m)) 0 0 32 [none, none, none, none, some (.int v4), none] [.int u0] (wM m) := by
  unfold p_X9_moves_32 at hp
  unfold f_X9_moves_32 at hq
  refine g_blk hz0 kX9_moves_32 ?_
  refine ⟨fun c4 => ?_, fun c4 => ?_⟩
  · rw [if_neg (show ¬ (v4 = 0) from c4)] at hq
    refine g_blk hz0 kX9_moves_41 ?_
    refine g_blk hz0 kX9_moves_42 ?_
    refine ⟨fun c6 => ?_, fun c6 => ?_⟩
    · rw [if_neg (show ¬ (u0 = 0) from c6)] at hq
      refine g_blk hz0 kX9_moves_49 ?_
      refine g_blk hz0 kX9_moves_50 ?_
      subst hq
      exact ⟨fun _ => Or.inl rfl, rfl, rfl⟩
    · rw [if_pos (show u0 = 0 from c6)] at hq
      refine g_blk hz0 kX9_moves_45 ?_
      refine g_blk hz0 kX9_moves_50 ?_
      subst hq
      exact ⟨fun _ => Or.inr rfl, rfl, rfl⟩
  · rw [if_pos (show v4 = 0 from c4)] at hq
    refine g_blk hz0 kX9_moves_37 ?_
    refine g_blk hz0 kX9_moves_42 ?_
    refine ⟨fun c5 => ?_, fun c5 => ?_⟩
    · rw [if_neg (show ¬ (u0 = 1) from c5)] at hq
      refine g_blk hz0 kX9_moves_49 ?_
      refine g_blk hz0 kX9_moves_50 ?_
      subst hq
      exact ⟨fun _ => Or.inl rfl, rfl, rfl⟩
    · rw [if_pos (show u0 = 1 from c5)] at hq
      refine g_blk hz0 kX9_moves_45 ?_
      refine g_blk hz0 kX9_moves_50 ?_
      subst hq
      exact ⟨fun _ => Or.inr rfl, rfl, rfl⟩
def f_X9_moves (m : Rec) (c : Int32) (a : Int32) (l : Int32) (w : Int32) : Int32 := if a = 0 then (if ((m.2 4) (Int32.toNatClampNeg c)) < l then (f_X9_moves_32 m w 0) else (f_X9_moves_32 m w 1)) else (if ((m.2 5) (Int32.toNatClampNeg c)) < l then (f_X9_moves_32 m w 0) else (f_X9_moves_32 m w 1))
def p_X9_moves (m : Rec) (c : Int32) (a : Int32) (l : Int32) (w : Int32) : Prop := (a = 0 → (vp_in c 36 ∧ ((((m.2 4) (Int32.toNatClampNeg c)) < l → (p_X9_moves_32 m w 0)) ∧ (¬ (((m.2 4) (Int32.toNatClampNeg c)) < l) → (p_X9_moves_32 m w 1))))) ∧ (¬ (a = 0) → (vp_in c 36 ∧ ((((m.2 5) (Int32.toNatClampNeg c)) < l → (p_X9_moves_32 m w 0)) ∧ (¬ (((m.2 5) (Int32.toNatClampNeg c)) < l) → (p_X9_moves_32 m w 1)))))
set_option maxHeartbeats 16000000 in
set_option maxRecDepth 20000 in
theorem s_X9_moves (m : Rec) (c : Int32) (a : Int32) (l : Int32) (w : Int32) (hp : p_X9_moves m c a l w) : Spec 0 0 0 mX9_moves [.ref 0, .int c, .int a, .int l, .int w] (wM m) (Ret (some (.int ((f_X9_moves m c a l w)))) (wM m)) := by
  obtain ⟨zq, hq⟩ : ∃ z, z = (f_X9_moves m c a l w) := ⟨_, rfl⟩
  rw [← hq]
  unfold f_X9_moves at hq
  unfold p_X9_moves at hp
  refine Sof fun sc => ?_
  refine g_blk hz0 kX9_moves_0 ?_
  refine ⟨fun c1 => ?_, fun c1 => ?_⟩
  · rw [if_neg (show ¬ (a = 0) from c1)] at hq
    replace hp := hp.2 c1
    refine g_blk hz0 kX9_moves_13 ?_
    refine ⟨hp.1, ?_⟩
    replace hp := hp.2
    refine g_blk hz0 kX9_moves_19 ?_
    refine ⟨fun c3 => ?_, fun c3 => ?_⟩
    · rw [if_pos (show ((m.2 5) (Int32.toNatClampNeg c)) < l from c3)] at hq
      replace hp := hp.1 c3
      refine g_blk hz0 kX9_moves_31 ?_
      refine g_le (L2 := [none, none, none, none, some (.int w), none]) ⟨rfl, trivial⟩ ?_
      exact l_X9_moves_32 sc m zq w 0 hp hq
    · rw [if_neg (show ¬ (((m.2 5) (Int32.toNatClampNeg c)) < l) from c3)] at hq
      replace hp := hp.2 c3
      refine g_blk hz0 kX9_moves_27 ?_
      refine g_le (L2 := [none, none, none, none, some (.int w), none]) ⟨rfl, trivial⟩ ?_
      exact l_X9_moves_32 sc m zq w 1 hp hq
  · rw [if_pos (show a = 0 from c1)] at hq
    replace hp := hp.1 c1
    refine g_blk hz0 kX9_moves_4 ?_
    refine ⟨hp.1, ?_⟩
    replace hp := hp.2
    refine g_blk hz0 kX9_moves_19 ?_
    refine ⟨fun c2 => ?_, fun c2 => ?_⟩
    · rw [if_pos (show ((m.2 4) (Int32.toNatClampNeg c)) < l from c2)] at hq
      replace hp := hp.1 c2
      refine g_blk hz0 kX9_moves_31 ?_
      refine g_le (L2 := [none, none, none, none, some (.int w), none]) ⟨rfl, trivial⟩ ?_
      exact l_X9_moves_32 sc m zq w 0 hp hq
    · rw [if_neg (show ¬ (((m.2 4) (Int32.toNatClampNeg c)) < l) from c2)] at hq
      replace hp := hp.2 c2
      refine g_blk hz0 kX9_moves_27 ?_
      refine g_le (L2 := [none, none, none, none, some (.int w), none]) ⟨rfl, trivial⟩ ?_
      exact l_X9_moves_32 sc m zq w 1 hp hq

set_option maxHeartbeats 16000000 in
theorem pw1_M_M (m : Rec)  : putW (wM m) [0, 1, 2, 3, 4, 5, 6, 7, 8, 9, 10, 11, 12, 13, 14, 15, 16] ((wM m).map (ren [0, 1, 2, 3, 4, 5, 6, 7, 8, 9, 10, 11, 12, 13, 14, 15, 16])) = (wM m) := rfl
def f_X9_mayFold_9  : Nat → Rec → Int32 → Int32 → Int32 → Int32 → Int32 → Int32 → Int32
  | 0, m, v1, v2, v3, v4, v5, v6 => 0
  | n + 1, m, v1, v2, v3, v4, v5, v6 => if 36 ≤ v6 then (if v4 ≤ 0 then 0 else (if v5 ≤ v4 then 0 else 1)) else (if (f_X9_isCell m v6) = 0 then (f_X9_mayFold_9 n m v1 v2 v3 v4 v5 (v6 + 1)) else (if (f_X9_moves m v6 v1 v2 v3) = 0 then (f_X9_mayFold_9 n m v1 v2 v3 (v4 + 0) (v5 + 1) (v6 + 1)) else (f_X9_mayFold_9 n m v1 v2 v3 (v4 + 1) (v5 + 1) (v6 + 1))))
def p_X9_mayFold_9  : Nat → Rec → Int32 → Int32 → Int32 → Int32 → Int32 → Int32 → Prop
  | 0, _, _, _, _, _, _, _ => False
  | n + 1, m, v1, v2, v3, v4, v5, v6 => (36 ≤ v6 → True) ∧ (¬ (36 ≤ v6) → ((p_X9_isCell m v6) ∧ (((f_X9_isCell m v6) = 0 → (p_X9_mayFold_9 n m v1 v2 v3 v4 v5 (v6 + 1))) ∧ (¬ ((f_X9_isCell m v6) = 0) → ((p_X9_moves m v6 v1 v2 v3) ∧ (((f_X9_moves m v6 v1 v2 v3) = 0 → (p_X9_mayFold_9 n m v1 v2 v3 (v4 + 0) (v5 + 1) (v6 + 1))) ∧ (¬ ((f_X9_moves m v6 v1 v2 v3) = 0) → (p_X9_mayFold_9 n m v1 v2 v3 (v4 + 1) (v5 + 1) (v6 + 1)))))))))
set_option maxHeartbeats 16000000 in
set_option maxRecDepth 20000 in
theorem l_X9_mayFold_9 (sc : SC) (m : Rec)  (zq : Int32)  : ∀ (n : Nat)  (v1 : Int32) (v2 : Int32) (v3 : Int32) (v4 : Int32) (v5 : Int32) (v6 : Int32), p_X9_mayFold_9 n m v1 v2 v3 v4 v5 v6 → zq = f_X9_mayFold_9 n m v1 v2 v3 v4 v5 v6 → Good sc 2 0 0 17 mX9_mayFold (Ret (some (.int (zq))) (wM m)) 0 0 9 [some (.ref 0), some (.int v1), some (.int v2), some (.int v3), some (.int v4), some (.int v5), some (.int v6)] [] (wM m) := by
  intro n
  induction n with
  | zero => intro v1 v2 v3 v4 v5 v6 hp; exact hp.elim
  | succ n ih =>
    intro v1 v2 v3 v4 v5 v6 hp hq
    unfold p_X9_mayFold_9 at hp
    unfold f_X9_mayFold_9 at hq
    refine g_blk hz0 kX9_mayFold_9 ?_
    refine ⟨fun c1 => ?_, fun c1 => ?_⟩
    · rw [if_pos (show 36 ≤ v6 from c1)] at hq
      refine g_blk hz0 kX9_mayFold_56 ?_
      refine ⟨fun c2 => ?_, fun c2 => ?_⟩
      · rw [if_pos (show v4 ≤ 0 from c2)] at hq
        refine g_blk hz0 kX9_mayFold_72 ?_
        refine g_blk hz0 kX9_mayFold_73 ?_
        subst hq
        exact ⟨fun _ => Or.inl rfl, rfl, rfl⟩
      · rw [if_neg (show ¬ (v4 ≤ 0) from c2)] at hq
        refine g_blk hz0 kX9_mayFold_61 ?_
        refine ⟨fun c3 => ?_, fun c3 => ?_⟩
        · rw [if_pos (show v5 ≤ v4 from c3)] at hq
          refine g_blk hz0 kX9_mayFold_72 ?_
          refine g_blk hz0 kX9_mayFold_73 ?_
          subst hq
          exact ⟨fun _ => Or.inl rfl, rfl, rfl⟩
        · rw [if_neg (show ¬ (v5 ≤ v4) from c3)] at hq
          refine g_blk hz0 kX9_mayFold_68 ?_
          refine g_blk hz0 kX9_mayFold_73 ?_
          subst hq
          exact ⟨fun _ => Or.inr rfl, rfl, rfl⟩
    · rw [if_neg (show ¬ (36 ≤ v6) from c1)] at hq
      replace hp := hp.2 c1
      refine g_blk hz0 kX9_mayFold_16 ?_
      refine cVp [0, 1, 2, 3, 4, 5, 6, 7, 8, 9, 10, 11, 12, 13, 14, 15, 16] (wM m) (s_X9_isCell m v6 hp.1) rfl cwX9_isCell dX9_mayFold_19 rfl rfl (hm0_M_M _) ?_
      replace hp := hp.2
      refine g_blk hz0 kX9_mayFold_22 ?_
      refine ⟨fun c4 => ?_, fun c4 => ?_⟩
      · rw [if_pos (show (f_X9_isCell m v6) = 0 from c4)] at hq
        replace hp := hp.1 c4
        refine g_blk hz0 kX9_mayFold_50 ?_
        refine g_le (L2 := [some (.ref 0), some (.int v1), some (.int v2), some (.int v3), some (.int v4), some (.int v5), some (.int (v6 + 1))]) ⟨rfl, rfl, rfl, rfl, rfl, rfl, rfl, trivial⟩ ?_
        exact ih v1 v2 v3 v4 v5 (v6 + 1) hp hq
      · rw [if_neg (show ¬ ((f_X9_isCell m v6) = 0) from c4)] at hq
        replace hp := hp.2 c4
        refine g_blk hz0 kX9_mayFold_25 ?_
        refine cVp [0, 1, 2, 3, 4, 5, 6, 7, 8, 9, 10, 11, 12, 13, 14, 15, 16] (wM m) (s_X9_moves m v6 v1 v2 v3 hp.1) rfl cwX9_moves dX9_mayFold_36 rfl rfl (hm0_M_M _) ?_
        replace hp := hp.2
        refine g_blk hz0 kX9_mayFold_39 ?_
        refine ⟨fun c5 => ?_, fun c5 => ?_⟩
        · rw [if_pos (show (f_X9_moves m v6 v1 v2 v3) = 0 from c5)] at hq
          replace hp := hp.1 c5
          refine g_blk hz0 kX9_mayFold_46 ?_
          refine g_blk hz0 kX9_mayFold_47 ?_
          refine g_blk hz0 kX9_mayFold_50 ?_
          refine g_le (L2 := [some (.ref 0), some (.int v1), some (.int v2), some (.int v3), some (.int (v4 + 0)), some (.int (v5 + 1)), some (.int (v6 + 1))]) ⟨rfl, rfl, rfl, rfl, rfl, rfl, rfl, trivial⟩ ?_
          exact ih v1 v2 v3 (v4 + 0) (v5 + 1) (v6 + 1) hp hq
        · rw [if_neg (show ¬ ((f_X9_moves m v6 v1 v2 v3) = 0) from c5)] at hq
          replace hp := hp.2 c5
          refine g_blk hz0 kX9_mayFold_42 ?_
          refine g_blk hz0 kX9_mayFold_47 ?_
          refine g_blk hz0 kX9_mayFold_50 ?_
          refine g_le (L2 := [some (.ref 0), some (.int v1), some (.int v2), some (.int v3), some (.int (v4 + 1)), some (.int (v5 + 1)), some (.int (v6 + 1))]) ⟨rfl, rfl, rfl, rfl, rfl, rfl, rfl, trivial⟩ ?_
          exact ih v1 v2 v3 (v4 + 1) (v5 + 1) (v6 + 1) hp hq
def f_X9_mayFold (m : Rec) (a : Int32) (l : Int32) (w : Int32) : Int32 := (f_X9_mayFold_9 40 m a l w 0 0 0)
def p_X9_mayFold (m : Rec) (a : Int32) (l : Int32) (w : Int32) : Prop := (p_X9_mayFold_9 40 m a l w 0 0 0)
set_option maxHeartbeats 16000000 in
set_option maxRecDepth 20000 in
theorem s_X9_mayFold (m : Rec) (a : Int32) (l : Int32) (w : Int32) (hp : p_X9_mayFold m a l w) : Spec 2 0 0 mX9_mayFold [.ref 0, .int a, .int l, .int w] (wM m) (Ret (some (.int ((f_X9_mayFold m a l w)))) (wM m)) := by
  obtain ⟨zq, hq⟩ : ∃ z, z = (f_X9_mayFold m a l w) := ⟨_, rfl⟩
  rw [← hq]
  unfold f_X9_mayFold at hq
  unfold p_X9_mayFold at hp
  refine Sof fun sc => ?_
  refine g_blk hz0 kX9_mayFold_0 ?_
  refine g_le (L2 := [some (.ref 0), some (.int a), some (.int l), some (.int w), some (.int 0), some (.int 0), some (.int 0)]) ⟨rfl, rfl, rfl, rfl, rfl, rfl, rfl, trivial⟩ ?_
  exact l_X9_mayFold_9 sc m zq 40 a l w 0 0 0 hp hq

def f_X9_turnsOver_57  : Nat → Rec → Int32 → Int32 → Int32 → Int32 → Int32 → Rec
  | 0, m, v1, v2, v3, v4, v5 => m
  | n + 1, m, v1, v2, v3, v4, v5 => if 36 ≤ v5 then m else (if (f_X9_isCell m v5) = 0 then (f_X9_turnsOver_57 n m v1 v2 v3 v4 (v5 + 1)) else (if (f_X9_moves m v5 v1 v2 v3) = 0 then (f_X9_turnsOver_57 n m v1 v2 v3 v4 (v5 + 1)) else (if v1 = 0 then (if ((m.2 7) (Int32.toNatClampNeg v5)) = 0 then (f_X9_turnsOver_57 n (setA (setA (setA m 4 (upd (m.2 4) (Int32.toNatClampNeg v5) (((2 * v2) - 1) - ((m.2 4) (Int32.toNatClampNeg v5))))) 6 (upd (m.2 6) (Int32.toNatClampNeg v5) (((2 * v4) + 1) - ((m.2 6) (Int32.toNatClampNeg v5))))) 7 (upd (m.2 7) (Int32.toNatClampNeg v5) 1)) v1 v2 v3 v4 (v5 + 1)) else (f_X9_turnsOver_57 n (setA (setA (setA m 4 (upd (m.2 4) (Int32.toNatClampNeg v5) (((2 * v2) - 1) - ((m.2 4) (Int32.toNatClampNeg v5))))) 6 (upd (m.2 6) (Int32.toNatClampNeg v5) (((2 * v4) + 1) - ((m.2 6) (Int32.toNatClampNeg v5))))) 7 (upd (m.2 7) (Int32.toNatClampNeg v5) 0)) v1 v2 v3 v4 (v5 + 1))) else (if ((m.2 7) (Int32.toNatClampNeg v5)) = 0 then (f_X9_turnsOver_57 n (setA (setA (setA m 5 (upd (m.2 5) (Int32.toNatClampNeg v5) (((2 * v2) - 1) - ((m.2 5) (Int32.toNatClampNeg v5))))) 6 (upd (m.2 6) (Int32.toNatClampNeg v5) (((2 * v4) + 1) - ((m.2 6) (Int32.toNatClampNeg v5))))) 7 (upd (m.2 7) (Int32.toNatClampNeg v5) 1)) v1 v2 v3 v4 (v5 + 1)) else (f_X9_turnsOver_57 n (setA (setA (setA m 5 (upd (m.2 5) (Int32.toNatClampNeg v5) (((2 * v2) - 1) - ((m.2 5) (Int32.toNatClampNeg v5))))) 6 (upd (m.2 6) (Int32.toNatClampNeg v5) (((2 * v4) + 1) - ((m.2 6) (Int32.toNatClampNeg v5))))) 7 (upd (m.2 7) (Int32.toNatClampNeg v5) 0)) v1 v2 v3 v4 (v5 + 1))))))
def p_X9_turnsOver_57  : Nat → Rec → Int32 → Int32 → Int32 → Int32 → Int32 → Prop
  | 0, _, _, _, _, _, _ => False
  | n + 1, m, v1, v2, v3, v4, v5 => (36 ≤ v5 → True) ∧ (¬ (36 ≤ v5) → ((p_X9_isCell m v5) ∧ (((f_X9_isCell m v5) = 0 → (p_X9_turnsOver_57 n m v1 v2 v3 v4 (v5 + 1))) ∧ (¬ ((f_X9_isCell m v5) = 0) → ((p_X9_moves m v5 v1 v2 v3) ∧ (((f_X9_moves m v5 v1 v2 v3) = 0 → (p_X9_turnsOver_57 n m v1 v2 v3 v4 (v5 + 1))) ∧ (¬ ((f_X9_moves m v5 v1 v2 v3) = 0) → ((v1 = 0 → (vp_in v5 36 ∧ (vp_in v5 36 ∧ (vp_in v5 36 ∧ (vp_in v5 36 ∧ (vp_in v5 36 ∧ ((((m.2 7) (Int32.toNatClampNeg v5)) = 0 → (vp_in v5 36 ∧ (p_X9_turnsOver_57 n (setA (setA (setA m 4 (upd (m.2 4) (Int32.toNatClampNeg v5) (((2 * v2) - 1) - ((m.2 4) (Int32.toNatClampNeg v5))))) 6 (upd (m.2 6) (Int32.toNatClampNeg v5) (((2 * v4) + 1) - ((m.2 6) (Int32.toNatClampNeg v5))))) 7 (upd (m.2 7) (Int32.toNatClampNeg v5) 1)) v1 v2 v3 v4 (v5 + 1)))) ∧ (¬ (((m.2 7) (Int32.toNatClampNeg v5)) = 0) → (vp_in v5 36 ∧ (p_X9_turnsOver_57 n (setA (setA (setA m 4 (upd (m.2 4) (Int32.toNatClampNeg v5) (((2 * v2) - 1) - ((m.2 4) (Int32.toNatClampNeg v5))))) 6 (upd (m.2 6) (Int32.toNatClampNeg v5) (((2 * v4) + 1) - ((m.2 6) (Int32.toNatClampNeg v5))))) 7 (upd (m.2 7) (Int32.toNatClampNeg v5) 0)) v1 v2 v3 v4 (v5 + 1))))))))))) ∧ (¬ (v1 = 0) → (vp_in v5 36 ∧ (vp_in v5 36 ∧ (vp_in v5 36 ∧ (vp_in v5 36 ∧ (vp_in v5 36 ∧ ((((m.2 7) (Int32.toNatClampNeg v5)) = 0 → (vp_in v5 36 ∧ (p_X9_turnsOver_57 n (setA (setA (setA m 5 (upd (m.2 5) (Int32.toNatClampNeg v5) (((2 * v2) - 1) - ((m.2 5) (Int32.toNatClampNeg v5))))) 6 (upd (m.2 6) (Int32.toNatClampNeg v5) (((2 * v4) + 1) - ((m.2 6) (Int32.toNatClampNeg v5))))) 7 (upd (m.2 7) (Int32.toNatClampNeg v5) 1)) v1 v2 v3 v4 (v5 + 1)))) ∧ (¬ (((m.2 7) (Int32.toNatClampNeg v5)) = 0) → (vp_in v5 36 ∧ (p_X9_turnsOver_57 n (setA (setA (setA m 5 (upd (m.2 5) (Int32.toNatClampNeg v5) (((2 * v2) - 1) - ((m.2 5) (Int32.toNatClampNeg v5))))) 6 (upd (m.2 6) (Int32.toNatClampNeg v5) (((2 * v4) + 1) - ((m.2 6) (Int32.toNatClampNeg v5))))) 7 (upd (m.2 7) (Int32.toNatClampNeg v5) 0)) v1 v2 v3 v4 (v5 + 1)))))))))))))))))))
set_option maxHeartbeats 16000000 in
set_option maxRecDepth 20000 in
theorem l_X9_turnsOver_57 (sc : SC)   (zq : Rec)  : ∀ (n : Nat) (m : Rec) (v1 : Int32) (v2 : Int32) (v3 : Int32) (v4 : Int32) (v5 : Int32), p_X9_turnsOver_57 n m v1 v2 v3 v4 v5 → zq = f_X9_turnsOver_57 n m v1 v2 v3 v4 v5 → Good sc 2 0 0 17 mX9_turnsOver (Ret none (wM (zq))) 0 0 57 [some (.ref 0), some (.int v1), some (.int v2), some (.int v3), some (.int v4), some (.int v5)] [] (wM m) := by
  intro n
  induction n with
  | zero => intro m v1 v2 v3 v4 v5 hp; exact hp.elim
  | succ n ih =>
    intro m v1 v2 v3 v4 v5 hp hq
    unfold p_X9_turnsOver_57 at hp
    unfold f_X9_turnsOver_57 at hq
    refine g_blk hz0 kX9_turnsOver_57 ?_
    refine ⟨fun c4 => ?_, fun c4 => ?_⟩
    · rw [if_pos (show 36 ≤ v5 from c4)] at hq
      refine g_blk hz0 kX9_turnsOver_181 ?_
      subst hq
      exact ⟨rfl, rfl⟩
    · rw [if_neg (show ¬ (36 ≤ v5) from c4)] at hq
      replace hp := hp.2 c4
      refine g_blk hz0 kX9_turnsOver_64 ?_
      refine cVp [0, 1, 2, 3, 4, 5, 6, 7, 8, 9, 10, 11, 12, 13, 14, 15, 16] (wM m) (s_X9_isCell m v5 hp.1) rfl cwX9_isCell dX9_turnsOver_67 rfl rfl (hm0_M_M _) ?_
      replace hp := hp.2
      refine g_blk hz0 kX9_turnsOver_70 ?_
      refine ⟨fun c5 => ?_, fun c5 => ?_⟩
      · rw [if_pos (show (f_X9_isCell m v5) = 0 from c5)] at hq
        replace hp := hp.1 c5
        refine g_blk hz0 kX9_turnsOver_175 ?_
        refine g_le (L2 := [some (.ref 0), some (.int v1), some (.int v2), some (.int v3), some (.int v4), some (.int (v5 + 1))]) ⟨rfl, rfl, rfl, rfl, rfl, rfl, trivial⟩ ?_
        exact ih m v1 v2 v3 v4 (v5 + 1) hp hq
      · rw [if_neg (show ¬ ((f_X9_isCell m v5) = 0) from c5)] at hq
        replace hp := hp.2 c5
        refine g_blk hz0 kX9_turnsOver_73 ?_
        refine cVp [0, 1, 2, 3, 4, 5, 6, 7, 8, 9, 10, 11, 12, 13, 14, 15, 16] (wM m) (s_X9_moves m v5 v1 v2 v3 hp.1) rfl cwX9_moves dX9_turnsOver_79 rfl rfl (hm0_M_M _) ?_
        replace hp := hp.2
        refine g_blk hz0 kX9_turnsOver_82 ?_
        refine ⟨fun c6 => ?_, fun c6 => ?_⟩
        · rw [if_pos (show (f_X9_moves m v5 v1 v2 v3) = 0 from c6)] at hq
          replace hp := hp.1 c6
          refine g_blk hz0 kX9_turnsOver_175 ?_
          refine g_le (L2 := [some (.ref 0), some (.int v1), some (.int v2), some (.int v3), some (.int v4), some (.int (v5 + 1))]) ⟨rfl, rfl, rfl, rfl, rfl, rfl, trivial⟩ ?_
          exact ih m v1 v2 v3 v4 (v5 + 1) hp hq
        · rw [if_neg (show ¬ ((f_X9_moves m v5 v1 v2 v3) = 0) from c6)] at hq
          replace hp := hp.2 c6
          refine g_blk hz0 kX9_turnsOver_85 ?_
          refine ⟨fun c7 => ?_, fun c7 => ?_⟩
          · rw [if_neg (show ¬ (v1 = 0) from c7)] at hq
            replace hp := hp.2 c7
            refine g_blk hz0 kX9_turnsOver_112 ?_
            refine ⟨hp.1, ?_⟩
            replace hp := hp.2
            refine ⟨hp.1, ?_⟩
            replace hp := hp.2
            refine g_blk hz0 kX9_turnsOver_132 ?_
            refine ⟨hp.1, ?_⟩
            replace hp := hp.2
            refine ⟨hp.1, ?_⟩
            replace hp := hp.2
            refine ⟨hp.1, ?_⟩
            replace hp := hp.2
            refine ⟨fun c9 => ?_, fun c9 => ?_⟩
            · rw [if_neg (show ¬ (((m.2 7) (Int32.toNatClampNeg v5)) = 0) from c9)] at hq
              replace hp := hp.2 c9
              refine g_blk hz0 kX9_turnsOver_173 ?_
              refine g_blk hz0 kX9_turnsOver_174 ?_
              refine ⟨hp.1, ?_⟩
              replace hp := hp.2
              refine ⟨Or.inl rfl, ?_⟩
              refine g_blk hz0 kX9_turnsOver_175 ?_
              refine g_le (L2 := [some (.ref 0), some (.int v1), some (.int v2), some (.int v3), some (.int v4), some (.int (v5 + 1))]) ⟨rfl, rfl, rfl, rfl, rfl, rfl, trivial⟩ ?_
              exact ih (setA (setA (setA m 5 (upd (m.2 5) (Int32.toNatClampNeg v5) (((2 * v2) - 1) - ((m.2 5) (Int32.toNatClampNeg v5))))) 6 (upd (m.2 6) (Int32.toNatClampNeg v5) (((2 * v4) + 1) - ((m.2 6) (Int32.toNatClampNeg v5))))) 7 (upd (m.2 7) (Int32.toNatClampNeg v5) 0)) v1 v2 v3 v4 (v5 + 1) hp hq
            · rw [if_pos (show ((m.2 7) (Int32.toNatClampNeg v5)) = 0 from c9)] at hq
              replace hp := hp.1 c9
              refine g_blk hz0 kX9_turnsOver_169 ?_
              refine g_blk hz0 kX9_turnsOver_174 ?_
              refine ⟨hp.1, ?_⟩
              replace hp := hp.2
              refine ⟨Or.inr rfl, ?_⟩
              refine g_blk hz0 kX9_turnsOver_175 ?_
              refine g_le (L2 := [some (.ref 0), some (.int v1), some (.int v2), some (.int v3), some (.int v4), some (.int (v5 + 1))]) ⟨rfl, rfl, rfl, rfl, rfl, rfl, trivial⟩ ?_
              exact ih (setA (setA (setA m 5 (upd (m.2 5) (Int32.toNatClampNeg v5) (((2 * v2) - 1) - ((m.2 5) (Int32.toNatClampNeg v5))))) 6 (upd (m.2 6) (Int32.toNatClampNeg v5) (((2 * v4) + 1) - ((m.2 6) (Int32.toNatClampNeg v5))))) 7 (upd (m.2 7) (Int32.toNatClampNeg v5) 1)) v1 v2 v3 v4 (v5 + 1) hp hq
          · rw [if_pos (show v1 = 0 from c7)] at hq
            replace hp := hp.1 c7
            refine g_blk hz0 kX9_turnsOver_89 ?_
            refine ⟨hp.1, ?_⟩
            replace hp := hp.2
            refine ⟨hp.1, ?_⟩
            replace hp := hp.2
            refine g_blk hz0 kX9_turnsOver_132 ?_
            refine ⟨hp.1, ?_⟩
            replace hp := hp.2
            refine ⟨hp.1, ?_⟩
            replace hp := hp.2
            refine ⟨hp.1, ?_⟩
            replace hp := hp.2
            refine ⟨fun c8 => ?_, fun c8 => ?_⟩
            · rw [if_neg (show ¬ (((m.2 7) (Int32.toNatClampNeg v5)) = 0) from c8)] at hq
              replace hp := hp.2 c8
              refine g_blk hz0 kX9_turnsOver_173 ?_
              refine g_blk hz0 kX9_turnsOver_174 ?_
              refine ⟨hp.1, ?_⟩
              replace hp := hp.2
              refine ⟨Or.inl rfl, ?_⟩
              refine g_blk hz0 kX9_turnsOver_175 ?_
              refine g_le (L2 := [some (.ref 0), some (.int v1), some (.int v2), some (.int v3), some (.int v4), some (.int (v5 + 1))]) ⟨rfl, rfl, rfl, rfl, rfl, rfl, trivial⟩ ?_
              exact ih (setA (setA (setA m 4 (upd (m.2 4) (Int32.toNatClampNeg v5) (((2 * v2) - 1) - ((m.2 4) (Int32.toNatClampNeg v5))))) 6 (upd (m.2 6) (Int32.toNatClampNeg v5) (((2 * v4) + 1) - ((m.2 6) (Int32.toNatClampNeg v5))))) 7 (upd (m.2 7) (Int32.toNatClampNeg v5) 0)) v1 v2 v3 v4 (v5 + 1) hp hq
            · rw [if_pos (show ((m.2 7) (Int32.toNatClampNeg v5)) = 0 from c8)] at hq
              replace hp := hp.1 c8
              refine g_blk hz0 kX9_turnsOver_169 ?_
              refine g_blk hz0 kX9_turnsOver_174 ?_
              refine ⟨hp.1, ?_⟩
              replace hp := hp.2
              refine ⟨Or.inr rfl, ?_⟩
              refine g_blk hz0 kX9_turnsOver_175 ?_
              refine g_le (L2 := [some (.ref 0), some (.int v1), some (.int v2), some (.int v3), some (.int v4), some (.int (v5 + 1))]) ⟨rfl, rfl, rfl, rfl, rfl, rfl, trivial⟩ ?_
              exact ih (setA (setA (setA m 4 (upd (m.2 4) (Int32.toNatClampNeg v5) (((2 * v2) - 1) - ((m.2 4) (Int32.toNatClampNeg v5))))) 6 (upd (m.2 6) (Int32.toNatClampNeg v5) (((2 * v4) + 1) - ((m.2 6) (Int32.toNatClampNeg v5))))) 7 (upd (m.2 7) (Int32.toNatClampNeg v5) 1)) v1 v2 v3 v4 (v5 + 1) hp hq
def f_X9_turnsOver_6  : Nat → Rec → Int32 → Int32 → Int32 → Int32 → Int32 → Rec
  | 0, m, v1, v2, v3, v4, v5 => m
  | n + 1, m, v1, v2, v3, v4, v5 => if 36 ≤ v5 then (f_X9_turnsOver_57 40 m v1 v2 v3 v4 0) else (if (f_X9_isCell m v5) = 0 then (f_X9_turnsOver_6 n m v1 v2 v3 v4 (v5 + 1)) else (if ((m.2 6) (Int32.toNatClampNeg v5)) ≤ v4 then (f_X9_turnsOver_6 n m v1 v2 v3 v4 (v5 + 1)) else (f_X9_turnsOver_6 n m v1 v2 v3 ((m.2 6) (Int32.toNatClampNeg v5)) (v5 + 1))))
def p_X9_turnsOver_6  : Nat → Rec → Int32 → Int32 → Int32 → Int32 → Int32 → Prop
  | 0, _, _, _, _, _, _ => False
  | n + 1, m, v1, v2, v3, v4, v5 => (36 ≤ v5 → (p_X9_turnsOver_57 40 m v1 v2 v3 v4 0)) ∧ (¬ (36 ≤ v5) → ((p_X9_isCell m v5) ∧ (((f_X9_isCell m v5) = 0 → (p_X9_turnsOver_6 n m v1 v2 v3 v4 (v5 + 1))) ∧ (¬ ((f_X9_isCell m v5) = 0) → (vp_in v5 36 ∧ ((((m.2 6) (Int32.toNatClampNeg v5)) ≤ v4 → (p_X9_turnsOver_6 n m v1 v2 v3 v4 (v5 + 1))) ∧ (¬ (((m.2 6) (Int32.toNatClampNeg v5)) ≤ v4) → (vp_in v5 36 ∧ (p_X9_turnsOver_6 n m v1 v2 v3 ((m.2 6) (Int32.toNatClampNeg v5)) (v5 + 1))))))))))
set_option maxHeartbeats 16000000 in
set_option maxRecDepth 20000 in
theorem l_X9_turnsOver_6 (sc : SC)   (zq : Rec)  : ∀ (n : Nat) (m : Rec) (v1 : Int32) (v2 : Int32) (v3 : Int32) (v4 : Int32) (v5 : Int32), p_X9_turnsOver_6 n m v1 v2 v3 v4 v5 → zq = f_X9_turnsOver_6 n m v1 v2 v3 v4 v5 → Good sc 2 0 0 17 mX9_turnsOver (Ret none (wM (zq))) 0 0 6 [some (.ref 0), some (.int v1), some (.int v2), some (.int v3), some (.int v4), some (.int v5)] [] (wM m) := by
  intro n
  induction n with
  | zero => intro m v1 v2 v3 v4 v5 hp; exact hp.elim
  | succ n ih =>
    intro m v1 v2 v3 v4 v5 hp hq
    unfold p_X9_turnsOver_6 at hp
    unfold f_X9_turnsOver_6 at hq
    refine g_blk hz0 kX9_turnsOver_6 ?_
    refine ⟨fun c1 => ?_, fun c1 => ?_⟩
    · rw [if_pos (show 36 ≤ v5 from c1)] at hq
      replace hp := hp.1 c1
      refine g_blk hz0 kX9_turnsOver_54 ?_
      refine g_le (L2 := [some (.ref 0), some (.int v1), some (.int v2), some (.int v3), some (.int v4), some (.int 0)]) ⟨rfl, rfl, rfl, rfl, rfl, rfl, trivial⟩ ?_
      exact l_X9_turnsOver_57 sc zq 40 m v1 v2 v3 v4 0 hp hq
    · rw [if_neg (show ¬ (36 ≤ v5) from c1)] at hq
      replace hp := hp.2 c1
      refine g_blk hz0 kX9_turnsOver_13 ?_
      refine cVp [0, 1, 2, 3, 4, 5, 6, 7, 8, 9, 10, 11, 12, 13, 14, 15, 16] (wM m) (s_X9_isCell m v5 hp.1) rfl cwX9_isCell dX9_turnsOver_16 rfl rfl (hm0_M_M _) ?_
      replace hp := hp.2
      refine g_blk hz0 kX9_turnsOver_19 ?_
      refine ⟨fun c2 => ?_, fun c2 => ?_⟩
      · rw [if_pos (show (f_X9_isCell m v5) = 0 from c2)] at hq
        replace hp := hp.1 c2
        refine g_blk hz0 kX9_turnsOver_44 ?_
        refine g_blk hz0 kX9_turnsOver_46 ?_
        refine g_le (L2 := [some (.ref 0), some (.int v1), some (.int v2), some (.int v3), some (.int v4), some (.int (v5 + 1))]) ⟨rfl, rfl, rfl, rfl, rfl, rfl, trivial⟩ ?_
        exact ih m v1 v2 v3 v4 (v5 + 1) hp hq
      · rw [if_neg (show ¬ ((f_X9_isCell m v5) = 0) from c2)] at hq
        replace hp := hp.2 c2
        refine g_blk hz0 kX9_turnsOver_22 ?_
        refine ⟨hp.1, ?_⟩
        replace hp := hp.2
        refine ⟨fun c3 => ?_, fun c3 => ?_⟩
        · rw [if_pos (show ((m.2 6) (Int32.toNatClampNeg v5)) ≤ v4 from c3)] at hq
          replace hp := hp.1 c3
          refine g_blk hz0 kX9_turnsOver_44 ?_
          refine g_blk hz0 kX9_turnsOver_46 ?_
          refine g_le (L2 := [some (.ref 0), some (.int v1), some (.int v2), some (.int v3), some (.int v4), some (.int (v5 + 1))]) ⟨rfl, rfl, rfl, rfl, rfl, rfl, trivial⟩ ?_
          exact ih m v1 v2 v3 v4 (v5 + 1) hp hq
        · rw [if_neg (show ¬ (((m.2 6) (Int32.toNatClampNeg v5)) ≤ v4) from c3)] at hq
          replace hp := hp.2 c3
          refine g_blk hz0 kX9_turnsOver_34 ?_
          refine ⟨hp.1, ?_⟩
          replace hp := hp.2
          refine g_blk hz0 kX9_turnsOver_46 ?_
          refine g_le (L2 := [some (.ref 0), some (.int v1), some (.int v2), some (.int v3), some (.int ((m.2 6) (Int32.toNatClampNeg v5))), some (.int (v5 + 1))]) ⟨rfl, rfl, rfl, rfl, rfl, rfl, trivial⟩ ?_
          exact ih m v1 v2 v3 ((m.2 6) (Int32.toNatClampNeg v5)) (v5 + 1) hp hq
def f_X9_turnsOver (m : Rec) (a : Int32) (l : Int32) (w : Int32) : Rec := (f_X9_turnsOver_6 40 m a l w 0 0)
def p_X9_turnsOver (m : Rec) (a : Int32) (l : Int32) (w : Int32) : Prop := (p_X9_turnsOver_6 40 m a l w 0 0)
set_option maxHeartbeats 16000000 in
set_option maxRecDepth 20000 in
theorem s_X9_turnsOver (m : Rec) (a : Int32) (l : Int32) (w : Int32) (hp : p_X9_turnsOver m a l w) : Spec 2 0 0 mX9_turnsOver [.ref 0, .int a, .int l, .int w] (wM m) (Ret none (wM ((f_X9_turnsOver m a l w)))) := by
  obtain ⟨zq, hq⟩ : ∃ z, z = (f_X9_turnsOver m a l w) := ⟨_, rfl⟩
  rw [← hq]
  unfold f_X9_turnsOver at hq
  unfold p_X9_turnsOver at hp
  refine Sof fun sc => ?_
  refine g_blk hz0 kX9_turnsOver_0 ?_
  refine g_le (L2 := [some (.ref 0), some (.int a), some (.int l), some (.int w), some (.int 0), some (.int 0)]) ⟨rfl, rfl, rfl, rfl, rfl, rfl, trivial⟩ ?_
  exact l_X9_turnsOver_6 sc zq 40 m a l w 0 0 hp hq

def f_X9_lays_6  : Nat → Rec → Int32 → Rec
  | 0, m, v1 => m
  | n + 1, m, v1 => if ((m.2 0) 16) ≤ v1 then m else (f_X9_lays_6 n (f_X9_turnsOver m ((m.2 0) (Int32.toNatClampNeg (17 + (3 * v1)))) ((m.2 0) (Int32.toNatClampNeg ((17 + (3 * v1)) + 1))) ((m.2 0) (Int32.toNatClampNeg ((17 + (3 * v1)) + 2)))) (v1 + 1))
def p_X9_lays_6  : Nat → Rec → Int32 → Prop
  | 0, _, _ => False
  | n + 1, m, v1 => (((m.2 0) 16) ≤ v1 → True) ∧ (¬ (((m.2 0) 16) ≤ v1) → (vp_in (17 + (3 * v1)) 248 ∧ (vp_in ((17 + (3 * v1)) + 1) 248 ∧ (vp_in ((17 + (3 * v1)) + 2) 248 ∧ ((p_X9_turnsOver m ((m.2 0) (Int32.toNatClampNeg (17 + (3 * v1)))) ((m.2 0) (Int32.toNatClampNeg ((17 + (3 * v1)) + 1))) ((m.2 0) (Int32.toNatClampNeg ((17 + (3 * v1)) + 2)))) ∧ (p_X9_lays_6 n (f_X9_turnsOver m ((m.2 0) (Int32.toNatClampNeg (17 + (3 * v1)))) ((m.2 0) (Int32.toNatClampNeg ((17 + (3 * v1)) + 1))) ((m.2 0) (Int32.toNatClampNeg ((17 + (3 * v1)) + 2)))) (v1 + 1)))))))
set_option maxHeartbeats 16000000 in
set_option maxRecDepth 20000 in
theorem l_X9_lays_6 (sc : SC)   (zq : Rec)  : ∀ (n : Nat) (m : Rec) (v1 : Int32), p_X9_lays_6 n m v1 → zq = f_X9_lays_6 n m v1 → Good sc 3 0 0 17 mX9_lays (Ret none (wM (zq))) 0 0 6 [some (.ref 0), some (.int v1)] [] (wM m) := by
  intro n
  induction n with
  | zero => intro m v1 hp; exact hp.elim
  | succ n ih =>
    intro m v1 hp hq
    unfold p_X9_lays_6 at hp
    unfold f_X9_lays_6 at hq
    refine g_blk hz0 kX9_lays_6 ?_
    refine ⟨vinL (by decide), ?_⟩
    refine ⟨fun c1 => ?_, fun c1 => ?_⟩
    · rw [if_pos (show ((m.2 0) 16) ≤ v1 from c1)] at hq
      refine g_blk hz0 kX9_lays_64 ?_
      subst hq
      exact ⟨rfl, rfl⟩
    · rw [if_neg (show ¬ (((m.2 0) 16) ≤ v1) from c1)] at hq
      replace hp := hp.2 c1
      refine g_blk hz0 kX9_lays_17 ?_
      refine ⟨hp.1, ?_⟩
      replace hp := hp.2
      refine ⟨hp.1, ?_⟩
      replace hp := hp.2
      refine ⟨hp.1, ?_⟩
      replace hp := hp.2
      refine cV [0, 1, 2, 3, 4, 5, 6, 7, 8, 9, 10, 11, 12, 13, 14, 15, 16] (wM m) (s_X9_turnsOver m ((m.2 0) (Int32.toNatClampNeg (17 + (3 * v1)))) ((m.2 0) (Int32.toNatClampNeg ((17 + (3 * v1)) + 1))) ((m.2 0) (Int32.toNatClampNeg ((17 + (3 * v1)) + 2))) hp.1) rfl cwX9_turnsOver dX9_lays_55 rfl rfl (hm0_M_M _) rfl (wM (f_X9_turnsOver m ((m.2 0) (Int32.toNatClampNeg (17 + (3 * v1)))) ((m.2 0) (Int32.toNatClampNeg ((17 + (3 * v1)) + 1))) ((m.2 0) (Int32.toNatClampNeg ((17 + (3 * v1)) + 2))))) (pw0_M_M _ _) ?_
      replace hp := hp.2
      refine g_blk hz0 kX9_lays_58 ?_
      refine g_le (L2 := [some (.ref 0), some (.int (v1 + 1))]) ⟨rfl, rfl, trivial⟩ ?_
      exact ih (f_X9_turnsOver m ((m.2 0) (Int32.toNatClampNeg (17 + (3 * v1)))) ((m.2 0) (Int32.toNatClampNeg ((17 + (3 * v1)) + 1))) ((m.2 0) (Int32.toNatClampNeg ((17 + (3 * v1)) + 2)))) (v1 + 1) hp hq
def f_X9_lays (m : Rec)  : Rec := (f_X9_lays_6 40 (f_X9_flat m) 0)
def p_X9_lays (m : Rec)  : Prop := (p_X9_flat m) ∧ (p_X9_lays_6 40 (f_X9_flat m) 0)
set_option maxHeartbeats 16000000 in
set_option maxRecDepth 20000 in
theorem s_X9_lays (m : Rec)  (hp : p_X9_lays m) : Spec 3 0 0 mX9_lays [.ref 0] (wM m) (Ret none (wM ((f_X9_lays m)))) := by
  obtain ⟨zq, hq⟩ : ∃ z, z = (f_X9_lays m) := ⟨_, rfl⟩
  rw [← hq]
  unfold f_X9_lays at hq
  unfold p_X9_lays at hp
  refine Sof fun sc => ?_
  refine g_blk hz0 kX9_lays_0 ?_
  refine cV [0, 1, 2, 3, 4, 5, 6, 7, 8, 9, 10, 11, 12, 13, 14, 15, 16] (wM m) (s_X9_flat m hp.1) rfl cwX9_flat dX9_lays_1 rfl rfl (hm0_M_M _) rfl (wM (f_X9_flat m)) (pw0_M_M _ _) ?_
  replace hp := hp.2
  refine g_blk hz0 kX9_lays_4 ?_
  refine g_le (L2 := [some (.ref 0), some (.int 0)]) ⟨rfl, rfl, trivial⟩ ?_
  exact l_X9_lays_6 sc zq 40 (f_X9_flat m) 0 hp hq

def f_X9_end_36 (K8 : Rec → Int32 → Int32 → Int32 → Int32 → Int32 → Int32) (m : Rec) (v1 : Int32) (v2 : Int32) (v3 : Int32) (v4 : Int32) (v5 : Int32) (u0 : Int32) : Int32 := if (f_X9_isCell m v5) = 0 then (K8 m v1 v2 v3 v4 (v5 + 1)) else (if v4 = 0 then (K8 m v1 v2 u0 1 (v5 + 1)) else (if v2 = 0 then (if v3 ≤ u0 then (K8 m v1 v2 v3 v4 (v5 + 1)) else (K8 m v1 v2 u0 1 (v5 + 1))) else (if u0 ≤ v3 then (K8 m v1 v2 v3 v4 (v5 + 1)) else (K8 m v1 v2 u0 1 (v5 + 1)))))
def p_X9_end_36 (G8 : Rec → Int32 → Int32 → Int32 → Int32 → Int32 → Prop) (m : Rec) (v1 : Int32) (v2 : Int32) (v3 : Int32) (v4 : Int32) (v5 : Int32) (u0 : Int32) : Prop := (p_X9_isCell m v5) ∧ (((f_X9_isCell m v5) = 0 → (G8 m v1 v2 v3 v4 (v5 + 1))) ∧ (¬ ((f_X9_isCell m v5) = 0) → ((v4 = 0 → (G8 m v1 v2 u0 1 (v5 + 1))) ∧ (¬ (v4 = 0) → ((v2 = 0 → ((v3 ≤ u0 → (G8 m v1 v2 v3 v4 (v5 + 1))) ∧ (¬ (v3 ≤ u0) → (G8 m v1 v2 u0 1 (v5 + 1))))) ∧ (¬ (v2 = 0) → ((u0 ≤ v3 → (G8 m v1 v2 v3 v4 (v5 + 1))) ∧ (¬ (u0 ≤ v3) → (G8 m v1 v2 u0 1 (v5 + 1))))))))))
set_option maxHeartbeats 16000000 in
set_option maxRecDepth 20000 in
theorem l_X9_end_36 (sc : SC) (m : Rec) {K8 : Rec → Int32 → Int32 → Int32 → Int32 → Int32 → Int32} {G8 : Rec → Int32 → Int32 → Int32 → Int32 → Int32 → Prop} (zq : Int32) (hK8 : ∀ (v1 : Int32) (v2 : Int32) (v3 : Int32) (v4 : Int32) (v5 : Int32), G8 m v1 v2 v3 v4 v5 → zq = K8 m v1 v2 v3 v4 v5 → Good sc 2 0 0 17 mX9_end (Ret (some (.int (zq))) (wM m)) 0 0 8 [some (.ref 0), some (.int v1), some (.int v2), some (.int v3), some (.int v4), some (.int v5), none] [] (wM m))  (v1 : Int32) (v2 : Int32) (v3 : Int32) (v4 : Int32) (v5 : Int32) (u0 : Int32) (hp : p_X9_end_36 G8 m v1 v2 v3 v4 v5 u0) (hq : zq = f_X9_end_36 K8 m v1 v2 v3 v4 v5 u0) : Good sc 2 0 0 17 mX9_end (Ret (some (.int (zq))) (wM m)) 0 0 36 [some (.ref 0), some (.int v1), some (.int v2), some (.int v3), some (.int v4), some (.int v5), none] [.int u0] (wM m) := by
  unfold p_X9_end_36 at hp
  unfold f_X9_end_36 at hq
  refine g_blk hz0 kX9_end_36 ?_
  refine cVp [0, 1, 2, 3, 4, 5, 6, 7, 8, 9, 10, 11, 12, 13, 14, 15, 16] (wM m) (s_X9_isCell m v5 hp.1) rfl cwX9_isCell dX9_end_41 rfl rfl (hm0_M_M _) ?_
  replace hp := hp.2
  refine g_blk hz0 kX9_end_44 ?_
  refine ⟨fun c3 => ?_, fun c3 => ?_⟩
  · rw [if_pos (show (f_X9_isCell m v5) = 0 from c3)] at hq
    replace hp := hp.1 c3
    refine g_blk hz0 kX9_end_77 ?_
    refine g_le (L2 := [some (.ref 0), some (.int v1), some (.int v2), some (.int v3), some (.int v4), some (.int (v5 + 1)), none]) ⟨rfl, rfl, rfl, rfl, rfl, rfl, trivial⟩ ?_
    exact hK8 v1 v2 v3 v4 (v5 + 1) hp hq
  · rw [if_neg (show ¬ ((f_X9_isCell m v5) = 0) from c3)] at hq
    replace hp := hp.2 c3
    refine g_blk hz0 kX9_end_47 ?_
    refine ⟨fun c4 => ?_, fun c4 => ?_⟩
    · rw [if_pos (show v4 = 0 from c4)] at hq
      replace hp := hp.1 c4
      refine g_blk hz0 kX9_end_71 ?_
      refine g_blk hz0 kX9_end_77 ?_
      refine g_le (L2 := [some (.ref 0), some (.int v1), some (.int v2), some (.int u0), some (.int 1), some (.int (v5 + 1)), none]) ⟨rfl, rfl, rfl, rfl, rfl, rfl, trivial⟩ ?_
      exact hK8 v1 v2 u0 1 (v5 + 1) hp hq
    · rw [if_neg (show ¬ (v4 = 0) from c4)] at hq
      replace hp := hp.2 c4
      refine g_blk hz0 kX9_end_52 ?_
      refine ⟨fun c5 => ?_, fun c5 => ?_⟩
      · rw [if_pos (show v2 = 0 from c5)] at hq
        replace hp := hp.1 c5
        refine g_blk hz0 kX9_end_65 ?_
        refine ⟨fun c6 => ?_, fun c6 => ?_⟩
        · rw [if_pos (show v3 ≤ u0 from c6)] at hq
          replace hp := hp.1 c6
          refine g_blk hz0 kX9_end_77 ?_
          refine g_le (L2 := [some (.ref 0), some (.int v1), some (.int v2), some (.int v3), some (.int v4), some (.int (v5 + 1)), none]) ⟨rfl, rfl, rfl, rfl, rfl, rfl, trivial⟩ ?_
          exact hK8 v1 v2 v3 v4 (v5 + 1) hp hq
        · rw [if_neg (show ¬ (v3 ≤ u0) from c6)] at hq
          replace hp := hp.2 c6
          refine g_blk hz0 kX9_end_71 ?_
          refine g_blk hz0 kX9_end_77 ?_
          refine g_le (L2 := [some (.ref 0), some (.int v1), some (.int v2), some (.int u0), some (.int 1), some (.int (v5 + 1)), none]) ⟨rfl, rfl, rfl, rfl, rfl, rfl, trivial⟩ ?_
          exact hK8 v1 v2 u0 1 (v5 + 1) hp hq
      · rw [if_neg (show ¬ (v2 = 0) from c5)] at hq
        replace hp := hp.2 c5
        refine g_blk hz0 kX9_end_56 ?_
        refine ⟨fun c7 => ?_, fun c7 => ?_⟩
        · rw [if_pos (show u0 ≤ v3 from c7)] at hq
          replace hp := hp.1 c7
          refine g_blk hz0 kX9_end_77 ?_
          refine g_le (L2 := [some (.ref 0), some (.int v1), some (.int v2), some (.int v3), some (.int v4), some (.int (v5 + 1)), none]) ⟨rfl, rfl, rfl, rfl, rfl, rfl, trivial⟩ ?_
          exact hK8 v1 v2 v3 v4 (v5 + 1) hp hq
        · rw [if_neg (show ¬ (u0 ≤ v3) from c7)] at hq
          replace hp := hp.2 c7
          refine g_blk hz0 kX9_end_62 ?_
          refine g_blk hz0 kX9_end_71 ?_
          refine g_blk hz0 kX9_end_77 ?_
          refine g_le (L2 := [some (.ref 0), some (.int v1), some (.int v2), some (.int u0), some (.int 1), some (.int (v5 + 1)), none]) ⟨rfl, rfl, rfl, rfl, rfl, rfl, trivial⟩ ?_
          exact hK8 v1 v2 u0 1 (v5 + 1) hp hq
def f_X9_end_8  : Nat → Rec → Int32 → Int32 → Int32 → Int32 → Int32 → Int32
  | 0, m, v1, v2, v3, v4, v5 => 0
  | n + 1, m, v1, v2, v3, v4, v5 => if 36 ≤ v5 then v3 else (if v1 = 0 then (f_X9_end_36 (f_X9_end_8 n) m v1 v2 v3 v4 v5 ((m.2 4) (Int32.toNatClampNeg v5))) else (f_X9_end_36 (f_X9_end_8 n) m v1 v2 v3 v4 v5 ((m.2 5) (Int32.toNatClampNeg v5))))
def p_X9_end_8  : Nat → Rec → Int32 → Int32 → Int32 → Int32 → Int32 → Prop
  | 0, _, _, _, _, _, _ => False
  | n + 1, m, v1, v2, v3, v4, v5 => (36 ≤ v5 → True) ∧ (¬ (36 ≤ v5) → ((v1 = 0 → (vp_in v5 36 ∧ (p_X9_end_36 (p_X9_end_8 n) m v1 v2 v3 v4 v5 ((m.2 4) (Int32.toNatClampNeg v5))))) ∧ (¬ (v1 = 0) → (vp_in v5 36 ∧ (p_X9_end_36 (p_X9_end_8 n) m v1 v2 v3 v4 v5 ((m.2 5) (Int32.toNatClampNeg v5)))))))
set_option maxHeartbeats 16000000 in
set_option maxRecDepth 20000 in
theorem l_X9_end_8 (sc : SC) (m : Rec)  (zq : Int32)  : ∀ (n : Nat)  (v1 : Int32) (v2 : Int32) (v3 : Int32) (v4 : Int32) (v5 : Int32), p_X9_end_8 n m v1 v2 v3 v4 v5 → zq = f_X9_end_8 n m v1 v2 v3 v4 v5 → Good sc 2 0 0 17 mX9_end (Ret (some (.int (zq))) (wM m)) 0 0 8 [some (.ref 0), some (.int v1), some (.int v2), some (.int v3), some (.int v4), some (.int v5), none] [] (wM m) := by
  intro n
  induction n with
  | zero => intro v1 v2 v3 v4 v5 hp; exact hp.elim
  | succ n ih =>
    intro v1 v2 v3 v4 v5 hp hq
    unfold p_X9_end_8 at hp
    unfold f_X9_end_8 at hq
    refine g_blk hz0 kX9_end_8 ?_
    refine ⟨fun c1 => ?_, fun c1 => ?_⟩
    · rw [if_pos (show 36 ≤ v5 from c1)] at hq
      refine g_blk hz0 kX9_end_83 ?_
      subst hq
      exact ⟨fun h => (by cases h), rfl, rfl⟩
    · rw [if_neg (show ¬ (36 ≤ v5) from c1)] at hq
      replace hp := hp.2 c1
      refine g_blk hz0 kX9_end_15 ?_
      refine ⟨fun c2 => ?_, fun c2 => ?_⟩
      · rw [if_neg (show ¬ (v1 = 0) from c2)] at hq
        replace hp := hp.2 c2
        refine g_blk hz0 kX9_end_29 ?_
        refine ⟨hp.1, ?_⟩
        replace hp := hp.2
        refine g_le (L2 := [some (.ref 0), some (.int v1), some (.int v2), some (.int v3), some (.int v4), some (.int v5), none]) ⟨rfl, rfl, rfl, rfl, rfl, rfl, trivial⟩ ?_
        exact l_X9_end_36 sc m zq (fun r0 r1 r2 r3 r4 hp hq => ih r0 r1 r2 r3 r4 hp hq) v1 v2 v3 v4 v5 ((m.2 5) (Int32.toNatClampNeg v5)) hp hq
      · rw [if_pos (show v1 = 0 from c2)] at hq
        replace hp := hp.1 c2
        refine g_blk hz0 kX9_end_19 ?_
        refine ⟨hp.1, ?_⟩
        replace hp := hp.2
        refine g_le (L2 := [some (.ref 0), some (.int v1), some (.int v2), some (.int v3), some (.int v4), some (.int v5), none]) ⟨rfl, rfl, rfl, rfl, rfl, rfl, trivial⟩ ?_
        exact l_X9_end_36 sc m zq (fun r0 r1 r2 r3 r4 hp hq => ih r0 r1 r2 r3 r4 hp hq) v1 v2 v3 v4 v5 ((m.2 4) (Int32.toNatClampNeg v5)) hp hq
def f_X9_end (m : Rec) (a : Int32) (g : Int32) : Int32 := (f_X9_end_8 40 m a g 0 0 0)
def p_X9_end (m : Rec) (a : Int32) (g : Int32) : Prop := (p_X9_end_8 40 m a g 0 0 0)
set_option maxHeartbeats 16000000 in
set_option maxRecDepth 20000 in
theorem s_X9_end (m : Rec) (a : Int32) (g : Int32) (hp : p_X9_end m a g) : Spec 2 0 0 mX9_end [.ref 0, .int a, .int g] (wM m) (Ret (some (.int ((f_X9_end m a g)))) (wM m)) := by
  obtain ⟨zq, hq⟩ : ∃ z, z = (f_X9_end m a g) := ⟨_, rfl⟩
  rw [← hq]
  unfold f_X9_end at hq
  unfold p_X9_end at hp
  refine Sof fun sc => ?_
  refine g_blk hz0 kX9_end_0 ?_
  refine g_le (L2 := [some (.ref 0), some (.int a), some (.int g), some (.int 0), some (.int 0), some (.int 0), none]) ⟨rfl, rfl, rfl, rfl, rfl, rfl, trivial⟩ ?_
  exact l_X9_end_8 sc m zq 40 a g 0 0 0 hp hq

def f_X9_many_4  : Nat → Rec → Int32 → Int32 → Int32
  | 0, m, v1, v2 => 0
  | n + 1, m, v1, v2 => if 36 ≤ v2 then v1 else (if (f_X9_isCell m v2) = 0 then (f_X9_many_4 n m (v1 + 0) (v2 + 1)) else (f_X9_many_4 n m (v1 + 1) (v2 + 1)))
def p_X9_many_4  : Nat → Rec → Int32 → Int32 → Prop
  | 0, _, _, _ => False
  | n + 1, m, v1, v2 => (36 ≤ v2 → True) ∧ (¬ (36 ≤ v2) → ((p_X9_isCell m v2) ∧ (((f_X9_isCell m v2) = 0 → (p_X9_many_4 n m (v1 + 0) (v2 + 1))) ∧ (¬ ((f_X9_isCell m v2) = 0) → (p_X9_many_4 n m (v1 + 1) (v2 + 1))))))
set_option maxHeartbeats 16000000 in
set_option maxRecDepth 20000 in
theorem l_X9_many_4 (sc : SC) (m : Rec)  (zq : Int32)  : ∀ (n : Nat)  (v1 : Int32) (v2 : Int32), p_X9_many_4 n m v1 v2 → zq = f_X9_many_4 n m v1 v2 → Good sc 2 0 0 17 mX9_many (Ret (some (.int (zq))) (wM m)) 0 0 4 [some (.ref 0), some (.int v1), some (.int v2)] [] (wM m) := by
  intro n
  induction n with
  | zero => intro v1 v2 hp; exact hp.elim
  | succ n ih =>
    intro v1 v2 hp hq
    unfold p_X9_many_4 at hp
    unfold f_X9_many_4 at hq
    refine g_blk hz0 kX9_many_4 ?_
    refine ⟨fun c1 => ?_, fun c1 => ?_⟩
    · rw [if_pos (show 36 ≤ v2 from c1)] at hq
      refine g_blk hz0 kX9_many_32 ?_
      subst hq
      exact ⟨fun h => (by cases h), rfl, rfl⟩
    · rw [if_neg (show ¬ (36 ≤ v2) from c1)] at hq
      replace hp := hp.2 c1
      refine g_blk hz0 kX9_many_10 ?_
      refine cVp [0, 1, 2, 3, 4, 5, 6, 7, 8, 9, 10, 11, 12, 13, 14, 15, 16] (wM m) (s_X9_isCell m v2 hp.1) rfl cwX9_isCell dX9_many_13 rfl rfl (hm0_M_M _) ?_
      replace hp := hp.2
      refine g_blk hz0 kX9_many_16 ?_
      refine ⟨fun c2 => ?_, fun c2 => ?_⟩
      · rw [if_pos (show (f_X9_isCell m v2) = 0 from c2)] at hq
        replace hp := hp.1 c2
        refine g_blk hz0 kX9_many_23 ?_
        refine g_blk hz0 kX9_many_24 ?_
        refine g_le (L2 := [some (.ref 0), some (.int (v1 + 0)), some (.int (v2 + 1))]) ⟨rfl, rfl, rfl, trivial⟩ ?_
        exact ih (v1 + 0) (v2 + 1) hp hq
      · rw [if_neg (show ¬ ((f_X9_isCell m v2) = 0) from c2)] at hq
        replace hp := hp.2 c2
        refine g_blk hz0 kX9_many_19 ?_
        refine g_blk hz0 kX9_many_24 ?_
        refine g_le (L2 := [some (.ref 0), some (.int (v1 + 1)), some (.int (v2 + 1))]) ⟨rfl, rfl, rfl, trivial⟩ ?_
        exact ih (v1 + 1) (v2 + 1) hp hq
def f_X9_many (m : Rec)  : Int32 := (f_X9_many_4 40 m 0 0)
def p_X9_many (m : Rec)  : Prop := (p_X9_many_4 40 m 0 0)
set_option maxHeartbeats 16000000 in
set_option maxRecDepth 20000 in
theorem s_X9_many (m : Rec)  (hp : p_X9_many m) : Spec 2 0 0 mX9_many [.ref 0] (wM m) (Ret (some (.int ((f_X9_many m)))) (wM m)) := by
  obtain ⟨zq, hq⟩ : ∃ z, z = (f_X9_many m) := ⟨_, rfl⟩
  rw [← hq]
  unfold f_X9_many at hq
  unfold p_X9_many at hp
  refine Sof fun sc => ?_
  refine g_blk hz0 kX9_many_0 ?_
  refine g_le (L2 := [some (.ref 0), some (.int 0), some (.int 0)]) ⟨rfl, rfl, rfl, trivial⟩ ?_
  exact l_X9_many_4 sc m zq 40 0 0 hp hq

def f_X9_board_88  : Nat → Rec → Int32 → Int32 → Int32 → Int32 × Rec
  | 0, m, v1, v2, v3 => (0, m)
  | n + 1, m, v1, v2, v3 => if 36 ≤ v3 then ((v1 * v2), m) else (f_X9_board_88 n (setA m 0 (upd (m.2 0) (Int32.toNatClampNeg (52 + v3)) 0)) v1 v2 (v3 + 1))
def p_X9_board_88  : Nat → Rec → Int32 → Int32 → Int32 → Prop
  | 0, _, _, _, _ => False
  | n + 1, m, v1, v2, v3 => (36 ≤ v3 → True) ∧ (¬ (36 ≤ v3) → (vp_in (52 + v3) 248 ∧ (p_X9_board_88 n (setA m 0 (upd (m.2 0) (Int32.toNatClampNeg (52 + v3)) 0)) v1 v2 (v3 + 1))))
set_option maxHeartbeats 16000000 in
set_option maxRecDepth 20000 in
theorem l_X9_board_88 (sc : SC)   (zq : Int32 × Rec)  : ∀ (n : Nat) (m : Rec) (v1 : Int32) (v2 : Int32) (v3 : Int32), p_X9_board_88 n m v1 v2 v3 → zq = f_X9_board_88 n m v1 v2 v3 → Good sc 2 0 0 17 mX9_board (Ret (some (.int (zq.1))) (wM (zq.2))) 0 0 88 [some (.ref 0), some (.int v1), some (.int v2), some (.int v3)] [] (wM m) := by
  intro n
  induction n with
  | zero => intro m v1 v2 v3 hp; exact hp.elim
  | succ n ih =>
    intro m v1 v2 v3 hp hq
    unfold p_X9_board_88 at hp
    unfold f_X9_board_88 at hq
    refine g_blk hz0 kX9_board_88 ?_
    refine ⟨fun c3 => ?_, fun c3 => ?_⟩
    · rw [if_pos (show 36 ≤ v3 from c3)] at hq
      refine g_blk hz0 kX9_board_110 ?_
      subst hq
      exact ⟨fun h => (by cases h), rfl, rfl⟩
    · rw [if_neg (show ¬ (36 ≤ v3) from c3)] at hq
      replace hp := hp.2 c3
      refine g_blk hz0 kX9_board_94 ?_
      refine ⟨hp.1, ?_⟩
      replace hp := hp.2
      refine g_le (L2 := [some (.ref 0), some (.int v1), some (.int v2), some (.int (v3 + 1))]) ⟨rfl, rfl, rfl, rfl, trivial⟩ ?_
      exact ih (setA m 0 (upd (m.2 0) (Int32.toNatClampNeg (52 + v3)) 0)) v1 v2 (v3 + 1) hp hq
def f_X9_board (m : Rec) (w : Int32) (h : Int32) : Int32 × Rec := if (f_X9_in (Int32.toInt64 w) 2 6) = 0 then (((f_X9_bad m).1), ((f_X9_bad m).2)) else (if (f_X9_in (Int32.toInt64 h) 2 6) = 0 then (((f_X9_bad m).1), ((f_X9_bad m).2)) else (f_X9_board_88 40 (setA m 0 (upd (upd (upd (upd (upd (upd (upd (m.2 0) 0 w) 1 h) 2 0) 6 0) 16 0) 26 0) 27 0)) w h 0))
def p_X9_board (m : Rec) (w : Int32) (h : Int32) : Prop := ((f_X9_in (Int32.toInt64 w) 2 6) = 0 → ((p_X9_bad m) ∧ True)) ∧ (¬ ((f_X9_in (Int32.toInt64 w) 2 6) = 0) → (((f_X9_in (Int32.toInt64 h) 2 6) = 0 → ((p_X9_bad m) ∧ True)) ∧ (¬ ((f_X9_in (Int32.toInt64 h) 2 6) = 0) → (p_X9_board_88 40 (setA m 0 (upd (upd (upd (upd (upd (upd (upd (m.2 0) 0 w) 1 h) 2 0) 6 0) 16 0) 26 0) 27 0)) w h 0))))
set_option maxHeartbeats 16000000 in
set_option maxRecDepth 20000 in
theorem s_X9_board (m : Rec) (w : Int32) (h : Int32) (hp : p_X9_board m w h) : Spec 2 0 0 mX9_board [.ref 0, .int w, .int h] (wM m) (Ret (some (.int ((f_X9_board m w h).1))) (wM ((f_X9_board m w h).2))) := by
  obtain ⟨zq, hq⟩ : ∃ z, z = (f_X9_board m w h) := ⟨_, rfl⟩
  rw [← hq]
  unfold f_X9_board at hq
  unfold p_X9_board at hp
  refine Sof fun sc => ?_
  refine g_blk hz0 kX9_board_0 ?_
  refine cS0 (s_X9_in (Int32.toInt64 w) 2 6) rfl cwX9_in dX9_board_8 rfl ?_
  refine g_blk hz0 kX9_board_11 ?_
  refine ⟨fun c1 => ?_, fun c1 => ?_⟩
  · rw [if_pos (show (f_X9_in (Int32.toInt64 w) 2 6) = 0 from c1)] at hq
    replace hp := hp.1 c1
    refine g_blk hz0 kX9_board_28 ?_
    refine cV [0, 1, 2, 3, 4, 5, 6, 7, 8, 9, 10, 11, 12, 13, 14, 15, 16] (wM m) (s_X9_bad m hp.1) rfl cwX9_bad dX9_board_29 rfl rfl (hm0_M_M _) rfl (wM ((f_X9_bad m).2)) (pw0_M_M _ _) ?_
    replace hp := hp.2
    refine g_blk hz0 kX9_board_32 ?_
    subst hq
    exact ⟨fun h => (by cases h), rfl, rfl⟩
  · rw [if_neg (show ¬ ((f_X9_in (Int32.toInt64 w) 2 6) = 0) from c1)] at hq
    replace hp := hp.2 c1
    refine g_blk hz0 kX9_board_14 ?_
    refine cS0 (s_X9_in (Int32.toInt64 h) 2 6) rfl cwX9_in dX9_board_22 rfl ?_
    refine g_blk hz0 kX9_board_25 ?_
    refine ⟨fun c2 => ?_, fun c2 => ?_⟩
    · rw [if_neg (show ¬ ((f_X9_in (Int32.toInt64 h) 2 6) = 0) from c2)] at hq
      replace hp := hp.2 c2
      refine g_blk hz0 kX9_board_33 ?_
      refine ⟨vinL (by decide), ?_⟩
      refine ⟨vinL (by decide), ?_⟩
      refine ⟨vinL (by decide), ?_⟩
      refine ⟨vinL (by decide), ?_⟩
      refine ⟨vinL (by decide), ?_⟩
      refine ⟨vinL (by decide), ?_⟩
      refine ⟨vinL (by decide), ?_⟩
      refine g_le (L2 := [some (.ref 0), some (.int w), some (.int h), some (.int 0)]) ⟨rfl, rfl, rfl, rfl, trivial⟩ ?_
      exact l_X9_board_88 sc zq 40 (setA m 0 (upd (upd (upd (upd (upd (upd (upd (m.2 0) 0 w) 1 h) 2 0) 6 0) 16 0) 26 0) 27 0)) w h 0 hp hq
    · rw [if_pos (show (f_X9_in (Int32.toInt64 h) 2 6) = 0 from c2)] at hq
      replace hp := hp.1 c2
      refine g_blk hz0 kX9_board_28 ?_
      refine cV [0, 1, 2, 3, 4, 5, 6, 7, 8, 9, 10, 11, 12, 13, 14, 15, 16] (wM m) (s_X9_bad m hp.1) rfl cwX9_bad dX9_board_29 rfl rfl (hm0_M_M _) rfl (wM ((f_X9_bad m).2)) (pw0_M_M _ _) ?_
      replace hp := hp.2
      refine g_blk hz0 kX9_board_32 ?_
      subst hq
      exact ⟨fun h => (by cases h), rfl, rfl⟩

def f_X9_isManOn_4  : Nat → Rec → Int32 → Int32 → Int32 → Int32
  | 0, m, v1, v2, v3 => 0
  | n + 1, m, v1, v2, v3 => if ((m.2 0) 2) ≤ v3 then v2 else (if v2 = 0 then (if ((m.2 0) (Int32.toNatClampNeg (8 + v3))) = v1 then (f_X9_isManOn_4 n m v1 1 (v3 + 1)) else (f_X9_isManOn_4 n m v1 0 (v3 + 1))) else (f_X9_isManOn_4 n m v1 1 (v3 + 1)))
def p_X9_isManOn_4  : Nat → Rec → Int32 → Int32 → Int32 → Prop
  | 0, _, _, _, _ => False
  | n + 1, m, v1, v2, v3 => (((m.2 0) 2) ≤ v3 → ((v2 = 0 ∨ v2 = 1) ∧ True)) ∧ (¬ (((m.2 0) 2) ≤ v3) → ((v2 = 0 → (vp_in (8 + v3) 248 ∧ ((((m.2 0) (Int32.toNatClampNeg (8 + v3))) = v1 → (p_X9_isManOn_4 n m v1 1 (v3 + 1))) ∧ (¬ (((m.2 0) (Int32.toNatClampNeg (8 + v3))) = v1) → (p_X9_isManOn_4 n m v1 0 (v3 + 1)))))) ∧ (¬ (v2 = 0) → (p_X9_isManOn_4 n m v1 1 (v3 + 1)))))
set_option maxHeartbeats 16000000 in
set_option maxRecDepth 20000 in
theorem l_X9_isManOn_4 (sc : SC) (m : Rec)  (zq : Int32)  : ∀ (n : Nat)  (v1 : Int32) (v2 : Int32) (v3 : Int32), p_X9_isManOn_4 n m v1 v2 v3 → zq = f_X9_isManOn_4 n m v1 v2 v3 → Good sc 0 0 0 17 mX9_isManOn (Ret (some (.int (zq))) (wM m)) 0 0 4 [some (.ref 0), some (.int v1), some (.int v2), some (.int v3)] [] (wM m) := by
  intro n
  induction n with
  | zero => intro v1 v2 v3 hp; exact hp.elim
  | succ n ih =>
    intro v1 v2 v3 hp hq
    unfold p_X9_isManOn_4 at hp
    unfold f_X9_isManOn_4 at hq
    refine g_blk hz0 kX9_isManOn_4 ?_
    refine ⟨vinL (by decide), ?_⟩
    refine ⟨fun c1 => ?_, fun c1 => ?_⟩
    · rw [if_pos (show ((m.2 0) 2) ≤ v3 from c1)] at hq
      replace hp := hp.1 c1
      refine g_blk hz0 kX9_isManOn_43 ?_
      have b2 := hp.1
      replace hp := hp.2
      subst hq
      exact ⟨fun _ => b2, rfl, rfl⟩
    · rw [if_neg (show ¬ (((m.2 0) 2) ≤ v3) from c1)] at hq
      replace hp := hp.2 c1
      refine g_blk hz0 kX9_isManOn_14 ?_
      refine ⟨fun c3 => ?_, fun c3 => ?_⟩
      · rw [if_neg (show ¬ (v2 = 0) from c3)] at hq
        replace hp := hp.2 c3
        refine g_blk hz0 kX9_isManOn_31 ?_
        refine g_blk hz0 kX9_isManOn_36 ?_
        refine g_le (L2 := [some (.ref 0), some (.int v1), some (.int 1), some (.int (v3 + 1))]) ⟨rfl, rfl, rfl, rfl, trivial⟩ ?_
        exact ih v1 1 (v3 + 1) hp hq
      · rw [if_pos (show v2 = 0 from c3)] at hq
        replace hp := hp.1 c3
        refine g_blk hz0 kX9_isManOn_18 ?_
        refine ⟨hp.1, ?_⟩
        replace hp := hp.2
        refine ⟨fun c4 => ?_, fun c4 => ?_⟩
        · rw [if_neg (show ¬ (((m.2 0) (Int32.toNatClampNeg (8 + v3))) = v1) from c4)] at hq
          replace hp := hp.2 c4
          refine g_blk hz0 kX9_isManOn_35 ?_
          refine g_blk hz0 kX9_isManOn_36 ?_
          refine g_le (L2 := [some (.ref 0), some (.int v1), some (.int 0), some (.int (v3 + 1))]) ⟨rfl, rfl, rfl, rfl, trivial⟩ ?_
          exact ih v1 0 (v3 + 1) hp hq
        · rw [if_pos (show ((m.2 0) (Int32.toNatClampNeg (8 + v3))) = v1 from c4)] at hq
          replace hp := hp.1 c4
          refine g_blk hz0 kX9_isManOn_31 ?_
          refine g_blk hz0 kX9_isManOn_36 ?_
          refine g_le (L2 := [some (.ref 0), some (.int v1), some (.int 1), some (.int (v3 + 1))]) ⟨rfl, rfl, rfl, rfl, trivial⟩ ?_
          exact ih v1 1 (v3 + 1) hp hq
def f_X9_isManOn (m : Rec) (c : Int32) : Int32 := (f_X9_isManOn_4 40 m c 0 0)
def p_X9_isManOn (m : Rec) (c : Int32) : Prop := (p_X9_isManOn_4 40 m c 0 0)
set_option maxHeartbeats 16000000 in
set_option maxRecDepth 20000 in
theorem s_X9_isManOn (m : Rec) (c : Int32) (hp : p_X9_isManOn m c) : Spec 0 0 0 mX9_isManOn [.ref 0, .int c] (wM m) (Ret (some (.int ((f_X9_isManOn m c)))) (wM m)) := by
  obtain ⟨zq, hq⟩ : ∃ z, z = (f_X9_isManOn m c) := ⟨_, rfl⟩
  rw [← hq]
  unfold f_X9_isManOn at hq
  unfold p_X9_isManOn at hp
  refine Sof fun sc => ?_
  refine g_blk hz0 kX9_isManOn_0 ?_
  refine g_le (L2 := [some (.ref 0), some (.int c), some (.int 0), some (.int 0)]) ⟨rfl, rfl, rfl, rfl, trivial⟩ ?_
  exact l_X9_isManOn_4 sc m zq 40 c 0 0 hp hq

def f_X9_hole (m : Rec) (c : Int32) : Int32 × Rec := if (f_X9_in (Int32.toInt64 c) 0 35) = 0 then (((f_X9_bad m).1), ((f_X9_bad m).2)) else (if ((m.2 0) 0) ≤ (c - c / 6 * 6) then (((f_X9_bad m).1), ((f_X9_bad m).2)) else (if (c / 6) < ((m.2 0) 1) then (if ((m.2 0) (Int32.toNatClampNeg (52 + c))) = 1 then (((f_X9_no m).1), ((f_X9_no m).2)) else (if (f_X9_isManOn m c) = 0 then (if 0 < ((m.2 0) 16) then (((f_X9_no m).1), ((f_X9_no m).2)) else (if ((m.2 0) 27) ≤ 0 then (1, (setA m 0 (upd (upd (m.2 0) (Int32.toNatClampNeg (52 + c)) 1) 6 0))) else (((f_X9_no m).1), ((f_X9_no m).2)))) else (((f_X9_no m).1), ((f_X9_no m).2)))) else (((f_X9_bad m).1), ((f_X9_bad m).2))))
def p_X9_hole (m : Rec) (c : Int32) : Prop := ((f_X9_in (Int32.toInt64 c) 0 35) = 0 → ((p_X9_bad m) ∧ True)) ∧ (¬ ((f_X9_in (Int32.toInt64 c) 0 35) = 0) → ((((m.2 0) 0) ≤ (c - c / 6 * 6) → ((p_X9_bad m) ∧ True)) ∧ (¬ (((m.2 0) 0) ≤ (c - c / 6 * 6)) → (((c / 6) < ((m.2 0) 1) → (vp_in (52 + c) 248 ∧ ((((m.2 0) (Int32.toNatClampNeg (52 + c))) = 1 → ((p_X9_no m) ∧ True)) ∧ (¬ (((m.2 0) (Int32.toNatClampNeg (52 + c))) = 1) → ((p_X9_isManOn m c) ∧ (((f_X9_isManOn m c) = 0 → ((0 < ((m.2 0) 16) → ((p_X9_no m) ∧ True)) ∧ (¬ (0 < ((m.2 0) 16)) → ((((m.2 0) 27) ≤ 0 → (vp_in (52 + c) 248 ∧ True)) ∧ (¬ (((m.2 0) 27) ≤ 0) → ((p_X9_no m) ∧ True)))))) ∧ (¬ ((f_X9_isManOn m c) = 0) → ((p_X9_no m) ∧ True)))))))) ∧ (¬ ((c / 6) < ((m.2 0) 1)) → ((p_X9_bad m) ∧ True))))))
set_option maxHeartbeats 16000000 in
set_option maxRecDepth 20000 in
theorem s_X9_hole (m : Rec) (c : Int32) (hp : p_X9_hole m c) : Spec 2 0 0 mX9_hole [.ref 0, .int c] (wM m) (Ret (some (.int ((f_X9_hole m c).1))) (wM ((f_X9_hole m c).2))) := by
  obtain ⟨zq, hq⟩ : ∃ z, z = (f_X9_hole m c) := ⟨_, rfl⟩
  rw [← hq]
  unfold f_X9_hole at hq
  unfold p_X9_hole at hp
  refine Sof fun sc => ?_
  refine g_blk hz0 kX9_hole_0 ?_
  refine cS0 (s_X9_in (Int32.toInt64 c) 0 35) rfl cwX9_in dX9_hole_6 rfl ?_
  refine g_blk hz0 kX9_hole_9 ?_
  refine ⟨fun c1 => ?_, fun c1 => ?_⟩
  · rw [if_pos (show (f_X9_in (Int32.toInt64 c) 0 35) = 0 from c1)] at hq
    replace hp := hp.1 c1
    refine g_blk hz0 kX9_hole_38 ?_
    refine cV [0, 1, 2, 3, 4, 5, 6, 7, 8, 9, 10, 11, 12, 13, 14, 15, 16] (wM m) (s_X9_bad m hp.1) rfl cwX9_bad dX9_hole_39 rfl rfl (hm0_M_M _) rfl (wM ((f_X9_bad m).2)) (pw0_M_M _ _) ?_
    replace hp := hp.2
    refine g_blk hz0 kX9_hole_42 ?_
    subst hq
    exact ⟨fun h => (by cases h), rfl, rfl⟩
  · rw [if_neg (show ¬ ((f_X9_in (Int32.toInt64 c) 0 35) = 0) from c1)] at hq
    replace hp := hp.2 c1
    refine g_blk hz0 kX9_hole_12 ?_
    refine ⟨by decide, ?_⟩
    refine ⟨vinL (by decide), ?_⟩
    refine ⟨fun c2 => ?_, fun c2 => ?_⟩
    · rw [if_pos (show ((m.2 0) 0) ≤ (c - c / 6 * 6) from c2)] at hq
      replace hp := hp.1 c2
      refine g_blk hz0 kX9_hole_38 ?_
      refine cV [0, 1, 2, 3, 4, 5, 6, 7, 8, 9, 10, 11, 12, 13, 14, 15, 16] (wM m) (s_X9_bad m hp.1) rfl cwX9_bad dX9_hole_39 rfl rfl (hm0_M_M _) rfl (wM ((f_X9_bad m).2)) (pw0_M_M _ _) ?_
      replace hp := hp.2
      refine g_blk hz0 kX9_hole_42 ?_
      subst hq
      exact ⟨fun h => (by cases h), rfl, rfl⟩
    · rw [if_neg (show ¬ (((m.2 0) 0) ≤ (c - c / 6 * 6)) from c2)] at hq
      replace hp := hp.2 c2
      refine g_blk hz0 kX9_hole_25 ?_
      refine ⟨by decide, ?_⟩
      refine ⟨vinL (by decide), ?_⟩
      refine ⟨fun c3 => ?_, fun c3 => ?_⟩
      · rw [if_pos (show (c / 6) < ((m.2 0) 1) from c3)] at hq
        replace hp := hp.1 c3
        refine g_blk hz0 kX9_hole_43 ?_
        refine ⟨hp.1, ?_⟩
        replace hp := hp.2
        refine ⟨fun c4 => ?_, fun c4 => ?_⟩
        · rw [if_pos (show ((m.2 0) (Int32.toNatClampNeg (52 + c))) = 1 from c4)] at hq
          replace hp := hp.1 c4
          refine g_blk hz0 kX9_hole_84 ?_
          refine cV [0, 1, 2, 3, 4, 5, 6, 7, 8, 9, 10, 11, 12, 13, 14, 15, 16] (wM m) (s_X9_no m hp.1) rfl cwX9_no dX9_hole_85 rfl rfl (hm0_M_M _) rfl (wM ((f_X9_no m).2)) (pw0_M_M _ _) ?_
          replace hp := hp.2
          refine g_blk hz0 kX9_hole_88 ?_
          subst hq
          exact ⟨fun h => (by cases h), rfl, rfl⟩
        · rw [if_neg (show ¬ (((m.2 0) (Int32.toNatClampNeg (52 + c))) = 1) from c4)] at hq
          replace hp := hp.2 c4
          refine g_blk hz0 kX9_hole_56 ?_
          refine cVp [0, 1, 2, 3, 4, 5, 6, 7, 8, 9, 10, 11, 12, 13, 14, 15, 16] (wM m) (s_X9_isManOn m c hp.1) rfl cwX9_isManOn dX9_hole_58 rfl rfl (hm0_M_M _) ?_
          replace hp := hp.2
          refine g_blk hz0 kX9_hole_61 ?_
          refine ⟨fun c5 => ?_, fun c5 => ?_⟩
          · rw [if_neg (show ¬ ((f_X9_isManOn m c) = 0) from c5)] at hq
            replace hp := hp.2 c5
            refine g_blk hz0 kX9_hole_84 ?_
            refine cV [0, 1, 2, 3, 4, 5, 6, 7, 8, 9, 10, 11, 12, 13, 14, 15, 16] (wM m) (s_X9_no m hp.1) rfl cwX9_no dX9_hole_85 rfl rfl (hm0_M_M _) rfl (wM ((f_X9_no m).2)) (pw0_M_M _ _) ?_
            replace hp := hp.2
            refine g_blk hz0 kX9_hole_88 ?_
            subst hq
            exact ⟨fun h => (by cases h), rfl, rfl⟩
          · rw [if_pos (show (f_X9_isManOn m c) = 0 from c5)] at hq
            replace hp := hp.1 c5
            refine g_blk hz0 kX9_hole_64 ?_
            refine ⟨vinL (by decide), ?_⟩
            refine ⟨fun c6 => ?_, fun c6 => ?_⟩
            · rw [if_pos (show 0 < ((m.2 0) 16) from c6)] at hq
              replace hp := hp.1 c6
              refine g_blk hz0 kX9_hole_84 ?_
              refine cV [0, 1, 2, 3, 4, 5, 6, 7, 8, 9, 10, 11, 12, 13, 14, 15, 16] (wM m) (s_X9_no m hp.1) rfl cwX9_no dX9_hole_85 rfl rfl (hm0_M_M _) rfl (wM ((f_X9_no m).2)) (pw0_M_M _ _) ?_
              replace hp := hp.2
              refine g_blk hz0 kX9_hole_88 ?_
              subst hq
              exact ⟨fun h => (by cases h), rfl, rfl⟩
            · rw [if_neg (show ¬ (0 < ((m.2 0) 16)) from c6)] at hq
              replace hp := hp.2 c6
              refine g_blk hz0 kX9_hole_74 ?_
              refine ⟨vinL (by decide), ?_⟩
              refine ⟨fun c7 => ?_, fun c7 => ?_⟩
              · rw [if_pos (show ((m.2 0) 27) ≤ 0 from c7)] at hq
                replace hp := hp.1 c7
                refine g_blk hz0 kX9_hole_89 ?_
                refine ⟨hp.1, ?_⟩
                replace hp := hp.2
                refine ⟨vinL (by decide), ?_⟩
                subst hq
                exact ⟨fun h => (by cases h), rfl, rfl⟩
              · rw [if_neg (show ¬ (((m.2 0) 27) ≤ 0) from c7)] at hq
                replace hp := hp.2 c7
                refine g_blk hz0 kX9_hole_84 ?_
                refine cV [0, 1, 2, 3, 4, 5, 6, 7, 8, 9, 10, 11, 12, 13, 14, 15, 16] (wM m) (s_X9_no m hp.1) rfl cwX9_no dX9_hole_85 rfl rfl (hm0_M_M _) rfl (wM ((f_X9_no m).2)) (pw0_M_M _ _) ?_
                replace hp := hp.2
                refine g_blk hz0 kX9_hole_88 ?_
                subst hq
                exact ⟨fun h => (by cases h), rfl, rfl⟩
      · rw [if_neg (show ¬ ((c / 6) < ((m.2 0) 1)) from c3)] at hq
        replace hp := hp.2 c3
        refine g_blk hz0 kX9_hole_38 ?_
        refine cV [0, 1, 2, 3, 4, 5, 6, 7, 8, 9, 10, 11, 12, 13, 14, 15, 16] (wM m) (s_X9_bad m hp.1) rfl cwX9_bad dX9_hole_39 rfl rfl (hm0_M_M _) rfl (wM ((f_X9_bad m).2)) (pw0_M_M _ _) ?_
        replace hp := hp.2
        refine g_blk hz0 kX9_hole_42 ?_
        subst hq
        exact ⟨fun h => (by cases h), rfl, rfl⟩

def f_X9_man (m : Rec) (k : Int32) (o : Int32) (h : Int32) (c : Int32) : Int32 × Rec := if (f_X9_in (Int32.toInt64 k) 0 4) = 0 then (((f_X9_bad m).1), ((f_X9_bad m).2)) else (if (f_X9_in (Int32.toInt64 o) 0 1) = 0 then (((f_X9_bad m).1), ((f_X9_bad m).2)) else (if (f_X9_in (Int32.toInt64 h) 1 9) = 0 then (((f_X9_bad m).1), ((f_X9_bad m).2)) else (if (f_X9_isCell m c) = 0 then (((f_X9_bad m).1), ((f_X9_bad m).2)) else (if (f_X9_isManOn m c) = 0 then (if ((m.2 0) 2) = 8 then (((f_X9_full m).1), ((f_X9_full m).2)) else (((m.2 0) 2), (setA m 0 (upd (upd (upd (upd (upd (upd (m.2 0) (Int32.toNatClampNeg (28 + (3 * ((m.2 0) 2)))) k) (Int32.toNatClampNeg ((28 + (3 * ((m.2 0) 2))) + 1)) o) (Int32.toNatClampNeg ((28 + (3 * ((m.2 0) 2))) + 2)) h) (Int32.toNatClampNeg (8 + ((m.2 0) 2))) c) 2 (((upd (upd (upd (upd (m.2 0) (Int32.toNatClampNeg (28 + (3 * ((m.2 0) 2)))) k) (Int32.toNatClampNeg ((28 + (3 * ((m.2 0) 2))) + 1)) o) (Int32.toNatClampNeg ((28 + (3 * ((m.2 0) 2))) + 2)) h) (Int32.toNatClampNeg (8 + ((m.2 0) 2))) c) 2) + 1)) 6 0)))) else (((f_X9_bad m).1), ((f_X9_bad m).2))))))
def p_X9_man (m : Rec) (k : Int32) (o : Int32) (h : Int32) (c : Int32) : Prop := ((f_X9_in (Int32.toInt64 k) 0 4) = 0 → ((p_X9_bad m) ∧ True)) ∧ (¬ ((f_X9_in (Int32.toInt64 k) 0 4) = 0) → (((f_X9_in (Int32.toInt64 o) 0 1) = 0 → ((p_X9_bad m) ∧ True)) ∧ (¬ ((f_X9_in (Int32.toInt64 o) 0 1) = 0) → (((f_X9_in (Int32.toInt64 h) 1 9) = 0 → ((p_X9_bad m) ∧ True)) ∧ (¬ ((f_X9_in (Int32.toInt64 h) 1 9) = 0) → ((p_X9_isCell m c) ∧ (((f_X9_isCell m c) = 0 → ((p_X9_bad m) ∧ True)) ∧ (¬ ((f_X9_isCell m c) = 0) → ((p_X9_isManOn m c) ∧ (((f_X9_isManOn m c) = 0 → ((((m.2 0) 2) = 8 → ((p_X9_full m) ∧ True)) ∧ (¬ (((m.2 0) 2) = 8) → (vp_in (28 + (3 * ((m.2 0) 2))) 248 ∧ (vp_in ((28 + (3 * ((m.2 0) 2))) + 1) 248 ∧ (vp_in ((28 + (3 * ((m.2 0) 2))) + 2) 248 ∧ (vp_in (8 + ((m.2 0) 2)) 248 ∧ True))))))) ∧ (¬ ((f_X9_isManOn m c) = 0) → ((p_X9_bad m) ∧ True))))))))))))
set_option maxHeartbeats 16000000 in
set_option maxRecDepth 20000 in
theorem s_X9_man (m : Rec) (k : Int32) (o : Int32) (h : Int32) (c : Int32) (hp : p_X9_man m k o h c) : Spec 2 0 0 mX9_man [.ref 0, .int k, .int o, .int h, .int c] (wM m) (Ret (some (.int ((f_X9_man m k o h c).1))) (wM ((f_X9_man m k o h c).2))) := by
  obtain ⟨zq, hq⟩ : ∃ z, z = (f_X9_man m k o h c) := ⟨_, rfl⟩
  rw [← hq]
  unfold f_X9_man at hq
  unfold p_X9_man at hp
  refine Sof fun sc => ?_
  refine g_blk hz0 kX9_man_0 ?_
  refine cS0 (s_X9_in (Int32.toInt64 k) 0 4) rfl cwX9_in dX9_man_6 rfl ?_
  refine g_blk hz0 kX9_man_9 ?_
  refine ⟨fun c1 => ?_, fun c1 => ?_⟩
  · rw [if_pos (show (f_X9_in (Int32.toInt64 k) 0 4) = 0 from c1)] at hq
    replace hp := hp.1 c1
    refine g_blk hz0 kX9_man_52 ?_
    refine cV [0, 1, 2, 3, 4, 5, 6, 7, 8, 9, 10, 11, 12, 13, 14, 15, 16] (wM m) (s_X9_bad m hp.1) rfl cwX9_bad dX9_man_53 rfl rfl (hm0_M_M _) rfl (wM ((f_X9_bad m).2)) (pw0_M_M _ _) ?_
    replace hp := hp.2
    refine g_blk hz0 kX9_man_56 ?_
    subst hq
    exact ⟨fun h => (by cases h), rfl, rfl⟩
  · rw [if_neg (show ¬ ((f_X9_in (Int32.toInt64 k) 0 4) = 0) from c1)] at hq
    replace hp := hp.2 c1
    refine g_blk hz0 kX9_man_12 ?_
    refine cS0 (s_X9_in (Int32.toInt64 o) 0 1) rfl cwX9_in dX9_man_16 rfl ?_
    refine g_blk hz0 kX9_man_19 ?_
    refine ⟨fun c2 => ?_, fun c2 => ?_⟩
    · rw [if_pos (show (f_X9_in (Int32.toInt64 o) 0 1) = 0 from c2)] at hq
      replace hp := hp.1 c2
      refine g_blk hz0 kX9_man_52 ?_
      refine cV [0, 1, 2, 3, 4, 5, 6, 7, 8, 9, 10, 11, 12, 13, 14, 15, 16] (wM m) (s_X9_bad m hp.1) rfl cwX9_bad dX9_man_53 rfl rfl (hm0_M_M _) rfl (wM ((f_X9_bad m).2)) (pw0_M_M _ _) ?_
      replace hp := hp.2
      refine g_blk hz0 kX9_man_56 ?_
      subst hq
      exact ⟨fun h => (by cases h), rfl, rfl⟩
    · rw [if_neg (show ¬ ((f_X9_in (Int32.toInt64 o) 0 1) = 0) from c2)] at hq
      replace hp := hp.2 c2
      refine g_blk hz0 kX9_man_22 ?_
      refine cS0 (s_X9_in (Int32.toInt64 h) 1 9) rfl cwX9_in dX9_man_28 rfl ?_
      refine g_blk hz0 kX9_man_31 ?_
      refine ⟨fun c3 => ?_, fun c3 => ?_⟩
      · rw [if_pos (show (f_X9_in (Int32.toInt64 h) 1 9) = 0 from c3)] at hq
        replace hp := hp.1 c3
        refine g_blk hz0 kX9_man_52 ?_
        refine cV [0, 1, 2, 3, 4, 5, 6, 7, 8, 9, 10, 11, 12, 13, 14, 15, 16] (wM m) (s_X9_bad m hp.1) rfl cwX9_bad dX9_man_53 rfl rfl (hm0_M_M _) rfl (wM ((f_X9_bad m).2)) (pw0_M_M _ _) ?_
        replace hp := hp.2
        refine g_blk hz0 kX9_man_56 ?_
        subst hq
        exact ⟨fun h => (by cases h), rfl, rfl⟩
      · rw [if_neg (show ¬ ((f_X9_in (Int32.toInt64 h) 1 9) = 0) from c3)] at hq
        replace hp := hp.2 c3
        refine g_blk hz0 kX9_man_34 ?_
        refine cVp [0, 1, 2, 3, 4, 5, 6, 7, 8, 9, 10, 11, 12, 13, 14, 15, 16] (wM m) (s_X9_isCell m c hp.1) rfl cwX9_isCell dX9_man_37 rfl rfl (hm0_M_M _) ?_
        replace hp := hp.2
        refine g_blk hz0 kX9_man_40 ?_
        refine ⟨fun c4 => ?_, fun c4 => ?_⟩
        · rw [if_pos (show (f_X9_isCell m c) = 0 from c4)] at hq
          replace hp := hp.1 c4
          refine g_blk hz0 kX9_man_52 ?_
          refine cV [0, 1, 2, 3, 4, 5, 6, 7, 8, 9, 10, 11, 12, 13, 14, 15, 16] (wM m) (s_X9_bad m hp.1) rfl cwX9_bad dX9_man_53 rfl rfl (hm0_M_M _) rfl (wM ((f_X9_bad m).2)) (pw0_M_M _ _) ?_
          replace hp := hp.2
          refine g_blk hz0 kX9_man_56 ?_
          subst hq
          exact ⟨fun h => (by cases h), rfl, rfl⟩
        · rw [if_neg (show ¬ ((f_X9_isCell m c) = 0) from c4)] at hq
          replace hp := hp.2 c4
          refine g_blk hz0 kX9_man_43 ?_
          refine cVp [0, 1, 2, 3, 4, 5, 6, 7, 8, 9, 10, 11, 12, 13, 14, 15, 16] (wM m) (s_X9_isManOn m c hp.1) rfl cwX9_isManOn dX9_man_46 rfl rfl (hm0_M_M _) ?_
          replace hp := hp.2
          refine g_blk hz0 kX9_man_49 ?_
          refine ⟨fun c5 => ?_, fun c5 => ?_⟩
          · rw [if_pos (show (f_X9_isManOn m c) = 0 from c5)] at hq
            replace hp := hp.1 c5
            refine g_blk hz0 kX9_man_57 ?_
            refine ⟨vinL (by decide), ?_⟩
            refine ⟨fun c6 => ?_, fun c6 => ?_⟩
            · rw [if_neg (show ¬ (((m.2 0) 2) = 8) from c6)] at hq
              replace hp := hp.2 c6
              refine g_blk hz0 kX9_man_73 ?_
              refine ⟨vinL (by decide), ?_⟩
              refine ⟨hp.1, ?_⟩
              replace hp := hp.2
              refine ⟨hp.1, ?_⟩
              replace hp := hp.2
              refine ⟨hp.1, ?_⟩
              replace hp := hp.2
              refine ⟨hp.1, ?_⟩
              replace hp := hp.2
              refine ⟨vinL (by decide), ?_⟩
              refine ⟨vinL (by decide), ?_⟩
              refine ⟨vinL (by decide), ?_⟩
              subst hq
              exact ⟨fun h => (by cases h), rfl, rfl⟩
            · rw [if_pos (show ((m.2 0) 2) = 8 from c6)] at hq
              replace hp := hp.1 c6
              refine g_blk hz0 kX9_man_68 ?_
              refine cV [0, 1, 2, 3, 4, 5, 6, 7, 8, 9, 10, 11, 12, 13, 14, 15, 16] (wM m) (s_X9_full m hp.1) rfl cwX9_full dX9_man_69 rfl rfl (hm0_M_M _) rfl (wM ((f_X9_full m).2)) (pw0_M_M _ _) ?_
              replace hp := hp.2
              refine g_blk hz0 kX9_man_72 ?_
              subst hq
              exact ⟨fun h => (by cases h), rfl, rfl⟩
          · rw [if_neg (show ¬ ((f_X9_isManOn m c) = 0) from c5)] at hq
            replace hp := hp.2 c5
            refine g_blk hz0 kX9_man_52 ?_
            refine cV [0, 1, 2, 3, 4, 5, 6, 7, 8, 9, 10, 11, 12, 13, 14, 15, 16] (wM m) (s_X9_bad m hp.1) rfl cwX9_bad dX9_man_53 rfl rfl (hm0_M_M _) rfl (wM ((f_X9_bad m).2)) (pw0_M_M _ _) ?_
            replace hp := hp.2
            refine g_blk hz0 kX9_man_56 ?_
            subst hq
            exact ⟨fun h => (by cases h), rfl, rfl⟩

def f_X9_put (m : Rec) (w : Int32) (v : Int32) : Int32 × Rec := if (f_X9_in (Int32.toInt64 w) 0 1) = 0 then (((f_X9_bad m).1), ((f_X9_bad m).2)) else (if w = 0 then (if (f_X9_in (Int32.toInt64 v) 1 9) = 0 then (((f_X9_bad m).1), ((f_X9_bad m).2)) else (((m.2 0) (Int32.toNatClampNeg (4 + w))), (setA m 0 (upd (upd (m.2 0) (Int32.toNatClampNeg (4 + w)) v) 6 0)))) else (if (f_X9_in (Int32.toInt64 v) 1 3) = 0 then (((f_X9_bad m).1), ((f_X9_bad m).2)) else (((m.2 0) (Int32.toNatClampNeg (4 + w))), (setA m 0 (upd (upd (m.2 0) (Int32.toNatClampNeg (4 + w)) v) 6 0)))))
def p_X9_put (m : Rec) (w : Int32) (v : Int32) : Prop := ((f_X9_in (Int32.toInt64 w) 0 1) = 0 → ((p_X9_bad m) ∧ True)) ∧ (¬ ((f_X9_in (Int32.toInt64 w) 0 1) = 0) → ((w = 0 → (((f_X9_in (Int32.toInt64 v) 1 9) = 0 → ((p_X9_bad m) ∧ True)) ∧ (¬ ((f_X9_in (Int32.toInt64 v) 1 9) = 0) → (vp_in (4 + w) 248 ∧ (vp_in (4 + w) 248 ∧ True))))) ∧ (¬ (w = 0) → (((f_X9_in (Int32.toInt64 v) 1 3) = 0 → ((p_X9_bad m) ∧ True)) ∧ (¬ ((f_X9_in (Int32.toInt64 v) 1 3) = 0) → (vp_in (4 + w) 248 ∧ (vp_in (4 + w) 248 ∧ True)))))))
set_option maxHeartbeats 16000000 in
set_option maxRecDepth 20000 in
theorem s_X9_put (m : Rec) (w : Int32) (v : Int32) (hp : p_X9_put m w v) : Spec 2 0 0 mX9_put [.ref 0, .int w, .int v] (wM m) (Ret (some (.int ((f_X9_put m w v).1))) (wM ((f_X9_put m w v).2))) := by
  obtain ⟨zq, hq⟩ : ∃ z, z = (f_X9_put m w v) := ⟨_, rfl⟩
  rw [← hq]
  unfold f_X9_put at hq
  unfold p_X9_put at hp
  refine Sof fun sc => ?_
  refine g_blk hz0 kX9_put_0 ?_
  refine cS0 (s_X9_in (Int32.toInt64 w) 0 1) rfl cwX9_in dX9_put_4 rfl ?_
  refine g_blk hz0 kX9_put_7 ?_
  refine ⟨fun c1 => ?_, fun c1 => ?_⟩
  · rw [if_pos (show (f_X9_in (Int32.toInt64 w) 0 1) = 0 from c1)] at hq
    replace hp := hp.1 c1
    refine g_blk hz0 kX9_put_32 ?_
    refine cV [0, 1, 2, 3, 4, 5, 6, 7, 8, 9, 10, 11, 12, 13, 14, 15, 16] (wM m) (s_X9_bad m hp.1) rfl cwX9_bad dX9_put_33 rfl rfl (hm0_M_M _) rfl (wM ((f_X9_bad m).2)) (pw0_M_M _ _) ?_
    replace hp := hp.2
    refine g_blk hz0 kX9_put_36 ?_
    subst hq
    exact ⟨fun h => (by cases h), rfl, rfl⟩
  · rw [if_neg (show ¬ ((f_X9_in (Int32.toInt64 w) 0 1) = 0) from c1)] at hq
    replace hp := hp.2 c1
    refine g_blk hz0 kX9_put_10 ?_
    refine ⟨fun c2 => ?_, fun c2 => ?_⟩
    · rw [if_neg (show ¬ (w = 0) from c2)] at hq
      replace hp := hp.2 c2
      refine g_blk hz0 kX9_put_23 ?_
      refine cS0 (s_X9_in (Int32.toInt64 v) 1 3) rfl cwX9_in dX9_put_26 rfl ?_
      refine g_blk hz0 kX9_put_29 ?_
      refine ⟨fun c4 => ?_, fun c4 => ?_⟩
      · rw [if_neg (show ¬ ((f_X9_in (Int32.toInt64 v) 1 3) = 0) from c4)] at hq
        replace hp := hp.2 c4
        refine g_blk hz0 kX9_put_37 ?_
        refine ⟨hp.1, ?_⟩
        replace hp := hp.2
        refine ⟨hp.1, ?_⟩
        replace hp := hp.2
        refine ⟨vinL (by decide), ?_⟩
        subst hq
        exact ⟨fun h => (by cases h), rfl, rfl⟩
      · rw [if_pos (show (f_X9_in (Int32.toInt64 v) 1 3) = 0 from c4)] at hq
        replace hp := hp.1 c4
        refine g_blk hz0 kX9_put_32 ?_
        refine cV [0, 1, 2, 3, 4, 5, 6, 7, 8, 9, 10, 11, 12, 13, 14, 15, 16] (wM m) (s_X9_bad m hp.1) rfl cwX9_bad dX9_put_33 rfl rfl (hm0_M_M _) rfl (wM ((f_X9_bad m).2)) (pw0_M_M _ _) ?_
        replace hp := hp.2
        refine g_blk hz0 kX9_put_36 ?_
        subst hq
        exact ⟨fun h => (by cases h), rfl, rfl⟩
    · rw [if_pos (show w = 0 from c2)] at hq
      replace hp := hp.1 c2
      refine g_blk hz0 kX9_put_17 ?_
      refine cS0 (s_X9_in (Int32.toInt64 v) 1 9) rfl cwX9_in dX9_put_26 rfl ?_
      refine g_blk hz0 kX9_put_29 ?_
      refine ⟨fun c3 => ?_, fun c3 => ?_⟩
      · rw [if_neg (show ¬ ((f_X9_in (Int32.toInt64 v) 1 9) = 0) from c3)] at hq
        replace hp := hp.2 c3
        refine g_blk hz0 kX9_put_37 ?_
        refine ⟨hp.1, ?_⟩
        replace hp := hp.2
        refine ⟨hp.1, ?_⟩
        replace hp := hp.2
        refine ⟨vinL (by decide), ?_⟩
        subst hq
        exact ⟨fun h => (by cases h), rfl, rfl⟩
      · rw [if_pos (show (f_X9_in (Int32.toInt64 v) 1 9) = 0 from c3)] at hq
        replace hp := hp.1 c3
        refine g_blk hz0 kX9_put_32 ?_
        refine cV [0, 1, 2, 3, 4, 5, 6, 7, 8, 9, 10, 11, 12, 13, 14, 15, 16] (wM m) (s_X9_bad m hp.1) rfl cwX9_bad dX9_put_33 rfl rfl (hm0_M_M _) rfl (wM ((f_X9_bad m).2)) (pw0_M_M _ _) ?_
        replace hp := hp.2
        refine g_blk hz0 kX9_put_36 ?_
        subst hq
        exact ⟨fun h => (by cases h), rfl, rfl⟩

def f_X9_cell (m : Rec) (c : Int32) (w : Int32) : Int32 × Rec := if (f_X9_isCell m c) = 0 then (((f_X9_refuses m 0 (-1000)).1), ((f_X9_refuses m 0 (-1000)).2)) else (if (f_X9_in (Int32.toInt64 w) 0 3) = 0 then (((f_X9_refuses m 0 (-1000)).1), ((f_X9_refuses m 0 (-1000)).2)) else (if w = 0 then ((((f_X9_lays m).2 4) (Int32.toNatClampNeg c)), (f_X9_lays m)) else (if w = 1 then ((((f_X9_lays m).2 5) (Int32.toNatClampNeg c)), (f_X9_lays m)) else (if w = 2 then ((((f_X9_lays m).2 6) (Int32.toNatClampNeg c)), (f_X9_lays m)) else (if (((f_X9_lays m).2 7) (Int32.toNatClampNeg c)) = 0 then (0, (f_X9_lays m)) else (1, (f_X9_lays m)))))))
def p_X9_cell (m : Rec) (c : Int32) (w : Int32) : Prop := (p_X9_isCell m c) ∧ (((f_X9_isCell m c) = 0 → ((p_X9_refuses m 0 (-1000)) ∧ True)) ∧ (¬ ((f_X9_isCell m c) = 0) → (((f_X9_in (Int32.toInt64 w) 0 3) = 0 → ((p_X9_refuses m 0 (-1000)) ∧ True)) ∧ (¬ ((f_X9_in (Int32.toInt64 w) 0 3) = 0) → ((p_X9_lays m) ∧ ((w = 0 → (vp_in c 36 ∧ True)) ∧ (¬ (w = 0) → ((w = 1 → (vp_in c 36 ∧ True)) ∧ (¬ (w = 1) → ((w = 2 → (vp_in c 36 ∧ True)) ∧ (¬ (w = 2) → (vp_in c 36 ∧ True))))))))))))
set_option maxHeartbeats 16000000 in
set_option maxRecDepth 20000 in
theorem s_X9_cell (m : Rec) (c : Int32) (w : Int32) (hp : p_X9_cell m c w) : Spec 4 0 0 mX9_cell [.ref 0, .int c, .int w] (wM m) (Ret (some (.int ((f_X9_cell m c w).1))) (wM ((f_X9_cell m c w).2))) := by
  obtain ⟨zq, hq⟩ : ∃ z, z = (f_X9_cell m c w) := ⟨_, rfl⟩
  rw [← hq]
  unfold f_X9_cell at hq
  unfold p_X9_cell at hp
  refine Sof fun sc => ?_
  refine g_blk hz0 kX9_cell_0 ?_
  refine cVp [0, 1, 2, 3, 4, 5, 6, 7, 8, 9, 10, 11, 12, 13, 14, 15, 16] (wM m) (s_X9_isCell m c hp.1) rfl cwX9_isCell dX9_cell_2 rfl rfl (hm0_M_M _) ?_
  replace hp := hp.2
  refine g_blk hz0 kX9_cell_5 ?_
  refine ⟨fun c1 => ?_, fun c1 => ?_⟩
  · rw [if_pos (show (f_X9_isCell m c) = 0 from c1)] at hq
    replace hp := hp.1 c1
    refine g_blk hz0 kX9_cell_20 ?_
    refine cV [0, 1, 2, 3, 4, 5, 6, 7, 8, 9, 10, 11, 12, 13, 14, 15, 16] (wM m) (s_X9_refuses m 0 (-1000) hp.1) rfl cwX9_refuses dX9_cell_25 rfl rfl (hm0_M_M _) rfl (wM ((f_X9_refuses m 0 (-1000)).2)) (pw0_M_M _ _) ?_
    replace hp := hp.2
    refine g_blk hz0 kX9_cell_28 ?_
    subst hq
    exact ⟨fun h => (by cases h), rfl, rfl⟩
  · rw [if_neg (show ¬ ((f_X9_isCell m c) = 0) from c1)] at hq
    replace hp := hp.2 c1
    refine g_blk hz0 kX9_cell_8 ?_
    refine cS0 (s_X9_in (Int32.toInt64 w) 0 3) rfl cwX9_in dX9_cell_14 rfl ?_
    refine g_blk hz0 kX9_cell_17 ?_
    refine ⟨fun c2 => ?_, fun c2 => ?_⟩
    · rw [if_neg (show ¬ ((f_X9_in (Int32.toInt64 w) 0 3) = 0) from c2)] at hq
      replace hp := hp.2 c2
      refine g_blk hz0 kX9_cell_29 ?_
      refine cV [0, 1, 2, 3, 4, 5, 6, 7, 8, 9, 10, 11, 12, 13, 14, 15, 16] (wM m) (s_X9_lays m hp.1) rfl cwX9_lays dX9_cell_30 rfl rfl (hm0_M_M _) rfl (wM (f_X9_lays m)) (pw0_M_M _ _) ?_
      replace hp := hp.2
      refine g_blk hz0 kX9_cell_33 ?_
      refine ⟨fun c3 => ?_, fun c3 => ?_⟩
      · rw [if_neg (show ¬ (w = 0) from c3)] at hq
        replace hp := hp.2 c3
        refine g_blk hz0 kX9_cell_46 ?_
        refine ⟨fun c4 => ?_, fun c4 => ?_⟩
        · rw [if_neg (show ¬ (w = 1) from c4)] at hq
          replace hp := hp.2 c4
          refine g_blk hz0 kX9_cell_60 ?_
          refine ⟨fun c5 => ?_, fun c5 => ?_⟩
          · rw [if_neg (show ¬ (w = 2) from c5)] at hq
            replace hp := hp.2 c5
            refine g_blk hz0 kX9_cell_74 ?_
            refine ⟨hp.1, ?_⟩
            replace hp := hp.2
            refine ⟨fun c6 => ?_, fun c6 => ?_⟩
            · rw [if_pos (show (((f_X9_lays m).2 7) (Int32.toNatClampNeg c)) = 0 from c6)] at hq
              refine g_blk hz0 kX9_cell_87 ?_
              refine g_blk hz0 kX9_cell_88 ?_
              subst hq
              exact ⟨fun h => (by cases h), rfl, rfl⟩
            · rw [if_neg (show ¬ ((((f_X9_lays m).2 7) (Int32.toNatClampNeg c)) = 0) from c6)] at hq
              refine g_blk hz0 kX9_cell_83 ?_
              refine g_blk hz0 kX9_cell_88 ?_
              subst hq
              exact ⟨fun h => (by cases h), rfl, rfl⟩
          · rw [if_pos (show w = 2 from c5)] at hq
            replace hp := hp.1 c5
            refine g_blk hz0 kX9_cell_65 ?_
            refine ⟨hp.1, ?_⟩
            replace hp := hp.2
            refine g_blk hz0 kX9_cell_88 ?_
            subst hq
            exact ⟨fun h => (by cases h), rfl, rfl⟩
        · rw [if_pos (show w = 1 from c4)] at hq
          replace hp := hp.1 c4
          refine g_blk hz0 kX9_cell_51 ?_
          refine ⟨hp.1, ?_⟩
          replace hp := hp.2
          refine g_blk hz0 kX9_cell_88 ?_
          subst hq
          exact ⟨fun h => (by cases h), rfl, rfl⟩
      · rw [if_pos (show w = 0 from c3)] at hq
        replace hp := hp.1 c3
        refine g_blk hz0 kX9_cell_37 ?_
        refine ⟨hp.1, ?_⟩
        replace hp := hp.2
        refine g_blk hz0 kX9_cell_88 ?_
        subst hq
        exact ⟨fun h => (by cases h), rfl, rfl⟩
    · rw [if_pos (show (f_X9_in (Int32.toInt64 w) 0 3) = 0 from c2)] at hq
      replace hp := hp.1 c2
      refine g_blk hz0 kX9_cell_20 ?_
      refine cV [0, 1, 2, 3, 4, 5, 6, 7, 8, 9, 10, 11, 12, 13, 14, 15, 16] (wM m) (s_X9_refuses m 0 (-1000) hp.1) rfl cwX9_refuses dX9_cell_25 rfl rfl (hm0_M_M _) rfl (wM ((f_X9_refuses m 0 (-1000)).2)) (pw0_M_M _ _) ?_
      replace hp := hp.2
      refine g_blk hz0 kX9_cell_28 ?_
      subst hq
      exact ⟨fun h => (by cases h), rfl, rfl⟩
