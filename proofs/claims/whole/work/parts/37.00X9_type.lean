def f_X9_type_39  : Nat → Rec → Int64 → Int32 → Int32 × Rec
  | 0, m, v1, v4 => (0, m)
  | n + 1, m, v1, v4 => if v4 < 0 then ((m.1 23), m) else (f_X9_type_39 n (setA (setG m 23 ((m.1 23) + (Int32.ofInt 1))) 22 (upd (m.2 22) (Int32.toNatClampNeg (m.1 23)) (Int64.toInt32 ((v1 >>> (Int32.toInt64 ((Int32.ofInt 8) * v4) &&& 63)) &&& 255)))) v1 (v4 + (Int32.ofInt (-1))))
def p_X9_type_39  : Nat → Rec → Int64 → Int32 → Prop
  | 0, _, _, _ => False
  | n + 1, m, v1, v4 => (v4 < 0 → True) ∧ (¬ (v4 < 0) → (vp_in (m.1 23) 200 ∧ (p_X9_type_39 n (setA (setG m 23 ((m.1 23) + (Int32.ofInt 1))) 22 (upd (m.2 22) (Int32.toNatClampNeg (m.1 23)) (Int64.toInt32 ((v1 >>> (Int32.toInt64 ((Int32.ofInt 8) * v4) &&& 63)) &&& 255)))) v1 (v4 + (Int32.ofInt (-1))))))
set_option maxHeartbeats 16000000 in
set_option maxRecDepth 20000 in
theorem l_X9_type_39 (sc : SC)   (zq : Int32 × Rec)  : ∀ (n : Nat) (m : Rec) (v1 : Int64) (v4 : Int32), p_X9_type_39 n m v1 v4 → zq = f_X9_type_39 n m v1 v4 → Good sc 2 0 0 17 mX9_type (Ret (some (.int (zq.1))) (wM (zq.2))) 0 0 39 [some (.ref 0), some (.long v1), none, none, some (.int v4)] [] (wM m) := by
  intro n
  induction n with
  | zero => intro m v1 v4 hp; exact hp.elim
  | succ n ih =>
    intro m v1 v4 hp hq
    unfold p_X9_type_39 at hp
    unfold f_X9_type_39 at hq
    refine g_blk hz0 kX9_type_39 ?_
    refine ⟨fun c5 => ?_, fun c5 => ?_⟩
    · rw [if_pos (show v4 < 0 from c5)] at hq
      refine g_blk hz0 kX9_type_81 ?_
      subst hq
      exact ⟨fun h => (by cases h), rfl, rfl⟩
    · rw [if_neg (show ¬ (v4 < 0) from c5)] at hq
      replace hp := hp.2 c5
      refine g_blk hz0 kX9_type_44 ?_
      refine ⟨hp.1, ?_⟩
      replace hp := hp.2
      refine ⟨fun h => (by cases h), Or.inl rfl, ?_⟩
      refine g_le (L2 := [some (.ref 0), some (.long v1), none, none, some (.int (v4 + (Int32.ofInt (-1))))]) ⟨rfl, rfl, rfl, trivial⟩ ?_
      exact ih (setA (setG m 23 ((m.1 23) + (Int32.ofInt 1))) 22 (upd (m.2 22) (Int32.toNatClampNeg (m.1 23)) (Int64.toInt32 ((v1 >>> (Int32.toInt64 ((Int32.ofInt 8) * v4) &&& 63)) &&& 255)))) v1 (v4 + (Int32.ofInt (-1))) hp hq
def f_X9_type (m : Rec) (v : Int64) (n : Int32) : Int32 × Rec := if (f_X9_in (Int32.toInt64 n) ((Int64.ofNat 1)) 8) = 0 then (((f_X9_bad m).1), ((f_X9_bad m).2)) else (if ((m.1 23) + n) ≤ (Int32.ofInt 200) then (f_X9_type_39 40 m v (n - (Int32.ofInt 1))) else (((f_X9_full m).1), ((f_X9_full m).2)))
def p_X9_type (m : Rec) (v : Int64) (n : Int32) : Prop := ((f_X9_in (Int32.toInt64 n) ((Int64.ofNat 1)) 8) = 0 → ((p_X9_bad m) ∧ True)) ∧ (¬ ((f_X9_in (Int32.toInt64 n) ((Int64.ofNat 1)) 8) = 0) → ((((m.1 23) + n) ≤ (Int32.ofInt 200) → (p_X9_type_39 40 m v (n - (Int32.ofInt 1)))) ∧ (¬ (((m.1 23) + n) ≤ (Int32.ofInt 200)) → ((p_X9_full m) ∧ True))))
set_option maxHeartbeats 16000000 in
set_option maxRecDepth 20000 in
theorem s_X9_type (m : Rec) (v : Int64) (n : Int32) (hp : p_X9_type m v n) : Spec 2 0 0 mX9_type [.ref 0, .long v, .int n] (wM m) (Ret (some (.int ((f_X9_type m v n).1))) (wM ((f_X9_type m v n).2))) := by
  obtain ⟨zq, hq⟩ : ∃ z, z = (f_X9_type m v n) := ⟨_, rfl⟩
  rw [← hq]
  unfold f_X9_type at hq
  unfold p_X9_type at hp
  refine Sof fun sc => ?_
  refine g_blk hz0 kX9_type_0 ?_
  refine cS0 (s_X9_in (Int32.toInt64 n) ((Int64.ofNat 1)) 8) rfl cwX9_in dX9_type_6 rfl ?_
  refine g_blk hz0 kX9_type_9 ?_
  refine ⟨fun c1 => ?_, fun c1 => ?_⟩
  · rw [if_neg (show ¬ ((f_X9_in (Int32.toInt64 n) ((Int64.ofNat 1)) 8) = 0) from c1)] at hq
    replace hp := hp.2 c1
    refine g_blk hz0 kX9_type_17 ?_
    refine ⟨fun c3 => ?_, fun c3 => ?_⟩
    · rw [if_pos (show ((m.1 23) + n) ≤ (Int32.ofInt 200) from c3)] at hq
      replace hp := hp.1 c3
      refine g_blk hz0 kX9_type_34 ?_
      refine g_le (L2 := [some (.ref 0), some (.long v), none, none, some (.int (n - (Int32.ofInt 1)))]) ⟨rfl, rfl, rfl, trivial⟩ ?_
      exact l_X9_type_39 sc zq 40 m v (n - (Int32.ofInt 1)) hp hq
    · rw [if_neg (show ¬ (((m.1 23) + n) ≤ (Int32.ofInt 200)) from c3)] at hq
      replace hp := hp.2 c3
      refine g_blk hz0 kX9_type_29 ?_
      refine cV [0, 1, 2, 3, 4, 5, 6, 7, 8, 9, 10, 11, 12, 13, 14, 15, 16] (wM m) (s_X9_full m hp.1) rfl cwX9_full dX9_type_30 rfl rfl (hm0_M_M _) ((len_M _).trans (len_M _).symm) (wM ((f_X9_full m).2)) (pw0_M_M _ _) ?_
      replace hp := hp.2
      obtain ⟨g4, hg4⟩ : ∃ z, z = (f_X9_full m) := ⟨_, rfl⟩
      try rw [← hg4] at hp
      try rw [← hg4] at hq
      rw [← hg4]
      refine g_blk hz0 kX9_type_33 ?_
      subst hq
      exact ⟨fun h => (by cases h), rfl, rfl⟩
  · rw [if_pos (show (f_X9_in (Int32.toInt64 n) ((Int64.ofNat 1)) 8) = 0 from c1)] at hq
    replace hp := hp.1 c1
    refine g_blk hz0 kX9_type_12 ?_
    refine cV [0, 1, 2, 3, 4, 5, 6, 7, 8, 9, 10, 11, 12, 13, 14, 15, 16] (wM m) (s_X9_bad m hp.1) rfl cwX9_bad dX9_type_13 rfl rfl (hm0_M_M _) ((len_M _).trans (len_M _).symm) (wM ((f_X9_bad m).2)) (pw0_M_M _ _) ?_
    replace hp := hp.2
    obtain ⟨g2, hg2⟩ : ∃ z, z = (f_X9_bad m) := ⟨_, rfl⟩
    try rw [← hg2] at hp
    try rw [← hg2] at hq
    rw [← hg2]
    refine g_blk hz0 kX9_type_16 ?_
    subst hq
    exact ⟨fun h => (by cases h), rfl, rfl⟩
