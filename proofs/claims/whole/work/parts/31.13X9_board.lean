def f_X9_board_88  : Nat → Rec → Int32 → Int32 → Int32 → Int32 × Rec
  | 0, m, v1, v2, v3 => (0, m)
  | n + 1, m, v1, v2, v3 => if (Int32.ofInt 36) ≤ v3 then ((v1 * v2), m) else (f_X9_board_88 n (setA m 0 (upd (m.2 0) (Int32.toNatClampNeg ((Int32.ofInt 52) + v3)) (Int32.ofInt 0))) v1 v2 (v3 + (Int32.ofInt 1)))
def p_X9_board_88  : Nat → Rec → Int32 → Int32 → Int32 → Prop
  | 0, _, _, _, _ => False
  | n + 1, m, v1, v2, v3 => ((Int32.ofInt 36) ≤ v3 → True) ∧ (¬ ((Int32.ofInt 36) ≤ v3) → (vp_in ((Int32.ofInt 52) + v3) 248 ∧ (p_X9_board_88 n (setA m 0 (upd (m.2 0) (Int32.toNatClampNeg ((Int32.ofInt 52) + v3)) (Int32.ofInt 0))) v1 v2 (v3 + (Int32.ofInt 1)))))
set_option maxHeartbeats 16000000 in
set_option maxRecDepth 20000 in
theorem l_X9_board_88 (sc : SC)   (zq : Int32 × Rec)  : ∀ (n : Nat) (m : Rec) (v1 : Int32) (v2 : Int32) (v3 : Int32), p_X9_board_88 n m v1 v2 v3 → zq = f_X9_board_88 n m v1 v2 v3 → Good sc 2 0 0 17 mX9_board (Ret (some (.int (zq.1))) (wM (zq.2))) 0 0 88 [some (.ref 0), some (.int v1), some (.int v2), some (.int v3)] [] (wM m) := by
  intro n
  induction n with
  | zero => intro m v1 v2 v3 hp; exact hp.elim
  | succ n ih =>
    intro m v1 v2 v3 hp hq
    unfold p_X9_board_88 at hp
    unfold f_X9_board_88 at hq
    refine g_blk hz0 kX9_board_88 ?_
    refine ⟨fun c5 => ?_, fun c5 => ?_⟩
    · rw [if_pos (show (Int32.ofInt 36) ≤ v3 from c5)] at hq
      refine g_blk hz0 kX9_board_110 ?_
      subst hq
      exact ⟨fun h => (by cases h), rfl, rfl⟩
    · rw [if_neg (show ¬ ((Int32.ofInt 36) ≤ v3) from c5)] at hq
      replace hp := hp.2 c5
      refine g_blk hz0 kX9_board_94 ?_
      refine ⟨hp.1, ?_⟩
      replace hp := hp.2
      refine g_le (L2 := [some (.ref 0), some (.int v1), some (.int v2), some (.int (v3 + (Int32.ofInt 1)))]) ⟨rfl, rfl, rfl, rfl, trivial⟩ ?_
      exact ih (setA m 0 (upd (m.2 0) (Int32.toNatClampNeg ((Int32.ofInt 52) + v3)) (Int32.ofInt 0))) v1 v2 (v3 + (Int32.ofInt 1)) hp hq
def f_X9_board (m : Rec) (w : Int32) (h : Int32) : Int32 × Rec := if (f_X9_in (Int32.toInt64 w) 2 6) = 0 then (((f_X9_bad m).1), ((f_X9_bad m).2)) else (if (f_X9_in (Int32.toInt64 h) 2 6) = 0 then (((f_X9_bad m).1), ((f_X9_bad m).2)) else (f_X9_board_88 40 (setA m 0 (upd (upd (upd (upd (upd (upd (upd (m.2 0) (Int32.toNatClampNeg (Int32.ofInt 0)) w) (Int32.toNatClampNeg (Int32.ofInt 1)) h) (Int32.toNatClampNeg (Int32.ofInt 2)) (Int32.ofInt 0)) (Int32.toNatClampNeg (Int32.ofInt 6)) (Int32.ofInt 0)) (Int32.toNatClampNeg (Int32.ofInt 16)) (Int32.ofInt 0)) (Int32.toNatClampNeg (Int32.ofInt 26)) (Int32.ofInt 0)) (Int32.toNatClampNeg (Int32.ofInt 27)) (Int32.ofInt 0))) w h ((Int32.ofInt 0))))
def p_X9_board (m : Rec) (w : Int32) (h : Int32) : Prop := ((f_X9_in (Int32.toInt64 w) 2 6) = 0 → ((p_X9_bad m) ∧ True)) ∧ (¬ ((f_X9_in (Int32.toInt64 w) 2 6) = 0) → (((f_X9_in (Int32.toInt64 h) 2 6) = 0 → ((p_X9_bad m) ∧ True)) ∧ (¬ ((f_X9_in (Int32.toInt64 h) 2 6) = 0) → (p_X9_board_88 40 (setA m 0 (upd (upd (upd (upd (upd (upd (upd (m.2 0) (Int32.toNatClampNeg (Int32.ofInt 0)) w) (Int32.toNatClampNeg (Int32.ofInt 1)) h) (Int32.toNatClampNeg (Int32.ofInt 2)) (Int32.ofInt 0)) (Int32.toNatClampNeg (Int32.ofInt 6)) (Int32.ofInt 0)) (Int32.toNatClampNeg (Int32.ofInt 16)) (Int32.ofInt 0)) (Int32.toNatClampNeg (Int32.ofInt 26)) (Int32.ofInt 0)) (Int32.toNatClampNeg (Int32.ofInt 27)) (Int32.ofInt 0))) w h ((Int32.ofInt 0))))))
set_option maxHeartbeats 16000000 in
set_option maxRecDepth 20000 in
theorem s_X9_board (m : Rec) (w : Int32) (h : Int32) (hp : p_X9_board m w h) : Spec 2 0 0 mX9_board [.ref 0, .int w, .int h] (wM m) (Ret (some (.int ((f_X9_board m w h).1))) (wM ((f_X9_board m w h).2))) := by
  obtain ⟨zq, hq⟩ : ∃ z, z = (f_X9_board m w h) := ⟨_, rfl⟩
  rw [← hq]
  unfold f_X9_board at hq
  unfold p_X9_board at hp
  refine Sof fun sc => ?_
  refine g_blk hz0 kX9_board_0 ?_
  refine cS0 (s_X9_in (Int32.toInt64 w) 2 6) rfl cwX9_in dX9_board_8 rfl ?_
  refine g_blk hz0 kX9_board_11 ?_
  refine ⟨fun c1 => ?_, fun c1 => ?_⟩
  · rw [if_pos (show (f_X9_in (Int32.toInt64 w) 2 6) = 0 from c1)] at hq
    replace hp := hp.1 c1
    refine g_blk hz0 kX9_board_28 ?_
    refine cV [0, 1, 2, 3, 4, 5, 6, 7, 8, 9, 10, 11, 12, 13, 14, 15, 16] (wM m) (s_X9_bad m hp.1) rfl cwX9_bad dX9_board_29 rfl rfl (hm0_M_M _) ((len_M _).trans (len_M _).symm) (wM ((f_X9_bad m).2)) (pw0_M_M _ _) ?_
    replace hp := hp.2
    obtain ⟨g2, hg2⟩ : ∃ z, z = (f_X9_bad m) := ⟨_, rfl⟩
    try rw [← hg2] at hp
    try rw [← hg2] at hq
    rw [← hg2]
    refine g_blk hz0 kX9_board_32 ?_
    subst hq
    exact ⟨fun h => (by cases h), rfl, rfl⟩
  · rw [if_neg (show ¬ ((f_X9_in (Int32.toInt64 w) 2 6) = 0) from c1)] at hq
    replace hp := hp.2 c1
    refine g_blk hz0 kX9_board_14 ?_
    refine cS0 (s_X9_in (Int32.toInt64 h) 2 6) rfl cwX9_in dX9_board_22 rfl ?_
    refine g_blk hz0 kX9_board_25 ?_
    refine ⟨fun c3 => ?_, fun c3 => ?_⟩
    · rw [if_neg (show ¬ ((f_X9_in (Int32.toInt64 h) 2 6) = 0) from c3)] at hq
      replace hp := hp.2 c3
      refine g_blk hz0 kX9_board_33 ?_
      refine ⟨vinL (by decide), ?_⟩
      refine ⟨vinL (by decide), ?_⟩
      refine ⟨vinL (by decide), ?_⟩
      refine ⟨vinL (by decide), ?_⟩
      refine ⟨vinL (by decide), ?_⟩
      refine ⟨vinL (by decide), ?_⟩
      refine ⟨vinL (by decide), ?_⟩
      refine g_le (L2 := [some (.ref 0), some (.int w), some (.int h), some (.int (Int32.ofInt 0))]) ⟨rfl, rfl, rfl, rfl, trivial⟩ ?_
      exact l_X9_board_88 sc zq 40 (setA m 0 (upd (upd (upd (upd (upd (upd (upd (m.2 0) (Int32.toNatClampNeg (Int32.ofInt 0)) w) (Int32.toNatClampNeg (Int32.ofInt 1)) h) (Int32.toNatClampNeg (Int32.ofInt 2)) (Int32.ofInt 0)) (Int32.toNatClampNeg (Int32.ofInt 6)) (Int32.ofInt 0)) (Int32.toNatClampNeg (Int32.ofInt 16)) (Int32.ofInt 0)) (Int32.toNatClampNeg (Int32.ofInt 26)) (Int32.ofInt 0)) (Int32.toNatClampNeg (Int32.ofInt 27)) (Int32.ofInt 0))) w h ((Int32.ofInt 0)) hp hq
    · rw [if_pos (show (f_X9_in (Int32.toInt64 h) 2 6) = 0 from c3)] at hq
      replace hp := hp.1 c3
      refine g_blk hz0 kX9_board_28 ?_
      refine cV [0, 1, 2, 3, 4, 5, 6, 7, 8, 9, 10, 11, 12, 13, 14, 15, 16] (wM m) (s_X9_bad m hp.1) rfl cwX9_bad dX9_board_29 rfl rfl (hm0_M_M _) ((len_M _).trans (len_M _).symm) (wM ((f_X9_bad m).2)) (pw0_M_M _ _) ?_
      replace hp := hp.2
      obtain ⟨g4, hg4⟩ : ∃ z, z = (f_X9_bad m) := ⟨_, rfl⟩
      try rw [← hg4] at hp
      try rw [← hg4] at hq
      rw [← hg4]
      refine g_blk hz0 kX9_board_32 ?_
      subst hq
      exact ⟨fun h => (by cases h), rfl, rfl⟩
