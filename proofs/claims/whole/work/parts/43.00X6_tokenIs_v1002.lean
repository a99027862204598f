def f_X6_tokenIs_v1002_20  : Nat → Rec → Int32 → Int32
  | 0, e, v2 => 0
  | n + 1, e, v2 => if 4 ≤ v2 then (Int32.ofInt 1) else (if (f_X6_byteAt e ((e.1 5) + v2)) = (chF1002 (Int32.toNatClampNeg v2)) then (f_X6_tokenIs_v1002_20 n e (v2 + (Int32.ofInt 1))) else (Int32.ofInt 0))
def p_X6_tokenIs_v1002_20  : Nat → Rec → Int32 → Prop
  | 0, _, _ => False
  | n + 1, e, v2 => (4 ≤ v2 → True) ∧ (¬ (4 ≤ v2) → ((p_X6_byteAt e ((e.1 5) + v2)) ∧ (vp_in v2 4 ∧ (((f_X6_byteAt e ((e.1 5) + v2)) = (chF1002 (Int32.toNatClampNeg v2)) → (p_X6_tokenIs_v1002_20 n e (v2 + (Int32.ofInt 1)))) ∧ (¬ ((f_X6_byteAt e ((e.1 5) + v2)) = (chF1002 (Int32.toNatClampNeg v2))) → True)))))
set_option maxHeartbeats 16000000 in
set_option maxRecDepth 20000 in
theorem l_X6_tokenIs_v1002_20 (sc : SC) (e : Rec)  (zq : Int32)  : ∀ (n : Nat)  (v2 : Int32), p_X6_tokenIs_v1002_20 n e v2 → zq = f_X6_tokenIs_v1002_20 n e v2 → Good sc 6 0 0 3 mX6_tokenIs (Ret (some (.int (zq))) (wE e)) 0 0 20 [some (.ref 0), some (.ref 1002), some (.int v2)] [] (wE e) := by
  intro n
  induction n with
  | zero => intro v2 hp; exact hp.elim
  | succ n ih =>
    intro v2 hp hq
    unfold p_X6_tokenIs_v1002_20 at hp
    unfold f_X6_tokenIs_v1002_20 at hq
    refine g_blk hz0 kX6_tokenIs_20 ?_
    refine g_strlen1002 (by decide) hz0 dX6_tokenIs_22 ?_
    refine g_blk hz0 kX6_tokenIs_25 ?_
    refine ⟨fun c2 => ?_, fun c2 => ?_⟩
    · rw [if_pos (show 4 ≤ v2 from c2)] at hq
      refine g_blk hz0 kX6_tokenIs_54 ?_
      subst hq
      exact ⟨fun _ => Or.inr rfl, rfl, rfl⟩
    · rw [if_neg (show ¬ (4 ≤ v2) from c2)] at hq
      replace hp := hp.2 c2
      refine g_blk hz0 kX6_tokenIs_28 ?_
      refine cVp [0, 1, 2] (wE e) (s_X6_byteAt e ((e.1 5) + v2) hp.1) rfl cwX6_byteAt dX6_tokenIs_35 rfl rfl (hm22_E_E _) ?_
      replace hp := hp.2
      refine g_blk hz0 kX6_tokenIs_38 ?_
      refine g_charAt1002 (by decide) hz0 hp.1 dX6_tokenIs_40 ?_
      replace hp := hp.2
      refine g_blk hz0 kX6_tokenIs_43 ?_
      refine ⟨fun c3 => ?_, fun c3 => ?_⟩
      · rw [if_pos (show (f_X6_byteAt e ((e.1 5) + v2)) = (chF1002 (Int32.toNatClampNeg v2)) from c3)] at hq
        replace hp := hp.1 c3
        refine g_blk hz0 kX6_tokenIs_48 ?_
        refine g_le (L2 := [some (.ref 0), some (.ref 1002), some (.int (v2 + (Int32.ofInt 1)))]) ⟨rfl, rfl, rfl, trivial⟩ ?_
        exact ih (v2 + (Int32.ofInt 1)) hp hq
      · rw [if_neg (show ¬ ((f_X6_byteAt e ((e.1 5) + v2)) = (chF1002 (Int32.toNatClampNeg v2))) from c3)] at hq
        refine g_blk hz0 kX6_tokenIs_46 ?_
        subst hq
        exact ⟨fun _ => Or.inl rfl, rfl, rfl⟩
def f_X6_tokenIs_v1002 (e : Rec)  : Int32 := if ((e.1 4) - (e.1 5)) = 4 then (f_X6_tokenIs_v1002_20 40 e ((Int32.ofInt 0))) else (Int32.ofInt 0)
def p_X6_tokenIs_v1002 (e : Rec)  : Prop := (((e.1 4) - (e.1 5)) = 4 → (p_X6_tokenIs_v1002_20 40 e ((Int32.ofInt 0)))) ∧ (¬ (((e.1 4) - (e.1 5)) = 4) → True)
set_option maxHeartbeats 16000000 in
set_option maxRecDepth 20000 in
theorem s_X6_tokenIs_v1002 (e : Rec)  (hp : p_X6_tokenIs_v1002 e) : Spec 6 0 0 mX6_tokenIs [.ref 0, .ref 1002] (wE e) (Ret (some (.int ((f_X6_tokenIs_v1002 e)))) (wE e)) := by
  obtain ⟨zq, hq⟩ : ∃ z, z = (f_X6_tokenIs_v1002 e) := ⟨_, rfl⟩
  rw [← hq]
  unfold f_X6_tokenIs_v1002 at hq
  unfold p_X6_tokenIs_v1002 at hp
  refine Sof fun sc => ?_
  refine g_blk hz0 kX6_tokenIs_0 ?_
  refine g_strlen1002 (by decide) hz0 dX6_tokenIs_10 ?_
  refine g_blk hz0 kX6_tokenIs_13 ?_
  refine ⟨fun c1 => ?_, fun c1 => ?_⟩
  · rw [if_pos (show ((e.1 4) - (e.1 5)) = 4 from c1)] at hq
    replace hp := hp.1 c1
    refine g_blk hz0 kX6_tokenIs_18 ?_
    refine g_le (L2 := [some (.ref 0), some (.ref 1002), some (.int (Int32.ofInt 0))]) ⟨rfl, rfl, rfl, trivial⟩ ?_
    exact l_X6_tokenIs_v1002_20 sc e zq 40 ((Int32.ofInt 0)) hp hq
  · rw [if_neg (show ¬ (((e.1 4) - (e.1 5)) = 4) from c1)] at hq
    refine g_blk hz0 kX6_tokenIs_16 ?_
    subst hq
    exact ⟨fun _ => Or.inl rfl, rfl, rfl⟩
