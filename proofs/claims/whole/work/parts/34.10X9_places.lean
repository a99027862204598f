def f_X9_places_19 (K4 : Rec → Int32 → Int32 → Int32) : Nat → Rec → Int32 → Int32 → Int32 → Int32 → Int32
  | 0, m, v1, v2, v3, v4 => 0
  | n + 1, m, v1, v2, v3, v4 => if v2 ≤ v4 then (if v3 = 0 then (K4 m (v1 + (Int32.ofInt 0)) (v2 + (Int32.ofInt 1))) else (K4 m (v1 + (Int32.ofInt 1)) (v2 + (Int32.ofInt 1)))) else (if v3 = 0 then (if v3 = 0 then (K4 m (v1 + (Int32.ofInt 0)) (v2 + (Int32.ofInt 1))) else (K4 m (v1 + (Int32.ofInt 1)) (v2 + (Int32.ofInt 1)))) else (if (f_X9_isAt m v4 ((m.2 4) (Int32.toNatClampNeg v2)) ((m.2 5) (Int32.toNatClampNeg v2))) = 0 then (f_X9_places_19 K4 n m v1 v2 ((Int32.ofInt 1)) (v4 + (Int32.ofInt 1))) else (f_X9_places_19 K4 n m v1 v2 ((Int32.ofInt 0)) (v4 + (Int32.ofInt 1)))))
def p_X9_places_19 (G4 : Rec → Int32 → Int32 → Prop) : Nat → Rec → Int32 → Int32 → Int32 → Int32 → Prop
  | 0, _, _, _, _, _ => False
  | n + 1, m, v1, v2, v3, v4 => (v2 ≤ v4 → ((v3 = 0 → (G4 m (v1 + (Int32.ofInt 0)) (v2 + (Int32.ofInt 1)))) ∧ (¬ (v3 = 0) → (G4 m (v1 + (Int32.ofInt 1)) (v2 + (Int32.ofInt 1)))))) ∧ (¬ (v2 ≤ v4) → ((v3 = 0 → ((v3 = 0 → (G4 m (v1 + (Int32.ofInt 0)) (v2 + (Int32.ofInt 1)))) ∧ (¬ (v3 = 0) → (G4 m (v1 + (Int32.ofInt 1)) (v2 + (Int32.ofInt 1)))))) ∧ (¬ (v3 = 0) → (vp_in v2 36 ∧ (vp_in v2 36 ∧ ((p_X9_isAt m v4 ((m.2 4) (Int32.toNatClampNeg v2)) ((m.2 5) (Int32.toNatClampNeg v2))) ∧ (((f_X9_isAt m v4 ((m.2 4) (Int32.toNatClampNeg v2)) ((m.2 5) (Int32.toNatClampNeg v2))) = 0 → (p_X9_places_19 G4 n m v1 v2 ((Int32.ofInt 1)) (v4 + (Int32.ofInt 1)))) ∧ (¬ ((f_X9_isAt m v4 ((m.2 4) (Int32.toNatClampNeg v2)) ((m.2 5) (Int32.toNatClampNeg v2))) = 0) → (p_X9_places_19 G4 n m v1 v2 ((Int32.ofInt 0)) (v4 + (Int32.ofInt 1)))))))))))
set_option maxHeartbeats 16000000 in
set_option maxRecDepth 20000 in
theorem l_X9_places_19 (sc : SC) (m : Rec) {K4 : Rec → Int32 → Int32 → Int32} {G4 : Rec → Int32 → Int32 → Prop} (zq : Int32) (hK4 : ∀ (v1 : Int32) (v2 : Int32), G4 m v1 v2 → zq = K4 m v1 v2 → Good sc 3 0 0 17 mX9_places (Ret (some (.int (zq))) (wM m)) 0 0 4 [some (.ref 0), some (.int v1), some (.int v2), none, none] [] (wM m)) : ∀ (n : Nat)  (v1 : Int32) (v2 : Int32) (v3 : Int32) (v4 : Int32), p_X9_places_19 G4 n m v1 v2 v3 v4 → zq = f_X9_places_19 K4 n m v1 v2 v3 v4 → Good sc 3 0 0 17 mX9_places (Ret (some (.int (zq))) (wM m)) 0 0 19 [some (.ref 0), some (.int v1), some (.int v2), some (.int v3), some (.int v4)] [] (wM m) := by
  intro n
  induction n with
  | zero => intro v1 v2 v3 v4 hp; exact hp.elim
  | succ n ih =>
    intro v1 v2 v3 v4 hp hq
    unfold p_X9_places_19 at hp
    unfold f_X9_places_19 at hq
    refine g_blk hz0 kX9_places_19 ?_
    refine ⟨fun c2 => ?_, fun c2 => ?_⟩
    · rw [if_pos (show v2 ≤ v4 from c2)] at hq
      replace hp := hp.1 c2
      refine g_blk hz0 kX9_places_62 ?_
      refine ⟨fun c3 => ?_, fun c3 => ?_⟩
      · rw [if_pos (show v3 = 0 from c3)] at hq
        replace hp := hp.1 c3
        refine g_blk hz0 kX9_places_71 ?_
        refine g_blk hz0 kX9_places_72 ?_
        refine g_le (L2 := [some (.ref 0), some (.int (v1 + (Int32.ofInt 0))), some (.int (v2 + (Int32.ofInt 1))), none, none]) ⟨rfl, rfl, rfl, trivial⟩ ?_
        exact hK4 (v1 + (Int32.ofInt 0)) (v2 + (Int32.ofInt 1)) hp hq
      · rw [if_neg (show ¬ (v3 = 0) from c3)] at hq
        replace hp := hp.2 c3
        refine g_blk hz0 kX9_places_67 ?_
        refine g_blk hz0 kX9_places_72 ?_
        refine g_le (L2 := [some (.ref 0), some (.int (v1 + (Int32.ofInt 1))), some (.int (v2 + (Int32.ofInt 1))), none, none]) ⟨rfl, rfl, rfl, trivial⟩ ?_
        exact hK4 (v1 + (Int32.ofInt 1)) (v2 + (Int32.ofInt 1)) hp hq
    · rw [if_neg (show ¬ (v2 ≤ v4) from c2)] at hq
      replace hp := hp.2 c2
      refine g_blk hz0 kX9_places_25 ?_
      refine ⟨fun c4 => ?_, fun c4 => ?_⟩
      · rw [if_pos (show v3 = 0 from c4)] at hq
        replace hp := hp.1 c4
        refine g_blk hz0 kX9_places_62 ?_
        refine ⟨fun c5 => ?_, fun c5 => ?_⟩
        · rw [if_pos (show v3 = 0 from c5)] at hq
          replace hp := hp.1 c5
          refine g_blk hz0 kX9_places_71 ?_
          refine g_blk hz0 kX9_places_72 ?_
          refine g_le (L2 := [some (.ref 0), some (.int (v1 + (Int32.ofInt 0))), some (.int (v2 + (Int32.ofInt 1))), none, none]) ⟨rfl, rfl, rfl, trivial⟩ ?_
          exact hK4 (v1 + (Int32.ofInt 0)) (v2 + (Int32.ofInt 1)) hp hq
        · rw [if_neg (show ¬ (v3 = 0) from c5)] at hq
          replace hp := hp.2 c5
          refine g_blk hz0 kX9_places_67 ?_
          refine g_blk hz0 kX9_places_72 ?_
          refine g_le (L2 := [some (.ref 0), some (.int (v1 + (Int32.ofInt 1))), some (.int (v2 + (Int32.ofInt 1))), none, none]) ⟨rfl, rfl, rfl, trivial⟩ ?_
          exact hK4 (v1 + (Int32.ofInt 1)) (v2 + (Int32.ofInt 1)) hp hq
      · rw [if_neg (show ¬ (v3 = 0) from c4)] at hq
        replace hp := hp.2 c4
        refine g_blk hz0 kX9_places_29 ?_
        refine ⟨hp.1, ?_⟩
        replace hp := hp.2
        refine ⟨hp.1, ?_⟩
        replace hp := hp.2
        refine cVp [0, 1, 2, 3, 4, 5, 6, 7, 8, 9, 10, 11, 12, 13, 14, 15, 16] (wM m) (s_X9_isAt m v4 ((m.2 4) (Int32.toNatClampNeg v2)) ((m.2 5) (Int32.toNatClampNeg v2)) hp.1) rfl cwX9_isAt dX9_places_44 rfl rfl (hm0_M_M _) ?_
        replace hp := hp.2
        refine g_blk hz0 kX9_places_47 ?_
        refine ⟨fun c6 => ?_, fun c6 => ?_⟩
        · rw [if_neg (show ¬ ((f_X9_isAt m v4 ((m.2 4) (Int32.toNatClampNeg v2)) ((m.2 5) (Int32.toNatClampNeg v2))) = 0) from c6)] at hq
          replace hp := hp.2 c6
          refine g_blk hz0 kX9_places_54 ?_
          refine g_blk hz0 kX9_places_55 ?_
          refine g_le (L2 := [some (.ref 0), some (.int v1), some (.int v2), some (.int (Int32.ofInt 0)), some (.int (v4 + (Int32.ofInt 1)))]) ⟨rfl, rfl, rfl, rfl, rfl, trivial⟩ ?_
          exact ih v1 v2 ((Int32.ofInt 0)) (v4 + (Int32.ofInt 1)) hp hq
        · rw [if_pos (show (f_X9_isAt m v4 ((m.2 4) (Int32.toNatClampNeg v2)) ((m.2 5) (Int32.toNatClampNeg v2))) = 0 from c6)] at hq
          replace hp := hp.1 c6
          refine g_blk hz0 kX9_places_50 ?_
          refine g_blk hz0 kX9_places_55 ?_
          refine g_le (L2 := [some (.ref 0), some (.int v1), some (.int v2), some (.int (Int32.ofInt 1)), some (.int (v4 + (Int32.ofInt 1)))]) ⟨rfl, rfl, rfl, rfl, rfl, trivial⟩ ?_
          exact ih v1 v2 ((Int32.ofInt 1)) (v4 + (Int32.ofInt 1)) hp hq
def f_X9_places_4  : Nat → Rec → Int32 → Int32 → Int32
  | 0, m, v1, v2 => 0
  | n + 1, m, v1, v2 => if (Int32.ofInt 36) ≤ v2 then v1 else (f_X9_places_19 (f_X9_places_4 n) 40 m v1 v2 (f_X9_isCell m v2) ((Int32.ofInt 0)))
def p_X9_places_4  : Nat → Rec → Int32 → Int32 → Prop
  | 0, _, _, _ => False
  | n + 1, m, v1, v2 => ((Int32.ofInt 36) ≤ v2 → True) ∧ (¬ ((Int32.ofInt 36) ≤ v2) → ((p_X9_isCell m v2) ∧ (p_X9_places_19 (p_X9_places_4 n) 40 m v1 v2 (f_X9_isCell m v2) ((Int32.ofInt 0)))))
set_option maxHeartbeats 16000000 in
set_option maxRecDepth 20000 in
theorem l_X9_places_4 (sc : SC) (m : Rec)  (zq : Int32)  : ∀ (n : Nat)  (v1 : Int32) (v2 : Int32), p_X9_places_4 n m v1 v2 → zq = f_X9_places_4 n m v1 v2 → Good sc 3 0 0 17 mX9_places (Ret (some (.int (zq))) (wM m)) 0 0 4 [some (.ref 0), some (.int v1), some (.int v2), none, none] [] (wM m) := by
  intro n
  induction n with
  | zero => intro v1 v2 hp; exact hp.elim
  | succ n ih =>
    intro v1 v2 hp hq
    unfold p_X9_places_4 at hp
    unfold f_X9_places_4 at hq
    refine g_blk hz0 kX9_places_4 ?_
    refine ⟨fun c1 => ?_, fun c1 => ?_⟩
    · rw [if_pos (show (Int32.ofInt 36) ≤ v2 from c1)] at hq
      refine g_blk hz0 kX9_places_80 ?_
      subst hq
      exact ⟨fun h => (by cases h), rfl, rfl⟩
    · rw [if_neg (show ¬ ((Int32.ofInt 36) ≤ v2) from c1)] at hq
      replace hp := hp.2 c1
      refine g_blk hz0 kX9_places_10 ?_
      refine cVp [0, 1, 2, 3, 4, 5, 6, 7, 8, 9, 10, 11, 12, 13, 14, 15, 16] (wM m) (s_X9_isCell m v2 hp.1) rfl cwX9_isCell dX9_places_12 rfl rfl (hm0_M_M _) ?_
      replace hp := hp.2
      refine g_blk hz0 kX9_places_15 ?_
      refine g_le (L2 := [some (.ref 0), some (.int v1), some (.int v2), some (.int (f_X9_isCell m v2)), some (.int (Int32.ofInt 0))]) ⟨rfl, rfl, rfl, rfl, rfl, trivial⟩ ?_
      exact l_X9_places_19 sc m zq (fun r0 r1 hp hq => ih r0 r1 hp hq) 40 v1 v2 (f_X9_isCell m v2) ((Int32.ofInt 0)) hp hq
def f_X9_places (m : Rec)  : Int32 := (f_X9_places_4 40 m ((Int32.ofInt 0)) ((Int32.ofInt 0)))
def p_X9_places (m : Rec)  : Prop := (p_X9_places_4 40 m ((Int32.ofInt 0)) ((Int32.ofInt 0)))
set_option maxHeartbeats 16000000 in
set_option maxRecDepth 20000 in
theorem s_X9_places (m : Rec)  (hp : p_X9_places m) : Spec 3 0 0 mX9_places [.ref 0] (wM m) (Ret (some (.int ((f_X9_places m)))) (wM m)) := by
  obtain ⟨zq, hq⟩ : ∃ z, z = (f_X9_places m) := ⟨_, rfl⟩
  rw [← hq]
  unfold f_X9_places at hq
  unfold p_X9_places at hp
  refine Sof fun sc => ?_
  refine g_blk hz0 kX9_places_0 ?_
  refine g_le (L2 := [some (.ref 0), some (.int (Int32.ofInt 0)), some (.int (Int32.ofInt 0)), none, none]) ⟨rfl, rfl, rfl, trivial⟩ ?_
  exact l_X9_places_4 sc m zq 40 ((Int32.ofInt 0)) ((Int32.ofInt 0)) hp hq
