def f_X9_reads_51 (K14 : Rec → Int32 × Rec) : Nat → Rec → Int32 → Int32 → Int32 × Rec
  | 0, m, v1, v2 => (0, m)
  | n + 1, m, v1, v2 => if v1 = (Int32.ofInt 4) then (if (Int32.ofInt 4) ≤ v2 then (if (m.1 26) = (Int32.ofInt 3) then (K14 (f_X9_scans (setG m 29 ((m.1 29) + (Int32.ofInt 1))))) else ((Int32.ofInt 0), m)) else (if (m.1 26) = (Int32.ofInt 2) then (f_X9_reads_51 K14 n (f_X9_scans (setA m 28 (upd (m.2 28) (Int32.toNatClampNeg ((((Int32.ofInt 5) * (m.1 29)) + (Int32.ofInt 1)) + v2)) (m.1 27)))) v1 (v2 + (Int32.ofInt 1))) else ((Int32.ofInt 0), m))) else (if (Int32.ofInt 3) ≤ v2 then (if (m.1 26) = (Int32.ofInt 3) then (K14 (f_X9_scans (setG m 29 ((m.1 29) + (Int32.ofInt 1))))) else ((Int32.ofInt 0), m)) else (if (m.1 26) = (Int32.ofInt 2) then (f_X9_reads_51 K14 n (f_X9_scans (setA m 28 (upd (m.2 28) (Int32.toNatClampNeg ((((Int32.ofInt 5) * (m.1 29)) + (Int32.ofInt 1)) + v2)) (m.1 27)))) v1 (v2 + (Int32.ofInt 1))) else ((Int32.ofInt 0), m)))
def p_X9_reads_51 (G14 : Rec → Prop) : Nat → Rec → Int32 → Int32 → Prop
  | 0, _, _, _ => False
  | n + 1, m, v1, v2 => (v1 = (Int32.ofInt 4) → (((Int32.ofInt 4) ≤ v2 → (((m.1 26) = (Int32.ofInt 3) → ((p_X9_scans (setG m 29 ((m.1 29) + (Int32.ofInt 1)))) ∧ (G14 (f_X9_scans (setG m 29 ((m.1 29) + (Int32.ofInt 1))))))) ∧ (¬ ((m.1 26) = (Int32.ofInt 3)) → True))) ∧ (¬ ((Int32.ofInt 4) ≤ v2) → (((m.1 26) = (Int32.ofInt 2) → (vp_in ((((Int32.ofInt 5) * (m.1 29)) + (Int32.ofInt 1)) + v2) 300 ∧ ((p_X9_scans (setA m 28 (upd (m.2 28) (Int32.toNatClampNeg ((((Int32.ofInt 5) * (m.1 29)) + (Int32.ofInt 1)) + v2)) (m.1 27)))) ∧ (p_X9_reads_51 G14 n (f_X9_scans (setA m 28 (upd (m.2 28) (Int32.toNatClampNeg ((((Int32.ofInt 5) * (m.1 29)) + (Int32.ofInt 1)) + v2)) (m.1 27)))) v1 (v2 + (Int32.ofInt 1)))))) ∧ (¬ ((m.1 26) = (Int32.ofInt 2)) → True))))) ∧ (¬ (v1 = (Int32.ofInt 4)) → (((Int32.ofInt 3) ≤ v2 → (((m.1 26) = (Int32.ofInt 3) → ((p_X9_scans (setG m 29 ((m.1 29) + (Int32.ofInt 1)))) ∧ (G14 (f_X9_scans (setG m 29 ((m.1 29) + (Int32.ofInt 1))))))) ∧ (¬ ((m.1 26) = (Int32.ofInt 3)) → True))) ∧ (¬ ((Int32.ofInt 3) ≤ v2) → (((m.1 26) = (Int32.ofInt 2) → (vp_in ((((Int32.ofInt 5) * (m.1 29)) + (Int32.ofInt 1)) + v2) 300 ∧ ((p_X9_scans (setA m 28 (upd (m.2 28) (Int32.toNatClampNeg ((((Int32.ofInt 5) * (m.1 29)) + (Int32.ofInt 1)) + v2)) (m.1 27)))) ∧ (p_X9_reads_51 G14 n (f_X9_scans (setA m 28 (upd (m.2 28) (Int32.toNatClampNeg ((((Int32.ofInt 5) * (m.1 29)) + (Int32.ofInt 1)) + v2)) (m.1 27)))) v1 (v2 + (Int32.ofInt 1)))))) ∧ (¬ ((m.1 26) = (Int32.ofInt 2)) → True)))))
set_option maxHeartbeats 16000000 in
set_option maxRecDepth 20000 in
theorem l_X9_reads_51 (sc : SC)  {K14 : Rec → Int32 × Rec} {G14 : Rec → Prop} (zq : Int32 × Rec) (hK14 : ∀ (m : Rec), G14 m → zq = K14 m → Good sc 3 0 0 17 mX9_reads (Ret (some (.int (zq.1))) (wM (zq.2))) 0 0 14 [some (.ref 0), none, none] [] (wM m)) : ∀ (n : Nat) (m : Rec) (v1 : Int32) (v2 : Int32), p_X9_reads_51 G14 n m v1 v2 → zq = f_X9_reads_51 K14 n m v1 v2 → Good sc 3 0 0 17 mX9_reads (Ret (some (.int (zq.1))) (wM (zq.2))) 0 0 51 [some (.ref 0), some (.int v1), some (.int v2)] [] (wM m) := by
  intro n
  induction n with
  | zero => intro m v1 v2 hp; exact hp.elim
  | succ n ih =>
    intro m v1 v2 hp hq
    unfold p_X9_reads_51 at hp
    unfold f_X9_reads_51 at hq
    refine g_blk hz0 kX9_reads_51 ?_
    refine ⟨fun c5 => ?_, fun c5 => ?_⟩
    · rw [if_neg (show ¬ (v1 = (Int32.ofInt 4)) from c5)] at hq
      replace hp := hp.2 c5
      refine g_blk hz0 kX9_reads_61 ?_
      refine g_blk hz0 kX9_reads_62 ?_
      refine ⟨fun c11 => ?_, fun c11 => ?_⟩
      · rw [if_pos (show (Int32.ofInt 3) ≤ v2 from c11)] at hq
        replace hp := hp.1 c11
        refine g_blk hz0 kX9_reads_104 ?_
        refine ⟨fun c12 => ?_, fun c12 => ?_⟩
        · rw [if_pos (show (m.1 26) = (Int32.ofInt 3) from c12)] at hq
          replace hp := hp.1 c12
          refine g_blk hz0 kX9_reads_114 ?_
          refine ⟨fun h => (by cases h), Or.inl rfl, ?_⟩
          refine g_w (w2 := (wM (setG m 29 ((m.1 29) + (Int32.ofInt 1))))) rfl ?_
          refine cV [0, 1, 2, 3, 4, 5, 6, 7, 8, 9, 10, 11, 12, 13, 14, 15, 16] (wM (setG m 29 ((m.1 29) + (Int32.ofInt 1)))) (s_X9_scans (setG m 29 ((m.1 29) + (Int32.ofInt 1))) hp.1) rfl cwX9_scans dX9_reads_125 rfl rfl (hm0_M_M _) ((len_M _).trans (len_M _).symm) (wM (f_X9_scans (setG m 29 ((m.1 29) + (Int32.ofInt 1))))) (pw0_M_M _ _) ?_
          replace hp := hp.2
          obtain ⟨g13, hg13⟩ : ∃ z, z = (f_X9_scans (setG m 29 ((m.1 29) + (Int32.ofInt 1)))) := ⟨_, rfl⟩
          try rw [← hg13] at hp
          try rw [← hg13] at hq
          rw [← hg13]
          refine g_blk hz0 kX9_reads_128 ?_
          refine g_le (L2 := [some (.ref 0), none, none]) ⟨rfl, trivial⟩ ?_
          exact hK14 g13 hp hq
        · rw [if_neg (show ¬ ((m.1 26) = (Int32.ofInt 3)) from c12)] at hq
          refine g_blk hz0 kX9_reads_112 ?_
          subst hq
          exact ⟨fun _ => Or.inl rfl, rfl, rfl⟩
      · rw [if_neg (show ¬ ((Int32.ofInt 3) ≤ v2) from c11)] at hq
        replace hp := hp.2 c11
        refine g_blk hz0 kX9_reads_65 ?_
        refine ⟨fun c14 => ?_, fun c14 => ?_⟩
        · rw [if_pos (show (m.1 26) = (Int32.ofInt 2) from c14)] at hq
          replace hp := hp.1 c14
          refine g_blk hz0 kX9_reads_75 ?_
          refine ⟨hp.1, ?_⟩
          replace hp := hp.2
          refine g_w (w2 := (wM (setA m 28 (upd (m.2 28) (Int32.toNatClampNeg ((((Int32.ofInt 5) * (m.1 29)) + (Int32.ofInt 1)) + v2)) (m.1 27))))) rfl ?_
          refine cV [0, 1, 2, 3, 4, 5, 6, 7, 8, 9, 10, 11, 12, 13, 14, 15, 16] (wM (setA m 28 (upd (m.2 28) (Int32.toNatClampNeg ((((Int32.ofInt 5) * (m.1 29)) + (Int32.ofInt 1)) + v2)) (m.1 27)))) (s_X9_scans (setA m 28 (upd (m.2 28) (Int32.toNatClampNeg ((((Int32.ofInt 5) * (m.1 29)) + (Int32.ofInt 1)) + v2)) (m.1 27))) hp.1) rfl cwX9_scans dX9_reads_95 rfl rfl (hm0_M_M _) ((len_M _).trans (len_M _).symm) (wM (f_X9_scans (setA m 28 (upd (m.2 28) (Int32.toNatClampNeg ((((Int32.ofInt 5) * (m.1 29)) + (Int32.ofInt 1)) + v2)) (m.1 27))))) (pw0_M_M _ _) ?_
          replace hp := hp.2
          obtain ⟨g15, hg15⟩ : ∃ z, z = (f_X9_scans (setA m 28 (upd (m.2 28) (Int32.toNatClampNeg ((((Int32.ofInt 5) * (m.1 29)) + (Int32.ofInt 1)) + v2)) (m.1 27)))) := ⟨_, rfl⟩
          try rw [← hg15] at hp
          try rw [← hg15] at hq
          rw [← hg15]
          refine g_blk hz0 kX9_reads_98 ?_
          refine g_le (L2 := [some (.ref 0), some (.int v1), some (.int (v2 + (Int32.ofInt 1)))]) ⟨rfl, rfl, rfl, trivial⟩ ?_
          exact ih g15 v1 (v2 + (Int32.ofInt 1)) hp hq
        · rw [if_neg (show ¬ ((m.1 26) = (Int32.ofInt 2)) from c14)] at hq
          refine g_blk hz0 kX9_reads_73 ?_
          subst hq
          exact ⟨fun _ => Or.inl rfl, rfl, rfl⟩
    · rw [if_pos (show v1 = (Int32.ofInt 4) from c5)] at hq
      replace hp := hp.1 c5
      refine g_blk hz0 kX9_reads_57 ?_
      refine g_blk hz0 kX9_reads_62 ?_
      refine ⟨fun c6 => ?_, fun c6 => ?_⟩
      · rw [if_pos (show (Int32.ofInt 4) ≤ v2 from c6)] at hq
        replace hp := hp.1 c6
        refine g_blk hz0 kX9_reads_104 ?_
        refine ⟨fun c7 => ?_, fun c7 => ?_⟩
        · rw [if_pos (show (m.1 26) = (Int32.ofInt 3) from c7)] at hq
          replace hp := hp.1 c7
          refine g_blk hz0 kX9_reads_114 ?_
          refine ⟨fun h => (by cases h), Or.inl rfl, ?_⟩
          refine g_w (w2 := (wM (setG m 29 ((m.1 29) + (Int32.ofInt 1))))) rfl ?_
          refine cV [0, 1, 2, 3, 4, 5, 6, 7, 8, 9, 10, 11, 12, 13, 14, 15, 16] (wM (setG m 29 ((m.1 29) + (Int32.ofInt 1)))) (s_X9_scans (setG m 29 ((m.1 29) + (Int32.ofInt 1))) hp.1) rfl cwX9_scans dX9_reads_125 rfl rfl (hm0_M_M _) ((len_M _).trans (len_M _).symm) (wM (f_X9_scans (setG m 29 ((m.1 29) + (Int32.ofInt 1))))) (pw0_M_M _ _) ?_
          replace hp := hp.2
          obtain ⟨g8, hg8⟩ : ∃ z, z = (f_X9_scans (setG m 29 ((m.1 29) + (Int32.ofInt 1)))) := ⟨_, rfl⟩
          try rw [← hg8] at hp
          try rw [← hg8] at hq
          rw [← hg8]
          refine g_blk hz0 kX9_reads_128 ?_
          refine g_le (L2 := [some (.ref 0), none, none]) ⟨rfl, trivial⟩ ?_
          exact hK14 g8 hp hq
        · rw [if_neg (show ¬ ((m.1 26) = (Int32.ofInt 3)) from c7)] at hq
          refine g_blk hz0 kX9_reads_112 ?_
          subst hq
          exact ⟨fun _ => Or.inl rfl, rfl, rfl⟩
      · rw [if_neg (show ¬ ((Int32.ofInt 4) ≤ v2) from c6)] at hq
        replace hp := hp.2 c6
        refine g_blk hz0 kX9_reads_65 ?_
        refine ⟨fun c9 => ?_, fun c9 => ?_⟩
        · rw [if_pos (show (m.1 26) = (Int32.ofInt 2) from c9)] at hq
          replace hp := hp.1 c9
          refine g_blk hz0 kX9_reads_75 ?_
          refine ⟨hp.1, ?_⟩
          replace hp := hp.2
          refine g_w (w2 := (wM (setA m 28 (upd (m.2 28) (Int32.toNatClampNeg ((((Int32.ofInt 5) * (m.1 29)) + (Int32.ofInt 1)) + v2)) (m.1 27))))) rfl ?_
          refine cV [0, 1, 2, 3, 4, 5, 6, 7, 8, 9, 10, 11, 12, 13, 14, 15, 16] (wM (setA m 28 (upd (m.2 28) (Int32.toNatClampNeg ((((Int32.ofInt 5) * (m.1 29)) + (Int32.ofInt 1)) + v2)) (m.1 27)))) (s_X9_scans (setA m 28 (upd (m.2 28) (Int32.toNatClampNeg ((((Int32.ofInt 5) * (m.1 29)) + (Int32.ofInt 1)) + v2)) (m.1 27))) hp.1) rfl cwX9_scans dX9_reads_95 rfl rfl (hm0_M_M _) ((len_M _).trans (len_M _).symm) (wM (f_X9_scans (setA m 28 (upd (m.2 28) (Int32.toNatClampNeg ((((Int32.ofInt 5) * (m.1 29)) + (Int32.ofInt 1)) + v2)) (m.1 27))))) (pw0_M_M _ _) ?_
          replace hp := hp.2
          obtain ⟨g10, hg10⟩ : ∃ z, z = (f_X9_scans (setA m 28 (upd (m.2 28) (Int32.toNatClampNeg ((((Int32.ofInt 5) * (m.1 29)) + (Int32.ofInt 1)) + v2)) (m.1 27)))) := ⟨_, rfl⟩
          try rw [← hg10] at hp
          try rw [← hg10] at hq
          rw [← hg10]
          refine g_blk hz0 kX9_reads_98 ?_
          refine g_le (L2 := [some (.ref 0), some (.int v1), some (.int (v2 + (Int32.ofInt 1)))]) ⟨rfl, rfl, rfl, trivial⟩ ?_
          exact ih g10 v1 (v2 + (Int32.ofInt 1)) hp hq
        · rw [if_neg (show ¬ ((m.1 26) = (Int32.ofInt 2)) from c9)] at hq
          refine g_blk hz0 kX9_reads_73 ?_
          subst hq
          exact ⟨fun _ => Or.inl rfl, rfl, rfl⟩
def f_X9_reads_14  : Nat → Rec → Int32 × Rec
  | 0, m => (0, m)
  | n + 1, m => if (m.1 26) = 0 then ((Int32.ofInt 1), m) else (if (Int32.ofInt 4) ≤ (m.1 26) then (f_X9_reads_51 (f_X9_reads_14 n) 300 (f_X9_scans (setA m 28 (upd (m.2 28) (Int32.toNatClampNeg ((Int32.ofInt 5) * (m.1 29))) (m.1 26)))) (m.1 26) ((Int32.ofInt 0))) else ((Int32.ofInt 0), m))
def p_X9_reads_14  : Nat → Rec → Prop
  | 0, _ => False
  | n + 1, m => ((m.1 26) = 0 → True) ∧ (¬ ((m.1 26) = 0) → (((Int32.ofInt 4) ≤ (m.1 26) → (vp_in ((Int32.ofInt 5) * (m.1 29)) 300 ∧ ((p_X9_scans (setA m 28 (upd (m.2 28) (Int32.toNatClampNeg ((Int32.ofInt 5) * (m.1 29))) (m.1 26)))) ∧ (p_X9_reads_51 (p_X9_reads_14 n) 300 (f_X9_scans (setA m 28 (upd (m.2 28) (Int32.toNatClampNeg ((Int32.ofInt 5) * (m.1 29))) (m.1 26)))) (m.1 26) ((Int32.ofInt 0)))))) ∧ (¬ ((Int32.ofInt 4) ≤ (m.1 26)) → True)))
set_option maxHeartbeats 16000000 in
set_option maxRecDepth 20000 in
theorem l_X9_reads_14 (sc : SC)   (zq : Int32 × Rec)  : ∀ (n : Nat) (m : Rec) , p_X9_reads_14 n m → zq = f_X9_reads_14 n m → Good sc 3 0 0 17 mX9_reads (Ret (some (.int (zq.1))) (wM (zq.2))) 0 0 14 [some (.ref 0), none, none] [] (wM m) := by
  intro n
  induction n with
  | zero => intro m hp; exact hp.elim
  | succ n ih =>
    intro m hp hq
    unfold p_X9_reads_14 at hp
    unfold f_X9_reads_14 at hq
    refine g_blk hz0 kX9_reads_14 ?_
    refine ⟨fun c2 => ?_, fun c2 => ?_⟩
    · rw [if_pos (show (m.1 26) = 0 from c2)] at hq
      refine g_blk hz0 kX9_reads_131 ?_
      subst hq
      exact ⟨fun _ => Or.inr rfl, rfl, rfl⟩
    · rw [if_neg (show ¬ ((m.1 26) = 0) from c2)] at hq
      replace hp := hp.2 c2
      refine g_blk hz0 kX9_reads_21 ?_
      refine ⟨fun c3 => ?_, fun c3 => ?_⟩
      · rw [if_pos (show (Int32.ofInt 4) ≤ (m.1 26) from c3)] at hq
        replace hp := hp.1 c3
        refine g_blk hz0 kX9_reads_33 ?_
        refine ⟨hp.1, ?_⟩
        replace hp := hp.2
        refine g_w (w2 := (wM (setA m 28 (upd (m.2 28) (Int32.toNatClampNeg ((Int32.ofInt 5) * (m.1 29))) (m.1 26))))) rfl ?_
        refine cV [0, 1, 2, 3, 4, 5, 6, 7, 8, 9, 10, 11, 12, 13, 14, 15, 16] (wM (setA m 28 (upd (m.2 28) (Int32.toNatClampNeg ((Int32.ofInt 5) * (m.1 29))) (m.1 26)))) (s_X9_scans (setA m 28 (upd (m.2 28) (Int32.toNatClampNeg ((Int32.ofInt 5) * (m.1 29))) (m.1 26))) hp.1) rfl cwX9_scans dX9_reads_46 rfl rfl (hm0_M_M _) ((len_M _).trans (len_M _).symm) (wM (f_X9_scans (setA m 28 (upd (m.2 28) (Int32.toNatClampNeg ((Int32.ofInt 5) * (m.1 29))) (m.1 26))))) (pw0_M_M _ _) ?_
        replace hp := hp.2
        obtain ⟨g4, hg4⟩ : ∃ z, z = (f_X9_scans (setA m 28 (upd (m.2 28) (Int32.toNatClampNeg ((Int32.ofInt 5) * (m.1 29))) (m.1 26)))) := ⟨_, rfl⟩
        try rw [← hg4] at hp
        try rw [← hg4] at hq
        rw [← hg4]
        refine g_blk hz0 kX9_reads_49 ?_
        refine g_le (L2 := [some (.ref 0), some (.int (m.1 26)), some (.int (Int32.ofInt 0))]) ⟨rfl, rfl, rfl, trivial⟩ ?_
        exact l_X9_reads_51 sc zq (fun r0 hp hq => ih r0 hp hq) 300 g4 (m.1 26) ((Int32.ofInt 0)) hp hq
      · rw [if_neg (show ¬ ((Int32.ofInt 4) ≤ (m.1 26)) from c3)] at hq
        refine g_blk hz0 kX9_reads_31 ?_
        subst hq
        exact ⟨fun _ => Or.inl rfl, rfl, rfl⟩
def f_X9_reads (m : Rec)  : Int32 × Rec := (f_X9_reads_14 300 (f_X9_scans (setG (setG m 24 ((Int32.ofInt 0))) 29 ((Int32.ofInt 0)))))
def p_X9_reads (m : Rec)  : Prop := (p_X9_scans (setG (setG m 24 ((Int32.ofInt 0))) 29 ((Int32.ofInt 0)))) ∧ (p_X9_reads_14 300 (f_X9_scans (setG (setG m 24 ((Int32.ofInt 0))) 29 ((Int32.ofInt 0)))))
set_option maxHeartbeats 16000000 in
set_option maxRecDepth 20000 in
theorem s_X9_reads (m : Rec)  (hp : p_X9_reads m) : Spec 3 0 0 mX9_reads [.ref 0] (wM m) (Ret (some (.int ((f_X9_reads m).1))) (wM ((f_X9_reads m).2))) := by
  obtain ⟨zq, hq⟩ : ∃ z, z = (f_X9_reads m) := ⟨_, rfl⟩
  rw [← hq]
  unfold f_X9_reads at hq
  unfold p_X9_reads at hp
  refine Sof fun sc => ?_
  refine g_blk hz0 kX9_reads_0 ?_
  refine ⟨fun h => (by cases h), Or.inl rfl, ?_⟩
  refine ⟨fun h => (by cases h), Or.inl rfl, ?_⟩
  refine g_w (w2 := (wM (setG (setG m 24 ((Int32.ofInt 0))) 29 ((Int32.ofInt 0))))) rfl ?_
  refine cV [0, 1, 2, 3, 4, 5, 6, 7, 8, 9, 10, 11, 12, 13, 14, 15, 16] (wM (setG (setG m 24 ((Int32.ofInt 0))) 29 ((Int32.ofInt 0)))) (s_X9_scans (setG (setG m 24 ((Int32.ofInt 0))) 29 ((Int32.ofInt 0))) hp.1) rfl cwX9_scans dX9_reads_11 rfl rfl (hm0_M_M _) ((len_M _).trans (len_M _).symm) (wM (f_X9_scans (setG (setG m 24 ((Int32.ofInt 0))) 29 ((Int32.ofInt 0))))) (pw0_M_M _ _) ?_
  replace hp := hp.2
  obtain ⟨g1, hg1⟩ : ∃ z, z = (f_X9_scans (setG (setG m 24 ((Int32.ofInt 0))) 29 ((Int32.ofInt 0)))) := ⟨_, rfl⟩
  try rw [← hg1] at hp
  try rw [← hg1] at hq
  rw [← hg1]
  refine g_le (L2 := [some (.ref 0), none, none]) ⟨rfl, trivial⟩ ?_
  exact l_X9_reads_14 sc zq 300 g1 hp hq
