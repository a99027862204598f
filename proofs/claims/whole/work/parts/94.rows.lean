/-! layer 3: rows that are saved and brought back -/
theorem sv9 {s : Rec} {nf : Nat} (hn : nf ≤ 3) (h2 : s.1 2 = Int32.ofNat nf) : ∀ (n j : Nat) (a : Rec), j ≤ 3 * nf → 3 * nf < n + j → (f_X4_save_9 n s a (nI j)).2 0 = fun i => if 3 + j ≤ i ∧ i < 3 + 3 * nf then s.2 13 (i - 3) else a.2 0 i := by
  have e3 : Int32.ofInt 3 * s.1 2 = nI (3 * nf) := by
    rw [h2]; exact pk_mul 3 nf
  intro n
  induction n with
  | zero => intro j a h1 h2; omega
  | succ n ih =>
    intro j a h1 h2
    rw [f_X4_save_9, e3]
    by_cases q : j = 3 * nf
    · rw [if_pos (by rw [q]; exact Int32.le_refl _)]
      funext i
      rw [if_neg (by omega)]
    · have a3 : Int32.ofInt 3 + nI j = nI (3 + j) := nI_add 3 j
      rw [if_neg (nI_ge (by omega) (by omega)), ni1, a3, nI_clamp (by omega), nI_clamp (by omega), ih (j + 1) _ (by omega) (by omega)]
      funext i
      show (if 3 + (j + 1) ≤ i ∧ i < 3 + 3 * nf then s.2 13 (i - 3) else upd (a.2 0) (3 + j) (s.2 13 j) i) = _
      rw [upd_at]
      by_cases z : i = 3 + j
      · rw [if_neg (by omega), if_pos z, if_pos (by omega), z, show 3 + j - 3 = j by omega]
      · by_cases z2 : 3 + (j + 1) ≤ i ∧ i < 3 + 3 * nf
        · rw [if_pos z2, if_pos (by omega)]
        · rw [if_neg z2, if_neg z, if_neg (by omega)]
theorem sv_row {s p a : Rec} {nf : Nat} (hn : nf ≤ 3) (h2 : s.1 2 = Int32.ofNat nf) : (f_X3_save s p a).2 0 0 = p.1 6 ∧ (f_X3_save s p a).2 0 1 = p.1 7 ∧ (f_X3_save s p a).2 0 2 = s.1 2 ∧ (∀ i, i < 3 * nf → (f_X3_save s p a).2 0 (3 + i) = s.2 13 i) ∧ (∀ i, i < 8 → (f_X3_save s p a).2 0 (12 + i) = p.2 4 i) := by
  have e : (f_X4_save s (setA a 0 (upd (upd (a.2 0) (Int32.toNatClampNeg (Int32.ofInt 0)) (p.1 6)) (Int32.toNatClampNeg (Int32.ofInt 1)) (p.1 7)))).2 0 = fun i => if 3 + 0 ≤ i ∧ i < 3 + 3 * nf then s.2 13 (i - 3) else upd (upd (upd (a.2 0) 0 (p.1 6)) 1 (p.1 7)) 2 (s.1 2) i := sv9 hn h2 40 0 _ (by omega) (by omega)
  have e2 : (f_X3_save s p a).2 0 = va_cpy (p.2 4) (fun i => if 3 + 0 ≤ i ∧ i < 3 + 3 * nf then s.2 13 (i - 3) else upd (upd (upd (a.2 0) 0 (p.1 6)) 1 (p.1 7)) 2 (s.1 2) i) 0 12 8 := by
    unfold f_X3_save
    show va_cpy (p.2 4) ((f_X4_save s _).2 0) 0 12 8 = _
    rw [e]
  rw [e2]
  unfold va_cpy
  refine ⟨?_, ?_, ?_, fun i hi => ?_, fun i hi => ?_⟩
  · simp [upd_at]
  · simp [upd_at]
  · simp [upd_at]
  · rw [if_neg (by omega)]
    dsimp only
    rw [if_pos (by omega), show 3 + i - 3 = i by omega]
  · rw [if_pos (by omega), show 0 + (12 + i - 12) = i by omega]
theorem mn2 {p g : Rec} (h : Mn p g) : g.2 0 2 = p.1 5 := h.2.2.1
def NF (m : Rec) : Prop := ∃ nf : Nat, nf ≤ 3 ∧ m.2 0 16 = Int32.ofNat nf
def CeO (m : Rec) : Prop := ∀ i : Nat, Int32.ofNat i < m.2 0 2 → i < 8 → m.2 0 (8 + i) = -1 ∨ ¬ f_X9_isCell m (m.2 0 (8 + i)) = 0
/-- a row of the class, a row of the reference -/
def RR (a b : Nat → Int32) (N : Int32) : Prop := a 0 = b 18 ∧ a 1 = b 19 ∧ a 2 = b 8 ∧ (∀ nf : Nat, nf ≤ 3 → b 8 = Int32.ofNat nf → ∀ i, i < 3 * nf → a (3 + i) = b (9 + i)) ∧ (∀ i : Nat, Int32.ofNat i < N → i < 8 → a (12 + i) = b i)
/-- how it stands now -/
def Now (K : Int32) (s p m : Rec) : Prop := NF m ∧ PR s p (f_X9_lays m) ∧ GI K (f_X9_lays m)
theorem NF.b {m : Rec} (h : NF m) : (f_X9_lays m).2 0 = m.2 0 ∧ (f_X9_lays m).1 = m.1 := by
  obtain ⟨nf, hn, h16⟩ := h
  exact ⟨(lays_f h16 hn).2 0 (by decide), (lays_f h16 hn).1⟩
theorem NF.c {m : Rec} (h : NF m) (c : Int32) : f_X9_isCell (f_X9_lays m) c = f_X9_isCell m c := isCell_congr h.b.1 c
/-- the book's entries that tell how it stands -/
def SameB (m m' : Rec) : Prop := ∀ i, i < 88 → i ≠ 3 → i ≠ 6 → i ≠ 7 → m'.2 0 i = m.2 0 i
theorem nf_same {m m' : Rec} (h : SameB m m') (hn : NF m) : NF m' := by
  obtain ⟨nf, h1, h2⟩ := hn
  exact ⟨nf, h1, by rw [h 16 (by omega) (by decide) (by decide) (by decide)]; exact h2⟩
theorem row_same {m m' : Rec} (h : SameB m m') (hn : NF m) (c : Int32) (h0 : 0 ≤ c) (h1 : c < 36) : rowM (f_X9_lays m') c.toNatClampNeg = rowM (f_X9_lays m) c.toNatClampNeg := by
  obtain ⟨nf, hn1, hn2⟩ := hn
  exact lays_cg hn1 hn2 (by rw [h 16 (by omega) (by decide) (by decide) (by decide)]; exact hn2) (isCell_cg fun i hi => h i (by omega) (by omega) (by omega) (by omega)) (fun i hi => h _ (by omega) (by omega) (by omega) (by omega)) c h0 h1
theorem gi_same {K K' : Int32} {m m' : Rec} (h : SameB m m') (hn : NF m) (hK : K ≤ K') (hG : GI K (f_X9_lays m)) : GI K' (f_X9_lays m') := by
  have b := hn.b.1
  have b' := (nf_same h hn).b.1
  have hb : ∀ i, i < 88 → i ≠ 3 → i ≠ 6 → i ≠ 7 → (f_X9_lays m').2 0 i = (f_X9_lays m).2 0 i := fun i a1 a2 a3 a4 => by rw [b, b']; exact h i a1 a2 a3 a4
  have hG' := hG
  obtain ⟨_, _, d27, d26, _, _, hany, _, _, hdis⟩ := hG
  refine gi_move hG' (fun c q0 q1 => row_same h hn c q0 q1) (fun i hi => hb i (by omega) (by omega) (by omega) (by omega)) ?_ ?_ ?_ ?_
  · rw [hb 27 (by omega) (by decide) (by decide) (by decide), hb 16 (by omega) (by decide) (by decide) (by decide)]; exact d27
  · rw [hb 26 (by omega) (by decide) (by decide) (by decide)]; exact ⟨d26.1, by grind⟩
  · rw [hb 27 (by omega) (by decide) (by decide) (by decide)]; exact hany
  · intro i j q1 q2 q3 q4
    rw [hb (8 + i) (by omega) (by omega) (by omega) (by omega)] at q4 ⊢
    rw [hb (8 + j) (by omega) (by omega) (by omega) (by omega)] at q4
    exact hdis i j q1 q2 q3 q4
theorem pr_same {s p m m' : Rec} (h : SameB m m') (hn : NF m) (hP : PR s p (f_X9_lays m)) : PR s p (f_X9_lays m') := by
  have b := hn.b.1
  have b' := (nf_same h hn).b.1
  have hb : ∀ i, i < 88 → i ≠ 3 → i ≠ 6 → i ≠ 7 → (f_X9_lays m').2 0 i = (f_X9_lays m).2 0 i := fun i a1 a2 a3 a4 => by rw [b, b']; exact h i a1 a2 a3 a4
  refine pr_move hP (fun c q0 q1 => row_same h hn c q0 q1) (fun i hi => hb i (by omega) (by omega) (by omega) (by omega)) rfl rfl rfl rfl rfl rfl ?_ ?_ ?_
  · rw [hb 26 (by omega) (by decide) (by decide) (by decide)]; exact hP.2.2.2.2.1.1
  · rw [hb 27 (by omega) (by decide) (by decide) (by decide)]; exact hP.2.2.2.2.1.2.1
  · intro v q0 q1
    obtain ⟨_, _, _, e4, c⟩ := hP.2.2.1.2.2.2 v q0 q1
    have n8 := hP.2.2.1.2.1
    have v8 := cl8 q0 (by grind)
    rw [ix8 q0 (by grind)] at e4
    exact ⟨by rw [hb _ (by omega) (by omega) (by omega) (by omega)]; exact e4, c⟩
theorem now_same {K K' : Int32} {s p m m' : Rec} (h : SameB m m') (hK : K ≤ K') (hN : Now K s p m) : Now K' s p m' := ⟨nf_same h hN.1, pr_same h hN.1 hN.2.1, gi_same h hN.1 hK hN.2.2⟩
/-- a row to which it may go back -/
def OkB (K : Int32) (m : Rec) (b : Nat → Int32) (d : Nat) : Prop := NF (setA m 0 (patch (m.2 0) b d)) ∧ GI K (f_X9_lays (setA m 0 (patch (m.2 0) b d))) ∧ CeO (setA m 0 (patch (m.2 0) b d))
theorem ok_same {K K' : Int32} {m m' : Rec} {b b' : Nat → Int32} {d d' : Nat} (h : ∀ i, i < 8 ∨ (28 ≤ i ∧ i < 88) → i ≠ 3 → i ≠ 6 → i ≠ 7 → m'.2 0 i = m.2 0 i) (hb : ∀ k, k < 20 → b' (d' + k) = b (d + k)) (hK : K ≤ K') (hO : OkB K m b d) : OkB K' m' b' d' := by
  have hs : SameB (setA m 0 (patch (m.2 0) b d)) (setA m' 0 (patch (m'.2 0) b' d')) := by
    intro i a1 a2 a3 a4
    show patch (m'.2 0) b' d' i = patch (m.2 0) b d i
    unfold patch
    by_cases z : 8 ≤ i ∧ i < 28
    · rw [if_pos z, if_pos z, hb (i - 8) (by omega)]
    · rw [if_neg z, if_neg z, h i (by omega) a2 a3 a4]
  obtain ⟨o1, o2, o3⟩ := hO
  refine ⟨nf_same hs o1, gi_same hs o1 hK o2, ?_⟩
  intro i q1 q2
  rw [hs 2 (by omega) (by decide) (by decide) (by decide)] at q1
  rw [hs (8 + i) (by omega) (by omega) (by omega) (by omega), isCell_cg (fun k hk => hs k (by omega) (by omega) (by omega) (by omega))]
  exact o3 i q1 q2
theorem now_ce {K : Int32} {s p m : Rec} (h : Now K s p m) : CeO m := by
  obtain ⟨hn, hP, hG⟩ := h
  intro i q1 q2
  have hM := hP.2.2.1
  have n2 := mn2 hM
  rw [hn.b.1] at n2
  rw [n2] at q1
  have i0 : 0 ≤ Int32.ofNat i := by rw [n32_0, Int32.toInt_ofNat_of_lt (by omega)]; omega
  obtain ⟨_, _, _, e4, c⟩ := hM.2.2.2 (Int32.ofNat i) i0 q1
  have n8 := hM.2.1
  rw [ix8 i0 (by grind), hn.b.1, cl_nI (by omega)] at e4
  rw [cl_nI (by omega), ← e4, hn.c] at c
  exact c
/-- how it stands now, as a row -/
theorem now_row {K : Int32} {s p m : Rec} (a : Rec) (h : Now K s p m) {m1 : Rec} {b : Nat → Int32} {d : Nat} (hb : ∀ k, k < 20 → b (d + k) = m.2 0 (8 + k)) (h1 : ∀ i, i < 8 ∨ (28 ≤ i ∧ i < 88) → i ≠ 3 → i ≠ 6 → i ≠ 7 → m1.2 0 i = m.2 0 i) : RR ((f_X3_save s p a).2 0) (fun k => b (d + k)) (m.2 0 2) ∧ OkB K m1 b d ∧ p_X3_save s p a := by
  have hce := now_ce h
  obtain ⟨hn, hP, hG⟩ := h
  have hn' := hn
  obtain ⟨nf, hn1, hn2⟩ := hn
  have s2 : s.1 2 = Int32.ofNat nf := by rw [hP.2.2.2.1.2.2, hn'.b.1]; exact hn2
  obtain ⟨r1, r2, r3, r4, r5⟩ := sv_row (p := p) (a := a) hn1 s2
  have s3 : 0 ≤ s.1 2 ∧ s.1 2 ≤ 3 := by
    rw [hP.2.2.2.1.2.2, hn'.b.1]
    exact nf_in hn1 hn2
  refine ⟨⟨?_, ?_, ?_, ?_, ?_⟩, ?_, ⟨pp_save s3.1 s3.2, trivial⟩⟩
  · rw [r1, hP.2.2.2.2.1.1, hn'.b.1]; exact (hb 18 (by omega)).symm
  · rw [r2, hP.2.2.2.2.1.2.1, hn'.b.1]; exact (hb 19 (by omega)).symm
  · rw [r3, s2, ← hn2]; exact (hb 8 (by omega)).symm
  · intro nf2 a1 a2 i hi
    have : nf2 = nf := by
      have z : Int32.ofNat nf2 = Int32.ofNat nf := by rw [← a2, ← hn2]; exact hb 8 (by omega)
      have z2 := congrArg Int32.toNatClampNeg z
      rw [cl_nI (by omega), cl_nI (by omega)] at z2
      exact z2
    subst this
    show _ = b (d + (9 + i))
    rw [r4 i hi, hb (9 + i) (by omega), hP.2.2.2.2.2 nf2 a1 (by rw [hn'.b.1]; exact hn2) i hi, hn'.b.1, show 8 + (9 + i) = 17 + i by omega]
  · intro i q1 q2
    rw [r5 i q2]
    show _ = b (d + i)
    rw [hb i (by omega)]
    have hM := hP.2.2.1
    have n2 := mn2 hM
    rw [hn'.b.1] at n2
    rw [n2] at q1
    have i0 : 0 ≤ Int32.ofNat i := by rw [n32_0, Int32.toInt_ofNat_of_lt (by omega)]; omega
    have e4 := (hM.2.2.2 (Int32.ofNat i) i0 q1).2.2.2.1
    have n8 := hM.2.1
    rw [ix8 i0 (by grind), hn'.b.1, cl_nI (by omega)] at e4
    exact e4.symm
  · have hs : SameB m (setA m1 0 (patch (m1.2 0) b d)) := by
      intro i a1 a2 a3 a4
      show patch (m1.2 0) b d i = _
      unfold patch
      by_cases z : 8 ≤ i ∧ i < 28
      · rw [if_pos z, hb (i - 8) (by omega), show 8 + (i - 8) = i by omega]
      · rw [if_neg z, h1 i (by omega) a2 a3 a4]
    refine ⟨nf_same hs hn', gi_same hs hn' (Int32.le_refl _) hG, ?_⟩
    intro i q1 q2
    rw [hs 2 (by omega) (by decide) (by decide) (by decide)] at q1
    rw [hs (8 + i) (by omega) (by omega) (by omega) (by omega), isCell_cg (fun k hk => hs k (by omega) (by omega) (by omega) (by omega))]
    exact hce i q1 q2
/-- back to a row -/
theorem load_sim {K K' : Int32} {s p m a : Rec} {b : Nat → Int32} {d : Nat} (hN : Now K s p m) (hR : RR (a.2 0) (fun k => b (d + k)) (m.2 0 2)) (hO : OkB K' m b d) : p_X3_load s p a ∧ Now K' (f_X3_load s p a).1 (f_X3_load s p a).2 (setA m 0 (patch (m.2 0) b d)) := by
  obtain ⟨hn, hP, hG⟩ := hN
  obtain ⟨o1, o2, o3⟩ := hO
  obtain ⟨R1, R2, R3, R4, R5⟩ := hR
  obtain ⟨m', hm'⟩ : ∃ m', m' = setA m 0 (patch (m.2 0) b d) := ⟨_, rfl⟩
  rw [← hm'] at o1 o2 o3 ⊢
  have bi : ∀ k, k < 20 → m'.2 0 (8 + k) = b (d + k) := by
    intro k hk
    rw [hm']
    show patch (m.2 0) b d (8 + k) = _
    unfold patch
    rw [if_pos (by omega), show 8 + k - 8 = k by omega]
  have bo : ∀ i, (i < 8 ∨ 28 ≤ i) → m'.2 0 i = m.2 0 i := by
    intro i hi
    rw [hm']
    show patch (m.2 0) b d i = _
    unfold patch
    rw [if_neg (by omega)]
  have hbL := hn.b.1
  have hbL' := o1.b.1
  have hcc : ∀ c, f_X9_isCell m' c = f_X9_isCell m c := isCell_cg (fun i hi => bo i (by omega))
  have hn' := hn
  obtain ⟨nf0, hn1, hn2⟩ := hn
  have hLaid : Laid s m := by
    refine ⟨hP.1, hP.2.1, by rw [hP.2.2.2.1.1, hbL], by rw [hP.2.2.2.1.2.1, hbL], nf0, hn1, by rw [hP.2.2.2.1.2.2, hbL]; exact hn2, hn2, fun i hi => ?_⟩
    rw [hP.2.2.2.2.2 nf0 hn1 (by rw [hbL]; exact hn2) i hi, hbL]
  have o1' := o1
  obtain ⟨nf, hk1, hk2⟩ := o1
  have h8 : b (d + 8) = Int32.ofNat nf := by rw [← bi 8 (by omega)]; exact hk2
  obtain ⟨ld, ld8⟩ := ld_all (a := a) hLaid hcc (bo 0 (by omega)) (bo 1 (by omega)) hk1 hk2 (by rw [R3]; exact h8) (fun i hi => by
    rw [R4 nf hk1 h8 i hi]
    show b (d + (9 + i)) = _
    rw [← bi (9 + i) (by omega), show 8 + (9 + i) = 17 + i by omega])
  obtain ⟨l1, l2, l3, l4, nf2, l5, l6, l7, l8⟩ := ld
  have s3 : 0 ≤ s.1 2 ∧ s.1 2 ≤ 3 := by
    rw [hP.2.2.2.1.2.2, hbL]
    exact nf_in hn1 hn2
  refine ⟨⟨pp_load s3.1 s3.2, trivial⟩, o1', ?_, o2⟩
  unfold f_X3_load
  have enf : nf2 = nf := by
    have z : Int32.ofNat nf2 = Int32.ofNat nf := by rw [← l7, hk2]
    have z2 := congrArg Int32.toNatClampNeg z
    rw [cl_nI (by omega), cl_nI (by omega)] at z2
    exact z2
  subst enf
  refine ⟨l1, l2, ?_, ⟨?_, ?_, ?_⟩, ⟨?_, ?_, ?_, ?_⟩, ?_⟩
  · obtain ⟨m0, m8, m2, mm⟩ := hP.2.2.1
    have m2' := mn2 (p := p) (g := f_X9_lays m) ⟨m0, m8, m2, mm⟩
    rw [hbL] at m2'
    refine ⟨m0, m8, ?_, fun v q0 q1 => ?_⟩
    · show (f_X9_lays m').2 0 2 = p.1 5
      rw [hbL', bo 2 (by omega)]; exact m2'
    · have v8 := cl8 q0 (by have : p.1 5 ≤ 8 := m8; have : v < p.1 5 := q1; grind)
      have b100 : v < 100 := by have : p.1 5 ≤ 8 := m8; have : v < p.1 5 := q1; grind
      obtain ⟨e1, e2, e3, e4, c⟩ := mm v q0 q1
      have q1' : v < p.1 5 := q1
      rw [ix28 q0 b100, hbL] at e1
      rw [ix29 q0 b100, hbL] at e2
      rw [ix30 q0 b100, hbL] at e3
      rw [ix28 q0 b100, ix29 q0 b100, ix30 q0 b100, ix8 q0 b100, hbL', bo _ (by omega), bo _ (by omega), bo _ (by omega), bi _ (by omega)]
      have ee : va_cpy (a.2 0) (p.2 4) 12 0 8 v.toNatClampNeg = b (d + v.toNatClampNeg) := by
        unfold va_cpy
        rw [if_pos (by omega), show 12 + (v.toNatClampNeg - 0) = 12 + v.toNatClampNeg by omega]
        exact R5 v.toNatClampNeg (by rw [Int32.ofNat_toNatClampNeg v q0, m2']; exact q1') v8
      refine ⟨e1, e2, e3, ee.symm, ?_⟩
      show va_cpy (a.2 0) (p.2 4) 12 0 8 v.toNatClampNeg = -1 ∨ ¬ f_X9_isCell (f_X9_lays m') (va_cpy (a.2 0) (p.2 4) 12 0 8 v.toNatClampNeg) = 0
      rw [ee, o1'.c]
      have := o3 v.toNatClampNeg (by rw [Int32.ofNat_toNatClampNeg v q0, bo 2 (by omega), m2']; exact q1') v8
      rw [bi _ (by omega)] at this
      exact this
  · rw [hbL']; exact l3
  · rw [hbL']; exact l4
  · rw [hbL', hk2]; exact l6
  · rw [hbL']
    show a.2 0 0 = _
    rw [R1]
    exact (bi 18 (by omega)).symm
  · rw [hbL']
    show a.2 0 1 = _
    rw [R2]
    exact (bi 19 (by omega)).symm
  · rw [hbL', bo 4 (by omega), ← hbL]; exact hP.2.2.2.2.1.2.2.1
  · rw [hbL', bo 5 (by omega), ← hbL]; exact hP.2.2.2.2.1.2.2.2
  · intro nf3 z1 z2 i hi
    rw [hbL'] at z2 ⊢
    have : nf3 = nf2 := by
      have z : Int32.ofNat nf3 = Int32.ofNat nf2 := by rw [← z2, hk2]
      have z2 := congrArg Int32.toNatClampNeg z
      rw [cl_nI (by omega), cl_nI (by omega)] at z2
      exact z2
    subst this
    exact l8 i hi
/-! the ring of rows -/
theorem kpt {t s p : Rec} {x u : Nat} (hx : x < 8) (hu : u ≤ 8) (h1 : t.1 1 = Int32.ofNat x) (h2 : t.1 2 = Int32.ofNat u) : f_X2_keep t s p = setA (setG (setG t 1 (Int32.ofNat ((x + 1) % 8))) 2 (Int32.ofNat (if u = 8 then 8 else u + 1))) (100 + x) ((f_X3_save s p ((fun _ => 0, fun _ => (t.2 (100 + x))) : Rec)).2 0) := by
  have hs : (if Int32.ofInt 8 < t.1 2 + Int32.ofInt 1 then Int32.ofInt 8 else t.1 2 + Int32.ofInt 1) = Int32.ofNat (if u = 8 then 8 else u + 1) := by
    rw [h2]
    have : u = 0 ∨ u = 1 ∨ u = 2 ∨ u = 3 ∨ u = 4 ∨ u = 5 ∨ u = 6 ∨ u = 7 ∨ u = 8 := by omega
    rcases this with rfl | rfl | rfl | rfl | rfl | rfl | rfl | rfl | rfl <;> decide
  have hx8 : t.1 1 + Int32.ofInt 1 - (t.1 1 + Int32.ofInt 1) / Int32.ofInt 8 * Int32.ofInt 8 = Int32.ofNat ((x + 1) % 8) := by
    rw [h1]
    have : x = 0 ∨ x = 1 ∨ x = 2 ∨ x = 3 ∨ x = 4 ∨ x = 5 ∨ x = 6 ∨ x = 7 := by omega
    rcases this with rfl | rfl | rfl | rfl | rfl | rfl | rfl | rfl <;> decide
  unfold f_X2_keep
  rw [hs, hx8, h1]
  have : x = 0 ∨ x = 1 ∨ x = 2 ∨ x = 3 ∨ x = 4 ∨ x = 5 ∨ x = 6 ∨ x = 7 := by omega
  rcases this with rfl | rfl | rfl | rfl | rfl | rfl | rfl | rfl
  · rw [if_pos (show Int32.ofNat 0 = Int32.ofInt 0 by decide)]
  · rw [if_neg (show ¬ Int32.ofNat 1 = Int32.ofInt 0 by decide), if_pos (show Int32.ofNat 1 = Int32.ofInt 1 by decide)]
  · rw [if_neg (show ¬ Int32.ofNat 2 = Int32.ofInt 0 by decide), if_neg (show ¬ Int32.ofNat 2 = Int32.ofInt 1 by decide), if_pos (show Int32.ofNat 2 = Int32.ofInt 2 by decide)]
  · rw [if_neg (show ¬ Int32.ofNat 3 = Int32.ofInt 0 by decide), if_neg (show ¬ Int32.ofNat 3 = Int32.ofInt 1 by decide), if_neg (show ¬ Int32.ofNat 3 = Int32.ofInt 2 by decide), if_pos (show Int32.ofNat 3 = Int32.ofInt 3 by decide)]
  · rw [if_neg (show ¬ Int32.ofNat 4 = Int32.ofInt 0 by decide), if_neg (show ¬ Int32.ofNat 4 = Int32.ofInt 1 by decide), if_neg (show ¬ Int32.ofNat 4 = Int32.ofInt 2 by decide), if_neg (show ¬ Int32.ofNat 4 = Int32.ofInt 3 by decide), if_pos (show Int32.ofNat 4 = Int32.ofInt 4 by decide)]
  · rw [if_neg (show ¬ Int32.ofNat 5 = Int32.ofInt 0 by decide), if_neg (show ¬ Int32.ofNat 5 = Int32.ofInt 1 by decide), if_neg (show ¬ Int32.ofNat 5 = Int32.ofInt 2 by decide), if_neg (show ¬ Int32.ofNat 5 = Int32.ofInt 3 by decide), if_neg (show ¬ Int32.ofNat 5 = Int32.ofInt 4 by decide), if_pos (show Int32.ofNat 5 = Int32.ofInt 5 by decide)]
  · rw [if_neg (show ¬ Int32.ofNat 6 = Int32.ofInt 0 by decide), if_neg (show ¬ Int32.ofNat 6 = Int32.ofInt 1 by decide), if_neg (show ¬ Int32.ofNat 6 = Int32.ofInt 2 by decide), if_neg (show ¬ Int32.ofNat 6 = Int32.ofInt 3 by decide), if_neg (show ¬ Int32.ofNat 6 = Int32.ofInt 4 by decide), if_neg (show ¬ Int32.ofNat 6 = Int32.ofInt 5 by decide), if_pos (show Int32.ofNat 6 = Int32.ofInt 6 by decide)]
  · rw [if_neg (show ¬ Int32.ofNat 7 = Int32.ofInt 0 by decide), if_neg (show ¬ Int32.ofNat 7 = Int32.ofInt 1 by decide), if_neg (show ¬ Int32.ofNat 7 = Int32.ofInt 2 by decide), if_neg (show ¬ Int32.ofNat 7 = Int32.ofInt 3 by decide), if_neg (show ¬ Int32.ofNat 7 = Int32.ofInt 4 by decide), if_neg (show ¬ Int32.ofNat 7 = Int32.ofInt 5 by decide), if_neg (show ¬ Int32.ofNat 7 = Int32.ofInt 6 by decide), if_pos (show Int32.ofNat 7 = Int32.ofInt 7 by decide)]
theorem pkt {t s p : Rec} {x : Nat} (hx : x < 8) (h1 : t.1 1 = Int32.ofNat x) (hp : ∀ a, p_X3_save s p a) : p_X2_keep t s p := by
  unfold p_X2_keep
  rw [h1]
  have : x = 0 ∨ x = 1 ∨ x = 2 ∨ x = 3 ∨ x = 4 ∨ x = 5 ∨ x = 6 ∨ x = 7 := by omega
  rcases this with rfl | rfl | rfl | rfl | rfl | rfl | rfl | rfl
  · exact ⟨fun _ => ⟨hp _, trivial⟩, fun q => absurd (by decide) q⟩
  · exact ⟨fun q => absurd q (by decide), fun _ => ⟨fun _ => ⟨hp _, trivial⟩, fun q => absurd (by decide) q⟩⟩
  · exact ⟨fun q => absurd q (by decide), fun _ => ⟨fun q => absurd q (by decide), fun _ => ⟨fun _ => ⟨hp _, trivial⟩, fun q => absurd (by decide) q⟩⟩⟩
  · exact ⟨fun q => absurd q (by decide), fun _ => ⟨fun q => absurd q (by decide), fun _ => ⟨fun q => absurd q (by decide), fun _ => ⟨fun _ => ⟨hp _, trivial⟩, fun q => absurd (by decide) q⟩⟩⟩⟩
  · exact ⟨fun q => absurd q (by decide), fun _ => ⟨fun q => absurd q (by decide), fun _ => ⟨fun q => absurd q (by decide), fun _ => ⟨fun q => absurd q (by decide), fun _ => ⟨fun _ => ⟨hp _, trivial⟩, fun q => absurd (by decide) q⟩⟩⟩⟩⟩
  · exact ⟨fun q => absurd q (by decide), fun _ => ⟨fun q => absurd q (by decide), fun _ => ⟨fun q => absurd q (by decide), fun _ => ⟨fun q => absurd q (by decide), fun _ => ⟨fun q => absurd q (by decide), fun _ => ⟨fun _ => ⟨hp _, trivial⟩, fun q => absurd (by decide) q⟩⟩⟩⟩⟩⟩
  · exact ⟨fun q => absurd q (by decide), fun _ => ⟨fun q => absurd q (by decide), fun _ => ⟨fun q => absurd q (by decide), fun _ => ⟨fun q => absurd q (by decide), fun _ => ⟨fun q => absurd q (by decide), fun _ => ⟨fun q => absurd q (by decide), fun _ => ⟨fun _ => ⟨hp _, trivial⟩, fun q => absurd (by decide) q⟩⟩⟩⟩⟩⟩⟩
  · exact ⟨fun q => absurd q (by decide), fun _ => ⟨fun q => absurd q (by decide), fun _ => ⟨fun q => absurd q (by decide), fun _ => ⟨fun q => absurd q (by decide), fun _ => ⟨fun q => absurd q (by decide), fun _ => ⟨fun q => absurd q (by decide), fun _ => ⟨fun q => absurd q (by decide), fun _ => ⟨fun _ => ⟨hp _, trivial⟩, fun q => absurd (by decide) q⟩⟩⟩⟩⟩⟩⟩⟩
theorem gbk {t s p : Rec} {x u : Nat} (hx : x < 8) (h1 : t.1 1 = Int32.ofNat x) (h2 : t.1 2 = Int32.ofNat (u + 1)) (hu : u < 8) (hp : ∀ a, a.2 0 = t.2 (100 + (x + 7) % 8) → p_X3_load s p a) : p_X2_goBack t s p ∧ ∃ a : Rec, a.2 0 = t.2 (100 + (x + 7) % 8) ∧ f_X2_goBack t s p = (1, setG (setG t 1 (Int32.ofNat ((x + 7) % 8))) 2 (Int32.ofNat u), (f_X3_load s p a).1, (f_X3_load s p a).2) := by
  have hz : ¬ t.1 2 = 0 := by
    rw [h2]
    intro z
    have z2 := congrArg Int32.toNatClampNeg z
    rw [cl_nI (by omega)] at z2
    have e0 : (0 : Int32).toNatClampNeg = 0 := rfl
    omega
  have hs : t.1 2 - Int32.ofInt 1 = Int32.ofNat u := by
    rw [h2]
    have : Int32.ofNat (u + 1) = Int32.ofNat u + 1 := nI_succ u
    rw [this]
    show Int32.ofNat u + 1 - 1 = _
    grind
  have hx8 : t.1 1 + Int32.ofInt 8 - Int32.ofInt 1 - (t.1 1 + Int32.ofInt 8 - Int32.ofInt 1) / Int32.ofInt 8 * Int32.ofInt 8 = Int32.ofNat ((x + 7) % 8) := by
    rw [h1]
    have : x = 0 ∨ x = 1 ∨ x = 2 ∨ x = 3 ∨ x = 4 ∨ x = 5 ∨ x = 6 ∨ x = 7 := by omega
    rcases this with rfl | rfl | rfl | rfl | rfl | rfl | rfl | rfl <;> decide
  unfold f_X2_goBack p_X2_goBack
  rw [hs, hx8, if_neg hz]
  have : (x + 7) % 8 = 0 ∨ (x + 7) % 8 = 1 ∨ (x + 7) % 8 = 2 ∨ (x + 7) % 8 = 3 ∨ (x + 7) % 8 = 4 ∨ (x + 7) % 8 = 5 ∨ (x + 7) % 8 = 6 ∨ (x + 7) % 8 = 7 := by omega
  refine ⟨⟨fun q => absurd q hz, fun _ => ?_⟩, (fun _ => 0, fun _ => t.2 (100 + (x + 7) % 8)), rfl, ?_⟩
  · rcases this with e | e | e | e | e | e | e | e
    · rw [e] at hp ⊢; exact ⟨fun _ => ⟨hp _ rfl, trivial⟩, fun q => absurd (by decide) q⟩
    · rw [e] at hp ⊢; exact ⟨fun q => absurd q (by decide), fun _ => ⟨fun _ => ⟨hp _ rfl, trivial⟩, fun q => absurd (by decide) q⟩⟩
    · rw [e] at hp ⊢; exact ⟨fun q => absurd q (by decide), fun _ => ⟨fun q => absurd q (by decide), fun _ => ⟨fun _ => ⟨hp _ rfl, trivial⟩, fun q => absurd (by decide) q⟩⟩⟩
    · rw [e] at hp ⊢; exact ⟨fun q => absurd q (by decide), fun _ => ⟨fun q => absurd q (by decide), fun _ => ⟨fun q => absurd q (by decide), fun _ => ⟨fun _ => ⟨hp _ rfl, trivial⟩, fun q => absurd (by decide) q⟩⟩⟩⟩
    · rw [e] at hp ⊢; exact ⟨fun q => absurd q (by decide), fun _ => ⟨fun q => absurd q (by decide), fun _ => ⟨fun q => absurd q (by decide), fun _ => ⟨fun q => absurd q (by decide), fun _ => ⟨fun _ => ⟨hp _ rfl, trivial⟩, fun q => absurd (by decide) q⟩⟩⟩⟩⟩
    · rw [e] at hp ⊢; exact ⟨fun q => absurd q (by decide), fun _ => ⟨fun q => absurd q (by decide), fun _ => ⟨fun q => absurd q (by decide), fun _ => ⟨fun q => absurd q (by decide), fun _ => ⟨fun q => absurd q (by decide), fun _ => ⟨fun _ => ⟨hp _ rfl, trivial⟩, fun q => absurd (by decide) q⟩⟩⟩⟩⟩⟩
    · rw [e] at hp ⊢; exact ⟨fun q => absurd q (by decide), fun _ => ⟨fun q => absurd q (by decide), fun _ => ⟨fun q => absurd q (by decide), fun _ => ⟨fun q => absurd q (by decide), fun _ => ⟨fun q => absurd q (by decide), fun _ => ⟨fun q => absurd q (by decide), fun _ => ⟨fun _ => ⟨hp _ rfl, trivial⟩, fun q => absurd (by decide) q⟩⟩⟩⟩⟩⟩⟩
    · rw [e] at hp ⊢; exact ⟨fun q => absurd q (by decide), fun _ => ⟨fun q => absurd q (by decide), fun _ => ⟨fun q => absurd q (by decide), fun _ => ⟨fun q => absurd q (by decide), fun _ => ⟨fun q => absurd q (by decide), fun _ => ⟨fun q => absurd q (by decide), fun _ => ⟨fun q => absurd q (by decide), fun _ => ⟨fun _ => ⟨hp _ rfl, trivial⟩, fun q => absurd (by decide) q⟩⟩⟩⟩⟩⟩⟩⟩
  · rcases this with e | e | e | e | e | e | e | e
    · rw [e, if_pos (show Int32.ofNat 0 = Int32.ofInt 0 by decide)]; rfl
    · rw [e, if_neg (show ¬ Int32.ofNat 1 = Int32.ofInt 0 by decide), if_pos (show Int32.ofNat 1 = Int32.ofInt 1 by decide)]; rfl
    · rw [e, if_neg (show ¬ Int32.ofNat 2 = Int32.ofInt 0 by decide), if_neg (show ¬ Int32.ofNat 2 = Int32.ofInt 1 by decide), if_pos (show Int32.ofNat 2 = Int32.ofInt 2 by decide)]; rfl
    · rw [e, if_neg (show ¬ Int32.ofNat 3 = Int32.ofInt 0 by decide), if_neg (show ¬ Int32.ofNat 3 = Int32.ofInt 1 by decide), if_neg (show ¬ Int32.ofNat 3 = Int32.ofInt 2 by decide), if_pos (show Int32.ofNat 3 = Int32.ofInt 3 by decide)]; rfl
    · rw [e, if_neg (show ¬ Int32.ofNat 4 = Int32.ofInt 0 by decide), if_neg (show ¬ Int32.ofNat 4 = Int32.ofInt 1 by decide), if_neg (show ¬ Int32.ofNat 4 = Int32.ofInt 2 by decide), if_neg (show ¬ Int32.ofNat 4 = Int32.ofInt 3 by decide), if_pos (show Int32.ofNat 4 = Int32.ofInt 4 by decide)]; rfl
    · rw [e, if_neg (show ¬ Int32.ofNat 5 = Int32.ofInt 0 by decide), if_neg (show ¬ Int32.ofNat 5 = Int32.ofInt 1 by decide), if_neg (show ¬ Int32.ofNat 5 = Int32.ofInt 2 by decide), if_neg (show ¬ Int32.ofNat 5 = Int32.ofInt 3 by decide), if_neg (show ¬ Int32.ofNat 5 = Int32.ofInt 4 by decide), if_pos (show Int32.ofNat 5 = Int32.ofInt 5 by decide)]; rfl
    · rw [e, if_neg (show ¬ Int32.ofNat 6 = Int32.ofInt 0 by decide), if_neg (show ¬ Int32.ofNat 6 = Int32.ofInt 1 by decide), if_neg (show ¬ Int32.ofNat 6 = Int32.ofInt 2 by decide), if_neg (show ¬ Int32.ofNat 6 = Int32.ofInt 3 by decide), if_neg (show ¬ Int32.ofNat 6 = Int32.ofInt 4 by decide), if_neg (show ¬ Int32.ofNat 6 = Int32.ofInt 5 by decide), if_pos (show Int32.ofNat 6 = Int32.ofInt 6 by decide)]; rfl
    · rw [e, if_neg (show ¬ Int32.ofNat 7 = Int32.ofInt 0 by decide), if_neg (show ¬ Int32.ofNat 7 = Int32.ofInt 1 by decide), if_neg (show ¬ Int32.ofNat 7 = Int32.ofInt 2 by decide), if_neg (show ¬ Int32.ofNat 7 = Int32.ofInt 3 by decide), if_neg (show ¬ Int32.ofNat 7 = Int32.ofInt 4 by decide), if_neg (show ¬ Int32.ofNat 7 = Int32.ofInt 5 by decide), if_neg (show ¬ Int32.ofNat 7 = Int32.ofInt 6 by decide), if_pos (show Int32.ofNat 7 = Int32.ofInt 7 by decide)]; rfl
