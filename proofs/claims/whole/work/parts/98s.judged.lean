/-! layer 3: a row that is brought back; judge -/
theorem gi_nf {K : Int32} {g : Rec} (h : GI K g) : NF g := by
  obtain ⟨⟨nf, b1, b2, _⟩, _⟩ := h
  exact ⟨nf, b1, b2⟩
theorem pg_now {K : Int32} {s p g : Rec} (hP : PR s p g) (hG : GI K g) : Now K s p g := by
  obtain ⟨_, _, _, c4, c5⟩ := la_all (m := g) hP hG rfl
  exact ⟨gi_nf hG, c4, c5⟩
/-- a game that was played on, put back from its row -/
theorem back {K K2 : Int32} {s p sF pF g G row m' : Rec} (a : Rec) (hP : PR s p g) (hG : GI K g) (hPF : PR sF pF G) (hGF : GI K2 G) (hb : ∀ i, (i < 8 ∨ 28 ≤ i) → G.2 0 i = g.2 0 i) (hr : row.2 0 = (f_X3_save s p a).2 0) (hm : m'.2 0 = g.2 0) : p_X3_load sF pF row ∧ Now K (f_X3_load sF pF row).1 (f_X3_load sF pF row).2 m' := by
  obtain ⟨r1, r2, _⟩ := now_row a (pg_now hP hG) (m1 := G) (b := g.2 0) (d := 8) (fun _ _ => rfl) (fun i hi _ _ _ => hb i (by omega))
  obtain ⟨l1, l2⟩ := load_sim (a := row) (pg_now hPF hGF) (by rw [hr, hb 2 (by omega)]; exact r1) r2
  refine ⟨l1, now_same (fun i _ _ _ _ => ?_) (Int32.le_refl _) l2⟩
  show m'.2 0 i = patch (G.2 0) (g.2 0) 8 i
  rw [hm]
  unfold patch
  by_cases z : 8 ≤ i ∧ i < 28
  · rw [if_pos z, show 8 + (i - 8) = i by omega]
  · rw [if_neg z, hb i (by omega)]
theorem sv_ok {K : Int32} {s p g : Rec} (a : Rec) (hP : PR s p g) (hG : GI K g) : p_X3_save s p a := (now_row a (pg_now hP hG) (m1 := g) (b := g.2 0) (d := 8) (fun _ _ => rfl) (fun _ _ _ _ _ => rfl)).2.2
theorem kp_17 (g : Rec) : p_X9_keeps_v14 g (Int32.ofInt 0) ∧ ∃ f : Nat → Int32, f_X9_keeps_v14 g (Int32.ofInt 0) = setA g 17 f ∧ ∀ k, k < 20 → f k = g.2 0 (8 + k) := by
  obtain ⟨a1, a2⟩ := kp17 0 rfl 40 0 g (by omega) (by omega)
  refine ⟨a1, _, a2, fun k hk => ?_⟩
  rw [if_pos (by omega), show 8 + (k - 0) = 8 + k by omega]
theorem tk_17 {K : Int32} {s p g G : Rec} {f : Nat → Int32} (hP : PR s p g) (hG : GI K g) (hf : ∀ k, k < 20 → f k = g.2 0 (8 + k)) (h17 : G.2 17 = f) (hb : ∀ i, (i < 8 ∨ 28 ≤ i) → G.2 0 i = g.2 0 i) : p_X9_takes_v14 G (Int32.ofInt 0) ∧ f_X9_takes_v14 G (Int32.ofInt 0) = f_X9_lays (setA G 0 (g.2 0)) ∧ FrH (setA G 0 (g.2 0)) (f_X9_lays (setA G 0 (g.2 0))) ∧ PR s p (f_X9_lays (setA G 0 (g.2 0))) ∧ GI K (f_X9_lays (setA G 0 (g.2 0))) := by
  have e : (fun i => if 8 + 0 ≤ i ∧ i < 28 then G.2 17 (0 + (i - 8)) else G.2 0 i) = g.2 0 := by
    funext i
    by_cases z : 8 + 0 ≤ i ∧ i < 28
    · rw [if_pos z, h17, hf _ (by omega), show 8 + (0 + (i - 8)) = i by omega]
    · rw [if_neg z, hb i (by omega)]
  obtain ⟨l1, l2, l3, l4, l5⟩ := la_all (m := setA G 0 (g.2 0)) hP hG setA_at
  obtain ⟨a1, a2⟩ := tk14 0 rfl 40 0 G (by omega) (by omega) (by rw [e]; exact l1)
  rw [e] at a2
  exact ⟨a1, a2, l2, l4, l5⟩
theorem pr_17 {s p g : Rec} (f : Nat → Int32) (h : PR s p g) : PR s p (setA g 17 f) := by
  refine pr_move h (fun c _ _ => rfl) (fun i _ => rfl) rfl rfl rfl rfl rfl rfl h.2.2.2.2.1.1 h.2.2.2.2.1.2.1 (fun v q0 q1 => ?_)
  obtain ⟨_, _, _, e4, c⟩ := h.2.2.1.2.2.2 v q0 q1
  have n8 := h.2.2.1.2.1
  rw [ix8 q0 (by grind)] at e4
  exact ⟨e4, c⟩
theorem gi_17 {K : Int32} {g : Rec} (f : Nat → Int32) (h : GI K g) : GI K (setA g 17 f) := by
  have h' := h
  obtain ⟨_, _, d27, d26, _, _, hany, _, _, hdis⟩ := h
  exact gi_move h' (fun c _ _ => rfl) (fun i _ => rfl) d27 d26 hany hdis
section
variable {K : Int32} {c s p t e q s1 p1 s2 p2 t1 t2 m : Rec}
theorem c_judge (o oh h k : Rec) (hK : K < 100000) (hI : Inv K c s p t e q s1 p1 s2 p2 t1 t2 m) : p_X8_judge c s p t e o oh h k q s1 p1 s2 p2 t1 t2 ∧ p_X9_judge m ∧ (f_X8_judge c s p t e o oh h k q s1 p1 s2 p2 t1 t2).1 = (f_X9_judge m).1 ∧ Inv (K + 1) (f_X8_judge c s p t e o oh h k q s1 p1 s2 p2 t1 t2).2.1 (f_X8_judge c s p t e o oh h k q s1 p1 s2 p2 t1 t2).2.2.1 (f_X8_judge c s p t e o oh h k q s1 p1 s2 p2 t1 t2).2.2.2.1 t (f_X8_judge c s p t e o oh h k q s1 p1 s2 p2 t1 t2).2.2.2.2 q s1 p1 s2 p2 t1 t2 (f_X9_judge m).2 := by
  have hT := hI.2.2.2.1
  have z0 : (0 : Int32) ≤ Int32.ofInt 0 := by decide
  obtain ⟨M0, hM0⟩ : ∃ z, z = setG (setG m 24 (Int32.ofInt 0)) 29 (Int32.ofInt 0) := ⟨_, rfl⟩
  have tk : TkR (f_X6_rewind e) M0 := by rw [hM0]; exact ⟨hT, rfl, z0, hT.2.1⟩
  have m29 : M0.1 29 = Int32.ofInt 0 := by rw [hM0]; rfl
  have m24 : M0.1 24 = Int32.ofInt 0 := by rw [hM0]; rfl
  have q1 : 0 ≤ M0.1 29 := by rw [m29]; exact z0
  have q2 : 5 * M0.1 29 ≤ M0.1 24 := by rw [m29, m24]; decide
  have q3 : M0.1 29 ≤ 40 := by rw [m29]; decide
  obtain ⟨i1, i2, i3, i4, i5, i6⟩ := fa_loop 299 (f_X6_rewind e) M0 (Int32.ofInt 0) tk q1 q2 q3 m29.symm (by omega)
  have pn := (tk_next tk).2.1
  obtain ⟨R, hR⟩ : ∃ z, z = f_X9_reads_14 300 (f_X9_scans M0) := ⟨_, rfl⟩
  obtain ⟨L, hL⟩ : ∃ z, z = f_X6_faultPlace e := ⟨_, rfl⟩
  have hL' : f_X6_faultPlace_8 (299 + 1) (f_X6_rewind e) 0 (Int32.ofInt 0) = L := by rw [hL]; rfl
  have hR' : f_X9_reads_14 (299 + 1) (f_X9_scans M0) = R := by rw [hR]
  rw [hL', hR'] at i3 i4
  rw [hR'] at i5 i6
  have hrd : f_X9_reads m = R := by rw [hR, hM0]; rfl
  have prd : p_X9_reads m := by
    unfold p_X9_reads
    rw [← hM0]
    exact ⟨pn, i2⟩
  have pfa : p_X6_faultPlace e := i1
  have g2 : ∀ k, k ≠ 28 → R.2.2 k = m.2 k := fun k a => by rw [i5.1 k a, hM0]; rfl
  have g23 : R.2.1 23 = m.1 23 := by rw [i5.2 23 (by decide) (by decide) (by decide) (by decide) (by decide), hM0]; rfl
  have hf : Rf c R.2 := by
    obtain ⟨u1, u2, u3⟩ := hI.2.2.2.2.1
    refine ⟨?_, ?_, ?_⟩
    · rw [g2 3 (by decide)]; exact u1
    · rw [g2 3 (by decide)]; exact u2
    · rw [g2 3 (by decide)]; exact u3
  have x := inv_fr (K' := K) (c := c) (c' := c) (m := m) (m' := R.2) (Int32.le_refl _) (g2 0 (by decide)) (g2 1 (by decide)) (g2 2 (by decide)) (g2 22 (by decide)) g23 rfl hf hI
  have y : Inv K c s p t L.2 q s1 p1 s2 p2 t1 t2 R.2 := ⟨x.1, x.2.1, x.2.2.1, i4, x.2.2.2.2⟩
  unfold p_X8_judge p_X9_judge f_X8_judge f_X9_judge
  rw [hrd, ← hL]
  by_cases w : R.1 = 0
  · rw [if_pos w] at i3
    have n1 : ¬ L.1 = Int32.ofInt (-1) := by
      intro z
      have z1 := i6 w
      rw [← i3, z] at z1
      exact absurd z1 (by decide)
    rw [if_pos w, if_neg n1]
    exact ⟨⟨pfa, fun z => absurd z n1, fun _ => trivial⟩, ⟨prd, fun _ => ⟨pp_no _, trivial⟩, fun z => absurd w z⟩, rfl, ref_no _ hK y⟩
  · rw [if_neg w] at i3
    rw [if_neg w, if_pos i3]
    obtain ⟨hP, hG, hp, hF, hb⟩ := inv_g y
    obtain ⟨kp, f, kf, kk⟩ := kp_17 (f_X9_lays R.2)
    rw [kf]
    obtain ⟨g0, hg0⟩ : ∃ z, z = setA (f_X9_lays R.2) 17 f := ⟨_, rfl⟩
    have hP0 : PR s p g0 := by rw [hg0]; exact pr_17 f hP
    have hG0 : GI K g0 := by rw [hg0]; exact gi_17 f hG
    have gb : g0.2 0 = (f_X9_lays R.2).2 0 := by rw [hg0, setA_ne (by decide)]
    have g17 : g0.2 17 = f := by rw [hg0, setA_at]
    have g1 : g0.1 = (f_X9_lays R.2).1 := by rw [hg0, setA_1]
    have gj : ∀ j, j ≠ 17 → g0.2 j = (f_X9_lays R.2).2 j := fun j hj => by rw [hg0, setA_ne hj]
    rw [← hg0]
    have tkG : ∀ G : Rec, Frm g0 G → p_X9_takes_v14 G (Int32.ofInt 0) ∧ f_X9_takes_v14 G (Int32.ofInt 0) = f_X9_lays (setA G 0 ((f_X9_lays R.2).2 0)) ∧ FrH (setA G 0 ((f_X9_lays R.2).2 0)) (f_X9_lays (setA G 0 ((f_X9_lays R.2).2 0))) ∧ PR s p (f_X9_lays (setA G 0 ((f_X9_lays R.2).2 0))) ∧ GI K (f_X9_lays (setA G 0 ((f_X9_lays R.2).2 0))) := by
      intro G hFr
      refine tk_17 hP hG kk ?_ ?_
      · rw [hFr.2.1 17 (by decide) (by decide) (by decide) (by decide) (by decide)]; exact g17
      · intro i hi
        rw [hFr.2.2 i hi, gb]
    have rt : TkR (f_X6_rewind L.2) M0 := by
      refine ⟨?_, by rw [m24]; rfl, by rw [m24]; exact z0, by rw [m24, hM0]; exact hT.2.1⟩
      obtain ⟨a1, a2, a3, a4⟩ := i4
      refine ⟨?_, ?_, ?_, ?_⟩
      · show L.2.1 2 = _
        rw [a1, g23, hM0]; rfl
      · rw [hM0]; exact hT.2.1
      · rw [hM0]; exact hT.2.2.1
      · intro i h1 h2
        have e22 : M0.2 22 = R.2.2 22 := by rw [g2 22 (by decide), hM0]; rfl
        have e23 : M0.1 23 = R.2.1 23 := by rw [g23, hM0]; rfl
        rw [e23] at h1
        rw [e22]
        exact a4 i h1 h2
    obtain ⟨c', hc'⟩ : ∃ z, z = setA c 10 ((f_X3_save s p ((fun _ => 0, fun _ => (c.2 10)) : Rec)).2 0) := ⟨_, rfl⟩
    rw [← hc']
    obtain ⟨j1, j2, K', G, j3, j4, j5, j6, j7⟩ := ju_loop c' t o oh h k q s1 p1 s2 p2 t1 t2 g0 R (fun G hFr => ⟨(tkG G hFr).1, by rw [(tkG G hFr).2.1, (tkG G hFr).2.2.1.1 29 (by decide) (by decide) (by decide), setA_1]⟩) w (by rw [g1, hF.1 29 (by decide) (by decide) (by decide)]) (by rw [gj 28 (by decide), hF.2 28 (by decide) (by decide) (by decide) (by decide)]) 299 299 K (Int32.ofInt 0) s p g0 (f_X6_rewind L.2) M0 hP0 hG0 (by show K < 200000 + 0; grind) (Frm.o g0) rt m29.symm q1 q2 q3 (by omega) (by omega) hR.symm
    obtain ⟨W, hW⟩ : ∃ z, z = f_X8_firstWrongItem c' s p t L.2 o oh h k q s1 p1 s2 p2 t1 t2 := ⟨_, rfl⟩
    have hW' : f_X8_firstWrongItem_9 (299 + 1) c' s p t (f_X6_rewind L.2) o oh h k q s1 p1 s2 p2 t1 t2 (Int32.ofInt 0) = W := by rw [hW]; rfl
    have pW : p_X8_firstWrongItem c' s p t L.2 o oh h k q s1 p1 s2 p2 t1 t2 := j1
    rw [hW'] at j3 j6 j7
    rw [← hW]
    have j6' : f_X9_judge_27 300 g0 (Int32.ofInt 0) = (W.1, f_X9_takes_v14 G (Int32.ofInt 0)) := j6
    rw [j6']
    obtain ⟨t1', t2', t3', t4', t5'⟩ := tkG G j5
    rw [t2']
    obtain ⟨m', hm'⟩ : ∃ z, z = f_X9_lays (setA G 0 ((f_X9_lays R.2).2 0)) := ⟨_, rfl⟩
    rw [← hm'] at t3' t4' t5' ⊢
    have mj : ∀ j, j ≠ 0 → j ≠ 4 → j ≠ 5 → j ≠ 6 → j ≠ 7 → j ≠ 17 → m'.2 j = R.2.2 j := by
      intro j j0 k4 k5 k6 k7 k17
      rw [t3'.2 j k4 k5 k6 k7, setA_ne j0, j5.2.1 j j0 k4 k5 k6 k7, gj j k17, hF.2 j k4 k5 k6 k7]
    have mb : m'.2 0 = R.2.2 0 := by
      rw [t3'.2 0 (by decide) (by decide) (by decide) (by decide), setA_at, hb]
    have m23 : m'.1 23 = R.2.1 23 := by
      rw [t3'.1 23 (by decide) (by decide) (by decide), setA_1, j5.1 23 (by decide), g1, hF.1 23 (by decide) (by decide) (by decide)]
    obtain ⟨l1, l2⟩ := back (row := ((fun _ => 0, fun _ => ((f_X3_save s p ((fun _ => 0, fun _ => (c.2 10)) : Rec)).2 0)) : Rec)) (m' := m') ((fun _ => 0, fun _ => (c.2 10)) : Rec) hP hG j3 j4 (fun i hi => by rw [j5.2.2 i hi, gb]) rfl (by rw [mb, hb])
    refine ⟨⟨pfa, fun _ => ⟨sv_ok _ hP hG, pW, l1, trivial⟩, fun z => absurd i3 z⟩, ⟨prd, fun z => absurd z w, fun _ => ⟨hp, kp, j2⟩⟩, rfl, ?_⟩
    dsimp only
    obtain ⟨s', hs'⟩ : ∃ z, z = (f_X3_load W.2.1 W.2.2.1 ((fun _ => 0, fun _ => ((f_X3_save s p ((fun _ => 0, fun _ => (c.2 10)) : Rec)).2 0)) : Rec)).1 := ⟨_, rfl⟩
    obtain ⟨p', hp'⟩ : ∃ z, z = (f_X3_load W.2.1 W.2.2.1 ((fun _ => 0, fun _ => ((f_X3_save s p ((fun _ => 0, fun _ => (c.2 10)) : Rec)).2 0)) : Rec)).2 := ⟨_, rfl⟩
    rw [← hs', ← hp'] at l2 ⊢
    have st := st_fr (m := R.2) (m' := m') (k1 hK) mb y.1
    have hN : Now (K + 1) s' p' m' := now_same (fun _ _ _ _ _ => rfl) (k1 hK) l2
    have sm : SmO q s' := sm_new hP hN.2.1 (fun a => by
      refine isCell_congr ?_ a
      rw [hN.1.b.1, mb, hb]) y.2.2.2.2.2
    have z := inv_st (m := R.2) (k1 hK) ⟨hN, st.2.1, st.2.2⟩ (mj 1 (by decide) (by decide) (by decide) (by decide) (by decide) (by decide)) (mj 2 (by decide) (by decide) (by decide) (by decide) (by decide) (by decide)) (mj 22 (by decide) (by decide) (by decide) (by decide) (by decide) (by decide)) m23 (mj 3 (by decide) (by decide) (by decide) (by decide) (by decide) (by decide)) sm y
    obtain ⟨y1, y2, y3, y4, y5, y6⟩ := z
    have c9 : c'.2 9 = c.2 9 := by rw [hc', setA_ne (by decide)]
    have c1 : c'.1 = c.1 := by rw [hc', setA_1]
    refine ⟨y1, by rw [c9]; exact y2, by rw [c9]; exact y3, ?_, ?_, y6⟩
    · obtain ⟨a1, a2, a3, a4⟩ := y4
      obtain ⟨b1, b2⟩ := j7
      have b1' : W.2.2.2.1 2 = L.2.1 2 := b1
      have b2' : W.2.2.2.2 0 = L.2.2 0 := b2
      refine ⟨b1'.trans a1, a2, a3, fun i h1 h2 => ?_⟩
      rw [b2']
      exact a4 i h1 h2
    · unfold Rf
      rw [c1]
      exact y5
end
