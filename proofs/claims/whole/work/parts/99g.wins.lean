/-! layer 3: wins -/
theorem pl_all {me : Int32} (hme : me = 0 ∨ me = 1) : ∀ (l L n : Nat), L + l = n → n ≤ 3 → Pl me n l L := by
  have i1 : ¬ Int32.ofInt 1 = 0 := by decide
  have i0 : Int32.ofInt 0 = 0 := rfl
  intro l
  induction l with
  | zero =>
    intro L n hn h3 K s p m fuel v5 hK hP hG hf
    obtain ⟨f, rfl⟩ : ∃ z, fuel = z + 1 := ⟨fuel - 1, by have : Cst 0 = 1 := rfl; omega⟩
    have pL : ¬ nI L < 0 := nI_pos (by omega)
    have eL : nI L = nI n := by rw [show L = n by omega]
    obtain ⟨_, pw, _, w4⟩ := wo_eq hP hG
    rw [f_X9_plays_8, p_X9_plays_8, if_neg pL, if_neg i1]
    have go : ∀ v, f_X9_plays_139 (f_X9_plays_8 f) m (nI n) me (nI L + Int32.ofInt (-1)) (Int32.ofInt 0) v = f_X9_plays_8 f m (nI n) me (nI L + Int32.ofInt (-1)) (Int32.ofInt 0) v := fun v => by
      unfold f_X9_plays_139
      rw [if_pos i0]
    have gp : ∀ v, p_X9_plays_8 f m (nI n) me (nI L + Int32.ofInt (-1)) (Int32.ofInt 0) v → p_X9_plays_139 (p_X9_plays_8 f) m (nI n) me (nI L + Int32.ofInt (-1)) (Int32.ofInt 0) v := fun v hp => ⟨fun _ => hp, fun z => absurd i0 z⟩
    have cf : f + 1 ≤ f + Cst 0 := Nat.le_refl _
    by_cases c1 : f_X9_won m = Int32.ofInt (-1)
    · have nm : ¬ f_X9_won m = me := by
        rw [c1]
        rcases hme with rfl | rfl <;> decide
      rw [if_pos c1, if_pos eL, if_neg nm, go]
      exact ⟨f, m, Int32.ofInt 0, cf, rfl, fun hp => ⟨fun z => absurd z pL, fun _ => ⟨fun z => absurd z i1, fun _ => ⟨pw, fun _ => ⟨fun _ => ⟨fun z => absurd z nm, fun _ => gp _ hp⟩, fun z => absurd eL z⟩, fun z => absurd c1 z⟩⟩⟩, Or.inr rfl, ⟨fun z => absurd z (by decide), fun z => absurd z nm⟩, FrP.r L m⟩
    · rw [if_neg c1]
      by_cases c2 : f_X9_won m = me
      · rw [if_pos c2, go]
        exact ⟨f, m, Int32.ofInt 1, cf, rfl, fun hp => ⟨fun z => absurd z pL, fun _ => ⟨fun z => absurd z i1, fun _ => ⟨pw, fun z => absurd z c1, fun _ => ⟨fun _ => gp _ hp, fun z => absurd c2 z⟩⟩⟩⟩, Or.inl rfl, ⟨fun _ => c2, fun _ => rfl⟩, FrP.r L m⟩
      · rw [if_neg c2, go]
        exact ⟨f, m, Int32.ofInt 0, cf, rfl, fun hp => ⟨fun z => absurd z pL, fun _ => ⟨fun z => absurd z i1, fun _ => ⟨pw, fun z => absurd z c1, fun _ => ⟨fun z => absurd z c2, fun _ => gp _ hp⟩⟩⟩⟩, Or.inr rfl, ⟨fun z => absurd z (by decide), fun z => absurd z c2⟩, FrP.r L m⟩
  | succ l ih =>
    intro L n hn h3 K s p m fuel v5 hK hP hG hf
    have eC : Cst (l + 1) = 2 + 290 * (Cst l + 1) := rfl
    obtain ⟨f, rfl⟩ : ∃ z, fuel = z + 1 := ⟨fuel - 1, by omega⟩
    have pL : ¬ nI L < 0 := nI_pos (by omega)
    have vL : vp_in (nI L) 5 := vp_in_nI (by omega) (by omega)
    have eL : ¬ nI L = nI n := fun z => by
      have := (nI_eq (by omega) (by omega)).mp z
      omega
    obtain ⟨_, pw, _, w4⟩ := wo_eq hP hG
    rw [f_X9_plays_8, p_X9_plays_8, if_neg pL, if_neg i1]
    have go : ∀ v, f_X9_plays_139 (f_X9_plays_8 f) m (nI n) me (nI L + Int32.ofInt (-1)) (Int32.ofInt 0) v = f_X9_plays_8 f m (nI n) me (nI L + Int32.ofInt (-1)) (Int32.ofInt 0) v := fun v => by
      unfold f_X9_plays_139
      rw [if_pos i0]
    have gp : ∀ v, p_X9_plays_8 f m (nI n) me (nI L + Int32.ofInt (-1)) (Int32.ofInt 0) v → p_X9_plays_139 (p_X9_plays_8 f) m (nI n) me (nI L + Int32.ofInt (-1)) (Int32.ofInt 0) v := fun v hp => ⟨fun _ => hp, fun z => absurd i0 z⟩
    by_cases c1 : f_X9_won m = Int32.ofInt (-1)
    · have nm : ¬ f_X9_won m = me := by
        rw [c1]
        rcases hme with rfl | rfl <;> decide
      rw [if_pos c1, if_neg eL]
      obtain ⟨s1, s2, s3, s4, s5⟩ := se_ok zr hP hG
      obtain ⟨sc, st, sw⟩ := se_cm hP hG
      obtain ⟨g, hg⟩ : ∃ z, z = f_X9_settles m := ⟨_, rfl⟩
      rw [← hg] at s2 s3 s4 s5 st ⊢
      have e20 : Int32.ofInt 20 * nI L = nI (20 * L) := pk_mul 20 L
      obtain ⟨k1, k2⟩ := kp14 (20 * L) (by omega) 40 0 g (by omega) (by omega)
      have k1' : p_X9_keeps_v11 g (Int32.ofInt 20 * nI L) := by rw [e20]; exact k1
      have k2' : f_X9_keeps_v11 g (Int32.ofInt 20 * nI L) = setA g 14 (fun i => if 20 * L + 0 ≤ i ∧ i < 20 * L + 20 then g.2 0 (8 + (i - 20 * L)) else g.2 14 i) := by rw [e20]; exact k2
      rw [k2', nI_clamp (n := L) (by omega)]
      obtain ⟨A, hA⟩ : ∃ z, z = setA g 14 (fun i => if 20 * L + 0 ≤ i ∧ i < 20 * L + 20 then g.2 0 (8 + (i - 20 * L)) else g.2 14 i) := ⟨_, rfl⟩
      rw [← hA]
      obtain ⟨B, hB⟩ : ∃ z, z = setA (setA A 15 (upd (A.2 15) L (Int32.ofInt 0))) 16 (upd (A.2 16) L (Int32.ofInt 0)) := ⟨_, rfl⟩
      rw [← hB]
      have Bo' : ∀ x, x ≠ 14 → x ≠ 15 → x ≠ 16 → B.2 x = g.2 x := fun x q1 q2 q3 => by rw [hB, setA_ne q3, setA_ne q2, hA, setA_ne q1]
      have B14 : B.2 14 = fun i => if 20 * L + 0 ≤ i ∧ i < 20 * L + 20 then g.2 0 (8 + (i - 20 * L)) else g.2 14 i := by rw [hB, setA_ne (by decide), setA_ne (by decide), hA, setA_at]
      have B15 : B.2 15 L = nI 0 := by rw [hB, setA_ne (by decide), setA_at, upd_at, if_pos rfl]; rfl
      have B16 : B.2 16 L = 0 := by rw [hB, setA_at, upd_at, if_pos rfl]; rfl
      have gB : GI K B := gi_fr (Bo' 0 (by decide) (by decide) (by decide)) (Bo' 4 (by decide) (by decide) (by decide)) (Bo' 5 (by decide) (by decide) (by decide)) (Bo' 6 (by decide) (by decide) (by decide)) (Bo' 7 (by decide) (by decide) (by decide)) s3
      have scB : Sc K (stC 3 zr s p).2.1 (stC 3 zr s p).2.2 g L B := ⟨pr_b (g := g) (Bo' 0 (by decide) (by decide) (by decide)) s3 gB s2, gB, Bo' 0 (by decide) (by decide) (by decide), fun i hi => by rw [B14]; show (if 20 * L + 0 ≤ 20 * L + i ∧ 20 * L + i < 20 * L + 20 then _ else _) = _; rw [if_pos (by omega), show 20 * L + i - 20 * L = i by omega]⟩
      have frB : FrP L g B := by
        refine ⟨fun k _ _ _ _ _ _ _ _ => by rw [hB, setA_1, setA_1, hA, setA_1], fun x q0 q4 q5 q6 q7 q14 q15 q16 => Bo' x q14 q15 q16, fun i _ => by rw [Bo' 0 (by decide) (by decide) (by decide)], fun i hi => ?_, fun i hi => ⟨?_, ?_⟩⟩
        · rw [B14]
          show (if 20 * L + 0 ≤ i ∧ i < 20 * L + 20 then _ else g.2 14 i) = _
          rw [if_neg (by omega)]
        · rw [hB, setA_ne (by decide), setA_at, upd_at, if_neg (by omega), hA, setA_ne (by decide)]
        · rw [hB, setA_at, upd_at, if_neg (by omega), hA, setA_ne (by decide)]
      have nn : Int32.ofNat (l + 1) = Int32.ofNat l + 1 := nI_succ l
      have l0 : 0 ≤ Int32.ofNat l := nI_pos' (n := l) (by omega)
      have l3 : Int32.ofNat l ≤ 3 := nI_le (a := l) (b := 3) (by omega) (by omega)
      rw [nn] at hK
      obtain ⟨fuel', m', val, x1, x2, x3, x4, x5, x6⟩ := scan (K := K) (me := me) (n := n) (l := l) (L := L) (by clear ih; grind) (by omega) (by omega) s2 s3 hme (ih (L + 1) n (by omega) h3) 288 0 f B v5 (by have := jj_288 s3; omega) (by omega) (by omega) scB B15 (Or.inl ⟨B16, fun i hi => by omega⟩)
      refine ⟨fuel', m', val, by omega, ?_, fun hp => ?_, x4, ?_, ((frp_s L s4).t frB).t x6⟩
      · unfold f_X9_plays_139
        rw [if_neg i1, if_neg pL]
        exact x2
      · exact ⟨fun z => absurd z pL, fun _ => ⟨fun z => absurd z i1, fun _ => ⟨pw, fun _ => ⟨fun z => absurd z eL, fun _ => ⟨s1, k1', vL, vL, fun z => absurd z i1, fun _ => ⟨fun z => absurd z pL, fun _ => x3 hp⟩⟩⟩, fun z => absurd c1 z⟩⟩⟩
      · rw [x5, st]
        constructor
        · rintro (⟨q1, i, q2, q3, q4⟩ | ⟨q1, ⟨i, q2, q3⟩, q4⟩)
          · exact Or.inr ⟨c1, Or.inl ⟨q1, _, _, _, _, ok_j i, by rw [← hg]; exact q3, by rw [← hg]; exact q4⟩⟩
          · refine Or.inr ⟨c1, Or.inr ⟨q1, ⟨_, _, _, _, ok_j i, by rw [← hg]; exact q3⟩, fun x y w d o1 o2 => ?_⟩⟩
            rw [← hg] at o2 ⊢
            obtain ⟨j, j1, rfl, rfl, rfl, rfl⟩ := leg_k s2 s3 o1 o2
            exact q4 j j1 o2
        · rintro (z | ⟨_, ⟨q1, x, y, w, d, o1, o2, o3⟩ | ⟨q1, ⟨x, y, w, d, o1, o2⟩, o3⟩⟩)
          · exact absurd z nm
          · rw [← hg] at o2 o3
            obtain ⟨j, j1, rfl, rfl, rfl, rfl⟩ := leg_k s2 s3 o1 o2
            exact Or.inl ⟨q1, j, j1, o2, o3⟩
          · rw [← hg] at o2
            obtain ⟨j, j1, rfl, rfl, rfl, rfl⟩ := leg_k s2 s3 o1 o2
            refine Or.inr ⟨q1, ⟨j, j1, o2⟩, fun i i1' i2 => ?_⟩
            have := o3 _ _ _ _ (ok_j i) (by rw [← hg]; exact i2)
            rw [← hg] at this
            exact this
    · rw [if_neg c1]
      have cf : f + 1 ≤ f + Cst (l + 1) := by omega
      by_cases c2 : f_X9_won m = me
      · rw [if_pos c2, go]
        exact ⟨f, m, Int32.ofInt 1, cf, rfl, fun hp => ⟨fun z => absurd z pL, fun _ => ⟨fun z => absurd z i1, fun _ => ⟨pw, fun z => absurd z c1, fun _ => ⟨fun _ => gp _ hp, fun z => absurd c2 z⟩⟩⟩⟩, Or.inl rfl, ⟨fun _ => Or.inl c2, fun _ => rfl⟩, FrP.r L m⟩
      · rw [if_neg c2, go]
        refine ⟨f, m, Int32.ofInt 0, cf, rfl, fun hp => ⟨fun z => absurd z pL, fun _ => ⟨fun z => absurd z i1, fun _ => ⟨pw, fun z => absurd z c1, fun _ => ⟨fun z => absurd z c2, fun _ => gp _ hp⟩⟩⟩⟩, Or.inr rfl, ⟨fun z => absurd z (by decide), fun z => ?_⟩, FrP.r L m⟩
        rcases z with z | ⟨z, _⟩
        · exact absurd z c2
        · exact absurd z c1
theorem cst_b {l : Nat} (h : l ≤ 3) : Cst l ≤ 60000000 := by
  have : l = 0 ∨ l = 1 ∨ l = 2 ∨ l = 3 := by omega
  rcases this with rfl | rfl | rfl | rfl <;> decide
theorem plays_all {K me : Int32} {s p m : Rec} {n : Nat} (hn : n ≤ 3) (hK : K < 800000) (hP : PR s p m) (hG : GI K m) (hme : me = 0 ∨ me = 1) : p_X9_plays m (nI n) me ∧ ((f_X9_plays m (nI n) me).1 = 1 ∨ (f_X9_plays m (nI n) me).1 = 0) ∧ ((f_X9_plays m (nI n) me).1 = 1 ↔ Vw me n m) ∧ FrP 0 m (f_X9_plays m (nI n) me).2 := by
  have cb := cst_b hn
  have n0 : 0 ≤ Int32.ofNat n := nI_pos' (n := n) (by omega)
  have n3 : Int32.ofNat n ≤ 3 := nI_le (a := n) (b := 3) (by omega) (by omega)
  obtain ⟨fuel', m', val, x1, x2, x3, x4, x5, x6⟩ := pl_all hme n 0 n (by omega) hn K s p m 1000000000000 (Int32.ofInt 0) (by grind) hP hG (by omega)
  obtain ⟨f, rfl⟩ : ∃ z, fuel' = z + 1 := ⟨fuel' - 1, by omega⟩
  have lt : nI 0 + Int32.ofInt (-1) < 0 := by decide
  have e : f_X9_plays m (nI n) me = (val, m') := by
    have a : f_X9_plays m (nI n) me = f_X9_plays_8 (f + 1) m' (nI n) me (nI 0 + Int32.ofInt (-1)) (Int32.ofInt 0) val := x2
    rw [a, f_X9_plays_8, if_pos lt]
  have pp : p_X9_plays m (nI n) me := by
    refine x3 ?_
    rw [p_X9_plays_8]
    exact ⟨fun _ => ⟨x4.symm, trivial⟩, fun z => absurd lt z⟩
  rw [e]
  exact ⟨pp, x4, x5, x6⟩
/-- a game that was put back: what both sides hold -/
theorem inv_back {K : Int32} {c s p t e q s1 p1 s2 p2 t1 t2 m s' p' m' : Rec} (hK : K < 100000) (hI : Inv K c s p t e q s1 p1 s2 p2 t1 t2 m) (hP' : PR s' p' (f_X9_lays m)) (h0 : m'.2 0 = m.2 0) (h1 : m'.2 1 = m.2 1) (h2 : m'.2 2 = m.2 2) (h3 : m'.2 3 = m.2 3) (h22 : m'.2 22 = m.2 22) (h23 : m'.1 23 = m.1 23) : Inv (K + 1) c s' p' t e q s1 p1 s2 p2 t1 t2 m' := by
  obtain ⟨hP, hG, _, hF, hb⟩ := inv_g hI
  obtain ⟨_, _, _, l4, l5⟩ := la_all (m := m') hP' hG (by rw [h0, hb])
  have nf : NF m' := by
    obtain ⟨nf, a, b⟩ := hI.1.1.1
    exact ⟨nf, a, by rw [h0]; exact b⟩
  have hN : Now (K + 1) s' p' m' := now_same (m := m') (fun _ _ _ _ _ => rfl) (k1 hK) ⟨nf, l4, l5⟩
  have st := st_fr (m := m) (m' := m') (k1 hK) h0 hI.1
  refine inv_st (m := m) (k1 hK) ⟨hN, st.2.1, st.2.2⟩ h1 h2 h22 h23 h3 (sm_new hP hN.2.1 (fun a => ?_) hI.2.2.2.2.2) hI
  refine isCell_congr ?_ a
  rw [nf.b.1, h0, hb]
/-- the reference's way back after a search -/
theorem ref_back {K : Int32} {s p m G : Rec} {f : Nat → Int32} (hP : PR s p (f_X9_lays m)) (hG : GI K (f_X9_lays m)) (hF : FrH m (f_X9_lays m)) (kk : ∀ k, k < 20 → f k = (f_X9_lays m).2 0 (8 + k)) (fr : FrP 0 (setA (f_X9_lays m) 17 f) G) : p_X9_takes_v14 G (Int32.ofInt 0) ∧ (f_X9_takes_v14 G (Int32.ofInt 0)).2 0 = (f_X9_lays m).2 0 ∧ PR s p (f_X9_takes_v14 G (Int32.ofInt 0)) ∧ GI K (f_X9_takes_v14 G (Int32.ofInt 0)) ∧ FrP 0 (setA (f_X9_lays m) 17 f) (f_X9_takes_v14 G (Int32.ofInt 0)) ∧ (∀ j, (j = 1 ∨ j = 2 ∨ j = 3 ∨ j = 22) → (f_X9_takes_v14 G (Int32.ofInt 0)).2 j = m.2 j) ∧ (f_X9_takes_v14 G (Int32.ofInt 0)).1 23 = m.1 23 := by
  have g17 : G.2 17 = f := by rw [fr.2.1 17 (by decide) (by decide) (by decide) (by decide) (by decide) (by decide) (by decide) (by decide), setA_at]
  obtain ⟨t1, t2, t3, t4, t5⟩ := tk_17 (G := G) hP hG kk g17 (fun i hi => by rw [fr.2.2.1 i hi, setA_ne (by decide)])
  obtain ⟨T, hT⟩ : ∃ z, z = f_X9_lays (setA G 0 ((f_X9_lays m).2 0)) := ⟨_, rfl⟩
  rw [← hT] at t2 t3 t4 t5
  rw [t2]
  have frT : FrP 0 G T := by
    refine FrP.t ?_ (frp_h 0 t3)
    exact ⟨fun _ _ _ _ _ _ _ _ _ => rfl, fun x q1 _ _ _ _ _ _ _ => setA_ne q1, fun i hi => by rw [setA_at, fr.2.2.1 i hi, setA_ne (by decide)], fun i hi => by omega, fun i hi => by omega⟩
  have frA := fr.t frT
  refine ⟨t1, by rw [t3.b, setA_at], t4, t5, frA, fun j hj => ?_, ?_⟩
  · rw [frA.2.1 j (by omega) (by omega) (by omega) (by omega) (by omega) (by omega) (by omega) (by omega), setA_ne (by omega), hF.2 j (by omega) (by omega) (by omega) (by omega)]
  · rw [frA.1 23 (by decide) (by decide) (by decide) (by decide) (by decide) (by decide) (by decide) (by decide), setA_1, hF.1 23 (by decide) (by decide) (by decide)]
theorem sw_0 {K : Int32} {s p g : Rec} (o h : Rec) (hK : K < 800000) (hP : PR s p g) (hG : GI K g) : p_X0_sureWithin_c0 o h s p ∧ ((f_X0_sureWithin_c0 o h s p).1 = 0 ↔ ¬ Vw (f_X9_turn g) 0 g) ∧ PR (f_X0_sureWithin_c0 o h s p).2.2.2.1 (f_X0_sureWithin_c0 o h s p).2.2.2.2 g := by
  have hme := turn_01 hG
  have tu := tu_eq hP
  obtain ⟨u1, u2, u3, u5⟩ := isf_0 o (setA h 100 ((f_X3_save s p ((fun _ => 0, fun _ => (h.2 100)) : Rec)).2 0)) hP hG hme
  unfold p_X0_sureWithin_c0 f_X0_sureWithin_c0
  rw [tu]
  obtain ⟨F, hF⟩ : ∃ z, z = f_X0_isForced_c0 o (setA h 100 ((f_X3_save s p ((fun _ => 0, fun _ => (h.2 100)) : Rec)).2 0)) s p (f_X9_turn g) := ⟨_, rfl⟩
  rw [← hF] at u2 u3 u5 ⊢
  obtain ⟨g', x1, x2, x3⟩ := u5
  obtain ⟨L1, L2⟩ := pb (row := (f_X3_save s p ((fun _ => 0, fun _ => (h.2 100)) : Rec)).2 0) ((fun _ => 0, fun _ => (h.2 100)) : Rec) hP hG x1 x2 x3 rfl
  refine ⟨⟨sv_ok _ hP hG, u1, L1, u2.symm, trivial⟩, ?_, L2⟩
  rw [← u3]
  rcases u2 with z | z
  · rw [z]; decide
  · rw [z]; decide
theorem sw_1 {K : Int32} {s p g : Rec} (o h : Rec) (hK : K < 800000) (hP : PR s p g) (hG : GI K g) : p_X0_sureWithin_c1 o h s p ∧ ((f_X0_sureWithin_c1 o h s p).1 = 0 ↔ ¬ Vw (f_X9_turn g) 1 g) ∧ PR (f_X0_sureWithin_c1 o h s p).2.2.2.1 (f_X0_sureWithin_c1 o h s p).2.2.2.2 g := by
  have hme := turn_01 hG
  have tu := tu_eq hP
  obtain ⟨u1, u2, u3, u5, u6⟩ := isf_1 o (setA h 100 ((f_X3_save s p ((fun _ => 0, fun _ => (h.2 100)) : Rec)).2 0)) hP hG (by grind) hme
  unfold p_X0_sureWithin_c1 f_X0_sureWithin_c1
  rw [tu]
  obtain ⟨F, hF⟩ : ∃ z, z = f_X0_isForced_c1 o (setA h 100 ((f_X3_save s p ((fun _ => 0, fun _ => (h.2 100)) : Rec)).2 0)) s p (f_X9_turn g) := ⟨_, rfl⟩
  rw [← hF] at u2 u3 u5 u6 ⊢
  obtain ⟨g', x1, x2, x3⟩ := u5
  obtain ⟨L1, L2⟩ := pb (row := F.2.2.1.2 100) ((fun _ => 0, fun _ => (h.2 100)) : Rec) hP hG x1 x2 x3 (by rw [u6 100 (by omega), setA_at])
  refine ⟨⟨sv_ok _ hP hG, u1, L1, u2.symm, trivial⟩, ?_, L2⟩
  rw [← u3]
  rcases u2 with z | z
  · rw [z]; decide
  · rw [z]; decide
theorem sw_2 {K : Int32} {s p g : Rec} (o h : Rec) (hK : K < 800000) (hP : PR s p g) (hG : GI K g) : p_X0_sureWithin_c2 o h s p ∧ ((f_X0_sureWithin_c2 o h s p).1 = 0 ↔ ¬ Vw (f_X9_turn g) 2 g) ∧ PR (f_X0_sureWithin_c2 o h s p).2.2.2.1 (f_X0_sureWithin_c2 o h s p).2.2.2.2 g := by
  have hme := turn_01 hG
  have tu := tu_eq hP
  obtain ⟨u1, u2, u3, u5, u6⟩ := isf_2 o (setA h 100 ((f_X3_save s p ((fun _ => 0, fun _ => (h.2 100)) : Rec)).2 0)) hP hG (by grind) hme
  unfold p_X0_sureWithin_c2 f_X0_sureWithin_c2
  rw [tu]
  obtain ⟨F, hF⟩ : ∃ z, z = f_X0_isForced_c2 o (setA h 100 ((f_X3_save s p ((fun _ => 0, fun _ => (h.2 100)) : Rec)).2 0)) s p (f_X9_turn g) := ⟨_, rfl⟩
  rw [← hF] at u2 u3 u5 u6 ⊢
  obtain ⟨g', x1, x2, x3⟩ := u5
  obtain ⟨L1, L2⟩ := pb (row := F.2.2.1.2 100) ((fun _ => 0, fun _ => (h.2 100)) : Rec) hP hG x1 x2 x3 (by rw [u6 100 (by omega), setA_at])
  refine ⟨⟨sv_ok _ hP hG, u1, L1, u2.symm, trivial⟩, ?_, L2⟩
  rw [← u3]
  rcases u2 with z | z
  · rw [z]; decide
  · rw [z]; decide
theorem sw_3 {K : Int32} {s p g : Rec} (o h : Rec) (hK : K < 800000) (hP : PR s p g) (hG : GI K g) : p_X0_sureWithin_c3 o h s p ∧ ((f_X0_sureWithin_c3 o h s p).1 = 0 ↔ ¬ Vw (f_X9_turn g) 3 g) ∧ PR (f_X0_sureWithin_c3 o h s p).2.2.2.1 (f_X0_sureWithin_c3 o h s p).2.2.2.2 g := by
  have hme := turn_01 hG
  have tu := tu_eq hP
  obtain ⟨u1, u2, u3, u5, u6⟩ := isf_3 o (setA h 100 ((f_X3_save s p ((fun _ => 0, fun _ => (h.2 100)) : Rec)).2 0)) hP hG (by grind) hme
  unfold p_X0_sureWithin_c3 f_X0_sureWithin_c3
  rw [tu]
  obtain ⟨F, hF⟩ : ∃ z, z = f_X0_isForced_c3 o (setA h 100 ((f_X3_save s p ((fun _ => 0, fun _ => (h.2 100)) : Rec)).2 0)) s p (f_X9_turn g) := ⟨_, rfl⟩
  rw [← hF] at u2 u3 u5 u6 ⊢
  obtain ⟨g', x1, x2, x3⟩ := u5
  obtain ⟨L1, L2⟩ := pb (row := F.2.2.1.2 100) ((fun _ => 0, fun _ => (h.2 100)) : Rec) hP hG x1 x2 x3 (by rw [u6 100 (by omega), setA_at])
  refine ⟨⟨sv_ok _ hP hG, u1, L1, u2.symm, trivial⟩, ?_, L2⟩
  rw [← u3]
  rcases u2 with z | z
  · rw [z]; decide
  · rw [z]; decide
section
variable {K : Int32} {c s p t e q s1 p1 s2 p2 t1 t2 m : Rec}
theorem c_wins (o oh h k : Rec) (n : Int32) (hK : K < 100000) (hI : Inv K c s p t e q s1 p1 s2 p2 t1 t2 m) : p_X8_wins c s p t e o oh h k q s1 p1 s2 p2 t1 t2 n ∧ p_X9_wins m n ∧ (f_X8_wins c s p t e o oh h k q s1 p1 s2 p2 t1 t2 n).1 = (f_X9_wins m n).1 ∧ Inv (K + 1) (f_X8_wins c s p t e o oh h k q s1 p1 s2 p2 t1 t2 n).2.1 (f_X8_wins c s p t e o oh h k q s1 p1 s2 p2 t1 t2 n).2.2.1 (f_X8_wins c s p t e o oh h k q s1 p1 s2 p2 t1 t2 n).2.2.2.1 t e q s1 p1 s2 p2 t1 t2 (f_X9_wins m n).2 := by
  obtain ⟨hP, hG, hp, hF, hb⟩ := inv_g hI
  unfold p_X8_wins p_X9_wins f_X8_wins f_X9_wins
  rw [in_0, in_3, in_w]
  by_cases c1 : f_X8_within n 0 3 = 0
  · have c1' : f_X8_within n (Int32.ofInt 0) (Int32.ofInt 3) = 0 := c1
    rw [if_pos c1, if_pos c1']
    exact ⟨⟨fun _ => trivial, fun z => absurd c1' z⟩, ⟨fun _ => ⟨pp_bad _, trivial⟩, fun z => absurd c1 z⟩, rfl, ref_bad _ hK hI⟩
  · have c1' : ¬ f_X8_within n (Int32.ofInt 0) (Int32.ofInt 3) = 0 := c1
    rw [if_neg c1, if_neg c1']
    have nn := wi_n.mp c1
    obtain ⟨N, hN, eN⟩ := nI_of2 (x := n) (M := 3) (n := 3) (by decide) (by have := nn.1; grind) nn.2
    subst eN
    obtain ⟨kp, f, kf, kk⟩ := kp_17 (f_X9_lays m)
    rw [kf]
    obtain ⟨g0, hg0⟩ : ∃ z, z = setA (f_X9_lays m) 17 f := ⟨_, rfl⟩
    have hP0 : PR s p g0 := by rw [hg0]; exact pr_17 f hP
    have hG0 : GI K g0 := by rw [hg0]; exact gi_17 f hG
    have tg : f_X9_turn g0 = f_X9_turn (f_X9_lays m) := turn_b (by rw [hg0, setA_ne (by decide)])
    rw [← hg0, tg]
    have hme := turn_01 hG
    obtain ⟨pl1, pl2, pl3, pl4⟩ := plays_all (n := N) hN (by grind) hP0 hG0 hme
    obtain ⟨PL, hPL⟩ : ∃ z, z = f_X9_plays g0 (nI N) (f_X9_turn (f_X9_lays m)) := ⟨_, rfl⟩
    rw [← hPL] at pl2 pl3 pl4 ⊢
    rw [hg0] at pl4
    obtain ⟨b1, b2, b3, b4, b5, b6, b7⟩ := ref_back hP hG hF kk pl4
    have vv : Vw (f_X9_turn (f_X9_lays m)) N g0 ↔ Vw (f_X9_turn (f_X9_lays m)) N (f_X9_lays m) := by
      have n0 : 0 ≤ Int32.ofNat N := nI_pos' (n := N) (by omega)
      have n3 : Int32.ofNat N ≤ 3 := nI_le (a := N) (b := 3) (by omega) (by omega)
      exact ⟨vi N K _ _ _ _ (by grind) (by omega) hP0 hG0 hP hG, vi N K _ _ _ _ (by grind) (by omega) hP hG hP0 hG0⟩
    rw [vv] at pl3
    have fin : ∀ (S : Int32 × Rec × Rec × Rec × Rec), (S.1 = 0 ↔ ¬ Vw (f_X9_turn (f_X9_lays m)) N (f_X9_lays m)) → PR S.2.2.2.1 S.2.2.2.2 (f_X9_lays m) → (if S.1 = 0 then (Int32.ofInt 0, c, S.2.2.2.1, S.2.2.2.2, S.2.1, S.2.2.1) else (Int32.ofInt 1, c, S.2.2.2.1, S.2.2.2.2, S.2.1, S.2.2.1)).1 = (if PL.1 = 0 then (Int32.ofInt 0, f_X9_takes_v14 PL.2 (Int32.ofInt 0)) else (Int32.ofInt 1, f_X9_takes_v14 PL.2 (Int32.ofInt 0))).1 ∧ Inv (K + 1) (if S.1 = 0 then (Int32.ofInt 0, c, S.2.2.2.1, S.2.2.2.2, S.2.1, S.2.2.1) else (Int32.ofInt 1, c, S.2.2.2.1, S.2.2.2.2, S.2.1, S.2.2.1)).2.1 (if S.1 = 0 then (Int32.ofInt 0, c, S.2.2.2.1, S.2.2.2.2, S.2.1, S.2.2.1) else (Int32.ofInt 1, c, S.2.2.2.1, S.2.2.2.2, S.2.1, S.2.2.1)).2.2.1 (if S.1 = 0 then (Int32.ofInt 0, c, S.2.2.2.1, S.2.2.2.2, S.2.1, S.2.2.1) else (Int32.ofInt 1, c, S.2.2.2.1, S.2.2.2.2, S.2.1, S.2.2.1)).2.2.2.1 t e q s1 p1 s2 p2 t1 t2 (if PL.1 = 0 then (Int32.ofInt 0, f_X9_takes_v14 PL.2 (Int32.ofInt 0)) else (Int32.ofInt 1, f_X9_takes_v14 PL.2 (Int32.ofInt 0))).2 := by
      intro S h1 h2
      obtain ⟨T, hT⟩ : ∃ z, z = f_X9_takes_v14 PL.2 (Int32.ofInt 0) := ⟨_, rfl⟩
      rw [← hT] at b2 b6 b7 ⊢
      have iv := inv_back (m' := T) hK hI h2 (by rw [b2, hb]) (b6 1 (by omega)) (b6 2 (by omega)) (b6 3 (by omega)) (b6 22 (by omega)) b7
      by_cases z : S.1 = 0
      · have y : PL.1 = 0 := by
          rcases pl2 with w | w
          · exact absurd (pl3.mp w) (h1.mp z)
          · exact w
        rw [if_pos z, if_pos y]
        exact ⟨rfl, iv⟩
      · have y : ¬ PL.1 = 0 := by
          intro w
          refine z (h1.mpr fun v => ?_)
          rw [pl3.mpr v] at w
          exact absurd w (by decide)
        rw [if_neg z, if_neg y]
        exact ⟨rfl, iv⟩
    have rf : p_X9_lays m ∧ p_X9_keeps_v14 (f_X9_lays m) (Int32.ofInt 0) ∧ p_X9_plays g0 (nI N) (f_X9_turn (f_X9_lays m)) ∧ p_X9_takes_v14 PL.2 (Int32.ofInt 0) ∧ True := ⟨hp, kp, pl1, b1, trivial⟩
    have hK8 : K < 800000 := by grind
    have : N = 0 ∨ N = 1 ∨ N = 2 ∨ N = 3 := by omega
    rcases this with rfl | rfl | rfl | rfl
    · obtain ⟨q1, q2, q3⟩ := sw_0 oh h hK8 hP hG
      rw [if_pos (show nI 0 = Int32.ofInt 0 from rfl)]
      exact ⟨⟨fun z => absurd z c1', fun _ => ⟨fun _ => ⟨q1, trivial⟩, fun z => absurd rfl z⟩⟩, ⟨fun z => absurd z c1, fun _ => rf⟩, fin _ q2 q3⟩
    · obtain ⟨q1, q2, q3⟩ := sw_1 oh h hK8 hP hG
      rw [if_neg (show ¬ nI 1 = Int32.ofInt 0 by decide), if_pos (show nI 1 = Int32.ofInt 1 from rfl)]
      exact ⟨⟨fun z => absurd z c1', fun _ => ⟨fun z => absurd z (by decide), fun _ => ⟨fun _ => ⟨q1, trivial⟩, fun z => absurd rfl z⟩⟩⟩, ⟨fun z => absurd z c1, fun _ => rf⟩, fin _ q2 q3⟩
    · obtain ⟨q1, q2, q3⟩ := sw_2 oh h hK8 hP hG
      rw [if_neg (show ¬ nI 2 = Int32.ofInt 0 by decide), if_neg (show ¬ nI 2 = Int32.ofInt 1 by decide), if_pos (show nI 2 = Int32.ofInt 2 from rfl)]
      exact ⟨⟨fun z => absurd z c1', fun _ => ⟨fun z => absurd z (by decide), fun _ => ⟨fun z => absurd z (by decide), fun _ => ⟨fun _ => ⟨q1, trivial⟩, fun z => absurd rfl z⟩⟩⟩⟩, ⟨fun z => absurd z c1, fun _ => rf⟩, fin _ q2 q3⟩
    · obtain ⟨q1, q2, q3⟩ := sw_3 oh h hK8 hP hG
      rw [if_neg (show ¬ nI 3 = Int32.ofInt 0 by decide), if_neg (show ¬ nI 3 = Int32.ofInt 1 by decide), if_neg (show ¬ nI 3 = Int32.ofInt 2 by decide), if_pos (show nI 3 = Int32.ofInt 3 from rfl)]
      exact ⟨⟨fun z => absurd z c1', fun _ => ⟨fun z => absurd z (by decide), fun _ => ⟨fun z => absurd z (by decide), fun _ => ⟨fun z => absurd z (by decide), fun _ => ⟨fun _ => ⟨q1, trivial⟩, fun z => absurd rfl z⟩⟩⟩⟩⟩, ⟨fun z => absurd z c1, fun _ => rf⟩, fin _ q2 q3⟩
end
