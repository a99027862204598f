/-! layer 3: one ITEM played -/
theorem FrF.r {g g' : Rec} (h : FrF g g') : Frm g g' := ⟨fun k _ => h.1 k, h.2.1, fun i hi => h.2.2 i (by omega)⟩
theorem Frm.o (g : Rec) : Frm g g := ⟨fun _ _ => rfl, fun _ _ _ _ _ _ => rfl, fun _ _ => rfl⟩
theorem Frm.t {a b c : Rec} (h1 : Frm a b) (h2 : Frm b c) : Frm a c := ⟨fun k q => (h2.1 k q).trans (h1.1 k q), fun j a b c d e => (h2.2.1 j a b c d e).trans (h1.2.1 j a b c d e), fun i hi => (h2.2.2 i hi).trans (h1.2.2 i hi)⟩
theorem gi_up {K : Int32} {g : Rec} (h : GI K g) (hK : K < 1000000) : GI (K + 1) g := by
  have g' := h
  obtain ⟨_, _, d27, d26, _, _, hany, _, _, hdis⟩ := h
  exact gi_move g' (fun c _ _ => rfl) (fun i _ => rfl) d27 ⟨d26.1, by grind⟩ hany hdis
theorem go_all {K x : Int32} {s p g e : Rec} (c t o oh h k q s1 p1 s2 p2 t1 t2 : Rec) (hP : PR s p g) (hG : GI K g) (hK : K < 1000000) (x0 : 0 ≤ x) (x50 : x ≤ 50) (hR : RwR e g x) :
    p_X8_playItem c s p t e o oh h k q s1 p1 s2 p2 t1 t2 ∧ p_X9_goes g x ∧ (f_X8_playItem c s p t e o oh h k q s1 p1 s2 p2 t1 t2).1 = (f_X9_goes g x).1 ∧ PR (f_X8_playItem c s p t e o oh h k q s1 p1 s2 p2 t1 t2).2.1 (f_X8_playItem c s p t e o oh h k q s1 p1 s2 p2 t1 t2).2.2 (f_X9_goes g x).2 ∧ GI (K + 1) (f_X9_goes g x).2 ∧ Frm g (f_X9_goes g x).2 := by
  have i5 : 0 ≤ 5 * x := by grind
  have i5' : 5 * x ≤ 250 := by grind
  have v0 := vinb (n := 300) (x := 5 * x) i5 (by show _ < (300 : Int32); grind)
  have v1 := vinb (n := 300) (x := 5 * x + 1) (by grind) (by show _ < (300 : Int32); grind)
  have v2 := vinb (n := 300) (x := 5 * x + 2) (by grind) (by show _ < (300 : Int32); grind)
  have v3 := vinb (n := 300) (x := 5 * x + 3) (by grind) (by show _ < (300 : Int32); grind)
  have v4 := vinb (n := 300) (x := 5 * x + 4) (by grind) (by show _ < (300 : Int32); grind)
  have gu := gi_up hG hK
  have r0 : (5 * x + 1 + 0) = 5 * x + Int32.ofInt 1 := by show _ = 5 * x + 1; grind
  have r1 : (5 * x + 1 + 1) = 5 * x + Int32.ofInt 2 := by show _ = 5 * x + 2; grind
  have r2 : (5 * x + 1 + 2) = 5 * x + Int32.ofInt 3 := by show _ = 5 * x + 3; grind
  have r3 : (5 * x + 1 + 3) = 5 * x + Int32.ofInt 4 := by show _ = 5 * x + 4; grind
  have e5 : Int32.ofInt 5 * x = 5 * x := rfl
  have k0 : Int32.toNatClampNeg (Int32.ofInt 0) = Int32.toNatClampNeg 0 := rfl
  unfold p_X8_playItem p_X9_goes f_X8_playItem f_X9_goes
  rw [e5]
  rcases hR with ⟨hs, hw, hn⟩ | ⟨hs, hw, hn⟩
  · have a0 : e.2 1 (Int32.toNatClampNeg (Int32.ofInt 0)) = g.2 28 (5 * x + Int32.ofInt 1).toNatClampNeg := by rw [← r0]; exact hn 0 (by decide) (by decide)
    have a1 : e.2 1 (Int32.toNatClampNeg (Int32.ofInt 1)) = g.2 28 (5 * x + Int32.ofInt 2).toNatClampNeg := by rw [← r1]; exact hn 1 (by decide) (by decide)
    have a2 : e.2 1 (Int32.toNatClampNeg (Int32.ofInt 2)) = g.2 28 (5 * x + Int32.ofInt 3).toNatClampNeg := by rw [← r2]; exact hn 2 (by decide) (by decide)
    have a3 : e.2 1 (Int32.toNatClampNeg (Int32.ofInt 3)) = g.2 28 (5 * x + Int32.ofInt 4).toNatClampNeg := by rw [← r3]; exact hn 3 (by decide) (by decide)
    rw [← a0, ← a1, ← a2, ← a3]
    obtain ⟨X, hX⟩ : ∃ z, z = e.2 1 (Int32.toNatClampNeg (Int32.ofInt 0)) := ⟨_, rfl⟩
    obtain ⟨Y, hY⟩ : ∃ z, z = e.2 1 (Int32.toNatClampNeg (Int32.ofInt 1)) := ⟨_, rfl⟩
    obtain ⟨W, hW⟩ : ∃ z, z = e.2 1 (Int32.toNatClampNeg (Int32.ofInt 2)) := ⟨_, rfl⟩
    obtain ⟨D, hD⟩ : ∃ z, z = e.2 1 (Int32.toNatClampNeg (Int32.ofInt 3)) := ⟨_, rfl⟩
    rw [← hX, ← hY, ← hW, ← hD]
    have s0 : ¬ e.1 3 = 0 := by rw [hs]; decide
    have hw4 : g.2 28 (5 * x).toNatClampNeg = Int32.ofInt 4 := hw
    rw [in_0, in_1, in_2, in_3, in_w, in_w, if_neg s0, if_pos hw4]
    have d7 : p.1 7 = g.2 0 27 := hP.2.2.2.2.1.2.1
    by_cases c1 : f_X8_within W 0 3 = 0
    · have gg : p_X3_goalOf s p X Y W D ∧ f_X3_goalOf s p X Y W D = Int32.ofInt (-1) := by
        have c1' : f_X8_within W (Int32.ofInt 0) (Int32.ofInt 3) = 0 := c1
        unfold p_X3_goalOf f_X3_goalOf
        by_cases z : 0 < p.1 7
        · rw [if_pos z]
          exact ⟨⟨fun _ => trivial, fun y => absurd z y⟩, rfl⟩
        · rw [if_neg z, if_pos c1']
          exact ⟨⟨fun _ => trivial, fun _ => ⟨fun _ => trivial, fun y => absurd c1' y⟩⟩, rfl⟩
      rw [if_pos gg.2, if_pos c1]
      exact ⟨⟨fun y => absurd y s0, fun _ => ⟨gg.1, fun _ => trivial, fun y => absurd gg.2 y⟩⟩, ⟨v1, v2, v3, v4, v0, fun _ => ⟨fun _ => trivial, fun y => absurd c1 y⟩, fun y => absurd hw4 y⟩, rfl, hP, gu, Frm.o g⟩
    · by_cases c2 : f_X8_within D 1 2 = 0
      · have gg : p_X3_goalOf s p X Y W D ∧ f_X3_goalOf s p X Y W D = Int32.ofInt (-1) := by
          have c1' : ¬ f_X8_within W (Int32.ofInt 0) (Int32.ofInt 3) = 0 := c1
          have c2' : f_X8_within D (Int32.ofInt 1) (Int32.ofInt 2) = 0 := c2
          unfold p_X3_goalOf f_X3_goalOf
          by_cases z : 0 < p.1 7
          · rw [if_pos z]
            exact ⟨⟨fun _ => trivial, fun y => absurd z y⟩, rfl⟩
          · rw [if_neg z, if_neg c1', if_pos c2']
            exact ⟨⟨fun _ => trivial, fun _ => ⟨fun y => absurd y c1', fun _ => ⟨fun _ => trivial, fun y => absurd c2' y⟩⟩⟩, rfl⟩
        rw [if_pos gg.2, if_neg c1, if_pos c2]
        exact ⟨⟨fun y => absurd y s0, fun _ => ⟨gg.1, fun _ => trivial, fun y => absurd gg.2 y⟩⟩, ⟨v1, v2, v3, v4, v0, fun _ => ⟨fun y => absurd y c1, fun _ => ⟨fun _ => trivial, fun y => absurd c2 y⟩⟩, fun y => absurd hw4 y⟩, rfl, hP, gu, Frm.o g⟩
      · rw [if_neg c1, if_neg c2]
        have ww := wi_n.mp c1
        have dd : D = 1 ∨ D = 2 := by have := wi_n.mp c2; grind
        have ps := pst hP hG X Y W D
        obtain ⟨gp, gy, gn⟩ := goal_leg hP (x := X) (y := Y) ww.1 ww.2 dd
        obtain ⟨ra, rb, rc⟩ := ru_eq hP.1 hP.2.2.1 X Y
        have P9 : vp_in (5 * x + Int32.ofInt 1) 300 := v1
        by_cases hL : Leg g X Y W D
        · obtain ⟨s1', s2', s3', s4', s5', s6', s7', s8'⟩ := step_sim hP hG hK hL ww.1 ww.2 dd
          have n0 : ¬ (f_X9_steps g X Y W D).1 = 0 := by rw [s2']; decide
          have gg : ¬ f_X3_goalOf s p X Y W D = Int32.ofInt (-1) := s1'
          rw [if_neg gg, if_neg n0, rc]
          exact ⟨⟨fun y => absurd y s0, fun _ => ⟨gp, fun y => absurd y gg, fun _ => ⟨ra, s4', trivial⟩⟩⟩, ⟨v1, v2, v3, v4, v0, fun _ => ⟨fun y => absurd y c1, fun _ => ⟨fun y => absurd y c2, fun _ => ⟨ps, trivial⟩⟩⟩, fun y => absurd hw4 y⟩, rfl, s6', s7', s8'⟩
        · have gg : f_X3_goalOf s p X Y W D = Int32.ofInt (-1) := gn hL
          have st := (steps_leg g X Y W D).2 hL
          have n0 : (f_X9_steps g X Y W D).1 = 0 := by rw [st]
          rw [if_pos gg, if_pos n0, st]
          exact ⟨⟨fun y => absurd y s0, fun _ => ⟨gp, fun _ => trivial, fun y => absurd gg y⟩⟩, ⟨v1, v2, v3, v4, v0, fun _ => ⟨fun y => absurd y c1, fun _ => ⟨fun y => absurd y c2, fun _ => ⟨ps, trivial⟩⟩⟩, fun y => absurd hw4 y⟩, rfl, hP, gu, Frm.o g⟩
  · have a0 : e.2 1 (Int32.toNatClampNeg (Int32.ofInt 0)) = g.2 28 (5 * x + Int32.ofInt 1).toNatClampNeg := by rw [← r0]; exact hn 0 (by decide) (by decide)
    have a1 : e.2 1 (Int32.toNatClampNeg (Int32.ofInt 1)) = g.2 28 (5 * x + Int32.ofInt 2).toNatClampNeg := by rw [← r1]; exact hn 1 (by decide) (by decide)
    have a2 : e.2 1 (Int32.toNatClampNeg (Int32.ofInt 2)) = g.2 28 (5 * x + Int32.ofInt 3).toNatClampNeg := by rw [← r2]; exact hn 2 (by decide) (by decide)
    have hw4 : ¬ g.2 28 (5 * x).toNatClampNeg = Int32.ofInt 4 := by rw [hw]; decide
    unfold p_X8_playItem_96 f_X8_playItem_96
    rw [if_pos hs, if_neg hw4, ← a0, ← a1, ← a2]
    obtain ⟨A, hA⟩ : ∃ z, z = e.2 1 (Int32.toNatClampNeg (Int32.ofInt 0)) := ⟨_, rfl⟩
    obtain ⟨L, hL'⟩ : ∃ z, z = e.2 1 (Int32.toNatClampNeg (Int32.ofInt 1)) := ⟨_, rfl⟩
    obtain ⟨W, hW⟩ : ∃ z, z = e.2 1 (Int32.toNatClampNeg (Int32.ofInt 2)) := ⟨_, rfl⟩
    rw [← hA, ← hL', ← hW]
    rw [in_0, in_1, in_w, in_w]
    have o0 : Int32.ofInt 0 = 0 := rfl
    have o1 : ¬ Int32.ofInt 1 = 0 := by decide
    rw [if_pos o0, if_neg o1]
    have d7 : p.1 7 = g.2 0 27 := hP.2.2.2.2.1.2.1
    rw [d7, may_eq hP.2.1 A L W]
    by_cases c1 : f_X8_within A 0 1 = 0
    · have c1' : f_X8_within A (Int32.ofInt 0) (Int32.ofInt 1) = 0 := c1
      rw [if_pos c1, if_pos c1']
      exact ⟨⟨fun _ => ⟨fun _ => ⟨fun _ => trivial, fun y => absurd o0 y⟩, fun y => absurd c1' y⟩, fun y => absurd hs y⟩, ⟨v1, v2, v3, v4, v0, fun y => absurd y hw4, fun _ => ⟨fun _ => trivial, fun y => absurd c1 y⟩⟩, rfl, hP, gu, Frm.o g⟩
    · have c1' : ¬ f_X8_within A (Int32.ofInt 0) (Int32.ofInt 1) = 0 := c1
      rw [if_neg c1, if_neg c1']
      by_cases c2 : f_X8_within W 0 1 = 0
      · have c2' : f_X8_within W (Int32.ofInt 0) (Int32.ofInt 1) = 0 := c2
        rw [if_pos c2, if_pos c2']
        exact ⟨⟨fun _ => ⟨fun y => absurd y c1', fun _ => ⟨fun _ => ⟨fun _ => trivial, fun y => absurd o0 y⟩, fun y => absurd c2' y⟩⟩, fun y => absurd hs y⟩, ⟨v1, v2, v3, v4, v0, fun y => absurd y hw4, fun _ => ⟨fun y => absurd y c1, fun _ => ⟨fun _ => trivial, fun y => absurd c2 y⟩⟩⟩, rfl, hP, gu, Frm.o g⟩
      · have c2' : ¬ f_X8_within W (Int32.ofInt 0) (Int32.ofInt 1) = 0 := c2
        rw [if_neg c2, if_neg c2']
        by_cases hL : g.2 0 27 = 0 ∨ f_X9_mayFold g A L W = 0
        · obtain ⟨pm, em⟩ := fold_no hG hL
          have n0 : (f_X9_makes g A L W).1 = 0 := by rw [em]
          rw [if_pos n0, em]
          by_cases z1 : g.2 0 27 = 0
          · rw [if_pos z1]
            exact ⟨⟨fun _ => ⟨fun y => absurd y c1', fun _ => ⟨fun y => absurd y c2', fun _ => ⟨fun y => absurd y o1, fun _ => ⟨fun _ => trivial, fun y => absurd z1 y⟩⟩⟩⟩, fun y => absurd hs y⟩, ⟨v1, v2, v3, v4, v0, fun y => absurd y hw4, fun _ => ⟨fun y => absurd y c1, fun _ => ⟨fun y => absurd y c2, fun _ => ⟨pm, trivial⟩⟩⟩⟩, rfl, hP, gu, Frm.o g⟩
          · have z2 := hL.resolve_left z1
            rw [if_neg z1, if_pos z2]
            exact ⟨⟨fun _ => ⟨fun y => absurd y c1', fun _ => ⟨fun y => absurd y c2', fun _ => ⟨fun y => absurd y o1, fun _ => ⟨fun y => absurd y z1, fun _ => ⟨fun _ => trivial, fun y => absurd z2 y⟩⟩⟩⟩⟩, fun y => absurd hs y⟩, ⟨v1, v2, v3, v4, v0, fun y => absurd y hw4, fun _ => ⟨fun y => absurd y c1, fun _ => ⟨fun y => absurd y c2, fun _ => ⟨pm, trivial⟩⟩⟩⟩, rfl, hP, gu, Frm.o g⟩
        · have z1 : ¬ g.2 0 27 = 0 := fun z => hL (Or.inl z)
          have z2 : ¬ f_X9_mayFold g A L W = 0 := fun z => hL (Or.inr z)
          obtain ⟨s1', s2', s3', s4', s5', s6', s7'⟩ := fold_sim hP hG z1 z2
          have n0 : ¬ (f_X9_makes g A L W).1 = 0 := by rw [s1']; decide
          rw [if_neg z1, if_neg z2, if_neg n0]
          exact ⟨⟨fun _ => ⟨fun y => absurd y c1', fun _ => ⟨fun y => absurd y c2', fun _ => ⟨fun y => absurd y o1, fun _ => ⟨fun y => absurd y z1, fun _ => ⟨fun y => absurd y z2, fun _ => ⟨s3', trivial⟩⟩⟩⟩⟩⟩, fun y => absurd hs y⟩, ⟨v1, v2, v3, v4, v0, fun y => absurd y hw4, fun _ => ⟨fun y => absurd y c1, fun _ => ⟨fun y => absurd y c2, fun _ => ⟨s2', trivial⟩⟩⟩⟩, rfl, s4', gi_up s5' hK, s6'.r⟩
