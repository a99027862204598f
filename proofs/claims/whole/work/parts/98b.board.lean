/-! layer 3: hole, man, board -/
theorem now_flat {K : Int32} {s p m : Rec} (h16 : m.2 0 16 = 0) (h27 : m.2 0 27 = 0) (hsg : SG s (f_X9_flat m)) (he : Ends s (f_X9_flat m)) (hM : Mn p m) (sc : s.1 0 = m.2 0 0 ∧ s.1 1 = m.2 0 1 ∧ s.1 2 = 0) (pc : p.1 6 = m.2 0 26 ∧ p.1 7 = 0 ∧ p.1 8 = m.2 0 4 ∧ p.1 9 = m.2 0 5) (g26 : 0 ≤ m.2 0 26 ∧ m.2 0 26 ≤ K) (g4 : 1 ≤ m.2 0 4 ∧ m.2 0 4 ≤ 9) (g5 : 1 ≤ m.2 0 5 ∧ m.2 0 5 ≤ 3) (gw : 2 ≤ m.2 0 0 ∧ m.2 0 0 ≤ 6 ∧ 2 ≤ m.2 0 1 ∧ m.2 0 1 ≤ 6)
    (gm : ∀ i : Nat, Int32.ofNat i < m.2 0 2 → i < 8 → (0 ≤ m.2 0 (28 + 3 * i) ∧ m.2 0 (28 + 3 * i) ≤ 4) ∧ (m.2 0 (29 + 3 * i) = 0 ∨ m.2 0 (29 + 3 * i) = 1) ∧ (1 ≤ m.2 0 (30 + 3 * i) ∧ m.2 0 (30 + 3 * i) ≤ 9))
    (gd : ∀ i j : Nat, Int32.ofNat i < m.2 0 2 → i < 8 → j < i → m.2 0 (8 + j) = m.2 0 (8 + i) → m.2 0 (8 + i) = -1) : Now K s p m := by
  have hn : NF m := ⟨0, by omega, h16⟩
  have el := lays0 h16
  obtain ⟨t1, t2, t3⟩ := fl_all m
  have fb : (f_X9_flat m).2 0 = m.2 0 := t2 0 (by decide)
  refine ⟨hn, ?_, ?_⟩
  · rw [el]
    refine ⟨hsg, he, mn_cg fb hM, by rw [fb, h16]; exact sc, by rw [fb, h27]; exact pc, ?_⟩
    intro nf z1 z2 i hi
    rw [fb, h16] at z2
    have : nf = 0 := by
      have z3 := congrArg Int32.toNatClampNeg z2
      rw [cl_nI (by omega)] at z3
      have e0 : (0 : Int32).toNatClampNeg = 0 := rfl
      omega
    omega
  · rw [el]
    have f16 : (f_X9_flat m).2 0 16 = 0 := by rw [fb]; exact h16
    refine ⟨⟨0, by omega, f16, fun k hk => by omega⟩, ?_, ?_, ?_, ?_, ?_, ?_, ?_, ?_, ?_⟩
    · intro c q0 q1
      rw [lays0 f16, t3 c q0 q1, (fl_all _).2.2 c q0 q1]
    · rw [fb, h27, h16]; decide
    · rw [fb]; exact g26
    · rw [fb]; exact g4
    · rw [fb]; exact g5
    · rw [fb]; exact fun z => absurd h27 z
    · rw [fb]; exact gw
    · rw [fb]; exact gm
    · rw [fb]; exact gd
section
variable {K : Int32} {c s p t e q s1 p1 s2 p2 t1 t2 m : Rec}
theorem c_hole (o oh h k : Rec) (a : Int32) (hK : K < 100000) (hI : Inv K c s p t e q s1 p1 s2 p2 t1 t2 m) : p_X8_hole c s p t e o oh h k q s1 p1 s2 p2 t1 t2 a ∧ p_X9_hole m a ∧ (f_X8_hole c s p t e o oh h k q s1 p1 s2 p2 t1 t2 a).1 = (f_X9_hole m a).1 ∧ Inv (K + 1) (f_X8_hole c s p t e o oh h k q s1 p1 s2 p2 t1 t2 a).2.1 (f_X8_hole c s p t e o oh h k q s1 p1 s2 p2 t1 t2 a).2.2.1 p (f_X8_hole c s p t e o oh h k q s1 p1 s2 p2 t1 t2 a).2.2.2.1 e (f_X8_hole c s p t e o oh h k q s1 p1 s2 p2 t1 t2 a).2.2.2.2 s1 p1 s2 p2 t1 t2 (f_X9_hole m a).2 := by
  obtain ⟨hP, hG, hp, hF, hb⟩ := inv_g hI
  have hM := inv_mn hI
  have hS := hI.1
  obtain ⟨hN, hH, hB⟩ := hS
  have e0 : s.1 0 = m.2 0 0 := by rw [hP.2.2.2.1.1, hb]
  have e1 : s.1 1 = m.2 0 1 := by rw [hP.2.2.2.1.2.1, hb]
  have e2 : s.1 2 = m.2 0 16 := by rw [hP.2.2.2.1.2.2, hb]
  have e7 : p.1 7 = m.2 0 27 := by rw [hP.2.2.2.2.1.2.1, hb]
  have pr := pp_no m
  have pb := pp_bad m
  unfold p_X8_hole p_X9_hole f_X8_hole f_X9_hole f_X4_onBoard
  rw [in_0, in_35, in_w]
  have k0 : m.2 0 (Int32.toNatClampNeg (Int32.ofInt 0)) = m.2 0 0 := rfl
  have k1' : m.2 0 (Int32.toNatClampNeg (Int32.ofInt 1)) = m.2 0 1 := rfl
  have k16 : m.2 0 (Int32.toNatClampNeg (Int32.ofInt 16)) = m.2 0 16 := rfl
  have k27 : m.2 0 (Int32.toNatClampNeg (Int32.ofInt 27)) = m.2 0 27 := rfl
  have z0 : Int32.ofInt 0 = 0 := rfl
  have z35 : Int32.ofInt 35 = 35 := rfl
  rw [k0, k1', k16, k27, e0, e1, e2, e7, z0, z35]
  have o1 : ¬ Int32.ofInt 1 = 0 := by decide
  have zz : (0 : Int32) = 0 := rfl
  by_cases c1 : f_X8_within a 0 35 = 0
  · simp only [if_pos c1, if_true]
    exact ⟨⟨fun _ => trivial, fun z => absurd trivial z⟩, ⟨fun _ => ⟨pb, trivial⟩, fun z => absurd c1 z⟩, rfl, ref_bad _ hK hI⟩
  · simp only [if_neg c1]
    by_cases c2 : m.2 0 0 ≤ a - a / Int32.ofInt 6 * Int32.ofInt 6
    · simp only [if_pos c2, if_true]
      exact ⟨⟨fun _ => trivial, fun z => absurd trivial z⟩, ⟨fun z => absurd z c1, fun _ => ⟨fun _ => ⟨pb, trivial⟩, fun z => absurd c2 z⟩⟩, rfl, ref_bad _ hK hI⟩
    · simp only [if_neg c2]
      by_cases c3 : m.2 0 1 ≤ a / Int32.ofInt 6
      · have c3' : ¬ a / Int32.ofInt 6 < m.2 0 1 := by grind
        simp only [if_pos c3, if_neg c3', if_true]
        exact ⟨⟨fun _ => trivial, fun z => absurd trivial z⟩, ⟨fun z => absurd z c1, fun _ => ⟨fun z => absurd z c2, fun _ => ⟨fun z => absurd z c3', fun _ => ⟨pb, trivial⟩⟩⟩⟩, rfl, ref_bad _ hK hI⟩
      · have c3' : a / Int32.ofInt 6 < m.2 0 1 := by grind
        have ha := wi_n.mp c1
        have a36 : a < 36 := by grind
        have ak := cl_c36 ha.1 a36
        have i52 := ix52 ha.1 (show a < 100 by grind)
        have v248 := vinb (n := 248) (x := Int32.ofInt 52 + a) (by grind) (by grind)
        simp only [if_neg c3, if_pos c3', if_neg o1]
        rw [inv_c hI, i52]
        have hole : f_X9_isCell m a = 0 ↔ m.2 0 (52 + a.toNatClampNeg) = 1 := by
          unfold f_X9_isCell
          rw [in_0, in_35, in_w, if_neg c1, k0, k1', if_neg c2, if_neg c3, i52]
          rcases hB _ ak with z | z
          · rw [if_pos z, z]; decide
          · rw [if_neg (by rw [z]; decide), z]; decide
        by_cases c4 : f_X9_isCell m a = 0
        · have c4' : m.2 0 (52 + a.toNatClampNeg) = Int32.ofInt 1 := hole.mp c4
          simp only [if_pos c4, if_pos c4']
          exact ⟨⟨fun z => absurd z o1, fun _ => ⟨pl_has .., fun _ => trivial, fun z => absurd c4 z⟩⟩, ⟨fun z => absurd z c1, fun _ => ⟨fun z => absurd z c2, fun _ => ⟨fun _ => ⟨v248, fun _ => ⟨pr, trivial⟩, fun z => absurd c4' z⟩, fun z => absurd c3' z⟩⟩⟩, rfl, ref_no _ hK hI⟩
        · have c4' : ¬ m.2 0 (52 + a.toNatClampNeg) = Int32.ofInt 1 := fun z => c4 (hole.mpr z)
          have mo := mo_im s hM ha.1
          have pmo := (mo_all s hM a).1
          have pim := (im_all hM a).1
          simp only [if_neg c4, if_neg c4']
          by_cases c5 : f_X3_manOn s p a = Int32.ofInt (-1)
          · have c5' : f_X9_isManOn m a = 0 := mo.mp c5
            simp only [if_pos c5, if_pos c5']
            by_cases c6 : 0 < m.2 0 16
            · simp only [if_pos c6]
              exact ⟨⟨fun z => absurd z o1, fun _ => ⟨pl_has .., fun z => absurd z c4, fun _ => ⟨pmo, fun _ => ⟨fun _ => trivial, fun z => absurd c6 z⟩, fun z => absurd c5 z⟩⟩⟩, ⟨fun z => absurd z c1, fun _ => ⟨fun z => absurd z c2, fun _ => ⟨fun _ => ⟨v248, fun z => absurd z c4', fun _ => ⟨pim, fun _ => ⟨fun _ => ⟨pr, trivial⟩, fun z => absurd c6 z⟩, fun z => absurd c5' z⟩⟩, fun z => absurd c3' z⟩⟩⟩, rfl, ref_no _ hK hI⟩
            · simp only [if_neg c6]
              by_cases c7 : m.2 0 27 ≤ 0
              · simp only [if_pos c7]
                refine ⟨⟨fun z => absurd z o1, fun _ => ⟨pl_has .., fun z => absurd z c4, fun _ => ⟨pmo, fun _ => ⟨fun z => absurd z c6, fun _ => ⟨fun _ => ⟨pp_cutOut s a, trivial⟩, fun z => absurd c7 z⟩⟩, fun z => absurd c5 z⟩⟩⟩, ⟨fun z => absurd z c1, fun _ => ⟨fun z => absurd z c2, fun _ => ⟨fun _ => ⟨v248, fun z => absurd z c4', fun _ => ⟨pim, fun _ => ⟨fun z => absurd z c6, fun _ => ⟨fun _ => ⟨v248, trivial⟩, fun z => absurd c7 z⟩⟩, fun z => absurd c5' z⟩⟩, fun z => absurd c3' z⟩⟩⟩, trivial, ?_⟩
                -- the new board
                have hn := hN.1
                obtain ⟨nf, n1, n2⟩ := hn
                have h16 : m.2 0 16 = 0 := by
                  have := nf_in n1 n2
                  grind
                have gG := hN.2.2
                obtain ⟨_, _, d27, d26, d4, d5, _, dw, dm, dd⟩ := gG
                rw [hb] at d27 d26 d4 d5 dw dm dd
                have h27 : m.2 0 27 = 0 := by grind
                obtain ⟨m', hm'⟩ : ∃ m', m' = setA m 0 (upd (upd (m.2 0) (52 + a.toNatClampNeg) (Int32.ofInt 1)) (Int32.toNatClampNeg (Int32.ofInt 6)) 0) := ⟨_, rfl⟩
                rw [← hm']
                have bo : ∀ i, i ≠ 52 + a.toNatClampNeg → i ≠ 6 → m'.2 0 i = m.2 0 i := by
                  intro i i1 i2
                  rw [hm']
                  show upd (upd (m.2 0) (52 + a.toNatClampNeg) (Int32.ofInt 1)) 6 0 i = _
                  rw [upd_at, if_neg i2, upd_at, if_neg i1]
                have b52 : m'.2 0 (52 + a.toNatClampNeg) = 1 := by
                  rw [hm']
                  show upd (upd (m.2 0) (52 + a.toNatClampNeg) (Int32.ofInt 1)) 6 0 (52 + a.toNatClampNeg) = _
                  rw [upd_at, if_neg (by omega), upd_at, if_pos rfl]
                  rfl
                have b6 : m'.2 0 6 = 0 := by
                  rw [hm']
                  show upd (upd (m.2 0) (52 + a.toNatClampNeg) (Int32.ofInt 1)) 6 0 6 = _
                  rw [upd_at, if_pos rfl]
                have ic : ∀ d : Int32, 0 ≤ d → d < 36 → f_X9_isCell m' d = if d = a then 0 else f_X9_isCell m d := by
                  intro d d0 d1
                  have dk := cl_c36 d0 d1
                  unfold f_X9_isCell
                  have q0 : m'.2 0 (Int32.toNatClampNeg (Int32.ofInt 0)) = m.2 0 (Int32.toNatClampNeg (Int32.ofInt 0)) := bo 0 (by omega) (by decide)
                  have q1 : m'.2 0 (Int32.toNatClampNeg (Int32.ofInt 1)) = m.2 0 (Int32.toNatClampNeg (Int32.ofInt 1)) := bo 1 (by omega) (by decide)
                  rw [q0, q1, ix52 d0 (by grind)]
                  by_cases z : d = a
                  · rw [if_pos z, z, b52, if_neg (show ¬ (1 : Int32) = 0 by decide)]
                    simp only [ite_self]
                    rfl
                  · rw [if_neg z, bo _ (fun y => z (cl_inj d0 ha.1 (by omega))) (by omega)]
                have fl : f_X9_lays m = f_X9_flat m := lays0 h16
                have hsg : SG (setA s 8 (upd (s.2 8) a.toNatClampNeg (Int32.ofInt 0))) (f_X9_flat m') := by
                  rw [sg_rows]
                  intro d d0 d1
                  have h8 := sg_rows.mp hP.1 d d0 d1
                  rw [fl] at h8
                  have fb' : (f_X9_flat m').2 0 = m'.2 0 := (fl_all m').2.1 0 (by decide)
                  refine ⟨?_, ?_⟩
                  · show upd (s.2 8) a.toNatClampNeg (Int32.ofInt 0) d.toNatClampNeg = _
                    rw [isCell_congr fb', ic d d0 d1, upd_at]
                    by_cases z : d = a
                    · rw [if_pos (by rw [z]), if_pos z]; rfl
                    · rw [if_neg (fun y => z (cl_inj d0 ha.1 y)), if_neg z, h8.1]
                      exact isCell_congr ((fl_all m).2.1 0 (by decide)) d
                  · rw [(fl_all m').2.2 d d0 d1]
                    have := h8.2
                    rw [(fl_all m).2.2 d d0 d1] at this
                    exact this
                obtain ⟨m0, m1, m2, m3, m4⟩ := mea_all hsg
                have ecut : f_X4_cutOut s a = f_X4_measure (setA s 8 (upd (s.2 8) a.toNatClampNeg (Int32.ofInt 0))) := by
                  unfold f_X4_cutOut
                  rw [inv_c hI, if_neg c4]
                rw [ecut]
                have imz := (im_all hM a).2.2.mp c5'
                have m27 : m'.2 0 27 = 0 := by rw [bo 27 (by omega) (by decide)]; exact h27
                refine inv_st (m := m) (k1 hK) ⟨now_flat (by rw [bo 16 (by omega) (by decide)]; exact h16) m27 (sg_measure hsg) m4 ?_ ⟨by rw [m1, bo 0 (by omega) (by decide)]; exact e0, by rw [m2, bo 1 (by omega) (by decide)]; exact e1, by rw [m3]; show s.1 2 = 0; rw [e2]; exact h16⟩ ⟨?_, ?_, ?_, ?_⟩ ?_ ?_ ?_ ?_ ?_ ?_, hist_f hH b6, ?_⟩ ?_ ?_ ?_ ?_ ?_ (Or.inl rfl) hI
                · obtain ⟨x0, x8, x2, xm⟩ := hM
                  refine ⟨x0, x8, ?_, fun v v0 v1 => ?_⟩
                  · rw [← x2]; exact bo 2 (by omega) (by decide)
                  · have v8 := cl8 v0 (by grind)
                    obtain ⟨y1, y2, y3, y4, y5⟩ := xm v v0 v1
                    have b100 : v < 100 := by grind
                    rw [ix28 v0 b100] at y1 ⊢
                    rw [ix29 v0 b100] at y2 ⊢
                    rw [ix30 v0 b100] at y3 ⊢
                    rw [ix8 v0 b100] at y4 ⊢
                    rw [bo _ (by omega) (by omega), bo _ (by omega) (by omega), bo _ (by omega) (by omega), bo _ (by omega) (by omega)]
                    refine ⟨y1, y2, y3, y4, ?_⟩
                    rcases y5 with y5 | y5
                    · exact Or.inl y5
                    · right
                      have iy := isCell_in y5
                      rw [ic _ iy.1 iy.2, if_neg (imz v v0 v1)]
                      exact y5
                · rw [bo 26 (by omega) (by decide), ← hb]; exact hP.2.2.2.2.1.1
                · rw [e7]; exact h27
                · rw [bo 4 (by omega) (by decide), ← hb]; exact hP.2.2.2.2.1.2.2.1
                · rw [bo 5 (by omega) (by decide), ← hb]; exact hP.2.2.2.2.1.2.2.2
                · rw [bo 26 (by omega) (by decide)]; exact ⟨d26.1, by have := k1 hK; grind⟩
                · rw [bo 4 (by omega) (by decide)]; exact d4
                · rw [bo 5 (by omega) (by decide)]; exact d5
                · rw [bo 0 (by omega) (by decide), bo 1 (by omega) (by decide)]; exact dw
                · intro i i1 i2
                  rw [bo 2 (by omega) (by decide)] at i1
                  rw [bo _ (by omega) (by omega), bo _ (by omega) (by omega), bo _ (by omega) (by omega)]
                  exact dm i i1 i2
                · intro i j i1 i2 i3 i4
                  rw [bo 2 (by omega) (by decide)] at i1
                  rw [bo _ (by omega) (by omega)] at i4 ⊢
                  rw [bo _ (by omega) (by omega)] at i4
                  exact dd i j i1 i2 i3 i4
                · intro i hi
                  by_cases z : i = a.toNatClampNeg
                  · rw [z]; exact Or.inr b52
                  · rw [bo _ (by omega) (by omega)]; exact hB i hi
                · rw [hm']; rfl
                · rw [hm']; rfl
                · rw [hm']; rfl
                · rw [hm']; rfl
                · rw [hm']; rfl
              · simp only [if_neg c7]
                exact ⟨⟨fun z => absurd z o1, fun _ => ⟨pl_has .., fun z => absurd z c4, fun _ => ⟨pmo, fun _ => ⟨fun z => absurd z c6, fun _ => ⟨fun z => absurd z c7, fun _ => trivial⟩⟩, fun z => absurd c5 z⟩⟩⟩, ⟨fun z => absurd z c1, fun _ => ⟨fun z => absurd z c2, fun _ => ⟨fun _ => ⟨v248, fun z => absurd z c4', fun _ => ⟨pim, fun _ => ⟨fun z => absurd z c6, fun _ => ⟨fun z => absurd z c7, fun _ => ⟨pr, trivial⟩⟩⟩, fun z => absurd c5' z⟩⟩, fun z => absurd c3' z⟩⟩⟩, rfl, ref_no _ hK hI⟩
          · have c5' : ¬ f_X9_isManOn m a = 0 := fun z => c5 (mo.mpr z)
            simp only [if_neg c5, if_neg c5']
            exact ⟨⟨fun z => absurd z o1, fun _ => ⟨pl_has .., fun z => absurd z c4, fun _ => ⟨pmo, fun z => absurd z c5, fun _ => trivial⟩⟩⟩, ⟨fun z => absurd z c1, fun _ => ⟨fun z => absurd z c2, fun _ => ⟨fun _ => ⟨v248, fun z => absurd z c4', fun _ => ⟨pim, fun z => absurd z c5', fun _ => ⟨pr, trivial⟩⟩⟩, fun z => absurd c3' z⟩⟩⟩, rfl, ref_no _ hK hI⟩
end
