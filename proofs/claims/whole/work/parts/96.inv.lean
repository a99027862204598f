/-! layer 3: both sides together; the calls that only look -/
def zr : Rec := (fun _ => 0, fun _ _ => 0)
def HB (m : Rec) : Prop := ∀ i, i < 36 → m.2 0 (52 + i) = 0 ∨ m.2 0 (52 + i) = 1
def St (K : Int32) (s p t m : Rec) : Prop := Now K s p m ∧ Hist K t m ∧ HB m
def imgM (m : Rec) (i : Nat) : Rec := setA m 0 (fun k => m.2 1 (248 * i + k))
def Img (K kc : Int32) (s p t m : Rec) (i : Nat) : Prop := (m.2 2 i = 0 ∧ kc = 0) ∨ (m.2 2 i = 1 ∧ kc = 1 ∧ St K s p t (imgM m i))
def TaR (e m : Rec) : Prop := e.1 2 = m.1 23 ∧ 0 ≤ m.1 23 ∧ m.1 23 ≤ 200 ∧ ∀ i : Nat, Int32.ofNat i < m.1 23 → i < 200 → e.2 0 i = m.2 22 i ∧ 0 ≤ m.2 22 i ∧ m.2 22 i ≤ 255
def Rf (c m : Rec) : Prop := c.1 11 = m.2 3 0 ∧ c.1 12 = m.2 3 1 ∧ c.1 13 = m.2 3 2
def SmO (q s : Rec) : Prop := q.1 5 = 0 ∨ ∃ s0 : Rec, (∀ j, j < 36 → s0.2 8 j = s.2 8 j) ∧ ∀ f, f < 4 → q.2 4 f = (f_X5_survey zr s0).2 4 f
def Inv (K : Int32) (c s p t e q s1 p1 s2 p2 t1 t2 m : Rec) : Prop := St K s p t m ∧ Img K (c.2 9 0) s1 p1 t1 m 0 ∧ Img K (c.2 9 1) s2 p2 t2 m 1 ∧ TaR e m ∧ Rf c m ∧ SmO q s
theorem st_fr {K K' : Int32} {s p t m m' : Rec} (hK : K ≤ K') (h : m'.2 0 = m.2 0) (hS : St K s p t m) : St K' s p t m' := by
  obtain ⟨h1, h2, h3⟩ := hS
  refine ⟨now_same (fun i _ _ _ _ => by rw [h]) hK h1, hist_same hK (fun i _ _ _ _ => by rw [h]) h2, fun i hi => by rw [h]; exact h3 i hi⟩
theorem img_fr {K K' kc kc' : Int32} {s p t m m' : Rec} {i : Nat} (hK : K ≤ K') (h1 : m'.2 1 = m.2 1) (h2 : m'.2 2 = m.2 2) (hc : kc' = kc) (h : Img K kc s p t m i) : Img K' kc' s p t m' i := by
  unfold Img
  rw [h2, hc]
  rcases h with h | ⟨a, b, c⟩
  · exact Or.inl h
  · refine Or.inr ⟨a, b, st_fr hK ?_ c⟩
    unfold imgM
    show (fun k => m'.2 1 (248 * i + k)) = (fun k => m.2 1 (248 * i + k))
    rw [h1]
theorem inv_fr {K K' : Int32} {c c' s p t e q s1 p1 s2 p2 t1 t2 m m' : Rec} (hK : K ≤ K') (h0 : m'.2 0 = m.2 0) (h1 : m'.2 1 = m.2 1) (h2 : m'.2 2 = m.2 2) (h22 : m'.2 22 = m.2 22) (h23 : m'.1 23 = m.1 23) (h9 : c'.2 9 = c.2 9) (hR : Rf c' m') (hI : Inv K c s p t e q s1 p1 s2 p2 t1 t2 m) : Inv K' c' s p t e q s1 p1 s2 p2 t1 t2 m' := by
  obtain ⟨i1, i2, i3, i4, i5, i6⟩ := hI
  refine ⟨st_fr hK h0 i1, img_fr hK h1 h2 (by rw [h9]) i2, img_fr hK h1 h2 (by rw [h9]) i3, ?_, hR, i6⟩
  unfold TaR
  rw [h22, h23]
  exact i4
theorem inv_st {K K' : Int32} {c s p t s' p' t' e q q' s1 p1 s2 p2 t1 t2 m m' : Rec} (hK : K ≤ K') (hS : St K' s' p' t' m') (h1 : m'.2 1 = m.2 1) (h2 : m'.2 2 = m.2 2) (h22 : m'.2 22 = m.2 22) (h23 : m'.1 23 = m.1 23) (h3 : m'.2 3 = m.2 3) (hq : SmO q' s') (hI : Inv K c s p t e q s1 p1 s2 p2 t1 t2 m) : Inv K' c s' p' t' e q' s1 p1 s2 p2 t1 t2 m' := by
  obtain ⟨i1, i2, i3, i4, i5, i6⟩ := hI
  refine ⟨hS, img_fr hK h1 h2 rfl i2, img_fr hK h1 h2 rfl i3, ?_, ?_, hq⟩
  · unfold TaR
    rw [h22, h23]
    exact i4
  · unfold Rf
    rw [h3]
    exact i5
theorem k1 {K : Int32} (h : K < 100000) : K ≤ K + 1 := by grind
/-- a look that lays the book anew -/
theorem inv_h {K : Int32} {c s p t e q s1 p1 s2 p2 t1 t2 m m' : Rec} (hK : K < 100000) (hF : FrH m m') (hI : Inv K c s p t e q s1 p1 s2 p2 t1 t2 m) : Inv (K + 1) c s p t e q s1 p1 s2 p2 t1 t2 m' :=
  inv_fr (k1 hK) hF.b (hF.2 1 (by decide) (by decide) (by decide) (by decide)) (hF.2 2 (by decide) (by decide) (by decide) (by decide)) (hF.2 22 (by decide) (by decide) (by decide) (by decide)) (hF.1 23 (by decide) (by decide) (by decide)) rfl (by unfold Rf; rw [hF.2 3 (by decide) (by decide) (by decide) (by decide)]; exact hI.2.2.2.2.1) hI
theorem inv_k {K : Int32} {c s p t e q s1 p1 s2 p2 t1 t2 m : Rec} (hK : K < 100000) (hI : Inv K c s p t e q s1 p1 s2 p2 t1 t2 m) : Inv (K + 1) c s p t e q s1 p1 s2 p2 t1 t2 m := inv_h hK (FrH.r m) hI
/-- a refusal, by its sort -/
theorem pp_ref (m : Rec) {a : Int32} (v : Int32) (h0 : 0 ≤ a) (h3 : a < 3) : p_X9_refuses m a v := ⟨vinb (n := 3) h0 h3, vinb (n := 3) h0 h3, trivial⟩
theorem pp_bad (m : Rec) : p_X9_bad m := ⟨pp_ref m _ (by decide) (by decide), trivial⟩
theorem pp_no (m : Rec) : p_X9_no m := ⟨pp_ref m _ (by decide) (by decide), trivial⟩
theorem pp_full (m : Rec) : p_X9_full m := ⟨pp_ref m _ (by decide) (by decide), trivial⟩
section
variable {K : Int32} {c s p t e q s1 p1 s2 p2 t1 t2 m : Rec}
theorem ref_bad (v : Int32) (hK : K < 100000) (hI : Inv K c s p t e q s1 p1 s2 p2 t1 t2 m) : Inv (K + 1) (setG c 11 (c.1 11 + Int32.ofInt 1)) s p t e q s1 p1 s2 p2 t1 t2 (f_X9_refuses m (Int32.ofInt 0) v).2 := by
  refine inv_fr (c := c) (m := m) (k1 hK) rfl rfl rfl rfl rfl rfl ?_ hI
  obtain ⟨r1, r2, r3⟩ := hI.2.2.2.2.1
  refine ⟨?_, ?_, ?_⟩
  · show c.1 11 + Int32.ofInt 1 = upd (m.2 3) 0 (m.2 3 0 + Int32.ofInt 1) 0
    rw [upd_at, if_pos rfl, r1]
  · show c.1 12 = upd (m.2 3) 0 (m.2 3 0 + Int32.ofInt 1) 1
    rw [upd_at, if_neg (by decide), r2]
  · show c.1 13 = upd (m.2 3) 0 (m.2 3 0 + Int32.ofInt 1) 2
    rw [upd_at, if_neg (by decide), r3]
theorem ref_no (v : Int32) (hK : K < 100000) (hI : Inv K c s p t e q s1 p1 s2 p2 t1 t2 m) : Inv (K + 1) (setG c 12 (c.1 12 + Int32.ofInt 1)) s p t e q s1 p1 s2 p2 t1 t2 (f_X9_refuses m (Int32.ofInt 1) v).2 := by
  refine inv_fr (c := c) (m := m) (k1 hK) rfl rfl rfl rfl rfl rfl ?_ hI
  obtain ⟨r1, r2, r3⟩ := hI.2.2.2.2.1
  refine ⟨?_, ?_, ?_⟩
  · show c.1 11 = upd (m.2 3) 1 (m.2 3 1 + Int32.ofInt 1) 0
    rw [upd_at, if_neg (by decide), r1]
  · show c.1 12 + Int32.ofInt 1 = upd (m.2 3) 1 (m.2 3 1 + Int32.ofInt 1) 1
    rw [upd_at, if_pos rfl, r2]
  · show c.1 13 = upd (m.2 3) 1 (m.2 3 1 + Int32.ofInt 1) 2
    rw [upd_at, if_neg (by decide), r3]
theorem ref_full (v : Int32) (hK : K < 100000) (hI : Inv K c s p t e q s1 p1 s2 p2 t1 t2 m) : Inv (K + 1) (setG c 13 (c.1 13 + Int32.ofInt 1)) s p t e q s1 p1 s2 p2 t1 t2 (f_X9_refuses m (Int32.ofInt 2) v).2 := by
  refine inv_fr (c := c) (m := m) (k1 hK) rfl rfl rfl rfl rfl rfl ?_ hI
  obtain ⟨r1, r2, r3⟩ := hI.2.2.2.2.1
  refine ⟨?_, ?_, ?_⟩
  · show c.1 11 = upd (m.2 3) 2 (m.2 3 2 + Int32.ofInt 1) 0
    rw [upd_at, if_neg (by decide), r1]
  · show c.1 12 = upd (m.2 3) 2 (m.2 3 2 + Int32.ofInt 1) 1
    rw [upd_at, if_neg (by decide), r2]
  · show c.1 13 + Int32.ofInt 1 = upd (m.2 3) 2 (m.2 3 2 + Int32.ofInt 1) 2
    rw [upd_at, if_pos rfl, r3]
/-- how it is laid -/
theorem inv_g (hI : Inv K c s p t e q s1 p1 s2 p2 t1 t2 m) : PR s p (f_X9_lays m) ∧ GI K (f_X9_lays m) ∧ p_X9_lays m ∧ FrH m (f_X9_lays m) ∧ (f_X9_lays m).2 0 = m.2 0 := by
  obtain ⟨⟨⟨hn, hP, hG⟩, _⟩, _⟩ := hI
  obtain ⟨a1, a2, a3, a4, a5⟩ := la_all hP hG (m := m) hn.b.1.symm
  exact ⟨hP, hG, a1, a2, hn.b.1⟩
theorem inv_c (hI : Inv K c s p t e q s1 p1 s2 p2 t1 t2 m) (a : Int32) : f_X4_has s a = f_X9_isCell m a := by
  rw [sg_has (inv_g hI).1.1]
  exact isCell_congr (inv_g hI).2.2.2.2 a
theorem inv_mn (hI : Inv K c s p t e q s1 p1 s2 p2 t1 t2 m) : Mn p m := mn_cg (inv_g hI).2.2.2.2.symm (inv_g hI).1.2.2.1
theorem c_cell (o oh h k : Rec) (a w : Int32) (hK : K < 100000) (hI : Inv K c s p t e q s1 p1 s2 p2 t1 t2 m) : p_X8_cell c s p t e o oh h k q s1 p1 s2 p2 t1 t2 a w ∧ p_X9_cell m a w ∧ (f_X8_cell c s p t e o oh h k q s1 p1 s2 p2 t1 t2 a w).1 = (f_X9_cell m a w).1 ∧ Inv (K + 1) (f_X8_cell c s p t e o oh h k q s1 p1 s2 p2 t1 t2 a w).2 s p t e q s1 p1 s2 p2 t1 t2 (f_X9_cell m a w).2 := by
  obtain ⟨hP, hG, hp, hF, hb⟩ := inv_g hI
  unfold p_X8_cell p_X9_cell f_X8_cell f_X9_cell
  rw [inv_c hI, in_0, in_3, in_w]
  by_cases c1 : f_X9_isCell m a = 0
  · rw [if_pos c1, if_pos c1]
    exact ⟨⟨pl_has .., fun _ => trivial, fun z => absurd c1 z⟩, ⟨pl_isCell .., fun _ => ⟨pp_ref m _ (by decide) (by decide), trivial⟩, fun z => absurd c1 z⟩, rfl, ref_bad _ hK hI⟩
  · have ic := isCell_in c1
    have v36 := vin36 ic.1 ic.2
    rw [if_neg c1, if_neg c1]
    by_cases c2 : f_X8_within w 0 3 = 0
    · have c2' : f_X8_within w (Int32.ofInt 0) (Int32.ofInt 3) = 0 := c2
      rw [if_pos c2, if_pos c2']
      exact ⟨⟨pl_has .., fun z => absurd z c1, fun _ => ⟨fun _ => trivial, fun z => absurd c2' z⟩⟩, ⟨pl_isCell .., fun z => absurd z c1, fun _ => ⟨fun _ => ⟨pp_ref m _ (by decide) (by decide), trivial⟩, fun z => absurd c2 z⟩⟩, rfl, ref_bad _ hK hI⟩
    · have c2' : ¬ f_X8_within w (Int32.ofInt 0) (Int32.ofInt 3) = 0 := c2
      rw [if_neg c2, if_neg c2']
      refine ⟨⟨pl_has .., fun z => absurd z c1, fun _ => ⟨fun z => absurd z c2', fun _ => ⟨fun _ => ⟨v36, trivial⟩, fun _ => ⟨fun _ => ⟨v36, trivial⟩, fun _ => ⟨fun _ => ⟨v36, trivial⟩, fun _ => ⟨v36, trivial⟩⟩⟩⟩⟩⟩, ⟨pl_isCell .., fun z => absurd z c1, fun _ => ⟨fun z => absurd z c2, fun _ => ⟨hp, fun _ => ⟨v36, trivial⟩, fun _ => ⟨fun _ => ⟨v36, trivial⟩, fun _ => ⟨fun _ => ⟨v36, trivial⟩, fun _ => ⟨v36, trivial⟩⟩⟩⟩⟩⟩, ?_⟩
      have w4 : w = 0 ∨ w = 1 ∨ w = 2 ∨ w = 3 := by have hw := wi_n.mp c2; grind
      obtain ⟨g1, g2, g3, g4, g5⟩ := hP.1 a ic.1 ic.2
      have iv := inv_h hK hF hI
      rw [g2, g3, g4, g5]
      rcases w4 with hw | hw | hw | hw
      · rw [if_neg (show ¬ (Int32.toInt w < 0 ∨ 2 < Int32.toInt w) by subst hw; decide), if_pos (show Int32.toInt w = 0 by subst hw; decide), if_pos (show w = 0 by subst hw; decide)]
        dsimp only
        exact ⟨rfl, iv⟩
      · rw [if_neg (show ¬ (Int32.toInt w < 0 ∨ 2 < Int32.toInt w) by subst hw; decide), if_neg (show ¬ Int32.toInt w = 0 by subst hw; decide), if_pos (show Int32.toInt w = 1 by subst hw; decide), if_neg (show ¬ w = 0 by subst hw; decide), if_pos (show w = Int32.ofInt 1 by subst hw; decide)]
        dsimp only
        exact ⟨rfl, iv⟩
      · rw [if_neg (show ¬ (Int32.toInt w < 0 ∨ 2 < Int32.toInt w) by subst hw; decide), if_neg (show ¬ Int32.toInt w = 0 by subst hw; decide), if_neg (show ¬ Int32.toInt w = 1 by subst hw; decide), if_neg (show ¬ w = 0 by subst hw; decide), if_neg (show ¬ w = Int32.ofInt 1 by subst hw; decide), if_pos (show w = Int32.ofInt 2 by subst hw; decide)]
        dsimp only
        exact ⟨rfl, iv⟩
      · rw [if_pos (show Int32.toInt w < 0 ∨ 2 < Int32.toInt w by subst hw; decide), if_neg (show ¬ w = 0 by subst hw; decide), if_neg (show ¬ w = Int32.ofInt 1 by subst hw; decide), if_neg (show ¬ w = Int32.ofInt 2 by subst hw; decide)]
        by_cases z : (f_X9_lays m).2 7 a.toNatClampNeg = 0
        · rw [if_pos z, if_pos z]
          dsimp only
          exact ⟨rfl, iv⟩
        · rw [if_neg z, if_neg z]
          dsimp only
          exact ⟨rfl, iv⟩
theorem c_strength (o oh h k : Rec) (a : Int32) (hK : K < 100000) (hI : Inv K c s p t e q s1 p1 s2 p2 t1 t2 m) : p_X8_strength c s p t e o oh h k q s1 p1 s2 p2 t1 t2 a ∧ p_X9_strength m a ∧ (f_X8_strength c s p t e o oh h k q s1 p1 s2 p2 t1 t2 a).1 = (f_X9_strength m a).1 ∧ Inv (K + 1) (f_X8_strength c s p t e o oh h k q s1 p1 s2 p2 t1 t2 a).2 s p t e q s1 p1 s2 p2 t1 t2 (f_X9_strength m a).2 := by
  obtain ⟨hP, hG, hp, hF, hb⟩ := inv_g hI
  have hM := inv_mn hI
  unfold p_X8_strength p_X9_strength f_X8_strength f_X9_strength
  rw [mn_here s hM]
  have pi := pl_isIn s hM.2.1 a
  have ph := pl_isHere hM a
  by_cases c1 : f_X9_isHere m a = 0
  · rw [if_pos c1, if_pos c1]
    exact ⟨⟨pi, fun _ => trivial, fun z => absurd c1 z⟩, ⟨ph, fun _ => ⟨pp_bad m, trivial⟩, fun z => absurd c1 z⟩, rfl, ref_bad _ hK hI⟩
  · rw [if_neg c1, if_neg c1]
    have c1' : ¬ f_X9_isHere (f_X9_lays m) a = 0 := by rw [here_cg hb]; exact c1
    obtain ⟨w1, w2⟩ := pow_eq hP.1 hP.2.2.1 c1'
    dsimp only
    exact ⟨⟨pi, fun z => absurd z c1, fun _ => ⟨w1, trivial⟩⟩, ⟨ph, fun z => absurd z c1, fun _ => ⟨hp, str_in hP.2.2.1 c1', trivial⟩⟩, w2, inv_h hK hF hI⟩
theorem c_ruler (o oh h k : Rec) (x y : Int32) (hK : K < 100000) (hI : Inv K c s p t e q s1 p1 s2 p2 t1 t2 m) : p_X8_ruler c s p t e o oh h k q s1 p1 s2 p2 t1 t2 x y ∧ p_X9_ruler m x y ∧ f_X8_ruler c s p t e o oh h k q s1 p1 s2 p2 t1 t2 x y = (f_X9_ruler m x y).1 ∧ Inv (K + 1) c s p t e q s1 p1 s2 p2 t1 t2 (f_X9_ruler m x y).2 := by
  obtain ⟨hP, hG, hp, hF, hb⟩ := inv_g hI
  obtain ⟨r1, r2, r3⟩ := ru_eq hP.1 hP.2.2.1 x y
  unfold f_X9_ruler f_X8_ruler
  dsimp only
  exact ⟨⟨r1, trivial⟩, ⟨hp, r2, trivial⟩, r3, inv_h hK hF hI⟩
theorem c_where (o oh h k : Rec) (a : Int32) (hK : K < 100000) (hI : Inv K c s p t e q s1 p1 s2 p2 t1 t2 m) : p_X8_where c s p t e o oh h k q s1 p1 s2 p2 t1 t2 a ∧ p_X9_where m a ∧ (f_X8_where c s p t e o oh h k q s1 p1 s2 p2 t1 t2 a).1 = (f_X9_where m a).1 ∧ Inv (K + 1) (f_X8_where c s p t e o oh h k q s1 p1 s2 p2 t1 t2 a).2 s p t e q s1 p1 s2 p2 t1 t2 (f_X9_where m a).2 := by
  have hM := inv_mn hI
  obtain ⟨n0, n8, n2, mm⟩ := hM
  unfold p_X8_where p_X9_where f_X8_where f_X9_where
  rw [n2, in_0, in_w]
  have ez : Int32.ofInt 0 = 0 := rfl
  rw [ez]
  by_cases c1 : f_X8_within a 0 (p.1 5 - Int32.ofInt 1) = 0
  · rw [if_pos c1, if_pos c1]
    exact ⟨⟨fun _ => trivial, fun z => absurd c1 z⟩, ⟨fun _ => ⟨pp_bad m, trivial⟩, fun z => absurd c1 z⟩, rfl, ref_bad _ hK hI⟩
  · have hw := wi_n.mp c1
    have a8 : a < 8 := by grind
    have a1 : a < p.1 5 := by grind
    rw [if_neg c1, if_neg c1]
    dsimp only
    exact ⟨⟨fun z => absurd z c1, fun _ => ⟨vinb (n := 8) hw.1 a8, trivial⟩⟩, ⟨fun z => absurd z c1, fun _ => ⟨vinb (n := 248) (by grind) (by grind), trivial⟩⟩, (mm a hw.1 a1).2.2.2.1.symm, inv_k hK hI⟩
theorem c_status (o oh h k : Rec) (w : Int32) (hK : K < 100000) (hI : Inv K c s p t e q s1 p1 s2 p2 t1 t2 m) : p_X9_status m w ∧ (f_X8_status c s p t e o oh h k q s1 p1 s2 p2 t1 t2 w).1 = (f_X9_status m w).1 ∧ Inv (K + 1) (f_X8_status c s p t e o oh h k q s1 p1 s2 p2 t1 t2 w).2 s p t e q s1 p1 s2 p2 t1 t2 (f_X9_status m w).2 := by
  unfold p_X9_status f_X8_status f_X9_status
  rw [in_0, in_2, in_w]
  obtain ⟨r1, r2, r3⟩ := hI.2.2.2.2.1
  by_cases c1 : f_X8_within w 0 2 = 0
  · have hw := wi_z.mp c1
    have c2 : Int32.toInt w < 0 ∨ 2 < Int32.toInt w := hw.imp (fun z => (Int32.lt_iff_toInt_lt.mp z : w.toInt < (0 : Int32).toInt)) (fun z => (Int32.lt_iff_toInt_lt.mp z : (2 : Int32).toInt < w.toInt))
    rw [if_pos c1, if_pos c2]
    exact ⟨⟨fun _ => ⟨pp_ref m _ (by decide) (by decide), trivial⟩, fun z => absurd c1 z⟩, rfl, ref_bad _ hK hI⟩
  · have hw := wi_n.mp c1
    have w4 : w = 0 ∨ w = 1 ∨ w = 2 := by grind
    rw [if_neg c1]
    refine ⟨⟨fun z => absurd z c1, fun _ => ⟨vinb (n := 3) hw.1 (by grind), trivial⟩⟩, ?_⟩
    clear hw
    have iv := inv_k hK hI
    rcases w4 with hw | hw | hw
    · rw [if_neg (show ¬ (Int32.toInt w < 0 ∨ 2 < Int32.toInt w) by subst hw; decide), if_pos (show Int32.toInt w = 0 by subst hw; decide)]
      dsimp only
      rw [hw]
      exact ⟨r1, iv⟩
    · rw [if_neg (show ¬ (Int32.toInt w < 0 ∨ 2 < Int32.toInt w) by subst hw; decide), if_neg (show ¬ Int32.toInt w = 0 by subst hw; decide), if_pos (show Int32.toInt w = 1 by subst hw; decide)]
      dsimp only
      rw [hw]
      exact ⟨r2, iv⟩
    · rw [if_neg (show ¬ (Int32.toInt w < 0 ∨ 2 < Int32.toInt w) by subst hw; decide), if_neg (show ¬ Int32.toInt w = 0 by subst hw; decide), if_neg (show ¬ Int32.toInt w = 1 by subst hw; decide)]
      dsimp only
      rw [hw]
      exact ⟨r3, iv⟩
theorem c_clear (o oh h k : Rec) (hK : K < 100000) (hI : Inv K c s p t e q s1 p1 s2 p2 t1 t2 m) : (f_X8_clear c s p t e o oh h k q s1 p1 s2 p2 t1 t2).1 = (f_X9_clear m).1 ∧ Inv (K + 1) c s p t (f_X8_clear c s p t e o oh h k q s1 p1 s2 p2 t1 t2).2 q s1 p1 s2 p2 t1 t2 (f_X9_clear m).2 := by
  have hI' := inv_k hK hI
  obtain ⟨i1, i2, i3, ⟨t1, t2, t3, t4⟩, i5, i6⟩ := hI'
  refine ⟨t1, st_fr (m := m) (Int32.le_refl _) rfl i1, img_fr (m := m) (Int32.le_refl _) rfl rfl rfl i2, img_fr (m := m) (Int32.le_refl _) rfl rfl rfl i3, ⟨rfl, (show (0 : Int32) ≤ 0 by decide), (show (0 : Int32) ≤ 200 by decide), fun i h1 h2 => ?_⟩, i5, i6⟩
  exfalso
  have h1' : Int32.ofNat i < 0 := h1
  have : 0 ≤ Int32.ofNat i := by rw [n32_0, Int32.toInt_ofNat_of_lt (by omega)]; omega
  grind
theorem c_state (o oh h k : Rec) (w : Int32) (hK : K < 100000) (hI : Inv K c s p t e q s1 p1 s2 p2 t1 t2 m) : p_X8_state c s p t e o oh h k q s1 p1 s2 p2 t1 t2 w ∧ p_X9_state m w ∧ (f_X8_state c s p t e o oh h k q s1 p1 s2 p2 t1 t2 w).1 = (f_X9_state m w).1 ∧ Inv (K + 1) (f_X8_state c s p t e o oh h k q s1 p1 s2 p2 t1 t2 w).2 s p t e q s1 p1 s2 p2 t1 t2 (f_X9_state m w).2 := by
  obtain ⟨hP, hG, hp, hF, hb⟩ := inv_g hI
  obtain ⟨b1, b2, b3⟩ := be_eq hP hG
  obtain ⟨w1, w2, w3, _⟩ := wo_eq hP hG
  have tu := tu_eq hP
  unfold p_X8_state p_X9_state f_X8_state f_X9_state
  rw [in_0, in_5, in_w]
  by_cases c1 : f_X8_within w 0 5 = 0
  · have hw := wi_z.mp c1
    have c2 : Int32.toInt w < 0 ∨ 5 < Int32.toInt w := hw.imp (fun z => (Int32.lt_iff_toInt_lt.mp z : w.toInt < (0 : Int32).toInt)) (fun z => (Int32.lt_iff_toInt_lt.mp z : (5 : Int32).toInt < w.toInt))
    rw [if_pos c1, if_pos c2]
    exact ⟨⟨fun _ => trivial, fun z => absurd c2 z⟩, ⟨fun _ => ⟨pp_ref m _ (by decide) (by decide), trivial⟩, fun z => absurd c1 z⟩, rfl, ref_bad _ hK hI⟩
  · have hw := wi_n.mp c1
    rw [if_neg c1]
    refine ⟨⟨fun _ => trivial, fun _ => ⟨fun _ => trivial, fun _ => ⟨fun _ => trivial, fun _ => ⟨fun _ => trivial, fun _ => ⟨fun _ => trivial, fun _ => ⟨fun _ => ⟨b1, trivial⟩, fun _ => ⟨w1, trivial⟩⟩⟩⟩⟩⟩⟩, ⟨fun z => absurd z c1, fun _ => ⟨hp, fun _ => trivial, fun _ => ⟨fun _ => trivial, fun _ => ⟨fun _ => trivial, fun _ => ⟨fun _ => trivial, fun _ => ⟨fun _ => ⟨b2, trivial⟩, fun _ => ⟨w2, trivial⟩⟩⟩⟩⟩⟩⟩, ?_⟩
    have w4 : w = 0 ∨ w = 1 ∨ w = 2 ∨ w = 3 ∨ w = 4 ∨ w = 5 := by grind
    have iv := inv_h hK hF hI
    rw [b3, w3, tu]
    clear hw
    rcases w4 with hw | hw | hw | hw | hw | hw
    · rw [if_neg (show ¬ (Int32.toInt w < 0 ∨ 5 < Int32.toInt w) by subst hw; decide), if_pos (show Int32.toInt w = 0 by subst hw; decide), if_pos (show w = 0 by subst hw; decide)]
      dsimp only
      exact ⟨hP.2.2.2.2.1.1, iv⟩
    · rw [if_neg (show ¬ (Int32.toInt w < 0 ∨ 5 < Int32.toInt w) by subst hw; decide), if_neg (show ¬ Int32.toInt w = 0 by subst hw; decide), if_pos (show Int32.toInt w = 1 by subst hw; decide), if_neg (show ¬ w = 0 by subst hw; decide), if_pos (show w = Int32.ofInt 1 by subst hw; decide)]
      dsimp only
      exact ⟨rfl, iv⟩
    · rw [if_neg (show ¬ (Int32.toInt w < 0 ∨ 5 < Int32.toInt w) by subst hw; decide), if_neg (show ¬ Int32.toInt w = 0 by subst hw; decide), if_neg (show ¬ Int32.toInt w = 1 by subst hw; decide), if_pos (show Int32.toInt w = 2 by subst hw; decide), if_neg (show ¬ w = 0 by subst hw; decide), if_neg (show ¬ w = Int32.ofInt 1 by subst hw; decide), if_pos (show w = Int32.ofInt 2 by subst hw; decide)]
      dsimp only
      exact ⟨hP.2.2.2.2.1.2.1, iv⟩
    · rw [if_neg (show ¬ (Int32.toInt w < 0 ∨ 5 < Int32.toInt w) by subst hw; decide), if_neg (show ¬ Int32.toInt w = 0 by subst hw; decide), if_neg (show ¬ Int32.toInt w = 1 by subst hw; decide), if_neg (show ¬ Int32.toInt w = 2 by subst hw; decide), if_pos (show Int32.toInt w = 3 by subst hw; decide), if_neg (show ¬ w = 0 by subst hw; decide), if_neg (show ¬ w = Int32.ofInt 1 by subst hw; decide), if_neg (show ¬ w = Int32.ofInt 2 by subst hw; decide), if_pos (show w = Int32.ofInt 3 by subst hw; decide)]
      dsimp only
      exact ⟨hP.2.2.2.1.2.2, iv⟩
    · rw [if_neg (show ¬ (Int32.toInt w < 0 ∨ 5 < Int32.toInt w) by subst hw; decide), if_neg (show ¬ Int32.toInt w = 0 by subst hw; decide), if_neg (show ¬ Int32.toInt w = 1 by subst hw; decide), if_neg (show ¬ Int32.toInt w = 2 by subst hw; decide), if_neg (show ¬ Int32.toInt w = 3 by subst hw; decide), if_pos (show Int32.toInt w = 4 by subst hw; decide), if_neg (show ¬ w = 0 by subst hw; decide), if_neg (show ¬ w = Int32.ofInt 1 by subst hw; decide), if_neg (show ¬ w = Int32.ofInt 2 by subst hw; decide), if_neg (show ¬ w = Int32.ofInt 3 by subst hw; decide), if_pos (show w = Int32.ofInt 4 by subst hw; decide)]
      dsimp only
      exact ⟨rfl, iv⟩
    · rw [if_neg (show ¬ (Int32.toInt w < 0 ∨ 5 < Int32.toInt w) by subst hw; decide), if_neg (show ¬ Int32.toInt w = 0 by subst hw; decide), if_neg (show ¬ Int32.toInt w = 1 by subst hw; decide), if_neg (show ¬ Int32.toInt w = 2 by subst hw; decide), if_neg (show ¬ Int32.toInt w = 3 by subst hw; decide), if_neg (show ¬ Int32.toInt w = 4 by subst hw; decide), if_neg (show ¬ w = 0 by subst hw; decide), if_neg (show ¬ w = Int32.ofInt 1 by subst hw; decide), if_neg (show ¬ w = Int32.ofInt 2 by subst hw; decide), if_neg (show ¬ w = Int32.ofInt 3 by subst hw; decide), if_neg (show ¬ w = Int32.ofInt 4 by subst hw; decide)]
      dsimp only
      exact ⟨rfl, iv⟩
theorem c_folds (o oh h k : Rec) (i : Int32) (hK : K < 100000) (hI : Inv K c s p t e q s1 p1 s2 p2 t1 t2 m) : p_X9_folds m i ∧ (f_X8_folds c s p t e o oh h k q s1 p1 s2 p2 t1 t2 i).1 = (f_X9_folds m i).1 ∧ Inv (K + 1) (f_X8_folds c s p t e o oh h k q s1 p1 s2 p2 t1 t2 i).2 s p t e q s1 p1 s2 p2 t1 t2 (f_X9_folds m i).2 := by
  obtain ⟨hP, hG, hp, hF, hb⟩ := inv_g hI
  have ce := ch_eq hP.2.1
  have pf := pp_foldsNow (f_X9_lays m)
  have pk := pp_pick (f_X9_lays m) i
  unfold p_X9_folds f_X8_folds f_X9_folds
  rw [← ce]
  by_cases c1 : Int32.ofInt (-1) ≤ i
  · rw [if_pos c1, if_pos c1]
    refine ⟨⟨fun _ => ⟨hp, fun _ => ⟨fun _ => ⟨pf, trivial⟩, fun _ => trivial⟩, fun _ => ⟨pf, fun _ => ⟨pk, trivial⟩, fun _ => ⟨fun _ => ⟨pf, trivial⟩, fun _ => trivial⟩⟩⟩, fun z => absurd c1 z⟩, ?_⟩
    by_cases c2 : i = Int32.ofInt (-1)
    · simp only [if_pos c2]
      exact ⟨trivial, inv_h hK hF hI⟩
    · have i0 : 0 ≤ i := by
        have c1' : (-1 : Int32) ≤ i := c1
        have c2' : ¬ i = (-1 : Int32) := c2
        grind
      rw [if_neg c2, if_neg c2, if_neg c2]
      by_cases c3 : i < f_X4_choices s
      · rw [if_pos c3, if_pos c3]
        obtain ⟨nf, hn, h16, hgeo, hinj⟩ := gi_geo hG
        obtain ⟨B1, B2, B3, B4⟩ := bk_b (n := nf) (by omega)
        obtain ⟨k1, k2, k3, k4, k5⟩ := pick_eq hP.2.1 hgeo B1 B2 i0
        rw [k1, k2, k3]
        dsimp only
        refine ⟨rfl, inv_h hK ⟨fun k z1 z2 z3 => ?_, fun j z1 z2 z3 z4 => ?_⟩ hI⟩
        · rw [k5 k z1 z2 z3, hF.1 k z1 z2 z3]
        · rw [k4, hF.2 j z1 z2 z3 z4]
      · rw [if_neg c3, if_neg c3]
        dsimp only
        exact ⟨rfl, inv_h hK hF hI⟩
  · rw [if_neg c1, if_neg c1]
    exact ⟨⟨fun z => absurd z c1, fun _ => ⟨pp_ref m _ (by decide) (by decide), trivial⟩⟩, rfl, ref_bad _ hK hI⟩
theorem c_leaves (o oh h k : Rec) (i w : Int32) (hK : K < 100000) (hI : Inv K c s p t e q s1 p1 s2 p2 t1 t2 m) : p_X8_leaves c s p t e o oh h k q s1 p1 s2 p2 t1 t2 i w ∧ p_X9_leaves m i w ∧ (f_X8_leaves c s p t e o oh h k q s1 p1 s2 p2 t1 t2 i w).1 = (f_X9_leaves m i w).1 ∧ Inv (K + 1) (f_X8_leaves c s p t e o oh h k q s1 p1 s2 p2 t1 t2 i w).2.1 s p t e q s1 p1 s2 p2 t1 t2 (f_X9_leaves m i w).2 := by
  obtain ⟨hP, hG, hp, hF, hb⟩ := inv_g hI
  have hbm : (f_X9_lays m).2 0 = m.2 0 := hb
  have hIL := inv_h hK hF hI
  have ce := ch_eq hP.2.1
  have pf := pp_foldsNow (f_X9_lays m)
  have cb := ch_b hP hG
  have hI0 : Inv K c s p t e q s1 p1 s2 p2 t1 t2 (f_X9_lays m) := by
    refine inv_fr (Int32.le_refl _) hb (hF.2 1 (by decide) (by decide) (by decide) (by decide)) (hF.2 2 (by decide) (by decide) (by decide) (by decide)) (hF.2 22 (by decide) (by decide) (by decide) (by decide)) (hF.1 23 (by decide) (by decide) (by decide)) rfl ?_ hI
    unfold Rf
    rw [hF.2 3 (by decide) (by decide) (by decide) (by decide)]
    exact hI.2.2.2.2.1
  have refL := ref_bad (Int32.ofInt (-2)) hK hI0
  unfold p_X8_leaves p_X9_leaves f_X8_leaves f_X9_leaves
  rw [← ce, in_0, in_1, in_w, in_w]
  have ez : Int32.ofInt 0 = 0 := rfl
  have eo : Int32.ofInt 1 = 1 := rfl
  rw [ez, eo]
  by_cases c1 : f_X8_within i 0 (f_X4_choices s - 1) = 0
  · rw [if_pos c1, if_pos c1]
    exact ⟨⟨fun _ => trivial, fun z => absurd c1 z⟩, ⟨hp, pf, fun _ => ⟨pp_bad _, trivial⟩, fun z => absurd c1 z⟩, rfl, refL⟩
  · rw [if_neg c1, if_neg c1]
    by_cases c2 : f_X8_within w 0 1 = 0
    · rw [if_pos c2, if_pos c2]
      exact ⟨⟨fun z => absurd z c1, fun _ => ⟨fun _ => trivial, fun z => absurd c2 z⟩⟩, ⟨hp, pf, fun z => absurd z c1, fun _ => ⟨fun _ => ⟨pp_bad _, trivial⟩, fun z => absurd c2 z⟩⟩, rfl, refL⟩
    · have i0 := (wi_n.mp c1).1
      obtain ⟨w1, w2, w3, w4, w5⟩ := lw_all (m := f_X9_lays m) hP hG rfl i0
      obtain ⟨g1, g2, g3⟩ := gain (m := f_X9_lays m) o hP hG rfl i0
      rw [if_neg c2, if_neg c2]
      dsimp only
      exact ⟨⟨fun z => absurd z c1, fun _ => ⟨fun z => absurd z c2, fun _ => ⟨⟨g1, trivial⟩, (g2 w).1, trivial⟩⟩⟩, ⟨hp, pf, fun z => absurd z c1, fun _ => ⟨fun z => absurd z c2, fun _ => ⟨w1, (g2 w).2.1, trivial⟩⟩⟩, (g2 w).2.2, inv_h hK (hF.t w2) hI⟩
theorem c_habit (o oh h k : Rec) (hK : K < 100000) (hI : Inv K c s p t e q s1 p1 s2 p2 t1 t2 m) : p_X8_habit c s p t e o oh h k q s1 p1 s2 p2 t1 t2 ∧ p_X9_habit m ∧ (f_X8_habit c s p t e o oh h k q s1 p1 s2 p2 t1 t2).1 = (f_X9_habit m).1 ∧ Inv (K + 1) c s p t e q s1 p1 s2 p2 t1 t2 (f_X9_habit m).2 := by
  obtain ⟨hP, hG, hp, hF, hb⟩ := inv_g hI
  obtain ⟨b1, b2, b3, b4, _⟩ := hb_all (m := m) o hP hG hb.symm
  unfold f_X8_habit f_X9_habit
  dsimp only
  exact ⟨⟨b1, trivial⟩, ⟨b2, trivial⟩, b3, inv_h hK b4 hI⟩
theorem c_safe (o oh h k : Rec) (hK : K < 100000) (hI : Inv K c s p t e q s1 p1 s2 p2 t1 t2 m) : p_X8_safe c s p t e o oh h k q s1 p1 s2 p2 t1 t2 ∧ p_X9_safe m ∧ (f_X8_safe c s p t e o oh h k q s1 p1 s2 p2 t1 t2).1 = (f_X9_safe m).1 ∧ Inv (K + 1) c s p t e q s1 p1 s2 p2 t1 t2 (f_X9_safe m).2 := by
  obtain ⟨hP, hG, hp, hF, hb⟩ := inv_g hI
  obtain ⟨b1, b2, b3, b4⟩ := sf_all (m := m) o hP hG hb.symm
  unfold f_X8_safe
  dsimp only
  exact ⟨⟨b1, trivial⟩, b2, b3, inv_h hK b4 hI⟩
end
