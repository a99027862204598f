/-! layer 3: men, alike on both sides; premises that always hold -/
theorem cl_mono {a b : Int32} (h : a ≤ b) : a.toNatClampNeg ≤ b.toNatClampNeg := by
  have h1 := Int32.le_iff_toInt_le.mp h
  show a.toInt.toNat ≤ b.toInt.toNat
  omega
/-- a loop that counts up to e has the fuel it needs -/
def FuV (e : Int32) (n : Nat) (v : Int32) : Prop := e < 1000000 ∧ 0 ≤ v ∧ v ≤ e ∧ e.toNatClampNeg < n + v.toNatClampNeg
theorem FuV.z {e v : Int32} (h : FuV e 0 v) : False := by
  have := cl_mono h.2.2.1
  have := h.2.2.2
  omega
theorem FuV.s {e v : Int32} {n : Nat} (h : FuV e (n + 1) v) (hv : ¬ e ≤ v) : FuV e n (v + 1) ∧ 0 ≤ v ∧ v < e := by
  obtain ⟨h0, h1, h2, h3⟩ := h
  have hl : v < e := by grind
  refine ⟨⟨h0, by grind, by grind, ?_⟩, h1, hl⟩
  rw [cl_succ h1 (by grind)]
  omega
theorem FuV.o {e : Int32} {n : Nat} (h0 : 0 ≤ e) (h1 : e ≤ 8) (hn : 8 < n) : FuV e n 0 := by
  refine ⟨by grind, by decide, h0, ?_⟩
  have := cl_le (n := 8) h0 h1
  have e0 : (0 : Int32).toNatClampNeg = 0 := rfl
  omega
theorem pl_isCell (m : Rec) (c : Int32) : p_X9_isCell m c := by
  unfold p_X9_isCell
  refine ⟨fun _ => trivial, fun h => ⟨fun _ => trivial, fun _ => ⟨fun _ => trivial, fun _ => ⟨?_, trivial⟩⟩⟩⟩
  rw [in_0, in_35, in_w] at h
  have := wi_n.mp h
  exact vinb (n := 248) (by grind) (by grind)
theorem pl_isAt (m : Rec) (c x y : Int32) : p_X9_isAt m c x y := by
  unfold p_X9_isAt
  refine ⟨pl_isCell m c, fun _ => trivial, fun h => ?_⟩
  have h1 := isCell_in h
  have h2 := vin36 h1.1 h1.2
  exact ⟨h2, fun _ => ⟨h2, trivial⟩, fun _ => trivial⟩
theorem pl_has (s : Rec) (c : Int32) : p_X4_has s c := by
  unfold p_X4_has
  refine ⟨fun _ => trivial, fun h => ⟨?_, trivial⟩⟩
  have := wi_n.mp h
  exact vin36 (by grind) (by grind)
theorem pl_liesAt (s : Rec) (c x y : Int32) : p_X4_liesAt s c x y := by
  unfold p_X4_liesAt
  refine ⟨fun _ => trivial, fun h0 => ⟨fun _ => trivial, fun h1 => ?_⟩⟩
  have h2 := vin36 (x := c) (by grind) (by grind)
  exact ⟨h2, fun _ => trivial, fun _ => ⟨h2, fun _ => ⟨h2, trivial⟩, fun _ => trivial⟩⟩
/-- rows of men, alike -/
def Mn (p g : Rec) : Prop := 0 ≤ p.1 5 ∧ p.1 5 ≤ 8 ∧ g.2 0 (Int32.toNatClampNeg (Int32.ofInt 2)) = p.1 5 ∧ ∀ v : Int32, 0 ≤ v → v < p.1 5 →
  g.2 0 (Int32.toNatClampNeg (Int32.ofInt 28 + Int32.ofInt 3 * v)) = p.2 1 v.toNatClampNeg ∧
  g.2 0 (Int32.toNatClampNeg (Int32.ofInt 28 + Int32.ofInt 3 * v + Int32.ofInt 1)) = p.2 2 v.toNatClampNeg ∧
  g.2 0 (Int32.toNatClampNeg (Int32.ofInt 28 + Int32.ofInt 3 * v + Int32.ofInt 2)) = p.2 3 v.toNatClampNeg ∧
  g.2 0 (Int32.toNatClampNeg (Int32.ofInt 8 + v)) = p.2 4 v.toNatClampNeg ∧
  (p.2 4 v.toNatClampNeg = -1 ∨ ¬ f_X9_isCell g (p.2 4 v.toNatClampNeg) = 0)
theorem pl_isIn {p : Rec} (s : Rec) (h8 : p.1 5 ≤ 8) (v : Int32) : p_X3_isIn s p v := by
  unfold p_X3_isIn
  refine ⟨fun _ => trivial, fun h0 => ⟨fun _ => trivial, fun h1 => ?_⟩⟩
  have h2 := vinb (n := 8) (x := v) (by grind) (by grind)
  exact ⟨h2, fun _ => trivial, fun _ => ⟨h2, trivial⟩⟩
theorem pl_isHere {p g : Rec} (h : Mn p g) (v : Int32) : p_X9_isHere g v := by
  obtain ⟨n0, n8, n2, hm⟩ := h
  unfold p_X9_isHere
  refine ⟨fun _ => trivial, fun h => ⟨?_, trivial⟩⟩
  rw [n2, in_0, in_w] at h
  have := wi_n.mp h
  exact vinb (n := 248) (by grind) (by grind)
theorem mn_here {p g : Rec} (s : Rec) (h : Mn p g) (v : Int32) : f_X3_isIn s p v = f_X9_isHere g v := by
  obtain ⟨n0, n8, n2, hm⟩ := h
  unfold f_X3_isIn f_X9_isHere
  rw [n2, in_0, in_w]
  by_cases h0 : v < 0
  · rw [if_pos h0, if_pos (wi_z.mpr (Or.inl h0))]
  · by_cases h1 : p.1 5 ≤ v
    · rw [if_neg h0, if_pos h1, if_pos (wi_z.mpr (Or.inr (by grind)))]
    · obtain ⟨_, _, _, e, c⟩ := hm v (by grind) (by grind)
      rw [if_neg h0, if_neg h1, if_neg (wi_n.mpr ⟨by grind, by grind⟩), e]
      rcases c with c | c
      · rw [c]; decide
      · have := isCell_in c
        grind
theorem mn_here_in {p g : Rec} (h : Mn p g) {v : Int32} (hv : ¬ f_X9_isHere g v = 0) : 0 ≤ v ∧ v < p.1 5 ∧ ¬ f_X9_isCell g (p.2 4 v.toNatClampNeg) = 0 := by
  rw [← mn_here g h] at hv
  unfold f_X3_isIn at hv
  obtain ⟨n0, n8, n2, hm⟩ := h
  have h1 : 0 ≤ v := by grind
  have h2 : v < p.1 5 := by grind
  obtain ⟨_, _, _, e, c⟩ := hm v h1 h2
  refine ⟨h1, h2, ?_⟩
  rcases c with c | c
  · rw [c] at hv
    exact absurd (by grind) hv
  · exact c
theorem mn_here_n {p g : Rec} (h : Mn p g) {v : Int32} (h0 : 0 ≤ v) (h1 : v < p.1 5) : f_X9_isHere g v = 0 ↔ p.2 4 v.toNatClampNeg = -1 := by
  have hh := h
  obtain ⟨n0, n8, n2, hm⟩ := h
  obtain ⟨_, _, _, e, c⟩ := hm v h0 h1
  constructor
  · intro q
    rcases c with c | c
    · exact c
    · exfalso
      have c2 := isCell_in c
      rw [← mn_here g hh] at q
      unfold f_X3_isIn at q
      grind
  · intro q
    rw [← mn_here g hh]
    unfold f_X3_isIn
    rw [q]
    grind
theorem ti_eq {k : Int32} {z : Int32} {i : Int} (hz : z.toInt = i) : k.toInt = i ↔ k = z := by
  rw [← hz]
  exact Int32.toInt_inj
theorem str_pw (g : Rec) (v : Int32) : f_X9_strengthOf g v = f_X8_powerOfKind (g.2 0 (Int32.toNatClampNeg (Int32.ofInt 28 + Int32.ofInt 3 * v))) (g.2 0 (Int32.toNatClampNeg (Int32.ofInt 28 + Int32.ofInt 3 * v + Int32.ofInt 2))) (g.2 7 (Int32.toNatClampNeg (g.2 0 (Int32.toNatClampNeg (Int32.ofInt 8 + v))))) := by
  unfold f_X9_strengthOf f_X8_powerOfKind
  generalize g.2 0 (Int32.toNatClampNeg (Int32.ofInt 28 + Int32.ofInt 3 * v)) = k
  generalize g.2 0 (Int32.toNatClampNeg (Int32.ofInt 28 + Int32.ofInt 3 * v + Int32.ofInt 2)) = t
  generalize g.2 7 (Int32.toNatClampNeg (g.2 0 (Int32.toNatClampNeg (Int32.ofInt 8 + v)))) = w
  have q1 : k.toInt = 1 ↔ k = Int32.ofInt 1 := ti_eq (by decide)
  have q2 : k.toInt = 2 ↔ k = Int32.ofInt 2 := ti_eq (by decide)
  have q3 : k.toInt = 3 ↔ k = Int32.ofInt 3 := ti_eq (by decide)
  by_cases e1 : k.toInt = 1
  · have e2 := q1.mp e1
    subst e2
    simp
  · by_cases e2 : k.toInt = 2
    · have e3 := q2.mp e2
      subst e3
      simp
    · by_cases e3 : k.toInt = 3
      · have e4 := q3.mp e3
        subst e4
        simp
      · have : k.toInt < 1 ∨ 3 < k.toInt := by omega
        simp only [if_pos this, mt q1.mpr e1, mt q2.mpr e2, mt q3.mpr e3, if_false]
theorem str_in {p g : Rec} (h : Mn p g) {v : Int32} (hv : ¬ f_X9_isHere g v = 0) : p_X9_strengthOf g v := by
  obtain ⟨h0, h1, h2⟩ := mn_here_in h hv
  obtain ⟨n0, n8, n2, hm⟩ := h
  obtain ⟨_, _, _, e, c⟩ := hm v h0 h1
  have hc := isCell_in h2
  refine ⟨vinb (n := 248) (by grind) (by grind), vinb (n := 248) (by grind) (by grind), vinb (n := 248) (by grind) (by grind), ?_, trivial⟩
  rw [e]
  exact vin36 hc.1 hc.2
theorem own_in {p g : Rec} (h : Mn p g) {v : Int32} (h0 : 0 ≤ v) (h1 : v < p.1 5) : p_X9_ownerOf g v := by
  obtain ⟨n0, n8, n2, hm⟩ := h
  exact ⟨vinb (n := 248) (by grind) (by grind), trivial⟩
theorem own_eq {p g : Rec} (h : Mn p g) {v : Int32} (h0 : 0 ≤ v) (h1 : v < p.1 5) : f_X9_ownerOf g v = p.2 2 v.toNatClampNeg := (h.2.2.2 v h0 h1).2.1
theorem str_eq {s p g : Rec} (hs : SG s g) (h : Mn p g) {v : Int32} (hv : ¬ f_X9_isHere g v = 0) : f_X9_strengthOf g v = f_X8_powerOfKind (p.2 1 v.toNatClampNeg) (p.2 3 v.toNatClampNeg) (s.2 9 (p.2 4 v.toNatClampNeg).toNatClampNeg) := by
  obtain ⟨h0, h1, h2⟩ := mn_here_in h hv
  obtain ⟨e1, e2, e3, e4, c⟩ := h.2.2.2 v h0 h1
  have hc := isCell_in h2
  rw [str_pw, e1, e3, e4, ← (hs _ hc.1 hc.2).2.2.2.2]
theorem lay_eq {s p g : Rec} (hs : SG s g) (h : Mn p g) {v : Int32} (hv : ¬ f_X9_isHere g v = 0) : g.2 6 (Int32.toNatClampNeg (g.2 0 (Int32.toNatClampNeg (Int32.ofInt 8 + v)))) = s.2 12 (p.2 4 v.toNatClampNeg).toNatClampNeg := by
  obtain ⟨h0, h1, h2⟩ := mn_here_in h hv
  obtain ⟨e1, e2, e3, e4, c⟩ := h.2.2.2 v h0 h1
  have hc := isCell_in h2
  rw [e4, ← (hs _ hc.1 hc.2).2.2.2.1]
/-- the RULER: both loops -/
theorem sp_ruler {s p g : Rec} (hs : SG s g) (h : Mn p g) (x y : Int32) : ∀ (n : Nat) (v3 v4 v5 v6 : Int32), FuV (p.1 5) n v6 →
    (v3 = -1 ∨ (0 ≤ v3 ∧ v3 < v6 ∧ ¬ f_X9_isHere g v3 = 0 ∧ v4 = f_X9_strengthOf g v3 ∧ v5 = g.2 6 (Int32.toNatClampNeg (g.2 0 (Int32.toNatClampNeg (Int32.ofInt 8 + v3)))))) →
    p_X3_rulerAt_11 n s p x y v3 v4 v5 v6 ∧ p_X9_rulerAt_5 n g x y v3 v6 ∧ f_X3_rulerAt_11 n s p x y v3 v4 v5 v6 = f_X9_rulerAt_5 n g x y v3 v6 := by
  intro n
  induction n with
  | zero => intro v3 v4 v5 v6 hf; exact hf.z.elim
  | succ n ih =>
    intro v3 v4 v5 v6 hf h3
    rw [p_X3_rulerAt_11, p_X9_rulerAt_5, f_X3_rulerAt_11, f_X9_rulerAt_5, h.2.2.1]
    by_cases c1 : p.1 5 ≤ v6
    · exact ⟨⟨fun _ => trivial, fun q => absurd c1 q⟩, ⟨fun _ => trivial, fun q => absurd c1 q⟩, by rw [if_pos c1, if_pos c1]⟩
    · obtain ⟨f1, f2, f3⟩ := hf.s c1
      obtain ⟨e1, e2, e3, e4, c⟩ := h.2.2.2 v6 f2 f3
      have hn := mn_here_n h f2 f3
      have n8 := h.2.1
      have v8 := vinb (n := 8) (x := v6) f2 (by grind)
      have v248 := vinb (n := 248) (x := Int32.ofInt 8 + v6) (by grind) (by grind)
      have ev : v6 + Int32.ofInt 1 = v6 + 1 := rfl
      rw [if_neg c1, if_neg c1, e4, ev, sg_liesAt hs]
      by_cases hc : p.2 4 v6.toNatClampNeg = -1
      · have hz := hn.mpr hc
        have hl : f_X9_isAt g (p.2 4 v6.toNatClampNeg) x y = 0 := by
          rw [hc]
          unfold f_X9_isAt
          rw [isCell_out (Or.inl (by decide))]
          rfl
        obtain ⟨i1, i2, i3⟩ := ih v3 v4 v5 (v6 + 1) f1 (by grind)
        rw [if_pos hl, if_pos hz]
        exact ⟨⟨fun q => absurd q c1, fun _ => ⟨v8, pl_liesAt .., fun _ => i1, fun q => absurd hl q⟩⟩, ⟨fun q => absurd q c1, fun _ => ⟨pl_isHere h v6, fun _ => i2, fun q => absurd hz q⟩⟩, i3⟩
      · have hz := mt hn.mp hc
        by_cases hl : f_X9_isAt g (p.2 4 v6.toNatClampNeg) x y = 0
        · obtain ⟨i1, i2, i3⟩ := ih v3 v4 v5 (v6 + 1) f1 (by grind)
          rw [if_pos hl, if_neg hz, if_pos hl]
          exact ⟨⟨fun q => absurd q c1, fun _ => ⟨v8, pl_liesAt .., fun _ => i1, fun q => absurd hl q⟩⟩, ⟨fun q => absurd q c1, fun _ => ⟨pl_isHere h v6, fun q => absurd q hz, fun _ => ⟨v248, pl_isAt .., fun _ => i2, fun q => absurd hl q⟩⟩⟩, i3⟩
        · have hcell : ¬ f_X9_isCell g (p.2 4 v6.toNatClampNeg) = 0 := by
            rcases c with c | c
            · exact absurd c hc
            · exact c
          have hb := isCell_in hcell
          have v36 := vin36 hb.1 hb.2
          have se := str_eq hs h hz
          have le := lay_eq hs h hz
          rw [e4] at le
          obtain ⟨i1, i2, i3⟩ := ih v6 (f_X9_strengthOf g v6) (g.2 6 (Int32.toNatClampNeg (g.2 0 (Int32.toNatClampNeg (Int32.ofInt 8 + v6))))) (v6 + 1) f1 (Or.inr ⟨f2, by grind, hz, rfl, rfl⟩)
          rw [e4] at i1 i3
          rw [if_neg hl, if_neg hz, if_neg hl, ← se, ← le]
          unfold f_X9_rulerAt_54 p_X9_rulerAt_54
          by_cases c3 : v3 = -1
          · have c3' : v3 = Int32.ofInt (-1) := c3
            rw [if_pos c3', if_pos c3', if_neg (show ¬ Int32.ofInt 1 = 0 by decide), if_neg (show ¬ Int32.ofInt 1 = 0 by decide)]
            refine ⟨⟨fun q => absurd q c1, fun _ => ⟨v8, pl_liesAt .., fun q => absurd q hl, fun _ => ⟨v8, v8, v36, v36, fun _ => i1, fun q => absurd c3' q⟩⟩⟩, ⟨fun q => absurd q c1, fun _ => ⟨pl_isHere h v6, fun q => absurd q hz, fun _ => ⟨v248, pl_isAt .., fun q => absurd q hl, fun _ => ⟨fun _ => ⟨fun q => absurd q (by decide), fun _ => ⟨fun q => absurd q (by decide), fun _ => i2⟩⟩, fun q => absurd c3' q⟩⟩⟩⟩, i3⟩
          · have c3' : ¬ v3 = Int32.ofInt (-1) := c3
            rcases h3 with h3 | ⟨a1, a2, a3, a4, a5⟩
            · exact absurd h3 c3
            · have st3 := str_in h a3
              have st6 := str_in h hz
              obtain ⟨b0, b1, b2⟩ := mn_here_in h a3
              have e43 := (h.2.2.2 v3 b0 b1).2.2.2.1
              have hb3 := isCell_in b2
              have v336 := vin36 hb3.1 hb3.2
              have v3248 := vinb (n := 248) (x := Int32.ofInt 8 + v3) (by grind) (by grind)
              obtain ⟨j1, j2, j3⟩ := ih v3 v4 v5 (v6 + 1) f1 (Or.inr ⟨a1, by grind, a3, a4, a5⟩)
              rw [e43] at a5
              rw [if_neg c3', if_neg c3', if_pos (show Int32.ofInt 0 = 0 by decide), ← a4, e4, e43, ← a5]
              refine ⟨⟨fun q => absurd q c1, fun _ => ⟨v8, pl_liesAt .., fun q => absurd q hl, fun _ => ⟨v8, v8, v36, v36, fun q => absurd q c3', fun _ => ⟨fun _ => i1, fun _ => ⟨fun _ => ⟨fun _ => j1, fun _ => i1⟩, fun _ => j1⟩⟩⟩⟩⟩, ⟨fun q => absurd q c1, fun _ => ⟨pl_isHere h v6, fun q => absurd q hz, fun _ => ⟨v248, pl_isAt .., fun q => absurd q hl, fun _ => ⟨fun q => absurd q c3', fun _ => ⟨fun _ => ⟨st6, st3, fun _ => i2, fun _ => ⟨fun _ => ⟨v248, v36, v3248, v336, fun _ => j2, fun _ => i2⟩, fun _ => j2⟩⟩, fun q => absurd rfl q⟩⟩⟩⟩⟩, ?_⟩
              rw [i3, j3]
              rfl
theorem ru_eq {s p g : Rec} (hs : SG s g) (h : Mn p g) (x y : Int32) : p_X3_rulerAt s p x y ∧ p_X9_rulerAt g x y ∧ f_X3_rulerAt s p x y = f_X9_rulerAt g x y :=
  sp_ruler hs h x y 40 (-1) 0 0 0 (FuV.o h.1 h.2.1 (by decide)) (Or.inl rfl)
