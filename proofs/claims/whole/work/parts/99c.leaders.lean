/-! layer 3: who leads, in order -/
def gx (g : Rec) (v : Nat) : Int32 := g.2 4 (g.2 0 (8 + v)).toNatClampNeg
def gy (g : Rec) (v : Nat) : Int32 := g.2 5 (g.2 0 (8 + v)).toNatClampNeg
def Ld (g : Rec) (v : Nat) : Prop := v < 8 ∧ nI v < g.2 0 2 ∧ ¬ g.2 0 (8 + v) = -1 ∧ g.2 0 (29 + 3 * v) = f_X9_turn g ∧ f_X9_rulerAt g (gx g v) (gy g v) = nI v
def Lt (g : Rec) (u v : Nat) : Prop := (gy g u).toInt < (gy g v).toInt ∨ ((gy g u).toInt = (gy g v).toInt ∧ (gx g u).toInt < (gx g v).toInt)
section
variable {K : Int32} {s p g : Rec}
theorem mcell (hP : PR s p g) {v : Nat} (h8 : v < 8) (h2 : nI v < g.2 0 2) : p.2 4 v = g.2 0 (8 + v) ∧ p.2 2 v = g.2 0 (29 + 3 * v) ∧ (f_X9_isHere g (nI v) = 0 ↔ g.2 0 (8 + v) = -1) ∧ (¬ g.2 0 (8 + v) = -1 → ¬ f_X9_isCell g (g.2 0 (8 + v)) = 0 ∧ s.2 10 (p.2 4 v).toNatClampNeg = gx g v ∧ s.2 11 (p.2 4 v).toNatClampNeg = gy g v ∧ vp_in (p.2 4 v) 36 ∧ ¬ f_X4_has s (p.2 4 v) = 0) := by
  have hM := hP.2.2.1
  have n2 : g.2 0 2 = p.1 5 := hM.2.2.1
  rw [n2] at h2
  have v0 : 0 ≤ nI v := nI_pos' (by omega)
  have v100 : nI v < 100 := nI_lt (a := v) (b := 100) (by omega) (by omega)
  obtain ⟨_, e2, _, e4, cc⟩ := hM.2.2.2 (nI v) v0 h2
  rw [ix29 v0 v100, nI_clamp (by omega)] at e2
  rw [ix8 v0 v100, nI_clamp (by omega)] at e4
  rw [nI_clamp (by omega)] at cc
  have hn := mn_here_n hM v0 h2
  rw [nI_clamp (by omega), ← e4] at hn
  refine ⟨e4.symm, e2.symm, hn, fun hc => ?_⟩
  rw [← e4] at cc ⊢
  have ic := cc.resolve_left hc
  obtain ⟨c0, c1⟩ := isCell_in ic
  obtain ⟨_, g4, g5, _⟩ := hP.1 _ c0 c1
  exact ⟨ic, g4, g5, vin36 c0 c1, by rw [sg_has hP.1]; exact ic⟩
theorem leads_eq (hP : PR s p g) {v : Nat} (h8 : v < 8) (h2 : nI v < g.2 0 2) : p_X0_leads s p (nI v) ∧ (f_X0_leads s p (nI v) = 0 ↔ ¬ Ld g v) := by
  obtain ⟨a1, a2, a3, a4⟩ := mcell hP h8 h2
  have hM := hP.2.2.1
  have v8 : vp_in (nI v) 8 := vp_in_nI h8 (by omega)
  have tu := tu_eq hP
  unfold p_X0_leads f_X0_leads
  rw [mn_here s hM, nI_clamp (n := v) (by omega), a2, tu]
  have pi := pl_isIn s hM.2.1 (nI v)
  by_cases c1 : f_X9_isHere g (nI v) = 0
  · rw [if_pos c1]
    exact ⟨⟨pi, fun _ => trivial, fun z => absurd c1 z⟩, fun _ z => z.2.2.1 (a3.mp c1), fun _ => rfl⟩
  · have nc := fun z => c1 (a3.mpr z)
    obtain ⟨b1, b2, b3, b4, b5⟩ := a4 nc
    rw [if_neg c1, b2, b3]
    obtain ⟨r1, r2, r3⟩ := ru_eq hP.1 hM (gx g v) (gy g v)
    rw [r3]
    by_cases c2 : g.2 0 (29 + 3 * v) = f_X9_turn g
    · rw [if_pos c2]
      by_cases c3 : f_X9_rulerAt g (gx g v) (gy g v) = nI v
      · rw [if_pos c3]
        exact ⟨⟨pi, fun z => absurd z c1, fun _ => ⟨v8, fun _ => ⟨v8, b4, b4, r1, trivial⟩, fun z => absurd c2 z⟩⟩, fun z => absurd z (by decide), fun z => absurd ⟨h8, h2, nc, c2, c3⟩ z⟩
      · rw [if_neg c3]
        exact ⟨⟨pi, fun z => absurd z c1, fun _ => ⟨v8, fun _ => ⟨v8, b4, b4, r1, trivial⟩, fun z => absurd c2 z⟩⟩, fun _ z => c3 z.2.2.2.2, fun _ => rfl⟩
    · rw [if_neg c2]
      exact ⟨⟨pi, fun z => absurd z c1, fun _ => ⟨v8, fun z => absurd z c2, fun _ => trivial⟩⟩, fun _ z => c2 z.2.2.2.1, fun _ => rfl⟩
theorem g_bd (hG : GI K g) {c : Int32} (c0 : 0 ≤ c) (c1 : c < 36) : -1000 ≤ (g.2 4 c.toNatClampNeg).toInt ∧ (g.2 4 c.toNatClampNeg).toInt ≤ 1000 ∧ -1000 ≤ (g.2 5 c.toNatClampNeg).toInt ∧ (g.2 5 c.toNatClampNeg).toInt ≤ 1000 := by
  obtain ⟨n, hn, _, hgeo, _⟩ := gi_geo hG
  obtain ⟨_, h1, h2, h3, h4, _⟩ := hgeo c c0 c1
  have h1' := Int32.le_iff_toInt_le.mp h1
  have h2' := Int32.le_iff_toInt_le.mp h2
  have h3' := Int32.le_iff_toInt_le.mp h3
  have h4' := Int32.le_iff_toInt_le.mp h4
  have k : (-(Bk n)).toInt ≥ -1000 ∧ (Bk n).toInt ≤ 1000 := by
    have : n = 0 ∨ n = 1 ∨ n = 2 ∨ n = 3 := by omega
    rcases this with rfl | rfl | rfl | rfl <;> decide
  omega
theorem ahead_eq (hP : PR s p g) (hG : GI K g) {u v : Nat} (hu : Ld g u) (hv : Ld g v) : p_X0_liesAhead s p (nI u) (nI v) ∧ (f_X0_liesAhead s p (nI u) (nI v) = 0 ↔ ¬ Lt g u v) := by
  obtain ⟨_, _, _, a4⟩ := mcell hP hu.1 hu.2.1
  obtain ⟨b1, b2, b3, b4, b5⟩ := a4 hu.2.2.1
  obtain ⟨_, _, _, d4⟩ := mcell hP hv.1 hv.2.1
  obtain ⟨e1, e2, e3, e4, e5⟩ := d4 hv.2.2.1
  have u8 : vp_in (nI u) 8 := vp_in_nI hu.1 (by omega)
  have v8 : vp_in (nI v) 8 := vp_in_nI hv.1 (by omega)
  have hu8 := hu.1
  have hv8 := hv.1
  have bu := g_bd hG (isCell_in b1).1 (isCell_in b1).2
  have bv := g_bd hG (isCell_in e1).1 (isCell_in e1).2
  have ds := n32_sub (x := gy g u) (y := gy g v) (by unfold gy; omega) (by unfold gy; omega)
  unfold p_X0_liesAhead f_X0_liesAhead
  rw [nI_clamp (n := u) (by omega), nI_clamp (n := v) (by omega), if_neg b5, if_neg e5, b2, b3, e2, e3]
  have z0 : (0 : Int32).toInt = 0 := by decide
  have lt0 : gy g u - gy g v < 0 ↔ (gy g u).toInt < (gy g v).toInt := by
    rw [Int32.lt_iff_toInt_lt, ds, z0]
    omega
  have eq0 : gy g u - gy g v = 0 ↔ (gy g u).toInt = (gy g v).toInt := by
    rw [← Int32.toInt_inj, ds, z0]
    omega
  have xl : gx g v ≤ gx g u ↔ ¬ (gx g u).toInt < (gx g v).toInt := by
    rw [Int32.le_iff_toInt_le]
    omega
  by_cases c1 : gy g u - gy g v < 0
  · rw [if_pos c1]
    exact ⟨⟨u8, v8, pl_has .., fun z => absurd z b5, fun _ => ⟨pl_has .., fun z => absurd z e5, fun _ => ⟨b4, e4, fun _ => trivial, fun z => absurd c1 z⟩⟩⟩, fun z => absurd z (by decide), fun z => absurd (Or.inl (lt0.mp c1)) z⟩
  · rw [if_neg c1]
    by_cases c2 : gy g u - gy g v = 0
    · rw [if_pos c2]
      refine ⟨⟨u8, v8, pl_has .., fun z => absurd z b5, fun _ => ⟨pl_has .., fun z => absurd z e5, fun _ => ⟨b4, e4, fun z => absurd z c1, fun _ => ⟨fun _ => ⟨b4, e4, trivial⟩, fun z => absurd c2 z⟩⟩⟩⟩, ?_⟩
      by_cases c3 : gx g v ≤ gx g u
      · rw [if_pos c3]
        exact ⟨fun _ z => z.elim (fun y => c1 (lt0.mpr y)) (fun y => xl.mp c3 y.2), fun _ => rfl⟩
      · rw [if_neg c3]
        exact ⟨fun z => absurd z (by decide), fun z => absurd (Or.inr ⟨eq0.mp c2, Classical.byContradiction fun y => c3 (xl.mpr y)⟩) z⟩
    · rw [if_neg c2]
      exact ⟨⟨u8, v8, pl_has .., fun z => absurd z b5, fun _ => ⟨pl_has .., fun z => absurd z e5, fun _ => ⟨b4, e4, fun z => absurd z c1, fun _ => ⟨fun z => absurd z c2, fun _ => trivial⟩⟩⟩⟩, fun _ z => z.elim (fun y => c1 (lt0.mpr y)) (fun y => c2 (eq0.mpr y.1)), fun _ => rfl⟩
theorem ld_ne {u v : Nat} (hu : Ld g u) (hv : Ld g v) (h : u ≠ v) : Lt g u v ∨ Lt g v u := by
  have ne : ¬ ((gy g u).toInt = (gy g v).toInt ∧ (gx g u).toInt = (gx g v).toInt) := by
    rintro ⟨h1, h2⟩
    have e1 := Int32.toInt_inj.mp h1
    have e2 := Int32.toInt_inj.mp h2
    have r := hu.2.2.2.2
    rw [e1, e2, hv.2.2.2.2] at r
    have a := hu.1
    have b := hv.1
    exact h ((nI_eq (by omega) (by omega)).mp r).symm
  unfold Lt
  omega
def LO (g : Rec) (ld : Nat → Nat) (cnt upto : Nat) : Prop := (∀ i, i < cnt → ld i < upto ∧ Ld g (ld i)) ∧ (∀ v, v < upto → Ld g v → ∃ i, i < cnt ∧ ld i = v) ∧ (∀ i j, i < j → j < cnt → Lt g (ld i) (ld j)) ∧ cnt ≤ upto
/-- one more, put in its place -/
theorem lo_ins {ld : Nat → Nat} {cnt m at' : Nat} (h : LO g ld cnt m) (hm : Ld g m) (ha : at' ≤ cnt) (h1 : ∀ i, at' ≤ i → i < cnt → Lt g m (ld i)) (h2 : ∀ i, i < at' → Lt g (ld i) m) : LO g (fun i => if i < at' then ld i else if i = at' then m else ld (i - 1)) (cnt + 1) (m + 1) := by
  obtain ⟨l1, l2, l3, l4⟩ := h
  refine ⟨fun i hi => ?_, fun v hv hl => ?_, fun i j hij hj => ?_, by omega⟩
  · dsimp only
    by_cases c1 : i < at'
    · rw [if_pos c1]
      have := l1 i (by omega)
      exact ⟨by omega, this.2⟩
    · rw [if_neg c1]
      by_cases c2 : i = at'
      · rw [if_pos c2]; exact ⟨by omega, hm⟩
      · rw [if_neg c2]
        have := l1 (i - 1) (by omega)
        exact ⟨by omega, this.2⟩
  · by_cases c : v = m
    · exact ⟨at', by omega, by dsimp only; rw [if_neg (by omega), if_pos rfl, c]⟩
    · obtain ⟨i, i1, i2⟩ := l2 v (by omega) hl
      by_cases c1 : i < at'
      · exact ⟨i, by omega, by dsimp only; rw [if_pos c1]; exact i2⟩
      · exact ⟨i + 1, by omega, by dsimp only; rw [if_neg (by omega), if_neg (by omega), show i + 1 - 1 = i by omega]; exact i2⟩
  · dsimp only
    by_cases c1 : j < at'
    · rw [if_pos c1, if_pos (by omega)]
      exact l3 i j hij (by omega)
    · rw [if_neg c1]
      by_cases c2 : j = at'
      · rw [if_pos c2, if_pos (by omega)]
        exact h2 i (by omega)
      · rw [if_neg c2]
        by_cases c3 : i < at'
        · rw [if_pos c3]
          by_cases c4 : i < j - 1
          · exact l3 i (j - 1) c4 (by omega)
          · omega
        · rw [if_neg c3]
          by_cases c4 : i = at'
          · rw [if_pos c4]
            exact h1 (j - 1) (by omega) (by omega)
          · rw [if_neg c4]
            exact l3 (i - 1) (j - 1) (by omega) (by omega)
theorem lt_tr {u v w : Nat} (h1 : Lt g u v) (h2 : Lt g v w) : Lt g u w := by
  unfold Lt at *
  omega
theorem ll_26 (hP : PR s p g) (hG : GI K g) {ld : Nat → Nat} {cnt m : Nat} (hl : LO g ld cnt m) (hm : Ld g m) {K4 : Rec → Rec → Rec → Int32 → Int32 → Int32 × Rec} {G4 : Rec → Rec → Rec → Int32 → Int32 → Prop} {Q : Int32 × Rec → Prop}
    (hk : ∀ (a : Rec) (ld' : Nat → Nat), LO g ld' (cnt + 1) (m + 1) → (∀ i, i < cnt + 1 → a.2 0 i = nI (ld' i)) → G4 s p a (nI (cnt + 1)) (nI (m + 1)) ∧ Q (K4 s p a (nI (cnt + 1)) (nI (m + 1)))) :
    ∀ (n at' : Nat) (a : Rec), at' ≤ cnt → at' < n → (∀ i, i < at' → a.2 0 i = nI (ld i)) → (∀ i, at' < i → i ≤ cnt → a.2 0 i = nI (ld (i - 1))) → (∀ i, at' ≤ i → i < cnt → Lt g m (ld i)) → p_X0_listLeaders_26 G4 n s p a (nI cnt) (nI m) (nI at') ∧ Q (f_X0_listLeaders_26 K4 n s p a (nI cnt) (nI m) (nI at')) := by
  have m8 := hm.1
  have c8 := hl.2.2.2
  intro n
  induction n with
  | zero => intro at' a h1 h2; omega
  | succ n ih =>
    intro at' a h1 h2 h3 h4 h5
    rw [f_X0_listLeaders_26, p_X0_listLeaders_26, ni1, ni1]
    have va : vp_in (nI at') 8 := vp_in_nI (by omega) (by omega)
    have fin : (∀ i, i < at' → Lt g (ld i) m) → G4 s p (setA a 0 (upd (a.2 0) (nI at').toNatClampNeg (nI m))) (nI (cnt + 1)) (nI (m + 1)) ∧ Q (K4 s p (setA a 0 (upd (a.2 0) (nI at').toNatClampNeg (nI m))) (nI (cnt + 1)) (nI (m + 1))) := by
      intro hh
      refine hk _ _ (lo_ins hl hm h1 h5 hh) (fun i hi => ?_)
      rw [setA_at, upd_at, nI_clamp (by omega)]
      by_cases c1 : i < at'
      · rw [if_neg (by omega), if_pos c1]; exact h3 i c1
      · rw [if_neg c1]
        by_cases c2 : i = at'
        · rw [if_pos c2, if_pos c2]
        · rw [if_neg c2, if_neg c2]; exact h4 i (by omega) (by omega)
    by_cases c1 : nI at' ≤ 0
    · have z : at' = 0 := by
        have := (nI_leI (a := at') (b := 0) (by omega) (by omega)).mp (by rw [nI_0]; exact c1)
        omega
      rw [if_pos c1]
      obtain ⟨f1, f2⟩ := fin (fun i hi => by omega)
      exact ⟨⟨fun _ => ⟨va, f1⟩, fun z => absurd c1 z⟩, f2⟩
    · have z : at' ≠ 0 := fun z => c1 (by rw [z]; decide)
      obtain ⟨b, hb⟩ : ∃ b, at' = b + 1 := ⟨at' - 1, by omega⟩
      subst hb
      have e1 : nI (b + 1) - Int32.ofInt 1 = nI b := nI_pred b
      have e2 : nI (b + 1) + Int32.ofInt (-1) = nI b := pk_m1 b
      have vb : vp_in (nI b) 8 := vp_in_nI (by omega) (by omega)
      rw [if_neg c1, e1, e2, nI_clamp (n := b) (by omega), h3 b (by omega)]
      obtain ⟨_, hlb⟩ := hl.1 b (by omega)
      obtain ⟨q1, q2⟩ := ahead_eq hP hG hm hlb
      by_cases c2 : f_X0_liesAhead s p (nI m) (nI (ld b)) = 0
      · rw [if_pos c2]
        have nb : ld b ≠ m := by
          have := (hl.1 b (by omega)).1
          omega
        have lt : Lt g (ld b) m := (ld_ne hlb hm nb).resolve_right (q2.mp c2)
        obtain ⟨f1, f2⟩ := fin (fun i hi => by
          by_cases w : i = b
          · rw [w]; exact lt
          · exact lt_tr (hl.2.2.1 i b (by omega) (by omega)) lt)
        exact ⟨⟨fun z => absurd z c1, fun _ => ⟨vb, q1, fun _ => ⟨va, f1⟩, fun z => absurd c2 z⟩⟩, f2⟩
      · rw [if_neg c2]
        have lt : Lt g m (ld b) := Classical.byContradiction fun y => c2 (q2.mpr y)
        obtain ⟨i1, i2⟩ := ih b (setA a 0 (upd (a.2 0) (nI (b + 1)).toNatClampNeg (nI (ld b)))) (by omega) (by omega) (fun i hi => by
          rw [setA_at, upd_at, nI_clamp (by omega), if_neg (by omega)]
          exact h3 i (by omega)) (fun i hi hi2 => by
          rw [setA_at, upd_at, nI_clamp (by omega)]
          by_cases w : i = b + 1
          · rw [if_pos w, w, show b + 1 - 1 = b by omega]
          · rw [if_neg w]; exact h4 i (by omega) hi2) (fun i hi hi2 => by
          by_cases w : i = b
          · rw [w]; exact lt
          · exact h5 i (by omega) hi2)
        exact ⟨⟨fun z => absurd z c1, fun _ => ⟨vb, q1, fun z => absurd z c2, fun _ => ⟨vb, va, i1⟩⟩⟩, i2⟩
theorem ll_all (hP : PR s p g) (hG : GI K g) (a : Rec) : p_X0_listLeaders s p a ∧ ∃ (cnt : Nat) (ld : Nat → Nat), (f_X0_listLeaders s p a).1 = nI cnt ∧ (∀ i, i < cnt → (f_X0_listLeaders s p a).2.2 0 i = nI (ld i)) ∧ LO g ld cnt 8 := by
  have hM := hP.2.2.1
  have n2 : g.2 0 2 = p.1 5 := hM.2.2.1
  obtain ⟨N, hN, eN⟩ := nI_of2 (x := p.1 5) (M := 8) (n := 8) (by decide) (by have := hM.1; grind) hM.2.1
  have lp : ∀ (n m cnt : Nat) (ld : Nat → Nat) (a : Rec), m ≤ N → N < n + m → LO g ld cnt m → (∀ i, i < cnt → a.2 0 i = nI (ld i)) → p_X0_listLeaders_4 n s p a (nI cnt) (nI m) ∧ ∃ (cnt' : Nat) (ld' : Nat → Nat), (f_X0_listLeaders_4 n s p a (nI cnt) (nI m)).1 = nI cnt' ∧ (∀ i, i < cnt' → (f_X0_listLeaders_4 n s p a (nI cnt) (nI m)).2.2 0 i = nI (ld' i)) ∧ LO g ld' cnt' 8 := by
    intro n
    induction n with
    | zero => intro m cnt ld a h1 h2; omega
    | succ n ih =>
      intro m cnt ld a h1 h2 h3 h4
      rw [f_X0_listLeaders_4, p_X0_listLeaders_4]
      by_cases c1 : m = N
      · have l1 : p.1 5 ≤ nI m := by rw [eN, c1]; exact Int32.le_refl _
        rw [if_pos l1]
        refine ⟨⟨fun _ => trivial, fun z => absurd l1 z⟩, cnt, ld, rfl, h4, ?_⟩
        obtain ⟨l1, l2, l3, l4⟩ := h3
        refine ⟨fun i hi => ⟨by have := (l1 i hi).1; omega, (l1 i hi).2⟩, fun v hv hl => ?_, l3, by omega⟩
        refine l2 v ?_ hl
        have := hl.2.1
        rw [n2, eN] at this
        have := (nI_ltI (by omega) (by omega)).mp this
        omega
      · have l1 : ¬ p.1 5 ≤ nI m := by rw [eN]; exact nI_ge (by omega) (by omega)
        have m2 : nI m < g.2 0 2 := by rw [n2, eN]; exact nI_lt (by omega) (by omega)
        rw [if_neg l1, ni1]
        obtain ⟨q1, q2⟩ := leads_eq hP (v := m) (by omega) m2
        by_cases c2 : f_X0_leads s p (nI m) = 0
        · rw [if_pos c2]
          have nl := q2.mp c2
          obtain ⟨l1', l2, l3, l4⟩ := h3
          obtain ⟨i1, i2⟩ := ih (m + 1) cnt ld a (by omega) (by omega) ⟨fun i hi => ⟨by have := (l1' i hi).1; omega, (l1' i hi).2⟩, fun v hv hl => by
            by_cases w : v = m
            · rw [w] at hl; exact absurd hl nl
            · exact l2 v (by omega) hl, l3, by omega⟩ h4
          exact ⟨⟨fun z => absurd z l1, fun _ => ⟨q1, fun _ => i1, fun z => absurd c2 z⟩⟩, i2⟩
        · rw [if_neg c2]
          have yl : Ld g m := Classical.byContradiction fun y => c2 (q2.mpr y)
          obtain ⟨i1, i2⟩ := ll_26 hP hG h3 yl (K4 := f_X0_listLeaders_4 n) (G4 := p_X0_listLeaders_4 n) (Q := fun x => ∃ (cnt' : Nat) (ld' : Nat → Nat), x.1 = nI cnt' ∧ (∀ i, i < cnt' → x.2.2 0 i = nI (ld' i)) ∧ LO g ld' cnt' 8) (fun a' ld' hl' ha' => ih (m + 1) (cnt + 1) ld' a' (by omega) (by omega) hl' ha') 40 cnt a (Nat.le_refl _) (by have := h3.2.2.2; omega) h4 (fun i hi hi2 => by omega) (fun i hi hi2 => by omega)
          exact ⟨⟨fun z => absurd z l1, fun _ => ⟨q1, fun z => absurd z c2, fun _ => i1⟩⟩, i2⟩
  exact lp 40 0 0 (fun _ => 0) a (by omega) (by omega) ⟨fun i hi => by omega, fun v hv => by omega, fun i j _ hj => by omega, by omega⟩ (fun i hi => by omega)
end
