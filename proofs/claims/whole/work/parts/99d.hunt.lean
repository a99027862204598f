/-! layer 3: the class's hunt -/
def jw (j : Nat) : Int32 := nI (j / 2 % 4)
def jd (j : Nat) : Int32 := nI (j % 2 + 1)
theorem jw_e {j : Nat} (h : j < 1000) : f_X0_wayOf (nI j) = jw j := by
  unfold f_X0_wayOf jw
  have e : nI j / Int32.ofInt 2 = nI (j / 2) := pk_div (a := j) (d := 2) (by omega) (by omega) (by omega)
  rw [e]
  exact pk_rem (a := j / 2) (d := 4) (by omega) (by omega) (by omega)
theorem jd_e {j : Nat} (h : j < 1000) : f_X0_farOf (nI j) = jd j := by
  unfold f_X0_farOf jd
  have e : nI j - nI j / Int32.ofInt 2 * Int32.ofInt 2 = nI (j % 2) := pk_rem (a := j) (d := 2) (by omega) (by omega) (by omega)
  rw [e]
  exact ni1 (j % 2)
theorem ok_j (j : Nat) : okS (jw j) (jd j) := by
  refine ⟨nI_pos' (by omega), nI_le (a := j / 2 % 4) (b := 3) (by omega) (by omega), ?_⟩
  unfold jd
  have : j % 2 = 0 ∨ j % 2 = 1 := by omega
  rcases this with h | h
  · rw [h]; exact Or.inl rfl
  · rw [h]; exact Or.inr rfl
def LegJ (g : Rec) (ld : Nat → Nat) (j : Nat) : Prop := Leg g (gx g (ld (j / 8))) (gy g (ld (j / 8))) (jw j) (jd j)
def NxJ (g : Rec) (ld : Nat → Nat) (j : Nat) : Rec := (f_X9_steps g (gx g (ld (j / 8))) (gy g (ld (j / 8))) (jw j) (jd j)).2
/-- each STEP that may be is one of those -/
theorem leg_j {K : Int32} {s p g : Rec} {ld : Nat → Nat} {cnt : Nat} (hP : PR s p g) (hG : GI K g) (hl : LO g ld cnt 8) {x y w d : Int32} (ho : okS w d) (hL : Leg g x y w d) : ∃ j, j < 8 * cnt ∧ x = gx g (ld (j / 8)) ∧ y = gy g (ld (j / 8)) ∧ w = jw j ∧ d = jd j := by
  obtain ⟨r, t, r8, er, r2, rc, ro, _⟩ := sb_all hP hG hL
  have hM := hP.2.2.1
  obtain ⟨_, _, a2, _⟩ := ru_some hM hL.2.1
  rw [er] at a2
  have at' := a2.2
  obtain ⟨_, _, _, m4⟩ := mcell hP r8 r2
  obtain ⟨ic, _⟩ := m4 rc
  have co' : cO g (nI r) = g.2 0 (8 + r) := by
    show g.2 0 (Int32.toNatClampNeg (Int32.ofInt 8 + nI r)) = _
    rw [ix8 (nI_pos' (by omega)) (nI_lt (a := r) (b := 100) (by omega) (by omega)), nI_clamp (by omega)]
  rw [co'] at at'
  have xy : gx g r = x ∧ gy g r = y := by
    unfold f_X9_isAt at at'
    rw [if_neg ic] at at'
    by_cases z1 : g.2 4 (g.2 0 (8 + r)).toNatClampNeg = x
    · rw [if_pos z1] at at'
      by_cases z2 : g.2 5 (g.2 0 (8 + r)).toNatClampNeg = y
      · exact ⟨z1, z2⟩
      · rw [if_neg z2] at at'
        exact absurd rfl at'
    · rw [if_neg z1] at at'
      exact absurd rfl at'
  have hLd : Ld g r := ⟨r8, r2, rc, ro, by rw [xy.1, xy.2]; exact er⟩
  obtain ⟨i, i1, i2⟩ := hl.2.1 r r8 hLd
  obtain ⟨w', hw', ew⟩ := nI_of2 (x := w) (M := 3) (n := 3) (by decide) (by have := ho.1; grind) ho.2.1
  have d12 : ∃ b, b < 2 ∧ d = nI (b + 1) := by
    rcases ho.2.2 with h | h
    · exact ⟨0, by omega, h⟩
    · exact ⟨1, by omega, h⟩
  obtain ⟨b, hb, ed⟩ := d12
  refine ⟨8 * i + 2 * w' + b, by omega, ?_, ?_, ?_, ?_⟩
  · rw [show (8 * i + 2 * w' + b) / 8 = i by omega, i2]; exact xy.1.symm
  · rw [show (8 * i + 2 * w' + b) / 8 = i by omega, i2]; exact xy.2.symm
  · unfold jw
    rw [show (8 * i + 2 * w' + b) / 2 % 4 = w' by omega]; exact ew
  · unfold jd
    rw [show (8 * i + 2 * w' + b) % 2 = b by omega]; exact ed
def HF (N : Nat) (h h' : Rec) : Prop := ∀ x, (x = 100 ∨ (100 + N ≤ x ∧ x < 200) ∨ 200 + N ≤ x) → h'.2 x = h.2 x
theorem HF.r (N : Nat) (h : Rec) : HF N h h := fun _ _ => rfl
theorem HF.t {N : Nat} {a b c : Rec} (h1 : HF N a b) (h2 : HF N b c) : HF N a c := fun x hx => (h2 x hx).trans (h1 x hx)
theorem HF.m {N M : Nat} {a b : Rec} (hn : N ≤ M) (h : HF N a b) : HF M a b := fun x hx => h x (by omega)
/-- put back -/
theorem pb {K K2 : Int32} {s0 p0 sF pF g G : Rec} {row : Nat → Int32} (a : Rec) (hP : PR s0 p0 g) (hG : GI K g) (hPF : PR sF pF G) (hGF : GI K2 G) (hb : ∀ i, (i < 8 ∨ 28 ≤ i) → G.2 0 i = g.2 0 i) (hr : row = (f_X3_save s0 p0 a).2 0) : p_X3_load sF pF ((fun _ => 0, fun _ => row) : Rec) ∧ PR (f_X3_load sF pF ((fun _ => 0, fun _ => row) : Rec)).1 (f_X3_load sF pF ((fun _ => 0, fun _ => row) : Rec)).2 g := by
  obtain ⟨l1, hn, l2, l3⟩ := back (row := ((fun _ => 0, fun _ => row) : Rec)) (m' := g) a hP hG hPF hGF hb hr rfl
  exact ⟨l1, pr_b (g := f_X9_lays g) hn.b.1.symm l3 hG l2⟩
/-- what was tried so far -/
def Tr (g : Rec) (ld : Nat → Nat) (S : Nat → Prop) (v7 : Int32) (j : Nat) : Prop := (v7 = -2 ∧ ∀ i, i < j → ¬ LegJ g ld i) ∨ (v7 = -1 ∧ (∃ i, i < j ∧ LegJ g ld i) ∧ ∀ i, i < j → LegJ g ld i → ¬ S i)
theorem tr_no {g : Rec} {ld : Nat → Nat} {S : Nat → Prop} {v7 : Int32} {j : Nat} (h : Tr g ld S v7 j) (hj : ¬ LegJ g ld j) : Tr g ld S v7 (j + 1) := by
  rcases h with ⟨h1, h2⟩ | ⟨h1, ⟨i, i1, i2⟩, h3⟩
  · refine Or.inl ⟨h1, fun i hi => ?_⟩
    by_cases z : i = j
    · rw [z]; exact hj
    · exact h2 i (by omega)
  · refine Or.inr ⟨h1, ⟨i, by omega, i2⟩, fun i hi => ?_⟩
    by_cases z : i = j
    · rw [z]; exact fun y => absurd y hj
    · exact h3 i (by omega)
theorem tr_yes {g : Rec} {ld : Nat → Nat} {S : Nat → Prop} {v7 : Int32} {j : Nat} (h : Tr g ld S v7 j) (hj : LegJ g ld j) (hs : ¬ S j) : Tr g ld S (Int32.ofInt (-1)) (j + 1) := by
  refine Or.inr ⟨rfl, ⟨j, by omega, hj⟩, fun i hi hl => ?_⟩
  by_cases z : i = j
  · rw [z]; exact hs
  · rcases h with ⟨_, h2⟩ | ⟨_, _, h3⟩
    · exact absurd hl (h2 i (by omega))
    · exact h3 i (by omega) hl
/-- what a first STEP is -/
def FsR (g : Rec) (ld : Nat → Nat) (cnt : Nat) (S : Nat → Prop) (r : Int32) : Prop := (r = -2 ∧ ∀ i, i < 8 * cnt → ¬ LegJ g ld i) ∨ (r = -1 ∧ (∃ i, i < 8 * cnt ∧ LegJ g ld i) ∧ ∀ i, i < 8 * cnt → LegJ g ld i → ¬ S i) ∨ ∃ j, j < 8 * cnt ∧ r = nI j ∧ LegJ g ld j ∧ S j ∧ ∀ i, i < j → LegJ g ld i → ¬ S i
def Sat (me wt : Int32) (n : Nat) (g : Rec) (ld : Nat → Nat) (j : Nat) : Prop := wt = 1 ↔ Vw me n (NxJ g ld j)
theorem sat_n {me wt v : Int32} {n : Nat} {g : Rec} {ld : Nat → Nat} {j : Nat} (hw : wt = 0 ∨ wt = 1) (hv : v = 1 ∨ v = 0) (h : v = 1 ↔ Vw me n (NxJ g ld j)) : v = wt ↔ Sat me wt n g ld j := by
  unfold Sat
  rw [← h]
  rcases hw with rfl | rfl
  · rcases hv with rfl | rfl <;> decide
  · rcases hv with rfl | rfl <;> decide
theorem nomen {me : Int32} (hme : me = 0 ∨ me = 1) : ∀ (n : Nat) (K : Int32) (s p g : Rec), K < 900000 - Int32.ofNat n → n ≤ 10 → PR s p g → GI K g → cm g me = 0 → ¬ Vw me n g := by
  intro n
  induction n with
  | zero =>
    intro K s p g _ _ hP hG h0 h
    have := ((won_me hP hG hme).mp h).2.1
    omega
  | succ n ih =>
    intro K s p g hK hn hP hG h0 h
    have nn : Int32.ofNat (n + 1) = Int32.ofNat n + 1 := nI_succ n
    have n0 : 0 ≤ Int32.ofNat n := nI_pos' (n := n) (by omega)
    have n10 : Int32.ofNat n ≤ 10 := nI_le (a := n) (b := 10) (by omega) (by omega)
    rw [nn] at hK
    have hK1 : K < 1000000 := by clear ih; grind
    have hK2 : K + 1 < 900000 - Int32.ofNat n := by clear ih; grind
    obtain ⟨_, a2, a3, a4, a5⟩ := se_ok zr hP hG
    obtain ⟨sc, st, sw⟩ := se_cm hP hG
    rcases h with h | ⟨h1, ⟨h2, x, y, w, d, h3, h4, h5⟩ | ⟨h2, ⟨x, y, w, d, h3, h4⟩, h5⟩⟩
    · have := ((won_me hP hG hme).mp h).2.1
      omega
    · have := (cm_set a2 a3 hK1 h4 h3.1 h3.2.1 h3.2.2).1
      rw [st, h2, sc] at this
      omega
    · have c := (cm_set a2 a3 hK1 h4 h3.1 h3.2.1 h3.2.2).2
      obtain ⟨_, _, _, _, _, c6, c7, _⟩ := step_sim a2 a3 hK1 h4 h3.1 h3.2.1 h3.2.2
      refine ih (K + 1) _ _ _ hK2 (by omega) c6 c7 ?_ (h5 x y w d h3 h4)
      rcases c with c | ⟨q, q1, q2, q3⟩
      · rw [c, sc]; exact h0
      · by_cases z : me = q
        · rw [← z, sc] at q2
          omega
        · rw [q3 me z, sc]; exact h0
theorem cbt {m k : Nat} (hm : m ≤ 8) (hk : k ≤ 8) : f_X0_canBeTaken (nI m) (nI k) = 0 ↔ ¬ (0 < m ∧ m ≤ k) := by
  unfold f_X0_canBeTaken
  have a := nI_leI (a := m) (b := 0) (by omega) (by omega)
  rw [nI_0] at a
  have b := nI_ltI (a := k) (b := m) (by omega) (by omega)
  by_cases c1 : nI m ≤ 0
  · rw [if_pos c1]
    have := a.mp c1
    exact ⟨fun _ => by omega, fun _ => rfl⟩
  · rw [if_neg c1]
    have a' : ¬ m ≤ 0 := fun y => c1 (a.mpr y)
    by_cases c2 : nI k < nI m
    · rw [if_pos c2]
      have := b.mp c2
      exact ⟨fun _ => by omega, fun _ => rfl⟩
    · rw [if_neg c2]
      have : ¬ k < m := fun y => c2 (b.mpr y)
      exact ⟨fun z => absurd z (by decide), fun z => by omega⟩
/-- a game played on: what it leaves -/
def On (K : Int32) (g : Rec) (s p : Rec) : Prop := ∃ g' : Rec, PR s p g' ∧ GI K g' ∧ ∀ i, (i < 8 ∨ 28 ≤ i) → g'.2 0 i = g.2 0 i
theorem on_m {K K' : Int32} {g s p : Rec} (h : K ≤ K') (ho : On K g s p) : On K' g s p := by
  obtain ⟨g', h1, h2, h3⟩ := ho
  have h2' := h2
  obtain ⟨_, _, d27, d26, _, _, hany, _, _, hdis⟩ := h2
  exact ⟨g', h1, gi_move h2' (fun _ _ _ => rfl) (fun _ _ => rfl) d27 ⟨d26.1, Int32.le_trans d26.2 h⟩ hany hdis, h3⟩
/-- how many are asked for, from what a first STEP is -/
theorem fs_mine {K me : Int32} {s p g g1 : Rec} {ld : Nat → Nat} {cnt n : Nat} {r : Int32} (hP : PR s p g1) (hG : GI K g1) (hl : LO g1 ld cnt 8) (h : FsR g1 ld cnt (Sat me 1 n g1 ld) r) : r < 0 ↔ ¬ ∃ x y w d, okS w d ∧ Leg g1 x y w d ∧ Vw me n (f_X9_steps g1 x y w d).2 := by
  have conv : ∀ i, Sat me 1 n g1 ld i ↔ Vw me n (NxJ g1 ld i) := fun i => ⟨fun z => z.mp rfl, fun z => ⟨fun _ => z, fun _ => rfl⟩⟩
  have cnt8 := hl.2.2.2
  rcases h with ⟨h1, h2⟩ | ⟨h1, _, h3⟩ | ⟨j, j1, j2, j3, j4, _⟩
  · rw [h1]
    refine ⟨fun _ => ?_, fun _ => by decide⟩
    rintro ⟨x, y, w, d, z1, z2, z3⟩
    obtain ⟨j, j1, rfl, rfl, rfl, rfl⟩ := leg_j hP hG hl z1 z2
    exact h2 j j1 z2
  · rw [h1]
    refine ⟨fun _ => ?_, fun _ => by decide⟩
    rintro ⟨x, y, w, d, z1, z2, z3⟩
    obtain ⟨j, j1, rfl, rfl, rfl, rfl⟩ := leg_j hP hG hl z1 z2
    exact h3 j j1 z2 ((conv j).mpr z3)
  · rw [j2]
    refine ⟨fun z => absurd z (nI_pos (by omega)), fun z => absurd ⟨_, _, _, _, ok_j j, j3, (conv j).mp j4⟩ z⟩
theorem fs_theirs {K me : Int32} {s p g1 : Rec} {ld : Nat → Nat} {cnt n : Nat} {r : Int32} (hP : PR s p g1) (hG : GI K g1) (hl : LO g1 ld cnt 8) (h : FsR g1 ld cnt (Sat me 0 n g1 ld) r) : r = -1 ↔ ((∃ x y w d, okS w d ∧ Leg g1 x y w d) ∧ ∀ x y w d, okS w d → Leg g1 x y w d → Vw me n (f_X9_steps g1 x y w d).2) := by
  have conv : ∀ i, Sat me 0 n g1 ld i ↔ ¬ Vw me n (NxJ g1 ld i) := fun i => ⟨fun z y => absurd (z.mpr y) (by decide), fun z => ⟨fun y => absurd y (by decide), fun y => absurd y z⟩⟩
  have cnt8 := hl.2.2.2
  rcases h with ⟨h1, h2⟩ | ⟨h1, ⟨i, i1, i2⟩, h3⟩ | ⟨j, j1, j2, j3, j4, _⟩
  · rw [h1]
    refine ⟨fun z => absurd z (by decide), fun z => ?_⟩
    obtain ⟨⟨x, y, w, d, z1, z2⟩, _⟩ := z
    obtain ⟨j, j1, rfl, rfl, rfl, rfl⟩ := leg_j hP hG hl z1 z2
    exact absurd z2 (h2 j j1)
  · rw [h1]
    refine ⟨fun _ => ⟨⟨_, _, _, _, ok_j i, i2⟩, fun x y w d z1 z2 => ?_⟩, fun _ => rfl⟩
    obtain ⟨j, j1, rfl, rfl, rfl, rfl⟩ := leg_j hP hG hl z1 z2
    exact Classical.byContradiction fun q => h3 j j1 z2 ((conv j).mpr q)
  · rw [j2]
    refine ⟨fun z => ?_, fun z => absurd (z.2 _ _ _ _ (ok_j j) j3) ((conv j).mp j4)⟩
    have := nI_pos' (n := j) (by omega)
    rw [z] at this
    exact absurd this (by decide)
theorem won_3 {K me : Int32} {s p g : Rec} (hP : PR s p g) (hG : GI K g) (hme : me = 0 ∨ me = 1) (h : ¬ f_X9_won g = me) : f_X9_won g = -1 ∨ cm g me = 0 := by
  rcases (wo_eq hP hG).2.2.2 with z | z | z
  · exact Or.inl z
  · rcases hme with rfl | rfl
    · exact absurd z h
    · have := ((won_me hP hG (Or.inl rfl)).mp z).2.2
      exact Or.inr this
  · rcases hme with rfl | rfl
    · have := ((won_me hP hG (Or.inr rfl)).mp z).2.2
      exact Or.inr this
    · exact absurd z h
/-- from what is asked to who is sure -/
theorem v_mine {K me : Int32} {s p g : Rec} {n : Nat} (hP : PR s p g) (hG : GI K g) (hK : K < 800010) (hn : n ≤ 5) (hme : me = 0 ∨ me = 1) (hw : ¬ f_X9_won g = me) (ht : f_X9_turn g = me) : Vw me (n + 1) g ↔ ∃ x y w d, okS w d ∧ Leg (f_X9_settles g) x y w d ∧ Vw me n (f_X9_steps (f_X9_settles g) x y w d).2 := by
  constructor
  · rintro (h | ⟨_, ⟨_, h⟩ | ⟨h, _⟩⟩)
    · exact absurd h hw
    · exact h
    · exact absurd ht h
  · rintro ⟨x, y, w, d, z1, z2, z3⟩
    rcases won_3 hP hG hme hw with z | z
    · exact Or.inr ⟨z, Or.inl ⟨ht, x, y, w, d, z1, z2, z3⟩⟩
    · exfalso
      obtain ⟨_, a2, a3, a4, a5⟩ := se_ok zr hP hG
      obtain ⟨sc, st, sw⟩ := se_cm hP hG
      have := (cm_set a2 a3 (by grind) z2 z1.1 z1.2.1 z1.2.2).1
      rw [st, ht, sc] at this
      omega
theorem v_theirs {K me : Int32} {s p g : Rec} {n : Nat} (hP : PR s p g) (hG : GI K g) (hK : K < 800010) (hn : n ≤ 5) (hme : me = 0 ∨ me = 1) (hw : ¬ f_X9_won g = me) (ht : ¬ f_X9_turn g = me) : Vw me (n + 1) g ↔ ((∃ x y w d, okS w d ∧ Leg (f_X9_settles g) x y w d) ∧ ∀ x y w d, okS w d → Leg (f_X9_settles g) x y w d → Vw me n (f_X9_steps (f_X9_settles g) x y w d).2) := by
  constructor
  · rintro (h | ⟨_, ⟨h, _⟩ | ⟨_, h⟩⟩)
    · exact absurd h hw
    · exact absurd h ht
    · exact h
  · rintro ⟨⟨x, y, w, d, z1, z2⟩, z3⟩
    rcases won_3 hP hG hme hw with z | z
    · exact Or.inr ⟨z, Or.inr ⟨ht, ⟨x, y, w, d, z1, z2⟩, z3⟩⟩
    · exfalso
      obtain ⟨_, a2, a3, a4, a5⟩ := se_ok zr hP hG
      obtain ⟨sc, st, sw⟩ := se_cm hP hG
      have c := (cm_set a2 a3 (by grind) z2 z1.1 z1.2.1 z1.2.2).2
      obtain ⟨_, _, _, _, _, c6, c7, _⟩ := step_sim a2 a3 (by grind) z2 z1.1 z1.2.1 z1.2.2
      have n0 : 0 ≤ Int32.ofNat n := nI_pos' (n := n) (by omega)
      have n10 : Int32.ofNat n ≤ 5 := nI_le (a := n) (b := 5) (by omega) (by omega)
      refine nomen hme n (K + 1) _ _ _ (by grind) (by omega) c6 c7 ?_ (z3 x y w d z1 z2)
      rcases c with c | ⟨q, q1, q2, q3⟩
      · rw [c, sc]; exact z
      · by_cases y' : me = q
        · rw [← y', sc] at q2
          omega
        · rw [q3 me y', sc]; exact z
theorem z1n : ¬ Int32.ofInt 0 = 1 := by decide
theorem isf_0 {K me : Int32} {s p g : Rec} (o h : Rec) (hP : PR s p g) (hG : GI K g) (hme : me = 0 ∨ me = 1) : p_X0_isForced_c0 o h s p me ∧ ((f_X0_isForced_c0 o h s p me).1 = 1 ∨ (f_X0_isForced_c0 o h s p me).1 = 0) ∧ ((f_X0_isForced_c0 o h s p me).1 = 1 ↔ Vw me 0 g) ∧ On K g (f_X0_isForced_c0 o h s p me).2.2.1 (f_X0_isForced_c0 o h s p me).2.2.2 := by
  obtain ⟨w1, _, w3, _⟩ := wo_eq hP hG
  have pm := pp_menOf s hP.2.2.1
  have mn := mf_n hP (Int32.ofInt 1 - me)
  have c8 := cm_8 g (Int32.ofInt 1 - me)
  have cb : f_X0_canBeTaken (f_X3_menOf s p (Int32.ofInt 1 - me)) (Int32.ofInt 0) = 0 := by
    rw [mn]
    exact (cbt (k := 0) c8 (by omega)).mpr (by omega)
  unfold p_X0_isForced_c0 f_X0_isForced_c0
  rw [cb, w3]
  have on : On K g s p := ⟨g, hP, hG, fun _ _ => rfl⟩
  by_cases c1 : f_X9_won g = me
  · rw [if_pos c1]
    exact ⟨⟨w1, fun _ => trivial, fun z => absurd c1 z⟩, Or.inl rfl, ⟨fun _ => c1, fun _ => rfl⟩, on⟩
  · rw [if_neg c1, if_pos rfl, if_pos rfl]
    refine ⟨⟨w1, fun z => absurd z c1, fun _ => ⟨fun _ => ⟨pm _, fun _ => trivial, fun z => absurd rfl z⟩, fun _ => ⟨pm _, fun _ => trivial, fun z => absurd rfl z⟩⟩⟩, ?_⟩
    by_cases c2 : f_X3_onTurn s p = me
    · rw [if_pos c2]
      exact ⟨Or.inr rfl, ⟨fun z => absurd z z1n, fun z => absurd z c1⟩, on⟩
    · rw [if_neg c2]
      exact ⟨Or.inr rfl, ⟨fun z => absurd z z1n, fun z => absurd z c1⟩, on⟩
theorem fs_1l {K me wt : Int32} {s0 p0 g a0 : Rec} {ld : Nat → Nat} {cnt : Nat} (hK : K < 800009) (hG : GI K g) (hP0 : PR s0 p0 g) (hl : LO g ld cnt 8) (hme : me = 0 ∨ me = 1) (hw : wt = 0 ∨ wt = 1) : ∀ (n j : Nat) (o h s p : Rec) (v7 : Int32), j ≤ 8 * cnt → 8 * cnt < n + j → PR s p g → h.2 101 = (f_X3_save s0 p0 a0).2 0 → (∀ i, i < cnt → h.2 201 i = nI (ld i)) → Tr g ld (Sat me wt 0 g ld) v7 j →
    p_X0_firstStep_c1_48 n o h s p me wt (nI (8 * cnt)) v7 (nI j) ∧ FsR g ld cnt (Sat me wt 0 g ld) (f_X0_firstStep_c1_48 n o h s p me wt (nI (8 * cnt)) v7 (nI j)).1 ∧ PR (f_X0_firstStep_c1_48 n o h s p me wt (nI (8 * cnt)) v7 (nI j)).2.2.2.1 (f_X0_firstStep_c1_48 n o h s p me wt (nI (8 * cnt)) v7 (nI j)).2.2.2.2 g ∧ HF 1 h (f_X0_firstStep_c1_48 n o h s p me wt (nI (8 * cnt)) v7 (nI j)).2.2.1 := by
  have cnt8 := hl.2.2.2
  intro n
  induction n with
  | zero => intro j o h s p v7 h1 h2; omega
  | succ n ih =>
    intro j o h s p v7 hj hn hP hr hld hT
    rw [f_X0_firstStep_c1_48, p_X0_firstStep_c1_48, ni1]
    by_cases c1 : 8 * cnt ≤ j
    · have l1 : nI (8 * cnt) ≤ nI j := nI_le c1 (by omega)
      have ej : j = 8 * cnt := by omega
      rw [if_pos l1]
      refine ⟨⟨fun _ => trivial, fun z => absurd l1 z⟩, ?_, hP, HF.r 1 h⟩
      rw [ej] at hT
      rcases hT with z | z
      · exact Or.inl z
      · exact Or.inr (Or.inl z)
    · have l1 : ¬ nI (8 * cnt) ≤ nI j := nI_ge (by omega) (by omega)
      have e8 : nI j / Int32.ofInt 8 = nI (j / 8) := pk_div (a := j) (d := 8) (by omega) (by omega) (by omega)
      obtain ⟨v8, hv⟩ := hl.1 (j / 8) (by omega)
      obtain ⟨m1, _, _, m4⟩ := mcell hP hv.1 hv.2.1
      obtain ⟨m5, m6, m7, m8, m9⟩ := m4 hv.2.2.1
      rw [if_neg l1, e8, nI_clamp (n := j / 8) (by omega), hld (j / 8) (by omega), nI_clamp (n := ld (j / 8)) (by omega), m6, m7, jw_e (by omega), jd_e (by omega), if_neg m9]
      have w1 : vp_in (nI (j / 8)) 8 := vp_in_nI (by omega) (by omega)
      have w2 : vp_in (nI (ld (j / 8))) 8 := vp_in_nI v8 (by omega)
      have okj := ok_j j
      have gl := goal_leg hP (x := gx g (ld (j / 8))) (y := gy g (ld (j / 8))) okj.1 okj.2.1 okj.2.2
      have hK1 : K < 1000000 := by clear ih; grind
      have lg := leg_goal (x := gx g (ld (j / 8))) (y := gy g (ld (j / 8))) hP hG hK1 okj
      by_cases c2 : f_X3_goalOf s p (gx g (ld (j / 8))) (gy g (ld (j / 8))) (jw j) (jd j) = Int32.ofInt (-1)
      · rw [if_pos c2]
        have nl : ¬ LegJ g ld j := fun z => lg.mp z c2
        obtain ⟨i1, i2⟩ := ih (j + 1) o h s p v7 (by omega) (by omega) hP hr hld (tr_no hT nl)
        exact ⟨⟨fun z => absurd z l1, fun _ => ⟨w1, w2, pl_has .., fun z => absurd z m9, fun _ => ⟨m8, m8, gl.1, fun _ => i1, fun z => absurd c2 z⟩⟩⟩, i2⟩
      · rw [if_neg c2]
        have yl : LegJ g ld j := lg.mpr c2
        obtain ⟨_, _, _, c4, _, c6, c7, c8⟩ := step_sim hP hG hK1 yl okj.1 okj.2.1 okj.2.2
        rw [hv.2.2.2.2] at c4 c6
        obtain ⟨u1, u2, u3, u5⟩ := isf_0 o h c6 c7 hme
        obtain ⟨F, hF⟩ : ∃ z, z = (f_X0_isForced_c0 o h ((f_X3_carry s p (nI (ld (j / 8))) (f_X3_goalOf s p (gx g (ld (j / 8))) (gy g (ld (j / 8))) (jw j) (jd j))).2.1) ((f_X3_carry s p (nI (ld (j / 8))) (f_X3_goalOf s p (gx g (ld (j / 8))) (gy g (ld (j / 8))) (jw j) (jd j))).2.2) me) := ⟨_, rfl⟩
        rw [← hF] at u2 u3 u5 ⊢
        obtain ⟨g', x1, x2, x3⟩ := u5
        obtain ⟨L1, L2⟩ := pb (row := h.2 101) a0 hP0 hG x1 x2 (fun i hi => by rw [x3 i hi]; exact c8.2.2 i hi) (by exact hr)
        obtain ⟨L, hL⟩ : ∃ z, z = f_X3_load F.2.2.1 F.2.2.2 ((fun _ => 0, fun _ => (h.2 101)) : Rec) := ⟨_, rfl⟩
        rw [← hL] at L2 ⊢
        have sa := sat_n hw u2 (ld := ld) (j := j) u3
        by_cases c5 : F.1 = wt
        · rw [if_pos c5]
          refine ⟨⟨fun z => absurd z l1, fun _ => ⟨w1, w2, pl_has .., fun z => absurd z m9, fun _ => ⟨m8, m8, gl.1, fun z => absurd z c2, fun _ => ⟨c4, u1, L1, fun _ => trivial, fun z => absurd c5 z⟩⟩⟩⟩, ?_, L2, HF.r 1 h⟩
          refine Or.inr (Or.inr ⟨j, by omega, rfl, yl, sa.mp c5, fun i hi hli => ?_⟩)
          rcases hT with ⟨_, z⟩ | ⟨_, _, z⟩
          · exact absurd hli (z i hi)
          · exact z i hi hli
        · rw [if_neg c5]
          obtain ⟨i1, i2, i3, i4⟩ := ih (j + 1) F.2.1 h L.1 L.2 (Int32.ofInt (-1)) (by omega) (by omega) L2 (by exact hr) (fun i hi => by exact hld i hi) (tr_yes hT yl (fun z => c5 (sa.mpr z)))
          exact ⟨⟨fun z => absurd z l1, fun _ => ⟨w1, w2, pl_has .., fun z => absurd z m9, fun _ => ⟨m8, m8, gl.1, fun z => absurd z c2, fun _ => ⟨c4, u1, L1, fun z => absurd z c5, fun _ => i1⟩⟩⟩⟩, i2, i3, i4⟩
theorem fs_1 {K me wt : Int32} {s p g : Rec} (o h : Rec) (hK : K < 800009) (hP : PR s p g) (hG : GI K g) (hme : me = 0 ∨ me = 1) (hw : wt = 0 ∨ wt = 1) : p_X0_firstStep_c1 o h s p me wt ∧ ∃ (ld : Nat → Nat) (cnt : Nat), LO g ld cnt 8 ∧ FsR g ld cnt (Sat me wt 0 g ld) (f_X0_firstStep_c1 o h s p me wt).1 ∧ PR (f_X0_firstStep_c1 o h s p me wt).2.2.2.1 (f_X0_firstStep_c1 o h s p me wt).2.2.2.2 g ∧ HF 2 h (f_X0_firstStep_c1 o h s p me wt).2.2.1 ∧ ∀ i, i < cnt → (f_X0_firstStep_c1 o h s p me wt).2.2.1.2 201 i = nI (ld i) := by
  obtain ⟨l1, cnt, ld, l2, l3, l4⟩ := ll_all hP hG ((fun _ => 0, fun _ => (h.2 201)) : Rec)
  obtain ⟨LL, hLL⟩ : ∃ z, z = f_X0_listLeaders s p ((fun _ => 0, fun _ => (h.2 201)) : Rec) := ⟨_, rfl⟩
  rw [← hLL] at l2 l3
  have e8 : Int32.ofInt 8 * LL.1 = nI (8 * cnt) := by rw [l2]; exact pk_mul 8 cnt
  have cnt8 := l4.2.2.2
  obtain ⟨h1, hh1⟩ : ∃ z, z = setA (setA h 101 ((f_X3_save s p ((fun _ => 0, fun _ => (h.2 101)) : Rec)).2 0)) 201 (LL.2.2 0) := ⟨_, rfl⟩
  have r1 : h1.2 101 = (f_X3_save s p ((fun _ => 0, fun _ => (h.2 101)) : Rec)).2 0 := by rw [hh1, setA_ne (by decide), setA_at]
  have r2 : h1.2 201 = LL.2.2 0 := by rw [hh1, setA_at]
  have r3 : HF 2 h h1 := fun x hx => by rw [hh1, setA_ne (by omega), setA_ne (by omega)]
  obtain ⟨a1, a2, a3, a4⟩ := fs_1l (me := me) (wt := wt) hK hG hP l4 hme hw 4000000000 0 o h1 s p (Int32.ofInt (-2)) (by omega) (by omega) hP r1 (fun i hi => by rw [r2]; exact l3 i hi) (Or.inl ⟨rfl, fun i hi => by omega⟩)
  unfold p_X0_firstStep_c1 f_X0_firstStep_c1
  rw [← hLL, e8, ← hh1]
  refine ⟨⟨l1, sv_ok _ hP hG, a1⟩, ld, cnt, l4, a2, a3, r3.t (a4.m (by omega)), fun i hi => ?_⟩
  have e : (f_X0_firstStep_c1_48 4000000000 o h1 s p me wt (nI (8 * cnt)) (Int32.ofInt (-2)) (nI 0)).2.2.1.2 201 = h1.2 201 := a4 201 (by omega)
  have e' : (f_X0_firstStep_c1_48 4000000000 o h1 s p me wt (nI (8 * cnt)) (Int32.ofInt (-2)) (Int32.ofInt 0)).2.2.1.2 201 = h1.2 201 := e
  rw [e', r2]
  exact l3 i hi
def fn_1 (h : Rec) (me v4 : Int32) (x : Rec × Rec × Rec) : Int32 × Rec × Rec × Rec × Rec := if v4 = 0 then (if (f_X0_firstStep_c1 x.1 h x.2.1 x.2.2 me (Int32.ofInt 0)).1 = Int32.ofInt (-1) then (Int32.ofInt 1, (f_X0_firstStep_c1 x.1 h x.2.1 x.2.2 me (Int32.ofInt 0)).2) else (Int32.ofInt 0, (f_X0_firstStep_c1 x.1 h x.2.1 x.2.2 me (Int32.ofInt 0)).2)) else (if (f_X0_firstStep_c1 x.1 h x.2.1 x.2.2 me (Int32.ofInt 1)).1 < 0 then (Int32.ofInt 0, (f_X0_firstStep_c1 x.1 h x.2.1 x.2.2 me (Int32.ofInt 1)).2) else (Int32.ofInt 1, (f_X0_firstStep_c1 x.1 h x.2.1 x.2.2 me (Int32.ofInt 1)).2))
theorem f59_1 {K : Int32} (h : Rec) (me v4 : Int32) : ∀ (k n : Nat) (o s p g : Rec), PR s p g → GI K g → (g.2 0 27).toNatClampNeg ≤ k → k ≤ 3 → k < n → ((v4 = 0 → p_X0_firstStep_c1 (stC k o s p).1 h (stC k o s p).2.1 (stC k o s p).2.2 me (Int32.ofInt 0) ∧ True) ∧ (¬ v4 = 0 → p_X0_firstStep_c1 (stC k o s p).1 h (stC k o s p).2.1 (stC k o s p).2.2 me (Int32.ofInt 1) ∧ True)) →
    p_X0_isForced_c1_59 n o h s p me v4 (nI (3 - k)) ∧ f_X0_isForced_c1_59 n o h s p me v4 (nI (3 - k)) = fn_1 h me v4 (stC k o s p) := by
  intro k
  induction k with
  | zero =>
    intro n o s p g hP hG hd hk hn hp
    obtain ⟨n, rfl⟩ : ∃ z, n = z + 1 := ⟨n - 1, by omega⟩
    have l3 : Int32.ofInt 3 ≤ nI (3 - 0) := by decide
    rw [f_X0_isForced_c1_59, p_X0_isForced_c1_59, if_pos l3]
    exact ⟨⟨fun _ => hp, fun z => absurd l3 z⟩, by unfold fn_1; rfl⟩
  | succ k ih =>
    intro n o s p g hP hG hd hk hn hp
    obtain ⟨n, rfl⟩ : ∃ z, n = z + 1 := ⟨n - 1, by omega⟩
    have l3 : ¬ Int32.ofInt 3 ≤ nI (3 - (k + 1)) := nI_ge (a := 3 - (k + 1)) (b := 3) (by omega) (by omega)
    have p7 : p.1 7 = g.2 0 27 := hP.2.2.2.2.1.2.1
    rw [f_X0_isForced_c1_59, p_X0_isForced_c1_59, if_neg l3, ni1, show 3 - (k + 1) + 1 = 3 - k by omega]
    rw [stC] at hp ⊢
    obtain ⟨d0, d3⟩ := due_b hG
    by_cases c : g.2 0 27 = 0
    · have z' : p.1 7 ≤ 0 := by rw [p7, c]; decide
      rw [if_pos z'] at hp ⊢
      rw [if_pos z']
      exact ⟨⟨fun z => absurd z l3, fun _ => ⟨fun _ => hp, fun z => absurd z' z⟩⟩, by unfold fn_1; rfl⟩
    · have z' : ¬ p.1 7 ≤ 0 := by rw [p7]; clear ih; grind
      rw [if_neg z'] at hp ⊢
      rw [if_neg z']
      obtain ⟨_, _, _, a4, a5, a6, a7, _, a9⟩ := se_1 o hP hG c
      obtain ⟨e0, e3⟩ := due_b a7
      have lt : ((se1 g).2 0 27).toNatClampNeg ≤ k := by
        have x1 := Int32.lt_iff_toInt_lt.mp a9
        have x2 := n32_0.mp e0
        have y1 : ((se1 g).2 0 27).toNatClampNeg = ((se1 g).2 0 27).toInt.toNat := rfl
        have y2 : (g.2 0 27).toNatClampNeg = (g.2 0 27).toInt.toNat := rfl
        omega
      obtain ⟨i1, i2⟩ := ih n (f_X1_habitOf o s p).2 (seC o s p).1 (seC o s p).2 (se1 g) a6 a7 lt (by omega) (by omega) hp
      have sc : seC o s p = f_X3_creaseDue s p (f_X4_choiceAxis s (f_X1_habitOf o s p).1) (f_X4_choiceLine s (f_X1_habitOf o s p).1) (f_X4_choiceWay s (f_X1_habitOf o s p).1) := by unfold seC; rfl
      rw [← sc]
      exact ⟨⟨fun z => absurd z l3, fun _ => ⟨fun z => absurd z z', fun _ => ⟨a4, a5, i1⟩⟩⟩, i2⟩
theorem isf_1 {K me : Int32} {s p g : Rec} (o h : Rec) (hP : PR s p g) (hG : GI K g) (hK : K < 800009) (hme : me = 0 ∨ me = 1) : p_X0_isForced_c1 o h s p me ∧ ((f_X0_isForced_c1 o h s p me).1 = 1 ∨ (f_X0_isForced_c1 o h s p me).1 = 0) ∧ ((f_X0_isForced_c1 o h s p me).1 = 1 ↔ Vw me 1 g) ∧ On K g (f_X0_isForced_c1 o h s p me).2.2.2.1 (f_X0_isForced_c1 o h s p me).2.2.2.2 ∧ HF 2 h (f_X0_isForced_c1 o h s p me).2.2.1 := by
  obtain ⟨w1, _, w3, _⟩ := wo_eq hP hG
  have tu := tu_eq hP
  have pm := pp_menOf s hP.2.2.1
  have mn := mf_n hP (Int32.ofInt 1 - me)
  have c8 := cm_8 g (Int32.ofInt 1 - me)
  have on : On K g s p := ⟨g, hP, hG, fun _ _ => rfl⟩
  obtain ⟨_, t2, t3, t4, t5⟩ := se_ok o hP hG
  obtain ⟨d0, d3⟩ := due_b hG
  have pr := prune hme 1 K s p g (by show K < 900000 - 1; grind) (by omega) hP hG
  -- what is asked, once settled
  have ask : ∀ wt : Int32, (wt = 0 ∨ wt = 1) → p_X0_firstStep_c1 (stC 3 o s p).1 h (stC 3 o s p).2.1 (stC 3 o s p).2.2 me wt ∧ ∃ (ld : Nat → Nat) (cnt : Nat), LO (f_X9_settles g) ld cnt 8 ∧ FsR (f_X9_settles g) ld cnt (Sat me wt 0 (f_X9_settles g) ld) (f_X0_firstStep_c1 (stC 3 o s p).1 h (stC 3 o s p).2.1 (stC 3 o s p).2.2 me wt).1 ∧ PR (f_X0_firstStep_c1 (stC 3 o s p).1 h (stC 3 o s p).2.1 (stC 3 o s p).2.2 me wt).2.2.2.1 (f_X0_firstStep_c1 (stC 3 o s p).1 h (stC 3 o s p).2.1 (stC 3 o s p).2.2 me wt).2.2.2.2 (f_X9_settles g) ∧ HF 2 h (f_X0_firstStep_c1 (stC 3 o s p).1 h (stC 3 o s p).2.1 (stC 3 o s p).2.2 me wt).2.2.1 := by
    intro wt hw
    obtain ⟨b1, ld, cnt, b2, b3, b4, b5, _⟩ := fs_1 (stC 3 o s p).1 h hK t2 t3 hme hw
    exact ⟨b1, ld, cnt, b2, b3, b4, b5⟩
  have onS : ∀ s' p', PR s' p' (f_X9_settles g) → On K g s' p' := fun s' p' hp => ⟨_, hp, t3, fun i hi => t4.2.2 i (by omega)⟩
  have oz : Int32.ofInt 1 - me = 1 - me := rfl
  unfold p_X0_isForced_c1 f_X0_isForced_c1
  rw [w3, tu, mn]
  by_cases c1 : f_X9_won g = me
  · rw [if_pos c1]
    exact ⟨⟨w1, fun _ => trivial, fun z => absurd c1 z⟩, Or.inl rfl, ⟨fun _ => Or.inl c1, fun _ => rfl⟩, on, HF.r _ h⟩
  · rw [if_neg c1]
    by_cases c2 : f_X9_turn g = me
    · rw [if_pos c2]
      by_cases c3 : f_X0_canBeTaken (nI (cm g (Int32.ofInt 1 - me))) (Int32.ofInt 1) = 0
      · rw [if_pos c3]
        have nb := (cbt (k := 1) c8 (by omega)).mp c3
        refine ⟨⟨w1, fun z => absurd z c1, fun _ => ⟨fun _ => ⟨pm _, fun _ => trivial, fun z => absurd c3 z⟩, fun z => absurd c2 z⟩⟩, Or.inr rfl, ⟨fun z => absurd z z1n, fun z => ?_⟩, on, HF.r _ h⟩
        have q := pr z c1
        rw [if_pos c2] at q
        exact absurd ⟨q.1, q.2⟩ nb
      · rw [if_neg c3]
        obtain ⟨b1, ld, cnt, b2, b3, b4, b5⟩ := ask (Int32.ofInt 1) (Or.inr rfl)
        obtain ⟨q1, q2⟩ := f59_1 h me (Int32.ofInt 1) 3 4000000000 o s p g hP hG (cl_le (n := 3) d0 d3) (by omega) (by omega) ⟨fun z => absurd z (by decide), fun _ => ⟨b1, trivial⟩⟩
        have q2' : f_X0_isForced_c1_59 4000000000 o h s p me (Int32.ofInt 1) (Int32.ofInt 0) = fn_1 h me (Int32.ofInt 1) (stC 3 o s p) := q2
        rw [q2']
        refine ⟨⟨w1, fun z => absurd z c1, fun _ => ⟨fun _ => ⟨pm _, fun z => absurd z c3, fun _ => q1⟩, fun z => absurd c2 z⟩⟩, ?_⟩
        unfold fn_1
        rw [if_neg (show ¬ Int32.ofInt 1 = 0 by decide)]
        have fm := fs_mine (g := g) t2 t3 b2 b3
        have vm := v_mine hP hG (by grind) (by omega : 0 ≤ 5) hme c1 c2
        by_cases c4 : (f_X0_firstStep_c1 (stC 3 o s p).1 h (stC 3 o s p).2.1 (stC 3 o s p).2.2 me (Int32.ofInt 1)).1 < 0
        · rw [if_pos c4]
          exact ⟨Or.inr rfl, ⟨fun z => absurd z z1n, fun z => absurd (vm.mp z) (fm.mp c4)⟩, onS _ _ b4, b5⟩
        · rw [if_neg c4]
          exact ⟨Or.inl rfl, ⟨fun _ => vm.mpr (Classical.byContradiction fun z => c4 (fm.mpr z)), fun _ => rfl⟩, onS _ _ b4, b5⟩
    · rw [if_neg c2]
      by_cases c3 : f_X0_canBeTaken (nI (cm g (Int32.ofInt 1 - me))) (Int32.ofInt 0) = 0
      · rw [if_pos c3]
        have nb := (cbt (k := 0) c8 (by omega)).mp c3
        refine ⟨⟨w1, fun z => absurd z c1, fun _ => ⟨fun z => absurd z c2, fun _ => ⟨pm _, fun _ => trivial, fun z => absurd c3 z⟩⟩⟩, Or.inr rfl, ⟨fun z => absurd z z1n, fun z => ?_⟩, on, HF.r _ h⟩
        have q := pr z c1
        rw [if_neg c2] at q
        exact absurd ⟨q.1, q.2⟩ nb
      · rw [if_neg c3]
        obtain ⟨b1, ld, cnt, b2, b3, b4, b5⟩ := ask (Int32.ofInt 0) (Or.inl rfl)
        obtain ⟨q1, q2⟩ := f59_1 h me (Int32.ofInt 0) 3 4000000000 o s p g hP hG (cl_le (n := 3) d0 d3) (by omega) (by omega) ⟨fun _ => ⟨b1, trivial⟩, fun z => absurd rfl z⟩
        have q2' : f_X0_isForced_c1_59 4000000000 o h s p me (Int32.ofInt 0) (Int32.ofInt 0) = fn_1 h me (Int32.ofInt 0) (stC 3 o s p) := q2
        rw [q2']
        refine ⟨⟨w1, fun z => absurd z c1, fun _ => ⟨fun z => absurd z c2, fun _ => ⟨pm _, fun z => absurd z c3, fun _ => q1⟩⟩⟩, ?_⟩
        unfold fn_1
        rw [if_pos (show Int32.ofInt 0 = 0 from rfl)]
        have fm := fs_theirs t2 t3 b2 b3
        have vm := v_theirs hP hG (by grind) (by omega : 0 ≤ 5) hme c1 c2
        by_cases c4 : (f_X0_firstStep_c1 (stC 3 o s p).1 h (stC 3 o s p).2.1 (stC 3 o s p).2.2 me (Int32.ofInt 0)).1 = Int32.ofInt (-1)
        · rw [if_pos c4]
          exact ⟨Or.inl rfl, ⟨fun _ => vm.mpr (fm.mp c4), fun _ => rfl⟩, onS _ _ b4, b5⟩
        · rw [if_neg c4]
          exact ⟨Or.inr rfl, ⟨fun z => absurd z z1n, fun z => absurd (fm.mpr (vm.mp z)) c4⟩, onS _ _ b4, b5⟩
theorem fs_2l {K me wt : Int32} {s0 p0 g a0 : Rec} {ld : Nat → Nat} {cnt : Nat} (hK : K < 800008) (hG : GI K g) (hP0 : PR s0 p0 g) (hl : LO g ld cnt 8) (hme : me = 0 ∨ me = 1) (hw : wt = 0 ∨ wt = 1) : ∀ (n j : Nat) (o h s p : Rec) (v7 : Int32), j ≤ 8 * cnt → 8 * cnt < n + j → PR s p g → h.2 102 = (f_X3_save s0 p0 a0).2 0 → (∀ i, i < cnt → h.2 202 i = nI (ld i)) → Tr g ld (Sat me wt 1 g ld) v7 j →
    p_X0_firstStep_c2_48 n o h s p me wt (nI (8 * cnt)) v7 (nI j) ∧ FsR g ld cnt (Sat me wt 1 g ld) (f_X0_firstStep_c2_48 n o h s p me wt (nI (8 * cnt)) v7 (nI j)).1 ∧ PR (f_X0_firstStep_c2_48 n o h s p me wt (nI (8 * cnt)) v7 (nI j)).2.2.2.1 (f_X0_firstStep_c2_48 n o h s p me wt (nI (8 * cnt)) v7 (nI j)).2.2.2.2 g ∧ HF 2 h (f_X0_firstStep_c2_48 n o h s p me wt (nI (8 * cnt)) v7 (nI j)).2.2.1 := by
  have cnt8 := hl.2.2.2
  intro n
  induction n with
  | zero => intro j o h s p v7 h1 h2; omega
  | succ n ih =>
    intro j o h s p v7 hj hn hP hr hld hT
    rw [f_X0_firstStep_c2_48, p_X0_firstStep_c2_48, ni1]
    by_cases c1 : 8 * cnt ≤ j
    · have l1 : nI (8 * cnt) ≤ nI j := nI_le c1 (by omega)
      have ej : j = 8 * cnt := by omega
      rw [if_pos l1]
      refine ⟨⟨fun _ => trivial, fun z => absurd l1 z⟩, ?_, hP, HF.r 2 h⟩
      rw [ej] at hT
      rcases hT with z | z
      · exact Or.inl z
      · exact Or.inr (Or.inl z)
    · have l1 : ¬ nI (8 * cnt) ≤ nI j := nI_ge (by omega) (by omega)
      have e8 : nI j / Int32.ofInt 8 = nI (j / 8) := pk_div (a := j) (d := 8) (by omega) (by omega) (by omega)
      obtain ⟨v8, hv⟩ := hl.1 (j / 8) (by omega)
      obtain ⟨m1, _, _, m4⟩ := mcell hP hv.1 hv.2.1
      obtain ⟨m5, m6, m7, m8, m9⟩ := m4 hv.2.2.1
      rw [if_neg l1, e8, nI_clamp (n := j / 8) (by omega), hld (j / 8) (by omega), nI_clamp (n := ld (j / 8)) (by omega), m6, m7, jw_e (by omega), jd_e (by omega), if_neg m9]
      have w1 : vp_in (nI (j / 8)) 8 := vp_in_nI (by omega) (by omega)
      have w2 : vp_in (nI (ld (j / 8))) 8 := vp_in_nI v8 (by omega)
      have okj := ok_j j
      have gl := goal_leg hP (x := gx g (ld (j / 8))) (y := gy g (ld (j / 8))) okj.1 okj.2.1 okj.2.2
      have hK1 : K < 1000000 := by clear ih; grind
      have lg := leg_goal (x := gx g (ld (j / 8))) (y := gy g (ld (j / 8))) hP hG hK1 okj
      by_cases c2 : f_X3_goalOf s p (gx g (ld (j / 8))) (gy g (ld (j / 8))) (jw j) (jd j) = Int32.ofInt (-1)
      · rw [if_pos c2]
        have nl : ¬ LegJ g ld j := fun z => lg.mp z c2
        obtain ⟨i1, i2⟩ := ih (j + 1) o h s p v7 (by omega) (by omega) hP hr hld (tr_no hT nl)
        exact ⟨⟨fun z => absurd z l1, fun _ => ⟨w1, w2, pl_has .., fun z => absurd z m9, fun _ => ⟨m8, m8, gl.1, fun _ => i1, fun z => absurd c2 z⟩⟩⟩, i2⟩
      · rw [if_neg c2]
        have yl : LegJ g ld j := lg.mpr c2
        obtain ⟨_, _, _, c4, _, c6, c7, c8⟩ := step_sim hP hG hK1 yl okj.1 okj.2.1 okj.2.2
        rw [hv.2.2.2.2] at c4 c6
        obtain ⟨u1, u2, u3, u5, u6⟩ := isf_1 o h c6 c7 (by have := hK; grind) hme
        obtain ⟨F, hF⟩ : ∃ z, z = (f_X0_isForced_c1 o h ((f_X3_carry s p (nI (ld (j / 8))) (f_X3_goalOf s p (gx g (ld (j / 8))) (gy g (ld (j / 8))) (jw j) (jd j))).2.1) ((f_X3_carry s p (nI (ld (j / 8))) (f_X3_goalOf s p (gx g (ld (j / 8))) (gy g (ld (j / 8))) (jw j) (jd j))).2.2) me) := ⟨_, rfl⟩
        rw [← hF] at u2 u3 u5 u6 ⊢
        obtain ⟨g', x1, x2, x3⟩ := u5
        obtain ⟨L1, L2⟩ := pb (row := F.2.2.1.2 102) a0 hP0 hG x1 x2 (fun i hi => by rw [x3 i hi]; exact c8.2.2 i hi) (by rw [u6 102 (by omega)]; exact hr)
        obtain ⟨L, hL⟩ : ∃ z, z = f_X3_load F.2.2.2.1 F.2.2.2.2 ((fun _ => 0, fun _ => (F.2.2.1.2 102)) : Rec) := ⟨_, rfl⟩
        rw [← hL] at L2 ⊢
        have sa := sat_n hw u2 (ld := ld) (j := j) u3
        by_cases c5 : F.1 = wt
        · rw [if_pos c5]
          refine ⟨⟨fun z => absurd z l1, fun _ => ⟨w1, w2, pl_has .., fun z => absurd z m9, fun _ => ⟨m8, m8, gl.1, fun z => absurd z c2, fun _ => ⟨c4, u1, L1, fun _ => trivial, fun z => absurd c5 z⟩⟩⟩⟩, ?_, L2, u6⟩
          refine Or.inr (Or.inr ⟨j, by omega, rfl, yl, sa.mp c5, fun i hi hli => ?_⟩)
          rcases hT with ⟨_, z⟩ | ⟨_, _, z⟩
          · exact absurd hli (z i hi)
          · exact z i hi hli
        · rw [if_neg c5]
          obtain ⟨i1, i2, i3, i4⟩ := ih (j + 1) F.2.1 F.2.2.1 L.1 L.2 (Int32.ofInt (-1)) (by omega) (by omega) L2 (by rw [u6 102 (by omega)]; exact hr) (fun i hi => by rw [u6 202 (by omega)]; exact hld i hi) (tr_yes hT yl (fun z => c5 (sa.mpr z)))
          exact ⟨⟨fun z => absurd z l1, fun _ => ⟨w1, w2, pl_has .., fun z => absurd z m9, fun _ => ⟨m8, m8, gl.1, fun z => absurd z c2, fun _ => ⟨c4, u1, L1, fun z => absurd z c5, fun _ => i1⟩⟩⟩⟩, i2, i3, u6.t i4⟩
theorem fs_2 {K me wt : Int32} {s p g : Rec} (o h : Rec) (hK : K < 800008) (hP : PR s p g) (hG : GI K g) (hme : me = 0 ∨ me = 1) (hw : wt = 0 ∨ wt = 1) : p_X0_firstStep_c2 o h s p me wt ∧ ∃ (ld : Nat → Nat) (cnt : Nat), LO g ld cnt 8 ∧ FsR g ld cnt (Sat me wt 1 g ld) (f_X0_firstStep_c2 o h s p me wt).1 ∧ PR (f_X0_firstStep_c2 o h s p me wt).2.2.2.1 (f_X0_firstStep_c2 o h s p me wt).2.2.2.2 g ∧ HF 3 h (f_X0_firstStep_c2 o h s p me wt).2.2.1 ∧ ∀ i, i < cnt → (f_X0_firstStep_c2 o h s p me wt).2.2.1.2 202 i = nI (ld i) := by
  obtain ⟨l1, cnt, ld, l2, l3, l4⟩ := ll_all hP hG ((fun _ => 0, fun _ => (h.2 202)) : Rec)
  obtain ⟨LL, hLL⟩ : ∃ z, z = f_X0_listLeaders s p ((fun _ => 0, fun _ => (h.2 202)) : Rec) := ⟨_, rfl⟩
  rw [← hLL] at l2 l3
  have e8 : Int32.ofInt 8 * LL.1 = nI (8 * cnt) := by rw [l2]; exact pk_mul 8 cnt
  have cnt8 := l4.2.2.2
  obtain ⟨h1, hh1⟩ : ∃ z, z = setA (setA h 102 ((f_X3_save s p ((fun _ => 0, fun _ => (h.2 102)) : Rec)).2 0)) 202 (LL.2.2 0) := ⟨_, rfl⟩
  have r1 : h1.2 102 = (f_X3_save s p ((fun _ => 0, fun _ => (h.2 102)) : Rec)).2 0 := by rw [hh1, setA_ne (by decide), setA_at]
  have r2 : h1.2 202 = LL.2.2 0 := by rw [hh1, setA_at]
  have r3 : HF 3 h h1 := fun x hx => by rw [hh1, setA_ne (by omega), setA_ne (by omega)]
  obtain ⟨a1, a2, a3, a4⟩ := fs_2l (me := me) (wt := wt) hK hG hP l4 hme hw 4000000000 0 o h1 s p (Int32.ofInt (-2)) (by omega) (by omega) hP r1 (fun i hi => by rw [r2]; exact l3 i hi) (Or.inl ⟨rfl, fun i hi => by omega⟩)
  unfold p_X0_firstStep_c2 f_X0_firstStep_c2
  rw [← hLL, e8, ← hh1]
  refine ⟨⟨l1, sv_ok _ hP hG, a1⟩, ld, cnt, l4, a2, a3, r3.t (a4.m (by omega)), fun i hi => ?_⟩
  have e : (f_X0_firstStep_c2_48 4000000000 o h1 s p me wt (nI (8 * cnt)) (Int32.ofInt (-2)) (nI 0)).2.2.1.2 202 = h1.2 202 := a4 202 (by omega)
  have e' : (f_X0_firstStep_c2_48 4000000000 o h1 s p me wt (nI (8 * cnt)) (Int32.ofInt (-2)) (Int32.ofInt 0)).2.2.1.2 202 = h1.2 202 := e
  rw [e', r2]
  exact l3 i hi
def fn_2 (h : Rec) (me v4 : Int32) (x : Rec × Rec × Rec) : Int32 × Rec × Rec × Rec × Rec := if v4 = 0 then (if (f_X0_firstStep_c2 x.1 h x.2.1 x.2.2 me (Int32.ofInt 0)).1 = Int32.ofInt (-1) then (Int32.ofInt 1, (f_X0_firstStep_c2 x.1 h x.2.1 x.2.2 me (Int32.ofInt 0)).2) else (Int32.ofInt 0, (f_X0_firstStep_c2 x.1 h x.2.1 x.2.2 me (Int32.ofInt 0)).2)) else (if (f_X0_firstStep_c2 x.1 h x.2.1 x.2.2 me (Int32.ofInt 1)).1 < 0 then (Int32.ofInt 0, (f_X0_firstStep_c2 x.1 h x.2.1 x.2.2 me (Int32.ofInt 1)).2) else (Int32.ofInt 1, (f_X0_firstStep_c2 x.1 h x.2.1 x.2.2 me (Int32.ofInt 1)).2))
theorem f59_2 {K : Int32} (h : Rec) (me v4 : Int32) : ∀ (k n : Nat) (o s p g : Rec), PR s p g → GI K g → (g.2 0 27).toNatClampNeg ≤ k → k ≤ 3 → k < n → ((v4 = 0 → p_X0_firstStep_c2 (stC k o s p).1 h (stC k o s p).2.1 (stC k o s p).2.2 me (Int32.ofInt 0) ∧ True) ∧ (¬ v4 = 0 → p_X0_firstStep_c2 (stC k o s p).1 h (stC k o s p).2.1 (stC k o s p).2.2 me (Int32.ofInt 1) ∧ True)) →
    p_X0_isForced_c2_59 n o h s p me v4 (nI (3 - k)) ∧ f_X0_isForced_c2_59 n o h s p me v4 (nI (3 - k)) = fn_2 h me v4 (stC k o s p) := by
  intro k
  induction k with
  | zero =>
    intro n o s p g hP hG hd hk hn hp
    obtain ⟨n, rfl⟩ : ∃ z, n = z + 1 := ⟨n - 1, by omega⟩
    have l3 : Int32.ofInt 3 ≤ nI (3 - 0) := by decide
    rw [f_X0_isForced_c2_59, p_X0_isForced_c2_59, if_pos l3]
    exact ⟨⟨fun _ => hp, fun z => absurd l3 z⟩, by unfold fn_2; rfl⟩
  | succ k ih =>
    intro n o s p g hP hG hd hk hn hp
    obtain ⟨n, rfl⟩ : ∃ z, n = z + 1 := ⟨n - 1, by omega⟩
    have l3 : ¬ Int32.ofInt 3 ≤ nI (3 - (k + 1)) := nI_ge (a := 3 - (k + 1)) (b := 3) (by omega) (by omega)
    have p7 : p.1 7 = g.2 0 27 := hP.2.2.2.2.1.2.1
    rw [f_X0_isForced_c2_59, p_X0_isForced_c2_59, if_neg l3, ni1, show 3 - (k + 1) + 1 = 3 - k by omega]
    rw [stC] at hp ⊢
    obtain ⟨d0, d3⟩ := due_b hG
    by_cases c : g.2 0 27 = 0
    · have z' : p.1 7 ≤ 0 := by rw [p7, c]; decide
      rw [if_pos z'] at hp ⊢
      rw [if_pos z']
      exact ⟨⟨fun z => absurd z l3, fun _ => ⟨fun _ => hp, fun z => absurd z' z⟩⟩, by unfold fn_2; rfl⟩
    · have z' : ¬ p.1 7 ≤ 0 := by rw [p7]; clear ih; grind
      rw [if_neg z'] at hp ⊢
      rw [if_neg z']
      obtain ⟨_, _, _, a4, a5, a6, a7, _, a9⟩ := se_1 o hP hG c
      obtain ⟨e0, e3⟩ := due_b a7
      have lt : ((se1 g).2 0 27).toNatClampNeg ≤ k := by
        have x1 := Int32.lt_iff_toInt_lt.mp a9
        have x2 := n32_0.mp e0
        have y1 : ((se1 g).2 0 27).toNatClampNeg = ((se1 g).2 0 27).toInt.toNat := rfl
        have y2 : (g.2 0 27).toNatClampNeg = (g.2 0 27).toInt.toNat := rfl
        omega
      obtain ⟨i1, i2⟩ := ih n (f_X1_habitOf o s p).2 (seC o s p).1 (seC o s p).2 (se1 g) a6 a7 lt (by omega) (by omega) hp
      have sc : seC o s p = f_X3_creaseDue s p (f_X4_choiceAxis s (f_X1_habitOf o s p).1) (f_X4_choiceLine s (f_X1_habitOf o s p).1) (f_X4_choiceWay s (f_X1_habitOf o s p).1) := by unfold seC; rfl
      rw [← sc]
      exact ⟨⟨fun z => absurd z l3, fun _ => ⟨fun z => absurd z z', fun _ => ⟨a4, a5, i1⟩⟩⟩, i2⟩
theorem isf_2 {K me : Int32} {s p g : Rec} (o h : Rec) (hP : PR s p g) (hG : GI K g) (hK : K < 800008) (hme : me = 0 ∨ me = 1) : p_X0_isForced_c2 o h s p me ∧ ((f_X0_isForced_c2 o h s p me).1 = 1 ∨ (f_X0_isForced_c2 o h s p me).1 = 0) ∧ ((f_X0_isForced_c2 o h s p me).1 = 1 ↔ Vw me 2 g) ∧ On K g (f_X0_isForced_c2 o h s p me).2.2.2.1 (f_X0_isForced_c2 o h s p me).2.2.2.2 ∧ HF 3 h (f_X0_isForced_c2 o h s p me).2.2.1 := by
  obtain ⟨w1, _, w3, _⟩ := wo_eq hP hG
  have tu := tu_eq hP
  have pm := pp_menOf s hP.2.2.1
  have mn := mf_n hP (Int32.ofInt 1 - me)
  have c8 := cm_8 g (Int32.ofInt 1 - me)
  have on : On K g s p := ⟨g, hP, hG, fun _ _ => rfl⟩
  obtain ⟨_, t2, t3, t4, t5⟩ := se_ok o hP hG
  obtain ⟨d0, d3⟩ := due_b hG
  have pr := prune hme 2 K s p g (by show K < 900000 - 2; grind) (by omega) hP hG
  -- what is asked, once settled
  have ask : ∀ wt : Int32, (wt = 0 ∨ wt = 1) → p_X0_firstStep_c2 (stC 3 o s p).1 h (stC 3 o s p).2.1 (stC 3 o s p).2.2 me wt ∧ ∃ (ld : Nat → Nat) (cnt : Nat), LO (f_X9_settles g) ld cnt 8 ∧ FsR (f_X9_settles g) ld cnt (Sat me wt 1 (f_X9_settles g) ld) (f_X0_firstStep_c2 (stC 3 o s p).1 h (stC 3 o s p).2.1 (stC 3 o s p).2.2 me wt).1 ∧ PR (f_X0_firstStep_c2 (stC 3 o s p).1 h (stC 3 o s p).2.1 (stC 3 o s p).2.2 me wt).2.2.2.1 (f_X0_firstStep_c2 (stC 3 o s p).1 h (stC 3 o s p).2.1 (stC 3 o s p).2.2 me wt).2.2.2.2 (f_X9_settles g) ∧ HF 3 h (f_X0_firstStep_c2 (stC 3 o s p).1 h (stC 3 o s p).2.1 (stC 3 o s p).2.2 me wt).2.2.1 := by
    intro wt hw
    obtain ⟨b1, ld, cnt, b2, b3, b4, b5, _⟩ := fs_2 (stC 3 o s p).1 h hK t2 t3 hme hw
    exact ⟨b1, ld, cnt, b2, b3, b4, b5⟩
  have onS : ∀ s' p', PR s' p' (f_X9_settles g) → On K g s' p' := fun s' p' hp => ⟨_, hp, t3, fun i hi => t4.2.2 i (by omega)⟩
  have oz : Int32.ofInt 1 - me = 1 - me := rfl
  unfold p_X0_isForced_c2 f_X0_isForced_c2
  rw [w3, tu, mn]
  by_cases c1 : f_X9_won g = me
  · rw [if_pos c1]
    exact ⟨⟨w1, fun _ => trivial, fun z => absurd c1 z⟩, Or.inl rfl, ⟨fun _ => Or.inl c1, fun _ => rfl⟩, on, HF.r _ h⟩
  · rw [if_neg c1]
    by_cases c2 : f_X9_turn g = me
    · rw [if_pos c2]
      by_cases c3 : f_X0_canBeTaken (nI (cm g (Int32.ofInt 1 - me))) (Int32.ofInt 1) = 0
      · rw [if_pos c3]
        have nb := (cbt (k := 1) c8 (by omega)).mp c3
        refine ⟨⟨w1, fun z => absurd z c1, fun _ => ⟨fun _ => ⟨pm _, fun _ => trivial, fun z => absurd c3 z⟩, fun z => absurd c2 z⟩⟩, Or.inr rfl, ⟨fun z => absurd z z1n, fun z => ?_⟩, on, HF.r _ h⟩
        have q := pr z c1
        rw [if_pos c2] at q
        exact absurd ⟨q.1, q.2⟩ nb
      · rw [if_neg c3]
        obtain ⟨b1, ld, cnt, b2, b3, b4, b5⟩ := ask (Int32.ofInt 1) (Or.inr rfl)
        obtain ⟨q1, q2⟩ := f59_2 h me (Int32.ofInt 1) 3 4000000000 o s p g hP hG (cl_le (n := 3) d0 d3) (by omega) (by omega) ⟨fun z => absurd z (by decide), fun _ => ⟨b1, trivial⟩⟩
        have q2' : f_X0_isForced_c2_59 4000000000 o h s p me (Int32.ofInt 1) (Int32.ofInt 0) = fn_2 h me (Int32.ofInt 1) (stC 3 o s p) := q2
        rw [q2']
        refine ⟨⟨w1, fun z => absurd z c1, fun _ => ⟨fun _ => ⟨pm _, fun z => absurd z c3, fun _ => q1⟩, fun z => absurd c2 z⟩⟩, ?_⟩
        unfold fn_2
        rw [if_neg (show ¬ Int32.ofInt 1 = 0 by decide)]
        have fm := fs_mine (g := g) t2 t3 b2 b3
        have vm := v_mine hP hG (by grind) (by omega : 1 ≤ 5) hme c1 c2
        by_cases c4 : (f_X0_firstStep_c2 (stC 3 o s p).1 h (stC 3 o s p).2.1 (stC 3 o s p).2.2 me (Int32.ofInt 1)).1 < 0
        · rw [if_pos c4]
          exact ⟨Or.inr rfl, ⟨fun z => absurd z z1n, fun z => absurd (vm.mp z) (fm.mp c4)⟩, onS _ _ b4, b5⟩
        · rw [if_neg c4]
          exact ⟨Or.inl rfl, ⟨fun _ => vm.mpr (Classical.byContradiction fun z => c4 (fm.mpr z)), fun _ => rfl⟩, onS _ _ b4, b5⟩
    · rw [if_neg c2]
      by_cases c3 : f_X0_canBeTaken (nI (cm g (Int32.ofInt 1 - me))) (Int32.ofInt 1) = 0
      · rw [if_pos c3]
        have nb := (cbt (k := 1) c8 (by omega)).mp c3
        refine ⟨⟨w1, fun z => absurd z c1, fun _ => ⟨fun z => absurd z c2, fun _ => ⟨pm _, fun _ => trivial, fun z => absurd c3 z⟩⟩⟩, Or.inr rfl, ⟨fun z => absurd z z1n, fun z => ?_⟩, on, HF.r _ h⟩
        have q := pr z c1
        rw [if_neg c2] at q
        exact absurd ⟨q.1, q.2⟩ nb
      · rw [if_neg c3]
        obtain ⟨b1, ld, cnt, b2, b3, b4, b5⟩ := ask (Int32.ofInt 0) (Or.inl rfl)
        obtain ⟨q1, q2⟩ := f59_2 h me (Int32.ofInt 0) 3 4000000000 o s p g hP hG (cl_le (n := 3) d0 d3) (by omega) (by omega) ⟨fun _ => ⟨b1, trivial⟩, fun z => absurd rfl z⟩
        have q2' : f_X0_isForced_c2_59 4000000000 o h s p me (Int32.ofInt 0) (Int32.ofInt 0) = fn_2 h me (Int32.ofInt 0) (stC 3 o s p) := q2
        rw [q2']
        refine ⟨⟨w1, fun z => absurd z c1, fun _ => ⟨fun z => absurd z c2, fun _ => ⟨pm _, fun z => absurd z c3, fun _ => q1⟩⟩⟩, ?_⟩
        unfold fn_2
        rw [if_pos (show Int32.ofInt 0 = 0 from rfl)]
        have fm := fs_theirs t2 t3 b2 b3
        have vm := v_theirs hP hG (by grind) (by omega : 1 ≤ 5) hme c1 c2
        by_cases c4 : (f_X0_firstStep_c2 (stC 3 o s p).1 h (stC 3 o s p).2.1 (stC 3 o s p).2.2 me (Int32.ofInt 0)).1 = Int32.ofInt (-1)
        · rw [if_pos c4]
          exact ⟨Or.inl rfl, ⟨fun _ => vm.mpr (fm.mp c4), fun _ => rfl⟩, onS _ _ b4, b5⟩
        · rw [if_neg c4]
          exact ⟨Or.inr rfl, ⟨fun z => absurd z z1n, fun z => absurd (fm.mpr (vm.mp z)) c4⟩, onS _ _ b4, b5⟩
theorem fs_3l {K me wt : Int32} {s0 p0 g a0 : Rec} {ld : Nat → Nat} {cnt : Nat} (hK : K < 800007) (hG : GI K g) (hP0 : PR s0 p0 g) (hl : LO g ld cnt 8) (hme : me = 0 ∨ me = 1) (hw : wt = 0 ∨ wt = 1) : ∀ (n j : Nat) (o h s p : Rec) (v7 : Int32), j ≤ 8 * cnt → 8 * cnt < n + j → PR s p g → h.2 103 = (f_X3_save s0 p0 a0).2 0 → (∀ i, i < cnt → h.2 203 i = nI (ld i)) → Tr g ld (Sat me wt 2 g ld) v7 j →
    p_X0_firstStep_c3_48 n o h s p me wt (nI (8 * cnt)) v7 (nI j) ∧ FsR g ld cnt (Sat me wt 2 g ld) (f_X0_firstStep_c3_48 n o h s p me wt (nI (8 * cnt)) v7 (nI j)).1 ∧ PR (f_X0_firstStep_c3_48 n o h s p me wt (nI (8 * cnt)) v7 (nI j)).2.2.2.1 (f_X0_firstStep_c3_48 n o h s p me wt (nI (8 * cnt)) v7 (nI j)).2.2.2.2 g ∧ HF 3 h (f_X0_firstStep_c3_48 n o h s p me wt (nI (8 * cnt)) v7 (nI j)).2.2.1 := by
  have cnt8 := hl.2.2.2
  intro n
  induction n with
  | zero => intro j o h s p v7 h1 h2; omega
  | succ n ih =>
    intro j o h s p v7 hj hn hP hr hld hT
    rw [f_X0_firstStep_c3_48, p_X0_firstStep_c3_48, ni1]
    by_cases c1 : 8 * cnt ≤ j
    · have l1 : nI (8 * cnt) ≤ nI j := nI_le c1 (by omega)
      have ej : j = 8 * cnt := by omega
      rw [if_pos l1]
      refine ⟨⟨fun _ => trivial, fun z => absurd l1 z⟩, ?_, hP, HF.r 3 h⟩
      rw [ej] at hT
      rcases hT with z | z
      · exact Or.inl z
      · exact Or.inr (Or.inl z)
    · have l1 : ¬ nI (8 * cnt) ≤ nI j := nI_ge (by omega) (by omega)
      have e8 : nI j / Int32.ofInt 8 = nI (j / 8) := pk_div (a := j) (d := 8) (by omega) (by omega) (by omega)
      obtain ⟨v8, hv⟩ := hl.1 (j / 8) (by omega)
      obtain ⟨m1, _, _, m4⟩ := mcell hP hv.1 hv.2.1
      obtain ⟨m5, m6, m7, m8, m9⟩ := m4 hv.2.2.1
      rw [if_neg l1, e8, nI_clamp (n := j / 8) (by omega), hld (j / 8) (by omega), nI_clamp (n := ld (j / 8)) (by omega), m6, m7, jw_e (by omega), jd_e (by omega), if_neg m9]
      have w1 : vp_in (nI (j / 8)) 8 := vp_in_nI (by omega) (by omega)
      have w2 : vp_in (nI (ld (j / 8))) 8 := vp_in_nI v8 (by omega)
      have okj := ok_j j
      have gl := goal_leg hP (x := gx g (ld (j / 8))) (y := gy g (ld (j / 8))) okj.1 okj.2.1 okj.2.2
      have hK1 : K < 1000000 := by clear ih; grind
      have lg := leg_goal (x := gx g (ld (j / 8))) (y := gy g (ld (j / 8))) hP hG hK1 okj
      by_cases c2 : f_X3_goalOf s p (gx g (ld (j / 8))) (gy g (ld (j / 8))) (jw j) (jd j) = Int32.ofInt (-1)
      · rw [if_pos c2]
        have nl : ¬ LegJ g ld j := fun z => lg.mp z c2
        obtain ⟨i1, i2⟩ := ih (j + 1) o h s p v7 (by omega) (by omega) hP hr hld (tr_no hT nl)
        exact ⟨⟨fun z => absurd z l1, fun _ => ⟨w1, w2, pl_has .., fun z => absurd z m9, fun _ => ⟨m8, m8, gl.1, fun _ => i1, fun z => absurd c2 z⟩⟩⟩, i2⟩
      · rw [if_neg c2]
        have yl : LegJ g ld j := lg.mpr c2
        obtain ⟨_, _, _, c4, _, c6, c7, c8⟩ := step_sim hP hG hK1 yl okj.1 okj.2.1 okj.2.2
        rw [hv.2.2.2.2] at c4 c6
        obtain ⟨u1, u2, u3, u5, u6⟩ := isf_2 o h c6 c7 (by have := hK; grind) hme
        obtain ⟨F, hF⟩ : ∃ z, z = (f_X0_isForced_c2 o h ((f_X3_carry s p (nI (ld (j / 8))) (f_X3_goalOf s p (gx g (ld (j / 8))) (gy g (ld (j / 8))) (jw j) (jd j))).2.1) ((f_X3_carry s p (nI (ld (j / 8))) (f_X3_goalOf s p (gx g (ld (j / 8))) (gy g (ld (j / 8))) (jw j) (jd j))).2.2) me) := ⟨_, rfl⟩
        rw [← hF] at u2 u3 u5 u6 ⊢
        obtain ⟨g', x1, x2, x3⟩ := u5
        obtain ⟨L1, L2⟩ := pb (row := F.2.2.1.2 103) a0 hP0 hG x1 x2 (fun i hi => by rw [x3 i hi]; exact c8.2.2 i hi) (by rw [u6 103 (by omega)]; exact hr)
        obtain ⟨L, hL⟩ : ∃ z, z = f_X3_load F.2.2.2.1 F.2.2.2.2 ((fun _ => 0, fun _ => (F.2.2.1.2 103)) : Rec) := ⟨_, rfl⟩
        rw [← hL] at L2 ⊢
        have sa := sat_n hw u2 (ld := ld) (j := j) u3
        by_cases c5 : F.1 = wt
        · rw [if_pos c5]
          refine ⟨⟨fun z => absurd z l1, fun _ => ⟨w1, w2, pl_has .., fun z => absurd z m9, fun _ => ⟨m8, m8, gl.1, fun z => absurd z c2, fun _ => ⟨c4, u1, L1, fun _ => trivial, fun z => absurd c5 z⟩⟩⟩⟩, ?_, L2, u6⟩
          refine Or.inr (Or.inr ⟨j, by omega, rfl, yl, sa.mp c5, fun i hi hli => ?_⟩)
          rcases hT with ⟨_, z⟩ | ⟨_, _, z⟩
          · exact absurd hli (z i hi)
          · exact z i hi hli
        · rw [if_neg c5]
          obtain ⟨i1, i2, i3, i4⟩ := ih (j + 1) F.2.1 F.2.2.1 L.1 L.2 (Int32.ofInt (-1)) (by omega) (by omega) L2 (by rw [u6 103 (by omega)]; exact hr) (fun i hi => by rw [u6 203 (by omega)]; exact hld i hi) (tr_yes hT yl (fun z => c5 (sa.mpr z)))
          exact ⟨⟨fun z => absurd z l1, fun _ => ⟨w1, w2, pl_has .., fun z => absurd z m9, fun _ => ⟨m8, m8, gl.1, fun z => absurd z c2, fun _ => ⟨c4, u1, L1, fun z => absurd z c5, fun _ => i1⟩⟩⟩⟩, i2, i3, u6.t i4⟩
theorem fs_3 {K me wt : Int32} {s p g : Rec} (o h : Rec) (hK : K < 800007) (hP : PR s p g) (hG : GI K g) (hme : me = 0 ∨ me = 1) (hw : wt = 0 ∨ wt = 1) : p_X0_firstStep_c3 o h s p me wt ∧ ∃ (ld : Nat → Nat) (cnt : Nat), LO g ld cnt 8 ∧ FsR g ld cnt (Sat me wt 2 g ld) (f_X0_firstStep_c3 o h s p me wt).1 ∧ PR (f_X0_firstStep_c3 o h s p me wt).2.2.2.1 (f_X0_firstStep_c3 o h s p me wt).2.2.2.2 g ∧ HF 4 h (f_X0_firstStep_c3 o h s p me wt).2.2.1 ∧ ∀ i, i < cnt → (f_X0_firstStep_c3 o h s p me wt).2.2.1.2 203 i = nI (ld i) := by
  obtain ⟨l1, cnt, ld, l2, l3, l4⟩ := ll_all hP hG ((fun _ => 0, fun _ => (h.2 203)) : Rec)
  obtain ⟨LL, hLL⟩ : ∃ z, z = f_X0_listLeaders s p ((fun _ => 0, fun _ => (h.2 203)) : Rec) := ⟨_, rfl⟩
  rw [← hLL] at l2 l3
  have e8 : Int32.ofInt 8 * LL.1 = nI (8 * cnt) := by rw [l2]; exact pk_mul 8 cnt
  have cnt8 := l4.2.2.2
  obtain ⟨h1, hh1⟩ : ∃ z, z = setA (setA h 103 ((f_X3_save s p ((fun _ => 0, fun _ => (h.2 103)) : Rec)).2 0)) 203 (LL.2.2 0) := ⟨_, rfl⟩
  have r1 : h1.2 103 = (f_X3_save s p ((fun _ => 0, fun _ => (h.2 103)) : Rec)).2 0 := by rw [hh1, setA_ne (by decide), setA_at]
  have r2 : h1.2 203 = LL.2.2 0 := by rw [hh1, setA_at]
  have r3 : HF 4 h h1 := fun x hx => by rw [hh1, setA_ne (by omega), setA_ne (by omega)]
  obtain ⟨a1, a2, a3, a4⟩ := fs_3l (me := me) (wt := wt) hK hG hP l4 hme hw 4000000000 0 o h1 s p (Int32.ofInt (-2)) (by omega) (by omega) hP r1 (fun i hi => by rw [r2]; exact l3 i hi) (Or.inl ⟨rfl, fun i hi => by omega⟩)
  unfold p_X0_firstStep_c3 f_X0_firstStep_c3
  rw [← hLL, e8, ← hh1]
  refine ⟨⟨l1, sv_ok _ hP hG, a1⟩, ld, cnt, l4, a2, a3, r3.t (a4.m (by omega)), fun i hi => ?_⟩
  have e : (f_X0_firstStep_c3_48 4000000000 o h1 s p me wt (nI (8 * cnt)) (Int32.ofInt (-2)) (nI 0)).2.2.1.2 203 = h1.2 203 := a4 203 (by omega)
  have e' : (f_X0_firstStep_c3_48 4000000000 o h1 s p me wt (nI (8 * cnt)) (Int32.ofInt (-2)) (Int32.ofInt 0)).2.2.1.2 203 = h1.2 203 := e
  rw [e', r2]
  exact l3 i hi
def fn_3 (h : Rec) (me v4 : Int32) (x : Rec × Rec × Rec) : Int32 × Rec × Rec × Rec × Rec := if v4 = 0 then (if (f_X0_firstStep_c3 x.1 h x.2.1 x.2.2 me (Int32.ofInt 0)).1 = Int32.ofInt (-1) then (Int32.ofInt 1, (f_X0_firstStep_c3 x.1 h x.2.1 x.2.2 me (Int32.ofInt 0)).2) else (Int32.ofInt 0, (f_X0_firstStep_c3 x.1 h x.2.1 x.2.2 me (Int32.ofInt 0)).2)) else (if (f_X0_firstStep_c3 x.1 h x.2.1 x.2.2 me (Int32.ofInt 1)).1 < 0 then (Int32.ofInt 0, (f_X0_firstStep_c3 x.1 h x.2.1 x.2.2 me (Int32.ofInt 1)).2) else (Int32.ofInt 1, (f_X0_firstStep_c3 x.1 h x.2.1 x.2.2 me (Int32.ofInt 1)).2))
theorem f59_3 {K : Int32} (h : Rec) (me v4 : Int32) : ∀ (k n : Nat) (o s p g : Rec), PR s p g → GI K g → (g.2 0 27).toNatClampNeg ≤ k → k ≤ 3 → k < n → ((v4 = 0 → p_X0_firstStep_c3 (stC k o s p).1 h (stC k o s p).2.1 (stC k o s p).2.2 me (Int32.ofInt 0) ∧ True) ∧ (¬ v4 = 0 → p_X0_firstStep_c3 (stC k o s p).1 h (stC k o s p).2.1 (stC k o s p).2.2 me (Int32.ofInt 1) ∧ True)) →
    p_X0_isForced_c3_59 n o h s p me v4 (nI (3 - k)) ∧ f_X0_isForced_c3_59 n o h s p me v4 (nI (3 - k)) = fn_3 h me v4 (stC k o s p) := by
  intro k
  induction k with
  | zero =>
    intro n o s p g hP hG hd hk hn hp
    obtain ⟨n, rfl⟩ : ∃ z, n = z + 1 := ⟨n - 1, by omega⟩
    have l3 : Int32.ofInt 3 ≤ nI (3 - 0) := by decide
    rw [f_X0_isForced_c3_59, p_X0_isForced_c3_59, if_pos l3]
    exact ⟨⟨fun _ => hp, fun z => absurd l3 z⟩, by unfold fn_3; rfl⟩
  | succ k ih =>
    intro n o s p g hP hG hd hk hn hp
    obtain ⟨n, rfl⟩ : ∃ z, n = z + 1 := ⟨n - 1, by omega⟩
    have l3 : ¬ Int32.ofInt 3 ≤ nI (3 - (k + 1)) := nI_ge (a := 3 - (k + 1)) (b := 3) (by omega) (by omega)
    have p7 : p.1 7 = g.2 0 27 := hP.2.2.2.2.1.2.1
    rw [f_X0_isForced_c3_59, p_X0_isForced_c3_59, if_neg l3, ni1, show 3 - (k + 1) + 1 = 3 - k by omega]
    rw [stC] at hp ⊢
    obtain ⟨d0, d3⟩ := due_b hG
    by_cases c : g.2 0 27 = 0
    · have z' : p.1 7 ≤ 0 := by rw [p7, c]; decide
      rw [if_pos z'] at hp ⊢
      rw [if_pos z']
      exact ⟨⟨fun z => absurd z l3, fun _ => ⟨fun _ => hp, fun z => absurd z' z⟩⟩, by unfold fn_3; rfl⟩
    · have z' : ¬ p.1 7 ≤ 0 := by rw [p7]; clear ih; grind
      rw [if_neg z'] at hp ⊢
      rw [if_neg z']
      obtain ⟨_, _, _, a4, a5, a6, a7, _, a9⟩ := se_1 o hP hG c
      obtain ⟨e0, e3⟩ := due_b a7
      have lt : ((se1 g).2 0 27).toNatClampNeg ≤ k := by
        have x1 := Int32.lt_iff_toInt_lt.mp a9
        have x2 := n32_0.mp e0
        have y1 : ((se1 g).2 0 27).toNatClampNeg = ((se1 g).2 0 27).toInt.toNat := rfl
        have y2 : (g.2 0 27).toNatClampNeg = (g.2 0 27).toInt.toNat := rfl
        omega
      obtain ⟨i1, i2⟩ := ih n (f_X1_habitOf o s p).2 (seC o s p).1 (seC o s p).2 (se1 g) a6 a7 lt (by omega) (by omega) hp
      have sc : seC o s p = f_X3_creaseDue s p (f_X4_choiceAxis s (f_X1_habitOf o s p).1) (f_X4_choiceLine s (f_X1_habitOf o s p).1) (f_X4_choiceWay s (f_X1_habitOf o s p).1) := by unfold seC; rfl
      rw [← sc]
      exact ⟨⟨fun z => absurd z l3, fun _ => ⟨fun z => absurd z z', fun _ => ⟨a4, a5, i1⟩⟩⟩, i2⟩
theorem isf_3 {K me : Int32} {s p g : Rec} (o h : Rec) (hP : PR s p g) (hG : GI K g) (hK : K < 800007) (hme : me = 0 ∨ me = 1) : p_X0_isForced_c3 o h s p me ∧ ((f_X0_isForced_c3 o h s p me).1 = 1 ∨ (f_X0_isForced_c3 o h s p me).1 = 0) ∧ ((f_X0_isForced_c3 o h s p me).1 = 1 ↔ Vw me 3 g) ∧ On K g (f_X0_isForced_c3 o h s p me).2.2.2.1 (f_X0_isForced_c3 o h s p me).2.2.2.2 ∧ HF 4 h (f_X0_isForced_c3 o h s p me).2.2.1 := by
  obtain ⟨w1, _, w3, _⟩ := wo_eq hP hG
  have tu := tu_eq hP
  have pm := pp_menOf s hP.2.2.1
  have mn := mf_n hP (Int32.ofInt 1 - me)
  have c8 := cm_8 g (Int32.ofInt 1 - me)
  have on : On K g s p := ⟨g, hP, hG, fun _ _ => rfl⟩
  obtain ⟨_, t2, t3, t4, t5⟩ := se_ok o hP hG
  obtain ⟨d0, d3⟩ := due_b hG
  have pr := prune hme 3 K s p g (by show K < 900000 - 3; grind) (by omega) hP hG
  -- what is asked, once settled
  have ask : ∀ wt : Int32, (wt = 0 ∨ wt = 1) → p_X0_firstStep_c3 (stC 3 o s p).1 h (stC 3 o s p).2.1 (stC 3 o s p).2.2 me wt ∧ ∃ (ld : Nat → Nat) (cnt : Nat), LO (f_X9_settles g) ld cnt 8 ∧ FsR (f_X9_settles g) ld cnt (Sat me wt 2 (f_X9_settles g) ld) (f_X0_firstStep_c3 (stC 3 o s p).1 h (stC 3 o s p).2.1 (stC 3 o s p).2.2 me wt).1 ∧ PR (f_X0_firstStep_c3 (stC 3 o s p).1 h (stC 3 o s p).2.1 (stC 3 o s p).2.2 me wt).2.2.2.1 (f_X0_firstStep_c3 (stC 3 o s p).1 h (stC 3 o s p).2.1 (stC 3 o s p).2.2 me wt).2.2.2.2 (f_X9_settles g) ∧ HF 4 h (f_X0_firstStep_c3 (stC 3 o s p).1 h (stC 3 o s p).2.1 (stC 3 o s p).2.2 me wt).2.2.1 := by
    intro wt hw
    obtain ⟨b1, ld, cnt, b2, b3, b4, b5, _⟩ := fs_3 (stC 3 o s p).1 h hK t2 t3 hme hw
    exact ⟨b1, ld, cnt, b2, b3, b4, b5⟩
  have onS : ∀ s' p', PR s' p' (f_X9_settles g) → On K g s' p' := fun s' p' hp => ⟨_, hp, t3, fun i hi => t4.2.2 i (by omega)⟩
  have oz : Int32.ofInt 1 - me = 1 - me := rfl
  unfold p_X0_isForced_c3 f_X0_isForced_c3
  rw [w3, tu, mn]
  by_cases c1 : f_X9_won g = me
  · rw [if_pos c1]
    exact ⟨⟨w1, fun _ => trivial, fun z => absurd c1 z⟩, Or.inl rfl, ⟨fun _ => Or.inl c1, fun _ => rfl⟩, on, HF.r _ h⟩
  · rw [if_neg c1]
    by_cases c2 : f_X9_turn g = me
    · rw [if_pos c2]
      by_cases c3 : f_X0_canBeTaken (nI (cm g (Int32.ofInt 1 - me))) (Int32.ofInt 2) = 0
      · rw [if_pos c3]
        have nb := (cbt (k := 2) c8 (by omega)).mp c3
        refine ⟨⟨w1, fun z => absurd z c1, fun _ => ⟨fun _ => ⟨pm _, fun _ => trivial, fun z => absurd c3 z⟩, fun z => absurd c2 z⟩⟩, Or.inr rfl, ⟨fun z => absurd z z1n, fun z => ?_⟩, on, HF.r _ h⟩
        have q := pr z c1
        rw [if_pos c2] at q
        exact absurd ⟨q.1, q.2⟩ nb
      · rw [if_neg c3]
        obtain ⟨b1, ld, cnt, b2, b3, b4, b5⟩ := ask (Int32.ofInt 1) (Or.inr rfl)
        obtain ⟨q1, q2⟩ := f59_3 h me (Int32.ofInt 1) 3 4000000000 o s p g hP hG (cl_le (n := 3) d0 d3) (by omega) (by omega) ⟨fun z => absurd z (by decide), fun _ => ⟨b1, trivial⟩⟩
        have q2' : f_X0_isForced_c3_59 4000000000 o h s p me (Int32.ofInt 1) (Int32.ofInt 0) = fn_3 h me (Int32.ofInt 1) (stC 3 o s p) := q2
        rw [q2']
        refine ⟨⟨w1, fun z => absurd z c1, fun _ => ⟨fun _ => ⟨pm _, fun z => absurd z c3, fun _ => q1⟩, fun z => absurd c2 z⟩⟩, ?_⟩
        unfold fn_3
        rw [if_neg (show ¬ Int32.ofInt 1 = 0 by decide)]
        have fm := fs_mine (g := g) t2 t3 b2 b3
        have vm := v_mine hP hG (by grind) (by omega : 2 ≤ 5) hme c1 c2
        by_cases c4 : (f_X0_firstStep_c3 (stC 3 o s p).1 h (stC 3 o s p).2.1 (stC 3 o s p).2.2 me (Int32.ofInt 1)).1 < 0
        · rw [if_pos c4]
          exact ⟨Or.inr rfl, ⟨fun z => absurd z z1n, fun z => absurd (vm.mp z) (fm.mp c4)⟩, onS _ _ b4, b5⟩
        · rw [if_neg c4]
          exact ⟨Or.inl rfl, ⟨fun _ => vm.mpr (Classical.byContradiction fun z => c4 (fm.mpr z)), fun _ => rfl⟩, onS _ _ b4, b5⟩
    · rw [if_neg c2]
      by_cases c3 : f_X0_canBeTaken (nI (cm g (Int32.ofInt 1 - me))) (Int32.ofInt 1) = 0
      · rw [if_pos c3]
        have nb := (cbt (k := 1) c8 (by omega)).mp c3
        refine ⟨⟨w1, fun z => absurd z c1, fun _ => ⟨fun z => absurd z c2, fun _ => ⟨pm _, fun _ => trivial, fun z => absurd c3 z⟩⟩⟩, Or.inr rfl, ⟨fun z => absurd z z1n, fun z => ?_⟩, on, HF.r _ h⟩
        have q := pr z c1
        rw [if_neg c2] at q
        exact absurd ⟨q.1, q.2⟩ nb
      · rw [if_neg c3]
        obtain ⟨b1, ld, cnt, b2, b3, b4, b5⟩ := ask (Int32.ofInt 0) (Or.inl rfl)
        obtain ⟨q1, q2⟩ := f59_3 h me (Int32.ofInt 0) 3 4000000000 o s p g hP hG (cl_le (n := 3) d0 d3) (by omega) (by omega) ⟨fun _ => ⟨b1, trivial⟩, fun z => absurd rfl z⟩
        have q2' : f_X0_isForced_c3_59 4000000000 o h s p me (Int32.ofInt 0) (Int32.ofInt 0) = fn_3 h me (Int32.ofInt 0) (stC 3 o s p) := q2
        rw [q2']
        refine ⟨⟨w1, fun z => absurd z c1, fun _ => ⟨fun z => absurd z c2, fun _ => ⟨pm _, fun z => absurd z c3, fun _ => q1⟩⟩⟩, ?_⟩
        unfold fn_3
        rw [if_pos (show Int32.ofInt 0 = 0 from rfl)]
        have fm := fs_theirs t2 t3 b2 b3
        have vm := v_theirs hP hG (by grind) (by omega : 2 ≤ 5) hme c1 c2
        by_cases c4 : (f_X0_firstStep_c3 (stC 3 o s p).1 h (stC 3 o s p).2.1 (stC 3 o s p).2.2 me (Int32.ofInt 0)).1 = Int32.ofInt (-1)
        · rw [if_pos c4]
          exact ⟨Or.inl rfl, ⟨fun _ => vm.mpr (fm.mp c4), fun _ => rfl⟩, onS _ _ b4, b5⟩
        · rw [if_neg c4]
          exact ⟨Or.inr rfl, ⟨fun z => absurd z z1n, fun z => absurd (fm.mpr (vm.mp z)) c4⟩, onS _ _ b4, b5⟩
