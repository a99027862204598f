/-! layer 3: best -/
def codeS (x y w d : Int32) : Int32 := Int32.ofInt 10000 * (y + Int32.ofInt 20) + Int32.ofInt 100 * (x + Int32.ofInt 20) + Int32.ofInt 10 * w + d
theorem code_ne {x y w d : Int32} (hx : -2000 ≤ x.toInt ∧ x.toInt ≤ 2000) (hy : -2000 ≤ y.toInt ∧ y.toInt ≤ 2000) (ho : okS w d) : ¬ codeS x y w d = Int32.ofInt (-1) := by
  have w0 := n32_0.mp ho.1
  have w3 := Int32.le_iff_toInt_le.mp ho.2.1
  have e3 : (3 : Int32).toInt = 3 := by decide
  have dd : d.toInt = 1 ∨ d.toInt = 2 := by
    rcases ho.2.2 with rfl | rfl
    · exact Or.inl (by decide)
    · exact Or.inr (by decide)
  have e20 : (Int32.ofInt 20).toInt = 20 := by decide
  have e100 : (Int32.ofInt 100).toInt = 100 := by decide
  have e10 : (Int32.ofInt 10).toInt = 10 := by decide
  have e10k : (Int32.ofInt 10000).toInt = 10000 := by decide
  have em : (Int32.ofInt (-1)).toInt = -1 := by decide
  have a1 := n32_add (x := y) (y := Int32.ofInt 20) (by rw [e20]; omega) (by rw [e20]; omega)
  rw [e20] at a1
  have a2 := n32_mul (x := Int32.ofInt 10000) (y := y + Int32.ofInt 20) (by rw [e10k, a1]; omega) (by rw [e10k, a1]; omega)
  rw [e10k, a1] at a2
  have b1 := n32_add (x := x) (y := Int32.ofInt 20) (by rw [e20]; omega) (by rw [e20]; omega)
  rw [e20] at b1
  have b2 := n32_mul (x := Int32.ofInt 100) (y := x + Int32.ofInt 20) (by rw [e100, b1]; omega) (by rw [e100, b1]; omega)
  rw [e100, b1] at b2
  have c1 := n32_add (x := Int32.ofInt 10000 * (y + Int32.ofInt 20)) (y := Int32.ofInt 100 * (x + Int32.ofInt 20)) (by rw [a2, b2]; omega) (by rw [a2, b2]; omega)
  rw [a2, b2] at c1
  have d1 := n32_mul (x := Int32.ofInt 10) (y := w) (by rw [e10]; omega) (by rw [e10]; omega)
  rw [e10] at d1
  have c2 := n32_add (x := Int32.ofInt 10000 * (y + Int32.ofInt 20) + Int32.ofInt 100 * (x + Int32.ofInt 20)) (y := Int32.ofInt 10 * w) (by rw [c1, d1]; omega) (by rw [c1, d1]; omega)
  rw [c1, d1] at c2
  have c3 := n32_add (x := Int32.ofInt 10000 * (y + Int32.ofInt 20) + Int32.ofInt 100 * (x + Int32.ofInt 20) + Int32.ofInt 10 * w) (y := d) (by rw [c2]; omega) (by rw [c2]; omega)
  rw [c2] at c3
  intro z
  have z2 := congrArg Int32.toInt z
  have c3' : (codeS x y w d).toInt = _ := c3
  rw [c3', em] at z2
  omega
/-- the first of the steps behind which who is on turn is sure to win -/
def BR (me : Int32) (n : Nat) (g : Rec) (R : Int32) : Prop := (R = -1 ∧ ¬ ∃ x y w d, okS w d ∧ Leg g x y w d ∧ Vw me n (f_X9_steps g x y w d).2) ∨ ∃ x y w d, okS w d ∧ Leg g x y w d ∧ Vw me n (f_X9_steps g x y w d).2 ∧ R = codeS x y w d ∧ ∀ x' y' w' d', okS w' d' → Leg g x' y' w' d' → Vw me n (f_X9_steps g x' y' w' d').2 → Kl x y w d x' y' w' d'
theorem br_one {me : Int32} {n : Nat} {g : Rec} {R R' : Int32} (h1 : BR me n g R) (h2 : BR me n g R') : R = R' := by
  rcases h1 with ⟨a1, a2⟩ | ⟨x, y, w, d, a1, a2, a3, a4, a5⟩
  · rcases h2 with ⟨b1, _⟩ | ⟨x', y', w', d', b1, b2, b3, b4, b5⟩
    · rw [a1, b1]
    · exact absurd ⟨x', y', w', d', b1, b2, b3⟩ a2
  · rcases h2 with ⟨_, b2⟩ | ⟨x', y', w', d', b1, b2, b3, b4, b5⟩
    · exact absurd ⟨x, y, w, d, a1, a2, a3⟩ b2
    · obtain ⟨rfl, rfl, rfl, rfl⟩ := kl_as (a5 x' y' w' d' b1 b2 b3) (b5 x y w d a1 a2 a3)
      rw [a4, b4]
theorem fs_br {K me : Int32} {s p g : Rec} {ld : Nat → Nat} {cnt n : Nat} {r : Int32} (hP : PR s p g) (hG : GI K g) (hl : LO g ld cnt 8) (h : FsR g ld cnt (Sat me 1 n g ld) r) : (r < 0 ∧ BR me n g (-1)) ∨ ∃ j, j < 8 * cnt ∧ r = nI j ∧ BR me n g (codeS (gx g (ld (j / 8))) (gy g (ld (j / 8))) (jw j) (jd j)) := by
  have fm := fs_mine (g := g) hP hG hl h
  have cnt8 := hl.2.2.2
  by_cases c : r < 0
  · exact Or.inl ⟨c, Or.inl ⟨rfl, fm.mp c⟩⟩
  · have conv : ∀ i, Sat me 1 n g ld i ↔ Vw me n (NxJ g ld i) := fun i => ⟨fun z => z.mp rfl, fun z => ⟨fun _ => z, fun _ => rfl⟩⟩
    rcases h with ⟨h1, _⟩ | ⟨h1, _⟩ | ⟨j, j1, j2, j3, j4, j5⟩
    · rw [h1] at c; exact absurd (by decide) c
    · rw [h1] at c; exact absurd (by decide) c
    · refine Or.inr ⟨j, j1, j2, Or.inr ⟨_, _, _, _, ok_j j, j3, (conv j).mp j4, rfl, fun x' y' w' d' o1 o2 o3 => ?_⟩⟩
      obtain ⟨i, i1, rfl, rfl, rfl, rfl⟩ := leg_j hP hG hl o1 o2
      refine kl_j hl ?_ i1
      exact Classical.byContradiction fun z => j5 i (by omega) o2 ((conv i).mpr o3)
theorem fz_1 {K : Int32} {s p g : Rec} (o h : Rec) (hK : K < 800000) (hP : PR s p g) (hG : GI K g) : p_X0_firstSure_c1 o h s p ∧ PR (f_X0_firstSure_c1 o h s p).2.2.2.1 (f_X0_firstSure_c1 o h s p).2.2.2.2 g ∧ ((0 < g.2 0 27 ∨ f_X9_won g = f_X9_turn g) → (f_X0_firstSure_c1 o h s p).1 = -1) ∧ (¬ 0 < g.2 0 27 → ¬ f_X9_won g = f_X9_turn g → BR (f_X9_turn g) 0 g (f_X0_firstSure_c1 o h s p).1) := by
  have tu := tu_eq hP
  obtain ⟨w1, _, w3, _⟩ := wo_eq hP hG
  have p7 : p.1 7 = g.2 0 27 := hP.2.2.2.2.1.2.1
  unfold p_X0_firstSure_c1 f_X0_firstSure_c1
  rw [tu, w3, p7]
  by_cases c1 : 0 < g.2 0 27
  · rw [if_pos c1]
    exact ⟨⟨fun _ => trivial, fun z => absurd c1 z⟩, hP, fun _ => rfl, fun z => absurd c1 z⟩
  · rw [if_neg c1]
    by_cases c2 : f_X9_won g = f_X9_turn g
    · rw [if_pos c2]
      exact ⟨⟨fun z => absurd z c1, fun _ => ⟨w1, fun _ => trivial, fun z => absurd c2 z⟩⟩, hP, fun _ => rfl, fun _ z => absurd c2 z⟩
    · rw [if_neg c2]
      obtain ⟨a1, ld, cnt, a2, a3, a4, _, a6⟩ := fs_1 (wt := Int32.ofInt 1) o h (by grind) hP hG (turn_01 hG) (Or.inr rfl)
      obtain ⟨F, hF⟩ : ∃ z, z = f_X0_firstStep_c1 o h s p (f_X9_turn g) (Int32.ofInt 1) := ⟨_, rfl⟩
      rw [← hF] at a3 a4 a6 ⊢
      have cnt8 := a2.2.2.2
      rcases fs_br hP hG a2 a3 with ⟨b1, b2⟩ | ⟨j, j1, j2, j3⟩
      · have nb : ¬ 0 ≤ F.1 := Int32.not_le.mpr b1
        rw [if_neg nb]
        exact ⟨⟨fun z => absurd z c1, fun _ => ⟨w1, fun z => absurd z c2, fun _ => ⟨a1, fun z => absurd z nb, fun _ => trivial⟩⟩⟩, a4, fun z => z.elim (fun y => absurd y c1) (fun y => absurd y c2), fun _ _ => b2⟩
      · have yb : 0 ≤ F.1 := by rw [j2]; exact nI_pos' (by omega)
        have e8 : F.1 / Int32.ofInt 8 = nI (j / 8) := by
          rw [j2]
          exact pk_div (a := j) (d := 8) (by omega) (by omega) (by omega)
        obtain ⟨v8, hv⟩ := a2.1 (j / 8) (by omega)
        obtain ⟨_, _, _, m4⟩ := mcell a4 hv.1 hv.2.1
        obtain ⟨m5, m6, m7, m8, m9⟩ := m4 hv.2.2.1
        have w1' : vp_in (nI (j / 8)) 8 := vp_in_nI (by omega) (by omega)
        have w2' : vp_in (nI (ld (j / 8))) 8 := vp_in_nI v8 (by omega)
        rw [if_pos yb, e8, nI_clamp (n := j / 8) (by omega), a6 (j / 8) (by omega), nI_clamp (n := ld (j / 8)) (by omega), if_neg m9, m6, m7, j2, jw_e (by omega), jd_e (by omega)]
        rw [j2] at yb
        exact ⟨⟨fun z => absurd z c1, fun _ => ⟨w1, fun z => absurd z c2, fun _ => ⟨a1, fun _ => ⟨w1', w2', pl_has .., fun z => absurd z m9, fun _ => ⟨m8, m8, trivial⟩⟩, fun z => absurd yb z⟩⟩⟩, a4, fun z => z.elim (fun y => absurd y c1) (fun y => absurd y c2), fun _ _ => j3⟩
theorem fz_2 {K : Int32} {s p g : Rec} (o h : Rec) (hK : K < 800000) (hP : PR s p g) (hG : GI K g) : p_X0_firstSure_c2 o h s p ∧ PR (f_X0_firstSure_c2 o h s p).2.2.2.1 (f_X0_firstSure_c2 o h s p).2.2.2.2 g ∧ ((0 < g.2 0 27 ∨ f_X9_won g = f_X9_turn g) → (f_X0_firstSure_c2 o h s p).1 = -1) ∧ (¬ 0 < g.2 0 27 → ¬ f_X9_won g = f_X9_turn g → BR (f_X9_turn g) 1 g (f_X0_firstSure_c2 o h s p).1) := by
  have tu := tu_eq hP
  obtain ⟨w1, _, w3, _⟩ := wo_eq hP hG
  have p7 : p.1 7 = g.2 0 27 := hP.2.2.2.2.1.2.1
  unfold p_X0_firstSure_c2 f_X0_firstSure_c2
  rw [tu, w3, p7]
  by_cases c1 : 0 < g.2 0 27
  · rw [if_pos c1]
    exact ⟨⟨fun _ => trivial, fun z => absurd c1 z⟩, hP, fun _ => rfl, fun z => absurd c1 z⟩
  · rw [if_neg c1]
    by_cases c2 : f_X9_won g = f_X9_turn g
    · rw [if_pos c2]
      exact ⟨⟨fun z => absurd z c1, fun _ => ⟨w1, fun _ => trivial, fun z => absurd c2 z⟩⟩, hP, fun _ => rfl, fun _ z => absurd c2 z⟩
    · rw [if_neg c2]
      obtain ⟨a1, ld, cnt, a2, a3, a4, _, a6⟩ := fs_2 (wt := Int32.ofInt 1) o h (by grind) hP hG (turn_01 hG) (Or.inr rfl)
      obtain ⟨F, hF⟩ : ∃ z, z = f_X0_firstStep_c2 o h s p (f_X9_turn g) (Int32.ofInt 1) := ⟨_, rfl⟩
      rw [← hF] at a3 a4 a6 ⊢
      have cnt8 := a2.2.2.2
      rcases fs_br hP hG a2 a3 with ⟨b1, b2⟩ | ⟨j, j1, j2, j3⟩
      · have nb : ¬ 0 ≤ F.1 := Int32.not_le.mpr b1
        rw [if_neg nb]
        exact ⟨⟨fun z => absurd z c1, fun _ => ⟨w1, fun z => absurd z c2, fun _ => ⟨a1, fun z => absurd z nb, fun _ => trivial⟩⟩⟩, a4, fun z => z.elim (fun y => absurd y c1) (fun y => absurd y c2), fun _ _ => b2⟩
      · have yb : 0 ≤ F.1 := by rw [j2]; exact nI_pos' (by omega)
        have e8 : F.1 / Int32.ofInt 8 = nI (j / 8) := by
          rw [j2]
          exact pk_div (a := j) (d := 8) (by omega) (by omega) (by omega)
        obtain ⟨v8, hv⟩ := a2.1 (j / 8) (by omega)
        obtain ⟨_, _, _, m4⟩ := mcell a4 hv.1 hv.2.1
        obtain ⟨m5, m6, m7, m8, m9⟩ := m4 hv.2.2.1
        have w1' : vp_in (nI (j / 8)) 8 := vp_in_nI (by omega) (by omega)
        have w2' : vp_in (nI (ld (j / 8))) 8 := vp_in_nI v8 (by omega)
        rw [if_pos yb, e8, nI_clamp (n := j / 8) (by omega), a6 (j / 8) (by omega), nI_clamp (n := ld (j / 8)) (by omega), if_neg m9, m6, m7, j2, jw_e (by omega), jd_e (by omega)]
        rw [j2] at yb
        exact ⟨⟨fun z => absurd z c1, fun _ => ⟨w1, fun z => absurd z c2, fun _ => ⟨a1, fun _ => ⟨w1', w2', pl_has .., fun z => absurd z m9, fun _ => ⟨m8, m8, trivial⟩⟩, fun z => absurd yb z⟩⟩⟩, a4, fun z => z.elim (fun y => absurd y c1) (fun y => absurd y c2), fun _ _ => j3⟩
theorem fz_3 {K : Int32} {s p g : Rec} (o h : Rec) (hK : K < 800000) (hP : PR s p g) (hG : GI K g) : p_X0_firstSure_c3 o h s p ∧ PR (f_X0_firstSure_c3 o h s p).2.2.2.1 (f_X0_firstSure_c3 o h s p).2.2.2.2 g ∧ ((0 < g.2 0 27 ∨ f_X9_won g = f_X9_turn g) → (f_X0_firstSure_c3 o h s p).1 = -1) ∧ (¬ 0 < g.2 0 27 → ¬ f_X9_won g = f_X9_turn g → BR (f_X9_turn g) 2 g (f_X0_firstSure_c3 o h s p).1) := by
  have tu := tu_eq hP
  obtain ⟨w1, _, w3, _⟩ := wo_eq hP hG
  have p7 : p.1 7 = g.2 0 27 := hP.2.2.2.2.1.2.1
  unfold p_X0_firstSure_c3 f_X0_firstSure_c3
  rw [tu, w3, p7]
  by_cases c1 : 0 < g.2 0 27
  · rw [if_pos c1]
    exact ⟨⟨fun _ => trivial, fun z => absurd c1 z⟩, hP, fun _ => rfl, fun z => absurd c1 z⟩
  · rw [if_neg c1]
    by_cases c2 : f_X9_won g = f_X9_turn g
    · rw [if_pos c2]
      exact ⟨⟨fun z => absurd z c1, fun _ => ⟨w1, fun _ => trivial, fun z => absurd c2 z⟩⟩, hP, fun _ => rfl, fun _ z => absurd c2 z⟩
    · rw [if_neg c2]
      obtain ⟨a1, ld, cnt, a2, a3, a4, _, a6⟩ := fs_3 (wt := Int32.ofInt 1) o h (by grind) hP hG (turn_01 hG) (Or.inr rfl)
      obtain ⟨F, hF⟩ : ∃ z, z = f_X0_firstStep_c3 o h s p (f_X9_turn g) (Int32.ofInt 1) := ⟨_, rfl⟩
      rw [← hF] at a3 a4 a6 ⊢
      have cnt8 := a2.2.2.2
      rcases fs_br hP hG a2 a3 with ⟨b1, b2⟩ | ⟨j, j1, j2, j3⟩
      · have nb : ¬ 0 ≤ F.1 := Int32.not_le.mpr b1
        rw [if_neg nb]
        exact ⟨⟨fun z => absurd z c1, fun _ => ⟨w1, fun z => absurd z c2, fun _ => ⟨a1, fun z => absurd z nb, fun _ => trivial⟩⟩⟩, a4, fun z => z.elim (fun y => absurd y c1) (fun y => absurd y c2), fun _ _ => b2⟩
      · have yb : 0 ≤ F.1 := by rw [j2]; exact nI_pos' (by omega)
        have e8 : F.1 / Int32.ofInt 8 = nI (j / 8) := by
          rw [j2]
          exact pk_div (a := j) (d := 8) (by omega) (by omega) (by omega)
        obtain ⟨v8, hv⟩ := a2.1 (j / 8) (by omega)
        obtain ⟨_, _, _, m4⟩ := mcell a4 hv.1 hv.2.1
        obtain ⟨m5, m6, m7, m8, m9⟩ := m4 hv.2.2.1
        have w1' : vp_in (nI (j / 8)) 8 := vp_in_nI (by omega) (by omega)
        have w2' : vp_in (nI (ld (j / 8))) 8 := vp_in_nI v8 (by omega)
        rw [if_pos yb, e8, nI_clamp (n := j / 8) (by omega), a6 (j / 8) (by omega), nI_clamp (n := ld (j / 8)) (by omega), if_neg m9, m6, m7, j2, jw_e (by omega), jd_e (by omega)]
        rw [j2] at yb
        exact ⟨⟨fun z => absurd z c1, fun _ => ⟨w1, fun z => absurd z c2, fun _ => ⟨a1, fun _ => ⟨w1', w2', pl_has .., fun z => absurd z m9, fun _ => ⟨m8, m8, trivial⟩⟩, fun z => absurd yb z⟩⟩⟩, a4, fun z => z.elim (fun y => absurd y c1) (fun y => absurd y c2), fun _ _ => j3⟩
theorem b_67 {K me : Int32} {s p m0 : Rec} {f : Nat → Int32} {n : Nat} (hn : n ≤ 2) (hK : K < 700000) (hP : PR s p (f_X9_lays m0)) (hG : GI K (f_X9_lays m0)) (hF : FrH m0 (f_X9_lays m0)) (kk : ∀ k, k < 20 → f k = (f_X9_lays m0).2 0 (8 + k)) (hme : me = 0 ∨ me = 1) : ∀ (N j : Nat) (m : Rec), j ≤ JJ (f_X9_lays m0) → JJ (f_X9_lays m0) + 2 < N + j → PR s p m → GI K m → m.2 0 = (f_X9_lays m0).2 0 → FrP 0 (setA (f_X9_lays m0) 17 f) m → (∀ i, i < j → LegK (f_X9_lays m0) i → ¬ Vw me n (NxK (f_X9_lays m0) i)) →
    p_X9_best_67 N m (nI (n + 1)) me (Int32.ofInt (-1)) (nI j) ∧ BR me n (f_X9_lays m0) (f_X9_best_67 N m (nI (n + 1)) me (Int32.ofInt (-1)) (nI j)).1 ∧ FrP 0 (setA (f_X9_lays m0) 17 f) (f_X9_best_67 N m (nI (n + 1)) me (Int32.ofInt (-1)) (nI j)).2 ∧ (f_X9_best_67 N m (nI (n + 1)) me (Int32.ofInt (-1)) (nI j)).2.2 0 = (f_X9_lays m0).2 0 := by
  have j288 := jj_288 hG
  have hK1 : K < 1000000 := by grind
  obtain ⟨g, hg⟩ : ∃ z, z = f_X9_lays m0 := ⟨_, rfl⟩
  have hP' := hP
  have hG' := hG
  have hF' := hF
  have kk' := kk
  rw [← hg] at hP hG hF kk j288 ⊢
  intro N
  induction N with
  | zero => intro j m h1 h2; omega
  | succ N ih =>
    intro j m hj hN hPm hGm hb hfr htr
    obtain ⟨N, rfl⟩ : ∃ z, N = z + 1 := ⟨N - 1, by omega⟩
    obtain ⟨sk1, sk2, sk3⟩ := same_k hPm hP
    obtain ⟨pp, pe⟩ := ps_all hGm (j := j) (by omega)
    rw [sk2, sk3] at pe
    have pe' : f_X9_picksStep m (nI j) = (if JJ g ≤ j then 0 else 1, mk4 m (kx g j) (ky g j) (jw j) (jd j)) := by
      rw [pe, ← sk1]
      rfl
    obtain ⟨Q, hQ⟩ : ∃ z, z = mk4 m (kx g j) (ky g j) (jw j) (jd j) := ⟨_, rfl⟩
    have Q18 : Q.1 18 = kx g j := by rw [hQ, mk4_18]
    have Q19 : Q.1 19 = ky g j := by rw [hQ, mk4_19]
    have Q20 : Q.1 20 = jw j := by rw [hQ, mk4_20]
    have Q21 : Q.1 21 = jd j := by rw [hQ, mk4_21]
    have Q2 : Q.2 = m.2 := by rw [hQ, mk4_2]
    have Qo : ∀ k, k ≠ 18 → k ≠ 19 → k ≠ 20 → k ≠ 21 → Q.1 k = m.1 k := fun k a b c d => by rw [hQ, mk4_o _ _ _ _ _ k a b c d]
    have frQ : FrP 0 m Q := ⟨fun k _ _ _ _ q5 q6 q7 q8 => Qo k q5 q6 q7 q8, fun x _ _ _ _ _ _ _ _ => by rw [Q2], fun i _ => by rw [Q2], fun i hi => by omega, fun i hi => by omega⟩
    have hPQ : PR s p Q := pr_2 Q2 hPm
    have hGQ : GI K Q := gi_2 Q2 hGm
    rw [← hQ] at pe'
    have ie : Int32.ofInt (-1) = Int32.ofInt (-1) := rfl
    rw [f_X9_best_67, p_X9_best_67, if_pos ie, pe']
    dsimp only
    rw [Q18, Q19, Q20, Q21, ni1]
    by_cases c1 : JJ g ≤ j
    · have ej : j = JJ g := by omega
      rw [if_pos c1, if_pos rfl]
      refine ⟨⟨fun _ => ⟨pp, fun _ => trivial, fun z => absurd rfl z⟩, fun z => absurd ie z⟩, Or.inl ⟨rfl, ?_⟩, hfr.t frQ, by rw [Q2]; exact hb⟩
      rintro ⟨x, y, w, d, o1, o2, o3⟩
      obtain ⟨i, i1, rfl, rfl, rfl, rfl⟩ := leg_k hP hG o1 o2
      exact htr i (by rw [ej]; exact i1) o2 o3
    · have o0 : ¬ (1 : Int32) = 0 := by decide
      rw [if_neg c1, if_neg o0]
      have okj := ok_j j
      have ps := pst hPQ hGQ (kx g j) (ky g j) (jw j) (jd j)
      have lg : LegK g j ↔ Leg Q (kx g j) (ky g j) (jw j) (jd j) := by
        unfold LegK
        rw [leg_goal hP hG hK1 okj, leg_goal hPQ hGQ hK1 okj]
      by_cases c2 : LegK g j
      · obtain ⟨_, t2, _, _, _, c6, c7, c8⟩ := step_sim hPQ hGQ hK1 (lg.mp c2) okj.1 okj.2.1 okj.2.2
        obtain ⟨_, _, _, _, _, d6', d7, _⟩ := step_sim hP hG hK1 c2 okj.1 okj.2.1 okj.2.2
        rw [← (ru_eq hPQ.1 hPQ.2.2.1 _ _).2.2] at c6
        rw [← (ru_eq hP.1 hP.2.2.1 _ _).2.2] at d6'
        have n0 : ¬ (f_X9_steps Q (kx g j) (ky g j) (jw j) (jd j)).1 = 0 := by rw [t2]; decide
        rw [if_neg n0]
        obtain ⟨S, hS⟩ : ∃ z, z = (f_X9_steps Q (kx g j) (ky g j) (jw j) (jd j)).2 := ⟨_, rfl⟩
        rw [← hS] at c6 c7 c8 ⊢
        have en : nI (n + 1) - Int32.ofInt 1 = nI n := nI_pred n
        rw [en]
        obtain ⟨l1, l2, l3, l4⟩ := plays_all (n := n) (by omega) (by clear ih; grind) c6 c7 hme
        obtain ⟨PL, hPL⟩ : ∃ z, z = f_X9_plays S (nI n) me := ⟨_, rfl⟩
        rw [← hPL] at l2 l3 l4 ⊢
        have frA : FrP 0 (setA (f_X9_lays m0) 17 f) PL.2 := by
          rw [← hg]
          exact ((hfr.t frQ).t (frp_m 0 c8)).t l4
        obtain ⟨r1, r2, r3, r4, r5, _, _⟩ := ref_back hP' hG' hF' kk' frA
        obtain ⟨T, hT⟩ : ∃ z, z = f_X9_takes_v14 PL.2 (Int32.ofInt 0) := ⟨_, rfl⟩
        rw [← hT] at r2 r3 r4 r5 ⊢
        rw [← hg] at r2 r5
        have nb0 : 0 ≤ Int32.ofNat n := nI_pos' (n := n) (by omega)
        have nb3 : Int32.ofNat n ≤ 3 := nI_le (a := n) (b := 3) (by omega) (by omega)
        have veq : Vw me n S ↔ Vw me n (NxK g j) := by
          have d6'' : PR _ _ (NxK g j) := d6'
          exact ⟨vi n (K + 1) _ _ _ _ (by clear ih; grind) (by omega) c6 c7 d6'' d7, vi n (K + 1) _ _ _ _ (by clear ih; grind) (by omega) d6'' d7 c6 c7⟩
        rw [veq] at l3
        by_cases c3 : PL.1 = 0
        · rw [if_pos c3]
          have nv : ¬ Vw me n (NxK g j) := fun z => by
            rw [l3.mpr z] at c3
            exact absurd c3 (by decide)
          obtain ⟨i1, i2, i3, i4⟩ := ih (j + 1) T (by omega) (by omega) r3 r4 r2 r5 (fun i hi hl => by
            by_cases w : i = j
            · rw [w]; exact nv
            · exact htr i (by omega) hl)
          exact ⟨⟨fun _ => ⟨pp, fun z => absurd z o0, fun _ => ⟨ps, fun z => absurd z n0, fun _ => ⟨l1, fun _ => ⟨r1, i1⟩, fun z => absurd c3 z⟩⟩⟩, fun z => absurd ie z⟩, i2, i3, i4⟩
        · have yv : Vw me n (NxK g j) := l3.mp (l2.resolve_right c3)
          rw [if_neg c3]
          have bx : -2000 ≤ (kx g j).toInt ∧ (kx g j).toInt ≤ 2000 ∧ -2000 ≤ (ky g j).toInt ∧ (ky g j).toInt ≤ 2000 := by
            obtain ⟨b1, b2, b3, b4⟩ := wd_b hG
            have q0 := ends_i hG 0 0
            have q1 := ends_i hG 1 0
            have u1 : j / 8 % wdN g < wdN g := Nat.mod_lt _ (by omega)
            have u2 : j / 8 / wdN g ≤ j / 8 := Nat.div_le_self _ _
            unfold kx ky
            obtain ⟨u, hu⟩ : ∃ u, u = j / 8 % wdN g := ⟨_, rfl⟩
            obtain ⟨v, hv⟩ : ∃ v, v = j / 8 / wdN g := ⟨_, rfl⟩
            rw [← hu] at u1 ⊢
            rw [← hv] at u2 ⊢
            have t1 := nI_toInt (n := u) (by omega)
            have t2 := nI_toInt (n := v) (by omega)
            have a1 := n32_add (x := f_X9_end g 0 0) (y := nI u) (by rw [t1]; omega) (by rw [t1]; omega)
            have a2 := n32_add (x := f_X9_end g 1 0) (y := nI v) (by rw [t2]; omega) (by rw [t2]; omega)
            rw [a1, a2, t1, t2]
            omega
          have cn := code_ne (x := kx g j) (y := ky g j) ⟨bx.1, bx.2.1⟩ ⟨bx.2.2.1, bx.2.2.2⟩ okj
          unfold codeS at cn
          rw [f_X9_best_67, p_X9_best_67, if_neg cn]
          refine ⟨⟨fun _ => ⟨pp, fun z => absurd z o0, fun _ => ⟨ps, fun z => absurd z n0, fun _ => ⟨l1, fun z => absurd z c3, fun _ => ⟨r1, fun z => absurd z cn, fun _ => trivial⟩⟩⟩⟩, fun z => absurd ie z⟩, Or.inr ⟨_, _, _, _, okj, c2, yv, rfl, fun x' y' w' d' o1 o2 o3 => ?_⟩, r5, r2⟩
          obtain ⟨i, i1, rfl, rfl, rfl, rfl⟩ := leg_k hP hG o1 o2
          have : JJ g = 8 * wdN g * hgN g := rfl
          refine kl_k hG ?_ (by omega)
          exact Classical.byContradiction fun z => htr i (by omega) o2 o3
      · have st := (steps_leg Q (kx g j) (ky g j) (jw j) (jd j)).2 (fun z => c2 (lg.mpr z))
        rw [st]
        dsimp only
        rw [if_pos rfl]
        obtain ⟨i1, i2, i3, i4⟩ := ih (j + 1) Q (by omega) (by omega) hPQ hGQ (by rw [Q2]; exact hb) (hfr.t frQ) (fun i hi hl => by
          by_cases w : i = j
          · rw [w] at hl; exact absurd hl c2
          · exact htr i (by omega) hl)
        exact ⟨⟨fun _ => ⟨pp, fun z => absurd z o0, fun _ => ⟨ps, fun _ => i1, fun z => absurd rfl z⟩⟩, fun z => absurd ie z⟩, i2, i3, i4⟩
section
variable {K : Int32} {c s p t e q s1 p1 s2 p2 t1 t2 m : Rec}
theorem c_best (o oh h k : Rec) (n : Int32) (hK : K < 100000) (hI : Inv K c s p t e q s1 p1 s2 p2 t1 t2 m) : p_X8_best c s p t e o oh h k q s1 p1 s2 p2 t1 t2 n ∧ p_X9_best m n ∧ (f_X8_best c s p t e o oh h k q s1 p1 s2 p2 t1 t2 n).1 = (f_X9_best m n).1 ∧ Inv (K + 1) (f_X8_best c s p t e o oh h k q s1 p1 s2 p2 t1 t2 n).2.1 (f_X8_best c s p t e o oh h k q s1 p1 s2 p2 t1 t2 n).2.2.1 (f_X8_best c s p t e o oh h k q s1 p1 s2 p2 t1 t2 n).2.2.2.1 t e q s1 p1 s2 p2 t1 t2 (f_X9_best m n).2 := by
  obtain ⟨hP, hG, hp, hF, hb⟩ := inv_g hI
  unfold p_X8_best p_X9_best f_X8_best f_X9_best
  rw [in_0, in_3, in_w]
  by_cases c1 : f_X8_within n 0 3 = 0
  · have c1' : f_X8_within n (Int32.ofInt 0) (Int32.ofInt 3) = 0 := c1
    rw [if_pos c1, if_pos c1']
    exact ⟨⟨fun _ => trivial, fun z => absurd c1' z⟩, ⟨fun _ => ⟨pp_bad _, trivial⟩, fun z => absurd c1 z⟩, rfl, ref_bad _ hK hI⟩
  · have c1' : ¬ f_X8_within n (Int32.ofInt 0) (Int32.ofInt 3) = 0 := c1
    rw [if_neg c1, if_neg c1']
    have nn := wi_n.mp c1
    obtain ⟨N, hN, eN⟩ := nI_of2 (x := n) (M := 3) (n := 3) (by decide) (by have := nn.1; grind) nn.2
    subst eN
    have ivL := inv_h hK hF hI
    by_cases n0 : N = 0
    · subst n0
      rw [if_pos (show nI 0 = Int32.ofInt 0 from rfl), if_pos (show nI 0 = 0 from rfl)]
      refine ⟨⟨fun z => absurd z c1', fun _ => ⟨fun _ => trivial, fun z => absurd rfl z⟩⟩, ⟨fun z => absurd z c1, fun _ => ⟨hp, fun _ => trivial, fun z => absurd rfl z⟩⟩, ?_, ?_⟩
      · dsimp only
        unfold f_X0_firstSure_c0
        rfl
      · dsimp only
        exact ivL
    · obtain ⟨M, rfl⟩ : ∃ z, N = z + 1 := ⟨N - 1, by omega⟩
      have nz : ¬ nI (M + 1) = 0 := nI_ne0 (by omega) (by omega)
      have nz' : ¬ nI (M + 1) = Int32.ofInt 0 := nz
      rw [if_neg nz, if_neg nz']
      obtain ⟨pw, pw9, _, _⟩ := wo_eq hP hG
      have hK8 : K < 800000 := by grind
      -- the class's part, whichever number it is
      have fin : ∀ (S : Int32 × Rec × Rec × Rec × Rec), PR S.2.2.2.1 S.2.2.2.2 (f_X9_lays m) → ((0 < (f_X9_lays m).2 0 27 ∨ f_X9_won (f_X9_lays m) = f_X9_turn (f_X9_lays m)) → S.1 = -1) → (¬ 0 < (f_X9_lays m).2 0 27 → ¬ f_X9_won (f_X9_lays m) = f_X9_turn (f_X9_lays m) → BR (f_X9_turn (f_X9_lays m)) M (f_X9_lays m) S.1) →
          (((nI (M + 1) = 0 → True) ∧ (¬ nI (M + 1) = 0 → ((0 < (f_X9_lays m).2 0 (Int32.toNatClampNeg (Int32.ofInt 27)) → True) ∧ (¬ 0 < (f_X9_lays m).2 0 (Int32.toNatClampNeg (Int32.ofInt 27)) → (p_X9_won (f_X9_lays m) ∧ ((f_X9_won (f_X9_lays m) = f_X9_turn (f_X9_lays m) → True) ∧ (¬ f_X9_won (f_X9_lays m) = f_X9_turn (f_X9_lays m) → (p_X9_keeps_v14 (f_X9_lays m) (Int32.ofInt 0) ∧ p_X9_best_67 1000000000000 (f_X9_keeps_v14 (f_X9_lays m) (Int32.ofInt 0)) (nI (M + 1)) (f_X9_turn (f_X9_keeps_v14 (f_X9_lays m) (Int32.ofInt 0))) (Int32.ofInt (-1)) (Int32.ofInt 0)))))))))) ∧
          S.1 = (if 0 < (f_X9_lays m).2 0 (Int32.toNatClampNeg (Int32.ofInt 27)) then (Int32.ofInt (-1), f_X9_lays m) else (if f_X9_won (f_X9_lays m) = f_X9_turn (f_X9_lays m) then (Int32.ofInt (-1), f_X9_lays m) else f_X9_best_67 1000000000000 (f_X9_keeps_v14 (f_X9_lays m) (Int32.ofInt 0)) (nI (M + 1)) (f_X9_turn (f_X9_keeps_v14 (f_X9_lays m) (Int32.ofInt 0))) (Int32.ofInt (-1)) (Int32.ofInt 0))).1 ∧ Inv (K + 1) c S.2.2.2.1 S.2.2.2.2 t e q s1 p1 s2 p2 t1 t2 (if 0 < (f_X9_lays m).2 0 (Int32.toNatClampNeg (Int32.ofInt 27)) then (Int32.ofInt (-1), f_X9_lays m) else (if f_X9_won (f_X9_lays m) = f_X9_turn (f_X9_lays m) then (Int32.ofInt (-1), f_X9_lays m) else f_X9_best_67 1000000000000 (f_X9_keeps_v14 (f_X9_lays m) (Int32.ofInt 0)) (nI (M + 1)) (f_X9_turn (f_X9_keeps_v14 (f_X9_lays m) (Int32.ofInt 0))) (Int32.ofInt (-1)) (Int32.ofInt 0))).2 := by
        intro S h1 h2 h3
        have ivS : Inv (K + 1) c S.2.2.2.1 S.2.2.2.2 t e q s1 p1 s2 p2 t1 t2 (f_X9_lays m) := inv_back (m' := f_X9_lays m) hK hI h1 hb (hF.2 1 (by decide) (by decide) (by decide) (by decide)) (hF.2 2 (by decide) (by decide) (by decide) (by decide)) (hF.2 3 (by decide) (by decide) (by decide) (by decide)) (hF.2 22 (by decide) (by decide) (by decide) (by decide)) (hF.1 23 (by decide) (by decide) (by decide))
        have e27 : (f_X9_lays m).2 0 (Int32.toNatClampNeg (Int32.ofInt 27)) = (f_X9_lays m).2 0 27 := by rw [show Int32.toNatClampNeg (Int32.ofInt 27) = 27 from rfl]
        rw [e27]
        by_cases d1 : 0 < (f_X9_lays m).2 0 27
        · rw [if_pos d1]
          refine ⟨⟨fun z => absurd z nz, fun _ => ⟨fun _ => trivial, fun z => absurd d1 z⟩⟩, ?_, ?_⟩
          · dsimp only
            exact h2 (Or.inl d1)
          · dsimp only
            exact ivS
        · rw [if_neg d1]
          by_cases d2 : f_X9_won (f_X9_lays m) = f_X9_turn (f_X9_lays m)
          · rw [if_pos d2]
            refine ⟨⟨fun z => absurd z nz, fun _ => ⟨fun z => absurd z d1, fun _ => ⟨pw9, fun _ => trivial, fun z => absurd d2 z⟩⟩⟩, ?_, ?_⟩
            · dsimp only
              exact h2 (Or.inr d2)
            · dsimp only
              exact ivS
          · rw [if_neg d2]
            obtain ⟨kp, f, kf, kk⟩ := kp_17 (f_X9_lays m)
            rw [kf]
            have tg : f_X9_turn (setA (f_X9_lays m) 17 f) = f_X9_turn (f_X9_lays m) := turn_b (setA_ne (by decide))
            rw [tg]
            obtain ⟨b1, b2, b3, b4⟩ := b_67 (me := f_X9_turn (f_X9_lays m)) (n := M) (by omega) (by grind) hP hG hF kk (turn_01 hG) 1000000000000 0 (setA (f_X9_lays m) 17 f) (by omega) (by have := jj_288 hG; omega) (pr_17 f hP) (gi_17 f hG) (setA_ne (by decide)) (FrP.r 0 _) (fun i hi => by omega)
            have b1' : p_X9_best_67 1000000000000 (setA (f_X9_lays m) 17 f) (nI (M + 1)) (f_X9_turn (f_X9_lays m)) (Int32.ofInt (-1)) (Int32.ofInt 0) := b1
            obtain ⟨R, hR⟩ : ∃ z, z = f_X9_best_67 1000000000000 (setA (f_X9_lays m) 17 f) (nI (M + 1)) (f_X9_turn (f_X9_lays m)) (Int32.ofInt (-1)) (Int32.ofInt 0) := ⟨_, rfl⟩
            have hR' : f_X9_best_67 1000000000000 (setA (f_X9_lays m) 17 f) (nI (M + 1)) (f_X9_turn (f_X9_lays m)) (Int32.ofInt (-1)) (nI 0) = R := hR.symm
            rw [hR'] at b2 b3 b4
            rw [← hR]
            refine ⟨⟨fun z => absurd z nz, fun _ => ⟨fun z => absurd z d1, fun _ => ⟨pw9, fun z => absurd z d2, fun _ => ⟨kp, b1'⟩⟩⟩⟩, br_one (h3 d1 d2) b2, ?_⟩
            have fj : ∀ j, (j = 1 ∨ j = 2 ∨ j = 3 ∨ j = 22) → R.2.2 j = m.2 j := fun j hj => by
              rw [b3.2.1 j (by omega) (by omega) (by omega) (by omega) (by omega) (by omega) (by omega) (by omega), setA_ne (by omega), hF.2 j (by omega) (by omega) (by omega) (by omega)]
            exact inv_back (m' := R.2) hK hI h1 (by rw [b4, hb]) (fj 1 (by omega)) (fj 2 (by omega)) (fj 3 (by omega)) (fj 22 (by omega)) (by rw [b3.1 23 (by decide) (by decide) (by decide) (by decide) (by decide) (by decide) (by decide) (by decide), setA_1, hF.1 23 (by decide) (by decide) (by decide)])
      have : M = 0 ∨ M = 1 ∨ M = 2 := by omega
      rcases this with rfl | rfl | rfl
      · obtain ⟨q1, q2, q3, q4⟩ := fz_1 oh h hK8 hP hG
        obtain ⟨r1, r2, r3⟩ := fin _ q2 q3 q4
        rw [if_pos (show nI (0 + 1) = Int32.ofInt 1 from rfl)]
        exact ⟨⟨fun z => absurd z c1', fun _ => ⟨fun z => absurd z nz', fun _ => ⟨fun _ => ⟨q1, trivial⟩, fun z => absurd rfl z⟩⟩⟩, ⟨fun z => absurd z c1, fun _ => ⟨hp, r1⟩⟩, r2, r3⟩
      · obtain ⟨q1, q2, q3, q4⟩ := fz_2 oh h hK8 hP hG
        obtain ⟨r1, r2, r3⟩ := fin _ q2 q3 q4
        rw [if_neg (show ¬ nI (1 + 1) = Int32.ofInt 1 by decide), if_pos (show nI (1 + 1) = Int32.ofInt 2 from rfl)]
        exact ⟨⟨fun z => absurd z c1', fun _ => ⟨fun z => absurd z nz', fun _ => ⟨fun z => absurd z (by decide), fun _ => ⟨fun _ => ⟨q1, trivial⟩, fun z => absurd rfl z⟩⟩⟩⟩, ⟨fun z => absurd z c1, fun _ => ⟨hp, r1⟩⟩, r2, r3⟩
      · obtain ⟨q1, q2, q3, q4⟩ := fz_3 oh h hK8 hP hG
        obtain ⟨r1, r2, r3⟩ := fin _ q2 q3 q4
        rw [if_neg (show ¬ nI (2 + 1) = Int32.ofInt 1 by decide), if_neg (show ¬ nI (2 + 1) = Int32.ofInt 2 by decide), if_pos (show nI (2 + 1) = Int32.ofInt 3 from rfl)]
        exact ⟨⟨fun z => absurd z c1', fun _ => ⟨fun z => absurd z nz', fun _ => ⟨fun z => absurd z (by decide), fun _ => ⟨fun z => absurd z (by decide), fun _ => ⟨fun _ => ⟨q1, trivial⟩, fun z => absurd rfl z⟩⟩⟩⟩⟩, ⟨fun z => absurd z c1, fun _ => ⟨hp, r1⟩⟩, r2, r3⟩
end
