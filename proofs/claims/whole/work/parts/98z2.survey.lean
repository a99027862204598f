/-! layer 3: the survey, and the fewest folds -/
def idI (i : Nat) : Int := (i : Int)
/-- what a survey leaves -/
def SvR (s : Rec) (q0 q' : Rec) : Prop := q'.1 = q0.1 ∧ QF q' ∧ ∀ j, j < 4 → ∀ k, k ≤ 37 → (q'.2 4 j ≤ nI k ↔ 37 ≤ k ∨ Cp (hS s) j 0 (Ph (hS s) k) idI idI)
theorem sv_90 {s q0 : Rec} : ∀ (n j : Nat) (q : Rec), j ≤ 4 → 4 < n + j → QU q (hS s) → (∀ i, i < 6 → q.2 100 i = nI i ∧ q.2 200 i = nI i) → (∀ i, i < j → q.2 4 i = nI 37) → q.1 = q0.1 → p_X5_survey_90 n q s (nI j) ∧ SvR s q0 (f_X5_survey_90 n q s (nI j)) := by
  intro n
  induction n with
  | zero => intro j q h1 h2; omega
  | succ n ih =>
    intro j q h1 h2 hU hx h4 h0
    rw [f_X5_survey_90, p_X5_survey_90]
    by_cases c1 : j = 4
    · have l1 : Int32.ofInt 3 < nI j := by rw [c1]; decide
      rw [if_pos l1]
      have hF : QF q := fun i hi => ⟨37, by omega, h4 i (by omega)⟩
      have bo : ∀ a : Nat → Int32, (∀ i, i < 6 → a i = nI i) → Bo a 5 := by
        intro a ha i hi
        rw [ha i hi, nI_toInt (by omega)]
        omega
      obtain ⟨e1, e2⟩ := ex_0 q s 0 hU hF (bo _ fun i hi => (hx i hi).1) (bo _ fun i hi => (hx i hi).2)
      refine ⟨⟨fun _ => ⟨e1, trivial⟩, fun z => absurd l1 z⟩, e2.1.trans h0, e2.2.2.2.2.1, fun j hj k hk => ?_⟩
      have e := e2.2.2.2.2.2 j hj k hk
      have e' : (f_X5_explore_c0 q s (Int32.ofInt 0)).2 4 j ≤ nI k ↔ q.2 4 j ≤ nI k ∨ 0 ≤ j ∧ Cp (hS s) (j - 0) 0 (Ph (hS s) k) (tI (q.2 100)) (tI (q.2 200)) := e
      rw [e', h4 j (by omega), nI_leI (by omega) (by omega)]
      have ax : Af (tI (q.2 100)) idI := af_c fun i hi => by
        unfold tI idI
        rw [(hx i hi).1, nI_toInt (by omega)]
      have ay : Af (tI (q.2 200)) idI := af_c fun i hi => by
        unfold tI idI
        rw [(hx i hi).2, nI_toInt (by omega)]
      constructor
      · rintro (z | ⟨_, z⟩)
        · exact Or.inl z
        · exact Or.inr (cp_af (ph_af _ k) _ _ _ _ _ _ ax ay z)
      · rintro (z | z)
        · exact Or.inl z
        · exact Or.inr ⟨by omega, cp_af (ph_af _ k) _ _ _ _ _ _ (af_s ax) (af_s ay) z⟩
    · have l1 : ¬ Int32.ofInt 3 < nI j := nI_nlt (a := 3) (b := j) (by omega) (by omega)
      rw [if_neg l1, nI_clamp (n := j) (by omega), ni1]
      have e : ∀ x, x ≠ 4 → (setA q 4 (upd (q.2 4) j (Int32.ofInt 37))).2 x = q.2 x := fun x hx => setA_ne hx
      obtain ⟨i1, i2⟩ := ih (j + 1) (setA q 4 (upd (q.2 4) j (Int32.ofInt 37))) (by omega) (by omega) (by
        unfold QU
        rw [e 2 (by decide), e 3 (by decide)]
        exact hU) (fun i hi => by rw [e 100 (by decide), e 200 (by decide)]; exact hx i hi) (fun i hi => by
        rw [setA_at, upd_at]
        by_cases z : i = j
        · rw [if_pos z]; rfl
        · rw [if_neg z]; exact h4 i (by omega)) h0
      exact ⟨⟨fun z => absurd z l1, fun _ => ⟨vp_in_nI (by omega) (by omega), i1⟩⟩, i2⟩
def QUp (q : Rec) (h : Nat → Bool) (j : Nat) : Prop := (∀ i, i < 6 → (¬ q.2 2 i = 0 ↔ ∃ c, c < j ∧ h c = true ∧ p6 c = i)) ∧ (∀ i, i < 6 → (¬ q.2 3 i = 0 ↔ ∃ c, c < j ∧ h c = true ∧ d6 c = i))
theorem sv_48 {s q0 : Rec} : ∀ (n j : Nat) (q : Rec), j ≤ 36 → 36 < n + j → QUp q (hS s) j → (∀ i, i < 6 → q.2 100 i = nI i ∧ q.2 200 i = nI i) → q.1 = q0.1 → p_X5_survey_48 n q s (nI j) ∧ SvR s q0 (f_X5_survey_48 n q s (nI j)) := by
  intro n
  induction n with
  | zero => intro j q h1 h2; omega
  | succ n ih =>
    intro j q h1 h2 hU hx h0
    rw [f_X5_survey_48, p_X5_survey_48]
    by_cases c1 : j = 36
    · have l1 : Int32.ofInt 36 ≤ nI j := by rw [c1]; decide
      rw [if_pos l1]
      rw [c1] at hU
      obtain ⟨i1, i2⟩ := sv_90 (s := s) (q0 := q0) 40 0 q (by omega) (by omega) hU hx (fun i hi => by omega) h0
      exact ⟨⟨fun _ => i1, fun z => absurd l1 z⟩, i2⟩
    · have l1 : ¬ Int32.ofInt 36 ≤ nI j := nI_ge (a := j) (b := 36) (by omega) (by omega)
      rw [if_neg l1, ni1]
      by_cases c2 : f_X4_has s (nI j) = 0
      · have hf := (has_n s (by omega)).mp c2
        rw [if_pos c2]
        have nx : ∀ g : Nat → Nat, ∀ i, (∃ c, c < j ∧ hS s c = true ∧ g c = i) ↔ ∃ c, c < j + 1 ∧ hS s c = true ∧ g c = i := by
          intro g i
          constructor
          · rintro ⟨c, k1, k2, k3⟩
            exact ⟨c, by omega, k2, k3⟩
          · rintro ⟨c, k1, k2, k3⟩
            refine ⟨c, ?_, k2, k3⟩
            by_cases z : c = j
            · rw [z, hf] at k2; exact absurd k2 (by decide)
            · omega
        obtain ⟨i1, i2⟩ := ih (j + 1) q (by omega) (by omega) ⟨fun i hi => by rw [← nx p6 i]; exact hU.1 i hi, fun i hi => by rw [← nx d6 i]; exact hU.2 i hi⟩ hx h0
        exact ⟨⟨fun z => absurd z l1, fun _ => ⟨pl_has .., fun _ => i1, fun z => absurd c2 z⟩⟩, i2⟩
      · have hf : hS s j = true := by
          cases z : hS s j with
          | false => exact absurd ((has_n s (by omega)).mpr z) c2
          | true => rfl
        rw [if_neg c2]
        have ed : nI j / Int32.ofInt 6 = nI (d6 j) := pk_div (a := j) (d := 6) (by omega) (by omega) (by omega)
        have er : nI j - nI (d6 j) * Int32.ofInt 6 = nI (p6 j) := by
          rw [← ed]
          exact pk_rem (a := j) (d := 6) (by omega) (by omega) (by omega)
        have pl := p6_lt j (by omega)
        have dl := d6_lt j (by omega)
        rw [ed, er, nI_clamp (n := p6 j) (by omega), nI_clamp (n := d6 j) (by omega)]
        have nx : ∀ (g : Nat → Nat) (f : Nat → Int32) (i : Nat), (¬ f i = 0 ↔ ∃ c, c < j ∧ hS s c = true ∧ g c = i) → (¬ upd f (g j) (Int32.ofInt 1) i = 0 ↔ ∃ c, c < j + 1 ∧ hS s c = true ∧ g c = i) := by
          intro g f i hh
          rw [upd_at]
          by_cases z : i = g j
          · rw [if_pos z]
            exact ⟨fun _ => ⟨j, by omega, hf, z.symm⟩, fun _ => by decide⟩
          · rw [if_neg z, hh]
            constructor
            · rintro ⟨c, k1, k2, k3⟩
              exact ⟨c, by omega, k2, k3⟩
            · rintro ⟨c, k1, k2, k3⟩
              refine ⟨c, ?_, k2, k3⟩
              by_cases y : c = j
              · rw [y] at k3; exact absurd k3.symm z
              · omega
        obtain ⟨i1, i2⟩ := ih (j + 1) (setA (setA q 2 (upd (q.2 2) (p6 j) (Int32.ofInt 1))) 3 (upd (q.2 3) (d6 j) (Int32.ofInt 1))) (by omega) (by omega) ⟨fun i hi => by
          rw [setA_ne (by decide), setA_at]
          exact nx p6 (q.2 2) i (hU.1 i hi), fun i hi => by
          rw [setA_at]
          exact nx d6 (q.2 3) i (hU.2 i hi)⟩ (fun i hi => by rw [setA_ne (by decide), setA_ne (by decide), setA_ne (by decide), setA_ne (by decide)]; exact hx i hi) h0
        exact ⟨⟨fun z => absurd z l1, fun _ => ⟨pl_has .., fun z => absurd z c2, fun _ => ⟨vp_in_nI pl (by omega), vp_in_nI dl (by omega), i1⟩⟩⟩, i2⟩
theorem sv_2 {s q0 : Rec} : ∀ (n j : Nat) (q : Rec), j ≤ 6 → 6 < n + j → (∀ i, i < j → q.2 2 i = 0 ∧ q.2 3 i = 0 ∧ q.2 100 i = nI i ∧ q.2 200 i = nI i) → q.1 = q0.1 → p_X5_survey_2 n q s (nI j) ∧ SvR s q0 (f_X5_survey_2 n q s (nI j)) := by
  intro n
  induction n with
  | zero => intro j q h1 h2; omega
  | succ n ih =>
    intro j q h1 h2 hx h0
    rw [f_X5_survey_2, p_X5_survey_2]
    by_cases c1 : j = 6
    · have l1 : Int32.ofInt 6 ≤ nI j := by rw [c1]; decide
      rw [if_pos l1]
      obtain ⟨i1, i2⟩ := sv_48 (s := s) (q0 := q0) 40 0 q (by omega) (by omega) ⟨fun i hi => ⟨fun z => absurd (hx i (by omega)).1 z, fun ⟨c, z, _⟩ => by omega⟩, fun i hi => ⟨fun z => absurd (hx i (by omega)).2.1 z, fun ⟨c, z, _⟩ => by omega⟩⟩ (fun i hi => (hx i (by omega)).2.2) h0
      exact ⟨⟨fun _ => i1, fun z => absurd l1 z⟩, i2⟩
    · have l1 : ¬ Int32.ofInt 6 ≤ nI j := nI_ge (a := j) (b := 6) (by omega) (by omega)
      have vj : vp_in (nI j) 6 := vp_in_nI (by omega) (by omega)
      rw [if_neg l1, nI_clamp (n := j) (by omega), ni1]
      obtain ⟨i1, i2⟩ := ih (j + 1) (setA (setA (setA (setA q 2 (upd (q.2 2) j (Int32.ofInt 0))) 3 (upd (q.2 3) j (Int32.ofInt 0))) 100 (upd (q.2 100) j (nI j))) 200 (upd (q.2 200) j (nI j))) (by omega) (by omega) (fun i hi => by
        have e2 : (setA (setA (setA (setA q 2 (upd (q.2 2) j (Int32.ofInt 0))) 3 (upd (q.2 3) j (Int32.ofInt 0))) 100 (upd (q.2 100) j (nI j))) 200 (upd (q.2 200) j (nI j))).2 2 = upd (q.2 2) j (Int32.ofInt 0) := by rw [setA_ne (by decide), setA_ne (by decide), setA_ne (by decide), setA_at]
        have e3 : (setA (setA (setA (setA q 2 (upd (q.2 2) j (Int32.ofInt 0))) 3 (upd (q.2 3) j (Int32.ofInt 0))) 100 (upd (q.2 100) j (nI j))) 200 (upd (q.2 200) j (nI j))).2 3 = upd (q.2 3) j (Int32.ofInt 0) := by rw [setA_ne (by decide), setA_ne (by decide), setA_at]
        have e4 : (setA (setA (setA (setA q 2 (upd (q.2 2) j (Int32.ofInt 0))) 3 (upd (q.2 3) j (Int32.ofInt 0))) 100 (upd (q.2 100) j (nI j))) 200 (upd (q.2 200) j (nI j))).2 100 = upd (q.2 100) j (nI j) := by rw [setA_ne (by decide), setA_at]
        rw [e2, e3, e4, setA_at, upd_at, upd_at, upd_at, upd_at]
        by_cases z : i = j
        · rw [if_pos z, if_pos z, if_pos z, if_pos z, z]
          exact ⟨rfl, rfl, rfl, rfl⟩
        · rw [if_neg z, if_neg z, if_neg z, if_neg z]
          exact hx i (by omega)) h0
      exact ⟨⟨fun z => absurd z l1, fun _ => ⟨vj, vj, vj, vj, i1⟩⟩, i2⟩
theorem sv_all (q s : Rec) : p_X5_survey q s ∧ SvR s q (f_X5_survey q s) := sv_2 (s := s) (q0 := q) 40 0 q (by omega) (by omega) (fun i hi => by omega) rfl
/-- one board, one survey -/
theorem sv_one {s s0 q q' z z' : Rec} (h : ∀ j, j < 36 → s0.2 8 j = s.2 8 j) (h1 : SvR s q q') (h2 : SvR s0 z z') : ∀ f, f < 4 → q'.2 4 f = z'.2 4 f := by
  intro f hf
  have eh : ∀ c, c < 36 → hS s0 c = hS s c := by
    intro c hc
    unfold hS
    rw [h c hc]
  have nfe : ∀ (X Y : Nat → Int) (c n : Nat), n ≤ 36 → nfs (hS s0) X Y c n = nfs (hS s) X Y c n := by
    intro X Y c n
    induction n with
    | zero => intro _; rfl
    | succ n ih =>
      intro hn
      rw [nfs, nfs, ih (by omega), eh n (by omega)]
  have pe : ∀ X Y, Pc (hS s0) X Y 36 = Pc (hS s) X Y 36 := by
    intro X Y
    unfold Pc
    refine fb_ct_cong fun c hc => ?_
    rw [eh c hc, nfe X Y c c (by omega)]
  have oe : ∀ g X l, okf (hS s0) g X l ↔ okf (hS s) g X l := by
    intro g X l
    constructor
    · rintro ⟨⟨c, c1, c2, c3⟩, d, d1, d2, d3⟩
      exact ⟨⟨c, c1, by rw [← eh c c1]; exact c2, c3⟩, d, d1, by rw [← eh d d1]; exact d2, d3⟩
    · rintro ⟨⟨c, c1, c2, c3⟩, d, d1, d2, d3⟩
      exact ⟨⟨c, c1, by rw [eh c c1]; exact c2, c3⟩, d, d1, by rw [eh d d1]; exact d2, d3⟩
  have ce : ∀ (k f a : Nat) (X Y : Nat → Int), Cp (hS s0) f a (Ph (hS s0) k) X Y ↔ Cp (hS s) f a (Ph (hS s) k) X Y := by
    intro k f
    induction f with
    | zero =>
      intro a X Y
      show Pc (hS s0) X Y 36 ≤ k ↔ Pc (hS s) X Y 36 ≤ k
      rw [pe]
    | succ f ih =>
      intro a X Y
      constructor
      · rintro (⟨z1, l, z2, z3⟩ | ⟨l, z2, z3⟩)
        · exact Or.inl ⟨z1, l, (oe _ _ _).mp z2, (ih _ _ _).mp z3⟩
        · exact Or.inr ⟨l, (oe _ _ _).mp z2, (ih _ _ _).mp z3⟩
      · rintro (⟨z1, l, z2, z3⟩ | ⟨l, z2, z3⟩)
        · exact Or.inl ⟨z1, l, (oe _ _ _).mpr z2, (ih _ _ _).mpr z3⟩
        · exact Or.inr ⟨l, (oe _ _ _).mpr z2, (ih _ _ _).mpr z3⟩
  obtain ⟨v, v1, v2⟩ := h1.2.1 f hf
  obtain ⟨w, w1, w2⟩ := h2.2.1 f hf
  have e : ∀ k, k ≤ 37 → (v ≤ k ↔ w ≤ k) := by
    intro k hk
    have a := h1.2.2 f hf k hk
    have b := h2.2.2 f hf k hk
    rw [v2, nI_leI (by omega) (by omega)] at a
    rw [w2, nI_leI (by omega) (by omega)] at b
    rw [a, b, ce]
  have := e v v1
  have := e w w1
  rw [v2, w2]
  congr 1
  omega
def SmA (P : Nat → Prop) (r : Int32) : Prop := (∃ f, f < 4 ∧ P f ∧ (∀ g, g < f → ¬ P g) ∧ r = nI f) ∨ ((∀ g, g < 4 → ¬ P g) ∧ r = -1)
theorem sma_one {P : Nat → Prop} {r r' : Int32} (h1 : SmA P r) (h2 : SmA P r') : r = r' := by
  rcases h1 with ⟨f, f1, f2, f3, f4⟩ | ⟨f1, f2⟩
  · rcases h2 with ⟨g, g1, g2, g3, g4⟩ | ⟨g1, g2⟩
    · have a : ¬ f < g := fun z => g3 f z f2
      have b : ¬ g < f := fun z => f3 g z g2
      rw [f4, g4]
      congr 1
      omega
    · exact absurd f2 (g1 f f1)
  · rcases h2 with ⟨g, g1, g2, g3, g4⟩ | ⟨g1, g2⟩
    · exact absurd g2 (f1 g g1)
    · rw [f2, g2]
theorem ff_loop {q s : Rec} {k : Nat} {P : Nat → Prop} (hP : ∀ j, j < 4 → (q.2 4 j ≤ nI k ↔ P j)) : ∀ (n j : Nat), j ≤ 4 → 4 < n + j → (∀ g, g < j → ¬ P g) → p_X5_fewestFolds_19 n q s (nI k) (nI j) ∧ SmA P (f_X5_fewestFolds_19 n q s (nI k) (nI j)).1 ∧ (f_X5_fewestFolds_19 n q s (nI k) (nI j)).2 = q := by
  intro n
  induction n with
  | zero => intro j h1 h2; omega
  | succ n ih =>
    intro j h1 h2 h3
    rw [f_X5_fewestFolds_19, p_X5_fewestFolds_19]
    by_cases c1 : j = 4
    · have l1 : Int32.ofInt 3 < nI j := by rw [c1]; decide
      rw [if_pos l1]
      exact ⟨⟨fun _ => trivial, fun z => absurd l1 z⟩, Or.inr ⟨fun g hg => h3 g (by omega), rfl⟩, rfl⟩
    · have l1 : ¬ Int32.ofInt 3 < nI j := nI_nlt (a := 3) (b := j) (by omega) (by omega)
      have vj : vp_in (nI j) 4 := vp_in_nI (by omega) (by omega)
      rw [if_neg l1, nI_clamp (n := j) (by omega), ni1]
      by_cases c2 : nI k < q.2 4 j
      · rw [if_pos c2]
        obtain ⟨i1, i2⟩ := ih (j + 1) (by omega) (by omega) (fun g hg => by
          by_cases z : g = j
          · rw [z, ← hP j (by omega)]
            exact Int32.not_le.mpr c2
          · exact h3 g (by omega))
        exact ⟨⟨fun z => absurd z l1, fun _ => ⟨vj, fun _ => i1, fun z => absurd c2 z⟩⟩, i2⟩
      · rw [if_neg c2]
        exact ⟨⟨fun z => absurd z l1, fun _ => ⟨vj, fun z => absurd z c2, fun _ => trivial⟩⟩, Or.inl ⟨j, by omega, (hP j (by omega)).mp (Int32.not_lt.mp c2), h3, rfl⟩, rfl⟩
/-- the class's answer -/
theorem ff_all {q s : Rec} {k : Nat} (hk : k ≤ 36) (hq : SmO q s) : p_X5_fewestFolds q s (nI k) ∧ SmA (fun f => Cp (hS s) f 0 (Ph (hS s) k) idI idI) (f_X5_fewestFolds q s (nI k)).1 ∧ SmO (f_X5_fewestFolds q s (nI k)).2 s := by
  obtain ⟨v1, v2⟩ := sv_all q s
  have key : ∀ q' : Rec, (∀ j, j < 4 → q'.2 4 j = (f_X5_survey q s).2 4 j) → p_X5_fewestFolds_19 40 q' s (nI k) (Int32.ofInt 0) ∧ SmA (fun f => Cp (hS s) f 0 (Ph (hS s) k) idI idI) (f_X5_fewestFolds_19 40 q' s (nI k) (Int32.ofInt 0)).1 ∧ (f_X5_fewestFolds_19 40 q' s (nI k) (Int32.ofInt 0)).2 = q' := by
    intro q' he
    refine ff_loop (fun j hj => ?_) 40 0 (by omega) (by omega) (fun g hg => by omega)
    rw [he j hj, v2.2.2 j hj k (by omega)]
    exact ⟨fun z => z.elim (fun y => by omega) id, Or.inr⟩
  unfold p_X5_fewestFolds f_X5_fewestFolds
  by_cases c : q.1 5 = 0
  · rw [if_pos c]
    obtain ⟨k1, k2, k3⟩ := key (setG (f_X5_survey q s) 5 (Int32.ofInt 1)) (fun _ _ => rfl)
    refine ⟨⟨fun _ => ⟨v1, k1⟩, fun z => absurd c z⟩, k2, ?_⟩
    rw [k3]
    refine Or.inr ⟨s, fun _ _ => rfl, fun f hf => ?_⟩
    show (f_X5_survey q s).2 4 f = _
    exact sv_one (fun _ _ => rfl) v2 (sv_all zr s).2 f hf
  · rw [if_neg c]
    rcases hq with hq | ⟨s0, h1, h2⟩
    · exact absurd hq c
    · obtain ⟨k1, k2, k3⟩ := key q (fun j hj => by
        rw [h2 j hj]
        exact (sv_one h1 v2 (sv_all zr s0).2 j hj).symm)
      refine ⟨⟨fun z => absurd z c, fun _ => k1⟩, k2, ?_⟩
      rw [k3]
      exact Or.inr ⟨s0, h1, h2⟩
