/-! layer 3: who the RULER is, which square is the top one -/
abbrev cO (g : Rec) (v : Int32) : Int32 := g.2 0 (Int32.toNatClampNeg (Int32.ofInt 8 + v))
def AtM (g : Rec) (x y v : Int32) : Prop := ¬ f_X9_isHere g v = 0 ∧ ¬ f_X9_isAt g (cO g v) x y = 0
def Bt (g : Rec) (a b : Int32) : Prop := f_X9_strengthOf g a < f_X9_strengthOf g b ∨ (f_X9_strengthOf g a = f_X9_strengthOf g b ∧ g.2 6 (cO g a).toNatClampNeg ≤ g.2 6 (cO g b).toNatClampNeg)
def RuI (g : Rec) (x y e r : Int32) : Prop := (r = -1 ∧ ∀ v, 0 ≤ v → v < e → ¬ AtM g x y v) ∨ (0 ≤ r ∧ r < e ∧ AtM g x y r ∧ ∀ v, 0 ≤ v → v < e → AtM g x y v → Bt g v r)
theorem Bt.t {g : Rec} {a b c : Int32} (h1 : Bt g a b) (h2 : Bt g b c) : Bt g a c := by
  unfold Bt at *
  grind
theorem Bt.r (g : Rec) (a : Int32) : Bt g a a := Or.inr ⟨rfl, Int32.le_refl _⟩
theorem ru_skip {g : Rec} {x y e r : Int32} (he : 0 ≤ e) (hb : e < 1000000) (h : RuI g x y e r) (hn : ¬ AtM g x y e) : RuI g x y (e + 1) r := by
  rcases h with ⟨h1, h2⟩ | ⟨h1, h2, h3, h4⟩
  · refine Or.inl ⟨h1, fun v a b => ?_⟩
    by_cases q : v = e
    · rw [q]; exact hn
    · exact h2 v a (by grind)
  · refine Or.inr ⟨h1, by grind, h3, fun v a b c => ?_⟩
    by_cases q : v = e
    · rw [q] at c; exact absurd c hn
    · exact h4 v a (by grind) c
theorem ru_keep {g : Rec} {x y e r : Int32} (he : 0 ≤ e) (hb : e < 1000000) (h : RuI g x y e r) (hr : ¬ r = -1) (hn : Bt g e r) : RuI g x y (e + 1) r := by
  rcases h with ⟨h1, h2⟩ | ⟨h1, h2, h3, h4⟩
  · exact absurd h1 hr
  · refine Or.inr ⟨h1, by grind, h3, fun v a b c => ?_⟩
    by_cases q : v = e
    · rw [q]; exact hn
    · exact h4 v a (by grind) c
theorem ru_new {g : Rec} {x y e r : Int32} (he : 0 ≤ e) (hb : e < 1000000) (h : RuI g x y e r) (ha : AtM g x y e) (hn : r = -1 ∨ Bt g r e) : RuI g x y (e + 1) e := by
  refine Or.inr ⟨he, by grind, ha, fun v a b c => ?_⟩
  by_cases q : v = e
  · rw [q]; exact Bt.r g e
  · rcases h with ⟨h1, h2⟩ | ⟨h1, h2, h3, h4⟩
    · exact absurd c (h2 v a (by grind))
    · rcases hn with hn | hn
      · grind
      · exact (h4 v a (by grind) c).t hn
theorem ru_loop {g : Rec} {e : Int32} (he : g.2 0 (Int32.toNatClampNeg (Int32.ofInt 2)) = e) (x y : Int32) : ∀ (n : Nat) (v3 v4 : Int32), FuV e n v4 → RuI g x y v4 v3 → RuI g x y e (f_X9_rulerAt_5 n g x y v3 v4) := by
  intro n
  induction n with
  | zero => intro v3 v4 hf; exact hf.z.elim
  | succ n ih =>
    intro v3 v4 hf h
    rw [f_X9_rulerAt_5, he]
    have ev : v4 + Int32.ofInt 1 = v4 + 1 := rfl
    by_cases c1 : e ≤ v4
    · rw [if_pos c1]
      have : v4 = e := by have := hf.2.2.1; grind
      rw [← this]; exact h
    · obtain ⟨f1, f2, f3⟩ := hf.s c1
      have fb := hf.1
      have fb4 : v4 < 1000000 := by grind
      rw [if_neg c1]
      by_cases c2 : f_X9_isHere g v4 = 0
      · rw [if_pos c2]
        exact ih v3 (v4 + 1) f1 (ru_skip f2 fb4 h (fun q => q.1 c2))
      · rw [if_neg c2]
        by_cases c3 : f_X9_isAt g (g.2 0 (Int32.toNatClampNeg (Int32.ofInt 8 + v4))) x y = 0
        · rw [if_pos c3]
          exact ih v3 (v4 + 1) f1 (ru_skip f2 fb4 h (fun q => q.2 c3))
        · rw [if_neg c3]
          have ha : AtM g x y v4 := ⟨c2, c3⟩
          unfold f_X9_rulerAt_54
          by_cases c4 : v3 = -1
          · rw [if_pos (show v3 = Int32.ofInt (-1) from c4), if_neg (show ¬ Int32.ofInt 1 = 0 by decide), if_neg (show ¬ Int32.ofInt 1 = 0 by decide)]
            exact ih v4 (v4 + 1) f1 (ru_new f2 fb4 h ha (Or.inl c4))
          · rw [if_neg (show ¬ v3 = Int32.ofInt (-1) from c4), if_pos (show Int32.ofInt 0 = 0 by decide)]
            have k1 := fun q => ih v3 (v4 + 1) f1 (ru_keep f2 fb4 h c4 q)
            have k2 := fun q => ih v4 (v4 + 1) f1 (ru_new f2 fb4 h ha (Or.inr q))
            unfold Bt at k1 k2
            rw [ev]
            split
            · exact k2 (by grind)
            · split
              · split
                · exact k1 (by grind)
                · exact k2 (by grind)
              · exact k1 (by grind)
theorem ru_all {p g : Rec} (h : Mn p g) (x y : Int32) : RuI g x y (p.1 5) (f_X9_rulerAt g x y) :=
  ru_loop h.2.2.1 x y 40 (-1) 0 (FuV.o h.1 h.2.1 (by decide)) (Or.inl ⟨rfl, fun v a b => by grind⟩)
/-- nobody is there -/
theorem ru_none {p g : Rec} (h : Mn p g) {x y : Int32} (hr : f_X9_rulerAt g x y = -1) (v : Int32) : ¬ AtM g x y v := by
  intro q
  obtain ⟨a, b, c⟩ := mn_here_in h q.1
  rcases ru_all h x y with ⟨h1, h2⟩ | ⟨h1, h2, h3, h4⟩
  · exact h2 v a b q
  · grind
theorem ru_some {p g : Rec} (h : Mn p g) {x y : Int32} (hr : ¬ f_X9_rulerAt g x y = -1) : 0 ≤ f_X9_rulerAt g x y ∧ f_X9_rulerAt g x y < p.1 5 ∧ AtM g x y (f_X9_rulerAt g x y) ∧ ∀ v, AtM g x y v → Bt g v (f_X9_rulerAt g x y) := by
  rcases ru_all h x y with ⟨h1, h2⟩ | ⟨h1, h2, h3, h4⟩
  · exact absurd h1 hr
  · refine ⟨h1, h2, h3, fun v hv => ?_⟩
    obtain ⟨a, b, c⟩ := mn_here_in h hv.1
    exact h4 v a b hv
theorem isAt_n {g : Rec} {c x y : Int32} : ¬ f_X9_isAt g c x y = 0 ↔ (¬ f_X9_isCell g c = 0 ∧ g.2 4 c.toNatClampNeg = x ∧ g.2 5 c.toNatClampNeg = y) := by
  unfold f_X9_isAt
  grind
/-- the top square of a POSITION -/
def ToI (g : Rec) (x y e r : Int32) : Prop := (r = -1 ∧ ∀ v, 0 ≤ v → v < e → f_X9_isAt g v x y = 0) ∨ (0 ≤ r ∧ r < e ∧ ¬ f_X9_isAt g r x y = 0 ∧ ∀ v, 0 ≤ v → v < e → ¬ f_X9_isAt g v x y = 0 → g.2 6 v.toNatClampNeg ≤ g.2 6 r.toNatClampNeg)
theorem to_sk {g : Rec} {x y e r : Int32} (he : 0 ≤ e) (hb : e < 36) (h : ToI g x y e r) (hn : f_X9_isAt g e x y = 0 ∨ (¬ r = -1 ∧ g.2 6 e.toNatClampNeg ≤ g.2 6 r.toNatClampNeg)) : ToI g x y (e + 1) r := by
  rcases h with ⟨h1, h2⟩ | ⟨h1, h2, h3, h4⟩
  · refine Or.inl ⟨h1, fun v a b => ?_⟩
    by_cases q : v = e
    · rw [q]; grind
    · exact h2 v a (by grind)
  · refine Or.inr ⟨h1, by grind, h3, fun v a b c => ?_⟩
    by_cases q : v = e
    · rw [q] at c ⊢; grind
    · exact h4 v a (by grind) c
theorem to_nw {g : Rec} {x y e r : Int32} (he : 0 ≤ e) (hb : e < 36) (h : ToI g x y e r) (ha : ¬ f_X9_isAt g e x y = 0) (hn : r = -1 ∨ g.2 6 r.toNatClampNeg ≤ g.2 6 e.toNatClampNeg) : ToI g x y (e + 1) e := by
  refine Or.inr ⟨he, by grind, ha, fun v a b c => ?_⟩
  by_cases q : v = e
  · rw [q]; exact Int32.le_refl _
  · rcases h with ⟨h1, h2⟩ | ⟨h1, h2, h3, h4⟩
    · exact absurd (h2 v a (by grind)) c
    · have := h4 v a (by grind) c
      grind
theorem to_lo {g : Rec} (x y : Int32) : ∀ (n : Nat) (v3 v4 : Int32), Fu 36 n v4 → ToI g x y v4 v3 → ToI g x y 36 (f_X9_topAt_5 n g x y v3 v4) ∧ p_X9_topAt_5 n g x y v3 v4 := by
  intro n
  induction n with
  | zero => intro v3 v4 hf; exact (hf.z (by decide)).elim
  | succ n ih =>
    intro v3 v4 hf h
    rw [f_X9_topAt_5, p_X9_topAt_5]
    have ev : v4 + Int32.ofInt 1 = v4 + 1 := rfl
    by_cases c1 : Int32.ofInt 36 ≤ v4
    · rw [if_pos c1]
      have : v4 = 36 := by have := hf.2.1; grind
      refine ⟨?_, fun _ => trivial, fun q => absurd c1 q⟩
      rw [← this]; exact h
    · obtain ⟨f1, f2, f3⟩ := hf.s (by decide) c1
      have v36 := vin36 f2 f3
      rw [if_neg c1, ev]
      by_cases c2 : f_X9_isAt g v4 x y = 0
      · rw [if_pos c2]
        obtain ⟨i1, i2⟩ := ih v3 (v4 + 1) f1 (to_sk f2 f3 h (Or.inl c2))
        exact ⟨i1, fun q => absurd q c1, fun _ => ⟨pl_isAt .., fun _ => i2, fun q => absurd c2 q⟩⟩
      · rw [if_neg c2]
        by_cases c4 : v3 = Int32.ofInt (-1)
        · rw [if_pos c4]
          obtain ⟨i1, i2⟩ := ih v4 (v4 + 1) f1 (to_nw f2 f3 h c2 (Or.inl c4))
          exact ⟨i1, fun q => absurd q c1, fun _ => ⟨pl_isAt .., fun q => absurd q c2, fun _ => ⟨fun _ => i2, fun q => absurd c4 q⟩⟩⟩
        · rw [if_neg c4]
          have h3 : 0 ≤ v3 ∧ v3 < v4 := by
            rcases h with ⟨h1, h2⟩ | ⟨h1, h2, h3, h4⟩
            · exact absurd h1 c4
            · exact ⟨h1, h2⟩
          have v336 := vin36 h3.1 (by grind)
          rw [if_pos h3.1]
          by_cases c5 : g.2 6 v4.toNatClampNeg ≤ g.2 6 v3.toNatClampNeg
          · rw [if_pos c5]
            obtain ⟨i1, i2⟩ := ih v3 (v4 + 1) f1 (to_sk f2 f3 h (Or.inr ⟨c4, c5⟩))
            exact ⟨i1, fun q => absurd q c1, fun _ => ⟨pl_isAt .., fun q => absurd q c2, fun _ => ⟨fun q => absurd q c4, fun _ => ⟨v36, fun _ => ⟨v336, fun _ => i2, fun q => absurd c5 q⟩, fun q => absurd h3.1 q⟩⟩⟩⟩
          · rw [if_neg c5]
            obtain ⟨i1, i2⟩ := ih v4 (v4 + 1) f1 (to_nw f2 f3 h c2 (Or.inr (by grind)))
            exact ⟨i1, fun q => absurd q c1, fun _ => ⟨pl_isAt .., fun q => absurd q c2, fun _ => ⟨fun q => absurd q c4, fun _ => ⟨v36, fun _ => ⟨v336, fun q => absurd q c5, fun _ => i2⟩, fun q => absurd h3.1 q⟩⟩⟩⟩
theorem to_al (g : Rec) (x y : Int32) : ToI g x y 36 (f_X9_topAt g x y) ∧ p_X9_topAt g x y :=
  to_lo x y 40 (-1) 0 (Fu.o (by decide)) (Or.inl ⟨rfl, fun v a b => by grind⟩)
theorem to_none {g : Rec} {x y : Int32} (hr : f_X9_topAt g x y = -1) (c : Int32) : f_X9_isAt g c x y = 0 := by
  by_cases q : f_X9_isAt g c x y = 0
  · exact q
  · have := isCell_in (isAt_n.mp q).1
    rcases (to_al g x y).1 with ⟨h1, h2⟩ | ⟨h1, h2, h3, h4⟩
    · exact h2 c this.1 this.2
    · grind
theorem to_some {g : Rec} {x y : Int32} (hr : ¬ f_X9_topAt g x y = -1) : 0 ≤ f_X9_topAt g x y ∧ f_X9_topAt g x y < 36 ∧ ¬ f_X9_isAt g (f_X9_topAt g x y) x y = 0 ∧ ∀ c, ¬ f_X9_isAt g c x y = 0 → g.2 6 c.toNatClampNeg ≤ g.2 6 (f_X9_topAt g x y).toNatClampNeg := by
  rcases (to_al g x y).1 with ⟨h1, h2⟩ | ⟨h1, h2, h3, h4⟩
  · exact absurd h1 hr
  · refine ⟨h1, h2, h3, fun c q => ?_⟩
    have := isCell_in (isAt_n.mp q).1
    exact h4 c this.1 this.2 q
theorem pt_loop {s : Rec} (x y : Int32) : ∀ (n : Nat) (v3 v4 : Int32), Fu 36 n v4 → (v3 = -1 ∨ (0 ≤ v3 ∧ v3 < 36)) → p_X4_topAt_5 n s x y v3 v4 := by
  intro n
  induction n with
  | zero => intro v3 v4 hf; exact (hf.z (by decide)).elim
  | succ n ih =>
    intro v3 v4 hf h
    rw [p_X4_topAt_5]
    refine ⟨fun _ => trivial, fun c1 => ?_⟩
    obtain ⟨f1, f2, f3⟩ := hf.s (by decide) c1
    have v36 := vin36 f2 f3
    have i1 := ih v3 (v4 + 1) f1 h
    have i2 := ih v4 (v4 + 1) f1 (Or.inr ⟨f2, f3⟩)
    refine ⟨pl_liesAt .., fun _ => i1, fun _ => ⟨fun _ => i2, fun c4 => ?_⟩⟩
    rcases h with h | h
    · exact absurd h c4
    · exact ⟨v36, vin36 h.1 h.2, fun _ => i1, fun _ => i2⟩
theorem pt_top (s : Rec) (x y : Int32) : p_X4_topAt s x y := pt_loop x y 40 (-1) 0 (Fu.o (by decide)) (Or.inl rfl)
