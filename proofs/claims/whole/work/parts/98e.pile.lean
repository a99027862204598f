/-! layer 3: pile -/
theorem lie_at {s g : Rec} (hs : SG s g) {c x y : Int32} (hc : ¬ f_X9_isAt g c x y = 0) (v : Int32) : f_X4_liesAt s v (s.2 10 c.toNatClampNeg) (s.2 11 c.toNatClampNeg) = f_X9_isAt g v x y := by
  obtain ⟨a1, a2, a3⟩ := isAt_n.mp hc
  have ic := isCell_in a1
  obtain ⟨_, g2, g3, _, _⟩ := hs c ic.1 ic.2
  rw [g2, g3, a2, a3]
  exact sg_liesAt hs v x y
theorem cu_lt {s g : Rec} (hs : SG s g) {c x y : Int32} (hc : ¬ f_X9_isAt g c x y = 0) : ∀ (n : Nat) (a b v : Int32), Fu 36 n v → 0 ≤ a → a ≤ b → b ≤ v → (c < v → a < b) → f_X4_cellsUnder_4 n s c a v < f_X4_heightAt_5 n s x y b v := by
  have ic := isCell_in (isAt_n.mp hc).1
  intro n
  induction n with
  | zero => intro a b v hf; exact (hf.z (by decide)).elim
  | succ n ih =>
    intro a b v hf a0 ab bv hcv
    rw [f_X4_cellsUnder_4, f_X4_heightAt_5, lie_at hs hc, sg_liesAt hs]
    by_cases c1 : Int32.ofInt 36 ≤ v
    · rw [if_pos c1, if_pos c1]
      exact hcv (by grind)
    · obtain ⟨f1, f2, f3⟩ := hf.s (by decide) c1
      have ev : v + Int32.ofInt 1 = v + 1 := rfl
      have ea : a + Int32.ofInt 1 = a + 1 := rfl
      have eb : b + Int32.ofInt 1 = b + 1 := rfl
      rw [if_neg c1, if_neg c1, ev, ea, eb]
      by_cases c2 : f_X9_isAt g v x y = 0
      · rw [if_pos c2, if_pos c2]
        refine ih a b (v + 1) f1 a0 ab (by grind) (fun z => ?_)
        by_cases e : c = v
        · rw [e] at hc; exact absurd c2 hc
        · exact hcv (by grind)
      · rw [if_neg c2, if_neg c2]
        by_cases c3 : s.2 12 c.toNatClampNeg ≤ s.2 12 v.toNatClampNeg
        · rw [if_pos c3]
          exact ih a (b + 1) (v + 1) f1 a0 (by grind) (by grind) (fun _ => by grind)
        · rw [if_neg c3]
          refine ih (a + 1) (b + 1) (v + 1) f1 (by grind) (by grind) (by grind) (fun z => ?_)
          by_cases e : c = v
          · rw [e] at c3
            exact absurd (Int32.le_refl _) c3
          · have := hcv (by grind)
            grind
theorem pi97 {s g : Rec} (hs : SG s g) (K84 : Rec → Int32 → Int32 → Int32 → Int32 → Int32 × Rec) (G84 : Rec → Int32 → Int32 → Int32 → Int32 → Prop) (x y i : Int32) {c : Int32} (c0 : 0 ≤ c) (c1 : c < 36) (hp : G84 g x y i (c + 1)) : ∀ (n : Nat) (v6 v7 : Int32), Fu 36 n v7 → p_X9_pile_97 G84 n g x y i c v6 v7 ∧ f_X9_pile_97 K84 n g x y i c v6 v7 = if f_X9_isAt g c x y = 0 then K84 g x y i (c + 1) else if f_X4_cellsUnder_4 n s c v6 v7 = i then (c, g) else K84 g x y i (c + 1) := by
  have v36c := vin36 c0 c1
  have hp' : G84 g x y i (c + Int32.ofInt 1) := hp
  intro n
  induction n with
  | zero => intro v6 v7 hf; exact (hf.z (by decide)).elim
  | succ n ih =>
    intro v6 v7 hf
    rw [p_X9_pile_97, f_X9_pile_97, f_X4_cellsUnder_4]
    have ev : v7 + Int32.ofInt 1 = v7 + 1 := rfl
    have ec : c + Int32.ofInt 1 = c + 1 := rfl
    have e6 : v6 + Int32.ofInt 1 = v6 + 1 := rfl
    have z6 : v6 + Int32.ofInt 0 = v6 := by show v6 + 0 = v6; grind
    rw [ev, ec, e6, z6]
    by_cases d1 : Int32.ofInt 36 ≤ v7
    · rw [if_pos d1, if_pos d1]
      exact ⟨⟨fun _ => ⟨pl_isAt .., fun _ => hp, fun _ => ⟨fun _ => trivial, fun _ => hp⟩⟩, fun z => absurd d1 z⟩, rfl⟩
    · obtain ⟨f1, f2, f3⟩ := hf.s (by decide) d1
      have v36 := vin36 f2 f3
      rw [if_neg d1, if_neg d1]
      by_cases d2 : f_X9_isAt g c x y = 0
      · rw [if_pos d2, if_pos d2, if_pos d2]
        exact ⟨⟨fun z => absurd z d1, fun _ => ⟨pl_isAt .., fun _ => ⟨pl_isAt .., fun _ => hp, fun z => absurd d2 z⟩, fun z => absurd d2 z⟩⟩, rfl⟩
      · rw [if_neg d2, if_neg d2, lie_at hs d2, (hs c c0 c1).2.2.2.1, (hs v7 f2 f3).2.2.2.1]
        obtain ⟨i1, i2⟩ := ih v6 (v7 + 1) f1
        obtain ⟨j1, j2⟩ := ih (v6 + 1) (v7 + 1) f1
        rw [if_neg d2] at i2 j2
        by_cases d3 : f_X9_isAt g v7 x y = 0
        · rw [if_pos d3, if_pos d3]
          exact ⟨⟨fun z => absurd z d1, fun _ => ⟨pl_isAt .., fun z => absurd z d2, fun _ => ⟨pl_isAt .., fun _ => i1, fun z => absurd d3 z⟩⟩⟩, i2⟩
        · rw [if_neg d3, if_neg d3]
          by_cases d4 : g.2 6 c.toNatClampNeg ≤ g.2 6 v7.toNatClampNeg
          · rw [if_pos d4, if_pos d4]
            exact ⟨⟨fun z => absurd z d1, fun _ => ⟨pl_isAt .., fun z => absurd z d2, fun _ => ⟨pl_isAt .., fun z => absurd z d3, fun _ => ⟨v36, v36c, fun _ => i1, fun z => absurd d4 z⟩⟩⟩⟩, i2⟩
          · rw [if_neg d4, if_neg d4]
            exact ⟨⟨fun z => absurd z d1, fun _ => ⟨pl_isAt .., fun z => absurd z d2, fun _ => ⟨pl_isAt .., fun z => absurd z d3, fun _ => ⟨v36, v36c, fun z => absurd z d4, fun _ => j1⟩⟩⟩⟩, j2⟩
theorem pi84 {s g : Rec} (hs : SG s g) (x y i : Int32) : ∀ (n : Nat) (v : Int32), Fu 36 n v → p_X9_pile_84 n g x y i v ∧ f_X9_pile_84 n g x y i v = ((if f_X4_cellAt_3 n s x y i v = Int32.ofInt (-1) then Int32.ofInt (-5) else f_X4_cellAt_3 n s x y i v), g) ∧ (f_X4_heightAt s x y ≤ i → f_X4_cellAt_3 n s x y i v = Int32.ofInt (-1)) := by
  intro n
  induction n with
  | zero => intro v hf; exact (hf.z (by decide)).elim
  | succ n ih =>
    intro v hf
    rw [p_X9_pile_84, f_X9_pile_84, f_X4_cellAt_3, sg_liesAt hs]
    by_cases c1 : Int32.ofInt 36 ≤ v
    · simp only [if_pos c1, if_true]
      exact ⟨⟨fun _ => trivial, fun z => absurd c1 z⟩, trivial, fun _ => trivial⟩
    · obtain ⟨f1, f2, f3⟩ := hf.s (by decide) c1
      obtain ⟨i1, i2, i3⟩ := ih (v + 1) f1
      obtain ⟨q1, q2⟩ := pi97 hs (f_X9_pile_84 n) (p_X9_pile_84 n) x y i f2 f3 i1 40 0 0 (Fu.o (by decide))
      have q2' : f_X9_pile_97 (f_X9_pile_84 n) 40 g x y i v (Int32.ofInt 0) (Int32.ofInt 0) = _ := q2
      have cu : f_X4_cellsUnder_4 40 s v 0 0 = f_X4_cellsUnder s v := rfl
      rw [cu] at q2'
      have ev : v + Int32.ofInt 1 = v + 1 := rfl
      rw [if_neg c1, if_neg c1, q2', ev]
      by_cases c2 : f_X9_isAt g v x y = 0
      · rw [if_pos c2, if_pos c2]
        exact ⟨⟨fun z => absurd z c1, fun _ => q1⟩, i2, i3⟩
      · rw [if_neg c2, if_neg c2]
        by_cases c3 : f_X4_cellsUnder s v = i
        · rw [if_pos c3, if_pos c3]
          have nv : ¬ v = Int32.ofInt (-1) := by
            show ¬ v = -1
            grind
          rw [if_neg nv]
          refine ⟨⟨fun z => absurd z c1, fun _ => q1⟩, rfl, fun z => ?_⟩
          exfalso
          have := cu_lt hs c2 40 0 0 0 (Fu.o (by decide)) (by decide) (by decide) (by decide) (fun z => by grind)
          have e1 : f_X4_heightAt_5 40 s x y 0 0 = f_X4_heightAt s x y := rfl
          rw [cu, e1, c3] at this
          grind
        · rw [if_neg c3, if_neg c3]
          exact ⟨⟨fun z => absurd z c1, fun _ => q1⟩, i2, i3⟩
theorem pi23 {s g : Rec} (hs : SG s g) (x y i : Int32) : ∀ (n : Nat) (v4 v5 : Int32), Fu 36 n v5 → p_X9_pile_23 n g x y i v4 v5 ∧ f_X9_pile_23 n g x y i v4 v5 = if i = Int32.ofInt (-1) then (f_X4_heightAt_5 n s x y v4 v5, g) else if i < f_X4_heightAt_5 n s x y v4 v5 then f_X9_pile_84 40 g x y i (Int32.ofInt 0) else (Int32.ofInt (-5), g) := by
  have p84 := (pi84 hs x y i 40 0 (Fu.o (by decide))).1
  intro n
  induction n with
  | zero => intro v4 v5 hf; exact (hf.z (by decide)).elim
  | succ n ih =>
    intro v4 v5 hf
    rw [p_X9_pile_23, f_X9_pile_23, f_X4_heightAt_5, sg_liesAt hs]
    by_cases c1 : Int32.ofInt 36 ≤ v5
    · rw [if_pos c1, if_pos c1]
      refine ⟨⟨fun _ => ⟨fun _ => trivial, fun _ => ⟨fun _ => p84, fun _ => trivial⟩⟩, fun z => absurd c1 z⟩, ?_⟩
      by_cases c2 : i = Int32.ofInt (-1)
      · simp only [if_pos c2]
      · simp only [if_neg c2]
    · obtain ⟨f1, f2, f3⟩ := hf.s (by decide) c1
      have ev : v5 + Int32.ofInt 1 = v5 + 1 := rfl
      have e4 : v4 + Int32.ofInt 1 = v4 + 1 := rfl
      have z4 : v4 + Int32.ofInt 0 = v4 := by show v4 + 0 = v4; grind
      rw [if_neg c1, if_neg c1, ev, e4, z4]
      obtain ⟨i1, i2⟩ := ih v4 (v5 + 1) f1
      obtain ⟨j1, j2⟩ := ih (v4 + 1) (v5 + 1) f1
      by_cases c2 : f_X9_isAt g v5 x y = 0
      · rw [if_pos c2, if_pos c2]
        exact ⟨⟨fun z => absurd z c1, fun _ => ⟨pl_isAt .., fun _ => i1, fun z => absurd c2 z⟩⟩, i2⟩
      · rw [if_neg c2, if_neg c2]
        exact ⟨⟨fun z => absurd z c1, fun _ => ⟨pl_isAt .., fun z => absurd z c2, fun _ => j1⟩⟩, j2⟩
section
variable {K : Int32} {c s p t e q s1 p1 s2 p2 t1 t2 m : Rec}
theorem c_pile (o oh h k : Rec) (x y i : Int32) (hK : K < 100000) (hI : Inv K c s p t e q s1 p1 s2 p2 t1 t2 m) : p_X8_pile c s p t e o oh h k q s1 p1 s2 p2 t1 t2 x y i ∧ p_X9_pile m x y i ∧ (f_X8_pile c s p t e o oh h k q s1 p1 s2 p2 t1 t2 x y i).1 = (f_X9_pile m x y i).1 ∧ Inv (K + 1) (f_X8_pile c s p t e o oh h k q s1 p1 s2 p2 t1 t2 x y i).2 s p t e q s1 p1 s2 p2 t1 t2 (f_X9_pile m x y i).2 := by
  obtain ⟨hP, hG, hp, hF, hb⟩ := inv_g hI
  obtain ⟨a1, a2⟩ := pi23 hP.1 x y i 40 0 0 (Fu.o (by decide))
  obtain ⟨b1, b2, b3⟩ := pi84 hP.1 x y i 40 0 (Fu.o (by decide))
  have iv := inv_h hK hF hI
  have a2' : f_X9_pile_23 40 (f_X9_lays m) x y i (Int32.ofInt 0) (Int32.ofInt 0) = if i = Int32.ofInt (-1) then (f_X4_heightAt s x y, f_X9_lays m) else if i < f_X4_heightAt s x y then f_X9_pile_84 40 (f_X9_lays m) x y i (Int32.ofInt 0) else (Int32.ofInt (-5), f_X9_lays m) := a2
  have b2' : f_X9_pile_84 40 (f_X9_lays m) x y i (Int32.ofInt 0) = ((if f_X4_cellAt s x y i = Int32.ofInt (-1) then Int32.ofInt (-5) else f_X4_cellAt s x y i), f_X9_lays m) := b2
  have b3' : f_X4_heightAt s x y ≤ i → f_X4_cellAt s x y i = Int32.ofInt (-1) := b3
  unfold p_X8_pile p_X9_pile f_X8_pile f_X9_pile
  by_cases c1 : Int32.ofInt (-1) ≤ i
  · rw [if_pos c1, if_pos c1, a2']
    refine ⟨⟨fun _ => ⟨fun _ => ⟨pp_heightAt s x y, trivial⟩, fun _ => ⟨pp_cellAt s x y i, trivial⟩⟩, fun z => absurd c1 z⟩, ⟨fun _ => ⟨hp, a1⟩, fun z => absurd c1 z⟩, ?_⟩
    by_cases c2 : i = Int32.ofInt (-1)
    · rw [if_pos c2, if_pos c2]
      dsimp only
      exact ⟨rfl, iv⟩
    · rw [if_neg c2, if_neg c2]
      by_cases c3 : i < f_X4_heightAt s x y
      · rw [if_pos c3, b2']
        by_cases c4 : f_X4_cellAt s x y i = Int32.ofInt (-1)
        · rw [if_pos c4, if_pos c4]
          dsimp only
          exact ⟨rfl, iv⟩
        · rw [if_neg c4, if_neg c4]
          dsimp only
          exact ⟨rfl, iv⟩
      · rw [if_neg c3, if_pos (b3' (by grind))]
        dsimp only
        exact ⟨rfl, iv⟩
  · rw [if_neg c1, if_neg c1]
    exact ⟨⟨fun z => absurd z c1, fun _ => trivial⟩, ⟨fun z => absurd z c1, fun _ => ⟨pp_ref m _ (by decide) (by decide), trivial⟩⟩, rfl, ref_bad _ hK hI⟩
end
