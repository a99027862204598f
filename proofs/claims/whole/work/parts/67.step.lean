/-! layer 3: who stands on a square -/
theorem mo_loop {p g : Rec} (s : Rec) (h : Mn p g) (c : Int32) : ∀ (n : Nat) (v2 : Int32), FuV (p.1 5) n v2 → (∀ v, 0 ≤ v → v < v2 → ¬ f_X9_isHere g v = 0 → ¬ p.2 4 v.toNatClampNeg = c) →
    p_X3_manOn_2 n s p c v2 ∧ ((f_X3_manOn_2 n s p c v2 = -1 ∧ ∀ v, ¬ f_X9_isHere g v = 0 → ¬ p.2 4 v.toNatClampNeg = c) ∨ (¬ f_X9_isHere g (f_X3_manOn_2 n s p c v2) = 0 ∧ p.2 4 (f_X3_manOn_2 n s p c v2).toNatClampNeg = c)) := by
  intro n
  induction n with
  | zero => intro v2 hf; exact hf.z.elim
  | succ n ih =>
    intro v2 hf hv
    rw [p_X3_manOn_2, f_X3_manOn_2, mn_here s h]
    by_cases c1 : p.1 5 ≤ v2
    · rw [if_pos c1]
      refine ⟨⟨fun _ => trivial, fun q => absurd c1 q⟩, Or.inl ⟨rfl, fun v q => ?_⟩⟩
      obtain ⟨a, b, _⟩ := mn_here_in h q
      exact hv v a (by grind) q
    · obtain ⟨f1, f2, f3⟩ := hf.s c1
      have n8 := h.2.1
      have v8 := vinb (n := 8) (x := v2) f2 (by grind)
      rw [if_neg c1]
      have ev : v2 + Int32.ofInt 1 = v2 + 1 := rfl
      rw [ev]
      by_cases c2 : f_X9_isHere g v2 = 0
      · rw [if_pos c2]
        obtain ⟨i1, i2⟩ := ih (v2 + 1) f1 (fun v a b q => by
          by_cases e : v = v2
          · rw [e] at q; exact absurd c2 q
          · exact hv v a (by grind) q)
        exact ⟨⟨fun q => absurd q c1, fun _ => ⟨pl_isIn s n8 v2, fun _ => i1, fun q => absurd c2 q⟩⟩, i2⟩
      · rw [if_neg c2]
        by_cases c3 : p.2 4 v2.toNatClampNeg = c
        · rw [if_pos c3]
          exact ⟨⟨fun q => absurd q c1, fun _ => ⟨pl_isIn s n8 v2, fun q => absurd q c2, fun _ => ⟨v8, fun _ => trivial, fun q => absurd c3 q⟩⟩⟩, Or.inr ⟨c2, c3⟩⟩
        · rw [if_neg c3]
          obtain ⟨i1, i2⟩ := ih (v2 + 1) f1 (fun v a b q => by
            by_cases e : v = v2
            · rw [e]; exact c3
            · exact hv v a (by grind) q)
          exact ⟨⟨fun q => absurd q c1, fun _ => ⟨pl_isIn s n8 v2, fun q => absurd q c2, fun _ => ⟨v8, fun q => absurd q c3, fun _ => i1⟩⟩⟩, i2⟩
theorem mo_all {p g : Rec} (s : Rec) (h : Mn p g) (c : Int32) : p_X3_manOn s p c ∧ ((f_X3_manOn s p c = -1 ∧ ∀ v, ¬ f_X9_isHere g v = 0 → ¬ p.2 4 v.toNatClampNeg = c) ∨ (¬ f_X9_isHere g (f_X3_manOn s p c) = 0 ∧ p.2 4 (f_X3_manOn s p c).toNatClampNeg = c)) :=
  mo_loop s h c 40 0 (FuV.o h.1 h.2.1 (by decide)) (fun v a b => by grind)
theorem im_loop {p g : Rec} (h : Mn p g) (c : Int32) : ∀ (n : Nat) (v2 v3 : Int32), FuV (p.1 5) n v3 → (v2 = 0 ∨ v2 = 1) →
    p_X9_isManOn_4 n g c v2 v3 ∧ (f_X9_isManOn_4 n g c v2 v3 = 0 ∨ f_X9_isManOn_4 n g c v2 v3 = 1) ∧ (f_X9_isManOn_4 n g c v2 v3 = 0 ↔ v2 = 0 ∧ ∀ v, v3 ≤ v → v < p.1 5 → ¬ p.2 4 v.toNatClampNeg = c) := by
  intro n
  induction n with
  | zero => intro v2 v3 hf; exact hf.z.elim
  | succ n ih =>
    intro v2 v3 hf hv
    rw [p_X9_isManOn_4, f_X9_isManOn_4, h.2.2.1]
    by_cases c1 : p.1 5 ≤ v3
    · rw [if_pos c1]
      exact ⟨⟨fun _ => ⟨hv, trivial⟩, fun q => absurd c1 q⟩, hv, ⟨fun q => ⟨q, fun v a b => by grind⟩, fun q => q.1⟩⟩
    · obtain ⟨f1, f2, f3⟩ := hf.s c1
      have n8 := h.2.1
      have v248 := vinb (n := 248) (x := Int32.ofInt 8 + v3) (by grind) (by grind)
      have e4 := (h.2.2.2 v3 f2 f3).2.2.2.1
      have ev : v3 + Int32.ofInt 1 = v3 + 1 := rfl
      have eo : Int32.ofInt 1 = 1 := rfl
      have ez : Int32.ofInt 0 = 0 := rfl
      rw [if_neg c1, e4, ev, eo, ez]
      obtain ⟨i1, i2, i3⟩ := ih 0 (v3 + 1) f1 (Or.inl rfl)
      obtain ⟨j1, j2, j3⟩ := ih 1 (v3 + 1) f1 (Or.inr rfl)
      by_cases c2 : v2 = 0
      · rw [if_pos c2]
        by_cases c3 : p.2 4 v3.toNatClampNeg = c
        · rw [if_pos c3]
          refine ⟨⟨fun q => absurd q c1, fun _ => ⟨fun _ => ⟨v248, fun _ => j1, fun q => absurd c3 q⟩, fun q => absurd c2 q⟩⟩, j2, ⟨fun q => absurd (j3.mp q).1 (by decide), fun q => absurd c3 (q.2 v3 (Int32.le_refl _) f3)⟩⟩
        · rw [if_neg c3]
          refine ⟨⟨fun q => absurd q c1, fun _ => ⟨fun _ => ⟨v248, fun q => absurd q c3, fun _ => i1⟩, fun q => absurd c2 q⟩⟩, i2, ⟨fun q => ⟨c2, fun v a b => ?_⟩, fun q => i3.mpr ⟨rfl, fun v a b => q.2 v (by grind) b⟩⟩⟩
          by_cases e : v = v3
          · rw [e]; exact c3
          · exact (i3.mp q).2 v (by grind) b
      · rw [if_neg c2]
        exact ⟨⟨fun q => absurd q c1, fun _ => ⟨fun q => absurd q c2, fun _ => j1⟩⟩, j2, ⟨fun q => absurd (j3.mp q).1 (by decide), fun q => absurd q.1 c2⟩⟩
theorem im_all {p g : Rec} (h : Mn p g) (c : Int32) : p_X9_isManOn g c ∧ (f_X9_isManOn g c = 0 ∨ f_X9_isManOn g c = 1) ∧ (f_X9_isManOn g c = 0 ↔ ∀ v, 0 ≤ v → v < p.1 5 → ¬ p.2 4 v.toNatClampNeg = c) := by
  obtain ⟨a, b, c⟩ := im_loop h c 40 0 0 (FuV.o h.1 h.2.1 (by decide)) (Or.inl rfl)
  exact ⟨a, b, c.trans ⟨fun q => q.2, fun q => ⟨rfl, q⟩⟩⟩
theorem mo_im {p g : Rec} (s : Rec) (h : Mn p g) {c : Int32} (hc : 0 ≤ c) : f_X3_manOn s p c = -1 ↔ f_X9_isManOn g c = 0 := by
  rw [(im_all h c).2.2]
  rcases (mo_all s h c).2 with ⟨a, b⟩ | ⟨a, b⟩
  · refine ⟨fun _ v q0 q1 e => ?_, fun _ => a⟩
    refine b v (fun z => ?_) e
    have := (mn_here_n h q0 q1).mp z
    grind
  · obtain ⟨q0, q1, q2⟩ := mn_here_in h a
    refine ⟨fun z => by grind, fun z => absurd b (z _ q0 q1)⟩
theorem dis {K : Int32} {p g : Rec} (hG : GI K g) (h : Mn p g) {u v : Int32} (hu : ¬ f_X9_isHere g u = 0) (hv : ¬ f_X9_isHere g v = 0) (e : p.2 4 u.toNatClampNeg = p.2 4 v.toNatClampNeg) : u = v := by
  obtain ⟨_, _, _, _, _, _, _, _, _, hd⟩ := hG
  obtain ⟨u0, u1, u2⟩ := mn_here_in h hu
  obtain ⟨v0, v1, v2⟩ := mn_here_in h hv
  obtain ⟨n0, n8, n2, hm⟩ := h
  have eu := (hm u u0 u1).2.2.2.1
  have ev := (hm v v0 v1).2.2.2.1
  rw [ix8 u0 (by grind)] at eu
  rw [ix8 v0 (by grind)] at ev
  have iu := isCell_in u2
  have iv := isCell_in v2
  have bu := cl8 u0 (by grind)
  have bv := cl8 v0 (by grind)
  have n2' : g.2 0 2 = p.1 5 := n2
  rcases Nat.lt_trichotomy u.toNatClampNeg v.toNatClampNeg with q | q | q
  · have := hd v.toNatClampNeg u.toNatClampNeg (by rw [Int32.ofNat_toNatClampNeg v v0, n2']; exact v1) bv q (by rw [eu, ev]; exact e)
    rw [ev] at this
    grind
  · exact cl_inj u0 v0 q
  · have := hd u.toNatClampNeg v.toNatClampNeg (by rw [Int32.ofNat_toNatClampNeg u u0, n2']; exact u1) bu q (by rw [eu, ev]; exact e.symm)
    rw [eu] at this
    grind
theorem mo_is {K : Int32} {p g : Rec} (s : Rec) (hG : GI K g) (h : Mn p g) {v : Int32} (hv : ¬ f_X9_isHere g v = 0) : f_X3_manOn s p (p.2 4 v.toNatClampNeg) = v := by
  rcases (mo_all s h (p.2 4 v.toNatClampNeg)).2 with ⟨a, b⟩ | ⟨a, b⟩
  · exact absurd rfl (b v hv)
  · exact dis hG h a hv b
/-! a STEP that may be -/
def Leg (g : Rec) (x y w d : Int32) : Prop := ¬ 0 < g.2 0 27 ∧ ¬ f_X9_rulerAt g x y = -1 ∧ f_X9_ownerOf g (f_X9_rulerAt g x y) = f_X9_turn g ∧
  (d = 2 → g.2 0 (Int32.toNatClampNeg (Int32.ofInt 28 + Int32.ofInt 3 * f_X9_rulerAt g x y)) = 4 ∧ ¬ f_X9_topAt g (x + f_X9_wayX w) (y + f_X9_wayY w) = -1 ∧ f_X9_rulerAt g (x + f_X9_wayX w) (y + f_X9_wayY w) = -1) ∧
  ¬ f_X9_topAt g (x + d * f_X9_wayX w) (y + d * f_X9_wayY w) = -1 ∧
  (¬ f_X9_rulerAt g (x + d * f_X9_wayX w) (y + d * f_X9_wayY w) = -1 → ¬ f_X9_ownerOf g (f_X9_rulerAt g (x + d * f_X9_wayX w) (y + d * f_X9_wayY w)) = f_X9_ownerOf g (f_X9_rulerAt g x y) ∧ f_X9_strengthOf g (f_X9_rulerAt g (x + d * f_X9_wayX w) (y + d * f_X9_wayY w)) < f_X9_strengthOf g (f_X9_rulerAt g x y))
theorem steps_leg (g : Rec) (x y w d : Int32) : (Leg g x y w d → f_X9_steps g x y w d = f_X9_steps_195 g (f_X9_rulerAt g x y) (f_X9_rulerAt g (x + d * f_X9_wayX w) (y + d * f_X9_wayY w)) (f_X9_topAt g (x + d * f_X9_wayX w) (y + d * f_X9_wayY w))) ∧ (¬ Leg g x y w d → f_X9_steps g x y w d = (0, g)) := by
  unfold f_X9_steps f_X9_steps_61 f_X9_steps_109 Leg
  have e27 : g.2 0 (Int32.toNatClampNeg (Int32.ofInt 27)) = g.2 0 27 := rfl
  have em : Int32.ofInt (-1) = -1 := rfl
  have e2 : Int32.ofInt 2 = 2 := rfl
  have e4 : Int32.ofInt 4 = 4 := rfl
  have ez : Int32.ofInt 0 = 0 := rfl
  rw [e27, em, e2, e4, ez]
  generalize f_X9_steps_195 g (f_X9_rulerAt g x y) (f_X9_rulerAt g (x + d * f_X9_wayX w) (y + d * f_X9_wayY w)) (f_X9_topAt g (x + d * f_X9_wayX w) (y + d * f_X9_wayY w)) = Z
  constructor
  · rintro ⟨h1, h2, h3, h4, h5, h6⟩
    rw [if_neg h1, if_neg h2, if_pos h3]
    by_cases hd : d = 2
    · obtain ⟨k1, k2, k3⟩ := h4 hd
      rw [if_pos hd, if_pos k1, if_pos hd, if_neg k2, if_pos k3, if_neg h5]
      by_cases hr : f_X9_rulerAt g (x + d * f_X9_wayX w) (y + d * f_X9_wayY w) = -1
      · rw [if_pos hr]
      · rw [if_neg hr, if_neg (h6 hr).1, if_pos (h6 hr).2]
    · rw [if_neg hd, if_neg hd, if_neg h5]
      by_cases hr : f_X9_rulerAt g (x + d * f_X9_wayX w) (y + d * f_X9_wayY w) = -1
      · rw [if_pos hr]
      · rw [if_neg hr, if_neg (h6 hr).1, if_pos (h6 hr).2]
  · intro h
    by_cases h1 : 0 < g.2 0 27
    · rw [if_pos h1]
    · rw [if_neg h1]
      by_cases h2 : f_X9_rulerAt g x y = -1
      · rw [if_pos h2]
      · rw [if_neg h2]
        by_cases h3 : f_X9_ownerOf g (f_X9_rulerAt g x y) = f_X9_turn g
        · rw [if_pos h3]
          by_cases h5 : f_X9_topAt g (x + d * f_X9_wayX w) (y + d * f_X9_wayY w) = -1
          · rw [if_pos h5]
            repeat' split
            all_goals rfl
          · rw [if_neg h5]
            by_cases hd : d = 2
            · rw [if_pos hd, if_pos hd]
              by_cases k1 : g.2 0 (Int32.toNatClampNeg (Int32.ofInt 28 + Int32.ofInt 3 * f_X9_rulerAt g x y)) = 4
              · rw [if_pos k1]
                by_cases k2 : f_X9_topAt g (x + f_X9_wayX w) (y + f_X9_wayY w) = -1
                · rw [if_pos k2]
                · rw [if_neg k2]
                  by_cases k3 : f_X9_rulerAt g (x + f_X9_wayX w) (y + f_X9_wayY w) = -1
                  · rw [if_pos k3]
                    by_cases hr : f_X9_rulerAt g (x + d * f_X9_wayX w) (y + d * f_X9_wayY w) = -1
                    · exact absurd ⟨h1, h2, h3, fun _ => ⟨k1, k2, k3⟩, h5, fun q => absurd hr q⟩ h
                    · rw [if_neg hr]
                      by_cases o1 : f_X9_ownerOf g (f_X9_rulerAt g (x + d * f_X9_wayX w) (y + d * f_X9_wayY w)) = f_X9_ownerOf g (f_X9_rulerAt g x y)
                      · rw [if_pos o1]
                      · rw [if_neg o1]
                        by_cases o2 : f_X9_strengthOf g (f_X9_rulerAt g (x + d * f_X9_wayX w) (y + d * f_X9_wayY w)) < f_X9_strengthOf g (f_X9_rulerAt g x y)
                        · exact absurd ⟨h1, h2, h3, fun _ => ⟨k1, k2, k3⟩, h5, fun _ => ⟨o1, o2⟩⟩ h
                        · rw [if_neg o2]
                  · rw [if_neg k3]
              · rw [if_neg k1]
            · rw [if_neg hd, if_neg hd]
              by_cases hr : f_X9_rulerAt g (x + d * f_X9_wayX w) (y + d * f_X9_wayY w) = -1
              · exact absurd ⟨h1, h2, h3, fun q => absurd q hd, h5, fun q => absurd hr q⟩ h
              · rw [if_neg hr]
                by_cases o1 : f_X9_ownerOf g (f_X9_rulerAt g (x + d * f_X9_wayX w) (y + d * f_X9_wayY w)) = f_X9_ownerOf g (f_X9_rulerAt g x y)
                · rw [if_pos o1]
                · rw [if_neg o1]
                  by_cases o2 : f_X9_strengthOf g (f_X9_rulerAt g (x + d * f_X9_wayX w) (y + d * f_X9_wayY w)) < f_X9_strengthOf g (f_X9_rulerAt g x y)
                  · exact absurd ⟨h1, h2, h3, fun q => absurd q hd, h5, fun _ => ⟨o1, o2⟩⟩ h
                  · rw [if_neg o2]
        · rw [if_neg h3]
theorem way_eq {w : Int32} (h0 : 0 ≤ w) (h3 : w ≤ 3) : wXf w.toNatClampNeg = f_X9_wayX w ∧ wYf w.toNatClampNeg = f_X9_wayY w := by
  have : w = 0 ∨ w = 1 ∨ w = 2 ∨ w = 3 := by grind
  rcases this with rfl | rfl | rfl | rfl <;> decide
theorem pow_eq {s p g : Rec} (hs : SG s g) (h : Mn p g) {v : Int32} (hv : ¬ f_X9_isHere g v = 0) : p_X3_powerOf s p v ∧ f_X3_powerOf s p v = f_X9_strengthOf g v := by
  obtain ⟨v0, v1, v2⟩ := mn_here_in h hv
  have n8 := h.2.1
  have v8 := vinb (n := 8) (x := v) v0 (by grind)
  have iv := isCell_in v2
  have hz : ¬ f_X3_isIn s p v = 0 := by rw [mn_here s h]; exact hv
  refine ⟨⟨pl_isIn s n8 v, fun q => absurd q hz, fun _ => ⟨v8, v8, v8, vin36 iv.1 iv.2, trivial⟩⟩, ?_⟩
  unfold f_X3_powerOf
  rw [if_neg hz, str_eq hs h hv]
theorem goal_leg {s p g : Rec} (hP : PR s p g) {x y w d : Int32} (w0 : 0 ≤ w) (w3 : w ≤ 3) (hd : d = 1 ∨ d = 2) : p_X3_goalOf s p x y w d ∧
    (Leg g x y w d → f_X3_goalOf s p x y w d = if f_X9_rulerAt g (x + d * f_X9_wayX w) (y + d * f_X9_wayY w) = -1 then f_X9_topAt g (x + d * f_X9_wayX w) (y + d * f_X9_wayY w) else p.2 4 (f_X9_rulerAt g (x + d * f_X9_wayX w) (y + d * f_X9_wayY w)).toNatClampNeg) ∧ (¬ Leg g x y w d → f_X3_goalOf s p x y w d = -1) := by
  obtain ⟨hs, he, hM, _, ⟨h6, h7, _, _⟩, _⟩ := hP
  obtain ⟨wx, wy⟩ := way_eq w0 w3
  have R := fun x y => ru_eq hs hM x y
  have n8 := hM.2.1
  have rr : ∀ x y, ¬ f_X9_rulerAt g x y = -1 → vp_in (f_X9_rulerAt g x y) 8 ∧ ¬ f_X9_isHere g (f_X9_rulerAt g x y) = 0 ∧ f_X9_ownerOf g (f_X9_rulerAt g x y) = p.2 2 (f_X9_rulerAt g x y).toNatClampNeg ∧ g.2 0 (Int32.toNatClampNeg (Int32.ofInt 28 + Int32.ofInt 3 * f_X9_rulerAt g x y)) = p.2 1 (f_X9_rulerAt g x y).toNatClampNeg := by
    intro x y hr
    obtain ⟨r0, r1, r2, r3⟩ := ru_some hM hr
    exact ⟨vinb (n := 8) r0 (by grind), r2.1, own_eq hM r0 r1, (hM.2.2.2 _ r0 r1).1⟩
  have tt : f_X9_turn g = f_X3_onTurn s p := by
    unfold f_X9_turn f_X3_onTurn
    rw [h6]; rfl
  have v4 := vinb (n := 4) (x := w) w0 (by grind)
  have em : Int32.ofInt (-1) = -1 := rfl
  have e2 : Int32.ofInt 2 = 2 := rfl
  have e4 : Int32.ofInt 4 = 4 := rfl
  have wz : ¬ f_X8_within w (Int32.ofInt 0) (Int32.ofInt 3) = 0 := wi_n.mpr ⟨w0, w3⟩
  have dz : ¬ f_X8_within d (Int32.ofInt 1) (Int32.ofInt 2) = 0 := wi_n.mpr (by rcases hd with rfl | rfl <;> decide)
  have p98 : ∀ v, ¬ f_X9_isHere g v = 0 → p_X3_goalOf_98 s p x y w d v := by
    intro v hv
    obtain ⟨v0, v1, v2⟩ := mn_here_in hM hv
    unfold p_X3_goalOf_98
    rw [wx, wy, (R _ _).2.2, em]
    refine ⟨v4, v4, (R _ _).1, fun _ => ⟨pt_top _ _ _, trivial⟩, fun hr => ?_⟩
    obtain ⟨a1, a2, a3, a4⟩ := rr _ _ hr
    exact ⟨a1, vinb (n := 8) v0 (by grind), fun _ => trivial, fun _ => ⟨(pow_eq hs hM a2).1, (pow_eq hs hM hv).1, fun _ => trivial, fun _ => ⟨a1, trivial⟩⟩⟩
  have popen : p_X3_isOpen s p (x + f_X9_wayX w) (y + f_X9_wayY w) := ⟨(R _ _).1, fun _ => ⟨pt_top _ _ _, trivial⟩, fun _ => trivial⟩
  refine ⟨?_, ?_, ?_⟩
  · unfold p_X3_goalOf
    rw [wx, wy, (R x y).2.2, em]
    refine ⟨fun _ => trivial, fun _ => ⟨fun _ => trivial, fun _ => ⟨fun _ => trivial, fun _ => ⟨(R _ _).1, fun _ => trivial, fun hr => ?_⟩⟩⟩⟩
    obtain ⟨a1, a2, a3, a4⟩ := rr _ _ hr
    exact ⟨a1, fun _ => ⟨fun _ => ⟨a1, fun _ => ⟨v4, v4, popen, fun _ => trivial, fun _ => p98 _ a2⟩, fun _ => trivial⟩, fun _ => p98 _ a2⟩, fun _ => trivial⟩
  · rintro ⟨h1, h2, h3, h4, h5, hk⟩
    obtain ⟨a1, a2, a3, a4⟩ := rr _ _ h2
    have g98 : f_X3_goalOf_98 s p x y w d (f_X9_rulerAt g x y) = if f_X9_rulerAt g (x + d * f_X9_wayX w) (y + d * f_X9_wayY w) = -1 then f_X9_topAt g (x + d * f_X9_wayX w) (y + d * f_X9_wayY w) else p.2 4 (f_X9_rulerAt g (x + d * f_X9_wayX w) (y + d * f_X9_wayY w)).toNatClampNeg := by
      unfold f_X3_goalOf_98
      rw [wx, wy, (R _ _).2.2, em, sg_topAt hs]
      by_cases hr : f_X9_rulerAt g (x + d * f_X9_wayX w) (y + d * f_X9_wayY w) = -1
      · rw [if_pos hr, if_pos hr]
      · obtain ⟨b1, b2, b3, b4⟩ := rr _ _ hr
        obtain ⟨k1, k2⟩ := hk hr
        rw [if_neg hr, if_neg hr, ← a3, ← b3, if_neg k1, (pow_eq hs hM a2).2, (pow_eq hs hM b2).2, if_neg (by grind)]
    unfold f_X3_goalOf
    rw [wx, wy, (R x y).2.2, em, h7, if_neg h1, if_neg wz, if_neg dz, if_neg h2, ← a3, ← tt, if_pos h3, e2, e4]
    by_cases hd2 : d = 2
    · obtain ⟨k1, k2, k3⟩ := h4 hd2
      have ho : ¬ f_X3_isOpen s p (x + f_X9_wayX w) (y + f_X9_wayY w) = 0 := by
        unfold f_X3_isOpen
        rw [(R _ _).2.2, em, sg_topAt hs, if_pos k3, if_neg k2]
        decide
      rw [if_pos hd2, ← a4, if_pos k1, if_neg ho, g98]
    · rw [if_neg hd2, g98]
  · intro hn
    unfold f_X3_goalOf
    rw [wx, wy, (R x y).2.2, em, h7, if_neg wz, if_neg dz, ← tt, e2, e4]
    by_cases h1 : 0 < g.2 0 27
    · rw [if_pos h1]
    · rw [if_neg h1]
      by_cases h2 : f_X9_rulerAt g x y = -1
      · rw [if_pos h2]
      · obtain ⟨a1, a2, a3, a4⟩ := rr _ _ h2
        rw [if_neg h2, ← a3, ← a4]
        by_cases h3 : f_X9_ownerOf g (f_X9_rulerAt g x y) = f_X9_turn g
        · rw [if_pos h3]
          have g98 : (d = 2 → g.2 0 (Int32.toNatClampNeg (Int32.ofInt 28 + Int32.ofInt 3 * f_X9_rulerAt g x y)) = 4 ∧ ¬ f_X9_topAt g (x + f_X9_wayX w) (y + f_X9_wayY w) = -1 ∧ f_X9_rulerAt g (x + f_X9_wayX w) (y + f_X9_wayY w) = -1) → f_X3_goalOf_98 s p x y w d (f_X9_rulerAt g x y) = -1 := by
            intro h4
            unfold f_X3_goalOf_98
            rw [wx, wy, (R _ _).2.2, em, sg_topAt hs]
            by_cases hr : f_X9_rulerAt g (x + d * f_X9_wayX w) (y + d * f_X9_wayY w) = -1
            · rw [if_pos hr]
              by_cases h5 : f_X9_topAt g (x + d * f_X9_wayX w) (y + d * f_X9_wayY w) = -1
              · exact h5
              · exact absurd ⟨h1, h2, h3, h4, h5, fun q => absurd hr q⟩ hn
            · obtain ⟨b1, b2, b3, b4⟩ := rr _ _ hr
              have h5 : ¬ f_X9_topAt g (x + d * f_X9_wayX w) (y + d * f_X9_wayY w) = -1 := fun q => (ru_some hM hr).2.2.1.2 (to_none q _)
              rw [if_neg hr, ← a3, ← b3, (pow_eq hs hM a2).2, (pow_eq hs hM b2).2]
              by_cases o1 : f_X9_ownerOf g (f_X9_rulerAt g (x + d * f_X9_wayX w) (y + d * f_X9_wayY w)) = f_X9_ownerOf g (f_X9_rulerAt g x y)
              · rw [if_pos o1]
              · rw [if_neg o1]
                by_cases o2 : f_X9_strengthOf g (f_X9_rulerAt g (x + d * f_X9_wayX w) (y + d * f_X9_wayY w)) < f_X9_strengthOf g (f_X9_rulerAt g x y)
                · exact absurd ⟨h1, h2, h3, h4, h5, fun _ => ⟨o1, o2⟩⟩ hn
                · rw [if_pos (by grind)]
          by_cases hd2 : d = 2
          · rw [if_pos hd2]
            by_cases k1 : g.2 0 (Int32.toNatClampNeg (Int32.ofInt 28 + Int32.ofInt 3 * f_X9_rulerAt g x y)) = 4
            · rw [if_pos k1]
              unfold f_X3_isOpen
              rw [(R _ _).2.2, em, sg_topAt hs]
              by_cases k3 : f_X9_rulerAt g (x + f_X9_wayX w) (y + f_X9_wayY w) = -1
              · rw [if_pos k3]
                by_cases k2 : f_X9_topAt g (x + f_X9_wayX w) (y + f_X9_wayY w) = -1
                · rw [if_pos k2, if_pos (show Int32.ofInt 0 = 0 from rfl)]
                · rw [if_neg k2, if_neg (show ¬ Int32.ofInt 1 = 0 by decide)]
                  exact g98 (fun _ => ⟨k1, k2, k3⟩)
              · rw [if_neg k3, if_pos (show Int32.ofInt 0 = 0 from rfl)]
            · rw [if_neg k1]
          · rw [if_neg hd2]
            exact g98 (fun q => absurd q hd2)
        · rw [if_neg h3]
