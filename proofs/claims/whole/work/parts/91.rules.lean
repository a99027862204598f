/-! layer 3: RULERS as they would be -/
def BtO (o : Rec) (a b : Int32) : Prop := o.2 3 a.toNatClampNeg < o.2 3 b.toNatClampNeg ∨ (o.2 3 a.toNatClampNeg = o.2 3 b.toNatClampNeg ∧ o.2 2 a.toNatClampNeg ≤ o.2 2 b.toNatClampNeg)
def AtO (o : Rec) (m v : Int32) : Prop := ¬ o.2 3 v.toNatClampNeg = -1 ∧ o.2 0 v.toNatClampNeg = o.2 0 m.toNatClampNeg ∧ o.2 1 v.toNatClampNeg = o.2 1 m.toNatClampNeg
theorem BtO.t {g : Rec} {a b c : Int32} (h1 : BtO g a b) (h2 : BtO g b c) : BtO g a c := by
  unfold BtO at *
  grind
theorem ro_step (n : Nat) (o s p : Rec) (m b v : Int32) : f_X1_rulerOver_5 (n + 1) o s p m b v = if p.1 5 ≤ v then b else if ¬ o.2 3 v.toNatClampNeg = -1 ∧ o.2 0 v.toNatClampNeg = o.2 0 m.toNatClampNeg ∧ o.2 1 v.toNatClampNeg = o.2 1 m.toNatClampNeg then (if (if o.2 3 v.toNatClampNeg = o.2 3 b.toNatClampNeg then o.2 2 v.toNatClampNeg ≤ o.2 2 b.toNatClampNeg else o.2 3 v.toNatClampNeg ≤ o.2 3 b.toNatClampNeg) then f_X1_rulerOver_5 n o s p m b (v + 1) else f_X1_rulerOver_5 n o s p m v (v + 1)) else f_X1_rulerOver_5 n o s p m b (v + 1) := by
  rw [f_X1_rulerOver_5]
  unfold f_X1_rulerOver_81
  have ev : v + Int32.ofInt 1 = v + 1 := rfl
  have eo : ¬ Int32.ofInt 1 = 0 := by decide
  have ez : Int32.ofInt 0 = 0 := rfl
  have em : Int32.ofInt (-1) = -1 := rfl
  rw [ev, em]
  simp only [if_neg eo, if_pos ez]
  by_cases c1 : p.1 5 ≤ v
  · rw [if_pos c1, if_pos c1]
  · rw [if_neg c1, if_neg c1]
    by_cases c2 : o.2 3 v.toNatClampNeg = -1
    · rw [if_pos c2, if_neg (fun q => q.1 c2)]
    · rw [if_neg c2]
      by_cases c3 : o.2 0 v.toNatClampNeg = o.2 0 m.toNatClampNeg
      · rw [if_pos c3]
        by_cases c4 : o.2 1 v.toNatClampNeg = o.2 1 m.toNatClampNeg
        · have c24 : ¬ o.2 3 v.toNatClampNeg = -1 ∧ o.2 0 v.toNatClampNeg = o.2 0 m.toNatClampNeg ∧ o.2 1 v.toNatClampNeg = o.2 1 m.toNatClampNeg := ⟨c2, c3, c4⟩
          rw [if_pos c4, if_pos c24]
          by_cases c5 : o.2 3 v.toNatClampNeg = o.2 3 b.toNatClampNeg
          · simp only [if_pos c5]
          · simp only [if_neg c5]
        · rw [if_neg c4, if_neg (fun q => c4 q.2.2)]
      · rw [if_neg c3, if_neg (fun q => c3 q.2.1)]
theorem ro_loop {o s p : Rec} {m : Int32} (n8 : p.1 5 ≤ 8) (m0 : 0 ≤ m) (m1 : m < p.1 5) : ∀ (n : Nat) (b v : Int32), FuV (p.1 5) n v → 0 ≤ b → b < p.1 5 → AtO o m b → (∀ u, 0 ≤ u → u < v → AtO o m u → BtO o u b) →
    p_X1_rulerOver_5 n o s p m b v ∧ 0 ≤ f_X1_rulerOver_5 n o s p m b v ∧ f_X1_rulerOver_5 n o s p m b v < p.1 5 ∧ AtO o m (f_X1_rulerOver_5 n o s p m b v) ∧ (∀ u, 0 ≤ u → u < p.1 5 → AtO o m u → BtO o u (f_X1_rulerOver_5 n o s p m b v)) := by
  intro n
  induction n with
  | zero => intro b v hf; exact hf.z.elim
  | succ n ih =>
    intro b v hf b0 b1 hb hv
    rw [ro_step, p_X1_rulerOver_5]
    have vm := vinb (n := 8) (x := m) m0 (by grind)
    have vb := vinb (n := 8) (x := b) b0 (by grind)
    by_cases c1 : p.1 5 ≤ v
    · rw [if_pos c1]
      exact ⟨⟨fun _ => trivial, fun q => absurd c1 q⟩, b0, b1, hb, fun u q0 q1 => hv u q0 (by grind)⟩
    · obtain ⟨f1, f2, f3⟩ := hf.s c1
      have v8 := vinb (n := 8) (x := v) f2 (by grind)
      rw [if_neg c1]
      have keep : (AtO o m v → BtO o v b) → ∀ u, 0 ≤ u → u < v + 1 → AtO o m u → BtO o u b := by
        intro z u q0 q1 q2
        by_cases e : u = v
        · rw [e] at q2 ⊢; exact z q2
        · exact hv u q0 (by grind) q2
      by_cases c2 : ¬ o.2 3 v.toNatClampNeg = -1 ∧ o.2 0 v.toNatClampNeg = o.2 0 m.toNatClampNeg ∧ o.2 1 v.toNatClampNeg = o.2 1 m.toNatClampNeg
      · rw [if_pos c2]
        have new : BtO o b v → ∀ u, 0 ≤ u → u < v + 1 → AtO o m u → BtO o u v := by
          intro z u q0 q1 q2
          by_cases e : u = v
          · rw [e]; exact Or.inr ⟨rfl, Int32.le_refl _⟩
          · exact (hv u q0 (by grind) q2).t z
        have eo : ¬ Int32.ofInt 1 = 0 := by decide
        have ez : Int32.ofInt 0 = 0 := rfl
        unfold p_X1_rulerOver_81
        by_cases c5 : o.2 3 v.toNatClampNeg = o.2 3 b.toNatClampNeg
        · simp only [if_pos c5]
          by_cases c6 : o.2 2 v.toNatClampNeg ≤ o.2 2 b.toNatClampNeg
          · rw [if_pos c6]
            obtain ⟨i1, i2⟩ := ih b (v + 1) f1 b0 b1 hb (keep fun _ => Or.inr ⟨c5, c6⟩)
            exact ⟨⟨fun q => absurd q c1, fun _ => ⟨v8, fun q => absurd q c2.1, fun _ => ⟨v8, vm, fun _ => ⟨v8, vm, fun _ => ⟨v8, vb, fun _ => ⟨fun q => absurd q eo, fun _ => ⟨v8, vb, fun _ => i1, fun q => absurd c6 q⟩⟩, fun q => absurd c5 q⟩, fun q => absurd c2.2.2 q⟩, fun q => absurd c2.2.1 q⟩⟩⟩, i2⟩
          · rw [if_neg c6]
            obtain ⟨i1, i2⟩ := ih v (v + 1) f1 f2 f3 c2 (new (Or.inr ⟨c5.symm, by grind⟩))
            exact ⟨⟨fun q => absurd q c1, fun _ => ⟨v8, fun q => absurd q c2.1, fun _ => ⟨v8, vm, fun _ => ⟨v8, vm, fun _ => ⟨v8, vb, fun _ => ⟨fun q => absurd q eo, fun _ => ⟨v8, vb, fun q => absurd q c6, fun _ => i1⟩⟩, fun q => absurd c5 q⟩, fun q => absurd c2.2.2 q⟩, fun q => absurd c2.2.1 q⟩⟩⟩, i2⟩
        · simp only [if_neg c5]
          by_cases c6 : o.2 3 v.toNatClampNeg ≤ o.2 3 b.toNatClampNeg
          · rw [if_pos c6]
            obtain ⟨i1, i2⟩ := ih b (v + 1) f1 b0 b1 hb (keep fun _ => Or.inl (by grind))
            exact ⟨⟨fun q => absurd q c1, fun _ => ⟨v8, fun q => absurd q c2.1, fun _ => ⟨v8, vm, fun _ => ⟨v8, vm, fun _ => ⟨v8, vb, fun q => absurd q c5, fun _ => ⟨fun _ => ⟨v8, vb, fun _ => i1, fun q => absurd c6 q⟩, fun q => absurd ez q⟩⟩, fun q => absurd c2.2.2 q⟩, fun q => absurd c2.2.1 q⟩⟩⟩, i2⟩
          · rw [if_neg c6]
            obtain ⟨i1, i2⟩ := ih v (v + 1) f1 f2 f3 c2 (new (Or.inl (by grind)))
            exact ⟨⟨fun q => absurd q c1, fun _ => ⟨v8, fun q => absurd q c2.1, fun _ => ⟨v8, vm, fun _ => ⟨v8, vm, fun _ => ⟨v8, vb, fun q => absurd q c5, fun _ => ⟨fun _ => ⟨v8, vb, fun q => absurd q c6, fun _ => i1⟩, fun q => absurd ez q⟩⟩, fun q => absurd c2.2.2 q⟩, fun q => absurd c2.2.1 q⟩⟩⟩, i2⟩
      · rw [if_neg c2]
        obtain ⟨i1, i2⟩ := ih b (v + 1) f1 b0 b1 hb (keep fun z => absurd z c2)
        refine ⟨⟨fun q => absurd q c1, fun _ => ⟨v8, fun _ => i1, fun z1 => ⟨v8, vm, fun z2 => ⟨v8, vm, fun z3 => absurd ⟨z1, z2, z3⟩ c2, fun _ => i1⟩, fun _ => i1⟩⟩⟩, i2⟩
theorem ru_p {p g : Rec} (h : Mn p g) (x y : Int32) : p_X9_rulerAt g x y := (ru_eq (sg_of g) h x y).2.1
/-- the same RULER -/
theorem ro_eq {K : Int32} {o s p g h : Rec} (hG : GI K g) (hM : Mn p g) (hb : h.2 0 = g.2 0) (hi : Inj h) (hL : LkR o p h) {m : Int32} (hm : ¬ f_X9_isHere h m = 0) (pos : ∀ v, ¬ f_X9_isHere h v = 0 → ¬ f_X9_strengthOf h v = -1) :
    p_X1_rulerOver o s p m ∧ f_X1_rulerOver o s p m = f_X9_rulerAt h (h.2 4 (cO h m).toNatClampNeg) (h.2 5 (cO h m).toNatClampNeg) ∧ 0 ≤ f_X1_rulerOver o s p m ∧ f_X1_rulerOver o s p m < p.1 5 ∧ ¬ f_X9_isHere h (f_X1_rulerOver o s p m) = 0 := by
  have hMh : Mn p h := mn_cg hb hM
  obtain ⟨m0, m1, m2⟩ := mn_here_in hMh hm
  have n8 := hMh.2.1
  have at1 : ∀ v, 0 ≤ v → v < p.1 5 → (AtO o m v ↔ AtM h (h.2 4 (cO h m).toNatClampNeg) (h.2 5 (cO h m).toNatClampNeg) v) := by
    intro v v0 v1
    have lm := (hL m m0 m1).resolve_left (fun q => hm q.1)
    unfold AtO AtM
    rw [isAt_n, lm.2.1, lm.2.2.1]
    rcases hL v v0 v1 with ⟨l1, l2⟩ | ⟨l1, l2, l3, l4, l5⟩
    · rw [l1, l2]
      exact ⟨fun q => absurd rfl q.1, fun q => absurd rfl q.1⟩
    · have cv : ¬ f_X9_isCell h (cO h v) = 0 := by
        have := (mn_here_in hMh l1).2.2
        have e4 := (hMh.2.2.2 v v0 v1).2.2.2.1
        show ¬ f_X9_isCell h (h.2 0 _) = 0
        rw [e4]; exact this
      rw [l2, l3, l5]
      exact ⟨fun q => ⟨l1, cv, q.2⟩, fun q => ⟨pos v l1, q.2.2⟩⟩
  have bt : ∀ u v, 0 ≤ u → u < p.1 5 → 0 ≤ v → v < p.1 5 → ¬ f_X9_isHere h u = 0 → ¬ f_X9_isHere h v = 0 → (BtO o u v ↔ Bt h u v) := by
    intro u v u0 u1 v0 v1 hu hv
    have lu := (hL u u0 u1).resolve_left (fun q => hu q.1)
    have lv := (hL v v0 v1).resolve_left (fun q => hv q.1)
    unfold BtO Bt
    rw [lu.2.2.2.2, lu.2.2.2.1, lv.2.2.2.2, lv.2.2.2.1]
  have am : AtO o m m := (at1 m m0 m1).mpr ⟨hm, isAt_n.mpr ⟨by
    have e4 := (hMh.2.2.2 m m0 m1).2.2.2.1
    show ¬ f_X9_isCell h (h.2 0 _) = 0
    rw [e4]; exact m2, rfl, rfl⟩⟩
  obtain ⟨p1, r0, r1, r2, r3⟩ := ro_loop (o := o) (s := s) n8 m0 m1 40 m 0 (FuV.o hMh.1 n8 (by decide)) m0 m1 am (fun u q0 q1 => by grind)
  have e : f_X1_rulerOver_5 40 o s p m m 0 = f_X1_rulerOver o s p m := rfl
  rw [e] at r0 r1 r2 r3
  have ra := (at1 _ r0 r1).mp r2
  refine ⟨p1, ?_, r0, r1, ra.1⟩
  have hne : ¬ f_X9_rulerAt h (h.2 4 (cO h m).toNatClampNeg) (h.2 5 (cO h m).toNatClampNeg) = -1 := fun q => ru_none hMh q _ ra
  obtain ⟨t0, t1, t2, t3⟩ := ru_some hMh hne
  have b1 := t3 _ ra
  have b2 := (bt _ _ t0 t1 r0 r1 t2.1 ra.1).mp (r3 _ t0 t1 ((at1 _ t0 t1).mpr t2))
  obtain ⟨c1, c2, c3⟩ := isAt_n.mp ra.2
  obtain ⟨d1, d2, d3⟩ := isAt_n.mp t2.2
  have ec : cO h (f_X1_rulerOver o s p m) = cO h (f_X9_rulerAt h (h.2 4 (cO h m).toNatClampNeg) (h.2 5 (cO h m).toNatClampNeg)) := by
    refine hi _ _ c1 d1 (c2.trans d2.symm) (c3.trans d3.symm) ?_
    unfold Bt at b1 b2
    grind
  have hr := ra.1
  have ht := t2.1
  rw [here_cg hb] at hr ht
  refine dis hG hM hr ht ?_
  have e1 := (hMh.2.2.2 _ r0 r1).2.2.2.1
  have e2 := (hMh.2.2.2 _ t0 t1).2.2.2.1
  rw [← e1, ← e2]
  exact ec
/-- how many RULERS an OWNER would have -/
theorem rls_step (n : Nat) (h : Rec) (o c v : Int32) (hc : ¬ f_X9_isHere h v = 0 → 0 ≤ cO h v) : f_X9_rules_4 (n + 1) h o c v = if h.2 0 2 ≤ v then c else if f_X9_isHere h v = 0 then f_X9_rules_4 n h o c (v + 1) else if f_X9_ownerOf h v = o then (if f_X9_rulerAt h (h.2 4 (cO h v).toNatClampNeg) (h.2 5 (cO h v).toNatClampNeg) = v then f_X9_rules_4 n h o (c + 1) (v + 1) else f_X9_rules_4 n h o c (v + 1)) else f_X9_rules_4 n h o c (v + 1) := by
  rw [f_X9_rules_4]
  unfold f_X9_rules_36
  have e2 : h.2 0 (Int32.toNatClampNeg (Int32.ofInt 2)) = h.2 0 2 := rfl
  have ev : v + Int32.ofInt 1 = v + 1 := rfl
  have eo : ¬ Int32.ofInt 1 = 0 := by decide
  have ez : Int32.ofInt 0 = 0 := rfl
  have e1 : Int32.ofInt 1 = 1 := rfl
  have zz : c + Int32.ofInt 0 = c := by rw [ez]; grind
  rw [e2, ev, zz]
  simp only [if_neg eo, if_pos ez]
  by_cases c1 : h.2 0 2 ≤ v
  · rw [if_pos c1, if_pos c1]
  · rw [if_neg c1, if_neg c1]
    by_cases c2 : f_X9_isHere h v = 0
    · rw [if_pos c2, if_pos c2]
    · rw [if_neg c2, if_neg c2]
      have c3 := hc c2
      have c3' : 0 ≤ h.2 0 (Int32.toNatClampNeg (Int32.ofInt 8 + v)) := c3
      simp only [if_pos c3']
      rfl
theorem rls_loop {K : Int32} {o s p g h : Rec} (hG : GI K g) (hM : Mn p g) (hb : h.2 0 = g.2 0) (hi : Inj h) (hL : LkR o p h) (pos : ∀ v, ¬ f_X9_isHere h v = 0 → ¬ f_X9_strengthOf h v = -1) (w : Int32) : ∀ (n : Nat) (c v : Int32), FuV (p.1 5) n v →
    p_X1_rulersOf_5 n o s p w c v ∧ p_X9_rules_4 n h w c v ∧ f_X1_rulersOf_5 n o s p w c v = f_X9_rules_4 n h w c v := by
  have hMh : Mn p h := mn_cg hb hM
  have n8 := hMh.2.1
  intro n
  induction n with
  | zero => intro c v hf; exact hf.z.elim
  | succ n ih =>
    intro c v hf
    have hcc : ¬ f_X9_isHere h v = 0 → 0 ≤ cO h v := by
      intro q
      obtain ⟨v0, v1, v2⟩ := mn_here_in hMh q
      have e4 := (hMh.2.2.2 v v0 v1).2.2.2.1
      show 0 ≤ h.2 0 _
      rw [e4]; exact (isCell_in v2).1
    rw [rls_step n h w c v hcc, p_X1_rulersOf_5, p_X9_rules_4, f_X1_rulersOf_5, hMh.2.2.1]
    have n2 : h.2 0 2 = p.1 5 := hMh.2.2.1
    rw [n2]
    by_cases c1 : p.1 5 ≤ v
    · exact ⟨⟨fun _ => trivial, fun q => absurd c1 q⟩, ⟨fun _ => trivial, fun q => absurd c1 q⟩, by rw [if_pos c1, if_pos c1]⟩
    · obtain ⟨f1, f2, f3⟩ := hf.s c1
      have v8 := vinb (n := 8) (x := v) f2 (by grind)
      have v248 := vinb (n := 248) (x := Int32.ofInt 8 + v) (by grind) (by grind)
      have ev : v + Int32.ofInt 1 = v + 1 := rfl
      have e1 : Int32.ofInt 1 = 1 := rfl
      have ez : Int32.ofInt 0 = 0 := rfl
      have em : Int32.ofInt (-1) = -1 := rfl
      have eo : ¬ Int32.ofInt 1 = 0 := by decide
      have ze : c + Int32.ofInt 0 = c := by rw [ez]; grind
      obtain ⟨i1, i2, i3⟩ := ih c (v + 1) f1
      obtain ⟨j1, j2, j3⟩ := ih (c + 1) (v + 1) f1
      have ph := pl_isHere hMh v
      have po := own_in hMh f2 f3
      have oe := own_eq hMh f2 f3
      rw [if_neg c1, if_neg c1]
      unfold p_X9_rules_36
      rw [ev, ze, em]
      rcases hL v f2 f3 with ⟨l1, l2⟩ | ⟨l1, l2, l3, l4, l5⟩
      · rw [if_pos l2, if_pos l1]
        exact ⟨⟨fun q => absurd q c1, fun _ => ⟨v8, fun _ => i1, fun q => absurd l2 q⟩⟩, ⟨fun q => absurd q c1, fun _ => ⟨ph, fun _ => ⟨fun _ => i2, fun q => absurd ez q⟩, fun q => absurd l1 q⟩⟩, i3⟩
      · have l6 : ¬ o.2 3 v.toNatClampNeg = -1 := by rw [l5]; exact pos v l1
        obtain ⟨q1, q2, q3, q4, q5⟩ := ro_eq (o := o) (s := s) hG hM hb hi hL l1 pos
        obtain ⟨_, _, v2⟩ := mn_here_in hMh l1
        have e4 := (hMh.2.2.2 v f2 f3).2.2.2.1
        have ic := isCell_in v2
        have c0 : 0 ≤ h.2 0 (Int32.toNatClampNeg (Int32.ofInt 8 + v)) := by rw [e4]; exact ic.1
        have c36 : vp_in (h.2 0 (Int32.toNatClampNeg (Int32.ofInt 8 + v))) 36 := by rw [e4]; exact vin36 ic.1 ic.2
        have pr := fun x y => ru_p hMh x y
        rw [if_neg l6, if_neg l1, oe]
        by_cases c3 : p.2 2 v.toNatClampNeg = w
        · rw [if_pos c3, if_pos c3, q2]
          by_cases c4 : f_X9_rulerAt h (h.2 4 (cO h v).toNatClampNeg) (h.2 5 (cO h v).toNatClampNeg) = v
          · rw [if_pos c4, if_pos c4]
            refine ⟨⟨fun q => absurd q c1, fun _ => ⟨v8, fun q => absurd q l6, fun _ => ⟨v8, fun _ => ⟨q1, fun _ => j1, fun q => absurd c4 q⟩, fun q => absurd c3 q⟩⟩⟩, ⟨fun q => absurd q c1, fun _ => ⟨ph, fun q => absurd q l1, fun _ => ⟨po, fun _ => ⟨fun q => absurd q eo, fun _ => ?_⟩, fun q => absurd c3 q⟩⟩⟩, j3⟩
            exact ⟨v248, fun _ => ⟨v248, c36, v248, fun _ => ⟨v248, c36, pr _ _, fun _ => j2, fun q => absurd c4 q⟩, fun q => absurd c0 q⟩, fun q => absurd c0 q⟩
          · rw [if_neg c4, if_neg c4]
            refine ⟨⟨fun q => absurd q c1, fun _ => ⟨v8, fun q => absurd q l6, fun _ => ⟨v8, fun _ => ⟨q1, fun q => absurd q c4, fun _ => i1⟩, fun q => absurd c3 q⟩⟩⟩, ⟨fun q => absurd q c1, fun _ => ⟨ph, fun q => absurd q l1, fun _ => ⟨po, fun _ => ⟨fun q => absurd q eo, fun _ => ?_⟩, fun q => absurd c3 q⟩⟩⟩, i3⟩
            exact ⟨v248, fun _ => ⟨v248, c36, v248, fun _ => ⟨v248, c36, pr _ _, fun q => absurd q c4, fun _ => i2⟩, fun q => absurd c0 q⟩, fun q => absurd c0 q⟩
        · rw [if_neg c3, if_neg c3]
          exact ⟨⟨fun q => absurd q c1, fun _ => ⟨v8, fun q => absurd q l6, fun _ => ⟨v8, fun q => absurd q c3, fun _ => i1⟩⟩⟩, ⟨fun q => absurd q c1, fun _ => ⟨ph, fun q => absurd q l1, fun _ => ⟨po, fun q => absurd q c3, fun _ => ⟨fun _ => i2, fun q => absurd ez q⟩⟩⟩⟩, i3⟩
theorem rls_eq {K : Int32} {o s p g h : Rec} (hG : GI K g) (hM : Mn p g) (hb : h.2 0 = g.2 0) (hi : Inj h) (hL : LkR o p h) (pos : ∀ v, ¬ f_X9_isHere h v = 0 → ¬ f_X9_strengthOf h v = -1) (w : Int32) : p_X1_rulersOf o s p w ∧ p_X9_rules h w ∧ f_X1_rulersOf o s p w = f_X9_rules h w :=
  rls_loop hG hM hb hi hL pos w 40 0 0 (FuV.o hM.1 hM.2.1 (by decide))
/-- whom one's own OWNER rules -/
theorem sfn_loop {K : Int32} {o s p g h : Rec} (hG : GI K g) (hM : Mn p g) (hb : h.2 0 = g.2 0) (hi : Inj h) (hL : LkR o p h) (pos : ∀ v, ¬ f_X9_isHere h v = 0 → ¬ f_X9_strengthOf h v = -1) : ∀ (n : Nat) (c v : Int32), FuV (p.1 5) n v →
    p_X1_ruledByOwn_4 n o s p c v ∧ p_X9_safeNow_4 n h c v ∧ f_X1_ruledByOwn_4 n o s p c v = f_X9_safeNow_4 n h c v := by
  have hMh : Mn p h := mn_cg hb hM
  have n8 := hMh.2.1
  intro n
  induction n with
  | zero => intro c v hf; exact hf.z.elim
  | succ n ih =>
    intro c v hf
    rw [p_X1_ruledByOwn_4, p_X9_safeNow_4, f_X1_ruledByOwn_4, f_X9_safeNow_4, hMh.2.2.1]
    by_cases c1 : p.1 5 ≤ v
    · exact ⟨⟨fun _ => trivial, fun q => absurd c1 q⟩, ⟨fun _ => trivial, fun q => absurd c1 q⟩, by rw [if_pos c1, if_pos c1]⟩
    · obtain ⟨f1, f2, f3⟩ := hf.s c1
      have v8 := vinb (n := 8) (x := v) f2 (by grind)
      have v248 := vinb (n := 248) (x := Int32.ofInt 8 + v) (by grind) (by grind)
      have ev : v + Int32.ofInt 1 = v + 1 := rfl
      have ez : Int32.ofInt 0 = 0 := rfl
      have em : Int32.ofInt (-1) = -1 := rfl
      have ze : c ||| Int32.ofInt 0 = c := by rw [ez]; simp
      obtain ⟨i1, i2, i3⟩ := ih c (v + 1) f1
      obtain ⟨j1, j2, j3⟩ := ih (c ||| (Int32.ofInt 1 <<< (v &&& 31))) (v + 1) f1
      have ph := pl_isHere hMh v
      have po := own_in hMh f2 f3
      have oe := own_eq hMh f2 f3
      rw [if_neg c1, if_neg c1, ev, ze, em, oe]
      rcases hL v f2 f3 with ⟨l1, l2⟩ | ⟨l1, l2, l3, l4, l5⟩
      · rw [if_pos l2, if_pos l1]
        exact ⟨⟨fun q => absurd q c1, fun _ => ⟨v8, fun _ => i1, fun q => absurd l2 q⟩⟩, ⟨fun q => absurd q c1, fun _ => ⟨ph, fun _ => i2, fun q => absurd l1 q⟩⟩, i3⟩
      · have l6 : ¬ o.2 3 v.toNatClampNeg = -1 := by rw [l5]; exact pos v l1
        obtain ⟨q1, q2, q3, q4, q5⟩ := ro_eq (o := o) (s := s) hG hM hb hi hL l1 pos
        obtain ⟨_, _, v2⟩ := mn_here_in hMh l1
        have e4 := (hMh.2.2.2 v f2 f3).2.2.2.1
        have ic := isCell_in v2
        have c36 : vp_in (h.2 0 (Int32.toNatClampNeg (Int32.ofInt 8 + v))) 36 := by rw [e4]; exact vin36 ic.1 ic.2
        have q2' : f_X9_rulerAt h (h.2 4 (Int32.toNatClampNeg (h.2 0 (Int32.toNatClampNeg (Int32.ofInt 8 + v))))) (h.2 5 (Int32.toNatClampNeg (h.2 0 (Int32.toNatClampNeg (Int32.ofInt 8 + v))))) = f_X1_rulerOver o s p v := q2.symm
        rw [if_neg l6, if_neg l1, q2', own_eq hMh q3 q4]
        have vr := vinb (n := 8) (x := f_X1_rulerOver o s p v) q3 (by grind)
        have por := own_in hMh q3 q4
        have pru := ru_p hMh (h.2 4 (Int32.toNatClampNeg (h.2 0 (Int32.toNatClampNeg (Int32.ofInt 8 + v))))) (h.2 5 (Int32.toNatClampNeg (h.2 0 (Int32.toNatClampNeg (Int32.ofInt 8 + v)))))
        by_cases c3 : p.2 2 (f_X1_rulerOver o s p v).toNatClampNeg = p.2 2 v.toNatClampNeg
        · rw [if_pos c3, if_pos c3]
          refine ⟨⟨fun q => absurd q c1, fun _ => ⟨v8, fun q => absurd q l6, fun _ => ⟨q1, vr, v8, fun _ => j1, fun q => absurd c3 q⟩⟩⟩, ⟨fun q => absurd q c1, fun _ => ⟨ph, fun q => absurd q l1, fun _ => ?_⟩⟩, j3⟩
          exact ⟨v248, c36, v248, c36, pru, por, po, fun _ => j2, fun q => absurd c3 q⟩
        · rw [if_neg c3, if_neg c3]
          refine ⟨⟨fun q => absurd q c1, fun _ => ⟨v8, fun q => absurd q l6, fun _ => ⟨q1, vr, v8, fun q => absurd q c3, fun _ => i1⟩⟩⟩, ⟨fun q => absurd q c1, fun _ => ⟨ph, fun q => absurd q l1, fun _ => ?_⟩⟩, i3⟩
          exact ⟨v248, c36, v248, c36, pru, por, po, fun q => absurd q c3, fun _ => i2⟩
theorem sfn_eq {K : Int32} {o s p g h : Rec} (hG : GI K g) (hM : Mn p g) (hb : h.2 0 = g.2 0) (hi : Inj h) (hL : LkR o p h) (pos : ∀ v, ¬ f_X9_isHere h v = 0 → ¬ f_X9_strengthOf h v = -1) : p_X1_ruledByOwn o s p ∧ p_X9_safeNow h ∧ f_X1_ruledByOwn o s p = f_X9_safeNow h :=
  sfn_loop hG hM hb hi hL pos 40 0 0 (FuV.o hM.1 hM.2.1 (by decide))
