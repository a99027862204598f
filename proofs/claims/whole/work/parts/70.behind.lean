/-! layer 3: who is BEHIND, who has WON -/
theorem own_b {K : Int32} {p g : Rec} (hG : GI K g) (h : Mn p g) {v : Int32} (v0 : 0 ≤ v) (v1 : v < p.1 5) : (p.2 2 v.toNatClampNeg = 0 ∨ p.2 2 v.toNatClampNeg = 1) ∧ (0 ≤ p.2 1 v.toNatClampNeg ∧ p.2 1 v.toNatClampNeg ≤ 4) ∧ 1 ≤ p.2 3 v.toNatClampNeg ∧ p.2 3 v.toNatClampNeg ≤ 9 := by
  obtain ⟨_, _, _, _, _, _, _, _, hm, _⟩ := hG
  obtain ⟨n0, n8, n2, mm⟩ := h
  have n2' : g.2 0 2 = p.1 5 := n2
  have v8 := cl8 v0 (by grind)
  obtain ⟨e1, e2, e3, e4, c⟩ := mm v v0 v1
  rw [ix28 v0 (by grind)] at e1
  rw [ix29 v0 (by grind)] at e2
  rw [ix30 v0 (by grind)] at e3
  obtain ⟨a1, a2, a3⟩ := hm v.toNatClampNeg (by rw [Int32.ofNat_toNatClampNeg v v0, n2']; exact v1) v8
  rw [← e1, ← e2, ← e3]
  exact ⟨a2, a1, a3⟩
theorem pw_b {k h w : Int32} (h1 : 1 ≤ h) (h9 : h ≤ 9) : 1 ≤ f_X8_powerOfKind k h w ∧ f_X8_powerOfKind k h w ≤ 22 := by
  unfold f_X8_powerOfKind
  repeat' split
  all_goals exact ⟨by grind, by grind⟩
theorem str_b {K : Int32} {s p g : Rec} (hs : SG s g) (hG : GI K g) (h : Mn p g) {v : Int32} (hv : ¬ f_X9_isHere g v = 0) : 1 ≤ f_X9_strengthOf g v ∧ f_X9_strengthOf g v ≤ 22 := by
  obtain ⟨v0, v1, v2⟩ := mn_here_in h hv
  rw [str_eq hs h hv]
  obtain ⟨a1, a2, a3, a4⟩ := own_b hG h v0 v1
  exact pw_b a3 a4
theorem be_loop {K : Int32} {s p g : Rec} (hs : SG s g) (hG : GI K g) (h : Mn p g) (ht : f_X3_onTurn s p = f_X9_turn g) : ∀ (n : Nat) (a b v : Int32), FuV (p.1 5) n v → 0 ≤ a → 0 ≤ b → a ≤ 22 * v → b ≤ 22 * v →
    p_X3_behindNow_4 n s p (a - b) v ∧ p_X9_behind_6 n g a b v ∧ f_X3_behindNow_4 n s p (a - b) v = f_X9_behind_6 n g a b v := by
  intro n
  induction n with
  | zero => intro a b v hf; exact hf.z.elim
  | succ n ih =>
    intro a b v hf a0 b0 a1 b1
    have n8 := h.2.1
    have v0 := hf.2.1
    have vN := hf.2.2.1
    rw [p_X3_behindNow_4, p_X9_behind_6, f_X3_behindNow_4, f_X9_behind_6, h.2.2.1]
    by_cases c1 : p.1 5 ≤ v
    · refine ⟨⟨fun _ => trivial, fun q => absurd c1 q⟩, ⟨fun _ => trivial, fun q => absurd c1 q⟩, ?_⟩
      rw [if_pos c1, if_pos c1, ht]
      have v8 : v ≤ 8 := by grind
      have a176 : a ≤ 176 := by grind
      have b176 : b ≤ 176 := by grind
      clear a1 b1 hf ih
      by_cases z : a = b
      · rw [z, if_pos (show b - b = 0 by grind), if_pos (Int32.le_refl _), if_pos (Int32.le_refl _)]
      · rw [if_neg (show ¬ a - b = 0 by grind)]
        by_cases z2 : b ≤ a
        · rw [if_pos z2, if_neg (show ¬ a ≤ b by grind), if_pos (show 0 ≤ a - b by grind)]
        · rw [if_neg z2, if_neg (show ¬ 0 ≤ a - b by grind)]
    · obtain ⟨f1, f2, f3⟩ := hf.s c1
      obtain ⟨e1, e2, e3, e4, c⟩ := h.2.2.2 v f2 f3
      have hn := mn_here_n h f2 f3
      have vin8 := vinb (n := 8) (x := v) f2 (by grind)
      have ev : v + Int32.ofInt 1 = v + 1 := rfl
      have eo : Int32.ofInt 1 = 1 := rfl
      have ez : Int32.ofInt 0 = 0 := rfl
      rw [if_neg c1, if_neg c1, ev, eo, ez, sg_has hs, own_eq h f2 f3]
      have zz : ∀ x : Int32, x + 0 = x := fun x => by grind
      have zn : ∀ x : Int32, x + -0 = x := fun x => by grind
      have v8 : v < 8 := by grind
      obtain ⟨ob, _⟩ := own_b hG h f2 f3
      by_cases hc : p.2 4 v.toNatClampNeg = -1
      · have hz := hn.mpr hc
        have hl : f_X9_isCell g (p.2 4 v.toNatClampNeg) = 0 := by
          rw [hc]; exact isCell_out (Or.inl (by decide))
        obtain ⟨i1, i2, i3⟩ := ih a b (v + 1) f1 a0 b0 (by grind) (by grind)
        rw [if_pos hl, if_pos hz, zz, zn]
        refine ⟨⟨fun q => absurd q c1, fun _ => ⟨vin8, pl_has .., fun _ => ⟨vin8, fun _ => i1, fun _ => i1⟩, fun q => absurd hl q⟩⟩, ⟨fun q => absurd q c1, fun _ => ⟨pl_isHere h v, fun _ => i2, fun q => absurd hz q⟩⟩, ?_⟩
        split
        · exact i3
        · exact i3
      · have hz := mt hn.mp hc
        have hl : ¬ f_X9_isCell g (p.2 4 v.toNatClampNeg) = 0 := by
          rcases c with c | c
          · exact absurd c hc
          · exact c
        have hb := isCell_in hl
        have v36 := vin36 hb.1 hb.2
        have se := str_eq hs h hz
        have sb := str_b hs hG h hz
        have sp := str_in h hz
        have op := own_in h f2 f3
        rw [if_neg hl, if_neg hz, ← se]
        generalize f_X9_strengthOf g v = t at *
        rcases ob with ob | ob
        · obtain ⟨i1, i2, i3⟩ := ih (a + t) b (v + 1) f1 (by grind) b0 (by grind) (by grind)
          have ee : a + t - b = a - b + t := by grind
          rw [ee] at i1 i3
          rw [if_pos ob, if_pos ob, if_neg (show ¬ p.2 2 v.toNatClampNeg = 1 by rw [ob]; decide), zz b]
          refine ⟨⟨fun q => absurd q c1, fun _ => ⟨vin8, pl_has .., fun q => absurd q hl, fun _ => ⟨vin8, vin8, v36, vin8, fun _ => i1, fun q => absurd ob q⟩⟩⟩, ⟨fun q => absurd q c1, fun _ => ⟨pl_isHere h v, fun q => absurd q hz, fun _ => ⟨op, fun _ => ⟨sp, op, fun q => absurd (ob.symm.trans q) (by decide), fun _ => i2⟩, fun q => absurd ob q⟩⟩⟩, i3⟩
        · obtain ⟨i1, i2, i3⟩ := ih a (b + t) (v + 1) f1 a0 (by grind) (by grind) (by grind)
          have ee : a - (b + t) = a - b + -t := by grind
          rw [ee] at i1 i3
          have o0 : ¬ p.2 2 v.toNatClampNeg = 0 := by rw [ob]; decide
          rw [if_neg o0, if_neg o0, if_pos ob, zz a]
          exact ⟨⟨fun q => absurd q c1, fun _ => ⟨vin8, pl_has .., fun q => absurd q hl, fun _ => ⟨vin8, vin8, v36, vin8, fun q => absurd q o0, fun _ => i1⟩⟩⟩, ⟨fun q => absurd q c1, fun _ => ⟨pl_isHere h v, fun q => absurd q hz, fun _ => ⟨op, fun q => absurd q o0, fun _ => ⟨op, fun _ => ⟨sp, i2⟩, fun q => absurd ob q⟩⟩⟩⟩, i3⟩
theorem tu_eq {s p g : Rec} (hP : PR s p g) : f_X3_onTurn s p = f_X9_turn g := by
  obtain ⟨_, _, _, _, ⟨h6, _⟩, _⟩ := hP
  unfold f_X9_turn f_X3_onTurn
  rw [h6]; rfl
theorem be_eq {K : Int32} {s p g : Rec} (hP : PR s p g) (hG : GI K g) : p_X3_behindNow s p ∧ p_X9_behind g ∧ f_X3_behindNow s p = f_X9_behind g :=
  be_loop hP.1 hG hP.2.2.1 (tu_eq hP) 40 0 0 0 (FuV.o hP.2.2.1.1 hP.2.2.1.2.1 (by decide)) (by decide) (by decide) (by decide) (by decide)
theorem tu_01 {K : Int32} {g : Rec} (hG : GI K g) : f_X9_turn g = 0 ∨ f_X9_turn g = 1 := by
  obtain ⟨_, _, _, ⟨h26, _⟩, _⟩ := hG
  have := odd_even h26
  unfold f_X9_turn
  show g.2 0 26 - g.2 0 26 / 2 * 2 = 0 ∨ g.2 0 26 - g.2 0 26 / 2 * 2 = 1
  by_cases q : g.2 0 26 - g.2 0 26 / 2 * 2 = 0
  · exact Or.inl q
  · exact Or.inr (this.mpr q)
theorem be_01 {K : Int32} {s p g : Rec} (hP : PR s p g) (hG : GI K g) : f_X9_behind g = 0 ∨ f_X9_behind g = 1 := by
  have : ∀ (n : Nat) (a b v : Int32), f_X9_behind_6 n g a b v = 0 ∨ f_X9_behind_6 n g a b v = 1 := by
    intro n
    induction n with
    | zero => intros; exact Or.inl rfl
    | succ n ih =>
      intro a b v
      rw [f_X9_behind_6]
      repeat' split
      all_goals first | exact ih _ _ _ | exact tu_01 hG | exact Or.inl rfl | exact Or.inr rfl
  exact this _ _ _ _
/-- men of an OWNER that are in -/
def fin (N x y : Int32) : Int32 := if x + y = N then -1 else if 0 < x ∧ y = 0 then 0 else if x = 0 ∧ 0 < y then 1 else -1
theorem mf_pq {p g : Rec} (s : Rec) (h : Mn p g) (o : Int32) : ∀ (n : Nat) (c v : Int32), FuV (p.1 5) n v → p_X3_menOf_4 n s p o c v := by
  intro n
  induction n with
  | zero => intro c v hf; exact hf.z.elim
  | succ n ih =>
    intro c v hf
    rw [p_X3_menOf_4]
    refine ⟨fun _ => trivial, fun c1 => ?_⟩
    obtain ⟨f1, f2, f3⟩ := hf.s c1
    have n8 := h.2.1
    exact ⟨pl_isIn s n8 v, fun _ => ih _ _ f1, fun _ => ⟨vinb (n := 8) f2 (by grind), fun _ => ih _ _ f1, fun _ => ih _ _ f1⟩⟩
theorem pp_menOf {p g : Rec} (s : Rec) (h : Mn p g) (o : Int32) : p_X3_menOf s p o := mf_pq s h o 40 0 0 (FuV.o h.1 h.2.1 (by decide))
theorem won_step (n : Nat) (g : Rec) (a b t v : Int32) : f_X9_won_9 (n + 1) g a b t v = if g.2 0 2 ≤ v then (if t = 0 then -1 else if 0 < a ∧ b = 0 then 0 else if 0 < b ∧ a = 0 then 1 else -1) else if f_X9_isHere g v = 0 then f_X9_won_9 n g a b (t + 1) (v + 1) else f_X9_won_9 n g (if f_X9_ownerOf g v = 0 then a + 1 else a) (if f_X9_ownerOf g v = 1 then b + 1 else b) t (v + 1) := by
  rw [f_X9_won_9]
  unfold f_X9_won_44 f_X9_won_71 f_X9_won_116
  have e2 : g.2 0 (Int32.toNatClampNeg (Int32.ofInt 2)) = g.2 0 2 := rfl
  have eo : Int32.ofInt 1 = 1 := rfl
  have ez : Int32.ofInt 0 = 0 := rfl
  have em : Int32.ofInt (-1) = -1 := rfl
  have zz : ∀ x : Int32, x + 0 = x := fun x => by grind
  rw [e2, eo, ez, em]
  simp only [zz]
  by_cases c1 : g.2 0 2 ≤ v
  · rw [if_pos c1, if_pos c1]
    grind
  · rw [if_neg c1, if_neg c1]
    by_cases c2 : f_X9_isHere g v = 0
    · simp only [if_pos c2]
    · simp only [if_neg c2]
      by_cases c3 : f_X9_ownerOf g v = 0
      · simp only [if_pos c3]
        by_cases c4 : f_X9_ownerOf g v = 1
        · simp only [if_pos c4]
        · simp only [if_neg c4]
      · simp only [if_neg c3]
        by_cases c4 : f_X9_ownerOf g v = 1
        · simp only [if_pos c4]
        · simp only [if_neg c4]
theorem wo_loop {K : Int32} {p g : Rec} (s : Rec) (hG : GI K g) (h : Mn p g) : ∀ (n : Nat) (a b t v : Int32), FuV (p.1 5) n v → 0 ≤ a → 0 ≤ b → 0 ≤ t → a ≤ v → b ≤ v → t ≤ v → a + b + t = v →
    p_X9_won_9 n g a b t v ∧ f_X9_won_9 n g a b t v = fin (p.1 5) (f_X3_menOf_4 n s p 0 a v) (f_X3_menOf_4 n s p 1 b v) := by
  intro n
  induction n with
  | zero => intro a b t v hf; exact hf.z.elim
  | succ n ih =>
    intro a b t v hf a0 b0 t0 av bv tv hs
    have n8 := h.2.1
    have v0 := hf.2.1
    have vN := hf.2.2.1
    have n2 : g.2 0 2 = p.1 5 := h.2.2.1
    rw [won_step, f_X3_menOf_4, f_X3_menOf_4, p_X9_won_9, h.2.2.1, n2, mn_here s h]
    by_cases c1 : p.1 5 ≤ v
    · refine ⟨⟨fun _ => ⟨fun _ => trivial, fun _ => ⟨fun _ => trivial, fun _ => ⟨fun _ => trivial, fun _ => trivial⟩⟩⟩, fun q => absurd c1 q⟩, ?_⟩
      rw [if_pos c1, if_pos c1, if_pos c1]
      have ve : v = p.1 5 := by grind
      unfold fin
      rw [← ve]
      have v8 : v ≤ 8 := by grind
      clear ih hf
      by_cases z : t = 0
      · rw [if_pos z, if_pos (show a + b = v by grind)]
      · rw [if_neg z, if_neg (show ¬ a + b = v by grind)]
        by_cases z1 : 0 < a ∧ b = 0
        · rw [if_pos z1, if_pos z1]
        · rw [if_neg z1, if_neg z1]
          by_cases z2 : 0 < b ∧ a = 0
          · rw [if_pos z2, if_pos ⟨z2.2, z2.1⟩]
          · rw [if_neg z2, if_neg (fun q => z2 ⟨q.2, q.1⟩)]
    · obtain ⟨f1, f2, f3⟩ := hf.s c1
      obtain ⟨ob, _⟩ := own_b hG h f2 f3
      have op := own_in h f2 f3
      have eo : Int32.ofInt 1 = 1 := rfl
      have ez : Int32.ofInt 0 = 0 := rfl
      have ev : v + Int32.ofInt 1 = v + 1 := rfl
      have zz : ∀ x : Int32, x + 0 = x := fun x => by grind
      have v8 : v < 8 := by grind
      rw [if_neg c1, if_neg c1, if_neg c1, ev, eo, ez, own_eq h f2 f3]
      unfold p_X9_won_44 p_X9_won_71
      rw [own_eq h f2 f3]
      have ph := pl_isHere h v
      by_cases c2 : f_X9_isHere g v = 0
      · obtain ⟨i1, i2⟩ := ih a b (t + 1) (v + 1) f1 a0 b0 (by grind) (by grind) (by grind) (by grind) (by grind)
        rw [if_pos c2, if_pos c2, if_pos c2]
        refine ⟨⟨fun q => absurd q c1, fun _ => ⟨ph, fun _ => ⟨ph, fun _ => ⟨ph, fun _ => ?_, fun q => absurd c2 q⟩, fun q => absurd c2 q⟩, fun q => absurd c2 q⟩⟩, i2⟩
        show p_X9_won_9 n g (a + 0) (b + 0) (t + 1) (v + 1)
        rw [zz, zz]; exact i1
      · rw [if_neg c2, if_neg c2, if_neg c2]
        rcases ob with ob | ob
        · obtain ⟨i1, i2⟩ := ih (a + 1) b t (v + 1) f1 (by grind) b0 t0 (by grind) (by grind) (by grind) (by grind)
          have o1 : ¬ p.2 2 v.toNatClampNeg = 1 := by rw [ob]; decide
          rw [if_pos ob, if_neg o1, if_pos ob, if_neg o1]
          refine ⟨⟨fun q => absurd q c1, fun _ => ⟨ph, fun q => absurd q c2, fun _ => ⟨op, fun _ => ⟨ph, fun q => absurd q c2, fun _ => ⟨op, fun q => absurd q o1, fun _ => ⟨ph, fun q => absurd q c2, fun _ => ?_⟩⟩⟩, fun q => absurd ob q⟩⟩⟩, i2⟩
          show p_X9_won_9 n g (a + 1) (b + 0) (t + 0) (v + 1)
          rw [zz, zz]; exact i1
        · obtain ⟨i1, i2⟩ := ih a (b + 1) t (v + 1) f1 a0 (by grind) t0 (by grind) (by grind) (by grind) (by grind)
          have o0 : ¬ p.2 2 v.toNatClampNeg = 0 := by rw [ob]; decide
          rw [if_neg o0, if_pos ob, if_neg o0, if_pos ob]
          refine ⟨⟨fun q => absurd q c1, fun _ => ⟨ph, fun q => absurd q c2, fun _ => ⟨op, fun q => absurd q o0, fun _ => ⟨ph, fun q => absurd q c2, fun _ => ⟨op, fun _ => ⟨ph, fun q => absurd q c2, fun _ => ?_⟩, fun q => absurd ob q⟩⟩⟩⟩⟩, i2⟩
          show p_X9_won_9 n g (a + 0) (b + 1) (t + 0) (v + 1)
          rw [zz, zz]; exact i1
theorem mof_b {p g : Rec} (s : Rec) (h : Mn p g) (o : Int32) : ∀ (n : Nat) (c v : Int32), FuV (p.1 5) n v → 0 ≤ c → c ≤ v → 0 ≤ f_X3_menOf_4 n s p o c v ∧ f_X3_menOf_4 n s p o c v ≤ p.1 5 := by
  intro n
  induction n with
  | zero => intro c v hf; exact hf.z.elim
  | succ n ih =>
    intro c v hf c0 cv
    have n8 := h.2.1
    rw [f_X3_menOf_4]
    by_cases c1 : p.1 5 ≤ v
    · rw [if_pos c1]
      have := hf.2.2.1
      exact ⟨c0, by grind⟩
    · obtain ⟨f1, f2, f3⟩ := hf.s c1
      rw [if_neg c1]
      have i1 := ih c (v + 1) f1 c0 (by grind)
      have i2 := ih (c + 1) (v + 1) f1 (by grind) (by grind)
      repeat' split
      · exact i1
      · exact i2
      · exact i1
theorem wo_eq {K : Int32} {s p g : Rec} (hP : PR s p g) (hG : GI K g) : p_X3_winner s p ∧ p_X9_won g ∧ f_X3_winner s p = f_X9_won g ∧ (f_X9_won g = -1 ∨ f_X9_won g = 0 ∨ f_X9_won g = 1) := by
  have h := hP.2.2.1
  have hF : FuV (p.1 5) 40 0 := FuV.o h.1 h.2.1 (by decide)
  obtain ⟨w1, w2⟩ := wo_loop s hG h 40 0 0 0 0 hF (by decide) (by decide) (by decide) (by decide) (by decide) (by decide) (by decide)
  have b0 := mof_b s h 0 40 0 0 hF (by decide) (by decide)
  have b1 := mof_b s h 1 40 0 0 hF (by decide) (by decide)
  have n8 := h.2.1
  have e9 : f_X9_won g = f_X9_won_9 40 g 0 0 0 0 := rfl
  refine ⟨⟨pp_menOf s h _, pp_menOf s h _, trivial⟩, w1, ?_, ?_⟩
  · rw [e9, w2]
    unfold f_X3_winner f_X3_menOf fin
    have eo : Int32.ofInt 1 = 1 := rfl
    have ez : Int32.ofInt 0 = 0 := rfl
    have em : Int32.ofInt (-1) = -1 := rfl
    rw [eo, ez, em]
    generalize f_X3_menOf_4 40 s p 0 0 0 = x at *
    generalize f_X3_menOf_4 40 s p 1 0 0 = y at *
    grind
  · rw [e9, w2]
    unfold fin
    repeat' split
    all_goals simp
