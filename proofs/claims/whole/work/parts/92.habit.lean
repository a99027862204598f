/-! layer 3: LEAVES, HABIT, SAFE -/
def FrH (m m' : Rec) : Prop := (∀ k, k ≠ 10 → k ≠ 11 → k ≠ 12 → m'.1 k = m.1 k) ∧ (∀ j, j ≠ 4 → j ≠ 5 → j ≠ 6 → j ≠ 7 → m'.2 j = m.2 j)
theorem FrH.r (m : Rec) : FrH m m := ⟨fun _ _ _ _ => rfl, fun _ _ _ _ _ => rfl⟩
theorem FrH.t {a b c : Rec} (h1 : FrH a b) (h2 : FrH b c) : FrH a c :=
  ⟨fun k k1 k2 k3 => (h2.1 k k1 k2 k3).trans (h1.1 k k1 k2 k3), fun j j1 j2 j3 j4 => (h2.2 j j1 j2 j3 j4).trans (h1.2 j j1 j2 j3 j4)⟩
theorem FrH.b {m m' : Rec} (h : FrH m m') : m'.2 0 = m.2 0 := h.2 0 (by decide) (by decide) (by decide) (by decide)
/-- the book laid anew lies as the board does -/
theorem la_all {K : Int32} {s p g m : Rec} (hP : PR s p g) (hG : GI K g) (hm : m.2 0 = g.2 0) : p_X9_lays m ∧ FrH m (f_X9_lays m) ∧ (∀ c : Int32, 0 ≤ c → c < 36 → rowM (f_X9_lays m) c.toNatClampNeg = rowM g c.toNatClampNeg) ∧ PR s p (f_X9_lays m) ∧ GI K (f_X9_lays m) := by
  have hG' := hG
  obtain ⟨⟨nf, hn, h16, hl⟩, hcur, d27, d26, _, _, hany, _, _, hdis⟩ := hG
  have h16m : m.2 0 16 = Int32.ofNat nf := by rw [hm]; exact h16
  obtain ⟨n0, n3⟩ := nf_in hn h16m
  obtain ⟨l1, l2⟩ := lays_f h16m hn
  have hb : (f_X9_lays m).2 0 = g.2 0 := (l2 0 (by decide)).trans hm
  have hr : ∀ c : Int32, 0 ≤ c → c < 36 → rowM (f_X9_lays m) c.toNatClampNeg = rowM g c.toNatClampNeg := by
    intro c q0 q1
    rw [hcur c q0 q1]
    exact lays_cg hn h16 h16m (fun c => isCell_congr hm c) (fun i _ => by rw [hm]) c q0 q1
  have h27 : (f_X9_lays m).2 0 27 = g.2 0 27 := by rw [hb]
  refine ⟨pp_lays n0 n3, ⟨fun k _ _ _ => by rw [l1], fun j j1 j2 j3 j4 => l2 j ⟨j1, j2, j3, j4⟩⟩, hr, ?_, ?_⟩
  · refine pr_move hP hr (fun i _ => by rw [hb]) rfl rfl rfl rfl rfl rfl (by rw [hb]; exact hP.2.2.2.2.1.1) (by rw [hb]; exact hP.2.2.2.2.1.2.1) (fun v q0 q1 => ?_)
    obtain ⟨_, _, _, e4, c⟩ := hP.2.2.1.2.2.2 v q0 q1
    have n8 := hP.2.2.1.2.1
    rw [ix8 q0 (by grind)] at e4
    exact ⟨by rw [hb]; exact e4, c⟩
  · exact gi_move hG' hr (fun i _ => by rw [hb]) (by rw [hb]; exact d27) (by rw [hb]; exact d26) (by rw [hb]; exact hany) (by rw [hb]; exact hdis)
theorem lw_all {K : Int32} {s p g m : Rec} (hP : PR s p g) (hG : GI K g) (hm : m.2 0 = g.2 0) {i : Int32} (hi : 0 ≤ i) :
    p_X9_laysWith m i ∧ FrH m (f_X9_laysWith m i) ∧ Beh g (f_X9_laysWith m i) (f_X4_choiceAxis s i) (f_X4_choiceLine s i) (f_X4_choiceWay s i) ∧ Inj (f_X9_laysWith m i) ∧ (f_X4_choiceAxis s i = 0 ∨ f_X4_choiceAxis s i = 1) := by
  obtain ⟨a1, a2, a3, a4, a5⟩ := la_all hP hG hm
  obtain ⟨nf, hn, h16, hgeo, hinj⟩ := gi_geo a5
  obtain ⟨nf', hn', h16', hgeo', hinj'⟩ := gi_geo hG
  obtain ⟨B1, B2, B3, B4⟩ := bk_b (n := nf) (by omega)
  obtain ⟨C1, C2, C3, C4⟩ := bk_b (n := nf') (by omega)
  obtain ⟨k1, k2, k3, k4, k5⟩ := pick_eq a4.2.1 hgeo B1 B2 hi
  unfold f_X9_laysWith p_X9_laysWith
  rw [k1, k2, k3]
  generalize hL : f_X9_lays m = L at *
  obtain ⟨t1, t2, t3⟩ := to_all (f_X9_pick L i) (f_X4_choiceAxis s i) (f_X4_choiceLine s i) (f_X4_choiceWay s i)
  have hb : (f_X9_turnsOver (f_X9_pick L i) (f_X4_choiceAxis s i) (f_X4_choiceLine s i) (f_X4_choiceWay s i)).2 0 = g.2 0 := by
    rw [t2 0 (by decide), k4, a2.b, hm]
  have cL : ∀ c, f_X9_isCell (f_X9_pick L i) c = f_X9_isCell g c := isCell_congr (by rw [k4, a2.b, hm])
  have rL : ∀ c : Int32, 0 ≤ c → c < 36 → rowM (f_X9_pick L i) c.toNatClampNeg = rowM g c.toNatClampNeg := by
    intro c q0 q1
    rw [← a3 c q0 q1]
    unfold rowM
    rw [k4]
  have rT : ∀ c : Int32, 0 ≤ c → c < 36 → rowM (f_X9_turnsOver (f_X9_pick L i) (f_X4_choiceAxis s i) (f_X4_choiceLine s i) (f_X4_choiceWay s i)) c.toNatClampNeg = rowM (f_X9_turnsOver g (f_X4_choiceAxis s i) (f_X4_choiceLine s i) (f_X4_choiceWay s i)) c.toNatClampNeg := fun c q0 q1 => turn_cg cL rL _ _ _ c q0 q1
  refine ⟨⟨a1, pp_pick _ _, pp_turnsOver _ _ _ _, trivial⟩, ⟨fun k z1 z2 z3 => ?_, fun j j1 j2 j3 j4 => ?_⟩, ⟨hb, rT⟩, ?_, ?_⟩
  · rw [t1, k5 k z1 z2 z3, a2.1 k z1 z2 z3]
  · rw [t2 j ⟨j1, j2, j3, j4⟩, k4, a2.2 j j1 j2 j3 j4]
  · have hit := inj_turn hgeo' C3 C4 hinj' (f_X4_choiceAxis s i) (f_X4_choiceLine s i) (f_X4_choiceWay s i)
    intro c d hc hd q1 q2 q3
    rw [isCell_turn, cL] at hc hd
    have ic := isCell_in hc
    have id := isCell_in hd
    obtain ⟨e1, e2, e3, e4⟩ := rM (rT c ic.1 ic.2)
    obtain ⟨f1, f2, f3, f4⟩ := rM (rT d id.1 id.2)
    exact hit c d (by rw [isCell_turn]; exact hc) (by rw [isCell_turn]; exact hd) (by rw [← e1, ← f1]; exact q1) (by rw [← e2, ← f2]; exact q2) (by rw [← e3, ← f3]; exact q3)
  · unfold f_X4_choiceAxis
    split
    · exact Or.inr rfl
    · exact Or.inl rfl
theorem pos_all {K : Int32} {p g h : Rec} (hG : GI K g) (hM : Mn p g) (hb : h.2 0 = g.2 0) (v : Int32) (hv : ¬ f_X9_isHere h v = 0) : ¬ f_X9_strengthOf h v = -1 := by
  have hMh : Mn p h := mn_cg hb hM
  obtain ⟨v0, v1, v2⟩ := mn_here_in hMh hv
  obtain ⟨e1, e2, e3, e4, _⟩ := hMh.2.2.2 v v0 v1
  obtain ⟨a1, a2, a3, a4⟩ := own_b hG hM v0 v1
  rw [str_pw, e1, e3]
  have := pw_b (k := p.2 1 v.toNatClampNeg) (w := h.2 7 (Int32.toNatClampNeg (h.2 0 (Int32.toNatClampNeg (Int32.ofInt 8 + v))))) a3 a4
  grind
/-- how many FOLDS may be -/
theorem ch_b {K : Int32} {s p g : Rec} (hP : PR s p g) (hG : GI K g) : 0 ≤ f_X4_choices s ∧ f_X4_choices s ≤ 8000 := by
  obtain ⟨nf, hn, h16, hgeo, hinj⟩ := gi_geo hG
  obtain ⟨B1, B2, B3, B4⟩ := bk_b (n := nf) (by omega)
  obtain ⟨h1, h2, h3, h4, h5⟩ := hP.2.1
  have a1 := ends_b hgeo B1 0 0
  have a2 := ends_b hgeo B1 0 1
  have a3 := ends_b hgeo B1 1 0
  have a4 := ends_b hgeo B1 1 1
  have l0 := en_lh g 0
  have l1 := en_lh g 1
  unfold f_X4_choices
  rw [h1, h2, h3, h4]
  show 0 ≤ 2 * (f_X9_end g 0 1 - f_X9_end g 0 0) + 2 * (f_X9_end g 1 1 - f_X9_end g 1 0) ∧ 2 * (f_X9_end g 0 1 - f_X9_end g 0 0) + 2 * (f_X9_end g 1 1 - f_X9_end g 1 0) ≤ 8000
  generalize f_X9_end g 0 0 = w0 at *
  generalize f_X9_end g 0 1 = w1 at *
  generalize f_X9_end g 1 0 = w2 at *
  generalize f_X9_end g 1 1 = w3 at *
  generalize Bk nf = B at *
  clear h1 h2 h3 h4 h5 hgeo
  exact ⟨by grind, by grind⟩
theorem fuC {K : Int32} {s p g : Rec} (hP : PR s p g) (hG : GI K g) : FuV (f_X4_choices s) 4000000000 0 := by
  obtain ⟨h1, h2⟩ := ch_b hP hG
  refine ⟨by grind, by decide, h1, ?_⟩
  have := cl_le (n := 8000) h1 h2
  omega
theorem gain {K : Int32} {s p g m : Rec} (o : Rec) (hP : PR s p g) (hG : GI K g) (hm : m.2 0 = g.2 0) {i : Int32} (hi : 0 ≤ i) :
    p_X1_look o s p (f_X4_choiceAxis s i) (f_X4_choiceLine s i) (f_X4_choiceWay s i) ∧ (∀ w, p_X1_rulersOf (f_X1_look o s p (f_X4_choiceAxis s i) (f_X4_choiceLine s i) (f_X4_choiceWay s i)) s p w ∧ p_X9_rules (f_X9_laysWith m i) w ∧ f_X1_rulersOf (f_X1_look o s p (f_X4_choiceAxis s i) (f_X4_choiceLine s i) (f_X4_choiceWay s i)) s p w = f_X9_rules (f_X9_laysWith m i) w) ∧
    (p_X1_ruledByOwn (f_X1_look o s p (f_X4_choiceAxis s i) (f_X4_choiceLine s i) (f_X4_choiceWay s i)) s p ∧ p_X9_safeNow (f_X9_laysWith m i) ∧ f_X1_ruledByOwn (f_X1_look o s p (f_X4_choiceAxis s i) (f_X4_choiceLine s i) (f_X4_choiceWay s i)) s p = f_X9_safeNow (f_X9_laysWith m i)) := by
  obtain ⟨w1, w2, w3, w4, w5⟩ := lw_all hP hG hm hi
  obtain ⟨l1, l2⟩ := lk_all (o := o) hP hG w5 w3
  have hM := hP.2.2.1
  exact ⟨l2, fun w => rls_eq hG hM w3.1 w4 l1 (pos_all hG hM w3.1) w, sfn_eq hG hM w3.1 w4 l1 (pos_all hG hM w3.1)⟩
theorem hb_loop {K : Int32} {s p g : Rec} (hP : PR s p g) (hG : GI K g) (who : Int32) : ∀ (n : Nat) (o m : Rec) (best most i : Int32), FuV (f_X4_choices s) n i → m.2 0 = g.2 0 → (best = -1 ∧ i = 0 ∨ 0 ≤ best ∧ best < i) →
    p_X1_habitOf_19 n o s p who best most i ∧ p_X9_habitNow_22 n m who (f_X4_choices s) best most i ∧ (f_X1_habitOf_19 n o s p who best most i).1 = (f_X9_habitNow_22 n m who (f_X4_choices s) best most i).1 ∧ FrH m (f_X9_habitNow_22 n m who (f_X4_choices s) best most i).2 ∧ (∃ m', (f_X9_habitNow_22 n m who (f_X4_choices s) best most i).2 = f_X9_lays m' ∧ m'.2 0 = g.2 0) ∧
    ((f_X9_habitNow_22 n m who (f_X4_choices s) best most i).1 = -1 ∧ f_X4_choices s = 0 ∨ 0 ≤ (f_X9_habitNow_22 n m who (f_X4_choices s) best most i).1 ∧ (f_X9_habitNow_22 n m who (f_X4_choices s) best most i).1 < f_X4_choices s) := by
  intro n
  induction n with
  | zero => intro o m best most i hf; exact hf.z.elim
  | succ n ih =>
    intro o m best most i hf hm hbi
    rw [p_X1_habitOf_19, p_X9_habitNow_22, f_X1_habitOf_19, f_X9_habitNow_22]
    have ic := hf.2.2.1
    by_cases c1 : f_X4_choices s ≤ i
    · obtain ⟨a1, a2, a3, a4, a5⟩ := la_all hP hG hm
      rw [if_pos c1, if_pos c1]
      have hi0 := hf.2.1
      dsimp only
      refine ⟨⟨fun _ => trivial, fun q => absurd c1 q⟩, ⟨fun _ => ⟨a1, trivial⟩, fun q => absurd c1 q⟩, rfl, a2, ⟨m, rfl, hm⟩, ?_⟩
      rcases hbi with ⟨z1, z2⟩ | ⟨z1, z2⟩
      · exact Or.inl ⟨z1, by grind⟩
      · exact Or.inr ⟨z1, by grind⟩
    · obtain ⟨f1, f2, f3⟩ := hf.s c1
      rw [if_neg c1, if_neg c1]
      obtain ⟨w1, w2, w3, w4, w5⟩ := lw_all hP hG hm f2
      obtain ⟨g1, g2, g3⟩ := gain o hP hG hm f2
      have hm' : (f_X9_laysWith m i).2 0 = g.2 0 := w3.1
      have ev : i + Int32.ofInt 1 = i + 1 := rfl
      have em : Int32.ofInt (-1) = -1 := rfl
      have h1000 := hf.1
      rw [ev, em, (g2 who).2.2, (g2 (Int32.ofInt 1 - who)).2.2]
      generalize hl : f_X1_look o s p (f_X4_choiceAxis s i) (f_X4_choiceLine s i) (f_X4_choiceWay s i) = lo at *
      generalize hh : f_X9_laysWith m i = h at *
      generalize f_X9_rules h who - f_X9_rules h (Int32.ofInt 1 - who) = gn
      by_cases c2 : best = -1
      · rw [if_pos c2, if_pos c2]
        obtain ⟨i1, i2, i3, i4, i5, i6⟩ := ih lo h i gn (i + 1) f1 hm' (Or.inr ⟨f2, by grind⟩)
        exact ⟨⟨fun q => absurd q c1, fun _ => ⟨g1, (g2 who).1, (g2 _).1, fun _ => i1, fun q => absurd c2 q⟩⟩, ⟨fun q => absurd q c1, fun _ => ⟨w1, (g2 who).2.1, (g2 _).2.1, fun _ => i2, fun q => absurd c2 q⟩⟩, i3, w2.t i4, i5, i6⟩
      · have hbi' := hbi.resolve_left (fun q => c2 q.1)
        rw [if_neg c2, if_neg c2]
        by_cases c3 : gn ≤ most
        · rw [if_pos c3, if_pos c3]
          obtain ⟨i1, i2, i3, i4, i5, i6⟩ := ih lo h best most (i + 1) f1 hm' (Or.inr ⟨hbi'.1, by grind⟩)
          exact ⟨⟨fun q => absurd q c1, fun _ => ⟨g1, (g2 who).1, (g2 _).1, fun q => absurd q c2, fun _ => ⟨fun _ => i1, fun q => absurd c3 q⟩⟩⟩, ⟨fun q => absurd q c1, fun _ => ⟨w1, (g2 who).2.1, (g2 _).2.1, fun q => absurd q c2, fun _ => ⟨fun _ => i2, fun q => absurd c3 q⟩⟩⟩, i3, w2.t i4, i5, i6⟩
        · rw [if_neg c3, if_neg c3]
          obtain ⟨i1, i2, i3, i4, i5, i6⟩ := ih lo h i gn (i + 1) f1 hm' (Or.inr ⟨f2, by grind⟩)
          exact ⟨⟨fun q => absurd q c1, fun _ => ⟨g1, (g2 who).1, (g2 _).1, fun q => absurd q c2, fun _ => ⟨fun q => absurd q c3, fun _ => i1⟩⟩⟩, ⟨fun q => absurd q c1, fun _ => ⟨w1, (g2 who).2.1, (g2 _).2.1, fun q => absurd q c2, fun _ => ⟨fun q => absurd q c3, fun _ => i2⟩⟩⟩, i3, w2.t i4, i5, i6⟩
theorem hb_all {K : Int32} {s p g m : Rec} (o : Rec) (hP : PR s p g) (hG : GI K g) (hm : m.2 0 = g.2 0) : p_X1_habitOf o s p ∧ p_X9_habitNow m ∧ (f_X1_habitOf o s p).1 = (f_X9_habitNow m).1 ∧ FrH m (f_X9_habitNow m).2 ∧ PR s p (f_X9_habitNow m).2 ∧ GI K (f_X9_habitNow m).2 ∧
    ((f_X9_habitNow m).1 = -1 ∧ f_X4_choices s = 0 ∨ 0 ≤ (f_X9_habitNow m).1 ∧ (f_X9_habitNow m).1 < f_X4_choices s) := by
  obtain ⟨a1, a2, a3, a4, a5⟩ := la_all hP hG hm
  obtain ⟨b1, b2, b3⟩ := be_eq hP hG
  obtain ⟨c1, c2, c3⟩ := be_eq a4 a5
  have ce := ch_eq a4.2.1
  have hmL : (f_X9_lays m).2 0 = g.2 0 := a2.b.trans hm
  obtain ⟨i1, i2, i3, i4, ⟨m', i5, i7⟩, i6⟩ := hb_loop hP hG (f_X3_behindNow s p) 4000000000 o (f_X9_lays m) (-1) 0 0 (fuC hP hG) hmL (Or.inl ⟨rfl, rfl⟩)
  have e9 : f_X9_habitNow m = f_X9_habitNow_22 4000000000 (f_X9_lays m) (f_X3_behindNow s p) (f_X4_choices s) (-1) 0 0 := by
    unfold f_X9_habitNow
    rw [← c3, ← ce]
    rfl
  have e8 : f_X1_habitOf o s p = f_X1_habitOf_19 4000000000 o s p (f_X3_behindNow s p) (-1) 0 0 := rfl
  rw [e9, e8]
  obtain ⟨d1, d2, d3, d4, d5⟩ := la_all hP hG i7
  refine ⟨⟨b1, i1⟩, ⟨a1, c2, pp_foldsNow _, ?_⟩, i3, a2.t i4, by rw [i5]; exact d4, by rw [i5]; exact d5, i6⟩
  rw [← c3, ← ce]
  exact i2
theorem lkn {K : Int32} {s p g m : Rec} (o : Rec) (hP : PR s p g) (hG : GI K g) (hm : m.2 0 = g.2 0) : p_X1_lookNow o s p ∧ p_X1_ruledByOwn (f_X1_lookNow o s p) s p ∧ p_X9_safeNow (f_X9_lays m) ∧ f_X1_ruledByOwn (f_X1_lookNow o s p) s p = f_X9_safeNow (f_X9_lays m) := by
  obtain ⟨a1, a2, a3, a4, a5⟩ := la_all hP hG hm
  have hM := hP.2.2.1
  obtain ⟨nf, hn, h16, hgeo, hinj⟩ := gi_geo hG
  obtain ⟨B1, B2, B3, B4⟩ := bk_b (n := nf) (by omega)
  have hx : s.1 4 = f_X9_end g 0 1 := hP.2.1.2.1
  have eb := ends_b hgeo B1 0 1
  have hb : Beh g (f_X9_lays m) (Int32.ofInt 0) (s.1 4 + Int32.ofInt 1) (Int32.ofInt 0) := by
    refine ⟨a2.b.trans hm, fun c q0 q1 => ?_⟩
    rw [a3 c q0 q1]
    have hrow := turn_row g (Int32.ofInt 0) (s.1 4 + Int32.ofInt 1) (Int32.ofInt 0) c q0 q1
    rcases hrow with ⟨r1, r2, r3⟩ | ⟨r1, r3, r4, r5, r6⟩
    · exfalso
      have h1 := tu_n.mp r2
      rw [if_pos (show Int32.ofInt 0 = 0 from rfl)] at h1
      have h2 : co g (Int32.ofInt 0) c ≤ f_X9_end g 0 1 := en_hi 0 r1
      have h3 : s.1 4 + Int32.ofInt 1 = f_X9_end g 0 1 + 1 := by rw [hx]; rfl
      rw [h3] at h1
      generalize f_X9_end g 0 1 = E at *
      generalize co g (Int32.ofInt 0) c = C at *
      generalize Bk nf = B at *
      clear hgeo
      grind
    · unfold rowM
      rw [r3, r4, r5, r6]
  obtain ⟨l1, l2⟩ := lk_all (o := o) hP hG (Or.inl rfl) hb
  obtain ⟨nf', hn', h16', hgeo', hinj'⟩ := gi_geo a5
  obtain ⟨s1, s2, s3⟩ := sfn_eq (s := s) hG hM hb.1 hinj' l1 (pos_all hG hM hb.1)
  exact ⟨⟨l2, trivial⟩, s1, s2, s3⟩
theorem sf_p {K : Int32} {s p g : Rec} (hP : PR s p g) (hG : GI K g) : ∀ (n : Nat) (m : Rec) (b i : Int32), FuV (f_X4_choices s) n i → m.2 0 = g.2 0 → p_X9_safe_16 n m b (f_X4_choices s) i ∧ FrH m (f_X9_safe_16 n m b (f_X4_choices s) i).2 ∧ (b = 0 → (f_X9_safe_16 n m b (f_X4_choices s) i).1 = 0) := by
  intro n
  induction n with
  | zero => intro m b i hf; exact hf.z.elim
  | succ n ih =>
    intro m b i hf hm
    rw [p_X9_safe_16, f_X9_safe_16]
    by_cases c1 : f_X4_choices s ≤ i
    · rw [if_pos c1]
      exact ⟨⟨fun _ => trivial, fun q => absurd c1 q⟩, FrH.r m, fun q => q⟩
    · obtain ⟨f1, f2, f3⟩ := hf.s c1
      obtain ⟨w1, w2, w3, w4, w5⟩ := lw_all hP hG hm f2
      obtain ⟨g1, g2, g3⟩ := gain (m := m) g hP hG hm f2
      rw [if_neg c1]
      obtain ⟨i1, i2, i3⟩ := ih (f_X9_laysWith m i) (b &&& f_X9_safeNow (f_X9_laysWith m i)) (i + 1) f1 w3.1
      refine ⟨⟨fun q => absurd q c1, fun _ => ⟨w1, g3.2.1, i1⟩⟩, w2.t i2, fun q => i3 ?_⟩
      rw [q]; simp
theorem sf_loop {K : Int32} {s p g : Rec} (hP : PR s p g) (hG : GI K g) : ∀ (n : Nat) (o m : Rec) (b i : Int32), FuV (f_X4_choices s) n i → m.2 0 = g.2 0 → p_X1_safeMen_13 n o s p b i ∧ (f_X1_safeMen_13 n o s p b i).1 = (f_X9_safe_16 n m b (f_X4_choices s) i).1 := by
  intro n
  induction n with
  | zero => intro o m b i hf; exact hf.z.elim
  | succ n ih =>
    intro o m b i hf hm
    have hz := (sf_p hP hG (n + 1) m b i hf hm).2.2
    rw [p_X1_safeMen_13, f_X1_safeMen_13]
    by_cases c1 : f_X4_choices s ≤ i
    · rw [f_X9_safe_16, if_pos c1, if_pos c1]
      exact ⟨⟨fun _ => trivial, fun q => absurd c1 q⟩, rfl⟩
    · obtain ⟨f1, f2, f3⟩ := hf.s c1
      rw [if_neg c1]
      by_cases c2 : b = 0
      · rw [if_pos c2, hz c2]
        exact ⟨⟨fun q => absurd q c1, fun _ => ⟨fun _ => trivial, fun q => absurd c2 q⟩⟩, c2⟩
      · obtain ⟨w1, w2, w3, w4, w5⟩ := lw_all hP hG hm f2
        obtain ⟨g1, g2, g3⟩ := gain o hP hG hm f2
        rw [if_neg c2, f_X9_safe_16, if_neg c1]
        have e : f_X1_lookBehind o s p i = f_X1_look o s p (f_X4_choiceAxis s i) (f_X4_choiceLine s i) (f_X4_choiceWay s i) := rfl
        rw [e, g3.2.2]
        obtain ⟨i1, i2⟩ := ih (f_X1_look o s p (f_X4_choiceAxis s i) (f_X4_choiceLine s i) (f_X4_choiceWay s i)) (f_X9_laysWith m i) (b &&& f_X9_safeNow (f_X9_laysWith m i)) (i + 1) f1 w3.1
        exact ⟨⟨fun q => absurd q c1, fun _ => ⟨fun q => absurd q c2, fun _ => ⟨⟨g1, trivial⟩, g3.1, i1⟩⟩⟩, i2⟩
theorem sf_all {K : Int32} {s p g m : Rec} (o : Rec) (hP : PR s p g) (hG : GI K g) (hm : m.2 0 = g.2 0) : p_X1_safeMen o s p ∧ p_X9_safe m ∧ (f_X1_safeMen o s p).1 = (f_X9_safe m).1 ∧ FrH m (f_X9_safe m).2 := by
  obtain ⟨a1, a2, a3, a4, a5⟩ := la_all hP hG hm
  have ce := ch_eq a4.2.1
  have hmL : (f_X9_lays m).2 0 = g.2 0 := a2.b.trans hm
  obtain ⟨l1, l2, l3, l4⟩ := lkn o hP hG hm
  obtain ⟨i1, i2⟩ := sf_loop hP hG 4000000000 (f_X1_lookNow o s p) (f_X9_lays m) (f_X9_safeNow (f_X9_lays m)) 0 (fuC hP hG) hmL
  obtain ⟨j1, j2, j3⟩ := sf_p hP hG 4000000000 (f_X9_lays m) (f_X9_safeNow (f_X9_lays m)) 0 (fuC hP hG) hmL
  have e9 : f_X9_safe m = f_X9_safe_16 4000000000 (f_X9_lays m) (f_X9_safeNow (f_X9_lays m)) (f_X4_choices s) 0 := by
    unfold f_X9_safe
    rw [← ce]; rfl
  have e8 : f_X1_safeMen o s p = f_X1_safeMen_13 4000000000 (f_X1_lookNow o s p) s p (f_X9_safeNow (f_X9_lays m)) 0 := by
    unfold f_X1_safeMen
    rw [l4]; rfl
  rw [e9, e8]
  refine ⟨⟨l1, l2, ?_⟩, ⟨a1, l3, pp_foldsNow _, ?_⟩, i2, a2.t j2⟩
  · rw [l4]; exact i1
  · rw [← ce]; exact j1
