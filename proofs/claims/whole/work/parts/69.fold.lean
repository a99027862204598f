/-! layer 3: a FOLD that is DUE -/
def mkB (m : Rec) (nf : Nat) (a l w : Int32) : Nat → Int32 := upd (upd (upd (upd (m.2 0) (17 + 3 * nf) a) (17 + 3 * nf + 1) l) (17 + 3 * nf + 2) w) 16 (m.2 0 16 + 1)
theorem mkB_o {m : Rec} {nf : Nat} (hn : nf < 3) (a l w : Int32) {i : Nat} (hi : i < 16 ∨ 26 ≤ i) : mkB m nf a l w i = m.2 0 i := by
  unfold mkB
  rw [upd_at, if_neg (by omega), upd_at, if_neg (by omega), upd_at, if_neg (by omega), upd_at, if_neg (by omega)]
theorem mkB_f {m : Rec} {nf : Nat} (hn : nf < 3) (a l w : Int32) {i : Nat} (hi : 17 ≤ i) (hi2 : i < 17 + 3 * nf) : mkB m nf a l w i = m.2 0 i := by
  unfold mkB
  rw [upd_at, if_neg (by omega), upd_at, if_neg (by omega), upd_at, if_neg (by omega), upd_at, if_neg (by omega)]
theorem mkB_n {m : Rec} {nf : Nat} (a l w : Int32) : mkB m nf a l w (17 + 3 * nf) = a ∧ mkB m nf a l w (17 + 3 * nf + 1) = l ∧ mkB m nf a l w (17 + 3 * nf + 2) = w ∧ mkB m nf a l w 16 = m.2 0 16 + 1 := by
  unfold mkB
  refine ⟨?_, ?_, ?_, ?_⟩
  · rw [upd_at, if_neg (by omega), upd_at, if_neg (by omega), upd_at, if_neg (by omega), upd_at, if_pos rfl]
  · rw [upd_at, if_neg (by omega), upd_at, if_neg (by omega), upd_at, if_pos rfl]
  · rw [upd_at, if_neg (by omega), upd_at, if_pos rfl]
  · rw [upd_at, if_pos rfl]
theorem makes_eq {m : Rec} {nf : Nat} (hn : nf < 3) (h16 : m.2 0 16 = Int32.ofNat nf) (a l w : Int32) : p_X9_makes m a l w ∧ f_X9_makes m a l w = if m.2 0 27 = 0 then (0, m) else if f_X9_mayFold m a l w = 0 then (0, m) else (1, setA (f_X9_turnsOver (setA m 0 (mkB m nf a l w)) a l w) 0 (upd (mkB m nf a l w) 27 (if f_X9_anyFold (f_X9_turnsOver (setA m 0 (mkB m nf a l w)) a l w) = 0 then 0 else m.2 0 27 - 1))) := by
  have e0 : (Int32.ofInt 17 + Int32.ofInt 3 * m.2 0 (Int32.toNatClampNeg (Int32.ofInt 16))).toNatClampNeg = 17 + 3 * nf := by
    show (Int32.ofInt 17 + Int32.ofInt 3 * m.2 0 16).toNatClampNeg = _
    rw [h16]
    have : nf = 0 ∨ nf = 1 ∨ nf = 2 := by omega
    rcases this with rfl | rfl | rfl <;> decide
  have e1 : (Int32.ofInt 17 + Int32.ofInt 3 * m.2 0 (Int32.toNatClampNeg (Int32.ofInt 16)) + Int32.ofInt 1).toNatClampNeg = 17 + 3 * nf + 1 := by
    show (Int32.ofInt 17 + Int32.ofInt 3 * m.2 0 16 + Int32.ofInt 1).toNatClampNeg = _
    rw [h16]
    have : nf = 0 ∨ nf = 1 ∨ nf = 2 := by omega
    rcases this with rfl | rfl | rfl <;> decide
  have e2 : (Int32.ofInt 17 + Int32.ofInt 3 * m.2 0 (Int32.toNatClampNeg (Int32.ofInt 16)) + Int32.ofInt 2).toNatClampNeg = 17 + 3 * nf + 2 := by
    show (Int32.ofInt 17 + Int32.ofInt 3 * m.2 0 16 + Int32.ofInt 2).toNatClampNeg = _
    rw [h16]
    have : nf = 0 ∨ nf = 1 ∨ nf = 2 := by omega
    rcases this with rfl | rfl | rfl <;> decide
  have k27 : Int32.toNatClampNeg (Int32.ofInt 27) = 27 := rfl
  have k16 : Int32.toNatClampNeg (Int32.ofInt 16) = 16 := rfl
  have eo : Int32.ofInt 1 = 1 := rfl
  have ez : Int32.ofInt 0 = 0 := rfl
  have b16 : (upd (upd (upd (m.2 0) (17 + 3 * nf) a) (17 + 3 * nf + 1) l) (17 + 3 * nf + 2) w) 16 = m.2 0 16 := by
    rw [upd_at, if_neg (by omega), upd_at, if_neg (by omega), upd_at, if_neg (by omega)]
  have eB : upd (upd (upd (upd (m.2 0) (17 + 3 * nf) a) (17 + 3 * nf + 1) l) (17 + 3 * nf + 2) w) 16 (m.2 0 16 + 1) = mkB m nf a l w := rfl
  constructor
  · unfold p_X9_makes
    have n3 : 0 ≤ m.2 0 16 ∧ m.2 0 16 ≤ 2 := by
      rw [h16]
      have : nf = 0 ∨ nf = 1 ∨ nf = 2 := by omega
      rcases this with rfl | rfl | rfl <;> decide
    have n3' : 0 ≤ m.2 0 (Int32.toNatClampNeg (Int32.ofInt 16)) ∧ m.2 0 (Int32.toNatClampNeg (Int32.ofInt 16)) ≤ 2 := n3
    exact ⟨fun _ => trivial, fun _ => ⟨pp_mayFold .., fun _ => trivial, fun _ => ⟨vinb (n := 248) (by grind) (by grind), vinb (n := 248) (by grind) (by grind), vinb (n := 248) (by grind) (by grind), pp_turnsOver .., pp_anyFold _, trivial⟩⟩⟩
  · unfold f_X9_makes
    rw [e0, e1, e2, k27, k16, eo, ez, b16, eB]
    obtain ⟨t1, t2, t3⟩ := to_all (setA m 0 (mkB m nf a l w)) a l w
    have gb : (f_X9_turnsOver (setA m 0 (mkB m nf a l w)) a l w).2 0 = mkB m nf a l w := t2 0 (by decide)
    have any : ∀ D, f_X9_anyFold (setA (f_X9_turnsOver (setA m 0 (mkB m nf a l w)) a l w) 0 (upd (mkB m nf a l w) 27 D)) = f_X9_anyFold (f_X9_turnsOver (setA m 0 (mkB m nf a l w)) a l w) := by
      intro D
      refine any_cg (isCell_cg fun i hi => ?_) (fun c _ _ => rfl)
      rw [gb]
      show upd (mkB m nf a l w) 27 D i = _
      rw [upd_at, if_neg (by omega)]
    have u27 : ∀ D, upd (mkB m nf a l w) 27 D 27 = D := fun D => by rw [upd_at, if_pos rfl]
    rw [gb, mkB_o hn a l w (i := 27) (by omega)]
    simp only [any, upd_u, u27]
    by_cases c1 : m.2 0 27 = 0
    · rw [if_pos c1, if_pos c1]
    · rw [if_neg c1, if_neg c1]
      by_cases c2 : f_X9_mayFold m a l w = 0
      · rw [if_pos c2, if_pos c2]
      · rw [if_neg c2, if_neg c2]
        split <;> rfl
def FrF (g g' : Rec) : Prop := (∀ k, g'.1 k = g.1 k) ∧ (∀ j, j ≠ 0 → j ≠ 4 → j ≠ 5 → j ≠ 6 → j ≠ 7 → g'.2 j = g.2 j) ∧ (∀ i, i < 16 ∨ i = 26 ∨ 28 ≤ i → g'.2 0 i = g.2 0 i)
theorem fold_sim {K : Int32} {s p g : Rec} {a l w : Int32} (hP : PR s p g) (hG : GI K g) (hd : ¬ g.2 0 27 = 0) (hm : ¬ f_X9_mayFold g a l w = 0) :
    (f_X9_makes g a l w).1 = 1 ∧ p_X9_makes g a l w ∧ p_X3_creaseDue s p a l w ∧ PR (f_X3_creaseDue s p a l w).1 (f_X3_creaseDue s p a l w).2 (f_X9_makes g a l w).2 ∧ GI K (f_X9_makes g a l w).2 ∧ FrF g (f_X9_makes g a l w).2 ∧ (f_X9_makes g a l w).2.2 0 27 < g.2 0 27 := by
  have hG' := hG
  obtain ⟨⟨nf, hn, h16, hl⟩, hcur, ⟨d1, d2⟩, hk, hev, hti, hany, hwh, hmen, hdis⟩ := hG
  obtain ⟨hs, he, hM, ⟨h0, h1, h2⟩, ⟨h6, h7, h8, h9⟩, h11⟩ := hP
  have hn3 : nf < 3 := by
    have : nf = 0 ∨ nf = 1 ∨ nf = 2 ∨ nf = 3 := by omega
    rcases this with rfl | rfl | rfl | rfl
    · omega
    · omega
    · omega
    · exfalso
      have e3 : Int32.ofNat 3 = 3 := rfl
      rw [e3] at h16
      rw [h16] at d2
      grind
  have n2 : 0 ≤ g.2 0 16 ∧ g.2 0 16 ≤ 2 := by
    rw [h16]
    have : nf = 0 ∨ nf = 1 ∨ nf = 2 := by omega
    rcases this with rfl | rfl | rfl <;> decide
  obtain ⟨pm, em⟩ := makes_eq hn3 h16 a l w
  rw [if_neg hd, if_neg hm] at em
  obtain ⟨nf', hn', h16', hgeo, hinj⟩ := gi_geo hG'
  have enf : nf' = nf := by
    have : Int32.ofNat nf' = Int32.ofNat nf := by rw [← h16', h16]
    have h2 := congrArg Int32.toNatClampNeg this
    rw [cl_nI (by omega), cl_nI (by omega)] at h2
    exact h2
  subst enf
  obtain ⟨B1, B2, B3, B4⟩ := bk_b (n := nf') (by omega)
  have may := (mf_all g a l w).2.mp hm
  have lb : -(Bk nf') ≤ l ∧ l ≤ Bk nf' := by
    have e1 := ends_b hgeo B1 a 0
    have e2 := ends_b hgeo B1 a 1
    exact ⟨by grind, by grind⟩
  -- the reference's new geometry
  obtain ⟨mb, hmb⟩ : ∃ mb, mb = mkB g nf' a l w := ⟨_, rfl⟩
  obtain ⟨G, hGd⟩ : ∃ G, G = f_X9_turnsOver (setA g 0 mb) a l w := ⟨_, rfl⟩
  rw [← hmb, ← hGd] at em
  obtain ⟨t1, t2, t3⟩ := to_all (setA g 0 mb) a l w
  rw [← hGd] at t1 t2 t3
  have gb : G.2 0 = mb := t2 0 (by decide)
  have cmb : ∀ c, f_X9_isCell (setA g 0 mb) c = f_X9_isCell g c := isCell_cg (fun i hi => by show mb i = _; rw [hmb]; exact mkB_o hn3 a l w (by omega))
  have rG : ∀ c : Int32, 0 ≤ c → c < 36 → rowM G c.toNatClampNeg = rowM (f_X9_turnsOver g a l w) c.toNatClampNeg := by
    intro c q0 q1
    rw [hGd]
    exact turn_cg cmb (fun c _ _ => rfl) a l w c q0 q1
  have cG : ∀ c, f_X9_isCell G c = f_X9_isCell g c := fun c => by rw [hGd, isCell_turn, cmb]
  obtain ⟨D, hD⟩ : ∃ D, D = (if f_X9_anyFold G = 0 then (0 : Int32) else g.2 0 27 - 1) := ⟨_, rfl⟩
  rw [← hD] at em
  obtain ⟨g', hg'⟩ : ∃ g', g' = setA G 0 (upd mb 27 D) := ⟨_, rfl⟩
  rw [← hg'] at em
  have b' : ∀ i, i ≠ 27 → g'.2 0 i = mb i := fun i hi => by rw [hg']; show upd mb 27 D i = _; rw [upd_at, if_neg hi]
  have b27 : g'.2 0 27 = D := by rw [hg']; show upd mb 27 D 27 = _; rw [upd_at, if_pos rfl]
  have bo : ∀ i, (i < 16 ∨ 26 ≤ i) → i ≠ 27 → g'.2 0 i = g.2 0 i := fun i hi h27 => by rw [b' i h27, hmb]; exact mkB_o hn3 a l w hi
  have cg' : ∀ c, f_X9_isCell g' c = f_X9_isCell g c := isCell_cg (fun i hi => bo i (by omega) (by omega))
  have rg' : ∀ c : Int32, 0 ≤ c → c < 36 → rowM g' c.toNatClampNeg = rowM (f_X9_turnsOver g a l w) c.toNatClampNeg := by
    intro c q0 q1
    rw [← rG c q0 q1, hg']
    rfl
  have anyG : f_X9_anyFold g' = f_X9_anyFold G := any_cg (fun c => by rw [cg', cG]) (fun c q0 q1 => by rw [rg' c q0 q1, rG c q0 q1])
  have f16 : g'.2 0 16 = Int32.ofNat (nf' + 1) := by
    rw [b' 16 (by decide), hmb, (mkB_n a l w).2.2.2, h16]
    exact (nI_succ nf').symm
  have s3 : s.1 2 < 3 := by rw [h2]; grind
  obtain ⟨q1, q2, q3, q4, q5, q6, q7⟩ := cr_all hs he.2.2.2.2 s3 a l w
  have hsg : SG (f_X4_crease s a l w) g' := by
    rw [sg_rows]
    intro c z0 z1
    obtain ⟨a1, a2⟩ := sg_rows.mp q1 c z0 z1
    refine ⟨?_, by rw [rg' c z0 z1]; exact a2⟩
    rw [cg', a1, isCell_turn]
  have hends : Ends (f_X4_crease s a l w) g' := ends_move q1 hsg q2
  have hgeo' : Geo g' (Bk (nf' + 1)) (Lk (nf' + 1)) := by
    have := geo_turn hgeo B1 B2 B3 B4 lb.1 lb.2 a w
    intro c z0 z1
    obtain ⟨e1, e2, e3, e4⟩ := rM (rg' c z0 z1)
    rw [e1, e2, e3, e4]
    exact this c z0 z1
  obtain ⟨C1, C2, C3, C4⟩ := bk_b (n := nf' + 1) (by omega)
  have hch := any_eq hends hgeo' C1 C2
  rw [em]
  have due : (f_X3_makeDue (f_X4_crease s a l w) p (p.1 7 - 1)).1 7 = D ∧ (∀ k, k ≠ 7 → (f_X3_makeDue (f_X4_crease s a l w) p (p.1 7 - 1)).1 k = p.1 k) ∧ (f_X3_makeDue (f_X4_crease s a l w) p (p.1 7 - 1)).2 = p.2 := by
    refine ⟨?_, ?_, ?_⟩
    · unfold f_X3_makeDue
      rw [hD, q5]
      by_cases z : f_X9_anyFold G = 0
      · rw [if_pos (hch.mpr (by rw [anyG]; exact z)), if_pos z, if_pos (show Int32.ofInt 0 ≤ p.1 7 - 1 by show (0 : Int32) ≤ p.1 7 - 1; rw [h7]; grind)]
        rfl
      · rw [if_neg (fun k => z (by rw [← anyG]; exact hch.mp k)), if_neg z]
        show (if (3 : Int32) - (s.1 2 + 1) ≤ p.1 7 - 1 then _ else _ : Rec).1 7 = _
        split
        · show (3 : Int32) - (s.1 2 + 1) = _
          rename_i zz
          rw [h7, h2] at zz
          rw [h2]
          grind
        · show p.1 7 - 1 = _
          rw [h7]
    · intro k hk
      unfold f_X3_makeDue
      repeat' split
      all_goals
        show (if k = 7 then _ else p.1 k) = _
        rw [if_neg hk]
    · unfold f_X3_makeDue
      repeat' split
      all_goals rfl
  obtain ⟨due1, due2, due3⟩ := due
  have p2 : f_X3_creaseDue s p a l w = (f_X4_crease s a l w, f_X3_makeDue (f_X4_crease s a l w) p (p.1 7 - 1)) := rfl
  rw [p2]
  generalize hpp : f_X3_makeDue (f_X4_crease s a l w) p (p.1 7 - 1) = pp at due1 due2 due3
  refine ⟨rfl, pm, ⟨pp_crease a l w (by rw [h2]; exact n2.1), trivial⟩, ?_, ?_, ?_, ?_⟩
  · dsimp only
    refine ⟨hsg, hends, ?_, ⟨?_, ?_, ?_⟩, ⟨?_, ?_, ?_, ?_⟩, ?_⟩
    · obtain ⟨m0, m8, m2, mm⟩ := hM
      have e5 := due2 5 (by decide)
      refine ⟨by rw [e5]; exact m0, by rw [e5]; exact m8, ?_, fun v z0 z1 => ?_⟩
      · rw [e5, ← m2]; exact bo 2 (by omega) (by decide)
      · rw [e5] at z1
        have z8 := cl8 z0 (by grind)
        obtain ⟨e1, e2, e3, e4, c⟩ := mm v z0 z1
        have b100 : v < 100 := by grind
        rw [ix28 z0 b100] at e1 ⊢
        rw [ix29 z0 b100] at e2 ⊢
        rw [ix30 z0 b100] at e3 ⊢
        rw [ix8 z0 b100] at e4 ⊢
        rw [bo _ (by omega) (by omega), bo _ (by omega) (by omega), bo _ (by omega) (by omega), bo _ (by omega) (by omega), cg', due3]
        exact ⟨e1, e2, e3, e4, c⟩
    · rw [q3, bo 0 (by omega) (by decide)]; exact h0
    · rw [q4, bo 1 (by omega) (by decide)]; exact h1
    · rw [q5, f16, h2, h16]; exact (nI_succ nf').symm
    · rw [due2 6 (by decide), bo 26 (by omega) (by decide)]; exact h6
    · rw [due1, b27]
    · rw [due2 8 (by decide), bo 4 (by omega) (by decide)]; exact h8
    · rw [due2 9 (by decide), bo 5 (by omega) (by decide)]; exact h9
    · intro nf2 hn2 z i hi
      have enf2 : nf2 = nf' + 1 := by
        rw [f16] at z
        have z2 := congrArg Int32.toNatClampNeg z
        rw [cl_nI (by omega), cl_nI (by omega)] at z2
        omega
      subst enf2
      rw [q7, h2, h16]
      have hk3 : nf' = 0 ∨ nf' = 1 ∨ nf' = 2 := by omega
      have f0 : (3 * Int32.ofNat nf').toNatClampNeg = 3 * nf' := by rcases hk3 with rfl | rfl | rfl <;> rfl
      have f1 : (3 * Int32.ofNat nf' + 1).toNatClampNeg = 3 * nf' + 1 := by rcases hk3 with rfl | rfl | rfl <;> rfl
      have f2 : (3 * Int32.ofNat nf' + 2).toNatClampNeg = 3 * nf' + 2 := by rcases hk3 with rfl | rfl | rfl <;> rfl
      rw [f0, f1, f2, b' _ (by omega), hmb]
      obtain ⟨z1, z2, z3, z4⟩ := mkB_n (m := g) (nf := nf') a l w
      simp only [upd_at]
      by_cases w2 : i = 3 * nf' + 2
      · rw [if_pos w2, w2, ← Nat.add_assoc, z3]
      · rw [if_neg w2]
        by_cases w1 : i = 3 * nf' + 1
        · rw [if_pos w1, w1, ← Nat.add_assoc, z2]
        · rw [if_neg w1]
          by_cases w0 : i = 3 * nf'
          · rw [if_pos w0, w0, z1]
          · rw [if_neg w0, mkB_f hn3 a l w (by omega) (by omega)]
            exact h11 nf' (by omega) h16 i (by omega)
  · refine ⟨⟨nf' + 1, by omega, f16, fun k hk => ?_⟩, ?_, ?_, ?_, ?_, ?_, ?_, ?_, ?_, ?_⟩
    · rw [b' _ (by omega), hmb]
      by_cases z : k = nf'
      · rw [z, (mkB_n (m := g) (nf := nf') a l w).2.1]
        exact lb
      · rw [mkB_f hn3 a l w (by omega) (by omega)]
        exact hl k (by omega)
    · intro c z0 z1
      rw [rg' c z0 z1, lays_N f16 (by omega)]
      show _ = rowM (f_X9_turnsOver (layN nf' (g'.2 0) (f_X9_flat g')) (g'.2 0 (17 + 3 * nf')) (g'.2 0 (17 + 3 * nf' + 1)) (g'.2 0 (17 + 3 * nf' + 2))) c.toNatClampNeg
      obtain ⟨y1, y2, y3, y4⟩ := mkB_n (m := g) (nf := nf') a l w
      rw [b' _ (by omega), b' _ (by omega), b' _ (by omega), hmb, y1, y2, y3]
      have hrow : ∀ c : Int32, 0 ≤ c → c < 36 → rowM (layN nf' (g'.2 0) (f_X9_flat g')) c.toNatClampNeg = rowM g c.toNatClampNeg := by
        intro c z0 z1
        rw [lay_cg (m := g) (m' := g') cg' (b := g.2 0) nf' (fun i hi => by rw [b' _ (by omega), hmb, mkB_f hn3 a l w (by omega) (by omega)]) c z0 z1, hcur c z0 z1, lays_N h16 hn]
      refine (turn_cg (fun c => ?_) hrow a l w c z0 z1).symm
      rw [isCell_congr (m' := g') (((layN_f (g'.2 0) (f_X9_flat g') nf').2 0 (by decide)).trans ((fl_all g').2.1 0 (by decide))), cg']
    · rw [b27, f16, ← show Int32.ofNat nf' + 1 = Int32.ofNat (nf' + 1) from (nI_succ nf').symm, ← h16, hD]
      have key : ∀ D N : Int32, ¬ D = 0 → 0 ≤ D → D ≤ 3 - N → 0 ≤ N → N ≤ 2 → (0 ≤ D - 1 ∧ D - 1 ≤ 3 - (N + 1)) ∧ 0 ≤ 3 - (N + 1) := by
        intro D N q1 q2 q3 q4 q5
        refine ⟨⟨by grind, by grind⟩, by grind⟩
      have kk := key _ _ hd d1 d2 n2.1 n2.2
      split
      · exact ⟨by decide, kk.2⟩
      · exact kk.1
    · rw [bo 26 (by omega) (by decide)]; exact hk
    · rw [bo 4 (by omega) (by decide)]; exact hev
    · rw [bo 5 (by omega) (by decide)]; exact hti
    · rw [b27, anyG]
      intro z q
      rw [hD, if_pos q] at z
      exact z rfl
    · rw [bo 0 (by omega) (by decide), bo 1 (by omega) (by decide)]; exact hwh
    · intro i z1 z2
      rw [bo 2 (by omega) (by decide)] at z1
      rw [bo _ (by omega) (by omega), bo _ (by omega) (by omega), bo _ (by omega) (by omega)]
      exact hmen i z1 z2
    · intro i j z1 z2 z3 z4
      rw [bo 2 (by omega) (by decide)] at z1
      rw [bo _ (by omega) (by omega)] at z4 ⊢
      rw [bo _ (by omega) (by omega)] at z4
      exact hdis i j z1 z2 z3 z4
  · refine ⟨fun k => ?_, fun j j0 j4 j5 j6 j7 => ?_, fun i hi => ?_⟩
    · show g'.1 k = _
      rw [hg']
      show G.1 k = _
      rw [t1]
      rfl
    · show g'.2 j = _
      rw [hg']
      show (if j = 0 then _ else G.2 j) = _
      rw [if_neg j0, t2 j ⟨j4, j5, j6, j7⟩]
      show (if j = 0 then _ else g.2 j) = _
      rw [if_neg j0]
    · exact bo i (by omega) (by omega)
  · show g'.2 0 27 < _
    rw [b27, hD]
    split
    · grind
    · grind
theorem fold_no {K : Int32} {g : Rec} (hG : GI K g) {a l w : Int32} (h : g.2 0 27 = 0 ∨ f_X9_mayFold g a l w = 0) : p_X9_makes g a l w ∧ f_X9_makes g a l w = (0, g) := by
  by_cases h27 : g.2 0 27 = 0
  · constructor
    · unfold p_X9_makes
      exact ⟨fun _ => trivial, fun q => absurd h27 q⟩
    · unfold f_X9_makes
      exact if_pos h27
  · rcases h with h | h
    · exact absurd h h27
    · constructor
      · unfold p_X9_makes
        exact ⟨fun _ => trivial, fun _ => ⟨pp_mayFold .., fun _ => trivial, fun q => absurd h q⟩⟩
      · unfold f_X9_makes
        rw [if_neg (show ¬ g.2 0 (Int32.toNatClampNeg (Int32.ofInt 27)) = 0 from h27), if_pos h]
        rfl
