/-! layer 3: a game as it stands, on both sides -/
theorem ix_add {v : Int32} (a : Nat) (h0 : 0 ≤ v) (h1 : v < 1000) (ha : a < 1000) : (Int32.ofNat a + v).toNatClampNeg = a + v.toNatClampNeg := by
  have h0' := n32_0.mp h0
  have h1' : v.toInt < 1000 := Int32.lt_iff_toInt_lt.mp h1
  have ea : (Int32.ofNat a).toInt = a := Int32.toInt_ofNat_of_lt (by omega)
  have e := n32_add (x := Int32.ofNat a) (y := v) (by rw [ea]; omega) (by rw [ea]; omega)
  show (Int32.ofNat a + v).toInt.toNat = a + v.toInt.toNat
  rw [e, ea]
  omega
theorem ix_mul3 {v : Int32} (h0 : 0 ≤ v) (h1 : v < 100) : (3 * v).toNatClampNeg = 3 * v.toNatClampNeg ∧ 0 ≤ 3 * v ∧ 3 * v < 1000 := by
  have h0' := n32_0.mp h0
  have h1' : v.toInt < 100 := Int32.lt_iff_toInt_lt.mp h1
  have e3 : (3 : Int32).toInt = 3 := rfl
  have e := n32_mul (x := 3) (y := v) (by rw [e3]; omega) (by rw [e3]; omega)
  refine ⟨?_, by grind, by grind⟩
  show (3 * v).toInt.toNat = 3 * v.toInt.toNat
  rw [e, e3]
  omega
theorem ix8 {v : Int32} (h0 : 0 ≤ v) (h1 : v < 100) : (Int32.ofInt 8 + v).toNatClampNeg = 8 + v.toNatClampNeg := ix_add 8 h0 (by grind) (by decide)
theorem ix28 {v : Int32} (h0 : 0 ≤ v) (h1 : v < 100) : (Int32.ofInt 28 + Int32.ofInt 3 * v).toNatClampNeg = 28 + 3 * v.toNatClampNeg := by
  obtain ⟨e, a, b⟩ := ix_mul3 h0 h1
  rw [← e]
  exact ix_add 28 a b (by decide)
theorem ix29 {v : Int32} (h0 : 0 ≤ v) (h1 : v < 100) : (Int32.ofInt 28 + Int32.ofInt 3 * v + Int32.ofInt 1).toNatClampNeg = 29 + 3 * v.toNatClampNeg := by
  obtain ⟨e, a, b⟩ := ix_mul3 h0 h1
  rw [← e]
  have : Int32.ofInt 28 + Int32.ofInt 3 * v + Int32.ofInt 1 = Int32.ofNat 29 + 3 * v := by
    show (28 : Int32) + 3 * v + 1 = 29 + 3 * v
    grind
  rw [this]
  exact ix_add 29 a b (by decide)
theorem ix30 {v : Int32} (h0 : 0 ≤ v) (h1 : v < 100) : (Int32.ofInt 28 + Int32.ofInt 3 * v + Int32.ofInt 2).toNatClampNeg = 30 + 3 * v.toNatClampNeg := by
  obtain ⟨e, a, b⟩ := ix_mul3 h0 h1
  rw [← e]
  have : Int32.ofInt 28 + Int32.ofInt 3 * v + Int32.ofInt 2 = Int32.ofNat 30 + 3 * v := by
    show (28 : Int32) + 3 * v + 2 = 30 + 3 * v
    grind
  rw [this]
  exact ix_add 30 a b (by decide)
theorem ix52 {v : Int32} (h0 : 0 ≤ v) (h1 : v < 100) : (Int32.ofInt 52 + v).toNatClampNeg = 52 + v.toNatClampNeg := ix_add 52 h0 (by grind) (by decide)
theorem cl8 {v : Int32} (h0 : 0 ≤ v) (h1 : v < 8) : v.toNatClampNeg < 8 := cl_lt (n := 8) h0 h1
/-- squares, by the book's entries -/
theorem isCell_cg {m m' : Rec} (h : ∀ i, i < 2 ∨ (52 ≤ i ∧ i < 88) → m'.2 0 i = m.2 0 i) (c : Int32) : f_X9_isCell m' c = f_X9_isCell m c := by
  unfold f_X9_isCell
  rw [in_0, in_35, in_w]
  have e0 : m'.2 0 (Int32.toNatClampNeg (Int32.ofInt 0)) = m.2 0 (Int32.toNatClampNeg (Int32.ofInt 0)) := h 0 (by omega)
  have e1 : m'.2 0 (Int32.toNatClampNeg (Int32.ofInt 1)) = m.2 0 (Int32.toNatClampNeg (Int32.ofInt 1)) := h 1 (by omega)
  rw [e0, e1]
  by_cases q : f_X8_within c 0 35 = 0
  · rw [if_pos q, if_pos q]
  · have q2 := wi_n.mp q
    have q3 : c < 36 := by grind
    have := cl_c36 q2.1 q3
    have e2 : m'.2 0 (Int32.toNatClampNeg (Int32.ofInt 52 + c)) = m.2 0 (Int32.toNatClampNeg (Int32.ofInt 52 + c)) := by
      rw [ix52 q2.1 (by grind)]
      exact h _ (by omega)
    rw [e2]
theorem end_cg2 {m m' : Rec} (hc : ∀ c, f_X9_isCell m' c = f_X9_isCell m c) (h4 : ∀ c : Int32, 0 ≤ c → c < 36 → m'.2 4 c.toNatClampNeg = m.2 4 c.toNatClampNeg) (h5 : ∀ c : Int32, 0 ≤ c → c < 36 → m'.2 5 c.toNatClampNeg = m.2 5 c.toNatClampNeg) (a b : Int32) : f_X9_end m' a b = f_X9_end m a b := by
  have : ∀ (n : Nat) (v3 v4 v5 : Int32), 0 ≤ v5 → f_X9_end_8 n m' a b v3 v4 v5 = f_X9_end_8 n m a b v3 v4 v5 := by
    intro n
    induction n with
    | zero => intros; rfl
    | succ n ih =>
      intro v3 v4 v5 h0
      rw [en_step, en_step]
      by_cases c1 : Int32.ofInt 36 ≤ v5
      · rw [if_pos c1, if_pos c1]
      · have e : co m' a v5 = co m a v5 := by
          unfold co
          rw [h4 v5 h0 (by grind), h5 v5 h0 (by grind)]
        rw [if_neg c1, if_neg c1, e, hc, ih _ _ _ (by grind), ih _ _ _ (by grind)]
  exact this 40 0 0 0 (by decide)
theorem any_cg {m m' : Rec} (hc : ∀ c, f_X9_isCell m' c = f_X9_isCell m c) (hr : ∀ c : Int32, 0 ≤ c → c < 36 → rowM m' c.toNatClampNeg = rowM m c.toNatClampNeg) : f_X9_anyFold m' = f_X9_anyFold m := by
  unfold f_X9_anyFold
  have := end_cg2 hc (fun c a b => (rM (hr c a b)).1) (fun c a b => (rM (hr c a b)).2.1)
  rw [this, this, this, this]
theorem topL_cg {m m' : Rec} (hc : ∀ c, f_X9_isCell m' c = f_X9_isCell m c) (hr : ∀ c : Int32, 0 ≤ c → c < 36 → rowM m' c.toNatClampNeg = rowM m c.toNatClampNeg) : topL m' = topL m := by
  have : ∀ (n : Nat) (v4 v5 : Int32), 0 ≤ v5 → tl n m' v4 v5 = tl n m v4 v5 := by
    intro n
    induction n with
    | zero => intros; rfl
    | succ n ih =>
      intro v4 v5 h0
      rw [tl, tl]
      by_cases c1 : Int32.ofInt 36 ≤ v5
      · rw [if_pos c1, if_pos c1]
      · rw [if_neg c1, if_neg c1, hc, (rM (hr v5 h0 (by grind))).2.2.1, ih _ _ (by grind), ih _ _ (by grind)]
  exact this 40 0 0 (by decide)
theorem turn_cg {m m' : Rec} (hc : ∀ c, f_X9_isCell m' c = f_X9_isCell m c) (hr : ∀ c : Int32, 0 ≤ c → c < 36 → rowM m' c.toNatClampNeg = rowM m c.toNatClampNeg) (a l w c : Int32) (h0 : 0 ≤ c) (h1 : c < 36) : rowM (f_X9_turnsOver m' a l w) c.toNatClampNeg = rowM (f_X9_turnsOver m a l w) c.toNatClampNeg := by
  rw [(to_all m' a l w).2.2 c h0 h1, (to_all m a l w).2.2 c h0 h1, hc, hr c h0 h1, topL_cg hc hr]
/-- the book laid again: the same squares, the same FOLDS -/
theorem lay_cg {m m' : Rec} (hc : ∀ c, f_X9_isCell m' c = f_X9_isCell m c) {b b' : Nat → Int32} : ∀ n : Nat, (∀ i, i < 3 * n → b' (17 + i) = b (17 + i)) → ∀ c : Int32, 0 ≤ c → c < 36 → rowM (layN n b' (f_X9_flat m')) c.toNatClampNeg = rowM (layN n b (f_X9_flat m)) c.toNatClampNeg := by
  intro n
  induction n with
  | zero =>
    intro _ c h0 h1
    show rowM (f_X9_flat m') _ = rowM (f_X9_flat m) _
    rw [(fl_all m').2.2 c h0 h1, (fl_all m).2.2 c h0 h1]
  | succ n ih =>
    intro hb c h0 h1
    have i1 := ih (fun i hi => hb i (by omega))
    have e1 := hb (3 * n) (by omega)
    have e2 := hb (3 * n + 1) (by omega)
    have e3 := hb (3 * n + 2) (by omega)
    show rowM (f_X9_turnsOver (layN n b' (f_X9_flat m')) (b' (17 + 3 * n)) (b' (17 + 3 * n + 1)) (b' (17 + 3 * n + 2))) _ = rowM (f_X9_turnsOver (layN n b (f_X9_flat m)) (b (17 + 3 * n)) (b (17 + 3 * n + 1)) (b (17 + 3 * n + 2))) _
    rw [e1, show 17 + 3 * n + 1 = 17 + (3 * n + 1) by omega, e2, show 17 + 3 * n + 2 = 17 + (3 * n + 2) by omega, e3]
    refine turn_cg (fun c => ?_) i1 _ _ _ c h0 h1
    rw [isCell_congr (m' := m') (((layN_f b' (f_X9_flat m') n).2 0 (by decide)).trans ((fl_all m').2.1 0 (by decide))), isCell_congr (m' := m) (((layN_f b (f_X9_flat m) n).2 0 (by decide)).trans ((fl_all m).2.1 0 (by decide)))]
    exact hc c
theorem lays_cg {m m' : Rec} {nf : Nat} (hn : nf ≤ 3) (h16 : m.2 0 16 = Int32.ofNat nf) (h16' : m'.2 0 16 = Int32.ofNat nf) (hc : ∀ c, f_X9_isCell m' c = f_X9_isCell m c) (hb : ∀ i, i < 3 * nf → m'.2 0 (17 + i) = m.2 0 (17 + i)) (c : Int32) (h0 : 0 ≤ c) (h1 : c < 36) : rowM (f_X9_lays m') c.toNatClampNeg = rowM (f_X9_lays m) c.toNatClampNeg := by
  rw [lays_N h16 hn, lays_N h16' hn]
  exact lay_cg hc nf hb c h0 h1
def Cur (g : Rec) : Prop := ∀ c : Int32, 0 ≤ c → c < 36 → rowM g c.toNatClampNeg = rowM (f_X9_lays g) c.toNatClampNeg
/-- the reference's book is a good one -/
def GI (K : Int32) (g : Rec) : Prop := (∃ nf : Nat, nf ≤ 3 ∧ g.2 0 16 = Int32.ofNat nf ∧ Lines (g.2 0) nf) ∧ Cur g ∧ (0 ≤ g.2 0 27 ∧ g.2 0 27 ≤ 3 - g.2 0 16) ∧ (0 ≤ g.2 0 26 ∧ g.2 0 26 ≤ K) ∧ (1 ≤ g.2 0 4 ∧ g.2 0 4 ≤ 9) ∧ (1 ≤ g.2 0 5 ∧ g.2 0 5 ≤ 3) ∧ (¬ g.2 0 27 = 0 → ¬ f_X9_anyFold g = 0) ∧ (2 ≤ g.2 0 0 ∧ g.2 0 0 ≤ 6 ∧ 2 ≤ g.2 0 1 ∧ g.2 0 1 ≤ 6) ∧
  (∀ i : Nat, Int32.ofNat i < g.2 0 2 → i < 8 → (0 ≤ g.2 0 (28 + 3 * i) ∧ g.2 0 (28 + 3 * i) ≤ 4) ∧ (g.2 0 (29 + 3 * i) = 0 ∨ g.2 0 (29 + 3 * i) = 1) ∧ (1 ≤ g.2 0 (30 + 3 * i) ∧ g.2 0 (30 + 3 * i) ≤ 9)) ∧
  (∀ i j : Nat, Int32.ofNat i < g.2 0 2 → i < 8 → j < i → g.2 0 (8 + j) = g.2 0 (8 + i) → g.2 0 (8 + i) = -1)
/-- the class's game stands as the reference's does -/
def PR (s p g : Rec) : Prop := SG s g ∧ Ends s g ∧ Mn p g ∧ (s.1 0 = g.2 0 0 ∧ s.1 1 = g.2 0 1 ∧ s.1 2 = g.2 0 16) ∧ (p.1 6 = g.2 0 26 ∧ p.1 7 = g.2 0 27 ∧ p.1 8 = g.2 0 4 ∧ p.1 9 = g.2 0 5) ∧ (∀ nf : Nat, nf ≤ 3 → g.2 0 16 = Int32.ofNat nf → ∀ i, i < 3 * nf → s.2 13 i = g.2 0 (17 + i))
theorem nf_in {g : Rec} {nf : Nat} (hn : nf ≤ 3) (h : g.2 0 16 = Int32.ofNat nf) : 0 ≤ g.2 0 16 ∧ g.2 0 16 ≤ 3 := by
  rw [h]
  have : nf = 0 ∨ nf = 1 ∨ nf = 2 ∨ nf = 3 := by omega
  rcases this with rfl | rfl | rfl | rfl <;> decide
theorem gi_geo {K : Int32} {g : Rec} (h : GI K g) : ∃ nf : Nat, nf ≤ 3 ∧ g.2 0 16 = Int32.ofNat nf ∧ Geo g (Bk nf) (Lk nf) ∧ Inj g := by
  obtain ⟨⟨nf, hn, h16, hl⟩, hcur, _⟩ := h
  obtain ⟨g1, g2⟩ := geo_lay (m := g) nf (by omega) hl
  rw [← lays_N h16 hn] at g1 g2
  have hb : (f_X9_lays g).2 0 = g.2 0 := (lays_f h16 hn).2 0 (by decide)
  refine ⟨nf, hn, h16, ?_, ?_⟩
  · intro c h0 h1
    obtain ⟨e1, e2, e3, e4⟩ := rM (hcur c h0 h1)
    rw [e1, e2, e3, e4]
    exact g1 c h0 h1
  · intro c d hc hd q1 q2 q3
    have ic := isCell_in hc
    have id := isCell_in hd
    obtain ⟨e1, e2, e3, e4⟩ := rM (hcur c ic.1 ic.2)
    obtain ⟨f1, f2, f3, f4⟩ := rM (hcur d id.1 id.2)
    rw [← isCell_congr hb] at hc hd
    exact g2 c d hc hd (by rw [← e1, ← f1]; exact q1) (by rw [← e2, ← f2]; exact q2) (by rw [← e3, ← f3]; exact q3)
/-- the book changes where men stand, how many MOVES, what is DUE -/
theorem pr_move {s p p' g g' : Rec} (h : PR s p g) (hg : ∀ c : Int32, 0 ≤ c → c < 36 → rowM g' c.toNatClampNeg = rowM g c.toNatClampNeg)
    (hb : ∀ i, (i < 3 ∨ i = 4 ∨ i = 5 ∨ (16 ≤ i ∧ i < 26) ∨ (28 ≤ i ∧ i < 88)) → g'.2 0 i = g.2 0 i)
    (p5 : p'.1 5 = p.1 5) (p8 : p'.1 8 = p.1 8) (p9 : p'.1 9 = p.1 9) (r1 : p'.2 1 = p.2 1) (r2 : p'.2 2 = p.2 2) (r3 : p'.2 3 = p.2 3)
    (p6 : p'.1 6 = g'.2 0 26) (p7 : p'.1 7 = g'.2 0 27)
    (hw : ∀ v : Int32, 0 ≤ v → v < p.1 5 → g'.2 0 (8 + v.toNatClampNeg) = p'.2 4 v.toNatClampNeg ∧ (p'.2 4 v.toNatClampNeg = -1 ∨ ¬ f_X9_isCell g (p'.2 4 v.toNatClampNeg) = 0)) : PR s p' g' := by
  obtain ⟨h1, h2, h3, ⟨h4, h5, h6⟩, ⟨h7, h8, h9, h10⟩, h11⟩ := h
  have hc : ∀ c, f_X9_isCell g' c = f_X9_isCell g c := isCell_cg (fun i hi => hb i (by omega))
  have hsg : SG s g' := by
    rw [sg_rows]
    intro c q0 q1
    obtain ⟨a1, a2⟩ := sg_rows.mp h1 c q0 q1
    exact ⟨by rw [hc]; exact a1, by rw [hg c q0 q1]; exact a2⟩
  refine ⟨hsg, ends_move h1 hsg h2, ?_, ⟨by rw [hb 0 (by omega)]; exact h4, by rw [hb 1 (by omega)]; exact h5, by rw [hb 16 (by omega)]; exact h6⟩, ⟨p6, p7, by rw [p8, hb 4 (by omega)]; exact h9, by rw [p9, hb 5 (by omega)]; exact h10⟩, ?_⟩
  · obtain ⟨m0, m8, m2, mm⟩ := h3
    refine ⟨by rw [p5]; exact m0, by rw [p5]; exact m8, ?_, fun v q0 q1 => ?_⟩
    · rw [p5, ← m2]
      exact hb 2 (by omega)
    · rw [p5] at q1
      have q8 := cl8 q0 (by grind)
      obtain ⟨e1, e2, e3, e4, c⟩ := mm v q0 q1
      obtain ⟨w1, w2⟩ := hw v q0 q1
      have b100 : v < 100 := by grind
      rw [ix28 q0 b100] at e1 ⊢
      rw [ix29 q0 b100] at e2 ⊢
      rw [ix30 q0 b100] at e3 ⊢
      rw [ix8 q0 b100] at e4 ⊢
      refine ⟨?_, ?_, ?_, w1, ?_⟩
      · rw [r1, ← e1]; exact hb _ (by omega)
      · rw [r2, ← e2]; exact hb _ (by omega)
      · rw [r3, ← e3]; exact hb _ (by omega)
      · rw [hc]; exact w2
  · intro nf hn q i hi
    rw [hb 16 (by omega)] at q
    rw [hb (17 + i) (by omega)]
    exact h11 nf hn q i hi
theorem gi_move {K K' : Int32} {g g' : Rec} (h : GI K g) (hg : ∀ c : Int32, 0 ≤ c → c < 36 → rowM g' c.toNatClampNeg = rowM g c.toNatClampNeg)
    (hb : ∀ i, (i < 3 ∨ i = 4 ∨ i = 5 ∨ (16 ≤ i ∧ i < 26) ∨ (28 ≤ i ∧ i < 88)) → g'.2 0 i = g.2 0 i)
    (h27 : 0 ≤ g'.2 0 27 ∧ g'.2 0 27 ≤ 3 - g'.2 0 16) (h26 : 0 ≤ g'.2 0 26 ∧ g'.2 0 26 ≤ K') (hany : ¬ g'.2 0 27 = 0 → ¬ f_X9_anyFold g = 0)
    (hd : ∀ i j : Nat, Int32.ofNat i < g.2 0 2 → i < 8 → j < i → g'.2 0 (8 + j) = g'.2 0 (8 + i) → g'.2 0 (8 + i) = -1) : GI K' g' := by
  obtain ⟨⟨nf, hn, h16, hl⟩, hcur, _, _, h4, h5, _, hwh, hm, _⟩ := h
  have hc : ∀ c, f_X9_isCell g' c = f_X9_isCell g c := isCell_cg (fun i hi => hb i (by omega))
  have h16' : g'.2 0 16 = Int32.ofNat nf := by rw [hb 16 (by omega)]; exact h16
  refine ⟨⟨nf, hn, h16', fun k hk => ?_⟩, ?_, h27, h26, ?_, ?_, ?_, ?_, ?_, ?_⟩
  · rw [hb (17 + 3 * k + 1) (by omega)]
    exact hl k hk
  · intro c q0 q1
    rw [hg c q0 q1, hcur c q0 q1]
    exact (lays_cg hn h16 h16' hc (fun i hi => hb (17 + i) (by omega)) c q0 q1).symm
  · rw [hb 4 (by omega)]; exact h4
  · rw [hb 5 (by omega)]; exact h5
  · rw [any_cg hc hg]; exact hany
  · rw [hb 0 (by omega), hb 1 (by omega)]; exact hwh
  · intro i q1 q2
    rw [hb 2 (by omega)] at q1
    rw [hb (28 + 3 * i) (by omega), hb (29 + 3 * i) (by omega), hb (30 + 3 * i) (by omega)]
    exact hm i q1 q2
  · intro i j q1 q2 q3 q4
    rw [hb 2 (by omega)] at q1
    exact hd i j q1 q2 q3 q4
