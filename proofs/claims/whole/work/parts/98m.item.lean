/-! layer 3: ITEMS of THE GAME -/
def FrX (e e' : Rec) : Prop := e'.1 2 = e.1 2 ∧ e'.2 0 = e.2 0
def FrM (m m' : Rec) : Prop := (∀ k, k ≠ 28 → m'.2 k = m.2 k) ∧ ∀ k, k ≠ 24 → k ≠ 25 → k ≠ 26 → k ≠ 27 → k ≠ 29 → m'.1 k = m.1 k
theorem FrX.t {a b c : Rec} (h1 : FrX a b) (h2 : FrX b c) : FrX a c := ⟨h2.1.trans h1.1, h2.2.trans h1.2⟩
theorem FrM.t {a b c : Rec} (h1 : FrM a b) (h2 : FrM b c) : FrM a c := ⟨fun k q => (h2.1 k q).trans (h1.1 k q), fun k a b c d e => (h2.2 k a b c d e).trans (h1.2 k a b c d e)⟩
theorem FrE.x {a b : Rec} (h : FrE a b) : FrX a b := ⟨h.2 2 (by decide) (by decide) (by decide), by rw [h.1]⟩
theorem FrT.m {a b : Rec} (h : FrT a b) : FrM a b := ⟨fun k _ => by rw [h.1], fun k a b c d _ => h.2 k a b c d⟩
theorem fm29 (m : Rec) (x : Int32) : FrM m (setG m 29 x) := ⟨fun _ _ => rfl, fun k _ _ _ _ a => by rw [setG_1, if_neg a]⟩
theorem fm28 (m : Rec) (f : Nat → Int32) : FrM m (setA m 28 f) := ⟨fun k a => setA_ne a, fun _ _ _ _ _ _ => rfl⟩
theorem fx1 (e : Rec) (f : Nat → Int32) : FrX e (setA e 1 f) := ⟨rfl, setA_ne (by decide)⟩
theorem fx3 (e : Rec) (x : Int32) : FrX e (setG e 3 x) := ⟨rfl, rfl⟩
theorem tkm6 {r k : Int32} (h : TkM r k) : r = 6 ↔ k = 3 := by
  rcases h with ⟨a, b⟩ | ⟨a, b⟩ | ⟨a, b⟩ | ⟨a, b⟩ | ⟨a, b⟩ | ⟨a, b⟩ <;> subst a <;> subst b <;> decide
theorem tkm5 {r k : Int32} (h : TkM r k) : r = 5 ↔ k = 2 := by
  rcases h with ⟨a, b⟩ | ⟨a, b⟩ | ⟨a, b⟩ | ⟨a, b⟩ | ⟨a, b⟩ | ⟨a, b⟩ <;> subst a <;> subst b <;> decide
theorem re_step (K : Rec → Int32 × Rec) (n : Nat) (m : Rec) (v D i : Int32) (hD : D = if v = Int32.ofInt 4 then Int32.ofInt 4 else Int32.ofInt 3) : f_X9_reads_51 K (n + 1) m v i = if D ≤ i then (if m.1 26 = Int32.ofInt 3 then K (f_X9_scans (setG m 29 (m.1 29 + Int32.ofInt 1))) else (Int32.ofInt 0, m)) else (if m.1 26 = Int32.ofInt 2 then f_X9_reads_51 K n (f_X9_scans (setA m 28 (upd (m.2 28) (Int32.toNatClampNeg (((Int32.ofInt 5 * m.1 29) + Int32.ofInt 1) + i)) (m.1 27)))) v (i + Int32.ofInt 1) else (Int32.ofInt 0, m)) := by
  rw [f_X9_reads_51]
  by_cases c : v = Int32.ofInt 4
  · rw [if_pos c] at hD ⊢
    rw [hD]
  · rw [if_neg c] at hD ⊢
    rw [hD]
theorem re_p (G : Rec → Prop) (n : Nat) (m : Rec) (v D i : Int32) (hD : D = if v = Int32.ofInt 4 then Int32.ofInt 4 else Int32.ofInt 3) (h1 : D ≤ i → m.1 26 = Int32.ofInt 3 → p_X9_scans (setG m 29 (m.1 29 + Int32.ofInt 1)) ∧ G (f_X9_scans (setG m 29 (m.1 29 + Int32.ofInt 1)))) (h2 : ¬ D ≤ i → m.1 26 = Int32.ofInt 2 → vp_in (((Int32.ofInt 5 * m.1 29) + Int32.ofInt 1) + i) 300 ∧ p_X9_scans (setA m 28 (upd (m.2 28) (Int32.toNatClampNeg (((Int32.ofInt 5 * m.1 29) + Int32.ofInt 1) + i)) (m.1 27))) ∧ p_X9_reads_51 G n (f_X9_scans (setA m 28 (upd (m.2 28) (Int32.toNatClampNeg (((Int32.ofInt 5 * m.1 29) + Int32.ofInt 1) + i)) (m.1 27)))) v (i + Int32.ofInt 1)) : p_X9_reads_51 G (n + 1) m v i := by
  rw [p_X9_reads_51]
  by_cases c : v = Int32.ofInt 4
  · rw [if_pos c] at hD
    subst hD
    exact ⟨fun _ => ⟨fun a => ⟨fun b => h1 a b, fun _ => trivial⟩, fun a => ⟨fun b => h2 a b, fun _ => trivial⟩⟩, fun y => absurd c y⟩
  · rw [if_neg c] at hD
    subst hD
    exact ⟨fun y => absurd y c, fun _ => ⟨fun a => ⟨fun b => h1 a b, fun _ => trivial⟩, fun a => ⟨fun b => h2 a b, fun _ => trivial⟩⟩⟩
/-- what an ITEM's numbers leave -/
def ItR (D i : Int32) (e m : Rec) (r : Int32 × Rec) (P : (Rec → Prop) → Prop) (F : (Rec → Int32 × Rec) → Int32 × Rec) : Prop :=
  (r.1 = 2 ∧ ∃ M : Rec, (∀ G, P G) ∧ (∀ K, F K = (0, M)) ∧ TkR r.2 M ∧ (r.2.1 5 = M.1 25 ∧ 0 ≤ M.1 25) ∧ FrM m M ∧ FrX e r.2) ∨
  (r.1 = 0 ∧ ∃ M : Rec, (∀ G : Rec → Prop, G (f_X9_scans M) → P G) ∧ (∀ K, F K = K (f_X9_scans M)) ∧ TkR r.2 M ∧ FrM m M ∧ FrX e r.2 ∧ M.1 29 = m.1 29 + 1 ∧ m.1 24 + (D - i) + 1 ≤ M.1 24 ∧ r.2.1 3 = e.1 3 ∧ (∀ j : Int32, 0 ≤ j → j < D → r.2.2 1 j.toNatClampNeg = M.2 28 (5 * m.1 29 + 1 + j).toNatClampNeg) ∧ (∀ k : Nat, (∀ j : Int32, 0 ≤ j → j < D → k ≠ (5 * m.1 29 + 1 + j).toNatClampNeg) → M.2 28 k = m.2 28 k))
theorem it_loop (D v : Int32) (hD : D = if v = Int32.ofInt 4 then Int32.ofInt 4 else Int32.ofInt 3) (hD4 : D ≤ 4) : ∀ (n : Nat) (e m : Rec) (i : Int32), TkR e m → 0 ≤ m.1 29 → m.1 29 ≤ 50 → 0 ≤ i → i ≤ D → (∀ j : Int32, 0 ≤ j → j < i → e.2 1 j.toNatClampNeg = m.2 28 (5 * m.1 29 + 1 + j).toNatClampNeg) → D.toNatClampNeg < n + i.toNatClampNeg →
    p_X6_readItem_53 n e D i ∧ ItR D i e m (f_X6_readItem_53 n e D i) (fun G => p_X9_reads_51 G n (f_X9_scans m) v i) (fun K => f_X9_reads_51 K n (f_X9_scans m) v i) := by
  intro n
  induction n with
  | zero =>
    intro e m i h _ _ _ hi _ hn
    have := cl_mono hi
    omega
  | succ n ih =>
    intro e m i h x0 x50 i0 iD hr hn
    obtain ⟨a1, a2, b1, b2, b3, b4, b5, b6, b7, b8⟩ := tk_next h
    rw [p_X6_readItem_53, f_X6_readItem_53]
    obtain ⟨E, hE⟩ : ∃ z, z = f_X6_nextToken e := ⟨_, rfl⟩
    obtain ⟨M, hM⟩ : ∃ z, z = f_X9_scans m := ⟨_, rfl⟩
    rw [← hE, ← hM] at b1 b2 b3 b4 b6
    rw [← hE] at b7
    rw [← hM] at b5 b8
    rw [← hE, ← hM]
    have M29 : M.1 29 = m.1 29 := b8.2 29 (by decide) (by decide) (by decide) (by decide)
    have M28 : M.2 28 = m.2 28 := by rw [b8.1]
    have E1 : E.2.2 1 = e.2 1 := by rw [b7.1]
    have E3 : E.2.1 3 = e.1 3 := b7.2 3 (by decide) (by decide) (by decide)
    by_cases c : D ≤ i
    · rw [if_pos c]
      have iD' : i = D := Int32.le_antisymm iD c
      by_cases c2 : E.1 = Int32.ofInt 6
      · have c3 : M.1 26 = Int32.ofInt 3 := (tkm6 b3).mp c2
        rw [if_pos c2]
        have tn : TkR E.2 (setG M 29 (M.1 29 + Int32.ofInt 1)) := b1
        have pn := (tk_next tn).2.1
        refine ⟨⟨fun _ => ⟨a1, trivial⟩, fun y => absurd c y⟩, Or.inr ⟨rfl, setG M 29 (M.1 29 + Int32.ofInt 1), ?_, ?_, tn, b8.m.t (fm29 _ _), b7.x, ?_, ?_, E3, ?_, ?_⟩⟩
        · intro G g
          exact re_p G n M v D i hD (fun _ _ => ⟨pn, g⟩) (fun y => absurd c y)
        · intro K
          show f_X9_reads_51 K (n + 1) M v i = _
          rw [re_step K n M v D i hD, if_pos c, if_pos c3]
        · show M.1 29 + 1 = _
          rw [M29]
        · show m.1 24 + (D - i) + 1 ≤ M.1 24
          have q := b6 (by rw [c2]; decide) (by rw [c2]; decide)
          have := b1.2.2.2
          have := b1.1.2.2.1
          have := h.2.2.1
          rw [iD']
          grind
        · intro j j0 jD
          show E.2.2 1 _ = M.2 28 _
          rw [E1, M28]
          exact hr j j0 (by rw [iD']; exact jD)
        · intro k _
          show M.2 28 k = _
          rw [M28]
      · have c3 : ¬ M.1 26 = Int32.ofInt 3 := fun y => c2 ((tkm6 b3).mpr y)
        rw [if_neg c2]
        refine ⟨⟨fun _ => ⟨a1, trivial⟩, fun y => absurd c y⟩, Or.inl ⟨rfl, M, ?_, ?_, b1, b2, b8.m, b7.x⟩⟩
        · intro G
          exact re_p G n M v D i hD (fun _ y => absurd y c3) (fun y => absurd c y)
        · intro K
          show f_X9_reads_51 K (n + 1) M v i = _
          rw [re_step K n M v D i hD, if_pos c, if_neg c3]
          rfl
    · rw [if_neg c]
      have iD' : i < D := by grind
      by_cases c2 : E.1 = Int32.ofInt 5
      · have c3 : M.1 26 = Int32.ofInt 2 := (tkm5 b3).mp c2
        rw [if_pos c2]
        have val := b4 c2
        have ix : ((Int32.ofInt 5 * M.1 29) + Int32.ofInt 1) + i = 5 * m.1 29 + 1 + i := by rw [M29]; rfl
        have i5 : 0 ≤ 5 * m.1 29 := by grind
        have i5' : 5 * m.1 29 ≤ 250 := by grind
        have vin := vinb (n := 300) (x := 5 * m.1 29 + 1 + i) (by grind) (by show _ < (300 : Int32); grind)
        have vi4 := vinb (n := 4) (x := i) i0 (by show _ < (4 : Int32); grind)
        obtain ⟨e', he'⟩ : ∃ z, z = setA E.2 1 (upd (E.2.2 1) i.toNatClampNeg (E.2.1 6)) := ⟨_, rfl⟩
        obtain ⟨m', hm'⟩ : ∃ z, z = setA M 28 (upd (M.2 28) (5 * m.1 29 + 1 + i).toNatClampNeg (M.1 27)) := ⟨_, rfl⟩
        rw [← he']
        have tk' : TkR e' m' := by
          obtain ⟨⟨t1, t2, t3, t4⟩, t5, t6, t7⟩ := b1
          rw [he', hm']
          refine ⟨⟨t1, t2, t3, ?_⟩, t5, t6, t7⟩
          intro k k1 k2
          rw [setA_ne (by decide), setA_ne (by decide)]
          exact t4 k k1 k2
        have m29 : m'.1 29 = m.1 29 := by rw [hm']; exact M29
        have sc : (i + Int32.ofInt 1).toNatClampNeg = i.toNatClampNeg + 1 := cl_succ i0 (by grind)
        have hr' : ∀ j : Int32, 0 ≤ j → j < i + Int32.ofInt 1 → e'.2 1 j.toNatClampNeg = m'.2 28 (5 * m'.1 29 + 1 + j).toNatClampNeg := by
          intro j j0 ji
          have ji' : j < i + 1 := ji
          rw [m29, he', hm', setA_at, setA_at, E1, M28, val]
          by_cases q : j = i
          · rw [q]
            show (if _ = _ then _ else _) = (if _ = _ then _ else _)
            rw [if_pos rfl, if_pos rfl]
          · have n1 : ¬ j.toNatClampNeg = i.toNatClampNeg := fun y => q (cl_inj j0 i0 y)
            have n2 : ¬ (5 * m.1 29 + 1 + j).toNatClampNeg = (5 * m.1 29 + 1 + i).toNatClampNeg := fun y => q (by
              have := cl_inj (x := 5 * m.1 29 + 1 + j) (y := 5 * m.1 29 + 1 + i) (by grind) (by grind) y
              grind)
            show (if _ = _ then _ else _) = (if _ = _ then _ else _)
            rw [if_neg n1, if_neg n2]
            exact hr j j0 (by grind)
        obtain ⟨j1, j2⟩ := ih e' m' (i + Int32.ofInt 1) tk' (by rw [m29]; exact x0) (by rw [m29]; exact x50) (by show 0 ≤ i + 1; grind) (by show i + 1 ≤ D; grind) hr' (by rw [sc]; omega)
        have pn := (tk_next tk').2.1
        have fX : FrX e e' := b7.x.t (by rw [he']; exact fx1 _ _)
        have fM : FrM m m' := b8.m.t (by rw [hm']; exact fm28 _ _)
        refine ⟨⟨fun y => absurd y c, fun _ => ⟨a1, fun _ => ⟨vi4, j1⟩, fun y => absurd c2 y⟩⟩, ?_⟩
        have Fs : ∀ K, f_X9_reads_51 K (n + 1) M v i = f_X9_reads_51 K n (f_X9_scans m') v (i + Int32.ofInt 1) := by
          intro K
          rw [re_step K n M v D i hD, if_neg c, if_pos c3, ix, ← hm']
        have Ps : ∀ G, p_X9_reads_51 G n (f_X9_scans m') v (i + Int32.ofInt 1) → p_X9_reads_51 G (n + 1) M v i := by
          intro G g
          refine re_p G n M v D i hD (fun y => absurd y c) (fun _ _ => ?_)
          rw [ix, ← hm']
          exact ⟨vin, pn, g⟩
        rcases j2 with ⟨r1, Z, z1, z2, z3, z4, z5, z6⟩ | ⟨r1, Z, z1, z2, z3, z5, z6, z7, z8, z9, z10, z11⟩
        · exact Or.inl ⟨r1, Z, fun G => Ps G (z1 G), fun K => (Fs K).trans (z2 K), z3, z4, fM.t z5, fX.t z6⟩
        · refine Or.inr ⟨r1, Z, fun G g => Ps G (z1 G g), fun K => (Fs K).trans (z2 K), z3, fM.t z5, fX.t z6, by rw [z7, m29], ?_, ?_, ?_, ?_⟩
          · have q := b6 (by rw [c2]; decide) (by rw [c2]; decide)
            have m24 : m'.1 24 = M.1 24 := by rw [hm']; rfl
            have z8' : m'.1 24 + (D - (i + 1)) + 1 ≤ Z.1 24 := z8
            rw [m24] at z8'
            have := b1.2.2.2
            have := b1.1.2.2.1
            have := h.2.2.1
            have := z3.2.2.2
            have := z3.1.2.2.1
            grind
          · rw [z9, he']
            exact E3
          · intro j j0 jD
            have := z10 j j0 jD
            rw [m29] at this
            exact this
          · intro k hk
            rw [z11 k (by rw [m29]; exact hk), hm', setA_at, M28]
            show (if _ = _ then _ else _) = _
            rw [if_neg (hk i i0 iD')]
      · have c3 : ¬ M.1 26 = Int32.ofInt 2 := fun y => c2 ((tkm5 b3).mpr y)
        rw [if_neg c2]
        refine ⟨⟨fun y => absurd y c, fun _ => ⟨a1, fun y => absurd y c2, fun _ => trivial⟩⟩, Or.inl ⟨rfl, M, ?_, ?_, b1, b2, b8.m, b7.x⟩⟩
        · intro G
          exact re_p G n M v D i hD (fun y => absurd y c) (fun _ y => absurd y c3)
        · intro K
          show f_X9_reads_51 K (n + 1) M v i = _
          rw [re_step K n M v D i hD, if_neg c, if_neg c3]
          rfl
