/-! layer 3: one ITEM whole -/
def RwR (e m : Rec) (x : Int32) : Prop := (e.1 3 = 1 ∧ m.2 28 (5 * x).toNatClampNeg = 4 ∧ ∀ j : Int32, 0 ≤ j → j < 4 → e.2 1 j.toNatClampNeg = m.2 28 (5 * x + 1 + j).toNatClampNeg) ∨ (e.1 3 = 0 ∧ m.2 28 (5 * x).toNatClampNeg = 5 ∧ ∀ j : Int32, 0 ≤ j → j < 3 → e.2 1 j.toNatClampNeg = m.2 28 (5 * x + 1 + j).toNatClampNeg)
/-- what one ITEM leaves -/
def ItW (n : Nat) (e m : Rec) (r : Int32 × Rec) : Prop :=
  (r.1 = 1 ∧ p_X9_reads_14 (n + 1) (f_X9_scans m) ∧ f_X9_reads_14 (n + 1) (f_X9_scans m) = (1, f_X9_scans m) ∧ TkR r.2 (f_X9_scans m) ∧ FrM m (f_X9_scans m) ∧ (f_X9_scans m).1 29 = m.1 29 ∧ (f_X9_scans m).2 28 = m.2 28 ∧ FrX e r.2) ∨
  (r.1 = 2 ∧ ∃ M : Rec, p_X9_reads_14 (n + 1) (f_X9_scans m) ∧ f_X9_reads_14 (n + 1) (f_X9_scans m) = (0, M) ∧ TkR r.2 M ∧ (r.2.1 5 = M.1 25 ∧ 0 ≤ M.1 25) ∧ FrM m M ∧ FrX e r.2) ∨
  (r.1 = 0 ∧ ∃ M : Rec, (p_X9_reads_14 n (f_X9_scans M) → p_X9_reads_14 (n + 1) (f_X9_scans m)) ∧ f_X9_reads_14 (n + 1) (f_X9_scans m) = f_X9_reads_14 n (f_X9_scans M) ∧ TkR r.2 M ∧ FrM m M ∧ FrX e r.2 ∧ M.1 29 = m.1 29 + 1 ∧ m.1 24 + 5 ≤ M.1 24 ∧ RwR r.2 M (m.1 29) ∧ (∀ k : Int32, 0 ≤ k → k < 5 * m.1 29 → M.2 28 k.toNatClampNeg = m.2 28 k.toNatClampNeg))
theorem it_all (n : Nat) {e m : Rec} (h : TkR e m) (x0 : 0 ≤ m.1 29) (x50 : m.1 29 ≤ 50) : p_X6_readItem e ∧ ItW n e m (f_X6_readItem e) := by
  obtain ⟨a1, a2, b1, b2, b3, b4, b5, b6, b7, b8⟩ := tk_next h
  unfold p_X6_readItem f_X6_readItem ItW
  obtain ⟨E, hE⟩ : ∃ z, z = f_X6_nextToken e := ⟨_, rfl⟩
  obtain ⟨M, hM⟩ : ∃ z, z = f_X9_scans m := ⟨_, rfl⟩
  rw [← hE, ← hM] at b1 b2 b3 b4 b6
  rw [← hE] at b7
  rw [← hM] at b5 b8
  rw [← hE, ← hM]
  have M29 : M.1 29 = m.1 29 := b8.2 29 (by decide) (by decide) (by decide) (by decide)
  have M28 : M.2 28 = m.2 28 := by rw [b8.1]
  have i5 : 0 ≤ 5 * m.1 29 := by grind
  have i5' : 5 * m.1 29 ≤ 250 := by grind
  have ix : Int32.ofInt 5 * M.1 29 = 5 * m.1 29 := by rw [M29]; rfl
  have vin := vinb (n := 300) (x := 5 * m.1 29) i5 (by show _ < (300 : Int32); grind)
  -- a word that begins an item
  have wd : ∀ (D v s : Int32), D = (if v = Int32.ofInt 4 then Int32.ofInt 4 else Int32.ofInt 3) → D ≤ 4 → 3 ≤ D → M.1 26 = v → Int32.ofInt 4 ≤ v → ¬ v = 0 → m.1 24 < M.1 24 → (∀ (y : Rec) (z : Rec), y.1 3 = s → z.2 28 (5 * m.1 29).toNatClampNeg = v → (∀ j : Int32, 0 ≤ j → j < D → y.2 1 j.toNatClampNeg = z.2 28 (5 * m.1 29 + 1 + j).toNatClampNeg) → RwR y z (m.1 29)) →
      p_X6_readItem_53 300 (setG E.2 3 s) D (Int32.ofInt 0) ∧ (((f_X6_readItem_53 300 (setG E.2 3 s) D (Int32.ofInt 0)).1 = 2 ∧ ∃ Z : Rec, p_X9_reads_14 (n + 1) M ∧ f_X9_reads_14 (n + 1) M = (0, Z) ∧ TkR (f_X6_readItem_53 300 (setG E.2 3 s) D (Int32.ofInt 0)).2 Z ∧ ((f_X6_readItem_53 300 (setG E.2 3 s) D (Int32.ofInt 0)).2.1 5 = Z.1 25 ∧ 0 ≤ Z.1 25) ∧ FrM m Z ∧ FrX e (f_X6_readItem_53 300 (setG E.2 3 s) D (Int32.ofInt 0)).2) ∨ ((f_X6_readItem_53 300 (setG E.2 3 s) D (Int32.ofInt 0)).1 = 0 ∧ ∃ Z : Rec, (p_X9_reads_14 n (f_X9_scans Z) → p_X9_reads_14 (n + 1) M) ∧ f_X9_reads_14 (n + 1) M = f_X9_reads_14 n (f_X9_scans Z) ∧ TkR (f_X6_readItem_53 300 (setG E.2 3 s) D (Int32.ofInt 0)).2 Z ∧ FrM m Z ∧ FrX e (f_X6_readItem_53 300 (setG E.2 3 s) D (Int32.ofInt 0)).2 ∧ Z.1 29 = m.1 29 + 1 ∧ m.1 24 + 5 ≤ Z.1 24 ∧ RwR (f_X6_readItem_53 300 (setG E.2 3 s) D (Int32.ofInt 0)).2 Z (m.1 29) ∧ (∀ k : Int32, 0 ≤ k → k < 5 * m.1 29 → Z.2 28 k.toNatClampNeg = m.2 28 k.toNatClampNeg))) := by
    intro D v s hD hD4 hD3 hv v4 vn mp hR
    obtain ⟨m1, hm1⟩ : ∃ z, z = setA M 28 (upd (M.2 28) (5 * m.1 29).toNatClampNeg (M.1 26)) := ⟨_, rfl⟩
    have tk1 : TkR (setG E.2 3 s) m1 := by
      obtain ⟨⟨t1, t2, t3, t4⟩, t5, t6, t7⟩ := b1
      rw [hm1]
      refine ⟨⟨t1, t2, t3, ?_⟩, t5, t6, t7⟩
      intro k k1 k2
      rw [setA_ne (by decide)]
      exact t4 k k1 k2
    have m29 : m1.1 29 = m.1 29 := by rw [hm1]; exact M29
    have m24 : m1.1 24 = M.1 24 := by rw [hm1]; rfl
    have fX : FrX e (setG E.2 3 s) := b7.x.t (fx3 _ _)
    have fM : FrM m m1 := b8.m.t (by rw [hm1]; exact fm28 _ _)
    have pn := (tk_next tk1).2.1
    obtain ⟨j1, j2⟩ := it_loop D v hD hD4 300 (setG E.2 3 s) m1 (Int32.ofInt 0) tk1 (by rw [m29]; exact x0) (by rw [m29]; exact x50) (by decide) (by show 0 ≤ D; grind) (fun j j0 ji => by
      have ji' : j < 0 := ji
      grind) (by
      have := cl_le (n := 4) (x := D) (by grind) hD4
      omega)
    have Fs : f_X9_reads_14 (n + 1) M = f_X9_reads_51 (f_X9_reads_14 n) 300 (f_X9_scans m1) v (Int32.ofInt 0) := by
      rw [f_X9_reads_14, if_neg (by rw [hv]; exact vn), if_pos (by rw [hv]; exact v4), ix, ← hm1, hv]
    have Ps : p_X9_reads_51 (p_X9_reads_14 n) 300 (f_X9_scans m1) v (Int32.ofInt 0) → p_X9_reads_14 (n + 1) M := by
      intro g
      rw [p_X9_reads_14]
      refine ⟨fun _ => trivial, fun _ => ⟨fun _ => ?_, fun _ => trivial⟩⟩
      rw [ix, ← hm1, hv]
      exact ⟨vin, pn, g⟩
    refine ⟨j1, ?_⟩
    rcases j2 with ⟨r1, Z, z1, z2, z3, z4, z5, z6⟩ | ⟨r1, Z, z1, z2, z3, z5, z6, z7, z8, z9, z10, z11⟩
    · exact Or.inl ⟨r1, Z, Ps (z1 _), Fs.trans (z2 _), z3, z4, fM.t z5, fX.t z6⟩
    · rw [m29] at z10 z11
      have nx : ∀ k : Int32, 0 ≤ k → k ≤ 5 * m.1 29 → Z.2 28 k.toNatClampNeg = m1.2 28 k.toNatClampNeg := by
        intro k k0 kx
        refine z11 _ (fun j j0 jD y => ?_)
        have := cl_inj (x := k) (y := 5 * m.1 29 + 1 + j) k0 (by grind) y
        grind
      refine Or.inr ⟨r1, Z, fun g => Ps (z1 _ g), Fs.trans (z2 _), z3, fM.t z5, fX.t z6, by rw [z7, m29], ?_, ?_, ?_⟩
      · have z8' : m1.1 24 + (D - 0) + 1 ≤ Z.1 24 := z8
        rw [m24] at z8'
        have := b1.2.2.2
        have := b1.1.2.2.1
        have := h.2.2.1
        have := z3.2.2.2
        have := z3.1.2.2.1
        grind
      · refine hR _ Z (by rw [z9]; rfl) ?_ z10
        rw [nx _ i5 (Int32.le_refl _), hm1, setA_at]
        show (if _ = _ then _ else _) = _
        rw [if_pos rfl, hv]
      · intro k k0 kx
        rw [nx k k0 (Int32.le_of_lt kx), hm1, setA_at, M28]
        show (if _ = _ then _ else _) = _
        rw [if_neg (fun y => by
          have := cl_inj k0 i5 y
          grind)]
  rcases b3 with ⟨q, k⟩ | ⟨q, k⟩ | ⟨q, k⟩ | ⟨q, k⟩ | ⟨q, k⟩ | ⟨q, k⟩
  · have q1 : E.1 = Int32.ofInt 1 := q
    rw [if_pos q1]
    refine ⟨⟨a1, fun _ => trivial, fun y => absurd q1 y⟩, Or.inl ⟨rfl, ?_, ?_, b1, b8.m, M29, M28, b7.x⟩⟩
    · rw [p_X9_reads_14]
      exact ⟨fun _ => trivial, fun y => absurd k y⟩
    · rw [f_X9_reads_14, if_pos k]
      rfl
  · have n1 : ¬ E.1 = Int32.ofInt 1 := by rw [q]; decide
    have n3 : ¬ E.1 = Int32.ofInt 3 := by rw [q]; decide
    have n4 : ¬ E.1 = Int32.ofInt 4 := by rw [q]; decide
    rw [if_neg n1, if_neg n3, if_neg n4]
    refine ⟨⟨a1, fun _ => trivial, fun _ => ⟨fun y => absurd y n3, fun _ => ⟨fun y => absurd y n4, fun _ => trivial⟩⟩⟩, Or.inr (Or.inl ⟨rfl, M, ?_, ?_, b1, b2, b8.m, b7.x⟩)⟩
    · rw [p_X9_reads_14]
      exact ⟨fun _ => trivial, fun _ => ⟨fun y => absurd y (by rw [k]; decide), fun _ => trivial⟩⟩
    · rw [f_X9_reads_14, if_neg (by rw [k]; decide), if_neg (by rw [k]; decide)]
      rfl
  · have n1 : ¬ E.1 = Int32.ofInt 1 := by rw [q]; decide
    have q3 : E.1 = Int32.ofInt 3 := q
    obtain ⟨w1, w2⟩ := wd (Int32.ofInt 4) 4 (Int32.ofInt 1) rfl (by decide) (by decide) k (by decide) (by decide) (b6 (by rw [q]; decide) (by rw [q]; decide)) (fun y z u1 u2 u3 => Or.inl ⟨u1, u2, u3⟩)
    rw [if_neg n1, if_pos q3, if_pos q3]
    exact ⟨⟨a1, fun _ => trivial, fun _ => ⟨fun _ => ⟨fun _ => w1, fun y => absurd q3 y⟩, fun y => absurd q3 y⟩⟩, Or.inr w2⟩
  · have n1 : ¬ E.1 = Int32.ofInt 1 := by rw [q]; decide
    have n3 : ¬ E.1 = Int32.ofInt 3 := by rw [q]; decide
    have q4 : E.1 = Int32.ofInt 4 := q
    obtain ⟨w1, w2⟩ := wd (Int32.ofInt 3) 5 (Int32.ofInt 0) rfl (by decide) (by decide) k (by decide) (by decide) (b6 (by rw [q]; decide) (by rw [q]; decide)) (fun y z u1 u2 u3 => Or.inr ⟨u1, u2, u3⟩)
    rw [if_neg n1, if_neg n3, if_pos q4, if_neg n3]
    exact ⟨⟨a1, fun _ => trivial, fun _ => ⟨fun y => absurd y n3, fun _ => ⟨fun _ => ⟨fun y => absurd y n3, fun _ => w1⟩, fun y => absurd q4 y⟩⟩⟩, Or.inr w2⟩
  · have n1 : ¬ E.1 = Int32.ofInt 1 := by rw [q]; decide
    have n3 : ¬ E.1 = Int32.ofInt 3 := by rw [q]; decide
    have n4 : ¬ E.1 = Int32.ofInt 4 := by rw [q]; decide
    rw [if_neg n1, if_neg n3, if_neg n4]
    refine ⟨⟨a1, fun _ => trivial, fun _ => ⟨fun y => absurd y n3, fun _ => ⟨fun y => absurd y n4, fun _ => trivial⟩⟩⟩, Or.inr (Or.inl ⟨rfl, M, ?_, ?_, b1, b2, b8.m, b7.x⟩)⟩
    · rw [p_X9_reads_14]
      exact ⟨fun _ => trivial, fun _ => ⟨fun y => absurd y (by rw [k]; decide), fun _ => trivial⟩⟩
    · rw [f_X9_reads_14, if_neg (by rw [k]; decide), if_neg (by rw [k]; decide)]
      rfl
  · have n1 : ¬ E.1 = Int32.ofInt 1 := by rw [q]; decide
    have n3 : ¬ E.1 = Int32.ofInt 3 := by rw [q]; decide
    have n4 : ¬ E.1 = Int32.ofInt 4 := by rw [q]; decide
    rw [if_neg n1, if_neg n3, if_neg n4]
    refine ⟨⟨a1, fun _ => trivial, fun _ => ⟨fun y => absurd y n3, fun _ => ⟨fun y => absurd y n4, fun _ => trivial⟩⟩⟩, Or.inr (Or.inl ⟨rfl, M, ?_, ?_, b1, b2, b8.m, b7.x⟩)⟩
    · rw [p_X9_reads_14]
      exact ⟨fun _ => trivial, fun _ => ⟨fun y => absurd y (by rw [k]; decide), fun _ => trivial⟩⟩
    · rw [f_X9_reads_14, if_neg (by rw [k]; decide), if_neg (by rw [k]; decide)]
      rfl
