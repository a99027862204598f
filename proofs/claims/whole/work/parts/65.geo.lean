/-! layer 3: whole numbers of 32 bits that stay small -/
theorem bm32 {z : Int} (h1 : -2147483648 ≤ z) (h2 : z < 2147483648) : z.bmod (2 ^ 32) = z := by
  first
    | exact Int.bmod_eq_of_le (by omega) (by omega)
    | (rw [Int.bmod_def]; split <;> omega)
theorem n32_lt (x : Int32) : -2147483648 ≤ x.toInt ∧ x.toInt < 2147483648 := by
  have h1 := Int32.le_toInt x
  have h2 := Int32.toInt_lt x
  omega
theorem n32_0 {x : Int32} : 0 ≤ x ↔ 0 ≤ x.toInt := Int32.le_iff_toInt_le
theorem n32_add {x y : Int32} (h1 : -2147483648 ≤ x.toInt + y.toInt) (h2 : x.toInt + y.toInt < 2147483648) : (x + y).toInt = x.toInt + y.toInt := by rw [Int32.toInt_add, bm32 h1 h2]
theorem n32_sub {x y : Int32} (h1 : -2147483648 ≤ x.toInt - y.toInt) (h2 : x.toInt - y.toInt < 2147483648) : (x - y).toInt = x.toInt - y.toInt := by rw [Int32.toInt_sub, bm32 h1 h2]
theorem n32_mul {x y : Int32} (h1 : -2147483648 ≤ x.toInt * y.toInt) (h2 : x.toInt * y.toInt < 2147483648) : (x * y).toInt = x.toInt * y.toInt := by rw [Int32.toInt_mul, bm32 h1 h2]
theorem n32_div {x y : Int32} (hx : 0 ≤ x.toInt) (hy : 0 < y.toInt) : (x / y).toInt = x.toInt / y.toInt := lg_idiv_nonneg hx hy
/-! layer 3: how far squares can lie; ALL FOLDS counted alike -/
def Geo (g : Rec) (B L : Int32) : Prop := ∀ c : Int32, 0 ≤ c → c < 36 → (g.2 7 c.toNatClampNeg = 0 ∨ g.2 7 c.toNatClampNeg = 1) ∧ -B ≤ g.2 4 c.toNatClampNeg ∧ g.2 4 c.toNatClampNeg ≤ B ∧ -B ≤ g.2 5 c.toNatClampNeg ∧ g.2 5 c.toNatClampNeg ≤ B ∧ 0 ≤ g.2 6 c.toNatClampNeg ∧ g.2 6 c.toNatClampNeg ≤ L
def Inj (g : Rec) : Prop := ∀ c d : Int32, ¬ f_X9_isCell g c = 0 → ¬ f_X9_isCell g d = 0 → g.2 4 c.toNatClampNeg = g.2 4 d.toNatClampNeg → g.2 5 c.toNatClampNeg = g.2 5 d.toNatClampNeg → g.2 6 c.toNatClampNeg = g.2 6 d.toNatClampNeg → c = d
theorem tl_loop {g : Rec} {L : Int32} (hL : ∀ c : Int32, 0 ≤ c → c < 36 → g.2 6 c.toNatClampNeg ≤ L) : ∀ (n : Nat) (v4 v5 : Int32), Fu 36 n v5 → v4 ≤ L → v4 ≤ tl n g v4 v5 ∧ tl n g v4 v5 ≤ L ∧ ∀ c, v5 ≤ c → c < 36 → ¬ f_X9_isCell g c = 0 → g.2 6 c.toNatClampNeg ≤ tl n g v4 v5 := by
  intro n
  induction n with
  | zero => intro v4 v5 hf; exact (hf.z (by decide)).elim
  | succ n ih =>
    intro v4 v5 hf h
    rw [tl]
    by_cases c1 : Int32.ofInt 36 ≤ v5
    · rw [if_pos c1]
      exact ⟨Int32.le_refl _, h, fun c q1 q2 => by grind⟩
    · obtain ⟨f1, f2, f3⟩ := hf.s (by decide) c1
      rw [if_neg c1]
      by_cases c2 : f_X9_isCell g v5 = 0
      · rw [if_pos c2]
        obtain ⟨i1, i2, i3⟩ := ih v4 (v5 + 1) f1 h
        refine ⟨i1, i2, fun c q1 q2 q3 => ?_⟩
        by_cases q : c = v5
        · rw [q] at q3; exact absurd c2 q3
        · exact i3 c (by grind) q2 q3
      · rw [if_neg c2]
        by_cases c3 : g.2 6 v5.toNatClampNeg ≤ v4
        · rw [if_pos c3]
          obtain ⟨i1, i2, i3⟩ := ih v4 (v5 + 1) f1 h
          refine ⟨i1, i2, fun c q1 q2 q3 => ?_⟩
          by_cases q : c = v5
          · rw [q]; grind
          · exact i3 c (by grind) q2 q3
        · rw [if_neg c3]
          obtain ⟨i1, i2, i3⟩ := ih (g.2 6 v5.toNatClampNeg) (v5 + 1) f1 (hL v5 f2 f3)
          refine ⟨by grind, i2, fun c q1 q2 q3 => ?_⟩
          by_cases q : c = v5
          · rw [q]; exact i1
          · exact i3 c (by grind) q2 q3
theorem tl_all {g : Rec} {B L : Int32} (hL : Geo g B L) (h0 : 0 ≤ L) : 0 ≤ topL g ∧ topL g ≤ L ∧ ∀ c, ¬ f_X9_isCell g c = 0 → g.2 6 c.toNatClampNeg ≤ topL g := by
  obtain ⟨h1, h2, h3⟩ := tl_loop (g := g) (L := L) (fun c a b => (hL c a b).2.2.2.2.2.2) 40 0 0 (Fu.o (by decide)) h0
  refine ⟨h1, h2, fun c hc => ?_⟩
  have := isCell_in hc
  exact h3 c this.1 this.2 hc
theorem rM {m : Rec} {k : Nat} {x y l d : Int32} (h : rowM m k = (x, y, l, d)) : m.2 4 k = x ∧ m.2 5 k = y ∧ m.2 6 k = l ∧ m.2 7 k = d := by
  unfold rowM at h
  simp only [Prod.mk.injEq] at h
  exact h
theorem turn_row (g : Rec) (a l w c : Int32) (h0 : 0 ≤ c) (h1 : c < 36) : (¬ f_X9_isCell g c = 0 ∧ ¬ f_X8_turns (co g a c) l w = 0 ∧ (f_X9_turnsOver g a l w).2 4 c.toNatClampNeg = (if a = 0 then 2 * l - 1 - g.2 4 c.toNatClampNeg else g.2 4 c.toNatClampNeg) ∧ (f_X9_turnsOver g a l w).2 5 c.toNatClampNeg = (if a = 0 then g.2 5 c.toNatClampNeg else 2 * l - 1 - g.2 5 c.toNatClampNeg) ∧ (f_X9_turnsOver g a l w).2 6 c.toNatClampNeg = 2 * topL g + 1 - g.2 6 c.toNatClampNeg ∧ (f_X9_turnsOver g a l w).2 7 c.toNatClampNeg = (if g.2 7 c.toNatClampNeg = 0 then 1 else 0)) ∨
    ((f_X9_isCell g c = 0 ∨ f_X8_turns (co g a c) l w = 0) ∧ (f_X9_turnsOver g a l w).2 4 c.toNatClampNeg = g.2 4 c.toNatClampNeg ∧ (f_X9_turnsOver g a l w).2 5 c.toNatClampNeg = g.2 5 c.toNatClampNeg ∧ (f_X9_turnsOver g a l w).2 6 c.toNatClampNeg = g.2 6 c.toNatClampNeg ∧ (f_X9_turnsOver g a l w).2 7 c.toNatClampNeg = g.2 7 c.toNatClampNeg) := by
  have h := (to_all g a l w).2.2 c h0 h1
  unfold turnR at h
  by_cases c1 : f_X9_isCell g c = 0
  · rw [if_pos c1] at h
    exact Or.inr ⟨Or.inl c1, rM h⟩
  · rw [if_neg c1] at h
    by_cases c2 : f_X8_turns (co g a c) l w = 0
    · rw [if_pos (show f_X8_turns (if a = 0 then (rowM g c.toNatClampNeg).1 else (rowM g c.toNatClampNeg).2.1) l w = 0 from c2)] at h
      exact Or.inr ⟨Or.inr c2, rM h⟩
    · rw [if_neg (show ¬ f_X8_turns (if a = 0 then (rowM g c.toNatClampNeg).1 else (rowM g c.toNatClampNeg).2.1) l w = 0 from c2)] at h
      exact Or.inl ⟨c1, c2, rM h⟩
theorem geo_turn {g : Rec} {B L : Int32} (h : Geo g B L) (hB : 0 ≤ B) (hB2 : B ≤ 1000) (hL : 0 ≤ L) (hL2 : L ≤ 1000) {l : Int32} (hl : -B ≤ l) (hl2 : l ≤ B) (a w : Int32) : Geo (f_X9_turnsOver g a l w) (3 * B + 1) (2 * L + 1) := by
  intro c h0 h1
  obtain ⟨t1, t2, t3⟩ := tl_all h hL
  obtain ⟨b1, b2, b3, b4, b5, b6, b7⟩ := h c h0 h1
  rcases turn_row g a l w c h0 h1 with ⟨r1, r2, r3, r4, r5, r6⟩ | ⟨r1, r3, r4, r5, r6⟩
  · have := t3 c r1
    rw [r3, r4, r5, r6]
    by_cases ha : a = 0
    · simp only [if_pos ha]
      refine ⟨by grind, by grind, by grind, by grind, by grind, by grind, by grind⟩
    · simp only [if_neg ha]
      refine ⟨by grind, by grind, by grind, by grind, by grind, by grind, by grind⟩
  · rw [r3, r4, r5, r6]
    exact ⟨b1, by grind, by grind, by grind, by grind, b6, by grind⟩
theorem isCell_turn (g : Rec) (a l w c : Int32) : f_X9_isCell (f_X9_turnsOver g a l w) c = f_X9_isCell g c := isCell_congr ((to_all g a l w).2.1 0 (by decide)) c
theorem inj_turn {g : Rec} {B L : Int32} (h : Geo g B L) (hL : 0 ≤ L) (hL2 : L ≤ 1000) (hi : Inj g) (a l w : Int32) : Inj (f_X9_turnsOver g a l w) := by
  intro c d hc hd e1 e2 e3
  rw [isCell_turn] at hc hd
  obtain ⟨t1, t2, t3⟩ := tl_all h hL
  have ib := isCell_in hc
  have jb := isCell_in hd
  have bc := h c ib.1 ib.2
  have bd := h d jb.1 jb.2
  have tc := t3 c hc
  have td := t3 d hd
  rcases turn_row g a l w c ib.1 ib.2 with ⟨r1, r2, r3, r4, r5, r6⟩ | ⟨r1, r3, r4, r5, r6⟩ <;> rcases turn_row g a l w d jb.1 jb.2 with ⟨q1, q2, q3, q4, q5, q6⟩ | ⟨q1, q3, q4, q5, q6⟩
  · rw [r3, q3] at e1
    rw [r4, q4] at e2
    rw [r5, q5] at e3
    by_cases ha : a = 0
    · simp only [if_pos ha] at e1 e2
      exact hi c d hc hd (by grind) (by grind) (by grind)
    · simp only [if_neg ha] at e1 e2
      exact hi c d hc hd (by grind) (by grind) (by grind)
  · exfalso
    rw [r5, q5] at e3
    grind
  · exfalso
    rw [r5, q5] at e3
    grind
  · rw [r3, q3] at e1
    rw [r4, q4] at e2
    rw [r5, q5] at e3
    exact hi c d hc hd e1 e2 e3
def Bk : Nat → Int32
  | 0 => 6
  | n + 1 => 3 * Bk n + 1
def Lk : Nat → Int32
  | 0 => 0
  | n + 1 => 2 * Lk n + 1
theorem sixths {c : Int32} (h0 : 0 ≤ c) (h1 : c < 36) : 0 ≤ c / 6 ∧ c / 6 ≤ 5 ∧ 0 ≤ c - c / 6 * 6 ∧ c - c / 6 * 6 ≤ 5 := by
  have h2 := cl_c36 h0 h1
  have h3 : c = Int32.ofNat c.toNatClampNeg := (Int32.ofNat_toNatClampNeg c h0).symm
  rw [h3]
  generalize c.toNatClampNeg = k at h2
  have : ∀ k : Nat, k < 36 → 0 ≤ Int32.ofNat k / 6 ∧ Int32.ofNat k / 6 ≤ 5 ∧ 0 ≤ Int32.ofNat k - Int32.ofNat k / 6 * 6 ∧ Int32.ofNat k - Int32.ofNat k / 6 * 6 ≤ 5 := by decide
  exact this k h2
theorem geo_flat (m : Rec) : Geo (f_X9_flat m) (Bk 0) (Lk 0) ∧ Inj (f_X9_flat m) := by
  obtain ⟨t1, t2, t3⟩ := fl_all m
  constructor
  · intro c h0 h1
    obtain ⟨r1, r2, r3, r4⟩ := rM (t3 c h0 h1)
    obtain ⟨s1, s2, s3, s4⟩ := sixths h0 h1
    rw [r1, r2, r3, r4]
    have eB : Bk 0 = 6 := rfl
    have eL : Lk 0 = 0 := rfl
    rw [eB, eL]
    exact ⟨Or.inl rfl, by grind, by grind, by grind, by grind, by decide, by decide⟩
  · intro c d hc hd e1 e2 e3
    have ib := isCell_in hc
    have jb := isCell_in hd
    obtain ⟨r1, r2, r3, r4⟩ := rM (t3 c ib.1 ib.2)
    obtain ⟨q1, q2, q3, q4⟩ := rM (t3 d jb.1 jb.2)
    rw [r1, q1] at e1
    rw [r2, q2] at e2
    rw [e2] at e1
    grind
def Lines (b : Nat → Int32) (nf : Nat) : Prop := ∀ k, k < nf → -(Bk k) ≤ b (17 + 3 * k + 1) ∧ b (17 + 3 * k + 1) ≤ Bk k
theorem bk_b {n : Nat} (h : n ≤ 4) : 0 ≤ Bk n ∧ Bk n ≤ 1000 ∧ 0 ≤ Lk n ∧ Lk n ≤ 1000 := by
  have : ∀ n : Nat, n < 5 → 0 ≤ Bk n ∧ Bk n ≤ 1000 ∧ 0 ≤ Lk n ∧ Lk n ≤ 1000 := by decide
  exact this n (by omega)
theorem geo_lay {m : Rec} {b : Nat → Int32} : ∀ n : Nat, n ≤ 4 → Lines b n → Geo (layN n b (f_X9_flat m)) (Bk n) (Lk n) ∧ Inj (layN n b (f_X9_flat m)) := by
  intro n
  induction n with
  | zero => intro _ _; exact geo_flat m
  | succ n ih =>
    intro hn hl
    obtain ⟨i1, i2⟩ := ih (by omega) (fun k hk => hl k (by omega))
    obtain ⟨b1, b2, b3, b4⟩ := bk_b (n := n) (by omega)
    obtain ⟨l1, l2⟩ := hl n (by omega)
    exact ⟨geo_turn i1 b1 b2 b3 b4 l1 l2 _ _, inj_turn i1 b3 b4 i2 _ _ _⟩
theorem ends_b {g : Rec} {B L : Int32} (h : Geo g B L) (hB : 0 ≤ B) (a b : Int32) : -B ≤ f_X9_end g a b ∧ f_X9_end g a b ≤ B := by
  rcases en_all g a b with ⟨h1, h2⟩ | ⟨h1, ⟨c, h2, h4⟩, h3⟩
  · rw [h2]; grind
  · have ib := isCell_in h2
    obtain ⟨b1, b2, b3, b4, b5, b6, b7⟩ := h c ib.1 ib.2
    rw [← h4]
    unfold co
    split
    · exact ⟨b2, b3⟩
    · exact ⟨b4, b5⟩
theorem ch_eq {s g : Rec} (h : Ends s g) : f_X4_choices s = f_X9_foldsNow g := by
  obtain ⟨h1, h2, h3, h4, h5⟩ := h
  unfold f_X4_choices f_X9_foldsNow
  have e0 : Int32.ofInt 0 = 0 := rfl
  have e1 : Int32.ofInt 1 = 1 := rfl
  rw [h1, h2, h3, h4, e0, e1]
  grind
theorem two_z {a b c d : Int32} (a1 : -1000 ≤ a) (a2 : a ≤ 1000) (b1 : -1000 ≤ b) (b2 : b ≤ 1000) (c1 : -1000 ≤ c) (c2 : c ≤ 1000) (d1 : -1000 ≤ d) (d2 : d ≤ 1000) (h1 : a ≤ b) (h2 : c ≤ d) : 2 * (b - a + d - c) = 0 ↔ ¬ a < b ∧ ¬ c < d := by
  have e0 : (0 : Int32).toInt = 0 := rfl
  have e2 : (2 : Int32).toInt = 2 := rfl
  have em : (-1000 : Int32).toInt = -1000 := by decide
  have ep : (1000 : Int32).toInt = 1000 := by decide
  rw [Int32.le_iff_toInt_le] at a1 a2 b1 b2 c1 c2 d1 d2 h1 h2
  rw [em] at a1 b1 c1 d1
  rw [ep] at a2 b2 c2 d2
  have s1 : (b - a).toInt = b.toInt - a.toInt := n32_sub (by omega) (by omega)
  have s2 : (b - a + d).toInt = b.toInt - a.toInt + d.toInt := by rw [n32_add (by rw [s1]; omega) (by rw [s1]; omega), s1]
  have s3 : (b - a + d - c).toInt = b.toInt - a.toInt + d.toInt - c.toInt := by rw [n32_sub (by rw [s2]; omega) (by rw [s2]; omega), s2]
  have s4 : (2 * (b - a + d - c)).toInt = 2 * (b.toInt - a.toInt + d.toInt - c.toInt) := by rw [n32_mul (by rw [e2, s3]; omega) (by rw [e2, s3]; omega), e2, s3]
  rw [← Int32.toInt_inj, s4, e0, Int32.lt_iff_toInt_lt, Int32.lt_iff_toInt_lt]
  omega
theorem any_eq {s g : Rec} {B L : Int32} (h : Ends s g) (hg : Geo g B L) (hB : 0 ≤ B) (hB2 : B ≤ 1000) : f_X4_choices s = 0 ↔ f_X9_anyFold g = 0 := by
  rw [ch_eq h]
  unfold f_X9_foldsNow f_X9_anyFold
  have e0 : Int32.ofInt 0 = 0 := rfl
  have e1 : Int32.ofInt 1 = 1 := rfl
  rw [e0, e1]
  have a1 := ends_b hg hB 0 0
  have a2 := ends_b hg hB 0 1
  have a3 := ends_b hg hB 1 0
  have a4 := ends_b hg hB 1 1
  have l0 := en_lh g 0
  have l1 := en_lh g 1
  show 2 * (f_X9_end g 0 1 - f_X9_end g 0 0 + f_X9_end g 1 1 - f_X9_end g 1 0) = 0 ↔ _
  rw [two_z (by grind) (by grind) (by grind) (by grind) (by grind) (by grind) (by grind) (by grind) l0 l1]
  grind
theorem end_cg {m m' : Rec} (h : m.2 = m'.2) (a b : Int32) : f_X9_end m a b = f_X9_end m' a b := by
  have : ∀ (n : Nat) (v3 v4 v5 : Int32), f_X9_end_8 n m a b v3 v4 v5 = f_X9_end_8 n m' a b v3 v4 v5 := by
    intro n
    induction n with
    | zero => intros; rfl
    | succ n ih =>
      intro v3 v4 v5
      rw [en_step, en_step]
      simp only [ih]
      have e : co m a v5 = co m' a v5 := by unfold co; rw [h]
      rw [e, isCell_congr (m := m) (m' := m') (by rw [h])]
  exact this 40 0 0 0
theorem par {i d : Int32} (hi : 0 ≤ i) (hd : 0 ≤ d) (hd2 : d ≤ 100000) (h : 2 * d ≤ i) : (i - 2 * d) - (i - 2 * d) / 2 * 2 = i - i / 2 * 2 := by
  have hi' := n32_0.mp hi
  have hd' := n32_0.mp hd
  have b := n32_lt i
  have e2 : (2 : Int32).toInt = 2 := rfl
  have hd2' : d.toInt ≤ 100000 := Int32.le_iff_toInt_le.mp hd2
  have m2 : (2 * d).toInt = 2 * d.toInt := by
    rw [n32_mul] <;> rw [e2] <;> omega
  have hh := Int32.le_iff_toInt_le.mp h
  rw [m2] at hh
  have s2 : (i - 2 * d).toInt = i.toInt - 2 * d.toInt := by
    rw [n32_sub] <;> rw [m2] <;> omega
  have q1 : (i / 2).toInt = i.toInt / 2 := by
    rw [n32_div hi' (by rw [e2]; omega), e2]
  have q2 : ((i - 2 * d) / 2).toInt = (i.toInt - 2 * d.toInt) / 2 := by
    rw [n32_div (by rw [s2]; omega) (by rw [e2]; omega), e2, s2]
  have r1 : (i / 2 * 2).toInt = i.toInt / 2 * 2 := by
    rw [n32_mul] <;> rw [q1, e2] <;> omega
  have r2 : ((i - 2 * d) / 2 * 2).toInt = (i.toInt - 2 * d.toInt) / 2 * 2 := by
    rw [n32_mul] <;> rw [q2, e2] <;> omega
  have t1 : ((i - 2 * d) - (i - 2 * d) / 2 * 2).toInt = (i.toInt - 2 * d.toInt) - (i.toInt - 2 * d.toInt) / 2 * 2 := by
    rw [n32_sub (by rw [s2, r2]; omega) (by rw [s2, r2]; omega), s2, r2]
  have t2 : (i - i / 2 * 2).toInt = i.toInt - i.toInt / 2 * 2 := by
    rw [n32_sub (by rw [r1]; omega) (by rw [r1]; omega), r1]
  rw [← Int32.toInt_inj, t1, t2]
  omega
theorem pick_eq {s g : Rec} {B L : Int32} (h : Ends s g) (hg : Geo g B L) (hB : 0 ≤ B) (hB2 : B ≤ 1000) {i : Int32} (hi : 0 ≤ i) : (f_X9_pick g i).1 10 = f_X4_choiceAxis s i ∧ (f_X9_pick g i).1 11 = f_X4_choiceLine s i ∧ (f_X9_pick g i).1 12 = f_X4_choiceWay s i ∧ (f_X9_pick g i).2 = g.2 ∧ ∀ k, k ≠ 10 → k ≠ 11 → k ≠ 12 → (f_X9_pick g i).1 k = g.1 k := by
  obtain ⟨h1, h2, h3, h4, h5⟩ := h
  have e0 : Int32.ofInt 0 = 0 := rfl
  have e1 : Int32.ofInt 1 = 1 := rfl
  have a1 := ends_b hg hB 0 0
  have a2 := ends_b hg hB 0 1
  have l0 := en_lh g 0
  unfold f_X9_pick f_X4_choiceAxis f_X4_choiceLine f_X4_choiceWay
  rw [h1, h2, h3, e0, e1]
  by_cases c : Int32.ofInt 2 * (f_X9_end g 0 1 - f_X9_end g 0 0) ≤ i
  · simp only [if_pos c, setG_1, setG_2]
    refine ⟨rfl, ?_, ?_, trivial, ?_⟩
    · simp [end_cg (m := setG g 10 1) (m' := g) rfl]
    · have := par (i := i) (d := f_X9_end g 0 1 - f_X9_end g 0 0) hi (by grind) (by grind) c
      exact this
    · intro k k1 k2 k3
      simp [k1, k2, k3]
  · simp only [if_neg c, setG_1, setG_2]
    refine ⟨rfl, ?_, rfl, trivial, ?_⟩
    · simp [end_cg (m := setG g 10 0) (m' := g) rfl]
    · intro k k1 k2 k3
      simp [k1, k2, k3]
