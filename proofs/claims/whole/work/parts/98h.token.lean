/-! layer 3: TOKENS of THE GAME -/
def TkR (e m : Rec) : Prop := TaR e m ∧ e.1 4 = m.1 24 ∧ 0 ≤ m.1 24 ∧ m.1 24 ≤ m.1 23
/-- the byte at the place -/
def bt (m : Rec) : Int32 := m.2 22 (m.1 24).toNatClampNeg
theorem tk_b {e m : Rec} (h : TkR e m) (hl : m.1 24 < m.1 23) : e.2 0 (e.1 4).toNatClampNeg = bt m ∧ 0 ≤ bt m ∧ bt m ≤ 255 := by
  obtain ⟨⟨t1, t2, t3, t4⟩, h4, h0, h1⟩ := h
  have a200 : m.1 24 < 200 := by grind
  have := t4 (m.1 24).toNatClampNeg (by rw [Int32.ofNat_toNatClampNeg _ h0]; exact hl) (cl_lt (n := 200) h0 a200)
  rw [h4]
  exact this
theorem tk_byte {e m : Rec} (h : TkR e m) : f_X6_byteAt e (e.1 4) = if m.1 24 < m.1 23 then bt m else -1 := by
  have hT := h
  obtain ⟨⟨t1, t2, t3, t4⟩, h4, h0, h1⟩ := h
  unfold f_X6_byteAt
  by_cases c : m.1 24 < m.1 23
  · rw [if_pos c, (tk_b hT c).1, if_neg]
    refine wi_n.mpr ⟨?_, ?_⟩
    · rw [h4]; exact h0
    · rw [h4, t1]
      show m.1 24 ≤ m.1 23 - 1
      grind
  · rw [if_neg c, if_pos]
    · rfl
    · refine wi_z.mpr (Or.inr ?_)
      rw [h4, t1]
      show m.1 23 - 1 < m.1 24
      grind
theorem tk_pb {e m : Rec} (h : TkR e m) : p_X6_byteAt e (e.1 4) := by
  obtain ⟨⟨t1, t2, t3, t4⟩, h4, h0, h1⟩ := h
  unfold p_X6_byteAt
  refine ⟨fun _ => trivial, fun z => ⟨?_, trivial⟩⟩
  have hz := wi_n.mp z
  rw [t1] at hz
  have z2 : e.1 4 ≤ m.1 23 - 1 := hz.2
  exact vinb (n := 200) hz.1 (by grind)
theorem tk_is {e m : Rec} (h : TkR e m) (l u : Int32) : p_X9_isByte m l u ∧ (f_X9_isByte m l u = 0 ↔ ¬ (m.1 24 < m.1 23 ∧ l ≤ bt m ∧ bt m ≤ u)) := by
  obtain ⟨⟨t1, t2, t3, t4⟩, h4, h0, h1⟩ := h
  constructor
  · unfold p_X9_isByte
    exact ⟨fun _ => trivial, fun z => ⟨vinb (n := 200) h0 (by grind), trivial⟩⟩
  · unfold f_X9_isByte
    rw [in_w]
    have e1 : ¬ Int32.ofInt 1 = 0 := by decide
    by_cases c : m.1 23 ≤ m.1 24
    · rw [if_pos c]
      exact ⟨fun _ z => by grind, fun _ => rfl⟩
    · rw [if_neg c]
      by_cases c2 : f_X8_within (m.2 22 (m.1 24).toNatClampNeg) l u = 0
      · rw [if_pos c2]
        refine ⟨fun _ z => ?_, fun _ => rfl⟩
        exact absurd c2 (wi_n.mpr z.2)
      · rw [if_neg c2]
        have := wi_n.mp c2
        exact ⟨fun z => absurd z e1, fun z => absurd ⟨by grind, this⟩ z⟩
/-- on by one byte -/
theorem tk_on {e m : Rec} (h : TkR e m) (hl : m.1 24 < m.1 23) : TkR (setG e 4 (e.1 4 + Int32.ofInt 1)) (setG m 24 (m.1 24 + Int32.ofInt 1)) := by
  obtain ⟨hT, h4, h0, h1⟩ := h
  refine ⟨hT, ?_, ?_, ?_⟩
  · show e.1 4 + Int32.ofInt 1 = m.1 24 + Int32.ofInt 1
    rw [h4]
  · show 0 ≤ m.1 24 + 1
    have := hT.2.2.1
    grind
  · show m.1 24 + 1 ≤ m.1 23
    have := hT.2.2.1
    grind
/-- numbers of a Rec that the reading doesn't touch -/
def FrE (e e' : Rec) : Prop := e'.2 = e.2 ∧ ∀ k, k ≠ 4 → k ≠ 5 → k ≠ 6 → e'.1 k = e.1 k
def FrT (m m' : Rec) : Prop := m'.2 = m.2 ∧ ∀ k, k ≠ 24 → k ≠ 25 → k ≠ 26 → k ≠ 27 → m'.1 k = m.1 k
theorem FrE.t {a b c : Rec} (h1 : FrE a b) (h2 : FrE b c) : FrE a c := ⟨h2.1.trans h1.1, fun k a b c => (h2.2 k a b c).trans (h1.2 k a b c)⟩
theorem FrT.t {a b c : Rec} (h1 : FrT a b) (h2 : FrT b c) : FrT a c := ⟨h2.1.trans h1.1, fun k a b c d => (h2.2 k a b c d).trans (h1.2 k a b c d)⟩
/-- what a NUMBER leaves -/
def NuR (b : Int32) (e m : Rec) (r : Int32 × Rec) (M : Rec) : Prop := TkR r.2 M ∧ r.2.1 5 = e.1 5 ∧ M.1 25 = m.1 25 ∧ m.1 24 ≤ M.1 24 ∧ ((r.1 = 5 ∧ M.1 26 = 2 ∧ r.2.1 6 = M.1 27) ∨ (r.1 = 2 ∧ M.1 26 = 1)) ∧ FrE e r.2 ∧ FrT m M ∧ b < M.1 24
theorem nu_loop (a b : Int32) (hb0 : 0 ≤ b) : ∀ (n : Nat) (e m : Rec) (fg val : Int32), TkR e m → fg = m.1 24 - b → 0 ≤ fg → fg ≤ 250 → b ≤ m.1 24 → (fg ≤ 2 → val = m.1 27) → (fg = 0 → m.1 24 < m.1 23 ∧ 48 ≤ bt m ∧ bt m ≤ 57) → (m.1 23).toNatClampNeg < n + (m.1 24).toNatClampNeg →
    p_X6_readNumber_37 n e a fg val ∧ p_X9_scans_204 n m a b ∧ NuR b e m (f_X6_readNumber_37 n e a fg val) (f_X9_scans_204 n m a b) := by
  intro n
  induction n with
  | zero =>
    intro e m fg val h _ _ _ _ _ _ hn
    have := cl_mono h.2.2.2
    omega
  | succ n ih =>
    intro e m fg val h hfg f0 f250 hba hval hfirst hn
    have hT := h.1
    have h4 := h.2.1
    have ha0 := h.2.2.1
    have hal := h.2.2.2
    have l200 := hT.2.2.1
    obtain ⟨pis, is⟩ := tk_is h (Int32.ofInt 48) (Int32.ofInt 57)
    have tb := tk_byte h
    have pb := tk_pb h
    rw [p_X6_readNumber_37, p_X9_scans_204, f_X6_readNumber_37, f_X9_scans_204, hT.1, h4]
    have e48 : Int32.ofInt 48 = 48 := rfl
    have e57 : Int32.ofInt 57 = 57 := rfl
    have fin : fg ≠ 0 → NuR b e m (if a = 0 then (if f_X8_within fg (Int32.ofInt 1) (Int32.ofInt 2) = 0 then (Int32.ofInt 2, setG e 6 val) else (Int32.ofInt 5, setG e 6 val)) else (if f_X8_within fg (Int32.ofInt 1) (Int32.ofInt 2) = 0 then (Int32.ofInt 2, setG e 6 (-val)) else (Int32.ofInt 5, setG e 6 (-val)))) (if a = 0 then (if m.1 24 - b ≤ Int32.ofInt 2 then setG (setG m 26 (Int32.ofInt 2)) 27 (m.1 27) else setG (setG m 26 (Int32.ofInt 1)) 27 (m.1 27)) else (if m.1 24 - b ≤ Int32.ofInt 2 then setG (setG m 26 (Int32.ofInt 2)) 27 (-(m.1 27)) else setG (setG m 26 (Int32.ofInt 1)) 27 (-(m.1 27)))) := by
      intro fn
      rw [← hfg]
      have fe : ∀ x, FrE e (setG e 6 x) := fun x => ⟨rfl, fun k _ _ k6 => by show (if k = 6 then x else e.1 k) = _; rw [if_neg k6]⟩
      have ft : ∀ x y, FrT m (setG (setG m 26 x) 27 y) := fun x y => ⟨rfl, fun k _ _ k26 k27 => by show (if k = 27 then y else if k = 26 then x else m.1 k) = _; rw [if_neg k27, if_neg k26]⟩
      have tk : ∀ x y z, TkR (setG e 6 x) (setG (setG m 26 y) 27 z) := fun x y z => ⟨hT, h4, ha0, hal⟩
      have rf : m.1 24 ≤ m.1 24 := Int32.le_refl _
      have bl : b < m.1 24 := by grind
      by_cases c2 : fg ≤ 2
      · have w : ¬ f_X8_within fg (Int32.ofInt 1) (Int32.ofInt 2) = 0 := wi_n.mpr ⟨by show (1 : Int32) ≤ fg; grind, c2⟩
        have c2' : fg ≤ Int32.ofInt 2 := c2
        have hv := hval c2
        by_cases ca : a = 0
        · rw [if_pos ca, if_pos ca, if_neg w, if_pos c2']
          exact ⟨tk _ _ _, rfl, rfl, rf, Or.inl ⟨rfl, rfl, hv⟩, fe _, ft _ _, bl⟩
        · rw [if_neg ca, if_neg ca, if_neg w, if_pos c2']
          exact ⟨tk _ _ _, rfl, rfl, rf, Or.inl ⟨rfl, rfl, by show -val = -(m.1 27); rw [hv]⟩, fe _, ft _ _, bl⟩
      · have w : f_X8_within fg (Int32.ofInt 1) (Int32.ofInt 2) = 0 := wi_z.mpr (Or.inr (by show (2 : Int32) < fg; grind))
        have c2' : ¬ fg ≤ Int32.ofInt 2 := c2
        by_cases ca : a = 0
        · rw [if_pos ca, if_pos ca, if_pos w, if_neg c2']
          exact ⟨tk _ _ _, rfl, rfl, rf, Or.inr ⟨rfl, rfl⟩, fe _, ft _ _, bl⟩
        · rw [if_neg ca, if_neg ca, if_pos w, if_neg c2']
          exact ⟨tk _ _ _, rfl, rfl, rf, Or.inr ⟨rfl, rfl⟩, fe _, ft _ _, bl⟩
    by_cases c1 : m.1 23 ≤ m.1 24
    · have z : f_X9_isByte m (Int32.ofInt 48) (Int32.ofInt 57) = 0 := is.mpr (fun z => by grind)
      have fn : fg ≠ 0 := fun y => by have := (hfirst y).1; grind
      rw [if_pos c1, if_pos z]
      exact ⟨⟨fun _ => trivial, fun y => absurd c1 y⟩, ⟨pis, fun _ => trivial, fun y => absurd z y⟩, fin fn⟩
    · have lt : m.1 24 < m.1 23 := by grind
      rw [← h4, tb, if_pos lt, h4]
      rw [if_neg c1]
      have isf : f_X6_isFigure (bt m) = 0 ↔ f_X9_isByte m (Int32.ofInt 48) (Int32.ofInt 57) = 0 := by
        rw [is]
        unfold f_X6_isFigure
        rw [wi_z]
        constructor
        · intro q y
          grind
        · intro q
          by_cases y : bt m < Int32.ofInt 48
          · exact Or.inl y
          · refine Or.inr ?_
            by_cases y2 : Int32.ofInt 57 < bt m
            · exact y2
            · exact absurd ⟨lt, by grind, by grind⟩ q
      by_cases c2 : f_X9_isByte m (Int32.ofInt 48) (Int32.ofInt 57) = 0
      · have c2' := isf.mpr c2
        have fn : fg ≠ 0 := fun y => by
          have := hfirst y
          exact (is.mp c2) ⟨this.1, this.2.1, this.2.2⟩
        rw [if_pos c2, if_pos c2']
        exact ⟨⟨fun y => absurd y c1, fun _ => ⟨by rw [← h4]; exact pb, fun _ => trivial, fun y => absurd c2' y⟩⟩, ⟨pis, fun _ => trivial, fun y => absurd c2 y⟩, fin fn⟩
      · have c2' := mt isf.mp c2
        rw [if_neg c2, if_neg c2', ← hfg]
        have v200 := vinb (n := 200) (x := m.1 24) ha0 (by grind)
        have on := tk_on h lt
        rw [h4] at on
        have hn' : ∀ x, ((setG (setG m 24 (m.1 24 + Int32.ofInt 1)) 27 x).1 23).toNatClampNeg < n + ((setG (setG m 24 (m.1 24 + Int32.ofInt 1)) 27 x).1 24).toNatClampNeg := by
          intro x
          show (m.1 23).toNatClampNeg < n + (m.1 24 + 1).toNatClampNeg
          rw [cl_succ ha0 (by grind)]
          omega
        have step : ∀ x y, (fg + 1 ≤ 2 → x = y) → p_X6_readNumber_37 n (setG e 4 (m.1 24 + Int32.ofInt 1)) a (fg + Int32.ofInt 1) x ∧ p_X9_scans_204 n (setG (setG m 24 (m.1 24 + Int32.ofInt 1)) 27 y) a b ∧ NuR b e m (f_X6_readNumber_37 n (setG e 4 (m.1 24 + Int32.ofInt 1)) a (fg + Int32.ofInt 1) x) (f_X9_scans_204 n (setG (setG m 24 (m.1 24 + Int32.ofInt 1)) 27 y) a b) := by
          intro x y hxy
          obtain ⟨i1, i2, i3, i4, i5, i6, i7, i8, i9, i10⟩ := ih (setG e 4 (m.1 24 + Int32.ofInt 1)) (setG (setG m 24 (m.1 24 + Int32.ofInt 1)) 27 y) (fg + Int32.ofInt 1) x on (by show fg + 1 = m.1 24 + 1 - b; rw [hfg]; grind) (by show 0 ≤ fg + 1; grind) (by show fg + 1 ≤ 250; grind) (by show b ≤ m.1 24 + 1; grind) (fun z => hxy z) (fun z => by
            exfalso
            have z' : fg + 1 = 0 := z
            grind) (hn' y)
          refine ⟨i1, i2, i3, i4, i5, ?_, i7, ⟨i8.1, fun k k4 k5 k6 => ?_⟩, ⟨i9.1, fun k k4 k5 k6 k7 => ?_⟩, i10⟩
          · have : m.1 24 + 1 ≤ (f_X9_scans_204 n (setG (setG m 24 (m.1 24 + Int32.ofInt 1)) 27 y) a b).1 24 := i6
            grind
          · rw [i8.2 k k4 k5 k6]
            show (if k = 4 then _ else e.1 k) = _
            rw [if_neg k4]
          · rw [i9.2 k k4 k5 k6 k7]
            show (if k = 27 then _ else if k = 24 then _ else m.1 k) = _
            rw [if_neg k7, if_neg k4]
        by_cases c3 : Int32.ofInt 2 ≤ fg
        · rw [if_pos c3, if_pos c3]
          obtain ⟨s1, s2, s3⟩ := step (Int32.ofInt 0) (m.1 27) (fun z => by
            exfalso
            have c3' : (2 : Int32) ≤ fg := c3
            grind)
          exact ⟨⟨fun y => absurd y c1, fun _ => ⟨by rw [← h4]; exact pb, fun y => absurd y c2', fun _ => ⟨fun _ => s1, fun y => absurd c3 y⟩⟩⟩, ⟨pis, fun y => absurd y c2, fun _ => ⟨fun _ => s2, fun y => absurd c3 y⟩⟩, s3⟩
        · rw [if_neg c3, if_neg c3]
          have c3' : ¬ (2 : Int32) ≤ fg := c3
          obtain ⟨s1, s2, s3⟩ := step (Int32.ofInt 10 * val + bt m - Int32.ofInt 48) (Int32.ofInt 10 * m.1 27 + m.2 22 (m.1 24).toNatClampNeg - Int32.ofInt 48) (fun _ => by
            rw [hval (by grind)]
            rfl)
          exact ⟨⟨fun y => absurd y c1, fun _ => ⟨by rw [← h4]; exact pb, fun y => absurd y c2', fun _ => ⟨fun y => absurd y c3, fun _ => ⟨by rw [← h4]; exact pb, s1⟩⟩⟩⟩, ⟨pis, fun y => absurd y c2, fun _ => ⟨fun y => absurd y c3, fun _ => ⟨v200, s2⟩⟩⟩, s3⟩
