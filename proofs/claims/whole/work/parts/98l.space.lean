/-! layer 3: spaces, and the NEXT TOKEN whole -/
theorem sp_loop : ∀ (n : Nat) (e m : Rec), TkR e m → (m.1 23).toNatClampNeg < n + (m.1 24).toNatClampNeg →
    p_X6_nextToken_0 n e ∧ p_X9_scans_0 n m ∧ ToR e m (f_X6_nextToken_0 n e) (f_X9_scans_0 n m) := by
  intro n
  induction n with
  | zero =>
    intro e m h hn
    have := cl_mono h.2.2.2
    omega
  | succ n ih =>
    intro e m h hn
    have hT := h.1
    have h4 := h.2.1
    have ha0 := h.2.2.1
    have hal := h.2.2.2
    have l200 := hT.2.2.1
    obtain ⟨pis, is⟩ := tk_is h (Int32.ofInt 32) (Int32.ofInt 32)
    have tb := tk_byte h
    have pb := tk_pb h
    obtain ⟨a1, a2, a3⟩ := tk_37 h
    rw [p_X6_nextToken_0, p_X9_scans_0, f_X6_nextToken_0, f_X9_scans_0]
    by_cases c1 : e.1 2 ≤ e.1 4
    · have z : f_X9_isByte m (Int32.ofInt 32) (Int32.ofInt 32) = 0 := is.mpr (fun z => by
        rw [hT.1, h4] at c1
        grind)
      rw [if_pos c1, if_pos z]
      exact ⟨⟨fun _ => a1, fun y => absurd c1 y⟩, ⟨pis, fun _ => a2, fun y => absurd z y⟩, a3⟩
    · have lt : m.1 24 < m.1 23 := by
        rw [hT.1, h4] at c1
        grind
      rw [if_pos lt] at tb
      rw [if_neg c1]
      by_cases c2 : f_X9_isByte m (Int32.ofInt 32) (Int32.ofInt 32) = 0
      · have c2' : ¬ f_X6_byteAt e (e.1 4) = Int32.ofInt 32 := by
          rw [tb]
          intro y
          exact (is.mp c2) ⟨lt, by rw [y]; exact Int32.le_refl _, by rw [y]; exact Int32.le_refl _⟩
        rw [if_pos c2, if_neg c2']
        exact ⟨⟨fun y => absurd y c1, fun _ => ⟨pb, fun y => absurd y c2', fun _ => a1⟩⟩, ⟨pis, fun _ => a2, fun y => absurd c2 y⟩, a3⟩
      · have q := (Classical.not_not.mp (fun z => c2 (is.mpr z))).2
        have c2' : f_X6_byteAt e (e.1 4) = Int32.ofInt 32 := by
          rw [tb]
          exact Int32.le_antisymm q.2 q.1
        rw [if_neg c2, if_pos c2']
        have on := tk_on h lt
        have sc := cl_succ (x := m.1 24) ha0 (by grind)
        obtain ⟨i1, i2, i3, i4, i5, i6, i7, i8, i9, i10⟩ := ih _ _ on (by
          show (m.1 23).toNatClampNeg < n + (m.1 24 + 1).toNatClampNeg
          rw [sc]
          omega)
        have ml : m.1 24 < m.1 24 + Int32.ofInt 1 := by show m.1 24 < m.1 24 + 1; grind
        refine ⟨⟨fun y => absurd y c1, fun _ => ⟨pb, fun _ => i1, fun y => absurd c2' y⟩⟩, ⟨pis, fun y => absurd y c2, fun _ => i2⟩, i3, i4, i5, i6, ?_, ?_, (fe4 _ _).t i9, (ft24 _ _).t i10⟩
        · exact Int32.le_trans (Int32.le_of_lt ml) i7
        · intro y1 y2
          exact Int32.lt_trans ml (i8 y1 y2)
theorem tk_next {e m : Rec} (h : TkR e m) : p_X6_nextToken e ∧ p_X9_scans m ∧ ToR e m (f_X6_nextToken e) (f_X9_scans m) := by
  have := cl_le (n := 200) h.1.2.1 h.1.2.2.1
  exact sp_loop 300 e m h (by omega)
