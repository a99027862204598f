/-! layer 3: the list that a whole reading keeps -/
theorem rd_low : ∀ (n : Nat) (e m : Rec), TkR e m → 0 ≤ m.1 29 → 5 * m.1 29 ≤ m.1 24 → m.1 29 ≤ 40 → 40 < n + (m.1 29).toNatClampNeg → ¬ (f_X9_reads_14 (n + 1) (f_X9_scans m)).1 = 0 →
    m.1 29 ≤ (f_X9_reads_14 (n + 1) (f_X9_scans m)).2.1 29 ∧ (f_X9_reads_14 (n + 1) (f_X9_scans m)).2.1 29 ≤ 40 ∧ ∀ k : Int32, 0 ≤ k → k < 5 * m.1 29 → (f_X9_reads_14 (n + 1) (f_X9_scans m)).2.2 28 k.toNatClampNeg = m.2 28 k.toNatClampNeg := by
  intro n
  induction n with
  | zero =>
    intro e m h x0 _ x40 hn
    have := cl_le (n := 40) x0 x40
    omega
  | succ n ih =>
    intro e m h x0 x24 x40 hn hk
    obtain ⟨a1, a2⟩ := it_all (n + 1) h x0 (by clear ih; grind)
    rcases a2 with ⟨q, p1, p2, p3, p4, p5, p6, p7⟩ | ⟨q, M, p1, p2, p3, p4, p5, p6⟩ | ⟨q, M, p1, p2, p3, p4, p5, p6, p7, p8, p9⟩
    · rw [p2]
      refine ⟨?_, ?_, ?_⟩
      · show m.1 29 ≤ (f_X9_scans m).1 29
        rw [p5]
        exact Int32.le_refl _
      · show (f_X9_scans m).1 29 ≤ 40
        rw [p5]
        exact x40
      · intro k _ _
        show (f_X9_scans m).2 28 _ = _
        rw [p6]
    · rw [p2] at hk
      exact absurd rfl hk
    · rw [p2] at hk ⊢
      have l200 := p3.1.2.2.1
      have lM := p3.2.2.2
      have hT2 := h.1.2.2.1
      have hT3 := h.2.2.2
      have sa := fa_a x0 x40 x24 (by clear ih; grind) p7 (by clear ih; grind)
      rw [← p6] at sa
      obtain ⟨s5, s40⟩ := sa
      obtain ⟨i1, i2, i3⟩ := ih _ M p3 (by rw [p6]; clear ih; grind) s5 s40 (by
        rw [p6, cl_succ x0 (by clear ih; grind)]
        omega) hk
      rw [p6] at i1 i3
      refine ⟨?_, i2, ?_⟩
      · clear ih; grind
      · intro k k0 kx
        rw [i3 k k0 (by clear ih i3; grind)]
        exact p9 k k0 kx
