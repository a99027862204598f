/-! layer 3: the FAULT of THE GAME -/
theorem fa_step (n : Nat) (e : Rec) (v1 v2 : Int32) : f_X6_faultPlace_8 (n + 1) e v1 v2 = if (Int32.ofInt 200) < v2 then (if v1 = (Int32.ofInt 2) then ((e.1 5), e) else ((Int32.ofInt (-1)), e)) else (if v1 = 0 then (f_X6_faultPlace_8 n ((f_X6_readItem e).2) ((f_X6_readItem e).1) (v2 + (Int32.ofInt 1))) else (if v1 = (Int32.ofInt 2) then ((e.1 5), e) else ((Int32.ofInt (-1)), e))) := rfl
theorem fa_pstep (n : Nat) (e : Rec) (v1 v2 : Int32) : p_X6_faultPlace_8 (n + 1) e v1 v2 = (((Int32.ofInt 200) < v2 → True) ∧ (¬ ((Int32.ofInt 200) < v2) → ((v1 = 0 → ((p_X6_readItem e) ∧ (p_X6_faultPlace_8 n ((f_X6_readItem e).2) ((f_X6_readItem e).1) (v2 + (Int32.ofInt 1))))) ∧ (¬ (v1 = 0) → True)))) := rfl
theorem fa_end (n : Nat) (e : Rec) (v1 v2 : Int32) (h : ¬ v1 = 0) : p_X6_faultPlace_8 (n + 1) e v1 v2 ∧ f_X6_faultPlace_8 (n + 1) e v1 v2 = if v1 = Int32.ofInt 2 then ((e.1 5), e) else ((Int32.ofInt (-1)), e) := by
  rw [fa_pstep, fa_step]
  refine ⟨⟨fun _ => trivial, fun _ => ⟨fun y => absurd y h, fun _ => trivial⟩⟩, ?_⟩
  split
  · rfl
  · rfl
theorem fa_a {a b c : Int32} (h0 : 0 ≤ a) (h4 : a ≤ 40) (h5 : 5 * a ≤ b) (hb : b ≤ 200) (hc : b + 5 ≤ c) (h2 : c ≤ 200) : 5 * (a + 1) ≤ c ∧ a + 1 ≤ 40 := by
  have e : 5 * (a + 1) = 5 * a + 5 := by grind
  have q0 : 0 ≤ 5 * a := by grind
  have q : 5 * a + 5 ≤ c := by grind
  refine ⟨by rw [e]; exact q, ?_⟩
  grind
theorem fa_loop : ∀ (n : Nat) (e m : Rec) (v : Int32), TkR e m → 0 ≤ m.1 29 → 5 * m.1 29 ≤ m.1 24 → m.1 29 ≤ 40 → v = m.1 29 → 40 < n + (m.1 29).toNatClampNeg →
    p_X6_faultPlace_8 (n + 1) e 0 v ∧ p_X9_reads_14 (n + 1) (f_X9_scans m) ∧ (f_X6_faultPlace_8 (n + 1) e 0 v).1 = (if (f_X9_reads_14 (n + 1) (f_X9_scans m)).1 = 0 then (f_X9_reads_14 (n + 1) (f_X9_scans m)).2.1 25 else Int32.ofInt (-1)) ∧ TaR (f_X6_faultPlace_8 (n + 1) e 0 v).2 (f_X9_reads_14 (n + 1) (f_X9_scans m)).2 ∧ FrM m (f_X9_reads_14 (n + 1) (f_X9_scans m)).2 ∧ ((f_X9_reads_14 (n + 1) (f_X9_scans m)).1 = 0 → 0 ≤ (f_X9_reads_14 (n + 1) (f_X9_scans m)).2.1 25) := by
  intro n
  induction n with
  | zero =>
    intro e m v h x0 _ x40 _ hn
    have := cl_le (n := 40) x0 x40
    omega
  | succ n ih =>
    intro e m v h x0 x24 x40 hv hn
    obtain ⟨a1, a2⟩ := it_all (n + 1) h x0 (by grind)
    rw [fa_pstep, fa_step]
    have v200 : ¬ Int32.ofInt 200 < v := by
      intro y
      have y' : (200 : Int32) < v := y
      grind
    rw [if_neg v200, if_pos rfl]
    obtain ⟨r, hr⟩ : ∃ z, z = f_X6_readItem e := ⟨_, rfl⟩
    rw [← hr] at a2 ⊢
    rcases a2 with ⟨q, p1, p2, p3, p4, p5, p6, p7⟩ | ⟨q, M, p1, p2, p3, p4, p5, p6⟩ | ⟨q, M, p1, p2, p3, p4, p5, p6, p7, p8, p9⟩
    · obtain ⟨f1, f2⟩ := fa_end n r.2 r.1 (v + Int32.ofInt 1) (by rw [q]; decide)
      rw [if_neg (by rw [q]; decide)] at f2
      rw [f2, p2]
      exact ⟨⟨fun _ => trivial, fun _ => ⟨fun _ => ⟨a1, f1⟩, fun y => absurd rfl y⟩⟩, p1, rfl, p3.1, p4, fun y => absurd y (by show ¬ (1 : Int32) = 0; decide)⟩
    · obtain ⟨f1, f2⟩ := fa_end n r.2 r.1 (v + Int32.ofInt 1) (by rw [q]; decide)
      rw [if_pos (by rw [q]; decide)] at f2
      rw [f2, p2]
      exact ⟨⟨fun _ => trivial, fun _ => ⟨fun _ => ⟨a1, f1⟩, fun y => absurd rfl y⟩⟩, p1, p4.1, p3.1, p5, fun _ => p4.2⟩
    · have q0 : r.1 = 0 := q
      have l200 := p3.1.2.2.1
      have lM := p3.2.2.2
      have l0 := h.2.2.1
      have hT2 := h.1.2.2.1
      have hT3 := h.2.2.2
      have sa := fa_a x0 x40 x24 (by clear ih; grind) p7 (by clear ih; grind)
      rw [← p6] at sa
      obtain ⟨s5, s40⟩ := sa
      obtain ⟨i1, i2, i3, i4, i5, i6⟩ := ih r.2 M (v + Int32.ofInt 1) p3 (by rw [p6]; clear ih; grind) s5 s40 (by rw [p6, hv]; rfl) (by
        rw [p6, cl_succ x0 (by grind)]
        omega)
      rw [p2, q0]
      exact ⟨⟨fun _ => trivial, fun _ => ⟨fun _ => ⟨a1, i1⟩, fun y => absurd rfl y⟩⟩, p1 i2, i3, i4, p4.t i5, i6⟩
section
variable {K : Int32} {c s p t e q s1 p1 s2 p2 t1 t2 m : Rec}
theorem c_fault (o oh h k : Rec) (hK : K < 100000) (hI : Inv K c s p t e q s1 p1 s2 p2 t1 t2 m) : p_X8_fault c s p t e o oh h k q s1 p1 s2 p2 t1 t2 ∧ p_X9_fault m ∧ (f_X8_fault c s p t e o oh h k q s1 p1 s2 p2 t1 t2).1 = (f_X9_fault m).1 ∧ Inv (K + 1) c s p t (f_X8_fault c s p t e o oh h k q s1 p1 s2 p2 t1 t2).2 q s1 p1 s2 p2 t1 t2 (f_X9_fault m).2 := by
  have hT := hI.2.2.2.1
  have z0 : (0 : Int32) ≤ Int32.ofInt 0 := by decide
  have tk : TkR (f_X6_rewind e) (setG (setG m 24 (Int32.ofInt 0)) 29 (Int32.ofInt 0)) := ⟨hT, rfl, z0, hT.2.1⟩
  obtain ⟨i1, i2, i3, i4, i5, _⟩ := fa_loop 299 (f_X6_rewind e) (setG (setG m 24 (Int32.ofInt 0)) 29 (Int32.ofInt 0)) (Int32.ofInt 0) tk z0 (by show 5 * Int32.ofInt 0 ≤ Int32.ofInt 0; decide) (by show Int32.ofInt 0 ≤ 40; decide) rfl (by omega)
  have pn := (tk_next tk).2.1
  unfold p_X8_fault p_X9_fault f_X8_fault f_X9_fault p_X6_faultPlace f_X6_faultPlace p_X9_reads f_X9_reads
  obtain ⟨R, hR⟩ : ∃ z, z = f_X9_reads_14 300 (f_X9_scans (setG (setG m 24 (Int32.ofInt 0)) 29 (Int32.ofInt 0))) := ⟨_, rfl⟩
  obtain ⟨L, hL⟩ : ∃ z, z = f_X6_faultPlace_8 300 (f_X6_rewind e) (Int32.ofInt 0) (Int32.ofInt 0) := ⟨_, rfl⟩
  have i3' : L.1 = (if R.1 = 0 then R.2.1 25 else Int32.ofInt (-1)) := by rw [hL, hR]; exact i3
  have i4' : TaR L.2 R.2 := by rw [hL, hR]; exact i4
  have i5' : FrM (setG (setG m 24 (Int32.ofInt 0)) 29 (Int32.ofInt 0)) R.2 := by rw [hR]; exact i5
  rw [← hR, ← hL]
  have g2 : ∀ k, k ≠ 28 → R.2.2 k = m.2 k := fun k a => i5'.1 k a
  have g23 : R.2.1 23 = m.1 23 := i5'.2 23 (by decide) (by decide) (by decide) (by decide) (by decide)
  have hf : Rf c R.2 := by
    obtain ⟨u1, u2, u3⟩ := hI.2.2.2.2.1
    refine ⟨?_, ?_, ?_⟩
    · rw [g2 3 (by decide)]; exact u1
    · rw [g2 3 (by decide)]; exact u2
    · rw [g2 3 (by decide)]; exact u3
  have x := inv_fr (K' := K + 1) (c := c) (c' := c) (m := m) (m' := R.2) (by grind) (g2 0 (by decide)) (g2 1 (by decide)) (g2 2 (by decide)) (g2 22 (by decide)) g23 rfl hf hI
  have y : Inv (K + 1) c s p t L.2 q s1 p1 s2 p2 t1 t2 R.2 := ⟨x.1, x.2.1, x.2.2.1, i4', x.2.2.2.2⟩
  refine ⟨⟨i1, trivial⟩, ⟨⟨pn, i2⟩, trivial⟩, ?_, ?_⟩
  · by_cases w : R.1 = 0
    · rw [if_pos w] at i3' ⊢
      exact i3'
    · rw [if_neg w] at i3' ⊢
      exact i3'
  · by_cases w : R.1 = 0
    · rw [if_pos w]
      exact y
    · rw [if_neg w]
      exact y
end
