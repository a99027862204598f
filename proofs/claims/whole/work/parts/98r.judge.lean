/-! layer 3: the items played one after another -/
theorem fw_step (n : Nat) (c s p t e o oh h k q s1 p1 s2 p2 t1 t2 : Rec) (v : Int32) : f_X8_firstWrongItem_9 (n + 1) c s p t e o oh h k q s1 p1 s2 p2 t1 t2 v = if (Int32.ofInt 200) ≤ v then ((Int32.ofInt (-1)), s, p, e) else (if ((f_X6_readItem e).1) = 0 then (if ((f_X8_playItem c s p t ((f_X6_readItem e).2) o oh h k q s1 p1 s2 p2 t1 t2).1) = 0 then (v, ((f_X8_playItem c s p t ((f_X6_readItem e).2) o oh h k q s1 p1 s2 p2 t1 t2).2.1), ((f_X8_playItem c s p t ((f_X6_readItem e).2) o oh h k q s1 p1 s2 p2 t1 t2).2.2), ((f_X6_readItem e).2)) else (f_X8_firstWrongItem_9 n c ((f_X8_playItem c s p t ((f_X6_readItem e).2) o oh h k q s1 p1 s2 p2 t1 t2).2.1) ((f_X8_playItem c s p t ((f_X6_readItem e).2) o oh h k q s1 p1 s2 p2 t1 t2).2.2) t ((f_X6_readItem e).2) o oh h k q s1 p1 s2 p2 t1 t2 (v + (Int32.ofInt 1)))) else ((Int32.ofInt (-1)), s, p, ((f_X6_readItem e).2))) := rfl
theorem rw_cg {e m m' : Rec} {x : Int32} (x0 : 0 ≤ x) (x40 : x ≤ 40) (h : RwR e m x) (hm : ∀ k : Int32, 0 ≤ k → k < 5 * (x + 1) → m'.2 28 k.toNatClampNeg = m.2 28 k.toNatClampNeg) : RwR e m' x := by
  have e5 : 5 * (x + 1) = 5 * x + 5 := by grind
  have i5 : 0 ≤ 5 * x := by grind
  have i5' : 5 * x ≤ 200 := by grind
  rw [e5] at hm
  rcases h with ⟨a, b, d⟩ | ⟨a, b, d⟩
  · refine Or.inl ⟨a, by rw [hm _ i5 (by grind)]; exact b, fun j j0 j4 => ?_⟩
    rw [hm _ (by grind) (by grind)]
    exact d j j0 j4
  · refine Or.inr ⟨a, by rw [hm _ i5 (by grind)]; exact b, fun j j0 j4 => ?_⟩
    rw [hm _ (by grind) (by grind)]
    exact d j j0 j4
theorem ju_loop (c t o oh h k q s1 p1 s2 p2 t1 t2 g0 : Rec) (R : Int32 × Rec) (hT : ∀ G : Rec, Frm g0 G → p_X9_takes_v14 G (Int32.ofInt 0) ∧ (f_X9_takes_v14 G (Int32.ofInt 0)).1 29 = G.1 29) (hR : ¬ R.1 = 0) (h29 : g0.1 29 = R.2.1 29) (h28 : g0.2 28 = R.2.2 28) : ∀ (n N : Nat) (K v : Int32) (s p g e m : Rec), PR s p g → GI K g → K < 200000 + v → Frm g0 g → TkR e m → v = m.1 29 → 0 ≤ m.1 29 → 5 * m.1 29 ≤ m.1 24 → m.1 29 ≤ 40 → 40 < N + (m.1 29).toNatClampNeg → 40 < n + (m.1 29).toNatClampNeg → f_X9_reads_14 (N + 1) (f_X9_scans m) = R →
    p_X8_firstWrongItem_9 (n + 1) c s p t e o oh h k q s1 p1 s2 p2 t1 t2 v ∧ p_X9_judge_27 (n + 1) g v ∧ ∃ (K' : Int32) (G : Rec), PR (f_X8_firstWrongItem_9 (n + 1) c s p t e o oh h k q s1 p1 s2 p2 t1 t2 v).2.1 (f_X8_firstWrongItem_9 (n + 1) c s p t e o oh h k q s1 p1 s2 p2 t1 t2 v).2.2.1 G ∧ GI K' G ∧ Frm g0 G ∧ (f_X9_judge_27 (n + 1) g v) = ((f_X8_firstWrongItem_9 (n + 1) c s p t e o oh h k q s1 p1 s2 p2 t1 t2 v).1, f_X9_takes_v14 G (Int32.ofInt 0)) ∧ FrX e (f_X8_firstWrongItem_9 (n + 1) c s p t e o oh h k q s1 p1 s2 p2 t1 t2 v).2.2.2 := by
  intro n
  induction n with
  | zero =>
    intro N K v s p g e m _ _ _ _ _ _ x0 _ x40 _ hn
    have := cl_le (n := 40) x0 x40
    omega
  | succ n ih =>
    intro N K v s p g e m hP hG hK hF hk hv x0 x24 x40 hN hn hRd
    obtain ⟨N, rfl⟩ : ∃ z, N = z + 1 := ⟨N - 1, by
      have := cl_le (n := 40) x0 x40
      omega⟩
    obtain ⟨a1, a2⟩ := it_all (N + 1) hk x0 (by clear ih; grind)
    have v200 : ¬ Int32.ofInt 200 ≤ v := by
      intro y
      have y' : (200 : Int32) ≤ v := y
      clear ih
      grind
    rw [p_X8_firstWrongItem_9, fw_step, p_X9_judge_27, f_X9_judge_27, if_neg v200]
    obtain ⟨r, hr⟩ : ∃ z, z = f_X6_readItem e := ⟨_, rfl⟩
    rw [← hr] at a2 ⊢
    have g29 : g.1 29 = R.2.1 29 := by rw [hF.1 29 (by decide), h29]
    have g28 : g.2 28 = R.2.2 28 := by rw [hF.2.1 28 (by decide) (by decide) (by decide) (by decide) (by decide), h28]
    rcases a2 with ⟨q0, b1, b2, b3, b4, b5, b6, b7⟩ | ⟨q0, M, b1, b2, b3, b4, b5, b6⟩ | ⟨q0, M, b1, b2, b3, b4, b5, b6, b7, b8, b9⟩
    · have q1 : ¬ r.1 = 0 := by rw [q0]; decide
      have le : g.1 29 ≤ v := by
        rw [g29, ← hRd, b2, hv]
        show (f_X9_scans m).1 29 ≤ _
        rw [b5]
        exact Int32.le_refl _
      have tg := hT g hF
      rw [if_neg q1, if_pos le, if_pos (by rw [tg.2]; exact le)]
      exact ⟨⟨fun y => absurd y v200, fun _ => ⟨a1, fun y => absurd y q1, fun _ => trivial⟩⟩, ⟨fun _ => ⟨tg.1, trivial⟩, fun y => absurd le y⟩, K, g, hP, hG, hF, rfl, b7⟩
    · exfalso
      rw [b2] at hRd
      exact hR (by rw [← hRd])
    · rw [if_pos q0]
      have l200 := b3.1.2.2.1
      have lM := b3.2.2.2
      have hT2 := hk.1.2.2.1
      have hT3 := hk.2.2.2
      have sa := fa_a x0 x40 x24 (by clear ih; grind) b7 (by clear ih; grind)
      rw [← b6] at sa
      obtain ⟨s5, s40⟩ := sa
      have M0 : 0 ≤ M.1 29 := by rw [b6]; clear ih; grind
      have hN' : 40 < N + (M.1 29).toNatClampNeg := by
        rw [b6, cl_succ x0 (by clear ih; grind)]
        omega
      have hn' : 40 < n + (M.1 29).toNatClampNeg := by
        rw [b6, cl_succ x0 (by clear ih; grind)]
        omega
      rw [b2] at hRd
      obtain ⟨l1, l2, l3⟩ := rd_low N _ M b3 M0 s5 s40 hN' (by rw [hRd]; exact hR)
      rw [hRd] at l1 l2 l3
      have nle : ¬ g.1 29 ≤ v := by
        rw [g29, hv]
        rw [b6] at l1
        clear ih
        grind
      have rw' : RwR r.2 g v := by
        rw [hv]
        refine rw_cg x0 x40 b8 ?_
        rw [g28, ← b6]
        exact l3
      obtain ⟨o1, o2, o3, o4, o5, o6⟩ := go_all c t o oh h k q s1 p1 s2 p2 t1 t2 hP hG (by clear ih; grind) (by rw [hv]; exact x0) (by rw [hv]; clear ih; grind) rw'
      obtain ⟨z, hz⟩ : ∃ z, z = f_X8_playItem c s p t r.2 o oh h k q s1 p1 s2 p2 t1 t2 := ⟨_, rfl⟩
      rw [← hz] at o3 o4 ⊢
      have F' := hF.t o6
      rw [if_neg nle]
      by_cases c1 : z.1 = 0
      · have c1' : (f_X9_goes g v).1 = 0 := by rw [← o3]; exact c1
        have tg := hT _ F'
        have nle' : ¬ (f_X9_takes_v14 (f_X9_goes g v).2 (Int32.ofInt 0)).1 29 ≤ v := by
          rw [tg.2, o6.1 29 (by decide)]
          exact nle
        rw [if_pos c1, if_pos c1', if_neg nle']
        exact ⟨⟨fun y => absurd y v200, fun _ => ⟨a1, fun _ => ⟨o1, fun _ => trivial, fun y => absurd c1 y⟩, fun y => absurd q0 y⟩⟩, ⟨fun y => absurd y nle, fun _ => ⟨o2, fun _ => ⟨tg.1, trivial⟩, fun y => absurd c1' y⟩⟩, K + 1, _, o4, o5, F', rfl, b5⟩
      · have c1' : ¬ (f_X9_goes g v).1 = 0 := by rw [← o3]; exact c1
        rw [if_neg c1, if_neg c1']
        obtain ⟨j1, j2, K', G, j3, j4, j5, j6, j7⟩ := ih N (K + 1) (v + Int32.ofInt 1) z.2.1 z.2.2 (f_X9_goes g v).2 r.2 M o4 o5 (by show K + 1 < 200000 + (v + 1); clear ih; grind) F' b3 (by rw [b6, hv]; rfl) M0 s5 s40 hN' hn' hRd
        exact ⟨⟨fun y => absurd y v200, fun _ => ⟨a1, fun _ => ⟨o1, fun y => absurd y c1, fun _ => j1⟩, fun y => absurd q0 y⟩⟩, ⟨fun y => absurd y nle, fun _ => ⟨o2, fun y => absurd y c1', fun _ => j2⟩⟩, K', G, j3, j4, j5, j6, b5.t j7⟩
