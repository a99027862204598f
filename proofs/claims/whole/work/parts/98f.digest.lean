/-! layer 3: digest -/
theorem FuV.n {e : Int32} {n : Nat} (h0 : 0 ≤ e) (h1 : e ≤ 250) (hn : 250 < n) : FuV e n 0 := by
  refine ⟨by grind, by decide, h0, ?_⟩
  have := cl_le (n := 250) h0 h1
  have e0 : (0 : Int32).toNatClampNeg = 0 := rfl
  omega
section
variable {K : Int32} {c s p t e q s1 p1 s2 p2 t1 t2 m : Rec}
theorem dg_b (o oh h k : Rec) (hT : TaR e m) : ∀ (n : Nat) (a : Int64) (v : Int32), FuV (m.1 23) n v → p_X8_digest_152 n c s p t e o oh h k q s1 p1 s2 p2 t1 t2 a v ∧ p_X9_digest_257 n m a v ∧ f_X8_digest_152 n c s p t e o oh h k q s1 p1 s2 p2 t1 t2 a v = f_X9_digest_257 n m a v := by
  obtain ⟨t1, t2, t3, t4⟩ := hT
  intro n
  induction n with
  | zero => intro a v hf; exact hf.z.elim
  | succ n ih =>
    intro a v hf
    rw [p_X8_digest_152, p_X9_digest_257, f_X8_digest_152, f_X9_digest_257, t1]
    by_cases c1 : m.1 23 ≤ v
    · rw [if_pos c1, if_pos c1]
      exact ⟨⟨fun _ => trivial, fun z => absurd c1 z⟩, ⟨fun _ => trivial, fun z => absurd c1 z⟩, rfl⟩
    · obtain ⟨f1, f2, f3⟩ := hf.s c1
      have v200 : v < 200 := by grind
      have vk := cl_lt (n := 200) f2 v200
      have vv := vinb (n := 200) f2 v200
      have eb := (t4 v.toNatClampNeg (by rw [Int32.ofNat_toNatClampNeg v f2]; exact f3) vk).1
      have em : f_X8_mix a (m.2 22 v.toNatClampNeg) = 31 * a + (m.2 22 v.toNatClampNeg).toInt64 := rfl
      rw [if_neg c1, if_neg c1, eb, em]
      obtain ⟨i1, i2, i3⟩ := ih (31 * a + (m.2 22 v.toNatClampNeg).toInt64) (v + 1) f1
      exact ⟨⟨fun z => absurd z c1, fun _ => ⟨vv, i1⟩⟩, ⟨fun z => absurd z c1, fun _ => ⟨vv, i2⟩⟩, i3⟩
theorem dg_f (o oh h k : Rec) (hT : TaR e m) (h2 : s.1 2 = m.2 0 16) (n0 : 0 ≤ m.2 0 16) (n3 : m.2 0 16 ≤ 3) (hf0 : ∀ v : Int32, 0 ≤ v → v < 3 * m.2 0 16 → s.2 13 v.toNatClampNeg = m.2 0 (17 + v.toNatClampNeg)) : ∀ (n : Nat) (a : Int64) (v : Int32), FuV (3 * m.2 0 16) n v → p_X8_digest_111 n c s p t e o oh h k q s1 p1 s2 p2 t1 t2 a v ∧ p_X9_digest_219 n m a v ∧ f_X8_digest_111 n c s p t e o oh h k q s1 p1 s2 p2 t1 t2 a v = f_X9_digest_219 n m a v := by
  intro n
  induction n with
  | zero => intro a v hf; exact hf.z.elim
  | succ n ih =>
    intro a v hf
    rw [p_X8_digest_111, p_X9_digest_219, f_X8_digest_111, f_X9_digest_219, h2]
    have k16 : Int32.ofInt 3 * m.2 0 (Int32.toNatClampNeg (Int32.ofInt 16)) = 3 * m.2 0 16 := rfl
    have k16' : Int32.ofInt 3 * m.2 0 16 = 3 * m.2 0 16 := rfl
    rw [k16, k16']
    by_cases c1 : 3 * m.2 0 16 ≤ v
    · rw [if_pos c1, if_pos c1]
      obtain ⟨b1, b2, b3⟩ := dg_b (c := c) (s := s) (p := p) (t := t) (q := q) (s1 := s1) (p1 := p1) (s2 := s2) (p2 := p2) (t1 := t1) (t2 := t2) o oh h k hT 300 a 0 (FuV.n hT.2.1 (by have := hT.2.2.1; grind) (by decide))
      exact ⟨⟨fun _ => b1, fun z => absurd c1 z⟩, ⟨fun _ => b2, fun z => absurd c1 z⟩, b3⟩
    · obtain ⟨f1, f2, f3⟩ := hf.s c1
      have v9 : v < 9 := by grind
      have vv := vinb (n := 9) f2 v9
      have v248 := vinb (n := 248) (x := Int32.ofInt 17 + v) (by grind) (by grind)
      have i17 : (Int32.ofInt 17 + v).toNatClampNeg = 17 + v.toNatClampNeg := ix_add 17 f2 (by grind) (by decide)
      have em : f_X8_mix a (m.2 0 (17 + v.toNatClampNeg)) = 31 * a + (m.2 0 (17 + v.toNatClampNeg)).toInt64 := rfl
      rw [if_neg c1, if_neg c1, i17, hf0 v f2 f3, em]
      obtain ⟨i1, i2, i3⟩ := ih (31 * a + (m.2 0 (17 + v.toNatClampNeg)).toInt64) (v + 1) f1
      exact ⟨⟨fun z => absurd z c1, fun _ => ⟨vv, i1⟩⟩, ⟨fun z => absurd z c1, fun _ => ⟨v248, i2⟩⟩, i3⟩
/-- of MEN -/
theorem dg_m (o oh h k : Rec) (hM : Mn p m) (p219 : ∀ a, p_X9_digest_219 300 m a (Int32.ofInt 0)) : ∀ (n n' : Nat) (a : Int64) (v : Int32), FuV (p.1 5) n v → FuV (p.1 5) n' v → p_X8_mixBoard_71 n' c s p t e o oh h k q s1 p1 s2 p2 t1 t2 a v ∧ p_X9_digest_93 n m a v ∧ f_X9_digest_93 n m a v = f_X9_digest_219 300 m (f_X8_mix (f_X8_mix (f_X8_mix (f_X8_mix (f_X8_mixBoard_71 n' c s p t e o oh h k q s1 p1 s2 p2 t1 t2 a v) (m.2 0 4)) (m.2 0 5)) (m.2 0 26)) (m.2 0 27)) (Int32.ofInt 0) := by
  obtain ⟨n0, n8, n2, mm⟩ := hM
  intro n
  induction n with
  | zero => intro n' a v hf; exact hf.z.elim
  | succ n ih =>
    intro n' a v hf hf'
    cases n' with
    | zero => exact hf'.z.elim
    | succ n' =>
      rw [p_X8_mixBoard_71, p_X9_digest_93, f_X9_digest_93, f_X8_mixBoard_71, n2]
      by_cases c1 : p.1 5 ≤ v
      · rw [if_pos c1, if_pos c1]
        exact ⟨⟨fun _ => trivial, fun z => absurd c1 z⟩, ⟨fun _ => p219 _, fun z => absurd c1 z⟩, rfl⟩
      · obtain ⟨f1, f2, f3⟩ := hf.s c1
        obtain ⟨g1, g2, g3⟩ := hf'.s c1
        have vv := vinb (n := 8) f2 (show v < 8 by grind)
        obtain ⟨e1, e2, e3, e4, _⟩ := mm v f2 f3
        obtain ⟨i1, i2, i3⟩ := ih n' (f_X8_mix (f_X8_mix (f_X8_mix (f_X8_mix a (p.2 1 v.toNatClampNeg)) (p.2 2 v.toNatClampNeg)) (p.2 3 v.toNatClampNeg)) (p.2 4 v.toNatClampNeg)) (v + 1) f1 g1
        have w0 : vp_in (Int32.ofInt 28 + Int32.ofInt 3 * v + Int32.ofInt 0) 248 := vinb (n := 248) (by grind) (by grind)
        have w1 : vp_in (Int32.ofInt 28 + Int32.ofInt 3 * v + Int32.ofInt 1) 248 := vinb (n := 248) (by grind) (by grind)
        have w2 : vp_in (Int32.ofInt 28 + Int32.ofInt 3 * v + Int32.ofInt 2) 248 := vinb (n := 248) (by grind) (by grind)
        have w8 : vp_in (Int32.ofInt 8 + v) 248 := vinb (n := 248) (by grind) (by grind)
        have z0 : Int32.ofInt 28 + Int32.ofInt 3 * v + Int32.ofInt 0 = Int32.ofInt 28 + Int32.ofInt 3 * v := by show (28 : Int32) + 3 * v + 0 = 28 + 3 * v; grind
        -- the three inner turns
        have inner : f_X9_digest_106 (f_X9_digest_93 n) 300 m a v (Int32.ofInt 0) = f_X9_digest_93 n m (f_X8_mix (f_X8_mix (f_X8_mix (f_X8_mix a (p.2 1 v.toNatClampNeg)) (p.2 2 v.toNatClampNeg)) (p.2 3 v.toNatClampNeg)) (p.2 4 v.toNatClampNeg)) (v + 1) := by
          show f_X9_digest_106 (f_X9_digest_93 n) (296 + 1 + 1 + 1 + 1) m a v (Int32.ofInt 0) = _
          have s0 : Int32.ofInt 0 + Int32.ofInt 1 = Int32.ofInt 1 := by decide
          have s1 : Int32.ofInt 1 + Int32.ofInt 1 = Int32.ofInt 2 := by decide
          have s2 : Int32.ofInt 2 + Int32.ofInt 1 = Int32.ofInt 3 := by decide
          rw [f_X9_digest_106, if_neg (show ¬ Int32.ofInt 3 ≤ Int32.ofInt 0 by decide), s0, f_X9_digest_106, if_neg (show ¬ Int32.ofInt 3 ≤ Int32.ofInt 1 by decide), s1, f_X9_digest_106, if_neg (show ¬ Int32.ofInt 3 ≤ Int32.ofInt 2 by decide), s2, f_X9_digest_106, if_pos (show Int32.ofInt 3 ≤ Int32.ofInt 3 by decide), z0, e1, e2, e3, e4]
          rfl
        have innerp : p_X9_digest_106 (p_X9_digest_93 n) 300 m a v (Int32.ofInt 0) := by
          show p_X9_digest_106 (p_X9_digest_93 n) (296 + 1 + 1 + 1 + 1) m a v (Int32.ofInt 0)
          have s0 : Int32.ofInt 0 + Int32.ofInt 1 = Int32.ofInt 1 := by decide
          have s1 : Int32.ofInt 1 + Int32.ofInt 1 = Int32.ofInt 2 := by decide
          have s2 : Int32.ofInt 2 + Int32.ofInt 1 = Int32.ofInt 3 := by decide
          rw [p_X9_digest_106]
          refine ⟨fun z => absurd z (by decide), fun _ => ⟨w0, ?_⟩⟩
          rw [s0, p_X9_digest_106]
          refine ⟨fun z => absurd z (by decide), fun _ => ⟨w1, ?_⟩⟩
          rw [s1, p_X9_digest_106]
          refine ⟨fun z => absurd z (by decide), fun _ => ⟨w2, ?_⟩⟩
          rw [s2, p_X9_digest_106]
          refine ⟨fun _ => ⟨w8, ?_⟩, fun z => absurd (by decide) z⟩
          rw [z0, e1, e2, e3, e4]
          exact i2
        rw [if_neg c1, if_neg c1, inner]
        exact ⟨⟨fun z => absurd z c1, fun _ => ⟨vv, vv, vv, vv, i1⟩⟩, ⟨fun z => absurd z c1, fun _ => innerp⟩, i3⟩
/-- of squares -/
theorem dg_c (o oh h k : Rec) (hc : ∀ a, f_X4_has s a = f_X9_isCell m a) (hM : Mn p m) (p219 : ∀ a, p_X9_digest_219 300 m a (Int32.ofInt 0)) : ∀ (n n' : Nat) (a : Int64) (v : Int32), Fu 36 n v → Fu 36 n' v → p_X8_mixBoard_33 n' c s p t e o oh h k q s1 p1 s2 p2 t1 t2 a v ∧ p_X9_digest_58 n m a v ∧ f_X9_digest_58 n m a v = f_X9_digest_219 300 m (f_X8_mix (f_X8_mix (f_X8_mix (f_X8_mix (f_X8_mixBoard_33 n' c s p t e o oh h k q s1 p1 s2 p2 t1 t2 a v) (m.2 0 4)) (m.2 0 5)) (m.2 0 26)) (m.2 0 27)) (Int32.ofInt 0) := by
  intro n
  induction n with
  | zero => intro n' a v hf; exact (hf.z (by decide)).elim
  | succ n ih =>
    intro n' a v hf hf'
    cases n' with
    | zero => exact (hf'.z (by decide)).elim
    | succ n' =>
      rw [p_X8_mixBoard_33, p_X9_digest_58, f_X9_digest_58, f_X8_mixBoard_33, hc]
      by_cases c1 : Int32.ofInt 36 ≤ v
      · rw [if_pos c1, if_pos c1]
        obtain ⟨b1, b2, b3⟩ := dg_m (c := c) (s := s) (t := t) (e := e) (q := q) (s1 := s1) (p1 := p1) (s2 := s2) (p2 := p2) (t1 := t1) (t2 := t2) o oh h k hM p219 300 40 a 0 (FuV.n hM.1 (by have := hM.2.1; grind) (by decide)) (FuV.o hM.1 hM.2.1 (by decide))
        exact ⟨⟨fun _ => b1, fun z => absurd c1 z⟩, ⟨fun _ => b2, fun z => absurd c1 z⟩, b3⟩
      · obtain ⟨f1, f2, f3⟩ := hf.s (by decide) c1
        obtain ⟨g1, g2, g3⟩ := hf'.s (by decide) c1
        rw [if_neg c1, if_neg c1]
        by_cases c2 : f_X9_isCell m v = 0
        · rw [if_pos c2, if_pos c2]
          obtain ⟨i1, i2, i3⟩ := ih n' a (v + 1) f1 g1
          exact ⟨⟨fun z => absurd z c1, fun _ => ⟨pl_has .., fun _ => i1, fun z => absurd c2 z⟩⟩, ⟨fun z => absurd z c1, fun _ => ⟨pl_isCell .., fun _ => i2, fun z => absurd c2 z⟩⟩, i3⟩
        · have em : f_X8_mix a v = 31 * a + v.toInt64 := rfl
          rw [if_neg c2, if_neg c2, em]
          obtain ⟨i1, i2, i3⟩ := ih n' (31 * a + v.toInt64) (v + 1) f1 g1
          exact ⟨⟨fun z => absurd z c1, fun _ => ⟨pl_has .., fun z => absurd z c2, fun _ => i1⟩⟩, ⟨fun z => absurd z c1, fun _ => ⟨pl_isCell .., fun z => absurd z c2, fun _ => i2⟩⟩, i3⟩
theorem c_digest (o oh h k : Rec) (hK : K < 100000) (hI : Inv K c s p t e q s1 p1 s2 p2 t1 t2 m) : p_X8_digest c s p t e o oh h k q s1 p1 s2 p2 t1 t2 ∧ p_X9_digest m ∧ f_X8_digest c s p t e o oh h k q s1 p1 s2 p2 t1 t2 = f_X9_digest m := by
  obtain ⟨hP, hG, hp, hF, hb⟩ := inv_g hI
  have hM := inv_mn hI
  have hT := hI.2.2.2.1
  obtain ⟨nf, f1, f2⟩ := hI.1.1.1
  have nn := nf_in f1 f2
  have e0 : f_X4_howMany s = f_X9_many m := by rw [hm_eq hP.1, many_cg hb]
  have n2 := mn2 hM
  have h6 : t.1 2 = m.2 0 6 := by
    obtain ⟨u, x, _, _, _, a1, a2, _⟩ := hI.1.2.1
    rw [a1, a2]
  have q0 : s.1 0 = m.2 0 0 := by rw [hP.2.2.2.1.1, hb]
  have q1 : s.1 1 = m.2 0 1 := by rw [hP.2.2.2.1.2.1, hb]
  have q2 : s.1 2 = m.2 0 16 := by rw [hP.2.2.2.1.2.2, hb]
  have q6 : p.1 6 = m.2 0 26 := by rw [hP.2.2.2.2.1.1, hb]
  have q7 : p.1 7 = m.2 0 27 := by rw [hP.2.2.2.2.1.2.1, hb]
  have q8 : p.1 8 = m.2 0 4 := by rw [hP.2.2.2.2.1.2.2.1, hb]
  have q9 : p.1 9 = m.2 0 5 := by rw [hP.2.2.2.2.1.2.2.2, hb]
  have hfo : ∀ v : Int32, 0 ≤ v → v < 3 * m.2 0 16 → s.2 13 v.toNatClampNeg = m.2 0 (17 + v.toNatClampNeg) := by
    intro v v0 v1
    have := hP.2.2.2.2.2 nf f1 (by rw [hb]; exact f2) v.toNatClampNeg (by
      rw [f2] at v1
      have e3 : 3 * Int32.ofNat nf = nI (3 * nf) := pk_mul 3 nf
      rw [e3] at v1
      exact cl_lt v0 v1 (by omega))
    rw [hb] at this
    exact this
  have F := fun a => dg_f (c := c) (p := p) (t := t) (q := q) (s1 := s1) (p1 := p1) (s2 := s2) (p2 := p2) (t1 := t1) (t2 := t2) o oh h k hT q2 nn.1 nn.2 hfo 300 a 0 (FuV.n (by grind) (by grind) (by decide))
  have p219 : ∀ a, p_X9_digest_219 300 m a (Int32.ofInt 0) := fun a => (F a).2.1
  have C := fun a => dg_c (c := c) (t := t) (e := e) (q := q) (s1 := s1) (p1 := p1) (s2 := s2) (p2 := p2) (t1 := t1) (t2 := t2) o oh h k (inv_c hI) hM p219 300 40 a 0 (Fu.o (by decide)) (Fu.o (by decide))
  -- the first four
  obtain ⟨H, hH⟩ : ∃ H : Int64, H = f_X8_mix (f_X8_mix (f_X8_mix (f_X8_mix 653 (f_X9_many m)) (p.1 5)) (m.1 23)) (m.2 0 6) := ⟨_, rfl⟩
  have s0 : Int32.ofInt 0 + Int32.ofInt 1 = Int32.ofInt 1 := by decide
  have s1' : Int32.ofInt 1 + Int32.ofInt 1 = Int32.ofInt 2 := by decide
  have s2' : Int32.ofInt 2 + Int32.ofInt 1 = Int32.ofInt 3 := by decide
  have s3' : Int32.ofInt 3 + Int32.ofInt 1 = Int32.ofInt 4 := by decide
  have o0 : f_X9_countOf m (Int32.ofInt 0) = f_X9_many m := by
    unfold f_X9_countOf
    rw [if_pos (show Int32.ofInt 0 = 0 by decide)]
  have o1 : f_X9_countOf m (Int32.ofInt 1) = p.1 5 := by
    unfold f_X9_countOf
    rw [if_neg (show ¬ Int32.ofInt 1 = 0 by decide), if_pos (show Int32.ofInt 1 = Int32.ofInt 1 by decide)]
    exact n2
  have o2 : f_X9_countOf m (Int32.ofInt 2) = m.1 23 := by
    unfold f_X9_countOf
    rw [if_neg (show ¬ Int32.ofInt 2 = 0 by decide), if_neg (show ¬ Int32.ofInt 2 = Int32.ofInt 1 by decide), if_pos (show Int32.ofInt 2 = Int32.ofInt 2 by decide)]
  have o3 : f_X9_countOf m (Int32.ofInt 3) = m.2 0 6 := by
    unfold f_X9_countOf
    rw [if_neg (show ¬ Int32.ofInt 3 = 0 by decide), if_neg (show ¬ Int32.ofInt 3 = Int32.ofInt 1 by decide), if_neg (show ¬ Int32.ofInt 3 = Int32.ofInt 2 by decide)]
    rfl
  have po : ∀ j, p_X9_countOf m j := fun j => ⟨fun _ => ⟨pp_many m, trivial⟩, fun _ => trivial⟩
  have d6 : f_X9_digest m = f_X9_digest_58 300 m (f_X8_mix (f_X8_mix H (m.2 0 0)) (m.2 0 1)) (Int32.ofInt 0) := by
    show f_X9_digest_6 (295 + 1 + 1 + 1 + 1 + 1) m 653 (Int32.ofInt 0) = _
    rw [f_X9_digest_6, if_neg (show ¬ Int32.ofInt 4 ≤ Int32.ofInt 0 by decide), s0, o0, f_X9_digest_6, if_neg (show ¬ Int32.ofInt 4 ≤ Int32.ofInt 1 by decide), s1', o1, f_X9_digest_6, if_neg (show ¬ Int32.ofInt 4 ≤ Int32.ofInt 2 by decide), s2', o2, f_X9_digest_6, if_neg (show ¬ Int32.ofInt 4 ≤ Int32.ofInt 3 by decide), s3', o3, f_X9_digest_6, if_pos (show Int32.ofInt 4 ≤ Int32.ofInt 4 by decide), hH]
    rfl
  have p6 : p_X9_digest m := by
    show p_X9_digest_6 (295 + 1 + 1 + 1 + 1 + 1) m 653 (Int32.ofInt 0)
    rw [p_X9_digest_6]
    refine ⟨fun z => absurd z (by decide), fun _ => ⟨po _, ?_⟩⟩
    rw [s0, p_X9_digest_6]
    refine ⟨fun z => absurd z (by decide), fun _ => ⟨po _, ?_⟩⟩
    rw [s1', p_X9_digest_6]
    refine ⟨fun z => absurd z (by decide), fun _ => ⟨po _, ?_⟩⟩
    rw [s2', p_X9_digest_6]
    refine ⟨fun z => absurd z (by decide), fun _ => ⟨po _, ?_⟩⟩
    rw [s3', p_X9_digest_6]
    exact ⟨fun _ => (C _).2.1, fun z => absurd (by decide) z⟩
  have he : e.1 2 = m.1 23 := hT.1
  refine ⟨⟨pp_howMany s, (C _).1, (F _).1⟩, p6, ?_⟩
  rw [d6]
  refine Eq.trans ?_ (C _).2.2.symm
  unfold f_X8_digest f_X8_mixBoard
  rw [e0, he, h6, q0, q1, q6, q7, q8, q9, ← hH]
  exact (F _).2.2
end
