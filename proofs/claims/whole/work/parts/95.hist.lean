/-! layer 3: what may be undone; copies -/
theorem rr_cg {a a' b b' : Nat → Int32} {N N' : Int32} (ha : ∀ i, i < 20 → a' i = a i) (hb : ∀ i, i < 20 → b' i = b i) (hN : N' = N) (h : RR a b N) : RR a' b' N' := by
  obtain ⟨h1, h2, h3, h4, h5⟩ := h
  refine ⟨by rw [ha 0 (by omega), hb 18 (by omega)]; exact h1, by rw [ha 1 (by omega), hb 19 (by omega)]; exact h2, by rw [ha 2 (by omega), hb 8 (by omega)]; exact h3, ?_, ?_⟩
  · intro nf a1 a2 i hi
    rw [hb 8 (by omega)] at a2
    rw [ha _ (by omega), hb _ (by omega)]
    exact h4 nf a1 a2 i hi
  · intro i q1 q2
    rw [hN] at q1
    rw [ha _ (by omega), hb _ (by omega)]
    exact h5 i q1 q2
def Hist (K : Int32) (t m : Rec) : Prop := ∃ u x : Nat, u ≤ 8 ∧ x < 8 ∧ t.1 1 = Int32.ofNat x ∧ t.1 2 = Int32.ofNat u ∧ m.2 0 6 = Int32.ofNat u ∧ ∀ j, j < u → RR (t.2 (100 + (x + 8 - u + j) % 8)) (fun k => m.2 0 (88 + 20 * j + k)) (m.2 0 2) ∧ OkB K m (m.2 0) (88 + 20 * j)
theorem hist_same {K K' : Int32} {t m m' : Rec} (hK : K ≤ K') (h : ∀ i, (i < 8 ∨ 28 ≤ i) → i < 248 → i ≠ 3 → i ≠ 7 → m'.2 0 i = m.2 0 i) (hH : Hist K t m) : Hist K' t m' := by
  obtain ⟨u, x, h1, h2, h3, h4, h5, h6⟩ := hH
  refine ⟨u, x, h1, h2, h3, h4, by rw [h 6 (by omega) (by omega) (by decide) (by decide)]; exact h5, fun j hj => ?_⟩
  obtain ⟨r1, r2⟩ := h6 j hj
  refine ⟨rr_cg (fun _ _ => rfl) (fun i hi => h _ (by omega) (by omega) (by omega) (by omega)) (h 2 (by omega) (by omega) (by decide) (by decide)) r1, ok_same (fun i hi a1 a2 a3 => h i (by omega) (by omega) a1 a3) (fun k hk => h _ (by omega) (by omega) (by omega) (by omega)) hK r2⟩
theorem hist_0 {K : Int32} {t m : Rec} {x : Nat} (hx : x < 8) (h1 : t.1 1 = Int32.ofNat x) (h2 : t.1 2 = 0) (h6 : m.2 0 6 = 0) : Hist K t m := ⟨0, x, by omega, hx, h1, h2, h6, fun j hj => by omega⟩
theorem keep_sim {K : Int32} {s p t m m1 : Rec} (hH : Hist K t m) (hN : Now K s p m) (h1 : ∀ i, (i < 8 ∨ 28 ≤ i) → i < 248 → m1.2 0 i = m.2 0 i) (h9 : ∀ k, k < 20 → m1.2 9 k = m.2 0 (8 + k)) :
    p_X2_keep t s p ∧ p_X9_remembers m1 ∧ Hist K (f_X2_keep t s p) (f_X9_remembers m1) ∧ (f_X9_remembers m1).1 = m1.1 ∧ (∀ j, j ≠ 0 → (f_X9_remembers m1).2 j = m1.2 j) ∧ (∀ i, i < 88 → i ≠ 6 → (f_X9_remembers m1).2 0 i = m1.2 0 i) := by
  obtain ⟨u, x, hu, hx, e1, e2, e6, hr⟩ := hH
  have psv : ∀ a, p_X3_save s p a := fun a => (now_row a hN (m1 := m) (b := m.2 0) (d := 8) (fun k _ => rfl) (fun i _ _ _ _ => rfl)).2.2
  have n2 : m1.2 0 2 = m.2 0 2 := h1 2 (by omega) (by omega)
  have m16 : m1.2 0 6 = Int32.ofNat u := by rw [h1 6 (by omega) (by omega)]; exact e6
  have xx : ∀ k : Nat, (setG (setG t 1 (Int32.ofNat ((x + 1) % 8))) 2 (Int32.ofNat k)).2 = t.2 := fun k => rfl
  refine ⟨pkt hx e1 psv, ?_⟩
  by_cases c8 : u = 8
  · subst c8
    obtain ⟨r1, r2⟩ := re_8 m16
    rw [r2]
    refine ⟨r1, ?_, rfl, fun j hj => ?_, fun i hi h6 => ?_⟩
    · rw [kpt hx (by omega) e1 e2]
      refine ⟨8, (x + 1) % 8, by omega, by omega, rfl, rfl, ?_, fun j hj => ?_⟩
      · exact m16
      · have nn2 : (setA m1 0 (fun i => if 88 ≤ i ∧ i < 228 then m1.2 0 (i + 20) else if 228 ≤ i ∧ i < 248 then m1.2 9 (i - 228) else m1.2 0 i)).2 0 2 = m.2 0 2 := by
          exact n2
        have lowE : ∀ i, i < 8 ∨ (28 ≤ i ∧ i < 88) → i ≠ 3 → i ≠ 6 → i ≠ 7 → (setA m1 0 (fun i => if 88 ≤ i ∧ i < 228 then m1.2 0 (i + 20) else if 228 ≤ i ∧ i < 248 then m1.2 9 (i - 228) else m1.2 0 i)).2 0 i = m.2 0 i := by
          intro i hi a1 a2 a3
          show (if 88 ≤ i ∧ i < 228 then _ else if 228 ≤ i ∧ i < 248 then _ else m1.2 0 i) = _
          rw [if_neg (by omega), if_neg (by omega)]
          exact h1 i (by omega) (by omega)
        by_cases c7 : j = 7
        · subst c7
          have bb : ∀ k, k < 20 → (setA m1 0 (fun i => if 88 ≤ i ∧ i < 228 then m1.2 0 (i + 20) else if 228 ≤ i ∧ i < 248 then m1.2 9 (i - 228) else m1.2 0 i)).2 0 (88 + 20 * 7 + k) = m.2 0 (8 + k) := by
            intro k hk
            show (if 88 ≤ 88 + 20 * 7 + k ∧ 88 + 20 * 7 + k < 228 then _ else if 228 ≤ 88 + 20 * 7 + k ∧ 88 + 20 * 7 + k < 248 then m1.2 9 (88 + 20 * 7 + k - 228) else _) = _
            rw [if_neg (by omega), if_pos (by omega), show 88 + 20 * 7 + k - 228 = k by omega]
            exact h9 k hk
          obtain ⟨w1, w2, _⟩ := now_row ((fun _ => 0, fun _ => (t.2 (100 + x))) : Rec) hN bb lowE
          refine ⟨?_, w2⟩
          rw [nn2]
          have ei : ((x + 1) % 8 + 8 - 8 + 7) % 8 = x := by omega
          rw [ei]
          have es : ∀ f : Nat → Int32, (setA (setG (setG t 1 (Int32.ofNat ((x + 1) % 8))) 2 (Int32.ofNat (if 8 = 8 then 8 else 8 + 1))) (100 + x) f).2 (100 + x) = f := fun f => by
            show (if 100 + x = 100 + x then f else _) = f
            rw [if_pos rfl]
          rw [es]
          exact w1
        · obtain ⟨q1, q2⟩ := hr (j + 1) (by omega)
          have bb : ∀ k, k < 20 → (setA m1 0 (fun i => if 88 ≤ i ∧ i < 228 then m1.2 0 (i + 20) else if 228 ≤ i ∧ i < 248 then m1.2 9 (i - 228) else m1.2 0 i)).2 0 (88 + 20 * j + k) = m.2 0 (88 + 20 * (j + 1) + k) := by
            intro k hk
            show (if 88 ≤ 88 + 20 * j + k ∧ 88 + 20 * j + k < 228 then m1.2 0 (88 + 20 * j + k + 20) else _) = _
            rw [if_pos (by omega), h1 _ (by omega) (by omega), show 88 + 20 * j + k + 20 = 88 + 20 * (j + 1) + k by omega]
          refine ⟨?_, ok_same lowE bb (Int32.le_refl _) q2⟩
          have ei : ((x + 1) % 8 + 8 - 8 + j) % 8 = (x + 8 - 8 + (j + 1)) % 8 := by omega
          rw [ei]
          refine rr_cg (fun i _ => ?_) (fun i hi => bb i hi) nn2 q1
          show (if 100 + (x + 8 - 8 + (j + 1)) % 8 = 100 + x then _ else t.2 _) i = _
          rw [if_neg (by omega)]
    · show (if j = 0 then _ else m1.2 j) = _
      rw [if_neg hj]
    · show (if 88 ≤ i ∧ i < 228 then _ else if 228 ≤ i ∧ i < 248 then _ else m1.2 0 i) = _
      rw [if_neg (by omega), if_neg (by omega)]
  · obtain ⟨r1, r2⟩ := re_lt (by omega) m16
    rw [r2]
    refine ⟨r1, ?_, rfl, fun j hj => ?_, fun i hi h6 => ?_⟩
    · rw [kpt hx hu e1 e2, if_neg c8]
      refine ⟨u + 1, (x + 1) % 8, by omega, by omega, rfl, rfl, ?_, fun j hj => ?_⟩
      · show (if 88 + 20 * u ≤ 6 ∧ 6 < 88 + 20 * u + 20 then _ else if 6 = 6 then _ else _) = _
        rw [if_neg (by omega), if_pos rfl]
      · have nn2 : (setA m1 0 (fun i => if 88 + 20 * u ≤ i ∧ i < 88 + 20 * u + 20 then m1.2 9 (i - (88 + 20 * u)) else if i = 6 then Int32.ofNat (u + 1) else m1.2 0 i)).2 0 2 = m.2 0 2 := by
          show (if 88 + 20 * u ≤ 2 ∧ 2 < 88 + 20 * u + 20 then _ else if 2 = 6 then _ else m1.2 0 2) = _
          rw [if_neg (by omega), if_neg (by omega)]; exact n2
        have lowE : ∀ i, i < 8 ∨ (28 ≤ i ∧ i < 88) → i ≠ 3 → i ≠ 6 → i ≠ 7 → (setA m1 0 (fun i => if 88 + 20 * u ≤ i ∧ i < 88 + 20 * u + 20 then m1.2 9 (i - (88 + 20 * u)) else if i = 6 then Int32.ofNat (u + 1) else m1.2 0 i)).2 0 i = m.2 0 i := by
          intro i hi a1 a2 a3
          show (if 88 + 20 * u ≤ i ∧ i < 88 + 20 * u + 20 then _ else if i = 6 then _ else m1.2 0 i) = _
          rw [if_neg (by omega), if_neg a2]
          exact h1 i (by omega) (by omega)
        by_cases c7 : j = u
        · subst c7
          have bb : ∀ k, k < 20 → (setA m1 0 (fun i => if 88 + 20 * j ≤ i ∧ i < 88 + 20 * j + 20 then m1.2 9 (i - (88 + 20 * j)) else if i = 6 then Int32.ofNat (j + 1) else m1.2 0 i)).2 0 (88 + 20 * j + k) = m.2 0 (8 + k) := by
            intro k hk
            show (if 88 + 20 * j ≤ 88 + 20 * j + k ∧ 88 + 20 * j + k < 88 + 20 * j + 20 then m1.2 9 (88 + 20 * j + k - (88 + 20 * j)) else _) = _
            rw [if_pos (by omega), show 88 + 20 * j + k - (88 + 20 * j) = k by omega]
            exact h9 k hk
          obtain ⟨w1, w2, _⟩ := now_row ((fun _ => 0, fun _ => (t.2 (100 + x))) : Rec) hN bb lowE
          refine ⟨?_, w2⟩
          rw [nn2]
          have ei : ((x + 1) % 8 + 8 - (j + 1) + j) % 8 = x := by omega
          rw [ei]
          have es : ∀ f : Nat → Int32, (setA (setG (setG t 1 (Int32.ofNat ((x + 1) % 8))) 2 (Int32.ofNat (j + 1))) (100 + x) f).2 (100 + x) = f := fun f => by
            show (if 100 + x = 100 + x then f else _) = f
            rw [if_pos rfl]
          rw [es]
          exact w1
        · obtain ⟨q1, q2⟩ := hr j (by omega)
          have bb : ∀ k, k < 20 → (setA m1 0 (fun i => if 88 + 20 * u ≤ i ∧ i < 88 + 20 * u + 20 then m1.2 9 (i - (88 + 20 * u)) else if i = 6 then Int32.ofNat (u + 1) else m1.2 0 i)).2 0 (88 + 20 * j + k) = m.2 0 (88 + 20 * j + k) := by
            intro k hk
            show (if 88 + 20 * u ≤ 88 + 20 * j + k ∧ 88 + 20 * j + k < 88 + 20 * u + 20 then _ else if 88 + 20 * j + k = 6 then _ else m1.2 0 (88 + 20 * j + k)) = _
            rw [if_neg (by omega), if_neg (by omega), h1 _ (by omega) (by omega)]
          refine ⟨?_, ok_same lowE bb (Int32.le_refl _) q2⟩
          have ei : ((x + 1) % 8 + 8 - (u + 1) + j) % 8 = (x + 8 - u + j) % 8 := by omega
          rw [ei]
          refine rr_cg (fun i _ => ?_) (fun i hi => bb i hi) nn2 q1
          show (if 100 + (x + 8 - u + j) % 8 = 100 + x then _ else t.2 _) i = _
          rw [if_neg (by omega)]
    · show (if j = 0 then _ else m1.2 j) = _
      rw [if_neg hj]
    · show (if 88 + 20 * u ≤ i ∧ i < 88 + 20 * u + 20 then _ else if i = 6 then _ else m1.2 0 i) = _
      rw [if_neg (by omega), if_neg h6]
theorem undo_sim {K : Int32} {s p t m : Rec} (hH : Hist K t m) (hN : Now K s p m) (hz : ¬ t.1 2 = 0) :
    p_X2_goBack t s p ∧ p_X9_undo m ∧ (f_X2_goBack t s p).1 = 1 ∧ (f_X9_undo m).1 = 1 ∧ Now K (f_X2_goBack t s p).2.2.1 (f_X2_goBack t s p).2.2.2 (f_X9_undo m).2 ∧ Hist K (f_X2_goBack t s p).2.1 (f_X9_undo m).2 ∧ (f_X9_undo m).2.1 = m.1 ∧ (∀ j, j ≠ 0 → (f_X9_undo m).2.2 j = m.2 j) ∧ (∀ i, (i < 8 ∨ 28 ≤ i) → i ≠ 6 → (f_X9_undo m).2.2 0 i = m.2 0 i) := by
  obtain ⟨u', x, hu, hx, e1, e2, e6, hr⟩ := hH
  obtain ⟨u, rfl⟩ : ∃ u, u' = u + 1 := by
    cases u' with
    | zero => exact absurd e2 hz
    | succ u => exact ⟨u, rfl⟩
  obtain ⟨r1, r2⟩ := hr u (by omega)
  have ei : (x + 8 - (u + 1) + u) % 8 = (x + 7) % 8 := by omega
  rw [ei] at r1
  obtain ⟨y1, y2⟩ := un_all (by omega) e6
  obtain ⟨g1, a, g2, g3⟩ := gbk (s := s) (p := p) hx e1 e2 (by omega) (fun a ha => (load_sim (a := a) hN (by rw [ha]; exact r1) r2).1)
  obtain ⟨l1, l2⟩ := load_sim (a := a) hN (by rw [g2]; exact r1) r2
  rw [y2, g3]
  refine ⟨g1, y1, rfl, rfl, ?_, ?_, rfl, fun j hj => ?_, fun i hi h6 => ?_⟩
  · refine now_same ?_ (Int32.le_refl _) l2
    intro i a1 a2 a3 a4
    show (if 8 ≤ i ∧ i < 28 then m.2 0 (88 + 20 * u + (i - 8)) else if i = 6 then _ else m.2 0 i) = patch (m.2 0) (m.2 0) (88 + 20 * u) i
    unfold patch
    by_cases z : 8 ≤ i ∧ i < 28
    · rw [if_pos z, if_pos z]
    · rw [if_neg z, if_neg z, if_neg a3]
  · refine ⟨u, (x + 7) % 8, by omega, by omega, rfl, rfl, ?_, fun j hj => ?_⟩
    · rfl
    · obtain ⟨q1, q2⟩ := hr j (by omega)
      have hb : ∀ i, (i < 8 ∨ 28 ≤ i) → i ≠ 6 → (fun i => if 8 ≤ i ∧ i < 28 then m.2 0 (88 + 20 * u + (i - 8)) else if i = 6 then Int32.ofNat u else m.2 0 i) i = m.2 0 i := by
        intro i hi h6
        show (if 8 ≤ i ∧ i < 28 then _ else if i = 6 then _ else m.2 0 i) = _
        rw [if_neg (by omega), if_neg h6]
      refine ⟨?_, ok_same (fun i hi _ a2 _ => hb i (by omega) a2) (fun k hk => hb _ (by omega) (by omega)) (Int32.le_refl _) q2⟩
      have ej : ((x + 7) % 8 + 8 - u + j) % 8 = (x + 8 - (u + 1) + j) % 8 := by omega
      rw [ej]
      exact rr_cg (fun _ _ => rfl) (fun i hi => hb _ (by omega) (by omega)) (hb 2 (by omega) (by decide)) q1
  · show (if j = 0 then _ else m.2 j) = _
    rw [if_neg hj]
  · show (if 8 ≤ i ∧ i < 28 then _ else if i = 6 then _ else m.2 0 i) = _
    rw [if_neg (by omega), if_neg h6]
/-! copies -/
theorem cpy_at {f g : Nat → Int32} {n i : Nat} (h : i < n) : va_cpy f g 0 0 n i = f i := by
  unfold va_cpy
  rw [if_pos (by omega), show 0 + (i - 0) = i by omega]
theorem cps_sim {K : Int32} {s p g : Rec} (s1 p1 : Rec) (hP : PR s p g) (hG : GI K g) : p_X3_copy s1 p1 s p ∧ PR (f_X3_copy s1 p1 s p).1 (f_X3_copy s1 p1 s p).2 g := by
  obtain ⟨hs, he, hM, ⟨h0, h1, h2⟩, ⟨h6, h7, h8, h9⟩, h11⟩ := hP
  obtain ⟨nf, hn, h16, hgeo, hinj⟩ := gi_geo hG
  have at36 : ∀ c : Int32, 0 ≤ c → c < 36 → c.toNatClampNeg < 36 := fun c a b => cl_c36 a b
  have hsg : SG (setA (setA (setA (setA (setA (setA (setG (setG (setG s1 0 (s.1 0)) 1 (s.1 1)) 2 (s.1 2)) 8 (va_cpy (s.2 8) (s1.2 8) 0 0 36)) 9 (va_cpy (s.2 9) (s1.2 9) 0 0 36)) 10 (va_cpy (s.2 10) (s1.2 10) 0 0 36)) 11 (va_cpy (s.2 11) (s1.2 11) 0 0 36)) 12 (va_cpy (s.2 12) (s1.2 12) 0 0 36)) 13 (va_cpy (s.2 13) (s1.2 13) 0 0 9)) g := by
    intro c q0 q1
    have k := at36 c q0 q1
    obtain ⟨a1, a2, a3, a4, a5⟩ := hs c q0 q1
    refine ⟨?_, ?_, ?_, ?_, ?_⟩
    · show va_cpy (s.2 8) (s1.2 8) 0 0 36 c.toNatClampNeg = _
      rw [cpy_at k]; exact a1
    · show va_cpy (s.2 10) (s1.2 10) 0 0 36 c.toNatClampNeg = _
      rw [cpy_at k]; exact a2
    · show va_cpy (s.2 11) (s1.2 11) 0 0 36 c.toNatClampNeg = _
      rw [cpy_at k]; exact a3
    · show va_cpy (s.2 12) (s1.2 12) 0 0 36 c.toNatClampNeg = _
      rw [cpy_at k]; exact a4
    · show va_cpy (s.2 9) (s1.2 9) 0 0 36 c.toNatClampNeg = _
      rw [cpy_at k]; exact a5
  obtain ⟨m0, m1, m2, m3, m4⟩ := mea_all hsg
  refine ⟨⟨⟨fun j hj => ?_, fun j hj => ?_, pp_measure _, trivial⟩, trivial⟩, ?_⟩
  · obtain ⟨c, c0, c1, c2⟩ := cl_of (n := j) (N := 36) hj
    rw [show 0 + j = j by omega, ← c2, (hs c c0 c1).1]
    exact isCell_z g c
  · obtain ⟨c, c0, c1, c2⟩ := cl_of (n := j) (N := 36) hj
    rw [show 0 + j = j by omega, ← c2, (hs c c0 c1).2.2.2.2]
    exact (hgeo c c0 c1).1
  · unfold f_X3_copy f_X4_copy
    dsimp only
    refine ⟨sg_measure hsg, m4, ?_, ⟨by rw [m1]; exact h0, by rw [m2]; exact h1, by rw [m3]; exact h2⟩, ⟨h6, h7, h8, h9⟩, ?_⟩
    · obtain ⟨n0, n8, n2, mm⟩ := hM
      refine ⟨n0, n8, n2, fun v q0 q1 => ?_⟩
      have v8 := cl8 q0 (by have : v < p.1 5 := q1; grind)
      obtain ⟨a1, a2, a3, a4, a5⟩ := mm v q0 q1
      refine ⟨?_, ?_, ?_, ?_, ?_⟩
      · show _ = va_cpy (p.2 1) (p1.2 1) 0 0 8 v.toNatClampNeg
        rw [cpy_at v8]; exact a1
      · show _ = va_cpy (p.2 2) (p1.2 2) 0 0 8 v.toNatClampNeg
        rw [cpy_at v8]; exact a2
      · show _ = va_cpy (p.2 3) (p1.2 3) 0 0 8 v.toNatClampNeg
        rw [cpy_at v8]; exact a3
      · show _ = va_cpy (p.2 4) (p1.2 4) 0 0 8 v.toNatClampNeg
        rw [cpy_at v8]; exact a4
      · show va_cpy (p.2 4) (p1.2 4) 0 0 8 v.toNatClampNeg = -1 ∨ ¬ f_X9_isCell g (va_cpy (p.2 4) (p1.2 4) 0 0 8 v.toNatClampNeg) = 0
        rw [cpy_at v8]; exact a5
    · intro nf2 z1 z2 i hi
      rw [m0]
      show va_cpy (s.2 13) (s1.2 13) 0 0 9 i = _
      rw [cpy_at (by omega)]
      exact h11 nf2 z1 z2 i hi
theorem cpt_step (n j : Nat) (hj : j < 8) (t t2 : Rec) : f_X2_copy_2 (n + 1) t t2 (nI j) = f_X2_copy_2 n (setA t (100 + j) (va_cpy (t2.2 (100 + j)) (t.2 (100 + j)) 0 0 20)) t2 (nI (j + 1)) ∧ (p_X2_copy_2 n (setA t (100 + j) (va_cpy (t2.2 (100 + j)) (t.2 (100 + j)) 0 0 20)) t2 (nI (j + 1)) → p_X2_copy_2 (n + 1) t t2 (nI j)) := by
  have c8 : ¬ Int32.ofInt 8 ≤ nI j := ge20 (N := 8) (by omega) (by omega)
  rw [f_X2_copy_2, p_X2_copy_2, if_neg c8, ni1]
  have : j = 0 ∨ j = 1 ∨ j = 2 ∨ j = 3 ∨ j = 4 ∨ j = 5 ∨ j = 6 ∨ j = 7 := by omega
  rcases this with rfl | rfl | rfl | rfl | rfl | rfl | rfl | rfl
  · refine ⟨by rw [if_pos (show nI 0 = Int32.ofInt 0 by decide)], fun hp => ⟨fun q => absurd q c8, fun _ => ⟨fun _ => hp, fun q => absurd (by decide) q⟩⟩⟩
  · refine ⟨by rw [if_neg (show ¬ nI 1 = Int32.ofInt 0 by decide), if_pos (show nI 1 = Int32.ofInt 1 by decide)], fun hp => ⟨fun q => absurd q c8, fun _ => ⟨fun q => absurd q (by decide), fun _ => ⟨fun _ => hp, fun q => absurd (by decide) q⟩⟩⟩⟩
  · refine ⟨by rw [if_neg (show ¬ nI 2 = Int32.ofInt 0 by decide), if_neg (show ¬ nI 2 = Int32.ofInt 1 by decide), if_pos (show nI 2 = Int32.ofInt 2 by decide)], fun hp => ⟨fun q => absurd q c8, fun _ => ⟨fun q => absurd q (by decide), fun _ => ⟨fun q => absurd q (by decide), fun _ => ⟨fun _ => hp, fun q => absurd (by decide) q⟩⟩⟩⟩⟩
  · refine ⟨by rw [if_neg (show ¬ nI 3 = Int32.ofInt 0 by decide), if_neg (show ¬ nI 3 = Int32.ofInt 1 by decide), if_neg (show ¬ nI 3 = Int32.ofInt 2 by decide), if_pos (show nI 3 = Int32.ofInt 3 by decide)], fun hp => ⟨fun q => absurd q c8, fun _ => ⟨fun q => absurd q (by decide), fun _ => ⟨fun q => absurd q (by decide), fun _ => ⟨fun q => absurd q (by decide), fun _ => ⟨fun _ => hp, fun q => absurd (by decide) q⟩⟩⟩⟩⟩⟩
  · refine ⟨by rw [if_neg (show ¬ nI 4 = Int32.ofInt 0 by decide), if_neg (show ¬ nI 4 = Int32.ofInt 1 by decide), if_neg (show ¬ nI 4 = Int32.ofInt 2 by decide), if_neg (show ¬ nI 4 = Int32.ofInt 3 by decide), if_pos (show nI 4 = Int32.ofInt 4 by decide)], fun hp => ⟨fun q => absurd q c8, fun _ => ⟨fun q => absurd q (by decide), fun _ => ⟨fun q => absurd q (by decide), fun _ => ⟨fun q => absurd q (by decide), fun _ => ⟨fun q => absurd q (by decide), fun _ => ⟨fun _ => hp, fun q => absurd (by decide) q⟩⟩⟩⟩⟩⟩⟩
  · refine ⟨by rw [if_neg (show ¬ nI 5 = Int32.ofInt 0 by decide), if_neg (show ¬ nI 5 = Int32.ofInt 1 by decide), if_neg (show ¬ nI 5 = Int32.ofInt 2 by decide), if_neg (show ¬ nI 5 = Int32.ofInt 3 by decide), if_neg (show ¬ nI 5 = Int32.ofInt 4 by decide), if_pos (show nI 5 = Int32.ofInt 5 by decide)], fun hp => ⟨fun q => absurd q c8, fun _ => ⟨fun q => absurd q (by decide), fun _ => ⟨fun q => absurd q (by decide), fun _ => ⟨fun q => absurd q (by decide), fun _ => ⟨fun q => absurd q (by decide), fun _ => ⟨fun q => absurd q (by decide), fun _ => ⟨fun _ => hp, fun q => absurd (by decide) q⟩⟩⟩⟩⟩⟩⟩⟩
  · refine ⟨by rw [if_neg (show ¬ nI 6 = Int32.ofInt 0 by decide), if_neg (show ¬ nI 6 = Int32.ofInt 1 by decide), if_neg (show ¬ nI 6 = Int32.ofInt 2 by decide), if_neg (show ¬ nI 6 = Int32.ofInt 3 by decide), if_neg (show ¬ nI 6 = Int32.ofInt 4 by decide), if_neg (show ¬ nI 6 = Int32.ofInt 5 by decide), if_pos (show nI 6 = Int32.ofInt 6 by decide)], fun hp => ⟨fun q => absurd q c8, fun _ => ⟨fun q => absurd q (by decide), fun _ => ⟨fun q => absurd q (by decide), fun _ => ⟨fun q => absurd q (by decide), fun _ => ⟨fun q => absurd q (by decide), fun _ => ⟨fun q => absurd q (by decide), fun _ => ⟨fun q => absurd q (by decide), fun _ => ⟨fun _ => hp, fun q => absurd (by decide) q⟩⟩⟩⟩⟩⟩⟩⟩⟩
  · refine ⟨by rw [if_neg (show ¬ nI 7 = Int32.ofInt 0 by decide), if_neg (show ¬ nI 7 = Int32.ofInt 1 by decide), if_neg (show ¬ nI 7 = Int32.ofInt 2 by decide), if_neg (show ¬ nI 7 = Int32.ofInt 3 by decide), if_neg (show ¬ nI 7 = Int32.ofInt 4 by decide), if_neg (show ¬ nI 7 = Int32.ofInt 5 by decide), if_neg (show ¬ nI 7 = Int32.ofInt 6 by decide), if_pos (show nI 7 = Int32.ofInt 7 by decide)], fun hp => ⟨fun q => absurd q c8, fun _ => ⟨fun q => absurd q (by decide), fun _ => ⟨fun q => absurd q (by decide), fun _ => ⟨fun q => absurd q (by decide), fun _ => ⟨fun q => absurd q (by decide), fun _ => ⟨fun q => absurd q (by decide), fun _ => ⟨fun q => absurd q (by decide), fun _ => ⟨fun q => absurd q (by decide), fun _ => ⟨fun _ => hp, fun q => absurd (by decide) q⟩⟩⟩⟩⟩⟩⟩⟩⟩⟩
theorem cpt_loop {t2 : Rec} : ∀ (n j : Nat) (t : Rec), j ≤ 8 → 8 < n + j → (∀ k, k < j → ∀ i, i < 20 → t.2 (100 + k) i = t2.2 (100 + k) i) → p_X2_copy_2 n t t2 (nI j) ∧ (f_X2_copy_2 n t t2 (nI j)).1 1 = t2.1 1 ∧ (f_X2_copy_2 n t t2 (nI j)).1 2 = t2.1 2 ∧ (∀ k, k < 8 → ∀ i, i < 20 → (f_X2_copy_2 n t t2 (nI j)).2 (100 + k) i = t2.2 (100 + k) i) := by
  intro n
  induction n with
  | zero => intro j t h1 h2; omega
  | succ n ih =>
    intro j t h1 h2 hk
    by_cases q : j = 8
    · subst q
      have c1 : Int32.ofInt 8 ≤ nI 8 := le20 (N := 8) (by omega) (by omega)
      rw [f_X2_copy_2, p_X2_copy_2, if_pos c1]
      exact ⟨⟨fun _ => trivial, fun z => absurd c1 z⟩, rfl, rfl, hk⟩
    · obtain ⟨e, pe⟩ := cpt_step n j (by omega) t t2
      rw [e]
      obtain ⟨i1, i2⟩ := ih (j + 1) (setA t (100 + j) (va_cpy (t2.2 (100 + j)) (t.2 (100 + j)) 0 0 20)) (by omega) (by omega) (fun k hk2 i hi => by
        show (if 100 + k = 100 + j then va_cpy (t2.2 (100 + j)) (t.2 (100 + j)) 0 0 20 else t.2 (100 + k)) i = _
        by_cases z : k = j
        · rw [if_pos (by omega), cpy_at hi, z]
        · rw [if_neg (by omega)]
          exact hk k (by omega) i hi)
      exact ⟨pe i1, i2⟩
theorem cpt_all (t t2 : Rec) : p_X2_copy t t2 ∧ (f_X2_copy t t2).1 1 = t2.1 1 ∧ (f_X2_copy t t2).1 2 = t2.1 2 ∧ (∀ k, k < 8 → ∀ i, i < 20 → (f_X2_copy t t2).2 (100 + k) i = t2.2 (100 + k) i) := cpt_loop 40 0 t (by omega) (by omega) (fun k hk => by omega)
theorem hist_cpy {K : Int32} {t m : Rec} (t1 : Rec) (h : Hist K t m) : Hist K (f_X2_copy t1 t) m := by
  obtain ⟨u, x, h1, h2, h3, h4, h5, h6⟩ := h
  obtain ⟨_, a1, a2, a3⟩ := cpt_all t1 t
  refine ⟨u, x, h1, h2, by rw [a1]; exact h3, by rw [a2]; exact h4, h5, fun j hj => ?_⟩
  obtain ⟨r1, r2⟩ := h6 j hj
  exact ⟨rr_cg (fun i hi => a3 _ (by omega) i hi) (fun _ _ => rfl) rfl r1, r2⟩
