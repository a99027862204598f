/-! layer 3: a MAN comes -/
theorem now_man {K K' : Int32} {s p p' m m' : Rec} {kd ow ht a : Int32} (hK : K ≤ K') (hN : Now K s p m) (h8 : p.1 5 < 8)
    (hk : 0 ≤ kd ∧ kd ≤ 4) (ho : ow = 0 ∨ ow = 1) (hh : 1 ≤ ht ∧ ht ≤ 9) (ha : ¬ f_X9_isCell m a = 0) (hm : ∀ v, 0 ≤ v → v < p.1 5 → ¬ p.2 4 v.toNatClampNeg = a)
    (bo : ∀ i, i < 88 → i ≠ 2 → i ≠ 6 → i ≠ 28 + 3 * (p.1 5).toNatClampNeg → i ≠ 29 + 3 * (p.1 5).toNatClampNeg → i ≠ 30 + 3 * (p.1 5).toNatClampNeg → i ≠ 8 + (p.1 5).toNatClampNeg → m'.2 0 i = m.2 0 i)
    (b2 : m'.2 0 2 = p.1 5 + 1) (bk : m'.2 0 (28 + 3 * (p.1 5).toNatClampNeg) = kd) (bw : m'.2 0 (29 + 3 * (p.1 5).toNatClampNeg) = ow) (bh : m'.2 0 (30 + 3 * (p.1 5).toNatClampNeg) = ht) (bc : m'.2 0 (8 + (p.1 5).toNatClampNeg) = a)
    (q5 : p'.1 5 = p.1 5 + 1) (qk : ∀ k, k ≠ 5 → p'.1 k = p.1 k) (r1 : p'.2 1 = upd (p.2 1) (p.1 5).toNatClampNeg kd) (r2 : p'.2 2 = upd (p.2 2) (p.1 5).toNatClampNeg ow) (r3 : p'.2 3 = upd (p.2 3) (p.1 5).toNatClampNeg ht) (r4 : p'.2 4 = upd (p.2 4) (p.1 5).toNatClampNeg a) : Now K' s p' m' := by
  obtain ⟨hn, hP, hG⟩ := hN
  obtain ⟨h1, h2, h3, ⟨h4, h5, h6⟩, ⟨h7, h9, h10, h11⟩, h12⟩ := hP
  have hb := hn.b.1
  obtain ⟨n0, n8, n2, mm⟩ := h3
  have N0 := n0
  have N8 := cl8 n0 h8
  have nf := hn
  obtain ⟨nf, f1, f2⟩ := nf
  have f2' : m'.2 0 16 = Int32.ofNat nf := by rw [bo 16 (by omega) (by decide) (by decide) (by omega) (by omega) (by omega) (by omega)]; exact f2
  have hn' : NF m' := ⟨nf, f1, f2'⟩
  have hb' := hn'.b.1
  have hc : ∀ c, f_X9_isCell m' c = f_X9_isCell m c := isCell_cg (fun i hi => bo i (by omega) (by omega) (by omega) (by omega) (by omega) (by omega) (by omega))
  have hcL : ∀ c, f_X9_isCell (f_X9_lays m') c = f_X9_isCell (f_X9_lays m) c := fun c => by rw [hn.c, hn'.c, hc]
  have hr : ∀ c : Int32, 0 ≤ c → c < 36 → rowM (f_X9_lays m') c.toNatClampNeg = rowM (f_X9_lays m) c.toNatClampNeg := fun c z0 z1 => lays_cg f1 f2 f2' hc (fun i hi => bo _ (by omega) (by omega) (by omega) (by omega) (by omega) (by omega) (by omega)) c z0 z1
  have hsg : SG s (f_X9_lays m') := by
    rw [sg_rows]
    intro c z0 z1
    obtain ⟨a1, a2⟩ := sg_rows.mp h1 c z0 z1
    exact ⟨by rw [hcL]; exact a1, by rw [hr c z0 z1]; exact a2⟩
  have bs : ∀ i, i < 88 → i ≠ 2 → i ≠ 6 → i < 8 ∨ (16 ≤ i ∧ i < 28) ∨ 52 ≤ i → (f_X9_lays m').2 0 i = (f_X9_lays m).2 0 i := fun i i1 i2 i3 i4 => by rw [hb, hb']; exact bo i i1 i2 i3 (by omega) (by omega) (by omega) (by omega)
  have mo : ∀ v : Int32, 0 ≤ v → v < p.1 5 → v.toNatClampNeg < (p.1 5).toNatClampNeg := by
    intro v v0 v1
    have z1 := Int32.lt_iff_toInt_lt.mp v1
    have z2 := n32_0.mp v0
    show v.toInt.toNat < (p.1 5).toInt.toNat
    omega
  refine ⟨hn', ⟨hsg, ends_move h1 hsg h2, ?_, ⟨?_, ?_, ?_⟩, ⟨?_, ?_, ?_, ?_⟩, ?_⟩, ?_⟩
  · refine ⟨by rw [q5]; grind, by rw [q5]; grind, ?_, fun v v0 v1 => ?_⟩
    · rw [q5, hb']; exact b2
    · rw [q5] at v1
      have b100 : v < 100 := by grind
      rw [ix28 v0 b100, ix29 v0 b100, ix30 v0 b100, ix8 v0 b100, hb', hcL, hn.c, r1, r2, r3, r4]
      simp only [upd_at]
      by_cases z : v = p.1 5
      · rw [z, if_pos rfl, if_pos rfl, if_pos rfl, if_pos rfl]
        exact ⟨bk, bw, bh, bc, Or.inr ha⟩
      · have v1' : v < p.1 5 := by grind
        have lt := mo v v0 v1'
        have ne : ¬ v.toNatClampNeg = (p.1 5).toNatClampNeg := by omega
        obtain ⟨y1, y2, y3, y4, y5⟩ := mm v v0 v1'
        rw [ix28 v0 b100, hb] at y1
        rw [ix29 v0 b100, hb] at y2
        rw [ix30 v0 b100, hb] at y3
        rw [ix8 v0 b100, hb] at y4
        rw [hn.c] at y5
        rw [if_neg ne, if_neg ne, if_neg ne, if_neg ne, bo _ (by omega) (by omega) (by omega) (by omega) (by omega) (by omega) (by omega), bo _ (by omega) (by omega) (by omega) (by omega) (by omega) (by omega) (by omega), bo _ (by omega) (by omega) (by omega) (by omega) (by omega) (by omega) (by omega), bo _ (by omega) (by omega) (by omega) (by omega) (by omega) (by omega) (by omega)]
        exact ⟨y1, y2, y3, y4, y5⟩
  · rw [bs 0 (by omega) (by decide) (by decide) (by omega)]; exact h4
  · rw [bs 1 (by omega) (by decide) (by decide) (by omega)]; exact h5
  · rw [bs 16 (by omega) (by decide) (by decide) (by omega)]; exact h6
  · rw [qk 6 (by decide), bs 26 (by omega) (by decide) (by decide) (by omega)]; exact h7
  · rw [qk 7 (by decide), bs 27 (by omega) (by decide) (by decide) (by omega)]; exact h9
  · rw [qk 8 (by decide), bs 4 (by omega) (by decide) (by decide) (by omega)]; exact h10
  · rw [qk 9 (by decide), bs 5 (by omega) (by decide) (by decide) (by omega)]; exact h11
  · intro nf2 z1 z2 i hi
    rw [bs 16 (by omega) (by decide) (by decide) (by omega)] at z2
    rw [bs _ (by omega) (by omega) (by omega) (by omega)]
    exact h12 nf2 z1 z2 i hi
  · have n2' : (f_X9_lays m).2 0 2 = p.1 5 := mn2 ⟨n0, n8, n2, mm⟩
    obtain ⟨⟨nf3, g1, g2, g3⟩, gcur, g27, g26, g4, g5, gany, gwh, gm, gd⟩ := hG
    have e3 : nf3 = nf := by
      have z : Int32.ofNat nf3 = Int32.ofNat nf := by rw [← g2, hb, f2]
      have z2 := congrArg Int32.toNatClampNeg z
      rw [cl_nI (by omega), cl_nI (by omega)] at z2
      exact z2
    subst e3
    have lti : ∀ i : Nat, i < 8 → Int32.ofNat i < p.1 5 + 1 → ¬ i = (p.1 5).toNatClampNeg → Int32.ofNat i < p.1 5 ∧ i < (p.1 5).toNatClampNeg := by
      intro i i8 i1 i2
      have i0 : 0 ≤ Int32.ofNat i := by rw [n32_0, Int32.toInt_ofNat_of_lt (by omega)]; omega
      have ne : ¬ Int32.ofNat i = p.1 5 := fun z => i2 (by rw [← z, cl_nI (by omega)])
      have lt : Int32.ofNat i < p.1 5 := by grind
      refine ⟨lt, ?_⟩
      have := mo _ i0 lt
      rw [cl_nI (by omega)] at this
      exact this
    refine ⟨⟨nf3, g1, by rw [hb']; exact f2', fun k hk => ?_⟩, ?_, ?_, ?_, ?_, ?_, ?_, ?_, ?_, ?_⟩
    · rw [bs _ (by omega) (by omega) (by omega) (by omega)]
      exact g3 k hk
    · intro c z0 z1
      rw [hr c z0 z1, gcur c z0 z1]
      exact (lays_cg f1 (by rw [hb]; exact f2) (by rw [hb']; exact f2') hcL (fun i hi => bs _ (by omega) (by omega) (by omega) (by omega)) c z0 z1).symm
    · rw [bs 27 (by omega) (by decide) (by decide) (by omega), bs 16 (by omega) (by decide) (by decide) (by omega)]; exact g27
    · rw [bs 26 (by omega) (by decide) (by decide) (by omega)]; exact ⟨g26.1, by grind⟩
    · rw [bs 4 (by omega) (by decide) (by decide) (by omega)]; exact g4
    · rw [bs 5 (by omega) (by decide) (by decide) (by omega)]; exact g5
    · rw [bs 27 (by omega) (by decide) (by decide) (by omega), any_cg hcL hr]; exact gany
    · rw [bs 0 (by omega) (by decide) (by decide) (by omega), bs 1 (by omega) (by decide) (by decide) (by omega)]; exact gwh
    · intro i i1 i8
      rw [hb', b2] at i1
      rw [hb']
      by_cases z : i = (p.1 5).toNatClampNeg
      · rw [z, bk, bw, bh]
        exact ⟨hk, ho, hh⟩
      · obtain ⟨l1, l2⟩ := lti i i8 i1 z
        rw [bo _ (by omega) (by omega) (by omega) (by omega) (by omega) (by omega) (by omega), bo _ (by omega) (by omega) (by omega) (by omega) (by omega) (by omega) (by omega), bo _ (by omega) (by omega) (by omega) (by omega) (by omega) (by omega) (by omega)]
        have := gm i (by rw [n2']; exact l1) i8
        rw [hb] at this
        exact this
    · intro i j i1 i8 ji e
      rw [hb', b2] at i1
      rw [hb'] at e ⊢
      by_cases z : i = (p.1 5).toNatClampNeg
      · exfalso
        rw [z, bc, bo _ (by omega) (by omega) (by omega) (by omega) (by omega) (by omega) (by omega)] at e
        have j0 : 0 ≤ Int32.ofNat j := by rw [n32_0, Int32.toInt_ofNat_of_lt (by omega)]; omega
        have j1 : Int32.ofNat j < p.1 5 := by
          rw [Int32.lt_iff_toInt_lt, Int32.toInt_ofNat_of_lt (by omega)]
          have : (p.1 5).toNatClampNeg = (p.1 5).toInt.toNat := rfl
          have := n32_0.mp n0
          omega
        have y4 := (mm _ j0 j1).2.2.2.1
        rw [ix8 j0 (by grind), hb, cl_nI (by omega)] at y4
        have := hm _ j0 j1
        rw [cl_nI (by omega), ← y4] at this
        exact this e
      · obtain ⟨l1, l2⟩ := lti i i8 i1 z
        rw [bo _ (by omega) (by omega) (by omega) (by omega) (by omega) (by omega) (by omega)] at e ⊢
        rw [bo _ (by omega) (by omega) (by omega) (by omega) (by omega) (by omega) (by omega)] at e
        have := gd i j (by rw [n2']; exact l1) i8 ji
        rw [hb] at this
        exact this e
section
variable {K : Int32} {c s p t e q s1 p1 s2 p2 t1 t2 m : Rec}
theorem c_man (o oh h k : Rec) (kd ow ht a : Int32) (hK : K < 100000) (hI : Inv K c s p t e q s1 p1 s2 p2 t1 t2 m) : p_X8_man c s p t e o oh h k q s1 p1 s2 p2 t1 t2 kd ow ht a ∧ p_X9_man m kd ow ht a ∧ (f_X8_man c s p t e o oh h k q s1 p1 s2 p2 t1 t2 kd ow ht a).1 = (f_X9_man m kd ow ht a).1 ∧ Inv (K + 1) (f_X8_man c s p t e o oh h k q s1 p1 s2 p2 t1 t2 kd ow ht a).2.1 s (f_X8_man c s p t e o oh h k q s1 p1 s2 p2 t1 t2 kd ow ht a).2.2.1 (f_X8_man c s p t e o oh h k q s1 p1 s2 p2 t1 t2 kd ow ht a).2.2.2 e q s1 p1 s2 p2 t1 t2 (f_X9_man m kd ow ht a).2 := by
  have hM := inv_mn hI
  have hS := hI.1
  obtain ⟨hN, hH, hB⟩ := hS
  have pb := pp_bad m
  have n2 := mn2 hM
  have k2 : m.2 0 (Int32.toNatClampNeg (Int32.ofInt 2)) = p.1 5 := n2
  unfold p_X8_man p_X9_man f_X8_man f_X9_man f_X8_man_33 p_X8_man_33
  rw [in_0, in_1, in_4, in_9, in_w, in_w, in_w, inv_c hI, k2]
  have e0 : Int32.ofInt 0 = 0 := rfl
  have e1 : Int32.ofInt 1 = 1 := rfl
  have e4 : Int32.ofInt 4 = 4 := rfl
  have e9 : Int32.ofInt 9 = 9 := rfl
  have e8 : Int32.ofInt 8 = 8 := rfl
  rw [e0, e1, e4, e9, e8]
  have zz : (0 : Int32) = 0 := rfl
  have n10 : ¬ (1 : Int32) = 0 := by decide
  by_cases c1 : f_X8_within kd 0 4 = 0
  · simp only [if_pos c1, if_true]
    exact ⟨⟨fun _ => ⟨fun _ => trivial, fun z => absurd trivial z⟩, fun z => absurd c1 z⟩, ⟨fun _ => ⟨pb, trivial⟩, fun z => absurd c1 z⟩, rfl, ref_bad _ hK hI⟩
  · simp only [if_neg c1]
    by_cases c2 : f_X8_within ow 0 1 = 0
    · simp only [if_pos c2, if_true]
      exact ⟨⟨fun z => absurd z c1, fun _ => ⟨fun _ => ⟨fun _ => trivial, fun z => absurd trivial z⟩, fun z => absurd c2 z⟩⟩, ⟨fun z => absurd z c1, fun _ => ⟨fun _ => ⟨pb, trivial⟩, fun z => absurd c2 z⟩⟩, rfl, ref_bad _ hK hI⟩
    · simp only [if_neg c2]
      by_cases c3 : f_X8_within ht 1 9 = 0
      · simp only [if_pos c3, if_true]
        exact ⟨⟨fun z => absurd z c1, fun _ => ⟨fun z => absurd z c2, fun _ => ⟨fun _ => ⟨fun _ => trivial, fun z => absurd trivial z⟩, fun z => absurd c3 z⟩⟩⟩, ⟨fun z => absurd z c1, fun _ => ⟨fun z => absurd z c2, fun _ => ⟨fun _ => ⟨pb, trivial⟩, fun z => absurd c3 z⟩⟩⟩, rfl, ref_bad _ hK hI⟩
      · simp only [if_neg c3, if_neg n10]
        by_cases c4 : f_X9_isCell m a = 0
        · simp only [if_pos c4]
          exact ⟨⟨fun z => absurd z c1, fun _ => ⟨fun z => absurd z c2, fun _ => ⟨fun z => absurd z c3, fun _ => ⟨fun z => absurd z n10, fun _ => ⟨pl_has .., fun _ => trivial, fun z => absurd c4 z⟩⟩⟩⟩⟩, ⟨fun z => absurd z c1, fun _ => ⟨fun z => absurd z c2, fun _ => ⟨fun z => absurd z c3, fun _ => ⟨pl_isCell .., fun _ => ⟨pb, trivial⟩, fun z => absurd c4 z⟩⟩⟩⟩, rfl, ref_bad _ hK hI⟩
        · have ia := isCell_in c4
          have mo := mo_im s hM ia.1
          have pmo := (mo_all s hM a).1
          have pim := (im_all hM a).1
          simp only [if_neg c4]
          by_cases c5 : f_X9_isManOn m a = 0
          · have c5' : f_X3_manOn s p a = Int32.ofInt (-1) := mo.mpr c5
            simp only [if_pos c5, if_pos c5']
            by_cases c6 : p.1 5 < 8
            · have c6' : ¬ p.1 5 = 8 := by grind
              have n0 := hM.1
              have N8 := cl8 n0 c6
              have v8 := vinb (n := 8) n0 c6
              have b100 : p.1 5 < 100 := by grind
              have i28 := ix28 n0 b100
              have i29 := ix29 n0 b100
              have i30 := ix30 n0 b100
              have i8 := ix8 n0 b100
              rw [e8] at i8
              rw [e1] at i29
              simp only [if_pos c6, if_neg c6']
              refine ⟨⟨fun z => absurd z c1, fun _ => ⟨fun z => absurd z c2, fun _ => ⟨fun z => absurd z c3, fun _ => ⟨fun z => absurd z n10, fun _ => ⟨pl_has .., fun z => absurd z c4, fun _ => ⟨pmo, fun _ => ⟨fun _ => ⟨⟨fun _ => ⟨v8, v8, v8, v8, trivial⟩, fun _ => trivial⟩, trivial⟩, fun z => absurd c6 z⟩, fun z => absurd c5' z⟩⟩⟩⟩⟩⟩, ⟨fun z => absurd z c1, fun _ => ⟨fun z => absurd z c2, fun _ => ⟨fun z => absurd z c3, fun _ => ⟨pl_isCell .., fun z => absurd z c4, fun _ => ⟨pim, fun _ => ⟨fun z => absurd z c6', fun _ => ⟨vinb (n := 248) (by grind) (by grind), vinb (n := 248) (by grind) (by grind), vinb (n := 248) (by grind) (by grind), vinb (n := 248) (by grind) (by grind), trivial⟩⟩, fun z => absurd c5 z⟩⟩⟩⟩⟩, ?_, ?_⟩
              · unfold f_X3_enter
                rw [e8, if_pos c6]
                show p.1 5 + 1 - 1 = p.1 5
                grind
              · have hen : (f_X3_enter s p kd ow ht a).2 = setA (setA (setA (setA (setG p 5 (p.1 5 + 1)) 1 (upd (p.2 1) (p.1 5).toNatClampNeg kd)) 2 (upd (p.2 2) (p.1 5).toNatClampNeg ow)) 3 (upd (p.2 3) (p.1 5).toNatClampNeg ht)) 4 (upd (p.2 4) (p.1 5).toNatClampNeg a) := by
                  unfold f_X3_enter
                  rw [e8, if_pos c6]
                  rfl
                rw [hen, i28, i29, i30, i8]
                have k2' : Int32.toNatClampNeg (Int32.ofInt 2) = 2 := rfl
                have k6' : Int32.toNatClampNeg (Int32.ofInt 6) = 6 := rfl
                rw [k2', k6']
                obtain ⟨m', hm'⟩ : ∃ m', m' = setA m 0 (upd (upd (upd (upd (upd (upd (m.2 0) (28 + 3 * (p.1 5).toNatClampNeg) kd) (29 + 3 * (p.1 5).toNatClampNeg) ow) (30 + 3 * (p.1 5).toNatClampNeg) ht) (8 + (p.1 5).toNatClampNeg) a) 2 (upd (upd (upd (upd (m.2 0) (28 + 3 * (p.1 5).toNatClampNeg) kd) (29 + 3 * (p.1 5).toNatClampNeg) ow) (30 + 3 * (p.1 5).toNatClampNeg) ht) (8 + (p.1 5).toNatClampNeg) a 2 + 1)) 6 0) := ⟨_, rfl⟩
                rw [← hm']
                generalize hNn : (p.1 5).toNatClampNeg = N at *
                have val : ∀ i, m'.2 0 i = if i = 6 then 0 else if i = 2 then m.2 0 2 + 1 else if i = 8 + N then a else if i = 30 + 3 * N then ht else if i = 29 + 3 * N then ow else if i = 28 + 3 * N then kd else m.2 0 i := by
                  intro i
                  rw [hm']
                  show upd (upd (upd (upd (upd (upd (m.2 0) (28 + 3 * N) kd) (29 + 3 * N) ow) (30 + 3 * N) ht) (8 + N) a) 2 (upd (upd (upd (upd (m.2 0) (28 + 3 * N) kd) (29 + 3 * N) ow) (30 + 3 * N) ht) (8 + N) a 2 + 1)) 6 0 i = _
                  have z2 : upd (upd (upd (upd (m.2 0) (28 + 3 * N) kd) (29 + 3 * N) ow) (30 + 3 * N) ht) (8 + N) a 2 = m.2 0 2 := by
                    rw [upd_at, if_neg (by omega), upd_at, if_neg (by omega), upd_at, if_neg (by omega), upd_at, if_neg (by omega)]
                  rw [z2, upd_at, upd_at, upd_at, upd_at, upd_at, upd_at]
                refine inv_st (m := m) (k1 hK) ⟨now_man (kd := kd) (ow := ow) (ht := ht) (a := a) (k1 hK) hN c6 (wi_n.mp c1) ?_ (wi_n.mp c3) c4 ((im_all hM a).2.2.mp c5) ?_ ?_ ?_ ?_ ?_ ?_ rfl ?_ ?_ ?_ ?_ ?_, hist_f hH ?_, ?_⟩ ?_ ?_ ?_ ?_ ?_ hI.2.2.2.2.2 hI
                · have := wi_n.mp c2
                  grind
                · rw [hNn]
                  intro i i1 i2 i3 i4 i5 i6 i7
                  rw [val, if_neg i3, if_neg i2, if_neg i7, if_neg i6, if_neg i5, if_neg i4]
                · rw [val, if_neg (by omega), if_pos rfl, n2]
                · rw [hNn, val, if_neg (by omega), if_neg (by omega), if_neg (by omega), if_neg (by omega), if_neg (by omega), if_pos rfl]
                · rw [hNn, val, if_neg (by omega), if_neg (by omega), if_neg (by omega), if_neg (by omega), if_pos rfl]
                · rw [hNn, val, if_neg (by omega), if_neg (by omega), if_neg (by omega), if_pos rfl]
                · rw [hNn, val, if_neg (by omega), if_neg (by omega), if_pos rfl]
                · intro k hk
                  show (if k = 5 then _ else p.1 k) = _
                  rw [if_neg hk]
                · rw [hNn]; rfl
                · rw [hNn]; rfl
                · rw [hNn]; rfl
                · rw [hNn]; rfl
                · rw [val, if_pos rfl]
                · intro i hi
                  rw [val, if_neg (by omega), if_neg (by omega), if_neg (by omega), if_neg (by omega), if_neg (by omega), if_neg (by omega)]
                  exact hB i hi
                · rw [hm']; rfl
                · rw [hm']; rfl
                · rw [hm']; rfl
                · rw [hm']; rfl
                · rw [hm']; rfl
            · have c6' : p.1 5 = 8 := by have := hM.2.1; grind
              simp only [if_neg c6, if_pos c6']
              exact ⟨⟨fun z => absurd z c1, fun _ => ⟨fun z => absurd z c2, fun _ => ⟨fun z => absurd z c3, fun _ => ⟨fun z => absurd z n10, fun _ => ⟨pl_has .., fun z => absurd z c4, fun _ => ⟨pmo, fun _ => ⟨fun z => absurd z c6, fun _ => trivial⟩, fun z => absurd c5' z⟩⟩⟩⟩⟩⟩, ⟨fun z => absurd z c1, fun _ => ⟨fun z => absurd z c2, fun _ => ⟨fun z => absurd z c3, fun _ => ⟨pl_isCell .., fun z => absurd z c4, fun _ => ⟨pim, fun _ => ⟨fun _ => ⟨pp_full m, trivial⟩, fun z => absurd c6' z⟩, fun z => absurd c5 z⟩⟩⟩⟩⟩, rfl, ref_full _ hK hI⟩
          · have c5' : ¬ f_X3_manOn s p a = Int32.ofInt (-1) := fun z => c5 (mo.mp z)
            simp only [if_neg c5, if_neg c5']
            exact ⟨⟨fun z => absurd z c1, fun _ => ⟨fun z => absurd z c2, fun _ => ⟨fun z => absurd z c3, fun _ => ⟨fun z => absurd z n10, fun _ => ⟨pl_has .., fun z => absurd z c4, fun _ => ⟨pmo, fun z => absurd z c5', fun _ => trivial⟩⟩⟩⟩⟩⟩, ⟨fun z => absurd z c1, fun _ => ⟨fun z => absurd z c2, fun _ => ⟨fun z => absurd z c3, fun _ => ⟨pl_isCell .., fun z => absurd z c4, fun _ => ⟨pim, fun z => absurd z c5, fun _ => ⟨pb, trivial⟩⟩⟩⟩⟩⟩, rfl, ref_bad _ hK hI⟩
end
