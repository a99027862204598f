/-! layer 3: the reference's levels; reach -/
theorem sg_13 {s m : Rec} (f : Nat → Int32) (h : SG s m) : SG s (setA m 13 f) := by
  intro c c0 c1
  obtain ⟨a1, a2, a3, a4, a5⟩ := h c c0 c1
  refine ⟨?_, a2, a3, a4, a5⟩
  rw [a1]
  exact isCell_congr (setA_ne (by decide)).symm c
theorem mn_13 {p m : Rec} (f : Nat → Int32) (h : Mn p m) : Mn p (setA m 13 f) := mn_cg (setA_ne (by decide)) h
theorem tw {s p m : Rec} (hs : SG s m) (hM : Mn p m) {c w : Nat} (hc : c < 36) (hw : w < 4) : f_X9_topAt m (m.2 4 c + f_X9_wayX (nI w)) (m.2 5 c + f_X9_wayY (nI w)) = f_X4_topAt s (s.2 10 c + wXf w) (s.2 11 c + wYf w) ∧ f_X9_rulerAt m (m.2 4 c + f_X9_wayX (nI w)) (m.2 5 c + f_X9_wayY (nI w)) = f_X3_rulerAt s p (s.2 10 c + wXf w) (s.2 11 c + wYf w) := by
  obtain ⟨_, e4, e5, _⟩ := hs (nI c) (nI_pos' (by omega)) (nI_lt (a := c) (b := 36) hc (by omega))
  rw [nI_clamp (by omega)] at e4 e5
  obtain ⟨w1, w2⟩ := way_eq (w := nI w) (nI_pos' (by omega)) (nI_le (a := w) (b := 3) (by omega) (by omega))
  rw [nI_clamp (by omega)] at w1 w2
  rw [← w1, ← w2, ← e4, ← e5, sg_topAt hs, (ru_eq hs hM _ _).2.2]
  exact ⟨rfl, rfl⟩
def Mo (s p m0 m : Rec) (D : Nat → Nat) : Prop := SG s m ∧ Mn p m ∧ (∀ a, a < 36 → m.2 13 a = dv (D a)) ∧ m.1 = m0.1 ∧ ∀ j, j ≠ 13 → m.2 j = m0.2 j
theorem mo_set {s p m0 m : Rec} {D : Nat → Nat} {b v : Nat} {x : Int32} (h : Mo s p m0 m D) (hx : x = dv v) : Mo s p m0 (setA m 13 (upd (m.2 13) b x)) (un D b v) := by
  obtain ⟨h1, h2, h3, h4, h5⟩ := h
  refine ⟨sg_13 _ h1, mn_13 _ h2, fun a ha => ?_, h4, fun j hj => by rw [setA_ne hj]; exact h5 j hj⟩
  rw [setA_at, upd_at]
  by_cases z : a = b
  · rw [if_pos z, z, un_at]; exact hx
  · rw [if_neg z, un_ne D _ z]; exact h3 a ha
def LI (s p m0 m : Rec) (st t c w : Nat) (D : Nat → Nat) : Prop := Mo s p m0 m D ∧ Bf (nbs s p) st t D ∧ (∀ a, a < 36 → D a ≠ 0 → D a < t → Cl (nbs s p) D a) ∧ (∀ a, a < c → a < 36 → D a = t → Cl (nbs s p) D a) ∧ (D c = t → ∀ w', w' < w → ∀ b, b < 36 → nbw s p c w' b → D b ≠ 0 ∧ D b ≤ D c + 1)
theorem r92 {s p m0 : Rec} {st t c N : Nat} {K73 : Rec → Int32 → Int32 → Int32 → Int32 × Rec} {K82 : Rec → Int32 → Int32 → Int32 → Int32 → Int32 × Rec} {G73 : Rec → Int32 → Int32 → Int32 → Prop} {G82 : Rec → Int32 → Int32 → Int32 → Int32 → Prop} {Q : Int32 × Rec → Prop} (hc : c < 36) (ht : 1 ≤ t) (ht9 : t ≤ 9)
    (hk : ∀ D m, LI s p m0 m st t (c + 1) 0 D → G82 m (nI N) (nI (cnt D 36)) (nI t) (nI (c + 1)) ∧ Q (K82 m (nI N) (nI (cnt D 36)) (nI t) (nI (c + 1)))) : ∀ (n w : Nat) (D : Nat → Nat) (m : Rec), w ≤ 4 → 4 < n + w → LI s p m0 m st t c w D →
    p_X9_reach_92 G73 G82 n m (nI N) (nI (cnt D 36)) (nI t) (nI c) (nI w) ∧ Q (f_X9_reach_92 K73 K82 n m (nI N) (nI (cnt D 36)) (nI t) (nI c) (nI w)) := by
  intro n
  induction n with
  | zero => intro w D m h1 h2; omega
  | succ n ih =>
    intro w D m hw hn hL
    obtain ⟨⟨hs, hM, h13, hf1, hf2⟩, hB, hC1, hC2, hC3⟩ := hL
    have hMo : Mo s p m0 m D := ⟨hs, hM, h13, hf1, hf2⟩
    rw [f_X9_reach_92, p_X9_reach_92, ni1, ni1]
    by_cases c4 : w = 4
    · have l4 : Int32.ofInt 4 ≤ nI w := by rw [c4]; decide
      rw [if_pos l4]
      obtain ⟨k1, k2⟩ := hk D m ⟨hMo, hB, hC1, fun a a1 a2 a3 => by
        by_cases z : a = c
        · rw [z] at a3 ⊢
          intro b hb ⟨w', w1, w2⟩
          exact hC3 a3 w' (by omega) b hb w2
        · exact hC2 a (by omega) a2 a3, fun _ w' hw' => by omega⟩
      exact ⟨⟨fun _ => k1, fun z => absurd l4 z⟩, k2⟩
    · have l4 : ¬ Int32.ofInt 4 ≤ nI w := nI_ge (a := w) (b := 4) (by omega) (by omega)
      have vc : vp_in (nI c) 36 := vp_in_nI hc (by omega)
      rw [if_neg l4, nI_clamp (n := c) (by omega), h13 c hc]
      have dle : ∀ a, a < 36 → D a < 1000 := fun a ha => by have := hB.1 a ha; omega
      have et : nI t - Int32.ofInt 1 = dv t := rfl
      rw [et]
      by_cases c1 : D c = t
      · have l1 : dv (D c) = dv t := by rw [c1]
        rw [if_pos l1]
        obtain ⟨e1, e2⟩ := tw hs hM hc (w := w) (by omega)
        have pt := (to_al m (m.2 4 c + f_X9_wayX (nI w)) (m.2 5 c + f_X9_wayY (nI w))).2
        have pr := (ru_eq hs hM (m.2 4 c + f_X9_wayX (nI w)) (m.2 5 c + f_X9_wayY (nI w))).2.1
        have skip : (∀ b, b < 36 → nbw s p c w b → D b ≠ 0 ∧ D b ≤ D c + 1) → p_X9_reach_92 G73 G82 n m (nI N) (nI (cnt D 36)) (nI t) (nI c) (nI (w + 1)) ∧ Q (f_X9_reach_92 K73 K82 n m (nI N) (nI (cnt D 36)) (nI t) (nI c) (nI (w + 1))) := by
          intro hh
          refine ih (w + 1) D m (by omega) (by omega) ⟨hMo, hB, hC1, hC2, fun z w' h1 b h2 h3 => ?_⟩
          by_cases e : w' = w
          · rw [e] at h3; exact hh b h2 h3
          · exact hC3 z w' (by omega) b h2 h3
        by_cases t1 : f_X4_topAt s (s.2 10 c + wXf w) (s.2 11 c + wYf w) = -1
        · have t1' : f_X9_topAt m (m.2 4 c + f_X9_wayX (nI w)) (m.2 5 c + f_X9_wayY (nI w)) = Int32.ofInt (-1) := by rw [e1]; exact t1
          rw [if_pos t1']
          obtain ⟨i1, i2⟩ := skip (fun b hb z => absurd z (nb_nil t1 hb))
          exact ⟨⟨fun z => absurd z l4, fun _ => ⟨vc, fun _ => ⟨vc, vc, pt, fun _ => i1, fun z => absurd t1' z⟩, fun z => absurd l1 z⟩⟩, i2⟩
        · obtain ⟨b, hb, eb⟩ := tp_some hs t1
          have eb' : f_X9_topAt m (m.2 4 c + f_X9_wayX (nI w)) (m.2 5 c + f_X9_wayY (nI w)) = nI b := by rw [e1]; exact eb
          have t1' : ¬ nI b = Int32.ofInt (-1) := by rw [← eb]; exact t1
          have b0 : 0 ≤ nI b := nI_pos' (by omega)
          have vb : vp_in (nI b) 36 := vp_in_nI hb (by omega)
          rw [eb', if_neg t1', if_pos b0]
          unfold f_X9_reach_165 p_X9_reach_165
          rw [nI_clamp (n := b) (by omega), nI_clamp (n := c) (by omega), h13 b hb, e2, ni1, ni1]
          rw [e2] at *
          by_cases t2 : D b = 0
          · have t2' : dv (D b) = Int32.ofInt (-1) := by rw [t2]; exact dv_0
            rw [if_pos t2']
            by_cases t3 : f_X3_rulerAt s p (s.2 10 c + wXf w) (s.2 11 c + wYf w) = Int32.ofInt (-1)
            · rw [if_pos t3, if_pos b0]
              have hn' : nbs s p c b := ⟨w, by omega, eb, t3⟩
              have cD : D c ≠ 0 := by omega
              have cb : c ≠ b := fun e => cD (by rw [e]; exact t2)
              have nB := bf_add hB hc hb t2 cD (by omega) hn'
              have xt : nI t = dv (D c + 1) := by rw [c1]; exact (dv_s t).symm
              have nM := mo_set (b := b) (v := D c + 1) hMo xt
              have ec := cnt_un (v := D c + 1) t2 (by omega) 36 hb
              rw [← ec]
              obtain ⟨i1, i2⟩ := ih (w + 1) (un D b (D c + 1)) _ (by omega) (by omega) ⟨nM, nB, fun a a1 a2 a3 => by
                by_cases z : a = b
                · rw [z, un_at] at a3; omega
                · rw [un_ne D _ z] at a2 a3
                  exact cl_add (hC1 a a1 a2 a3) a2 t2, fun a a1 a2 a3 => by
                by_cases z : a = b
                · rw [z, un_at] at a3; omega
                · rw [un_ne D _ z] at a3
                  exact cl_add (hC2 a a1 a2 a3) (by omega) t2, fun _ w' h1 d h2 h3 => by
                rw [un_ne D _ cb]
                by_cases e : w' = w
                · rw [e] at h3
                  have : nI d = nI b := by rw [← eb]; exact h3.1.symm
                  have : d = b := (nI_eq (by omega) (by omega)).mp this
                  rw [this, un_at]
                  exact ⟨by omega, Nat.le_refl _⟩
                · obtain ⟨u1, u2⟩ := hC3 c1 w' (by omega) d h2 h3
                  rw [un_ne D _ (fun e => u1 (by rw [e]; exact t2))]
                  exact ⟨u1, u2⟩⟩
              exact ⟨⟨fun z => absurd z l4, fun _ => ⟨vc, fun _ => ⟨vc, vc, pt, fun z => absurd z t1', fun _ => ⟨fun _ => ⟨vb, fun _ => ⟨vc, vc, pr, fun _ => ⟨fun _ => ⟨vb, i1⟩, fun z => absurd b0 z⟩, fun z => absurd t3 z⟩, fun z => absurd t2' z⟩, fun z => absurd b0 z⟩⟩, fun z => absurd l1 z⟩⟩, i2⟩
            · rw [if_neg t3]
              obtain ⟨i1, i2⟩ := skip (fun d _ z => absurd z.2 t3)
              exact ⟨⟨fun z => absurd z l4, fun _ => ⟨vc, fun _ => ⟨vc, vc, pt, fun z => absurd z t1', fun _ => ⟨fun _ => ⟨vb, fun _ => ⟨vc, vc, pr, fun z => absurd z t3, fun _ => i1⟩, fun z => absurd t2' z⟩, fun z => absurd b0 z⟩⟩, fun z => absurd l1 z⟩⟩, i2⟩
          · have t2' : ¬ dv (D b) = Int32.ofInt (-1) := dv_n t2 (dle b hb)
            rw [if_neg t2']
            obtain ⟨i1, i2⟩ := skip (fun d hd z => by
              have : nI d = nI b := by rw [← eb]; exact z.1.symm
              have : d = b := (nI_eq (by omega) (by omega)).mp this
              rw [this]
              have := hB.1 b hb
              exact ⟨t2, by omega⟩)
            exact ⟨⟨fun z => absurd z l4, fun _ => ⟨vc, fun _ => ⟨vc, vc, pt, fun z => absurd z t1', fun _ => ⟨fun _ => ⟨vb, fun z => absurd z t2', fun _ => i1⟩, fun z => absurd b0 z⟩⟩, fun z => absurd l1 z⟩⟩, i2⟩
      · have l1 : ¬ dv (D c) = dv t := fun z => c1 ((dv_e (dle c hc) (by omega)).mp z)
        rw [if_neg l1]
        obtain ⟨k1, k2⟩ := hk D m ⟨hMo, hB, hC1, fun a a1 a2 a3 => by
          by_cases z : a = c
          · rw [z] at a3; exact absurd a3 c1
          · exact hC2 a (by omega) a2 a3, fun _ w' hw' => by omega⟩
        exact ⟨⟨fun z => absurd z l4, fun _ => ⟨vc, fun z => absurd z l1, fun _ => k1⟩⟩, k2⟩
theorem r82 {s p m0 : Rec} {st t N : Nat} {K73 : Rec → Int32 → Int32 → Int32 → Int32 × Rec} {G73 : Rec → Int32 → Int32 → Int32 → Prop} {Q : Int32 × Rec → Prop} (ht : 1 ≤ t) (ht9 : t ≤ 9)
    (hk : ∀ D m, LI s p m0 m st t 36 0 D → G73 m (nI N) (nI (cnt D 36)) (nI (t + 1)) ∧ Q (K73 m (nI N) (nI (cnt D 36)) (nI (t + 1)))) : ∀ (n c : Nat) (D : Nat → Nat) (m : Rec), c ≤ 36 → 36 < n + c → LI s p m0 m st t c 0 D →
    p_X9_reach_82 G73 n m (nI N) (nI (cnt D 36)) (nI t) (nI c) ∧ Q (f_X9_reach_82 K73 n m (nI N) (nI (cnt D 36)) (nI t) (nI c)) := by
  intro n
  induction n with
  | zero => intro c D m h1 h2; omega
  | succ n ih =>
    intro c D m hc hn hL
    rw [f_X9_reach_82, p_X9_reach_82, ni1]
    by_cases c1 : c = 36
    · have l1 : Int32.ofInt 36 ≤ nI c := by rw [c1]; decide
      rw [if_pos l1]
      rw [c1] at hL
      obtain ⟨k1, k2⟩ := hk D m hL
      exact ⟨⟨fun _ => k1, fun z => absurd l1 z⟩, k2⟩
    · have l1 : ¬ Int32.ofInt 36 ≤ nI c := nI_ge (a := c) (b := 36) (by omega) (by omega)
      rw [if_neg l1]
      obtain ⟨i1, i2⟩ := r92 (K73 := K73) (K82 := f_X9_reach_82 K73 n) (G73 := G73) (G82 := p_X9_reach_82 G73 n) (Q := Q) (N := N) (by omega) ht ht9 (fun D m h => ih (c + 1) D m (by omega) (by omega) h) 40 0 D m (by omega) (by omega) hL
      exact ⟨⟨fun z => absurd z l1, fun _ => i1⟩, i2⟩
theorem r73 {s p m0 : Rec} {st N : Nat} (hN : N ≤ 9) : ∀ (n t : Nat) (D : Nat → Nat) (m : Rec), 1 ≤ t → t ≤ N + 1 → N + 1 < n + t → Mo s p m0 m D → Bf (nbs s p) st (t - 1) D → (∀ a, a < 36 → D a ≠ 0 → D a < t → Cl (nbs s p) D a) →
    p_X9_reach_73 n m (nI N) (nI (cnt D 36)) (nI t) ∧ ∃ (D' : Nat → Nat) (m' : Rec), f_X9_reach_73 n m (nI N) (nI (cnt D 36)) (nI t) = (nI (cnt D' 36), m') ∧ Fin s p st N D' ∧ m'.1 = m0.1 ∧ ∀ j, j ≠ 13 → m'.2 j = m0.2 j := by
  intro n
  induction n with
  | zero => intro t D m h1 h2 h3; omega
  | succ n ih =>
    intro t D m h1 h2 h3 hM hB hC
    rw [f_X9_reach_73, p_X9_reach_73]
    by_cases c1 : t = N + 1
    · have l1 : nI N < nI t := nI_lt (by omega) (by omega)
      rw [if_pos l1]
      have hB' : Bf (nbs s p) st N D := by
        have : t - 1 = N := by omega
        rw [this] at hB
        exact hB
      exact ⟨⟨fun _ => trivial, fun z => absurd l1 z⟩, D, m, rfl, ⟨hB', fun a a1 a2 a3 => hC a a1 a2 (by omega)⟩, hM.2.2.2.1, hM.2.2.2.2⟩
    · have l1 : ¬ nI N < nI t := nI_nlt (by omega) (by omega)
      rw [if_neg l1]
      obtain ⟨i1, i2⟩ := r82 (s := s) (p := p) (m0 := m0) (st := st) (t := t) (N := N) (K73 := f_X9_reach_73 n) (G73 := p_X9_reach_73 n) (Q := fun x => ∃ (D' : Nat → Nat) (m' : Rec), x = (nI (cnt D' 36), m') ∧ Fin s p st N D' ∧ m'.1 = m0.1 ∧ ∀ j, j ≠ 13 → m'.2 j = m0.2 j) h1 (by omega) (fun D' m' hL => by
        refine ih (t + 1) D' m' (by omega) (by omega) (by omega) hL.1 hL.2.1 (fun a a1 a2 a3 => ?_)
        by_cases z : D' a = t
        · exact hL.2.2.2.1 a a1 a1 z
        · exact hL.2.2.1 a a1 a2 (by omega)) 40 0 D m (by omega) (by omega) ⟨hM, bf_up (by omega) hB, hC, fun a ha => by omega, fun _ w' hw' => by omega⟩
      exact ⟨⟨fun z => absurd z l1, fun _ => i1⟩, i2⟩
theorem r_all {s p L : Rec} (hs : SG s L) (hM : Mn p L) {st N : Nat} (hN : N ≤ 9) {x y : Int32} (hst : st < 36) (ht : f_X4_topAt s x y = nI st) : p_X9_reach_34 40 L x y (nI N) (Int32.ofInt 0) ∧ ∃ (D' : Nat → Nat) (m' : Rec), f_X9_reach_34 40 L x y (nI N) (Int32.ofInt 0) = (nI (cnt D' 36), m') ∧ Fin s p st N D' ∧ m'.1 = L.1 ∧ ∀ j, j ≠ 13 → m'.2 j = L.2 j := by
  have lp : ∀ (n j : Nat) (m : Rec), j ≤ 36 → 36 < n + j → SG s m → Mn p m → (∀ a, a < j → m.2 13 a = -1) → m.1 = L.1 → (∀ j, j ≠ 13 → m.2 j = L.2 j) → p_X9_reach_34 n m x y (nI N) (nI j) ∧ ∃ (D' : Nat → Nat) (m' : Rec), f_X9_reach_34 n m x y (nI N) (nI j) = (nI (cnt D' 36), m') ∧ Fin s p st N D' ∧ m'.1 = L.1 ∧ ∀ j, j ≠ 13 → m'.2 j = L.2 j := by
    intro n
    induction n with
    | zero => intro j m h1 h2; omega
    | succ n ih =>
      intro j m h1 h2 h3 h4 h5 h6 h7
      rw [f_X9_reach_34, p_X9_reach_34]
      have et : f_X9_topAt m x y = nI st := by rw [← sg_topAt h3]; exact ht
      rw [et]
      by_cases c1 : j = 36
      · have l1 : Int32.ofInt 36 ≤ nI j := by rw [c1]; decide
        rw [if_pos l1, nI_clamp (n := st) (by omega)]
        have hm : Mo s p L (setA m 13 (upd (m.2 13) st (Int32.ofInt 0))) (d0 st) := by
          have e : d0 st = un (fun _ => 0) st 1 := by
            funext a
            rfl
          rw [e]
          refine mo_set (v := 1) ⟨h3, h4, fun a ha => ?_, h6, h7⟩ rfl
          rw [h5 a (by omega)]
          rfl
        have ec : (Int32.ofInt 1) = nI (cnt (d0 st) 36) := by rw [cnt_0 hst]; rfl
        obtain ⟨i1, i2⟩ := r73 (s := s) (p := p) (m0 := L) (st := st) hN 40 1 (d0 st) _ (by omega) (by omega) (by omega) hm (bf_0 _) (fun a _ h0 h1 => by omega)
        have e1 : nI 1 = Int32.ofInt 1 := rfl
        rw [← ec, e1] at i1 i2
        exact ⟨⟨fun _ => ⟨(to_al m x y).2, vp_in_nI hst (by omega), i1⟩, fun z => absurd l1 z⟩, i2⟩
      · have l1 : ¬ Int32.ofInt 36 ≤ nI j := nI_ge (a := j) (b := 36) (by omega) (by omega)
        rw [if_neg l1, nI_clamp (n := j) (by omega), ni1]
        obtain ⟨i1, i2⟩ := ih (j + 1) (setA m 13 (upd (m.2 13) j (Int32.ofInt (-1)))) (by omega) (by omega) (sg_13 _ h3) (mn_13 _ h4) (fun a ha => by
          rw [setA_at, upd_at]
          by_cases z : a = j
          · rw [if_pos z]; rfl
          · rw [if_neg z]; exact h5 a (by omega)) h6 (fun i hi => by rw [setA_ne hi]; exact h7 i hi)
        exact ⟨⟨fun z => absurd z l1, fun _ => ⟨vp_in_nI (by omega) (by omega), i1⟩⟩, i2⟩
  exact lp 40 0 L (by omega) (by omega) hs hM (fun a ha => by omega) rfl (fun _ _ => rfl)
section
variable {K : Int32} {c s p t e q s1 p1 s2 p2 t1 t2 m : Rec}
theorem c_reach (o oh h k : Rec) (x y n : Int32) (hK : K < 100000) (hI : Inv K c s p t e q s1 p1 s2 p2 t1 t2 m) : p_X8_reach c s p t e o oh h k q s1 p1 s2 p2 t1 t2 x y n ∧ p_X9_reach m x y n ∧ (f_X8_reach c s p t e o oh h k q s1 p1 s2 p2 t1 t2 x y n).1 = (f_X9_reach m x y n).1 ∧ Inv (K + 1) (f_X8_reach c s p t e o oh h k q s1 p1 s2 p2 t1 t2 x y n).2.1 s p t e q s1 p1 s2 p2 t1 t2 (f_X9_reach m x y n).2 := by
  obtain ⟨hP, hG, hp, hF, hb⟩ := inv_g hI
  have hI0 : Inv K c s p t e q s1 p1 s2 p2 t1 t2 (f_X9_lays m) := by
    refine inv_fr (Int32.le_refl _) hb (hF.2 1 (by decide) (by decide) (by decide) (by decide)) (hF.2 2 (by decide) (by decide) (by decide) (by decide)) (hF.2 22 (by decide) (by decide) (by decide) (by decide)) (hF.1 23 (by decide) (by decide) (by decide)) rfl ?_ hI
    unfold Rf
    rw [hF.2 3 (by decide) (by decide) (by decide) (by decide)]
    exact hI.2.2.2.2.1
  have refL := ref_bad (Int32.ofInt (-2)) hK hI0
  obtain ⟨r1, r2, r3⟩ := ru_eq hP.1 hP.2.2.1 x y
  obtain ⟨L, hL⟩ : ∃ z, z = f_X9_lays m := ⟨_, rfl⟩
  unfold p_X8_reach p_X9_reach f_X8_reach f_X9_reach
  rw [in_0, in_9, in_w, r3]
  rw [← hL] at hP hG hF hb hI0 refL r2 r3 ⊢
  by_cases c1 : f_X8_within n 0 9 = 0
  · have c1' : f_X8_within n (Int32.ofInt 0) (Int32.ofInt 9) = 0 := c1
    rw [if_pos c1']
    by_cases c2 : f_X9_rulerAt L x y = Int32.ofInt (-1)
    · rw [if_pos c2]
      exact ⟨⟨fun _ => trivial, fun z => absurd c1' z⟩, ⟨hp, r2, fun _ => ⟨pp_bad _, trivial⟩, fun z => absurd c2 z⟩, rfl, refL⟩
    · rw [if_neg c2, if_pos c1]
      exact ⟨⟨fun _ => trivial, fun z => absurd c1' z⟩, ⟨hp, r2, fun z => absurd z c2, fun _ => ⟨fun _ => ⟨pp_bad _, trivial⟩, fun z => absurd c1 z⟩⟩, rfl, refL⟩
  · have c1' : ¬ f_X8_within n (Int32.ofInt 0) (Int32.ofInt 9) = 0 := c1
    rw [if_neg c1']
    by_cases c2 : f_X9_rulerAt L x y = Int32.ofInt (-1)
    · rw [if_pos c2, if_pos c2]
      exact ⟨⟨fun z => absurd z c1', fun _ => ⟨r1, fun _ => trivial, fun z => absurd c2 z⟩⟩, ⟨hp, r2, fun _ => ⟨pp_bad _, trivial⟩, fun z => absurd c2 z⟩, rfl, refL⟩
    · rw [if_neg c2, if_neg c2, if_neg c1]
      have nn := wi_n.mp c1
      obtain ⟨N, hN, eN⟩ := nI_of2 (x := n) (M := 9) (n := 9) (by decide) (by have := nn.1; grind) nn.2
      subst eN
      obtain ⟨u1, u2, u3, u4⟩ := ru_some hP.2.2.1 c2
      have tn : ¬ f_X4_topAt s x y = -1 := by
        rw [sg_topAt hP.1]
        intro z
        exact u3.2 (to_none z _)
      obtain ⟨st, hst, est⟩ := tp_some hP.1 tn
      obtain ⟨a1, D, a2, a3⟩ := hf_all hP.1 hP.2.2.1 hN k hst est
      obtain ⟨b1, E, m', b2, b3, b4, b5⟩ := r_all hP.1 hP.2.2.1 hN hst est
      rw [b2]
      refine ⟨⟨fun z => absurd z c1', fun _ => ⟨r1, fun z => absurd z c2, fun _ => ⟨a1, trivial⟩⟩⟩, ⟨hp, r2, fun z => absurd z c2, fun _ => ⟨fun z => absurd z c1, fun _ => b1⟩⟩, ?_, ?_⟩
      · show (f_X7_howFar k s p x y (nI N)).1 = nI (cnt E 36)
        rw [a2, fin_cnt a3 b3]
      · show Inv (K + 1) c s p t e q s1 p1 s2 p2 t1 t2 m'
        refine inv_fr (m := L) (k1 hK) (b5 0 (by decide)) (b5 1 (by decide)) (b5 2 (by decide)) (b5 22 (by decide)) (by rw [b4]) rfl ?_ hI0
        unfold Rf
        rw [b5 3 (by decide)]
        exact hI0.2.2.2.2.1
end
