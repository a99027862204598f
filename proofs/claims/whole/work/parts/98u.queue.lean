/-! layer 3: the class's queue -/
def nbw (s p : Rec) (a w b : Nat) : Prop := f_X4_topAt s (s.2 10 a + wXf w) (s.2 11 a + wYf w) = nI b ∧ f_X3_rulerAt s p (s.2 10 a + wXf w) (s.2 11 a + wYf w) = -1
def nbs (s p : Rec) (a b : Nat) : Prop := ∃ w, w < 4 ∧ nbw s p a w b
def KR (k : Rec) (D Q : Nat → Nat) (sz : Nat) : Prop := (∀ a, a < 36 → k.2 0 a = dv (D a)) ∧ (∀ j, j < sz → k.2 1 j = nI (Q j))
theorem tp_some {s g : Rec} (hs : SG s g) {x y : Int32} (h : ¬ f_X4_topAt s x y = -1) : ∃ b : Nat, b < 36 ∧ f_X4_topAt s x y = nI b := by
  rw [sg_topAt hs] at h ⊢
  obtain ⟨r0, r1, _⟩ := to_some h
  have b := cl_c36 r0 r1
  exact ⟨_, b, (Int32.ofNat_toNatClampNeg _ r0).symm⟩
theorem nb_nil {s p : Rec} {c w : Nat} (h : f_X4_topAt s (s.2 10 c + wXf w) (s.2 11 c + wYf w) = -1) {b : Nat} (hb : b < 36) : ¬ nbw s p c w b := by
  intro z
  have e := z.1
  rw [h] at e
  have := nI_pos' (n := b) (by omega)
  rw [← e] at this
  exact absurd this (by decide)
theorem spq_loop {s p g : Rec} (hs : SG s g) (hM : Mn p g) {st N i c : Nat} (hN : N ≤ 9) : ∀ (n w sz : Nat) (D Q : Nat → Nat) (k : Rec), w ≤ 4 → 4 < n + w → Bf (nbs s p) st N D → QI (nbs s p) N D Q sz i → KR k D Q sz → i < sz → Q i = c → D c ≤ N → (∀ w', w' < w → ∀ b, b < 36 → nbw s p c w' b → D b ≠ 0 ∧ D b ≤ D c + 1) →
    p_X7_spread_6 n k s p (nI c) (nI sz) (nI w) ∧ ∃ (D' Q' : Nat → Nat) (sz' : Nat) (k' : Rec), f_X7_spread_6 n k s p (nI c) (nI sz) (nI w) = (nI sz', k') ∧ Bf (nbs s p) st N D' ∧ QI (nbs s p) N D' Q' sz' i ∧ KR k' D' Q' sz' ∧ i < sz' ∧ Q' i = c ∧ Cl (nbs s p) D' c := by
  intro n
  induction n with
  | zero => intro w sz D Q k h1 h2; omega
  | succ n ih =>
    intro w sz D Q k hw hn hB hQ hK hi hc hD hW
    have hQ' := hQ
    obtain ⟨q1, q2, q3, q4, q5, q6, q7⟩ := hQ
    have c36 : c < 36 := by rw [← hc]; exact (q3 i hi).1
    have cD : D c ≠ 0 := by rw [← hc]; exact (q3 i hi).2
    have szle : sz ≤ 36 := by rw [q2]; exact cnt_le D 36
    rw [f_X7_spread_6, p_X7_spread_6]
    by_cases c4 : w = 4
    · have l4 : Int32.ofInt 4 ≤ nI w := by rw [c4]; decide
      rw [if_pos l4]
      refine ⟨⟨fun _ => trivial, fun z => absurd l4 z⟩, D, Q, sz, k, rfl, hB, hQ', hK, hi, hc, ?_⟩
      intro b hb ⟨w', w1, w2⟩
      exact hW w' (by omega) b hb w2
    · have l4 : ¬ Int32.ofInt 4 ≤ nI w := nI_ge (a := w) (b := 4) (by omega) (by omega)
      have vc : vp_in (nI c) 36 := vp_in_nI c36 (by omega)
      have vw : vp_in (nI w) 4 := vp_in_nI (by omega) (by omega)
      rw [if_neg l4, nI_clamp (n := c) (by omega), nI_clamp (n := w) (by omega), ni1]
      have pt := pt_top s (s.2 10 c + wXf w) (s.2 11 c + wYf w)
      have pr := (ru_eq hs hM (s.2 10 c + wXf w) (s.2 11 c + wYf w)).1
      have skip : (∀ b, b < 36 → nbw s p c w b → D b ≠ 0 ∧ D b ≤ D c + 1) → p_X7_spread_6 n k s p (nI c) (nI sz) (nI (w + 1)) ∧ ∃ (D' Q' : Nat → Nat) (sz' : Nat) (k' : Rec), f_X7_spread_6 n k s p (nI c) (nI sz) (nI (w + 1)) = (nI sz', k') ∧ Bf (nbs s p) st N D' ∧ QI (nbs s p) N D' Q' sz' i ∧ KR k' D' Q' sz' ∧ i < sz' ∧ Q' i = c ∧ Cl (nbs s p) D' c := by
        intro hh
        refine ih (w + 1) sz D Q k (by omega) (by omega) hB hQ' hK hi hc hD (fun w' h1 b h2 h3 => ?_)
        by_cases e : w' = w
        · rw [e] at h3; exact hh b h2 h3
        · exact hW w' (by omega) b h2 h3
      by_cases t1 : f_X4_topAt s (s.2 10 c + wXf w) (s.2 11 c + wYf w) = Int32.ofInt (-1)
      · rw [if_pos t1]
        obtain ⟨i1, i2⟩ := skip (fun b hb z => absurd z (nb_nil t1 hb))
        exact ⟨⟨fun z => absurd z l4, fun _ => ⟨vc, vw, vc, vw, pt, fun _ => i1, fun z => absurd t1 z⟩⟩, i2⟩
      · rw [if_neg t1]
        obtain ⟨b, hb, eb⟩ := tp_some hs (x := s.2 10 c + wXf w) (y := s.2 11 c + wYf w) t1
        have vb : vp_in (nI b) 36 := vp_in_nI hb (by omega)
        rw [eb, nI_clamp (n := b) (by omega), hK.1 b hb]
        rw [eb] at t1
        by_cases t2 : D b = 0
        · have t2' : dv (D b) = Int32.ofInt (-1) := by rw [t2]; exact dv_0
          have szlt : sz < 36 := by rw [q2]; exact cnt_lt t2 36 hb
          have l36 : ¬ Int32.ofInt 36 ≤ nI sz := nI_ge (a := sz) (b := 36) szlt (by omega)
          have vz : vp_in (nI sz) 36 := vp_in_nI szlt (by omega)
          rw [if_pos t2', if_neg l36]
          by_cases t3 : f_X3_rulerAt s p (s.2 10 c + wXf w) (s.2 11 c + wYf w) = Int32.ofInt (-1)
          · rw [if_pos t3, nI_clamp (n := sz) (by omega), ni1]
            have hn' : nbs s p c b := ⟨w, by omega, eb, t3⟩
            have nB := bf_add hB c36 hb t2 cD hD hn'
            have nQ := qi_add hQ' hi hb t2
            rw [hc] at nQ
            have cb : c ≠ b := fun e => cD (by rw [e]; exact t2)
            obtain ⟨i1, i2⟩ := ih (w + 1) (sz + 1) (un D b (D c + 1)) (un Q sz b) (setA (setA k 0 (upd (k.2 0) b (k.2 0 c + Int32.ofInt 1))) 1 (upd (k.2 1) sz (nI b))) (by omega) (by omega) nB nQ (by
              refine ⟨fun a ha => ?_, fun j hj => ?_⟩
              · show upd (k.2 0) b (k.2 0 c + Int32.ofInt 1) a = _
                rw [upd_at]
                by_cases z : a = b
                · rw [if_pos z, z, un_at, hK.1 c c36]
                  exact dv_p _
                · rw [if_neg z, un_ne D _ z]; exact hK.1 a ha
              · show upd (k.2 1) sz (nI b) j = _
                rw [upd_at]
                by_cases z : j = sz
                · rw [if_pos z, z, un_at]
                · rw [if_neg z, un_ne Q _ z]; exact hK.2 j (by omega)) (by omega) (by rw [un_ne Q _ (by omega)]; exact hc) (by rw [un_ne D _ cb]; exact hD) (by
              intro w' h1 d h2 h3
              rw [un_ne D _ cb]
              by_cases e : w' = w
              · rw [e] at h3
                have : nI d = nI b := by rw [← eb]; exact h3.1.symm
                have : d = b := (nI_eq (by omega) (by omega)).mp this
                rw [this, un_at]
                exact ⟨by omega, Nat.le_refl _⟩
              · obtain ⟨u1, u2⟩ := hW w' (by omega) d h2 h3
                rw [un_ne D _ (fun e => u1 (by rw [e]; exact t2))]
                exact ⟨u1, u2⟩)
            exact ⟨⟨fun z => absurd z l4, fun _ => ⟨vc, vw, vc, vw, pt, fun z => absurd z t1, fun _ => ⟨vb, fun _ => ⟨fun z => absurd z l36, fun _ => ⟨pr, fun _ => ⟨vc, vb, vz, i1⟩, fun z => absurd t3 z⟩⟩, fun z => absurd t2' z⟩⟩⟩, i2⟩
          · rw [if_neg t3]
            obtain ⟨i1, i2⟩ := skip (fun d _ z => absurd z.2 t3)
            exact ⟨⟨fun z => absurd z l4, fun _ => ⟨vc, vw, vc, vw, pt, fun z => absurd z t1, fun _ => ⟨vb, fun _ => ⟨fun z => absurd z l36, fun _ => ⟨pr, fun z => absurd z t3, fun _ => i1⟩⟩, fun z => absurd t2' z⟩⟩⟩, i2⟩
        · have t2' : ¬ dv (D b) = Int32.ofInt (-1) := dv_n t2 (by have := hB.1 b hb; omega)
          rw [if_neg t2']
          obtain ⟨i1, i2⟩ := skip (fun d hd z => by
            have : nI d = nI b := by rw [← eb]; exact z.1.symm
            have : d = b := (nI_eq (by omega) (by omega)).mp this
            rw [this]
            obtain ⟨j, j1, j2⟩ := q4 b hb t2
            have := q6 hi j j1
            rw [j2, hc] at this
            exact ⟨t2, this⟩)
          exact ⟨⟨fun z => absurd z l4, fun _ => ⟨vc, vw, vc, vw, pt, fun z => absurd z t1, fun _ => ⟨vb, fun z => absurd z t2', fun _ => i1⟩⟩⟩, i2⟩
/-- what either side's distances are at the end -/
def Fin (s p : Rec) (st N : Nat) (D : Nat → Nat) : Prop := Bf (nbs s p) st N D ∧ ∀ a, a < 36 → D a ≠ 0 → D a ≤ N → Cl (nbs s p) D a
theorem fin_cnt {s p : Rec} {st N : Nat} {D E : Nat → Nat} (h1 : Fin s p st N D) (h2 : Fin s p st N E) : cnt D 36 = cnt E 36 := by
  refine cnt_cg 36 (fun a ha => ?_)
  have o := bf_one h1.1 h2.1 h1.2 h2.2
  have d1 := h1.1.1 a ha
  have d2 := h2.1.1 a ha
  constructor
  · intro z
    by_cases y : E a = 0
    · exact y
    · have := (o (E a) (by omega) (by omega) a ha).mpr rfl
      omega
  · intro z
    by_cases y : D a = 0
    · exact y
    · have := (o (D a) (by omega) (by omega) a ha).mp rfl
      omega
theorem hf_loop {s p g : Rec} (hs : SG s g) (hM : Mn p g) {st N : Nat} (hN : N ≤ 9) : ∀ (n i sz : Nat) (D Q : Nat → Nat) (k : Rec), i ≤ 36 → 36 < n + i → Bf (nbs s p) st N D → QI (nbs s p) N D Q sz i → KR k D Q sz →
    p_X7_howFar_65 n k s p (nI N) (nI sz) (nI i) ∧ ∃ (D' : Nat → Nat), (f_X7_howFar_65 n k s p (nI N) (nI sz) (nI i)).1 = nI (cnt D' 36) ∧ Fin s p st N D' := by
  intro n
  induction n with
  | zero => intro i sz D Q k h1 h2; omega
  | succ n ih =>
    intro i sz D Q k hi hn hB hQ hK
    have hQ' := hQ
    obtain ⟨q1, q2, q3, q4, q5, q6, q7⟩ := hQ
    have szle : sz ≤ 36 := by rw [q2]; exact cnt_le D 36
    rw [f_X7_howFar_65, p_X7_howFar_65]
    by_cases c1 : sz ≤ i
    · have l1 : nI sz ≤ nI i := nI_le c1 (by omega)
      rw [if_pos l1]
      refine ⟨⟨fun _ => trivial, fun z => absurd l1 z⟩, D, by rw [q2], hB, fun a ha h0 h1 => ?_⟩
      obtain ⟨j, j1, j2⟩ := q4 a ha h0
      have := q7 j (by omega) j1 (by rw [j2]; exact h1)
      rw [j2] at this
      exact this
    · have l1 : ¬ nI sz ≤ nI i := nI_ge (by omega) (by omega)
      have l36 : ¬ Int32.ofInt 36 ≤ nI i := nI_ge (a := i) (b := 36) (by omega) (by omega)
      have vi : vp_in (nI i) 36 := vp_in_nI (by omega) (by omega)
      have b36 := (q3 i (by omega)).1
      have bD := (q3 i (by omega)).2
      have vq : vp_in (nI (Q i)) 36 := vp_in_nI b36 (by omega)
      rw [if_neg l1, if_neg l36, nI_clamp (n := i) (by omega), hK.2 i (by omega), nI_clamp (n := Q i) (by omega), hK.1 _ b36, ni1]
      obtain ⟨d, hd⟩ : ∃ d, D (Q i) = d + 1 := ⟨D (Q i) - 1, by omega⟩
      have dle := hB.1 _ b36
      rw [hd, dv_s]
      by_cases c2 : N ≤ d
      · have l2 : nI N ≤ nI d := nI_le c2 (by omega)
        rw [if_pos l2]
        obtain ⟨i1, i2⟩ := ih (i + 1) sz D Q k (by omega) (by omega) hB (qi_next hQ' (by omega) (fun z => by omega)) hK
        exact ⟨⟨fun z => absurd z l1, fun _ => ⟨fun z => absurd z l36, fun _ => ⟨vi, vq, fun _ => i1, fun z => absurd l2 z⟩⟩⟩, i2⟩
      · have l2 : ¬ nI N ≤ nI d := nI_ge (by omega) (by omega)
        rw [if_neg l2]
        obtain ⟨a1, D', Q', sz', k', a2, a3, a4, a5, a6, a7, a8⟩ := spq_loop hs hM hN 40 0 sz D Q k (by omega) (by omega) hB hQ' hK (by omega) rfl (by omega) (fun w' h1 => by omega)
        have a2' : f_X7_spread k s p (nI (Q i)) (nI sz) = (nI sz', k') := a2
        have a1' : p_X7_spread k s p (nI (Q i)) (nI sz) := a1
        rw [a2']
        obtain ⟨i1, i2⟩ := ih (i + 1) sz' D' Q' k' (by omega) (by omega) a3 (qi_next a4 a6 (fun _ => by rw [a7]; exact a8)) a5
        exact ⟨⟨fun z => absurd z l1, fun _ => ⟨fun z => absurd z l36, fun _ => ⟨vi, vq, fun z => absurd z l2, fun _ => ⟨vi, a1', i1⟩⟩⟩⟩, i2⟩
/-- the first distances -/
def d0 (st a : Nat) : Nat := if a = st then 1 else 0
theorem bf_0 (nb : Nat → Nat → Prop) {st N : Nat} : Bf nb st N (d0 st) := by
  refine ⟨fun a _ => ?_, fun a _ => ?_, fun a q _ hq hd => ?_⟩
  · unfold d0
    by_cases z : a = st
    · rw [if_pos z]; omega
    · rw [if_neg z]; omega
  · unfold d0
    by_cases z : a = st
    · rw [if_pos z]; exact ⟨fun _ => z, fun _ => rfl⟩
    · rw [if_neg z]; exact ⟨fun y => by omega, fun y => absurd y z⟩
  · unfold d0 at hd
    by_cases z : a = st
    · rw [if_pos z] at hd; omega
    · rw [if_neg z] at hd; omega
theorem cnt_z : ∀ n, cnt (fun _ => 0) n = 0 := by
  intro n
  induction n with
  | zero => rfl
  | succ n ih => rw [cnt, ih, if_pos rfl]
theorem cnt_0 {st : Nat} (h : st < 36) : cnt (d0 st) 36 = 1 := by
  have e : d0 st = un (fun _ => 0) st 1 := by
    funext a
    rfl
  rw [e, cnt_un rfl (by omega) 36 h, cnt_z]
theorem hf_all {s p g : Rec} (hs : SG s g) (hM : Mn p g) {st N : Nat} (hN : N ≤ 9) (k : Rec) {x y : Int32} (hst : st < 36) (ht : f_X4_topAt s x y = nI st) : p_X7_howFar k s p x y (nI N) ∧ ∃ (D' : Nat → Nat), (f_X7_howFar k s p x y (nI N)).1 = nI (cnt D' 36) ∧ Fin s p st N D' := by
  have lp : ∀ (n j : Nat) (k : Rec), j ≤ 36 → 36 < n + j → (∀ a, a < j → k.2 0 a = -1) → p_X7_howFar_3 n k s p x y (nI N) (nI j) ∧ ∃ (D' : Nat → Nat), (f_X7_howFar_3 n k s p x y (nI N) (nI j)).1 = nI (cnt D' 36) ∧ Fin s p st N D' := by
    intro n
    induction n with
    | zero => intro j k h1 h2; omega
    | succ n ih =>
      intro j k h1 h2 h3
      rw [f_X7_howFar_3, p_X7_howFar_3]
      by_cases c1 : j = 36
      · have l1 : Int32.ofInt 36 ≤ nI j := by rw [c1]; decide
        have nt : ¬ f_X4_topAt s x y = Int32.ofInt (-1) := by
          rw [ht]
          intro z
          have := nI_pos' (n := st) (by omega)
          rw [z] at this
          exact absurd this (by decide)
        rw [if_pos l1, if_neg nt]
        have vs : vp_in (nI st) 36 := vp_in_nI hst (by omega)
        rw [ht, nI_clamp (n := st) (by omega)]
        rw [ht] at nt
        obtain ⟨i1, i2⟩ := hf_loop hs hM hN 40 0 1 (d0 st) (fun _ => st) (setA (setA k 0 (upd (k.2 0) st (Int32.ofInt 0))) 1 (upd (k.2 1) (Int32.toNatClampNeg (Int32.ofInt 0)) (nI st))) (by omega) (by omega) (bf_0 _) (by
          have dd : d0 st st = 1 := by unfold d0; rw [if_pos rfl]
          refine ⟨by omega, (cnt_0 hst).symm, fun j _ => ⟨hst, by rw [dd]; omega⟩, fun a _ hn => ⟨0, by omega, ?_⟩, fun _ _ _ _ => Nat.le_refl _, fun _ _ _ => Nat.le_succ _, fun j hj => by omega⟩
          unfold d0 at hn
          by_cases z : a = st
          · exact z.symm
          · rw [if_neg z] at hn; omega) (by
          refine ⟨fun a ha => ?_, fun j hj => ?_⟩
          · show upd (k.2 0) st (Int32.ofInt 0) a = _
            rw [upd_at]
            unfold d0
            by_cases z : a = st
            · rw [if_pos z, if_pos z]; rfl
            · rw [if_neg z, if_neg z, h3 a (by omega)]; rfl
          · show upd (k.2 1) 0 (nI st) j = _
            rw [upd_at, if_pos (by omega)])
        exact ⟨⟨fun _ => ⟨pt_top s x y, fun z => absurd z nt, fun _ => ⟨vs, i1⟩⟩, fun z => absurd l1 z⟩, i2⟩
      · have l1 : ¬ Int32.ofInt 36 ≤ nI j := nI_ge (a := j) (b := 36) (by omega) (by omega)
        rw [if_neg l1, nI_clamp (n := j) (by omega), ni1]
        obtain ⟨i1, i2⟩ := ih (j + 1) (setA k 0 (upd (k.2 0) j (Int32.ofInt (-1)))) (by omega) (by omega) (fun a ha => by
          show upd (k.2 0) j (Int32.ofInt (-1)) a = -1
          rw [upd_at]
          by_cases z : a = j
          · rw [if_pos z]; rfl
          · rw [if_neg z]; exact h3 a (by omega))
        exact ⟨⟨fun z => absurd z l1, fun _ => ⟨vp_in_nI (by omega) (by omega), i1⟩⟩, i2⟩
  exact lp 40 0 k (by omega) (by omega) (fun a ha => by omega)
