/-! layer 3: the reference's places, and its folds one after another -/
def RS (m : Rec) (h : Nat → Bool) (X Y : Nat → Int) : Prop := (∀ c, c < 36 → (f_X9_isCell m (nI c) = 0 ↔ h c = false)) ∧ ∀ c, c < 36 → h c = true → tI (m.2 4) c = X (p6 c) ∧ tI (m.2 5) c = Y (d6 c)
theorem rs_h {m : Rec} {h : Nat → Bool} {X Y : Nat → Int} (hR : RS m h X Y) {c : Nat} (hc : c < 36) : ¬ f_X9_isCell m (nI c) = 0 ↔ h c = true := by
  rw [hR.1 c hc]
  cases h c <;> decide
theorem rs_c {m : Rec} {h : Nat → Bool} {X Y : Nat → Int} (hR : RS m h X Y) {c : Int32} (hc : ¬ f_X9_isCell m c = 0) : ∃ k, k < 36 ∧ c = nI k ∧ h k = true := by
  obtain ⟨c0, c1⟩ := isCell_in hc
  have e : c = nI c.toNatClampNeg := (Int32.ofNat_toNatClampNeg _ c0).symm
  have l := cl_c36 c0 c1
  refine ⟨_, l, e, ?_⟩
  rw [e] at hc
  exact (rs_h hR l).mp hc
theorem at_n {m : Rec} {h : Nat → Bool} {X Y : Nat → Int} (hR : RS m h X Y) {o c : Nat} (ho : o < 36) (hc : c < 36) (hh : h c = true) : f_X9_isAt m (nI o) (m.2 4 c) (m.2 5 c) = 0 ↔ ¬ (h o = true ∧ X (p6 o) = X (p6 c) ∧ Y (d6 o) = Y (d6 c)) := by
  obtain ⟨c4, c5⟩ := hR.2 c hc hh
  unfold f_X9_isAt
  rw [nI_clamp (by omega)]
  by_cases z : f_X9_isCell m (nI o) = 0
  · rw [if_pos z]
    have := (hR.1 o ho).mp z
    exact ⟨fun _ y => by rw [this] at y; exact absurd y.1 (by decide), fun _ => rfl⟩
  · have ht := (rs_h hR ho).mp z
    obtain ⟨o4, o5⟩ := hR.2 o ho ht
    rw [if_neg z, ← o4, ← o5, ← c4, ← c5, tI_e, tI_e]
    by_cases z1 : m.2 4 o = m.2 4 c
    · rw [if_pos z1]
      by_cases z2 : m.2 5 o = m.2 5 c
      · rw [if_pos z2]
        exact ⟨fun y => absurd y (by decide), fun y => absurd ⟨ht, z1, z2⟩ y⟩
      · rw [if_neg z2]
        exact ⟨fun _ y => z2 y.2.2, fun _ => rfl⟩
    · rw [if_neg z1]
      exact ⟨fun _ y => z1 y.2.1, fun _ => rfl⟩
theorem nfs_le {h : Nat → Bool} {X Y : Nat → Int} {c o : Nat} (ho : o ≤ c) (hn : nfs h X Y c o = false) : nfs h X Y c c = false := by
  cases z : nfs h X Y c c with
  | false => rfl
  | true =>
    have : nfs h X Y c o = true := (nfs_iff o).mpr fun x hx => (nfs_iff c).mp z x (by omega)
    rw [hn] at this
    exact absurd this (by decide)
theorem pc_19 {m : Rec} {h : Nat → Bool} {X Y : Nat → Int} (hR : RS m h X Y) {c v : Nat} (hc : c < 36) {K : Rec → Int32 → Int32 → Int32} {G : Rec → Int32 → Int32 → Prop} {Q : Int32 → Prop} (hk : G m (nI (v + if (h c && nfs h X Y c c) then 1 else 0)) (nI (c + 1)) ∧ Q (K m (nI (v + if (h c && nfs h X Y c c) then 1 else 0)) (nI (c + 1)))) :
    ∀ (n o : Nat) (v3 : Int32), o ≤ c → c < n + o → (v3 = 0 ↔ (h c && nfs h X Y c o) = false) → p_X9_places_19 G n m (nI v) (nI c) v3 (nI o) ∧ Q (f_X9_places_19 K n m (nI v) (nI c) v3 (nI o)) := by
  have add0 : nI v + Int32.ofInt 0 = nI (v + 0) := nI_add v 0
  intro n
  induction n with
  | zero => intro o v3 h1 h2; omega
  | succ n ih =>
    intro o v3 h1 h2 h3
    rw [f_X9_places_19, p_X9_places_19, add0, ni1, ni1, ni1]
    have done0 : v3 = 0 → G m (nI (v + 0)) (nI (c + 1)) ∧ Q (K m (nI (v + 0)) (nI (c + 1))) := by
      intro z
      have e := h3.mp z
      have e2 : (h c && nfs h X Y c c) = false := by
        cases q : h c with
        | false => rfl
        | true =>
          rw [q] at e
          rw [nfs_le h1 (by simpa using e)]
          rfl
      rw [e2] at hk
      exact hk
    by_cases c1 : nI c ≤ nI o
    · have eo : o = c := by
        have := (nI_leI (by omega) (by omega)).mp c1
        omega
      rw [if_pos c1]
      by_cases c2 : v3 = 0
      · rw [if_pos c2]
        obtain ⟨d1, d2⟩ := done0 c2
        exact ⟨⟨fun _ => ⟨fun _ => d1, fun z => absurd c2 z⟩, fun z => absurd c1 z⟩, d2⟩
      · rw [if_neg c2]
        have e : (h c && nfs h X Y c c) = true := by
          cases q : (h c && nfs h X Y c c) with
          | false =>
            rw [eo] at h3
            exact absurd (h3.mpr q) c2
          | true => rfl
        rw [e] at hk
        exact ⟨⟨fun _ => ⟨fun z => absurd z c2, fun _ => hk.1⟩, fun z => absurd c1 z⟩, hk.2⟩
    · have oc : o < c := by
        exact Classical.byContradiction fun z => c1 (nI_le (a := c) (b := o) (by omega) (by omega))
      rw [if_neg c1]
      by_cases c2 : v3 = 0
      · rw [if_pos c2, if_pos c2]
        obtain ⟨d1, d2⟩ := done0 c2
        exact ⟨⟨fun z => absurd z c1, fun _ => ⟨fun _ => ⟨fun _ => d1, fun z => absurd c2 z⟩, fun z => absurd c2 z⟩⟩, d2⟩
      · rw [if_neg c2, nI_clamp (n := c) (by omega)]
        have ht : (h c && nfs h X Y c o) = true := by
          cases q : (h c && nfs h X Y c o) with
          | false => exact absurd (h3.mpr q) c2
          | true => rfl
        have h1' : h c = true := by
          cases q : h c with
          | false => rw [q, Bool.false_and] at ht; exact absurd ht (by decide)
          | true => rfl
        have h2' : nfs h X Y c o = true := by
          rw [h1'] at ht
          simpa using ht
        have vc : vp_in (nI c) 36 := vp_in_nI hc (by omega)
        have an := at_n hR (o := o) (by omega) hc h1'
        have nx : nfs h X Y c (o + 1) = !(h o && decide (X (p6 o) = X (p6 c)) && decide (Y (d6 o) = Y (d6 c))) := by
          rw [nfs, h2', Bool.true_and]
        by_cases c3 : f_X9_isAt m (nI o) (m.2 4 c) (m.2 5 c) = 0
        · rw [if_pos c3]
          have no := an.mp c3
          obtain ⟨i1, i2⟩ := ih (o + 1) (Int32.ofInt 1) (by omega) (by omega) (by
            constructor
            · intro z; exact absurd z (by decide)
            · intro z
              exfalso
              rw [h1', Bool.true_and, nx] at z
              apply no
              simp at z
              exact ⟨z.1.1, z.1.2, z.2⟩)
          exact ⟨⟨fun z => absurd z c1, fun _ => ⟨fun z => absurd z c2, fun _ => ⟨vc, vc, pl_isAt .., fun _ => i1, fun z => absurd c3 z⟩⟩⟩, i2⟩
        · rw [if_neg c3]
          have yes : h o = true ∧ X (p6 o) = X (p6 c) ∧ Y (d6 o) = Y (d6 c) := Classical.byContradiction fun z => c3 (an.mpr z)
          obtain ⟨i1, i2⟩ := ih (o + 1) (Int32.ofInt 0) (by omega) (by omega) (by
            constructor
            · intro _
              rw [h1', Bool.true_and, nx, yes.1, decide_eq_true yes.2.1, decide_eq_true yes.2.2]
              rfl
            · intro _; rfl)
          exact ⟨⟨fun z => absurd z c1, fun _ => ⟨fun z => absurd z c2, fun _ => ⟨vc, vc, pl_isAt .., fun z => absurd z c3, fun _ => i1⟩⟩⟩, i2⟩
theorem pc_4 {m : Rec} {h : Nat → Bool} {X Y : Nat → Int} (hR : RS m h X Y) : ∀ (n c : Nat), c ≤ 36 → 36 < n + c → p_X9_places_4 n m (nI (Pc h X Y c)) (nI c) ∧ f_X9_places_4 n m (nI (Pc h X Y c)) (nI c) = nI (Pc h X Y 36) := by
  intro n
  induction n with
  | zero => intro c h1 h2; omega
  | succ n ih =>
    intro c h1 h2
    rw [f_X9_places_4, p_X9_places_4]
    by_cases c1 : c = 36
    · have l1 : Int32.ofInt 36 ≤ nI c := by rw [c1]; decide
      rw [if_pos l1, c1]
      rw [c1] at l1
      exact ⟨⟨fun _ => trivial, fun z => absurd l1 z⟩, rfl⟩
    · have l1 : ¬ Int32.ofInt 36 ≤ nI c := nI_ge (a := c) (b := 36) (by omega) (by omega)
      rw [if_neg l1]
      have e : Pc h X Y (c + 1) = Pc h X Y c + (if (h c && nfs h X Y c c) then 1 else 0) := fb_ct_succ _ c
      obtain ⟨i1, i2⟩ := pc_19 hR (c := c) (v := Pc h X Y c) (by omega) (K := f_X9_places_4 n) (G := p_X9_places_4 n) (Q := fun z => z = nI (Pc h X Y 36)) (by rw [← e]; exact ih (c + 1) (by omega) (by omega)) 40 0 (f_X9_isCell m (nI c)) (by omega) (by omega) (by
        rw [hR.1 c (by omega)]
        show _ ↔ (h c && true) = false
        rw [Bool.and_true])
      exact ⟨⟨fun z => absurd z l1, fun _ => ⟨pl_isCell .., i1⟩⟩, i2⟩
theorem plc_all {m : Rec} {h : Nat → Bool} {X Y : Nat → Int} (hR : RS m h X Y) : p_X9_places m ∧ f_X9_places m = nI (Pc h X Y 36) := pc_4 hR 40 0 (by omega) (by omega)
/-- the lines between the ends -/
theorem ok_end {g : Rec} {h : Nat → Bool} {X Y : Nat → Int} (hR : RS g h X Y) (l : Int) : (okf h p6 X l ↔ (f_X9_end g 0 0).toInt < l ∧ l ≤ (f_X9_end g 0 1).toInt) ∧ (okf h d6 Y l ↔ (f_X9_end g 1 0).toInt < l ∧ l ≤ (f_X9_end g 1 1).toInt) := by
  have gen : ∀ (a : Int32) (P : Nat → Nat) (Z : Nat → Int), (∀ c, c < 36 → h c = true → (co g a (nI c)).toInt = Z (P c)) → (okf h P Z l ↔ (f_X9_end g a 0).toInt < l ∧ l ≤ (f_X9_end g a 1).toInt) := by
    intro a P Z hZ
    have n1 : ¬ (1 : Int32) = 0 := by decide
    rcases en_all g a 0 with ⟨m1, m2⟩ | ⟨_, ⟨c, m1, m2⟩, m3⟩
    · rcases en_all g a 1 with ⟨_, M2⟩ | ⟨M1, _⟩
      · rw [m2, M2]
        constructor
        · rintro ⟨⟨c, c1, c2, _⟩, _⟩
          exact absurd ⟨nI c, (rs_h hR c1).mpr c2⟩ m1
        · rintro ⟨z1, z2⟩
          have : (0 : Int32).toInt = 0 := by decide
          omega
      · exact absurd M1 m1
    · rcases en_all g a 1 with ⟨M1, _⟩ | ⟨_, ⟨d, M1, M2⟩, M3⟩
      · exact absurd ⟨c, m1⟩ M1
      · constructor
        · rintro ⟨⟨x, x1, x2, x3⟩, y, y1, y2, y3⟩
          have u := m3 (nI x) ((rs_h hR x1).mpr x2)
          have w := M3 (nI y) ((rs_h hR y1).mpr y2)
          rw [if_pos rfl] at u
          rw [if_neg n1] at w
          have u' := Int32.le_iff_toInt_le.mp u
          have w' := Int32.le_iff_toInt_le.mp w
          rw [hZ x x1 x2] at u'
          rw [hZ y y1 y2] at w'
          omega
        · rintro ⟨z1, z2⟩
          obtain ⟨x, x1, x2, x3⟩ := rs_c hR m1
          obtain ⟨y, y1, y2, y3⟩ := rs_c hR M1
          rw [x2] at m2
          rw [y2] at M2
          refine ⟨⟨x, x1, x3, ?_⟩, y, y1, y3, ?_⟩
          · rw [← hZ x x1 x3, m2]; exact z1
          · rw [← hZ y y1 y3, M2]; exact z2
  refine ⟨gen 0 p6 X fun c hc hh => ?_, gen 1 d6 Y fun c hc hh => ?_⟩
  · unfold co
    rw [if_pos rfl, nI_clamp (by omega)]
    exact (hR.2 c hc hh).1
  · unfold co
    rw [if_neg (by decide), nI_clamp (by omega)]
    exact (hR.2 c hc hh).2
/-- ends by a sheet of their own -/
def sE (g : Rec) : Rec := (fun k => if k = 3 then f_X9_end g 0 0 else if k = 4 then f_X9_end g 0 1 else if k = 5 then f_X9_end g 1 0 else if k = 6 then f_X9_end g 1 1 else topL g, fun _ _ => 0)
theorem sE_1 (g : Rec) (k : Nat) : (sE g).1 k = if k = 3 then f_X9_end g 0 0 else if k = 4 then f_X9_end g 0 1 else if k = 5 then f_X9_end g 1 0 else if k = 6 then f_X9_end g 1 1 else topL g := by
  unfold sE
  dsimp only
theorem sE_3 (g : Rec) : (sE g).1 3 = f_X9_end g 0 0 := by rw [sE_1, if_pos rfl]
theorem sE_4 (g : Rec) : (sE g).1 4 = f_X9_end g 0 1 := by rw [sE_1, if_neg (by decide), if_pos rfl]
theorem sE_5 (g : Rec) : (sE g).1 5 = f_X9_end g 1 0 := by rw [sE_1, if_neg (by decide), if_neg (by decide), if_pos rfl]
theorem sE_6 (g : Rec) : (sE g).1 6 = f_X9_end g 1 1 := by rw [sE_1, if_neg (by decide), if_neg (by decide), if_neg (by decide), if_pos rfl]
theorem sE_7 (g : Rec) : (sE g).1 7 = topL g := by rw [sE_1, if_neg (by decide), if_neg (by decide), if_neg (by decide), if_neg (by decide)]
theorem sE_e (g : Rec) : Ends (sE g) g := ⟨sE_3 g, sE_4 g, sE_5 g, sE_6 g, sE_7 g⟩
def EB (g : Rec) : Prop := ∀ a b, -1000 ≤ (f_X9_end g a b).toInt ∧ (f_X9_end g a b).toInt ≤ 1000
theorem eb_of {g : Rec} {d : Nat} (hd : d ≤ 3) (hG : Geo g (Bk d) (Lk d)) : EB g := by
  intro a b
  obtain ⟨b1, _⟩ := bk_b (n := d) (by omega)
  obtain ⟨h1, h2⟩ := ends_b hG b1 a b
  have h1' := Int32.le_iff_toInt_le.mp h1
  have h2' := Int32.le_iff_toInt_le.mp h2
  have k : (-(Bk d)).toInt ≥ -1000 ∧ (Bk d).toInt ≤ 1000 := by
    have : d = 0 ∨ d = 1 ∨ d = 2 ∨ d = 3 := by omega
    rcases this with rfl | rfl | rfl | rfl <;> decide
  omega
theorem pk_i {g : Rec} {d : Nat} (hd : d ≤ 3) (hG : Geo g (Bk d) (Lk d)) {i : Int32} (h0 : 0 ≤ i.toInt) (h1 : i.toInt < 100000) :
    (f_X9_foldsNow g).toInt = 2 * ((f_X9_end g 0 1).toInt - (f_X9_end g 0 0).toInt + (f_X9_end g 1 1).toInt - (f_X9_end g 1 0).toInt) ∧
    ((2 * ((f_X9_end g 0 1).toInt - (f_X9_end g 0 0).toInt) ≤ i.toInt ∧ (f_X9_pick g i).1 10 = 1 ∧ ((f_X9_pick g i).1 11).toInt = (f_X9_end g 1 0).toInt + 1 + (i.toInt - 2 * ((f_X9_end g 0 1).toInt - (f_X9_end g 0 0).toInt)) / 2) ∨ (i.toInt < 2 * ((f_X9_end g 0 1).toInt - (f_X9_end g 0 0).toInt) ∧ (f_X9_pick g i).1 10 = 0 ∧ ((f_X9_pick g i).1 11).toInt = (f_X9_end g 0 0).toInt + 1 + i.toInt / 2)) ∧
    ((f_X9_pick g i).1 12).toInt = i.toInt % 2 ∧ (f_X9_pick g i).2 = g.2 ∧ ∀ k, k ≠ 10 → k ≠ 11 → k ≠ 12 → (f_X9_pick g i).1 k = g.1 k := by
  obtain ⟨b1, b2, _⟩ := bk_b (n := d) (by omega)
  obtain ⟨k1, k2, k3, k4, k5⟩ := pick_eq (sE_e g) hG b1 b2 (n32_0.mpr h0)
  have e2 : (Int32.ofInt 2).toInt = 2 := by decide
  have e1 : (Int32.ofInt 1).toInt = 1 := by decide
  have B1 := eb_of hd hG 0 1
  have B2 := eb_of hd hG 0 0
  have B3 := eb_of hd hG 1 1
  have B4 := eb_of hd hG 1 0
  have s1 := n32_sub (x := f_X9_end g 0 1) (y := f_X9_end g 0 0) (by omega) (by omega)
  have w := n32_mul (x := Int32.ofInt 2) (y := f_X9_end g 0 1 - f_X9_end g 0 0) (by rw [e2, s1]; omega) (by rw [e2, s1]; omega)
  rw [e2, s1] at w
  have fn : (f_X9_foldsNow g).toInt = 2 * ((f_X9_end g 0 1).toInt - (f_X9_end g 0 0).toInt + (f_X9_end g 1 1).toInt - (f_X9_end g 1 0).toInt) := by
    have a1 := n32_add (x := f_X9_end g 0 1 - f_X9_end g 0 0) (y := f_X9_end g 1 1) (by rw [s1]; omega) (by rw [s1]; omega)
    rw [s1] at a1
    have a2 := n32_sub (x := f_X9_end g 0 1 - f_X9_end g 0 0 + f_X9_end g 1 1) (y := f_X9_end g 1 0) (by rw [a1]; omega) (by rw [a1]; omega)
    rw [a1] at a2
    have a3 := n32_mul (x := Int32.ofInt 2) (y := f_X9_end g 0 1 - f_X9_end g 0 0 + f_X9_end g 1 1 - f_X9_end g 1 0) (by rw [e2, a2]; omega) (by rw [e2, a2]; omega)
    rw [e2, a2] at a3
    exact a3
  refine ⟨fn, ?_, ?_, k4, k5⟩
  · rw [k1, k2]
    unfold f_X4_choiceAxis f_X4_choiceLine
    rw [sE_3, sE_4, sE_5]
    by_cases c : Int32.ofInt 2 * (f_X9_end g 0 1 - f_X9_end g 0 0) ≤ i
    · have c' := Int32.le_iff_toInt_le.mp c
      rw [w] at c'
      rw [if_pos c, if_pos c]
      refine Or.inl ⟨c', rfl, ?_⟩
      have a1 := n32_sub (x := i) (y := Int32.ofInt 2 * (f_X9_end g 0 1 - f_X9_end g 0 0)) (by rw [w]; omega) (by rw [w]; omega)
      rw [w] at a1
      have a2 := n32_div (x := i - Int32.ofInt 2 * (f_X9_end g 0 1 - f_X9_end g 0 0)) (y := Int32.ofInt 2) (by rw [a1]; omega) (by rw [e2]; omega)
      rw [a1, e2] at a2
      have a3 := n32_add (x := f_X9_end g 1 0) (y := Int32.ofInt 1) (by rw [e1]; omega) (by rw [e1]; omega)
      rw [e1] at a3
      have a4 := n32_add (x := f_X9_end g 1 0 + Int32.ofInt 1) (y := (i - Int32.ofInt 2 * (f_X9_end g 0 1 - f_X9_end g 0 0)) / Int32.ofInt 2) (by rw [a3, a2]; omega) (by rw [a3, a2]; omega)
      rw [a4, a3, a2]
    · have c' := Int32.lt_iff_toInt_lt.mp (Int32.not_le.mp c)
      rw [w] at c'
      rw [if_neg c, if_neg c]
      refine Or.inr ⟨c', rfl, ?_⟩
      have a2 := n32_div (x := i) (y := Int32.ofInt 2) (by omega) (by rw [e2]; omega)
      rw [e2] at a2
      have a3 := n32_add (x := f_X9_end g 0 0) (y := Int32.ofInt 1) (by rw [e1]; omega) (by rw [e1]; omega)
      rw [e1] at a3
      have a4 := n32_add (x := f_X9_end g 0 0 + Int32.ofInt 1) (y := i / Int32.ofInt 2) (by rw [a3, a2]; omega) (by rw [a3, a2]; omega)
      rw [a4, a3, a2]
  · rw [k3]
    unfold f_X4_choiceWay
    have a2 := n32_div (x := i) (y := Int32.ofInt 2) (by omega) (by rw [e2]; omega)
    rw [e2] at a2
    have a3 := n32_mul (x := i / Int32.ofInt 2) (y := Int32.ofInt 2) (by rw [a2, e2]; omega) (by rw [a2, e2]; omega)
    rw [a2, e2] at a3
    have a4 := n32_sub (x := i) (y := i / Int32.ofInt 2 * Int32.ofInt 2) (by rw [a3]; omega) (by rw [a3]; omega)
    rw [a4, a3]
    omega
/-- a fold, on columns and rows -/
theorem rs_turn {g : Rec} {h : Nat → Bool} {X Y : Nat → Int} {d : Nat} (hd : d ≤ 3) (hR : RS g h X Y) (hG : Geo g (Bk d) (Lk d)) {a l w : Int32} (ha : a = 0 ∨ a = 1) (hl1 : -1000 ≤ l.toInt) (hl2 : l.toInt ≤ 1000) : RS (f_X9_turnsOver g a l w) h (if a = 0 then bd X l.toInt (if w = 0 then 0 else 1) else X) (if a = 0 then Y else bd Y l.toInt (if w = 0 then 0 else 1)) := by
  have gb : ∀ c : Nat, c < 36 → -1000 ≤ (g.2 4 c).toInt ∧ (g.2 4 c).toInt ≤ 1000 ∧ -1000 ≤ (g.2 5 c).toInt ∧ (g.2 5 c).toInt ≤ 1000 := by
    intro c hc
    obtain ⟨_, h1, h2, h3, h4, _⟩ := hG (nI c) (nI_pos' (by omega)) (nI_lt (a := c) (b := 36) hc (by omega))
    rw [nI_clamp (by omega)] at h1 h2 h3 h4
    have h1' := Int32.le_iff_toInt_le.mp h1
    have h2' := Int32.le_iff_toInt_le.mp h2
    have h3' := Int32.le_iff_toInt_le.mp h3
    have h4' := Int32.le_iff_toInt_le.mp h4
    have k : (-(Bk d)).toInt ≥ -1000 ∧ (Bk d).toInt ≤ 1000 := by
      have : d = 0 ∨ d = 1 ∨ d = 2 ∨ d = 3 := by omega
      rcases this with rfl | rfl | rfl | rfl <;> decide
    omega
  have mir : ∀ x : Int32, -1000 ≤ x.toInt → x.toInt ≤ 1000 → (2 * l - 1 - x).toInt = 2 * l.toInt - 1 - x.toInt := fun x h1 h2 => mir_i (x := x) (l := l) (B := 1000) (by omega) h1 h2 hl1 hl2
  have bw : ∀ (Z : Nat → Int) (x : Int32) (i : Nat), x.toInt = Z i → (¬ f_X8_turns x l w = 0 → bd Z l.toInt (if w = 0 then 0 else 1) i = 2 * l.toInt - 1 - x.toInt) ∧ (f_X8_turns x l w = 0 → bd Z l.toInt (if w = 0 then 0 else 1) i = x.toInt) := by
    intro Z x i hx
    have t := tu_n (x := x) (l := l) (w := w)
    by_cases z : w = 0
    · rw [if_pos z] at t ⊢
      rw [bd_0, hx]
      constructor
      · intro y
        have := Int32.le_iff_toInt_le.mp (t.mp y)
        rw [if_pos (by omega)]
      · intro y
        have : ¬ l ≤ x := fun q => t.mpr q y
        have := Int32.lt_iff_toInt_lt.mp (Int32.not_le.mp this)
        rw [if_neg (by omega)]
    · rw [if_neg z] at t ⊢
      rw [bd_1 Z _ (by decide), hx]
      constructor
      · intro y
        have := Int32.lt_iff_toInt_lt.mp (t.mp y)
        rw [if_pos (by omega)]
      · intro y
        have : ¬ x < l := fun q => t.mpr q y
        have := Int32.le_iff_toInt_le.mp (Int32.not_lt.mp this)
        rw [if_neg (by omega)]
  refine ⟨fun c hc => by rw [isCell_turn]; exact hR.1 c hc, fun c hc hh => ?_⟩
  obtain ⟨r4, r5⟩ := hR.2 c hc hh
  obtain ⟨g1, g2, g3, g4⟩ := gb c hc
  have tr := turn_row g a l w (nI c) (nI_pos' (by omega)) (nI_lt (a := c) (b := 36) hc (by omega))
  rw [nI_clamp (by omega)] at tr
  have nz := (rs_h hR hc).mpr hh
  unfold tI at r4 r5 ⊢
  rcases ha with ha | ha
  · rw [if_pos ha, if_pos ha]
    have ce : co g a (nI c) = g.2 4 c := by
      unfold co
      rw [if_pos ha, nI_clamp (by omega)]
    rw [ce, if_pos ha, if_pos ha] at tr
    obtain ⟨b1, b2⟩ := bw X (g.2 4 c) (p6 c) r4
    rcases tr with ⟨_, t1, t2, t3, _⟩ | ⟨t1, t2, t3, _⟩
    · rw [t2, t3, b1 t1, mir _ g1 g2]
      exact ⟨rfl, r5⟩
    · rw [t2, t3, b2 (t1.resolve_left nz)]
      exact ⟨rfl, r5⟩
  · have na : ¬ a = 0 := by rw [ha]; decide
    rw [if_neg na, if_neg na]
    have ce : co g a (nI c) = g.2 5 c := by
      unfold co
      rw [if_neg na, nI_clamp (by omega)]
    rw [ce, if_neg na, if_neg na] at tr
    obtain ⟨b1, b2⟩ := bw Y (g.2 5 c) (d6 c) r5
    rcases tr with ⟨_, t1, t2, t3, _⟩ | ⟨t1, t2, t3, _⟩
    · rw [t2, t3, b1 t1, mir _ g3 g4]
      exact ⟨r4, rfl⟩
    · rw [t2, t3, b2 (t1.resolve_left nz)]
      exact ⟨r4, rfl⟩
def st1 (m : Rec) (i : Int32) : Rec := f_X9_turnsOver (f_X9_pick m i) ((f_X9_pick m i).1 10) ((f_X9_pick m i).1 11) ((f_X9_pick m i).1 12)
theorem geo_cg {m m' : Rec} {B L : Int32} (h : m'.2 = m.2) (hG : Geo m B L) : Geo m' B L := by
  unfold Geo
  rw [h]
  exact hG
theorem rs_cg {m m' : Rec} {h : Nat → Bool} {X Y : Nat → Int} (e : m'.2 = m.2) (hR : RS m h X Y) : RS m' h X Y := by
  refine ⟨fun c hc => ?_, fun c hc hh => by rw [e]; exact hR.2 c hc hh⟩
  rw [isCell_congr (show m'.2 0 = m.2 0 by rw [e]) (nI c)]
  exact hR.1 c hc
/-- one of all folds, done -/
theorem st_s {m : Rec} {h : Nat → Bool} {X Y : Nat → Int} {d : Nat} (hd : d ≤ 2) (hR : RS m h X Y) (hG : Geo m (Bk d) (Lk d)) {i : Int32} (h0 : 0 ≤ i.toInt) (h1 : i.toInt < (f_X9_foldsNow m).toInt) :
    Geo (st1 m i) (Bk (d + 1)) (Lk (d + 1)) ∧ FrH m (st1 m i) ∧ ((∃ l w, w < 2 ∧ okf h p6 X l ∧ RS (st1 m i) h (bd X l w) Y) ∨ (∃ l w, w < 2 ∧ okf h d6 Y l ∧ RS (st1 m i) h X (bd Y l w))) := by
  have eb := eb_of (by omega) hG
  have B1 := eb 0 1
  have B2 := eb 0 0
  have B3 := eb 1 1
  have B4 := eb 1 0
  have fz := (pk_i (i := 0) (by omega) hG (by decide) (by decide)).1
  obtain ⟨_, hc, hw, h2, hf⟩ := pk_i (i := i) (by omega) hG h0 (by omega)
  obtain ⟨k1, k2⟩ := ok_end hR ((f_X9_pick m i).1 11).toInt
  have rg := rs_cg h2 hR
  have gg := geo_cg h2 hG
  obtain ⟨b1, b2, b3, b4⟩ := bk_b (n := d) (by omega)
  have eb2 := ends_b hG b1
  have fr : FrH m (st1 m i) := by
    obtain ⟨t1, t2, _⟩ := to_all (f_X9_pick m i) ((f_X9_pick m i).1 10) ((f_X9_pick m i).1 11) ((f_X9_pick m i).1 12)
    refine ⟨fun k z1 z2 z3 => ?_, fun j z1 z2 z3 z4 => ?_⟩
    · unfold st1
      rw [t1]
      exact hf k z1 z2 z3
    · unfold st1
      rw [t2 j ⟨z1, z2, z3, z4⟩, h2]
  have ww : ∀ w : Int32, (if w = 0 then 0 else 1) < 2 := fun w => by split <;> decide
  have geo : ∀ a, (f_X9_end m a 0).toInt < ((f_X9_pick m i).1 11).toInt → ((f_X9_pick m i).1 11).toInt ≤ (f_X9_end m a 1).toInt → Geo (st1 m i) (Bk (d + 1)) (Lk (d + 1)) := by
    intro a z1 z2
    refine geo_turn gg b1 b2 b3 b4 ?_ ?_ _ _
    · exact Int32.le_trans (eb2 a 0).1 (Int32.le_of_lt (Int32.lt_iff_toInt_lt.mpr z1))
    · exact Int32.le_trans (Int32.le_iff_toInt_le.mpr z2) (eb2 a 1).2
  rcases hc with ⟨c1, c2, c3⟩ | ⟨c1, c2, c3⟩
  · have z1 : (f_X9_end m 1 0).toInt < ((f_X9_pick m i).1 11).toInt := by omega
    have z2 : ((f_X9_pick m i).1 11).toInt ≤ (f_X9_end m 1 1).toInt := by omega
    refine ⟨geo 1 z1 z2, fr, Or.inr ⟨_, _, ww ((f_X9_pick m i).1 12), k2.mpr ⟨z1, z2⟩, ?_⟩⟩
    have := rs_turn (a := (f_X9_pick m i).1 10) (l := (f_X9_pick m i).1 11) (w := (f_X9_pick m i).1 12) (by omega) rg gg (Or.inr c2) (by omega) (by omega)
    rw [if_neg (by rw [c2]; decide), if_neg (by rw [c2]; decide)] at this
    exact this
  · have z1 : (f_X9_end m 0 0).toInt < ((f_X9_pick m i).1 11).toInt := by omega
    have z2 : ((f_X9_pick m i).1 11).toInt ≤ (f_X9_end m 0 1).toInt := by omega
    refine ⟨geo 0 z1 z2, fr, Or.inl ⟨_, _, ww ((f_X9_pick m i).1 12), k1.mpr ⟨z1, z2⟩, ?_⟩⟩
    have := rs_turn (a := (f_X9_pick m i).1 10) (l := (f_X9_pick m i).1 11) (w := (f_X9_pick m i).1 12) (by omega) rg gg (Or.inl c2) (by omega) (by omega)
    rw [if_pos c2, if_pos c2] at this
    exact this
/-- each fold is one of them -/
theorem st_c {m : Rec} {h : Nat → Bool} {X Y : Nat → Int} {d : Nat} (hd : d ≤ 2) (hR : RS m h X Y) (hG : Geo m (Bk d) (Lk d)) {l : Int} {w : Nat} (hw : w < 2) : (okf h p6 X l → ∃ i : Int32, 0 ≤ i.toInt ∧ i.toInt < (f_X9_foldsNow m).toInt ∧ RS (st1 m i) h (bd X l w) Y) ∧ (okf h d6 Y l → ∃ i : Int32, 0 ≤ i.toInt ∧ i.toInt < (f_X9_foldsNow m).toInt ∧ RS (st1 m i) h X (bd Y l w)) := by
  have eb := eb_of (by omega) hG
  have B1 := eb 0 1
  have B2 := eb 0 0
  have B3 := eb 1 1
  have B4 := eb 1 0
  have fz := (pk_i (i := 0) (by omega) hG (by decide) (by decide)).1
  obtain ⟨k1, k2⟩ := ok_end hR l
  have lh := en_lh m 0
  have lh1 := en_lh m 1
  have lh' := Int32.le_iff_toInt_le.mp lh
  have lh1' := Int32.le_iff_toInt_le.mp lh1
  have wz : ∀ v : Int32, v.toInt = (w : Int) → (if v = 0 then 0 else 1) = w := by
    intro v hv
    by_cases z : v = 0
    · rw [if_pos z]
      rw [z] at hv
      have : (0 : Int32).toInt = 0 := by decide
      omega
    · rw [if_neg z]
      have : v.toInt ≠ 0 := fun y => z (Int32.toInt_inj.mp (by rw [y]; decide))
      omega
  constructor
  · intro ok
    obtain ⟨z1, z2⟩ := k1.mp ok
    have el : (Int32.ofInt (2 * (l - (f_X9_end m 0 0).toInt - 1) + w)).toInt = 2 * (l - (f_X9_end m 0 0).toInt - 1) + w := by
      rw [Int32.toInt_ofInt, bm32 (by omega) (by omega)]
    refine ⟨Int32.ofInt (2 * (l - (f_X9_end m 0 0).toInt - 1) + w), by rw [el]; omega, by rw [el]; omega, ?_⟩
    obtain ⟨i, hi⟩ : ∃ z, z = Int32.ofInt (2 * (l - (f_X9_end m 0 0).toInt - 1) + w) := ⟨_, rfl⟩
    rw [← hi] at el ⊢
    obtain ⟨_, hc, hww, h2, hf⟩ := pk_i (i := i) (by omega) hG (by omega) (by omega)
    rw [el] at hc hww
    rcases hc with ⟨c1, c2, c3⟩ | ⟨c1, c2, c3⟩
    · omega
    · have e11 : ((f_X9_pick m i).1 11).toInt = l := by rw [c3]; omega
      have e12 : ((f_X9_pick m i).1 12).toInt = (w : Int) := by rw [hww]; omega
      have := rs_turn (a := (f_X9_pick m i).1 10) (l := (f_X9_pick m i).1 11) (w := (f_X9_pick m i).1 12) (by omega) (rs_cg h2 hR) (geo_cg h2 hG) (Or.inl c2) (by omega) (by omega)
      rw [if_pos c2, if_pos c2, e11, wz _ e12] at this
      exact this
  · intro ok
    obtain ⟨z1, z2⟩ := k2.mp ok
    have el : (Int32.ofInt (2 * ((f_X9_end m 0 1).toInt - (f_X9_end m 0 0).toInt) + 2 * (l - (f_X9_end m 1 0).toInt - 1) + w)).toInt = 2 * ((f_X9_end m 0 1).toInt - (f_X9_end m 0 0).toInt) + 2 * (l - (f_X9_end m 1 0).toInt - 1) + w := by
      rw [Int32.toInt_ofInt, bm32 (by omega) (by omega)]
    refine ⟨Int32.ofInt (2 * ((f_X9_end m 0 1).toInt - (f_X9_end m 0 0).toInt) + 2 * (l - (f_X9_end m 1 0).toInt - 1) + w), by rw [el]; omega, by rw [el]; omega, ?_⟩
    obtain ⟨i, hi⟩ : ∃ z, z = Int32.ofInt (2 * ((f_X9_end m 0 1).toInt - (f_X9_end m 0 0).toInt) + 2 * (l - (f_X9_end m 1 0).toInt - 1) + w) := ⟨_, rfl⟩
    rw [← hi] at el ⊢
    obtain ⟨_, hc, hww, h2, hf⟩ := pk_i (i := i) (by omega) hG (by omega) (by omega)
    rw [el] at hc hww
    rcases hc with ⟨c1, c2, c3⟩ | ⟨c1, c2, c3⟩
    · have e11 : ((f_X9_pick m i).1 11).toInt = l := by rw [c3]; omega
      have e12 : ((f_X9_pick m i).1 12).toInt = (w : Int) := by rw [hww]; omega
      have := rs_turn (a := (f_X9_pick m i).1 10) (l := (f_X9_pick m i).1 11) (w := (f_X9_pick m i).1 12) (by omega) (rs_cg h2 hR) (geo_cg h2 hG) (Or.inr c2) (by omega) (by omega)
      rw [if_neg (by rw [c2]; decide), if_neg (by rw [c2]; decide), e11, wz _ e12] at this
      exact this
    · omega
