/-! layer 3: the reference's steps in their order -/
def wdN (g : Rec) : Nat := ((f_X9_end g 0 1).toInt - (f_X9_end g 0 0).toInt).toNat + 1
def hgN (g : Rec) : Nat := ((f_X9_end g 1 1).toInt - (f_X9_end g 1 0).toInt).toNat + 1
def kx (g : Rec) (j : Nat) : Int32 := f_X9_end g 0 0 + nI (j / 8 % wdN g)
def ky (g : Rec) (j : Nat) : Int32 := f_X9_end g 1 0 + nI (j / 8 / wdN g)
def mk4 (g : Rec) (a b c d : Int32) : Rec := setG (setG (setG (setG g 18 a) 19 b) 20 c) 21 d
theorem mk4_18 (g : Rec) (a b c d : Int32) : (mk4 g a b c d).1 18 = a := by
  unfold mk4
  rw [setG_1, if_neg (by decide), setG_1, if_neg (by decide), setG_1, if_neg (by decide), setG_1, if_pos rfl]
theorem mk4_19 (g : Rec) (a b c d : Int32) : (mk4 g a b c d).1 19 = b := by
  unfold mk4
  rw [setG_1, if_neg (by decide), setG_1, if_neg (by decide), setG_1, if_pos rfl]
theorem mk4_20 (g : Rec) (a b c d : Int32) : (mk4 g a b c d).1 20 = c := by
  unfold mk4
  rw [setG_1, if_neg (by decide), setG_1, if_pos rfl]
theorem mk4_21 (g : Rec) (a b c d : Int32) : (mk4 g a b c d).1 21 = d := by
  unfold mk4
  rw [setG_1, if_pos rfl]
theorem mk4_o (g : Rec) (a b c d : Int32) (k : Nat) (h1 : k ≠ 18) (h2 : k ≠ 19) (h3 : k ≠ 20) (h4 : k ≠ 21) : (mk4 g a b c d).1 k = g.1 k := by
  unfold mk4
  rw [setG_1, if_neg h4, setG_1, if_neg h3, setG_1, if_neg h2, setG_1, if_neg h1]
theorem mk4_2 (g : Rec) (a b c d : Int32) : (mk4 g a b c d).2 = g.2 := rfl
theorem wide_b {K : Int32} {g : Rec} (hG : GI K g) (a : Int32) : 0 ≤ (f_X9_end g a 1).toInt - (f_X9_end g a 0).toInt ∧ (f_X9_end g a 1).toInt - (f_X9_end g a 0).toInt ≤ 5 := by
  have l := Int32.le_iff_toInt_le.mp (en_lh g a)
  refine ⟨by omega, ?_⟩
  have hW := gi_wd hG
  rcases en_all g a 1 with ⟨z, e1⟩ | ⟨_, ⟨c, c1, c2⟩, _⟩
  · rcases en_all g a 0 with ⟨_, e0⟩ | ⟨z0, _⟩
    · rw [e1, e0]; decide
    · exact absurd z0 z
  · rcases en_all g a 0 with ⟨z0, _⟩ | ⟨_, ⟨d, d1, d2⟩, _⟩
    · exact absurd ⟨c, c1⟩ z0
    · rw [← c2, ← d2]
      exact hW c d c1 d1 a
theorem wd_b {K : Int32} {g : Rec} (hG : GI K g) : 1 ≤ wdN g ∧ wdN g ≤ 6 ∧ 1 ≤ hgN g ∧ hgN g ≤ 6 := by
  have a := wide_b hG 0
  have b := wide_b hG 1
  unfold wdN hgN
  omega
theorem ends_i {K : Int32} {g : Rec} (hG : GI K g) (a b : Int32) : -1000 ≤ (f_X9_end g a b).toInt ∧ (f_X9_end g a b).toInt ≤ 1000 := by
  obtain ⟨n, hn, _, hgeo, _⟩ := gi_geo hG
  exact eb_of hn hgeo a b
theorem jj_b {w h : Nat} (h1 : w ≤ 6) (h2 : h ≤ 6) : 8 * w * h ≤ 288 := by
  have : w * h ≤ 6 * 6 := Nat.mul_le_mul h1 h2
  have e : 8 * w * h = 8 * (w * h) := Nat.mul_assoc 8 w h
  omega
theorem W_e {K : Int32} {g : Rec} (hG : GI K g) : f_X9_end g 0 1 - f_X9_end g 0 0 + 1 = nI (wdN g) ∧ f_X9_end g 1 1 - f_X9_end g 1 0 + 1 = nI (hgN g) := by
  have gen : ∀ a : Int32, f_X9_end g a 1 - f_X9_end g a 0 + 1 = nI (((f_X9_end g a 1).toInt - (f_X9_end g a 0).toInt).toNat + 1) := by
    intro a
    have w := wide_b hG a
    have b1 := ends_i hG a 1
    have b0 := ends_i hG a 0
    have e1 : (1 : Int32).toInt = 1 := by decide
    have s := n32_sub (x := f_X9_end g a 1) (y := f_X9_end g a 0) (by omega) (by omega)
    have t := n32_add (x := f_X9_end g a 1 - f_X9_end g a 0) (y := 1) (by rw [s, e1]; omega) (by rw [s, e1]; omega)
    apply Int32.toInt_inj.mp
    rw [t, s, e1, nI_toInt (by omega)]
    omega
  exact ⟨gen 0, gen 1⟩
theorem ps_all {K : Int32} {g : Rec} (hG : GI K g) {j : Nat} (hj : j < 1000) : p_X9_picksStep g (nI j) ∧ f_X9_picksStep g (nI j) = (if 8 * wdN g * hgN g ≤ j then 0 else 1, mk4 g (kx g j) (ky g j) (jw j) (jd j)) := by
  obtain ⟨w1, w2⟩ := W_e hG
  have w1' : f_X9_end g (Int32.ofInt 0) (Int32.ofInt 1) - f_X9_end g (Int32.ofInt 0) (Int32.ofInt 0) + Int32.ofInt 1 = nI (wdN g) := w1
  have w2' : f_X9_end g (Int32.ofInt 1) (Int32.ofInt 1) - f_X9_end g (Int32.ofInt 1) (Int32.ofInt 0) + Int32.ofInt 1 = nI (hgN g) := w2
  obtain ⟨b1, b2, b3, b4⟩ := wd_b hG
  have bb := jj_b b2 b4
  have e8 : nI j / Int32.ofInt 8 = nI (j / 8) := pk_div (a := j) (d := 8) (by omega) (by omega) (by omega)
  have er : nI (j / 8) - nI (j / 8) / nI (wdN g) * nI (wdN g) = nI (j / 8 % wdN g) := pk_rem (by omega) (by omega) (by omega)
  have ed : nI (j / 8) / nI (wdN g) = nI (j / 8 / wdN g) := pk_div (by omega) (by omega) (by omega)
  have ew : nI j / Int32.ofInt 2 - nI j / Int32.ofInt 2 / Int32.ofInt 4 * Int32.ofInt 4 = jw j := jw_e hj
  have ef : Int32.ofInt 1 + (nI j - nI j / Int32.ofInt 2 * Int32.ofInt 2) = jd j := by
    have := jd_e hj
    unfold f_X0_farOf at this
    rw [← this]
    grind
  have em : Int32.ofInt 8 * nI (wdN g) * nI (hgN g) = nI (8 * wdN g * hgN g) := by
    have a : Int32.ofInt 8 * nI (wdN g) = nI (8 * wdN g) := pk_mul 8 (wdN g)
    rw [a, pk_mul]
  have nz : ¬ nI (wdN g) = 0 := nI_ne0 (by omega) (by omega)
  unfold p_X9_picksStep f_X9_picksStep
  rw [w1', w2', e8, ew, ef, em, er, ed]
  have c1 : f_X9_end (setG (setG g 20 (jw j)) 21 (jd j)) (Int32.ofInt 0) (Int32.ofInt 0) = f_X9_end g 0 0 := end_cg rfl _ _
  rw [c1]
  have c2 : f_X9_end (setG (setG (setG g 18 (f_X9_end g 0 0 + nI (j / 8 % wdN g))) 20 (jw j)) 21 (jd j)) (Int32.ofInt 1) (Int32.ofInt 0) = f_X9_end g 1 0 := end_cg rfl _ _
  rw [c2]
  refine ⟨⟨pp_end .., pp_end .., pp_end .., pp_end .., pp_end .., nz, pp_end .., nz, trivial⟩, ?_⟩
  by_cases c : 8 * wdN g * hgN g ≤ j
  · rw [if_pos (nI_le c (by omega)), if_pos c]
    rfl
  · rw [if_neg (nI_ge (by omega) (by omega)), if_neg c]
    rfl
/-- each STEP that may be is one of those -/
theorem leg_k {K : Int32} {s p g : Rec} (hP : PR s p g) (hG : GI K g) {x y w d : Int32} (ho : okS w d) (hL : Leg g x y w d) : ∃ j, j < 8 * wdN g * hgN g ∧ x = kx g j ∧ y = ky g j ∧ w = jw j ∧ d = jd j := by
  obtain ⟨b1, b2, b3, b4⟩ := wd_b hG
  have hM := hP.2.2.1
  obtain ⟨_, _, a2, _⟩ := ru_some hM hL.2.1
  have ic : ¬ f_X9_isCell g (cO g (f_X9_rulerAt g x y)) = 0 ∧ co g 0 (cO g (f_X9_rulerAt g x y)) = x ∧ co g 1 (cO g (f_X9_rulerAt g x y)) = y := by
    have at' := a2.2
    unfold f_X9_isAt at at'
    by_cases z : f_X9_isCell g (cO g (f_X9_rulerAt g x y)) = 0
    · rw [if_pos z] at at'
      exact absurd rfl at'
    · rw [if_neg z] at at'
      by_cases z1 : g.2 4 (cO g (f_X9_rulerAt g x y)).toNatClampNeg = x
      · rw [if_pos z1] at at'
        by_cases z2 : g.2 5 (cO g (f_X9_rulerAt g x y)).toNatClampNeg = y
        · exact ⟨z, z1, z2⟩
        · rw [if_neg z2] at at'
          exact absurd rfl at'
      · rw [if_neg z1] at at'
        exact absurd rfl at'
  obtain ⟨ic, ex, ey⟩ := ic
  have lx := Int32.le_iff_toInt_le.mp (en_lo 0 ic)
  have hx := Int32.le_iff_toInt_le.mp (en_hi 0 ic)
  have ly := Int32.le_iff_toInt_le.mp (en_lo 1 ic)
  have hy := Int32.le_iff_toInt_le.mp (en_hi 1 ic)
  rw [ex] at lx hx
  rw [ey] at ly hy
  have ww := wide_b hG 0
  have wh := wide_b hG 1
  have q0 := ends_i hG 0 0
  have q1 := ends_i hG 1 0
  have xe : ∃ i, i < wdN g ∧ x = f_X9_end g 0 0 + nI i := by
    refine ⟨(x.toInt - (f_X9_end g 0 0).toInt).toNat, by unfold wdN; omega, ?_⟩
    have t := nI_toInt (n := (x.toInt - (f_X9_end g 0 0).toInt).toNat) (by omega)
    have a := n32_add (x := f_X9_end g 0 0) (y := nI (x.toInt - (f_X9_end g 0 0).toInt).toNat) (by rw [t]; omega) (by rw [t]; omega)
    apply Int32.toInt_inj.mp
    rw [a, t]
    omega
  have ye : ∃ i, i < hgN g ∧ y = f_X9_end g 1 0 + nI i := by
    refine ⟨(y.toInt - (f_X9_end g 1 0).toInt).toNat, by unfold hgN; omega, ?_⟩
    have t := nI_toInt (n := (y.toInt - (f_X9_end g 1 0).toInt).toNat) (by omega)
    have a := n32_add (x := f_X9_end g 1 0) (y := nI (y.toInt - (f_X9_end g 1 0).toInt).toNat) (by rw [t]; omega) (by rw [t]; omega)
    apply Int32.toInt_inj.mp
    rw [a, t]
    omega
  obtain ⟨i, i1, i2⟩ := xe
  obtain ⟨l, l1, l2⟩ := ye
  obtain ⟨w', hw', ew⟩ := nI_of2 (x := w) (M := 3) (n := 3) (by decide) (by have := ho.1; grind) ho.2.1
  have d12 : ∃ b, b < 2 ∧ d = nI (b + 1) := by
    rcases ho.2.2 with h | h
    · exact ⟨0, by omega, h⟩
    · exact ⟨1, by omega, h⟩
  obtain ⟨b, hb, ed⟩ := d12
  have q8 : (8 * (l * wdN g + i) + 2 * w' + b) / 8 = l * wdN g + i := by omega
  have qm : (l * wdN g + i) % wdN g = i := by rw [Nat.mul_add_mod_self_right, Nat.mod_eq_of_lt i1]
  have qd : (l * wdN g + i) / wdN g = l := by
    rw [Nat.mul_comm, Nat.mul_add_div (by omega), Nat.div_eq_of_lt i1]
    rfl
  refine ⟨8 * (l * wdN g + i) + 2 * w' + b, ?_, ?_, ?_, ?_, ?_⟩
  · have h1 : (l + 1) * wdN g ≤ hgN g * wdN g := Nat.mul_le_mul_right _ (by omega)
    have h2 : (l + 1) * wdN g = l * wdN g + wdN g := Nat.succ_mul l (wdN g)
    have h3 : 8 * wdN g * hgN g = 8 * (hgN g * wdN g) := by rw [Nat.mul_assoc, Nat.mul_comm (wdN g)]
    omega
  · unfold kx
    rw [q8, qm]; exact i2
  · unfold ky
    rw [q8, qd]; exact l2
  · unfold jw
    rw [show (8 * (l * wdN g + i) + 2 * w' + b) / 2 % 4 = w' by omega]; exact ew
  · unfold jd
    rw [show (8 * (l * wdN g + i) + 2 * w' + b) % 2 = b by omega]; exact ed
/-- the order of steps -/
def Kl (x y w d x' y' w' d' : Int32) : Prop := y.toInt < y'.toInt ∨ (y.toInt = y'.toInt ∧ (x.toInt < x'.toInt ∨ (x.toInt = x'.toInt ∧ (w.toInt < w'.toInt ∨ (w.toInt = w'.toInt ∧ d.toInt ≤ d'.toInt)))))
theorem kl_as {x y w d x' y' w' d' : Int32} (h1 : Kl x y w d x' y' w' d') (h2 : Kl x' y' w' d' x y w d) : x = x' ∧ y = y' ∧ w = w' ∧ d = d' := by
  unfold Kl at h1 h2
  refine ⟨Int32.toInt_inj.mp (by omega), Int32.toInt_inj.mp (by omega), Int32.toInt_inj.mp (by omega), Int32.toInt_inj.mp (by omega)⟩
theorem jw_i (j : Nat) : (jw j).toInt = ((j / 2 % 4 : Nat) : Int) := nI_toInt (by omega)
theorem jd_i (j : Nat) : (jd j).toInt = ((j % 2 + 1 : Nat) : Int) := nI_toInt (by omega)
theorem kl_k {K : Int32} {g : Rec} (hG : GI K g) {i j : Nat} (hij : i ≤ j) (hj : j < 1000) : Kl (kx g i) (ky g i) (jw i) (jd i) (kx g j) (ky g j) (jw j) (jd j) := by
  obtain ⟨b1, b2, b3, b4⟩ := wd_b hG
  have q0 := ends_i hG 0 0
  have q1 := ends_i hG 1 0
  have ex : ∀ t, t < 1000 → (kx g t).toInt = (f_X9_end g 0 0).toInt + ((t / 8 % wdN g : Nat) : Int) ∧ (ky g t).toInt = (f_X9_end g 1 0).toInt + ((t / 8 / wdN g : Nat) : Int) := by
    intro t ht
    have l1 : t / 8 % wdN g < wdN g := Nat.mod_lt _ (by omega)
    have l2 : t / 8 / wdN g ≤ t / 8 := Nat.div_le_self _ _
    unfold kx ky
    obtain ⟨u, hu⟩ : ∃ u, u = t / 8 % wdN g := ⟨_, rfl⟩
    obtain ⟨v, hv⟩ : ∃ v, v = t / 8 / wdN g := ⟨_, rfl⟩
    rw [← hu] at l1 ⊢
    rw [← hv] at l2 ⊢
    have t1 := nI_toInt (n := u) (by omega)
    have t2 := nI_toInt (n := v) (by omega)
    have a1 := n32_add (x := f_X9_end g 0 0) (y := nI u) (by rw [t1]; omega) (by rw [t1]; omega)
    have a2 := n32_add (x := f_X9_end g 1 0) (y := nI v) (by rw [t2]; omega) (by rw [t2]; omega)
    rw [t1] at a1
    rw [t2] at a2
    exact ⟨a1, a2⟩
  obtain ⟨x1, y1⟩ := ex i (by omega)
  obtain ⟨x2, y2⟩ := ex j hj
  unfold Kl
  rw [x1, y1, x2, y2, jw_i, jd_i, jw_i, jd_i]
  by_cases c : i / 8 = j / 8
  · rw [c]
    omega
  · have lt : i / 8 < j / 8 := by omega
    have m1 := Nat.div_add_mod (i / 8) (wdN g)
    have m2 := Nat.div_add_mod (j / 8) (wdN g)
    have d1 : i / 8 / wdN g ≤ j / 8 / wdN g := Nat.div_le_div_right (by omega)
    by_cases c2 : i / 8 / wdN g = j / 8 / wdN g
    · rw [c2] at m1 ⊢
      omega
    · omega
theorem kl_j {g : Rec} {ld : Nat → Nat} {cnt : Nat} (hl : LO g ld cnt 8) {i j : Nat} (hij : i ≤ j) (hj : j < 8 * cnt) : Kl (gx g (ld (i / 8))) (gy g (ld (i / 8))) (jw i) (jd i) (gx g (ld (j / 8))) (gy g (ld (j / 8))) (jw j) (jd j) := by
  unfold Kl
  rw [jw_i, jd_i, jw_i, jd_i]
  by_cases c : i / 8 = j / 8
  · rw [c]
    omega
  · have lt := hl.2.2.1 (i / 8) (j / 8) (by omega) (by omega)
    unfold Lt at lt
    omega
