/-! layer 3: the class's columns and rows: first like, positions, bend, outmost -/
def rc (f : Nat → Int32) : Rec := (fun _ => 0, fun _ => f)
def tI (f : Nat → Int32) (i : Nat) : Int := (f i).toInt
theorem tI_e {f : Nat → Int32} {i j : Nat} : tI f i = tI f j ↔ f i = f j := Int32.toInt_inj
theorem fk_loop (a : Nat → Int32) {i : Nat} (hi : i < 6) : ∀ (n j : Nat), j ≤ i → i < n + j → (∀ x, x < j → ¬ a x = a i) → p_X5_firstLike_2 n (rc a) (nI i) (nI j) ∧ ∃ f, f ≤ i ∧ f_X5_firstLike_2 n (rc a) (nI i) (nI j) = nI f ∧ a f = a i ∧ ∀ x, x < f → ¬ a x = a i := by
  intro n
  induction n with
  | zero => intro j h1 h2; omega
  | succ n ih =>
    intro j h1 h2 h3
    rw [f_X5_firstLike_2, p_X5_firstLike_2]
    by_cases c1 : i ≤ j
    · have l1 : nI i ≤ nI j := nI_le c1 (by omega)
      have e : j = i := by omega
      rw [if_pos l1]
      exact ⟨⟨fun _ => trivial, fun z => absurd l1 z⟩, j, h1, rfl, by rw [e], h3⟩
    · have l1 : ¬ nI i ≤ nI j := nI_ge (by omega) (by omega)
      have vj : vp_in (nI j) 6 := vp_in_nI (by omega) (by omega)
      have vi : vp_in (nI i) 6 := vp_in_nI (by omega) (by omega)
      rw [if_neg l1, nI_clamp (n := j) (by omega), nI_clamp (n := i) (by omega), ni1]
      by_cases c2 : (rc a).2 0 j = (rc a).2 0 i
      · rw [if_pos c2]
        exact ⟨⟨fun z => absurd z l1, fun _ => ⟨vj, vi, fun _ => trivial, fun z => absurd c2 z⟩⟩, j, h1, rfl, c2, h3⟩
      · rw [if_neg c2]
        obtain ⟨i1, i2⟩ := ih (j + 1) (by omega) (by omega) (fun x hx => by
          by_cases z : x = j
          · rw [z]; exact c2
          · exact h3 x (by omega))
        exact ⟨⟨fun z => absurd z l1, fun _ => ⟨vj, vi, fun z => absurd z c2, fun _ => i1⟩⟩, i2⟩
def flN (a : Nat → Int32) (i : Nat) : Nat := (f_X5_firstLike (rc a) (nI i)).toNatClampNeg
theorem fk_all (a : Nat → Int32) {i : Nat} (hi : i < 6) : p_X5_firstLike (rc a) (nI i) ∧ f_X5_firstLike (rc a) (nI i) = nI (flN a i) ∧ flN a i ≤ i ∧ a (flN a i) = a i ∧ ∀ x, x < flN a i → ¬ a x = a i := by
  obtain ⟨h1, f, h2, h3, h4, h5⟩ := fk_loop a hi 40 0 (by omega) (by omega) (fun x hx => by omega)
  have h3' : f_X5_firstLike (rc a) (nI i) = nI f := h3
  have e : flN a i = f := by
    unfold flN
    rw [h3', nI_clamp (by omega)]
  rw [e]
  exact ⟨h1, h3', h2, h4, h5⟩
theorem fk_eq (a : Nat → Int32) {i j : Nat} (hi : i < 6) (hj : j < 6) : flN a i = flN a j ↔ a i = a j := by
  obtain ⟨_, _, _, i4, i5⟩ := fk_all a hi
  obtain ⟨_, _, _, j4, j5⟩ := fk_all a hj
  constructor
  · intro e
    rw [← i4, e, j4]
  · intro e
    have k1 : ¬ flN a j < flN a i := fun z => i5 _ z (by rw [j4, e])
    have k2 : ¬ flN a i < flN a j := fun z => j5 _ z (by rw [i4, e])
    omega
def hS (s : Rec) (c : Nat) : Bool := decide (¬ s.2 8 c = 0)
theorem has_n (s : Rec) {c : Nat} (hc : c < 36) : f_X4_has s (nI c) = 0 ↔ hS s c = false := by
  unfold f_X4_has hS
  have w : ¬ f_X8_within (nI c) (Int32.ofInt 0) (Int32.ofInt 35) = 0 := wi_n.mpr ⟨nI_pos' (by omega), nI_le (a := c) (b := 35) (by omega) (by omega)⟩
  rw [if_neg w, nI_clamp (by omega), decide_eq_false_iff_not]
  by_cases z : s.2 8 c = 0
  · rw [if_pos z]; exact ⟨fun _ y => y z, fun _ => rfl⟩
  · rw [if_neg z]; exact ⟨fun y => absurd y (by decide), fun y => absurd z y⟩
def cod (ax ay : Nat → Int32) (c : Nat) : Nat := 6 * flN ay (d6 c) + flN ax (p6 c)
theorem cod_lt (ax ay : Nat → Int32) {c : Nat} (hc : c < 36) : cod ax ay c < 36 := by
  have a := (fk_all ay (d6_lt c hc)).2.2.1
  have b := (fk_all ax (p6_lt c hc)).2.2.1
  have := d6_lt c hc
  have := p6_lt c hc
  unfold cod
  omega
theorem cod_e (ax ay : Nat → Int32) {c o : Nat} (hc : c < 36) (ho : o < 36) : cod ax ay o = cod ax ay c ↔ (tI ax (p6 o) = tI ax (p6 c) ∧ tI ay (d6 o) = tI ay (d6 c)) := by
  rw [tI_e, tI_e, ← fk_eq ax (p6_lt o ho) (p6_lt c hc), ← fk_eq ay (d6_lt o ho) (d6_lt c hc)]
  have a1 := (fk_all ax (p6_lt o ho)).2.2.1
  have b1 := (fk_all ax (p6_lt c hc)).2.2.1
  have := p6_lt o ho
  have := p6_lt c hc
  unfold cod
  omega
/-- one more square seen -/
theorem see {s : Rec} {ax ay : Nat → Int32} {j seen : Nat} (hj : j < 36) (h1 : seen < 2 ^ 36) (h2 : ∀ b, b < 36 → (seen.testBit b = true ↔ ∃ c, c < j ∧ hS s c = true ∧ cod ax ay c = b)) (h3 : fb_ct (fun i => seen.testBit i) 40 = Pc (hS s) (tI ax) (tI ay) j) (hh : hS s j = true) :
    seen ||| 2 ^ cod ax ay j < 2 ^ 36 ∧ (∀ b, b < 36 → ((seen ||| 2 ^ cod ax ay j).testBit b = true ↔ ∃ c, c < j + 1 ∧ hS s c = true ∧ cod ax ay c = b)) ∧ fb_ct (fun i => (seen ||| 2 ^ cod ax ay j).testBit i) 40 = Pc (hS s) (tI ax) (tI ay) (j + 1) := by
  have lt := cod_lt ax ay hj
  have lt2 : 2 ^ cod ax ay j < 2 ^ 36 := Nat.pow_lt_pow_right (by decide) lt
  refine ⟨Nat.or_lt_two_pow h1 lt2, fun b hb => ?_, ?_⟩
  · rw [fb_bit_set, Bool.or_eq_true, h2 b hb, decide_eq_true_iff]
    constructor
    · rintro (⟨c, c1, c2, c3⟩ | e)
      · exact ⟨c, by omega, c2, c3⟩
      · exact ⟨j, by omega, hh, e.symm⟩
    · rintro ⟨c, c1, c2, c3⟩
      by_cases z : c = j
      · rw [z] at c3; exact Or.inr c3.symm
      · exact Or.inl ⟨c, by omega, c2, c3⟩
  · have e : (fun i => (seen ||| 2 ^ cod ax ay j).testBit i) = fun i => if i = cod ax ay j then true else seen.testBit i := by
      funext i
      rw [fb_bit_set]
      by_cases z : i = cod ax ay j
      · rw [if_pos z, decide_eq_true z, Bool.or_true]
      · rw [if_neg z, decide_eq_false z, Bool.or_false]
    have u := fb_ct_upd (fun i => seen.testBit i) true (i := cod ax ay j) (n := 40) (by omega)
    rw [e]
    have p : Pc (hS s) (tI ax) (tI ay) (j + 1) = Pc (hS s) (tI ax) (tI ay) j + (if (hS s j && nfs (hS s) (tI ax) (tI ay) j j) then 1 else 0) := fb_ct_succ _ j
    rw [p, ← h3, hh, Bool.true_and]
    by_cases z : seen.testBit (cod ax ay j) = true
    · obtain ⟨c, c1, c2, c3⟩ := (h2 _ lt).mp z
      have nn : nfs (hS s) (tI ax) (tI ay) j j = false := by
        cases q : nfs (hS s) (tI ax) (tI ay) j j with
        | false => rfl
        | true => exact absurd ((cod_e ax ay hj (by omega)).mp c3) (nfs_iff j |>.mp q c c1 c2)
      rw [nn]
      have u' : fb_ct (fun k => if k = cod ax ay j then true else seen.testBit k) 40 + 1 = fb_ct (fun i => seen.testBit i) 40 + 1 := by
        rw [if_pos z, if_pos rfl] at u; exact u
      show _ = _ + 0
      omega
    · have nn : nfs (hS s) (tI ax) (tI ay) j j = true := by
        rw [nfs_iff]
        intro c c1 c2 c3
        exact z ((h2 _ lt).mpr ⟨c, c1, c2, (cod_e ax ay hj (by omega)).mpr c3⟩)
      rw [nn]
      have u' : fb_ct (fun k => if k = cod ax ay j then true else seen.testBit k) 40 + 0 = fb_ct (fun i => seen.testBit i) 40 + 1 := by
        rw [if_neg z, if_pos rfl] at u; exact u
      show _ = _ + 1
      omega
theorem pos_0 (q s : Rec) : ∀ (n j seen : Nat), j ≤ 36 → 36 < n + j → seen < 2 ^ 36 → (∀ b, b < 36 → (seen.testBit b = true ↔ ∃ c, c < j ∧ hS s c = true ∧ cod (q.2 100) (q.2 200) c = b)) → fb_ct (fun i => seen.testBit i) 40 = Pc (hS s) (tI (q.2 100)) (tI (q.2 200)) j → p_X5_positions_c0_5 n q s (lN seen) (nI j) ∧ f_X5_positions_c0_5 n q s (lN seen) (nI j) = nI (Pc (hS s) (tI (q.2 100)) (tI (q.2 200)) 36) := by
  intro n
  induction n with
  | zero => intro j seen h1 h2; omega
  | succ n ih =>
    intro j seen h1 h2 h3 h4 h5
    rw [f_X5_positions_c0_5, p_X5_positions_c0_5]
    by_cases c1 : j = 36
    · have l1 : Int32.ofInt 36 ≤ nI j := by rw [c1]; decide
      rw [if_pos l1, bc_all (by omega), h5, c1]
      rw [c1] at l1
      exact ⟨⟨fun _ => ⟨trivial, trivial⟩, fun z => absurd l1 z⟩, rfl⟩
    · have l1 : ¬ Int32.ofInt 36 ≤ nI j := nI_ge (a := j) (b := 36) (by omega) (by omega)
      rw [if_neg l1, ni1]
      by_cases c2 : f_X4_has s (nI j) = 0
      · have hf := (has_n s (by omega)).mp c2
        rw [if_pos c2]
        obtain ⟨i1, i2⟩ := ih (j + 1) seen (by omega) (by omega) h3 (fun b hb => by
          rw [h4 b hb]
          constructor
          · rintro ⟨c, k1, k2, k3⟩
            exact ⟨c, by omega, k2, k3⟩
          · rintro ⟨c, k1, k2, k3⟩
            refine ⟨c, ?_, k2, k3⟩
            by_cases z : c = j
            · rw [z, hf] at k2; exact absurd k2 (by decide)
            · omega) (by
          have p : Pc (hS s) (tI (q.2 100)) (tI (q.2 200)) (j + 1) = Pc (hS s) (tI (q.2 100)) (tI (q.2 200)) j + (if (hS s j && nfs (hS s) (tI (q.2 100)) (tI (q.2 200)) j j) then 1 else 0) := fb_ct_succ _ j
          rw [p, hf, Bool.false_and]
          exact h5)
        exact ⟨⟨fun z => absurd z l1, fun _ => ⟨pl_has .., fun _ => i1, fun z => absurd c2 z⟩⟩, i2⟩
      · have hf : hS s j = true := by
          cases z : hS s j with
          | false => exact absurd ((has_n s (by omega)).mpr z) c2
          | true => rfl
        rw [if_neg c2]
        have e6 : Int32.ofInt 6 = nI 6 := rfl
        have ed : nI j / Int32.ofInt 6 = nI (d6 j) := pk_div (a := j) (d := 6) (by omega) (by omega) (by omega)
        have er : nI j - nI (d6 j) * Int32.ofInt 6 = nI (p6 j) := by
          rw [← ed]
          exact pk_rem (a := j) (d := 6) (by omega) (by omega) (by omega)
        rw [ed, er]
        obtain ⟨a1, a2, _⟩ := fk_all (q.2 200) (d6_lt j (by omega))
        obtain ⟨b1, b2, _⟩ := fk_all (q.2 100) (p6_lt j (by omega))
        have a2' : f_X5_firstLike ((fun _ => 0, fun _ => (q.2 200)) : Rec) (nI (d6 j)) = nI (flN (q.2 200) (d6 j)) := a2
        have b2' : f_X5_firstLike ((fun _ => 0, fun _ => (q.2 100)) : Rec) (nI (p6 j)) = nI (flN (q.2 100) (p6 j)) := b2
        have ec : (Int64.ofNat 1) <<< (Int32.toInt64 (Int32.ofInt 6 * nI (flN (q.2 200) (d6 j)) + nI (flN (q.2 100) (p6 j))) &&& 63) = lN (2 ^ cod (q.2 100) (q.2 200) j) := by
          rw [e6, pk_mul, nI_add]
          have := wb_shl 1 (k := cod (q.2 100) (q.2 200) j) (by have := cod_lt (q.2 100) (q.2 200) (c := j) (by omega); omega)
          rw [Nat.one_mul] at this
          exact this
        rw [a2', b2', ec, fb_orL]
        obtain ⟨s1, s2, s3⟩ := see (by omega) h3 h4 h5 hf
        obtain ⟨i1, i2⟩ := ih (j + 1) _ (by omega) (by omega) s1 s2 s3
        exact ⟨⟨fun z => absurd z l1, fun _ => ⟨pl_has .., fun z => absurd z c2, fun _ => ⟨a1, b1, i1⟩⟩⟩, i2⟩
theorem posa_0 (q s : Rec) : p_X5_positions_c0 q s ∧ f_X5_positions_c0 q s = nI (Pc (hS s) (tI (q.2 100)) (tI (q.2 200)) 36) := by
  refine pos_0 q s 40 0 0 (by omega) (by omega) (by decide) (fun b _ => ?_) ?_
  · rw [Nat.zero_testBit]
    exact ⟨fun z => absurd z (by decide), fun ⟨c, c1, _⟩ => by omega⟩
  · have : (fun i => (0 : Nat).testBit i) = fun _ => false := by
      funext i
      rw [Nat.zero_testBit]
    rw [this]
    rfl
theorem pos_1 (q s : Rec) : ∀ (n j seen : Nat), j ≤ 36 → 36 < n + j → seen < 2 ^ 36 → (∀ b, b < 36 → (seen.testBit b = true ↔ ∃ c, c < j ∧ hS s c = true ∧ cod (q.2 101) (q.2 201) c = b)) → fb_ct (fun i => seen.testBit i) 40 = Pc (hS s) (tI (q.2 101)) (tI (q.2 201)) j → p_X5_positions_c1_5 n q s (lN seen) (nI j) ∧ f_X5_positions_c1_5 n q s (lN seen) (nI j) = nI (Pc (hS s) (tI (q.2 101)) (tI (q.2 201)) 36) := by
  intro n
  induction n with
  | zero => intro j seen h1 h2; omega
  | succ n ih =>
    intro j seen h1 h2 h3 h4 h5
    rw [f_X5_positions_c1_5, p_X5_positions_c1_5]
    by_cases c1 : j = 36
    · have l1 : Int32.ofInt 36 ≤ nI j := by rw [c1]; decide
      rw [if_pos l1, bc_all (by omega), h5, c1]
      rw [c1] at l1
      exact ⟨⟨fun _ => ⟨trivial, trivial⟩, fun z => absurd l1 z⟩, rfl⟩
    · have l1 : ¬ Int32.ofInt 36 ≤ nI j := nI_ge (a := j) (b := 36) (by omega) (by omega)
      rw [if_neg l1, ni1]
      by_cases c2 : f_X4_has s (nI j) = 0
      · have hf := (has_n s (by omega)).mp c2
        rw [if_pos c2]
        obtain ⟨i1, i2⟩ := ih (j + 1) seen (by omega) (by omega) h3 (fun b hb => by
          rw [h4 b hb]
          constructor
          · rintro ⟨c, k1, k2, k3⟩
            exact ⟨c, by omega, k2, k3⟩
          · rintro ⟨c, k1, k2, k3⟩
            refine ⟨c, ?_, k2, k3⟩
            by_cases z : c = j
            · rw [z, hf] at k2; exact absurd k2 (by decide)
            · omega) (by
          have p : Pc (hS s) (tI (q.2 101)) (tI (q.2 201)) (j + 1) = Pc (hS s) (tI (q.2 101)) (tI (q.2 201)) j + (if (hS s j && nfs (hS s) (tI (q.2 101)) (tI (q.2 201)) j j) then 1 else 0) := fb_ct_succ _ j
          rw [p, hf, Bool.false_and]
          exact h5)
        exact ⟨⟨fun z => absurd z l1, fun _ => ⟨pl_has .., fun _ => i1, fun z => absurd c2 z⟩⟩, i2⟩
      · have hf : hS s j = true := by
          cases z : hS s j with
          | false => exact absurd ((has_n s (by omega)).mpr z) c2
          | true => rfl
        rw [if_neg c2]
        have e6 : Int32.ofInt 6 = nI 6 := rfl
        have ed : nI j / Int32.ofInt 6 = nI (d6 j) := pk_div (a := j) (d := 6) (by omega) (by omega) (by omega)
        have er : nI j - nI (d6 j) * Int32.ofInt 6 = nI (p6 j) := by
          rw [← ed]
          exact pk_rem (a := j) (d := 6) (by omega) (by omega) (by omega)
        rw [ed, er]
        obtain ⟨a1, a2, _⟩ := fk_all (q.2 201) (d6_lt j (by omega))
        obtain ⟨b1, b2, _⟩ := fk_all (q.2 101) (p6_lt j (by omega))
        have a2' : f_X5_firstLike ((fun _ => 0, fun _ => (q.2 201)) : Rec) (nI (d6 j)) = nI (flN (q.2 201) (d6 j)) := a2
        have b2' : f_X5_firstLike ((fun _ => 0, fun _ => (q.2 101)) : Rec) (nI (p6 j)) = nI (flN (q.2 101) (p6 j)) := b2
        have ec : (Int64.ofNat 1) <<< (Int32.toInt64 (Int32.ofInt 6 * nI (flN (q.2 201) (d6 j)) + nI (flN (q.2 101) (p6 j))) &&& 63) = lN (2 ^ cod (q.2 101) (q.2 201) j) := by
          rw [e6, pk_mul, nI_add]
          have := wb_shl 1 (k := cod (q.2 101) (q.2 201) j) (by have := cod_lt (q.2 101) (q.2 201) (c := j) (by omega); omega)
          rw [Nat.one_mul] at this
          exact this
        rw [a2', b2', ec, fb_orL]
        obtain ⟨s1, s2, s3⟩ := see (by omega) h3 h4 h5 hf
        obtain ⟨i1, i2⟩ := ih (j + 1) _ (by omega) (by omega) s1 s2 s3
        exact ⟨⟨fun z => absurd z l1, fun _ => ⟨pl_has .., fun z => absurd z c2, fun _ => ⟨a1, b1, i1⟩⟩⟩, i2⟩
theorem posa_1 (q s : Rec) : p_X5_positions_c1 q s ∧ f_X5_positions_c1 q s = nI (Pc (hS s) (tI (q.2 101)) (tI (q.2 201)) 36) := by
  refine pos_1 q s 40 0 0 (by omega) (by omega) (by decide) (fun b _ => ?_) ?_
  · rw [Nat.zero_testBit]
    exact ⟨fun z => absurd z (by decide), fun ⟨c, c1, _⟩ => by omega⟩
  · have : (fun i => (0 : Nat).testBit i) = fun _ => false := by
      funext i
      rw [Nat.zero_testBit]
    rw [this]
    rfl
theorem pos_2 (q s : Rec) : ∀ (n j seen : Nat), j ≤ 36 → 36 < n + j → seen < 2 ^ 36 → (∀ b, b < 36 → (seen.testBit b = true ↔ ∃ c, c < j ∧ hS s c = true ∧ cod (q.2 102) (q.2 202) c = b)) → fb_ct (fun i => seen.testBit i) 40 = Pc (hS s) (tI (q.2 102)) (tI (q.2 202)) j → p_X5_positions_c2_5 n q s (lN seen) (nI j) ∧ f_X5_positions_c2_5 n q s (lN seen) (nI j) = nI (Pc (hS s) (tI (q.2 102)) (tI (q.2 202)) 36) := by
  intro n
  induction n with
  | zero => intro j seen h1 h2; omega
  | succ n ih =>
    intro j seen h1 h2 h3 h4 h5
    rw [f_X5_positions_c2_5, p_X5_positions_c2_5]
    by_cases c1 : j = 36
    · have l1 : Int32.ofInt 36 ≤ nI j := by rw [c1]; decide
      rw [if_pos l1, bc_all (by omega), h5, c1]
      rw [c1] at l1
      exact ⟨⟨fun _ => ⟨trivial, trivial⟩, fun z => absurd l1 z⟩, rfl⟩
    · have l1 : ¬ Int32.ofInt 36 ≤ nI j := nI_ge (a := j) (b := 36) (by omega) (by omega)
      rw [if_neg l1, ni1]
      by_cases c2 : f_X4_has s (nI j) = 0
      · have hf := (has_n s (by omega)).mp c2
        rw [if_pos c2]
        obtain ⟨i1, i2⟩ := ih (j + 1) seen (by omega) (by omega) h3 (fun b hb => by
          rw [h4 b hb]
          constructor
          · rintro ⟨c, k1, k2, k3⟩
            exact ⟨c, by omega, k2, k3⟩
          · rintro ⟨c, k1, k2, k3⟩
            refine ⟨c, ?_, k2, k3⟩
            by_cases z : c = j
            · rw [z, hf] at k2; exact absurd k2 (by decide)
            · omega) (by
          have p : Pc (hS s) (tI (q.2 102)) (tI (q.2 202)) (j + 1) = Pc (hS s) (tI (q.2 102)) (tI (q.2 202)) j + (if (hS s j && nfs (hS s) (tI (q.2 102)) (tI (q.2 202)) j j) then 1 else 0) := fb_ct_succ _ j
          rw [p, hf, Bool.false_and]
          exact h5)
        exact ⟨⟨fun z => absurd z l1, fun _ => ⟨pl_has .., fun _ => i1, fun z => absurd c2 z⟩⟩, i2⟩
      · have hf : hS s j = true := by
          cases z : hS s j with
          | false => exact absurd ((has_n s (by omega)).mpr z) c2
          | true => rfl
        rw [if_neg c2]
        have e6 : Int32.ofInt 6 = nI 6 := rfl
        have ed : nI j / Int32.ofInt 6 = nI (d6 j) := pk_div (a := j) (d := 6) (by omega) (by omega) (by omega)
        have er : nI j - nI (d6 j) * Int32.ofInt 6 = nI (p6 j) := by
          rw [← ed]
          exact pk_rem (a := j) (d := 6) (by omega) (by omega) (by omega)
        rw [ed, er]
        obtain ⟨a1, a2, _⟩ := fk_all (q.2 202) (d6_lt j (by omega))
        obtain ⟨b1, b2, _⟩ := fk_all (q.2 102) (p6_lt j (by omega))
        have a2' : f_X5_firstLike ((fun _ => 0, fun _ => (q.2 202)) : Rec) (nI (d6 j)) = nI (flN (q.2 202) (d6 j)) := a2
        have b2' : f_X5_firstLike ((fun _ => 0, fun _ => (q.2 102)) : Rec) (nI (p6 j)) = nI (flN (q.2 102) (p6 j)) := b2
        have ec : (Int64.ofNat 1) <<< (Int32.toInt64 (Int32.ofInt 6 * nI (flN (q.2 202) (d6 j)) + nI (flN (q.2 102) (p6 j))) &&& 63) = lN (2 ^ cod (q.2 102) (q.2 202) j) := by
          rw [e6, pk_mul, nI_add]
          have := wb_shl 1 (k := cod (q.2 102) (q.2 202) j) (by have := cod_lt (q.2 102) (q.2 202) (c := j) (by omega); omega)
          rw [Nat.one_mul] at this
          exact this
        rw [a2', b2', ec, fb_orL]
        obtain ⟨s1, s2, s3⟩ := see (by omega) h3 h4 h5 hf
        obtain ⟨i1, i2⟩ := ih (j + 1) _ (by omega) (by omega) s1 s2 s3
        exact ⟨⟨fun z => absurd z l1, fun _ => ⟨pl_has .., fun z => absurd z c2, fun _ => ⟨a1, b1, i1⟩⟩⟩, i2⟩
theorem posa_2 (q s : Rec) : p_X5_positions_c2 q s ∧ f_X5_positions_c2 q s = nI (Pc (hS s) (tI (q.2 102)) (tI (q.2 202)) 36) := by
  refine pos_2 q s 40 0 0 (by omega) (by omega) (by decide) (fun b _ => ?_) ?_
  · rw [Nat.zero_testBit]
    exact ⟨fun z => absurd z (by decide), fun ⟨c, c1, _⟩ => by omega⟩
  · have : (fun i => (0 : Nat).testBit i) = fun _ => false := by
      funext i
      rw [Nat.zero_testBit]
    rw [this]
    rfl
theorem pos_3 (q s : Rec) : ∀ (n j seen : Nat), j ≤ 36 → 36 < n + j → seen < 2 ^ 36 → (∀ b, b < 36 → (seen.testBit b = true ↔ ∃ c, c < j ∧ hS s c = true ∧ cod (q.2 103) (q.2 203) c = b)) → fb_ct (fun i => seen.testBit i) 40 = Pc (hS s) (tI (q.2 103)) (tI (q.2 203)) j → p_X5_positions_c3_5 n q s (lN seen) (nI j) ∧ f_X5_positions_c3_5 n q s (lN seen) (nI j) = nI (Pc (hS s) (tI (q.2 103)) (tI (q.2 203)) 36) := by
  intro n
  induction n with
  | zero => intro j seen h1 h2; omega
  | succ n ih =>
    intro j seen h1 h2 h3 h4 h5
    rw [f_X5_positions_c3_5, p_X5_positions_c3_5]
    by_cases c1 : j = 36
    · have l1 : Int32.ofInt 36 ≤ nI j := by rw [c1]; decide
      rw [if_pos l1, bc_all (by omega), h5, c1]
      rw [c1] at l1
      exact ⟨⟨fun _ => ⟨trivial, trivial⟩, fun z => absurd l1 z⟩, rfl⟩
    · have l1 : ¬ Int32.ofInt 36 ≤ nI j := nI_ge (a := j) (b := 36) (by omega) (by omega)
      rw [if_neg l1, ni1]
      by_cases c2 : f_X4_has s (nI j) = 0
      · have hf := (has_n s (by omega)).mp c2
        rw [if_pos c2]
        obtain ⟨i1, i2⟩ := ih (j + 1) seen (by omega) (by omega) h3 (fun b hb => by
          rw [h4 b hb]
          constructor
          · rintro ⟨c, k1, k2, k3⟩
            exact ⟨c, by omega, k2, k3⟩
          · rintro ⟨c, k1, k2, k3⟩
            refine ⟨c, ?_, k2, k3⟩
            by_cases z : c = j
            · rw [z, hf] at k2; exact absurd k2 (by decide)
            · omega) (by
          have p : Pc (hS s) (tI (q.2 103)) (tI (q.2 203)) (j + 1) = Pc (hS s) (tI (q.2 103)) (tI (q.2 203)) j + (if (hS s j && nfs (hS s) (tI (q.2 103)) (tI (q.2 203)) j j) then 1 else 0) := fb_ct_succ _ j
          rw [p, hf, Bool.false_and]
          exact h5)
        exact ⟨⟨fun z => absurd z l1, fun _ => ⟨pl_has .., fun _ => i1, fun z => absurd c2 z⟩⟩, i2⟩
      · have hf : hS s j = true := by
          cases z : hS s j with
          | false => exact absurd ((has_n s (by omega)).mpr z) c2
          | true => rfl
        rw [if_neg c2]
        have e6 : Int32.ofInt 6 = nI 6 := rfl
        have ed : nI j / Int32.ofInt 6 = nI (d6 j) := pk_div (a := j) (d := 6) (by omega) (by omega) (by omega)
        have er : nI j - nI (d6 j) * Int32.ofInt 6 = nI (p6 j) := by
          rw [← ed]
          exact pk_rem (a := j) (d := 6) (by omega) (by omega) (by omega)
        rw [ed, er]
        obtain ⟨a1, a2, _⟩ := fk_all (q.2 203) (d6_lt j (by omega))
        obtain ⟨b1, b2, _⟩ := fk_all (q.2 103) (p6_lt j (by omega))
        have a2' : f_X5_firstLike ((fun _ => 0, fun _ => (q.2 203)) : Rec) (nI (d6 j)) = nI (flN (q.2 203) (d6 j)) := a2
        have b2' : f_X5_firstLike ((fun _ => 0, fun _ => (q.2 103)) : Rec) (nI (p6 j)) = nI (flN (q.2 103) (p6 j)) := b2
        have ec : (Int64.ofNat 1) <<< (Int32.toInt64 (Int32.ofInt 6 * nI (flN (q.2 203) (d6 j)) + nI (flN (q.2 103) (p6 j))) &&& 63) = lN (2 ^ cod (q.2 103) (q.2 203) j) := by
          rw [e6, pk_mul, nI_add]
          have := wb_shl 1 (k := cod (q.2 103) (q.2 203) j) (by have := cod_lt (q.2 103) (q.2 203) (c := j) (by omega); omega)
          rw [Nat.one_mul] at this
          exact this
        rw [a2', b2', ec, fb_orL]
        obtain ⟨s1, s2, s3⟩ := see (by omega) h3 h4 h5 hf
        obtain ⟨i1, i2⟩ := ih (j + 1) _ (by omega) (by omega) s1 s2 s3
        exact ⟨⟨fun z => absurd z l1, fun _ => ⟨pl_has .., fun z => absurd z c2, fun _ => ⟨a1, b1, i1⟩⟩⟩, i2⟩
theorem posa_3 (q s : Rec) : p_X5_positions_c3 q s ∧ f_X5_positions_c3 q s = nI (Pc (hS s) (tI (q.2 103)) (tI (q.2 203)) 36) := by
  refine pos_3 q s 40 0 0 (by omega) (by omega) (by decide) (fun b _ => ?_) ?_
  · rw [Nat.zero_testBit]
    exact ⟨fun z => absurd z (by decide), fun ⟨c, c1, _⟩ => by omega⟩
  · have : (fun i => (0 : Nat).testBit i) = fun _ => false := by
      funext i
      rw [Nat.zero_testBit]
    rw [this]
    rfl
theorem bn_loop (a : Nat → Int32) (b1 l : Int32) : ∀ (n j : Nat) (b : Rec), j ≤ 6 → 6 < n + j → (∀ i, i < j → b.2 0 i = if b1 = 0 then a i else if f_X8_turns (a i) l 0 = 0 then a i else f_X8_mirrored (a i) l) → p_X5_bend_3 n (rc a) b b1 l (nI j) ∧ ∀ i, i < 6 → (f_X5_bend_3 n (rc a) b b1 l (nI j)).2 0 i = if b1 = 0 then a i else if f_X8_turns (a i) l 0 = 0 then a i else f_X8_mirrored (a i) l := by
  intro n
  induction n with
  | zero => intro j b h1 h2; omega
  | succ n ih =>
    intro j b h1 h2 h3
    rw [f_X5_bend_3, p_X5_bend_3]
    by_cases c1 : j = 6
    · have l1 : Int32.ofInt 6 ≤ nI j := by rw [c1]; decide
      rw [if_pos l1]
      exact ⟨⟨fun _ => trivial, fun z => absurd l1 z⟩, fun i hi => h3 i (by omega)⟩
    · have l1 : ¬ Int32.ofInt 6 ≤ nI j := nI_ge (a := j) (b := 6) (by omega) (by omega)
      have vj : vp_in (nI j) 6 := vp_in_nI (by omega) (by omega)
      rw [if_neg l1, nI_clamp (n := j) (by omega), ni1]
      have st : ∀ x : Int32, (x = if b1 = 0 then a j else if f_X8_turns (a j) l 0 = 0 then a j else f_X8_mirrored (a j) l) → p_X5_bend_3 n (rc a) (setA b 0 (upd (b.2 0) j x)) b1 l (nI (j + 1)) ∧ ∀ i, i < 6 → (f_X5_bend_3 n (rc a) (setA b 0 (upd (b.2 0) j x)) b1 l (nI (j + 1))).2 0 i = if b1 = 0 then a i else if f_X8_turns (a i) l 0 = 0 then a i else f_X8_mirrored (a i) l := by
        intro x hx
        refine ih (j + 1) _ (by omega) (by omega) (fun i hi => ?_)
        rw [setA_at, upd_at]
        by_cases z : i = j
        · rw [if_pos z, z]; exact hx
        · rw [if_neg z]; exact h3 i (by omega)
      by_cases c2 : b1 = 0
      · rw [if_pos c2]
        obtain ⟨i1, i2⟩ := st ((rc a).2 0 j) (by rw [if_pos c2]; rfl)
        exact ⟨⟨fun z => absurd z l1, fun _ => ⟨fun _ => ⟨vj, vj, i1⟩, fun z => absurd c2 z⟩⟩, i2⟩
      · rw [if_neg c2]
        by_cases c3 : f_X8_turns ((rc a).2 0 j) l (Int32.ofInt 0) = 0
        · rw [if_pos c3]
          obtain ⟨i1, i2⟩ := st ((rc a).2 0 j) (by rw [if_neg c2, if_pos (show f_X8_turns (a j) l 0 = 0 from c3)]; rfl)
          exact ⟨⟨fun z => absurd z l1, fun _ => ⟨fun z => absurd z c2, fun _ => ⟨vj, fun _ => ⟨vj, vj, i1⟩, fun z => absurd c3 z⟩⟩⟩, i2⟩
        · rw [if_neg c3]
          obtain ⟨i1, i2⟩ := st (f_X8_mirrored ((rc a).2 0 j) l) (by rw [if_neg c2, if_neg (show ¬ f_X8_turns (a j) l 0 = 0 from c3)]; rfl)
          exact ⟨⟨fun z => absurd z l1, fun _ => ⟨fun z => absurd z c2, fun _ => ⟨vj, fun z => absurd z c3, fun _ => ⟨vj, vj, i1⟩⟩⟩⟩, i2⟩
theorem be_all (a b : Nat → Int32) (b1 l : Int32) : p_X5_bend (rc a) (rc b) b1 l ∧ ∀ i, i < 6 → (f_X5_bend (rc a) (rc b) b1 l).2 0 i = if b1 = 0 then a i else if f_X8_turns (a i) l 0 = 0 then a i else f_X8_mirrored (a i) l := bn_loop a b1 l 40 0 (rc b) (by omega) (by omega) (fun i hi => by omega)
def Bo (a : Nat → Int32) (B : Int) : Prop := ∀ i, i < 6 → -B ≤ (a i).toInt ∧ (a i).toInt ≤ B
theorem mir_i {x l : Int32} {B : Int} (hB : B ≤ 1000) (h1 : -B ≤ x.toInt) (h2 : x.toInt ≤ B) (h3 : -B ≤ l.toInt) (h4 : l.toInt ≤ B) : (f_X8_mirrored x l).toInt = 2 * l.toInt - 1 - x.toInt := by
  unfold f_X8_mirrored
  have e2 : (Int32.ofInt 2).toInt = 2 := by decide
  have e1 : (Int32.ofInt 1).toInt = 1 := by decide
  have m := n32_mul (x := Int32.ofInt 2) (y := l) (by rw [e2]; omega) (by rw [e2]; omega)
  rw [e2] at m
  have s1 := n32_sub (x := Int32.ofInt 2 * l) (y := Int32.ofInt 1) (by rw [m, e1]; omega) (by rw [m, e1]; omega)
  rw [m, e1] at s1
  have s2 := n32_sub (x := Int32.ofInt 2 * l - Int32.ofInt 1) (y := x) (by rw [s1]; omega) (by rw [s1]; omega)
  rw [s1] at s2
  exact s2
theorem be_1 {a b : Nat → Int32} {l : Int32} {B : Int} (hB : B ≤ 1000) (ha : Bo a B) (h3 : -B ≤ l.toInt) (h4 : l.toInt ≤ B) : (∀ i, i < 6 → tI ((f_X5_bend (rc a) (rc b) (Int32.ofInt 1) l).2 0) i = bd (tI a) l.toInt 0 i) ∧ Bo ((f_X5_bend (rc a) (rc b) (Int32.ofInt 1) l).2 0) (3 * B + 1) := by
  have e : ∀ i, i < 6 → tI ((f_X5_bend (rc a) (rc b) (Int32.ofInt 1) l).2 0) i = bd (tI a) l.toInt 0 i := by
    intro i hi
    unfold tI
    rw [(be_all a b (Int32.ofInt 1) l).2 i hi, bd_0, if_neg (by decide)]
    unfold f_X8_turns
    rw [if_pos rfl]
    by_cases z : a i < l
    · have z' := Int32.lt_iff_toInt_lt.mp z
      rw [if_pos z, if_pos (show Int32.ofInt 0 = 0 from rfl), if_neg (by omega)]
    · have z' : l.toInt ≤ (a i).toInt := by
        exact Int32.le_iff_toInt_le.mp (Int32.not_lt.mp z)
      rw [if_neg z, if_neg (by decide), if_pos z']
      exact mir_i hB (ha i hi).1 (ha i hi).2 h3 h4
  refine ⟨e, fun i hi => ?_⟩
  have := e i hi
  unfold tI at this
  rw [this, bd_0]
  have := ha i hi
  by_cases z : l.toInt ≤ (a i).toInt
  · rw [if_pos z]; omega
  · rw [if_neg z]; omega
theorem be_0 {a b : Nat → Int32} {l : Int32} {B : Int} (hB : 0 ≤ B) (ha : Bo a B) : (∀ i, i < 6 → tI ((f_X5_bend (rc a) (rc b) (Int32.ofInt 0) l).2 0) i = tI a i) ∧ Bo ((f_X5_bend (rc a) (rc b) (Int32.ofInt 0) l).2 0) (3 * B + 1) := by
  have e : ∀ i, i < 6 → (f_X5_bend (rc a) (rc b) (Int32.ofInt 0) l).2 0 i = a i := by
    intro i hi
    rw [(be_all a b (Int32.ofInt 0) l).2 i hi, if_pos (show Int32.ofInt 0 = 0 from rfl)]
  refine ⟨fun i hi => by unfold tI; rw [e i hi], fun i hi => ?_⟩
  rw [e i hi]
  have := ha i hi
  omega
/-- the least or the greatest of those that are used -/
def OmI (a b : Nat → Int32) (g : Int32) (j : Nat) (v3 v4 : Int32) : Prop := (v3 = 0 ∧ v4 = 0 ∧ ∀ i, i < j → b i = 0) ∨ (v3 = 1 ∧ (∃ i, i < j ∧ ¬ b i = 0 ∧ a i = v4) ∧ ∀ i, i < j → ¬ b i = 0 → if g = 0 then v4 ≤ a i else a i ≤ v4)
theorem om_loop (a b : Nat → Int32) (g : Int32) : ∀ (n j : Nat) (v3 v4 : Int32), j ≤ 6 → 6 < n + j → OmI a b g j v3 v4 → p_X5_outmost_8 n (rc a) (rc b) g v3 v4 (nI j) ∧ ∃ u, OmI a b g 6 u (f_X5_outmost_8 n (rc a) (rc b) g v3 v4 (nI j)) := by
  intro n
  induction n with
  | zero => intro j v3 v4 h1 h2; omega
  | succ n ih =>
    intro j v3 v4 h1 h2 h3
    rw [f_X5_outmost_8, p_X5_outmost_8]
    by_cases c1 : j = 6
    · have l1 : Int32.ofInt 6 ≤ nI j := by rw [c1]; decide
      rw [if_pos l1]
      rw [c1] at h3
      exact ⟨⟨fun _ => trivial, fun z => absurd l1 z⟩, v3, h3⟩
    · have l1 : ¬ Int32.ofInt 6 ≤ nI j := nI_ge (a := j) (b := 6) (by omega) (by omega)
      have vj : vp_in (nI j) 6 := vp_in_nI (by omega) (by omega)
      rw [if_neg l1, nI_clamp (n := j) (by omega), ni1]
      have skip : (b j = 0 ∨ (v3 = 1 ∧ if g = 0 then v4 ≤ a j else a j ≤ v4)) → p_X5_outmost_8 n (rc a) (rc b) g v3 v4 (nI (j + 1)) ∧ ∃ u, OmI a b g 6 u (f_X5_outmost_8 n (rc a) (rc b) g v3 v4 (nI (j + 1))) := by
        intro hh
        refine ih (j + 1) v3 v4 (by omega) (by omega) ?_
        rcases h3 with ⟨k1, k2, k3⟩ | ⟨k1, ⟨i, m1, m2, m3⟩, k3⟩
        · rcases hh with hh | ⟨hh, _⟩
          · refine Or.inl ⟨k1, k2, fun i hi => ?_⟩
            by_cases z : i = j
            · rw [z]; exact hh
            · exact k3 i (by omega)
          · rw [k1] at hh; exact absurd hh (by decide)
        · refine Or.inr ⟨k1, ⟨i, by omega, m2, m3⟩, fun i hi hb => ?_⟩
          by_cases z : i = j
          · rw [z] at hb ⊢
            rcases hh with hh | ⟨_, hh⟩
            · exact absurd hh hb
            · exact hh
          · exact k3 i (by omega) hb
      have take : ¬ b j = 0 → (v3 = 0 ∨ ¬ (if g = 0 then v4 ≤ a j else a j ≤ v4)) → p_X5_outmost_8 n (rc a) (rc b) g (Int32.ofInt 1) (a j) (nI (j + 1)) ∧ ∃ u, OmI a b g 6 u (f_X5_outmost_8 n (rc a) (rc b) g (Int32.ofInt 1) (a j) (nI (j + 1))) := by
        intro hb hh
        refine ih (j + 1) _ _ (by omega) (by omega) (Or.inr ⟨rfl, ⟨j, by omega, hb, rfl⟩, fun i hi hbi => ?_⟩)
        by_cases z : i = j
        · rw [z]
          by_cases z2 : g = 0
          · rw [if_pos z2]; exact Int32.le_refl _
          · rw [if_neg z2]; exact Int32.le_refl _
        · rcases h3 with ⟨k1, k2, k3⟩ | ⟨k1, _, k3⟩
          · exact absurd (k3 i (by omega)) hbi
          · have k := k3 i (by omega) hbi
            rcases hh with hh | hh
            · rw [k1] at hh; exact absurd hh (by decide)
            · by_cases z2 : g = 0
              · rw [if_pos z2] at k hh ⊢
                exact Int32.le_trans (Int32.le_of_lt (Int32.not_le.mp hh)) k
              · rw [if_neg z2] at k hh ⊢
                exact Int32.le_trans k (Int32.le_of_lt (Int32.not_le.mp hh))
      have v31 : v3 = 0 ∨ v3 = 1 := by
        rcases h3 with ⟨k1, _⟩ | ⟨k1, _⟩
        · exact Or.inl k1
        · exact Or.inr k1
      by_cases c2 : (rc b).2 0 j = 0
      · rw [if_pos c2]
        obtain ⟨i1, i2⟩ := skip (Or.inl c2)
        exact ⟨⟨fun z => absurd z l1, fun _ => ⟨vj, fun _ => i1, fun z => absurd c2 z⟩⟩, i2⟩
      · rw [if_neg c2]
        by_cases c3 : v3 = 0
        · rw [if_pos c3]
          obtain ⟨i1, i2⟩ := take c2 (Or.inl c3)
          exact ⟨⟨fun z => absurd z l1, fun _ => ⟨vj, fun z => absurd z c2, fun _ => ⟨fun _ => ⟨vj, i1⟩, fun z => absurd c3 z⟩⟩⟩, i2⟩
        · rw [if_neg c3]
          have w1 := v31.resolve_left c3
          by_cases c4 : g = 0
          · rw [if_pos c4]
            by_cases c5 : v4 ≤ (rc a).2 0 j
            · rw [if_pos c5]
              obtain ⟨i1, i2⟩ := skip (Or.inr ⟨w1, by rw [if_pos c4]; exact c5⟩)
              exact ⟨⟨fun z => absurd z l1, fun _ => ⟨vj, fun z => absurd z c2, fun _ => ⟨fun z => absurd z c3, fun _ => ⟨fun _ => ⟨vj, fun _ => i1, fun z => absurd c5 z⟩, fun z => absurd c4 z⟩⟩⟩⟩, i2⟩
            · rw [if_neg c5]
              obtain ⟨i1, i2⟩ := take c2 (Or.inr (by rw [if_pos c4]; exact c5))
              exact ⟨⟨fun z => absurd z l1, fun _ => ⟨vj, fun z => absurd z c2, fun _ => ⟨fun z => absurd z c3, fun _ => ⟨fun _ => ⟨vj, fun z => absurd z c5, fun _ => ⟨vj, i1⟩⟩, fun z => absurd c4 z⟩⟩⟩⟩, i2⟩
          · rw [if_neg c4]
            by_cases c5 : (rc a).2 0 j ≤ v4
            · rw [if_pos c5]
              obtain ⟨i1, i2⟩ := skip (Or.inr ⟨w1, by rw [if_neg c4]; exact c5⟩)
              exact ⟨⟨fun z => absurd z l1, fun _ => ⟨vj, fun z => absurd z c2, fun _ => ⟨fun z => absurd z c3, fun _ => ⟨fun z => absurd z c4, fun _ => ⟨vj, fun _ => i1, fun z => absurd c5 z⟩⟩⟩⟩⟩, i2⟩
            · rw [if_neg c5]
              obtain ⟨i1, i2⟩ := take c2 (Or.inr (by rw [if_neg c4]; exact c5))
              exact ⟨⟨fun z => absurd z l1, fun _ => ⟨vj, fun z => absurd z c2, fun _ => ⟨fun z => absurd z c3, fun _ => ⟨fun z => absurd z c4, fun _ => ⟨vj, fun z => absurd z c5, fun _ => ⟨vj, i1⟩⟩⟩⟩⟩⟩, i2⟩
theorem om_all (a b : Nat → Int32) (g : Int32) : p_X5_outmost (rc a) (rc b) g ∧ ∃ u, OmI a b g 6 u (f_X5_outmost (rc a) (rc b) g) := om_loop a b g 40 0 0 0 (by omega) (by omega) (Or.inl ⟨rfl, rfl, fun i hi => by omega⟩)
/-- the lines between them -/
theorem om_line {a b : Nat → Int32} {h : Nat → Bool} {g : Nat → Nat} (hg : ∀ c, c < 36 → g c < 6) (hU : ∀ i, i < 6 → (¬ b i = 0 ↔ ∃ c, c < 36 ∧ h c = true ∧ g c = i)) (l : Int32) : okf h g (tI a) l.toInt ↔ (f_X5_outmost (rc a) (rc b) (Int32.ofInt 0) < l ∧ l ≤ f_X5_outmost (rc a) (rc b) (Int32.ofInt 1)) := by
  obtain ⟨_, u, m⟩ := om_all a b (Int32.ofInt 0)
  obtain ⟨_, v, M⟩ := om_all a b (Int32.ofInt 1)
  have g1 : ¬ Int32.ofInt 1 = 0 := by decide
  rcases m with ⟨_, m2, m3⟩ | ⟨_, ⟨i, m1, m2, m3⟩, m4⟩
  · have no : ∀ c, c < 36 → ¬ h c = true := by
      intro c hc hh
      have := (hU (g c) (hg c hc)).mpr ⟨c, hc, hh, rfl⟩
      exact this (m3 _ (hg c hc))
    rcases M with ⟨_, M2, _⟩ | ⟨_, ⟨j, M1, M2, _⟩, _⟩
    · rw [m2, M2]
      constructor
      · rintro ⟨⟨c, c1, c2, _⟩, _⟩
        exact absurd c2 (no c c1)
      · rintro ⟨z1, z2⟩
        exact absurd (Int32.lt_of_lt_of_le z1 z2) (by decide)
    · exact absurd (m3 j M1) M2
  · rcases M with ⟨_, M2, M3⟩ | ⟨_, ⟨j, M1, M2, M3⟩, M4⟩
    · exact absurd (M3 i m1) m2
    · constructor
      · rintro ⟨⟨c, c1, c2, c3⟩, d, e1, e2, e3⟩
        have u1 := m4 (g c) (hg c c1) ((hU _ (hg c c1)).mpr ⟨c, c1, c2, rfl⟩)
        have u2 := M4 (g d) (hg d e1) ((hU _ (hg d e1)).mpr ⟨d, e1, e2, rfl⟩)
        rw [if_pos (show Int32.ofInt 0 = 0 from rfl)] at u1
        rw [if_neg g1] at u2
        exact ⟨Int32.lt_of_le_of_lt u1 (Int32.lt_iff_toInt_lt.mpr c3), Int32.le_trans (Int32.le_iff_toInt_le.mpr e3) u2⟩
      · rintro ⟨z1, z2⟩
        obtain ⟨c, c1, c2, c3⟩ := (hU i m1).mp m2
        obtain ⟨d, e1, e2, e3⟩ := (hU j M1).mp M2
        refine ⟨⟨c, c1, c2, ?_⟩, d, e1, e2, ?_⟩
        · rw [c3]
          unfold tI
          rw [m3]
          exact Int32.lt_iff_toInt_lt.mp z1
        · rw [e3]
          unfold tI
          rw [M3]
          exact Int32.le_iff_toInt_le.mp z2
theorem om_b {a : Nat → Int32} (b : Nat → Int32) (g : Int32) {B : Int} (hB : 0 ≤ B) (ha : Bo a B) : -B ≤ (f_X5_outmost (rc a) (rc b) g).toInt ∧ (f_X5_outmost (rc a) (rc b) g).toInt ≤ B := by
  obtain ⟨_, u, m⟩ := om_all a b g
  rcases m with ⟨_, m2, _⟩ | ⟨_, ⟨i, m1, _, m3⟩, _⟩
  · rw [m2]
    have : (0 : Int32).toInt = 0 := by decide
    rw [this]
    omega
  · rw [← m3]
    exact ha i m1
