/-! layer 3: rows that are copied, in closed form -/
theorem setA_A (r : Rec) (k : Nat) (f g : Nat → Int32) : setA (setA r k f) k g = setA r k g := by
  refine Prod.ext rfl ?_
  funext j
  show (if j = k then g else if j = k then f else r.2 j) = if j = k then g else r.2 j
  split <;> rfl
theorem setA_i (r : Rec) (k : Nat) : setA r k (r.2 k) = r := by
  refine Prod.ext rfl ?_
  funext j
  show (if j = k then r.2 k else r.2 j) = r.2 j
  split
  · rename_i h; rw [h]
  · rfl
theorem ixn (a j : Nat) (h : a + j < 2 ^ 31) : (Int32.ofNat a + nI j).toNatClampNeg = a + j := by
  have : Int32.ofNat a + nI j = nI (a + j) := nI_add a j
  rw [this, nI_clamp h]
theorem vin_n {a n : Nat} (h : a < n) (hn : n < 2 ^ 31) : vp_in (nI a) n := nI_in h hn
theorem ni1 (j : Nat) : nI j + Int32.ofInt 1 = nI (j + 1) := (nI_succ j).symm
theorem ge20 {N j : Nat} (h : j < N) (hN : N < 2 ^ 31) : ¬ Int32.ofNat N ≤ nI j := nI_ge h hN
theorem le20 {N j : Nat} (h : N ≤ j) (hj : j < 2 ^ 31) : Int32.ofNat N ≤ nI j := nI_le h hj
/-- keeps, into the row before a STEP -/
theorem kp9 (d : Nat) (hd : d = 0) : ∀ (n j : Nat) (m : Rec), j ≤ 20 → 20 < n + j → p_X9_keeps_v9_2 n m (nI d) (nI j) ∧ f_X9_keeps_v9_2 n m (nI d) (nI j) = setA m 9 (fun i => if d + j ≤ i ∧ i < d + 20 then m.2 0 (8 + (i - d)) else m.2 9 i) := by
  intro n
  induction n with
  | zero => intro j m h1 h2; omega
  | succ n ih =>
    intro j m h1 h2
    rw [p_X9_keeps_v9_2, f_X9_keeps_v9_2]
    by_cases q : j = 20
    · have c1 : Int32.ofInt 20 ≤ nI j := le20 (N := 20) (by omega) (by omega)
      rw [if_pos c1]
      refine ⟨⟨fun _ => trivial, fun z => absurd c1 z⟩, ?_⟩
      have : (fun i => if d + j ≤ i ∧ i < d + 20 then m.2 0 (8 + (i - d)) else m.2 9 i) = m.2 9 := by
        funext i
        rw [if_neg (by omega)]
      rw [this, setA_i]
    · have c1 : ¬ Int32.ofInt 20 ≤ nI j := ge20 (N := 20) (by omega) (by omega)
      rw [if_neg c1, ni1]
      have e8 : (Int32.ofInt 8 + nI j).toNatClampNeg = 8 + j := ixn 8 j (by omega)
      have ed : (nI d + nI j).toNatClampNeg = d + j := ixn d j (by omega)
      have a8 : Int32.ofInt 8 + nI j = nI (8 + j) := nI_add 8 j
      have ad : nI d + nI j = nI (d + j) := nI_add d j
      rw [e8, ed]
      obtain ⟨i1, i2⟩ := ih (j + 1) (setA m 9 (upd (m.2 9) (d + j) (m.2 0 (8 + j)))) (by omega) (by omega)
      refine ⟨⟨fun z => absurd z c1, fun _ => ⟨by rw [a8]; exact vin_n (by omega) (by omega), by rw [ad]; exact vin_n (by omega) (by omega), i1⟩⟩, ?_⟩
      rw [i2, setA_A]
      congr 1
      funext i
      show (if d + (j + 1) ≤ i ∧ i < d + 20 then m.2 0 (8 + (i - d)) else upd (m.2 9) (d + j) (m.2 0 (8 + j)) i) = _
      rw [upd_at]
      by_cases z : i = d + j
      · rw [if_neg (by omega), if_pos z, if_pos (by omega), z]
        rw [show d + j - d = j by omega]
      · by_cases z2 : d + (j + 1) ≤ i ∧ i < d + 20
        · rw [if_pos z2, if_pos (by omega)]
        · rw [if_neg z2, if_neg z, if_neg (by omega)]
theorem kp14 (d : Nat) (hd : d ≤ 80) : ∀ (n j : Nat) (m : Rec), j ≤ 20 → 20 < n + j → p_X9_keeps_v11_2 n m (nI d) (nI j) ∧ f_X9_keeps_v11_2 n m (nI d) (nI j) = setA m 14 (fun i => if d + j ≤ i ∧ i < d + 20 then m.2 0 (8 + (i - d)) else m.2 14 i) := by
  intro n
  induction n with
  | zero => intro j m h1 h2; omega
  | succ n ih =>
    intro j m h1 h2
    rw [p_X9_keeps_v11_2, f_X9_keeps_v11_2]
    by_cases q : j = 20
    · have c1 : Int32.ofInt 20 ≤ nI j := le20 (N := 20) (by omega) (by omega)
      rw [if_pos c1]
      refine ⟨⟨fun _ => trivial, fun z => absurd c1 z⟩, ?_⟩
      have : (fun i => if d + j ≤ i ∧ i < d + 20 then m.2 0 (8 + (i - d)) else m.2 14 i) = m.2 14 := by
        funext i
        rw [if_neg (by omega)]
      rw [this, setA_i]
    · have c1 : ¬ Int32.ofInt 20 ≤ nI j := ge20 (N := 20) (by omega) (by omega)
      rw [if_neg c1, ni1]
      have e8 : (Int32.ofInt 8 + nI j).toNatClampNeg = 8 + j := ixn 8 j (by omega)
      have ed : (nI d + nI j).toNatClampNeg = d + j := ixn d j (by omega)
      have a8 : Int32.ofInt 8 + nI j = nI (8 + j) := nI_add 8 j
      have ad : nI d + nI j = nI (d + j) := nI_add d j
      rw [e8, ed]
      obtain ⟨i1, i2⟩ := ih (j + 1) (setA m 14 (upd (m.2 14) (d + j) (m.2 0 (8 + j)))) (by omega) (by omega)
      refine ⟨⟨fun z => absurd z c1, fun _ => ⟨by rw [a8]; exact vin_n (by omega) (by omega), by rw [ad]; exact vin_n (by omega) (by omega), i1⟩⟩, ?_⟩
      rw [i2, setA_A]
      congr 1
      funext i
      show (if d + (j + 1) ≤ i ∧ i < d + 20 then m.2 0 (8 + (i - d)) else upd (m.2 14) (d + j) (m.2 0 (8 + j)) i) = _
      rw [upd_at]
      by_cases z : i = d + j
      · rw [if_neg (by omega), if_pos z, if_pos (by omega), z]
        rw [show d + j - d = j by omega]
      · by_cases z2 : d + (j + 1) ≤ i ∧ i < d + 20
        · rw [if_pos z2, if_pos (by omega)]
        · rw [if_neg z2, if_neg z, if_neg (by omega)]
theorem kp17 (d : Nat) (hd : d = 0) : ∀ (n j : Nat) (m : Rec), j ≤ 20 → 20 < n + j → p_X9_keeps_v14_2 n m (nI d) (nI j) ∧ f_X9_keeps_v14_2 n m (nI d) (nI j) = setA m 17 (fun i => if d + j ≤ i ∧ i < d + 20 then m.2 0 (8 + (i - d)) else m.2 17 i) := by
  intro n
  induction n with
  | zero => intro j m h1 h2; omega
  | succ n ih =>
    intro j m h1 h2
    rw [p_X9_keeps_v14_2, f_X9_keeps_v14_2]
    by_cases q : j = 20
    · have c1 : Int32.ofInt 20 ≤ nI j := le20 (N := 20) (by omega) (by omega)
      rw [if_pos c1]
      refine ⟨⟨fun _ => trivial, fun z => absurd c1 z⟩, ?_⟩
      have : (fun i => if d + j ≤ i ∧ i < d + 20 then m.2 0 (8 + (i - d)) else m.2 17 i) = m.2 17 := by
        funext i
        rw [if_neg (by omega)]
      rw [this, setA_i]
    · have c1 : ¬ Int32.ofInt 20 ≤ nI j := ge20 (N := 20) (by omega) (by omega)
      rw [if_neg c1, ni1]
      have e8 : (Int32.ofInt 8 + nI j).toNatClampNeg = 8 + j := ixn 8 j (by omega)
      have ed : (nI d + nI j).toNatClampNeg = d + j := ixn d j (by omega)
      have a8 : Int32.ofInt 8 + nI j = nI (8 + j) := nI_add 8 j
      have ad : nI d + nI j = nI (d + j) := nI_add d j
      rw [e8, ed]
      obtain ⟨i1, i2⟩ := ih (j + 1) (setA m 17 (upd (m.2 17) (d + j) (m.2 0 (8 + j)))) (by omega) (by omega)
      refine ⟨⟨fun z => absurd z c1, fun _ => ⟨by rw [a8]; exact vin_n (by omega) (by omega), by rw [ad]; exact vin_n (by omega) (by omega), i1⟩⟩, ?_⟩
      rw [i2, setA_A]
      congr 1
      funext i
      show (if d + (j + 1) ≤ i ∧ i < d + 20 then m.2 0 (8 + (i - d)) else upd (m.2 17) (d + j) (m.2 0 (8 + j)) i) = _
      rw [upd_at]
      by_cases z : i = d + j
      · rw [if_neg (by omega), if_pos z, if_pos (by omega), z]
        rw [show d + j - d = j by omega]
      · by_cases z2 : d + (j + 1) ≤ i ∧ i < d + 20
        · rw [if_pos z2, if_pos (by omega)]
        · rw [if_neg z2, if_neg z, if_neg (by omega)]
/-- a book with twenty entries of another row -/
def patch (B b : Nat → Int32) (d : Nat) : Nat → Int32 := fun i => if 8 ≤ i ∧ i < 28 then b (d + (i - 8)) else B i
theorem tk11 (d : Nat) (hd : d ≤ 80) : ∀ (n j : Nat) (m : Rec), j ≤ 20 → 20 < n + j → p_X9_lays (setA m 0 (fun i => if 8 + j ≤ i ∧ i < 28 then m.2 14 (d + (i - 8)) else m.2 0 i)) → p_X9_takes_v11_2 n m (nI d) (nI j) ∧ f_X9_takes_v11_2 n m (nI d) (nI j) = f_X9_lays (setA m 0 (fun i => if 8 + j ≤ i ∧ i < 28 then m.2 14 (d + (i - 8)) else m.2 0 i)) := by
  intro n
  induction n with
  | zero => intro j m h1 h2; omega
  | succ n ih =>
    intro j m h1 h2 hp
    rw [p_X9_takes_v11_2, f_X9_takes_v11_2]
    by_cases q : j = 20
    · have c1 : Int32.ofInt 20 ≤ nI j := le20 (N := 20) (by omega) (by omega)
      have e : (fun i => if 8 + j ≤ i ∧ i < 28 then m.2 14 (d + (i - 8)) else m.2 0 i) = m.2 0 := by
        funext i
        rw [if_neg (by omega)]
      rw [e, setA_i] at hp
      rw [if_pos c1, e, setA_i]
      exact ⟨⟨fun _ => ⟨hp, trivial⟩, fun z => absurd c1 z⟩, rfl⟩
    · have c1 : ¬ Int32.ofInt 20 ≤ nI j := ge20 (N := 20) (by omega) (by omega)
      rw [if_neg c1, ni1]
      have e8 : (Int32.ofInt 8 + nI j).toNatClampNeg = 8 + j := ixn 8 j (by omega)
      have ed : (nI d + nI j).toNatClampNeg = d + j := ixn d j (by omega)
      have a8 : Int32.ofInt 8 + nI j = nI (8 + j) := nI_add 8 j
      have ad : nI d + nI j = nI (d + j) := nI_add d j
      rw [e8, ed]
      have ef : setA (setA m 0 (upd (m.2 0) (8 + j) (m.2 14 (d + j)))) 0 (fun i => if 8 + (j + 1) ≤ i ∧ i < 28 then (setA m 0 (upd (m.2 0) (8 + j) (m.2 14 (d + j)))).2 14 (d + (i - 8)) else (setA m 0 (upd (m.2 0) (8 + j) (m.2 14 (d + j)))).2 0 i) = setA m 0 (fun i => if 8 + j ≤ i ∧ i < 28 then m.2 14 (d + (i - 8)) else m.2 0 i) := by
        rw [setA_A]
        congr 1
        funext i
        show (if 8 + (j + 1) ≤ i ∧ i < 28 then m.2 14 (d + (i - 8)) else upd (m.2 0) (8 + j) (m.2 14 (d + j)) i) = _
        rw [upd_at]
        by_cases z : i = 8 + j
        · rw [if_neg (by omega), if_pos z, if_pos (by omega), z]
          rw [show 8 + j - 8 = j by omega]
        · by_cases z2 : 8 + (j + 1) ≤ i ∧ i < 28
          · rw [if_pos z2, if_pos (by omega)]
          · rw [if_neg z2, if_neg z, if_neg (by omega)]
      obtain ⟨i1, i2⟩ := ih (j + 1) (setA m 0 (upd (m.2 0) (8 + j) (m.2 14 (d + j)))) (by omega) (by omega) (by rw [ef]; exact hp)
      rw [ef] at i2
      exact ⟨⟨fun z => absurd z c1, fun _ => ⟨by rw [ad]; exact vin_n (by omega) (by omega), by rw [a8]; exact vin_n (by omega) (by omega), i1⟩⟩, i2⟩
theorem tk14 (d : Nat) (hd : d = 0) : ∀ (n j : Nat) (m : Rec), j ≤ 20 → 20 < n + j → p_X9_lays (setA m 0 (fun i => if 8 + j ≤ i ∧ i < 28 then m.2 17 (d + (i - 8)) else m.2 0 i)) → p_X9_takes_v14_2 n m (nI d) (nI j) ∧ f_X9_takes_v14_2 n m (nI d) (nI j) = f_X9_lays (setA m 0 (fun i => if 8 + j ≤ i ∧ i < 28 then m.2 17 (d + (i - 8)) else m.2 0 i)) := by
  intro n
  induction n with
  | zero => intro j m h1 h2; omega
  | succ n ih =>
    intro j m h1 h2 hp
    rw [p_X9_takes_v14_2, f_X9_takes_v14_2]
    by_cases q : j = 20
    · have c1 : Int32.ofInt 20 ≤ nI j := le20 (N := 20) (by omega) (by omega)
      have e : (fun i => if 8 + j ≤ i ∧ i < 28 then m.2 17 (d + (i - 8)) else m.2 0 i) = m.2 0 := by
        funext i
        rw [if_neg (by omega)]
      rw [e, setA_i] at hp
      rw [if_pos c1, e, setA_i]
      exact ⟨⟨fun _ => ⟨hp, trivial⟩, fun z => absurd c1 z⟩, rfl⟩
    · have c1 : ¬ Int32.ofInt 20 ≤ nI j := ge20 (N := 20) (by omega) (by omega)
      rw [if_neg c1, ni1]
      have e8 : (Int32.ofInt 8 + nI j).toNatClampNeg = 8 + j := ixn 8 j (by omega)
      have ed : (nI d + nI j).toNatClampNeg = d + j := ixn d j (by omega)
      have a8 : Int32.ofInt 8 + nI j = nI (8 + j) := nI_add 8 j
      have ad : nI d + nI j = nI (d + j) := nI_add d j
      rw [e8, ed]
      have ef : setA (setA m 0 (upd (m.2 0) (8 + j) (m.2 17 (d + j)))) 0 (fun i => if 8 + (j + 1) ≤ i ∧ i < 28 then (setA m 0 (upd (m.2 0) (8 + j) (m.2 17 (d + j)))).2 17 (d + (i - 8)) else (setA m 0 (upd (m.2 0) (8 + j) (m.2 17 (d + j)))).2 0 i) = setA m 0 (fun i => if 8 + j ≤ i ∧ i < 28 then m.2 17 (d + (i - 8)) else m.2 0 i) := by
        rw [setA_A]
        congr 1
        funext i
        show (if 8 + (j + 1) ≤ i ∧ i < 28 then m.2 17 (d + (i - 8)) else upd (m.2 0) (8 + j) (m.2 17 (d + j)) i) = _
        rw [upd_at]
        by_cases z : i = 8 + j
        · rw [if_neg (by omega), if_pos z, if_pos (by omega), z]
          rw [show 8 + j - 8 = j by omega]
        · by_cases z2 : 8 + (j + 1) ≤ i ∧ i < 28
          · rw [if_pos z2, if_pos (by omega)]
          · rw [if_neg z2, if_neg z, if_neg (by omega)]
      obtain ⟨i1, i2⟩ := ih (j + 1) (setA m 0 (upd (m.2 0) (8 + j) (m.2 17 (d + j)))) (by omega) (by omega) (by rw [ef]; exact hp)
      rw [ef] at i2
      exact ⟨⟨fun z => absurd z c1, fun _ => ⟨by rw [ad]; exact vin_n (by omega) (by omega), by rw [a8]; exact vin_n (by omega) (by omega), i1⟩⟩, i2⟩
theorem ix88 {m : Rec} {u : Nat} (hu : u ≤ 8) (h6 : m.2 0 6 = Int32.ofNat u) (j : Nat) (hj : j < 200) : Int32.ofInt 88 + Int32.ofInt 20 * m.2 0 (Int32.toNatClampNeg (Int32.ofInt 6)) + nI j = nI (88 + 20 * u + j) := by
  show Int32.ofNat 88 + Int32.ofNat 20 * m.2 0 6 + nI j = _
  rw [h6]
  have e1 : Int32.ofNat 20 * Int32.ofNat u = nI (20 * u) := pk_mul 20 u
  have e2 : Int32.ofNat 88 + nI (20 * u) = nI (88 + 20 * u) := nI_add 88 (20 * u)
  rw [e1, e2, nI_add]
/-- undo's loop -/
theorem un28 (u : Nat) (hu : u < 8) : ∀ (n j : Nat) (m : Rec), m.2 0 6 = Int32.ofNat u → j ≤ 20 → 20 < n + j → p_X9_undo_28 n m (nI j) ∧ f_X9_undo_28 n m (nI j) = (1, setA m 0 (fun i => if 8 + j ≤ i ∧ i < 28 then m.2 0 (88 + 20 * u + (i - 8)) else m.2 0 i)) := by
  intro n
  induction n with
  | zero => intro j m _ h1 h2; omega
  | succ n ih =>
    intro j m h6 h1 h2
    rw [p_X9_undo_28, f_X9_undo_28]
    by_cases q : j = 20
    · have c1 : Int32.ofInt 20 ≤ nI j := le20 (N := 20) (by omega) (by omega)
      have e : (fun i => if 8 + j ≤ i ∧ i < 28 then m.2 0 (88 + 20 * u + (i - 8)) else m.2 0 i) = m.2 0 := by
        funext i
        rw [if_neg (by omega)]
      rw [if_pos c1, e, setA_i]
      exact ⟨⟨fun _ => trivial, fun z => absurd c1 z⟩, rfl⟩
    · have c1 : ¬ Int32.ofInt 20 ≤ nI j := ge20 (N := 20) (by omega) (by omega)
      have a88 := ix88 (m := m) (by omega) h6 j (by omega)
      have a8 : Int32.ofInt 8 + nI j = nI (8 + j) := nI_add 8 j
      rw [if_neg c1, ni1, a88, a8, nI_clamp (by omega), nI_clamp (by omega)]
      have ef : setA (setA m 0 (upd (m.2 0) (8 + j) (m.2 0 (88 + 20 * u + j)))) 0 (fun i => if 8 + (j + 1) ≤ i ∧ i < 28 then (setA m 0 (upd (m.2 0) (8 + j) (m.2 0 (88 + 20 * u + j)))).2 0 (88 + 20 * u + (i - 8)) else (setA m 0 (upd (m.2 0) (8 + j) (m.2 0 (88 + 20 * u + j)))).2 0 i) = setA m 0 (fun i => if 8 + j ≤ i ∧ i < 28 then m.2 0 (88 + 20 * u + (i - 8)) else m.2 0 i) := by
        rw [setA_A]
        congr 1
        funext i
        show (if 8 + (j + 1) ≤ i ∧ i < 28 then upd (m.2 0) (8 + j) (m.2 0 (88 + 20 * u + j)) (88 + 20 * u + (i - 8)) else upd (m.2 0) (8 + j) (m.2 0 (88 + 20 * u + j)) i) = _
        rw [upd_at, upd_at]
        by_cases z : i = 8 + j
        · rw [if_neg (by omega), if_pos z, if_pos (by omega), z]
          rw [show 8 + j - 8 = j by omega]
        · by_cases z2 : 8 + (j + 1) ≤ i ∧ i < 28
          · rw [if_pos z2, if_neg (by omega), if_pos (by omega)]
          · rw [if_neg z2, if_neg z, if_neg (by omega)]
      obtain ⟨i1, i2⟩ := ih (j + 1) (setA m 0 (upd (m.2 0) (8 + j) (m.2 0 (88 + 20 * u + j)))) (by show upd (m.2 0) (8 + j) _ 6 = _; rw [upd_at, if_neg (by omega)]; exact h6) (by omega) (by omega)
      rw [ef] at i2
      exact ⟨⟨fun z => absurd z c1, fun _ => ⟨vin_n (by omega) (by omega), vin_n (by omega) (by omega), i1⟩⟩, i2⟩
/-- remembers' loops -/
theorem re61 (u : Nat) (hu : u < 8) : ∀ (n j : Nat) (m : Rec), m.2 0 6 = Int32.ofNat u → j ≤ 20 → 20 < n + j → p_X9_remembers_61 n m (nI j) ∧ f_X9_remembers_61 n m (nI j) = setA m 0 (fun i => if 88 + 20 * u + j ≤ i ∧ i < 88 + 20 * u + 20 then m.2 9 (i - (88 + 20 * u)) else if i = 6 then Int32.ofNat (u + 1) else m.2 0 i) := by
  intro n
  induction n with
  | zero => intro j m _ h1 h2; omega
  | succ n ih =>
    intro j m h6 h1 h2
    rw [p_X9_remembers_61, f_X9_remembers_61]
    by_cases q : j = 20
    · have c1 : Int32.ofInt 20 ≤ nI j := le20 (N := 20) (by omega) (by omega)
      rw [if_pos c1]
      refine ⟨⟨fun _ => trivial, fun z => absurd c1 z⟩, ?_⟩
      congr 1
      funext i
      show upd (m.2 0) 6 (m.2 0 6 + 1) i = _
      rw [upd_at, h6, if_neg (show ¬ (88 + 20 * u + j ≤ i ∧ i < 88 + 20 * u + 20) by omega)]
      by_cases z : i = 6
      · rw [if_pos z, if_pos z]; exact (nI_succ u).symm
      · rw [if_neg z, if_neg z]
    · have c1 : ¬ Int32.ofInt 20 ≤ nI j := ge20 (N := 20) (by omega) (by omega)
      have a88 := ix88 (m := m) (by omega) h6 j (by omega)
      rw [if_neg c1, ni1, a88, nI_clamp (by omega), nI_clamp (by omega)]
      obtain ⟨i1, i2⟩ := ih (j + 1) (setA m 0 (upd (m.2 0) (88 + 20 * u + j) (m.2 9 j))) (by show upd (m.2 0) (88 + 20 * u + j) _ 6 = _; rw [upd_at, if_neg (by omega)]; exact h6) (by omega) (by omega)
      refine ⟨⟨fun z => absurd z c1, fun _ => ⟨vin_n (by omega) (by omega), vin_n (by omega) (by omega), i1⟩⟩, ?_⟩
      rw [i2, setA_A]
      congr 1
      funext i
      show (if 88 + 20 * u + (j + 1) ≤ i ∧ i < 88 + 20 * u + 20 then m.2 9 (i - (88 + 20 * u)) else if i = 6 then Int32.ofNat (u + 1) else upd (m.2 0) (88 + 20 * u + j) (m.2 9 j) i) = _
      rw [upd_at]
      by_cases z : i = 88 + 20 * u + j
      · rw [if_neg (by omega), if_neg (by omega), if_pos z, if_pos (by omega), z]
        rw [show 88 + 20 * u + j - (88 + 20 * u) = j by omega]
      · by_cases z2 : 88 + 20 * u + (j + 1) ≤ i ∧ i < 88 + 20 * u + 20
        · rw [if_pos z2, if_pos (by omega)]
        · rw [if_neg z2, if_neg (show ¬ (88 + 20 * u + j ≤ i ∧ i < 88 + 20 * u + 20) by omega)]
          by_cases z3 : i = 6
          · rw [if_pos z3, if_pos z3]
          · rw [if_neg z3, if_neg z3, if_neg z]
theorem re14 : ∀ (n j : Nat) (m : Rec), m.2 0 6 = Int32.ofNat 8 → j ≤ 140 → 140 < n + j → p_X9_remembers_14 n m (nI j) ∧ f_X9_remembers_14 n m (nI j) = setA m 0 (fun i => if 88 + j ≤ i ∧ i < 228 then m.2 0 (i + 20) else if 228 ≤ i ∧ i < 248 then m.2 9 (i - 228) else m.2 0 i) := by
  intro n
  induction n with
  | zero => intro j m _ h1 h2; omega
  | succ n ih =>
    intro j m h6 h1 h2
    rw [p_X9_remembers_14, f_X9_remembers_14]
    by_cases q : j = 140
    · have c1 : Int32.ofInt 140 ≤ nI j := le20 (N := 140) (by omega) (by omega)
      have k6 : (setA m 0 (upd (m.2 0) (Int32.toNatClampNeg (Int32.ofInt 6)) (m.2 0 (Int32.toNatClampNeg (Int32.ofInt 6)) - Int32.ofInt 1))).2 0 6 = Int32.ofNat 7 := by
        show upd (m.2 0) 6 (m.2 0 6 - 1) 6 = _
        rw [upd_at, if_pos rfl, h6]; decide
      obtain ⟨r1, r2⟩ := re61 7 (by omega) 200 0 (setA m 0 (upd (m.2 0) (Int32.toNatClampNeg (Int32.ofInt 6)) (m.2 0 (Int32.toNatClampNeg (Int32.ofInt 6)) - Int32.ofInt 1))) k6 (by omega) (by omega)
      rw [if_pos c1]
      refine ⟨⟨fun _ => r1, fun z => absurd c1 z⟩, ?_⟩
      refine r2.trans ?_
      rw [setA_A]
      congr 1
      funext i
      show (if 88 + 20 * 7 + 0 ≤ i ∧ i < 88 + 20 * 7 + 20 then m.2 9 (i - (88 + 20 * 7)) else if i = 6 then Int32.ofNat (7 + 1) else upd (m.2 0) 6 (m.2 0 6 - 1) i) = _
      rw [upd_at, if_neg (show ¬ (88 + j ≤ i ∧ i < 228) by omega)]
      by_cases z : 228 ≤ i ∧ i < 248
      · rw [if_pos (by omega), if_pos z]
      · rw [if_neg (by omega), if_neg z]
        by_cases z3 : i = 6
        · rw [if_pos z3, z3, h6]
        · rw [if_neg z3, if_neg z3]
    · have c1 : ¬ Int32.ofInt 140 ≤ nI j := ge20 (N := 140) (by omega) (by omega)
      have a88 : Int32.ofInt 88 + nI j = nI (88 + j) := nI_add 88 j
      have a108 : nI (88 + j) + Int32.ofInt 20 = nI (88 + j + 20) := nI_add (88 + j) 20
      rw [if_neg c1, ni1, a88, a108, nI_clamp (by omega), nI_clamp (by omega)]
      obtain ⟨i1, i2⟩ := ih (j + 1) (setA m 0 (upd (m.2 0) (88 + j) (m.2 0 (88 + j + 20)))) (by show upd (m.2 0) (88 + j) _ 6 = _; rw [upd_at, if_neg (by omega)]; exact h6) (by omega) (by omega)
      refine ⟨⟨fun z => absurd z c1, fun _ => ⟨vin_n (by omega) (by omega), vin_n (by omega) (by omega), i1⟩⟩, ?_⟩
      rw [i2, setA_A]
      congr 1
      funext i
      show (if 88 + (j + 1) ≤ i ∧ i < 228 then upd (m.2 0) (88 + j) (m.2 0 (88 + j + 20)) (i + 20) else if 228 ≤ i ∧ i < 248 then m.2 9 (i - 228) else upd (m.2 0) (88 + j) (m.2 0 (88 + j + 20)) i) = _
      rw [upd_at, upd_at]
      by_cases z : i = 88 + j
      · rw [if_neg (by omega), if_neg (by omega), if_pos z, if_pos (by omega), z]
      · by_cases z2 : 88 + (j + 1) ≤ i ∧ i < 228
        · rw [if_pos z2, if_neg (by omega), if_pos (by omega)]
        · rw [if_neg z2, if_neg (show ¬ (88 + j ≤ i ∧ i < 228) by omega)]
          by_cases z3 : 228 ≤ i ∧ i < 248
          · rw [if_pos z3, if_pos z3]
          · rw [if_neg z3, if_neg z3, if_neg z]
theorem re_lt {m : Rec} {u : Nat} (hu : u < 8) (h6 : m.2 0 6 = Int32.ofNat u) : p_X9_remembers m ∧ f_X9_remembers m = setA m 0 (fun i => if 88 + 20 * u ≤ i ∧ i < 88 + 20 * u + 20 then m.2 9 (i - (88 + 20 * u)) else if i = 6 then Int32.ofNat (u + 1) else m.2 0 i) := by
  have ne : ¬ m.2 0 (Int32.toNatClampNeg (Int32.ofInt 6)) = Int32.ofInt 8 := by
    show ¬ m.2 0 6 = Int32.ofNat 8
    rw [h6]
    intro z
    have z2 := congrArg Int32.toNatClampNeg z
    rw [cl_nI (by omega), cl_nI (by omega)] at z2
    omega
  obtain ⟨r1, r2⟩ := re61 u hu 200 0 m h6 (by omega) (by omega)
  unfold p_X9_remembers f_X9_remembers
  rw [if_neg ne]
  exact ⟨⟨fun z => absurd z ne, fun _ => r1⟩, r2⟩
theorem re_8 {m : Rec} (h6 : m.2 0 6 = Int32.ofNat 8) : p_X9_remembers m ∧ f_X9_remembers m = setA m 0 (fun i => if 88 ≤ i ∧ i < 228 then m.2 0 (i + 20) else if 228 ≤ i ∧ i < 248 then m.2 9 (i - 228) else m.2 0 i) := by
  have e8 : m.2 0 (Int32.toNatClampNeg (Int32.ofInt 6)) = Int32.ofInt 8 := h6
  obtain ⟨r1, r2⟩ := re14 200 0 m h6 (by omega) (by omega)
  unfold p_X9_remembers f_X9_remembers
  rw [if_pos e8]
  exact ⟨⟨fun _ => r1, fun z => absurd e8 z⟩, r2⟩
theorem un_all {m : Rec} {u : Nat} (hu : u < 8) (h6 : m.2 0 6 = Int32.ofNat (u + 1)) : p_X9_undo m ∧ f_X9_undo m = (1, setA m 0 (fun i => if 8 ≤ i ∧ i < 28 then m.2 0 (88 + 20 * u + (i - 8)) else if i = 6 then Int32.ofNat u else m.2 0 i)) := by
  have ne : ¬ m.2 0 (Int32.toNatClampNeg (Int32.ofInt 6)) = 0 := by
    show ¬ m.2 0 6 = Int32.ofNat 0
    rw [h6]
    intro z
    have z2 := congrArg Int32.toNatClampNeg z
    rw [cl_nI (by omega), cl_nI (by omega)] at z2
    omega
  have k6 : m.2 0 6 - 1 = Int32.ofNat u := by
    rw [h6]
    have : Int32.ofNat (u + 1) = Int32.ofNat u + 1 := nI_succ u
    rw [this]
    grind
  have e6 : (setA m 0 (upd (m.2 0) (Int32.toNatClampNeg (Int32.ofInt 6)) (m.2 0 (Int32.toNatClampNeg (Int32.ofInt 6)) - Int32.ofInt 1))).2 0 6 = Int32.ofNat u := by
    show upd (m.2 0) 6 (m.2 0 6 - 1) 6 = _
    rw [upd_at, if_pos rfl, k6]
  obtain ⟨r1, r2⟩ := un28 u hu 40 0 _ e6 (by omega) (by omega)
  unfold p_X9_undo f_X9_undo
  rw [if_neg ne]
  refine ⟨⟨fun z => absurd z ne, fun _ => r1⟩, ?_⟩
  refine r2.trans ?_
  rw [setA_A]
  congr 2
  funext i
  show (if 8 + 0 ≤ i ∧ i < 28 then upd (m.2 0) 6 (m.2 0 6 - 1) (88 + 20 * u + (i - 8)) else upd (m.2 0) 6 (m.2 0 6 - 1) i) = _
  rw [upd_at, upd_at, k6]
  by_cases z : 8 ≤ i ∧ i < 28
  · rw [if_pos (by omega), if_neg (by omega), if_pos z]
  · rw [if_neg (by omega), if_neg z]
