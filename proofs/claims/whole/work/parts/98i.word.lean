/-! layer 3: WORDS of THE GAME -/
theorem by_in {e m : Rec} (h : TkR e m) {x : Int32} (h0 : 0 ≤ x) (hl : x < m.1 23) : f_X6_byteAt e x = m.2 22 x.toNatClampNeg ∧ p_X6_byteAt e x := by
  obtain ⟨⟨t1, t2, t3, t4⟩, h4, _, h1⟩ := h
  have a200 : x < 200 := by grind
  have := t4 x.toNatClampNeg (by rw [Int32.ofNat_toNatClampNeg _ h0]; exact hl) (cl_lt (n := 200) h0 a200)
  constructor
  · unfold f_X6_byteAt
    rw [if_neg, this.1]
    refine wi_n.mpr ⟨h0, ?_⟩
    rw [t1]
    show x ≤ m.1 23 - 1
    grind
  · unfold p_X6_byteAt
    exact ⟨fun _ => trivial, fun z => ⟨vinb (n := 200) h0 a200, trivial⟩⟩
theorem lc0 (v c : Int64) : lg_cmp v c = 0 ↔ v.toInt = c.toInt := by
  unfold lg_cmp
  have e1 : ¬ (1 : Int32) = 0 := by decide
  have e2 : ¬ (-1 : Int32) = 0 := by decide
  constructor
  · intro h
    split at h
    · exact absurd h e1
    · split at h
      · rename_i q; rw [q]
      · exact absurd h e2
  · intro h
    have q : v = c := Int64.toInt_inj.mp h
    subst q
    have : ¬ (v > v) := Int64.lt_irrefl
    rw [if_neg this, if_pos rfl]
def hvI (f : Nat → Int) : Nat → Int
  | 0 => 0
  | n + 1 => 32 * hvI f n + f n
/-- the letters as figures from 1 -/
def lt1 (m : Rec) (i : Nat) : Int := (m.2 22 ((m.1 25).toNatClampNeg + i)).toInt - 96
theorem cl_4 {x : Int32} (h0 : 0 ≤ x) (h : x < 1000) : (x + 1).toNatClampNeg = x.toNatClampNeg + 1 ∧ (x + 2).toNatClampNeg = x.toNatClampNeg + 2 ∧ (x + 3).toNatClampNeg = x.toNatClampNeg + 3 ∧ (x + 4).toNatClampNeg = x.toNatClampNeg + 4 ∧ (x + 5).toNatClampNeg = x.toNatClampNeg + 5 := by
  have a1 := cl_succ h0 (by grind)
  have a2 := cl_succ (x := x + 1) (by grind) (by grind)
  have a3 := cl_succ (x := x + 2) (by grind) (by grind)
  have a4 := cl_succ (x := x + 3) (by grind) (by grind)
  have a5 := cl_succ (x := x + 4) (by grind) (by grind)
  rw [show x + 1 + 1 = x + 2 by grind] at a2
  rw [show x + 2 + 1 = x + 3 by grind] at a3
  rw [show x + 3 + 1 = x + 4 by grind] at a4
  rw [show x + 4 + 1 = x + 5 by grind] at a5
  omega
theorem ti2_step (n : Nat) (e : Rec) (v : Int32) : f_X6_tokenIs_v1002_20 (n + 1) e v = if 4 ≤ v then (Int32.ofInt 1) else (if (f_X6_byteAt e ((e.1 5) + v)) = (chF1002 (Int32.toNatClampNeg v)) then (f_X6_tokenIs_v1002_20 n e (v + (Int32.ofInt 1))) else (Int32.ofInt 0)) := rfl
theorem ti2_pstep (n : Nat) (e : Rec) (v : Int32) : p_X6_tokenIs_v1002_20 (n + 1) e v = ((4 ≤ v → True) ∧ (¬ (4 ≤ v) → ((p_X6_byteAt e ((e.1 5) + v)) ∧ (vp_in v 4 ∧ (((f_X6_byteAt e ((e.1 5) + v)) = (chF1002 (Int32.toNatClampNeg v)) → (p_X6_tokenIs_v1002_20 n e (v + (Int32.ofInt 1)))) ∧ (¬ ((f_X6_byteAt e ((e.1 5) + v)) = (chF1002 (Int32.toNatClampNeg v))) → True)))))) := rfl
theorem ti2_all {e m : Rec} (h : TkR e m) (h5 : e.1 5 = m.1 25) (h0 : 0 ≤ m.1 25) (hle : m.1 25 ≤ m.1 24) : p_X6_tokenIs_v1002 e ∧ (¬ f_X6_tokenIs_v1002 e = 0 ↔ m.1 24 - m.1 25 = 4 ∧ m.2 22 ((m.1 25).toNatClampNeg + 0) = 115 ∧ m.2 22 ((m.1 25).toNatClampNeg + 1) = 116 ∧ m.2 22 ((m.1 25).toNatClampNeg + 2) = 101 ∧ m.2 22 ((m.1 25).toNatClampNeg + 3) = 112) := by
  have h4 := h.2.1
  have hal := h.2.2.2
  have l200 := h.1.2.2.1
  unfold p_X6_tokenIs_v1002 f_X6_tokenIs_v1002
  rw [h4, h5]
  by_cases c : m.1 24 - m.1 25 = 4
  · have q4 : m.1 24 = m.1 25 + 4 := by grind
    obtain ⟨k1, k2, k3, k4, _⟩ := cl_4 h0 (by grind)
    have b0 := by_in h (x := m.1 25 + 0) (by grind) (by grind)
    have b1 := by_in h (x := m.1 25 + 1) (by grind) (by grind)
    have b2 := by_in h (x := m.1 25 + 2) (by grind) (by grind)
    have b3 := by_in h (x := m.1 25 + 3) (by grind) (by grind)
    rw [show m.1 25 + 0 = m.1 25 by grind] at b0
    rw [k1] at b1
    rw [k2] at b2
    rw [k3] at b3
    have n0 : ¬ (4 : Int32) ≤ 0 := by decide
    have n1 : ¬ (4 : Int32) ≤ 1 := by decide
    have n2 : ¬ (4 : Int32) ≤ 2 := by decide
    have n3 : ¬ (4 : Int32) ≤ 3 := by decide
    have n4 : (4 : Int32) ≤ 4 := by decide
    have i1 : Int32.ofInt 0 = 0 := by decide
    have i2 : (0 : Int32) + Int32.ofInt 1 = 1 := by decide
    have i3 : (1 : Int32) + Int32.ofInt 1 = 2 := by decide
    have i4 : (2 : Int32) + Int32.ofInt 1 = 3 := by decide
    have i5 : (3 : Int32) + Int32.ofInt 1 = 4 := by decide
    have d0 : chF1002 (Int32.toNatClampNeg 0) = 115 := by decide
    have d1 : chF1002 (Int32.toNatClampNeg 1) = 116 := by decide
    have d2 : chF1002 (Int32.toNatClampNeg 2) = 101 := by decide
    have d3 : chF1002 (Int32.toNatClampNeg 3) = 112 := by decide
    have o1 : Int32.ofInt 1 = 1 := by decide
    have vi : ∀ z : Int32, 0 ≤ z → z < 4 → vp_in z 4 := fun z a b => vinb (n := 4) a b
    have v0 := vi 0 (by decide) (by decide)
    have v1 := vi 1 (by decide) (by decide)
    have v2 := vi 2 (by decide) (by decide)
    have v3 := vi 3 (by decide) (by decide)
    rw [if_pos c]
    rw [i1, ti2_step 39, i2, ti2_step 38, i3, ti2_step 37, i4, ti2_step 36, i5, ti2_step 35, if_neg n0, if_neg n1, if_neg n2, if_neg n3, if_pos n4, d0, d1, d2, d3, h5, b1.1, b2.1, b3.1]
    rw [ti2_pstep 39, i2, ti2_pstep 38, i3, ti2_pstep 37, i4, ti2_pstep 36, i5, ti2_pstep 35, h5]
    rw [show m.1 25 + 0 = m.1 25 by grind, b0.1]
    constructor
    · exact ⟨fun _ => ⟨fun _ => trivial, fun _ => ⟨b0.2, v0, fun _ => ⟨fun _ => trivial, fun _ => ⟨b1.2, v1, fun _ => ⟨fun _ => trivial, fun _ => ⟨b2.2, v2, fun _ => ⟨fun _ => trivial, fun _ => ⟨b3.2, v3, fun _ => ⟨fun _ => trivial, fun y => absurd n4 y⟩, fun _ => trivial⟩⟩, fun _ => trivial⟩⟩, fun _ => trivial⟩⟩, fun _ => trivial⟩⟩, fun _ => trivial⟩
    · grind
  · rw [if_neg c]
    exact ⟨⟨fun y => absurd y c, fun _ => trivial⟩, ⟨fun y => absurd (by decide) y, fun y => absurd y.1 c⟩⟩
theorem ti3_step (n : Nat) (e : Rec) (v : Int32) : f_X6_tokenIs_v1003_20 (n + 1) e v = if 4 ≤ v then (Int32.ofInt 1) else (if (f_X6_byteAt e ((e.1 5) + v)) = (chF1003 (Int32.toNatClampNeg v)) then (f_X6_tokenIs_v1003_20 n e (v + (Int32.ofInt 1))) else (Int32.ofInt 0)) := rfl
theorem ti3_pstep (n : Nat) (e : Rec) (v : Int32) : p_X6_tokenIs_v1003_20 (n + 1) e v = ((4 ≤ v → True) ∧ (¬ (4 ≤ v) → ((p_X6_byteAt e ((e.1 5) + v)) ∧ (vp_in v 4 ∧ (((f_X6_byteAt e ((e.1 5) + v)) = (chF1003 (Int32.toNatClampNeg v)) → (p_X6_tokenIs_v1003_20 n e (v + (Int32.ofInt 1)))) ∧ (¬ ((f_X6_byteAt e ((e.1 5) + v)) = (chF1003 (Int32.toNatClampNeg v))) → True)))))) := rfl
theorem ti3_all {e m : Rec} (h : TkR e m) (h5 : e.1 5 = m.1 25) (h0 : 0 ≤ m.1 25) (hle : m.1 25 ≤ m.1 24) : p_X6_tokenIs_v1003 e ∧ (¬ f_X6_tokenIs_v1003 e = 0 ↔ m.1 24 - m.1 25 = 4 ∧ m.2 22 ((m.1 25).toNatClampNeg + 0) = 102 ∧ m.2 22 ((m.1 25).toNatClampNeg + 1) = 111 ∧ m.2 22 ((m.1 25).toNatClampNeg + 2) = 108 ∧ m.2 22 ((m.1 25).toNatClampNeg + 3) = 100) := by
  have h4 := h.2.1
  have hal := h.2.2.2
  have l200 := h.1.2.2.1
  unfold p_X6_tokenIs_v1003 f_X6_tokenIs_v1003
  rw [h4, h5]
  by_cases c : m.1 24 - m.1 25 = 4
  · have q4 : m.1 24 = m.1 25 + 4 := by grind
    obtain ⟨k1, k2, k3, k4, _⟩ := cl_4 h0 (by grind)
    have b0 := by_in h (x := m.1 25 + 0) (by grind) (by grind)
    have b1 := by_in h (x := m.1 25 + 1) (by grind) (by grind)
    have b2 := by_in h (x := m.1 25 + 2) (by grind) (by grind)
    have b3 := by_in h (x := m.1 25 + 3) (by grind) (by grind)
    rw [show m.1 25 + 0 = m.1 25 by grind] at b0
    rw [k1] at b1
    rw [k2] at b2
    rw [k3] at b3
    have n0 : ¬ (4 : Int32) ≤ 0 := by decide
    have n1 : ¬ (4 : Int32) ≤ 1 := by decide
    have n2 : ¬ (4 : Int32) ≤ 2 := by decide
    have n3 : ¬ (4 : Int32) ≤ 3 := by decide
    have n4 : (4 : Int32) ≤ 4 := by decide
    have i1 : Int32.ofInt 0 = 0 := by decide
    have i2 : (0 : Int32) + Int32.ofInt 1 = 1 := by decide
    have i3 : (1 : Int32) + Int32.ofInt 1 = 2 := by decide
    have i4 : (2 : Int32) + Int32.ofInt 1 = 3 := by decide
    have i5 : (3 : Int32) + Int32.ofInt 1 = 4 := by decide
    have d0 : chF1003 (Int32.toNatClampNeg 0) = 102 := by decide
    have d1 : chF1003 (Int32.toNatClampNeg 1) = 111 := by decide
    have d2 : chF1003 (Int32.toNatClampNeg 2) = 108 := by decide
    have d3 : chF1003 (Int32.toNatClampNeg 3) = 100 := by decide
    have o1 : Int32.ofInt 1 = 1 := by decide
    have vi : ∀ z : Int32, 0 ≤ z → z < 4 → vp_in z 4 := fun z a b => vinb (n := 4) a b
    have v0 := vi 0 (by decide) (by decide)
    have v1 := vi 1 (by decide) (by decide)
    have v2 := vi 2 (by decide) (by decide)
    have v3 := vi 3 (by decide) (by decide)
    rw [if_pos c]
    rw [i1, ti3_step 39, i2, ti3_step 38, i3, ti3_step 37, i4, ti3_step 36, i5, ti3_step 35, if_neg n0, if_neg n1, if_neg n2, if_neg n3, if_pos n4, d0, d1, d2, d3, h5, b1.1, b2.1, b3.1]
    rw [ti3_pstep 39, i2, ti3_pstep 38, i3, ti3_pstep 37, i4, ti3_pstep 36, i5, ti3_pstep 35, h5]
    rw [show m.1 25 + 0 = m.1 25 by grind, b0.1]
    constructor
    · exact ⟨fun _ => ⟨fun _ => trivial, fun _ => ⟨b0.2, v0, fun _ => ⟨fun _ => trivial, fun _ => ⟨b1.2, v1, fun _ => ⟨fun _ => trivial, fun _ => ⟨b2.2, v2, fun _ => ⟨fun _ => trivial, fun _ => ⟨b3.2, v3, fun _ => ⟨fun _ => trivial, fun y => absurd n4 y⟩, fun _ => trivial⟩⟩, fun _ => trivial⟩⟩, fun _ => trivial⟩⟩, fun _ => trivial⟩⟩, fun _ => trivial⟩
    · grind
  · rw [if_neg c]
    exact ⟨⟨fun y => absurd y c, fun _ => trivial⟩, ⟨fun y => absurd (by decide) y, fun y => absurd y.1 c⟩⟩
theorem dig4 (a b c d : Int) (ha : 1 ≤ a ∧ a ≤ 26) (hb : 1 ≤ b ∧ b ≤ 26) (hc : 1 ≤ c ∧ c ≤ 26) (hd : 1 ≤ d ∧ d ≤ 26) :
    (True ∧ a = 115 - 96 ∧ b = 116 - 96 ∧ c = 101 - 96 ∧ d = 112 - 96 ↔ 32 * (32 * (32 * (32 * 0 + a) + b) + c) + d = 643248) ∧ (True ∧ a = 102 - 96 ∧ b = 111 - 96 ∧ c = 108 - 96 ∧ d = 100 - 96 ↔ 32 * (32 * (32 * (32 * 0 + a) + b) + c) + d = 212356) := by
  refine ⟨⟨fun h => by omega, fun h => ?_⟩, ⟨fun h => by omega, fun h => ?_⟩⟩
  · have e1 : a = 19 := by omega
    have e2 : b = 20 := by omega
    have e3 : c = 5 := by omega
    have e4 : d = 16 := by omega
    exact ⟨trivial, e1, e2, e3, e4⟩
  · have e1 : a = 6 := by omega
    have e2 : b = 15 := by omega
    have e3 : c = 12 := by omega
    have e4 : d = 4 := by omega
    exact ⟨trivial, e1, e2, e3, e4⟩
theorem wo_fin {e m : Rec} (h : TkR e m) (h5 : e.1 5 = m.1 25) (h0 : 0 ≤ m.1 25) (hle : m.1 25 ≤ m.1 24) {w : Nat} (hw : (m.1 24).toNatClampNeg = (m.1 25).toNatClampNeg + w) (hl : ∀ i, i < w → 97 ≤ m.2 22 ((m.1 25).toNatClampNeg + i) ∧ m.2 22 ((m.1 25).toNatClampNeg + i) ≤ 122) {v : Int64} (hv : v.toInt = if w ≤ 5 then hvI (lt1 m) w else 0) :
    (¬ f_X6_tokenIs_v1002 e = 0 ↔ lg_cmp v 643248 = 0) ∧ (¬ f_X6_tokenIs_v1003 e = 0 ↔ lg_cmp v 212356 = 0) := by
  rw [(ti2_all h h5 h0 hle).2, (ti3_all h h5 h0 hle).2, lc0, lc0, hv]
  rw [show (643248 : Int64).toInt = 643248 by decide, show (212356 : Int64).toInt = 212356 by decide]
  have l200 := h.1.2.2.1
  have hal := h.2.2.2
  have w4 : m.1 24 - m.1 25 = 4 ↔ w = 4 := by
    obtain ⟨_, _, _, k4, _⟩ := cl_4 h0 (by grind)
    constructor
    · intro q
      rw [show m.1 24 = m.1 25 + 4 by grind, k4] at hw
      omega
    · intro q
      have := cl_inj (x := m.1 24) (y := m.1 25 + 4) h.2.2.1 (by grind) (by rw [k4, hw, q])
      grind
  rw [w4]
  have dg : ∀ i, i < w → 1 ≤ lt1 m i ∧ lt1 m i ≤ 26 := by
    intro i hi
    have := hl i hi
    have a1 := Int32.le_iff_toInt_le.mp this.1
    have a2 := Int32.le_iff_toInt_le.mp this.2
    have e1 : (97 : Int32).toInt = 97 := by decide
    have e2 : (122 : Int32).toInt = 122 := by decide
    unfold lt1
    omega
  have dq : ∀ (i : Nat) (c : Int32), m.2 22 ((m.1 25).toNatClampNeg + i) = c ↔ lt1 m i = c.toInt - 96 := by
    intro i c
    unfold lt1
    constructor
    · intro q; rw [q]
    · intro q
      exact Int32.toInt_inj.mp (by omega)
  simp only [dq]
  have c1 : (115 : Int32).toInt = 115 := by decide
  have c2 : (116 : Int32).toInt = 116 := by decide
  have c3 : (101 : Int32).toInt = 101 := by decide
  have c4 : (112 : Int32).toInt = 112 := by decide
  have c5 : (102 : Int32).toInt = 102 := by decide
  have c6 : (111 : Int32).toInt = 111 := by decide
  have c7 : (108 : Int32).toInt = 108 := by decide
  have c8 : (100 : Int32).toInt = 100 := by decide
  rw [c1, c2, c3, c4, c5, c6, c7, c8]
  by_cases q6 : 5 < w
  · rw [if_neg (by omega)]
    omega
  · rw [if_pos (by omega)]
    obtain q | q | q | q | q | q : w = 0 ∨ w = 1 ∨ w = 2 ∨ w = 3 ∨ w = 4 ∨ w = 5 := by omega
    · subst q
      simp only [hvI]
      omega
    · subst q
      have := dg 0 (by omega)
      simp only [hvI]
      omega
    · subst q
      have := dg 0 (by omega)
      have := dg 1 (by omega)
      simp only [hvI]
      omega
    · subst q
      have := dg 0 (by omega)
      have := dg 1 (by omega)
      have := dg 2 (by omega)
      simp only [hvI]
      omega
    · subst q
      have := dg 0 (by omega)
      have := dg 1 (by omega)
      have := dg 2 (by omega)
      have := dg 3 (by omega)
      simp only [hvI]
      exact dig4 _ _ _ _ (dg 0 (by omega)) (dg 1 (by omega)) (dg 2 (by omega)) (dg 3 (by omega))
    · subst q
      have := dg 0 (by omega)
      have := dg 1 (by omega)
      have := dg 2 (by omega)
      have := dg 3 (by omega)
      have := dg 4 (by omega)
      simp only [hvI]
      omega
