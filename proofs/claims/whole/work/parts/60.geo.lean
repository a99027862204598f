/-! layer 3, pure rows: the machine's whole numbers as grind knows them -/
theorem cl_lt {x : Int32} {n : Nat} (h0 : 0 ≤ x) (h : x < Int32.ofNat n) (hn : n < 2 ^ 31 := by decide) : x.toNatClampNeg < n := by
  have h1 := Int32.lt_iff_toInt_lt.mp h
  have h2 := Int32.le_iff_toInt_le.mp h0
  rw [Int32.toInt_ofNat_of_lt hn] at h1
  have h3 : (0 : Int32).toInt = 0 := rfl
  rw [h3] at h2
  show x.toInt.toNat < n
  omega
theorem cl_c36 {x : Int32} (h0 : 0 ≤ x) (h : x < 36) : x.toNatClampNeg < 36 := cl_lt (n := 36) h0 h
theorem cl_inj {x y : Int32} (hx : 0 ≤ x) (hy : 0 ≤ y) (h : x.toNatClampNeg = y.toNatClampNeg) : x = y := by
  rw [← Int32.ofNat_toNatClampNeg x hx, ← Int32.ofNat_toNatClampNeg y hy, h]
theorem cl_nI {n : Nat} (h : n < 2 ^ 31) : (Int32.ofNat n).toNatClampNeg = n := Int32.toNatClampNeg_ofNat_of_lt h
theorem cl_of {n N : Nat} (h : n < N) (hN : N < 2 ^ 31 := by decide) : ∃ x : Int32, 0 ≤ x ∧ x < Int32.ofNat N ∧ x.toNatClampNeg = n := by
  refine ⟨Int32.ofNat n, ?_, ?_, cl_nI (by omega)⟩
  · rw [Int32.le_iff_toInt_le, Int32.toInt_ofNat_of_lt (by omega)]
    show (0 : Int) ≤ _
    omega
  · rw [Int32.lt_iff_toInt_lt, Int32.toInt_ofNat_of_lt (by omega), Int32.toInt_ofNat_of_lt hN]
    omega
theorem vinb {x : Int32} {n : Nat} (h0 : 0 ≤ x) (h : x < Int32.ofNat n) (hn : n < 2 ^ 31 := by decide) : vp_in x n := by
  have := cl_lt h0 h hn
  intro q
  rcases q with q | q
  · grind
  · omega
theorem vin36 {x : Int32} (h0 : 0 ≤ x) (h : x < 36) : vp_in x 36 := vinb (n := 36) h0 h
theorem in_w (a b c : Int32) : f_X9_in a.toInt64 b.toInt64 c.toInt64 = f_X8_within a b c := by
  have e1 : ∀ x y : Int32, lg_cmp x.toInt64 y.toInt64 = if y < x then 1 else if x = y then 0 else -1 := by
    intro x y
    unfold lg_cmp
    have h1 : (x.toInt64 > y.toInt64) ↔ y < x := Int32.toInt64_lt
    have h2 : (x.toInt64 = y.toInt64) ↔ x = y := by
      constructor
      · intro h
        have := congrArg Int64.toInt32 h
        simpa using this
      · intro h; rw [h]
    simp only [h1, h2]
  unfold f_X9_in f_X8_within
  rw [e1, e1]
  grind
theorem in_0 : (Int64.ofNat 0) = (0 : Int32).toInt64 := by decide
theorem in_1 : (Int64.ofNat 1) = (1 : Int32).toInt64 := by decide
theorem in_0' : (0 : Int64) = (0 : Int32).toInt64 := by decide
theorem in_1' : (1 : Int64) = (1 : Int32).toInt64 := by decide
theorem in_2 : (2 : Int64) = (2 : Int32).toInt64 := by decide
theorem in_3 : (3 : Int64) = (3 : Int32).toInt64 := by decide
theorem in_4 : (4 : Int64) = (4 : Int32).toInt64 := by decide
theorem in_5 : (5 : Int64) = (5 : Int32).toInt64 := by decide
theorem in_6 : (6 : Int64) = (6 : Int32).toInt64 := by decide
theorem in_8 : (8 : Int64) = (8 : Int32).toInt64 := by decide
theorem in_9 : (9 : Int64) = (9 : Int32).toInt64 := by decide
theorem in_35 : (35 : Int64) = (35 : Int32).toInt64 := by decide
theorem in_36 : (36 : Int64) = (36 : Int32).toInt64 := by decide
theorem wi_z {v a b : Int32} : f_X8_within v a b = 0 ↔ (v < a ∨ b < v) := by
  unfold f_X8_within
  grind
theorem wi_n {v a b : Int32} : ¬ f_X8_within v a b = 0 ↔ (a ≤ v ∧ v ≤ b) := by
  unfold f_X8_within
  grind
/-- the reference's square is on the board, by plain words -/
theorem isCell_z (m : Rec) (c : Int32) : f_X9_isCell m c = 0 ∨ f_X9_isCell m c = 1 := z_X9_isCell m c
theorem isCell_out {m : Rec} {c : Int32} (h : c < 0 ∨ 36 ≤ c) : f_X9_isCell m c = 0 := by
  unfold f_X9_isCell
  rw [in_0, in_35, in_w]
  have : f_X8_within c 0 35 = 0 := wi_z.mpr (by grind)
  rw [if_pos this]
  rfl
theorem isCell_congr {m m' : Rec} (h : m.2 0 = m'.2 0) (c : Int32) : f_X9_isCell m c = f_X9_isCell m' c := by
  unfold f_X9_isCell
  rw [h]
theorem isCell_in {m : Rec} {c : Int32} (h : ¬ f_X9_isCell m c = 0) : 0 ≤ c ∧ c < 36 := by
  refine ⟨?_, ?_⟩
  · by_cases q : c < 0
    · exact absurd (isCell_out (Or.inl q)) h
    · grind
  · by_cases q : 36 ≤ c
    · exact absurd (isCell_out (Or.inr q)) h
    · grind
/-- rows of the class's sheet and of the reference, alike -/
def SG (s g : Rec) : Prop := ∀ c : Int32, 0 ≤ c → c < 36 → s.2 8 c.toNatClampNeg = f_X9_isCell g c ∧ s.2 10 c.toNatClampNeg = g.2 4 c.toNatClampNeg ∧ s.2 11 c.toNatClampNeg = g.2 5 c.toNatClampNeg ∧ s.2 12 c.toNatClampNeg = g.2 6 c.toNatClampNeg ∧ s.2 9 c.toNatClampNeg = g.2 7 c.toNatClampNeg
theorem sg_liesAt {s g : Rec} (h : SG s g) (c x y : Int32) : f_X4_liesAt s c x y = f_X9_isAt g c x y := by
  unfold f_X4_liesAt f_X9_isAt
  by_cases h0 : c < 0
  · rw [isCell_out (Or.inl h0)]
    simp [h0]
  · by_cases h1 : 36 ≤ c
    · rw [isCell_out (Or.inr h1)]
      grind
    · obtain ⟨a1, a2, a3, a4, a5⟩ := h c (by grind) (by grind)
      rw [a1, a2, a3]
      grind
theorem sg_has {s g : Rec} (h : SG s g) (c : Int32) : f_X4_has s c = f_X9_isCell g c := by
  unfold f_X4_has
  by_cases h0 : f_X8_within c (Int32.ofInt 0) (Int32.ofInt 35) = 0
  · rw [isCell_out (by have := wi_z.mp h0; grind)]
    exact if_pos h0
  · have h2 := wi_n.mp h0
    obtain ⟨a1, a2, a3, a4, a5⟩ := h c (by grind) (by grind)
    rw [a1, if_neg h0]
    rcases isCell_z g c with q | q <;> rw [q] <;> rfl
theorem sg_topAt5 {s g : Rec} (h : SG s g) (x y : Int32) : ∀ (n : Nat) (v3 v4 : Int32), 0 ≤ v4 → (v3 = -1 ∨ (0 ≤ v3 ∧ v3 < 36)) → f_X4_topAt_5 n s x y v3 v4 = f_X9_topAt_5 n g x y v3 v4 := by
  intro n
  induction n with
  | zero => intros; rfl
  | succ n ih =>
    intro v3 v4 h4 h3
    unfold f_X4_topAt_5 f_X9_topAt_5
    rw [sg_liesAt h]
    by_cases c1 : (Int32.ofInt 36) ≤ v4
    · rw [if_pos c1, if_pos c1]
    · have hl := h v4 h4 (by grind)
      rw [if_neg c1, if_neg c1, hl.2.2.2.1]
      have i1 := ih v3 (v4 + 1) (by grind) h3
      have i2 := ih v4 (v4 + 1) (by grind) (by grind)
      by_cases c3 : v3 = -1
      · grind
      · have hl3 := h v3 (by grind) (by grind)
        rw [hl3.2.2.2.1]
        grind
theorem sg_topAt {s g : Rec} (h : SG s g) (x y : Int32) : f_X4_topAt s x y = f_X9_topAt g x y := sg_topAt5 h x y 40 _ _ (by decide) (Or.inl rfl)
/-! the sheet is measured as the reference looks for its ends -/
theorem setG_1 (r : Rec) (k : Nat) (x : Int32) (j : Nat) : (setG r k x).1 j = if j = k then x else r.1 j := rfl
theorem setG_2 (r : Rec) (k : Nat) (x : Int32) : (setG r k x).2 = r.2 := rfl
theorem setA_1 (r : Rec) (k : Nat) (f : Nat → Int32) : (setA r k f).1 = r.1 := rfl
theorem setA_2 (r : Rec) (k : Nat) (f : Nat → Int32) (j : Nat) : (setA r k f).2 j = if j = k then f else r.2 j := rfl
theorem upd_at (f : Nat → Int32) (k : Nat) (x : Int32) (j : Nat) : upd f k x j = if j = k then x else f j := rfl
theorem cl_le {x : Int32} {n : Nat} (h0 : 0 ≤ x) (h : x ≤ Int32.ofNat n) (hn : n < 2 ^ 31 := by decide) : x.toNatClampNeg ≤ n := by
  have h1 := Int32.le_iff_toInt_le.mp h
  have h2 := Int32.le_iff_toInt_le.mp h0
  rw [Int32.toInt_ofNat_of_lt hn] at h1
  have h3 : (0 : Int32).toInt = 0 := rfl
  rw [h3] at h2
  show x.toInt.toNat ≤ n
  omega
theorem cl_succ {x : Int32} (h0 : 0 ≤ x) (h : x < 1000000) : (x + 1).toNatClampNeg = x.toNatClampNeg + 1 := by
  have h2 := cl_lt (n := 1000000) h0 h
  have h3 : x + 1 = nI (x.toNatClampNeg + 1) := by
    rw [nI_succ]
    show x + 1 = Int32.ofNat x.toNatClampNeg + 1
    rw [Int32.ofNat_toNatClampNeg x h0]
  rw [h3, nI_clamp (by omega)]
/-- a loop that counts up to N has the fuel it needs -/
def Fu (N n : Nat) (v : Int32) : Prop := 0 ≤ v ∧ v ≤ Int32.ofNat N ∧ N < n + v.toNatClampNeg
theorem Fu.z {N : Nat} {v : Int32} (hN : N < 1000000) (h : Fu N 0 v) : False := by
  have := cl_le h.1 h.2.1 (by omega)
  have := h.2.2
  omega
theorem nIlt {N : Nat} (hN : N < 1000000) : Int32.ofNat N < 1000000 := by
  rw [Int32.lt_iff_toInt_lt, Int32.toInt_ofNat_of_lt (by omega)]
  show (N : Int) < 1000000
  omega
theorem Fu.s {N n : Nat} {v : Int32} (hN : N < 1000000) (h : Fu N (n + 1) v) (hv : ¬ Int32.ofNat N ≤ v) : Fu N n (v + 1) ∧ 0 ≤ v ∧ v < Int32.ofNat N := by
  have h1 := nIlt hN
  have h2 := h.1
  have h3 := h.2.1
  refine ⟨⟨by grind, by grind, ?_⟩, h2, by grind⟩
  have := h.2.2
  rw [cl_succ h2 (by grind)]
  omega
theorem Fu.o {N n : Nat} (h : N < n) (hN : N < 1000000 := by decide) : Fu N n 0 := by
  refine ⟨by decide, ?_, by simpa using h⟩
  rw [Int32.le_iff_toInt_le, Int32.toInt_ofNat_of_lt (by omega)]
  show (0 : Int) ≤ _
  omega
def loV (v1 f u : Int32) : Int32 := if v1 = 0 then u else if u ≤ f then u else f
def hiV (v1 f u : Int32) : Int32 := if v1 = 0 then u else if f ≤ u then u else f
def mset (s : Rec) (v1 : Int32) (k : Nat) : Rec := setG (setG (setG (setG (setG s 3 (loV v1 (s.1 3) (s.2 10 k))) 4 (hiV v1 (s.1 4) (s.2 10 k))) 5 (loV v1 (s.1 5) (s.2 11 k))) 6 (hiV v1 (s.1 6) (s.2 11 k))) 7 (if s.1 7 ≤ s.2 12 k then s.2 12 k else s.1 7)
theorem mea_step (n : Nat) (s : Rec) (v1 v2 : Int32) : f_X4_measure_29 (n + 1) s v1 v2 = if (Int32.ofInt 36) ≤ v2 then s else if s.2 8 v2.toNatClampNeg = 0 then f_X4_measure_29 n s v1 (v2 + 1) else f_X4_measure_29 n (mset s v1 v2.toNatClampNeg) 1 (v2 + 1) := by
  rw [f_X4_measure_29]
  unfold mset
  simp only [f_X4_measure_78, f_X4_measure_146, setG_1, setG_2, loV, hiV]
  grind
/-- the greatest layer -/
def tl : Nat → Rec → Int32 → Int32 → Int32
  | 0, _, _, _ => 0
  | n + 1, m, v4, v5 => if (Int32.ofInt 36) ≤ v5 then v4 else if f_X9_isCell m v5 = 0 then tl n m v4 (v5 + 1) else if m.2 6 v5.toNatClampNeg ≤ v4 then tl n m v4 (v5 + 1) else tl n m (m.2 6 v5.toNatClampNeg) (v5 + 1)
def topL (g : Rec) : Int32 := tl 40 g 0 0
def Ends (s g : Rec) : Prop := s.1 3 = f_X9_end g 0 0 ∧ s.1 4 = f_X9_end g 0 1 ∧ s.1 5 = f_X9_end g 1 0 ∧ s.1 6 = f_X9_end g 1 1 ∧ s.1 7 = topL g
def co (g : Rec) (a c : Int32) : Int32 := if a = 0 then g.2 4 c.toNatClampNeg else g.2 5 c.toNatClampNeg
theorem en_step {n : Nat} {g : Rec} {a b v3 v4 v5 : Int32} : f_X9_end_8 (n + 1) g a b v3 v4 v5 = if Int32.ofInt 36 ≤ v5 then v3 else if f_X9_isCell g v5 = 0 then f_X9_end_8 n g a b v3 v4 (v5 + 1) else if v4 = 0 then f_X9_end_8 n g a b (co g a v5) 1 (v5 + 1) else if (if b = 0 then v3 ≤ co g a v5 else co g a v5 ≤ v3) then f_X9_end_8 n g a b v3 v4 (v5 + 1) else f_X9_end_8 n g a b (co g a v5) 1 (v5 + 1) := by
  rw [f_X9_end_8]
  unfold f_X9_end_36 co
  have ev : v5 + Int32.ofInt 1 = v5 + 1 := rfl
  have e1 : Int32.ofInt 1 = 1 := rfl
  rw [ev, e1]
  by_cases ha : a = 0
  · simp only [if_pos ha]
    by_cases hb : b = 0
    · simp only [if_pos hb]
    · simp only [if_neg hb]
  · simp only [if_neg ha]
    by_cases hb : b = 0
    · simp only [if_pos hb]
    · simp only [if_neg hb]
theorem mea_loop {s0 g : Rec} (h : SG s0 g) : ∀ (n : Nat) (s : Rec) (v1 v2 : Int32), Fu 36 n v2 → s.2 = s0.2 → (v1 = 0 ∨ v1 = 1) →
    (f_X4_measure_29 n s v1 v2).2 = s0.2 ∧ (f_X4_measure_29 n s v1 v2).1 0 = s.1 0 ∧ (f_X4_measure_29 n s v1 v2).1 1 = s.1 1 ∧ (f_X4_measure_29 n s v1 v2).1 2 = s.1 2 ∧
    (f_X4_measure_29 n s v1 v2).1 3 = f_X9_end_8 n g 0 0 (s.1 3) v1 v2 ∧ (f_X4_measure_29 n s v1 v2).1 4 = f_X9_end_8 n g 0 1 (s.1 4) v1 v2 ∧ (f_X4_measure_29 n s v1 v2).1 5 = f_X9_end_8 n g 1 0 (s.1 5) v1 v2 ∧ (f_X4_measure_29 n s v1 v2).1 6 = f_X9_end_8 n g 1 1 (s.1 6) v1 v2 ∧ (f_X4_measure_29 n s v1 v2).1 7 = tl n g (s.1 7) v2 := by
  intro n
  induction n with
  | zero => intro s v1 v2 hf; exact (hf.z (by decide)).elim
  | succ n ih =>
    intro s v1 v2 hf hs hv
    rw [mea_step, en_step, en_step, en_step, en_step, tl]
    have c00 : co g 0 v2 = g.2 4 v2.toNatClampNeg := rfl
    have c01 : co g 1 v2 = g.2 5 v2.toNatClampNeg := rfl
    rw [c00, c01]
    by_cases c1 : (Int32.ofInt 36) ≤ v2
    · simp only [if_pos c1, hs, and_self]
    · obtain ⟨f1, f2, f3⟩ := hf.s (by decide) c1
      obtain ⟨a1, a2, a3, a4, a5⟩ := h v2 f2 f3
      simp only [if_neg c1, hs, a1]
      by_cases c2 : f_X9_isCell g v2 = 0
      · simp only [if_pos c2]
        exact ih s v1 (v2 + 1) f1 hs hv
      · simp only [if_neg c2]
        obtain ⟨t0, t1, t2, t3, t4, t5, t6, t7, t8⟩ := ih (mset s v1 v2.toNatClampNeg) 1 (v2 + 1) f1 hs (Or.inr rfl)
        have e3 : (mset s v1 v2.toNatClampNeg).1 3 = loV v1 (s.1 3) (s.2 10 v2.toNatClampNeg) := rfl
        have e4 : (mset s v1 v2.toNatClampNeg).1 4 = hiV v1 (s.1 4) (s.2 10 v2.toNatClampNeg) := rfl
        have e5 : (mset s v1 v2.toNatClampNeg).1 5 = loV v1 (s.1 5) (s.2 11 v2.toNatClampNeg) := rfl
        have e6 : (mset s v1 v2.toNatClampNeg).1 6 = hiV v1 (s.1 6) (s.2 11 v2.toNatClampNeg) := rfl
        have e7 : (mset s v1 v2.toNatClampNeg).1 7 = if s.1 7 ≤ s.2 12 v2.toNatClampNeg then s.2 12 v2.toNatClampNeg else s.1 7 := rfl
        rw [e3, hs, a2] at t4
        rw [e4, hs, a2] at t5
        rw [e5, hs, a3] at t6
        rw [e6, hs, a3] at t7
        rw [e7, hs, a4] at t8
        unfold loV at t4 t6
        unfold hiV at t5 t7
        refine ⟨t0, t1, t2, t3, ?_, ?_, ?_, ?_, ?_⟩
        · rw [t4]
          clear t0 t1 t2 t3 t4 t5 t6 t7 t8 ih
          rcases hv with v0 | v0
          · simp only [if_pos v0]
          · subst v0
            simp only [if_neg (show ¬ (1 : Int32) = 0 by decide), if_pos (show (0 : Int32) = 0 from rfl)]
            grind
        · rw [t5]
          clear t0 t1 t2 t3 t4 t5 t6 t7 t8 ih
          rcases hv with v0 | v0
          · simp only [if_pos v0]
          · subst v0
            simp only [if_neg (show ¬ (1 : Int32) = 0 by decide)]
            grind
        · rw [t6]
          clear t0 t1 t2 t3 t4 t5 t6 t7 t8 ih
          rcases hv with v0 | v0
          · simp only [if_pos v0]
          · subst v0
            simp only [if_neg (show ¬ (1 : Int32) = 0 by decide), if_pos (show (0 : Int32) = 0 from rfl)]
            grind
        · rw [t7]
          clear t0 t1 t2 t3 t4 t5 t6 t7 t8 ih
          rcases hv with v0 | v0
          · simp only [if_pos v0]
          · subst v0
            simp only [if_neg (show ¬ (1 : Int32) = 0 by decide)]
            grind
        · rw [t8]
          clear t0 t1 t2 t3 t4 t5 t6 t7 t8 ih
          grind
/-! one FOLD, row by row -/
theorem moves_t (m : Rec) (c a l w : Int32) : f_X9_moves m c a l w = f_X8_turns (if a = 0 then m.2 4 c.toNatClampNeg else m.2 5 c.toNatClampNeg) l w := by
  unfold f_X9_moves f_X9_moves_32 f_X8_turns
  grind
def turnR (cp a l w t : Int32) (q : Int32 × Int32 × Int32 × Int32) : Int32 × Int32 × Int32 × Int32 := if cp = 0 then q else if f_X8_turns (if a = 0 then q.1 else q.2.1) l w = 0 then q else (if a = 0 then 2 * l - 1 - q.1 else q.1, if a = 0 then q.2.1 else 2 * l - 1 - q.2.1, t - q.2.2.1, if q.2.2.2 = 0 then 1 else 0)
def rowM (m : Rec) (k : Nat) : Int32 × Int32 × Int32 × Int32 := (m.2 4 k, m.2 5 k, m.2 6 k, m.2 7 k)
def rowS (s : Rec) (k : Nat) : Int32 × Int32 × Int32 × Int32 := (s.2 10 k, s.2 11 k, s.2 12 k, s.2 9 k)
theorem to_top {a l w : Int32} : ∀ (n : Nat) (m : Rec) (v4 v5 : Int32), Fu 36 n v5 → f_X9_turnsOver_6 n m a l w v4 v5 = f_X9_turnsOver_57 40 m a l w (tl n m v4 v5) 0 := by
  intro n
  induction n with
  | zero => intro m v4 v5 hf; exact (hf.z (by decide)).elim
  | succ n ih =>
    intro m v4 v5 hf
    rw [f_X9_turnsOver_6, tl]
    by_cases c1 : (Int32.ofInt 36) ≤ v5
    · rw [if_pos c1, if_pos c1]; rfl
    · obtain ⟨f1, f2, f3⟩ := hf.s (by decide) c1
      rw [if_neg c1, if_neg c1]
      have i1 := ih m v4 (v5 + 1) f1
      have i2 := ih m (m.2 6 v5.toNatClampNeg) (v5 + 1) f1
      have e : v5 + (Int32.ofInt 1) = v5 + 1 := rfl
      rw [e]
      grind
/-- one square turned over -/
def toM (m : Rec) (a l t : Int32) (k : Nat) : Rec := if a = 0 then setA (setA (setA m 4 (upd (m.2 4) k (2 * l - 1 - m.2 4 k))) 6 (upd (m.2 6) k (2 * t + 1 - m.2 6 k))) 7 (upd (m.2 7) k (if m.2 7 k = 0 then 1 else 0)) else setA (setA (setA m 5 (upd (m.2 5) k (2 * l - 1 - m.2 5 k))) 6 (upd (m.2 6) k (2 * t + 1 - m.2 6 k))) 7 (upd (m.2 7) k (if m.2 7 k = 0 then 1 else 0))
theorem to_step (n : Nat) (m : Rec) (a l w t v5 : Int32) : f_X9_turnsOver_57 (n + 1) m a l w t v5 = if (Int32.ofInt 36) ≤ v5 then m else if f_X9_isCell m v5 = 0 then f_X9_turnsOver_57 n m a l w t (v5 + 1) else if f_X9_moves m v5 a l w = 0 then f_X9_turnsOver_57 n m a l w t (v5 + 1) else f_X9_turnsOver_57 n (toM m a l t v5.toNatClampNeg) a l w t (v5 + 1) := by
  rw [f_X9_turnsOver_57]
  unfold toM
  repeat' split
  all_goals rfl
theorem toM_1 (m : Rec) (a l t : Int32) (k : Nat) : (toM m a l t k).1 = m.1 := by
  unfold toM; split <;> rfl
theorem toM_o (m : Rec) (a l t : Int32) (k j : Nat) (h : j ≠ 4 ∧ j ≠ 5 ∧ j ≠ 6 ∧ j ≠ 7) : (toM m a l t k).2 j = m.2 j := by
  unfold toM; split <;> simp [setA_2, h]
theorem toM_row (m : Rec) (a l t : Int32) (k i : Nat) : rowM (toM m a l t k) i = if i = k then (if a = 0 then 2 * l - 1 - m.2 4 k else m.2 4 k, if a = 0 then m.2 5 k else 2 * l - 1 - m.2 5 k, 2 * t + 1 - m.2 6 k, if m.2 7 k = 0 then 1 else 0) else rowM m i := by
  unfold toM rowM
  by_cases ha : a = 0 <;> by_cases hi : i = k <;> simp [ha, hi, setA_2, upd_at]
theorem to_loop {a l w t : Int32} : ∀ (n : Nat) (m : Rec) (v5 : Int32), Fu 36 n v5 →
    (f_X9_turnsOver_57 n m a l w t v5).1 = m.1 ∧ (∀ j, j ≠ 4 ∧ j ≠ 5 ∧ j ≠ 6 ∧ j ≠ 7 → (f_X9_turnsOver_57 n m a l w t v5).2 j = m.2 j) ∧
    (∀ c : Int32, 0 ≤ c → c < 36 → rowM (f_X9_turnsOver_57 n m a l w t v5) c.toNatClampNeg = if c < v5 then rowM m c.toNatClampNeg else turnR (f_X9_isCell m c) a l w (2 * t + 1) (rowM m c.toNatClampNeg)) := by
  intro n
  induction n with
  | zero => intro m v5 hf; exact (hf.z (by decide)).elim
  | succ n ih =>
    intro m v5 hf
    rw [to_step]
    by_cases c1 : (Int32.ofInt 36) ≤ v5
    · rw [if_pos c1]
      refine ⟨rfl, fun _ _ => rfl, fun c h1 h2 => ?_⟩
      rw [if_pos (by grind)]
    · obtain ⟨f1, f2, f3⟩ := hf.s (by decide) c1
      rw [if_neg c1]
      by_cases c2 : f_X9_isCell m v5 = 0
      · rw [if_pos c2]
        obtain ⟨i1, i2, i3⟩ := ih m (v5 + 1) f1
        refine ⟨i1, i2, fun c h1 h2 => ?_⟩
        rw [i3 c h1 h2]
        by_cases h3 : c = v5
        · subst h3
          rw [if_pos (by grind), if_neg (by grind)]
          unfold turnR
          rw [if_pos c2]
        · by_cases h4 : c < v5
          · rw [if_pos (by grind), if_pos h4]
          · rw [if_neg (by grind), if_neg h4]
      · rw [if_neg c2]
        by_cases c3 : f_X9_moves m v5 a l w = 0
        · rw [if_pos c3]
          obtain ⟨i1, i2, i3⟩ := ih m (v5 + 1) f1
          refine ⟨i1, i2, fun c h1 h2 => ?_⟩
          rw [i3 c h1 h2]
          by_cases h3 : c = v5
          · subst h3
            rw [if_pos (by grind), if_neg (by grind)]
            unfold turnR
            rw [moves_t] at c3
            rw [if_neg c2, if_pos (show f_X8_turns (if a = 0 then (rowM m c.toNatClampNeg).1 else (rowM m c.toNatClampNeg).2.1) l w = 0 from c3)]
          · by_cases h4 : c < v5
            · rw [if_pos (by grind), if_pos h4]
            · rw [if_neg (by grind), if_neg h4]
        · rw [if_neg c3]
          obtain ⟨i1, i2, i3⟩ := ih (toM m a l t v5.toNatClampNeg) (v5 + 1) f1
          refine ⟨i1.trans (toM_1 ..), fun j hj => (i2 j hj).trans (toM_o _ _ _ _ _ _ hj), fun c h1 h2 => ?_⟩
          rw [i3 c h1 h2, isCell_congr (toM_o m a l t v5.toNatClampNeg 0 (by decide)), toM_row]
          by_cases h3 : c = v5
          · subst h3
            rw [if_pos (show c < c + 1 by grind), if_pos rfl, if_neg (show ¬ c < c by grind)]
            unfold turnR
            rw [moves_t] at c3
            rw [if_neg c2, if_neg (show ¬ f_X8_turns (if a = 0 then (rowM m c.toNatClampNeg).1 else (rowM m c.toNatClampNeg).2.1) l w = 0 from c3)]
            rfl
          · have h5 : ¬ c.toNatClampNeg = v5.toNatClampNeg := fun q => h3 (cl_inj h1 f2 q)
            rw [if_neg h5]
            by_cases h4 : c < v5
            · rw [if_pos (by grind), if_pos h4]
            · rw [if_neg (by grind), if_neg h4]
theorem to_all (m : Rec) (a l w : Int32) : (f_X9_turnsOver m a l w).1 = m.1 ∧ (∀ j, j ≠ 4 ∧ j ≠ 5 ∧ j ≠ 6 ∧ j ≠ 7 → (f_X9_turnsOver m a l w).2 j = m.2 j) ∧ (∀ c : Int32, 0 ≤ c → c < 36 → rowM (f_X9_turnsOver m a l w) c.toNatClampNeg = turnR (f_X9_isCell m c) a l w (2 * topL m + 1) (rowM m c.toNatClampNeg)) := by
  have e : f_X9_turnsOver m a l w = f_X9_turnsOver_57 40 m a l w (topL m) 0 := to_top 40 m 0 0 (Fu.o (by decide))
  obtain ⟨h1, h2, h3⟩ := to_loop (a := a) (l := l) (w := w) (t := topL m) 40 m 0 (Fu.o (by decide))
  rw [e]
  refine ⟨h1, h2, fun c hc hd => ?_⟩
  rw [h3 c hc hd, if_neg (by grind)]
/-- the class's -/
def toS (s : Rec) (a l t : Int32) (k : Nat) : Rec := if a = 0 then setA (setA (setA s 9 (upd (s.2 9) k (if s.2 9 k = 0 then 1 else 0))) 10 (upd (s.2 10) k (f_X8_mirrored (s.2 10 k) l))) 12 (upd (s.2 12) k (t - s.2 12 k)) else setA (setA (setA s 9 (upd (s.2 9) k (if s.2 9 k = 0 then 1 else 0))) 11 (upd (s.2 11) k (f_X8_mirrored (s.2 11 k) l))) 12 (upd (s.2 12) k (t - s.2 12 k))
/-- behind a crease's loop -/
def crEnd (s : Rec) (a l w : Int32) : Rec := f_X4_measure (setA (setG s 2 (s.1 2 + 1)) 13 (upd (upd (upd (s.2 13) (3 * s.1 2).toNatClampNeg a) (3 * s.1 2 + 1).toNatClampNeg l) (3 * s.1 2 + 2).toNatClampNeg w))
theorem cr_step (n : Nat) (s : Rec) (a l w t v5 : Int32) : f_X4_crease_22 (n + 1) s a l w t v5 = if (Int32.ofInt 36) ≤ v5 then crEnd s a l w else if s.2 8 v5.toNatClampNeg = 0 then f_X4_crease_22 n s a l w t (v5 + 1) else if f_X8_turns (if a = 0 then s.2 10 v5.toNatClampNeg else s.2 11 v5.toNatClampNeg) l w = 0 then f_X4_crease_22 n s a l w t (v5 + 1) else f_X4_crease_22 n (toS s a l t v5.toNatClampNeg) a l w t (v5 + 1) := by
  rw [f_X4_crease_22]
  unfold toS f_X4_crease_60 crEnd
  by_cases ha : a = 0
  · simp only [if_pos ha]
    repeat' split
    all_goals rfl
  · simp only [if_neg ha]
    repeat' split
    all_goals rfl
theorem toS_1 (m : Rec) (a l t : Int32) (k : Nat) : (toS m a l t k).1 = m.1 := by
  unfold toS; split <;> rfl
theorem toS_o (m : Rec) (a l t : Int32) (k j : Nat) (h : j ≠ 9 ∧ j ≠ 10 ∧ j ≠ 11 ∧ j ≠ 12) : (toS m a l t k).2 j = m.2 j := by
  unfold toS; split <;> simp [setA_2, h]
theorem toS_row (m : Rec) (a l t : Int32) (k i : Nat) : rowS (toS m a l t k) i = if i = k then (if a = 0 then 2 * l - 1 - m.2 10 k else m.2 10 k, if a = 0 then m.2 11 k else 2 * l - 1 - m.2 11 k, t - m.2 12 k, if m.2 9 k = 0 then 1 else 0) else rowS m i := by
  unfold toS rowS f_X8_mirrored
  by_cases ha : a = 0 <;> by_cases hi : i = k <;> simp [ha, hi, setA_2, upd_at]
theorem cr_loop {a l w t : Int32} : ∀ (n : Nat) (s : Rec) (v5 : Int32), Fu 36 n v5 → ∃ s', f_X4_crease_22 n s a l w t v5 = crEnd s' a l w ∧ s'.1 = s.1 ∧ (∀ j, j ≠ 9 ∧ j ≠ 10 ∧ j ≠ 11 ∧ j ≠ 12 → s'.2 j = s.2 j) ∧
    (∀ c : Int32, 0 ≤ c → c < 36 → rowS s' c.toNatClampNeg = if c < v5 then rowS s c.toNatClampNeg else turnR (s.2 8 c.toNatClampNeg) a l w t (rowS s c.toNatClampNeg)) := by
  intro n
  induction n with
  | zero => intro m v5 hf; exact (hf.z (by decide)).elim
  | succ n ih =>
    intro m v5 hf
    rw [cr_step]
    by_cases c1 : (Int32.ofInt 36) ≤ v5
    · rw [if_pos c1]
      refine ⟨m, rfl, rfl, fun _ _ => rfl, fun c h1 h2 => ?_⟩
      rw [if_pos (by grind)]
    · obtain ⟨f1, f2, f3⟩ := hf.s (by decide) c1
      rw [if_neg c1]
      by_cases c2 : m.2 8 v5.toNatClampNeg = 0
      · rw [if_pos c2]
        obtain ⟨s', i0, i1, i2, i3⟩ := ih m (v5 + 1) f1
        refine ⟨s', i0, i1, i2, fun c h1 h2 => ?_⟩
        rw [i3 c h1 h2]
        by_cases h3 : c = v5
        · subst h3
          rw [if_pos (by grind), if_neg (by grind)]
          unfold turnR
          rw [if_pos c2]
        · by_cases h4 : c < v5
          · rw [if_pos (by grind), if_pos h4]
          · rw [if_neg (by grind), if_neg h4]
      · rw [if_neg c2]
        by_cases c3 : f_X8_turns (if a = 0 then m.2 10 v5.toNatClampNeg else m.2 11 v5.toNatClampNeg) l w = 0
        · rw [if_pos c3]
          obtain ⟨s', i0, i1, i2, i3⟩ := ih m (v5 + 1) f1
          refine ⟨s', i0, i1, i2, fun c h1 h2 => ?_⟩
          rw [i3 c h1 h2]
          by_cases h3 : c = v5
          · subst h3
            rw [if_pos (by grind), if_neg (by grind)]
            unfold turnR
            rw [if_neg c2, if_pos (show f_X8_turns (if a = 0 then (rowS m c.toNatClampNeg).1 else (rowS m c.toNatClampNeg).2.1) l w = 0 from c3)]
          · by_cases h4 : c < v5
            · rw [if_pos (by grind), if_pos h4]
            · rw [if_neg (by grind), if_neg h4]
        · rw [if_neg c3]
          obtain ⟨s', i0, i1, i2, i3⟩ := ih (toS m a l t v5.toNatClampNeg) (v5 + 1) f1
          refine ⟨s', i0, i1.trans (toS_1 ..), fun j hj => (i2 j hj).trans (toS_o _ _ _ _ _ _ hj), fun c h1 h2 => ?_⟩
          rw [i3 c h1 h2, toS_o m a l t v5.toNatClampNeg 8 (by decide), toS_row]
          by_cases h3 : c = v5
          · subst h3
            rw [if_pos (show c < c + 1 by grind), if_pos rfl, if_neg (show ¬ c < c by grind)]
            unfold turnR
            rw [if_neg c2, if_neg (show ¬ f_X8_turns (if a = 0 then (rowS m c.toNatClampNeg).1 else (rowS m c.toNatClampNeg).2.1) l w = 0 from c3)]
            rfl
          · have h5 : ¬ c.toNatClampNeg = v5.toNatClampNeg := fun q => h3 (cl_inj h1 f2 q)
            rw [if_neg h5]
            by_cases h4 : c < v5
            · rw [if_pos (by grind), if_pos h4]
            · rw [if_neg (by grind), if_neg h4]
/-! the class's sheet lies as the reference lays it -/
theorem sg_rows {s g : Rec} : SG s g ↔ ∀ c : Int32, 0 ≤ c → c < 36 → s.2 8 c.toNatClampNeg = f_X9_isCell g c ∧ rowS s c.toNatClampNeg = rowM g c.toNatClampNeg := by
  unfold SG rowS rowM
  refine forall_congr' fun c => forall_congr' fun _ => forall_congr' fun _ => ?_
  simp only [Prod.mk.injEq]
theorem mea_all {s g : Rec} (h : SG s g) : (f_X4_measure s).2 = s.2 ∧ (f_X4_measure s).1 0 = s.1 0 ∧ (f_X4_measure s).1 1 = s.1 1 ∧ (f_X4_measure s).1 2 = s.1 2 ∧ Ends (f_X4_measure s) g := by
  have := mea_loop (s0 := s) h 40 (setG (setG (setG (setG (setG s 3 0) 4 0) 5 0) 6 0) 7 0) 0 0 (Fu.o (by decide)) rfl (Or.inl rfl)
  obtain ⟨a0, a1, a2, a3, a4, a5, a6, a7, a8⟩ := this
  exact ⟨a0, a1, a2, a3, a4, a5, a6, a7, a8⟩
theorem sg_measure {s g : Rec} (h : SG s g) : SG (f_X4_measure s) g := by
  have := (mea_all h).1
  unfold SG
  rw [this]
  exact h
theorem ends_move {s g g' : Rec} (h : SG s g) (h' : SG s g') (e : Ends s g) : Ends s g' := by
  obtain ⟨a1, a2, a3, a4, a5⟩ := (mea_all h).2.2.2.2
  obtain ⟨b1, b2, b3, b4, b5⟩ := (mea_all h').2.2.2.2
  obtain ⟨e1, e2, e3, e4, e5⟩ := e
  refine ⟨?_, ?_, ?_, ?_, ?_⟩
  · rw [e1, ← a1, b1]
  · rw [e2, ← a2, b2]
  · rw [e3, ← a3, b3]
  · rw [e4, ← a4, b4]
  · rw [e5, ← a5, b5]
theorem cr_all {s g : Rec} (h : SG s g) (he : s.1 7 = topL g) (hf : s.1 2 < 3) (a l w : Int32) : SG (f_X4_crease s a l w) (f_X9_turnsOver g a l w) ∧ Ends (f_X4_crease s a l w) (f_X9_turnsOver g a l w) ∧ (f_X4_crease s a l w).1 0 = s.1 0 ∧ (f_X4_crease s a l w).1 1 = s.1 1 ∧ (f_X4_crease s a l w).1 2 = s.1 2 + 1 ∧ (f_X4_crease s a l w).2 8 = s.2 8 ∧ (f_X4_crease s a l w).2 13 = upd (upd (upd (s.2 13) (3 * s.1 2).toNatClampNeg a) (3 * s.1 2 + 1).toNatClampNeg l) (3 * s.1 2 + 2).toNatClampNeg w := by
  have e0 : f_X4_crease s a l w = f_X4_crease_22 40 s a l w (2 * s.1 7 + 1) 0 := by
    unfold f_X4_crease
    exact if_pos hf
  obtain ⟨s', i0, i1, i2, i3⟩ := cr_loop (a := a) (l := l) (w := w) (t := 2 * s.1 7 + 1) 40 s 0 (Fu.o (by decide))
  obtain ⟨t1, t2, t3⟩ := to_all g a l w
  rw [e0, i0]
  have h8 : s'.2 8 = s.2 8 := i2 8 (by decide)
  have hb : (f_X9_turnsOver g a l w).2 0 = g.2 0 := t2 0 (by decide)
  have hsg' : SG s' (f_X9_turnsOver g a l w) := by
    rw [sg_rows]
    intro c h1 h2
    obtain ⟨q1, q2⟩ := sg_rows.mp h c h1 h2
    refine ⟨?_, ?_⟩
    · rw [h8, isCell_congr hb]; exact q1
    · rw [i3 c h1 h2, if_neg (by grind), t3 c h1 h2, q1, q2, he]
  have hsg : SG (setA (setG s' 2 (s'.1 2 + 1)) 13 (upd (upd (upd (s'.2 13) (3 * s'.1 2).toNatClampNeg a) (3 * s'.1 2 + 1).toNatClampNeg l) (3 * s'.1 2 + 2).toNatClampNeg w)) (f_X9_turnsOver g a l w) := hsg'
  obtain ⟨m0, m1, m2, m3, m4⟩ := mea_all hsg
  unfold crEnd
  refine ⟨sg_measure hsg, m4, ?_, ?_, ?_, ?_, ?_⟩
  · rw [m1]; show s'.1 0 = _; rw [i1]
  · rw [m2]; show s'.1 1 = _; rw [i1]
  · rw [m3]; show s'.1 2 + 1 = _; rw [i1]
  · rw [m0]; exact h8
  · rw [m0]
    show upd (upd (upd (s'.2 13) (3 * s'.1 2).toNatClampNeg a) (3 * s'.1 2 + 1).toNatClampNeg l) (3 * s'.1 2 + 2).toNatClampNeg w = _
    rw [i1, i2 13 (by decide)]
/-! flat -/
def flatR (c : Int32) : Int32 × Int32 × Int32 × Int32 := (c - c / 6 * 6, c / 6, 0, 0)
theorem fl_loop : ∀ (n : Nat) (m : Rec) (v5 : Int32), Fu 36 n v5 →
    (f_X9_flat_2 n m v5).1 = m.1 ∧ (∀ j, j ≠ 4 ∧ j ≠ 5 ∧ j ≠ 6 ∧ j ≠ 7 → (f_X9_flat_2 n m v5).2 j = m.2 j) ∧
    (∀ c : Int32, 0 ≤ c → c < 36 → rowM (f_X9_flat_2 n m v5) c.toNatClampNeg = if c < v5 then rowM m c.toNatClampNeg else flatR c) := by
  intro n
  induction n with
  | zero => intro m v5 hf; exact (hf.z (by decide)).elim
  | succ n ih =>
    intro m v5 hf
    rw [f_X9_flat_2]
    by_cases c1 : (Int32.ofInt 36) ≤ v5
    · rw [if_pos c1]
      refine ⟨rfl, fun _ _ => rfl, fun c h1 h2 => ?_⟩
      rw [if_pos (by grind)]
    · obtain ⟨f1, f2, f3⟩ := hf.s (by decide) c1
      rw [if_neg c1]
      obtain ⟨i1, i2, i3⟩ := ih (setA (setA (setA (setA m 4 (upd (m.2 4) (Int32.toNatClampNeg v5) (v5 - v5 / (Int32.ofInt 6) * (Int32.ofInt 6)))) 5 (upd (m.2 5) (Int32.toNatClampNeg v5) (v5 / (Int32.ofInt 6)))) 6 (upd (m.2 6) (Int32.toNatClampNeg v5) (Int32.ofInt 0))) 7 (upd (m.2 7) (Int32.toNatClampNeg v5) (Int32.ofInt 0))) (v5 + 1) f1
      refine ⟨i1, fun j hj => ?_, fun c h1 h2 => ?_⟩
      · refine (i2 j hj).trans ?_
        simp [setA_2, hj]
      · refine (i3 c h1 h2).trans ?_
        by_cases h3 : c = v5
        · subst h3
          rw [if_pos (by grind), if_neg (by grind)]
          simp [rowM, setA_2, upd_at, flatR]
        · have h5 : ¬ c.toNatClampNeg = v5.toNatClampNeg := fun q => h3 (cl_inj h1 f2 q)
          by_cases h4 : c < v5
          · rw [if_pos (by grind), if_pos h4]
            simp [rowM, setA_2, upd_at, h5]
          · rw [if_neg (by grind), if_neg h4]
theorem fl_all (m : Rec) : (f_X9_flat m).1 = m.1 ∧ (∀ j, j ≠ 4 ∧ j ≠ 5 ∧ j ≠ 6 ∧ j ≠ 7 → (f_X9_flat m).2 j = m.2 j) ∧ (∀ c : Int32, 0 ≤ c → c < 36 → rowM (f_X9_flat m) c.toNatClampNeg = flatR c) := by
  obtain ⟨h1, h2, h3⟩ := fl_loop 40 m 0 (Fu.o (by decide))
  refine ⟨h1, h2, fun c hc hd => ?_⟩
  refine (h3 c hc hd).trans ?_
  rw [if_neg (by grind)]
theorem fn_loop : ∀ (n : Nat) (s : Rec) (v5 : Int32), Fu 36 n v5 → ∃ s', f_X4_flatten_2 n s v5 = f_X4_measure (setG s' 2 0) ∧ s'.1 = s.1 ∧ (∀ j, j ≠ 9 ∧ j ≠ 10 ∧ j ≠ 11 ∧ j ≠ 12 → s'.2 j = s.2 j) ∧
    (∀ c : Int32, 0 ≤ c → c < 36 → rowS s' c.toNatClampNeg = if c < v5 then rowS s c.toNatClampNeg else flatR c) := by
  intro n
  induction n with
  | zero => intro m v5 hf; exact (hf.z (by decide)).elim
  | succ n ih =>
    intro m v5 hf
    rw [f_X4_flatten_2]
    by_cases c1 : (Int32.ofInt 36) ≤ v5
    · rw [if_pos c1]
      refine ⟨m, rfl, rfl, fun _ _ => rfl, fun c h1 h2 => ?_⟩
      rw [if_pos (by grind)]
    · obtain ⟨f1, f2, f3⟩ := hf.s (by decide) c1
      rw [if_neg c1]
      obtain ⟨s', i0, i1, i2, i3⟩ := ih (setA (setA (setA (setA m 9 (upd (m.2 9) (Int32.toNatClampNeg v5) (Int32.ofInt 0))) 10 (upd (m.2 10) (Int32.toNatClampNeg v5) (v5 - v5 / (Int32.ofInt 6) * (Int32.ofInt 6)))) 11 (upd (m.2 11) (Int32.toNatClampNeg v5) (v5 / (Int32.ofInt 6)))) 12 (upd (m.2 12) (Int32.toNatClampNeg v5) (Int32.ofInt 0))) (v5 + 1) f1
      refine ⟨s', i0, i1, fun j hj => ?_, fun c h1 h2 => ?_⟩
      · refine (i2 j hj).trans ?_
        simp [setA_2, hj]
      · refine (i3 c h1 h2).trans ?_
        by_cases h3 : c = v5
        · subst h3
          rw [if_pos (by grind), if_neg (by grind)]
          simp [rowS, setA_2, upd_at, flatR]
        · have h5 : ¬ c.toNatClampNeg = v5.toNatClampNeg := fun q => h3 (cl_inj h1 f2 q)
          by_cases h4 : c < v5
          · rw [if_pos (by grind), if_pos h4]
            simp [rowS, setA_2, upd_at, h5]
          · rw [if_neg (by grind), if_neg h4]
/-- flat boards are alike where the squares are -/
theorem fn_all {s m : Rec} (h8 : ∀ c : Int32, 0 ≤ c → c < 36 → s.2 8 c.toNatClampNeg = f_X9_isCell m c) : SG (f_X4_flatten s) (f_X9_flat m) ∧ Ends (f_X4_flatten s) (f_X9_flat m) ∧ (f_X4_flatten s).1 0 = s.1 0 ∧ (f_X4_flatten s).1 1 = s.1 1 ∧ (f_X4_flatten s).1 2 = 0 ∧ (f_X4_flatten s).2 8 = s.2 8 ∧ (f_X4_flatten s).2 13 = s.2 13 := by
  obtain ⟨s', i0, i1, i2, i3⟩ := fn_loop 40 s 0 (Fu.o (by decide))
  have e : f_X4_flatten s = f_X4_measure (setG s' 2 0) := i0
  obtain ⟨t1, t2, t3⟩ := fl_all m
  have hsg : SG (setG s' 2 0) (f_X9_flat m) := by
    rw [sg_rows]
    intro c h1 h2
    refine ⟨?_, ?_⟩
    · show s'.2 8 c.toNatClampNeg = _
      rw [i2 8 (by decide), isCell_congr (t2 0 (by decide))]
      exact h8 c h1 h2
    · rw [t3 c h1 h2]
      refine (i3 c h1 h2).trans ?_
      rw [if_neg (by grind)]
  obtain ⟨m0, m1, m2, m3, m4⟩ := mea_all hsg
  rw [e]
  refine ⟨sg_measure hsg, m4, ?_, ?_, ?_, ?_, ?_⟩
  · rw [m1]; show s'.1 0 = _; rw [i1]
  · rw [m2]; show s'.1 1 = _; rw [i1]
  · rw [m3]; rfl
  · rw [m0]; exact i2 8 (by decide)
  · rw [m0]; exact i2 13 (by decide)
/-! several FOLDS: the class's rows of folds, the reference's book -/
/-- a row of three at k -/
def fds (f : Nat → Int32) (o : Nat) (k : Nat) : Int32 × Int32 × Int32 := (f (o + 3 * k), f (o + 3 * k + 1), f (o + 3 * k + 2))
def layN : Nat → (Nat → Int32) → Rec → Rec
  | 0, _, g => g
  | n + 1, b, g => f_X9_turnsOver (layN n b g) (b (17 + 3 * n)) (b (17 + 3 * n + 1)) (b (17 + 3 * n + 2))
theorem layN_f (b : Nat → Int32) (g : Rec) : ∀ n, (layN n b g).1 = g.1 ∧ (∀ j, j ≠ 4 ∧ j ≠ 5 ∧ j ≠ 6 ∧ j ≠ 7 → (layN n b g).2 j = g.2 j)
  | 0 => ⟨rfl, fun _ _ => rfl⟩
  | n + 1 => by
    obtain ⟨h1, h2⟩ := layN_f b g n
    obtain ⟨t1, t2, t3⟩ := to_all (layN n b g) (b (17 + 3 * n)) (b (17 + 3 * n + 1)) (b (17 + 3 * n + 2))
    exact ⟨t1.trans h1, fun j hj => (t2 j hj).trans (h2 j hj)⟩
theorem lays_N {m : Rec} {nf : Nat} (h : m.2 0 16 = Int32.ofNat nf) (hn : nf ≤ 3) : f_X9_lays m = layN nf (m.2 0) (f_X9_flat m) := by
  have hb : ∀ k, (layN k (m.2 0) (f_X9_flat m)).2 0 = m.2 0 := fun k => ((layN_f _ _ k).2 0 (by decide)).trans ((fl_all m).2.1 0 (by decide))
  have st : ∀ (k : Nat) (n : Nat) (v : Int32), v = Int32.ofNat k → k ≤ nf → nf < n + k → f_X9_lays_6 n (layN k (m.2 0) (f_X9_flat m)) v = layN nf (m.2 0) (f_X9_flat m) := by
    intro k n
    induction n generalizing k with
    | zero => intro v hv h1 h2; omega
    | succ n ih =>
      intro v hv h1 h2
      rw [f_X9_lays_6, hb k]
      by_cases q : k = nf
      · subst q
        rw [if_pos]
        show m.2 0 16 ≤ v
        rw [h, hv]
        exact Int32.le_refl _
      · have q2 : k < nf := by omega
        have e16 : ¬ (m.2 0 (Int32.toNatClampNeg (Int32.ofInt 16)) ≤ v) := by
          show ¬ (m.2 0 16 ≤ v)
          rw [h, hv]
          exact nI_ge q2 (by omega)
        rw [if_neg e16]
        have hk3 : k = 0 ∨ k = 1 ∨ k = 2 := by omega
        refine Eq.trans ?_ (ih (k + 1) (v + 1) ?_ q2 (by omega))
        · have e0 : (Int32.ofInt 17 + Int32.ofInt 3 * v).toNatClampNeg = 17 + 3 * k := by subst hv; rcases hk3 with rfl | rfl | rfl <;> decide
          have e1 : (Int32.ofInt 17 + Int32.ofInt 3 * v + Int32.ofInt 1).toNatClampNeg = 17 + 3 * k + 1 := by subst hv; rcases hk3 with rfl | rfl | rfl <;> decide
          have e2 : (Int32.ofInt 17 + Int32.ofInt 3 * v + Int32.ofInt 2).toNatClampNeg = 17 + 3 * k + 2 := by subst hv; rcases hk3 with rfl | rfl | rfl <;> decide
          rw [e0, e1, e2]
          rfl
        · rw [hv]; exact (nI_succ k).symm
  exact st 0 40 0 rfl (by omega) (by omega)
def creN : Nat → (Nat → Int32) → Rec → Rec
  | 0, _, s => s
  | n + 1, a, s => f_X4_crease (creN n a s) (a (3 + 3 * n)) (a (3 + 3 * n + 1)) (a (3 + 3 * n + 2))
theorem can_all {s m : Rec} {a b : Nat → Int32} (h8 : ∀ c : Int32, 0 ≤ c → c < 36 → s.2 8 c.toNatClampNeg = f_X9_isCell m c) : ∀ k : Nat, k ≤ 3 → (∀ i, i < 3 * k → a (3 + i) = b (17 + i)) →
    SG (creN k a (f_X4_flatten s)) (layN k b (f_X9_flat m)) ∧ Ends (creN k a (f_X4_flatten s)) (layN k b (f_X9_flat m)) ∧ (creN k a (f_X4_flatten s)).1 0 = s.1 0 ∧ (creN k a (f_X4_flatten s)).1 1 = s.1 1 ∧ (creN k a (f_X4_flatten s)).1 2 = Int32.ofNat k ∧ (creN k a (f_X4_flatten s)).2 8 = s.2 8 ∧ (∀ i, i < 3 * k → (creN k a (f_X4_flatten s)).2 13 i = a (3 + i)) := by
  intro k
  induction k with
  | zero =>
    intro _ _
    obtain ⟨h1, h2, h3, h4, h5, h6, h7⟩ := fn_all h8
    rw [creN, layN]
    have e5 : Int32.ofNat 0 = 0 := rfl
    rw [e5]
    exact ⟨h1, h2, h3, h4, h5, h6, fun i hi => by omega⟩
  | succ k ih =>
    intro hk hab
    obtain ⟨h1, h2, h3, h4, h5, h6, h7⟩ := ih (by omega) (fun i hi => hab i (by omega))
    have hk3 : k = 0 ∨ k = 1 ∨ k = 2 := by omega
    obtain ⟨c1, c2, c3, c4, c5, c6, c7⟩ := cr_all h1 h2.2.2.2.2 (by rw [h5]; rcases hk3 with rfl | rfl | rfl <;> decide) (a (3 + 3 * k)) (a (3 + 3 * k + 1)) (a (3 + 3 * k + 2))
    have e1 := hab (3 * k) (by omega)
    have e2 := hab (3 * k + 1) (by omega)
    have e3 := hab (3 * k + 2) (by omega)
    have et : f_X9_turnsOver (layN k b (f_X9_flat m)) (a (3 + 3 * k)) (a (3 + 3 * k + 1)) (a (3 + 3 * k + 2)) = layN (k + 1) b (f_X9_flat m) := by
      show _ = f_X9_turnsOver (layN k b (f_X9_flat m)) (b (17 + 3 * k)) (b (17 + 3 * k + 1)) (b (17 + 3 * k + 2))
      rw [← e1, show 17 + 3 * k + 1 = 17 + (3 * k + 1) by omega, ← e2, show 17 + 3 * k + 2 = 17 + (3 * k + 2) by omega, ← e3]
      rfl
    rw [et] at c1 c2
    refine ⟨c1, c2, c3.trans h3, c4.trans h4, ?_, c6.trans h6, fun i hi => ?_⟩
    · show (f_X4_crease _ _ _ _).1 2 = _
      rw [c5, h5]
      exact (nI_succ k).symm
    · show (f_X4_crease _ _ _ _).2 13 i = _
      rw [c7, h5]
      have f0 : (3 * Int32.ofNat k).toNatClampNeg = 3 * k := by rcases hk3 with rfl | rfl | rfl <;> rfl
      have f1 : (3 * Int32.ofNat k + 1).toNatClampNeg = 3 * k + 1 := by rcases hk3 with rfl | rfl | rfl <;> rfl
      have f2 : (3 * Int32.ofNat k + 2).toNatClampNeg = 3 * k + 2 := by rcases hk3 with rfl | rfl | rfl <;> rfl
      rw [f0, f1, f2]
      simp only [upd_at]
      by_cases q2 : i = 3 * k + 2
      · rw [if_pos q2, q2]; rfl
      · rw [if_neg q2]
        by_cases q1 : i = 3 * k + 1
        · rw [if_pos q1, q1]; rfl
        · rw [if_neg q1]
          by_cases q0 : i = 3 * k
          · rw [if_pos q0, q0]
          · rw [if_neg q0]
            exact h7 i (by omega)
theorem ld_N {a : Rec} {nf : Nat} (h : a.2 0 2 = Int32.ofNat nf) (hn : nf ≤ 3) (s : Rec) : f_X4_load_15 40 s a 0 = creN nf (a.2 0) s := by
  have st : ∀ (k : Nat) (n : Nat) (v : Int32), v = Int32.ofNat k → k ≤ nf → nf < n + k → f_X4_load_15 n (creN k (a.2 0) s) a v = creN nf (a.2 0) s := by
    intro k n
    induction n generalizing k with
    | zero => intro v hv h1 h2; omega
    | succ n ih =>
      intro v hv h1 h2
      rw [f_X4_load_15]
      by_cases q : k = nf
      · subst q
        rw [if_pos]
        show a.2 0 2 ≤ v
        rw [h, hv]
        exact Int32.le_refl _
      · have q2 : k < nf := by omega
        have e16 : ¬ (a.2 0 (Int32.toNatClampNeg (Int32.ofInt 2)) ≤ v) := by
          show ¬ (a.2 0 2 ≤ v)
          rw [h, hv]
          exact nI_ge q2 (by omega)
        rw [if_neg e16]
        have hk3 : k = 0 ∨ k = 1 ∨ k = 2 := by omega
        rw [if_neg (by rw [hv]; rcases hk3 with rfl | rfl | rfl <;> decide)]
        refine Eq.trans ?_ (ih (k + 1) (v + 1) ?_ q2 (by omega))
        · have e0 : (Int32.ofInt 3 + Int32.ofInt 3 * v).toNatClampNeg = 3 + 3 * k := by subst hv; rcases hk3 with rfl | rfl | rfl <;> decide
          have e1 : (Int32.ofInt 3 + Int32.ofInt 3 * v + Int32.ofInt 1).toNatClampNeg = 3 + 3 * k + 1 := by subst hv; rcases hk3 with rfl | rfl | rfl <;> decide
          have e2 : (Int32.ofInt 3 + Int32.ofInt 3 * v + Int32.ofInt 2).toNatClampNeg = 3 + 3 * k + 2 := by subst hv; rcases hk3 with rfl | rfl | rfl <;> decide
          rw [e0, e1, e2]
          rfl
        · rw [hv]; exact (nI_succ k).symm
  exact st 0 40 0 rfl (by omega) (by omega)
theorem ifa {s a : Rec} {nf : Nat} (h : s.1 2 = Int32.ofNat nf) (hn : nf ≤ 3) (hz : ¬ f_X4_isFoldedAs s a = 0) : a.2 0 2 = s.1 2 ∧ ∀ i, i < 3 * nf → s.2 13 i = a.2 0 (3 + i) := by
  unfold f_X4_isFoldedAs at hz
  by_cases c : s.1 2 = a.2 0 (Int32.toNatClampNeg (Int32.ofInt 2))
  · rw [if_pos c] at hz
    refine ⟨c.symm, ?_⟩
    have st : ∀ (n : Nat) (k : Nat) (v : Int32), v = Int32.ofNat k → k ≤ 3 * nf → ¬ f_X4_isFoldedAs_14 n s a v = 0 → ∀ i, k ≤ i → i < 3 * nf → s.2 13 i = a.2 0 (3 + i) := by
      intro n
      induction n with
      | zero => intro k v hv hk hz; exact absurd rfl hz
      | succ n ih =>
        intro k v hv hk hz i h1 h2
        rw [f_X4_isFoldedAs_14] at hz
        have hk9 : k < 9 := by omega
        have e3 : Int32.ofInt 3 * s.1 2 = Int32.ofNat (3 * nf) := by
          rw [h]
          have : nf = 0 ∨ nf = 1 ∨ nf = 2 ∨ nf = 3 := by omega
          rcases this with rfl | rfl | rfl | rfl <;> rfl
        rw [e3, if_neg (by rw [hv]; exact nI_ge (by omega) (by omega))] at hz
        have ev : v.toNatClampNeg = k := by rw [hv]; exact nI_clamp (by omega)
        have ev3 : (Int32.ofInt 3 + v).toNatClampNeg = 3 + k := by
          rw [hv]
          have : Int32.ofInt 3 + Int32.ofNat k = nI (3 + k) := nI_add 3 k
          rw [this, nI_clamp (by omega)]
        rw [ev, ev3] at hz
        by_cases q : s.2 13 k = a.2 0 (3 + k)
        · rw [if_pos q] at hz
          by_cases qi : i = k
          · rw [qi]; exact q
          · exact ih (k + 1) (v + 1) (by rw [hv]; exact (nI_succ k).symm) (by omega) hz i (by omega) h2
        · rw [if_neg q] at hz
          exact absurd rfl hz
    intro i hi
    exact st 40 0 0 rfl (by omega) hz i (by omega) hi
  · rw [if_neg c] at hz
    exact absurd rfl hz
/-- the class's sheet is as the reference's book tells -/
def Laid (s m : Rec) : Prop := SG s (f_X9_lays m) ∧ Ends s (f_X9_lays m) ∧ s.1 0 = m.2 0 0 ∧ s.1 1 = m.2 0 1 ∧ ∃ nf : Nat, nf ≤ 3 ∧ s.1 2 = Int32.ofNat nf ∧ m.2 0 16 = Int32.ofNat nf ∧ ∀ i, i < 3 * nf → s.2 13 i = m.2 0 (17 + i)
theorem lays_f {m : Rec} {nf : Nat} (h : m.2 0 16 = Int32.ofNat nf) (hn : nf ≤ 3) : (f_X9_lays m).1 = m.1 ∧ ∀ j, j ≠ 4 ∧ j ≠ 5 ∧ j ≠ 6 ∧ j ≠ 7 → (f_X9_lays m).2 j = m.2 j := by
  rw [lays_N h hn]
  obtain ⟨h1, h2⟩ := layN_f (m.2 0) (f_X9_flat m) nf
  obtain ⟨t1, t2, t3⟩ := fl_all m
  exact ⟨h1.trans t1, fun j hj => (h2 j hj).trans (t2 j hj)⟩
/-- the book's other entries don't matter -/
theorem laid_same {s m m' : Rec} (h : Laid s m) (hc : ∀ c, f_X9_isCell m' c = f_X9_isCell m c) (hW : m'.2 0 0 = m.2 0 0) (hH : m'.2 0 1 = m.2 0 1) (h16 : m'.2 0 16 = m.2 0 16) (hf : ∀ i, i < 9 → 3 * (m.2 0 16) > Int32.ofNat i → m'.2 0 (17 + i) = m.2 0 (17 + i)) : Laid s m' := by
  obtain ⟨hsg, he, hw, hh, nf, hn, hs2, hm16, hcr⟩ := h
  have h16' : m'.2 0 16 = Int32.ofNat nf := h16.trans hm16
  have hf' : ∀ i, i < 3 * nf → m'.2 0 (17 + i) = m.2 0 (17 + i) := fun i hi => hf i (by omega) (by
    rw [hm16]
    have e : 3 * Int32.ofNat nf = nI (3 * nf) := pk_mul 3 nf
    rw [e]
    exact nI_lt hi (by omega))
  have hb : (f_X9_lays m).2 0 = m.2 0 := (lays_f hm16 hn).2 0 (by decide)
  have hb' : (f_X9_lays m').2 0 = m'.2 0 := (lays_f h16' hn).2 0 (by decide)
  have h8m : ∀ c : Int32, 0 ≤ c → c < 36 → s.2 8 c.toNatClampNeg = f_X9_isCell m c := fun c h1 h2 => by
    rw [(hsg c h1 h2).1, isCell_congr hb]
  have h8 : ∀ c : Int32, 0 ≤ c → c < 36 → s.2 8 c.toNatClampNeg = f_X9_isCell m' c := fun c h1 h2 => by
    rw [h8m c h1 h2, hc]
  have can1 := can_all (s := s) (m := m) (a := fun k => s.2 13 (k - 3)) (b := m.2 0) h8m nf hn (fun i hi => by
    show s.2 13 (3 + i - 3) = _
    rw [show 3 + i - 3 = i by omega]; exact hcr i hi)
  have can2 := can_all (s := s) (m := m') (a := fun k => s.2 13 (k - 3)) (b := m'.2 0) h8 nf hn (fun i hi => by
    show s.2 13 (3 + i - 3) = _
    rw [show 3 + i - 3 = i by omega, hf' i hi]; exact hcr i hi)
  rw [← lays_N hm16 hn] at can1
  rw [← lays_N h16' hn] at can2
  have hsg' : SG s (f_X9_lays m') := by
    rw [sg_rows]
    intro c h1 h2
    obtain ⟨a1, a2⟩ := sg_rows.mp hsg c h1 h2
    obtain ⟨b1, b2⟩ := sg_rows.mp can1.1 c h1 h2
    obtain ⟨d1, d2⟩ := sg_rows.mp can2.1 c h1 h2
    refine ⟨?_, ?_⟩
    · rw [isCell_congr hb']; exact h8 c h1 h2
    · rw [a2, ← b2, d2]
  exact ⟨hsg', ends_move hsg hsg' he, hw.trans hW.symm, hh.trans hH.symm, nf, hn, hs2, h16', fun i hi => by rw [hf' i hi]; exact hcr i hi⟩
theorem ld_all {s m m' a : Rec} (h : Laid s m) (hc : ∀ c, f_X9_isCell m' c = f_X9_isCell m c) (hW : m'.2 0 0 = m.2 0 0) (hH : m'.2 0 1 = m.2 0 1) {nf : Nat} (hn : nf ≤ 3) (h16 : m'.2 0 16 = Int32.ofNat nf) (ha2 : a.2 0 2 = Int32.ofNat nf) (ha : ∀ i, i < 3 * nf → a.2 0 (3 + i) = m'.2 0 (17 + i)) : Laid (f_X4_load s a) m' ∧ (f_X4_load s a).2 8 = s.2 8 := by
  have hL := h
  obtain ⟨hsg, he, hw, hh, nf0, hn0, hs2, hm16, hcr⟩ := h
  have hb : (f_X9_lays m).2 0 = m.2 0 := (lays_f hm16 hn0).2 0 (by decide)
  have h8 : ∀ c : Int32, 0 ≤ c → c < 36 → s.2 8 c.toNatClampNeg = f_X9_isCell m' c := fun c h1 h2 => by
    rw [(hsg c h1 h2).1, isCell_congr hb, hc]
  have can := can_all (s := s) (m := m') (a := a.2 0) (b := m'.2 0) h8 nf hn ha
  rw [← lays_N h16 hn] at can
  obtain ⟨c1, c2, c3, c4, c5, c6, c7⟩ := can
  unfold f_X4_load
  by_cases q : f_X4_isFoldedAs s a = 0
  · rw [if_pos q]
    have e : f_X4_load_15 40 (f_X4_flatten s) a (Int32.ofInt 0) = creN nf (a.2 0) (f_X4_flatten s) := ld_N ha2 hn _
    rw [e]
    exact ⟨⟨c1, c2, c3.trans (hw.trans hW.symm), c4.trans (hh.trans hH.symm), nf, hn, c5, h16, fun i hi => (c7 i hi).trans (ha i hi)⟩, c6⟩
  · rw [if_neg q]
    obtain ⟨q1, q2⟩ := ifa hs2 hn0 q
    have enf : nf0 = nf := by
      have : Int32.ofNat nf = Int32.ofNat nf0 := by rw [← ha2, q1, hs2]
      have h2 := congrArg Int32.toNatClampNeg this
      rw [cl_nI (by omega), cl_nI (by omega)] at h2
      exact h2.symm
    subst enf
    refine ⟨laid_same hL hc hW hH (h16.trans hm16.symm) (fun i hi hlt => ?_), rfl⟩
    have hi3 : i < 3 * nf0 := by
      rw [hm16] at hlt
      have e : 3 * Int32.ofNat nf0 = nI (3 * nf0) := pk_mul 3 nf0
      rw [e] at hlt
      exact (nI_ltI (a := i) (b := 3 * nf0) (by omega) (by omega)).mp hlt
    rw [← ha i hi3, ← q2 i hi3]
    exact hcr i hi3
