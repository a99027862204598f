/-! layer 3: the loop of a WORD -/
/-- what a WORD leaves -/
def WoR (e m : Rec) (r : Int32 × Rec) (M : Rec) : Prop := TkR r.2 M ∧ r.2.1 5 = e.1 5 ∧ M.1 25 = m.1 25 ∧ m.1 24 ≤ M.1 24 ∧ ((r.1 = 3 ∧ M.1 26 = 4) ∨ (r.1 = 4 ∧ M.1 26 = 5) ∨ (r.1 = 2 ∧ M.1 26 = 1)) ∧ FrE e r.2 ∧ FrT m M ∧ (r.1 ≠ 2 → M.1 24 - M.1 25 = 4)
theorem lt_step {v : Int64} {x : Int32} (h0 : 0 ≤ v.toInt) (h1 : v.toInt < 100000000) (hx : 97 ≤ x ∧ x ≤ 122) : (((32 * v) + (Int32.toInt64 x) - 97) + (Int64.ofNat 1)).toInt = 32 * v.toInt + (x.toInt - 96) := by
  have a1 := Int32.le_iff_toInt_le.mp hx.1
  have a2 := Int32.le_iff_toInt_le.mp hx.2
  have e1 : (97 : Int32).toInt = 97 := by decide
  have e2 : (122 : Int32).toInt = 122 := by decide
  have e3 : (97 : Int64).toInt = 97 := by decide
  have e4 : (Int64.ofNat 1).toInt = 1 := by decide
  have e5 : (32 : Int64).toInt = 32 := by decide
  have m1 : (32 * v).toInt = 32 * v.toInt := by
    rw [Int64.toInt_mul, e5]
    exact Int.bmod_eq_of_le (by omega) (by omega)
  have m2 : ((32 * v) + x.toInt64).toInt = 32 * v.toInt + x.toInt := by
    rw [Int64.toInt_add, m1, Int32.toInt_toInt64]
    exact Int.bmod_eq_of_le (by omega) (by omega)
  have m3 : ((32 * v) + x.toInt64 - 97).toInt = 32 * v.toInt + x.toInt - 97 := by
    rw [Int64.toInt_sub, m2, e3]
    exact Int.bmod_eq_of_le (by omega) (by omega)
  rw [Int64.toInt_add, m3, e4, Int.bmod_eq_of_le (by omega) (by omega)]
  omega
theorem hv_lt {f : Nat → Int} : ∀ n : Nat, n ≤ 4 → (∀ i, i < n → 1 ≤ f i ∧ f i ≤ 26) → 0 ≤ hvI f n ∧ hvI f n < 2000000 := by
  intro n hn hf
  obtain q | q | q | q | q : n = 0 ∨ n = 1 ∨ n = 2 ∨ n = 3 ∨ n = 4 := by omega
  · subst q; simp only [hvI]; omega
  · subst q
    have := hf 0 (by omega)
    simp only [hvI]; omega
  · subst q
    have := hf 0 (by omega)
    have := hf 1 (by omega)
    simp only [hvI]; omega
  · subst q
    have := hf 0 (by omega)
    have := hf 1 (by omega)
    have := hf 2 (by omega)
    simp only [hvI]; omega
  · subst q
    have := hf 0 (by omega)
    have := hf 1 (by omega)
    have := hf 2 (by omega)
    have := hf 3 (by omega)
    simp only [hvI]; omega
theorem wd_loop : ∀ (n : Nat) (e m : Rec) (v : Int64) (w : Nat), TkR e m → e.1 5 = m.1 25 → 0 ≤ m.1 25 → m.1 25 ≤ m.1 24 → (m.1 24).toNatClampNeg = (m.1 25).toNatClampNeg + w → (∀ i, i < w → 97 ≤ m.2 22 ((m.1 25).toNatClampNeg + i) ∧ m.2 22 ((m.1 25).toNatClampNeg + i) ≤ 122) → (v.toInt = if w ≤ 5 then hvI (lt1 m) w else 0) → (m.1 23).toNatClampNeg < n + (m.1 24).toNatClampNeg →
    p_X6_readWord_0 n e ∧ p_X9_scans_62 n m v ∧ WoR e m (f_X6_readWord_0 n e) (f_X9_scans_62 n m v) := by
  intro n
  induction n with
  | zero =>
    intro e m v w h _ _ _ _ _ _ hn
    have := cl_mono h.2.2.2
    omega
  | succ n ih =>
    intro e m v w h h5 h0 hle hw hl hv hn
    have hT := h.1
    have h4 := h.2.1
    have ha0 := h.2.2.1
    have hal := h.2.2.2
    have l200 := hT.2.2.1
    obtain ⟨pis, is⟩ := tk_is h (Int32.ofInt 97) (Int32.ofInt 122)
    have tb := tk_byte h
    have pb := tk_pb h
    have p2 := (ti2_all h h5 h0 hle).1
    have p3 := (ti3_all h h5 h0 hle).1
    obtain ⟨f2, f3⟩ := wo_fin h h5 h0 hle hw hl hv
    rw [p_X6_readWord_0, p_X9_scans_62, f_X6_readWord_0, f_X9_scans_62, hT.1, h4]
    have fin : WoR e m (if (f_X6_tokenIs_v1002 e) = 0 then (if (f_X6_tokenIs_v1003 e) = 0 then ((Int32.ofInt 2), e) else ((Int32.ofInt 4), e)) else ((Int32.ofInt 3), e)) (if (lg_cmp v 643248) = 0 then (setG m 26 ((Int32.ofInt 4))) else (if (lg_cmp v 212356) = 0 then (setG m 26 ((Int32.ofInt 5))) else (setG m 26 ((Int32.ofInt 1))))) := by
      have fe : FrE e e := ⟨rfl, fun k _ _ _ => rfl⟩
      have ft : ∀ x, FrT m (setG m 26 x) := fun x => ⟨rfl, fun k _ _ k26 _ => by show (if k = 26 then x else m.1 k) = _; rw [if_neg k26]⟩
      have tk : ∀ x, TkR e (setG m 26 x) := fun x => ⟨hT, h4, ha0, hal⟩
      have rf : m.1 24 ≤ m.1 24 := Int32.le_refl _
      by_cases a2 : f_X6_tokenIs_v1002 e = 0
      · have b2 : ¬ lg_cmp v 643248 = 0 := fun z => (f2.mpr z) a2
        rw [if_pos a2, if_neg b2]
        by_cases a3 : f_X6_tokenIs_v1003 e = 0
        · have b3 : ¬ lg_cmp v 212356 = 0 := fun z => (f3.mpr z) a3
          rw [if_pos a3, if_neg b3]
          exact ⟨tk _, rfl, rfl, rf, Or.inr (Or.inr ⟨rfl, rfl⟩), fe, ft _, fun y => absurd rfl y⟩
        · rw [if_neg a3, if_pos (f3.mp a3)]
          exact ⟨tk _, rfl, rfl, rf, Or.inr (Or.inl ⟨rfl, rfl⟩), fe, ft _, fun _ => ((ti3_all h h5 h0 hle).2.mp a3).1⟩
      · rw [if_neg a2, if_pos (f2.mp a2)]
        exact ⟨tk _, rfl, rfl, rf, Or.inl ⟨rfl, rfl⟩, fe, ft _, fun _ => ((ti2_all h h5 h0 hle).2.mp a2).1⟩
    have pf : (p_X6_tokenIs_v1002 e) ∧ (((f_X6_tokenIs_v1002 e) = 0 → ((p_X6_tokenIs_v1003 e) ∧ True)) ∧ (¬ ((f_X6_tokenIs_v1002 e) = 0) → True)) := ⟨p2, fun _ => ⟨p3, trivial⟩, fun _ => trivial⟩
    by_cases c1 : m.1 23 ≤ m.1 24
    · have z : f_X9_isByte m (Int32.ofInt 97) (Int32.ofInt 122) = 0 := is.mpr (fun z => by grind)
      rw [if_pos c1, if_pos z]
      exact ⟨⟨fun _ => pf, fun y => absurd c1 y⟩, ⟨pis, fun _ => trivial, fun y => absurd z y⟩, fin⟩
    · have lt : m.1 24 < m.1 23 := by grind
      rw [← h4, tb, if_pos lt, h4]
      rw [if_neg c1]
      have isf : f_X6_isLetter (bt m) = 0 ↔ f_X9_isByte m (Int32.ofInt 97) (Int32.ofInt 122) = 0 := by
        rw [is]
        unfold f_X6_isLetter
        rw [wi_z]
        constructor
        · intro q y
          grind
        · intro q
          by_cases y : bt m < Int32.ofInt 97
          · exact Or.inl y
          · refine Or.inr ?_
            by_cases y2 : Int32.ofInt 122 < bt m
            · exact y2
            · exact absurd ⟨lt, by grind, by grind⟩ q
      by_cases c2 : f_X9_isByte m (Int32.ofInt 97) (Int32.ofInt 122) = 0
      · have c2' := isf.mpr c2
        rw [if_pos c2, if_pos c2']
        exact ⟨⟨fun y => absurd y c1, fun _ => ⟨by rw [← h4]; exact pb, fun _ => pf, fun y => absurd c2' y⟩⟩, ⟨pis, fun _ => trivial, fun y => absurd c2 y⟩, fin⟩
      · have c2' := mt isf.mp c2
        rw [if_neg c2, if_neg c2']
        have bl : 97 ≤ bt m ∧ bt m ≤ 122 := by
          have : ¬ ¬ (m.1 24 < m.1 23 ∧ Int32.ofInt 97 ≤ bt m ∧ bt m ≤ Int32.ofInt 122) := fun z => c2 (is.mpr z)
          exact (Classical.not_not.mp this).2
        have v200 := vinb (n := 200) (x := m.1 24) ha0 (by grind)
        have on := tk_on h lt
        rw [h4] at on
        have sc := cl_succ (x := m.1 24) ha0 (by grind)
        have bte : bt m = m.2 22 ((m.1 25).toNatClampNeg + w) := by
          unfold bt
          rw [hw]
        have hl' : ∀ i, i < w + 1 → 97 ≤ m.2 22 ((m.1 25).toNatClampNeg + i) ∧ m.2 22 ((m.1 25).toNatClampNeg + i) ≤ 122 := by
          intro i hi
          by_cases q : i < w
          · exact hl i q
          · have : i = w := by omega
            subst this
            rw [← bte]
            exact bl
        have w4 : m.1 24 - m.1 25 ≤ Int32.ofInt 4 ↔ w ≤ 4 := by
          obtain ⟨_, _, _, k4, k5⟩ := cl_4 h0 (by grind)
          constructor
          · intro q
            have q' : m.1 24 ≤ m.1 25 + 4 := by grind
            have := cl_mono q'
            omega
          · intro q
            by_cases y : m.1 24 ≤ m.1 25 + 4
            · show m.1 24 - m.1 25 ≤ 4
              grind
            · have y' : m.1 25 + 5 ≤ m.1 24 := by grind
              have := cl_mono y'
              omega
        have step : ∀ v', (v'.toInt = if w + 1 ≤ 5 then hvI (lt1 m) (w + 1) else 0) → p_X6_readWord_0 n (setG e 4 (m.1 24 + Int32.ofInt 1)) ∧ p_X9_scans_62 n (setG m 24 (m.1 24 + Int32.ofInt 1)) v' ∧ WoR e m (f_X6_readWord_0 n (setG e 4 (m.1 24 + Int32.ofInt 1))) (f_X9_scans_62 n (setG m 24 (m.1 24 + Int32.ofInt 1)) v') := by
          intro v' hv'
          obtain ⟨i1, i2, i3, i4, i5, i6, i7, i8, i9, i10⟩ := ih (setG e 4 (m.1 24 + Int32.ofInt 1)) (setG m 24 (m.1 24 + Int32.ofInt 1)) v' (w + 1) on h5 h0 (by show m.1 25 ≤ m.1 24 + 1; grind) (by show (m.1 24 + 1).toNatClampNeg = (m.1 25).toNatClampNeg + (w + 1); rw [sc]; omega) hl' hv' (by
            show (m.1 23).toNatClampNeg < n + (m.1 24 + 1).toNatClampNeg
            rw [sc]
            omega)
          refine ⟨i1, i2, i3, i4, i5, ?_, i7, ⟨i8.1, fun k k4 k5 k6 => ?_⟩, ⟨i9.1, fun k k4 k5 k6 k7 => ?_⟩, i10⟩
          · have : m.1 24 + 1 ≤ (f_X9_scans_62 n (setG m 24 (m.1 24 + Int32.ofInt 1)) v').1 24 := i6
            grind
          · rw [i8.2 k k4 k5 k6]
            show (if k = 4 then _ else e.1 k) = _
            rw [if_neg k4]
          · rw [i9.2 k k4 k5 k6 k7]
            show (if k = 24 then _ else m.1 k) = _
            rw [if_neg k4]
        by_cases c3 : m.1 24 - m.1 25 ≤ Int32.ofInt 4
        · rw [if_pos c3]
          have c3' := w4.mp c3
          have hb := hv_lt (f := lt1 m) w c3' (fun i hi => by
            have := hl i hi
            have a1 := Int32.le_iff_toInt_le.mp this.1
            have a2 := Int32.le_iff_toInt_le.mp this.2
            have e1 : (97 : Int32).toInt = 97 := by decide
            have e2 : (122 : Int32).toInt = 122 := by decide
            unfold lt1
            omega)
          rw [if_pos (by omega)] at hv
          have ls := lt_step (v := v) (x := m.2 22 (m.1 24).toNatClampNeg) (by omega) (by omega) bl
          obtain ⟨s1, s2, s3⟩ := step ((((32 * v) + (Int32.toInt64 (m.2 22 (m.1 24).toNatClampNeg))) - 97) + (Int64.ofNat 1)) (by
            rw [ls, if_pos (by omega), hv]
            show _ = 32 * hvI (lt1 m) w + lt1 m w
            unfold lt1
            rw [hw])
          exact ⟨⟨fun y => absurd y c1, fun _ => ⟨by rw [← h4]; exact pb, fun y => absurd y c2', fun _ => s1⟩⟩, ⟨pis, fun y => absurd y c2, fun _ => ⟨fun _ => ⟨v200, s2⟩, fun y => absurd c3 y⟩⟩, s3⟩
        · rw [if_neg c3]
          obtain ⟨s1, s2, s3⟩ := step (Int64.ofNat 0) (by
            rw [if_neg (fun y => c3 (w4.mpr (by omega)))]
            decide)
          exact ⟨⟨fun y => absurd y c1, fun _ => ⟨by rw [← h4]; exact pb, fun y => absurd y c2', fun _ => s1⟩⟩, ⟨pis, fun y => absurd y c2, fun _ => ⟨fun y => absurd y c3, fun _ => s2⟩⟩, s3⟩
