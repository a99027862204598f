/-! layer 3: the NEXT TOKEN of THE GAME -/
theorem setG_i (r : Rec) (k : Nat) : setG r k (r.1 k) = r := by
  apply Prod.ext
  · funext j
    show (if j = k then r.1 k else r.1 j) = r.1 j
    split
    · rename_i q; rw [q]
    · rfl
  · rfl
def TkM (r k : Int32) : Prop := (r = 1 ∧ k = 0) ∨ (r = 2 ∧ k = 1) ∨ (r = 3 ∧ k = 4) ∨ (r = 4 ∧ k = 5) ∨ (r = 5 ∧ k = 2) ∨ (r = 6 ∧ k = 3)
def ToR (e m : Rec) (r : Int32 × Rec) (M : Rec) : Prop := TkR r.2 M ∧ (r.2.1 5 = M.1 25 ∧ 0 ≤ M.1 25) ∧ TkM r.1 (M.1 26) ∧ (r.1 = 5 → r.2.1 6 = M.1 27) ∧ m.1 24 ≤ M.1 24 ∧ (r.1 ≠ 1 → r.1 ≠ 2 → m.1 24 < M.1 24) ∧ FrE e r.2 ∧ FrT m M
theorem isB1 (m : Rec) (l u : Int32) (h : ¬ f_X9_isByte m l u = 0) : f_X9_isByte m l u = Int32.ofInt 1 := by
  unfold f_X9_isByte at h ⊢
  split
  · rename_i q
    rw [if_pos q] at h
    exact absurd rfl h
  · rename_i q
    rw [if_neg q] at h
    split
    · rename_i q2
      rw [if_pos q2] at h
      exact absurd rfl h
    · rfl
/-- the reference after the spaces -/
def f_rest (m : Rec) : Rec := if (m.1 24) = (m.1 23) then (setG (setG m 25 (m.1 24)) 26 ((Int32.ofInt 0))) else (if (f_X9_isByte (setG m 25 (m.1 24)) ((Int32.ofInt 97)) ((Int32.ofInt 122))) = 0 then (if (f_X9_isByte (setG m 25 (m.1 24)) ((Int32.ofInt 45)) ((Int32.ofInt 45))) = 0 then (f_X9_scans_179 (setG m 25 (m.1 24)) (f_X9_isByte (setG m 25 (m.1 24)) ((Int32.ofInt 45)) ((Int32.ofInt 45))) (m.1 24) ((Int32.ofInt 0))) else (f_X9_scans_179 (setG m 25 (m.1 24)) (f_X9_isByte (setG m 25 (m.1 24)) ((Int32.ofInt 45)) ((Int32.ofInt 45))) (m.1 24) ((Int32.ofInt 1)))) else (f_X9_scans_62 300 (setG m 25 (m.1 24)) ((Int64.ofNat 0))))
def p_rest (m : Rec) : Prop := (((m.1 24) = (m.1 23) → True) ∧ (¬ ((m.1 24) = (m.1 23)) → ((p_X9_isByte (setG m 25 (m.1 24)) ((Int32.ofInt 97)) ((Int32.ofInt 122))) ∧ (((f_X9_isByte (setG m 25 (m.1 24)) ((Int32.ofInt 97)) ((Int32.ofInt 122))) = 0 → ((p_X9_isByte (setG m 25 (m.1 24)) ((Int32.ofInt 45)) ((Int32.ofInt 45))) ∧ (((f_X9_isByte (setG m 25 (m.1 24)) ((Int32.ofInt 45)) ((Int32.ofInt 45))) = 0 → (p_X9_scans_179 (setG m 25 (m.1 24)) (f_X9_isByte (setG m 25 (m.1 24)) ((Int32.ofInt 45)) ((Int32.ofInt 45))) (m.1 24) ((Int32.ofInt 0)))) ∧ (¬ ((f_X9_isByte (setG m 25 (m.1 24)) ((Int32.ofInt 45)) ((Int32.ofInt 45))) = 0) → (p_X9_scans_179 (setG m 25 (m.1 24)) (f_X9_isByte (setG m 25 (m.1 24)) ((Int32.ofInt 45)) ((Int32.ofInt 45))) (m.1 24) ((Int32.ofInt 1))))))) ∧ (¬ ((f_X9_isByte (setG m 25 (m.1 24)) ((Int32.ofInt 97)) ((Int32.ofInt 122))) = 0) → (p_X9_scans_62 300 (setG m 25 (m.1 24)) ((Int64.ofNat 0))))))))
theorem fe4 (e : Rec) (x : Int32) : FrE e (setG e 4 x) := ⟨rfl, fun k a _ _ => by rw [setG_1, if_neg a]⟩
theorem fe5 (e : Rec) (x : Int32) : FrE e (setG e 5 x) := ⟨rfl, fun k _ a _ => by rw [setG_1, if_neg a]⟩
theorem fe6 (e : Rec) (x : Int32) : FrE e (setG e 6 x) := ⟨rfl, fun k _ _ a => by rw [setG_1, if_neg a]⟩
theorem ft24 (e : Rec) (x : Int32) : FrT e (setG e 24 x) := ⟨rfl, fun k a _ _ _ => by rw [setG_1, if_neg a]⟩
theorem ft25 (e : Rec) (x : Int32) : FrT e (setG e 25 x) := ⟨rfl, fun k _ a _ _ => by rw [setG_1, if_neg a]⟩
theorem ft26 (e : Rec) (x : Int32) : FrT e (setG e 26 x) := ⟨rfl, fun k _ _ a _ => by rw [setG_1, if_neg a]⟩
theorem ft27 (e : Rec) (x : Int32) : FrT e (setG e 27 x) := ⟨rfl, fun k _ _ _ a => by rw [setG_1, if_neg a]⟩
theorem le_eq {a b : Int32} (h : 0 ≤ b) (q : a = b) : 0 ≤ a := by rw [q]; exact h
theorem rn_0 {e m : Rec} (h : TkR e m) (a : Int32) (ha : ¬ a = 0) (c : f_X9_isByte m (Int32.ofInt 48) (Int32.ofInt 57) = 0) : p_X6_readNumber_37 (299 + 1) e a (Int32.ofInt 0) (Int32.ofInt 0) ∧ f_X6_readNumber_37 (299 + 1) e a (Int32.ofInt 0) (Int32.ofInt 0) = (Int32.ofInt 2, setG e 6 (-(Int32.ofInt 0))) := by
  have w : f_X8_within (Int32.ofInt 0) (Int32.ofInt 1) (Int32.ofInt 2) = 0 := by decide
  have tb := tk_byte h
  have pb := tk_pb h
  have is := (tk_is h (Int32.ofInt 48) (Int32.ofInt 57)).2
  rw [p_X6_readNumber_37, f_X6_readNumber_37]
  by_cases c1 : e.1 2 ≤ e.1 4
  · rw [if_pos c1, if_neg ha, if_pos w]
    exact ⟨⟨fun _ => trivial, fun y => absurd c1 y⟩, rfl⟩
  · have lt : m.1 24 < m.1 23 := by
      have := h.1.1
      have := h.2.1
      grind
    rw [if_pos lt] at tb
    have c2 : f_X6_isFigure (f_X6_byteAt e (e.1 4)) = 0 := by
      rw [tb]
      by_cases y : f_X6_isFigure (bt m) = 0
      · exact y
      · exact absurd ⟨lt, wi_n.mp y⟩ (is.mp c)
    rw [if_neg c1, if_pos c2, if_neg ha, if_pos w]
    exact ⟨⟨fun y => absurd y c1, fun _ => ⟨pb, fun _ => trivial, fun y => absurd c2 y⟩⟩, rfl⟩
theorem tk_37 {e m : Rec} (h : TkR e m) : p_X6_nextToken_37 e ∧ p_rest m ∧ ToR e m (f_X6_nextToken_37 e) (f_rest m) := by
  have hT := h.1
  have h4 := h.2.1
  have ha0 := h.2.2.1
  have hal := h.2.2.2
  have l200 := hT.2.2.1
  obtain ⟨e1, he1⟩ : ∃ z, z = setG e 5 (e.1 4) := ⟨_, rfl⟩
  obtain ⟨m1, hm1⟩ : ∃ z, z = setG m 25 (m.1 24) := ⟨_, rfl⟩
  have f1 : FrE e e1 := by rw [he1]; exact fe5 _ _
  have g1 : FrT m m1 := by rw [hm1]; exact ft25 _ _
  have k1 : TkR e1 m1 := by rw [he1, hm1]; exact ⟨hT, h4, ha0, hal⟩
  have e14 : e1.1 4 = e.1 4 := by rw [he1]; rfl
  have e15 : e1.1 5 = m.1 24 := by rw [he1, ← h4]; rfl
  have m24 : m1.1 24 = m.1 24 := by rw [hm1]; rfl
  have m23 : m1.1 23 = m.1 23 := by rw [hm1]; rfl
  have m25 : m1.1 25 = m.1 24 := by rw [hm1]; rfl
  have tb := tk_byte k1
  have pb := tk_pb k1
  rw [e14] at tb pb
  unfold p_X6_nextToken_37 f_X6_nextToken_37 p_rest f_rest
  rw [← he1, ← hm1]
  by_cases c0 : m.1 24 = m.1 23
  · rw [if_neg (by rw [m24, m23, c0]; exact Int32.lt_irrefl)] at tb
    have c0' : f_X6_byteAt e1 (e.1 4) = Int32.ofInt (-1) := by rw [tb]; rfl
    rw [if_pos c0', if_pos c0]
    refine ⟨⟨pb, fun _ => trivial, fun y => absurd c0' y⟩, ⟨fun _ => trivial, fun y => absurd c0 y⟩, k1, ⟨e15.trans m25.symm, by show 0 ≤ m1.1 25; rw [m25]; exact ha0⟩, Or.inl ⟨rfl, rfl⟩, ?_, ?_, ?_, f1, g1.t (ft26 _ _)⟩
    · intro y
      exact absurd y (by show ¬ Int32.ofInt 1 = 5; decide)
    · show m.1 24 ≤ m1.1 24
      rw [m24]
      exact Int32.le_refl _
    · intro y
      exact absurd rfl y
  · have lt : m1.1 24 < m1.1 23 := by rw [m24, m23]; grind
    rw [if_pos lt] at tb
    obtain ⟨_, bz, bu⟩ := tk_b k1 lt
    have c0' : ¬ f_X6_byteAt e1 (e.1 4) = Int32.ofInt (-1) := by
      rw [tb]
      intro y
      have y' : bt m1 = -1 := y
      grind
    have isx : ∀ l u : Int32, f_X9_isByte m1 l u = 0 ↔ ¬ (l ≤ bt m1 ∧ bt m1 ≤ u) := by
      intro l u
      rw [(tk_is k1 l u).2]
      constructor
      · intro q y; exact q ⟨lt, y⟩
      · intro q y; exact q y.2
    have wix : ∀ l u : Int32, f_X8_within (bt m1) l u = 0 ↔ ¬ (l ≤ bt m1 ∧ bt m1 ≤ u) := by
      intro l u
      constructor
      · intro q y; exact (wi_n.mpr y) q
      · intro q
        by_cases y : f_X8_within (bt m1) l u = 0
        · exact y
        · exact absurd (wi_n.mp y) q
    have pi := fun l u => (tk_is k1 l u).1
    have on := tk_on k1 lt
    rw [e14, h4, m24] at on
    rw [if_neg c0', if_neg c0]
    by_cases c1 : f_X9_isByte m1 (Int32.ofInt 97) (Int32.ofInt 122) = 0
    · have c1' : f_X6_isLetter (f_X6_byteAt e1 (e.1 4)) = 0 := by
        rw [tb]; exact (wix _ _).mpr ((isx _ _).mp c1)
      rw [if_pos c1, if_pos c1']
      have tX : TkR (setG (setG e 4 (e.1 4 + Int32.ofInt 1)) 5 (e.1 4)) (setG m1 24 (m1.1 24 + Int32.ofInt 1)) := by
        rw [m24, hm1]
        exact ⟨hT, by show e.1 4 + 1 = m.1 24 + 1; rw [h4], by show 0 ≤ m.1 24 + 1; grind, by show m.1 24 + 1 ≤ m.1 23; grind⟩
      have fX : FrE e (setG (setG e 4 (e.1 4 + Int32.ofInt 1)) 5 (e.1 4)) := (fe4 _ _).t (fe5 _ _)
      have ml : m.1 24 < m.1 24 + Int32.ofInt 1 := by show m.1 24 < m.1 24 + 1; grind
      have mle : m.1 24 ≤ m.1 24 + Int32.ofInt 1 := by show m.1 24 ≤ m.1 24 + 1; grind
      have m200 := cl_le (n := 200) hT.2.1 l200
      by_cases c2 : f_X9_isByte m1 (Int32.ofInt 45) (Int32.ofInt 45) = 0
      · have n45 : ¬ f_X6_byteAt e1 (e.1 4) = Int32.ofInt 45 := by
          rw [tb]
          intro y
          exact (isx _ _).mp c2 ⟨by rw [y]; exact Int32.le_refl _, by rw [y]; exact Int32.le_refl _⟩
        have u : m.1 24 + Int32.ofInt 0 = m1.1 24 := by rw [m24]; show m.1 24 + 0 = m.1 24; grind
        rw [if_pos c2]
        unfold f_X9_scans_179 p_X9_scans_179
        rw [u, setG_i, c2]
        by_cases c3 : f_X9_isByte m1 (Int32.ofInt 48) (Int32.ofInt 57) = 0
        · have c3' : f_X6_isFigure (f_X6_byteAt e1 (e.1 4)) = 0 := by
            rw [tb]; exact (wix _ _).mpr ((isx _ _).mp c3)
          rw [if_pos c3, if_pos c3', if_pos rfl, if_neg n45]
          have pc : ∀ (Q : Prop), ((f_X6_isLetter (f_X6_byteAt e1 (e.1 4)) = 0 → (((f_X6_isFigure (f_X6_byteAt e1 (e.1 4))) = 0 → (((f_X6_byteAt e1 (e.1 4)) = (Int32.ofInt 45) → ((p_X6_readNumber e1) ∧ True)) ∧ (¬ ((f_X6_byteAt e1 (e.1 4)) = (Int32.ofInt 45)) → True))) ∧ (¬ ((f_X6_isFigure (f_X6_byteAt e1 (e.1 4))) = 0) → ((p_X6_readNumber e1) ∧ True)))) ∧ (¬ (f_X6_isLetter (f_X6_byteAt e1 (e.1 4)) = 0) → Q)) := fun Q => ⟨fun _ => ⟨fun _ => ⟨fun y => absurd y n45, fun _ => trivial⟩, fun y => absurd c3' y⟩, fun y => absurd c1' y⟩
          by_cases c4 : f_X9_isByte m1 (Int32.ofInt 59) (Int32.ofInt 59) = 0
          · have n59 : ¬ f_X6_byteAt e1 (e.1 4) = Int32.ofInt 59 := by
              rw [tb]
              intro y
              exact (isx _ _).mp c4 ⟨by rw [y]; exact Int32.le_refl _, by rw [y]; exact Int32.le_refl _⟩
            rw [if_neg n59, if_pos c4]
            unfold f_X9_scans_334
            rw [if_pos rfl]
            refine ⟨⟨pb, fun y => absurd y c0', fun _ => pc _⟩, ⟨fun y => absurd y c0, fun _ => ⟨pi _ _, fun _ => ⟨pi _ _, fun _ => ⟨pi _ _, fun _ => ⟨fun _ => ⟨pi _ _, fun _ => trivial, fun y => absurd c4 y⟩, fun y => absurd rfl y⟩, fun y => absurd c3 y⟩, fun y => absurd rfl y⟩, fun y => absurd c1 y⟩⟩, tX, ?_, Or.inr (Or.inl ⟨rfl, rfl⟩), ?_, ?_, ?_, fX, (g1.t (ft24 _ _)).t (ft26 _ _)⟩
            · exact ⟨by show e.1 4 = m1.1 25; rw [m25, h4], by show 0 ≤ m1.1 25; rw [m25]; exact ha0⟩
            · intro y
              exact absurd y (by show ¬ Int32.ofInt 2 = 5; decide)
            · show m.1 24 ≤ m1.1 24 + Int32.ofInt 1
              rw [m24]
              exact mle
            · intro _ y
              exact absurd rfl y
          · have y59 : f_X6_byteAt e1 (e.1 4) = Int32.ofInt 59 := by
              rw [tb]
              have q := Classical.not_not.mp (fun z => c4 ((isx _ _).mpr z))
              exact Int32.le_antisymm q.2 q.1
            rw [if_pos y59, if_neg c4]
            unfold f_X9_scans_334
            rw [if_pos rfl]
            refine ⟨⟨pb, fun y => absurd y c0', fun _ => pc _⟩, ⟨fun y => absurd y c0, fun _ => ⟨pi _ _, fun _ => ⟨pi _ _, fun _ => ⟨pi _ _, fun _ => ⟨fun _ => ⟨pi _ _, fun y => absurd y c4, fun _ => trivial⟩, fun y => absurd rfl y⟩, fun y => absurd c3 y⟩, fun y => absurd rfl y⟩, fun y => absurd c1 y⟩⟩, tX, ?_, Or.inr (Or.inr (Or.inr (Or.inr (Or.inr ⟨rfl, rfl⟩)))), ?_, ?_, ?_, fX, (g1.t (ft24 _ _)).t (ft26 _ _)⟩
            · exact ⟨by show e.1 4 = m1.1 25; rw [m25, h4], by show 0 ≤ m1.1 25; rw [m25]; exact ha0⟩
            · intro y
              exact absurd y (by show ¬ Int32.ofInt 6 = 5; decide)
            · show m.1 24 ≤ m1.1 24 + Int32.ofInt 1
              rw [m24]
              exact mle
            · intro _ _
              show m.1 24 < m1.1 24 + Int32.ofInt 1
              rw [m24]
              exact ml
        · have c3' : ¬ f_X6_isFigure (f_X6_byteAt e1 (e.1 4)) = 0 := by
            rw [tb]; exact fun y => c3 ((isx _ _).mpr ((wix _ _).mp y))
          have q3 := Classical.not_not.mp (fun z => c3 ((isx _ _).mpr z))
          rw [if_neg c3, if_neg c3']
          obtain ⟨i1, i2, i3, i4, i5, i6, i7, i8, i9, i10⟩ := nu_loop (Int32.ofInt 0) (m1.1 24) (by rw [m24]; exact ha0) 300 e1 (setG m1 27 (Int32.ofInt 0)) (Int32.ofInt 0) (Int32.ofInt 0) k1 (by show (0 : Int32) = m1.1 24 - m1.1 24; grind) (by decide) (by decide) (Int32.le_refl _) (fun _ => rfl) (fun _ => ⟨lt, q3⟩) (by
            show (m1.1 23).toNatClampNeg < 300 + (m1.1 24).toNatClampNeg
            rw [m23]
            omega)
          have fn : f_X6_readNumber e1 = f_X6_readNumber_37 300 e1 (Int32.ofInt 0) (Int32.ofInt 0) (Int32.ofInt 0) := by
            unfold f_X6_readNumber
            rw [e14, if_neg n45]
          have pn : p_X6_readNumber e1 := by
            unfold p_X6_readNumber
            rw [e14]
            exact ⟨pb, fun y => absurd y n45, fun _ => i1⟩
          rw [fn]
          refine ⟨⟨pb, fun y => absurd y c0', fun _ => ⟨fun _ => ⟨fun y => absurd y c3', fun _ => ⟨pn, trivial⟩⟩, fun y => absurd c1' y⟩⟩, ⟨fun y => absurd y c0, fun _ => ⟨pi _ _, fun _ => ⟨pi _ _, fun _ => ⟨pi _ _, fun y => absurd y c3, fun _ => i2⟩, fun y => absurd rfl y⟩, fun y => absurd c1 y⟩⟩, i3, ?_, ?_, ?_, ?_, ?_, f1.t i8, (g1.t (ft27 _ _)).t i9⟩
          · exact ⟨i4.trans (e15.trans (m25.symm.trans i5.symm)), by
            have q5 : _ = m1.1 25 := i5
            exact le_eq (by rw [m25]; exact ha0) q5⟩
          · rcases i7 with y | y
            · exact Or.inr (Or.inr (Or.inr (Or.inr (Or.inl ⟨y.1, y.2.1⟩))))
            · exact Or.inr (Or.inl y)
          · intro y
            rcases i7 with z | z
            · exact z.2.2
            · have y' : (f_X6_readNumber_37 300 e1 (Int32.ofInt 0) (Int32.ofInt 0) (Int32.ofInt 0)).1 = 5 := y
              rw [z.1] at y'
              exact absurd y' (by decide)
          · rw [← m24]; exact i6
          · intro _ _
            rw [← m24]; exact i10
      · have q2 := Classical.not_not.mp (fun z => c2 ((isx _ _).mpr z))
        have b45 : bt m1 = Int32.ofInt 45 := Int32.le_antisymm q2.2 q2.1
        have y45 : f_X6_byteAt e1 (e.1 4) = Int32.ofInt 45 := by rw [tb]; exact b45
        have c3' : f_X6_isFigure (f_X6_byteAt e1 (e.1 4)) = 0 := by rw [y45]; decide
        have one : ¬ Int32.ofInt 1 = 0 := by decide
        rw [if_neg c2, if_pos c3', if_pos y45]
        unfold f_X9_scans_179 p_X9_scans_179
        rw [isB1 _ _ _ c2]
        obtain ⟨e2, he2⟩ : ∃ z, z = setG e1 4 (m.1 24 + Int32.ofInt 1) := ⟨_, rfl⟩
        obtain ⟨m2, hm2⟩ : ∃ z, z = setG m1 24 (m.1 24 + Int32.ofInt 1) := ⟨_, rfl⟩
        rw [← he2, ← hm2] at on
        rw [← hm2]
        have e25 : e2.1 5 = m.1 24 := by rw [he2]; exact e15
        have m224 : m2.1 24 = m.1 24 + Int32.ofInt 1 := by rw [hm2]; rfl
        have m223 : m2.1 23 = m.1 23 := by rw [hm2]; exact m23
        have m225 : m2.1 25 = m.1 24 := by rw [hm2]; exact m25
        have f2 : FrE e e2 := f1.t (by rw [he2]; exact fe4 _ _)
        have g2 : FrT m m2 := g1.t (by rw [hm2]; exact ft24 _ _)
        have pi2 := fun l u => (tk_is on l u).1
        have fn : f_X6_readNumber e1 = f_X6_readNumber_37 300 e2 (Int32.ofInt 1) (Int32.ofInt 0) (Int32.ofInt 0) := by
          unfold f_X6_readNumber
          rw [e14, if_pos y45, h4, ← he2]
        have pn : p_X6_readNumber_37 300 e2 (Int32.ofInt 1) (Int32.ofInt 0) (Int32.ofInt 0) → p_X6_readNumber e1 := by
          intro z
          unfold p_X6_readNumber
          rw [e14]
          exact ⟨pb, fun _ => by rw [h4, ← he2]; exact z, fun y => absurd y45 y⟩
        rw [fn]
        by_cases c3 : f_X9_isByte m2 (Int32.ofInt 48) (Int32.ofInt 57) = 0
        · obtain ⟨r1, r2⟩ := rn_0 on (Int32.ofInt 1) one c3
          rw [if_pos c3, if_neg one]
          unfold f_X9_scans_334
          rw [if_neg one]
          have r2' : f_X6_readNumber_37 300 e2 (Int32.ofInt 1) (Int32.ofInt 0) (Int32.ofInt 0) = (Int32.ofInt 2, setG e2 6 (-(Int32.ofInt 0))) := r2
          rw [r2']
          have u0 : m2.1 24 + Int32.ofInt 0 = m2.1 24 := by show m2.1 24 + 0 = m2.1 24; grind
          rw [u0, setG_i]
          refine ⟨⟨pb, fun y => absurd y c0', fun _ => ⟨fun _ => ⟨fun _ => ⟨fun _ => ⟨pn r1, trivial⟩, fun y => absurd y45 y⟩, fun y => absurd c3' y⟩, fun y => absurd c1' y⟩⟩, ⟨fun y => absurd y c0, fun _ => ⟨pi _ _, fun _ => ⟨pi _ _, fun y => absurd y one, fun _ => ⟨pi2 _ _, fun _ => ⟨fun y => absurd y one, fun _ => trivial⟩, fun y => absurd c3 y⟩⟩, fun y => absurd c1 y⟩⟩, on, ⟨e25.trans m225.symm, by show 0 ≤ m2.1 25; rw [m225]; exact ha0⟩, Or.inr (Or.inl ⟨rfl, rfl⟩), ?_, ?_, ?_, f2.t (fe6 _ _), g2.t (ft26 _ _)⟩
          · intro y
            exact absurd y (by show ¬ Int32.ofInt 2 = 5; decide)
          · show m.1 24 ≤ m2.1 24
            rw [m224]
            exact mle
          · intro _ y
            exact absurd rfl y
        · have q3 := Classical.not_not.mp (fun z => c3 ((tk_is on _ _).2.mpr z))
          rw [if_neg c3]
          obtain ⟨i1, i2, i3, i4, i5, i6, i7, i8, i9, i10⟩ := nu_loop (Int32.ofInt 1) (m.1 24 + Int32.ofInt 1) (by show 0 ≤ m.1 24 + 1; grind) 300 e2 (setG m2 27 (Int32.ofInt 0)) (Int32.ofInt 0) (Int32.ofInt 0) on (by show (0 : Int32) = m2.1 24 - (m.1 24 + Int32.ofInt 1); rw [m224]; grind) (by decide) (by decide) (by show m.1 24 + Int32.ofInt 1 ≤ m2.1 24; rw [m224]; exact Int32.le_refl _) (fun _ => rfl) (fun _ => q3) (by
            show (m2.1 23).toNatClampNeg < 300 + (m2.1 24).toNatClampNeg
            rw [m223]
            omega)
          refine ⟨⟨pb, fun y => absurd y c0', fun _ => ⟨fun _ => ⟨fun _ => ⟨fun _ => ⟨pn i1, trivial⟩, fun y => absurd y45 y⟩, fun y => absurd c3' y⟩, fun y => absurd c1' y⟩⟩, ⟨fun y => absurd y c0, fun _ => ⟨pi _ _, fun _ => ⟨pi _ _, fun y => absurd y one, fun _ => ⟨pi2 _ _, fun y => absurd y c3, fun _ => i2⟩⟩, fun y => absurd c1 y⟩⟩, i3, ?_, ?_, ?_, ?_, ?_, f2.t i8, (g2.t (ft27 _ _)).t i9⟩
          · exact ⟨i4.trans (e25.trans (m225.symm.trans i5.symm)), by
            have q5 : _ = m2.1 25 := i5
            exact le_eq (by rw [m225]; exact ha0) q5⟩
          · rcases i7 with y | y
            · exact Or.inr (Or.inr (Or.inr (Or.inr (Or.inl ⟨y.1, y.2.1⟩))))
            · exact Or.inr (Or.inl y)
          · intro y
            rcases i7 with z | z
            · exact z.2.2
            · have y' : (f_X6_readNumber_37 300 e2 (Int32.ofInt 1) (Int32.ofInt 0) (Int32.ofInt 0)).1 = 5 := y
              rw [z.1] at y'
              exact absurd y' (by decide)
          · exact Int32.le_trans mle (Int32.le_of_lt i10)
          · intro _ _
            exact Int32.lt_trans ml i10
    · have c1' : ¬ f_X6_isLetter (f_X6_byteAt e1 (e.1 4)) = 0 := by
        rw [tb]; exact fun y => c1 ((isx _ _).mpr ((wix _ _).mp y))
      rw [if_neg c1, if_neg c1']
      obtain ⟨i1, i2, i3, i4, i5, i6, i7, i8, i9, i10⟩ := wd_loop 300 e1 m1 (Int64.ofNat 0) 0 k1 (e15.trans m25.symm) (by rw [m25]; exact ha0) (by rw [m25, m24]; exact Int32.le_refl _) (by rw [m25, m24]; rfl) (fun i hi => absurd hi (Nat.not_lt_zero i)) (by rw [if_pos (by decide)]; show (Int64.ofNat 0).toInt = 0; decide) (by
        have := cl_le (n := 200) hT.2.1 l200
        rw [m23]
        omega)
      refine ⟨⟨pb, fun y => absurd y c0', fun _ => ⟨fun y => absurd y c1', fun _ => ⟨i1, trivial⟩⟩⟩, ⟨fun y => absurd y c0, fun _ => ⟨pi _ _, fun y => absurd y c1, fun _ => i2⟩⟩, i3, ?_, ?_, ?_, ?_, ?_, f1.t i8, g1.t i9⟩
      · exact ⟨i4.trans (e15.trans (m25.symm.trans i5.symm)), by rw [i5, m25]; exact ha0⟩
      · rcases i7 with y | y | y
        · exact Or.inr (Or.inr (Or.inl y))
        · exact Or.inr (Or.inr (Or.inr (Or.inl y)))
        · exact Or.inr (Or.inl y)
      · intro y
        have y' : (f_X6_readWord_0 300 e1).1 = 5 := y
        rcases i7 with z | z | z <;> rw [z.1] at y' <;> exact absurd y' (by decide)
      · rw [← m24]; exact i6
      · intro _ y
        have q := i10 y
        rw [i5, m25] at q
        grind
