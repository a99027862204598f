/-! layer 3: the board as it would lie -/
def sOf (g : Rec) : Rec := (fun _ => 0, fun j k => if j = 8 then f_X9_isCell g (Int32.ofNat k) else if j = 9 then g.2 7 k else if j = 10 then g.2 4 k else if j = 11 then g.2 5 k else if j = 12 then g.2 6 k else 0)
theorem sg_of (g : Rec) : SG (sOf g) g := by
  intro c h0 h1
  refine ⟨?_, rfl, rfl, rfl, rfl⟩
  show f_X9_isCell g (Int32.ofNat c.toNatClampNeg) = _
  rw [Int32.ofNat_toNatClampNeg c h0]
/-- what was looked at, for one man -/
def Lk1 (o h : Rec) (v : Int32) : Prop := (f_X9_isHere h v = 0 ∧ o.2 3 v.toNatClampNeg = -1) ∨ (¬ f_X9_isHere h v = 0 ∧ o.2 0 v.toNatClampNeg = h.2 4 (cO h v).toNatClampNeg ∧ o.2 1 v.toNatClampNeg = h.2 5 (cO h v).toNatClampNeg ∧ o.2 2 v.toNatClampNeg = h.2 6 (cO h v).toNatClampNeg ∧ o.2 3 v.toNatClampNeg = f_X9_strengthOf h v)
def LkR (o p h : Rec) : Prop := ∀ v : Int32, 0 ≤ v → v < p.1 5 → Lk1 o h v
/-- the looked-at board, of the reference -/
def Beh (g h : Rec) (a l w : Int32) : Prop := h.2 0 = g.2 0 ∧ ∀ c : Int32, 0 ≤ c → c < 36 → rowM h c.toNatClampNeg = rowM (f_X9_turnsOver g a l w) c.toNatClampNeg
def lkO (o s p : Rec) (a l w v : Int32) : Rec := setA (setA (setA (setA o 0 (upd (o.2 0) v.toNatClampNeg (if f_X8_turns (if a = 0 then s.2 10 (p.2 4 v.toNatClampNeg).toNatClampNeg else s.2 11 (p.2 4 v.toNatClampNeg).toNatClampNeg) l w = 0 then s.2 10 (p.2 4 v.toNatClampNeg).toNatClampNeg else if a = 0 then f_X8_mirrored (s.2 10 (p.2 4 v.toNatClampNeg).toNatClampNeg) l else s.2 10 (p.2 4 v.toNatClampNeg).toNatClampNeg)))
   1 (upd (o.2 1) v.toNatClampNeg (if f_X8_turns (if a = 0 then s.2 10 (p.2 4 v.toNatClampNeg).toNatClampNeg else s.2 11 (p.2 4 v.toNatClampNeg).toNatClampNeg) l w = 0 then s.2 11 (p.2 4 v.toNatClampNeg).toNatClampNeg else if a = 1 then f_X8_mirrored (s.2 11 (p.2 4 v.toNatClampNeg).toNatClampNeg) l else s.2 11 (p.2 4 v.toNatClampNeg).toNatClampNeg)))
   2 (upd (o.2 2) v.toNatClampNeg (if f_X8_turns (if a = 0 then s.2 10 (p.2 4 v.toNatClampNeg).toNatClampNeg else s.2 11 (p.2 4 v.toNatClampNeg).toNatClampNeg) l w = 0 then s.2 12 (p.2 4 v.toNatClampNeg).toNatClampNeg else 2 * s.1 7 + 1 - s.2 12 (p.2 4 v.toNatClampNeg).toNatClampNeg)))
   3 (upd (o.2 3) v.toNatClampNeg (f_X8_powerOfKind (p.2 1 v.toNatClampNeg) (p.2 3 v.toNatClampNeg) (if s.2 9 (p.2 4 v.toNatClampNeg).toNatClampNeg = f_X8_turns (if a = 0 then s.2 10 (p.2 4 v.toNatClampNeg).toNatClampNeg else s.2 11 (p.2 4 v.toNatClampNeg).toNatClampNeg) l w then 0 else 1)))
theorem lk_step (n : Nat) (o s p : Rec) (a l w v : Int32) : f_X1_look_9 (n + 1) o s p a l w v = if p.1 5 ≤ v then o else if f_X3_isIn s p v = 0 then f_X1_look_9 n (setA o 3 (upd (o.2 3) v.toNatClampNeg (-1))) s p a l w (v + 1) else f_X1_look_9 n (lkO o s p a l w v) s p a l w (v + 1) := by
  rw [f_X1_look_9]
  unfold f_X1_look_116 f_X1_look_156 lkO
  have ev : v + Int32.ofInt 1 = v + 1 := rfl
  have eo : Int32.ofInt 1 = 1 := rfl
  have ez : Int32.ofInt 0 = 0 := rfl
  have em : Int32.ofInt (-1) = -1 := rfl
  have e2 : Int32.ofInt 2 = 2 := rfl
  rw [ev, eo, ez, em, e2]
  by_cases c1 : p.1 5 ≤ v
  · rw [if_pos c1, if_pos c1]
  · rw [if_neg c1, if_neg c1]
    by_cases c2 : f_X3_isIn s p v = 0
    · rw [if_pos c2, if_pos c2]
    · rw [if_neg c2, if_neg c2]
      by_cases ha : a = 0
      · simp only [if_pos ha]
        generalize ht : f_X8_turns (s.2 10 (p.2 4 v.toNatClampNeg).toNatClampNeg) l w = t
        by_cases c3 : t = 0
        · simp only [if_pos c3]
          split <;> rfl
        · simp only [if_neg c3]
          by_cases c4 : a = 1
          · exact absurd (ha.symm.trans c4) (by decide)
          · simp only [if_neg c4]
            split <;> rfl
      · simp only [if_neg ha]
        generalize ht : f_X8_turns (s.2 11 (p.2 4 v.toNatClampNeg).toNatClampNeg) l w = t
        by_cases c3 : t = 0
        · simp only [if_pos c3]
          split <;> rfl
        · simp only [if_neg c3]
          by_cases c4 : a = 1
          · simp only [if_pos c4]
            split <;> rfl
          · simp only [if_neg c4]
            split <;> rfl
theorem lk_o {o s p h : Rec} {a l w u v : Int32} (hu : ¬ u.toNatClampNeg = v.toNatClampNeg) (hl : Lk1 o h u) : Lk1 (lkO o s p a l w v) h u ∧ Lk1 (setA o 3 (upd (o.2 3) v.toNatClampNeg (-1))) h u := by
  have z : ∀ (f : Nat → Int32) (x : Int32), upd f v.toNatClampNeg x u.toNatClampNeg = f u.toNatClampNeg := fun f x => by rw [upd_at, if_neg hu]
  constructor
  · rcases hl with ⟨h1, h2⟩ | ⟨h1, h2, h3, h4, h5⟩
    · refine Or.inl ⟨h1, ?_⟩
      show upd (o.2 3) v.toNatClampNeg _ u.toNatClampNeg = _
      rw [z]; exact h2
    · refine Or.inr ⟨h1, ?_, ?_, ?_, ?_⟩
      · show upd (o.2 0) v.toNatClampNeg _ u.toNatClampNeg = _
        rw [z]; exact h2
      · show upd (o.2 1) v.toNatClampNeg _ u.toNatClampNeg = _
        rw [z]; exact h3
      · show upd (o.2 2) v.toNatClampNeg _ u.toNatClampNeg = _
        rw [z]; exact h4
      · show upd (o.2 3) v.toNatClampNeg _ u.toNatClampNeg = _
        rw [z]; exact h5
  · rcases hl with ⟨h1, h2⟩ | ⟨h1, h2, h3, h4, h5⟩
    · refine Or.inl ⟨h1, ?_⟩
      show upd (o.2 3) v.toNatClampNeg _ u.toNatClampNeg = _
      rw [z]; exact h2
    · refine Or.inr ⟨h1, h2, h3, h4, ?_⟩
      show upd (o.2 3) v.toNatClampNeg _ u.toNatClampNeg = _
      rw [z]; exact h5
theorem here_cg {m m' : Rec} (h : m'.2 0 = m.2 0) (v : Int32) : f_X9_isHere m' v = f_X9_isHere m v := by
  unfold f_X9_isHere
  rw [h]
theorem mn_cg {p m m' : Rec} (h : m'.2 0 = m.2 0) (hm : Mn p m) : Mn p m' := by
  obtain ⟨h1, h2, h3, h4⟩ := hm
  refine ⟨h1, h2, by rw [h]; exact h3, fun v a b => ?_⟩
  rw [h, isCell_congr h]
  exact h4 v a b
theorem tu_01' (x l w : Int32) : f_X8_turns x l w = 0 ∨ f_X8_turns x l w = 1 := by
  unfold f_X8_turns
  repeat' split
  all_goals first | exact Or.inl rfl | exact Or.inr rfl
theorem lk_new {K : Int32} {o s p g h : Rec} {a l w v : Int32} (hP : PR s p g) (hG : GI K g) (ha : a = 0 ∨ a = 1) (hb : Beh g h a l w) (v0 : 0 ≤ v) (v1 : v < p.1 5) (hv : ¬ f_X9_isHere g v = 0) : Lk1 (lkO o s p a l w v) h v := by
  obtain ⟨hs, he, hM, _⟩ := hP
  obtain ⟨b0, b1⟩ := hb
  obtain ⟨_, _, v2⟩ := mn_here_in hM hv
  have iv := isCell_in v2
  obtain ⟨e1, e2, e3, e4, _⟩ := hM.2.2.2 v v0 v1
  obtain ⟨g1, g2, g3, g4, g5⟩ := hs _ iv.1 iv.2
  obtain ⟨nf, hn, h16, hgeo, _⟩ := gi_geo hG
  have dd := (hgeo _ iv.1 iv.2).1
  have cOe : cO h v = p.2 4 v.toNatClampNeg := by
    show h.2 0 _ = _
    rw [b0]; exact e4
  have hvh : ¬ f_X9_isHere h v = 0 := by rw [here_cg b0]; exact hv
  have mOe : ∀ f : Nat → Int32, ∀ x, upd f v.toNatClampNeg x v.toNatClampNeg = x := fun f x => by rw [upd_at, if_pos rfl]
  obtain ⟨r1, r2, r3, r4⟩ := rM (b1 _ iv.1 iv.2)
  have top : s.1 7 = topL g := he.2.2.2.2
  have ct : f_X8_turns (if a = 0 then s.2 10 (p.2 4 v.toNatClampNeg).toNatClampNeg else s.2 11 (p.2 4 v.toNatClampNeg).toNatClampNeg) l w = f_X8_turns (co g a (p.2 4 v.toNatClampNeg)) l w := by
    unfold co
    rw [g2, g3]
  refine Or.inr ⟨hvh, ?_, ?_, ?_, ?_⟩
  · show upd (o.2 0) v.toNatClampNeg _ v.toNatClampNeg = _
    rw [mOe, ct, cOe, r1, g2]
    rcases turn_row g a l w _ iv.1 iv.2 with ⟨q1, q2, q3, q4, q5, q6⟩ | ⟨q1, q3, q4, q5, q6⟩
    · rw [if_neg q2, q3]; rfl
    · rw [if_pos (q1.resolve_left v2), q3]
  · show upd (o.2 1) v.toNatClampNeg _ v.toNatClampNeg = _
    rw [mOe, ct, cOe, r2, g3]
    rcases turn_row g a l w _ iv.1 iv.2 with ⟨q1, q2, q3, q4, q5, q6⟩ | ⟨q1, q3, q4, q5, q6⟩
    · rw [if_neg q2, q4]
      rcases ha with ha | ha
      · rw [if_neg (show ¬ a = 1 by rw [ha]; decide), if_pos ha]
      · rw [if_pos ha, if_neg (show ¬ a = 0 by rw [ha]; decide)]; rfl
    · rw [if_pos (q1.resolve_left v2), q4]
  · show upd (o.2 2) v.toNatClampNeg _ v.toNatClampNeg = _
    rw [mOe, ct, cOe, r3, g4, top]
    rcases turn_row g a l w _ iv.1 iv.2 with ⟨q1, q2, q3, q4, q5, q6⟩ | ⟨q1, q3, q4, q5, q6⟩
    · rw [if_neg q2, q5]
    · rw [if_pos (q1.resolve_left v2), q5]
  · show upd (o.2 3) v.toNatClampNeg _ v.toNatClampNeg = _
    rw [mOe, ct, str_pw, b0, e1, e3, e4, r4, g5]
    rcases turn_row g a l w _ iv.1 iv.2 with ⟨q1, q2, q3, q4, q5, q6⟩ | ⟨q1, q3, q4, q5, q6⟩
    · have q2' := (tu_01' (co g a (p.2 4 v.toNatClampNeg)) l w).resolve_left q2
      rw [q2', q6]
      rcases dd with dd | dd
      · rw [dd]; rfl
      · rw [dd]; rfl
    · have q2' := q1.resolve_left v2
      rw [q2', q6]
      rcases dd with dd | dd
      · rw [dd]; rfl
      · rw [dd]; rfl
theorem lk_loop {K : Int32} {s p g h : Rec} {a l w : Int32} (hP : PR s p g) (hG : GI K g) (ha : a = 0 ∨ a = 1) (hb : Beh g h a l w) : ∀ (n : Nat) (o : Rec) (v : Int32), FuV (p.1 5) n v → (∀ u, 0 ≤ u → u < v → Lk1 o h u) → LkR (f_X1_look_9 n o s p a l w v) p h ∧ p_X1_look_9 n o s p a l w v := by
  have hM := hP.2.2.1
  have hs := hP.1
  intro n
  induction n with
  | zero => intro o v hf; exact hf.z.elim
  | succ n ih =>
    intro o v hf hv
    rw [lk_step, p_X1_look_9]
    by_cases c1 : p.1 5 ≤ v
    · rw [if_pos c1]
      exact ⟨fun u q0 q1 => hv u q0 (by grind), fun _ => trivial, fun q => absurd c1 q⟩
    · obtain ⟨f1, f2, f3⟩ := hf.s c1
      have n8 := hM.2.1
      have v8 := vinb (n := 8) (x := v) f2 (by grind)
      rw [if_neg c1]
      have step : ∀ o', (∀ u, 0 ≤ u → u < v → Lk1 o' h u) → Lk1 o' h v → LkR (f_X1_look_9 n o' s p a l w (v + 1)) p h ∧ p_X1_look_9 n o' s p a l w (v + 1) := by
        intro o' q1 q2
        refine ih o' (v + 1) f1 (fun u z0 z1 => ?_)
        by_cases e : u = v
        · rw [e]; exact q2
        · exact q1 u z0 (by grind)
      have ne : ∀ u : Int32, 0 ≤ u → u < v → ¬ u.toNatClampNeg = v.toNatClampNeg := fun u z0 z1 e => by
        have := cl_inj z0 f2 e
        grind
      by_cases c2 : f_X3_isIn s p v = 0
      · rw [if_pos c2]
        have c2' : f_X9_isHere g v = 0 := by rw [← mn_here s hM]; exact c2
        obtain ⟨i1, i2⟩ := step (setA o 3 (upd (o.2 3) v.toNatClampNeg (-1))) (fun u z0 z1 => (lk_o (s := s) (p := p) (a := a) (l := l) (w := w) (ne u z0 z1) (hv u z0 z1)).2) (Or.inl ⟨by rw [here_cg hb.1]; exact c2', by show upd (o.2 3) v.toNatClampNeg (-1) v.toNatClampNeg = _; rw [upd_at, if_pos rfl]⟩)
        exact ⟨i1, fun q => absurd q c1, fun _ => ⟨pl_isIn s n8 v, fun _ => ⟨v8, i2⟩, fun q => absurd c2 q⟩⟩
      · rw [if_neg c2]
        have c2' : ¬ f_X9_isHere g v = 0 := by rw [← mn_here s hM]; exact c2
        obtain ⟨_, _, cc⟩ := mn_here_in hM c2'
        have iv := isCell_in cc
        have v36 := vin36 iv.1 iv.2
        obtain ⟨i1, i2⟩ := step (lkO o s p a l w v) (fun u z0 z1 => (lk_o (ne u z0 z1) (hv u z0 z1)).1) (lk_new hP hG ha hb f2 f3 c2')
        refine ⟨i1, fun q => absurd q c1, fun _ => ⟨pl_isIn s n8 v, fun q => absurd q c2, fun _ => ⟨v8, ?_⟩⟩⟩
        unfold lkO at i2
        unfold p_X1_look_116 p_X1_look_156
        have ev : v + Int32.ofInt 1 = v + 1 := rfl
        have eo : Int32.ofInt 1 = 1 := rfl
        have ez : Int32.ofInt 0 = 0 := rfl
        have e2 : Int32.ofInt 2 = 2 := rfl
        rw [ev, eo, ez, e2]
        rcases ha with ha | ha
        · subst ha
          have n01 : ¬ (0 : Int32) = 1 := by decide
          simp only [if_true, if_neg n01] at i2
          generalize ht : f_X8_turns (s.2 10 (p.2 4 v.toNatClampNeg).toNatClampNeg) l w = t at i2 ⊢
          refine ⟨fun _ => ⟨v36, fun t0 => ⟨v36, v8, fun _ => ⟨v36, v8, fun _ => ⟨v36, v8, v8, v8, v36, fun z => ⟨v8, ?_⟩, fun z => ⟨v8, ?_⟩⟩, fun q => absurd t0 q⟩, fun q => absurd t0 q⟩, fun t0 => ⟨fun _ => ⟨v36, v8, fun q => absurd q t0, fun _ => ⟨fun q => absurd q n01, fun _ => ⟨v36, v8, fun q => absurd q t0, fun _ => ⟨v36, v8, v8, v8, v36, fun z => ⟨v8, ?_⟩, fun z => ⟨v8, ?_⟩⟩⟩⟩⟩, fun q => absurd rfl q⟩⟩, fun q => absurd rfl q⟩
          · simp only [if_pos t0, if_pos z] at i2; exact i2
          · simp only [if_pos t0, if_neg z] at i2; exact i2
          · simp only [if_neg t0, if_pos z] at i2; exact i2
          · simp only [if_neg t0, if_neg z] at i2; exact i2
        · subst ha
          have n10 : ¬ (1 : Int32) = 0 := by decide
          simp only [if_true, if_neg n10] at i2
          generalize ht : f_X8_turns (s.2 11 (p.2 4 v.toNatClampNeg).toNatClampNeg) l w = t at i2 ⊢
          refine ⟨fun q => absurd q n10, fun _ => ⟨v36, fun t0 => ⟨v36, v8, fun _ => ⟨v36, v8, fun _ => ⟨v36, v8, v8, v8, v36, fun z => ⟨v8, ?_⟩, fun z => ⟨v8, ?_⟩⟩, fun q => absurd t0 q⟩, fun q => absurd t0 q⟩, fun t0 => ⟨fun q => absurd q n10, fun _ => ⟨v36, v8, fun q => absurd q t0, fun _ => ⟨fun _ => ⟨v36, v8, fun q => absurd q t0, fun _ => ⟨v36, v8, v8, v8, v36, fun z => ⟨v8, ?_⟩, fun z => ⟨v8, ?_⟩⟩⟩, fun q => absurd rfl q⟩⟩⟩⟩⟩
          · simp only [if_pos t0, if_pos z] at i2; exact i2
          · simp only [if_pos t0, if_neg z] at i2; exact i2
          · simp only [if_neg t0, if_pos z] at i2; exact i2
          · simp only [if_neg t0, if_neg z] at i2; exact i2
theorem lk_all {K : Int32} {o s p g h : Rec} {a l w : Int32} (hP : PR s p g) (hG : GI K g) (ha : a = 0 ∨ a = 1) (hb : Beh g h a l w) : LkR (f_X1_look o s p a l w) p h ∧ p_X1_look o s p a l w :=
  lk_loop hP hG ha hb 40 o 0 (FuV.o hP.2.2.1.1 hP.2.2.1.2.1 (by decide)) (fun u q0 q1 => by grind)
