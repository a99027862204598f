/-! layer 3: what a STEP does, on both sides -/
theorem upd_u (f : Nat → Int32) (k : Nat) (a b : Int32) : upd (upd f k a) k b = upd f k b := by
  funext j
  simp only [upd_at]
  split <;> rfl
theorem p230 {m : Rec} {v5 v11 : Int32} (h0 : 0 ≤ v5) (h8 : v5 < 8) (hE : ¬ m.2 0 4 = 0) : p_X9_steps_230 m v5 v11 := by
  unfold p_X9_steps_230
  have q8 := cl8 h0 h8
  have e8 := ix8 h0 (show v5 < 100 by grind)
  have hE' : ¬ (upd (upd (m.2 0) (Int32.toNatClampNeg (Int32.ofInt 8 + v5)) v11) (Int32.toNatClampNeg (Int32.ofInt 26)) (upd (m.2 0) (Int32.toNatClampNeg (Int32.ofInt 8 + v5)) v11 (Int32.toNatClampNeg (Int32.ofInt 26)) + Int32.ofInt 1)) (Int32.toNatClampNeg (Int32.ofInt 4)) = 0 := by
    rw [e8]
    simp only [upd_at]
    rw [if_neg (show ¬ Int32.toNatClampNeg (Int32.ofInt 4) = Int32.toNatClampNeg (Int32.ofInt 26) by decide), if_neg (show ¬ Int32.toNatClampNeg (Int32.ofInt 4) = 8 + v5.toNatClampNeg by have : Int32.toNatClampNeg (Int32.ofInt 4) = 4 := rfl; omega)]
    exact hE
  refine ⟨vinb (n := 248) (by grind) (by grind), hE', fun _ => ⟨hE', fun _ => ⟨fun _ => ⟨pp_anyFold _, trivial⟩, fun _ => ⟨pp_anyFold _, trivial⟩⟩, fun _ => ⟨pp_lays ?_ ?_, trivial⟩⟩, fun _ => trivial⟩
  · exact (by decide : (0 : Int32) ≤ 0)
  · exact (by decide : (0 : Int32) ≤ 3)
def stB (m : Rec) (v5 v11 : Int32) : Nat → Int32 := upd (upd (m.2 0) (8 + v5.toNatClampNeg) v11) 26 (m.2 0 26 + 1)
theorem s230 {m : Rec} {v5 v11 : Int32} (h0 : 0 ≤ v5) (h8 : v5 < 8) : f_X9_steps_230 m v5 v11 = if (m.2 0 26 + 1) - (m.2 0 26 + 1) / m.2 0 4 * m.2 0 4 = 0 then (if (m.2 0 26 + 1) / m.2 0 4 - (m.2 0 26 + 1) / m.2 0 4 / 2 * 2 = 1 then (1, setA m 0 (upd (stB m v5 v11) 27 (if f_X9_anyFold m = 0 then 0 else if 3 - m.2 0 16 ≤ m.2 0 5 then 3 - m.2 0 16 else m.2 0 5))) else (1, f_X9_lays (setA m 0 (upd (stB m v5 v11) 16 0)))) else (1, setA m 0 (stB m v5 v11)) := by
  have q8 := cl8 h0 h8
  have e8 := ix8 h0 (show v5 < 100 by grind)
  have k26 : Int32.toNatClampNeg (Int32.ofInt 26) = 26 := rfl
  have k27 : Int32.toNatClampNeg (Int32.ofInt 27) = 27 := rfl
  have k16 : Int32.toNatClampNeg (Int32.ofInt 16) = 16 := rfl
  have k4 : Int32.toNatClampNeg (Int32.ofInt 4) = 4 := rfl
  have k5 : Int32.toNatClampNeg (Int32.ofInt 5) = 5 := rfl
  have eo : Int32.ofInt 1 = 1 := rfl
  have ez : Int32.ofInt 0 = 0 := rfl
  have e2 : Int32.ofInt 2 = 2 := rfl
  have e3 : Int32.ofInt 3 = 3 := rfl
  have b26 : upd (m.2 0) (8 + v5.toNatClampNeg) v11 26 = m.2 0 26 := by
    rw [upd_at, if_neg (by omega)]
  unfold f_X9_steps_230
  rw [e8, k26, k27, k16, k4, k5, eo, ez, e2, e3, b26]
  have eB : upd (upd (m.2 0) (8 + v5.toNatClampNeg) v11) 26 (m.2 0 26 + 1) = stB m v5 v11 := rfl
  rw [eB]
  have s26 : stB m v5 v11 26 = m.2 0 26 + 1 := by unfold stB; rw [upd_at, if_pos rfl]
  have s4 : stB m v5 v11 4 = m.2 0 4 := by unfold stB; rw [upd_at, if_neg (by omega), upd_at, if_neg (by omega)]
  have s5 : stB m v5 v11 5 = m.2 0 5 := by unfold stB; rw [upd_at, if_neg (by omega), upd_at, if_neg (by omega)]
  have s16 : stB m v5 v11 16 = m.2 0 16 := by unfold stB; rw [upd_at, if_neg (by omega), upd_at, if_neg (by omega)]
  rw [s26, s4, s5, s16]
  have any : ∀ d, f_X9_anyFold (setA m 0 (upd (stB m v5 v11) 27 d)) = f_X9_anyFold m := by
    intro d
    refine any_cg (isCell_cg fun i hi => ?_) (fun c _ _ => rfl)
    show upd (stB m v5 v11) 27 d i = m.2 0 i
    unfold stB
    rw [upd_at, if_neg (by omega), upd_at, if_neg (by omega), upd_at, if_neg (by omega)]
  simp only [any, upd_u]
  have u27 : ∀ d, upd (stB m v5 v11) 27 d 27 = d := fun d => by rw [upd_at, if_pos rfl]
  simp only [u27]
  by_cases c1 : (m.2 0 26 + 1) - (m.2 0 26 + 1) / m.2 0 4 * m.2 0 4 = 0
  · rw [if_pos c1, if_pos c1]
    by_cases c2 : (m.2 0 26 + 1) / m.2 0 4 - (m.2 0 26 + 1) / m.2 0 4 / 2 * 2 = 1
    · rw [if_pos c2, if_pos c2]
      by_cases c3 : f_X9_anyFold m = 0
      · simp only [if_pos c3]
        split <;> rfl
      · simp only [if_neg c3]
        split <;> rfl
    · rw [if_neg c2, if_neg c2]
  · rw [if_neg c1, if_neg c1]
/-- all FOLDS undone -/
theorem lays0 {m : Rec} (h : m.2 0 16 = 0) : f_X9_lays m = f_X9_flat m := lays_N (nf := 0) h (by omega)
theorem pr_flatten {s p g : Rec} (h : PR s p g) : PR (f_X4_flatten s) p (f_X9_lays (setA g 0 (upd (g.2 0) 16 0))) := by
  have h16 : (setA g 0 (upd (g.2 0) 16 0)).2 0 16 = 0 := rfl
  rw [lays0 h16]
  obtain ⟨h1, h2, h3, ⟨h4, h5, h6⟩, ⟨h7, h8, h9, h10⟩, h11⟩ := h
  obtain ⟨t1, t2, t3⟩ := fl_all (setA g 0 (upd (g.2 0) 16 0))
  have hb : (f_X9_flat (setA g 0 (upd (g.2 0) 16 0))).2 0 = upd (g.2 0) 16 0 := t2 0 (by decide)
  have hu : ∀ i, i ≠ 16 → (f_X9_flat (setA g 0 (upd (g.2 0) 16 0))).2 0 i = g.2 0 i := fun i hi => by rw [hb, upd_at, if_neg hi]
  have hc : ∀ c, f_X9_isCell (f_X9_flat (setA g 0 (upd (g.2 0) 16 0))) c = f_X9_isCell g c := isCell_cg (fun i hi => hu i (by omega))
  have hc1 : ∀ c, f_X9_isCell (setA g 0 (upd (g.2 0) 16 0)) c = f_X9_isCell g c := isCell_cg (fun i hi => by show upd (g.2 0) 16 0 i = _; rw [upd_at, if_neg (by omega)])
  obtain ⟨a1, a2, a3, a4, a5, a6, a7⟩ := fn_all (s := s) (m := setA g 0 (upd (g.2 0) 16 0)) (fun c q0 q1 => by rw [hc1]; exact (h1 c q0 q1).1)
  refine ⟨a1, a2, ?_, ⟨?_, ?_, ?_⟩, ⟨?_, ?_, ?_, ?_⟩, ?_⟩
  · obtain ⟨m0, m8, m2, mm⟩ := h3
    refine ⟨m0, m8, ?_, fun v q0 q1 => ?_⟩
    · rw [← m2]; exact hu 2 (by omega)
    · have q8 := cl8 q0 (by grind)
      obtain ⟨e1, e2, e3, e4, c⟩ := mm v q0 q1
      have b100 : v < 100 := by grind
      rw [ix28 q0 b100] at e1 ⊢
      rw [ix29 q0 b100] at e2 ⊢
      rw [ix30 q0 b100] at e3 ⊢
      rw [ix8 q0 b100] at e4 ⊢
      rw [hu _ (by omega), hu _ (by omega), hu _ (by omega), hu _ (by omega), hc]
      exact ⟨e1, e2, e3, e4, c⟩
  · rw [a3, hu 0 (by omega)]; exact h4
  · rw [a4, hu 1 (by omega)]; exact h5
  · rw [a5, hb]; rfl
  · rw [hu 26 (by omega)]; exact h7
  · rw [hu 27 (by omega)]; exact h8
  · rw [hu 4 (by omega)]; exact h9
  · rw [hu 5 (by omega)]; exact h10
  · intro nf hn q i hi
    rw [hb, upd_at, if_pos rfl] at q
    have : nf = 0 ∨ nf = 1 ∨ nf = 2 ∨ nf = 3 := by omega
    rcases this with rfl | rfl | rfl | rfl
    · omega
    · exact absurd q (by decide)
    · exact absurd q (by decide)
    · exact absurd q (by decide)
theorem gi_flatten {K : Int32} {g : Rec} (h : GI K g) (hd : g.2 0 27 = 0) : GI K (f_X9_lays (setA g 0 (upd (g.2 0) 16 0))) := by
  have h16 : (setA g 0 (upd (g.2 0) 16 0)).2 0 16 = 0 := rfl
  rw [lays0 h16]
  obtain ⟨t1, t2, t3⟩ := fl_all (setA g 0 (upd (g.2 0) 16 0))
  have hb : (f_X9_flat (setA g 0 (upd (g.2 0) 16 0))).2 0 = upd (g.2 0) 16 0 := t2 0 (by decide)
  have hu : ∀ i, i ≠ 16 → (f_X9_flat (setA g 0 (upd (g.2 0) 16 0))).2 0 i = g.2 0 i := fun i hi => by rw [hb, upd_at, if_neg hi]
  have z16 : (f_X9_flat (setA g 0 (upd (g.2 0) 16 0))).2 0 16 = 0 := by rw [hb]; rfl
  obtain ⟨_, _, _, h26, h4, h5, _, hwh, hm, hdi⟩ := h
  refine ⟨⟨0, by omega, z16, fun k hk => by omega⟩, ?_, ?_, ?_, ?_, ?_, ?_, ?_, ?_, ?_⟩
  · intro c q0 q1
    rw [lays0 z16, t3 c q0 q1, (fl_all _).2.2 c q0 q1]
  · rw [hu 27 (by omega), z16, hd]; decide
  · rw [hu 26 (by omega)]; exact h26
  · rw [hu 4 (by omega)]; exact h4
  · rw [hu 5 (by omega)]; exact h5
  · rw [hu 27 (by omega)]; exact fun q => absurd hd q
  · rw [hu 0 (by omega), hu 1 (by omega)]; exact hwh
  · intro i q1 q2
    rw [hu 2 (by omega)] at q1
    rw [hu _ (by omega), hu _ (by omega), hu _ (by omega)]
    exact hm i q1 q2
  · intro i j q1 q2 q3 q4
    rw [hu 2 (by omega)] at q1
    rw [hu _ (by omega)] at q4 ⊢
    rw [hu _ (by omega)] at q4
    exact hdi i j q1 q2 q3 q4
/-- what else stays -/
def Frm (g g' : Rec) : Prop := (∀ k, k ≠ 8 → g'.1 k = g.1 k) ∧ (∀ j, j ≠ 0 → j ≠ 4 → j ≠ 5 → j ≠ 6 → j ≠ 7 → g'.2 j = g.2 j) ∧ (∀ i, i < 8 ∨ 28 ≤ i → g'.2 0 i = g.2 0 i)
theorem odd_even {a : Int32} (h : 0 ≤ a) : a - a / 2 * 2 = 1 ↔ ¬ a - a / 2 * 2 = 0 := by
  have ha := n32_0.mp h
  have hb := n32_lt a
  have e2 : (2 : Int32).toInt = 2 := rfl
  have q1 : (a / 2).toInt = a.toInt / 2 := by
    rw [n32_div ha (by rw [e2]; omega), e2]
  have r1 : (a / 2 * 2).toInt = a.toInt / 2 * 2 := by
    rw [n32_mul] <;> rw [q1, e2] <;> omega
  have s1 : (a - a / 2 * 2).toInt = a.toInt - a.toInt / 2 * 2 := by
    rw [n32_sub] <;> rw [r1] <;> omega
  have z1 : a - a / 2 * 2 = 1 ↔ (a - a / 2 * 2).toInt = 1 := by
    rw [← Int32.toInt_inj]; rfl
  have z0 : a - a / 2 * 2 = 0 ↔ (a - a / 2 * 2).toInt = 0 := by
    rw [← Int32.toInt_inj]; rfl
  rw [z1, z0, s1]
  omega
theorem div_0 {a b : Int32} (ha : 0 ≤ a) (hb : 0 < b) : 0 ≤ a / b := by
  rw [n32_0]
  have h1 := n32_0.mp ha
  have h2 : 0 < b.toInt := Int32.lt_iff_toInt_lt.mp hb
  rw [n32_div h1 h2]
  exact Int.ediv_nonneg h1 (by omega)
theorem step_sim {K : Int32} {s p g : Rec} {x y w d : Int32} (hP : PR s p g) (hG : GI K g) (hK : K < 1000000) (hL : Leg g x y w d) (w0 : 0 ≤ w) (w3 : w ≤ 3) (hd : d = 1 ∨ d = 2) :
    ¬ f_X3_goalOf s p x y w d = -1 ∧ (f_X9_steps g x y w d).1 = 1 ∧ p_X9_steps_195 g (f_X9_rulerAt g x y) (f_X9_rulerAt g (x + d * f_X9_wayX w) (y + d * f_X9_wayY w)) (f_X9_topAt g (x + d * f_X9_wayX w) (y + d * f_X9_wayY w)) ∧ p_X3_carry s p (f_X9_rulerAt g x y) (f_X3_goalOf s p x y w d) ∧
    (f_X3_carry s p (f_X9_rulerAt g x y) (f_X3_goalOf s p x y w d)).1 = (f_X9_steps g x y w d).2.1 8 ∧
    PR (f_X3_carry s p (f_X9_rulerAt g x y) (f_X3_goalOf s p x y w d)).2.1 (f_X3_carry s p (f_X9_rulerAt g x y) (f_X3_goalOf s p x y w d)).2.2 (f_X9_steps g x y w d).2 ∧ GI (K + 1) (f_X9_steps g x y w d).2 ∧ Frm g (f_X9_steps g x y w d).2 := by
  have hg := (goal_leg hP (x := x) (y := y) w0 w3 hd).2.1 hL
  have hst := (steps_leg g x y w d).1 hL
  have hP' := hP
  obtain ⟨hs, he, hM, ⟨h0, h1, h2⟩, ⟨h6, h7, h8, h9⟩, h11⟩ := hP
  obtain ⟨l1, l2, l3, l4, l5, l6⟩ := hL
  obtain ⟨r0, r1, r2, r3⟩ := ru_some hM l2
  have n8 := hM.2.1
  have r8 : f_X9_rulerAt g x y < 8 := by grind
  have q8 := cl8 r0 r8
  generalize hr : f_X9_rulerAt g x y = r at *
  generalize ho : f_X9_rulerAt g (x + d * f_X9_wayX w) (y + d * f_X9_wayY w) = o at *
  generalize ht : f_X9_topAt g (x + d * f_X9_wayX w) (y + d * f_X9_wayY w) = t at *
  have hto : 0 ≤ t ∧ t < 36 ∧ ¬ f_X9_isAt g t (x + d * f_X9_wayX w) (y + d * f_X9_wayY w) = 0 := by
    have := to_some (g := g) (x := x + d * f_X9_wayX w) (y := y + d * f_X9_wayY w) (by rw [ht]; exact l5)
    rw [ht] at this
    exact ⟨this.1, this.2.1, this.2.2.1⟩
  have hoo : ¬ o = -1 → 0 ≤ o ∧ o < p.1 5 ∧ AtM g (x + d * f_X9_wayX w) (y + d * f_X9_wayY w) o := by
    intro q
    have := ru_some hM (x := x + d * f_X9_wayX w) (y := y + d * f_X9_wayY w) (by rw [ho]; exact q)
    rw [ho] at this
    exact ⟨this.1, this.2.1, this.2.2.1⟩
  -- the goal and who stands there
  obtain ⟨go, hgo⟩ : ∃ go, go = f_X3_goalOf s p x y w d := ⟨_, rfl⟩
  rw [← hgo] at hg ⊢
  have gcell : ¬ f_X9_isCell g go = 0 := by
    by_cases q : o = -1
    · rw [hg, if_pos q]
      exact (isAt_n.mp hto.2.2).1
    · obtain ⟨o0, o1, o2⟩ := hoo q
      rw [hg, if_neg q]
      exact (mn_here_in hM o2.1).2.2
  have gin := isCell_in gcell
  have gman : f_X3_manOn s p go = o := by
    by_cases q : o = -1
    · rw [q]
      rw [hg, if_pos q]
      rcases (mo_all s hM t).2 with ⟨a, b⟩ | ⟨a, b⟩
      · exact a
      · exfalso
        refine ru_none hM (x := x + d * f_X9_wayX w) (y := y + d * f_X9_wayY w) (by rw [ho]; exact q) (f_X3_manOn s p t) ⟨a, ?_⟩
        obtain ⟨b0, b1, b2⟩ := mn_here_in hM a
        have e4 := (hM.2.2.2 _ b0 b1).2.2.2.1
        show ¬ f_X9_isAt g (g.2 0 _) _ _ = 0
        rw [e4, b]
        exact hto.2.2
    · obtain ⟨o0, o1, o2⟩ := hoo q
      rw [hg, if_neg q]
      exact mo_is s hG hM o2.1
  have ghas : ¬ f_X4_has s go = 0 := by rw [sg_has hs]; exact gcell
  have gnn : ¬ go = -1 := by grind
  have rin : ¬ f_X3_isIn s p r = 0 := by rw [mn_here s hM]; exact r2.1
  -- the book's numbers
  obtain ⟨⟨nf, hn, h16, hl⟩, hcur, ⟨d1, d2⟩, ⟨k1, k2⟩, ⟨ev1, ev2⟩, ⟨ti1, ti2⟩, hany, hwh, hmen, hdis⟩ := hG
  have hG' : GI K g := ⟨⟨nf, hn, h16, hl⟩, hcur, ⟨d1, d2⟩, ⟨k1, k2⟩, ⟨ev1, ev2⟩, ⟨ti1, ti2⟩, hany, hwh, hmen, hdis⟩
  have due0 : g.2 0 27 = 0 := by grind
  have nf3 := nf_in hn h16
  -- the reference's new book
  obtain ⟨m1, hm1⟩ : ∃ m1 : Rec, m1 = (if o = -1 then setG g 8 o else setA (setG g 8 o) 0 (upd (g.2 0) (8 + o.toNatClampNeg) (-1))) := ⟨_, rfl⟩
  have m1b : ∀ i, (i < 8 ∨ 16 ≤ i) → m1.2 0 i = g.2 0 i := by
    intro i hi
    rw [hm1]
    by_cases q : o = -1
    · rw [if_pos q]; rfl
    · rw [if_neg q]
      obtain ⟨o0, o1, o2⟩ := hoo q
      have := cl8 o0 (by grind)
      show upd (g.2 0) (8 + o.toNatClampNeg) (-1) i = _
      rw [upd_at, if_neg (by omega)]
  have m1r : ∀ j, j ≠ 0 → m1.2 j = g.2 j := by
    intro j hj
    rw [hm1]
    split
    · rfl
    · show (if j = 0 then _ else g.2 j) = _
      rw [if_neg hj]
  have m11 : ∀ k, k ≠ 8 → m1.1 k = g.1 k := by
    intro k hk
    rw [hm1]
    split
    · show (if k = 8 then _ else g.1 k) = _
      rw [if_neg hk]
    · show (if k = 8 then _ else g.1 k) = _
      rw [if_neg hk]
  have m18 : m1.1 8 = o := by
    rw [hm1]
    split <;> rfl
  have m1w : ∀ i, i < 8 → m1.2 0 (8 + i) = if ¬ o = -1 ∧ i = o.toNatClampNeg then -1 else g.2 0 (8 + i) := by
    intro i hi
    rw [hm1]
    by_cases q : o = -1
    · rw [if_pos q, if_neg (fun z => z.1 q)]; rfl
    · rw [if_neg q]
      show upd (g.2 0) (8 + o.toNatClampNeg) (-1) (8 + i) = _
      rw [upd_at]
      by_cases z : i = o.toNatClampNeg
      · rw [if_pos (by omega), if_pos ⟨q, z⟩]
      · rw [if_neg (by omega), if_neg (fun k => z k.2)]
  have hstep : f_X9_steps g x y w d = f_X9_steps_230 m1 r go := by
    rw [hst]
    unfold f_X9_steps_195
    rw [hm1]
    by_cases q : o = -1
    · rw [if_pos (show o = Int32.ofInt (-1) from q), if_pos q, hg, if_pos q]
    · obtain ⟨o0, o1, o2⟩ := hoo q
      rw [if_neg (show ¬ o = Int32.ofInt (-1) from q), if_neg q, hg, if_neg q, (hM.2.2.2 o o0 o1).2.2.2.1, ix8 o0 (by grind)]
      rfl
  have p195 : p_X9_steps_195 g r o t := by
    unfold p_X9_steps_195
    refine ⟨fun q => p230 r0 r8 (by show ¬ g.2 0 4 = 0; grind), fun q => ?_⟩
    obtain ⟨o0, o1, o2⟩ := hoo q
    have := cl8 o0 (by grind)
    have v248 := vinb (n := 248) (x := Int32.ofInt 8 + o) (by grind) (by grind)
    refine ⟨v248, v248, p230 r0 r8 ?_⟩
    show ¬ upd (g.2 0) (Int32.toNatClampNeg (Int32.ofInt 8 + o)) (Int32.ofInt (-1)) 4 = 0
    rw [ix8 o0 (by grind), upd_at, if_neg (by omega)]
    grind
  -- the class's new rows of squares
  obtain ⟨p1, hp1⟩ : ∃ p1 : Rec, p1 = setA (setG p 6 (p.1 6 + 1)) 4 (upd (if o = -1 then p.2 4 else upd (p.2 4) o.toNatClampNeg (-1)) r.toNatClampNeg go) := ⟨_, rfl⟩
  have ev0 : ¬ p.1 8 ≤ 0 := by rw [h8]; grind
  have hcar : f_X3_carry s p r go = if (p.1 6 + 1) - (p.1 6 + 1) / p.1 8 * p.1 8 = 0 then (if (p.1 6 + 1) / p.1 8 - (p.1 6 + 1) / p.1 8 / 2 * 2 = 0 then (o, f_X4_flatten s, p1) else (o, s, f_X3_makeDue s p1 (p.1 9))) else (o, s, p1) := by
    unfold f_X3_carry
    rw [if_neg rin, if_neg ghas, gman, hp1]
    by_cases q : o = -1
    · rw [if_pos (show o = Int32.ofInt (-1) from q), if_neg ev0, if_pos q]
      rfl
    · rw [if_neg (show ¬ o = Int32.ofInt (-1) from q), if_neg ev0, if_neg q]
      rfl
  have pcar : p_X3_carry s p r go := by
    have v8 := vinb (n := 8) r0 r8
    have e0 : ¬ p.1 8 = 0 := by rw [h8]; grind
    have pf := pp_flatten s
    have tail : ((p.1 8) ≤ 0 → True) ∧ (¬ ((p.1 8) ≤ 0) → ((¬ (p.1 8) = 0) ∧ (((((p.1 6) + Int32.ofInt 1) - ((p.1 6) + Int32.ofInt 1) / (p.1 8) * (p.1 8)) = 0 → ((¬ (p.1 8) = 0) ∧ ((((((p.1 6) + Int32.ofInt 1) / (p.1 8)) - (((p.1 6) + Int32.ofInt 1) / (p.1 8)) / Int32.ofInt 2 * Int32.ofInt 2) = 0 → ((p_X4_flatten s) ∧ True)) ∧ (¬ (((((p.1 6) + Int32.ofInt 1) / (p.1 8)) - (((p.1 6) + Int32.ofInt 1) / (p.1 8)) / Int32.ofInt 2 * Int32.ofInt 2) = 0) → True)))) ∧ (¬ ((((p.1 6) + Int32.ofInt 1) - ((p.1 6) + Int32.ofInt 1) / (p.1 8) * (p.1 8)) = 0) → True)))) :=
      ⟨fun _ => trivial, fun _ => ⟨e0, fun _ => ⟨e0, fun _ => ⟨pf, trivial⟩, fun _ => trivial⟩, fun _ => trivial⟩⟩
    refine ⟨pl_isIn s n8 r, fun q => absurd q rin, fun _ => ⟨pl_has s go, fun q => absurd q ghas, fun _ => ⟨(mo_all s hM go).1, fun _ => ⟨v8, tail⟩, fun q => ⟨?_, v8, tail⟩⟩⟩⟩
    rw [gman] at q ⊢
    obtain ⟨o0, o1, o2⟩ := hoo q
    exact vinb (n := 8) o0 (by grind)
  have oeq : ∀ v : Int32, 0 ≤ v → (¬ o = -1 ∧ v.toNatClampNeg = o.toNatClampNeg ↔ ¬ o = -1 ∧ v = o) := by
    intro v hv
    constructor
    · intro z
      exact ⟨z.1, cl_inj hv (hoo z.1).1 z.2⟩
    · intro z
      exact ⟨z.1, by rw [z.2]⟩
  have p1w : ∀ v : Int32, 0 ≤ v → v < p.1 5 → p1.2 4 v.toNatClampNeg = if v = r then go else if ¬ o = -1 ∧ v = o then -1 else p.2 4 v.toNatClampNeg := by
    intro v q0 q1
    rw [hp1]
    show upd (if o = -1 then p.2 4 else upd (p.2 4) o.toNatClampNeg (-1)) r.toNatClampNeg go v.toNatClampNeg = _
    rw [upd_at]
    by_cases z : v = r
    · rw [if_pos (by rw [z]), if_pos z]
    · rw [if_neg (fun k => z (cl_inj q0 r0 k)), if_neg z]
      by_cases q : o = -1
      · rw [if_pos q, if_neg (fun k => k.1 q)]
      · rw [if_neg q, upd_at]
        by_cases z2 : v = o
        · rw [if_pos (by rw [z2]), if_pos ⟨q, z2⟩]
        · rw [if_neg (fun k => z2 (cl_inj q0 (hoo q).1 k)), if_neg (fun k => z2 k.2)]
  have gb : ∀ i, i < 8 → stB m1 r go (8 + i) = if i = r.toNatClampNeg then go else if ¬ o = -1 ∧ i = o.toNatClampNeg then -1 else g.2 0 (8 + i) := by
    intro i hi
    unfold stB
    rw [upd_at, if_neg (by omega), upd_at]
    by_cases z : i = r.toNatClampNeg
    · rw [if_pos (by omega), if_pos z]
    · rw [if_neg (by omega), if_neg z, m1w i hi]
  have go_ : ∀ i, (i < 8 ∨ 16 ≤ i) → i ≠ 26 → stB m1 r go i = g.2 0 i := by
    intro i hi h26
    unfold stB
    rw [upd_at, if_neg h26, upd_at, if_neg (by omega), m1b i hi]
  have g26 : stB m1 r go 26 = g.2 0 26 + 1 := by
    unfold stB
    rw [upd_at, if_pos rfl, m1b 26 (by omega)]
  have hrow : ∀ B : Nat → Int32, ∀ c : Int32, 0 ≤ c → c < 36 → rowM (setA m1 0 B) c.toNatClampNeg = rowM g c.toNatClampNeg := by
    intro B c _ _
    unfold rowM
    show (m1.2 4 _, m1.2 5 _, m1.2 6 _, m1.2 7 _) = _
    rw [m1r 4 (by decide), m1r 5 (by decide), m1r 6 (by decide), m1r 7 (by decide)]
  have hdist : ∀ i j : Nat, Int32.ofNat i < g.2 0 2 → i < 8 → j < i → stB m1 r go (8 + j) = stB m1 r go (8 + i) → stB m1 r go (8 + i) = -1 := by
    intro i j q1 q2 q3 q4
    rw [gb i q2] at q4 ⊢
    rw [gb j (by omega)] at q4
    have key : ∀ k : Nat, Int32.ofNat k < g.2 0 2 → k < 8 → ¬ k = r.toNatClampNeg → (¬ o = -1 ∧ k = o.toNatClampNeg) ∨ ¬ g.2 0 (8 + k) = go := by
      intro k z1 z2 z3
      by_cases z4 : g.2 0 (8 + k) = go
      · left
        have kv : (Int32.ofNat k).toNatClampNeg = k := cl_nI (by omega)
        have k0 : 0 ≤ Int32.ofNat k := by
          rw [n32_0, Int32.toInt_ofNat_of_lt (by omega)]; omega
        have n2' : g.2 0 2 = p.1 5 := hM.2.2.1
        rw [n2'] at z1
        have e4 := (hM.2.2.2 _ k0 z1).2.2.2.1
        rw [ix8 k0 (by grind), kv, z4] at e4
        have hh : ¬ f_X9_isHere g (Int32.ofNat k) = 0 := by
          rw [mn_here_n hM k0 z1, kv, ← e4]
          exact gnn
        have := mo_is s hG' hM hh
        rw [kv, ← e4, gman] at this
        refine ⟨by grind, ?_⟩
        rw [this, kv]
      · exact Or.inr z4
    by_cases zi : i = r.toNatClampNeg
    · rw [if_pos zi] at q4 ⊢
      rw [if_neg (by omega)] at q4
      exfalso
      have qj : Int32.ofNat j < g.2 0 2 := by
        have : Int32.ofNat j < Int32.ofNat i := nI_lt q3 (by omega)
        grind
      rcases key j qj (by omega) (by omega) with z | z
      · rw [if_pos z] at q4
        exact gnn q4.symm
      · by_cases zz : ¬ o = -1 ∧ j = o.toNatClampNeg
        · rw [if_pos zz] at q4
          exact gnn q4.symm
        · rw [if_neg zz] at q4
          exact z q4
    · rw [if_neg zi] at q4 ⊢
      by_cases zo : ¬ o = -1 ∧ i = o.toNatClampNeg
      · rw [if_pos zo]
      · rw [if_neg zo] at q4 ⊢
        by_cases zj : j = r.toNatClampNeg
        · rw [if_pos zj] at q4
          rcases key i q1 q2 zi with z | z
          · exact absurd z zo
          · exact absurd q4.symm z
        · rw [if_neg zj] at q4
          by_cases zo2 : ¬ o = -1 ∧ j = o.toNatClampNeg
          · rw [if_pos zo2] at q4
            exact q4.symm
          · rw [if_neg zo2] at q4
            exact hdis i j q1 q2 q3 q4
  have base : ∀ (B : Nat → Int32) (pp : Rec), (∀ i, i ≠ 27 → B i = stB m1 r go i) → (pp.2 = p1.2) → (∀ k, k ≠ 7 → pp.1 k = p1.1 k) → pp.1 7 = B 27 → PR s pp (setA m1 0 B) := by
    intro B pp hB hp2 hpk hp7
    refine pr_move hP' (hrow B) ?_ ?_ ?_ ?_ ?_ ?_ ?_ ?_ hp7 ?_
    · intro i hi
      show B i = _
      rw [hB i (by omega), go_ i (by omega) (by omega)]
    · rw [hpk 5 (by decide), hp1]; rfl
    · rw [hpk 8 (by decide), hp1]; rfl
    · rw [hpk 9 (by decide), hp1]; rfl
    · rw [hp2, hp1]; rfl
    · rw [hp2, hp1]; rfl
    · rw [hp2, hp1]; rfl
    · rw [hpk 6 (by decide), hp1]
      show p.1 6 + 1 = B 26
      rw [hB 26 (by decide), g26, h6]
    · intro v q0 q1
      have vv := cl8 q0 (by grind)
      show B (8 + v.toNatClampNeg) = pp.2 4 v.toNatClampNeg ∧ _
      rw [hB _ (by omega), gb _ vv, hp2, p1w v q0 q1]
      have e4 := (hM.2.2.2 v q0 q1).2.2.2.1
      rw [ix8 q0 (by grind)] at e4
      have er : v.toNatClampNeg = r.toNatClampNeg ↔ v = r := ⟨fun z => cl_inj q0 r0 z, fun z => by rw [z]⟩
      by_cases z : v = r
      · rw [if_pos (er.mpr z), if_pos z]
        exact ⟨rfl, Or.inr gcell⟩
      · rw [if_neg (mt er.mp z), if_neg z]
        by_cases z2 : ¬ o = -1 ∧ v = o
        · rw [if_pos ((oeq v q0).mpr z2), if_pos z2]
          exact ⟨rfl, Or.inl rfl⟩
        · rw [if_neg (mt (oeq v q0).mp z2), if_neg z2, e4]
          exact ⟨rfl, (hM.2.2.2 v q0 q1).2.2.2.2⟩
  have basG : ∀ (B : Nat → Int32), (∀ i, i ≠ 27 → B i = stB m1 r go i) → 0 ≤ B 27 → B 27 ≤ 3 - g.2 0 16 → (¬ B 27 = 0 → ¬ f_X9_anyFold g = 0) → GI (K + 1) (setA m1 0 B) := by
    intro B hB b0 b3 bany
    refine gi_move hG' (hrow B) ?_ ?_ ?_ bany ?_
    · intro i hi
      show B i = _
      rw [hB i (by omega), go_ i (by omega) (by omega)]
    · show 0 ≤ B 27 ∧ B 27 ≤ 3 - B 16
      rw [hB 16 (by decide), go_ 16 (by omega) (by decide)]
      exact ⟨b0, b3⟩
    · show 0 ≤ B 26 ∧ B 26 ≤ K + 1
      rw [hB 26 (by decide), g26]
      grind
    · intro i j q1 q2 q3 q4
      show B (8 + i) = -1
      have q4' : B (8 + j) = B (8 + i) := q4
      rw [hB _ (by omega), hB _ (by omega)] at q4'
      rw [hB _ (by omega)]
      exact hdist i j q1 q2 q3 q4'
  have m26 : m1.2 0 26 = p.1 6 := by rw [m1b 26 (by omega), h6]
  have m4 : m1.2 0 4 = p.1 8 := by rw [m1b 4 (by omega), h8]
  have m5 : m1.2 0 5 = p.1 9 := by rw [m1b 5 (by omega), h9]
  have m16 : m1.2 0 16 = s.1 2 := by rw [m1b 16 (by omega), h2]
  have many : f_X9_anyFold m1 = f_X9_anyFold g := by
    refine any_cg (isCell_cg fun i hi => m1b i (by omega)) (fun c _ _ => ?_)
    unfold rowM
    rw [m1r 4 (by decide), m1r 5 (by decide), m1r 6 (by decide), m1r 7 (by decide)]
  obtain ⟨nf', hn', h16', hgeo, hinj⟩ := gi_geo hG'
  obtain ⟨B1, B2, B3, B4⟩ := bk_b (n := nf') (by omega)
  have hch := any_eq he hgeo B1 B2
  have sodd := odd_even (a := (p.1 6 + 1) / p.1 8) (div_0 (by rw [h6]; grind) (by rw [h8]; grind))
  rw [hstep, s230 r0 r8, hcar, m26, m4, m5, m16, many]
  refine ⟨gnn, ?_, p195, pcar, ?_⟩
  · split
    · split <;> rfl
    · rfl
  · have frm0 : ∀ B : Nat → Int32, (∀ i, (i < 8 ∨ 28 ≤ i) → B i = g.2 0 i) → Frm g (setA m1 0 B) := by
      intro B hB
      refine ⟨fun k hk => m11 k hk, fun j j0 j4 j5 j6 j7 => ?_, fun i hi => hB i hi⟩
      show (if j = 0 then B else m1.2 j) = _
      rw [if_neg j0, m1r j j0]
    by_cases c1 : (p.1 6 + 1) - (p.1 6 + 1) / p.1 8 * p.1 8 = 0
    · rw [if_pos c1, if_pos c1]
      by_cases c2 : (p.1 6 + 1) / p.1 8 - (p.1 6 + 1) / p.1 8 / 2 * 2 = 0
      · rw [if_pos c2, if_neg (fun z => (sodd.mp z) c2)]
        have hA : PR s p1 (setA m1 0 (stB m1 r go)) := base _ _ (fun _ _ => rfl) rfl (fun _ _ => rfl) (by rw [hp1]; show p.1 7 = _; rw [go_ 27 (by omega) (by decide), h7])
        have hB : GI (K + 1) (setA m1 0 (stB m1 r go)) := basG _ (fun _ _ => rfl) (by rw [go_ 27 (by omega) (by decide)]; exact d1) (by rw [go_ 27 (by omega) (by decide)]; exact d2) (by rw [go_ 27 (by omega) (by decide)]; exact hany)
        have e : setA m1 0 (upd (stB m1 r go) 16 0) = setA (setA m1 0 (stB m1 r go)) 0 (upd ((setA m1 0 (stB m1 r go)).2 0) 16 0) := by
          unfold setA
          refine Prod.ext rfl ?_
          funext j
          show (if j = 0 then _ else _) = (if j = 0 then _ else if j = 0 then _ else _)
          split <;> rfl
        rw [e]
        have z27 : (setA m1 0 (stB m1 r go)).2 0 27 = 0 := by
          show stB m1 r go 27 = 0
          rw [go_ 27 (by omega) (by decide)]; exact due0
        dsimp only
        refine ⟨?_, pr_flatten hA, gi_flatten hB z27, ?_⟩
        · have h160 : (setA (setA m1 0 (stB m1 r go)) 0 (upd ((setA m1 0 (stB m1 r go)).2 0) 16 0)).2 0 16 = 0 := rfl
          rw [lays0 h160, (fl_all _).1]
          exact m18.symm
        · have h160 : (setA (setA m1 0 (stB m1 r go)) 0 (upd ((setA m1 0 (stB m1 r go)).2 0) 16 0)).2 0 16 = 0 := rfl
          rw [lays0 h160]
          obtain ⟨t1, t2, t3⟩ := fl_all (setA (setA m1 0 (stB m1 r go)) 0 (upd ((setA m1 0 (stB m1 r go)).2 0) 16 0))
          refine ⟨fun k hk => ?_, fun j j0 j4 j5 j6 j7 => ?_, fun i hi => ?_⟩
          · rw [t1]; exact m11 k hk
          · rw [t2 j ⟨j4, j5, j6, j7⟩]
            show (if j = 0 then _ else if j = 0 then _ else m1.2 j) = _
            rw [if_neg j0, if_neg j0, m1r j j0]
          · rw [t2 0 (by decide)]
            show upd (stB m1 r go) 16 0 i = _
            rw [upd_at, if_neg (by omega), go_ i (by omega) (by omega)]
      · rw [if_neg c2, if_pos (sodd.mpr c2)]
        have dv : (f_X3_makeDue s p1 (p.1 9)).1 7 = (if f_X9_anyFold g = 0 then 0 else if 3 - s.1 2 ≤ p.1 9 then 3 - s.1 2 else p.1 9) := by
          unfold f_X3_makeDue
          by_cases z : f_X9_anyFold g = 0
          · rw [if_pos (hch.mpr z), if_pos z]
            split
            · rfl
            · exfalso
              rename_i zz
              apply zz
              rw [h9]
              show (0 : Int32) ≤ _
              grind
          · rw [if_neg (mt hch.mp z), if_neg z]
            show (if (3 : Int32) - s.1 2 ≤ p.1 9 then _ else _ : Rec).1 7 = _
            split <;> rfl
        have dk : ∀ k, k ≠ 7 → (f_X3_makeDue s p1 (p.1 9)).1 k = p1.1 k := by
          intro k hk
          unfold f_X3_makeDue
          repeat' split
          all_goals
            show (if k = 7 then _ else p1.1 k) = _
            rw [if_neg hk]
        have d2' : (f_X3_makeDue s p1 (p.1 9)).2 = p1.2 := by
          unfold f_X3_makeDue
          repeat' split
          all_goals rfl
        have u27 : ∀ (D : Int32), upd (stB m1 r go) 27 D 27 = D := fun D => by rw [upd_at, if_pos rfl]
        have uo : ∀ (D : Int32) i, i ≠ 27 → upd (stB m1 r go) 27 D i = stB m1 r go i := fun D i hi => by rw [upd_at, if_neg hi]
        refine ⟨m18.symm, base _ _ (uo _) d2' dk (by rw [dv, u27]), basG _ (uo _) ?_ ?_ ?_, frm0 _ fun i hi => ?_⟩
        · rw [u27]
          split
          · decide
          · split
            · rw [h2]; grind
            · rw [h9]; grind
        · rw [u27]
          split
          · grind
          · split
            · rw [h2]; grind
            · rename_i zz
              rw [h9, h2] at *
              grind
        · rw [u27]
          intro z q
          rw [if_pos q] at z
          exact z rfl
        · rw [uo _ i (by omega), go_ i (by omega) (by omega)]
    · rw [if_neg c1, if_neg c1]
      refine ⟨m18.symm, base _ _ (fun _ _ => rfl) rfl (fun _ _ => rfl) (by rw [hp1]; show p.1 7 = _; rw [go_ 27 (by omega) (by decide), h7]), basG _ (fun _ _ => rfl) (by rw [go_ 27 (by omega) (by decide)]; exact d1) (by rw [go_ 27 (by omega) (by decide)]; exact d2) (by rw [go_ 27 (by omega) (by decide)]; exact hany), frm0 _ fun i hi => go_ i (by omega) (by omega)⟩
