/-! layer 3: what a STEP does to the counts; who is sure to win; how wide it lies -/
theorem turn_01 {K : Int32} {g : Rec} (hG : GI K g) : f_X9_turn g = 0 ∨ f_X9_turn g = 1 := by
  obtain ⟨_, _, _, ⟨d1, _⟩, _⟩ := hG
  have h := n32_0.mp d1
  have e2 : (2 : Int32).toInt = 2 := by decide
  have b := n32_lt (g.2 0 26)
  have a1 := n32_div (x := g.2 0 26) (y := 2) h (by rw [e2]; omega)
  rw [e2] at a1
  have a2 := n32_mul (x := g.2 0 26 / 2) (y := 2) (by rw [a1, e2]; omega) (by rw [a1, e2]; omega)
  rw [a1, e2] at a2
  have a3 := n32_sub (x := g.2 0 26) (y := g.2 0 26 / 2 * 2) (by rw [a2]; omega) (by rw [a2]; omega)
  rw [a2] at a3
  have a3' : (f_X9_turn g).toInt = (g.2 0 26).toInt - (g.2 0 26).toInt / 2 * 2 := a3
  have z0 : (0 : Int32).toInt = 0 := by decide
  have z1 : (1 : Int32).toInt = 1 := by decide
  by_cases c : (g.2 0 26).toInt - (g.2 0 26).toInt / 2 * 2 = 0
  · exact Or.inl (Int32.toInt_inj.mp (by rw [a3', z0]; exact c))
  · exact Or.inr (Int32.toInt_inj.mp (by rw [a3', z1]; omega))
theorem turn_nx {K : Int32} {g g' : Rec} (hG : GI K g) (hK : K < 1000000) (e : g'.2 0 26 = g.2 0 26 + 1) : f_X9_turn g' = 1 - f_X9_turn g := by
  obtain ⟨_, _, _, ⟨d1, d2⟩, _⟩ := hG
  have h := n32_0.mp d1
  have h2 := Int32.le_iff_toInt_le.mp d2
  have h3 := Int32.lt_iff_toInt_lt.mp hK
  have em : (1000000 : Int32).toInt = 1000000 := by decide
  have e2 : (2 : Int32).toInt = 2 := by decide
  have e1 : (1 : Int32).toInt = 1 := by decide
  have tv : ∀ x : Int32, 0 ≤ x.toInt → (x - x / 2 * 2).toInt = x.toInt - x.toInt / 2 * 2 := by
    intro x hx
    have b := n32_lt x
    have a1 := n32_div (x := x) (y := 2) hx (by rw [e2]; omega)
    rw [e2] at a1
    have a2 := n32_mul (x := x / 2) (y := 2) (by rw [a1, e2]; omega) (by rw [a1, e2]; omega)
    rw [a1, e2] at a2
    have a3 := n32_sub (x := x) (y := x / 2 * 2) (by rw [a2]; omega) (by rw [a2]; omega)
    rw [a2] at a3
    exact a3
  have s := n32_add (x := g.2 0 26) (y := 1) (by rw [e1]; omega) (by rw [e1]; omega)
  rw [e1] at s
  have t1 : (f_X9_turn g).toInt = (g.2 0 26).toInt - (g.2 0 26).toInt / 2 * 2 := tv (g.2 0 26) h
  have t2 : (f_X9_turn g').toInt = (g.2 0 26 + 1).toInt - (g.2 0 26 + 1).toInt / 2 * 2 := by
    have : f_X9_turn g' = (g.2 0 26 + 1) - (g.2 0 26 + 1) / 2 * 2 := by
      show g'.2 0 26 - g'.2 0 26 / 2 * 2 = _
      rw [e]
    rw [this]
    exact tv (g.2 0 26 + 1) (by rw [s]; omega)
  have t3 := n32_sub (x := 1) (y := f_X9_turn g) (by rw [e1, t1]; omega) (by rw [e1, t1]; omega)
  apply Int32.toInt_inj.mp
  rw [t3, t2, t1, e1, s]
  omega
theorem cm_cg {g g' : Rec} (h2 : g'.2 0 2 = g.2 0 2) (hw : ∀ i, i < 8 → (g'.2 0 (8 + i) = -1 ↔ g.2 0 (8 + i) = -1)) (ho : ∀ i, i < 8 → g'.2 0 (29 + 3 * i) = g.2 0 (29 + 3 * i)) (o : Int32) : cm g' o = cm g o := by
  unfold cm
  refine fb_ct_cong fun i hi => ?_
  unfold hm
  rw [h2, ho i hi]
  congr 2
  exact decide_eq_decide.mpr (not_congr (hw i hi))
theorem cm_set {K : Int32} {s p g : Rec} {x y w d : Int32} (hP : PR s p g) (hG : GI K g) (hK : K < 1000000) (hL : Leg g x y w d) (w0 : 0 ≤ w) (w3 : w ≤ 3) (hd : d = 1 ∨ d = 2) : 0 < cm g (f_X9_turn g) ∧ ((∀ o, cm (f_X9_steps g x y w d).2 o = cm g o) ∨ ∃ q, ¬ q = f_X9_turn g ∧ cm (f_X9_steps g x y w d).2 q + 1 = cm g q ∧ ∀ o, ¬ o = q → cm (f_X9_steps g x y w d).2 o = cm g o) := by
  obtain ⟨r, t, r8, er, r2, rc, ro, tn, _, h⟩ := sb_all hP hG hL
  obtain ⟨_, _, _, _, _, _, _, fr⟩ := step_sim hP hG hK hL w0 w3 hd
  have e2 : (f_X9_steps g x y w d).2.2 0 2 = g.2 0 2 := fr.2.2 2 (by omega)
  have eo : ∀ i, i < 8 → (f_X9_steps g x y w d).2.2 0 (29 + 3 * i) = g.2 0 (29 + 3 * i) := fun i _ => fr.2.2 _ (by omega)
  refine ⟨?_, ?_⟩
  · have u := fb_ct_upd (hm g (f_X9_turn g)) false (i := r) (n := 8) r8
    have hr : hm g (f_X9_turn g) r = true := by
      unfold hm
      rw [decide_eq_true r2, decide_eq_true rc, decide_eq_true ro]
      rfl
    rw [if_pos hr] at u
    have u' : fb_ct (fun k => if k = r then false else hm g (f_X9_turn g) k) 8 + 1 = fb_ct (hm g (f_X9_turn g)) 8 + 0 := u
    unfold cm
    omega
  · rcases h with h | ⟨q, q8, qr, q2, qc, qo, h⟩
    · refine Or.inl (cm_cg e2 (fun i hi => ?_) eo)
      rw [h i hi]
      by_cases z : i = r
      · rw [if_pos z, z]
        exact ⟨fun y => absurd y tn, fun y => absurd y rc⟩
      · rw [if_neg z]
    · refine Or.inr ⟨g.2 0 (29 + 3 * q), qo, ?_, fun o ho => ?_⟩
      · have hq : hm g (g.2 0 (29 + 3 * q)) q = true := by
          unfold hm
          rw [decide_eq_true q2, decide_eq_true qc, decide_eq_true rfl]
          rfl
        have u := fb_ct_upd (hm g (g.2 0 (29 + 3 * q))) false (i := q) (n := 8) q8
        rw [if_pos hq] at u
        have e : cm (f_X9_steps g x y w d).2 (g.2 0 (29 + 3 * q)) = fb_ct (fun k => if k = q then false else hm g (g.2 0 (29 + 3 * q)) k) 8 := by
          unfold cm
          refine fb_ct_cong fun i hi => ?_
          unfold hm
          rw [e2, eo i hi, h i hi]
          by_cases z : i = q
          · rw [if_neg (show ¬ i = r by omega), if_pos z, if_pos z, decide_eq_false (p := ¬ (-1 : Int32) = -1) (fun y => y rfl), Bool.false_and, Bool.and_false]
          · rw [if_neg z, if_neg z]
            by_cases z1 : i = r
            · rw [if_pos z1, decide_eq_true tn, z1, decide_eq_true rc]
            · rw [if_neg z1]
        rw [e]
        unfold cm
        have u' : fb_ct (fun k => if k = q then false else hm g (g.2 0 (29 + 3 * q)) k) 8 + 1 = fb_ct (hm g (g.2 0 (29 + 3 * q))) 8 + 0 := u
        omega
      · unfold cm
        refine fb_ct_cong fun i hi => ?_
        unfold hm
        rw [e2, eo i hi, h i hi]
        by_cases z : i = q
        · rw [z, if_neg qr, if_pos rfl, decide_eq_false (p := ¬ (-1 : Int32) = -1) (fun y => y rfl), Bool.false_and, decide_eq_true qc, decide_eq_false (p := g.2 0 (29 + 3 * q) = o) (fun y => ho y.symm)]
          rfl
        · by_cases z1 : i = r
          · rw [if_pos z1, decide_eq_true tn, z1, decide_eq_true rc]
          · rw [if_neg z1, if_neg z]
/-! who is sure to win within so many steps -/
def okS (w d : Int32) : Prop := 0 ≤ w ∧ w ≤ 3 ∧ (d = 1 ∨ d = 2)
def Vw (me : Int32) : Nat → Rec → Prop
  | 0, g => f_X9_won g = me
  | n + 1, g => f_X9_won g = me ∨ (f_X9_won g = -1 ∧ ((f_X9_turn g = me ∧ ∃ x y w d, okS w d ∧ Leg (f_X9_settles g) x y w d ∧ Vw me n (f_X9_steps (f_X9_settles g) x y w d).2) ∨ (¬ f_X9_turn g = me ∧ (∃ x y w d, okS w d ∧ Leg (f_X9_settles g) x y w d) ∧ ∀ x y w d, okS w d → Leg (f_X9_settles g) x y w d → Vw me n (f_X9_steps (f_X9_settles g) x y w d).2)))
theorem leg_goal {K : Int32} {s p g : Rec} {x y w d : Int32} (hP : PR s p g) (hG : GI K g) (hK : K < 1000000) (h : okS w d) : Leg g x y w d ↔ ¬ f_X3_goalOf s p x y w d = -1 := by
  constructor
  · intro hL
    exact (step_sim hP hG hK hL h.1 h.2.1 h.2.2).1
  · intro hn
    exact Classical.byContradiction fun z => hn ((goal_leg hP h.1 h.2.1 h.2.2).2.2 z)
theorem vi {me : Int32} : ∀ (n : Nat) (K : Int32) (s p g g' : Rec), K < 900000 - Int32.ofNat n → n ≤ 10 → PR s p g → GI K g → PR s p g' → GI K g' → Vw me n g → Vw me n g' := by
  intro n
  induction n with
  | zero =>
    intro K s p g g' _ _ hP hG hP' hG' h
    show f_X9_won g' = me
    rw [← (wo_eq hP' hG').2.2.1, (wo_eq hP hG).2.2.1]
    exact h
  | succ n ih =>
    intro K s p g g' hK hn hP hG hP' hG' h
    have ew : f_X9_won g' = f_X9_won g := by rw [← (wo_eq hP' hG').2.2.1, (wo_eq hP hG).2.2.1]
    have et : f_X9_turn g' = f_X9_turn g := by rw [← tu_eq hP', tu_eq hP]
    obtain ⟨_, a2, a3, a4, a5⟩ := se_ok zr hP hG
    obtain ⟨_, b2, b3, b4, b5⟩ := se_ok zr hP' hG'
    have nn : Int32.ofNat (n + 1) = Int32.ofNat n + 1 := nI_succ n
    have n0 : 0 ≤ Int32.ofNat n := nI_pos' (n := n) (by omega)
    have n10 : Int32.ofNat n ≤ 10 := nI_le (a := n) (b := 10) (by omega) (by omega)
    rw [nn] at hK
    have hK1 : K < 1000000 := by clear ih; grind
    have hK2 : K + 1 < 900000 - Int32.ofNat n := by clear ih; grind
    have lg : ∀ x y w d, okS w d → (Leg (f_X9_settles g) x y w d ↔ Leg (f_X9_settles g') x y w d) := fun x y w d ho => by rw [leg_goal a2 a3 hK1 ho, leg_goal b2 b3 hK1 ho]
    have nx : ∀ x y w d, okS w d → Leg (f_X9_settles g) x y w d → (Vw me n (f_X9_steps (f_X9_settles g) x y w d).2 ↔ Vw me n (f_X9_steps (f_X9_settles g') x y w d).2) := by
      intro x y w d ho hL
      obtain ⟨_, _, _, _, _, c6, c7, _⟩ := step_sim a2 a3 hK1 hL ho.1 ho.2.1 ho.2.2
      obtain ⟨_, _, _, _, _, e6, e7, _⟩ := step_sim b2 b3 hK1 ((lg x y w d ho).mp hL) ho.1 ho.2.1 ho.2.2
      rw [← (ru_eq a2.1 a2.2.2.1 x y).2.2] at c6
      rw [← (ru_eq b2.1 b2.2.2.1 x y).2.2] at e6
      exact ⟨ih (K + 1) _ _ _ _ hK2 (by omega) c6 c7 e6 e7, ih (K + 1) _ _ _ _ hK2 (by omega) e6 e7 c6 c7⟩
    rcases h with h | ⟨h1, ⟨h2, x, y, w, d, h3, h4, h5⟩ | ⟨h2, ⟨x, y, w, d, h3, h4⟩, h5⟩⟩
    · exact Or.inl (by rw [ew]; exact h)
    · exact Or.inr ⟨by rw [ew]; exact h1, Or.inl ⟨by rw [et]; exact h2, x, y, w, d, h3, (lg x y w d h3).mp h4, (nx x y w d h3 h4).mp h5⟩⟩
    · exact Or.inr ⟨by rw [ew]; exact h1, Or.inr ⟨by rw [et]; exact h2, ⟨x, y, w, d, h3, (lg x y w d h3).mp h4⟩, fun x y w d k1 k2 => (nx x y w d k1 ((lg x y w d k1).mpr k2)).mp (h5 x y w d k1 ((lg x y w d k1).mpr k2))⟩⟩
theorem se_cm {K : Int32} {s p g : Rec} (hP : PR s p g) (hG : GI K g) : (∀ o, cm (f_X9_settles g) o = cm g o) ∧ f_X9_turn (f_X9_settles g) = f_X9_turn g ∧ f_X9_won (f_X9_settles g) = f_X9_won g := by
  obtain ⟨_, a2, a3, a4, a5⟩ := se_ok zr hP hG
  have c : ∀ o, cm (f_X9_settles g) o = cm g o := cm_cg (a4.2.2 2 (by omega)) (fun i hi => by rw [a4.2.2 (8 + i) (by omega)]) (fun i _ => a4.2.2 _ (by omega))
  refine ⟨c, ?_, ?_⟩
  · show (f_X9_settles g).2 0 26 - (f_X9_settles g).2 0 26 / 2 * 2 = _
    rw [a4.2.2 26 (by omega)]
    rfl
  · have w1 := (wo_eq a2 a3).2.2.2
    have w2 := (wo_eq hP hG).2.2.2
    have k : ∀ me, me = 0 ∨ me = 1 → (f_X9_won (f_X9_settles g) = me ↔ f_X9_won g = me) := by
      intro me hme
      rw [won_me a2 a3 hme, won_me hP hG hme, c, c, c, c, a4.2.2 2 (by omega)]
    rcases w2 with z | z | z
    · rcases w1 with y | y | y
      · rw [y, z]
      · rw [y, (k 0 (Or.inl rfl)).mp y]
      · rw [y, (k 1 (Or.inr rfl)).mp y]
    · rw [z, (k 0 (Or.inl rfl)).mpr z]
    · rw [z, (k 1 (Or.inr rfl)).mpr z]
/-- none is sure to win who can't take them all -/
theorem prune {me : Int32} (hme : me = 0 ∨ me = 1) : ∀ (n : Nat) (K : Int32) (s p g : Rec), K < 900000 - Int32.ofNat n → n ≤ 10 → PR s p g → GI K g → Vw me n g → ¬ f_X9_won g = me → 0 < cm g (1 - me) ∧ cm g (1 - me) ≤ (if f_X9_turn g = me then (n + 1) / 2 else n / 2) := by
  have nm : ¬ 1 - me = me := by rcases hme with rfl | rfl <;> decide
  intro n
  induction n with
  | zero => intro K s p g _ _ _ _ h hn; exact absurd h hn
  | succ n ih =>
    intro K s p g hK hn hP hG h hw
    have nn : Int32.ofNat (n + 1) = Int32.ofNat n + 1 := nI_succ n
    have n0 : 0 ≤ Int32.ofNat n := nI_pos' (n := n) (by omega)
    have n10 : Int32.ofNat n ≤ 10 := nI_le (a := n) (b := 10) (by omega) (by omega)
    rw [nn] at hK
    have hK1 : K < 1000000 := by clear ih; grind
    have hK2 : K + 1 < 900000 - Int32.ofNat n := by clear ih; grind
    obtain ⟨_, a2, a3, a4, a5⟩ := se_ok zr hP hG
    obtain ⟨sc, st, sw⟩ := se_cm hP hG
    have e2 : (f_X9_settles g).2 0 2 = g.2 0 2 := a4.2.2 2 (by omega)
    have go : ∀ x y w d, okS w d → Leg (f_X9_settles g) x y w d → Vw me n (f_X9_steps (f_X9_settles g) x y w d).2 → 0 < cm g (f_X9_turn g) ∧ f_X9_turn (f_X9_steps (f_X9_settles g) x y w d).2 = 1 - f_X9_turn g ∧ ((∀ o, cm (f_X9_steps (f_X9_settles g) x y w d).2 o = cm g o) ∨ ∃ q, ¬ q = f_X9_turn g ∧ cm (f_X9_steps (f_X9_settles g) x y w d).2 q + 1 = cm g q ∧ ∀ o, ¬ o = q → cm (f_X9_steps (f_X9_settles g) x y w d).2 o = cm g o) ∧ ((cm (f_X9_steps (f_X9_settles g) x y w d).2 (1 - me) = 0 ∧ ¬ nI (cm (f_X9_steps (f_X9_settles g) x y w d).2 0 + cm (f_X9_steps (f_X9_settles g) x y w d).2 1) = g.2 0 2 ∧ 0 < cm (f_X9_steps (f_X9_settles g) x y w d).2 me) ∨ (0 < cm (f_X9_steps (f_X9_settles g) x y w d).2 (1 - me) ∧ cm (f_X9_steps (f_X9_settles g) x y w d).2 (1 - me) ≤ (if 1 - f_X9_turn g = me then (n + 1) / 2 else n / 2))) := by
      intro x y w d ho hL hv
      obtain ⟨c1, c2⟩ := cm_set a2 a3 hK1 hL ho.1 ho.2.1 ho.2.2
      obtain ⟨r, t, _, _, _, _, _, _, e26, _⟩ := sb_all a2 a3 hL
      obtain ⟨_, _, _, _, _, c6, c7, fr⟩ := step_sim a2 a3 hK1 hL ho.1 ho.2.1 ho.2.2
      have tn := turn_nx a3 hK1 e26
      rw [st] at c1 c2 tn
      rw [sc] at c1
      refine ⟨c1, tn, ?_, ?_⟩
      · rcases c2 with c2 | ⟨q, q1, q2, q3⟩
        · exact Or.inl fun o => by rw [c2 o, sc]
        · exact Or.inr ⟨q, q1, by rw [q2, sc], fun o ho => by rw [q3 o ho, sc]⟩
      · by_cases z : f_X9_won (f_X9_steps (f_X9_settles g) x y w d).2 = me
        · obtain ⟨z1, z2, z3⟩ := (won_me c6 c7 hme).mp z
          rw [fr.2.2 2 (by omega), e2] at z1
          exact Or.inl ⟨z3, z1, z2⟩
        · have i := ih (K + 1) _ _ _ hK2 (by omega) c6 c7 hv z
          rw [tn] at i
          exact Or.inr i
    have wm := won_me hP hG hme
    rcases h with h | ⟨h1, ⟨h2, x, y, w, d, h3, h4, h5⟩ | ⟨h2, ⟨x, y, w, d, h3, h4⟩, h5⟩⟩
    · exact absurd h hw
    · obtain ⟨g1, g2, g3, g4⟩ := go x y w d h3 h4 h5
      rw [h2] at g1 g3
      rw [if_pos h2]
      rw [h2, if_neg nm] at g4
      rcases g3 with g3 | ⟨q, q1, q2, q3⟩
      · rcases g4 with ⟨z1, z2, z3⟩ | ⟨z1, z2⟩
        · exfalso
          rw [g3, g3] at z2
          rw [g3] at z1
          exact hw (wm.mpr ⟨z2, g1, z1⟩)
        · rw [g3] at z1 z2
          omega
      · by_cases z : 1 - me = q
        · rw [← z] at q2
          rcases g4 with ⟨z1, _, _⟩ | ⟨z1, z2⟩
          · omega
          · omega
        · have e := q3 _ z
          rcases g4 with ⟨z1, z2, z3⟩ | ⟨z1, z2⟩
          · exfalso
            have eme := q3 me (fun y => q1 y.symm)
            rcases hme with rfl | rfl
            · have o1 : (1 : Int32) - 0 = 1 := by decide
              rw [o1] at z e z1
              rw [eme, e] at z2
              exact hw (wm.mpr ⟨z2, g1, by rw [o1, ← e]; exact z1⟩)
            · have o1 : (1 : Int32) - 1 = 0 := by decide
              rw [o1] at z e z1
              rw [eme, e] at z2
              exact hw (wm.mpr ⟨z2, g1, by rw [o1, ← e]; exact z1⟩)
          · rw [e] at z1 z2
            omega
    · obtain ⟨g1, g2, g3, g4⟩ := go x y w d h3 h4 (h5 x y w d h3 h4)
      have te : f_X9_turn g = 1 - me := by
        rcases turn_01 hG with z | z
        · rcases hme with rfl | rfl
          · exact absurd z h2
          · rw [z]; decide
        · rcases hme with rfl | rfl
          · rw [z]; decide
          · exact absurd z h2
      rw [te] at g1 g3
      have om : (1 : Int32) - (1 - me) = me := by rcases hme with rfl | rfl <;> decide
      rw [te, om, if_pos rfl] at g4
      rw [if_neg h2]
      have e : cm (f_X9_steps (f_X9_settles g) x y w d).2 (1 - me) = cm g (1 - me) := by
        rcases g3 with g3 | ⟨q, q1, q2, q3⟩
        · exact g3 _
        · exact q3 _ (fun z => q1 z.symm)
      rcases g4 with ⟨z1, _⟩ | ⟨z1, z2⟩
      · omega
      · rw [e] at z1 z2
        omega
/-! how wide it lies -/
def Wd (g : Rec) : Prop := ∀ c d : Int32, ¬ f_X9_isCell g c = 0 → ¬ f_X9_isCell g d = 0 → ∀ a, (co g a c).toInt - (co g a d).toInt ≤ 5
theorem wd_flat (m : Rec) : Wd (f_X9_flat m) := by
  obtain ⟨_, _, a3⟩ := fl_all m
  have k : ∀ c : Int32, ¬ f_X9_isCell (f_X9_flat m) c = 0 → ∀ a, 0 ≤ (co (f_X9_flat m) a c).toInt ∧ (co (f_X9_flat m) a c).toInt ≤ 5 := by
    intro c hc a
    obtain ⟨c0, c1⟩ := isCell_in hc
    have r := a3 c c0 c1
    unfold flatR at r
    obtain ⟨r1, r2, _⟩ := rM r
    obtain ⟨s1, s2, s3, s4⟩ := sixths c0 c1
    have e5 : (5 : Int32).toInt = 5 := by decide
    unfold co
    by_cases z : a = 0
    · rw [if_pos z, r1]
      have := Int32.le_iff_toInt_le.mp s4
      exact ⟨n32_0.mp s3, by omega⟩
    · rw [if_neg z, r2]
      have := Int32.le_iff_toInt_le.mp s2
      exact ⟨n32_0.mp s1, by omega⟩
  intro c d hc hd a
  have := k c hc a
  have := k d hd a
  omega
theorem wd_turn {g : Rec} {n : Nat} (hn : n ≤ 3) (hG : Geo g (Bk n) (Lk n)) (hW : Wd g) {l : Int32} (hl : -(Bk n) ≤ l) (hl2 : l ≤ Bk n) (a w : Int32) : Wd (f_X9_turnsOver g a l w) := by
  have kb : (-(Bk n)).toInt ≥ -1000 ∧ (Bk n).toInt ≤ 1000 := by
    have : n = 0 ∨ n = 1 ∨ n = 2 ∨ n = 3 := by omega
    rcases this with rfl | rfl | rfl | rfl <;> decide
  have l1 := Int32.le_iff_toInt_le.mp hl
  have l2 := Int32.le_iff_toInt_le.mp hl2
  have mir : ∀ x : Int32, -1000 ≤ x.toInt → x.toInt ≤ 1000 → (2 * l - 1 - x).toInt = 2 * l.toInt - 1 - x.toInt := fun x h1 h2 => mir_i (x := x) (l := l) (B := 1000) (by omega) h1 h2 (by omega) (by omega)
  have gb : ∀ (b c : Int32), ¬ f_X9_isCell g c = 0 → -1000 ≤ (co g b c).toInt ∧ (co g b c).toInt ≤ 1000 := by
    intro b c hc
    obtain ⟨c0, c1⟩ := isCell_in hc
    obtain ⟨_, h1, h2, h3, h4, _⟩ := hG c c0 c1
    have h1' := Int32.le_iff_toInt_le.mp h1
    have h2' := Int32.le_iff_toInt_le.mp h2
    have h3' := Int32.le_iff_toInt_le.mp h3
    have h4' := Int32.le_iff_toInt_le.mp h4
    unfold co
    by_cases z : b = 0
    · rw [if_pos z]; omega
    · rw [if_neg z]; omega
  -- one square
  have one : ∀ c : Int32, ¬ f_X9_isCell g c = 0 → ∀ b : Int32, ((¬ (b = 0 ↔ a = 0)) ∧ (co (f_X9_turnsOver g a l w) b c).toInt = (co g b c).toInt) ∨ ((b = 0 ↔ a = 0) ∧ co g b c = co g a c ∧ ((¬ f_X8_turns (co g a c) l w = 0 ∧ (co (f_X9_turnsOver g a l w) b c).toInt = 2 * l.toInt - 1 - (co g b c).toInt) ∨ (f_X8_turns (co g a c) l w = 0 ∧ (co (f_X9_turnsOver g a l w) b c).toInt = (co g b c).toInt))) := by
    intro c hc b
    obtain ⟨c0, c1⟩ := isCell_in hc
    have gbc := gb b c hc
    have tr := turn_row g a l w c c0 c1
    by_cases ab : b = 0 ↔ a = 0
    · have ce : co g b c = co g a c := by
        unfold co
        by_cases z : b = 0
        · rw [if_pos z, if_pos (ab.mp z)]
        · rw [if_neg z, if_neg (fun y => z (ab.mpr y))]
      refine Or.inr ⟨ab, ce, ?_⟩
      rcases tr with ⟨_, t1, t2, t3, _⟩ | ⟨t1, t2, t3, _⟩
      · refine Or.inl ⟨t1, ?_⟩
        rw [← mir _ gbc.1 gbc.2]
        unfold co
        by_cases z : b = 0
        · rw [if_pos z, if_pos z, t2, if_pos (ab.mp z)]
        · rw [if_neg z, if_neg z, t3, if_neg (fun y => z (ab.mpr y))]
      · refine Or.inr ⟨t1.resolve_left hc, ?_⟩
        unfold co
        rw [t2, t3]
    · refine Or.inl ⟨ab, ?_⟩
      unfold co
      rcases tr with ⟨_, t1, t2, t3, _⟩ | ⟨t1, t2, t3, _⟩
      · by_cases z : b = 0
        · have na : ¬ a = 0 := fun y => ab ⟨fun _ => y, fun _ => z⟩
          rw [if_pos z, if_pos z, t2, if_neg na]
        · have na : a = 0 := Classical.byContradiction fun y => ab ⟨fun q => absurd q z, fun q => absurd q y⟩
          rw [if_neg z, if_neg z, t3, if_pos na]
      · rw [t2, t3]
  intro c d hc hd b
  rw [isCell_turn] at hc hd
  have w1 := hW c d hc hd b
  have w2 := hW d c hd hc b
  have tn := fun x => tu_n (x := x) (l := l) (w := w)
  rcases one c hc b with ⟨ab, e⟩ | ⟨ab, ec, e⟩
  · rcases one d hd b with ⟨_, f⟩ | ⟨ab', _⟩
    · rw [e, f]; exact w1
    · exact absurd ab' ab
  · rcases one d hd b with ⟨ab', _⟩ | ⟨_, fc, f⟩
    · exact absurd ab ab'
    · rw [← ec] at e
      rw [← fc] at f
      have tc := tn (co g b c)
      have td := tn (co g b d)
      rcases e with ⟨e1, e2⟩ | ⟨e1, e2⟩
      · rcases f with ⟨f1, f2⟩ | ⟨f1, f2⟩
        · rw [e2, f2]; omega
        · rw [e2, f2]
          have q1 := tc.mp e1
          have q2 : ¬ (if w = 0 then l ≤ co g b d else co g b d < l) := fun y => td.mpr y f1
          by_cases z : w = 0
          · rw [if_pos z] at q1 q2
            have r1 := Int32.le_iff_toInt_le.mp q1
            have r2 := Int32.lt_iff_toInt_lt.mp (Int32.not_le.mp q2)
            omega
          · rw [if_neg z] at q1 q2
            have r1 := Int32.lt_iff_toInt_lt.mp q1
            have r2 := Int32.le_iff_toInt_le.mp (Int32.not_lt.mp q2)
            omega
      · rcases f with ⟨f1, f2⟩ | ⟨f1, f2⟩
        · rw [e2, f2]
          have q1 := td.mp f1
          have q2 : ¬ (if w = 0 then l ≤ co g b c else co g b c < l) := fun y => tc.mpr y e1
          by_cases z : w = 0
          · rw [if_pos z] at q1 q2
            have r1 := Int32.le_iff_toInt_le.mp q1
            have r2 := Int32.lt_iff_toInt_lt.mp (Int32.not_le.mp q2)
            omega
          · rw [if_neg z] at q1 q2
            have r1 := Int32.lt_iff_toInt_lt.mp q1
            have r2 := Int32.le_iff_toInt_le.mp (Int32.not_lt.mp q2)
            omega
        · rw [e2, f2]; exact w1
theorem wd_lay {m : Rec} {b : Nat → Int32} : ∀ n : Nat, n ≤ 3 → Lines b n → Wd (layN n b (f_X9_flat m)) := by
  intro n
  induction n with
  | zero => intro _ _; exact wd_flat m
  | succ n ih =>
    intro hn hl
    have hl' : Lines b n := fun k hk => hl k (by omega)
    have g := (geo_lay (m := m) n (by omega) hl').1
    have l := hl n (by omega)
    show Wd (f_X9_turnsOver (layN n b (f_X9_flat m)) _ _ _)
    exact wd_turn (by omega) g (ih (by omega) hl') l.1 l.2 _ _
theorem gi_wd {K : Int32} {g : Rec} (hG : GI K g) : Wd g := by
  obtain ⟨⟨nf, hn, h16, hl⟩, hcur, _⟩ := hG
  have w := wd_lay (m := g) nf hn hl
  rw [← lays_N h16 hn] at w
  have hb : (f_X9_lays g).2 0 = g.2 0 := (NF.b ⟨nf, hn, h16⟩).1
  intro c d hc hd a
  obtain ⟨c0, c1⟩ := isCell_in hc
  obtain ⟨d0, d1⟩ := isCell_in hd
  have rc := rM (hcur c c0 c1)
  have rd := rM (hcur d d0 d1)
  have := w c d (by rw [isCell_congr hb]; exact hc) (by rw [isCell_congr hb]; exact hd) a
  unfold co at this ⊢
  rw [rc.1, rc.2.1, rd.1, rd.2.1]
  exact this
