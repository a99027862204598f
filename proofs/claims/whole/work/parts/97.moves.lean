/-! layer 3: step, fold, undo -/
theorem p195g {g : Rec} {r o t : Int32} (r0 : 0 ≤ r) (r8 : r < 8) (hoo : ¬ o = -1 → 0 ≤ o ∧ o < 8) (hE : ¬ g.2 0 4 = 0) : p_X9_steps_195 g r o t := by
  unfold p_X9_steps_195
  refine ⟨fun q => p230 r0 r8 hE, fun q => ?_⟩
  obtain ⟨o0, o1⟩ := hoo q
  have := cl8 o0 o1
  have v248 := vinb (n := 248) (x := Int32.ofInt 8 + o) (by grind) (by grind)
  refine ⟨v248, v248, p230 r0 r8 ?_⟩
  show ¬ upd (g.2 0) (Int32.toNatClampNeg (Int32.ofInt 8 + o)) (Int32.ofInt (-1)) 4 = 0
  rw [ix8 o0 (by grind), upd_at, if_neg (by omega)]
  exact hE
theorem pst {K : Int32} {s p g : Rec} (hP : PR s p g) (hG : GI K g) (x y w d : Int32) : p_X9_steps g x y w d := by
  have hM := hP.2.2.1
  have n8 := hM.2.1
  have hE : ¬ g.2 0 4 = 0 := by
    obtain ⟨_, _, _, _, ⟨e1, e2⟩, _⟩ := hG
    grind
  have R := fun x y => (ru_eq hP.1 hM x y).2.1
  have T := fun x y => (to_al g x y).2
  have rr : ∀ x y, ¬ f_X9_rulerAt g x y = -1 → 0 ≤ f_X9_rulerAt g x y ∧ f_X9_rulerAt g x y < 8 ∧ p_X9_ownerOf g (f_X9_rulerAt g x y) ∧ p_X9_strengthOf g (f_X9_rulerAt g x y) := by
    intro x y hr
    obtain ⟨r0, r1, r2, r3⟩ := ru_some hM hr
    exact ⟨r0, by grind, own_in hM r0 r1, str_in hM r2.1⟩
  have p109 : ∀ x0 y0, ¬ f_X9_rulerAt g x0 y0 = -1 → p_X9_steps_109 g x y w d (f_X9_rulerAt g x0 y0) := by
    intro x0 y0 hr
    obtain ⟨r0, r1, r2, r3⟩ := rr x0 y0 hr
    unfold p_X9_steps_109
    refine ⟨R _ _, T _ _, fun _ => trivial, fun _ => ⟨fun z => p195g r0 r1 (fun q => absurd z q) hE, fun z => ?_⟩⟩
    obtain ⟨a0, a1, a2, a3⟩ := rr _ _ z
    exact ⟨a2, r2, fun _ => trivial, fun _ => ⟨a3, r3, fun _ => p195g r0 r1 (fun _ => ⟨a0, a1⟩) hE, fun _ => trivial⟩⟩
  have p61 : ∀ x0 y0, ¬ f_X9_rulerAt g x0 y0 = -1 → p_X9_steps_61 g x y w d (f_X9_rulerAt g x0 y0) := by
    intro x0 y0 hr
    unfold p_X9_steps_61
    exact ⟨fun _ => ⟨T _ _, fun _ => trivial, fun _ => ⟨R _ _, fun _ => p109 _ _ hr, fun _ => trivial⟩⟩, fun _ => p109 _ _ hr⟩
  unfold p_X9_steps
  refine ⟨R _ _, fun _ => trivial, fun _ => ⟨fun _ => trivial, fun hr => ?_⟩⟩
  obtain ⟨r0, r1, r2, r3⟩ := rr _ _ hr
  exact ⟨r2, fun _ => ⟨fun _ => ⟨vinb (n := 248) (by grind) (by grind), fun _ => p61 _ _ hr, fun _ => trivial⟩, fun _ => p61 _ _ hr⟩, fun _ => trivial⟩
theorem pr_9 {s p g : Rec} (f : Nat → Int32) (h : PR s p g) : PR s p (setA g 9 f) := by
  refine pr_move h (fun c _ _ => rfl) (fun i _ => rfl) rfl rfl rfl rfl rfl rfl h.2.2.2.2.1.1 h.2.2.2.2.1.2.1 (fun v q0 q1 => ?_)
  obtain ⟨_, _, _, e4, c⟩ := h.2.2.1.2.2.2 v q0 q1
  have n8 := h.2.2.1.2.1
  rw [ix8 q0 (by grind)] at e4
  exact ⟨e4, c⟩
theorem gi_9 {K : Int32} {g : Rec} (f : Nat → Int32) (h : GI K g) : GI K (setA g 9 f) := by
  have h' := h
  obtain ⟨_, _, d27, d26, _, _, hany, _, _, hdis⟩ := h
  exact gi_move h' (fun c _ _ => rfl) (fun i _ => rfl) d27 d26 hany hdis
theorem setA_ne {r : Rec} {k j : Nat} {f : Nat → Int32} (h : j ≠ k) : (setA r k f).2 j = r.2 j := by rw [setA_2, if_neg h]
theorem setA_at {r : Rec} {k : Nat} {f : Nat → Int32} : (setA r k f).2 k = f := by rw [setA_2, if_pos rfl]
theorem kp_all (g : Rec) : p_X9_keeps_v9 g (Int32.ofInt 0) ∧ ∃ f : Nat → Int32, f_X9_keeps_v9 g (Int32.ofInt 0) = setA g 9 f ∧ ∀ k, k < 20 → f k = g.2 0 (8 + k) := by
  obtain ⟨a1, a2⟩ := kp9 0 rfl 40 0 g (by omega) (by omega)
  refine ⟨a1, _, a2, fun k hk => ?_⟩
  rw [if_pos (by omega), show 8 + (k - 0) = 8 + k by omega]
/-- the new state of a move that was done -/
theorem st_new {K : Int32} {s p t m s' p' m1 : Rec} (hK : K < 100000) (hS : St K s p t m) (hP' : PR s' p' m1) (hG' : GI (K + 1) m1) (h1 : ∀ i, (i < 8 ∨ 28 ≤ i) → i < 248 → m1.2 0 i = m.2 0 i) (h9 : ∀ k, k < 20 → m1.2 9 k = m.2 0 (8 + k)) :
    p_X2_keep t s p ∧ p_X9_remembers m1 ∧ St (K + 1) s' p' (f_X2_keep t s p) (f_X9_remembers m1) ∧ (f_X9_remembers m1).1 = m1.1 ∧ (∀ j, j ≠ 0 → (f_X9_remembers m1).2 j = m1.2 j) ∧ (∀ i, i < 88 → i ≠ 6 → (f_X9_remembers m1).2 0 i = m1.2 0 i) := by
  obtain ⟨hN, hH, hB⟩ := hS
  obtain ⟨a1, a2, a3, a4, a5, a6⟩ := keep_sim hH hN h1 h9
  refine ⟨a1, a2, ⟨?_, hist_same (k1 hK) (fun _ _ _ _ _ => rfl) a3, fun i hi => ?_⟩, a4, a5, a6⟩
  · have hn : NF m1 := by
      obtain ⟨⟨nf, b1, b2, _⟩, _⟩ := hG'
      exact ⟨nf, b1, b2⟩
    obtain ⟨c1, c2, c3, c4, c5⟩ := la_all (m := m1) hP' hG' rfl
    exact now_same (m := m1) (fun i b1 b2 b3 b4 => a6 i b1 b3) (Int32.le_refl _) ⟨hn, c4, c5⟩
  · rw [a6 (52 + i) (by omega) (by omega), h1 (52 + i) (by omega) (by omega)]
    exact hB i hi
theorem sm_new {q s p s' p' g g' : Rec} (hP : PR s p g) (hP' : PR s' p' g') (hc : ∀ c, f_X9_isCell g' c = f_X9_isCell g c) (h : SmO q s) : SmO q s' := by
  rcases h with h | ⟨s0, h1, h2⟩
  · exact Or.inl h
  · refine Or.inr ⟨s0, fun j hj => ?_, h2⟩
    obtain ⟨c, c0, c1, c2⟩ := cl_of (n := j) (N := 36) hj
    rw [h1 j hj, ← c2, (hP.1 c c0 c1).1, (hP'.1 c c0 c1).1, hc]
section
variable {K : Int32} {c s p t e q s1 p1 s2 p2 t1 t2 m : Rec}
theorem c_step (o oh h k : Rec) (x y w d : Int32) (hK : K < 100000) (hI : Inv K c s p t e q s1 p1 s2 p2 t1 t2 m) : p_X8_step c s p t e o oh h k q s1 p1 s2 p2 t1 t2 x y w d ∧ p_X9_step m x y w d ∧ (f_X8_step c s p t e o oh h k q s1 p1 s2 p2 t1 t2 x y w d).1 = (f_X9_step m x y w d).1 ∧ Inv (K + 1) (f_X8_step c s p t e o oh h k q s1 p1 s2 p2 t1 t2 x y w d).2.1 (f_X8_step c s p t e o oh h k q s1 p1 s2 p2 t1 t2 x y w d).2.2.1 (f_X8_step c s p t e o oh h k q s1 p1 s2 p2 t1 t2 x y w d).2.2.2.1 (f_X8_step c s p t e o oh h k q s1 p1 s2 p2 t1 t2 x y w d).2.2.2.2 e q s1 p1 s2 p2 t1 t2 (f_X9_step m x y w d).2 := by
  obtain ⟨hP, hG, hp, hF, hb⟩ := inv_g hI
  unfold p_X8_step p_X9_step f_X8_step f_X9_step
  rw [in_0, in_1, in_2, in_3, in_w, in_w]
  have e0 : Int32.ofInt 0 = 0 := rfl
  have e3 : Int32.ofInt 3 = 3 := rfl
  have e1 : Int32.ofInt 1 = 1 := rfl
  have e2 : Int32.ofInt 2 = 2 := rfl
  have em : Int32.ofInt (-1) = -1 := rfl
  by_cases c1 : f_X8_within w 0 3 = 0
  · have c1' : f_X8_within w (Int32.ofInt 0) (Int32.ofInt 3) = 0 := c1
    rw [if_pos c1, if_pos c1']
    exact ⟨⟨fun _ => trivial, fun z => absurd c1' z⟩, ⟨fun _ => ⟨pp_ref m _ (by decide) (by decide), trivial⟩, fun z => absurd c1 z⟩, rfl, ref_bad _ hK hI⟩
  · have c1' : ¬ f_X8_within w (Int32.ofInt 0) (Int32.ofInt 3) = 0 := c1
    rw [if_neg c1, if_neg c1']
    by_cases c2 : f_X8_within d 1 2 = 0
    · have c2' : f_X8_within d (Int32.ofInt 1) (Int32.ofInt 2) = 0 := c2
      rw [if_pos c2, if_pos c2']
      exact ⟨⟨fun z => absurd z c1', fun _ => ⟨fun _ => trivial, fun z => absurd c2' z⟩⟩, ⟨fun z => absurd z c1, fun _ => ⟨fun _ => ⟨pp_ref m _ (by decide) (by decide), trivial⟩, fun z => absurd c2 z⟩⟩, rfl, ref_bad _ hK hI⟩
    · have c2' : ¬ f_X8_within d (Int32.ofInt 1) (Int32.ofInt 2) = 0 := c2
      rw [if_neg c2, if_neg c2']
      have hw := wi_n.mp c1
      have hd : d = 1 ∨ d = 2 := by have := wi_n.mp c2; grind
      obtain ⟨kp, f, kf, kk⟩ := kp_all (f_X9_lays m)
      rw [kf]
      have hP9 := pr_9 f hP
      have hG9 := gi_9 f hG
      obtain ⟨L1, hL1⟩ : ∃ L1, L1 = setA (f_X9_lays m) 9 f := ⟨_, rfl⟩
      rw [← hL1] at hP9 hG9 ⊢
      have Lb : ∀ j, j ≠ 9 → L1.2 j = (f_X9_lays m).2 j := fun j hj => by rw [hL1, setA_ne hj]
      have L9 : L1.2 9 = f := by rw [hL1, setA_at]
      have L11 : L1.1 = (f_X9_lays m).1 := by rw [hL1, setA_1]
      have ps := pst hP9 hG9 x y w d
      obtain ⟨gp, gy, gn⟩ := goal_leg hP9 (x := x) (y := y) hw.1 hw.2 hd
      obtain ⟨ra, rb, rc⟩ := ru_eq hP9.1 hP9.2.2.1 x y
      by_cases hL : Leg L1 x y w d
      · obtain ⟨s1', s2', s3', s4', s5', s6', s7', s8'⟩ := step_sim hP9 hG9 (by grind) hL hw.1 hw.2 hd
        have n0 : ¬ (f_X9_steps L1 x y w d).1 = 0 := by rw [s2']; decide
        have gg : ¬ f_X3_goalOf s p x y w d = Int32.ofInt (-1) := s1'
        rw [if_neg gg, if_neg n0, rc]
        have h1 : ∀ i, (i < 8 ∨ 28 ≤ i) → i < 248 → (f_X9_steps L1 x y w d).2.2 0 i = m.2 0 i := by
          intro i hi _
          rw [s8'.2.2 i hi, Lb 0 (by decide), hb]
        have h9 : ∀ k, k < 20 → (f_X9_steps L1 x y w d).2.2 9 k = m.2 0 (8 + k) := by
          intro k hk
          rw [s8'.2.1 9 (by decide) (by decide) (by decide) (by decide) (by decide), L9, kk k hk, hb]
        obtain ⟨n1, n2, n3, n4, n5, n6⟩ := st_new hK hI.1 s6' s7' h1 h9
        have fj : ∀ j, j ≠ 0 → j ≠ 4 → j ≠ 5 → j ≠ 6 → j ≠ 7 → j ≠ 9 → (f_X9_remembers (f_X9_steps L1 x y w d).2).2 j = m.2 j := by
          intro j j0 j4 j5 j6 j7 j9
          rw [n5 j j0, s8'.2.1 j j0 j4 j5 j6 j7, Lb j j9, hF.2 j j4 j5 j6 j7]
        have fk : ∀ k, k ≠ 8 → (f_X9_remembers (f_X9_steps L1 x y w d).2).1 k = (f_X9_lays m).1 k := by
          intro k hk
          rw [n4, s8'.1 k hk, L11]
        refine ⟨⟨fun z => absurd z c1', fun _ => ⟨fun z => absurd z c2', fun _ => ⟨gp, fun z => absurd z gg, fun _ => ⟨n1, ra, s4', trivial⟩⟩⟩⟩, ⟨fun z => absurd z c1, fun _ => ⟨fun z => absurd z c2, fun _ => ⟨hp, kp, ps, fun z => absurd z n0, fun _ => ⟨n2, trivial⟩⟩⟩⟩, ?_, ?_⟩
        · dsimp only
          rw [s5', n4]
        · dsimp only
          refine inv_st (k1 hK) n3 (fj 1 (by decide) (by decide) (by decide) (by decide) (by decide) (by decide)) (fj 2 (by decide) (by decide) (by decide) (by decide) (by decide) (by decide)) (fj 22 (by decide) (by decide) (by decide) (by decide) (by decide) (by decide)) ?_ (fj 3 (by decide) (by decide) (by decide) (by decide) (by decide) (by decide)) ?_ hI
          · rw [fk 23 (by decide), hF.1 23 (by decide) (by decide) (by decide)]
          · refine sm_new hP9 s6' (isCell_cg fun i hi => ?_) hI.2.2.2.2.2
            rw [s8'.2.2 i (by omega)]
      · have gg := gn hL
        have gg' : f_X3_goalOf s p x y w d = Int32.ofInt (-1) := gg
        have st := (steps_leg L1 x y w d).2 hL
        have n0 : (f_X9_steps L1 x y w d).1 = 0 := by rw [st]
        rw [if_pos gg', if_pos n0, st]
        have hI1 : Inv K c s p t e q s1 p1 s2 p2 t1 t2 L1 := by
          refine inv_fr (m := m) (Int32.le_refl _) ?_ ?_ ?_ ?_ ?_ rfl ?_ hI
          · rw [Lb 0 (by decide)]; exact hb
          · rw [Lb 1 (by decide)]; exact hF.2 1 (by decide) (by decide) (by decide) (by decide)
          · rw [Lb 2 (by decide)]; exact hF.2 2 (by decide) (by decide) (by decide) (by decide)
          · rw [Lb 22 (by decide)]; exact hF.2 22 (by decide) (by decide) (by decide) (by decide)
          · rw [L11]; exact hF.1 23 (by decide) (by decide) (by decide)
          · have e3 : L1.2 3 = m.2 3 := by rw [Lb 3 (by decide)]; exact hF.2 3 (by decide) (by decide) (by decide) (by decide)
            unfold Rf
            rw [e3]
            exact hI.2.2.2.2.1
        exact ⟨⟨fun z => absurd z c1', fun _ => ⟨fun z => absurd z c2', fun _ => ⟨gp, fun _ => trivial, fun z => absurd gg' z⟩⟩⟩, ⟨fun z => absurd z c1, fun _ => ⟨fun z => absurd z c2, fun _ => ⟨hp, kp, ps, fun _ => ⟨pp_ref _ _ (by decide) (by decide), trivial⟩, fun z => absurd rfl z⟩⟩⟩, rfl, ref_no _ hK hI1⟩
theorem c_fold (o oh h k : Rec) (a l w : Int32) (hK : K < 100000) (hI : Inv K c s p t e q s1 p1 s2 p2 t1 t2 m) : p_X8_fold c s p t e o oh h k q s1 p1 s2 p2 t1 t2 a l w ∧ p_X9_fold m a l w ∧ (f_X8_fold c s p t e o oh h k q s1 p1 s2 p2 t1 t2 a l w).1 = (f_X9_fold m a l w).1 ∧ Inv (K + 1) (f_X8_fold c s p t e o oh h k q s1 p1 s2 p2 t1 t2 a l w).2.1 (f_X8_fold c s p t e o oh h k q s1 p1 s2 p2 t1 t2 a l w).2.2.1 (f_X8_fold c s p t e o oh h k q s1 p1 s2 p2 t1 t2 a l w).2.2.2.1 (f_X8_fold c s p t e o oh h k q s1 p1 s2 p2 t1 t2 a l w).2.2.2.2 e q s1 p1 s2 p2 t1 t2 (f_X9_fold m a l w).2 := by
  obtain ⟨hP, hG, hp, hF, hb⟩ := inv_g hI
  unfold p_X8_fold p_X9_fold f_X8_fold f_X9_fold
  rw [in_0, in_1, in_w, in_w]
  by_cases c1 : f_X8_within a 0 1 = 0
  · have c1' : f_X8_within a (Int32.ofInt 0) (Int32.ofInt 1) = 0 := c1
    rw [if_pos c1, if_pos c1']
    exact ⟨⟨fun _ => trivial, fun z => absurd c1' z⟩, ⟨fun _ => ⟨pp_bad m, trivial⟩, fun z => absurd c1 z⟩, rfl, ref_bad _ hK hI⟩
  · have c1' : ¬ f_X8_within a (Int32.ofInt 0) (Int32.ofInt 1) = 0 := c1
    rw [if_neg c1, if_neg c1']
    by_cases c2 : f_X8_within w 0 1 = 0
    · have c2' : f_X8_within w (Int32.ofInt 0) (Int32.ofInt 1) = 0 := c2
      rw [if_pos c2, if_pos c2']
      exact ⟨⟨fun z => absurd z c1', fun _ => ⟨fun _ => trivial, fun z => absurd c2' z⟩⟩, ⟨fun z => absurd z c1, fun _ => ⟨fun _ => ⟨pp_bad m, trivial⟩, fun z => absurd c2 z⟩⟩, rfl, ref_bad _ hK hI⟩
    · have c2' : ¬ f_X8_within w (Int32.ofInt 0) (Int32.ofInt 1) = 0 := c2
      rw [if_neg c2, if_neg c2']
      obtain ⟨kp, f, kf, kk⟩ := kp_all (f_X9_lays m)
      rw [kf]
      have hP9 := pr_9 f hP
      have hG9 := gi_9 f hG
      obtain ⟨L1, hL1⟩ : ∃ L1, L1 = setA (f_X9_lays m) 9 f := ⟨_, rfl⟩
      rw [← hL1] at hP9 hG9 ⊢
      have Lb : ∀ j, j ≠ 9 → L1.2 j = (f_X9_lays m).2 j := fun j hj => by rw [hL1, setA_ne hj]
      have L9 : L1.2 9 = f := by rw [hL1, setA_at]
      have L11 : L1.1 = (f_X9_lays m).1 := by rw [hL1, setA_1]
      have d7 : p.1 7 = L1.2 0 27 := hP9.2.2.2.2.1.2.1
      rw [d7, may_eq hP9.2.1 a l w]
      by_cases hL : L1.2 0 27 = 0 ∨ f_X9_mayFold L1 a l w = 0
      · obtain ⟨pm, em⟩ := fold_no hG9 hL
        have n0 : (f_X9_makes L1 a l w).1 = 0 := by rw [em]
        rw [if_pos n0, em]
        have hI1 : Inv K c s p t e q s1 p1 s2 p2 t1 t2 L1 := by
          refine inv_fr (m := m) (Int32.le_refl _) ?_ ?_ ?_ ?_ ?_ rfl ?_ hI
          · rw [Lb 0 (by decide)]; exact hb
          · rw [Lb 1 (by decide)]; exact hF.2 1 (by decide) (by decide) (by decide) (by decide)
          · rw [Lb 2 (by decide)]; exact hF.2 2 (by decide) (by decide) (by decide) (by decide)
          · rw [Lb 22 (by decide)]; exact hF.2 22 (by decide) (by decide) (by decide) (by decide)
          · rw [L11]; exact hF.1 23 (by decide) (by decide) (by decide)
          · have e3 : L1.2 3 = m.2 3 := by rw [Lb 3 (by decide)]; exact hF.2 3 (by decide) (by decide) (by decide) (by decide)
            unfold Rf
            rw [e3]
            exact hI.2.2.2.2.1
        have R := ref_no (Int32.ofInt (-3)) hK hI1
        have P9 : ((f_X8_within a 0 1 = 0 → p_X9_bad m ∧ True) ∧ (¬ f_X8_within a 0 1 = 0 → ((f_X8_within w 0 1 = 0 → p_X9_bad m ∧ True) ∧ (¬ f_X8_within w 0 1 = 0 → (p_X9_lays m ∧ p_X9_keeps_v9 (f_X9_lays m) (Int32.ofInt 0) ∧ p_X9_makes L1 a l w ∧ ((0 : Int32) = 0 → p_X9_no L1 ∧ True) ∧ (¬ (0 : Int32) = 0 → p_X9_remembers L1 ∧ True)))))) := ⟨fun z => absurd z c1, fun _ => ⟨fun z => absurd z c2, fun _ => ⟨hp, kp, pm, fun _ => ⟨pp_no _, trivial⟩, fun z => absurd rfl z⟩⟩⟩
        by_cases z1 : L1.2 0 27 = 0
        · rw [if_pos z1]
          exact ⟨⟨fun z => absurd z c1', fun _ => ⟨fun z => absurd z c2', fun _ => ⟨fun _ => trivial, fun z => absurd z1 z⟩⟩⟩, P9, rfl, R⟩
        · have z2 := hL.resolve_left z1
          rw [if_neg z1, if_pos z2]
          exact ⟨⟨fun z => absurd z c1', fun _ => ⟨fun z => absurd z c2', fun _ => ⟨fun z => absurd z z1, fun _ => ⟨fun _ => trivial, fun z => absurd z2 z⟩⟩⟩⟩, P9, rfl, R⟩
      · have z1 : ¬ L1.2 0 27 = 0 := fun z => hL (Or.inl z)
        have z2 : ¬ f_X9_mayFold L1 a l w = 0 := fun z => hL (Or.inr z)
        obtain ⟨s1', s2', s3', s4', s5', s6', s7'⟩ := fold_sim hP9 hG9 z1 z2
        have n0 : ¬ (f_X9_makes L1 a l w).1 = 0 := by rw [s1']; decide
        rw [if_neg z1, if_neg z2, if_neg n0]
        have h1 : ∀ i, (i < 8 ∨ 28 ≤ i) → i < 248 → (f_X9_makes L1 a l w).2.2 0 i = m.2 0 i := by
          intro i hi _
          rw [s6'.2.2 i (by omega), Lb 0 (by decide), hb]
        have h9 : ∀ k, k < 20 → (f_X9_makes L1 a l w).2.2 9 k = m.2 0 (8 + k) := by
          intro k hk
          rw [s6'.2.1 9 (by decide) (by decide) (by decide) (by decide) (by decide), L9, kk k hk, hb]
        have s5'' : GI (K + 1) (f_X9_makes L1 a l w).2 := by
          have g' := s5'
          obtain ⟨_, _, d27, d26, _, _, hany, _, _, hdis⟩ := s5'
          exact gi_move g' (fun c _ _ => rfl) (fun i _ => rfl) d27 ⟨d26.1, by grind⟩ hany hdis
        obtain ⟨n1, n2, n3, n4, n5, n6⟩ := st_new hK hI.1 s4' s5'' h1 h9
        have fj : ∀ j, j ≠ 0 → j ≠ 4 → j ≠ 5 → j ≠ 6 → j ≠ 7 → j ≠ 9 → (f_X9_remembers (f_X9_makes L1 a l w).2).2 j = m.2 j := by
          intro j j0 j4 j5 j6 j7 j9
          rw [n5 j j0, s6'.2.1 j j0 j4 j5 j6 j7, Lb j j9, hF.2 j j4 j5 j6 j7]
        refine ⟨⟨fun z => absurd z c1', fun _ => ⟨fun z => absurd z c2', fun _ => ⟨fun z => absurd z z1, fun _ => ⟨fun z => absurd z z2, fun _ => ⟨n1, s3', trivial⟩⟩⟩⟩⟩, ⟨fun z => absurd z c1, fun _ => ⟨fun z => absurd z c2, fun _ => ⟨hp, kp, s2', fun z => absurd z n0, fun _ => ⟨n2, trivial⟩⟩⟩⟩, ?_, ?_⟩
        · dsimp only
          have e27 : (f_X9_remembers (f_X9_makes L1 a l w).2).2 0 (Int32.toNatClampNeg (Int32.ofInt 27)) = (f_X9_makes L1 a l w).2.2 0 27 := n6 27 (by omega) (by decide)
          rw [e27]
          exact s4'.2.2.2.2.1.2.1
        · dsimp only
          refine inv_st (k1 hK) n3 (fj 1 (by decide) (by decide) (by decide) (by decide) (by decide) (by decide)) (fj 2 (by decide) (by decide) (by decide) (by decide) (by decide) (by decide)) (fj 22 (by decide) (by decide) (by decide) (by decide) (by decide) (by decide)) ?_ (fj 3 (by decide) (by decide) (by decide) (by decide) (by decide) (by decide)) ?_ hI
          · rw [n4, s6'.1 23, L11, hF.1 23 (by decide) (by decide) (by decide)]
          · refine sm_new hP9 s4' (isCell_cg fun i hi => ?_) hI.2.2.2.2.2
            rw [s6'.2.2 i (by omega)]
theorem c_undo (o oh h k : Rec) (hK : K < 100000) (hI : Inv K c s p t e q s1 p1 s2 p2 t1 t2 m) : p_X8_undo c s p t e o oh h k q s1 p1 s2 p2 t1 t2 ∧ p_X9_undo m ∧ (f_X8_undo c s p t e o oh h k q s1 p1 s2 p2 t1 t2).1 = (f_X9_undo m).1 ∧ Inv (K + 1) (f_X8_undo c s p t e o oh h k q s1 p1 s2 p2 t1 t2).2.1 (f_X8_undo c s p t e o oh h k q s1 p1 s2 p2 t1 t2).2.2.1 (f_X8_undo c s p t e o oh h k q s1 p1 s2 p2 t1 t2).2.2.2.1 (f_X8_undo c s p t e o oh h k q s1 p1 s2 p2 t1 t2).2.2.2.2 e q s1 p1 s2 p2 t1 t2 (f_X9_undo m).2 := by
  obtain ⟨hN, hH, hB⟩ := hI.1
  have h2 : m.2 0 6 = t.1 2 := by
    obtain ⟨u, x, _, _, _, e1, e2, _⟩ := hH
    rw [e1, e2]
  by_cases c1 : t.1 2 = 0
  · have g0 : f_X2_goBack t s p = (0, t, s, p) := by
      unfold f_X2_goBack
      rw [if_pos c1]
      rfl
    have pg : p_X2_goBack t s p := by
      unfold p_X2_goBack
      exact ⟨fun _ => trivial, fun z => absurd c1 z⟩
    have m0 : m.2 0 (Int32.toNatClampNeg (Int32.ofInt 6)) = 0 := by
      show m.2 0 6 = 0
      rw [h2]; exact c1
    unfold p_X8_undo p_X9_undo f_X8_undo f_X9_undo
    rw [g0, if_pos m0]
    dsimp only
    rw [if_pos rfl]
    exact ⟨⟨pg, trivial⟩, ⟨fun _ => ⟨pp_no m, trivial⟩, fun z => absurd m0 z⟩, rfl, ref_no _ hK hI⟩
  · obtain ⟨u1, u2, u3, u4, u5, u6, u7, u8, u9⟩ := undo_sim hH hN c1
    unfold p_X8_undo f_X8_undo
    have n0 : ¬ (f_X2_goBack t s p).1 = 0 := by rw [u3]; decide
    rw [if_neg n0, u4]
    dsimp only
    refine ⟨⟨u1, trivial⟩, u2, rfl, inv_st (k1 hK) ⟨?_, ?_, ?_⟩ (u8 1 (by decide)) (u8 2 (by decide)) (u8 22 (by decide)) (by rw [u7]) (u8 3 (by decide)) ?_ hI⟩
    · exact now_same (fun _ _ _ _ _ => rfl) (k1 hK) u5
    · exact hist_same (k1 hK) (fun _ _ _ _ _ => rfl) u6
    · intro i hi
      rw [u9 (52 + i) (by omega) (by omega)]
      exact hB i hi
    · refine sm_new hN.2.1 u5.2.1 (fun a => ?_) hI.2.2.2.2.2
      rw [hN.1.c, u5.1.c]
      exact isCell_cg (fun i hi => u9 i (by omega) (by omega)) a
end
