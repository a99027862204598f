/-! layer 3: folds that are due, settled; how many men; what a win is -/
theorem pr_2 {s p g g' : Rec} (e : g'.2 = g.2) (h : PR s p g) : PR s p g' := by
  refine pr_move h (fun c _ _ => by unfold rowM; rw [e]) (fun i _ => by rw [e]) rfl rfl rfl rfl rfl rfl (by rw [e]; exact h.2.2.2.2.1.1) (by rw [e]; exact h.2.2.2.2.1.2.1) (fun v q0 q1 => ?_)
  obtain ⟨_, _, _, e4, c⟩ := h.2.2.1.2.2.2 v q0 q1
  have n8 := h.2.2.1.2.1
  rw [ix8 q0 (by grind)] at e4
  rw [e]
  exact ⟨e4, c⟩
theorem gi_2 {K : Int32} {g g' : Rec} (e : g'.2 = g.2) (h : GI K g) : GI K g' := by
  have h' := h
  obtain ⟨_, _, d27, d26, _, _, hany, _, _, hdis⟩ := h
  exact gi_move h' (fun c _ _ => by unfold rowM; rw [e]) (fun i _ => by rw [e]) (by rw [e]; exact d27) (by rw [e]; exact d26) (by rw [e]; exact hany) (by rw [e]; exact hdis)
/-- one book, one game -/
theorem pr_b {K K' : Int32} {s p g g' : Rec} (e : g'.2 0 = g.2 0) (hG : GI K g) (hG' : GI K' g') (h : PR s p g) : PR s p g' := by
  have row : ∀ c : Int32, 0 ≤ c → c < 36 → rowM g' c.toNatClampNeg = rowM g c.toNatClampNeg := by
    intro c c0 c1
    obtain ⟨⟨nf, hn, h16, _⟩, hc, _⟩ := hG
    obtain ⟨_, hc', _⟩ := hG'
    rw [hc c c0 c1, hc' c c0 c1]
    exact lays_cg hn h16 (by rw [e]; exact h16) (isCell_congr e) (fun i _ => by rw [e]) c c0 c1
  refine pr_move h row (fun i _ => by rw [e]) rfl rfl rfl rfl rfl rfl (by rw [e]; exact h.2.2.2.2.1.1) (by rw [e]; exact h.2.2.2.2.1.2.1) (fun v q0 q1 => ?_)
  obtain ⟨_, _, _, e4, c⟩ := h.2.2.1.2.2.2 v q0 q1
  have n8 := h.2.2.1.2.1
  rw [ix8 q0 (by grind)] at e4
  rw [e]
  exact ⟨e4, c⟩
/-! settling -/
def seM (g : Rec) : Rec := f_X9_pick (f_X9_habitNow g).2 (f_X9_habitNow g).1
def se1 (g : Rec) : Rec := (f_X9_makes (seM g) ((seM g).1 10) ((seM g).1 11) ((seM g).1 12)).2
def seC (o s p : Rec) : Rec × Rec := f_X3_creaseDue s p (f_X4_choiceAxis s (f_X1_habitOf o s p).1) (f_X4_choiceLine s (f_X1_habitOf o s p).1) (f_X4_choiceWay s (f_X1_habitOf o s p).1)
/-- what settling leaves as it was -/
def FrS (g g' : Rec) : Prop := (∀ k, k ≠ 10 → k ≠ 11 → k ≠ 12 → g'.1 k = g.1 k) ∧ (∀ j, j ≠ 0 → j ≠ 4 → j ≠ 5 → j ≠ 6 → j ≠ 7 → g'.2 j = g.2 j) ∧ (∀ i, i < 16 ∨ i = 26 ∨ 28 ≤ i → g'.2 0 i = g.2 0 i)
theorem FrS.r (g : Rec) : FrS g g := ⟨fun _ _ _ _ => rfl, fun _ _ _ _ _ _ => rfl, fun _ _ => rfl⟩
theorem FrS.t {a b c : Rec} (h1 : FrS a b) (h2 : FrS b c) : FrS a c := ⟨fun k q1 q2 q3 => (h2.1 k q1 q2 q3).trans (h1.1 k q1 q2 q3), fun j a b c d e => (h2.2.1 j a b c d e).trans (h1.2.1 j a b c d e), fun i hi => (h2.2.2 i hi).trans (h1.2.2 i hi)⟩
theorem se_1 {K : Int32} {s p g : Rec} (o : Rec) (hP : PR s p g) (hG : GI K g) (hd : ¬ g.2 0 27 = 0) :
    p_X9_habitNow g ∧ p_X9_pick (f_X9_habitNow g).2 (f_X9_habitNow g).1 ∧ p_X9_makes (seM g) ((seM g).1 10) ((seM g).1 11) ((seM g).1 12) ∧ p_X1_habitOf o s p ∧ p_X3_creaseDue s p (f_X4_choiceAxis s (f_X1_habitOf o s p).1) (f_X4_choiceLine s (f_X1_habitOf o s p).1) (f_X4_choiceWay s (f_X1_habitOf o s p).1) ∧ PR (seC o s p).1 (seC o s p).2 (se1 g) ∧ GI K (se1 g) ∧ FrS g (se1 g) ∧ (se1 g).2 0 27 < g.2 0 27 := by
  obtain ⟨b1, b2, b3, b4, b5, b6, b7⟩ := hb_all (m := g) o hP hG rfl
  obtain ⟨H, hH⟩ : ∃ z, z = f_X9_habitNow g := ⟨_, rfl⟩
  rw [← hH] at b3 b4 b5 b6 b7
  obtain ⟨nf, hn, h16, hgeo, hinj⟩ := gi_geo b6
  obtain ⟨B1, B2, B3, B4⟩ := bk_b (n := nf) (by omega)
  have hany : ¬ f_X9_anyFold g = 0 := by
    obtain ⟨_, _, _, _, _, _, hany, _⟩ := hG
    exact hany hd
  have chn : ¬ f_X4_choices s = 0 := by
    obtain ⟨nf', hn', _, hgeo', _⟩ := gi_geo hG
    obtain ⟨C1, C2, _⟩ := bk_b (n := nf') (by omega)
    intro z
    exact hany ((any_eq hP.2.1 hgeo' C1 C2).mp z)
  have ir : 0 ≤ H.1 ∧ H.1 < f_X4_choices s := by
    rcases b7 with ⟨_, z⟩ | z
    · exact absurd z chn
    · exact z
  obtain ⟨k1, k2, k3, k4, k5⟩ := pick_eq b5.2.1 hgeo B1 B2 ir.1
  obtain ⟨M, hM⟩ : ∃ z, z = f_X9_pick H.2 H.1 := ⟨_, rfl⟩
  have eM : seM g = M := by
    unfold seM
    rw [← hH, ← hM]
  have i0 : 0 ≤ H.1.toInt := n32_0.mp ir.1
  have cb := ch_b hP hG
  have i1 := Int32.lt_iff_toInt_lt.mp ir.2
  have cb2 := Int32.le_iff_toInt_le.mp cb.2
  have e8 : (8000 : Int32).toInt = 8000 := by decide
  have fz := ch_eq b5.2.1
  obtain ⟨q1, q2, q3, q4, _⟩ := pk_i (g := H.2) (i := H.1) hn hgeo i0 (by omega)
  rw [← hM] at k1 k2 k3 k4 k5 q2
  rw [fz, q1] at i1
  have hPM : PR s p M := pr_2 k4 b5
  have hGM : GI K M := gi_2 k4 b6
  have e27 : M.2 0 27 = g.2 0 27 := by rw [k4, b4.b]
  have may : ¬ f_X9_mayFold M (M.1 10) (M.1 11) (M.1 12) = 0 := by
    rw [(mf_all M _ _ _).2]
    have ee : ∀ a b, f_X9_end M a b = f_X9_end H.2 a b := fun a b => end_cg k4 a b
    have eb := eb_of hn hgeo
    have l0 := Int32.le_iff_toInt_le.mp (en_lh H.2 0)
    have l1 := Int32.le_iff_toInt_le.mp (en_lh H.2 1)
    rw [ee, ee, Int32.lt_iff_toInt_lt, Int32.le_iff_toInt_le]
    rcases q2 with ⟨z1, z2, z3⟩ | ⟨z1, z2, z3⟩
    · rw [z2, z3]
      omega
    · rw [z2, z3]
      omega
  obtain ⟨f1, f2, f3, f4, f5, f6, f7⟩ := fold_sim hPM hGM (by rw [e27]; exact hd) may
  obtain ⟨F, hF⟩ : ∃ z, z = f_X9_makes M (M.1 10) (M.1 11) (M.1 12) := ⟨_, rfl⟩
  have eF : se1 g = F.2 := by
    unfold se1
    rw [eM, ← hF]
  rw [← hF] at f1 f4 f5 f6 f7
  have a10 : M.1 10 = f_X4_choiceAxis s (f_X1_habitOf o s p).1 := by rw [b3]; exact k1
  have a11 : M.1 11 = f_X4_choiceLine s (f_X1_habitOf o s p).1 := by rw [b3]; exact k2
  have a12 : M.1 12 = f_X4_choiceWay s (f_X1_habitOf o s p).1 := by rw [b3]; exact k3
  have f3' := f3
  have f4' := f4
  rw [a10, a11, a12] at f3' f4'
  have sc : seC o s p = f_X3_creaseDue s p (f_X4_choiceAxis s (f_X1_habitOf o s p).1) (f_X4_choiceLine s (f_X1_habitOf o s p).1) (f_X4_choiceWay s (f_X1_habitOf o s p).1) := by unfold seC; rfl
  rw [← hH, eM, eF, sc]
  refine ⟨b2, pp_pick .., f2, b1, f3', f4', f5, ⟨fun k z1 z2 z3 => ?_, fun j z0 z4 z5 z6 z7 => ?_, fun i hi => ?_⟩, ?_⟩
  · rw [f6.1 k]
    exact (k5 k z1 z2 z3).trans (b4.1 k z1 z2 z3)
  · rw [f6.2.1 j z0 z4 z5 z6 z7, k4]
    exact b4.2 j z4 z5 z6 z7
  · rw [f6.2.2 i hi, k4, b4.b]
  · rw [← e27]
    exact f7
theorem s_se (N : Nat) (g : Rec) : f_X9_settles_0 (N + 1) g = if g.2 0 (Int32.toNatClampNeg (Int32.ofInt 27)) ≤ 0 then g else f_X9_settles_0 N (se1 g) := by rw [f_X9_settles_0, se1, seM]
theorem p_se (N : Nat) (g : Rec) : p_X9_settles_0 (N + 1) g = ((g.2 0 (Int32.toNatClampNeg (Int32.ofInt 27)) ≤ 0 → True) ∧ (¬ g.2 0 (Int32.toNatClampNeg (Int32.ofInt 27)) ≤ 0 → (p_X9_habitNow g ∧ (p_X9_pick (f_X9_habitNow g).2 (f_X9_habitNow g).1 ∧ (p_X9_makes (seM g) ((seM g).1 10) ((seM g).1 11) ((seM g).1 12) ∧ p_X9_settles_0 N (se1 g)))))) := by rw [p_X9_settles_0, se1, seM]
/-- the class's settling: outlook, sheet, play -/
def stC : Nat → Rec → Rec → Rec → Rec × Rec × Rec
  | 0, o, s, p => (o, s, p)
  | n + 1, o, s, p => if p.1 7 ≤ 0 then (o, s, p) else stC n (f_X1_habitOf o s p).2 (seC o s p).1 (seC o s p).2
theorem due_b {K : Int32} {g : Rec} (hG : GI K g) : 0 ≤ g.2 0 27 ∧ g.2 0 27 ≤ 3 := by
  obtain ⟨⟨nf, hn, h16, _⟩, _, ⟨d1, d2⟩, _⟩ := hG
  have := nf_in hn h16
  exact ⟨d1, by grind⟩
theorem se_all {K : Int32} : ∀ (n N : Nat) (o s p g : Rec), PR s p g → GI K g → (g.2 0 27).toNatClampNeg ≤ n → n < N → p_X9_settles_0 N g ∧ PR (stC n o s p).2.1 (stC n o s p).2.2 (f_X9_settles_0 N g) ∧ GI K (f_X9_settles_0 N g) ∧ FrS g (f_X9_settles_0 N g) ∧ (f_X9_settles_0 N g).2 0 27 = 0 := by
  intro n
  induction n with
  | zero =>
    intro N o s p g hP hG hn hN
    obtain ⟨N, rfl⟩ : ∃ z, N = z + 1 := ⟨N - 1, by omega⟩
    obtain ⟨d0, d3⟩ := due_b hG
    have z : g.2 0 27 = 0 := cl_inj d0 (by decide) (by have : (0 : Int32).toNatClampNeg = 0 := rfl; omega)
    have z' : g.2 0 (Int32.toNatClampNeg (Int32.ofInt 27)) ≤ 0 := by
      show g.2 0 27 ≤ 0
      rw [z]; decide
    rw [s_se, p_se, if_pos z']
    exact ⟨⟨fun _ => trivial, fun y => absurd z' y⟩, hP, hG, FrS.r g, z⟩
  | succ n ih =>
    intro N o s p g hP hG hn hN
    obtain ⟨N, rfl⟩ : ∃ z, N = z + 1 := ⟨N - 1, by omega⟩
    obtain ⟨d0, d3⟩ := due_b hG
    have p7 : p.1 7 = g.2 0 27 := hP.2.2.2.2.1.2.1
    rw [s_se, p_se, stC]
    by_cases c : g.2 0 27 = 0
    · have z' : g.2 0 (Int32.toNatClampNeg (Int32.ofInt 27)) ≤ 0 := by
        show g.2 0 27 ≤ 0
        rw [c]; decide
      rw [if_pos z', if_pos (by rw [p7]; exact z')]
      exact ⟨⟨fun _ => trivial, fun y => absurd z' y⟩, hP, hG, FrS.r g, c⟩
    · have z' : ¬ g.2 0 (Int32.toNatClampNeg (Int32.ofInt 27)) ≤ 0 := by
        show ¬ g.2 0 27 ≤ 0
        grind
      rw [if_neg z', if_neg (by rw [p7]; exact z')]
      obtain ⟨a1, a2, a3, a4, a5, a6, a7, a8, a9⟩ := se_1 o hP hG c
      obtain ⟨e0, e3⟩ := due_b a7
      have lt : ((se1 g).2 0 27).toNatClampNeg ≤ n := by
        have x1 := Int32.lt_iff_toInt_lt.mp a9
        have x2 := n32_0.mp e0
        have y1 : ((se1 g).2 0 27).toNatClampNeg = ((se1 g).2 0 27).toInt.toNat := rfl
        have y2 : (g.2 0 27).toNatClampNeg = (g.2 0 27).toInt.toNat := rfl
        omega
      obtain ⟨i1, i2, i3, i4, i5⟩ := ih N (f_X1_habitOf o s p).2 (seC o s p).1 (seC o s p).2 (se1 g) a6 a7 lt (by omega)
      exact ⟨⟨fun y => absurd y z', fun _ => ⟨a1, a2, a3, i1⟩⟩, i2, i3, a8.t i4, i5⟩
theorem se_ok {K : Int32} {s p g : Rec} (o : Rec) (hP : PR s p g) (hG : GI K g) : p_X9_settles g ∧ PR (stC 3 o s p).2.1 (stC 3 o s p).2.2 (f_X9_settles g) ∧ GI K (f_X9_settles g) ∧ FrS g (f_X9_settles g) ∧ (f_X9_settles g).2 0 27 = 0 := by
  obtain ⟨d0, d3⟩ := due_b hG
  exact se_all 3 40 o s p g hP hG (cl_le (n := 3) d0 d3) (by omega)
/-! how many men a side has -/
def hm (g : Rec) (o : Int32) (i : Nat) : Bool := decide (nI i < g.2 0 2) && (decide (¬ g.2 0 (8 + i) = -1) && decide (g.2 0 (29 + 3 * i) = o))
def cm (g : Rec) (o : Int32) : Nat := fb_ct (hm g o) 8
theorem cm_8 (g : Rec) (o : Int32) : cm g o ≤ 8 := fb_ct_le _ 8
theorem mf_n {s p g : Rec} (hP : PR s p g) (o : Int32) : f_X3_menOf s p o = nI (cm g o) := by
  have hM := hP.2.2.1
  obtain ⟨n0, n8, n2, mm⟩ := hM
  have n2' : g.2 0 2 = p.1 5 := n2
  obtain ⟨N, hN, eN⟩ := nI_of2 (x := p.1 5) (M := 8) (n := 8) (by decide) (by grind) n8
  have hi : ∀ i, i < 8 → N ≤ i → hm g o i = false := by
    intro i hi h
    unfold hm
    rw [n2', eN, decide_eq_false (nI_nlt h (by omega))]
    rfl
  have lp : ∀ (n j : Nat), j ≤ N → N < n + j → f_X3_menOf_4 n s p o (nI (fb_ct (hm g o) j)) (nI j) = nI (fb_ct (hm g o) N) := by
    intro n
    induction n with
    | zero => intro j h1 h2; omega
    | succ n ih =>
      intro j h1 h2
      rw [f_X3_menOf_4, ni1]
      by_cases c1 : j = N
      · rw [if_pos (by rw [eN, c1]; exact Int32.le_refl _), c1]
      · have l1 : ¬ p.1 5 ≤ nI j := by rw [eN]; exact nI_ge (by omega) (by omega)
        rw [if_neg l1]
        have jl : nI j < p.1 5 := by rw [eN]; exact nI_lt (by omega) (by omega)
        have j0 : 0 ≤ nI j := nI_pos' (by omega)
        obtain ⟨_, e2, _, e4, _⟩ := mm (nI j) j0 jl
        have j100 : nI j < 100 := nI_lt (a := j) (b := 100) (by omega) (by omega)
        rw [ix29 j0 j100, nI_clamp (by omega)] at e2
        rw [ix8 j0 j100, nI_clamp (by omega)] at e4
        have hh : hm g o j = (decide (¬ p.2 4 j = -1) && decide (p.2 2 j = o)) := by
          unfold hm
          rw [n2', decide_eq_true jl, Bool.true_and, e2, e4]
        have fs : fb_ct (hm g o) (j + 1) = fb_ct (hm g o) j + (if hm g o j then 1 else 0) := fb_ct_succ _ j
        rw [mn_here s hP.2.2.1]
        have hn := mn_here_n hP.2.2.1 j0 jl
        rw [nI_clamp (by omega)] at hn ⊢
        by_cases c2 : f_X9_isHere g (nI j) = 0
        · rw [if_pos c2]
          have := hn.mp c2
          rw [decide_eq_false (fun z => z this), Bool.false_and] at hh
          rw [hh] at fs
          have fs' : fb_ct (hm g o) (j + 1) = fb_ct (hm g o) j := fs
          rw [← fs']
          exact ih (j + 1) (by omega) (by omega)
        · rw [if_neg c2]
          have : ¬ p.2 4 j = -1 := fun z => c2 (hn.mpr z)
          rw [decide_eq_true this, Bool.true_and] at hh
          by_cases c3 : p.2 2 j = o
          · rw [if_pos c3, ni1]
            rw [decide_eq_true c3] at hh
            rw [hh] at fs
            have fs' : fb_ct (hm g o) (j + 1) = fb_ct (hm g o) j + 1 := fs
            rw [← fs']
            exact ih (j + 1) (by omega) (by omega)
          · rw [if_neg c3]
            rw [decide_eq_false c3] at hh
            rw [hh] at fs
            have fs' : fb_ct (hm g o) (j + 1) = fb_ct (hm g o) j := fs
            rw [← fs']
            exact ih (j + 1) (by omega) (by omega)
  have e8 : cm g o = fb_ct (hm g o) N := by
    unfold cm
    have sp := fb_ct_split (hm g o) N (8 - N)
    rw [show N + (8 - N) = 8 by omega] at sp
    rw [sp, fb_ct_cong (q := fun _ => false) (fun k hk => hi (N + k) (by omega) (by omega))]
    have : ∀ n, fb_ct (fun _ => false) n = 0 := by
      intro n
      induction n with
      | zero => rfl
      | succ n ih => rw [fb_ct_succ, ih]; rfl
    rw [this]
    rfl
  rw [e8]
  exact lp 40 0 (by omega) (by omega)
/-- who has won: the others have none, and one was taken -/
theorem won_me {K : Int32} {s p g : Rec} (hP : PR s p g) (hG : GI K g) {me : Int32} (hme : me = 0 ∨ me = 1) : f_X9_won g = me ↔ (¬ nI (cm g 0 + cm g 1) = g.2 0 2 ∧ 0 < cm g me ∧ cm g (1 - me) = 0) := by
  have w := (wo_eq hP hG).2.2.1
  rw [← w]
  have n2 : g.2 0 2 = p.1 5 := hP.2.2.1.2.2.1
  have m0 : f_X3_menOf s p (Int32.ofInt 0) = nI (cm g 0) := mf_n hP 0
  have m1 : f_X3_menOf s p (Int32.ofInt 1) = nI (cm g 1) := mf_n hP 1
  have b0 := cm_8 g 0
  have b1 := cm_8 g 1
  unfold f_X3_winner
  rw [m0, m1, nI_add, n2]
  by_cases c1 : nI (cm g 0 + cm g 1) = p.1 5
  · rw [if_pos c1]
    rcases hme with rfl | rfl
    · exact ⟨fun z => absurd z (by decide), fun z => absurd c1 z.1⟩
    · exact ⟨fun z => absurd z (by decide), fun z => absurd c1 z.1⟩
  · rw [if_neg c1]
    have le0 : ∀ n : Nat, n ≤ 8 → (nI n ≤ 0 ↔ n = 0) := fun n hn => by
      have := nI_leI (a := n) (b := 0) (by omega) (by omega)
      rw [nI_0] at this
      rw [this]
      omega
    have eq0 : ∀ n : Nat, n ≤ 8 → (nI n = 0 ↔ n = 0) := fun n hn => by
      have := nI_eq (a := n) (b := 0) (by omega) (by omega)
      rw [nI_0] at this
      exact this
    have o1 : (1 : Int32) - 0 = 1 := by decide
    have o2 : (1 : Int32) - 1 = 0 := by decide
    by_cases c2 : cm g 0 = 0
    · rw [if_pos ((le0 _ b0).mpr c2), if_pos ((eq0 _ b0).mpr c2)]
      by_cases c3 : cm g 1 = 0
      · rw [if_pos ((le0 _ b1).mpr c3)]
        rcases hme with rfl | rfl
        · rw [o1]; exact ⟨fun z => absurd z (by decide), fun z => by omega⟩
        · rw [o2]; exact ⟨fun z => absurd z (by decide), fun z => by omega⟩
      · rw [if_neg (fun z => c3 ((le0 _ b1).mp z))]
        rcases hme with rfl | rfl
        · rw [o1]; exact ⟨fun z => absurd z (by decide), fun z => by omega⟩
        · rw [o2]; exact ⟨fun z => ⟨c1, by omega, c2⟩, fun z => rfl⟩
    · rw [if_neg (fun z => c2 ((le0 _ b0).mp z)), if_neg (fun z => c2 ((eq0 _ b0).mp z))]
      by_cases c3 : cm g 1 = 0
      · rw [if_pos ((eq0 _ b1).mpr c3)]
        rcases hme with rfl | rfl
        · rw [o1]; exact ⟨fun z => ⟨c1, by omega, c3⟩, fun z => rfl⟩
        · rw [o2]; exact ⟨fun z => absurd z (by decide), fun z => by omega⟩
      · rw [if_neg (fun z => c3 ((eq0 _ b1).mp z))]
        rcases hme with rfl | rfl
        · rw [o1]; exact ⟨fun z => absurd z (by decide), fun z => by omega⟩
        · rw [o2]; exact ⟨fun z => absurd z (by decide), fun z => by omega⟩
/-! what a STEP does to the book -/
theorem sb_230 {m : Rec} {r t : Int32} (r0 : 0 ≤ r) (r8 : r < 8) : (∀ i, i < 8 → (f_X9_steps_230 m r t).2.2 0 (8 + i) = if i = r.toNatClampNeg then t else m.2 0 (8 + i)) ∧ (f_X9_steps_230 m r t).2.2 0 26 = m.2 0 26 + 1 := by
  rw [s230 r0 r8]
  have q := cl8 r0 r8
  have st : ∀ i, i < 8 → stB m r t (8 + i) = if i = r.toNatClampNeg then t else m.2 0 (8 + i) := by
    intro i hi
    unfold stB
    rw [upd_at, if_neg (by omega), upd_at]
    by_cases z : i = r.toNatClampNeg
    · rw [if_pos z, if_pos (by omega)]
    · rw [if_neg z, if_neg (by omega)]
  have st26 : stB m r t 26 = m.2 0 26 + 1 := by
    unfold stB
    rw [upd_at, if_pos rfl]
  by_cases c1 : (m.2 0 26 + 1) - (m.2 0 26 + 1) / m.2 0 4 * m.2 0 4 = 0
  · rw [if_pos c1]
    by_cases c2 : (m.2 0 26 + 1) / m.2 0 4 - (m.2 0 26 + 1) / m.2 0 4 / 2 * 2 = 1
    · rw [if_pos c2]
      refine ⟨fun i hi => ?_, ?_⟩
      · show (setA m 0 _).2 0 (8 + i) = _
        rw [setA_at, upd_at, if_neg (by omega)]
        exact st i hi
      · show (setA m 0 _).2 0 26 = _
        rw [setA_at, upd_at, if_neg (by omega)]
        exact st26
    · rw [if_neg c2]
      have lb : (f_X9_lays (setA m 0 (upd (stB m r t) 16 0))).2 0 = (setA m 0 (upd (stB m r t) 16 0)).2 0 := by
        refine (NF.b (m := setA m 0 (upd (stB m r t) 16 0)) ⟨0, by omega, ?_⟩).1
        rw [setA_at, upd_at, if_pos rfl]
        rfl
      refine ⟨fun i hi => ?_, ?_⟩
      · dsimp only
        rw [lb, setA_at, upd_at, if_neg (by omega)]
        exact st i hi
      · dsimp only
        rw [lb, setA_at, upd_at, if_neg (by omega)]
        exact st26
  · rw [if_neg c1]
    refine ⟨fun i hi => ?_, ?_⟩
    · show (setA m 0 _).2 0 (8 + i) = _
      rw [setA_at]
      exact st i hi
    · show (setA m 0 _).2 0 26 = _
      rw [setA_at]
      exact st26
theorem sb_all {K : Int32} {s p g : Rec} {x y w d : Int32} (hP : PR s p g) (hG : GI K g) (hL : Leg g x y w d) : ∃ (r : Nat) (t : Int32), r < 8 ∧ f_X9_rulerAt g x y = nI r ∧ nI r < g.2 0 2 ∧ ¬ g.2 0 (8 + r) = -1 ∧ g.2 0 (29 + 3 * r) = f_X9_turn g ∧ ¬ t = -1 ∧ (f_X9_steps g x y w d).2.2 0 26 = g.2 0 26 + 1 ∧
    ((∀ i, i < 8 → (f_X9_steps g x y w d).2.2 0 (8 + i) = if i = r then t else g.2 0 (8 + i)) ∨ ∃ o, o < 8 ∧ o ≠ r ∧ nI o < g.2 0 2 ∧ ¬ g.2 0 (8 + o) = -1 ∧ ¬ g.2 0 (29 + 3 * o) = f_X9_turn g ∧ ∀ i, i < 8 → (f_X9_steps g x y w d).2.2 0 (8 + i) = if i = r then t else if i = o then -1 else g.2 0 (8 + i)) := by
  have hM := hP.2.2.1
  have n8 := hM.2.1
  have n2 : g.2 0 2 = p.1 5 := hM.2.2.1
  obtain ⟨l1, l2, l3, l4, l5, l6⟩ := hL
  have hL' : Leg g x y w d := ⟨l1, l2, l3, l4, l5, l6⟩
  have st := (steps_leg g x y w d).1 hL'
  have man : ∀ x y, ¬ f_X9_rulerAt g x y = -1 → ∃ v, v < 8 ∧ f_X9_rulerAt g x y = nI v ∧ nI v < g.2 0 2 ∧ ¬ g.2 0 (8 + v) = -1 ∧ f_X9_ownerOf g (nI v) = g.2 0 (29 + 3 * v) := by
    intro x y hr
    obtain ⟨a0, a1, a2, a3⟩ := ru_some hM hr
    have a8 : f_X9_rulerAt g x y < 8 := by grind
    have c8 := cl8 a0 a8
    have e : f_X9_rulerAt g x y = nI (f_X9_rulerAt g x y).toNatClampNeg := (Int32.ofNat_toNatClampNeg _ a0).symm
    obtain ⟨_, _, _, e4, _⟩ := hM.2.2.2 _ a0 a1
    have hn := mn_here_n hM a0 a1
    rw [ix8 a0 (by grind)] at e4
    refine ⟨_, c8, e, by rw [← e, n2]; exact a1, fun z => a2.1 (hn.mpr ?_), ?_⟩
    · rw [← e4]; exact z
    · rw [← e]
      unfold f_X9_ownerOf
      rw [ix29 a0 (by grind)]
  obtain ⟨r, r8, er, r2, rc, ro⟩ := man x y l2
  rw [er] at st l3
  have r0 : 0 ≤ nI r := nI_pos' (by omega)
  have rl8 : nI r < 8 := nI_lt (a := r) (b := 8) r8 (by omega)
  have rr : (nI r).toNatClampNeg = r := nI_clamp (by omega)
  rw [st]
  unfold f_X9_steps_195
  by_cases c : f_X9_rulerAt g (x + d * f_X9_wayX w) (y + d * f_X9_wayY w) = Int32.ofInt (-1)
  · rw [if_pos c]
    obtain ⟨b1, b2⟩ := sb_230 (m := setG g 8 (f_X9_rulerAt g (x + d * f_X9_wayX w) (y + d * f_X9_wayY w))) (r := nI r) (t := f_X9_topAt g (x + d * f_X9_wayX w) (y + d * f_X9_wayY w)) r0 rl8
    rw [rr] at b1
    exact ⟨r, _, r8, er, r2, rc, by rw [← ro]; exact l3, l5, b2, Or.inl b1⟩
  · rw [if_neg c]
    obtain ⟨o, o8, eo, o2, oc, oo⟩ := man _ _ c
    obtain ⟨m1, m2⟩ := l6 c
    rw [er, eo, oo, ro] at m1
    rw [ro] at l3
    have or' : o ≠ r := fun z => m1 (by rw [z])
    have i8 : (Int32.ofInt 8 + nI o).toNatClampNeg = 8 + o := by
      rw [ix8 (nI_pos' (by omega)) (nI_lt (a := o) (b := 100) (by omega) (by omega)), nI_clamp (by omega)]
    rw [eo, i8]
    obtain ⟨b1, b2⟩ := sb_230 (m := setA (setG g 8 (nI o)) 0 (upd (g.2 0) (8 + o) (Int32.ofInt (-1)))) (r := nI r) (t := g.2 0 (8 + o)) r0 rl8
    rw [rr] at b1
    refine ⟨r, _, r8, er, r2, rc, l3, oc, ?_, Or.inr ⟨o, o8, or', o2, oc, by rw [← l3]; exact m1, fun i hi => ?_⟩⟩
    · rw [b2, setA_at, upd_at, if_neg (by omega)]
    · rw [b1 i hi, setA_at, upd_at]
      by_cases z : i = r
      · rw [if_pos z, if_pos z]
      · rw [if_neg z, if_neg z]
        by_cases z2 : i = o
        · rw [if_pos z2, if_pos (by omega)]; rfl
        · rw [if_neg z2, if_neg (by omega)]
