/-! layer 3: put, count, images -/
theorem pr_gen {s p p' g g' : Rec} (h : PR s p g) (hg : ∀ c : Int32, 0 ≤ c → c < 36 → rowM g' c.toNatClampNeg = rowM g c.toNatClampNeg)
    (hb : ∀ i, (i < 3 ∨ (8 ≤ i ∧ i < 26) ∨ (28 ≤ i ∧ i < 88)) → g'.2 0 i = g.2 0 i) (p5 : p'.1 5 = p.1 5) (r : p'.2 = p.2) (p6 : p'.1 6 = g'.2 0 26) (p7 : p'.1 7 = g'.2 0 27) (p8 : p'.1 8 = g'.2 0 4) (p9 : p'.1 9 = g'.2 0 5) : PR s p' g' := by
  obtain ⟨h1, h2, h3, ⟨h4, h5, h6⟩, ⟨h7, h8, h9, h10⟩, h11⟩ := h
  have hc : ∀ c, f_X9_isCell g' c = f_X9_isCell g c := isCell_cg (fun i hi => hb i (by omega))
  have hsg : SG s g' := by
    rw [sg_rows]
    intro c q0 q1
    obtain ⟨a1, a2⟩ := sg_rows.mp h1 c q0 q1
    exact ⟨by rw [hc]; exact a1, by rw [hg c q0 q1]; exact a2⟩
  refine ⟨hsg, ends_move h1 hsg h2, ?_, ⟨by rw [hb 0 (by omega)]; exact h4, by rw [hb 1 (by omega)]; exact h5, by rw [hb 16 (by omega)]; exact h6⟩, ⟨p6, p7, p8, p9⟩, ?_⟩
  · obtain ⟨m0, m8, m2, mm⟩ := h3
    refine ⟨by rw [p5]; exact m0, by rw [p5]; exact m8, ?_, fun v q0 q1 => ?_⟩
    · rw [p5, ← m2]
      exact hb 2 (by omega)
    · rw [p5] at q1
      have q8 := cl8 q0 (by grind)
      obtain ⟨e1, e2, e3, e4, c⟩ := mm v q0 q1
      have b100 : v < 100 := by grind
      rw [ix28 q0 b100] at e1 ⊢
      rw [ix29 q0 b100] at e2 ⊢
      rw [ix30 q0 b100] at e3 ⊢
      rw [ix8 q0 b100] at e4 ⊢
      rw [hb _ (by omega), hb _ (by omega), hb _ (by omega), hb _ (by omega), hc, r]
      exact ⟨e1, e2, e3, e4, c⟩
  · intro nf hn q i hi
    rw [hb 16 (by omega)] at q
    rw [hb (17 + i) (by omega)]
    exact h11 nf hn q i hi
theorem gi_gen {K K' : Int32} {g g' : Rec} (h : GI K g) (hg : ∀ c : Int32, 0 ≤ c → c < 36 → rowM g' c.toNatClampNeg = rowM g c.toNatClampNeg)
    (hb : ∀ i, (i < 3 ∨ (8 ≤ i ∧ i < 88)) → g'.2 0 i = g.2 0 i) (hK : K ≤ K') (h4 : 1 ≤ g'.2 0 4 ∧ g'.2 0 4 ≤ 9) (h5 : 1 ≤ g'.2 0 5 ∧ g'.2 0 5 ≤ 3) : GI K' g' := by
  obtain ⟨⟨nf, hn, h16, hl⟩, hcur, h27, h26, _, _, hany, hwh, hm, hd⟩ := h
  have hc : ∀ c, f_X9_isCell g' c = f_X9_isCell g c := isCell_cg (fun i hi => hb i (by omega))
  have h16' : g'.2 0 16 = Int32.ofNat nf := by rw [hb 16 (by omega)]; exact h16
  refine ⟨⟨nf, hn, h16', fun k hk => ?_⟩, ?_, ?_, ?_, h4, h5, ?_, ?_, ?_, ?_⟩
  · rw [hb (17 + 3 * k + 1) (by omega)]
    exact hl k hk
  · intro c q0 q1
    rw [hg c q0 q1, hcur c q0 q1]
    exact (lays_cg hn h16 h16' hc (fun i hi => hb (17 + i) (by omega)) c q0 q1).symm
  · rw [hb 27 (by omega), hb 16 (by omega)]; exact h27
  · rw [hb 26 (by omega)]; exact ⟨h26.1, by grind⟩
  · rw [any_cg hc hg, hb 27 (by omega)]; exact hany
  · rw [hb 0 (by omega), hb 1 (by omega)]; exact hwh
  · intro i q1 q2
    rw [hb 2 (by omega)] at q1
    rw [hb (28 + 3 * i) (by omega), hb (29 + 3 * i) (by omega), hb (30 + 3 * i) (by omega)]
    exact hm i q1 q2
  · intro i j q1 q2 q3 q4
    rw [hb 2 (by omega)] at q1
    rw [hb (8 + i) (by omega)] at q4 ⊢
    rw [hb (8 + j) (by omega)] at q4
    exact hd i j q1 q2 q3 q4
theorem lays_row {m m' : Rec} (hn : NF m) (hb : ∀ i, (i < 3 ∨ (8 ≤ i ∧ i < 88)) → m'.2 0 i = m.2 0 i) : NF m' ∧ ∀ c : Int32, 0 ≤ c → c < 36 → rowM (f_X9_lays m') c.toNatClampNeg = rowM (f_X9_lays m) c.toNatClampNeg := by
  obtain ⟨nf, h1, h2⟩ := hn
  have h16 : m'.2 0 16 = Int32.ofNat nf := by rw [hb 16 (by omega)]; exact h2
  exact ⟨⟨nf, h1, h16⟩, fun c q0 q1 => lays_cg h1 h2 h16 (isCell_cg fun i hi => hb i (by omega)) (fun i hi => hb _ (by omega)) c q0 q1⟩
/-- EVERY or TIMES is put -/
theorem now_put {K K' : Int32} {s p p' m m' : Rec} (hK : K ≤ K') (hN : Now K s p m) (hb : ∀ i, (i < 3 ∨ (8 ≤ i ∧ i < 88)) → m'.2 0 i = m.2 0 i) (h4 : 1 ≤ m'.2 0 4 ∧ m'.2 0 4 ≤ 9) (h5 : 1 ≤ m'.2 0 5 ∧ m'.2 0 5 ≤ 3) (p5 : p'.1 5 = p.1 5) (r : p'.2 = p.2) (p6 : p'.1 6 = p.1 6) (p7 : p'.1 7 = p.1 7) (p8 : p'.1 8 = m'.2 0 4) (p9 : p'.1 9 = m'.2 0 5) : Now K' s p' m' := by
  obtain ⟨hn, hP, hG⟩ := hN
  obtain ⟨hn', hr⟩ := lays_row hn hb
  have b := hn.b.1
  have b' := hn'.b.1
  have hbL : ∀ i, (i < 3 ∨ (8 ≤ i ∧ i < 88)) → (f_X9_lays m').2 0 i = (f_X9_lays m).2 0 i := fun i hi => by rw [b, b']; exact hb i hi
  refine ⟨hn', pr_gen hP hr (fun i hi => hbL i (by omega)) p5 r ?_ ?_ (by rw [b']; exact p8) (by rw [b']; exact p9), gi_gen hG hr hbL hK (by rw [b']; exact h4) (by rw [b']; exact h5)⟩
  · rw [p6, hbL 26 (by omega)]; exact hP.2.2.2.2.1.1
  · rw [p7, hbL 27 (by omega)]; exact hP.2.2.2.2.1.2.1
theorem hist_x {K : Int32} {t m : Rec} (h : Hist K t m) : ∃ x, x < 8 ∧ t.1 1 = Int32.ofNat x := by
  obtain ⟨u, x, _, h2, h3, _⟩ := h
  exact ⟨x, h2, h3⟩
theorem hist_f {K K' : Int32} {t m m' : Rec} (h : Hist K t m) (h6 : m'.2 0 6 = 0) : Hist K' (f_X2_forget t) m' := by
  obtain ⟨x, h1, h2⟩ := hist_x h
  exact hist_0 h1 h2 rfl h6
theorem hm_loop {s g : Rec} (hs : SG s g) : ∀ (n : Nat) (v1 v2 : Int32), Fu 36 n v2 → f_X4_howMany_4 n s v1 v2 = f_X9_many_4 n g v1 v2 := by
  intro n
  induction n with
  | zero => intro v1 v2 hf; exact (hf.z (by decide)).elim
  | succ n ih =>
    intro v1 v2 hf
    rw [f_X4_howMany_4, f_X9_many_4]
    by_cases c1 : Int32.ofInt 36 ≤ v2
    · rw [if_pos c1, if_pos c1]
    · obtain ⟨f1, f2, f3⟩ := hf.s (by decide) c1
      have zz : v1 + Int32.ofInt 0 = v1 := by show v1 + 0 = v1; grind
      have ev : v2 + Int32.ofInt 1 = v2 + 1 := rfl
      rw [if_neg c1, if_neg c1, (hs v2 f2 f3).1, zz, ev, ih _ _ f1, ih _ _ f1]
theorem hm_eq {s g : Rec} (hs : SG s g) : f_X4_howMany s = f_X9_many g := hm_loop hs 40 0 0 (Fu.o (by decide))
theorem many_cg {g g' : Rec} (h : g'.2 0 = g.2 0) : f_X9_many g' = f_X9_many g := by
  have : ∀ (n : Nat) (v1 v2 : Int32), f_X9_many_4 n g' v1 v2 = f_X9_many_4 n g v1 v2 := by
    intro n
    induction n with
    | zero => intros; rfl
    | succ n ih =>
      intro v1 v2
      rw [f_X9_many_4, f_X9_many_4, isCell_congr h, ih, ih]
  exact this _ _ _
section
variable {K : Int32} {c s p t e q s1 p1 s2 p2 t1 t2 m : Rec}
theorem c_put (o oh h k : Rec) (w v : Int32) (hK : K < 100000) (hI : Inv K c s p t e q s1 p1 s2 p2 t1 t2 m) : p_X9_put m w v ∧ (f_X8_put c s p t e o oh h k q s1 p1 s2 p2 t1 t2 w v).1 = (f_X9_put m w v).1 ∧ Inv (K + 1) (f_X8_put c s p t e o oh h k q s1 p1 s2 p2 t1 t2 w v).2.1 s (f_X8_put c s p t e o oh h k q s1 p1 s2 p2 t1 t2 w v).2.2.1 (f_X8_put c s p t e o oh h k q s1 p1 s2 p2 t1 t2 w v).2.2.2 e q s1 p1 s2 p2 t1 t2 (f_X9_put m w v).2 := by
  have hS := hI.1
  obtain ⟨hN, hH, hB⟩ := hS
  have hbL := hN.1.b.1
  have q4 : p.1 8 = m.2 0 4 := by rw [← hbL]; exact hN.2.1.2.2.2.2.1.2.2.1
  have q5 : p.1 9 = m.2 0 5 := by rw [← hbL]; exact hN.2.1.2.2.2.2.1.2.2.2
  have g4 : 1 ≤ m.2 0 4 ∧ m.2 0 4 ≤ 9 := by rw [← hbL]; exact hN.2.2.2.2.2.2.1
  have g5 : 1 ≤ m.2 0 5 ∧ m.2 0 5 ≤ 3 := by rw [← hbL]; exact hN.2.2.2.2.2.2.2.1
  unfold p_X9_put f_X8_put f_X9_put
  rw [in_0, in_1, in_9, in_3, in_w, in_w, in_w]
  have e0 : Int32.ofInt 0 = 0 := rfl
  have e1 : Int32.ofInt 1 = 1 := rfl
  have e3 : Int32.ofInt 3 = 3 := rfl
  have e9 : Int32.ofInt 9 = 9 := rfl
  rw [e0, e1, e3, e9]
  have done : ∀ (f : Nat → Int32) (p' : Rec), (∀ i, (i < 3 ∨ (8 ≤ i ∧ i < 88)) → f i = m.2 0 i) → f 6 = 0 → (1 ≤ f 4 ∧ f 4 ≤ 9) → (1 ≤ f 5 ∧ f 5 ≤ 3) → p'.1 5 = p.1 5 → p'.2 = p.2 → p'.1 6 = p.1 6 → p'.1 7 = p.1 7 → p'.1 8 = f 4 → p'.1 9 = f 5 → Inv (K + 1) c s p' (f_X2_forget t) e q s1 p1 s2 p2 t1 t2 (setA m 0 f) := by
    intro f p' a1 a2 a3 a4 b1 b2 b3 b4 b5 b6
    refine inv_st (m := m) (k1 hK) ⟨now_put (m' := setA m 0 f) (k1 hK) hN a1 a3 a4 b1 b2 b3 b4 b5 b6, hist_f hH a2, fun i hi => ?_⟩ rfl rfl rfl rfl rfl hI.2.2.2.2.2 hI
    show f (52 + i) = 0 ∨ f (52 + i) = 1
    rw [a1 _ (by omega)]
    exact hB i hi
  by_cases w0 : w = 0
  · subst w0
    have c1 : ¬ f_X8_within 0 0 1 = 0 := by decide
    have n01 : ¬ (0 : Int32) = 1 := by decide
    rw [if_neg c1, if_pos rfl, if_pos rfl]
    by_cases c2 : f_X8_within v 1 9 = 0
    · rw [if_pos c2, if_pos c2, if_neg n01]
      exact ⟨⟨fun z => absurd z c1, fun _ => ⟨fun _ => ⟨fun _ => ⟨pp_bad m, trivial⟩, fun z => absurd c2 z⟩, fun z => absurd rfl z⟩⟩, rfl, ref_bad _ hK hI⟩
    · have hv := wi_n.mp c2
      rw [if_neg c2, if_neg c2]
      refine ⟨⟨fun z => absurd z c1, fun _ => ⟨fun _ => ⟨fun z => absurd z c2, fun _ => ⟨vinb (n := 248) (by decide) (by decide), vinb (n := 248) (by decide) (by decide), trivial⟩⟩, fun z => absurd rfl z⟩⟩, ?_, ?_⟩
      · dsimp only
        exact q4
      · dsimp only
        refine done _ _ (fun i hi => ?_) ?_ ?_ ?_ rfl rfl rfl rfl ?_ ?_
        · show upd (upd (m.2 0) 4 v) 6 0 i = _
          rw [upd_at, if_neg (by omega), upd_at, if_neg (by omega)]
        · rfl
        · exact hv
        · exact g5
        · rfl
        · exact q5
  · by_cases w1 : w = 1
    · subst w1
      have c1 : ¬ f_X8_within 1 0 1 = 0 := by decide
      have n10 : ¬ (1 : Int32) = 0 := by decide
      rw [if_neg c1, if_neg n10, if_neg n10, if_pos rfl]
      by_cases c2 : f_X8_within v 1 3 = 0
      · rw [if_pos c2, if_pos c2]
        exact ⟨⟨fun z => absurd z c1, fun _ => ⟨fun z => absurd z n10, fun _ => ⟨fun _ => ⟨pp_bad m, trivial⟩, fun z => absurd c2 z⟩⟩⟩, rfl, ref_bad _ hK hI⟩
      · have hv := wi_n.mp c2
        rw [if_neg c2, if_neg c2]
        refine ⟨⟨fun z => absurd z c1, fun _ => ⟨fun z => absurd z n10, fun _ => ⟨fun z => absurd z c2, fun _ => ⟨vinb (n := 248) (by decide) (by decide), vinb (n := 248) (by decide) (by decide), trivial⟩⟩⟩⟩, ?_, ?_⟩
        · dsimp only
          exact q5
        · dsimp only
          refine done _ _ (fun i hi => ?_) ?_ ?_ ?_ rfl rfl rfl rfl ?_ ?_
          · show upd (upd (m.2 0) 5 v) 6 0 i = _
            rw [upd_at, if_neg (by omega), upd_at, if_neg (by omega)]
          · rfl
          · exact g4
          · exact hv
          · exact q4
          · rfl
    · have c1 : f_X8_within w 0 1 = 0 := wi_z.mpr (by grind)
      rw [if_pos c1, if_neg w0, if_neg w1]
      exact ⟨⟨fun _ => ⟨pp_bad m, trivial⟩, fun z => absurd c1 z⟩, rfl, ref_bad _ hK hI⟩
theorem c_count (o oh h k : Rec) (w : Int32) (hK : K < 100000) (hI : Inv K c s p t e q s1 p1 s2 p2 t1 t2 m) : p_X8_count c s p t e o oh h k q s1 p1 s2 p2 t1 t2 w ∧ p_X9_count m w ∧ (f_X8_count c s p t e o oh h k q s1 p1 s2 p2 t1 t2 w).1 = (f_X9_count m w).1 ∧ Inv (K + 1) (f_X8_count c s p t e o oh h k q s1 p1 s2 p2 t1 t2 w).2 s p t e q s1 p1 s2 p2 t1 t2 (f_X9_count m w).2 := by
  obtain ⟨hP, hG, hp, hF, hb⟩ := inv_g hI
  have hM := inv_mn hI
  have e0 : f_X4_howMany s = f_X9_many m := by rw [hm_eq hP.1, many_cg hb]
  have n2 := mn2 hM
  have h6 : t.1 2 = m.2 0 6 := by
    obtain ⟨u, x, _, _, _, a1, a2, _⟩ := hI.1.2.1
    rw [a1, a2]
  have he := hI.2.2.2.1.1
  unfold p_X8_count p_X9_count f_X8_count f_X9_count f_X9_countOf p_X9_countOf
  rw [in_0, in_3, in_w]
  by_cases c1 : f_X8_within w 0 3 = 0
  · have hw := wi_z.mp c1
    have c2 : Int32.toInt w < 0 ∨ 3 < Int32.toInt w := hw.imp (fun z => (Int32.lt_iff_toInt_lt.mp z : w.toInt < (0 : Int32).toInt)) (fun z => (Int32.lt_iff_toInt_lt.mp z : (3 : Int32).toInt < w.toInt))
    rw [if_pos c1, if_pos c2]
    exact ⟨⟨fun _ => trivial, fun z => absurd c2 z⟩, ⟨fun _ => ⟨pp_bad m, trivial⟩, fun z => absurd c1 z⟩, rfl, ref_bad _ hK hI⟩
  · have w4 : w = 0 ∨ w = 1 ∨ w = 2 ∨ w = 3 := by have hw := wi_n.mp c1; grind
    rw [if_neg c1]
    refine ⟨⟨fun _ => trivial, fun _ => ⟨fun _ => ⟨pp_howMany s, trivial⟩, fun _ => trivial⟩⟩, ⟨fun z => absurd z c1, fun _ => ⟨⟨fun _ => ⟨pp_many m, trivial⟩, fun _ => trivial⟩, trivial⟩⟩, ?_⟩
    have iv := inv_k hK hI
    rcases w4 with hw | hw | hw | hw
    · rw [if_neg (show ¬ (Int32.toInt w < 0 ∨ 3 < Int32.toInt w) by subst hw; decide), if_pos (show Int32.toInt w = 0 by subst hw; decide), if_pos hw]
      exact ⟨e0, iv⟩
    · rw [if_neg (show ¬ (Int32.toInt w < 0 ∨ 3 < Int32.toInt w) by subst hw; decide), if_neg (show ¬ Int32.toInt w = 0 by subst hw; decide), if_pos (show Int32.toInt w = 1 by subst hw; decide), if_neg (show ¬ w = 0 by subst hw; decide), if_pos (show w = Int32.ofInt 1 by subst hw; decide)]
      exact ⟨n2.symm, iv⟩
    · rw [if_neg (show ¬ (Int32.toInt w < 0 ∨ 3 < Int32.toInt w) by subst hw; decide), if_neg (show ¬ Int32.toInt w = 0 by subst hw; decide), if_neg (show ¬ Int32.toInt w = 1 by subst hw; decide), if_pos (show Int32.toInt w = 2 by subst hw; decide), if_neg (show ¬ w = 0 by subst hw; decide), if_neg (show ¬ w = Int32.ofInt 1 by subst hw; decide), if_pos (show w = Int32.ofInt 2 by subst hw; decide)]
      exact ⟨he, iv⟩
    · rw [if_neg (show ¬ (Int32.toInt w < 0 ∨ 3 < Int32.toInt w) by subst hw; decide), if_neg (show ¬ Int32.toInt w = 0 by subst hw; decide), if_neg (show ¬ Int32.toInt w = 1 by subst hw; decide), if_neg (show ¬ Int32.toInt w = 2 by subst hw; decide), if_neg (show ¬ w = 0 by subst hw; decide), if_neg (show ¬ w = Int32.ofInt 1 by subst hw; decide), if_neg (show ¬ w = Int32.ofInt 2 by subst hw; decide)]
      exact ⟨h6, iv⟩
end
/-! images -/
theorem im17 (i : Nat) (hi : i < 2) : ∀ (n j : Nat) (m : Rec), j ≤ 248 → 248 < n + j → p_X9_image_17 n m (nI i) (nI j) ∧ f_X9_image_17 n m (nI i) (nI j) = (1, setA (setA m 1 (fun k => if 248 * i + j ≤ k ∧ k < 248 * i + 248 then m.2 0 (k - 248 * i) else m.2 1 k)) 2 (upd (m.2 2) i 1)) := by
  intro n
  induction n with
  | zero => intro j m h1 h2; omega
  | succ n ih =>
    intro j m h1 h2
    rw [p_X9_image_17, f_X9_image_17]
    have ii : nI i = Int32.ofNat i := rfl
    by_cases q : j = 248
    · have c1 : Int32.ofInt 248 ≤ nI j := le20 (N := 248) (by omega) (by omega)
      have e : (fun k => if 248 * i + j ≤ k ∧ k < 248 * i + 248 then m.2 0 (k - 248 * i) else m.2 1 k) = m.2 1 := by
        funext k
        rw [if_neg (by omega)]
      have ci : (nI i).toNatClampNeg = i := nI_clamp (by omega)
      rw [if_pos c1, e, setA_i, ci]
      exact ⟨⟨fun _ => ⟨vin_n hi (by omega), trivial⟩, fun z => absurd c1 z⟩, rfl⟩
    · have c1 : ¬ Int32.ofInt 248 ≤ nI j := ge20 (N := 248) (by omega) (by omega)
      have a1 : Int32.ofInt 248 * nI i = nI (248 * i) := pk_mul 248 i
      rw [if_neg c1, ni1, a1, nI_add, nI_clamp (by omega), nI_clamp (by omega)]
      obtain ⟨i1, i2⟩ := ih (j + 1) (setA m 1 (upd (m.2 1) (248 * i + j) (m.2 0 j))) (by omega) (by omega)
      refine ⟨⟨fun z => absurd z c1, fun _ => ⟨vin_n (by omega) (by omega), vin_n (by omega) (by omega), i1⟩⟩, ?_⟩
      rw [i2]
      congr 2
      rw [setA_A]
      congr 1
      funext k
      show (if 248 * i + (j + 1) ≤ k ∧ k < 248 * i + 248 then m.2 0 (k - 248 * i) else upd (m.2 1) (248 * i + j) (m.2 0 j) k) = _
      rw [upd_at]
      by_cases z : k = 248 * i + j
      · rw [if_neg (by omega), if_pos z, if_pos (by omega), z, show 248 * i + j - 248 * i = j by omega]
      · by_cases z2 : 248 * i + (j + 1) ≤ k ∧ k < 248 * i + 248
        · rw [if_pos z2, if_pos (by omega)]
        · rw [if_neg z2, if_neg z, if_neg (by omega)]
theorem fr31 (i : Nat) (hi : i < 2) : ∀ (n j : Nat) (m : Rec), j ≤ 248 → 248 < n + j → p_X9_from_31 n m (nI i) (nI j) ∧ f_X9_from_31 n m (nI i) (nI j) = (1, setA m 0 (fun k => if j ≤ k ∧ k < 248 then m.2 1 (248 * i + k) else m.2 0 k)) := by
  intro n
  induction n with
  | zero => intro j m h1 h2; omega
  | succ n ih =>
    intro j m h1 h2
    rw [p_X9_from_31, f_X9_from_31]
    by_cases q : j = 248
    · have c1 : Int32.ofInt 248 ≤ nI j := le20 (N := 248) (by omega) (by omega)
      have e : (fun k => if j ≤ k ∧ k < 248 then m.2 1 (248 * i + k) else m.2 0 k) = m.2 0 := by
        funext k
        rw [if_neg (by omega)]
      rw [if_pos c1, e, setA_i]
      exact ⟨⟨fun _ => trivial, fun z => absurd c1 z⟩, rfl⟩
    · have c1 : ¬ Int32.ofInt 248 ≤ nI j := ge20 (N := 248) (by omega) (by omega)
      have a1 : Int32.ofInt 248 * nI i = nI (248 * i) := pk_mul 248 i
      rw [if_neg c1, ni1, a1, nI_add, nI_clamp (by omega), nI_clamp (by omega)]
      obtain ⟨i1, i2⟩ := ih (j + 1) (setA m 0 (upd (m.2 0) j (m.2 1 (248 * i + j)))) (by omega) (by omega)
      refine ⟨⟨fun z => absurd z c1, fun _ => ⟨vin_n (by omega) (by omega), vin_n (by omega) (by omega), i1⟩⟩, ?_⟩
      rw [i2, setA_A]
      congr 2
      funext k
      show (if j + 1 ≤ k ∧ k < 248 then m.2 1 (248 * i + k) else upd (m.2 0) j (m.2 1 (248 * i + j)) k) = _
      rw [upd_at]
      by_cases z : k = j
      · rw [if_neg (by omega), if_pos z, if_pos (by omega), z]
      · by_cases z2 : j + 1 ≤ k ∧ k < 248
        · rw [if_pos z2, if_pos (by omega)]
        · rw [if_neg z2, if_neg z, if_neg (by omega)]
/-- all that tells how it stands: the book's first entries -/
theorem st_same {K K' : Int32} {s p t m m' : Rec} (hK : K ≤ K') (h : ∀ i, i < 248 → m'.2 0 i = m.2 0 i) (hS : St K s p t m) : St K' s p t m' := by
  obtain ⟨h1, h2, h3⟩ := hS
  exact ⟨now_same (fun i a _ _ _ => h i (by omega)) hK h1, hist_same hK (fun i _ a _ _ => h i a) h2, fun i hi => by rw [h _ (by omega)]; exact h3 i hi⟩
theorem st_cpy {K : Int32} {s p t m : Rec} (s1 p1 t1 : Rec) (hS : St K s p t m) : p_X3_copy s1 p1 s p ∧ p_X2_copy t1 t ∧ St K (f_X3_copy s1 p1 s p).1 (f_X3_copy s1 p1 s p).2 (f_X2_copy t1 t) m := by
  obtain ⟨⟨hn, hP, hG⟩, hH, hB⟩ := hS
  obtain ⟨a1, a2⟩ := cps_sim s1 p1 hP hG
  exact ⟨a1, (cpt_all t1 t).1, ⟨hn, a2, hG⟩, hist_cpy t1 hH, hB⟩
section
variable {K : Int32} {c s p t e q s1 p1 s2 p2 t1 t2 m : Rec}
theorem c_image (o oh h k : Rec) (i : Int32) (hK : K < 100000) (hI : Inv K c s p t e q s1 p1 s2 p2 t1 t2 m) : p_X8_image c s p t e o oh h k q s1 p1 s2 p2 t1 t2 i ∧ p_X9_image m i ∧ (f_X8_image c s p t e o oh h k q s1 p1 s2 p2 t1 t2 i).1 = (f_X9_image m i).1 ∧ Inv (K + 1) (f_X8_image c s p t e o oh h k q s1 p1 s2 p2 t1 t2 i).2.1 s p t e q (f_X8_image c s p t e o oh h k q s1 p1 s2 p2 t1 t2 i).2.2.1 (f_X8_image c s p t e o oh h k q s1 p1 s2 p2 t1 t2 i).2.2.2.1 (f_X8_image c s p t e o oh h k q s1 p1 s2 p2 t1 t2 i).2.2.2.2.1 (f_X8_image c s p t e o oh h k q s1 p1 s2 p2 t1 t2 i).2.2.2.2.2.1 (f_X8_image c s p t e o oh h k q s1 p1 s2 p2 t1 t2 i).2.2.2.2.2.2.1 (f_X8_image c s p t e o oh h k q s1 p1 s2 p2 t1 t2 i).2.2.2.2.2.2.2 (f_X9_image m i).2 := by
  unfold p_X8_image p_X9_image f_X8_image f_X9_image
  rw [in_0, in_1, in_w]
  have e0 : Int32.ofInt 0 = 0 := rfl
  have e1 : Int32.ofInt 1 = 1 := rfl
  rw [e0, e1]
  by_cases c1 : f_X8_within i 0 1 = 0
  · rw [if_pos c1, if_pos c1]
    exact ⟨⟨fun _ => trivial, fun z => absurd c1 z⟩, ⟨fun _ => ⟨pp_bad m, trivial⟩, fun z => absurd c1 z⟩, rfl, ref_bad _ hK hI⟩
  · have i2 : i = 0 ∨ i = 1 := by have := wi_n.mp c1; grind
    rw [if_neg c1, if_neg c1]
    obtain ⟨hS, hA, hB, hT, hR, hQ⟩ := inv_k hK hI
    rcases i2 with rfl | rfl
    · obtain ⟨a1, a2⟩ := im17 0 (by omega) 300 0 m (by omega) (by omega)
      have a2' : f_X9_image_17 300 m 0 0 = (1, setA (setA m 1 (fun k => if 248 * 0 + 0 ≤ k ∧ k < 248 * 0 + 248 then m.2 0 (k - 248 * 0) else m.2 1 k)) 2 (upd (m.2 2) 0 1)) := a2
      obtain ⟨b1, b2, b3⟩ := st_cpy s1 p1 t1 hS
      rw [a2', if_pos rfl]
      refine ⟨⟨fun z => absurd z c1, fun _ => ⟨fun _ => ⟨b1, b2, vinb (n := 2) (by decide) (by decide), trivial⟩, fun z => absurd rfl z⟩⟩, ⟨fun z => absurd z c1, fun _ => a1⟩, rfl, ?_⟩
      dsimp only
      refine ⟨st_fr (m := m) (Int32.le_refl _) rfl hS, Or.inr ⟨?_, ?_, ?_⟩, ?_, hT, hR, hQ⟩
      · show upd (m.2 2) 0 1 0 = 1
        rw [upd_at, if_pos rfl]
      · show upd (c.2 9) 0 1 0 = 1
        rw [upd_at, if_pos rfl]
      · refine st_same (Int32.le_refl _) (fun j hj => ?_) b3
        show (if 248 * 0 + 0 ≤ 248 * 0 + j ∧ 248 * 0 + j < 248 * 0 + 248 then m.2 0 (248 * 0 + j - 248 * 0) else _) = _
        rw [if_pos (by omega), show 248 * 0 + j - 248 * 0 = j by omega]
      · rcases hB with ⟨z1, z2⟩ | ⟨z1, z2, z3⟩
        · refine Or.inl ⟨?_, ?_⟩
          · show upd (m.2 2) 0 1 1 = 0
            rw [upd_at, if_neg (by omega)]; exact z1
          · show upd (c.2 9) 0 1 1 = 0
            rw [upd_at, if_neg (by omega)]; exact z2
        · refine Or.inr ⟨?_, ?_, st_same (Int32.le_refl _) (fun j hj => ?_) z3⟩
          · show upd (m.2 2) 0 1 1 = 1
            rw [upd_at, if_neg (by omega)]; exact z1
          · show upd (c.2 9) 0 1 1 = 1
            rw [upd_at, if_neg (by omega)]; exact z2
          · show (if 248 * 0 + 0 ≤ 248 * 1 + j ∧ 248 * 1 + j < 248 * 0 + 248 then _ else m.2 1 (248 * 1 + j)) = m.2 1 (248 * 1 + j)
            rw [if_neg (by omega)]
    · obtain ⟨a1, a2⟩ := im17 1 (by omega) 300 0 m (by omega) (by omega)
      have a2' : f_X9_image_17 300 m 1 0 = (1, setA (setA m 1 (fun k => if 248 * 1 + 0 ≤ k ∧ k < 248 * 1 + 248 then m.2 0 (k - 248 * 1) else m.2 1 k)) 2 (upd (m.2 2) 1 1)) := a2
      obtain ⟨b1, b2, b3⟩ := st_cpy s2 p2 t2 hS
      have n10 : ¬ (1 : Int32) = 0 := by decide
      rw [a2', if_neg n10, if_pos rfl]
      refine ⟨⟨fun z => absurd z c1, fun _ => ⟨fun z => absurd z n10, fun _ => ⟨fun _ => ⟨b1, b2, vinb (n := 2) (by decide) (by decide), trivial⟩, fun z => absurd rfl z⟩⟩⟩, ⟨fun z => absurd z c1, fun _ => a1⟩, rfl, ?_⟩
      dsimp only
      refine ⟨st_fr (m := m) (Int32.le_refl _) rfl hS, ?_, Or.inr ⟨?_, ?_, ?_⟩, hT, hR, hQ⟩
      · rcases hA with ⟨z1, z2⟩ | ⟨z1, z2, z3⟩
        · refine Or.inl ⟨?_, ?_⟩
          · show upd (m.2 2) 1 1 0 = 0
            rw [upd_at, if_neg (by omega)]; exact z1
          · show upd (c.2 9) 1 1 0 = 0
            rw [upd_at, if_neg (by omega)]; exact z2
        · refine Or.inr ⟨?_, ?_, st_same (Int32.le_refl _) (fun j hj => ?_) z3⟩
          · show upd (m.2 2) 1 1 0 = 1
            rw [upd_at, if_neg (by omega)]; exact z1
          · show upd (c.2 9) 1 1 0 = 1
            rw [upd_at, if_neg (by omega)]; exact z2
          · show (if 248 * 1 + 0 ≤ 248 * 0 + j ∧ 248 * 0 + j < 248 * 1 + 248 then _ else m.2 1 (248 * 0 + j)) = m.2 1 (248 * 0 + j)
            rw [if_neg (by omega)]
      · show upd (m.2 2) 1 1 1 = 1
        rw [upd_at, if_pos rfl]
      · show upd (c.2 9) 1 1 1 = 1
        rw [upd_at, if_pos rfl]
      · refine st_same (Int32.le_refl _) (fun j hj => ?_) b3
        show (if 248 * 1 + 0 ≤ 248 * 1 + j ∧ 248 * 1 + j < 248 * 1 + 248 then m.2 0 (248 * 1 + j - 248 * 1) else _) = _
        rw [if_pos (by omega), show 248 * 1 + j - 248 * 1 = j by omega]
theorem c_from (o oh h k : Rec) (i : Int32) (hK : K < 100000) (hI : Inv K c s p t e q s1 p1 s2 p2 t1 t2 m) : p_X8_from c s p t e o oh h k q s1 p1 s2 p2 t1 t2 i ∧ p_X9_from m i ∧ (f_X8_from c s p t e o oh h k q s1 p1 s2 p2 t1 t2 i).1 = (f_X9_from m i).1 ∧ Inv (K + 1) (f_X8_from c s p t e o oh h k q s1 p1 s2 p2 t1 t2 i).2.1 (f_X8_from c s p t e o oh h k q s1 p1 s2 p2 t1 t2 i).2.2.1 (f_X8_from c s p t e o oh h k q s1 p1 s2 p2 t1 t2 i).2.2.2.1 (f_X8_from c s p t e o oh h k q s1 p1 s2 p2 t1 t2 i).2.2.2.2.1 e (f_X8_from c s p t e o oh h k q s1 p1 s2 p2 t1 t2 i).2.2.2.2.2 s1 p1 s2 p2 t1 t2 (f_X9_from m i).2 := by
  unfold p_X8_from p_X9_from f_X8_from f_X9_from
  rw [in_0, in_1, in_w]
  have e0 : Int32.ofInt 0 = 0 := rfl
  have e1 : Int32.ofInt 1 = 1 := rfl
  rw [e0, e1]
  by_cases c1 : f_X8_within i 0 1 = 0
  · rw [if_pos c1, if_pos c1]
    exact ⟨⟨fun _ => trivial, fun z => absurd c1 z⟩, ⟨fun _ => ⟨pp_bad m, trivial⟩, fun z => absurd c1 z⟩, rfl, ref_bad _ hK hI⟩
  · have hi := wi_n.mp c1
    have vi := vinb (n := 2) (x := i) hi.1 (by grind)
    have i2 : i = 0 ∨ i = 1 := by grind
    rw [if_neg c1, if_neg c1]
    have hIk := inv_k hK hI
    obtain ⟨hS, hA, hB, hT, hR, hQ⟩ := hIk
    rcases i2 with rfl | rfl
    · have cl0 : Int32.toNatClampNeg 0 = 0 := rfl
      rw [cl0]
      rcases hA with ⟨z1, z2⟩ | ⟨z1, z2, z3⟩
      · rw [if_pos z1, if_pos z2]
        exact ⟨⟨fun z => absurd z c1, fun _ => ⟨vi, fun _ => trivial, fun z => absurd z2 z⟩⟩, ⟨fun z => absurd z c1, fun _ => ⟨vi, fun _ => ⟨pp_no m, trivial⟩, fun z => absurd z1 z⟩⟩, rfl, ref_no _ hK hI⟩
      · have n1 : ¬ m.2 2 0 = 0 := by rw [z1]; decide
        have n2 : ¬ c.2 9 0 = 0 := by rw [z2]; decide
        obtain ⟨a1, a2⟩ := fr31 0 (by omega) 300 0 m (by omega) (by omega)
        have a2' : f_X9_from_31 300 m 0 0 = (1, setA m 0 (fun k => if 0 ≤ k ∧ k < 248 then m.2 1 (248 * 0 + k) else m.2 0 k)) := a2
        obtain ⟨b1, b2, b3⟩ := st_cpy s p t z3
        rw [if_neg n1, if_neg n2, if_pos rfl, a2']
        refine ⟨⟨fun z => absurd z c1, fun _ => ⟨vi, fun z => absurd z n2, fun _ => ⟨fun _ => ⟨b1, b2, trivial⟩, fun z => absurd rfl z⟩⟩⟩, ⟨fun z => absurd z c1, fun _ => ⟨vi, fun z => absurd z n1, fun _ => a1⟩⟩, rfl, ?_⟩
        dsimp only
        refine inv_st (m := m) (k1 hK) (st_same (Int32.le_refl _) (fun j hj => ?_) b3) rfl rfl rfl rfl rfl (Or.inl rfl) hI
        show (if 0 ≤ j ∧ j < 248 then m.2 1 (248 * 0 + j) else _) = m.2 1 (248 * 0 + j)
        rw [if_pos (by omega)]
    · have cl1 : Int32.toNatClampNeg 1 = 1 := rfl
      have n10 : ¬ (1 : Int32) = 0 := by decide
      rw [cl1]
      rcases hB with ⟨z1, z2⟩ | ⟨z1, z2, z3⟩
      · rw [if_pos z1, if_pos z2]
        exact ⟨⟨fun z => absurd z c1, fun _ => ⟨vi, fun _ => trivial, fun z => absurd z2 z⟩⟩, ⟨fun z => absurd z c1, fun _ => ⟨vi, fun _ => ⟨pp_no m, trivial⟩, fun z => absurd z1 z⟩⟩, rfl, ref_no _ hK hI⟩
      · have n1 : ¬ m.2 2 1 = 0 := by rw [z1]; decide
        have n2 : ¬ c.2 9 1 = 0 := by rw [z2]; decide
        obtain ⟨a1, a2⟩ := fr31 1 (by omega) 300 0 m (by omega) (by omega)
        have a2' : f_X9_from_31 300 m 1 0 = (1, setA m 0 (fun k => if 0 ≤ k ∧ k < 248 then m.2 1 (248 * 1 + k) else m.2 0 k)) := a2
        obtain ⟨b1, b2, b3⟩ := st_cpy s p t z3
        rw [if_neg n1, if_neg n2, if_neg n10, if_pos rfl, a2']
        refine ⟨⟨fun z => absurd z c1, fun _ => ⟨vi, fun z => absurd z n2, fun _ => ⟨fun z => absurd z n10, fun _ => ⟨fun _ => ⟨b1, b2, trivial⟩, fun z => absurd rfl z⟩⟩⟩⟩, ⟨fun z => absurd z c1, fun _ => ⟨vi, fun z => absurd z n1, fun _ => a1⟩⟩, rfl, ?_⟩
        dsimp only
        refine inv_st (m := m) (k1 hK) (st_same (Int32.le_refl _) (fun j hj => ?_) b3) rfl rfl rfl rfl rfl (Or.inl rfl) hI
        show (if 0 ≤ j ∧ j < 248 then m.2 1 (248 * 1 + j) else _) = m.2 1 (248 * 1 + j)
        rw [if_pos (by omega)]
end
