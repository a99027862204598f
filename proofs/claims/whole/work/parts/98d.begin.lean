/-! layer 3: a board anew -/
theorem bg_loop : ∀ (n : Nat) (s : Rec) (v : Int32), Fu 36 n v → ∃ s', f_X4_begin_12 n s v = f_X4_flatten s' ∧ s'.1 = s.1 ∧ ∀ c : Int32, 0 ≤ c → c < 36 → s'.2 8 c.toNatClampNeg = if c < v then s.2 8 c.toNatClampNeg else f_X4_onBoard s c := by
  intro n
  induction n with
  | zero => intro s v hf; exact (hf.z (by decide)).elim
  | succ n ih =>
    intro s v hf
    rw [f_X4_begin_12]
    by_cases c1 : Int32.ofInt 36 ≤ v
    · rw [if_pos c1]
      refine ⟨s, rfl, rfl, fun c h0 h1 => ?_⟩
      rw [if_pos (by grind)]
    · obtain ⟨f1, f2, f3⟩ := hf.s (by decide) c1
      rw [if_neg c1]
      obtain ⟨s', i0, i1, i2⟩ := ih (setA s 8 (upd (s.2 8) v.toNatClampNeg (f_X4_onBoard s v))) (v + 1) f1
      refine ⟨s', i0, i1, fun c h0 h1 => ?_⟩
      rw [i2 c h0 h1]
      have eo : f_X4_onBoard (setA s 8 (upd (s.2 8) v.toNatClampNeg (f_X4_onBoard s v))) c = f_X4_onBoard s c := rfl
      rw [eo]
      show (if c < v + 1 then upd (s.2 8) v.toNatClampNeg (f_X4_onBoard s v) c.toNatClampNeg else _) = _
      rw [upd_at]
      by_cases z : c = v
      · rw [z, if_pos (by grind), if_pos rfl, if_neg (by grind)]
      · by_cases z2 : c < v
        · rw [if_pos (by grind), if_neg (fun y => z (cl_inj h0 f2 y)), if_pos z2]
        · rw [if_neg (by grind), if_neg z2]
theorem bd88 (w h : Int32) : ∀ (n j : Nat) (m : Rec), j ≤ 36 → 36 < n + j → p_X9_board_88 n m w h (nI j) ∧ f_X9_board_88 n m w h (nI j) = (w * h, setA m 0 (fun i => if 52 + j ≤ i ∧ i < 88 then 0 else m.2 0 i)) := by
  intro n
  induction n with
  | zero => intro j m h1 h2; omega
  | succ n ih =>
    intro j m h1 h2
    rw [p_X9_board_88, f_X9_board_88]
    by_cases q : j = 36
    · have c1 : Int32.ofInt 36 ≤ nI j := le20 (N := 36) (by omega) (by omega)
      have e : (fun i => if 52 + j ≤ i ∧ i < 88 then 0 else m.2 0 i) = m.2 0 := by
        funext k
        rw [if_neg (by omega)]
      rw [if_pos c1, e, setA_i]
      exact ⟨⟨fun _ => trivial, fun z => absurd c1 z⟩, rfl⟩
    · have c1 : ¬ Int32.ofInt 36 ≤ nI j := ge20 (N := 36) (by omega) (by omega)
      have a1 : Int32.ofInt 52 + nI j = nI (52 + j) := nI_add 52 j
      rw [if_neg c1, ni1, a1, nI_clamp (by omega)]
      obtain ⟨i1, i2⟩ := ih (j + 1) (setA m 0 (upd (m.2 0) (52 + j) (Int32.ofInt 0))) (by omega) (by omega)
      refine ⟨⟨fun z => absurd z c1, fun _ => ⟨vin_n (by omega) (by omega), i1⟩⟩, ?_⟩
      rw [i2, setA_A]
      congr 2
      funext k
      show (if 52 + (j + 1) ≤ k ∧ k < 88 then 0 else upd (m.2 0) (52 + j) (Int32.ofInt 0) k) = _
      rw [upd_at]
      by_cases z : k = 52 + j
      · rw [if_neg (by omega), if_pos z, if_pos (by omega)]; rfl
      · by_cases z2 : 52 + (j + 1) ≤ k ∧ k < 88
        · rw [if_pos z2, if_pos (by omega)]
        · rw [if_neg z2, if_neg z, if_neg (by omega)]
theorem many_cg2 {g g' : Rec} (h : ∀ c, f_X9_isCell g' c = f_X9_isCell g c) : f_X9_many g' = f_X9_many g := by
  have : ∀ (n : Nat) (v1 v2 : Int32), f_X9_many_4 n g' v1 v2 = f_X9_many_4 n g v1 v2 := by
    intro n
    induction n with
    | zero => intros; rfl
    | succ n ih =>
      intro v1 v2
      rw [f_X9_many_4, f_X9_many_4, h, ih, ih]
  exact this _ _ _
def mBd (w h : Int32) : Rec := (fun _ => 0, fun _ i => if i = 0 then w else if i = 1 then h else 0)
set_option maxRecDepth 20000 in
theorem many_B {w h : Int32} (hw : 2 ≤ w ∧ w ≤ 6) (hh : 2 ≤ h ∧ h ≤ 6) : f_X9_many (mBd w h) = w * h := by
  have w5 : w = 2 ∨ w = 3 ∨ w = 4 ∨ w = 5 ∨ w = 6 := by grind
  have h5 : h = 2 ∨ h = 3 ∨ h = 4 ∨ h = 5 ∨ h = 6 := by grind
  rcases w5 with rfl | rfl | rfl | rfl | rfl <;> rcases h5 with rfl | rfl | rfl | rfl | rfl <;> decide +kernel
theorem bgn (s p : Rec) (w g : Int32) : (f_X3_begin s p w g).1 = f_X4_begin s w g := by
  unfold f_X3_begin
  dsimp only
section
variable {K : Int32} {c s p t e q s1 p1 s2 p2 t1 t2 m : Rec}
theorem c_board (o oh h k : Rec) (w g : Int32) (hK : K < 100000) (hK0 : 0 ≤ K) (hI : Inv K c s p t e q s1 p1 s2 p2 t1 t2 m) : p_X8_board c s p t e o oh h k q s1 p1 s2 p2 t1 t2 w g ∧ p_X9_board m w g ∧ (f_X8_board c s p t e o oh h k q s1 p1 s2 p2 t1 t2 w g).1 = (f_X9_board m w g).1 ∧ Inv (K + 1) (f_X8_board c s p t e o oh h k q s1 p1 s2 p2 t1 t2 w g).2.1 (f_X8_board c s p t e o oh h k q s1 p1 s2 p2 t1 t2 w g).2.2.1 (f_X8_board c s p t e o oh h k q s1 p1 s2 p2 t1 t2 w g).2.2.2.1 (f_X8_board c s p t e o oh h k q s1 p1 s2 p2 t1 t2 w g).2.2.2.2.1 e (f_X8_board c s p t e o oh h k q s1 p1 s2 p2 t1 t2 w g).2.2.2.2.2 s1 p1 s2 p2 t1 t2 (f_X9_board m w g).2 := by
  have hS := hI.1
  obtain ⟨hN, hH, hB⟩ := hS
  have hb := hN.1.b.1
  have pb := pp_bad m
  unfold p_X8_board p_X9_board f_X8_board f_X9_board
  rw [in_2, in_6, in_w, in_w]
  have e2 : Int32.ofInt 2 = 2 := rfl
  have e6 : Int32.ofInt 6 = 6 := rfl
  rw [e2, e6]
  by_cases c1 : f_X8_within w 2 6 = 0
  · rw [if_pos c1, if_pos c1]
    exact ⟨⟨fun _ => trivial, fun z => absurd c1 z⟩, ⟨fun _ => ⟨pb, trivial⟩, fun z => absurd c1 z⟩, rfl, ref_bad _ hK hI⟩
  · rw [if_neg c1, if_neg c1]
    by_cases c2 : f_X8_within g 2 6 = 0
    · rw [if_pos c2, if_pos c2]
      exact ⟨⟨fun z => absurd z c1, fun _ => ⟨fun _ => trivial, fun z => absurd c2 z⟩⟩, ⟨fun z => absurd z c1, fun _ => ⟨fun _ => ⟨pb, trivial⟩, fun z => absurd c2 z⟩⟩, rfl, ref_bad _ hK hI⟩
    · have hw := wi_n.mp c1
      have hg := wi_n.mp c2
      rw [if_neg c2, if_neg c2]
      obtain ⟨m0, hm0⟩ : ∃ m0, m0 = setA m 0 (upd (upd (upd (upd (upd (upd (upd (m.2 0) (Int32.toNatClampNeg (Int32.ofInt 0)) w) (Int32.toNatClampNeg (Int32.ofInt 1)) g) (Int32.toNatClampNeg 2) (Int32.ofInt 0)) (Int32.toNatClampNeg 6) (Int32.ofInt 0)) (Int32.toNatClampNeg (Int32.ofInt 16)) (Int32.ofInt 0)) (Int32.toNatClampNeg (Int32.ofInt 26)) (Int32.ofInt 0)) (Int32.toNatClampNeg (Int32.ofInt 27)) (Int32.ofInt 0)) := ⟨_, rfl⟩
      obtain ⟨a1, a2⟩ := bd88 w g 40 0 m0 (by omega) (by omega)
      have a2' : f_X9_board_88 40 m0 w g (Int32.ofInt 0) = (w * g, setA m0 0 (fun i => if 52 + 0 ≤ i ∧ i < 88 then 0 else m0.2 0 i)) := a2
      rw [hm0] at a1 a2'
      rw [a2']
      rw [← hm0] at a1
      have bv : ∀ i, m0.2 0 i = if i = 27 then 0 else if i = 26 then 0 else if i = 16 then 0 else if i = 6 then 0 else if i = 2 then 0 else if i = 1 then g else if i = 0 then w else m.2 0 i := by
        intro i
        rw [hm0]
        show upd (upd (upd (upd (upd (upd (upd (m.2 0) 0 w) 1 g) 2 0) 6 0) 16 0) 26 0) 27 0 i = _
        rw [upd_at, upd_at, upd_at, upd_at, upd_at, upd_at, upd_at]
      obtain ⟨m', hm'⟩ : ∃ m', m' = setA m 0 (fun i => if 52 + 0 ≤ i ∧ i < 88 then 0 else m0.2 0 i) := ⟨_, rfl⟩
      have em' : setA (setA m 0 (upd (upd (upd (upd (upd (upd (upd (m.2 0) (Int32.toNatClampNeg (Int32.ofInt 0)) w) (Int32.toNatClampNeg (Int32.ofInt 1)) g) (Int32.toNatClampNeg 2) (Int32.ofInt 0)) (Int32.toNatClampNeg 6) (Int32.ofInt 0)) (Int32.toNatClampNeg (Int32.ofInt 16)) (Int32.ofInt 0)) (Int32.toNatClampNeg (Int32.ofInt 26)) (Int32.ofInt 0)) (Int32.toNatClampNeg (Int32.ofInt 27)) (Int32.ofInt 0))) 0 (fun i => if 52 + 0 ≤ i ∧ i < 88 then 0 else (setA m 0 (upd (upd (upd (upd (upd (upd (upd (m.2 0) (Int32.toNatClampNeg (Int32.ofInt 0)) w) (Int32.toNatClampNeg (Int32.ofInt 1)) g) (Int32.toNatClampNeg 2) (Int32.ofInt 0)) (Int32.toNatClampNeg 6) (Int32.ofInt 0)) (Int32.toNatClampNeg (Int32.ofInt 16)) (Int32.ofInt 0)) (Int32.toNatClampNeg (Int32.ofInt 26)) (Int32.ofInt 0)) (Int32.toNatClampNeg (Int32.ofInt 27)) (Int32.ofInt 0))).2 0 i) = m' := by
        rw [setA_A, hm', hm0]
      rw [em']
      have val : ∀ i, m'.2 0 i = if 52 ≤ i ∧ i < 88 then 0 else m0.2 0 i := by
        intro i
        rw [hm']
        rfl
      have v0 : m'.2 0 0 = w := by rw [val, if_neg (by omega), bv]; rfl
      have v1 : m'.2 0 1 = g := by rw [val, if_neg (by omega), bv]; rfl
      have v2 : m'.2 0 2 = 0 := by rw [val, if_neg (by omega), bv]; rfl
      have v6 : m'.2 0 6 = 0 := by rw [val, if_neg (by omega), bv]; rfl
      have v16 : m'.2 0 16 = 0 := by rw [val, if_neg (by omega), bv]; rfl
      have v26 : m'.2 0 26 = 0 := by rw [val, if_neg (by omega), bv]; rfl
      have v27 : m'.2 0 27 = 0 := by rw [val, if_neg (by omega), bv]; rfl
      have v4 : m'.2 0 4 = m.2 0 4 := by rw [val, if_neg (by omega), bv]; rfl
      have v5 : m'.2 0 5 = m.2 0 5 := by rw [val, if_neg (by omega), bv]; rfl
      have vh : ∀ i, i < 36 → m'.2 0 (52 + i) = 0 := fun i hi => by rw [val, if_pos (by omega)]
      obtain ⟨s', b0, b1, b2⟩ := bg_loop 40 (setG (setG s 0 w) 1 g) 0 (Fu.o (by decide))
      have b0' : f_X4_begin s w g = f_X4_flatten s' := b0
      have s0 : s'.1 0 = w := by rw [b1]; rfl
      have s1' : s'.1 1 = g := by rw [b1]; rfl
      have ob : ∀ d : Int32, 0 ≤ d → d < 36 → s'.2 8 d.toNatClampNeg = f_X9_isCell m' d := by
        intro d d0 d1
        rw [b2 d d0 d1, if_neg (by grind)]
        unfold f_X4_onBoard f_X9_isCell
        have q0 : m'.2 0 (Int32.toNatClampNeg (Int32.ofInt 0)) = w := v0
        have q1 : m'.2 0 (Int32.toNatClampNeg (Int32.ofInt 1)) = g := v1
        have dk := cl_c36 d0 d1
        rw [in_0, in_35, in_w, q0, q1, ix52 d0 (by grind), vh _ dk]
        rfl
      obtain ⟨t1', t2', t3', t4', t5', t6', t7'⟩ := fn_all ob
      have hm_ : f_X4_howMany (f_X4_begin s w g) = w * g := by
        rw [b0', hm_eq t1', many_cg ((fl_all m').2.1 0 (by decide)), ← many_B hw hg]
        refine many_cg2 (fun d => ?_)
        by_cases zd : d < 0 ∨ 36 ≤ d
        · rw [isCell_out zd, isCell_out zd]
        · have d0 : 0 ≤ d := by grind
          have d1 : d < 36 := by grind
          have dk := cl_c36 d0 d1
          unfold f_X9_isCell
          have q0 : m'.2 0 (Int32.toNatClampNeg (Int32.ofInt 0)) = w := v0
          have q1 : m'.2 0 (Int32.toNatClampNeg (Int32.ofInt 1)) = g := v1
          have r0 : (mBd w g).2 0 (Int32.toNatClampNeg (Int32.ofInt 0)) = w := rfl
          have r1 : (mBd w g).2 0 (Int32.toNatClampNeg (Int32.ofInt 1)) = g := rfl
          have r2 : (mBd w g).2 0 (52 + d.toNatClampNeg) = 0 := by
            show (if 52 + d.toNatClampNeg = 0 then w else if 52 + d.toNatClampNeg = 1 then g else 0) = 0
            rw [if_neg (by omega), if_neg (by omega)]
          rw [q0, q1, r0, r1, ix52 d0 (by grind), r2, vh _ dk]
      have gG := hN.2.2
      obtain ⟨_, _, _, _, d4, d5, _, _, _, _⟩ := gG
      rw [hb] at d4 d5
      refine ⟨⟨fun z => absurd z c1, fun _ => ⟨fun z => absurd z c2, fun _ => ⟨⟨pp_begin s w g, trivial⟩, pp_howMany _, trivial⟩⟩⟩, ⟨fun z => absurd z c1, fun _ => ⟨fun z => absurd z c2, fun _ => by rw [hm0] at a1; exact a1⟩⟩, ?_, ?_⟩
      · dsimp only
        rw [bgn]
        exact hm_
      dsimp only
      have eb : (f_X3_begin s p w g).1 = f_X4_flatten s' := by rw [bgn]; exact b0'
      rw [eb]
      have n0 : ∀ i : Nat, i < 8 → ¬ Int32.ofNat i < m'.2 0 2 := by
        intro i hi z
        rw [v2] at z
        have : 0 ≤ Int32.ofNat i := by rw [n32_0, Int32.toInt_ofNat_of_lt (by omega)]; omega
        grind
      refine inv_st (m := m) (k1 hK) ⟨now_flat v16 v27 t1' t2' ⟨(show (0 : Int32) ≤ 0 by decide), (show (0 : Int32) ≤ 8 by decide), v2, fun v z0 z1 => ?_⟩ ⟨by rw [t3', s0, v0], by rw [t4', s1', v1], t5'⟩ ⟨v26.symm, rfl, ?_, ?_⟩ (by rw [v26]; grind) (by rw [v4]; exact d4) (by rw [v5]; exact d5) (by rw [v0, v1]; exact ⟨hw.1, hw.2, hg.1, hg.2⟩) (fun i i1 i2 => absurd i1 (n0 i i2)) (fun i j i1 i2 => absurd i1 (n0 i i2)), hist_f hH v6, fun i hi => Or.inl (vh i hi)⟩ ?_ ?_ ?_ ?_ ?_ (Or.inl rfl) hI
      · exfalso
        have z1' : v < 0 := z1
        grind
      · show p.1 8 = _
        rw [v4, ← hb]; exact hN.2.1.2.2.2.2.1.2.2.1
      · show p.1 9 = _
        rw [v5, ← hb]; exact hN.2.1.2.2.2.2.1.2.2.2
      · rw [hm']; rfl
      · rw [hm']; rfl
      · rw [hm']; rfl
      · rw [hm']; rfl
      · rw [hm']; rfl
end
