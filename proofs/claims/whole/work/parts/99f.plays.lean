/-! layer 3: the reference's search -/
def LegK (g : Rec) (j : Nat) : Prop := Leg g (kx g j) (ky g j) (jw j) (jd j)
def NxK (g : Rec) (j : Nat) : Rec := (f_X9_steps g (kx g j) (ky g j) (jw j) (jd j)).2
def JJ (g : Rec) : Nat := 8 * wdN g * hgN g
theorem jj_288 {K : Int32} {g : Rec} (hG : GI K g) : JJ g ≤ 288 := by
  obtain ⟨b1, b2, b3, b4⟩ := wd_b hG
  exact jj_b b2 b4
theorem same_k {s p m g : Rec} (h1 : PR s p m) (h2 : PR s p g) : JJ m = JJ g ∧ (∀ j, kx m j = kx g j) ∧ ∀ j, ky m j = ky g j := by
  obtain ⟨a1, a2, a3, a4, _⟩ := h1.2.1
  obtain ⟨b1, b2, b3, b4, _⟩ := h2.2.1
  have e1 : f_X9_end m 0 0 = f_X9_end g 0 0 := a1.symm.trans b1
  have e2 : f_X9_end m 0 1 = f_X9_end g 0 1 := a2.symm.trans b2
  have e3 : f_X9_end m 1 0 = f_X9_end g 1 0 := a3.symm.trans b3
  have e4 : f_X9_end m 1 1 = f_X9_end g 1 1 := a4.symm.trans b4
  unfold JJ kx ky wdN hgN
  rw [e1, e2, e3, e4]
  exact ⟨rfl, fun _ => rfl, fun _ => rfl⟩
theorem gi_fr {K : Int32} {m m' : Rec} (h0 : m'.2 0 = m.2 0) (h4 : m'.2 4 = m.2 4) (h5 : m'.2 5 = m.2 5) (h6 : m'.2 6 = m.2 6) (h7 : m'.2 7 = m.2 7) (h : GI K m) : GI K m' := by
  have h' := h
  obtain ⟨_, _, d27, d26, _, _, hany, _, _, hdis⟩ := h
  exact gi_move h' (fun c _ _ => by unfold rowM; rw [h4, h5, h6, h7]) (fun i _ => by rw [h0]) (by rw [h0]; exact d27) (by rw [h0]; exact d26) (by rw [h0]; exact hany) (by rw [h0]; exact hdis)
theorem turn_b {m g : Rec} (h : m.2 0 = g.2 0) : f_X9_turn m = f_X9_turn g := by
  unfold f_X9_turn
  rw [h]
/-- a state in which steps are tried at level L -/
def Sc (K : Int32) (s p g : Rec) (L : Nat) (m : Rec) : Prop := PR s p m ∧ GI K m ∧ m.2 0 = g.2 0 ∧ ∀ i, i < 20 → m.2 14 (20 * L + i) = g.2 0 (8 + i)
theorem sc_fr {K : Int32} {s p g : Rec} {L : Nat} {m m' : Rec} (hG : GI K g) (hP : PR s p g) (h0 : m'.2 0 = m.2 0) (h4 : m'.2 4 = m.2 4) (h5 : m'.2 5 = m.2 5) (h6 : m'.2 6 = m.2 6) (h7 : m'.2 7 = m.2 7) (h14 : m'.2 14 = m.2 14) (h : Sc K s p g L m) : Sc K s p g L m' := by
  obtain ⟨a1, a2, a3, a4⟩ := h
  have g' := gi_fr h0 h4 h5 h6 h7 a2
  exact ⟨pr_b (g := m) h0 a2 g' a1, g', h0.trans a3, fun i hi => by rw [h14]; exact a4 i hi⟩
def FrP (L : Nat) (m m' : Rec) : Prop := (∀ k, k ≠ 8 → k ≠ 10 → k ≠ 11 → k ≠ 12 → k ≠ 18 → k ≠ 19 → k ≠ 20 → k ≠ 21 → m'.1 k = m.1 k) ∧ (∀ j, j ≠ 0 → j ≠ 4 → j ≠ 5 → j ≠ 6 → j ≠ 7 → j ≠ 14 → j ≠ 15 → j ≠ 16 → m'.2 j = m.2 j) ∧ (∀ i, (i < 8 ∨ 28 ≤ i) → m'.2 0 i = m.2 0 i) ∧ (∀ i, i < 20 * L → m'.2 14 i = m.2 14 i) ∧ (∀ i, i < L → m'.2 15 i = m.2 15 i ∧ m'.2 16 i = m.2 16 i)
theorem FrP.r (L : Nat) (m : Rec) : FrP L m m := ⟨fun _ _ _ _ _ _ _ _ _ => rfl, fun _ _ _ _ _ _ _ _ _ => rfl, fun _ _ => rfl, fun _ _ => rfl, fun _ _ => ⟨rfl, rfl⟩⟩
theorem FrP.t {L : Nat} {a b c : Rec} (h1 : FrP L a b) (h2 : FrP L b c) : FrP L a c := ⟨fun k q1 q2 q3 q4 q5 q6 q7 q8 => (h2.1 k q1 q2 q3 q4 q5 q6 q7 q8).trans (h1.1 k q1 q2 q3 q4 q5 q6 q7 q8), fun j q1 q2 q3 q4 q5 q6 q7 q8 => (h2.2.1 j q1 q2 q3 q4 q5 q6 q7 q8).trans (h1.2.1 j q1 q2 q3 q4 q5 q6 q7 q8), fun i hi => (h2.2.2.1 i hi).trans (h1.2.2.1 i hi), fun i hi => (h2.2.2.2.1 i hi).trans (h1.2.2.2.1 i hi), fun i hi => ⟨(h2.2.2.2.2 i hi).1.trans (h1.2.2.2.2 i hi).1, (h2.2.2.2.2 i hi).2.trans (h1.2.2.2.2 i hi).2⟩⟩
theorem FrP.m {L L' : Nat} {a b : Rec} (hl : L ≤ L') (h : FrP L' a b) : FrP L a b := ⟨h.1, h.2.1, h.2.2.1, fun i hi => h.2.2.2.1 i (by omega), fun i hi => h.2.2.2.2 i (by omega)⟩
theorem frp_m {g g' : Rec} (L : Nat) (h : Frm g g') : FrP L g g' := ⟨fun k q1 _ _ _ _ _ _ _ => h.1 k q1, fun j q1 q2 q3 q4 q5 _ _ _ => h.2.1 j q1 q2 q3 q4 q5, h.2.2, fun i _ => by rw [h.2.1 14 (by decide) (by decide) (by decide) (by decide) (by decide)], fun i _ => ⟨by rw [h.2.1 15 (by decide) (by decide) (by decide) (by decide) (by decide)], by rw [h.2.1 16 (by decide) (by decide) (by decide) (by decide) (by decide)]⟩⟩
theorem frp_s {g g' : Rec} (L : Nat) (h : FrS g g') : FrP L g g' := ⟨fun k _ q2 q3 q4 _ _ _ _ => h.1 k q2 q3 q4, fun j q1 q2 q3 q4 q5 _ _ _ => h.2.1 j q1 q2 q3 q4 q5, fun i hi => h.2.2 i (by omega), fun i _ => by rw [h.2.1 14 (by decide) (by decide) (by decide) (by decide) (by decide)], fun i _ => ⟨by rw [h.2.1 15 (by decide) (by decide) (by decide) (by decide) (by decide)], by rw [h.2.1 16 (by decide) (by decide) (by decide) (by decide) (by decide)]⟩⟩
theorem frp_h {g g' : Rec} (L : Nat) (h : FrH g g') : FrP L g g' := ⟨fun k _ q2 q3 q4 _ _ _ _ => h.1 k q2 q3 q4, fun j _ q2 q3 q4 q5 _ _ _ => h.2 j q2 q3 q4 q5, fun i _ => by rw [h.b], fun i _ => by rw [h.2 14 (by decide) (by decide) (by decide) (by decide)], fun i _ => ⟨by rw [h.2 15 (by decide) (by decide) (by decide) (by decide)], by rw [h.2 16 (by decide) (by decide) (by decide) (by decide)]⟩⟩
theorem s154 {K K' : Int32} {s p g : Rec} {L : Nat} {n me v5 : Int32} {K8 : Rec → Int32 → Int32 → Int32 → Int32 → Int32 → Int32 × Rec} {G8 : Rec → Int32 → Int32 → Int32 → Int32 → Int32 → Prop} (hP : PR s p g) (hG : GI K g) (hK : K < 1000000) (hL : L ≤ 3) : ∀ (N j : Nat) (m : Rec), j ≤ JJ g → JJ g + 2 < N + j → Sc K s p g L m → m.2 15 L = nI j →
    ∃ (j' : Nat) (M : Rec), j ≤ j' ∧ j' ≤ JJ g ∧ (∀ i, j ≤ i → i < j' → ¬ LegK g i) ∧ Sc K s p g L M ∧ M.2 15 L = nI (j' + 1) ∧ M.2 16 = m.2 16 ∧ FrP L m M ∧
      ((j' = JJ g ∧ f_X9_plays_154 K8 N m n me (nI L) (Int32.ofInt 1) v5 (Int32.ofInt 0) (Int32.ofInt 1) = f_X9_plays_224 K8 M n me (nI L) (Int32.ofInt 1) v5 (Int32.ofInt 0) ∧ (p_X9_plays_224 G8 M n me (nI L) (Int32.ofInt 1) v5 (Int32.ofInt 0) → p_X9_plays_154 G8 N m n me (nI L) (Int32.ofInt 1) v5 (Int32.ofInt 0) (Int32.ofInt 1))) ∨
       (j' < JJ g ∧ LegK g j' ∧ f_X9_plays_154 K8 N m n me (nI L) (Int32.ofInt 1) v5 (Int32.ofInt 0) (Int32.ofInt 1) = f_X9_plays_224 K8 (f_X9_steps M (kx g j') (ky g j') (jw j') (jd j')).2 n me (nI L) (Int32.ofInt 1) v5 (Int32.ofInt 1) ∧ (p_X9_plays_224 G8 (f_X9_steps M (kx g j') (ky g j') (jw j') (jd j')).2 n me (nI L) (Int32.ofInt 1) v5 (Int32.ofInt 1) → p_X9_plays_154 G8 N m n me (nI L) (Int32.ofInt 1) v5 (Int32.ofInt 0) (Int32.ofInt 1)))) := by
  have j288 := jj_288 hG
  have i1 : ¬ Int32.ofInt 1 = 0 := by decide
  have i0 : Int32.ofInt 0 = 0 := rfl
  intro N
  induction N with
  | zero => intro j m h1 h2; omega
  | succ N ih =>
    intro j m hj hN hS h15
    obtain ⟨N, rfl⟩ : ∃ z, N = z + 1 := ⟨N - 1, by omega⟩
    obtain ⟨sk1, sk2, sk3⟩ := same_k hS.1 hP
    obtain ⟨pp, pe⟩ := ps_all hS.2.1 (j := j) (by omega)
    have vL : vp_in (nI L) 5 := vp_in_nI (by omega) (by omega)
    rw [sk2, sk3] at pe
    have pe' : f_X9_picksStep m (nI j) = (if JJ g ≤ j then 0 else 1, mk4 m (kx g j) (ky g j) (jw j) (jd j)) := by
      rw [pe, ← sk1]
      rfl
    obtain ⟨Q, hQ⟩ : ∃ z, z = mk4 m (kx g j) (ky g j) (jw j) (jd j) := ⟨_, rfl⟩
    have Q18 : Q.1 18 = kx g j := by rw [hQ, mk4_18]
    have Q19 : Q.1 19 = ky g j := by rw [hQ, mk4_19]
    have Q20 : Q.1 20 = jw j := by rw [hQ, mk4_20]
    have Q21 : Q.1 21 = jd j := by rw [hQ, mk4_21]
    have Q2 : Q.2 = m.2 := by rw [hQ, mk4_2]
    have Qo : ∀ k, k ≠ 18 → k ≠ 19 → k ≠ 20 → k ≠ 21 → Q.1 k = m.1 k := fun k a b c d => by rw [hQ, mk4_o _ _ _ _ _ k a b c d]
    rw [← hQ] at pe'
    obtain ⟨M1, hM1⟩ : ∃ z, z = setA Q 15 (upd (Q.2 15) L (Q.2 15 L + Int32.ofInt 1)) := ⟨_, rfl⟩
    have M2 : ∀ x, x ≠ 15 → M1.2 x = m.2 x := fun x hx => by rw [hM1, setA_ne hx, Q2]
    have M15 : M1.2 15 L = nI (j + 1) := by
      rw [hM1, setA_at, upd_at, if_pos rfl, Q2, h15, ni1]
    have fr1 : FrP L m M1 := by
      refine ⟨fun k _ _ _ _ q5 q6 q7 q8 => ?_, fun x q1 _ _ _ _ _ q7 _ => M2 x q7, fun i _ => by rw [M2 0 (by decide)], fun i _ => by rw [M2 14 (by decide)], fun i hi => ⟨?_, by rw [M2 16 (by decide)]⟩⟩
      · rw [hM1, setA_1]; exact Qo k q5 q6 q7 q8
      · rw [hM1, setA_at, upd_at, if_neg (by omega), Q2]
    have sc1 : Sc K s p g L M1 := sc_fr hG hP (M2 0 (by decide)) (M2 4 (by decide)) (M2 5 (by decide)) (M2 6 (by decide)) (M2 7 (by decide)) (M2 14 (by decide)) hS
    rw [f_X9_plays_154, p_X9_plays_154, if_neg i1, if_pos i0, nI_clamp (n := L) (by omega), h15, pe']
    dsimp only
    rw [← hM1, Q18, Q19, Q20, Q21]
    by_cases c1 : JJ g ≤ j
    · have ej : j = JJ g := by omega
      rw [if_pos c1, if_pos rfl, f_X9_plays_154, p_X9_plays_154, if_pos rfl]
      refine ⟨j, M1, Nat.le_refl _, hj, fun i h1 h2 => by omega, sc1, M15, M2 16 (by decide), fr1, Or.inl ⟨ej, rfl, fun hp => ?_⟩⟩
      exact ⟨fun z => absurd z i1, fun _ => ⟨fun _ => ⟨vL, pp, vL, vL, fun _ => ⟨fun _ => hp, fun z => absurd rfl z⟩, fun z => absurd rfl z⟩, fun z => absurd i0 z⟩⟩
    · have o0 : ¬ (1 : Int32) = 0 := by decide
      rw [if_neg c1, if_neg o0]
      have okj := ok_j j
      have ps := pst sc1.1 sc1.2.1 (kx g j) (ky g j) (jw j) (jd j)
      have lg : LegK g j ↔ Leg M1 (kx g j) (ky g j) (jw j) (jd j) := by
        unfold LegK
        rw [leg_goal hP hG hK okj, leg_goal sc1.1 sc1.2.1 hK okj]
      by_cases c2 : LegK g j
      · obtain ⟨_, t2, _⟩ := step_sim sc1.1 sc1.2.1 hK (lg.mp c2) okj.1 okj.2.1 okj.2.2
        have n0 : ¬ (f_X9_steps M1 (kx g j) (ky g j) (jw j) (jd j)).1 = 0 := by rw [t2]; decide
        rw [if_neg n0, f_X9_plays_154, p_X9_plays_154, if_neg o0, if_neg i1]
        refine ⟨j, M1, Nat.le_refl _, hj, fun i h1 h2 => by omega, sc1, M15, M2 16 (by decide), fr1, Or.inr ⟨by omega, c2, rfl, fun hp => ?_⟩⟩
        exact ⟨fun z => absurd z i1, fun _ => ⟨fun _ => ⟨vL, pp, vL, vL, fun z => absurd z o0, fun _ => ⟨ps, fun z => absurd z n0, fun _ => ⟨fun z => absurd z o0, fun _ => ⟨fun z => absurd z i1, fun _ => hp⟩⟩⟩⟩, fun z => absurd i0 z⟩⟩
      · have st := (steps_leg M1 (kx g j) (ky g j) (jw j) (jd j)).2 (fun z => c2 (lg.mpr z))
        rw [st]
        dsimp only
        rw [if_pos rfl]
        obtain ⟨j', M, a1, a2, a3, a4, a5, a6, a7, a8⟩ := ih (j + 1) M1 (by omega) (by omega) sc1 M15
        refine ⟨j', M, by omega, a2, fun i h1 h2 => ?_, a4, a5, by rw [a6, M2 16 (by decide)], fr1.t a7, ?_⟩
        · by_cases w : i = j
          · rw [w]; exact c2
          · exact a3 i (by omega) h2
        · have wrap : p_X9_plays_154 G8 (N + 1) M1 n me (nI L) (Int32.ofInt 1) v5 (Int32.ofInt 0) (Int32.ofInt 1) → ((Int32.ofInt 1 = 0 → p_X9_plays_224 G8 m n me (nI L) (Int32.ofInt 1) v5 (Int32.ofInt 0)) ∧ (¬ Int32.ofInt 1 = 0 → ((Int32.ofInt 0 = 0 → (vp_in (nI L) 5 ∧ (p_X9_picksStep m (nI j) ∧ (vp_in (nI L) 5 ∧ (vp_in (nI L) 5 ∧ (((1 : Int32) = 0 → p_X9_plays_154 G8 (N + 1) M1 n me (nI L) (Int32.ofInt 1) v5 (Int32.ofInt 0) 1) ∧ (¬ (1 : Int32) = 0 → (p_X9_steps M1 (kx g j) (ky g j) (jw j) (jd j) ∧ (((0 : Int32) = 0 → p_X9_plays_154 G8 (N + 1) M1 n me (nI L) (Int32.ofInt 1) v5 (Int32.ofInt 0) 1) ∧ (¬ (0 : Int32) = 0 → p_X9_plays_154 G8 (N + 1) M1 n me (nI L) (Int32.ofInt 1) v5 (Int32.ofInt 1) 1)))))))))) ∧ (¬ Int32.ofInt 0 = 0 → p_X9_plays_224 G8 m n me (nI L) (Int32.ofInt 1) v5 (Int32.ofInt 0))))) := by
            intro hp
            exact ⟨fun z => absurd z i1, fun _ => ⟨fun _ => ⟨vL, pp, vL, vL, fun z => absurd z o0, fun _ => ⟨ps, fun _ => hp, fun z => absurd rfl z⟩⟩, fun z => absurd i0 z⟩⟩
          rcases a8 with ⟨b1, b2, b3⟩ | ⟨b1, b2, b3, b4⟩
          · exact Or.inl ⟨b1, b2, fun hp => wrap (b3 hp)⟩
          · exact Or.inr ⟨b1, b2, b3, fun hp => wrap (b4 hp)⟩
/-- how many turns a search takes -/
def Cst : Nat → Nat
  | 0 => 1
  | n + 1 => 2 + 290 * (Cst n + 1)
/-- what a search from a level on comes to -/
def Pl (me : Int32) (n l L : Nat) : Prop := ∀ (K : Int32) (s p m : Rec) (fuel : Nat) (v5 : Int32), K < 800010 - Int32.ofNat l → PR s p m → GI K m → Cst l ≤ fuel → ∃ (fuel' : Nat) (m' : Rec) (val : Int32), fuel ≤ fuel' + Cst l ∧ f_X9_plays_8 fuel m (nI n) me (nI L) (Int32.ofInt 1) v5 = f_X9_plays_8 fuel' m' (nI n) me (nI L + Int32.ofInt (-1)) (Int32.ofInt 0) val ∧ (p_X9_plays_8 fuel' m' (nI n) me (nI L + Int32.ofInt (-1)) (Int32.ofInt 0) val → p_X9_plays_8 fuel m (nI n) me (nI L) (Int32.ofInt 1) v5) ∧ (val = 1 ∨ val = 0) ∧ (val = 1 ↔ Vw me l m) ∧ FrP L m m'
theorem tk_11 {K : Int32} {s p g m : Rec} {L : Nat} (hL : L ≤ 3) (hP : PR s p g) (hG : GI K g) (hb : ∀ i, (i < 8 ∨ 28 ≤ i) → m.2 0 i = g.2 0 i) (h14 : ∀ i, i < 20 → m.2 14 (20 * L + i) = g.2 0 (8 + i)) : p_X9_takes_v11 m (Int32.ofInt 20 * nI L) ∧ f_X9_takes_v11 m (Int32.ofInt 20 * nI L) = f_X9_lays (setA m 0 (g.2 0)) ∧ FrH (setA m 0 (g.2 0)) (f_X9_lays (setA m 0 (g.2 0))) ∧ PR s p (f_X9_lays (setA m 0 (g.2 0))) ∧ GI K (f_X9_lays (setA m 0 (g.2 0))) := by
  have e20 : Int32.ofInt 20 * nI L = nI (20 * L) := pk_mul 20 L
  have e : (fun i => if 8 + 0 ≤ i ∧ i < 28 then m.2 14 (20 * L + (i - 8)) else m.2 0 i) = g.2 0 := by
    funext i
    by_cases z : 8 + 0 ≤ i ∧ i < 28
    · rw [if_pos z, h14 _ (by omega), show 8 + (i - 8) = i by omega]
    · rw [if_neg z, hb i (by omega)]
  obtain ⟨l1, l2, l3, l4, l5⟩ := la_all (m := setA m 0 (g.2 0)) hP hG setA_at
  obtain ⟨a1, a2⟩ := tk11 (20 * L) (by omega) 40 0 m (by omega) (by omega) (by rw [e]; exact l1)
  rw [e] at a2
  rw [e20]
  exact ⟨a1, a2, l2, l4, l5⟩
theorem scan {K me : Int32} {s p g : Rec} {n l L : Nat} (hK : K < 800009 - Int32.ofNat l) (hl3 : l ≤ 3) (hL : L + 1 ≤ 3) (hP : PR s p g) (hG : GI K g) (hme : me = 0 ∨ me = 1) (IH : Pl me n l (L + 1)) : ∀ (q j fuel : Nat) (m : Rec) (v5 : Int32), JJ g - j ≤ q → j ≤ JJ g → (q + 1) * (Cst l + 1) + 1 ≤ fuel → Sc K s p g L m → m.2 15 L = nI j → ((m.2 16 L = 0 ∧ ∀ i, i < j → ¬ LegK g i) ∨ (m.2 16 L = 1 ∧ (∃ i, i < j ∧ LegK g i) ∧ ∀ i, i < j → LegK g i → (Vw me l (NxK g i) ↔ ¬ f_X9_turn g = me))) →
    ∃ (fuel' : Nat) (m' : Rec) (val : Int32), fuel ≤ fuel' + (q + 1) * (Cst l + 1) ∧ f_X9_plays_154 (f_X9_plays_8 fuel) 1000000000000 m (nI n) me (nI L) (Int32.ofInt 1) v5 (Int32.ofInt 0) (Int32.ofInt 1) = f_X9_plays_8 fuel' m' (nI n) me (nI L + Int32.ofInt (-1)) (Int32.ofInt 0) val ∧ (p_X9_plays_8 fuel' m' (nI n) me (nI L + Int32.ofInt (-1)) (Int32.ofInt 0) val → p_X9_plays_154 (p_X9_plays_8 fuel) 1000000000000 m (nI n) me (nI L) (Int32.ofInt 1) v5 (Int32.ofInt 0) (Int32.ofInt 1)) ∧ (val = 1 ∨ val = 0) ∧ (val = 1 ↔ ((f_X9_turn g = me ∧ ∃ i, i < JJ g ∧ LegK g i ∧ Vw me l (NxK g i)) ∨ (¬ f_X9_turn g = me ∧ (∃ i, i < JJ g ∧ LegK g i) ∧ ∀ i, i < JJ g → LegK g i → Vw me l (NxK g i)))) ∧ FrP L m m' := by
  have j288 := jj_288 hG
  have l0 : 0 ≤ Int32.ofNat l := nI_pos' (n := l) (by omega)
  have l5 : Int32.ofNat l ≤ 3 := nI_le (a := l) (b := 3) (by omega) (by omega)
  have hK1 : K < 1000000 := by grind
  have i1 : ¬ Int32.ofInt 1 = 0 := by decide
  have i0 : Int32.ofInt 0 = 0 := rfl
  have vL : vp_in (nI L) 5 := vp_in_nI (by omega) (by omega)
  intro q
  induction q with
  | zero =>
    intro j fuel m v5 hq hj hf hS h15 hA
    obtain ⟨j', M, a1, a2, a3, a4, a5, a6, a7, a8⟩ := s154 (K' := K) (K8 := f_X9_plays_8 fuel) (G8 := p_X9_plays_8 fuel) (n := nI n) (me := me) (v5 := v5) hP hG hK1 (by omega) 1000000000000 j m hj (by omega) hS h15
    have ej : j' = JJ g := by omega
    have jJ : j = JJ g := by omega
    rcases a8 with ⟨_, b2, b3⟩ | ⟨b1, _⟩
    · have tM := turn_b a4.2.2.1
      rw [b2]
      unfold f_X9_plays_224 p_X9_plays_224 at *
      rw [if_pos i0, nI_clamp (n := L) (by omega), a6, tM] at *
      rw [jJ] at hA
      rcases hA with ⟨h0, h1⟩ | ⟨h0, ⟨i, i2, i3⟩, h2⟩
      · rw [if_pos h0]
        refine ⟨fuel, M, Int32.ofInt 0, by omega, rfl, fun hp => b3 ⟨fun _ => ⟨vL, fun _ => hp, fun z => absurd h0 z⟩, fun z => absurd i0 z⟩, Or.inr rfl, ⟨fun z => absurd z (by decide), fun z => ?_⟩, a7⟩
        rcases z with ⟨_, i, q1, q2, _⟩ | ⟨_, ⟨i, q1, q2⟩, _⟩
        · exact absurd q2 (h1 i q1)
        · exact absurd q2 (h1 i q1)
      · have n0 : ¬ m.2 16 L = 0 := by rw [h0]; decide
        rw [if_neg n0]
        by_cases ct : f_X9_turn g = me
        · rw [if_pos ct]
          refine ⟨fuel, M, Int32.ofInt 0, by omega, rfl, fun hp => b3 ⟨fun _ => ⟨vL, fun z => absurd z n0, fun _ => ⟨fun _ => hp, fun z => absurd ((turn_b a4.2.2.1).trans ct) z⟩⟩, fun z => absurd i0 z⟩, Or.inr rfl, ⟨fun z => absurd z (by decide), fun z => ?_⟩, a7⟩
          rcases z with ⟨_, i, q1, q2, q3⟩ | ⟨q1, _⟩
          · exact absurd ct ((h2 i q1 q2).mp q3)
          · exact absurd ct q1
        · rw [if_neg ct]
          exact ⟨fuel, M, Int32.ofInt 1, by omega, rfl, fun hp => b3 ⟨fun _ => ⟨vL, fun z => absurd z n0, fun _ => ⟨fun z => absurd ((turn_b a4.2.2.1).symm.trans z) ct, fun _ => hp⟩⟩, fun z => absurd i0 z⟩, Or.inl rfl, ⟨fun _ => Or.inr ⟨ct, ⟨i, i2, i3⟩, fun x q1 q2 => (h2 x q1 q2).mpr ct⟩, fun _ => rfl⟩, a7⟩
    · omega
  | succ q ih =>
    intro j fuel m v5 hq hj hf hS h15 hA
    have eC : (q + 1 + 1) * (Cst l + 1) = (q + 1) * (Cst l + 1) + (Cst l + 1) := Nat.succ_mul _ _
    obtain ⟨j', M, a1, a2, a3, a4, a5, a6, a7, a8⟩ := s154 (K' := K) (K8 := f_X9_plays_8 fuel) (G8 := p_X9_plays_8 fuel) (n := nI n) (me := me) (v5 := v5) hP hG hK1 (by omega) 1000000000000 j m hj (by omega) hS h15
    have hA' : (m.2 16 L = 0 ∧ ∀ i, i < j' → ¬ LegK g i) ∨ (m.2 16 L = 1 ∧ (∃ i, i < j' ∧ LegK g i) ∧ ∀ i, i < j' → LegK g i → (Vw me l (NxK g i) ↔ ¬ f_X9_turn g = me)) := by
      rcases hA with ⟨h0, h1⟩ | ⟨h0, ⟨i, i2, i3⟩, h2⟩
      · refine Or.inl ⟨h0, fun i hi => ?_⟩
        by_cases w : i < j
        · exact h1 i w
        · exact a3 i (by omega) hi
      · refine Or.inr ⟨h0, ⟨i, by omega, i3⟩, fun x hx hx2 => ?_⟩
        by_cases w : x < j
        · exact h2 x w hx2
        · exact absurd hx2 (a3 x (by omega) hx)
    rcases a8 with ⟨b1, b2, b3⟩ | ⟨b1, b2, b3, b4⟩
    · have tM := turn_b a4.2.2.1
      rw [b2]
      unfold f_X9_plays_224 p_X9_plays_224 at *
      rw [if_pos i0, nI_clamp (n := L) (by omega), a6, tM] at *
      rw [b1] at hA'
      rcases hA' with ⟨h0, h1⟩ | ⟨h0, ⟨i, i2, i3⟩, h2⟩
      · rw [if_pos h0]
        refine ⟨fuel, M, Int32.ofInt 0, by omega, rfl, fun hp => b3 ⟨fun _ => ⟨vL, fun _ => hp, fun z => absurd h0 z⟩, fun z => absurd i0 z⟩, Or.inr rfl, ⟨fun z => absurd z (by decide), fun z => ?_⟩, a7⟩
        rcases z with ⟨_, i, q1, q2, _⟩ | ⟨_, ⟨i, q1, q2⟩, _⟩
        · exact absurd q2 (h1 i q1)
        · exact absurd q2 (h1 i q1)
      · have n0 : ¬ m.2 16 L = 0 := by rw [h0]; decide
        rw [if_neg n0]
        by_cases ct : f_X9_turn g = me
        · rw [if_pos ct]
          refine ⟨fuel, M, Int32.ofInt 0, by omega, rfl, fun hp => b3 ⟨fun _ => ⟨vL, fun z => absurd z n0, fun _ => ⟨fun _ => hp, fun z => absurd ((turn_b a4.2.2.1).trans ct) z⟩⟩, fun z => absurd i0 z⟩, Or.inr rfl, ⟨fun z => absurd z (by decide), fun z => ?_⟩, a7⟩
          rcases z with ⟨_, i, q1, q2, q3⟩ | ⟨q1, _⟩
          · exact absurd ct ((h2 i q1 q2).mp q3)
          · exact absurd ct q1
        · rw [if_neg ct]
          exact ⟨fuel, M, Int32.ofInt 1, by omega, rfl, fun hp => b3 ⟨fun _ => ⟨vL, fun z => absurd z n0, fun _ => ⟨fun z => absurd ((turn_b a4.2.2.1).symm.trans z) ct, fun _ => hp⟩⟩, fun z => absurd i0 z⟩, Or.inl rfl, ⟨fun _ => Or.inr ⟨ct, ⟨i, i2, i3⟩, fun x q1 q2 => (h2 x q1 q2).mpr ct⟩, fun _ => rfl⟩, a7⟩
    · -- a STEP that may be: tried
      have okj := ok_j j'
      have lgM : Leg M (kx g j') (ky g j') (jw j') (jd j') := by
        rw [leg_goal a4.1 a4.2.1 hK1 okj, ← leg_goal hP hG hK1 okj]
        exact b2
      obtain ⟨_, _, _, _, _, c6, c7, c8⟩ := step_sim a4.1 a4.2.1 hK1 lgM okj.1 okj.2.1 okj.2.2
      obtain ⟨_, _, _, _, _, d6', d7, _⟩ := step_sim hP hG hK1 b2 okj.1 okj.2.1 okj.2.2
      rw [← (ru_eq a4.1.1 a4.1.2.2.1 _ _).2.2] at c6
      rw [← (ru_eq hP.1 hP.2.2.1 _ _).2.2] at d6'
      obtain ⟨S, hS'⟩ : ∃ z, z = (f_X9_steps M (kx g j') (ky g j') (jw j') (jd j')).2 := ⟨_, rfl⟩
      rw [← hS'] at c6 c7 c8 b3 b4
      obtain ⟨f1, m1, val1, e1, e2, e3, e4, e5, e6⟩ := IH (K + 1) _ _ S fuel v5 (by clear ih IH; grind) c6 c7 (by omega)
      have veq : Vw me l S ↔ Vw me l (NxK g j') := by
        have d6'' : PR _ _ (NxK g j') := d6'
        exact ⟨vi l (K + 1) _ _ _ _ (by clear ih IH; grind) (by omega) c6 c7 d6'' d7, vi l (K + 1) _ _ _ _ (by clear ih IH; grind) (by omega) d6'' d7 c6 c7⟩
      rw [veq] at e5
      have em : nI (L + 1) + Int32.ofInt (-1) = nI L := pk_m1 L
      rw [em] at e2 e3
      obtain ⟨f2, rfl⟩ : ∃ z, f1 = z + 1 := ⟨f1 - 1, by omega⟩
      have bk : ∀ i, (i < 8 ∨ 28 ≤ i) → m1.2 0 i = g.2 0 i := fun i hi => by rw [e6.2.2.1 i hi, c8.2.2 i hi, a4.2.2.1]
      have s14 : S.2 14 = M.2 14 := c8.2.1 14 (by decide) (by decide) (by decide) (by decide) (by decide)
      have s15 : S.2 15 = M.2 15 := c8.2.1 15 (by decide) (by decide) (by decide) (by decide) (by decide)
      have s16 : S.2 16 = M.2 16 := c8.2.1 16 (by decide) (by decide) (by decide) (by decide) (by decide)
      have st : ∀ i, i < 20 → m1.2 14 (20 * L + i) = g.2 0 (8 + i) := fun i hi => by rw [e6.2.2.2.1 _ (by omega), s14]; exact a4.2.2.2 i hi
      obtain ⟨t1, t2, t3, t4, t5⟩ := tk_11 (L := L) (by omega) hP hG bk st
      obtain ⟨T, hT⟩ : ∃ z, z = f_X9_lays (setA m1 0 (g.2 0)) := ⟨_, rfl⟩
      rw [← hT] at t2 t3 t4 t5
      have T0 : T.2 0 = g.2 0 := by rw [t3.b, setA_at]
      have tT := turn_b T0
      have frT : FrP L m1 T := by
        refine FrP.t ?_ (frp_h L t3)
        exact ⟨fun _ _ _ _ _ _ _ _ _ => rfl, fun x q1 _ _ _ _ _ _ _ => setA_ne q1, fun i hi => by rw [setA_at, bk i hi], fun i _ => by rw [setA_ne (by decide)], fun i _ => ⟨by rw [setA_ne (by decide)], by rw [setA_ne (by decide)]⟩⟩
      have frA : FrP L m T := ((a7.t (frp_m L c8)).t (e6.m (by omega))).t frT
      have pL : ¬ nI L < 0 := nI_pos (by omega)
      -- the whole step of the machine
      have go : f_X9_plays_154 (f_X9_plays_8 fuel) 1000000000000 m (nI n) me (nI L) (Int32.ofInt 1) v5 (Int32.ofInt 0) (Int32.ofInt 1) = f_X9_plays_8 (f2 + 1) m1 (nI n) me (nI L) (Int32.ofInt 0) val1 ∧ (p_X9_plays_8 (f2 + 1) m1 (nI n) me (nI L) (Int32.ofInt 0) val1 → p_X9_plays_154 (p_X9_plays_8 fuel) 1000000000000 m (nI n) me (nI L) (Int32.ofInt 1) v5 (Int32.ofInt 0) (Int32.ofInt 1)) := by
        refine ⟨?_, fun hp => b4 ?_⟩
        · rw [b3, ← e2]
          unfold f_X9_plays_224
          rw [if_neg i1, ni1]
        · unfold p_X9_plays_224
          refine ⟨fun z => absurd z i1, fun _ => ?_⟩
          rw [ni1]
          exact e3 hp
      obtain ⟨go1, go2⟩ := go
      rw [go1]
      rw [f_X9_plays_8, p_X9_plays_8, if_neg pL, if_pos i0, t2, tT] at *
      -- on with the next
      have on : (val1 = 1 ↔ ¬ f_X9_turn g = me) → ∃ (fuel' : Nat) (m' : Rec) (val : Int32), fuel ≤ fuel' + (q + 1 + 1) * (Cst l + 1) ∧ f_X9_plays_139 (f_X9_plays_8 f2) (setA T 16 (upd (T.2 16) (Int32.toNatClampNeg (nI L)) (Int32.ofInt 1))) (nI n) me (nI L) (Int32.ofInt 1) val1 = f_X9_plays_8 fuel' m' (nI n) me (nI L + Int32.ofInt (-1)) (Int32.ofInt 0) val ∧ (p_X9_plays_8 fuel' m' (nI n) me (nI L + Int32.ofInt (-1)) (Int32.ofInt 0) val → p_X9_plays_139 (p_X9_plays_8 f2) (setA T 16 (upd (T.2 16) (Int32.toNatClampNeg (nI L)) (Int32.ofInt 1))) (nI n) me (nI L) (Int32.ofInt 1) val1) ∧ (val = 1 ∨ val = 0) ∧ (val = 1 ↔ ((f_X9_turn g = me ∧ ∃ i, i < JJ g ∧ LegK g i ∧ Vw me l (NxK g i)) ∨ (¬ f_X9_turn g = me ∧ (∃ i, i < JJ g ∧ LegK g i) ∧ ∀ i, i < JJ g → LegK g i → Vw me l (NxK g i)))) ∧ FrP L m m' := by
        intro hv
        obtain ⟨T1, hT1⟩ : ∃ z, z = setA T 16 (upd (T.2 16) L (Int32.ofInt 1)) := ⟨_, rfl⟩
        have T2 : ∀ x, x ≠ 16 → T1.2 x = T.2 x := fun x hx => by rw [hT1, setA_ne hx]
        have scT : Sc K s p g L T := ⟨t4, t5, T0, fun i hi => by rw [t3.2 14 (by decide) (by decide) (by decide) (by decide), setA_ne (by decide)]; exact st i hi⟩
        have sc1 : Sc K s p g L T1 := sc_fr hG hP (T2 0 (by decide)) (T2 4 (by decide)) (T2 5 (by decide)) (T2 6 (by decide)) (T2 7 (by decide)) (T2 14 (by decide)) scT
        have n15 : T1.2 15 L = nI (j' + 1) := by
          rw [T2 15 (by decide), t3.2 15 (by decide) (by decide) (by decide) (by decide), setA_ne (by decide), (e6.2.2.2.2 L (by omega)).1, s15]
          exact a5
        have n16 : T1.2 16 L = 1 := by rw [hT1, setA_at, upd_at, if_pos rfl]; rfl
        obtain ⟨fuel', m', val, x1, x2, x3, x4, x5, x6⟩ := ih (j' + 1) f2 T1 val1 (by omega) (by omega) (by omega) sc1 n15 (Or.inr ⟨n16, ⟨j', by omega, b2⟩, fun i hi hi2 => by
          by_cases w : i = j'
          · rw [w, ← e5]; exact hv
          · rcases hA' with ⟨_, h1⟩ | ⟨_, _, h2⟩
            · exact absurd hi2 (h1 i (by omega))
            · exact h2 i (by omega) hi2⟩)
        rw [nI_clamp (n := L) (by omega), ← hT1]
        have fr1 : FrP L T T1 := ⟨fun k _ _ _ _ _ _ _ _ => by rw [hT1, setA_1], fun x _ _ _ _ _ _ _ q8 => T2 x q8, fun i _ => by rw [T2 0 (by decide)], fun i _ => by rw [T2 14 (by decide)], fun i hi => ⟨by rw [T2 15 (by decide)], by rw [hT1, setA_at, upd_at, if_neg (by omega)]⟩⟩
        refine ⟨fuel', m', val, by omega, ?_, fun hp => ?_, x4, x5, (frA.t fr1).t x6⟩
        · unfold f_X9_plays_139
          rw [if_neg i1, if_neg pL]
          exact x2
        · exact ⟨fun z => absurd z i1, fun _ => ⟨fun z => absurd z pL, fun _ => x3 hp⟩⟩
      have stop : ∃ (fuel' : Nat) (m' : Rec), fuel ≤ fuel' + (q + 1 + 1) * (Cst l + 1) ∧ f_X9_plays_139 (f_X9_plays_8 f2) T (nI n) me (nI L + Int32.ofInt (-1)) (Int32.ofInt 0) val1 = f_X9_plays_8 fuel' m' (nI n) me (nI L + Int32.ofInt (-1)) (Int32.ofInt 0) val1 ∧ (p_X9_plays_8 fuel' m' (nI n) me (nI L + Int32.ofInt (-1)) (Int32.ofInt 0) val1 → p_X9_plays_139 (p_X9_plays_8 f2) T (nI n) me (nI L + Int32.ofInt (-1)) (Int32.ofInt 0) val1) ∧ FrP L m m' := by
        refine ⟨f2, T, by omega, ?_, fun hp => ⟨fun _ => hp, fun z => absurd i0 z⟩, frA⟩
        unfold f_X9_plays_139
        rw [if_pos i0]
      by_cases ct : f_X9_turn g = me
      · rw [if_pos ct] at *
        by_cases cv : val1 = Int32.ofInt 1
        · rw [if_pos cv] at *
          obtain ⟨fuel', m', y1, y2, y3, y4⟩ := stop
          exact ⟨fuel', m', val1, y1, y2, fun hp => go2 ⟨fun z => absurd z pL, fun _ => ⟨fun _ => ⟨t1, fun _ => ⟨fun _ => y3 hp, fun z => absurd cv z⟩, fun z => absurd ct z⟩, fun z => absurd i0 z⟩⟩, e4, ⟨fun z => Or.inl ⟨ct, j', b1, b2, e5.mp z⟩, fun _ => cv⟩, y4⟩
        · rw [if_neg cv] at *
          obtain ⟨fuel', m', val, y1, y2, y3, y4, y5, y6⟩ := on ⟨fun z => absurd z cv, fun z => absurd ct z⟩
          exact ⟨fuel', m', val, y1, y2, fun hp => go2 ⟨fun z => absurd z pL, fun _ => ⟨fun _ => ⟨t1, fun _ => ⟨fun z => absurd z cv, fun _ => ⟨vL, y3 hp⟩⟩, fun z => absurd ct z⟩, fun z => absurd i0 z⟩⟩, y4, y5, y6⟩
      · rw [if_neg ct] at *
        by_cases cv : val1 = Int32.ofInt 0
        · rw [if_pos cv] at *
          obtain ⟨fuel', m', y1, y2, y3, y4⟩ := stop
          refine ⟨fuel', m', val1, y1, y2, fun hp => go2 ⟨fun z => absurd z pL, fun _ => ⟨fun _ => ⟨t1, fun z => absurd z ct, fun _ => ⟨fun _ => y3 hp, fun z => absurd cv z⟩⟩, fun z => absurd i0 z⟩⟩, e4, ⟨fun z => by rw [cv] at z; exact absurd z (by decide), fun z => ?_⟩, y4⟩
          rcases z with ⟨z, _⟩ | ⟨_, _, z⟩
          · exact absurd z ct
          · exact e5.mpr (z j' b1 b2)
        · rw [if_neg cv] at *
          have v1 : val1 = 1 := e4.resolve_right cv
          obtain ⟨fuel', m', val, y1, y2, y3, y4, y5, y6⟩ := on ⟨fun _ => ct, fun _ => v1⟩
          exact ⟨fuel', m', val, y1, y2, fun hp => go2 ⟨fun z => absurd z pL, fun _ => ⟨fun _ => ⟨t1, fun z => absurd z ct, fun _ => ⟨fun z => absurd z cv, fun _ => ⟨vL, y3 hp⟩⟩⟩, fun z => absurd i0 z⟩⟩, y4, y5, y6⟩
