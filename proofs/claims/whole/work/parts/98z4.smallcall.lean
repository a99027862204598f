/-! layer 3: small -/
def Rn (k : Nat) : Nat → Rec → Prop
  | 0, m => f_X9_places m ≤ nI k
  | f + 1, m => ∃ i : Int32, 0 ≤ i.toInt ∧ i.toInt < (f_X9_foldsNow m).toInt ∧ Rn k f (st1 m i)
theorem rn_rp {h : Nat → Bool} {k : Nat} (hk : k ≤ 36) : ∀ (f d : Nat) (m : Rec) (X Y : Nat → Int), d + f ≤ 3 → RS m h X Y → Geo m (Bk d) (Lk d) → (Rn k f m ↔ Rp h f (Ph h k) X Y) := by
  intro f
  induction f with
  | zero =>
    intro d m X Y _ hR _
    show f_X9_places m ≤ nI k ↔ Pc h X Y 36 ≤ k
    have := pc_le h X Y
    rw [(plc_all hR).2, nI_leI (by omega) (by omega)]
  | succ f ih =>
    intro d m X Y hd hR hG
    constructor
    · rintro ⟨i, i0, i1, i2⟩
      obtain ⟨g1, _, g3⟩ := st_s (by omega) hR hG i0 i1
      rcases g3 with ⟨l, w, w2, ok, rs⟩ | ⟨l, w, w2, ok, rs⟩
      · exact Or.inl ⟨l, w, w2, ok, (ih (d + 1) _ _ _ (by omega) rs g1).mp i2⟩
      · exact Or.inr ⟨l, w, w2, ok, (ih (d + 1) _ _ _ (by omega) rs g1).mp i2⟩
    · rintro (⟨l, w, w2, ok, rp⟩ | ⟨l, w, w2, ok, rp⟩)
      · obtain ⟨i, i0, i1, rs⟩ := (st_c (by omega) hR hG (l := l) w2).1 ok
        obtain ⟨g1, _, _⟩ := st_s (by omega) hR hG i0 i1
        exact ⟨i, i0, i1, (ih (d + 1) _ _ _ (by omega) rs g1).mpr rp⟩
      · obtain ⟨i, i0, i1, rs⟩ := (st_c (by omega) hR hG (l := l) w2).2 ok
        obtain ⟨g1, _, _⟩ := st_s (by omega) hR hG i0 i1
        exact ⟨i, i0, i1, (ih (d + 1) _ _ _ (by omega) rs g1).mpr rp⟩
def Sim (m m' : Rec) : Prop := (∀ c, f_X9_isCell m' c = f_X9_isCell m c) ∧ ∀ c : Int32, 0 ≤ c → c < 36 → rowM m' c.toNatClampNeg = rowM m c.toNatClampNeg
theorem sim_n {m m' : Rec} (h : Sim m m') {c : Nat} (hc : c < 36) : m'.2 4 c = m.2 4 c ∧ m'.2 5 c = m.2 5 c ∧ m'.2 6 c = m.2 6 c ∧ m'.2 7 c = m.2 7 c := by
  have := h.2 (nI c) (nI_pos' (by omega)) (nI_lt (a := c) (b := 36) hc (by omega))
  rw [nI_clamp (by omega)] at this
  exact rM this
theorem sim_rs {m m' : Rec} {h : Nat → Bool} {X Y : Nat → Int} (hs : Sim m m') (hR : RS m h X Y) : RS m' h X Y := by
  refine ⟨fun c hc => by rw [hs.1]; exact hR.1 c hc, fun c hc hh => ?_⟩
  obtain ⟨a, b, _⟩ := sim_n hs hc
  unfold tI
  rw [a, b]
  exact hR.2 c hc hh
theorem sim_geo {m m' : Rec} {B L : Int32} (hs : Sim m m') (hG : Geo m B L) : Geo m' B L := by
  intro c c0 c1
  have e := rM (hs.2 c c0 c1)
  rw [e.1, e.2.1, e.2.2.1, e.2.2.2]
  exact hG c c0 c1
theorem sim_end {m m' : Rec} (hs : Sim m m') (a b : Int32) : f_X9_end m' a b = f_X9_end m a b := end_cg2 hs.1 (fun c c0 c1 => (rM (hs.2 c c0 c1)).1) (fun c c0 c1 => (rM (hs.2 c c0 c1)).2.1) a b
theorem sim_fold {m m' : Rec} (hs : Sim m m') : f_X9_foldsNow m' = f_X9_foldsNow m := by
  unfold f_X9_foldsNow
  rw [sim_end hs, sim_end hs, sim_end hs, sim_end hs]
theorem sim_st1 {m m' : Rec} {d : Nat} (hd : d ≤ 3) (hs : Sim m m') (hG : Geo m (Bk d) (Lk d)) {i : Int32} (hi : 0 ≤ i.toInt) : Sim (st1 m i) (st1 m' i) := by
  obtain ⟨b1, b2, _⟩ := bk_b (n := d) (by omega)
  have hi' : 0 ≤ i := n32_0.mpr hi
  obtain ⟨k1, k2, k3, k4, _⟩ := pick_eq (sE_e m) hG b1 b2 hi'
  have en : Ends (sE m) m' := by
    obtain ⟨e1, e2, e3, e4, e5⟩ := sE_e m
    exact ⟨by rw [e1, sim_end hs], by rw [e2, sim_end hs], by rw [e3, sim_end hs], by rw [e4, sim_end hs], by rw [e5, topL_cg hs.1 hs.2]⟩
  obtain ⟨j1, j2, j3, j4, _⟩ := pick_eq en (sim_geo hs hG) b1 b2 hi'
  have ic : ∀ c, f_X9_isCell (f_X9_pick m' i) c = f_X9_isCell (f_X9_pick m i) c := by
    intro c
    rw [isCell_congr (show (f_X9_pick m' i).2 0 = m'.2 0 by rw [j4]), isCell_congr (show (f_X9_pick m i).2 0 = m.2 0 by rw [k4])]
    exact hs.1 c
  have rr : ∀ c : Int32, 0 ≤ c → c < 36 → rowM (f_X9_pick m' i) c.toNatClampNeg = rowM (f_X9_pick m i) c.toNatClampNeg := by
    intro c c0 c1
    unfold rowM
    rw [j4, k4]
    exact hs.2 c c0 c1
  unfold st1
  rw [j1, j2, j3, k1, k2, k3]
  exact ⟨fun c => by rw [isCell_turn, isCell_turn]; exact ic c, fun c c0 c1 => turn_cg ic rr _ _ _ c c0 c1⟩
theorem sim_flat {m m' : Rec} (h : m'.2 0 = m.2 0) : Sim (f_X9_flat m) (f_X9_flat m') := by
  obtain ⟨_, a2, a3⟩ := fl_all m
  obtain ⟨_, b2, b3⟩ := fl_all m'
  refine ⟨fun c => isCell_congr ?_ c, fun c c0 c1 => by rw [a3 c c0 c1, b3 c c0 c1]⟩
  rw [a2 0 (by decide), b2 0 (by decide), h]
theorem fr_flat (m : Rec) : FrH m (f_X9_flat m) := by
  obtain ⟨a1, a2, _⟩ := fl_all m
  exact ⟨fun k _ _ _ => by rw [a1], fun j j4 j5 j6 j7 => a2 j ⟨j4, j5, j6, j7⟩⟩
theorem rs_flat {m : Rec} {h : Nat → Bool} (hh : ∀ c, c < 36 → (f_X9_isCell m (nI c) = 0 ↔ h c = false)) : RS (f_X9_flat m) h idI idI := by
  obtain ⟨_, a2, a3⟩ := fl_all m
  refine ⟨fun c hc => by rw [isCell_congr (a2 0 (by decide))]; exact hh c hc, fun c hc _ => ?_⟩
  have r := a3 (nI c) (nI_pos' (by omega)) (nI_lt (a := c) (b := 36) hc (by omega))
  unfold flatR at r
  rw [nI_clamp (by omega)] at r
  obtain ⟨r1, r2, _⟩ := rM r
  have ed : nI c / 6 = nI (d6 c) := pk_div (a := c) (d := 6) (by omega) (by omega) (by omega)
  have er : nI c - nI (d6 c) * 6 = nI (p6 c) := by
    rw [← ed]
    exact pk_rem (a := c) (d := 6) (by omega) (by omega) (by omega)
  rw [ed] at r1 r2
  rw [er] at r1
  have := p6_lt c hc
  have := d6_lt c hc
  unfold tI idI
  rw [r1, r2, nI_toInt (by omega), nI_toInt (by omega)]
  exact ⟨rfl, rfl⟩
theorem i_n {i : Int32} {N : Nat} (h0 : 0 ≤ i.toInt) (h1 : i.toInt < N) : ∃ j, j < N ∧ i = nI j := by
  refine ⟨i.toNatClampNeg, ?_, (Int32.ofNat_toNatClampNeg _ (n32_0.mpr h0)).symm⟩
  have : (i.toNatClampNeg : Int) = i.toInt := by
    have e := (Int32.ofNat_toNatClampNeg i (n32_0.mpr h0)).symm
    have b := n32_lt i
    have l : i.toNatClampNeg < 2 ^ 31 := by
      show i.toInt.toNat < 2 ^ 31
      omega
    have := nI_toInt (n := i.toNatClampNeg) l
    rw [show nI i.toNatClampNeg = i from e.symm] at this
    exact this.symm
  omega
/-- one level: some fold of all -/
theorem rn_ex {k f N : Nat} {m : Rec} (hN : N < 2 ^ 31) (e : f_X9_foldsNow m = nI N) : Rn k (f + 1) m ↔ ∃ c, c < N ∧ Rn k f (st1 m (nI c)) := by
  constructor
  · rintro ⟨i, i0, i1, i2⟩
    rw [e, nI_toInt hN] at i1
    obtain ⟨j, j1, j2⟩ := i_n i0 i1
    rw [j2] at i2
    exact ⟨j, j1, i2⟩
  · rintro ⟨c, c1, c2⟩
    refine ⟨nI c, by rw [nI_toInt (by omega)]; omega, ?_, c2⟩
    rw [e, nI_toInt hN, nI_toInt (by omega)]
    omega
theorem fold_n {m : Rec} {d : Nat} (hd : d ≤ 3) (hG : Geo m (Bk d) (Lk d)) : ∃ N, N ≤ 8000 ∧ f_X9_foldsNow m = nI N := by
  have fz := (pk_i (i := 0) hd hG (by decide) (by decide)).1
  have eb := eb_of hd hG
  have B1 := eb 0 1
  have B2 := eb 0 0
  have B3 := eb 1 1
  have B4 := eb 1 0
  have l0 := Int32.le_iff_toInt_le.mp (en_lh m 0)
  have l1 := Int32.le_iff_toInt_le.mp (en_lh m 1)
  obtain ⟨j, j1, j2⟩ := i_n (i := f_X9_foldsNow m) (N := 8001) (by omega) (by omega)
  exact ⟨j, by omega, j2⟩
/-- a state: its columns and rows, and how often it was folded -/
def SS (h : Nat → Bool) (d : Nat) (m : Rec) : Prop := (∃ X Y, RS m h X Y) ∧ Geo m (Bk d) (Lk d)
theorem ss_sim {h : Nat → Bool} {d : Nat} {m m' : Rec} (hs : Sim m m') (hS : SS h d m) : SS h d m' := by
  obtain ⟨⟨X, Y, hR⟩, hG⟩ := hS
  exact ⟨⟨X, Y, sim_rs hs hR⟩, sim_geo hs hG⟩
theorem ss_next {h : Nat → Bool} {d : Nat} {m : Rec} (hd : d ≤ 2) (hS : SS h d m) {c N : Nat} (hN : N ≤ 8000) (e : f_X9_foldsNow m = nI N) (hc : c < N) : SS h (d + 1) (st1 m (nI c)) ∧ FrH m (st1 m (nI c)) := by
  obtain ⟨⟨X, Y, hR⟩, hG⟩ := hS
  obtain ⟨g1, g2, g3⟩ := st_s hd hR hG (i := nI c) (by rw [nI_toInt (by omega)]; omega) (by rw [e, nI_toInt (by omega), nI_toInt (by omega)]; omega)
  refine ⟨⟨?_, g1⟩, g2⟩
  rcases g3 with ⟨l, w, _, _, rs⟩ | ⟨l, w, _, _, rs⟩
  · exact ⟨_, _, rs⟩
  · exact ⟨_, _, rs⟩
theorem rn_sim {h : Nat → Bool} {k f d : Nat} {m m' : Rec} (hk : k ≤ 36) (hd : d + f ≤ 3) (hs : Sim m m') (hS : SS h d m) : Rn k f m' ↔ Rn k f m := by
  obtain ⟨⟨X, Y, hR⟩, hG⟩ := hS
  rw [rn_rp hk f d m X Y hd hR hG, rn_rp hk f d m' X Y hd (sim_rs hs hR) (sim_geo hs hG)]
theorem pls_sim {h : Nat → Bool} {d : Nat} {m m' : Rec} (hs : Sim m m') (hS : SS h d m) : p_X9_places m' ∧ f_X9_places m' = f_X9_places m := by
  obtain ⟨⟨X, Y, hR⟩, hG⟩ := hS
  exact ⟨(plc_all (sim_rs hs hR)).1, by rw [(plc_all (sim_rs hs hR)).2, (plc_all hR).2]⟩
theorem s184f (K41 : Rec → Int32 → Int32 → Int32 → Int32 → Int32 × Rec) (K101 : Rec → Int32 → Int32 → Int32 → Int32 → Int32 → Int32 → Int32 × Rec) (n : Nat) (m : Rec) (v1 v2 v3 v4 v5 v6 v7 v8 : Int32) : f_X9_small_184 K41 K101 (n + 1) m v1 v2 v3 v4 v5 v6 v7 v8 = if v7 ≤ v8 then (K101 m v1 v2 v3 v4 v5 (v6 + (Int32.ofInt 1))) else (if v2 ≤ (Int32.ofInt 3) then (K101 m v1 v2 v3 v4 v5 (v6 + (Int32.ofInt 1))) else (if v1 < (f_X9_places (st1 (st1 (st1 (f_X9_flat m) v4) v6) v8)) then (f_X9_small_184 K41 K101 n (st1 (st1 (st1 (f_X9_flat m) v4) v6) v8) v1 v2 v3 v4 v5 v6 v7 (v8 + (Int32.ofInt 1))) else (f_X9_small_184 K41 K101 n (st1 (st1 (st1 (f_X9_flat m) v4) v6) v8) v1 ((Int32.ofInt 3)) v3 v4 v5 v6 v7 (v8 + (Int32.ofInt 1))))) := rfl
theorem s184p (G41 : Rec → Int32 → Int32 → Int32 → Int32 → Prop) (G101 : Rec → Int32 → Int32 → Int32 → Int32 → Int32 → Int32 → Prop) (n : Nat) (m : Rec) (v1 v2 v3 v4 v5 v6 v7 v8 : Int32) : p_X9_small_184 G41 G101 (n + 1) m v1 v2 v3 v4 v5 v6 v7 v8 = ((v7 ≤ v8 → (G101 m v1 v2 v3 v4 v5 (v6 + (Int32.ofInt 1)))) ∧ (¬ (v7 ≤ v8) → ((v2 ≤ (Int32.ofInt 3) → (G101 m v1 v2 v3 v4 v5 (v6 + (Int32.ofInt 1)))) ∧ (¬ (v2 ≤ (Int32.ofInt 3)) → ((p_X9_flat m) ∧ ((p_X9_pick (f_X9_flat m) v4) ∧ ((p_X9_turnsOver (f_X9_pick (f_X9_flat m) v4) ((f_X9_pick (f_X9_flat m) v4).1 10) ((f_X9_pick (f_X9_flat m) v4).1 11) ((f_X9_pick (f_X9_flat m) v4).1 12)) ∧ ((p_X9_pick (st1 (f_X9_flat m) v4) v6) ∧ ((p_X9_turnsOver (f_X9_pick (st1 (f_X9_flat m) v4) v6) ((f_X9_pick (st1 (f_X9_flat m) v4) v6).1 10) ((f_X9_pick (st1 (f_X9_flat m) v4) v6).1 11) ((f_X9_pick (st1 (f_X9_flat m) v4) v6).1 12)) ∧ ((p_X9_pick (st1 (st1 (f_X9_flat m) v4) v6) v8) ∧ ((p_X9_turnsOver (f_X9_pick (st1 (st1 (f_X9_flat m) v4) v6) v8) ((f_X9_pick (st1 (st1 (f_X9_flat m) v4) v6) v8).1 10) ((f_X9_pick (st1 (st1 (f_X9_flat m) v4) v6) v8).1 11) ((f_X9_pick (st1 (st1 (f_X9_flat m) v4) v6) v8).1 12)) ∧ ((p_X9_places (st1 (st1 (st1 (f_X9_flat m) v4) v6) v8)) ∧ ((v1 < (f_X9_places (st1 (st1 (st1 (f_X9_flat m) v4) v6) v8)) → (p_X9_small_184 G41 G101 n (st1 (st1 (st1 (f_X9_flat m) v4) v6) v8) v1 v2 v3 v4 v5 v6 v7 (v8 + (Int32.ofInt 1)))) ∧ (¬ (v1 < (f_X9_places (st1 (st1 (st1 (f_X9_flat m) v4) v6) v8))) → (p_X9_small_184 G41 G101 n (st1 (st1 (st1 (f_X9_flat m) v4) v6) v8) v1 ((Int32.ofInt 3)) v3 v4 v5 v6 v7 (v8 + (Int32.ofInt 1))))))))))))))))) := rfl
theorem s101f (K41 : Rec → Int32 → Int32 → Int32 → Int32 → Int32 × Rec) (n : Nat) (m : Rec) (v1 v2 v3 v4 v5 v6 : Int32) : f_X9_small_101 K41 (n + 1) m v1 v2 v3 v4 v5 v6 = if v5 ≤ v6 then (K41 m v1 v2 v3 (v4 + (Int32.ofInt 1))) else (if v2 ≤ (Int32.ofInt 2) then (K41 m v1 v2 v3 (v4 + (Int32.ofInt 1))) else (if v1 < (f_X9_places (st1 (st1 (f_X9_flat m) v4) v6)) then (f_X9_small_184 K41 (f_X9_small_101 K41 n) 4000000000 (st1 (st1 (f_X9_flat m) v4) v6) v1 v2 v3 v4 v5 v6 (f_X9_foldsNow (st1 (st1 (f_X9_flat m) v4) v6)) ((Int32.ofInt 0))) else (f_X9_small_184 K41 (f_X9_small_101 K41 n) 4000000000 (st1 (st1 (f_X9_flat m) v4) v6) v1 ((Int32.ofInt 2)) v3 v4 v5 v6 (f_X9_foldsNow (st1 (st1 (f_X9_flat m) v4) v6)) ((Int32.ofInt 0))))) := rfl
theorem s101p (G41 : Rec → Int32 → Int32 → Int32 → Int32 → Prop) (n : Nat) (m : Rec) (v1 v2 v3 v4 v5 v6 : Int32) : p_X9_small_101 G41 (n + 1) m v1 v2 v3 v4 v5 v6 = ((v5 ≤ v6 → (G41 m v1 v2 v3 (v4 + (Int32.ofInt 1)))) ∧ (¬ (v5 ≤ v6) → ((v2 ≤ (Int32.ofInt 2) → (G41 m v1 v2 v3 (v4 + (Int32.ofInt 1)))) ∧ (¬ (v2 ≤ (Int32.ofInt 2)) → ((p_X9_flat m) ∧ ((p_X9_pick (f_X9_flat m) v4) ∧ ((p_X9_turnsOver (f_X9_pick (f_X9_flat m) v4) ((f_X9_pick (f_X9_flat m) v4).1 10) ((f_X9_pick (f_X9_flat m) v4).1 11) ((f_X9_pick (f_X9_flat m) v4).1 12)) ∧ ((p_X9_pick (st1 (f_X9_flat m) v4) v6) ∧ ((p_X9_turnsOver (f_X9_pick (st1 (f_X9_flat m) v4) v6) ((f_X9_pick (st1 (f_X9_flat m) v4) v6).1 10) ((f_X9_pick (st1 (f_X9_flat m) v4) v6).1 11) ((f_X9_pick (st1 (f_X9_flat m) v4) v6).1 12)) ∧ ((p_X9_places (st1 (st1 (f_X9_flat m) v4) v6)) ∧ ((v1 < (f_X9_places (st1 (st1 (f_X9_flat m) v4) v6)) → ((p_X9_foldsNow (st1 (st1 (f_X9_flat m) v4) v6)) ∧ (p_X9_small_184 G41 (p_X9_small_101 G41 n) 4000000000 (st1 (st1 (f_X9_flat m) v4) v6) v1 v2 v3 v4 v5 v6 (f_X9_foldsNow (st1 (st1 (f_X9_flat m) v4) v6)) ((Int32.ofInt 0))))) ∧ (¬ (v1 < (f_X9_places (st1 (st1 (f_X9_flat m) v4) v6))) → ((p_X9_foldsNow (st1 (st1 (f_X9_flat m) v4) v6)) ∧ (p_X9_small_184 G41 (p_X9_small_101 G41 n) 4000000000 (st1 (st1 (f_X9_flat m) v4) v6) v1 ((Int32.ofInt 2)) v3 v4 v5 v6 (f_X9_foldsNow (st1 (st1 (f_X9_flat m) v4) v6)) ((Int32.ofInt 0)))))))))))))))) := rfl
theorem s41f (n : Nat) (m : Rec) (v1 v2 v3 v4 : Int32) : f_X9_small_41 (n + 1) m v1 v2 v3 v4 = if v3 ≤ v4 then (if v2 = (Int32.ofInt 4) then ((Int32.ofInt (-1)), m) else (v2, m)) else (if v2 ≤ (Int32.ofInt 1) then (if v2 = (Int32.ofInt 4) then ((Int32.ofInt (-1)), m) else (v2, m)) else (if v1 < (f_X9_places (st1 (f_X9_flat m) v4)) then (f_X9_small_101 (f_X9_small_41 n) 4000000000 (st1 (f_X9_flat m) v4) v1 v2 v3 v4 (f_X9_foldsNow (st1 (f_X9_flat m) v4)) ((Int32.ofInt 0))) else (f_X9_small_101 (f_X9_small_41 n) 4000000000 (st1 (f_X9_flat m) v4) v1 ((Int32.ofInt 1)) v3 v4 (f_X9_foldsNow (st1 (f_X9_flat m) v4)) ((Int32.ofInt 0))))) := rfl
theorem s41p (n : Nat) (m : Rec) (v1 v2 v3 v4 : Int32) : p_X9_small_41 (n + 1) m v1 v2 v3 v4 = ((v3 ≤ v4 → True) ∧ (¬ (v3 ≤ v4) → ((v2 ≤ (Int32.ofInt 1) → True) ∧ (¬ (v2 ≤ (Int32.ofInt 1)) → ((p_X9_flat m) ∧ ((p_X9_pick (f_X9_flat m) v4) ∧ ((p_X9_turnsOver (f_X9_pick (f_X9_flat m) v4) ((f_X9_pick (f_X9_flat m) v4).1 10) ((f_X9_pick (f_X9_flat m) v4).1 11) ((f_X9_pick (f_X9_flat m) v4).1 12)) ∧ ((p_X9_places (st1 (f_X9_flat m) v4)) ∧ ((v1 < (f_X9_places (st1 (f_X9_flat m) v4)) → ((p_X9_foldsNow (st1 (f_X9_flat m) v4)) ∧ (p_X9_small_101 (p_X9_small_41 n) 4000000000 (st1 (f_X9_flat m) v4) v1 v2 v3 v4 (f_X9_foldsNow (st1 (f_X9_flat m) v4)) ((Int32.ofInt 0))))) ∧ (¬ (v1 < (f_X9_places (st1 (f_X9_flat m) v4))) → ((p_X9_foldsNow (st1 (f_X9_flat m) v4)) ∧ (p_X9_small_101 (p_X9_small_41 n) 4000000000 (st1 (f_X9_flat m) v4) v1 ((Int32.ofInt 1)) v3 v4 (f_X9_foldsNow (st1 (f_X9_flat m) v4)) ((Int32.ofInt 0)))))))))))))) := rfl
section
variable {h : Nat → Bool} {m0 : Rec} {k a b N1 N2 N3 : Nat} {K41 : Rec → Int32 → Int32 → Int32 → Int32 → Int32 × Rec} {K101 : Rec → Int32 → Int32 → Int32 → Int32 → Int32 → Int32 → Int32 × Rec} {G41 : Rec → Int32 → Int32 → Int32 → Int32 → Prop} {G101 : Rec → Int32 → Int32 → Int32 → Int32 → Int32 → Int32 → Prop} {Q : Int32 × Rec → Prop} {T : Nat → Prop}
theorem r184 (hk36 : k ≤ 36) (hF : SS h 0 (f_X9_flat m0)) (e1 : f_X9_foldsNow (f_X9_flat m0) = nI N1) (hN1 : N1 ≤ 8000) (ha : a < N1) (e2 : f_X9_foldsNow (st1 (f_X9_flat m0) (nI a)) = nI N2) (hN2 : N2 ≤ 8000) (hb : b < N2) (e3 : f_X9_foldsNow (st1 (st1 (f_X9_flat m0) (nI a)) (nI b)) = nI N3) (hN3 : N3 ≤ 8000)
    (hk : ∀ (m : Rec) (le : Nat), FrH m0 m → 1 ≤ le → le ≤ 4 → (∀ t, 1 ≤ t → t ≤ 3 → (le ≤ t ↔ T t ∨ (2 ≤ t ∧ Rn k 0 (st1 (st1 (f_X9_flat m0) (nI a)) (nI b))) ∨ (3 ≤ t ∧ Rn k 1 (st1 (st1 (f_X9_flat m0) (nI a)) (nI b))))) → G101 m (nI k) (nI le) (nI N1) (nI a) (nI N2) (nI (b + 1)) ∧ Q (K101 m (nI k) (nI le) (nI N1) (nI a) (nI N2) (nI (b + 1)))) :
    ∀ (n c le : Nat) (m : Rec), c ≤ N3 → N3 < n + c → FrH m0 m → 1 ≤ le → le ≤ 4 → (∀ t, 1 ≤ t → t ≤ 3 → (le ≤ t ↔ T t ∨ (2 ≤ t ∧ Rn k 0 (st1 (st1 (f_X9_flat m0) (nI a)) (nI b))) ∨ (3 ≤ t ∧ ∃ c', c' < c ∧ Rn k 0 (st1 (st1 (st1 (f_X9_flat m0) (nI a)) (nI b)) (nI c'))))) →
    p_X9_small_184 G41 G101 n m (nI k) (nI le) (nI N1) (nI a) (nI N2) (nI b) (nI N3) (nI c) ∧ Q (f_X9_small_184 K41 K101 n m (nI k) (nI le) (nI N1) (nI a) (nI N2) (nI b) (nI N3) (nI c)) := by
  intro n
  induction n with
  | zero => intro c le m h1 h2; omega
  | succ n ih =>
    intro c le m hc hn hFr l1 l4 hL
    rw [s184f, s184p, ni1, ni1]
    have ex := rn_ex (k := k) (f := 0) (by omega) e3
    by_cases c1 : N3 ≤ c
    · have L1 : nI N3 ≤ nI c := nI_le c1 (by omega)
      have ec : c = N3 := by omega
      rw [if_pos L1]
      obtain ⟨k1, k2⟩ := hk m le hFr l1 l4 (fun t t1 t3 => by
        rw [hL t t1 t3, ec, ex])
      exact ⟨⟨fun _ => k1, fun z => absurd L1 z⟩, k2⟩
    · have L1 : ¬ nI N3 ≤ nI c := nI_ge (by omega) (by omega)
      rw [if_neg L1]
      by_cases c2 : le ≤ 3
      · have L2 : nI le ≤ Int32.ofInt 3 := nI_le (a := le) (b := 3) c2 (by omega)
        rw [if_pos L2]
        obtain ⟨k1, k2⟩ := hk m le hFr l1 l4 (fun t t1 t3 => by
          rw [hL t t1 t3, ex]
          constructor
          · rintro (z | z | ⟨z1, c', z2, z3⟩)
            · exact Or.inl z
            · exact Or.inr (Or.inl z)
            · exact Or.inr (Or.inr ⟨z1, c', by omega, z3⟩)
          · rintro (z | z | ⟨z1, _⟩)
            · exact Or.inl z
            · exact Or.inr (Or.inl z)
            · have et : t = 3 := by omega
              rw [et]
              exact (hL 3 (by omega) (by omega)).mp c2)
        exact ⟨⟨fun z => absurd z L1, fun _ => ⟨fun _ => k1, fun z => absurd L2 z⟩⟩, k2⟩
      · have L2 : ¬ nI le ≤ Int32.ofInt 3 := nI_ge (a := 3) (b := le) (by omega) (by omega)
        rw [if_neg L2]
        have sF := sim_flat hFr.b
        have S0 := hF
        have S1 := (ss_next (by omega) S0 hN1 e1 ha).1
        have S2 := (ss_next (by omega) S1 hN2 e2 hb).1
        have S3 := (ss_next (by omega) S2 hN3 e3 (c := c) (by omega)).1
        have sA := sim_st1 (i := nI a) (by omega) sF S0.2 (by rw [nI_toInt (by omega)]; omega)
        have sB := sim_st1 (i := nI b) (by omega) sA S1.2 (by rw [nI_toInt (by omega)]; omega)
        have sC := sim_st1 (i := nI c) (by omega) sB S2.2 (by rw [nI_toInt (by omega)]; omega)
        obtain ⟨pp, pe⟩ := pls_sim sC S3
        have f1 := (ss_next (by omega) (ss_sim sF S0) hN1 (by rw [sim_fold sF]; exact e1) ha).2
        have f2 := (ss_next (by omega) (ss_sim sA S1) hN2 (by rw [sim_fold sA]; exact e2) hb).2
        have f3 := (ss_next (by omega) (ss_sim sB S2) hN3 (by rw [sim_fold sB]; exact e3) (c := c) (by omega)).2
        have fr := (((hFr.t (fr_flat m)).t f1).t f2).t f3
        by_cases c3 : nI k < f_X9_places (st1 (st1 (st1 (f_X9_flat m) (nI a)) (nI b)) (nI c))
        · rw [if_pos c3]
          have nr : ¬ Rn k 0 (st1 (st1 (st1 (f_X9_flat m0) (nI a)) (nI b)) (nI c)) := by
            show ¬ f_X9_places _ ≤ nI k
            rw [← pe]
            exact Int32.not_le.mpr c3
          obtain ⟨i1, i2⟩ := ih (c + 1) le _ (by omega) (by omega) fr l1 l4 (fun t t1 t3 => by
            rw [hL t t1 t3]
            constructor
            · rintro (z | z | ⟨z1, c', z2, z3⟩)
              · exact Or.inl z
              · exact Or.inr (Or.inl z)
              · exact Or.inr (Or.inr ⟨z1, c', by omega, z3⟩)
            · rintro (z | z | ⟨z1, c', z2, z3⟩)
              · exact Or.inl z
              · exact Or.inr (Or.inl z)
              · by_cases w : c' = c
                · rw [w] at z3; exact absurd z3 nr
                · exact Or.inr (Or.inr ⟨z1, c', by omega, z3⟩))
          exact ⟨⟨fun z => absurd z L1, fun _ => ⟨fun z => absurd z L2, fun _ => ⟨pp_flat _, pp_pick .., pp_turnsOver .., pp_pick .., pp_turnsOver .., pp_pick .., pp_turnsOver .., pp, fun _ => i1, fun z => absurd c3 z⟩⟩⟩, i2⟩
        · rw [if_neg c3]
          have yr : Rn k 0 (st1 (st1 (st1 (f_X9_flat m0) (nI a)) (nI b)) (nI c)) := by
            show f_X9_places _ ≤ nI k
            rw [← pe]
            exact Int32.not_lt.mp c3
          obtain ⟨i1, i2⟩ := ih (c + 1) 3 _ (by omega) (by omega) fr (by omega) (by omega) (fun t t1 t3 => by
            constructor
            · intro z
              exact Or.inr (Or.inr ⟨by omega, c, by omega, yr⟩)
            · rintro (z | z | ⟨z1, _⟩)
              · have := (hL t t1 t3).mpr (Or.inl z); omega
              · have := (hL t t1 t3).mpr (Or.inr (Or.inl z)); omega
              · omega)
          exact ⟨⟨fun z => absurd z L1, fun _ => ⟨fun z => absurd z L2, fun _ => ⟨pp_flat _, pp_pick .., pp_turnsOver .., pp_pick .., pp_turnsOver .., pp_pick .., pp_turnsOver .., pp, fun z => absurd z c3, fun _ => i1⟩⟩⟩, i2⟩
theorem r101 (hk36 : k ≤ 36) (hF : SS h 0 (f_X9_flat m0)) (e1 : f_X9_foldsNow (f_X9_flat m0) = nI N1) (hN1 : N1 ≤ 8000) (ha : a < N1) (e2 : f_X9_foldsNow (st1 (f_X9_flat m0) (nI a)) = nI N2) (hN2 : N2 ≤ 8000)
    (hk : ∀ (m : Rec) (le : Nat), FrH m0 m → 1 ≤ le → le ≤ 4 → (∀ t, 1 ≤ t → t ≤ 3 → (le ≤ t ↔ T t ∨ Rn k 0 (st1 (f_X9_flat m0) (nI a)) ∨ (2 ≤ t ∧ Rn k 1 (st1 (f_X9_flat m0) (nI a))) ∨ (3 ≤ t ∧ Rn k 2 (st1 (f_X9_flat m0) (nI a))))) → G41 m (nI k) (nI le) (nI N1) (nI (a + 1)) ∧ Q (K41 m (nI k) (nI le) (nI N1) (nI (a + 1)))) :
    ∀ (n b le : Nat) (m : Rec), b ≤ N2 → N2 < n + b → FrH m0 m → 1 ≤ le → le ≤ 4 → (∀ t, 1 ≤ t → t ≤ 3 → (le ≤ t ↔ T t ∨ Rn k 0 (st1 (f_X9_flat m0) (nI a)) ∨ (2 ≤ t ∧ ∃ b', b' < b ∧ Rn k 0 (st1 (st1 (f_X9_flat m0) (nI a)) (nI b'))) ∨ (3 ≤ t ∧ ∃ b', b' < b ∧ Rn k 1 (st1 (st1 (f_X9_flat m0) (nI a)) (nI b'))))) →
    p_X9_small_101 G41 n m (nI k) (nI le) (nI N1) (nI a) (nI N2) (nI b) ∧ Q (f_X9_small_101 K41 n m (nI k) (nI le) (nI N1) (nI a) (nI N2) (nI b)) := by
  intro n
  induction n with
  | zero => intro b le m h1 h2; omega
  | succ n ih =>
    intro b le m hb hn hFr l1 l4 hL
    rw [s101f, s101p, ni1]
    have ex := fun f => rn_ex (k := k) (f := f) (by omega) e2
    by_cases c1 : N2 ≤ b
    · have L1 : nI N2 ≤ nI b := nI_le c1 (by omega)
      have ec : b = N2 := by omega
      rw [if_pos L1]
      obtain ⟨k1, k2⟩ := hk m le hFr l1 l4 (fun t t1 t3 => by
        rw [hL t t1 t3, ec, ex 0, ex 1])
      exact ⟨⟨fun _ => k1, fun z => absurd L1 z⟩, k2⟩
    · have L1 : ¬ nI N2 ≤ nI b := nI_ge (by omega) (by omega)
      rw [if_neg L1]
      by_cases c2 : le ≤ 2
      · have L2 : nI le ≤ Int32.ofInt 2 := nI_le (a := le) (b := 2) c2 (by omega)
        rw [if_pos L2]
        obtain ⟨k1, k2⟩ := hk m le hFr l1 l4 (fun t t1 t3 => by
          rw [ex 0, ex 1]
          constructor
          · intro z
            rcases (hL t t1 t3).mp z with z | z | ⟨z1, c', z2, z3⟩ | ⟨z1, c', z2, z3⟩
            · exact Or.inl z
            · exact Or.inr (Or.inl z)
            · exact Or.inr (Or.inr (Or.inl ⟨z1, c', by omega, z3⟩))
            · exact Or.inr (Or.inr (Or.inr ⟨z1, c', by omega, z3⟩))
          · rintro (z | z | ⟨z1, _⟩ | ⟨z1, _⟩)
            · exact (hL t t1 t3).mpr (Or.inl z)
            · exact (hL t t1 t3).mpr (Or.inr (Or.inl z))
            · omega
            · omega)
        exact ⟨⟨fun z => absurd z L1, fun _ => ⟨fun _ => k1, fun z => absurd L2 z⟩⟩, k2⟩
      · have L2 : ¬ nI le ≤ Int32.ofInt 2 := nI_ge (a := 2) (b := le) (by omega) (by omega)
        rw [if_neg L2]
        have sF := sim_flat hFr.b
        have S0 := hF
        have S1 := (ss_next (by omega) S0 hN1 e1 ha).1
        have S2 := (ss_next (by omega) S1 hN2 e2 (c := b) (by omega)).1
        have sA := sim_st1 (i := nI a) (by omega) sF S0.2 (by rw [nI_toInt (by omega)]; omega)
        have sB := sim_st1 (i := nI b) (by omega) sA S1.2 (by rw [nI_toInt (by omega)]; omega)
        obtain ⟨pp, pe⟩ := pls_sim sB S2
        have f1 := (ss_next (by omega) (ss_sim sF S0) hN1 (by rw [sim_fold sF]; exact e1) ha).2
        have f2 := (ss_next (by omega) (ss_sim sA S1) hN2 (by rw [sim_fold sA]; exact e2) (c := b) (by omega)).2
        have fr := ((hFr.t (fr_flat m)).t f1).t f2
        obtain ⟨N3, hN3, e3⟩ := fold_n (d := 2) (by omega) S2.2
        have e3' : f_X9_foldsNow (st1 (st1 (f_X9_flat m) (nI a)) (nI b)) = nI N3 := by rw [sim_fold sB]; exact e3
        rw [e3']
        have go : ∀ le', 1 ≤ le' → le' ≤ 4 → (∀ t, 1 ≤ t → t ≤ 3 → (le' ≤ t ↔ (T t ∨ Rn k 0 (st1 (f_X9_flat m0) (nI a)) ∨ (2 ≤ t ∧ ∃ b', b' < b ∧ Rn k 0 (st1 (st1 (f_X9_flat m0) (nI a)) (nI b'))) ∨ (3 ≤ t ∧ ∃ b', b' < b ∧ Rn k 1 (st1 (st1 (f_X9_flat m0) (nI a)) (nI b')))) ∨ (2 ≤ t ∧ Rn k 0 (st1 (st1 (f_X9_flat m0) (nI a)) (nI b))))) → p_X9_small_184 G41 (p_X9_small_101 G41 n) 4000000000 (st1 (st1 (f_X9_flat m) (nI a)) (nI b)) (nI k) (nI le') (nI N1) (nI a) (nI N2) (nI b) (nI N3) (Int32.ofInt 0) ∧ Q (f_X9_small_184 K41 (f_X9_small_101 K41 n) 4000000000 (st1 (st1 (f_X9_flat m) (nI a)) (nI b)) (nI k) (nI le') (nI N1) (nI a) (nI N2) (nI b) (nI N3) (Int32.ofInt 0)) := by
          intro le' l1' l4' hL'
          refine r184 (T := fun t => T t ∨ Rn k 0 (st1 (f_X9_flat m0) (nI a)) ∨ (2 ≤ t ∧ ∃ b', b' < b ∧ Rn k 0 (st1 (st1 (f_X9_flat m0) (nI a)) (nI b'))) ∨ (3 ≤ t ∧ ∃ b', b' < b ∧ Rn k 1 (st1 (st1 (f_X9_flat m0) (nI a)) (nI b')))) hk36 hF e1 hN1 ha e2 hN2 (by omega) e3 hN3 (fun m' le'' g1 g2 g3 g4 => ih (b + 1) le'' m' (by omega) (by omega) g1 g2 g3 (fun t t1 t3 => ?_)) 4000000000 0 le' _ (by omega) (by omega) fr l1' l4' (fun t t1 t3 => ?_)
          · rw [g4 t t1 t3]
            constructor
            · rintro ((z | z | ⟨z1, c', z2, z3⟩ | ⟨z1, c', z2, z3⟩) | ⟨z1, z2⟩ | ⟨z1, z2⟩)
              · exact Or.inl z
              · exact Or.inr (Or.inl z)
              · exact Or.inr (Or.inr (Or.inl ⟨z1, c', by omega, z3⟩))
              · exact Or.inr (Or.inr (Or.inr ⟨z1, c', by omega, z3⟩))
              · exact Or.inr (Or.inr (Or.inl ⟨z1, b, by omega, z2⟩))
              · exact Or.inr (Or.inr (Or.inr ⟨z1, b, by omega, z2⟩))
            · rintro (z | z | ⟨z1, c', z2, z3⟩ | ⟨z1, c', z2, z3⟩)
              · exact Or.inl (Or.inl z)
              · exact Or.inl (Or.inr (Or.inl z))
              · by_cases w : c' = b
                · rw [w] at z3; exact Or.inr (Or.inl ⟨z1, z3⟩)
                · exact Or.inl (Or.inr (Or.inr (Or.inl ⟨z1, c', by omega, z3⟩)))
              · by_cases w : c' = b
                · rw [w] at z3; exact Or.inr (Or.inr ⟨z1, z3⟩)
                · exact Or.inl (Or.inr (Or.inr (Or.inr ⟨z1, c', by omega, z3⟩)))
          · rw [hL' t t1 t3]
            constructor
            · rintro (z | z)
              · exact Or.inl z
              · exact Or.inr (Or.inl z)
            · rintro (z | z | ⟨_, c', z, _⟩)
              · exact Or.inl z
              · exact Or.inr z
              · omega
        by_cases c3 : nI k < f_X9_places (st1 (st1 (f_X9_flat m) (nI a)) (nI b))
        · rw [if_pos c3]
          have nr : ¬ Rn k 0 (st1 (st1 (f_X9_flat m0) (nI a)) (nI b)) := by
            show ¬ f_X9_places _ ≤ nI k
            rw [← pe]
            exact Int32.not_le.mpr c3
          obtain ⟨i1, i2⟩ := go le l1 l4 (fun t t1 t3 => by
            rw [hL t t1 t3]
            exact ⟨Or.inl, fun z => z.elim id (fun y => absurd y.2 nr)⟩)
          exact ⟨⟨fun z => absurd z L1, fun _ => ⟨fun z => absurd z L2, fun _ => ⟨pp_flat _, pp_pick .., pp_turnsOver .., pp_pick .., pp_turnsOver .., pp, fun _ => ⟨pp_foldsNow _, i1⟩, fun z => absurd c3 z⟩⟩⟩, i2⟩
        · rw [if_neg c3]
          have yr : Rn k 0 (st1 (st1 (f_X9_flat m0) (nI a)) (nI b)) := by
            show f_X9_places _ ≤ nI k
            rw [← pe]
            exact Int32.not_lt.mp c3
          obtain ⟨i1, i2⟩ := go 2 (by omega) (by omega) (fun t t1 t3 => by
            constructor
            · intro z
              exact Or.inr ⟨z, yr⟩
            · rintro (z | ⟨z1, _⟩)
              · have := (hL t t1 t3).mpr z; omega
              · exact z1)
          exact ⟨⟨fun z => absurd z L1, fun _ => ⟨fun z => absurd z L2, fun _ => ⟨pp_flat _, pp_pick .., pp_turnsOver .., pp_pick .., pp_turnsOver .., pp, fun z => absurd z c3, fun _ => ⟨pp_foldsNow _, i1⟩⟩⟩⟩, i2⟩
theorem r41 (hk36 : k ≤ 36) (hF : SS h 0 (f_X9_flat m0)) (e1 : f_X9_foldsNow (f_X9_flat m0) = nI N1) (hN1 : N1 ≤ 8000) (h0 : ¬ Rn k 0 (f_X9_flat m0)) :
    ∀ (n a le : Nat) (m : Rec), a ≤ N1 → N1 < n + a → FrH m0 m → 1 ≤ le → le ≤ 4 → (∀ t, 1 ≤ t → t ≤ 3 → (le ≤ t ↔ (∃ a', a' < a ∧ Rn k 0 (st1 (f_X9_flat m0) (nI a'))) ∨ (2 ≤ t ∧ ∃ a', a' < a ∧ Rn k 1 (st1 (f_X9_flat m0) (nI a'))) ∨ (3 ≤ t ∧ ∃ a', a' < a ∧ Rn k 2 (st1 (f_X9_flat m0) (nI a'))))) →
    p_X9_small_41 n m (nI k) (nI le) (nI N1) (nI a) ∧ (SmA (fun f => Rn k f (f_X9_flat m0)) (f_X9_small_41 n m (nI k) (nI le) (nI N1) (nI a)).1 ∧ FrH m0 (f_X9_small_41 n m (nI k) (nI le) (nI N1) (nI a)).2) := by
  have ex := fun f => rn_ex (k := k) (f := f) (by omega) e1
  intro n
  induction n with
  | zero => intro a le m h1 h2; omega
  | succ n ih =>
    intro a le m ha hn hFr l1 l4 hL
    rw [s41f, s41p]
    by_cases c1 : N1 ≤ a
    · have L1 : nI N1 ≤ nI a := nI_le c1 (by omega)
      have ec : a = N1 := by omega
      rw [if_pos L1]
      refine ⟨⟨fun _ => trivial, fun z => absurd L1 z⟩, ?_⟩
      have hL' : ∀ t, 1 ≤ t → t ≤ 3 → (le ≤ t ↔ Rn k 1 (f_X9_flat m0) ∨ (2 ≤ t ∧ Rn k 2 (f_X9_flat m0)) ∨ (3 ≤ t ∧ Rn k 3 (f_X9_flat m0))) := by
        intro t t1 t3
        rw [hL t t1 t3, ec, ex 0, ex 1, ex 2]
      have a1 := hL' 1 (by omega) (by omega)
      have a2 := hL' 2 (by omega) (by omega)
      have a3 := hL' 3 (by omega) (by omega)
      by_cases q4 : le = 4
      · rw [if_pos (show nI le = Int32.ofInt 4 by rw [q4]; rfl)]
        refine ⟨Or.inr ⟨fun g hg z => ?_, rfl⟩, hFr⟩
        have : g = 0 ∨ g = 1 ∨ g = 2 ∨ g = 3 := by omega
        rcases this with rfl | rfl | rfl | rfl
        · exact h0 z
        · have := a1.mpr (Or.inl z); omega
        · have := a2.mpr (Or.inr (Or.inl ⟨by omega, z⟩)); omega
        · have := a3.mpr (Or.inr (Or.inr ⟨by omega, z⟩)); omega
      · have nz : ¬ nI le = Int32.ofInt 4 := fun z => q4 ((nI_eq (b := 4) (by omega) (by omega)).mp z)
        rw [if_neg nz]
        refine ⟨Or.inl ⟨le, by omega, ?_, fun g hg z => ?_, rfl⟩, hFr⟩
        · have : le = 1 ∨ le = 2 ∨ le = 3 := by omega
          rcases this with rfl | rfl | rfl
          · rcases a1.mp (by omega) with z | ⟨z, _⟩ | ⟨z, _⟩
            · exact z
            · omega
            · omega
          · rcases a2.mp (by omega) with z | ⟨_, z⟩ | ⟨z, _⟩
            · have := a1.mpr (Or.inl z); omega
            · exact z
            · omega
          · rcases a3.mp (by omega) with z | ⟨_, z⟩ | ⟨_, z⟩
            · have := a1.mpr (Or.inl z); omega
            · have := a2.mpr (Or.inr (Or.inl ⟨by omega, z⟩)); omega
            · exact z
        · have : g = 0 ∨ g = 1 ∨ g = 2 := by omega
          rcases this with rfl | rfl | rfl
          · exact h0 z
          · have := a1.mpr (Or.inl z); omega
          · have := a2.mpr (Or.inr (Or.inl ⟨by omega, z⟩)); omega
    · have L1 : ¬ nI N1 ≤ nI a := nI_ge (by omega) (by omega)
      rw [if_neg L1]
      by_cases c2 : le ≤ 1
      · have L2 : nI le ≤ Int32.ofInt 1 := nI_le (a := le) (b := 1) c2 (by omega)
        have e1' : le = 1 := by omega
        have nz : ¬ nI le = Int32.ofInt 4 := fun z => by
          have := (nI_eq (b := 4) (by omega) (by omega)).mp z
          omega
        rw [if_pos L2, if_neg nz]
        refine ⟨⟨fun z => absurd z L1, fun _ => ⟨fun _ => trivial, fun z => absurd L2 z⟩⟩, Or.inl ⟨1, by omega, ?_, fun g hg z => ?_, by rw [e1']⟩, hFr⟩
        · rcases (hL 1 (by omega) (by omega)).mp c2 with ⟨a', z1, z2⟩ | ⟨z, _⟩ | ⟨z, _⟩
          · exact (ex 0).mpr ⟨a', by omega, z2⟩
          · omega
          · omega
        · have : g = 0 := by omega
          rw [this] at z
          exact h0 z
      · have L2 : ¬ nI le ≤ Int32.ofInt 1 := nI_ge (a := 1) (b := le) (by omega) (by omega)
        rw [if_neg L2]
        have sF := sim_flat hFr.b
        have S0 := hF
        have S1 := (ss_next (by omega) S0 hN1 e1 (c := a) (by omega)).1
        have sA := sim_st1 (i := nI a) (by omega) sF S0.2 (by rw [nI_toInt (by omega)]; omega)
        obtain ⟨pp, pe⟩ := pls_sim sA S1
        have f1 := (ss_next (by omega) (ss_sim sF S0) hN1 (by rw [sim_fold sF]; exact e1) (c := a) (by omega)).2
        have fr := (hFr.t (fr_flat m)).t f1
        obtain ⟨N2, hN2, e2⟩ := fold_n (d := 1) (by omega) S1.2
        have e2' : f_X9_foldsNow (st1 (f_X9_flat m) (nI a)) = nI N2 := by rw [sim_fold sA]; exact e2
        rw [e2']
        have go : ∀ le', 1 ≤ le' → le' ≤ 4 → (∀ t, 1 ≤ t → t ≤ 3 → (le' ≤ t ↔ ((∃ a', a' < a ∧ Rn k 0 (st1 (f_X9_flat m0) (nI a'))) ∨ (2 ≤ t ∧ ∃ a', a' < a ∧ Rn k 1 (st1 (f_X9_flat m0) (nI a'))) ∨ (3 ≤ t ∧ ∃ a', a' < a ∧ Rn k 2 (st1 (f_X9_flat m0) (nI a')))) ∨ Rn k 0 (st1 (f_X9_flat m0) (nI a)))) → p_X9_small_101 (p_X9_small_41 n) 4000000000 (st1 (f_X9_flat m) (nI a)) (nI k) (nI le') (nI N1) (nI a) (nI N2) (Int32.ofInt 0) ∧ (SmA (fun f => Rn k f (f_X9_flat m0)) (f_X9_small_101 (f_X9_small_41 n) 4000000000 (st1 (f_X9_flat m) (nI a)) (nI k) (nI le') (nI N1) (nI a) (nI N2) (Int32.ofInt 0)).1 ∧ FrH m0 (f_X9_small_101 (f_X9_small_41 n) 4000000000 (st1 (f_X9_flat m) (nI a)) (nI k) (nI le') (nI N1) (nI a) (nI N2) (Int32.ofInt 0)).2) := by
          intro le' l1' l4' hL'
          refine r101 (Q := fun x => SmA (fun f => Rn k f (f_X9_flat m0)) x.1 ∧ FrH m0 x.2) (T := fun t => (∃ a', a' < a ∧ Rn k 0 (st1 (f_X9_flat m0) (nI a'))) ∨ (2 ≤ t ∧ ∃ a', a' < a ∧ Rn k 1 (st1 (f_X9_flat m0) (nI a'))) ∨ (3 ≤ t ∧ ∃ a', a' < a ∧ Rn k 2 (st1 (f_X9_flat m0) (nI a')))) hk36 hF e1 hN1 (by omega) e2 hN2 (fun m' le'' g1 g2 g3 g4 => ih (a + 1) le'' m' (by omega) (by omega) g1 g2 g3 (fun t t1 t3 => ?_)) 4000000000 0 le' _ (by omega) (by omega) fr l1' l4' (fun t t1 t3 => ?_)
          · rw [g4 t t1 t3]
            constructor
            · rintro ((⟨c', z2, z3⟩ | ⟨z1, c', z2, z3⟩ | ⟨z1, c', z2, z3⟩) | z | ⟨z1, z2⟩ | ⟨z1, z2⟩)
              · exact Or.inl ⟨c', by omega, z3⟩
              · exact Or.inr (Or.inl ⟨z1, c', by omega, z3⟩)
              · exact Or.inr (Or.inr ⟨z1, c', by omega, z3⟩)
              · exact Or.inl ⟨a, by omega, z⟩
              · exact Or.inr (Or.inl ⟨z1, a, by omega, z2⟩)
              · exact Or.inr (Or.inr ⟨z1, a, by omega, z2⟩)
            · rintro (⟨c', z2, z3⟩ | ⟨z1, c', z2, z3⟩ | ⟨z1, c', z2, z3⟩)
              · by_cases w : c' = a
                · rw [w] at z3; exact Or.inr (Or.inl z3)
                · exact Or.inl (Or.inl ⟨c', by omega, z3⟩)
              · by_cases w : c' = a
                · rw [w] at z3; exact Or.inr (Or.inr (Or.inl ⟨z1, z3⟩))
                · exact Or.inl (Or.inr (Or.inl ⟨z1, c', by omega, z3⟩))
              · by_cases w : c' = a
                · rw [w] at z3; exact Or.inr (Or.inr (Or.inr ⟨z1, z3⟩))
                · exact Or.inl (Or.inr (Or.inr ⟨z1, c', by omega, z3⟩))
          · rw [hL' t t1 t3]
            constructor
            · rintro (z | z)
              · exact Or.inl z
              · exact Or.inr (Or.inl z)
            · rintro (z | z | ⟨_, c', z, _⟩ | ⟨_, c', z, _⟩)
              · exact Or.inl z
              · exact Or.inr z
              · omega
              · omega
        by_cases c3 : nI k < f_X9_places (st1 (f_X9_flat m) (nI a))
        · rw [if_pos c3]
          have nr : ¬ Rn k 0 (st1 (f_X9_flat m0) (nI a)) := by
            show ¬ f_X9_places _ ≤ nI k
            rw [← pe]
            exact Int32.not_le.mpr c3
          obtain ⟨i1, i2⟩ := go le l1 l4 (fun t t1 t3 => by
            rw [hL t t1 t3]
            exact ⟨Or.inl, fun z => z.elim id (fun y => absurd y nr)⟩)
          exact ⟨⟨fun z => absurd z L1, fun _ => ⟨fun z => absurd z L2, fun _ => ⟨pp_flat _, pp_pick .., pp_turnsOver .., pp, fun _ => ⟨pp_foldsNow _, i1⟩, fun z => absurd c3 z⟩⟩⟩, i2⟩
        · rw [if_neg c3]
          have yr : Rn k 0 (st1 (f_X9_flat m0) (nI a)) := by
            show f_X9_places _ ≤ nI k
            rw [← pe]
            exact Int32.not_lt.mp c3
          obtain ⟨i1, i2⟩ := go 1 (by omega) (by omega) (fun t t1 t3 => by
            exact ⟨fun _ => Or.inr yr, fun _ => t1⟩)
          exact ⟨⟨fun z => absurd z L1, fun _ => ⟨fun z => absurd z L2, fun _ => ⟨pp_flat _, pp_pick .., pp_turnsOver .., pp, fun z => absurd z c3, fun _ => ⟨pp_foldsNow _, i1⟩⟩⟩⟩, i2⟩
end
theorem inv_q {K : Int32} {c s p t e q q' s1 p1 s2 p2 t1 t2 m : Rec} (h : SmO q' s) (hI : Inv K c s p t e q s1 p1 s2 p2 t1 t2 m) : Inv K c s p t e q' s1 p1 s2 p2 t1 t2 m := ⟨hI.1, hI.2.1, hI.2.2.1, hI.2.2.2.1, hI.2.2.2.2.1, h⟩
section
variable {K : Int32} {c s p t e q s1 p1 s2 p2 t1 t2 m : Rec}
theorem c_small (o oh h k : Rec) (n : Int32) (hK : K < 100000) (hI : Inv K c s p t e q s1 p1 s2 p2 t1 t2 m) : p_X8_small c s p t e o oh h k q s1 p1 s2 p2 t1 t2 n ∧ p_X9_small m n ∧ (f_X8_small c s p t e o oh h k q s1 p1 s2 p2 t1 t2 n).1 = (f_X9_small m n).1 ∧ Inv (K + 1) (f_X8_small c s p t e o oh h k q s1 p1 s2 p2 t1 t2 n).2.1 s p t e (f_X8_small c s p t e o oh h k q s1 p1 s2 p2 t1 t2 n).2.2 s1 p1 s2 p2 t1 t2 (f_X9_small m n).2 := by
  unfold p_X8_small p_X9_small f_X8_small f_X9_small
  have i36 : (36 : Int64) = (36 : Int32).toInt64 := by decide
  have i1 : (Int64.ofNat 1) = (1 : Int32).toInt64 := by decide
  rw [i1, i36, in_w]
  by_cases c1 : f_X8_within n 1 36 = 0
  · have c1' : f_X8_within n (Int32.ofInt 1) (Int32.ofInt 36) = 0 := c1
    rw [if_pos c1, if_pos c1']
    exact ⟨⟨fun _ => trivial, fun z => absurd c1' z⟩, ⟨fun _ => ⟨pp_bad _, trivial⟩, fun z => absurd c1 z⟩, rfl, ref_bad _ hK hI⟩
  · have c1' : ¬ f_X8_within n (Int32.ofInt 1) (Int32.ofInt 36) = 0 := c1
    rw [if_neg c1, if_neg c1']
    have nn := wi_n.mp c1
    obtain ⟨kk, hk, ek⟩ := nI_of2 (x := n) (M := 36) (n := 36) (by decide) (by have := nn.1; grind) nn.2
    subst ek
    obtain ⟨a1, a2, a3⟩ := ff_all hk hI.2.2.2.2.2
    have hh : ∀ c, c < 36 → (f_X9_isCell m (nI c) = 0 ↔ hS s c = false) := by
      intro c hc
      rw [← inv_c hI]
      exact has_n s hc
    have R0 := rs_flat hh
    have G0 : Geo (f_X9_flat m) (Bk 0) (Lk 0) := (geo_flat m).1
    have SA : ∀ r, SmA (fun f => Rn kk f (f_X9_flat m)) r → (f_X5_fewestFolds q s (nI kk)).1 = r := by
      intro r hr
      refine sma_one a2 ?_
      have eq : ∀ f, f < 4 → (Rn kk f (f_X9_flat m) ↔ Cp (hS s) f 0 (Ph (hS s) kk) idI idI) := fun f hf => by
        rw [rn_rp hk f 0 _ idI idI (by omega) R0 G0]
        exact rp_iff _ _ _ _ _
      rcases hr with ⟨f, f1, f2, f3, f4⟩ | ⟨f1, f2⟩
      · exact Or.inl ⟨f, f1, (eq f f1).mp f2, fun g hg z => f3 g hg ((eq g (by omega)).mpr z), f4⟩
      · exact Or.inr ⟨fun g hg z => f1 g hg ((eq g hg).mpr z), f2⟩
    obtain ⟨pp, pe⟩ := plc_all R0
    by_cases c2 : nI kk < f_X9_places (f_X9_flat m)
    · rw [if_pos c2]
      have nr : ¬ Rn kk 0 (f_X9_flat m) := Int32.not_le.mpr c2
      obtain ⟨N1, hN1, e1⟩ := fold_n (d := 0) (by omega) G0
      rw [e1]
      obtain ⟨b1, b2, b3⟩ := r41 (m0 := m) hk ⟨⟨idI, idI, R0⟩, G0⟩ e1 hN1 nr 4000000000 0 4 (f_X9_flat m) (by omega) (by omega) (fr_flat m) (by omega) (by omega) (fun t t1 t3 => by
        constructor
        · intro z; omega
        · rintro (⟨c', z, _⟩ | ⟨_, c', z, _⟩ | ⟨_, c', z, _⟩) <;> omega)
      refine ⟨⟨fun z => absurd z c1', fun _ => ⟨a1, trivial⟩⟩, ⟨fun z => absurd z c1, fun _ => ⟨pp_flat _, pp, fun _ => ⟨pp_foldsNow _, b1⟩, fun z => absurd c2 z⟩⟩, SA _ b2, ?_⟩
      exact inv_q a3 (inv_h hK b3 hI)
    · rw [if_neg c2]
      refine ⟨⟨fun z => absurd z c1', fun _ => ⟨a1, trivial⟩⟩, ⟨fun z => absurd z c1, fun _ => ⟨pp_flat _, pp, fun z => absurd z c2, fun _ => trivial⟩⟩, SA _ (Or.inl ⟨0, by omega, Int32.not_lt.mp c2, fun g hg => by omega, rfl⟩), ?_⟩
      exact inv_q a3 (inv_h hK (fr_flat m) hI)
end
