/-! layer 3: the class's search for small boards -/
def QU (q : Rec) (h : Nat → Bool) : Prop := (∀ i, i < 6 → (¬ q.2 2 i = 0 ↔ ∃ c, c < 36 ∧ h c = true ∧ p6 c = i)) ∧ (∀ i, i < 6 → (¬ q.2 3 i = 0 ↔ ∃ c, c < 36 ∧ h c = true ∧ d6 c = i))
def QF (q : Rec) : Prop := ∀ j, j < 4 → ∃ v, v ≤ 37 ∧ q.2 4 j = nI v
def LR (d : Nat) (C : Nat → Nat → Prop) (q q' : Rec) : Prop := q'.1 = q.1 ∧ q'.2 2 = q.2 2 ∧ q'.2 3 = q.2 3 ∧ (∀ e, e ≤ d → q'.2 (100 + e) = q.2 (100 + e) ∧ q'.2 (200 + e) = q.2 (200 + e)) ∧ QF q' ∧ ∀ j, j < 4 → ∀ k, k ≤ 37 → (q'.2 4 j ≤ nI k ↔ q.2 4 j ≤ nI k ∨ C j k)
theorem lr_t {d : Nat} {C1 C2 : Nat → Nat → Prop} {a b c : Rec} (h1 : LR d C1 a b) (h2 : LR d C2 b c) : LR d (fun j k => C1 j k ∨ C2 j k) a c := by
  obtain ⟨a1, a2, a3, a4, a5, a6⟩ := h1
  obtain ⟨b1, b2, b3, b4, b5, b6⟩ := h2
  refine ⟨b1.trans a1, b2.trans a2, b3.trans a3, fun e he => ⟨(b4 e he).1.trans (a4 e he).1, (b4 e he).2.trans (a4 e he).2⟩, b5, fun j hj k hk => ?_⟩
  rw [b6 j hj k hk, a6 j hj k hk, or_assoc]
theorem lr_m {d d' : Nat} {C C' : Nat → Nat → Prop} {a b : Rec} (hd : d' ≤ d) (h : LR d C a b) (hC : ∀ j k, j < 4 → (C j k ↔ C' j k)) : LR d' C' a b := by
  obtain ⟨a1, a2, a3, a4, a5, a6⟩ := h
  exact ⟨a1, a2, a3, fun e he => a4 e (by omega), a5, fun j hj k hk => by rw [a6 j hj k hk, hC j k hj]⟩
theorem lr_u {d : Nat} {C : Nat → Nat → Prop} {a b : Rec} {h : Nat → Bool} (hl : LR d C a b) (hu : QU a h) : QU b h := by
  unfold QU
  rw [hl.2.1, hl.2.2.1]
  exact hu
theorem lr_r {d : Nat} {q : Rec} (h : QF q) : LR d (fun _ _ => False) q q := ⟨rfl, rfl, rfl, fun _ _ => ⟨rfl, rfl⟩, h, fun _ _ _ _ => ⟨Or.inl, fun z => z.elim id False.elim⟩⟩
/-- the least so far -/
theorem lr_min {d : Nat} {q : Rec} {v : Nat} (hd : d < 4) (hv : v ≤ 36) (h : QF q) : LR d (fun j k => j = d ∧ v ≤ k) q (setA q 4 (upd (q.2 4) d (if nI v < q.2 4 d then nI v else q.2 4 d))) := by
  obtain ⟨u, u1, u2⟩ := h d hd
  have em : (if nI v < q.2 4 d then nI v else q.2 4 d) = nI (min v u) := by
    rw [u2]
    by_cases z : v < u
    · rw [if_pos (nI_lt z (by omega)), Nat.min_eq_left (by omega)]
    · rw [if_neg (nI_nlt (by omega) (by omega)), Nat.min_eq_right (by omega)]
  rw [em]
  refine ⟨rfl, setA_ne (by decide), setA_ne (by decide), fun e _ => ⟨setA_ne (by omega), setA_ne (by omega)⟩, fun j hj => ?_, fun j hj k hk => ?_⟩
  · rw [setA_at, upd_at]
    by_cases z : j = d
    · rw [if_pos z]; exact ⟨_, by omega, rfl⟩
    · rw [if_neg z]; exact h j hj
  · rw [setA_at, upd_at]
    by_cases z : j = d
    · rw [if_pos z, z, u2, nI_leI (by omega) (by omega), nI_leI (by omega) (by omega)]
      omega
    · rw [if_neg z]
      exact ⟨Or.inl, fun y => y.elim id (fun w => absurd w.1 z)⟩
theorem lr_row {d r : Nat} {q : Rec} {f g : Nat → Int32} (hr : d < r) (hr9 : r < 90) (h : QF q) : LR d (fun _ _ => False) q (setA (setA q (100 + r) f) (200 + r) g) := by
  have e : ∀ x, x ≠ 100 + r → x ≠ 200 + r → (setA (setA q (100 + r) f) (200 + r) g).2 x = q.2 x := fun x h1 h2 => by rw [setA_ne h2, setA_ne h1]
  refine ⟨rfl, e 2 (by omega) (by omega), e 3 (by omega) (by omega), fun y hy => ⟨e _ (by omega) (by omega), e _ (by omega) (by omega)⟩, fun j hj => ?_, fun j hj k hk => ?_⟩
  · rw [e 4 (by omega) (by omega)]; exact h j hj
  · rw [e 4 (by omega) (by omega)]
    exact ⟨Or.inl, fun z => z.elim id False.elim⟩
theorem pc_le (h : Nat → Bool) (X Y : Nat → Int) : Pc h X Y 36 ≤ 36 := fb_ct_le _ 36
theorem oi {l : Int} (h1 : -1000 ≤ l) (h2 : l ≤ 1000) : (Int32.ofInt l).toInt = l := by
  rw [Int32.toInt_ofInt, bm32 (by omega) (by omega)]
theorem okf_b {h : Nat → Bool} {g : Nat → Nat} (hg : ∀ c, c < 36 → g c < 6) {a : Nat → Int32} {B l : Int} (ha : Bo a B) (ho : okf h g (tI a) l) : -B ≤ l ∧ l ≤ B := by
  obtain ⟨⟨c, c1, c2, c3⟩, d, d1, d2, d3⟩ := ho
  have x := ha (g c) (hg c c1)
  have y := ha (g d) (hg d d1)
  unfold tI at c3 d3
  omega
theorem inc_i {x : Int32} (h : x.toInt < 2000) : (x + Int32.ofInt 1).toInt = x.toInt + 1 := by
  have e1 : (Int32.ofInt 1).toInt = 1 := by decide
  have := n32_lt x
  have := n32_add (x := x) (y := Int32.ofInt 1) (by rw [e1]; omega) (by rw [e1]; omega)
  rw [this, e1]
/-- the search below one line -/
def Cy (h : Nat → Bool) (d : Nat) (X Y : Nat → Int) (lo hi : Int) (a : Nat) (j k : Nat) : Prop := d < j ∧ ∃ l, lo ≤ l ∧ l ≤ hi ∧ if a = 0 then Cp h (j - d - 1) 0 (Ph h k) (bd X l 0) Y else Cp h (j - d - 1) 1 (Ph h k) X (bd Y l 0)
theorem ex_3 (q s : Rec) (a : Nat) (hF : QF q) : p_X5_explore_c3 q s (nI a) ∧ LR 3 (fun j k => 3 ≤ j ∧ Cp (hS s) (j - 3) a (Ph (hS s) k) (tI (q.2 103)) (tI (q.2 203))) q (f_X5_explore_c3 q s (nI a)) := by
  obtain ⟨a1, a2⟩ := posa_3 q s
  have f34 : ∀ n (q : Rec), 0 < n → p_X5_explore_c3_34 n q s (nI a) ∧ f_X5_explore_c3_34 n q s (nI a) = q := by
    intro n q hn
    obtain ⟨n, rfl⟩ : ∃ z, n = z + 1 := ⟨n - 1, by omega⟩
    refine ⟨trivial, ?_⟩
    rw [f_X5_explore_c3_34]
    split <;> rfl
  have m := lr_min (d := 3) (q := q) (v := Pc (hS s) (tI (q.2 103)) (tI (q.2 203)) 36) (by omega) (pc_le ..) hF
  unfold f_X5_explore_c3 p_X5_explore_c3
  rw [a2]
  obtain ⟨b1, b2⟩ := f34 4000000000 (setA q 4 (upd (q.2 4) 3 (if nI (Pc (hS s) (tI (q.2 103)) (tI (q.2 203)) 36) < q.2 4 3 then nI (Pc (hS s) (tI (q.2 103)) (tI (q.2 203)) 36) else q.2 4 3))) (by omega)
  refine ⟨⟨a1, b1⟩, ?_⟩
  have b2' : f_X5_explore_c3_34 4000000000 (setA q 4 (upd (q.2 4) (Int32.toNatClampNeg (Int32.ofInt 3)) (if nI (Pc (hS s) (tI (q.2 103)) (tI (q.2 203)) 36) < q.2 4 (Int32.toNatClampNeg (Int32.ofInt 3)) then nI (Pc (hS s) (tI (q.2 103)) (tI (q.2 203)) 36) else q.2 4 (Int32.toNatClampNeg (Int32.ofInt 3))))) s (nI a) = setA q 4 (upd (q.2 4) 3 (if nI (Pc (hS s) (tI (q.2 103)) (tI (q.2 203)) 36) < q.2 4 3 then nI (Pc (hS s) (tI (q.2 103)) (tI (q.2 203)) 36) else q.2 4 3)) := b2
  rw [b2']
  refine lr_m (Nat.le_refl _) m (fun j k hj => ?_)
  constructor
  · rintro ⟨z1, z2⟩
    rw [z1]
    exact ⟨by omega, z2⟩
  · rintro ⟨z1, z2⟩
    have e : j = 3 := by omega
    rw [e] at z2
    exact ⟨e, z2⟩
theorem x120 {s : Rec} {ax ay : Nat → Int32} (hbx : Bo ax 49) (hby : Bo ay 49) {K : Rec → Rec → Int32 → Rec} {G : Rec → Rec → Int32 → Prop} {R : Nat → Nat → Prop} {v8 : Int32} (h8 : v8.toInt ≤ 49) (hk : ∀ q : Rec, QU q (hS s) → QF q → q.2 102 = ax → q.2 202 = ay → G q s (nI 1) ∧ LR 2 R q (K q s (nI 1))) : ∀ (n : Nat) (q : Rec) (v9 : Int32), QU q (hS s) → QF q → q.2 102 = ax → q.2 202 = ay → -49 ≤ v9.toInt → v9.toInt ≤ 49 + 1 → v8.toInt + 1 - v9.toInt < n → 0 < n →
    p_X5_explore_c2_111 G n q s (0 : Int32) v8 v9 ∧ LR 2 (fun j k => Cy (hS s) 2 (tI ax) (tI ay) v9.toInt v8.toInt 0 j k ∨ R j k) q (f_X5_explore_c2_111 K n q s (0 : Int32) v8 v9) := by
  intro n
  induction n with
  | zero => intro q v9 _ _ _ _ _ _ _ h0; omega
  | succ n ih =>
    intro q v9 hU hF hx hy h1 h2 hn _
    rw [f_X5_explore_c2_111, p_X5_explore_c2_111]
    by_cases c1 : v8 < v9
    · rw [if_pos c1]
      obtain ⟨k1, k2⟩ := hk q hU hF hx hy
      refine ⟨⟨fun _ => k1, fun z => absurd c1 z⟩, lr_m (Nat.le_refl _) k2 (fun j k _ => ?_)⟩
      have := Int32.lt_iff_toInt_lt.mp c1
      constructor
      · exact Or.inr
      · rintro (⟨_, l, l1, l2, _⟩ | z)
        · omega
        · exact z
    · have l1 : ¬ v8 < v9 := c1
      have le := Int32.le_iff_toInt_le.mp (Int32.not_lt.mp c1)
      rw [if_neg l1, if_pos (show (0 : Int32) = 0 from rfl), if_neg (show ¬ (0 : Int32) = Int32.ofInt 1 by decide)]
      have px := (be_all (q.2 102) (q.2 103) (Int32.ofInt 1) v9).1
      have py := (be_all (q.2 202) (q.2 203) (Int32.ofInt 0) v9).1
      obtain ⟨ex1, nbx⟩ := be_1 (a := q.2 102) (b := q.2 103) (l := v9) (B := 49) (by omega) (by rw [hx]; exact hbx) (by omega) (by omega)
      obtain ⟨ey1, nby⟩ := be_0 (b := q.2 203) (l := v9) (B := 49) (a := q.2 202) (by omega) (by rw [hy]; exact hby)
      have r0 : LR 2 (fun _ _ => False) q (setA (setA q 103 ((f_X5_bend ((fun _ => 0, fun _ => (q.2 102)) : Rec) ((fun _ => 0, fun _ => (q.2 103)) : Rec) ((Int32.ofInt 1)) v9).2 0)) 203 ((f_X5_bend ((fun _ => 0, fun _ => (q.2 202)) : Rec) ((fun _ => 0, fun _ => (q.2 203)) : Rec) ((Int32.ofInt 0)) v9).2 0)) := lr_row (r := 3) (by omega) (by omega) hF
      obtain ⟨q1, hq1⟩ : ∃ z, z = (setA (setA q 103 ((f_X5_bend ((fun _ => 0, fun _ => (q.2 102)) : Rec) ((fun _ => 0, fun _ => (q.2 103)) : Rec) ((Int32.ofInt 1)) v9).2 0)) 203 ((f_X5_bend ((fun _ => 0, fun _ => (q.2 202)) : Rec) ((fun _ => 0, fun _ => (q.2 203)) : Rec) ((Int32.ofInt 0)) v9).2 0)) := ⟨_, rfl⟩
      have rx : q1.2 103 = (f_X5_bend ((fun _ => 0, fun _ => (q.2 102)) : Rec) ((fun _ => 0, fun _ => (q.2 103)) : Rec) ((Int32.ofInt 1)) v9).2 0 := by rw [hq1, setA_ne (by decide), setA_at]
      have ry : q1.2 203 = (f_X5_bend ((fun _ => 0, fun _ => (q.2 202)) : Rec) ((fun _ => 0, fun _ => (q.2 203)) : Rec) ((Int32.ofInt 0)) v9).2 0 := by rw [hq1, setA_at]
      rw [← hq1] at r0 ⊢
      obtain ⟨e1, e2⟩ := ex_3 q1 s 0 r0.2.2.2.2.1
      have e1' : p_X5_explore_c3 q1 s (0 : Int32) := e1
      have ax' : Af (tI (q1.2 103)) (bd (tI ax) v9.toInt 0) := af_c (fun i hi => by rw [rx, ← hx]; exact (ex1 i hi).symm)
      have ay' : Af (tI (q1.2 203)) (tI ay) := af_c (fun i hi => by rw [ry, ← hy]; exact (ey1 i hi).symm)
      have e2' : LR 2 (fun j k => 2 < j ∧ Cp (hS s) (j - 2 - 1) 0 (Ph (hS s) k) (bd (tI ax) v9.toInt 0) (tI ay)) q1 (f_X5_explore_c3 q1 s (0 : Int32)) := by
        refine lr_m (by omega) e2 (fun j k _ => ?_)
        rw [show j - 3 = j - 2 - 1 by omega]
        constructor
        · rintro ⟨z1, z2⟩
          exact ⟨by omega, cp_af (ph_af _ k) _ _ _ _ _ _ ax' ay' z2⟩
        · rintro ⟨z1, z2⟩
          exact ⟨by omega, cp_af (ph_af _ k) _ _ _ _ _ _ (af_s ax') (af_s ay') z2⟩
      have r2 := lr_t r0 e2'
      obtain ⟨q2, hq2⟩ : ∃ z, z = f_X5_explore_c3 q1 s (0 : Int32) := ⟨_, rfl⟩
      rw [← hq2] at r2 ⊢
      have i9 := inc_i (x := v9) (by omega)
      obtain ⟨i1, i2⟩ := ih q2 (v9 + Int32.ofInt 1) (lr_u r2 hU) r2.2.2.2.2.1 (by rw [← hx]; exact (r2.2.2.2.1 2 (by omega)).1) (by rw [← hy]; exact (r2.2.2.2.1 2 (by omega)).2) (by omega) (by omega) (by omega) (by omega)
      have e1 := e1'
      refine ⟨⟨fun z => absurd z l1, fun _ => ⟨fun _ => ⟨px, fun z => absurd z (by decide), fun _ => ⟨py, e1, i1⟩⟩, fun z => absurd rfl z⟩⟩, lr_m (Nat.le_refl _) (lr_t r2 i2) (fun j k _ => ?_)⟩
      rw [i9]
      constructor
      · rintro ((z | ⟨z1, z2⟩) | (⟨z1, l, z2, z3, z4⟩ | z))
        · exact z.elim
        · exact Or.inl ⟨z1, v9.toInt, by omega, by omega, z2⟩
        · exact Or.inl ⟨z1, l, by omega, z3, z4⟩
        · exact Or.inr z
      · rintro (⟨z1, l, z2, z3, z4⟩ | z)
        · by_cases w : l = v9.toInt
          · rw [w] at z4
            exact Or.inl (Or.inr ⟨z1, z4⟩)
          · exact Or.inr (Or.inl ⟨z1, l, by omega, z3, z4⟩)
        · exact Or.inr (Or.inr z)
theorem x121 {s : Rec} {ax ay : Nat → Int32} (hbx : Bo ax 49) (hby : Bo ay 49) {K : Rec → Rec → Int32 → Rec} {G : Rec → Rec → Int32 → Prop} {R : Nat → Nat → Prop} {v8 : Int32} (h8 : v8.toInt ≤ 49) (hk : ∀ q : Rec, QU q (hS s) → QF q → q.2 102 = ax → q.2 202 = ay → G q s (nI 2) ∧ LR 2 R q (K q s (nI 2))) : ∀ (n : Nat) (q : Rec) (v9 : Int32), QU q (hS s) → QF q → q.2 102 = ax → q.2 202 = ay → -49 ≤ v9.toInt → v9.toInt ≤ 49 + 1 → v8.toInt + 1 - v9.toInt < n → 0 < n →
    p_X5_explore_c2_111 G n q s (1 : Int32) v8 v9 ∧ LR 2 (fun j k => Cy (hS s) 2 (tI ax) (tI ay) v9.toInt v8.toInt 1 j k ∨ R j k) q (f_X5_explore_c2_111 K n q s (1 : Int32) v8 v9) := by
  intro n
  induction n with
  | zero => intro q v9 _ _ _ _ _ _ _ h0; omega
  | succ n ih =>
    intro q v9 hU hF hx hy h1 h2 hn _
    rw [f_X5_explore_c2_111, p_X5_explore_c2_111]
    by_cases c1 : v8 < v9
    · rw [if_pos c1]
      obtain ⟨k1, k2⟩ := hk q hU hF hx hy
      refine ⟨⟨fun _ => k1, fun z => absurd c1 z⟩, lr_m (Nat.le_refl _) k2 (fun j k _ => ?_)⟩
      have := Int32.lt_iff_toInt_lt.mp c1
      constructor
      · exact Or.inr
      · rintro (⟨_, l, l1, l2, _⟩ | z)
        · omega
        · exact z
    · have l1 : ¬ v8 < v9 := c1
      have le := Int32.le_iff_toInt_le.mp (Int32.not_lt.mp c1)
      rw [if_neg l1, if_neg (show ¬ (1 : Int32) = 0 by decide), if_pos (show (1 : Int32) = Int32.ofInt 1 from rfl)]
      have px := (be_all (q.2 102) (q.2 103) (Int32.ofInt 0) v9).1
      have py := (be_all (q.2 202) (q.2 203) (Int32.ofInt 1) v9).1
      obtain ⟨ex1, nbx⟩ := be_0 (b := q.2 103) (l := v9) (B := 49) (a := q.2 102) (by omega) (by rw [hx]; exact hbx)
      obtain ⟨ey1, nby⟩ := be_1 (a := q.2 202) (b := q.2 203) (l := v9) (B := 49) (by omega) (by rw [hy]; exact hby) (by omega) (by omega)
      have r0 : LR 2 (fun _ _ => False) q (setA (setA q 103 ((f_X5_bend ((fun _ => 0, fun _ => (q.2 102)) : Rec) ((fun _ => 0, fun _ => (q.2 103)) : Rec) ((Int32.ofInt 0)) v9).2 0)) 203 ((f_X5_bend ((fun _ => 0, fun _ => (q.2 202)) : Rec) ((fun _ => 0, fun _ => (q.2 203)) : Rec) ((Int32.ofInt 1)) v9).2 0)) := lr_row (r := 3) (by omega) (by omega) hF
      obtain ⟨q1, hq1⟩ : ∃ z, z = (setA (setA q 103 ((f_X5_bend ((fun _ => 0, fun _ => (q.2 102)) : Rec) ((fun _ => 0, fun _ => (q.2 103)) : Rec) ((Int32.ofInt 0)) v9).2 0)) 203 ((f_X5_bend ((fun _ => 0, fun _ => (q.2 202)) : Rec) ((fun _ => 0, fun _ => (q.2 203)) : Rec) ((Int32.ofInt 1)) v9).2 0)) := ⟨_, rfl⟩
      have rx : q1.2 103 = (f_X5_bend ((fun _ => 0, fun _ => (q.2 102)) : Rec) ((fun _ => 0, fun _ => (q.2 103)) : Rec) ((Int32.ofInt 0)) v9).2 0 := by rw [hq1, setA_ne (by decide), setA_at]
      have ry : q1.2 203 = (f_X5_bend ((fun _ => 0, fun _ => (q.2 202)) : Rec) ((fun _ => 0, fun _ => (q.2 203)) : Rec) ((Int32.ofInt 1)) v9).2 0 := by rw [hq1, setA_at]
      rw [← hq1] at r0 ⊢
      obtain ⟨e1, e2⟩ := ex_3 q1 s 1 r0.2.2.2.2.1
      have e1' : p_X5_explore_c3 q1 s (1 : Int32) := e1
      have ax' : Af (tI (q1.2 103)) (tI ax) := af_c (fun i hi => by rw [rx, ← hx]; exact (ex1 i hi).symm)
      have ay' : Af (tI (q1.2 203)) (bd (tI ay) v9.toInt 0) := af_c (fun i hi => by rw [ry, ← hy]; exact (ey1 i hi).symm)
      have e2' : LR 2 (fun j k => 2 < j ∧ Cp (hS s) (j - 2 - 1) 1 (Ph (hS s) k) (tI ax) (bd (tI ay) v9.toInt 0)) q1 (f_X5_explore_c3 q1 s (1 : Int32)) := by
        refine lr_m (by omega) e2 (fun j k _ => ?_)
        rw [show j - 3 = j - 2 - 1 by omega]
        constructor
        · rintro ⟨z1, z2⟩
          exact ⟨by omega, cp_af (ph_af _ k) _ _ _ _ _ _ ax' ay' z2⟩
        · rintro ⟨z1, z2⟩
          exact ⟨by omega, cp_af (ph_af _ k) _ _ _ _ _ _ (af_s ax') (af_s ay') z2⟩
      have r2 := lr_t r0 e2'
      obtain ⟨q2, hq2⟩ : ∃ z, z = f_X5_explore_c3 q1 s (1 : Int32) := ⟨_, rfl⟩
      rw [← hq2] at r2 ⊢
      have i9 := inc_i (x := v9) (by omega)
      obtain ⟨i1, i2⟩ := ih q2 (v9 + Int32.ofInt 1) (lr_u r2 hU) r2.2.2.2.2.1 (by rw [← hx]; exact (r2.2.2.2.1 2 (by omega)).1) (by rw [← hy]; exact (r2.2.2.2.1 2 (by omega)).2) (by omega) (by omega) (by omega) (by omega)
      have e1 := e1'
      refine ⟨⟨fun z => absurd z l1, fun _ => ⟨fun z => absurd z (by decide), fun _ => ⟨px, fun _ => ⟨py, e1, i1⟩, fun z => absurd rfl z⟩⟩⟩, lr_m (Nat.le_refl _) (lr_t r2 i2) (fun j k _ => ?_)⟩
      rw [i9]
      constructor
      · rintro ((z | ⟨z1, z2⟩) | (⟨z1, l, z2, z3, z4⟩ | z))
        · exact z.elim
        · exact Or.inl ⟨z1, v9.toInt, by omega, by omega, z2⟩
        · exact Or.inl ⟨z1, l, by omega, z3, z4⟩
        · exact Or.inr z
      · rintro (⟨z1, l, z2, z3, z4⟩ | z)
        · by_cases w : l = v9.toInt
          · rw [w] at z4
            exact Or.inl (Or.inr ⟨z1, z4⟩)
          · exact Or.inr (Or.inl ⟨z1, l, by omega, z3, z4⟩)
        · exact Or.inr (Or.inr z)
/-- what is still to be tried at this depth -/
theorem x32 {s : Rec} {ax ay : Nat → Int32} (hbx : Bo ax 49) (hby : Bo ay 49) : ∀ (n a : Nat) (q : Rec), a ≤ 2 → 2 < n + a → QU q (hS s) → QF q → q.2 102 = ax → q.2 202 = ay →
    p_X5_explore_c2_34 n q s (nI a) ∧ LR 2 (fun j k => 2 < j ∧ ((a = 0 ∧ ∃ l, okf (hS s) p6 (tI ax) l ∧ Cp (hS s) (j - 2 - 1) 0 (Ph (hS s) k) (bd (tI ax) l 0) (tI ay)) ∨ (a ≤ 1 ∧ ∃ l, okf (hS s) d6 (tI ay) l ∧ Cp (hS s) (j - 2 - 1) 1 (Ph (hS s) k) (tI ax) (bd (tI ay) l 0)))) q (f_X5_explore_c2_34 n q s (nI a)) := by
  intro n
  induction n with
  | zero => intro a q h1 h2; omega
  | succ n ih =>
    intro a q h1 h2 hU hF hx hy
    subst hx hy
    rw [f_X5_explore_c2_34, p_X5_explore_c2_34]
    by_cases c2 : a = 2
    · have l1 : Int32.ofInt 1 < nI a := by rw [c2]; decide
      rw [if_pos l1]
      refine ⟨⟨fun _ => trivial, fun z => absurd l1 z⟩, lr_m (Nat.le_refl _) (lr_r hF) (fun j k _ => ?_)⟩
      constructor
      · exact False.elim
      · rintro ⟨_, ⟨z, _⟩ | ⟨z, _⟩⟩ <;> omega
    · by_cases c0 : a = 0
      · subst c0
        have l1 : ¬ Int32.ofInt 1 < nI 0 := by decide
        have z0 : nI 0 = 0 := rfl
        rw [if_neg l1, if_pos z0, if_pos z0]
        obtain ⟨b1, b2⟩ := om_b (a := q.2 102) (q.2 2) (Int32.ofInt 0) (B := 49) (by omega) hbx
        obtain ⟨b3, b4⟩ := om_b (a := q.2 102) (q.2 2) (Int32.ofInt 1) (B := 49) (by omega) hbx
        have i9 := inc_i (x := f_X5_outmost (rc (q.2 102)) (rc (q.2 2)) (Int32.ofInt 0)) (by omega)
        have p0 := (om_all (q.2 102) (q.2 2) (Int32.ofInt 0)).1
        have p1 := (om_all (q.2 102) (q.2 2) (Int32.ofInt 1)).1
        have ol := fun l => om_line (a := q.2 102) (b := q.2 2) p6_lt hU.1 l
        obtain ⟨j1, j2⟩ := x120 (s := s) hbx hby (K := f_X5_explore_c2_34 n) (G := p_X5_explore_c2_34 n) (R := fun j k => 2 < j ∧ ((1 = 0 ∧ ∃ l, okf (hS s) p6 (tI (q.2 102)) l ∧ Cp (hS s) (j - 2 - 1) 0 (Ph (hS s) k) (bd (tI (q.2 102)) l 0) (tI (q.2 202))) ∨ (1 ≤ 1 ∧ ∃ l, okf (hS s) d6 (tI (q.2 202)) l ∧ Cp (hS s) (j - 2 - 1) 1 (Ph (hS s) k) (tI (q.2 102)) (bd (tI (q.2 202)) l 0)))) (v8 := f_X5_outmost (rc (q.2 102)) (rc (q.2 2)) (Int32.ofInt 1)) b4 (fun q hU hF hx hy => ih 1 q (by omega) (by omega) hU hF hx hy) 4000000000 q (f_X5_outmost (rc (q.2 102)) (rc (q.2 2)) (Int32.ofInt 0) + Int32.ofInt 1) hU hF rfl rfl (by omega) (by omega) (by omega) (by omega)
        refine ⟨⟨fun z => absurd z l1, fun _ => ⟨fun _ => ⟨fun _ => ⟨p0, p1, j1⟩, fun z => absurd z0 z⟩, fun z => absurd z0 z⟩⟩, lr_m (Nat.le_refl _) j2 (fun j k _ => ?_)⟩
        rw [i9]
        constructor
        · rintro (⟨z1, l, z2, z3, z4⟩ | ⟨z1, ⟨z2, _⟩ | ⟨_, z3⟩⟩)
          · have el := oi (l := l) (by omega) (by omega)
            refine ⟨z1, Or.inl ⟨rfl, l, ?_, z4⟩⟩
            have := (ol (Int32.ofInt l)).mpr ⟨Int32.lt_iff_toInt_lt.mpr (by rw [el]; omega), Int32.le_iff_toInt_le.mpr (by rw [el]; omega)⟩
            rw [el] at this
            exact this
          · omega
          · exact ⟨z1, Or.inr ⟨by omega, z3⟩⟩
        · rintro ⟨z1, ⟨_, l, z2, z3⟩ | ⟨_, z3⟩⟩
          · obtain ⟨w1, w2⟩ := okf_b p6_lt hbx z2
            have el := oi (l := l) (by omega) (by omega)
            have := (ol (Int32.ofInt l)).mp (by rw [el]; exact z2)
            have u1 := Int32.lt_iff_toInt_lt.mp this.1
            have u2 := Int32.le_iff_toInt_le.mp this.2
            rw [el] at u1 u2
            exact Or.inl ⟨z1, l, by omega, by omega, z3⟩
          · exact Or.inr ⟨z1, Or.inr ⟨by omega, z3⟩⟩
      · have e1 : a = 1 := by omega
        subst e1
        have l1 : ¬ Int32.ofInt 1 < nI 1 := by decide
        have z0 : ¬ nI 1 = 0 := by decide
        rw [if_neg l1, if_neg z0, if_neg z0]
        obtain ⟨b1, b2⟩ := om_b (a := q.2 202) (q.2 3) (Int32.ofInt 0) (B := 49) (by omega) hby
        obtain ⟨b3, b4⟩ := om_b (a := q.2 202) (q.2 3) (Int32.ofInt 1) (B := 49) (by omega) hby
        have i9 := inc_i (x := f_X5_outmost (rc (q.2 202)) (rc (q.2 3)) (Int32.ofInt 0)) (by omega)
        have p0 := (om_all (q.2 202) (q.2 3) (Int32.ofInt 0)).1
        have p1 := (om_all (q.2 202) (q.2 3) (Int32.ofInt 1)).1
        have ol := fun l => om_line (a := q.2 202) (b := q.2 3) d6_lt hU.2 l
        obtain ⟨j1, j2⟩ := x121 (s := s) hbx hby (K := f_X5_explore_c2_34 n) (G := p_X5_explore_c2_34 n) (R := fun j k => 2 < j ∧ ((2 = 0 ∧ ∃ l, okf (hS s) p6 (tI (q.2 102)) l ∧ Cp (hS s) (j - 2 - 1) 0 (Ph (hS s) k) (bd (tI (q.2 102)) l 0) (tI (q.2 202))) ∨ (2 ≤ 1 ∧ ∃ l, okf (hS s) d6 (tI (q.2 202)) l ∧ Cp (hS s) (j - 2 - 1) 1 (Ph (hS s) k) (tI (q.2 102)) (bd (tI (q.2 202)) l 0)))) (v8 := f_X5_outmost (rc (q.2 202)) (rc (q.2 3)) (Int32.ofInt 1)) b4 (fun q hU hF hx hy => ih 2 q (by omega) (by omega) hU hF hx hy) 4000000000 q (f_X5_outmost (rc (q.2 202)) (rc (q.2 3)) (Int32.ofInt 0) + Int32.ofInt 1) hU hF rfl rfl (by omega) (by omega) (by omega) (by omega)
        refine ⟨⟨fun z => absurd z l1, fun _ => ⟨fun z => absurd z z0, fun _ => ⟨fun z => absurd z z0, fun _ => ⟨p0, p1, j1⟩⟩⟩⟩, lr_m (Nat.le_refl _) j2 (fun j k _ => ?_)⟩
        rw [i9]
        constructor
        · rintro (⟨z1, l, z2, z3, z4⟩ | ⟨z1, ⟨z2, _⟩ | ⟨z2, _⟩⟩)
          · have el := oi (l := l) (by omega) (by omega)
            refine ⟨z1, Or.inr ⟨by omega, l, ?_, z4⟩⟩
            have := (ol (Int32.ofInt l)).mpr ⟨Int32.lt_iff_toInt_lt.mpr (by rw [el]; omega), Int32.le_iff_toInt_le.mpr (by rw [el]; omega)⟩
            rw [el] at this
            exact this
          · omega
          · omega
        · rintro ⟨z1, ⟨z2, _⟩ | ⟨_, l, z2, z3⟩⟩
          · omega
          · obtain ⟨w1, w2⟩ := okf_b d6_lt hby z2
            have el := oi (l := l) (by omega) (by omega)
            have := (ol (Int32.ofInt l)).mp (by rw [el]; exact z2)
            have u1 := Int32.lt_iff_toInt_lt.mp this.1
            have u2 := Int32.le_iff_toInt_le.mp this.2
            rw [el] at u1 u2
            exact Or.inl ⟨z1, l, by omega, by omega, z3⟩
theorem ex_2 (q s : Rec) (a : Nat) (hU : QU q (hS s)) (hF : QF q) (hbx : Bo (q.2 102) 49) (hby : Bo (q.2 202) 49) (ha : a ≤ 1 := by omega) : p_X5_explore_c2 q s (nI a) ∧ LR 2 (fun j k => 2 ≤ j ∧ Cp (hS s) (j - 2) a (Ph (hS s) k) (tI (q.2 102)) (tI (q.2 202))) q (f_X5_explore_c2 q s (nI a)) := by
  obtain ⟨a1, a2⟩ := posa_2 q s
  have m := lr_min (d := 2) (q := q) (v := Pc (hS s) (tI (q.2 102)) (tI (q.2 202)) 36) (by omega) (pc_le ..) hF
  unfold f_X5_explore_c2 p_X5_explore_c2
  rw [a2]
  obtain ⟨q1, hq1⟩ : ∃ z, z = setA q 4 (upd (q.2 4) 2 (if nI (Pc (hS s) (tI (q.2 102)) (tI (q.2 202)) 36) < q.2 4 2 then nI (Pc (hS s) (tI (q.2 102)) (tI (q.2 202)) 36) else q.2 4 2)) := ⟨_, rfl⟩
  rw [← hq1] at m
  have hq1' : setA q 4 (upd (q.2 4) (Int32.toNatClampNeg (Int32.ofInt 2)) (if nI (Pc (hS s) (tI (q.2 102)) (tI (q.2 202)) 36) < q.2 4 (Int32.toNatClampNeg (Int32.ofInt 2)) then nI (Pc (hS s) (tI (q.2 102)) (tI (q.2 202)) 36) else q.2 4 (Int32.toNatClampNeg (Int32.ofInt 2)))) = q1 := hq1.symm
  rw [hq1']
  obtain ⟨b1, b2⟩ := x32 (s := s) hbx hby 4000000000 a q1 (by omega) (by omega) (lr_u m hU) m.2.2.2.2.1 (m.2.2.2.1 2 (by omega)).1 (m.2.2.2.1 2 (by omega)).2
  refine ⟨⟨a1, b1⟩, lr_m (Nat.le_refl _) (lr_t m b2) (fun j k _ => ?_)⟩
  constructor
  · rintro (⟨z1, z2⟩ | ⟨z1, z2⟩)
    · rw [z1]
      exact ⟨by omega, by rw [Nat.sub_self]; exact z2⟩
    · refine ⟨by omega, ?_⟩
      obtain ⟨f, hf⟩ : ∃ f, j - 2 = f + 1 := ⟨j - 2 - 1, by omega⟩
      rw [hf] at z2 ⊢
      rw [show f + 1 - 1 = f by omega] at z2
      rcases z2 with ⟨z2, z3⟩ | ⟨_, z3⟩
      · exact Or.inl ⟨z2, z3⟩
      · exact Or.inr z3
  · rintro ⟨z1, z2⟩
    by_cases e : j = 2
    · rw [e, Nat.sub_self] at z2
      exact Or.inl ⟨e, z2⟩
    · obtain ⟨f, hf⟩ : ∃ f, j - 2 = f + 1 := ⟨j - 2 - 1, by omega⟩
      refine Or.inr ⟨by omega, ?_⟩
      rw [hf] at z2 ⊢
      rw [show f + 1 - 1 = f by omega]
      rcases z2 with ⟨z2, z3⟩ | z3
      · exact Or.inl ⟨z2, z3⟩
      · exact Or.inr ⟨ha, z3⟩
theorem x110 {s : Rec} {ax ay : Nat → Int32} (hbx : Bo ax 16) (hby : Bo ay 16) {K : Rec → Rec → Int32 → Rec} {G : Rec → Rec → Int32 → Prop} {R : Nat → Nat → Prop} {v8 : Int32} (h8 : v8.toInt ≤ 16) (hk : ∀ q : Rec, QU q (hS s) → QF q → q.2 101 = ax → q.2 201 = ay → G q s (nI 1) ∧ LR 1 R q (K q s (nI 1))) : ∀ (n : Nat) (q : Rec) (v9 : Int32), QU q (hS s) → QF q → q.2 101 = ax → q.2 201 = ay → -16 ≤ v9.toInt → v9.toInt ≤ 16 + 1 → v8.toInt + 1 - v9.toInt < n → 0 < n →
    p_X5_explore_c1_111 G n q s (0 : Int32) v8 v9 ∧ LR 1 (fun j k => Cy (hS s) 1 (tI ax) (tI ay) v9.toInt v8.toInt 0 j k ∨ R j k) q (f_X5_explore_c1_111 K n q s (0 : Int32) v8 v9) := by
  intro n
  induction n with
  | zero => intro q v9 _ _ _ _ _ _ _ h0; omega
  | succ n ih =>
    intro q v9 hU hF hx hy h1 h2 hn _
    rw [f_X5_explore_c1_111, p_X5_explore_c1_111]
    by_cases c1 : v8 < v9
    · rw [if_pos c1]
      obtain ⟨k1, k2⟩ := hk q hU hF hx hy
      refine ⟨⟨fun _ => k1, fun z => absurd c1 z⟩, lr_m (Nat.le_refl _) k2 (fun j k _ => ?_)⟩
      have := Int32.lt_iff_toInt_lt.mp c1
      constructor
      · exact Or.inr
      · rintro (⟨_, l, l1, l2, _⟩ | z)
        · omega
        · exact z
    · have l1 : ¬ v8 < v9 := c1
      have le := Int32.le_iff_toInt_le.mp (Int32.not_lt.mp c1)
      rw [if_neg l1, if_pos (show (0 : Int32) = 0 from rfl), if_neg (show ¬ (0 : Int32) = Int32.ofInt 1 by decide)]
      have px := (be_all (q.2 101) (q.2 102) (Int32.ofInt 1) v9).1
      have py := (be_all (q.2 201) (q.2 202) (Int32.ofInt 0) v9).1
      obtain ⟨ex1, nbx⟩ := be_1 (a := q.2 101) (b := q.2 102) (l := v9) (B := 16) (by omega) (by rw [hx]; exact hbx) (by omega) (by omega)
      obtain ⟨ey1, nby⟩ := be_0 (b := q.2 202) (l := v9) (B := 16) (a := q.2 201) (by omega) (by rw [hy]; exact hby)
      have r0 : LR 1 (fun _ _ => False) q (setA (setA q 102 ((f_X5_bend ((fun _ => 0, fun _ => (q.2 101)) : Rec) ((fun _ => 0, fun _ => (q.2 102)) : Rec) ((Int32.ofInt 1)) v9).2 0)) 202 ((f_X5_bend ((fun _ => 0, fun _ => (q.2 201)) : Rec) ((fun _ => 0, fun _ => (q.2 202)) : Rec) ((Int32.ofInt 0)) v9).2 0)) := lr_row (r := 2) (by omega) (by omega) hF
      obtain ⟨q1, hq1⟩ : ∃ z, z = (setA (setA q 102 ((f_X5_bend ((fun _ => 0, fun _ => (q.2 101)) : Rec) ((fun _ => 0, fun _ => (q.2 102)) : Rec) ((Int32.ofInt 1)) v9).2 0)) 202 ((f_X5_bend ((fun _ => 0, fun _ => (q.2 201)) : Rec) ((fun _ => 0, fun _ => (q.2 202)) : Rec) ((Int32.ofInt 0)) v9).2 0)) := ⟨_, rfl⟩
      have rx : q1.2 102 = (f_X5_bend ((fun _ => 0, fun _ => (q.2 101)) : Rec) ((fun _ => 0, fun _ => (q.2 102)) : Rec) ((Int32.ofInt 1)) v9).2 0 := by rw [hq1, setA_ne (by decide), setA_at]
      have ry : q1.2 202 = (f_X5_bend ((fun _ => 0, fun _ => (q.2 201)) : Rec) ((fun _ => 0, fun _ => (q.2 202)) : Rec) ((Int32.ofInt 0)) v9).2 0 := by rw [hq1, setA_at]
      rw [← hq1] at r0 ⊢
      obtain ⟨e1, e2⟩ := ex_2 q1 s 0 (lr_u r0 hU) r0.2.2.2.2.1 (by rw [rx]; exact nbx) (by rw [ry]; exact nby)
      have e1' : p_X5_explore_c2 q1 s (0 : Int32) := e1
      have ax' : Af (tI (q1.2 102)) (bd (tI ax) v9.toInt 0) := af_c (fun i hi => by rw [rx, ← hx]; exact (ex1 i hi).symm)
      have ay' : Af (tI (q1.2 202)) (tI ay) := af_c (fun i hi => by rw [ry, ← hy]; exact (ey1 i hi).symm)
      have e2' : LR 1 (fun j k => 1 < j ∧ Cp (hS s) (j - 1 - 1) 0 (Ph (hS s) k) (bd (tI ax) v9.toInt 0) (tI ay)) q1 (f_X5_explore_c2 q1 s (0 : Int32)) := by
        refine lr_m (by omega) e2 (fun j k _ => ?_)
        rw [show j - 2 = j - 1 - 1 by omega]
        constructor
        · rintro ⟨z1, z2⟩
          exact ⟨by omega, cp_af (ph_af _ k) _ _ _ _ _ _ ax' ay' z2⟩
        · rintro ⟨z1, z2⟩
          exact ⟨by omega, cp_af (ph_af _ k) _ _ _ _ _ _ (af_s ax') (af_s ay') z2⟩
      have r2 := lr_t r0 e2'
      obtain ⟨q2, hq2⟩ : ∃ z, z = f_X5_explore_c2 q1 s (0 : Int32) := ⟨_, rfl⟩
      rw [← hq2] at r2 ⊢
      have i9 := inc_i (x := v9) (by omega)
      obtain ⟨i1, i2⟩ := ih q2 (v9 + Int32.ofInt 1) (lr_u r2 hU) r2.2.2.2.2.1 (by rw [← hx]; exact (r2.2.2.2.1 1 (by omega)).1) (by rw [← hy]; exact (r2.2.2.2.1 1 (by omega)).2) (by omega) (by omega) (by omega) (by omega)
      have e1 := e1'
      refine ⟨⟨fun z => absurd z l1, fun _ => ⟨fun _ => ⟨px, fun z => absurd z (by decide), fun _ => ⟨py, e1, i1⟩⟩, fun z => absurd rfl z⟩⟩, lr_m (Nat.le_refl _) (lr_t r2 i2) (fun j k _ => ?_)⟩
      rw [i9]
      constructor
      · rintro ((z | ⟨z1, z2⟩) | (⟨z1, l, z2, z3, z4⟩ | z))
        · exact z.elim
        · exact Or.inl ⟨z1, v9.toInt, by omega, by omega, z2⟩
        · exact Or.inl ⟨z1, l, by omega, z3, z4⟩
        · exact Or.inr z
      · rintro (⟨z1, l, z2, z3, z4⟩ | z)
        · by_cases w : l = v9.toInt
          · rw [w] at z4
            exact Or.inl (Or.inr ⟨z1, z4⟩)
          · exact Or.inr (Or.inl ⟨z1, l, by omega, z3, z4⟩)
        · exact Or.inr (Or.inr z)
theorem x111 {s : Rec} {ax ay : Nat → Int32} (hbx : Bo ax 16) (hby : Bo ay 16) {K : Rec → Rec → Int32 → Rec} {G : Rec → Rec → Int32 → Prop} {R : Nat → Nat → Prop} {v8 : Int32} (h8 : v8.toInt ≤ 16) (hk : ∀ q : Rec, QU q (hS s) → QF q → q.2 101 = ax → q.2 201 = ay → G q s (nI 2) ∧ LR 1 R q (K q s (nI 2))) : ∀ (n : Nat) (q : Rec) (v9 : Int32), QU q (hS s) → QF q → q.2 101 = ax → q.2 201 = ay → -16 ≤ v9.toInt → v9.toInt ≤ 16 + 1 → v8.toInt + 1 - v9.toInt < n → 0 < n →
    p_X5_explore_c1_111 G n q s (1 : Int32) v8 v9 ∧ LR 1 (fun j k => Cy (hS s) 1 (tI ax) (tI ay) v9.toInt v8.toInt 1 j k ∨ R j k) q (f_X5_explore_c1_111 K n q s (1 : Int32) v8 v9) := by
  intro n
  induction n with
  | zero => intro q v9 _ _ _ _ _ _ _ h0; omega
  | succ n ih =>
    intro q v9 hU hF hx hy h1 h2 hn _
    rw [f_X5_explore_c1_111, p_X5_explore_c1_111]
    by_cases c1 : v8 < v9
    · rw [if_pos c1]
      obtain ⟨k1, k2⟩ := hk q hU hF hx hy
      refine ⟨⟨fun _ => k1, fun z => absurd c1 z⟩, lr_m (Nat.le_refl _) k2 (fun j k _ => ?_)⟩
      have := Int32.lt_iff_toInt_lt.mp c1
      constructor
      · exact Or.inr
      · rintro (⟨_, l, l1, l2, _⟩ | z)
        · omega
        · exact z
    · have l1 : ¬ v8 < v9 := c1
      have le := Int32.le_iff_toInt_le.mp (Int32.not_lt.mp c1)
      rw [if_neg l1, if_neg (show ¬ (1 : Int32) = 0 by decide), if_pos (show (1 : Int32) = Int32.ofInt 1 from rfl)]
      have px := (be_all (q.2 101) (q.2 102) (Int32.ofInt 0) v9).1
      have py := (be_all (q.2 201) (q.2 202) (Int32.ofInt 1) v9).1
      obtain ⟨ex1, nbx⟩ := be_0 (b := q.2 102) (l := v9) (B := 16) (a := q.2 101) (by omega) (by rw [hx]; exact hbx)
      obtain ⟨ey1, nby⟩ := be_1 (a := q.2 201) (b := q.2 202) (l := v9) (B := 16) (by omega) (by rw [hy]; exact hby) (by omega) (by omega)
      have r0 : LR 1 (fun _ _ => False) q (setA (setA q 102 ((f_X5_bend ((fun _ => 0, fun _ => (q.2 101)) : Rec) ((fun _ => 0, fun _ => (q.2 102)) : Rec) ((Int32.ofInt 0)) v9).2 0)) 202 ((f_X5_bend ((fun _ => 0, fun _ => (q.2 201)) : Rec) ((fun _ => 0, fun _ => (q.2 202)) : Rec) ((Int32.ofInt 1)) v9).2 0)) := lr_row (r := 2) (by omega) (by omega) hF
      obtain ⟨q1, hq1⟩ : ∃ z, z = (setA (setA q 102 ((f_X5_bend ((fun _ => 0, fun _ => (q.2 101)) : Rec) ((fun _ => 0, fun _ => (q.2 102)) : Rec) ((Int32.ofInt 0)) v9).2 0)) 202 ((f_X5_bend ((fun _ => 0, fun _ => (q.2 201)) : Rec) ((fun _ => 0, fun _ => (q.2 202)) : Rec) ((Int32.ofInt 1)) v9).2 0)) := ⟨_, rfl⟩
      have rx : q1.2 102 = (f_X5_bend ((fun _ => 0, fun _ => (q.2 101)) : Rec) ((fun _ => 0, fun _ => (q.2 102)) : Rec) ((Int32.ofInt 0)) v9).2 0 := by rw [hq1, setA_ne (by decide), setA_at]
      have ry : q1.2 202 = (f_X5_bend ((fun _ => 0, fun _ => (q.2 201)) : Rec) ((fun _ => 0, fun _ => (q.2 202)) : Rec) ((Int32.ofInt 1)) v9).2 0 := by rw [hq1, setA_at]
      rw [← hq1] at r0 ⊢
      obtain ⟨e1, e2⟩ := ex_2 q1 s 1 (lr_u r0 hU) r0.2.2.2.2.1 (by rw [rx]; exact nbx) (by rw [ry]; exact nby)
      have e1' : p_X5_explore_c2 q1 s (1 : Int32) := e1
      have ax' : Af (tI (q1.2 102)) (tI ax) := af_c (fun i hi => by rw [rx, ← hx]; exact (ex1 i hi).symm)
      have ay' : Af (tI (q1.2 202)) (bd (tI ay) v9.toInt 0) := af_c (fun i hi => by rw [ry, ← hy]; exact (ey1 i hi).symm)
      have e2' : LR 1 (fun j k => 1 < j ∧ Cp (hS s) (j - 1 - 1) 1 (Ph (hS s) k) (tI ax) (bd (tI ay) v9.toInt 0)) q1 (f_X5_explore_c2 q1 s (1 : Int32)) := by
        refine lr_m (by omega) e2 (fun j k _ => ?_)
        rw [show j - 2 = j - 1 - 1 by omega]
        constructor
        · rintro ⟨z1, z2⟩
          exact ⟨by omega, cp_af (ph_af _ k) _ _ _ _ _ _ ax' ay' z2⟩
        · rintro ⟨z1, z2⟩
          exact ⟨by omega, cp_af (ph_af _ k) _ _ _ _ _ _ (af_s ax') (af_s ay') z2⟩
      have r2 := lr_t r0 e2'
      obtain ⟨q2, hq2⟩ : ∃ z, z = f_X5_explore_c2 q1 s (1 : Int32) := ⟨_, rfl⟩
      rw [← hq2] at r2 ⊢
      have i9 := inc_i (x := v9) (by omega)
      obtain ⟨i1, i2⟩ := ih q2 (v9 + Int32.ofInt 1) (lr_u r2 hU) r2.2.2.2.2.1 (by rw [← hx]; exact (r2.2.2.2.1 1 (by omega)).1) (by rw [← hy]; exact (r2.2.2.2.1 1 (by omega)).2) (by omega) (by omega) (by omega) (by omega)
      have e1 := e1'
      refine ⟨⟨fun z => absurd z l1, fun _ => ⟨fun z => absurd z (by decide), fun _ => ⟨px, fun _ => ⟨py, e1, i1⟩, fun z => absurd rfl z⟩⟩⟩, lr_m (Nat.le_refl _) (lr_t r2 i2) (fun j k _ => ?_)⟩
      rw [i9]
      constructor
      · rintro ((z | ⟨z1, z2⟩) | (⟨z1, l, z2, z3, z4⟩ | z))
        · exact z.elim
        · exact Or.inl ⟨z1, v9.toInt, by omega, by omega, z2⟩
        · exact Or.inl ⟨z1, l, by omega, z3, z4⟩
        · exact Or.inr z
      · rintro (⟨z1, l, z2, z3, z4⟩ | z)
        · by_cases w : l = v9.toInt
          · rw [w] at z4
            exact Or.inl (Or.inr ⟨z1, z4⟩)
          · exact Or.inr (Or.inl ⟨z1, l, by omega, z3, z4⟩)
        · exact Or.inr (Or.inr z)
/-- what is still to be tried at this depth -/
theorem x31 {s : Rec} {ax ay : Nat → Int32} (hbx : Bo ax 16) (hby : Bo ay 16) : ∀ (n a : Nat) (q : Rec), a ≤ 2 → 2 < n + a → QU q (hS s) → QF q → q.2 101 = ax → q.2 201 = ay →
    p_X5_explore_c1_34 n q s (nI a) ∧ LR 1 (fun j k => 1 < j ∧ ((a = 0 ∧ ∃ l, okf (hS s) p6 (tI ax) l ∧ Cp (hS s) (j - 1 - 1) 0 (Ph (hS s) k) (bd (tI ax) l 0) (tI ay)) ∨ (a ≤ 1 ∧ ∃ l, okf (hS s) d6 (tI ay) l ∧ Cp (hS s) (j - 1 - 1) 1 (Ph (hS s) k) (tI ax) (bd (tI ay) l 0)))) q (f_X5_explore_c1_34 n q s (nI a)) := by
  intro n
  induction n with
  | zero => intro a q h1 h2; omega
  | succ n ih =>
    intro a q h1 h2 hU hF hx hy
    subst hx hy
    rw [f_X5_explore_c1_34, p_X5_explore_c1_34]
    by_cases c2 : a = 2
    · have l1 : Int32.ofInt 1 < nI a := by rw [c2]; decide
      rw [if_pos l1]
      refine ⟨⟨fun _ => trivial, fun z => absurd l1 z⟩, lr_m (Nat.le_refl _) (lr_r hF) (fun j k _ => ?_)⟩
      constructor
      · exact False.elim
      · rintro ⟨_, ⟨z, _⟩ | ⟨z, _⟩⟩ <;> omega
    · by_cases c0 : a = 0
      · subst c0
        have l1 : ¬ Int32.ofInt 1 < nI 0 := by decide
        have z0 : nI 0 = 0 := rfl
        rw [if_neg l1, if_pos z0, if_pos z0]
        obtain ⟨b1, b2⟩ := om_b (a := q.2 101) (q.2 2) (Int32.ofInt 0) (B := 16) (by omega) hbx
        obtain ⟨b3, b4⟩ := om_b (a := q.2 101) (q.2 2) (Int32.ofInt 1) (B := 16) (by omega) hbx
        have i9 := inc_i (x := f_X5_outmost (rc (q.2 101)) (rc (q.2 2)) (Int32.ofInt 0)) (by omega)
        have p0 := (om_all (q.2 101) (q.2 2) (Int32.ofInt 0)).1
        have p1 := (om_all (q.2 101) (q.2 2) (Int32.ofInt 1)).1
        have ol := fun l => om_line (a := q.2 101) (b := q.2 2) p6_lt hU.1 l
        obtain ⟨j1, j2⟩ := x110 (s := s) hbx hby (K := f_X5_explore_c1_34 n) (G := p_X5_explore_c1_34 n) (R := fun j k => 1 < j ∧ ((1 = 0 ∧ ∃ l, okf (hS s) p6 (tI (q.2 101)) l ∧ Cp (hS s) (j - 1 - 1) 0 (Ph (hS s) k) (bd (tI (q.2 101)) l 0) (tI (q.2 201))) ∨ (1 ≤ 1 ∧ ∃ l, okf (hS s) d6 (tI (q.2 201)) l ∧ Cp (hS s) (j - 1 - 1) 1 (Ph (hS s) k) (tI (q.2 101)) (bd (tI (q.2 201)) l 0)))) (v8 := f_X5_outmost (rc (q.2 101)) (rc (q.2 2)) (Int32.ofInt 1)) b4 (fun q hU hF hx hy => ih 1 q (by omega) (by omega) hU hF hx hy) 4000000000 q (f_X5_outmost (rc (q.2 101)) (rc (q.2 2)) (Int32.ofInt 0) + Int32.ofInt 1) hU hF rfl rfl (by omega) (by omega) (by omega) (by omega)
        refine ⟨⟨fun z => absurd z l1, fun _ => ⟨fun _ => ⟨fun _ => ⟨p0, p1, j1⟩, fun z => absurd z0 z⟩, fun z => absurd z0 z⟩⟩, lr_m (Nat.le_refl _) j2 (fun j k _ => ?_)⟩
        rw [i9]
        constructor
        · rintro (⟨z1, l, z2, z3, z4⟩ | ⟨z1, ⟨z2, _⟩ | ⟨_, z3⟩⟩)
          · have el := oi (l := l) (by omega) (by omega)
            refine ⟨z1, Or.inl ⟨rfl, l, ?_, z4⟩⟩
            have := (ol (Int32.ofInt l)).mpr ⟨Int32.lt_iff_toInt_lt.mpr (by rw [el]; omega), Int32.le_iff_toInt_le.mpr (by rw [el]; omega)⟩
            rw [el] at this
            exact this
          · omega
          · exact ⟨z1, Or.inr ⟨by omega, z3⟩⟩
        · rintro ⟨z1, ⟨_, l, z2, z3⟩ | ⟨_, z3⟩⟩
          · obtain ⟨w1, w2⟩ := okf_b p6_lt hbx z2
            have el := oi (l := l) (by omega) (by omega)
            have := (ol (Int32.ofInt l)).mp (by rw [el]; exact z2)
            have u1 := Int32.lt_iff_toInt_lt.mp this.1
            have u2 := Int32.le_iff_toInt_le.mp this.2
            rw [el] at u1 u2
            exact Or.inl ⟨z1, l, by omega, by omega, z3⟩
          · exact Or.inr ⟨z1, Or.inr ⟨by omega, z3⟩⟩
      · have e1 : a = 1 := by omega
        subst e1
        have l1 : ¬ Int32.ofInt 1 < nI 1 := by decide
        have z0 : ¬ nI 1 = 0 := by decide
        rw [if_neg l1, if_neg z0, if_neg z0]
        obtain ⟨b1, b2⟩ := om_b (a := q.2 201) (q.2 3) (Int32.ofInt 0) (B := 16) (by omega) hby
        obtain ⟨b3, b4⟩ := om_b (a := q.2 201) (q.2 3) (Int32.ofInt 1) (B := 16) (by omega) hby
        have i9 := inc_i (x := f_X5_outmost (rc (q.2 201)) (rc (q.2 3)) (Int32.ofInt 0)) (by omega)
        have p0 := (om_all (q.2 201) (q.2 3) (Int32.ofInt 0)).1
        have p1 := (om_all (q.2 201) (q.2 3) (Int32.ofInt 1)).1
        have ol := fun l => om_line (a := q.2 201) (b := q.2 3) d6_lt hU.2 l
        obtain ⟨j1, j2⟩ := x111 (s := s) hbx hby (K := f_X5_explore_c1_34 n) (G := p_X5_explore_c1_34 n) (R := fun j k => 1 < j ∧ ((2 = 0 ∧ ∃ l, okf (hS s) p6 (tI (q.2 101)) l ∧ Cp (hS s) (j - 1 - 1) 0 (Ph (hS s) k) (bd (tI (q.2 101)) l 0) (tI (q.2 201))) ∨ (2 ≤ 1 ∧ ∃ l, okf (hS s) d6 (tI (q.2 201)) l ∧ Cp (hS s) (j - 1 - 1) 1 (Ph (hS s) k) (tI (q.2 101)) (bd (tI (q.2 201)) l 0)))) (v8 := f_X5_outmost (rc (q.2 201)) (rc (q.2 3)) (Int32.ofInt 1)) b4 (fun q hU hF hx hy => ih 2 q (by omega) (by omega) hU hF hx hy) 4000000000 q (f_X5_outmost (rc (q.2 201)) (rc (q.2 3)) (Int32.ofInt 0) + Int32.ofInt 1) hU hF rfl rfl (by omega) (by omega) (by omega) (by omega)
        refine ⟨⟨fun z => absurd z l1, fun _ => ⟨fun z => absurd z z0, fun _ => ⟨fun z => absurd z z0, fun _ => ⟨p0, p1, j1⟩⟩⟩⟩, lr_m (Nat.le_refl _) j2 (fun j k _ => ?_)⟩
        rw [i9]
        constructor
        · rintro (⟨z1, l, z2, z3, z4⟩ | ⟨z1, ⟨z2, _⟩ | ⟨z2, _⟩⟩)
          · have el := oi (l := l) (by omega) (by omega)
            refine ⟨z1, Or.inr ⟨by omega, l, ?_, z4⟩⟩
            have := (ol (Int32.ofInt l)).mpr ⟨Int32.lt_iff_toInt_lt.mpr (by rw [el]; omega), Int32.le_iff_toInt_le.mpr (by rw [el]; omega)⟩
            rw [el] at this
            exact this
          · omega
          · omega
        · rintro ⟨z1, ⟨z2, _⟩ | ⟨_, l, z2, z3⟩⟩
          · omega
          · obtain ⟨w1, w2⟩ := okf_b d6_lt hby z2
            have el := oi (l := l) (by omega) (by omega)
            have := (ol (Int32.ofInt l)).mp (by rw [el]; exact z2)
            have u1 := Int32.lt_iff_toInt_lt.mp this.1
            have u2 := Int32.le_iff_toInt_le.mp this.2
            rw [el] at u1 u2
            exact Or.inl ⟨z1, l, by omega, by omega, z3⟩
theorem ex_1 (q s : Rec) (a : Nat) (hU : QU q (hS s)) (hF : QF q) (hbx : Bo (q.2 101) 16) (hby : Bo (q.2 201) 16) (ha : a ≤ 1 := by omega) : p_X5_explore_c1 q s (nI a) ∧ LR 1 (fun j k => 1 ≤ j ∧ Cp (hS s) (j - 1) a (Ph (hS s) k) (tI (q.2 101)) (tI (q.2 201))) q (f_X5_explore_c1 q s (nI a)) := by
  obtain ⟨a1, a2⟩ := posa_1 q s
  have m := lr_min (d := 1) (q := q) (v := Pc (hS s) (tI (q.2 101)) (tI (q.2 201)) 36) (by omega) (pc_le ..) hF
  unfold f_X5_explore_c1 p_X5_explore_c1
  rw [a2]
  obtain ⟨q1, hq1⟩ : ∃ z, z = setA q 4 (upd (q.2 4) 1 (if nI (Pc (hS s) (tI (q.2 101)) (tI (q.2 201)) 36) < q.2 4 1 then nI (Pc (hS s) (tI (q.2 101)) (tI (q.2 201)) 36) else q.2 4 1)) := ⟨_, rfl⟩
  rw [← hq1] at m
  have hq1' : setA q 4 (upd (q.2 4) (Int32.toNatClampNeg (Int32.ofInt 1)) (if nI (Pc (hS s) (tI (q.2 101)) (tI (q.2 201)) 36) < q.2 4 (Int32.toNatClampNeg (Int32.ofInt 1)) then nI (Pc (hS s) (tI (q.2 101)) (tI (q.2 201)) 36) else q.2 4 (Int32.toNatClampNeg (Int32.ofInt 1)))) = q1 := hq1.symm
  rw [hq1']
  obtain ⟨b1, b2⟩ := x31 (s := s) hbx hby 4000000000 a q1 (by omega) (by omega) (lr_u m hU) m.2.2.2.2.1 (m.2.2.2.1 1 (by omega)).1 (m.2.2.2.1 1 (by omega)).2
  refine ⟨⟨a1, b1⟩, lr_m (Nat.le_refl _) (lr_t m b2) (fun j k _ => ?_)⟩
  constructor
  · rintro (⟨z1, z2⟩ | ⟨z1, z2⟩)
    · rw [z1]
      exact ⟨by omega, by rw [Nat.sub_self]; exact z2⟩
    · refine ⟨by omega, ?_⟩
      obtain ⟨f, hf⟩ : ∃ f, j - 1 = f + 1 := ⟨j - 1 - 1, by omega⟩
      rw [hf] at z2 ⊢
      rw [show f + 1 - 1 = f by omega] at z2
      rcases z2 with ⟨z2, z3⟩ | ⟨_, z3⟩
      · exact Or.inl ⟨z2, z3⟩
      · exact Or.inr z3
  · rintro ⟨z1, z2⟩
    by_cases e : j = 1
    · rw [e, Nat.sub_self] at z2
      exact Or.inl ⟨e, z2⟩
    · obtain ⟨f, hf⟩ : ∃ f, j - 1 = f + 1 := ⟨j - 1 - 1, by omega⟩
      refine Or.inr ⟨by omega, ?_⟩
      rw [hf] at z2 ⊢
      rw [show f + 1 - 1 = f by omega]
      rcases z2 with ⟨z2, z3⟩ | z3
      · exact Or.inl ⟨z2, z3⟩
      · exact Or.inr ⟨ha, z3⟩
theorem x100 {s : Rec} {ax ay : Nat → Int32} (hbx : Bo ax 5) (hby : Bo ay 5) {K : Rec → Rec → Int32 → Rec} {G : Rec → Rec → Int32 → Prop} {R : Nat → Nat → Prop} {v8 : Int32} (h8 : v8.toInt ≤ 5) (hk : ∀ q : Rec, QU q (hS s) → QF q → q.2 100 = ax → q.2 200 = ay → G q s (nI 1) ∧ LR 0 R q (K q s (nI 1))) : ∀ (n : Nat) (q : Rec) (v9 : Int32), QU q (hS s) → QF q → q.2 100 = ax → q.2 200 = ay → -5 ≤ v9.toInt → v9.toInt ≤ 5 + 1 → v8.toInt + 1 - v9.toInt < n → 0 < n →
    p_X5_explore_c0_111 G n q s (0 : Int32) v8 v9 ∧ LR 0 (fun j k => Cy (hS s) 0 (tI ax) (tI ay) v9.toInt v8.toInt 0 j k ∨ R j k) q (f_X5_explore_c0_111 K n q s (0 : Int32) v8 v9) := by
  intro n
  induction n with
  | zero => intro q v9 _ _ _ _ _ _ _ h0; omega
  | succ n ih =>
    intro q v9 hU hF hx hy h1 h2 hn _
    rw [f_X5_explore_c0_111, p_X5_explore_c0_111]
    by_cases c1 : v8 < v9
    · rw [if_pos c1]
      obtain ⟨k1, k2⟩ := hk q hU hF hx hy
      refine ⟨⟨fun _ => k1, fun z => absurd c1 z⟩, lr_m (Nat.le_refl _) k2 (fun j k _ => ?_)⟩
      have := Int32.lt_iff_toInt_lt.mp c1
      constructor
      · exact Or.inr
      · rintro (⟨_, l, l1, l2, _⟩ | z)
        · omega
        · exact z
    · have l1 : ¬ v8 < v9 := c1
      have le := Int32.le_iff_toInt_le.mp (Int32.not_lt.mp c1)
      rw [if_neg l1, if_pos (show (0 : Int32) = 0 from rfl), if_neg (show ¬ (0 : Int32) = Int32.ofInt 1 by decide)]
      have px := (be_all (q.2 100) (q.2 101) (Int32.ofInt 1) v9).1
      have py := (be_all (q.2 200) (q.2 201) (Int32.ofInt 0) v9).1
      obtain ⟨ex1, nbx⟩ := be_1 (a := q.2 100) (b := q.2 101) (l := v9) (B := 5) (by omega) (by rw [hx]; exact hbx) (by omega) (by omega)
      obtain ⟨ey1, nby⟩ := be_0 (b := q.2 201) (l := v9) (B := 5) (a := q.2 200) (by omega) (by rw [hy]; exact hby)
      have r0 : LR 0 (fun _ _ => False) q (setA (setA q 101 ((f_X5_bend ((fun _ => 0, fun _ => (q.2 100)) : Rec) ((fun _ => 0, fun _ => (q.2 101)) : Rec) ((Int32.ofInt 1)) v9).2 0)) 201 ((f_X5_bend ((fun _ => 0, fun _ => (q.2 200)) : Rec) ((fun _ => 0, fun _ => (q.2 201)) : Rec) ((Int32.ofInt 0)) v9).2 0)) := lr_row (r := 1) (by omega) (by omega) hF
      obtain ⟨q1, hq1⟩ : ∃ z, z = (setA (setA q 101 ((f_X5_bend ((fun _ => 0, fun _ => (q.2 100)) : Rec) ((fun _ => 0, fun _ => (q.2 101)) : Rec) ((Int32.ofInt 1)) v9).2 0)) 201 ((f_X5_bend ((fun _ => 0, fun _ => (q.2 200)) : Rec) ((fun _ => 0, fun _ => (q.2 201)) : Rec) ((Int32.ofInt 0)) v9).2 0)) := ⟨_, rfl⟩
      have rx : q1.2 101 = (f_X5_bend ((fun _ => 0, fun _ => (q.2 100)) : Rec) ((fun _ => 0, fun _ => (q.2 101)) : Rec) ((Int32.ofInt 1)) v9).2 0 := by rw [hq1, setA_ne (by decide), setA_at]
      have ry : q1.2 201 = (f_X5_bend ((fun _ => 0, fun _ => (q.2 200)) : Rec) ((fun _ => 0, fun _ => (q.2 201)) : Rec) ((Int32.ofInt 0)) v9).2 0 := by rw [hq1, setA_at]
      rw [← hq1] at r0 ⊢
      obtain ⟨e1, e2⟩ := ex_1 q1 s 0 (lr_u r0 hU) r0.2.2.2.2.1 (by rw [rx]; exact nbx) (by rw [ry]; exact nby)
      have e1' : p_X5_explore_c1 q1 s (0 : Int32) := e1
      have ax' : Af (tI (q1.2 101)) (bd (tI ax) v9.toInt 0) := af_c (fun i hi => by rw [rx, ← hx]; exact (ex1 i hi).symm)
      have ay' : Af (tI (q1.2 201)) (tI ay) := af_c (fun i hi => by rw [ry, ← hy]; exact (ey1 i hi).symm)
      have e2' : LR 0 (fun j k => 0 < j ∧ Cp (hS s) (j - 0 - 1) 0 (Ph (hS s) k) (bd (tI ax) v9.toInt 0) (tI ay)) q1 (f_X5_explore_c1 q1 s (0 : Int32)) := by
        refine lr_m (by omega) e2 (fun j k _ => ?_)
        rw [show j - 1 = j - 0 - 1 by omega]
        constructor
        · rintro ⟨z1, z2⟩
          exact ⟨by omega, cp_af (ph_af _ k) _ _ _ _ _ _ ax' ay' z2⟩
        · rintro ⟨z1, z2⟩
          exact ⟨by omega, cp_af (ph_af _ k) _ _ _ _ _ _ (af_s ax') (af_s ay') z2⟩
      have r2 := lr_t r0 e2'
      obtain ⟨q2, hq2⟩ : ∃ z, z = f_X5_explore_c1 q1 s (0 : Int32) := ⟨_, rfl⟩
      rw [← hq2] at r2 ⊢
      have i9 := inc_i (x := v9) (by omega)
      obtain ⟨i1, i2⟩ := ih q2 (v9 + Int32.ofInt 1) (lr_u r2 hU) r2.2.2.2.2.1 (by rw [← hx]; exact (r2.2.2.2.1 0 (by omega)).1) (by rw [← hy]; exact (r2.2.2.2.1 0 (by omega)).2) (by omega) (by omega) (by omega) (by omega)
      have e1 := e1'
      refine ⟨⟨fun z => absurd z l1, fun _ => ⟨fun _ => ⟨px, fun z => absurd z (by decide), fun _ => ⟨py, e1, i1⟩⟩, fun z => absurd rfl z⟩⟩, lr_m (Nat.le_refl _) (lr_t r2 i2) (fun j k _ => ?_)⟩
      rw [i9]
      constructor
      · rintro ((z | ⟨z1, z2⟩) | (⟨z1, l, z2, z3, z4⟩ | z))
        · exact z.elim
        · exact Or.inl ⟨z1, v9.toInt, by omega, by omega, z2⟩
        · exact Or.inl ⟨z1, l, by omega, z3, z4⟩
        · exact Or.inr z
      · rintro (⟨z1, l, z2, z3, z4⟩ | z)
        · by_cases w : l = v9.toInt
          · rw [w] at z4
            exact Or.inl (Or.inr ⟨z1, z4⟩)
          · exact Or.inr (Or.inl ⟨z1, l, by omega, z3, z4⟩)
        · exact Or.inr (Or.inr z)
theorem x101 {s : Rec} {ax ay : Nat → Int32} (hbx : Bo ax 5) (hby : Bo ay 5) {K : Rec → Rec → Int32 → Rec} {G : Rec → Rec → Int32 → Prop} {R : Nat → Nat → Prop} {v8 : Int32} (h8 : v8.toInt ≤ 5) (hk : ∀ q : Rec, QU q (hS s) → QF q → q.2 100 = ax → q.2 200 = ay → G q s (nI 2) ∧ LR 0 R q (K q s (nI 2))) : ∀ (n : Nat) (q : Rec) (v9 : Int32), QU q (hS s) → QF q → q.2 100 = ax → q.2 200 = ay → -5 ≤ v9.toInt → v9.toInt ≤ 5 + 1 → v8.toInt + 1 - v9.toInt < n → 0 < n →
    p_X5_explore_c0_111 G n q s (1 : Int32) v8 v9 ∧ LR 0 (fun j k => Cy (hS s) 0 (tI ax) (tI ay) v9.toInt v8.toInt 1 j k ∨ R j k) q (f_X5_explore_c0_111 K n q s (1 : Int32) v8 v9) := by
  intro n
  induction n with
  | zero => intro q v9 _ _ _ _ _ _ _ h0; omega
  | succ n ih =>
    intro q v9 hU hF hx hy h1 h2 hn _
    rw [f_X5_explore_c0_111, p_X5_explore_c0_111]
    by_cases c1 : v8 < v9
    · rw [if_pos c1]
      obtain ⟨k1, k2⟩ := hk q hU hF hx hy
      refine ⟨⟨fun _ => k1, fun z => absurd c1 z⟩, lr_m (Nat.le_refl _) k2 (fun j k _ => ?_)⟩
      have := Int32.lt_iff_toInt_lt.mp c1
      constructor
      · exact Or.inr
      · rintro (⟨_, l, l1, l2, _⟩ | z)
        · omega
        · exact z
    · have l1 : ¬ v8 < v9 := c1
      have le := Int32.le_iff_toInt_le.mp (Int32.not_lt.mp c1)
      rw [if_neg l1, if_neg (show ¬ (1 : Int32) = 0 by decide), if_pos (show (1 : Int32) = Int32.ofInt 1 from rfl)]
      have px := (be_all (q.2 100) (q.2 101) (Int32.ofInt 0) v9).1
      have py := (be_all (q.2 200) (q.2 201) (Int32.ofInt 1) v9).1
      obtain ⟨ex1, nbx⟩ := be_0 (b := q.2 101) (l := v9) (B := 5) (a := q.2 100) (by omega) (by rw [hx]; exact hbx)
      obtain ⟨ey1, nby⟩ := be_1 (a := q.2 200) (b := q.2 201) (l := v9) (B := 5) (by omega) (by rw [hy]; exact hby) (by omega) (by omega)
      have r0 : LR 0 (fun _ _ => False) q (setA (setA q 101 ((f_X5_bend ((fun _ => 0, fun _ => (q.2 100)) : Rec) ((fun _ => 0, fun _ => (q.2 101)) : Rec) ((Int32.ofInt 0)) v9).2 0)) 201 ((f_X5_bend ((fun _ => 0, fun _ => (q.2 200)) : Rec) ((fun _ => 0, fun _ => (q.2 201)) : Rec) ((Int32.ofInt 1)) v9).2 0)) := lr_row (r := 1) (by omega) (by omega) hF
      obtain ⟨q1, hq1⟩ : ∃ z, z = (setA (setA q 101 ((f_X5_bend ((fun _ => 0, fun _ => (q.2 100)) : Rec) ((fun _ => 0, fun _ => (q.2 101)) : Rec) ((Int32.ofInt 0)) v9).2 0)) 201 ((f_X5_bend ((fun _ => 0, fun _ => (q.2 200)) : Rec) ((fun _ => 0, fun _ => (q.2 201)) : Rec) ((Int32.ofInt 1)) v9).2 0)) := ⟨_, rfl⟩
      have rx : q1.2 101 = (f_X5_bend ((fun _ => 0, fun _ => (q.2 100)) : Rec) ((fun _ => 0, fun _ => (q.2 101)) : Rec) ((Int32.ofInt 0)) v9).2 0 := by rw [hq1, setA_ne (by decide), setA_at]
      have ry : q1.2 201 = (f_X5_bend ((fun _ => 0, fun _ => (q.2 200)) : Rec) ((fun _ => 0, fun _ => (q.2 201)) : Rec) ((Int32.ofInt 1)) v9).2 0 := by rw [hq1, setA_at]
      rw [← hq1] at r0 ⊢
      obtain ⟨e1, e2⟩ := ex_1 q1 s 1 (lr_u r0 hU) r0.2.2.2.2.1 (by rw [rx]; exact nbx) (by rw [ry]; exact nby)
      have e1' : p_X5_explore_c1 q1 s (1 : Int32) := e1
      have ax' : Af (tI (q1.2 101)) (tI ax) := af_c (fun i hi => by rw [rx, ← hx]; exact (ex1 i hi).symm)
      have ay' : Af (tI (q1.2 201)) (bd (tI ay) v9.toInt 0) := af_c (fun i hi => by rw [ry, ← hy]; exact (ey1 i hi).symm)
      have e2' : LR 0 (fun j k => 0 < j ∧ Cp (hS s) (j - 0 - 1) 1 (Ph (hS s) k) (tI ax) (bd (tI ay) v9.toInt 0)) q1 (f_X5_explore_c1 q1 s (1 : Int32)) := by
        refine lr_m (by omega) e2 (fun j k _ => ?_)
        rw [show j - 1 = j - 0 - 1 by omega]
        constructor
        · rintro ⟨z1, z2⟩
          exact ⟨by omega, cp_af (ph_af _ k) _ _ _ _ _ _ ax' ay' z2⟩
        · rintro ⟨z1, z2⟩
          exact ⟨by omega, cp_af (ph_af _ k) _ _ _ _ _ _ (af_s ax') (af_s ay') z2⟩
      have r2 := lr_t r0 e2'
      obtain ⟨q2, hq2⟩ : ∃ z, z = f_X5_explore_c1 q1 s (1 : Int32) := ⟨_, rfl⟩
      rw [← hq2] at r2 ⊢
      have i9 := inc_i (x := v9) (by omega)
      obtain ⟨i1, i2⟩ := ih q2 (v9 + Int32.ofInt 1) (lr_u r2 hU) r2.2.2.2.2.1 (by rw [← hx]; exact (r2.2.2.2.1 0 (by omega)).1) (by rw [← hy]; exact (r2.2.2.2.1 0 (by omega)).2) (by omega) (by omega) (by omega) (by omega)
      have e1 := e1'
      refine ⟨⟨fun z => absurd z l1, fun _ => ⟨fun z => absurd z (by decide), fun _ => ⟨px, fun _ => ⟨py, e1, i1⟩, fun z => absurd rfl z⟩⟩⟩, lr_m (Nat.le_refl _) (lr_t r2 i2) (fun j k _ => ?_)⟩
      rw [i9]
      constructor
      · rintro ((z | ⟨z1, z2⟩) | (⟨z1, l, z2, z3, z4⟩ | z))
        · exact z.elim
        · exact Or.inl ⟨z1, v9.toInt, by omega, by omega, z2⟩
        · exact Or.inl ⟨z1, l, by omega, z3, z4⟩
        · exact Or.inr z
      · rintro (⟨z1, l, z2, z3, z4⟩ | z)
        · by_cases w : l = v9.toInt
          · rw [w] at z4
            exact Or.inl (Or.inr ⟨z1, z4⟩)
          · exact Or.inr (Or.inl ⟨z1, l, by omega, z3, z4⟩)
        · exact Or.inr (Or.inr z)
/-- what is still to be tried at this depth -/
theorem x30 {s : Rec} {ax ay : Nat → Int32} (hbx : Bo ax 5) (hby : Bo ay 5) : ∀ (n a : Nat) (q : Rec), a ≤ 2 → 2 < n + a → QU q (hS s) → QF q → q.2 100 = ax → q.2 200 = ay →
    p_X5_explore_c0_34 n q s (nI a) ∧ LR 0 (fun j k => 0 < j ∧ ((a = 0 ∧ ∃ l, okf (hS s) p6 (tI ax) l ∧ Cp (hS s) (j - 0 - 1) 0 (Ph (hS s) k) (bd (tI ax) l 0) (tI ay)) ∨ (a ≤ 1 ∧ ∃ l, okf (hS s) d6 (tI ay) l ∧ Cp (hS s) (j - 0 - 1) 1 (Ph (hS s) k) (tI ax) (bd (tI ay) l 0)))) q (f_X5_explore_c0_34 n q s (nI a)) := by
  intro n
  induction n with
  | zero => intro a q h1 h2; omega
  | succ n ih =>
    intro a q h1 h2 hU hF hx hy
    subst hx hy
    rw [f_X5_explore_c0_34, p_X5_explore_c0_34]
    by_cases c2 : a = 2
    · have l1 : Int32.ofInt 1 < nI a := by rw [c2]; decide
      rw [if_pos l1]
      refine ⟨⟨fun _ => trivial, fun z => absurd l1 z⟩, lr_m (Nat.le_refl _) (lr_r hF) (fun j k _ => ?_)⟩
      constructor
      · exact False.elim
      · rintro ⟨_, ⟨z, _⟩ | ⟨z, _⟩⟩ <;> omega
    · by_cases c0 : a = 0
      · subst c0
        have l1 : ¬ Int32.ofInt 1 < nI 0 := by decide
        have z0 : nI 0 = 0 := rfl
        rw [if_neg l1, if_pos z0, if_pos z0]
        obtain ⟨b1, b2⟩ := om_b (a := q.2 100) (q.2 2) (Int32.ofInt 0) (B := 5) (by omega) hbx
        obtain ⟨b3, b4⟩ := om_b (a := q.2 100) (q.2 2) (Int32.ofInt 1) (B := 5) (by omega) hbx
        have i9 := inc_i (x := f_X5_outmost (rc (q.2 100)) (rc (q.2 2)) (Int32.ofInt 0)) (by omega)
        have p0 := (om_all (q.2 100) (q.2 2) (Int32.ofInt 0)).1
        have p1 := (om_all (q.2 100) (q.2 2) (Int32.ofInt 1)).1
        have ol := fun l => om_line (a := q.2 100) (b := q.2 2) p6_lt hU.1 l
        obtain ⟨j1, j2⟩ := x100 (s := s) hbx hby (K := f_X5_explore_c0_34 n) (G := p_X5_explore_c0_34 n) (R := fun j k => 0 < j ∧ ((1 = 0 ∧ ∃ l, okf (hS s) p6 (tI (q.2 100)) l ∧ Cp (hS s) (j - 0 - 1) 0 (Ph (hS s) k) (bd (tI (q.2 100)) l 0) (tI (q.2 200))) ∨ (1 ≤ 1 ∧ ∃ l, okf (hS s) d6 (tI (q.2 200)) l ∧ Cp (hS s) (j - 0 - 1) 1 (Ph (hS s) k) (tI (q.2 100)) (bd (tI (q.2 200)) l 0)))) (v8 := f_X5_outmost (rc (q.2 100)) (rc (q.2 2)) (Int32.ofInt 1)) b4 (fun q hU hF hx hy => ih 1 q (by omega) (by omega) hU hF hx hy) 4000000000 q (f_X5_outmost (rc (q.2 100)) (rc (q.2 2)) (Int32.ofInt 0) + Int32.ofInt 1) hU hF rfl rfl (by omega) (by omega) (by omega) (by omega)
        refine ⟨⟨fun z => absurd z l1, fun _ => ⟨fun _ => ⟨fun _ => ⟨p0, p1, j1⟩, fun z => absurd z0 z⟩, fun z => absurd z0 z⟩⟩, lr_m (Nat.le_refl _) j2 (fun j k _ => ?_)⟩
        rw [i9]
        constructor
        · rintro (⟨z1, l, z2, z3, z4⟩ | ⟨z1, ⟨z2, _⟩ | ⟨_, z3⟩⟩)
          · have el := oi (l := l) (by omega) (by omega)
            refine ⟨z1, Or.inl ⟨rfl, l, ?_, z4⟩⟩
            have := (ol (Int32.ofInt l)).mpr ⟨Int32.lt_iff_toInt_lt.mpr (by rw [el]; omega), Int32.le_iff_toInt_le.mpr (by rw [el]; omega)⟩
            rw [el] at this
            exact this
          · omega
          · exact ⟨z1, Or.inr ⟨by omega, z3⟩⟩
        · rintro ⟨z1, ⟨_, l, z2, z3⟩ | ⟨_, z3⟩⟩
          · obtain ⟨w1, w2⟩ := okf_b p6_lt hbx z2
            have el := oi (l := l) (by omega) (by omega)
            have := (ol (Int32.ofInt l)).mp (by rw [el]; exact z2)
            have u1 := Int32.lt_iff_toInt_lt.mp this.1
            have u2 := Int32.le_iff_toInt_le.mp this.2
            rw [el] at u1 u2
            exact Or.inl ⟨z1, l, by omega, by omega, z3⟩
          · exact Or.inr ⟨z1, Or.inr ⟨by omega, z3⟩⟩
      · have e1 : a = 1 := by omega
        subst e1
        have l1 : ¬ Int32.ofInt 1 < nI 1 := by decide
        have z0 : ¬ nI 1 = 0 := by decide
        rw [if_neg l1, if_neg z0, if_neg z0]
        obtain ⟨b1, b2⟩ := om_b (a := q.2 200) (q.2 3) (Int32.ofInt 0) (B := 5) (by omega) hby
        obtain ⟨b3, b4⟩ := om_b (a := q.2 200) (q.2 3) (Int32.ofInt 1) (B := 5) (by omega) hby
        have i9 := inc_i (x := f_X5_outmost (rc (q.2 200)) (rc (q.2 3)) (Int32.ofInt 0)) (by omega)
        have p0 := (om_all (q.2 200) (q.2 3) (Int32.ofInt 0)).1
        have p1 := (om_all (q.2 200) (q.2 3) (Int32.ofInt 1)).1
        have ol := fun l => om_line (a := q.2 200) (b := q.2 3) d6_lt hU.2 l
        obtain ⟨j1, j2⟩ := x101 (s := s) hbx hby (K := f_X5_explore_c0_34 n) (G := p_X5_explore_c0_34 n) (R := fun j k => 0 < j ∧ ((2 = 0 ∧ ∃ l, okf (hS s) p6 (tI (q.2 100)) l ∧ Cp (hS s) (j - 0 - 1) 0 (Ph (hS s) k) (bd (tI (q.2 100)) l 0) (tI (q.2 200))) ∨ (2 ≤ 1 ∧ ∃ l, okf (hS s) d6 (tI (q.2 200)) l ∧ Cp (hS s) (j - 0 - 1) 1 (Ph (hS s) k) (tI (q.2 100)) (bd (tI (q.2 200)) l 0)))) (v8 := f_X5_outmost (rc (q.2 200)) (rc (q.2 3)) (Int32.ofInt 1)) b4 (fun q hU hF hx hy => ih 2 q (by omega) (by omega) hU hF hx hy) 4000000000 q (f_X5_outmost (rc (q.2 200)) (rc (q.2 3)) (Int32.ofInt 0) + Int32.ofInt 1) hU hF rfl rfl (by omega) (by omega) (by omega) (by omega)
        refine ⟨⟨fun z => absurd z l1, fun _ => ⟨fun z => absurd z z0, fun _ => ⟨fun z => absurd z z0, fun _ => ⟨p0, p1, j1⟩⟩⟩⟩, lr_m (Nat.le_refl _) j2 (fun j k _ => ?_)⟩
        rw [i9]
        constructor
        · rintro (⟨z1, l, z2, z3, z4⟩ | ⟨z1, ⟨z2, _⟩ | ⟨z2, _⟩⟩)
          · have el := oi (l := l) (by omega) (by omega)
            refine ⟨z1, Or.inr ⟨by omega, l, ?_, z4⟩⟩
            have := (ol (Int32.ofInt l)).mpr ⟨Int32.lt_iff_toInt_lt.mpr (by rw [el]; omega), Int32.le_iff_toInt_le.mpr (by rw [el]; omega)⟩
            rw [el] at this
            exact this
          · omega
          · omega
        · rintro ⟨z1, ⟨z2, _⟩ | ⟨_, l, z2, z3⟩⟩
          · omega
          · obtain ⟨w1, w2⟩ := okf_b d6_lt hby z2
            have el := oi (l := l) (by omega) (by omega)
            have := (ol (Int32.ofInt l)).mp (by rw [el]; exact z2)
            have u1 := Int32.lt_iff_toInt_lt.mp this.1
            have u2 := Int32.le_iff_toInt_le.mp this.2
            rw [el] at u1 u2
            exact Or.inl ⟨z1, l, by omega, by omega, z3⟩
theorem ex_0 (q s : Rec) (a : Nat) (hU : QU q (hS s)) (hF : QF q) (hbx : Bo (q.2 100) 5) (hby : Bo (q.2 200) 5) (ha : a ≤ 1 := by omega) : p_X5_explore_c0 q s (nI a) ∧ LR 0 (fun j k => 0 ≤ j ∧ Cp (hS s) (j - 0) a (Ph (hS s) k) (tI (q.2 100)) (tI (q.2 200))) q (f_X5_explore_c0 q s (nI a)) := by
  obtain ⟨a1, a2⟩ := posa_0 q s
  have m := lr_min (d := 0) (q := q) (v := Pc (hS s) (tI (q.2 100)) (tI (q.2 200)) 36) (by omega) (pc_le ..) hF
  unfold f_X5_explore_c0 p_X5_explore_c0
  rw [a2]
  obtain ⟨q1, hq1⟩ : ∃ z, z = setA q 4 (upd (q.2 4) 0 (if nI (Pc (hS s) (tI (q.2 100)) (tI (q.2 200)) 36) < q.2 4 0 then nI (Pc (hS s) (tI (q.2 100)) (tI (q.2 200)) 36) else q.2 4 0)) := ⟨_, rfl⟩
  rw [← hq1] at m
  have hq1' : setA q 4 (upd (q.2 4) (Int32.toNatClampNeg (Int32.ofInt 0)) (if nI (Pc (hS s) (tI (q.2 100)) (tI (q.2 200)) 36) < q.2 4 (Int32.toNatClampNeg (Int32.ofInt 0)) then nI (Pc (hS s) (tI (q.2 100)) (tI (q.2 200)) 36) else q.2 4 (Int32.toNatClampNeg (Int32.ofInt 0)))) = q1 := hq1.symm
  rw [hq1']
  obtain ⟨b1, b2⟩ := x30 (s := s) hbx hby 4000000000 a q1 (by omega) (by omega) (lr_u m hU) m.2.2.2.2.1 (m.2.2.2.1 0 (by omega)).1 (m.2.2.2.1 0 (by omega)).2
  refine ⟨⟨a1, b1⟩, lr_m (Nat.le_refl _) (lr_t m b2) (fun j k _ => ?_)⟩
  constructor
  · rintro (⟨z1, z2⟩ | ⟨z1, z2⟩)
    · rw [z1]
      exact ⟨by omega, by rw [Nat.sub_self]; exact z2⟩
    · refine ⟨by omega, ?_⟩
      obtain ⟨f, hf⟩ : ∃ f, j - 0 = f + 1 := ⟨j - 0 - 1, by omega⟩
      rw [hf] at z2 ⊢
      rw [show f + 1 - 1 = f by omega] at z2
      rcases z2 with ⟨z2, z3⟩ | ⟨_, z3⟩
      · exact Or.inl ⟨z2, z3⟩
      · exact Or.inr z3
  · rintro ⟨z1, z2⟩
    by_cases e : j = 0
    · rw [e, Nat.sub_self] at z2
      exact Or.inl ⟨e, z2⟩
    · obtain ⟨f, hf⟩ : ∃ f, j - 0 = f + 1 := ⟨j - 0 - 1, by omega⟩
      refine Or.inr ⟨by omega, ?_⟩
      rw [hf] at z2 ⊢
      rw [show f + 1 - 1 = f by omega]
      rcases z2 with ⟨z2, z3⟩ | z3
      · exact Or.inl ⟨z2, z3⟩
      · exact Or.inr ⟨ha, z3⟩
