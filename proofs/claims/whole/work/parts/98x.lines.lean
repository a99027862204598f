/-! layer 3: folding columns and rows apart -/
def okf (h : Nat → Bool) (g : Nat → Nat) (X : Nat → Int) (l : Int) : Prop := (∃ c, c < 36 ∧ h c = true ∧ X (g c) < l) ∧ ∃ c, c < 36 ∧ h c = true ∧ l ≤ X (g c)
def bd (X : Nat → Int) (l : Int) (w : Nat) (i : Nat) : Int := if (w = 0 ∧ l ≤ X i) ∨ (w ≠ 0 ∧ X i < l) then 2 * l - 1 - X i else X i
def p6 (c : Nat) : Nat := c % 6
def d6 (c : Nat) : Nat := c / 6
def Af (X X' : Nat → Int) : Prop := ∃ C : Int, (∀ i, i < 6 → X' i = X i + C) ∨ (∀ i, i < 6 → X' i = C - X i)
theorem af_r (X : Nat → Int) : Af X X := ⟨0, Or.inl fun i _ => by omega⟩
theorem af_c {X X' : Nat → Int} (h : ∀ i, i < 6 → X' i = X i) : Af X X' := ⟨0, Or.inl fun i hi => by rw [h i hi]; omega⟩
theorem af_s {X X' : Nat → Int} (h : Af X X') : Af X' X := by
  obtain ⟨C, h | h⟩ := h
  · exact ⟨-C, Or.inl fun i hi => by have := h i hi; omega⟩
  · exact ⟨C, Or.inr fun i hi => by have := h i hi; omega⟩
theorem af_t {X Y Z : Nat → Int} (h1 : Af X Y) (h2 : Af Y Z) : Af X Z := by
  obtain ⟨C, h1 | h1⟩ := h1
  · obtain ⟨D, h2 | h2⟩ := h2
    · exact ⟨C + D, Or.inl fun i hi => by have := h1 i hi; have := h2 i hi; omega⟩
    · exact ⟨D - C, Or.inr fun i hi => by have := h1 i hi; have := h2 i hi; omega⟩
  · obtain ⟨D, h2 | h2⟩ := h2
    · exact ⟨C + D, Or.inr fun i hi => by have := h1 i hi; have := h2 i hi; omega⟩
    · exact ⟨D - C, Or.inl fun i hi => by have := h1 i hi; have := h2 i hi; omega⟩
theorem bd_0 (X : Nat → Int) (l : Int) (i : Nat) : bd X l 0 i = if l ≤ X i then 2 * l - 1 - X i else X i := by
  unfold bd
  by_cases z : l ≤ X i
  · rw [if_pos (Or.inl ⟨rfl, z⟩), if_pos z]
  · rw [if_neg (by omega), if_neg z]
theorem bd_1 (X : Nat → Int) (l : Int) {w : Nat} (hw : w ≠ 0) (i : Nat) : bd X l w i = if X i < l then 2 * l - 1 - X i else X i := by
  unfold bd
  by_cases z : X i < l
  · rw [if_pos (Or.inr ⟨hw, z⟩), if_pos z]
  · rw [if_neg (by omega), if_neg z]
theorem af_w (X : Nat → Int) (l : Int) (w : Nat) : Af (bd X l 0) (bd X l w) := by
  by_cases hw : w = 0
  · rw [hw]; exact af_r _
  · refine ⟨2 * l - 1, Or.inr fun i _ => ?_⟩
    rw [bd_0, bd_1 X l hw]
    by_cases z : l ≤ X i
    · rw [if_neg (by omega), if_pos z]; omega
    · rw [if_pos (by omega), if_neg z]
theorem af_ok {h : Nat → Bool} {g : Nat → Nat} (hg : ∀ c, c < 36 → g c < 6) {X X' : Nat → Int} {m : Int} (ha : Af X X') (hl : okf h g X' m) : ∃ l, okf h g X l ∧ Af (bd X l 0) (bd X' m 0) := by
  obtain ⟨⟨c1, a1, a2, a3⟩, c2, b1, b2, b3⟩ := hl
  obtain ⟨C, ha | ha⟩ := ha
  · refine ⟨m - C, ⟨⟨c1, a1, a2, ?_⟩, c2, b1, b2, ?_⟩, C, Or.inl fun i hi => ?_⟩
    · have := ha _ (hg c1 a1); omega
    · have := ha _ (hg c2 b1); omega
    · have := ha i hi
      rw [bd_0, bd_0]
      by_cases z : m ≤ X' i
      · rw [if_pos z, if_pos (by omega)]; omega
      · rw [if_neg z, if_neg (by omega)]; omega
  · refine ⟨C + 1 - m, ⟨⟨c2, b1, b2, ?_⟩, c1, a1, a2, ?_⟩, 2 * m - C - 1, Or.inl fun i hi => ?_⟩
    · have := ha _ (hg c2 b1); omega
    · have := ha _ (hg c1 a1); omega
    · have := ha i hi
      rw [bd_0, bd_0]
      by_cases z : m ≤ X' i
      · rw [if_pos z, if_neg (by omega)]; omega
      · rw [if_neg z, if_pos (by omega)]; omega
theorem p6_lt (c : Nat) (_ : c < 36) : p6 c < 6 := by unfold p6; omega
theorem d6_lt (c : Nat) (h : c < 36) : d6 c < 6 := by unfold d6; omega
def Rp (h : Nat → Bool) : Nat → ((Nat → Int) → (Nat → Int) → Prop) → (Nat → Int) → (Nat → Int) → Prop
  | 0, P, X, Y => P X Y
  | f + 1, P, X, Y => (∃ l w, w < 2 ∧ okf h p6 X l ∧ Rp h f P (bd X l w) Y) ∨ (∃ l w, w < 2 ∧ okf h d6 Y l ∧ Rp h f P X (bd Y l w))
def Cp (h : Nat → Bool) : Nat → Nat → ((Nat → Int) → (Nat → Int) → Prop) → (Nat → Int) → (Nat → Int) → Prop
  | 0, _, P, X, Y => P X Y
  | f + 1, a, P, X, Y => (a = 0 ∧ ∃ l, okf h p6 X l ∧ Cp h f 0 P (bd X l 0) Y) ∨ ∃ l, okf h d6 Y l ∧ Cp h f 1 P X (bd Y l 0)
section
variable {h : Nat → Bool} {P : (Nat → Int) → (Nat → Int) → Prop}
theorem cp_af (hP : ∀ X X' Y Y', Af X X' → Af Y Y' → P X Y → P X' Y') : ∀ (f a : Nat) (X X' Y Y' : Nat → Int), Af X X' → Af Y Y' → Cp h f a P X Y → Cp h f a P X' Y' := by
  intro f
  induction f with
  | zero => intro a X X' Y Y' h1 h2 h3; exact hP X X' Y Y' h1 h2 h3
  | succ f ih =>
    intro a X X' Y Y' h1 h2 h3
    rcases h3 with ⟨h3, l, h4, h5⟩ | ⟨l, h4, h5⟩
    · obtain ⟨l', k1, k2⟩ := af_ok p6_lt (af_s h1) h4
      exact Or.inl ⟨h3, l', k1, ih 0 _ _ _ _ (af_s k2) h2 h5⟩
    · obtain ⟨l', k1, k2⟩ := af_ok d6_lt (af_s h2) h4
      exact Or.inr ⟨l', k1, ih 1 _ _ _ _ h1 (af_s k2) h5⟩
theorem cp_y : ∀ (f : Nat) (X Y : Nat → Int) (l : Int), okf h d6 Y l → Cp h f 0 P X (bd Y l 0) → Cp h (f + 1) 0 P X Y := by
  intro f
  induction f with
  | zero => intro X Y l h1 h2; exact Or.inr ⟨l, h1, h2⟩
  | succ f ih =>
    intro X Y l h1 h2
    rcases h2 with ⟨_, l2, h4, h5⟩ | ⟨l2, h4, h5⟩
    · exact Or.inl ⟨rfl, l2, h4, ih _ _ l h1 h5⟩
    · exact Or.inr ⟨l, h1, Or.inr ⟨l2, h4, h5⟩⟩
theorem rp_cp (hP : ∀ X X' Y Y', Af X X' → Af Y Y' → P X Y → P X' Y') : ∀ (f : Nat) (X X' Y Y' : Nat → Int), Af X X' → Af Y Y' → Rp h f P X' Y' → Cp h f 0 P X Y := by
  intro f
  induction f with
  | zero => intro X X' Y Y' h1 h2 h3; exact hP X' X Y' Y (af_s h1) (af_s h2) h3
  | succ f ih =>
    intro X X' Y Y' h1 h2 h3
    rcases h3 with ⟨l, w, _, h4, h5⟩ | ⟨l, w, _, h4, h5⟩
    · obtain ⟨l', k1, k2⟩ := af_ok p6_lt h1 h4
      exact Or.inl ⟨rfl, l', k1, ih _ _ _ _ (af_t k2 (af_w X' l w)) h2 h5⟩
    · obtain ⟨l', k1, k2⟩ := af_ok d6_lt h2 h4
      exact cp_y f X Y l' k1 (ih _ _ _ _ h1 (af_t k2 (af_w Y' l w)) h5)
theorem cp_rp : ∀ (f a : Nat) (X Y : Nat → Int), Cp h f a P X Y → Rp h f P X Y := by
  intro f
  induction f with
  | zero => intro a X Y h1; exact h1
  | succ f ih =>
    intro a X Y h1
    rcases h1 with ⟨_, l, h4, h5⟩ | ⟨l, h4, h5⟩
    · exact Or.inl ⟨l, 0, by omega, h4, ih 0 _ _ h5⟩
    · exact Or.inr ⟨l, 0, by omega, h4, ih 1 _ _ h5⟩
end
/-- squares that lie where no earlier one lies -/
def nfs (h : Nat → Bool) (X Y : Nat → Int) (c : Nat) : Nat → Bool
  | 0 => true
  | o + 1 => nfs h X Y c o && !(h o && decide (X (p6 o) = X (p6 c)) && decide (Y (d6 o) = Y (d6 c)))
def Pc (h : Nat → Bool) (X Y : Nat → Int) (n : Nat) : Nat := fb_ct (fun c => h c && nfs h X Y c c) n
theorem nfs_iff {h : Nat → Bool} {X Y : Nat → Int} {c : Nat} : ∀ n, nfs h X Y c n = true ↔ ∀ o, o < n → h o = true → ¬ (X (p6 o) = X (p6 c) ∧ Y (d6 o) = Y (d6 c)) := by
  intro n
  induction n with
  | zero => exact ⟨fun _ o ho => by omega, fun _ => rfl⟩
  | succ n ih =>
    rw [nfs, Bool.and_eq_true, ih]
    constructor
    · intro ⟨h1, h2⟩ o ho h3 h4
      by_cases z : o = n
      · rw [z] at h3 h4
        rw [h3, decide_eq_true h4.1, decide_eq_true h4.2] at h2
        exact absurd h2 (by decide)
      · exact h1 o (by omega) h3 h4
    · intro h1
      refine ⟨fun o ho => h1 o (by omega), ?_⟩
      cases hn : h n with
      | false => rfl
      | true =>
        have := h1 n (by omega) hn
        by_cases z1 : X (p6 n) = X (p6 c)
        · by_cases z2 : Y (d6 n) = Y (d6 c)
          · exact absurd ⟨z1, z2⟩ this
          · rw [decide_eq_true z1, decide_eq_false z2]; rfl
        · rw [decide_eq_false z1]; rfl
theorem af_e {X X' : Nat → Int} (ha : Af X X') {i j : Nat} (hi : i < 6) (hj : j < 6) : X' i = X' j ↔ X i = X j := by
  obtain ⟨C, ha | ha⟩ := ha
  · have := ha i hi; have := ha j hj; omega
  · have := ha i hi; have := ha j hj; omega
theorem pc_af {h : Nat → Bool} {X X' Y Y' : Nat → Int} (h1 : Af X X') (h2 : Af Y Y') : Pc h X' Y' 36 = Pc h X Y 36 := by
  unfold Pc
  refine fb_ct_cong fun c hc => ?_
  have e : nfs h X' Y' c c = nfs h X Y c c := by
    rw [Bool.eq_iff_iff, nfs_iff, nfs_iff]
    constructor
    · intro k o ho a b
      exact k o ho a ⟨(af_e h1 (p6_lt o (by omega)) (p6_lt c hc)).mpr b.1, (af_e h2 (d6_lt o (by omega)) (d6_lt c hc)).mpr b.2⟩
    · intro k o ho a b
      exact k o ho a ⟨(af_e h1 (p6_lt o (by omega)) (p6_lt c hc)).mp b.1, (af_e h2 (d6_lt o (by omega)) (d6_lt c hc)).mp b.2⟩
  rw [e]
def Ph (h : Nat → Bool) (k : Nat) (X Y : Nat → Int) : Prop := Pc h X Y 36 ≤ k
theorem ph_af (h : Nat → Bool) (k : Nat) : ∀ X X' Y Y', Af X X' → Af Y Y' → Ph h k X Y → Ph h k X' Y' := by
  intro X X' Y Y' h1 h2 h3
  unfold Ph
  rw [pc_af h1 h2]
  exact h3
theorem rp_iff (h : Nat → Bool) (k f : Nat) (X Y : Nat → Int) : Rp h f (Ph h k) X Y ↔ Cp h f 0 (Ph h k) X Y := ⟨rp_cp (ph_af h k) f X X Y Y (af_r X) (af_r Y), cp_rp f 0 X Y⟩
