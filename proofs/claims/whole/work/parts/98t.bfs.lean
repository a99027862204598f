/-! layer 3: how far one gets, by levels or by a queue: one and the same distances -/
def Bf (nb : Nat → Nat → Prop) (st N : Nat) (D : Nat → Nat) : Prop := (∀ a, a < 36 → D a ≤ N + 1) ∧ (∀ a, a < 36 → (D a = 1 ↔ a = st)) ∧ (∀ a q, a < 36 → 1 ≤ q → D a = q + 1 → ∃ b, b < 36 ∧ D b = q ∧ nb b a)
def Cl (nb : Nat → Nat → Prop) (D : Nat → Nat) (a : Nat) : Prop := ∀ b, b < 36 → nb a b → D b ≠ 0 ∧ D b ≤ D a + 1
theorem bf_one {nb : Nat → Nat → Prop} {st N : Nat} {D E : Nat → Nat} (h1 : Bf nb st N D) (h2 : Bf nb st N E) (c1 : ∀ a, a < 36 → D a ≠ 0 → D a ≤ N → Cl nb D a) (c2 : ∀ a, a < 36 → E a ≠ 0 → E a ≤ N → Cl nb E a) : ∀ q, 1 ≤ q → q ≤ N + 1 → ∀ a, a < 36 → (D a = q ↔ E a = q) := by
  intro q
  induction q using Nat.strongRecOn with
  | ind q ih =>
    intro q1 qN a ha
    by_cases e : q = 1
    · rw [e, h1.2.1 a ha, h2.2.1 a ha]
    · obtain ⟨r, rfl⟩ : ∃ r, q = r + 1 := ⟨q - 1, by omega⟩
      constructor
      · intro h
        obtain ⟨b, b1, b2, b3⟩ := h1.2.2 a r ha (by omega) h
        have g := (ih r (by omega) (by omega) (by omega) b b1).mp b2
        obtain ⟨u1, u2⟩ := c2 b b1 (by omega) (by omega) a ha b3
        by_cases z : E a = r + 1
        · exact z
        · have := (ih (E a) (by omega) (by omega) (by omega) a ha).mpr rfl
          omega
      · intro h
        obtain ⟨b, b1, b2, b3⟩ := h2.2.2 a r ha (by omega) h
        have g := (ih r (by omega) (by omega) (by omega) b b1).mpr b2
        obtain ⟨u1, u2⟩ := c1 b b1 (by omega) (by omega) a ha b3
        by_cases z : D a = r + 1
        · exact z
        · have := (ih (D a) (by omega) (by omega) (by omega) a ha).mp rfl
          omega
def cnt (D : Nat → Nat) : Nat → Nat
  | 0 => 0
  | i + 1 => cnt D i + (if D i = 0 then 0 else 1)
def un (D : Nat → Nat) (b v a : Nat) : Nat := if a = b then v else D a
theorem un_at (D : Nat → Nat) (b v : Nat) : un D b v b = v := by unfold un; rw [if_pos rfl]
theorem un_ne (D : Nat → Nat) {b a : Nat} (v : Nat) (h : a ≠ b) : un D b v a = D a := by unfold un; rw [if_neg h]
theorem cnt_le (D : Nat → Nat) : ∀ n, cnt D n ≤ n := by
  intro n
  induction n with
  | zero => exact Nat.le_refl _
  | succ n ih =>
    rw [cnt]
    by_cases z : D n = 0
    · rw [if_pos z]; omega
    · rw [if_neg z]; omega
theorem cnt_lt {D : Nat → Nat} {b : Nat} (h : D b = 0) : ∀ n, b < n → cnt D n < n := by
  intro n
  induction n with
  | zero => intro hb; omega
  | succ n ih =>
    intro hb
    rw [cnt]
    have := cnt_le D n
    by_cases z : D n = 0
    · rw [if_pos z]; omega
    · rw [if_neg z]
      have : b ≠ n := fun e => z (by rw [← e]; exact h)
      have := ih (by omega)
      omega
theorem cnt_cg {D E : Nat → Nat} : ∀ n, (∀ a, a < n → (D a = 0 ↔ E a = 0)) → cnt D n = cnt E n := by
  intro n
  induction n with
  | zero => intro _; rfl
  | succ n ih =>
    intro h
    rw [cnt, cnt, ih (fun a ha => h a (by omega))]
    by_cases z : D n = 0
    · rw [if_pos z, if_pos ((h n (by omega)).mp z)]
    · rw [if_neg z, if_neg (fun y => z ((h n (by omega)).mpr y))]
theorem cnt_un {D : Nat → Nat} {b v : Nat} (h : D b = 0) (hv : v ≠ 0) : ∀ n, b < n → cnt (un D b v) n = cnt D n + 1 := by
  intro n
  induction n with
  | zero => intro hb; omega
  | succ n ih =>
    intro hb
    rw [cnt, cnt]
    by_cases e : b = n
    · subst e
      rw [un_at, if_neg hv, if_pos h, cnt_cg (D := un D b v) (E := D) b (fun a ha => by rw [un_ne D v (by omega)])]
    · rw [un_ne D v (fun z => e z.symm), ih (by omega)]
      omega
theorem bf_up {nb : Nat → Nat → Prop} {st N M : Nat} {D : Nat → Nat} (hN : N ≤ M) (h : Bf nb st N D) : Bf nb st M D := ⟨fun a ha => by have := h.1 a ha; omega, h.2⟩
theorem bf_add {nb : Nat → Nat → Prop} {st N c b : Nat} {D : Nat → Nat} (h : Bf nb st N D) (hc : c < 36) (hb : b < 36) (hD : D b = 0) (hDc : D c ≠ 0) (hN : D c ≤ N) (hn : nb c b) : Bf nb st N (un D b (D c + 1)) := by
  obtain ⟨h1, h2, h3⟩ := h
  have cb : c ≠ b := fun e => hDc (by rw [e]; exact hD)
  refine ⟨fun a ha => ?_, fun a ha => ?_, fun a q ha hq hd => ?_⟩
  · by_cases z : a = b
    · rw [z, un_at]; omega
    · rw [un_ne D _ z]; exact h1 a ha
  · by_cases z : a = b
    · rw [z, un_at]
      constructor
      · intro y; omega
      · intro y
        have := (h2 b hb).mpr y
        omega
    · rw [un_ne D _ z]; exact h2 a ha
  · by_cases z : a = b
    · rw [z, un_at] at hd
      refine ⟨c, hc, ?_, by rw [z]; exact hn⟩
      rw [un_ne D _ cb]; omega
    · rw [un_ne D _ z] at hd
      obtain ⟨d, d1, d2, d3⟩ := h3 a q ha hq hd
      exact ⟨d, d1, by rw [un_ne D _ (fun e => by rw [e] at d2; omega)]; exact d2, d3⟩
theorem cl_add {nb : Nat → Nat → Prop} {D : Nat → Nat} {a b v : Nat} (h : Cl nb D a) (ha : D a ≠ 0) (hb : D b = 0) : Cl nb (un D b v) a := by
  intro d d1 d2
  obtain ⟨h1, h2⟩ := h d d1 d2
  rw [un_ne D v (fun e => h1 (by rw [e]; exact hb)), un_ne D v (fun e => ha (by rw [e]; exact hb))]
  exact ⟨h1, h2⟩
/-- a queue -/
def QI (nb : Nat → Nat → Prop) (N : Nat) (D Q : Nat → Nat) (sz i : Nat) : Prop := 1 ≤ sz ∧ sz = cnt D 36 ∧ (∀ j, j < sz → Q j < 36 ∧ D (Q j) ≠ 0) ∧ (∀ a, a < 36 → D a ≠ 0 → ∃ j, j < sz ∧ Q j = a) ∧ (∀ j j', j ≤ j' → j' < sz → D (Q j) ≤ D (Q j')) ∧ (i < sz → ∀ j, j < sz → D (Q j) ≤ D (Q i) + 1) ∧ (∀ j, j < i → j < sz → D (Q j) ≤ N → Cl nb D (Q j))
theorem qi_next {nb : Nat → Nat → Prop} {N : Nat} {D Q : Nat → Nat} {sz i : Nat} (h : QI nb N D Q sz i) (hi : i < sz) (hc : D (Q i) ≤ N → Cl nb D (Q i)) : QI nb N D Q sz (i + 1) := by
  obtain ⟨h1, h2, h3, h4, h5, h6, h7⟩ := h
  refine ⟨h1, h2, h3, h4, h5, fun h8 j hj => ?_, fun j j1 j2 j3 => ?_⟩
  · have a := h6 hi j hj
    have b := h5 i (i + 1) (by omega) h8
    omega
  · by_cases z : j = i
    · rw [z] at j3 ⊢; exact hc j3
    · exact h7 j (by omega) j2 j3
theorem qi_add {nb : Nat → Nat → Prop} {N : Nat} {D Q : Nat → Nat} {sz i b : Nat} (h : QI nb N D Q sz i) (hi : i < sz) (hb : b < 36) (hD : D b = 0) : QI nb N (un D b (D (Q i) + 1)) (un Q sz b) (sz + 1) i := by
  obtain ⟨h1, h2, h3, h4, h5, h6, h7⟩ := h
  have nb' : ∀ j, j < sz → Q j ≠ b := fun j hj e => (h3 j hj).2 (by rw [e]; exact hD)
  have q1 : ∀ j, j < sz → un Q sz b j = Q j := fun j hj => un_ne Q b (by omega)
  have d1 : ∀ j, j < sz → un D b (D (Q i) + 1) (Q j) = D (Q j) := fun j hj => un_ne D _ (nb' j hj)
  refine ⟨by omega, ?_, fun j hj => ?_, fun a ha hn => ?_, fun j j' hj hj' => ?_, fun _ j hj => ?_, fun j j1 j2 j3 => ?_⟩
  · rw [cnt_un hD (by omega) 36 hb]; omega
  · by_cases z : j = sz
    · rw [z, un_at, un_at]; exact ⟨hb, by omega⟩
    · rw [q1 j (by omega), d1 j (by omega)]; exact h3 j (by omega)
  · by_cases z : a = b
    · exact ⟨sz, by omega, by rw [un_at]; exact z.symm⟩
    · rw [un_ne D _ z] at hn
      obtain ⟨j, j1, j2⟩ := h4 a ha hn
      exact ⟨j, by omega, by rw [q1 j j1]; exact j2⟩
  · by_cases z : j' = sz
    · rw [z, un_at, un_at]
      by_cases y : j = sz
      · rw [y, un_at, un_at]; exact Nat.le_refl _
      · rw [q1 j (by omega), d1 j (by omega)]
        exact h6 hi j (by omega)
    · rw [q1 j (by omega), d1 j (by omega), q1 j' (by omega), d1 j' (by omega)]
      exact h5 j j' hj (by omega)
  · rw [q1 i hi, d1 i hi]
    by_cases y : j = sz
    · rw [y, un_at, un_at]; exact Nat.le_refl _
    · rw [q1 j (by omega), d1 j (by omega)]
      exact h6 hi j (by omega)
  · rw [q1 j (by omega)] at j3 ⊢
    rw [d1 j (by omega)] at j3
    exact cl_add (h7 j j1 (by omega) j3) (h3 j (by omega)).2 hD
def dv (x : Nat) : Int32 := nI x - 1
theorem dv_s (x : Nat) : dv (x + 1) = nI x := nI_pred x
theorem dv_0 : dv 0 = -1 := by decide
theorem dv_n {x : Nat} (h : x ≠ 0) (hx : x < 1000) : ¬ dv x = -1 := by
  obtain ⟨k, rfl⟩ : ∃ k, x = k + 1 := ⟨x - 1, by omega⟩
  rw [dv_s]
  have := nI_pos' (n := k) (by omega)
  intro z
  rw [z] at this
  exact absurd this (by decide)
theorem dv_p (x : Nat) : dv x + 1 = dv (x + 1) := by
  rw [dv_s]
  unfold dv
  grind
theorem dv_e {x y : Nat} (hx : x < 1000) (hy : y < 1000) : dv x = dv y ↔ x = y := by
  constructor
  · intro h
    have : nI x = nI y := by unfold dv at h; grind
    exact (nI_eq (by omega) (by omega)).mp this
  · intro h; rw [h]
