/-! the first state -/
def m0R : Rec := (fun _ => 0, fun k => match k with | 0 => upd (upd (upd (upd (fun _ => 0) 0 6) 1 6) 4 7) 5 1 | _ => fun _ => 0)
def p0R : Rec := (fun k => match k with | 8 => 7 | 9 => 1 | _ => 0, fun _ _ => 0)
def s0R : Rec := f_X4_begin zr 6 6
theorem m0_v (i : Nat) : m0R.2 0 i = if i = 5 then 1 else if i = 4 then 7 else if i = 1 then 6 else if i = 0 then 6 else 0 := by
  show upd (upd (upd (upd (fun _ => 0) 0 6) 1 6) 4 7) 5 1 i = _
  rw [upd_at, upd_at, upd_at, upd_at]
theorem now0 : Now 0 s0R p0R m0R := by
  obtain ⟨s', b0, b1, b2⟩ := bg_loop 40 (setG (setG zr 0 6) 1 6) 0 (Fu.o (by decide))
  have b0' : s0R = f_X4_flatten s' := b0
  have s0 : s'.1 0 = 6 := by rw [b1]; rfl
  have s1' : s'.1 1 = 6 := by rw [b1]; rfl
  have v0 : m0R.2 0 0 = 6 := by rw [m0_v]; rfl
  have v1 : m0R.2 0 1 = 6 := by rw [m0_v]; rfl
  have v2 : m0R.2 0 2 = 0 := by rw [m0_v]; rfl
  have v16 : m0R.2 0 16 = 0 := by rw [m0_v]; rfl
  have v26 : m0R.2 0 26 = 0 := by rw [m0_v]; rfl
  have v27 : m0R.2 0 27 = 0 := by rw [m0_v]; rfl
  have v4 : m0R.2 0 4 = 7 := by rw [m0_v]; rfl
  have v5 : m0R.2 0 5 = 1 := by rw [m0_v]; rfl
  have vh : ∀ i, i < 36 → m0R.2 0 (52 + i) = 0 := fun i hi => by rw [m0_v, if_neg (by omega), if_neg (by omega), if_neg (by omega), if_neg (by omega)]
  have ob : ∀ d : Int32, 0 ≤ d → d < 36 → s'.2 8 d.toNatClampNeg = f_X9_isCell m0R d := by
    intro d d0 d1
    rw [b2 d d0 d1, if_neg (by grind)]
    unfold f_X4_onBoard f_X9_isCell
    have q0 : m0R.2 0 (Int32.toNatClampNeg (Int32.ofInt 0)) = 6 := v0
    have q1 : m0R.2 0 (Int32.toNatClampNeg (Int32.ofInt 1)) = 6 := v1
    have dk := cl_c36 d0 d1
    rw [in_0, in_35, in_w, q0, q1, ix52 d0 (by grind), vh _ dk]
    rfl
  obtain ⟨t1', t2', t3', t4', t5', t6', t7'⟩ := fn_all ob
  have n0 : ∀ i : Nat, i < 8 → ¬ Int32.ofNat i < m0R.2 0 2 := by
    intro i hi z
    rw [v2] at z
    have : 0 ≤ Int32.ofNat i := by rw [n32_0, Int32.toInt_ofNat_of_lt (by omega)]; omega
    grind
  rw [b0']
  refine now_flat v16 v27 t1' t2' ⟨(show (0 : Int32) ≤ 0 by decide), (show (0 : Int32) ≤ 8 by decide), v2, fun v z0 z1 => ?_⟩ ⟨by rw [t3', s0, v0], by rw [t4', s1', v1], t5'⟩ ⟨v26.symm, rfl, v4.symm, v5.symm⟩ (by rw [v26]; decide) (by rw [v4]; decide) (by rw [v5]; decide) (by rw [v0, v1]; decide) (fun i i1 i2 => absurd i1 (n0 i i2)) (fun i j i1 i2 => absurd i1 (n0 i i2))
  exfalso
  have z1' : v < 0 := z1
  grind
theorem inv0 : Inv 0 zr s0R p0R zr zr zr s0R p0R s0R p0R zr zr m0R := by
  refine ⟨⟨now0, ⟨0, 0, by omega, by omega, rfl, rfl, (by rw [m0_v]; rfl), fun j hj => absurd hj (Nat.not_lt_zero _)⟩, fun i hi => Or.inl ?_⟩, Or.inl ⟨rfl, rfl⟩, Or.inl ⟨rfl, rfl⟩, ⟨rfl, (show (0 : Int32) ≤ 0 by decide), (show (0 : Int32) ≤ 200 by decide), fun i h1 h2 => ?_⟩, ⟨rfl, rfl, rfl⟩, Or.inl rfl⟩
  · rw [m0_v, if_neg (by omega), if_neg (by omega), if_neg (by omega), if_neg (by omega)]
  · exfalso
    have h1' : Int32.ofNat i < 0 := h1
    have : 0 ≤ Int32.ofNat i := by rw [n32_0, Int32.toInt_ofNat_of_lt (by omega)]; omega
    grind
