/-! layer 3: how many bits a long has (rows of laws/BITS and laws/COUNTS, pasted, stand first) -/
theorem wb_tb (n : Nat) : (lN n).toBitVec = BitVec.ofNat 64 n := rfl
theorem wb_inj {a b : Int64} (h : a.toBitVec = b.toBitVec) : a = b := Int64.toBitVec_inj.mp h
theorem wb_tn {n : Nat} (h : n < 2 ^ 64) : (lN n).toBitVec.toNat = n := by rw [wb_tb, BitVec.toNat_ofNat, Nat.mod_eq_of_lt h]
theorem wb_c : ∀ k, k < 64 → ((nI k).toInt64 &&& 63) = lN k := by decide +kernel
theorem wb_cu : ∀ k, k < 64 → ((nI k).toInt64.toUInt64 &&& Int64.toUInt64 63) = UInt64.ofNat k := by decide +kernel
theorem wb_sm : ∀ k, k < 64 → (BitVec.ofNat 64 k).smod 64 = BitVec.ofNat 64 k := by decide +kernel
theorem wb_shr {n k : Nat} (hn : n < 2 ^ 64) (hk : k < 64) : ((lN n).toUInt64 >>> ((nI k).toInt64.toUInt64 &&& Int64.toUInt64 63)).toInt64 = lN (n / 2 ^ k) := by
  rw [wb_cu k hk]
  apply wb_inj
  apply BitVec.eq_of_toNat_eq
  show ((lN n).toUInt64 >>> UInt64.ofNat k).toNat = (BitVec.ofNat 64 _).toNat
  have h1 : (UInt64.ofNat k).toNat = k := by
    show (BitVec.ofNat 64 k).toNat = k
    rw [BitVec.toNat_ofNat, Nat.mod_eq_of_lt (by omega)]
  have h2 : (lN n).toUInt64.toNat = n := wb_tn hn
  rw [UInt64.toNat_shiftRight, h1, h2, Nat.mod_eq_of_lt hk, Nat.shiftRight_eq_div_pow, BitVec.toNat_ofNat, Nat.mod_eq_of_lt (Nat.lt_of_le_of_lt (Nat.div_le_self _ _) hn)]
theorem wb_shl (n : Nat) {k : Nat} (hk : k < 64) : lN n <<< ((nI k).toInt64 &&& 63) = lN (n * 2 ^ k) := by
  rw [wb_c k hk]
  apply wb_inj
  rw [Int64.toBitVec_shiftLeft, wb_tb, wb_tb, wb_tb, wb_sm k hk]
  apply BitVec.eq_of_toNat_eq
  rw [BitVec.shiftLeft_eq', BitVec.toNat_shiftLeft, BitVec.toNat_ofNat, BitVec.toNat_ofNat, BitVec.toNat_ofNat, Nat.mod_eq_of_lt (show k < 2 ^ 64 by omega), Nat.shiftLeft_eq, Nat.mul_mod, Nat.mod_mod, ← Nat.mul_mod]
def fb_ct (p : Nat → Bool) : Nat → Nat
  | 0 => 0
  | n + 1 => fb_ct p n + (if p n then 1 else 0)
theorem fb_ct_succ (p : Nat → Bool) (n : Nat) : fb_ct p (n + 1) = fb_ct p n + (if p n then 1 else 0) := rfl
theorem fb_ct_le (p : Nat → Bool) : ∀ n, fb_ct p n ≤ n
  | 0 => Nat.le_refl _
  | n + 1 => by
    have h := fb_ct_le p n
    rw [fb_ct_succ]
    split <;> omega
theorem fb_ct_cong {p q : Nat → Bool} : ∀ {n : Nat}, (∀ k, k < n → p k = q k) → fb_ct p n = fb_ct q n
  | 0, _ => rfl
  | n + 1, h => by
    rw [fb_ct_succ, fb_ct_succ, fb_ct_cong (fun k hk => h k (by omega)), h n (by omega)]
theorem fb_ct_out (p : Nat → Bool) (b : Bool) {i n : Nat} (h : n ≤ i) : fb_ct (fun k => if k = i then b else p k) n = fb_ct p n :=
  fb_ct_cong fun k hk => if_neg (by omega)
theorem fb_ct_upd (p : Nat → Bool) (b : Bool) {i : Nat} : ∀ {n : Nat}, i < n → fb_ct (fun k => if k = i then b else p k) n + (if p i then 1 else 0) = fb_ct p n + (if b then 1 else 0)
  | 0, h => absurd h (Nat.not_lt_zero i)
  | n + 1, h => by
    rw [fb_ct_succ, fb_ct_succ]
    rcases Nat.lt_or_ge i n with q | q
    · have := fb_ct_upd p b q
      have e : (if n = i then b else p n) = p n := if_neg (by omega)
      rw [e]
      omega
    · have e : i = n := by omega
      subst e
      rw [fb_ct_out p b (Nat.le_refl _)]
      simp only [if_true]
      omega
theorem fb_ct_split (p : Nat → Bool) (m : Nat) : ∀ n, fb_ct p (m + n) = fb_ct p m + fb_ct (fun k => p (m + k)) n
  | 0 => rfl
  | n + 1 => by
    have h := fb_ct_split p m n
    show fb_ct p (m + n + 1) = _
    rw [fb_ct_succ, fb_ct_succ, h, Nat.add_assoc]
theorem fb_andL (a b : Nat) : lN a &&& lN b = lN (a &&& b) := by
  apply Int64.toBitVec_inj.1
  show BitVec.ofNat 64 a &&& BitVec.ofNat 64 b = BitVec.ofNat 64 (a &&& b)
  apply BitVec.eq_of_getLsbD_eq
  intro i hi
  simp [hi]
theorem fb_orL (a b : Nat) : lN a ||| lN b = lN (a ||| b) := by
  apply Int64.toBitVec_inj.1
  show BitVec.ofNat 64 a ||| BitVec.ofNat 64 b = BitVec.ofNat 64 (a ||| b)
  apply BitVec.eq_of_getLsbD_eq
  intro i hi
  simp [hi]
theorem fb_bit_set (n j i : Nat) : (n ||| 2 ^ j).testBit i = (n.testBit i || decide (i = j)) := by
  rw [Nat.testBit_or]
  by_cases h : j = i
  · subst h; simp
  · have h2 : ¬ i = j := fun e => h e.symm
    first | (simp [Nat.testBit_two_pow, h, h2]; done) | (simp [Nat.testBit_two_pow_of_ne h, h2]; done)
theorem and8 {a m : Nat} (b n : Nat) (ha : a < 256) (hm : m < 256) : (a + 256 * b) &&& (m + 256 * n) = (a &&& m) + 256 * (b &&& n) := by
  have h1 : ((a + 256 * b) &&& (m + 256 * n)) % 2 ^ 8 = ((a + 256 * b) % 2 ^ 8) &&& ((m + 256 * n) % 2 ^ 8) := Nat.and_mod_two_pow
  have h2 : ((a + 256 * b) &&& (m + 256 * n)) / 2 ^ 8 = ((a + 256 * b) / 2 ^ 8) &&& ((m + 256 * n) / 2 ^ 8) := Nat.and_div_two_pow
  have e1 : (a + 256 * b) % 2 ^ 8 = a := by omega
  have e2 : (m + 256 * n) % 2 ^ 8 = m := by omega
  have e3 : (a + 256 * b) / 2 ^ 8 = b := by omega
  have e4 : (m + 256 * n) / 2 ^ 8 = n := by omega
  rw [e1, e2] at h1
  rw [e3, e4] at h2
  rw [← h1, ← h2]
  omega
theorem by1 : ∀ a, a < 256 → ∀ t, t < 2 → (a / 2 + 128 * t) &&& 85 = a / 2 &&& 85 := by decide +kernel
theorem by2 : ∀ a, a < 256 → ∀ t, t < 4 → (a / 4 + 64 * t) &&& 51 = a / 4 &&& 51 := by decide +kernel
def y1 (a : Nat) : Nat := a - (a / 2 &&& 85)
def y2 (a : Nat) : Nat := (a &&& 51) + (a / 4 &&& 51)
def y3 (a : Nat) : Nat := (a + a / 16) &&& 15
theorem by3 : ∀ a, a < 256 → (a / 2 &&& 85) ≤ a ∧ y2 (y1 a) ≤ 68 ∧ y2 (y1 a) % 16 ≤ 4 ∧ y3 (y2 (y1 a)) ≤ 8 ∧ y3 (y2 (y1 a)) = fb_ct (fun i => a.testBit i) 8 := by decide +kernel
theorem sh1 {a : Nat} (b M : Nat) (ha : a < 256) : (a + 256 * b) / 2 &&& (85 + 256 * M) = (a / 2 &&& 85) + 256 * (b / 2 &&& M) := by
  have e : (a + 256 * b) / 2 = (a / 2 + 128 * (b % 2)) + 256 * (b / 2) := by omega
  rw [e, and8 _ _ (by omega) (by omega), by1 a ha _ (by omega)]
theorem sh2 {a : Nat} (b M : Nat) (ha : a < 256) : (a + 256 * b) / 4 &&& (51 + 256 * M) = (a / 4 &&& 51) + 256 * (b / 4 &&& M) := by
  have e : (a + 256 * b) / 4 = (a / 4 + 64 * (b % 4)) + 256 * (b / 4) := by omega
  rw [e, and8 _ _ (by omega) (by omega), by2 a ha _ (by omega)]
def ho (a0 a1 a2 a3 a4 : Nat) : Nat := a0 + 256 * (a1 + 256 * (a2 + 256 * (a3 + 256 * (a4 + 256 * 0))))
theorem ho_of {n : Nat} (h : n < 2 ^ 40) : ∃ a0 a1 a2 a3 a4, a0 < 256 ∧ a1 < 256 ∧ a2 < 256 ∧ a3 < 256 ∧ a4 < 256 ∧ n = ho a0 a1 a2 a3 a4 := by
  refine ⟨n % 256, n / 256 % 256, n / 65536 % 256, n / 16777216 % 256, n / 4294967296 % 256, by omega, by omega, by omega, by omega, by omega, ?_⟩
  unfold ho
  omega
theorem an0 (M : Nat) : 0 &&& M = 0 := Nat.zero_and M
theorem ho_1 {a0 a1 a2 a3 a4 : Nat} (h0 : a0 < 256) (h1 : a1 < 256) (h2 : a2 < 256) (h3 : a3 < 256) (h4 : a4 < 256) : ho a0 a1 a2 a3 a4 / 2 &&& 6148914691236517205 = ho (a0 / 2 &&& 85) (a1 / 2 &&& 85) (a2 / 2 &&& 85) (a3 / 2 &&& 85) (a4 / 2 &&& 85) := by
  have e : 6148914691236517205 = 85 + 256 * (85 + 256 * (85 + 256 * (85 + 256 * (85 + 256 * 5592405)))) := by decide
  unfold ho
  rw [e, sh1 _ _ h0, sh1 _ _ h1, sh1 _ _ h2, sh1 _ _ h3, sh1 _ _ h4, Nat.zero_div, an0]
theorem ho_2 {a0 a1 a2 a3 a4 : Nat} (h0 : a0 < 256) (h1 : a1 < 256) (h2 : a2 < 256) (h3 : a3 < 256) (h4 : a4 < 256) : ho a0 a1 a2 a3 a4 / 4 &&& 3689348814741910323 = ho (a0 / 4 &&& 51) (a1 / 4 &&& 51) (a2 / 4 &&& 51) (a3 / 4 &&& 51) (a4 / 4 &&& 51) := by
  have e : 3689348814741910323 = 51 + 256 * (51 + 256 * (51 + 256 * (51 + 256 * (51 + 256 * 3355443)))) := by decide
  unfold ho
  rw [e, sh2 _ _ h0, sh2 _ _ h1, sh2 _ _ h2, sh2 _ _ h3, sh2 _ _ h4, Nat.zero_div, an0]
theorem ho_3 {a0 a1 a2 a3 a4 : Nat} (h0 : a0 < 256) (h1 : a1 < 256) (h2 : a2 < 256) (h3 : a3 < 256) (h4 : a4 < 256) : ho a0 a1 a2 a3 a4 &&& 3689348814741910323 = ho (a0 &&& 51) (a1 &&& 51) (a2 &&& 51) (a3 &&& 51) (a4 &&& 51) := by
  have e : 3689348814741910323 = 51 + 256 * (51 + 256 * (51 + 256 * (51 + 256 * (51 + 256 * 3355443)))) := by decide
  unfold ho
  rw [e, and8 _ _ h0 (by omega), and8 _ _ h1 (by omega), and8 _ _ h2 (by omega), and8 _ _ h3 (by omega), and8 _ _ h4 (by omega), an0]
theorem ho_4 {a0 a1 a2 a3 a4 : Nat} (h0 : a0 < 256) (h1 : a1 < 256) (h2 : a2 < 256) (h3 : a3 < 256) (h4 : a4 < 256) : ho a0 a1 a2 a3 a4 &&& 1085102592571150095 = ho (a0 &&& 15) (a1 &&& 15) (a2 &&& 15) (a3 &&& 15) (a4 &&& 15) := by
  have e : 1085102592571150095 = 15 + 256 * (15 + 256 * (15 + 256 * (15 + 256 * (15 + 256 * 986895)))) := by decide
  unfold ho
  rw [e, and8 _ _ h0 (by omega), and8 _ _ h1 (by omega), and8 _ _ h2 (by omega), and8 _ _ h3 (by omega), and8 _ _ h4 (by omega), an0]
theorem ho_lt {a0 a1 a2 a3 a4 : Nat} (h0 : a0 < 256) (h1 : a1 < 256) (h2 : a2 < 256) (h3 : a3 < 256) (h4 : a4 < 256) : ho a0 a1 a2 a3 a4 < 2 ^ 40 := by
  unfold ho
  omega
theorem and15 (a : Nat) : a &&& 15 = a % 16 := Nat.and_two_pow_sub_one_eq_mod a 4
/-- the four steps, on numbers -/
theorem bc_nat {a0 a1 a2 a3 a4 : Nat} (h0 : a0 < 256) (h1 : a1 < 256) (h2 : a2 < 256) (h3 : a3 < 256) (h4 : a4 < 256) :
    f_J13_bitCount_95d88 (lN (ho a0 a1 a2 a3 a4)) = nI (y3 (y2 (y1 a0)) + y3 (y2 (y1 a1)) + y3 (y2 (y1 a2)) + y3 (y2 (y1 a3)) + y3 (y2 (y1 a4))) := by
  obtain ⟨u0, v0, w0, x0, _⟩ := by3 a0 h0
  obtain ⟨u1, v1, w1, x1, _⟩ := by3 a1 h1
  obtain ⟨u2, v2, w2, x2, _⟩ := by3 a2 h2
  obtain ⟨u3, v3, w3, x3, _⟩ := by3 a3 h3
  obtain ⟨u4, v4, w4, x4, _⟩ := by3 a4 h4
  have l := ho_lt h0 h1 h2 h3 h4
  have s1 : ((lN (ho a0 a1 a2 a3 a4)).toUInt64 >>> ((Int32.toInt64 (Int32.ofInt 1)).toUInt64 &&& Int64.toUInt64 63)).toInt64 = lN (ho a0 a1 a2 a3 a4 / 2 ^ 1) := wb_shr (k := 1) (by omega) (by decide)
  have c1 : (6148914691236517205 : Int64) = lN 6148914691236517205 := rfl
  have c2 : (3689348814741910323 : Int64) = lN 3689348814741910323 := rfl
  have c3 : (1085102592571150095 : Int64) = lN 1085102592571150095 := rfl
  unfold f_J13_bitCount_95d88
  rw [s1, c1, fb_andL, ho_1 h0 h1 h2 h3 h4, lN_sub (by unfold ho; omega)]
  have e1 : ho a0 a1 a2 a3 a4 - ho (a0 / 2 &&& 85) (a1 / 2 &&& 85) (a2 / 2 &&& 85) (a3 / 2 &&& 85) (a4 / 2 &&& 85) = ho (y1 a0) (y1 a1) (y1 a2) (y1 a3) (y1 a4) := by
    unfold ho y1
    omega
  rw [e1]
  have q0 : y1 a0 < 256 := by unfold y1; omega
  have q1 : y1 a1 < 256 := by unfold y1; omega
  have q2 : y1 a2 < 256 := by unfold y1; omega
  have q3 : y1 a3 < 256 := by unfold y1; omega
  have q4 : y1 a4 < 256 := by unfold y1; omega
  have l2 := ho_lt q0 q1 q2 q3 q4
  have s2 : ((lN (ho (y1 a0) (y1 a1) (y1 a2) (y1 a3) (y1 a4))).toUInt64 >>> ((Int32.toInt64 (Int32.ofInt 2)).toUInt64 &&& Int64.toUInt64 63)).toInt64 = lN (ho (y1 a0) (y1 a1) (y1 a2) (y1 a3) (y1 a4) / 2 ^ 2) := wb_shr (k := 2) (by omega) (by decide)
  unfold f_J13_bitCount_95d88_10
  rw [s2, c2, fb_andL, fb_andL, ho_3 q0 q1 q2 q3 q4, ho_2 q0 q1 q2 q3 q4, lN_add]
  have e2 : ho (y1 a0 &&& 51) (y1 a1 &&& 51) (y1 a2 &&& 51) (y1 a3 &&& 51) (y1 a4 &&& 51) + ho (y1 a0 / 4 &&& 51) (y1 a1 / 4 &&& 51) (y1 a2 / 4 &&& 51) (y1 a3 / 4 &&& 51) (y1 a4 / 4 &&& 51) = ho (y2 (y1 a0)) (y2 (y1 a1)) (y2 (y1 a2)) (y2 (y1 a3)) (y2 (y1 a4)) := by
    unfold ho y2
    omega
  rw [e2]
  have l3 := ho_lt (a0 := y2 (y1 a0)) (a1 := y2 (y1 a1)) (a2 := y2 (y1 a2)) (a3 := y2 (y1 a3)) (a4 := y2 (y1 a4)) (by omega) (by omega) (by omega) (by omega) (by omega)
  have s3 : ((lN (ho (y2 (y1 a0)) (y2 (y1 a1)) (y2 (y1 a2)) (y2 (y1 a3)) (y2 (y1 a4)))).toUInt64 >>> ((Int32.toInt64 (Int32.ofInt 4)).toUInt64 &&& Int64.toUInt64 63)).toInt64 = lN (ho (y2 (y1 a0)) (y2 (y1 a1)) (y2 (y1 a2)) (y2 (y1 a3)) (y2 (y1 a4)) / 2 ^ 4) := wb_shr (k := 4) (by omega) (by decide)
  unfold f_J13_bitCount_95d88_24
  rw [s3, c3, lN_add, fb_andL]
  obtain ⟨r0, hr0⟩ : ∃ z, z = y2 (y1 a0) := ⟨_, rfl⟩
  obtain ⟨r1, hr1⟩ : ∃ z, z = y2 (y1 a1) := ⟨_, rfl⟩
  obtain ⟨r2, hr2⟩ : ∃ z, z = y2 (y1 a2) := ⟨_, rfl⟩
  obtain ⟨r3, hr3⟩ : ∃ z, z = y2 (y1 a3) := ⟨_, rfl⟩
  obtain ⟨r4, hr4⟩ : ∃ z, z = y2 (y1 a4) := ⟨_, rfl⟩
  rw [← hr0] at v0 w0 x0
  rw [← hr1] at v1 w1 x1
  rw [← hr2] at v2 w2 x2
  rw [← hr3] at v3 w3 x3
  rw [← hr4] at v4 w4 x4
  rw [← hr0, ← hr1, ← hr2, ← hr3, ← hr4]
  have e3 : ho r0 r1 r2 r3 r4 + ho r0 r1 r2 r3 r4 / 2 ^ 4 = ho (r0 + r0 / 16 + 16 * (r1 % 16)) (r1 + r1 / 16 + 16 * (r2 % 16)) (r2 + r2 / 16 + 16 * (r3 % 16)) (r3 + r3 / 16 + 16 * (r4 % 16)) (r4 + r4 / 16) := by
    unfold ho
    omega
  rw [e3, ho_4 (by omega) (by omega) (by omega) (by omega) (by omega), and15, and15, and15, and15, and15]
  have f0 : (r0 + r0 / 16 + 16 * (r1 % 16)) % 16 = y3 r0 := by unfold y3; rw [and15]; omega
  have f1 : (r1 + r1 / 16 + 16 * (r2 % 16)) % 16 = y3 r1 := by unfold y3; rw [and15]; omega
  have f2 : (r2 + r2 / 16 + 16 * (r3 % 16)) % 16 = y3 r2 := by unfold y3; rw [and15]; omega
  have f3 : (r3 + r3 / 16 + 16 * (r4 % 16)) % 16 = y3 r3 := by unfold y3; rw [and15]; omega
  have f4 : (r4 + r4 / 16) % 16 = y3 r4 := by unfold y3; rw [and15]
  rw [f0, f1, f2, f3, f4]
  clear f0 f1 f2 f3 f4 e3 s3 l3 e2 s2 l2 e1 s1 l
  obtain ⟨t0, ht0⟩ : ∃ z, z = y3 r0 := ⟨_, rfl⟩
  obtain ⟨t1, ht1⟩ : ∃ z, z = y3 r1 := ⟨_, rfl⟩
  obtain ⟨t2, ht2⟩ : ∃ z, z = y3 r2 := ⟨_, rfl⟩
  obtain ⟨t3, ht3⟩ : ∃ z, z = y3 r3 := ⟨_, rfl⟩
  obtain ⟨t4, ht4⟩ : ∃ z, z = y3 r4 := ⟨_, rfl⟩
  rw [← ht0] at x0
  rw [← ht1] at x1
  rw [← ht2] at x2
  rw [← ht3] at x3
  rw [← ht4] at x4
  rw [← ht0, ← ht1, ← ht2, ← ht3, ← ht4]
  have k1 : ho t0 t1 t2 t3 t4 < 2 ^ 40 := ho_lt (by omega) (by omega) (by omega) (by omega) (by omega)
  have s4 : ((lN (ho t0 t1 t2 t3 t4)).toUInt64 >>> ((Int32.toInt64 (Int32.ofInt 8)).toUInt64 &&& Int64.toUInt64 63)).toInt64 = lN (ho t0 t1 t2 t3 t4 / 2 ^ 8) := wb_shr (k := 8) (by omega) (by decide)
  unfold f_J13_bitCount_95d88_34
  rw [s4, lN_add]
  have e4 : ho t0 t1 t2 t3 t4 + ho t0 t1 t2 t3 t4 / 2 ^ 8 = ho (t0 + t1) (t1 + t2) (t2 + t3) (t3 + t4) t4 := by
    unfold ho
    omega
  rw [e4]
  have k2 : ho (t0 + t1) (t1 + t2) (t2 + t3) (t3 + t4) t4 < 2 ^ 40 := ho_lt (by omega) (by omega) (by omega) (by omega) (by omega)
  have s5 : ((lN (ho (t0 + t1) (t1 + t2) (t2 + t3) (t3 + t4) t4)).toUInt64 >>> ((Int32.toInt64 (Int32.ofInt 16)).toUInt64 &&& Int64.toUInt64 63)).toInt64 = lN (ho (t0 + t1) (t1 + t2) (t2 + t3) (t3 + t4) t4 / 2 ^ 16) := wb_shr (k := 16) (by omega) (by decide)
  unfold f_J13_bitCount_95d88_41
  rw [s5, lN_add]
  have e5 : ho (t0 + t1) (t1 + t2) (t2 + t3) (t3 + t4) t4 + ho (t0 + t1) (t1 + t2) (t2 + t3) (t3 + t4) t4 / 2 ^ 16 = ho (t0 + t1 + (t2 + t3)) (t1 + t2 + (t3 + t4)) (t2 + t3 + t4) (t3 + t4) t4 := by
    unfold ho
    omega
  rw [e5]
  have k3 : ho (t0 + t1 + (t2 + t3)) (t1 + t2 + (t3 + t4)) (t2 + t3 + t4) (t3 + t4) t4 < 2 ^ 40 := ho_lt (by omega) (by omega) (by omega) (by omega) (by omega)
  have s6 : ((lN (ho (t0 + t1 + (t2 + t3)) (t1 + t2 + (t3 + t4)) (t2 + t3 + t4) (t3 + t4) t4)).toUInt64 >>> ((Int32.toInt64 (Int32.ofInt 32)).toUInt64 &&& Int64.toUInt64 63)).toInt64 = lN (ho (t0 + t1 + (t2 + t3)) (t1 + t2 + (t3 + t4)) (t2 + t3 + t4) (t3 + t4) t4 / 2 ^ 32) := wb_shr (k := 32) (by omega) (by decide)
  unfold f_J13_bitCount_95d88_48
  rw [s6, lN_add]
  have e6 : ho (t0 + t1 + (t2 + t3)) (t1 + t2 + (t3 + t4)) (t2 + t3 + t4) (t3 + t4) t4 + ho (t0 + t1 + (t2 + t3)) (t1 + t2 + (t3 + t4)) (t2 + t3 + t4) (t3 + t4) t4 / 2 ^ 32 = ho (t0 + t1 + (t2 + t3) + t4) (t1 + t2 + (t3 + t4)) (t2 + t3 + t4) (t3 + t4) t4 := by
    unfold ho
    omega
  rw [e6]
  unfold f_J13_bitCount_95d88_55
  rw [lN_i]
  have m127 : Int32.ofInt 127 = nI (2 ^ 7 - 1) := rfl
  have andI : ∀ a b : Nat, nI a &&& nI b = nI (a &&& b) := by
    intro a b
    apply Int32.toBitVec_inj.1
    show BitVec.ofNat 32 a &&& BitVec.ofNat 32 b = BitVec.ofNat 32 (a &&& b)
    apply BitVec.eq_of_getLsbD_eq
    intro i hi
    simp [hi]
  rw [m127, andI, Nat.and_two_pow_sub_one_eq_mod]
  congr 1
  unfold ho
  omega
theorem tb8 {a : Nat} (b : Nat) (ha : a < 256) : (∀ i, i < 8 → (a + 256 * b).testBit i = a.testBit i) ∧ ∀ i, (a + 256 * b).testBit (8 + i) = b.testBit i := by
  have e1 : (a + 256 * b) % 2 ^ 8 = a := by omega
  have e2 : (a + 256 * b) / 2 ^ 8 = b := by omega
  refine ⟨fun i hi => ?_, fun i => ?_⟩
  · have := Nat.testBit_mod_two_pow (a + 256 * b) 8 i
    rw [e1] at this
    rw [this]
    simp [hi]
  · have := Nat.testBit_div_two_pow (n := 8) (a + 256 * b) i
    rw [e2] at this
    rw [this, Nat.add_comm 8 i]
theorem ct8 {a : Nat} (b n : Nat) (ha : a < 256) : fb_ct (fun i => (a + 256 * b).testBit i) (8 + n) = fb_ct (fun i => a.testBit i) 8 + fb_ct (fun i => b.testBit i) n := by
  obtain ⟨t1, t2⟩ := tb8 b ha
  rw [fb_ct_split, fb_ct_cong (n := 8) (q := fun i => a.testBit i) (fun i hi => t1 i hi), fb_ct_cong (n := n) (q := fun i => b.testBit i) (fun i _ => t2 i)]
theorem bc_all {n : Nat} (h : n < 2 ^ 40) : f_J13_bitCount_95d88 (lN n) = nI (fb_ct (fun i => n.testBit i) 40) := by
  obtain ⟨a0, a1, a2, a3, a4, h0, h1, h2, h3, h4, rfl⟩ := ho_of h
  rw [bc_nat h0 h1 h2 h3 h4, (by3 a0 h0).2.2.2.2, (by3 a1 h1).2.2.2.2, (by3 a2 h2).2.2.2.2, (by3 a3 h3).2.2.2.2, (by3 a4 h4).2.2.2.2]
  congr 1
  unfold ho
  rw [show 40 = 8 + 32 from rfl, ct8 _ _ h0, show 32 = 8 + 24 from rfl, ct8 _ _ h1, show 24 = 8 + 16 from rfl, ct8 _ _ h2, show 16 = 8 + 8 from rfl, ct8 _ _ h3, show fb_ct (fun i => (a4 + 256 * 0).testBit i) 8 = fb_ct (fun i => a4.testBit i) 8 from rfl]
  omega
