/-! the law's walk -/
set_option maxRecDepth 8000 in
theorem rf_B (b : LwR) : rfW 112 (wLB b) := ⟨rfl, ⟨rfl, ⟨rfl, ⟨trivial, ⟨trivial, ⟨trivial, ⟨trivial, ⟨trivial, ⟨trivial, ⟨trivial, ⟨trivial, ⟨trivial, ⟨trivial, ⟨rfl, ⟨(rf_row rfl), ⟨trivial, ⟨trivial, ⟨trivial, ⟨trivial, ⟨trivial, ⟨trivial, ⟨trivial, ⟨trivial, ⟨rfl, ⟨trivial, ⟨trivial, ⟨rfl, ⟨trivial, ⟨trivial, ⟨trivial, ⟨trivial, ⟨rfl, ⟨rfl, ⟨trivial, ⟨trivial, ⟨trivial, ⟨trivial, ⟨(rf_row rfl), ⟨trivial, ⟨trivial, ⟨trivial, ⟨trivial, ⟨(rf_row rfl), ⟨trivial, ⟨trivial, ⟨trivial, ⟨trivial, ⟨rfl, ⟨trivial, ⟨trivial, ⟨rfl, ⟨(rf_row rfl), ⟨trivial, ⟨trivial, ⟨trivial, ⟨trivial, ⟨(rf_row rfl), ⟨trivial, ⟨trivial, ⟨trivial, ⟨trivial, ⟨trivial, ⟨trivial, ⟨trivial, ⟨(rf_row rfl), ⟨(rf_row rfl), ⟨trivial, ⟨trivial, ⟨rfl, ⟨rfl, ⟨trivial, ⟨trivial, ⟨trivial, ⟨trivial, ⟨trivial, ⟨trivial, ⟨trivial, ⟨trivial, ⟨trivial, ⟨trivial, ⟨rfl, ⟨(rf_row rfl), ⟨trivial, ⟨trivial, ⟨trivial, ⟨trivial, ⟨trivial, ⟨trivial, ⟨trivial, ⟨trivial, ⟨rfl, ⟨rfl, ⟨trivial, ⟨trivial, ⟨trivial, ⟨trivial, ⟨trivial, ⟨trivial, ⟨trivial, ⟨trivial, ⟨trivial, ⟨trivial, ⟨rfl, ⟨(rf_row rfl), ⟨trivial, ⟨trivial, ⟨trivial, ⟨trivial, ⟨trivial, ⟨trivial, ⟨trivial, ⟨trivial, trivial⟩⟩⟩⟩⟩⟩⟩⟩⟩⟩⟩⟩⟩⟩⟩⟩⟩⟩⟩⟩⟩⟩⟩⟩⟩⟩⟩⟩⟩⟩⟩⟩⟩⟩⟩⟩⟩⟩⟩⟩⟩⟩⟩⟩⟩⟩⟩⟩⟩⟩⟩⟩⟩⟩⟩⟩⟩⟩⟩⟩⟩⟩⟩⟩⟩⟩⟩⟩⟩⟩⟩⟩⟩⟩⟩⟩⟩⟩⟩⟩⟩⟩⟩⟩⟩⟩⟩⟩⟩⟩⟩⟩⟩⟩⟩⟩⟩⟩⟩⟩⟩⟩⟩⟩⟩⟩⟩⟩⟩⟩⟩⟩
theorem rf_M (m : Rec) : rfW 17 (wM m) := ⟨rfl, ⟨trivial, ⟨trivial, ⟨trivial, ⟨trivial, ⟨trivial, ⟨trivial, ⟨trivial, ⟨trivial, ⟨trivial, ⟨trivial, ⟨trivial, ⟨trivial, ⟨trivial, ⟨trivial, ⟨trivial, ⟨trivial, trivial⟩⟩⟩⟩⟩⟩⟩⟩⟩⟩⟩⟩⟩⟩⟩⟩⟩
abbrev PL1 : Pst := fun v _ => v = some (.int 1)
abbrev GL (sc : SC) : Nat → List (Option Value) → List Value → List va_E → Prop := Good sc 13 129 3455 0 mL_law PL1 129 3455
abbrev LL (i : Int32) : List (Option Value) := [some (.ref 1006), some (.ref 0), some (.ref 112), some (.int i)]
abbrev wLW (b : LwR) (m : Rec) : List va_E := wLB b ++ (wM m).map (shE 112)
theorem hcL : (129 : Nat) ≤ 129 ∧ (3455 : Nat) ≤ 3455 := ⟨Nat.le_refl _, Nat.le_refl _⟩
theorem len_LB (b : LwR) : (wLB b).length = 112 := rfl
theorem len_LM (m : Rec) : (wM m).length = 17 := rfl
theorem lg_cmp_self (y : Int64) : lg_cmp y y = 0 := by
  unfold lg_cmp
  simp
section
variable {sc : SC} {K : Int32} {b : LwR} {m : Rec} {i : Int32}
theorem lawc_board (hK : K < 100000) (hK0 : 0 ≤ K) (hI : LwI K b m) (h1 : vp_in (i + Int32.ofInt 1) sc.1) (h2 : vp_in (i + Int32.ofInt 2) sc.1) (h3 : vp_in (i + Int32.ofInt 3) sc.1) (h4 : vp_in (i + Int32.ofInt 4) sc.1) (hk : ∀ b2 m2, LwI (K + 1) b2 m2 → GL sc 999 (LL i) [] (wLW b2 m2)) : GL sc 168 (LL i) [] (wLW b m) := by
  obtain ⟨y, b2, m2, d1, d2, hd1, hd2, s8, s9, iv⟩ := lw_board_ hK hK0 hI (sc.2 (i + Int32.ofInt 1).toNatClampNeg) (sc.2 (i + Int32.ofInt 2).toNatClampNeg)
  refine g_blk hcL kL_law_168 ?_
  refine ⟨h1, h2, ?_⟩
  refine cLB (n := 112) (r := []) s8 rfl cwX8_board (show decode cL_law 179 = .ok (.invokevirtual 13, 3) by decide +kernel) (len_LB b) (by decide) (by decide) (len_LB b2) (rf_B b) (rf_B b2) rfl rfl rfl rfl rfl rfl (by decide) hd1 hcL (Nat.le_of_ble_eq_true rfl) ?_
  refine g_blk hcL kL_law_182 ?_
  refine ⟨h1, h2, ?_⟩
  refine cLM (n := 112) (m := 17) (r := [.int y]) s9 rfl cwX9_board (show decode cL_law 193 = .ok (.invokevirtual 17, 3) by decide +kernel) (len_LB b2) (len_LM m) (by decide) (by decide) (len_LM m2) (rf_M m) (rf_M m2) rfl rfl rfl rfl rfl rfl (by decide) hd2 hcL (Nat.le_of_ble_eq_true rfl) ?_
  refine g_blk hcL kL_law_196 ?_
  exact ⟨fun _ => hk b2 m2 iv, fun h => absurd rfl h⟩
theorem lawc_hole (hK : K < 100000) (hK0 : 0 ≤ K) (hI : LwI K b m) (h1 : vp_in (i + Int32.ofInt 1) sc.1) (h2 : vp_in (i + Int32.ofInt 2) sc.1) (h3 : vp_in (i + Int32.ofInt 3) sc.1) (h4 : vp_in (i + Int32.ofInt 4) sc.1) (hk : ∀ b2 m2, LwI (K + 1) b2 m2 → GL sc 999 (LL i) [] (wLW b2 m2)) : GL sc 201 (LL i) [] (wLW b m) := by
  obtain ⟨y, b2, m2, d1, d2, hd1, hd2, s8, s9, iv⟩ := lw_hole_ hK hI (sc.2 (i + Int32.ofInt 1).toNatClampNeg)
  refine g_blk hcL kL_law_201 ?_
  refine ⟨h1, ?_⟩
  refine cLB (n := 112) (r := []) s8 rfl cwX8_hole (show decode cL_law 207 = .ok (.invokevirtual 18, 3) by decide +kernel) (len_LB b) (by decide) (by decide) (len_LB b2) (rf_B b) (rf_B b2) rfl rfl rfl rfl rfl rfl (by decide) hd1 hcL (Nat.le_of_ble_eq_true rfl) ?_
  refine g_blk hcL kL_law_210 ?_
  refine ⟨h1, ?_⟩
  refine cLM (n := 112) (m := 17) (r := [.int y]) s9 rfl cwX9_hole (show decode cL_law 216 = .ok (.invokevirtual 22, 3) by decide +kernel) (len_LB b2) (len_LM m) (by decide) (by decide) (len_LM m2) (rf_M m) (rf_M m2) rfl rfl rfl rfl rfl rfl (by decide) hd2 hcL (Nat.le_of_ble_eq_true rfl) ?_
  refine g_blk hcL kL_law_219 ?_
  exact ⟨fun _ => hk b2 m2 iv, fun h => absurd rfl h⟩
theorem lawc_man (hK : K < 100000) (hK0 : 0 ≤ K) (hI : LwI K b m) (h1 : vp_in (i + Int32.ofInt 1) sc.1) (h2 : vp_in (i + Int32.ofInt 2) sc.1) (h3 : vp_in (i + Int32.ofInt 3) sc.1) (h4 : vp_in (i + Int32.ofInt 4) sc.1) (hk : ∀ b2 m2, LwI (K + 1) b2 m2 → GL sc 999 (LL i) [] (wLW b2 m2)) : GL sc 224 (LL i) [] (wLW b m) := by
  obtain ⟨y, b2, m2, d1, d2, hd1, hd2, s8, s9, iv⟩ := lw_man_ hK hI (sc.2 (i + Int32.ofInt 1).toNatClampNeg) (sc.2 (i + Int32.ofInt 2).toNatClampNeg) (sc.2 (i + Int32.ofInt 3).toNatClampNeg) (sc.2 (i + Int32.ofInt 4).toNatClampNeg)
  refine g_blk hcL kL_law_224 ?_
  refine ⟨h1, h2, h3, h4, ?_⟩
  refine cLB (n := 112) (r := []) s8 rfl cwX8_man (show decode cL_law 245 = .ok (.invokevirtual 23, 3) by decide +kernel) (len_LB b) (by decide) (by decide) (len_LB b2) (rf_B b) (rf_B b2) rfl rfl rfl rfl rfl rfl (by decide) hd1 hcL (Nat.le_of_ble_eq_true rfl) ?_
  refine g_blk hcL kL_law_248 ?_
  refine ⟨h1, h2, h3, h4, ?_⟩
  refine cLM (n := 112) (m := 17) (r := [.int y]) s9 rfl cwX9_man (show decode cL_law 269 = .ok (.invokevirtual 27, 3) by decide +kernel) (len_LB b2) (len_LM m) (by decide) (by decide) (len_LM m2) (rf_M m) (rf_M m2) rfl rfl rfl rfl rfl rfl (by decide) hd2 hcL (Nat.le_of_ble_eq_true rfl) ?_
  refine g_blk hcL kL_law_272 ?_
  exact ⟨fun _ => hk b2 m2 iv, fun h => absurd rfl h⟩
theorem lawc_put (hK : K < 100000) (hK0 : 0 ≤ K) (hI : LwI K b m) (h1 : vp_in (i + Int32.ofInt 1) sc.1) (h2 : vp_in (i + Int32.ofInt 2) sc.1) (h3 : vp_in (i + Int32.ofInt 3) sc.1) (h4 : vp_in (i + Int32.ofInt 4) sc.1) (hk : ∀ b2 m2, LwI (K + 1) b2 m2 → GL sc 999 (LL i) [] (wLW b2 m2)) : GL sc 277 (LL i) [] (wLW b m) := by
  obtain ⟨y, b2, m2, d1, d2, hd1, hd2, s8, s9, iv⟩ := lw_put_ hK hI (sc.2 (i + Int32.ofInt 1).toNatClampNeg) (sc.2 (i + Int32.ofInt 2).toNatClampNeg)
  refine g_blk hcL kL_law_277 ?_
  refine ⟨h1, h2, ?_⟩
  refine cLB (n := 112) (r := []) s8 rfl cwX8_put (show decode cL_law 288 = .ok (.invokevirtual 28, 3) by decide +kernel) (len_LB b) (by decide) (by decide) (len_LB b2) (rf_B b) (rf_B b2) rfl rfl rfl rfl rfl rfl (by decide) hd1 hcL (Nat.le_of_ble_eq_true rfl) ?_
  refine g_blk hcL kL_law_291 ?_
  refine ⟨h1, h2, ?_⟩
  refine cLM (n := 112) (m := 17) (r := [.int y]) s9 rfl cwX9_put (show decode cL_law 302 = .ok (.invokevirtual 31, 3) by decide +kernel) (len_LB b2) (len_LM m) (by decide) (by decide) (len_LM m2) (rf_M m) (rf_M m2) rfl rfl rfl rfl rfl rfl (by decide) hd2 hcL (Nat.le_of_ble_eq_true rfl) ?_
  refine g_blk hcL kL_law_305 ?_
  exact ⟨fun _ => hk b2 m2 iv, fun h => absurd rfl h⟩
theorem lawc_cell (hK : K < 100000) (hK0 : 0 ≤ K) (hI : LwI K b m) (h1 : vp_in (i + Int32.ofInt 1) sc.1) (h2 : vp_in (i + Int32.ofInt 2) sc.1) (h3 : vp_in (i + Int32.ofInt 3) sc.1) (h4 : vp_in (i + Int32.ofInt 4) sc.1) (hk : ∀ b2 m2, LwI (K + 1) b2 m2 → GL sc 999 (LL i) [] (wLW b2 m2)) : GL sc 310 (LL i) [] (wLW b m) := by
  obtain ⟨y, b2, m2, d1, d2, hd1, hd2, s8, s9, iv⟩ := lw_cell_ hK hI (sc.2 (i + Int32.ofInt 1).toNatClampNeg) (sc.2 (i + Int32.ofInt 2).toNatClampNeg)
  refine g_blk hcL kL_law_310 ?_
  refine ⟨h1, h2, ?_⟩
  refine cLB (n := 112) (r := []) s8 rfl cwX8_cell (show decode cL_law 321 = .ok (.invokevirtual 32, 3) by decide +kernel) (len_LB b) (by decide) (by decide) (len_LB b2) (rf_B b) (rf_B b2) rfl rfl rfl rfl rfl rfl (by decide) hd1 hcL (Nat.le_of_ble_eq_true rfl) ?_
  refine g_blk hcL kL_law_324 ?_
  refine ⟨h1, h2, ?_⟩
  refine cLM (n := 112) (m := 17) (r := [.int y]) s9 rfl cwX9_cell (show decode cL_law 335 = .ok (.invokevirtual 35, 3) by decide +kernel) (len_LB b2) (len_LM m) (by decide) (by decide) (len_LM m2) (rf_M m) (rf_M m2) rfl rfl rfl rfl rfl rfl (by decide) hd2 hcL (Nat.le_of_ble_eq_true rfl) ?_
  refine g_blk hcL kL_law_338 ?_
  exact ⟨fun _ => hk b2 m2 iv, fun h => absurd rfl h⟩
theorem lawc_pile (hK : K < 100000) (hK0 : 0 ≤ K) (hI : LwI K b m) (h1 : vp_in (i + Int32.ofInt 1) sc.1) (h2 : vp_in (i + Int32.ofInt 2) sc.1) (h3 : vp_in (i + Int32.ofInt 3) sc.1) (h4 : vp_in (i + Int32.ofInt 4) sc.1) (hk : ∀ b2 m2, LwI (K + 1) b2 m2 → GL sc 999 (LL i) [] (wLW b2 m2)) : GL sc 343 (LL i) [] (wLW b m) := by
  obtain ⟨y, b2, m2, d1, d2, hd1, hd2, s8, s9, iv⟩ := lw_pile_ hK hI (sc.2 (i + Int32.ofInt 1).toNatClampNeg) (sc.2 (i + Int32.ofInt 2).toNatClampNeg) (sc.2 (i + Int32.ofInt 3).toNatClampNeg)
  refine g_blk hcL kL_law_343 ?_
  refine ⟨h1, h2, h3, ?_⟩
  refine cLB (n := 112) (r := []) s8 rfl cwX8_pile (show decode cL_law 359 = .ok (.invokevirtual 36, 3) by decide +kernel) (len_LB b) (by decide) (by decide) (len_LB b2) (rf_B b) (rf_B b2) rfl rfl rfl rfl rfl rfl (by decide) hd1 hcL (Nat.le_of_ble_eq_true rfl) ?_
  refine g_blk hcL kL_law_362 ?_
  refine ⟨h1, h2, h3, ?_⟩
  refine cLM (n := 112) (m := 17) (r := [.int y]) s9 rfl cwX9_pile (show decode cL_law 378 = .ok (.invokevirtual 40, 3) by decide +kernel) (len_LB b2) (len_LM m) (by decide) (by decide) (len_LM m2) (rf_M m) (rf_M m2) rfl rfl rfl rfl rfl rfl (by decide) hd2 hcL (Nat.le_of_ble_eq_true rfl) ?_
  refine g_blk hcL kL_law_381 ?_
  exact ⟨fun _ => hk b2 m2 iv, fun h => absurd rfl h⟩
theorem lawc_strength (hK : K < 100000) (hK0 : 0 ≤ K) (hI : LwI K b m) (h1 : vp_in (i + Int32.ofInt 1) sc.1) (h2 : vp_in (i + Int32.ofInt 2) sc.1) (h3 : vp_in (i + Int32.ofInt 3) sc.1) (h4 : vp_in (i + Int32.ofInt 4) sc.1) (hk : ∀ b2 m2, LwI (K + 1) b2 m2 → GL sc 999 (LL i) [] (wLW b2 m2)) : GL sc 386 (LL i) [] (wLW b m) := by
  obtain ⟨y, b2, m2, d1, d2, hd1, hd2, s8, s9, iv⟩ := lw_strength_ hK hI (sc.2 (i + Int32.ofInt 1).toNatClampNeg)
  refine g_blk hcL kL_law_386 ?_
  refine ⟨h1, ?_⟩
  refine cLB (n := 112) (r := []) s8 rfl cwX8_strength (show decode cL_law 392 = .ok (.invokevirtual 41, 3) by decide +kernel) (len_LB b) (by decide) (by decide) (len_LB b2) (rf_B b) (rf_B b2) rfl rfl rfl rfl rfl rfl (by decide) hd1 hcL (Nat.le_of_ble_eq_true rfl) ?_
  refine g_blk hcL kL_law_395 ?_
  refine ⟨h1, ?_⟩
  refine cLM (n := 112) (m := 17) (r := [.int y]) s9 rfl cwX9_strength (show decode cL_law 401 = .ok (.invokevirtual 44, 3) by decide +kernel) (len_LB b2) (len_LM m) (by decide) (by decide) (len_LM m2) (rf_M m) (rf_M m2) rfl rfl rfl rfl rfl rfl (by decide) hd2 hcL (Nat.le_of_ble_eq_true rfl) ?_
  refine g_blk hcL kL_law_404 ?_
  exact ⟨fun _ => hk b2 m2 iv, fun h => absurd rfl h⟩
theorem lawc_ruler (hK : K < 100000) (hK0 : 0 ≤ K) (hI : LwI K b m) (h1 : vp_in (i + Int32.ofInt 1) sc.1) (h2 : vp_in (i + Int32.ofInt 2) sc.1) (h3 : vp_in (i + Int32.ofInt 3) sc.1) (h4 : vp_in (i + Int32.ofInt 4) sc.1) (hk : ∀ b2 m2, LwI (K + 1) b2 m2 → GL sc 999 (LL i) [] (wLW b2 m2)) : GL sc 409 (LL i) [] (wLW b m) := by
  obtain ⟨y, b2, m2, d1, d2, hd1, hd2, s8, s9, iv⟩ := lw_ruler_ hK hI (sc.2 (i + Int32.ofInt 1).toNatClampNeg) (sc.2 (i + Int32.ofInt 2).toNatClampNeg)
  refine g_blk hcL kL_law_409 ?_
  refine ⟨h1, h2, ?_⟩
  refine cLB (n := 112) (r := []) s8 rfl cwX8_ruler (show decode cL_law 420 = .ok (.invokevirtual 45, 3) by decide +kernel) (len_LB b) (by decide) (by decide) (len_LB b2) (rf_B b) (rf_B b2) rfl rfl rfl rfl rfl rfl (by decide) hd1 hcL (Nat.le_of_ble_eq_true rfl) ?_
  refine g_blk hcL kL_law_423 ?_
  refine ⟨h1, h2, ?_⟩
  refine cLM (n := 112) (m := 17) (r := [.int y]) s9 rfl cwX9_ruler (show decode cL_law 434 = .ok (.invokevirtual 48, 3) by decide +kernel) (len_LB b2) (len_LM m) (by decide) (by decide) (len_LM m2) (rf_M m) (rf_M m2) rfl rfl rfl rfl rfl rfl (by decide) hd2 hcL (Nat.le_of_ble_eq_true rfl) ?_
  refine g_blk hcL kL_law_437 ?_
  exact ⟨fun _ => hk b2 m2 iv, fun h => absurd rfl h⟩
theorem lawc_where (hK : K < 100000) (hK0 : 0 ≤ K) (hI : LwI K b m) (h1 : vp_in (i + Int32.ofInt 1) sc.1) (h2 : vp_in (i + Int32.ofInt 2) sc.1) (h3 : vp_in (i + Int32.ofInt 3) sc.1) (h4 : vp_in (i + Int32.ofInt 4) sc.1) (hk : ∀ b2 m2, LwI (K + 1) b2 m2 → GL sc 999 (LL i) [] (wLW b2 m2)) : GL sc 442 (LL i) [] (wLW b m) := by
  obtain ⟨y, b2, m2, d1, d2, hd1, hd2, s8, s9, iv⟩ := lw_where_ hK hI (sc.2 (i + Int32.ofInt 1).toNatClampNeg)
  refine g_blk hcL kL_law_442 ?_
  refine ⟨h1, ?_⟩
  refine cLB (n := 112) (r := []) s8 rfl cwX8_where (show decode cL_law 448 = .ok (.invokevirtual 49, 3) by decide +kernel) (len_LB b) (by decide) (by decide) (len_LB b2) (rf_B b) (rf_B b2) rfl rfl rfl rfl rfl rfl (by decide) hd1 hcL (Nat.le_of_ble_eq_true rfl) ?_
  refine g_blk hcL kL_law_451 ?_
  refine ⟨h1, ?_⟩
  refine cLM (n := 112) (m := 17) (r := [.int y]) s9 rfl cwX9_where (show decode cL_law 457 = .ok (.invokevirtual 52, 3) by decide +kernel) (len_LB b2) (len_LM m) (by decide) (by decide) (len_LM m2) (rf_M m) (rf_M m2) rfl rfl rfl rfl rfl rfl (by decide) hd2 hcL (Nat.le_of_ble_eq_true rfl) ?_
  refine g_blk hcL kL_law_460 ?_
  exact ⟨fun _ => hk b2 m2 iv, fun h => absurd rfl h⟩
theorem lawc_step (hK : K < 100000) (hK0 : 0 ≤ K) (hI : LwI K b m) (h1 : vp_in (i + Int32.ofInt 1) sc.1) (h2 : vp_in (i + Int32.ofInt 2) sc.1) (h3 : vp_in (i + Int32.ofInt 3) sc.1) (h4 : vp_in (i + Int32.ofInt 4) sc.1) (hk : ∀ b2 m2, LwI (K + 1) b2 m2 → GL sc 999 (LL i) [] (wLW b2 m2)) : GL sc 465 (LL i) [] (wLW b m) := by
  obtain ⟨y, b2, m2, d1, d2, hd1, hd2, s8, s9, iv⟩ := lw_step_ hK hI (sc.2 (i + Int32.ofInt 1).toNatClampNeg) (sc.2 (i + Int32.ofInt 2).toNatClampNeg) (sc.2 (i + Int32.ofInt 3).toNatClampNeg) (sc.2 (i + Int32.ofInt 4).toNatClampNeg)
  refine g_blk hcL kL_law_465 ?_
  refine ⟨h1, h2, h3, h4, ?_⟩
  refine cLB (n := 112) (r := []) s8 rfl cwX8_step (show decode cL_law 486 = .ok (.invokevirtual 53, 3) by decide +kernel) (len_LB b) (by decide) (by decide) (len_LB b2) (rf_B b) (rf_B b2) rfl rfl rfl rfl rfl rfl (by decide) hd1 hcL (Nat.le_of_ble_eq_true rfl) ?_
  refine g_blk hcL kL_law_489 ?_
  refine ⟨h1, h2, h3, h4, ?_⟩
  refine cLM (n := 112) (m := 17) (r := [.int y]) s9 rfl cwX9_step (show decode cL_law 510 = .ok (.invokevirtual 56, 3) by decide +kernel) (len_LB b2) (len_LM m) (by decide) (by decide) (len_LM m2) (rf_M m) (rf_M m2) rfl rfl rfl rfl rfl rfl (by decide) hd2 hcL (Nat.le_of_ble_eq_true rfl) ?_
  refine g_blk hcL kL_law_513 ?_
  exact ⟨fun _ => hk b2 m2 iv, fun h => absurd rfl h⟩
theorem lawc_fold (hK : K < 100000) (hK0 : 0 ≤ K) (hI : LwI K b m) (h1 : vp_in (i + Int32.ofInt 1) sc.1) (h2 : vp_in (i + Int32.ofInt 2) sc.1) (h3 : vp_in (i + Int32.ofInt 3) sc.1) (h4 : vp_in (i + Int32.ofInt 4) sc.1) (hk : ∀ b2 m2, LwI (K + 1) b2 m2 → GL sc 999 (LL i) [] (wLW b2 m2)) : GL sc 518 (LL i) [] (wLW b m) := by
  obtain ⟨y, b2, m2, d1, d2, hd1, hd2, s8, s9, iv⟩ := lw_fold_ hK hI (sc.2 (i + Int32.ofInt 1).toNatClampNeg) (sc.2 (i + Int32.ofInt 2).toNatClampNeg) (sc.2 (i + Int32.ofInt 3).toNatClampNeg)
  refine g_blk hcL kL_law_518 ?_
  refine ⟨h1, h2, h3, ?_⟩
  refine cLB (n := 112) (r := []) s8 rfl cwX8_fold (show decode cL_law 534 = .ok (.invokevirtual 57, 3) by decide +kernel) (len_LB b) (by decide) (by decide) (len_LB b2) (rf_B b) (rf_B b2) rfl rfl rfl rfl rfl rfl (by decide) hd1 hcL (Nat.le_of_ble_eq_true rfl) ?_
  refine g_blk hcL kL_law_537 ?_
  refine ⟨h1, h2, h3, ?_⟩
  refine cLM (n := 112) (m := 17) (r := [.int y]) s9 rfl cwX9_fold (show decode cL_law 553 = .ok (.invokevirtual 60, 3) by decide +kernel) (len_LB b2) (len_LM m) (by decide) (by decide) (len_LM m2) (rf_M m) (rf_M m2) rfl rfl rfl rfl rfl rfl (by decide) hd2 hcL (Nat.le_of_ble_eq_true rfl) ?_
  refine g_blk hcL kL_law_556 ?_
  exact ⟨fun _ => hk b2 m2 iv, fun h => absurd rfl h⟩
theorem lawc_state (hK : K < 100000) (hK0 : 0 ≤ K) (hI : LwI K b m) (h1 : vp_in (i + Int32.ofInt 1) sc.1) (h2 : vp_in (i + Int32.ofInt 2) sc.1) (h3 : vp_in (i + Int32.ofInt 3) sc.1) (h4 : vp_in (i + Int32.ofInt 4) sc.1) (hk : ∀ b2 m2, LwI (K + 1) b2 m2 → GL sc 999 (LL i) [] (wLW b2 m2)) : GL sc 561 (LL i) [] (wLW b m) := by
  obtain ⟨y, b2, m2, d1, d2, hd1, hd2, s8, s9, iv⟩ := lw_state_ hK hI (sc.2 (i + Int32.ofInt 1).toNatClampNeg)
  refine g_blk hcL kL_law_561 ?_
  refine ⟨h1, ?_⟩
  refine cLB (n := 112) (r := []) s8 rfl cwX8_state (show decode cL_law 567 = .ok (.invokevirtual 61, 3) by decide +kernel) (len_LB b) (by decide) (by decide) (len_LB b2) (rf_B b) (rf_B b2) rfl rfl rfl rfl rfl rfl (by decide) hd1 hcL (Nat.le_of_ble_eq_true rfl) ?_
  refine g_blk hcL kL_law_570 ?_
  refine ⟨h1, ?_⟩
  refine cLM (n := 112) (m := 17) (r := [.int y]) s9 rfl cwX9_state (show decode cL_law 576 = .ok (.invokevirtual 64, 3) by decide +kernel) (len_LB b2) (len_LM m) (by decide) (by decide) (len_LM m2) (rf_M m) (rf_M m2) rfl rfl rfl rfl rfl rfl (by decide) hd2 hcL (Nat.le_of_ble_eq_true rfl) ?_
  refine g_blk hcL kL_law_579 ?_
  exact ⟨fun _ => hk b2 m2 iv, fun h => absurd rfl h⟩
theorem lawc_undo (hK : K < 100000) (hK0 : 0 ≤ K) (hI : LwI K b m) (h1 : vp_in (i + Int32.ofInt 1) sc.1) (h2 : vp_in (i + Int32.ofInt 2) sc.1) (h3 : vp_in (i + Int32.ofInt 3) sc.1) (h4 : vp_in (i + Int32.ofInt 4) sc.1) (hk : ∀ b2 m2, LwI (K + 1) b2 m2 → GL sc 999 (LL i) [] (wLW b2 m2)) : GL sc 584 (LL i) [] (wLW b m) := by
  obtain ⟨y, b2, m2, d1, d2, hd1, hd2, s8, s9, iv⟩ := lw_undo_ hK hI 
  refine g_blk hcL kL_law_584 ?_
  refine cLB (n := 112) (r := []) s8 rfl cwX8_undo (show decode cL_law 585 = .ok (.invokevirtual 65, 3) by decide +kernel) (len_LB b) (by decide) (by decide) (len_LB b2) (rf_B b) (rf_B b2) rfl rfl rfl rfl rfl rfl (by decide) hd1 hcL (Nat.le_of_ble_eq_true rfl) ?_
  refine g_blk hcL kL_law_588 ?_
  refine cLM (n := 112) (m := 17) (r := [.int y]) s9 rfl cwX9_undo (show decode cL_law 589 = .ok (.invokevirtual 69, 3) by decide +kernel) (len_LB b2) (len_LM m) (by decide) (by decide) (len_LM m2) (rf_M m) (rf_M m2) rfl rfl rfl rfl rfl rfl (by decide) hd2 hcL (Nat.le_of_ble_eq_true rfl) ?_
  refine g_blk hcL kL_law_592 ?_
  exact ⟨fun _ => hk b2 m2 iv, fun h => absurd rfl h⟩
theorem lawc_folds (hK : K < 100000) (hK0 : 0 ≤ K) (hI : LwI K b m) (h1 : vp_in (i + Int32.ofInt 1) sc.1) (h2 : vp_in (i + Int32.ofInt 2) sc.1) (h3 : vp_in (i + Int32.ofInt 3) sc.1) (h4 : vp_in (i + Int32.ofInt 4) sc.1) (hk : ∀ b2 m2, LwI (K + 1) b2 m2 → GL sc 999 (LL i) [] (wLW b2 m2)) : GL sc 597 (LL i) [] (wLW b m) := by
  obtain ⟨y, b2, m2, d1, d2, hd1, hd2, s8, s9, iv⟩ := lw_folds_ hK hI (sc.2 (i + Int32.ofInt 1).toNatClampNeg)
  refine g_blk hcL kL_law_597 ?_
  refine ⟨h1, ?_⟩
  refine cLB (n := 112) (r := []) s8 rfl cwX8_folds (show decode cL_law 603 = .ok (.invokevirtual 70, 3) by decide +kernel) (len_LB b) (by decide) (by decide) (len_LB b2) (rf_B b) (rf_B b2) rfl rfl rfl rfl rfl rfl (by decide) hd1 hcL (Nat.le_of_ble_eq_true rfl) ?_
  refine g_blk hcL kL_law_606 ?_
  refine ⟨h1, ?_⟩
  refine cLM (n := 112) (m := 17) (r := [.int y]) s9 rfl cwX9_folds (show decode cL_law 612 = .ok (.invokevirtual 73, 3) by decide +kernel) (len_LB b2) (len_LM m) (by decide) (by decide) (len_LM m2) (rf_M m) (rf_M m2) rfl rfl rfl rfl rfl rfl (by decide) hd2 hcL (Nat.le_of_ble_eq_true rfl) ?_
  refine g_blk hcL kL_law_615 ?_
  exact ⟨fun _ => hk b2 m2 iv, fun h => absurd rfl h⟩
theorem lawc_leaves (hK : K < 100000) (hK0 : 0 ≤ K) (hI : LwI K b m) (h1 : vp_in (i + Int32.ofInt 1) sc.1) (h2 : vp_in (i + Int32.ofInt 2) sc.1) (h3 : vp_in (i + Int32.ofInt 3) sc.1) (h4 : vp_in (i + Int32.ofInt 4) sc.1) (hk : ∀ b2 m2, LwI (K + 1) b2 m2 → GL sc 999 (LL i) [] (wLW b2 m2)) : GL sc 620 (LL i) [] (wLW b m) := by
  obtain ⟨y, b2, m2, d1, d2, hd1, hd2, s8, s9, iv⟩ := lw_leaves_ hK hI (sc.2 (i + Int32.ofInt 1).toNatClampNeg) (sc.2 (i + Int32.ofInt 2).toNatClampNeg)
  refine g_blk hcL kL_law_620 ?_
  refine ⟨h1, h2, ?_⟩
  refine cLB (n := 112) (r := []) s8 rfl cwX8_leaves (show decode cL_law 631 = .ok (.invokevirtual 74, 3) by decide +kernel) (len_LB b) (by decide) (by decide) (len_LB b2) (rf_B b) (rf_B b2) rfl rfl rfl rfl rfl rfl (by decide) hd1 hcL (Nat.le_of_ble_eq_true rfl) ?_
  refine g_blk hcL kL_law_634 ?_
  refine ⟨h1, h2, ?_⟩
  refine cLM (n := 112) (m := 17) (r := [.int y]) s9 rfl cwX9_leaves (show decode cL_law 645 = .ok (.invokevirtual 77, 3) by decide +kernel) (len_LB b2) (len_LM m) (by decide) (by decide) (len_LM m2) (rf_M m) (rf_M m2) rfl rfl rfl rfl rfl rfl (by decide) hd2 hcL (Nat.le_of_ble_eq_true rfl) ?_
  refine g_blk hcL kL_law_648 ?_
  exact ⟨fun _ => hk b2 m2 iv, fun h => absurd rfl h⟩
theorem lawc_habit (hK : K < 100000) (hK0 : 0 ≤ K) (hI : LwI K b m) (h1 : vp_in (i + Int32.ofInt 1) sc.1) (h2 : vp_in (i + Int32.ofInt 2) sc.1) (h3 : vp_in (i + Int32.ofInt 3) sc.1) (h4 : vp_in (i + Int32.ofInt 4) sc.1) (hk : ∀ b2 m2, LwI (K + 1) b2 m2 → GL sc 999 (LL i) [] (wLW b2 m2)) : GL sc 653 (LL i) [] (wLW b m) := by
  obtain ⟨y, b2, m2, d1, d2, hd1, hd2, s8, s9, iv⟩ := lw_habit_ hK hI 
  refine g_blk hcL kL_law_653 ?_
  refine cLB (n := 112) (r := []) s8 rfl cwX8_habit (show decode cL_law 654 = .ok (.invokevirtual 78, 3) by decide +kernel) (len_LB b) (by decide) (by decide) (len_LB b2) (rf_B b) (rf_B b2) rfl rfl rfl rfl rfl rfl (by decide) hd1 hcL (Nat.le_of_ble_eq_true rfl) ?_
  refine g_blk hcL kL_law_657 ?_
  refine cLM (n := 112) (m := 17) (r := [.int y]) s9 rfl cwX9_habit (show decode cL_law 658 = .ok (.invokevirtual 81, 3) by decide +kernel) (len_LB b2) (len_LM m) (by decide) (by decide) (len_LM m2) (rf_M m) (rf_M m2) rfl rfl rfl rfl rfl rfl (by decide) hd2 hcL (Nat.le_of_ble_eq_true rfl) ?_
  refine g_blk hcL kL_law_661 ?_
  exact ⟨fun _ => hk b2 m2 iv, fun h => absurd rfl h⟩
theorem lawc_safe (hK : K < 100000) (hK0 : 0 ≤ K) (hI : LwI K b m) (h1 : vp_in (i + Int32.ofInt 1) sc.1) (h2 : vp_in (i + Int32.ofInt 2) sc.1) (h3 : vp_in (i + Int32.ofInt 3) sc.1) (h4 : vp_in (i + Int32.ofInt 4) sc.1) (hk : ∀ b2 m2, LwI (K + 1) b2 m2 → GL sc 999 (LL i) [] (wLW b2 m2)) : GL sc 666 (LL i) [] (wLW b m) := by
  obtain ⟨y, b2, m2, d1, d2, hd1, hd2, s8, s9, iv⟩ := lw_safe_ hK hI 
  refine g_blk hcL kL_law_666 ?_
  refine cLB (n := 112) (r := []) s8 rfl cwX8_safe (show decode cL_law 667 = .ok (.invokevirtual 82, 3) by decide +kernel) (len_LB b) (by decide) (by decide) (len_LB b2) (rf_B b) (rf_B b2) rfl rfl rfl rfl rfl rfl (by decide) hd1 hcL (Nat.le_of_ble_eq_true rfl) ?_
  refine g_blk hcL kL_law_670 ?_
  refine cLM (n := 112) (m := 17) (r := [.int y]) s9 rfl cwX9_safe (show decode cL_law 671 = .ok (.invokevirtual 85, 3) by decide +kernel) (len_LB b2) (len_LM m) (by decide) (by decide) (len_LM m2) (rf_M m) (rf_M m2) rfl rfl rfl rfl rfl rfl (by decide) hd2 hcL (Nat.le_of_ble_eq_true rfl) ?_
  refine g_blk hcL kL_law_674 ?_
  exact ⟨fun _ => hk b2 m2 iv, fun h => absurd rfl h⟩
theorem lawc_small (hK : K < 100000) (hK0 : 0 ≤ K) (hI : LwI K b m) (h1 : vp_in (i + Int32.ofInt 1) sc.1) (h2 : vp_in (i + Int32.ofInt 2) sc.1) (h3 : vp_in (i + Int32.ofInt 3) sc.1) (h4 : vp_in (i + Int32.ofInt 4) sc.1) (hk : ∀ b2 m2, LwI (K + 1) b2 m2 → GL sc 999 (LL i) [] (wLW b2 m2)) : GL sc 679 (LL i) [] (wLW b m) := by
  obtain ⟨y, b2, m2, d1, d2, hd1, hd2, s8, s9, iv⟩ := lw_small_ hK hI (sc.2 (i + Int32.ofInt 1).toNatClampNeg)
  refine g_blk hcL kL_law_679 ?_
  refine ⟨h1, ?_⟩
  refine cLB (n := 112) (r := []) s8 rfl cwX8_small (show decode cL_law 685 = .ok (.invokevirtual 86, 3) by decide +kernel) (len_LB b) (by decide) (by decide) (len_LB b2) (rf_B b) (rf_B b2) rfl rfl rfl rfl rfl rfl (by decide) hd1 hcL (Nat.le_of_ble_eq_true rfl) ?_
  refine g_blk hcL kL_law_688 ?_
  refine ⟨h1, ?_⟩
  refine cLM (n := 112) (m := 17) (r := [.int y]) s9 rfl cwX9_small (show decode cL_law 694 = .ok (.invokevirtual 89, 3) by decide +kernel) (len_LB b2) (len_LM m) (by decide) (by decide) (len_LM m2) (rf_M m) (rf_M m2) rfl rfl rfl rfl rfl rfl (by decide) hd2 hcL (Nat.le_of_ble_eq_true rfl) ?_
  refine g_blk hcL kL_law_697 ?_
  exact ⟨fun _ => hk b2 m2 iv, fun h => absurd rfl h⟩
theorem lawc_reach (hK : K < 100000) (hK0 : 0 ≤ K) (hI : LwI K b m) (h1 : vp_in (i + Int32.ofInt 1) sc.1) (h2 : vp_in (i + Int32.ofInt 2) sc.1) (h3 : vp_in (i + Int32.ofInt 3) sc.1) (h4 : vp_in (i + Int32.ofInt 4) sc.1) (hk : ∀ b2 m2, LwI (K + 1) b2 m2 → GL sc 999 (LL i) [] (wLW b2 m2)) : GL sc 702 (LL i) [] (wLW b m) := by
  obtain ⟨y, b2, m2, d1, d2, hd1, hd2, s8, s9, iv⟩ := lw_reach_ hK hI (sc.2 (i + Int32.ofInt 1).toNatClampNeg) (sc.2 (i + Int32.ofInt 2).toNatClampNeg) (sc.2 (i + Int32.ofInt 3).toNatClampNeg)
  refine g_blk hcL kL_law_702 ?_
  refine ⟨h1, h2, h3, ?_⟩
  refine cLB (n := 112) (r := []) s8 rfl cwX8_reach (show decode cL_law 718 = .ok (.invokevirtual 90, 3) by decide +kernel) (len_LB b) (by decide) (by decide) (len_LB b2) (rf_B b) (rf_B b2) rfl rfl rfl rfl rfl rfl (by decide) hd1 hcL (Nat.le_of_ble_eq_true rfl) ?_
  refine g_blk hcL kL_law_721 ?_
  refine ⟨h1, h2, h3, ?_⟩
  refine cLM (n := 112) (m := 17) (r := [.int y]) s9 rfl cwX9_reach (show decode cL_law 737 = .ok (.invokevirtual 93, 3) by decide +kernel) (len_LB b2) (len_LM m) (by decide) (by decide) (len_LM m2) (rf_M m) (rf_M m2) rfl rfl rfl rfl rfl rfl (by decide) hd2 hcL (Nat.le_of_ble_eq_true rfl) ?_
  refine g_blk hcL kL_law_740 ?_
  exact ⟨fun _ => hk b2 m2 iv, fun h => absurd rfl h⟩
theorem lawc_wins (hK : K < 100000) (hK0 : 0 ≤ K) (hI : LwI K b m) (h1 : vp_in (i + Int32.ofInt 1) sc.1) (h2 : vp_in (i + Int32.ofInt 2) sc.1) (h3 : vp_in (i + Int32.ofInt 3) sc.1) (h4 : vp_in (i + Int32.ofInt 4) sc.1) (hk : ∀ b2 m2, LwI (K + 1) b2 m2 → GL sc 999 (LL i) [] (wLW b2 m2)) : GL sc 745 (LL i) [] (wLW b m) := by
  obtain ⟨y, b2, m2, d1, d2, hd1, hd2, s8, s9, iv⟩ := lw_wins_ hK hI (sc.2 (i + Int32.ofInt 1).toNatClampNeg)
  refine g_blk hcL kL_law_745 ?_
  refine ⟨h1, ?_⟩
  refine cLB (n := 112) (r := []) s8 rfl cwX8_wins (show decode cL_law 751 = .ok (.invokevirtual 94, 3) by decide +kernel) (len_LB b) (by decide) (by decide) (len_LB b2) (rf_B b) (rf_B b2) rfl rfl rfl rfl rfl rfl (by decide) hd1 hcL (Nat.le_of_ble_eq_true rfl) ?_
  refine g_blk hcL kL_law_754 ?_
  refine ⟨h1, ?_⟩
  refine cLM (n := 112) (m := 17) (r := [.int y]) s9 rfl cwX9_wins (show decode cL_law 760 = .ok (.invokevirtual 97, 3) by decide +kernel) (len_LB b2) (len_LM m) (by decide) (by decide) (len_LM m2) (rf_M m) (rf_M m2) rfl rfl rfl rfl rfl rfl (by decide) hd2 hcL (Nat.le_of_ble_eq_true rfl) ?_
  refine g_blk hcL kL_law_763 ?_
  exact ⟨fun _ => hk b2 m2 iv, fun h => absurd rfl h⟩
theorem lawc_best (hK : K < 100000) (hK0 : 0 ≤ K) (hI : LwI K b m) (h1 : vp_in (i + Int32.ofInt 1) sc.1) (h2 : vp_in (i + Int32.ofInt 2) sc.1) (h3 : vp_in (i + Int32.ofInt 3) sc.1) (h4 : vp_in (i + Int32.ofInt 4) sc.1) (hk : ∀ b2 m2, LwI (K + 1) b2 m2 → GL sc 999 (LL i) [] (wLW b2 m2)) : GL sc 768 (LL i) [] (wLW b m) := by
  obtain ⟨y, b2, m2, d1, d2, hd1, hd2, s8, s9, iv⟩ := lw_best_ hK hI (sc.2 (i + Int32.ofInt 1).toNatClampNeg)
  refine g_blk hcL kL_law_768 ?_
  refine ⟨h1, ?_⟩
  refine cLB (n := 112) (r := []) s8 rfl cwX8_best (show decode cL_law 774 = .ok (.invokevirtual 98, 3) by decide +kernel) (len_LB b) (by decide) (by decide) (len_LB b2) (rf_B b) (rf_B b2) rfl rfl rfl rfl rfl rfl (by decide) hd1 hcL (Nat.le_of_ble_eq_true rfl) ?_
  refine g_blk hcL kL_law_777 ?_
  refine ⟨h1, ?_⟩
  refine cLM (n := 112) (m := 17) (r := [.int y]) s9 rfl cwX9_best (show decode cL_law 783 = .ok (.invokevirtual 101, 3) by decide +kernel) (len_LB b2) (len_LM m) (by decide) (by decide) (len_LM m2) (rf_M m) (rf_M m2) rfl rfl rfl rfl rfl rfl (by decide) hd2 hcL (Nat.le_of_ble_eq_true rfl) ?_
  refine g_blk hcL kL_law_786 ?_
  exact ⟨fun _ => hk b2 m2 iv, fun h => absurd rfl h⟩
theorem lawc_type (hK : K < 100000) (hK0 : 0 ≤ K) (hI : LwI K b m) (h1 : vp_in (i + Int32.ofInt 1) sc.1) (h2 : vp_in (i + Int32.ofInt 2) sc.1) (h3 : vp_in (i + Int32.ofInt 3) sc.1) (h4 : vp_in (i + Int32.ofInt 4) sc.1) (hk : ∀ b2 m2, LwI (K + 1) b2 m2 → GL sc 999 (LL i) [] (wLW b2 m2)) : GL sc 791 (LL i) [] (wLW b m) := by
  obtain ⟨y, b2, m2, d1, d2, hd1, hd2, s8, s9, iv⟩ := lw_type_ hK hI ((sc.2 (i + Int32.ofInt 1).toNatClampNeg).toInt64 <<< ((Int32.ofInt 32).toInt64 &&& 63) ||| ((sc.2 (i + Int32.ofInt 2).toNatClampNeg).toInt64 &&& 4294967295)) (sc.2 (i + Int32.ofInt 3).toNatClampNeg)
  refine g_blk hcL kL_law_791 ?_
  refine ⟨h1, h2, h3, ?_⟩
  refine cLB (n := 112) (r := []) s8 rfl cwX8_type (show decode cL_law 817 = .ok (.invokevirtual 104, 3) by decide +kernel) (len_LB b) (by decide) (by decide) (len_LB b2) (rf_B b) (rf_B b2) rfl rfl rfl rfl rfl rfl (by decide) hd1 hcL (Nat.le_of_ble_eq_true rfl) ?_
  refine g_blk hcL kL_law_820 ?_
  refine ⟨h1, h2, h3, ?_⟩
  refine cLM (n := 112) (m := 17) (r := [.int y]) s9 rfl cwX9_type (show decode cL_law 846 = .ok (.invokevirtual 108, 3) by decide +kernel) (len_LB b2) (len_LM m) (by decide) (by decide) (len_LM m2) (rf_M m) (rf_M m2) rfl rfl rfl rfl rfl rfl (by decide) hd2 hcL (Nat.le_of_ble_eq_true rfl) ?_
  refine g_blk hcL kL_law_849 ?_
  exact ⟨fun _ => hk b2 m2 iv, fun h => absurd rfl h⟩
theorem lawc_clear (hK : K < 100000) (hK0 : 0 ≤ K) (hI : LwI K b m) (h1 : vp_in (i + Int32.ofInt 1) sc.1) (h2 : vp_in (i + Int32.ofInt 2) sc.1) (h3 : vp_in (i + Int32.ofInt 3) sc.1) (h4 : vp_in (i + Int32.ofInt 4) sc.1) (hk : ∀ b2 m2, LwI (K + 1) b2 m2 → GL sc 999 (LL i) [] (wLW b2 m2)) : GL sc 854 (LL i) [] (wLW b m) := by
  obtain ⟨y, b2, m2, d1, d2, hd1, hd2, s8, s9, iv⟩ := lw_clear_ hK hI 
  refine g_blk hcL kL_law_854 ?_
  refine cLB (n := 112) (r := []) s8 rfl cwX8_clear (show decode cL_law 855 = .ok (.invokevirtual 109, 3) by decide +kernel) (len_LB b) (by decide) (by decide) (len_LB b2) (rf_B b) (rf_B b2) rfl rfl rfl rfl rfl rfl (by decide) hd1 hcL (Nat.le_of_ble_eq_true rfl) ?_
  refine g_blk hcL kL_law_858 ?_
  refine cLM (n := 112) (m := 17) (r := [.int y]) s9 rfl cwX9_clear (show decode cL_law 859 = .ok (.invokevirtual 112, 3) by decide +kernel) (len_LB b2) (len_LM m) (by decide) (by decide) (len_LM m2) (rf_M m) (rf_M m2) rfl rfl rfl rfl rfl rfl (by decide) hd2 hcL (Nat.le_of_ble_eq_true rfl) ?_
  refine g_blk hcL kL_law_862 ?_
  exact ⟨fun _ => hk b2 m2 iv, fun h => absurd rfl h⟩
theorem lawc_fault (hK : K < 100000) (hK0 : 0 ≤ K) (hI : LwI K b m) (h1 : vp_in (i + Int32.ofInt 1) sc.1) (h2 : vp_in (i + Int32.ofInt 2) sc.1) (h3 : vp_in (i + Int32.ofInt 3) sc.1) (h4 : vp_in (i + Int32.ofInt 4) sc.1) (hk : ∀ b2 m2, LwI (K + 1) b2 m2 → GL sc 999 (LL i) [] (wLW b2 m2)) : GL sc 867 (LL i) [] (wLW b m) := by
  obtain ⟨y, b2, m2, d1, d2, hd1, hd2, s8, s9, iv⟩ := lw_fault_ hK hI 
  refine g_blk hcL kL_law_867 ?_
  refine cLB (n := 112) (r := []) s8 rfl cwX8_fault (show decode cL_law 868 = .ok (.invokevirtual 113, 3) by decide +kernel) (len_LB b) (by decide) (by decide) (len_LB b2) (rf_B b) (rf_B b2) rfl rfl rfl rfl rfl rfl (by decide) hd1 hcL (Nat.le_of_ble_eq_true rfl) ?_
  refine g_blk hcL kL_law_871 ?_
  refine cLM (n := 112) (m := 17) (r := [.int y]) s9 rfl cwX9_fault (show decode cL_law 872 = .ok (.invokevirtual 116, 3) by decide +kernel) (len_LB b2) (len_LM m) (by decide) (by decide) (len_LM m2) (rf_M m) (rf_M m2) rfl rfl rfl rfl rfl rfl (by decide) hd2 hcL (Nat.le_of_ble_eq_true rfl) ?_
  refine g_blk hcL kL_law_875 ?_
  exact ⟨fun _ => hk b2 m2 iv, fun h => absurd rfl h⟩
theorem lawc_judge (hK : K < 100000) (hK0 : 0 ≤ K) (hI : LwI K b m) (h1 : vp_in (i + Int32.ofInt 1) sc.1) (h2 : vp_in (i + Int32.ofInt 2) sc.1) (h3 : vp_in (i + Int32.ofInt 3) sc.1) (h4 : vp_in (i + Int32.ofInt 4) sc.1) (hk : ∀ b2 m2, LwI (K + 1) b2 m2 → GL sc 999 (LL i) [] (wLW b2 m2)) : GL sc 880 (LL i) [] (wLW b m) := by
  obtain ⟨y, b2, m2, d1, d2, hd1, hd2, s8, s9, iv⟩ := lw_judge_ hK hI 
  refine g_blk hcL kL_law_880 ?_
  refine cLB (n := 112) (r := []) s8 rfl cwX8_judge (show decode cL_law 881 = .ok (.invokevirtual 117, 3) by decide +kernel) (len_LB b) (by decide) (by decide) (len_LB b2) (rf_B b) (rf_B b2) rfl rfl rfl rfl rfl rfl (by decide) hd1 hcL (Nat.le_of_ble_eq_true rfl) ?_
  refine g_blk hcL kL_law_884 ?_
  refine cLM (n := 112) (m := 17) (r := [.int y]) s9 rfl cwX9_judge (show decode cL_law 885 = .ok (.invokevirtual 120, 3) by decide +kernel) (len_LB b2) (len_LM m) (by decide) (by decide) (len_LM m2) (rf_M m) (rf_M m2) rfl rfl rfl rfl rfl rfl (by decide) hd2 hcL (Nat.le_of_ble_eq_true rfl) ?_
  refine g_blk hcL kL_law_888 ?_
  exact ⟨fun _ => hk b2 m2 iv, fun h => absurd rfl h⟩
theorem lawc_image (hK : K < 100000) (hK0 : 0 ≤ K) (hI : LwI K b m) (h1 : vp_in (i + Int32.ofInt 1) sc.1) (h2 : vp_in (i + Int32.ofInt 2) sc.1) (h3 : vp_in (i + Int32.ofInt 3) sc.1) (h4 : vp_in (i + Int32.ofInt 4) sc.1) (hk : ∀ b2 m2, LwI (K + 1) b2 m2 → GL sc 999 (LL i) [] (wLW b2 m2)) : GL sc 893 (LL i) [] (wLW b m) := by
  obtain ⟨y, b2, m2, d1, d2, hd1, hd2, s8, s9, iv⟩ := lw_image_ hK hI (sc.2 (i + Int32.ofInt 1).toNatClampNeg)
  refine g_blk hcL kL_law_893 ?_
  refine ⟨h1, ?_⟩
  refine cLB (n := 112) (r := []) s8 rfl cwX8_image (show decode cL_law 899 = .ok (.invokevirtual 121, 3) by decide +kernel) (len_LB b) (by decide) (by decide) (len_LB b2) (rf_B b) (rf_B b2) rfl rfl rfl rfl rfl rfl (by decide) hd1 hcL (Nat.le_of_ble_eq_true rfl) ?_
  refine g_blk hcL kL_law_902 ?_
  refine ⟨h1, ?_⟩
  refine cLM (n := 112) (m := 17) (r := [.int y]) s9 rfl cwX9_image (show decode cL_law 908 = .ok (.invokevirtual 124, 3) by decide +kernel) (len_LB b2) (len_LM m) (by decide) (by decide) (len_LM m2) (rf_M m) (rf_M m2) rfl rfl rfl rfl rfl rfl (by decide) hd2 hcL (Nat.le_of_ble_eq_true rfl) ?_
  refine g_blk hcL kL_law_911 ?_
  exact ⟨fun _ => hk b2 m2 iv, fun h => absurd rfl h⟩
theorem lawc_from (hK : K < 100000) (hK0 : 0 ≤ K) (hI : LwI K b m) (h1 : vp_in (i + Int32.ofInt 1) sc.1) (h2 : vp_in (i + Int32.ofInt 2) sc.1) (h3 : vp_in (i + Int32.ofInt 3) sc.1) (h4 : vp_in (i + Int32.ofInt 4) sc.1) (hk : ∀ b2 m2, LwI (K + 1) b2 m2 → GL sc 999 (LL i) [] (wLW b2 m2)) : GL sc 916 (LL i) [] (wLW b m) := by
  obtain ⟨y, b2, m2, d1, d2, hd1, hd2, s8, s9, iv⟩ := lw_from_ hK hI (sc.2 (i + Int32.ofInt 1).toNatClampNeg)
  refine g_blk hcL kL_law_916 ?_
  refine ⟨h1, ?_⟩
  refine cLB (n := 112) (r := []) s8 rfl cwX8_from (show decode cL_law 922 = .ok (.invokevirtual 125, 3) by decide +kernel) (len_LB b) (by decide) (by decide) (len_LB b2) (rf_B b) (rf_B b2) rfl rfl rfl rfl rfl rfl (by decide) hd1 hcL (Nat.le_of_ble_eq_true rfl) ?_
  refine g_blk hcL kL_law_925 ?_
  refine ⟨h1, ?_⟩
  refine cLM (n := 112) (m := 17) (r := [.int y]) s9 rfl cwX9_from (show decode cL_law 931 = .ok (.invokevirtual 128, 3) by decide +kernel) (len_LB b2) (len_LM m) (by decide) (by decide) (len_LM m2) (rf_M m) (rf_M m2) rfl rfl rfl rfl rfl rfl (by decide) hd2 hcL (Nat.le_of_ble_eq_true rfl) ?_
  refine g_blk hcL kL_law_934 ?_
  exact ⟨fun _ => hk b2 m2 iv, fun h => absurd rfl h⟩
theorem lawc_status (hK : K < 100000) (hK0 : 0 ≤ K) (hI : LwI K b m) (h1 : vp_in (i + Int32.ofInt 1) sc.1) (h2 : vp_in (i + Int32.ofInt 2) sc.1) (h3 : vp_in (i + Int32.ofInt 3) sc.1) (h4 : vp_in (i + Int32.ofInt 4) sc.1) (hk : ∀ b2 m2, LwI (K + 1) b2 m2 → GL sc 999 (LL i) [] (wLW b2 m2)) : GL sc 939 (LL i) [] (wLW b m) := by
  obtain ⟨y, b2, m2, d1, d2, hd1, hd2, s8, s9, iv⟩ := lw_status_ hK hI (sc.2 (i + Int32.ofInt 1).toNatClampNeg)
  refine g_blk hcL kL_law_939 ?_
  refine ⟨h1, ?_⟩
  refine cLB (n := 112) (r := []) s8 rfl cwX8_status (show decode cL_law 945 = .ok (.invokevirtual 129, 3) by decide +kernel) (len_LB b) (by decide) (by decide) (len_LB b2) (rf_B b) (rf_B b2) rfl rfl rfl rfl rfl rfl (by decide) hd1 hcL (Nat.le_of_ble_eq_true rfl) ?_
  refine g_blk hcL kL_law_948 ?_
  refine ⟨h1, ?_⟩
  refine cLM (n := 112) (m := 17) (r := [.int y]) s9 rfl cwX9_status (show decode cL_law 954 = .ok (.invokevirtual 132, 3) by decide +kernel) (len_LB b2) (len_LM m) (by decide) (by decide) (len_LM m2) (rf_M m) (rf_M m2) rfl rfl rfl rfl rfl rfl (by decide) hd2 hcL (Nat.le_of_ble_eq_true rfl) ?_
  refine g_blk hcL kL_law_957 ?_
  exact ⟨fun _ => hk b2 m2 iv, fun h => absurd rfl h⟩
theorem lawc_count (hK : K < 100000) (hK0 : 0 ≤ K) (hI : LwI K b m) (h1 : vp_in (i + Int32.ofInt 1) sc.1) (h2 : vp_in (i + Int32.ofInt 2) sc.1) (h3 : vp_in (i + Int32.ofInt 3) sc.1) (h4 : vp_in (i + Int32.ofInt 4) sc.1) (hk : ∀ b2 m2, LwI (K + 1) b2 m2 → GL sc 999 (LL i) [] (wLW b2 m2)) : GL sc 962 (LL i) [] (wLW b m) := by
  obtain ⟨y, b2, m2, d1, d2, hd1, hd2, s8, s9, iv⟩ := lw_count_ hK hI (sc.2 (i + Int32.ofInt 1).toNatClampNeg)
  refine g_blk hcL kL_law_962 ?_
  refine ⟨h1, ?_⟩
  refine cLB (n := 112) (r := []) s8 rfl cwX8_count (show decode cL_law 968 = .ok (.invokevirtual 133, 3) by decide +kernel) (len_LB b) (by decide) (by decide) (len_LB b2) (rf_B b) (rf_B b2) rfl rfl rfl rfl rfl rfl (by decide) hd1 hcL (Nat.le_of_ble_eq_true rfl) ?_
  refine g_blk hcL kL_law_971 ?_
  refine ⟨h1, ?_⟩
  refine cLM (n := 112) (m := 17) (r := [.int y]) s9 rfl cwX9_count (show decode cL_law 977 = .ok (.invokevirtual 136, 3) by decide +kernel) (len_LB b2) (len_LM m) (by decide) (by decide) (len_LM m2) (rf_M m) (rf_M m2) rfl rfl rfl rfl rfl rfl (by decide) hd2 hcL (Nat.le_of_ble_eq_true rfl) ?_
  refine g_blk hcL kL_law_980 ?_
  exact ⟨fun _ => hk b2 m2 iv, fun h => absurd rfl h⟩
theorem lawc_digest (hK : K < 100000) (hK0 : 0 ≤ K) (hI : LwI K b m) (h1 : vp_in (i + Int32.ofInt 1) sc.1) (h2 : vp_in (i + Int32.ofInt 2) sc.1) (h3 : vp_in (i + Int32.ofInt 3) sc.1) (h4 : vp_in (i + Int32.ofInt 4) sc.1) (hk : ∀ b2 m2, LwI (K + 1) b2 m2 → GL sc 999 (LL i) [] (wLW b2 m2)) : GL sc 985 (LL i) [] (wLW b m) := by
  obtain ⟨y, b2, m2, d1, d2, hd1, hd2, s8, s9, iv⟩ := lw_digest_ hK hI 
  refine g_blk hcL kL_law_985 ?_
  refine cLB (n := 112) (r := []) s8 rfl cwX8_digest (show decode cL_law 986 = .ok (.invokevirtual 137, 3) by decide +kernel) (len_LB b) (by decide) (by decide) (len_LB b2) (rf_B b) (rf_B b2) rfl rfl rfl rfl rfl rfl (by decide) hd1 hcL (Nat.le_of_ble_eq_true rfl) ?_
  refine g_blk hcL kL_law_989 ?_
  refine cLM (n := 112) (m := 17) (r := [.long y]) s9 rfl cwX9_digest (show decode cL_law 990 = .ok (.invokevirtual 141, 3) by decide +kernel) (len_LB b2) (len_LM m) (by decide) (by decide) (len_LM m2) (rf_M m) (rf_M m2) rfl rfl rfl rfl rfl rfl (by decide) hd2 hcL (Nat.le_of_ble_eq_true rfl) ?_
  refine g_blk hcL kL_law_993 ?_
  exact ⟨fun _ => hk b2 m2 iv, fun h => absurd (lg_cmp_self y) h⟩
end
