theorem nI_ad (a b : Nat) : nI a + nI b = nI (a + b) := (Int32.ofNat_add a b).symm
theorem law_in {j n q : Nat} (h : 5 * j + 5 ≤ n) (hn : n ≤ 2560) (hq : q < 5) : vp_in (nI (5 * j) + nI q) n := by
  rw [nI_ad]
  exact nI_in (by omega) (by omega)
theorem law_go {j n : Nat} (hn : n ≤ 2560) (hj : j ≤ 513) (h : ¬ Int32.ofNat n - Int32.ofInt 5 < nI (5 * j)) : 5 * j + 5 ≤ n := by
  have e1 : (nI (5 * j)).toInt = ((5 * j : Nat) : Int) := nI_toInt (by omega)
  have e2 : (Int32.ofNat n).toInt = (n : Int) := nI_toInt (n := n) (by omega)
  have e3 : (Int32.ofNat n - Int32.ofInt 5).toInt = (n : Int) - 5 := by
    rw [Int32.toInt_sub, e2]
    show Int.bmod ((n : Int) - 5) (2 ^ 32) = _
    refine Int.bmod_eq_of_le (by omega) (by omega)
  rw [Int32.lt_iff_toInt_lt, e1, e3] at h
  omega
set_option maxRecDepth 8000 in
theorem law_loop (sc : SC) (hL : sc.1 ≤ 2560) : ∀ (n j : Nat) (b : LwR) (m : Rec), n + j = 513 → LwI (nI j) b m → GL sc 18 (LL (nI (5 * j))) [] (wLW b m) := by
  intro n
  induction n with
  | zero =>
    intro j b m hj hI
    refine g_blk hcL kL_law_18 ?_
    refine ⟨fun _ => ?_, fun h => ?_⟩
    · refine g_blk hcL kL_law_1005 ?_
      exact ⟨fun _ => Or.inr rfl, rfl⟩
    · have := law_go hL (by omega) h
      omega
  | succ n ih =>
    intro j b m hj hI
    refine g_blk hcL kL_law_18 ?_
    refine ⟨fun _ => ?_, fun h => ?_⟩
    · refine g_blk hcL kL_law_1005 ?_
      exact ⟨fun _ => Or.inr rfl, rfl⟩
    · have hg := law_go hL (by omega) h
      have hK : nI j < 100000 := nI_lt (a := j) (b := 100000) (by omega) (by omega)
      have hK0 : 0 ≤ nI j := nI_pos' (by omega)
      have h1 : vp_in (nI (5 * j) + Int32.ofInt 1) sc.1 := law_in (q := 1) hg hL (by omega)
      have h2 : vp_in (nI (5 * j) + Int32.ofInt 2) sc.1 := law_in (q := 2) hg hL (by omega)
      have h3 : vp_in (nI (5 * j) + Int32.ofInt 3) sc.1 := law_in (q := 3) hg hL (by omega)
      have h4 : vp_in (nI (5 * j) + Int32.ofInt 4) sc.1 := law_in (q := 4) hg hL (by omega)
      have hk : ∀ b2 m2, LwI (nI j + 1) b2 m2 → GL sc 999 (LL (nI (5 * j))) [] (wLW b2 m2) := by
        intro b2 m2 hI2
        refine g_blk hcL kL_law_999 ?_
        rw [← nI_succ] at hI2
        have hi := ih (j + 1) b2 m2 (by omega) hI2
        have ei : nI (5 * (j + 1)) = nI (5 * j) + Int32.ofInt 5 := by
          rw [show 5 * (j + 1) = 5 * j + 5 by omega, ← nI_ad]
          rfl
        rw [ei] at hi
        exact hi
      refine g_blk hcL kL_law_26 ?_
      refine ⟨nI_in (by omega) (by omega), ?_⟩
      refine g_tsw (show decode cL_law 32 = .ok (.tableswitch 967 0 29 #[136, 169, 192, 245, 278, 311, 354, 377, 410, 433, 486, 529, 552, 565, 588, 621, 634, 647, 670, 713, 736, 759, 822, 835, 848, 861, 884, 907, 930, 953], 136) by decide +kernel) (by decide) (by decide +kernel) (by decide) (fun _ => ?_) (fun x o hj hx => ?_)
      · exact hk b m (inv_k hK hI)
      · have hx30 : x < 30 := (Array.getElem?_eq_some_iff.mp hj).1
        clear hx h hg ih
        match x, hx30, hj with
        | 0, _, hj => cases (show some (136 : Int) = some o from hj); exact lawc_board hK hK0 hI h1 h2 h3 h4 hk
        | 1, _, hj => cases (show some (169 : Int) = some o from hj); exact lawc_hole hK hK0 hI h1 h2 h3 h4 hk
        | 2, _, hj => cases (show some (192 : Int) = some o from hj); exact lawc_man hK hK0 hI h1 h2 h3 h4 hk
        | 3, _, hj => cases (show some (245 : Int) = some o from hj); exact lawc_put hK hK0 hI h1 h2 h3 h4 hk
        | 4, _, hj => cases (show some (278 : Int) = some o from hj); exact lawc_cell hK hK0 hI h1 h2 h3 h4 hk
        | 5, _, hj => cases (show some (311 : Int) = some o from hj); exact lawc_pile hK hK0 hI h1 h2 h3 h4 hk
        | 6, _, hj => cases (show some (354 : Int) = some o from hj); exact lawc_strength hK hK0 hI h1 h2 h3 h4 hk
        | 7, _, hj => cases (show some (377 : Int) = some o from hj); exact lawc_ruler hK hK0 hI h1 h2 h3 h4 hk
        | 8, _, hj => cases (show some (410 : Int) = some o from hj); exact lawc_where hK hK0 hI h1 h2 h3 h4 hk
        | 9, _, hj => cases (show some (433 : Int) = some o from hj); exact lawc_step hK hK0 hI h1 h2 h3 h4 hk
        | 10, _, hj => cases (show some (486 : Int) = some o from hj); exact lawc_fold hK hK0 hI h1 h2 h3 h4 hk
        | 11, _, hj => cases (show some (529 : Int) = some o from hj); exact lawc_state hK hK0 hI h1 h2 h3 h4 hk
        | 12, _, hj => cases (show some (552 : Int) = some o from hj); exact lawc_undo hK hK0 hI h1 h2 h3 h4 hk
        | 13, _, hj => cases (show some (565 : Int) = some o from hj); exact lawc_folds hK hK0 hI h1 h2 h3 h4 hk
        | 14, _, hj => cases (show some (588 : Int) = some o from hj); exact lawc_leaves hK hK0 hI h1 h2 h3 h4 hk
        | 15, _, hj => cases (show some (621 : Int) = some o from hj); exact lawc_habit hK hK0 hI h1 h2 h3 h4 hk
        | 16, _, hj => cases (show some (634 : Int) = some o from hj); exact lawc_safe hK hK0 hI h1 h2 h3 h4 hk
        | 17, _, hj => cases (show some (647 : Int) = some o from hj); exact lawc_small hK hK0 hI h1 h2 h3 h4 hk
        | 18, _, hj => cases (show some (670 : Int) = some o from hj); exact lawc_reach hK hK0 hI h1 h2 h3 h4 hk
        | 19, _, hj => cases (show some (713 : Int) = some o from hj); exact lawc_wins hK hK0 hI h1 h2 h3 h4 hk
        | 20, _, hj => cases (show some (736 : Int) = some o from hj); exact lawc_best hK hK0 hI h1 h2 h3 h4 hk
        | 21, _, hj => cases (show some (759 : Int) = some o from hj); exact lawc_type hK hK0 hI h1 h2 h3 h4 hk
        | 22, _, hj => cases (show some (822 : Int) = some o from hj); exact lawc_clear hK hK0 hI h1 h2 h3 h4 hk
        | 23, _, hj => cases (show some (835 : Int) = some o from hj); exact lawc_fault hK hK0 hI h1 h2 h3 h4 hk
        | 24, _, hj => cases (show some (848 : Int) = some o from hj); exact lawc_judge hK hK0 hI h1 h2 h3 h4 hk
        | 25, _, hj => cases (show some (861 : Int) = some o from hj); exact lawc_image hK hK0 hI h1 h2 h3 h4 hk
        | 26, _, hj => cases (show some (884 : Int) = some o from hj); exact lawc_from hK hK0 hI h1 h2 h3 h4 hk
        | 27, _, hj => cases (show some (907 : Int) = some o from hj); exact lawc_status hK hK0 hI h1 h2 h3 h4 hk
        | 28, _, hj => cases (show some (930 : Int) = some o from hj); exact lawc_count hK hK0 hI h1 h2 h3 h4 hk
        | 29, _, hj => cases (show some (953 : Int) = some o from hj); exact lawc_digest hK hK0 hI h1 h2 h3 h4 hk
