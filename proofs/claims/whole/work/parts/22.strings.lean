/-! the two text constants: length() and charAt(k) -/
abbrev mJ0_coder : MI := (12, yJ0_coder_7d493, cJ0_coder_7d493, 1, some .byte)
abbrev mJ0_isLatin1 : MI := (12, yJ0_isLatin1_aae02, cJ0_isLatin1_aae02, 1, some .boolean)
abbrev mJ0_length : MI := (12, yJ0_length_8abf5, cJ0_length_8abf5, 1, some .int)
abbrev mJ0_charAt : MI := (12, yJ0_charAt_5068e, cJ0_charAt_5068e, 2, some .char)
abbrev mJ0_checkIndex : MI := (12, yJ0_checkIndex_df160, cJ0_checkIndex_df160, 2, none)
abbrev mJ1_charAt : MI := (12, yJ1_charAt_3b067, cJ1_charAt_3b067, 2, some .char)
abbrev mJ3_checkIndex : MI := (12, yJ3_checkIndex_8e157, cJ3_checkIndex_8e157, 3, some .int)
theorem cmJ0_coder : Cond.code mJ0_coder.2.1 mJ0_coder.2.2.1 mJ0_coder.2.2.2.1 mJ0_coder.2.2.2.2 ∈ gw := List.mem_filter.mpr ⟨tabN_mem (j := 4) (k := 108) rfl, rfl⟩
theorem cmJ0_isLatin1 : Cond.code mJ0_isLatin1.2.1 mJ0_isLatin1.2.2.1 mJ0_isLatin1.2.2.2.1 mJ0_isLatin1.2.2.2.2 ∈ gw := List.mem_filter.mpr ⟨tabN_mem (j := 4) (k := 118) rfl, rfl⟩
theorem cmJ0_length : Cond.code mJ0_length.2.1 mJ0_length.2.2.1 mJ0_length.2.2.2.1 mJ0_length.2.2.2.2 ∈ gw := List.mem_filter.mpr ⟨tabN_mem (j := 4) (k := 104) rfl, rfl⟩
theorem cmJ0_charAt : Cond.code mJ0_charAt.2.1 mJ0_charAt.2.2.1 mJ0_charAt.2.2.2.1 mJ0_charAt.2.2.2.2 ∈ gw := List.mem_filter.mpr ⟨tabN_mem (j := 4) (k := 114) rfl, rfl⟩
theorem cmJ0_checkIndex : Cond.code mJ0_checkIndex.2.1 mJ0_checkIndex.2.2.1 mJ0_checkIndex.2.2.2.1 mJ0_checkIndex.2.2.2.2 ∈ gw := List.mem_filter.mpr ⟨tabN_mem (j := 4) (k := 124) rfl, rfl⟩
theorem cmJ1_charAt : Cond.code mJ1_charAt.2.1 mJ1_charAt.2.2.1 mJ1_charAt.2.2.2.1 mJ1_charAt.2.2.2.2 ∈ gw := List.mem_filter.mpr ⟨tabN_mem (j := 4) (k := 121) rfl, rfl⟩
theorem cmJ3_checkIndex : Cond.code mJ3_checkIndex.2.1 mJ3_checkIndex.2.2.1 mJ3_checkIndex.2.2.2.1 mJ3_checkIndex.2.2.2.2 ∈ gw := List.mem_filter.mpr ⟨tabN_mem (j := 4) (k := 129) rfl, rfl⟩
section JS
variable {sc : SC} {d mc ms n0 : Nat} {mi : MI} {P : Pst} {kc ks : Nat} {pc : Nat} {L : List (Option Value)} {st r : List Value} {w : List va_E}
/-- a static method of the JDK, without a world -/
theorem g_cJS {i n d1 : Nat} {mi1 : MI} {av : List Value} {x : Option Value} (hl : Cond.methodLink mi.2.1.cls i mi1.2.1 ∈ gw) (hst0 : Cond.static mi1.2.1 ∈ gw) (hin : Cond.initialized mi1.2.1.cls ∈ gw) (hcode : Cond.code mi1.2.1 mi1.2.2.1 mi1.2.2.2.1 mi1.2.2.2.2 ∈ gw) (hnm : mi1.2.1.cls ≠ "java/lang/invoke/MethodHandle" ∧ mi1.2.1.cls ≠ "java/lang/invoke/VarHandle") (hpn : (parseMethodDescriptor mi1.2.1.desc).map (fun d => d.parameters.length) = some n) (hmx : mi1.2.2.2.1 ≤ 21) (hd1 : d1 < d) (hkc : kc ≤ mc ∧ ks ≤ ms) (hst : st = (av.map (rnv [])).reverse ++ r) (hav : av.length = n) (hr : catS r ≤ 8) (hd : decode mi.2.2.1 pc = .ok (.invokestatic i, 3)) (hs : Spec d1 0 0 mi1 av [] (Ret x [])) (kk : Good sc d mc ms n0 mi P kc ks (pc + 3) L ((x.map (rnv [])).toList ++ r) w) : Good sc d mc ms n0 mi P kc ks pc L st w := by
  intro p l e R s m args below meth c D cy ad0 A Q C H locs ls ad ha hn hm hP hD hS hl0
  refine call_go (P1 := Ret x []) (av := (av.map (trv (fun k => ad (sg [] k)))).toArray) C ha hn hm hP hD hS hl0 [] [] rfl rfl (Nat.zero_le _) ?_ (fun v w2 h => by obtain ⟨rfl, rfl⟩ := h; exact ⟨rfl, kk⟩)
  have hpre := call_pre C ha hP hD hS [] [] rfl rfl (Nat.zero_le _) av
  have hRm := call_room C.2.2.2.2.2.2.2.2.1 hd1 hmx
  have hstk : st.map (trv ad) = (av.map (trv (fun k => ad (sg [] k)))).reverse ++ r.map (trv ad) := by
    rw [hst, List.map_append, List.map_reverse, List.map_map]
    congr 2
    exact List.map_congr_left fun v _ => trv_rnv ad [] v
  have hM := hs l sc D cy (fun k => ad (sg [] k)) H.size
  have hcells : kc + 0 ≤ R.cells ∧ ks + 0 ≤ R.slots := ⟨Nat.le_trans hkc.1 C.2.2.2.2.2.2.2.2.1.2.2.1, Nat.le_trans hkc.2 C.2.2.2.2.2.2.2.2.1.2.2.2⟩
  have hgi : GoodIn gw (va_wsS mi.2.1.cls i mi1.2.1 (wsM mi1)) := goodIn_cons hl rfl (goodIn_cons hst0 rfl (goodIn_cons hin rfl (goodIn_M hcode)))
  exact va_runS (cc := mi.2.2.1) (nL := mi.2.2.2.1) (Ts := gw) (own := mi.2.1.cls) (As := av.map (trv (fun k => ad (sg [] k)))) ⟨C.1, C.2.1, C.2.2.1, C.2.2.2.1, C.2.2.2.2.1⟩ hM (va_cwS n C.2.2.2.2.1 hgi rfl rfl rfl ⟨hnm.1, hnm.2, hpn⟩ hRm) ⟨blind, hpre⟩ rfl (by rw [List.length_map]; exact hav) hl0.1 hstk (lv_room (cat_r hr)) hd hcells
/-- a method of one of the two texts -/
theorem g_cJV {i n d1 q : Nat} {mi1 : MI} {av : List Value} {x : Option Value} (hq : q < 2) (hcl : mi1.2.1.cls = "java/lang/String") (hl : Cond.methodLink mi.2.1.cls i mi1.2.1 ∈ gw) (hst0 : Cond.instanceMethod mi1.2.1 ∈ gw) (hsel : Cond.selects mi1.2.1.cls mi1.2.1 mi1.2.1 ∈ gw) (hin : Cond.initialized mi1.2.1.cls ∈ gw) (hcode : Cond.code mi1.2.1 mi1.2.2.1 mi1.2.2.2.1 mi1.2.2.2.2 ∈ gw) (hpn : (parseMethodDescriptor mi1.2.1.desc).map (fun d => d.parameters.length) = some n) (hmx : mi1.2.2.2.1 ≤ 21) (hd1 : d1 < d) (hkc : kc ≤ mc ∧ ks ≤ ms) (hst : st = (av.map (rnv [])).reverse ++ .ref (1002 + q) :: r) (hav : av.length = n) (hr : catS r ≤ 8) (hd : decode mi.2.2.1 pc = .ok (.invokevirtual i, 3)) (hs : Spec d1 0 0 mi1 (.ref (1002 + q) :: av) [] (Ret x [])) (kk : Good sc d mc ms n0 mi P kc ks (pc + 3) L ((x.map (rnv [])).toList ++ r) w) : Good sc d mc ms n0 mi P kc ks pc L st w := by
  intro p l e R s m args below meth c D cy ad0 A Q C H locs ls ad ha hn hm hP hD hS hl0
  have hsg : sg [] (1002 + q) = 1002 + q := sg_hi [] (by omega)
  refine call_go (P1 := Ret x []) (av := (Value.ref (ad (1002 + q)) :: av.map (trv (fun k => ad (sg [] k)))).toArray) C ha hn hm hP hD hS hl0 [] [] rfl rfl (Nat.zero_le _) ?_ (fun v w2 h => by obtain ⟨rfl, rfl⟩ := h; exact ⟨rfl, kk⟩)
  have hpre := call_pre C ha hP hD hS [] [] rfl rfl (Nat.zero_le _) (.ref (1002 + q) :: av)
  have hRm := call_room C.2.2.2.2.2.2.2.2.1 hd1 hmx
  have hstk : st.map (trv ad) = (av.map (trv (fun k => ad (sg [] k)))).reverse ++ .ref (ad (1002 + q)) :: r.map (trv ad) := by
    rw [hst, List.map_append, List.map_reverse, List.map_map, List.map_cons]
    congr 2
    exact List.map_congr_left fun v _ => trv_rnv ad [] v
  have hM := hs l sc D cy (fun k => ad (sg [] k)) H.size
  have hav2 : (Value.ref (1002 + q) :: av).map (trv (fun k => ad (sg [] k))) = Value.ref (ad (1002 + q)) :: av.map (trv (fun k => ad (sg [] k))) := by
    show Value.ref (ad (sg [] (1002 + q))) :: _ = _
    rw [hsg]
  rw [hav2] at hM hpre
  have hcells : kc + 0 ≤ R.cells ∧ ks + 0 ≤ R.slots := ⟨Nat.le_trans hkc.1 C.2.2.2.2.2.2.2.2.1.2.2.1, Nat.le_trans hkc.2 C.2.2.2.2.2.2.2.2.1.2.2.2⟩
  have hrc : ∃ cell : Cell, H[ad (1002 + q)]? = some cell ∧ cell.vm.isStatics = false ∧ s.vm.findClass mi1.2.1.cls = some cell.cls := by
    have h := vk_recv (i := q) C.2.2.2.2.2.2.2.1.2.2.2.1.1 hq hS
    rw [← ha.1 (1002 + q) (Or.inr (by omega))] at h
    rw [hcl]
    exact h
  have hgi : GoodIn gw (wsV mi.2.1.cls i mi1.2.1.cls mi1.2.1 (wsM mi1)) := goodIn_cons hl rfl (goodIn_cons hst0 rfl (goodIn_cons hsel rfl (goodIn_cons hin rfl (goodIn_M hcode))))
  exact va_runV (cc := mi.2.2.1) (nL := mi.2.2.2.1) (Ts := gw) (own := mi.2.1.cls) (C := mi1.2.1.cls) (b := ad (1002 + q)) (As := av.map (trv (fun k => ad (sg [] k)))) ⟨C.1, C.2.1, C.2.2.1, C.2.2.2.1, C.2.2.2.2.1⟩ hM (cwV n C.2.2.2.2.1 hgi rfl rfl rfl ⟨rfl, by rw [hcl]; decide, by rw [hcl]; decide, hpn⟩ hRm) ⟨blind, hrc, hpre⟩ rfl (by rw [List.length_map]; exact hav) hl0.1 hstk (lv_room (cat_r hr)) hd hcells
end JS
theorem s_coder (q : Nat) (hq : q < 2) : Spec 0 0 0 mJ0_coder [.ref (1002 + q)] [] (RI 0 []) := by
  refine Sof fun sc => ?_
  refine g_getCS (i := 38) (gw_mem (by decide +kernel)) (by decide +kernel) ?_
  refine g_if_eq (off := 10) (by decide) (by decide +kernel) (fun h => absurd h (by decide)) (fun _ => ?_)
  refine g_aload_n (n := 0) (x := 1002 + q) rfl (by decide +kernel) ?_
  refine g_strC (i := 15) hq (gw_mem (by decide +kernel)) (by decide +kernel) ?_
  refine g_goto (off := 4) (by decide) (by decide +kernel) ?_
  exact g_irett .byte (by decide +kernel) rfl (by decide) hz0 ⟨rfl, rfl⟩
theorem s_isLatin1 (q : Nat) (hq : q < 2) : Spec 0 0 0 mJ0_isLatin1 [.ref (1002 + q)] [] (RI 1 []) := by
  refine Sof fun sc => ?_
  refine g_getCS (i := 38) (gw_mem (by decide +kernel)) (by decide +kernel) ?_
  refine g_if_eq (off := 14) (by decide) (by decide +kernel) (fun h => absurd h (by decide)) (fun _ => ?_)
  refine g_aload_n (n := 0) (x := 1002 + q) rfl (by decide +kernel) ?_
  refine g_strC (i := 15) hq (gw_mem (by decide +kernel)) (by decide +kernel) ?_
  refine g_if_ne (off := 7) (by decide) (by decide +kernel) (fun h => absurd rfl h) (fun _ => ?_)
  refine g_iconst (n := 1) (by decide +kernel) ?_
  refine g_goto (off := 4) (by decide) (by decide +kernel) ?_
  exact g_irett .boolean (by decide +kernel) rfl (by decide) hz0 ⟨rfl, rfl⟩
theorem s_strlen (q : Nat) (hq : q < 2) : Spec 1 0 0 mJ0_length [.ref (1002 + q)] [] (RI 4 []) := by
  refine Sof fun sc => ?_
  refine g_aload_n (n := 0) (x := 1002 + q) rfl (by decide +kernel) ?_
  refine g_strV (i := 9) hq (gw_mem (by decide +kernel)) (by decide +kernel) ?_
  refine g_strL hq (by decide +kernel) ?_
  refine g_aload_n (n := 0) (x := 1002 + q) rfl (by decide +kernel) ?_
  refine g_cJV (i := 335) (mi1 := mJ0_coder) (av := []) (n := 0) hq rfl (gw_mem (by decide +kernel)) (gw_mem (by decide +kernel)) (gw_mem (by decide +kernel)) (gw_mem (by decide +kernel)) cmJ0_coder (by decide +kernel) (by decide) (Nat.lt_succ_self 0) hz0 rfl rfl (Nat.le_of_ble_eq_true rfl) (by decide +kernel) (s_coder q hq) ?_
  refine g_ishr (by decide +kernel) ?_
  exact g_irett .int (by decide +kernel) rfl rfl hz0 ⟨by decide, rfl⟩
theorem s_pcheck (i : Int32) (X : Value) (hX : X.category = 1) (hi : vp_in i 4) : Spec 0 0 0 mJ3_checkIndex [.int i, .int 4, X] [] (RI i []) := by
  have hc : catS [.int i, .int 4, X] ≤ 3 := by
    show 1 + (1 + (X.category + 0)) ≤ 3
    omega
  have hlt : i.toNatClampNeg < 4 := Nat.not_le.mp fun z => hi (Or.inr z)
  have h0 : ¬ i < 0 := fun z => hi (Or.inl z)
  have h4 : i < 4 := by
    obtain ⟨j, hj, e⟩ := vp_in_of hi (by decide)
    subst e
    exact nI_lt hj (by decide)
  refine Sof (fun sc => ?_) (hav := hc)
  have hL : ∃ y, padL mJ3_checkIndex.2.2.2.1 (entL [.int i, .int 4, X]) = [some (.int i), some (.int 4), y] := by
    cases X <;> first | exact ⟨_, rfl⟩ | (simp [Value.category] at hX)
  obtain ⟨y, hL⟩ := hL
  rw [hL]
  refine g_iload_n (n := 0) (x := i) rfl (by decide +kernel) ?_
  refine g_if_lt (off := 8) (by decide) (by decide +kernel) (fun h => absurd h h0) (fun _ => ?_)
  refine g_iload_n (n := 0) (x := i) rfl (by decide +kernel) ?_
  refine g_iload_n (n := 1) (x := 4) rfl (by decide +kernel) ?_
  refine g_icmp_lt (off := 10) (by decide) (by decide +kernel) (fun _ => ?_) (fun h => absurd h4 h)
  refine g_iload_n (n := 0) (x := i) rfl (by decide +kernel) ?_
  exact g_irett .int (by decide +kernel) rfl rfl hz0 ⟨rfl, rfl⟩
theorem s_scheck (i : Int32) (hi : vp_in i 4) : Spec 1 0 0 mJ0_checkIndex [.int i, .int 4] [] (RV []) := by
  refine Sof fun sc => ?_
  refine g_iload_n (n := 0) (x := i) rfl (by decide +kernel) ?_
  refine g_iload_n (n := 1) (x := 4) rfl (by decide +kernel) ?_
  refine g_getSF (i := 1053) (gw_mem (by decide +kernel)) (by decide +kernel) ?_ ?_
  · refine g_cJS (i := 1059) (mi1 := mJ3_checkIndex) (av := [.int i, .int 4, .null]) (n := 3) (gw_mem (by decide +kernel)) (gw_mem (by decide +kernel)) (gw_mem (by decide +kernel)) cmJ3_checkIndex (by decide) (by decide +kernel) (by decide) (Nat.lt_succ_self 0) hz0 rfl rfl (Nat.le_of_ble_eq_true rfl) (by decide +kernel) (s_pcheck i .null rfl hi) ?_
    refine g_popi (by decide +kernel) ?_
    exact g_ret (by decide +kernel) rfl hz0 ⟨rfl, rfl⟩
  · refine g_cJS (i := 1059) (mi1 := mJ3_checkIndex) (av := [.int i, .int 4, .ref 1007]) (n := 3) (gw_mem (by decide +kernel)) (gw_mem (by decide +kernel)) (gw_mem (by decide +kernel)) cmJ3_checkIndex (by decide) (by decide +kernel) (by decide) (Nat.lt_succ_self 0) hz0 rfl rfl (Nat.le_of_ble_eq_true rfl) (by decide +kernel) (s_pcheck i (.ref 1007) rfl hi) ?_
    refine g_popi (by decide +kernel) ?_
    exact g_ret (by decide +kernel) rfl hz0 ⟨rfl, rfl⟩
theorem chB_c (q j : Nat) (hq : q < 2) (hj : j < 4) : ((chB q j &&& (Int16.ofInt 255).toInt32).toUInt32 % 65536).toInt32 = chB q j ∧ narrow .char (.int (chB q j)) = .int (chB q j) := by
  match q, hq, j, hj with
  | 0, _, 0, _ => decide
  | 0, _, 1, _ => decide
  | 0, _, 2, _ => decide
  | 0, _, 3, _ => decide
  | 1, _, 0, _ => decide
  | 1, _, 1, _ => decide
  | 1, _, 2, _ => decide
  | 1, _, 3, _ => decide
theorem s_lcharAt (q : Nat) (i : Int32) (hq : q < 2) (hi : vp_in i 4) : Spec 2 0 0 mJ1_charAt [.ref (1004 + q), .int i] [] (RI (chB q i.toNatClampNeg) []) := by
  have hlt : i.toNatClampNeg < 4 := Nat.not_le.mp fun z => hi (Or.inr z)
  refine Sof fun sc => ?_
  refine g_iload_n (n := 1) (x := i) rfl (by decide +kernel) ?_
  refine g_aload_n (n := 0) (x := 1004 + q) rfl (by decide +kernel) ?_
  refine g_strL hq (by decide +kernel) ?_
  refine g_cJS (i := 9) (mi1 := mJ0_checkIndex) (av := [.int i, .int 4]) (n := 2) (gw_mem (by decide +kernel)) (gw_mem (by decide +kernel)) (gw_mem (by decide +kernel)) cmJ0_checkIndex (by decide) (by decide +kernel) (by decide) (Nat.lt_succ_self 1) hz0 rfl rfl (Nat.le_of_ble_eq_true rfl) (by decide +kernel) (s_scheck i hi) ?_
  refine g_aload_n (n := 0) (x := 1004 + q) rfl (by decide +kernel) ?_
  refine g_iload_n (n := 1) (x := i) rfl (by decide +kernel) ?_
  refine g_strB hq hi (by decide +kernel) ?_
  refine g_sipush (n := 255) (by decide +kernel) ?_
  refine g_iand (by decide +kernel) ?_
  refine g_i2c (by decide +kernel) ?_
  rw [(chB_c q _ hq hlt).1]
  exact g_irett .char (by decide +kernel) rfl (chB_c q _ hq hlt).2 hz0 ⟨rfl, rfl⟩
theorem s_charAt (q : Nat) (i : Int32) (hq : q < 2) (hi : vp_in i 4) : Spec 3 0 0 mJ0_charAt [.ref (1002 + q), .int i] [] (RI (chB q i.toNatClampNeg) []) := by
  have hlt : i.toNatClampNeg < 4 := Nat.not_le.mp fun z => hi (Or.inr z)
  refine Sof fun sc => ?_
  refine g_aload_n (n := 0) (x := 1002 + q) rfl (by decide +kernel) ?_
  refine g_cJV (i := 492) (mi1 := mJ0_isLatin1) (av := []) (n := 0) hq rfl (gw_mem (by decide +kernel)) (gw_mem (by decide +kernel)) (gw_mem (by decide +kernel)) (gw_mem (by decide +kernel)) cmJ0_isLatin1 (by decide +kernel) (by decide) (show 0 < 3 by decide) hz0 rfl rfl (Nat.le_of_ble_eq_true rfl) (by decide +kernel) (s_isLatin1 q hq) ?_
  refine g_if_eq (off := 12) (by decide) (by decide +kernel) (fun h => absurd h (by decide)) (fun _ => ?_)
  refine g_aload_n (n := 0) (x := 1002 + q) rfl (by decide +kernel) ?_
  refine g_strV (i := 9) hq (gw_mem (by decide +kernel)) (by decide +kernel) ?_
  refine g_iload_n (n := 1) (x := i) rfl (by decide +kernel) ?_
  refine g_cJS (i := 495) (mi1 := mJ1_charAt) (av := [.ref (1004 + q), .int i]) (n := 2) (gw_mem (by decide +kernel)) (gw_mem (by decide +kernel)) (gw_mem (by decide +kernel)) cmJ1_charAt (by decide) (by decide +kernel) (by decide) (show 2 < 3 by decide) hz0 (by
    show _ = [Value.int i, Value.ref (sg [] (1004 + q))] ++ _
    rw [sg_hi [] (show 1000 ≤ 1004 + q by omega)]
    rfl) rfl (Nat.le_of_ble_eq_true rfl) (by decide +kernel) (s_lcharAt q i hq hi) ?_
  exact g_irett .char (by decide +kernel) rfl (chB_c q _ hq hlt).2 hz0 ⟨rfl, rfl⟩
section JT
variable {sc : SC} {d mc ms n0 : Nat} {mi : MI} {P : Pst} {kc ks : Nat} {pc : Nat} {L : List (Option Value)} {st r : List Value} {w : List va_E}
abbrev chF1002 (j : Nat) : Int32 := chB 0 j
abbrev chF1003 (j : Nat) : Int32 := chB 1 j
theorem g_strlen1002 {i : Nat} (h1d : 4 ≤ d) (hkc : kc ≤ mc ∧ ks ≤ ms) (hd : decode mi.2.2.1 pc = .ok (.invokevirtual i, 3)) (kk : Good sc d mc ms n0 mi P kc ks (pc + 3) L (.int 4 :: r) w) (hl : Cond.methodLink mi.2.1.cls i yJ0_length_8abf5 ∈ gw := by exact gw_mem (by decide +kernel)) (hr : catS r ≤ 8 := by exact Nat.le_of_ble_eq_true rfl) : Good sc d mc ms n0 mi P kc ks pc L (.ref 1002 :: r) w :=
  g_cJV (q := 0) (mi1 := mJ0_length) (av := []) (n := 0) (by decide) rfl hl (gw_mem (by decide +kernel)) (gw_mem (by decide +kernel)) (gw_mem (by decide +kernel)) cmJ0_length (by decide +kernel) (by decide) (show 1 < d by omega) hkc rfl rfl hr hd (s_strlen 0 (by decide)) kk
theorem g_strlen1003 {i : Nat} (h1d : 4 ≤ d) (hkc : kc ≤ mc ∧ ks ≤ ms) (hd : decode mi.2.2.1 pc = .ok (.invokevirtual i, 3)) (kk : Good sc d mc ms n0 mi P kc ks (pc + 3) L (.int 4 :: r) w) (hl : Cond.methodLink mi.2.1.cls i yJ0_length_8abf5 ∈ gw := by exact gw_mem (by decide +kernel)) (hr : catS r ≤ 8 := by exact Nat.le_of_ble_eq_true rfl) : Good sc d mc ms n0 mi P kc ks pc L (.ref 1003 :: r) w :=
  g_cJV (q := 1) (mi1 := mJ0_length) (av := []) (n := 0) (by decide) rfl hl (gw_mem (by decide +kernel)) (gw_mem (by decide +kernel)) (gw_mem (by decide +kernel)) cmJ0_length (by decide +kernel) (by decide) (show 1 < d by omega) hkc rfl rfl hr hd (s_strlen 1 (by decide)) kk
theorem g_charAt1002 {i : Nat} {j : Int32} (h1d : 6 ≤ d) (hkc : kc ≤ mc ∧ ks ≤ ms) (hj : vp_in j 4) (hd : decode mi.2.2.1 pc = .ok (.invokevirtual i, 3)) (kk : Good sc d mc ms n0 mi P kc ks (pc + 3) L (.int (chF1002 j.toNatClampNeg) :: r) w) (hl : Cond.methodLink mi.2.1.cls i yJ0_charAt_5068e ∈ gw := by exact gw_mem (by decide +kernel)) (hr : catS r ≤ 8 := by exact Nat.le_of_ble_eq_true rfl) : Good sc d mc ms n0 mi P kc ks pc L (.int j :: .ref 1002 :: r) w :=
  g_cJV (q := 0) (mi1 := mJ0_charAt) (av := [.int j]) (n := 1) (by decide) rfl hl (gw_mem (by decide +kernel)) (gw_mem (by decide +kernel)) (gw_mem (by decide +kernel)) cmJ0_charAt (by decide +kernel) (by decide) (show 3 < d by omega) hkc rfl rfl hr hd (s_charAt 0 j (by decide) hj) kk
theorem g_charAt1003 {i : Nat} {j : Int32} (h1d : 6 ≤ d) (hkc : kc ≤ mc ∧ ks ≤ ms) (hj : vp_in j 4) (hd : decode mi.2.2.1 pc = .ok (.invokevirtual i, 3)) (kk : Good sc d mc ms n0 mi P kc ks (pc + 3) L (.int (chF1003 j.toNatClampNeg) :: r) w) (hl : Cond.methodLink mi.2.1.cls i yJ0_charAt_5068e ∈ gw := by exact gw_mem (by decide +kernel)) (hr : catS r ≤ 8 := by exact Nat.le_of_ble_eq_true rfl) : Good sc d mc ms n0 mi P kc ks pc L (.int j :: .ref 1003 :: r) w :=
  g_cJV (q := 1) (mi1 := mJ0_charAt) (av := [.int j]) (n := 1) (by decide) rfl hl (gw_mem (by decide +kernel)) (gw_mem (by decide +kernel)) (gw_mem (by decide +kernel)) cmJ0_charAt (by decide +kernel) (by decide) (show 3 < d by omega) hkc rfl rfl hr hd (s_charAt 1 j (by decide) hj) kk
end JT
