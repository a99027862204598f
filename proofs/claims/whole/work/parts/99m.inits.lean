theorem arr_int : Cond.arrayClass .int ∈ gw := gw_mem (by decide +kernel)
theorem arr_boolean : Cond.arrayClass .boolean ∈ gw := gw_mem (by decide +kernel)
theorem lkOi : Cond.instanceMethod objectInit ∈ gw := gw_mem (by decide +kernel)
theorem lkOc : Cond.code objectInit ⟨#[0xb1]⟩ 1 none ∈ gw := gw_mem (by decide +kernel)
theorem ov_I : Cond.arrayOver (.array .int) ∈ nw := List.mem_filter.mpr ⟨of_decide_eq_true (by decide +kernel), rfl⟩
theorem ov_2 : Cond.arrayOver (.object RX2) ∈ nw := List.mem_filter.mpr ⟨of_decide_eq_true (by decide +kernel), rfl⟩
theorem ov_3 : Cond.arrayOver (.object RX3) ∈ nw := List.mem_filter.mpr ⟨of_decide_eq_true (by decide +kernel), rfl⟩
theorem lkO0 : Cond.methodLink RX0 3 objectInit ∈ gw := gw_mem (by decide +kernel)
theorem lkO1 : Cond.methodLink RX1 3 objectInit ∈ gw := gw_mem (by decide +kernel)
theorem lkO2 : Cond.methodLink RX2 3 objectInit ∈ gw := gw_mem (by decide +kernel)
theorem lkO3 : Cond.methodLink RX3 3 objectInit ∈ gw := gw_mem (by decide +kernel)
theorem lkO4 : Cond.methodLink RX4 3 objectInit ∈ gw := gw_mem (by decide +kernel)
theorem lkO5 : Cond.methodLink RX5 3 objectInit ∈ gw := gw_mem (by decide +kernel)
theorem lkO6 : Cond.methodLink RX6 3 objectInit ∈ gw := gw_mem (by decide +kernel)
theorem lkO7 : Cond.methodLink RX7 3 objectInit ∈ gw := gw_mem (by decide +kernel)
theorem lkO8 : Cond.methodLink RX8 3 objectInit ∈ gw := gw_mem (by decide +kernel)
theorem lkO9 : Cond.methodLink RX9 1 objectInit ∈ gw := gw_mem (by decide +kernel)
theorem ins0 : Cond.instantiable RX0 3 ∈ gw := gw_mem (by decide +kernel)
theorem ini0 : Cond.initialized RX0 ∈ gw := gw_mem (by decide +kernel)
theorem dv0 : ∀ j, j < 3 → defaultValue (tyA 0 j) = vp_V [.null, .null, .null] j := by decide
theorem ins1 : Cond.instantiable RX1 4 ∈ gw := gw_mem (by decide +kernel)
theorem ini1 : Cond.initialized RX1 ∈ gw := gw_mem (by decide +kernel)
theorem dv1 : ∀ j, j < 4 → defaultValue (tyA 1 j) = vp_V [.null, .null, .null, .null] j := by decide
theorem ins2 : Cond.instantiable RX2 3 ∈ gw := gw_mem (by decide +kernel)
theorem ini2 : Cond.initialized RX2 ∈ gw := gw_mem (by decide +kernel)
theorem dv2 : ∀ j, j < 3 → defaultValue (tyA 2 j) = vp_V [.null, .int 0, .int 0] j := by decide
theorem ins3 : Cond.instantiable RX3 10 ∈ gw := gw_mem (by decide +kernel)
theorem ini3 : Cond.initialized RX3 ∈ gw := gw_mem (by decide +kernel)
theorem dv3 : ∀ j, j < 10 → defaultValue (tyA 3 j) = vp_V [.null, .null, .null, .null, .null, .int 0, .int 0, .int 0, .int 0, .int 0] j := by decide
theorem ins4 : Cond.instantiable RX4 14 ∈ gw := gw_mem (by decide +kernel)
theorem ini4 : Cond.initialized RX4 ∈ gw := gw_mem (by decide +kernel)
theorem dv4 : ∀ j, j < 14 → defaultValue (tyA 4 j) = vp_V [.int 0, .int 0, .int 0, .int 0, .int 0, .int 0, .int 0, .int 0, .null, .null, .null, .null, .null, .null] j := by decide
theorem ins5 : Cond.instantiable RX5 6 ∈ gw := gw_mem (by decide +kernel)
theorem ini5 : Cond.initialized RX5 ∈ gw := gw_mem (by decide +kernel)
theorem dv5 : ∀ j, j < 6 → defaultValue (tyA 5 j) = vp_V [.null, .null, .null, .null, .null, .int 0] j := by decide
theorem ins6 : Cond.instantiable RX6 7 ∈ gw := gw_mem (by decide +kernel)
theorem ini6 : Cond.initialized RX6 ∈ gw := gw_mem (by decide +kernel)
theorem dv6 : ∀ j, j < 7 → defaultValue (tyA 6 j) = vp_V [.null, .null, .int 0, .int 0, .int 0, .int 0, .int 0] j := by decide
theorem ins7 : Cond.instantiable RX7 2 ∈ gw := gw_mem (by decide +kernel)
theorem ini7 : Cond.initialized RX7 ∈ gw := gw_mem (by decide +kernel)
theorem dv7 : ∀ j, j < 2 → defaultValue (tyA 7 j) = vp_V [.null, .null] j := by decide
theorem ins8 : Cond.instantiable RX8 14 ∈ gw := gw_mem (by decide +kernel)
theorem ini8 : Cond.initialized RX8 ∈ gw := gw_mem (by decide +kernel)
theorem dv8 : ∀ j, j < 14 → defaultValue (tyA 8 j) = vp_V [.null, .null, .null, .null, .null, .null, .null, .null, .null, .null, .null, .int 0, .int 0, .int 0] j := by decide
theorem ins9 : Cond.instantiable RX9 30 ∈ gw := gw_mem (by decide +kernel)
theorem ini9 : Cond.initialized RX9 ∈ gw := gw_mem (by decide +kernel)
theorem dv9 : ∀ j, j < 30 → defaultValue (tyA 9 j) = vp_V [.null, .null, .null, .null, .null, .null, .null, .null, .int 0, .null, .int 0, .int 0, .int 0, .null, .null, .null, .null, .null, .int 0, .int 0, .int 0, .int 0, .null, .int 0, .int 0, .int 0, .int 0, .int 0, .null, .int 0] j := by decide
theorem cl8_3 : Cond.classLink RX8 9 RX3 ∈ gw := gw_mem (by decide +kernel)
theorem cl8_2 : Cond.classLink RX8 16 RX2 ∈ gw := gw_mem (by decide +kernel)
theorem cl8_6 : Cond.classLink RX8 23 RX6 ∈ gw := gw_mem (by decide +kernel)
theorem cl8_1 : Cond.classLink RX8 30 RX1 ∈ gw := gw_mem (by decide +kernel)
theorem cl8_0 : Cond.classLink RX8 37 RX0 ∈ gw := gw_mem (by decide +kernel)
theorem cl8_7 : Cond.classLink RX8 44 RX7 ∈ gw := gw_mem (by decide +kernel)
theorem cl8_5 : Cond.classLink RX8 51 RX5 ∈ gw := gw_mem (by decide +kernel)
theorem cl0_1 : Cond.classLink RX0 9 RX1 ∈ gw := gw_mem (by decide +kernel)
theorem cl3_4 : Cond.classLink RX3 9 RX4 ∈ gw := gw_mem (by decide +kernel)
theorem lk2_0 : Cond.classLink RX0 18 "[[I" ∈ gw := gw_mem (by decide +kernel)
theorem lk2_2 : Cond.classLink RX2 9 "[[I" ∈ gw := gw_mem (by decide +kernel)
theorem lk2_5 : Cond.classLink RX5 9 "[[I" ∈ gw := gw_mem (by decide +kernel)

set_option maxRecDepth 20000 in
set_option maxHeartbeats 4000000 in
theorem s_X4_init : Spec 1 6 189 mX4_init [.ref 0] [.inr (4, [.int 0, .int 0, .int 0, .int 0, .int 0, .int 0, .int 0, .int 0, .null, .null, .null, .null, .null, .null])] (RV ([.inr (4, [.int 0, .int 0, .int 0, .int 0, .int 0, .int 0, .int 0, .int 0, .ref 1, .ref 2, .ref 3, .ref 4, .ref 5, .ref 6]), .inl (1, 36, .inl (fun _ => 0)), .inl (1, 36, .inl (fun _ => 0)), .inl (0, 36, .inl (fun _ => 0)), .inl (0, 36, .inl (fun _ => 0)), .inl (0, 36, .inl (fun _ => 0)), .inl (0, 9, .inl (fun _ => 0))])) := by
  refine Spec.of rfl (Nat.le_of_ble_eq_true rfl) (Nat.le_of_ble_eq_true rfl) fun sc => ?_
  refine g_aload_n (n := 0) (x := 0) rfl (show decode cX4_init 0 = .ok (.aload_n 0, 1) by decide +kernel) ?_
  refine g_objI (q := 0) lkO4 lkOi lkOc (by decide) (show decode cX4_init 1 = .ok (.invokespecial 3, 3) by decide +kernel) (Nat.le_of_ble_eq_true rfl) ?_
  refine g_aload_n (n := 0) (x := 0) rfl (show decode cX4_init 4 = .ok (.aload_n 0, 1) by decide +kernel) ?_
  refine g_bipush (show decode cX4_init 5 = .ok (.bipush 36, 2) by decide +kernel) ?_
  refine g_newa (t := 1) (N := 36) (ty := .boolean) rfl (by decide) arr_boolean (by decide) (by decide) (by decide) (show decode cX4_init 7 = .ok (.newarray .boolean, 2) by decide +kernel) ⟨rfl, trivial⟩ rfl rfl (by decide) (by decide) ?_
  refine g_eqw [.inr (4, [.int 0, .int 0, .int 0, .int 0, .int 0, .int 0, .int 0, .int 0, .null, .null, .null, .null, .null, .null]), .inl (1, 36, .inl (fun _ => 0))] rfl ?_
  refine g_putF (ci := 4) (k := 8) rfl rfl rfl rfl rfl rfl rfl (by first | exact Or.inl ⟨_, rfl⟩ | exact Or.inr ⟨_, rfl⟩) (show decode cX4_init 9 = .ok (.putfield 9, 3) by decide +kernel) ?_
  refine g_eqw [.inr (4, [.int 0, .int 0, .int 0, .int 0, .int 0, .int 0, .int 0, .int 0, .ref 1, .null, .null, .null, .null, .null]), .inl (1, 36, .inl (fun _ => 0))] rfl ?_
  refine g_aload_n (n := 0) (x := 0) rfl (show decode cX4_init 12 = .ok (.aload_n 0, 1) by decide +kernel) ?_
  refine g_bipush (show decode cX4_init 13 = .ok (.bipush 36, 2) by decide +kernel) ?_
  refine g_newa (t := 1) (N := 36) (ty := .boolean) rfl (by decide) arr_boolean (by decide) (by decide) (by decide) (show decode cX4_init 15 = .ok (.newarray .boolean, 2) by decide +kernel) ⟨rfl, ⟨trivial, trivial⟩⟩ rfl rfl (by decide) (by decide) ?_
  refine g_eqw [.inr (4, [.int 0, .int 0, .int 0, .int 0, .int 0, .int 0, .int 0, .int 0, .ref 1, .null, .null, .null, .null, .null]), .inl (1, 36, .inl (fun _ => 0)), .inl (1, 36, .inl (fun _ => 0))] rfl ?_
  refine g_putF (ci := 4) (k := 9) rfl rfl rfl rfl rfl rfl rfl (by first | exact Or.inl ⟨_, rfl⟩ | exact Or.inr ⟨_, rfl⟩) (show decode cX4_init 17 = .ok (.putfield 15, 3) by decide +kernel) ?_
  refine g_eqw [.inr (4, [.int 0, .int 0, .int 0, .int 0, .int 0, .int 0, .int 0, .int 0, .ref 1, .ref 2, .null, .null, .null, .null]), .inl (1, 36, .inl (fun _ => 0)), .inl (1, 36, .inl (fun _ => 0))] rfl ?_
  refine g_aload_n (n := 0) (x := 0) rfl (show decode cX4_init 20 = .ok (.aload_n 0, 1) by decide +kernel) ?_
  refine g_bipush (show decode cX4_init 21 = .ok (.bipush 36, 2) by decide +kernel) ?_
  refine g_newa (t := 0) (N := 36) (ty := .int) rfl (by decide) arr_int (by decide) (by decide) (by decide) (show decode cX4_init 23 = .ok (.newarray .int, 2) by decide +kernel) ⟨rfl, ⟨trivial, ⟨trivial, trivial⟩⟩⟩ rfl rfl (by decide) (by decide) ?_
  refine g_eqw [.inr (4, [.int 0, .int 0, .int 0, .int 0, .int 0, .int 0, .int 0, .int 0, .ref 1, .ref 2, .null, .null, .null, .null]), .inl (1, 36, .inl (fun _ => 0)), .inl (1, 36, .inl (fun _ => 0)), .inl (0, 36, .inl (fun _ => 0))] rfl ?_
  refine g_putF (ci := 4) (k := 10) rfl rfl rfl rfl rfl rfl rfl (by first | exact Or.inl ⟨_, rfl⟩ | exact Or.inr ⟨_, rfl⟩) (show decode cX4_init 25 = .ok (.putfield 18, 3) by decide +kernel) ?_
  refine g_eqw [.inr (4, [.int 0, .int 0, .int 0, .int 0, .int 0, .int 0, .int 0, .int 0, .ref 1, .ref 2, .ref 3, .null, .null, .null]), .inl (1, 36, .inl (fun _ => 0)), .inl (1, 36, .inl (fun _ => 0)), .inl (0, 36, .inl (fun _ => 0))] rfl ?_
  refine g_aload_n (n := 0) (x := 0) rfl (show decode cX4_init 28 = .ok (.aload_n 0, 1) by decide +kernel) ?_
  refine g_bipush (show decode cX4_init 29 = .ok (.bipush 36, 2) by decide +kernel) ?_
  refine g_newa (t := 0) (N := 36) (ty := .int) rfl (by decide) arr_int (by decide) (by decide) (by decide) (show decode cX4_init 31 = .ok (.newarray .int, 2) by decide +kernel) ⟨rfl, ⟨trivial, ⟨trivial, ⟨trivial, trivial⟩⟩⟩⟩ rfl rfl (by decide) (by decide) ?_
  refine g_eqw [.inr (4, [.int 0, .int 0, .int 0, .int 0, .int 0, .int 0, .int 0, .int 0, .ref 1, .ref 2, .ref 3, .null, .null, .null]), .inl (1, 36, .inl (fun _ => 0)), .inl (1, 36, .inl (fun _ => 0)), .inl (0, 36, .inl (fun _ => 0)), .inl (0, 36, .inl (fun _ => 0))] rfl ?_
  refine g_putF (ci := 4) (k := 11) rfl rfl rfl rfl rfl rfl rfl (by first | exact Or.inl ⟨_, rfl⟩ | exact Or.inr ⟨_, rfl⟩) (show decode cX4_init 33 = .ok (.putfield 22, 3) by decide +kernel) ?_
  refine g_eqw [.inr (4, [.int 0, .int 0, .int 0, .int 0, .int 0, .int 0, .int 0, .int 0, .ref 1, .ref 2, .ref 3, .ref 4, .null, .null]), .inl (1, 36, .inl (fun _ => 0)), .inl (1, 36, .inl (fun _ => 0)), .inl (0, 36, .inl (fun _ => 0)), .inl (0, 36, .inl (fun _ => 0))] rfl ?_
  refine g_aload_n (n := 0) (x := 0) rfl (show decode cX4_init 36 = .ok (.aload_n 0, 1) by decide +kernel) ?_
  refine g_bipush (show decode cX4_init 37 = .ok (.bipush 36, 2) by decide +kernel) ?_
  refine g_newa (t := 0) (N := 36) (ty := .int) rfl (by decide) arr_int (by decide) (by decide) (by decide) (show decode cX4_init 39 = .ok (.newarray .int, 2) by decide +kernel) ⟨rfl, ⟨trivial, ⟨trivial, ⟨trivial, ⟨trivial, trivial⟩⟩⟩⟩⟩ rfl rfl (by decide) (by decide) ?_
  refine g_eqw [.inr (4, [.int 0, .int 0, .int 0, .int 0, .int 0, .int 0, .int 0, .int 0, .ref 1, .ref 2, .ref 3, .ref 4, .null, .null]), .inl (1, 36, .inl (fun _ => 0)), .inl (1, 36, .inl (fun _ => 0)), .inl (0, 36, .inl (fun _ => 0)), .inl (0, 36, .inl (fun _ => 0)), .inl (0, 36, .inl (fun _ => 0))] rfl ?_
  refine g_putF (ci := 4) (k := 12) rfl rfl rfl rfl rfl rfl rfl (by first | exact Or.inl ⟨_, rfl⟩ | exact Or.inr ⟨_, rfl⟩) (show decode cX4_init 41 = .ok (.putfield 25, 3) by decide +kernel) ?_
  refine g_eqw [.inr (4, [.int 0, .int 0, .int 0, .int 0, .int 0, .int 0, .int 0, .int 0, .ref 1, .ref 2, .ref 3, .ref 4, .ref 5, .null]), .inl (1, 36, .inl (fun _ => 0)), .inl (1, 36, .inl (fun _ => 0)), .inl (0, 36, .inl (fun _ => 0)), .inl (0, 36, .inl (fun _ => 0)), .inl (0, 36, .inl (fun _ => 0))] rfl ?_
  refine g_aload_n (n := 0) (x := 0) rfl (show decode cX4_init 44 = .ok (.aload_n 0, 1) by decide +kernel) ?_
  refine g_bipush (show decode cX4_init 45 = .ok (.bipush 9, 2) by decide +kernel) ?_
  refine g_newa (t := 0) (N := 9) (ty := .int) rfl (by decide) arr_int (by decide) (by decide) (by decide) (show decode cX4_init 47 = .ok (.newarray .int, 2) by decide +kernel) ⟨rfl, ⟨trivial, ⟨trivial, ⟨trivial, ⟨trivial, ⟨trivial, trivial⟩⟩⟩⟩⟩⟩ rfl rfl (by decide) (by decide) ?_
  refine g_eqw [.inr (4, [.int 0, .int 0, .int 0, .int 0, .int 0, .int 0, .int 0, .int 0, .ref 1, .ref 2, .ref 3, .ref 4, .ref 5, .null]), .inl (1, 36, .inl (fun _ => 0)), .inl (1, 36, .inl (fun _ => 0)), .inl (0, 36, .inl (fun _ => 0)), .inl (0, 36, .inl (fun _ => 0)), .inl (0, 36, .inl (fun _ => 0)), .inl (0, 9, .inl (fun _ => 0))] rfl ?_
  refine g_putF (ci := 4) (k := 13) rfl rfl rfl rfl rfl rfl rfl (by first | exact Or.inl ⟨_, rfl⟩ | exact Or.inr ⟨_, rfl⟩) (show decode cX4_init 49 = .ok (.putfield 28, 3) by decide +kernel) ?_
  refine g_eqw [.inr (4, [.int 0, .int 0, .int 0, .int 0, .int 0, .int 0, .int 0, .int 0, .ref 1, .ref 2, .ref 3, .ref 4, .ref 5, .ref 6]), .inl (1, 36, .inl (fun _ => 0)), .inl (1, 36, .inl (fun _ => 0)), .inl (0, 36, .inl (fun _ => 0)), .inl (0, 36, .inl (fun _ => 0)), .inl (0, 36, .inl (fun _ => 0)), .inl (0, 9, .inl (fun _ => 0))] rfl ?_
  exact g_ret (show decode cX4_init 52 = .ok (.return_, 1) by decide +kernel) rfl ⟨Nat.le_refl _, Nat.le_refl _⟩ ⟨rfl, rfl⟩

set_option maxRecDepth 20000 in
set_option maxHeartbeats 4000000 in
theorem s_X1_init : Spec 1 4 32 mX1_init [.ref 0] [.inr (1, [.null, .null, .null, .null])] (RV ([.inr (1, [.ref 1, .ref 2, .ref 3, .ref 4]), .inl (0, 8, .inl (fun _ => 0)), .inl (0, 8, .inl (fun _ => 0)), .inl (0, 8, .inl (fun _ => 0)), .inl (0, 8, .inl (fun _ => 0))])) := by
  refine Spec.of rfl (Nat.le_of_ble_eq_true rfl) (Nat.le_of_ble_eq_true rfl) fun sc => ?_
  refine g_aload_n (n := 0) (x := 0) rfl (show decode cX1_init 0 = .ok (.aload_n 0, 1) by decide +kernel) ?_
  refine g_objI (q := 0) lkO1 lkOi lkOc (by decide) (show decode cX1_init 1 = .ok (.invokespecial 3, 3) by decide +kernel) (Nat.le_of_ble_eq_true rfl) ?_
  refine g_aload_n (n := 0) (x := 0) rfl (show decode cX1_init 4 = .ok (.aload_n 0, 1) by decide +kernel) ?_
  refine g_bipush (show decode cX1_init 5 = .ok (.bipush 8, 2) by decide +kernel) ?_
  refine g_newa (t := 0) (N := 8) (ty := .int) rfl (by decide) arr_int (by decide) (by decide) (by decide) (show decode cX1_init 7 = .ok (.newarray .int, 2) by decide +kernel) ⟨rfl, trivial⟩ rfl rfl (by decide) (by decide) ?_
  refine g_eqw [.inr (1, [.null, .null, .null, .null]), .inl (0, 8, .inl (fun _ => 0))] rfl ?_
  refine g_putF (ci := 1) (k := 0) rfl rfl rfl rfl rfl rfl rfl (by first | exact Or.inl ⟨_, rfl⟩ | exact Or.inr ⟨_, rfl⟩) (show decode cX1_init 9 = .ok (.putfield 9, 3) by decide +kernel) ?_
  refine g_eqw [.inr (1, [.ref 1, .null, .null, .null]), .inl (0, 8, .inl (fun _ => 0))] rfl ?_
  refine g_aload_n (n := 0) (x := 0) rfl (show decode cX1_init 12 = .ok (.aload_n 0, 1) by decide +kernel) ?_
  refine g_bipush (show decode cX1_init 13 = .ok (.bipush 8, 2) by decide +kernel) ?_
  refine g_newa (t := 0) (N := 8) (ty := .int) rfl (by decide) arr_int (by decide) (by decide) (by decide) (show decode cX1_init 15 = .ok (.newarray .int, 2) by decide +kernel) ⟨rfl, ⟨trivial, trivial⟩⟩ rfl rfl (by decide) (by decide) ?_
  refine g_eqw [.inr (1, [.ref 1, .null, .null, .null]), .inl (0, 8, .inl (fun _ => 0)), .inl (0, 8, .inl (fun _ => 0))] rfl ?_
  refine g_putF (ci := 1) (k := 1) rfl rfl rfl rfl rfl rfl rfl (by first | exact Or.inl ⟨_, rfl⟩ | exact Or.inr ⟨_, rfl⟩) (show decode cX1_init 17 = .ok (.putfield 15, 3) by decide +kernel) ?_
  refine g_eqw [.inr (1, [.ref 1, .ref 2, .null, .null]), .inl (0, 8, .inl (fun _ => 0)), .inl (0, 8, .inl (fun _ => 0))] rfl ?_
  refine g_aload_n (n := 0) (x := 0) rfl (show decode cX1_init 20 = .ok (.aload_n 0, 1) by decide +kernel) ?_
  refine g_bipush (show decode cX1_init 21 = .ok (.bipush 8, 2) by decide +kernel) ?_
  refine g_newa (t := 0) (N := 8) (ty := .int) rfl (by decide) arr_int (by decide) (by decide) (by decide) (show decode cX1_init 23 = .ok (.newarray .int, 2) by decide +kernel) ⟨rfl, ⟨trivial, ⟨trivial, trivial⟩⟩⟩ rfl rfl (by decide) (by decide) ?_
  refine g_eqw [.inr (1, [.ref 1, .ref 2, .null, .null]), .inl (0, 8, .inl (fun _ => 0)), .inl (0, 8, .inl (fun _ => 0)), .inl (0, 8, .inl (fun _ => 0))] rfl ?_
  refine g_putF (ci := 1) (k := 2) rfl rfl rfl rfl rfl rfl rfl (by first | exact Or.inl ⟨_, rfl⟩ | exact Or.inr ⟨_, rfl⟩) (show decode cX1_init 25 = .ok (.putfield 18, 3) by decide +kernel) ?_
  refine g_eqw [.inr (1, [.ref 1, .ref 2, .ref 3, .null]), .inl (0, 8, .inl (fun _ => 0)), .inl (0, 8, .inl (fun _ => 0)), .inl (0, 8, .inl (fun _ => 0))] rfl ?_
  refine g_aload_n (n := 0) (x := 0) rfl (show decode cX1_init 28 = .ok (.aload_n 0, 1) by decide +kernel) ?_
  refine g_bipush (show decode cX1_init 29 = .ok (.bipush 8, 2) by decide +kernel) ?_
  refine g_newa (t := 0) (N := 8) (ty := .int) rfl (by decide) arr_int (by decide) (by decide) (by decide) (show decode cX1_init 31 = .ok (.newarray .int, 2) by decide +kernel) ⟨rfl, ⟨trivial, ⟨trivial, ⟨trivial, trivial⟩⟩⟩⟩ rfl rfl (by decide) (by decide) ?_
  refine g_eqw [.inr (1, [.ref 1, .ref 2, .ref 3, .null]), .inl (0, 8, .inl (fun _ => 0)), .inl (0, 8, .inl (fun _ => 0)), .inl (0, 8, .inl (fun _ => 0)), .inl (0, 8, .inl (fun _ => 0))] rfl ?_
  refine g_putF (ci := 1) (k := 3) rfl rfl rfl rfl rfl rfl rfl (by first | exact Or.inl ⟨_, rfl⟩ | exact Or.inr ⟨_, rfl⟩) (show decode cX1_init 33 = .ok (.putfield 21, 3) by decide +kernel) ?_
  refine g_eqw [.inr (1, [.ref 1, .ref 2, .ref 3, .ref 4]), .inl (0, 8, .inl (fun _ => 0)), .inl (0, 8, .inl (fun _ => 0)), .inl (0, 8, .inl (fun _ => 0)), .inl (0, 8, .inl (fun _ => 0))] rfl ?_
  exact g_ret (show decode cX1_init 36 = .ok (.return_, 1) by decide +kernel) rfl ⟨Nat.le_refl _, Nat.le_refl _⟩ ⟨rfl, rfl⟩

set_option maxRecDepth 20000 in
set_option maxHeartbeats 4000000 in
theorem s_X2_init : Spec 1 9 168 mX2_init [.ref 0] [.inr (2, [.null, .int 0, .int 0])] (RV ([.inr (2, [.ref 1, .int 0, .int 0]), .inl (4, 8, .inr (.inr (.inr (.inr (rowF [2, 3, 4, 5, 6, 7, 8, 9]))))), .inl (0, 20, .inl (fun _ => 0)), .inl (0, 20, .inl (fun _ => 0)), .inl (0, 20, .inl (fun _ => 0)), .inl (0, 20, .inl (fun _ => 0)), .inl (0, 20, .inl (fun _ => 0)), .inl (0, 20, .inl (fun _ => 0)), .inl (0, 20, .inl (fun _ => 0)), .inl (0, 20, .inl (fun _ => 0))])) := by
  refine Spec.of rfl (Nat.le_of_ble_eq_true rfl) (Nat.le_of_ble_eq_true rfl) fun sc => ?_
  refine g_aload_n (n := 0) (x := 0) rfl (show decode cX2_init 0 = .ok (.aload_n 0, 1) by decide +kernel) ?_
  refine g_objI (q := 0) lkO2 lkOi lkOc (by decide) (show decode cX2_init 1 = .ok (.invokespecial 3, 3) by decide +kernel) (Nat.le_of_ble_eq_true rfl) ?_
  refine g_aload_n (n := 0) (x := 0) rfl (show decode cX2_init 4 = .ok (.aload_n 0, 1) by decide +kernel) ?_
  refine g_bipush (show decode cX2_init 5 = .ok (.bipush 8, 2) by decide +kernel) ?_
  refine g_bipush (show decode cX2_init 7 = .ok (.bipush 20, 2) by decide +kernel) ?_
  refine g_mna (N := 8) (K := 20) lk2_2 ov_I arr_int (by decide) (by decide) (by decide) (by decide) (by decide) (by decide) (show decode cX2_init 9 = .ok (.multianewarray 9 2, 4) by decide +kernel) ⟨rfl, trivial⟩ rfl rfl (by decide) (by decide) ?_
  refine g_eqw [.inr (2, [.null, .int 0, .int 0]), .inl (4, 8, .inr (.inr (.inr (.inr (rowF [2, 3, 4, 5, 6, 7, 8, 9]))))), .inl (0, 20, .inl (fun _ => 0)), .inl (0, 20, .inl (fun _ => 0)), .inl (0, 20, .inl (fun _ => 0)), .inl (0, 20, .inl (fun _ => 0)), .inl (0, 20, .inl (fun _ => 0)), .inl (0, 20, .inl (fun _ => 0)), .inl (0, 20, .inl (fun _ => 0)), .inl (0, 20, .inl (fun _ => 0))] rfl ?_
  refine g_putF (ci := 2) (k := 0) rfl rfl rfl rfl rfl rfl rfl (by first | exact Or.inl ⟨_, rfl⟩ | exact Or.inr ⟨_, rfl⟩) (show decode cX2_init 13 = .ok (.putfield 11, 3) by decide +kernel) ?_
  refine g_eqw [.inr (2, [.ref 1, .int 0, .int 0]), .inl (4, 8, .inr (.inr (.inr (.inr (rowF [2, 3, 4, 5, 6, 7, 8, 9]))))), .inl (0, 20, .inl (fun _ => 0)), .inl (0, 20, .inl (fun _ => 0)), .inl (0, 20, .inl (fun _ => 0)), .inl (0, 20, .inl (fun _ => 0)), .inl (0, 20, .inl (fun _ => 0)), .inl (0, 20, .inl (fun _ => 0)), .inl (0, 20, .inl (fun _ => 0)), .inl (0, 20, .inl (fun _ => 0))] rfl ?_
  exact g_ret (show decode cX2_init 16 = .ok (.return_, 1) by decide +kernel) rfl ⟨Nat.le_refl _, Nat.le_refl _⟩ ⟨rfl, rfl⟩

set_option maxRecDepth 20000 in
set_option maxHeartbeats 4000000 in
theorem s_X6_init : Spec 1 2 204 mX6_init [.ref 0] [.inr (6, [.null, .null, .int 0, .int 0, .int 0, .int 0, .int 0])] (RV ([.inr (6, [.ref 1, .ref 2, .int 0, .int 0, .int 0, .int 0, .int 0]), .inl (0, 200, .inl (fun _ => 0)), .inl (0, 4, .inl (fun _ => 0))])) := by
  refine Spec.of rfl (Nat.le_of_ble_eq_true rfl) (Nat.le_of_ble_eq_true rfl) fun sc => ?_
  refine g_aload_n (n := 0) (x := 0) rfl (show decode cX6_init 0 = .ok (.aload_n 0, 1) by decide +kernel) ?_
  refine g_objI (q := 0) lkO6 lkOi lkOc (by decide) (show decode cX6_init 1 = .ok (.invokespecial 3, 3) by decide +kernel) (Nat.le_of_ble_eq_true rfl) ?_
  refine g_aload_n (n := 0) (x := 0) rfl (show decode cX6_init 4 = .ok (.aload_n 0, 1) by decide +kernel) ?_
  refine g_sipush (show decode cX6_init 5 = .ok (.sipush 200, 3) by decide +kernel) ?_
  refine g_newa (t := 0) (N := 200) (ty := .int) rfl (by decide) arr_int (by decide) (by decide) (by decide) (show decode cX6_init 8 = .ok (.newarray .int, 2) by decide +kernel) ⟨rfl, trivial⟩ rfl rfl (by decide) (by decide) ?_
  refine g_eqw [.inr (6, [.null, .null, .int 0, .int 0, .int 0, .int 0, .int 0]), .inl (0, 200, .inl (fun _ => 0))] rfl ?_
  refine g_putF (ci := 6) (k := 0) rfl rfl rfl rfl rfl rfl rfl (by first | exact Or.inl ⟨_, rfl⟩ | exact Or.inr ⟨_, rfl⟩) (show decode cX6_init 10 = .ok (.putfield 9, 3) by decide +kernel) ?_
  refine g_eqw [.inr (6, [.ref 1, .null, .int 0, .int 0, .int 0, .int 0, .int 0]), .inl (0, 200, .inl (fun _ => 0))] rfl ?_
  refine g_aload_n (n := 0) (x := 0) rfl (show decode cX6_init 13 = .ok (.aload_n 0, 1) by decide +kernel) ?_
  refine g_iconst (show decode cX6_init 14 = .ok (.iconst 4, 1) by decide +kernel) ?_
  refine g_newa (t := 0) (N := 4) (ty := .int) rfl (by decide) arr_int (by decide) (by decide) (by decide) (show decode cX6_init 15 = .ok (.newarray .int, 2) by decide +kernel) ⟨rfl, ⟨trivial, trivial⟩⟩ rfl rfl (by decide) (by decide) ?_
  refine g_eqw [.inr (6, [.ref 1, .null, .int 0, .int 0, .int 0, .int 0, .int 0]), .inl (0, 200, .inl (fun _ => 0)), .inl (0, 4, .inl (fun _ => 0))] rfl ?_
  refine g_putF (ci := 6) (k := 1) rfl rfl rfl rfl rfl rfl rfl (by first | exact Or.inl ⟨_, rfl⟩ | exact Or.inr ⟨_, rfl⟩) (show decode cX6_init 17 = .ok (.putfield 15, 3) by decide +kernel) ?_
  refine g_eqw [.inr (6, [.ref 1, .ref 2, .int 0, .int 0, .int 0, .int 0, .int 0]), .inl (0, 200, .inl (fun _ => 0)), .inl (0, 4, .inl (fun _ => 0))] rfl ?_
  exact g_ret (show decode cX6_init 20 = .ok (.return_, 1) by decide +kernel) rfl ⟨Nat.le_refl _, Nat.le_refl _⟩ ⟨rfl, rfl⟩

set_option maxRecDepth 20000 in
set_option maxHeartbeats 4000000 in
theorem s_X7_init : Spec 1 2 72 mX7_init [.ref 0] [.inr (7, [.null, .null])] (RV ([.inr (7, [.ref 1, .ref 2]), .inl (0, 36, .inl (fun _ => 0)), .inl (0, 36, .inl (fun _ => 0))])) := by
  refine Spec.of rfl (Nat.le_of_ble_eq_true rfl) (Nat.le_of_ble_eq_true rfl) fun sc => ?_
  refine g_aload_n (n := 0) (x := 0) rfl (show decode cX7_init 0 = .ok (.aload_n 0, 1) by decide +kernel) ?_
  refine g_objI (q := 0) lkO7 lkOi lkOc (by decide) (show decode cX7_init 1 = .ok (.invokespecial 3, 3) by decide +kernel) (Nat.le_of_ble_eq_true rfl) ?_
  refine g_aload_n (n := 0) (x := 0) rfl (show decode cX7_init 4 = .ok (.aload_n 0, 1) by decide +kernel) ?_
  refine g_bipush (show decode cX7_init 5 = .ok (.bipush 36, 2) by decide +kernel) ?_
  refine g_newa (t := 0) (N := 36) (ty := .int) rfl (by decide) arr_int (by decide) (by decide) (by decide) (show decode cX7_init 7 = .ok (.newarray .int, 2) by decide +kernel) ⟨rfl, trivial⟩ rfl rfl (by decide) (by decide) ?_
  refine g_eqw [.inr (7, [.null, .null]), .inl (0, 36, .inl (fun _ => 0))] rfl ?_
  refine g_putF (ci := 7) (k := 0) rfl rfl rfl rfl rfl rfl rfl (by first | exact Or.inl ⟨_, rfl⟩ | exact Or.inr ⟨_, rfl⟩) (show decode cX7_init 9 = .ok (.putfield 9, 3) by decide +kernel) ?_
  refine g_eqw [.inr (7, [.ref 1, .null]), .inl (0, 36, .inl (fun _ => 0))] rfl ?_
  refine g_aload_n (n := 0) (x := 0) rfl (show decode cX7_init 12 = .ok (.aload_n 0, 1) by decide +kernel) ?_
  refine g_bipush (show decode cX7_init 13 = .ok (.bipush 36, 2) by decide +kernel) ?_
  refine g_newa (t := 0) (N := 36) (ty := .int) rfl (by decide) arr_int (by decide) (by decide) (by decide) (show decode cX7_init 15 = .ok (.newarray .int, 2) by decide +kernel) ⟨rfl, ⟨trivial, trivial⟩⟩ rfl rfl (by decide) (by decide) ?_
  refine g_eqw [.inr (7, [.ref 1, .null]), .inl (0, 36, .inl (fun _ => 0)), .inl (0, 36, .inl (fun _ => 0))] rfl ?_
  refine g_putF (ci := 7) (k := 1) rfl rfl rfl rfl rfl rfl rfl (by first | exact Or.inl ⟨_, rfl⟩ | exact Or.inr ⟨_, rfl⟩) (show decode cX7_init 17 = .ok (.putfield 15, 3) by decide +kernel) ?_
  refine g_eqw [.inr (7, [.ref 1, .ref 2]), .inl (0, 36, .inl (fun _ => 0)), .inl (0, 36, .inl (fun _ => 0))] rfl ?_
  exact g_ret (show decode cX7_init 20 = .ok (.return_, 1) by decide +kernel) rfl ⟨Nat.le_refl _, Nat.le_refl _⟩ ⟨rfl, rfl⟩

set_option maxRecDepth 20000 in
set_option maxHeartbeats 4000000 in
theorem s_X5_init : Spec 1 13 72 mX5_init [.ref 0] [.inr (5, [.null, .null, .null, .null, .null, .int 0])] (RV ([.inr (5, [.ref 1, .ref 6, .ref 11, .ref 12, .ref 13, .int 0]), .inl (4, 4, .inr (.inr (.inr (.inr (rowF [2, 3, 4, 5]))))), .inl (0, 6, .inl (fun _ => 0)), .inl (0, 6, .inl (fun _ => 0)), .inl (0, 6, .inl (fun _ => 0)), .inl (0, 6, .inl (fun _ => 0)), .inl (4, 4, .inr (.inr (.inr (.inr (rowF [7, 8, 9, 10]))))), .inl (0, 6, .inl (fun _ => 0)), .inl (0, 6, .inl (fun _ => 0)), .inl (0, 6, .inl (fun _ => 0)), .inl (0, 6, .inl (fun _ => 0)), .inl (1, 6, .inl (fun _ => 0)), .inl (1, 6, .inl (fun _ => 0)), .inl (0, 4, .inl (fun _ => 0))])) := by
  refine Spec.of rfl (Nat.le_of_ble_eq_true rfl) (Nat.le_of_ble_eq_true rfl) fun sc => ?_
  refine g_aload_n (n := 0) (x := 0) rfl (show decode cX5_init 0 = .ok (.aload_n 0, 1) by decide +kernel) ?_
  refine g_objI (q := 0) lkO5 lkOi lkOc (by decide) (show decode cX5_init 1 = .ok (.invokespecial 3, 3) by decide +kernel) (Nat.le_of_ble_eq_true rfl) ?_
  refine g_aload_n (n := 0) (x := 0) rfl (show decode cX5_init 4 = .ok (.aload_n 0, 1) by decide +kernel) ?_
  refine g_iconst (show decode cX5_init 5 = .ok (.iconst 4, 1) by decide +kernel) ?_
  refine g_bipush (show decode cX5_init 6 = .ok (.bipush 6, 2) by decide +kernel) ?_
  refine g_mna (N := 4) (K := 6) lk2_5 ov_I arr_int (by decide) (by decide) (by decide) (by decide) (by decide) (by decide) (show decode cX5_init 8 = .ok (.multianewarray 9 2, 4) by decide +kernel) ⟨rfl, trivial⟩ rfl rfl (by decide) (by decide) ?_
  refine g_eqw [.inr (5, [.null, .null, .null, .null, .null, .int 0]), .inl (4, 4, .inr (.inr (.inr (.inr (rowF [2, 3, 4, 5]))))), .inl (0, 6, .inl (fun _ => 0)), .inl (0, 6, .inl (fun _ => 0)), .inl (0, 6, .inl (fun _ => 0)), .inl (0, 6, .inl (fun _ => 0))] rfl ?_
  refine g_putF (ci := 5) (k := 0) rfl rfl rfl rfl rfl rfl rfl (by first | exact Or.inl ⟨_, rfl⟩ | exact Or.inr ⟨_, rfl⟩) (show decode cX5_init 12 = .ok (.putfield 11, 3) by decide +kernel) ?_
  refine g_eqw [.inr (5, [.ref 1, .null, .null, .null, .null, .int 0]), .inl (4, 4, .inr (.inr (.inr (.inr (rowF [2, 3, 4, 5]))))), .inl (0, 6, .inl (fun _ => 0)), .inl (0, 6, .inl (fun _ => 0)), .inl (0, 6, .inl (fun _ => 0)), .inl (0, 6, .inl (fun _ => 0))] rfl ?_
  refine g_aload_n (n := 0) (x := 0) rfl (show decode cX5_init 15 = .ok (.aload_n 0, 1) by decide +kernel) ?_
  refine g_iconst (show decode cX5_init 16 = .ok (.iconst 4, 1) by decide +kernel) ?_
  refine g_bipush (show decode cX5_init 17 = .ok (.bipush 6, 2) by decide +kernel) ?_
  refine g_mna (N := 4) (K := 6) lk2_5 ov_I arr_int (by decide) (by decide) (by decide) (by decide) (by decide) (by decide) (show decode cX5_init 19 = .ok (.multianewarray 9 2, 4) by decide +kernel) ⟨rfl, ⟨(rf_row rfl), ⟨trivial, ⟨trivial, ⟨trivial, ⟨trivial, trivial⟩⟩⟩⟩⟩⟩ rfl rfl (by decide) (by decide) ?_
  refine g_eqw [.inr (5, [.ref 1, .null, .null, .null, .null, .int 0]), .inl (4, 4, .inr (.inr (.inr (.inr (rowF [2, 3, 4, 5]))))), .inl (0, 6, .inl (fun _ => 0)), .inl (0, 6, .inl (fun _ => 0)), .inl (0, 6, .inl (fun _ => 0)), .inl (0, 6, .inl (fun _ => 0)), .inl (4, 4, .inr (.inr (.inr (.inr (rowF [7, 8, 9, 10]))))), .inl (0, 6, .inl (fun _ => 0)), .inl (0, 6, .inl (fun _ => 0)), .inl (0, 6, .inl (fun _ => 0)), .inl (0, 6, .inl (fun _ => 0))] rfl ?_
  refine g_putF (ci := 5) (k := 1) rfl rfl rfl rfl rfl rfl rfl (by first | exact Or.inl ⟨_, rfl⟩ | exact Or.inr ⟨_, rfl⟩) (show decode cX5_init 23 = .ok (.putfield 16, 3) by decide +kernel) ?_
  refine g_eqw [.inr (5, [.ref 1, .ref 6, .null, .null, .null, .int 0]), .inl (4, 4, .inr (.inr (.inr (.inr (rowF [2, 3, 4, 5]))))), .inl (0, 6, .inl (fun _ => 0)), .inl (0, 6, .inl (fun _ => 0)), .inl (0, 6, .inl (fun _ => 0)), .inl (0, 6, .inl (fun _ => 0)), .inl (4, 4, .inr (.inr (.inr (.inr (rowF [7, 8, 9, 10]))))), .inl (0, 6, .inl (fun _ => 0)), .inl (0, 6, .inl (fun _ => 0)), .inl (0, 6, .inl (fun _ => 0)), .inl (0, 6, .inl (fun _ => 0))] rfl ?_
  refine g_aload_n (n := 0) (x := 0) rfl (show decode cX5_init 26 = .ok (.aload_n 0, 1) by decide +kernel) ?_
  refine g_bipush (show decode cX5_init 27 = .ok (.bipush 6, 2) by decide +kernel) ?_
  refine g_newa (t := 1) (N := 6) (ty := .boolean) rfl (by decide) arr_boolean (by decide) (by decide) (by decide) (show decode cX5_init 29 = .ok (.newarray .boolean, 2) by decide +kernel) ⟨rfl, ⟨(rf_row rfl), ⟨trivial, ⟨trivial, ⟨trivial, ⟨trivial, ⟨(rf_row rfl), ⟨trivial, ⟨trivial, ⟨trivial, ⟨trivial, trivial⟩⟩⟩⟩⟩⟩⟩⟩⟩⟩⟩ rfl rfl (by decide) (by decide) ?_
  refine g_eqw [.inr (5, [.ref 1, .ref 6, .null, .null, .null, .int 0]), .inl (4, 4, .inr (.inr (.inr (.inr (rowF [2, 3, 4, 5]))))), .inl (0, 6, .inl (fun _ => 0)), .inl (0, 6, .inl (fun _ => 0)), .inl (0, 6, .inl (fun _ => 0)), .inl (0, 6, .inl (fun _ => 0)), .inl (4, 4, .inr (.inr (.inr (.inr (rowF [7, 8, 9, 10]))))), .inl (0, 6, .inl (fun _ => 0)), .inl (0, 6, .inl (fun _ => 0)), .inl (0, 6, .inl (fun _ => 0)), .inl (0, 6, .inl (fun _ => 0)), .inl (1, 6, .inl (fun _ => 0))] rfl ?_
  refine g_putF (ci := 5) (k := 2) rfl rfl rfl rfl rfl rfl rfl (by first | exact Or.inl ⟨_, rfl⟩ | exact Or.inr ⟨_, rfl⟩) (show decode cX5_init 31 = .ok (.putfield 19, 3) by decide +kernel) ?_
  refine g_eqw [.inr (5, [.ref 1, .ref 6, .ref 11, .null, .null, .int 0]), .inl (4, 4, .inr (.inr (.inr (.inr (rowF [2, 3, 4, 5]))))), .inl (0, 6, .inl (fun _ => 0)), .inl (0, 6, .inl (fun _ => 0)), .inl (0, 6, .inl (fun _ => 0)), .inl (0, 6, .inl (fun _ => 0)), .inl (4, 4, .inr (.inr (.inr (.inr (rowF [7, 8, 9, 10]))))), .inl (0, 6, .inl (fun _ => 0)), .inl (0, 6, .inl (fun _ => 0)), .inl (0, 6, .inl (fun _ => 0)), .inl (0, 6, .inl (fun _ => 0)), .inl (1, 6, .inl (fun _ => 0))] rfl ?_
  refine g_aload_n (n := 0) (x := 0) rfl (show decode cX5_init 34 = .ok (.aload_n 0, 1) by decide +kernel) ?_
  refine g_bipush (show decode cX5_init 35 = .ok (.bipush 6, 2) by decide +kernel) ?_
  refine g_newa (t := 1) (N := 6) (ty := .boolean) rfl (by decide) arr_boolean (by decide) (by decide) (by decide) (show decode cX5_init 37 = .ok (.newarray .boolean, 2) by decide +kernel) ⟨rfl, ⟨(rf_row rfl), ⟨trivial, ⟨trivial, ⟨trivial, ⟨trivial, ⟨(rf_row rfl), ⟨trivial, ⟨trivial, ⟨trivial, ⟨trivial, ⟨trivial, trivial⟩⟩⟩⟩⟩⟩⟩⟩⟩⟩⟩⟩ rfl rfl (by decide) (by decide) ?_
  refine g_eqw [.inr (5, [.ref 1, .ref 6, .ref 11, .null, .null, .int 0]), .inl (4, 4, .inr (.inr (.inr (.inr (rowF [2, 3, 4, 5]))))), .inl (0, 6, .inl (fun _ => 0)), .inl (0, 6, .inl (fun _ => 0)), .inl (0, 6, .inl (fun _ => 0)), .inl (0, 6, .inl (fun _ => 0)), .inl (4, 4, .inr (.inr (.inr (.inr (rowF [7, 8, 9, 10]))))), .inl (0, 6, .inl (fun _ => 0)), .inl (0, 6, .inl (fun _ => 0)), .inl (0, 6, .inl (fun _ => 0)), .inl (0, 6, .inl (fun _ => 0)), .inl (1, 6, .inl (fun _ => 0)), .inl (1, 6, .inl (fun _ => 0))] rfl ?_
  refine g_putF (ci := 5) (k := 3) rfl rfl rfl rfl rfl rfl rfl (by first | exact Or.inl ⟨_, rfl⟩ | exact Or.inr ⟨_, rfl⟩) (show decode cX5_init 39 = .ok (.putfield 23, 3) by decide +kernel) ?_
  refine g_eqw [.inr (5, [.ref 1, .ref 6, .ref 11, .ref 12, .null, .int 0]), .inl (4, 4, .inr (.inr (.inr (.inr (rowF [2, 3, 4, 5]))))), .inl (0, 6, .inl (fun _ => 0)), .inl (0, 6, .inl (fun _ => 0)), .inl (0, 6, .inl (fun _ => 0)), .inl (0, 6, .inl (fun _ => 0)), .inl (4, 4, .inr (.inr (.inr (.inr (rowF [7, 8, 9, 10]))))), .inl (0, 6, .inl (fun _ => 0)), .inl (0, 6, .inl (fun _ => 0)), .inl (0, 6, .inl (fun _ => 0)), .inl (0, 6, .inl (fun _ => 0)), .inl (1, 6, .inl (fun _ => 0)), .inl (1, 6, .inl (fun _ => 0))] rfl ?_
  refine g_aload_n (n := 0) (x := 0) rfl (show decode cX5_init 42 = .ok (.aload_n 0, 1) by decide +kernel) ?_
  refine g_iconst (show decode cX5_init 43 = .ok (.iconst 4, 1) by decide +kernel) ?_
  refine g_newa (t := 0) (N := 4) (ty := .int) rfl (by decide) arr_int (by decide) (by decide) (by decide) (show decode cX5_init 44 = .ok (.newarray .int, 2) by decide +kernel) ⟨rfl, ⟨(rf_row rfl), ⟨trivial, ⟨trivial, ⟨trivial, ⟨trivial, ⟨(rf_row rfl), ⟨trivial, ⟨trivial, ⟨trivial, ⟨trivial, ⟨trivial, ⟨trivial, trivial⟩⟩⟩⟩⟩⟩⟩⟩⟩⟩⟩⟩⟩ rfl rfl (by decide) (by decide) ?_
  refine g_eqw [.inr (5, [.ref 1, .ref 6, .ref 11, .ref 12, .null, .int 0]), .inl (4, 4, .inr (.inr (.inr (.inr (rowF [2, 3, 4, 5]))))), .inl (0, 6, .inl (fun _ => 0)), .inl (0, 6, .inl (fun _ => 0)), .inl (0, 6, .inl (fun _ => 0)), .inl (0, 6, .inl (fun _ => 0)), .inl (4, 4, .inr (.inr (.inr (.inr (rowF [7, 8, 9, 10]))))), .inl (0, 6, .inl (fun _ => 0)), .inl (0, 6, .inl (fun _ => 0)), .inl (0, 6, .inl (fun _ => 0)), .inl (0, 6, .inl (fun _ => 0)), .inl (1, 6, .inl (fun _ => 0)), .inl (1, 6, .inl (fun _ => 0)), .inl (0, 4, .inl (fun _ => 0))] rfl ?_
  refine g_putF (ci := 5) (k := 4) rfl rfl rfl rfl rfl rfl rfl (by first | exact Or.inl ⟨_, rfl⟩ | exact Or.inr ⟨_, rfl⟩) (show decode cX5_init 46 = .ok (.putfield 26, 3) by decide +kernel) ?_
  refine g_eqw [.inr (5, [.ref 1, .ref 6, .ref 11, .ref 12, .ref 13, .int 0]), .inl (4, 4, .inr (.inr (.inr (.inr (rowF [2, 3, 4, 5]))))), .inl (0, 6, .inl (fun _ => 0)), .inl (0, 6, .inl (fun _ => 0)), .inl (0, 6, .inl (fun _ => 0)), .inl (0, 6, .inl (fun _ => 0)), .inl (4, 4, .inr (.inr (.inr (.inr (rowF [7, 8, 9, 10]))))), .inl (0, 6, .inl (fun _ => 0)), .inl (0, 6, .inl (fun _ => 0)), .inl (0, 6, .inl (fun _ => 0)), .inl (0, 6, .inl (fun _ => 0)), .inl (1, 6, .inl (fun _ => 0)), .inl (1, 6, .inl (fun _ => 0)), .inl (0, 4, .inl (fun _ => 0))] rfl ?_
  exact g_ret (show decode cX5_init 49 = .ok (.return_, 1) by decide +kernel) rfl ⟨Nat.le_refl _, Nat.le_refl _⟩ ⟨rfl, rfl⟩

set_option maxRecDepth 20000 in
set_option maxHeartbeats 4000000 in
theorem s_X0_init : Spec 2 15 156 mX0_init [.ref 0] [.inr (0, [.null, .null, .null])] (RV ([.inr (0, [.ref 1, .ref 6, .ref 11]), .inr (1, [.ref 2, .ref 3, .ref 4, .ref 5]), .inl (0, 8, .inl (fun _ => 0)), .inl (0, 8, .inl (fun _ => 0)), .inl (0, 8, .inl (fun _ => 0)), .inl (0, 8, .inl (fun _ => 0)), .inl (4, 4, .inr (.inr (.inr (.inr (rowF [7, 8, 9, 10]))))), .inl (0, 20, .inl (fun _ => 0)), .inl (0, 20, .inl (fun _ => 0)), .inl (0, 20, .inl (fun _ => 0)), .inl (0, 20, .inl (fun _ => 0)), .inl (4, 4, .inr (.inr (.inr (.inr (rowF [12, 13, 14, 15]))))), .inl (0, 8, .inl (fun _ => 0)), .inl (0, 8, .inl (fun _ => 0)), .inl (0, 8, .inl (fun _ => 0)), .inl (0, 8, .inl (fun _ => 0))])) := by
  refine Spec.of rfl (Nat.le_of_ble_eq_true rfl) (Nat.le_of_ble_eq_true rfl) fun sc => ?_
  refine g_aload_n (n := 0) (x := 0) rfl (show decode cX0_init 0 = .ok (.aload_n 0, 1) by decide +kernel) ?_
  refine g_objI (q := 0) lkO0 lkOi lkOc (by decide) (show decode cX0_init 1 = .ok (.invokespecial 3, 3) by decide +kernel) (Nat.le_of_ble_eq_true rfl) ?_
  refine g_aload_n (n := 0) (x := 0) rfl (show decode cX0_init 4 = .ok (.aload_n 0, 1) by decide +kernel) ?_
  refine g_new (ci := 1) (fs := [.null, .null, .null, .null]) rfl dv1 rfl cl0_1 ins1 ini1 (show decode cX0_init 5 = .ok (.new 9, 3) by decide +kernel) ⟨rfl, trivial⟩ rfl rfl (by decide) (by decide) ?_
  refine g_eqw [.inr (0, [.null, .null, .null]), .inr (1, [.null, .null, .null, .null])] rfl ?_
  refine g_dupr (show decode cX0_init 8 = .ok (.dup, 1) by decide +kernel) ?_
  refine g_callI (d1 := 1) (mc1 := 4) (ms1 := 32) (w0 := [.inr (0, [.null, .null, .null])]) (w2 := [.inr (1, [.ref 1, .ref 2, .ref 3, .ref 4]), .inl (0, 8, .inl (fun _ => 0)), .inl (0, 8, .inl (fun _ => 0)), .inl (0, 8, .inl (fun _ => 0)), .inl (0, 8, .inl (fun _ => 0))]) rfl rfl cwX1_init rfl (by decide) (by decide) (by decide) rfl rfl ⟨rfl, trivial⟩ rfl rfl (by decide) (by decide) ⟨rfl, ⟨trivial, ⟨trivial, ⟨trivial, ⟨trivial, trivial⟩⟩⟩⟩⟩ (Nat.le_of_ble_eq_true rfl) (show decode cX0_init 9 = .ok (.invokespecial 11, 3) by decide +kernel) s_X1_init ?_
  refine g_eqw [.inr (0, [.null, .null, .null]), .inr (1, [.ref 2, .ref 3, .ref 4, .ref 5]), .inl (0, 8, .inl (fun _ => 0)), .inl (0, 8, .inl (fun _ => 0)), .inl (0, 8, .inl (fun _ => 0)), .inl (0, 8, .inl (fun _ => 0))] (by rfl) ?_
  refine g_putF (ci := 0) (k := 0) rfl rfl rfl rfl rfl rfl rfl (by first | exact Or.inl ⟨_, rfl⟩ | exact Or.inr ⟨_, rfl⟩) (show decode cX0_init 12 = .ok (.putfield 12, 3) by decide +kernel) ?_
  refine g_eqw [.inr (0, [.ref 1, .null, .null]), .inr (1, [.ref 2, .ref 3, .ref 4, .ref 5]), .inl (0, 8, .inl (fun _ => 0)), .inl (0, 8, .inl (fun _ => 0)), .inl (0, 8, .inl (fun _ => 0)), .inl (0, 8, .inl (fun _ => 0))] rfl ?_
  refine g_aload_n (n := 0) (x := 0) rfl (show decode cX0_init 15 = .ok (.aload_n 0, 1) by decide +kernel) ?_
  refine g_iconst (show decode cX0_init 16 = .ok (.iconst 4, 1) by decide +kernel) ?_
  refine g_bipush (show decode cX0_init 17 = .ok (.bipush 20, 2) by decide +kernel) ?_
  refine g_mna (N := 4) (K := 20) lk2_0 ov_I arr_int (by decide) (by decide) (by decide) (by decide) (by decide) (by decide) (show decode cX0_init 19 = .ok (.multianewarray 18 2, 4) by decide +kernel) ⟨rfl, ⟨rfl, ⟨trivial, ⟨trivial, ⟨trivial, ⟨trivial, trivial⟩⟩⟩⟩⟩⟩ rfl rfl (by decide) (by decide) ?_
  refine g_eqw [.inr (0, [.ref 1, .null, .null]), .inr (1, [.ref 2, .ref 3, .ref 4, .ref 5]), .inl (0, 8, .inl (fun _ => 0)), .inl (0, 8, .inl (fun _ => 0)), .inl (0, 8, .inl (fun _ => 0)), .inl (0, 8, .inl (fun _ => 0)), .inl (4, 4, .inr (.inr (.inr (.inr (rowF [7, 8, 9, 10]))))), .inl (0, 20, .inl (fun _ => 0)), .inl (0, 20, .inl (fun _ => 0)), .inl (0, 20, .inl (fun _ => 0)), .inl (0, 20, .inl (fun _ => 0))] rfl ?_
  refine g_putF (ci := 0) (k := 1) rfl rfl rfl rfl rfl rfl rfl (by first | exact Or.inl ⟨_, rfl⟩ | exact Or.inr ⟨_, rfl⟩) (show decode cX0_init 23 = .ok (.putfield 20, 3) by decide +kernel) ?_
  refine g_eqw [.inr (0, [.ref 1, .ref 6, .null]), .inr (1, [.ref 2, .ref 3, .ref 4, .ref 5]), .inl (0, 8, .inl (fun _ => 0)), .inl (0, 8, .inl (fun _ => 0)), .inl (0, 8, .inl (fun _ => 0)), .inl (0, 8, .inl (fun _ => 0)), .inl (4, 4, .inr (.inr (.inr (.inr (rowF [7, 8, 9, 10]))))), .inl (0, 20, .inl (fun _ => 0)), .inl (0, 20, .inl (fun _ => 0)), .inl (0, 20, .inl (fun _ => 0)), .inl (0, 20, .inl (fun _ => 0))] rfl ?_
  refine g_aload_n (n := 0) (x := 0) rfl (show decode cX0_init 26 = .ok (.aload_n 0, 1) by decide +kernel) ?_
  refine g_iconst (show decode cX0_init 27 = .ok (.iconst 4, 1) by decide +kernel) ?_
  refine g_bipush (show decode cX0_init 28 = .ok (.bipush 8, 2) by decide +kernel) ?_
  refine g_mna (N := 4) (K := 8) lk2_0 ov_I arr_int (by decide) (by decide) (by decide) (by decide) (by decide) (by decide) (show decode cX0_init 30 = .ok (.multianewarray 18 2, 4) by decide +kernel) ⟨rfl, ⟨rfl, ⟨trivial, ⟨trivial, ⟨trivial, ⟨trivial, ⟨(rf_row rfl), ⟨trivial, ⟨trivial, ⟨trivial, ⟨trivial, trivial⟩⟩⟩⟩⟩⟩⟩⟩⟩⟩⟩ rfl rfl (by decide) (by decide) ?_
  refine g_eqw [.inr (0, [.ref 1, .ref 6, .null]), .inr (1, [.ref 2, .ref 3, .ref 4, .ref 5]), .inl (0, 8, .inl (fun _ => 0)), .inl (0, 8, .inl (fun _ => 0)), .inl (0, 8, .inl (fun _ => 0)), .inl (0, 8, .inl (fun _ => 0)), .inl (4, 4, .inr (.inr (.inr (.inr (rowF [7, 8, 9, 10]))))), .inl (0, 20, .inl (fun _ => 0)), .inl (0, 20, .inl (fun _ => 0)), .inl (0, 20, .inl (fun _ => 0)), .inl (0, 20, .inl (fun _ => 0)), .inl (4, 4, .inr (.inr (.inr (.inr (rowF [12, 13, 14, 15]))))), .inl (0, 8, .inl (fun _ => 0)), .inl (0, 8, .inl (fun _ => 0)), .inl (0, 8, .inl (fun _ => 0)), .inl (0, 8, .inl (fun _ => 0))] rfl ?_
  refine g_putF (ci := 0) (k := 2) rfl rfl rfl rfl rfl rfl rfl (by first | exact Or.inl ⟨_, rfl⟩ | exact Or.inr ⟨_, rfl⟩) (show decode cX0_init 34 = .ok (.putfield 23, 3) by decide +kernel) ?_
  refine g_eqw [.inr (0, [.ref 1, .ref 6, .ref 11]), .inr (1, [.ref 2, .ref 3, .ref 4, .ref 5]), .inl (0, 8, .inl (fun _ => 0)), .inl (0, 8, .inl (fun _ => 0)), .inl (0, 8, .inl (fun _ => 0)), .inl (0, 8, .inl (fun _ => 0)), .inl (4, 4, .inr (.inr (.inr (.inr (rowF [7, 8, 9, 10]))))), .inl (0, 20, .inl (fun _ => 0)), .inl (0, 20, .inl (fun _ => 0)), .inl (0, 20, .inl (fun _ => 0)), .inl (0, 20, .inl (fun _ => 0)), .inl (4, 4, .inr (.inr (.inr (.inr (rowF [12, 13, 14, 15]))))), .inl (0, 8, .inl (fun _ => 0)), .inl (0, 8, .inl (fun _ => 0)), .inl (0, 8, .inl (fun _ => 0)), .inl (0, 8, .inl (fun _ => 0))] rfl ?_
  exact g_ret (show decode cX0_init 37 = .ok (.return_, 1) by decide +kernel) rfl ⟨Nat.le_refl _, Nat.le_refl _⟩ ⟨rfl, rfl⟩

set_option maxRecDepth 20000 in
set_option maxHeartbeats 4000000 in
theorem s_X9_init : Spec 1 16 1579 mX9_init [.ref 0] [.inr (9, [.null, .null, .null, .null, .null, .null, .null, .null, .int 0, .null, .int 0, .int 0, .int 0, .null, .null, .null, .null, .null, .int 0, .int 0, .int 0, .int 0, .null, .int 0, .int 0, .int 0, .int 0, .int 0, .null, .int 0])] (RV ([.inr (9, [.ref 1, .ref 2, .ref 3, .ref 4, .ref 5, .ref 6, .ref 7, .ref 8, .int 0, .ref 9, .int 0, .int 0, .int 0, .ref 10, .ref 11, .ref 12, .ref 13, .ref 14, .int 0, .int 0, .int 0, .int 0, .ref 15, .int 0, .int 0, .int 0, .int 0, .int 0, .ref 16, .int 0]), .inl (0, 248, .inl (upd (upd (upd (upd (fun _ => 0) 0 6) 1 6) 4 7) 5 1)), .inl (0, 496, .inl (fun _ => 0)), .inl (1, 2, .inl (fun _ => 0)), .inl (0, 3, .inl (fun _ => 0)), .inl (0, 36, .inl (fun _ => 0)), .inl (0, 36, .inl (fun _ => 0)), .inl (0, 36, .inl (fun _ => 0)), .inl (1, 36, .inl (fun _ => 0)), .inl (0, 20, .inl (fun _ => 0)), .inl (0, 36, .inl (fun _ => 0)), .inl (0, 100, .inl (fun _ => 0)), .inl (0, 5, .inl (fun _ => 0)), .inl (1, 5, .inl (fun _ => 0)), .inl (0, 20, .inl (fun _ => 0)), .inl (0, 200, .inl (fun _ => 0)), .inl (0, 300, .inl (fun _ => 0))])) := by
  refine Spec.of rfl (Nat.le_of_ble_eq_true rfl) (Nat.le_of_ble_eq_true rfl) fun sc => ?_
  refine g_aload_n (n := 0) (x := 0) rfl (show decode cX9_init 0 = .ok (.aload_n 0, 1) by decide +kernel) ?_
  refine g_objI (q := 0) lkO9 lkOi lkOc (by decide) (show decode cX9_init 1 = .ok (.invokespecial 1, 3) by decide +kernel) (Nat.le_of_ble_eq_true rfl) ?_
  refine g_aload_n (n := 0) (x := 0) rfl (show decode cX9_init 4 = .ok (.aload_n 0, 1) by decide +kernel) ?_
  refine g_sipush (show decode cX9_init 5 = .ok (.sipush 248, 3) by decide +kernel) ?_
  refine g_newa (t := 0) (N := 248) (ty := .int) rfl (by decide) arr_int (by decide) (by decide) (by decide) (show decode cX9_init 8 = .ok (.newarray .int, 2) by decide +kernel) ⟨rfl, trivial⟩ rfl rfl (by decide) (by decide) ?_
  refine g_eqw [.inr (9, [.null, .null, .null, .null, .null, .null, .null, .null, .int 0, .null, .int 0, .int 0, .int 0, .null, .null, .null, .null, .null, .int 0, .int 0, .int 0, .int 0, .null, .int 0, .int 0, .int 0, .int 0, .int 0, .null, .int 0]), .inl (0, 248, .inl (fun _ => 0))] rfl ?_
  refine g_putF (ci := 9) (k := 0) rfl rfl rfl rfl rfl rfl rfl (by first | exact Or.inl ⟨_, rfl⟩ | exact Or.inr ⟨_, rfl⟩) (show decode cX9_init 10 = .ok (.putfield 7, 3) by decide +kernel) ?_
  refine g_eqw [.inr (9, [.ref 1, .null, .null, .null, .null, .null, .null, .null, .int 0, .null, .int 0, .int 0, .int 0, .null, .null, .null, .null, .null, .int 0, .int 0, .int 0, .int 0, .null, .int 0, .int 0, .int 0, .int 0, .int 0, .null, .int 0]), .inl (0, 248, .inl (fun _ => 0))] rfl ?_
  refine g_aload_n (n := 0) (x := 0) rfl (show decode cX9_init 13 = .ok (.aload_n 0, 1) by decide +kernel) ?_
  refine g_sipush (show decode cX9_init 14 = .ok (.sipush 496, 3) by decide +kernel) ?_
  refine g_newa (t := 0) (N := 496) (ty := .int) rfl (by decide) arr_int (by decide) (by decide) (by decide) (show decode cX9_init 17 = .ok (.newarray .int, 2) by decide +kernel) ⟨rfl, ⟨trivial, trivial⟩⟩ rfl rfl (by decide) (by decide) ?_
  refine g_eqw [.inr (9, [.ref 1, .null, .null, .null, .null, .null, .null, .null, .int 0, .null, .int 0, .int 0, .int 0, .null, .null, .null, .null, .null, .int 0, .int 0, .int 0, .int 0, .null, .int 0, .int 0, .int 0, .int 0, .int 0, .null, .int 0]), .inl (0, 248, .inl (fun _ => 0)), .inl (0, 496, .inl (fun _ => 0))] rfl ?_
  refine g_putF (ci := 9) (k := 1) rfl rfl rfl rfl rfl rfl rfl (by first | exact Or.inl ⟨_, rfl⟩ | exact Or.inr ⟨_, rfl⟩) (show decode cX9_init 19 = .ok (.putfield 13, 3) by decide +kernel) ?_
  refine g_eqw [.inr (9, [.ref 1, .ref 2, .null, .null, .null, .null, .null, .null, .int 0, .null, .int 0, .int 0, .int 0, .null, .null, .null, .null, .null, .int 0, .int 0, .int 0, .int 0, .null, .int 0, .int 0, .int 0, .int 0, .int 0, .null, .int 0]), .inl (0, 248, .inl (fun _ => 0)), .inl (0, 496, .inl (fun _ => 0))] rfl ?_
  refine g_aload_n (n := 0) (x := 0) rfl (show decode cX9_init 22 = .ok (.aload_n 0, 1) by decide +kernel) ?_
  refine g_iconst (show decode cX9_init 23 = .ok (.iconst 2, 1) by decide +kernel) ?_
  refine g_newa (t := 1) (N := 2) (ty := .boolean) rfl (by decide) arr_boolean (by decide) (by decide) (by decide) (show decode cX9_init 24 = .ok (.newarray .boolean, 2) by decide +kernel) ⟨rfl, ⟨trivial, ⟨trivial, trivial⟩⟩⟩ rfl rfl (by decide) (by decide) ?_
  refine g_eqw [.inr (9, [.ref 1, .ref 2, .null, .null, .null, .null, .null, .null, .int 0, .null, .int 0, .int 0, .int 0, .null, .null, .null, .null, .null, .int 0, .int 0, .int 0, .int 0, .null, .int 0, .int 0, .int 0, .int 0, .int 0, .null, .int 0]), .inl (0, 248, .inl (fun _ => 0)), .inl (0, 496, .inl (fun _ => 0)), .inl (1, 2, .inl (fun _ => 0))] rfl ?_
  refine g_putF (ci := 9) (k := 2) rfl rfl rfl rfl rfl rfl rfl (by first | exact Or.inl ⟨_, rfl⟩ | exact Or.inr ⟨_, rfl⟩) (show decode cX9_init 26 = .ok (.putfield 16, 3) by decide +kernel) ?_
  refine g_eqw [.inr (9, [.ref 1, .ref 2, .ref 3, .null, .null, .null, .null, .null, .int 0, .null, .int 0, .int 0, .int 0, .null, .null, .null, .null, .null, .int 0, .int 0, .int 0, .int 0, .null, .int 0, .int 0, .int 0, .int 0, .int 0, .null, .int 0]), .inl (0, 248, .inl (fun _ => 0)), .inl (0, 496, .inl (fun _ => 0)), .inl (1, 2, .inl (fun _ => 0))] rfl ?_
  refine g_aload_n (n := 0) (x := 0) rfl (show decode cX9_init 29 = .ok (.aload_n 0, 1) by decide +kernel) ?_
  refine g_iconst (show decode cX9_init 30 = .ok (.iconst 3, 1) by decide +kernel) ?_
  refine g_newa (t := 0) (N := 3) (ty := .int) rfl (by decide) arr_int (by decide) (by decide) (by decide) (show decode cX9_init 31 = .ok (.newarray .int, 2) by decide +kernel) ⟨rfl, ⟨trivial, ⟨trivial, ⟨trivial, trivial⟩⟩⟩⟩ rfl rfl (by decide) (by decide) ?_
  refine g_eqw [.inr (9, [.ref 1, .ref 2, .ref 3, .null, .null, .null, .null, .null, .int 0, .null, .int 0, .int 0, .int 0, .null, .null, .null, .null, .null, .int 0, .int 0, .int 0, .int 0, .null, .int 0, .int 0, .int 0, .int 0, .int 0, .null, .int 0]), .inl (0, 248, .inl (fun _ => 0)), .inl (0, 496, .inl (fun _ => 0)), .inl (1, 2, .inl (fun _ => 0)), .inl (0, 3, .inl (fun _ => 0))] rfl ?_
  refine g_putF (ci := 9) (k := 3) rfl rfl rfl rfl rfl rfl rfl (by first | exact Or.inl ⟨_, rfl⟩ | exact Or.inr ⟨_, rfl⟩) (show decode cX9_init 33 = .ok (.putfield 20, 3) by decide +kernel) ?_
  refine g_eqw [.inr (9, [.ref 1, .ref 2, .ref 3, .ref 4, .null, .null, .null, .null, .int 0, .null, .int 0, .int 0, .int 0, .null, .null, .null, .null, .null, .int 0, .int 0, .int 0, .int 0, .null, .int 0, .int 0, .int 0, .int 0, .int 0, .null, .int 0]), .inl (0, 248, .inl (fun _ => 0)), .inl (0, 496, .inl (fun _ => 0)), .inl (1, 2, .inl (fun _ => 0)), .inl (0, 3, .inl (fun _ => 0))] rfl ?_
  refine g_aload_n (n := 0) (x := 0) rfl (show decode cX9_init 36 = .ok (.aload_n 0, 1) by decide +kernel) ?_
  refine g_bipush (show decode cX9_init 37 = .ok (.bipush 36, 2) by decide +kernel) ?_
  refine g_newa (t := 0) (N := 36) (ty := .int) rfl (by decide) arr_int (by decide) (by decide) (by decide) (show decode cX9_init 39 = .ok (.newarray .int, 2) by decide +kernel) ⟨rfl, ⟨trivial, ⟨trivial, ⟨trivial, ⟨trivial, trivial⟩⟩⟩⟩⟩ rfl rfl (by decide) (by decide) ?_
  refine g_eqw [.inr (9, [.ref 1, .ref 2, .ref 3, .ref 4, .null, .null, .null, .null, .int 0, .null, .int 0, .int 0, .int 0, .null, .null, .null, .null, .null, .int 0, .int 0, .int 0, .int 0, .null, .int 0, .int 0, .int 0, .int 0, .int 0, .null, .int 0]), .inl (0, 248, .inl (fun _ => 0)), .inl (0, 496, .inl (fun _ => 0)), .inl (1, 2, .inl (fun _ => 0)), .inl (0, 3, .inl (fun _ => 0)), .inl (0, 36, .inl (fun _ => 0))] rfl ?_
  refine g_putF (ci := 9) (k := 4) rfl rfl rfl rfl rfl rfl rfl (by first | exact Or.inl ⟨_, rfl⟩ | exact Or.inr ⟨_, rfl⟩) (show decode cX9_init 41 = .ok (.putfield 23, 3) by decide +kernel) ?_
  refine g_eqw [.inr (9, [.ref 1, .ref 2, .ref 3, .ref 4, .ref 5, .null, .null, .null, .int 0, .null, .int 0, .int 0, .int 0, .null, .null, .null, .null, .null, .int 0, .int 0, .int 0, .int 0, .null, .int 0, .int 0, .int 0, .int 0, .int 0, .null, .int 0]), .inl (0, 248, .inl (fun _ => 0)), .inl (0, 496, .inl (fun _ => 0)), .inl (1, 2, .inl (fun _ => 0)), .inl (0, 3, .inl (fun _ => 0)), .inl (0, 36, .inl (fun _ => 0))] rfl ?_
  refine g_aload_n (n := 0) (x := 0) rfl (show decode cX9_init 44 = .ok (.aload_n 0, 1) by decide +kernel) ?_
  refine g_bipush (show decode cX9_init 45 = .ok (.bipush 36, 2) by decide +kernel) ?_
  refine g_newa (t := 0) (N := 36) (ty := .int) rfl (by decide) arr_int (by decide) (by decide) (by decide) (show decode cX9_init 47 = .ok (.newarray .int, 2) by decide +kernel) ⟨rfl, ⟨trivial, ⟨trivial, ⟨trivial, ⟨trivial, ⟨trivial, trivial⟩⟩⟩⟩⟩⟩ rfl rfl (by decide) (by decide) ?_
  refine g_eqw [.inr (9, [.ref 1, .ref 2, .ref 3, .ref 4, .ref 5, .null, .null, .null, .int 0, .null, .int 0, .int 0, .int 0, .null, .null, .null, .null, .null, .int 0, .int 0, .int 0, .int 0, .null, .int 0, .int 0, .int 0, .int 0, .int 0, .null, .int 0]), .inl (0, 248, .inl (fun _ => 0)), .inl (0, 496, .inl (fun _ => 0)), .inl (1, 2, .inl (fun _ => 0)), .inl (0, 3, .inl (fun _ => 0)), .inl (0, 36, .inl (fun _ => 0)), .inl (0, 36, .inl (fun _ => 0))] rfl ?_
  refine g_putF (ci := 9) (k := 5) rfl rfl rfl rfl rfl rfl rfl (by first | exact Or.inl ⟨_, rfl⟩ | exact Or.inr ⟨_, rfl⟩) (show decode cX9_init 49 = .ok (.putfield 26, 3) by decide +kernel) ?_
  refine g_eqw [.inr (9, [.ref 1, .ref 2, .ref 3, .ref 4, .ref 5, .ref 6, .null, .null, .int 0, .null, .int 0, .int 0, .int 0, .null, .null, .null, .null, .null, .int 0, .int 0, .int 0, .int 0, .null, .int 0, .int 0, .int 0, .int 0, .int 0, .null, .int 0]), .inl (0, 248, .inl (fun _ => 0)), .inl (0, 496, .inl (fun _ => 0)), .inl (1, 2, .inl (fun _ => 0)), .inl (0, 3, .inl (fun _ => 0)), .inl (0, 36, .inl (fun _ => 0)), .inl (0, 36, .inl (fun _ => 0))] rfl ?_
  refine g_aload_n (n := 0) (x := 0) rfl (show decode cX9_init 52 = .ok (.aload_n 0, 1) by decide +kernel) ?_
  refine g_bipush (show decode cX9_init 53 = .ok (.bipush 36, 2) by decide +kernel) ?_
  refine g_newa (t := 0) (N := 36) (ty := .int) rfl (by decide) arr_int (by decide) (by decide) (by decide) (show decode cX9_init 55 = .ok (.newarray .int, 2) by decide +kernel) ⟨rfl, ⟨trivial, ⟨trivial, ⟨trivial, ⟨trivial, ⟨trivial, ⟨trivial, trivial⟩⟩⟩⟩⟩⟩⟩ rfl rfl (by decide) (by decide) ?_
  refine g_eqw [.inr (9, [.ref 1, .ref 2, .ref 3, .ref 4, .ref 5, .ref 6, .null, .null, .int 0, .null, .int 0, .int 0, .int 0, .null, .null, .null, .null, .null, .int 0, .int 0, .int 0, .int 0, .null, .int 0, .int 0, .int 0, .int 0, .int 0, .null, .int 0]), .inl (0, 248, .inl (fun _ => 0)), .inl (0, 496, .inl (fun _ => 0)), .inl (1, 2, .inl (fun _ => 0)), .inl (0, 3, .inl (fun _ => 0)), .inl (0, 36, .inl (fun _ => 0)), .inl (0, 36, .inl (fun _ => 0)), .inl (0, 36, .inl (fun _ => 0))] rfl ?_
  refine g_putF (ci := 9) (k := 6) rfl rfl rfl rfl rfl rfl rfl (by first | exact Or.inl ⟨_, rfl⟩ | exact Or.inr ⟨_, rfl⟩) (show decode cX9_init 57 = .ok (.putfield 29, 3) by decide +kernel) ?_
  refine g_eqw [.inr (9, [.ref 1, .ref 2, .ref 3, .ref 4, .ref 5, .ref 6, .ref 7, .null, .int 0, .null, .int 0, .int 0, .int 0, .null, .null, .null, .null, .null, .int 0, .int 0, .int 0, .int 0, .null, .int 0, .int 0, .int 0, .int 0, .int 0, .null, .int 0]), .inl (0, 248, .inl (fun _ => 0)), .inl (0, 496, .inl (fun _ => 0)), .inl (1, 2, .inl (fun _ => 0)), .inl (0, 3, .inl (fun _ => 0)), .inl (0, 36, .inl (fun _ => 0)), .inl (0, 36, .inl (fun _ => 0)), .inl (0, 36, .inl (fun _ => 0))] rfl ?_
  refine g_aload_n (n := 0) (x := 0) rfl (show decode cX9_init 60 = .ok (.aload_n 0, 1) by decide +kernel) ?_
  refine g_bipush (show decode cX9_init 61 = .ok (.bipush 36, 2) by decide +kernel) ?_
  refine g_newa (t := 1) (N := 36) (ty := .boolean) rfl (by decide) arr_boolean (by decide) (by decide) (by decide) (show decode cX9_init 63 = .ok (.newarray .boolean, 2) by decide +kernel) ⟨rfl, ⟨trivial, ⟨trivial, ⟨trivial, ⟨trivial, ⟨trivial, ⟨trivial, ⟨trivial, trivial⟩⟩⟩⟩⟩⟩⟩⟩ rfl rfl (by decide) (by decide) ?_
  refine g_eqw [.inr (9, [.ref 1, .ref 2, .ref 3, .ref 4, .ref 5, .ref 6, .ref 7, .null, .int 0, .null, .int 0, .int 0, .int 0, .null, .null, .null, .null, .null, .int 0, .int 0, .int 0, .int 0, .null, .int 0, .int 0, .int 0, .int 0, .int 0, .null, .int 0]), .inl (0, 248, .inl (fun _ => 0)), .inl (0, 496, .inl (fun _ => 0)), .inl (1, 2, .inl (fun _ => 0)), .inl (0, 3, .inl (fun _ => 0)), .inl (0, 36, .inl (fun _ => 0)), .inl (0, 36, .inl (fun _ => 0)), .inl (0, 36, .inl (fun _ => 0)), .inl (1, 36, .inl (fun _ => 0))] rfl ?_
  refine g_putF (ci := 9) (k := 7) rfl rfl rfl rfl rfl rfl rfl (by first | exact Or.inl ⟨_, rfl⟩ | exact Or.inr ⟨_, rfl⟩) (show decode cX9_init 65 = .ok (.putfield 32, 3) by decide +kernel) ?_
  refine g_eqw [.inr (9, [.ref 1, .ref 2, .ref 3, .ref 4, .ref 5, .ref 6, .ref 7, .ref 8, .int 0, .null, .int 0, .int 0, .int 0, .null, .null, .null, .null, .null, .int 0, .int 0, .int 0, .int 0, .null, .int 0, .int 0, .int 0, .int 0, .int 0, .null, .int 0]), .inl (0, 248, .inl (fun _ => 0)), .inl (0, 496, .inl (fun _ => 0)), .inl (1, 2, .inl (fun _ => 0)), .inl (0, 3, .inl (fun _ => 0)), .inl (0, 36, .inl (fun _ => 0)), .inl (0, 36, .inl (fun _ => 0)), .inl (0, 36, .inl (fun _ => 0)), .inl (1, 36, .inl (fun _ => 0))] rfl ?_
  refine g_aload_n (n := 0) (x := 0) rfl (show decode cX9_init 68 = .ok (.aload_n 0, 1) by decide +kernel) ?_
  refine g_bipush (show decode cX9_init 69 = .ok (.bipush 20, 2) by decide +kernel) ?_
  refine g_newa (t := 0) (N := 20) (ty := .int) rfl (by decide) arr_int (by decide) (by decide) (by decide) (show decode cX9_init 71 = .ok (.newarray .int, 2) by decide +kernel) ⟨rfl, ⟨trivial, ⟨trivial, ⟨trivial, ⟨trivial, ⟨trivial, ⟨trivial, ⟨trivial, ⟨trivial, trivial⟩⟩⟩⟩⟩⟩⟩⟩⟩ rfl rfl (by decide) (by decide) ?_
  refine g_eqw [.inr (9, [.ref 1, .ref 2, .ref 3, .ref 4, .ref 5, .ref 6, .ref 7, .ref 8, .int 0, .null, .int 0, .int 0, .int 0, .null, .null, .null, .null, .null, .int 0, .int 0, .int 0, .int 0, .null, .int 0, .int 0, .int 0, .int 0, .int 0, .null, .int 0]), .inl (0, 248, .inl (fun _ => 0)), .inl (0, 496, .inl (fun _ => 0)), .inl (1, 2, .inl (fun _ => 0)), .inl (0, 3, .inl (fun _ => 0)), .inl (0, 36, .inl (fun _ => 0)), .inl (0, 36, .inl (fun _ => 0)), .inl (0, 36, .inl (fun _ => 0)), .inl (1, 36, .inl (fun _ => 0)), .inl (0, 20, .inl (fun _ => 0))] rfl ?_
  refine g_putF (ci := 9) (k := 9) rfl rfl rfl rfl rfl rfl rfl (by first | exact Or.inl ⟨_, rfl⟩ | exact Or.inr ⟨_, rfl⟩) (show decode cX9_init 73 = .ok (.putfield 35, 3) by decide +kernel) ?_
  refine g_eqw [.inr (9, [.ref 1, .ref 2, .ref 3, .ref 4, .ref 5, .ref 6, .ref 7, .ref 8, .int 0, .ref 9, .int 0, .int 0, .int 0, .null, .null, .null, .null, .null, .int 0, .int 0, .int 0, .int 0, .null, .int 0, .int 0, .int 0, .int 0, .int 0, .null, .int 0]), .inl (0, 248, .inl (fun _ => 0)), .inl (0, 496, .inl (fun _ => 0)), .inl (1, 2, .inl (fun _ => 0)), .inl (0, 3, .inl (fun _ => 0)), .inl (0, 36, .inl (fun _ => 0)), .inl (0, 36, .inl (fun _ => 0)), .inl (0, 36, .inl (fun _ => 0)), .inl (1, 36, .inl (fun _ => 0)), .inl (0, 20, .inl (fun _ => 0))] rfl ?_
  refine g_aload_n (n := 0) (x := 0) rfl (show decode cX9_init 76 = .ok (.aload_n 0, 1) by decide +kernel) ?_
  refine g_bipush (show decode cX9_init 77 = .ok (.bipush 36, 2) by decide +kernel) ?_
  refine g_newa (t := 0) (N := 36) (ty := .int) rfl (by decide) arr_int (by decide) (by decide) (by decide) (show decode cX9_init 79 = .ok (.newarray .int, 2) by decide +kernel) ⟨rfl, ⟨trivial, ⟨trivial, ⟨trivial, ⟨trivial, ⟨trivial, ⟨trivial, ⟨trivial, ⟨trivial, ⟨trivial, trivial⟩⟩⟩⟩⟩⟩⟩⟩⟩⟩ rfl rfl (by decide) (by decide) ?_
  refine g_eqw [.inr (9, [.ref 1, .ref 2, .ref 3, .ref 4, .ref 5, .ref 6, .ref 7, .ref 8, .int 0, .ref 9, .int 0, .int 0, .int 0, .null, .null, .null, .null, .null, .int 0, .int 0, .int 0, .int 0, .null, .int 0, .int 0, .int 0, .int 0, .int 0, .null, .int 0]), .inl (0, 248, .inl (fun _ => 0)), .inl (0, 496, .inl (fun _ => 0)), .inl (1, 2, .inl (fun _ => 0)), .inl (0, 3, .inl (fun _ => 0)), .inl (0, 36, .inl (fun _ => 0)), .inl (0, 36, .inl (fun _ => 0)), .inl (0, 36, .inl (fun _ => 0)), .inl (1, 36, .inl (fun _ => 0)), .inl (0, 20, .inl (fun _ => 0)), .inl (0, 36, .inl (fun _ => 0))] rfl ?_
  refine g_putF (ci := 9) (k := 13) rfl rfl rfl rfl rfl rfl rfl (by first | exact Or.inl ⟨_, rfl⟩ | exact Or.inr ⟨_, rfl⟩) (show decode cX9_init 81 = .ok (.putfield 38, 3) by decide +kernel) ?_
  refine g_eqw [.inr (9, [.ref 1, .ref 2, .ref 3, .ref 4, .ref 5, .ref 6, .ref 7, .ref 8, .int 0, .ref 9, .int 0, .int 0, .int 0, .ref 10, .null, .null, .null, .null, .int 0, .int 0, .int 0, .int 0, .null, .int 0, .int 0, .int 0, .int 0, .int 0, .null, .int 0]), .inl (0, 248, .inl (fun _ => 0)), .inl (0, 496, .inl (fun _ => 0)), .inl (1, 2, .inl (fun _ => 0)), .inl (0, 3, .inl (fun _ => 0)), .inl (0, 36, .inl (fun _ => 0)), .inl (0, 36, .inl (fun _ => 0)), .inl (0, 36, .inl (fun _ => 0)), .inl (1, 36, .inl (fun _ => 0)), .inl (0, 20, .inl (fun _ => 0)), .inl (0, 36, .inl (fun _ => 0))] rfl ?_
  refine g_aload_n (n := 0) (x := 0) rfl (show decode cX9_init 84 = .ok (.aload_n 0, 1) by decide +kernel) ?_
  refine g_bipush (show decode cX9_init 85 = .ok (.bipush 100, 2) by decide +kernel) ?_
  refine g_newa (t := 0) (N := 100) (ty := .int) rfl (by decide) arr_int (by decide) (by decide) (by decide) (show decode cX9_init 87 = .ok (.newarray .int, 2) by decide +kernel) ⟨rfl, ⟨trivial, ⟨trivial, ⟨trivial, ⟨trivial, ⟨trivial, ⟨trivial, ⟨trivial, ⟨trivial, ⟨trivial, ⟨trivial, trivial⟩⟩⟩⟩⟩⟩⟩⟩⟩⟩⟩ rfl rfl (by decide) (by decide) ?_
  refine g_eqw [.inr (9, [.ref 1, .ref 2, .ref 3, .ref 4, .ref 5, .ref 6, .ref 7, .ref 8, .int 0, .ref 9, .int 0, .int 0, .int 0, .ref 10, .null, .null, .null, .null, .int 0, .int 0, .int 0, .int 0, .null, .int 0, .int 0, .int 0, .int 0, .int 0, .null, .int 0]), .inl (0, 248, .inl (fun _ => 0)), .inl (0, 496, .inl (fun _ => 0)), .inl (1, 2, .inl (fun _ => 0)), .inl (0, 3, .inl (fun _ => 0)), .inl (0, 36, .inl (fun _ => 0)), .inl (0, 36, .inl (fun _ => 0)), .inl (0, 36, .inl (fun _ => 0)), .inl (1, 36, .inl (fun _ => 0)), .inl (0, 20, .inl (fun _ => 0)), .inl (0, 36, .inl (fun _ => 0)), .inl (0, 100, .inl (fun _ => 0))] rfl ?_
  refine g_putF (ci := 9) (k := 14) rfl rfl rfl rfl rfl rfl rfl (by first | exact Or.inl ⟨_, rfl⟩ | exact Or.inr ⟨_, rfl⟩) (show decode cX9_init 89 = .ok (.putfield 41, 3) by decide +kernel) ?_
  refine g_eqw [.inr (9, [.ref 1, .ref 2, .ref 3, .ref 4, .ref 5, .ref 6, .ref 7, .ref 8, .int 0, .ref 9, .int 0, .int 0, .int 0, .ref 10, .ref 11, .null, .null, .null, .int 0, .int 0, .int 0, .int 0, .null, .int 0, .int 0, .int 0, .int 0, .int 0, .null, .int 0]), .inl (0, 248, .inl (fun _ => 0)), .inl (0, 496, .inl (fun _ => 0)), .inl (1, 2, .inl (fun _ => 0)), .inl (0, 3, .inl (fun _ => 0)), .inl (0, 36, .inl (fun _ => 0)), .inl (0, 36, .inl (fun _ => 0)), .inl (0, 36, .inl (fun _ => 0)), .inl (1, 36, .inl (fun _ => 0)), .inl (0, 20, .inl (fun _ => 0)), .inl (0, 36, .inl (fun _ => 0)), .inl (0, 100, .inl (fun _ => 0))] rfl ?_
  refine g_aload_n (n := 0) (x := 0) rfl (show decode cX9_init 92 = .ok (.aload_n 0, 1) by decide +kernel) ?_
  refine g_iconst (show decode cX9_init 93 = .ok (.iconst 5, 1) by decide +kernel) ?_
  refine g_newa (t := 0) (N := 5) (ty := .int) rfl (by decide) arr_int (by decide) (by decide) (by decide) (show decode cX9_init 94 = .ok (.newarray .int, 2) by decide +kernel) ⟨rfl, ⟨trivial, ⟨trivial, ⟨trivial, ⟨trivial, ⟨trivial, ⟨trivial, ⟨trivial, ⟨trivial, ⟨trivial, ⟨trivial, ⟨trivial, trivial⟩⟩⟩⟩⟩⟩⟩⟩⟩⟩⟩⟩ rfl rfl (by decide) (by decide) ?_
  refine g_eqw [.inr (9, [.ref 1, .ref 2, .ref 3, .ref 4, .ref 5, .ref 6, .ref 7, .ref 8, .int 0, .ref 9, .int 0, .int 0, .int 0, .ref 10, .ref 11, .null, .null, .null, .int 0, .int 0, .int 0, .int 0, .null, .int 0, .int 0, .int 0, .int 0, .int 0, .null, .int 0]), .inl (0, 248, .inl (fun _ => 0)), .inl (0, 496, .inl (fun _ => 0)), .inl (1, 2, .inl (fun _ => 0)), .inl (0, 3, .inl (fun _ => 0)), .inl (0, 36, .inl (fun _ => 0)), .inl (0, 36, .inl (fun _ => 0)), .inl (0, 36, .inl (fun _ => 0)), .inl (1, 36, .inl (fun _ => 0)), .inl (0, 20, .inl (fun _ => 0)), .inl (0, 36, .inl (fun _ => 0)), .inl (0, 100, .inl (fun _ => 0)), .inl (0, 5, .inl (fun _ => 0))] rfl ?_
  refine g_putF (ci := 9) (k := 15) rfl rfl rfl rfl rfl rfl rfl (by first | exact Or.inl ⟨_, rfl⟩ | exact Or.inr ⟨_, rfl⟩) (show decode cX9_init 96 = .ok (.putfield 44, 3) by decide +kernel) ?_
  refine g_eqw [.inr (9, [.ref 1, .ref 2, .ref 3, .ref 4, .ref 5, .ref 6, .ref 7, .ref 8, .int 0, .ref 9, .int 0, .int 0, .int 0, .ref 10, .ref 11, .ref 12, .null, .null, .int 0, .int 0, .int 0, .int 0, .null, .int 0, .int 0, .int 0, .int 0, .int 0, .null, .int 0]), .inl (0, 248, .inl (fun _ => 0)), .inl (0, 496, .inl (fun _ => 0)), .inl (1, 2, .inl (fun _ => 0)), .inl (0, 3, .inl (fun _ => 0)), .inl (0, 36, .inl (fun _ => 0)), .inl (0, 36, .inl (fun _ => 0)), .inl (0, 36, .inl (fun _ => 0)), .inl (1, 36, .inl (fun _ => 0)), .inl (0, 20, .inl (fun _ => 0)), .inl (0, 36, .inl (fun _ => 0)), .inl (0, 100, .inl (fun _ => 0)), .inl (0, 5, .inl (fun _ => 0))] rfl ?_
  refine g_aload_n (n := 0) (x := 0) rfl (show decode cX9_init 99 = .ok (.aload_n 0, 1) by decide +kernel) ?_
  refine g_iconst (show decode cX9_init 100 = .ok (.iconst 5, 1) by decide +kernel) ?_
  refine g_newa (t := 1) (N := 5) (ty := .boolean) rfl (by decide) arr_boolean (by decide) (by decide) (by decide) (show decode cX9_init 101 = .ok (.newarray .boolean, 2) by decide +kernel) ⟨rfl, ⟨trivial, ⟨trivial, ⟨trivial, ⟨trivial, ⟨trivial, ⟨trivial, ⟨trivial, ⟨trivial, ⟨trivial, ⟨trivial, ⟨trivial, ⟨trivial, trivial⟩⟩⟩⟩⟩⟩⟩⟩⟩⟩⟩⟩⟩ rfl rfl (by decide) (by decide) ?_
  refine g_eqw [.inr (9, [.ref 1, .ref 2, .ref 3, .ref 4, .ref 5, .ref 6, .ref 7, .ref 8, .int 0, .ref 9, .int 0, .int 0, .int 0, .ref 10, .ref 11, .ref 12, .null, .null, .int 0, .int 0, .int 0, .int 0, .null, .int 0, .int 0, .int 0, .int 0, .int 0, .null, .int 0]), .inl (0, 248, .inl (fun _ => 0)), .inl (0, 496, .inl (fun _ => 0)), .inl (1, 2, .inl (fun _ => 0)), .inl (0, 3, .inl (fun _ => 0)), .inl (0, 36, .inl (fun _ => 0)), .inl (0, 36, .inl (fun _ => 0)), .inl (0, 36, .inl (fun _ => 0)), .inl (1, 36, .inl (fun _ => 0)), .inl (0, 20, .inl (fun _ => 0)), .inl (0, 36, .inl (fun _ => 0)), .inl (0, 100, .inl (fun _ => 0)), .inl (0, 5, .inl (fun _ => 0)), .inl (1, 5, .inl (fun _ => 0))] rfl ?_
  refine g_putF (ci := 9) (k := 16) rfl rfl rfl rfl rfl rfl rfl (by first | exact Or.inl ⟨_, rfl⟩ | exact Or.inr ⟨_, rfl⟩) (show decode cX9_init 103 = .ok (.putfield 47, 3) by decide +kernel) ?_
  refine g_eqw [.inr (9, [.ref 1, .ref 2, .ref 3, .ref 4, .ref 5, .ref 6, .ref 7, .ref 8, .int 0, .ref 9, .int 0, .int 0, .int 0, .ref 10, .ref 11, .ref 12, .ref 13, .null, .int 0, .int 0, .int 0, .int 0, .null, .int 0, .int 0, .int 0, .int 0, .int 0, .null, .int 0]), .inl (0, 248, .inl (fun _ => 0)), .inl (0, 496, .inl (fun _ => 0)), .inl (1, 2, .inl (fun _ => 0)), .inl (0, 3, .inl (fun _ => 0)), .inl (0, 36, .inl (fun _ => 0)), .inl (0, 36, .inl (fun _ => 0)), .inl (0, 36, .inl (fun _ => 0)), .inl (1, 36, .inl (fun _ => 0)), .inl (0, 20, .inl (fun _ => 0)), .inl (0, 36, .inl (fun _ => 0)), .inl (0, 100, .inl (fun _ => 0)), .inl (0, 5, .inl (fun _ => 0)), .inl (1, 5, .inl (fun _ => 0))] rfl ?_
  refine g_aload_n (n := 0) (x := 0) rfl (show decode cX9_init 106 = .ok (.aload_n 0, 1) by decide +kernel) ?_
  refine g_bipush (show decode cX9_init 107 = .ok (.bipush 20, 2) by decide +kernel) ?_
  refine g_newa (t := 0) (N := 20) (ty := .int) rfl (by decide) arr_int (by decide) (by decide) (by decide) (show decode cX9_init 109 = .ok (.newarray .int, 2) by decide +kernel) ⟨rfl, ⟨trivial, ⟨trivial, ⟨trivial, ⟨trivial, ⟨trivial, ⟨trivial, ⟨trivial, ⟨trivial, ⟨trivial, ⟨trivial, ⟨trivial, ⟨trivial, ⟨trivial, trivial⟩⟩⟩⟩⟩⟩⟩⟩⟩⟩⟩⟩⟩⟩ rfl rfl (by decide) (by decide) ?_
  refine g_eqw [.inr (9, [.ref 1, .ref 2, .ref 3, .ref 4, .ref 5, .ref 6, .ref 7, .ref 8, .int 0, .ref 9, .int 0, .int 0, .int 0, .ref 10, .ref 11, .ref 12, .ref 13, .null, .int 0, .int 0, .int 0, .int 0, .null, .int 0, .int 0, .int 0, .int 0, .int 0, .null, .int 0]), .inl (0, 248, .inl (fun _ => 0)), .inl (0, 496, .inl (fun _ => 0)), .inl (1, 2, .inl (fun _ => 0)), .inl (0, 3, .inl (fun _ => 0)), .inl (0, 36, .inl (fun _ => 0)), .inl (0, 36, .inl (fun _ => 0)), .inl (0, 36, .inl (fun _ => 0)), .inl (1, 36, .inl (fun _ => 0)), .inl (0, 20, .inl (fun _ => 0)), .inl (0, 36, .inl (fun _ => 0)), .inl (0, 100, .inl (fun _ => 0)), .inl (0, 5, .inl (fun _ => 0)), .inl (1, 5, .inl (fun _ => 0)), .inl (0, 20, .inl (fun _ => 0))] rfl ?_
  refine g_putF (ci := 9) (k := 17) rfl rfl rfl rfl rfl rfl rfl (by first | exact Or.inl ⟨_, rfl⟩ | exact Or.inr ⟨_, rfl⟩) (show decode cX9_init 111 = .ok (.putfield 50, 3) by decide +kernel) ?_
  refine g_eqw [.inr (9, [.ref 1, .ref 2, .ref 3, .ref 4, .ref 5, .ref 6, .ref 7, .ref 8, .int 0, .ref 9, .int 0, .int 0, .int 0, .ref 10, .ref 11, .ref 12, .ref 13, .ref 14, .int 0, .int 0, .int 0, .int 0, .null, .int 0, .int 0, .int 0, .int 0, .int 0, .null, .int 0]), .inl (0, 248, .inl (fun _ => 0)), .inl (0, 496, .inl (fun _ => 0)), .inl (1, 2, .inl (fun _ => 0)), .inl (0, 3, .inl (fun _ => 0)), .inl (0, 36, .inl (fun _ => 0)), .inl (0, 36, .inl (fun _ => 0)), .inl (0, 36, .inl (fun _ => 0)), .inl (1, 36, .inl (fun _ => 0)), .inl (0, 20, .inl (fun _ => 0)), .inl (0, 36, .inl (fun _ => 0)), .inl (0, 100, .inl (fun _ => 0)), .inl (0, 5, .inl (fun _ => 0)), .inl (1, 5, .inl (fun _ => 0)), .inl (0, 20, .inl (fun _ => 0))] rfl ?_
  refine g_aload_n (n := 0) (x := 0) rfl (show decode cX9_init 114 = .ok (.aload_n 0, 1) by decide +kernel) ?_
  refine g_sipush (show decode cX9_init 115 = .ok (.sipush 200, 3) by decide +kernel) ?_
  refine g_newa (t := 0) (N := 200) (ty := .int) rfl (by decide) arr_int (by decide) (by decide) (by decide) (show decode cX9_init 118 = .ok (.newarray .int, 2) by decide +kernel) ⟨rfl, ⟨trivial, ⟨trivial, ⟨trivial, ⟨trivial, ⟨trivial, ⟨trivial, ⟨trivial, ⟨trivial, ⟨trivial, ⟨trivial, ⟨trivial, ⟨trivial, ⟨trivial, ⟨trivial, trivial⟩⟩⟩⟩⟩⟩⟩⟩⟩⟩⟩⟩⟩⟩⟩ rfl rfl (by decide) (by decide) ?_
  refine g_eqw [.inr (9, [.ref 1, .ref 2, .ref 3, .ref 4, .ref 5, .ref 6, .ref 7, .ref 8, .int 0, .ref 9, .int 0, .int 0, .int 0, .ref 10, .ref 11, .ref 12, .ref 13, .ref 14, .int 0, .int 0, .int 0, .int 0, .null, .int 0, .int 0, .int 0, .int 0, .int 0, .null, .int 0]), .inl (0, 248, .inl (fun _ => 0)), .inl (0, 496, .inl (fun _ => 0)), .inl (1, 2, .inl (fun _ => 0)), .inl (0, 3, .inl (fun _ => 0)), .inl (0, 36, .inl (fun _ => 0)), .inl (0, 36, .inl (fun _ => 0)), .inl (0, 36, .inl (fun _ => 0)), .inl (1, 36, .inl (fun _ => 0)), .inl (0, 20, .inl (fun _ => 0)), .inl (0, 36, .inl (fun _ => 0)), .inl (0, 100, .inl (fun _ => 0)), .inl (0, 5, .inl (fun _ => 0)), .inl (1, 5, .inl (fun _ => 0)), .inl (0, 20, .inl (fun _ => 0)), .inl (0, 200, .inl (fun _ => 0))] rfl ?_
  refine g_putF (ci := 9) (k := 22) rfl rfl rfl rfl rfl rfl rfl (by first | exact Or.inl ⟨_, rfl⟩ | exact Or.inr ⟨_, rfl⟩) (show decode cX9_init 120 = .ok (.putfield 53, 3) by decide +kernel) ?_
  refine g_eqw [.inr (9, [.ref 1, .ref 2, .ref 3, .ref 4, .ref 5, .ref 6, .ref 7, .ref 8, .int 0, .ref 9, .int 0, .int 0, .int 0, .ref 10, .ref 11, .ref 12, .ref 13, .ref 14, .int 0, .int 0, .int 0, .int 0, .ref 15, .int 0, .int 0, .int 0, .int 0, .int 0, .null, .int 0]), .inl (0, 248, .inl (fun _ => 0)), .inl (0, 496, .inl (fun _ => 0)), .inl (1, 2, .inl (fun _ => 0)), .inl (0, 3, .inl (fun _ => 0)), .inl (0, 36, .inl (fun _ => 0)), .inl (0, 36, .inl (fun _ => 0)), .inl (0, 36, .inl (fun _ => 0)), .inl (1, 36, .inl (fun _ => 0)), .inl (0, 20, .inl (fun _ => 0)), .inl (0, 36, .inl (fun _ => 0)), .inl (0, 100, .inl (fun _ => 0)), .inl (0, 5, .inl (fun _ => 0)), .inl (1, 5, .inl (fun _ => 0)), .inl (0, 20, .inl (fun _ => 0)), .inl (0, 200, .inl (fun _ => 0))] rfl ?_
  refine g_aload_n (n := 0) (x := 0) rfl (show decode cX9_init 123 = .ok (.aload_n 0, 1) by decide +kernel) ?_
  refine g_sipush (show decode cX9_init 124 = .ok (.sipush 300, 3) by decide +kernel) ?_
  refine g_newa (t := 0) (N := 300) (ty := .int) rfl (by decide) arr_int (by decide) (by decide) (by decide) (show decode cX9_init 127 = .ok (.newarray .int, 2) by decide +kernel) ⟨rfl, ⟨trivial, ⟨trivial, ⟨trivial, ⟨trivial, ⟨trivial, ⟨trivial, ⟨trivial, ⟨trivial, ⟨trivial, ⟨trivial, ⟨trivial, ⟨trivial, ⟨trivial, ⟨trivial, ⟨trivial, trivial⟩⟩⟩⟩⟩⟩⟩⟩⟩⟩⟩⟩⟩⟩⟩⟩ rfl rfl (by decide) (by decide) ?_
  refine g_eqw [.inr (9, [.ref 1, .ref 2, .ref 3, .ref 4, .ref 5, .ref 6, .ref 7, .ref 8, .int 0, .ref 9, .int 0, .int 0, .int 0, .ref 10, .ref 11, .ref 12, .ref 13, .ref 14, .int 0, .int 0, .int 0, .int 0, .ref 15, .int 0, .int 0, .int 0, .int 0, .int 0, .null, .int 0]), .inl (0, 248, .inl (fun _ => 0)), .inl (0, 496, .inl (fun _ => 0)), .inl (1, 2, .inl (fun _ => 0)), .inl (0, 3, .inl (fun _ => 0)), .inl (0, 36, .inl (fun _ => 0)), .inl (0, 36, .inl (fun _ => 0)), .inl (0, 36, .inl (fun _ => 0)), .inl (1, 36, .inl (fun _ => 0)), .inl (0, 20, .inl (fun _ => 0)), .inl (0, 36, .inl (fun _ => 0)), .inl (0, 100, .inl (fun _ => 0)), .inl (0, 5, .inl (fun _ => 0)), .inl (1, 5, .inl (fun _ => 0)), .inl (0, 20, .inl (fun _ => 0)), .inl (0, 200, .inl (fun _ => 0)), .inl (0, 300, .inl (fun _ => 0))] rfl ?_
  refine g_putF (ci := 9) (k := 28) rfl rfl rfl rfl rfl rfl rfl (by first | exact Or.inl ⟨_, rfl⟩ | exact Or.inr ⟨_, rfl⟩) (show decode cX9_init 129 = .ok (.putfield 56, 3) by decide +kernel) ?_
  refine g_eqw [.inr (9, [.ref 1, .ref 2, .ref 3, .ref 4, .ref 5, .ref 6, .ref 7, .ref 8, .int 0, .ref 9, .int 0, .int 0, .int 0, .ref 10, .ref 11, .ref 12, .ref 13, .ref 14, .int 0, .int 0, .int 0, .int 0, .ref 15, .int 0, .int 0, .int 0, .int 0, .int 0, .ref 16, .int 0]), .inl (0, 248, .inl (fun _ => 0)), .inl (0, 496, .inl (fun _ => 0)), .inl (1, 2, .inl (fun _ => 0)), .inl (0, 3, .inl (fun _ => 0)), .inl (0, 36, .inl (fun _ => 0)), .inl (0, 36, .inl (fun _ => 0)), .inl (0, 36, .inl (fun _ => 0)), .inl (1, 36, .inl (fun _ => 0)), .inl (0, 20, .inl (fun _ => 0)), .inl (0, 36, .inl (fun _ => 0)), .inl (0, 100, .inl (fun _ => 0)), .inl (0, 5, .inl (fun _ => 0)), .inl (1, 5, .inl (fun _ => 0)), .inl (0, 20, .inl (fun _ => 0)), .inl (0, 200, .inl (fun _ => 0)), .inl (0, 300, .inl (fun _ => 0))] rfl ?_
  refine g_aload_n (n := 0) (x := 0) rfl (show decode cX9_init 132 = .ok (.aload_n 0, 1) by decide +kernel) ?_
  refine g_getf (ci := 9) (k := 0) rfl rfl rfl rfl (show decode cX9_init 133 = .ok (.getfield 7, 3) by decide +kernel) ?_
  refine g_iconst (show decode cX9_init 136 = .ok (.iconst 0, 1) by decide +kernel) ?_
  refine g_bipush (show decode cX9_init 137 = .ok (.bipush 6, 2) by decide +kernel) ?_
  refine g_iast rfl (by unfold vp_in; decide) (show decode cX9_init 139 = .ok (.iastore, 1) by decide +kernel) ?_
  refine g_eqw [.inr (9, [.ref 1, .ref 2, .ref 3, .ref 4, .ref 5, .ref 6, .ref 7, .ref 8, .int 0, .ref 9, .int 0, .int 0, .int 0, .ref 10, .ref 11, .ref 12, .ref 13, .ref 14, .int 0, .int 0, .int 0, .int 0, .ref 15, .int 0, .int 0, .int 0, .int 0, .int 0, .ref 16, .int 0]), .inl (0, 248, .inl (upd (fun _ => 0) 0 6)), .inl (0, 496, .inl (fun _ => 0)), .inl (1, 2, .inl (fun _ => 0)), .inl (0, 3, .inl (fun _ => 0)), .inl (0, 36, .inl (fun _ => 0)), .inl (0, 36, .inl (fun _ => 0)), .inl (0, 36, .inl (fun _ => 0)), .inl (1, 36, .inl (fun _ => 0)), .inl (0, 20, .inl (fun _ => 0)), .inl (0, 36, .inl (fun _ => 0)), .inl (0, 100, .inl (fun _ => 0)), .inl (0, 5, .inl (fun _ => 0)), .inl (1, 5, .inl (fun _ => 0)), .inl (0, 20, .inl (fun _ => 0)), .inl (0, 200, .inl (fun _ => 0)), .inl (0, 300, .inl (fun _ => 0))] rfl ?_
  refine g_aload_n (n := 0) (x := 0) rfl (show decode cX9_init 140 = .ok (.aload_n 0, 1) by decide +kernel) ?_
  refine g_getf (ci := 9) (k := 0) rfl rfl rfl rfl (show decode cX9_init 141 = .ok (.getfield 7, 3) by decide +kernel) ?_
  refine g_iconst (show decode cX9_init 144 = .ok (.iconst 1, 1) by decide +kernel) ?_
  refine g_bipush (show decode cX9_init 145 = .ok (.bipush 6, 2) by decide +kernel) ?_
  refine g_iast rfl (by unfold vp_in; decide) (show decode cX9_init 147 = .ok (.iastore, 1) by decide +kernel) ?_
  refine g_eqw [.inr (9, [.ref 1, .ref 2, .ref 3, .ref 4, .ref 5, .ref 6, .ref 7, .ref 8, .int 0, .ref 9, .int 0, .int 0, .int 0, .ref 10, .ref 11, .ref 12, .ref 13, .ref 14, .int 0, .int 0, .int 0, .int 0, .ref 15, .int 0, .int 0, .int 0, .int 0, .int 0, .ref 16, .int 0]), .inl (0, 248, .inl (upd (upd (fun _ => 0) 0 6) 1 6)), .inl (0, 496, .inl (fun _ => 0)), .inl (1, 2, .inl (fun _ => 0)), .inl (0, 3, .inl (fun _ => 0)), .inl (0, 36, .inl (fun _ => 0)), .inl (0, 36, .inl (fun _ => 0)), .inl (0, 36, .inl (fun _ => 0)), .inl (1, 36, .inl (fun _ => 0)), .inl (0, 20, .inl (fun _ => 0)), .inl (0, 36, .inl (fun _ => 0)), .inl (0, 100, .inl (fun _ => 0)), .inl (0, 5, .inl (fun _ => 0)), .inl (1, 5, .inl (fun _ => 0)), .inl (0, 20, .inl (fun _ => 0)), .inl (0, 200, .inl (fun _ => 0)), .inl (0, 300, .inl (fun _ => 0))] rfl ?_
  refine g_aload_n (n := 0) (x := 0) rfl (show decode cX9_init 148 = .ok (.aload_n 0, 1) by decide +kernel) ?_
  refine g_getf (ci := 9) (k := 0) rfl rfl rfl rfl (show decode cX9_init 149 = .ok (.getfield 7, 3) by decide +kernel) ?_
  refine g_iconst (show decode cX9_init 152 = .ok (.iconst 4, 1) by decide +kernel) ?_
  refine g_bipush (show decode cX9_init 153 = .ok (.bipush 7, 2) by decide +kernel) ?_
  refine g_iast rfl (by unfold vp_in; decide) (show decode cX9_init 155 = .ok (.iastore, 1) by decide +kernel) ?_
  refine g_eqw [.inr (9, [.ref 1, .ref 2, .ref 3, .ref 4, .ref 5, .ref 6, .ref 7, .ref 8, .int 0, .ref 9, .int 0, .int 0, .int 0, .ref 10, .ref 11, .ref 12, .ref 13, .ref 14, .int 0, .int 0, .int 0, .int 0, .ref 15, .int 0, .int 0, .int 0, .int 0, .int 0, .ref 16, .int 0]), .inl (0, 248, .inl (upd (upd (upd (fun _ => 0) 0 6) 1 6) 4 7)), .inl (0, 496, .inl (fun _ => 0)), .inl (1, 2, .inl (fun _ => 0)), .inl (0, 3, .inl (fun _ => 0)), .inl (0, 36, .inl (fun _ => 0)), .inl (0, 36, .inl (fun _ => 0)), .inl (0, 36, .inl (fun _ => 0)), .inl (1, 36, .inl (fun _ => 0)), .inl (0, 20, .inl (fun _ => 0)), .inl (0, 36, .inl (fun _ => 0)), .inl (0, 100, .inl (fun _ => 0)), .inl (0, 5, .inl (fun _ => 0)), .inl (1, 5, .inl (fun _ => 0)), .inl (0, 20, .inl (fun _ => 0)), .inl (0, 200, .inl (fun _ => 0)), .inl (0, 300, .inl (fun _ => 0))] rfl ?_
  refine g_aload_n (n := 0) (x := 0) rfl (show decode cX9_init 156 = .ok (.aload_n 0, 1) by decide +kernel) ?_
  refine g_getf (ci := 9) (k := 0) rfl rfl rfl rfl (show decode cX9_init 157 = .ok (.getfield 7, 3) by decide +kernel) ?_
  refine g_iconst (show decode cX9_init 160 = .ok (.iconst 5, 1) by decide +kernel) ?_
  refine g_iconst (show decode cX9_init 161 = .ok (.iconst 1, 1) by decide +kernel) ?_
  refine g_iast rfl (by unfold vp_in; decide) (show decode cX9_init 162 = .ok (.iastore, 1) by decide +kernel) ?_
  refine g_eqw [.inr (9, [.ref 1, .ref 2, .ref 3, .ref 4, .ref 5, .ref 6, .ref 7, .ref 8, .int 0, .ref 9, .int 0, .int 0, .int 0, .ref 10, .ref 11, .ref 12, .ref 13, .ref 14, .int 0, .int 0, .int 0, .int 0, .ref 15, .int 0, .int 0, .int 0, .int 0, .int 0, .ref 16, .int 0]), .inl (0, 248, .inl (upd (upd (upd (upd (fun _ => 0) 0 6) 1 6) 4 7) 5 1)), .inl (0, 496, .inl (fun _ => 0)), .inl (1, 2, .inl (fun _ => 0)), .inl (0, 3, .inl (fun _ => 0)), .inl (0, 36, .inl (fun _ => 0)), .inl (0, 36, .inl (fun _ => 0)), .inl (0, 36, .inl (fun _ => 0)), .inl (1, 36, .inl (fun _ => 0)), .inl (0, 20, .inl (fun _ => 0)), .inl (0, 36, .inl (fun _ => 0)), .inl (0, 100, .inl (fun _ => 0)), .inl (0, 5, .inl (fun _ => 0)), .inl (1, 5, .inl (fun _ => 0)), .inl (0, 20, .inl (fun _ => 0)), .inl (0, 200, .inl (fun _ => 0)), .inl (0, 300, .inl (fun _ => 0))] rfl ?_
  exact g_ret (show decode cX9_init 163 = .ok (.return_, 1) by decide +kernel) rfl ⟨Nat.le_refl _, Nat.le_refl _⟩ ⟨rfl, rfl⟩
