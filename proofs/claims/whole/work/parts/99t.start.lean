theorem sh0 (w : List va_E) : w.map (shE 0) = w := by
  have : ∀ e ∈ w, shE 0 e = e := fun e _ => by
    have h : shk 0 = fun k => k := funext fun k => by
      by_cases h9 : 1000 ≤ k
      · exact shk_hi h9
      · rw [shk_lo (by omega), Nat.zero_add]
    unfold shE
    rw [h]
    exact tre_i e
  rw [List.map_congr_left this, List.map_id']
theorem clL_8 : Cond.classLink mL_law.2.1.cls 7 RX8 ∈ gw := gw_mem (by decide +kernel)
theorem clL_9 : Cond.classLink mL_law.2.1.cls 10 RX9 ∈ gw := gw_mem (by decide +kernel)
def b0L : LwR := ⟨zr, s0R, p0R, zr, zr, zr, zr, zr, zr, zr, s0R, p0R, s0R, p0R, zr, zr⟩
theorem inv0L : LwI (nI 0) b0L m0R := by
  simp only [LwI, b0L, nI_0, LwR.c, LwR.s, LwR.p, LwR.t, LwR.e, LwR.o, LwR.oh, LwR.h, LwR.k, LwR.q, LwR.s1, LwR.p1, LwR.s2, LwR.p2, LwR.t1, LwR.t2]
  exact inv0
theorem s_X9_iM : Spec 1 16 1579 mX9_init [.ref 0] [.inr (9, [.null, .null, .null, .null, .null, .null, .null, .null, .int 0, .null, .int 0, .int 0, .int 0, .null, .null, .null, .null, .null, .int 0, .int 0, .int 0, .int 0, .null, .int 0, .int 0, .int 0, .int 0, .int 0, .null, .int 0])] (RV (wM m0R)) := s_X9_init
theorem s_X8_iB : Spec 4 111 1832 mX8_init [.ref 0] [.inr (8, [.null, .null, .null, .null, .null, .null, .null, .null, .null, .null, .null, .int 0, .int 0, .int 0])] (RV (wLB b0L)) := by
  simp only [wLB, b0L, LwR.c, LwR.s, LwR.p, LwR.t, LwR.e, LwR.o, LwR.oh, LwR.h, LwR.k, LwR.q, LwR.s1, LwR.p1, LwR.s2, LwR.p2, LwR.t1, LwR.t2]
  exact s_X8_init
set_option maxRecDepth 8000 in
theorem law_good (sc : SC) (hL : sc.1 ≤ 2560) : Good sc 13 129 3455 0 mL_law PL1 0 0 0 [some (.ref 1006), none, none, none] [] [] := by
  refine g_new (ci := 8) (fs := [.null, .null, .null, .null, .null, .null, .null, .null, .null, .null, .null, .int 0, .int 0, .int 0]) rfl dv8 rfl clL_8 ins8 ini8 (show decode cL_law 0 = .ok (.new 7, 3) by decide +kernel) trivial rfl rfl (by decide) (by decide) ?_
  refine g_eqw [.inr (8, [.null, .null, .null, .null, .null, .null, .null, .null, .null, .null, .null, .int 0, .int 0, .int 0])] rfl ?_
  refine g_blk (by decide) kL_law_3 ?_
  refine g_callI (d1 := 4) (mc1 := 111) (ms1 := 1832) (w0 := []) (w2 := wLB b0L) rfl rfl cwX8_init rfl (by decide) (by decide) (by decide) rfl rfl trivial rfl rfl (Nat.le_of_ble_eq_true rfl) (Nat.le_of_ble_eq_true rfl) (rf_B b0L) (Nat.le_of_ble_eq_true rfl) (show decode cL_law 4 = .ok (.invokespecial 9, 3) by decide +kernel) s_X8_iB ?_
  refine g_eqw (wLB b0L) (sh0 _) ?_
  refine g_blk (by decide) kL_law_7 ?_
  refine g_eqL [some (.ref 1006), some (.ref 0), none, none] rfl ?_
  refine g_new (ci := 9) (fs := [.null, .null, .null, .null, .null, .null, .null, .null, .int 0, .null, .int 0, .int 0, .int 0, .null, .null, .null, .null, .null, .int 0, .int 0, .int 0, .int 0, .null, .int 0, .int 0, .int 0, .int 0, .int 0, .null, .int 0]) rfl dv9 rfl clL_9 ins9 ini9 (show decode cL_law 8 = .ok (.new 10, 3) by decide +kernel) (rf_B b0L) rfl rfl (by decide) (by decide) ?_
  refine g_blk (by decide) kL_law_11 ?_
  refine g_callI (d1 := 1) (mc1 := 16) (ms1 := 1579) (w0 := wLB b0L) (w2 := wM m0R) rfl rfl cwX9_init rfl (by decide) (by decide) (by decide) rfl rfl (rfW_mono (Nat.le_succ _) (rf_B b0L)) rfl rfl (Nat.le_of_ble_eq_true rfl) (Nat.le_of_ble_eq_true rfl) (rf_M m0R) (Nat.le_of_ble_eq_true rfl) (show decode cL_law 12 = .ok (.invokespecial 12, 3) by decide +kernel) s_X9_iM ?_
  refine g_blk (by decide) kL_law_15 ?_
  exact law_loop sc hL 513 0 b0L m0R rfl inv0L
