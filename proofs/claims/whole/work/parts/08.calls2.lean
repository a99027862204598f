theorem good_gw {w : Cond} (h : w ∈ gw) : (w.onTables && w.keeps) = true ∨ ∃ ty, w = .arrayClass ty := good_of_word (List.mem_filter.mp h).2
theorem goodIn_M {mi : MI} (h : Cond.code mi.2.1 mi.2.2.1 mi.2.2.2.1 mi.2.2.2.2 ∈ gw) : GoodIn gw (wsM mi) := by
  intro w hw
  rcases List.mem_cons.mp hw with rfl | hw
  · exact ⟨h, good_gw h⟩
  · exact ⟨hw, good_gw hw⟩
theorem goodIn_cons {big ws : List Cond} {w : Cond} (h : w ∈ gw) (hb : big = gw) (hs : GoodIn big ws) : GoodIn big (w :: ws) := by
  subst hb
  intro x hx
  rcases List.mem_cons.mp hx with rfl | hx
  · exact ⟨h, good_gw h⟩
  · exact hs x hx
theorem mz_fact {c i k n : Nat} {mi : MI} (h : mzl (mz c) i = some (mi, k, n)) : Cond.initialized mi.2.1.cls ∈ gw ∧ (mi.2.1.cls ≠ "java/lang/invoke/MethodHandle" ∧ mi.2.1.cls ≠ "java/lang/invoke/VarHandle") ∧ (parseMethodDescriptor mi.2.1.desc).map (fun d => d.parameters.length) = some n ∧ mi.2.2.2.1 ≤ 21 ∧ ∃ ix, mzK (ownS c) i mi ix k = true := by
  obtain ⟨j, hj⟩ := List.getElem?_of_mem (mzl_mem h)
  obtain ⟨h1, h2⟩ := mz_all c
  have hl : j < (mzI c).length := by
    rw [← h2]
    exact (List.getElem?_eq_some_iff.mp hj).1
  have hz : ((mz c).zip (mzI c))[j]? = some ((i, mi, k, n), (mzI c)[j]) := by
    rw [List.getElem?_zip_eq_some]
    exact ⟨hj, List.getElem?_eq_getElem hl⟩
  have h3 := List.all_eq_true.mp h1 _ (List.mem_of_getElem? hz)
  unfold mzOk at h3
  simp only [Bool.and_eq_true, decide_eq_true_eq] at h3
  obtain ⟨f2, f3, f4, f5, f6⟩ := h3
  exact ⟨inT_gw f2, f3, f4, f5, _, f6⟩
theorem blind {sc : SC} {D : va_G} {cy : Nat → ClassId} {ad : Nat → Nat} {sz : Nat} {w : List va_E} {av : List Value} : FrameBlind (va_Pc av (Psp sc D cy ad sz w)) := by
  intro a U g mk q
  obtain ⟨q0, q1, qP, qK, qD, qE⟩ := q
  exact ⟨q0, q1, qP, va_K.moved (u := U) (U := U.calling g mk a) (Vm.Alike.refl U.vm) qK, qD, envS_moved (H := U.heap) (locs := []) qE va_S.rf rfl (State.WarmedH.refl U) (fun _ _ h => h) (fun _ _ => rfl) (Nat.le_refl _)⟩
/-- the callee's world among the caller's -/
theorem pickW {cy : Nat → ClassId} {ad : Nat → Nat} {w w1 : List va_E} {sl : List Nat} (hlen : w1.length ≤ 1000) (hmap : sl.map (lk w) = w1.map (fun e => some (ren sl e))) : sl.map (fun i => (lay cy ad w)[i]?) = (lay cy (fun k => ad (sg sl k)) w1).map some := by
  have hl : sl.length = w1.length := by
    have := congrArg List.length hmap
    simpa using this
  apply List.ext_getElem?
  intro j
  rw [List.getElem?_map, List.getElem?_map, lay_get]
  have hj : (sl.map (lk w))[j]? = (w1.map (fun e => some (ren sl e)))[j]? := by rw [hmap]
  rw [List.getElem?_map, List.getElem?_map] at hj
  cases h1 : sl[j]? with
  | none =>
    have : w1[j]? = none := by
      have := List.getElem?_eq_none_iff.mp h1
      exact List.getElem?_eq_none_iff.mpr (by omega)
    rw [this]
    rfl
  | some k =>
    cases h2 : w1[j]? with
    | none =>
      have h3 := List.getElem?_eq_none_iff.mp h2
      have h4 := (List.getElem?_eq_some_iff.mp h1).1
      omega
    | some e1 =>
      rw [h1, h2] at hj
      have hj2 : lk w k = some (ren sl e1) := by simpa using hj
      have hjl : j < 1000 := Nat.lt_of_lt_of_le (List.getElem?_eq_some_iff.mp h2).1 hlen
      have hk : sg sl j = k := by
        rw [sg_lo sl hjl, List.getD_eq_getElem?_getD, h1]
        rfl
      show some (lay cy ad w)[k]? = some (some (ad (sg sl j), tre cy (fun k => ad (sg sl k)) e1))
      rw [lay_at hj2, tre_ren, hk]
theorem layD {cy : Nat → ClassId} {ad : Nat → Nat} {w w2 : List va_E} {A : Nat → Prop} (h : va_D A (lay cy ad w)) (hl : w2.length = w.length) : va_D A (lay cy ad w2) := by
  have key : ∀ (k : Nat) (q : Nat × va_E), (lay cy ad w2)[k]? = some q → ∃ q0, (lay cy ad w)[k]? = some q0 ∧ q0.1 = q.1 := by
    intro k q hq
    have hk : k < w.length := by
      have := (List.getElem?_eq_some_iff.mp hq).1
      rw [lay_len] at this
      omega
    rw [lay_get] at hq
    have e : q.1 = ad k := by
      cases h3 : w2[k]? with
      | none => rw [h3] at hq; cases hq
      | some x => rw [h3] at hq; cases hq; rfl
    refine ⟨(ad k, tre cy ad w[k]), ?_, e.symm⟩
    rw [lay_get, List.getElem?_eq_getElem hk]
    rfl
  refine ⟨fun i j x y hi hj hxy => ?_, fun k q hk => ?_⟩
  · obtain ⟨x0, h1, h2⟩ := key i x hi
    obtain ⟨y0, h3, h4⟩ := key j y hj
    exact h.1 i j x0 y0 h1 h3 (h2.trans (hxy.trans h4.symm))
  · obtain ⟨q0, h1, h2⟩ := key k q hk
    rw [← h2]
    exact h.2 k q0 h1
section GL
variable {sc : SC} {d mc ms n0 : Nat} {mi : MI} {P : Pst} {kc ks : Nat} {pc : Nat} {L : List (Option Value)} {st r : List Value} {w : List va_E}
variable {p : Program} {l : Launch} {e : Env} {R : Room} {s : State} {m : MethodId} {args : Array Value} {below : List Frame} {meth : Method} {c : Code} {D : va_G} {cy : Nat → ClassId} {ad0 : Nat → Nat} {A : Nat → Prop} {Q : State → Prop} {H : Heap} {locs : List Loc} {ls : Array Slot} {ad : Nat → Nat}
/-- behind a call -/
theorem call_go (C : Ctx sc d mc ms n0 mi P p l e R s m args below meth c D cy ad0 A Q) (ha : ag n0 w.length ad ad0) (hn : n0 ≤ w.length) (hm : w.length ≤ 1000) (hP : va_P D vwCl (lay cy ad w) H) (hD : va_D A (lay cy ad w)) (hS : va_S A s.heap H locs) (hl : lzH ad ls mi.2.2.2.1 L)
    (sl : List Nat) (w1 : List va_E) (hsl : va_nd sl = true) (hmap : sl.map (lk w) = w1.map (fun e => some (ren sl e))) {P1 : Pst} {st0 : List Value} {av : Array Value} (hl1 : w1.length ≤ 1000)
    (hrun : va_Run p l e R s m args below meth c H locs kc ks 0 0 (F0 m pc ls st0) (r.map (trv ad)) (Qsp P1 D cy (fun k => ad (sg sl k)) w1.length (va_A (lay cy (fun k => ad (sg sl k)) w1) H.size) av) (va_A (lay cy (fun k => ad (sg sl k)) w1) H.size))
    (kk : ∀ v w2, P1 v w2 → w2.length = w1.length ∧ Good sc d mc ms n0 mi P kc ks (pc + 3) L ((v.map (rnv sl)).toList ++ r) (putW w sl (w2.map (ren sl)))) : W p l e R s m args below meth c H locs kc ks Q (F0 m pc ls st0) := by
  have hC := pickW (cy := cy) (ad := ad) hl1 hmap
  have hFc := va_free (wc := lay cy (fun k => ad (sg sl k)) w1) hD hS C.2.2.2.2.2.2.1 sl hC
  have hsll : sl.length = w1.length := by
    have := congrArg List.length hmap
    simpa using this
  intro T hT X
  obtain ⟨v, st₀, t, T', Lx, h0, X', hL, e1, e2, ⟨⟨v1, w2, ad2, hPv, hag, hn2, ho, hPt, hDt⟩, hF⟩, stp⟩ := hrun T hT X
  obtain ⟨hwl, hg⟩ := kk v1 w2 hPv
  have had : ad2 = fun k => ad (sg sl k) := hag.2 hwl
  subst had
  have hv : v = v1.map (trv (fun k => ad (sg sl k))) := by cases ho; rfl
  obtain ⟨hF1, hF2⟩ := hF
  rw [h0] at hF1 hF2
  have hlenP : (putW w sl (w2.map (ren sl))).length = w.length := putW_len _ _ _
  have hin : ∀ k ∈ sl, k < w.length := by
    intro k hk
    obtain ⟨j, hj⟩ := List.getElem?_of_mem hk
    have h1 : (sl.map (lk w))[j]? = some (lk w k) := by rw [List.getElem?_map, hj]; rfl
    rw [hmap, List.getElem?_map] at h1
    cases h2 : w1[j]? with
    | none => rw [h2] at h1; cases h1
    | some x =>
      rw [h2] at h1
      have h3 : lk w k = some (ren sl x) := by simpa using h1.symm
      rw [lk_eq] at h3
      exact (List.getElem?_eq_some_iff.mp h3).1
  have hout : ∀ k q, (lay cy ad w)[k]? = some q → k ∉ sl → t.heap[q.1]? = H[q.1]? := by
    intro k q hk hns
    refine hF2 q.1 (hP k q hk).lt (fun z => ?_)
    rcases z with ⟨j, x, hj⟩ | z
    · have h1 : ((lay cy (fun k => ad (sg sl k)) w1).map some)[j]? = some (some (q.1, x)) := by rw [List.getElem?_map, hj]; rfl
      rw [← hC, List.getElem?_map] at h1
      cases h2 : sl[j]? with
      | none => rw [h2] at h1; cases h1
      | some k2 =>
        rw [h2] at h1
        have h3 : (lay cy ad w)[k2]? = some (q.1, x) := by simpa using h1
        have := hD.1 k k2 q (q.1, x) hk h3 rfl
        subst this
        exact hns (List.mem_of_getElem? h2)
    · exact absurd (hP k q hk).lt (Nat.not_lt.mpr z)
  have hP2 : va_P D vwCl (lay cy ad (putW w sl (w2.map (ren sl)))) T'.heap := by
    rw [e1]
    intro k q hk
    by_cases hks : k ∈ sl
    · obtain ⟨j, hj⟩ := List.getElem?_of_mem hks
      have hjl : j < w2.length := by
        have := (List.getElem?_eq_some_iff.mp hj).1
        omega
      have hw2 : w2[j]? = some w2[j] := List.getElem?_eq_getElem hjl
      have h1 : (putW w sl (w2.map (ren sl)))[k]? = some (ren sl w2[j]) := putW_at w sl _ hsl hin j k _ hj (by rw [List.getElem?_map, hw2]; rfl)
      rw [lay_get, h1] at hk
      cases hk
      have hkj : sg sl j = k := by
        rw [sg_lo sl (by omega), List.getD_eq_getElem?_getD, hj]
        rfl
      have h2 := hPt j (ad k, tre cy (fun k => ad (sg sl k)) w2[j]) (by rw [lay_get, hw2, ← hkj]; rfl)
      rw [← tre_ren] at h2
      exact h2
    · rw [lay_get, putW_ne w sl _ k hks, ← lay_get] at hk
      exact (hP k q hk).kept (hout k q hk hks)
  have hS2 : va_S A s.heap T'.heap (locs ++ Lx) := by
    rw [e1]
    refine ⟨Nat.le_trans hS.1 hF1, fun q h1 h2 => ?_, fun q hq => ?_⟩
    · rw [hF2 q (Nat.lt_of_lt_of_le h1 hS.1) (fun z => h2 (hFc q z))]
      exact hS.2.1 q h1 h2
    · rcases List.mem_append.mp hq with h | h
      · exact hS.2.2 q h
      · exact hFc _ (hL q h)
  obtain ⟨t2, a1, b1⟩ := hg p l e R s m args below meth c D cy ad0 A Q C T'.heap (locs ++ Lx) ls ad (by rw [hlenP]; exact ha) (by rw [hlenP]; exact hn) (by rw [hlenP]; exact hm) hP2 (layD hD hlenP) hS2 hl T' rfl X'
  refine ⟨t2, stp t2 ?_, b1⟩
  have hst : v.toList ++ r.map (trv ad) = ((v1.map (rnv sl)).toList ++ r).map (trv ad) := by
    rw [hv, List.map_append]
    congr 1
    cases v1 with
    | none => rfl
    | some x =>
      show [trv (fun k => ad (sg sl k)) x] = [trv ad (rnv sl x)]
      rw [trv_rnv]
  show Steps p.tables e below (T'.setTop { F0 m pc ls st0 with pc := pc + 3, stack := v.toList ++ r.map (trv ad) }) t2
  rw [hst]
  exact a1
/-- what a callee begins with -/
theorem call_pre (C : Ctx sc d mc ms n0 mi P p l e R s m args below meth c D cy ad0 A Q) (ha : ag n0 w.length ad ad0) (hP : va_P D vwCl (lay cy ad w) H) (hD : va_D A (lay cy ad w)) (hS : va_S A s.heap H locs)
    (sl : List Nat) (w1 : List va_E) (hsl : va_nd sl = true) (hmap : sl.map (lk w) = w1.map (fun e => some (ren sl e))) (hl1 : w1.length ≤ 1000) (av : List Value) : ∀ U : State, U.heap = H → s.WarmedH U.vm → va_Pc (av.map (trv (fun k => ad (sg sl k)))) (Psp sc D cy (fun k => ad (sg sl k)) H.size w1) (av.map (trv (fun k => ad (sg sl k)))).toArray U := by
  intro U hU hW
  have hC := pickW (cy := cy) (ad := ad) hl1 hmap
  have hFc := va_free (wc := lay cy (fun k => ad (sg sl k)) w1) hD hS C.2.2.2.2.2.2.1 sl hC
  refine ⟨rfl, by rw [hU], ?_, va_K.moved hW.alike C.2.2.2.2.2.1, (hD.sub sl hsl hC).weaken (fun _ _ _ _ => trivial), ?_⟩
  · rw [hU]
    intro j q hj
    have h1 : ((lay cy (fun k => ad (sg sl k)) w1).map some)[j]? = some (some q) := by rw [List.getElem?_map, hj]; rfl
    rw [← hC, List.getElem?_map] at h1
    cases h2 : sl[j]? with
    | none => rw [h2] at h1; cases h1
    | some k2 =>
      rw [h2] at h1
      exact hP k2 q (by simpa using h1)
  · exact envS_moved C.2.2.2.2.2.2.2.1 hS hU hW (fun q _ h => hFc q h) (fun k hk => by rw [sg_hi sl hk]; exact ha.1 k (Or.inr hk)) hS.1
theorem call_room {d1 : Nat} {R : Room} {mx : Nat} (hR : d ≤ R.frames ∧ 40 * d ≤ R.locals ∧ mc ≤ R.cells ∧ ms ≤ R.slots) (hd : d1 < d) (hx : mx ≤ 21) : (rmD d1 0 0).frames + 1 ≤ R.frames ∧ 8 + (mx + 11) + (rmD d1 0 0).locals ≤ R.locals := by
  unfold rmD
  dsimp only
  omega
theorem cat_r {ad : Nat → Nat} {r : List Value} (h : catS r ≤ 8) : ((r.map (trv ad)).map fun v => v.category).sum ≤ 8 := by
  have e : ((r.map (trv ad)).map fun v => v.category) = r.map fun v => v.category := by
    rw [List.map_map]
    exact List.map_congr_left fun v _ => trv_cat ad v
  rw [e]
  exact h
end GL
section GM
variable {sc : SC} {d mc ms n0 : Nat} {mi : MI} {P : Pst} {kc ks : Nat} {pc : Nat} {L : List (Option Value)} {st r : List Value} {w : List va_E}
/-- invokevirtual, of our own or of a nest mate's -/
theorem g_callV {i k n d1 : Nat} {mi1 : MI} {q1 : Nat} {av : List Value} {fs : List Value} {P1 : Pst} (ho : ownS mi.1 = mi.2.1.cls) (hz : mzl (mz mi.1) i = some (mi1, k, n)) (hcode : Cond.code mi1.2.1 mi1.2.2.1 mi1.2.2.2.1 mi1.2.2.2.2 ∈ gw) (hk : k = 0 ∨ k = 3) (hd1 : d1 < d) (hkc : kc ≤ mc ∧ ks ≤ ms) (sl : List Nat) (w1 : List va_E) (hsl : va_nd sl = true) (hl1 : w1.length ≤ 1000) (hq1 : q1 < 1000) (hmap : sl.map (lk w) = w1.map (fun e => some (ren sl e))) (hw1 : lk w1 q1 = some (.inr (mi1.1, fs))) (hst : st = (av.map (rnv sl)).reverse ++ .ref (sg sl q1) :: r) (hav : av.length = n) (hr : catS r ≤ 8)
    (hd : decode mi.2.2.1 pc = .ok (.invokevirtual i, 3)) (hs : Spec d1 0 0 mi1 (.ref q1 :: av) w1 P1) (kk : ∀ v w2, P1 v w2 → w2.length = w1.length ∧ Good sc d mc ms n0 mi P kc ks (pc + 3) L ((v.map (rnv sl)).toList ++ r) (putW w sl (w2.map (ren sl)))) : Good sc d mc ms n0 mi P kc ks pc L st w := by
  intro p l e R s m args below meth c D cy ad0 A Q C H locs ls ad ha hn hm hP hD hS hl
  obtain ⟨f2, f3, f4, f5, ix, f6⟩ := mz_fact hz
  refine call_go (av := (Value.ref (ad (sg sl q1)) :: av.map (trv (fun k => ad (sg sl k)))).toArray) C ha hn hm hP hD hS hl sl w1 hsl hmap hl1 ?_ kk
  have hpre := call_pre C ha hP hD hS sl w1 hsl hmap hl1 (.ref q1 :: av)
  have hC := pickW (cy := cy) (ad := ad) hl1 hmap
  have hRm := call_room C.2.2.2.2.2.2.2.2.1 hd1 f5
  have hstk : st.map (trv ad) = (av.map (trv (fun k => ad (sg sl k)))).reverse ++ .ref (ad (sg sl q1)) :: r.map (trv ad) := by
    rw [hst, List.map_append, List.map_reverse, List.map_map, List.map_cons]
    congr 2
    exact List.map_congr_left fun v _ => trv_rnv ad sl v
  have hPc : va_P D vwCl (lay cy (fun k => ad (sg sl k)) w1) H := by
    intro j q hj
    have h1 : ((lay cy (fun k => ad (sg sl k)) w1).map some)[j]? = some (some q) := by rw [List.getElem?_map, hj]; rfl
    rw [← hC, List.getElem?_map] at h1
    cases h2 : sl[j]? with
    | none => rw [h2] at h1; cases h1
    | some k2 =>
      rw [h2] at h1
      exact hP k2 q (by simpa using h1)
  have hrec : ∀ r0 : vw_C, vwCl[mi1.1]? = some r0 → ∃ cell : Cell, H[ad (sg sl q1)]? = some cell ∧ cell.vm.isStatics = false ∧ s.vm.findClass r0.1 = some cell.cls := fun r0 h => va_recv C.2.2.2.2.2.1 hPc h (lay_at hw1)
  have hM := hs l sc D cy (fun k => ad (sg sl k)) H.size
  have hini := C.2.2.2.2.1 _ f2
  have hcells : kc + 0 ≤ R.cells ∧ ks + 0 ≤ R.slots := ⟨Nat.le_trans hkc.1 C.2.2.2.2.2.2.2.2.1.2.2.1, Nat.le_trans hkc.2 C.2.2.2.2.2.2.2.2.1.2.2.2⟩
  rcases hk with rfl | rfl
  · simp only [mzK, Bool.and_eq_true, decide_eq_true_eq] at f6
    obtain ⟨g1, g2, g3, g4⟩ := f6
    cases hcl : vwCl[mi1.1]? with
    | none => rw [hcl] at g4; cases g4
    | some r0 =>
      rw [hcl] at g4
      have hr0 : r0.1 = mi1.2.1.cls := by simpa using g4
      rw [ho] at g1
      have hrc := hrec r0 hcl
      rw [hr0] at hrc
      have hgi : GoodIn gw (wsV mi.2.1.cls i mi1.2.1.cls mi1.2.1 (wsM mi1)) := goodIn_cons (inT_gw g1) rfl (goodIn_cons (inT_gw g2) rfl (goodIn_cons (inT_gw g3) rfl (goodIn_cons f2 rfl (goodIn_M hcode))))
      exact va_runV (cc := mi.2.2.1) (nL := mi.2.2.2.1) (Ts := gw) (own := mi.2.1.cls) (C := mi1.2.1.cls) (b := ad (sg sl q1)) (As := av.map (trv (fun k => ad (sg sl k)))) ⟨C.1, C.2.1, C.2.2.1, C.2.2.2.1, C.2.2.2.2.1⟩ hM (cwV n C.2.2.2.2.1 hgi rfl rfl rfl ⟨rfl, f3.1, f3.2, f4⟩ hRm) ⟨blind, hrc, hpre⟩ rfl (by rw [List.length_map]; exact hav) hl.1 hstk (lv_room (cat_r hr)) hd hcells
  · simp only [mzK, Bool.and_eq_true, decide_eq_true_eq] at f6
    obtain ⟨g1, g2, g3, g4⟩ := f6
    cases hcl : vwCl[mi1.1]? with
    | none => rw [hcl] at g4; cases g4
    | some r0 =>
      rw [hcl] at g4
      have hr0 : r0.1 = mi1.2.1.cls := by simpa using g4
      rw [ho] at g1
      have hrc := hrec r0 hcl
      rw [hr0] at hrc
      have hnw := C.2.2.2.2.2.2.2.1.1 _ (inN_nw g1)
      exact va_runVN (cc := mi.2.2.1) (nL := mi.2.2.2.1) (Ts := gw) (own := mi.2.1.cls) (C := mi1.2.1.cls) (b := ad (sg sl q1)) (As := av.map (trv (fun k => ad (sg sl k)))) ⟨C.1, C.2.1, C.2.2.1, C.2.2.2.1, C.2.2.2.2.1⟩ hM ⟨va_cnB n C.2.2.2.2.1 (goodIn_M hcode) rfl rfl rfl hnw hini ⟨f3.1, f3.2, f4⟩ hRm, C.2.2.2.2.1 _ (inT_gw g2), C.2.2.2.2.1 _ (inT_gw g3)⟩ ⟨blind, hrc, hpre⟩ rfl (by rw [List.length_map]; exact hav) hl.1 hstk (lv_room (cat_r hr)) hd hcells
/-- invokestatic, of our own or of a nest mate's -/
theorem g_callS {i k n d1 : Nat} {mi1 : MI} {av : List Value} {P1 : Pst} (ho : ownS mi.1 = mi.2.1.cls) (hz : mzl (mz mi.1) i = some (mi1, k, n)) (hcode : Cond.code mi1.2.1 mi1.2.2.1 mi1.2.2.2.1 mi1.2.2.2.2 ∈ gw) (hk : k = 1 ∨ k = 4) (hd1 : d1 < d) (hkc : kc ≤ mc ∧ ks ≤ ms) (sl : List Nat) (w1 : List va_E) (hsl : va_nd sl = true) (hl1 : w1.length ≤ 1000) (hmap : sl.map (lk w) = w1.map (fun e => some (ren sl e))) (hst : st = (av.map (rnv sl)).reverse ++ r) (hav : av.length = n) (hr : catS r ≤ 8)
    (hd : decode mi.2.2.1 pc = .ok (.invokestatic i, 3)) (hs : Spec d1 0 0 mi1 av w1 P1) (kk : ∀ v w2, P1 v w2 → w2.length = w1.length ∧ Good sc d mc ms n0 mi P kc ks (pc + 3) L ((v.map (rnv sl)).toList ++ r) (putW w sl (w2.map (ren sl)))) : Good sc d mc ms n0 mi P kc ks pc L st w := by
  intro p l e R s m args below meth c D cy ad0 A Q C H locs ls ad ha hn hm hP hD hS hl
  obtain ⟨f2, f3, f4, f5, ix, f6⟩ := mz_fact hz
  refine call_go (av := (av.map (trv (fun k => ad (sg sl k)))).toArray) C ha hn hm hP hD hS hl sl w1 hsl hmap hl1 ?_ kk
  have hpre := call_pre C ha hP hD hS sl w1 hsl hmap hl1 av
  have hRm := call_room C.2.2.2.2.2.2.2.2.1 hd1 f5
  have hstk : st.map (trv ad) = (av.map (trv (fun k => ad (sg sl k)))).reverse ++ r.map (trv ad) := by
    rw [hst, List.map_append, List.map_reverse, List.map_map]
    congr 2
    exact List.map_congr_left fun v _ => trv_rnv ad sl v
  have hM := hs l sc D cy (fun k => ad (sg sl k)) H.size
  have hini := C.2.2.2.2.1 _ f2
  have hcells : kc + 0 ≤ R.cells ∧ ks + 0 ≤ R.slots := ⟨Nat.le_trans hkc.1 C.2.2.2.2.2.2.2.2.1.2.2.1, Nat.le_trans hkc.2 C.2.2.2.2.2.2.2.2.1.2.2.2⟩
  rcases hk with rfl | rfl
  · simp only [mzK, Bool.and_eq_true] at f6
    obtain ⟨g1, g2⟩ := f6
    rw [ho] at g1
    have hgi : GoodIn gw (va_wsS mi.2.1.cls i mi1.2.1 (wsM mi1)) := goodIn_cons (inT_gw g1) rfl (goodIn_cons (inT_gw g2) rfl (goodIn_cons f2 rfl (goodIn_M hcode)))
    exact va_runS (cc := mi.2.2.1) (nL := mi.2.2.2.1) (Ts := gw) (own := mi.2.1.cls) (As := av.map (trv (fun k => ad (sg sl k)))) ⟨C.1, C.2.1, C.2.2.1, C.2.2.2.1, C.2.2.2.2.1⟩ hM (va_cwS n C.2.2.2.2.1 hgi rfl rfl rfl ⟨f3.1, f3.2, f4⟩ hRm) ⟨blind, hpre⟩ rfl (by rw [List.length_map]; exact hav) hl.1 hstk (lv_room (cat_r hr)) hd hcells
  · simp only [mzK, Bool.and_eq_true] at f6
    obtain ⟨g1, g2⟩ := f6
    rw [ho] at g1
    have hnw := C.2.2.2.2.2.2.2.1.1 _ (inN_nw g1)
    exact va_runSN (cc := mi.2.2.1) (nL := mi.2.2.2.1) (Ts := gw) (own := mi.2.1.cls) (As := av.map (trv (fun k => ad (sg sl k)))) ⟨C.1, C.2.1, C.2.2.1, C.2.2.2.1, C.2.2.2.2.1⟩ hM ⟨va_cnB n C.2.2.2.2.1 (goodIn_M hcode) rfl rfl rfl hnw hini ⟨f3.1, f3.2, f4⟩ hRm, C.2.2.2.2.1 _ (inT_gw g2), trivial⟩ ⟨blind, hpre⟩ rfl (by rw [List.length_map]; exact hav) hl.1 hstk (lv_room (cat_r hr)) hd hcells
end GM
