theorem nd_of : ∀ {l : List Nat}, l.Nodup → va_nd l = true
  | [], _ => rfl
  | a :: l, h => by
    obtain ⟨h1, h2⟩ := List.nodup_cons.mp h
    simp only [va_nd, Bool.and_eq_true, decide_eq_true_eq]
    exact ⟨h1, nd_of h2⟩
theorem va_nd_range (b : Nat) : va_nd (List.range b) = true := nd_of List.nodup_range
section GP
variable {sc : SC} {d mc ms n0 : Nat} {mi : MI} {P : Pst} {kc ks : Nat} {pc : Nat} {L : List (Option Value)} {st r : List Value} {w : List va_E}
/-- a reference into a final field, in a constructor -/
theorem g_putF {i ci k q j : Nat} {fs : List Value} (ho : ownS mi.1 = mi.2.1.cls) (hini : mi.2.1.name = "<init>") (hf : fzl (fz mi.1) i = some (ci, k, false)) (hw : lk w q = some (.inr (ci, fs))) (hl0 : Nat.blt k fs.length = true) (hfin : finA ci k = true) (hdecl : (vwCl[ci]?).map (fun r0 => (r0.2.1 k).1) = some (ownS mi.1)) (hty : (∃ t, tyA ci k = .array t) ∨ ∃ t, tyA ci k = .object t) (hd : decode mi.2.2.1 pc = .ok (.putfield i, 3)) (kk : Good sc d mc ms n0 mi P kc ks (pc + 3) L r (w.set q (.inr (ci, fs.set k (.ref j))))) : Good sc d mc ms n0 mi P kc ks pc L (.ref j :: .ref q :: r) w := by
  intro p l e R s m args below meth c D cy ad0 A Q C H locs ls ad ha hn hm hP hD hS hl
  obtain ⟨r0, hc, hk, -, hg, hx⟩ := fz_fact hf
  rw [ho] at hg hx hdecl
  have hfin2 : (r0.2.1 k).2.2.2 = true := by
    unfold finA at hfin
    rw [hc] at hfin
    exact hfin
  have hdc : (r0.2.1 k).1 = mi.2.1.cls := by
    rw [hc] at hdecl
    exact Option.some.inj hdecl
  have hn2 : narrow (tyA ci k) (.ref (ad j)) = .ref (ad j) ∧ fits (tyA ci k) (.ref (ad j)) = true := by
    rcases hty with ⟨t, h⟩ | ⟨t, h⟩
    · rw [h]; exact ⟨rfl, rfl⟩
    · rw [h]; exact ⟨rfl, rfl⟩
  have hl1 : k < (fs.map (trv ad)).length := by
    rw [List.length_map]
    exact Nat.blt_eq.mp hl0
  have hset : ∀ v : Value, tre cy ad (.inr (ci, fs.set k v)) = .inr (ci, (fs.map (trv ad)).set k (trv ad v)) := fun v => by
    show Sum.inr (ci, (fs.set k v).map (trv ad)) = _
    rw [set_map]
  have hlen : (w.set q (.inr (ci, fs.set k (.ref j)))).length = w.length := List.length_set
  refine va_putF (Ts := gw) (cl := vwCl) (C := r0.1) (T := r0.2.1) (N := r0.2.2) (ref := (r0.2.1 k).1) (v := .ref (ad j)) (ty := tyA ci k) C.1 C.2.1 C.2.2.2.2.1 (inG ci r0 hc) (tyA ci) (tyA_ok ci r0 hc) (nmA_ok ci r0 hc) C.2.2.2.1 C.2.2.2.2.2.1 hP hD hS q (lay_at hw) hc k hk (C.2.2.2.2.1 _ (hg rfl)) (fun _ h => h) hfin2 (C.2.2.2.2.2.2.2.2.2.2 hini) hdc (tyA_ok ci r0 hc k hk) hn2.1 hn2.2 hl1 hd (fun H1 locs1 hP1 hD1 hS1 => ?_)
  have e1 : (lay cy ad w).set q (ad q, .inr (ci, (fs.map (trv ad)).set k (.ref (ad j)))) = lay cy ad (w.set q (.inr (ci, fs.set k (.ref j)))) := by rw [lay_set, hset]; rfl
  rw [e1] at hP1 hD1
  exact kk p l e R s m args below meth c D cy ad0 A Q C H1 locs1 ls ad (by rw [hlen]; exact ha) (by rw [hlen]; exact hn) (by rw [hlen]; exact hm) hP1 hD1 hS1 hl
/-- aastore of an object -/
theorem g_astq {q t n j ci : Nat} {r0 : vw_C} {f : Nat → Option Nat} {vs : List Value} {i : Int32} (hw : lk w q = some (.inl (t, n, .inr (.inr (.inr (.inr f)))))) (hv : lk w j = some (.inr (ci, vs))) (hc : vwCl[ci]? = some r0) (ht : ∀ cy, (tysC cy)[t]? = some (cy t, .object r0.1)) (hi : vp_in i n) (hd : decode mi.2.2.1 pc = .ok (.aastore, 1)) (kk : Good sc d mc ms n0 mi P kc ks (pc + 1) L r (w.set q (.inl (t, n, .inr (.inr (.inr (.inr (va_up f i.toNatClampNeg (some j))))))))) : Good sc d mc ms n0 mi P kc ks pc L (.ref j :: .int i :: .ref q :: r) w := by
  intro p l e R s m args below meth c D cy ad0 A Q C H locs ls ad ha hn hm hP hD hS hl
  refine va_astq (cl := vwCl) (tys := tysC cy) (r := r0) C.1 C.2.1 C.2.2.2.2.2.1 hP hD hS q t j ci (lay_at hw) (ht cy) (lay_at hv) hc hi hd (fun H1 locs1 hP1 hD1 hS1 => ?_)
  have e0 : va_up (fun i => (f i).map ad) i.toNatClampNeg (some (ad j)) = fun x => (va_up f i.toNatClampNeg (some j) x).map ad := funext fun x => by
    unfold va_up
    split <;> rfl
  have e1 : (lay cy ad w).set q (ad q, .inl (cy t, n, .inr (.inr (.inr (.inr (va_up (fun i => (f i).map ad) i.toNatClampNeg (some (ad j)))))))) = lay cy ad (w.set q (.inl (t, n, .inr (.inr (.inr (.inr (va_up f i.toNatClampNeg (some j)))))))) := by rw [lay_set, e0]; rfl
  have hlen : (w.set q (.inl (t, n, .inr (.inr (.inr (.inr (va_up f i.toNatClampNeg (some j)))))))).length = w.length := List.length_set
  rw [e1] at hP1 hD1
  exact kk p l e R s m args below meth c D cy ad0 A Q C H1 locs1 ls ad (by rw [hlen]; exact ha) (by rw [hlen]; exact hn) (by rw [hlen]; exact hm) hP1 hD1 hS1 hl
/-! a constructor's call: its world is the last cell, what it makes comes behind -/
def shk (b k : Nat) : Nat := match Nat.ble 1000 k with
  | true => k
  | false => b + k
def shE (b : Nat) : va_E → va_E := tre id (shk b)
theorem shk_hi {b k : Nat} (h : 1000 ≤ k) : shk b k = k := by
  unfold shk
  rw [Nat.ble_eq_true_of_le h]
theorem shk_lo {b k : Nat} (h : k < 1000) : shk b k = b + k := by
  unfold shk
  have : Nat.ble 1000 k = false := by
    cases hb : Nat.ble 1000 k with
    | false => rfl
    | true => have := Nat.le_of_ble_eq_true hb; omega
  rw [this]
theorem trv_comp (f g : Nat → Nat) (v : Value) : trv f (trv g v) = trv (fun k => f (g k)) v := by cases v <;> rfl
theorem tre_comp (cy : Nat → ClassId) (f g : Nat → Nat) (e : va_E) : tre cy f (tre id g e) = tre cy (fun k => f (g k)) e := by
  match e with
  | .inr (c, fs) =>
    show Sum.inr (c, (fs.map (trv g)).map (trv f)) = Sum.inr (c, fs.map (trv (fun k => f (g k))))
    rw [List.map_map]
    congr 2
    exact List.map_congr_left fun v _ => trv_comp f g v
  | .inl (t, m, .inl h) => rfl
  | .inl (t, m, .inr (.inl h)) => rfl
  | .inl (t, m, .inr (.inr (.inl h))) => rfl
  | .inl (t, m, .inr (.inr (.inr (.inl h)))) => rfl
  | .inl (t, m, .inr (.inr (.inr (.inr h)))) =>
    show Sum.inl (cy t, m, Sum.inr (Sum.inr (Sum.inr (Sum.inr (fun i => ((h i).map g).map f))))) = Sum.inl (cy t, m, Sum.inr (Sum.inr (Sum.inr (Sum.inr (fun i => (h i).map (fun k => f (g k)))))))
    have : (fun i => ((h i).map g).map f) = fun i => (h i).map (fun k => f (g k)) := funext fun i => by cases h i <;> rfl
    rw [this]
def adj (ad ad2 : Nat → Nat) (b : Nat) : Nat → Nat := fun k => if b + 1 ≤ k ∧ k < 1000 then ad2 (k - b) else ad k
theorem g_callI {i k d1 mc1 ms1 : Nat} {mi1 : MI} {fs : List Value} {w0 w2 : List va_E} (ho : ownS mi.1 = mi.2.1.cls) (hz : mzl (mz mi.1) i = some (mi1, k, 0)) (hcode : Cond.code mi1.2.1 mi1.2.2.1 mi1.2.2.2.1 mi1.2.2.2.2 ∈ gw) (hvoid : mi1.2.2.2.2 = none) (hk : k = 2 ∨ k = 5) (hd1 : d1 < d) (hkc : kc + mc1 ≤ mc ∧ ks + ms1 ≤ ms) (hw : w = w0 ++ [.inr (mi1.1, fs)]) (hnr : fs.all nrB = true) (hrf : rfW (w0.length + 1) w0) (hL : rfL (w0.length + 1) L = true) (hrr : r.all (rfB (w0.length + 1)) = true) (hlen : w0.length + w2.length ≤ 1000) (h2 : 1 < w2.length) (hrf2 : rfW w2.length w2) (hr : catS r ≤ 8)
    (hd : decode mi.2.2.1 pc = .ok (.invokespecial i, 3)) (hs : Spec d1 mc1 ms1 mi1 [.ref 0] [.inr (mi1.1, fs)] (RV w2)) (kk : Good sc d mc ms n0 mi P (kc + mc1) (ks + ms1) (pc + 3) L r (w0 ++ w2.map (shE w0.length))) : Good sc d mc ms n0 mi P kc ks pc L (.ref w0.length :: r) w := by
  subst hw
  intro p l e R s m args below meth c D cy ad0 A Q C H locs ls ad ha hn hm hP hD hS hl
  obtain ⟨f2, f3, f4, f5, ix, f6⟩ := mz_fact hz
  have hwl : (w0 ++ [(.inr (mi1.1, fs) : va_E)]).length = w0.length + 1 := by rw [List.length_append]; rfl
  rw [hwl] at ha hn hm
  generalize hb : w0.length = b at *
  have hb1000 : b < 1000 := by omega
  have had1 : (fun k => ad (shk b k)) 0 = ad b := by show ad (shk b 0) = ad b; rw [shk_lo (by omega)]; rfl
  have hobj : ∀ ad9 : Nat → Nat, tre cy ad9 (.inr (mi1.1, fs)) = .inr (mi1.1, fs) := fun ad9 => by
    show Sum.inr (mi1.1, fs.map (trv ad9)) = _
    rw [nr_map hnr]
  have hwc : lay cy (fun k => ad (shk b k)) [.inr (mi1.1, fs)] = [(ad b, .inr (mi1.1, fs))] := by
    show [((fun k => ad (shk b k)) 0, tre cy (fun k => ad (shk b k)) (.inr (mi1.1, fs)))] = _
    rw [had1, hobj]
  have hlay : lay cy ad (w0 ++ [.inr (mi1.1, fs)]) = lay cy ad w0 ++ [(ad b, .inr (mi1.1, fs))] := by
    rw [lay_app, hobj, hb]
  have hlb : (lay cy ad w0).length = b := by rw [lay_len, hb]
  have hC : [b].map (fun i => (lay cy ad (w0 ++ [.inr (mi1.1, fs)]))[i]?) = (lay cy (fun k => ad (shk b k)) [.inr (mi1.1, fs)]).map some := by
    rw [hwc, hlay]
    show [(lay cy ad w0 ++ [(ad b, .inr (mi1.1, fs))])[b]?] = _
    rw [List.getElem?_append_right (by omega), hlb, Nat.sub_self]
    rfl
  have hR : (List.range b).map (fun i => (lay cy ad (w0 ++ [.inr (mi1.1, fs)]))[i]?) = (lay cy ad w0).map some := by
    rw [hlay]
    apply List.ext_getElem?
    intro j
    rw [List.getElem?_map, List.getElem?_map]
    by_cases hj : j < b
    · rw [List.getElem?_range hj]
      show some ((lay cy ad w0 ++ [(ad b, .inr (mi1.1, fs))])[j]?) = _
      rw [List.getElem?_append_left (by omega), List.getElem?_eq_getElem (by omega)]
      rfl
    · rw [List.getElem?_eq_none (by rw [List.length_range]; omega), List.getElem?_eq_none (by omega)]
      rfl
  have hFc := va_free (wc := lay cy (fun k => ad (shk b k)) [.inr (mi1.1, fs)]) hD hS C.2.2.2.2.2.2.1 [b] hC
  have hRm := C.2.2.2.2.2.2.2.2.1
  have hroom : (rmD d1 mc1 ms1).frames + 1 ≤ R.frames ∧ 8 + (mi1.2.2.2.1 + 11) + (rmD d1 mc1 ms1).locals ≤ R.locals := by
    unfold rmD
    dsimp only
    omega
  have hpre : ∀ U : State, U.heap = H → s.WarmedH U.vm → va_Pc (([.ref 0] : List Value).map (trv (fun k => ad (shk b k)))) (Psp sc D cy (fun k => ad (shk b k)) H.size [.inr (mi1.1, fs)]) (([.ref 0] : List Value).map (trv (fun k => ad (shk b k)))).toArray U := by
    intro U hU hW
    refine ⟨rfl, by rw [hU], ?_, va_K.moved hW.alike C.2.2.2.2.2.1, (hD.sub [b] rfl hC).weaken (fun _ _ _ _ => trivial), ?_⟩
    · rw [hU, hwc]
      intro j q hj
      have hj0 : j < 1 := (List.getElem?_eq_some_iff.mp hj).1
      rw [show j = 0 by omega] at hj
      cases hj
      refine hP b _ ?_
      rw [hlay, List.getElem?_append_right (by omega), hlb, Nat.sub_self]
      rfl
    · exact envS_moved C.2.2.2.2.2.2.2.1 hS hU hW (fun q _ h => hFc q h) (fun k hk => by show ad (shk b k) = ad0 k; rw [shk_hi hk]; exact ha.1 k (Or.inr hk)) hS.1
  have hcells : kc + mc1 ≤ R.cells ∧ ks + ms1 ≤ R.slots := ⟨Nat.le_trans hkc.1 hRm.2.2.1, Nat.le_trans hkc.2 hRm.2.2.2⟩
  have hM := hs l sc D cy (fun k => ad (shk b k)) H.size
  have hstk : (Value.ref b :: r).map (trv ad) = ([] : List Value).reverse ++ .ref (ad b) :: r.map (trv ad) := rfl
  have hav : (([.ref 0] : List Value).map (trv (fun k => ad (shk b k)))) = [.ref (ad b)] := by
    show [Value.ref (ad (shk b 0))] = _
    rw [shk_lo (by omega)]
    rfl
  have hrun : va_Run p l e R s m args below meth c H locs kc ks mc1 ms1 (F0 m pc ls ((Value.ref b :: r).map (trv ad))) (r.map (trv ad)) (Qsp (RV w2) D cy (fun k => ad (shk b k)) 1 (va_A (lay cy (fun k => ad (shk b k)) [.inr (mi1.1, fs)]) H.size) ([Value.ref (ad b)] : List Value).toArray) (va_A (lay cy (fun k => ad (shk b k)) [.inr (mi1.1, fs)]) H.size) := by
    rcases hk with rfl | rfl
    · simp only [mzK, Bool.and_eq_true, decide_eq_true_eq] at f6
      obtain ⟨g1, g2, g3⟩ := f6
      rw [ho] at g1
      have hgi : GoodIn gw (wsM mi1) := goodIn_M hcode
      refine va_runI (cc := mi.2.2.1) (nL := mi.2.2.2.1) (Ts := gw) (own := mi.2.1.cls) (b := ad b) (As := []) ⟨C.1, C.2.1, C.2.2.1, C.2.2.2.1, C.2.2.2.2.1⟩ hM (cwI 0 C.2.2.2.2.1 hgi (by unfold wsM; rw [hvoid]) rfl rfl (C.2.2.2.2.1 _ f2) (C.2.2.2.2.1 _ (inT_gw g1)) (C.2.2.2.2.1 _ (inT_gw g2)) g3 ⟨f3.1, f3.2, f4⟩ hroom) ⟨blind, ?_⟩ rfl rfl hl.1 hstk (lv_room (cat_r hr)) hd hcells
      intro U hU hW
      have := hpre U hU hW
      rw [hav] at this ⊢
      exact this
    · simp only [mzK, Bool.and_eq_true, decide_eq_true_eq] at f6
      obtain ⟨g1, g2, g3⟩ := f6
      rw [ho] at g1
      have hnw := C.2.2.2.2.2.2.2.1.1 _ (inN_nw g1)
      have hgi : GoodIn gw (wsM mi1) := goodIn_M hcode
      refine va_runIN (cc := mi.2.2.1) (nL := mi.2.2.2.1) (Ts := gw) (own := mi.2.1.cls) (b := ad b) (As := []) ⟨C.1, C.2.1, C.2.2.1, C.2.2.2.1, C.2.2.2.2.1⟩ hM ⟨va_cnB 0 C.2.2.2.2.1 hgi (by unfold wsM; rw [hvoid]) rfl rfl hnw (C.2.2.2.2.1 _ f2) ⟨f3.1, f3.2, f4⟩ hroom, g3, C.2.2.2.2.1 _ (inT_gw g2)⟩ ⟨blind, ?_⟩ rfl rfl hl.1 hstk (lv_room (cat_r hr)) hd hcells
      intro U hU hW
      have := hpre U hU hW
      rw [hav] at this ⊢
      exact this
  intro T hT X
  obtain ⟨v, st₀, t, T', Lx, h0, X', hL2, e1, e2, ⟨⟨v1, w9, ad2, hPv, hag, hn2, ho2, hPt, hDt⟩, hF⟩, stp⟩ := hrun T hT X
  obtain ⟨rfl, rfl⟩ := hPv
  have hv : v = none := by cases ho2; rfl
  subst hv
  obtain ⟨hF1, hF2⟩ := hF
  rw [h0] at hF1 hF2
  have hagr : agr (b + 1) (adj ad ad2 b) ad := fun k hk => if_neg (by omega)
  have hk2 : ∀ k, (k < w9.length ∨ 1000 ≤ k) → adj ad ad2 b (shk b k) = ad2 k := fun k hk => by
    by_cases h9 : 1000 ≤ k
    · rw [shk_hi h9, hagr k (Or.inr h9), hag.1 k (Or.inr h9)]
      show ad k = ad (shk b k)
      rw [shk_hi h9]
    · have h8 : k < w9.length := by omega
      rw [shk_lo (by omega)]
      by_cases h7 : k = 0
      · subst h7
        rw [hagr (b + 0) (Or.inl (by omega)), hag.1 0 (Or.inl (by decide))]
        show ad (b + 0) = ad (shk b 0)
        rw [shk_lo (by omega)]
      · show (if b + 1 ≤ b + k ∧ b + k < 1000 then ad2 (b + k - b) else ad (b + k)) = ad2 k
        rw [if_pos (by omega), Nat.add_sub_cancel_left]
  have hlay2 : lay cy (adj ad ad2 b) (w0 ++ w9.map (shE b)) = lay cy ad w0 ++ lay cy ad2 w9 := by
    apply List.ext_getElem?
    intro j
    by_cases hj : j < b
    · rw [lay_get, List.getElem?_append_left (by omega), List.getElem?_append_left (by omega), ← lay_get, lay_agr hagr hrf (by omega)]
    · rw [lay_get, List.getElem?_append_right (by omega), List.getElem?_append_right (by omega), hb, hlb, lay_get, List.getElem?_map]
      cases hx : w9[j - b]? with
      | none => rfl
      | some x =>
        have hjl := (List.getElem?_eq_some_iff.mp hx).1
        show some (adj ad ad2 b j, tre cy (adj ad ad2 b) (tre id (shk b) x)) = some (ad2 (j - b), tre cy ad2 x)
        rw [tre_comp, tre_agr (n := w9.length) (ad := ad2) (fun k hk => hk2 k hk) (rfW_mem hrf2 x (List.mem_of_getElem? hx))]
        have := hk2 (j - b) (Or.inl hjl)
        rw [shk_lo (by omega), show b + (j - b) = j by omega] at this
        rw [this]
  obtain ⟨hP2, hD2⟩ := va_join hP hD [b] (List.range b) hC hR (va_nd_range b) (fun i hi hc => by
    have h1 := List.mem_range.mp hi
    have h2 := List.mem_singleton.mp hc
    omega) hF2 hFc hPt hDt
  rw [← hlay2] at hP2 hD2
  have hS2 : va_S A s.heap T'.heap (locs ++ Lx) := by
    rw [e1]
    refine ⟨Nat.le_trans hS.1 hF1, fun q h1 h2 => ?_, fun q hq => ?_⟩
    · rw [hF2 q (Nat.lt_of_lt_of_le h1 hS.1) (fun z => h2 (hFc q z))]
      exact hS.2.1 q h1 h2
    · rcases List.mem_append.mp hq with h | h
      · exact hS.2.2 q h
      · exact hFc _ (hL2 q h)
  have hlen9 : (w0 ++ w9.map (shE b)).length = b + w9.length := by rw [List.length_append, List.length_map, hb]
  obtain ⟨t2, a1, b1⟩ := kk p l e R s m args below meth c D cy ad0 A Q C T'.heap (locs ++ Lx) ls (adj ad ad2 b) (by rw [hlen9]; exact ag_grow ha hn (by omega) hagr) (by rw [hlen9]; omega) (by rw [hlen9]; omega) (by rw [e1]; exact hP2) hD2 hS2 (lz_agr hagr hL hl) T' rfl X'
  refine ⟨t2, stp t2 ?_, b1⟩
  show Steps p.tables e below (T'.setTop { F0 m pc ls _ with pc := pc + 3, stack := r.map (trv ad) }) t2
  rw [← map_agr hagr hrr]
  exact a1
end GP
