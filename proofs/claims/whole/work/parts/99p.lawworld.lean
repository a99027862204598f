/-! the law's world: the board, behind it the reference -/
theorem tre_i (e : va_E) : tre (fun t => t) (fun k => k) e = e := by
  match e with
  | .inr (c, fs) =>
    show Sum.inr (c, fs.map (trv (fun k => k))) = _
    have : ∀ v ∈ fs, trv (fun k => k) v = v := fun v _ => by cases v <;> rfl
    rw [List.map_congr_left this, List.map_id']
  | .inl (t, m, .inl h) => rfl
  | .inl (t, m, .inr (.inl h)) => rfl
  | .inl (t, m, .inr (.inr (.inl h))) => rfl
  | .inl (t, m, .inr (.inr (.inr (.inl h)))) => rfl
  | .inl (t, m, .inr (.inr (.inr (.inr h)))) =>
    have : (fun i => (h i).map (fun k => k)) = h := funext fun i => by cases h i <;> rfl
    show Sum.inl (t, m, Sum.inr (Sum.inr (Sum.inr (Sum.inr (fun i => (h i).map (fun k => k)))))) = _
    rw [this]
theorem sg_range {n k : Nat} (h : k < n ∨ 1000 ≤ k) : sg (List.range n) k = k := by
  by_cases h9 : 1000 ≤ k
  · exact sg_hi _ h9
  · rw [sg_lo _ (by omega), List.getD_eq_getElem?_getD, List.getElem?_range (by omega)]
    rfl
theorem ren_range {n : Nat} {e : va_E} (he : rfE n e) : ren (List.range n) e = e := by
  have := tre_agr (ad' := sg (List.range n)) (ad := fun k => k) (cy := fun t => t) (fun k hk => sg_range hk) he
  exact this.trans (tre_i e)
def sl2 (n m : Nat) : List Nat := (List.range m).map (fun j => n + j)
theorem sg_sl2 {n m k : Nat} (h : k < m ∨ 1000 ≤ k) : sg (sl2 n m) k = shk n k := by
  by_cases h9 : 1000 ≤ k
  · rw [sg_hi _ h9, shk_hi h9]
  · rw [sg_lo _ (by omega), shk_lo (by omega), List.getD_eq_getElem?_getD]
    unfold sl2
    rw [List.getElem?_map, List.getElem?_range (by omega)]
    rfl
theorem ren_sl2 {n m : Nat} {e : va_E} (he : rfE m e) : ren (sl2 n m) e = shE n e := tre_agr (ad' := sg (sl2 n m)) (ad := shk n) (cy := fun t => t) (fun k hk => sg_sl2 hk) he
theorem nd_sl2 (n m : Nat) : va_nd (sl2 n m) = true := nd_of (by
  unfold sl2
  refine List.Pairwise.map _ (fun a b h => ?_) List.nodup_range
  intro z
  exact h (by omega))
theorem map_B {a b : List va_E} (ha : rfW a.length a) : (List.range a.length).map (lk (a ++ b)) = a.map (fun e => some (ren (List.range a.length) e)) := by
  apply List.ext_getElem?
  intro j
  rw [List.getElem?_map, List.getElem?_map]
  by_cases hj : j < a.length
  · rw [List.getElem?_range hj, List.getElem?_eq_getElem hj]
    show some (lk (a ++ b) j) = some (some (ren _ a[j]))
    rw [lk_eq, List.getElem?_append_left hj, List.getElem?_eq_getElem hj, ren_range (rfW_mem ha _ (List.getElem_mem hj))]
  · rw [List.getElem?_eq_none (by rw [List.length_range]; omega), List.getElem?_eq_none (by omega)]
    rfl
theorem put_B {a b a2 : List va_E} {n : Nat} (hn : a.length = n) (h2 : a2.length = n) (ha : rfW n a2) : putW (a ++ b) (List.range n) (a2.map (ren (List.range n))) = a2 ++ b := by
  have e : a2.map (ren (List.range n)) = a2 := by
    have : ∀ x ∈ a2, ren (List.range n) x = x := fun x hx => ren_range (rfW_mem ha x hx)
    rw [List.map_congr_left this, List.map_id']
  rw [e]
  apply List.ext_getElem?
  intro j
  by_cases hj : j < n
  · rw [List.getElem?_append_left (by omega), List.getElem?_eq_getElem (by omega : j < a2.length)]
    exact putW_at _ _ _ (va_nd_range n) (fun k hk => by rw [List.length_append]; have := List.mem_range.mp hk; omega) j j _ (List.getElem?_range hj) (List.getElem?_eq_getElem (by omega))
  · rw [putW_ne _ _ _ _ (fun z => hj (List.mem_range.mp z)), List.getElem?_append_right (by omega), List.getElem?_append_right (by omega), hn, h2]
theorem map_M {a b : List va_E} {n m : Nat} (hn : a.length = n) (hm : b.length = m) (hb : rfW m b) : (sl2 n m).map (lk (a ++ b.map (shE n))) = b.map (fun e => some (ren (sl2 n m) e)) := by
  apply List.ext_getElem?
  intro j
  unfold sl2
  rw [List.getElem?_map, List.getElem?_map, List.getElem?_map]
  by_cases hj : j < m
  · rw [List.getElem?_range hj, List.getElem?_eq_getElem (by omega : j < b.length)]
    show some (lk (a ++ b.map (shE n)) (n + j)) = some (some (ren (sl2 n m) b[j]))
    rw [lk_eq, List.getElem?_append_right (by omega), hn, Nat.add_sub_cancel_left, List.getElem?_map, List.getElem?_eq_getElem (by omega : j < b.length), ren_sl2 (rfW_mem hb _ (List.getElem_mem _))]
    rfl
  · rw [List.getElem?_eq_none (by rw [List.length_range]; omega), List.getElem?_eq_none (by omega)]
    rfl
theorem put_M {a b b2 : List va_E} {n m : Nat} (hn : a.length = n) (hm : b.length = m) (h2 : b2.length = m) (hb : rfW m b2) : putW (a ++ b.map (shE n)) (sl2 n m) (b2.map (ren (sl2 n m))) = a ++ b2.map (shE n) := by
  have e : b2.map (ren (sl2 n m)) = b2.map (shE n) := List.map_congr_left fun x hx => ren_sl2 (rfW_mem hb x hx)
  rw [e]
  apply List.ext_getElem?
  intro j
  by_cases hj : j < n
  · have hni : j ∉ sl2 n m := fun z => by
      obtain ⟨i, -, hi⟩ := List.mem_map.mp z
      omega
    rw [putW_ne _ _ _ _ hni, List.getElem?_append_left (by omega), List.getElem?_append_left (by omega)]
  · by_cases hj2 : j < n + m
    · have hx : (b2.map (shE n))[j - n]? = some (shE n (b2[j - n]'(by omega))) := by rw [List.getElem?_map, List.getElem?_eq_getElem (by omega)]; rfl
      rw [List.getElem?_append_right (by omega), hn, hx]
      refine putW_at _ _ _ (nd_sl2 n m) (fun k hk => ?_) (j - n) j _ ?_ hx
      · obtain ⟨i, hi, rfl⟩ := List.mem_map.mp hk
        have := List.mem_range.mp hi
        rw [List.length_append, List.length_map]
        omega
      · unfold sl2
        rw [List.getElem?_map, List.getElem?_range (by omega)]
        show some (n + (j - n)) = some j
        rw [show n + (j - n) = j by omega]
    · have hni : j ∉ sl2 n m := fun z => by
        obtain ⟨i, hi, hi2⟩ := List.mem_map.mp z
        have := List.mem_range.mp hi
        omega
      rw [putW_ne _ _ _ _ hni, List.getElem?_append_right (by omega), List.getElem?_append_right (by omega), List.getElem?_eq_none (by rw [List.length_map]; omega), List.getElem?_eq_none (by rw [List.length_map]; omega)]
section GLW
variable {sc : SC} {d mc ms n0 : Nat} {mi : MI} {P : Pst} {kc ks : Nat} {pc : Nat} {L : List (Option Value)} {st r : List Value} {a b a2 b2 : List va_E}
theorem cLB {n i k na d1 : Nat} {mi1 : MI} {av fs : List Value} {x : Value} (hs : Spec d1 0 0 mi1 (.ref 0 :: av) a (Ret (some x) a2)) (hz : mzl (mz mi.1) i = some (mi1, k, na)) (hcode : Cond.code mi1.2.1 mi1.2.2.1 mi1.2.2.2.1 mi1.2.2.2.2 ∈ gw) (hd : decode mi.2.2.1 pc = .ok (.invokevirtual i, 3)) (hn : a.length = n) (h0 : 0 < n) (hn1 : n ≤ 1000) (h2 : a2.length = n) (ha : rfW n a) (ha2 : rfW n a2) (hw1 : lk a 0 = some (.inr (mi1.1, fs))) (hst : st = av.reverse ++ .ref 0 :: r) (hnr : av.all nrB = true) (hx : nrB x = true) (hav : av.length = na) (ho : ownS mi.1 = mi.2.1.cls) (hk : k = 0 ∨ k = 3) (hd1 : d1 < d) (hkc : kc ≤ mc ∧ ks ≤ ms) (hr : catS r ≤ 8)
    (kk : Good sc d mc ms n0 mi P kc ks (pc + 3) L (x :: r) (a2 ++ b)) : Good sc d mc ms n0 mi P kc ks pc L st (a ++ b) := by
  subst hn
  refine g_callV ho hz hcode hk hd1 hkc (List.range a.length) a (va_nd_range _) hn1 (by decide) (map_B ha) hw1 (av := av) (q1 := 0) (r := r) ?_ hav hr hd hs (fun v w2 h => ?_)
  · rw [hst, show av.map (rnv (List.range a.length)) = av from nr_map hnr, sg_range (Or.inl h0)]
  · obtain ⟨rfl, rfl⟩ := h
    refine ⟨h2, ?_⟩
    rw [put_B rfl h2 ha2]
    have e : rnv (List.range a.length) x = x := by
      cases x with
      | ref q => cases hx
      | _ => rfl
    show Good _ _ _ _ _ _ _ _ _ _ _ (rnv (List.range a.length) x :: r) _
    rw [e]
    exact kk
theorem cLM {n m i k na d1 : Nat} {mi1 : MI} {av fs : List Value} {x : Value} (hs : Spec d1 0 0 mi1 (.ref 0 :: av) b (Ret (some x) b2)) (hz : mzl (mz mi.1) i = some (mi1, k, na)) (hcode : Cond.code mi1.2.1 mi1.2.2.1 mi1.2.2.2.1 mi1.2.2.2.2 ∈ gw) (hd : decode mi.2.2.1 pc = .ok (.invokevirtual i, 3)) (hn : a.length = n) (hm : b.length = m) (h0 : 0 < m) (hn1 : m ≤ 1000) (h2 : b2.length = m) (hb : rfW m b) (hb2 : rfW m b2) (hw1 : lk b 0 = some (.inr (mi1.1, fs))) (hst : st = av.reverse ++ .ref n :: r) (hnr : av.all nrB = true) (hx : nrB x = true) (hav : av.length = na) (ho : ownS mi.1 = mi.2.1.cls) (hk : k = 0 ∨ k = 3) (hd1 : d1 < d) (hkc : kc ≤ mc ∧ ks ≤ ms) (hr : catS r ≤ 8)
    (kk : Good sc d mc ms n0 mi P kc ks (pc + 3) L (x :: r) (a ++ b2.map (shE n))) : Good sc d mc ms n0 mi P kc ks pc L st (a ++ b.map (shE n)) := by
  refine g_callV ho hz hcode hk hd1 hkc (sl2 n m) b (nd_sl2 n m) (by omega) (by decide) (map_M hn hm hb) hw1 (av := av) (q1 := 0) (r := r) ?_ hav hr hd hs (fun v w2 h => ?_)
  · rw [hst, show av.map (rnv (sl2 n m)) = av from nr_map hnr, sg_sl2 (Or.inl h0), shk_lo (by decide)]
    rfl
  · obtain ⟨rfl, rfl⟩ := h
    refine ⟨by omega, ?_⟩
    rw [put_M hn hm h2 hb2]
    have e : rnv (sl2 n m) x = x := by
      cases x with
      | ref q => cases hx
      | _ => rfl
    show Good _ _ _ _ _ _ _ _ _ _ _ (rnv (sl2 n m) x :: r) _
    rw [e]
    exact kk
end GLW
