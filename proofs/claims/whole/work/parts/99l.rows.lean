def va_AOA (ty : FieldType) (U : State) : Prop := (Cond.arrayOver (.array ty)).before #[] U = true
theorem va_AOA.use {ty : FieldType} {A : Array Value} {U : State} (h : va_AOA ty U) : (Cond.arrayOver (.array ty)).before A U = true := h
/-! ===== BEGIN new T[n][m]: the outer array a place, the inner ones among the pooled ===== -/
/-- f, but v at every address of l -/
def vr_up {α : Type} (f : Nat → α) (l : List Nat) (v : α) : Nat → α := fun a => if a ∈ l then v else f a
theorem vr_up_in {α : Type} {f : Nat → α} {l : List Nat} {v : α} {a : Nat} (h : a ∈ l) : vr_up f l v a = v := if_pos h
theorem vr_up_ne {α : Type} {f : Nat → α} {l : List Nat} {v : α} {a : Nat} (h : a ∉ l) : vr_up f l v a = f a := if_neg h
theorem vr_rows {L l : List Nat} {f : Nat → va_E} {e : va_E} (h : ∀ a, a ∈ l → a ∉ L) : va_pl L f ++ l.map (fun a => (a, e)) = va_pl (L ++ l) (vr_up f l e) := by
  unfold va_pl
  rw [List.map_append]
  congr 1
  · apply List.map_congr_left
    intro a ha
    rw [vr_up_ne (fun q => h a q ha)]
  · apply List.map_congr_left
    intro a ha
    rw [vr_up_in ha]
theorem vr_lay {X rows : va_W} {x : Nat × va_E} {pl : va_W} {D : va_G} {cl : List vw_C} {H : Heap} (hP : va_P D cl (((X ++ pl) ++ [x]) ++ rows) H) : va_P D cl ((X ++ [x]) ++ (pl ++ rows)) H := by
  rw [List.append_assoc (X ++ pl)] at hP
  have h := va_P.swap hP
  rw [← List.append_assoc X] at h
  have h2 := va_P.swap h
  rw [List.append_assoc (X ++ [x])] at h2
  exact h2
theorem vr_layD {X rows : va_W} {x : Nat × va_E} {pl : va_W} {A : Nat → Prop} (hD : va_D A (((X ++ pl) ++ [x]) ++ rows)) : va_D A ((X ++ [x]) ++ (pl ++ rows)) := by
  rw [List.append_assoc (X ++ pl)] at hD
  have h := va_D.swap hD
  rw [← List.append_assoc X] at h
  have h2 := va_D.swap h
  rw [List.append_assoc (X ++ [x])] at h2
  exact h2
section VGM
variable {p : Program} {l : Launch} {e : Env} {R : Room} {s : State} {m : MethodId} {args : Array Value} {below : List Frame} {meth : Method} {c : Code} {H : Heap} {locs : List Loc} {cells slots : Nat} {Q : State → Prop}
variable {cc : ByteArray} {pc : Nat} {ls : Array Slot} {rest : List Value} {D : va_G} {cl : List vw_C} {A : Nat → Prop} {a : Nat} {tys : List (ClassId × FieldType)} {ws : va_W} {H0 : Heap}
theorem va_mna {X : va_W} {L : List Nat} {f : Nat → va_E} {cc : ByteArray} (hexec : p.tables.exec = Jvm.exec) (hb : c.code = cc) {own : String} {index : Nat} {ty : FieldType} {cy : ClassId} (hown : s.vm.findClass own = some m.cls) (hclink : (Cond.classLink own index ("[" ++ (FieldType.array ty).toString)).before args s = true) (hover : va_AOA ty s) (harr : (Cond.arrayClass ty).before args s = true) (hcy : s.vm.findClass (FieldType.array ty).toString = some cy)
    (hK : va_K D cl tys s) (hP : va_P D cl (X ++ va_pl L f) H) (hD : va_D A (X ++ va_pl L f)) (hS : va_S A H0 H locs) (hA : ∀ q, H0.size ≤ q → A q) {n k : Int32} {N' K' : Nat} {z : vp_A} (hn : ¬ n < 0) (hk : ¬ k < 0) (hN : n.toNatClampNeg = N') (hM : k.toNatClampNeg = K')
    (hb1 : N' * 4 ≤ 536870912) (hb2 : K' * componentBytes ty ≤ 536870912) (hb3 : K' ≤ 536870912) (hcells : cells + (1 + N') ≤ R.cells) (hslots : slots + (N' + N' * K') ≤ R.slots) (hz : ∀ c : ClassId, mq_in c K' (defaultValue ty) = vp_cell c z) (hdg : decode cc pc = .ok (.multianewarray index 2, 4))
    (kk : ∀ (q : Nat) (r : Nat → Nat) (cA : ClassId) (H1 : Heap), (∀ i j : Nat, i < N' → j < N' → r i = r j → i = j) → (∀ i : Nat, i < N' → r i ∉ L) → va_K D cl (tys ++ [(cA, .array ty)]) s →
      va_P D cl ((X ++ [(q, .inl (cA, N', .inr (.inr (.inr (.inr (fun i => if i < N' then some (r i) else none))))))]) ++ va_pl (L ++ (List.range N').map r) (vr_up f ((List.range N').map r) (.inl (cy, z)))) H1 → va_D A ((X ++ [(q, .inl (cA, N', .inr (.inr (.inr (.inr (fun i => if i < N' then some (r i) else none))))))]) ++ va_pl (L ++ (List.range N').map r) (vr_up f ((List.range N').map r) (.inl (cy, z)))) → va_S A H0 H1 locs →
      W p l e R s m args below meth c H1 locs (cells + 1 + N') (slots + N' + N' * K') Q (F0 m (pc + 4) ls (.ref q :: rest))) : W p l e R s m args below meth c H locs cells slots Q (F0 m pc ls (.int k :: .int n :: rest)) := by
  subst hN
  subst hM
  intro T hT Xs
  obtain ⟨vm₁, cA, comp, kA, fA, fC, hkA, hkd, X', step⟩ := mq_walk Xs hexec hown hclink (va_AOA.use hover) harr (g := F0 m pc ls (.int k :: .int n :: rest)) rfl (by rw [hb]; exact hdg) rfl hn hk hb1 hb2 hb3 hcells hslots
  have ec : some cy = some comp := hcy.symm.trans fC
  cases ec
  generalize hF : mq_st (T.setVm vm₁) cA cy n.toNatClampNeg k.toNatClampNeg (defaultValue ty) n.toNatClampNeg = F at X' step
  have hTh : (T.setVm vm₁).heap = H := hT
  have f1 := mq_size (T := T.setVm vm₁) (cA := cA) (cI := cy) (N := n.toNatClampNeg) (K := k.toNatClampNeg) (v := defaultValue ty) n.toNatClampNeg
  have f2 := mq_at (T := T.setVm vm₁) (cA := cA) (cI := cy) (N := n.toNatClampNeg) (K := k.toNatClampNeg) (v := defaultValue ty) n.toNatClampNeg
  rw [hF, hTh] at f1 f2
  have hold : ∀ x : Nat, x < H.size → F.heap[x]? = H[x]? := fun x hx => by
    have := mq_old (T := T.setVm vm₁) (cA := cA) (cI := cy) (N := n.toNatClampNeg) (K := k.toNatClampNeg) (v := defaultValue ty) n.toNatClampNeg x (by rw [hTh]; exact hx)
    rw [hF, hTh] at this
    exact this
  have hrow : ∀ j : Nat, j < n.toNatClampNeg → F.heap[H.size + 1 + j]? = some (vp_cell cy z) := fun j hj => by
    have := mq_new (T := T.setVm vm₁) (cA := cA) (cI := cy) (N := n.toNatClampNeg) (K := k.toNatClampNeg) (v := defaultValue ty) n.toNatClampNeg j hj
    rw [hF, hTh, hz] at this
    exact this
  have hout : mq_out cA n.toNatClampNeg H.size n.toNatClampNeg = vp_cell cA (n.toNatClampNeg, .inr (.inr (.inr (.inr (fun i => if i < n.toNatClampNeg then some (H.size + 1 + i) else none))))) := (vp_cell_q _ _ _).symm
  rw [hout] at f2
  have hlt : ∀ a, a ∈ L → a < H.size := fun a ha => by
    obtain ⟨k9, hk9⟩ := va_pl_get (X := X) (f := f) ha
    exact (hP k9 _ hk9).lt
  have hnl : ∀ i : Nat, i < n.toNatClampNeg → H.size + 1 + i ∉ L := fun i _ h => by
    have := hlt _ h
    omega
  have hnm : ∀ a, a ∈ (List.range n.toNatClampNeg).map (fun i => H.size + 1 + i) → a ∉ L := fun a ha h => by
    obtain ⟨i, -, rfl⟩ := List.mem_map.mp ha
    have := hlt _ h
    omega
  have hP0 : va_P D cl (X ++ va_pl L f) F.heap := hP.kept (fun k9 x hx => hold x.1 ((hP k9 x hx).lt))
  have hP1 : va_P D cl ((X ++ va_pl L f) ++ [(H.size, .inl (cA, n.toNatClampNeg, .inr (.inr (.inr (.inr (fun i => if i < n.toNatClampNeg then some (H.size + 1 + i) else none))))))]) F.heap := hP0.app (fun k9 x hx => by
    have h0 : k9 < 1 := (List.getElem?_eq_some_iff.mp hx).1
    rw [show k9 = 0 by omega] at hx
    cases hx
    exact f2)
  have hP2 : va_P D cl (((X ++ va_pl L f) ++ [(H.size, .inl (cA, n.toNatClampNeg, .inr (.inr (.inr (.inr (fun i => if i < n.toNatClampNeg then some (H.size + 1 + i) else none))))))]) ++ ((List.range n.toNatClampNeg).map (fun i => H.size + 1 + i)).map (fun a => (a, .inl (cy, z)))) F.heap := hP1.app (fun k9 x hx => by
    obtain ⟨a, ha, rfl⟩ := List.mem_map.mp (List.mem_of_getElem? hx)
    obtain ⟨i, hi, rfl⟩ := List.mem_map.mp ha
    exact hrow i (List.mem_range.mp hi))
  have hD2 : va_D A (((X ++ va_pl L f) ++ [(H.size, .inl (cA, n.toNatClampNeg, .inr (.inr (.inr (.inr (fun i => if i < n.toNatClampNeg then some (H.size + 1 + i) else none))))))]) ++ ((List.range n.toNatClampNeg).map (fun i => H.size + 1 + i)).map (fun a => (a, .inl (cy, z)))) := by
    have hD1 := hD.push (e := .inl (cA, n.toNatClampNeg, .inr (.inr (.inr (.inr (fun i => if i < n.toNatClampNeg then some (H.size + 1 + i) else none)))))) hP rfl (hA _ hS.1)
    generalize hW1 : (X ++ va_pl L f) ++ [(H.size, .inl (cA, n.toNatClampNeg, .inr (.inr (.inr (.inr (fun i => if i < n.toNatClampNeg then some (H.size + 1 + i) else none))))))] = W1 at hD1 hP1 ⊢
    have hle : ∀ (k9 : Nat) (x : Nat × va_E), W1[k9]? = some x → x.1 ≤ H.size := fun k9 x hx => by
      rw [← hW1] at hx
      by_cases hl : k9 < (X ++ va_pl L f).length
      · rw [List.getElem?_append_left hl] at hx
        exact Nat.le_of_lt ((hP k9 x hx).lt)
      · rw [List.getElem?_append_right (by omega)] at hx
        have h0 : k9 - (X ++ va_pl L f).length < 1 := (List.getElem?_eq_some_iff.mp hx).1
        rw [show k9 - (X ++ va_pl L f).length = 0 by omega] at hx
        cases hx
        exact Nat.le_refl _
    have hr : ∀ (k9 : Nat) (x : Nat × va_E), (((List.range n.toNatClampNeg).map (fun i => H.size + 1 + i)).map (fun a => ((a, .inl (cy, z)) : Nat × va_E)))[k9]? = some x → x.1 = H.size + 1 + k9 := fun k9 x hx => by
      rw [List.getElem?_map, List.getElem?_map] at hx
      by_cases h9 : k9 < n.toNatClampNeg
      · rw [List.getElem?_range h9] at hx
        cases hx
        rfl
      · have hn0 : (List.range n.toNatClampNeg)[k9]? = none := List.getElem?_eq_none (by rw [List.length_range]; omega)
        rw [hn0] at hx
        cases hx
    refine ⟨fun i j x y hi hj hxy => ?_, fun k9 x hx => ?_⟩
    · by_cases h1 : i < W1.length <;> by_cases h2 : j < W1.length
      · rw [List.getElem?_append_left h1] at hi
        rw [List.getElem?_append_left h2] at hj
        exact hD1.1 i j x y hi hj hxy
      · rw [List.getElem?_append_left h1] at hi
        rw [List.getElem?_append_right (by omega)] at hj
        have := hle _ _ hi
        have := hr _ _ hj
        omega
      · rw [List.getElem?_append_right (by omega)] at hi
        rw [List.getElem?_append_left h2] at hj
        have := hle _ _ hj
        have := hr _ _ hi
        omega
      · rw [List.getElem?_append_right (by omega)] at hi hj
        have := hr _ _ hi
        have := hr _ _ hj
        omega
    · by_cases h1 : k9 < W1.length
      · rw [List.getElem?_append_left h1] at hx
        exact hD1.2 k9 x hx
      · rw [List.getElem?_append_right (by omega)] at hx
        have := hr _ _ hx
        exact hA _ (by have := hS.1; omega)
  have hAr : ArrOfT s cA (.array ty) := fun N9 z9 => by
    exact ⟨(fun q hq => by cases hq), kA, hkA, cy, hkd⟩
  have hK2 : va_K D cl (tys ++ [(cA, .array ty)]) s := ⟨hK.1, fun k9 x hx => by
    by_cases hl : k9 < tys.length
    · rw [List.getElem?_append_left hl] at hx
      exact hK.2 k9 x hx
    · rw [List.getElem?_append_right (by omega)] at hx
      have h0 : k9 - tys.length < 1 := (List.getElem?_eq_some_iff.mp hx).1
      rw [show k9 - tys.length = 0 by omega] at hx
      cases hx
      exact ⟨hAr, fA⟩⟩
  obtain ⟨t, a1, b1⟩ := kk H.size (fun i => H.size + 1 + i) cA F.heap (fun i j _ _ h => by have h9 : H.size + 1 + i = H.size + 1 + j := h; omega) hnl hK2 (by rw [← vr_rows hnm]; exact vr_lay hP2) (by rw [← vr_rows hnm]; exact vr_layD hD2) ⟨by rw [f1]; have := hS.1; omega, fun x h1 h2 => (hold x (Nat.lt_of_lt_of_le h1 hS.1)).trans (hS.2.1 x h1 h2), hS.2.2⟩ F rfl X'
  refine ⟨t, step t ?_, b1⟩
  have e : T.heap.size = H.size := by rw [hT]
  rw [e]
  exact a1
end VGM
/-! ===== END ===== -/
/-! new int[n][k] on a world by places -/
theorem rf_row {n : Nat} {l : List Nat} (h : l.all (fun k => Nat.blt k n || Nat.ble 1000 k) = true) : ∀ i k, rowF l i = some k → k < n ∨ 1000 ≤ k := fun i k hk => rfB_k (List.all_eq_true.mp h k (List.mem_of_getElem? hk))
def adm (ad : Nat → Nat) (b N q : Nat) (r : Nat → Nat) : Nat → Nat := fun k => if k = b then q else if b < k ∧ k < b + 1 + N then r (k - (b + 1)) else ad k
theorem adm_agr (ad : Nat → Nat) {b N : Nat} (q : Nat) (r : Nat → Nat) (h : b + 1 + N ≤ 1000) : agr b (adm ad b N q r) ad := fun k hk => by
  unfold adm
  rw [if_neg (by omega), if_neg (by omega)]
section GMA
variable {sc : SC} {d mc ms n0 : Nat} {mi : MI} {P : Pst} {kc ks : Nat} {pc : Nat} {L : List (Option Value)} {st r : List Value} {w : List va_E}
theorem g_mna {i N K : Nat} {n k : Int32} (hlink : Cond.classLink mi.2.1.cls i "[[I" ∈ gw) (hov : Cond.arrayOver (.array .int) ∈ nw) (harr : Cond.arrayClass .int ∈ gw) (hn0 : ¬ n < 0) (hk0 : ¬ k < 0) (hN : n.toNatClampNeg = N) (hK : k.toNatClampNeg = K) (hN2 : N ≤ 100) (hK2 : K ≤ 100) (hd : decode mi.2.2.1 pc = .ok (.multianewarray i 2, 4)) (hrf : rfW w.length w) (hL : rfL w.length L = true) (hr : r.all (rfB w.length) = true) (hw : w.length + 1 + N ≤ 1000) (hkc : kc + 1 + N ≤ mc ∧ ks + N + N * K ≤ ms)
    (kk : Good sc d mc ms n0 mi P (kc + 1 + N) (ks + N + N * K) (pc + 4) L (.ref w.length :: r) (w ++ .inl (4, N, .inr (.inr (.inr (.inr (rowF ((List.range N).map (fun i => w.length + 1 + i))))))) :: List.replicate N (.inl (0, K, .inl (fun _ => 0))))) : Good sc d mc ms n0 mi P kc ks pc L (.int k :: .int n :: r) w := by
  intro p l e R s m args below meth c D cy ad0 A Q C H locs ls ad ha hn hm hP hD hS hl
  have hR := C.2.2.2.2.2.2.2.2.1
  have hcy : s.vm.findClass (FieldType.array .int).toString = some (cy 0) := (C.2.2.2.2.2.1.2 0 (cy 0, .int) rfl).2
  have hP0 : va_P D vwCl (lay cy ad w ++ va_pl [] (fun _ => .inr (0, []))) H := by
    show va_P D vwCl (lay cy ad w ++ []) H
    rw [List.append_nil]; exact hP
  have hD0 : va_D A (lay cy ad w ++ va_pl [] (fun _ => .inr (0, []))) := by
    show va_D A (lay cy ad w ++ [])
    rw [List.append_nil]; exact hD
  refine va_mna (cl := vwCl) (tys := tysC cy) (X := lay cy ad w) (L := []) (f := fun _ => .inr (0, [])) (ty := .int) (cy := cy 0) (z := (K, .inl (fun _ => 0))) C.1 C.2.1 C.2.2.2.1 (C.2.2.2.2.1 _ hlink) (C.2.2.2.2.2.2.2.1.1 _ hov) (C.2.2.2.2.1 _ harr) hcy C.2.2.2.2.2.1 hP0 hD0 hS C.2.2.2.2.2.2.1 hn0 hk0 hN hK (by omega) (Nat.le_trans (Nat.mul_le_mul hK2 (show componentBytes .int ≤ 8 by decide)) (by decide)) (by omega) (by omega) (by omega) (fun cA => ?_) hd (fun q rr cA H1 _ _ hK1 hP1 hD1 hS1 => ?_)
  · show ({ cls := cA, slots := Array.replicate K (.int 0), vm := .none } : Cell) = arrV cA K (fun _ => .int 0)
    rw [arrV_new]
  have hcA : cA = cy 4 := cy_of (t := 4) C.2.2.2.2.2.1 rfl hK1 ra_arr
  subst hcA
  have hag := adm_agr ad (N := N) q rr hw
  have hin : ∀ j, j < N → adm ad w.length N q rr (w.length + 1 + j) = rr j := fun j hj => by
    unfold adm
    rw [if_neg (by omega), if_pos (by omega)]
    congr 1
    omega
  have hb : adm ad w.length N q rr w.length = q := if_pos rfl
  have e1 : (lay cy ad w ++ [(q, .inl (cy 4, N, .inr (.inr (.inr (.inr (fun i => if i < N then some (rr i) else none))))))]) ++ va_pl ([] ++ (List.range N).map rr) (vr_up (fun _ => .inr (0, [])) ((List.range N).map rr) (.inl (cy 0, (K, .inl (fun _ => 0))))) = lay cy (adm ad w.length N q rr) (w ++ .inl (4, N, .inr (.inr (.inr (.inr (rowF ((List.range N).map (fun i => w.length + 1 + i))))))) :: List.replicate N (.inl (0, K, .inl (fun _ => 0)))) := by
    apply List.ext_getElem?
    intro j
    have hll := lay_len cy ad w
    rw [List.append_assoc]
    by_cases h1 : j < w.length
    · rw [lay_get, List.getElem?_append_left (by omega), List.getElem?_append_left h1, ← lay_get, lay_agr hag hrf (Nat.le_refl _)]
    · rw [lay_get, List.getElem?_append_right (show (lay cy ad w).length ≤ j by omega), List.getElem?_append_right (show w.length ≤ j by omega), hll]
      by_cases h2 : j = w.length
      · subst h2
        rw [Nat.sub_self]
        show some (q, _) = some (adm ad w.length N q rr w.length, _)
        rw [hb]
        congr 2
        show Sum.inl (cy 4, N, Sum.inr (Sum.inr (Sum.inr (Sum.inr _)))) = Sum.inl (cy 4, N, Sum.inr (Sum.inr (Sum.inr (Sum.inr (fun i => (rowF ((List.range N).map (fun i => w.length + 1 + i)) i).map (adm ad w.length N q rr))))))
        have e2 : (fun i => if i < N then some (rr i) else none) = fun i => (rowF ((List.range N).map (fun i => w.length + 1 + i)) i).map (adm ad w.length N q rr) := funext fun i => by
          unfold rowF
          rw [List.getElem?_map]
          by_cases h3 : i < N
          · rw [if_pos h3, List.getElem?_range h3]
            show some (rr i) = some (adm ad w.length N q rr (w.length + 1 + i))
            rw [hin i h3]
          · rw [if_neg h3, List.getElem?_eq_none (by rw [List.length_range]; omega)]
            rfl
        rw [e2]
      · obtain ⟨x, hx⟩ : ∃ x, j - w.length = x + 1 := ⟨j - w.length - 1, by omega⟩
        rw [hx]
        show (va_pl ([] ++ (List.range N).map rr) _)[x]? = Option.map _ (List.replicate N _)[x]?
        unfold va_pl
        rw [List.nil_append, List.map_map, List.getElem?_map]
        by_cases h3 : x < N
        · rw [List.getElem?_range h3, List.getElem?_replicate, if_pos h3]
          show some (rr x, vr_up _ _ _ (rr x)) = some (adm ad w.length N q rr j, _)
          rw [vr_up_in (List.mem_map.mpr ⟨x, List.mem_range.mpr h3, rfl⟩), show j = w.length + 1 + x by omega, hin x h3]
          rfl
        · rw [List.getElem?_eq_none (by rw [List.length_range]; omega), List.getElem?_replicate, if_neg h3]
          rfl
  rw [e1] at hP1 hD1
  have hlen : (w ++ (.inl (4, N, .inr (.inr (.inr (.inr (rowF ((List.range N).map (fun i => w.length + 1 + i))))))) : va_E) :: List.replicate N (.inl (0, K, .inl (fun _ => 0)))).length = w.length + 1 + N := by rw [List.length_append, List.length_cons, List.length_replicate]; omega
  have hst : Value.ref q :: r.map (trv ad) = (.ref w.length :: r).map (trv (adm ad w.length N q rr)) := by
    rw [List.map_cons, map_agr hag hr]
    show _ = Value.ref (adm ad w.length N q rr w.length) :: _
    rw [hb]
  rw [hst]
  exact kk p l e R s m args below meth c D cy ad0 A Q C H1 locs ls (adm ad w.length N q rr) (by rw [hlen]; exact ag_grow ha hn (by omega) hag) (by rw [hlen]; omega) (by rw [hlen]; omega) hP1 hD1 hS1 (lz_agr hag hL hl)
theorem g_eqw (w2 : List va_E) (h : w = w2) (k : Good sc d mc ms n0 mi P kc ks pc L st w2) : Good sc d mc ms n0 mi P kc ks pc L st w := by rw [h]; exact k
theorem g_eqL (L2 : List (Option Value)) (h : L = L2) (k : Good sc d mc ms n0 mi P kc ks pc L2 st w) : Good sc d mc ms n0 mi P kc ks pc L st w := by rw [h]; exact k
end GMA
