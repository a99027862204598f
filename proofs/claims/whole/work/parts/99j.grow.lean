/-! worlds that grow: a new cell's place is the world's length -/
def rfB (n : Nat) : Value → Bool
  | .ref k => Nat.blt k n || Nat.ble 1000 k
  | _ => true
def nrB : Value → Bool
  | .ref _ => false
  | _ => true
def rfE (n : Nat) : va_E → Prop
  | .inr (_, fs) => fs.all (rfB n) = true
  | .inl (_, _, x) => match x with
    | .inr (.inr (.inr (.inr f))) => ∀ i k, f i = some k → k < n ∨ 1000 ≤ k
    | _ => True
def rfW (n : Nat) : List va_E → Prop
  | [] => True
  | e :: t => rfE n e ∧ rfW n t
def rfL (n : Nat) (L : List (Option Value)) : Bool := L.all (fun o => match o with | some v => rfB n v | none => true)
def agr (n : Nat) (ad' ad : Nat → Nat) : Prop := ∀ k, k < n ∨ 1000 ≤ k → ad' k = ad k
theorem rfB_k {n k : Nat} (h : rfB n (.ref k) = true) : k < n ∨ 1000 ≤ k := by
  simp only [rfB, Bool.or_eq_true] at h
  rcases h with h | h
  · exact Or.inl (Nat.blt_eq.mp h)
  · exact Or.inr (Nat.le_of_ble_eq_true h)
theorem k_rfB {n k : Nat} (h : k < n ∨ 1000 ≤ k) : rfB n (.ref k) = true := by
  simp only [rfB, Bool.or_eq_true]
  rcases h with h | h
  · exact Or.inl (Nat.blt_eq.mpr h)
  · exact Or.inr (Nat.ble_eq_true_of_le h)
theorem trv_agr {n : Nat} {ad' ad : Nat → Nat} (h : agr n ad' ad) {v : Value} (hv : rfB n v = true) : trv ad' v = trv ad v := by
  cases v with
  | ref k => show Value.ref (ad' k) = .ref (ad k); rw [h k (rfB_k hv)]
  | _ => rfl
theorem map_agr {n : Nat} {ad' ad : Nat → Nat} (h : agr n ad' ad) {fs : List Value} (hv : fs.all (rfB n) = true) : fs.map (trv ad') = fs.map (trv ad) := by
  refine List.map_congr_left fun v hm => trv_agr h (List.all_eq_true.mp hv v hm)
theorem tre_agr {n : Nat} {ad' ad : Nat → Nat} {cy : Nat → ClassId} (h : agr n ad' ad) {e : va_E} (he : rfE n e) : tre cy ad' e = tre cy ad e := by
  match e, he with
  | .inr (c, fs), he => show Sum.inr (c, fs.map (trv ad')) = Sum.inr (c, fs.map (trv ad)); rw [map_agr h he]
  | .inl (t, m, .inl f), he => rfl
  | .inl (t, m, .inr (.inl f)), he => rfl
  | .inl (t, m, .inr (.inr (.inl f))), he => rfl
  | .inl (t, m, .inr (.inr (.inr (.inl f)))), he => rfl
  | .inl (t, m, .inr (.inr (.inr (.inr f)))), he =>
    have e1 : (fun i => (f i).map ad') = fun i => (f i).map ad := funext fun i => by
      cases hf : f i with
      | none => rfl
      | some k => show some (ad' k) = some (ad k); rw [h k (he i k hf)]
    show Sum.inl (cy t, m, Sum.inr (Sum.inr (Sum.inr (Sum.inr (fun i => (f i).map ad'))))) = Sum.inl (cy t, m, Sum.inr (Sum.inr (Sum.inr (Sum.inr (fun i => (f i).map ad)))))
    rw [e1]
theorem rfW_mem {n : Nat} : ∀ {w : List va_E}, rfW n w → ∀ e ∈ w, rfE n e
  | [], _, e, h => absurd h List.not_mem_nil
  | a :: t, hw, e, h => by
    rcases List.mem_cons.mp h with rfl | h
    · exact hw.1
    · exact rfW_mem hw.2 e h
theorem rfW_of {n : Nat} : ∀ {w : List va_E}, (∀ e ∈ w, rfE n e) → rfW n w
  | [], _ => trivial
  | a :: t, h => ⟨h a List.mem_cons_self, rfW_of fun e he => h e (List.mem_cons_of_mem _ he)⟩
theorem rfW_app {n : Nat} {a b : List va_E} (ha : rfW n a) (hb : rfW n b) : rfW n (a ++ b) := rfW_of fun e he => (List.mem_append.mp he).elim (rfW_mem ha e) (rfW_mem hb e)
theorem rfB_mono {n m : Nat} (h : n ≤ m) {v : Value} (hv : rfB n v = true) : rfB m v = true := by
  cases v with
  | ref k => exact k_rfB ((rfB_k hv).imp (fun q => Nat.lt_of_lt_of_le q h) id)
  | _ => rfl
theorem rfE_mono {n m : Nat} (h : n ≤ m) {e : va_E} (he : rfE n e) : rfE m e := by
  match e, he with
  | .inr (c, fs), he => exact List.all_eq_true.mpr fun v hv => rfB_mono h (List.all_eq_true.mp he v hv)
  | .inl (t, m, .inl f), he => exact trivial
  | .inl (t, m, .inr (.inl f)), he => exact trivial
  | .inl (t, m, .inr (.inr (.inl f))), he => exact trivial
  | .inl (t, m, .inr (.inr (.inr (.inl f)))), he => exact trivial
  | .inl (t, m, .inr (.inr (.inr (.inr f)))), he => exact fun i k hf => (he i k hf).imp (fun q => Nat.lt_of_lt_of_le q h) id
theorem rfW_mono {n m : Nat} (h : n ≤ m) {w : List va_E} (hw : rfW n w) : rfW m w := rfW_of fun e he => rfE_mono h (rfW_mem hw e he)
theorem lay_agr {n : Nat} {ad' ad : Nat → Nat} {cy : Nat → ClassId} (h : agr n ad' ad) {w : List va_E} (hw : rfW n w) (hn : w.length ≤ n) : lay cy ad' w = lay cy ad w := by
  apply List.ext_getElem?
  intro j
  rw [lay_get, lay_get]
  cases hj : w[j]? with
  | none => rfl
  | some e =>
    have hl := (List.getElem?_eq_some_iff.mp hj).1
    show some (ad' j, tre cy ad' e) = some (ad j, tre cy ad e)
    rw [h j (Or.inl (by omega)), tre_agr h (rfW_mem hw e (List.mem_of_getElem? hj))]
theorem lz_agr {n : Nat} {ad' ad : Nat → Nat} (h : agr n ad' ad) {ls : Array Slot} {nL : Nat} {L : List (Option Value)} (hL : rfL n L = true) (hl : lzH ad ls nL L) : lzH ad' ls nL L := by
  refine ⟨hl.1, hl.2.1, fun i v hv => ?_⟩
  have h1 := List.all_eq_true.mp hL (some v) (List.mem_of_getElem? hv)
  rw [trv_agr h h1]
  exact hl.2.2 i v hv
theorem nr_map {ad : Nat → Nat} {fs : List Value} (h : fs.all nrB = true) : fs.map (trv ad) = fs := by
  have e : ∀ v ∈ fs, trv ad v = v := fun v hv => by
    have := List.all_eq_true.mp h v hv
    cases v with
    | ref k => cases this
    | _ => rfl
  rw [List.map_congr_left e, List.map_id']
theorem ag_grow {n0 a b : Nat} {ad' ad ad0 : Nat → Nat} (ha : ag n0 a ad ad0) (hn : n0 ≤ a) (hb : a < b) (h : agr a ad' ad) : ag n0 b ad' ad0 :=
  ⟨fun k hk => by rw [h k (hk.imp (fun q => Nat.lt_of_lt_of_le q hn) id)]; exact ha.1 k hk, fun q => by omega⟩
def adx (ad : Nat → Nat) (n q : Nat) : Nat → Nat := fun k => if k = n then q else ad k
theorem adx_at (ad : Nat → Nat) (n q : Nat) : adx ad n q n = q := if_pos rfl
theorem adx_agr (ad : Nat → Nat) {n : Nat} (q : Nat) (h : n < 1000) : agr n (adx ad n q) ad := fun k hk => if_neg (by omega)
section GN
variable {sc : SC} {d mc ms n0 : Nat} {mi : MI} {P : Pst} {kc ks : Nat} {pc : Nat} {L : List (Option Value)} {st r : List Value} {w : List va_E}
/-- new -/
theorem g_new {i ci : Nat} {r0 : vw_C} {fs : List Value} (hc : vwCl[ci]? = some r0) (hfs : ∀ j, j < r0.2.2 → defaultValue (tyA ci j) = vp_V fs j) (hnr : fs.all nrB = true) (h1 : Cond.classLink mi.2.1.cls i r0.1 ∈ gw) (h2 : Cond.instantiable r0.1 r0.2.2 ∈ gw) (h3 : Cond.initialized r0.1 ∈ gw) (hd : decode mi.2.2.1 pc = .ok (.new i, 3)) (hrf : rfW w.length w) (hL : rfL w.length L = true) (hr : r.all (rfB w.length) = true) (hw : w.length < 1000) (hkc : kc + 1 ≤ mc ∧ ks + r0.2.2 ≤ ms)
    (kk : Good sc d mc ms n0 mi P (kc + 1) (ks + r0.2.2) (pc + 3) L (.ref w.length :: r) (w ++ [.inr (ci, fs)])) : Good sc d mc ms n0 mi P kc ks pc L r w := by
  intro p l e R s m args below meth c D cy ad0 A Q C H locs ls ad ha hn hm hP hD hS hl
  have hR := C.2.2.2.2.2.2.2.2.1
  refine va_new (Ts := gw) (cl := vwCl) (ci := ci) (fs := fs) (C := r0.1) (T := r0.2.1) (N := r0.2.2) C.1 C.2.1 C.2.2.2.2.1 (inG ci r0 hc) (tyA ci) (tyA_ok ci r0 hc) C.2.2.2.1 (C.2.2.2.2.1 _ h1) (C.2.2.2.2.1 _ h2) (C.2.2.2.2.1 _ h3) C.2.2.2.2.2.1 hP hD hS C.2.2.2.2.2.2.1 hc hfs (Nat.le_trans hkc.1 hR.2.2.1) (Nat.le_trans hkc.2 hR.2.2.2) hd (fun q H1 hP1 hD1 hS1 => ?_)
  have hag := adx_agr ad q hw
  have e1 : lay cy ad w ++ [(q, .inr (ci, fs))] = lay cy (adx ad w.length q) (w ++ [.inr (ci, fs)]) := by
    rw [lay_app, lay_agr hag hrf (Nat.le_refl _), adx_at]
    show _ = _ ++ [(q, Sum.inr (ci, fs.map (trv (adx ad w.length q))))]
    rw [nr_map hnr]
  rw [e1] at hP1 hD1
  have hlen : (w ++ [(.inr (ci, fs) : va_E)]).length = w.length + 1 := by rw [List.length_append]; rfl
  have hst : Value.ref q :: r.map (trv ad) = (.ref w.length :: r).map (trv (adx ad w.length q)) := by
    rw [List.map_cons, map_agr hag hr]
    show _ = Value.ref (adx ad w.length q w.length) :: _
    rw [adx_at]
  rw [hst]
  exact kk p l e R s m args below meth c D cy ad0 A Q C H1 locs ls (adx ad w.length q) (by rw [hlen]; exact ag_grow ha hn (Nat.lt_succ_self _) hag) (by rw [hlen]; omega) (by rw [hlen]; omega) hP1 hD1 hS1 (lz_agr hag hL hl)
theorem cy_of {cy : Nat → ClassId} {D : va_G} {s : State} {cA : ClassId} {ty : FieldType} {t : Nat} (hK : va_K D vwCl (tysC cy) s) (ht : (tysC cy)[t]? = some (cy t, ty)) (hK2 : va_K D vwCl (tysC cy ++ [(cA, ty)]) s) (hq : ∀ c, va_RA s c ty → s.vm.findClass ("[" ++ ty.toString) = some c) : cA = cy t := by
  have h1 := hq _ (hK.2 t _ ht).2
  have h2 := hq _ (hK2.2 5 (cA, ty) rfl).2
  rw [h1] at h2
  exact (Option.some.inj h2).symm
theorem ra_int {s : State} (c : ClassId) (h : va_RA s c .int) : s.vm.findClass ("[" ++ FieldType.int.toString) = some c := h
theorem ra_bool {s : State} (c : ClassId) (h : va_RA s c .boolean) : s.vm.findClass ("[" ++ FieldType.boolean.toString) = some c := h
theorem ra_arr {s : State} {t : FieldType} (c : ClassId) (h : va_RA s c (.array t)) : s.vm.findClass ("[" ++ (FieldType.array t).toString) = some c := h
theorem ra_obj {s : State} {C : String} (c : ClassId) (h : va_RA s c (.object C)) : s.vm.findClass ("[" ++ (FieldType.object C).toString) = some c := by
  obtain ⟨_, _, _, _, _, h4⟩ := h
  exact h4
/-- newarray of ints or of booleans -/
theorem g_newa {atype : ArrayType} {ty : FieldType} {t N : Nat} {n : Int32} (hty : newarray.typeOf atype = ty) (ht : (t = 0 ∧ ty = .int) ∨ (t = 1 ∧ ty = .boolean)) (harr : Cond.arrayClass ty ∈ gw) (hn0 : ¬ n < 0) (hN : n.toNatClampNeg = N) (hN2 : N ≤ 1000) (hd : decode mi.2.2.1 pc = .ok (.newarray atype, 2)) (hrf : rfW w.length w) (hL : rfL w.length L = true) (hr : r.all (rfB w.length) = true) (hw : w.length < 1000) (hkc : kc + 1 ≤ mc ∧ ks + N ≤ ms)
    (kk : Good sc d mc ms n0 mi P (kc + 1) (ks + N) (pc + 2) L (.ref w.length :: r) (w ++ [.inl (t, N, .inl (fun _ => 0))])) : Good sc d mc ms n0 mi P kc ks pc L (.int n :: r) w := by
  intro p l e R s m args below meth c D cy ad0 A Q C H locs ls ad ha hn hm hP hD hS hl
  have hR := C.2.2.2.2.2.2.2.2.1
  have hb : componentBytes ty ≤ 8 := by rcases ht with ⟨-, rfl⟩ | ⟨-, rfl⟩ <;> decide
  have hdv : defaultValue ty = .int 0 := by rcases ht with ⟨-, rfl⟩ | ⟨-, rfl⟩ <;> rfl
  refine va_newa (cl := vwCl) (tys := tysC cy) (a0 := (N, .inl (fun _ => 0))) C.1 C.2.1 (by rw [hty]; exact C.2.2.2.2.1 _ harr) hty C.2.2.2.2.2.1 hP hD hS C.2.2.2.2.2.2.1 (fun cA => by rw [hdv]; rfl) hn0 hN (Nat.le_trans (Nat.mul_le_mul hN2 hb) (by decide)) (Nat.le_trans hkc.1 hR.2.2.1) (Nat.le_trans hkc.2 hR.2.2.2) hd (fun q cA H1 hK1 hP1 hD1 hS1 => ?_)
  have hcy : cA = cy t := by
    rcases ht with ⟨rfl, rfl⟩ | ⟨rfl, rfl⟩
    · exact cy_of (t := 0) C.2.2.2.2.2.1 rfl hK1 ra_int
    · exact cy_of (t := 1) C.2.2.2.2.2.1 rfl hK1 ra_bool
  subst hcy
  have hag := adx_agr ad q hw
  have e1 : lay cy ad w ++ [(q, .inl (cy t, N, .inl (fun _ => 0)))] = lay cy (adx ad w.length q) (w ++ [.inl (t, N, .inl (fun _ => 0))]) := by
    rw [lay_app, lay_agr hag hrf (Nat.le_refl _), adx_at]
    rfl
  rw [e1] at hP1 hD1
  have hlen : (w ++ [(.inl (t, N, .inl (fun _ => 0)) : va_E)]).length = w.length + 1 := by rw [List.length_append]; rfl
  have hst : Value.ref q :: r.map (trv ad) = (.ref w.length :: r).map (trv (adx ad w.length q)) := by
    rw [List.map_cons, map_agr hag hr]
    show _ = Value.ref (adx ad w.length q w.length) :: _
    rw [adx_at]
  rw [hst]
  exact kk p l e R s m args below meth c D cy ad0 A Q C H1 locs ls (adx ad w.length q) (by rw [hlen]; exact ag_grow ha hn (Nat.lt_succ_self _) hag) (by rw [hlen]; omega) (by rw [hlen]; omega) hP1 hD1 hS1 (lz_agr hag hL hl)
/-- anewarray -/
theorem g_newq {i t N : Nat} {Cn : String} {n : Int32} (ht : (t = 2 ∧ Cn = RX2) ∨ (t = 3 ∧ Cn = RX3)) (hlink : Cond.classLink mi.2.1.cls i Cn ∈ gw) (hov : Cond.arrayOver (.object Cn) ∈ nw) (hn0 : ¬ n < 0) (hN : n.toNatClampNeg = N) (hN2 : N ≤ 1000) (hd : decode mi.2.2.1 pc = .ok (.anewarray i, 3)) (hrf : rfW w.length w) (hL : rfL w.length L = true) (hr : r.all (rfB w.length) = true) (hw : w.length < 1000) (hkc : kc + 1 ≤ mc ∧ ks + N ≤ ms)
    (kk : Good sc d mc ms n0 mi P (kc + 1) (ks + N) (pc + 3) L (.ref w.length :: r) (w ++ [.inl (t, N, .inr (.inr (.inr (.inr (fun _ => none)))))])) : Good sc d mc ms n0 mi P kc ks pc L (.int n :: r) w := by
  intro p l e R s m args below meth c D cy ad0 A Q C H locs ls ad ha hn hm hP hD hS hl
  have hR := C.2.2.2.2.2.2.2.2.1
  refine va_newq (cl := vwCl) (tys := tysC cy) (C := Cn) C.1 C.2.1 C.2.2.2.1 (C.2.2.2.2.1 _ hlink) (C.2.2.2.2.2.2.2.1.1 _ hov) C.2.2.2.2.2.1 hP hD hS C.2.2.2.2.2.2.1 hn0 hN (Nat.le_trans (Nat.mul_le_mul hN2 (Nat.le_refl 4)) (by decide)) (Nat.le_trans hkc.1 hR.2.2.1) (Nat.le_trans hkc.2 hR.2.2.2) hd (fun q cA H1 hK1 hP1 hD1 hS1 => ?_)
  have hcy : cA = cy t := by
    rcases ht with ⟨rfl, rfl⟩ | ⟨rfl, rfl⟩
    · exact cy_of (t := 2) C.2.2.2.2.2.1 rfl hK1 ra_obj
    · exact cy_of (t := 3) C.2.2.2.2.2.1 rfl hK1 ra_obj
  subst hcy
  have hag := adx_agr ad q hw
  have e1 : lay cy ad w ++ [(q, .inl (cy t, N, .inr (.inr (.inr (.inr (fun _ => none))))))] = lay cy (adx ad w.length q) (w ++ [.inl (t, N, .inr (.inr (.inr (.inr (fun _ => none)))))]) := by
    rw [lay_app, lay_agr hag hrf (Nat.le_refl _), adx_at]
    rfl
  rw [e1] at hP1 hD1
  have hlen : (w ++ [(.inl (t, N, .inr (.inr (.inr (.inr (fun _ => none))))) : va_E)]).length = w.length + 1 := by rw [List.length_append]; rfl
  have hst : Value.ref q :: r.map (trv ad) = (.ref w.length :: r).map (trv (adx ad w.length q)) := by
    rw [List.map_cons, map_agr hag hr]
    show _ = Value.ref (adx ad w.length q w.length) :: _
    rw [adx_at]
  rw [hst]
  exact kk p l e R s m args below meth c D cy ad0 A Q C H1 locs ls (adx ad w.length q) (by rw [hlen]; exact ag_grow ha hn (Nat.lt_succ_self _) hag) (by rw [hlen]; omega) (by rw [hlen]; omega) hP1 hD1 hS1 (lz_agr hag hL hl)
/-- Object's constructor -/
theorem g_objI {i q : Nat} (h1 : Cond.methodLink mi.2.1.cls i objectInit ∈ gw) (h2 : Cond.instanceMethod objectInit ∈ gw) (h3 : Cond.code objectInit ⟨#[0xb1]⟩ 1 none ∈ gw) (hd0 : 1 ≤ d) (hd : decode mi.2.2.1 pc = .ok (.invokespecial i, 3)) (hr : catS r ≤ 8) (kk : Good sc d mc ms n0 mi P kc ks (pc + 3) L r w) : Good sc d mc ms n0 mi P kc ks pc L (.ref q :: r) w := by
  intro p l e R s m args below meth c D cy ad0 A Q C H locs ls ad ha hn hm hP hD hS hl
  have hR := C.2.2.2.2.2.2.2.2.1
  have hcr := cat_r (ad := ad) hr
  refine W.objInit C.1 C.2.1 C.2.2.2.1 (C.2.2.2.2.1 _ h1) (C.2.2.2.2.1 _ h2) (C.2.2.2.2.1 _ h3) rfl (by rw [C.2.2.1]; exact hl.1) (a := ad q) (rest := r.map (trv ad)) rfl hd (by omega) (by show 2 * 0 + _ + 12 ≤ _; omega) ?_
  exact kk p l e R s m args below meth c D cy ad0 A Q C H locs ls ad ha hn hm hP hD hS hl
end GN
