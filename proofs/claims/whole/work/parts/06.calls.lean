def rmD (d mc ms : Nat) : Room := { frames := d, cells := mc, slots := ms, locals := 40 * d }
def wsM (mi : MI) : List Cond := .code mi.2.1 mi.2.2.1 mi.2.2.2.1 mi.2.2.2.2 :: gw
def Qsp (P : Pst) (D : va_G) (cy : Nat → ClassId) (ad0 : Nat → Nat) (n0 : Nat) (A : Nat → Prop) : Array Value → State → Outcome → State → Prop := fun _ st o t =>
  (∃ (v : Option Value) (w : List va_E) (ad : Nat → Nat), P v w ∧ ag n0 w.length ad ad0 ∧ n0 ≤ w.length ∧ o = .returned (v.map (trv ad)) ∧ va_P D vwCl (lay cy ad w) t.heap ∧ va_D A (lay cy ad w)) ∧ va_F A st t
def Psp (sc : SC) (D : va_G) (cy : Nat → ClassId) (ad : Nat → Nat) (sz : Nat) (w : List va_E) (U : State) : Prop := U.heap.size = sz ∧ va_P D vwCl (lay cy ad w) U.heap ∧ va_K D vwCl (tysC cy) U ∧ va_D (fun _ => True) (lay cy ad w) ∧ envS sc ad (va_A (lay cy ad w) sz) U
/-- the contract of a method on a world by places -/
def Spec (d mc ms : Nat) (mi : MI) (av : List Value) (w : List va_E) (P : Pst) : Prop :=
  ∀ (l : Launch) (sc : SC) (D : va_G) (cy : Nat → ClassId) (ad : Nat → Nat) (sz : Nat), Met l mi.2.1 (wsM mi) (rmD d mc ms) (va_Pc (av.map (trv ad)) (Psp sc D cy ad sz w)) (Qsp P D cy ad w.length (va_A (lay cy ad w) sz)) mc ms (va_A (lay cy ad w) sz)
theorem Spec.weaken {d mc ms : Nat} {mi : MI} {av : List Value} {w : List va_E} {P P2 : Pst} (h : Spec d mc ms mi av w P) (hp : ∀ v w2, P v w2 → P2 v w2) : Spec d mc ms mi av w P2 := by
  intro l sc D cy ad sz p e ha hc hk s m args below hf happ hP hK
  obtain ⟨t, o, h1, h2, h3, ⟨⟨v, w2, ad2, g1, g2, g3, g4, g5, g6⟩, g7⟩, h5⟩ := h l sc D cy ad sz p e ha hc hk s m args below hf happ hP hK
  exact ⟨t, o, h1, h2, h3, ⟨⟨v, w2, ad2, hp v w2 g1, g2, g3, g4, g5, g6⟩, g7⟩, h5⟩
/-! the locals at a method's entry -/
def entL : List Value → List (Option Value)
  | [] => []
  | .long x :: vs => some (.long x) :: none :: entL vs
  | .double x :: vs => some (.double x) :: none :: entL vs
  | v :: vs => some v :: entL vs
def padL (n : Nat) (l : List (Option Value)) : List (Option Value) := l ++ List.replicate (n - l.length) none
theorem entL_args (ad : Nat → Nat) : ∀ (av : List Value) (b i : Nat) (v : Value), (entL av)[i]? = some (some v) → (b + i, trv ad v) ∈ lv_args b (av.map (trv ad))
  | [], b, i, v, h => by simp [entL] at h
  | .long x :: vs, b, i, v, h => by
    simp only [entL] at h
    show _ ∈ (b, Value.long x) :: lv_args (b + 2) (vs.map (trv ad))
    match i, h with
    | 0, h => simp at h; subst h; exact List.mem_cons_self
    | 1, h => simp at h
    | j + 2, h =>
      have := entL_args ad vs (b + 2) j v (by simpa using h)
      rw [show b + 2 + j = b + (j + 2) by omega] at this
      exact List.mem_cons_of_mem _ this
  | .double x :: vs, b, i, v, h => by
    simp only [entL] at h
    show _ ∈ (b, Value.double x) :: lv_args (b + 2) (vs.map (trv ad))
    match i, h with
    | 0, h => simp at h; subst h; exact List.mem_cons_self
    | 1, h => simp at h
    | j + 2, h =>
      have := entL_args ad vs (b + 2) j v (by simpa using h)
      rw [show b + 2 + j = b + (j + 2) by omega] at this
      exact List.mem_cons_of_mem _ this
  | .int x :: vs, b, i, v, h => by
    simp only [entL] at h
    show _ ∈ (b, Value.int x) :: lv_args (b + 1) (vs.map (trv ad))
    match i, h with
    | 0, h => simp at h; subst h; exact List.mem_cons_self
    | j + 1, h =>
      have := entL_args ad vs (b + 1) j v (by simpa using h)
      rw [show b + 1 + j = b + (j + 1) by omega] at this
      exact List.mem_cons_of_mem _ this
  | .float x :: vs, b, i, v, h => by
    simp only [entL] at h
    show _ ∈ (b, Value.float x) :: lv_args (b + 1) (vs.map (trv ad))
    match i, h with
    | 0, h => simp at h; subst h; exact List.mem_cons_self
    | j + 1, h =>
      have := entL_args ad vs (b + 1) j v (by simpa using h)
      rw [show b + 1 + j = b + (j + 1) by omega] at this
      exact List.mem_cons_of_mem _ this
  | .null :: vs, b, i, v, h => by
    simp only [entL] at h
    show _ ∈ (b, Value.null) :: lv_args (b + 1) (vs.map (trv ad))
    match i, h with
    | 0, h => simp at h; subst h; exact List.mem_cons_self
    | j + 1, h =>
      have := entL_args ad vs (b + 1) j v (by simpa using h)
      rw [show b + 1 + j = b + (j + 1) by omega] at this
      exact List.mem_cons_of_mem _ this
  | .ref x :: vs, b, i, v, h => by
    simp only [entL] at h
    show _ ∈ (b, Value.ref (ad x)) :: lv_args (b + 1) (vs.map (trv ad))
    match i, h with
    | 0, h => simp at h; subst h; exact List.mem_cons_self
    | j + 1, h =>
      have := entL_args ad vs (b + 1) j v (by simpa using h)
      rw [show b + 1 + j = b + (j + 1) by omega] at this
      exact List.mem_cons_of_mem _ this
  | .retAddr x :: vs, b, i, v, h => by
    simp only [entL] at h
    show _ ∈ (b, Value.retAddr x) :: lv_args (b + 1) (vs.map (trv ad))
    match i, h with
    | 0, h => simp at h; subst h; exact List.mem_cons_self
    | j + 1, h =>
      have := entL_args ad vs (b + 1) j v (by simpa using h)
      rw [show b + 1 + j = b + (j + 1) by omega] at this
      exact List.mem_cons_of_mem _ this
theorem padL_get {n i : Nat} {l : List (Option Value)} {v : Value} (h : (padL n l)[i]? = some (some v)) : l[i]? = some (some v) := by
  unfold padL at h
  by_cases hi : i < l.length
  · rwa [List.getElem?_append_left hi] at h
  · rw [List.getElem?_append_right (by omega)] at h
    have := List.eq_of_mem_replicate (List.mem_of_getElem? h)
    cases this
def catS (av : List Value) : Nat := (av.map fun v => v.category).sum
theorem sl_len (ad : Nat → Nat) : ∀ av : List Value, (lg_sl (av.map (trv ad))).length = catS av := by
  intro av
  induction av with
  | nil => rfl
  | cons v vs ih =>
    have e : lg_sl ((v :: vs).map (trv ad)) = lg_sl [trv ad v] ++ lg_sl (vs.map (trv ad)) := by simp [lg_sl, List.flatMap_cons]
    rw [e, List.length_append, ih]
    have e2 : catS (v :: vs) = v.category + catS vs := by simp [catS]
    rw [e2]
    congr 1
    cases v <;> rfl
/-- from a walk of the body, a contract -/
theorem Spec.of {d mc ms : Nat} {mi : MI} {av : List Value} {w : List va_E} {P : Pst} (hy : plainName mi.2.1.cls = true) (hw : w.length ≤ 1000) (hav : catS av ≤ mi.2.2.2.1) (h : ∀ sc, Good sc d mc ms w.length mi P 0 0 0 (padL mi.2.2.2.1 (entL av)) [] w) : Spec d mc ms mi av w P := by
  intro l sc D cy ad sz
  refine Met.ofW (cc := mi.2.2.1) (maxL := mi.2.2.2.1) (ret := mi.2.2.2.2) hy rfl ?_
  intro p e s m args below meth c s₁ B hml hv
  obtain ⟨rfl, hsz, hP, hK, hD0, hE⟩ := hv
  have hx := B.exec
  have hb := B.bytes
  have hr := B.returns
  have hts := atoms_spec (ws := wsM mi) B.pre
  have hown : s.vm.findClass mi.2.1.cls = some m.cls := findClass_of_methodNamed B.named
  have hlocks := B.notSynchronized
  subst hsz
  have hD := hD0.self (sz := s.heap.size)
  have hlen : (lg_sl (av.map (trv ad))).length ≤ mi.2.2.2.1 := by rw [sl_len]; exact hav
  have hl := lv_entry (av.map (trv ad)) (n := mi.2.2.2.1) hlen
  rw [lg_entry_eq]
  generalize (lg_sl (av.map (trv ad)) ++ List.replicate (mi.2.2.2.1 - (lg_sl (av.map (trv ad))).length) Slot.unset).toArray = ls at hl ⊢
  have hl2 : lzH ad ls mi.2.2.2.1 (padL mi.2.2.2.1 (entL av)) := ⟨hl.1, hl.2.1, fun i v hi => by
    have h1 := entL_args ad av 0 i v (padL_get hi)
    rw [Nat.zero_add] at h1
    exact hl.2.2 _ h1⟩
  refine h sc p l e (headSpec (wsM mi) (rmD d mc ms)).room s m (av.map (trv ad)).toArray below meth c D cy ad (va_A (lay cy ad w) s.heap.size) _ ⟨hx, hb, hml, hown, fun v hv => hts v (List.mem_cons_of_mem _ hv), hK, fun q hq => Or.inr hq, hE, ⟨Nat.le_refl _, Nat.le_refl _, Nat.le_refl _, Nat.le_refl _⟩, ?_, fun hin => (name_of_methodNamed B.named B.method).1.trans hin⟩ s.heap [] ls ad ⟨fun _ _ => rfl, fun _ => rfl⟩ (Nat.le_refl _) hw hP hD va_S.rf hl2
  intro v w2 ad2 H locs ls2 pc kc ks hPv hag hn2 hkc hks hP2 hD2 hS2 hrt
  refine W.widen (k := mc) (n := ms) hkc hks ?_
  have fin : ∀ t : State, t.heap = H → Qsp P D cy ad w.length (va_A (lay cy ad w) s.heap.size) (av.map (trv ad)).toArray s (.returned (v.map (trv ad2))) t := fun t ht => ⟨⟨v, w2, ad2, hPv, hag, hn2, rfl, by rw [ht]; exact hP2, hD2⟩, hS2.F ht⟩
  cases v with
  | none => exact W.vret hx hb (hr.trans hrt.1) (fun t ht _ => fin t ht) hS2.2.2 hrt.2
  | some v =>
    cases v with
    | int x =>
      obtain ⟨⟨ty, h1, h2⟩, h3⟩ := hrt
      exact W.zret hx hb (hr.trans h1) h2 (fun t ht _ => fin t ht) hS2.2.2 h3
    | long x => exact W.lret hx hb (hr.trans hrt.1) (fun t ht _ => fin t ht) hS2.2.2 hrt.2
    | float x => exact hrt.elim
    | double x => exact hrt.elim
    | null => exact hrt.elim
    | ref x => exact hrt.elim
    | retAddr x => exact hrt.elim
/-! calls: the callee's world is places sg of the caller's -/
def sg (sl : List Nat) (k : Nat) : Nat := match Nat.ble 1000 k with
  | true => k
  | false => sl.getD k 0
def ren (sl : List Nat) (e : va_E) : va_E := tre (fun t => t) (sg sl) e
def rnv (sl : List Nat) (v : Value) : Value := trv (sg sl) v
theorem sg_hi (sl : List Nat) {k : Nat} (h : 1000 ≤ k) : sg sl k = k := by unfold sg; rw [Nat.ble_eq_true_of_le h]
theorem sg_lo (sl : List Nat) {k : Nat} (h : k < 1000) : sg sl k = sl.getD k 0 := by
  unfold sg
  have : Nat.ble 1000 k = false := by
    cases hb : Nat.ble 1000 k with
    | false => rfl
    | true => exact absurd (Nat.le_of_ble_eq_true hb) (by omega)
  rw [this]
theorem trv_rnv (ad : Nat → Nat) (sl : List Nat) (v : Value) : trv ad (rnv sl v) = trv (fun k => ad (sg sl k)) v := by cases v <;> rfl
theorem tre_ren (cy : Nat → ClassId) (ad : Nat → Nat) (sl : List Nat) (e : va_E) : tre cy ad (ren sl e) = tre cy (fun k => ad (sg sl k)) e := by
  rcases e with ⟨t, n, x⟩ | ⟨c, fs⟩
  · rcases x with f | f | f | f | f
    · rfl
    · rfl
    · rfl
    · rfl
    · show Sum.inl (cy t, n, Sum.inr (Sum.inr (Sum.inr (Sum.inr (fun i => (((f i).map (sg sl)).map ad)))))) = Sum.inl (cy t, n, Sum.inr (Sum.inr (Sum.inr (Sum.inr (fun i => ((f i).map (fun k => ad (sg sl k))))))))
      have e : (fun i => ((f i).map (sg sl)).map ad) = (fun i => (f i).map (fun k => ad (sg sl k))) := funext fun i => by cases f i <;> rfl
      rw [e]
  · show Sum.inr (c, (fs.map (rnv sl)).map (trv ad)) = Sum.inr (c, fs.map (trv (fun k => ad (sg sl k))))
    rw [List.map_map]
    congr 2
    exact List.map_congr_left fun v _ => trv_rnv ad sl v
def putW (w : List va_E) : List Nat → List va_E → List va_E
  | [], _ => w
  | _ :: _, [] => w
  | k :: sl, e :: t => (putW w sl t).set k e
theorem putW_len (w : List va_E) : ∀ (sl : List Nat) (es : List va_E), (putW w sl es).length = w.length
  | [], _ => rfl
  | _ :: _, [] => rfl
  | k :: sl, e :: t => by
    show ((putW w sl t).set k e).length = _
    rw [List.length_set, putW_len w sl t]
theorem putW_at (w : List va_E) : ∀ (sl : List Nat) (es : List va_E), va_nd sl = true → (∀ k ∈ sl, k < w.length) → ∀ (j k : Nat) (e : va_E), sl[j]? = some k → es[j]? = some e → (putW w sl es)[k]? = some e
  | [], _, _, _, j, k, e, h, _ => by simp at h
  | a :: sl, [], _, _, j, k, e, _, h => by simp at h
  | a :: sl, e0 :: t, hn, hk, j, k, e, h1, h2 => by
    simp only [va_nd, Bool.and_eq_true, decide_eq_true_eq] at hn
    show ((putW w sl t).set a e0)[k]? = some e
    cases j with
    | zero =>
      simp at h1 h2
      subst h1; subst h2
      rw [List.getElem?_set, if_pos rfl, if_pos (by rw [putW_len]; exact hk a List.mem_cons_self)]
    | succ j =>
      rw [List.getElem?_cons_succ] at h1 h2
      have hne : a ≠ k := fun q => hn.1 (by rw [q]; exact List.mem_of_getElem? h1)
      rw [List.getElem?_set_ne hne]
      exact putW_at w sl t hn.2 (fun x hx => hk x (List.mem_cons_of_mem _ hx)) j k e h1 h2
theorem putW_ne (w : List va_E) : ∀ (sl : List Nat) (es : List va_E) (k : Nat), k ∉ sl → (putW w sl es)[k]? = w[k]?
  | [], _, _, _ => rfl
  | _ :: _, [], _, _ => rfl
  | a :: sl, e :: t, k, h => by
    show ((putW w sl t).set a e)[k]? = w[k]?
    rw [List.getElem?_set_ne (fun q => h (by rw [q]; exact List.mem_cons_self))]
    exact putW_ne w sl t k (fun q => h (List.mem_cons_of_mem _ q))
theorem ao_alike {a a1 : Array Value} {s U : State} {t : FieldType} (hal : s.vm.Alike U.vm) (h : (Cond.arrayOver t).before a s = true) : (Cond.arrayOver t).before a1 U = true := by
  have e := Cond.arrayOver_setVmC (args := a) hal t
  rw [h] at e
  exact e
theorem envS_moved {sc : SC} {ad ad1 : Nat → Nat} {A A1 : Nat → Prop} {s U : State} {H : Heap} {locs : List Loc} (h : envS sc ad A s) (hS : va_S A s.heap H locs) (hU : U.heap = H) (hW : s.WarmedH U.vm) (hA : ∀ q, q < H.size → A1 q → A q) (had : ∀ k, 1000 ≤ k → ad1 k = ad k) (hlt : s.heap.size ≤ H.size) : envS sc ad1 A1 U := by
  obtain ⟨h1, ⟨h2, h3⟩, ⟨h4, h5⟩, ⟨h6, h7, h8⟩, ⟨h9, h10, h11⟩, h12, h13⟩ := h
  have hal := hW.alike
  have nar : ∀ q, (A1 q ∧ q < H.size) → A q := fun q z => hA q z.2 z.1
  have out : ∀ {t : Nat}, t < H.size → ¬ (A1 t ∧ t < H.size) → ¬ A1 t := fun h z q => z ⟨q, h⟩
  have zz : ∀ {C n d : String} {v : Value}, va_Z C n d v A s s.heap → va_Z C n d v A1 U U.heap := fun {C n d v} z => by
    obtain ⟨cf, kf, fi, f, a, cell, g1, g2, g3, g4, g5, g6, g7, g8⟩ := ((z.kept hS.2.1).narrow nar).moved hal
    rw [hU]
    exact ⟨cf, kf, fi, f, a, cell, g1, g2, g3, g4, g5, g6, g7, out (Array.getElem?_eq_some_iff.mp g5).1 g8⟩
  have tt : ∀ {ty : FieldType} {t N : Nat} {f : Nat → Value}, va_T ty t N f A s s.heap → va_T ty t N f A1 U U.heap := fun {ty t N f} z => by
    obtain ⟨cell, g1, g2, g3, g4, g5, g6, g7⟩ := ((z.kept hS.2.1).narrow nar).moved hal
    rw [hU]
    exact ⟨cell, g1, g2, g3, g4, g5, g6, out (Array.getElem?_eq_some_iff.mp g1).1 g7⟩
  have oo : ∀ {E : String} {t : Nat}, va_O E t A s s.heap → va_O E t A1 U U.heap := fun {E t} z => by
    obtain ⟨cell, g1, g2, g3, g4⟩ := va_O.moved hal ((z.kept hS.2.1).narrow nar)
    rw [hU]
    exact ⟨cell, g1, g2, g3, out (Array.getElem?_eq_some_iff.mp g1).1 g4⟩
  have ff : ∀ {a n d : String} {v : Value} {t : Nat}, va_OF a n d v t A s s.heap → va_OF a n d v t A1 U U.heap := fun {a n d v t} z => by
    obtain ⟨cf, k, i, f, cell, g1, g2, g3, g4, g5, g6⟩ := va_OF.moved hal ((z.kept hS.2.1).narrow nar)
    rw [hU]
    exact ⟨cf, k, i, f, cell, g1, g2, g3, g4, g5, out (Array.getElem?_eq_some_iff.mp g3).1 g6⟩
  refine ⟨fun w hw => ?_, ⟨?_, ?_⟩, ⟨?_, ?_⟩, ⟨⟨fun i hi => ?_, fun i j hi hj hij => ?_⟩, ?_, ?_⟩, ⟨?_, ?_, ?_⟩, zz h12, h13.elim (fun z => Or.inl (zz z)) (fun z => Or.inr ?_)⟩
  · have hn : isNw w = true := (List.mem_filter.mp hw).2
    have hz := h1 w hw
    cases w with
    | fieldLinkNest a b c d e f => exact va_Nw.warmF hW hz
    | methodLinkNest a b c d => exact va_Nw.warmM hW hz
    | arrayOver ty =>
      cases ty with
      | object C => exact va_AO.moved hal hz
      | array t => exact ao_alike hal hz
      | _ => cases hn
    | _ => cases hn
  · rw [had 1000 (by decide)]; exact zz h2
  · rw [had 1000 (by decide)]; exact tt h3
  · rw [had 1001 (by decide)]; exact zz h4
  · rw [had 1001 (by decide)]; exact tt h5
  · obtain ⟨g1, g2, g3, g4⟩ := h6.1 i hi
    dsimp only
    rw [had (1002 + i) (by omega), had (1004 + i) (by omega)]
    exact ⟨oo g1, ff g2, ff g3, tt g4⟩
  · refine h6.2 i j hi hj ?_
    dsimp only at hij
    rwa [had (1002 + i) (by omega), had (1002 + j) (by omega)] at hij
  · rw [had 1002 (by decide)]; exact vk_R.warm hW h7
  · rw [had 1003 (by decide)]; exact vk_R.warm hW h8
  · rw [had 1006 (by decide)]
    obtain ⟨scr, g1, g2, g3, g4, g5⟩ := h9
    refine ⟨scr, ?_, State.isArrayOf_alike hal g2, g3, g4, g5⟩
    rw [hU, hS.2.1 _ h10 h11]
    exact g1
  · rw [had 1006 (by decide), hU]; exact Nat.lt_of_lt_of_le h10 hlt
  · rw [had 1006 (by decide)]
    exact fun z => h11 (hA _ (Nat.lt_of_lt_of_le h10 hlt) z)
  · rw [had 1007 (by decide)]; exact zz z
