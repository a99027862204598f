/-! worlds by places: a world is a list of cells; a reference in it is a place of that list (1000 on: what lies outside: two tables, two texts and their bytes, the script) -/
def trv (ad : Nat → Nat) : Value → Value
  | .ref k => .ref (ad k)
  | v => v
def tra (ad : Nat → Nat) (x : (Nat → Int32) ⊕ (Nat → Int64) ⊕ (Nat → UInt32) ⊕ (Nat → UInt64) ⊕ (Nat → Option Nat)) : (Nat → Int32) ⊕ (Nat → Int64) ⊕ (Nat → UInt32) ⊕ (Nat → UInt64) ⊕ (Nat → Option Nat) := match x with
  | .inl f => .inl f
  | .inr (.inl f) => .inr (.inl f)
  | .inr (.inr (.inl f)) => .inr (.inr (.inl f))
  | .inr (.inr (.inr (.inl f))) => .inr (.inr (.inr (.inl f)))
  | .inr (.inr (.inr (.inr f))) => .inr (.inr (.inr (.inr (fun i => (f i).map ad))))
def tre (cy : Nat → ClassId) (ad : Nat → Nat) : va_E → va_E
  | .inl (t, n, x) => .inl (cy t, n, tra ad x)
  | .inr (c, fs) => .inr (c, fs.map (trv ad))
def lay (cy : Nat → ClassId) (ad : Nat → Nat) (w : List va_E) : va_W := w.mapIdx (fun k e => (ad k, tre cy ad e))
def lk : List va_E → Nat → Option va_E
  | [], _ => none
  | a :: _, 0 => some a
  | _ :: t, n + 1 => lk t n
theorem lk_eq : ∀ (w : List va_E) (k : Nat), lk w k = w[k]?
  | [], k => by simp [lk]
  | a :: t, 0 => by simp [lk]
  | a :: t, n + 1 => by simp [lk, lk_eq t n]
theorem lay_get (cy : Nat → ClassId) (ad : Nat → Nat) (w : List va_E) (k : Nat) : (lay cy ad w)[k]? = w[k]?.map (fun e => (ad k, tre cy ad e)) := by
  unfold lay
  rw [List.getElem?_mapIdx]
theorem lay_at {cy : Nat → ClassId} {ad : Nat → Nat} {w : List va_E} {k : Nat} {e : va_E} (h : lk w k = some e) : (lay cy ad w)[k]? = some (ad k, tre cy ad e) := by
  rw [lay_get, ← lk_eq, h]
  rfl
theorem lay_len (cy : Nat → ClassId) (ad : Nat → Nat) (w : List va_E) : (lay cy ad w).length = w.length := by
  unfold lay
  exact List.length_mapIdx
theorem lay_set (cy : Nat → ClassId) (ad : Nat → Nat) (w : List va_E) (k : Nat) (e : va_E) : lay cy ad (w.set k e) = (lay cy ad w).set k (ad k, tre cy ad e) := by
  apply List.ext_getElem?
  intro j
  rw [lay_get, List.getElem?_set, List.getElem?_set, lay_len, lay_get]
  by_cases h : k = j
  · subst h
    by_cases h2 : k < w.length
    · simp [h2]
    · simp [h2]
  · simp [h]
theorem lay_app (cy : Nat → ClassId) (ad : Nat → Nat) (w : List va_E) (e : va_E) : lay cy ad (w ++ [e]) = lay cy ad w ++ [(ad w.length, tre cy ad e)] := by
  unfold lay
  rw [List.mapIdx_append]
  simp
/-! locals by their places -/
def lzH (ad : Nat → Nat) (ls : Array Slot) (nL : Nat) (L : List (Option Value)) : Prop := ls.size = nL ∧ lv_wf ls ∧ ∀ (i : Nat) (v : Value), L[i]? = some (some v) → ls[i]? = some (.val (trv ad v))
def lzA (ad : Nat → Nat) (L : List (Option Value)) : List (Nat × Value) := (List.range L.length).filterMap (fun i => (L[i]?.getD none).map (fun v => (i, trv ad v)))
theorem lzA_mem {ad : Nat → Nat} {L : List (Option Value)} {i : Nat} {v : Value} (h : L[i]? = some (some v)) : (i, trv ad v) ∈ lzA ad L := by
  have hl : i < L.length := (List.getElem?_eq_some_iff.mp h).1
  exact List.mem_filterMap.mpr ⟨i, List.mem_range.mpr hl, by rw [h]; rfl⟩
theorem lzA_of {ad : Nat → Nat} {L : List (Option Value)} {q : Nat × Value} (h : q ∈ lzA ad L) : ∃ v, L[q.1]? = some (some v) ∧ q.2 = trv ad v := by
  obtain ⟨i, hi, e⟩ := List.mem_filterMap.mp h
  cases hx : L[i]? with
  | none => rw [hx] at e; cases e
  | some x =>
    rw [hx] at e
    cases x with
    | none => cases e
    | some v => cases e; exact ⟨v, hx, rfl⟩
theorem lz_has {ad : Nat → Nat} {ls : Array Slot} {nL : Nat} {L : List (Option Value)} (h : lzH ad ls nL L) : lv_has ls nL (lzA ad L) := by
  refine ⟨h.1, h.2.1, fun q hq => ?_⟩
  obtain ⟨v, h1, h2⟩ := lzA_of hq
  rw [h2]
  exact h.2.2 _ _ h1
def lkv : List (Option Value) → Nat → Option Value
  | [], _ => none
  | a :: _, 0 => a
  | _ :: t, n + 1 => lkv t n
theorem lkv_eq : ∀ (L : List (Option Value)) (k : Nat) (v : Value), lkv L k = some v → L[k]? = some (some v)
  | [], k, v, h => by simp [lkv] at h
  | a :: t, 0, v, h => by simp [lkv] at h; simp [h]
  | a :: t, n + 1, v, h => by simp [lkv] at h; simp [lkv_eq t n v h]
def lzB (L : List (Option Value)) (i : Nat) : Bool := match lkv L (i - 1) with
  | some (.long _) => true
  | some (.double _) => true
  | _ => false
def lz1 (L : List (Option Value)) (i : Nat) (v : Value) : List (Option Value) := (match lzB L i with | true => L.set (i - 1) none | false => L).set i (some v)
def lz2 (L : List (Option Value)) (i : Nat) (v : Value) : List (Option Value) := ((match lzB L i with | true => L.set (i - 1) none | false => L).set (i + 1) none).set i (some v)
theorem lz_pre {L : List (Option Value)} {i j : Nat} {u : Value} (h : (match lzB L i with | true => L.set (i - 1) none | false => L)[j]? = some (some u)) (hj : j ≠ i) : L[j]? = some (some u) ∧ ¬ (j + 1 = i ∧ u.category = 2) := by
  cases hb : lzB L i with
  | true =>
    rw [hb] at h
    dsimp only at h
    by_cases e : i - 1 = j
    · rw [List.getElem?_set, if_pos e] at h
      split at h <;> cases h
    · rw [List.getElem?_set_ne e] at h
      exact ⟨h, fun q => e (by omega)⟩
  | false =>
    rw [hb] at h
    dsimp only at h
    refine ⟨h, fun q => ?_⟩
    have e : i - 1 = j := by omega
    unfold lzB at hb
    rw [e] at hb
    have h2 : lkv L j = some u := by
      clear hb e q
      revert h
      clear hj
      induction L generalizing j with
      | nil => intro h; simp at h
      | cons a t ih =>
        intro h
        cases j with
        | zero => simpa [lkv] using h
        | succ n => exact ih (by simpa using h)
    rw [h2] at hb
    cases u <;> simp_all [Value.category]
theorem trv_cat (ad : Nat → Nat) (v : Value) : (trv ad v).category = v.category := by cases v <;> rfl
theorem set_same {α : Type} {X : List α} {i : Nat} {a b : α} (h : (X.set i a)[i]? = some b) : b = a := by
  rw [List.getElem?_set, if_pos rfl] at h
  split at h
  · cases h; rfl
  · cases h
theorem lz1_of {ad : Nat → Nat} {ls : Array Slot} {nL i : Nat} {L : List (Option Value)} {v : Value} (h : lv_has ls nL ((i, trv ad v) :: (lzA ad L).filter (fun q => !(q.1 == i) && !(q.1 + 1 == i && q.2.category == 2)))) : lzH ad ls nL (lz1 L i v) := by
  refine ⟨h.1, h.2.1, fun j u hu => ?_⟩
  unfold lz1 at hu
  by_cases e : i = j
  · subst e
    cases set_same hu
    exact h.2.2 _ List.mem_cons_self
  · rw [List.getElem?_set_ne e] at hu
    obtain ⟨h1, h2⟩ := lz_pre hu (Ne.symm e)
    refine h.2.2 (j, trv ad u) (List.mem_cons_of_mem _ (List.mem_filter.mpr ⟨lzA_mem h1, ?_⟩))
    simp only [trv_cat]
    have h3 : ¬ j = i := fun q => e q.symm
    simp only [Bool.and_eq_true, Bool.not_eq_true', beq_eq_false_iff_ne, ne_eq, Bool.and_eq_false_iff]
    refine ⟨h3, ?_⟩
    by_cases q : j + 1 = i
    · exact Or.inr (fun z => h2 ⟨q, z⟩)
    · exact Or.inl q
theorem lz2_of {ad : Nat → Nat} {ls : Array Slot} {nL i : Nat} {L : List (Option Value)} {v : Value} (h : lv_has ls nL ((i, trv ad v) :: (lzA ad L).filter (fun q => !(q.1 == i) && (!(q.1 == i + 1) && !(q.1 + 1 == i && q.2.category == 2))))) : lzH ad ls nL (lz2 L i v) := by
  refine ⟨h.1, h.2.1, fun j u hu => ?_⟩
  unfold lz2 at hu
  by_cases e : i = j
  · subst e
    cases set_same hu
    exact h.2.2 _ List.mem_cons_self
  · rw [List.getElem?_set_ne e] at hu
    by_cases e2 : i + 1 = j
    · rw [← e2] at hu
      cases set_same hu
    · rw [List.getElem?_set_ne e2] at hu
      obtain ⟨h1, h2⟩ := lz_pre hu (Ne.symm e)
      refine h.2.2 (j, trv ad u) (List.mem_cons_of_mem _ (List.mem_filter.mpr ⟨lzA_mem h1, ?_⟩))
      simp only [trv_cat]
      have h3 : ¬ j = i := fun q => e q.symm
      have h4 : ¬ j = i + 1 := fun q => e2 q.symm
      simp only [Bool.and_eq_true, Bool.not_eq_true', beq_eq_false_iff_ne, ne_eq, Bool.and_eq_false_iff]
      refine ⟨h3, h4, ?_⟩
      by_cases q : j + 1 = i
      · exact Or.inr (fun z => h2 ⟨q, z⟩)
      · exact Or.inl q
/-! what lies outside every world -/
abbrev MI : Type := Nat × MethodName × ByteArray × Nat × Option FieldType
abbrev SC : Type := Nat × (Nat → Int32)
def wXf (j : Nat) : Int32 := [0, 1, 0, -1].getD j 0
def wYf (j : Nat) : Int32 := [-1, 0, 1, 0].getD j 0
def envS (sc : SC) (ad : Nat → Nat) (A : Nat → Prop) (U : State) : Prop :=
  (∀ w ∈ nw, va_Nw w U) ∧ (va_Z "FoldedBoard" "WAY_X" "[I" (.ref (ad 1000)) A U U.heap ∧ va_T .int (ad 1000) 4 (fun j => .int (wXf j)) A U U.heap) ∧ (va_Z "FoldedBoard" "WAY_Y" "[I" (.ref (ad 1001)) A U U.heap ∧ va_T .int (ad 1001) 4 (fun j => .int (wYf j)) A U U.heap) ∧
  (vk_S 2 [4, 4] [[115, 116, 101, 112], [102, 111, 108, 100]] (fun i => ad (1002 + i)) (fun i => ad (1004 + i)) A U U.heap ∧ vk_R RX6 62 "step" (ad 1002) U ∧ vk_R RX6 68 "fold" (ad 1003) U) ∧ (va_X (ad 1006) sc.1 sc.2 U U.heap ∧ ad 1006 < U.heap.size ∧ ¬ A (ad 1006)) ∧
  (va_Z "java/lang/String" "COMPACT_STRINGS" "Z" (.int 1) A U U.heap ∧ (va_Z "jdk/internal/util/Preconditions" "SIOOBE_FORMATTER" "Ljava/util/function/BiFunction;" .null A U U.heap ∨ va_Z "jdk/internal/util/Preconditions" "SIOOBE_FORMATTER" "Ljava/util/function/BiFunction;" (.ref (ad 1007)) A U U.heap))
def tysC (cy : Nat → ClassId) : List (ClassId × FieldType) := [(cy 0, .int), (cy 1, .boolean), (cy 2, .object RX2), (cy 3, .object RX3), (cy 4, .array .int)]
def ag (n len : Nat) (ad ad0 : Nat → Nat) : Prop := (∀ k, (k < n ∨ 1000 ≤ k) → ad k = ad0 k) ∧ (len = n → ad = ad0)
def rtI (mi : MI) (pc : Nat) (v : Option Value) : Prop := match v with
  | none => mi.2.2.2.2 = none ∧ decode mi.2.2.1 pc = .ok (.return_, 1)
  | some (.int x) => (∃ ty, mi.2.2.2.2 = some ty ∧ narrow ty (.int x) = .int x) ∧ decode mi.2.2.1 pc = .ok (.ireturn, 1)
  | some (.long _) => mi.2.2.2.2 = some .long ∧ decode mi.2.2.1 pc = .ok (.lreturn, 1)
  | _ => False
abbrev Pst : Type := Option Value → List va_E → Prop
def Ctx (sc : SC) (d mc ms n0 : Nat) (mi : MI) (P : Pst) (p : Program) (l : Launch) (e : Env) (R : Room) (s : State) (m : MethodId) (args : Array Value) (below : List Frame) (meth : Method) (c : Code) (D : va_G) (cy : Nat → ClassId) (ad0 : Nat → Nat) (A : Nat → Prop) (Q : State → Prop) : Prop :=
  p.tables.exec = Jvm.exec ∧ c.code = mi.2.2.1 ∧ c.maxLocals = mi.2.2.2.1 ∧ s.vm.findClass mi.2.1.cls = some m.cls ∧ (∀ w ∈ gw, w.before args s = true) ∧ va_K D vwCl (tysC cy) s ∧ (∀ q, s.heap.size ≤ q → A q) ∧ envS sc ad0 A s ∧ (d ≤ R.frames ∧ 40 * d ≤ R.locals ∧ mc ≤ R.cells ∧ ms ≤ R.slots) ∧
  (∀ (v : Option Value) (w : List va_E) (ad : Nat → Nat) (H : Heap) (locs : List Loc) (ls : Array Slot) (pc kc ks : Nat), P v w → ag n0 w.length ad ad0 → n0 ≤ w.length → kc ≤ mc → ks ≤ ms → va_P D vwCl (lay cy ad w) H → va_D A (lay cy ad w) → va_S A s.heap H locs → rtI mi pc v → W p l e R s m args below meth c H locs kc ks Q (F0 m pc ls (v.toList.map (trv ad)))) ∧ (mi.2.1.name = "<init>" → meth.name = "<init>")
def Good (sc : SC) (d mc ms n0 : Nat) (mi : MI) (P : Pst) (kc ks : Nat) (pc : Nat) (L : List (Option Value)) (st : List Value) (w : List va_E) : Prop :=
  ∀ (p : Program) (l : Launch) (e : Env) (R : Room) (s : State) (m : MethodId) (args : Array Value) (below : List Frame) (meth : Method) (c : Code) (D : va_G) (cy : Nat → ClassId) (ad0 : Nat → Nat) (A : Nat → Prop) (Q : State → Prop), Ctx sc d mc ms n0 mi P p l e R s m args below meth c D cy ad0 A Q →
  ∀ (H : Heap) (locs : List Loc) (ls : Array Slot) (ad : Nat → Nat), ag n0 w.length ad ad0 → n0 ≤ w.length → w.length ≤ 1000 → va_P D vwCl (lay cy ad w) H → va_D A (lay cy ad w) → va_S A s.heap H locs → lzH ad ls mi.2.2.2.1 L → W p l e R s m args below meth c H locs kc ks Q (F0 m pc ls (st.map (trv ad)))
section GD
variable {sc : SC} {d mc ms n0 : Nat} {mi : MI} {P : Pst} {kc ks : Nat} {pc : Nat} {L : List (Option Value)} {st r : List Value} {w : List va_E}
theorem g_iconst {n : Int} (hd : decode mi.2.2.1 pc = .ok (.iconst n, 1)) (k : Good sc d mc ms n0 mi P kc ks (pc + 1) L (.int (Int32.ofInt n) :: st) w) : Good sc d mc ms n0 mi P kc ks pc L (st) w := by
  intro p l e R s m args below meth c D cy ad0 A Q C H locs ls ad ha hn hm hP hD hS hl
  exact lv_iconst C.1 C.2.1 hd rfl (k p l e R s m args below meth c D cy ad0 A Q C H locs ls ad ha hn hm hP hD hS hl)
theorem g_bipush {n : Int} (hd : decode mi.2.2.1 pc = .ok (.bipush n, 2)) (k : Good sc d mc ms n0 mi P kc ks (pc + 2) L (.int (Int8.ofInt n).toInt32 :: st) w) : Good sc d mc ms n0 mi P kc ks pc L (st) w := by
  intro p l e R s m args below meth c D cy ad0 A Q C H locs ls ad ha hn hm hP hD hS hl
  exact lv_bipush C.1 C.2.1 hd rfl (k p l e R s m args below meth c D cy ad0 A Q C H locs ls ad ha hn hm hP hD hS hl)
theorem g_sipush {n : Int} (hd : decode mi.2.2.1 pc = .ok (.sipush n, 3)) (k : Good sc d mc ms n0 mi P kc ks (pc + 3) L (.int (Int16.ofInt n).toInt32 :: st) w) : Good sc d mc ms n0 mi P kc ks pc L (st) w := by
  intro p l e R s m args below meth c D cy ad0 A Q C H locs ls ad ha hn hm hP hD hS hl
  exact lv_sipush C.1 C.2.1 hd rfl (k p l e R s m args below meth c D cy ad0 A Q C H locs ls ad ha hn hm hP hD hS hl)
theorem g_lconst {n : Fin 2} (hd : decode mi.2.2.1 pc = .ok (.lconst n, 1)) (k : Good sc d mc ms n0 mi P kc ks (pc + 1) L (.long (Int64.ofNat (n : Nat)) :: st) w) : Good sc d mc ms n0 mi P kc ks pc L (st) w := by
  intro p l e R s m args below meth c D cy ad0 A Q C H locs ls ad ha hn hm hP hD hS hl
  exact lv_lconst C.1 C.2.1 hd rfl (k p l e R s m args below meth c D cy ad0 A Q C H locs ls ad ha hn hm hP hD hS hl)
theorem g_iadd {x y : Int32} (hd : decode mi.2.2.1 pc = .ok (.iadd, 1)) (k : Good sc d mc ms n0 mi P kc ks (pc + 1) L (.int (x + y) :: r) w) : Good sc d mc ms n0 mi P kc ks pc L (.int y :: .int x :: r) w := by
  intro p l e R s m args below meth c D cy ad0 A Q C H locs ls ad ha hn hm hP hD hS hl
  exact lv_iadd C.1 C.2.1 hd (k p l e R s m args below meth c D cy ad0 A Q C H locs ls ad ha hn hm hP hD hS hl)
theorem g_isub {x y : Int32} (hd : decode mi.2.2.1 pc = .ok (.isub, 1)) (k : Good sc d mc ms n0 mi P kc ks (pc + 1) L (.int (x - y) :: r) w) : Good sc d mc ms n0 mi P kc ks pc L (.int y :: .int x :: r) w := by
  intro p l e R s m args below meth c D cy ad0 A Q C H locs ls ad ha hn hm hP hD hS hl
  exact lv_isub C.1 C.2.1 hd (k p l e R s m args below meth c D cy ad0 A Q C H locs ls ad ha hn hm hP hD hS hl)
theorem g_imul {x y : Int32} (hd : decode mi.2.2.1 pc = .ok (.imul, 1)) (k : Good sc d mc ms n0 mi P kc ks (pc + 1) L (.int (x * y) :: r) w) : Good sc d mc ms n0 mi P kc ks pc L (.int y :: .int x :: r) w := by
  intro p l e R s m args below meth c D cy ad0 A Q C H locs ls ad ha hn hm hP hD hS hl
  exact lv_imul C.1 C.2.1 hd (k p l e R s m args below meth c D cy ad0 A Q C H locs ls ad ha hn hm hP hD hS hl)
theorem g_iand {x y : Int32} (hd : decode mi.2.2.1 pc = .ok (.iand, 1)) (k : Good sc d mc ms n0 mi P kc ks (pc + 1) L (.int (x &&& y) :: r) w) : Good sc d mc ms n0 mi P kc ks pc L (.int y :: .int x :: r) w := by
  intro p l e R s m args below meth c D cy ad0 A Q C H locs ls ad ha hn hm hP hD hS hl
  exact lv_iand C.1 C.2.1 hd (k p l e R s m args below meth c D cy ad0 A Q C H locs ls ad ha hn hm hP hD hS hl)
theorem g_ior {x y : Int32} (hd : decode mi.2.2.1 pc = .ok (.ior, 1)) (k : Good sc d mc ms n0 mi P kc ks (pc + 1) L (.int (x ||| y) :: r) w) : Good sc d mc ms n0 mi P kc ks pc L (.int y :: .int x :: r) w := by
  intro p l e R s m args below meth c D cy ad0 A Q C H locs ls ad ha hn hm hP hD hS hl
  exact lv_ior C.1 C.2.1 hd (k p l e R s m args below meth c D cy ad0 A Q C H locs ls ad ha hn hm hP hD hS hl)
theorem g_ishl {x y : Int32} (hd : decode mi.2.2.1 pc = .ok (.ishl, 1)) (k : Good sc d mc ms n0 mi P kc ks (pc + 1) L (.int (x <<< (y &&& 31)) :: r) w) : Good sc d mc ms n0 mi P kc ks pc L (.int y :: .int x :: r) w := by
  intro p l e R s m args below meth c D cy ad0 A Q C H locs ls ad ha hn hm hP hD hS hl
  exact lv_ishl C.1 C.2.1 hd (k p l e R s m args below meth c D cy ad0 A Q C H locs ls ad ha hn hm hP hD hS hl)
theorem g_ineg {x : Int32} (hd : decode mi.2.2.1 pc = .ok (.ineg, 1)) (k : Good sc d mc ms n0 mi P kc ks (pc + 1) L (.int (-x) :: r) w) : Good sc d mc ms n0 mi P kc ks pc L (.int x :: r) w := by
  intro p l e R s m args below meth c D cy ad0 A Q C H locs ls ad ha hn hm hP hD hS hl
  exact lv_ineg C.1 C.2.1 hd (k p l e R s m args below meth c D cy ad0 A Q C H locs ls ad ha hn hm hP hD hS hl)
theorem g_idiv {x y : Int32} (hz : ¬ y = 0) (hd : decode mi.2.2.1 pc = .ok (.idiv, 1)) (k : Good sc d mc ms n0 mi P kc ks (pc + 1) L (.int (x / y) :: r) w) : Good sc d mc ms n0 mi P kc ks pc L (.int y :: .int x :: r) w := by
  intro p l e R s m args below meth c D cy ad0 A Q C H locs ls ad ha hn hm hP hD hS hl
  exact lv_idiv C.1 C.2.1 hd hz (k p l e R s m args below meth c D cy ad0 A Q C H locs ls ad ha hn hm hP hD hS hl)
theorem g_irem {x y : Int32} (hz : ¬ y = 0) (hd : decode mi.2.2.1 pc = .ok (.irem, 1)) (k : Good sc d mc ms n0 mi P kc ks (pc + 1) L (.int (x - x / y * y) :: r) w) : Good sc d mc ms n0 mi P kc ks pc L (.int y :: .int x :: r) w := by
  intro p l e R s m args below meth c D cy ad0 A Q C H locs ls ad ha hn hm hP hD hS hl
  exact lv_irem C.1 C.2.1 hd hz (k p l e R s m args below meth c D cy ad0 A Q C H locs ls ad ha hn hm hP hD hS hl)
theorem g_ladd {x y : Int64} (hd : decode mi.2.2.1 pc = .ok (.ladd, 1)) (k : Good sc d mc ms n0 mi P kc ks (pc + 1) L (.long (x + y) :: r) w) : Good sc d mc ms n0 mi P kc ks pc L (.long y :: .long x :: r) w := by
  intro p l e R s m args below meth c D cy ad0 A Q C H locs ls ad ha hn hm hP hD hS hl
  exact lv_ladd C.1 C.2.1 hd (k p l e R s m args below meth c D cy ad0 A Q C H locs ls ad ha hn hm hP hD hS hl)
theorem g_lsub {x y : Int64} (hd : decode mi.2.2.1 pc = .ok (.lsub, 1)) (k : Good sc d mc ms n0 mi P kc ks (pc + 1) L (.long (x - y) :: r) w) : Good sc d mc ms n0 mi P kc ks pc L (.long y :: .long x :: r) w := by
  intro p l e R s m args below meth c D cy ad0 A Q C H locs ls ad ha hn hm hP hD hS hl
  exact lv_lsub C.1 C.2.1 hd (k p l e R s m args below meth c D cy ad0 A Q C H locs ls ad ha hn hm hP hD hS hl)
theorem g_lmul {x y : Int64} (hd : decode mi.2.2.1 pc = .ok (.lmul, 1)) (k : Good sc d mc ms n0 mi P kc ks (pc + 1) L (.long (x * y) :: r) w) : Good sc d mc ms n0 mi P kc ks pc L (.long y :: .long x :: r) w := by
  intro p l e R s m args below meth c D cy ad0 A Q C H locs ls ad ha hn hm hP hD hS hl
  exact lv_lmul C.1 C.2.1 hd (k p l e R s m args below meth c D cy ad0 A Q C H locs ls ad ha hn hm hP hD hS hl)
theorem g_land {x y : Int64} (hd : decode mi.2.2.1 pc = .ok (.land, 1)) (k : Good sc d mc ms n0 mi P kc ks (pc + 1) L (.long (x &&& y) :: r) w) : Good sc d mc ms n0 mi P kc ks pc L (.long y :: .long x :: r) w := by
  intro p l e R s m args below meth c D cy ad0 A Q C H locs ls ad ha hn hm hP hD hS hl
  exact lv_land C.1 C.2.1 hd (k p l e R s m args below meth c D cy ad0 A Q C H locs ls ad ha hn hm hP hD hS hl)
theorem g_lor {x y : Int64} (hd : decode mi.2.2.1 pc = .ok (.lor, 1)) (k : Good sc d mc ms n0 mi P kc ks (pc + 1) L (.long (x ||| y) :: r) w) : Good sc d mc ms n0 mi P kc ks pc L (.long y :: .long x :: r) w := by
  intro p l e R s m args below meth c D cy ad0 A Q C H locs ls ad ha hn hm hP hD hS hl
  exact lv_lor C.1 C.2.1 hd (k p l e R s m args below meth c D cy ad0 A Q C H locs ls ad ha hn hm hP hD hS hl)
theorem g_lushr {x : Int64} {y : Int32} (hd : decode mi.2.2.1 pc = .ok (.lushr, 1)) (k : Good sc d mc ms n0 mi P kc ks (pc + 1) L (.long (x.toUInt64 >>> (y.toInt64.toUInt64 &&& Int64.toUInt64 63)).toInt64 :: r) w) : Good sc d mc ms n0 mi P kc ks pc L (.int y :: .long x :: r) w := by
  intro p l e R s m args below meth c D cy ad0 A Q C H locs ls ad ha hn hm hP hD hS hl
  exact lv_lushr C.1 C.2.1 hd rfl (k p l e R s m args below meth c D cy ad0 A Q C H locs ls ad ha hn hm hP hD hS hl)
theorem g_lshl {x : Int64} {y : Int32} (hd : decode mi.2.2.1 pc = .ok (.lshl, 1)) (k : Good sc d mc ms n0 mi P kc ks (pc + 1) L (.long (x <<< (y.toInt64 &&& 63)) :: r) w) : Good sc d mc ms n0 mi P kc ks pc L (.int y :: .long x :: r) w := by
  intro p l e R s m args below meth c D cy ad0 A Q C H locs ls ad ha hn hm hP hD hS hl
  exact lv_lshl C.1 C.2.1 hd rfl (k p l e R s m args below meth c D cy ad0 A Q C H locs ls ad ha hn hm hP hD hS hl)
theorem g_lshr {x : Int64} {y : Int32} (hd : decode mi.2.2.1 pc = .ok (.lshr, 1)) (k : Good sc d mc ms n0 mi P kc ks (pc + 1) L (.long (x >>> (y.toInt64 &&& 63)) :: r) w) : Good sc d mc ms n0 mi P kc ks pc L (.int y :: .long x :: r) w := by
  intro p l e R s m args below meth c D cy ad0 A Q C H locs ls ad ha hn hm hP hD hS hl
  exact lv_lshr C.1 C.2.1 hd rfl (k p l e R s m args below meth c D cy ad0 A Q C H locs ls ad ha hn hm hP hD hS hl)
theorem g_lcmp {x y : Int64} (hd : decode mi.2.2.1 pc = .ok (.lcmp, 1)) (k : Good sc d mc ms n0 mi P kc ks (pc + 1) L (.int (lg_cmp x y) :: r) w) : Good sc d mc ms n0 mi P kc ks pc L (.long y :: .long x :: r) w := by
  intro p l e R s m args below meth c D cy ad0 A Q C H locs ls ad ha hn hm hP hD hS hl
  exact W.lcmp C.1 C.2.1 hd (k p l e R s m args below meth c D cy ad0 A Q C H locs ls ad ha hn hm hP hD hS hl)
theorem g_i2l {x : Int32} (hd : decode mi.2.2.1 pc = .ok (.i2l, 1)) (k : Good sc d mc ms n0 mi P kc ks (pc + 1) L (.long x.toInt64 :: r) w) : Good sc d mc ms n0 mi P kc ks pc L (.int x :: r) w := by
  intro p l e R s m args below meth c D cy ad0 A Q C H locs ls ad ha hn hm hP hD hS hl
  exact lv_i2l C.1 C.2.1 hd rfl (k p l e R s m args below meth c D cy ad0 A Q C H locs ls ad ha hn hm hP hD hS hl)
theorem g_l2i {x : Int64} (hd : decode mi.2.2.1 pc = .ok (.l2i, 1)) (k : Good sc d mc ms n0 mi P kc ks (pc + 1) L (.int x.toInt32 :: r) w) : Good sc d mc ms n0 mi P kc ks pc L (.long x :: r) w := by
  intro p l e R s m args below meth c D cy ad0 A Q C H locs ls ad ha hn hm hP hD hS hl
  exact lv_l2i C.1 C.2.1 hd rfl (k p l e R s m args below meth c D cy ad0 A Q C H locs ls ad ha hn hm hP hD hS hl)
theorem g_dupi {x : Int32} (hd : decode mi.2.2.1 pc = .ok (.dup, 1)) (k : Good sc d mc ms n0 mi P kc ks (pc + 1) L (.int x :: .int x :: r) w) : Good sc d mc ms n0 mi P kc ks pc L (.int x :: r) w := by
  intro p l e R s m args below meth c D cy ad0 A Q C H locs ls ad ha hn hm hP hD hS hl
  exact lv_dup C.1 C.2.1 hd rfl (k p l e R s m args below meth c D cy ad0 A Q C H locs ls ad ha hn hm hP hD hS hl)
theorem g_dupr {q : Nat} (hd : decode mi.2.2.1 pc = .ok (.dup, 1)) (k : Good sc d mc ms n0 mi P kc ks (pc + 1) L (.ref q :: .ref q :: r) w) : Good sc d mc ms n0 mi P kc ks pc L (.ref q :: r) w := by
  intro p l e R s m args below meth c D cy ad0 A Q C H locs ls ad ha hn hm hP hD hS hl
  exact lv_dup C.1 C.2.1 hd rfl (k p l e R s m args below meth c D cy ad0 A Q C H locs ls ad ha hn hm hP hD hS hl)
theorem g_dup2 {x : Int32} {q : Nat} (hd : decode mi.2.2.1 pc = .ok (.dup2, 1)) (k : Good sc d mc ms n0 mi P kc ks (pc + 1) L (.int x :: .ref q :: .int x :: .ref q :: r) w) : Good sc d mc ms n0 mi P kc ks pc L (.int x :: .ref q :: r) w := by
  intro p l e R s m args below meth c D cy ad0 A Q C H locs ls ad ha hn hm hP hD hS hl
  exact lv_dup2_11 C.1 C.2.1 hd rfl rfl (k p l e R s m args below meth c D cy ad0 A Q C H locs ls ad ha hn hm hP hD hS hl)
theorem g_popi {x : Int32} (hd : decode mi.2.2.1 pc = .ok (.pop, 1)) (k : Good sc d mc ms n0 mi P kc ks (pc + 1) L (r) w) : Good sc d mc ms n0 mi P kc ks pc L (.int x :: r) w := by
  intro p l e R s m args below meth c D cy ad0 A Q C H locs ls ad ha hn hm hP hD hS hl
  exact lv_pop C.1 C.2.1 hd rfl (k p l e R s m args below meth c D cy ad0 A Q C H locs ls ad ha hn hm hP hD hS hl)
theorem g_iload_n {n : Fin 4} {x : Int32} (hx : lkv L (n : Nat) = some (.int x)) (hd : decode mi.2.2.1 pc = .ok (.iload_n n, 1)) (k : Good sc d mc ms n0 mi P kc ks (pc + 1) L (.int x :: st) w) : Good sc d mc ms n0 mi P kc ks pc L (st) w := by
  intro p l e R s m args below meth c D cy ad0 A Q C H locs ls ad ha hn hm hP hD hS hl
  exact lv_iload_n C.1 C.2.1 hd rfl (hl.2.2 _ _ (lkv_eq _ _ _ hx)) (k p l e R s m args below meth c D cy ad0 A Q C H locs ls ad ha hn hm hP hD hS hl)
theorem g_iload {n : Nat} {x : Int32} (hx : lkv L n = some (.int x)) (hd : decode mi.2.2.1 pc = .ok (.iload n, 2)) (k : Good sc d mc ms n0 mi P kc ks (pc + 2) L (.int x :: st) w) : Good sc d mc ms n0 mi P kc ks pc L (st) w := by
  intro p l e R s m args below meth c D cy ad0 A Q C H locs ls ad ha hn hm hP hD hS hl
  exact lv_iload C.1 C.2.1 hd (hl.2.2 _ _ (lkv_eq _ _ _ hx)) (k p l e R s m args below meth c D cy ad0 A Q C H locs ls ad ha hn hm hP hD hS hl)
theorem g_lload_n {n : Fin 4} {x : Int64} (hx : lkv L (n : Nat) = some (.long x)) (hd : decode mi.2.2.1 pc = .ok (.lload_n n, 1)) (k : Good sc d mc ms n0 mi P kc ks (pc + 1) L (.long x :: st) w) : Good sc d mc ms n0 mi P kc ks pc L (st) w := by
  intro p l e R s m args below meth c D cy ad0 A Q C H locs ls ad ha hn hm hP hD hS hl
  exact lv_lload_n C.1 C.2.1 hd rfl (hl.2.2 _ _ (lkv_eq _ _ _ hx)) (k p l e R s m args below meth c D cy ad0 A Q C H locs ls ad ha hn hm hP hD hS hl)
theorem g_lload {n : Nat} {x : Int64} (hx : lkv L n = some (.long x)) (hd : decode mi.2.2.1 pc = .ok (.lload n, 2)) (k : Good sc d mc ms n0 mi P kc ks (pc + 2) L (.long x :: st) w) : Good sc d mc ms n0 mi P kc ks pc L (st) w := by
  intro p l e R s m args below meth c D cy ad0 A Q C H locs ls ad ha hn hm hP hD hS hl
  exact lv_lload C.1 C.2.1 hd (hl.2.2 _ _ (lkv_eq _ _ _ hx)) (k p l e R s m args below meth c D cy ad0 A Q C H locs ls ad ha hn hm hP hD hS hl)
theorem g_aload_n {n : Fin 4} {x : Nat} (hx : lkv L (n : Nat) = some (.ref x)) (hd : decode mi.2.2.1 pc = .ok (.aload_n n, 1)) (k : Good sc d mc ms n0 mi P kc ks (pc + 1) L (.ref x :: st) w) : Good sc d mc ms n0 mi P kc ks pc L (st) w := by
  intro p l e R s m args below meth c D cy ad0 A Q C H locs ls ad ha hn hm hP hD hS hl
  exact lv_aload_n C.1 C.2.1 hd rfl (hl.2.2 _ _ (lkv_eq _ _ _ hx)) (k p l e R s m args below meth c D cy ad0 A Q C H locs ls ad ha hn hm hP hD hS hl)
theorem g_aload {n : Nat} {x : Nat} (hx : lkv L n = some (.ref x)) (hd : decode mi.2.2.1 pc = .ok (.aload n, 2)) (k : Good sc d mc ms n0 mi P kc ks (pc + 2) L (.ref x :: st) w) : Good sc d mc ms n0 mi P kc ks pc L (st) w := by
  intro p l e R s m args below meth c D cy ad0 A Q C H locs ls ad ha hn hm hP hD hS hl
  exact lv_aload C.1 C.2.1 hd (hl.2.2 _ _ (lkv_eq _ _ _ hx)) (k p l e R s m args below meth c D cy ad0 A Q C H locs ls ad ha hn hm hP hD hS hl)
theorem g_istore_n {n : Fin 4} {x : Int32} (hi : (n : Nat) < mi.2.2.2.1) (hd : decode mi.2.2.1 pc = .ok (.istore_n n, 1)) (k : Good sc d mc ms n0 mi P kc ks (pc + 1) (lz1 L (n : Nat) (.int x)) r w) : Good sc d mc ms n0 mi P kc ks pc L (.int x :: r) w := by
  intro p l e R s m args below meth c D cy ad0 A Q C H locs ls ad ha hn hm hP hD hS hl
  exact lv_istore_n C.1 C.2.1 hd rfl (lz_has hl) hi rfl (fun ls2 h2 => k p l e R s m args below meth c D cy ad0 A Q C H locs ls2 ad ha hn hm hP hD hS (lz1_of (v := .int x) h2))
theorem g_istore {n : Nat} {x : Int32} (hi : n < mi.2.2.2.1) (hd : decode mi.2.2.1 pc = .ok (.istore n, 2)) (k : Good sc d mc ms n0 mi P kc ks (pc + 2) (lz1 L n (.int x)) r w) : Good sc d mc ms n0 mi P kc ks pc L (.int x :: r) w := by
  intro p l e R s m args below meth c D cy ad0 A Q C H locs ls ad ha hn hm hP hD hS hl
  exact lv_istore C.1 C.2.1 hd (lz_has hl) hi rfl (fun ls2 h2 => k p l e R s m args below meth c D cy ad0 A Q C H locs ls2 ad ha hn hm hP hD hS (lz1_of (v := .int x) h2))
theorem g_astore_n {n : Fin 4} {x : Nat} (hi : (n : Nat) < mi.2.2.2.1) (hd : decode mi.2.2.1 pc = .ok (.astore_n n, 1)) (k : Good sc d mc ms n0 mi P kc ks (pc + 1) (lz1 L (n : Nat) (.ref x)) r w) : Good sc d mc ms n0 mi P kc ks pc L (.ref x :: r) w := by
  intro p l e R s m args below meth c D cy ad0 A Q C H locs ls ad ha hn hm hP hD hS hl
  exact lv_astore_n C.1 C.2.1 hd rfl (lz_has hl) hi rfl (fun ls2 h2 => k p l e R s m args below meth c D cy ad0 A Q C H locs ls2 ad ha hn hm hP hD hS (lz1_of (v := .ref x) h2))
theorem g_astore {n : Nat} {x : Nat} (hi : n < mi.2.2.2.1) (hd : decode mi.2.2.1 pc = .ok (.astore n, 2)) (k : Good sc d mc ms n0 mi P kc ks (pc + 2) (lz1 L n (.ref x)) r w) : Good sc d mc ms n0 mi P kc ks pc L (.ref x :: r) w := by
  intro p l e R s m args below meth c D cy ad0 A Q C H locs ls ad ha hn hm hP hD hS hl
  exact lv_astore C.1 C.2.1 hd (lz_has hl) hi rfl (fun ls2 h2 => k p l e R s m args below meth c D cy ad0 A Q C H locs ls2 ad ha hn hm hP hD hS (lz1_of (v := .ref x) h2))
theorem g_lstore_n {n : Fin 4} {x : Int64} (hi : (n : Nat) + 1 < mi.2.2.2.1) (hd : decode mi.2.2.1 pc = .ok (.lstore_n n, 1)) (k : Good sc d mc ms n0 mi P kc ks (pc + 1) (lz2 L (n : Nat) (.long x)) r w) : Good sc d mc ms n0 mi P kc ks pc L (.long x :: r) w := by
  intro p l e R s m args below meth c D cy ad0 A Q C H locs ls ad ha hn hm hP hD hS hl
  exact lv_lstore_n C.1 C.2.1 hd rfl (lz_has hl) hi rfl (fun ls2 h2 => k p l e R s m args below meth c D cy ad0 A Q C H locs ls2 ad ha hn hm hP hD hS (lz2_of (v := .long x) h2))
theorem g_lstore {n : Nat} {x : Int64} (hi : n + 1 < mi.2.2.2.1) (hd : decode mi.2.2.1 pc = .ok (.lstore n, 2)) (k : Good sc d mc ms n0 mi P kc ks (pc + 2) (lz2 L n (.long x)) r w) : Good sc d mc ms n0 mi P kc ks pc L (.long x :: r) w := by
  intro p l e R s m args below meth c D cy ad0 A Q C H locs ls ad ha hn hm hP hD hS hl
  exact lv_lstore C.1 C.2.1 hd (lz_has hl) hi rfl (fun ls2 h2 => k p l e R s m args below meth c D cy ad0 A Q C H locs ls2 ad ha hn hm hP hD hS (lz2_of (v := .long x) h2))
theorem g_iinc {n : Nat} {z : Int} {x : Int32} (hx : lkv L n = some (.int x)) (hi : n < mi.2.2.2.1) (hd : decode mi.2.2.1 pc = .ok (.iinc n z, 3)) (k : Good sc d mc ms n0 mi P kc ks (pc + 3) (lz1 L n (.int (x + Int32.ofInt z))) st w) : Good sc d mc ms n0 mi P kc ks pc L st w := by
  intro p l e R s m args below meth c D cy ad0 A Q C H locs ls ad ha hn hm hP hD hS hl
  obtain ⟨j, hj⟩ := List.getElem?_of_mem (lzA_mem (ad := ad) (lkv_eq _ _ _ hx))
  exact lv_iinc (k := j) (x := x) C.1 C.2.1 hd (lz_has hl) hj rfl hi rfl (fun ls2 h2 => k p l e R s m args below meth c D cy ad0 A Q C H locs ls2 ad ha hn hm hP hD hS (lz1_of (v := .int (x + Int32.ofInt z)) h2))
def tgt (pc : Nat) (off : Int) : Nat := ((pc : Int) + off).toNat
theorem tgt_eq {pc : Nat} {off : Int} (h : 0 ≤ (pc : Int) + off) : (pc : Int) + off = (tgt pc off : Int) := (Int.toNat_of_nonneg h).symm
theorem g_if_eq {x : Int32} {off : Int} (ho : 0 ≤ (pc : Int) + off) (hd : decode mi.2.2.1 pc = .ok (.ifCond .eq off, 3)) (kt : x = 0 → Good sc d mc ms n0 mi P kc ks (tgt pc off) L r w) (kf : ¬ x = 0 → Good sc d mc ms n0 mi P kc ks (pc + 3) L r w) : Good sc d mc ms n0 mi P kc ks pc L (.int x :: r) w := by
  intro p l e R s m args below meth c D cy ad0 A Q C H locs ls ad ha hn hm hP hD hS hl
  exact lv_if_eq C.1 C.2.1 hd (tgt_eq ho) (fun h => (kt h p l e R s m args below meth c D cy ad0 A Q C H locs ls ad ha hn hm hP hD hS hl)) (fun h => (kf h p l e R s m args below meth c D cy ad0 A Q C H locs ls ad ha hn hm hP hD hS hl))
theorem g_icmp_eq {x y : Int32} {off : Int} (ho : 0 ≤ (pc : Int) + off) (hd : decode mi.2.2.1 pc = .ok (.if_icmp .eq off, 3)) (kt : x = y → Good sc d mc ms n0 mi P kc ks (tgt pc off) L r w) (kf : ¬ x = y → Good sc d mc ms n0 mi P kc ks (pc + 3) L r w) : Good sc d mc ms n0 mi P kc ks pc L (.int y :: .int x :: r) w := by
  intro p l e R s m args below meth c D cy ad0 A Q C H locs ls ad ha hn hm hP hD hS hl
  exact lv_icmp_eq C.1 C.2.1 hd (tgt_eq ho) (fun h => (kt h p l e R s m args below meth c D cy ad0 A Q C H locs ls ad ha hn hm hP hD hS hl)) (fun h => (kf h p l e R s m args below meth c D cy ad0 A Q C H locs ls ad ha hn hm hP hD hS hl))
theorem g_if_ne {x : Int32} {off : Int} (ho : 0 ≤ (pc : Int) + off) (hd : decode mi.2.2.1 pc = .ok (.ifCond .ne off, 3)) (kt : ¬ x = 0 → Good sc d mc ms n0 mi P kc ks (tgt pc off) L r w) (kf : x = 0 → Good sc d mc ms n0 mi P kc ks (pc + 3) L r w) : Good sc d mc ms n0 mi P kc ks pc L (.int x :: r) w := by
  intro p l e R s m args below meth c D cy ad0 A Q C H locs ls ad ha hn hm hP hD hS hl
  exact lv_if_ne C.1 C.2.1 hd (tgt_eq ho) (fun h => (kt h p l e R s m args below meth c D cy ad0 A Q C H locs ls ad ha hn hm hP hD hS hl)) (fun h => (kf h p l e R s m args below meth c D cy ad0 A Q C H locs ls ad ha hn hm hP hD hS hl))
theorem g_icmp_ne {x y : Int32} {off : Int} (ho : 0 ≤ (pc : Int) + off) (hd : decode mi.2.2.1 pc = .ok (.if_icmp .ne off, 3)) (kt : ¬ x = y → Good sc d mc ms n0 mi P kc ks (tgt pc off) L r w) (kf : x = y → Good sc d mc ms n0 mi P kc ks (pc + 3) L r w) : Good sc d mc ms n0 mi P kc ks pc L (.int y :: .int x :: r) w := by
  intro p l e R s m args below meth c D cy ad0 A Q C H locs ls ad ha hn hm hP hD hS hl
  exact lv_icmp_ne C.1 C.2.1 hd (tgt_eq ho) (fun h => (kt h p l e R s m args below meth c D cy ad0 A Q C H locs ls ad ha hn hm hP hD hS hl)) (fun h => (kf h p l e R s m args below meth c D cy ad0 A Q C H locs ls ad ha hn hm hP hD hS hl))
theorem g_if_lt {x : Int32} {off : Int} (ho : 0 ≤ (pc : Int) + off) (hd : decode mi.2.2.1 pc = .ok (.ifCond .lt off, 3)) (kt : x < 0 → Good sc d mc ms n0 mi P kc ks (tgt pc off) L r w) (kf : ¬ x < 0 → Good sc d mc ms n0 mi P kc ks (pc + 3) L r w) : Good sc d mc ms n0 mi P kc ks pc L (.int x :: r) w := by
  intro p l e R s m args below meth c D cy ad0 A Q C H locs ls ad ha hn hm hP hD hS hl
  exact lv_if_lt C.1 C.2.1 hd (tgt_eq ho) (fun h => (kt h p l e R s m args below meth c D cy ad0 A Q C H locs ls ad ha hn hm hP hD hS hl)) (fun h => (kf h p l e R s m args below meth c D cy ad0 A Q C H locs ls ad ha hn hm hP hD hS hl))
theorem g_icmp_lt {x y : Int32} {off : Int} (ho : 0 ≤ (pc : Int) + off) (hd : decode mi.2.2.1 pc = .ok (.if_icmp .lt off, 3)) (kt : x < y → Good sc d mc ms n0 mi P kc ks (tgt pc off) L r w) (kf : ¬ x < y → Good sc d mc ms n0 mi P kc ks (pc + 3) L r w) : Good sc d mc ms n0 mi P kc ks pc L (.int y :: .int x :: r) w := by
  intro p l e R s m args below meth c D cy ad0 A Q C H locs ls ad ha hn hm hP hD hS hl
  exact lv_icmp_lt C.1 C.2.1 hd (tgt_eq ho) (fun h => (kt h p l e R s m args below meth c D cy ad0 A Q C H locs ls ad ha hn hm hP hD hS hl)) (fun h => (kf h p l e R s m args below meth c D cy ad0 A Q C H locs ls ad ha hn hm hP hD hS hl))
theorem g_if_ge {x : Int32} {off : Int} (ho : 0 ≤ (pc : Int) + off) (hd : decode mi.2.2.1 pc = .ok (.ifCond .ge off, 3)) (kt : 0 ≤ x → Good sc d mc ms n0 mi P kc ks (tgt pc off) L r w) (kf : ¬ 0 ≤ x → Good sc d mc ms n0 mi P kc ks (pc + 3) L r w) : Good sc d mc ms n0 mi P kc ks pc L (.int x :: r) w := by
  intro p l e R s m args below meth c D cy ad0 A Q C H locs ls ad ha hn hm hP hD hS hl
  exact lv_if_ge C.1 C.2.1 hd (tgt_eq ho) (fun h => (kt h p l e R s m args below meth c D cy ad0 A Q C H locs ls ad ha hn hm hP hD hS hl)) (fun h => (kf h p l e R s m args below meth c D cy ad0 A Q C H locs ls ad ha hn hm hP hD hS hl))
theorem g_icmp_ge {x y : Int32} {off : Int} (ho : 0 ≤ (pc : Int) + off) (hd : decode mi.2.2.1 pc = .ok (.if_icmp .ge off, 3)) (kt : y ≤ x → Good sc d mc ms n0 mi P kc ks (tgt pc off) L r w) (kf : ¬ y ≤ x → Good sc d mc ms n0 mi P kc ks (pc + 3) L r w) : Good sc d mc ms n0 mi P kc ks pc L (.int y :: .int x :: r) w := by
  intro p l e R s m args below meth c D cy ad0 A Q C H locs ls ad ha hn hm hP hD hS hl
  exact lv_icmp_ge C.1 C.2.1 hd (tgt_eq ho) (fun h => (kt h p l e R s m args below meth c D cy ad0 A Q C H locs ls ad ha hn hm hP hD hS hl)) (fun h => (kf h p l e R s m args below meth c D cy ad0 A Q C H locs ls ad ha hn hm hP hD hS hl))
theorem g_if_gt {x : Int32} {off : Int} (ho : 0 ≤ (pc : Int) + off) (hd : decode mi.2.2.1 pc = .ok (.ifCond .gt off, 3)) (kt : 0 < x → Good sc d mc ms n0 mi P kc ks (tgt pc off) L r w) (kf : ¬ 0 < x → Good sc d mc ms n0 mi P kc ks (pc + 3) L r w) : Good sc d mc ms n0 mi P kc ks pc L (.int x :: r) w := by
  intro p l e R s m args below meth c D cy ad0 A Q C H locs ls ad ha hn hm hP hD hS hl
  exact lv_if_gt C.1 C.2.1 hd (tgt_eq ho) (fun h => (kt h p l e R s m args below meth c D cy ad0 A Q C H locs ls ad ha hn hm hP hD hS hl)) (fun h => (kf h p l e R s m args below meth c D cy ad0 A Q C H locs ls ad ha hn hm hP hD hS hl))
theorem g_icmp_gt {x y : Int32} {off : Int} (ho : 0 ≤ (pc : Int) + off) (hd : decode mi.2.2.1 pc = .ok (.if_icmp .gt off, 3)) (kt : y < x → Good sc d mc ms n0 mi P kc ks (tgt pc off) L r w) (kf : ¬ y < x → Good sc d mc ms n0 mi P kc ks (pc + 3) L r w) : Good sc d mc ms n0 mi P kc ks pc L (.int y :: .int x :: r) w := by
  intro p l e R s m args below meth c D cy ad0 A Q C H locs ls ad ha hn hm hP hD hS hl
  exact lv_icmp_gt C.1 C.2.1 hd (tgt_eq ho) (fun h => (kt h p l e R s m args below meth c D cy ad0 A Q C H locs ls ad ha hn hm hP hD hS hl)) (fun h => (kf h p l e R s m args below meth c D cy ad0 A Q C H locs ls ad ha hn hm hP hD hS hl))
theorem g_if_le {x : Int32} {off : Int} (ho : 0 ≤ (pc : Int) + off) (hd : decode mi.2.2.1 pc = .ok (.ifCond .le off, 3)) (kt : x ≤ 0 → Good sc d mc ms n0 mi P kc ks (tgt pc off) L r w) (kf : ¬ x ≤ 0 → Good sc d mc ms n0 mi P kc ks (pc + 3) L r w) : Good sc d mc ms n0 mi P kc ks pc L (.int x :: r) w := by
  intro p l e R s m args below meth c D cy ad0 A Q C H locs ls ad ha hn hm hP hD hS hl
  exact lv_if_le C.1 C.2.1 hd (tgt_eq ho) (fun h => (kt h p l e R s m args below meth c D cy ad0 A Q C H locs ls ad ha hn hm hP hD hS hl)) (fun h => (kf h p l e R s m args below meth c D cy ad0 A Q C H locs ls ad ha hn hm hP hD hS hl))
theorem g_icmp_le {x y : Int32} {off : Int} (ho : 0 ≤ (pc : Int) + off) (hd : decode mi.2.2.1 pc = .ok (.if_icmp .le off, 3)) (kt : x ≤ y → Good sc d mc ms n0 mi P kc ks (tgt pc off) L r w) (kf : ¬ x ≤ y → Good sc d mc ms n0 mi P kc ks (pc + 3) L r w) : Good sc d mc ms n0 mi P kc ks pc L (.int y :: .int x :: r) w := by
  intro p l e R s m args below meth c D cy ad0 A Q C H locs ls ad ha hn hm hP hD hS hl
  exact lv_icmp_le C.1 C.2.1 hd (tgt_eq ho) (fun h => (kt h p l e R s m args below meth c D cy ad0 A Q C H locs ls ad ha hn hm hP hD hS hl)) (fun h => (kf h p l e R s m args below meth c D cy ad0 A Q C H locs ls ad ha hn hm hP hD hS hl))
theorem g_goto {off : Int} (ho : 0 ≤ (pc : Int) + off) (hd : decode mi.2.2.1 pc = .ok (.goto off, 3)) (k : Good sc d mc ms n0 mi P kc ks (tgt pc off) L st w) : Good sc d mc ms n0 mi P kc ks pc L st w := by
  intro p l e R s m args below meth c D cy ad0 A Q C H locs ls ad ha hn hm hP hD hS hl
  exact lv_goto C.1 C.2.1 hd (tgt_eq ho) (k p l e R s m args below meth c D cy ad0 A Q C H locs ls ad ha hn hm hP hD hS hl)
theorem g_ret (hd : decode mi.2.2.1 pc = .ok (.return_, 1)) (hr : mi.2.2.2.2 = none) (hc : kc ≤ mc ∧ ks ≤ ms) (h : P none w) : Good sc d mc ms n0 mi P kc ks pc L [] w := by
  intro p l e R s m args below meth c D cy ad0 A Q C H locs ls ad ha hn hm hP hD hS hl
  exact C.2.2.2.2.2.2.2.2.2.1 none w ad H locs ls pc kc ks h ha hn hc.1 hc.2 hP hD hS ⟨hr, hd⟩
theorem g_ireti {x : Int32} (hd : decode mi.2.2.1 pc = .ok (.ireturn, 1)) (hr : mi.2.2.2.2 = some .int) (hc : kc ≤ mc ∧ ks ≤ ms) (h : P (some (.int x)) w) : Good sc d mc ms n0 mi P kc ks pc L [.int x] w := by
  intro p l e R s m args below meth c D cy ad0 A Q C H locs ls ad ha hn hm hP hD hS hl
  exact C.2.2.2.2.2.2.2.2.2.1 (some (.int x)) w ad H locs ls pc kc ks h ha hn hc.1 hc.2 hP hD hS ⟨⟨.int, hr, rfl⟩, hd⟩
theorem g_iretz {x : Int32} (hd : decode mi.2.2.1 pc = .ok (.ireturn, 1)) (hr : mi.2.2.2.2 = some .boolean) (hx : x = 0 ∨ x = 1) (hc : kc ≤ mc ∧ ks ≤ ms) (h : P (some (.int x)) w) : Good sc d mc ms n0 mi P kc ks pc L [.int x] w := by
  intro p l e R s m args below meth c D cy ad0 A Q C H locs ls ad ha hn hm hP hD hS hl
  exact C.2.2.2.2.2.2.2.2.2.1 (some (.int x)) w ad H locs ls pc kc ks h ha hn hc.1 hc.2 hP hD hS ⟨⟨.boolean, hr, by rcases hx with e | e <;> subst e <;> decide⟩, hd⟩
theorem g_irett {x : Int32} (ty : FieldType) (hd : decode mi.2.2.1 pc = .ok (.ireturn, 1)) (hr : mi.2.2.2.2 = some ty) (hx : narrow ty (.int x) = .int x) (hc : kc ≤ mc ∧ ks ≤ ms) (h : P (some (.int x)) w) : Good sc d mc ms n0 mi P kc ks pc L [.int x] w := by
  intro p l e R s m args below meth c D cy ad0 A Q C H locs ls ad ha hn hm hP hD hS hl
  exact C.2.2.2.2.2.2.2.2.2.1 (some (.int x)) w ad H locs ls pc kc ks h ha hn hc.1 hc.2 hP hD hS ⟨⟨ty, hr, hx⟩, hd⟩
theorem g_lret {x : Int64} (hd : decode mi.2.2.1 pc = .ok (.lreturn, 1)) (hr : mi.2.2.2.2 = some .long) (hc : kc ≤ mc ∧ ks ≤ ms) (h : P (some (.long x)) w) : Good sc d mc ms n0 mi P kc ks pc L [.long x] w := by
  intro p l e R s m args below meth c D cy ad0 A Q C H locs ls ad ha hn hm hP hD hS hl
  exact C.2.2.2.2.2.2.2.2.2.1 (some (.long x)) w ad H locs ls pc kc ks h ha hn hc.1 hc.2 hP hD hS ⟨hr, hd⟩
theorem g_tsw {dflt lo hi : Int} {offs : Array Int} {len : Nat} {x : Int32} (hd : decode mi.2.2.1 pc = .ok (.tableswitch dflt lo hi offs, len)) (h0 : 0 ≤ (pc : Int) + dflt) (ho : offs.all (fun o => decide (0 ≤ (pc : Int) + o)) = true) (hz : hi < lo + offs.size) (kd : (x.toInt < lo ∨ hi < x.toInt) → Good sc d mc ms n0 mi P kc ks (tgt pc dflt) L r w)
    (k : ∀ (j : Nat) (o : Int), offs[j]? = some o → x.toInt = lo + j → Good sc d mc ms n0 mi P kc ks (tgt pc o) L r w) : Good sc d mc ms n0 mi P kc ks pc L (.int x :: r) w := by
  intro p l e R s m args below meth c D cy ad0 A Q C H locs ls ad ha hn hm hP hD hS hl
  by_cases h : x.toInt < lo ∨ hi < x.toInt
  · exact lv_tableOut C.1 C.2.1 hd h (tgt_eq h0) (kd h p l e R s m args below meth c D cy ad0 A Q C H locs ls ad ha hn hm hP hD hS hl)
  · have h1 : ¬ x.toInt < lo := fun q => h (Or.inl q)
    have h2 : ¬ hi < x.toInt := fun q => h (Or.inr q)
    have hlt : (x.toInt - lo).toNat < offs.size := by omega
    have hget : offs[(x.toInt - lo).toNat]? = some offs[(x.toInt - lo).toNat] := Array.getElem?_eq_getElem hlt
    have hp : 0 ≤ (pc : Int) + offs[(x.toInt - lo).toNat] := by
      have := Array.all_eq_true.mp ho (x.toInt - lo).toNat hlt
      simpa using this
    exact lv_tableIn C.1 C.2.1 hd h1 h2 hget (tgt_eq hp) ((k _ _ hget (by omega)) p l e R s m args below meth c D cy ad0 A Q C H locs ls ad ha hn hm hP hD hS hl)
end GD
