/-! new T[n][k] at the machine itself: rows of our own over the opcode's words, resting on nothing of Shelf42 -/
def mq_in (c : ClassId) (K : Nat) (v : Value) : Cell := { cls := c, slots := Array.replicate K v, vm := .none }
def mq_out (c : ClassId) (N b i : Nat) : Cell := arrV c N (fun j => va_rf (if j < i then some (b + 1 + j) else none))
def mq_st (T : State) (cA cI : ClassId) (N K : Nat) (v : Value) : Nat → State
  | 0 => T.pushCell (mq_out cA N T.heap.size 0)
  | i + 1 => ((mq_st T cA cI N K v i).pushCell (mq_in cI K v)).setCell T.heap.size (mq_out cA N T.heap.size (i + 1))
theorem mq_out_new (c : ClassId) (N b : Nat) : ({ cls := c, slots := Array.replicate N .null, vm := .none } : Cell) = mq_out c N b 0 := by
  rw [arrV_new]
  refine congrArg (arrV c N) (funext fun j => ?_)
  rw [if_neg (Nat.not_lt_zero j)]
  rfl
theorem mq_out_next (c : ClassId) (N b i : Nat) : (mq_out c N b i).setSlot i (.ref (b + 1 + i)) = mq_out c N b (i + 1) := by
  unfold mq_out
  rw [arrV_store]
  refine congrArg (arrV c N) (funext fun j => ?_)
  unfold updV
  by_cases e : j = i
  · subst e
    rw [if_pos rfl, if_pos (Nat.lt_succ_self j)]
    rfl
  · rw [if_neg e]
    dsimp only
    by_cases h : j < i
    · rw [if_pos h, if_pos (Nat.lt_succ_of_lt h)]
    · rw [if_neg h, if_neg (by omega)]
theorem mq_out_size (c : ClassId) (N b i : Nat) : (mq_out c N b i).slots.size = N := arrV_size _ _ _
section MQ
variable {T : State} {cA cI : ClassId} {N K : Nat} {v : Value}
theorem mq_size : ∀ i : Nat, (mq_st T cA cI N K v i).heap.size = T.heap.size + 1 + i
  | 0 => by
    show (T.heap.push _).size = _
    rw [Array.size_push]
  | i + 1 => by
    have h := mq_size i
    show (((mq_st T cA cI N K v i).heap.push _).setIfInBounds _ _).size = _
    rw [Array.size_setIfInBounds, Array.size_push, h]
    omega
theorem mq_vm : ∀ i : Nat, (mq_st T cA cI N K v i).vm = T.vm
  | 0 => rfl
  | i + 1 => mq_vm i
theorem mq_java : ∀ i : Nat, (mq_st T cA cI N K v i).topJava? = T.topJava?
  | 0 => rfl
  | i + 1 => mq_java i
theorem mq_used : ∀ i : Nat, (mq_st T cA cI N K v i).slotsUsed = T.slotsUsed + N + i * K
  | 0 => by
    show T.slotsUsed + (mq_out cA N T.heap.size 0).slots.size = _
    rw [mq_out_size, Nat.zero_mul]
    rfl
  | i + 1 => by
    show (mq_st T cA cI N K v i).slotsUsed + (Array.replicate K v).size = _
    rw [mq_used i, Array.size_replicate, Nat.add_mul, Nat.one_mul]
    omega
theorem mq_at : ∀ i : Nat, (mq_st T cA cI N K v i).heap[T.heap.size]? = some (mq_out cA N T.heap.size i)
  | 0 => State.heap_pushCell_size _ _
  | i + 1 => by
    have h := mq_size (T := T) (cA := cA) (cI := cI) (N := N) (K := K) (v := v) i
    refine State.heap_setCell_self (c := mq_out cA N T.heap.size i) ?_
    rw [State.heap_pushCell_of_lt _ _ (show T.heap.size < (mq_st T cA cI N K v i).heap.size by rw [h]; omega)]
    exact mq_at i
theorem mq_old : ∀ (i a : Nat), a < T.heap.size → (mq_st T cA cI N K v i).heap[a]? = T.heap[a]?
  | 0, _, ha => State.heap_pushCell_of_lt _ _ ha
  | i + 1, a, ha => by
    have h := mq_size (T := T) (cA := cA) (cI := cI) (N := N) (K := K) (v := v) i
    show (((mq_st T cA cI N K v i).pushCell (mq_in cI K v)).setCell T.heap.size (mq_out cA N T.heap.size (i + 1))).heap[a]? = _
    rw [State.heap_setCell_other (show T.heap.size ≠ a by omega), State.heap_pushCell_of_lt _ _ (show a < (mq_st T cA cI N K v i).heap.size by rw [h]; omega)]
    exact mq_old i a ha
theorem mq_new : ∀ i j : Nat, j < i → (mq_st T cA cI N K v i).heap[T.heap.size + 1 + j]? = some (mq_in cI K v)
  | 0, j, h => absurd h (Nat.not_lt_zero j)
  | i + 1, j, h => by
    have hs := mq_size (T := T) (cA := cA) (cI := cI) (N := N) (K := K) (v := v) i
    show (((mq_st T cA cI N K v i).pushCell (mq_in cI K v)).setCell T.heap.size (mq_out cA N T.heap.size (i + 1))).heap[T.heap.size + 1 + j]? = _
    rw [State.heap_setCell_other (show T.heap.size ≠ T.heap.size + 1 + j by omega)]
    by_cases e : j = i
    · subst e
      rw [← hs]
      exact State.heap_pushCell_size _ _
    · rw [State.heap_pushCell_of_lt _ _ (show T.heap.size + 1 + j < (mq_st T cA cI N K v i).heap.size by rw [hs]; omega)]
      exact mq_new i j (by omega)
theorem mq_top (f : JFrame) : ∀ i : Nat, mq_st (T.setTop f) cA cI N K v i = (mq_st T cA cI N K v i).setTop f
  | 0 => rfl
  | i + 1 => by
    show ((mq_st (T.setTop f) cA cI N K v i).pushCell (mq_in cI K v)).setCell T.heap.size (mq_out cA N T.heap.size (i + 1)) = _
    rw [mq_top f i]
    rfl
end MQ
/-- the array class over T[] names T[] itself -/
theorem mq_over {a : Array Value} {s : State} {t : FieldType} (h : (Cond.arrayOver (.array t)).before a s = true) :
    ∃ (cI cA : ClassId) (k : Class), s.vm.findClass (FieldType.array t).toString = some cI ∧ s.vm.findClass ("[" ++ (FieldType.array t).toString) = some cA ∧ s.vm.classes[cA]? = some k ∧ k.kind = .array cI (.array t) := by
  have h1 : (Cond.arrayOver (.array t)).value a s none s [] = some true := eq_of_beq h
  simp only [Cond.value, Option.bind_eq_some_iff, Option.map_eq_some_iff] at h1
  obtain ⟨cI, h2, cA, h3, k, h4, h5⟩ := h1
  obtain ⟨h6, h7, -⟩ := Array.findIdx?_eq_some_iff_getElem.mp h3
  rw [Array.getElem?_eq_getElem h6, Option.some.injEq] at h4
  rw [h4] at h7
  refine ⟨cI, cA, k, h2, ?_, by rw [Array.getElem?_eq_getElem h6, h4], ?_⟩
  · cases hq : k.kind with
    | array q ty =>
      rw [hq] at h5
      simp only [Bool.and_eq_true, decide_eq_true_eq] at h5
      exact h5.2
    | _ => rw [hq] at h5; cases h5
  · cases hq : k.kind with
    | array q ty =>
      rw [hq] at h5 h7
      simp only [Bool.and_eq_true, decide_eq_true_eq, beq_iff_eq] at h5 h7
      rw [h7, h5.1]
    | _ => rw [hq] at h5; cases h5
section MW
variable {T : State} {cA cI ci : ClassId} {kA kI : Class} {ty : FieldType} {n k : Int32} {E : CtlPost} {e : Env} {d : Bool} {acts : List Action}
/-- a row: the inner array -/
theorem mq_row (hkI : T.vm.classes[cI]? = some kI) (hI : kI.kind = .array ci ty) (hk : ¬ k < 0) (hl : ¬ k.toNatClampNeg > e.platform.arrayLengthLimit) (hh : ¬ k.toNatClampNeg * componentBytes ty > e.platform.maxHeapBytes) (hc : T.heap.size < e.platform.maxCells) (hs : T.slotsUsed + k.toNatClampNeg ≤ e.platform.maxSlots) {Q : Addr → Pre}
    (hq : ∀ acts', Q T.heap.size d acts' (T.pushCell (mq_in cI k.toNatClampNeg (defaultValue ty)))) : wp (Op.multianewarray.make cI [k]) Q E e d acts T := by
  unfold Op.multianewarray.make
  simp only [wp_bind', W.ite, hk, if_false, ↓reduceIte, wp_pure', W.theClass, hkI, Option.some.injEq, exists_eq_left', hI]
  exact W.newArray_of hkI hI hl hh hc hs (fits_default ty) hq
/-- both dimensions -/
theorem mq_make (hkA : T.vm.classes[cA]? = some kA) (hA : kA.kind = .array cI (.array ty)) (hkI : T.vm.classes[cI]? = some kI) (hI : kI.kind = .array ci ty) (hn : ¬ n < 0) (hk : ¬ k < 0) (hl1 : ¬ n.toNatClampNeg > e.platform.arrayLengthLimit) (hh1 : ¬ n.toNatClampNeg * componentBytes (.array ty) > e.platform.maxHeapBytes) (hl : ¬ k.toNatClampNeg > e.platform.arrayLengthLimit) (hh : ¬ k.toNatClampNeg * componentBytes ty > e.platform.maxHeapBytes)
    (hc : T.heap.size + (1 + n.toNatClampNeg) ≤ e.platform.maxCells) (hs : T.slotsUsed + (n.toNatClampNeg + n.toNatClampNeg * k.toNatClampNeg) ≤ e.platform.maxSlots) {Q : Addr → Pre}
    (hq : ∀ d' acts', Q T.heap.size d' acts' (mq_st T cA cI n.toNatClampNeg k.toNatClampNeg (defaultValue ty) n.toNatClampNeg)) : wp (Op.multianewarray.make cA [n, k]) Q E e d acts T := by
  have hf : List.find? (fun x : Int32 => decide (x < 0)) [k] = none := by simp [hk]
  unfold Op.multianewarray.make
  simp only [wp_bind', W.ite, hn, if_false, ↓reduceIte, wp_pure', W.theClass, hkA, Option.some.injEq, exists_eq_left', hA, hf, ite_self]
  refine W.newArray_of hkA hA hl1 hh1 (by omega) (by omega) rfl (fun acts1 => ?_)
  rw [mq_out_new cA n.toNatClampNeg T.heap.size, wp_bind', Std.Legacy.Range.forIn_eq_forIn_range']
  refine wp_forIn_inv (fun l S => ∃ i, i ≤ n.toNatClampNeg ∧ l = List.range' i (n.toNatClampNeg - i) ∧ S = mq_st T cA cI n.toNatClampNeg k.toNatClampNeg (defaultValue ty) i) _ _ ⟨0, Nat.zero_le _, by simp [Std.Legacy.Range.size], rfl⟩ (fun x l S d1 acts2 Q1 hI1 hQ1 => ?_) (fun S d1 acts2 hE => ?_)
  · obtain ⟨i, hi, hl2, rfl⟩ := hI1
    obtain ⟨j, hj⟩ : ∃ j, n.toNatClampNeg - i = j + 1 := by
      cases hj : n.toNatClampNeg - i with
      | zero => rw [hj] at hl2; cases hl2
      | succ j => exact ⟨j, rfl⟩
    rw [hj, List.range'_succ] at hl2
    obtain ⟨hx, hr⟩ := List.cons.inj hl2
    rw [hx]
    subst hr
    have hz := mq_size (T := T) (cA := cA) (cI := cI) (N := n.toNatClampNeg) (K := k.toNatClampNeg) (v := defaultValue ty) i
    have hu := mq_used (T := T) (cA := cA) (cI := cI) (N := n.toNatClampNeg) (K := k.toNatClampNeg) (v := defaultValue ty) i
    have hlt : i < n.toNatClampNeg := by omega
    have hm : i * k.toNatClampNeg + k.toNatClampNeg ≤ n.toNatClampNeg * k.toNatClampNeg := by
      have := Nat.mul_le_mul_right k.toNatClampNeg hlt
      rwa [Nat.succ_mul] at this
    simp only [wp_bind']
    refine mq_row (by rw [mq_vm]; exact hkI) hI hk hl hh (by rw [hz]; omega) (by rw [hu]; omega) (fun acts3 => ?_)
    rw [hz]
    show wp (Jvm.writeLoc T.heap.size i (.ref (T.heap.size + 1 + i)) >>= fun _ => Pure.pure (ForInStep.yield PUnit.unit)) Q1 E e d1 acts3 _
    simp only [wp_bind', W.writeLoc, wp_pure']
    refine ⟨mq_out cA n.toNatClampNeg T.heap.size i, ?_, (fun q => by cases q), by rw [mq_out_size]; exact hlt, ?_, hQ1 _ _ _ ⟨i + 1, hlt, ?_, ?_⟩⟩
    · rw [State.heap_pushCell_of_lt _ _ (show T.heap.size < (mq_st T cA cI n.toNatClampNeg k.toNatClampNeg (defaultValue ty) i).heap.size by rw [hz]; omega)]
      exact mq_at i
    · show (mq_st T cA cI n.toNatClampNeg k.toNatClampNeg (defaultValue ty) i).fitsSlot cA .none i _ = true
      simp only [State.fitsSlot, State.slotType?, mq_vm, hkA, hA, Option.bind_eq_bind, Option.bind_some]
      rfl
    · rw [show n.toNatClampNeg - (i + 1) = j by omega]
    · rw [mq_out_next]
      rfl
  · obtain ⟨i, hi, hl2, rfl⟩ := hE
    have h0 : n.toNatClampNeg - i = 0 := by
      cases hj : n.toNatClampNeg - i with
      | zero => rfl
      | succ j => rw [hj] at hl2; cases hl2
    rw [show i = n.toNatClampNeg by omega]
    exact hq _ _
/-- the opcode -/
theorem mq_sem {g : JFrame} {index : Nat} {vm1 : Vm} {rest : List Value} (ht : T.topJava?.isSome) (hg : (Jvm.resolveClass g.method.cls index).Gives e.toSetting T.vm (.ok cA) vm1) (hz : vm1.classes.size ≤ T.vm.classes.size) (hst : g.stack = .int k :: .int n :: rest)
    (hkA : vm1.classes[cA]? = some kA) (hA : kA.kind = .array cI (.array ty)) (hkI : vm1.classes[cI]? = some kI) (hI : kI.kind = .array ci ty) (hn : ¬ n < 0) (hk : ¬ k < 0) (hl1 : ¬ n.toNatClampNeg > e.platform.arrayLengthLimit) (hh1 : ¬ n.toNatClampNeg * componentBytes (.array ty) > e.platform.maxHeapBytes) (hl : ¬ k.toNatClampNeg > e.platform.arrayLengthLimit) (hh : ¬ k.toNatClampNeg * componentBytes ty > e.platform.maxHeapBytes)
    (hc : T.heap.size + (1 + n.toNatClampNeg) ≤ e.platform.maxCells) (hs : T.slotsUsed + (n.toNatClampNeg + n.toNatClampNeg * k.toNatClampNeg) ≤ e.platform.maxSlots) {Q : Unit → Pre}
    (hq : ∀ acts', Q () true acts' ((mq_st (T.setVm vm1) cA cI n.toNatClampNeg k.toNatClampNeg (defaultValue ty) n.toNatClampNeg).setTop { g with stack := .ref T.heap.size :: rest })) : wp (Op.multianewarray.sem index 2) Q E e d acts (T.setTop g) := by
  unfold Op.multianewarray.sem
  rw [wp_bind', W.resolveClassAt_links (State.method?_setTop g ht) hg hz, State.setVm_setTop, wp_bind', show (2 : Nat) = [Value.int n, Value.int k].length from rfl, Op.popN_top (show (T.setVm vm1).topJava?.isSome from ht) hst]
  simp only [wp_bind', List.mapM_cons, List.mapM_nil, wp_pure']
  refine mq_make (T := (T.setVm vm1).setTop { g with stack := rest }) hkA hA hkI hI hn hk hl1 hh1 hl hh hc hs (fun d1 acts1 => ?_)
  rw [mq_top]
  have ht2 : (mq_st (T.setVm vm1) cA cI n.toNatClampNeg k.toNatClampNeg (defaultValue ty) n.toNatClampNeg).topJava?.isSome := by rw [mq_java]; exact ht
  show wp (Jvm.mark "op.multianewarray" >>= fun _ => Jvm.pushRef T.heap.size) Q E e d1 acts1 _
  simp only [wp_bind', W.mark, W.pushRef, State.topJava?_setTop' _ ht2, Option.some.injEq, exists_eq_left', State.setTop_setTop]
  exact hq _
end MW
section MS
variable {p : Program} {l : Launch} {e : Env} {R : Room} {s : State} {m : MethodId} {args : Array Value} {below : List Frame} {meth : Method} {c : Code} {T : State} {locs : List Loc} {cells slots : Nat}
theorem mq_stand {cA cI : ClassId} {N K : Nat} {v : Value} (X : Stand p l e R s m args below meth c T locs cells slots) : ∀ i : Nat, Stand p l e R s m args below meth c (mq_st T cA cI N K v i) locs (cells + 1 + i) (slots + N + i * K)
  | 0 => by
    have h := X.pushed (mq_out cA N T.heap.size 0)
    rw [mq_out_size] at h
    rw [Nat.zero_mul]
    exact h
  | i + 1 => by
    have hz := mq_size (T := T) (cA := cA) (cI := cI) (N := N) (K := K) (v := v) i
    have h := (mq_stand (cA := cA) (cI := cI) (N := N) (K := K) (v := v) X i).pushed (mq_in cI K v)
    have h2 := h.stored (a := T.heap.size) (cell := mq_out cA N T.heap.size i) (by
      rw [State.heap_pushCell_of_lt _ _ (show T.heap.size < (mq_st T cA cI N K v i).heap.size by rw [hz]; omega)]
      exact mq_at i) i (.ref (T.heap.size + 1 + i))
    rw [mq_out_next] at h2
    have h3 := h2.dropFresh (fun x hx => by
      rw [List.mem_singleton] at hx
      subst hx
      exact X.heapGrown)
    have e1 : (mq_in cI K v).slots.size = K := Array.size_replicate
    rw [e1] at h3
    rw [show slots + N + (i + 1) * K = slots + N + i * K + K by rw [Nat.add_mul, Nat.one_mul]; omega]
    exact h3
/-- the opcode where the walk stands -/
theorem mq_walk (X : Stand p l e R s m args below meth c T locs cells slots) (hexec : p.tables.exec = Jvm.exec) {own : String} {index : Nat} {ty : FieldType} (hown : s.vm.findClass own = some m.cls) (hlink : (Cond.classLink own index ("[" ++ (FieldType.array ty).toString)).before args s = true) (hover : (Cond.arrayOver (.array ty)).before args s = true) (harr : (Cond.arrayClass ty).before args s = true)
    {g : JFrame} (hg : g.method = m) (hd : decode c.code g.pc = .ok (.multianewarray index 2, 4)) {n k : Int32} {rest : List Value} (hst : g.stack = .int k :: .int n :: rest) (hn : ¬ n < 0) (hk : ¬ k < 0) (hb1 : n.toNatClampNeg * 4 ≤ 536870912) (hb2 : k.toNatClampNeg * componentBytes ty ≤ 536870912) (hb3 : k.toNatClampNeg ≤ 536870912) (hcells : cells + (1 + n.toNatClampNeg) ≤ R.cells) (hslots : slots + (n.toNatClampNeg + n.toNatClampNeg * k.toNatClampNeg) ≤ R.slots) :
    ∃ (vm1 : Vm) (cA cI : ClassId) (kA : Class), s.vm.findClass ("[" ++ (FieldType.array ty).toString) = some cA ∧ s.vm.findClass (FieldType.array ty).toString = some cI ∧ s.vm.classes[cA]? = some kA ∧ kA.kind = .array cI (.array ty) ∧
      Stand p l e R s m args below meth c (mq_st (T.setVm vm1) cA cI n.toNatClampNeg k.toNatClampNeg (defaultValue ty) n.toNatClampNeg) locs (cells + 1 + n.toNatClampNeg) (slots + n.toNatClampNeg + n.toNatClampNeg * k.toNatClampNeg) ∧
      ∀ target, Steps p.tables e below ((mq_st (T.setVm vm1) cA cI n.toNatClampNeg k.toNatClampNeg (defaultValue ty) n.toNatClampNeg).setTop { g with pc := g.pc + 4, stack := .ref T.heap.size :: rest }) target → Steps p.tables e below (T.setTop g) target := by
  subst hg
  obtain ⟨cI, cA, kA, q1, q2, q3, q4⟩ := mq_over hover
  obtain ⟨cI2, kI, ci, q5, q6, q7⟩ := Cond.arrayClass_spec harr
  cases q1.symm.trans q5
  obtain ⟨cA2, q8, q9⟩ := Cond.classLink_spec hown hlink e.platform (by rw [X.admits.platform])
  cases q2.symm.trans q8
  obtain ⟨r1, r2, -⟩ := State.classEntry (e := e) X.warmed q9
  generalize T.vm.noted g.method.cls index (.cls cA) = vm1 at r1 r2
  obtain ⟨kA1, a1, a2⟩ := r2.alike.2.2 _ _ q3
  obtain ⟨kI1, b1, b2⟩ := r2.alike.2.2 _ _ q6
  have hz : vm1.classes.size ≤ T.vm.classes.size := (X.warmed.alike.symm.trans r2.alike).size_le
  obtain ⟨m1, m2⟩ := X.roomAbove hcells hslots
  refine ⟨vm1, cA, cI, kA, q2, q1, q3, q4, mq_stand (X.noted r2) _, fun target ht => ?_⟩
  refine Steps.instr (c := _) (by simpa using X.here) ?_
  simp [jvm, wpRun, exec, X.here.top, hexec, hd]
  refine mq_sem X.here.top r1 hz hst a1 (by rw [a2]; exact q4) b1 (by rw [b2]; exact q7) hn hk ?_ ?_ ?_ ?_ m1 m2 (fun acts1 acts2 => ?_)
  · rw [Launch.admits_arrayLengthLimit X.admits]; omega
  · rw [Launch.admits_maxHeapBytes X.admits]
    show ¬ n.toNatClampNeg * 4 > 536870912
    omega
  · rw [Launch.admits_arrayLengthLimit X.admits]; omega
  · rw [Launch.admits_maxHeapBytes X.admits]; omega
  have ht2 : (mq_st (T.setVm vm1) cA cI n.toNatClampNeg k.toNatClampNeg (defaultValue ty) n.toNatClampNeg).topJava?.isSome := by rw [mq_java]; exact X.here.top
  simp [jvm, afterInstr, ht2]
  rw [State.modifyTopJava_setTop]
  exact ht
end MS
