/-! THE CLAIM OUT OF ONE WALK OF THE LAW'S BODY. Your part is whole_start (and what it stands on); all else here is the same for every law, but numbers. -/
def R_law : String := "FoldedBoardLaw"
def lw_P (b : Addr) (xs : List Int32) (args : Array Value) (s : State) : Prop := args = #[.ref b] ∧ s.IntsAt b xs ∧ xs.length ≤ 2560 ∧ (Jvm.Cond.and given_1 narrow_1).before args s = true
def lw_Q (_ : Array Value) (s : State) (o : Outcome) (t : State) : Prop := o = .returned (some (.int 1)) ∧ Framed s o t [] 600000 7302250
def lw_Z (below : List Frame) (a : Array Value) (s : State) : State → Prop := fun t => ∃ o, t.status = .running ∧ Ended t below o ∧ lw_Q a s o t
/-- the law's own end, with 1 on the stack, nothing written that was there before, its room as the claim has it -/
theorem lw_ret {p : Program} {l : Launch} {e : Env} {s : State} {m : MethodId} {below : List Frame} {meth : Method} {c : Code} {b : Nat} (hx : p.tables.exec = Jvm.exec) (hb : c.code = code) (hr : meth.sig.returnType = ret) (hlocks : meth.locks = false) {pc : Nat} {H : Heap} {ls : Array Slot} (hdg : decode code pc = .ok (.ireturn, 1)) : W p l e room_1 s m #[Value.ref b] below meth c H [] 600000 7302250 (lw_Z below #[Value.ref b] s) (F0 m pc ls [.int 1]) := by
  intro T hT X
  obtain ⟨fs, hret, hrun, hended, hW, hframe⟩ := X.leave (v := some (.int 1)) (hlocks := hlocks) (fun h => by rw [hr] at h; cases h)
  have hmeth' : T.vm.method? m = some meth := X.method'
  refine ⟨T.setFrames fs, ?_, .returned (some (.int 1)), hrun, hended, rfl, ⟨_, rfl⟩, hW, hframe⟩
  jvm_step X.here [X.here.top, hx, hb, hdg, hmeth', hr, ret, narrow_b1]
  (try refine ⟨rfl, ?_⟩); (try refine ⟨rfl, ?_⟩)
  first | (intro acts; rw [hret _ acts rfl rfl rfl]) | rw [hret _ _ rfl rfl rfl]
  exact Steps.refl _
/-- what holds at the law's entry: the machine, the code, the tables' words (any of lw_tbl by 'hts w (by decide +kernel)'), the script of L ints xs at the cell b, what the Statement gives of the start (any of its parts by flat_of_before) -/
def lw_At (p : Program) (s : State) (m : MethodId) (meth : Method) (c : Code) (b L : Nat) (xs : Nat → Int32) : Prop :=
  p.tables.exec = Jvm.exec ∧ c.code = code ∧ meth.sig.returnType = ret ∧ c.maxLocals = 4 ∧ s.vm.findClass R_law = some m.cls ∧ (∀ w ∈ lw_tbl, w.before #[Value.ref b] s = true) ∧ va_X b L xs s s.heap ∧ b < s.heap.size ∧ meth.locks = false ∧ (Jvm.Cond.and given_1 narrow_1).before #[Value.ref b] s = true
theorem k_arr {s : State} {args : Array Value} {ty : FieldType} (h : (Cond.arrayClass ty).before args s = true) (hno : ∀ C, ty ≠ .object C) : ∃ cA, ArrOfT s cA ty ∧ va_RA s cA ty := by
  obtain ⟨c, k, comp, h1, h2, h3⟩ := Cond.arrayClass_spec h
  refine ⟨c, fun n z => ⟨fun k h => (by cases h), k, h2, comp, h3⟩, ?_⟩
  cases ty <;> first | exact h1 | exact absurd rfl (hno _)
theorem k_obj {s : State} {args : Array Value} {C : String} (h : (Cond.arrayOver (.object C)).before args s = true) : ∃ cA, ArrOfT s cA (.object C) ∧ va_RA s cA (.object C) := by
  obtain ⟨comp, c, k, h1, h2, h3, h4, h5⟩ := Cond.arrayOver_spec h
  exact ⟨c, fun n z => ⟨fun k h => (by cases h), k, h3, comp, h4⟩, k, comp, h3, h4, h1, h5⟩
theorem k_row {s : State} {args : Array Value} {t : FieldType} (h : (Cond.arrayOver (.array t)).before args s = true) : ∃ cA, ArrOfT s cA (.array t) ∧ va_RA s cA (.array t) := by
  obtain ⟨comp, c, k, h1, h5, h3, h4⟩ := mq_over h
  exact ⟨c, fun n z => ⟨fun k h => (by cases h), k, h3, comp, h4⟩, h5⟩
theorem insA (k : Nat) (q : vw_C) (hq : vwCl[k]? = some q) : Cond.instantiable q.1 q.2.2 ∈ gw := by
  match k, hq with
  | 0, hq => cases hq; exact ins0
  | 1, hq => cases hq; exact ins1
  | 2, hq => cases hq; exact ins2
  | 3, hq => cases hq; exact ins3
  | 4, hq => cases hq; exact ins4
  | 5, hq => cases hq; exact ins5
  | 6, hq => cases hq; exact ins6
  | 7, hq => cases hq; exact ins7
  | 8, hq => cases hq; exact ins8
  | 9, hq => cases hq; exact ins9
  | n + 10, hq => simp [vwCl] at hq
theorem law_K {s : State} {args : Array Value} (ht : ∀ w ∈ gw, w.before args s = true) (hn : ∀ w ∈ nw, w.before args s = true) : ∃ (D : va_G) (cy : Nat → ClassId), va_K D vwCl (tysC cy) s := by
  have all : ∀ k : Nat, ∃ p : ClassId × (Nat → Nat), ∀ q, vwCl[k]? = some q → u_Kn s q.1 q.2.1 q.2.2 p.1 p.2 := by
    intro k
    cases hq : vwCl[k]? with
    | none => exact ⟨(0, fun _ => 0), fun q h => by cases h⟩
    | some q =>
      obtain ⟨c, iS, h⟩ := u_known (C := q.1) (T := q.2.1) (N := q.2.2) (n := q.2.2) ht (inG k q hq) (ht _ (insA k q hq))
      exact ⟨(c, iS), fun q2 h2 => by cases h2; exact h⟩
  obtain ⟨f, hf⟩ := Classical.axiomOfChoice all
  obtain ⟨c0, h0⟩ := k_arr (ht _ arr_int) (fun C h => by cases h)
  obtain ⟨c1, h1⟩ := k_arr (ht _ arr_boolean) (fun C h => by cases h)
  obtain ⟨c2, h2⟩ := k_obj (hn _ ov_2)
  obtain ⟨c3, h3⟩ := k_obj (hn _ ov_3)
  obtain ⟨c4, h4⟩ := k_row (hn _ ov_I)
  refine ⟨(fun k => (f k).1, fun k => (f k).2), fun t => match t with | 0 => c0 | 1 => c1 | 2 => c2 | 3 => c3 | _ => c4, fun k q hq => hf k q hq, fun k q hq => ?_⟩
  match k, hq with
  | 0, hq => cases hq; exact h0
  | 1, hq => cases hq; exact h1
  | 2, hq => cases hq; exact h2
  | 3, hq => cases hq; exact h3
  | 4, hq => cases hq; exact h4
  | n + 5, hq => simp [tysC] at hq
def adL (tX tY tf b : Nat) (adK adV : Nat → Nat) : Nat → Nat := fun k => if k = 1000 then tX else if k = 1001 then tY else if k = 1006 then b else if k = 1007 then tf else if k < 1004 then adK (k - 1002) else adV (k - 1004)
theorem law_env {s : State} {args : Array Value} {b L : Nat} {xs : Nat → Int32} (hl : ∀ w ∈ lw_tbl, w.before args s = true) (hn : ∀ w ∈ nw, va_Nw w s) (hg : (Jvm.Cond.and given_1 narrow_1).before args s = true) (hX : va_X b L xs s s.heap) (hbl : b < s.heap.size) : ∃ ad0 : Nat → Nat, ad0 1006 = b ∧ envS (L, xs) ad0 (fun q : Nat => s.heap.size ≤ q) s := by
  have hs := flat_of_before _ hg
  have hA : ∀ a : Nat, a < s.heap.size → ¬ (fun q : Nat => s.heap.size ≤ q) a := fun a h => Nat.not_le.mpr h
  obtain ⟨tX, xX, yX⟩ := va_Tof (args := args) (s := s) (tm := (.static "FoldedBoard" "WAY_X" "[I")) (ty := .int) (N := 4) (f := fun j => .int (wXf j)) (A := fun q : Nat => s.heap.size ≤ q) (by decide) (hs (.arrayOf (.static "FoldedBoard" "WAY_X" "[I") .int) (by decide +kernel)) (va_eqt (hs (.eq (.length (.static "FoldedBoard" "WAY_X" "[I")) (.int 4)) (by decide +kernel))) (fun j hj => by
    match j, hj with
    | 0, _ => exact va_eqt (z := (0)) (hs (.eq (.elem (.static "FoldedBoard" "WAY_X" "[I") (.int 0)) (.int (0))) (by decide +kernel))
    | 1, _ => exact va_eqt (z := (1)) (hs (.eq (.elem (.static "FoldedBoard" "WAY_X" "[I") (.int 1)) (.int (1))) (by decide +kernel))
    | 2, _ => exact va_eqt (z := (0)) (hs (.eq (.elem (.static "FoldedBoard" "WAY_X" "[I") (.int 2)) (.int (0))) (by decide +kernel))
    | 3, _ => exact va_eqt (z := (-1)) (hs (.eq (.elem (.static "FoldedBoard" "WAY_X" "[I") (.int 3)) (.int (-1))) (by decide +kernel))) hA
  have zX := va_Zref (A := fun q : Nat => s.heap.size ≤ q) (hl (.laysStatic "FoldedBoard" "WAY_X" "[I") (by decide +kernel)) (hl (.initialized "FoldedBoard") (by decide +kernel)) xX hA
  obtain ⟨tY, xY, yY⟩ := va_Tof (args := args) (s := s) (tm := (.static "FoldedBoard" "WAY_Y" "[I")) (ty := .int) (N := 4) (f := fun j => .int (wYf j)) (A := fun q : Nat => s.heap.size ≤ q) (by decide) (hs (.arrayOf (.static "FoldedBoard" "WAY_Y" "[I") .int) (by decide +kernel)) (va_eqt (hs (.eq (.length (.static "FoldedBoard" "WAY_Y" "[I")) (.int 4)) (by decide +kernel))) (fun j hj => by
    match j, hj with
    | 0, _ => exact va_eqt (z := (-1)) (hs (.eq (.elem (.static "FoldedBoard" "WAY_Y" "[I") (.int 0)) (.int (-1))) (by decide +kernel))
    | 1, _ => exact va_eqt (z := (0)) (hs (.eq (.elem (.static "FoldedBoard" "WAY_Y" "[I") (.int 1)) (.int (0))) (by decide +kernel))
    | 2, _ => exact va_eqt (z := (1)) (hs (.eq (.elem (.static "FoldedBoard" "WAY_Y" "[I") (.int 2)) (.int (1))) (by decide +kernel))
    | 3, _ => exact va_eqt (z := (0)) (hs (.eq (.elem (.static "FoldedBoard" "WAY_Y" "[I") (.int 3)) (.int (0))) (by decide +kernel))) hA
  have zY := va_Zref (A := fun q : Nat => s.heap.size ≤ q) (hl (.laysStatic "FoldedBoard" "WAY_Y" "[I") (by decide +kernel)) (hl (.initialized "FoldedBoard") (by decide +kernel)) xY hA
  have zc := va_Zof (A := fun q : Nat => s.heap.size ≤ q) (hl (.laysStatic "java/lang/String" "COMPACT_STRINGS" "Z") (by decide +kernel)) (hl (.initialized "java/lang/String") (by decide +kernel)) (va_eqt (hs (.eq (.static "java/lang/String" "COMPACT_STRINGS" "Z") (.int 1)) (by decide +kernel))) hA
  obtain ⟨adK, adV, hSt, hev⟩ := vk_Sof (args := args) (s := s) (N := 2) (tm := fun i => .string "FoldedBoard$Tale" (match i with | 0 => 62 | _ => 68)) (len := [4, 4]) (byt := [[115, 116, 101, 112], [102, 111, 108, 100]]) (A := fun q : Nat => s.heap.size ≤ q) (fun i hi => by
    match i, hi with
    | 0, _ => decide
    | 1, _ => decide) (fun i hi => by
    match i, hi with
    | 0, _ => exact hs (.exactly (.string "FoldedBoard$Tale" 62) "java/lang/String") (by decide +kernel)
    | 1, _ => exact hs (.exactly (.string "FoldedBoard$Tale" 68) "java/lang/String") (by decide +kernel)) (fun i hi => by
    match i, hi with
    | 0, _ => exact hs (.eq (.field (.string "FoldedBoard$Tale" 62) "java/lang/String" "coder" "B") (.int 0)) (by decide +kernel)
    | 1, _ => exact hs (.eq (.field (.string "FoldedBoard$Tale" 68) "java/lang/String" "coder" "B") (.int 0)) (by decide +kernel)) (fun i hi => by
    match i, hi with
    | 0, _ => exact hs (.arrayOf (.field (.string "FoldedBoard$Tale" 62) "java/lang/String" "value" "[B") .byte) (by decide +kernel)
    | 1, _ => exact hs (.arrayOf (.field (.string "FoldedBoard$Tale" 68) "java/lang/String" "value" "[B") .byte) (by decide +kernel)) (fun i hi => by
    match i, hi with
    | 0, _ => exact hs (.eq (.length (.field (.string "FoldedBoard$Tale" 62) "java/lang/String" "value" "[B")) (.int 4)) (by decide +kernel)
    | 1, _ => exact hs (.eq (.length (.field (.string "FoldedBoard$Tale" 68) "java/lang/String" "value" "[B")) (.int 4)) (by decide +kernel)) (fun i hi j hj => by
    match i, hi, hj with
    | 0, _, hj =>
      match j, hj with
      | 0, _ => exact hs (.eq (.elem (.field (.string "FoldedBoard$Tale" 62) "java/lang/String" "value" "[B") (.int 0)) (.int 115)) (by decide +kernel)
      | 1, _ => exact hs (.eq (.elem (.field (.string "FoldedBoard$Tale" 62) "java/lang/String" "value" "[B") (.int 1)) (.int 116)) (by decide +kernel)
      | 2, _ => exact hs (.eq (.elem (.field (.string "FoldedBoard$Tale" 62) "java/lang/String" "value" "[B") (.int 2)) (.int 101)) (by decide +kernel)
      | 3, _ => exact hs (.eq (.elem (.field (.string "FoldedBoard$Tale" 62) "java/lang/String" "value" "[B") (.int 3)) (.int 112)) (by decide +kernel)
    | 1, _, hj =>
      match j, hj with
      | 0, _ => exact hs (.eq (.elem (.field (.string "FoldedBoard$Tale" 68) "java/lang/String" "value" "[B") (.int 0)) (.int 102)) (by decide +kernel)
      | 1, _ => exact hs (.eq (.elem (.field (.string "FoldedBoard$Tale" 68) "java/lang/String" "value" "[B") (.int 1)) (.int 111)) (by decide +kernel)
      | 2, _ => exact hs (.eq (.elem (.field (.string "FoldedBoard$Tale" 68) "java/lang/String" "value" "[B") (.int 2)) (.int 108)) (by decide +kernel)
      | 3, _ => exact hs (.eq (.elem (.field (.string "FoldedBoard$Tale" 68) "java/lang/String" "value" "[B") (.int 3)) (.int 100)) (by decide +kernel)) (fun i j hi hj hij => by
    match i, hi, j, hj, hij with
    | 0, _, 0, _, hij => exact absurd rfl hij
    | 1, _, 1, _, hij => exact absurd rfl hij
    | 0, _, 1, _, _ => exact Or.inl (hs (.not (.eq (.string "FoldedBoard$Tale" 62) (.string "FoldedBoard$Tale" 68))) (by decide +kernel))
    | 1, _, 0, _, _ => exact Or.inr (hs (.not (.eq (.string "FoldedBoard$Tale" 62) (.string "FoldedBoard$Tale" 68))) (by decide +kernel))) hA
  have hf : ∃ tf : Nat, va_Z "jdk/internal/util/Preconditions" "SIOOBE_FORMATTER" "Ljava/util/function/BiFunction;" .null (fun q : Nat => s.heap.size ≤ q) s s.heap ∨ va_Z "jdk/internal/util/Preconditions" "SIOOBE_FORMATTER" "Ljava/util/function/BiFunction;" (.ref tf) (fun q : Nat => s.heap.size ≤ q) s s.heap := by
    have hq := hs (.isRef (.static "jdk/internal/util/Preconditions" "SIOOBE_FORMATTER" "Ljava/util/function/BiFunction;")) (by decide +kernel)
    cases hv : (Term.static "jdk/internal/util/Preconditions" "SIOOBE_FORMATTER" "Ljava/util/function/BiFunction;").eval args s none [] s with
    | none => simp [Cond.before, Cond.holds, Cond.value, hv] at hq
    | some v =>
      have zf := va_Zof (A := fun q : Nat => s.heap.size ≤ q) (hl (.laysStatic "jdk/internal/util/Preconditions" "SIOOBE_FORMATTER" "Ljava/util/function/BiFunction;") (by decide +kernel)) (hl (.initialized "jdk/internal/util/Preconditions") (by decide +kernel)) hv hA
      cases v with
      | null => exact ⟨0, Or.inl zf⟩
      | ref t => exact ⟨t, Or.inr zf⟩
      | _ => simp [Cond.before, Cond.holds, Cond.value, hv] at hq
  obtain ⟨tf, hf⟩ := hf
  have aK : ∀ i, i < 2 → adL tX tY tf b adK adV (1002 + i) = adK i := fun i hi => by
    unfold adL
    rw [if_neg (by omega), if_neg (by omega), if_neg (by omega), if_neg (by omega), if_pos (by omega), Nat.add_sub_cancel_left]
  have aV : ∀ i, i < 2 → adL tX tY tf b adK adV (1004 + i) = adV i := fun i hi => by
    unfold adL
    rw [if_neg (by omega), if_neg (by omega), if_neg (by omega), if_neg (by omega), if_neg (by omega), Nat.add_sub_cancel_left]
  refine ⟨adL tX tY tf b adK adV, rfl, hn, ⟨zX, yX⟩, ⟨zY, yY⟩, ⟨⟨fun i hi => ?_, fun i j hi hj h => ?_⟩, ?_, ?_⟩, ⟨hX, hbl, hA b hbl⟩, zc, hf⟩
  · have := hSt.1 i hi
    dsimp only
    rw [aK i hi, aV i hi]
    exact this
  · dsimp only at h
    rw [aK i hi, aK j hj] at h
    exact hSt.2 i j hi hj h
  · exact vk_R.of (hl (.stringRef "FoldedBoard$Tale" 62 "step") (by decide +kernel)) (by rw [show adL tX tY tf b adK adV 1002 = adK 0 from aK 0 (by decide)]; exact hev 0 (by decide))
  · exact vk_R.of (hl (.stringRef "FoldedBoard$Tale" 68 "fold") (by decide +kernel)) (by rw [show adL tX tY tf b adK adV 1003 = adK 1 from aK 1 (by decide)]; exact hev 1 (by decide))
theorem whole_start {p : Program} {e : Env} {s : State} {m : MethodId} {below : List Frame} {meth : Method} {c : Code} (l : Launch) {b L : Nat} {xs : Nat → Int32} (hL : L ≤ 2560) (C0 : lw_At p s m meth c b L xs) : W p l e room_1 s m #[Value.ref b] below meth c s.heap [] 0 0 (lw_Z below #[Value.ref b] s) (entryFrame m ([Value.ref b] : List Value).toArray 4) := by
  obtain ⟨hx, hb, hr, hml, hown, hts, hX, hbl, hlocks, hgv⟩ := id C0
  have ht : ∀ w ∈ gw, w.before #[Value.ref b] s = true := fun w hw => hts w (List.mem_filter.mp hw).1
  have hn : ∀ w ∈ nw, w.before #[Value.ref b] s = true := fun w hw => hts w (List.mem_filter.mp hw).1
  have hn2 : ∀ w ∈ nw, va_Nw w s := fun w hw => by
    have h1 := hn w hw
    have h2 : isNw w = true := (List.mem_filter.mp hw).2
    cases w with
    | arrayOver ty => exact h1
    | fieldLinkNest a b c d e f => exact va_tabs rfl rfl h1
    | methodLinkNest a b c d => exact va_tabs rfl rfl h1
    | _ => cases h2
  obtain ⟨D, cy, hK⟩ := law_K ht hn
  obtain ⟨ad0, h6, hE⟩ := law_env (L := L) (xs := xs) hts hn2 hgv hX hbl
  have hl := lv_entry ([.ref b]) (n := 4) (Nat.le_of_ble_eq_true rfl)
  rw [lg_entry_eq]
  generalize (lg_sl ([.ref b]) ++ List.replicate (4 - (lg_sl ([.ref b])).length) Slot.unset).toArray = ls at hl ⊢
  have hl2 : lzH ad0 ls 4 [some (.ref 1006), none, none, none] := ⟨hl.1, hl.2.1, fun i v hi => by
    match i, hi with
    | 0, hi => cases hi; show ls[0]? = some (.val (.ref (ad0 1006))); rw [h6]; exact hl.2.2 (0, .ref b) List.mem_cons_self
    | 1, hi => cases hi
    | 2, hi => cases hi
    | 3, hi => cases hi
    | n + 4, hi => simp at hi⟩
  refine law_good (L, xs) hL p l e room_1 s m #[Value.ref b] below meth c D cy ad0 (fun q : Nat => s.heap.size ≤ q) _ ⟨hx, hb, hml, hown, ht, hK, fun _ h => h, hE, ⟨Nat.le_of_ble_eq_true rfl, Nat.le_of_ble_eq_true rfl, Nat.le_of_ble_eq_true rfl, Nat.le_of_ble_eq_true rfl⟩, ?_, fun h => ?_⟩ s.heap [] ls ad0 ⟨fun _ _ => rfl, fun _ => rfl⟩ (Nat.le_refl _) (Nat.zero_le _) (fun k q h => by simp [lay] at h) ⟨fun i j p q h => by simp [lay] at h, fun k q h => by simp [lay] at h⟩ va_S.rf hl2
  · intro v w ad H locs ls2 pc kc ks hPv _ _ hkc hks _ _ hS hrt
    cases hPv
    obtain ⟨⟨ty, _, _⟩, h3⟩ := hrt
    refine va_forget (fun q hq => hS.2.2 q hq) ?_
    refine W.widen (k := 600000) (n := 7302250) (by omega) (by omega) ?_
    exact lw_ret hx hb hr hlocks h3
  · exact absurd h (by decide)
set_option maxHeartbeats 4000000 in
theorem lw_walk (l : Launch) (b : Addr) (xs : List Int32) : MetFree l x (headSpec (Jvm.Cond.code x code maxLocals ret :: tables_1) room_1) (lw_P b xs) (fun _ _ _ _ _ => True) lw_Q := by
  refine MetFree.of_bodyS (code := code) (maxLocals := maxLocals) (ret := ret) (by decide) ?_ ?_
  · intro args s m h hn
    obtain ⟨meth, c, h1, h2, h3, h4, h5, h6, -, -⟩ := Cond.code_spec hn (atoms_spec (ws := Jvm.Cond.code x code maxLocals ret :: tables_1) h _ List.mem_cons_self)
    exact ⟨meth, c, h1, h2, h3, h4, h5, h6⟩
  · intro p e s m args below meth c s₁ B hml0 hP _
    obtain ⟨rfl, hx, hbd, hgv⟩ := hP
    obtain ⟨scr, harrAt, hlist, hof, hsmall⟩ := hx
    obtain ⟨hcb, hkn, -, -⟩ := State.arrayAt?_spec harrAt
    have hown : s.vm.findClass R_law = some m.cls := findClass_of_methodNamed B.named
    have hts0 : ∀ c ∈ (Jvm.Cond.code x code maxLocals ret :: tables_1), c.before #[Value.ref b] s = true := atoms_spec (ws := Jvm.Cond.code x code maxLocals ret :: tables_1) B.pre
    have hts : ∀ w ∈ lw_tbl, w.before #[Value.ref b] s = true := k2_hts_sels lw_privs (fun w hw => hts0 w (List.mem_cons_of_mem _ hw)) lw_privs_ok
    have hml : c.maxLocals = 4 := B.maxLocals_eq (hts0 _ List.mem_cons_self)
    have X₀ : Stand p l e room_1 s m #[Value.ref b] below meth c s₁ [] 0 0 := Stand.of_body B
    have hh0 : s₁.heap = s.heap := by rw [B.state]; rfl
    have hsz : scr.slots.size = xs.length := by rw [← Array.length_toList, hlist, List.length_map]
    have hval : ∀ j : Nat, j < xs.length → scr.slots[j]? = some (.int (xs.getD j 0)) := fun j hj => by
      rw [← Array.getElem?_toList, hlist]
      simp [hj]
    have hbl : b < s.heap.size := (Array.getElem?_eq_some_iff.mp hcb).1
    have hX : va_X b xs.length (fun j => xs.getD j 0) s s.heap := ⟨scr, hcb, hof, hkn, hsz, hval⟩
    have K : W p l e room_1 s m #[Value.ref b] below meth c s₁.heap [] 0 0 (lw_Z below #[Value.ref b] s) (entryFrame m ([Value.ref b] : List Value).toArray 4) := by
      rw [hh0]
      exact whole_start l hbd ⟨B.exec, B.bytes, B.returns, hml, hown, hts, hX, hbl, B.notSynchronized, hgv⟩
    obtain ⟨t, a1, o, b1, b2, b3⟩ := K s₁ rfl X₀
    exact ⟨t, o, a1, b1, b2, b3⟩
theorem lw_pre_spec {args : Array Value} {s : State} (h : (Jvm.Cond.and given_1 narrow_1).before args s = true) (hr : rest_1_c.before args s = true) : ∃ (b : Addr) (xs : List Int32), lw_P b xs args s := by
  have hs := flat_of_before _ h
  have hq := flat_of_before _ hr
  have hc : (Cond.count 1).before args s = true := hs _ (by decide +kernel)
  have harr : (Cond.arrayOf (.arg 0) .int).before args s = true := hs _ (by decide +kernel)
  have hle : (Cond.le (.length (.arg 0)) (.int 2560)).before args s = true := hs _ (by decide +kernel)
  have hlen : (Cond.isInt (.length (.arg 0))).before args s = true := hq _ (by decide +kernel)
  have hall : (Cond.all (.arg 0) (.isInt (.elem (.arg 0) (.index 0)))).before args s = true := hq _ (by decide +kernel)
  obtain ⟨b, xs, hb, hx⟩ := State.ints_of_pre rfl harr hlen hall
  have hsm : xs.length < 2 ^ 31 := hx.choose_spec.2.2.2
  have hev : (Term.length (.arg 0)).eval args s none [] s = some (.int xs.length.toInt32) := hx.length_eval hb
  have hv := Cond.le_ints hev (show (Term.int 2560).eval args s none [] s = some (.int 2560) from rfl)
  have hd : xs.length.toInt32 ≤ 2560 := by
    simpa [Cond.before, Cond.holds, hv] using hle
  have hN : xs.length ≤ 2560 := (Int32.ofNat_le_ofNat hsm (by decide)).mp (show Int32.ofNat xs.length ≤ Int32.ofNat 2560 from hd)
  exact ⟨b, xs, Cond.one_arg hc (show args[0]? = some (.ref b) from hb), hx, hN, h⟩
theorem lw_comes (l : Launch) : Comes l x (Jvm.Cond.code x code maxLocals ret :: tables_1) room_1 (fun tb e args s => Calls_1 tb e args s ∧ rest_1 tb e args s ∧ Pre_1 tb e args s)
    (fun _ _ args s o t => lw_Q args s o t) := by
  intro p e ha hc hk s m args below hf hfit hheap happ hpre
  obtain ⟨b, xs, hP⟩ := lw_pre_spec hpre.2.2 hpre.2.1
  obtain ⟨k, o, h1, h2, h3, hQ⟩ := lw_walk l b xs p e ha hc hk s m args below hf ((Spec.applies_iff_loose hf).mp happ).1 hP trivial
  exact ⟨k, o, h1, h2, h3, hQ⟩
theorem lw_frame {s t : State} {o : Outcome} {args : Array Value} (h : Framed s o t [] 600000 7302250) :
    Framed s o t (fieldLocs frame_1_writes args s ++ arrayLocs frame_1_arrays args s ++ staticLocs frame_1_statics s) 600000 7302250 := h
theorem lw_limb (L : Cond) (hL : ∀ (args : Array Value) (s t : State), L.after args s (.returned (some (.int 1))) t = true) :
    ArmFor flags0 classFile x code maxLocals ret World_1 tables_1 room_1 Calls_1 rest_1 Pre_1
      (fun tb e a s o t => postC L tb e a s o t ∧ Framed s o t (fieldLocs frame_1_writes a s ++ arrayLocs frame_1_arrays a s ++ staticLocs frame_1_statics s) 600000 7302250) := by
  intro l _ _ _ p e ha hc hk s m args below hf hfit hheap happ hpre
  obtain ⟨k, o, h1, h2, h3, rfl, hF⟩ := lw_comes l p e ha hc hk s m args below hf hfit hheap happ hpre
  exact ⟨k, _, h1, h2, h3, hL args s _, lw_frame hF⟩
theorem i_vc : Claimed_1_1 ∧ Claimed_1_2 := ⟨lw_limb limb_1_1 (fun args s t => by simp [limb_1_1, Cond.after, Cond.holds, Cond.value]), lw_limb limb_1_2 (fun args s t => Cond.after_iff.mpr (by
  first | (rw [show limb_1_2 = Cond.eq .result (.int 1) from rfl, Cond.eq_ints (x := 1) (y := 1) rfl rfl]; simp; done) | (simp [limb_1_2, Cond.value, Term.eval]; done)))⟩

