def finA (ci k : Nat) : Bool := match vwCl[ci]? with
  | some r => (r.2.1 k).2.2.2
  | none => true
theorem cpy_nat : (decide (Cond.native arraycopyName ∈ lw_tbl) && goodWord (Cond.native arraycopyName)) = true := by decide +kernel
theorem cpy_stat : (decide (Cond.static arraycopyName ∈ lw_tbl) && goodWord (Cond.static arraycopyName)) = true := by decide +kernel
theorem cpy_ini : (decide (Cond.initialized "java/lang/System" ∈ lw_tbl) && goodWord (Cond.initialized "java/lang/System")) = true := by decide +kernel
theorem min_stat : (decide (Cond.static Lib.Math.min.name ∈ lw_tbl) && goodWord (Cond.static Lib.Math.min.name)) = true := by decide +kernel
theorem min_ini : (decide (Cond.initialized "java/lang/Math" ∈ lw_tbl) && goodWord (Cond.initialized "java/lang/Math")) = true := by decide +kernel
theorem min_code : (decide (Cond.code Lib.Math.min.name Lib.Math.min.code 2 (some .int) ∈ lw_tbl) && goodWord (Cond.code Lib.Math.min.name Lib.Math.min.code 2 (some .int))) = true := by decide +kernel
theorem cpy_w : nativeFrameWords "java/lang/System" "arraycopy" 5 + 11 ≤ 32 := by decide +kernel
theorem gw_mem {w : Cond} (h : (decide (w ∈ lw_tbl) && goodWord w) = true) : w ∈ gw := by
  simp only [Bool.and_eq_true, decide_eq_true_eq] at h
  exact List.mem_filter.mpr ⟨h.1, h.2⟩
def ownS (c : Nat) : String := match c with
  | 0 => RX0
  | 1 => RX1
  | 2 => RX2
  | 3 => RX3
  | 4 => RX4
  | 5 => RX5
  | 6 => RX6
  | 7 => RX7
  | 8 => RX8
  | 9 => RX9
  | 10 => RL
  | _ => RJ13
theorem fzl_mem : ∀ {t : List (Nat × Nat × Nat × Bool)} {i : Nat} {q : Nat × Nat × Bool}, fzl t i = some q → (i, q) ∈ t
  | [], _, _, h => by simp [fzl] at h
  | a :: t, i, q, h => by
    unfold fzl at h
    by_cases e : a.1 = i
    · simp [e] at h
      rw [← h, ← e]
      exact List.mem_cons_self
    · simp [e] at h
      exact List.mem_cons_of_mem _ (fzl_mem h)
theorem fz_all (c : Nat) : (fz c).all (fzOk (ownS c)) = true := by
  match c with
  | 0 => exact fz0_ok
  | 1 => exact fz1_ok
  | 2 => exact fz2_ok
  | 3 => exact fz3_ok
  | 4 => exact fz4_ok
  | 5 => exact fz5_ok
  | 6 => exact fz6_ok
  | 7 => exact fz7_ok
  | 8 => exact fz8_ok
  | 9 => exact fz9_ok
  | n + 10 => rfl
theorem inG (ci : Nat) (r : vw_C) (h : vwCl[ci]? = some r) : ∀ w ∈ u_ws r.1 r.2.1 r.2.2, w ∈ gw := by
  have key : ∀ {C : String} {T : u_T} {N : Nat}, (u_ws C T N).all (fun w => decide (w ∈ lw_tbl) && goodWord w) = true → ∀ w ∈ u_ws C T N, w ∈ gw := fun h w hw => gw_mem (List.all_eq_true.mp h w hw)
  match ci, h with
  | 0, h => cases h; exact key inW0
  | 1, h => cases h; exact key inW1
  | 2, h => cases h; exact key inW2
  | 3, h => cases h; exact key inW3
  | 4, h => cases h; exact key inW4
  | 5, h => cases h; exact key inW5
  | 6, h => cases h; exact key inW6
  | 7, h => cases h; exact key inW7
  | 8, h => cases h; exact key inW8
  | 9, h => cases h; exact key inW9
  | n + 10, h => simp [vwCl] at h
theorem tyA_ok (ci : Nat) (r : vw_C) (h : vwCl[ci]? = some r) : ∀ k, k < r.2.2 → parseFieldDescriptor (r.2.1 k).2.2.1 = some (tyA ci k) := by
  match ci, h with
  | 0, h => cases h; exact tyX0_ok
  | 1, h => cases h; exact tyX1_ok
  | 2, h => cases h; exact tyX2_ok
  | 3, h => cases h; exact tyX3_ok
  | 4, h => cases h; exact tyX4_ok
  | 5, h => cases h; exact tyX5_ok
  | 6, h => cases h; exact tyX6_ok
  | 7, h => cases h; exact tyX7_ok
  | 8, h => cases h; exact tyX8_ok
  | 9, h => cases h; exact tyX9_ok
  | n + 10, h => simp [vwCl] at h
theorem nmA_ok (ci : Nat) (r : vw_C) (h : vwCl[ci]? = some r) : ∀ a, a < r.2.2 → ∀ b, b < r.2.2 → a ≠ b → (r.2.1 a).2.1 ≠ (r.2.1 b).2.1 := by
  match ci, h with
  | 0, h => cases h; exact nmX0
  | 1, h => cases h; exact nmX1
  | 2, h => cases h; exact nmX2
  | 3, h => cases h; exact nmX3
  | 4, h => cases h; exact nmX4
  | 5, h => cases h; exact nmX5
  | 6, h => cases h; exact nmX6
  | 7, h => cases h; exact nmX7
  | 8, h => cases h; exact nmX8
  | 9, h => cases h; exact nmX9
  | n + 10, h => simp [vwCl] at h
theorem fz_fact {c i ci k : Nat} {b : Bool} (h : fzl (fz c) i = some (ci, k, b)) : ∃ r, vwCl[ci]? = some r ∧ k < r.2.2 ∧ fzW (ownS c) i r.2.1 k b ∈ lw_tbl ∧ (b = false → fzW (ownS c) i r.2.1 k b ∈ gw) ∧ (b = true → fzW (ownS c) i r.2.1 k b ∈ nw) := by
  have h1 := List.all_eq_true.mp (fz_all c) _ (fzl_mem h)
  unfold fzOk at h1
  dsimp only at h1
  cases hr : vwCl[ci]? with
  | none => rw [hr] at h1; cases h1
  | some r =>
    rw [hr] at h1
    simp only [Bool.and_eq_true, decide_eq_true_eq] at h1
    obtain ⟨h2, h3, h4⟩ := h1
    refine ⟨r, rfl, h2, h3, fun e => ?_, fun e => ?_⟩
    · subst e
      exact List.mem_filter.mpr ⟨h3, by simpa using h4⟩
    · subst e
      exact List.mem_filter.mpr ⟨h3, by simpa using h4⟩
theorem map_at {f : Value → Value} : ∀ {fs : List Value} {k : Nat} {v : Value}, fs[k]? = some v → (fs.map f)[k]? = some (f v) := by
  intro fs k v h
  rw [List.getElem?_map, h]
  rfl
def lkf : List Value → Nat → Option Value
  | [], _ => none
  | a :: _, 0 => some a
  | _ :: t, n + 1 => lkf t n
theorem lkf_eq : ∀ (w : List Value) (k : Nat), lkf w k = w[k]?
  | [], k => by simp [lkf]
  | a :: t, 0 => by simp [lkf]
  | a :: t, n + 1 => by simp [lkf, lkf_eq t n]
theorem set_map {f : Value → Value} (fs : List Value) (k : Nat) (v : Value) : (fs.set k v).map f = (fs.map f).set k (f v) := by rw [List.map_set]
section GC
variable {sc : SC} {d mc ms n0 : Nat} {mi : MI} {P : Pst} {kc ks : Nat} {pc : Nat} {L : List (Option Value)} {st r : List Value} {w : List va_E}
theorem g_getf {i ci k q : Nat} {b : Bool} {fs : List Value} {v : Value} (ho : ownS mi.1 = mi.2.1.cls) (hf : fzl (fz mi.1) i = some (ci, k, b)) (hw : lk w q = some (.inr (ci, fs))) (hv : lkf fs k = some v) (hd : decode mi.2.2.1 pc = .ok (.getfield i, 3)) (kk : Good sc d mc ms n0 mi P kc ks (pc + 3) L (v :: r) w) : Good sc d mc ms n0 mi P kc ks pc L (.ref q :: r) w := by
  intro p l e R s m args below meth c D cy ad0 A Q C H locs ls ad ha hn hm hP hD hS hl
  obtain ⟨r0, hc, hk, -, hg, hx⟩ := fz_fact hf
  rw [lkf_eq] at hv
  rw [ho] at hg hx
  cases b with
  | false => exact va_get (Ts := gw) (cl := vwCl) (C := r0.1) (T := r0.2.1) (N := r0.2.2) (ref := (r0.2.1 k).1) C.1 C.2.1 C.2.2.2.2.1 (inG ci r0 hc) C.2.2.2.1 C.2.2.2.2.2.1 hP q (lay_at hw) hc k hk (C.2.2.2.2.1 _ (hg rfl)) (fun _ h => h) (map_at hv) hd (kk p l e R s m args below meth c D cy ad0 A Q C H locs ls ad ha hn hm hP hD hS hl)
  | true => exact va_getN (Ts := gw) (cl := vwCl) (C := r0.1) (T := r0.2.1) (N := r0.2.2) (ref := (r0.2.1 k).1) (host := "FoldedBoard") C.1 C.2.1 C.2.2.2.2.1 (inG ci r0 hc) C.2.2.2.1 C.2.2.2.2.2.1 hP q (lay_at hw) hc k hk (va_Nw.use rfl (C.2.2.2.2.2.2.2.1.1 _ (hx rfl))) (fun _ h => h) (map_at hv) hd (kk p l e R s m args below meth c D cy ad0 A Q C H locs ls ad ha hn hm hP hD hS hl)
theorem g_putf {i ci k q : Nat} {b : Bool} {fs : List Value} {x : Int32} (ho : ownS mi.1 = mi.2.1.cls) (hf : fzl (fz mi.1) i = some (ci, k, b)) (hw : lk w q = some (.inr (ci, fs))) (hl0 : Nat.blt k fs.length = true) (hfin : finA ci k = false) (hty : tyA ci k = .int ∨ (tyA ci k = .boolean ∧ (x = 0 ∨ x = 1))) (hd : decode mi.2.2.1 pc = .ok (.putfield i, 3)) (kk : Good sc d mc ms n0 mi P kc ks (pc + 3) L r (w.set q (.inr (ci, fs.set k (.int x))))) : Good sc d mc ms n0 mi P kc ks pc L (.int x :: .ref q :: r) w := by
  intro p l e R s m args below meth c D cy ad0 A Q C H locs ls ad ha hn hm hP hD hS hl
  obtain ⟨r0, hc, hk, -, hg, hx⟩ := fz_fact hf
  rw [ho] at hg hx
  have hfin2 : (r0.2.1 k).2.2.2 = false := by
    unfold finA at hfin
    rw [hc] at hfin
    exact hfin
  have hn2 : narrow (tyA ci k) (.int x) = .int x ∧ fits (tyA ci k) (.int x) = true := by
    rcases hty with h | ⟨h, h2 | h2⟩
    · rw [h]; exact ⟨rfl, rfl⟩
    · rw [h, h2]; exact ⟨by decide, by decide⟩
    · rw [h, h2]; exact ⟨by decide, by decide⟩
  have hl1 : k < (fs.map (trv ad)).length := by
    rw [List.length_map]
    exact Nat.lt_of_lt_of_le (Nat.blt_eq.mp hl0) (Nat.le_refl _)
  have hset : ∀ v : Value, tre cy ad (.inr (ci, fs.set k v)) = .inr (ci, (fs.map (trv ad)).set k (trv ad v)) := fun v => by
    show Sum.inr (ci, (fs.set k v).map (trv ad)) = _
    rw [set_map]
  have hlen : (w.set q (.inr (ci, fs.set k (.int x)))).length = w.length := List.length_set
  have kkk : ∀ (H1 : Heap) (locs1 : List Loc), va_P D vwCl ((lay cy ad w).set q (ad q, .inr (ci, (fs.map (trv ad)).set k (.int x)))) H1 → va_D A ((lay cy ad w).set q (ad q, .inr (ci, (fs.map (trv ad)).set k (.int x)))) → va_S A s.heap H1 locs1 → W p l e R s m args below meth c H1 locs1 kc ks Q (F0 m (pc + 3) ls (r.map (trv ad))) := fun H1 locs1 hP1 hD1 hS1 => by
    have e1 : (lay cy ad w).set q (ad q, .inr (ci, (fs.map (trv ad)).set k (.int x))) = lay cy ad (w.set q (.inr (ci, fs.set k (.int x)))) := by rw [lay_set, hset]; rfl
    rw [e1] at hP1 hD1
    exact kk p l e R s m args below meth c D cy ad0 A Q C H1 locs1 ls ad (by rw [hlen]; exact ha) (by rw [hlen]; exact hn) (by rw [hlen]; exact hm) hP1 hD1 hS1 hl
  cases b with
  | false => exact va_put (Ts := gw) (cl := vwCl) (C := r0.1) (T := r0.2.1) (N := r0.2.2) (ref := (r0.2.1 k).1) (v := .int x) (ty := tyA ci k) C.1 C.2.1 C.2.2.2.2.1 (inG ci r0 hc) (tyA ci) (tyA_ok ci r0 hc) (nmA_ok ci r0 hc) C.2.2.2.1 C.2.2.2.2.2.1 hP hD hS q (lay_at hw) hc k hk (C.2.2.2.2.1 _ (hg rfl)) (fun _ h => h) hfin2 (tyA_ok ci r0 hc k hk) hn2.1 hn2.2 hl1 hd kkk
  | true => exact va_putN (Ts := gw) (cl := vwCl) (C := r0.1) (T := r0.2.1) (N := r0.2.2) (ref := (r0.2.1 k).1) (host := "FoldedBoard") (v := .int x) (ty := tyA ci k) C.1 C.2.1 C.2.2.2.2.1 (inG ci r0 hc) (tyA ci) (tyA_ok ci r0 hc) (nmA_ok ci r0 hc) C.2.2.2.1 C.2.2.2.2.2.1 hP hD hS q (lay_at hw) hc k hk (va_Nw.use rfl (C.2.2.2.2.2.2.2.1.1 _ (hx rfl))) (fun _ h => h) hfin2 (tyA_ok ci r0 hc k hk) hn2.1 hn2.2 hl1 hd kkk
theorem g_iald {q n : Nat} {f : Nat → Int32} {i : Int32} (hw : lk w q = some (.inl (0, n, .inl f))) (hi : vp_in i n) (hd : decode mi.2.2.1 pc = .ok (.iaload, 1)) (kk : Good sc d mc ms n0 mi P kc ks (pc + 1) L (.int (f i.toNatClampNeg) :: r) w) : Good sc d mc ms n0 mi P kc ks pc L (.int i :: .ref q :: r) w := by
  intro p l e R s m args below meth c D cy ad0 A Q C H locs ls ad ha hn hm hP hD hS hl
  exact va_iald (tys := tysC cy) (n := n) (f := f) C.1 C.2.1 C.2.2.2.2.2.1 hP q 0 (lay_at hw) rfl hi hd (kk p l e R s m args below meth c D cy ad0 A Q C H locs ls ad ha hn hm hP hD hS hl)
theorem g_zald {q n : Nat} {f : Nat → Int32} {i : Int32} (hw : lk w q = some (.inl (1, n, .inl f))) (hi : vp_in i n) (hd : decode mi.2.2.1 pc = .ok (.baload, 1)) (kk : Good sc d mc ms n0 mi P kc ks (pc + 1) L (.int (f i.toNatClampNeg) :: r) w) : Good sc d mc ms n0 mi P kc ks pc L (.int i :: .ref q :: r) w := by
  intro p l e R s m args below meth c D cy ad0 A Q C H locs ls ad ha hn hm hP hD hS hl
  exact va_zald (tys := tysC cy) (n := n) (f := f) C.1 C.2.1 C.2.2.2.2.2.1 hP q 1 (lay_at hw) rfl hi hd (kk p l e R s m args below meth c D cy ad0 A Q C H locs ls ad ha hn hm hP hD hS hl)
theorem g_aldo {q n t : Nat} {f : Nat → Option Nat} {i : Int32} {q2 : Nat} (ht : t = 2 ∨ t = 3 ∨ t = 4) (hw : lk w q = some (.inl (t, n, .inr (.inr (.inr (.inr f)))))) (hi : vp_in i n) (hf : f i.toNatClampNeg = some q2) (hd : decode mi.2.2.1 pc = .ok (.aaload, 1)) (kk : Good sc d mc ms n0 mi P kc ks (pc + 1) L (.ref q2 :: r) w) : Good sc d mc ms n0 mi P kc ks pc L (.int i :: .ref q :: r) w := by
  intro p l e R s m args below meth c D cy ad0 A Q C H locs ls ad ha hn hm hP hD hS hl
  have hlt : i.toNatClampNeg < n := Nat.not_le.mp fun q => hi (Or.inr q)
  have ha2 := lay_at (cy := cy) (ad := ad) hw
  have key : ∀ ty : FieldType, (tysC cy)[t]? = some (cy t, ty) → ty.isReference = true → W p l e R s m args below meth c H locs kc ks Q (F0 m pc ls (.int i :: .ref (ad q) :: r.map (trv ad))) := fun ty hty href =>
    W.aald (v := .ref (ad q2)) (ty := ty) C.1 C.2.1 (hP q _ ha2) ((C.2.2.2.2.2.1.2 t _ hty).1 n (fun j => va_rf ((f j).map ad))) href (fun q => by cases q) (by show ¬ (i < 0 ∨ (arrV _ _ _).slots.size ≤ _); rw [arrV_size]; exact hi) (by show (arrV _ _ _).slots[_]? = _; rw [arrV_read _ _ hlt]; show some (va_rf ((f i.toNatClampNeg).map ad)) = _; rw [hf]; rfl) rfl rfl hd (kk p l e R s m args below meth c D cy ad0 A Q C H locs ls ad ha hn hm hP hD hS hl)
  rcases ht with rfl | rfl | rfl
  · exact key _ rfl rfl
  · exact key _ rfl rfl
  · exact key _ rfl rfl
theorem g_iast {q n : Nat} {f : Nat → Int32} {i x : Int32} (hw : lk w q = some (.inl (0, n, .inl f))) (hi : vp_in i n) (hd : decode mi.2.2.1 pc = .ok (.iastore, 1)) (kk : Good sc d mc ms n0 mi P kc ks (pc + 1) L r (w.set q (.inl (0, n, .inl (upd f i.toNatClampNeg x))))) : Good sc d mc ms n0 mi P kc ks pc L (.int x :: .int i :: .ref q :: r) w := by
  intro p l e R s m args below meth c D cy ad0 A Q C H locs ls ad ha hn hm hP hD hS hl
  have hlen : (w.set q (.inl (0, n, .inl (upd f i.toNatClampNeg x)))).length = w.length := List.length_set
  refine va_iast (tys := tysC cy) (n := n) (f := f) C.1 C.2.1 C.2.2.2.2.2.1 hP hD hS q 0 (lay_at hw) rfl hi hd fun H1 locs1 hP1 hD1 hS1 => ?_
  exact kk p l e R s m args below meth c D cy ad0 A Q C H1 locs1 ls ad (by rw [hlen]; exact ha) (by rw [hlen]; exact hn) (by rw [hlen]; exact hm) (by rw [lay_set]; exact hP1) (by rw [lay_set]; exact hD1) hS1 hl
theorem g_zast {q n : Nat} {f : Nat → Int32} {i x : Int32} (hw : lk w q = some (.inl (1, n, .inl f))) (hi : vp_in i n) (hx : x = 0 ∨ x = 1) (hd : decode mi.2.2.1 pc = .ok (.bastore, 1)) (kk : Good sc d mc ms n0 mi P kc ks (pc + 1) L r (w.set q (.inl (1, n, .inl (upd f i.toNatClampNeg x))))) : Good sc d mc ms n0 mi P kc ks pc L (.int x :: .int i :: .ref q :: r) w := by
  intro p l e R s m args below meth c D cy ad0 A Q C H locs ls ad ha hn hm hP hD hS hl
  have hlen : (w.set q (.inl (1, n, .inl (upd f i.toNatClampNeg x)))).length = w.length := List.length_set
  have hnar : vp_nar .boolean x = x := by rcases hx with h | h <;> subst h <;> decide
  refine va_zast (tys := tysC cy) (n := n) (f := f) C.1 C.2.1 C.2.2.2.2.2.1 hP hD hS q 1 (lay_at hw) rfl hi hd fun H1 locs1 hP1 hD1 hS1 => ?_
  rw [hnar] at hP1 hD1
  exact kk p l e R s m args below meth c D cy ad0 A Q C H1 locs1 ls ad (by rw [hlen]; exact ha) (by rw [hlen]; exact hn) (by rw [hlen]; exact hm) (by rw [lay_set]; exact hP1) (by rw [lay_set]; exact hD1) hS1 hl
theorem tab_ld {p : Program} {l : Launch} {e : Env} {R : Room} {s : State} {m : MethodId} {args : Array Value} {below : List Frame} {meth : Method} {c : Code} {H : Heap} {locs : List Loc} {cells slots : Nat} {Q : State → Prop} {cc : ByteArray} {pc : Nat} {ls : Array Slot} {rest : List Value} {A : Nat → Prop} {t N : Nat} {f : Nat → Int32} {i : Int32} (hx : p.tables.exec = Jvm.exec) (hb : c.code = cc) (hT : va_T .int t N (fun j => .int (f j)) A s s.heap) (hS : va_S A s.heap H locs) (hN : N < 2 ^ 31) (hi : vp_in i N) (hd : decode cc pc = .ok (.iaload, 1)) (kk : W p l e R s m args below meth c H locs cells slots Q (F0 m (pc + 1) ls (.int (f i.toNatClampNeg) :: rest))) : W p l e R s m args below meth c H locs cells slots Q (F0 m pc ls (.int i :: .ref t :: rest)) := by
  obtain ⟨cell, h1, h2, h3, h4, h5, h6, h7⟩ := va_T.kept hT hS.2.1
  have hlt : i.toNatClampNeg < N := Nat.not_le.mp fun q => hi (Or.inr q)
  exact W.iald (v := .int (f i.toNatClampNeg)) hx hb h1 h2 h3 (fun q => hi (q.elim Or.inl (fun z => absurd (Nat.le_trans h4 z) (Nat.not_le.mpr hlt)))) (h6 _ hlt) rfl rfl hd kk
theorem g_ldX {i : Int32} (hi : vp_in i 4) (hd : decode mi.2.2.1 pc = .ok (.iaload, 1)) (kk : Good sc d mc ms n0 mi P kc ks (pc + 1) L (.int (wXf i.toNatClampNeg) :: r) w) : Good sc d mc ms n0 mi P kc ks pc L (.int i :: .ref 1000 :: r) w := by
  intro p l e R s m args below meth c D cy ad0 A Q C H locs ls ad ha hn hm hP hD hS hl
  have hT := C.2.2.2.2.2.2.2.1.2.1.2
  rw [← ha.1 1000 (Or.inr (Nat.le_refl _))] at hT
  exact tab_ld C.1 C.2.1 hT hS (by decide) hi hd (kk p l e R s m args below meth c D cy ad0 A Q C H locs ls ad ha hn hm hP hD hS hl)
theorem g_ldY {i : Int32} (hi : vp_in i 4) (hd : decode mi.2.2.1 pc = .ok (.iaload, 1)) (kk : Good sc d mc ms n0 mi P kc ks (pc + 1) L (.int (wYf i.toNatClampNeg) :: r) w) : Good sc d mc ms n0 mi P kc ks pc L (.int i :: .ref 1001 :: r) w := by
  intro p l e R s m args below meth c D cy ad0 A Q C H locs ls ad ha hn hm hP hD hS hl
  have hT := C.2.2.2.2.2.2.2.1.2.2.1.2
  rw [← ha.1 1001 (Or.inr (by decide))] at hT
  exact tab_ld C.1 C.2.1 hT hS (by decide) hi hd (kk p l e R s m args below meth c D cy ad0 A Q C H locs ls ad ha hn hm hP hD hS hl)
theorem g_lds {i : Int32} (hi : vp_in i sc.1) (hd : decode mi.2.2.1 pc = .ok (.iaload, 1)) (kk : Good sc d mc ms n0 mi P kc ks (pc + 1) L (.int (sc.2 i.toNatClampNeg) :: r) w) : Good sc d mc ms n0 mi P kc ks pc L (.int i :: .ref 1006 :: r) w := by
  intro p l e R s m args below meth c D cy ad0 A Q C H locs ls ad ha hn hm hP hD hS hl
  obtain ⟨h1, h2, h3⟩ := C.2.2.2.2.2.2.2.1.2.2.2.2.1
  rw [← ha.1 1006 (Or.inr (by decide))] at h1 h2 h3
  exact va_sld C.1 C.2.1 h1 h2 h3 hS hi hd (kk p l e R s m args below meth c D cy ad0 A Q C H locs ls ad ha hn hm hP hD hS hl)
theorem g_slen (hd : decode mi.2.2.1 pc = .ok (.arraylength, 1)) (kk : Good sc d mc ms n0 mi P kc ks (pc + 1) L (.int (Int32.ofNat sc.1) :: r) w) : Good sc d mc ms n0 mi P kc ks pc L (.ref 1006 :: r) w := by
  intro p l e R s m args below meth c D cy ad0 A Q C H locs ls ad ha hn hm hP hD hS hl
  obtain ⟨h1, h2, h3⟩ := C.2.2.2.2.2.2.2.1.2.2.2.2.1
  rw [← ha.1 1006 (Or.inr (by decide))] at h1 h2 h3
  exact va_slen C.1 C.2.1 h1 h2 h3 hS hd (kk p l e R s m args below meth c D cy ad0 A Q C H locs ls ad ha hn hm hP hD hS hl)
theorem g_getX {i : Nat} (hw : Cond.fieldLinkNest mi.2.1.cls i "FoldedBoard" "WAY_X" "[I" "FoldedBoard" ∈ nw) (hd : decode mi.2.2.1 pc = .ok (.getstatic i, 3)) (kk : Good sc d mc ms n0 mi P kc ks (pc + 3) L (.ref 1000 :: st) w) : Good sc d mc ms n0 mi P kc ks pc L st w := by
  intro p l e R s m args below meth c D cy ad0 A Q C H locs ls ad ha hn hm hP hD hS hl
  have hZ := C.2.2.2.2.2.2.2.1.2.1.1
  rw [← ha.1 1000 (Or.inr (Nat.le_refl _))] at hZ
  exact va_getsN C.1 C.2.1 hZ hS C.2.2.2.1 (va_Nw.use rfl (C.2.2.2.2.2.2.2.1.1 _ hw)) (fun _ h => h) hd (kk p l e R s m args below meth c D cy ad0 A Q C H locs ls ad ha hn hm hP hD hS hl)
theorem g_getY {i : Nat} (hw : Cond.fieldLinkNest mi.2.1.cls i "FoldedBoard" "WAY_Y" "[I" "FoldedBoard" ∈ nw) (hd : decode mi.2.2.1 pc = .ok (.getstatic i, 3)) (kk : Good sc d mc ms n0 mi P kc ks (pc + 3) L (.ref 1001 :: st) w) : Good sc d mc ms n0 mi P kc ks pc L st w := by
  intro p l e R s m args below meth c D cy ad0 A Q C H locs ls ad ha hn hm hP hD hS hl
  have hZ := C.2.2.2.2.2.2.2.1.2.2.1.1
  rw [← ha.1 1001 (Or.inr (by decide))] at hZ
  exact va_getsN C.1 C.2.1 hZ hS C.2.2.2.1 (va_Nw.use rfl (C.2.2.2.2.2.2.2.1.1 _ hw)) (fun _ h => h) hd (kk p l e R s m args below meth c D cy ad0 A Q C H locs ls ad ha hn hm hP hD hS hl)
theorem g_ldc2 {i : Nat} {v : Int64} (hw : Cond.constantLong mi.2.1.cls i v ∈ gw) (hd : decode mi.2.2.1 pc = .ok (.ldc2_w i, 3)) (kk : Good sc d mc ms n0 mi P kc ks (pc + 3) L (.long v :: st) w) : Good sc d mc ms n0 mi P kc ks pc L st w := by
  intro p l e R s m args below meth c D cy ad0 A Q C H locs ls ad ha hn hm hP hD hS hl
  exact lv_ldc2 C.1 C.2.1 C.2.2.2.1 (C.2.2.2.2.1 _ hw) hd (kk p l e R s m args below meth c D cy ad0 A Q C H locs ls ad ha hn hm hP hD hS hl)
theorem g_ldstep (hc : mi.2.1.cls = RX6) (hd : decode mi.2.2.1 pc = .ok (.ldc 62, 2)) (kk : Good sc d mc ms n0 mi P kc ks (pc + 2) L (.ref 1002 :: st) w) : Good sc d mc ms n0 mi P kc ks pc L st w := by
  intro p l e R s m args below meth c D cy ad0 A Q C H locs ls ad ha hn hm hP hD hS hl
  have hZ := C.2.2.2.2.2.2.2.1.2.2.2.1.2.1
  rw [← ha.1 1002 (Or.inr (by decide))] at hZ
  exact va_ldcS C.1 C.2.1 (by rw [← hc]; exact C.2.2.2.1) hZ hd (kk p l e R s m args below meth c D cy ad0 A Q C H locs ls ad ha hn hm hP hD hS hl)
theorem g_ldfold (hc : mi.2.1.cls = RX6) (hd : decode mi.2.2.1 pc = .ok (.ldc 68, 2)) (kk : Good sc d mc ms n0 mi P kc ks (pc + 2) L (.ref 1003 :: st) w) : Good sc d mc ms n0 mi P kc ks pc L st w := by
  intro p l e R s m args below meth c D cy ad0 A Q C H locs ls ad ha hn hm hP hD hS hl
  have hZ := C.2.2.2.2.2.2.2.1.2.2.2.1.2.2
  rw [← ha.1 1003 (Or.inr (by decide))] at hZ
  exact va_ldcS C.1 C.2.1 (by rw [← hc]; exact C.2.2.2.1) hZ hd (kk p l e R s m args below meth c D cy ad0 A Q C H locs ls ad ha hn hm hP hD hS hl)
theorem cpy_room {R : Room} {d : Nat} {r : List Value} {ad : Nat → Nat} (hR : d ≤ R.frames ∧ 40 * d ≤ R.locals ∧ mc ≤ R.cells ∧ ms ≤ R.slots) (hd : 1 ≤ d) (hr : (r.map fun v => v.category).sum ≤ 8) : 1 ≤ R.frames ∧ ((r.map (trv ad)).map fun v => v.category).sum + 32 ≤ R.locals := by
  have e : ((r.map (trv ad)).map fun v => v.category) = r.map fun v => v.category := by
    rw [List.map_map]
    exact List.map_congr_left fun v _ => trv_cat ad v
  rw [e]
  omega
theorem g_copy {i q0 q1 t m0 m1 : Nat} {f g : Nat → Int32} {sp dp n : Int32} (h1d : 1 ≤ d) (ht : t = 0 ∨ t = 1) (hw : Cond.methodLink mi.2.1.cls i arraycopyName ∈ gw) (h0 : lk w q0 = some (.inl (t, m0, .inl f))) (h1 : lk w q1 = some (.inl (t, m1, .inl g))) (hs : ¬ sp < 0) (hdp : ¬ dp < 0) (hnn : ¬ n < 0) (h4 : sp.toNatClampNeg + n.toNatClampNeg ≤ m0) (h5 : dp.toNatClampNeg + n.toNatClampNeg ≤ m1) (hb : t = 1 → ∀ j, j < n.toNatClampNeg → (f (sp.toNatClampNeg + j) = 0 ∨ f (sp.toNatClampNeg + j) = 1)) (hr : (r.map fun v => v.category).sum ≤ 8) (hd : decode mi.2.2.1 pc = .ok (.invokestatic i, 3)) (kk : Good sc d mc ms n0 mi P kc ks (pc + 3) L r (w.set q1 (.inl (t, m1, .inl (va_cpy f g sp.toNatClampNeg dp.toNatClampNeg n.toNatClampNeg))))) : Good sc d mc ms n0 mi P kc ks pc L (.int n :: .int dp :: .ref q1 :: .int sp :: .ref q0 :: r) w := by
  intro p l e R s m args below meth c D cy ad0 A Q C H locs ls ad ha hn hm hP hD hS hl
  have hlen : (w.set q1 (.inl (t, m1, .inl (va_cpy f g sp.toNatClampNeg dp.toNatClampNeg n.toNatClampNeg)))).length = w.length := List.length_set
  obtain ⟨hR1, hR2⟩ := cpy_room (ad := ad) C.2.2.2.2.2.2.2.2.1 h1d hr
  have key : ∀ ty : FieldType, (tysC cy)[t]? = some (cy t, ty) → refKind ty = false → (∀ j, j < n.toNatClampNeg → fits ty (.int (f (sp.toNatClampNeg + j))) = true) → W p l e R s m args below meth c H locs kc ks Q (F0 m pc ls (.int n :: .int dp :: .ref (ad q1) :: .int sp :: .ref (ad q0) :: r.map (trv ad))) := fun ty hty hk hfit => by
    refine va_copyi (tys := tysC cy) (ty := ty) (n0 := m0) (n1 := m1) (f := f) (g := g) C.1 C.2.1 (C.2.2.1.trans hl.1.symm) C.2.2.2.1 (C.2.2.2.2.1 _ hw) (C.2.2.2.2.1 _ (gw_mem cpy_nat)) (C.2.2.2.2.1 _ (gw_mem cpy_stat)) (C.2.2.2.2.1 _ (gw_mem cpy_ini)) C.2.2.2.2.2.1 hP hD hS q0 q1 t t (lay_at h0) (lay_at h1) hty hty hk hs hdp hnn h4 h5 hfit hR1 (Nat.le_trans (Nat.add_le_add_left cpy_w _) hR2) hd fun H1 locs1 hP1 hD1 hS1 => ?_
    exact kk p l e R s m args below meth c D cy ad0 A Q C H1 locs1 ls ad (by rw [hlen]; exact ha) (by rw [hlen]; exact hn) (by rw [hlen]; exact hm) (by rw [lay_set]; exact hP1) (by rw [lay_set]; exact hD1) hS1 hl
  rcases ht with rfl | rfl
  · exact key .int rfl rfl (fun _ _ => rfl)
  · exact key .boolean rfl rfl (fun j hj => by rcases hb rfl j hj with h | h <;> rw [h] <;> decide)
theorem g_min {i : Nat} {x y : Int32} (h1d : 1 ≤ d) (hkc : kc ≤ mc ∧ ks ≤ ms) (hw : Cond.methodLink mi.2.1.cls i Lib.Math.min.name ∈ gw) (hr : (r.map fun v => v.category).sum ≤ 8) (hd : decode mi.2.2.1 pc = .ok (.invokestatic i, 3)) (kk : Good sc d mc ms n0 mi P kc ks (pc + 3) L (.int (if y < x then y else x) :: r) w) : Good sc d mc ms n0 mi P kc ks pc L (.int y :: .int x :: r) w := by
  intro p l e R s m args below meth c D cy ad0 A Q C H locs ls ad ha hn hm hP hD hS hl
  obtain ⟨hR1, hR2⟩ := cpy_room (ad := ad) C.2.2.2.2.2.2.2.2.1 h1d hr
  obtain ⟨-, -, hR3, hR4⟩ := C.2.2.2.2.2.2.2.2.1
  exact va_mmin C.1 C.2.1 (C.2.2.1.trans hl.1.symm) C.2.2.2.1 (C.2.2.2.2.1 _ hw) (C.2.2.2.2.1 _ (gw_mem min_stat)) (C.2.2.2.2.1 _ (gw_mem min_ini)) (C.2.2.2.2.1 _ (gw_mem min_code)) hR1 (Nat.le_trans (Nat.add_le_add_left (by decide) _) hR2) (Nat.le_trans hkc.1 hR3) (Nat.le_trans hkc.2 hR4) hd (kk p l e R s m args below meth c D cy ad0 A Q C H locs ls ad ha hn hm hP hD hS hl)
theorem g_getCS {i : Nat} (hw : Cond.fieldLink mi.2.1.cls i "java/lang/String" "COMPACT_STRINGS" "Z" ∈ gw) (hd : decode mi.2.2.1 pc = .ok (.getstatic i, 3)) (kk : Good sc d mc ms n0 mi P kc ks (pc + 3) L (.int 1 :: st) w) : Good sc d mc ms n0 mi P kc ks pc L st w := by
  intro p l e R s m args below meth c D cy ad0 A Q C H locs ls ad ha hn hm hP hD hS hl
  exact va_gets C.1 C.2.1 C.2.2.2.2.2.2.2.1.2.2.2.2.2.1 hS C.2.2.2.1 (C.2.2.2.2.1 _ hw) (fun _ h => h) hd (kk p l e R s m args below meth c D cy ad0 A Q C H locs ls ad ha hn hm hP hD hS hl)
theorem g_getSF {i : Nat} (hw : Cond.fieldLink mi.2.1.cls i "jdk/internal/util/Preconditions" "SIOOBE_FORMATTER" "Ljava/util/function/BiFunction;" ∈ gw) (hd : decode mi.2.2.1 pc = .ok (.getstatic i, 3)) (k1 : Good sc d mc ms n0 mi P kc ks (pc + 3) L (.null :: st) w) (k2 : Good sc d mc ms n0 mi P kc ks (pc + 3) L (.ref 1007 :: st) w) : Good sc d mc ms n0 mi P kc ks pc L st w := by
  intro p l e R s m args below meth c D cy ad0 A Q C H locs ls ad ha hn hm hP hD hS hl
  rcases C.2.2.2.2.2.2.2.1.2.2.2.2.2.2 with hZ | hZ
  · exact va_gets C.1 C.2.1 hZ hS C.2.2.2.1 (C.2.2.2.2.1 _ hw) (fun _ h => h) hd (k1 p l e R s m args below meth c D cy ad0 A Q C H locs ls ad ha hn hm hP hD hS hl)
  · rw [← ha.1 1007 (Or.inr (by decide))] at hZ
    exact va_gets C.1 C.2.1 hZ hS C.2.2.2.1 (C.2.2.2.2.1 _ hw) (fun _ h => h) hd (k2 p l e R s m args below meth c D cy ad0 A Q C H locs ls ad ha hn hm hP hD hS hl)
theorem g_strV {i q : Nat} (hq : q < 2) (hw : Cond.fieldLink mi.2.1.cls i "java/lang/String" "value" "[B" ∈ gw) (hd : decode mi.2.2.1 pc = .ok (.getfield i, 3)) (kk : Good sc d mc ms n0 mi P kc ks (pc + 3) L (.ref (1004 + q) :: r) w) : Good sc d mc ms n0 mi P kc ks pc L (.ref (1002 + q) :: r) w := by
  intro p l e R s m args below meth c D cy ad0 A Q C H locs ls ad ha hn hm hP hD hS hl
  obtain ⟨-, -, h3, -⟩ := C.2.2.2.2.2.2.2.1.2.2.2.1.1.1 q hq
  dsimp only at h3
  rw [← ha.1 (1002 + q) (Or.inr (by omega)), ← ha.1 (1004 + q) (Or.inr (by omega))] at h3
  exact vk_getf C.1 C.2.1 h3 hS C.2.2.2.1 (C.2.2.2.2.1 _ hw) (fun _ h => h) hd (kk p l e R s m args below meth c D cy ad0 A Q C H locs ls ad ha hn hm hP hD hS hl)
theorem g_strC {i q : Nat} (hq : q < 2) (hw : Cond.fieldLink mi.2.1.cls i "java/lang/String" "coder" "B" ∈ gw) (hd : decode mi.2.2.1 pc = .ok (.getfield i, 3)) (kk : Good sc d mc ms n0 mi P kc ks (pc + 3) L (.int 0 :: r) w) : Good sc d mc ms n0 mi P kc ks pc L (.ref (1002 + q) :: r) w := by
  intro p l e R s m args below meth c D cy ad0 A Q C H locs ls ad ha hn hm hP hD hS hl
  obtain ⟨-, h3, -, -⟩ := C.2.2.2.2.2.2.2.1.2.2.2.1.1.1 q hq
  dsimp only at h3
  rw [← ha.1 (1002 + q) (Or.inr (by omega))] at h3
  exact vk_getf C.1 C.2.1 h3 hS C.2.2.2.1 (C.2.2.2.2.1 _ hw) (fun _ h => h) hd (kk p l e R s m args below meth c D cy ad0 A Q C H locs ls ad ha hn hm hP hD hS hl)
theorem len4 : ∀ (q : Nat), q < 2 → ([4, 4] : List Nat).getD q 0 = 4
  | 0, _ => rfl
  | 1, _ => rfl
  | q + 2, h => absurd h (by omega)
def chB (q j : Nat) : Int32 := (([[115, 116, 101, 112], [102, 111, 108, 100]] : List (List Int32)).getD q []).getD j 0
theorem g_strL {q : Nat} (hq : q < 2) (hd : decode mi.2.2.1 pc = .ok (.arraylength, 1)) (kk : Good sc d mc ms n0 mi P kc ks (pc + 1) L (.int 4 :: r) w) : Good sc d mc ms n0 mi P kc ks pc L (.ref (1004 + q) :: r) w := by
  intro p l e R s m args below meth c D cy ad0 A Q C H locs ls ad ha hn hm hP hD hS hl
  obtain ⟨-, -, -, h3⟩ := C.2.2.2.2.2.2.2.1.2.2.2.1.1.1 q hq
  dsimp only at h3
  rw [← ha.1 (1004 + q) (Or.inr (by omega))] at h3
  have e4 : ([4, 4] : List Nat).getD q 0 = 4 := len4 q hq
  rw [e4] at h3
  obtain ⟨cell, h1, h2, h4, h5, h6, h7, h8⟩ := va_T.kept h3 hS.2.1
  exact W.alen (n := 4) C.1 C.2.1 h1 h2 (by rw [h6]; rfl) rfl rfl hd (kk p l e R s m args below meth c D cy ad0 A Q C H locs ls ad ha hn hm hP hD hS hl)
theorem g_strB {q : Nat} {i : Int32} (hq : q < 2) (hi : vp_in i 4) (hd : decode mi.2.2.1 pc = .ok (.baload, 1)) (kk : Good sc d mc ms n0 mi P kc ks (pc + 1) L (.int (chB q i.toNatClampNeg) :: r) w) : Good sc d mc ms n0 mi P kc ks pc L (.int i :: .ref (1004 + q) :: r) w := by
  intro p l e R s m args below meth c D cy ad0 A Q C H locs ls ad ha hn hm hP hD hS hl
  obtain ⟨-, -, -, h3⟩ := C.2.2.2.2.2.2.2.1.2.2.2.1.1.1 q hq
  dsimp only at h3
  rw [← ha.1 (1004 + q) (Or.inr (by omega))] at h3
  have e4 : ([4, 4] : List Nat).getD q 0 = 4 := len4 q hq
  rw [e4] at h3
  obtain ⟨cell, h1, h2, h4, h5, h6, h7, h8⟩ := va_T.kept h3 hS.2.1
  have hlt : i.toNatClampNeg < 4 := Nat.not_le.mp fun z => hi (Or.inr z)
  exact W.bald (v := .int (chB q i.toNatClampNeg)) C.1 C.2.1 h1 h2 h4 (fun z => hi (z.elim Or.inl (fun y => absurd (Nat.le_trans h5 y) (Nat.not_le.mpr hlt)))) (h7 _ hlt) rfl rfl hd (kk p l e R s m args below meth c D cy ad0 A Q C H locs ls ad ha hn hm hP hD hS hl)
theorem g_i2c {x : Int32} (hd : decode mi.2.2.1 pc = .ok (.i2c, 1)) (kk : Good sc d mc ms n0 mi P kc ks (pc + 1) L (.int (x.toUInt32 % 65536).toInt32 :: r) w) : Good sc d mc ms n0 mi P kc ks pc L (.int x :: r) w := by
  intro p l e R s m args below meth c D cy ad0 A Q C H locs ls ad ha hn hm hP hD hS hl
  exact lv_i2c C.1 C.2.1 hd rfl (kk p l e R s m args below meth c D cy ad0 A Q C H locs ls ad ha hn hm hP hD hS hl)
theorem g_ishr {x y : Int32} (hd : decode mi.2.2.1 pc = .ok (.ishr, 1)) (kk : Good sc d mc ms n0 mi P kc ks (pc + 1) L (.int (x >>> (y &&& 31)) :: r) w) : Good sc d mc ms n0 mi P kc ks pc L (.int y :: .int x :: r) w := by
  intro p l e R s m args below meth c D cy ad0 A Q C H locs ls ad ha hn hm hP hD hS hl
  exact lv_ishr C.1 C.2.1 hd (kk p l e R s m args below meth c D cy ad0 A Q C H locs ls ad ha hn hm hP hD hS hl)
end GC
