def lc8 : List (Nat × Int64) := [(251, 255), (290, 653), (321, 31)]
def lc9 : List (Nat × Int64) := [(84, 2), (86, 6), (63, 35), (98, 4), (100, 9), (105, 3), (167, 5), (203, 36), (233, 8), (238, 255), (252, 32), (254, 97), (256, 643248), (258, 212356), (281, 653), (283, 31)]
def lc10 : List (Nat × Int64) := [(102, 4294967295)]
def lc11 : List (Nat × Int64) := [(314, 6148914691236517205), (316, 3689348814741910323), (318, 1085102592571150095)]
def lcA (c : Nat) : List (Nat × Int64) := match c with
  | 8 => lc8
  | 9 => lc9
  | 10 => lc10
  | 11 => lc11
  | _ => []
theorem lc8_ok : lc8.all (fun q => decide (Cond.constantLong (ownS 8) q.1 q.2 ∈ lw_tbl) && goodWord (Cond.constantLong (ownS 8) q.1 q.2)) = true := by decide +kernel
theorem lc9_ok : lc9.all (fun q => decide (Cond.constantLong (ownS 9) q.1 q.2 ∈ lw_tbl) && goodWord (Cond.constantLong (ownS 9) q.1 q.2)) = true := by decide +kernel
theorem lc10_ok : lc10.all (fun q => decide (Cond.constantLong (ownS 10) q.1 q.2 ∈ lw_tbl) && goodWord (Cond.constantLong (ownS 10) q.1 q.2)) = true := by decide +kernel
theorem lc11_ok : lc11.all (fun q => decide (Cond.constantLong (ownS 11) q.1 q.2 ∈ lw_tbl) && goodWord (Cond.constantLong (ownS 11) q.1 q.2)) = true := by decide +kernel
theorem lcA_ok (c : Nat) : (lcA c).all (fun q => decide (Cond.constantLong (ownS c) q.1 q.2 ∈ lw_tbl) && goodWord (Cond.constantLong (ownS c) q.1 q.2)) = true := by
  match c with
  | 0 => exact rfl
  | 1 => exact rfl
  | 2 => exact rfl
  | 3 => exact rfl
  | 4 => exact rfl
  | 5 => exact rfl
  | 6 => exact rfl
  | 7 => exact rfl
  | 8 => exact lc8_ok
  | 9 => exact lc9_ok
  | 10 => exact lc10_ok
  | 11 => exact lc11_ok
  | n + 12 => rfl
def lcl : List (Nat × Int64) → Nat → Option Int64
  | [], _ => none
  | q :: t, i => match q.1 == i with
    | true => some q.2
    | false => lcl t i
theorem lcl_mem : ∀ {t : List (Nat × Int64)} {i : Nat} {v : Int64}, lcl t i = some v → (i, v) ∈ t
  | [], _, _, h => by simp [lcl] at h
  | a :: t, i, v, h => by
    unfold lcl at h
    cases hb : a.1 == i with
    | true =>
      rw [hb] at h
      have e : a.1 = i := by simpa using hb
      have h2 : a.2 = v := by simpa using h
      rw [← h2, ← e]
      exact List.mem_cons_self
    | false =>
      rw [hb] at h
      exact List.mem_cons_of_mem _ (lcl_mem h)
theorem lc_fact {c i : Nat} {v : Int64} (h : lcl (lcA c) i = some v) : Cond.constantLong (ownS c) i v ∈ gw := by
  have h1 := List.all_eq_true.mp (lcA_ok c) _ (lcl_mem h)
  simp only [Bool.and_eq_true, decide_eq_true_eq] at h1
  exact List.mem_filter.mpr ⟨h1.1, h1.2⟩
def gst (c i : Nat) : Nat := match c with
  | 3 => (match i == 84 with | true => 1000 | false => (match i == 87 with | true => 1001 | false => 0))
  | 7 => (match i == 37 with | true => 1000 | false => (match i == 43 with | true => 1001 | false => 0))
  | _ => 0
theorem gst_w : [(RX3, 84, "WAY_X"), (RX3, 87, "WAY_Y"), (RX7, 37, "WAY_X"), (RX7, 43, "WAY_Y")].all (fun q => decide (Cond.fieldLinkNest q.1 q.2.1 "FoldedBoard" q.2.2 "[I" "FoldedBoard" ∈ lw_tbl)) = true := by decide +kernel
theorem gst_nw {q : String × Nat × String} (h : q ∈ [(RX3, 84, "WAY_X"), (RX3, 87, "WAY_Y"), (RX7, 37, "WAY_X"), (RX7, 43, "WAY_Y")]) : Cond.fieldLinkNest q.1 q.2.1 "FoldedBoard" q.2.2 "[I" "FoldedBoard" ∈ nw := List.mem_filter.mpr ⟨of_decide_eq_true (List.all_eq_true.mp gst_w q h), rfl⟩
def lenI : Instr → Nat
  | .bipush _ => 2 | .sipush _ => 3 | .iload _ => 2 | .lload _ => 2 | .aload _ => 2 | .istore _ => 2 | .lstore _ => 2 | .astore _ => 2 | .iinc _ _ => 3 | .getfield _ => 3 | .putfield _ => 3 | .getstatic _ => 3 | .ldc _ => 2 | .ldc2_w _ => 3 | .goto _ => 3 | .ifCond _ _ => 3 | .if_icmp _ _ => 3
  | _ => 1
def okI (mi : MI) (pc : Nat) : Instr → Bool
  | .bipush n => decide ((Int8.ofInt n).toInt32 = Int32.ofInt n)
  | .sipush n => decide ((Int16.ofInt n).toInt32 = Int32.ofInt n)
  | .goto off => decide (0 ≤ (pc : Int) + off)
  | .ifCond _ off => decide (0 ≤ (pc : Int) + off)
  | .if_icmp _ off => decide (0 ≤ (pc : Int) + off)
  | .istore n => decide (n < mi.2.2.2.1)
  | .istore_n n => decide ((n : Nat) < mi.2.2.2.1)
  | .astore n => decide (n < mi.2.2.2.1)
  | .astore_n n => decide ((n : Nat) < mi.2.2.2.1)
  | .lstore n => decide (n + 1 < mi.2.2.2.1)
  | .lstore_n n => decide ((n : Nat) + 1 < mi.2.2.2.1)
  | .iinc n _ => decide (n < mi.2.2.2.1)
  | .return_ => decide (mi.2.2.2.2 = none)
  | .ireturn => decide (mi.2.2.2.2 = some .int ∨ mi.2.2.2.2 = some .boolean)
  | .lreturn => decide (mi.2.2.2.2 = some .long)
  | .getfield _ => decide (ownS mi.1 = mi.2.1.cls)
  | .putfield _ => decide (ownS mi.1 = mi.2.1.cls)
  | .getstatic _ => decide (ownS mi.1 = mi.2.1.cls)
  | .ldc2_w _ => decide (ownS mi.1 = mi.2.1.cls)
  | .ldc _ => decide (mi.2.1.cls = RX6)
  | _ => true
def isBr : Instr → Bool
  | .goto _ => true
  | .ifCond _ _ => true
  | .if_icmp _ _ => true
  | _ => false
def okB (mi : MI) : Nat → List Instr → Bool
  | _, [] => true
  | pc, i :: t => decide (decode mi.2.2.1 pc = .ok (i, lenI i)) && (okI mi pc i && ((!(isBr i) || t.isEmpty) && okB mi (pc + lenI i) t))
def lzq : List (Option Value) → Nat → Value → List (Option Value)
  | [], _, _ => []
  | _ :: t, 0, v => some v :: t
  | a :: t, 1, v => (match a with | some (.long _) => none | some (.double _) => none | x => x) :: lzq t 0 v
  | a :: t, n + 2, v => a :: lzq t (n + 1) v
theorem lz1_c (a : Option Value) (t : List (Option Value)) (n : Nat) (v : Value) : lz1 (a :: t) (n + 2) v = a :: lz1 t (n + 1) v := by
  have e : lzB (a :: t) (n + 2) = lzB t (n + 1) := rfl
  unfold lz1
  rw [e]
  cases lzB t (n + 1) <;> rfl
theorem lz1_eq : ∀ (L : List (Option Value)) (i : Nat) (v : Value), lz1 L i v = lzq L i v
  | [], i, v => by
    unfold lz1 lzq
    cases lzB [] i <;> rfl
  | a :: t, 0, v => by
    unfold lz1 lzq
    cases lzB (a :: t) 0 <;> rfl
  | a :: t, 1, v => by
    have hq : ∀ t : List (Option Value), lzq t 0 v = t.set 0 (some v) := fun t => by cases t <;> rfl
    cases a with
    | none =>
      show _ = none :: lzq t 0 v
      rw [hq]
      rfl
    | some x =>
      cases x <;> first
        | (show _ = none :: lzq t 0 v; rw [hq]; rfl)
        | (show _ = some _ :: lzq t 0 v; rw [hq]; rfl)
  | a :: t, n + 2, v => by
    rw [lz1_c, lz1_eq t (n + 1) v]
    rfl
abbrev Kt : Type := Nat → List (Option Value) → List Value → List va_E → Prop
def vc (mi : MI) (sc : SC) (P : Pst) (K : Kt) (i : Instr) (pc : Nat) (L : List (Option Value)) (st : List Value) (w : List va_E) : Prop := match i with
  | .iconst n => K (pc + 1) L (.int (Int32.ofInt n) :: st) w
  | .bipush n => K (pc + 2) L (.int (Int32.ofInt n) :: st) w
  | .sipush n => K (pc + 3) L (.int (Int32.ofInt n) :: st) w
  | .lconst n => K (pc + 1) L (.long (Int64.ofNat (n : Nat)) :: st) w
  | .iadd => (match st with | .int y :: .int x :: r => K (pc + 1) L (.int (x + y) :: r) w | _ => False)
  | .isub => (match st with | .int y :: .int x :: r => K (pc + 1) L (.int (x - y) :: r) w | _ => False)
  | .imul => (match st with | .int y :: .int x :: r => K (pc + 1) L (.int (x * y) :: r) w | _ => False)
  | .iand => (match st with | .int y :: .int x :: r => K (pc + 1) L (.int (x &&& y) :: r) w | _ => False)
  | .ior => (match st with | .int y :: .int x :: r => K (pc + 1) L (.int (x ||| y) :: r) w | _ => False)
  | .ishl => (match st with | .int y :: .int x :: r => K (pc + 1) L (.int (x <<< (y &&& 31)) :: r) w | _ => False)
  | .ineg => (match st with | .int x :: r => K (pc + 1) L (.int (-x) :: r) w | _ => False)
  | .idiv => (match st with | .int y :: .int x :: r => ¬ y = 0 ∧ K (pc + 1) L (.int (x / y) :: r) w | _ => False)
  | .irem => (match st with | .int y :: .int x :: r => ¬ y = 0 ∧ K (pc + 1) L (.int (x - x / y * y) :: r) w | _ => False)
  | .ladd => (match st with | .long y :: .long x :: r => K (pc + 1) L (.long (x + y) :: r) w | _ => False)
  | .lsub => (match st with | .long y :: .long x :: r => K (pc + 1) L (.long (x - y) :: r) w | _ => False)
  | .lmul => (match st with | .long y :: .long x :: r => K (pc + 1) L (.long (x * y) :: r) w | _ => False)
  | .land => (match st with | .long y :: .long x :: r => K (pc + 1) L (.long (x &&& y) :: r) w | _ => False)
  | .lor => (match st with | .long y :: .long x :: r => K (pc + 1) L (.long (x ||| y) :: r) w | _ => False)
  | .lushr => (match st with | .int y :: .long x :: r => K (pc + 1) L (.long (x.toUInt64 >>> (y.toInt64.toUInt64 &&& Int64.toUInt64 63)).toInt64 :: r) w | _ => False)
  | .lshl => (match st with | .int y :: .long x :: r => K (pc + 1) L (.long (x <<< (y.toInt64 &&& 63)) :: r) w | _ => False)
  | .lshr => (match st with | .int y :: .long x :: r => K (pc + 1) L (.long (x >>> (y.toInt64 &&& 63)) :: r) w | _ => False)
  | .lcmp => (match st with | .long y :: .long x :: r => K (pc + 1) L (.int (lg_cmp x y) :: r) w | _ => False)
  | .i2l => (match st with | .int x :: r => K (pc + 1) L (.long x.toInt64 :: r) w | _ => False)
  | .l2i => (match st with | .long x :: r => K (pc + 1) L (.int x.toInt32 :: r) w | _ => False)
  | .dup => (match st with | .int x :: r => K (pc + 1) L (.int x :: .int x :: r) w | .ref q :: r => K (pc + 1) L (.ref q :: .ref q :: r) w | _ => False)
  | .dup2 => (match st with | .int x :: .ref q :: r => K (pc + 1) L (.int x :: .ref q :: .int x :: .ref q :: r) w | _ => False)
  | .pop => (match st with | .int _ :: r => K (pc + 1) L r w | _ => False)
  | .iload_n n => (match lkv L (n : Nat) with | some (.int x) => K (pc + 1) L (.int x :: st) w | _ => False)
  | .iload n => (match lkv L n with | some (.int x) => K (pc + 2) L (.int x :: st) w | _ => False)
  | .lload_n n => (match lkv L (n : Nat) with | some (.long x) => K (pc + 1) L (.long x :: st) w | _ => False)
  | .lload n => (match lkv L n with | some (.long x) => K (pc + 2) L (.long x :: st) w | _ => False)
  | .aload_n n => (match lkv L (n : Nat) with | some (.ref x) => K (pc + 1) L (.ref x :: st) w | _ => False)
  | .aload n => (match lkv L n with | some (.ref x) => K (pc + 2) L (.ref x :: st) w | _ => False)
  | .istore_n n => (match st with | .int x :: r => K (pc + 1) (lzq L (n : Nat) (.int x)) r w | _ => False)
  | .istore n => (match st with | .int x :: r => K (pc + 2) (lzq L n (.int x)) r w | _ => False)
  | .astore_n n => (match st with | .ref x :: r => K (pc + 1) (lzq L (n : Nat) (.ref x)) r w | _ => False)
  | .astore n => (match st with | .ref x :: r => K (pc + 2) (lzq L n (.ref x)) r w | _ => False)
  | .lstore_n n => (match st with | .long x :: r => K (pc + 1) (lz2 L (n : Nat) (.long x)) r w | _ => False)
  | .lstore n => (match st with | .long x :: r => K (pc + 2) (lz2 L n (.long x)) r w | _ => False)
  | .iinc n z => (match lkv L n with | some (.int x) => K (pc + 3) (lzq L n (.int (x + Int32.ofInt z))) st w | _ => False)
  | .goto off => K (tgt pc off) L st w
  | .ifCond .eq off => (match st with | .int x :: r => (x = 0 → K (tgt pc off) L r w) ∧ (¬ x = 0 → K (pc + 3) L r w) | _ => False)
  | .ifCond .ne off => (match st with | .int x :: r => (¬ x = 0 → K (tgt pc off) L r w) ∧ (x = 0 → K (pc + 3) L r w) | _ => False)
  | .ifCond .lt off => (match st with | .int x :: r => (x < 0 → K (tgt pc off) L r w) ∧ (¬ x < 0 → K (pc + 3) L r w) | _ => False)
  | .ifCond .ge off => (match st with | .int x :: r => (0 ≤ x → K (tgt pc off) L r w) ∧ (¬ 0 ≤ x → K (pc + 3) L r w) | _ => False)
  | .ifCond .gt off => (match st with | .int x :: r => (0 < x → K (tgt pc off) L r w) ∧ (¬ 0 < x → K (pc + 3) L r w) | _ => False)
  | .ifCond .le off => (match st with | .int x :: r => (x ≤ 0 → K (tgt pc off) L r w) ∧ (¬ x ≤ 0 → K (pc + 3) L r w) | _ => False)
  | .if_icmp .eq off => (match st with | .int y :: .int x :: r => (x = y → K (tgt pc off) L r w) ∧ (¬ x = y → K (pc + 3) L r w) | _ => False)
  | .if_icmp .ne off => (match st with | .int y :: .int x :: r => (¬ x = y → K (tgt pc off) L r w) ∧ (x = y → K (pc + 3) L r w) | _ => False)
  | .if_icmp .lt off => (match st with | .int y :: .int x :: r => (x < y → K (tgt pc off) L r w) ∧ (¬ x < y → K (pc + 3) L r w) | _ => False)
  | .if_icmp .ge off => (match st with | .int y :: .int x :: r => (y ≤ x → K (tgt pc off) L r w) ∧ (¬ y ≤ x → K (pc + 3) L r w) | _ => False)
  | .if_icmp .gt off => (match st with | .int y :: .int x :: r => (y < x → K (tgt pc off) L r w) ∧ (¬ y < x → K (pc + 3) L r w) | _ => False)
  | .if_icmp .le off => (match st with | .int y :: .int x :: r => (x ≤ y → K (tgt pc off) L r w) ∧ (¬ x ≤ y → K (pc + 3) L r w) | _ => False)
  | .return_ => (match st with | [] => P none w | _ => False)
  | .ireturn => (match st with | [.int x] => (mi.2.2.2.2 = some .boolean → x = 0 ∨ x = 1) ∧ P (some (.int x)) w | _ => False)
  | .lreturn => (match st with | [.long x] => P (some (.long x)) w | _ => False)
  | .getfield i => (match st with | .ref q :: r => (match fzl (fz mi.1) i with | some (ci, k, _) => (match lk w q with | some (.inr (c, fs)) => (match c == ci with | true => (match lkf fs k with | some v => K (pc + 3) L (v :: r) w | none => False) | false => False) | _ => False) | none => False) | _ => False)
  | .putfield i => (match st with | .int x :: .ref q :: r => (match fzl (fz mi.1) i with | some (ci, k, _) => (match lk w q with | some (.inr (c, fs)) => (match (c == ci) && ((Nat.blt k fs.length) && !(finA ci k)) with | true => (tyA ci k = .boolean → x = 0 ∨ x = 1) ∧ (tyA ci k = .int ∨ tyA ci k = .boolean) ∧ K (pc + 3) L r (w.set q (.inr (c, fs.set k (.int x)))) | false => False) | _ => False) | none => False) | _ => False)
  | .iaload => (match st with | .int i :: .ref q :: r => (match Nat.ble 1000 q with | true => (match q == 1000 with | true => vp_in i 4 ∧ K (pc + 1) L (.int (wXf i.toNatClampNeg) :: r) w | false => (match q == 1001 with | true => vp_in i 4 ∧ K (pc + 1) L (.int (wYf i.toNatClampNeg) :: r) w | false => (match q == 1006 with | true => vp_in i sc.1 ∧ K (pc + 1) L (.int (sc.2 i.toNatClampNeg) :: r) w | false => False))) | false => (match lk w q with | some (.inl (0, n, .inl f)) => vp_in i n ∧ K (pc + 1) L (.int (f i.toNatClampNeg) :: r) w | _ => False)) | _ => False)
  | .baload => (match st with | .int i :: .ref q :: r => (match lk w q with | some (.inl (1, n, .inl f)) => vp_in i n ∧ K (pc + 1) L (.int (f i.toNatClampNeg) :: r) w | _ => False) | _ => False)
  | .aaload => (match st with | .int i :: .ref q :: r => (match lk w q with | some (.inl (t, n, .inr (.inr (.inr (.inr f))))) => (match Nat.blt 1 t && Nat.blt t 5 with | true => vp_in i n ∧ ∃ q2, f i.toNatClampNeg = some q2 ∧ K (pc + 1) L (.ref q2 :: r) w | false => False) | _ => False) | _ => False)
  | .iastore => (match st with | .int x :: .int i :: .ref q :: r => (match lk w q with | some (.inl (0, n, .inl f)) => vp_in i n ∧ K (pc + 1) L r (w.set q (.inl (0, n, .inl (upd f i.toNatClampNeg x)))) | _ => False) | _ => False)
  | .bastore => (match st with | .int x :: .int i :: .ref q :: r => (match lk w q with | some (.inl (1, n, .inl f)) => vp_in i n ∧ (x = 0 ∨ x = 1) ∧ K (pc + 1) L r (w.set q (.inl (1, n, .inl (upd f i.toNatClampNeg x)))) | _ => False) | _ => False)
  | .arraylength => (match st with | .ref q :: r => (match q == 1006 with | true => K (pc + 1) L (.int (Int32.ofNat sc.1) :: r) w | false => False) | _ => False)
  | .getstatic i => (match gst mi.1 i == 1000 with | true => K (pc + 3) L (.ref 1000 :: st) w | false => (match gst mi.1 i == 1001 with | true => K (pc + 3) L (.ref 1001 :: st) w | false => False))
  | .ldc2_w i => (match lcl (lcA mi.1) i with | some v => K (pc + 3) L (.long v :: st) w | none => False)
  | .ldc i => (match i == 62 with | true => K (pc + 2) L (.ref 1002 :: st) w | false => (match i == 68 with | true => K (pc + 2) L (.ref 1003 :: st) w | false => False))
  | _ => False
def vcs (mi : MI) (sc : SC) (P : Pst) (K : Kt) : List Instr → Kt
  | [] => K
  | i :: t => vc mi sc P (vcs mi sc P K t) i
section GB
variable {sc : SC} {d mc ms n0 : Nat} {mi : MI} {P : Pst} {kc ks : Nat} {pc : Nat} {L : List (Option Value)} {st r : List Value} {w : List va_E}
set_option maxHeartbeats 4000000 in
theorem g_one (hkc : kc ≤ mc ∧ ks ≤ ms) {i : Instr} (hd : decode mi.2.2.1 pc = .ok (i, lenI i)) (hi : okI mi pc i = true) {K : Kt} (hK : ∀ pc2 L st w, (isBr i = true ∨ pc2 = pc + lenI i) → K pc2 L st w → Good sc d mc ms n0 mi P kc ks pc2 L st w) (h : vc mi sc P K i pc L st w) : Good sc d mc ms n0 mi P kc ks pc L st w := by
  unfold vc at h
  cases i with
  | iconst n => exact g_iconst hd (hK _ _ _ _ (Or.inr rfl) h)
  | bipush n =>
    refine g_bipush hd ?_
    rw [show (Int8.ofInt n).toInt32 = Int32.ofInt n from of_decide_eq_true hi]
    exact (hK _ _ _ _ (Or.inr rfl) h)
  | sipush n =>
    refine g_sipush hd ?_
    rw [show (Int16.ofInt n).toInt32 = Int32.ofInt n from of_decide_eq_true hi]
    exact (hK _ _ _ _ (Or.inr rfl) h)
  | lconst n => exact g_lconst hd (hK _ _ _ _ (Or.inr rfl) h)
  | iadd =>
    dsimp only at h
    split at h
    · exact g_iadd hd (hK _ _ _ _ (Or.inr rfl) h)
    · exact h.elim
  | isub =>
    dsimp only at h
    split at h
    · exact g_isub hd (hK _ _ _ _ (Or.inr rfl) h)
    · exact h.elim
  | imul =>
    dsimp only at h
    split at h
    · exact g_imul hd (hK _ _ _ _ (Or.inr rfl) h)
    · exact h.elim
  | iand =>
    dsimp only at h
    split at h
    · exact g_iand hd (hK _ _ _ _ (Or.inr rfl) h)
    · exact h.elim
  | ior =>
    dsimp only at h
    split at h
    · exact g_ior hd (hK _ _ _ _ (Or.inr rfl) h)
    · exact h.elim
  | ishl =>
    dsimp only at h
    split at h
    · exact g_ishl hd (hK _ _ _ _ (Or.inr rfl) h)
    · exact h.elim
  | ineg =>
    dsimp only at h
    split at h
    · exact g_ineg hd (hK _ _ _ _ (Or.inr rfl) h)
    · exact h.elim
  | ladd =>
    dsimp only at h
    split at h
    · exact g_ladd hd (hK _ _ _ _ (Or.inr rfl) h)
    · exact h.elim
  | lsub =>
    dsimp only at h
    split at h
    · exact g_lsub hd (hK _ _ _ _ (Or.inr rfl) h)
    · exact h.elim
  | lmul =>
    dsimp only at h
    split at h
    · exact g_lmul hd (hK _ _ _ _ (Or.inr rfl) h)
    · exact h.elim
  | land =>
    dsimp only at h
    split at h
    · exact g_land hd (hK _ _ _ _ (Or.inr rfl) h)
    · exact h.elim
  | lor =>
    dsimp only at h
    split at h
    · exact g_lor hd (hK _ _ _ _ (Or.inr rfl) h)
    · exact h.elim
  | lushr =>
    dsimp only at h
    split at h
    · exact g_lushr hd (hK _ _ _ _ (Or.inr rfl) h)
    · exact h.elim
  | lshl =>
    dsimp only at h
    split at h
    · exact g_lshl hd (hK _ _ _ _ (Or.inr rfl) h)
    · exact h.elim
  | lshr =>
    dsimp only at h
    split at h
    · exact g_lshr hd (hK _ _ _ _ (Or.inr rfl) h)
    · exact h.elim
  | lcmp =>
    dsimp only at h
    split at h
    · exact g_lcmp hd (hK _ _ _ _ (Or.inr rfl) h)
    · exact h.elim
  | i2l =>
    dsimp only at h
    split at h
    · exact g_i2l hd (hK _ _ _ _ (Or.inr rfl) h)
    · exact h.elim
  | l2i =>
    dsimp only at h
    split at h
    · exact g_l2i hd (hK _ _ _ _ (Or.inr rfl) h)
    · exact h.elim
  | dup2 =>
    dsimp only at h
    split at h
    · exact g_dup2 hd (hK _ _ _ _ (Or.inr rfl) h)
    · exact h.elim
  | pop =>
    dsimp only at h
    split at h
    · exact g_popi hd (hK _ _ _ _ (Or.inr rfl) h)
    · exact h.elim
  | dup =>
    dsimp only at h
    split at h
    · exact g_dupi hd (hK _ _ _ _ (Or.inr rfl) h)
    · exact g_dupr hd (hK _ _ _ _ (Or.inr rfl) h)
    · exact h.elim
  | idiv =>
    dsimp only at h
    split at h
    · exact g_idiv h.1 hd (hK _ _ _ _ (Or.inr rfl) h.2)
    · exact h.elim
  | irem =>
    dsimp only at h
    split at h
    · exact g_irem h.1 hd (hK _ _ _ _ (Or.inr rfl) h.2)
    · exact h.elim
  | iload_n n =>
    dsimp only at h
    split at h
    next x hx => exact g_iload_n hx hd (hK _ _ _ _ (Or.inr rfl) h)
    next => exact h.elim
  | iload n =>
    dsimp only at h
    split at h
    next x hx => exact g_iload hx hd (hK _ _ _ _ (Or.inr rfl) h)
    next => exact h.elim
  | lload_n n =>
    dsimp only at h
    split at h
    next x hx => exact g_lload_n hx hd (hK _ _ _ _ (Or.inr rfl) h)
    next => exact h.elim
  | lload n =>
    dsimp only at h
    split at h
    next x hx => exact g_lload hx hd (hK _ _ _ _ (Or.inr rfl) h)
    next => exact h.elim
  | aload_n n =>
    dsimp only at h
    split at h
    next x hx => exact g_aload_n hx hd (hK _ _ _ _ (Or.inr rfl) h)
    next => exact h.elim
  | aload n =>
    dsimp only at h
    split at h
    next x hx => exact g_aload hx hd (hK _ _ _ _ (Or.inr rfl) h)
    next => exact h.elim
  | istore_n n =>
    dsimp only at h
    split at h
    · refine g_istore_n (of_decide_eq_true hi) hd ?_
      rw [lz1_eq]
      exact (hK _ _ _ _ (Or.inr rfl) h)
    · exact h.elim
  | istore n =>
    dsimp only at h
    split at h
    · refine g_istore (of_decide_eq_true hi) hd ?_
      rw [lz1_eq]
      exact (hK _ _ _ _ (Or.inr rfl) h)
    · exact h.elim
  | astore_n n =>
    dsimp only at h
    split at h
    · refine g_astore_n (of_decide_eq_true hi) hd ?_
      rw [lz1_eq]
      exact (hK _ _ _ _ (Or.inr rfl) h)
    · exact h.elim
  | astore n =>
    dsimp only at h
    split at h
    · refine g_astore (of_decide_eq_true hi) hd ?_
      rw [lz1_eq]
      exact (hK _ _ _ _ (Or.inr rfl) h)
    · exact h.elim
  | lstore_n n =>
    dsimp only at h
    split at h
    · exact g_lstore_n (of_decide_eq_true hi) hd (hK _ _ _ _ (Or.inr rfl) h)
    · exact h.elim
  | lstore n =>
    dsimp only at h
    split at h
    · exact g_lstore (of_decide_eq_true hi) hd (hK _ _ _ _ (Or.inr rfl) h)
    · exact h.elim
  | iinc n z =>
    dsimp only at h
    split at h
    next x hx =>
      refine g_iinc hx (of_decide_eq_true hi) hd ?_
      rw [lz1_eq]
      exact (hK _ _ _ _ (Or.inr rfl) h)
    next => exact h.elim
  | goto off => exact g_goto (of_decide_eq_true hi) hd (hK _ _ _ _ (Or.inl rfl) h)
  | ifCond cn off =>
    cases cn <;> (dsimp only at h; split at h)
    all_goals first | exact h.elim | exact g_if_eq (of_decide_eq_true hi) hd (fun z => hK _ _ _ _ (Or.inl rfl) (h.1 z)) (fun z => hK _ _ _ _ (Or.inl rfl) (h.2 z)) | exact g_if_ne (of_decide_eq_true hi) hd (fun z => hK _ _ _ _ (Or.inl rfl) (h.1 z)) (fun z => hK _ _ _ _ (Or.inl rfl) (h.2 z)) | exact g_if_lt (of_decide_eq_true hi) hd (fun z => hK _ _ _ _ (Or.inl rfl) (h.1 z)) (fun z => hK _ _ _ _ (Or.inl rfl) (h.2 z)) | exact g_if_ge (of_decide_eq_true hi) hd (fun z => hK _ _ _ _ (Or.inl rfl) (h.1 z)) (fun z => hK _ _ _ _ (Or.inl rfl) (h.2 z)) | exact g_if_gt (of_decide_eq_true hi) hd (fun z => hK _ _ _ _ (Or.inl rfl) (h.1 z)) (fun z => hK _ _ _ _ (Or.inl rfl) (h.2 z)) | exact g_if_le (of_decide_eq_true hi) hd (fun z => hK _ _ _ _ (Or.inl rfl) (h.1 z)) (fun z => hK _ _ _ _ (Or.inl rfl) (h.2 z))
  | if_icmp cn off =>
    cases cn <;> (dsimp only at h; split at h)
    all_goals first | exact h.elim | exact g_icmp_eq (of_decide_eq_true hi) hd (fun z => hK _ _ _ _ (Or.inl rfl) (h.1 z)) (fun z => hK _ _ _ _ (Or.inl rfl) (h.2 z)) | exact g_icmp_ne (of_decide_eq_true hi) hd (fun z => hK _ _ _ _ (Or.inl rfl) (h.1 z)) (fun z => hK _ _ _ _ (Or.inl rfl) (h.2 z)) | exact g_icmp_lt (of_decide_eq_true hi) hd (fun z => hK _ _ _ _ (Or.inl rfl) (h.1 z)) (fun z => hK _ _ _ _ (Or.inl rfl) (h.2 z)) | exact g_icmp_ge (of_decide_eq_true hi) hd (fun z => hK _ _ _ _ (Or.inl rfl) (h.1 z)) (fun z => hK _ _ _ _ (Or.inl rfl) (h.2 z)) | exact g_icmp_gt (of_decide_eq_true hi) hd (fun z => hK _ _ _ _ (Or.inl rfl) (h.1 z)) (fun z => hK _ _ _ _ (Or.inl rfl) (h.2 z)) | exact g_icmp_le (of_decide_eq_true hi) hd (fun z => hK _ _ _ _ (Or.inl rfl) (h.1 z)) (fun z => hK _ _ _ _ (Or.inl rfl) (h.2 z))
  | return_ =>
    dsimp only at h
    split at h
    · exact g_ret hd (of_decide_eq_true hi) hkc h
    · exact h.elim
  | ireturn =>
    dsimp only at h
    split at h
    · have hi2 : mi.2.2.2.2 = some .int ∨ mi.2.2.2.2 = some .boolean := of_decide_eq_true hi
      rcases hi2 with e | e
      · exact g_ireti hd e hkc h.2
      · exact g_iretz hd e (h.1 e) hkc h.2
    · exact h.elim
  | lreturn =>
    dsimp only at h
    split at h
    · exact g_lret hd (of_decide_eq_true hi) hkc h
    · exact h.elim
  | getfield i =>
    dsimp only at h
    split at h
    · split at h
      next ci k b hf =>
        split at h
        next c fs hw =>
          split at h
          next hb =>
            have e : c = ci := by simpa using hb
            subst e
            split at h
            next v hv => exact g_getf (of_decide_eq_true hi) hf hw hv hd (hK _ _ _ _ (Or.inr rfl) h)
            next => exact h.elim
          next => exact h.elim
        next => exact h.elim
      next => exact h.elim
    · exact h.elim
  | putfield i =>
    dsimp only at h
    split at h
    · split at h
      next ci k b hf =>
        split at h
        next c fs hw =>
          split at h
          next hb =>
            simp only [Bool.and_eq_true, beq_iff_eq, Bool.not_eq_true'] at hb
            obtain ⟨e, hb1, hb2⟩ := hb
            subst e
            obtain ⟨h1, h2, h3⟩ := h
            exact g_putf (of_decide_eq_true hi) hf hw hb1 hb2 (h2.elim Or.inl (fun z => Or.inr ⟨z, h1 z⟩)) hd (hK _ _ _ _ (Or.inr rfl) h3)
          next => exact h.elim
        next => exact h.elim
      next => exact h.elim
    · exact h.elim
  | iaload =>
    dsimp only at h
    split at h
    · split at h
      · split at h
        next e => cases (show _ = 1000 by simpa using e); exact g_ldX h.1 hd (hK _ _ _ _ (Or.inr rfl) h.2)
        next =>
          split at h
          next e => cases (show _ = 1001 by simpa using e); exact g_ldY h.1 hd (hK _ _ _ _ (Or.inr rfl) h.2)
          next =>
            split at h
            next e => cases (show _ = 1006 by simpa using e); exact g_lds h.1 hd (hK _ _ _ _ (Or.inr rfl) h.2)
            next => exact h.elim
      · split at h
        next n f hw => exact g_iald hw h.1 hd (hK _ _ _ _ (Or.inr rfl) h.2)
        next => exact h.elim
    · exact h.elim
  | baload =>
    dsimp only at h
    split at h
    · split at h
      next n f hw => exact g_zald hw h.1 hd (hK _ _ _ _ (Or.inr rfl) h.2)
      next => exact h.elim
    · exact h.elim
  | aaload =>
    dsimp only at h
    split at h
    · split at h
      next t n f hw =>
        split at h
        next hb =>
          obtain ⟨h1, q2, h2, h3⟩ := h
          simp only [Bool.and_eq_true, Nat.blt_eq] at hb
          exact g_aldo (t := t) (by omega) hw h1 h2 hd (hK _ _ _ _ (Or.inr rfl) h3)
        next => exact h.elim
      next => exact h.elim
    · exact h.elim
  | iastore =>
    dsimp only at h
    split at h
    · split at h
      next n f hw => exact g_iast hw h.1 hd (hK _ _ _ _ (Or.inr rfl) h.2)
      next => exact h.elim
    · exact h.elim
  | bastore =>
    dsimp only at h
    split at h
    · split at h
      next n f hw => exact g_zast hw h.1 h.2.1 hd (hK _ _ _ _ (Or.inr rfl) h.2.2)
      next => exact h.elim
    · exact h.elim
  | arraylength =>
    dsimp only at h
    split at h
    · split at h
      next e => cases (show _ = 1006 by simpa using e); exact g_slen hd (hK _ _ _ _ (Or.inr rfl) h)
      next => exact h.elim
    · exact h.elim
  | getstatic i =>
    have ho : ownS mi.1 = mi.2.1.cls := of_decide_eq_true hi
    have key : ∀ k, gst mi.1 i = k → (k = 1000 → Cond.fieldLinkNest mi.2.1.cls i "FoldedBoard" "WAY_X" "[I" "FoldedBoard" ∈ nw) ∧ (k = 1001 → Cond.fieldLinkNest mi.2.1.cls i "FoldedBoard" "WAY_Y" "[I" "FoldedBoard" ∈ nw) := by
      intro k hk
      rw [← ho]
      unfold gst at hk
      generalize mi.1 = cn at hk ⊢
      split at hk
      · split at hk
        next e =>
          have e : i = 84 := by simpa using e
          subst e
          exact ⟨fun _ => gst_nw (q := (RX3, 84, "WAY_X")) (by simp), fun z => by omega⟩
        next =>
          split at hk
          next e =>
            have e : i = 87 := by simpa using e
            subst e
            exact ⟨fun z => by omega, fun _ => gst_nw (q := (RX3, 87, "WAY_Y")) (by simp)⟩
          next => exact ⟨fun z => by omega, fun z => by omega⟩
      · split at hk
        next e =>
          have e : i = 37 := by simpa using e
          subst e
          exact ⟨fun _ => gst_nw (q := (RX7, 37, "WAY_X")) (by simp), fun z => by omega⟩
        next =>
          split at hk
          next e =>
            have e : i = 43 := by simpa using e
            subst e
            exact ⟨fun z => by omega, fun _ => gst_nw (q := (RX7, 43, "WAY_Y")) (by simp)⟩
          next => exact ⟨fun z => by omega, fun z => by omega⟩
      · exact ⟨fun z => by omega, fun z => by omega⟩
    dsimp only at h
    split at h
    next e => exact g_getX ((key _ rfl).1 (by simpa using e)) hd (hK _ _ _ _ (Or.inr rfl) h)
    next =>
      split at h
      next e => exact g_getY ((key _ rfl).2 (by simpa using e)) hd (hK _ _ _ _ (Or.inr rfl) h)
      next => exact h.elim
  | ldc2_w i =>
    have ho : ownS mi.1 = mi.2.1.cls := of_decide_eq_true hi
    dsimp only at h
    split at h
    next v hv => exact g_ldc2 (by rw [← ho]; exact lc_fact hv) hd (hK _ _ _ _ (Or.inr rfl) h)
    next => exact h.elim
  | ldc i =>
    dsimp only at h
    split at h
    next e => cases (show i = 62 by simpa using e); exact g_ldstep (of_decide_eq_true hi) hd (hK _ _ _ _ (Or.inr rfl) h)
    next =>
      split at h
      next e => cases (show i = 68 by simpa using e); exact g_ldfold (of_decide_eq_true hi) hd (hK _ _ _ _ (Or.inr rfl) h)
      next => exact h.elim
  | _ => exact h.elim
/-- a block of instructions, at once -/
theorem g_blk (hkc : kc ≤ mc ∧ ks ≤ ms) : ∀ {is : List Instr} {pc : Nat} {L : List (Option Value)} {st : List Value} {w : List va_E}, okB mi pc is = true → vcs mi sc P (Good sc d mc ms n0 mi P kc ks) is pc L st w → Good sc d mc ms n0 mi P kc ks pc L st w
  | [], pc, L, st, w, _, h => h
  | i :: t, pc, L, st, w, hok, h => by
    unfold okB at hok
    simp only [Bool.and_eq_true, decide_eq_true_eq] at hok
    obtain ⟨h1, h2, h3, h4⟩ := hok
    refine g_one hkc h1 h2 (K := vcs mi sc P (Good sc d mc ms n0 mi P kc ks) t) (fun pc2 L2 st2 w2 hz hk => ?_) h
    rcases hz with hz | hz
    · rw [hz] at h3
      have ht : t = [] := by simpa using h3
      subst ht
      exact hk
    · subst hz
      exact g_blk hkc h4 hk
end GB
