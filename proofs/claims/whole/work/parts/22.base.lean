/-! the ground of the methods' contracts: plain answers, plain calls, loops -/
theorem hz0 : (0 : Nat) ≤ 0 ∧ (0 : Nat) ≤ 0 := ⟨Nat.le_refl _, Nat.le_refl _⟩
/-- the answer is v, the world w -/
def Ret (v : Option Value) (w : List va_E) : Pst := fun r w2 => r = v ∧ w2 = w
abbrev RI (x : Int32) (w : List va_E) : Pst := Ret (some (.int x)) w
abbrev RV (w : List va_E) : Pst := Ret none w
def bi (b : Bool) : Int32 := match b with
  | true => 1
  | false => 0
theorem bi01 (b : Bool) : bi b = 0 ∨ bi b = 1 := by cases b <;> simp [bi]
/-- a loop's value: step at i, i + 1 .., n times -/
def lp {α : Type} (step : Nat → α → α) : Nat → Nat → α → α
  | 0, _, a => a
  | n + 1, i, a => lp step n (i + 1) (step i a)
theorem for_up {α : Type} (N : Nat) (step : Nat → α → α) (Inv : Nat → α → Prop) (Gd : Nat → α → α → Prop) (hend : ∀ a, Inv N a → Gd N a a)
    (hstep : ∀ i a fin, i < N → Inv i a → (Inv (i + 1) (step i a) → Gd (i + 1) (step i a) fin) → Gd i a fin) (hinv : ∀ i a, i < N → Inv i a → Inv (i + 1) (step i a)) : ∀ n i a, i + n = N → Inv i a → Gd i a (lp step n i a) := by
  intro n
  induction n with
  | zero =>
    intro i a h hI
    have e : i = N := by omega
    subst e
    exact hend a hI
  | succ n ih =>
    intro i a h hI
    exact hstep i a _ (by omega) hI (fun _ => ih (i + 1) (step i a) (by omega) (hinv i a (by omega) hI))
theorem putW_same {w w1 : List va_E} {sl : List Nat} (hsl : va_nd sl = true) (hmap : sl.map (lk w) = w1.map (fun e => some (ren sl e))) : putW w sl (w1.map (ren sl)) = w := by
  have hll : sl.length = w1.length := by
    have := congrArg List.length hmap
    simpa using this
  have hat : ∀ j k : Nat, sl[j]? = some k → ∃ e, w1[j]? = some e ∧ w[k]? = some (ren sl e) := by
    intro j k hj
    have h1 : (sl.map (lk w))[j]? = some (lk w k) := by rw [List.getElem?_map, hj]; rfl
    rw [hmap, List.getElem?_map] at h1
    cases h2 : w1[j]? with
    | none => rw [h2] at h1; cases h1
    | some x =>
      rw [h2] at h1
      have h3 : lk w k = some (ren sl x) := by simpa using h1.symm
      rw [lk_eq] at h3
      exact ⟨x, rfl, h3⟩
  apply List.ext_getElem?
  intro k
  by_cases hk : k ∈ sl
  · obtain ⟨j, hj⟩ := List.getElem?_of_mem hk
    obtain ⟨x, h1, h2⟩ := hat j k hj
    rw [h2]
    exact putW_at w sl _ hsl (fun k hk => by
      obtain ⟨j, hj⟩ := List.getElem?_of_mem hk
      obtain ⟨x, -, h2⟩ := hat j k hj
      exact (List.getElem?_eq_some_iff.mp h2).1) j k _ hj (by rw [List.getElem?_map, h1]; rfl)
  · exact putW_ne w sl _ k hk
theorem Sof {d : Nat} {mi : MI} {av : List Value} {w : List va_E} {P : Pst} (h : ∀ sc, Good sc d 0 0 w.length mi P 0 0 0 (padL mi.2.2.2.1 (entL av)) [] w) (hy : plainName mi.2.1.cls = true := by rfl) (hw : w.length ≤ 1000 := by exact Nat.le_of_ble_eq_true rfl) (hav : catS av ≤ mi.2.2.2.1 := by exact Nat.le_of_ble_eq_true rfl) : Spec d 0 0 mi av w P := Spec.of hy hw hav h
section CB
variable {sc : SC} {d mc ms n0 : Nat} {mi : MI} {P : Pst} {kc ks : Nat} {pc : Nat} {L : List (Option Value)} {st r : List Value} {w : List va_E}
/-- a virtual call that leaves its world as it is -/
theorem cVp {i k n d1 : Nat} {mi1 : MI} {q1 : Nat} {av : List Value} {fs : List Value} {x : Value} (sl : List Nat) (w1 : List va_E) (hs : Spec d1 0 0 mi1 (.ref q1 :: av) w1 (Ret (some x) w1)) (hz : mzl (mz mi.1) i = some (mi1, k, n)) (hcode : Cond.code mi1.2.1 mi1.2.2.1 mi1.2.2.2.1 mi1.2.2.2.2 ∈ gw) (hd : decode mi.2.2.1 pc = .ok (.invokevirtual i, 3)) (hst : st = (av.map (rnv sl)).reverse ++ .ref (sg sl q1) :: r) (hw1 : lk w1 q1 = some (.inr (mi1.1, fs))) (hmap : sl.map (lk w) = w1.map (fun e => some (ren sl e))) (kk : Good sc d mc ms n0 mi P kc ks (pc + 3) L (rnv sl x :: r) w)
    (ho : ownS mi.1 = mi.2.1.cls := by rfl) (hk : k = 0 ∨ k = 3 := by decide) (hd1 : d1 < d := by decide) (hkc : kc ≤ mc ∧ ks ≤ ms := by exact hz0) (hsl : va_nd sl = true := by decide) (hl1 : w1.length ≤ 1000 := by exact Nat.le_of_ble_eq_true rfl) (hq1 : q1 < 1000 := by decide) (hav : av.length = n := by rfl) (hr : catS r ≤ 8 := by exact Nat.le_of_ble_eq_true rfl) : Good sc d mc ms n0 mi P kc ks pc L st w := by
  refine g_callV ho hz hcode hk hd1 hkc sl w1 hsl hl1 hq1 hmap hw1 hst hav hr hd hs (fun v w2 h => ?_)
  obtain ⟨rfl, rfl⟩ := h
  refine ⟨rfl, ?_⟩
  rw [putW_same hsl hmap]
  exact kk
/-- a virtual call that answers and changes its world -/
theorem cV {i k n d1 : Nat} {mi1 : MI} {q1 : Nat} {av : List Value} {fs : List Value} {x : Option Value} {w3 : List va_E} (sl : List Nat) (w1 : List va_E) (hs : Spec d1 0 0 mi1 (.ref q1 :: av) w1 (Ret x w3)) (hz : mzl (mz mi.1) i = some (mi1, k, n)) (hcode : Cond.code mi1.2.1 mi1.2.2.1 mi1.2.2.2.1 mi1.2.2.2.2 ∈ gw) (hd : decode mi.2.2.1 pc = .ok (.invokevirtual i, 3)) (hst : st = (av.map (rnv sl)).reverse ++ .ref (sg sl q1) :: r) (hw1 : lk w1 q1 = some (.inr (mi1.1, fs))) (hmap : sl.map (lk w) = w1.map (fun e => some (ren sl e))) (hlen : w3.length = w1.length) (w4 : List va_E) (hw4 : putW w sl (w3.map (ren sl)) = w4) (kk : Good sc d mc ms n0 mi P kc ks (pc + 3) L ((x.map (rnv sl)).toList ++ r) w4)
    (ho : ownS mi.1 = mi.2.1.cls := by rfl) (hk : k = 0 ∨ k = 3 := by decide) (hd1 : d1 < d := by decide) (hkc : kc ≤ mc ∧ ks ≤ ms := by exact hz0) (hsl : va_nd sl = true := by decide) (hl1 : w1.length ≤ 1000 := by exact Nat.le_of_ble_eq_true rfl) (hq1 : q1 < 1000 := by decide) (hav : av.length = n := by rfl) (hr : catS r ≤ 8 := by exact Nat.le_of_ble_eq_true rfl) : Good sc d mc ms n0 mi P kc ks pc L st w := by
  refine g_callV ho hz hcode hk hd1 hkc sl w1 hsl hl1 hq1 hmap hw1 hst hav hr hd hs (fun v w2 h => ?_)
  obtain ⟨rfl, rfl⟩ := h
  subst hw4
  exact ⟨hlen, kk⟩
/-- a static call without a world -/
theorem cS0 {i k n d1 : Nat} {mi1 : MI} {av : List Value} {x : Value} (hs : Spec d1 0 0 mi1 av [] (Ret (some x) [])) (hz : mzl (mz mi.1) i = some (mi1, k, n)) (hcode : Cond.code mi1.2.1 mi1.2.2.1 mi1.2.2.2.1 mi1.2.2.2.2 ∈ gw) (hd : decode mi.2.2.1 pc = .ok (.invokestatic i, 3)) (hst : st = (av.map (rnv [])).reverse ++ r) (kk : Good sc d mc ms n0 mi P kc ks (pc + 3) L (rnv [] x :: r) w)
    (ho : ownS mi.1 = mi.2.1.cls := by rfl) (hk : k = 1 ∨ k = 4 := by decide) (hd1 : d1 < d := by decide) (hkc : kc ≤ mc ∧ ks ≤ ms := by exact hz0) (hav : av.length = n := by rfl) (hr : catS r ≤ 8 := by exact Nat.le_of_ble_eq_true rfl) : Good sc d mc ms n0 mi P kc ks pc L st w := by
  refine g_callS ho hz hcode hk hd1 hkc [] [] rfl (Nat.zero_le _) rfl hst hav hr hd hs (fun v w2 h => ?_)
  obtain ⟨rfl, rfl⟩ := h
  exact ⟨rfl, kk⟩
/-- a static call on a part of the world -/
theorem cS {i k n d1 : Nat} {mi1 : MI} {av : List Value} {x : Option Value} {w3 : List va_E} (sl : List Nat) (w1 : List va_E) (hs : Spec d1 0 0 mi1 av w1 (Ret x w3)) (hz : mzl (mz mi.1) i = some (mi1, k, n)) (hcode : Cond.code mi1.2.1 mi1.2.2.1 mi1.2.2.2.1 mi1.2.2.2.2 ∈ gw) (hd : decode mi.2.2.1 pc = .ok (.invokestatic i, 3)) (hst : st = (av.map (rnv sl)).reverse ++ r) (hmap : sl.map (lk w) = w1.map (fun e => some (ren sl e))) (hlen : w3.length = w1.length) (w4 : List va_E) (hw4 : putW w sl (w3.map (ren sl)) = w4) (kk : Good sc d mc ms n0 mi P kc ks (pc + 3) L ((x.map (rnv sl)).toList ++ r) w4)
    (ho : ownS mi.1 = mi.2.1.cls := by rfl) (hk : k = 1 ∨ k = 4 := by decide) (hd1 : d1 < d := by decide) (hkc : kc ≤ mc ∧ ks ≤ ms := by exact hz0) (hsl : va_nd sl = true := by decide) (hl1 : w1.length ≤ 1000 := by exact Nat.le_of_ble_eq_true rfl) (hav : av.length = n := by rfl) (hr : catS r ≤ 8 := by exact Nat.le_of_ble_eq_true rfl) : Good sc d mc ms n0 mi P kc ks pc L st w := by
  refine g_callS ho hz hcode hk hd1 hkc sl w1 hsl hl1 hmap hst hav hr hd hs (fun v w2 h => ?_)
  obtain ⟨rfl, rfl⟩ := h
  subst hw4
  exact ⟨hlen, kk⟩
/-- fewer locals are known -/
def leL : List (Option Value) → List (Option Value) → Prop
  | [], _ => True
  | none :: a, _ :: b => leL a b
  | some v :: a, some u :: b => v = u ∧ leL a b
  | _, _ => False
theorem leL_get : ∀ {a b : List (Option Value)}, leL a b → ∀ (i : Nat) (v : Value), a[i]? = some (some v) → b[i]? = some (some v)
  | [], _, _, i, v, h => by simp at h
  | none :: a, [], hl, i, v, h => by simp [leL] at hl
  | none :: a, y :: b, hl, i, v, h => by
    cases i with
    | zero => simp at h
    | succ i => simpa using leL_get (a := a) (b := b) hl i v (by simpa using h)
  | some u :: a, [], hl, i, v, h => by simp [leL] at hl
  | some u :: a, none :: b, hl, i, v, h => by simp [leL] at hl
  | some u :: a, some y :: b, hl, i, v, h => by
    obtain ⟨h1, h2⟩ := hl
    cases i with
    | zero => simp at h; subst h; simp [h1]
    | succ i => simpa using leL_get (a := a) (b := b) h2 i v (by simpa using h)
theorem g_le {L2 : List (Option Value)} (h : leL L2 L) (k : Good sc d mc ms n0 mi P kc ks pc L2 st w) : Good sc d mc ms n0 mi P kc ks pc L st w := by
  intro p l e R s m args below meth c D cy ad0 A Q C H locs ls ad ha hn hm hP hD hS hl
  exact k p l e R s m args below meth c D cy ad0 A Q C H locs ls ad ha hn hm hP hD hS ⟨hl.1, hl.2.1, fun i v hi => hl.2.2 i v (leL_get h i v hi)⟩
end CB
