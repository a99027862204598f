/-! what measure and flatten leave of the number of FOLDS -/
theorem mea_2l : ∀ (n : Nat) (s : Rec) (v1 v2 : Int32), (f_X4_measure_29 n s v1 v2).1 2 = s.1 2 := by
  intro n
  induction n with
  | zero => intros; rfl
  | succ n ih =>
    intro s v1 v2
    rw [mea_step]
    split
    · rfl
    · split
      · exact ih ..
      · rw [ih]; rfl
theorem mea_2 (s : Rec) : (f_X4_measure s).1 2 = s.1 2 := by
  unfold f_X4_measure
  rw [mea_2l]
  rfl
theorem fla_2 (s : Rec) : (f_X4_flatten s).1 2 = 0 := by
  obtain ⟨s', i0, i1, i2, i3⟩ := fn_loop 40 s 0 (Fu.o (by decide))
  have e : f_X4_flatten s = f_X4_measure (setG s' 2 0) := i0
  rw [e, mea_2]
  rfl
/-! layer 3: premises of the loops over all squares -/
theorem pq_howMany (s : Rec) : ∀ (n : Nat) (v1 v2 : Int32), Fu 36 n v2 → p_X4_howMany_4 n s v1 v2 := by
  intro n
  induction n with
  | zero => intro v1 v2 hf; exact (hf.z (by decide)).elim
  | succ n ih =>
    intro v1 v2 hf
    rw [p_X4_howMany_4]
    refine ⟨fun _ => trivial, fun c1 => ?_⟩
    obtain ⟨f1, f2, f3⟩ := hf.s (by decide) c1
    exact ⟨vin36 f2 f3, fun _ => ih _ _ f1, fun _ => ih _ _ f1⟩
theorem pp_howMany (s : Rec) : p_X4_howMany s := pq_howMany s 40 _ _ (Fu.o (by decide))
theorem pq_heightAt (s : Rec) (x y : Int32) : ∀ (n : Nat) (v1 v2 : Int32), Fu 36 n v2 → p_X4_heightAt_5 n s x y v1 v2 := by
  intro n
  induction n with
  | zero => intro v1 v2 hf; exact (hf.z (by decide)).elim
  | succ n ih =>
    intro v1 v2 hf
    rw [p_X4_heightAt_5]
    refine ⟨fun _ => trivial, fun c1 => ?_⟩
    obtain ⟨f1, f2, f3⟩ := hf.s (by decide) c1
    exact ⟨pl_liesAt .., fun _ => ih _ _ f1, fun _ => ih _ _ f1⟩
theorem pp_heightAt (s : Rec) (x y : Int32) : p_X4_heightAt s x y := pq_heightAt s x y 40 _ _ (Fu.o (by decide))
theorem pq_cellsUnder (s : Rec) {c : Int32} (hc : vp_in c 36) : ∀ (n : Nat) (v1 v2 : Int32), Fu 36 n v2 → p_X4_cellsUnder_4 n s c v1 v2 := by
  intro n
  induction n with
  | zero => intro v1 v2 hf; exact (hf.z (by decide)).elim
  | succ n ih =>
    intro v1 v2 hf
    rw [p_X4_cellsUnder_4]
    refine ⟨fun _ => trivial, fun c1 => ?_⟩
    obtain ⟨f1, f2, f3⟩ := hf.s (by decide) c1
    exact ⟨hc, hc, pl_liesAt .., fun _ => ih _ _ f1, fun _ => ⟨vin36 f2 f3, hc, fun _ => ih _ _ f1, fun _ => ih _ _ f1⟩⟩
theorem pp_cellsUnder (s : Rec) {c : Int32} (hc : vp_in c 36) : p_X4_cellsUnder s c := pq_cellsUnder s hc 40 _ _ (Fu.o (by decide))
theorem pq_cellAt (s : Rec) (x y i : Int32) : ∀ (n : Nat) (v2 : Int32), Fu 36 n v2 → p_X4_cellAt_3 n s x y i v2 := by
  intro n
  induction n with
  | zero => intro v2 hf; exact (hf.z (by decide)).elim
  | succ n ih =>
    intro v2 hf
    rw [p_X4_cellAt_3]
    refine ⟨fun _ => trivial, fun c1 => ?_⟩
    obtain ⟨f1, f2, f3⟩ := hf.s (by decide) c1
    exact ⟨pl_liesAt .., fun _ => ih _ f1, fun _ => ⟨pp_cellsUnder s (vin36 f2 f3), fun _ => trivial, fun _ => ih _ f1⟩⟩
theorem pp_cellAt (s : Rec) (x y i : Int32) : p_X4_cellAt s x y i := pq_cellAt s x y i 40 _ (Fu.o (by decide))
theorem pq_measure : ∀ (n : Nat) (s : Rec) (v1 v2 : Int32), Fu 36 n v2 → p_X4_measure_29 n s v1 v2 := by
  intro n
  induction n with
  | zero => intro s v1 v2 hf; exact (hf.z (by decide)).elim
  | succ n ih =>
    intro s v1 v2 hf
    rw [p_X4_measure_29]
    refine ⟨fun _ => trivial, fun c1 => ?_⟩
    obtain ⟨f1, f2, f3⟩ := hf.s (by decide) c1
    have v36 := vin36 f2 f3
    unfold p_X4_measure_78 p_X4_measure_146
    repeat' first | exact v36 | exact ih _ _ _ f1 | apply And.intro | intro _
theorem pp_measure (s : Rec) : p_X4_measure s := pq_measure 40 _ _ _ (Fu.o (by decide))
theorem pq_flatten : ∀ (n : Nat) (s : Rec) (v2 : Int32), Fu 36 n v2 → p_X4_flatten_2 n s v2 := by
  intro n
  induction n with
  | zero => intro s v2 hf; exact (hf.z (by decide)).elim
  | succ n ih =>
    intro s v2 hf
    rw [p_X4_flatten_2]
    refine ⟨fun _ => ⟨pp_measure _, trivial⟩, fun c1 => ?_⟩
    obtain ⟨f1, f2, f3⟩ := hf.s (by decide) c1
    have v36 := vin36 f2 f3
    exact ⟨v36, v36, v36, v36, ih _ _ f1⟩
theorem pp_flatten (s : Rec) : p_X4_flatten s := pq_flatten 40 _ _ (Fu.o (by decide))
theorem pq_begin : ∀ (n : Nat) (s : Rec) (v2 : Int32), Fu 36 n v2 → p_X4_begin_12 n s v2 := by
  intro n
  induction n with
  | zero => intro s v2 hf; exact (hf.z (by decide)).elim
  | succ n ih =>
    intro s v2 hf
    rw [p_X4_begin_12]
    refine ⟨fun _ => ⟨pp_flatten _, trivial⟩, fun c1 => ?_⟩
    obtain ⟨f1, f2, f3⟩ := hf.s (by decide) c1
    exact ⟨vin36 f2 f3, ih _ _ f1⟩
theorem pp_begin (s : Rec) (w h : Int32) : p_X4_begin s w h := pq_begin 40 _ _ (Fu.o (by decide))
theorem has_in {s : Rec} {c : Int32} (h : ¬ f_X4_has s c = 0) : 0 ≤ c ∧ c < 36 := by
  unfold f_X4_has at h
  have h1 : ¬ f_X8_within c (Int32.ofInt 0) (Int32.ofInt 35) = 0 := fun q => h (if_pos q)
  have := wi_n.mp h1
  exact ⟨by grind, by grind⟩
theorem pp_cutOut (s : Rec) (c : Int32) : p_X4_cutOut s c := by
  refine ⟨pl_has s c, fun _ => trivial, fun h => ?_⟩
  have := has_in h
  exact ⟨vin36 this.1 this.2, pp_measure _, trivial⟩
theorem pq_crease (a l w t : Int32) : ∀ (n : Nat) (s : Rec) (v2 : Int32), 0 ≤ s.1 2 → s.1 2 < 3 → Fu 36 n v2 → p_X4_crease_22 n s a l w t v2 := by
  intro n
  induction n with
  | zero => intro s v2 _ _ hf; exact (hf.z (by decide)).elim
  | succ n ih =>
    intro s v2 h0 h3 hf
    rw [p_X4_crease_22]
    refine ⟨fun _ => ⟨vinb (n := 9) (by grind) (by grind), vinb (n := 9) (by grind) (by grind), vinb (n := 9) (by grind) (by grind), pp_measure _, trivial⟩, fun c1 => ?_⟩
    obtain ⟨f1, f2, f3⟩ := hf.s (by decide) c1
    have v36 := vin36 f2 f3
    unfold p_X4_crease_60
    repeat' first | exact v36 | exact ih _ _ h0 h3 f1 | apply And.intro | intro _
theorem pp_crease {s : Rec} (a l w : Int32) (h0 : 0 ≤ s.1 2) : p_X4_crease s a l w :=
  ⟨fun h => pq_crease a l w _ 40 _ _ h0 h (Fu.o (by decide)), fun _ => trivial⟩
theorem pq_isFoldedAs {s a : Rec} (h0 : 0 ≤ s.1 2) (h3 : s.1 2 ≤ 3) : ∀ (n : Nat) (v2 : Int32), FuV (3 * s.1 2) n v2 → p_X4_isFoldedAs_14 n s a v2 := by
  intro n
  induction n with
  | zero => intro v2 hf; exact hf.z.elim
  | succ n ih =>
    intro v2 hf
    rw [p_X4_isFoldedAs_14]
    refine ⟨fun _ => trivial, fun c1 => ?_⟩
    obtain ⟨f1, f2, f3⟩ := hf.s c1
    exact ⟨vinb (n := 9) (by grind) (by grind), vinb (n := 20) (by grind) (by grind), fun _ => ih _ f1, fun _ => trivial⟩
theorem fu3 {e : Int32} (h0 : 0 ≤ e) (h3 : e ≤ 3) : FuV (3 * e) 40 0 := by
  have h9 : 3 * e ≤ 9 := by grind
  have hz : 0 ≤ 3 * e := by grind
  refine ⟨by grind, by decide, hz, ?_⟩
  have := cl_le (n := 9) hz h9
  have e0 : (0 : Int32).toNatClampNeg = 0 := rfl
  omega
theorem pp_isFoldedAs {s a : Rec} (h0 : 0 ≤ s.1 2) (h3 : s.1 2 ≤ 3) : p_X4_isFoldedAs s a :=
  ⟨fun _ => pq_isFoldedAs h0 h3 40 0 (fu3 h0 h3), fun _ => trivial⟩
theorem pq_save {s : Rec} (h0 : 0 ≤ s.1 2) (h3 : s.1 2 ≤ 3) : ∀ (n : Nat) (a : Rec) (v2 : Int32), FuV (3 * s.1 2) n v2 → p_X4_save_9 n s a v2 := by
  intro n
  induction n with
  | zero => intro a v2 hf; exact hf.z.elim
  | succ n ih =>
    intro a v2 hf
    rw [p_X4_save_9]
    refine ⟨fun _ => trivial, fun c1 => ?_⟩
    obtain ⟨f1, f2, f3⟩ := hf.s c1
    exact ⟨vinb (n := 9) (by grind) (by grind), vinb (n := 20) (by grind) (by grind), ih _ _ f1⟩
theorem pp_save {s a : Rec} (h0 : 0 ≤ s.1 2) (h3 : s.1 2 ≤ 3) : p_X4_save s a := pq_save h0 h3 40 _ 0 (fu3 h0 h3)
theorem cr_f {s : Rec} (a l w : Int32) (h0 : 0 ≤ s.1 2) (h3 : s.1 2 < 3) : (f_X4_crease s a l w).1 2 = s.1 2 + 1 := by
  have e0 : f_X4_crease s a l w = f_X4_crease_22 40 s a l w (2 * s.1 7 + 1) 0 := by
    unfold f_X4_crease
    exact if_pos h3
  obtain ⟨s', i0, i1, i2, i3⟩ := cr_loop (a := a) (l := l) (w := w) (t := 2 * s.1 7 + 1) 40 s 0 (Fu.o (by decide))
  rw [e0, i0]
  unfold crEnd
  rw [mea_2]
  show s'.1 2 + 1 = _
  rw [i1]
theorem pq_load {a : Rec} : ∀ (n : Nat) (s : Rec) (v2 : Int32), s.1 2 = v2 → Fu 3 n v2 → p_X4_load_15 n s a v2 := by
  intro n
  induction n with
  | zero => intro s v2 _ hf; exact (hf.z (by decide)).elim
  | succ n ih =>
    intro s v2 hs hf
    rw [p_X4_load_15]
    refine ⟨fun _ => trivial, fun _ => ⟨fun _ => trivial, fun c1 => ?_⟩⟩
    obtain ⟨f1, f2, f3⟩ := hf.s (by decide) c1
    exact ⟨vinb (n := 20) (by grind) (by grind), vinb (n := 20) (by grind) (by grind), vinb (n := 20) (by grind) (by grind), pp_crease _ _ _ (by rw [hs]; exact f2), ih _ _ (by rw [cr_f _ _ _ (by rw [hs]; exact f2) (by rw [hs]; exact f3), hs]; rfl) f1⟩
theorem pp_load {s a : Rec} (h0 : 0 ≤ s.1 2) (h3 : s.1 2 ≤ 3) : p_X4_load s a := by
  refine ⟨pp_isFoldedAs h0 h3, fun _ => ⟨pp_flatten s, pq_load 40 _ _ ?_ (Fu.o (by decide))⟩, fun _ => trivial⟩
  exact fla_2 s
theorem pq_many (m : Rec) : ∀ (n : Nat) (v1 v2 : Int32), Fu 36 n v2 → p_X9_many_4 n m v1 v2 := by
  intro n
  induction n with
  | zero => intro v1 v2 hf; exact (hf.z (by decide)).elim
  | succ n ih =>
    intro v1 v2 hf
    rw [p_X9_many_4]
    refine ⟨fun _ => trivial, fun c1 => ?_⟩
    obtain ⟨f1, f2, f3⟩ := hf.s (by decide) c1
    exact ⟨pl_isCell .., fun _ => ih _ _ f1, fun _ => ih _ _ f1⟩
theorem pp_many (m : Rec) : p_X9_many m := pq_many m 40 _ _ (Fu.o (by decide))
theorem pq_end (m : Rec) (a b : Int32) : ∀ (n : Nat) (v3 v4 v5 : Int32), Fu 36 n v5 → p_X9_end_8 n m a b v3 v4 v5 := by
  intro n
  induction n with
  | zero => intro v3 v4 v5 hf; exact (hf.z (by decide)).elim
  | succ n ih =>
    intro v3 v4 v5 hf
    rw [p_X9_end_8]
    refine ⟨fun _ => trivial, fun c1 => ?_⟩
    obtain ⟨f1, f2, f3⟩ := hf.s (by decide) c1
    have v36 := vin36 f2 f3
    unfold p_X9_end_36
    repeat' first | exact v36 | exact pl_isCell _ _ | exact ih _ _ _ f1 | apply And.intro | intro _
theorem pp_end (m : Rec) (a b : Int32) : p_X9_end m a b := pq_end m a b 40 _ _ _ (Fu.o (by decide))
theorem pp_moves (m : Rec) {c : Int32} (a l w : Int32) (hc : vp_in c 36) : p_X9_moves m c a l w := by
  unfold p_X9_moves p_X9_moves_32
  exact ⟨fun _ => ⟨hc, fun _ => trivial, fun _ => trivial⟩, fun _ => ⟨hc, fun _ => trivial, fun _ => trivial⟩⟩
theorem pq_mayFold (m : Rec) (a l w : Int32) : ∀ (n : Nat) (v3 v4 v5 : Int32), Fu 36 n v5 → p_X9_mayFold_9 n m a l w v3 v4 v5 := by
  intro n
  induction n with
  | zero => intro v3 v4 v5 hf; exact (hf.z (by decide)).elim
  | succ n ih =>
    intro v3 v4 v5 hf
    rw [p_X9_mayFold_9]
    refine ⟨fun _ => trivial, fun c1 => ?_⟩
    obtain ⟨f1, f2, f3⟩ := hf.s (by decide) c1
    exact ⟨pl_isCell .., fun _ => ih _ _ _ f1, fun _ => ⟨pp_moves m _ _ _ (vin36 f2 f3), fun _ => ih _ _ _ f1, fun _ => ih _ _ _ f1⟩⟩
theorem pp_mayFold (m : Rec) (a l w : Int32) : p_X9_mayFold m a l w := pq_mayFold m a l w 40 _ _ _ (Fu.o (by decide))
theorem pq_turns57 (a l w t : Int32) : ∀ (n : Nat) (m : Rec) (v5 : Int32), Fu 36 n v5 → p_X9_turnsOver_57 n m a l w t v5 := by
  intro n
  induction n with
  | zero => intro m v5 hf; exact (hf.z (by decide)).elim
  | succ n ih =>
    intro m v5 hf
    rw [p_X9_turnsOver_57]
    refine ⟨fun _ => trivial, fun c1 => ?_⟩
    obtain ⟨f1, f2, f3⟩ := hf.s (by decide) c1
    have v36 := vin36 f2 f3
    have pm := pp_moves m a l w v36
    repeat' first | exact v36 | exact pm | exact pl_isCell _ _ | exact ih _ _ f1 | apply And.intro | intro _
theorem pq_turns6 (a l w : Int32) (m : Rec) : ∀ (n : Nat) (t v5 : Int32), Fu 36 n v5 → p_X9_turnsOver_6 n m a l w t v5 := by
  intro n
  induction n with
  | zero => intro t v5 hf; exact (hf.z (by decide)).elim
  | succ n ih =>
    intro t v5 hf
    rw [p_X9_turnsOver_6]
    refine ⟨fun _ => pq_turns57 _ _ _ _ 40 _ _ (Fu.o (by decide)), fun c1 => ?_⟩
    obtain ⟨f1, f2, f3⟩ := hf.s (by decide) c1
    have v36 := vin36 f2 f3
    exact ⟨pl_isCell .., fun _ => ih _ _ f1, fun _ => ⟨v36, fun _ => ih _ _ f1, fun _ => ⟨v36, ih _ _ f1⟩⟩⟩
theorem pp_turnsOver (m : Rec) (a l w : Int32) : p_X9_turnsOver m a l w := pq_turns6 a l w m 40 _ _ (Fu.o (by decide))
theorem pq_flat : ∀ (n : Nat) (m : Rec) (v5 : Int32), Fu 36 n v5 → p_X9_flat_2 n m v5 := by
  intro n
  induction n with
  | zero => intro m v5 hf; exact (hf.z (by decide)).elim
  | succ n ih =>
    intro m v5 hf
    rw [p_X9_flat_2]
    refine ⟨fun _ => trivial, fun c1 => ?_⟩
    obtain ⟨f1, f2, f3⟩ := hf.s (by decide) c1
    have v36 := vin36 f2 f3
    exact ⟨v36, v36, v36, v36, ih _ _ f1⟩
theorem pp_flat (m : Rec) : p_X9_flat m := pq_flat 40 _ _ (Fu.o (by decide))
theorem pq_lays {e : Int32} (he : e ≤ 3) : ∀ (n : Nat) (m : Rec) (v1 : Int32), m.2 0 16 = e → FuV e n v1 → p_X9_lays_6 n m v1 := by
  intro n
  induction n with
  | zero => intro m v1 _ hf; exact hf.z.elim
  | succ n ih =>
    intro m v1 hm hf
    rw [p_X9_lays_6]
    refine ⟨fun _ => trivial, fun c1 => ?_⟩
    obtain ⟨f1, f2, f3⟩ := hf.s (v := v1) (e := e) (fun q => c1 (by show m.2 0 16 ≤ v1; rw [hm]; exact q))
    refine ⟨vinb (n := 248) (by grind) (by grind), vinb (n := 248) (by grind) (by grind), vinb (n := 248) (by grind) (by grind), pp_turnsOver .., ih _ _ ?_ f1⟩
    rw [(to_all m _ _ _).2.1 0 (by decide)]
    exact hm
theorem pp_lays {m : Rec} (h0 : 0 ≤ m.2 0 16) (h3 : m.2 0 16 ≤ 3) : p_X9_lays m := by
  refine ⟨pp_flat m, pq_lays h3 40 _ _ ?_ (FuV.o h0 (by grind) (by decide))⟩
  rw [(fl_all m).2.1 0 (by decide)]
theorem pp_anyFold (m : Rec) : p_X9_anyFold m := by
  unfold p_X9_anyFold
  repeat' first | exact pp_end _ _ _ | exact True.intro | apply And.intro | intro _
theorem pp_foldsNow (m : Rec) : p_X9_foldsNow m := by
  unfold p_X9_foldsNow
  repeat' first | exact pp_end _ _ _ | exact True.intro | apply And.intro | intro _
theorem pp_pick (m : Rec) (i : Int32) : p_X9_pick m i := by
  unfold p_X9_pick
  repeat' first | exact pp_end _ _ _ | exact True.intro | apply And.intro | intro _
