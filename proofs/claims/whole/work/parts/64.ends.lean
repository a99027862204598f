/-! layer 3: the outmost squares, which FOLDS may be, how far squares can lie -/
def EnI (g : Rec) (a b e v3 v4 : Int32) : Prop := (v4 = 0 ∧ v3 = 0 ∧ ∀ c, 0 ≤ c → c < e → f_X9_isCell g c = 0) ∨ (¬ v4 = 0 ∧ (∃ c, 0 ≤ c ∧ c < e ∧ ¬ f_X9_isCell g c = 0 ∧ co g a c = v3) ∧ ∀ c, 0 ≤ c → c < e → ¬ f_X9_isCell g c = 0 → (if b = 0 then v3 ≤ co g a c else co g a c ≤ v3))
theorem en_skip {g : Rec} {a b e v3 v4 : Int32} (he : 0 ≤ e) (h36 : e < 36) (h : EnI g a b e v3 v4) (hn : f_X9_isCell g e = 0 ∨ (¬ v4 = 0 ∧ if b = 0 then v3 ≤ co g a e else co g a e ≤ v3)) : EnI g a b (e + 1) v3 v4 := by
  rcases h with ⟨h1, h2, h3⟩ | ⟨h1, ⟨c, d1, d2, d3, d4⟩, h3⟩
  · refine Or.inl ⟨h1, h2, fun c q1 q2 => ?_⟩
    by_cases q : c = e
    · rw [q]
      rcases hn with hn | hn
      · exact hn
      · exact absurd h1 hn.1
    · exact h3 c q1 (by grind)
  · refine Or.inr ⟨h1, ⟨c, d1, by grind, d3, d4⟩, fun c q1 q2 q3 => ?_⟩
    by_cases q : c = e
    · rw [q] at q3 ⊢
      rcases hn with hn | hn
      · exact absurd hn q3
      · exact hn.2
    · exact h3 c q1 (by grind) q3
theorem en_new {g : Rec} {a b e v3 v4 : Int32} (he : 0 ≤ e) (h36 : e < 36) (h : EnI g a b e v3 v4) (hc : ¬ f_X9_isCell g e = 0) (hn : v4 = 0 ∨ ¬ (if b = 0 then v3 ≤ co g a e else co g a e ≤ v3)) : EnI g a b (e + 1) (co g a e) 1 := by
  refine Or.inr ⟨by decide, ⟨e, he, by grind, hc, rfl⟩, fun c q1 q2 q3 => ?_⟩
  by_cases q : c = e
  · rw [q]
    split
    · exact Int32.le_refl _
    · exact Int32.le_refl _
  · rcases h with ⟨h1, h2, h3⟩ | ⟨h1, h2, h3⟩
    · exact absurd (h3 c q1 (by grind)) q3
    · have hh := h3 c q1 (by grind) q3
      rcases hn with hn | hn
      · exact absurd hn h1
      · by_cases hb : b = 0
        · rw [if_pos hb] at hn hh ⊢
          grind
        · rw [if_neg hb] at hn hh ⊢
          grind
theorem en_loop {g : Rec} {a b : Int32} : ∀ (n : Nat) (v3 v4 v5 : Int32), Fu 36 n v5 → EnI g a b v5 v3 v4 → ∃ v4', EnI g a b 36 (f_X9_end_8 n g a b v3 v4 v5) v4' := by
  intro n
  induction n with
  | zero => intro v3 v4 v5 hf; exact (hf.z (by decide)).elim
  | succ n ih =>
    intro v3 v4 v5 hf h
    rw [en_step]
    by_cases c1 : Int32.ofInt 36 ≤ v5
    · rw [if_pos c1]
      have : v5 = 36 := by have := hf.2.1; grind
      rw [← this]; exact ⟨v4, h⟩
    · obtain ⟨f1, f2, f3⟩ := hf.s (by decide) c1
      rw [if_neg c1]
      by_cases c2 : f_X9_isCell g v5 = 0
      · rw [if_pos c2]
        exact ih _ _ _ f1 (en_skip f2 f3 h (Or.inl c2))
      · rw [if_neg c2]
        by_cases c3 : v4 = 0
        · rw [if_pos c3]
          exact ih _ _ _ f1 (en_new f2 f3 h c2 (Or.inl c3))
        · rw [if_neg c3]
          by_cases c4 : (if b = 0 then v3 ≤ co g a v5 else co g a v5 ≤ v3)
          · rw [if_pos c4]
            exact ih _ _ _ f1 (en_skip f2 f3 h (Or.inr ⟨c3, c4⟩))
          · rw [if_neg c4]
            exact ih _ _ _ f1 (en_new f2 f3 h c2 (Or.inr c4))
/-- there are squares -/
def Any (g : Rec) : Prop := ∃ c, ¬ f_X9_isCell g c = 0
theorem en_all (g : Rec) (a b : Int32) : (¬ Any g ∧ f_X9_end g a b = 0) ∨ (Any g ∧ (∃ c, ¬ f_X9_isCell g c = 0 ∧ co g a c = f_X9_end g a b) ∧ ∀ c, ¬ f_X9_isCell g c = 0 → (if b = 0 then f_X9_end g a b ≤ co g a c else co g a c ≤ f_X9_end g a b)) := by
  obtain ⟨v4', h⟩ := en_loop (g := g) (a := a) (b := b) 40 0 0 0 (Fu.o (by decide)) (Or.inl ⟨rfl, rfl, fun c q1 q2 => by grind⟩)
  have e : f_X9_end_8 40 g a b 0 0 0 = f_X9_end g a b := rfl
  rw [e] at h
  rcases h with ⟨h1, h2, h3⟩ | ⟨h1, ⟨c, d1, d2, d3, d4⟩, h3⟩
  · refine Or.inl ⟨fun q => ?_, h2⟩
    obtain ⟨c, hc⟩ := q
    have := isCell_in hc
    exact hc (h3 c this.1 this.2)
  · refine Or.inr ⟨⟨c, d3⟩, ⟨c, d3, d4⟩, fun c hc => ?_⟩
    have := isCell_in hc
    exact h3 c this.1 this.2 hc
theorem en_lo {g : Rec} {c : Int32} (a : Int32) (hc : ¬ f_X9_isCell g c = 0) : f_X9_end g a 0 ≤ co g a c := by
  rcases en_all g a 0 with ⟨h1, h2⟩ | ⟨h1, h2, h3⟩
  · exact absurd ⟨c, hc⟩ h1
  · have := h3 c hc
    rw [if_pos rfl] at this
    exact this
theorem en_hi {g : Rec} {c : Int32} (a : Int32) (hc : ¬ f_X9_isCell g c = 0) : co g a c ≤ f_X9_end g a 1 := by
  rcases en_all g a 1 with ⟨h1, h2⟩ | ⟨h1, h2, h3⟩
  · exact absurd ⟨c, hc⟩ h1
  · have := h3 c hc
    rw [if_neg (by decide)] at this
    exact this
theorem en_lh (g : Rec) (a : Int32) : f_X9_end g a 0 ≤ f_X9_end g a 1 := by
  rcases en_all g a 0 with ⟨h1, h2⟩ | ⟨h1, ⟨c, h2, h4⟩, h3⟩
  · rcases en_all g a 1 with ⟨h1', h2'⟩ | ⟨h1', h2', h3'⟩
    · rw [h2, h2']; exact Int32.le_refl _
    · exact absurd h1' h1
  · have := en_hi a h2
    rw [h4] at this
    exact this
theorem mov_t (g : Rec) (c a l w : Int32) : f_X9_moves g c a l w = f_X8_turns (co g a c) l w := moves_t g c a l w
theorem tu_n {x l w : Int32} : ¬ f_X8_turns x l w = 0 ↔ (if w = 0 then l ≤ x else x < l) := by
  unfold f_X8_turns
  grind
/-- counted squares of a kind, before e -/
def MfI (g : Rec) (a l w e v4 v5 : Int32) : Prop := 0 ≤ v4 ∧ v4 ≤ v5 ∧ v5 ≤ e ∧ (v4 = 0 ↔ ∀ c, 0 ≤ c → c < e → ¬ f_X9_isCell g c = 0 → f_X9_moves g c a l w = 0) ∧ (v4 = v5 ↔ ∀ c, 0 ≤ c → c < e → ¬ f_X9_isCell g c = 0 → ¬ f_X9_moves g c a l w = 0)
theorem all_next {P : Int32 → Prop} {e : Int32} (he : 0 ≤ e) (hb : e < 1000000) : (∀ c, 0 ≤ c → c < e + 1 → P c) ↔ ((∀ c, 0 ≤ c → c < e → P c) ∧ P e) := by
  constructor
  · intro h
    exact ⟨fun c q1 q2 => h c q1 (by grind), h e he (by grind)⟩
  · intro h c q1 q2
    by_cases q : c = e
    · rw [q]; exact h.2
    · exact h.1 c q1 (by grind)
theorem mf_loop {g : Rec} {a l w : Int32} : ∀ (n : Nat) (v4 v5 v6 : Int32), Fu 36 n v6 → MfI g a l w v6 v4 v5 → ∃ x y, MfI g a l w 36 x y ∧ f_X9_mayFold_9 n g a l w v4 v5 v6 = if x ≤ 0 then 0 else if y ≤ x then 0 else 1 := by
  intro n
  induction n with
  | zero => intro v4 v5 v6 hf; exact (hf.z (by decide)).elim
  | succ n ih =>
    intro v4 v5 v6 hf h
    rw [f_X9_mayFold_9]
    have ev : v6 + Int32.ofInt 1 = v6 + 1 := rfl
    by_cases c1 : Int32.ofInt 36 ≤ v6
    · rw [if_pos c1]
      have : v6 = 36 := by have := hf.2.1; grind
      rw [← this]; exact ⟨v4, v5, h, rfl⟩
    · obtain ⟨f1, f2, f3⟩ := hf.s (by decide) c1
      rw [if_neg c1]
      unfold MfI at h
      obtain ⟨h1, h2, h3, h4, h5⟩ := h
      rw [ev]
      have eo : Int32.ofInt 1 = 1 := rfl
      have ez : Int32.ofInt 0 = 0 := rfl
      rw [eo, ez]
      by_cases c2 : f_X9_isCell g v6 = 0
      · rw [if_pos c2]
        refine ih _ _ _ f1 ⟨h1, h2, by grind, ?_, ?_⟩
        · rw [all_next f2 (by grind), h4]
          exact ⟨fun q => ⟨q, fun r => absurd c2 r⟩, fun q => q.1⟩
        · rw [all_next f2 (by grind), h5]
          exact ⟨fun q => ⟨q, fun r => absurd c2 r⟩, fun q => q.1⟩
      · rw [if_neg c2]
        by_cases c3 : f_X9_moves g v6 a l w = 0
        · rw [if_pos c3]
          refine ih _ _ _ f1 ⟨by grind, by grind, by grind, ?_, ?_⟩
          · rw [all_next f2 (by grind), ← h4]
            exact ⟨fun q => ⟨by grind, fun _ => c3⟩, fun q => by grind⟩
          · rw [all_next f2 (by grind)]
            exact ⟨fun q => by grind, fun q => absurd c3 (q.2 c2)⟩
        · rw [if_neg c3]
          refine ih _ _ _ f1 ⟨by grind, by grind, by grind, ?_, ?_⟩
          · rw [all_next f2 (by grind)]
            exact ⟨fun q => by grind, fun q => absurd (q.2 c2) c3⟩
          · rw [all_next f2 (by grind), ← h5]
            exact ⟨fun q => ⟨by grind, fun _ => c3⟩, fun q => by grind⟩
theorem mf_all (g : Rec) (a l w : Int32) : (f_X9_mayFold g a l w = 0 ∨ f_X9_mayFold g a l w = 1) ∧ (¬ f_X9_mayFold g a l w = 0 ↔ f_X9_end g a 0 < l ∧ l ≤ f_X9_end g a 1) := by
  obtain ⟨x, y, ⟨h1, h2, h3, h4, h5⟩, h6⟩ := mf_loop (g := g) (a := a) (l := l) (w := w) 40 0 0 0 (Fu.o (by decide)) ⟨by decide, by decide, by decide, ⟨fun _ c q1 q2 => by grind, fun _ => rfl⟩, ⟨fun _ c q1 q2 => by grind, fun _ => rfl⟩⟩
  have e : f_X9_mayFold_9 40 g a l w 0 0 0 = f_X9_mayFold g a l w := rfl
  rw [e] at h6
  refine ⟨by grind, ?_⟩
  have key : (¬ x = 0 ∧ ¬ x = y) ↔ f_X9_end g a 0 < l ∧ l ≤ f_X9_end g a 1 := by
    rw [h4, h5]
    simp only [mov_t]
    constructor
    · intro ⟨q1, q2⟩
      have r1 : ∃ c, ¬ f_X9_isCell g c = 0 ∧ ¬ f_X8_turns (co g a c) l w = 0 := by
        refine Classical.byContradiction fun k => q1 fun c _ _ hc => Classical.byContradiction fun hz => k ⟨c, hc, hz⟩
      have r2 : ∃ c, ¬ f_X9_isCell g c = 0 ∧ f_X8_turns (co g a c) l w = 0 := by
        refine Classical.byContradiction fun k => q2 fun c _ _ hc hz => k ⟨c, hc, hz⟩
      obtain ⟨c, hc, hm⟩ := r1
      obtain ⟨d, hd, hn⟩ := r2
      have hn' := mt tu_n.mpr (fun q => q hn)
      have hm' := tu_n.mp hm
      have := en_lo a hc
      have := en_lo a hd
      have := en_hi a hc
      have := en_hi a hd
      by_cases hw : w = 0
      · rw [if_pos hw] at hn' hm'
        grind
      · rw [if_neg hw] at hn' hm'
        grind
    · intro ⟨q1, q2⟩
      have hA : Any g := by
        rcases en_all g a 0 with ⟨r1, r2⟩ | ⟨r1, r2⟩
        · rcases en_all g a 1 with ⟨r3, r4⟩ | ⟨r3, r4⟩
          · rw [r2] at q1; rw [r4] at q2; grind
          · exact r3
        · exact r1
      have lo : ∃ c, ¬ f_X9_isCell g c = 0 ∧ co g a c = f_X9_end g a 0 := by
        rcases en_all g a 0 with ⟨r1, r2⟩ | ⟨r1, r2, r3⟩
        · exact absurd hA r1
        · exact r2
      have hi : ∃ c, ¬ f_X9_isCell g c = 0 ∧ co g a c = f_X9_end g a 1 := by
        rcases en_all g a 1 with ⟨r1, r2⟩ | ⟨r1, r2, r3⟩
        · exact absurd hA r1
        · exact r2
      obtain ⟨c, hc, ec⟩ := lo
      obtain ⟨d, hd, ed⟩ := hi
      have hcb := isCell_in hc
      have hdb := isCell_in hd
      by_cases hw : w = 0
      · refine ⟨fun k => ?_, fun k => ?_⟩
        · exact absurd (k d hdb.1 hdb.2 hd) (tu_n.mpr (by rw [if_pos hw]; grind))
        · have := tu_n.mp (k c hcb.1 hcb.2 hc)
          rw [if_pos hw] at this
          grind
      · refine ⟨fun k => ?_, fun k => ?_⟩
        · exact absurd (k c hcb.1 hcb.2 hc) (tu_n.mpr (by rw [if_neg hw]; grind))
        · have := tu_n.mp (k d hdb.1 hdb.2 hd)
          rw [if_neg hw] at this
          grind
  rw [← key, h6]
  grind
theorem may_eq {s g : Rec} (h : Ends s g) (a l w : Int32) : f_X4_mayCrease s a l = f_X9_mayFold g a l w := by
  obtain ⟨h1, h2, h3, h4, h5⟩ := h
  obtain ⟨m1, m2⟩ := mf_all g a l w
  unfold f_X4_mayCrease
  rw [h1, h2, h3, h4]
  by_cases ha : a = 0
  · rw [ha] at m1 m2 ⊢
    rw [if_pos rfl]
    grind
  · have ea : ∀ b, f_X9_end g a b = f_X9_end g 1 b := by
      intro b
      have : ∀ (n : Nat) (v3 v4 v5 : Int32), f_X9_end_8 n g a b v3 v4 v5 = f_X9_end_8 n g 1 b v3 v4 v5 := by
        intro n
        induction n with
        | zero => intros; rfl
        | succ n ih =>
          intro v3 v4 v5
          rw [en_step, en_step]
          simp only [ih]
          unfold co
          simp only [if_neg ha]
          rfl
      exact this 40 0 0 0
    rw [ea, ea] at m2
    rw [if_neg ha]
    grind
