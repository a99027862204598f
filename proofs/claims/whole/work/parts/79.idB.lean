/-! a world called with all of its places -/
def okv (n : Nat) : Value → Bool
  | .ref k => Nat.blt k n || Nat.ble 1000 k
  | _ => true
theorem sg_id {n k : Nat} (h : (Nat.blt k n || Nat.ble 1000 k) = true) : sg (List.range n) k = k := by
  by_cases h1 : 1000 ≤ k
  · exact sg_hi _ h1
  · rw [sg_lo _ (by omega)]
    have hk : k < n := by
      rcases Bool.or_eq_true _ _ ▸ h with q | q
      · exact Nat.le_of_ble_eq_true q
      · exact absurd (Nat.le_of_ble_eq_true q) h1
    rw [List.getD_eq_getElem?_getD, List.getElem?_range hk]
    rfl
theorem rnv_id {n : Nat} {v : Value} (h : okv n v = true) : rnv (List.range n) v = v := by
  cases v with
  | ref k => show Value.ref (sg (List.range n) k) = _; rw [sg_id h]
  | _ => rfl
theorem ren_obj (n : Nat) (c : ClassId) (fs : List Value) (h : fs.all (okv n) = true) : ren (List.range n) (.inr (c, fs)) = .inr (c, fs) := by
  show Sum.inr (c, fs.map (rnv (List.range n))) = _
  have : fs.map (rnv (List.range n)) = fs.map id := List.map_congr_left fun v hv => rnv_id (List.all_eq_true.mp h v hv)
  rw [this, List.map_id]
theorem ren_row (n t m : Nat) (l : List Nat) (h : l.all (fun k => Nat.blt k n || Nat.ble 1000 k) = true) : ren (List.range n) (.inl (t, m, .inr (.inr (.inr (.inr (rowF l)))))) = .inl (t, m, .inr (.inr (.inr (.inr (rowF l))))) := by
  rw [renQ]
  have : l.map (sg (List.range n)) = l.map id := List.map_congr_left fun k hk => sg_id (List.all_eq_true.mp h k hk)
  rw [this, List.map_id]
def okL (n : Nat) (w : List va_E) : Prop := ∀ e, e ∈ w → ren (List.range n) e = e
theorem okL_n (n : Nat) : okL n [] := fun e h => by cases h
theorem okL_c {n : Nat} {a : va_E} {w : List va_E} (h1 : ren (List.range n) a = a) (h2 : okL n w) : okL n (a :: w) := by
  intro e h
  rcases List.mem_cons.mp h with q | q
  · rw [q]; exact h1
  · exact h2 e q
theorem hm_id {w : List va_E} {n : Nat} (hl : w.length = n) (hok : okL n w) : (List.range n).map (lk w) = w.map (fun e => some (ren (List.range n) e)) := by
  have e1 : w.map (fun e => some (ren (List.range n) e)) = w.map some := List.map_congr_left fun e he => by rw [hok e he]
  rw [e1]
  apply List.ext_getElem?
  intro j
  rw [List.getElem?_map, List.getElem?_map]
  by_cases hj : j < n
  · rw [List.getElem?_range hj]
    show some (lk w j) = _
    rw [lk_eq, List.getElem?_eq_getElem (by omega)]
    rfl
  · rw [List.getElem?_eq_none (by simp; omega), List.getElem?_eq_none (by omega)]
    rfl
theorem pw_id {w w2 : List va_E} {n : Nat} (hl : w.length = n) (hl2 : w2.length = n) (hn : va_nd (List.range n) = true) (hok : okL n w2) : putW w (List.range n) (w2.map (ren (List.range n))) = w2 := by
  have e1 : w2.map (ren (List.range n)) = w2.map id := List.map_congr_left fun e he => hok e he
  rw [e1, List.map_id]
  apply List.ext_getElem?
  intro j
  by_cases hj : j < n
  · rw [List.getElem?_eq_getElem (l := w2) (by omega)]
    exact putW_at w _ _ hn (fun k hk => by rw [hl]; exact List.mem_range.mp hk) j j _ (List.getElem?_range hj) (List.getElem?_eq_getElem (by omega))
  · rw [List.getElem?_eq_none (by rw [putW_len]; omega), List.getElem?_eq_none (by omega)]
set_option maxRecDepth 20000 in
theorem okwB (c : Rec) (s : Rec) (p : Rec) (t : Rec) (e : Rec) (o : Rec) (oh : Rec) (h : Rec) (k : Rec) (q : Rec) (s1 : Rec) (p1 : Rec) (s2 : Rec) (p2 : Rec) (t1 : Rec) (t2 : Rec) : okL 112 (wB c s p t e o oh h k q s1 p1 s2 p2 t1 t2) := by
  unfold wB
  exact okL_c (ren_obj 112 _ _ rfl) <| okL_c (ren_obj 112 _ _ rfl) <| okL_c (ren_obj 112 _ _ rfl) <| okL_c rfl <| okL_c rfl <| okL_c rfl <| okL_c rfl <| okL_c rfl <| okL_c rfl <| okL_c rfl <| okL_c rfl <| okL_c rfl <| okL_c rfl <| okL_c (ren_obj 112 _ _ rfl) <| okL_c (ren_row 112 _ _ _ rfl) <| okL_c rfl <| okL_c rfl <| okL_c rfl <| okL_c rfl <| okL_c rfl <| okL_c rfl <| okL_c rfl <| okL_c rfl <| okL_c (ren_obj 112 _ _ rfl) <| okL_c rfl <| okL_c rfl <| okL_c (ren_obj 112 _ _ rfl) <| okL_c rfl <| okL_c rfl <| okL_c rfl <| okL_c rfl <| okL_c (ren_obj 112 _ _ rfl) <| okL_c (ren_obj 112 _ _ rfl) <| okL_c rfl <| okL_c rfl <| okL_c rfl <| okL_c rfl <| okL_c (ren_row 112 _ _ _ rfl) <| okL_c rfl <| okL_c rfl <| okL_c rfl <| okL_c rfl <| okL_c (ren_row 112 _ _ _ rfl) <| okL_c rfl <| okL_c rfl <| okL_c rfl <| okL_c rfl <| okL_c (ren_obj 112 _ _ rfl) <| okL_c rfl <| okL_c rfl <| okL_c (ren_obj 112 _ _ rfl) <| okL_c (ren_row 112 _ _ _ rfl) <| okL_c rfl <| okL_c rfl <| okL_c rfl <| okL_c rfl <| okL_c (ren_row 112 _ _ _ rfl) <| okL_c rfl <| okL_c rfl <| okL_c rfl <| okL_c rfl <| okL_c rfl <| okL_c rfl <| okL_c rfl <| okL_c (ren_row 112 _ _ _ rfl) <| okL_c (ren_row 112 _ _ _ rfl) <| okL_c rfl <| okL_c rfl <| okL_c (ren_obj 112 _ _ rfl) <| okL_c (ren_obj 112 _ _ rfl) <| okL_c rfl <| okL_c rfl <| okL_c rfl <| okL_c rfl <| okL_c rfl <| okL_c rfl <| okL_c rfl <| okL_c rfl <| okL_c rfl <| okL_c rfl <| okL_c (ren_obj 112 _ _ rfl) <| okL_c (ren_row 112 _ _ _ rfl) <| okL_c rfl <| okL_c rfl <| okL_c rfl <| okL_c rfl <| okL_c rfl <| okL_c rfl <| okL_c rfl <| okL_c rfl <| okL_c (ren_obj 112 _ _ rfl) <| okL_c (ren_obj 112 _ _ rfl) <| okL_c rfl <| okL_c rfl <| okL_c rfl <| okL_c rfl <| okL_c rfl <| okL_c rfl <| okL_c rfl <| okL_c rfl <| okL_c rfl <| okL_c rfl <| okL_c (ren_obj 112 _ _ rfl) <| okL_c (ren_row 112 _ _ _ rfl) <| okL_c rfl <| okL_c rfl <| okL_c rfl <| okL_c rfl <| okL_c rfl <| okL_c rfl <| okL_c rfl <| okL_c rfl <| okL_n 112
set_option maxRecDepth 20000 in
theorem slB : [0, 1, 2, 3, 4, 5, 6, 7, 8, 9, 10, 11, 12, 13, 14, 15, 16, 17, 18, 19, 20, 21, 22, 23, 24, 25, 26, 27, 28, 29, 30, 31, 32, 33, 34, 35, 36, 37, 38, 39, 40, 41, 42, 43, 44, 45, 46, 47, 48, 49, 50, 51, 52, 53, 54, 55, 56, 57, 58, 59, 60, 61, 62, 63, 64, 65, 66, 67, 68, 69, 70, 71, 72, 73, 74, 75, 76, 77, 78, 79, 80, 81, 82, 83, 84, 85, 86, 87, 88, 89, 90, 91, 92, 93, 94, 95, 96, 97, 98, 99, 100, 101, 102, 103, 104, 105, 106, 107, 108, 109, 110, 111] = List.range 112 := by decide
set_option maxRecDepth 20000 in
theorem ndB : va_nd (List.range 112) = true := by decide
theorem hmI_B (c : Rec) (s : Rec) (p : Rec) (t : Rec) (e : Rec) (o : Rec) (oh : Rec) (h : Rec) (k : Rec) (q : Rec) (s1 : Rec) (p1 : Rec) (s2 : Rec) (p2 : Rec) (t1 : Rec) (t2 : Rec) : [0, 1, 2, 3, 4, 5, 6, 7, 8, 9, 10, 11, 12, 13, 14, 15, 16, 17, 18, 19, 20, 21, 22, 23, 24, 25, 26, 27, 28, 29, 30, 31, 32, 33, 34, 35, 36, 37, 38, 39, 40, 41, 42, 43, 44, 45, 46, 47, 48, 49, 50, 51, 52, 53, 54, 55, 56, 57, 58, 59, 60, 61, 62, 63, 64, 65, 66, 67, 68, 69, 70, 71, 72, 73, 74, 75, 76, 77, 78, 79, 80, 81, 82, 83, 84, 85, 86, 87, 88, 89, 90, 91, 92, 93, 94, 95, 96, 97, 98, 99, 100, 101, 102, 103, 104, 105, 106, 107, 108, 109, 110, 111].map (lk (wB c s p t e o oh h k q s1 p1 s2 p2 t1 t2)) = (wB c s p t e o oh h k q s1 p1 s2 p2 t1 t2).map (fun e => some (ren [0, 1, 2, 3, 4, 5, 6, 7, 8, 9, 10, 11, 12, 13, 14, 15, 16, 17, 18, 19, 20, 21, 22, 23, 24, 25, 26, 27, 28, 29, 30, 31, 32, 33, 34, 35, 36, 37, 38, 39, 40, 41, 42, 43, 44, 45, 46, 47, 48, 49, 50, 51, 52, 53, 54, 55, 56, 57, 58, 59, 60, 61, 62, 63, 64, 65, 66, 67, 68, 69, 70, 71, 72, 73, 74, 75, 76, 77, 78, 79, 80, 81, 82, 83, 84, 85, 86, 87, 88, 89, 90, 91, 92, 93, 94, 95, 96, 97, 98, 99, 100, 101, 102, 103, 104, 105, 106, 107, 108, 109, 110, 111] e)) := by
  rw [slB]
  exact hm_id (len_B ..) (okwB _ _ _ _ _ _ _ _ _ _ _ _ _ _ _ _)
theorem pwI_B (c : Rec) (s : Rec) (p : Rec) (t : Rec) (e : Rec) (o : Rec) (oh : Rec) (h : Rec) (k : Rec) (q : Rec) (s1 : Rec) (p1 : Rec) (s2 : Rec) (p2 : Rec) (t1 : Rec) (t2 : Rec) (c9 : Rec) (s9 : Rec) (p9 : Rec) (t9 : Rec) (e9 : Rec) (o9 : Rec) (oh9 : Rec) (h9 : Rec) (k9 : Rec) (q9 : Rec) (s19 : Rec) (p19 : Rec) (s29 : Rec) (p29 : Rec) (t19 : Rec) (t29 : Rec) : putW (wB c s p t e o oh h k q s1 p1 s2 p2 t1 t2) [0, 1, 2, 3, 4, 5, 6, 7, 8, 9, 10, 11, 12, 13, 14, 15, 16, 17, 18, 19, 20, 21, 22, 23, 24, 25, 26, 27, 28, 29, 30, 31, 32, 33, 34, 35, 36, 37, 38, 39, 40, 41, 42, 43, 44, 45, 46, 47, 48, 49, 50, 51, 52, 53, 54, 55, 56, 57, 58, 59, 60, 61, 62, 63, 64, 65, 66, 67, 68, 69, 70, 71, 72, 73, 74, 75, 76, 77, 78, 79, 80, 81, 82, 83, 84, 85, 86, 87, 88, 89, 90, 91, 92, 93, 94, 95, 96, 97, 98, 99, 100, 101, 102, 103, 104, 105, 106, 107, 108, 109, 110, 111] ((wB c9 s9 p9 t9 e9 o9 oh9 h9 k9 q9 s19 p19 s29 p29 t19 t29).map (ren [0, 1, 2, 3, 4, 5, 6, 7, 8, 9, 10, 11, 12, 13, 14, 15, 16, 17, 18, 19, 20, 21, 22, 23, 24, 25, 26, 27, 28, 29, 30, 31, 32, 33, 34, 35, 36, 37, 38, 39, 40, 41, 42, 43, 44, 45, 46, 47, 48, 49, 50, 51, 52, 53, 54, 55, 56, 57, 58, 59, 60, 61, 62, 63, 64, 65, 66, 67, 68, 69, 70, 71, 72, 73, 74, 75, 76, 77, 78, 79, 80, 81, 82, 83, 84, 85, 86, 87, 88, 89, 90, 91, 92, 93, 94, 95, 96, 97, 98, 99, 100, 101, 102, 103, 104, 105, 106, 107, 108, 109, 110, 111])) = wB c9 s9 p9 t9 e9 o9 oh9 h9 k9 q9 s19 p19 s29 p29 t19 t29 := by
  rw [slB]
  exact pw_id (len_B ..) (len_B ..) ndB (okwB _ _ _ _ _ _ _ _ _ _ _ _ _ _ _ _)
