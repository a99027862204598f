/-- field links by the class that holds them: place in its pool, (class, slot, of a nest mate) -/
def fz0 : List (Nat × Nat × Nat × Bool) := [(12, 0, 0, false), (20, 0, 1, false), (23, 0, 2, false), (71, 4, 10, true), (68, 4, 11, true), (58, 3, 0, true), (134, 3, 2, true), (54, 3, 4, true), (121, 3, 5, true), (43, 3, 7, true)]
def fz1 : List (Nat × Nat × Nat × Bool) := [(9, 1, 0, false), (15, 1, 1, false), (18, 1, 2, false), (21, 1, 3, false), (46, 4, 4, true), (70, 4, 7, true), (80, 4, 9, true), (60, 4, 10, true), (61, 4, 11, true), (73, 4, 12, true), (24, 3, 0, true), (74, 3, 1, true), (88, 3, 2, true), (77, 3, 3, true), (57, 3, 4, true), (50, 3, 5, true)]
def fz2 : List (Nat × Nat × Nat × Bool) := [(11, 2, 0, false), (16, 2, 1, false), (26, 2, 2, false)]
def fz3 : List (Nat × Nat × Nat × Bool) := [(12, 3, 0, false), (18, 3, 1, false), (22, 3, 2, false), (25, 3, 3, false), (28, 3, 4, false), (42, 3, 5, false), (45, 3, 6, false), (48, 3, 7, false), (31, 3, 8, false), (35, 3, 9, false), (114, 4, 2, true), (55, 4, 9, true), (67, 4, 12, true)]
def fz4 : List (Nat × Nat × Nat × Bool) := [(31, 4, 0, false), (35, 4, 1, false), (55, 4, 2, false), (58, 4, 3, false), (61, 4, 4, false), (64, 4, 5, false), (67, 4, 6, false), (70, 4, 7, false), (9, 4, 8, false), (15, 4, 9, false), (18, 4, 10, false), (22, 4, 11, false), (25, 4, 12, false), (28, 4, 13, false)]
def fz5 : List (Nat × Nat × Nat × Bool) := [(11, 5, 0, false), (16, 5, 1, false), (19, 5, 2, false), (23, 5, 3, false), (26, 5, 4, false), (30, 5, 5, false)]
def fz6 : List (Nat × Nat × Nat × Bool) := [(9, 6, 0, false), (15, 6, 1, false), (18, 6, 2, false), (38, 6, 3, false), (22, 6, 4, false), (32, 6, 5, false), (42, 6, 6, false)]
def fz7 : List (Nat × Nat × Nat × Bool) := [(9, 7, 0, false), (15, 7, 1, false), (34, 4, 10, true), (40, 4, 11, true), (18, 3, 0, true)]
def fz8 : List (Nat × Nat × Nat × Bool) := [(12, 8, 0, false), (19, 8, 1, false), (26, 8, 2, false), (33, 8, 3, false), (40, 8, 4, false), (47, 8, 5, false), (54, 8, 6, false), (58, 8, 7, false), (62, 8, 8, false), (66, 8, 9, false), (70, 8, 10, false), (278, 8, 11, false), (281, 8, 12, false), (284, 8, 13, false), (306, 4, 0, true), (309, 4, 1, true), (110, 4, 2, true), (149, 4, 9, true), (140, 4, 10, true), (143, 4, 11, true), (146, 4, 12, true), (300, 4, 13, true), (90, 3, 0, true), (312, 3, 1, true), (315, 3, 2, true), (318, 3, 3, true), (169, 3, 4, true), (124, 3, 5, true), (190, 3, 6, true), (114, 3, 7, true), (134, 3, 8, true), (137, 3, 9, true), (287, 2, 2, true), (303, 6, 0, true), (333, 6, 1, true), (248, 6, 2, true), (336, 6, 3, true)]
def fz9 : List (Nat × Nat × Nat × Bool) := [(7, 9, 0, false), (13, 9, 1, false), (16, 9, 2, false), (20, 9, 3, false), (23, 9, 4, false), (26, 9, 5, false), (29, 9, 6, false), (32, 9, 7, false), (143, 9, 8, false), (35, 9, 9, false), (175, 9, 10, false), (178, 9, 11, false), (181, 9, 12, false), (38, 9, 13, false), (41, 9, 14, false), (44, 9, 15, false), (47, 9, 16, false), (50, 9, 17, false), (214, 9, 18, false), (217, 9, 19, false), (211, 9, 20, false), (208, 9, 21, false), (53, 9, 22, false), (235, 9, 23, false), (240, 9, 24, false), (246, 9, 25, false), (249, 9, 26, false), (260, 9, 27, false), (56, 9, 28, false), (263, 9, 29, false)]
def fz (c : Nat) : List (Nat × Nat × Nat × Bool) := match c with
  | 0 => fz0
  | 1 => fz1
  | 2 => fz2
  | 3 => fz3
  | 4 => fz4
  | 5 => fz5
  | 6 => fz6
  | 7 => fz7
  | 8 => fz8
  | 9 => fz9
  | _ => []
def fzl : List (Nat × Nat × Nat × Bool) → Nat → Option (Nat × Nat × Bool)
  | [], _ => none
  | q :: t, i => if q.1 == i then some q.2 else fzl t i
def gw : List Cond := lw_tbl.filter goodWord
def isNw : Cond → Bool
  | .fieldLinkNest _ _ _ _ _ _ => true
  | .methodLinkNest _ _ _ _ => true
  | .arrayOver (.object _) => true
  | .arrayOver (.array _) => true
  | _ => false
def nw : List Cond := lw_tbl.filter isNw
def fzW (own : String) (i : Nat) (T : u_T) (k : Nat) (n : Bool) : Cond := if n = true then .fieldLinkNest own i (T k).1 (T k).2.1 (T k).2.2.1 "FoldedBoard" else .fieldLink own i (T k).1 (T k).2.1 (T k).2.2.1
def fzOk (own : String) (q : Nat × Nat × Nat × Bool) : Bool := match vwCl[q.2.1]? with
  | some r => decide (q.2.2.1 < r.2.2) && (decide (fzW own q.1 r.2.1 q.2.2.1 q.2.2.2 ∈ lw_tbl) && (if q.2.2.2 = true then isNw (fzW own q.1 r.2.1 q.2.2.1 q.2.2.2) else goodWord (fzW own q.1 r.2.1 q.2.2.1 q.2.2.2)))
  | none => false
theorem fz0_ok : fz0.all (fzOk RX0) = true := by decide +kernel
theorem fz1_ok : fz1.all (fzOk RX1) = true := by decide +kernel
theorem fz2_ok : fz2.all (fzOk RX2) = true := by decide +kernel
theorem fz3_ok : fz3.all (fzOk RX3) = true := by decide +kernel
theorem fz4_ok : fz4.all (fzOk RX4) = true := by decide +kernel
theorem fz5_ok : fz5.all (fzOk RX5) = true := by decide +kernel
theorem fz6_ok : fz6.all (fzOk RX6) = true := by decide +kernel
theorem fz7_ok : fz7.all (fzOk RX7) = true := by decide +kernel
theorem fz8_ok : fz8.all (fzOk RX8) = true := by decide +kernel
theorem fz9_ok : fz9.all (fzOk RX9) = true := by decide +kernel
theorem inW0 : (u_ws RX0 TX0 3).all (fun w => decide (w ∈ lw_tbl) && goodWord w) = true := by decide +kernel
theorem inW1 : (u_ws RX1 TX1 4).all (fun w => decide (w ∈ lw_tbl) && goodWord w) = true := by decide +kernel
theorem inW2 : (u_ws RX2 TX2 3).all (fun w => decide (w ∈ lw_tbl) && goodWord w) = true := by decide +kernel
theorem inW3 : (u_ws RX3 TX3 10).all (fun w => decide (w ∈ lw_tbl) && goodWord w) = true := by decide +kernel
theorem inW4 : (u_ws RX4 TX4 14).all (fun w => decide (w ∈ lw_tbl) && goodWord w) = true := by decide +kernel
theorem inW5 : (u_ws RX5 TX5 6).all (fun w => decide (w ∈ lw_tbl) && goodWord w) = true := by decide +kernel
theorem inW6 : (u_ws RX6 TX6 7).all (fun w => decide (w ∈ lw_tbl) && goodWord w) = true := by decide +kernel
theorem inW7 : (u_ws RX7 TX7 2).all (fun w => decide (w ∈ lw_tbl) && goodWord w) = true := by decide +kernel
theorem inW8 : (u_ws RX8 TX8 14).all (fun w => decide (w ∈ lw_tbl) && goodWord w) = true := by decide +kernel
theorem inW9 : (u_ws RX9 TX9 30).all (fun w => decide (w ∈ lw_tbl) && goodWord w) = true := by decide +kernel
def tyA (c : Nat) : Nat → FieldType := match c with
  | 0 => tyX0
  | 1 => tyX1
  | 2 => tyX2
  | 3 => tyX3
  | 4 => tyX4
  | 5 => tyX5
  | 6 => tyX6
  | 7 => tyX7
  | 8 => tyX8
  | 9 => tyX9
  | _ => fun _ => .int
