/-- a row of rows among the caller's places -/
theorem renQ (t n : Nat) (l sl : List Nat) : ren sl (.inl (t, n, .inr (.inr (.inr (.inr (rowF l)))))) = .inl (t, n, .inr (.inr (.inr (.inr (rowF (l.map (sg sl))))))) := by
  show Sum.inl (t, n, Sum.inr (Sum.inr (Sum.inr (Sum.inr (fun i => (rowF l i).map (sg sl)))))) = _
  rw [rowF_map]
set_option maxHeartbeats 16000000 in
theorem hmT_QS_QS (q : Rec) (s : Rec) : [0, 1, 2, 3, 4, 5, 6, 7, 8, 9, 10, 11, 12, 13, 14, 15, 16, 17, 18, 19, 20].map (lk (wQS q s)) = (wQS q s).map (fun e => some (ren [0, 1, 2, 3, 4, 5, 6, 7, 8, 9, 10, 11, 12, 13, 14, 15, 16, 17, 18, 19, 20] e)) := by
  unfold wQS
  simp only [List.map_cons, List.map_nil, renQ]
  rfl
