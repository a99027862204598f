/-! cells of the worlds HP, QS by their places -/
theorem lkHP_0 (o : Rec) (h : Rec) (s : Rec) (p : Rec) : lk (wHP o h s p) 0 = some (.inr (0, [.ref 1, .ref 6, .ref 11])) := rfl
theorem lkHP_1 (o : Rec) (h : Rec) (s : Rec) (p : Rec) : lk (wHP o h s p) 1 = some (.inr (1, [.ref 2, .ref 3, .ref 4, .ref 5])) := rfl
theorem lkHP_2 (o : Rec) (h : Rec) (s : Rec) (p : Rec) : lk (wHP o h s p) 2 = some (.inl (0, 8, .inl (o.2 0))) := rfl
theorem lkHP_3 (o : Rec) (h : Rec) (s : Rec) (p : Rec) : lk (wHP o h s p) 3 = some (.inl (0, 8, .inl (o.2 1))) := rfl
theorem lkHP_4 (o : Rec) (h : Rec) (s : Rec) (p : Rec) : lk (wHP o h s p) 4 = some (.inl (0, 8, .inl (o.2 2))) := rfl
theorem lkHP_5 (o : Rec) (h : Rec) (s : Rec) (p : Rec) : lk (wHP o h s p) 5 = some (.inl (0, 8, .inl (o.2 3))) := rfl
theorem lkHP_6 (o : Rec) (h : Rec) (s : Rec) (p : Rec) : lk (wHP o h s p) 6 = some (.inl (4, 4, .inr (.inr (.inr (.inr (rowF [7, 8, 9, 10])))))) := rfl
theorem lkHP_7 (o : Rec) (h : Rec) (s : Rec) (p : Rec) : lk (wHP o h s p) 7 = some (.inl (0, 20, .inl (h.2 100))) := rfl
theorem lkHP_8 (o : Rec) (h : Rec) (s : Rec) (p : Rec) : lk (wHP o h s p) 8 = some (.inl (0, 20, .inl (h.2 101))) := rfl
theorem lkHP_9 (o : Rec) (h : Rec) (s : Rec) (p : Rec) : lk (wHP o h s p) 9 = some (.inl (0, 20, .inl (h.2 102))) := rfl
theorem lkHP_10 (o : Rec) (h : Rec) (s : Rec) (p : Rec) : lk (wHP o h s p) 10 = some (.inl (0, 20, .inl (h.2 103))) := rfl
theorem lkHP_11 (o : Rec) (h : Rec) (s : Rec) (p : Rec) : lk (wHP o h s p) 11 = some (.inl (4, 4, .inr (.inr (.inr (.inr (rowF [12, 13, 14, 15])))))) := rfl
theorem lkHP_12 (o : Rec) (h : Rec) (s : Rec) (p : Rec) : lk (wHP o h s p) 12 = some (.inl (0, 8, .inl (h.2 200))) := rfl
theorem lkHP_13 (o : Rec) (h : Rec) (s : Rec) (p : Rec) : lk (wHP o h s p) 13 = some (.inl (0, 8, .inl (h.2 201))) := rfl
theorem lkHP_14 (o : Rec) (h : Rec) (s : Rec) (p : Rec) : lk (wHP o h s p) 14 = some (.inl (0, 8, .inl (h.2 202))) := rfl
theorem lkHP_15 (o : Rec) (h : Rec) (s : Rec) (p : Rec) : lk (wHP o h s p) 15 = some (.inl (0, 8, .inl (h.2 203))) := rfl
theorem lkHP_16 (o : Rec) (h : Rec) (s : Rec) (p : Rec) : lk (wHP o h s p) 16 = some (.inr (3, [.ref 17, .ref 24, .ref 25, .ref 26, .ref 27, .int (p.1 5), .int (p.1 6), .int (p.1 7), .int (p.1 8), .int (p.1 9)])) := rfl
theorem lkHP_17 (o : Rec) (h : Rec) (s : Rec) (p : Rec) : lk (wHP o h s p) 17 = some (.inr (4, [.int (s.1 0), .int (s.1 1), .int (s.1 2), .int (s.1 3), .int (s.1 4), .int (s.1 5), .int (s.1 6), .int (s.1 7), .ref 18, .ref 19, .ref 20, .ref 21, .ref 22, .ref 23])) := rfl
theorem lkHP_18 (o : Rec) (h : Rec) (s : Rec) (p : Rec) : lk (wHP o h s p) 18 = some (.inl (1, 36, .inl (s.2 8))) := rfl
theorem lkHP_19 (o : Rec) (h : Rec) (s : Rec) (p : Rec) : lk (wHP o h s p) 19 = some (.inl (1, 36, .inl (s.2 9))) := rfl
theorem lkHP_20 (o : Rec) (h : Rec) (s : Rec) (p : Rec) : lk (wHP o h s p) 20 = some (.inl (0, 36, .inl (s.2 10))) := rfl
theorem lkHP_21 (o : Rec) (h : Rec) (s : Rec) (p : Rec) : lk (wHP o h s p) 21 = some (.inl (0, 36, .inl (s.2 11))) := rfl
theorem lkHP_22 (o : Rec) (h : Rec) (s : Rec) (p : Rec) : lk (wHP o h s p) 22 = some (.inl (0, 36, .inl (s.2 12))) := rfl
theorem lkHP_23 (o : Rec) (h : Rec) (s : Rec) (p : Rec) : lk (wHP o h s p) 23 = some (.inl (0, 9, .inl (s.2 13))) := rfl
theorem lkHP_24 (o : Rec) (h : Rec) (s : Rec) (p : Rec) : lk (wHP o h s p) 24 = some (.inl (0, 8, .inl (p.2 1))) := rfl
theorem lkHP_25 (o : Rec) (h : Rec) (s : Rec) (p : Rec) : lk (wHP o h s p) 25 = some (.inl (0, 8, .inl (p.2 2))) := rfl
theorem lkHP_26 (o : Rec) (h : Rec) (s : Rec) (p : Rec) : lk (wHP o h s p) 26 = some (.inl (0, 8, .inl (p.2 3))) := rfl
theorem lkHP_27 (o : Rec) (h : Rec) (s : Rec) (p : Rec) : lk (wHP o h s p) 27 = some (.inl (0, 8, .inl (p.2 4))) := rfl
theorem lkQS_0 (q : Rec) (s : Rec) : lk (wQS q s) 0 = some (.inr (5, [.ref 1, .ref 6, .ref 11, .ref 12, .ref 13, .int (q.1 5)])) := rfl
theorem lkQS_1 (q : Rec) (s : Rec) : lk (wQS q s) 1 = some (.inl (4, 4, .inr (.inr (.inr (.inr (rowF [2, 3, 4, 5])))))) := rfl
theorem lkQS_2 (q : Rec) (s : Rec) : lk (wQS q s) 2 = some (.inl (0, 6, .inl (q.2 100))) := rfl
theorem lkQS_3 (q : Rec) (s : Rec) : lk (wQS q s) 3 = some (.inl (0, 6, .inl (q.2 101))) := rfl
theorem lkQS_4 (q : Rec) (s : Rec) : lk (wQS q s) 4 = some (.inl (0, 6, .inl (q.2 102))) := rfl
theorem lkQS_5 (q : Rec) (s : Rec) : lk (wQS q s) 5 = some (.inl (0, 6, .inl (q.2 103))) := rfl
theorem lkQS_6 (q : Rec) (s : Rec) : lk (wQS q s) 6 = some (.inl (4, 4, .inr (.inr (.inr (.inr (rowF [7, 8, 9, 10])))))) := rfl
theorem lkQS_7 (q : Rec) (s : Rec) : lk (wQS q s) 7 = some (.inl (0, 6, .inl (q.2 200))) := rfl
theorem lkQS_8 (q : Rec) (s : Rec) : lk (wQS q s) 8 = some (.inl (0, 6, .inl (q.2 201))) := rfl
theorem lkQS_9 (q : Rec) (s : Rec) : lk (wQS q s) 9 = some (.inl (0, 6, .inl (q.2 202))) := rfl
theorem lkQS_10 (q : Rec) (s : Rec) : lk (wQS q s) 10 = some (.inl (0, 6, .inl (q.2 203))) := rfl
theorem lkQS_11 (q : Rec) (s : Rec) : lk (wQS q s) 11 = some (.inl (1, 6, .inl (q.2 2))) := rfl
theorem lkQS_12 (q : Rec) (s : Rec) : lk (wQS q s) 12 = some (.inl (1, 6, .inl (q.2 3))) := rfl
theorem lkQS_13 (q : Rec) (s : Rec) : lk (wQS q s) 13 = some (.inl (0, 4, .inl (q.2 4))) := rfl
theorem lkQS_14 (q : Rec) (s : Rec) : lk (wQS q s) 14 = some (.inr (4, [.int (s.1 0), .int (s.1 1), .int (s.1 2), .int (s.1 3), .int (s.1 4), .int (s.1 5), .int (s.1 6), .int (s.1 7), .ref 15, .ref 16, .ref 17, .ref 18, .ref 19, .ref 20])) := rfl
theorem lkQS_15 (q : Rec) (s : Rec) : lk (wQS q s) 15 = some (.inl (1, 36, .inl (s.2 8))) := rfl
theorem lkQS_16 (q : Rec) (s : Rec) : lk (wQS q s) 16 = some (.inl (1, 36, .inl (s.2 9))) := rfl
theorem lkQS_17 (q : Rec) (s : Rec) : lk (wQS q s) 17 = some (.inl (0, 36, .inl (s.2 10))) := rfl
theorem lkQS_18 (q : Rec) (s : Rec) : lk (wQS q s) 18 = some (.inl (0, 36, .inl (s.2 11))) := rfl
theorem lkQS_19 (q : Rec) (s : Rec) : lk (wQS q s) 19 = some (.inl (0, 36, .inl (s.2 12))) := rfl
theorem lkQS_20 (q : Rec) (s : Rec) : lk (wQS q s) 20 = some (.inl (0, 9, .inl (s.2 13))) := rfl
