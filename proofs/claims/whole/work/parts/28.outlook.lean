set_option maxHeartbeats 16000000 in
theorem hm16_OP_P (o : Rec) (s : Rec) (p : Rec) : [5, 6, 7, 8, 9, 10, 11, 12, 13, 14, 15, 16].map (lk (wOP o s p)) = (wP s p).map (fun e => some (ren [5, 6, 7, 8, 9, 10, 11, 12, 13, 14, 15, 16] e)) := rfl
set_option maxHeartbeats 16000000 in
theorem pw28_OP_P (o : Rec) (s : Rec) (p : Rec)  : putW (wOP o s p) [5, 6, 7, 8, 9, 10, 11, 12, 13, 14, 15, 16] ((wP s p).map (ren [5, 6, 7, 8, 9, 10, 11, 12, 13, 14, 15, 16])) = (wOP o s p) := rfl
def f_X1_look_156 (K9 : Rec → Rec → Rec → Int32 → Int32 → Int32 → Int32 → Rec) (o : Rec) (s : Rec) (p : Rec) (v2 : Int32) (v3 : Int32) (v4 : Int32) (v6 : Int32) (v7 : Int32) (v8 : Int32) (u1 : Int32) (u2 : Int32) : Rec := if v8 = 0 then (if ((s.2 9) (Int32.toNatClampNeg v7)) = v8 then (K9 (setA (setA (setA o 1 (upd (o.2 1) (Int32.toNatClampNeg u1) u2)) 2 (upd (o.2 2) (Int32.toNatClampNeg v6) ((s.2 12) (Int32.toNatClampNeg v7)))) 3 (upd (o.2 3) (Int32.toNatClampNeg v6) (f_X8_powerOfKind ((p.2 1) (Int32.toNatClampNeg v6)) ((p.2 3) (Int32.toNatClampNeg v6)) ((Int32.ofInt 0))))) s p v2 v3 v4 (v6 + (Int32.ofInt 1))) else (K9 (setA (setA (setA o 1 (upd (o.2 1) (Int32.toNatClampNeg u1) u2)) 2 (upd (o.2 2) (Int32.toNatClampNeg v6) ((s.2 12) (Int32.toNatClampNeg v7)))) 3 (upd (o.2 3) (Int32.toNatClampNeg v6) (f_X8_powerOfKind ((p.2 1) (Int32.toNatClampNeg v6)) ((p.2 3) (Int32.toNatClampNeg v6)) ((Int32.ofInt 1))))) s p v2 v3 v4 (v6 + (Int32.ofInt 1)))) else (if ((s.2 9) (Int32.toNatClampNeg v7)) = v8 then (K9 (setA (setA (setA o 1 (upd (o.2 1) (Int32.toNatClampNeg u1) u2)) 2 (upd (o.2 2) (Int32.toNatClampNeg v6) ((((Int32.ofInt 2) * (s.1 7)) + (Int32.ofInt 1)) - ((s.2 12) (Int32.toNatClampNeg v7))))) 3 (upd (o.2 3) (Int32.toNatClampNeg v6) (f_X8_powerOfKind ((p.2 1) (Int32.toNatClampNeg v6)) ((p.2 3) (Int32.toNatClampNeg v6)) ((Int32.ofInt 0))))) s p v2 v3 v4 (v6 + (Int32.ofInt 1))) else (K9 (setA (setA (setA o 1 (upd (o.2 1) (Int32.toNatClampNeg u1) u2)) 2 (upd (o.2 2) (Int32.toNatClampNeg v6) ((((Int32.ofInt 2) * (s.1 7)) + (Int32.ofInt 1)) - ((s.2 12) (Int32.toNatClampNeg v7))))) 3 (upd (o.2 3) (Int32.toNatClampNeg v6) (f_X8_powerOfKind ((p.2 1) (Int32.toNatClampNeg v6)) ((p.2 3) (Int32.toNatClampNeg v6)) ((Int32.ofInt 1))))) s p v2 v3 v4 (v6 + (Int32.ofInt 1))))
def p_X1_look_156 (G9 : Rec → Rec → Rec → Int32 → Int32 → Int32 → Int32 → Prop) (o : Rec) (s : Rec) (p : Rec) (v2 : Int32) (v3 : Int32) (v4 : Int32) (v6 : Int32) (v7 : Int32) (v8 : Int32) (u1 : Int32) (u2 : Int32) : Prop := vp_in u1 8 ∧ ((v8 = 0 → (vp_in v7 36 ∧ (vp_in v6 8 ∧ (vp_in v6 8 ∧ (vp_in v6 8 ∧ (vp_in v7 36 ∧ ((((s.2 9) (Int32.toNatClampNeg v7)) = v8 → (vp_in v6 8 ∧ (G9 (setA (setA (setA o 1 (upd (o.2 1) (Int32.toNatClampNeg u1) u2)) 2 (upd (o.2 2) (Int32.toNatClampNeg v6) ((s.2 12) (Int32.toNatClampNeg v7)))) 3 (upd (o.2 3) (Int32.toNatClampNeg v6) (f_X8_powerOfKind ((p.2 1) (Int32.toNatClampNeg v6)) ((p.2 3) (Int32.toNatClampNeg v6)) ((Int32.ofInt 0))))) s p v2 v3 v4 (v6 + (Int32.ofInt 1))))) ∧ (¬ (((s.2 9) (Int32.toNatClampNeg v7)) = v8) → (vp_in v6 8 ∧ (G9 (setA (setA (setA o 1 (upd (o.2 1) (Int32.toNatClampNeg u1) u2)) 2 (upd (o.2 2) (Int32.toNatClampNeg v6) ((s.2 12) (Int32.toNatClampNeg v7)))) 3 (upd (o.2 3) (Int32.toNatClampNeg v6) (f_X8_powerOfKind ((p.2 1) (Int32.toNatClampNeg v6)) ((p.2 3) (Int32.toNatClampNeg v6)) ((Int32.ofInt 1))))) s p v2 v3 v4 (v6 + (Int32.ofInt 1)))))))))))) ∧ (¬ (v8 = 0) → (vp_in v7 36 ∧ (vp_in v6 8 ∧ (vp_in v6 8 ∧ (vp_in v6 8 ∧ (vp_in v7 36 ∧ ((((s.2 9) (Int32.toNatClampNeg v7)) = v8 → (vp_in v6 8 ∧ (G9 (setA (setA (setA o 1 (upd (o.2 1) (Int32.toNatClampNeg u1) u2)) 2 (upd (o.2 2) (Int32.toNatClampNeg v6) ((((Int32.ofInt 2) * (s.1 7)) + (Int32.ofInt 1)) - ((s.2 12) (Int32.toNatClampNeg v7))))) 3 (upd (o.2 3) (Int32.toNatClampNeg v6) (f_X8_powerOfKind ((p.2 1) (Int32.toNatClampNeg v6)) ((p.2 3) (Int32.toNatClampNeg v6)) ((Int32.ofInt 0))))) s p v2 v3 v4 (v6 + (Int32.ofInt 1))))) ∧ (¬ (((s.2 9) (Int32.toNatClampNeg v7)) = v8) → (vp_in v6 8 ∧ (G9 (setA (setA (setA o 1 (upd (o.2 1) (Int32.toNatClampNeg u1) u2)) 2 (upd (o.2 2) (Int32.toNatClampNeg v6) ((((Int32.ofInt 2) * (s.1 7)) + (Int32.ofInt 1)) - ((s.2 12) (Int32.toNatClampNeg v7))))) 3 (upd (o.2 3) (Int32.toNatClampNeg v6) (f_X8_powerOfKind ((p.2 1) (Int32.toNatClampNeg v6)) ((p.2 3) (Int32.toNatClampNeg v6)) ((Int32.ofInt 1))))) s p v2 v3 v4 (v6 + (Int32.ofInt 1)))))))))))))
set_option maxHeartbeats 16000000 in
set_option maxRecDepth 20000 in
theorem l_X1_look_156 (sc : SC) (s : Rec) (p : Rec) {K9 : Rec → Rec → Rec → Int32 → Int32 → Int32 → Int32 → Rec} {G9 : Rec → Rec → Rec → Int32 → Int32 → Int32 → Int32 → Prop} (zq : Rec) (hK9 : ∀ (o : Rec) (v2 : Int32) (v3 : Int32) (v4 : Int32) (v6 : Int32), G9 o s p v2 v3 v4 v6 → zq = K9 o s p v2 v3 v4 v6 → Good sc 1 0 0 17 mX1_look (Ret none (wOP (zq) s p)) 0 0 9 [some (.ref 0), some (.ref 5), some (.int v2), some (.int v3), some (.int v4), some (.ref 6), some (.int v6), none, none] [] (wOP o s p)) (o : Rec) (v2 : Int32) (v3 : Int32) (v4 : Int32) (v6 : Int32) (v7 : Int32) (v8 : Int32) (u1 : Int32) (u2 : Int32) (hp : p_X1_look_156 G9 o s p v2 v3 v4 v6 v7 v8 u1 u2) (hq : zq = f_X1_look_156 K9 o s p v2 v3 v4 v6 v7 v8 u1 u2) : Good sc 1 0 0 17 mX1_look (Ret none (wOP (zq) s p)) 0 0 156 [some (.ref 0), some (.ref 5), some (.int v2), some (.int v3), some (.int v4), some (.ref 6), some (.int v6), some (.int v7), some (.int v8)] [.int u2, .int u1, .ref 2] (wOP o s p) := by
  unfold p_X1_look_156 at hp
  unfold f_X1_look_156 at hq
  refine g_blk hz0 kX1_look_156 ?_
  refine ⟨hp.1, ?_⟩
  replace hp := hp.2
  refine ⟨fun c10 => ?_, fun c10 => ?_⟩
  · rw [if_pos (show v8 = 0 from c10)] at hq
    replace hp := hp.1 c10
    refine g_blk hz0 kX1_look_189 ?_
    refine ⟨hp.1, ?_⟩
    replace hp := hp.2
    refine g_blk hz0 kX1_look_197 ?_
    refine ⟨hp.1, ?_⟩
    replace hp := hp.2
    refine ⟨hp.1, ?_⟩
    replace hp := hp.2
    refine ⟨hp.1, ?_⟩
    replace hp := hp.2
    refine ⟨hp.1, ?_⟩
    replace hp := hp.2
    refine ⟨fun c11 => ?_, fun c11 => ?_⟩
    · rw [if_pos (show ((s.2 9) (Int32.toNatClampNeg v7)) = v8 from c11)] at hq
      replace hp := hp.1 c11
      refine g_blk hz0 kX1_look_235 ?_
      refine cS0 (s_X8_powerOfKind ((p.2 1) (Int32.toNatClampNeg v6)) ((p.2 3) (Int32.toNatClampNeg v6)) ((Int32.ofInt 0))) rfl cwX8_powerOfKind dX1_look_236 rfl ?_
      refine g_blk hz0 kX1_look_239 ?_
      refine ⟨hp.1, ?_⟩
      replace hp := hp.2
      refine g_blk hz0 kX1_look_240 ?_
      refine g_le (L2 := [some (.ref 0), some (.ref 5), some (.int v2), some (.int v3), some (.int v4), some (.ref 6), some (.int (v6 + (Int32.ofInt 1))), none, none]) ⟨rfl, rfl, rfl, rfl, rfl, rfl, rfl, trivial⟩ ?_
      exact hK9 (setA (setA (setA o 1 (upd (o.2 1) (Int32.toNatClampNeg u1) u2)) 2 (upd (o.2 2) (Int32.toNatClampNeg v6) ((s.2 12) (Int32.toNatClampNeg v7)))) 3 (upd (o.2 3) (Int32.toNatClampNeg v6) (f_X8_powerOfKind ((p.2 1) (Int32.toNatClampNeg v6)) ((p.2 3) (Int32.toNatClampNeg v6)) ((Int32.ofInt 0))))) v2 v3 v4 (v6 + (Int32.ofInt 1)) hp hq
    · rw [if_neg (show ¬ (((s.2 9) (Int32.toNatClampNeg v7)) = v8) from c11)] at hq
      replace hp := hp.2 c11
      refine g_blk hz0 kX1_look_231 ?_
      refine cS0 (s_X8_powerOfKind ((p.2 1) (Int32.toNatClampNeg v6)) ((p.2 3) (Int32.toNatClampNeg v6)) ((Int32.ofInt 1))) rfl cwX8_powerOfKind dX1_look_236 rfl ?_
      refine g_blk hz0 kX1_look_239 ?_
      refine ⟨hp.1, ?_⟩
      replace hp := hp.2
      refine g_blk hz0 kX1_look_240 ?_
      refine g_le (L2 := [some (.ref 0), some (.ref 5), some (.int v2), some (.int v3), some (.int v4), some (.ref 6), some (.int (v6 + (Int32.ofInt 1))), none, none]) ⟨rfl, rfl, rfl, rfl, rfl, rfl, rfl, trivial⟩ ?_
      exact hK9 (setA (setA (setA o 1 (upd (o.2 1) (Int32.toNatClampNeg u1) u2)) 2 (upd (o.2 2) (Int32.toNatClampNeg v6) ((s.2 12) (Int32.toNatClampNeg v7)))) 3 (upd (o.2 3) (Int32.toNatClampNeg v6) (f_X8_powerOfKind ((p.2 1) (Int32.toNatClampNeg v6)) ((p.2 3) (Int32.toNatClampNeg v6)) ((Int32.ofInt 1))))) v2 v3 v4 (v6 + (Int32.ofInt 1)) hp hq
  · rw [if_neg (show ¬ (v8 = 0) from c10)] at hq
    replace hp := hp.2 c10
    refine g_blk hz0 kX1_look_168 ?_
    refine ⟨hp.1, ?_⟩
    replace hp := hp.2
    refine g_blk hz0 kX1_look_197 ?_
    refine ⟨hp.1, ?_⟩
    replace hp := hp.2
    refine ⟨hp.1, ?_⟩
    replace hp := hp.2
    refine ⟨hp.1, ?_⟩
    replace hp := hp.2
    refine ⟨hp.1, ?_⟩
    replace hp := hp.2
    refine ⟨fun c12 => ?_, fun c12 => ?_⟩
    · rw [if_pos (show ((s.2 9) (Int32.toNatClampNeg v7)) = v8 from c12)] at hq
      replace hp := hp.1 c12
      refine g_blk hz0 kX1_look_235 ?_
      refine cS0 (s_X8_powerOfKind ((p.2 1) (Int32.toNatClampNeg v6)) ((p.2 3) (Int32.toNatClampNeg v6)) ((Int32.ofInt 0))) rfl cwX8_powerOfKind dX1_look_236 rfl ?_
      refine g_blk hz0 kX1_look_239 ?_
      refine ⟨hp.1, ?_⟩
      replace hp := hp.2
      refine g_blk hz0 kX1_look_240 ?_
      refine g_le (L2 := [some (.ref 0), some (.ref 5), some (.int v2), some (.int v3), some (.int v4), some (.ref 6), some (.int (v6 + (Int32.ofInt 1))), none, none]) ⟨rfl, rfl, rfl, rfl, rfl, rfl, rfl, trivial⟩ ?_
      exact hK9 (setA (setA (setA o 1 (upd (o.2 1) (Int32.toNatClampNeg u1) u2)) 2 (upd (o.2 2) (Int32.toNatClampNeg v6) ((((Int32.ofInt 2) * (s.1 7)) + (Int32.ofInt 1)) - ((s.2 12) (Int32.toNatClampNeg v7))))) 3 (upd (o.2 3) (Int32.toNatClampNeg v6) (f_X8_powerOfKind ((p.2 1) (Int32.toNatClampNeg v6)) ((p.2 3) (Int32.toNatClampNeg v6)) ((Int32.ofInt 0))))) v2 v3 v4 (v6 + (Int32.ofInt 1)) hp hq
    · rw [if_neg (show ¬ (((s.2 9) (Int32.toNatClampNeg v7)) = v8) from c12)] at hq
      replace hp := hp.2 c12
      refine g_blk hz0 kX1_look_231 ?_
      refine cS0 (s_X8_powerOfKind ((p.2 1) (Int32.toNatClampNeg v6)) ((p.2 3) (Int32.toNatClampNeg v6)) ((Int32.ofInt 1))) rfl cwX8_powerOfKind dX1_look_236 rfl ?_
      refine g_blk hz0 kX1_look_239 ?_
      refine ⟨hp.1, ?_⟩
      replace hp := hp.2
      refine g_blk hz0 kX1_look_240 ?_
      refine g_le (L2 := [some (.ref 0), some (.ref 5), some (.int v2), some (.int v3), some (.int v4), some (.ref 6), some (.int (v6 + (Int32.ofInt 1))), none, none]) ⟨rfl, rfl, rfl, rfl, rfl, rfl, rfl, trivial⟩ ?_
      exact hK9 (setA (setA (setA o 1 (upd (o.2 1) (Int32.toNatClampNeg u1) u2)) 2 (upd (o.2 2) (Int32.toNatClampNeg v6) ((((Int32.ofInt 2) * (s.1 7)) + (Int32.ofInt 1)) - ((s.2 12) (Int32.toNatClampNeg v7))))) 3 (upd (o.2 3) (Int32.toNatClampNeg v6) (f_X8_powerOfKind ((p.2 1) (Int32.toNatClampNeg v6)) ((p.2 3) (Int32.toNatClampNeg v6)) ((Int32.ofInt 1))))) v2 v3 v4 (v6 + (Int32.ofInt 1)) hp hq
def f_X1_look_116 (K9 : Rec → Rec → Rec → Int32 → Int32 → Int32 → Int32 → Rec) (o : Rec) (s : Rec) (p : Rec) (v2 : Int32) (v3 : Int32) (v4 : Int32) (v6 : Int32) (v7 : Int32) (v8 : Int32) (u1 : Int32) (u2 : Int32) : Rec := if v8 = 0 then (f_X1_look_156 K9 (setA o 0 (upd (o.2 0) (Int32.toNatClampNeg u1) u2)) s p v2 v3 v4 v6 v7 v8 v6 ((s.2 11) (Int32.toNatClampNeg v7))) else (if v2 = (Int32.ofInt 1) then (f_X1_look_156 K9 (setA o 0 (upd (o.2 0) (Int32.toNatClampNeg u1) u2)) s p v2 v3 v4 v6 v7 v8 v6 (f_X8_mirrored ((s.2 11) (Int32.toNatClampNeg v7)) v3)) else (f_X1_look_156 K9 (setA o 0 (upd (o.2 0) (Int32.toNatClampNeg u1) u2)) s p v2 v3 v4 v6 v7 v8 v6 ((s.2 11) (Int32.toNatClampNeg v7))))
def p_X1_look_116 (G9 : Rec → Rec → Rec → Int32 → Int32 → Int32 → Int32 → Prop) (o : Rec) (s : Rec) (p : Rec) (v2 : Int32) (v3 : Int32) (v4 : Int32) (v6 : Int32) (v7 : Int32) (v8 : Int32) (u1 : Int32) (u2 : Int32) : Prop := vp_in u1 8 ∧ ((v8 = 0 → (vp_in v7 36 ∧ (p_X1_look_156 G9 (setA o 0 (upd (o.2 0) (Int32.toNatClampNeg u1) u2)) s p v2 v3 v4 v6 v7 v8 v6 ((s.2 11) (Int32.toNatClampNeg v7))))) ∧ (¬ (v8 = 0) → ((v2 = (Int32.ofInt 1) → (vp_in v7 36 ∧ (p_X1_look_156 G9 (setA o 0 (upd (o.2 0) (Int32.toNatClampNeg u1) u2)) s p v2 v3 v4 v6 v7 v8 v6 (f_X8_mirrored ((s.2 11) (Int32.toNatClampNeg v7)) v3)))) ∧ (¬ (v2 = (Int32.ofInt 1)) → (vp_in v7 36 ∧ (p_X1_look_156 G9 (setA o 0 (upd (o.2 0) (Int32.toNatClampNeg u1) u2)) s p v2 v3 v4 v6 v7 v8 v6 ((s.2 11) (Int32.toNatClampNeg v7))))))))
set_option maxHeartbeats 16000000 in
set_option maxRecDepth 20000 in
theorem l_X1_look_116 (sc : SC) (s : Rec) (p : Rec) {K9 : Rec → Rec → Rec → Int32 → Int32 → Int32 → Int32 → Rec} {G9 : Rec → Rec → Rec → Int32 → Int32 → Int32 → Int32 → Prop} (zq : Rec) (hK9 : ∀ (o : Rec) (v2 : Int32) (v3 : Int32) (v4 : Int32) (v6 : Int32), G9 o s p v2 v3 v4 v6 → zq = K9 o s p v2 v3 v4 v6 → Good sc 1 0 0 17 mX1_look (Ret none (wOP (zq) s p)) 0 0 9 [some (.ref 0), some (.ref 5), some (.int v2), some (.int v3), some (.int v4), some (.ref 6), some (.int v6), none, none] [] (wOP o s p)) (o : Rec) (v2 : Int32) (v3 : Int32) (v4 : Int32) (v6 : Int32) (v7 : Int32) (v8 : Int32) (u1 : Int32) (u2 : Int32) (hp : p_X1_look_116 G9 o s p v2 v3 v4 v6 v7 v8 u1 u2) (hq : zq = f_X1_look_116 K9 o s p v2 v3 v4 v6 v7 v8 u1 u2) : Good sc 1 0 0 17 mX1_look (Ret none (wOP (zq) s p)) 0 0 116 [some (.ref 0), some (.ref 5), some (.int v2), some (.int v3), some (.int v4), some (.ref 6), some (.int v6), some (.int v7), some (.int v8)] [.int u2, .int u1, .ref 1] (wOP o s p) := by
  unfold p_X1_look_116 at hp
  unfold f_X1_look_116 at hq
  refine g_blk hz0 kX1_look_116 ?_
  refine ⟨hp.1, ?_⟩
  replace hp := hp.2
  refine ⟨fun c8 => ?_, fun c8 => ?_⟩
  · rw [if_pos (show v8 = 0 from c8)] at hq
    replace hp := hp.1 c8
    refine g_blk hz0 kX1_look_148 ?_
    refine ⟨hp.1, ?_⟩
    replace hp := hp.2
    refine g_le (L2 := [some (.ref 0), some (.ref 5), some (.int v2), some (.int v3), some (.int v4), some (.ref 6), some (.int v6), some (.int v7), some (.int v8)]) ⟨rfl, rfl, rfl, rfl, rfl, rfl, rfl, rfl, rfl, trivial⟩ ?_
    exact l_X1_look_156 sc s p zq hK9 (setA o 0 (upd (o.2 0) (Int32.toNatClampNeg u1) u2)) v2 v3 v4 v6 v7 v8 v6 ((s.2 11) (Int32.toNatClampNeg v7)) hp hq
  · rw [if_neg (show ¬ (v8 = 0) from c8)] at hq
    replace hp := hp.2 c8
    refine g_blk hz0 kX1_look_128 ?_
    refine ⟨fun c9 => ?_, fun c9 => ?_⟩
    · rw [if_neg (show ¬ (v2 = (Int32.ofInt 1)) from c9)] at hq
      replace hp := hp.2 c9
      refine g_blk hz0 kX1_look_148 ?_
      refine ⟨hp.1, ?_⟩
      replace hp := hp.2
      refine g_le (L2 := [some (.ref 0), some (.ref 5), some (.int v2), some (.int v3), some (.int v4), some (.ref 6), some (.int v6), some (.int v7), some (.int v8)]) ⟨rfl, rfl, rfl, rfl, rfl, rfl, rfl, rfl, rfl, trivial⟩ ?_
      exact l_X1_look_156 sc s p zq hK9 (setA o 0 (upd (o.2 0) (Int32.toNatClampNeg u1) u2)) v2 v3 v4 v6 v7 v8 v6 ((s.2 11) (Int32.toNatClampNeg v7)) hp hq
    · rw [if_pos (show v2 = (Int32.ofInt 1) from c9)] at hq
      replace hp := hp.1 c9
      refine g_blk hz0 kX1_look_133 ?_
      refine ⟨hp.1, ?_⟩
      replace hp := hp.2
      refine cS0 (s_X8_mirrored ((s.2 11) (Int32.toNatClampNeg v7)) v3) rfl cwX8_mirrored dX1_look_142 rfl ?_
      refine g_blk hz0 kX1_look_145 ?_
      refine g_le (L2 := [some (.ref 0), some (.ref 5), some (.int v2), some (.int v3), some (.int v4), some (.ref 6), some (.int v6), some (.int v7), some (.int v8)]) ⟨rfl, rfl, rfl, rfl, rfl, rfl, rfl, rfl, rfl, trivial⟩ ?_
      exact l_X1_look_156 sc s p zq hK9 (setA o 0 (upd (o.2 0) (Int32.toNatClampNeg u1) u2)) v2 v3 v4 v6 v7 v8 v6 (f_X8_mirrored ((s.2 11) (Int32.toNatClampNeg v7)) v3) hp hq
def f_X1_look_9  : Nat → Rec → Rec → Rec → Int32 → Int32 → Int32 → Int32 → Rec
  | 0, o, s, p, v2, v3, v4, v6 => o
  | n + 1, o, s, p, v2, v3, v4, v6 => if (p.1 5) ≤ v6 then o else (if (f_X3_isIn s p v6) = 0 then (f_X1_look_9 n (setA o 3 (upd (o.2 3) (Int32.toNatClampNeg v6) (Int32.ofInt (-1)))) s p v2 v3 v4 (v6 + (Int32.ofInt 1))) else (if v2 = 0 then (if (f_X8_turns ((s.2 10) (Int32.toNatClampNeg ((p.2 4) (Int32.toNatClampNeg v6)))) v3 v4) = 0 then (f_X1_look_116 (f_X1_look_9 n) o s p v2 v3 v4 v6 ((p.2 4) (Int32.toNatClampNeg v6)) (f_X8_turns ((s.2 10) (Int32.toNatClampNeg ((p.2 4) (Int32.toNatClampNeg v6)))) v3 v4) v6 ((s.2 10) (Int32.toNatClampNeg ((p.2 4) (Int32.toNatClampNeg v6))))) else (if v2 = 0 then (f_X1_look_116 (f_X1_look_9 n) o s p v2 v3 v4 v6 ((p.2 4) (Int32.toNatClampNeg v6)) (f_X8_turns ((s.2 10) (Int32.toNatClampNeg ((p.2 4) (Int32.toNatClampNeg v6)))) v3 v4) v6 (f_X8_mirrored ((s.2 10) (Int32.toNatClampNeg ((p.2 4) (Int32.toNatClampNeg v6)))) v3)) else (f_X1_look_116 (f_X1_look_9 n) o s p v2 v3 v4 v6 ((p.2 4) (Int32.toNatClampNeg v6)) (f_X8_turns ((s.2 10) (Int32.toNatClampNeg ((p.2 4) (Int32.toNatClampNeg v6)))) v3 v4) v6 ((s.2 10) (Int32.toNatClampNeg ((p.2 4) (Int32.toNatClampNeg v6))))))) else (if (f_X8_turns ((s.2 11) (Int32.toNatClampNeg ((p.2 4) (Int32.toNatClampNeg v6)))) v3 v4) = 0 then (f_X1_look_116 (f_X1_look_9 n) o s p v2 v3 v4 v6 ((p.2 4) (Int32.toNatClampNeg v6)) (f_X8_turns ((s.2 11) (Int32.toNatClampNeg ((p.2 4) (Int32.toNatClampNeg v6)))) v3 v4) v6 ((s.2 10) (Int32.toNatClampNeg ((p.2 4) (Int32.toNatClampNeg v6))))) else (if v2 = 0 then (f_X1_look_116 (f_X1_look_9 n) o s p v2 v3 v4 v6 ((p.2 4) (Int32.toNatClampNeg v6)) (f_X8_turns ((s.2 11) (Int32.toNatClampNeg ((p.2 4) (Int32.toNatClampNeg v6)))) v3 v4) v6 (f_X8_mirrored ((s.2 10) (Int32.toNatClampNeg ((p.2 4) (Int32.toNatClampNeg v6)))) v3)) else (f_X1_look_116 (f_X1_look_9 n) o s p v2 v3 v4 v6 ((p.2 4) (Int32.toNatClampNeg v6)) (f_X8_turns ((s.2 11) (Int32.toNatClampNeg ((p.2 4) (Int32.toNatClampNeg v6)))) v3 v4) v6 ((s.2 10) (Int32.toNatClampNeg ((p.2 4) (Int32.toNatClampNeg v6)))))))))
def p_X1_look_9  : Nat → Rec → Rec → Rec → Int32 → Int32 → Int32 → Int32 → Prop
  | 0, _, _, _, _, _, _, _ => False
  | n + 1, o, s, p, v2, v3, v4, v6 => ((p.1 5) ≤ v6 → True) ∧ (¬ ((p.1 5) ≤ v6) → ((p_X3_isIn s p v6) ∧ (((f_X3_isIn s p v6) = 0 → (vp_in v6 8 ∧ (p_X1_look_9 n (setA o 3 (upd (o.2 3) (Int32.toNatClampNeg v6) (Int32.ofInt (-1)))) s p v2 v3 v4 (v6 + (Int32.ofInt 1))))) ∧ (¬ ((f_X3_isIn s p v6) = 0) → (vp_in v6 8 ∧ ((v2 = 0 → (vp_in ((p.2 4) (Int32.toNatClampNeg v6)) 36 ∧ (((f_X8_turns ((s.2 10) (Int32.toNatClampNeg ((p.2 4) (Int32.toNatClampNeg v6)))) v3 v4) = 0 → (vp_in ((p.2 4) (Int32.toNatClampNeg v6)) 36 ∧ (p_X1_look_116 (p_X1_look_9 n) o s p v2 v3 v4 v6 ((p.2 4) (Int32.toNatClampNeg v6)) (f_X8_turns ((s.2 10) (Int32.toNatClampNeg ((p.2 4) (Int32.toNatClampNeg v6)))) v3 v4) v6 ((s.2 10) (Int32.toNatClampNeg ((p.2 4) (Int32.toNatClampNeg v6))))))) ∧ (¬ ((f_X8_turns ((s.2 10) (Int32.toNatClampNeg ((p.2 4) (Int32.toNatClampNeg v6)))) v3 v4) = 0) → ((v2 = 0 → (vp_in ((p.2 4) (Int32.toNatClampNeg v6)) 36 ∧ (p_X1_look_116 (p_X1_look_9 n) o s p v2 v3 v4 v6 ((p.2 4) (Int32.toNatClampNeg v6)) (f_X8_turns ((s.2 10) (Int32.toNatClampNeg ((p.2 4) (Int32.toNatClampNeg v6)))) v3 v4) v6 (f_X8_mirrored ((s.2 10) (Int32.toNatClampNeg ((p.2 4) (Int32.toNatClampNeg v6)))) v3)))) ∧ (¬ (v2 = 0) → (vp_in ((p.2 4) (Int32.toNatClampNeg v6)) 36 ∧ (p_X1_look_116 (p_X1_look_9 n) o s p v2 v3 v4 v6 ((p.2 4) (Int32.toNatClampNeg v6)) (f_X8_turns ((s.2 10) (Int32.toNatClampNeg ((p.2 4) (Int32.toNatClampNeg v6)))) v3 v4) v6 ((s.2 10) (Int32.toNatClampNeg ((p.2 4) (Int32.toNatClampNeg v6)))))))))))) ∧ (¬ (v2 = 0) → (vp_in ((p.2 4) (Int32.toNatClampNeg v6)) 36 ∧ (((f_X8_turns ((s.2 11) (Int32.toNatClampNeg ((p.2 4) (Int32.toNatClampNeg v6)))) v3 v4) = 0 → (vp_in ((p.2 4) (Int32.toNatClampNeg v6)) 36 ∧ (p_X1_look_116 (p_X1_look_9 n) o s p v2 v3 v4 v6 ((p.2 4) (Int32.toNatClampNeg v6)) (f_X8_turns ((s.2 11) (Int32.toNatClampNeg ((p.2 4) (Int32.toNatClampNeg v6)))) v3 v4) v6 ((s.2 10) (Int32.toNatClampNeg ((p.2 4) (Int32.toNatClampNeg v6))))))) ∧ (¬ ((f_X8_turns ((s.2 11) (Int32.toNatClampNeg ((p.2 4) (Int32.toNatClampNeg v6)))) v3 v4) = 0) → ((v2 = 0 → (vp_in ((p.2 4) (Int32.toNatClampNeg v6)) 36 ∧ (p_X1_look_116 (p_X1_look_9 n) o s p v2 v3 v4 v6 ((p.2 4) (Int32.toNatClampNeg v6)) (f_X8_turns ((s.2 11) (Int32.toNatClampNeg ((p.2 4) (Int32.toNatClampNeg v6)))) v3 v4) v6 (f_X8_mirrored ((s.2 10) (Int32.toNatClampNeg ((p.2 4) (Int32.toNatClampNeg v6)))) v3)))) ∧ (¬ (v2 = 0) → (vp_in ((p.2 4) (Int32.toNatClampNeg v6)) 36 ∧ (p_X1_look_116 (p_X1_look_9 n) o s p v2 v3 v4 v6 ((p.2 4) (Int32.toNatClampNeg v6)) (f_X8_turns ((s.2 11) (Int32.toNatClampNeg ((p.2 4) (Int32.toNatClampNeg v6)))) v3 v4) v6 ((s.2 10) (Int32.toNatClampNeg ((p.2 4) (Int32.toNatClampNeg v6))))))))))))))))))
set_option maxHeartbeats 16000000 in
set_option maxRecDepth 20000 in
theorem l_X1_look_9 (sc : SC) (s : Rec) (p : Rec)  (zq : Rec)  : ∀ (n : Nat) (o : Rec) (v2 : Int32) (v3 : Int32) (v4 : Int32) (v6 : Int32), p_X1_look_9 n o s p v2 v3 v4 v6 → zq = f_X1_look_9 n o s p v2 v3 v4 v6 → Good sc 1 0 0 17 mX1_look (Ret none (wOP (zq) s p)) 0 0 9 [some (.ref 0), some (.ref 5), some (.int v2), some (.int v3), some (.int v4), some (.ref 6), some (.int v6), none, none] [] (wOP o s p) := by
  intro n
  induction n with
  | zero => intro o v2 v3 v4 v6 hp; exact hp.elim
  | succ n ih =>
    intro o v2 v3 v4 v6 hp hq
    unfold p_X1_look_9 at hp
    unfold f_X1_look_9 at hq
    refine g_blk hz0 kX1_look_9 ?_
    refine ⟨fun c1 => ?_, fun c1 => ?_⟩
    · rw [if_pos (show (p.1 5) ≤ v6 from c1)] at hq
      refine g_blk hz0 kX1_look_246 ?_
      subst hq
      exact ⟨rfl, rfl⟩
    · rw [if_neg (show ¬ ((p.1 5) ≤ v6) from c1)] at hq
      replace hp := hp.2 c1
      refine g_blk hz0 kX1_look_18 ?_
      refine cVp [5, 6, 7, 8, 9, 10, 11, 12, 13, 14, 15, 16] (wP s p) (s_X3_isIn s p v6 hp.1) rfl cwX3_isIn dX1_look_21 rfl rfl (hm16_OP_P _ _ _) ?_
      replace hp := hp.2
      refine g_blk hz0 kX1_look_24 ?_
      refine ⟨fun c2 => ?_, fun c2 => ?_⟩
      · rw [if_neg (show ¬ ((f_X3_isIn s p v6) = 0) from c2)] at hq
        replace hp := hp.2 c2
        refine g_blk hz0 kX1_look_38 ?_
        refine ⟨hp.1, ?_⟩
        replace hp := hp.2
        refine ⟨fun c3 => ?_, fun c3 => ?_⟩
        · rw [if_neg (show ¬ (v2 = 0) from c3)] at hq
          replace hp := hp.2 c3
          refine g_blk hz0 kX1_look_62 ?_
          refine ⟨hp.1, ?_⟩
          replace hp := hp.2
          refine g_blk hz0 kX1_look_70 ?_
          refine cS0 (s_X8_turns ((s.2 11) (Int32.toNatClampNeg ((p.2 4) (Int32.toNatClampNeg v6)))) v3 v4) rfl cwX8_turns dX1_look_73 rfl ?_
          refine g_blk hz0 kX1_look_76 ?_
          refine ⟨fun c6 => ?_, fun c6 => ?_⟩
          · rw [if_pos (show (f_X8_turns ((s.2 11) (Int32.toNatClampNeg ((p.2 4) (Int32.toNatClampNeg v6)))) v3 v4) = 0 from c6)] at hq
            replace hp := hp.1 c6
            refine g_blk hz0 kX1_look_108 ?_
            refine ⟨hp.1, ?_⟩
            replace hp := hp.2
            refine g_le (L2 := [some (.ref 0), some (.ref 5), some (.int v2), some (.int v3), some (.int v4), some (.ref 6), some (.int v6), some (.int ((p.2 4) (Int32.toNatClampNeg v6))), some (.int (f_X8_turns ((s.2 11) (Int32.toNatClampNeg ((p.2 4) (Int32.toNatClampNeg v6)))) v3 v4))]) ⟨rfl, rfl, rfl, rfl, rfl, rfl, rfl, rfl, rfl, trivial⟩ ?_
            exact l_X1_look_116 sc s p zq (fun r0 r1 r2 r3 r4 hp hq => ih r0 r1 r2 r3 r4 hp hq) o v2 v3 v4 v6 ((p.2 4) (Int32.toNatClampNeg v6)) (f_X8_turns ((s.2 11) (Int32.toNatClampNeg ((p.2 4) (Int32.toNatClampNeg v6)))) v3 v4) v6 ((s.2 10) (Int32.toNatClampNeg ((p.2 4) (Int32.toNatClampNeg v6)))) hp hq
          · rw [if_neg (show ¬ ((f_X8_turns ((s.2 11) (Int32.toNatClampNeg ((p.2 4) (Int32.toNatClampNeg v6)))) v3 v4) = 0) from c6)] at hq
            replace hp := hp.2 c6
            refine g_blk hz0 kX1_look_89 ?_
            refine ⟨fun c7 => ?_, fun c7 => ?_⟩
            · rw [if_neg (show ¬ (v2 = 0) from c7)] at hq
              replace hp := hp.2 c7
              refine g_blk hz0 kX1_look_108 ?_
              refine ⟨hp.1, ?_⟩
              replace hp := hp.2
              refine g_le (L2 := [some (.ref 0), some (.ref 5), some (.int v2), some (.int v3), some (.int v4), some (.ref 6), some (.int v6), some (.int ((p.2 4) (Int32.toNatClampNeg v6))), some (.int (f_X8_turns ((s.2 11) (Int32.toNatClampNeg ((p.2 4) (Int32.toNatClampNeg v6)))) v3 v4))]) ⟨rfl, rfl, rfl, rfl, rfl, rfl, rfl, rfl, rfl, trivial⟩ ?_
              exact l_X1_look_116 sc s p zq (fun r0 r1 r2 r3 r4 hp hq => ih r0 r1 r2 r3 r4 hp hq) o v2 v3 v4 v6 ((p.2 4) (Int32.toNatClampNeg v6)) (f_X8_turns ((s.2 11) (Int32.toNatClampNeg ((p.2 4) (Int32.toNatClampNeg v6)))) v3 v4) v6 ((s.2 10) (Int32.toNatClampNeg ((p.2 4) (Int32.toNatClampNeg v6)))) hp hq
            · rw [if_pos (show v2 = 0 from c7)] at hq
              replace hp := hp.1 c7
              refine g_blk hz0 kX1_look_93 ?_
              refine ⟨hp.1, ?_⟩
              replace hp := hp.2
              refine cS0 (s_X8_mirrored ((s.2 10) (Int32.toNatClampNeg ((p.2 4) (Int32.toNatClampNeg v6)))) v3) rfl cwX8_mirrored dX1_look_102 rfl ?_
              refine g_blk hz0 kX1_look_105 ?_
              refine g_le (L2 := [some (.ref 0), some (.ref 5), some (.int v2), some (.int v3), some (.int v4), some (.ref 6), some (.int v6), some (.int ((p.2 4) (Int32.toNatClampNeg v6))), some (.int (f_X8_turns ((s.2 11) (Int32.toNatClampNeg ((p.2 4) (Int32.toNatClampNeg v6)))) v3 v4))]) ⟨rfl, rfl, rfl, rfl, rfl, rfl, rfl, rfl, rfl, trivial⟩ ?_
              exact l_X1_look_116 sc s p zq (fun r0 r1 r2 r3 r4 hp hq => ih r0 r1 r2 r3 r4 hp hq) o v2 v3 v4 v6 ((p.2 4) (Int32.toNatClampNeg v6)) (f_X8_turns ((s.2 11) (Int32.toNatClampNeg ((p.2 4) (Int32.toNatClampNeg v6)))) v3 v4) v6 (f_X8_mirrored ((s.2 10) (Int32.toNatClampNeg ((p.2 4) (Int32.toNatClampNeg v6)))) v3) hp hq
        · rw [if_pos (show v2 = 0 from c3)] at hq
          replace hp := hp.1 c3
          refine g_blk hz0 kX1_look_51 ?_
          refine ⟨hp.1, ?_⟩
          replace hp := hp.2
          refine g_blk hz0 kX1_look_70 ?_
          refine cS0 (s_X8_turns ((s.2 10) (Int32.toNatClampNeg ((p.2 4) (Int32.toNatClampNeg v6)))) v3 v4) rfl cwX8_turns dX1_look_73 rfl ?_
          refine g_blk hz0 kX1_look_76 ?_
          refine ⟨fun c4 => ?_, fun c4 => ?_⟩
          · rw [if_pos (show (f_X8_turns ((s.2 10) (Int32.toNatClampNeg ((p.2 4) (Int32.toNatClampNeg v6)))) v3 v4) = 0 from c4)] at hq
            replace hp := hp.1 c4
            refine g_blk hz0 kX1_look_108 ?_
            refine ⟨hp.1, ?_⟩
            replace hp := hp.2
            refine g_le (L2 := [some (.ref 0), some (.ref 5), some (.int v2), some (.int v3), some (.int v4), some (.ref 6), some (.int v6), some (.int ((p.2 4) (Int32.toNatClampNeg v6))), some (.int (f_X8_turns ((s.2 10) (Int32.toNatClampNeg ((p.2 4) (Int32.toNatClampNeg v6)))) v3 v4))]) ⟨rfl, rfl, rfl, rfl, rfl, rfl, rfl, rfl, rfl, trivial⟩ ?_
            exact l_X1_look_116 sc s p zq (fun r0 r1 r2 r3 r4 hp hq => ih r0 r1 r2 r3 r4 hp hq) o v2 v3 v4 v6 ((p.2 4) (Int32.toNatClampNeg v6)) (f_X8_turns ((s.2 10) (Int32.toNatClampNeg ((p.2 4) (Int32.toNatClampNeg v6)))) v3 v4) v6 ((s.2 10) (Int32.toNatClampNeg ((p.2 4) (Int32.toNatClampNeg v6)))) hp hq
          · rw [if_neg (show ¬ ((f_X8_turns ((s.2 10) (Int32.toNatClampNeg ((p.2 4) (Int32.toNatClampNeg v6)))) v3 v4) = 0) from c4)] at hq
            replace hp := hp.2 c4
            refine g_blk hz0 kX1_look_89 ?_
            refine ⟨fun c5 => ?_, fun c5 => ?_⟩
            · rw [if_neg (show ¬ (v2 = 0) from c5)] at hq
              replace hp := hp.2 c5
              refine g_blk hz0 kX1_look_108 ?_
              refine ⟨hp.1, ?_⟩
              replace hp := hp.2
              refine g_le (L2 := [some (.ref 0), some (.ref 5), some (.int v2), some (.int v3), some (.int v4), some (.ref 6), some (.int v6), some (.int ((p.2 4) (Int32.toNatClampNeg v6))), some (.int (f_X8_turns ((s.2 10) (Int32.toNatClampNeg ((p.2 4) (Int32.toNatClampNeg v6)))) v3 v4))]) ⟨rfl, rfl, rfl, rfl, rfl, rfl, rfl, rfl, rfl, trivial⟩ ?_
              exact l_X1_look_116 sc s p zq (fun r0 r1 r2 r3 r4 hp hq => ih r0 r1 r2 r3 r4 hp hq) o v2 v3 v4 v6 ((p.2 4) (Int32.toNatClampNeg v6)) (f_X8_turns ((s.2 10) (Int32.toNatClampNeg ((p.2 4) (Int32.toNatClampNeg v6)))) v3 v4) v6 ((s.2 10) (Int32.toNatClampNeg ((p.2 4) (Int32.toNatClampNeg v6)))) hp hq
            · rw [if_pos (show v2 = 0 from c5)] at hq
              replace hp := hp.1 c5
              refine g_blk hz0 kX1_look_93 ?_
              refine ⟨hp.1, ?_⟩
              replace hp := hp.2
              refine cS0 (s_X8_mirrored ((s.2 10) (Int32.toNatClampNeg ((p.2 4) (Int32.toNatClampNeg v6)))) v3) rfl cwX8_mirrored dX1_look_102 rfl ?_
              refine g_blk hz0 kX1_look_105 ?_
              refine g_le (L2 := [some (.ref 0), some (.ref 5), some (.int v2), some (.int v3), some (.int v4), some (.ref 6), some (.int v6), some (.int ((p.2 4) (Int32.toNatClampNeg v6))), some (.int (f_X8_turns ((s.2 10) (Int32.toNatClampNeg ((p.2 4) (Int32.toNatClampNeg v6)))) v3 v4))]) ⟨rfl, rfl, rfl, rfl, rfl, rfl, rfl, rfl, rfl, trivial⟩ ?_
              exact l_X1_look_116 sc s p zq (fun r0 r1 r2 r3 r4 hp hq => ih r0 r1 r2 r3 r4 hp hq) o v2 v3 v4 v6 ((p.2 4) (Int32.toNatClampNeg v6)) (f_X8_turns ((s.2 10) (Int32.toNatClampNeg ((p.2 4) (Int32.toNatClampNeg v6)))) v3 v4) v6 (f_X8_mirrored ((s.2 10) (Int32.toNatClampNeg ((p.2 4) (Int32.toNatClampNeg v6)))) v3) hp hq
      · rw [if_pos (show (f_X3_isIn s p v6) = 0 from c2)] at hq
        replace hp := hp.1 c2
        refine g_blk hz0 kX1_look_27 ?_
        refine ⟨hp.1, ?_⟩
        replace hp := hp.2
        refine g_blk hz0 kX1_look_240 ?_
        refine g_le (L2 := [some (.ref 0), some (.ref 5), some (.int v2), some (.int v3), some (.int v4), some (.ref 6), some (.int (v6 + (Int32.ofInt 1))), none, none]) ⟨rfl, rfl, rfl, rfl, rfl, rfl, rfl, trivial⟩ ?_
        exact ih (setA o 3 (upd (o.2 3) (Int32.toNatClampNeg v6) (Int32.ofInt (-1)))) v2 v3 v4 (v6 + (Int32.ofInt 1)) hp hq
def f_X1_look (o : Rec) (s : Rec) (p : Rec) (a : Int32) (l : Int32) (w : Int32) : Rec := (f_X1_look_9 40 o s p a l w ((Int32.ofInt 0)))
def p_X1_look (o : Rec) (s : Rec) (p : Rec) (a : Int32) (l : Int32) (w : Int32) : Prop := (p_X1_look_9 40 o s p a l w ((Int32.ofInt 0)))
set_option maxHeartbeats 16000000 in
set_option maxRecDepth 20000 in
theorem s_X1_look (o : Rec) (s : Rec) (p : Rec) (a : Int32) (l : Int32) (w : Int32) (hp : p_X1_look o s p a l w) : Spec 1 0 0 mX1_look [.ref 0, .ref 5, .int a, .int l, .int w] (wOP o s p) (Ret none (wOP ((f_X1_look o s p a l w)) s p)) := by
  obtain ⟨zq, hq⟩ : ∃ z, z = (f_X1_look o s p a l w) := ⟨_, rfl⟩
  rw [← hq]
  unfold f_X1_look at hq
  unfold p_X1_look at hp
  refine Sof fun sc => ?_
  refine g_blk hz0 kX1_look_0 ?_
  refine g_le (L2 := [some (.ref 0), some (.ref 5), some (.int a), some (.int l), some (.int w), some (.ref 6), some (.int (Int32.ofInt 0)), none, none]) ⟨rfl, rfl, rfl, rfl, rfl, rfl, rfl, trivial⟩ ?_
  exact l_X1_look_9 sc s p zq 40 o a l w ((Int32.ofInt 0)) hp hq

set_option maxHeartbeats 16000000 in
theorem hm17_OP_S (o : Rec) (s : Rec) (p : Rec) : [6, 7, 8, 9, 10, 11, 12].map (lk (wOP o s p)) = (wS s).map (fun e => some (ren [6, 7, 8, 9, 10, 11, 12] e)) := rfl
set_option maxHeartbeats 16000000 in
theorem pw29_OP_S (o : Rec) (s : Rec) (p : Rec)  : putW (wOP o s p) [6, 7, 8, 9, 10, 11, 12] ((wS s).map (ren [6, 7, 8, 9, 10, 11, 12])) = (wOP o s p) := rfl
set_option maxHeartbeats 16000000 in
theorem hm18_OP_OP (o : Rec) (s : Rec) (p : Rec) : [0, 1, 2, 3, 4, 5, 6, 7, 8, 9, 10, 11, 12, 13, 14, 15, 16].map (lk (wOP o s p)) = (wOP o s p).map (fun e => some (ren [0, 1, 2, 3, 4, 5, 6, 7, 8, 9, 10, 11, 12, 13, 14, 15, 16] e)) := rfl
set_option maxHeartbeats 16000000 in
theorem pw30_OP_OP (o : Rec) (s : Rec) (p : Rec) (o9 : Rec) : putW (wOP o s p) [0, 1, 2, 3, 4, 5, 6, 7, 8, 9, 10, 11, 12, 13, 14, 15, 16] ((wOP o9 s p).map (ren [0, 1, 2, 3, 4, 5, 6, 7, 8, 9, 10, 11, 12, 13, 14, 15, 16])) = (wOP o9 s p) := rfl
def f_X1_lookBehind (o : Rec) (s : Rec) (p : Rec) (i : Int32) : Rec := (f_X1_look o s p (f_X4_choiceAxis s i) (f_X4_choiceLine s i) (f_X4_choiceWay s i))
def p_X1_lookBehind (o : Rec) (s : Rec) (p : Rec) (i : Int32) : Prop := (p_X1_look o s p (f_X4_choiceAxis s i) (f_X4_choiceLine s i) (f_X4_choiceWay s i)) ∧ True
set_option maxHeartbeats 16000000 in
set_option maxRecDepth 20000 in
theorem s_X1_lookBehind (o : Rec) (s : Rec) (p : Rec) (i : Int32) (hp : p_X1_lookBehind o s p i) : Spec 2 0 0 mX1_lookBehind [.ref 0, .ref 5, .int i] (wOP o s p) (Ret none (wOP ((f_X1_lookBehind o s p i)) s p)) := by
  obtain ⟨zq, hq⟩ : ∃ z, z = (f_X1_lookBehind o s p i) := ⟨_, rfl⟩
  rw [← hq]
  unfold f_X1_lookBehind at hq
  unfold p_X1_lookBehind at hp
  refine Sof fun sc => ?_
  refine g_blk hz0 kX1_lookBehind_0 ?_
  refine cVp [6, 7, 8, 9, 10, 11, 12] (wS s) (s_X4_choiceAxis s i) rfl cwX4_choiceAxis dX1_lookBehind_9 rfl rfl (hm17_OP_S _ _ _) ?_
  refine g_blk hz0 kX1_lookBehind_12 ?_
  refine cVp [6, 7, 8, 9, 10, 11, 12] (wS s) (s_X4_choiceLine s i) rfl cwX4_choiceLine dX1_lookBehind_14 rfl rfl (hm17_OP_S _ _ _) ?_
  refine g_blk hz0 kX1_lookBehind_17 ?_
  refine cVp [6, 7, 8, 9, 10, 11, 12] (wS s) (s_X4_choiceWay s i) rfl cwX4_choiceWay dX1_lookBehind_19 rfl rfl (hm17_OP_S _ _ _) ?_
  refine cV [0, 1, 2, 3, 4, 5, 6, 7, 8, 9, 10, 11, 12, 13, 14, 15, 16] (wOP o s p) (s_X1_look o s p (f_X4_choiceAxis s i) (f_X4_choiceLine s i) (f_X4_choiceWay s i) hp.1) rfl cwX1_look dX1_lookBehind_22 rfl rfl (hm18_OP_OP _ _ _) ((len_OP _ _ _).trans (len_OP _ _ _).symm) (wOP (f_X1_look o s p (f_X4_choiceAxis s i) (f_X4_choiceLine s i) (f_X4_choiceWay s i)) s p) (pw30_OP_OP _ _ _ _) ?_
  replace hp := hp.2
  obtain ⟨g1, hg1⟩ : ∃ z, z = (f_X1_look o s p (f_X4_choiceAxis s i) (f_X4_choiceLine s i) (f_X4_choiceWay s i)) := ⟨_, rfl⟩
  try rw [← hg1] at hp
  try rw [← hg1] at hq
  rw [← hg1]
  refine g_blk hz0 kX1_lookBehind_25 ?_
  subst hq
  exact ⟨rfl, rfl⟩

def f_X1_lookNow (o : Rec) (s : Rec) (p : Rec)  : Rec := (f_X1_look o s p ((Int32.ofInt 0)) ((s.1 4) + (Int32.ofInt 1)) ((Int32.ofInt 0)))
def p_X1_lookNow (o : Rec) (s : Rec) (p : Rec)  : Prop := (p_X1_look o s p ((Int32.ofInt 0)) ((s.1 4) + (Int32.ofInt 1)) ((Int32.ofInt 0))) ∧ True
set_option maxHeartbeats 16000000 in
set_option maxRecDepth 20000 in
theorem s_X1_lookNow (o : Rec) (s : Rec) (p : Rec)  (hp : p_X1_lookNow o s p) : Spec 2 0 0 mX1_lookNow [.ref 0, .ref 5] (wOP o s p) (Ret none (wOP ((f_X1_lookNow o s p)) s p)) := by
  obtain ⟨zq, hq⟩ : ∃ z, z = (f_X1_lookNow o s p) := ⟨_, rfl⟩
  rw [← hq]
  unfold f_X1_lookNow at hq
  unfold p_X1_lookNow at hp
  refine Sof fun sc => ?_
  refine g_blk hz0 kX1_lookNow_0 ?_
  refine cV [0, 1, 2, 3, 4, 5, 6, 7, 8, 9, 10, 11, 12, 13, 14, 15, 16] (wOP o s p) (s_X1_look o s p ((Int32.ofInt 0)) ((s.1 4) + (Int32.ofInt 1)) ((Int32.ofInt 0)) hp.1) rfl cwX1_look dX1_lookNow_13 rfl rfl (hm18_OP_OP _ _ _) ((len_OP _ _ _).trans (len_OP _ _ _).symm) (wOP (f_X1_look o s p ((Int32.ofInt 0)) ((s.1 4) + (Int32.ofInt 1)) ((Int32.ofInt 0))) s p) (pw30_OP_OP _ _ _ _) ?_
  replace hp := hp.2
  obtain ⟨g1, hg1⟩ : ∃ z, z = (f_X1_look o s p ((Int32.ofInt 0)) ((s.1 4) + (Int32.ofInt 1)) ((Int32.ofInt 0))) := ⟨_, rfl⟩
  try rw [← hg1] at hp
  try rw [← hg1] at hq
  rw [← hg1]
  refine g_blk hz0 kX1_lookNow_16 ?_
  subst hq
  exact ⟨rfl, rfl⟩

def f_X1_rulerOver_81 (K5 : Rec → Rec → Rec → Int32 → Int32 → Int32 → Int32) (o : Rec) (s : Rec) (p : Rec) (v2 : Int32) (v3 : Int32) (v4 : Int32) (u0 : Int32) : Int32 := if u0 = 0 then (if ((o.2 3) (Int32.toNatClampNeg v4)) ≤ ((o.2 3) (Int32.toNatClampNeg v3)) then (K5 o s p v2 v3 (v4 + (Int32.ofInt 1))) else (K5 o s p v2 v4 (v4 + (Int32.ofInt 1)))) else (if ((o.2 2) (Int32.toNatClampNeg v4)) ≤ ((o.2 2) (Int32.toNatClampNeg v3)) then (K5 o s p v2 v3 (v4 + (Int32.ofInt 1))) else (K5 o s p v2 v4 (v4 + (Int32.ofInt 1))))
def p_X1_rulerOver_81 (G5 : Rec → Rec → Rec → Int32 → Int32 → Int32 → Prop) (o : Rec) (s : Rec) (p : Rec) (v2 : Int32) (v3 : Int32) (v4 : Int32) (u0 : Int32) : Prop := (u0 = 0 → (vp_in v4 8 ∧ (vp_in v3 8 ∧ ((((o.2 3) (Int32.toNatClampNeg v4)) ≤ ((o.2 3) (Int32.toNatClampNeg v3)) → (G5 o s p v2 v3 (v4 + (Int32.ofInt 1)))) ∧ (¬ (((o.2 3) (Int32.toNatClampNeg v4)) ≤ ((o.2 3) (Int32.toNatClampNeg v3))) → (G5 o s p v2 v4 (v4 + (Int32.ofInt 1)))))))) ∧ (¬ (u0 = 0) → (vp_in v4 8 ∧ (vp_in v3 8 ∧ ((((o.2 2) (Int32.toNatClampNeg v4)) ≤ ((o.2 2) (Int32.toNatClampNeg v3)) → (G5 o s p v2 v3 (v4 + (Int32.ofInt 1)))) ∧ (¬ (((o.2 2) (Int32.toNatClampNeg v4)) ≤ ((o.2 2) (Int32.toNatClampNeg v3))) → (G5 o s p v2 v4 (v4 + (Int32.ofInt 1))))))))
set_option maxHeartbeats 16000000 in
set_option maxRecDepth 20000 in
theorem l_X1_rulerOver_81 (sc : SC) (o : Rec) (s : Rec) (p : Rec) {K5 : Rec → Rec → Rec → Int32 → Int32 → Int32 → Int32} {G5 : Rec → Rec → Rec → Int32 → Int32 → Int32 → Prop} (zq : Int32) (hK5 : ∀ (v2 : Int32) (v3 : Int32) (v4 : Int32), G5 o s p v2 v3 v4 → zq = K5 o s p v2 v3 v4 → Good sc 0 0 0 17 mX1_rulerOver (Ret (some (.int (zq))) (wOP o s p)) 0 0 5 [some (.ref 0), some (.ref 5), some (.int v2), some (.int v3), some (.int v4), none] [] (wOP o s p))  (v2 : Int32) (v3 : Int32) (v4 : Int32) (u0 : Int32) (hp : p_X1_rulerOver_81 G5 o s p v2 v3 v4 u0) (hq : zq = f_X1_rulerOver_81 K5 o s p v2 v3 v4 u0) : Good sc 0 0 0 17 mX1_rulerOver (Ret (some (.int (zq))) (wOP o s p)) 0 0 81 [some (.ref 0), some (.ref 5), some (.int v2), some (.int v3), some (.int v4), none] [.int u0] (wOP o s p) := by
  unfold p_X1_rulerOver_81 at hp
  unfold f_X1_rulerOver_81 at hq
  refine g_blk hz0 kX1_rulerOver_81 ?_
  refine ⟨fun c6 => ?_, fun c6 => ?_⟩
  · rw [if_pos (show u0 = 0 from c6)] at hq
    replace hp := hp.1 c6
    refine g_blk hz0 kX1_rulerOver_107 ?_
    refine ⟨hp.1, ?_⟩
    replace hp := hp.2
    refine ⟨hp.1, ?_⟩
    replace hp := hp.2
    refine ⟨fun c7 => ?_, fun c7 => ?_⟩
    · rw [if_pos (show ((o.2 3) (Int32.toNatClampNeg v4)) ≤ ((o.2 3) (Int32.toNatClampNeg v3)) from c7)] at hq
      replace hp := hp.1 c7
      refine g_blk hz0 kX1_rulerOver_126 ?_
      refine g_le (L2 := [some (.ref 0), some (.ref 5), some (.int v2), some (.int v3), some (.int (v4 + (Int32.ofInt 1))), none]) ⟨rfl, rfl, rfl, rfl, rfl, trivial⟩ ?_
      exact hK5 v2 v3 (v4 + (Int32.ofInt 1)) hp hq
    · rw [if_neg (show ¬ (((o.2 3) (Int32.toNatClampNeg v4)) ≤ ((o.2 3) (Int32.toNatClampNeg v3))) from c7)] at hq
      replace hp := hp.2 c7
      refine g_blk hz0 kX1_rulerOver_123 ?_
      refine g_blk hz0 kX1_rulerOver_126 ?_
      refine g_le (L2 := [some (.ref 0), some (.ref 5), some (.int v2), some (.int v4), some (.int (v4 + (Int32.ofInt 1))), none]) ⟨rfl, rfl, rfl, rfl, rfl, trivial⟩ ?_
      exact hK5 v2 v4 (v4 + (Int32.ofInt 1)) hp hq
  · rw [if_neg (show ¬ (u0 = 0) from c6)] at hq
    replace hp := hp.2 c6
    refine g_blk hz0 kX1_rulerOver_88 ?_
    refine ⟨hp.1, ?_⟩
    replace hp := hp.2
    refine ⟨hp.1, ?_⟩
    replace hp := hp.2
    refine ⟨fun c8 => ?_, fun c8 => ?_⟩
    · rw [if_pos (show ((o.2 2) (Int32.toNatClampNeg v4)) ≤ ((o.2 2) (Int32.toNatClampNeg v3)) from c8)] at hq
      replace hp := hp.1 c8
      refine g_blk hz0 kX1_rulerOver_126 ?_
      refine g_le (L2 := [some (.ref 0), some (.ref 5), some (.int v2), some (.int v3), some (.int (v4 + (Int32.ofInt 1))), none]) ⟨rfl, rfl, rfl, rfl, rfl, trivial⟩ ?_
      exact hK5 v2 v3 (v4 + (Int32.ofInt 1)) hp hq
    · rw [if_neg (show ¬ (((o.2 2) (Int32.toNatClampNeg v4)) ≤ ((o.2 2) (Int32.toNatClampNeg v3))) from c8)] at hq
      replace hp := hp.2 c8
      refine g_blk hz0 kX1_rulerOver_104 ?_
      refine g_blk hz0 kX1_rulerOver_123 ?_
      refine g_blk hz0 kX1_rulerOver_126 ?_
      refine g_le (L2 := [some (.ref 0), some (.ref 5), some (.int v2), some (.int v4), some (.int (v4 + (Int32.ofInt 1))), none]) ⟨rfl, rfl, rfl, rfl, rfl, trivial⟩ ?_
      exact hK5 v2 v4 (v4 + (Int32.ofInt 1)) hp hq
def f_X1_rulerOver_5  : Nat → Rec → Rec → Rec → Int32 → Int32 → Int32 → Int32
  | 0, o, s, p, v2, v3, v4 => 0
  | n + 1, o, s, p, v2, v3, v4 => if (p.1 5) ≤ v4 then v3 else (if ((o.2 3) (Int32.toNatClampNeg v4)) = (Int32.ofInt (-1)) then (f_X1_rulerOver_5 n o s p v2 v3 (v4 + (Int32.ofInt 1))) else (if ((o.2 0) (Int32.toNatClampNeg v4)) = ((o.2 0) (Int32.toNatClampNeg v2)) then (if ((o.2 1) (Int32.toNatClampNeg v4)) = ((o.2 1) (Int32.toNatClampNeg v2)) then (if ((o.2 3) (Int32.toNatClampNeg v4)) = ((o.2 3) (Int32.toNatClampNeg v3)) then (f_X1_rulerOver_81 (f_X1_rulerOver_5 n) o s p v2 v3 v4 ((Int32.ofInt 1))) else (f_X1_rulerOver_81 (f_X1_rulerOver_5 n) o s p v2 v3 v4 ((Int32.ofInt 0)))) else (f_X1_rulerOver_5 n o s p v2 v3 (v4 + (Int32.ofInt 1)))) else (f_X1_rulerOver_5 n o s p v2 v3 (v4 + (Int32.ofInt 1)))))
def p_X1_rulerOver_5  : Nat → Rec → Rec → Rec → Int32 → Int32 → Int32 → Prop
  | 0, _, _, _, _, _, _ => False
  | n + 1, o, s, p, v2, v3, v4 => ((p.1 5) ≤ v4 → True) ∧ (¬ ((p.1 5) ≤ v4) → (vp_in v4 8 ∧ ((((o.2 3) (Int32.toNatClampNeg v4)) = (Int32.ofInt (-1)) → (p_X1_rulerOver_5 n o s p v2 v3 (v4 + (Int32.ofInt 1)))) ∧ (¬ (((o.2 3) (Int32.toNatClampNeg v4)) = (Int32.ofInt (-1))) → (vp_in v4 8 ∧ (vp_in v2 8 ∧ ((((o.2 0) (Int32.toNatClampNeg v4)) = ((o.2 0) (Int32.toNatClampNeg v2)) → (vp_in v4 8 ∧ (vp_in v2 8 ∧ ((((o.2 1) (Int32.toNatClampNeg v4)) = ((o.2 1) (Int32.toNatClampNeg v2)) → (vp_in v4 8 ∧ (vp_in v3 8 ∧ ((((o.2 3) (Int32.toNatClampNeg v4)) = ((o.2 3) (Int32.toNatClampNeg v3)) → (p_X1_rulerOver_81 (p_X1_rulerOver_5 n) o s p v2 v3 v4 ((Int32.ofInt 1)))) ∧ (¬ (((o.2 3) (Int32.toNatClampNeg v4)) = ((o.2 3) (Int32.toNatClampNeg v3))) → (p_X1_rulerOver_81 (p_X1_rulerOver_5 n) o s p v2 v3 v4 ((Int32.ofInt 0)))))))) ∧ (¬ (((o.2 1) (Int32.toNatClampNeg v4)) = ((o.2 1) (Int32.toNatClampNeg v2))) → (p_X1_rulerOver_5 n o s p v2 v3 (v4 + (Int32.ofInt 1)))))))) ∧ (¬ (((o.2 0) (Int32.toNatClampNeg v4)) = ((o.2 0) (Int32.toNatClampNeg v2))) → (p_X1_rulerOver_5 n o s p v2 v3 (v4 + (Int32.ofInt 1)))))))))))
set_option maxHeartbeats 16000000 in
set_option maxRecDepth 20000 in
theorem l_X1_rulerOver_5 (sc : SC) (o : Rec) (s : Rec) (p : Rec)  (zq : Int32)  : ∀ (n : Nat)  (v2 : Int32) (v3 : Int32) (v4 : Int32), p_X1_rulerOver_5 n o s p v2 v3 v4 → zq = f_X1_rulerOver_5 n o s p v2 v3 v4 → Good sc 0 0 0 17 mX1_rulerOver (Ret (some (.int (zq))) (wOP o s p)) 0 0 5 [some (.ref 0), some (.ref 5), some (.int v2), some (.int v3), some (.int v4), none] [] (wOP o s p) := by
  intro n
  induction n with
  | zero => intro v2 v3 v4 hp; exact hp.elim
  | succ n ih =>
    intro v2 v3 v4 hp hq
    unfold p_X1_rulerOver_5 at hp
    unfold f_X1_rulerOver_5 at hq
    refine g_blk hz0 kX1_rulerOver_5 ?_
    refine ⟨fun c1 => ?_, fun c1 => ?_⟩
    · rw [if_pos (show (p.1 5) ≤ v4 from c1)] at hq
      refine g_blk hz0 kX1_rulerOver_132 ?_
      subst hq
      exact ⟨fun h => (by cases h), rfl, rfl⟩
    · rw [if_neg (show ¬ ((p.1 5) ≤ v4) from c1)] at hq
      replace hp := hp.2 c1
      refine g_blk hz0 kX1_rulerOver_14 ?_
      refine ⟨hp.1, ?_⟩
      replace hp := hp.2
      refine ⟨fun c2 => ?_, fun c2 => ?_⟩
      · rw [if_pos (show ((o.2 3) (Int32.toNatClampNeg v4)) = (Int32.ofInt (-1)) from c2)] at hq
        replace hp := hp.1 c2
        refine g_blk hz0 kX1_rulerOver_126 ?_
        refine g_le (L2 := [some (.ref 0), some (.ref 5), some (.int v2), some (.int v3), some (.int (v4 + (Int32.ofInt 1))), none]) ⟨rfl, rfl, rfl, rfl, rfl, trivial⟩ ?_
        exact ih v2 v3 (v4 + (Int32.ofInt 1)) hp hq
      · rw [if_neg (show ¬ (((o.2 3) (Int32.toNatClampNeg v4)) = (Int32.ofInt (-1))) from c2)] at hq
        replace hp := hp.2 c2
        refine g_blk hz0 kX1_rulerOver_25 ?_
        refine ⟨hp.1, ?_⟩
        replace hp := hp.2
        refine ⟨hp.1, ?_⟩
        replace hp := hp.2
        refine ⟨fun c3 => ?_, fun c3 => ?_⟩
        · rw [if_neg (show ¬ (((o.2 0) (Int32.toNatClampNeg v4)) = ((o.2 0) (Int32.toNatClampNeg v2))) from c3)] at hq
          replace hp := hp.2 c3
          refine g_blk hz0 kX1_rulerOver_126 ?_
          refine g_le (L2 := [some (.ref 0), some (.ref 5), some (.int v2), some (.int v3), some (.int (v4 + (Int32.ofInt 1))), none]) ⟨rfl, rfl, rfl, rfl, rfl, trivial⟩ ?_
          exact ih v2 v3 (v4 + (Int32.ofInt 1)) hp hq
        · rw [if_pos (show ((o.2 0) (Int32.toNatClampNeg v4)) = ((o.2 0) (Int32.toNatClampNeg v2)) from c3)] at hq
          replace hp := hp.1 c3
          refine g_blk hz0 kX1_rulerOver_41 ?_
          refine ⟨hp.1, ?_⟩
          replace hp := hp.2
          refine ⟨hp.1, ?_⟩
          replace hp := hp.2
          refine ⟨fun c4 => ?_, fun c4 => ?_⟩
          · rw [if_pos (show ((o.2 1) (Int32.toNatClampNeg v4)) = ((o.2 1) (Int32.toNatClampNeg v2)) from c4)] at hq
            replace hp := hp.1 c4
            refine g_blk hz0 kX1_rulerOver_60 ?_
            refine ⟨hp.1, ?_⟩
            replace hp := hp.2
            refine ⟨hp.1, ?_⟩
            replace hp := hp.2
            refine ⟨fun c5 => ?_, fun c5 => ?_⟩
            · rw [if_neg (show ¬ (((o.2 3) (Int32.toNatClampNeg v4)) = ((o.2 3) (Int32.toNatClampNeg v3))) from c5)] at hq
              replace hp := hp.2 c5
              refine g_blk hz0 kX1_rulerOver_80 ?_
              refine g_le (L2 := [some (.ref 0), some (.ref 5), some (.int v2), some (.int v3), some (.int v4), none]) ⟨rfl, rfl, rfl, rfl, rfl, trivial⟩ ?_
              exact l_X1_rulerOver_81 sc o s p zq (fun r0 r1 r2 hp hq => ih r0 r1 r2 hp hq) v2 v3 v4 ((Int32.ofInt 0)) hp hq
            · rw [if_pos (show ((o.2 3) (Int32.toNatClampNeg v4)) = ((o.2 3) (Int32.toNatClampNeg v3)) from c5)] at hq
              replace hp := hp.1 c5
              refine g_blk hz0 kX1_rulerOver_76 ?_
              refine g_le (L2 := [some (.ref 0), some (.ref 5), some (.int v2), some (.int v3), some (.int v4), none]) ⟨rfl, rfl, rfl, rfl, rfl, trivial⟩ ?_
              exact l_X1_rulerOver_81 sc o s p zq (fun r0 r1 r2 hp hq => ih r0 r1 r2 hp hq) v2 v3 v4 ((Int32.ofInt 1)) hp hq
          · rw [if_neg (show ¬ (((o.2 1) (Int32.toNatClampNeg v4)) = ((o.2 1) (Int32.toNatClampNeg v2))) from c4)] at hq
            replace hp := hp.2 c4
            refine g_blk hz0 kX1_rulerOver_57 ?_
            refine g_blk hz0 kX1_rulerOver_126 ?_
            refine g_le (L2 := [some (.ref 0), some (.ref 5), some (.int v2), some (.int v3), some (.int (v4 + (Int32.ofInt 1))), none]) ⟨rfl, rfl, rfl, rfl, rfl, trivial⟩ ?_
            exact ih v2 v3 (v4 + (Int32.ofInt 1)) hp hq
def f_X1_rulerOver (o : Rec) (s : Rec) (p : Rec) (m : Int32) : Int32 := (f_X1_rulerOver_5 40 o s p m m ((Int32.ofInt 0)))
def p_X1_rulerOver (o : Rec) (s : Rec) (p : Rec) (m : Int32) : Prop := (p_X1_rulerOver_5 40 o s p m m ((Int32.ofInt 0)))
set_option maxHeartbeats 16000000 in
set_option maxRecDepth 20000 in
theorem s_X1_rulerOver (o : Rec) (s : Rec) (p : Rec) (m : Int32) (hp : p_X1_rulerOver o s p m) : Spec 0 0 0 mX1_rulerOver [.ref 0, .ref 5, .int m] (wOP o s p) (Ret (some (.int ((f_X1_rulerOver o s p m)))) (wOP o s p)) := by
  obtain ⟨zq, hq⟩ : ∃ z, z = (f_X1_rulerOver o s p m) := ⟨_, rfl⟩
  rw [← hq]
  unfold f_X1_rulerOver at hq
  unfold p_X1_rulerOver at hp
  refine Sof fun sc => ?_
  refine g_blk hz0 kX1_rulerOver_0 ?_
  refine g_le (L2 := [some (.ref 0), some (.ref 5), some (.int m), some (.int m), some (.int (Int32.ofInt 0)), none]) ⟨rfl, rfl, rfl, rfl, rfl, trivial⟩ ?_
  exact l_X1_rulerOver_5 sc o s p zq 40 m m ((Int32.ofInt 0)) hp hq

set_option maxHeartbeats 16000000 in
theorem pw31_OP_OP (o : Rec) (s : Rec) (p : Rec)  : putW (wOP o s p) [0, 1, 2, 3, 4, 5, 6, 7, 8, 9, 10, 11, 12, 13, 14, 15, 16] ((wOP o s p).map (ren [0, 1, 2, 3, 4, 5, 6, 7, 8, 9, 10, 11, 12, 13, 14, 15, 16])) = (wOP o s p) := rfl
def f_X1_rulersOf_5  : Nat → Rec → Rec → Rec → Int32 → Int32 → Int32 → Int32
  | 0, o, s, p, v2, v3, v4 => 0
  | n + 1, o, s, p, v2, v3, v4 => if (p.1 5) ≤ v4 then v3 else (if ((o.2 3) (Int32.toNatClampNeg v4)) = (Int32.ofInt (-1)) then (f_X1_rulersOf_5 n o s p v2 v3 (v4 + (Int32.ofInt 1))) else (if ((p.2 2) (Int32.toNatClampNeg v4)) = v2 then (if (f_X1_rulerOver o s p v4) = v4 then (f_X1_rulersOf_5 n o s p v2 (v3 + (Int32.ofInt 1)) (v4 + (Int32.ofInt 1))) else (f_X1_rulersOf_5 n o s p v2 v3 (v4 + (Int32.ofInt 1)))) else (f_X1_rulersOf_5 n o s p v2 v3 (v4 + (Int32.ofInt 1)))))
def p_X1_rulersOf_5  : Nat → Rec → Rec → Rec → Int32 → Int32 → Int32 → Prop
  | 0, _, _, _, _, _, _ => False
  | n + 1, o, s, p, v2, v3, v4 => ((p.1 5) ≤ v4 → True) ∧ (¬ ((p.1 5) ≤ v4) → (vp_in v4 8 ∧ ((((o.2 3) (Int32.toNatClampNeg v4)) = (Int32.ofInt (-1)) → (p_X1_rulersOf_5 n o s p v2 v3 (v4 + (Int32.ofInt 1)))) ∧ (¬ (((o.2 3) (Int32.toNatClampNeg v4)) = (Int32.ofInt (-1))) → (vp_in v4 8 ∧ ((((p.2 2) (Int32.toNatClampNeg v4)) = v2 → ((p_X1_rulerOver o s p v4) ∧ (((f_X1_rulerOver o s p v4) = v4 → (p_X1_rulersOf_5 n o s p v2 (v3 + (Int32.ofInt 1)) (v4 + (Int32.ofInt 1)))) ∧ (¬ ((f_X1_rulerOver o s p v4) = v4) → (p_X1_rulersOf_5 n o s p v2 v3 (v4 + (Int32.ofInt 1))))))) ∧ (¬ (((p.2 2) (Int32.toNatClampNeg v4)) = v2) → (p_X1_rulersOf_5 n o s p v2 v3 (v4 + (Int32.ofInt 1))))))))))
set_option maxHeartbeats 16000000 in
set_option maxRecDepth 20000 in
theorem l_X1_rulersOf_5 (sc : SC) (o : Rec) (s : Rec) (p : Rec)  (zq : Int32)  : ∀ (n : Nat)  (v2 : Int32) (v3 : Int32) (v4 : Int32), p_X1_rulersOf_5 n o s p v2 v3 v4 → zq = f_X1_rulersOf_5 n o s p v2 v3 v4 → Good sc 1 0 0 17 mX1_rulersOf (Ret (some (.int (zq))) (wOP o s p)) 0 0 5 [some (.ref 0), some (.ref 5), some (.int v2), some (.int v3), some (.int v4)] [] (wOP o s p) := by
  intro n
  induction n with
  | zero => intro v2 v3 v4 hp; exact hp.elim
  | succ n ih =>
    intro v2 v3 v4 hp hq
    unfold p_X1_rulersOf_5 at hp
    unfold f_X1_rulersOf_5 at hq
    refine g_blk hz0 kX1_rulersOf_5 ?_
    refine ⟨fun c1 => ?_, fun c1 => ?_⟩
    · rw [if_pos (show (p.1 5) ≤ v4 from c1)] at hq
      refine g_blk hz0 kX1_rulersOf_57 ?_
      subst hq
      exact ⟨fun h => (by cases h), rfl, rfl⟩
    · rw [if_neg (show ¬ ((p.1 5) ≤ v4) from c1)] at hq
      replace hp := hp.2 c1
      refine g_blk hz0 kX1_rulersOf_14 ?_
      refine ⟨hp.1, ?_⟩
      replace hp := hp.2
      refine ⟨fun c2 => ?_, fun c2 => ?_⟩
      · rw [if_pos (show ((o.2 3) (Int32.toNatClampNeg v4)) = (Int32.ofInt (-1)) from c2)] at hq
        replace hp := hp.1 c2
        refine g_blk hz0 kX1_rulersOf_51 ?_
        refine g_le (L2 := [some (.ref 0), some (.ref 5), some (.int v2), some (.int v3), some (.int (v4 + (Int32.ofInt 1)))]) ⟨rfl, rfl, rfl, rfl, rfl, trivial⟩ ?_
        exact ih v2 v3 (v4 + (Int32.ofInt 1)) hp hq
      · rw [if_neg (show ¬ (((o.2 3) (Int32.toNatClampNeg v4)) = (Int32.ofInt (-1))) from c2)] at hq
        replace hp := hp.2 c2
        refine g_blk hz0 kX1_rulersOf_25 ?_
        refine ⟨hp.1, ?_⟩
        replace hp := hp.2
        refine ⟨fun c3 => ?_, fun c3 => ?_⟩
        · rw [if_neg (show ¬ (((p.2 2) (Int32.toNatClampNeg v4)) = v2) from c3)] at hq
          replace hp := hp.2 c3
          refine g_blk hz0 kX1_rulersOf_51 ?_
          refine g_le (L2 := [some (.ref 0), some (.ref 5), some (.int v2), some (.int v3), some (.int (v4 + (Int32.ofInt 1)))]) ⟨rfl, rfl, rfl, rfl, rfl, trivial⟩ ?_
          exact ih v2 v3 (v4 + (Int32.ofInt 1)) hp hq
        · rw [if_pos (show ((p.2 2) (Int32.toNatClampNeg v4)) = v2 from c3)] at hq
          replace hp := hp.1 c3
          refine g_blk hz0 kX1_rulersOf_36 ?_
          refine cVp [0, 1, 2, 3, 4, 5, 6, 7, 8, 9, 10, 11, 12, 13, 14, 15, 16] (wOP o s p) (s_X1_rulerOver o s p v4 hp.1) rfl cwX1_rulerOver dX1_rulersOf_40 rfl rfl (hm18_OP_OP _ _ _) ?_
          replace hp := hp.2
          refine g_blk hz0 kX1_rulersOf_43 ?_
          refine ⟨fun c4 => ?_, fun c4 => ?_⟩
          · rw [if_neg (show ¬ ((f_X1_rulerOver o s p v4) = v4) from c4)] at hq
            replace hp := hp.2 c4
            refine g_blk hz0 kX1_rulersOf_51 ?_
            refine g_le (L2 := [some (.ref 0), some (.ref 5), some (.int v2), some (.int v3), some (.int (v4 + (Int32.ofInt 1)))]) ⟨rfl, rfl, rfl, rfl, rfl, trivial⟩ ?_
            exact ih v2 v3 (v4 + (Int32.ofInt 1)) hp hq
          · rw [if_pos (show (f_X1_rulerOver o s p v4) = v4 from c4)] at hq
            replace hp := hp.1 c4
            refine g_blk hz0 kX1_rulersOf_48 ?_
            refine g_blk hz0 kX1_rulersOf_51 ?_
            refine g_le (L2 := [some (.ref 0), some (.ref 5), some (.int v2), some (.int (v3 + (Int32.ofInt 1))), some (.int (v4 + (Int32.ofInt 1)))]) ⟨rfl, rfl, rfl, rfl, rfl, trivial⟩ ?_
            exact ih v2 (v3 + (Int32.ofInt 1)) (v4 + (Int32.ofInt 1)) hp hq
def f_X1_rulersOf (o : Rec) (s : Rec) (p : Rec) (w : Int32) : Int32 := (f_X1_rulersOf_5 40 o s p w ((Int32.ofInt 0)) ((Int32.ofInt 0)))
def p_X1_rulersOf (o : Rec) (s : Rec) (p : Rec) (w : Int32) : Prop := (p_X1_rulersOf_5 40 o s p w ((Int32.ofInt 0)) ((Int32.ofInt 0)))
set_option maxHeartbeats 16000000 in
set_option maxRecDepth 20000 in
theorem s_X1_rulersOf (o : Rec) (s : Rec) (p : Rec) (w : Int32) (hp : p_X1_rulersOf o s p w) : Spec 1 0 0 mX1_rulersOf [.ref 0, .ref 5, .int w] (wOP o s p) (Ret (some (.int ((f_X1_rulersOf o s p w)))) (wOP o s p)) := by
  obtain ⟨zq, hq⟩ : ∃ z, z = (f_X1_rulersOf o s p w) := ⟨_, rfl⟩
  rw [← hq]
  unfold f_X1_rulersOf at hq
  unfold p_X1_rulersOf at hp
  refine Sof fun sc => ?_
  refine g_blk hz0 kX1_rulersOf_0 ?_
  refine g_le (L2 := [some (.ref 0), some (.ref 5), some (.int w), some (.int (Int32.ofInt 0)), some (.int (Int32.ofInt 0))]) ⟨rfl, rfl, rfl, rfl, rfl, trivial⟩ ?_
  exact l_X1_rulersOf_5 sc o s p zq 40 w ((Int32.ofInt 0)) ((Int32.ofInt 0)) hp hq

def f_X1_ruledByOwn_4  : Nat → Rec → Rec → Rec → Int32 → Int32 → Int32
  | 0, o, s, p, v2, v3 => 0
  | n + 1, o, s, p, v2, v3 => if (p.1 5) ≤ v3 then v2 else (if ((o.2 3) (Int32.toNatClampNeg v3)) = (Int32.ofInt (-1)) then (f_X1_ruledByOwn_4 n o s p v2 (v3 + (Int32.ofInt 1))) else (if ((p.2 2) (Int32.toNatClampNeg (f_X1_rulerOver o s p v3))) = ((p.2 2) (Int32.toNatClampNeg v3)) then (f_X1_ruledByOwn_4 n o s p (v2 ||| ((Int32.ofInt 1) <<< (v3 &&& 31))) (v3 + (Int32.ofInt 1))) else (f_X1_ruledByOwn_4 n o s p v2 (v3 + (Int32.ofInt 1)))))
def p_X1_ruledByOwn_4  : Nat → Rec → Rec → Rec → Int32 → Int32 → Prop
  | 0, _, _, _, _, _ => False
  | n + 1, o, s, p, v2, v3 => ((p.1 5) ≤ v3 → True) ∧ (¬ ((p.1 5) ≤ v3) → (vp_in v3 8 ∧ ((((o.2 3) (Int32.toNatClampNeg v3)) = (Int32.ofInt (-1)) → (p_X1_ruledByOwn_4 n o s p v2 (v3 + (Int32.ofInt 1)))) ∧ (¬ (((o.2 3) (Int32.toNatClampNeg v3)) = (Int32.ofInt (-1))) → ((p_X1_rulerOver o s p v3) ∧ (vp_in (f_X1_rulerOver o s p v3) 8 ∧ (vp_in v3 8 ∧ ((((p.2 2) (Int32.toNatClampNeg (f_X1_rulerOver o s p v3))) = ((p.2 2) (Int32.toNatClampNeg v3)) → (p_X1_ruledByOwn_4 n o s p (v2 ||| ((Int32.ofInt 1) <<< (v3 &&& 31))) (v3 + (Int32.ofInt 1)))) ∧ (¬ (((p.2 2) (Int32.toNatClampNeg (f_X1_rulerOver o s p v3))) = ((p.2 2) (Int32.toNatClampNeg v3))) → (p_X1_ruledByOwn_4 n o s p v2 (v3 + (Int32.ofInt 1))))))))))))
set_option maxHeartbeats 16000000 in
set_option maxRecDepth 20000 in
theorem l_X1_ruledByOwn_4 (sc : SC) (o : Rec) (s : Rec) (p : Rec)  (zq : Int32)  : ∀ (n : Nat)  (v2 : Int32) (v3 : Int32), p_X1_ruledByOwn_4 n o s p v2 v3 → zq = f_X1_ruledByOwn_4 n o s p v2 v3 → Good sc 1 0 0 17 mX1_ruledByOwn (Ret (some (.int (zq))) (wOP o s p)) 0 0 4 [some (.ref 0), some (.ref 5), some (.int v2), some (.int v3)] [] (wOP o s p) := by
  intro n
  induction n with
  | zero => intro v2 v3 hp; exact hp.elim
  | succ n ih =>
    intro v2 v3 hp hq
    unfold p_X1_ruledByOwn_4 at hp
    unfold f_X1_ruledByOwn_4 at hq
    refine g_blk hz0 kX1_ruledByOwn_4 ?_
    refine ⟨fun c1 => ?_, fun c1 => ?_⟩
    · rw [if_pos (show (p.1 5) ≤ v3 from c1)] at hq
      refine g_blk hz0 kX1_ruledByOwn_54 ?_
      subst hq
      exact ⟨fun h => (by cases h), rfl, rfl⟩
    · rw [if_neg (show ¬ ((p.1 5) ≤ v3) from c1)] at hq
      replace hp := hp.2 c1
      refine g_blk hz0 kX1_ruledByOwn_12 ?_
      refine ⟨hp.1, ?_⟩
      replace hp := hp.2
      refine ⟨fun c2 => ?_, fun c2 => ?_⟩
      · rw [if_pos (show ((o.2 3) (Int32.toNatClampNeg v3)) = (Int32.ofInt (-1)) from c2)] at hq
        replace hp := hp.1 c2
        refine g_blk hz0 kX1_ruledByOwn_48 ?_
        refine g_le (L2 := [some (.ref 0), some (.ref 5), some (.int v2), some (.int (v3 + (Int32.ofInt 1)))]) ⟨rfl, rfl, rfl, rfl, trivial⟩ ?_
        exact ih v2 (v3 + (Int32.ofInt 1)) hp hq
      · rw [if_neg (show ¬ (((o.2 3) (Int32.toNatClampNeg v3)) = (Int32.ofInt (-1))) from c2)] at hq
        replace hp := hp.2 c2
        refine g_blk hz0 kX1_ruledByOwn_22 ?_
        refine cVp [0, 1, 2, 3, 4, 5, 6, 7, 8, 9, 10, 11, 12, 13, 14, 15, 16] (wOP o s p) (s_X1_rulerOver o s p v3 hp.1) rfl cwX1_rulerOver dX1_ruledByOwn_29 rfl rfl (hm18_OP_OP _ _ _) ?_
        replace hp := hp.2
        refine g_blk hz0 kX1_ruledByOwn_32 ?_
        refine ⟨hp.1, ?_⟩
        replace hp := hp.2
        refine ⟨hp.1, ?_⟩
        replace hp := hp.2
        refine ⟨fun c3 => ?_, fun c3 => ?_⟩
        · rw [if_neg (show ¬ (((p.2 2) (Int32.toNatClampNeg (f_X1_rulerOver o s p v3))) = ((p.2 2) (Int32.toNatClampNeg v3))) from c3)] at hq
          replace hp := hp.2 c3
          refine g_blk hz0 kX1_ruledByOwn_48 ?_
          refine g_le (L2 := [some (.ref 0), some (.ref 5), some (.int v2), some (.int (v3 + (Int32.ofInt 1)))]) ⟨rfl, rfl, rfl, rfl, trivial⟩ ?_
          exact ih v2 (v3 + (Int32.ofInt 1)) hp hq
        · rw [if_pos (show ((p.2 2) (Int32.toNatClampNeg (f_X1_rulerOver o s p v3))) = ((p.2 2) (Int32.toNatClampNeg v3)) from c3)] at hq
          replace hp := hp.1 c3
          refine g_blk hz0 kX1_ruledByOwn_42 ?_
          refine g_blk hz0 kX1_ruledByOwn_48 ?_
          refine g_le (L2 := [some (.ref 0), some (.ref 5), some (.int (v2 ||| ((Int32.ofInt 1) <<< (v3 &&& 31)))), some (.int (v3 + (Int32.ofInt 1)))]) ⟨rfl, rfl, rfl, rfl, trivial⟩ ?_
          exact ih (v2 ||| ((Int32.ofInt 1) <<< (v3 &&& 31))) (v3 + (Int32.ofInt 1)) hp hq
def f_X1_ruledByOwn (o : Rec) (s : Rec) (p : Rec)  : Int32 := (f_X1_ruledByOwn_4 40 o s p ((Int32.ofInt 0)) ((Int32.ofInt 0)))
def p_X1_ruledByOwn (o : Rec) (s : Rec) (p : Rec)  : Prop := (p_X1_ruledByOwn_4 40 o s p ((Int32.ofInt 0)) ((Int32.ofInt 0)))
set_option maxHeartbeats 16000000 in
set_option maxRecDepth 20000 in
theorem s_X1_ruledByOwn (o : Rec) (s : Rec) (p : Rec)  (hp : p_X1_ruledByOwn o s p) : Spec 1 0 0 mX1_ruledByOwn [.ref 0, .ref 5] (wOP o s p) (Ret (some (.int ((f_X1_ruledByOwn o s p)))) (wOP o s p)) := by
  obtain ⟨zq, hq⟩ : ∃ z, z = (f_X1_ruledByOwn o s p) := ⟨_, rfl⟩
  rw [← hq]
  unfold f_X1_ruledByOwn at hq
  unfold p_X1_ruledByOwn at hp
  refine Sof fun sc => ?_
  refine g_blk hz0 kX1_ruledByOwn_0 ?_
  refine g_le (L2 := [some (.ref 0), some (.ref 5), some (.int (Int32.ofInt 0)), some (.int (Int32.ofInt 0))]) ⟨rfl, rfl, rfl, rfl, trivial⟩ ?_
  exact l_X1_ruledByOwn_4 sc o s p zq 40 ((Int32.ofInt 0)) ((Int32.ofInt 0)) hp hq

def f_X1_habitOf_19  : Nat → Rec → Rec → Rec → Int32 → Int32 → Int32 → Int32 → Int32 × Rec
  | 0, o, s, p, v2, v3, v4, v6 => (0, o)
  | n + 1, o, s, p, v2, v3, v4, v6 => if (f_X4_choices s) ≤ v6 then (v3, o) else (if v3 = (Int32.ofInt (-1)) then (f_X1_habitOf_19 n (f_X1_look o s p (f_X4_choiceAxis s v6) (f_X4_choiceLine s v6) (f_X4_choiceWay s v6)) s p v2 v6 ((f_X1_rulersOf (f_X1_look o s p (f_X4_choiceAxis s v6) (f_X4_choiceLine s v6) (f_X4_choiceWay s v6)) s p v2) - (f_X1_rulersOf (f_X1_look o s p (f_X4_choiceAxis s v6) (f_X4_choiceLine s v6) (f_X4_choiceWay s v6)) s p ((Int32.ofInt 1) - v2))) (v6 + (Int32.ofInt 1))) else (if ((f_X1_rulersOf (f_X1_look o s p (f_X4_choiceAxis s v6) (f_X4_choiceLine s v6) (f_X4_choiceWay s v6)) s p v2) - (f_X1_rulersOf (f_X1_look o s p (f_X4_choiceAxis s v6) (f_X4_choiceLine s v6) (f_X4_choiceWay s v6)) s p ((Int32.ofInt 1) - v2))) ≤ v4 then (f_X1_habitOf_19 n (f_X1_look o s p (f_X4_choiceAxis s v6) (f_X4_choiceLine s v6) (f_X4_choiceWay s v6)) s p v2 v3 v4 (v6 + (Int32.ofInt 1))) else (f_X1_habitOf_19 n (f_X1_look o s p (f_X4_choiceAxis s v6) (f_X4_choiceLine s v6) (f_X4_choiceWay s v6)) s p v2 v6 ((f_X1_rulersOf (f_X1_look o s p (f_X4_choiceAxis s v6) (f_X4_choiceLine s v6) (f_X4_choiceWay s v6)) s p v2) - (f_X1_rulersOf (f_X1_look o s p (f_X4_choiceAxis s v6) (f_X4_choiceLine s v6) (f_X4_choiceWay s v6)) s p ((Int32.ofInt 1) - v2))) (v6 + (Int32.ofInt 1)))))
def p_X1_habitOf_19  : Nat → Rec → Rec → Rec → Int32 → Int32 → Int32 → Int32 → Prop
  | 0, _, _, _, _, _, _, _ => False
  | n + 1, o, s, p, v2, v3, v4, v6 => ((f_X4_choices s) ≤ v6 → True) ∧ (¬ ((f_X4_choices s) ≤ v6) → ((p_X1_look o s p (f_X4_choiceAxis s v6) (f_X4_choiceLine s v6) (f_X4_choiceWay s v6)) ∧ ((p_X1_rulersOf (f_X1_look o s p (f_X4_choiceAxis s v6) (f_X4_choiceLine s v6) (f_X4_choiceWay s v6)) s p v2) ∧ ((p_X1_rulersOf (f_X1_look o s p (f_X4_choiceAxis s v6) (f_X4_choiceLine s v6) (f_X4_choiceWay s v6)) s p ((Int32.ofInt 1) - v2)) ∧ ((v3 = (Int32.ofInt (-1)) → (p_X1_habitOf_19 n (f_X1_look o s p (f_X4_choiceAxis s v6) (f_X4_choiceLine s v6) (f_X4_choiceWay s v6)) s p v2 v6 ((f_X1_rulersOf (f_X1_look o s p (f_X4_choiceAxis s v6) (f_X4_choiceLine s v6) (f_X4_choiceWay s v6)) s p v2) - (f_X1_rulersOf (f_X1_look o s p (f_X4_choiceAxis s v6) (f_X4_choiceLine s v6) (f_X4_choiceWay s v6)) s p ((Int32.ofInt 1) - v2))) (v6 + (Int32.ofInt 1)))) ∧ (¬ (v3 = (Int32.ofInt (-1))) → ((((f_X1_rulersOf (f_X1_look o s p (f_X4_choiceAxis s v6) (f_X4_choiceLine s v6) (f_X4_choiceWay s v6)) s p v2) - (f_X1_rulersOf (f_X1_look o s p (f_X4_choiceAxis s v6) (f_X4_choiceLine s v6) (f_X4_choiceWay s v6)) s p ((Int32.ofInt 1) - v2))) ≤ v4 → (p_X1_habitOf_19 n (f_X1_look o s p (f_X4_choiceAxis s v6) (f_X4_choiceLine s v6) (f_X4_choiceWay s v6)) s p v2 v3 v4 (v6 + (Int32.ofInt 1)))) ∧ (¬ (((f_X1_rulersOf (f_X1_look o s p (f_X4_choiceAxis s v6) (f_X4_choiceLine s v6) (f_X4_choiceWay s v6)) s p v2) - (f_X1_rulersOf (f_X1_look o s p (f_X4_choiceAxis s v6) (f_X4_choiceLine s v6) (f_X4_choiceWay s v6)) s p ((Int32.ofInt 1) - v2))) ≤ v4) → (p_X1_habitOf_19 n (f_X1_look o s p (f_X4_choiceAxis s v6) (f_X4_choiceLine s v6) (f_X4_choiceWay s v6)) s p v2 v6 ((f_X1_rulersOf (f_X1_look o s p (f_X4_choiceAxis s v6) (f_X4_choiceLine s v6) (f_X4_choiceWay s v6)) s p v2) - (f_X1_rulersOf (f_X1_look o s p (f_X4_choiceAxis s v6) (f_X4_choiceLine s v6) (f_X4_choiceWay s v6)) s p ((Int32.ofInt 1) - v2))) (v6 + (Int32.ofInt 1)))))))))))
set_option maxHeartbeats 16000000 in
set_option maxRecDepth 20000 in
theorem l_X1_habitOf_19 (sc : SC) (s : Rec) (p : Rec)  (zq : Int32 × Rec)  : ∀ (n : Nat) (o : Rec) (v2 : Int32) (v3 : Int32) (v4 : Int32) (v6 : Int32), p_X1_habitOf_19 n o s p v2 v3 v4 v6 → zq = f_X1_habitOf_19 n o s p v2 v3 v4 v6 → Good sc 3 0 0 17 mX1_habitOf (Ret (some (.int (zq.1))) (wOP (zq.2) s p)) 0 0 19 [some (.ref 0), some (.ref 5), some (.int v2), some (.int v3), some (.int v4), some (.ref 6), some (.int v6), none] [] (wOP o s p) := by
  intro n
  induction n with
  | zero => intro o v2 v3 v4 v6 hp; exact hp.elim
  | succ n ih =>
    intro o v2 v3 v4 v6 hp hq
    unfold p_X1_habitOf_19 at hp
    unfold f_X1_habitOf_19 at hq
    refine g_blk hz0 kX1_habitOf_19 ?_
    refine cVp [6, 7, 8, 9, 10, 11, 12] (wS s) (s_X4_choices s) rfl cwX4_choices dX1_habitOf_23 rfl rfl (hm17_OP_S _ _ _) ?_
    refine g_blk hz0 kX1_habitOf_26 ?_
    refine ⟨fun c1 => ?_, fun c1 => ?_⟩
    · rw [if_pos (show (f_X4_choices s) ≤ v6 from c1)] at hq
      refine g_blk hz0 kX1_habitOf_97 ?_
      subst hq
      exact ⟨fun h => (by cases h), rfl, rfl⟩
    · rw [if_neg (show ¬ ((f_X4_choices s) ≤ v6) from c1)] at hq
      replace hp := hp.2 c1
      refine g_blk hz0 kX1_habitOf_29 ?_
      refine cVp [6, 7, 8, 9, 10, 11, 12] (wS s) (s_X4_choiceAxis s v6) rfl cwX4_choiceAxis dX1_habitOf_35 rfl rfl (hm17_OP_S _ _ _) ?_
      refine g_blk hz0 kX1_habitOf_38 ?_
      refine cVp [6, 7, 8, 9, 10, 11, 12] (wS s) (s_X4_choiceLine s v6) rfl cwX4_choiceLine dX1_habitOf_42 rfl rfl (hm17_OP_S _ _ _) ?_
      refine g_blk hz0 kX1_habitOf_45 ?_
      refine cVp [6, 7, 8, 9, 10, 11, 12] (wS s) (s_X4_choiceWay s v6) rfl cwX4_choiceWay dX1_habitOf_49 rfl rfl (hm17_OP_S _ _ _) ?_
      refine cV [0, 1, 2, 3, 4, 5, 6, 7, 8, 9, 10, 11, 12, 13, 14, 15, 16] (wOP o s p) (s_X1_look o s p (f_X4_choiceAxis s v6) (f_X4_choiceLine s v6) (f_X4_choiceWay s v6) hp.1) rfl cwX1_look dX1_habitOf_52 rfl rfl (hm18_OP_OP _ _ _) ((len_OP _ _ _).trans (len_OP _ _ _).symm) (wOP (f_X1_look o s p (f_X4_choiceAxis s v6) (f_X4_choiceLine s v6) (f_X4_choiceWay s v6)) s p) (pw30_OP_OP _ _ _ _) ?_
      replace hp := hp.2
      obtain ⟨g2, hg2⟩ : ∃ z, z = (f_X1_look o s p (f_X4_choiceAxis s v6) (f_X4_choiceLine s v6) (f_X4_choiceWay s v6)) := ⟨_, rfl⟩
      try rw [← hg2] at hp
      try rw [← hg2] at hq
      rw [← hg2]
      refine g_blk hz0 kX1_habitOf_55 ?_
      refine cVp [0, 1, 2, 3, 4, 5, 6, 7, 8, 9, 10, 11, 12, 13, 14, 15, 16] (wOP g2 s p) (s_X1_rulersOf g2 s p v2 hp.1) rfl cwX1_rulersOf dX1_habitOf_58 rfl rfl (hm18_OP_OP _ _ _) ?_
      replace hp := hp.2
      refine g_blk hz0 kX1_habitOf_61 ?_
      refine cVp [0, 1, 2, 3, 4, 5, 6, 7, 8, 9, 10, 11, 12, 13, 14, 15, 16] (wOP g2 s p) (s_X1_rulersOf g2 s p ((Int32.ofInt 1) - v2) hp.1) rfl cwX1_rulersOf dX1_habitOf_66 rfl rfl (hm18_OP_OP _ _ _) ?_
      replace hp := hp.2
      refine g_blk hz0 kX1_habitOf_69 ?_
      refine ⟨fun c3 => ?_, fun c3 => ?_⟩
      · rw [if_pos (show v3 = (Int32.ofInt (-1)) from c3)] at hq
        replace hp := hp.1 c3
        refine g_blk hz0 kX1_habitOf_84 ?_
        refine g_blk hz0 kX1_habitOf_91 ?_
        refine g_le (L2 := [some (.ref 0), some (.ref 5), some (.int v2), some (.int v6), some (.int ((f_X1_rulersOf g2 s p v2) - (f_X1_rulersOf g2 s p ((Int32.ofInt 1) - v2)))), some (.ref 6), some (.int (v6 + (Int32.ofInt 1))), none]) ⟨rfl, rfl, rfl, rfl, rfl, rfl, rfl, trivial⟩ ?_
        exact ih g2 v2 v6 ((f_X1_rulersOf g2 s p v2) - (f_X1_rulersOf g2 s p ((Int32.ofInt 1) - v2))) (v6 + (Int32.ofInt 1)) hp hq
      · rw [if_neg (show ¬ (v3 = (Int32.ofInt (-1))) from c3)] at hq
        replace hp := hp.2 c3
        refine g_blk hz0 kX1_habitOf_77 ?_
        refine ⟨fun c4 => ?_, fun c4 => ?_⟩
        · rw [if_pos (show ((f_X1_rulersOf g2 s p v2) - (f_X1_rulersOf g2 s p ((Int32.ofInt 1) - v2))) ≤ v4 from c4)] at hq
          replace hp := hp.1 c4
          refine g_blk hz0 kX1_habitOf_91 ?_
          refine g_le (L2 := [some (.ref 0), some (.ref 5), some (.int v2), some (.int v3), some (.int v4), some (.ref 6), some (.int (v6 + (Int32.ofInt 1))), none]) ⟨rfl, rfl, rfl, rfl, rfl, rfl, rfl, trivial⟩ ?_
          exact ih g2 v2 v3 v4 (v6 + (Int32.ofInt 1)) hp hq
        · rw [if_neg (show ¬ (((f_X1_rulersOf g2 s p v2) - (f_X1_rulersOf g2 s p ((Int32.ofInt 1) - v2))) ≤ v4) from c4)] at hq
          replace hp := hp.2 c4
          refine g_blk hz0 kX1_habitOf_84 ?_
          refine g_blk hz0 kX1_habitOf_91 ?_
          refine g_le (L2 := [some (.ref 0), some (.ref 5), some (.int v2), some (.int v6), some (.int ((f_X1_rulersOf g2 s p v2) - (f_X1_rulersOf g2 s p ((Int32.ofInt 1) - v2)))), some (.ref 6), some (.int (v6 + (Int32.ofInt 1))), none]) ⟨rfl, rfl, rfl, rfl, rfl, rfl, rfl, trivial⟩ ?_
          exact ih g2 v2 v6 ((f_X1_rulersOf g2 s p v2) - (f_X1_rulersOf g2 s p ((Int32.ofInt 1) - v2))) (v6 + (Int32.ofInt 1)) hp hq
def f_X1_habitOf (o : Rec) (s : Rec) (p : Rec)  : Int32 × Rec := (f_X1_habitOf_19 4000000000 o s p (f_X3_behindNow s p) ((Int32.ofInt (-1))) ((Int32.ofInt 0)) ((Int32.ofInt 0)))
def p_X1_habitOf (o : Rec) (s : Rec) (p : Rec)  : Prop := (p_X3_behindNow s p) ∧ (p_X1_habitOf_19 4000000000 o s p (f_X3_behindNow s p) ((Int32.ofInt (-1))) ((Int32.ofInt 0)) ((Int32.ofInt 0)))
set_option maxHeartbeats 16000000 in
set_option maxRecDepth 20000 in
theorem s_X1_habitOf (o : Rec) (s : Rec) (p : Rec)  (hp : p_X1_habitOf o s p) : Spec 3 0 0 mX1_habitOf [.ref 0, .ref 5] (wOP o s p) (Ret (some (.int ((f_X1_habitOf o s p).1))) (wOP ((f_X1_habitOf o s p).2) s p)) := by
  obtain ⟨zq, hq⟩ : ∃ z, z = (f_X1_habitOf o s p) := ⟨_, rfl⟩
  rw [← hq]
  unfold f_X1_habitOf at hq
  unfold p_X1_habitOf at hp
  refine Sof fun sc => ?_
  refine g_blk hz0 kX1_habitOf_0 ?_
  refine cVp [5, 6, 7, 8, 9, 10, 11, 12, 13, 14, 15, 16] (wP s p) (s_X3_behindNow s p hp.1) rfl cwX3_behindNow dX1_habitOf_1 rfl rfl (hm16_OP_P _ _ _) ?_
  replace hp := hp.2
  refine g_blk hz0 kX1_habitOf_4 ?_
  refine g_le (L2 := [some (.ref 0), some (.ref 5), some (.int (f_X3_behindNow s p)), some (.int (Int32.ofInt (-1))), some (.int (Int32.ofInt 0)), some (.ref 6), some (.int (Int32.ofInt 0)), none]) ⟨rfl, rfl, rfl, rfl, rfl, rfl, rfl, trivial⟩ ?_
  exact l_X1_habitOf_19 sc s p zq 4000000000 o (f_X3_behindNow s p) ((Int32.ofInt (-1))) ((Int32.ofInt 0)) ((Int32.ofInt 0)) hp hq

def f_X1_safeMen_13  : Nat → Rec → Rec → Rec → Int32 → Int32 → Int32 × Rec
  | 0, o, s, p, v2, v3 => (0, o)
  | n + 1, o, s, p, v2, v3 => if (f_X4_choices s) ≤ v3 then (v2, o) else (if v2 = 0 then (v2, o) else (f_X1_safeMen_13 n (f_X1_lookBehind o s p v3) s p (v2 &&& (f_X1_ruledByOwn (f_X1_lookBehind o s p v3) s p)) (v3 + (Int32.ofInt 1))))
def p_X1_safeMen_13  : Nat → Rec → Rec → Rec → Int32 → Int32 → Prop
  | 0, _, _, _, _, _ => False
  | n + 1, o, s, p, v2, v3 => ((f_X4_choices s) ≤ v3 → True) ∧ (¬ ((f_X4_choices s) ≤ v3) → ((v2 = 0 → True) ∧ (¬ (v2 = 0) → ((p_X1_lookBehind o s p v3) ∧ ((p_X1_ruledByOwn (f_X1_lookBehind o s p v3) s p) ∧ (p_X1_safeMen_13 n (f_X1_lookBehind o s p v3) s p (v2 &&& (f_X1_ruledByOwn (f_X1_lookBehind o s p v3) s p)) (v3 + (Int32.ofInt 1))))))))
set_option maxHeartbeats 16000000 in
set_option maxRecDepth 20000 in
theorem l_X1_safeMen_13 (sc : SC) (s : Rec) (p : Rec)  (zq : Int32 × Rec)  : ∀ (n : Nat) (o : Rec) (v2 : Int32) (v3 : Int32), p_X1_safeMen_13 n o s p v2 v3 → zq = f_X1_safeMen_13 n o s p v2 v3 → Good sc 3 0 0 17 mX1_safeMen (Ret (some (.int (zq.1))) (wOP (zq.2) s p)) 0 0 13 [some (.ref 0), some (.ref 5), some (.int v2), some (.int v3)] [] (wOP o s p) := by
  intro n
  induction n with
  | zero => intro o v2 v3 hp; exact hp.elim
  | succ n ih =>
    intro o v2 v3 hp hq
    unfold p_X1_safeMen_13 at hp
    unfold f_X1_safeMen_13 at hq
    refine g_blk hz0 kX1_safeMen_13 ?_
    refine cVp [6, 7, 8, 9, 10, 11, 12] (wS s) (s_X4_choices s) rfl cwX4_choices dX1_safeMen_18 rfl rfl (hm17_OP_S _ _ _) ?_
    refine g_blk hz0 kX1_safeMen_21 ?_
    refine ⟨fun c2 => ?_, fun c2 => ?_⟩
    · rw [if_pos (show (f_X4_choices s) ≤ v3 from c2)] at hq
      refine g_blk hz0 kX1_safeMen_48 ?_
      subst hq
      exact ⟨fun h => (by cases h), rfl, rfl⟩
    · rw [if_neg (show ¬ ((f_X4_choices s) ≤ v3) from c2)] at hq
      replace hp := hp.2 c2
      refine g_blk hz0 kX1_safeMen_24 ?_
      refine ⟨fun c3 => ?_, fun c3 => ?_⟩
      · rw [if_pos (show v2 = 0 from c3)] at hq
        refine g_blk hz0 kX1_safeMen_48 ?_
        subst hq
        exact ⟨fun h => (by cases h), rfl, rfl⟩
      · rw [if_neg (show ¬ (v2 = 0) from c3)] at hq
        replace hp := hp.2 c3
        refine g_blk hz0 kX1_safeMen_28 ?_
        refine cV [0, 1, 2, 3, 4, 5, 6, 7, 8, 9, 10, 11, 12, 13, 14, 15, 16] (wOP o s p) (s_X1_lookBehind o s p v3 hp.1) rfl cwX1_lookBehind dX1_safeMen_31 rfl rfl (hm18_OP_OP _ _ _) ((len_OP _ _ _).trans (len_OP _ _ _).symm) (wOP (f_X1_lookBehind o s p v3) s p) (pw30_OP_OP _ _ _ _) ?_
        replace hp := hp.2
        obtain ⟨g4, hg4⟩ : ∃ z, z = (f_X1_lookBehind o s p v3) := ⟨_, rfl⟩
        try rw [← hg4] at hp
        try rw [← hg4] at hq
        rw [← hg4]
        refine g_blk hz0 kX1_safeMen_34 ?_
        refine cVp [0, 1, 2, 3, 4, 5, 6, 7, 8, 9, 10, 11, 12, 13, 14, 15, 16] (wOP g4 s p) (s_X1_ruledByOwn g4 s p hp.1) rfl cwX1_ruledByOwn dX1_safeMen_37 rfl rfl (hm18_OP_OP _ _ _) ?_
        replace hp := hp.2
        refine g_blk hz0 kX1_safeMen_40 ?_
        refine g_le (L2 := [some (.ref 0), some (.ref 5), some (.int (v2 &&& (f_X1_ruledByOwn g4 s p))), some (.int (v3 + (Int32.ofInt 1)))]) ⟨rfl, rfl, rfl, rfl, trivial⟩ ?_
        exact ih g4 (v2 &&& (f_X1_ruledByOwn g4 s p)) (v3 + (Int32.ofInt 1)) hp hq
def f_X1_safeMen (o : Rec) (s : Rec) (p : Rec)  : Int32 × Rec := (f_X1_safeMen_13 4000000000 (f_X1_lookNow o s p) s p (f_X1_ruledByOwn (f_X1_lookNow o s p) s p) ((Int32.ofInt 0)))
def p_X1_safeMen (o : Rec) (s : Rec) (p : Rec)  : Prop := (p_X1_lookNow o s p) ∧ ((p_X1_ruledByOwn (f_X1_lookNow o s p) s p) ∧ (p_X1_safeMen_13 4000000000 (f_X1_lookNow o s p) s p (f_X1_ruledByOwn (f_X1_lookNow o s p) s p) ((Int32.ofInt 0))))
set_option maxHeartbeats 16000000 in
set_option maxRecDepth 20000 in
theorem s_X1_safeMen (o : Rec) (s : Rec) (p : Rec)  (hp : p_X1_safeMen o s p) : Spec 3 0 0 mX1_safeMen [.ref 0, .ref 5] (wOP o s p) (Ret (some (.int ((f_X1_safeMen o s p).1))) (wOP ((f_X1_safeMen o s p).2) s p)) := by
  obtain ⟨zq, hq⟩ : ∃ z, z = (f_X1_safeMen o s p) := ⟨_, rfl⟩
  rw [← hq]
  unfold f_X1_safeMen at hq
  unfold p_X1_safeMen at hp
  refine Sof fun sc => ?_
  refine g_blk hz0 kX1_safeMen_0 ?_
  refine cV [0, 1, 2, 3, 4, 5, 6, 7, 8, 9, 10, 11, 12, 13, 14, 15, 16] (wOP o s p) (s_X1_lookNow o s p hp.1) rfl cwX1_lookNow dX1_safeMen_2 rfl rfl (hm18_OP_OP _ _ _) ((len_OP _ _ _).trans (len_OP _ _ _).symm) (wOP (f_X1_lookNow o s p) s p) (pw30_OP_OP _ _ _ _) ?_
  replace hp := hp.2
  obtain ⟨g1, hg1⟩ : ∃ z, z = (f_X1_lookNow o s p) := ⟨_, rfl⟩
  try rw [← hg1] at hp
  try rw [← hg1] at hq
  rw [← hg1]
  refine g_blk hz0 kX1_safeMen_5 ?_
  refine cVp [0, 1, 2, 3, 4, 5, 6, 7, 8, 9, 10, 11, 12, 13, 14, 15, 16] (wOP g1 s p) (s_X1_ruledByOwn g1 s p hp.1) rfl cwX1_ruledByOwn dX1_safeMen_7 rfl rfl (hm18_OP_OP _ _ _) ?_
  replace hp := hp.2
  refine g_blk hz0 kX1_safeMen_10 ?_
  refine g_le (L2 := [some (.ref 0), some (.ref 5), some (.int (f_X1_ruledByOwn g1 s p)), some (.int (Int32.ofInt 0))]) ⟨rfl, rfl, rfl, rfl, trivial⟩ ?_
  exact l_X1_safeMen_13 sc s p zq 4000000000 g1 (f_X1_ruledByOwn g1 s p) ((Int32.ofInt 0)) hp hq
