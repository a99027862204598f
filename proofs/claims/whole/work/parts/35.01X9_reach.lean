def f_X9_reach_165 (K73 : Rec → Int32 → Int32 → Int32 → Int32 × Rec) (K82 : Rec → Int32 → Int32 → Int32 → Int32 → Int32 × Rec) (K92 : Rec → Int32 → Int32 → Int32 → Int32 → Int32 → Int32 × Rec) (m : Rec) (v3 : Int32) (v4 : Int32) (v5 : Int32) (v6 : Int32) (v7 : Int32) (v8 : Int32) (u1 : Int32) : Int32 × Rec := if ((m.2 13) (Int32.toNatClampNeg u1)) = (Int32.ofInt (-1)) then (if (f_X9_rulerAt m (((m.2 4) (Int32.toNatClampNeg v6)) + (f_X9_wayX v7)) (((m.2 5) (Int32.toNatClampNeg v6)) + (f_X9_wayY v7))) = (Int32.ofInt (-1)) then (if 0 ≤ v8 then (K92 (setA m 13 (upd (m.2 13) (Int32.toNatClampNeg v8) v5)) v3 (v4 + (Int32.ofInt 1)) v5 v6 (v7 + (Int32.ofInt 1))) else (K92 (setA m 13 (upd (m.2 13) (Int32.toNatClampNeg (Int32.ofInt 0)) v5)) v3 (v4 + (Int32.ofInt 1)) v5 v6 (v7 + (Int32.ofInt 1)))) else (K92 m v3 v4 v5 v6 (v7 + (Int32.ofInt 1)))) else (K92 m v3 v4 v5 v6 (v7 + (Int32.ofInt 1)))
def p_X9_reach_165 (G73 : Rec → Int32 → Int32 → Int32 → Prop) (G82 : Rec → Int32 → Int32 → Int32 → Int32 → Prop) (G92 : Rec → Int32 → Int32 → Int32 → Int32 → Int32 → Prop) (m : Rec) (v3 : Int32) (v4 : Int32) (v5 : Int32) (v6 : Int32) (v7 : Int32) (v8 : Int32) (u1 : Int32) : Prop := vp_in u1 36 ∧ ((((m.2 13) (Int32.toNatClampNeg u1)) = (Int32.ofInt (-1)) → (vp_in v6 36 ∧ (vp_in v6 36 ∧ ((p_X9_rulerAt m (((m.2 4) (Int32.toNatClampNeg v6)) + (f_X9_wayX v7)) (((m.2 5) (Int32.toNatClampNeg v6)) + (f_X9_wayY v7))) ∧ (((f_X9_rulerAt m (((m.2 4) (Int32.toNatClampNeg v6)) + (f_X9_wayX v7)) (((m.2 5) (Int32.toNatClampNeg v6)) + (f_X9_wayY v7))) = (Int32.ofInt (-1)) → ((0 ≤ v8 → (vp_in v8 36 ∧ (G92 (setA m 13 (upd (m.2 13) (Int32.toNatClampNeg v8) v5)) v3 (v4 + (Int32.ofInt 1)) v5 v6 (v7 + (Int32.ofInt 1))))) ∧ (¬ (0 ≤ v8) → (G92 (setA m 13 (upd (m.2 13) (Int32.toNatClampNeg (Int32.ofInt 0)) v5)) v3 (v4 + (Int32.ofInt 1)) v5 v6 (v7 + (Int32.ofInt 1)))))) ∧ (¬ ((f_X9_rulerAt m (((m.2 4) (Int32.toNatClampNeg v6)) + (f_X9_wayX v7)) (((m.2 5) (Int32.toNatClampNeg v6)) + (f_X9_wayY v7))) = (Int32.ofInt (-1))) → (G92 m v3 v4 v5 v6 (v7 + (Int32.ofInt 1))))))))) ∧ (¬ (((m.2 13) (Int32.toNatClampNeg u1)) = (Int32.ofInt (-1))) → (G92 m v3 v4 v5 v6 (v7 + (Int32.ofInt 1)))))
set_option maxHeartbeats 16000000 in
set_option maxRecDepth 20000 in
theorem l_X9_reach_165 (sc : SC)  {K73 : Rec → Int32 → Int32 → Int32 → Int32 × Rec} {G73 : Rec → Int32 → Int32 → Int32 → Prop} {K82 : Rec → Int32 → Int32 → Int32 → Int32 → Int32 × Rec} {G82 : Rec → Int32 → Int32 → Int32 → Int32 → Prop} {K92 : Rec → Int32 → Int32 → Int32 → Int32 → Int32 → Int32 × Rec} {G92 : Rec → Int32 → Int32 → Int32 → Int32 → Int32 → Prop} (zq : Int32 × Rec) (hK73 : ∀ (m : Rec) (v3 : Int32) (v4 : Int32) (v5 : Int32), G73 m v3 v4 v5 → zq = K73 m v3 v4 v5 → Good sc 4 0 0 17 mX9_reach (Ret (some (.int (zq.1))) (wM (zq.2))) 0 0 73 [some (.ref 0), none, none, some (.int v3), some (.int v4), some (.int v5), none, none, none] [] (wM m)) (hK82 : ∀ (m : Rec) (v3 : Int32) (v4 : Int32) (v5 : Int32) (v6 : Int32), G82 m v3 v4 v5 v6 → zq = K82 m v3 v4 v5 v6 → Good sc 4 0 0 17 mX9_reach (Ret (some (.int (zq.1))) (wM (zq.2))) 0 0 82 [some (.ref 0), none, none, some (.int v3), some (.int v4), some (.int v5), some (.int v6), none, none] [] (wM m)) (hK92 : ∀ (m : Rec) (v3 : Int32) (v4 : Int32) (v5 : Int32) (v6 : Int32) (v7 : Int32), G92 m v3 v4 v5 v6 v7 → zq = K92 m v3 v4 v5 v6 v7 → Good sc 4 0 0 17 mX9_reach (Ret (some (.int (zq.1))) (wM (zq.2))) 0 0 92 [some (.ref 0), none, none, some (.int v3), some (.int v4), some (.int v5), some (.int v6), some (.int v7), none] [] (wM m)) (m : Rec) (v3 : Int32) (v4 : Int32) (v5 : Int32) (v6 : Int32) (v7 : Int32) (v8 : Int32) (u1 : Int32) (hp : p_X9_reach_165 G73 G82 G92 m v3 v4 v5 v6 v7 v8 u1) (hq : zq = f_X9_reach_165 K73 K82 K92 m v3 v4 v5 v6 v7 v8 u1) : Good sc 4 0 0 17 mX9_reach (Ret (some (.int (zq.1))) (wM (zq.2))) 0 0 165 [some (.ref 0), none, none, some (.int v3), some (.int v4), some (.int v5), some (.int v6), some (.int v7), some (.int v8)] [.int u1, .ref 10] (wM m) := by
  unfold p_X9_reach_165 at hp
  unfold f_X9_reach_165 at hq
  refine g_blk hz0 kX9_reach_165 ?_
  refine ⟨hp.1, ?_⟩
  replace hp := hp.2
  refine ⟨fun c13 => ?_, fun c13 => ?_⟩
  · rw [if_neg (show ¬ (((m.2 13) (Int32.toNatClampNeg u1)) = (Int32.ofInt (-1))) from c13)] at hq
    replace hp := hp.2 c13
    refine g_blk hz0 kX9_reach_225 ?_
    refine g_le (L2 := [some (.ref 0), none, none, some (.int v3), some (.int v4), some (.int v5), some (.int v6), some (.int (v7 + (Int32.ofInt 1))), none]) ⟨rfl, rfl, rfl, rfl, rfl, rfl, trivial⟩ ?_
    exact hK92 m v3 v4 v5 v6 (v7 + (Int32.ofInt 1)) hp hq
  · rw [if_pos (show ((m.2 13) (Int32.toNatClampNeg u1)) = (Int32.ofInt (-1)) from c13)] at hq
    replace hp := hp.1 c13
    refine g_blk hz0 kX9_reach_170 ?_
    refine ⟨hp.1, ?_⟩
    replace hp := hp.2
    refine cS0 (s_X9_wayX v7) rfl cwX9_wayX dX9_reach_180 rfl ?_
    refine g_blk hz0 kX9_reach_183 ?_
    refine ⟨hp.1, ?_⟩
    replace hp := hp.2
    refine cS0 (s_X9_wayY v7) rfl cwX9_wayY dX9_reach_193 rfl ?_
    refine g_blk hz0 kX9_reach_196 ?_
    refine cVp [0, 1, 2, 3, 4, 5, 6, 7, 8, 9, 10, 11, 12, 13, 14, 15, 16] (wM m) (s_X9_rulerAt m (((m.2 4) (Int32.toNatClampNeg v6)) + (f_X9_wayX v7)) (((m.2 5) (Int32.toNatClampNeg v6)) + (f_X9_wayY v7)) hp.1) rfl cwX9_rulerAt dX9_reach_197 rfl rfl (hm0_M_M _) ?_
    replace hp := hp.2
    refine g_blk hz0 kX9_reach_200 ?_
    refine ⟨fun c14 => ?_, fun c14 => ?_⟩
    · rw [if_neg (show ¬ ((f_X9_rulerAt m (((m.2 4) (Int32.toNatClampNeg v6)) + (f_X9_wayX v7)) (((m.2 5) (Int32.toNatClampNeg v6)) + (f_X9_wayY v7))) = (Int32.ofInt (-1))) from c14)] at hq
      replace hp := hp.2 c14
      refine g_blk hz0 kX9_reach_225 ?_
      refine g_le (L2 := [some (.ref 0), none, none, some (.int v3), some (.int v4), some (.int v5), some (.int v6), some (.int (v7 + (Int32.ofInt 1))), none]) ⟨rfl, rfl, rfl, rfl, rfl, rfl, trivial⟩ ?_
      exact hK92 m v3 v4 v5 v6 (v7 + (Int32.ofInt 1)) hp hq
    · rw [if_pos (show (f_X9_rulerAt m (((m.2 4) (Int32.toNatClampNeg v6)) + (f_X9_wayX v7)) (((m.2 5) (Int32.toNatClampNeg v6)) + (f_X9_wayY v7))) = (Int32.ofInt (-1)) from c14)] at hq
      replace hp := hp.1 c14
      refine g_blk hz0 kX9_reach_204 ?_
      refine ⟨fun c15 => ?_, fun c15 => ?_⟩
      · rw [if_pos (show 0 ≤ v8 from c15)] at hq
        replace hp := hp.1 c15
        refine g_blk hz0 kX9_reach_217 ?_
        refine g_blk hz0 kX9_reach_219 ?_
        refine ⟨hp.1, ?_⟩
        replace hp := hp.2
        refine g_blk hz0 kX9_reach_225 ?_
        refine g_le (L2 := [some (.ref 0), none, none, some (.int v3), some (.int (v4 + (Int32.ofInt 1))), some (.int v5), some (.int v6), some (.int (v7 + (Int32.ofInt 1))), none]) ⟨rfl, rfl, rfl, rfl, rfl, rfl, trivial⟩ ?_
        exact hK92 (setA m 13 (upd (m.2 13) (Int32.toNatClampNeg v8) v5)) v3 (v4 + (Int32.ofInt 1)) v5 v6 (v7 + (Int32.ofInt 1)) hp hq
      · rw [if_neg (show ¬ (0 ≤ v8) from c15)] at hq
        replace hp := hp.2 c15
        refine g_blk hz0 kX9_reach_213 ?_
        refine g_blk hz0 kX9_reach_219 ?_
        refine ⟨vinL (by decide), ?_⟩
        refine g_blk hz0 kX9_reach_225 ?_
        refine g_le (L2 := [some (.ref 0), none, none, some (.int v3), some (.int (v4 + (Int32.ofInt 1))), some (.int v5), some (.int v6), some (.int (v7 + (Int32.ofInt 1))), none]) ⟨rfl, rfl, rfl, rfl, rfl, rfl, trivial⟩ ?_
        exact hK92 (setA m 13 (upd (m.2 13) (Int32.toNatClampNeg (Int32.ofInt 0)) v5)) v3 (v4 + (Int32.ofInt 1)) v5 v6 (v7 + (Int32.ofInt 1)) hp hq
def f_X9_reach_92 (K73 : Rec → Int32 → Int32 → Int32 → Int32 × Rec) (K82 : Rec → Int32 → Int32 → Int32 → Int32 → Int32 × Rec) : Nat → Rec → Int32 → Int32 → Int32 → Int32 → Int32 → Int32 × Rec
  | 0, m, v3, v4, v5, v6, v7 => (0, m)
  | n + 1, m, v3, v4, v5, v6, v7 => if (Int32.ofInt 4) ≤ v7 then (K82 m v3 v4 v5 (v6 + (Int32.ofInt 1))) else (if ((m.2 13) (Int32.toNatClampNeg v6)) = (v5 - (Int32.ofInt 1)) then (if (f_X9_topAt m (((m.2 4) (Int32.toNatClampNeg v6)) + (f_X9_wayX v7)) (((m.2 5) (Int32.toNatClampNeg v6)) + (f_X9_wayY v7))) = (Int32.ofInt (-1)) then (f_X9_reach_92 K73 K82 n m v3 v4 v5 v6 (v7 + (Int32.ofInt 1))) else (if 0 ≤ (f_X9_topAt m (((m.2 4) (Int32.toNatClampNeg v6)) + (f_X9_wayX v7)) (((m.2 5) (Int32.toNatClampNeg v6)) + (f_X9_wayY v7))) then (f_X9_reach_165 K73 K82 (f_X9_reach_92 K73 K82 n) m v3 v4 v5 v6 v7 (f_X9_topAt m (((m.2 4) (Int32.toNatClampNeg v6)) + (f_X9_wayX v7)) (((m.2 5) (Int32.toNatClampNeg v6)) + (f_X9_wayY v7))) (f_X9_topAt m (((m.2 4) (Int32.toNatClampNeg v6)) + (f_X9_wayX v7)) (((m.2 5) (Int32.toNatClampNeg v6)) + (f_X9_wayY v7)))) else (f_X9_reach_165 K73 K82 (f_X9_reach_92 K73 K82 n) m v3 v4 v5 v6 v7 (f_X9_topAt m (((m.2 4) (Int32.toNatClampNeg v6)) + (f_X9_wayX v7)) (((m.2 5) (Int32.toNatClampNeg v6)) + (f_X9_wayY v7))) ((Int32.ofInt 0))))) else (K82 m v3 v4 v5 (v6 + (Int32.ofInt 1))))
def p_X9_reach_92 (G73 : Rec → Int32 → Int32 → Int32 → Prop) (G82 : Rec → Int32 → Int32 → Int32 → Int32 → Prop) : Nat → Rec → Int32 → Int32 → Int32 → Int32 → Int32 → Prop
  | 0, _, _, _, _, _, _ => False
  | n + 1, m, v3, v4, v5, v6, v7 => ((Int32.ofInt 4) ≤ v7 → (G82 m v3 v4 v5 (v6 + (Int32.ofInt 1)))) ∧ (¬ ((Int32.ofInt 4) ≤ v7) → (vp_in v6 36 ∧ ((((m.2 13) (Int32.toNatClampNeg v6)) = (v5 - (Int32.ofInt 1)) → (vp_in v6 36 ∧ (vp_in v6 36 ∧ ((p_X9_topAt m (((m.2 4) (Int32.toNatClampNeg v6)) + (f_X9_wayX v7)) (((m.2 5) (Int32.toNatClampNeg v6)) + (f_X9_wayY v7))) ∧ (((f_X9_topAt m (((m.2 4) (Int32.toNatClampNeg v6)) + (f_X9_wayX v7)) (((m.2 5) (Int32.toNatClampNeg v6)) + (f_X9_wayY v7))) = (Int32.ofInt (-1)) → (p_X9_reach_92 G73 G82 n m v3 v4 v5 v6 (v7 + (Int32.ofInt 1)))) ∧ (¬ ((f_X9_topAt m (((m.2 4) (Int32.toNatClampNeg v6)) + (f_X9_wayX v7)) (((m.2 5) (Int32.toNatClampNeg v6)) + (f_X9_wayY v7))) = (Int32.ofInt (-1))) → ((0 ≤ (f_X9_topAt m (((m.2 4) (Int32.toNatClampNeg v6)) + (f_X9_wayX v7)) (((m.2 5) (Int32.toNatClampNeg v6)) + (f_X9_wayY v7))) → (p_X9_reach_165 G73 G82 (p_X9_reach_92 G73 G82 n) m v3 v4 v5 v6 v7 (f_X9_topAt m (((m.2 4) (Int32.toNatClampNeg v6)) + (f_X9_wayX v7)) (((m.2 5) (Int32.toNatClampNeg v6)) + (f_X9_wayY v7))) (f_X9_topAt m (((m.2 4) (Int32.toNatClampNeg v6)) + (f_X9_wayX v7)) (((m.2 5) (Int32.toNatClampNeg v6)) + (f_X9_wayY v7))))) ∧ (¬ (0 ≤ (f_X9_topAt m (((m.2 4) (Int32.toNatClampNeg v6)) + (f_X9_wayX v7)) (((m.2 5) (Int32.toNatClampNeg v6)) + (f_X9_wayY v7)))) → (p_X9_reach_165 G73 G82 (p_X9_reach_92 G73 G82 n) m v3 v4 v5 v6 v7 (f_X9_topAt m (((m.2 4) (Int32.toNatClampNeg v6)) + (f_X9_wayX v7)) (((m.2 5) (Int32.toNatClampNeg v6)) + (f_X9_wayY v7))) ((Int32.ofInt 0))))))))))) ∧ (¬ (((m.2 13) (Int32.toNatClampNeg v6)) = (v5 - (Int32.ofInt 1))) → (G82 m v3 v4 v5 (v6 + (Int32.ofInt 1)))))))
set_option maxHeartbeats 16000000 in
set_option maxRecDepth 20000 in
theorem l_X9_reach_92 (sc : SC)  {K73 : Rec → Int32 → Int32 → Int32 → Int32 × Rec} {G73 : Rec → Int32 → Int32 → Int32 → Prop} {K82 : Rec → Int32 → Int32 → Int32 → Int32 → Int32 × Rec} {G82 : Rec → Int32 → Int32 → Int32 → Int32 → Prop} (zq : Int32 × Rec) (hK73 : ∀ (m : Rec) (v3 : Int32) (v4 : Int32) (v5 : Int32), G73 m v3 v4 v5 → zq = K73 m v3 v4 v5 → Good sc 4 0 0 17 mX9_reach (Ret (some (.int (zq.1))) (wM (zq.2))) 0 0 73 [some (.ref 0), none, none, some (.int v3), some (.int v4), some (.int v5), none, none, none] [] (wM m)) (hK82 : ∀ (m : Rec) (v3 : Int32) (v4 : Int32) (v5 : Int32) (v6 : Int32), G82 m v3 v4 v5 v6 → zq = K82 m v3 v4 v5 v6 → Good sc 4 0 0 17 mX9_reach (Ret (some (.int (zq.1))) (wM (zq.2))) 0 0 82 [some (.ref 0), none, none, some (.int v3), some (.int v4), some (.int v5), some (.int v6), none, none] [] (wM m)) : ∀ (n : Nat) (m : Rec) (v3 : Int32) (v4 : Int32) (v5 : Int32) (v6 : Int32) (v7 : Int32), p_X9_reach_92 G73 G82 n m v3 v4 v5 v6 v7 → zq = f_X9_reach_92 K73 K82 n m v3 v4 v5 v6 v7 → Good sc 4 0 0 17 mX9_reach (Ret (some (.int (zq.1))) (wM (zq.2))) 0 0 92 [some (.ref 0), none, none, some (.int v3), some (.int v4), some (.int v5), some (.int v6), some (.int v7), none] [] (wM m) := by
  intro n
  induction n with
  | zero => intro m v3 v4 v5 v6 v7 hp; exact hp.elim
  | succ n ih =>
    intro m v3 v4 v5 v6 v7 hp hq
    unfold p_X9_reach_92 at hp
    unfold f_X9_reach_92 at hq
    refine g_blk hz0 kX9_reach_92 ?_
    refine ⟨fun c9 => ?_, fun c9 => ?_⟩
    · rw [if_pos (show (Int32.ofInt 4) ≤ v7 from c9)] at hq
      replace hp := hp.1 c9
      refine g_blk hz0 kX9_reach_231 ?_
      refine g_le (L2 := [some (.ref 0), none, none, some (.int v3), some (.int v4), some (.int v5), some (.int (v6 + (Int32.ofInt 1))), none, none]) ⟨rfl, rfl, rfl, rfl, rfl, trivial⟩ ?_
      exact hK82 m v3 v4 v5 (v6 + (Int32.ofInt 1)) hp hq
    · rw [if_neg (show ¬ ((Int32.ofInt 4) ≤ v7) from c9)] at hq
      replace hp := hp.2 c9
      refine g_blk hz0 kX9_reach_98 ?_
      refine ⟨hp.1, ?_⟩
      replace hp := hp.2
      refine ⟨fun c10 => ?_, fun c10 => ?_⟩
      · rw [if_neg (show ¬ (((m.2 13) (Int32.toNatClampNeg v6)) = (v5 - (Int32.ofInt 1))) from c10)] at hq
        replace hp := hp.2 c10
        refine g_blk hz0 kX9_reach_231 ?_
        refine g_le (L2 := [some (.ref 0), none, none, some (.int v3), some (.int v4), some (.int v5), some (.int (v6 + (Int32.ofInt 1))), none, none]) ⟨rfl, rfl, rfl, rfl, rfl, trivial⟩ ?_
        exact hK82 m v3 v4 v5 (v6 + (Int32.ofInt 1)) hp hq
      · rw [if_pos (show ((m.2 13) (Int32.toNatClampNeg v6)) = (v5 - (Int32.ofInt 1)) from c10)] at hq
        replace hp := hp.1 c10
        refine g_blk hz0 kX9_reach_112 ?_
        refine ⟨hp.1, ?_⟩
        replace hp := hp.2
        refine cS0 (s_X9_wayX v7) rfl cwX9_wayX dX9_reach_122 rfl ?_
        refine g_blk hz0 kX9_reach_125 ?_
        refine ⟨hp.1, ?_⟩
        replace hp := hp.2
        refine cS0 (s_X9_wayY v7) rfl cwX9_wayY dX9_reach_135 rfl ?_
        refine g_blk hz0 kX9_reach_138 ?_
        refine cVp [0, 1, 2, 3, 4, 5, 6, 7, 8, 9, 10, 11, 12, 13, 14, 15, 16] (wM m) (s_X9_topAt m (((m.2 4) (Int32.toNatClampNeg v6)) + (f_X9_wayX v7)) (((m.2 5) (Int32.toNatClampNeg v6)) + (f_X9_wayY v7)) hp.1) rfl cwX9_topAt dX9_reach_139 rfl rfl (hm0_M_M _) ?_
        replace hp := hp.2
        refine g_blk hz0 kX9_reach_142 ?_
        refine ⟨fun c11 => ?_, fun c11 => ?_⟩
        · rw [if_pos (show (f_X9_topAt m (((m.2 4) (Int32.toNatClampNeg v6)) + (f_X9_wayX v7)) (((m.2 5) (Int32.toNatClampNeg v6)) + (f_X9_wayY v7))) = (Int32.ofInt (-1)) from c11)] at hq
          replace hp := hp.1 c11
          refine g_blk hz0 kX9_reach_225 ?_
          refine g_le (L2 := [some (.ref 0), none, none, some (.int v3), some (.int v4), some (.int v5), some (.int v6), some (.int (v7 + (Int32.ofInt 1))), none]) ⟨rfl, rfl, rfl, rfl, rfl, rfl, trivial⟩ ?_
          exact ih m v3 v4 v5 v6 (v7 + (Int32.ofInt 1)) hp hq
        · rw [if_neg (show ¬ ((f_X9_topAt m (((m.2 4) (Int32.toNatClampNeg v6)) + (f_X9_wayX v7)) (((m.2 5) (Int32.toNatClampNeg v6)) + (f_X9_wayY v7))) = (Int32.ofInt (-1))) from c11)] at hq
          replace hp := hp.2 c11
          refine g_blk hz0 kX9_reach_150 ?_
          refine ⟨fun c12 => ?_, fun c12 => ?_⟩
          · rw [if_pos (show 0 ≤ (f_X9_topAt m (((m.2 4) (Int32.toNatClampNeg v6)) + (f_X9_wayX v7)) (((m.2 5) (Int32.toNatClampNeg v6)) + (f_X9_wayY v7))) from c12)] at hq
            replace hp := hp.1 c12
            refine g_blk hz0 kX9_reach_163 ?_
            refine g_le (L2 := [some (.ref 0), none, none, some (.int v3), some (.int v4), some (.int v5), some (.int v6), some (.int v7), some (.int (f_X9_topAt m (((m.2 4) (Int32.toNatClampNeg v6)) + (f_X9_wayX v7)) (((m.2 5) (Int32.toNatClampNeg v6)) + (f_X9_wayY v7))))]) ⟨rfl, rfl, rfl, rfl, rfl, rfl, rfl, trivial⟩ ?_
            exact l_X9_reach_165 sc zq hK73 hK82 (fun r0 r1 r2 r3 r4 r5 hp hq => ih r0 r1 r2 r3 r4 r5 hp hq) m v3 v4 v5 v6 v7 (f_X9_topAt m (((m.2 4) (Int32.toNatClampNeg v6)) + (f_X9_wayX v7)) (((m.2 5) (Int32.toNatClampNeg v6)) + (f_X9_wayY v7))) (f_X9_topAt m (((m.2 4) (Int32.toNatClampNeg v6)) + (f_X9_wayX v7)) (((m.2 5) (Int32.toNatClampNeg v6)) + (f_X9_wayY v7))) hp hq
          · rw [if_neg (show ¬ (0 ≤ (f_X9_topAt m (((m.2 4) (Int32.toNatClampNeg v6)) + (f_X9_wayX v7)) (((m.2 5) (Int32.toNatClampNeg v6)) + (f_X9_wayY v7)))) from c12)] at hq
            replace hp := hp.2 c12
            refine g_blk hz0 kX9_reach_159 ?_
            refine g_le (L2 := [some (.ref 0), none, none, some (.int v3), some (.int v4), some (.int v5), some (.int v6), some (.int v7), some (.int (f_X9_topAt m (((m.2 4) (Int32.toNatClampNeg v6)) + (f_X9_wayX v7)) (((m.2 5) (Int32.toNatClampNeg v6)) + (f_X9_wayY v7))))]) ⟨rfl, rfl, rfl, rfl, rfl, rfl, rfl, trivial⟩ ?_
            exact l_X9_reach_165 sc zq hK73 hK82 (fun r0 r1 r2 r3 r4 r5 hp hq => ih r0 r1 r2 r3 r4 r5 hp hq) m v3 v4 v5 v6 v7 (f_X9_topAt m (((m.2 4) (Int32.toNatClampNeg v6)) + (f_X9_wayX v7)) (((m.2 5) (Int32.toNatClampNeg v6)) + (f_X9_wayY v7))) ((Int32.ofInt 0)) hp hq
def f_X9_reach_82 (K73 : Rec → Int32 → Int32 → Int32 → Int32 × Rec) : Nat → Rec → Int32 → Int32 → Int32 → Int32 → Int32 × Rec
  | 0, m, v3, v4, v5, v6 => (0, m)
  | n + 1, m, v3, v4, v5, v6 => if (Int32.ofInt 36) ≤ v6 then (K73 m v3 v4 (v5 + (Int32.ofInt 1))) else (f_X9_reach_92 K73 (f_X9_reach_82 K73 n) 40 m v3 v4 v5 v6 ((Int32.ofInt 0)))
def p_X9_reach_82 (G73 : Rec → Int32 → Int32 → Int32 → Prop) : Nat → Rec → Int32 → Int32 → Int32 → Int32 → Prop
  | 0, _, _, _, _, _ => False
  | n + 1, m, v3, v4, v5, v6 => ((Int32.ofInt 36) ≤ v6 → (G73 m v3 v4 (v5 + (Int32.ofInt 1)))) ∧ (¬ ((Int32.ofInt 36) ≤ v6) → (p_X9_reach_92 G73 (p_X9_reach_82 G73 n) 40 m v3 v4 v5 v6 ((Int32.ofInt 0))))
set_option maxHeartbeats 16000000 in
set_option maxRecDepth 20000 in
theorem l_X9_reach_82 (sc : SC)  {K73 : Rec → Int32 → Int32 → Int32 → Int32 × Rec} {G73 : Rec → Int32 → Int32 → Int32 → Prop} (zq : Int32 × Rec) (hK73 : ∀ (m : Rec) (v3 : Int32) (v4 : Int32) (v5 : Int32), G73 m v3 v4 v5 → zq = K73 m v3 v4 v5 → Good sc 4 0 0 17 mX9_reach (Ret (some (.int (zq.1))) (wM (zq.2))) 0 0 73 [some (.ref 0), none, none, some (.int v3), some (.int v4), some (.int v5), none, none, none] [] (wM m)) : ∀ (n : Nat) (m : Rec) (v3 : Int32) (v4 : Int32) (v5 : Int32) (v6 : Int32), p_X9_reach_82 G73 n m v3 v4 v5 v6 → zq = f_X9_reach_82 K73 n m v3 v4 v5 v6 → Good sc 4 0 0 17 mX9_reach (Ret (some (.int (zq.1))) (wM (zq.2))) 0 0 82 [some (.ref 0), none, none, some (.int v3), some (.int v4), some (.int v5), some (.int v6), none, none] [] (wM m) := by
  intro n
  induction n with
  | zero => intro m v3 v4 v5 v6 hp; exact hp.elim
  | succ n ih =>
    intro m v3 v4 v5 v6 hp hq
    unfold p_X9_reach_82 at hp
    unfold f_X9_reach_82 at hq
    refine g_blk hz0 kX9_reach_82 ?_
    refine ⟨fun c8 => ?_, fun c8 => ?_⟩
    · rw [if_pos (show (Int32.ofInt 36) ≤ v6 from c8)] at hq
      replace hp := hp.1 c8
      refine g_blk hz0 kX9_reach_237 ?_
      refine g_le (L2 := [some (.ref 0), none, none, some (.int v3), some (.int v4), some (.int (v5 + (Int32.ofInt 1))), none, none, none]) ⟨rfl, rfl, rfl, rfl, trivial⟩ ?_
      exact hK73 m v3 v4 (v5 + (Int32.ofInt 1)) hp hq
    · rw [if_neg (show ¬ ((Int32.ofInt 36) ≤ v6) from c8)] at hq
      replace hp := hp.2 c8
      refine g_blk hz0 kX9_reach_89 ?_
      refine g_le (L2 := [some (.ref 0), none, none, some (.int v3), some (.int v4), some (.int v5), some (.int v6), some (.int (Int32.ofInt 0)), none]) ⟨rfl, rfl, rfl, rfl, rfl, rfl, trivial⟩ ?_
      exact l_X9_reach_92 sc zq hK73 (fun r0 r1 r2 r3 r4 hp hq => ih r0 r1 r2 r3 r4 hp hq) 40 m v3 v4 v5 v6 ((Int32.ofInt 0)) hp hq
def f_X9_reach_73  : Nat → Rec → Int32 → Int32 → Int32 → Int32 × Rec
  | 0, m, v3, v4, v5 => (0, m)
  | n + 1, m, v3, v4, v5 => if v3 < v5 then (v4, m) else (f_X9_reach_82 (f_X9_reach_73 n) 40 m v3 v4 v5 ((Int32.ofInt 0)))
def p_X9_reach_73  : Nat → Rec → Int32 → Int32 → Int32 → Prop
  | 0, _, _, _, _ => False
  | n + 1, m, v3, v4, v5 => (v3 < v5 → True) ∧ (¬ (v3 < v5) → (p_X9_reach_82 (p_X9_reach_73 n) 40 m v3 v4 v5 ((Int32.ofInt 0))))
set_option maxHeartbeats 16000000 in
set_option maxRecDepth 20000 in
theorem l_X9_reach_73 (sc : SC)   (zq : Int32 × Rec)  : ∀ (n : Nat) (m : Rec) (v3 : Int32) (v4 : Int32) (v5 : Int32), p_X9_reach_73 n m v3 v4 v5 → zq = f_X9_reach_73 n m v3 v4 v5 → Good sc 4 0 0 17 mX9_reach (Ret (some (.int (zq.1))) (wM (zq.2))) 0 0 73 [some (.ref 0), none, none, some (.int v3), some (.int v4), some (.int v5), none, none, none] [] (wM m) := by
  intro n
  induction n with
  | zero => intro m v3 v4 v5 hp; exact hp.elim
  | succ n ih =>
    intro m v3 v4 v5 hp hq
    unfold p_X9_reach_73 at hp
    unfold f_X9_reach_73 at hq
    refine g_blk hz0 kX9_reach_73 ?_
    refine ⟨fun c7 => ?_, fun c7 => ?_⟩
    · rw [if_pos (show v3 < v5 from c7)] at hq
      refine g_blk hz0 kX9_reach_243 ?_
      subst hq
      exact ⟨fun h => (by cases h), rfl, rfl⟩
    · rw [if_neg (show ¬ (v3 < v5) from c7)] at hq
      replace hp := hp.2 c7
      refine g_blk hz0 kX9_reach_79 ?_
      refine g_le (L2 := [some (.ref 0), none, none, some (.int v3), some (.int v4), some (.int v5), some (.int (Int32.ofInt 0)), none, none]) ⟨rfl, rfl, rfl, rfl, rfl, trivial⟩ ?_
      exact l_X9_reach_82 sc zq (fun r0 r1 r2 r3 hp hq => ih r0 r1 r2 r3 hp hq) 40 m v3 v4 v5 ((Int32.ofInt 0)) hp hq
def f_X9_reach_34  : Nat → Rec → Int32 → Int32 → Int32 → Int32 → Int32 × Rec
  | 0, m, v1, v2, v3, v4 => (0, m)
  | n + 1, m, v1, v2, v3, v4 => if (Int32.ofInt 36) ≤ v4 then (f_X9_reach_73 40 (setA m 13 (upd (m.2 13) (Int32.toNatClampNeg (f_X9_topAt m v1 v2)) (Int32.ofInt 0))) v3 ((Int32.ofInt 1)) ((Int32.ofInt 1))) else (f_X9_reach_34 n (setA m 13 (upd (m.2 13) (Int32.toNatClampNeg v4) (Int32.ofInt (-1)))) v1 v2 v3 (v4 + (Int32.ofInt 1)))
def p_X9_reach_34  : Nat → Rec → Int32 → Int32 → Int32 → Int32 → Prop
  | 0, _, _, _, _, _ => False
  | n + 1, m, v1, v2, v3, v4 => ((Int32.ofInt 36) ≤ v4 → ((p_X9_topAt m v1 v2) ∧ (vp_in (f_X9_topAt m v1 v2) 36 ∧ (p_X9_reach_73 40 (setA m 13 (upd (m.2 13) (Int32.toNatClampNeg (f_X9_topAt m v1 v2)) (Int32.ofInt 0))) v3 ((Int32.ofInt 1)) ((Int32.ofInt 1)))))) ∧ (¬ ((Int32.ofInt 36) ≤ v4) → (vp_in v4 36 ∧ (p_X9_reach_34 n (setA m 13 (upd (m.2 13) (Int32.toNatClampNeg v4) (Int32.ofInt (-1)))) v1 v2 v3 (v4 + (Int32.ofInt 1)))))
set_option maxHeartbeats 16000000 in
set_option maxRecDepth 20000 in
theorem l_X9_reach_34 (sc : SC)   (zq : Int32 × Rec)  : ∀ (n : Nat) (m : Rec) (v1 : Int32) (v2 : Int32) (v3 : Int32) (v4 : Int32), p_X9_reach_34 n m v1 v2 v3 v4 → zq = f_X9_reach_34 n m v1 v2 v3 v4 → Good sc 4 0 0 17 mX9_reach (Ret (some (.int (zq.1))) (wM (zq.2))) 0 0 34 [some (.ref 0), some (.int v1), some (.int v2), some (.int v3), some (.int v4), none, none, none, none] [] (wM m) := by
  intro n
  induction n with
  | zero => intro m v1 v2 v3 v4 hp; exact hp.elim
  | succ n ih =>
    intro m v1 v2 v3 v4 hp hq
    unfold p_X9_reach_34 at hp
    unfold f_X9_reach_34 at hq
    refine g_blk hz0 kX9_reach_34 ?_
    refine ⟨fun c6 => ?_, fun c6 => ?_⟩
    · rw [if_pos (show (Int32.ofInt 36) ≤ v4 from c6)] at hq
      replace hp := hp.1 c6
      refine g_blk hz0 kX9_reach_55 ?_
      refine cVp [0, 1, 2, 3, 4, 5, 6, 7, 8, 9, 10, 11, 12, 13, 14, 15, 16] (wM m) (s_X9_topAt m v1 v2 hp.1) rfl cwX9_topAt dX9_reach_62 rfl rfl (hm0_M_M _) ?_
      replace hp := hp.2
      refine g_blk hz0 kX9_reach_65 ?_
      refine ⟨hp.1, ?_⟩
      replace hp := hp.2
      refine g_le (L2 := [some (.ref 0), none, none, some (.int v3), some (.int (Int32.ofInt 1)), some (.int (Int32.ofInt 1)), none, none, none]) ⟨rfl, rfl, rfl, rfl, trivial⟩ ?_
      exact l_X9_reach_73 sc zq 40 (setA m 13 (upd (m.2 13) (Int32.toNatClampNeg (f_X9_topAt m v1 v2)) (Int32.ofInt 0))) v3 ((Int32.ofInt 1)) ((Int32.ofInt 1)) hp hq
    · rw [if_neg (show ¬ ((Int32.ofInt 36) ≤ v4) from c6)] at hq
      replace hp := hp.2 c6
      refine g_blk hz0 kX9_reach_41 ?_
      refine ⟨hp.1, ?_⟩
      replace hp := hp.2
      refine g_le (L2 := [some (.ref 0), some (.int v1), some (.int v2), some (.int v3), some (.int (v4 + (Int32.ofInt 1))), none, none, none, none]) ⟨rfl, rfl, rfl, rfl, rfl, trivial⟩ ?_
      exact ih (setA m 13 (upd (m.2 13) (Int32.toNatClampNeg v4) (Int32.ofInt (-1)))) v1 v2 v3 (v4 + (Int32.ofInt 1)) hp hq
def f_X9_reach (m : Rec) (x : Int32) (y : Int32) (n : Int32) : Int32 × Rec := if (f_X9_rulerAt (f_X9_lays m) x y) = (Int32.ofInt (-1)) then (((f_X9_bad (f_X9_lays m)).1), ((f_X9_bad (f_X9_lays m)).2)) else (if (f_X9_in (Int32.toInt64 n) ((Int64.ofNat 0)) 9) = 0 then (((f_X9_bad (f_X9_lays m)).1), ((f_X9_bad (f_X9_lays m)).2)) else (f_X9_reach_34 40 (f_X9_lays m) x y n ((Int32.ofInt 0))))
def p_X9_reach (m : Rec) (x : Int32) (y : Int32) (n : Int32) : Prop := (p_X9_lays m) ∧ ((p_X9_rulerAt (f_X9_lays m) x y) ∧ (((f_X9_rulerAt (f_X9_lays m) x y) = (Int32.ofInt (-1)) → ((p_X9_bad (f_X9_lays m)) ∧ True)) ∧ (¬ ((f_X9_rulerAt (f_X9_lays m) x y) = (Int32.ofInt (-1))) → (((f_X9_in (Int32.toInt64 n) ((Int64.ofNat 0)) 9) = 0 → ((p_X9_bad (f_X9_lays m)) ∧ True)) ∧ (¬ ((f_X9_in (Int32.toInt64 n) ((Int64.ofNat 0)) 9) = 0) → (p_X9_reach_34 40 (f_X9_lays m) x y n ((Int32.ofInt 0))))))))
set_option maxHeartbeats 16000000 in
set_option maxRecDepth 20000 in
theorem s_X9_reach (m : Rec) (x : Int32) (y : Int32) (n : Int32) (hp : p_X9_reach m x y n) : Spec 4 0 0 mX9_reach [.ref 0, .int x, .int y, .int n] (wM m) (Ret (some (.int ((f_X9_reach m x y n).1))) (wM ((f_X9_reach m x y n).2))) := by
  obtain ⟨zq, hq⟩ : ∃ z, z = (f_X9_reach m x y n) := ⟨_, rfl⟩
  rw [← hq]
  unfold f_X9_reach at hq
  unfold p_X9_reach at hp
  refine Sof fun sc => ?_
  refine g_blk hz0 kX9_reach_0 ?_
  refine cV [0, 1, 2, 3, 4, 5, 6, 7, 8, 9, 10, 11, 12, 13, 14, 15, 16] (wM m) (s_X9_lays m hp.1) rfl cwX9_lays dX9_reach_1 rfl rfl (hm0_M_M _) ((len_M _).trans (len_M _).symm) (wM (f_X9_lays m)) (pw0_M_M _ _) ?_
  replace hp := hp.2
  obtain ⟨g1, hg1⟩ : ∃ z, z = (f_X9_lays m) := ⟨_, rfl⟩
  try rw [← hg1] at hp
  try rw [← hg1] at hq
  rw [← hg1]
  refine g_blk hz0 kX9_reach_4 ?_
  refine cVp [0, 1, 2, 3, 4, 5, 6, 7, 8, 9, 10, 11, 12, 13, 14, 15, 16] (wM g1) (s_X9_rulerAt g1 x y hp.1) rfl cwX9_rulerAt dX9_reach_7 rfl rfl (hm0_M_M _) ?_
  replace hp := hp.2
  refine g_blk hz0 kX9_reach_10 ?_
  refine ⟨fun c2 => ?_, fun c2 => ?_⟩
  · rw [if_pos (show (f_X9_rulerAt g1 x y) = (Int32.ofInt (-1)) from c2)] at hq
    replace hp := hp.1 c2
    refine g_blk hz0 kX9_reach_26 ?_
    refine cV [0, 1, 2, 3, 4, 5, 6, 7, 8, 9, 10, 11, 12, 13, 14, 15, 16] (wM g1) (s_X9_bad g1 hp.1) rfl cwX9_bad dX9_reach_27 rfl rfl (hm0_M_M _) ((len_M _).trans (len_M _).symm) (wM ((f_X9_bad g1).2)) (pw0_M_M _ _) ?_
    replace hp := hp.2
    obtain ⟨g3, hg3⟩ : ∃ z, z = (f_X9_bad g1) := ⟨_, rfl⟩
    try rw [← hg3] at hp
    try rw [← hg3] at hq
    rw [← hg3]
    refine g_blk hz0 kX9_reach_30 ?_
    subst hq
    exact ⟨fun h => (by cases h), rfl, rfl⟩
  · rw [if_neg (show ¬ ((f_X9_rulerAt g1 x y) = (Int32.ofInt (-1))) from c2)] at hq
    replace hp := hp.2 c2
    refine g_blk hz0 kX9_reach_14 ?_
    refine cS0 (s_X9_in (Int32.toInt64 n) ((Int64.ofNat 0)) 9) rfl cwX9_in dX9_reach_20 rfl ?_
    refine g_blk hz0 kX9_reach_23 ?_
    refine ⟨fun c4 => ?_, fun c4 => ?_⟩
    · rw [if_neg (show ¬ ((f_X9_in (Int32.toInt64 n) ((Int64.ofNat 0)) 9) = 0) from c4)] at hq
      replace hp := hp.2 c4
      refine g_blk hz0 kX9_reach_31 ?_
      refine g_le (L2 := [some (.ref 0), some (.int x), some (.int y), some (.int n), some (.int (Int32.ofInt 0)), none, none, none, none]) ⟨rfl, rfl, rfl, rfl, rfl, trivial⟩ ?_
      exact l_X9_reach_34 sc zq 40 g1 x y n ((Int32.ofInt 0)) hp hq
    · rw [if_pos (show (f_X9_in (Int32.toInt64 n) ((Int64.ofNat 0)) 9) = 0 from c4)] at hq
      replace hp := hp.1 c4
      refine g_blk hz0 kX9_reach_26 ?_
      refine cV [0, 1, 2, 3, 4, 5, 6, 7, 8, 9, 10, 11, 12, 13, 14, 15, 16] (wM g1) (s_X9_bad g1 hp.1) rfl cwX9_bad dX9_reach_27 rfl rfl (hm0_M_M _) ((len_M _).trans (len_M _).symm) (wM ((f_X9_bad g1).2)) (pw0_M_M _ _) ?_
      replace hp := hp.2
      obtain ⟨g5, hg5⟩ : ∃ z, z = (f_X9_bad g1) := ⟨_, rfl⟩
      try rw [← hg5] at hp
      try rw [← hg5] at hq
      rw [← hg5]
      refine g_blk hz0 kX9_reach_30 ?_
      subst hq
      exact ⟨fun h => (by cases h), rfl, rfl⟩
