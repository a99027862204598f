def f_X9_steps_230  (m : Rec) (v5 : Int32) (v11 : Int32) : Int32 × Rec := if (((upd (upd (m.2 0) (Int32.toNatClampNeg (8 + v5)) v11) 26 (((upd (m.2 0) (Int32.toNatClampNeg (8 + v5)) v11) 26) + 1)) 26) - ((upd (upd (m.2 0) (Int32.toNatClampNeg (8 + v5)) v11) 26 (((upd (m.2 0) (Int32.toNatClampNeg (8 + v5)) v11) 26) + 1)) 26) / ((upd (upd (m.2 0) (Int32.toNatClampNeg (8 + v5)) v11) 26 (((upd (m.2 0) (Int32.toNatClampNeg (8 + v5)) v11) 26) + 1)) 4) * ((upd (upd (m.2 0) (Int32.toNatClampNeg (8 + v5)) v11) 26 (((upd (m.2 0) (Int32.toNatClampNeg (8 + v5)) v11) 26) + 1)) 4)) = 0 then (if ((((upd (upd (m.2 0) (Int32.toNatClampNeg (8 + v5)) v11) 26 (((upd (m.2 0) (Int32.toNatClampNeg (8 + v5)) v11) 26) + 1)) 26) / ((upd (upd (m.2 0) (Int32.toNatClampNeg (8 + v5)) v11) 26 (((upd (m.2 0) (Int32.toNatClampNeg (8 + v5)) v11) 26) + 1)) 4)) - (((upd (upd (m.2 0) (Int32.toNatClampNeg (8 + v5)) v11) 26 (((upd (m.2 0) (Int32.toNatClampNeg (8 + v5)) v11) 26) + 1)) 26) / ((upd (upd (m.2 0) (Int32.toNatClampNeg (8 + v5)) v11) 26 (((upd (m.2 0) (Int32.toNatClampNeg (8 + v5)) v11) 26) + 1)) 4)) / 2 * 2) = 1 then (if (3 - ((upd (upd (m.2 0) (Int32.toNatClampNeg (8 + v5)) v11) 26 (((upd (m.2 0) (Int32.toNatClampNeg (8 + v5)) v11) 26) + 1)) 16)) ≤ ((upd (upd (m.2 0) (Int32.toNatClampNeg (8 + v5)) v11) 26 (((upd (m.2 0) (Int32.toNatClampNeg (8 + v5)) v11) 26) + 1)) 5) then (if (f_X9_anyFold (setA m 0 (upd (upd (upd (m.2 0) (Int32.toNatClampNeg (8 + v5)) v11) 26 (((upd (m.2 0) (Int32.toNatClampNeg (8 + v5)) v11) 26) + 1)) 27 (3 - ((upd (upd (m.2 0) (Int32.toNatClampNeg (8 + v5)) v11) 26 (((upd (m.2 0) (Int32.toNatClampNeg (8 + v5)) v11) 26) + 1)) 16))))) = 0 then (1, (setA m 0 (upd (upd (upd (upd (m.2 0) (Int32.toNatClampNeg (8 + v5)) v11) 26 (((upd (m.2 0) (Int32.toNatClampNeg (8 + v5)) v11) 26) + 1)) 27 (3 - ((upd (upd (m.2 0) (Int32.toNatClampNeg (8 + v5)) v11) 26 (((upd (m.2 0) (Int32.toNatClampNeg (8 + v5)) v11) 26) + 1)) 16))) 27 0))) else (1, (setA m 0 (upd (upd (upd (upd (m.2 0) (Int32.toNatClampNeg (8 + v5)) v11) 26 (((upd (m.2 0) (Int32.toNatClampNeg (8 + v5)) v11) 26) + 1)) 27 (3 - ((upd (upd (m.2 0) (Int32.toNatClampNeg (8 + v5)) v11) 26 (((upd (m.2 0) (Int32.toNatClampNeg (8 + v5)) v11) 26) + 1)) 16))) 27 ((upd (upd (upd (m.2 0) (Int32.toNatClampNeg (8 + v5)) v11) 26 (((upd (m.2 0) (Int32.toNatClampNeg (8 + v5)) v11) 26) + 1)) 27 (3 - ((upd (upd (m.2 0) (Int32.toNatClampNeg (8 + v5)) v11) 26 (((upd (m.2 0) (Int32.toNatClampNeg (8 + v5)) v11) 26) + 1)) 16))) 27))))) else (if (f_X9_anyFold (setA m 0 (upd (upd (upd (m.2 0) (Int32.toNatClampNeg (8 + v5)) v11) 26 (((upd (m.2 0) (Int32.toNatClampNeg (8 + v5)) v11) 26) + 1)) 27 ((upd (upd (m.2 0) (Int32.toNatClampNeg (8 + v5)) v11) 26 (((upd (m.2 0) (Int32.toNatClampNeg (8 + v5)) v11) 26) + 1)) 5)))) = 0 then (1, (setA m 0 (upd (upd (upd (upd (m.2 0) (Int32.toNatClampNeg (8 + v5)) v11) 26 (((upd (m.2 0) (Int32.toNatClampNeg (8 + v5)) v11) 26) + 1)) 27 ((upd (upd (m.2 0) (Int32.toNatClampNeg (8 + v5)) v11) 26 (((upd (m.2 0) (Int32.toNatClampNeg (8 + v5)) v11) 26) + 1)) 5)) 27 0))) else (1, (setA m 0 (upd (upd (upd (upd (m.2 0) (Int32.toNatClampNeg (8 + v5)) v11) 26 (((upd (m.2 0) (Int32.toNatClampNeg (8 + v5)) v11) 26) + 1)) 27 ((upd (upd (m.2 0) (Int32.toNatClampNeg (8 + v5)) v11) 26 (((upd (m.2 0) (Int32.toNatClampNeg (8 + v5)) v11) 26) + 1)) 5)) 27 ((upd (upd (upd (m.2 0) (Int32.toNatClampNeg (8 + v5)) v11) 26 (((upd (m.2 0) (Int32.toNatClampNeg (8 + v5)) v11) 26) + 1)) 27 ((upd (upd (m.2 0) (Int32.toNatClampNeg (8 + v5)) v11) 26 (((upd (m.2 0) (Int32.toNatClampNeg (8 + v5)) v11) 26) + 1)) 5)) 27)))))) else (1, (f_X9_lays (setA m 0 (upd (upd (upd (m.2 0) (Int32.toNatClampNeg (8 + v5)) v11) 26 (((upd (m.2 0) (Int32.toNatClampNeg (8 + v5)) v11) 26) + 1)) 16 0))))) else (1, (setA m 0 (upd (upd (m.2 0) (Int32.toNatClampNeg (8 + v5)) v11) 26 (((upd (m.2 0) (Int32.toNatClampNeg (8 + v5)) v11) 26) + 1))))
def p_X9_steps_230  (m : Rec) (v5 : Int32) (v11 : Int32) : Prop := vp_in (8 + v5) 248 ∧ ((¬ ((upd (upd (m.2 0) (Int32.toNatClampNeg (8 + v5)) v11) 26 (((upd (m.2 0) (Int32.toNatClampNeg (8 + v5)) v11) 26) + 1)) 4) = 0) ∧ (((((upd (upd (m.2 0) (Int32.toNatClampNeg (8 + v5)) v11) 26 (((upd (m.2 0) (Int32.toNatClampNeg (8 + v5)) v11) 26) + 1)) 26) - ((upd (upd (m.2 0) (Int32.toNatClampNeg (8 + v5)) v11) 26 (((upd (m.2 0) (Int32.toNatClampNeg (8 + v5)) v11) 26) + 1)) 26) / ((upd (upd (m.2 0) (Int32.toNatClampNeg (8 + v5)) v11) 26 (((upd (m.2 0) (Int32.toNatClampNeg (8 + v5)) v11) 26) + 1)) 4) * ((upd (upd (m.2 0) (Int32.toNatClampNeg (8 + v5)) v11) 26 (((upd (m.2 0) (Int32.toNatClampNeg (8 + v5)) v11) 26) + 1)) 4)) = 0 → ((¬ ((upd (upd (m.2 0) (Int32.toNatClampNeg (8 + v5)) v11) 26 (((upd (m.2 0) (Int32.toNatClampNeg (8 + v5)) v11) 26) + 1)) 4) = 0) ∧ ((((((upd (upd (m.2 0) (Int32.toNatClampNeg (8 + v5)) v11) 26 (((upd (m.2 0) (Int32.toNatClampNeg (8 + v5)) v11) 26) + 1)) 26) / ((upd (upd (m.2 0) (Int32.toNatClampNeg (8 + v5)) v11) 26 (((upd (m.2 0) (Int32.toNatClampNeg (8 + v5)) v11) 26) + 1)) 4)) - (((upd (upd (m.2 0) (Int32.toNatClampNeg (8 + v5)) v11) 26 (((upd (m.2 0) (Int32.toNatClampNeg (8 + v5)) v11) 26) + 1)) 26) / ((upd (upd (m.2 0) (Int32.toNatClampNeg (8 + v5)) v11) 26 (((upd (m.2 0) (Int32.toNatClampNeg (8 + v5)) v11) 26) + 1)) 4)) / 2 * 2) = 1 → (((3 - ((upd (upd (m.2 0) (Int32.toNatClampNeg (8 + v5)) v11) 26 (((upd (m.2 0) (Int32.toNatClampNeg (8 + v5)) v11) 26) + 1)) 16)) ≤ ((upd (upd (m.2 0) (Int32.toNatClampNeg (8 + v5)) v11) 26 (((upd (m.2 0) (Int32.toNatClampNeg (8 + v5)) v11) 26) + 1)) 5) → ((p_X9_anyFold (setA m 0 (upd (upd (upd (m.2 0) (Int32.toNatClampNeg (8 + v5)) v11) 26 (((upd (m.2 0) (Int32.toNatClampNeg (8 + v5)) v11) 26) + 1)) 27 (3 - ((upd (upd (m.2 0) (Int32.toNatClampNeg (8 + v5)) v11) 26 (((upd (m.2 0) (Int32.toNatClampNeg (8 + v5)) v11) 26) + 1)) 16))))) ∧ True)) ∧ (¬ ((3 - ((upd (upd (m.2 0) (Int32.toNatClampNeg (8 + v5)) v11) 26 (((upd (m.2 0) (Int32.toNatClampNeg (8 + v5)) v11) 26) + 1)) 16)) ≤ ((upd (upd (m.2 0) (Int32.toNatClampNeg (8 + v5)) v11) 26 (((upd (m.2 0) (Int32.toNatClampNeg (8 + v5)) v11) 26) + 1)) 5)) → ((p_X9_anyFold (setA m 0 (upd (upd (upd (m.2 0) (Int32.toNatClampNeg (8 + v5)) v11) 26 (((upd (m.2 0) (Int32.toNatClampNeg (8 + v5)) v11) 26) + 1)) 27 ((upd (upd (m.2 0) (Int32.toNatClampNeg (8 + v5)) v11) 26 (((upd (m.2 0) (Int32.toNatClampNeg (8 + v5)) v11) 26) + 1)) 5)))) ∧ True)))) ∧ (¬ (((((upd (upd (m.2 0) (Int32.toNatClampNeg (8 + v5)) v11) 26 (((upd (m.2 0) (Int32.toNatClampNeg (8 + v5)) v11) 26) + 1)) 26) / ((upd (upd (m.2 0) (Int32.toNatClampNeg (8 + v5)) v11) 26 (((upd (m.2 0) (Int32.toNatClampNeg (8 + v5)) v11) 26) + 1)) 4)) - (((upd (upd (m.2 0) (Int32.toNatClampNeg (8 + v5)) v11) 26 (((upd (m.2 0) (Int32.toNatClampNeg (8 + v5)) v11) 26) + 1)) 26) / ((upd (upd (m.2 0) (Int32.toNatClampNeg (8 + v5)) v11) 26 (((upd (m.2 0) (Int32.toNatClampNeg (8 + v5)) v11) 26) + 1)) 4)) / 2 * 2) = 1) → ((p_X9_lays (setA m 0 (upd (upd (upd (m.2 0) (Int32.toNatClampNeg (8 + v5)) v11) 26 (((upd (m.2 0) (Int32.toNatClampNeg (8 + v5)) v11) 26) + 1)) 16 0))) ∧ True))))) ∧ (¬ ((((upd (upd (m.2 0) (Int32.toNatClampNeg (8 + v5)) v11) 26 (((upd (m.2 0) (Int32.toNatClampNeg (8 + v5)) v11) 26) + 1)) 26) - ((upd (upd (m.2 0) (Int32.toNatClampNeg (8 + v5)) v11) 26 (((upd (m.2 0) (Int32.toNatClampNeg (8 + v5)) v11) 26) + 1)) 26) / ((upd (upd (m.2 0) (Int32.toNatClampNeg (8 + v5)) v11) 26 (((upd (m.2 0) (Int32.toNatClampNeg (8 + v5)) v11) 26) + 1)) 4) * ((upd (upd (m.2 0) (Int32.toNatClampNeg (8 + v5)) v11) 26 (((upd (m.2 0) (Int32.toNatClampNeg (8 + v5)) v11) 26) + 1)) 4)) = 0) → True)))
set_option maxHeartbeats 16000000 in
set_option maxRecDepth 20000 in
theorem l_X9_steps_230 (sc : SC)   (zq : Int32 × Rec)  (m : Rec) (v5 : Int32) (v11 : Int32) (hp : p_X9_steps_230 m v5 v11) (hq : zq = f_X9_steps_230 m v5 v11) : Good sc 4 0 0 17 mX9_steps (Ret (some (.int (zq.1))) (wM (zq.2))) 0 0 230 [some (.ref 0), none, none, none, none, some (.int v5), none, none, none, none, none, some (.int v11), none] [] (wM m) := by
  unfold p_X9_steps_230 at hp
  unfold f_X9_steps_230 at hq
  refine g_blk hz0 kX9_steps_230 ?_
  refine ⟨hp.1, ?_⟩
  replace hp := hp.2
  refine ⟨vinL (by decide), ?_⟩
  refine ⟨vinL (by decide), ?_⟩
  refine ⟨vinL (by decide), ?_⟩
  refine ⟨vinL (by decide), ?_⟩
  refine ⟨hp.1, ?_⟩
  replace hp := hp.2
  refine ⟨fun c14 => ?_, fun c14 => ?_⟩
  · rw [if_neg (show ¬ ((((upd (upd (m.2 0) (Int32.toNatClampNeg (8 + v5)) v11) 26 (((upd (m.2 0) (Int32.toNatClampNeg (8 + v5)) v11) 26) + 1)) 26) - ((upd (upd (m.2 0) (Int32.toNatClampNeg (8 + v5)) v11) 26 (((upd (m.2 0) (Int32.toNatClampNeg (8 + v5)) v11) 26) + 1)) 26) / ((upd (upd (m.2 0) (Int32.toNatClampNeg (8 + v5)) v11) 26 (((upd (m.2 0) (Int32.toNatClampNeg (8 + v5)) v11) 26) + 1)) 4) * ((upd (upd (m.2 0) (Int32.toNatClampNeg (8 + v5)) v11) 26 (((upd (m.2 0) (Int32.toNatClampNeg (8 + v5)) v11) 26) + 1)) 4)) = 0) from c14)] at hq
    refine g_blk hz0 kX9_steps_370 ?_
    subst hq
    exact ⟨fun _ => Or.inr rfl, rfl, rfl⟩
  · rw [if_pos (show (((upd (upd (m.2 0) (Int32.toNatClampNeg (8 + v5)) v11) 26 (((upd (m.2 0) (Int32.toNatClampNeg (8 + v5)) v11) 26) + 1)) 26) - ((upd (upd (m.2 0) (Int32.toNatClampNeg (8 + v5)) v11) 26 (((upd (m.2 0) (Int32.toNatClampNeg (8 + v5)) v11) 26) + 1)) 26) / ((upd (upd (m.2 0) (Int32.toNatClampNeg (8 + v5)) v11) 26 (((upd (m.2 0) (Int32.toNatClampNeg (8 + v5)) v11) 26) + 1)) 4) * ((upd (upd (m.2 0) (Int32.toNatClampNeg (8 + v5)) v11) 26 (((upd (m.2 0) (Int32.toNatClampNeg (8 + v5)) v11) 26) + 1)) 4)) = 0 from c14)] at hq
    replace hp := hp.1 c14
    refine g_blk hz0 kX9_steps_270 ?_
    refine ⟨vinL (by decide), ?_⟩
    refine ⟨vinL (by decide), ?_⟩
    refine ⟨hp.1, ?_⟩
    replace hp := hp.2
    refine ⟨by decide, ?_⟩
    refine ⟨fun c15 => ?_, fun c15 => ?_⟩
    · rw [if_neg (show ¬ (((((upd (upd (m.2 0) (Int32.toNatClampNeg (8 + v5)) v11) 26 (((upd (m.2 0) (Int32.toNatClampNeg (8 + v5)) v11) 26) + 1)) 26) / ((upd (upd (m.2 0) (Int32.toNatClampNeg (8 + v5)) v11) 26 (((upd (m.2 0) (Int32.toNatClampNeg (8 + v5)) v11) 26) + 1)) 4)) - (((upd (upd (m.2 0) (Int32.toNatClampNeg (8 + v5)) v11) 26 (((upd (m.2 0) (Int32.toNatClampNeg (8 + v5)) v11) 26) + 1)) 26) / ((upd (upd (m.2 0) (Int32.toNatClampNeg (8 + v5)) v11) 26 (((upd (m.2 0) (Int32.toNatClampNeg (8 + v5)) v11) 26) + 1)) 4)) / 2 * 2) = 1) from c15)] at hq
      replace hp := hp.2 c15
      refine g_blk hz0 kX9_steps_358 ?_
      refine ⟨vinL (by decide), ?_⟩
      refine g_w (w2 := (wM (setA m 0 (upd (upd (upd (m.2 0) (Int32.toNatClampNeg (8 + v5)) v11) 26 (((upd (m.2 0) (Int32.toNatClampNeg (8 + v5)) v11) 26) + 1)) 16 0)))) rfl ?_
      refine cV [0, 1, 2, 3, 4, 5, 6, 7, 8, 9, 10, 11, 12, 13, 14, 15, 16] (wM (setA m 0 (upd (upd (upd (m.2 0) (Int32.toNatClampNeg (8 + v5)) v11) 26 (((upd (m.2 0) (Int32.toNatClampNeg (8 + v5)) v11) 26) + 1)) 16 0))) (s_X9_lays (setA m 0 (upd (upd (upd (m.2 0) (Int32.toNatClampNeg (8 + v5)) v11) 26 (((upd (m.2 0) (Int32.toNatClampNeg (8 + v5)) v11) 26) + 1)) 16 0)) hp.1) rfl cwX9_lays dX9_steps_367 rfl rfl (hm0_M_M _) rfl (wM (f_X9_lays (setA m 0 (upd (upd (upd (m.2 0) (Int32.toNatClampNeg (8 + v5)) v11) 26 (((upd (m.2 0) (Int32.toNatClampNeg (8 + v5)) v11) 26) + 1)) 16 0)))) (pw0_M_M _ _) ?_
      replace hp := hp.2
      refine g_blk hz0 kX9_steps_370 ?_
      subst hq
      exact ⟨fun _ => Or.inr rfl, rfl, rfl⟩
    · rw [if_pos (show ((((upd (upd (m.2 0) (Int32.toNatClampNeg (8 + v5)) v11) 26 (((upd (m.2 0) (Int32.toNatClampNeg (8 + v5)) v11) 26) + 1)) 26) / ((upd (upd (m.2 0) (Int32.toNatClampNeg (8 + v5)) v11) 26 (((upd (m.2 0) (Int32.toNatClampNeg (8 + v5)) v11) 26) + 1)) 4)) - (((upd (upd (m.2 0) (Int32.toNatClampNeg (8 + v5)) v11) 26 (((upd (m.2 0) (Int32.toNatClampNeg (8 + v5)) v11) 26) + 1)) 26) / ((upd (upd (m.2 0) (Int32.toNatClampNeg (8 + v5)) v11) 26 (((upd (m.2 0) (Int32.toNatClampNeg (8 + v5)) v11) 26) + 1)) 4)) / 2 * 2) = 1 from c15)] at hq
      replace hp := hp.1 c15
      refine g_blk hz0 kX9_steps_290 ?_
      refine ⟨vinL (by decide), ?_⟩
      refine ⟨vinL (by decide), ?_⟩
      refine ⟨fun c16 => ?_, fun c16 => ?_⟩
      · rw [if_pos (show (3 - ((upd (upd (m.2 0) (Int32.toNatClampNeg (8 + v5)) v11) 26 (((upd (m.2 0) (Int32.toNatClampNeg (8 + v5)) v11) 26) + 1)) 16)) ≤ ((upd (upd (m.2 0) (Int32.toNatClampNeg (8 + v5)) v11) 26 (((upd (m.2 0) (Int32.toNatClampNeg (8 + v5)) v11) 26) + 1)) 5) from c16)] at hq
        replace hp := hp.1 c16
        refine g_blk hz0 kX9_steps_327 ?_
        refine g_blk hz0 kX9_steps_329 ?_
        refine ⟨vinL (by decide), ?_⟩
        refine g_w (w2 := (wM (setA m 0 (upd (upd (upd (m.2 0) (Int32.toNatClampNeg (8 + v5)) v11) 26 (((upd (m.2 0) (Int32.toNatClampNeg (8 + v5)) v11) 26) + 1)) 27 (3 - ((upd (upd (m.2 0) (Int32.toNatClampNeg (8 + v5)) v11) 26 (((upd (m.2 0) (Int32.toNatClampNeg (8 + v5)) v11) 26) + 1)) 16)))))) rfl ?_
        refine cVp [0, 1, 2, 3, 4, 5, 6, 7, 8, 9, 10, 11, 12, 13, 14, 15, 16] (wM (setA m 0 (upd (upd (upd (m.2 0) (Int32.toNatClampNeg (8 + v5)) v11) 26 (((upd (m.2 0) (Int32.toNatClampNeg (8 + v5)) v11) 26) + 1)) 27 (3 - ((upd (upd (m.2 0) (Int32.toNatClampNeg (8 + v5)) v11) 26 (((upd (m.2 0) (Int32.toNatClampNeg (8 + v5)) v11) 26) + 1)) 16))))) (s_X9_anyFold (setA m 0 (upd (upd (upd (m.2 0) (Int32.toNatClampNeg (8 + v5)) v11) 26 (((upd (m.2 0) (Int32.toNatClampNeg (8 + v5)) v11) 26) + 1)) 27 (3 - ((upd (upd (m.2 0) (Int32.toNatClampNeg (8 + v5)) v11) 26 (((upd (m.2 0) (Int32.toNatClampNeg (8 + v5)) v11) 26) + 1)) 16)))) hp.1) rfl cwX9_anyFold dX9_steps_337 rfl rfl (hm0_M_M _) ?_
        replace hp := hp.2
        refine g_blk hz0 kX9_steps_340 ?_
        refine ⟨fun c17 => ?_, fun c17 => ?_⟩
        · rw [if_pos (show (f_X9_anyFold (setA m 0 (upd (upd (upd (m.2 0) (Int32.toNatClampNeg (8 + v5)) v11) 26 (((upd (m.2 0) (Int32.toNatClampNeg (8 + v5)) v11) 26) + 1)) 27 (3 - ((upd (upd (m.2 0) (Int32.toNatClampNeg (8 + v5)) v11) 26 (((upd (m.2 0) (Int32.toNatClampNeg (8 + v5)) v11) 26) + 1)) 16))))) = 0 from c17)] at hq
          refine g_blk hz0 kX9_steps_353 ?_
          refine g_blk hz0 kX9_steps_354 ?_
          refine ⟨vinL (by decide), ?_⟩
          refine g_blk hz0 kX9_steps_370 ?_
          subst hq
          exact ⟨fun _ => Or.inr rfl, rfl, rfl⟩
        · rw [if_neg (show ¬ ((f_X9_anyFold (setA m 0 (upd (upd (upd (m.2 0) (Int32.toNatClampNeg (8 + v5)) v11) 26 (((upd (m.2 0) (Int32.toNatClampNeg (8 + v5)) v11) 26) + 1)) 27 (3 - ((upd (upd (m.2 0) (Int32.toNatClampNeg (8 + v5)) v11) 26 (((upd (m.2 0) (Int32.toNatClampNeg (8 + v5)) v11) 26) + 1)) 16))))) = 0) from c17)] at hq
          refine g_blk hz0 kX9_steps_343 ?_
          refine ⟨vinL (by decide), ?_⟩
          refine g_blk hz0 kX9_steps_354 ?_
          refine ⟨vinL (by decide), ?_⟩
          refine g_blk hz0 kX9_steps_370 ?_
          subst hq
          exact ⟨fun _ => Or.inr rfl, rfl, rfl⟩
      · rw [if_neg (show ¬ ((3 - ((upd (upd (m.2 0) (Int32.toNatClampNeg (8 + v5)) v11) 26 (((upd (m.2 0) (Int32.toNatClampNeg (8 + v5)) v11) 26) + 1)) 16)) ≤ ((upd (upd (m.2 0) (Int32.toNatClampNeg (8 + v5)) v11) 26 (((upd (m.2 0) (Int32.toNatClampNeg (8 + v5)) v11) 26) + 1)) 5)) from c16)] at hq
        replace hp := hp.2 c16
        refine g_blk hz0 kX9_steps_318 ?_
        refine ⟨vinL (by decide), ?_⟩
        refine g_blk hz0 kX9_steps_329 ?_
        refine ⟨vinL (by decide), ?_⟩
        refine g_w (w2 := (wM (setA m 0 (upd (upd (upd (m.2 0) (Int32.toNatClampNeg (8 + v5)) v11) 26 (((upd (m.2 0) (Int32.toNatClampNeg (8 + v5)) v11) 26) + 1)) 27 ((upd (upd (m.2 0) (Int32.toNatClampNeg (8 + v5)) v11) 26 (((upd (m.2 0) (Int32.toNatClampNeg (8 + v5)) v11) 26) + 1)) 5))))) rfl ?_
        refine cVp [0, 1, 2, 3, 4, 5, 6, 7, 8, 9, 10, 11, 12, 13, 14, 15, 16] (wM (setA m 0 (upd (upd (upd (m.2 0) (Int32.toNatClampNeg (8 + v5)) v11) 26 (((upd (m.2 0) (Int32.toNatClampNeg (8 + v5)) v11) 26) + 1)) 27 ((upd (upd (m.2 0) (Int32.toNatClampNeg (8 + v5)) v11) 26 (((upd (m.2 0) (Int32.toNatClampNeg (8 + v5)) v11) 26) + 1)) 5)))) (s_X9_anyFold (setA m 0 (upd (upd (upd (m.2 0) (Int32.toNatClampNeg (8 + v5)) v11) 26 (((upd (m.2 0) (Int32.toNatClampNeg (8 + v5)) v11) 26) + 1)) 27 ((upd (upd (m.2 0) (Int32.toNatClampNeg (8 + v5)) v11) 26 (((upd (m.2 0) (Int32.toNatClampNeg (8 + v5)) v11) 26) + 1)) 5))) hp.1) rfl cwX9_anyFold dX9_steps_337 rfl rfl (hm0_M_M _) ?_
        replace hp := hp.2
        refine g_blk hz0 kX9_steps_340 ?_
        refine ⟨fun c18 => ?_, fun c18 => ?_⟩
        · rw [if_pos (show (f_X9_anyFold (setA m 0 (upd (upd (upd (m.2 0) (Int32.toNatClampNeg (8 + v5)) v11) 26 (((upd (m.2 0) (Int32.toNatClampNeg (8 + v5)) v11) 26) + 1)) 27 ((upd (upd (m.2 0) (Int32.toNatClampNeg (8 + v5)) v11) 26 (((upd (m.2 0) (Int32.toNatClampNeg (8 + v5)) v11) 26) + 1)) 5)))) = 0 from c18)] at hq
          refine g_blk hz0 kX9_steps_353 ?_
          refine g_blk hz0 kX9_steps_354 ?_
          refine ⟨vinL (by decide), ?_⟩
          refine g_blk hz0 kX9_steps_370 ?_
          subst hq
          exact ⟨fun _ => Or.inr rfl, rfl, rfl⟩
        · rw [if_neg (show ¬ ((f_X9_anyFold (setA m 0 (upd (upd (upd (m.2 0) (Int32.toNatClampNeg (8 + v5)) v11) 26 (((upd (m.2 0) (Int32.toNatClampNeg (8 + v5)) v11) 26) + 1)) 27 ((upd (upd (m.2 0) (Int32.toNatClampNeg (8 + v5)) v11) 26 (((upd (m.2 0) (Int32.toNatClampNeg (8 + v5)) v11) 26) + 1)) 5)))) = 0) from c18)] at hq
          refine g_blk hz0 kX9_steps_343 ?_
          refine ⟨vinL (by decide), ?_⟩
          refine g_blk hz0 kX9_steps_354 ?_
          refine ⟨vinL (by decide), ?_⟩
          refine g_blk hz0 kX9_steps_370 ?_
          subst hq
          exact ⟨fun _ => Or.inr rfl, rfl, rfl⟩
def f_X9_steps_195  (m : Rec) (v5 : Int32) (v10 : Int32) (v11 : Int32) : Int32 × Rec := if v10 = (-1) then (f_X9_steps_230 (setG m 8 v10) v5 v11) else (f_X9_steps_230 (setA (setG m 8 v10) 0 (upd (m.2 0) (Int32.toNatClampNeg (8 + v10)) (-1))) v5 ((m.2 0) (Int32.toNatClampNeg (8 + v10))))
def p_X9_steps_195  (m : Rec) (v5 : Int32) (v10 : Int32) (v11 : Int32) : Prop := (v10 = (-1) → (p_X9_steps_230 (setG m 8 v10) v5 v11)) ∧ (¬ (v10 = (-1)) → (vp_in (8 + v10) 248 ∧ (vp_in (8 + v10) 248 ∧ (p_X9_steps_230 (setA (setG m 8 v10) 0 (upd (m.2 0) (Int32.toNatClampNeg (8 + v10)) (-1))) v5 ((m.2 0) (Int32.toNatClampNeg (8 + v10)))))))
set_option maxHeartbeats 16000000 in
set_option maxRecDepth 20000 in
theorem l_X9_steps_195 (sc : SC)   (zq : Int32 × Rec)  (m : Rec) (v5 : Int32) (v10 : Int32) (v11 : Int32) (hp : p_X9_steps_195 m v5 v10 v11) (hq : zq = f_X9_steps_195 m v5 v10 v11) : Good sc 4 0 0 17 mX9_steps (Ret (some (.int (zq.1))) (wM (zq.2))) 0 0 195 [some (.ref 0), none, none, none, none, some (.int v5), none, none, none, none, some (.int v10), some (.int v11), none] [] (wM m) := by
  unfold p_X9_steps_195 at hp
  unfold f_X9_steps_195 at hq
  refine g_blk hz0 kX9_steps_195 ?_
  refine ⟨fun h => (by cases h), Or.inl rfl, ?_⟩
  refine ⟨fun c13 => ?_, fun c13 => ?_⟩
  · rw [if_pos (show v10 = (-1) from c13)] at hq
    replace hp := hp.1 c13
    refine g_le (L2 := [some (.ref 0), none, none, none, none, some (.int v5), none, none, none, none, none, some (.int v11), none]) ⟨rfl, rfl, rfl, trivial⟩ ?_
    exact l_X9_steps_230 sc zq (setG m 8 v10) v5 v11 hp hq
  · rw [if_neg (show ¬ (v10 = (-1)) from c13)] at hq
    replace hp := hp.2 c13
    refine g_blk hz0 kX9_steps_207 ?_
    refine ⟨hp.1, ?_⟩
    replace hp := hp.2
    refine ⟨hp.1, ?_⟩
    replace hp := hp.2
    refine g_le (L2 := [some (.ref 0), none, none, none, none, some (.int v5), none, none, none, none, none, some (.int ((m.2 0) (Int32.toNatClampNeg (8 + v10)))), none]) ⟨rfl, rfl, rfl, trivial⟩ ?_
    exact l_X9_steps_230 sc zq (setA (setG m 8 v10) 0 (upd (m.2 0) (Int32.toNatClampNeg (8 + v10)) (-1))) v5 ((m.2 0) (Int32.toNatClampNeg (8 + v10))) hp hq
def f_X9_steps_109  (m : Rec) (v1 : Int32) (v2 : Int32) (v3 : Int32) (v4 : Int32) (v5 : Int32) : Int32 × Rec := if (f_X9_topAt m (v1 + (v4 * (f_X9_wayX v3))) (v2 + (v4 * (f_X9_wayY v3)))) = (-1) then (0, m) else (if (f_X9_rulerAt m (v1 + (v4 * (f_X9_wayX v3))) (v2 + (v4 * (f_X9_wayY v3)))) = (-1) then (f_X9_steps_195 m v5 (f_X9_rulerAt m (v1 + (v4 * (f_X9_wayX v3))) (v2 + (v4 * (f_X9_wayY v3)))) (f_X9_topAt m (v1 + (v4 * (f_X9_wayX v3))) (v2 + (v4 * (f_X9_wayY v3))))) else (if (f_X9_ownerOf m (f_X9_rulerAt m (v1 + (v4 * (f_X9_wayX v3))) (v2 + (v4 * (f_X9_wayY v3))))) = (f_X9_ownerOf m v5) then (0, m) else (if (f_X9_strengthOf m (f_X9_rulerAt m (v1 + (v4 * (f_X9_wayX v3))) (v2 + (v4 * (f_X9_wayY v3))))) < (f_X9_strengthOf m v5) then (f_X9_steps_195 m v5 (f_X9_rulerAt m (v1 + (v4 * (f_X9_wayX v3))) (v2 + (v4 * (f_X9_wayY v3)))) (f_X9_topAt m (v1 + (v4 * (f_X9_wayX v3))) (v2 + (v4 * (f_X9_wayY v3))))) else (0, m))))
def p_X9_steps_109  (m : Rec) (v1 : Int32) (v2 : Int32) (v3 : Int32) (v4 : Int32) (v5 : Int32) : Prop := (p_X9_rulerAt m (v1 + (v4 * (f_X9_wayX v3))) (v2 + (v4 * (f_X9_wayY v3)))) ∧ ((p_X9_topAt m (v1 + (v4 * (f_X9_wayX v3))) (v2 + (v4 * (f_X9_wayY v3)))) ∧ (((f_X9_topAt m (v1 + (v4 * (f_X9_wayX v3))) (v2 + (v4 * (f_X9_wayY v3)))) = (-1) → True) ∧ (¬ ((f_X9_topAt m (v1 + (v4 * (f_X9_wayX v3))) (v2 + (v4 * (f_X9_wayY v3)))) = (-1)) → (((f_X9_rulerAt m (v1 + (v4 * (f_X9_wayX v3))) (v2 + (v4 * (f_X9_wayY v3)))) = (-1) → (p_X9_steps_195 m v5 (f_X9_rulerAt m (v1 + (v4 * (f_X9_wayX v3))) (v2 + (v4 * (f_X9_wayY v3)))) (f_X9_topAt m (v1 + (v4 * (f_X9_wayX v3))) (v2 + (v4 * (f_X9_wayY v3)))))) ∧ (¬ ((f_X9_rulerAt m (v1 + (v4 * (f_X9_wayX v3))) (v2 + (v4 * (f_X9_wayY v3)))) = (-1)) → ((p_X9_ownerOf m (f_X9_rulerAt m (v1 + (v4 * (f_X9_wayX v3))) (v2 + (v4 * (f_X9_wayY v3))))) ∧ ((p_X9_ownerOf m v5) ∧ (((f_X9_ownerOf m (f_X9_rulerAt m (v1 + (v4 * (f_X9_wayX v3))) (v2 + (v4 * (f_X9_wayY v3))))) = (f_X9_ownerOf m v5) → True) ∧ (¬ ((f_X9_ownerOf m (f_X9_rulerAt m (v1 + (v4 * (f_X9_wayX v3))) (v2 + (v4 * (f_X9_wayY v3))))) = (f_X9_ownerOf m v5)) → ((p_X9_strengthOf m (f_X9_rulerAt m (v1 + (v4 * (f_X9_wayX v3))) (v2 + (v4 * (f_X9_wayY v3))))) ∧ ((p_X9_strengthOf m v5) ∧ (((f_X9_strengthOf m (f_X9_rulerAt m (v1 + (v4 * (f_X9_wayX v3))) (v2 + (v4 * (f_X9_wayY v3))))) < (f_X9_strengthOf m v5) → (p_X9_steps_195 m v5 (f_X9_rulerAt m (v1 + (v4 * (f_X9_wayX v3))) (v2 + (v4 * (f_X9_wayY v3)))) (f_X9_topAt m (v1 + (v4 * (f_X9_wayX v3))) (v2 + (v4 * (f_X9_wayY v3)))))) ∧ (¬ ((f_X9_strengthOf m (f_X9_rulerAt m (v1 + (v4 * (f_X9_wayX v3))) (v2 + (v4 * (f_X9_wayY v3))))) < (f_X9_strengthOf m v5)) → True)))))))))))))
set_option maxHeartbeats 16000000 in
set_option maxRecDepth 20000 in
theorem l_X9_steps_109 (sc : SC)   (zq : Int32 × Rec)  (m : Rec) (v1 : Int32) (v2 : Int32) (v3 : Int32) (v4 : Int32) (v5 : Int32) (hp : p_X9_steps_109 m v1 v2 v3 v4 v5) (hq : zq = f_X9_steps_109 m v1 v2 v3 v4 v5) : Good sc 4 0 0 17 mX9_steps (Ret (some (.int (zq.1))) (wM (zq.2))) 0 0 109 [some (.ref 0), some (.int v1), some (.int v2), some (.int v3), some (.int v4), some (.int v5), none, none, none, none, none, none, none] [] (wM m) := by
  unfold p_X9_steps_109 at hp
  unfold f_X9_steps_109 at hq
  refine g_blk hz0 kX9_steps_109 ?_
  refine cS0 (s_X9_wayX v3) rfl cwX9_wayX dX9_steps_113 rfl ?_
  refine g_blk hz0 kX9_steps_116 ?_
  refine cS0 (s_X9_wayY v3) rfl cwX9_wayY dX9_steps_124 rfl ?_
  refine g_blk hz0 kX9_steps_127 ?_
  refine cVp [0, 1, 2, 3, 4, 5, 6, 7, 8, 9, 10, 11, 12, 13, 14, 15, 16] (wM m) (s_X9_rulerAt m (v1 + (v4 * (f_X9_wayX v3))) (v2 + (v4 * (f_X9_wayY v3))) hp.1) rfl cwX9_rulerAt dX9_steps_136 rfl rfl (hm0_M_M _) ?_
  replace hp := hp.2
  refine g_blk hz0 kX9_steps_139 ?_
  refine cVp [0, 1, 2, 3, 4, 5, 6, 7, 8, 9, 10, 11, 12, 13, 14, 15, 16] (wM m) (s_X9_topAt m (v1 + (v4 * (f_X9_wayX v3))) (v2 + (v4 * (f_X9_wayY v3))) hp.1) rfl cwX9_topAt dX9_steps_146 rfl rfl (hm0_M_M _) ?_
  replace hp := hp.2
  refine g_blk hz0 kX9_steps_149 ?_
  refine ⟨fun c9 => ?_, fun c9 => ?_⟩
  · rw [if_pos (show (f_X9_topAt m (v1 + (v4 * (f_X9_wayX v3))) (v2 + (v4 * (f_X9_wayY v3)))) = (-1) from c9)] at hq
    refine g_blk hz0 kX9_steps_193 ?_
    subst hq
    exact ⟨fun _ => Or.inl rfl, rfl, rfl⟩
  · rw [if_neg (show ¬ ((f_X9_topAt m (v1 + (v4 * (f_X9_wayX v3))) (v2 + (v4 * (f_X9_wayY v3)))) = (-1)) from c9)] at hq
    replace hp := hp.2 c9
    refine g_blk hz0 kX9_steps_157 ?_
    refine ⟨fun c10 => ?_, fun c10 => ?_⟩
    · rw [if_pos (show (f_X9_rulerAt m (v1 + (v4 * (f_X9_wayX v3))) (v2 + (v4 * (f_X9_wayY v3)))) = (-1) from c10)] at hq
      replace hp := hp.1 c10
      refine g_le (L2 := [some (.ref 0), none, none, none, none, some (.int v5), none, none, none, none, some (.int (f_X9_rulerAt m (v1 + (v4 * (f_X9_wayX v3))) (v2 + (v4 * (f_X9_wayY v3))))), some (.int (f_X9_topAt m (v1 + (v4 * (f_X9_wayX v3))) (v2 + (v4 * (f_X9_wayY v3))))), none]) ⟨rfl, rfl, rfl, rfl, trivial⟩ ?_
      exact l_X9_steps_195 sc zq m v5 (f_X9_rulerAt m (v1 + (v4 * (f_X9_wayX v3))) (v2 + (v4 * (f_X9_wayY v3)))) (f_X9_topAt m (v1 + (v4 * (f_X9_wayX v3))) (v2 + (v4 * (f_X9_wayY v3)))) hp hq
    · rw [if_neg (show ¬ ((f_X9_rulerAt m (v1 + (v4 * (f_X9_wayX v3))) (v2 + (v4 * (f_X9_wayY v3)))) = (-1)) from c10)] at hq
      replace hp := hp.2 c10
      refine g_blk hz0 kX9_steps_163 ?_
      refine cVp [0, 1, 2, 3, 4, 5, 6, 7, 8, 9, 10, 11, 12, 13, 14, 15, 16] (wM m) (s_X9_ownerOf m (f_X9_rulerAt m (v1 + (v4 * (f_X9_wayX v3))) (v2 + (v4 * (f_X9_wayY v3)))) hp.1) rfl cwX9_ownerOf dX9_steps_166 rfl rfl (hm0_M_M _) ?_
      replace hp := hp.2
      refine g_blk hz0 kX9_steps_169 ?_
      refine cVp [0, 1, 2, 3, 4, 5, 6, 7, 8, 9, 10, 11, 12, 13, 14, 15, 16] (wM m) (s_X9_ownerOf m v5 hp.1) rfl cwX9_ownerOf dX9_steps_172 rfl rfl (hm0_M_M _) ?_
      replace hp := hp.2
      refine g_blk hz0 kX9_steps_175 ?_
      refine ⟨fun c11 => ?_, fun c11 => ?_⟩
      · rw [if_pos (show (f_X9_ownerOf m (f_X9_rulerAt m (v1 + (v4 * (f_X9_wayX v3))) (v2 + (v4 * (f_X9_wayY v3))))) = (f_X9_ownerOf m v5) from c11)] at hq
        refine g_blk hz0 kX9_steps_193 ?_
        subst hq
        exact ⟨fun _ => Or.inl rfl, rfl, rfl⟩
      · rw [if_neg (show ¬ ((f_X9_ownerOf m (f_X9_rulerAt m (v1 + (v4 * (f_X9_wayX v3))) (v2 + (v4 * (f_X9_wayY v3))))) = (f_X9_ownerOf m v5)) from c11)] at hq
        replace hp := hp.2 c11
        refine g_blk hz0 kX9_steps_178 ?_
        refine cVp [0, 1, 2, 3, 4, 5, 6, 7, 8, 9, 10, 11, 12, 13, 14, 15, 16] (wM m) (s_X9_strengthOf m (f_X9_rulerAt m (v1 + (v4 * (f_X9_wayX v3))) (v2 + (v4 * (f_X9_wayY v3)))) hp.1) rfl cwX9_strengthOf dX9_steps_181 rfl rfl (hm0_M_M _) ?_
        replace hp := hp.2
        refine g_blk hz0 kX9_steps_184 ?_
        refine cVp [0, 1, 2, 3, 4, 5, 6, 7, 8, 9, 10, 11, 12, 13, 14, 15, 16] (wM m) (s_X9_strengthOf m v5 hp.1) rfl cwX9_strengthOf dX9_steps_187 rfl rfl (hm0_M_M _) ?_
        replace hp := hp.2
        refine g_blk hz0 kX9_steps_190 ?_
        refine ⟨fun c12 => ?_, fun c12 => ?_⟩
        · rw [if_pos (show (f_X9_strengthOf m (f_X9_rulerAt m (v1 + (v4 * (f_X9_wayX v3))) (v2 + (v4 * (f_X9_wayY v3))))) < (f_X9_strengthOf m v5) from c12)] at hq
          replace hp := hp.1 c12
          refine g_le (L2 := [some (.ref 0), none, none, none, none, some (.int v5), none, none, none, none, some (.int (f_X9_rulerAt m (v1 + (v4 * (f_X9_wayX v3))) (v2 + (v4 * (f_X9_wayY v3))))), some (.int (f_X9_topAt m (v1 + (v4 * (f_X9_wayX v3))) (v2 + (v4 * (f_X9_wayY v3))))), none]) ⟨rfl, rfl, rfl, rfl, trivial⟩ ?_
          exact l_X9_steps_195 sc zq m v5 (f_X9_rulerAt m (v1 + (v4 * (f_X9_wayX v3))) (v2 + (v4 * (f_X9_wayY v3)))) (f_X9_topAt m (v1 + (v4 * (f_X9_wayX v3))) (v2 + (v4 * (f_X9_wayY v3)))) hp hq
        · rw [if_neg (show ¬ ((f_X9_strengthOf m (f_X9_rulerAt m (v1 + (v4 * (f_X9_wayX v3))) (v2 + (v4 * (f_X9_wayY v3))))) < (f_X9_strengthOf m v5)) from c12)] at hq
          refine g_blk hz0 kX9_steps_193 ?_
          subst hq
          exact ⟨fun _ => Or.inl rfl, rfl, rfl⟩
def f_X9_steps_61  (m : Rec) (v1 : Int32) (v2 : Int32) (v3 : Int32) (v4 : Int32) (v5 : Int32) : Int32 × Rec := if v4 = 2 then (if (f_X9_topAt m (v1 + (f_X9_wayX v3)) (v2 + (f_X9_wayY v3))) = (-1) then (0, m) else (if (f_X9_rulerAt m (v1 + (f_X9_wayX v3)) (v2 + (f_X9_wayY v3))) = (-1) then (f_X9_steps_109 m v1 v2 v3 v4 v5) else (0, m))) else (f_X9_steps_109 m v1 v2 v3 v4 v5)
def p_X9_steps_61  (m : Rec) (v1 : Int32) (v2 : Int32) (v3 : Int32) (v4 : Int32) (v5 : Int32) : Prop := (v4 = 2 → ((p_X9_topAt m (v1 + (f_X9_wayX v3)) (v2 + (f_X9_wayY v3))) ∧ (((f_X9_topAt m (v1 + (f_X9_wayX v3)) (v2 + (f_X9_wayY v3))) = (-1) → True) ∧ (¬ ((f_X9_topAt m (v1 + (f_X9_wayX v3)) (v2 + (f_X9_wayY v3))) = (-1)) → ((p_X9_rulerAt m (v1 + (f_X9_wayX v3)) (v2 + (f_X9_wayY v3))) ∧ (((f_X9_rulerAt m (v1 + (f_X9_wayX v3)) (v2 + (f_X9_wayY v3))) = (-1) → (p_X9_steps_109 m v1 v2 v3 v4 v5)) ∧ (¬ ((f_X9_rulerAt m (v1 + (f_X9_wayX v3)) (v2 + (f_X9_wayY v3))) = (-1)) → True))))))) ∧ (¬ (v4 = 2) → (p_X9_steps_109 m v1 v2 v3 v4 v5))
set_option maxHeartbeats 16000000 in
set_option maxRecDepth 20000 in
theorem l_X9_steps_61 (sc : SC)   (zq : Int32 × Rec)  (m : Rec) (v1 : Int32) (v2 : Int32) (v3 : Int32) (v4 : Int32) (v5 : Int32) (hp : p_X9_steps_61 m v1 v2 v3 v4 v5) (hq : zq = f_X9_steps_61 m v1 v2 v3 v4 v5) : Good sc 4 0 0 17 mX9_steps (Ret (some (.int (zq.1))) (wM (zq.2))) 0 0 61 [some (.ref 0), some (.int v1), some (.int v2), some (.int v3), some (.int v4), some (.int v5), none, none, none, none, none, none, none] [] (wM m) := by
  unfold p_X9_steps_61 at hp
  unfold f_X9_steps_61 at hq
  refine g_blk hz0 kX9_steps_61 ?_
  refine cS0 (s_X9_wayX v3) rfl cwX9_wayX dX9_steps_63 rfl ?_
  refine g_blk hz0 kX9_steps_66 ?_
  refine cS0 (s_X9_wayY v3) rfl cwX9_wayY dX9_steps_71 rfl ?_
  refine g_blk hz0 kX9_steps_74 ?_
  refine ⟨fun c6 => ?_, fun c6 => ?_⟩
  · rw [if_neg (show ¬ (v4 = 2) from c6)] at hq
    replace hp := hp.2 c6
    refine g_le (L2 := [some (.ref 0), some (.int v1), some (.int v2), some (.int v3), some (.int v4), some (.int v5), none, none, none, none, none, none, none]) ⟨rfl, rfl, rfl, rfl, rfl, rfl, trivial⟩ ?_
    exact l_X9_steps_109 sc zq m v1 v2 v3 v4 v5 hp hq
  · rw [if_pos (show v4 = 2 from c6)] at hq
    replace hp := hp.1 c6
    refine g_blk hz0 kX9_steps_83 ?_
    refine cVp [0, 1, 2, 3, 4, 5, 6, 7, 8, 9, 10, 11, 12, 13, 14, 15, 16] (wM m) (s_X9_topAt m (v1 + (f_X9_wayX v3)) (v2 + (f_X9_wayY v3)) hp.1) rfl cwX9_topAt dX9_steps_88 rfl rfl (hm0_M_M _) ?_
    replace hp := hp.2
    refine g_blk hz0 kX9_steps_91 ?_
    refine ⟨fun c7 => ?_, fun c7 => ?_⟩
    · rw [if_pos (show (f_X9_topAt m (v1 + (f_X9_wayX v3)) (v2 + (f_X9_wayY v3))) = (-1) from c7)] at hq
      refine g_blk hz0 kX9_steps_107 ?_
      subst hq
      exact ⟨fun _ => Or.inl rfl, rfl, rfl⟩
    · rw [if_neg (show ¬ ((f_X9_topAt m (v1 + (f_X9_wayX v3)) (v2 + (f_X9_wayY v3))) = (-1)) from c7)] at hq
      replace hp := hp.2 c7
      refine g_blk hz0 kX9_steps_95 ?_
      refine cVp [0, 1, 2, 3, 4, 5, 6, 7, 8, 9, 10, 11, 12, 13, 14, 15, 16] (wM m) (s_X9_rulerAt m (v1 + (f_X9_wayX v3)) (v2 + (f_X9_wayY v3)) hp.1) rfl cwX9_rulerAt dX9_steps_100 rfl rfl (hm0_M_M _) ?_
      replace hp := hp.2
      refine g_blk hz0 kX9_steps_103 ?_
      refine ⟨fun c8 => ?_, fun c8 => ?_⟩
      · rw [if_pos (show (f_X9_rulerAt m (v1 + (f_X9_wayX v3)) (v2 + (f_X9_wayY v3))) = (-1) from c8)] at hq
        replace hp := hp.1 c8
        refine g_le (L2 := [some (.ref 0), some (.int v1), some (.int v2), some (.int v3), some (.int v4), some (.int v5), none, none, none, none, none, none, none]) ⟨rfl, rfl, rfl, rfl, rfl, rfl, trivial⟩ ?_
        exact l_X9_steps_109 sc zq m v1 v2 v3 v4 v5 hp hq
      · rw [if_neg (show ¬ ((f_X9_rulerAt m (v1 + (f_X9_wayX v3)) (v2 + (f_X9_wayY v3))) = (-1)) from c8)] at hq
        refine g_blk hz0 kX9_steps_107 ?_
        subst hq
        exact ⟨fun _ => Or.inl rfl, rfl, rfl⟩
def f_X9_steps (m : Rec) (x : Int32) (y : Int32) (w : Int32) (d : Int32) : Int32 × Rec := if 0 < ((m.2 0) 27) then (0, m) else (if (f_X9_rulerAt m x y) = (-1) then (0, m) else (if (f_X9_ownerOf m (f_X9_rulerAt m x y)) = (f_X9_turn m) then (if d = 2 then (if ((m.2 0) (Int32.toNatClampNeg (28 + (3 * (f_X9_rulerAt m x y))))) = 4 then (f_X9_steps_61 m x y w d (f_X9_rulerAt m x y)) else (0, m)) else (f_X9_steps_61 m x y w d (f_X9_rulerAt m x y))) else (0, m)))
def p_X9_steps (m : Rec) (x : Int32) (y : Int32) (w : Int32) (d : Int32) : Prop := (p_X9_rulerAt m x y) ∧ ((0 < ((m.2 0) 27) → True) ∧ (¬ (0 < ((m.2 0) 27)) → (((f_X9_rulerAt m x y) = (-1) → True) ∧ (¬ ((f_X9_rulerAt m x y) = (-1)) → ((p_X9_ownerOf m (f_X9_rulerAt m x y)) ∧ (((f_X9_ownerOf m (f_X9_rulerAt m x y)) = (f_X9_turn m) → ((d = 2 → (vp_in (28 + (3 * (f_X9_rulerAt m x y))) 248 ∧ ((((m.2 0) (Int32.toNatClampNeg (28 + (3 * (f_X9_rulerAt m x y))))) = 4 → (p_X9_steps_61 m x y w d (f_X9_rulerAt m x y))) ∧ (¬ (((m.2 0) (Int32.toNatClampNeg (28 + (3 * (f_X9_rulerAt m x y))))) = 4) → True)))) ∧ (¬ (d = 2) → (p_X9_steps_61 m x y w d (f_X9_rulerAt m x y))))) ∧ (¬ ((f_X9_ownerOf m (f_X9_rulerAt m x y)) = (f_X9_turn m)) → True)))))))
set_option maxHeartbeats 16000000 in
set_option maxRecDepth 20000 in
theorem s_X9_steps (m : Rec) (x : Int32) (y : Int32) (w : Int32) (d : Int32) (hp : p_X9_steps m x y w d) : Spec 4 0 0 mX9_steps [.ref 0, .int x, .int y, .int w, .int d] (wM m) (Ret (some (.int ((f_X9_steps m x y w d).1))) (wM ((f_X9_steps m x y w d).2))) := by
  obtain ⟨zq, hq⟩ : ∃ z, z = (f_X9_steps m x y w d) := ⟨_, rfl⟩
  rw [← hq]
  unfold f_X9_steps at hq
  unfold p_X9_steps at hp
  refine Sof fun sc => ?_
  refine g_blk hz0 kX9_steps_0 ?_
  refine cVp [0, 1, 2, 3, 4, 5, 6, 7, 8, 9, 10, 11, 12, 13, 14, 15, 16] (wM m) (s_X9_rulerAt m x y hp.1) rfl cwX9_rulerAt dX9_steps_3 rfl rfl (hm0_M_M _) ?_
  replace hp := hp.2
  refine g_blk hz0 kX9_steps_6 ?_
  refine ⟨vinL (by decide), ?_⟩
  refine ⟨fun c1 => ?_, fun c1 => ?_⟩
  · rw [if_pos (show 0 < ((m.2 0) 27) from c1)] at hq
    refine g_blk hz0 kX9_steps_59 ?_
    subst hq
    exact ⟨fun _ => Or.inl rfl, rfl, rfl⟩
  · rw [if_neg (show ¬ (0 < ((m.2 0) 27)) from c1)] at hq
    replace hp := hp.2 c1
    refine g_blk hz0 kX9_steps_18 ?_
    refine ⟨fun c2 => ?_, fun c2 => ?_⟩
    · rw [if_pos (show (f_X9_rulerAt m x y) = (-1) from c2)] at hq
      refine g_blk hz0 kX9_steps_59 ?_
      subst hq
      exact ⟨fun _ => Or.inl rfl, rfl, rfl⟩
    · rw [if_neg (show ¬ ((f_X9_rulerAt m x y) = (-1)) from c2)] at hq
      replace hp := hp.2 c2
      refine g_blk hz0 kX9_steps_24 ?_
      refine cVp [0, 1, 2, 3, 4, 5, 6, 7, 8, 9, 10, 11, 12, 13, 14, 15, 16] (wM m) (s_X9_ownerOf m (f_X9_rulerAt m x y) hp.1) rfl cwX9_ownerOf dX9_steps_27 rfl rfl (hm0_M_M _) ?_
      replace hp := hp.2
      refine g_blk hz0 kX9_steps_30 ?_
      refine cVp [0, 1, 2, 3, 4, 5, 6, 7, 8, 9, 10, 11, 12, 13, 14, 15, 16] (wM m) (s_X9_turn m) rfl cwX9_turn dX9_steps_31 rfl rfl (hm0_M_M _) ?_
      refine g_blk hz0 kX9_steps_34 ?_
      refine ⟨fun c3 => ?_, fun c3 => ?_⟩
      · rw [if_neg (show ¬ ((f_X9_ownerOf m (f_X9_rulerAt m x y)) = (f_X9_turn m)) from c3)] at hq
        refine g_blk hz0 kX9_steps_59 ?_
        subst hq
        exact ⟨fun _ => Or.inl rfl, rfl, rfl⟩
      · rw [if_pos (show (f_X9_ownerOf m (f_X9_rulerAt m x y)) = (f_X9_turn m) from c3)] at hq
        replace hp := hp.1 c3
        refine g_blk hz0 kX9_steps_37 ?_
        refine ⟨fun c4 => ?_, fun c4 => ?_⟩
        · rw [if_neg (show ¬ (d = 2) from c4)] at hq
          replace hp := hp.2 c4
          refine g_le (L2 := [some (.ref 0), some (.int x), some (.int y), some (.int w), some (.int d), some (.int (f_X9_rulerAt m x y)), none, none, none, none, none, none, none]) ⟨rfl, rfl, rfl, rfl, rfl, rfl, trivial⟩ ?_
          exact l_X9_steps_61 sc zq m x y w d (f_X9_rulerAt m x y) hp hq
        · rw [if_pos (show d = 2 from c4)] at hq
          replace hp := hp.1 c4
          refine g_blk hz0 kX9_steps_43 ?_
          refine ⟨hp.1, ?_⟩
          replace hp := hp.2
          refine ⟨fun c5 => ?_, fun c5 => ?_⟩
          · rw [if_pos (show ((m.2 0) (Int32.toNatClampNeg (28 + (3 * (f_X9_rulerAt m x y))))) = 4 from c5)] at hq
            replace hp := hp.1 c5
            refine g_le (L2 := [some (.ref 0), some (.int x), some (.int y), some (.int w), some (.int d), some (.int (f_X9_rulerAt m x y)), none, none, none, none, none, none, none]) ⟨rfl, rfl, rfl, rfl, rfl, rfl, trivial⟩ ?_
            exact l_X9_steps_61 sc zq m x y w d (f_X9_rulerAt m x y) hp hq
          · rw [if_neg (show ¬ (((m.2 0) (Int32.toNatClampNeg (28 + (3 * (f_X9_rulerAt m x y))))) = 4) from c5)] at hq
            refine g_blk hz0 kX9_steps_59 ?_
            subst hq
            exact ⟨fun _ => Or.inl rfl, rfl, rfl⟩

def f_X9_makes (m : Rec) (a : Int32) (l : Int32) (w : Int32) : Int32 × Rec := if ((m.2 0) 27) = 0 then (0, m) else (if (f_X9_mayFold m a l w) = 0 then (0, m) else (if (f_X9_anyFold (setA (f_X9_turnsOver (setA m 0 (upd (upd (upd (upd (m.2 0) (Int32.toNatClampNeg (17 + (3 * ((m.2 0) 16)))) a) (Int32.toNatClampNeg ((17 + (3 * ((m.2 0) 16))) + 1)) l) (Int32.toNatClampNeg ((17 + (3 * ((m.2 0) 16))) + 2)) w) 16 (((upd (upd (upd (m.2 0) (Int32.toNatClampNeg (17 + (3 * ((m.2 0) 16)))) a) (Int32.toNatClampNeg ((17 + (3 * ((m.2 0) 16))) + 1)) l) (Int32.toNatClampNeg ((17 + (3 * ((m.2 0) 16))) + 2)) w) 16) + 1))) a l w) 0 (upd ((f_X9_turnsOver (setA m 0 (upd (upd (upd (upd (m.2 0) (Int32.toNatClampNeg (17 + (3 * ((m.2 0) 16)))) a) (Int32.toNatClampNeg ((17 + (3 * ((m.2 0) 16))) + 1)) l) (Int32.toNatClampNeg ((17 + (3 * ((m.2 0) 16))) + 2)) w) 16 (((upd (upd (upd (m.2 0) (Int32.toNatClampNeg (17 + (3 * ((m.2 0) 16)))) a) (Int32.toNatClampNeg ((17 + (3 * ((m.2 0) 16))) + 1)) l) (Int32.toNatClampNeg ((17 + (3 * ((m.2 0) 16))) + 2)) w) 16) + 1))) a l w).2 0) 27 ((((f_X9_turnsOver (setA m 0 (upd (upd (upd (upd (m.2 0) (Int32.toNatClampNeg (17 + (3 * ((m.2 0) 16)))) a) (Int32.toNatClampNeg ((17 + (3 * ((m.2 0) 16))) + 1)) l) (Int32.toNatClampNeg ((17 + (3 * ((m.2 0) 16))) + 2)) w) 16 (((upd (upd (upd (m.2 0) (Int32.toNatClampNeg (17 + (3 * ((m.2 0) 16)))) a) (Int32.toNatClampNeg ((17 + (3 * ((m.2 0) 16))) + 1)) l) (Int32.toNatClampNeg ((17 + (3 * ((m.2 0) 16))) + 2)) w) 16) + 1))) a l w).2 0) 27) - 1)))) = 0 then (1, (setA (f_X9_turnsOver (setA m 0 (upd (upd (upd (upd (m.2 0) (Int32.toNatClampNeg (17 + (3 * ((m.2 0) 16)))) a) (Int32.toNatClampNeg ((17 + (3 * ((m.2 0) 16))) + 1)) l) (Int32.toNatClampNeg ((17 + (3 * ((m.2 0) 16))) + 2)) w) 16 (((upd (upd (upd (m.2 0) (Int32.toNatClampNeg (17 + (3 * ((m.2 0) 16)))) a) (Int32.toNatClampNeg ((17 + (3 * ((m.2 0) 16))) + 1)) l) (Int32.toNatClampNeg ((17 + (3 * ((m.2 0) 16))) + 2)) w) 16) + 1))) a l w) 0 (upd (upd ((f_X9_turnsOver (setA m 0 (upd (upd (upd (upd (m.2 0) (Int32.toNatClampNeg (17 + (3 * ((m.2 0) 16)))) a) (Int32.toNatClampNeg ((17 + (3 * ((m.2 0) 16))) + 1)) l) (Int32.toNatClampNeg ((17 + (3 * ((m.2 0) 16))) + 2)) w) 16 (((upd (upd (upd (m.2 0) (Int32.toNatClampNeg (17 + (3 * ((m.2 0) 16)))) a) (Int32.toNatClampNeg ((17 + (3 * ((m.2 0) 16))) + 1)) l) (Int32.toNatClampNeg ((17 + (3 * ((m.2 0) 16))) + 2)) w) 16) + 1))) a l w).2 0) 27 ((((f_X9_turnsOver (setA m 0 (upd (upd (upd (upd (m.2 0) (Int32.toNatClampNeg (17 + (3 * ((m.2 0) 16)))) a) (Int32.toNatClampNeg ((17 + (3 * ((m.2 0) 16))) + 1)) l) (Int32.toNatClampNeg ((17 + (3 * ((m.2 0) 16))) + 2)) w) 16 (((upd (upd (upd (m.2 0) (Int32.toNatClampNeg (17 + (3 * ((m.2 0) 16)))) a) (Int32.toNatClampNeg ((17 + (3 * ((m.2 0) 16))) + 1)) l) (Int32.toNatClampNeg ((17 + (3 * ((m.2 0) 16))) + 2)) w) 16) + 1))) a l w).2 0) 27) - 1)) 27 0))) else (1, (setA (f_X9_turnsOver (setA m 0 (upd (upd (upd (upd (m.2 0) (Int32.toNatClampNeg (17 + (3 * ((m.2 0) 16)))) a) (Int32.toNatClampNeg ((17 + (3 * ((m.2 0) 16))) + 1)) l) (Int32.toNatClampNeg ((17 + (3 * ((m.2 0) 16))) + 2)) w) 16 (((upd (upd (upd (m.2 0) (Int32.toNatClampNeg (17 + (3 * ((m.2 0) 16)))) a) (Int32.toNatClampNeg ((17 + (3 * ((m.2 0) 16))) + 1)) l) (Int32.toNatClampNeg ((17 + (3 * ((m.2 0) 16))) + 2)) w) 16) + 1))) a l w) 0 (upd (upd ((f_X9_turnsOver (setA m 0 (upd (upd (upd (upd (m.2 0) (Int32.toNatClampNeg (17 + (3 * ((m.2 0) 16)))) a) (Int32.toNatClampNeg ((17 + (3 * ((m.2 0) 16))) + 1)) l) (Int32.toNatClampNeg ((17 + (3 * ((m.2 0) 16))) + 2)) w) 16 (((upd (upd (upd (m.2 0) (Int32.toNatClampNeg (17 + (3 * ((m.2 0) 16)))) a) (Int32.toNatClampNeg ((17 + (3 * ((m.2 0) 16))) + 1)) l) (Int32.toNatClampNeg ((17 + (3 * ((m.2 0) 16))) + 2)) w) 16) + 1))) a l w).2 0) 27 ((((f_X9_turnsOver (setA m 0 (upd (upd (upd (upd (m.2 0) (Int32.toNatClampNeg (17 + (3 * ((m.2 0) 16)))) a) (Int32.toNatClampNeg ((17 + (3 * ((m.2 0) 16))) + 1)) l) (Int32.toNatClampNeg ((17 + (3 * ((m.2 0) 16))) + 2)) w) 16 (((upd (upd (upd (m.2 0) (Int32.toNatClampNeg (17 + (3 * ((m.2 0) 16)))) a) (Int32.toNatClampNeg ((17 + (3 * ((m.2 0) 16))) + 1)) l) (Int32.toNatClampNeg ((17 + (3 * ((m.2 0) 16))) + 2)) w) 16) + 1))) a l w).2 0) 27) - 1)) 27 ((upd ((f_X9_turnsOver (setA m 0 (upd (upd (upd (upd (m.2 0) (Int32.toNatClampNeg (17 + (3 * ((m.2 0) 16)))) a) (Int32.toNatClampNeg ((17 + (3 * ((m.2 0) 16))) + 1)) l) (Int32.toNatClampNeg ((17 + (3 * ((m.2 0) 16))) + 2)) w) 16 (((upd (upd (upd (m.2 0) (Int32.toNatClampNeg (17 + (3 * ((m.2 0) 16)))) a) (Int32.toNatClampNeg ((17 + (3 * ((m.2 0) 16))) + 1)) l) (Int32.toNatClampNeg ((17 + (3 * ((m.2 0) 16))) + 2)) w) 16) + 1))) a l w).2 0) 27 ((((f_X9_turnsOver (setA m 0 (upd (upd (upd (upd (m.2 0) (Int32.toNatClampNeg (17 + (3 * ((m.2 0) 16)))) a) (Int32.toNatClampNeg ((17 + (3 * ((m.2 0) 16))) + 1)) l) (Int32.toNatClampNeg ((17 + (3 * ((m.2 0) 16))) + 2)) w) 16 (((upd (upd (upd (m.2 0) (Int32.toNatClampNeg (17 + (3 * ((m.2 0) 16)))) a) (Int32.toNatClampNeg ((17 + (3 * ((m.2 0) 16))) + 1)) l) (Int32.toNatClampNeg ((17 + (3 * ((m.2 0) 16))) + 2)) w) 16) + 1))) a l w).2 0) 27) - 1)) 27))))))
def p_X9_makes (m : Rec) (a : Int32) (l : Int32) (w : Int32) : Prop := (((m.2 0) 27) = 0 → True) ∧ (¬ (((m.2 0) 27) = 0) → ((p_X9_mayFold m a l w) ∧ (((f_X9_mayFold m a l w) = 0 → True) ∧ (¬ ((f_X9_mayFold m a l w) = 0) → (vp_in (17 + (3 * ((m.2 0) 16))) 248 ∧ (vp_in ((17 + (3 * ((m.2 0) 16))) + 1) 248 ∧ (vp_in ((17 + (3 * ((m.2 0) 16))) + 2) 248 ∧ ((p_X9_turnsOver (setA m 0 (upd (upd (upd (upd (m.2 0) (Int32.toNatClampNeg (17 + (3 * ((m.2 0) 16)))) a) (Int32.toNatClampNeg ((17 + (3 * ((m.2 0) 16))) + 1)) l) (Int32.toNatClampNeg ((17 + (3 * ((m.2 0) 16))) + 2)) w) 16 (((upd (upd (upd (m.2 0) (Int32.toNatClampNeg (17 + (3 * ((m.2 0) 16)))) a) (Int32.toNatClampNeg ((17 + (3 * ((m.2 0) 16))) + 1)) l) (Int32.toNatClampNeg ((17 + (3 * ((m.2 0) 16))) + 2)) w) 16) + 1))) a l w) ∧ ((p_X9_anyFold (setA (f_X9_turnsOver (setA m 0 (upd (upd (upd (upd (m.2 0) (Int32.toNatClampNeg (17 + (3 * ((m.2 0) 16)))) a) (Int32.toNatClampNeg ((17 + (3 * ((m.2 0) 16))) + 1)) l) (Int32.toNatClampNeg ((17 + (3 * ((m.2 0) 16))) + 2)) w) 16 (((upd (upd (upd (m.2 0) (Int32.toNatClampNeg (17 + (3 * ((m.2 0) 16)))) a) (Int32.toNatClampNeg ((17 + (3 * ((m.2 0) 16))) + 1)) l) (Int32.toNatClampNeg ((17 + (3 * ((m.2 0) 16))) + 2)) w) 16) + 1))) a l w) 0 (upd ((f_X9_turnsOver (setA m 0 (upd (upd (upd (upd (m.2 0) (Int32.toNatClampNeg (17 + (3 * ((m.2 0) 16)))) a) (Int32.toNatClampNeg ((17 + (3 * ((m.2 0) 16))) + 1)) l) (Int32.toNatClampNeg ((17 + (3 * ((m.2 0) 16))) + 2)) w) 16 (((upd (upd (upd (m.2 0) (Int32.toNatClampNeg (17 + (3 * ((m.2 0) 16)))) a) (Int32.toNatClampNeg ((17 + (3 * ((m.2 0) 16))) + 1)) l) (Int32.toNatClampNeg ((17 + (3 * ((m.2 0) 16))) + 2)) w) 16) + 1))) a l w).2 0) 27 ((((f_X9_turnsOver (setA m 0 (upd (upd (upd (upd (m.2 0) (Int32.toNatClampNeg (17 + (3 * ((m.2 0) 16)))) a) (Int32.toNatClampNeg ((17 + (3 * ((m.2 0) 16))) + 1)) l) (Int32.toNatClampNeg ((17 + (3 * ((m.2 0) 16))) + 2)) w) 16 (((upd (upd (upd (m.2 0) (Int32.toNatClampNeg (17 + (3 * ((m.2 0) 16)))) a) (Int32.toNatClampNeg ((17 + (3 * ((m.2 0) 16))) + 1)) l) (Int32.toNatClampNeg ((17 + (3 * ((m.2 0) 16))) + 2)) w) 16) + 1))) a l w).2 0) 27) - 1)))) ∧ True)))))))))
set_option maxHeartbeats 16000000 in
set_option maxRecDepth 20000 in
theorem s_X9_makes (m : Rec) (a : Int32) (l : Int32) (w : Int32) (hp : p_X9_makes m a l w) : Spec 4 0 0 mX9_makes [.ref 0, .int a, .int l, .int w] (wM m) (Ret (some (.int ((f_X9_makes m a l w).1))) (wM ((f_X9_makes m a l w).2))) := by
  obtain ⟨zq, hq⟩ : ∃ z, z = (f_X9_makes m a l w) := ⟨_, rfl⟩
  rw [← hq]
  unfold f_X9_makes at hq
  unfold p_X9_makes at hp
  refine Sof fun sc => ?_
  refine g_blk hz0 kX9_makes_0 ?_
  refine ⟨vinL (by decide), ?_⟩
  refine ⟨fun c1 => ?_, fun c1 => ?_⟩
  · rw [if_pos (show ((m.2 0) 27) = 0 from c1)] at hq
    refine g_blk hz0 kX9_makes_20 ?_
    subst hq
    exact ⟨fun _ => Or.inl rfl, rfl, rfl⟩
  · rw [if_neg (show ¬ (((m.2 0) 27) = 0) from c1)] at hq
    replace hp := hp.2 c1
    refine g_blk hz0 kX9_makes_10 ?_
    refine cVp [0, 1, 2, 3, 4, 5, 6, 7, 8, 9, 10, 11, 12, 13, 14, 15, 16] (wM m) (s_X9_mayFold m a l w hp.1) rfl cwX9_mayFold dX9_makes_14 rfl rfl (hm0_M_M _) ?_
    replace hp := hp.2
    refine g_blk hz0 kX9_makes_17 ?_
    refine ⟨fun c2 => ?_, fun c2 => ?_⟩
    · rw [if_neg (show ¬ ((f_X9_mayFold m a l w) = 0) from c2)] at hq
      replace hp := hp.2 c2
      refine g_blk hz0 kX9_makes_22 ?_
      refine ⟨vinL (by decide), ?_⟩
      refine ⟨hp.1, ?_⟩
      replace hp := hp.2
      refine ⟨hp.1, ?_⟩
      replace hp := hp.2
      refine ⟨hp.1, ?_⟩
      replace hp := hp.2
      refine ⟨vinL (by decide), ?_⟩
      refine ⟨vinL (by decide), ?_⟩
      refine g_w (w2 := (wM (setA m 0 (upd (upd (upd (upd (m.2 0) (Int32.toNatClampNeg (17 + (3 * ((m.2 0) 16)))) a) (Int32.toNatClampNeg ((17 + (3 * ((m.2 0) 16))) + 1)) l) (Int32.toNatClampNeg ((17 + (3 * ((m.2 0) 16))) + 2)) w) 16 (((upd (upd (upd (m.2 0) (Int32.toNatClampNeg (17 + (3 * ((m.2 0) 16)))) a) (Int32.toNatClampNeg ((17 + (3 * ((m.2 0) 16))) + 1)) l) (Int32.toNatClampNeg ((17 + (3 * ((m.2 0) 16))) + 2)) w) 16) + 1))))) rfl ?_
      refine cV [0, 1, 2, 3, 4, 5, 6, 7, 8, 9, 10, 11, 12, 13, 14, 15, 16] (wM (setA m 0 (upd (upd (upd (upd (m.2 0) (Int32.toNatClampNeg (17 + (3 * ((m.2 0) 16)))) a) (Int32.toNatClampNeg ((17 + (3 * ((m.2 0) 16))) + 1)) l) (Int32.toNatClampNeg ((17 + (3 * ((m.2 0) 16))) + 2)) w) 16 (((upd (upd (upd (m.2 0) (Int32.toNatClampNeg (17 + (3 * ((m.2 0) 16)))) a) (Int32.toNatClampNeg ((17 + (3 * ((m.2 0) 16))) + 1)) l) (Int32.toNatClampNeg ((17 + (3 * ((m.2 0) 16))) + 2)) w) 16) + 1)))) (s_X9_turnsOver (setA m 0 (upd (upd (upd (upd (m.2 0) (Int32.toNatClampNeg (17 + (3 * ((m.2 0) 16)))) a) (Int32.toNatClampNeg ((17 + (3 * ((m.2 0) 16))) + 1)) l) (Int32.toNatClampNeg ((17 + (3 * ((m.2 0) 16))) + 2)) w) 16 (((upd (upd (upd (m.2 0) (Int32.toNatClampNeg (17 + (3 * ((m.2 0) 16)))) a) (Int32.toNatClampNeg ((17 + (3 * ((m.2 0) 16))) + 1)) l) (Int32.toNatClampNeg ((17 + (3 * ((m.2 0) 16))) + 2)) w) 16) + 1))) a l w hp.1) rfl cwX9_turnsOver dX9_makes_79 rfl rfl (hm0_M_M _) rfl (wM (f_X9_turnsOver (setA m 0 (upd (upd (upd (upd (m.2 0) (Int32.toNatClampNeg (17 + (3 * ((m.2 0) 16)))) a) (Int32.toNatClampNeg ((17 + (3 * ((m.2 0) 16))) + 1)) l) (Int32.toNatClampNeg ((17 + (3 * ((m.2 0) 16))) + 2)) w) 16 (((upd (upd (upd (m.2 0) (Int32.toNatClampNeg (17 + (3 * ((m.2 0) 16)))) a) (Int32.toNatClampNeg ((17 + (3 * ((m.2 0) 16))) + 1)) l) (Int32.toNatClampNeg ((17 + (3 * ((m.2 0) 16))) + 2)) w) 16) + 1))) a l w)) (pw0_M_M _ _) ?_
      replace hp := hp.2
      refine g_blk hz0 kX9_makes_82 ?_
      refine ⟨vinL (by decide), ?_⟩
      refine ⟨vinL (by decide), ?_⟩
      refine g_w (w2 := (wM (setA (f_X9_turnsOver (setA m 0 (upd (upd (upd (upd (m.2 0) (Int32.toNatClampNeg (17 + (3 * ((m.2 0) 16)))) a) (Int32.toNatClampNeg ((17 + (3 * ((m.2 0) 16))) + 1)) l) (Int32.toNatClampNeg ((17 + (3 * ((m.2 0) 16))) + 2)) w) 16 (((upd (upd (upd (m.2 0) (Int32.toNatClampNeg (17 + (3 * ((m.2 0) 16)))) a) (Int32.toNatClampNeg ((17 + (3 * ((m.2 0) 16))) + 1)) l) (Int32.toNatClampNeg ((17 + (3 * ((m.2 0) 16))) + 2)) w) 16) + 1))) a l w) 0 (upd ((f_X9_turnsOver (setA m 0 (upd (upd (upd (upd (m.2 0) (Int32.toNatClampNeg (17 + (3 * ((m.2 0) 16)))) a) (Int32.toNatClampNeg ((17 + (3 * ((m.2 0) 16))) + 1)) l) (Int32.toNatClampNeg ((17 + (3 * ((m.2 0) 16))) + 2)) w) 16 (((upd (upd (upd (m.2 0) (Int32.toNatClampNeg (17 + (3 * ((m.2 0) 16)))) a) (Int32.toNatClampNeg ((17 + (3 * ((m.2 0) 16))) + 1)) l) (Int32.toNatClampNeg ((17 + (3 * ((m.2 0) 16))) + 2)) w) 16) + 1))) a l w).2 0) 27 ((((f_X9_turnsOver (setA m 0 (upd (upd (upd (upd (m.2 0) (Int32.toNatClampNeg (17 + (3 * ((m.2 0) 16)))) a) (Int32.toNatClampNeg ((17 + (3 * ((m.2 0) 16))) + 1)) l) (Int32.toNatClampNeg ((17 + (3 * ((m.2 0) 16))) + 2)) w) 16 (((upd (upd (upd (m.2 0) (Int32.toNatClampNeg (17 + (3 * ((m.2 0) 16)))) a) (Int32.toNatClampNeg ((17 + (3 * ((m.2 0) 16))) + 1)) l) (Int32.toNatClampNeg ((17 + (3 * ((m.2 0) 16))) + 2)) w) 16) + 1))) a l w).2 0) 27) - 1))))) rfl ?_
      refine cVp [0, 1, 2, 3, 4, 5, 6, 7, 8, 9, 10, 11, 12, 13, 14, 15, 16] (wM (setA (f_X9_turnsOver (setA m 0 (upd (upd (upd (upd (m.2 0) (Int32.toNatClampNeg (17 + (3 * ((m.2 0) 16)))) a) (Int32.toNatClampNeg ((17 + (3 * ((m.2 0) 16))) + 1)) l) (Int32.toNatClampNeg ((17 + (3 * ((m.2 0) 16))) + 2)) w) 16 (((upd (upd (upd (m.2 0) (Int32.toNatClampNeg (17 + (3 * ((m.2 0) 16)))) a) (Int32.toNatClampNeg ((17 + (3 * ((m.2 0) 16))) + 1)) l) (Int32.toNatClampNeg ((17 + (3 * ((m.2 0) 16))) + 2)) w) 16) + 1))) a l w) 0 (upd ((f_X9_turnsOver (setA m 0 (upd (upd (upd (upd (m.2 0) (Int32.toNatClampNeg (17 + (3 * ((m.2 0) 16)))) a) (Int32.toNatClampNeg ((17 + (3 * ((m.2 0) 16))) + 1)) l) (Int32.toNatClampNeg ((17 + (3 * ((m.2 0) 16))) + 2)) w) 16 (((upd (upd (upd (m.2 0) (Int32.toNatClampNeg (17 + (3 * ((m.2 0) 16)))) a) (Int32.toNatClampNeg ((17 + (3 * ((m.2 0) 16))) + 1)) l) (Int32.toNatClampNeg ((17 + (3 * ((m.2 0) 16))) + 2)) w) 16) + 1))) a l w).2 0) 27 ((((f_X9_turnsOver (setA m 0 (upd (upd (upd (upd (m.2 0) (Int32.toNatClampNeg (17 + (3 * ((m.2 0) 16)))) a) (Int32.toNatClampNeg ((17 + (3 * ((m.2 0) 16))) + 1)) l) (Int32.toNatClampNeg ((17 + (3 * ((m.2 0) 16))) + 2)) w) 16 (((upd (upd (upd (m.2 0) (Int32.toNatClampNeg (17 + (3 * ((m.2 0) 16)))) a) (Int32.toNatClampNeg ((17 + (3 * ((m.2 0) 16))) + 1)) l) (Int32.toNatClampNeg ((17 + (3 * ((m.2 0) 16))) + 2)) w) 16) + 1))) a l w).2 0) 27) - 1)))) (s_X9_anyFold (setA (f_X9_turnsOver (setA m 0 (upd (upd (upd (upd (m.2 0) (Int32.toNatClampNeg (17 + (3 * ((m.2 0) 16)))) a) (Int32.toNatClampNeg ((17 + (3 * ((m.2 0) 16))) + 1)) l) (Int32.toNatClampNeg ((17 + (3 * ((m.2 0) 16))) + 2)) w) 16 (((upd (upd (upd (m.2 0) (Int32.toNatClampNeg (17 + (3 * ((m.2 0) 16)))) a) (Int32.toNatClampNeg ((17 + (3 * ((m.2 0) 16))) + 1)) l) (Int32.toNatClampNeg ((17 + (3 * ((m.2 0) 16))) + 2)) w) 16) + 1))) a l w) 0 (upd ((f_X9_turnsOver (setA m 0 (upd (upd (upd (upd (m.2 0) (Int32.toNatClampNeg (17 + (3 * ((m.2 0) 16)))) a) (Int32.toNatClampNeg ((17 + (3 * ((m.2 0) 16))) + 1)) l) (Int32.toNatClampNeg ((17 + (3 * ((m.2 0) 16))) + 2)) w) 16 (((upd (upd (upd (m.2 0) (Int32.toNatClampNeg (17 + (3 * ((m.2 0) 16)))) a) (Int32.toNatClampNeg ((17 + (3 * ((m.2 0) 16))) + 1)) l) (Int32.toNatClampNeg ((17 + (3 * ((m.2 0) 16))) + 2)) w) 16) + 1))) a l w).2 0) 27 ((((f_X9_turnsOver (setA m 0 (upd (upd (upd (upd (m.2 0) (Int32.toNatClampNeg (17 + (3 * ((m.2 0) 16)))) a) (Int32.toNatClampNeg ((17 + (3 * ((m.2 0) 16))) + 1)) l) (Int32.toNatClampNeg ((17 + (3 * ((m.2 0) 16))) + 2)) w) 16 (((upd (upd (upd (m.2 0) (Int32.toNatClampNeg (17 + (3 * ((m.2 0) 16)))) a) (Int32.toNatClampNeg ((17 + (3 * ((m.2 0) 16))) + 1)) l) (Int32.toNatClampNeg ((17 + (3 * ((m.2 0) 16))) + 2)) w) 16) + 1))) a l w).2 0) 27) - 1))) hp.1) rfl cwX9_anyFold dX9_makes_100 rfl rfl (hm0_M_M _) ?_
      replace hp := hp.2
      refine g_blk hz0 kX9_makes_103 ?_
      refine ⟨fun c3 => ?_, fun c3 => ?_⟩
      · rw [if_pos (show (f_X9_anyFold (setA (f_X9_turnsOver (setA m 0 (upd (upd (upd (upd (m.2 0) (Int32.toNatClampNeg (17 + (3 * ((m.2 0) 16)))) a) (Int32.toNatClampNeg ((17 + (3 * ((m.2 0) 16))) + 1)) l) (Int32.toNatClampNeg ((17 + (3 * ((m.2 0) 16))) + 2)) w) 16 (((upd (upd (upd (m.2 0) (Int32.toNatClampNeg (17 + (3 * ((m.2 0) 16)))) a) (Int32.toNatClampNeg ((17 + (3 * ((m.2 0) 16))) + 1)) l) (Int32.toNatClampNeg ((17 + (3 * ((m.2 0) 16))) + 2)) w) 16) + 1))) a l w) 0 (upd ((f_X9_turnsOver (setA m 0 (upd (upd (upd (upd (m.2 0) (Int32.toNatClampNeg (17 + (3 * ((m.2 0) 16)))) a) (Int32.toNatClampNeg ((17 + (3 * ((m.2 0) 16))) + 1)) l) (Int32.toNatClampNeg ((17 + (3 * ((m.2 0) 16))) + 2)) w) 16 (((upd (upd (upd (m.2 0) (Int32.toNatClampNeg (17 + (3 * ((m.2 0) 16)))) a) (Int32.toNatClampNeg ((17 + (3 * ((m.2 0) 16))) + 1)) l) (Int32.toNatClampNeg ((17 + (3 * ((m.2 0) 16))) + 2)) w) 16) + 1))) a l w).2 0) 27 ((((f_X9_turnsOver (setA m 0 (upd (upd (upd (upd (m.2 0) (Int32.toNatClampNeg (17 + (3 * ((m.2 0) 16)))) a) (Int32.toNatClampNeg ((17 + (3 * ((m.2 0) 16))) + 1)) l) (Int32.toNatClampNeg ((17 + (3 * ((m.2 0) 16))) + 2)) w) 16 (((upd (upd (upd (m.2 0) (Int32.toNatClampNeg (17 + (3 * ((m.2 0) 16)))) a) (Int32.toNatClampNeg ((17 + (3 * ((m.2 0) 16))) + 1)) l) (Int32.toNatClampNeg ((17 + (3 * ((m.2 0) 16))) + 2)) w) 16) + 1))) a l w).2 0) 27) - 1)))) = 0 from c3)] at hq
        refine g_blk hz0 kX9_makes_116 ?_
        refine g_blk hz0 kX9_makes_117 ?_
        refine ⟨vinL (by decide), ?_⟩
        subst hq
        exact ⟨fun _ => Or.inr rfl, rfl, rfl⟩
      · rw [if_neg (show ¬ ((f_X9_anyFold (setA (f_X9_turnsOver (setA m 0 (upd (upd (upd (upd (m.2 0) (Int32.toNatClampNeg (17 + (3 * ((m.2 0) 16)))) a) (Int32.toNatClampNeg ((17 + (3 * ((m.2 0) 16))) + 1)) l) (Int32.toNatClampNeg ((17 + (3 * ((m.2 0) 16))) + 2)) w) 16 (((upd (upd (upd (m.2 0) (Int32.toNatClampNeg (17 + (3 * ((m.2 0) 16)))) a) (Int32.toNatClampNeg ((17 + (3 * ((m.2 0) 16))) + 1)) l) (Int32.toNatClampNeg ((17 + (3 * ((m.2 0) 16))) + 2)) w) 16) + 1))) a l w) 0 (upd ((f_X9_turnsOver (setA m 0 (upd (upd (upd (upd (m.2 0) (Int32.toNatClampNeg (17 + (3 * ((m.2 0) 16)))) a) (Int32.toNatClampNeg ((17 + (3 * ((m.2 0) 16))) + 1)) l) (Int32.toNatClampNeg ((17 + (3 * ((m.2 0) 16))) + 2)) w) 16 (((upd (upd (upd (m.2 0) (Int32.toNatClampNeg (17 + (3 * ((m.2 0) 16)))) a) (Int32.toNatClampNeg ((17 + (3 * ((m.2 0) 16))) + 1)) l) (Int32.toNatClampNeg ((17 + (3 * ((m.2 0) 16))) + 2)) w) 16) + 1))) a l w).2 0) 27 ((((f_X9_turnsOver (setA m 0 (upd (upd (upd (upd (m.2 0) (Int32.toNatClampNeg (17 + (3 * ((m.2 0) 16)))) a) (Int32.toNatClampNeg ((17 + (3 * ((m.2 0) 16))) + 1)) l) (Int32.toNatClampNeg ((17 + (3 * ((m.2 0) 16))) + 2)) w) 16 (((upd (upd (upd (m.2 0) (Int32.toNatClampNeg (17 + (3 * ((m.2 0) 16)))) a) (Int32.toNatClampNeg ((17 + (3 * ((m.2 0) 16))) + 1)) l) (Int32.toNatClampNeg ((17 + (3 * ((m.2 0) 16))) + 2)) w) 16) + 1))) a l w).2 0) 27) - 1)))) = 0) from c3)] at hq
        refine g_blk hz0 kX9_makes_106 ?_
        refine ⟨vinL (by decide), ?_⟩
        refine g_blk hz0 kX9_makes_117 ?_
        refine ⟨vinL (by decide), ?_⟩
        subst hq
        exact ⟨fun _ => Or.inr rfl, rfl, rfl⟩
    · rw [if_pos (show (f_X9_mayFold m a l w) = 0 from c2)] at hq
      refine g_blk hz0 kX9_makes_20 ?_
      subst hq
      exact ⟨fun _ => Or.inl rfl, rfl, rfl⟩

def f_X9_keeps_v9_2  : Nat → Rec → Int32 → Int32 → Rec
  | 0, m, v2, v3 => m
  | n + 1, m, v2, v3 => if 20 ≤ v3 then m else (f_X9_keeps_v9_2 n (setA m 9 (upd (m.2 9) (Int32.toNatClampNeg (v2 + v3)) ((m.2 0) (Int32.toNatClampNeg (8 + v3))))) v2 (v3 + 1))
def p_X9_keeps_v9_2  : Nat → Rec → Int32 → Int32 → Prop
  | 0, _, _, _ => False
  | n + 1, m, v2, v3 => (20 ≤ v3 → True) ∧ (¬ (20 ≤ v3) → (vp_in (8 + v3) 248 ∧ (vp_in (v2 + v3) 20 ∧ (p_X9_keeps_v9_2 n (setA m 9 (upd (m.2 9) (Int32.toNatClampNeg (v2 + v3)) ((m.2 0) (Int32.toNatClampNeg (8 + v3))))) v2 (v3 + 1)))))
set_option maxHeartbeats 16000000 in
set_option maxRecDepth 20000 in
theorem l_X9_keeps_v9_2 (sc : SC)   (zq : Rec)  : ∀ (n : Nat) (m : Rec) (v2 : Int32) (v3 : Int32), p_X9_keeps_v9_2 n m v2 v3 → zq = f_X9_keeps_v9_2 n m v2 v3 → Good sc 0 0 0 17 mX9_keeps (Ret none (wM (zq))) 0 0 2 [some (.ref 0), some (.ref 9), some (.int v2), some (.int v3)] [] (wM m) := by
  intro n
  induction n with
  | zero => intro m v2 v3 hp; exact hp.elim
  | succ n ih =>
    intro m v2 v3 hp hq
    unfold p_X9_keeps_v9_2 at hp
    unfold f_X9_keeps_v9_2 at hq
    refine g_blk hz0 kX9_keeps_2 ?_
    refine ⟨fun c1 => ?_, fun c1 => ?_⟩
    · rw [if_pos (show 20 ≤ v3 from c1)] at hq
      refine g_blk hz0 kX9_keeps_28 ?_
      subst hq
      exact ⟨rfl, rfl⟩
    · rw [if_neg (show ¬ (20 ≤ v3) from c1)] at hq
      replace hp := hp.2 c1
      refine g_blk hz0 kX9_keeps_8 ?_
      refine ⟨hp.1, ?_⟩
      replace hp := hp.2
      refine ⟨hp.1, ?_⟩
      replace hp := hp.2
      refine g_le (L2 := [some (.ref 0), some (.ref 9), some (.int v2), some (.int (v3 + 1))]) ⟨rfl, rfl, rfl, rfl, trivial⟩ ?_
      exact ih (setA m 9 (upd (m.2 9) (Int32.toNatClampNeg (v2 + v3)) ((m.2 0) (Int32.toNatClampNeg (8 + v3))))) v2 (v3 + 1) hp hq
def f_X9_keeps_v9 (m : Rec) (a : Int32) : Rec := (f_X9_keeps_v9_2 40 m a 0)
def p_X9_keeps_v9 (m : Rec) (a : Int32) : Prop := (p_X9_keeps_v9_2 40 m a 0)
set_option maxHeartbeats 16000000 in
set_option maxRecDepth 20000 in
theorem s_X9_keeps_v9 (m : Rec) (a : Int32) (hp : p_X9_keeps_v9 m a) : Spec 0 0 0 mX9_keeps [.ref 0, .ref 9, .int a] (wM m) (Ret none (wM ((f_X9_keeps_v9 m a)))) := by
  obtain ⟨zq, hq⟩ : ∃ z, z = (f_X9_keeps_v9 m a) := ⟨_, rfl⟩
  rw [← hq]
  unfold f_X9_keeps_v9 at hq
  unfold p_X9_keeps_v9 at hp
  refine Sof fun sc => ?_
  refine g_blk hz0 kX9_keeps_0 ?_
  refine g_le (L2 := [some (.ref 0), some (.ref 9), some (.int a), some (.int 0)]) ⟨rfl, rfl, rfl, rfl, trivial⟩ ?_
  exact l_X9_keeps_v9_2 sc zq 40 m a 0 hp hq

def f_X9_keeps_v11_2  : Nat → Rec → Int32 → Int32 → Rec
  | 0, m, v2, v3 => m
  | n + 1, m, v2, v3 => if 20 ≤ v3 then m else (f_X9_keeps_v11_2 n (setA m 14 (upd (m.2 14) (Int32.toNatClampNeg (v2 + v3)) ((m.2 0) (Int32.toNatClampNeg (8 + v3))))) v2 (v3 + 1))
def p_X9_keeps_v11_2  : Nat → Rec → Int32 → Int32 → Prop
  | 0, _, _, _ => False
  | n + 1, m, v2, v3 => (20 ≤ v3 → True) ∧ (¬ (20 ≤ v3) → (vp_in (8 + v3) 248 ∧ (vp_in (v2 + v3) 100 ∧ (p_X9_keeps_v11_2 n (setA m 14 (upd (m.2 14) (Int32.toNatClampNeg (v2 + v3)) ((m.2 0) (Int32.toNatClampNeg (8 + v3))))) v2 (v3 + 1)))))
set_option maxHeartbeats 16000000 in
set_option maxRecDepth 20000 in
theorem l_X9_keeps_v11_2 (sc : SC)   (zq : Rec)  : ∀ (n : Nat) (m : Rec) (v2 : Int32) (v3 : Int32), p_X9_keeps_v11_2 n m v2 v3 → zq = f_X9_keeps_v11_2 n m v2 v3 → Good sc 0 0 0 17 mX9_keeps (Ret none (wM (zq))) 0 0 2 [some (.ref 0), some (.ref 11), some (.int v2), some (.int v3)] [] (wM m) := by
  intro n
  induction n with
  | zero => intro m v2 v3 hp; exact hp.elim
  | succ n ih =>
    intro m v2 v3 hp hq
    unfold p_X9_keeps_v11_2 at hp
    unfold f_X9_keeps_v11_2 at hq
    refine g_blk hz0 kX9_keeps_2 ?_
    refine ⟨fun c1 => ?_, fun c1 => ?_⟩
    · rw [if_pos (show 20 ≤ v3 from c1)] at hq
      refine g_blk hz0 kX9_keeps_28 ?_
      subst hq
      exact ⟨rfl, rfl⟩
    · rw [if_neg (show ¬ (20 ≤ v3) from c1)] at hq
      replace hp := hp.2 c1
      refine g_blk hz0 kX9_keeps_8 ?_
      refine ⟨hp.1, ?_⟩
      replace hp := hp.2
      refine ⟨hp.1, ?_⟩
      replace hp := hp.2
      refine g_le (L2 := [some (.ref 0), some (.ref 11), some (.int v2), some (.int (v3 + 1))]) ⟨rfl, rfl, rfl, rfl, trivial⟩ ?_
      exact ih (setA m 14 (upd (m.2 14) (Int32.toNatClampNeg (v2 + v3)) ((m.2 0) (Int32.toNatClampNeg (8 + v3))))) v2 (v3 + 1) hp hq
def f_X9_keeps_v11 (m : Rec) (a : Int32) : Rec := (f_X9_keeps_v11_2 40 m a 0)
def p_X9_keeps_v11 (m : Rec) (a : Int32) : Prop := (p_X9_keeps_v11_2 40 m a 0)
set_option maxHeartbeats 16000000 in
set_option maxRecDepth 20000 in
theorem s_X9_keeps_v11 (m : Rec) (a : Int32) (hp : p_X9_keeps_v11 m a) : Spec 0 0 0 mX9_keeps [.ref 0, .ref 11, .int a] (wM m) (Ret none (wM ((f_X9_keeps_v11 m a)))) := by
  obtain ⟨zq, hq⟩ : ∃ z, z = (f_X9_keeps_v11 m a) := ⟨_, rfl⟩
  rw [← hq]
  unfold f_X9_keeps_v11 at hq
  unfold p_X9_keeps_v11 at hp
  refine Sof fun sc => ?_
  refine g_blk hz0 kX9_keeps_0 ?_
  refine g_le (L2 := [some (.ref 0), some (.ref 11), some (.int a), some (.int 0)]) ⟨rfl, rfl, rfl, rfl, trivial⟩ ?_
  exact l_X9_keeps_v11_2 sc zq 40 m a 0 hp hq

def f_X9_keeps_v14_2  : Nat → Rec → Int32 → Int32 → Rec
  | 0, m, v2, v3 => m
  | n + 1, m, v2, v3 => if 20 ≤ v3 then m else (f_X9_keeps_v14_2 n (setA m 17 (upd (m.2 17) (Int32.toNatClampNeg (v2 + v3)) ((m.2 0) (Int32.toNatClampNeg (8 + v3))))) v2 (v3 + 1))
def p_X9_keeps_v14_2  : Nat → Rec → Int32 → Int32 → Prop
  | 0, _, _, _ => False
  | n + 1, m, v2, v3 => (20 ≤ v3 → True) ∧ (¬ (20 ≤ v3) → (vp_in (8 + v3) 248 ∧ (vp_in (v2 + v3) 20 ∧ (p_X9_keeps_v14_2 n (setA m 17 (upd (m.2 17) (Int32.toNatClampNeg (v2 + v3)) ((m.2 0) (Int32.toNatClampNeg (8 + v3))))) v2 (v3 + 1)))))
set_option maxHeartbeats 16000000 in
set_option maxRecDepth 20000 in
theorem l_X9_keeps_v14_2 (sc : SC)   (zq : Rec)  : ∀ (n : Nat) (m : Rec) (v2 : Int32) (v3 : Int32), p_X9_keeps_v14_2 n m v2 v3 → zq = f_X9_keeps_v14_2 n m v2 v3 → Good sc 0 0 0 17 mX9_keeps (Ret none (wM (zq))) 0 0 2 [some (.ref 0), some (.ref 14), some (.int v2), some (.int v3)] [] (wM m) := by
  intro n
  induction n with
  | zero => intro m v2 v3 hp; exact hp.elim
  | succ n ih =>
    intro m v2 v3 hp hq
    unfold p_X9_keeps_v14_2 at hp
    unfold f_X9_keeps_v14_2 at hq
    refine g_blk hz0 kX9_keeps_2 ?_
    refine ⟨fun c1 => ?_, fun c1 => ?_⟩
    · rw [if_pos (show 20 ≤ v3 from c1)] at hq
      refine g_blk hz0 kX9_keeps_28 ?_
      subst hq
      exact ⟨rfl, rfl⟩
    · rw [if_neg (show ¬ (20 ≤ v3) from c1)] at hq
      replace hp := hp.2 c1
      refine g_blk hz0 kX9_keeps_8 ?_
      refine ⟨hp.1, ?_⟩
      replace hp := hp.2
      refine ⟨hp.1, ?_⟩
      replace hp := hp.2
      refine g_le (L2 := [some (.ref 0), some (.ref 14), some (.int v2), some (.int (v3 + 1))]) ⟨rfl, rfl, rfl, rfl, trivial⟩ ?_
      exact ih (setA m 17 (upd (m.2 17) (Int32.toNatClampNeg (v2 + v3)) ((m.2 0) (Int32.toNatClampNeg (8 + v3))))) v2 (v3 + 1) hp hq
def f_X9_keeps_v14 (m : Rec) (a : Int32) : Rec := (f_X9_keeps_v14_2 40 m a 0)
def p_X9_keeps_v14 (m : Rec) (a : Int32) : Prop := (p_X9_keeps_v14_2 40 m a 0)
set_option maxHeartbeats 16000000 in
set_option maxRecDepth 20000 in
theorem s_X9_keeps_v14 (m : Rec) (a : Int32) (hp : p_X9_keeps_v14 m a) : Spec 0 0 0 mX9_keeps [.ref 0, .ref 14, .int a] (wM m) (Ret none (wM ((f_X9_keeps_v14 m a)))) := by
  obtain ⟨zq, hq⟩ : ∃ z, z = (f_X9_keeps_v14 m a) := ⟨_, rfl⟩
  rw [← hq]
  unfold f_X9_keeps_v14 at hq
  unfold p_X9_keeps_v14 at hp
  refine Sof fun sc => ?_
  refine g_blk hz0 kX9_keeps_0 ?_
  refine g_le (L2 := [some (.ref 0), some (.ref 14), some (.int a), some (.int 0)]) ⟨rfl, rfl, rfl, rfl, trivial⟩ ?_
  exact l_X9_keeps_v14_2 sc zq 40 m a 0 hp hq

def f_X9_takes_v11_2  : Nat → Rec → Int32 → Int32 → Rec
  | 0, m, v2, v3 => m
  | n + 1, m, v2, v3 => if 20 ≤ v3 then (f_X9_lays m) else (f_X9_takes_v11_2 n (setA m 0 (upd (m.2 0) (Int32.toNatClampNeg (8 + v3)) ((m.2 14) (Int32.toNatClampNeg (v2 + v3))))) v2 (v3 + 1))
def p_X9_takes_v11_2  : Nat → Rec → Int32 → Int32 → Prop
  | 0, _, _, _ => False
  | n + 1, m, v2, v3 => (20 ≤ v3 → ((p_X9_lays m) ∧ True)) ∧ (¬ (20 ≤ v3) → (vp_in (v2 + v3) 100 ∧ (vp_in (8 + v3) 248 ∧ (p_X9_takes_v11_2 n (setA m 0 (upd (m.2 0) (Int32.toNatClampNeg (8 + v3)) ((m.2 14) (Int32.toNatClampNeg (v2 + v3))))) v2 (v3 + 1)))))
set_option maxHeartbeats 16000000 in
set_option maxRecDepth 20000 in
theorem l_X9_takes_v11_2 (sc : SC)   (zq : Rec)  : ∀ (n : Nat) (m : Rec) (v2 : Int32) (v3 : Int32), p_X9_takes_v11_2 n m v2 v3 → zq = f_X9_takes_v11_2 n m v2 v3 → Good sc 4 0 0 17 mX9_takes (Ret none (wM (zq))) 0 0 2 [some (.ref 0), some (.ref 11), some (.int v2), some (.int v3)] [] (wM m) := by
  intro n
  induction n with
  | zero => intro m v2 v3 hp; exact hp.elim
  | succ n ih =>
    intro m v2 v3 hp hq
    unfold p_X9_takes_v11_2 at hp
    unfold f_X9_takes_v11_2 at hq
    refine g_blk hz0 kX9_takes_2 ?_
    refine ⟨fun c1 => ?_, fun c1 => ?_⟩
    · rw [if_pos (show 20 ≤ v3 from c1)] at hq
      replace hp := hp.1 c1
      refine g_blk hz0 kX9_takes_28 ?_
      refine cV [0, 1, 2, 3, 4, 5, 6, 7, 8, 9, 10, 11, 12, 13, 14, 15, 16] (wM m) (s_X9_lays m hp.1) rfl cwX9_lays dX9_takes_29 rfl rfl (hm0_M_M _) rfl (wM (f_X9_lays m)) (pw0_M_M _ _) ?_
      replace hp := hp.2
      refine g_blk hz0 kX9_takes_32 ?_
      subst hq
      exact ⟨rfl, rfl⟩
    · rw [if_neg (show ¬ (20 ≤ v3) from c1)] at hq
      replace hp := hp.2 c1
      refine g_blk hz0 kX9_takes_8 ?_
      refine ⟨hp.1, ?_⟩
      replace hp := hp.2
      refine ⟨hp.1, ?_⟩
      replace hp := hp.2
      refine g_le (L2 := [some (.ref 0), some (.ref 11), some (.int v2), some (.int (v3 + 1))]) ⟨rfl, rfl, rfl, rfl, trivial⟩ ?_
      exact ih (setA m 0 (upd (m.2 0) (Int32.toNatClampNeg (8 + v3)) ((m.2 14) (Int32.toNatClampNeg (v2 + v3))))) v2 (v3 + 1) hp hq
def f_X9_takes_v11 (m : Rec) (a : Int32) : Rec := (f_X9_takes_v11_2 40 m a 0)
def p_X9_takes_v11 (m : Rec) (a : Int32) : Prop := (p_X9_takes_v11_2 40 m a 0)
set_option maxHeartbeats 16000000 in
set_option maxRecDepth 20000 in
theorem s_X9_takes_v11 (m : Rec) (a : Int32) (hp : p_X9_takes_v11 m a) : Spec 4 0 0 mX9_takes [.ref 0, .ref 11, .int a] (wM m) (Ret none (wM ((f_X9_takes_v11 m a)))) := by
  obtain ⟨zq, hq⟩ : ∃ z, z = (f_X9_takes_v11 m a) := ⟨_, rfl⟩
  rw [← hq]
  unfold f_X9_takes_v11 at hq
  unfold p_X9_takes_v11 at hp
  refine Sof fun sc => ?_
  refine g_blk hz0 kX9_takes_0 ?_
  refine g_le (L2 := [some (.ref 0), some (.ref 11), some (.int a), some (.int 0)]) ⟨rfl, rfl, rfl, rfl, trivial⟩ ?_
  exact l_X9_takes_v11_2 sc zq 40 m a 0 hp hq

def f_X9_takes_v14_2  : Nat → Rec → Int32 → Int32 → Rec
  | 0, m, v2, v3 => m
  | n + 1, m, v2, v3 => if 20 ≤ v3 then (f_X9_lays m) else (f_X9_takes_v14_2 n (setA m 0 (upd (m.2 0) (Int32.toNatClampNeg (8 + v3)) ((m.2 17) (Int32.toNatClampNeg (v2 + v3))))) v2 (v3 + 1))
def p_X9_takes_v14_2  : Nat → Rec → Int32 → Int32 → Prop
  | 0, _, _, _ => False
  | n + 1, m, v2, v3 => (20 ≤ v3 → ((p_X9_lays m) ∧ True)) ∧ (¬ (20 ≤ v3) → (vp_in (v2 + v3) 20 ∧ (vp_in (8 + v3) 248 ∧ (p_X9_takes_v14_2 n (setA m 0 (upd (m.2 0) (Int32.toNatClampNeg (8 + v3)) ((m.2 17) (Int32.toNatClampNeg (v2 + v3))))) v2 (v3 + 1)))))
set_option maxHeartbeats 16000000 in
set_option maxRecDepth 20000 in
theorem l_X9_takes_v14_2 (sc : SC)   (zq : Rec)  : ∀ (n : Nat) (m : Rec) (v2 : Int32) (v3 : Int32), p_X9_takes_v14_2 n m v2 v3 → zq = f_X9_takes_v14_2 n m v2 v3 → Good sc 4 0 0 17 mX9_takes (Ret none (wM (zq))) 0 0 2 [some (.ref 0), some (.ref 14), some (.int v2), some (.int v3)] [] (wM m) := by
  intro n
  induction n with
  | zero => intro m v2 v3 hp; exact hp.elim
  | succ n ih =>
    intro m v2 v3 hp hq
    unfold p_X9_takes_v14_2 at hp
    unfold f_X9_takes_v14_2 at hq
    refine g_blk hz0 kX9_takes_2 ?_
    refine ⟨fun c1 => ?_, fun c1 => ?_⟩
    · rw [if_pos (show 20 ≤ v3 from c1)] at hq
      replace hp := hp.1 c1
      refine g_blk hz0 kX9_takes_28 ?_
      refine cV [0, 1, 2, 3, 4, 5, 6, 7, 8, 9, 10, 11, 12, 13, 14, 15, 16] (wM m) (s_X9_lays m hp.1) rfl cwX9_lays dX9_takes_29 rfl rfl (hm0_M_M _) rfl (wM (f_X9_lays m)) (pw0_M_M _ _) ?_
      replace hp := hp.2
      refine g_blk hz0 kX9_takes_32 ?_
      subst hq
      exact ⟨rfl, rfl⟩
    · rw [if_neg (show ¬ (20 ≤ v3) from c1)] at hq
      replace hp := hp.2 c1
      refine g_blk hz0 kX9_takes_8 ?_
      refine ⟨hp.1, ?_⟩
      replace hp := hp.2
      refine ⟨hp.1, ?_⟩
      replace hp := hp.2
      refine g_le (L2 := [some (.ref 0), some (.ref 14), some (.int v2), some (.int (v3 + 1))]) ⟨rfl, rfl, rfl, rfl, trivial⟩ ?_
      exact ih (setA m 0 (upd (m.2 0) (Int32.toNatClampNeg (8 + v3)) ((m.2 17) (Int32.toNatClampNeg (v2 + v3))))) v2 (v3 + 1) hp hq
def f_X9_takes_v14 (m : Rec) (a : Int32) : Rec := (f_X9_takes_v14_2 40 m a 0)
def p_X9_takes_v14 (m : Rec) (a : Int32) : Prop := (p_X9_takes_v14_2 40 m a 0)
set_option maxHeartbeats 16000000 in
set_option maxRecDepth 20000 in
theorem s_X9_takes_v14 (m : Rec) (a : Int32) (hp : p_X9_takes_v14 m a) : Spec 4 0 0 mX9_takes [.ref 0, .ref 14, .int a] (wM m) (Ret none (wM ((f_X9_takes_v14 m a)))) := by
  obtain ⟨zq, hq⟩ : ∃ z, z = (f_X9_takes_v14 m a) := ⟨_, rfl⟩
  rw [← hq]
  unfold f_X9_takes_v14 at hq
  unfold p_X9_takes_v14 at hp
  refine Sof fun sc => ?_
  refine g_blk hz0 kX9_takes_0 ?_
  refine g_le (L2 := [some (.ref 0), some (.ref 14), some (.int a), some (.int 0)]) ⟨rfl, rfl, rfl, rfl, trivial⟩ ?_
  exact l_X9_takes_v14_2 sc zq 40 m a 0 hp hq

def f_X9_remembers_61  : Nat → Rec → Int32 → Rec
  | 0, m, v1 => m
  | n + 1, m, v1 => if 20 ≤ v1 then (setA m 0 (upd (m.2 0) 6 (((m.2 0) 6) + 1))) else (f_X9_remembers_61 n (setA m 0 (upd (m.2 0) (Int32.toNatClampNeg ((88 + (20 * ((m.2 0) 6))) + v1)) ((m.2 9) (Int32.toNatClampNeg v1)))) (v1 + 1))
def p_X9_remembers_61  : Nat → Rec → Int32 → Prop
  | 0, _, _ => False
  | n + 1, m, v1 => (20 ≤ v1 → True) ∧ (¬ (20 ≤ v1) → (vp_in v1 20 ∧ (vp_in ((88 + (20 * ((m.2 0) 6))) + v1) 248 ∧ (p_X9_remembers_61 n (setA m 0 (upd (m.2 0) (Int32.toNatClampNeg ((88 + (20 * ((m.2 0) 6))) + v1)) ((m.2 9) (Int32.toNatClampNeg v1)))) (v1 + 1)))))
set_option maxHeartbeats 16000000 in
set_option maxRecDepth 20000 in
theorem l_X9_remembers_61 (sc : SC)   (zq : Rec)  : ∀ (n : Nat) (m : Rec) (v1 : Int32), p_X9_remembers_61 n m v1 → zq = f_X9_remembers_61 n m v1 → Good sc 0 0 0 17 mX9_remembers (Ret none (wM (zq))) 0 0 61 [some (.ref 0), some (.int v1)] [] (wM m) := by
  intro n
  induction n with
  | zero => intro m v1 hp; exact hp.elim
  | succ n ih =>
    intro m v1 hp hq
    unfold p_X9_remembers_61 at hp
    unfold f_X9_remembers_61 at hq
    refine g_blk hz0 kX9_remembers_61 ?_
    refine ⟨fun c3 => ?_, fun c3 => ?_⟩
    · rw [if_pos (show 20 ≤ v1 from c3)] at hq
      refine g_blk hz0 kX9_remembers_99 ?_
      refine ⟨vinL (by decide), ?_⟩
      refine ⟨vinL (by decide), ?_⟩
      subst hq
      exact ⟨rfl, rfl⟩
    · rw [if_neg (show ¬ (20 ≤ v1) from c3)] at hq
      replace hp := hp.2 c3
      refine g_blk hz0 kX9_remembers_67 ?_
      refine ⟨vinL (by decide), ?_⟩
      refine ⟨hp.1, ?_⟩
      replace hp := hp.2
      refine ⟨hp.1, ?_⟩
      replace hp := hp.2
      refine g_le (L2 := [some (.ref 0), some (.int (v1 + 1))]) ⟨rfl, rfl, trivial⟩ ?_
      exact ih (setA m 0 (upd (m.2 0) (Int32.toNatClampNeg ((88 + (20 * ((m.2 0) 6))) + v1)) ((m.2 9) (Int32.toNatClampNeg v1)))) (v1 + 1) hp hq
def f_X9_remembers_14  : Nat → Rec → Int32 → Rec
  | 0, m, v1 => m
  | n + 1, m, v1 => if 140 ≤ v1 then (f_X9_remembers_61 200 (setA m 0 (upd (m.2 0) 6 (((m.2 0) 6) - 1))) 0) else (f_X9_remembers_14 n (setA m 0 (upd (m.2 0) (Int32.toNatClampNeg (88 + v1)) ((m.2 0) (Int32.toNatClampNeg ((88 + v1) + 20))))) (v1 + 1))
def p_X9_remembers_14  : Nat → Rec → Int32 → Prop
  | 0, _, _ => False
  | n + 1, m, v1 => (140 ≤ v1 → (p_X9_remembers_61 200 (setA m 0 (upd (m.2 0) 6 (((m.2 0) 6) - 1))) 0)) ∧ (¬ (140 ≤ v1) → (vp_in ((88 + v1) + 20) 248 ∧ (vp_in (88 + v1) 248 ∧ (p_X9_remembers_14 n (setA m 0 (upd (m.2 0) (Int32.toNatClampNeg (88 + v1)) ((m.2 0) (Int32.toNatClampNeg ((88 + v1) + 20))))) (v1 + 1)))))
set_option maxHeartbeats 16000000 in
set_option maxRecDepth 20000 in
theorem l_X9_remembers_14 (sc : SC)   (zq : Rec)  : ∀ (n : Nat) (m : Rec) (v1 : Int32), p_X9_remembers_14 n m v1 → zq = f_X9_remembers_14 n m v1 → Good sc 0 0 0 17 mX9_remembers (Ret none (wM (zq))) 0 0 14 [some (.ref 0), some (.int v1)] [] (wM m) := by
  intro n
  induction n with
  | zero => intro m v1 hp; exact hp.elim
  | succ n ih =>
    intro m v1 hp hq
    unfold p_X9_remembers_14 at hp
    unfold f_X9_remembers_14 at hq
    refine g_blk hz0 kX9_remembers_14 ?_
    refine ⟨fun c2 => ?_, fun c2 => ?_⟩
    · rw [if_pos (show 140 ≤ v1 from c2)] at hq
      replace hp := hp.1 c2
      refine g_blk hz0 kX9_remembers_48 ?_
      refine ⟨vinL (by decide), ?_⟩
      refine ⟨vinL (by decide), ?_⟩
      refine g_blk hz0 kX9_remembers_59 ?_
      refine g_le (L2 := [some (.ref 0), some (.int 0)]) ⟨rfl, rfl, trivial⟩ ?_
      exact l_X9_remembers_61 sc zq 200 (setA m 0 (upd (m.2 0) 6 (((m.2 0) 6) - 1))) 0 hp hq
    · rw [if_neg (show ¬ (140 ≤ v1) from c2)] at hq
      replace hp := hp.2 c2
      refine g_blk hz0 kX9_remembers_21 ?_
      refine ⟨hp.1, ?_⟩
      replace hp := hp.2
      refine ⟨hp.1, ?_⟩
      replace hp := hp.2
      refine g_le (L2 := [some (.ref 0), some (.int (v1 + 1))]) ⟨rfl, rfl, trivial⟩ ?_
      exact ih (setA m 0 (upd (m.2 0) (Int32.toNatClampNeg (88 + v1)) ((m.2 0) (Int32.toNatClampNeg ((88 + v1) + 20))))) (v1 + 1) hp hq
def f_X9_remembers (m : Rec)  : Rec := if ((m.2 0) 6) = 8 then (f_X9_remembers_14 200 m 0) else (f_X9_remembers_61 200 m 0)
def p_X9_remembers (m : Rec)  : Prop := (((m.2 0) 6) = 8 → (p_X9_remembers_14 200 m 0)) ∧ (¬ (((m.2 0) 6) = 8) → (p_X9_remembers_61 200 m 0))
set_option maxHeartbeats 16000000 in
set_option maxRecDepth 20000 in
theorem s_X9_remembers (m : Rec)  (hp : p_X9_remembers m) : Spec 0 0 0 mX9_remembers [.ref 0] (wM m) (Ret none (wM ((f_X9_remembers m)))) := by
  obtain ⟨zq, hq⟩ : ∃ z, z = (f_X9_remembers m) := ⟨_, rfl⟩
  rw [← hq]
  unfold f_X9_remembers at hq
  unfold p_X9_remembers at hp
  refine Sof fun sc => ?_
  refine g_blk hz0 kX9_remembers_0 ?_
  refine ⟨vinL (by decide), ?_⟩
  refine ⟨fun c1 => ?_, fun c1 => ?_⟩
  · rw [if_neg (show ¬ (((m.2 0) 6) = 8) from c1)] at hq
    replace hp := hp.2 c1
    refine g_blk hz0 kX9_remembers_59 ?_
    refine g_le (L2 := [some (.ref 0), some (.int 0)]) ⟨rfl, rfl, trivial⟩ ?_
    exact l_X9_remembers_61 sc zq 200 m 0 hp hq
  · rw [if_pos (show ((m.2 0) 6) = 8 from c1)] at hq
    replace hp := hp.1 c1
    refine g_blk hz0 kX9_remembers_12 ?_
    refine g_le (L2 := [some (.ref 0), some (.int 0)]) ⟨rfl, rfl, trivial⟩ ?_
    exact l_X9_remembers_14 sc zq 200 m 0 hp hq

def f_X9_step (m : Rec) (x : Int32) (y : Int32) (w : Int32) (d : Int32) : Int32 × Rec := if (f_X9_in (Int32.toInt64 w) 0 3) = 0 then (((f_X9_refuses m 0 (-10)).1), ((f_X9_refuses m 0 (-10)).2)) else (if (f_X9_in (Int32.toInt64 d) 1 2) = 0 then (((f_X9_refuses m 0 (-10)).1), ((f_X9_refuses m 0 (-10)).2)) else (if ((f_X9_steps (f_X9_keeps_v9 (f_X9_lays m) 0) x y w d).1) = 0 then (((f_X9_refuses ((f_X9_steps (f_X9_keeps_v9 (f_X9_lays m) 0) x y w d).2) 1 (-20)).1), ((f_X9_refuses ((f_X9_steps (f_X9_keeps_v9 (f_X9_lays m) 0) x y w d).2) 1 (-20)).2)) else (((f_X9_remembers ((f_X9_steps (f_X9_keeps_v9 (f_X9_lays m) 0) x y w d).2)).1 8), (f_X9_remembers ((f_X9_steps (f_X9_keeps_v9 (f_X9_lays m) 0) x y w d).2)))))
def p_X9_step (m : Rec) (x : Int32) (y : Int32) (w : Int32) (d : Int32) : Prop := ((f_X9_in (Int32.toInt64 w) 0 3) = 0 → ((p_X9_refuses m 0 (-10)) ∧ True)) ∧ (¬ ((f_X9_in (Int32.toInt64 w) 0 3) = 0) → (((f_X9_in (Int32.toInt64 d) 1 2) = 0 → ((p_X9_refuses m 0 (-10)) ∧ True)) ∧ (¬ ((f_X9_in (Int32.toInt64 d) 1 2) = 0) → ((p_X9_lays m) ∧ ((p_X9_keeps_v9 (f_X9_lays m) 0) ∧ ((p_X9_steps (f_X9_keeps_v9 (f_X9_lays m) 0) x y w d) ∧ ((((f_X9_steps (f_X9_keeps_v9 (f_X9_lays m) 0) x y w d).1) = 0 → ((p_X9_refuses ((f_X9_steps (f_X9_keeps_v9 (f_X9_lays m) 0) x y w d).2) 1 (-20)) ∧ True)) ∧ (¬ (((f_X9_steps (f_X9_keeps_v9 (f_X9_lays m) 0) x y w d).1) = 0) → ((p_X9_remembers ((f_X9_steps (f_X9_keeps_v9 (f_X9_lays m) 0) x y w d).2)) ∧ True)))))))))
set_option maxHeartbeats 16000000 in
set_option maxRecDepth 20000 in
theorem s_X9_step (m : Rec) (x : Int32) (y : Int32) (w : Int32) (d : Int32) (hp : p_X9_step m x y w d) : Spec 5 0 0 mX9_step [.ref 0, .int x, .int y, .int w, .int d] (wM m) (Ret (some (.int ((f_X9_step m x y w d).1))) (wM ((f_X9_step m x y w d).2))) := by
  obtain ⟨zq, hq⟩ : ∃ z, z = (f_X9_step m x y w d) := ⟨_, rfl⟩
  rw [← hq]
  unfold f_X9_step at hq
  unfold p_X9_step at hp
  refine Sof fun sc => ?_
  refine g_blk hz0 kX9_step_0 ?_
  refine cS0 (s_X9_in (Int32.toInt64 w) 0 3) rfl cwX9_in dX9_step_6 rfl ?_
  refine g_blk hz0 kX9_step_9 ?_
  refine ⟨fun c1 => ?_, fun c1 => ?_⟩
  · rw [if_pos (show (f_X9_in (Int32.toInt64 w) 0 3) = 0 from c1)] at hq
    replace hp := hp.1 c1
    refine g_blk hz0 kX9_step_25 ?_
    refine cV [0, 1, 2, 3, 4, 5, 6, 7, 8, 9, 10, 11, 12, 13, 14, 15, 16] (wM m) (s_X9_refuses m 0 (-10) hp.1) rfl cwX9_refuses dX9_step_29 rfl rfl (hm0_M_M _) rfl (wM ((f_X9_refuses m 0 (-10)).2)) (pw0_M_M _ _) ?_
    replace hp := hp.2
    refine g_blk hz0 kX9_step_32 ?_
    subst hq
    exact ⟨fun h => (by cases h), rfl, rfl⟩
  · rw [if_neg (show ¬ ((f_X9_in (Int32.toInt64 w) 0 3) = 0) from c1)] at hq
    replace hp := hp.2 c1
    refine g_blk hz0 kX9_step_12 ?_
    refine cS0 (s_X9_in (Int32.toInt64 d) 1 2) rfl cwX9_in dX9_step_19 rfl ?_
    refine g_blk hz0 kX9_step_22 ?_
    refine ⟨fun c2 => ?_, fun c2 => ?_⟩
    · rw [if_neg (show ¬ ((f_X9_in (Int32.toInt64 d) 1 2) = 0) from c2)] at hq
      replace hp := hp.2 c2
      refine g_blk hz0 kX9_step_33 ?_
      refine cV [0, 1, 2, 3, 4, 5, 6, 7, 8, 9, 10, 11, 12, 13, 14, 15, 16] (wM m) (s_X9_lays m hp.1) rfl cwX9_lays dX9_step_34 rfl rfl (hm0_M_M _) rfl (wM (f_X9_lays m)) (pw0_M_M _ _) ?_
      replace hp := hp.2
      refine g_blk hz0 kX9_step_37 ?_
      refine cV [0, 1, 2, 3, 4, 5, 6, 7, 8, 9, 10, 11, 12, 13, 14, 15, 16] (wM (f_X9_lays m)) (s_X9_keeps_v9 (f_X9_lays m) 0 hp.1) rfl cwX9_keeps dX9_step_43 rfl rfl (hm0_M_M _) rfl (wM (f_X9_keeps_v9 (f_X9_lays m) 0)) (pw0_M_M _ _) ?_
      replace hp := hp.2
      refine g_blk hz0 kX9_step_46 ?_
      refine cV [0, 1, 2, 3, 4, 5, 6, 7, 8, 9, 10, 11, 12, 13, 14, 15, 16] (wM (f_X9_keeps_v9 (f_X9_lays m) 0)) (s_X9_steps (f_X9_keeps_v9 (f_X9_lays m) 0) x y w d hp.1) rfl cwX9_steps dX9_step_52 rfl rfl (hm0_M_M _) rfl (wM ((f_X9_steps (f_X9_keeps_v9 (f_X9_lays m) 0) x y w d).2)) (pw0_M_M _ _) ?_
      replace hp := hp.2
      refine g_blk hz0 kX9_step_55 ?_
      refine ⟨fun c3 => ?_, fun c3 => ?_⟩
      · rw [if_neg (show ¬ (((f_X9_steps (f_X9_keeps_v9 (f_X9_lays m) 0) x y w d).1) = 0) from c3)] at hq
        replace hp := hp.2 c3
        refine g_blk hz0 kX9_step_66 ?_
        refine cV [0, 1, 2, 3, 4, 5, 6, 7, 8, 9, 10, 11, 12, 13, 14, 15, 16] (wM ((f_X9_steps (f_X9_keeps_v9 (f_X9_lays m) 0) x y w d).2)) (s_X9_remembers ((f_X9_steps (f_X9_keeps_v9 (f_X9_lays m) 0) x y w d).2) hp.1) rfl cwX9_remembers dX9_step_67 rfl rfl (hm0_M_M _) rfl (wM (f_X9_remembers ((f_X9_steps (f_X9_keeps_v9 (f_X9_lays m) 0) x y w d).2))) (pw0_M_M _ _) ?_
        replace hp := hp.2
        refine g_blk hz0 kX9_step_70 ?_
        subst hq
        exact ⟨fun h => (by cases h), rfl, rfl⟩
      · rw [if_pos (show ((f_X9_steps (f_X9_keeps_v9 (f_X9_lays m) 0) x y w d).1) = 0 from c3)] at hq
        replace hp := hp.1 c3
        refine g_blk hz0 kX9_step_58 ?_
        refine cV [0, 1, 2, 3, 4, 5, 6, 7, 8, 9, 10, 11, 12, 13, 14, 15, 16] (wM ((f_X9_steps (f_X9_keeps_v9 (f_X9_lays m) 0) x y w d).2)) (s_X9_refuses ((f_X9_steps (f_X9_keeps_v9 (f_X9_lays m) 0) x y w d).2) 1 (-20) hp.1) rfl cwX9_refuses dX9_step_62 rfl rfl (hm0_M_M _) rfl (wM ((f_X9_refuses ((f_X9_steps (f_X9_keeps_v9 (f_X9_lays m) 0) x y w d).2) 1 (-20)).2)) (pw0_M_M _ _) ?_
        replace hp := hp.2
        refine g_blk hz0 kX9_step_65 ?_
        subst hq
        exact ⟨fun h => (by cases h), rfl, rfl⟩
    · rw [if_pos (show (f_X9_in (Int32.toInt64 d) 1 2) = 0 from c2)] at hq
      replace hp := hp.1 c2
      refine g_blk hz0 kX9_step_25 ?_
      refine cV [0, 1, 2, 3, 4, 5, 6, 7, 8, 9, 10, 11, 12, 13, 14, 15, 16] (wM m) (s_X9_refuses m 0 (-10) hp.1) rfl cwX9_refuses dX9_step_29 rfl rfl (hm0_M_M _) rfl (wM ((f_X9_refuses m 0 (-10)).2)) (pw0_M_M _ _) ?_
      replace hp := hp.2
      refine g_blk hz0 kX9_step_32 ?_
      subst hq
      exact ⟨fun h => (by cases h), rfl, rfl⟩

def f_X9_fold (m : Rec) (a : Int32) (l : Int32) (w : Int32) : Int32 × Rec := if (f_X9_in (Int32.toInt64 a) 0 1) = 0 then (((f_X9_bad m).1), ((f_X9_bad m).2)) else (if (f_X9_in (Int32.toInt64 w) 0 1) = 0 then (((f_X9_bad m).1), ((f_X9_bad m).2)) else (if ((f_X9_makes (f_X9_keeps_v9 (f_X9_lays m) 0) a l w).1) = 0 then (((f_X9_no ((f_X9_makes (f_X9_keeps_v9 (f_X9_lays m) 0) a l w).2)).1), ((f_X9_no ((f_X9_makes (f_X9_keeps_v9 (f_X9_lays m) 0) a l w).2)).2)) else ((((f_X9_remembers ((f_X9_makes (f_X9_keeps_v9 (f_X9_lays m) 0) a l w).2)).2 0) 27), (f_X9_remembers ((f_X9_makes (f_X9_keeps_v9 (f_X9_lays m) 0) a l w).2)))))
def p_X9_fold (m : Rec) (a : Int32) (l : Int32) (w : Int32) : Prop := ((f_X9_in (Int32.toInt64 a) 0 1) = 0 → ((p_X9_bad m) ∧ True)) ∧ (¬ ((f_X9_in (Int32.toInt64 a) 0 1) = 0) → (((f_X9_in (Int32.toInt64 w) 0 1) = 0 → ((p_X9_bad m) ∧ True)) ∧ (¬ ((f_X9_in (Int32.toInt64 w) 0 1) = 0) → ((p_X9_lays m) ∧ ((p_X9_keeps_v9 (f_X9_lays m) 0) ∧ ((p_X9_makes (f_X9_keeps_v9 (f_X9_lays m) 0) a l w) ∧ ((((f_X9_makes (f_X9_keeps_v9 (f_X9_lays m) 0) a l w).1) = 0 → ((p_X9_no ((f_X9_makes (f_X9_keeps_v9 (f_X9_lays m) 0) a l w).2)) ∧ True)) ∧ (¬ (((f_X9_makes (f_X9_keeps_v9 (f_X9_lays m) 0) a l w).1) = 0) → ((p_X9_remembers ((f_X9_makes (f_X9_keeps_v9 (f_X9_lays m) 0) a l w).2)) ∧ True)))))))))
set_option maxHeartbeats 16000000 in
set_option maxRecDepth 20000 in
theorem s_X9_fold (m : Rec) (a : Int32) (l : Int32) (w : Int32) (hp : p_X9_fold m a l w) : Spec 5 0 0 mX9_fold [.ref 0, .int a, .int l, .int w] (wM m) (Ret (some (.int ((f_X9_fold m a l w).1))) (wM ((f_X9_fold m a l w).2))) := by
  obtain ⟨zq, hq⟩ : ∃ z, z = (f_X9_fold m a l w) := ⟨_, rfl⟩
  rw [← hq]
  unfold f_X9_fold at hq
  unfold p_X9_fold at hp
  refine Sof fun sc => ?_
  refine g_blk hz0 kX9_fold_0 ?_
  refine cS0 (s_X9_in (Int32.toInt64 a) 0 1) rfl cwX9_in dX9_fold_4 rfl ?_
  refine g_blk hz0 kX9_fold_7 ?_
  refine ⟨fun c1 => ?_, fun c1 => ?_⟩
  · rw [if_pos (show (f_X9_in (Int32.toInt64 a) 0 1) = 0 from c1)] at hq
    replace hp := hp.1 c1
    refine g_blk hz0 kX9_fold_20 ?_
    refine cV [0, 1, 2, 3, 4, 5, 6, 7, 8, 9, 10, 11, 12, 13, 14, 15, 16] (wM m) (s_X9_bad m hp.1) rfl cwX9_bad dX9_fold_21 rfl rfl (hm0_M_M _) rfl (wM ((f_X9_bad m).2)) (pw0_M_M _ _) ?_
    replace hp := hp.2
    refine g_blk hz0 kX9_fold_24 ?_
    subst hq
    exact ⟨fun h => (by cases h), rfl, rfl⟩
  · rw [if_neg (show ¬ ((f_X9_in (Int32.toInt64 a) 0 1) = 0) from c1)] at hq
    replace hp := hp.2 c1
    refine g_blk hz0 kX9_fold_10 ?_
    refine cS0 (s_X9_in (Int32.toInt64 w) 0 1) rfl cwX9_in dX9_fold_14 rfl ?_
    refine g_blk hz0 kX9_fold_17 ?_
    refine ⟨fun c2 => ?_, fun c2 => ?_⟩
    · rw [if_neg (show ¬ ((f_X9_in (Int32.toInt64 w) 0 1) = 0) from c2)] at hq
      replace hp := hp.2 c2
      refine g_blk hz0 kX9_fold_25 ?_
      refine cV [0, 1, 2, 3, 4, 5, 6, 7, 8, 9, 10, 11, 12, 13, 14, 15, 16] (wM m) (s_X9_lays m hp.1) rfl cwX9_lays dX9_fold_26 rfl rfl (hm0_M_M _) rfl (wM (f_X9_lays m)) (pw0_M_M _ _) ?_
      replace hp := hp.2
      refine g_blk hz0 kX9_fold_29 ?_
      refine cV [0, 1, 2, 3, 4, 5, 6, 7, 8, 9, 10, 11, 12, 13, 14, 15, 16] (wM (f_X9_lays m)) (s_X9_keeps_v9 (f_X9_lays m) 0 hp.1) rfl cwX9_keeps dX9_fold_35 rfl rfl (hm0_M_M _) rfl (wM (f_X9_keeps_v9 (f_X9_lays m) 0)) (pw0_M_M _ _) ?_
      replace hp := hp.2
      refine g_blk hz0 kX9_fold_38 ?_
      refine cV [0, 1, 2, 3, 4, 5, 6, 7, 8, 9, 10, 11, 12, 13, 14, 15, 16] (wM (f_X9_keeps_v9 (f_X9_lays m) 0)) (s_X9_makes (f_X9_keeps_v9 (f_X9_lays m) 0) a l w hp.1) rfl cwX9_makes dX9_fold_42 rfl rfl (hm0_M_M _) rfl (wM ((f_X9_makes (f_X9_keeps_v9 (f_X9_lays m) 0) a l w).2)) (pw0_M_M _ _) ?_
      replace hp := hp.2
      refine g_blk hz0 kX9_fold_45 ?_
      refine ⟨fun c3 => ?_, fun c3 => ?_⟩
      · rw [if_neg (show ¬ (((f_X9_makes (f_X9_keeps_v9 (f_X9_lays m) 0) a l w).1) = 0) from c3)] at hq
        replace hp := hp.2 c3
        refine g_blk hz0 kX9_fold_53 ?_
        refine cV [0, 1, 2, 3, 4, 5, 6, 7, 8, 9, 10, 11, 12, 13, 14, 15, 16] (wM ((f_X9_makes (f_X9_keeps_v9 (f_X9_lays m) 0) a l w).2)) (s_X9_remembers ((f_X9_makes (f_X9_keeps_v9 (f_X9_lays m) 0) a l w).2) hp.1) rfl cwX9_remembers dX9_fold_54 rfl rfl (hm0_M_M _) rfl (wM (f_X9_remembers ((f_X9_makes (f_X9_keeps_v9 (f_X9_lays m) 0) a l w).2))) (pw0_M_M _ _) ?_
        replace hp := hp.2
        refine g_blk hz0 kX9_fold_57 ?_
        refine ⟨vinL (by decide), ?_⟩
        subst hq
        exact ⟨fun h => (by cases h), rfl, rfl⟩
      · rw [if_pos (show ((f_X9_makes (f_X9_keeps_v9 (f_X9_lays m) 0) a l w).1) = 0 from c3)] at hq
        replace hp := hp.1 c3
        refine g_blk hz0 kX9_fold_48 ?_
        refine cV [0, 1, 2, 3, 4, 5, 6, 7, 8, 9, 10, 11, 12, 13, 14, 15, 16] (wM ((f_X9_makes (f_X9_keeps_v9 (f_X9_lays m) 0) a l w).2)) (s_X9_no ((f_X9_makes (f_X9_keeps_v9 (f_X9_lays m) 0) a l w).2) hp.1) rfl cwX9_no dX9_fold_49 rfl rfl (hm0_M_M _) rfl (wM ((f_X9_no ((f_X9_makes (f_X9_keeps_v9 (f_X9_lays m) 0) a l w).2)).2)) (pw0_M_M _ _) ?_
        replace hp := hp.2
        refine g_blk hz0 kX9_fold_52 ?_
        subst hq
        exact ⟨fun h => (by cases h), rfl, rfl⟩
    · rw [if_pos (show (f_X9_in (Int32.toInt64 w) 0 1) = 0 from c2)] at hq
      replace hp := hp.1 c2
      refine g_blk hz0 kX9_fold_20 ?_
      refine cV [0, 1, 2, 3, 4, 5, 6, 7, 8, 9, 10, 11, 12, 13, 14, 15, 16] (wM m) (s_X9_bad m hp.1) rfl cwX9_bad dX9_fold_21 rfl rfl (hm0_M_M _) rfl (wM ((f_X9_bad m).2)) (pw0_M_M _ _) ?_
      replace hp := hp.2
      refine g_blk hz0 kX9_fold_24 ?_
      subst hq
      exact ⟨fun h => (by cases h), rfl, rfl⟩

def f_X9_state (m : Rec) (w : Int32) : Int32 × Rec := if (f_X9_in (Int32.toInt64 w) 0 5) = 0 then (((f_X9_refuses m 0 (-10)).1), ((f_X9_refuses m 0 (-10)).2)) else (if w = 0 then ((((f_X9_lays m).2 0) 26), (f_X9_lays m)) else (if w = 1 then ((f_X9_turn (f_X9_lays m)), (f_X9_lays m)) else (if w = 2 then ((((f_X9_lays m).2 0) 27), (f_X9_lays m)) else (if w = 3 then ((((f_X9_lays m).2 0) 16), (f_X9_lays m)) else (if w = 4 then ((f_X9_behind (f_X9_lays m)), (f_X9_lays m)) else ((f_X9_won (f_X9_lays m)), (f_X9_lays m)))))))
def p_X9_state (m : Rec) (w : Int32) : Prop := ((f_X9_in (Int32.toInt64 w) 0 5) = 0 → ((p_X9_refuses m 0 (-10)) ∧ True)) ∧ (¬ ((f_X9_in (Int32.toInt64 w) 0 5) = 0) → ((p_X9_lays m) ∧ ((w = 0 → True) ∧ (¬ (w = 0) → ((w = 1 → True) ∧ (¬ (w = 1) → ((w = 2 → True) ∧ (¬ (w = 2) → ((w = 3 → True) ∧ (¬ (w = 3) → ((w = 4 → ((p_X9_behind (f_X9_lays m)) ∧ True)) ∧ (¬ (w = 4) → ((p_X9_won (f_X9_lays m)) ∧ True)))))))))))))
set_option maxHeartbeats 16000000 in
set_option maxRecDepth 20000 in
theorem s_X9_state (m : Rec) (w : Int32) (hp : p_X9_state m w) : Spec 4 0 0 mX9_state [.ref 0, .int w] (wM m) (Ret (some (.int ((f_X9_state m w).1))) (wM ((f_X9_state m w).2))) := by
  obtain ⟨zq, hq⟩ : ∃ z, z = (f_X9_state m w) := ⟨_, rfl⟩
  rw [← hq]
  unfold f_X9_state at hq
  unfold p_X9_state at hp
  refine Sof fun sc => ?_
  refine g_blk hz0 kX9_state_0 ?_
  refine cS0 (s_X9_in (Int32.toInt64 w) 0 5) rfl cwX9_in dX9_state_6 rfl ?_
  refine g_blk hz0 kX9_state_9 ?_
  refine ⟨fun c1 => ?_, fun c1 => ?_⟩
  · rw [if_neg (show ¬ ((f_X9_in (Int32.toInt64 w) 0 5) = 0) from c1)] at hq
    replace hp := hp.2 c1
    refine g_blk hz0 kX9_state_20 ?_
    refine cV [0, 1, 2, 3, 4, 5, 6, 7, 8, 9, 10, 11, 12, 13, 14, 15, 16] (wM m) (s_X9_lays m hp.1) rfl cwX9_lays dX9_state_21 rfl rfl (hm0_M_M _) rfl (wM (f_X9_lays m)) (pw0_M_M _ _) ?_
    replace hp := hp.2
    refine g_blk hz0 kX9_state_24 ?_
    refine ⟨fun c2 => ?_, fun c2 => ?_⟩
    · rw [if_neg (show ¬ (w = 0) from c2)] at hq
      replace hp := hp.2 c2
      refine g_blk hz0 kX9_state_38 ?_
      refine ⟨fun c3 => ?_, fun c3 => ?_⟩
      · rw [if_neg (show ¬ (w = 1) from c3)] at hq
        replace hp := hp.2 c3
        refine g_blk hz0 kX9_state_50 ?_
        refine ⟨fun c4 => ?_, fun c4 => ?_⟩
        · rw [if_neg (show ¬ (w = 2) from c4)] at hq
          replace hp := hp.2 c4
          refine g_blk hz0 kX9_state_65 ?_
          refine ⟨fun c5 => ?_, fun c5 => ?_⟩
          · rw [if_neg (show ¬ (w = 3) from c5)] at hq
            replace hp := hp.2 c5
            refine g_blk hz0 kX9_state_80 ?_
            refine ⟨fun c6 => ?_, fun c6 => ?_⟩
            · rw [if_neg (show ¬ (w = 4) from c6)] at hq
              replace hp := hp.2 c6
              refine g_blk hz0 kX9_state_92 ?_
              refine cVp [0, 1, 2, 3, 4, 5, 6, 7, 8, 9, 10, 11, 12, 13, 14, 15, 16] (wM (f_X9_lays m)) (s_X9_won (f_X9_lays m) hp.1) rfl cwX9_won dX9_state_93 rfl rfl (hm0_M_M _) ?_
              replace hp := hp.2
              refine g_blk hz0 kX9_state_96 ?_
              subst hq
              exact ⟨fun h => (by cases h), rfl, rfl⟩
            · rw [if_pos (show w = 4 from c6)] at hq
              replace hp := hp.1 c6
              refine g_blk hz0 kX9_state_85 ?_
              refine cVp [0, 1, 2, 3, 4, 5, 6, 7, 8, 9, 10, 11, 12, 13, 14, 15, 16] (wM (f_X9_lays m)) (s_X9_behind (f_X9_lays m) hp.1) rfl cwX9_behind dX9_state_86 rfl rfl (hm0_M_M _) ?_
              replace hp := hp.2
              refine g_blk hz0 kX9_state_89 ?_
              refine g_blk hz0 kX9_state_96 ?_
              subst hq
              exact ⟨fun h => (by cases h), rfl, rfl⟩
          · rw [if_pos (show w = 3 from c5)] at hq
            refine g_blk hz0 kX9_state_70 ?_
            refine ⟨vinL (by decide), ?_⟩
            refine g_blk hz0 kX9_state_96 ?_
            subst hq
            exact ⟨fun h => (by cases h), rfl, rfl⟩
        · rw [if_pos (show w = 2 from c4)] at hq
          refine g_blk hz0 kX9_state_55 ?_
          refine ⟨vinL (by decide), ?_⟩
          refine g_blk hz0 kX9_state_96 ?_
          subst hq
          exact ⟨fun h => (by cases h), rfl, rfl⟩
      · rw [if_pos (show w = 1 from c3)] at hq
        refine g_blk hz0 kX9_state_43 ?_
        refine cVp [0, 1, 2, 3, 4, 5, 6, 7, 8, 9, 10, 11, 12, 13, 14, 15, 16] (wM (f_X9_lays m)) (s_X9_turn (f_X9_lays m)) rfl cwX9_turn dX9_state_44 rfl rfl (hm0_M_M _) ?_
        refine g_blk hz0 kX9_state_47 ?_
        refine g_blk hz0 kX9_state_96 ?_
        subst hq
        exact ⟨fun h => (by cases h), rfl, rfl⟩
    · rw [if_pos (show w = 0 from c2)] at hq
      refine g_blk hz0 kX9_state_28 ?_
      refine ⟨vinL (by decide), ?_⟩
      refine g_blk hz0 kX9_state_96 ?_
      subst hq
      exact ⟨fun h => (by cases h), rfl, rfl⟩
  · rw [if_pos (show (f_X9_in (Int32.toInt64 w) 0 5) = 0 from c1)] at hq
    replace hp := hp.1 c1
    refine g_blk hz0 kX9_state_12 ?_
    refine cV [0, 1, 2, 3, 4, 5, 6, 7, 8, 9, 10, 11, 12, 13, 14, 15, 16] (wM m) (s_X9_refuses m 0 (-10) hp.1) rfl cwX9_refuses dX9_state_16 rfl rfl (hm0_M_M _) rfl (wM ((f_X9_refuses m 0 (-10)).2)) (pw0_M_M _ _) ?_
    replace hp := hp.2
    refine g_blk hz0 kX9_state_19 ?_
    subst hq
    exact ⟨fun h => (by cases h), rfl, rfl⟩

def f_X9_undo_28  : Nat → Rec → Int32 → Int32 × Rec
  | 0, m, v1 => (0, m)
  | n + 1, m, v1 => if 20 ≤ v1 then (1, m) else (f_X9_undo_28 n (setA m 0 (upd (m.2 0) (Int32.toNatClampNeg (8 + v1)) ((m.2 0) (Int32.toNatClampNeg ((88 + (20 * ((m.2 0) 6))) + v1))))) (v1 + 1))
def p_X9_undo_28  : Nat → Rec → Int32 → Prop
  | 0, _, _ => False
  | n + 1, m, v1 => (20 ≤ v1 → True) ∧ (¬ (20 ≤ v1) → (vp_in ((88 + (20 * ((m.2 0) 6))) + v1) 248 ∧ (vp_in (8 + v1) 248 ∧ (p_X9_undo_28 n (setA m 0 (upd (m.2 0) (Int32.toNatClampNeg (8 + v1)) ((m.2 0) (Int32.toNatClampNeg ((88 + (20 * ((m.2 0) 6))) + v1))))) (v1 + 1)))))
set_option maxHeartbeats 16000000 in
set_option maxRecDepth 20000 in
theorem l_X9_undo_28 (sc : SC)   (zq : Int32 × Rec)  : ∀ (n : Nat) (m : Rec) (v1 : Int32), p_X9_undo_28 n m v1 → zq = f_X9_undo_28 n m v1 → Good sc 2 0 0 17 mX9_undo (Ret (some (.int (zq.1))) (wM (zq.2))) 0 0 28 [some (.ref 0), some (.int v1)] [] (wM m) := by
  intro n
  induction n with
  | zero => intro m v1 hp; exact hp.elim
  | succ n ih =>
    intro m v1 hp hq
    unfold p_X9_undo_28 at hp
    unfold f_X9_undo_28 at hq
    refine g_blk hz0 kX9_undo_28 ?_
    refine ⟨fun c2 => ?_, fun c2 => ?_⟩
    · rw [if_pos (show 20 ≤ v1 from c2)] at hq
      refine g_blk hz0 kX9_undo_69 ?_
      subst hq
      exact ⟨fun h => (by cases h), rfl, rfl⟩
    · rw [if_neg (show ¬ (20 ≤ v1) from c2)] at hq
      replace hp := hp.2 c2
      refine g_blk hz0 kX9_undo_34 ?_
      refine ⟨vinL (by decide), ?_⟩
      refine ⟨hp.1, ?_⟩
      replace hp := hp.2
      refine ⟨hp.1, ?_⟩
      replace hp := hp.2
      refine g_le (L2 := [some (.ref 0), some (.int (v1 + 1))]) ⟨rfl, rfl, trivial⟩ ?_
      exact ih (setA m 0 (upd (m.2 0) (Int32.toNatClampNeg (8 + v1)) ((m.2 0) (Int32.toNatClampNeg ((88 + (20 * ((m.2 0) 6))) + v1))))) (v1 + 1) hp hq
def f_X9_undo (m : Rec)  : Int32 × Rec := if ((m.2 0) 6) = 0 then (((f_X9_no m).1), ((f_X9_no m).2)) else (f_X9_undo_28 40 (setA m 0 (upd (m.2 0) 6 (((m.2 0) 6) - 1))) 0)
def p_X9_undo (m : Rec)  : Prop := (((m.2 0) 6) = 0 → ((p_X9_no m) ∧ True)) ∧ (¬ (((m.2 0) 6) = 0) → (p_X9_undo_28 40 (setA m 0 (upd (m.2 0) 6 (((m.2 0) 6) - 1))) 0))
set_option maxHeartbeats 16000000 in
set_option maxRecDepth 20000 in
theorem s_X9_undo (m : Rec)  (hp : p_X9_undo m) : Spec 2 0 0 mX9_undo [.ref 0] (wM m) (Ret (some (.int ((f_X9_undo m).1))) (wM ((f_X9_undo m).2))) := by
  obtain ⟨zq, hq⟩ : ∃ z, z = (f_X9_undo m) := ⟨_, rfl⟩
  rw [← hq]
  unfold f_X9_undo at hq
  unfold p_X9_undo at hp
  refine Sof fun sc => ?_
  refine g_blk hz0 kX9_undo_0 ?_
  refine ⟨vinL (by decide), ?_⟩
  refine ⟨fun c1 => ?_, fun c1 => ?_⟩
  · rw [if_neg (show ¬ (((m.2 0) 6) = 0) from c1)] at hq
    replace hp := hp.2 c1
    refine g_blk hz0 kX9_undo_15 ?_
    refine ⟨vinL (by decide), ?_⟩
    refine ⟨vinL (by decide), ?_⟩
    refine g_le (L2 := [some (.ref 0), some (.int 0)]) ⟨rfl, rfl, trivial⟩ ?_
    exact l_X9_undo_28 sc zq 40 (setA m 0 (upd (m.2 0) 6 (((m.2 0) 6) - 1))) 0 hp hq
  · rw [if_pos (show ((m.2 0) 6) = 0 from c1)] at hq
    replace hp := hp.1 c1
    refine g_blk hz0 kX9_undo_10 ?_
    refine cV [0, 1, 2, 3, 4, 5, 6, 7, 8, 9, 10, 11, 12, 13, 14, 15, 16] (wM m) (s_X9_no m hp.1) rfl cwX9_no dX9_undo_11 rfl rfl (hm0_M_M _) rfl (wM ((f_X9_no m).2)) (pw0_M_M _ _) ?_
    replace hp := hp.2
    refine g_blk hz0 kX9_undo_14 ?_
    subst hq
    exact ⟨fun h => (by cases h), rfl, rfl⟩
