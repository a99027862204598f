def f_X9_best_67  : Nat → Rec → Int32 → Int32 → Int32 → Int32 → Int32 × Rec
  | 0, m, v1, v2, v3, v4 => (0, m)
  | n + 1, m, v1, v2, v3, v4 => if v3 = (Int32.ofInt (-1)) then (if ((f_X9_picksStep m v4).1) = 0 then (v3, ((f_X9_picksStep m v4).2)) else (if ((f_X9_steps ((f_X9_picksStep m v4).2) (((f_X9_picksStep m v4).2).1 18) (((f_X9_picksStep m v4).2).1 19) (((f_X9_picksStep m v4).2).1 20) (((f_X9_picksStep m v4).2).1 21)).1) = 0 then (f_X9_best_67 n ((f_X9_steps ((f_X9_picksStep m v4).2) (((f_X9_picksStep m v4).2).1 18) (((f_X9_picksStep m v4).2).1 19) (((f_X9_picksStep m v4).2).1 20) (((f_X9_picksStep m v4).2).1 21)).2) v1 v2 v3 (v4 + (Int32.ofInt 1))) else (if ((f_X9_plays ((f_X9_steps ((f_X9_picksStep m v4).2) (((f_X9_picksStep m v4).2).1 18) (((f_X9_picksStep m v4).2).1 19) (((f_X9_picksStep m v4).2).1 20) (((f_X9_picksStep m v4).2).1 21)).2) (v1 - (Int32.ofInt 1)) v2).1) = 0 then (f_X9_best_67 n (f_X9_takes_v14 ((f_X9_plays ((f_X9_steps ((f_X9_picksStep m v4).2) (((f_X9_picksStep m v4).2).1 18) (((f_X9_picksStep m v4).2).1 19) (((f_X9_picksStep m v4).2).1 20) (((f_X9_picksStep m v4).2).1 21)).2) (v1 - (Int32.ofInt 1)) v2).2) ((Int32.ofInt 0))) v1 v2 ((Int32.ofInt (-1))) (v4 + (Int32.ofInt 1))) else (f_X9_best_67 n (f_X9_takes_v14 ((f_X9_plays ((f_X9_steps ((f_X9_picksStep m v4).2) (((f_X9_picksStep m v4).2).1 18) (((f_X9_picksStep m v4).2).1 19) (((f_X9_picksStep m v4).2).1 20) (((f_X9_picksStep m v4).2).1 21)).2) (v1 - (Int32.ofInt 1)) v2).2) ((Int32.ofInt 0))) v1 v2 (((((Int32.ofInt 10000) * ((((f_X9_picksStep m v4).2).1 19) + (Int32.ofInt 20))) + ((Int32.ofInt 100) * ((((f_X9_picksStep m v4).2).1 18) + (Int32.ofInt 20)))) + ((Int32.ofInt 10) * (((f_X9_picksStep m v4).2).1 20))) + (((f_X9_picksStep m v4).2).1 21)) (v4 + (Int32.ofInt 1)))))) else (v3, m)
def p_X9_best_67  : Nat → Rec → Int32 → Int32 → Int32 → Int32 → Prop
  | 0, _, _, _, _, _ => False
  | n + 1, m, v1, v2, v3, v4 => (v3 = (Int32.ofInt (-1)) → ((p_X9_picksStep m v4) ∧ ((((f_X9_picksStep m v4).1) = 0 → True) ∧ (¬ (((f_X9_picksStep m v4).1) = 0) → ((p_X9_steps ((f_X9_picksStep m v4).2) (((f_X9_picksStep m v4).2).1 18) (((f_X9_picksStep m v4).2).1 19) (((f_X9_picksStep m v4).2).1 20) (((f_X9_picksStep m v4).2).1 21)) ∧ ((((f_X9_steps ((f_X9_picksStep m v4).2) (((f_X9_picksStep m v4).2).1 18) (((f_X9_picksStep m v4).2).1 19) (((f_X9_picksStep m v4).2).1 20) (((f_X9_picksStep m v4).2).1 21)).1) = 0 → (p_X9_best_67 n ((f_X9_steps ((f_X9_picksStep m v4).2) (((f_X9_picksStep m v4).2).1 18) (((f_X9_picksStep m v4).2).1 19) (((f_X9_picksStep m v4).2).1 20) (((f_X9_picksStep m v4).2).1 21)).2) v1 v2 v3 (v4 + (Int32.ofInt 1)))) ∧ (¬ (((f_X9_steps ((f_X9_picksStep m v4).2) (((f_X9_picksStep m v4).2).1 18) (((f_X9_picksStep m v4).2).1 19) (((f_X9_picksStep m v4).2).1 20) (((f_X9_picksStep m v4).2).1 21)).1) = 0) → ((p_X9_plays ((f_X9_steps ((f_X9_picksStep m v4).2) (((f_X9_picksStep m v4).2).1 18) (((f_X9_picksStep m v4).2).1 19) (((f_X9_picksStep m v4).2).1 20) (((f_X9_picksStep m v4).2).1 21)).2) (v1 - (Int32.ofInt 1)) v2) ∧ ((((f_X9_plays ((f_X9_steps ((f_X9_picksStep m v4).2) (((f_X9_picksStep m v4).2).1 18) (((f_X9_picksStep m v4).2).1 19) (((f_X9_picksStep m v4).2).1 20) (((f_X9_picksStep m v4).2).1 21)).2) (v1 - (Int32.ofInt 1)) v2).1) = 0 → ((p_X9_takes_v14 ((f_X9_plays ((f_X9_steps ((f_X9_picksStep m v4).2) (((f_X9_picksStep m v4).2).1 18) (((f_X9_picksStep m v4).2).1 19) (((f_X9_picksStep m v4).2).1 20) (((f_X9_picksStep m v4).2).1 21)).2) (v1 - (Int32.ofInt 1)) v2).2) ((Int32.ofInt 0))) ∧ (p_X9_best_67 n (f_X9_takes_v14 ((f_X9_plays ((f_X9_steps ((f_X9_picksStep m v4).2) (((f_X9_picksStep m v4).2).1 18) (((f_X9_picksStep m v4).2).1 19) (((f_X9_picksStep m v4).2).1 20) (((f_X9_picksStep m v4).2).1 21)).2) (v1 - (Int32.ofInt 1)) v2).2) ((Int32.ofInt 0))) v1 v2 ((Int32.ofInt (-1))) (v4 + (Int32.ofInt 1))))) ∧ (¬ (((f_X9_plays ((f_X9_steps ((f_X9_picksStep m v4).2) (((f_X9_picksStep m v4).2).1 18) (((f_X9_picksStep m v4).2).1 19) (((f_X9_picksStep m v4).2).1 20) (((f_X9_picksStep m v4).2).1 21)).2) (v1 - (Int32.ofInt 1)) v2).1) = 0) → ((p_X9_takes_v14 ((f_X9_plays ((f_X9_steps ((f_X9_picksStep m v4).2) (((f_X9_picksStep m v4).2).1 18) (((f_X9_picksStep m v4).2).1 19) (((f_X9_picksStep m v4).2).1 20) (((f_X9_picksStep m v4).2).1 21)).2) (v1 - (Int32.ofInt 1)) v2).2) ((Int32.ofInt 0))) ∧ (p_X9_best_67 n (f_X9_takes_v14 ((f_X9_plays ((f_X9_steps ((f_X9_picksStep m v4).2) (((f_X9_picksStep m v4).2).1 18) (((f_X9_picksStep m v4).2).1 19) (((f_X9_picksStep m v4).2).1 20) (((f_X9_picksStep m v4).2).1 21)).2) (v1 - (Int32.ofInt 1)) v2).2) ((Int32.ofInt 0))) v1 v2 (((((Int32.ofInt 10000) * ((((f_X9_picksStep m v4).2).1 19) + (Int32.ofInt 20))) + ((Int32.ofInt 100) * ((((f_X9_picksStep m v4).2).1 18) + (Int32.ofInt 20)))) + ((Int32.ofInt 10) * (((f_X9_picksStep m v4).2).1 20))) + (((f_X9_picksStep m v4).2).1 21)) (v4 + (Int32.ofInt 1)))))))))))))) ∧ (¬ (v3 = (Int32.ofInt (-1))) → True)
set_option maxHeartbeats 16000000 in
set_option maxRecDepth 20000 in
theorem l_X9_best_67 (sc : SC)   (zq : Int32 × Rec)  : ∀ (n : Nat) (m : Rec) (v1 : Int32) (v2 : Int32) (v3 : Int32) (v4 : Int32), p_X9_best_67 n m v1 v2 v3 v4 → zq = f_X9_best_67 n m v1 v2 v3 v4 → Good sc 8 0 0 17 mX9_best (Ret (some (.int (zq.1))) (wM (zq.2))) 0 0 67 [some (.ref 0), some (.int v1), some (.int v2), some (.int v3), some (.int v4), none] [] (wM m) := by
  intro n
  induction n with
  | zero => intro m v1 v2 v3 v4 hp; exact hp.elim
  | succ n ih =>
    intro m v1 v2 v3 v4 hp hq
    unfold p_X9_best_67 at hp
    unfold f_X9_best_67 at hq
    refine g_blk hz0 kX9_best_67 ?_
    refine ⟨fun c8 => ?_, fun c8 => ?_⟩
    · rw [if_neg (show ¬ (v3 = (Int32.ofInt (-1))) from c8)] at hq
      refine g_blk hz0 kX9_best_174 ?_
      subst hq
      exact ⟨fun h => (by cases h), rfl, rfl⟩
    · rw [if_pos (show v3 = (Int32.ofInt (-1)) from c8)] at hq
      replace hp := hp.1 c8
      refine g_blk hz0 kX9_best_72 ?_
      refine cV [0, 1, 2, 3, 4, 5, 6, 7, 8, 9, 10, 11, 12, 13, 14, 15, 16] (wM m) (s_X9_picksStep m v4 hp.1) rfl cwX9_picksStep dX9_best_75 rfl rfl (hm0_M_M _) ((len_M _).trans (len_M _).symm) (wM ((f_X9_picksStep m v4).2)) (pw0_M_M _ _) ?_
      replace hp := hp.2
      obtain ⟨g9, hg9⟩ : ∃ z, z = (f_X9_picksStep m v4) := ⟨_, rfl⟩
      try rw [← hg9] at hp
      try rw [← hg9] at hq
      rw [← hg9]
      refine g_blk hz0 kX9_best_78 ?_
      refine ⟨fun c10 => ?_, fun c10 => ?_⟩
      · rw [if_pos (show (g9.1) = 0 from c10)] at hq
        refine g_blk hz0 kX9_best_174 ?_
        subst hq
        exact ⟨fun h => (by cases h), rfl, rfl⟩
      · rw [if_neg (show ¬ ((g9.1) = 0) from c10)] at hq
        replace hp := hp.2 c10
        refine g_blk hz0 kX9_best_81 ?_
        refine cV [0, 1, 2, 3, 4, 5, 6, 7, 8, 9, 10, 11, 12, 13, 14, 15, 16] (wM (g9.2)) (s_X9_steps (g9.2) ((g9.2).1 18) ((g9.2).1 19) ((g9.2).1 20) ((g9.2).1 21) hp.1) rfl cwX9_steps dX9_best_135 rfl rfl (hm0_M_M _) ((len_M _).trans (len_M _).symm) (wM ((f_X9_steps (g9.2) ((g9.2).1 18) ((g9.2).1 19) ((g9.2).1 20) ((g9.2).1 21)).2)) (pw0_M_M _ _) ?_
        replace hp := hp.2
        obtain ⟨g11, hg11⟩ : ∃ z, z = (f_X9_steps (g9.2) ((g9.2).1 18) ((g9.2).1 19) ((g9.2).1 20) ((g9.2).1 21)) := ⟨_, rfl⟩
        try rw [← hg11] at hp
        try rw [← hg11] at hq
        rw [← hg11]
        refine g_blk hz0 kX9_best_138 ?_
        refine ⟨fun c12 => ?_, fun c12 => ?_⟩
        · rw [if_pos (show (g11.1) = 0 from c12)] at hq
          replace hp := hp.1 c12
          refine g_blk hz0 kX9_best_168 ?_
          refine g_le (L2 := [some (.ref 0), some (.int v1), some (.int v2), some (.int v3), some (.int (v4 + (Int32.ofInt 1))), none]) ⟨rfl, rfl, rfl, rfl, rfl, trivial⟩ ?_
          exact ih (g11.2) v1 v2 v3 (v4 + (Int32.ofInt 1)) hp hq
        · rw [if_neg (show ¬ ((g11.1) = 0) from c12)] at hq
          replace hp := hp.2 c12
          refine g_blk hz0 kX9_best_141 ?_
          refine cV [0, 1, 2, 3, 4, 5, 6, 7, 8, 9, 10, 11, 12, 13, 14, 15, 16] (wM (g11.2)) (s_X9_plays (g11.2) (v1 - (Int32.ofInt 1)) v2 hp.1) rfl cwX9_plays dX9_best_146 rfl rfl (hm0_M_M _) ((len_M _).trans (len_M _).symm) (wM ((f_X9_plays (g11.2) (v1 - (Int32.ofInt 1)) v2).2)) (pw0_M_M _ _) ?_
          replace hp := hp.2
          obtain ⟨g13, hg13⟩ : ∃ z, z = (f_X9_plays (g11.2) (v1 - (Int32.ofInt 1)) v2) := ⟨_, rfl⟩
          try rw [← hg13] at hp
          try rw [← hg13] at hq
          rw [← hg13]
          refine g_blk hz0 kX9_best_149 ?_
          refine ⟨fun c14 => ?_, fun c14 => ?_⟩
          · rw [if_pos (show (g13.1) = 0 from c14)] at hq
            replace hp := hp.1 c14
            refine g_blk hz0 kX9_best_157 ?_
            refine g_blk hz0 kX9_best_158 ?_
            refine cV [0, 1, 2, 3, 4, 5, 6, 7, 8, 9, 10, 11, 12, 13, 14, 15, 16] (wM (g13.2)) (s_X9_takes_v14 (g13.2) ((Int32.ofInt 0)) hp.1) rfl cwX9_takes dX9_best_165 rfl rfl (hm0_M_M _) ((len_M _).trans (len_M _).symm) (wM (f_X9_takes_v14 (g13.2) ((Int32.ofInt 0)))) (pw0_M_M _ _) ?_
            replace hp := hp.2
            obtain ⟨g15, hg15⟩ : ∃ z, z = (f_X9_takes_v14 (g13.2) ((Int32.ofInt 0))) := ⟨_, rfl⟩
            try rw [← hg15] at hp
            try rw [← hg15] at hq
            rw [← hg15]
            refine g_blk hz0 kX9_best_168 ?_
            refine g_le (L2 := [some (.ref 0), some (.int v1), some (.int v2), some (.int (Int32.ofInt (-1))), some (.int (v4 + (Int32.ofInt 1))), none]) ⟨rfl, rfl, rfl, rfl, rfl, trivial⟩ ?_
            exact ih g15 v1 v2 ((Int32.ofInt (-1))) (v4 + (Int32.ofInt 1)) hp hq
          · rw [if_neg (show ¬ ((g13.1) = 0) from c14)] at hq
            replace hp := hp.2 c14
            refine g_blk hz0 kX9_best_152 ?_
            refine g_blk hz0 kX9_best_158 ?_
            refine cV [0, 1, 2, 3, 4, 5, 6, 7, 8, 9, 10, 11, 12, 13, 14, 15, 16] (wM (g13.2)) (s_X9_takes_v14 (g13.2) ((Int32.ofInt 0)) hp.1) rfl cwX9_takes dX9_best_165 rfl rfl (hm0_M_M _) ((len_M _).trans (len_M _).symm) (wM (f_X9_takes_v14 (g13.2) ((Int32.ofInt 0)))) (pw0_M_M _ _) ?_
            replace hp := hp.2
            obtain ⟨g16, hg16⟩ : ∃ z, z = (f_X9_takes_v14 (g13.2) ((Int32.ofInt 0))) := ⟨_, rfl⟩
            try rw [← hg16] at hp
            try rw [← hg16] at hq
            rw [← hg16]
            refine g_blk hz0 kX9_best_168 ?_
            refine g_le (L2 := [some (.ref 0), some (.int v1), some (.int v2), some (.int (((((Int32.ofInt 10000) * (((g9.2).1 19) + (Int32.ofInt 20))) + ((Int32.ofInt 100) * (((g9.2).1 18) + (Int32.ofInt 20)))) + ((Int32.ofInt 10) * ((g9.2).1 20))) + ((g9.2).1 21))), some (.int (v4 + (Int32.ofInt 1))), none]) ⟨rfl, rfl, rfl, rfl, rfl, trivial⟩ ?_
            exact ih g16 v1 v2 (((((Int32.ofInt 10000) * (((g9.2).1 19) + (Int32.ofInt 20))) + ((Int32.ofInt 100) * (((g9.2).1 18) + (Int32.ofInt 20)))) + ((Int32.ofInt 10) * ((g9.2).1 20))) + ((g9.2).1 21)) (v4 + (Int32.ofInt 1)) hp hq
def f_X9_best (m : Rec) (n : Int32) : Int32 × Rec := if (f_X9_in (Int32.toInt64 n) ((Int64.ofNat 0)) 3) = 0 then (((f_X9_bad m).1), ((f_X9_bad m).2)) else (if n = 0 then ((Int32.ofInt (-1)), (f_X9_lays m)) else (if 0 < (((f_X9_lays m).2 0) (Int32.toNatClampNeg (Int32.ofInt 27))) then ((Int32.ofInt (-1)), (f_X9_lays m)) else (if (f_X9_won (f_X9_lays m)) = (f_X9_turn (f_X9_lays m)) then ((Int32.ofInt (-1)), (f_X9_lays m)) else (f_X9_best_67 1000000000000 (f_X9_keeps_v14 (f_X9_lays m) ((Int32.ofInt 0))) n (f_X9_turn (f_X9_keeps_v14 (f_X9_lays m) ((Int32.ofInt 0)))) ((Int32.ofInt (-1))) ((Int32.ofInt 0))))))
def p_X9_best (m : Rec) (n : Int32) : Prop := ((f_X9_in (Int32.toInt64 n) ((Int64.ofNat 0)) 3) = 0 → ((p_X9_bad m) ∧ True)) ∧ (¬ ((f_X9_in (Int32.toInt64 n) ((Int64.ofNat 0)) 3) = 0) → ((p_X9_lays m) ∧ ((n = 0 → True) ∧ (¬ (n = 0) → ((0 < (((f_X9_lays m).2 0) (Int32.toNatClampNeg (Int32.ofInt 27))) → True) ∧ (¬ (0 < (((f_X9_lays m).2 0) (Int32.toNatClampNeg (Int32.ofInt 27)))) → ((p_X9_won (f_X9_lays m)) ∧ (((f_X9_won (f_X9_lays m)) = (f_X9_turn (f_X9_lays m)) → True) ∧ (¬ ((f_X9_won (f_X9_lays m)) = (f_X9_turn (f_X9_lays m))) → ((p_X9_keeps_v14 (f_X9_lays m) ((Int32.ofInt 0))) ∧ (p_X9_best_67 1000000000000 (f_X9_keeps_v14 (f_X9_lays m) ((Int32.ofInt 0))) n (f_X9_turn (f_X9_keeps_v14 (f_X9_lays m) ((Int32.ofInt 0)))) ((Int32.ofInt (-1))) ((Int32.ofInt 0)))))))))))))
set_option maxHeartbeats 16000000 in
set_option maxRecDepth 20000 in
theorem s_X9_best (m : Rec) (n : Int32) (hp : p_X9_best m n) : Spec 8 0 0 mX9_best [.ref 0, .int n] (wM m) (Ret (some (.int ((f_X9_best m n).1))) (wM ((f_X9_best m n).2))) := by
  obtain ⟨zq, hq⟩ : ∃ z, z = (f_X9_best m n) := ⟨_, rfl⟩
  rw [← hq]
  unfold f_X9_best at hq
  unfold p_X9_best at hp
  refine Sof fun sc => ?_
  refine g_blk hz0 kX9_best_0 ?_
  refine cS0 (s_X9_in (Int32.toInt64 n) ((Int64.ofNat 0)) 3) rfl cwX9_in dX9_best_6 rfl ?_
  refine g_blk hz0 kX9_best_9 ?_
  refine ⟨fun c1 => ?_, fun c1 => ?_⟩
  · rw [if_neg (show ¬ ((f_X9_in (Int32.toInt64 n) ((Int64.ofNat 0)) 3) = 0) from c1)] at hq
    replace hp := hp.2 c1
    refine g_blk hz0 kX9_best_17 ?_
    refine cV [0, 1, 2, 3, 4, 5, 6, 7, 8, 9, 10, 11, 12, 13, 14, 15, 16] (wM m) (s_X9_lays m hp.1) rfl cwX9_lays dX9_best_18 rfl rfl (hm0_M_M _) ((len_M _).trans (len_M _).symm) (wM (f_X9_lays m)) (pw0_M_M _ _) ?_
    replace hp := hp.2
    obtain ⟨g3, hg3⟩ : ∃ z, z = (f_X9_lays m) := ⟨_, rfl⟩
    try rw [← hg3] at hp
    try rw [← hg3] at hq
    rw [← hg3]
    refine g_blk hz0 kX9_best_21 ?_
    refine ⟨fun c4 => ?_, fun c4 => ?_⟩
    · rw [if_pos (show n = 0 from c4)] at hq
      refine g_blk hz0 kX9_best_46 ?_
      subst hq
      exact ⟨fun h => (by cases h), rfl, rfl⟩
    · rw [if_neg (show ¬ (n = 0) from c4)] at hq
      replace hp := hp.2 c4
      refine g_blk hz0 kX9_best_25 ?_
      refine ⟨vinL (by decide), ?_⟩
      refine ⟨fun c5 => ?_, fun c5 => ?_⟩
      · rw [if_pos (show 0 < ((g3.2 0) (Int32.toNatClampNeg (Int32.ofInt 27))) from c5)] at hq
        refine g_blk hz0 kX9_best_46 ?_
        subst hq
        exact ⟨fun h => (by cases h), rfl, rfl⟩
      · rw [if_neg (show ¬ (0 < ((g3.2 0) (Int32.toNatClampNeg (Int32.ofInt 27)))) from c5)] at hq
        replace hp := hp.2 c5
        refine g_blk hz0 kX9_best_35 ?_
        refine cVp [0, 1, 2, 3, 4, 5, 6, 7, 8, 9, 10, 11, 12, 13, 14, 15, 16] (wM g3) (s_X9_won g3 hp.1) rfl cwX9_won dX9_best_36 rfl rfl (hm0_M_M _) ?_
        replace hp := hp.2
        refine g_blk hz0 kX9_best_39 ?_
        refine cVp [0, 1, 2, 3, 4, 5, 6, 7, 8, 9, 10, 11, 12, 13, 14, 15, 16] (wM g3) (s_X9_turn g3) rfl cwX9_turn dX9_best_40 rfl rfl (hm0_M_M _) ?_
        refine g_blk hz0 kX9_best_43 ?_
        refine ⟨fun c6 => ?_, fun c6 => ?_⟩
        · rw [if_neg (show ¬ ((f_X9_won g3) = (f_X9_turn g3)) from c6)] at hq
          replace hp := hp.2 c6
          refine g_blk hz0 kX9_best_48 ?_
          refine cV [0, 1, 2, 3, 4, 5, 6, 7, 8, 9, 10, 11, 12, 13, 14, 15, 16] (wM g3) (s_X9_keeps_v14 g3 ((Int32.ofInt 0)) hp.1) rfl cwX9_keeps dX9_best_54 rfl rfl (hm0_M_M _) ((len_M _).trans (len_M _).symm) (wM (f_X9_keeps_v14 g3 ((Int32.ofInt 0)))) (pw0_M_M _ _) ?_
          replace hp := hp.2
          obtain ⟨g7, hg7⟩ : ∃ z, z = (f_X9_keeps_v14 g3 ((Int32.ofInt 0))) := ⟨_, rfl⟩
          try rw [← hg7] at hp
          try rw [← hg7] at hq
          rw [← hg7]
          refine g_blk hz0 kX9_best_57 ?_
          refine cVp [0, 1, 2, 3, 4, 5, 6, 7, 8, 9, 10, 11, 12, 13, 14, 15, 16] (wM g7) (s_X9_turn g7) rfl cwX9_turn dX9_best_58 rfl rfl (hm0_M_M _) ?_
          refine g_blk hz0 kX9_best_61 ?_
          refine g_le (L2 := [some (.ref 0), some (.int n), some (.int (f_X9_turn g7)), some (.int (Int32.ofInt (-1))), some (.int (Int32.ofInt 0)), none]) ⟨rfl, rfl, rfl, rfl, rfl, trivial⟩ ?_
          exact l_X9_best_67 sc zq 1000000000000 g7 n (f_X9_turn g7) ((Int32.ofInt (-1))) ((Int32.ofInt 0)) hp hq
        · rw [if_pos (show (f_X9_won g3) = (f_X9_turn g3) from c6)] at hq
          refine g_blk hz0 kX9_best_46 ?_
          subst hq
          exact ⟨fun h => (by cases h), rfl, rfl⟩
  · rw [if_pos (show (f_X9_in (Int32.toInt64 n) ((Int64.ofNat 0)) 3) = 0 from c1)] at hq
    replace hp := hp.1 c1
    refine g_blk hz0 kX9_best_12 ?_
    refine cV [0, 1, 2, 3, 4, 5, 6, 7, 8, 9, 10, 11, 12, 13, 14, 15, 16] (wM m) (s_X9_bad m hp.1) rfl cwX9_bad dX9_best_13 rfl rfl (hm0_M_M _) ((len_M _).trans (len_M _).symm) (wM ((f_X9_bad m).2)) (pw0_M_M _ _) ?_
    replace hp := hp.2
    obtain ⟨g2, hg2⟩ : ∃ z, z = (f_X9_bad m) := ⟨_, rfl⟩
    try rw [← hg2] at hp
    try rw [← hg2] at hq
    rw [← hg2]
    refine g_blk hz0 kX9_best_16 ?_
    subst hq
    exact ⟨fun h => (by cases h), rfl, rfl⟩
