def f_X9_goes (m : Rec) (i : Int32) : Int32 × Rec := if ((m.2 28) (Int32.toNatClampNeg ((Int32.ofInt 5) * i))) = (Int32.ofInt 4) then (if (f_X9_in (Int32.toInt64 ((m.2 28) (Int32.toNatClampNeg (((Int32.ofInt 5) * i) + (Int32.ofInt 3))))) ((Int64.ofNat 0)) 3) = 0 then ((Int32.ofInt 0), m) else (if (f_X9_in (Int32.toInt64 ((m.2 28) (Int32.toNatClampNeg (((Int32.ofInt 5) * i) + (Int32.ofInt 4))))) ((Int64.ofNat 1)) 2) = 0 then ((Int32.ofInt 0), m) else (if ((f_X9_steps m ((m.2 28) (Int32.toNatClampNeg (((Int32.ofInt 5) * i) + (Int32.ofInt 1)))) ((m.2 28) (Int32.toNatClampNeg (((Int32.ofInt 5) * i) + (Int32.ofInt 2)))) ((m.2 28) (Int32.toNatClampNeg (((Int32.ofInt 5) * i) + (Int32.ofInt 3)))) ((m.2 28) (Int32.toNatClampNeg (((Int32.ofInt 5) * i) + (Int32.ofInt 4))))).1) = 0 then ((Int32.ofInt 0), ((f_X9_steps m ((m.2 28) (Int32.toNatClampNeg (((Int32.ofInt 5) * i) + (Int32.ofInt 1)))) ((m.2 28) (Int32.toNatClampNeg (((Int32.ofInt 5) * i) + (Int32.ofInt 2)))) ((m.2 28) (Int32.toNatClampNeg (((Int32.ofInt 5) * i) + (Int32.ofInt 3)))) ((m.2 28) (Int32.toNatClampNeg (((Int32.ofInt 5) * i) + (Int32.ofInt 4))))).2)) else ((Int32.ofInt 1), ((f_X9_steps m ((m.2 28) (Int32.toNatClampNeg (((Int32.ofInt 5) * i) + (Int32.ofInt 1)))) ((m.2 28) (Int32.toNatClampNeg (((Int32.ofInt 5) * i) + (Int32.ofInt 2)))) ((m.2 28) (Int32.toNatClampNeg (((Int32.ofInt 5) * i) + (Int32.ofInt 3)))) ((m.2 28) (Int32.toNatClampNeg (((Int32.ofInt 5) * i) + (Int32.ofInt 4))))).2))))) else (if (f_X9_in (Int32.toInt64 ((m.2 28) (Int32.toNatClampNeg (((Int32.ofInt 5) * i) + (Int32.ofInt 1))))) ((Int64.ofNat 0)) ((Int64.ofNat 1))) = 0 then ((Int32.ofInt 0), m) else (if (f_X9_in (Int32.toInt64 ((m.2 28) (Int32.toNatClampNeg (((Int32.ofInt 5) * i) + (Int32.ofInt 3))))) ((Int64.ofNat 0)) ((Int64.ofNat 1))) = 0 then ((Int32.ofInt 0), m) else (if ((f_X9_makes m ((m.2 28) (Int32.toNatClampNeg (((Int32.ofInt 5) * i) + (Int32.ofInt 1)))) ((m.2 28) (Int32.toNatClampNeg (((Int32.ofInt 5) * i) + (Int32.ofInt 2)))) ((m.2 28) (Int32.toNatClampNeg (((Int32.ofInt 5) * i) + (Int32.ofInt 3))))).1) = 0 then ((Int32.ofInt 0), ((f_X9_makes m ((m.2 28) (Int32.toNatClampNeg (((Int32.ofInt 5) * i) + (Int32.ofInt 1)))) ((m.2 28) (Int32.toNatClampNeg (((Int32.ofInt 5) * i) + (Int32.ofInt 2)))) ((m.2 28) (Int32.toNatClampNeg (((Int32.ofInt 5) * i) + (Int32.ofInt 3))))).2)) else ((Int32.ofInt 1), ((f_X9_makes m ((m.2 28) (Int32.toNatClampNeg (((Int32.ofInt 5) * i) + (Int32.ofInt 1)))) ((m.2 28) (Int32.toNatClampNeg (((Int32.ofInt 5) * i) + (Int32.ofInt 2)))) ((m.2 28) (Int32.toNatClampNeg (((Int32.ofInt 5) * i) + (Int32.ofInt 3))))).2)))))
def p_X9_goes (m : Rec) (i : Int32) : Prop := vp_in (((Int32.ofInt 5) * i) + (Int32.ofInt 1)) 300 ∧ (vp_in (((Int32.ofInt 5) * i) + (Int32.ofInt 2)) 300 ∧ (vp_in (((Int32.ofInt 5) * i) + (Int32.ofInt 3)) 300 ∧ (vp_in (((Int32.ofInt 5) * i) + (Int32.ofInt 4)) 300 ∧ (vp_in ((Int32.ofInt 5) * i) 300 ∧ ((((m.2 28) (Int32.toNatClampNeg ((Int32.ofInt 5) * i))) = (Int32.ofInt 4) → (((f_X9_in (Int32.toInt64 ((m.2 28) (Int32.toNatClampNeg (((Int32.ofInt 5) * i) + (Int32.ofInt 3))))) ((Int64.ofNat 0)) 3) = 0 → True) ∧ (¬ ((f_X9_in (Int32.toInt64 ((m.2 28) (Int32.toNatClampNeg (((Int32.ofInt 5) * i) + (Int32.ofInt 3))))) ((Int64.ofNat 0)) 3) = 0) → (((f_X9_in (Int32.toInt64 ((m.2 28) (Int32.toNatClampNeg (((Int32.ofInt 5) * i) + (Int32.ofInt 4))))) ((Int64.ofNat 1)) 2) = 0 → True) ∧ (¬ ((f_X9_in (Int32.toInt64 ((m.2 28) (Int32.toNatClampNeg (((Int32.ofInt 5) * i) + (Int32.ofInt 4))))) ((Int64.ofNat 1)) 2) = 0) → ((p_X9_steps m ((m.2 28) (Int32.toNatClampNeg (((Int32.ofInt 5) * i) + (Int32.ofInt 1)))) ((m.2 28) (Int32.toNatClampNeg (((Int32.ofInt 5) * i) + (Int32.ofInt 2)))) ((m.2 28) (Int32.toNatClampNeg (((Int32.ofInt 5) * i) + (Int32.ofInt 3)))) ((m.2 28) (Int32.toNatClampNeg (((Int32.ofInt 5) * i) + (Int32.ofInt 4))))) ∧ True)))))) ∧ (¬ (((m.2 28) (Int32.toNatClampNeg ((Int32.ofInt 5) * i))) = (Int32.ofInt 4)) → (((f_X9_in (Int32.toInt64 ((m.2 28) (Int32.toNatClampNeg (((Int32.ofInt 5) * i) + (Int32.ofInt 1))))) ((Int64.ofNat 0)) ((Int64.ofNat 1))) = 0 → True) ∧ (¬ ((f_X9_in (Int32.toInt64 ((m.2 28) (Int32.toNatClampNeg (((Int32.ofInt 5) * i) + (Int32.ofInt 1))))) ((Int64.ofNat 0)) ((Int64.ofNat 1))) = 0) → (((f_X9_in (Int32.toInt64 ((m.2 28) (Int32.toNatClampNeg (((Int32.ofInt 5) * i) + (Int32.ofInt 3))))) ((Int64.ofNat 0)) ((Int64.ofNat 1))) = 0 → True) ∧ (¬ ((f_X9_in (Int32.toInt64 ((m.2 28) (Int32.toNatClampNeg (((Int32.ofInt 5) * i) + (Int32.ofInt 3))))) ((Int64.ofNat 0)) ((Int64.ofNat 1))) = 0) → ((p_X9_makes m ((m.2 28) (Int32.toNatClampNeg (((Int32.ofInt 5) * i) + (Int32.ofInt 1)))) ((m.2 28) (Int32.toNatClampNeg (((Int32.ofInt 5) * i) + (Int32.ofInt 2)))) ((m.2 28) (Int32.toNatClampNeg (((Int32.ofInt 5) * i) + (Int32.ofInt 3))))) ∧ True)))))))))))
set_option maxHeartbeats 16000000 in
set_option maxRecDepth 20000 in
theorem s_X9_goes (m : Rec) (i : Int32) (hp : p_X9_goes m i) : Spec 5 0 0 mX9_goes [.ref 0, .int i] (wM m) (Ret (some (.int ((f_X9_goes m i).1))) (wM ((f_X9_goes m i).2))) := by
  obtain ⟨zq, hq⟩ : ∃ z, z = (f_X9_goes m i) := ⟨_, rfl⟩
  rw [← hq]
  unfold f_X9_goes at hq
  unfold p_X9_goes at hp
  refine Sof fun sc => ?_
  refine g_blk hz0 kX9_goes_0 ?_
  refine ⟨hp.1, ?_⟩
  replace hp := hp.2
  refine ⟨hp.1, ?_⟩
  replace hp := hp.2
  refine ⟨hp.1, ?_⟩
  replace hp := hp.2
  refine ⟨hp.1, ?_⟩
  replace hp := hp.2
  refine ⟨hp.1, ?_⟩
  replace hp := hp.2
  refine ⟨fun c1 => ?_, fun c1 => ?_⟩
  · rw [if_neg (show ¬ (((m.2 28) (Int32.toNatClampNeg ((Int32.ofInt 5) * i))) = (Int32.ofInt 4)) from c1)] at hq
    replace hp := hp.2 c1
    refine g_blk hz0 kX9_goes_103 ?_
    refine cS0 (s_X9_in (Int32.toInt64 ((m.2 28) (Int32.toNatClampNeg (((Int32.ofInt 5) * i) + (Int32.ofInt 1))))) ((Int64.ofNat 0)) ((Int64.ofNat 1))) rfl cwX9_in dX9_goes_107 rfl ?_
    refine g_blk hz0 kX9_goes_110 ?_
    refine ⟨fun c6 => ?_, fun c6 => ?_⟩
    · rw [if_pos (show (f_X9_in (Int32.toInt64 ((m.2 28) (Int32.toNatClampNeg (((Int32.ofInt 5) * i) + (Int32.ofInt 1))))) ((Int64.ofNat 0)) ((Int64.ofNat 1))) = 0 from c6)] at hq
      refine g_blk hz0 kX9_goes_139 ?_
      refine g_blk hz0 kX9_goes_140 ?_
      subst hq
      exact ⟨fun _ => Or.inl rfl, rfl, rfl⟩
    · rw [if_neg (show ¬ ((f_X9_in (Int32.toInt64 ((m.2 28) (Int32.toNatClampNeg (((Int32.ofInt 5) * i) + (Int32.ofInt 1))))) ((Int64.ofNat 0)) ((Int64.ofNat 1))) = 0) from c6)] at hq
      replace hp := hp.2 c6
      refine g_blk hz0 kX9_goes_113 ?_
      refine cS0 (s_X9_in (Int32.toInt64 ((m.2 28) (Int32.toNatClampNeg (((Int32.ofInt 5) * i) + (Int32.ofInt 3))))) ((Int64.ofNat 0)) ((Int64.ofNat 1))) rfl cwX9_in dX9_goes_118 rfl ?_
      refine g_blk hz0 kX9_goes_121 ?_
      refine ⟨fun c7 => ?_, fun c7 => ?_⟩
      · rw [if_pos (show (f_X9_in (Int32.toInt64 ((m.2 28) (Int32.toNatClampNeg (((Int32.ofInt 5) * i) + (Int32.ofInt 3))))) ((Int64.ofNat 0)) ((Int64.ofNat 1))) = 0 from c7)] at hq
        refine g_blk hz0 kX9_goes_139 ?_
        refine g_blk hz0 kX9_goes_140 ?_
        subst hq
        exact ⟨fun _ => Or.inl rfl, rfl, rfl⟩
      · rw [if_neg (show ¬ ((f_X9_in (Int32.toInt64 ((m.2 28) (Int32.toNatClampNeg (((Int32.ofInt 5) * i) + (Int32.ofInt 3))))) ((Int64.ofNat 0)) ((Int64.ofNat 1))) = 0) from c7)] at hq
        replace hp := hp.2 c7
        refine g_blk hz0 kX9_goes_124 ?_
        refine cV [0, 1, 2, 3, 4, 5, 6, 7, 8, 9, 10, 11, 12, 13, 14, 15, 16] (wM m) (s_X9_makes m ((m.2 28) (Int32.toNatClampNeg (((Int32.ofInt 5) * i) + (Int32.ofInt 1)))) ((m.2 28) (Int32.toNatClampNeg (((Int32.ofInt 5) * i) + (Int32.ofInt 2)))) ((m.2 28) (Int32.toNatClampNeg (((Int32.ofInt 5) * i) + (Int32.ofInt 3)))) hp.1) rfl cwX9_makes dX9_goes_129 rfl rfl (hm0_M_M _) ((len_M _).trans (len_M _).symm) (wM ((f_X9_makes m ((m.2 28) (Int32.toNatClampNeg (((Int32.ofInt 5) * i) + (Int32.ofInt 1)))) ((m.2 28) (Int32.toNatClampNeg (((Int32.ofInt 5) * i) + (Int32.ofInt 2)))) ((m.2 28) (Int32.toNatClampNeg (((Int32.ofInt 5) * i) + (Int32.ofInt 3))))).2)) (pw0_M_M _ _) ?_
        replace hp := hp.2
        obtain ⟨g8, hg8⟩ : ∃ z, z = (f_X9_makes m ((m.2 28) (Int32.toNatClampNeg (((Int32.ofInt 5) * i) + (Int32.ofInt 1)))) ((m.2 28) (Int32.toNatClampNeg (((Int32.ofInt 5) * i) + (Int32.ofInt 2)))) ((m.2 28) (Int32.toNatClampNeg (((Int32.ofInt 5) * i) + (Int32.ofInt 3))))) := ⟨_, rfl⟩
        try rw [← hg8] at hp
        try rw [← hg8] at hq
        rw [← hg8]
        refine g_blk hz0 kX9_goes_132 ?_
        refine ⟨fun c9 => ?_, fun c9 => ?_⟩
        · rw [if_pos (show (g8.1) = 0 from c9)] at hq
          refine g_blk hz0 kX9_goes_139 ?_
          refine g_blk hz0 kX9_goes_140 ?_
          subst hq
          exact ⟨fun _ => Or.inl rfl, rfl, rfl⟩
        · rw [if_neg (show ¬ ((g8.1) = 0) from c9)] at hq
          refine g_blk hz0 kX9_goes_135 ?_
          refine g_blk hz0 kX9_goes_140 ?_
          subst hq
          exact ⟨fun _ => Or.inr rfl, rfl, rfl⟩
  · rw [if_pos (show ((m.2 28) (Int32.toNatClampNeg ((Int32.ofInt 5) * i))) = (Int32.ofInt 4) from c1)] at hq
    replace hp := hp.1 c1
    refine g_blk hz0 kX9_goes_58 ?_
    refine cS0 (s_X9_in (Int32.toInt64 ((m.2 28) (Int32.toNatClampNeg (((Int32.ofInt 5) * i) + (Int32.ofInt 3))))) ((Int64.ofNat 0)) 3) rfl cwX9_in dX9_goes_65 rfl ?_
    refine g_blk hz0 kX9_goes_68 ?_
    refine ⟨fun c2 => ?_, fun c2 => ?_⟩
    · rw [if_pos (show (f_X9_in (Int32.toInt64 ((m.2 28) (Int32.toNatClampNeg (((Int32.ofInt 5) * i) + (Int32.ofInt 3))))) ((Int64.ofNat 0)) 3) = 0 from c2)] at hq
      refine g_blk hz0 kX9_goes_101 ?_
      refine g_blk hz0 kX9_goes_102 ?_
      subst hq
      exact ⟨fun _ => Or.inl rfl, rfl, rfl⟩
    · rw [if_neg (show ¬ ((f_X9_in (Int32.toInt64 ((m.2 28) (Int32.toNatClampNeg (((Int32.ofInt 5) * i) + (Int32.ofInt 3))))) ((Int64.ofNat 0)) 3) = 0) from c2)] at hq
      replace hp := hp.2 c2
      refine g_blk hz0 kX9_goes_71 ?_
      refine cS0 (s_X9_in (Int32.toInt64 ((m.2 28) (Int32.toNatClampNeg (((Int32.ofInt 5) * i) + (Int32.ofInt 4))))) ((Int64.ofNat 1)) 2) rfl cwX9_in dX9_goes_78 rfl ?_
      refine g_blk hz0 kX9_goes_81 ?_
      refine ⟨fun c3 => ?_, fun c3 => ?_⟩
      · rw [if_pos (show (f_X9_in (Int32.toInt64 ((m.2 28) (Int32.toNatClampNeg (((Int32.ofInt 5) * i) + (Int32.ofInt 4))))) ((Int64.ofNat 1)) 2) = 0 from c3)] at hq
        refine g_blk hz0 kX9_goes_101 ?_
        refine g_blk hz0 kX9_goes_102 ?_
        subst hq
        exact ⟨fun _ => Or.inl rfl, rfl, rfl⟩
      · rw [if_neg (show ¬ ((f_X9_in (Int32.toInt64 ((m.2 28) (Int32.toNatClampNeg (((Int32.ofInt 5) * i) + (Int32.ofInt 4))))) ((Int64.ofNat 1)) 2) = 0) from c3)] at hq
        replace hp := hp.2 c3
        refine g_blk hz0 kX9_goes_84 ?_
        refine cV [0, 1, 2, 3, 4, 5, 6, 7, 8, 9, 10, 11, 12, 13, 14, 15, 16] (wM m) (s_X9_steps m ((m.2 28) (Int32.toNatClampNeg (((Int32.ofInt 5) * i) + (Int32.ofInt 1)))) ((m.2 28) (Int32.toNatClampNeg (((Int32.ofInt 5) * i) + (Int32.ofInt 2)))) ((m.2 28) (Int32.toNatClampNeg (((Int32.ofInt 5) * i) + (Int32.ofInt 3)))) ((m.2 28) (Int32.toNatClampNeg (((Int32.ofInt 5) * i) + (Int32.ofInt 4)))) hp.1) rfl cwX9_steps dX9_goes_91 rfl rfl (hm0_M_M _) ((len_M _).trans (len_M _).symm) (wM ((f_X9_steps m ((m.2 28) (Int32.toNatClampNeg (((Int32.ofInt 5) * i) + (Int32.ofInt 1)))) ((m.2 28) (Int32.toNatClampNeg (((Int32.ofInt 5) * i) + (Int32.ofInt 2)))) ((m.2 28) (Int32.toNatClampNeg (((Int32.ofInt 5) * i) + (Int32.ofInt 3)))) ((m.2 28) (Int32.toNatClampNeg (((Int32.ofInt 5) * i) + (Int32.ofInt 4))))).2)) (pw0_M_M _ _) ?_
        replace hp := hp.2
        obtain ⟨g4, hg4⟩ : ∃ z, z = (f_X9_steps m ((m.2 28) (Int32.toNatClampNeg (((Int32.ofInt 5) * i) + (Int32.ofInt 1)))) ((m.2 28) (Int32.toNatClampNeg (((Int32.ofInt 5) * i) + (Int32.ofInt 2)))) ((m.2 28) (Int32.toNatClampNeg (((Int32.ofInt 5) * i) + (Int32.ofInt 3)))) ((m.2 28) (Int32.toNatClampNeg (((Int32.ofInt 5) * i) + (Int32.ofInt 4))))) := ⟨_, rfl⟩
        try rw [← hg4] at hp
        try rw [← hg4] at hq
        rw [← hg4]
        refine g_blk hz0 kX9_goes_94 ?_
        refine ⟨fun c5 => ?_, fun c5 => ?_⟩
        · rw [if_pos (show (g4.1) = 0 from c5)] at hq
          refine g_blk hz0 kX9_goes_101 ?_
          refine g_blk hz0 kX9_goes_102 ?_
          subst hq
          exact ⟨fun _ => Or.inl rfl, rfl, rfl⟩
        · rw [if_neg (show ¬ ((g4.1) = 0) from c5)] at hq
          refine g_blk hz0 kX9_goes_97 ?_
          refine g_blk hz0 kX9_goes_102 ?_
          subst hq
          exact ⟨fun _ => Or.inr rfl, rfl, rfl⟩
