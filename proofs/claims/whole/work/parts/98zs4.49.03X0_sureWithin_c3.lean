set_option maxHeartbeats 16000000 in
set_option maxRecDepth 20000 in
theorem s_X0_sureWithin_c3 (o : Rec) (h : Rec) (s : Rec) (p : Rec)  (hp : p_X0_sureWithin_c3 o h s p) : Spec 11 0 0 mX0_sureWithin [.ref 0, .ref 16, .int (Int32.ofInt 3)] (wHP o h s p) (Ret (some (.int ((f_X0_sureWithin_c3 o h s p).1))) (wHP ((f_X0_sureWithin_c3 o h s p).2.1) ((f_X0_sureWithin_c3 o h s p).2.2.1) ((f_X0_sureWithin_c3 o h s p).2.2.2.1) ((f_X0_sureWithin_c3 o h s p).2.2.2.2))) := by
  obtain ⟨zq, hq⟩ : ∃ z, z = (f_X0_sureWithin_c3 o h s p) := ⟨_, rfl⟩
  rw [← hq]
  unfold f_X0_sureWithin_c3 at hq
  unfold p_X0_sureWithin_c3 at hp
  refine Sof fun sc => ?_
  refine g_blk hz0 kX0_sureWithin_0 ?_
  refine ⟨vinL (by decide), 7, rfl, ?_⟩
  refine cV [16, 17, 18, 19, 20, 21, 22, 23, 24, 25, 26, 27, 7] (wPA s p ((fun _ => 0, fun _ => (h.2 100)) : Rec)) (s_X3_save s p ((fun _ => 0, fun _ => (h.2 100)) : Rec) hp.1) rfl cwX3_save dX0_sureWithin_7 rfl rfl (hm34_HP_PA _ _ _ _) ((len_PA _ _ _).trans (len_PA _ _ _).symm) (wHP o (setA h 100 ((f_X3_save s p ((fun _ => 0, fun _ => (h.2 100)) : Rec)).2 0)) s p) (pw53_HP_PA _ _ _ _ _) ?_
  replace hp := hp.2
  obtain ⟨g1, hg1⟩ : ∃ z, z = (f_X3_save s p ((fun _ => 0, fun _ => (h.2 100)) : Rec)) := ⟨_, rfl⟩
  try rw [← hg1] at hp
  try rw [← hg1] at hq
  rw [← hg1]
  refine g_blk hz0 kX0_sureWithin_10 ?_
  refine cVp [16, 17, 18, 19, 20, 21, 22, 23, 24, 25, 26, 27] (wP s p) (s_X3_onTurn s p) rfl cwX3_onTurn dX0_sureWithin_13 rfl rfl (hm24_HP_P _ _ _ _) ?_
  refine g_blk hz0 kX0_sureWithin_16 ?_
  refine cV [0, 1, 2, 3, 4, 5, 6, 7, 8, 9, 10, 11, 12, 13, 14, 15, 16, 17, 18, 19, 20, 21, 22, 23, 24, 25, 26, 27] (wHP o (setA h 100 (g1.2 0)) s p) (s_X0_isForced_c3 o (setA h 100 (g1.2 0)) s p (f_X3_onTurn s p) hp.1) rfl cwX0_isForced dX0_sureWithin_17 rfl rfl (hm25_HP_HP _ _ _ _) ((len_HP _ _ _ _).trans (len_HP _ _ _ _).symm) (wHP ((f_X0_isForced_c3 o (setA h 100 (g1.2 0)) s p (f_X3_onTurn s p)).2.1) ((f_X0_isForced_c3 o (setA h 100 (g1.2 0)) s p (f_X3_onTurn s p)).2.2.1) ((f_X0_isForced_c3 o (setA h 100 (g1.2 0)) s p (f_X3_onTurn s p)).2.2.2.1) ((f_X0_isForced_c3 o (setA h 100 (g1.2 0)) s p (f_X3_onTurn s p)).2.2.2.2)) (pw46_HP_HP _ _ _ _ _ _ _ _) ?_
  replace hp := hp.2
  obtain ⟨g2, hg2⟩ : ∃ z, z = (f_X0_isForced_c3 o (setA h 100 (g1.2 0)) s p (f_X3_onTurn s p)) := ⟨_, rfl⟩
  try rw [← hg2] at hp
  try rw [← hg2] at hq
  rw [← hg2]
  refine g_blk hz0 kX0_sureWithin_20 ?_
  refine ⟨vinL (by decide), 7, rfl, ?_⟩
  refine cV [16, 17, 18, 19, 20, 21, 22, 23, 24, 25, 26, 27, 7] (wPA (g2.2.2.2.1) (g2.2.2.2.2) ((fun _ => 0, fun _ => ((g2.2.2.1).2 100)) : Rec)) (s_X3_load (g2.2.2.2.1) (g2.2.2.2.2) ((fun _ => 0, fun _ => ((g2.2.2.1).2 100)) : Rec) hp.1) rfl cwX3_load dX0_sureWithin_28 rfl rfl (hm34_HP_PA _ _ _ _) ((len_PA _ _ _).trans (len_PA _ _ _).symm) (wHP (g2.2.1) (g2.2.2.1) ((f_X3_load (g2.2.2.2.1) (g2.2.2.2.2) ((fun _ => 0, fun _ => ((g2.2.2.1).2 100)) : Rec)).1) ((f_X3_load (g2.2.2.2.1) (g2.2.2.2.2) ((fun _ => 0, fun _ => ((g2.2.2.1).2 100)) : Rec)).2)) (pw54_HP_PA _ _ _ _ _ _) ?_
  replace hp := hp.2
  obtain ⟨g3, hg3⟩ : ∃ z, z = (f_X3_load (g2.2.2.2.1) (g2.2.2.2.2) ((fun _ => 0, fun _ => ((g2.2.2.1).2 100)) : Rec)) := ⟨_, rfl⟩
  try rw [← hg3] at hp
  try rw [← hg3] at hq
  rw [← hg3]
  refine g_blk hz0 kX0_sureWithin_31 ?_
  have b4 := hp.1
  replace hp := hp.2
  subst hq
  exact ⟨fun _ => b4, rfl, rfl⟩
