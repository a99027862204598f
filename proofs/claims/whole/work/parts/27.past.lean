def f_X2_forget (t : Rec)  : Rec := (setG t 2 ((Int32.ofInt 0)))
set_option maxHeartbeats 16000000 in
set_option maxRecDepth 20000 in
theorem s_X2_forget (t : Rec)  : Spec 0 0 0 mX2_forget [.ref 0] (wT t) (Ret none (wT ((f_X2_forget t)))) := by
  obtain ⟨zq, hq⟩ : ∃ z, z = (f_X2_forget t) := ⟨_, rfl⟩
  rw [← hq]
  unfold f_X2_forget at hq
  refine Sof fun sc => ?_
  refine g_blk hz0 kX2_forget_0 ?_
  refine ⟨fun h => (by cases h), Or.inl rfl, ?_⟩
  subst hq
  exact ⟨rfl, rfl⟩

set_option maxHeartbeats 16000000 in
theorem hm8_TP_PA (t : Rec) (s : Rec) (p : Rec) : [10, 11, 12, 13, 14, 15, 16, 17, 18, 19, 20, 21, 2].map (lk (wTP t s p)) = (wPA s p ((fun _ => 0, fun _ => t.2 100) : Rec)).map (fun e => some (ren [10, 11, 12, 13, 14, 15, 16, 17, 18, 19, 20, 21, 2] e)) := rfl
set_option maxHeartbeats 16000000 in
theorem pw12_TP_PA (t : Rec) (s : Rec) (p : Rec) (a9 : Rec) : putW (wTP t s p) [10, 11, 12, 13, 14, 15, 16, 17, 18, 19, 20, 21, 2] ((wPA s p a9).map (ren [10, 11, 12, 13, 14, 15, 16, 17, 18, 19, 20, 21, 2])) = (wTP (setA t 100 (a9.2 0)) s p) := rfl
set_option maxHeartbeats 16000000 in
theorem hm9_TP_PA (t : Rec) (s : Rec) (p : Rec) : [10, 11, 12, 13, 14, 15, 16, 17, 18, 19, 20, 21, 3].map (lk (wTP t s p)) = (wPA s p ((fun _ => 0, fun _ => t.2 101) : Rec)).map (fun e => some (ren [10, 11, 12, 13, 14, 15, 16, 17, 18, 19, 20, 21, 3] e)) := rfl
set_option maxHeartbeats 16000000 in
theorem pw13_TP_PA (t : Rec) (s : Rec) (p : Rec) (a9 : Rec) : putW (wTP t s p) [10, 11, 12, 13, 14, 15, 16, 17, 18, 19, 20, 21, 3] ((wPA s p a9).map (ren [10, 11, 12, 13, 14, 15, 16, 17, 18, 19, 20, 21, 3])) = (wTP (setA t 101 (a9.2 0)) s p) := rfl
set_option maxHeartbeats 16000000 in
theorem hm10_TP_PA (t : Rec) (s : Rec) (p : Rec) : [10, 11, 12, 13, 14, 15, 16, 17, 18, 19, 20, 21, 4].map (lk (wTP t s p)) = (wPA s p ((fun _ => 0, fun _ => t.2 102) : Rec)).map (fun e => some (ren [10, 11, 12, 13, 14, 15, 16, 17, 18, 19, 20, 21, 4] e)) := rfl
set_option maxHeartbeats 16000000 in
theorem pw14_TP_PA (t : Rec) (s : Rec) (p : Rec) (a9 : Rec) : putW (wTP t s p) [10, 11, 12, 13, 14, 15, 16, 17, 18, 19, 20, 21, 4] ((wPA s p a9).map (ren [10, 11, 12, 13, 14, 15, 16, 17, 18, 19, 20, 21, 4])) = (wTP (setA t 102 (a9.2 0)) s p) := rfl
set_option maxHeartbeats 16000000 in
theorem hm11_TP_PA (t : Rec) (s : Rec) (p : Rec) : [10, 11, 12, 13, 14, 15, 16, 17, 18, 19, 20, 21, 5].map (lk (wTP t s p)) = (wPA s p ((fun _ => 0, fun _ => t.2 103) : Rec)).map (fun e => some (ren [10, 11, 12, 13, 14, 15, 16, 17, 18, 19, 20, 21, 5] e)) := rfl
set_option maxHeartbeats 16000000 in
theorem pw15_TP_PA (t : Rec) (s : Rec) (p : Rec) (a9 : Rec) : putW (wTP t s p) [10, 11, 12, 13, 14, 15, 16, 17, 18, 19, 20, 21, 5] ((wPA s p a9).map (ren [10, 11, 12, 13, 14, 15, 16, 17, 18, 19, 20, 21, 5])) = (wTP (setA t 103 (a9.2 0)) s p) := rfl
set_option maxHeartbeats 16000000 in
theorem hm12_TP_PA (t : Rec) (s : Rec) (p : Rec) : [10, 11, 12, 13, 14, 15, 16, 17, 18, 19, 20, 21, 6].map (lk (wTP t s p)) = (wPA s p ((fun _ => 0, fun _ => t.2 104) : Rec)).map (fun e => some (ren [10, 11, 12, 13, 14, 15, 16, 17, 18, 19, 20, 21, 6] e)) := rfl
set_option maxHeartbeats 16000000 in
theorem pw16_TP_PA (t : Rec) (s : Rec) (p : Rec) (a9 : Rec) : putW (wTP t s p) [10, 11, 12, 13, 14, 15, 16, 17, 18, 19, 20, 21, 6] ((wPA s p a9).map (ren [10, 11, 12, 13, 14, 15, 16, 17, 18, 19, 20, 21, 6])) = (wTP (setA t 104 (a9.2 0)) s p) := rfl
set_option maxHeartbeats 16000000 in
theorem hm13_TP_PA (t : Rec) (s : Rec) (p : Rec) : [10, 11, 12, 13, 14, 15, 16, 17, 18, 19, 20, 21, 7].map (lk (wTP t s p)) = (wPA s p ((fun _ => 0, fun _ => t.2 105) : Rec)).map (fun e => some (ren [10, 11, 12, 13, 14, 15, 16, 17, 18, 19, 20, 21, 7] e)) := rfl
set_option maxHeartbeats 16000000 in
theorem pw17_TP_PA (t : Rec) (s : Rec) (p : Rec) (a9 : Rec) : putW (wTP t s p) [10, 11, 12, 13, 14, 15, 16, 17, 18, 19, 20, 21, 7] ((wPA s p a9).map (ren [10, 11, 12, 13, 14, 15, 16, 17, 18, 19, 20, 21, 7])) = (wTP (setA t 105 (a9.2 0)) s p) := rfl
set_option maxHeartbeats 16000000 in
theorem hm14_TP_PA (t : Rec) (s : Rec) (p : Rec) : [10, 11, 12, 13, 14, 15, 16, 17, 18, 19, 20, 21, 8].map (lk (wTP t s p)) = (wPA s p ((fun _ => 0, fun _ => t.2 106) : Rec)).map (fun e => some (ren [10, 11, 12, 13, 14, 15, 16, 17, 18, 19, 20, 21, 8] e)) := rfl
set_option maxHeartbeats 16000000 in
theorem pw18_TP_PA (t : Rec) (s : Rec) (p : Rec) (a9 : Rec) : putW (wTP t s p) [10, 11, 12, 13, 14, 15, 16, 17, 18, 19, 20, 21, 8] ((wPA s p a9).map (ren [10, 11, 12, 13, 14, 15, 16, 17, 18, 19, 20, 21, 8])) = (wTP (setA t 106 (a9.2 0)) s p) := rfl
set_option maxHeartbeats 16000000 in
theorem hm15_TP_PA (t : Rec) (s : Rec) (p : Rec) : [10, 11, 12, 13, 14, 15, 16, 17, 18, 19, 20, 21, 9].map (lk (wTP t s p)) = (wPA s p ((fun _ => 0, fun _ => t.2 107) : Rec)).map (fun e => some (ren [10, 11, 12, 13, 14, 15, 16, 17, 18, 19, 20, 21, 9] e)) := rfl
set_option maxHeartbeats 16000000 in
theorem pw19_TP_PA (t : Rec) (s : Rec) (p : Rec) (a9 : Rec) : putW (wTP t s p) [10, 11, 12, 13, 14, 15, 16, 17, 18, 19, 20, 21, 9] ((wPA s p a9).map (ren [10, 11, 12, 13, 14, 15, 16, 17, 18, 19, 20, 21, 9])) = (wTP (setA t 107 (a9.2 0)) s p) := rfl
def f_X2_keep (t : Rec) (s : Rec) (p : Rec)  : Rec := if (t.1 1) = (Int32.ofInt 0) then (setA (setG (setG t 1 (((t.1 1) + (Int32.ofInt 1)) - ((t.1 1) + (Int32.ofInt 1)) / (Int32.ofInt 8) * (Int32.ofInt 8))) 2 (if (Int32.ofInt 8) < ((t.1 2) + (Int32.ofInt 1)) then (Int32.ofInt 8) else ((t.1 2) + (Int32.ofInt 1)))) 100 ((f_X3_save s p ((fun _ => 0, fun _ => (t.2 100)) : Rec)).2 0)) else (if (t.1 1) = (Int32.ofInt 1) then (setA (setG (setG t 1 (((t.1 1) + (Int32.ofInt 1)) - ((t.1 1) + (Int32.ofInt 1)) / (Int32.ofInt 8) * (Int32.ofInt 8))) 2 (if (Int32.ofInt 8) < ((t.1 2) + (Int32.ofInt 1)) then (Int32.ofInt 8) else ((t.1 2) + (Int32.ofInt 1)))) 101 ((f_X3_save s p ((fun _ => 0, fun _ => (t.2 101)) : Rec)).2 0)) else (if (t.1 1) = (Int32.ofInt 2) then (setA (setG (setG t 1 (((t.1 1) + (Int32.ofInt 1)) - ((t.1 1) + (Int32.ofInt 1)) / (Int32.ofInt 8) * (Int32.ofInt 8))) 2 (if (Int32.ofInt 8) < ((t.1 2) + (Int32.ofInt 1)) then (Int32.ofInt 8) else ((t.1 2) + (Int32.ofInt 1)))) 102 ((f_X3_save s p ((fun _ => 0, fun _ => (t.2 102)) : Rec)).2 0)) else (if (t.1 1) = (Int32.ofInt 3) then (setA (setG (setG t 1 (((t.1 1) + (Int32.ofInt 1)) - ((t.1 1) + (Int32.ofInt 1)) / (Int32.ofInt 8) * (Int32.ofInt 8))) 2 (if (Int32.ofInt 8) < ((t.1 2) + (Int32.ofInt 1)) then (Int32.ofInt 8) else ((t.1 2) + (Int32.ofInt 1)))) 103 ((f_X3_save s p ((fun _ => 0, fun _ => (t.2 103)) : Rec)).2 0)) else (if (t.1 1) = (Int32.ofInt 4) then (setA (setG (setG t 1 (((t.1 1) + (Int32.ofInt 1)) - ((t.1 1) + (Int32.ofInt 1)) / (Int32.ofInt 8) * (Int32.ofInt 8))) 2 (if (Int32.ofInt 8) < ((t.1 2) + (Int32.ofInt 1)) then (Int32.ofInt 8) else ((t.1 2) + (Int32.ofInt 1)))) 104 ((f_X3_save s p ((fun _ => 0, fun _ => (t.2 104)) : Rec)).2 0)) else (if (t.1 1) = (Int32.ofInt 5) then (setA (setG (setG t 1 (((t.1 1) + (Int32.ofInt 1)) - ((t.1 1) + (Int32.ofInt 1)) / (Int32.ofInt 8) * (Int32.ofInt 8))) 2 (if (Int32.ofInt 8) < ((t.1 2) + (Int32.ofInt 1)) then (Int32.ofInt 8) else ((t.1 2) + (Int32.ofInt 1)))) 105 ((f_X3_save s p ((fun _ => 0, fun _ => (t.2 105)) : Rec)).2 0)) else (if (t.1 1) = (Int32.ofInt 6) then (setA (setG (setG t 1 (((t.1 1) + (Int32.ofInt 1)) - ((t.1 1) + (Int32.ofInt 1)) / (Int32.ofInt 8) * (Int32.ofInt 8))) 2 (if (Int32.ofInt 8) < ((t.1 2) + (Int32.ofInt 1)) then (Int32.ofInt 8) else ((t.1 2) + (Int32.ofInt 1)))) 106 ((f_X3_save s p ((fun _ => 0, fun _ => (t.2 106)) : Rec)).2 0)) else (if (t.1 1) = (Int32.ofInt 7) then (setA (setG (setG t 1 (((t.1 1) + (Int32.ofInt 1)) - ((t.1 1) + (Int32.ofInt 1)) / (Int32.ofInt 8) * (Int32.ofInt 8))) 2 (if (Int32.ofInt 8) < ((t.1 2) + (Int32.ofInt 1)) then (Int32.ofInt 8) else ((t.1 2) + (Int32.ofInt 1)))) 107 ((f_X3_save s p ((fun _ => 0, fun _ => (t.2 107)) : Rec)).2 0)) else t)))))))
def p_X2_keep (t : Rec) (s : Rec) (p : Rec)  : Prop := ((t.1 1) = (Int32.ofInt 0) → ((p_X3_save s p ((fun _ => 0, fun _ => (t.2 100)) : Rec)) ∧ True)) ∧ (¬ ((t.1 1) = (Int32.ofInt 0)) → (((t.1 1) = (Int32.ofInt 1) → ((p_X3_save s p ((fun _ => 0, fun _ => (t.2 101)) : Rec)) ∧ True)) ∧ (¬ ((t.1 1) = (Int32.ofInt 1)) → (((t.1 1) = (Int32.ofInt 2) → ((p_X3_save s p ((fun _ => 0, fun _ => (t.2 102)) : Rec)) ∧ True)) ∧ (¬ ((t.1 1) = (Int32.ofInt 2)) → (((t.1 1) = (Int32.ofInt 3) → ((p_X3_save s p ((fun _ => 0, fun _ => (t.2 103)) : Rec)) ∧ True)) ∧ (¬ ((t.1 1) = (Int32.ofInt 3)) → (((t.1 1) = (Int32.ofInt 4) → ((p_X3_save s p ((fun _ => 0, fun _ => (t.2 104)) : Rec)) ∧ True)) ∧ (¬ ((t.1 1) = (Int32.ofInt 4)) → (((t.1 1) = (Int32.ofInt 5) → ((p_X3_save s p ((fun _ => 0, fun _ => (t.2 105)) : Rec)) ∧ True)) ∧ (¬ ((t.1 1) = (Int32.ofInt 5)) → (((t.1 1) = (Int32.ofInt 6) → ((p_X3_save s p ((fun _ => 0, fun _ => (t.2 106)) : Rec)) ∧ True)) ∧ (¬ ((t.1 1) = (Int32.ofInt 6)) → (((t.1 1) = (Int32.ofInt 7) → ((p_X3_save s p ((fun _ => 0, fun _ => (t.2 107)) : Rec)) ∧ True)) ∧ (¬ ((t.1 1) = (Int32.ofInt 7)) → (False))))))))))))))))
set_option maxHeartbeats 16000000 in
set_option maxRecDepth 20000 in
theorem s_X2_keep (t : Rec) (s : Rec) (p : Rec)  (hp : p_X2_keep t s p) : Spec 2 0 0 mX2_keep [.ref 0, .ref 10] (wTP t s p) (Ret none (wTP ((f_X2_keep t s p)) s p)) := by
  obtain ⟨zq, hq⟩ : ∃ z, z = (f_X2_keep t s p) := ⟨_, rfl⟩
  rw [← hq]
  unfold f_X2_keep at hq
  unfold p_X2_keep at hp
  refine Sof fun sc => ?_
  refine g_blk hz0 kX2_keep_0 ?_
  by_cases e1 : (t.1 1) = (Int32.ofInt 0)
  · rw [if_pos e1] at hq
    replace hp := hp.1 e1
    refine ⟨(show vp_in (t.1 1) 8 from by rw [e1]; exact vinL (by decide)), 2, (show rowF [2, 3, 4, 5, 6, 7, 8, 9] (Int32.toNatClampNeg (t.1 1)) = some 2 from by rw [e1]; rfl), ?_⟩
    refine cV [10, 11, 12, 13, 14, 15, 16, 17, 18, 19, 20, 21, 2] (wPA s p ((fun _ => 0, fun _ => (t.2 100)) : Rec)) (s_X3_save s p ((fun _ => 0, fun _ => (t.2 100)) : Rec) hp.1) rfl cwX3_save dX2_keep_10 rfl rfl (hm8_TP_PA _ _ _) ((len_PA _ _ _).trans (len_PA _ _ _).symm) (wTP (setA t 100 ((f_X3_save s p ((fun _ => 0, fun _ => (t.2 100)) : Rec)).2 0)) s p) (pw12_TP_PA _ _ _ _) ?_
    replace hp := hp.2
    obtain ⟨g2, hg2⟩ : ∃ z, z = (f_X3_save s p ((fun _ => 0, fun _ => (t.2 100)) : Rec)) := ⟨_, rfl⟩
    try rw [← hg2] at hp
    try rw [← hg2] at hq
    rw [← hg2]
    refine g_blk hz0 kX2_keep_13 ?_
    refine ⟨by decide, ?_⟩
    refine ⟨fun h => (by cases h), Or.inl rfl, ?_⟩
    refine g_min (by decide) hz0 (gw_mem (by decide +kernel)) (Nat.le_of_ble_eq_true rfl) dX2_keep_35 ?_
    refine g_blk hz0 kX2_keep_38 ?_
    refine ⟨fun h => (by cases h), Or.inl rfl, ?_⟩
    subst hq
    exact ⟨rfl, rfl⟩
  · rw [if_neg e1] at hq
    replace hp := hp.2 e1
    by_cases e3 : (t.1 1) = (Int32.ofInt 1)
    · rw [if_pos e3] at hq
      replace hp := hp.1 e3
      refine ⟨(show vp_in (t.1 1) 8 from by rw [e3]; exact vinL (by decide)), 3, (show rowF [2, 3, 4, 5, 6, 7, 8, 9] (Int32.toNatClampNeg (t.1 1)) = some 3 from by rw [e3]; rfl), ?_⟩
      refine cV [10, 11, 12, 13, 14, 15, 16, 17, 18, 19, 20, 21, 3] (wPA s p ((fun _ => 0, fun _ => (t.2 101)) : Rec)) (s_X3_save s p ((fun _ => 0, fun _ => (t.2 101)) : Rec) hp.1) rfl cwX3_save dX2_keep_10 rfl rfl (hm9_TP_PA _ _ _) ((len_PA _ _ _).trans (len_PA _ _ _).symm) (wTP (setA t 101 ((f_X3_save s p ((fun _ => 0, fun _ => (t.2 101)) : Rec)).2 0)) s p) (pw13_TP_PA _ _ _ _) ?_
      replace hp := hp.2
      obtain ⟨g4, hg4⟩ : ∃ z, z = (f_X3_save s p ((fun _ => 0, fun _ => (t.2 101)) : Rec)) := ⟨_, rfl⟩
      try rw [← hg4] at hp
      try rw [← hg4] at hq
      rw [← hg4]
      refine g_blk hz0 kX2_keep_13 ?_
      refine ⟨by decide, ?_⟩
      refine ⟨fun h => (by cases h), Or.inl rfl, ?_⟩
      refine g_min (by decide) hz0 (gw_mem (by decide +kernel)) (Nat.le_of_ble_eq_true rfl) dX2_keep_35 ?_
      refine g_blk hz0 kX2_keep_38 ?_
      refine ⟨fun h => (by cases h), Or.inl rfl, ?_⟩
      subst hq
      exact ⟨rfl, rfl⟩
    · rw [if_neg e3] at hq
      replace hp := hp.2 e3
      by_cases e5 : (t.1 1) = (Int32.ofInt 2)
      · rw [if_pos e5] at hq
        replace hp := hp.1 e5
        refine ⟨(show vp_in (t.1 1) 8 from by rw [e5]; exact vinL (by decide)), 4, (show rowF [2, 3, 4, 5, 6, 7, 8, 9] (Int32.toNatClampNeg (t.1 1)) = some 4 from by rw [e5]; rfl), ?_⟩
        refine cV [10, 11, 12, 13, 14, 15, 16, 17, 18, 19, 20, 21, 4] (wPA s p ((fun _ => 0, fun _ => (t.2 102)) : Rec)) (s_X3_save s p ((fun _ => 0, fun _ => (t.2 102)) : Rec) hp.1) rfl cwX3_save dX2_keep_10 rfl rfl (hm10_TP_PA _ _ _) ((len_PA _ _ _).trans (len_PA _ _ _).symm) (wTP (setA t 102 ((f_X3_save s p ((fun _ => 0, fun _ => (t.2 102)) : Rec)).2 0)) s p) (pw14_TP_PA _ _ _ _) ?_
        replace hp := hp.2
        obtain ⟨g6, hg6⟩ : ∃ z, z = (f_X3_save s p ((fun _ => 0, fun _ => (t.2 102)) : Rec)) := ⟨_, rfl⟩
        try rw [← hg6] at hp
        try rw [← hg6] at hq
        rw [← hg6]
        refine g_blk hz0 kX2_keep_13 ?_
        refine ⟨by decide, ?_⟩
        refine ⟨fun h => (by cases h), Or.inl rfl, ?_⟩
        refine g_min (by decide) hz0 (gw_mem (by decide +kernel)) (Nat.le_of_ble_eq_true rfl) dX2_keep_35 ?_
        refine g_blk hz0 kX2_keep_38 ?_
        refine ⟨fun h => (by cases h), Or.inl rfl, ?_⟩
        subst hq
        exact ⟨rfl, rfl⟩
      · rw [if_neg e5] at hq
        replace hp := hp.2 e5
        by_cases e7 : (t.1 1) = (Int32.ofInt 3)
        · rw [if_pos e7] at hq
          replace hp := hp.1 e7
          refine ⟨(show vp_in (t.1 1) 8 from by rw [e7]; exact vinL (by decide)), 5, (show rowF [2, 3, 4, 5, 6, 7, 8, 9] (Int32.toNatClampNeg (t.1 1)) = some 5 from by rw [e7]; rfl), ?_⟩
          refine cV [10, 11, 12, 13, 14, 15, 16, 17, 18, 19, 20, 21, 5] (wPA s p ((fun _ => 0, fun _ => (t.2 103)) : Rec)) (s_X3_save s p ((fun _ => 0, fun _ => (t.2 103)) : Rec) hp.1) rfl cwX3_save dX2_keep_10 rfl rfl (hm11_TP_PA _ _ _) ((len_PA _ _ _).trans (len_PA _ _ _).symm) (wTP (setA t 103 ((f_X3_save s p ((fun _ => 0, fun _ => (t.2 103)) : Rec)).2 0)) s p) (pw15_TP_PA _ _ _ _) ?_
          replace hp := hp.2
          obtain ⟨g8, hg8⟩ : ∃ z, z = (f_X3_save s p ((fun _ => 0, fun _ => (t.2 103)) : Rec)) := ⟨_, rfl⟩
          try rw [← hg8] at hp
          try rw [← hg8] at hq
          rw [← hg8]
          refine g_blk hz0 kX2_keep_13 ?_
          refine ⟨by decide, ?_⟩
          refine ⟨fun h => (by cases h), Or.inl rfl, ?_⟩
          refine g_min (by decide) hz0 (gw_mem (by decide +kernel)) (Nat.le_of_ble_eq_true rfl) dX2_keep_35 ?_
          refine g_blk hz0 kX2_keep_38 ?_
          refine ⟨fun h => (by cases h), Or.inl rfl, ?_⟩
          subst hq
          exact ⟨rfl, rfl⟩
        · rw [if_neg e7] at hq
          replace hp := hp.2 e7
          by_cases e9 : (t.1 1) = (Int32.ofInt 4)
          · rw [if_pos e9] at hq
            replace hp := hp.1 e9
            refine ⟨(show vp_in (t.1 1) 8 from by rw [e9]; exact vinL (by decide)), 6, (show rowF [2, 3, 4, 5, 6, 7, 8, 9] (Int32.toNatClampNeg (t.1 1)) = some 6 from by rw [e9]; rfl), ?_⟩
            refine cV [10, 11, 12, 13, 14, 15, 16, 17, 18, 19, 20, 21, 6] (wPA s p ((fun _ => 0, fun _ => (t.2 104)) : Rec)) (s_X3_save s p ((fun _ => 0, fun _ => (t.2 104)) : Rec) hp.1) rfl cwX3_save dX2_keep_10 rfl rfl (hm12_TP_PA _ _ _) ((len_PA _ _ _).trans (len_PA _ _ _).symm) (wTP (setA t 104 ((f_X3_save s p ((fun _ => 0, fun _ => (t.2 104)) : Rec)).2 0)) s p) (pw16_TP_PA _ _ _ _) ?_
            replace hp := hp.2
            obtain ⟨g10, hg10⟩ : ∃ z, z = (f_X3_save s p ((fun _ => 0, fun _ => (t.2 104)) : Rec)) := ⟨_, rfl⟩
            try rw [← hg10] at hp
            try rw [← hg10] at hq
            rw [← hg10]
            refine g_blk hz0 kX2_keep_13 ?_
            refine ⟨by decide, ?_⟩
            refine ⟨fun h => (by cases h), Or.inl rfl, ?_⟩
            refine g_min (by decide) hz0 (gw_mem (by decide +kernel)) (Nat.le_of_ble_eq_true rfl) dX2_keep_35 ?_
            refine g_blk hz0 kX2_keep_38 ?_
            refine ⟨fun h => (by cases h), Or.inl rfl, ?_⟩
            subst hq
            exact ⟨rfl, rfl⟩
          · rw [if_neg e9] at hq
            replace hp := hp.2 e9
            by_cases e11 : (t.1 1) = (Int32.ofInt 5)
            · rw [if_pos e11] at hq
              replace hp := hp.1 e11
              refine ⟨(show vp_in (t.1 1) 8 from by rw [e11]; exact vinL (by decide)), 7, (show rowF [2, 3, 4, 5, 6, 7, 8, 9] (Int32.toNatClampNeg (t.1 1)) = some 7 from by rw [e11]; rfl), ?_⟩
              refine cV [10, 11, 12, 13, 14, 15, 16, 17, 18, 19, 20, 21, 7] (wPA s p ((fun _ => 0, fun _ => (t.2 105)) : Rec)) (s_X3_save s p ((fun _ => 0, fun _ => (t.2 105)) : Rec) hp.1) rfl cwX3_save dX2_keep_10 rfl rfl (hm13_TP_PA _ _ _) ((len_PA _ _ _).trans (len_PA _ _ _).symm) (wTP (setA t 105 ((f_X3_save s p ((fun _ => 0, fun _ => (t.2 105)) : Rec)).2 0)) s p) (pw17_TP_PA _ _ _ _) ?_
              replace hp := hp.2
              obtain ⟨g12, hg12⟩ : ∃ z, z = (f_X3_save s p ((fun _ => 0, fun _ => (t.2 105)) : Rec)) := ⟨_, rfl⟩
              try rw [← hg12] at hp
              try rw [← hg12] at hq
              rw [← hg12]
              refine g_blk hz0 kX2_keep_13 ?_
              refine ⟨by decide, ?_⟩
              refine ⟨fun h => (by cases h), Or.inl rfl, ?_⟩
              refine g_min (by decide) hz0 (gw_mem (by decide +kernel)) (Nat.le_of_ble_eq_true rfl) dX2_keep_35 ?_
              refine g_blk hz0 kX2_keep_38 ?_
              refine ⟨fun h => (by cases h), Or.inl rfl, ?_⟩
              subst hq
              exact ⟨rfl, rfl⟩
            · rw [if_neg e11] at hq
              replace hp := hp.2 e11
              by_cases e13 : (t.1 1) = (Int32.ofInt 6)
              · rw [if_pos e13] at hq
                replace hp := hp.1 e13
                refine ⟨(show vp_in (t.1 1) 8 from by rw [e13]; exact vinL (by decide)), 8, (show rowF [2, 3, 4, 5, 6, 7, 8, 9] (Int32.toNatClampNeg (t.1 1)) = some 8 from by rw [e13]; rfl), ?_⟩
                refine cV [10, 11, 12, 13, 14, 15, 16, 17, 18, 19, 20, 21, 8] (wPA s p ((fun _ => 0, fun _ => (t.2 106)) : Rec)) (s_X3_save s p ((fun _ => 0, fun _ => (t.2 106)) : Rec) hp.1) rfl cwX3_save dX2_keep_10 rfl rfl (hm14_TP_PA _ _ _) ((len_PA _ _ _).trans (len_PA _ _ _).symm) (wTP (setA t 106 ((f_X3_save s p ((fun _ => 0, fun _ => (t.2 106)) : Rec)).2 0)) s p) (pw18_TP_PA _ _ _ _) ?_
                replace hp := hp.2
                obtain ⟨g14, hg14⟩ : ∃ z, z = (f_X3_save s p ((fun _ => 0, fun _ => (t.2 106)) : Rec)) := ⟨_, rfl⟩
                try rw [← hg14] at hp
                try rw [← hg14] at hq
                rw [← hg14]
                refine g_blk hz0 kX2_keep_13 ?_
                refine ⟨by decide, ?_⟩
                refine ⟨fun h => (by cases h), Or.inl rfl, ?_⟩
                refine g_min (by decide) hz0 (gw_mem (by decide +kernel)) (Nat.le_of_ble_eq_true rfl) dX2_keep_35 ?_
                refine g_blk hz0 kX2_keep_38 ?_
                refine ⟨fun h => (by cases h), Or.inl rfl, ?_⟩
                subst hq
                exact ⟨rfl, rfl⟩
              · rw [if_neg e13] at hq
                replace hp := hp.2 e13
                by_cases e15 : (t.1 1) = (Int32.ofInt 7)
                · rw [if_pos e15] at hq
                  replace hp := hp.1 e15
                  refine ⟨(show vp_in (t.1 1) 8 from by rw [e15]; exact vinL (by decide)), 9, (show rowF [2, 3, 4, 5, 6, 7, 8, 9] (Int32.toNatClampNeg (t.1 1)) = some 9 from by rw [e15]; rfl), ?_⟩
                  refine cV [10, 11, 12, 13, 14, 15, 16, 17, 18, 19, 20, 21, 9] (wPA s p ((fun _ => 0, fun _ => (t.2 107)) : Rec)) (s_X3_save s p ((fun _ => 0, fun _ => (t.2 107)) : Rec) hp.1) rfl cwX3_save dX2_keep_10 rfl rfl (hm15_TP_PA _ _ _) ((len_PA _ _ _).trans (len_PA _ _ _).symm) (wTP (setA t 107 ((f_X3_save s p ((fun _ => 0, fun _ => (t.2 107)) : Rec)).2 0)) s p) (pw19_TP_PA _ _ _ _) ?_
                  replace hp := hp.2
                  obtain ⟨g16, hg16⟩ : ∃ z, z = (f_X3_save s p ((fun _ => 0, fun _ => (t.2 107)) : Rec)) := ⟨_, rfl⟩
                  try rw [← hg16] at hp
                  try rw [← hg16] at hq
                  rw [← hg16]
                  refine g_blk hz0 kX2_keep_13 ?_
                  refine ⟨by decide, ?_⟩
                  refine ⟨fun h => (by cases h), Or.inl rfl, ?_⟩
                  refine g_min (by decide) hz0 (gw_mem (by decide +kernel)) (Nat.le_of_ble_eq_true rfl) dX2_keep_35 ?_
                  refine g_blk hz0 kX2_keep_38 ?_
                  refine ⟨fun h => (by cases h), Or.inl rfl, ?_⟩
                  subst hq
                  exact ⟨rfl, rfl⟩
                · rw [if_neg e15] at hq
                  replace hp := hp.2 e15
                  exact hp.elim

set_option maxHeartbeats 16000000 in
theorem pw20_TP_PA (t : Rec) (s : Rec) (p : Rec) (s9 : Rec) (p9 : Rec) : putW (wTP t s p) [10, 11, 12, 13, 14, 15, 16, 17, 18, 19, 20, 21, 2] ((wPA s9 p9 ((fun _ => 0, fun _ => t.2 100) : Rec)).map (ren [10, 11, 12, 13, 14, 15, 16, 17, 18, 19, 20, 21, 2])) = (wTP t s9 p9) := rfl
set_option maxHeartbeats 16000000 in
theorem pw21_TP_PA (t : Rec) (s : Rec) (p : Rec) (s9 : Rec) (p9 : Rec) : putW (wTP t s p) [10, 11, 12, 13, 14, 15, 16, 17, 18, 19, 20, 21, 3] ((wPA s9 p9 ((fun _ => 0, fun _ => t.2 101) : Rec)).map (ren [10, 11, 12, 13, 14, 15, 16, 17, 18, 19, 20, 21, 3])) = (wTP t s9 p9) := rfl
set_option maxHeartbeats 16000000 in
theorem pw22_TP_PA (t : Rec) (s : Rec) (p : Rec) (s9 : Rec) (p9 : Rec) : putW (wTP t s p) [10, 11, 12, 13, 14, 15, 16, 17, 18, 19, 20, 21, 4] ((wPA s9 p9 ((fun _ => 0, fun _ => t.2 102) : Rec)).map (ren [10, 11, 12, 13, 14, 15, 16, 17, 18, 19, 20, 21, 4])) = (wTP t s9 p9) := rfl
set_option maxHeartbeats 16000000 in
theorem pw23_TP_PA (t : Rec) (s : Rec) (p : Rec) (s9 : Rec) (p9 : Rec) : putW (wTP t s p) [10, 11, 12, 13, 14, 15, 16, 17, 18, 19, 20, 21, 5] ((wPA s9 p9 ((fun _ => 0, fun _ => t.2 103) : Rec)).map (ren [10, 11, 12, 13, 14, 15, 16, 17, 18, 19, 20, 21, 5])) = (wTP t s9 p9) := rfl
set_option maxHeartbeats 16000000 in
theorem pw24_TP_PA (t : Rec) (s : Rec) (p : Rec) (s9 : Rec) (p9 : Rec) : putW (wTP t s p) [10, 11, 12, 13, 14, 15, 16, 17, 18, 19, 20, 21, 6] ((wPA s9 p9 ((fun _ => 0, fun _ => t.2 104) : Rec)).map (ren [10, 11, 12, 13, 14, 15, 16, 17, 18, 19, 20, 21, 6])) = (wTP t s9 p9) := rfl
set_option maxHeartbeats 16000000 in
theorem pw25_TP_PA (t : Rec) (s : Rec) (p : Rec) (s9 : Rec) (p9 : Rec) : putW (wTP t s p) [10, 11, 12, 13, 14, 15, 16, 17, 18, 19, 20, 21, 7] ((wPA s9 p9 ((fun _ => 0, fun _ => t.2 105) : Rec)).map (ren [10, 11, 12, 13, 14, 15, 16, 17, 18, 19, 20, 21, 7])) = (wTP t s9 p9) := rfl
set_option maxHeartbeats 16000000 in
theorem pw26_TP_PA (t : Rec) (s : Rec) (p : Rec) (s9 : Rec) (p9 : Rec) : putW (wTP t s p) [10, 11, 12, 13, 14, 15, 16, 17, 18, 19, 20, 21, 8] ((wPA s9 p9 ((fun _ => 0, fun _ => t.2 106) : Rec)).map (ren [10, 11, 12, 13, 14, 15, 16, 17, 18, 19, 20, 21, 8])) = (wTP t s9 p9) := rfl
set_option maxHeartbeats 16000000 in
theorem pw27_TP_PA (t : Rec) (s : Rec) (p : Rec) (s9 : Rec) (p9 : Rec) : putW (wTP t s p) [10, 11, 12, 13, 14, 15, 16, 17, 18, 19, 20, 21, 9] ((wPA s9 p9 ((fun _ => 0, fun _ => t.2 107) : Rec)).map (ren [10, 11, 12, 13, 14, 15, 16, 17, 18, 19, 20, 21, 9])) = (wTP t s9 p9) := rfl
def f_X2_goBack (t : Rec) (s : Rec) (p : Rec)  : Int32 × Rec × Rec × Rec := if (t.1 2) = 0 then ((Int32.ofInt 0), t, s, p) else (if ((((t.1 1) + (Int32.ofInt 8)) - (Int32.ofInt 1)) - (((t.1 1) + (Int32.ofInt 8)) - (Int32.ofInt 1)) / (Int32.ofInt 8) * (Int32.ofInt 8)) = (Int32.ofInt 0) then ((Int32.ofInt 1), (setG (setG t 1 ((((t.1 1) + (Int32.ofInt 8)) - (Int32.ofInt 1)) - (((t.1 1) + (Int32.ofInt 8)) - (Int32.ofInt 1)) / (Int32.ofInt 8) * (Int32.ofInt 8))) 2 ((t.1 2) - (Int32.ofInt 1))), ((f_X3_load s p ((fun _ => 0, fun _ => (t.2 100)) : Rec)).1), ((f_X3_load s p ((fun _ => 0, fun _ => (t.2 100)) : Rec)).2)) else (if ((((t.1 1) + (Int32.ofInt 8)) - (Int32.ofInt 1)) - (((t.1 1) + (Int32.ofInt 8)) - (Int32.ofInt 1)) / (Int32.ofInt 8) * (Int32.ofInt 8)) = (Int32.ofInt 1) then ((Int32.ofInt 1), (setG (setG t 1 ((((t.1 1) + (Int32.ofInt 8)) - (Int32.ofInt 1)) - (((t.1 1) + (Int32.ofInt 8)) - (Int32.ofInt 1)) / (Int32.ofInt 8) * (Int32.ofInt 8))) 2 ((t.1 2) - (Int32.ofInt 1))), ((f_X3_load s p ((fun _ => 0, fun _ => (t.2 101)) : Rec)).1), ((f_X3_load s p ((fun _ => 0, fun _ => (t.2 101)) : Rec)).2)) else (if ((((t.1 1) + (Int32.ofInt 8)) - (Int32.ofInt 1)) - (((t.1 1) + (Int32.ofInt 8)) - (Int32.ofInt 1)) / (Int32.ofInt 8) * (Int32.ofInt 8)) = (Int32.ofInt 2) then ((Int32.ofInt 1), (setG (setG t 1 ((((t.1 1) + (Int32.ofInt 8)) - (Int32.ofInt 1)) - (((t.1 1) + (Int32.ofInt 8)) - (Int32.ofInt 1)) / (Int32.ofInt 8) * (Int32.ofInt 8))) 2 ((t.1 2) - (Int32.ofInt 1))), ((f_X3_load s p ((fun _ => 0, fun _ => (t.2 102)) : Rec)).1), ((f_X3_load s p ((fun _ => 0, fun _ => (t.2 102)) : Rec)).2)) else (if ((((t.1 1) + (Int32.ofInt 8)) - (Int32.ofInt 1)) - (((t.1 1) + (Int32.ofInt 8)) - (Int32.ofInt 1)) / (Int32.ofInt 8) * (Int32.ofInt 8)) = (Int32.ofInt 3) then ((Int32.ofInt 1), (setG (setG t 1 ((((t.1 1) + (Int32.ofInt 8)) - (Int32.ofInt 1)) - (((t.1 1) + (Int32.ofInt 8)) - (Int32.ofInt 1)) / (Int32.ofInt 8) * (Int32.ofInt 8))) 2 ((t.1 2) - (Int32.ofInt 1))), ((f_X3_load s p ((fun _ => 0, fun _ => (t.2 103)) : Rec)).1), ((f_X3_load s p ((fun _ => 0, fun _ => (t.2 103)) : Rec)).2)) else (if ((((t.1 1) + (Int32.ofInt 8)) - (Int32.ofInt 1)) - (((t.1 1) + (Int32.ofInt 8)) - (Int32.ofInt 1)) / (Int32.ofInt 8) * (Int32.ofInt 8)) = (Int32.ofInt 4) then ((Int32.ofInt 1), (setG (setG t 1 ((((t.1 1) + (Int32.ofInt 8)) - (Int32.ofInt 1)) - (((t.1 1) + (Int32.ofInt 8)) - (Int32.ofInt 1)) / (Int32.ofInt 8) * (Int32.ofInt 8))) 2 ((t.1 2) - (Int32.ofInt 1))), ((f_X3_load s p ((fun _ => 0, fun _ => (t.2 104)) : Rec)).1), ((f_X3_load s p ((fun _ => 0, fun _ => (t.2 104)) : Rec)).2)) else (if ((((t.1 1) + (Int32.ofInt 8)) - (Int32.ofInt 1)) - (((t.1 1) + (Int32.ofInt 8)) - (Int32.ofInt 1)) / (Int32.ofInt 8) * (Int32.ofInt 8)) = (Int32.ofInt 5) then ((Int32.ofInt 1), (setG (setG t 1 ((((t.1 1) + (Int32.ofInt 8)) - (Int32.ofInt 1)) - (((t.1 1) + (Int32.ofInt 8)) - (Int32.ofInt 1)) / (Int32.ofInt 8) * (Int32.ofInt 8))) 2 ((t.1 2) - (Int32.ofInt 1))), ((f_X3_load s p ((fun _ => 0, fun _ => (t.2 105)) : Rec)).1), ((f_X3_load s p ((fun _ => 0, fun _ => (t.2 105)) : Rec)).2)) else (if ((((t.1 1) + (Int32.ofInt 8)) - (Int32.ofInt 1)) - (((t.1 1) + (Int32.ofInt 8)) - (Int32.ofInt 1)) / (Int32.ofInt 8) * (Int32.ofInt 8)) = (Int32.ofInt 6) then ((Int32.ofInt 1), (setG (setG t 1 ((((t.1 1) + (Int32.ofInt 8)) - (Int32.ofInt 1)) - (((t.1 1) + (Int32.ofInt 8)) - (Int32.ofInt 1)) / (Int32.ofInt 8) * (Int32.ofInt 8))) 2 ((t.1 2) - (Int32.ofInt 1))), ((f_X3_load s p ((fun _ => 0, fun _ => (t.2 106)) : Rec)).1), ((f_X3_load s p ((fun _ => 0, fun _ => (t.2 106)) : Rec)).2)) else (if ((((t.1 1) + (Int32.ofInt 8)) - (Int32.ofInt 1)) - (((t.1 1) + (Int32.ofInt 8)) - (Int32.ofInt 1)) / (Int32.ofInt 8) * (Int32.ofInt 8)) = (Int32.ofInt 7) then ((Int32.ofInt 1), (setG (setG t 1 ((((t.1 1) + (Int32.ofInt 8)) - (Int32.ofInt 1)) - (((t.1 1) + (Int32.ofInt 8)) - (Int32.ofInt 1)) / (Int32.ofInt 8) * (Int32.ofInt 8))) 2 ((t.1 2) - (Int32.ofInt 1))), ((f_X3_load s p ((fun _ => 0, fun _ => (t.2 107)) : Rec)).1), ((f_X3_load s p ((fun _ => 0, fun _ => (t.2 107)) : Rec)).2)) else (0, t, s, p)))))))))
def p_X2_goBack (t : Rec) (s : Rec) (p : Rec)  : Prop := ((t.1 2) = 0 → True) ∧ (¬ ((t.1 2) = 0) → ((((((t.1 1) + (Int32.ofInt 8)) - (Int32.ofInt 1)) - (((t.1 1) + (Int32.ofInt 8)) - (Int32.ofInt 1)) / (Int32.ofInt 8) * (Int32.ofInt 8)) = (Int32.ofInt 0) → ((p_X3_load s p ((fun _ => 0, fun _ => (t.2 100)) : Rec)) ∧ True)) ∧ (¬ (((((t.1 1) + (Int32.ofInt 8)) - (Int32.ofInt 1)) - (((t.1 1) + (Int32.ofInt 8)) - (Int32.ofInt 1)) / (Int32.ofInt 8) * (Int32.ofInt 8)) = (Int32.ofInt 0)) → ((((((t.1 1) + (Int32.ofInt 8)) - (Int32.ofInt 1)) - (((t.1 1) + (Int32.ofInt 8)) - (Int32.ofInt 1)) / (Int32.ofInt 8) * (Int32.ofInt 8)) = (Int32.ofInt 1) → ((p_X3_load s p ((fun _ => 0, fun _ => (t.2 101)) : Rec)) ∧ True)) ∧ (¬ (((((t.1 1) + (Int32.ofInt 8)) - (Int32.ofInt 1)) - (((t.1 1) + (Int32.ofInt 8)) - (Int32.ofInt 1)) / (Int32.ofInt 8) * (Int32.ofInt 8)) = (Int32.ofInt 1)) → ((((((t.1 1) + (Int32.ofInt 8)) - (Int32.ofInt 1)) - (((t.1 1) + (Int32.ofInt 8)) - (Int32.ofInt 1)) / (Int32.ofInt 8) * (Int32.ofInt 8)) = (Int32.ofInt 2) → ((p_X3_load s p ((fun _ => 0, fun _ => (t.2 102)) : Rec)) ∧ True)) ∧ (¬ (((((t.1 1) + (Int32.ofInt 8)) - (Int32.ofInt 1)) - (((t.1 1) + (Int32.ofInt 8)) - (Int32.ofInt 1)) / (Int32.ofInt 8) * (Int32.ofInt 8)) = (Int32.ofInt 2)) → ((((((t.1 1) + (Int32.ofInt 8)) - (Int32.ofInt 1)) - (((t.1 1) + (Int32.ofInt 8)) - (Int32.ofInt 1)) / (Int32.ofInt 8) * (Int32.ofInt 8)) = (Int32.ofInt 3) → ((p_X3_load s p ((fun _ => 0, fun _ => (t.2 103)) : Rec)) ∧ True)) ∧ (¬ (((((t.1 1) + (Int32.ofInt 8)) - (Int32.ofInt 1)) - (((t.1 1) + (Int32.ofInt 8)) - (Int32.ofInt 1)) / (Int32.ofInt 8) * (Int32.ofInt 8)) = (Int32.ofInt 3)) → ((((((t.1 1) + (Int32.ofInt 8)) - (Int32.ofInt 1)) - (((t.1 1) + (Int32.ofInt 8)) - (Int32.ofInt 1)) / (Int32.ofInt 8) * (Int32.ofInt 8)) = (Int32.ofInt 4) → ((p_X3_load s p ((fun _ => 0, fun _ => (t.2 104)) : Rec)) ∧ True)) ∧ (¬ (((((t.1 1) + (Int32.ofInt 8)) - (Int32.ofInt 1)) - (((t.1 1) + (Int32.ofInt 8)) - (Int32.ofInt 1)) / (Int32.ofInt 8) * (Int32.ofInt 8)) = (Int32.ofInt 4)) → ((((((t.1 1) + (Int32.ofInt 8)) - (Int32.ofInt 1)) - (((t.1 1) + (Int32.ofInt 8)) - (Int32.ofInt 1)) / (Int32.ofInt 8) * (Int32.ofInt 8)) = (Int32.ofInt 5) → ((p_X3_load s p ((fun _ => 0, fun _ => (t.2 105)) : Rec)) ∧ True)) ∧ (¬ (((((t.1 1) + (Int32.ofInt 8)) - (Int32.ofInt 1)) - (((t.1 1) + (Int32.ofInt 8)) - (Int32.ofInt 1)) / (Int32.ofInt 8) * (Int32.ofInt 8)) = (Int32.ofInt 5)) → ((((((t.1 1) + (Int32.ofInt 8)) - (Int32.ofInt 1)) - (((t.1 1) + (Int32.ofInt 8)) - (Int32.ofInt 1)) / (Int32.ofInt 8) * (Int32.ofInt 8)) = (Int32.ofInt 6) → ((p_X3_load s p ((fun _ => 0, fun _ => (t.2 106)) : Rec)) ∧ True)) ∧ (¬ (((((t.1 1) + (Int32.ofInt 8)) - (Int32.ofInt 1)) - (((t.1 1) + (Int32.ofInt 8)) - (Int32.ofInt 1)) / (Int32.ofInt 8) * (Int32.ofInt 8)) = (Int32.ofInt 6)) → ((((((t.1 1) + (Int32.ofInt 8)) - (Int32.ofInt 1)) - (((t.1 1) + (Int32.ofInt 8)) - (Int32.ofInt 1)) / (Int32.ofInt 8) * (Int32.ofInt 8)) = (Int32.ofInt 7) → ((p_X3_load s p ((fun _ => 0, fun _ => (t.2 107)) : Rec)) ∧ True)) ∧ (¬ (((((t.1 1) + (Int32.ofInt 8)) - (Int32.ofInt 1)) - (((t.1 1) + (Int32.ofInt 8)) - (Int32.ofInt 1)) / (Int32.ofInt 8) * (Int32.ofInt 8)) = (Int32.ofInt 7)) → (False))))))))))))))))))
set_option maxHeartbeats 16000000 in
set_option maxRecDepth 20000 in
theorem s_X2_goBack (t : Rec) (s : Rec) (p : Rec)  (hp : p_X2_goBack t s p) : Spec 4 0 0 mX2_goBack [.ref 0, .ref 10] (wTP t s p) (Ret (some (.int ((f_X2_goBack t s p).1))) (wTP ((f_X2_goBack t s p).2.1) ((f_X2_goBack t s p).2.2.1) ((f_X2_goBack t s p).2.2.2))) := by
  obtain ⟨zq, hq⟩ : ∃ z, z = (f_X2_goBack t s p) := ⟨_, rfl⟩
  rw [← hq]
  unfold f_X2_goBack at hq
  unfold p_X2_goBack at hp
  refine Sof fun sc => ?_
  refine g_blk hz0 kX2_goBack_0 ?_
  refine ⟨fun c1 => ?_, fun c1 => ?_⟩
  · rw [if_neg (show ¬ ((t.1 2) = 0) from c1)] at hq
    replace hp := hp.2 c1
    refine g_blk hz0 kX2_goBack_9 ?_
    refine ⟨by decide, ?_⟩
    refine ⟨fun h => (by cases h), Or.inl rfl, ?_⟩
    refine ⟨fun h => (by cases h), Or.inl rfl, ?_⟩
    by_cases e2 : ((((t.1 1) + (Int32.ofInt 8)) - (Int32.ofInt 1)) - (((t.1 1) + (Int32.ofInt 8)) - (Int32.ofInt 1)) / (Int32.ofInt 8) * (Int32.ofInt 8)) = (Int32.ofInt 0)
    · rw [if_pos e2] at hq
      replace hp := hp.1 e2
      refine ⟨(show vp_in ((((t.1 1) + (Int32.ofInt 8)) - (Int32.ofInt 1)) - (((t.1 1) + (Int32.ofInt 8)) - (Int32.ofInt 1)) / (Int32.ofInt 8) * (Int32.ofInt 8)) 8 from by rw [e2]; exact vinL (by decide)), 2, (show rowF [2, 3, 4, 5, 6, 7, 8, 9] (Int32.toNatClampNeg ((((t.1 1) + (Int32.ofInt 8)) - (Int32.ofInt 1)) - (((t.1 1) + (Int32.ofInt 8)) - (Int32.ofInt 1)) / (Int32.ofInt 8) * (Int32.ofInt 8))) = some 2 from by rw [e2]; rfl), ?_⟩
      refine g_w (w2 := (wTP (setG (setG t 1 ((((t.1 1) + (Int32.ofInt 8)) - (Int32.ofInt 1)) - (((t.1 1) + (Int32.ofInt 8)) - (Int32.ofInt 1)) / (Int32.ofInt 8) * (Int32.ofInt 8))) 2 ((t.1 2) - (Int32.ofInt 1))) s p)) rfl ?_
      refine cV [10, 11, 12, 13, 14, 15, 16, 17, 18, 19, 20, 21, 2] (wPA s p ((fun _ => 0, fun _ => (t.2 100)) : Rec)) (s_X3_load s p ((fun _ => 0, fun _ => (t.2 100)) : Rec) hp.1) rfl cwX3_load dX2_goBack_45 rfl rfl (hm8_TP_PA _ _ _) ((len_PA _ _ _).trans (len_PA _ _ _).symm) (wTP (setG (setG t 1 ((((t.1 1) + (Int32.ofInt 8)) - (Int32.ofInt 1)) - (((t.1 1) + (Int32.ofInt 8)) - (Int32.ofInt 1)) / (Int32.ofInt 8) * (Int32.ofInt 8))) 2 ((t.1 2) - (Int32.ofInt 1))) ((f_X3_load s p ((fun _ => 0, fun _ => (t.2 100)) : Rec)).1) ((f_X3_load s p ((fun _ => 0, fun _ => (t.2 100)) : Rec)).2)) (pw20_TP_PA _ _ _ _ _) ?_
      replace hp := hp.2
      obtain ⟨g3, hg3⟩ : ∃ z, z = (f_X3_load s p ((fun _ => 0, fun _ => (t.2 100)) : Rec)) := ⟨_, rfl⟩
      try rw [← hg3] at hp
      try rw [← hg3] at hq
      rw [← hg3]
      refine g_blk hz0 kX2_goBack_48 ?_
      subst hq
      exact ⟨fun _ => Or.inr rfl, rfl, rfl⟩
    · rw [if_neg e2] at hq
      replace hp := hp.2 e2
      by_cases e4 : ((((t.1 1) + (Int32.ofInt 8)) - (Int32.ofInt 1)) - (((t.1 1) + (Int32.ofInt 8)) - (Int32.ofInt 1)) / (Int32.ofInt 8) * (Int32.ofInt 8)) = (Int32.ofInt 1)
      · rw [if_pos e4] at hq
        replace hp := hp.1 e4
        refine ⟨(show vp_in ((((t.1 1) + (Int32.ofInt 8)) - (Int32.ofInt 1)) - (((t.1 1) + (Int32.ofInt 8)) - (Int32.ofInt 1)) / (Int32.ofInt 8) * (Int32.ofInt 8)) 8 from by rw [e4]; exact vinL (by decide)), 3, (show rowF [2, 3, 4, 5, 6, 7, 8, 9] (Int32.toNatClampNeg ((((t.1 1) + (Int32.ofInt 8)) - (Int32.ofInt 1)) - (((t.1 1) + (Int32.ofInt 8)) - (Int32.ofInt 1)) / (Int32.ofInt 8) * (Int32.ofInt 8))) = some 3 from by rw [e4]; rfl), ?_⟩
        refine g_w (w2 := (wTP (setG (setG t 1 ((((t.1 1) + (Int32.ofInt 8)) - (Int32.ofInt 1)) - (((t.1 1) + (Int32.ofInt 8)) - (Int32.ofInt 1)) / (Int32.ofInt 8) * (Int32.ofInt 8))) 2 ((t.1 2) - (Int32.ofInt 1))) s p)) rfl ?_
        refine cV [10, 11, 12, 13, 14, 15, 16, 17, 18, 19, 20, 21, 3] (wPA s p ((fun _ => 0, fun _ => (t.2 101)) : Rec)) (s_X3_load s p ((fun _ => 0, fun _ => (t.2 101)) : Rec) hp.1) rfl cwX3_load dX2_goBack_45 rfl rfl (hm9_TP_PA _ _ _) ((len_PA _ _ _).trans (len_PA _ _ _).symm) (wTP (setG (setG t 1 ((((t.1 1) + (Int32.ofInt 8)) - (Int32.ofInt 1)) - (((t.1 1) + (Int32.ofInt 8)) - (Int32.ofInt 1)) / (Int32.ofInt 8) * (Int32.ofInt 8))) 2 ((t.1 2) - (Int32.ofInt 1))) ((f_X3_load s p ((fun _ => 0, fun _ => (t.2 101)) : Rec)).1) ((f_X3_load s p ((fun _ => 0, fun _ => (t.2 101)) : Rec)).2)) (pw21_TP_PA _ _ _ _ _) ?_
        replace hp := hp.2
        obtain ⟨g5, hg5⟩ : ∃ z, z = (f_X3_load s p ((fun _ => 0, fun _ => (t.2 101)) : Rec)) := ⟨_, rfl⟩
        try rw [← hg5] at hp
        try rw [← hg5] at hq
        rw [← hg5]
        refine g_blk hz0 kX2_goBack_48 ?_
        subst hq
        exact ⟨fun _ => Or.inr rfl, rfl, rfl⟩
      · rw [if_neg e4] at hq
        replace hp := hp.2 e4
        by_cases e6 : ((((t.1 1) + (Int32.ofInt 8)) - (Int32.ofInt 1)) - (((t.1 1) + (Int32.ofInt 8)) - (Int32.ofInt 1)) / (Int32.ofInt 8) * (Int32.ofInt 8)) = (Int32.ofInt 2)
        · rw [if_pos e6] at hq
          replace hp := hp.1 e6
          refine ⟨(show vp_in ((((t.1 1) + (Int32.ofInt 8)) - (Int32.ofInt 1)) - (((t.1 1) + (Int32.ofInt 8)) - (Int32.ofInt 1)) / (Int32.ofInt 8) * (Int32.ofInt 8)) 8 from by rw [e6]; exact vinL (by decide)), 4, (show rowF [2, 3, 4, 5, 6, 7, 8, 9] (Int32.toNatClampNeg ((((t.1 1) + (Int32.ofInt 8)) - (Int32.ofInt 1)) - (((t.1 1) + (Int32.ofInt 8)) - (Int32.ofInt 1)) / (Int32.ofInt 8) * (Int32.ofInt 8))) = some 4 from by rw [e6]; rfl), ?_⟩
          refine g_w (w2 := (wTP (setG (setG t 1 ((((t.1 1) + (Int32.ofInt 8)) - (Int32.ofInt 1)) - (((t.1 1) + (Int32.ofInt 8)) - (Int32.ofInt 1)) / (Int32.ofInt 8) * (Int32.ofInt 8))) 2 ((t.1 2) - (Int32.ofInt 1))) s p)) rfl ?_
          refine cV [10, 11, 12, 13, 14, 15, 16, 17, 18, 19, 20, 21, 4] (wPA s p ((fun _ => 0, fun _ => (t.2 102)) : Rec)) (s_X3_load s p ((fun _ => 0, fun _ => (t.2 102)) : Rec) hp.1) rfl cwX3_load dX2_goBack_45 rfl rfl (hm10_TP_PA _ _ _) ((len_PA _ _ _).trans (len_PA _ _ _).symm) (wTP (setG (setG t 1 ((((t.1 1) + (Int32.ofInt 8)) - (Int32.ofInt 1)) - (((t.1 1) + (Int32.ofInt 8)) - (Int32.ofInt 1)) / (Int32.ofInt 8) * (Int32.ofInt 8))) 2 ((t.1 2) - (Int32.ofInt 1))) ((f_X3_load s p ((fun _ => 0, fun _ => (t.2 102)) : Rec)).1) ((f_X3_load s p ((fun _ => 0, fun _ => (t.2 102)) : Rec)).2)) (pw22_TP_PA _ _ _ _ _) ?_
          replace hp := hp.2
          obtain ⟨g7, hg7⟩ : ∃ z, z = (f_X3_load s p ((fun _ => 0, fun _ => (t.2 102)) : Rec)) := ⟨_, rfl⟩
          try rw [← hg7] at hp
          try rw [← hg7] at hq
          rw [← hg7]
          refine g_blk hz0 kX2_goBack_48 ?_
          subst hq
          exact ⟨fun _ => Or.inr rfl, rfl, rfl⟩
        · rw [if_neg e6] at hq
          replace hp := hp.2 e6
          by_cases e8 : ((((t.1 1) + (Int32.ofInt 8)) - (Int32.ofInt 1)) - (((t.1 1) + (Int32.ofInt 8)) - (Int32.ofInt 1)) / (Int32.ofInt 8) * (Int32.ofInt 8)) = (Int32.ofInt 3)
          · rw [if_pos e8] at hq
            replace hp := hp.1 e8
            refine ⟨(show vp_in ((((t.1 1) + (Int32.ofInt 8)) - (Int32.ofInt 1)) - (((t.1 1) + (Int32.ofInt 8)) - (Int32.ofInt 1)) / (Int32.ofInt 8) * (Int32.ofInt 8)) 8 from by rw [e8]; exact vinL (by decide)), 5, (show rowF [2, 3, 4, 5, 6, 7, 8, 9] (Int32.toNatClampNeg ((((t.1 1) + (Int32.ofInt 8)) - (Int32.ofInt 1)) - (((t.1 1) + (Int32.ofInt 8)) - (Int32.ofInt 1)) / (Int32.ofInt 8) * (Int32.ofInt 8))) = some 5 from by rw [e8]; rfl), ?_⟩
            refine g_w (w2 := (wTP (setG (setG t 1 ((((t.1 1) + (Int32.ofInt 8)) - (Int32.ofInt 1)) - (((t.1 1) + (Int32.ofInt 8)) - (Int32.ofInt 1)) / (Int32.ofInt 8) * (Int32.ofInt 8))) 2 ((t.1 2) - (Int32.ofInt 1))) s p)) rfl ?_
            refine cV [10, 11, 12, 13, 14, 15, 16, 17, 18, 19, 20, 21, 5] (wPA s p ((fun _ => 0, fun _ => (t.2 103)) : Rec)) (s_X3_load s p ((fun _ => 0, fun _ => (t.2 103)) : Rec) hp.1) rfl cwX3_load dX2_goBack_45 rfl rfl (hm11_TP_PA _ _ _) ((len_PA _ _ _).trans (len_PA _ _ _).symm) (wTP (setG (setG t 1 ((((t.1 1) + (Int32.ofInt 8)) - (Int32.ofInt 1)) - (((t.1 1) + (Int32.ofInt 8)) - (Int32.ofInt 1)) / (Int32.ofInt 8) * (Int32.ofInt 8))) 2 ((t.1 2) - (Int32.ofInt 1))) ((f_X3_load s p ((fun _ => 0, fun _ => (t.2 103)) : Rec)).1) ((f_X3_load s p ((fun _ => 0, fun _ => (t.2 103)) : Rec)).2)) (pw23_TP_PA _ _ _ _ _) ?_
            replace hp := hp.2
            obtain ⟨g9, hg9⟩ : ∃ z, z = (f_X3_load s p ((fun _ => 0, fun _ => (t.2 103)) : Rec)) := ⟨_, rfl⟩
            try rw [← hg9] at hp
            try rw [← hg9] at hq
            rw [← hg9]
            refine g_blk hz0 kX2_goBack_48 ?_
            subst hq
            exact ⟨fun _ => Or.inr rfl, rfl, rfl⟩
          · rw [if_neg e8] at hq
            replace hp := hp.2 e8
            by_cases e10 : ((((t.1 1) + (Int32.ofInt 8)) - (Int32.ofInt 1)) - (((t.1 1) + (Int32.ofInt 8)) - (Int32.ofInt 1)) / (Int32.ofInt 8) * (Int32.ofInt 8)) = (Int32.ofInt 4)
            · rw [if_pos e10] at hq
              replace hp := hp.1 e10
              refine ⟨(show vp_in ((((t.1 1) + (Int32.ofInt 8)) - (Int32.ofInt 1)) - (((t.1 1) + (Int32.ofInt 8)) - (Int32.ofInt 1)) / (Int32.ofInt 8) * (Int32.ofInt 8)) 8 from by rw [e10]; exact vinL (by decide)), 6, (show rowF [2, 3, 4, 5, 6, 7, 8, 9] (Int32.toNatClampNeg ((((t.1 1) + (Int32.ofInt 8)) - (Int32.ofInt 1)) - (((t.1 1) + (Int32.ofInt 8)) - (Int32.ofInt 1)) / (Int32.ofInt 8) * (Int32.ofInt 8))) = some 6 from by rw [e10]; rfl), ?_⟩
              refine g_w (w2 := (wTP (setG (setG t 1 ((((t.1 1) + (Int32.ofInt 8)) - (Int32.ofInt 1)) - (((t.1 1) + (Int32.ofInt 8)) - (Int32.ofInt 1)) / (Int32.ofInt 8) * (Int32.ofInt 8))) 2 ((t.1 2) - (Int32.ofInt 1))) s p)) rfl ?_
              refine cV [10, 11, 12, 13, 14, 15, 16, 17, 18, 19, 20, 21, 6] (wPA s p ((fun _ => 0, fun _ => (t.2 104)) : Rec)) (s_X3_load s p ((fun _ => 0, fun _ => (t.2 104)) : Rec) hp.1) rfl cwX3_load dX2_goBack_45 rfl rfl (hm12_TP_PA _ _ _) ((len_PA _ _ _).trans (len_PA _ _ _).symm) (wTP (setG (setG t 1 ((((t.1 1) + (Int32.ofInt 8)) - (Int32.ofInt 1)) - (((t.1 1) + (Int32.ofInt 8)) - (Int32.ofInt 1)) / (Int32.ofInt 8) * (Int32.ofInt 8))) 2 ((t.1 2) - (Int32.ofInt 1))) ((f_X3_load s p ((fun _ => 0, fun _ => (t.2 104)) : Rec)).1) ((f_X3_load s p ((fun _ => 0, fun _ => (t.2 104)) : Rec)).2)) (pw24_TP_PA _ _ _ _ _) ?_
              replace hp := hp.2
              obtain ⟨g11, hg11⟩ : ∃ z, z = (f_X3_load s p ((fun _ => 0, fun _ => (t.2 104)) : Rec)) := ⟨_, rfl⟩
              try rw [← hg11] at hp
              try rw [← hg11] at hq
              rw [← hg11]
              refine g_blk hz0 kX2_goBack_48 ?_
              subst hq
              exact ⟨fun _ => Or.inr rfl, rfl, rfl⟩
            · rw [if_neg e10] at hq
              replace hp := hp.2 e10
              by_cases e12 : ((((t.1 1) + (Int32.ofInt 8)) - (Int32.ofInt 1)) - (((t.1 1) + (Int32.ofInt 8)) - (Int32.ofInt 1)) / (Int32.ofInt 8) * (Int32.ofInt 8)) = (Int32.ofInt 5)
              · rw [if_pos e12] at hq
                replace hp := hp.1 e12
                refine ⟨(show vp_in ((((t.1 1) + (Int32.ofInt 8)) - (Int32.ofInt 1)) - (((t.1 1) + (Int32.ofInt 8)) - (Int32.ofInt 1)) / (Int32.ofInt 8) * (Int32.ofInt 8)) 8 from by rw [e12]; exact vinL (by decide)), 7, (show rowF [2, 3, 4, 5, 6, 7, 8, 9] (Int32.toNatClampNeg ((((t.1 1) + (Int32.ofInt 8)) - (Int32.ofInt 1)) - (((t.1 1) + (Int32.ofInt 8)) - (Int32.ofInt 1)) / (Int32.ofInt 8) * (Int32.ofInt 8))) = some 7 from by rw [e12]; rfl), ?_⟩
                refine g_w (w2 := (wTP (setG (setG t 1 ((((t.1 1) + (Int32.ofInt 8)) - (Int32.ofInt 1)) - (((t.1 1) + (Int32.ofInt 8)) - (Int32.ofInt 1)) / (Int32.ofInt 8) * (Int32.ofInt 8))) 2 ((t.1 2) - (Int32.ofInt 1))) s p)) rfl ?_
                refine cV [10, 11, 12, 13, 14, 15, 16, 17, 18, 19, 20, 21, 7] (wPA s p ((fun _ => 0, fun _ => (t.2 105)) : Rec)) (s_X3_load s p ((fun _ => 0, fun _ => (t.2 105)) : Rec) hp.1) rfl cwX3_load dX2_goBack_45 rfl rfl (hm13_TP_PA _ _ _) ((len_PA _ _ _).trans (len_PA _ _ _).symm) (wTP (setG (setG t 1 ((((t.1 1) + (Int32.ofInt 8)) - (Int32.ofInt 1)) - (((t.1 1) + (Int32.ofInt 8)) - (Int32.ofInt 1)) / (Int32.ofInt 8) * (Int32.ofInt 8))) 2 ((t.1 2) - (Int32.ofInt 1))) ((f_X3_load s p ((fun _ => 0, fun _ => (t.2 105)) : Rec)).1) ((f_X3_load s p ((fun _ => 0, fun _ => (t.2 105)) : Rec)).2)) (pw25_TP_PA _ _ _ _ _) ?_
                replace hp := hp.2
                obtain ⟨g13, hg13⟩ : ∃ z, z = (f_X3_load s p ((fun _ => 0, fun _ => (t.2 105)) : Rec)) := ⟨_, rfl⟩
                try rw [← hg13] at hp
                try rw [← hg13] at hq
                rw [← hg13]
                refine g_blk hz0 kX2_goBack_48 ?_
                subst hq
                exact ⟨fun _ => Or.inr rfl, rfl, rfl⟩
              · rw [if_neg e12] at hq
                replace hp := hp.2 e12
                by_cases e14 : ((((t.1 1) + (Int32.ofInt 8)) - (Int32.ofInt 1)) - (((t.1 1) + (Int32.ofInt 8)) - (Int32.ofInt 1)) / (Int32.ofInt 8) * (Int32.ofInt 8)) = (Int32.ofInt 6)
                · rw [if_pos e14] at hq
                  replace hp := hp.1 e14
                  refine ⟨(show vp_in ((((t.1 1) + (Int32.ofInt 8)) - (Int32.ofInt 1)) - (((t.1 1) + (Int32.ofInt 8)) - (Int32.ofInt 1)) / (Int32.ofInt 8) * (Int32.ofInt 8)) 8 from by rw [e14]; exact vinL (by decide)), 8, (show rowF [2, 3, 4, 5, 6, 7, 8, 9] (Int32.toNatClampNeg ((((t.1 1) + (Int32.ofInt 8)) - (Int32.ofInt 1)) - (((t.1 1) + (Int32.ofInt 8)) - (Int32.ofInt 1)) / (Int32.ofInt 8) * (Int32.ofInt 8))) = some 8 from by rw [e14]; rfl), ?_⟩
                  refine g_w (w2 := (wTP (setG (setG t 1 ((((t.1 1) + (Int32.ofInt 8)) - (Int32.ofInt 1)) - (((t.1 1) + (Int32.ofInt 8)) - (Int32.ofInt 1)) / (Int32.ofInt 8) * (Int32.ofInt 8))) 2 ((t.1 2) - (Int32.ofInt 1))) s p)) rfl ?_
                  refine cV [10, 11, 12, 13, 14, 15, 16, 17, 18, 19, 20, 21, 8] (wPA s p ((fun _ => 0, fun _ => (t.2 106)) : Rec)) (s_X3_load s p ((fun _ => 0, fun _ => (t.2 106)) : Rec) hp.1) rfl cwX3_load dX2_goBack_45 rfl rfl (hm14_TP_PA _ _ _) ((len_PA _ _ _).trans (len_PA _ _ _).symm) (wTP (setG (setG t 1 ((((t.1 1) + (Int32.ofInt 8)) - (Int32.ofInt 1)) - (((t.1 1) + (Int32.ofInt 8)) - (Int32.ofInt 1)) / (Int32.ofInt 8) * (Int32.ofInt 8))) 2 ((t.1 2) - (Int32.ofInt 1))) ((f_X3_load s p ((fun _ => 0, fun _ => (t.2 106)) : Rec)).1) ((f_X3_load s p ((fun _ => 0, fun _ => (t.2 106)) : Rec)).2)) (pw26_TP_PA _ _ _ _ _) ?_
                  replace hp := hp.2
                  obtain ⟨g15, hg15⟩ : ∃ z, z = (f_X3_load s p ((fun _ => 0, fun _ => (t.2 106)) : Rec)) := ⟨_, rfl⟩
                  try rw [← hg15] at hp
                  try rw [← hg15] at hq
                  rw [← hg15]
                  refine g_blk hz0 kX2_goBack_48 ?_
                  subst hq
                  exact ⟨fun _ => Or.inr rfl, rfl, rfl⟩
                · rw [if_neg e14] at hq
                  replace hp := hp.2 e14
                  by_cases e16 : ((((t.1 1) + (Int32.ofInt 8)) - (Int32.ofInt 1)) - (((t.1 1) + (Int32.ofInt 8)) - (Int32.ofInt 1)) / (Int32.ofInt 8) * (Int32.ofInt 8)) = (Int32.ofInt 7)
                  · rw [if_pos e16] at hq
                    replace hp := hp.1 e16
                    refine ⟨(show vp_in ((((t.1 1) + (Int32.ofInt 8)) - (Int32.ofInt 1)) - (((t.1 1) + (Int32.ofInt 8)) - (Int32.ofInt 1)) / (Int32.ofInt 8) * (Int32.ofInt 8)) 8 from by rw [e16]; exact vinL (by decide)), 9, (show rowF [2, 3, 4, 5, 6, 7, 8, 9] (Int32.toNatClampNeg ((((t.1 1) + (Int32.ofInt 8)) - (Int32.ofInt 1)) - (((t.1 1) + (Int32.ofInt 8)) - (Int32.ofInt 1)) / (Int32.ofInt 8) * (Int32.ofInt 8))) = some 9 from by rw [e16]; rfl), ?_⟩
                    refine g_w (w2 := (wTP (setG (setG t 1 ((((t.1 1) + (Int32.ofInt 8)) - (Int32.ofInt 1)) - (((t.1 1) + (Int32.ofInt 8)) - (Int32.ofInt 1)) / (Int32.ofInt 8) * (Int32.ofInt 8))) 2 ((t.1 2) - (Int32.ofInt 1))) s p)) rfl ?_
                    refine cV [10, 11, 12, 13, 14, 15, 16, 17, 18, 19, 20, 21, 9] (wPA s p ((fun _ => 0, fun _ => (t.2 107)) : Rec)) (s_X3_load s p ((fun _ => 0, fun _ => (t.2 107)) : Rec) hp.1) rfl cwX3_load dX2_goBack_45 rfl rfl (hm15_TP_PA _ _ _) ((len_PA _ _ _).trans (len_PA _ _ _).symm) (wTP (setG (setG t 1 ((((t.1 1) + (Int32.ofInt 8)) - (Int32.ofInt 1)) - (((t.1 1) + (Int32.ofInt 8)) - (Int32.ofInt 1)) / (Int32.ofInt 8) * (Int32.ofInt 8))) 2 ((t.1 2) - (Int32.ofInt 1))) ((f_X3_load s p ((fun _ => 0, fun _ => (t.2 107)) : Rec)).1) ((f_X3_load s p ((fun _ => 0, fun _ => (t.2 107)) : Rec)).2)) (pw27_TP_PA _ _ _ _ _) ?_
                    replace hp := hp.2
                    obtain ⟨g17, hg17⟩ : ∃ z, z = (f_X3_load s p ((fun _ => 0, fun _ => (t.2 107)) : Rec)) := ⟨_, rfl⟩
                    try rw [← hg17] at hp
                    try rw [← hg17] at hq
                    rw [← hg17]
                    refine g_blk hz0 kX2_goBack_48 ?_
                    subst hq
                    exact ⟨fun _ => Or.inr rfl, rfl, rfl⟩
                  · rw [if_neg e16] at hq
                    replace hp := hp.2 e16
                    exact hp.elim
  · rw [if_pos (show (t.1 2) = 0 from c1)] at hq
    refine g_blk hz0 kX2_goBack_7 ?_
    subst hq
    exact ⟨fun _ => Or.inl rfl, rfl, rfl⟩

def f_X2_copy_2  : Nat → Rec → Rec → Int32 → Rec
  | 0, t, t2, v2 => t
  | n + 1, t, t2, v2 => if (Int32.ofInt 8) ≤ v2 then (setG (setG t 1 (t2.1 1)) 2 (t2.1 2)) else (if v2 = (Int32.ofInt 0) then (f_X2_copy_2 n (setA t 100 (va_cpy (t2.2 100) (t.2 100) 0 0 20)) t2 (v2 + (Int32.ofInt 1))) else (if v2 = (Int32.ofInt 1) then (f_X2_copy_2 n (setA t 101 (va_cpy (t2.2 101) (t.2 101) 0 0 20)) t2 (v2 + (Int32.ofInt 1))) else (if v2 = (Int32.ofInt 2) then (f_X2_copy_2 n (setA t 102 (va_cpy (t2.2 102) (t.2 102) 0 0 20)) t2 (v2 + (Int32.ofInt 1))) else (if v2 = (Int32.ofInt 3) then (f_X2_copy_2 n (setA t 103 (va_cpy (t2.2 103) (t.2 103) 0 0 20)) t2 (v2 + (Int32.ofInt 1))) else (if v2 = (Int32.ofInt 4) then (f_X2_copy_2 n (setA t 104 (va_cpy (t2.2 104) (t.2 104) 0 0 20)) t2 (v2 + (Int32.ofInt 1))) else (if v2 = (Int32.ofInt 5) then (f_X2_copy_2 n (setA t 105 (va_cpy (t2.2 105) (t.2 105) 0 0 20)) t2 (v2 + (Int32.ofInt 1))) else (if v2 = (Int32.ofInt 6) then (f_X2_copy_2 n (setA t 106 (va_cpy (t2.2 106) (t.2 106) 0 0 20)) t2 (v2 + (Int32.ofInt 1))) else (if v2 = (Int32.ofInt 7) then (f_X2_copy_2 n (setA t 107 (va_cpy (t2.2 107) (t.2 107) 0 0 20)) t2 (v2 + (Int32.ofInt 1))) else t))))))))
def p_X2_copy_2  : Nat → Rec → Rec → Int32 → Prop
  | 0, _, _, _ => False
  | n + 1, t, t2, v2 => ((Int32.ofInt 8) ≤ v2 → True) ∧ (¬ ((Int32.ofInt 8) ≤ v2) → ((v2 = (Int32.ofInt 0) → (p_X2_copy_2 n (setA t 100 (va_cpy (t2.2 100) (t.2 100) 0 0 20)) t2 (v2 + (Int32.ofInt 1)))) ∧ (¬ (v2 = (Int32.ofInt 0)) → ((v2 = (Int32.ofInt 1) → (p_X2_copy_2 n (setA t 101 (va_cpy (t2.2 101) (t.2 101) 0 0 20)) t2 (v2 + (Int32.ofInt 1)))) ∧ (¬ (v2 = (Int32.ofInt 1)) → ((v2 = (Int32.ofInt 2) → (p_X2_copy_2 n (setA t 102 (va_cpy (t2.2 102) (t.2 102) 0 0 20)) t2 (v2 + (Int32.ofInt 1)))) ∧ (¬ (v2 = (Int32.ofInt 2)) → ((v2 = (Int32.ofInt 3) → (p_X2_copy_2 n (setA t 103 (va_cpy (t2.2 103) (t.2 103) 0 0 20)) t2 (v2 + (Int32.ofInt 1)))) ∧ (¬ (v2 = (Int32.ofInt 3)) → ((v2 = (Int32.ofInt 4) → (p_X2_copy_2 n (setA t 104 (va_cpy (t2.2 104) (t.2 104) 0 0 20)) t2 (v2 + (Int32.ofInt 1)))) ∧ (¬ (v2 = (Int32.ofInt 4)) → ((v2 = (Int32.ofInt 5) → (p_X2_copy_2 n (setA t 105 (va_cpy (t2.2 105) (t.2 105) 0 0 20)) t2 (v2 + (Int32.ofInt 1)))) ∧ (¬ (v2 = (Int32.ofInt 5)) → ((v2 = (Int32.ofInt 6) → (p_X2_copy_2 n (setA t 106 (va_cpy (t2.2 106) (t.2 106) 0 0 20)) t2 (v2 + (Int32.ofInt 1)))) ∧ (¬ (v2 = (Int32.ofInt 6)) → ((v2 = (Int32.ofInt 7) → (p_X2_copy_2 n (setA t 107 (va_cpy (t2.2 107) (t.2 107) 0 0 20)) t2 (v2 + (Int32.ofInt 1)))) ∧ (¬ (v2 = (Int32.ofInt 7)) → (False))))))))))))))))))
set_option maxHeartbeats 16000000 in
set_option maxRecDepth 20000 in
theorem l_X2_copy_2 (sc : SC) (t2 : Rec)  (zq : Rec)  : ∀ (n : Nat) (t : Rec) (v2 : Int32), p_X2_copy_2 n t t2 v2 → zq = f_X2_copy_2 n t t2 v2 → Good sc 1 0 0 20 mX2_copy (Ret none (wTT (zq) t2)) 0 0 2 [some (.ref 0), some (.ref 10), some (.int v2)] [] (wTT t t2) := by
  intro n
  induction n with
  | zero => intro t v2 hp; exact hp.elim
  | succ n ih =>
    intro t v2 hp hq
    unfold p_X2_copy_2 at hp
    unfold f_X2_copy_2 at hq
    refine g_blk hz0 kX2_copy_2 ?_
    refine ⟨fun c1 => ?_, fun c1 => ?_⟩
    · rw [if_pos (show (Int32.ofInt 8) ≤ v2 from c1)] at hq
      refine g_blk hz0 kX2_copy_33 ?_
      refine ⟨fun h => (by cases h), Or.inl rfl, ?_⟩
      refine ⟨fun h => (by cases h), Or.inl rfl, ?_⟩
      subst hq
      exact ⟨rfl, rfl⟩
    · rw [if_neg (show ¬ ((Int32.ofInt 8) ≤ v2) from c1)] at hq
      replace hp := hp.2 c1
      refine g_blk hz0 kX2_copy_8 ?_
      by_cases e2 : v2 = (Int32.ofInt 0)
      · rw [if_pos e2] at hq
        replace hp := hp.1 e2
        refine ⟨(show vp_in v2 8 from by rw [e2]; exact vinL (by decide)), 12, (show rowF [12, 13, 14, 15, 16, 17, 18, 19] (Int32.toNatClampNeg v2) = some 12 from by rw [e2]; rfl), ?_⟩
        refine ⟨(show vp_in v2 8 from by rw [e2]; exact vinL (by decide)), 2, (show rowF [2, 3, 4, 5, 6, 7, 8, 9] (Int32.toNatClampNeg v2) = some 2 from by rw [e2]; rfl), ?_⟩
        refine g_copy (t := 0) (m0 := 20) (m1 := 20) (f := (t2.2 100)) (g := (t.2 100)) (by decide) (Or.inl rfl) (gw_mem (by decide +kernel)) rfl rfl (by decide) (by decide) (by decide) (by decide) (by decide) (fun h => by cases h) (Nat.le_of_ble_eq_true rfl) dX2_copy_24 ?_
        refine g_blk hz0 kX2_copy_27 ?_
        refine g_le (L2 := [some (.ref 0), some (.ref 10), some (.int (v2 + (Int32.ofInt 1)))]) ⟨rfl, rfl, rfl, trivial⟩ ?_
        exact ih (setA t 100 (va_cpy (t2.2 100) (t.2 100) 0 0 20)) (v2 + (Int32.ofInt 1)) hp hq
      · rw [if_neg e2] at hq
        replace hp := hp.2 e2
        by_cases e3 : v2 = (Int32.ofInt 1)
        · rw [if_pos e3] at hq
          replace hp := hp.1 e3
          refine ⟨(show vp_in v2 8 from by rw [e3]; exact vinL (by decide)), 13, (show rowF [12, 13, 14, 15, 16, 17, 18, 19] (Int32.toNatClampNeg v2) = some 13 from by rw [e3]; rfl), ?_⟩
          refine ⟨(show vp_in v2 8 from by rw [e3]; exact vinL (by decide)), 3, (show rowF [2, 3, 4, 5, 6, 7, 8, 9] (Int32.toNatClampNeg v2) = some 3 from by rw [e3]; rfl), ?_⟩
          refine g_copy (t := 0) (m0 := 20) (m1 := 20) (f := (t2.2 101)) (g := (t.2 101)) (by decide) (Or.inl rfl) (gw_mem (by decide +kernel)) rfl rfl (by decide) (by decide) (by decide) (by decide) (by decide) (fun h => by cases h) (Nat.le_of_ble_eq_true rfl) dX2_copy_24 ?_
          refine g_blk hz0 kX2_copy_27 ?_
          refine g_le (L2 := [some (.ref 0), some (.ref 10), some (.int (v2 + (Int32.ofInt 1)))]) ⟨rfl, rfl, rfl, trivial⟩ ?_
          exact ih (setA t 101 (va_cpy (t2.2 101) (t.2 101) 0 0 20)) (v2 + (Int32.ofInt 1)) hp hq
        · rw [if_neg e3] at hq
          replace hp := hp.2 e3
          by_cases e4 : v2 = (Int32.ofInt 2)
          · rw [if_pos e4] at hq
            replace hp := hp.1 e4
            refine ⟨(show vp_in v2 8 from by rw [e4]; exact vinL (by decide)), 14, (show rowF [12, 13, 14, 15, 16, 17, 18, 19] (Int32.toNatClampNeg v2) = some 14 from by rw [e4]; rfl), ?_⟩
            refine ⟨(show vp_in v2 8 from by rw [e4]; exact vinL (by decide)), 4, (show rowF [2, 3, 4, 5, 6, 7, 8, 9] (Int32.toNatClampNeg v2) = some 4 from by rw [e4]; rfl), ?_⟩
            refine g_copy (t := 0) (m0 := 20) (m1 := 20) (f := (t2.2 102)) (g := (t.2 102)) (by decide) (Or.inl rfl) (gw_mem (by decide +kernel)) rfl rfl (by decide) (by decide) (by decide) (by decide) (by decide) (fun h => by cases h) (Nat.le_of_ble_eq_true rfl) dX2_copy_24 ?_
            refine g_blk hz0 kX2_copy_27 ?_
            refine g_le (L2 := [some (.ref 0), some (.ref 10), some (.int (v2 + (Int32.ofInt 1)))]) ⟨rfl, rfl, rfl, trivial⟩ ?_
            exact ih (setA t 102 (va_cpy (t2.2 102) (t.2 102) 0 0 20)) (v2 + (Int32.ofInt 1)) hp hq
          · rw [if_neg e4] at hq
            replace hp := hp.2 e4
            by_cases e5 : v2 = (Int32.ofInt 3)
            · rw [if_pos e5] at hq
              replace hp := hp.1 e5
              refine ⟨(show vp_in v2 8 from by rw [e5]; exact vinL (by decide)), 15, (show rowF [12, 13, 14, 15, 16, 17, 18, 19] (Int32.toNatClampNeg v2) = some 15 from by rw [e5]; rfl), ?_⟩
              refine ⟨(show vp_in v2 8 from by rw [e5]; exact vinL (by decide)), 5, (show rowF [2, 3, 4, 5, 6, 7, 8, 9] (Int32.toNatClampNeg v2) = some 5 from by rw [e5]; rfl), ?_⟩
              refine g_copy (t := 0) (m0 := 20) (m1 := 20) (f := (t2.2 103)) (g := (t.2 103)) (by decide) (Or.inl rfl) (gw_mem (by decide +kernel)) rfl rfl (by decide) (by decide) (by decide) (by decide) (by decide) (fun h => by cases h) (Nat.le_of_ble_eq_true rfl) dX2_copy_24 ?_
              refine g_blk hz0 kX2_copy_27 ?_
              refine g_le (L2 := [some (.ref 0), some (.ref 10), some (.int (v2 + (Int32.ofInt 1)))]) ⟨rfl, rfl, rfl, trivial⟩ ?_
              exact ih (setA t 103 (va_cpy (t2.2 103) (t.2 103) 0 0 20)) (v2 + (Int32.ofInt 1)) hp hq
            · rw [if_neg e5] at hq
              replace hp := hp.2 e5
              by_cases e6 : v2 = (Int32.ofInt 4)
              · rw [if_pos e6] at hq
                replace hp := hp.1 e6
                refine ⟨(show vp_in v2 8 from by rw [e6]; exact vinL (by decide)), 16, (show rowF [12, 13, 14, 15, 16, 17, 18, 19] (Int32.toNatClampNeg v2) = some 16 from by rw [e6]; rfl), ?_⟩
                refine ⟨(show vp_in v2 8 from by rw [e6]; exact vinL (by decide)), 6, (show rowF [2, 3, 4, 5, 6, 7, 8, 9] (Int32.toNatClampNeg v2) = some 6 from by rw [e6]; rfl), ?_⟩
                refine g_copy (t := 0) (m0 := 20) (m1 := 20) (f := (t2.2 104)) (g := (t.2 104)) (by decide) (Or.inl rfl) (gw_mem (by decide +kernel)) rfl rfl (by decide) (by decide) (by decide) (by decide) (by decide) (fun h => by cases h) (Nat.le_of_ble_eq_true rfl) dX2_copy_24 ?_
                refine g_blk hz0 kX2_copy_27 ?_
                refine g_le (L2 := [some (.ref 0), some (.ref 10), some (.int (v2 + (Int32.ofInt 1)))]) ⟨rfl, rfl, rfl, trivial⟩ ?_
                exact ih (setA t 104 (va_cpy (t2.2 104) (t.2 104) 0 0 20)) (v2 + (Int32.ofInt 1)) hp hq
              · rw [if_neg e6] at hq
                replace hp := hp.2 e6
                by_cases e7 : v2 = (Int32.ofInt 5)
                · rw [if_pos e7] at hq
                  replace hp := hp.1 e7
                  refine ⟨(show vp_in v2 8 from by rw [e7]; exact vinL (by decide)), 17, (show rowF [12, 13, 14, 15, 16, 17, 18, 19] (Int32.toNatClampNeg v2) = some 17 from by rw [e7]; rfl), ?_⟩
                  refine ⟨(show vp_in v2 8 from by rw [e7]; exact vinL (by decide)), 7, (show rowF [2, 3, 4, 5, 6, 7, 8, 9] (Int32.toNatClampNeg v2) = some 7 from by rw [e7]; rfl), ?_⟩
                  refine g_copy (t := 0) (m0 := 20) (m1 := 20) (f := (t2.2 105)) (g := (t.2 105)) (by decide) (Or.inl rfl) (gw_mem (by decide +kernel)) rfl rfl (by decide) (by decide) (by decide) (by decide) (by decide) (fun h => by cases h) (Nat.le_of_ble_eq_true rfl) dX2_copy_24 ?_
                  refine g_blk hz0 kX2_copy_27 ?_
                  refine g_le (L2 := [some (.ref 0), some (.ref 10), some (.int (v2 + (Int32.ofInt 1)))]) ⟨rfl, rfl, rfl, trivial⟩ ?_
                  exact ih (setA t 105 (va_cpy (t2.2 105) (t.2 105) 0 0 20)) (v2 + (Int32.ofInt 1)) hp hq
                · rw [if_neg e7] at hq
                  replace hp := hp.2 e7
                  by_cases e8 : v2 = (Int32.ofInt 6)
                  · rw [if_pos e8] at hq
                    replace hp := hp.1 e8
                    refine ⟨(show vp_in v2 8 from by rw [e8]; exact vinL (by decide)), 18, (show rowF [12, 13, 14, 15, 16, 17, 18, 19] (Int32.toNatClampNeg v2) = some 18 from by rw [e8]; rfl), ?_⟩
                    refine ⟨(show vp_in v2 8 from by rw [e8]; exact vinL (by decide)), 8, (show rowF [2, 3, 4, 5, 6, 7, 8, 9] (Int32.toNatClampNeg v2) = some 8 from by rw [e8]; rfl), ?_⟩
                    refine g_copy (t := 0) (m0 := 20) (m1 := 20) (f := (t2.2 106)) (g := (t.2 106)) (by decide) (Or.inl rfl) (gw_mem (by decide +kernel)) rfl rfl (by decide) (by decide) (by decide) (by decide) (by decide) (fun h => by cases h) (Nat.le_of_ble_eq_true rfl) dX2_copy_24 ?_
                    refine g_blk hz0 kX2_copy_27 ?_
                    refine g_le (L2 := [some (.ref 0), some (.ref 10), some (.int (v2 + (Int32.ofInt 1)))]) ⟨rfl, rfl, rfl, trivial⟩ ?_
                    exact ih (setA t 106 (va_cpy (t2.2 106) (t.2 106) 0 0 20)) (v2 + (Int32.ofInt 1)) hp hq
                  · rw [if_neg e8] at hq
                    replace hp := hp.2 e8
                    by_cases e9 : v2 = (Int32.ofInt 7)
                    · rw [if_pos e9] at hq
                      replace hp := hp.1 e9
                      refine ⟨(show vp_in v2 8 from by rw [e9]; exact vinL (by decide)), 19, (show rowF [12, 13, 14, 15, 16, 17, 18, 19] (Int32.toNatClampNeg v2) = some 19 from by rw [e9]; rfl), ?_⟩
                      refine ⟨(show vp_in v2 8 from by rw [e9]; exact vinL (by decide)), 9, (show rowF [2, 3, 4, 5, 6, 7, 8, 9] (Int32.toNatClampNeg v2) = some 9 from by rw [e9]; rfl), ?_⟩
                      refine g_copy (t := 0) (m0 := 20) (m1 := 20) (f := (t2.2 107)) (g := (t.2 107)) (by decide) (Or.inl rfl) (gw_mem (by decide +kernel)) rfl rfl (by decide) (by decide) (by decide) (by decide) (by decide) (fun h => by cases h) (Nat.le_of_ble_eq_true rfl) dX2_copy_24 ?_
                      refine g_blk hz0 kX2_copy_27 ?_
                      refine g_le (L2 := [some (.ref 0), some (.ref 10), some (.int (v2 + (Int32.ofInt 1)))]) ⟨rfl, rfl, rfl, trivial⟩ ?_
                      exact ih (setA t 107 (va_cpy (t2.2 107) (t.2 107) 0 0 20)) (v2 + (Int32.ofInt 1)) hp hq
                    · rw [if_neg e9] at hq
                      replace hp := hp.2 e9
                      exact hp.elim
def f_X2_copy (t : Rec) (t2 : Rec)  : Rec := (f_X2_copy_2 40 t t2 ((Int32.ofInt 0)))
def p_X2_copy (t : Rec) (t2 : Rec)  : Prop := (p_X2_copy_2 40 t t2 ((Int32.ofInt 0)))
set_option maxHeartbeats 16000000 in
set_option maxRecDepth 20000 in
theorem s_X2_copy (t : Rec) (t2 : Rec)  (hp : p_X2_copy t t2) : Spec 1 0 0 mX2_copy [.ref 0, .ref 10] (wTT t t2) (Ret none (wTT ((f_X2_copy t t2)) t2)) := by
  obtain ⟨zq, hq⟩ : ∃ z, z = (f_X2_copy t t2) := ⟨_, rfl⟩
  rw [← hq]
  unfold f_X2_copy at hq
  unfold p_X2_copy at hp
  refine Sof fun sc => ?_
  refine g_blk hz0 kX2_copy_0 ?_
  refine g_le (L2 := [some (.ref 0), some (.ref 10), some (.int (Int32.ofInt 0))]) ⟨rfl, rfl, rfl, trivial⟩ ?_
  exact l_X2_copy_2 sc t2 zq 40 t ((Int32.ofInt 0)) hp hq
