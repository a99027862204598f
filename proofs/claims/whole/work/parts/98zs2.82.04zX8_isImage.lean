/-! a field that is never null is passed over; isImage: within alone decides -/
section
variable {sc : SC} {d mc ms n0 : Nat} {mi : MI} {P : Pst} {kc ks : Nat} {pc : Nat} {L : List (Option Value)} {r : List Value} {w : List va_E}
theorem g_ifnull {x : Nat} {off : Int} (hd : decode mi.2.2.1 pc = .ok (.ifnull off, 3)) (k : Good sc d mc ms n0 mi P kc ks (pc + 3) L r w) : Good sc d mc ms n0 mi P kc ks pc L (.ref x :: r) w := by
  intro p l e R s m args below meth c D cy ad0 A Q C H locs ls ad ha hn hm hP hD hS hl
  exact lv_ifnull C.1 C.2.1 hd (k p l e R s m args below meth c D cy ad0 A Q C H locs ls ad ha hn hm hP hD hS hl)
end
theorem wi_01 {i : Int32} (h : ¬ (f_X8_within i ((Int32.ofInt 0)) ((Int32.ofInt 1))) = 0) : i = (Int32.ofInt 0) ∨ i = (Int32.ofInt 1) := by
  have e0 : Int32.ofInt 0 = 0 := rfl
  have e1 : Int32.ofInt 1 = 1 := rfl
  rw [e0, e1] at h ⊢
  have := wi_n.mp h
  grind
set_option maxHeartbeats 16000000 in
set_option maxRecDepth 20000 in
theorem s_X8_isImage (c : Rec) (s : Rec) (p : Rec) (t : Rec) (e : Rec) (o : Rec) (oh : Rec) (h : Rec) (k : Rec) (q : Rec) (s1 : Rec) (p1 : Rec) (s2 : Rec) (p2 : Rec) (t1 : Rec) (t2 : Rec) (i : Int32) : Spec 1 0 0 mX8_isImage [.ref 0, .int i] (wB c s p t e o oh h k q s1 p1 s2 p2 t1 t2) (Ret (some (.int ((f_X8_within i ((Int32.ofInt 0)) ((Int32.ofInt 1)))))) (wB c s p t e o oh h k q s1 p1 s2 p2 t1 t2)) := by
  obtain ⟨zq, hq⟩ : ∃ z, z = (f_X8_within i ((Int32.ofInt 0)) ((Int32.ofInt 1))) := ⟨_, rfl⟩
  rw [← hq]
  refine Sof fun sc => ?_
  refine g_blk hz0 kX8_isImage_0 ?_
  refine cS0 (s_X8_within i ((Int32.ofInt 0)) ((Int32.ofInt 1))) rfl cwX8_within dX8_isImage_3 rfl ?_
  refine g_blk hz0 kX8_isImage_6 ?_
  refine ⟨fun c1 => ?_, fun c1 => ?_⟩
  · rw [(show (f_X8_within i ((Int32.ofInt 0)) ((Int32.ofInt 1))) = 0 from c1)] at hq
    refine g_blk hz0 kX8_isImage_31 ?_
    refine g_blk hz0 kX8_isImage_32 ?_
    subst hq
    exact ⟨fun _ => Or.inl rfl, rfl, rfl⟩
  · rw [(z_X8_within i ((Int32.ofInt 0)) ((Int32.ofInt 1))).resolve_left c1] at hq
    rcases wi_01 c1 with e3 | e3
    · refine g_blk hz0 kX8_isImage_9 ?_
      refine ⟨(show vp_in i 2 from by rw [e3]; exact vinL (by decide)), 68, (show rowF [68, 90] (Int32.toNatClampNeg i) = some 68 from by rw [e3]; rfl), ?_⟩
      refine g_ifnull dX8_isImage_15 ?_
      refine g_blk hz0 kX8_isImage_18 ?_
      refine ⟨(show vp_in i 2 from by rw [e3]; exact vinL (by decide)), 80, (show rowF [80, 102] (Int32.toNatClampNeg i) = some 80 from by rw [e3]; rfl), ?_⟩
      refine g_ifnull dX8_isImage_24 ?_
      refine g_blk hz0 kX8_isImage_27 ?_
      refine g_blk hz0 kX8_isImage_32 ?_
      subst hq
      exact ⟨fun _ => Or.inr rfl, rfl, rfl⟩
    · refine g_blk hz0 kX8_isImage_9 ?_
      refine ⟨(show vp_in i 2 from by rw [e3]; exact vinL (by decide)), 90, (show rowF [68, 90] (Int32.toNatClampNeg i) = some 90 from by rw [e3]; rfl), ?_⟩
      refine g_ifnull dX8_isImage_15 ?_
      refine g_blk hz0 kX8_isImage_18 ?_
      refine ⟨(show vp_in i 2 from by rw [e3]; exact vinL (by decide)), 102, (show rowF [80, 102] (Int32.toNatClampNeg i) = some 102 from by rw [e3]; rfl), ?_⟩
      refine g_ifnull dX8_isImage_24 ?_
      refine g_blk hz0 kX8_isImage_27 ?_
      refine g_blk hz0 kX8_isImage_32 ?_
      subst hq
      exact ⟨fun _ => Or.inr rfl, rfl, rfl⟩
