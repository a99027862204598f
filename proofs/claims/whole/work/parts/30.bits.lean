def bJ13_bitCount_95d88q_0 : List Instr := [.lload_n 0, .lload_n 0, .iconst 1, .lushr, .ldc2_w 314, .land, .lsub, .lstore_n 0]
theorem kJ13_bitCount_95d88q_0 : okB mJ13_bitCount_95d88 0 bJ13_bitCount_95d88q_0 = true := by decide +kernel
def bJ13_bitCount_95d88q_10 : List Instr := [.lload_n 0, .ldc2_w 316, .land, .lload_n 0, .iconst 2, .lushr, .ldc2_w 316, .land, .ladd, .lstore_n 0]
theorem kJ13_bitCount_95d88q_10 : okB mJ13_bitCount_95d88 10 bJ13_bitCount_95d88q_10 = true := by decide +kernel
def bJ13_bitCount_95d88q_24 : List Instr := [.lload_n 0, .lload_n 0, .iconst 4, .lushr, .ladd, .ldc2_w 318, .land, .lstore_n 0]
theorem kJ13_bitCount_95d88q_24 : okB mJ13_bitCount_95d88 24 bJ13_bitCount_95d88q_24 = true := by decide +kernel
def bJ13_bitCount_95d88q_34 : List Instr := [.lload_n 0, .lload_n 0, .bipush 8, .lushr, .ladd, .lstore_n 0]
theorem kJ13_bitCount_95d88q_34 : okB mJ13_bitCount_95d88 34 bJ13_bitCount_95d88q_34 = true := by decide +kernel
def bJ13_bitCount_95d88q_41 : List Instr := [.lload_n 0, .lload_n 0, .bipush 16, .lushr, .ladd, .lstore_n 0]
theorem kJ13_bitCount_95d88q_41 : okB mJ13_bitCount_95d88 41 bJ13_bitCount_95d88q_41 = true := by decide +kernel
def bJ13_bitCount_95d88q_48 : List Instr := [.lload_n 0, .lload_n 0, .bipush 32, .lushr, .ladd, .lstore_n 0]
theorem kJ13_bitCount_95d88q_48 : okB mJ13_bitCount_95d88 48 bJ13_bitCount_95d88q_48 = true := by decide +kernel
def bJ13_bitCount_95d88q_55 : List Instr := [.lload_n 0, .l2i, .bipush 127, .iand, .ireturn]
theorem kJ13_bitCount_95d88q_55 : okB mJ13_bitCount_95d88 55 bJ13_bitCount_95d88q_55 = true := by decide +kernel
def f_J13_bitCount_95d88_55   (v0 : Int64) : Int32 := ((Int64.toInt32 v0) &&& (Int32.ofInt 127))
def p_J13_bitCount_95d88_55   (v0 : Int64) : Prop := True
set_option maxHeartbeats 16000000 in
set_option maxRecDepth 20000 in
theorem l_J13_bitCount_95d88_55 (sc : SC)   (zq : Int32)   (v0 : Int64) (hp : p_J13_bitCount_95d88_55 v0) (hq : zq = f_J13_bitCount_95d88_55 v0) : Good sc 0 0 0 0 mJ13_bitCount_95d88 (Ret (some (.int (zq))) []) 0 0 55 [some (.long v0), none] [] [] := by
  unfold p_J13_bitCount_95d88_55 at hp
  unfold f_J13_bitCount_95d88_55 at hq
  refine g_blk hz0 kJ13_bitCount_95d88q_55 ?_
  subst hq
  exact ⟨fun h => (by cases h), rfl, rfl⟩
def f_J13_bitCount_95d88_48   (v0 : Int64) : Int32 := (f_J13_bitCount_95d88_55 (v0 + (Int64.toUInt64 v0 >>> ((Int32.toInt64 (Int32.ofInt 32)).toUInt64 &&& Int64.toUInt64 63)).toInt64))
def p_J13_bitCount_95d88_48   (v0 : Int64) : Prop := (p_J13_bitCount_95d88_55 (v0 + (Int64.toUInt64 v0 >>> ((Int32.toInt64 (Int32.ofInt 32)).toUInt64 &&& Int64.toUInt64 63)).toInt64))
set_option maxHeartbeats 16000000 in
set_option maxRecDepth 20000 in
theorem l_J13_bitCount_95d88_48 (sc : SC)   (zq : Int32)   (v0 : Int64) (hp : p_J13_bitCount_95d88_48 v0) (hq : zq = f_J13_bitCount_95d88_48 v0) : Good sc 0 0 0 0 mJ13_bitCount_95d88 (Ret (some (.int (zq))) []) 0 0 48 [some (.long v0), none] [] [] := by
  unfold p_J13_bitCount_95d88_48 at hp
  unfold f_J13_bitCount_95d88_48 at hq
  refine g_blk hz0 kJ13_bitCount_95d88q_48 ?_
  refine g_le (L2 := [some (.long (v0 + (Int64.toUInt64 v0 >>> ((Int32.toInt64 (Int32.ofInt 32)).toUInt64 &&& Int64.toUInt64 63)).toInt64)), none]) ⟨rfl, trivial⟩ ?_
  exact l_J13_bitCount_95d88_55 sc zq (v0 + (Int64.toUInt64 v0 >>> ((Int32.toInt64 (Int32.ofInt 32)).toUInt64 &&& Int64.toUInt64 63)).toInt64) hp hq
def f_J13_bitCount_95d88_41   (v0 : Int64) : Int32 := (f_J13_bitCount_95d88_48 (v0 + (Int64.toUInt64 v0 >>> ((Int32.toInt64 (Int32.ofInt 16)).toUInt64 &&& Int64.toUInt64 63)).toInt64))
def p_J13_bitCount_95d88_41   (v0 : Int64) : Prop := (p_J13_bitCount_95d88_48 (v0 + (Int64.toUInt64 v0 >>> ((Int32.toInt64 (Int32.ofInt 16)).toUInt64 &&& Int64.toUInt64 63)).toInt64))
set_option maxHeartbeats 16000000 in
set_option maxRecDepth 20000 in
theorem l_J13_bitCount_95d88_41 (sc : SC)   (zq : Int32)   (v0 : Int64) (hp : p_J13_bitCount_95d88_41 v0) (hq : zq = f_J13_bitCount_95d88_41 v0) : Good sc 0 0 0 0 mJ13_bitCount_95d88 (Ret (some (.int (zq))) []) 0 0 41 [some (.long v0), none] [] [] := by
  unfold p_J13_bitCount_95d88_41 at hp
  unfold f_J13_bitCount_95d88_41 at hq
  refine g_blk hz0 kJ13_bitCount_95d88q_41 ?_
  refine g_le (L2 := [some (.long (v0 + (Int64.toUInt64 v0 >>> ((Int32.toInt64 (Int32.ofInt 16)).toUInt64 &&& Int64.toUInt64 63)).toInt64)), none]) ⟨rfl, trivial⟩ ?_
  exact l_J13_bitCount_95d88_48 sc zq (v0 + (Int64.toUInt64 v0 >>> ((Int32.toInt64 (Int32.ofInt 16)).toUInt64 &&& Int64.toUInt64 63)).toInt64) hp hq
def f_J13_bitCount_95d88_34   (v0 : Int64) : Int32 := (f_J13_bitCount_95d88_41 (v0 + (Int64.toUInt64 v0 >>> ((Int32.toInt64 (Int32.ofInt 8)).toUInt64 &&& Int64.toUInt64 63)).toInt64))
def p_J13_bitCount_95d88_34   (v0 : Int64) : Prop := (p_J13_bitCount_95d88_41 (v0 + (Int64.toUInt64 v0 >>> ((Int32.toInt64 (Int32.ofInt 8)).toUInt64 &&& Int64.toUInt64 63)).toInt64))
set_option maxHeartbeats 16000000 in
set_option maxRecDepth 20000 in
theorem l_J13_bitCount_95d88_34 (sc : SC)   (zq : Int32)   (v0 : Int64) (hp : p_J13_bitCount_95d88_34 v0) (hq : zq = f_J13_bitCount_95d88_34 v0) : Good sc 0 0 0 0 mJ13_bitCount_95d88 (Ret (some (.int (zq))) []) 0 0 34 [some (.long v0), none] [] [] := by
  unfold p_J13_bitCount_95d88_34 at hp
  unfold f_J13_bitCount_95d88_34 at hq
  refine g_blk hz0 kJ13_bitCount_95d88q_34 ?_
  refine g_le (L2 := [some (.long (v0 + (Int64.toUInt64 v0 >>> ((Int32.toInt64 (Int32.ofInt 8)).toUInt64 &&& Int64.toUInt64 63)).toInt64)), none]) ⟨rfl, trivial⟩ ?_
  exact l_J13_bitCount_95d88_41 sc zq (v0 + (Int64.toUInt64 v0 >>> ((Int32.toInt64 (Int32.ofInt 8)).toUInt64 &&& Int64.toUInt64 63)).toInt64) hp hq
def f_J13_bitCount_95d88_24   (v0 : Int64) : Int32 := (f_J13_bitCount_95d88_34 ((v0 + (Int64.toUInt64 v0 >>> ((Int32.toInt64 (Int32.ofInt 4)).toUInt64 &&& Int64.toUInt64 63)).toInt64) &&& 1085102592571150095))
def p_J13_bitCount_95d88_24   (v0 : Int64) : Prop := (p_J13_bitCount_95d88_34 ((v0 + (Int64.toUInt64 v0 >>> ((Int32.toInt64 (Int32.ofInt 4)).toUInt64 &&& Int64.toUInt64 63)).toInt64) &&& 1085102592571150095))
set_option maxHeartbeats 16000000 in
set_option maxRecDepth 20000 in
theorem l_J13_bitCount_95d88_24 (sc : SC)   (zq : Int32)   (v0 : Int64) (hp : p_J13_bitCount_95d88_24 v0) (hq : zq = f_J13_bitCount_95d88_24 v0) : Good sc 0 0 0 0 mJ13_bitCount_95d88 (Ret (some (.int (zq))) []) 0 0 24 [some (.long v0), none] [] [] := by
  unfold p_J13_bitCount_95d88_24 at hp
  unfold f_J13_bitCount_95d88_24 at hq
  refine g_blk hz0 kJ13_bitCount_95d88q_24 ?_
  refine g_le (L2 := [some (.long ((v0 + (Int64.toUInt64 v0 >>> ((Int32.toInt64 (Int32.ofInt 4)).toUInt64 &&& Int64.toUInt64 63)).toInt64) &&& 1085102592571150095)), none]) ⟨rfl, trivial⟩ ?_
  exact l_J13_bitCount_95d88_34 sc zq ((v0 + (Int64.toUInt64 v0 >>> ((Int32.toInt64 (Int32.ofInt 4)).toUInt64 &&& Int64.toUInt64 63)).toInt64) &&& 1085102592571150095) hp hq
def f_J13_bitCount_95d88_10   (v0 : Int64) : Int32 := (f_J13_bitCount_95d88_24 ((v0 &&& 3689348814741910323) + ((Int64.toUInt64 v0 >>> ((Int32.toInt64 (Int32.ofInt 2)).toUInt64 &&& Int64.toUInt64 63)).toInt64 &&& 3689348814741910323)))
def p_J13_bitCount_95d88_10   (v0 : Int64) : Prop := (p_J13_bitCount_95d88_24 ((v0 &&& 3689348814741910323) + ((Int64.toUInt64 v0 >>> ((Int32.toInt64 (Int32.ofInt 2)).toUInt64 &&& Int64.toUInt64 63)).toInt64 &&& 3689348814741910323)))
set_option maxHeartbeats 16000000 in
set_option maxRecDepth 20000 in
theorem l_J13_bitCount_95d88_10 (sc : SC)   (zq : Int32)   (v0 : Int64) (hp : p_J13_bitCount_95d88_10 v0) (hq : zq = f_J13_bitCount_95d88_10 v0) : Good sc 0 0 0 0 mJ13_bitCount_95d88 (Ret (some (.int (zq))) []) 0 0 10 [some (.long v0), none] [] [] := by
  unfold p_J13_bitCount_95d88_10 at hp
  unfold f_J13_bitCount_95d88_10 at hq
  refine g_blk hz0 kJ13_bitCount_95d88q_10 ?_
  refine g_le (L2 := [some (.long ((v0 &&& 3689348814741910323) + ((Int64.toUInt64 v0 >>> ((Int32.toInt64 (Int32.ofInt 2)).toUInt64 &&& Int64.toUInt64 63)).toInt64 &&& 3689348814741910323))), none]) ⟨rfl, trivial⟩ ?_
  exact l_J13_bitCount_95d88_24 sc zq ((v0 &&& 3689348814741910323) + ((Int64.toUInt64 v0 >>> ((Int32.toInt64 (Int32.ofInt 2)).toUInt64 &&& Int64.toUInt64 63)).toInt64 &&& 3689348814741910323)) hp hq
def f_J13_bitCount_95d88  (x : Int64) : Int32 := (f_J13_bitCount_95d88_10 (x - ((Int64.toUInt64 x >>> ((Int32.toInt64 (Int32.ofInt 1)).toUInt64 &&& Int64.toUInt64 63)).toInt64 &&& 6148914691236517205)))
def p_J13_bitCount_95d88  (x : Int64) : Prop := (p_J13_bitCount_95d88_10 (x - ((Int64.toUInt64 x >>> ((Int32.toInt64 (Int32.ofInt 1)).toUInt64 &&& Int64.toUInt64 63)).toInt64 &&& 6148914691236517205)))
set_option maxHeartbeats 16000000 in
set_option maxRecDepth 20000 in
theorem s_J13_bitCount_95d88  (x : Int64) (hp : p_J13_bitCount_95d88 x) : Spec 0 0 0 mJ13_bitCount_95d88 [.long x] [] (Ret (some (.int ((f_J13_bitCount_95d88 x)))) []) := by
  obtain ⟨zq, hq⟩ : ∃ z, z = (f_J13_bitCount_95d88 x) := ⟨_, rfl⟩
  rw [← hq]
  unfold f_J13_bitCount_95d88 at hq
  unfold p_J13_bitCount_95d88 at hp
  refine Sof fun sc => ?_
  refine g_blk hz0 kJ13_bitCount_95d88q_0 ?_
  refine g_le (L2 := [some (.long (x - ((Int64.toUInt64 x >>> ((Int32.toInt64 (Int32.ofInt 1)).toUInt64 &&& Int64.toUInt64 63)).toInt64 &&& 6148914691236517205))), none]) ⟨rfl, trivial⟩ ?_
  exact l_J13_bitCount_95d88_10 sc zq (x - ((Int64.toUInt64 x >>> ((Int32.toInt64 (Int32.ofInt 1)).toUInt64 &&& Int64.toUInt64 63)).toInt64 &&& 6148914691236517205)) hp hq
