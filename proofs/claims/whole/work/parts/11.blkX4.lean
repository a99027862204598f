def bX4_init_0 : List Instr := [.aload_n 0]
theorem kX4_init_0 : okB mX4_init 0 bX4_init_0 = true := by decide +kernel
def bX4_init_4 : List Instr := [.aload_n 0, .bipush 36]
theorem kX4_init_4 : okB mX4_init 4 bX4_init_4 = true := by decide +kernel
def bX4_init_9 : List Instr := [.putfield 9, .aload_n 0, .bipush 36]
theorem kX4_init_9 : okB mX4_init 9 bX4_init_9 = true := by decide +kernel
def bX4_init_17 : List Instr := [.putfield 15, .aload_n 0, .bipush 36]
theorem kX4_init_17 : okB mX4_init 17 bX4_init_17 = true := by decide +kernel
def bX4_init_25 : List Instr := [.putfield 18, .aload_n 0, .bipush 36]
theorem kX4_init_25 : okB mX4_init 25 bX4_init_25 = true := by decide +kernel
def bX4_init_33 : List Instr := [.putfield 22, .aload_n 0, .bipush 36]
theorem kX4_init_33 : okB mX4_init 33 bX4_init_33 = true := by decide +kernel
def bX4_init_41 : List Instr := [.putfield 25, .aload_n 0, .bipush 9]
theorem kX4_init_41 : okB mX4_init 41 bX4_init_41 = true := by decide +kernel
def bX4_init_49 : List Instr := [.putfield 28, .return_]
theorem kX4_init_49 : okB mX4_init 49 bX4_init_49 = true := by decide +kernel
theorem dX4_init_1 : decode mX4_init.2.2.1 1 = .ok (.invokespecial 3, 3) := by decide +kernel
def bX4_begin_0 : List Instr := [.aload_n 0, .iload_n 1, .putfield 31, .aload_n 0, .iload_n 2, .putfield 35, .iconst 0, .istore_n 3]
theorem kX4_begin_0 : okB mX4_begin 0 bX4_begin_0 = true := by decide +kernel
def bX4_begin_12 : List Instr := [.iload_n 3, .bipush 36, .if_icmp .ge 20]
theorem kX4_begin_12 : okB mX4_begin 12 bX4_begin_12 = true := by decide +kernel
def bX4_begin_18 : List Instr := [.aload_n 0, .getfield 9, .iload_n 3, .aload_n 0, .iload_n 3]
theorem kX4_begin_18 : okB mX4_begin 18 bX4_begin_18 = true := by decide +kernel
def bX4_begin_28 : List Instr := [.bastore, .iinc 3 1, .goto (-20)]
theorem kX4_begin_28 : okB mX4_begin 28 bX4_begin_28 = true := by decide +kernel
def bX4_begin_35 : List Instr := [.aload_n 0]
theorem kX4_begin_35 : okB mX4_begin 35 bX4_begin_35 = true := by decide +kernel
def bX4_begin_39 : List Instr := [.return_]
theorem kX4_begin_39 : okB mX4_begin 39 bX4_begin_39 = true := by decide +kernel
theorem dX4_begin_25 : decode mX4_begin.2.2.1 25 = .ok (.invokevirtual 38, 3) := by decide +kernel
theorem dX4_begin_36 : decode mX4_begin.2.2.1 36 = .ok (.invokevirtual 42, 3) := by decide +kernel
def bX4_onBoard_0 : List Instr := [.iload_n 1, .iconst 0, .bipush 35]
theorem kX4_onBoard_0 : okB mX4_onBoard 0 bX4_onBoard_0 = true := by decide +kernel
def bX4_onBoard_7 : List Instr := [.ifCond .eq 29]
theorem kX4_onBoard_7 : okB mX4_onBoard 7 bX4_onBoard_7 = true := by decide +kernel
def bX4_onBoard_10 : List Instr := [.iload_n 1, .bipush 6, .irem, .aload_n 0, .getfield 31, .if_icmp .ge 18]
theorem kX4_onBoard_10 : okB mX4_onBoard 10 bX4_onBoard_10 = true := by decide +kernel
def bX4_onBoard_21 : List Instr := [.iload_n 1, .bipush 6, .idiv, .aload_n 0, .getfield 35, .if_icmp .ge 7]
theorem kX4_onBoard_21 : okB mX4_onBoard 21 bX4_onBoard_21 = true := by decide +kernel
def bX4_onBoard_32 : List Instr := [.iconst 1, .goto 4]
theorem kX4_onBoard_32 : okB mX4_onBoard 32 bX4_onBoard_32 = true := by decide +kernel
def bX4_onBoard_36 : List Instr := [.iconst 0]
theorem kX4_onBoard_36 : okB mX4_onBoard 36 bX4_onBoard_36 = true := by decide +kernel
def bX4_onBoard_37 : List Instr := [.ireturn]
theorem kX4_onBoard_37 : okB mX4_onBoard 37 bX4_onBoard_37 = true := by decide +kernel
theorem dX4_onBoard_4 : decode mX4_onBoard.2.2.1 4 = .ok (.invokestatic 45, 3) := by decide +kernel
def bX4_has_0 : List Instr := [.iload_n 1, .iconst 0, .bipush 35]
theorem kX4_has_0 : okB mX4_has 0 bX4_has_0 = true := by decide +kernel
def bX4_has_7 : List Instr := [.ifCond .eq 16]
theorem kX4_has_7 : okB mX4_has 7 bX4_has_7 = true := by decide +kernel
def bX4_has_10 : List Instr := [.aload_n 0, .getfield 9, .iload_n 1, .baload, .ifCond .eq 7]
theorem kX4_has_10 : okB mX4_has 10 bX4_has_10 = true := by decide +kernel
def bX4_has_19 : List Instr := [.iconst 1, .goto 4]
theorem kX4_has_19 : okB mX4_has 19 bX4_has_19 = true := by decide +kernel
def bX4_has_23 : List Instr := [.iconst 0]
theorem kX4_has_23 : okB mX4_has 23 bX4_has_23 = true := by decide +kernel
def bX4_has_24 : List Instr := [.ireturn]
theorem kX4_has_24 : okB mX4_has 24 bX4_has_24 = true := by decide +kernel
theorem dX4_has_4 : decode mX4_has.2.2.1 4 = .ok (.invokestatic 45, 3) := by decide +kernel
def bX4_cutOut_0 : List Instr := [.aload_n 0, .iload_n 1]
theorem kX4_cutOut_0 : okB mX4_cutOut 0 bX4_cutOut_0 = true := by decide +kernel
def bX4_cutOut_5 : List Instr := [.ifCond .eq 14]
theorem kX4_cutOut_5 : okB mX4_cutOut 5 bX4_cutOut_5 = true := by decide +kernel
def bX4_cutOut_8 : List Instr := [.aload_n 0, .getfield 9, .iload_n 1, .iconst 0, .bastore, .aload_n 0]
theorem kX4_cutOut_8 : okB mX4_cutOut 8 bX4_cutOut_8 = true := by decide +kernel
def bX4_cutOut_19 : List Instr := [.return_]
theorem kX4_cutOut_19 : okB mX4_cutOut 19 bX4_cutOut_19 = true := by decide +kernel
theorem dX4_cutOut_2 : decode mX4_cutOut.2.2.1 2 = .ok (.invokevirtual 49, 3) := by decide +kernel
theorem dX4_cutOut_16 : decode mX4_cutOut.2.2.1 16 = .ok (.invokevirtual 52, 3) := by decide +kernel
def bX4_howMany_0 : List Instr := [.iconst 0, .istore_n 1, .iconst 0, .istore_n 2]
theorem kX4_howMany_0 : okB mX4_howMany 0 bX4_howMany_0 = true := by decide +kernel
def bX4_howMany_4 : List Instr := [.iload_n 2, .bipush 36, .if_icmp .ge 21]
theorem kX4_howMany_4 : okB mX4_howMany 4 bX4_howMany_4 = true := by decide +kernel
def bX4_howMany_10 : List Instr := [.aload_n 0, .getfield 9, .iload_n 2, .baload, .ifCond .eq 6]
theorem kX4_howMany_10 : okB mX4_howMany 10 bX4_howMany_10 = true := by decide +kernel
def bX4_howMany_19 : List Instr := [.iinc 1 1]
theorem kX4_howMany_19 : okB mX4_howMany 19 bX4_howMany_19 = true := by decide +kernel
def bX4_howMany_22 : List Instr := [.iinc 2 1, .goto (-21)]
theorem kX4_howMany_22 : okB mX4_howMany 22 bX4_howMany_22 = true := by decide +kernel
def bX4_howMany_28 : List Instr := [.iload_n 1, .ireturn]
theorem kX4_howMany_28 : okB mX4_howMany 28 bX4_howMany_28 = true := by decide +kernel
def bX4_flatten_0 : List Instr := [.iconst 0, .istore_n 1]
theorem kX4_flatten_0 : okB mX4_flatten 0 bX4_flatten_0 = true := by decide +kernel
def bX4_flatten_2 : List Instr := [.iload_n 1, .bipush 36, .if_icmp .ge 43]
theorem kX4_flatten_2 : okB mX4_flatten 2 bX4_flatten_2 = true := by decide +kernel
def bX4_flatten_8 : List Instr := [.aload_n 0, .getfield 18, .iload_n 1, .iload_n 1, .bipush 6, .irem, .iastore, .aload_n 0, .getfield 22, .iload_n 1, .iload_n 1, .bipush 6, .idiv, .iastore, .aload_n 0, .getfield 25, .iload_n 1, .iconst 0, .iastore, .aload_n 0, .getfield 15, .iload_n 1, .iconst 0, .bastore, .iinc 1 1, .goto (-43)]
theorem kX4_flatten_8 : okB mX4_flatten 8 bX4_flatten_8 = true := by decide +kernel
def bX4_flatten_48 : List Instr := [.aload_n 0, .iconst 0, .putfield 55, .aload_n 0]
theorem kX4_flatten_48 : okB mX4_flatten 48 bX4_flatten_48 = true := by decide +kernel
def bX4_flatten_57 : List Instr := [.return_]
theorem kX4_flatten_57 : okB mX4_flatten 57 bX4_flatten_57 = true := by decide +kernel
theorem dX4_flatten_54 : decode mX4_flatten.2.2.1 54 = .ok (.invokevirtual 52, 3) := by decide +kernel
def bX4_mayCrease_0 : List Instr := [.iload_n 1, .ifCond .ne 27]
theorem kX4_mayCrease_0 : okB mX4_mayCrease 0 bX4_mayCrease_0 = true := by decide +kernel
def bX4_mayCrease_4 : List Instr := [.iload_n 2, .aload_n 0, .getfield 58, .if_icmp .le 15]
theorem kX4_mayCrease_4 : okB mX4_mayCrease 4 bX4_mayCrease_4 = true := by decide +kernel
def bX4_mayCrease_12 : List Instr := [.iload_n 2, .aload_n 0, .getfield 61, .if_icmp .gt 7]
theorem kX4_mayCrease_12 : okB mX4_mayCrease 12 bX4_mayCrease_12 = true := by decide +kernel
def bX4_mayCrease_20 : List Instr := [.iconst 1, .goto 28]
theorem kX4_mayCrease_20 : okB mX4_mayCrease 20 bX4_mayCrease_20 = true := by decide +kernel
def bX4_mayCrease_24 : List Instr := [.iconst 0, .goto 24]
theorem kX4_mayCrease_24 : okB mX4_mayCrease 24 bX4_mayCrease_24 = true := by decide +kernel
def bX4_mayCrease_28 : List Instr := [.iload_n 2, .aload_n 0, .getfield 64, .if_icmp .le 15]
theorem kX4_mayCrease_28 : okB mX4_mayCrease 28 bX4_mayCrease_28 = true := by decide +kernel
def bX4_mayCrease_36 : List Instr := [.iload_n 2, .aload_n 0, .getfield 67, .if_icmp .gt 7]
theorem kX4_mayCrease_36 : okB mX4_mayCrease 36 bX4_mayCrease_36 = true := by decide +kernel
def bX4_mayCrease_44 : List Instr := [.iconst 1, .goto 4]
theorem kX4_mayCrease_44 : okB mX4_mayCrease 44 bX4_mayCrease_44 = true := by decide +kernel
def bX4_mayCrease_48 : List Instr := [.iconst 0]
theorem kX4_mayCrease_48 : okB mX4_mayCrease 48 bX4_mayCrease_48 = true := by decide +kernel
def bX4_mayCrease_49 : List Instr := [.ireturn]
theorem kX4_mayCrease_49 : okB mX4_mayCrease 49 bX4_mayCrease_49 = true := by decide +kernel
def bX4_crease_0 : List Instr := [.aload_n 0, .getfield 55, .iconst 3, .if_icmp .lt 4]
theorem kX4_crease_0 : okB mX4_crease 0 bX4_crease_0 = true := by decide +kernel
def bX4_crease_8 : List Instr := [.return_]
theorem kX4_crease_8 : okB mX4_crease 8 bX4_crease_8 = true := by decide +kernel
def bX4_crease_9 : List Instr := [.iconst 2, .aload_n 0, .getfield 70, .imul, .iconst 1, .iadd, .istore 4, .iconst 0, .istore 5]
theorem kX4_crease_9 : okB mX4_crease 9 bX4_crease_9 = true := by decide +kernel
def bX4_crease_22 : List Instr := [.iload 5, .bipush 36, .if_icmp .ge 133]
theorem kX4_crease_22 : okB mX4_crease 22 bX4_crease_22 = true := by decide +kernel
def bX4_crease_29 : List Instr := [.aload_n 0, .getfield 9, .iload 5, .baload, .ifCond .eq 117]
theorem kX4_crease_29 : okB mX4_crease 29 bX4_crease_29 = true := by decide +kernel
def bX4_crease_39 : List Instr := [.iload_n 1, .ifCond .ne 13]
theorem kX4_crease_39 : okB mX4_crease 39 bX4_crease_39 = true := by decide +kernel
def bX4_crease_43 : List Instr := [.aload_n 0, .getfield 18, .iload 5, .iaload, .goto 10]
theorem kX4_crease_43 : okB mX4_crease 43 bX4_crease_43 = true := by decide +kernel
def bX4_crease_53 : List Instr := [.aload_n 0, .getfield 22, .iload 5, .iaload]
theorem kX4_crease_53 : okB mX4_crease 53 bX4_crease_53 = true := by decide +kernel
def bX4_crease_60 : List Instr := [.iload_n 2, .iload_n 3]
theorem kX4_crease_60 : okB mX4_crease 60 bX4_crease_60 = true := by decide +kernel
def bX4_crease_65 : List Instr := [.ifCond .ne 6]
theorem kX4_crease_65 : okB mX4_crease 65 bX4_crease_65 = true := by decide +kernel
def bX4_crease_68 : List Instr := [.goto 85]
theorem kX4_crease_68 : okB mX4_crease 68 bX4_crease_68 = true := by decide +kernel
def bX4_crease_71 : List Instr := [.iload_n 1, .ifCond .ne 24]
theorem kX4_crease_71 : okB mX4_crease 71 bX4_crease_71 = true := by decide +kernel
def bX4_crease_75 : List Instr := [.aload_n 0, .getfield 18, .iload 5, .aload_n 0, .getfield 18, .iload 5, .iaload, .iload_n 2]
theorem kX4_crease_75 : okB mX4_crease 75 bX4_crease_75 = true := by decide +kernel
def bX4_crease_92 : List Instr := [.iastore, .goto 21]
theorem kX4_crease_92 : okB mX4_crease 92 bX4_crease_92 = true := by decide +kernel
def bX4_crease_96 : List Instr := [.aload_n 0, .getfield 22, .iload 5, .aload_n 0, .getfield 22, .iload 5, .iaload, .iload_n 2]
theorem kX4_crease_96 : okB mX4_crease 96 bX4_crease_96 = true := by decide +kernel
def bX4_crease_113 : List Instr := [.iastore]
theorem kX4_crease_113 : okB mX4_crease 113 bX4_crease_113 = true := by decide +kernel
def bX4_crease_114 : List Instr := [.aload_n 0, .getfield 25, .iload 5, .iload 4, .aload_n 0, .getfield 25, .iload 5, .iaload, .isub, .iastore, .aload_n 0, .getfield 15, .iload 5, .aload_n 0, .getfield 15, .iload 5, .baload, .ifCond .ne 7]
theorem kX4_crease_114 : okB mX4_crease 114 bX4_crease_114 = true := by decide +kernel
def bX4_crease_147 : List Instr := [.iconst 1, .goto 4]
theorem kX4_crease_147 : okB mX4_crease 147 bX4_crease_147 = true := by decide +kernel
def bX4_crease_151 : List Instr := [.iconst 0]
theorem kX4_crease_151 : okB mX4_crease 151 bX4_crease_151 = true := by decide +kernel
def bX4_crease_152 : List Instr := [.bastore]
theorem kX4_crease_152 : okB mX4_crease 152 bX4_crease_152 = true := by decide +kernel
def bX4_crease_153 : List Instr := [.iinc 5 1, .goto (-134)]
theorem kX4_crease_153 : okB mX4_crease 153 bX4_crease_153 = true := by decide +kernel
def bX4_crease_159 : List Instr := [.aload_n 0, .getfield 28, .iconst 3, .aload_n 0, .getfield 55, .imul, .iload_n 1, .iastore, .aload_n 0, .getfield 28, .iconst 3, .aload_n 0, .getfield 55, .imul, .iconst 1, .iadd, .iload_n 2, .iastore, .aload_n 0, .getfield 28, .iconst 3, .aload_n 0, .getfield 55, .imul, .iconst 2, .iadd, .iload_n 3, .iastore, .aload_n 0, .dup, .getfield 55, .iconst 1, .iadd, .putfield 55, .aload_n 0]
theorem kX4_crease_159 : okB mX4_crease 159 bX4_crease_159 = true := by decide +kernel
def bX4_crease_213 : List Instr := [.return_]
theorem kX4_crease_213 : okB mX4_crease 213 bX4_crease_213 = true := by decide +kernel
theorem dX4_crease_62 : decode mX4_crease.2.2.1 62 = .ok (.invokestatic 73, 3) := by decide +kernel
theorem dX4_crease_89 : decode mX4_crease.2.2.1 89 = .ok (.invokestatic 76, 3) := by decide +kernel
theorem dX4_crease_110 : decode mX4_crease.2.2.1 110 = .ok (.invokestatic 76, 3) := by decide +kernel
theorem dX4_crease_210 : decode mX4_crease.2.2.1 210 = .ok (.invokevirtual 52, 3) := by decide +kernel
def bX4_measure_0 : List Instr := [.iconst 0, .istore_n 1, .aload_n 0, .iconst 0, .putfield 58, .aload_n 0, .iconst 0, .putfield 61, .aload_n 0, .iconst 0, .putfield 64, .aload_n 0, .iconst 0, .putfield 67, .aload_n 0, .iconst 0, .putfield 70, .iconst 0, .istore_n 2]
theorem kX4_measure_0 : okB mX4_measure 0 bX4_measure_0 = true := by decide +kernel
def bX4_measure_29 : List Instr := [.iload_n 2, .bipush 36, .if_icmp .ge 189]
theorem kX4_measure_29 : okB mX4_measure 29 bX4_measure_29 = true := by decide +kernel
def bX4_measure_35 : List Instr := [.aload_n 0, .getfield 9, .iload_n 2, .baload, .ifCond .ne 6]
theorem kX4_measure_35 : okB mX4_measure 35 bX4_measure_35 = true := by decide +kernel
def bX4_measure_44 : List Instr := [.goto 171]
theorem kX4_measure_44 : okB mX4_measure 44 bX4_measure_44 = true := by decide +kernel
def bX4_measure_47 : List Instr := [.aload_n 0, .iload_n 1, .ifCond .eq 23]
theorem kX4_measure_47 : okB mX4_measure 47 bX4_measure_47 = true := by decide +kernel
def bX4_measure_52 : List Instr := [.aload_n 0, .getfield 58, .aload_n 0, .getfield 18, .iload_n 2, .iaload, .if_icmp .ge 10]
theorem kX4_measure_52 : okB mX4_measure 52 bX4_measure_52 = true := by decide +kernel
def bX4_measure_65 : List Instr := [.aload_n 0, .getfield 58, .goto 9]
theorem kX4_measure_65 : okB mX4_measure 65 bX4_measure_65 = true := by decide +kernel
def bX4_measure_72 : List Instr := [.aload_n 0, .getfield 18, .iload_n 2, .iaload]
theorem kX4_measure_72 : okB mX4_measure 72 bX4_measure_72 = true := by decide +kernel
def bX4_measure_78 : List Instr := [.putfield 58, .aload_n 0, .iload_n 1, .ifCond .eq 23]
theorem kX4_measure_78 : okB mX4_measure 78 bX4_measure_78 = true := by decide +kernel
def bX4_measure_86 : List Instr := [.aload_n 0, .getfield 61, .aload_n 0, .getfield 18, .iload_n 2, .iaload, .if_icmp .le 10]
theorem kX4_measure_86 : okB mX4_measure 86 bX4_measure_86 = true := by decide +kernel
def bX4_measure_99 : List Instr := [.aload_n 0, .getfield 61, .goto 9]
theorem kX4_measure_99 : okB mX4_measure 99 bX4_measure_99 = true := by decide +kernel
def bX4_measure_106 : List Instr := [.aload_n 0, .getfield 18, .iload_n 2, .iaload]
theorem kX4_measure_106 : okB mX4_measure 106 bX4_measure_106 = true := by decide +kernel
def bX4_measure_112 : List Instr := [.putfield 61, .aload_n 0, .iload_n 1, .ifCond .eq 23]
theorem kX4_measure_112 : okB mX4_measure 112 bX4_measure_112 = true := by decide +kernel
def bX4_measure_120 : List Instr := [.aload_n 0, .getfield 64, .aload_n 0, .getfield 22, .iload_n 2, .iaload, .if_icmp .ge 10]
theorem kX4_measure_120 : okB mX4_measure 120 bX4_measure_120 = true := by decide +kernel
def bX4_measure_133 : List Instr := [.aload_n 0, .getfield 64, .goto 9]
theorem kX4_measure_133 : okB mX4_measure 133 bX4_measure_133 = true := by decide +kernel
def bX4_measure_140 : List Instr := [.aload_n 0, .getfield 22, .iload_n 2, .iaload]
theorem kX4_measure_140 : okB mX4_measure 140 bX4_measure_140 = true := by decide +kernel
def bX4_measure_146 : List Instr := [.putfield 64, .aload_n 0, .iload_n 1, .ifCond .eq 23]
theorem kX4_measure_146 : okB mX4_measure 146 bX4_measure_146 = true := by decide +kernel
def bX4_measure_154 : List Instr := [.aload_n 0, .getfield 67, .aload_n 0, .getfield 22, .iload_n 2, .iaload, .if_icmp .le 10]
theorem kX4_measure_154 : okB mX4_measure 154 bX4_measure_154 = true := by decide +kernel
def bX4_measure_167 : List Instr := [.aload_n 0, .getfield 67, .goto 9]
theorem kX4_measure_167 : okB mX4_measure 167 bX4_measure_167 = true := by decide +kernel
def bX4_measure_174 : List Instr := [.aload_n 0, .getfield 22, .iload_n 2, .iaload]
theorem kX4_measure_174 : okB mX4_measure 174 bX4_measure_174 = true := by decide +kernel
def bX4_measure_180 : List Instr := [.putfield 67, .aload_n 0, .aload_n 0, .getfield 70, .aload_n 0, .getfield 25, .iload_n 2, .iaload, .if_icmp .le 10]
theorem kX4_measure_180 : okB mX4_measure 180 bX4_measure_180 = true := by decide +kernel
def bX4_measure_197 : List Instr := [.aload_n 0, .getfield 70, .goto 9]
theorem kX4_measure_197 : okB mX4_measure 197 bX4_measure_197 = true := by decide +kernel
def bX4_measure_204 : List Instr := [.aload_n 0, .getfield 25, .iload_n 2, .iaload]
theorem kX4_measure_204 : okB mX4_measure 204 bX4_measure_204 = true := by decide +kernel
def bX4_measure_210 : List Instr := [.putfield 70, .iconst 1, .istore_n 1]
theorem kX4_measure_210 : okB mX4_measure 210 bX4_measure_210 = true := by decide +kernel
def bX4_measure_215 : List Instr := [.iinc 2 1, .goto (-189)]
theorem kX4_measure_215 : okB mX4_measure 215 bX4_measure_215 = true := by decide +kernel
def bX4_measure_221 : List Instr := [.return_]
theorem kX4_measure_221 : okB mX4_measure 221 bX4_measure_221 = true := by decide +kernel
def bX4_choices_0 : List Instr := [.iconst 2, .aload_n 0, .getfield 61, .aload_n 0, .getfield 58, .isub, .imul, .iconst 2, .aload_n 0, .getfield 67, .aload_n 0, .getfield 64, .isub, .imul, .iadd, .ireturn]
theorem kX4_choices_0 : okB mX4_choices 0 bX4_choices_0 = true := by decide +kernel
def bX4_choiceAxis_0 : List Instr := [.iload_n 1, .iconst 2, .aload_n 0, .getfield 61, .aload_n 0, .getfield 58, .isub, .imul, .if_icmp .ge 7]
theorem kX4_choiceAxis_0 : okB mX4_choiceAxis 0 bX4_choiceAxis_0 = true := by decide +kernel
def bX4_choiceAxis_15 : List Instr := [.iconst 0, .goto 4]
theorem kX4_choiceAxis_15 : okB mX4_choiceAxis 15 bX4_choiceAxis_15 = true := by decide +kernel
def bX4_choiceAxis_19 : List Instr := [.iconst 1]
theorem kX4_choiceAxis_19 : okB mX4_choiceAxis 19 bX4_choiceAxis_19 = true := by decide +kernel
def bX4_choiceAxis_20 : List Instr := [.ireturn]
theorem kX4_choiceAxis_20 : okB mX4_choiceAxis 20 bX4_choiceAxis_20 = true := by decide +kernel
def bX4_choiceLine_0 : List Instr := [.iconst 2, .aload_n 0, .getfield 61, .aload_n 0, .getfield 58, .isub, .imul, .istore_n 2, .iload_n 1, .iload_n 2, .if_icmp .ge 16]
theorem kX4_choiceLine_0 : okB mX4_choiceLine 0 bX4_choiceLine_0 = true := by decide +kernel
def bX4_choiceLine_17 : List Instr := [.aload_n 0, .getfield 58, .iconst 1, .iadd, .iload_n 1, .iconst 2, .idiv, .iadd, .goto 15]
theorem kX4_choiceLine_17 : okB mX4_choiceLine 17 bX4_choiceLine_17 = true := by decide +kernel
def bX4_choiceLine_30 : List Instr := [.aload_n 0, .getfield 64, .iconst 1, .iadd, .iload_n 1, .iload_n 2, .isub, .iconst 2, .idiv, .iadd]
theorem kX4_choiceLine_30 : okB mX4_choiceLine 30 bX4_choiceLine_30 = true := by decide +kernel
def bX4_choiceLine_42 : List Instr := [.ireturn]
theorem kX4_choiceLine_42 : okB mX4_choiceLine 42 bX4_choiceLine_42 = true := by decide +kernel
def bX4_choiceWay_0 : List Instr := [.iload_n 1, .iconst 2, .irem, .ireturn]
theorem kX4_choiceWay_0 : okB mX4_choiceWay 0 bX4_choiceWay_0 = true := by decide +kernel
def bX4_liesAt_0 : List Instr := [.iload_n 1, .ifCond .lt 42]
theorem kX4_liesAt_0 : okB mX4_liesAt 0 bX4_liesAt_0 = true := by decide +kernel
def bX4_liesAt_4 : List Instr := [.iload_n 1, .bipush 36, .if_icmp .ge 36]
theorem kX4_liesAt_4 : okB mX4_liesAt 4 bX4_liesAt_4 = true := by decide +kernel
def bX4_liesAt_10 : List Instr := [.aload_n 0, .getfield 9, .iload_n 1, .baload, .ifCond .eq 27]
theorem kX4_liesAt_10 : okB mX4_liesAt 10 bX4_liesAt_10 = true := by decide +kernel
def bX4_liesAt_19 : List Instr := [.aload_n 0, .getfield 18, .iload_n 1, .iaload, .iload_n 2, .if_icmp .ne 17]
theorem kX4_liesAt_19 : okB mX4_liesAt 19 bX4_liesAt_19 = true := by decide +kernel
def bX4_liesAt_29 : List Instr := [.aload_n 0, .getfield 22, .iload_n 1, .iaload, .iload_n 3, .if_icmp .ne 7]
theorem kX4_liesAt_29 : okB mX4_liesAt 29 bX4_liesAt_29 = true := by decide +kernel
def bX4_liesAt_39 : List Instr := [.iconst 1, .goto 4]
theorem kX4_liesAt_39 : okB mX4_liesAt 39 bX4_liesAt_39 = true := by decide +kernel
def bX4_liesAt_43 : List Instr := [.iconst 0]
theorem kX4_liesAt_43 : okB mX4_liesAt 43 bX4_liesAt_43 = true := by decide +kernel
def bX4_liesAt_44 : List Instr := [.ireturn]
theorem kX4_liesAt_44 : okB mX4_liesAt 44 bX4_liesAt_44 = true := by decide +kernel
def bX4_topAt_0 : List Instr := [.iconst (-1), .istore_n 3, .iconst 0, .istore 4]
theorem kX4_topAt_0 : okB mX4_topAt 0 bX4_topAt_0 = true := by decide +kernel
def bX4_topAt_5 : List Instr := [.iload 4, .bipush 36, .if_icmp .ge 44]
theorem kX4_topAt_5 : okB mX4_topAt 5 bX4_topAt_5 = true := by decide +kernel
def bX4_topAt_12 : List Instr := [.aload_n 0, .iload 4, .iload_n 1, .iload_n 2]
theorem kX4_topAt_12 : okB mX4_topAt 12 bX4_topAt_12 = true := by decide +kernel
def bX4_topAt_20 : List Instr := [.ifCond .eq 27]
theorem kX4_topAt_20 : okB mX4_topAt 20 bX4_topAt_20 = true := by decide +kernel
def bX4_topAt_23 : List Instr := [.iload_n 3, .iconst (-1), .if_icmp .eq 19]
theorem kX4_topAt_23 : okB mX4_topAt 23 bX4_topAt_23 = true := by decide +kernel
def bX4_topAt_28 : List Instr := [.aload_n 0, .getfield 25, .iload 4, .iaload, .aload_n 0, .getfield 25, .iload_n 3, .iaload, .if_icmp .le 6]
theorem kX4_topAt_28 : okB mX4_topAt 28 bX4_topAt_28 = true := by decide +kernel
def bX4_topAt_44 : List Instr := [.iload 4, .istore_n 3]
theorem kX4_topAt_44 : okB mX4_topAt 44 bX4_topAt_44 = true := by decide +kernel
def bX4_topAt_47 : List Instr := [.iinc 4 1, .goto (-45)]
theorem kX4_topAt_47 : okB mX4_topAt 47 bX4_topAt_47 = true := by decide +kernel
def bX4_topAt_53 : List Instr := [.iload_n 3, .ireturn]
theorem kX4_topAt_53 : okB mX4_topAt 53 bX4_topAt_53 = true := by decide +kernel
theorem dX4_topAt_17 : decode mX4_topAt.2.2.1 17 = .ok (.invokevirtual 80, 3) := by decide +kernel
def bX4_heightAt_0 : List Instr := [.iconst 0, .istore_n 3, .iconst 0, .istore 4]
theorem kX4_heightAt_0 : okB mX4_heightAt 0 bX4_heightAt_0 = true := by decide +kernel
def bX4_heightAt_5 : List Instr := [.iload 4, .bipush 36, .if_icmp .ge 23]
theorem kX4_heightAt_5 : okB mX4_heightAt 5 bX4_heightAt_5 = true := by decide +kernel
def bX4_heightAt_12 : List Instr := [.aload_n 0, .iload 4, .iload_n 1, .iload_n 2]
theorem kX4_heightAt_12 : okB mX4_heightAt 12 bX4_heightAt_12 = true := by decide +kernel
def bX4_heightAt_20 : List Instr := [.ifCond .eq 6]
theorem kX4_heightAt_20 : okB mX4_heightAt 20 bX4_heightAt_20 = true := by decide +kernel
def bX4_heightAt_23 : List Instr := [.iinc 3 1]
theorem kX4_heightAt_23 : okB mX4_heightAt 23 bX4_heightAt_23 = true := by decide +kernel
def bX4_heightAt_26 : List Instr := [.iinc 4 1, .goto (-24)]
theorem kX4_heightAt_26 : okB mX4_heightAt 26 bX4_heightAt_26 = true := by decide +kernel
def bX4_heightAt_32 : List Instr := [.iload_n 3, .ireturn]
theorem kX4_heightAt_32 : okB mX4_heightAt 32 bX4_heightAt_32 = true := by decide +kernel
theorem dX4_heightAt_17 : decode mX4_heightAt.2.2.1 17 = .ok (.invokevirtual 80, 3) := by decide +kernel
def bX4_cellAt_0 : List Instr := [.iconst 0, .istore 4]
theorem kX4_cellAt_0 : okB mX4_cellAt 0 bX4_cellAt_0 = true := by decide +kernel
def bX4_cellAt_3 : List Instr := [.iload 4, .bipush 36, .if_icmp .ge 33]
theorem kX4_cellAt_3 : okB mX4_cellAt 3 bX4_cellAt_3 = true := by decide +kernel
def bX4_cellAt_10 : List Instr := [.aload_n 0, .iload 4, .iload_n 1, .iload_n 2]
theorem kX4_cellAt_10 : okB mX4_cellAt 10 bX4_cellAt_10 = true := by decide +kernel
def bX4_cellAt_18 : List Instr := [.ifCond .eq 16]
theorem kX4_cellAt_18 : okB mX4_cellAt 18 bX4_cellAt_18 = true := by decide +kernel
def bX4_cellAt_21 : List Instr := [.aload_n 0, .iload 4]
theorem kX4_cellAt_21 : okB mX4_cellAt 21 bX4_cellAt_21 = true := by decide +kernel
def bX4_cellAt_27 : List Instr := [.iload_n 3, .if_icmp .ne 6]
theorem kX4_cellAt_27 : okB mX4_cellAt 27 bX4_cellAt_27 = true := by decide +kernel
def bX4_cellAt_31 : List Instr := [.iload 4, .ireturn]
theorem kX4_cellAt_31 : okB mX4_cellAt 31 bX4_cellAt_31 = true := by decide +kernel
def bX4_cellAt_34 : List Instr := [.iinc 4 1, .goto (-34)]
theorem kX4_cellAt_34 : okB mX4_cellAt 34 bX4_cellAt_34 = true := by decide +kernel
def bX4_cellAt_40 : List Instr := [.iconst (-1), .ireturn]
theorem kX4_cellAt_40 : okB mX4_cellAt 40 bX4_cellAt_40 = true := by decide +kernel
theorem dX4_cellAt_15 : decode mX4_cellAt.2.2.1 15 = .ok (.invokevirtual 80, 3) := by decide +kernel
theorem dX4_cellAt_24 : decode mX4_cellAt.2.2.1 24 = .ok (.invokevirtual 83, 3) := by decide +kernel
def bX4_cellsUnder_0 : List Instr := [.iconst 0, .istore_n 2, .iconst 0, .istore_n 3]
theorem kX4_cellsUnder_0 : okB mX4_cellsUnder 0 bX4_cellsUnder_0 = true := by decide +kernel
def bX4_cellsUnder_4 : List Instr := [.iload_n 3, .bipush 36, .if_icmp .ge 47]
theorem kX4_cellsUnder_4 : okB mX4_cellsUnder 4 bX4_cellsUnder_4 = true := by decide +kernel
def bX4_cellsUnder_10 : List Instr := [.aload_n 0, .iload_n 3, .aload_n 0, .getfield 18, .iload_n 1, .iaload, .aload_n 0, .getfield 22, .iload_n 1, .iaload]
theorem kX4_cellsUnder_10 : okB mX4_cellsUnder 10 bX4_cellsUnder_10 = true := by decide +kernel
def bX4_cellsUnder_27 : List Instr := [.ifCond .eq 21]
theorem kX4_cellsUnder_27 : okB mX4_cellsUnder 27 bX4_cellsUnder_27 = true := by decide +kernel
def bX4_cellsUnder_30 : List Instr := [.aload_n 0, .getfield 25, .iload_n 3, .iaload, .aload_n 0, .getfield 25, .iload_n 1, .iaload, .if_icmp .ge 6]
theorem kX4_cellsUnder_30 : okB mX4_cellsUnder 30 bX4_cellsUnder_30 = true := by decide +kernel
def bX4_cellsUnder_45 : List Instr := [.iinc 2 1]
theorem kX4_cellsUnder_45 : okB mX4_cellsUnder 45 bX4_cellsUnder_45 = true := by decide +kernel
def bX4_cellsUnder_48 : List Instr := [.iinc 3 1, .goto (-47)]
theorem kX4_cellsUnder_48 : okB mX4_cellsUnder 48 bX4_cellsUnder_48 = true := by decide +kernel
def bX4_cellsUnder_54 : List Instr := [.iload_n 2, .ireturn]
theorem kX4_cellsUnder_54 : okB mX4_cellsUnder 54 bX4_cellsUnder_54 = true := by decide +kernel
theorem dX4_cellsUnder_24 : decode mX4_cellsUnder.2.2.1 24 = .ok (.invokevirtual 80, 3) := by decide +kernel
def bX4_save_0 : List Instr := [.aload_n 1, .iconst 2, .aload_n 0, .getfield 55, .iastore, .iconst 0, .istore_n 2]
theorem kX4_save_0 : okB mX4_save 0 bX4_save_0 = true := by decide +kernel
def bX4_save_9 : List Instr := [.iload_n 2, .iconst 3, .aload_n 0, .getfield 55, .imul, .if_icmp .ge 20]
theorem kX4_save_9 : okB mX4_save 9 bX4_save_9 = true := by decide +kernel
def bX4_save_19 : List Instr := [.aload_n 1, .iconst 3, .iload_n 2, .iadd, .aload_n 0, .getfield 28, .iload_n 2, .iaload, .iastore, .iinc 2 1, .goto (-24)]
theorem kX4_save_19 : okB mX4_save 19 bX4_save_19 = true := by decide +kernel
def bX4_save_36 : List Instr := [.return_]
theorem kX4_save_36 : okB mX4_save 36 bX4_save_36 = true := by decide +kernel
def bX4_load_0 : List Instr := [.aload_n 0, .aload_n 1]
theorem kX4_load_0 : okB mX4_load 0 bX4_load_0 = true := by decide +kernel
def bX4_load_5 : List Instr := [.ifCond .eq 4]
theorem kX4_load_5 : okB mX4_load 5 bX4_load_5 = true := by decide +kernel
def bX4_load_8 : List Instr := [.return_]
theorem kX4_load_8 : okB mX4_load 8 bX4_load_8 = true := by decide +kernel
def bX4_load_9 : List Instr := [.aload_n 0]
theorem kX4_load_9 : okB mX4_load 9 bX4_load_9 = true := by decide +kernel
def bX4_load_13 : List Instr := [.iconst 0, .istore_n 2]
theorem kX4_load_13 : okB mX4_load 13 bX4_load_13 = true := by decide +kernel
def bX4_load_15 : List Instr := [.iload_n 2, .aload_n 1, .iconst 2, .iaload, .if_icmp .ge 37]
theorem kX4_load_15 : okB mX4_load 15 bX4_load_15 = true := by decide +kernel
def bX4_load_22 : List Instr := [.iload_n 2, .iconst 3, .if_icmp .ge 32]
theorem kX4_load_22 : okB mX4_load 22 bX4_load_22 = true := by decide +kernel
def bX4_load_27 : List Instr := [.iconst 3, .iconst 3, .iload_n 2, .imul, .iadd, .istore_n 3, .aload_n 0, .aload_n 1, .iload_n 3, .iaload, .aload_n 1, .iload_n 3, .iconst 1, .iadd, .iaload, .aload_n 1, .iload_n 3, .iconst 2, .iadd, .iaload]
theorem kX4_load_27 : okB mX4_load 27 bX4_load_27 = true := by decide +kernel
def bX4_load_50 : List Instr := [.iinc 2 1, .goto (-38)]
theorem kX4_load_50 : okB mX4_load 50 bX4_load_50 = true := by decide +kernel
def bX4_load_56 : List Instr := [.return_]
theorem kX4_load_56 : okB mX4_load 56 bX4_load_56 = true := by decide +kernel
theorem dX4_load_2 : decode mX4_load.2.2.1 2 = .ok (.invokevirtual 87, 3) := by decide +kernel
theorem dX4_load_10 : decode mX4_load.2.2.1 10 = .ok (.invokevirtual 42, 3) := by decide +kernel
theorem dX4_load_47 : decode mX4_load.2.2.1 47 = .ok (.invokevirtual 91, 3) := by decide +kernel
def bX4_isFoldedAs_0 : List Instr := [.aload_n 0, .getfield 55, .aload_n 1, .iconst 2, .iaload, .if_icmp .eq 5]
theorem kX4_isFoldedAs_0 : okB mX4_isFoldedAs 0 bX4_isFoldedAs_0 = true := by decide +kernel
def bX4_isFoldedAs_10 : List Instr := [.iconst 0, .ireturn]
theorem kX4_isFoldedAs_10 : okB mX4_isFoldedAs 10 bX4_isFoldedAs_10 = true := by decide +kernel
def bX4_isFoldedAs_12 : List Instr := [.iconst 0, .istore_n 2]
theorem kX4_isFoldedAs_12 : okB mX4_isFoldedAs 12 bX4_isFoldedAs_12 = true := by decide +kernel
def bX4_isFoldedAs_14 : List Instr := [.iload_n 2, .iconst 3, .aload_n 0, .getfield 55, .imul, .if_icmp .ge 25]
theorem kX4_isFoldedAs_14 : okB mX4_isFoldedAs 14 bX4_isFoldedAs_14 = true := by decide +kernel
def bX4_isFoldedAs_24 : List Instr := [.aload_n 0, .getfield 28, .iload_n 2, .iaload, .aload_n 1, .iconst 3, .iload_n 2, .iadd, .iaload, .if_icmp .eq 5]
theorem kX4_isFoldedAs_24 : okB mX4_isFoldedAs 24 bX4_isFoldedAs_24 = true := by decide +kernel
def bX4_isFoldedAs_38 : List Instr := [.iconst 0, .ireturn]
theorem kX4_isFoldedAs_38 : okB mX4_isFoldedAs 38 bX4_isFoldedAs_38 = true := by decide +kernel
def bX4_isFoldedAs_40 : List Instr := [.iinc 2 1, .goto (-29)]
theorem kX4_isFoldedAs_40 : okB mX4_isFoldedAs 40 bX4_isFoldedAs_40 = true := by decide +kernel
def bX4_isFoldedAs_46 : List Instr := [.iconst 1, .ireturn]
theorem kX4_isFoldedAs_46 : okB mX4_isFoldedAs 46 bX4_isFoldedAs_46 = true := by decide +kernel
def bX4_copy_0 : List Instr := [.aload_n 0, .aload_n 1, .getfield 31, .putfield 31, .aload_n 0, .aload_n 1, .getfield 35, .putfield 35, .aload_n 0, .aload_n 1, .getfield 55, .putfield 55, .aload_n 1, .getfield 9, .iconst 0, .aload_n 0, .getfield 9, .iconst 0, .bipush 36]
theorem kX4_copy_0 : okB mX4_copy 0 bX4_copy_0 = true := by decide +kernel
def bX4_copy_39 : List Instr := [.aload_n 1, .getfield 15, .iconst 0, .aload_n 0, .getfield 15, .iconst 0, .bipush 36]
theorem kX4_copy_39 : okB mX4_copy 39 bX4_copy_39 = true := by decide +kernel
def bX4_copy_54 : List Instr := [.aload_n 1, .getfield 18, .iconst 0, .aload_n 0, .getfield 18, .iconst 0, .bipush 36]
theorem kX4_copy_54 : okB mX4_copy 54 bX4_copy_54 = true := by decide +kernel
def bX4_copy_69 : List Instr := [.aload_n 1, .getfield 22, .iconst 0, .aload_n 0, .getfield 22, .iconst 0, .bipush 36]
theorem kX4_copy_69 : okB mX4_copy 69 bX4_copy_69 = true := by decide +kernel
def bX4_copy_84 : List Instr := [.aload_n 1, .getfield 25, .iconst 0, .aload_n 0, .getfield 25, .iconst 0, .bipush 36]
theorem kX4_copy_84 : okB mX4_copy 84 bX4_copy_84 = true := by decide +kernel
def bX4_copy_99 : List Instr := [.aload_n 1, .getfield 28, .iconst 0, .aload_n 0, .getfield 28, .iconst 0, .bipush 9]
theorem kX4_copy_99 : okB mX4_copy 99 bX4_copy_99 = true := by decide +kernel
def bX4_copy_114 : List Instr := [.aload_n 0]
theorem kX4_copy_114 : okB mX4_copy 114 bX4_copy_114 = true := by decide +kernel
def bX4_copy_118 : List Instr := [.return_]
theorem kX4_copy_118 : okB mX4_copy 118 bX4_copy_118 = true := by decide +kernel
theorem dX4_copy_36 : decode mX4_copy.2.2.1 36 = .ok (.invokestatic 95, 3) := by decide +kernel
theorem dX4_copy_51 : decode mX4_copy.2.2.1 51 = .ok (.invokestatic 95, 3) := by decide +kernel
theorem dX4_copy_66 : decode mX4_copy.2.2.1 66 = .ok (.invokestatic 95, 3) := by decide +kernel
theorem dX4_copy_81 : decode mX4_copy.2.2.1 81 = .ok (.invokestatic 95, 3) := by decide +kernel
theorem dX4_copy_96 : decode mX4_copy.2.2.1 96 = .ok (.invokestatic 95, 3) := by decide +kernel
theorem dX4_copy_111 : decode mX4_copy.2.2.1 111 = .ok (.invokestatic 95, 3) := by decide +kernel
theorem dX4_copy_115 : decode mX4_copy.2.2.1 115 = .ok (.invokevirtual 52, 3) := by decide +kernel
