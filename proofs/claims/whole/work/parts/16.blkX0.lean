def bX0_init_0 : List Instr := [.aload_n 0]
theorem kX0_init_0 : okB mX0_init 0 bX0_init_0 = true := by decide +kernel
def bX0_init_4 : List Instr := [.aload_n 0]
theorem kX0_init_4 : okB mX0_init 4 bX0_init_4 = true := by decide +kernel
def bX0_init_8 : List Instr := [.dup]
theorem kX0_init_8 : okB mX0_init 8 bX0_init_8 = true := by decide +kernel
def bX0_init_12 : List Instr := [.putfield 12, .aload_n 0, .iconst 4, .bipush 20]
theorem kX0_init_12 : okB mX0_init 12 bX0_init_12 = true := by decide +kernel
def bX0_init_23 : List Instr := [.putfield 20, .aload_n 0, .iconst 4, .bipush 8]
theorem kX0_init_23 : okB mX0_init 23 bX0_init_23 = true := by decide +kernel
def bX0_init_34 : List Instr := [.putfield 23, .return_]
theorem kX0_init_34 : okB mX0_init 34 bX0_init_34 = true := by decide +kernel
theorem dX0_init_1 : decode mX0_init.2.2.1 1 = .ok (.invokespecial 3, 3) := by decide +kernel
theorem dX0_init_9 : decode mX0_init.2.2.1 9 = .ok (.invokespecial 11, 3) := by decide +kernel
def bX0_sureWithin_0 : List Instr := [.aload_n 1, .aload_n 0, .getfield 20, .iconst 0, .aaload]
theorem kX0_sureWithin_0 : okB mX0_sureWithin 0 bX0_sureWithin_0 = true := by decide +kernel
def bX0_sureWithin_10 : List Instr := [.aload_n 0, .aload_n 1, .aload_n 1]
theorem kX0_sureWithin_10 : okB mX0_sureWithin 10 bX0_sureWithin_10 = true := by decide +kernel
def bX0_sureWithin_16 : List Instr := [.iload_n 2]
theorem kX0_sureWithin_16 : okB mX0_sureWithin 16 bX0_sureWithin_16 = true := by decide +kernel
def bX0_sureWithin_20 : List Instr := [.istore_n 3, .aload_n 1, .aload_n 0, .getfield 20, .iconst 0, .aaload]
theorem kX0_sureWithin_20 : okB mX0_sureWithin 20 bX0_sureWithin_20 = true := by decide +kernel
def bX0_sureWithin_31 : List Instr := [.iload_n 3, .ireturn]
theorem kX0_sureWithin_31 : okB mX0_sureWithin 31 bX0_sureWithin_31 = true := by decide +kernel
theorem dX0_sureWithin_7 : decode mX0_sureWithin.2.2.1 7 = .ok (.invokevirtual 26, 3) := by decide +kernel
theorem dX0_sureWithin_13 : decode mX0_sureWithin.2.2.1 13 = .ok (.invokevirtual 32, 3) := by decide +kernel
theorem dX0_sureWithin_17 : decode mX0_sureWithin.2.2.1 17 = .ok (.invokevirtual 36, 3) := by decide +kernel
theorem dX0_sureWithin_28 : decode mX0_sureWithin.2.2.1 28 = .ok (.invokevirtual 40, 3) := by decide +kernel
def bX0_firstSure_0 : List Instr := [.aload_n 1]
theorem kX0_firstSure_0 : okB mX0_firstSure 0 bX0_firstSure_0 = true := by decide +kernel
def bX0_firstSure_4 : List Instr := [.istore_n 3, .iload_n 2, .ifCond .eq 18]
theorem kX0_firstSure_4 : okB mX0_firstSure 4 bX0_firstSure_4 = true := by decide +kernel
def bX0_firstSure_9 : List Instr := [.aload_n 1, .getfield 43, .ifCond .gt 11]
theorem kX0_firstSure_9 : okB mX0_firstSure 9 bX0_firstSure_9 = true := by decide +kernel
def bX0_firstSure_16 : List Instr := [.aload_n 1]
theorem kX0_firstSure_16 : okB mX0_firstSure 16 bX0_firstSure_16 = true := by decide +kernel
def bX0_firstSure_20 : List Instr := [.iload_n 3, .if_icmp .ne 5]
theorem kX0_firstSure_20 : okB mX0_firstSure 20 bX0_firstSure_20 = true := by decide +kernel
def bX0_firstSure_24 : List Instr := [.iconst (-1), .ireturn]
theorem kX0_firstSure_24 : okB mX0_firstSure 24 bX0_firstSure_24 = true := by decide +kernel
def bX0_firstSure_26 : List Instr := [.aload_n 0, .aload_n 1, .iload_n 3, .iload_n 2, .iconst 1]
theorem kX0_firstSure_26 : okB mX0_firstSure 26 bX0_firstSure_26 = true := by decide +kernel
def bX0_firstSure_34 : List Instr := [.istore 4, .iload 4, .ifCond .ge 5]
theorem kX0_firstSure_34 : okB mX0_firstSure 34 bX0_firstSure_34 = true := by decide +kernel
def bX0_firstSure_41 : List Instr := [.iconst (-1), .ireturn]
theorem kX0_firstSure_41 : okB mX0_firstSure 41 bX0_firstSure_41 = true := by decide +kernel
def bX0_firstSure_43 : List Instr := [.aload_n 1, .getfield 54, .aload_n 0, .getfield 23, .iload_n 2, .aaload, .iload 4, .bipush 8, .idiv, .iaload, .iaload, .istore 5, .aload_n 1, .getfield 58, .iload 5]
theorem kX0_firstSure_43 : okB mX0_firstSure 43 bX0_firstSure_43 = true := by decide +kernel
def bX0_firstSure_71 : List Instr := [.ifCond .ne 5]
theorem kX0_firstSure_71 : okB mX0_firstSure 71 bX0_firstSure_71 = true := by decide +kernel
def bX0_firstSure_74 : List Instr := [.iconst (-1), .ireturn]
theorem kX0_firstSure_74 : okB mX0_firstSure 74 bX0_firstSure_74 = true := by decide +kernel
def bX0_firstSure_76 : List Instr := [.sipush 10000, .aload_n 1, .getfield 58, .getfield 68, .iload 5, .iaload, .bipush 20, .iadd, .imul, .bipush 100, .aload_n 1, .getfield 58, .getfield 71, .iload 5, .iaload, .bipush 20, .iadd, .imul, .iadd, .istore 6, .iload 6, .bipush 10, .iload 4]
theorem kX0_firstSure_76 : okB mX0_firstSure 76 bX0_firstSure_76 = true := by decide +kernel
def bX0_firstSure_121 : List Instr := [.imul, .iadd, .iload 4]
theorem kX0_firstSure_121 : okB mX0_firstSure 121 bX0_firstSure_121 = true := by decide +kernel
def bX0_firstSure_128 : List Instr := [.iadd, .ireturn]
theorem kX0_firstSure_128 : okB mX0_firstSure 128 bX0_firstSure_128 = true := by decide +kernel
theorem dX0_firstSure_1 : decode mX0_firstSure.2.2.1 1 = .ok (.invokevirtual 32, 3) := by decide +kernel
theorem dX0_firstSure_17 : decode mX0_firstSure.2.2.1 17 = .ok (.invokevirtual 47, 3) := by decide +kernel
theorem dX0_firstSure_31 : decode mX0_firstSure.2.2.1 31 = .ok (.invokevirtual 50, 3) := by decide +kernel
theorem dX0_firstSure_68 : decode mX0_firstSure.2.2.1 68 = .ok (.invokevirtual 62, 3) := by decide +kernel
theorem dX0_firstSure_118 : decode mX0_firstSure.2.2.1 118 = .ok (.invokestatic 74, 3) := by decide +kernel
theorem dX0_firstSure_125 : decode mX0_firstSure.2.2.1 125 = .ok (.invokestatic 78, 3) := by decide +kernel
def bX0_isForced_0 : List Instr := [.aload_n 1]
theorem kX0_isForced_0 : okB mX0_isForced 0 bX0_isForced_0 = true := by decide +kernel
def bX0_isForced_4 : List Instr := [.iload_n 2, .if_icmp .ne 5]
theorem kX0_isForced_4 : okB mX0_isForced 4 bX0_isForced_4 = true := by decide +kernel
def bX0_isForced_8 : List Instr := [.iconst 1, .ireturn]
theorem kX0_isForced_8 : okB mX0_isForced 8 bX0_isForced_8 = true := by decide +kernel
def bX0_isForced_10 : List Instr := [.aload_n 1]
theorem kX0_isForced_10 : okB mX0_isForced 10 bX0_isForced_10 = true := by decide +kernel
def bX0_isForced_14 : List Instr := [.iload_n 2, .if_icmp .ne 7]
theorem kX0_isForced_14 : okB mX0_isForced 14 bX0_isForced_14 = true := by decide +kernel
def bX0_isForced_18 : List Instr := [.iconst 1, .goto 4]
theorem kX0_isForced_18 : okB mX0_isForced 18 bX0_isForced_18 = true := by decide +kernel
def bX0_isForced_22 : List Instr := [.iconst 0]
theorem kX0_isForced_22 : okB mX0_isForced 22 bX0_isForced_22 = true := by decide +kernel
def bX0_isForced_23 : List Instr := [.istore 4, .aload_n 1, .iconst 1, .iload_n 2, .isub]
theorem kX0_isForced_23 : okB mX0_isForced 23 bX0_isForced_23 = true := by decide +kernel
def bX0_isForced_32 : List Instr := [.iload 4, .ifCond .eq 11]
theorem kX0_isForced_32 : okB mX0_isForced 32 bX0_isForced_32 = true := by decide +kernel
def bX0_isForced_37 : List Instr := [.iload_n 3, .iconst 1, .iadd, .iconst 2, .idiv, .goto 6]
theorem kX0_isForced_37 : okB mX0_isForced 37 bX0_isForced_37 = true := by decide +kernel
def bX0_isForced_45 : List Instr := [.iload_n 3, .iconst 2, .idiv]
theorem kX0_isForced_45 : okB mX0_isForced 45 bX0_isForced_45 = true := by decide +kernel
def bX0_isForced_51 : List Instr := [.ifCond .ne 5]
theorem kX0_isForced_51 : okB mX0_isForced 51 bX0_isForced_51 = true := by decide +kernel
def bX0_isForced_54 : List Instr := [.iconst 0, .ireturn]
theorem kX0_isForced_54 : okB mX0_isForced 54 bX0_isForced_54 = true := by decide +kernel
def bX0_isForced_56 : List Instr := [.iconst 0, .istore 5]
theorem kX0_isForced_56 : okB mX0_isForced 56 bX0_isForced_56 = true := by decide +kernel
def bX0_isForced_59 : List Instr := [.iload 5, .iconst 3, .if_icmp .ge 57]
theorem kX0_isForced_59 : okB mX0_isForced 59 bX0_isForced_59 = true := by decide +kernel
def bX0_isForced_65 : List Instr := [.aload_n 1, .getfield 43, .ifCond .le 50]
theorem kX0_isForced_65 : okB mX0_isForced 65 bX0_isForced_65 = true := by decide +kernel
def bX0_isForced_72 : List Instr := [.aload_n 0, .getfield 12, .aload_n 1]
theorem kX0_isForced_72 : okB mX0_isForced 72 bX0_isForced_72 = true := by decide +kernel
def bX0_isForced_80 : List Instr := [.istore 6, .aload_n 1, .getfield 58, .astore 7, .aload_n 1, .aload 7, .iload 6]
theorem kX0_isForced_80 : okB mX0_isForced 80 bX0_isForced_80 = true := by decide +kernel
def bX0_isForced_96 : List Instr := [.aload 7, .iload 6]
theorem kX0_isForced_96 : okB mX0_isForced 96 bX0_isForced_96 = true := by decide +kernel
def bX0_isForced_103 : List Instr := [.aload 7, .iload 6]
theorem kX0_isForced_103 : okB mX0_isForced 103 bX0_isForced_103 = true := by decide +kernel
def bX0_isForced_113 : List Instr := [.iinc 5 1, .goto (-57)]
theorem kX0_isForced_113 : okB mX0_isForced 113 bX0_isForced_113 = true := by decide +kernel
def bX0_isForced_119 : List Instr := [.iload 4, .ifCond .eq 20]
theorem kX0_isForced_119 : okB mX0_isForced 119 bX0_isForced_119 = true := by decide +kernel
def bX0_isForced_124 : List Instr := [.aload_n 0, .aload_n 1, .iload_n 2, .iload_n 3, .iconst 1]
theorem kX0_isForced_124 : okB mX0_isForced 124 bX0_isForced_124 = true := by decide +kernel
def bX0_isForced_132 : List Instr := [.ifCond .lt 7]
theorem kX0_isForced_132 : okB mX0_isForced 132 bX0_isForced_132 = true := by decide +kernel
def bX0_isForced_135 : List Instr := [.iconst 1, .goto 4]
theorem kX0_isForced_135 : okB mX0_isForced 135 bX0_isForced_135 = true := by decide +kernel
def bX0_isForced_139 : List Instr := [.iconst 0]
theorem kX0_isForced_139 : okB mX0_isForced 139 bX0_isForced_139 = true := by decide +kernel
def bX0_isForced_140 : List Instr := [.ireturn]
theorem kX0_isForced_140 : okB mX0_isForced 140 bX0_isForced_140 = true := by decide +kernel
def bX0_isForced_141 : List Instr := [.aload_n 0, .aload_n 1, .iload_n 2, .iload_n 3, .iconst 0]
theorem kX0_isForced_141 : okB mX0_isForced 141 bX0_isForced_141 = true := by decide +kernel
def bX0_isForced_149 : List Instr := [.iconst (-1), .if_icmp .ne 7]
theorem kX0_isForced_149 : okB mX0_isForced 149 bX0_isForced_149 = true := by decide +kernel
def bX0_isForced_153 : List Instr := [.iconst 1, .goto 4]
theorem kX0_isForced_153 : okB mX0_isForced 153 bX0_isForced_153 = true := by decide +kernel
def bX0_isForced_157 : List Instr := [.iconst 0]
theorem kX0_isForced_157 : okB mX0_isForced 157 bX0_isForced_157 = true := by decide +kernel
def bX0_isForced_158 : List Instr := [.ireturn]
theorem kX0_isForced_158 : okB mX0_isForced 158 bX0_isForced_158 = true := by decide +kernel
theorem dX0_isForced_1 : decode mX0_isForced.2.2.1 1 = .ok (.invokevirtual 47, 3) := by decide +kernel
theorem dX0_isForced_11 : decode mX0_isForced.2.2.1 11 = .ok (.invokevirtual 32, 3) := by decide +kernel
theorem dX0_isForced_29 : decode mX0_isForced.2.2.1 29 = .ok (.invokevirtual 81, 3) := by decide +kernel
theorem dX0_isForced_48 : decode mX0_isForced.2.2.1 48 = .ok (.invokestatic 84, 3) := by decide +kernel
theorem dX0_isForced_77 : decode mX0_isForced.2.2.1 77 = .ok (.invokevirtual 88, 3) := by decide +kernel
theorem dX0_isForced_93 : decode mX0_isForced.2.2.1 93 = .ok (.invokevirtual 92, 3) := by decide +kernel
theorem dX0_isForced_100 : decode mX0_isForced.2.2.1 100 = .ok (.invokevirtual 95, 3) := by decide +kernel
theorem dX0_isForced_107 : decode mX0_isForced.2.2.1 107 = .ok (.invokevirtual 98, 3) := by decide +kernel
theorem dX0_isForced_110 : decode mX0_isForced.2.2.1 110 = .ok (.invokevirtual 101, 3) := by decide +kernel
theorem dX0_isForced_129 : decode mX0_isForced.2.2.1 129 = .ok (.invokevirtual 50, 3) := by decide +kernel
theorem dX0_isForced_146 : decode mX0_isForced.2.2.1 146 = .ok (.invokevirtual 50, 3) := by decide +kernel
def bX0_canBeTaken_0 : List Instr := [.iload_n 0, .ifCond .le 12]
theorem kX0_canBeTaken_0 : okB mX0_canBeTaken 0 bX0_canBeTaken_0 = true := by decide +kernel
def bX0_canBeTaken_4 : List Instr := [.iload_n 0, .iload_n 1, .if_icmp .gt 7]
theorem kX0_canBeTaken_4 : okB mX0_canBeTaken 4 bX0_canBeTaken_4 = true := by decide +kernel
def bX0_canBeTaken_9 : List Instr := [.iconst 1, .goto 4]
theorem kX0_canBeTaken_9 : okB mX0_canBeTaken 9 bX0_canBeTaken_9 = true := by decide +kernel
def bX0_canBeTaken_13 : List Instr := [.iconst 0]
theorem kX0_canBeTaken_13 : okB mX0_canBeTaken 13 bX0_canBeTaken_13 = true := by decide +kernel
def bX0_canBeTaken_14 : List Instr := [.ireturn]
theorem kX0_canBeTaken_14 : okB mX0_canBeTaken 14 bX0_canBeTaken_14 = true := by decide +kernel
def bX0_firstStep_0 : List Instr := [.iload_n 3, .iconst 1, .iconst 3]
theorem kX0_firstStep_0 : okB mX0_firstStep 0 bX0_firstStep_0 = true := by decide +kernel
def bX0_firstStep_6 : List Instr := [.ifCond .ne 6]
theorem kX0_firstStep_6 : okB mX0_firstStep 6 bX0_firstStep_6 = true := by decide +kernel
def bX0_firstStep_9 : List Instr := [.bipush (-2), .ireturn]
theorem kX0_firstStep_9 : okB mX0_firstStep 9 bX0_firstStep_9 = true := by decide +kernel
def bX0_firstStep_12 : List Instr := [.aload_n 0, .getfield 23, .iload_n 3, .aaload, .astore 5, .bipush 8, .aload_n 1, .aload 5]
theorem kX0_firstStep_12 : okB mX0_firstStep 12 bX0_firstStep_12 = true := by decide +kernel
def bX0_firstStep_28 : List Instr := [.imul, .istore 6, .bipush (-2), .istore 7, .aload_n 1, .aload_n 0, .getfield 20, .iload_n 3, .aaload]
theorem kX0_firstStep_28 : okB mX0_firstStep 28 bX0_firstStep_28 = true := by decide +kernel
def bX0_firstStep_45 : List Instr := [.iconst 0, .istore 8]
theorem kX0_firstStep_45 : okB mX0_firstStep 45 bX0_firstStep_45 = true := by decide +kernel
def bX0_firstStep_48 : List Instr := [.iload 8, .iload 6, .if_icmp .ge 131]
theorem kX0_firstStep_48 : okB mX0_firstStep 48 bX0_firstStep_48 = true := by decide +kernel
def bX0_firstStep_55 : List Instr := [.aload 5, .iload 8, .bipush 8, .idiv, .iaload, .istore 9, .aload_n 1, .getfield 54, .iload 9, .iaload, .istore 10, .aload_n 1, .getfield 58, .iload 10]
theorem kX0_firstStep_55 : okB mX0_firstStep 55 bX0_firstStep_55 = true := by decide +kernel
def bX0_firstStep_83 : List Instr := [.ifCond .ne 6]
theorem kX0_firstStep_83 : okB mX0_firstStep 83 bX0_firstStep_83 = true := by decide +kernel
def bX0_firstStep_86 : List Instr := [.goto 91]
theorem kX0_firstStep_86 : okB mX0_firstStep 86 bX0_firstStep_86 = true := by decide +kernel
def bX0_firstStep_89 : List Instr := [.aload_n 1, .aload_n 1, .getfield 58, .getfield 71, .iload 10, .iaload, .aload_n 1, .getfield 58, .getfield 68, .iload 10, .iaload, .iload 8]
theorem kX0_firstStep_89 : okB mX0_firstStep 89 bX0_firstStep_89 = true := by decide +kernel
def bX0_firstStep_115 : List Instr := [.iload 8]
theorem kX0_firstStep_115 : okB mX0_firstStep 115 bX0_firstStep_115 = true := by decide +kernel
def bX0_firstStep_123 : List Instr := [.istore 11, .iload 11, .iconst (-1), .if_icmp .ne 6]
theorem kX0_firstStep_123 : okB mX0_firstStep 123 bX0_firstStep_123 = true := by decide +kernel
def bX0_firstStep_131 : List Instr := [.goto 46]
theorem kX0_firstStep_131 : okB mX0_firstStep 131 bX0_firstStep_131 = true := by decide +kernel
def bX0_firstStep_134 : List Instr := [.iconst (-1), .istore 7, .aload_n 1, .iload 9, .iload 11]
theorem kX0_firstStep_134 : okB mX0_firstStep 134 bX0_firstStep_134 = true := by decide +kernel
def bX0_firstStep_145 : List Instr := [.pop, .aload_n 0, .aload_n 1, .iload_n 2, .iload_n 3, .iconst 1, .isub]
theorem kX0_firstStep_145 : okB mX0_firstStep 145 bX0_firstStep_145 = true := by decide +kernel
def bX0_firstStep_155 : List Instr := [.istore 12, .aload_n 1, .aload_n 0, .getfield 20, .iload_n 3, .aaload]
theorem kX0_firstStep_155 : okB mX0_firstStep 155 bX0_firstStep_155 = true := by decide +kernel
def bX0_firstStep_167 : List Instr := [.iload 12, .iload 4, .if_icmp .ne 6]
theorem kX0_firstStep_167 : okB mX0_firstStep 167 bX0_firstStep_167 = true := by decide +kernel
def bX0_firstStep_174 : List Instr := [.iload 8, .ireturn]
theorem kX0_firstStep_174 : okB mX0_firstStep 174 bX0_firstStep_174 = true := by decide +kernel
def bX0_firstStep_177 : List Instr := [.iinc 8 1, .goto (-132)]
theorem kX0_firstStep_177 : okB mX0_firstStep 177 bX0_firstStep_177 = true := by decide +kernel
def bX0_firstStep_183 : List Instr := [.iload 7, .ireturn]
theorem kX0_firstStep_183 : okB mX0_firstStep 183 bX0_firstStep_183 = true := by decide +kernel
theorem dX0_firstStep_3 : decode mX0_firstStep.2.2.1 3 = .ok (.invokestatic 105, 3) := by decide +kernel
theorem dX0_firstStep_25 : decode mX0_firstStep.2.2.1 25 = .ok (.invokestatic 109, 3) := by decide +kernel
theorem dX0_firstStep_42 : decode mX0_firstStep.2.2.1 42 = .ok (.invokevirtual 26, 3) := by decide +kernel
theorem dX0_firstStep_80 : decode mX0_firstStep.2.2.1 80 = .ok (.invokevirtual 62, 3) := by decide +kernel
theorem dX0_firstStep_112 : decode mX0_firstStep.2.2.1 112 = .ok (.invokestatic 74, 3) := by decide +kernel
theorem dX0_firstStep_117 : decode mX0_firstStep.2.2.1 117 = .ok (.invokestatic 78, 3) := by decide +kernel
theorem dX0_firstStep_120 : decode mX0_firstStep.2.2.1 120 = .ok (.invokevirtual 113, 3) := by decide +kernel
theorem dX0_firstStep_142 : decode mX0_firstStep.2.2.1 142 = .ok (.invokevirtual 117, 3) := by decide +kernel
theorem dX0_firstStep_152 : decode mX0_firstStep.2.2.1 152 = .ok (.invokevirtual 36, 3) := by decide +kernel
theorem dX0_firstStep_164 : decode mX0_firstStep.2.2.1 164 = .ok (.invokevirtual 40, 3) := by decide +kernel
def bX0_wayOf_0 : List Instr := [.iload_n 0, .iconst 2, .idiv, .iconst 4, .irem, .ireturn]
theorem kX0_wayOf_0 : okB mX0_wayOf 0 bX0_wayOf_0 = true := by decide +kernel
def bX0_farOf_0 : List Instr := [.iload_n 0, .iconst 2, .irem, .iconst 1, .iadd, .ireturn]
theorem kX0_farOf_0 : okB mX0_farOf 0 bX0_farOf_0 = true := by decide +kernel
def bX0_listLeaders_0 : List Instr := [.iconst 0, .istore_n 2, .iconst 0, .istore_n 3]
theorem kX0_listLeaders_0 : okB mX0_listLeaders 0 bX0_listLeaders_0 = true := by decide +kernel
def bX0_listLeaders_4 : List Instr := [.iload_n 3, .aload_n 0, .getfield 121, .if_icmp .ge 66]
theorem kX0_listLeaders_4 : okB mX0_listLeaders 4 bX0_listLeaders_4 = true := by decide +kernel
def bX0_listLeaders_12 : List Instr := [.aload_n 0, .iload_n 3]
theorem kX0_listLeaders_12 : okB mX0_listLeaders 12 bX0_listLeaders_12 = true := by decide +kernel
def bX0_listLeaders_17 : List Instr := [.ifCond .ne 6]
theorem kX0_listLeaders_17 : okB mX0_listLeaders 17 bX0_listLeaders_17 = true := by decide +kernel
def bX0_listLeaders_20 : List Instr := [.goto 49]
theorem kX0_listLeaders_20 : okB mX0_listLeaders 20 bX0_listLeaders_20 = true := by decide +kernel
def bX0_listLeaders_23 : List Instr := [.iload_n 2, .istore 4]
theorem kX0_listLeaders_23 : okB mX0_listLeaders 23 bX0_listLeaders_23 = true := by decide +kernel
def bX0_listLeaders_26 : List Instr := [.iload 4, .ifCond .le 33]
theorem kX0_listLeaders_26 : okB mX0_listLeaders 26 bX0_listLeaders_26 = true := by decide +kernel
def bX0_listLeaders_31 : List Instr := [.aload_n 0, .iload_n 3, .aload_n 1, .iload 4, .iconst 1, .isub, .iaload]
theorem kX0_listLeaders_31 : okB mX0_listLeaders 31 bX0_listLeaders_31 = true := by decide +kernel
def bX0_listLeaders_42 : List Instr := [.ifCond .eq 19]
theorem kX0_listLeaders_42 : okB mX0_listLeaders 42 bX0_listLeaders_42 = true := by decide +kernel
def bX0_listLeaders_45 : List Instr := [.aload_n 1, .iload 4, .aload_n 1, .iload 4, .iconst 1, .isub, .iaload, .iastore, .iinc 4 (-1), .goto (-32)]
theorem kX0_listLeaders_45 : okB mX0_listLeaders 45 bX0_listLeaders_45 = true := by decide +kernel
def bX0_listLeaders_61 : List Instr := [.aload_n 1, .iload 4, .iload_n 3, .iastore, .iinc 2 1]
theorem kX0_listLeaders_61 : okB mX0_listLeaders 61 bX0_listLeaders_61 = true := by decide +kernel
def bX0_listLeaders_69 : List Instr := [.iinc 3 1, .goto (-68)]
theorem kX0_listLeaders_69 : okB mX0_listLeaders 69 bX0_listLeaders_69 = true := by decide +kernel
def bX0_listLeaders_75 : List Instr := [.iload_n 2, .ireturn]
theorem kX0_listLeaders_75 : okB mX0_listLeaders 75 bX0_listLeaders_75 = true := by decide +kernel
theorem dX0_listLeaders_14 : decode mX0_listLeaders.2.2.1 14 = .ok (.invokestatic 124, 3) := by decide +kernel
theorem dX0_listLeaders_39 : decode mX0_listLeaders.2.2.1 39 = .ok (.invokestatic 128, 3) := by decide +kernel
def bX0_leads_0 : List Instr := [.aload_n 0, .iload_n 1]
theorem kX0_leads_0 : okB mX0_leads 0 bX0_leads_0 = true := by decide +kernel
def bX0_leads_5 : List Instr := [.ifCond .eq 16]
theorem kX0_leads_5 : okB mX0_leads 5 bX0_leads_5 = true := by decide +kernel
def bX0_leads_8 : List Instr := [.aload_n 0, .getfield 134, .iload_n 1, .iaload, .aload_n 0]
theorem kX0_leads_8 : okB mX0_leads 8 bX0_leads_8 = true := by decide +kernel
def bX0_leads_18 : List Instr := [.if_icmp .eq 5]
theorem kX0_leads_18 : okB mX0_leads 18 bX0_leads_18 = true := by decide +kernel
def bX0_leads_21 : List Instr := [.iconst 0, .ireturn]
theorem kX0_leads_21 : okB mX0_leads 21 bX0_leads_21 = true := by decide +kernel
def bX0_leads_23 : List Instr := [.aload_n 0, .getfield 54, .iload_n 1, .iaload, .istore_n 2, .aload_n 0, .aload_n 0, .getfield 58, .getfield 71, .iload_n 2, .iaload, .aload_n 0, .getfield 58, .getfield 68, .iload_n 2, .iaload]
theorem kX0_leads_23 : okB mX0_leads 23 bX0_leads_23 = true := by decide +kernel
def bX0_leads_52 : List Instr := [.iload_n 1, .if_icmp .ne 7]
theorem kX0_leads_52 : okB mX0_leads 52 bX0_leads_52 = true := by decide +kernel
def bX0_leads_56 : List Instr := [.iconst 1, .goto 4]
theorem kX0_leads_56 : okB mX0_leads 56 bX0_leads_56 = true := by decide +kernel
def bX0_leads_60 : List Instr := [.iconst 0]
theorem kX0_leads_60 : okB mX0_leads 60 bX0_leads_60 = true := by decide +kernel
def bX0_leads_61 : List Instr := [.ireturn]
theorem kX0_leads_61 : okB mX0_leads 61 bX0_leads_61 = true := by decide +kernel
theorem dX0_leads_2 : decode mX0_leads.2.2.1 2 = .ok (.invokevirtual 131, 3) := by decide +kernel
theorem dX0_leads_15 : decode mX0_leads.2.2.1 15 = .ok (.invokevirtual 32, 3) := by decide +kernel
theorem dX0_leads_49 : decode mX0_leads.2.2.1 49 = .ok (.invokevirtual 137, 3) := by decide +kernel
def bX0_liesAhead_0 : List Instr := [.aload_n 0, .getfield 54, .iload_n 1, .iaload, .istore_n 3, .aload_n 0, .getfield 54, .iload_n 2, .iaload, .istore 4, .aload_n 0, .getfield 58, .iload_n 3]
theorem kX0_liesAhead_0 : okB mX0_liesAhead 0 bX0_liesAhead_0 = true := by decide +kernel
def bX0_liesAhead_23 : List Instr := [.ifCond .eq 15]
theorem kX0_liesAhead_23 : okB mX0_liesAhead 23 bX0_liesAhead_23 = true := by decide +kernel
def bX0_liesAhead_26 : List Instr := [.aload_n 0, .getfield 58, .iload 4]
theorem kX0_liesAhead_26 : okB mX0_liesAhead 26 bX0_liesAhead_26 = true := by decide +kernel
def bX0_liesAhead_35 : List Instr := [.ifCond .ne 5]
theorem kX0_liesAhead_35 : okB mX0_liesAhead 35 bX0_liesAhead_35 = true := by decide +kernel
def bX0_liesAhead_38 : List Instr := [.iconst 0, .ireturn]
theorem kX0_liesAhead_38 : okB mX0_liesAhead 38 bX0_liesAhead_38 = true := by decide +kernel
def bX0_liesAhead_40 : List Instr := [.aload_n 0, .getfield 58, .getfield 68, .iload_n 3, .iaload, .aload_n 0, .getfield 58, .getfield 68, .iload 4, .iaload, .isub, .istore 5, .iload 5, .ifCond .lt 30]
theorem kX0_liesAhead_40 : okB mX0_liesAhead 40 bX0_liesAhead_40 = true := by decide +kernel
def bX0_liesAhead_67 : List Instr := [.iload 5, .ifCond .ne 29]
theorem kX0_liesAhead_67 : okB mX0_liesAhead 67 bX0_liesAhead_67 = true := by decide +kernel
def bX0_liesAhead_72 : List Instr := [.aload_n 0, .getfield 58, .getfield 71, .iload_n 3, .iaload, .aload_n 0, .getfield 58, .getfield 71, .iload 4, .iaload, .if_icmp .ge 7]
theorem kX0_liesAhead_72 : okB mX0_liesAhead 72 bX0_liesAhead_72 = true := by decide +kernel
def bX0_liesAhead_94 : List Instr := [.iconst 1, .goto 4]
theorem kX0_liesAhead_94 : okB mX0_liesAhead 94 bX0_liesAhead_94 = true := by decide +kernel
def bX0_liesAhead_98 : List Instr := [.iconst 0]
theorem kX0_liesAhead_98 : okB mX0_liesAhead 98 bX0_liesAhead_98 = true := by decide +kernel
def bX0_liesAhead_99 : List Instr := [.ireturn]
theorem kX0_liesAhead_99 : okB mX0_liesAhead 99 bX0_liesAhead_99 = true := by decide +kernel
theorem dX0_liesAhead_20 : decode mX0_liesAhead.2.2.1 20 = .ok (.invokevirtual 62, 3) := by decide +kernel
theorem dX0_liesAhead_32 : decode mX0_liesAhead.2.2.1 32 = .ok (.invokevirtual 62, 3) := by decide +kernel
