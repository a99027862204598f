def bX3_init_0 : List Instr := [.aload_n 0]
theorem kX3_init_0 : okB mX3_init 0 bX3_init_0 = true := by decide +kernel
def bX3_init_4 : List Instr := [.aload_n 0]
theorem kX3_init_4 : okB mX3_init 4 bX3_init_4 = true := by decide +kernel
def bX3_init_8 : List Instr := [.dup]
theorem kX3_init_8 : okB mX3_init 8 bX3_init_8 = true := by decide +kernel
def bX3_init_12 : List Instr := [.putfield 12, .aload_n 0, .bipush 8]
theorem kX3_init_12 : okB mX3_init 12 bX3_init_12 = true := by decide +kernel
def bX3_init_20 : List Instr := [.putfield 18, .aload_n 0, .bipush 8]
theorem kX3_init_20 : okB mX3_init 20 bX3_init_20 = true := by decide +kernel
def bX3_init_28 : List Instr := [.putfield 22, .aload_n 0, .bipush 8]
theorem kX3_init_28 : okB mX3_init 28 bX3_init_28 = true := by decide +kernel
def bX3_init_36 : List Instr := [.putfield 25, .aload_n 0, .bipush 8]
theorem kX3_init_36 : okB mX3_init 36 bX3_init_36 = true := by decide +kernel
def bX3_init_44 : List Instr := [.putfield 28, .aload_n 0, .bipush 7, .putfield 31, .aload_n 0, .iconst 1, .putfield 35, .aload_n 0, .getfield 12, .bipush 6, .bipush 6]
theorem kX3_init_44 : okB mX3_init 44 bX3_init_44 = true := by decide +kernel
def bX3_init_69 : List Instr := [.return_]
theorem kX3_init_69 : okB mX3_init 69 bX3_init_69 = true := by decide +kernel
theorem dX3_init_1 : decode mX3_init.2.2.1 1 = .ok (.invokespecial 3, 3) := by decide +kernel
theorem dX3_init_9 : decode mX3_init.2.2.1 9 = .ok (.invokespecial 11, 3) := by decide +kernel
theorem dX3_init_66 : decode mX3_init.2.2.1 66 = .ok (.invokevirtual 38, 3) := by decide +kernel
def bX3_begin_0 : List Instr := [.aload_n 0, .getfield 12, .iload_n 1, .iload_n 2]
theorem kX3_begin_0 : okB mX3_begin 0 bX3_begin_0 = true := by decide +kernel
def bX3_begin_9 : List Instr := [.aload_n 0, .iconst 0, .putfield 42, .aload_n 0, .iconst 0, .putfield 45, .aload_n 0, .iconst 0, .putfield 48, .return_]
theorem kX3_begin_9 : okB mX3_begin 9 bX3_begin_9 = true := by decide +kernel
theorem dX3_begin_6 : decode mX3_begin.2.2.1 6 = .ok (.invokevirtual 38, 3) := by decide +kernel
def bX3_enter_0 : List Instr := [.aload_n 0, .getfield 42, .bipush 8, .if_icmp .lt 5]
theorem kX3_enter_0 : okB mX3_enter 0 bX3_enter_0 = true := by decide +kernel
def bX3_enter_9 : List Instr := [.iconst (-1), .ireturn]
theorem kX3_enter_9 : okB mX3_enter 9 bX3_enter_9 = true := by decide +kernel
def bX3_enter_11 : List Instr := [.aload_n 0, .getfield 18, .aload_n 0, .getfield 42, .iload_n 1, .iastore, .aload_n 0, .getfield 22, .aload_n 0, .getfield 42, .iload_n 2, .iastore, .aload_n 0, .getfield 25, .aload_n 0, .getfield 42, .iload_n 3, .iastore, .aload_n 0, .getfield 28, .aload_n 0, .getfield 42, .iload 4, .iastore, .aload_n 0, .dup, .getfield 42, .iconst 1, .iadd, .putfield 42, .aload_n 0, .getfield 42, .iconst 1, .isub, .ireturn]
theorem kX3_enter_11 : okB mX3_enter 11 bX3_enter_11 = true := by decide +kernel
def bX3_isIn_0 : List Instr := [.iload_n 1, .ifCond .lt 35]
theorem kX3_isIn_0 : okB mX3_isIn 0 bX3_isIn_0 = true := by decide +kernel
def bX3_isIn_4 : List Instr := [.iload_n 1, .aload_n 0, .getfield 42, .if_icmp .ge 27]
theorem kX3_isIn_4 : okB mX3_isIn 4 bX3_isIn_4 = true := by decide +kernel
def bX3_isIn_12 : List Instr := [.aload_n 0, .getfield 28, .iload_n 1, .iaload, .ifCond .lt 18]
theorem kX3_isIn_12 : okB mX3_isIn 12 bX3_isIn_12 = true := by decide +kernel
def bX3_isIn_21 : List Instr := [.aload_n 0, .getfield 28, .iload_n 1, .iaload, .bipush 36, .if_icmp .ge 7]
theorem kX3_isIn_21 : okB mX3_isIn 21 bX3_isIn_21 = true := by decide +kernel
def bX3_isIn_32 : List Instr := [.iconst 1, .goto 4]
theorem kX3_isIn_32 : okB mX3_isIn 32 bX3_isIn_32 = true := by decide +kernel
def bX3_isIn_36 : List Instr := [.iconst 0]
theorem kX3_isIn_36 : okB mX3_isIn 36 bX3_isIn_36 = true := by decide +kernel
def bX3_isIn_37 : List Instr := [.ireturn]
theorem kX3_isIn_37 : okB mX3_isIn 37 bX3_isIn_37 = true := by decide +kernel
def bX3_manOn_0 : List Instr := [.iconst 0, .istore_n 2]
theorem kX3_manOn_0 : okB mX3_manOn 0 bX3_manOn_0 = true := by decide +kernel
def bX3_manOn_2 : List Instr := [.iload_n 2, .aload_n 0, .getfield 42, .if_icmp .ge 29]
theorem kX3_manOn_2 : okB mX3_manOn 2 bX3_manOn_2 = true := by decide +kernel
def bX3_manOn_10 : List Instr := [.aload_n 0, .iload_n 2]
theorem kX3_manOn_10 : okB mX3_manOn 10 bX3_manOn_10 = true := by decide +kernel
def bX3_manOn_15 : List Instr := [.ifCond .eq 15]
theorem kX3_manOn_15 : okB mX3_manOn 15 bX3_manOn_15 = true := by decide +kernel
def bX3_manOn_18 : List Instr := [.aload_n 0, .getfield 28, .iload_n 2, .iaload, .iload_n 1, .if_icmp .ne 5]
theorem kX3_manOn_18 : okB mX3_manOn 18 bX3_manOn_18 = true := by decide +kernel
def bX3_manOn_28 : List Instr := [.iload_n 2, .ireturn]
theorem kX3_manOn_28 : okB mX3_manOn 28 bX3_manOn_28 = true := by decide +kernel
def bX3_manOn_30 : List Instr := [.iinc 2 1, .goto (-31)]
theorem kX3_manOn_30 : okB mX3_manOn 30 bX3_manOn_30 = true := by decide +kernel
def bX3_manOn_36 : List Instr := [.iconst (-1), .ireturn]
theorem kX3_manOn_36 : okB mX3_manOn 36 bX3_manOn_36 = true := by decide +kernel
theorem dX3_manOn_12 : decode mX3_manOn.2.2.1 12 = .ok (.invokevirtual 51, 3) := by decide +kernel
def bX3_onTurn_0 : List Instr := [.aload_n 0, .getfield 45, .iconst 2, .irem, .ireturn]
theorem kX3_onTurn_0 : okB mX3_onTurn 0 bX3_onTurn_0 = true := by decide +kernel
def bX3_powerOf_0 : List Instr := [.aload_n 0, .iload_n 1]
theorem kX3_powerOf_0 : okB mX3_powerOf 0 bX3_powerOf_0 = true := by decide +kernel
def bX3_powerOf_5 : List Instr := [.ifCond .eq 35]
theorem kX3_powerOf_5 : okB mX3_powerOf 5 bX3_powerOf_5 = true := by decide +kernel
def bX3_powerOf_8 : List Instr := [.aload_n 0, .getfield 18, .iload_n 1, .iaload, .aload_n 0, .getfield 25, .iload_n 1, .iaload, .aload_n 0, .getfield 12, .getfield 55, .aload_n 0, .getfield 28, .iload_n 1, .iaload, .baload]
theorem kX3_powerOf_8 : okB mX3_powerOf 8 bX3_powerOf_8 = true := by decide +kernel
def bX3_powerOf_37 : List Instr := [.goto 4]
theorem kX3_powerOf_37 : okB mX3_powerOf 37 bX3_powerOf_37 = true := by decide +kernel
def bX3_powerOf_40 : List Instr := [.iconst 0]
theorem kX3_powerOf_40 : okB mX3_powerOf 40 bX3_powerOf_40 = true := by decide +kernel
def bX3_powerOf_41 : List Instr := [.ireturn]
theorem kX3_powerOf_41 : okB mX3_powerOf 41 bX3_powerOf_41 = true := by decide +kernel
theorem dX3_powerOf_2 : decode mX3_powerOf.2.2.1 2 = .ok (.invokevirtual 51, 3) := by decide +kernel
theorem dX3_powerOf_34 : decode mX3_powerOf.2.2.1 34 = .ok (.invokestatic 59, 3) := by decide +kernel
def bX3_rulerAt_0 : List Instr := [.iconst (-1), .istore_n 3, .iconst 0, .istore 4, .iconst 0, .istore 5, .iconst 0, .istore 6]
theorem kX3_rulerAt_0 : okB mX3_rulerAt 0 bX3_rulerAt_0 = true := by decide +kernel
def bX3_rulerAt_11 : List Instr := [.iload 6, .aload_n 0, .getfield 42, .if_icmp .ge 113]
theorem kX3_rulerAt_11 : okB mX3_rulerAt 11 bX3_rulerAt_11 = true := by decide +kernel
def bX3_rulerAt_20 : List Instr := [.aload_n 0, .getfield 28, .iload 6, .iaload, .istore 7, .aload_n 0, .getfield 12, .iload 7, .iload_n 1, .iload_n 2]
theorem kX3_rulerAt_20 : okB mX3_rulerAt 20 bX3_rulerAt_20 = true := by decide +kernel
def bX3_rulerAt_40 : List Instr := [.ifCond .ne 6]
theorem kX3_rulerAt_40 : okB mX3_rulerAt 40 bX3_rulerAt_40 = true := by decide +kernel
def bX3_rulerAt_43 : List Instr := [.goto 81]
theorem kX3_rulerAt_43 : okB mX3_rulerAt 43 bX3_rulerAt_43 = true := by decide +kernel
def bX3_rulerAt_46 : List Instr := [.aload_n 0, .getfield 18, .iload 6, .iaload, .aload_n 0, .getfield 25, .iload 6, .iaload, .aload_n 0, .getfield 12, .getfield 55, .iload 7, .baload]
theorem kX3_rulerAt_46 : okB mX3_rulerAt 46 bX3_rulerAt_46 = true := by decide +kernel
def bX3_rulerAt_73 : List Instr := [.istore 8, .aload_n 0, .getfield 12, .getfield 67, .iload 7, .iaload, .istore 9, .iload_n 3, .iconst (-1), .if_icmp .eq 24]
theorem kX3_rulerAt_73 : okB mX3_rulerAt 73 bX3_rulerAt_73 = true := by decide +kernel
def bX3_rulerAt_92 : List Instr := [.iload 8, .iload 4, .if_icmp .gt 17]
theorem kX3_rulerAt_92 : okB mX3_rulerAt 92 bX3_rulerAt_92 = true := by decide +kernel
def bX3_rulerAt_99 : List Instr := [.iload 8, .iload 4, .if_icmp .ne 21]
theorem kX3_rulerAt_99 : okB mX3_rulerAt 99 bX3_rulerAt_99 = true := by decide +kernel
def bX3_rulerAt_106 : List Instr := [.iload 9, .iload 5, .if_icmp .le 14]
theorem kX3_rulerAt_106 : okB mX3_rulerAt 106 bX3_rulerAt_106 = true := by decide +kernel
def bX3_rulerAt_113 : List Instr := [.iload 6, .istore_n 3, .iload 8, .istore 4, .iload 9, .istore 5]
theorem kX3_rulerAt_113 : okB mX3_rulerAt 113 bX3_rulerAt_113 = true := by decide +kernel
def bX3_rulerAt_124 : List Instr := [.iinc 6 1, .goto (-116)]
theorem kX3_rulerAt_124 : okB mX3_rulerAt 124 bX3_rulerAt_124 = true := by decide +kernel
def bX3_rulerAt_130 : List Instr := [.iload_n 3, .ireturn]
theorem kX3_rulerAt_130 : okB mX3_rulerAt 130 bX3_rulerAt_130 = true := by decide +kernel
theorem dX3_rulerAt_37 : decode mX3_rulerAt.2.2.1 37 = .ok (.invokevirtual 63, 3) := by decide +kernel
theorem dX3_rulerAt_70 : decode mX3_rulerAt.2.2.1 70 = .ok (.invokestatic 59, 3) := by decide +kernel
def bX3_isOpen_0 : List Instr := [.aload_n 0, .iload_n 1, .iload_n 2]
theorem kX3_isOpen_0 : okB mX3_isOpen 0 bX3_isOpen_0 = true := by decide +kernel
def bX3_isOpen_6 : List Instr := [.iconst (-1), .if_icmp .ne 20]
theorem kX3_isOpen_6 : okB mX3_isOpen 6 bX3_isOpen_6 = true := by decide +kernel
def bX3_isOpen_10 : List Instr := [.aload_n 0, .getfield 12, .iload_n 1, .iload_n 2]
theorem kX3_isOpen_10 : okB mX3_isOpen 10 bX3_isOpen_10 = true := by decide +kernel
def bX3_isOpen_19 : List Instr := [.iconst (-1), .if_icmp .eq 7]
theorem kX3_isOpen_19 : okB mX3_isOpen 19 bX3_isOpen_19 = true := by decide +kernel
def bX3_isOpen_23 : List Instr := [.iconst 1, .goto 4]
theorem kX3_isOpen_23 : okB mX3_isOpen 23 bX3_isOpen_23 = true := by decide +kernel
def bX3_isOpen_27 : List Instr := [.iconst 0]
theorem kX3_isOpen_27 : okB mX3_isOpen 27 bX3_isOpen_27 = true := by decide +kernel
def bX3_isOpen_28 : List Instr := [.ireturn]
theorem kX3_isOpen_28 : okB mX3_isOpen 28 bX3_isOpen_28 = true := by decide +kernel
theorem dX3_isOpen_3 : decode mX3_isOpen.2.2.1 3 = .ok (.invokevirtual 70, 3) := by decide +kernel
theorem dX3_isOpen_16 : decode mX3_isOpen.2.2.1 16 = .ok (.invokevirtual 74, 3) := by decide +kernel
def bX3_goalOf_0 : List Instr := [.aload_n 0, .getfield 48, .ifCond .gt 22]
theorem kX3_goalOf_0 : okB mX3_goalOf 0 bX3_goalOf_0 = true := by decide +kernel
def bX3_goalOf_7 : List Instr := [.iload_n 3, .iconst 0, .iconst 3]
theorem kX3_goalOf_7 : okB mX3_goalOf 7 bX3_goalOf_7 = true := by decide +kernel
def bX3_goalOf_13 : List Instr := [.ifCond .eq 13]
theorem kX3_goalOf_13 : okB mX3_goalOf 13 bX3_goalOf_13 = true := by decide +kernel
def bX3_goalOf_16 : List Instr := [.iload 4, .iconst 1, .iconst 2]
theorem kX3_goalOf_16 : okB mX3_goalOf 16 bX3_goalOf_16 = true := by decide +kernel
def bX3_goalOf_23 : List Instr := [.ifCond .ne 5]
theorem kX3_goalOf_23 : okB mX3_goalOf 23 bX3_goalOf_23 = true := by decide +kernel
def bX3_goalOf_26 : List Instr := [.iconst (-1), .ireturn]
theorem kX3_goalOf_26 : okB mX3_goalOf 26 bX3_goalOf_26 = true := by decide +kernel
def bX3_goalOf_28 : List Instr := [.aload_n 0, .iload_n 1, .iload_n 2]
theorem kX3_goalOf_28 : okB mX3_goalOf 28 bX3_goalOf_28 = true := by decide +kernel
def bX3_goalOf_34 : List Instr := [.istore 5, .iload 5, .iconst (-1), .if_icmp .eq 17]
theorem kX3_goalOf_34 : okB mX3_goalOf 34 bX3_goalOf_34 = true := by decide +kernel
def bX3_goalOf_42 : List Instr := [.aload_n 0, .getfield 22, .iload 5, .iaload, .aload_n 0]
theorem kX3_goalOf_42 : okB mX3_goalOf 42 bX3_goalOf_42 = true := by decide +kernel
def bX3_goalOf_53 : List Instr := [.if_icmp .eq 5]
theorem kX3_goalOf_53 : okB mX3_goalOf 53 bX3_goalOf_53 = true := by decide +kernel
def bX3_goalOf_56 : List Instr := [.iconst (-1), .ireturn]
theorem kX3_goalOf_56 : okB mX3_goalOf 56 bX3_goalOf_56 = true := by decide +kernel
def bX3_goalOf_58 : List Instr := [.iload 4, .iconst 2, .if_icmp .ne 37]
theorem kX3_goalOf_58 : okB mX3_goalOf 58 bX3_goalOf_58 = true := by decide +kernel
def bX3_goalOf_64 : List Instr := [.aload_n 0, .getfield 18, .iload 5, .iaload, .iconst 4, .if_icmp .ne 24]
theorem kX3_goalOf_64 : okB mX3_goalOf 64 bX3_goalOf_64 = true := by decide +kernel
def bX3_goalOf_75 : List Instr := [.aload_n 0, .iload_n 1, .getstatic 84, .iload_n 3, .iaload, .iadd, .iload_n 2, .getstatic 87, .iload_n 3, .iaload, .iadd]
theorem kX3_goalOf_75 : okB mX3_goalOf 75 bX3_goalOf_75 = true := by decide +kernel
def bX3_goalOf_93 : List Instr := [.ifCond .ne 5]
theorem kX3_goalOf_93 : okB mX3_goalOf 93 bX3_goalOf_93 = true := by decide +kernel
def bX3_goalOf_96 : List Instr := [.iconst (-1), .ireturn]
theorem kX3_goalOf_96 : okB mX3_goalOf 96 bX3_goalOf_96 = true := by decide +kernel
def bX3_goalOf_98 : List Instr := [.iload_n 1, .iload 4, .getstatic 84, .iload_n 3, .iaload, .imul, .iadd, .istore 6, .iload_n 2, .iload 4, .getstatic 87, .iload_n 3, .iaload, .imul, .iadd, .istore 7, .aload_n 0, .iload 6, .iload 7]
theorem kX3_goalOf_98 : okB mX3_goalOf 98 bX3_goalOf_98 = true := by decide +kernel
def bX3_goalOf_130 : List Instr := [.istore 8, .iload 8, .iconst (-1), .if_icmp .ne 15]
theorem kX3_goalOf_130 : okB mX3_goalOf 130 bX3_goalOf_130 = true := by decide +kernel
def bX3_goalOf_138 : List Instr := [.aload_n 0, .getfield 12, .iload 6, .iload 7]
theorem kX3_goalOf_138 : okB mX3_goalOf 138 bX3_goalOf_138 = true := by decide +kernel
def bX3_goalOf_149 : List Instr := [.ireturn]
theorem kX3_goalOf_149 : okB mX3_goalOf 149 bX3_goalOf_149 = true := by decide +kernel
def bX3_goalOf_150 : List Instr := [.aload_n 0, .getfield 22, .iload 8, .iaload, .aload_n 0, .getfield 22, .iload 5, .iaload, .if_icmp .eq 22]
theorem kX3_goalOf_150 : okB mX3_goalOf 150 bX3_goalOf_150 = true := by decide +kernel
def bX3_goalOf_167 : List Instr := [.aload_n 0, .iload 8]
theorem kX3_goalOf_167 : okB mX3_goalOf 167 bX3_goalOf_167 = true := by decide +kernel
def bX3_goalOf_173 : List Instr := [.aload_n 0, .iload 5]
theorem kX3_goalOf_173 : okB mX3_goalOf 173 bX3_goalOf_173 = true := by decide +kernel
def bX3_goalOf_179 : List Instr := [.if_icmp .ge 7]
theorem kX3_goalOf_179 : okB mX3_goalOf 179 bX3_goalOf_179 = true := by decide +kernel
def bX3_goalOf_182 : List Instr := [.iconst 1, .goto 4]
theorem kX3_goalOf_182 : okB mX3_goalOf 182 bX3_goalOf_182 = true := by decide +kernel
def bX3_goalOf_186 : List Instr := [.iconst 0]
theorem kX3_goalOf_186 : okB mX3_goalOf 186 bX3_goalOf_186 = true := by decide +kernel
def bX3_goalOf_187 : List Instr := [.istore 9, .iload 9, .ifCond .eq 13]
theorem kX3_goalOf_187 : okB mX3_goalOf 187 bX3_goalOf_187 = true := by decide +kernel
def bX3_goalOf_194 : List Instr := [.aload_n 0, .getfield 28, .iload 8, .iaload, .goto 4]
theorem kX3_goalOf_194 : okB mX3_goalOf 194 bX3_goalOf_194 = true := by decide +kernel
def bX3_goalOf_204 : List Instr := [.iconst (-1)]
theorem kX3_goalOf_204 : okB mX3_goalOf 204 bX3_goalOf_204 = true := by decide +kernel
def bX3_goalOf_205 : List Instr := [.ireturn]
theorem kX3_goalOf_205 : okB mX3_goalOf 205 bX3_goalOf_205 = true := by decide +kernel
theorem dX3_goalOf_10 : decode mX3_goalOf.2.2.1 10 = .ok (.invokestatic 77, 3) := by decide +kernel
theorem dX3_goalOf_20 : decode mX3_goalOf.2.2.1 20 = .ok (.invokestatic 77, 3) := by decide +kernel
theorem dX3_goalOf_31 : decode mX3_goalOf.2.2.1 31 = .ok (.invokevirtual 70, 3) := by decide +kernel
theorem dX3_goalOf_50 : decode mX3_goalOf.2.2.1 50 = .ok (.invokevirtual 80, 3) := by decide +kernel
theorem dX3_goalOf_90 : decode mX3_goalOf.2.2.1 90 = .ok (.invokevirtual 90, 3) := by decide +kernel
theorem dX3_goalOf_127 : decode mX3_goalOf.2.2.1 127 = .ok (.invokevirtual 70, 3) := by decide +kernel
theorem dX3_goalOf_146 : decode mX3_goalOf.2.2.1 146 = .ok (.invokevirtual 74, 3) := by decide +kernel
theorem dX3_goalOf_170 : decode mX3_goalOf.2.2.1 170 = .ok (.invokevirtual 94, 3) := by decide +kernel
theorem dX3_goalOf_176 : decode mX3_goalOf.2.2.1 176 = .ok (.invokevirtual 94, 3) := by decide +kernel
def bX3_carry_0 : List Instr := [.aload_n 0, .iload_n 1]
theorem kX3_carry_0 : okB mX3_carry 0 bX3_carry_0 = true := by decide +kernel
def bX3_carry_5 : List Instr := [.ifCond .eq 14]
theorem kX3_carry_5 : okB mX3_carry 5 bX3_carry_5 = true := by decide +kernel
def bX3_carry_8 : List Instr := [.aload_n 0, .getfield 12, .iload_n 2]
theorem kX3_carry_8 : okB mX3_carry 8 bX3_carry_8 = true := by decide +kernel
def bX3_carry_16 : List Instr := [.ifCond .ne 5]
theorem kX3_carry_16 : okB mX3_carry 16 bX3_carry_16 = true := by decide +kernel
def bX3_carry_19 : List Instr := [.iconst (-1), .ireturn]
theorem kX3_carry_19 : okB mX3_carry 19 bX3_carry_19 = true := by decide +kernel
def bX3_carry_21 : List Instr := [.aload_n 0, .iload_n 2]
theorem kX3_carry_21 : okB mX3_carry 21 bX3_carry_21 = true := by decide +kernel
def bX3_carry_26 : List Instr := [.istore_n 3, .iload_n 3, .iconst (-1), .if_icmp .eq 10]
theorem kX3_carry_26 : okB mX3_carry 26 bX3_carry_26 = true := by decide +kernel
def bX3_carry_32 : List Instr := [.aload_n 0, .getfield 28, .iload_n 3, .iconst (-1), .iastore]
theorem kX3_carry_32 : okB mX3_carry 32 bX3_carry_32 = true := by decide +kernel
def bX3_carry_39 : List Instr := [.aload_n 0, .getfield 28, .iload_n 1, .iload_n 2, .iastore, .aload_n 0, .dup, .getfield 45, .iconst 1, .iadd, .putfield 45, .aload_n 0, .getfield 31, .ifCond .le 47]
theorem kX3_carry_39 : okB mX3_carry 39 bX3_carry_39 = true := by decide +kernel
def bX3_carry_63 : List Instr := [.aload_n 0, .getfield 45, .aload_n 0, .getfield 31, .irem, .ifCond .ne 35]
theorem kX3_carry_63 : okB mX3_carry 63 bX3_carry_63 = true := by decide +kernel
def bX3_carry_75 : List Instr := [.aload_n 0, .getfield 45, .aload_n 0, .getfield 31, .idiv, .iconst 2, .irem, .ifCond .ne 13]
theorem kX3_carry_75 : okB mX3_carry 75 bX3_carry_75 = true := by decide +kernel
def bX3_carry_89 : List Instr := [.aload_n 0, .getfield 12]
theorem kX3_carry_89 : okB mX3_carry 89 bX3_carry_89 = true := by decide +kernel
def bX3_carry_96 : List Instr := [.goto 11]
theorem kX3_carry_96 : okB mX3_carry 96 bX3_carry_96 = true := by decide +kernel
def bX3_carry_99 : List Instr := [.aload_n 0, .aload_n 0, .getfield 35]
theorem kX3_carry_99 : okB mX3_carry 99 bX3_carry_99 = true := by decide +kernel
def bX3_carry_107 : List Instr := [.iload_n 3, .ireturn]
theorem kX3_carry_107 : okB mX3_carry 107 bX3_carry_107 = true := by decide +kernel
theorem dX3_carry_2 : decode mX3_carry.2.2.1 2 = .ok (.invokevirtual 51, 3) := by decide +kernel
theorem dX3_carry_13 : decode mX3_carry.2.2.1 13 = .ok (.invokevirtual 98, 3) := by decide +kernel
theorem dX3_carry_23 : decode mX3_carry.2.2.1 23 = .ok (.invokevirtual 101, 3) := by decide +kernel
theorem dX3_carry_93 : decode mX3_carry.2.2.1 93 = .ok (.invokevirtual 104, 3) := by decide +kernel
theorem dX3_carry_104 : decode mX3_carry.2.2.1 104 = .ok (.invokevirtual 107, 3) := by decide +kernel
def bX3_makeDue_0 : List Instr := [.aload_n 0, .getfield 12]
theorem kX3_makeDue_0 : okB mX3_makeDue 0 bX3_makeDue_0 = true := by decide +kernel
def bX3_makeDue_7 : List Instr := [.ifCond .ne 7]
theorem kX3_makeDue_7 : okB mX3_makeDue 7 bX3_makeDue_7 = true := by decide +kernel
def bX3_makeDue_10 : List Instr := [.iconst 0, .goto 12]
theorem kX3_makeDue_10 : okB mX3_makeDue 10 bX3_makeDue_10 = true := by decide +kernel
def bX3_makeDue_14 : List Instr := [.iconst 3, .aload_n 0, .getfield 12, .getfield 114, .isub]
theorem kX3_makeDue_14 : okB mX3_makeDue 14 bX3_makeDue_14 = true := by decide +kernel
def bX3_makeDue_23 : List Instr := [.istore_n 2, .aload_n 0, .iload_n 1, .iload_n 2, .if_icmp .ge 7]
theorem kX3_makeDue_23 : okB mX3_makeDue 23 bX3_makeDue_23 = true := by decide +kernel
def bX3_makeDue_30 : List Instr := [.iload_n 1, .goto 4]
theorem kX3_makeDue_30 : okB mX3_makeDue 30 bX3_makeDue_30 = true := by decide +kernel
def bX3_makeDue_34 : List Instr := [.iload_n 2]
theorem kX3_makeDue_34 : okB mX3_makeDue 34 bX3_makeDue_34 = true := by decide +kernel
def bX3_makeDue_35 : List Instr := [.putfield 48, .return_]
theorem kX3_makeDue_35 : okB mX3_makeDue 35 bX3_makeDue_35 = true := by decide +kernel
theorem dX3_makeDue_4 : decode mX3_makeDue.2.2.1 4 = .ok (.invokevirtual 111, 3) := by decide +kernel
def bX3_creaseDue_0 : List Instr := [.aload_n 0, .getfield 12, .iload_n 1, .iload_n 2, .iload_n 3]
theorem kX3_creaseDue_0 : okB mX3_creaseDue 0 bX3_creaseDue_0 = true := by decide +kernel
def bX3_creaseDue_10 : List Instr := [.aload_n 0, .aload_n 0, .getfield 48, .iconst 1, .isub]
theorem kX3_creaseDue_10 : okB mX3_creaseDue 10 bX3_creaseDue_10 = true := by decide +kernel
def bX3_creaseDue_20 : List Instr := [.return_]
theorem kX3_creaseDue_20 : okB mX3_creaseDue 20 bX3_creaseDue_20 = true := by decide +kernel
theorem dX3_creaseDue_7 : decode mX3_creaseDue.2.2.1 7 = .ok (.invokevirtual 117, 3) := by decide +kernel
theorem dX3_creaseDue_17 : decode mX3_creaseDue.2.2.1 17 = .ok (.invokevirtual 107, 3) := by decide +kernel
def bX3_behindNow_0 : List Instr := [.iconst 0, .istore_n 1, .iconst 0, .istore_n 2]
theorem kX3_behindNow_0 : okB mX3_behindNow 0 bX3_behindNow_0 = true := by decide +kernel
def bX3_behindNow_4 : List Instr := [.iload_n 2, .aload_n 0, .getfield 42, .if_icmp .ge 77]
theorem kX3_behindNow_4 : okB mX3_behindNow 4 bX3_behindNow_4 = true := by decide +kernel
def bX3_behindNow_12 : List Instr := [.aload_n 0, .getfield 28, .iload_n 2, .iaload, .istore_n 3, .aload_n 0, .getfield 12, .iload_n 3]
theorem kX3_behindNow_12 : okB mX3_behindNow 12 bX3_behindNow_12 = true := by decide +kernel
def bX3_behindNow_27 : List Instr := [.ifCond .eq 30]
theorem kX3_behindNow_27 : okB mX3_behindNow 27 bX3_behindNow_27 = true := by decide +kernel
def bX3_behindNow_30 : List Instr := [.aload_n 0, .getfield 18, .iload_n 2, .iaload, .aload_n 0, .getfield 25, .iload_n 2, .iaload, .aload_n 0, .getfield 12, .getfield 55, .iload_n 3, .baload]
theorem kX3_behindNow_30 : okB mX3_behindNow 30 bX3_behindNow_30 = true := by decide +kernel
def bX3_behindNow_54 : List Instr := [.goto 4]
theorem kX3_behindNow_54 : okB mX3_behindNow 54 bX3_behindNow_54 = true := by decide +kernel
def bX3_behindNow_57 : List Instr := [.iconst 0]
theorem kX3_behindNow_57 : okB mX3_behindNow 57 bX3_behindNow_57 = true := by decide +kernel
def bX3_behindNow_58 : List Instr := [.istore 4, .iload_n 1, .aload_n 0, .getfield 22, .iload_n 2, .iaload, .ifCond .ne 8]
theorem kX3_behindNow_58 : okB mX3_behindNow 58 bX3_behindNow_58 = true := by decide +kernel
def bX3_behindNow_70 : List Instr := [.iload 4, .goto 6]
theorem kX3_behindNow_70 : okB mX3_behindNow 70 bX3_behindNow_70 = true := by decide +kernel
def bX3_behindNow_75 : List Instr := [.iload 4, .ineg]
theorem kX3_behindNow_75 : okB mX3_behindNow 75 bX3_behindNow_75 = true := by decide +kernel
def bX3_behindNow_78 : List Instr := [.iadd, .istore_n 1, .iinc 2 1, .goto (-79)]
theorem kX3_behindNow_78 : okB mX3_behindNow 78 bX3_behindNow_78 = true := by decide +kernel
def bX3_behindNow_86 : List Instr := [.iload_n 1, .ifCond .ne 8]
theorem kX3_behindNow_86 : okB mX3_behindNow 86 bX3_behindNow_86 = true := by decide +kernel
def bX3_behindNow_90 : List Instr := [.aload_n 0]
theorem kX3_behindNow_90 : okB mX3_behindNow 90 bX3_behindNow_90 = true := by decide +kernel
def bX3_behindNow_94 : List Instr := [.ireturn]
theorem kX3_behindNow_94 : okB mX3_behindNow 94 bX3_behindNow_94 = true := by decide +kernel
def bX3_behindNow_95 : List Instr := [.iload_n 1, .ifCond .ge 7]
theorem kX3_behindNow_95 : okB mX3_behindNow 95 bX3_behindNow_95 = true := by decide +kernel
def bX3_behindNow_99 : List Instr := [.iconst 0, .goto 4]
theorem kX3_behindNow_99 : okB mX3_behindNow 99 bX3_behindNow_99 = true := by decide +kernel
def bX3_behindNow_103 : List Instr := [.iconst 1]
theorem kX3_behindNow_103 : okB mX3_behindNow 103 bX3_behindNow_103 = true := by decide +kernel
def bX3_behindNow_104 : List Instr := [.ireturn]
theorem kX3_behindNow_104 : okB mX3_behindNow 104 bX3_behindNow_104 = true := by decide +kernel
theorem dX3_behindNow_24 : decode mX3_behindNow.2.2.1 24 = .ok (.invokevirtual 98, 3) := by decide +kernel
theorem dX3_behindNow_51 : decode mX3_behindNow.2.2.1 51 = .ok (.invokestatic 59, 3) := by decide +kernel
theorem dX3_behindNow_91 : decode mX3_behindNow.2.2.1 91 = .ok (.invokevirtual 80, 3) := by decide +kernel
def bX3_menOf_0 : List Instr := [.iconst 0, .istore_n 2, .iconst 0, .istore_n 3]
theorem kX3_menOf_0 : okB mX3_menOf 0 bX3_menOf_0 = true := by decide +kernel
def bX3_menOf_4 : List Instr := [.iload_n 3, .aload_n 0, .getfield 42, .if_icmp .ge 30]
theorem kX3_menOf_4 : okB mX3_menOf 4 bX3_menOf_4 = true := by decide +kernel
def bX3_menOf_12 : List Instr := [.aload_n 0, .iload_n 3]
theorem kX3_menOf_12 : okB mX3_menOf 12 bX3_menOf_12 = true := by decide +kernel
def bX3_menOf_17 : List Instr := [.ifCond .eq 16]
theorem kX3_menOf_17 : okB mX3_menOf 17 bX3_menOf_17 = true := by decide +kernel
def bX3_menOf_20 : List Instr := [.aload_n 0, .getfield 22, .iload_n 3, .iaload, .iload_n 1, .if_icmp .ne 6]
theorem kX3_menOf_20 : okB mX3_menOf 20 bX3_menOf_20 = true := by decide +kernel
def bX3_menOf_30 : List Instr := [.iinc 2 1]
theorem kX3_menOf_30 : okB mX3_menOf 30 bX3_menOf_30 = true := by decide +kernel
def bX3_menOf_33 : List Instr := [.iinc 3 1, .goto (-32)]
theorem kX3_menOf_33 : okB mX3_menOf 33 bX3_menOf_33 = true := by decide +kernel
def bX3_menOf_39 : List Instr := [.iload_n 2, .ireturn]
theorem kX3_menOf_39 : okB mX3_menOf 39 bX3_menOf_39 = true := by decide +kernel
theorem dX3_menOf_14 : decode mX3_menOf.2.2.1 14 = .ok (.invokevirtual 51, 3) := by decide +kernel
def bX3_winner_0 : List Instr := [.aload_n 0, .iconst 0]
theorem kX3_winner_0 : okB mX3_winner 0 bX3_winner_0 = true := by decide +kernel
def bX3_winner_5 : List Instr := [.istore_n 1, .aload_n 0, .iconst 1]
theorem kX3_winner_5 : okB mX3_winner 5 bX3_winner_5 = true := by decide +kernel
def bX3_winner_11 : List Instr := [.istore_n 2, .iload_n 1, .iload_n 2, .iadd, .aload_n 0, .getfield 42, .if_icmp .ne 5]
theorem kX3_winner_11 : okB mX3_winner 11 bX3_winner_11 = true := by decide +kernel
def bX3_winner_22 : List Instr := [.iconst (-1), .ireturn]
theorem kX3_winner_22 : okB mX3_winner 22 bX3_winner_22 = true := by decide +kernel
def bX3_winner_24 : List Instr := [.iload_n 1, .ifCond .le 9]
theorem kX3_winner_24 : okB mX3_winner 24 bX3_winner_24 = true := by decide +kernel
def bX3_winner_28 : List Instr := [.iload_n 2, .ifCond .ne 5]
theorem kX3_winner_28 : okB mX3_winner 28 bX3_winner_28 = true := by decide +kernel
def bX3_winner_32 : List Instr := [.iconst 0, .ireturn]
theorem kX3_winner_32 : okB mX3_winner 32 bX3_winner_32 = true := by decide +kernel
def bX3_winner_34 : List Instr := [.iload_n 1, .ifCond .ne 11]
theorem kX3_winner_34 : okB mX3_winner 34 bX3_winner_34 = true := by decide +kernel
def bX3_winner_38 : List Instr := [.iload_n 2, .ifCond .le 7]
theorem kX3_winner_38 : okB mX3_winner 38 bX3_winner_38 = true := by decide +kernel
def bX3_winner_42 : List Instr := [.iconst 1, .goto 4]
theorem kX3_winner_42 : okB mX3_winner 42 bX3_winner_42 = true := by decide +kernel
def bX3_winner_46 : List Instr := [.iconst (-1)]
theorem kX3_winner_46 : okB mX3_winner 46 bX3_winner_46 = true := by decide +kernel
def bX3_winner_47 : List Instr := [.ireturn]
theorem kX3_winner_47 : okB mX3_winner 47 bX3_winner_47 = true := by decide +kernel
theorem dX3_winner_2 : decode mX3_winner.2.2.1 2 = .ok (.invokevirtual 121, 3) := by decide +kernel
theorem dX3_winner_8 : decode mX3_winner.2.2.1 8 = .ok (.invokevirtual 121, 3) := by decide +kernel
def bX3_save_0 : List Instr := [.aload_n 1, .iconst 0, .aload_n 0, .getfield 45, .iastore, .aload_n 1, .iconst 1, .aload_n 0, .getfield 48, .iastore, .aload_n 0, .getfield 12, .aload_n 1]
theorem kX3_save_0 : okB mX3_save 0 bX3_save_0 = true := by decide +kernel
def bX3_save_22 : List Instr := [.aload_n 0, .getfield 28, .iconst 0, .aload_n 1, .bipush 12, .bipush 8]
theorem kX3_save_22 : okB mX3_save 22 bX3_save_22 = true := by decide +kernel
def bX3_save_35 : List Instr := [.return_]
theorem kX3_save_35 : okB mX3_save 35 bX3_save_35 = true := by decide +kernel
theorem dX3_save_19 : decode mX3_save.2.2.1 19 = .ok (.invokevirtual 124, 3) := by decide +kernel
theorem dX3_save_32 : decode mX3_save.2.2.1 32 = .ok (.invokestatic 128, 3) := by decide +kernel
def bX3_load_0 : List Instr := [.aload_n 0, .aload_n 1, .iconst 0, .iaload, .putfield 45, .aload_n 0, .aload_n 1, .iconst 1, .iaload, .putfield 48, .aload_n 0, .getfield 12, .aload_n 1]
theorem kX3_load_0 : okB mX3_load 0 bX3_load_0 = true := by decide +kernel
def bX3_load_22 : List Instr := [.aload_n 1, .bipush 12, .aload_n 0, .getfield 28, .iconst 0, .bipush 8]
theorem kX3_load_22 : okB mX3_load 22 bX3_load_22 = true := by decide +kernel
def bX3_load_35 : List Instr := [.return_]
theorem kX3_load_35 : okB mX3_load 35 bX3_load_35 = true := by decide +kernel
theorem dX3_load_19 : decode mX3_load.2.2.1 19 = .ok (.invokevirtual 134, 3) := by decide +kernel
theorem dX3_load_32 : decode mX3_load.2.2.1 32 = .ok (.invokestatic 128, 3) := by decide +kernel
def bX3_copy_0 : List Instr := [.aload_n 0, .getfield 12, .aload_n 1, .getfield 12]
theorem kX3_copy_0 : okB mX3_copy 0 bX3_copy_0 = true := by decide +kernel
def bX3_copy_11 : List Instr := [.aload_n 1, .getfield 18, .iconst 0, .aload_n 0, .getfield 18, .iconst 0, .bipush 8]
theorem kX3_copy_11 : okB mX3_copy 11 bX3_copy_11 = true := by decide +kernel
def bX3_copy_26 : List Instr := [.aload_n 1, .getfield 22, .iconst 0, .aload_n 0, .getfield 22, .iconst 0, .bipush 8]
theorem kX3_copy_26 : okB mX3_copy 26 bX3_copy_26 = true := by decide +kernel
def bX3_copy_41 : List Instr := [.aload_n 1, .getfield 25, .iconst 0, .aload_n 0, .getfield 25, .iconst 0, .bipush 8]
theorem kX3_copy_41 : okB mX3_copy 41 bX3_copy_41 = true := by decide +kernel
def bX3_copy_56 : List Instr := [.aload_n 1, .getfield 28, .iconst 0, .aload_n 0, .getfield 28, .iconst 0, .bipush 8]
theorem kX3_copy_56 : okB mX3_copy 56 bX3_copy_56 = true := by decide +kernel
def bX3_copy_71 : List Instr := [.aload_n 0, .aload_n 1, .getfield 42, .putfield 42, .aload_n 0, .aload_n 1, .getfield 45, .putfield 45, .aload_n 0, .aload_n 1, .getfield 48, .putfield 48, .aload_n 0, .aload_n 1, .getfield 31, .putfield 31, .aload_n 0, .aload_n 1, .getfield 35, .putfield 35, .return_]
theorem kX3_copy_71 : okB mX3_copy 71 bX3_copy_71 = true := by decide +kernel
theorem dX3_copy_8 : decode mX3_copy.2.2.1 8 = .ok (.invokevirtual 137, 3) := by decide +kernel
theorem dX3_copy_23 : decode mX3_copy.2.2.1 23 = .ok (.invokestatic 128, 3) := by decide +kernel
theorem dX3_copy_38 : decode mX3_copy.2.2.1 38 = .ok (.invokestatic 128, 3) := by decide +kernel
theorem dX3_copy_53 : decode mX3_copy.2.2.1 53 = .ok (.invokestatic 128, 3) := by decide +kernel
theorem dX3_copy_68 : decode mX3_copy.2.2.1 68 = .ok (.invokestatic 128, 3) := by decide +kernel
