def bX9_in_0 : List Instr := [.lload_n 0, .lload_n 2, .lcmp, .ifCond .lt 14]
theorem kX9_in_0 : okB mX9_in 0 bX9_in_0 = true := by decide +kernel
def bX9_in_6 : List Instr := [.lload_n 0, .lload 4, .lcmp, .ifCond .gt 7]
theorem kX9_in_6 : okB mX9_in 6 bX9_in_6 = true := by decide +kernel
def bX9_in_13 : List Instr := [.iconst 1, .goto 4]
theorem kX9_in_13 : okB mX9_in 13 bX9_in_13 = true := by decide +kernel
def bX9_in_17 : List Instr := [.iconst 0]
theorem kX9_in_17 : okB mX9_in 17 bX9_in_17 = true := by decide +kernel
def bX9_in_18 : List Instr := [.ireturn]
theorem kX9_in_18 : okB mX9_in 18 bX9_in_18 = true := by decide +kernel
def bX9_init_0 : List Instr := [.aload_n 0]
theorem kX9_init_0 : okB mX9_init 0 bX9_init_0 = true := by decide +kernel
def bX9_init_4 : List Instr := [.aload_n 0, .sipush 248]
theorem kX9_init_4 : okB mX9_init 4 bX9_init_4 = true := by decide +kernel
def bX9_init_10 : List Instr := [.putfield 7, .aload_n 0, .sipush 496]
theorem kX9_init_10 : okB mX9_init 10 bX9_init_10 = true := by decide +kernel
def bX9_init_19 : List Instr := [.putfield 13, .aload_n 0, .iconst 2]
theorem kX9_init_19 : okB mX9_init 19 bX9_init_19 = true := by decide +kernel
def bX9_init_26 : List Instr := [.putfield 16, .aload_n 0, .iconst 3]
theorem kX9_init_26 : okB mX9_init 26 bX9_init_26 = true := by decide +kernel
def bX9_init_33 : List Instr := [.putfield 20, .aload_n 0, .bipush 36]
theorem kX9_init_33 : okB mX9_init 33 bX9_init_33 = true := by decide +kernel
def bX9_init_41 : List Instr := [.putfield 23, .aload_n 0, .bipush 36]
theorem kX9_init_41 : okB mX9_init 41 bX9_init_41 = true := by decide +kernel
def bX9_init_49 : List Instr := [.putfield 26, .aload_n 0, .bipush 36]
theorem kX9_init_49 : okB mX9_init 49 bX9_init_49 = true := by decide +kernel
def bX9_init_57 : List Instr := [.putfield 29, .aload_n 0, .bipush 36]
theorem kX9_init_57 : okB mX9_init 57 bX9_init_57 = true := by decide +kernel
def bX9_init_65 : List Instr := [.putfield 32, .aload_n 0, .bipush 20]
theorem kX9_init_65 : okB mX9_init 65 bX9_init_65 = true := by decide +kernel
def bX9_init_73 : List Instr := [.putfield 35, .aload_n 0, .bipush 36]
theorem kX9_init_73 : okB mX9_init 73 bX9_init_73 = true := by decide +kernel
def bX9_init_81 : List Instr := [.putfield 38, .aload_n 0, .bipush 100]
theorem kX9_init_81 : okB mX9_init 81 bX9_init_81 = true := by decide +kernel
def bX9_init_89 : List Instr := [.putfield 41, .aload_n 0, .iconst 5]
theorem kX9_init_89 : okB mX9_init 89 bX9_init_89 = true := by decide +kernel
def bX9_init_96 : List Instr := [.putfield 44, .aload_n 0, .iconst 5]
theorem kX9_init_96 : okB mX9_init 96 bX9_init_96 = true := by decide +kernel
def bX9_init_103 : List Instr := [.putfield 47, .aload_n 0, .bipush 20]
theorem kX9_init_103 : okB mX9_init 103 bX9_init_103 = true := by decide +kernel
def bX9_init_111 : List Instr := [.putfield 50, .aload_n 0, .sipush 200]
theorem kX9_init_111 : okB mX9_init 111 bX9_init_111 = true := by decide +kernel
def bX9_init_120 : List Instr := [.putfield 53, .aload_n 0, .sipush 300]
theorem kX9_init_120 : okB mX9_init 120 bX9_init_120 = true := by decide +kernel
def bX9_init_129 : List Instr := [.putfield 56, .aload_n 0, .getfield 7, .iconst 0, .bipush 6, .iastore, .aload_n 0, .getfield 7, .iconst 1, .bipush 6, .iastore, .aload_n 0, .getfield 7, .iconst 4, .bipush 7, .iastore, .aload_n 0, .getfield 7, .iconst 5, .iconst 1, .iastore, .return_]
theorem kX9_init_129 : okB mX9_init 129 bX9_init_129 = true := by decide +kernel
theorem dX9_init_1 : decode mX9_init.2.2.1 1 = .ok (.invokespecial 1, 3) := by decide +kernel
def bX9_refuses_0 : List Instr := [.aload_n 0, .getfield 20, .iload_n 1, .dup2, .iaload, .iconst 1, .iadd, .iastore, .iload_n 2, .ireturn]
theorem kX9_refuses_0 : okB mX9_refuses 0 bX9_refuses_0 = true := by decide +kernel
def bX9_bad_0 : List Instr := [.aload_n 0, .iconst 0, .bipush (-2)]
theorem kX9_bad_0 : okB mX9_bad 0 bX9_bad_0 = true := by decide +kernel
def bX9_bad_7 : List Instr := [.ireturn]
theorem kX9_bad_7 : okB mX9_bad 7 bX9_bad_7 = true := by decide +kernel
theorem dX9_bad_4 : decode mX9_bad.2.2.1 4 = .ok (.invokevirtual 59, 3) := by decide +kernel
def bX9_no_0 : List Instr := [.aload_n 0, .iconst 1, .bipush (-3)]
theorem kX9_no_0 : okB mX9_no 0 bX9_no_0 = true := by decide +kernel
def bX9_no_7 : List Instr := [.ireturn]
theorem kX9_no_7 : okB mX9_no 7 bX9_no_7 = true := by decide +kernel
theorem dX9_no_4 : decode mX9_no.2.2.1 4 = .ok (.invokevirtual 59, 3) := by decide +kernel
def bX9_full_0 : List Instr := [.aload_n 0, .iconst 2, .bipush (-4)]
theorem kX9_full_0 : okB mX9_full 0 bX9_full_0 = true := by decide +kernel
def bX9_full_7 : List Instr := [.ireturn]
theorem kX9_full_7 : okB mX9_full 7 bX9_full_7 = true := by decide +kernel
theorem dX9_full_4 : decode mX9_full.2.2.1 4 = .ok (.invokevirtual 59, 3) := by decide +kernel
def bX9_isCell_0 : List Instr := [.iload_n 1, .i2l, .lconst 0, .ldc2_w 63]
theorem kX9_isCell_0 : okB mX9_isCell 0 bX9_isCell_0 = true := by decide +kernel
def bX9_isCell_9 : List Instr := [.ifCond .eq 45]
theorem kX9_isCell_9 : okB mX9_isCell 9 bX9_isCell_9 = true := by decide +kernel
def bX9_isCell_12 : List Instr := [.iload_n 1, .bipush 6, .irem, .aload_n 0, .getfield 7, .iconst 0, .iaload, .if_icmp .ge 32]
theorem kX9_isCell_12 : okB mX9_isCell 12 bX9_isCell_12 = true := by decide +kernel
def bX9_isCell_25 : List Instr := [.iload_n 1, .bipush 6, .idiv, .aload_n 0, .getfield 7, .iconst 1, .iaload, .if_icmp .ge 19]
theorem kX9_isCell_25 : okB mX9_isCell 25 bX9_isCell_25 = true := by decide +kernel
def bX9_isCell_38 : List Instr := [.aload_n 0, .getfield 7, .bipush 52, .iload_n 1, .iadd, .iaload, .ifCond .ne 7]
theorem kX9_isCell_38 : okB mX9_isCell 38 bX9_isCell_38 = true := by decide +kernel
def bX9_isCell_50 : List Instr := [.iconst 1, .goto 4]
theorem kX9_isCell_50 : okB mX9_isCell 50 bX9_isCell_50 = true := by decide +kernel
def bX9_isCell_54 : List Instr := [.iconst 0]
theorem kX9_isCell_54 : okB mX9_isCell 54 bX9_isCell_54 = true := by decide +kernel
def bX9_isCell_55 : List Instr := [.ireturn]
theorem kX9_isCell_55 : okB mX9_isCell 55 bX9_isCell_55 = true := by decide +kernel
theorem dX9_isCell_6 : decode mX9_isCell.2.2.1 6 = .ok (.invokestatic 65, 3) := by decide +kernel
def bX9_flat_0 : List Instr := [.iconst 0, .istore_n 1]
theorem kX9_flat_0 : okB mX9_flat 0 bX9_flat_0 = true := by decide +kernel
def bX9_flat_2 : List Instr := [.iload_n 1, .bipush 36, .if_icmp .ge 43]
theorem kX9_flat_2 : okB mX9_flat 2 bX9_flat_2 = true := by decide +kernel
def bX9_flat_8 : List Instr := [.aload_n 0, .getfield 23, .iload_n 1, .iload_n 1, .bipush 6, .irem, .iastore, .aload_n 0, .getfield 26, .iload_n 1, .iload_n 1, .bipush 6, .idiv, .iastore, .aload_n 0, .getfield 29, .iload_n 1, .iconst 0, .iastore, .aload_n 0, .getfield 32, .iload_n 1, .iconst 0, .bastore, .iinc 1 1, .goto (-43)]
theorem kX9_flat_8 : okB mX9_flat 8 bX9_flat_8 = true := by decide +kernel
def bX9_flat_48 : List Instr := [.return_]
theorem kX9_flat_48 : okB mX9_flat 48 bX9_flat_48 = true := by decide +kernel
def bX9_moves_0 : List Instr := [.iload_n 2, .ifCond .ne 12]
theorem kX9_moves_0 : okB mX9_moves 0 bX9_moves_0 = true := by decide +kernel
def bX9_moves_4 : List Instr := [.aload_n 0, .getfield 23, .iload_n 1, .iaload, .goto 9]
theorem kX9_moves_4 : okB mX9_moves 4 bX9_moves_4 = true := by decide +kernel
def bX9_moves_13 : List Instr := [.aload_n 0, .getfield 26, .iload_n 1, .iaload]
theorem kX9_moves_13 : okB mX9_moves 13 bX9_moves_13 = true := by decide +kernel
def bX9_moves_19 : List Instr := [.istore 5, .iload 5, .iload_n 3, .if_icmp .lt 7]
theorem kX9_moves_19 : okB mX9_moves 19 bX9_moves_19 = true := by decide +kernel
def bX9_moves_27 : List Instr := [.iconst 1, .goto 4]
theorem kX9_moves_27 : okB mX9_moves 27 bX9_moves_27 = true := by decide +kernel
def bX9_moves_31 : List Instr := [.iconst 0]
theorem kX9_moves_31 : okB mX9_moves 31 bX9_moves_31 = true := by decide +kernel
def bX9_moves_32 : List Instr := [.iload 4, .ifCond .ne 7]
theorem kX9_moves_32 : okB mX9_moves 32 bX9_moves_32 = true := by decide +kernel
def bX9_moves_37 : List Instr := [.iconst 1, .goto 4]
theorem kX9_moves_37 : okB mX9_moves 37 bX9_moves_37 = true := by decide +kernel
def bX9_moves_41 : List Instr := [.iconst 0]
theorem kX9_moves_41 : okB mX9_moves 41 bX9_moves_41 = true := by decide +kernel
def bX9_moves_42 : List Instr := [.if_icmp .ne 7]
theorem kX9_moves_42 : okB mX9_moves 42 bX9_moves_42 = true := by decide +kernel
def bX9_moves_45 : List Instr := [.iconst 1, .goto 4]
theorem kX9_moves_45 : okB mX9_moves 45 bX9_moves_45 = true := by decide +kernel
def bX9_moves_49 : List Instr := [.iconst 0]
theorem kX9_moves_49 : okB mX9_moves 49 bX9_moves_49 = true := by decide +kernel
def bX9_moves_50 : List Instr := [.ireturn]
theorem kX9_moves_50 : okB mX9_moves 50 bX9_moves_50 = true := by decide +kernel
def bX9_mayFold_0 : List Instr := [.iconst 0, .istore 4, .iconst 0, .istore 5, .iconst 0, .istore 6]
theorem kX9_mayFold_0 : okB mX9_mayFold 0 bX9_mayFold_0 = true := by decide +kernel
def bX9_mayFold_9 : List Instr := [.iload 6, .bipush 36, .if_icmp .ge 43]
theorem kX9_mayFold_9 : okB mX9_mayFold 9 bX9_mayFold_9 = true := by decide +kernel
def bX9_mayFold_16 : List Instr := [.aload_n 0, .iload 6]
theorem kX9_mayFold_16 : okB mX9_mayFold 16 bX9_mayFold_16 = true := by decide +kernel
def bX9_mayFold_22 : List Instr := [.ifCond .eq 28]
theorem kX9_mayFold_22 : okB mX9_mayFold 22 bX9_mayFold_22 = true := by decide +kernel
def bX9_mayFold_25 : List Instr := [.iinc 5 1, .iload 4, .aload_n 0, .iload 6, .iload_n 1, .iload_n 2, .iload_n 3]
theorem kX9_mayFold_25 : okB mX9_mayFold 25 bX9_mayFold_25 = true := by decide +kernel
def bX9_mayFold_39 : List Instr := [.ifCond .eq 7]
theorem kX9_mayFold_39 : okB mX9_mayFold 39 bX9_mayFold_39 = true := by decide +kernel
def bX9_mayFold_42 : List Instr := [.iconst 1, .goto 4]
theorem kX9_mayFold_42 : okB mX9_mayFold 42 bX9_mayFold_42 = true := by decide +kernel
def bX9_mayFold_46 : List Instr := [.iconst 0]
theorem kX9_mayFold_46 : okB mX9_mayFold 46 bX9_mayFold_46 = true := by decide +kernel
def bX9_mayFold_47 : List Instr := [.iadd, .istore 4]
theorem kX9_mayFold_47 : okB mX9_mayFold 47 bX9_mayFold_47 = true := by decide +kernel
def bX9_mayFold_50 : List Instr := [.iinc 6 1, .goto (-44)]
theorem kX9_mayFold_50 : okB mX9_mayFold 50 bX9_mayFold_50 = true := by decide +kernel
def bX9_mayFold_56 : List Instr := [.iload 4, .ifCond .le 14]
theorem kX9_mayFold_56 : okB mX9_mayFold 56 bX9_mayFold_56 = true := by decide +kernel
def bX9_mayFold_61 : List Instr := [.iload 4, .iload 5, .if_icmp .ge 7]
theorem kX9_mayFold_61 : okB mX9_mayFold 61 bX9_mayFold_61 = true := by decide +kernel
def bX9_mayFold_68 : List Instr := [.iconst 1, .goto 4]
theorem kX9_mayFold_68 : okB mX9_mayFold 68 bX9_mayFold_68 = true := by decide +kernel
def bX9_mayFold_72 : List Instr := [.iconst 0]
theorem kX9_mayFold_72 : okB mX9_mayFold 72 bX9_mayFold_72 = true := by decide +kernel
def bX9_mayFold_73 : List Instr := [.ireturn]
theorem kX9_mayFold_73 : okB mX9_mayFold 73 bX9_mayFold_73 = true := by decide +kernel
theorem dX9_mayFold_19 : decode mX9_mayFold.2.2.1 19 = .ok (.invokevirtual 69, 3) := by decide +kernel
theorem dX9_mayFold_36 : decode mX9_mayFold.2.2.1 36 = .ok (.invokevirtual 73, 3) := by decide +kernel
def bX9_turnsOver_0 : List Instr := [.iconst 0, .istore 4, .iconst 0, .istore 5]
theorem kX9_turnsOver_0 : okB mX9_turnsOver 0 bX9_turnsOver_0 = true := by decide +kernel
def bX9_turnsOver_6 : List Instr := [.iload 5, .bipush 36, .if_icmp .ge 44]
theorem kX9_turnsOver_6 : okB mX9_turnsOver 6 bX9_turnsOver_6 = true := by decide +kernel
def bX9_turnsOver_13 : List Instr := [.aload_n 0, .iload 5]
theorem kX9_turnsOver_13 : okB mX9_turnsOver 13 bX9_turnsOver_13 = true := by decide +kernel
def bX9_turnsOver_19 : List Instr := [.ifCond .eq 25]
theorem kX9_turnsOver_19 : okB mX9_turnsOver 19 bX9_turnsOver_19 = true := by decide +kernel
def bX9_turnsOver_22 : List Instr := [.aload_n 0, .getfield 29, .iload 5, .iaload, .iload 4, .if_icmp .le 13]
theorem kX9_turnsOver_22 : okB mX9_turnsOver 22 bX9_turnsOver_22 = true := by decide +kernel
def bX9_turnsOver_34 : List Instr := [.aload_n 0, .getfield 29, .iload 5, .iaload, .goto 5]
theorem kX9_turnsOver_34 : okB mX9_turnsOver 34 bX9_turnsOver_34 = true := by decide +kernel
def bX9_turnsOver_44 : List Instr := [.iload 4]
theorem kX9_turnsOver_44 : okB mX9_turnsOver 44 bX9_turnsOver_44 = true := by decide +kernel
def bX9_turnsOver_46 : List Instr := [.istore 4, .iinc 5 1, .goto (-45)]
theorem kX9_turnsOver_46 : okB mX9_turnsOver 46 bX9_turnsOver_46 = true := by decide +kernel
def bX9_turnsOver_54 : List Instr := [.iconst 0, .istore 5]
theorem kX9_turnsOver_54 : okB mX9_turnsOver 54 bX9_turnsOver_54 = true := by decide +kernel
def bX9_turnsOver_57 : List Instr := [.iload 5, .bipush 36, .if_icmp .ge 120]
theorem kX9_turnsOver_57 : okB mX9_turnsOver 57 bX9_turnsOver_57 = true := by decide +kernel
def bX9_turnsOver_64 : List Instr := [.aload_n 0, .iload 5]
theorem kX9_turnsOver_64 : okB mX9_turnsOver 64 bX9_turnsOver_64 = true := by decide +kernel
def bX9_turnsOver_70 : List Instr := [.ifCond .eq 105]
theorem kX9_turnsOver_70 : okB mX9_turnsOver 70 bX9_turnsOver_70 = true := by decide +kernel
def bX9_turnsOver_73 : List Instr := [.aload_n 0, .iload 5, .iload_n 1, .iload_n 2, .iload_n 3]
theorem kX9_turnsOver_73 : okB mX9_turnsOver 73 bX9_turnsOver_73 = true := by decide +kernel
def bX9_turnsOver_82 : List Instr := [.ifCond .eq 93]
theorem kX9_turnsOver_82 : okB mX9_turnsOver 82 bX9_turnsOver_82 = true := by decide +kernel
def bX9_turnsOver_85 : List Instr := [.iload_n 1, .ifCond .ne 26]
theorem kX9_turnsOver_85 : okB mX9_turnsOver 85 bX9_turnsOver_85 = true := by decide +kernel
def bX9_turnsOver_89 : List Instr := [.aload_n 0, .getfield 23, .iload 5, .iconst 2, .iload_n 2, .imul, .iconst 1, .isub, .aload_n 0, .getfield 23, .iload 5, .iaload, .isub, .iastore, .goto 23]
theorem kX9_turnsOver_89 : okB mX9_turnsOver 89 bX9_turnsOver_89 = true := by decide +kernel
def bX9_turnsOver_112 : List Instr := [.aload_n 0, .getfield 26, .iload 5, .iconst 2, .iload_n 2, .imul, .iconst 1, .isub, .aload_n 0, .getfield 26, .iload 5, .iaload, .isub, .iastore]
theorem kX9_turnsOver_112 : okB mX9_turnsOver 112 bX9_turnsOver_112 = true := by decide +kernel
def bX9_turnsOver_132 : List Instr := [.aload_n 0, .getfield 29, .iload 5, .iconst 2, .iload 4, .imul, .iconst 1, .iadd, .aload_n 0, .getfield 29, .iload 5, .iaload, .isub, .iastore, .aload_n 0, .getfield 32, .iload 5, .aload_n 0, .getfield 32, .iload 5, .baload, .ifCond .ne 7]
theorem kX9_turnsOver_132 : okB mX9_turnsOver 132 bX9_turnsOver_132 = true := by decide +kernel
def bX9_turnsOver_169 : List Instr := [.iconst 1, .goto 4]
theorem kX9_turnsOver_169 : okB mX9_turnsOver 169 bX9_turnsOver_169 = true := by decide +kernel
def bX9_turnsOver_173 : List Instr := [.iconst 0]
theorem kX9_turnsOver_173 : okB mX9_turnsOver 173 bX9_turnsOver_173 = true := by decide +kernel
def bX9_turnsOver_174 : List Instr := [.bastore]
theorem kX9_turnsOver_174 : okB mX9_turnsOver 174 bX9_turnsOver_174 = true := by decide +kernel
def bX9_turnsOver_175 : List Instr := [.iinc 5 1, .goto (-121)]
theorem kX9_turnsOver_175 : okB mX9_turnsOver 175 bX9_turnsOver_175 = true := by decide +kernel
def bX9_turnsOver_181 : List Instr := [.return_]
theorem kX9_turnsOver_181 : okB mX9_turnsOver 181 bX9_turnsOver_181 = true := by decide +kernel
theorem dX9_turnsOver_16 : decode mX9_turnsOver.2.2.1 16 = .ok (.invokevirtual 69, 3) := by decide +kernel
theorem dX9_turnsOver_67 : decode mX9_turnsOver.2.2.1 67 = .ok (.invokevirtual 69, 3) := by decide +kernel
theorem dX9_turnsOver_79 : decode mX9_turnsOver.2.2.1 79 = .ok (.invokevirtual 73, 3) := by decide +kernel
def bX9_lays_0 : List Instr := [.aload_n 0]
theorem kX9_lays_0 : okB mX9_lays 0 bX9_lays_0 = true := by decide +kernel
def bX9_lays_4 : List Instr := [.iconst 0, .istore_n 1]
theorem kX9_lays_4 : okB mX9_lays 4 bX9_lays_4 = true := by decide +kernel
def bX9_lays_6 : List Instr := [.iload_n 1, .aload_n 0, .getfield 7, .bipush 16, .iaload, .if_icmp .ge 50]
theorem kX9_lays_6 : okB mX9_lays 6 bX9_lays_6 = true := by decide +kernel
def bX9_lays_17 : List Instr := [.aload_n 0, .aload_n 0, .getfield 7, .bipush 17, .iconst 3, .iload_n 1, .imul, .iadd, .iaload, .aload_n 0, .getfield 7, .bipush 17, .iconst 3, .iload_n 1, .imul, .iadd, .iconst 1, .iadd, .iaload, .aload_n 0, .getfield 7, .bipush 17, .iconst 3, .iload_n 1, .imul, .iadd, .iconst 2, .iadd, .iaload]
theorem kX9_lays_17 : okB mX9_lays 17 bX9_lays_17 = true := by decide +kernel
def bX9_lays_58 : List Instr := [.iinc 1 1, .goto (-55)]
theorem kX9_lays_58 : okB mX9_lays 58 bX9_lays_58 = true := by decide +kernel
def bX9_lays_64 : List Instr := [.return_]
theorem kX9_lays_64 : okB mX9_lays 64 bX9_lays_64 = true := by decide +kernel
theorem dX9_lays_1 : decode mX9_lays.2.2.1 1 = .ok (.invokevirtual 77, 3) := by decide +kernel
theorem dX9_lays_55 : decode mX9_lays.2.2.1 55 = .ok (.invokevirtual 80, 3) := by decide +kernel
def bX9_end_0 : List Instr := [.iconst 0, .istore_n 3, .iconst 0, .istore 4, .iconst 0, .istore 5]
theorem kX9_end_0 : okB mX9_end 0 bX9_end_0 = true := by decide +kernel
def bX9_end_8 : List Instr := [.iload 5, .bipush 36, .if_icmp .ge 71]
theorem kX9_end_8 : okB mX9_end 8 bX9_end_8 = true := by decide +kernel
def bX9_end_15 : List Instr := [.iload_n 1, .ifCond .ne 13]
theorem kX9_end_15 : okB mX9_end 15 bX9_end_15 = true := by decide +kernel
def bX9_end_19 : List Instr := [.aload_n 0, .getfield 23, .iload 5, .iaload, .goto 10]
theorem kX9_end_19 : okB mX9_end 19 bX9_end_19 = true := by decide +kernel
def bX9_end_29 : List Instr := [.aload_n 0, .getfield 26, .iload 5, .iaload]
theorem kX9_end_29 : okB mX9_end 29 bX9_end_29 = true := by decide +kernel
def bX9_end_36 : List Instr := [.istore 6, .aload_n 0, .iload 5]
theorem kX9_end_36 : okB mX9_end 36 bX9_end_36 = true := by decide +kernel
def bX9_end_44 : List Instr := [.ifCond .eq 33]
theorem kX9_end_44 : okB mX9_end 44 bX9_end_44 = true := by decide +kernel
def bX9_end_47 : List Instr := [.iload 4, .ifCond .eq 22]
theorem kX9_end_47 : okB mX9_end 47 bX9_end_47 = true := by decide +kernel
def bX9_end_52 : List Instr := [.iload_n 2, .ifCond .eq 12]
theorem kX9_end_52 : okB mX9_end 52 bX9_end_52 = true := by decide +kernel
def bX9_end_56 : List Instr := [.iload 6, .iload_n 3, .if_icmp .le 18]
theorem kX9_end_56 : okB mX9_end 56 bX9_end_56 = true := by decide +kernel
def bX9_end_62 : List Instr := [.goto 9]
theorem kX9_end_62 : okB mX9_end 62 bX9_end_62 = true := by decide +kernel
def bX9_end_65 : List Instr := [.iload 6, .iload_n 3, .if_icmp .ge 9]
theorem kX9_end_65 : okB mX9_end 65 bX9_end_65 = true := by decide +kernel
def bX9_end_71 : List Instr := [.iload 6, .istore_n 3, .iconst 1, .istore 4]
theorem kX9_end_71 : okB mX9_end 71 bX9_end_71 = true := by decide +kernel
def bX9_end_77 : List Instr := [.iinc 5 1, .goto (-72)]
theorem kX9_end_77 : okB mX9_end 77 bX9_end_77 = true := by decide +kernel
def bX9_end_83 : List Instr := [.iload_n 3, .ireturn]
theorem kX9_end_83 : okB mX9_end 83 bX9_end_83 = true := by decide +kernel
theorem dX9_end_41 : decode mX9_end.2.2.1 41 = .ok (.invokevirtual 69, 3) := by decide +kernel
def bX9_many_0 : List Instr := [.iconst 0, .istore_n 1, .iconst 0, .istore_n 2]
theorem kX9_many_0 : okB mX9_many 0 bX9_many_0 = true := by decide +kernel
def bX9_many_4 : List Instr := [.iload_n 2, .bipush 36, .if_icmp .ge 25]
theorem kX9_many_4 : okB mX9_many 4 bX9_many_4 = true := by decide +kernel
def bX9_many_10 : List Instr := [.iload_n 1, .aload_n 0, .iload_n 2]
theorem kX9_many_10 : okB mX9_many 10 bX9_many_10 = true := by decide +kernel
def bX9_many_16 : List Instr := [.ifCond .eq 7]
theorem kX9_many_16 : okB mX9_many 16 bX9_many_16 = true := by decide +kernel
def bX9_many_19 : List Instr := [.iconst 1, .goto 4]
theorem kX9_many_19 : okB mX9_many 19 bX9_many_19 = true := by decide +kernel
def bX9_many_23 : List Instr := [.iconst 0]
theorem kX9_many_23 : okB mX9_many 23 bX9_many_23 = true := by decide +kernel
def bX9_many_24 : List Instr := [.iadd, .istore_n 1, .iinc 2 1, .goto (-25)]
theorem kX9_many_24 : okB mX9_many 24 bX9_many_24 = true := by decide +kernel
def bX9_many_32 : List Instr := [.iload_n 1, .ireturn]
theorem kX9_many_32 : okB mX9_many 32 bX9_many_32 = true := by decide +kernel
theorem dX9_many_13 : decode mX9_many.2.2.1 13 = .ok (.invokevirtual 69, 3) := by decide +kernel
def bX9_board_0 : List Instr := [.iload_n 1, .i2l, .ldc2_w 84, .ldc2_w 86]
theorem kX9_board_0 : okB mX9_board 0 bX9_board_0 = true := by decide +kernel
def bX9_board_11 : List Instr := [.ifCond .eq 17]
theorem kX9_board_11 : okB mX9_board 11 bX9_board_11 = true := by decide +kernel
def bX9_board_14 : List Instr := [.iload_n 2, .i2l, .ldc2_w 84, .ldc2_w 86]
theorem kX9_board_14 : okB mX9_board 14 bX9_board_14 = true := by decide +kernel
def bX9_board_25 : List Instr := [.ifCond .ne 8]
theorem kX9_board_25 : okB mX9_board 25 bX9_board_25 = true := by decide +kernel
def bX9_board_28 : List Instr := [.aload_n 0]
theorem kX9_board_28 : okB mX9_board 28 bX9_board_28 = true := by decide +kernel
def bX9_board_32 : List Instr := [.ireturn]
theorem kX9_board_32 : okB mX9_board 32 bX9_board_32 = true := by decide +kernel
def bX9_board_33 : List Instr := [.aload_n 0, .getfield 7, .iconst 0, .iload_n 1, .iastore, .aload_n 0, .getfield 7, .iconst 1, .iload_n 2, .iastore, .aload_n 0, .getfield 7, .iconst 2, .iconst 0, .iastore, .aload_n 0, .getfield 7, .bipush 6, .iconst 0, .iastore, .aload_n 0, .getfield 7, .bipush 16, .iconst 0, .iastore, .aload_n 0, .getfield 7, .bipush 26, .iconst 0, .iastore, .aload_n 0, .getfield 7, .bipush 27, .iconst 0, .iastore, .iconst 0, .istore_n 3]
theorem kX9_board_33 : okB mX9_board 33 bX9_board_33 = true := by decide +kernel
def bX9_board_88 : List Instr := [.iload_n 3, .bipush 36, .if_icmp .ge 19]
theorem kX9_board_88 : okB mX9_board 88 bX9_board_88 = true := by decide +kernel
def bX9_board_94 : List Instr := [.aload_n 0, .getfield 7, .bipush 52, .iload_n 3, .iadd, .iconst 0, .iastore, .iinc 3 1, .goto (-19)]
theorem kX9_board_94 : okB mX9_board 94 bX9_board_94 = true := by decide +kernel
def bX9_board_110 : List Instr := [.iload_n 1, .iload_n 2, .imul, .ireturn]
theorem kX9_board_110 : okB mX9_board 110 bX9_board_110 = true := by decide +kernel
theorem dX9_board_8 : decode mX9_board.2.2.1 8 = .ok (.invokestatic 65, 3) := by decide +kernel
theorem dX9_board_22 : decode mX9_board.2.2.1 22 = .ok (.invokestatic 65, 3) := by decide +kernel
theorem dX9_board_29 : decode mX9_board.2.2.1 29 = .ok (.invokevirtual 88, 3) := by decide +kernel
def bX9_isManOn_0 : List Instr := [.iconst 0, .istore_n 2, .iconst 0, .istore_n 3]
theorem kX9_isManOn_0 : okB mX9_isManOn 0 bX9_isManOn_0 = true := by decide +kernel
def bX9_isManOn_4 : List Instr := [.iload_n 3, .aload_n 0, .getfield 7, .iconst 2, .iaload, .if_icmp .ge 32]
theorem kX9_isManOn_4 : okB mX9_isManOn 4 bX9_isManOn_4 = true := by decide +kernel
def bX9_isManOn_14 : List Instr := [.iload_n 2, .ifCond .ne 16]
theorem kX9_isManOn_14 : okB mX9_isManOn 14 bX9_isManOn_14 = true := by decide +kernel
def bX9_isManOn_18 : List Instr := [.aload_n 0, .getfield 7, .bipush 8, .iload_n 3, .iadd, .iaload, .iload_n 1, .if_icmp .ne 7]
theorem kX9_isManOn_18 : okB mX9_isManOn 18 bX9_isManOn_18 = true := by decide +kernel
def bX9_isManOn_31 : List Instr := [.iconst 1, .goto 4]
theorem kX9_isManOn_31 : okB mX9_isManOn 31 bX9_isManOn_31 = true := by decide +kernel
def bX9_isManOn_35 : List Instr := [.iconst 0]
theorem kX9_isManOn_35 : okB mX9_isManOn 35 bX9_isManOn_35 = true := by decide +kernel
def bX9_isManOn_36 : List Instr := [.istore_n 2, .iinc 3 1, .goto (-36)]
theorem kX9_isManOn_36 : okB mX9_isManOn 36 bX9_isManOn_36 = true := by decide +kernel
def bX9_isManOn_43 : List Instr := [.iload_n 2, .ireturn]
theorem kX9_isManOn_43 : okB mX9_isManOn 43 bX9_isManOn_43 = true := by decide +kernel
def bX9_hole_0 : List Instr := [.iload_n 1, .i2l, .lconst 0, .ldc2_w 63]
theorem kX9_hole_0 : okB mX9_hole 0 bX9_hole_0 = true := by decide +kernel
def bX9_hole_9 : List Instr := [.ifCond .eq 29]
theorem kX9_hole_9 : okB mX9_hole 9 bX9_hole_9 = true := by decide +kernel
def bX9_hole_12 : List Instr := [.iload_n 1, .bipush 6, .irem, .aload_n 0, .getfield 7, .iconst 0, .iaload, .if_icmp .ge 16]
theorem kX9_hole_12 : okB mX9_hole 12 bX9_hole_12 = true := by decide +kernel
def bX9_hole_25 : List Instr := [.iload_n 1, .bipush 6, .idiv, .aload_n 0, .getfield 7, .iconst 1, .iaload, .if_icmp .lt 8]
theorem kX9_hole_25 : okB mX9_hole 25 bX9_hole_25 = true := by decide +kernel
def bX9_hole_38 : List Instr := [.aload_n 0]
theorem kX9_hole_38 : okB mX9_hole 38 bX9_hole_38 = true := by decide +kernel
def bX9_hole_42 : List Instr := [.ireturn]
theorem kX9_hole_42 : okB mX9_hole 42 bX9_hole_42 = true := by decide +kernel
def bX9_hole_43 : List Instr := [.aload_n 0, .getfield 7, .bipush 52, .iload_n 1, .iadd, .iaload, .iconst 1, .if_icmp .eq 31]
theorem kX9_hole_43 : okB mX9_hole 43 bX9_hole_43 = true := by decide +kernel
def bX9_hole_56 : List Instr := [.aload_n 0, .iload_n 1]
theorem kX9_hole_56 : okB mX9_hole 56 bX9_hole_56 = true := by decide +kernel
def bX9_hole_61 : List Instr := [.ifCond .ne 23]
theorem kX9_hole_61 : okB mX9_hole 61 bX9_hole_61 = true := by decide +kernel
def bX9_hole_64 : List Instr := [.aload_n 0, .getfield 7, .bipush 16, .iaload, .ifCond .gt 13]
theorem kX9_hole_64 : okB mX9_hole 64 bX9_hole_64 = true := by decide +kernel
def bX9_hole_74 : List Instr := [.aload_n 0, .getfield 7, .bipush 27, .iaload, .ifCond .le 8]
theorem kX9_hole_74 : okB mX9_hole 74 bX9_hole_74 = true := by decide +kernel
def bX9_hole_84 : List Instr := [.aload_n 0]
theorem kX9_hole_84 : okB mX9_hole 84 bX9_hole_84 = true := by decide +kernel
def bX9_hole_88 : List Instr := [.ireturn]
theorem kX9_hole_88 : okB mX9_hole 88 bX9_hole_88 = true := by decide +kernel
def bX9_hole_89 : List Instr := [.aload_n 0, .getfield 7, .bipush 52, .iload_n 1, .iadd, .iconst 1, .iastore, .aload_n 0, .getfield 7, .bipush 6, .iconst 0, .iastore, .iconst 1, .ireturn]
theorem kX9_hole_89 : okB mX9_hole 89 bX9_hole_89 = true := by decide +kernel
theorem dX9_hole_6 : decode mX9_hole.2.2.1 6 = .ok (.invokestatic 65, 3) := by decide +kernel
theorem dX9_hole_39 : decode mX9_hole.2.2.1 39 = .ok (.invokevirtual 88, 3) := by decide +kernel
theorem dX9_hole_58 : decode mX9_hole.2.2.1 58 = .ok (.invokevirtual 92, 3) := by decide +kernel
theorem dX9_hole_85 : decode mX9_hole.2.2.1 85 = .ok (.invokevirtual 95, 3) := by decide +kernel
def bX9_man_0 : List Instr := [.iload_n 1, .i2l, .lconst 0, .ldc2_w 98]
theorem kX9_man_0 : okB mX9_man 0 bX9_man_0 = true := by decide +kernel
def bX9_man_9 : List Instr := [.ifCond .eq 43]
theorem kX9_man_9 : okB mX9_man 9 bX9_man_9 = true := by decide +kernel
def bX9_man_12 : List Instr := [.iload_n 2, .i2l, .lconst 0, .lconst 1]
theorem kX9_man_12 : okB mX9_man 12 bX9_man_12 = true := by decide +kernel
def bX9_man_19 : List Instr := [.ifCond .eq 33]
theorem kX9_man_19 : okB mX9_man 19 bX9_man_19 = true := by decide +kernel
def bX9_man_22 : List Instr := [.iload_n 3, .i2l, .lconst 1, .ldc2_w 100]
theorem kX9_man_22 : okB mX9_man 22 bX9_man_22 = true := by decide +kernel
def bX9_man_31 : List Instr := [.ifCond .eq 21]
theorem kX9_man_31 : okB mX9_man 31 bX9_man_31 = true := by decide +kernel
def bX9_man_34 : List Instr := [.aload_n 0, .iload 4]
theorem kX9_man_34 : okB mX9_man 34 bX9_man_34 = true := by decide +kernel
def bX9_man_40 : List Instr := [.ifCond .eq 12]
theorem kX9_man_40 : okB mX9_man 40 bX9_man_40 = true := by decide +kernel
def bX9_man_43 : List Instr := [.aload_n 0, .iload 4]
theorem kX9_man_43 : okB mX9_man 43 bX9_man_43 = true := by decide +kernel
def bX9_man_49 : List Instr := [.ifCond .eq 8]
theorem kX9_man_49 : okB mX9_man 49 bX9_man_49 = true := by decide +kernel
def bX9_man_52 : List Instr := [.aload_n 0]
theorem kX9_man_52 : okB mX9_man 52 bX9_man_52 = true := by decide +kernel
def bX9_man_56 : List Instr := [.ireturn]
theorem kX9_man_56 : okB mX9_man 56 bX9_man_56 = true := by decide +kernel
def bX9_man_57 : List Instr := [.aload_n 0, .getfield 7, .iconst 2, .iaload, .bipush 8, .if_icmp .ne 8]
theorem kX9_man_57 : okB mX9_man 57 bX9_man_57 = true := by decide +kernel
def bX9_man_68 : List Instr := [.aload_n 0]
theorem kX9_man_68 : okB mX9_man 68 bX9_man_68 = true := by decide +kernel
def bX9_man_72 : List Instr := [.ireturn]
theorem kX9_man_72 : okB mX9_man 72 bX9_man_72 = true := by decide +kernel
def bX9_man_73 : List Instr := [.aload_n 0, .getfield 7, .iconst 2, .iaload, .istore 5, .aload_n 0, .getfield 7, .bipush 28, .iconst 3, .iload 5, .imul, .iadd, .iload_n 1, .iastore, .aload_n 0, .getfield 7, .bipush 28, .iconst 3, .iload 5, .imul, .iadd, .iconst 1, .iadd, .iload_n 2, .iastore, .aload_n 0, .getfield 7, .bipush 28, .iconst 3, .iload 5, .imul, .iadd, .iconst 2, .iadd, .iload_n 3, .iastore, .aload_n 0, .getfield 7, .bipush 8, .iload 5, .iadd, .iload 4, .iastore, .aload_n 0, .getfield 7, .iconst 2, .dup2, .iaload, .iconst 1, .iadd, .iastore, .aload_n 0, .getfield 7, .bipush 6, .iconst 0, .iastore, .iload 5, .ireturn]
theorem kX9_man_73 : okB mX9_man 73 bX9_man_73 = true := by decide +kernel
theorem dX9_man_6 : decode mX9_man.2.2.1 6 = .ok (.invokestatic 65, 3) := by decide +kernel
theorem dX9_man_16 : decode mX9_man.2.2.1 16 = .ok (.invokestatic 65, 3) := by decide +kernel
theorem dX9_man_28 : decode mX9_man.2.2.1 28 = .ok (.invokestatic 65, 3) := by decide +kernel
theorem dX9_man_37 : decode mX9_man.2.2.1 37 = .ok (.invokevirtual 69, 3) := by decide +kernel
theorem dX9_man_46 : decode mX9_man.2.2.1 46 = .ok (.invokevirtual 92, 3) := by decide +kernel
theorem dX9_man_53 : decode mX9_man.2.2.1 53 = .ok (.invokevirtual 88, 3) := by decide +kernel
theorem dX9_man_69 : decode mX9_man.2.2.1 69 = .ok (.invokevirtual 102, 3) := by decide +kernel
def bX9_put_0 : List Instr := [.iload_n 1, .i2l, .lconst 0, .lconst 1]
theorem kX9_put_0 : okB mX9_put 0 bX9_put_0 = true := by decide +kernel
def bX9_put_7 : List Instr := [.ifCond .eq 25]
theorem kX9_put_7 : okB mX9_put 7 bX9_put_7 = true := by decide +kernel
def bX9_put_10 : List Instr := [.iload_n 2, .i2l, .lconst 1, .iload_n 1, .ifCond .ne 9]
theorem kX9_put_10 : okB mX9_put 10 bX9_put_10 = true := by decide +kernel
def bX9_put_17 : List Instr := [.ldc2_w 100, .goto 6]
theorem kX9_put_17 : okB mX9_put 17 bX9_put_17 = true := by decide +kernel
def bX9_put_23 : List Instr := [.ldc2_w 105]
theorem kX9_put_23 : okB mX9_put 23 bX9_put_23 = true := by decide +kernel
def bX9_put_29 : List Instr := [.ifCond .ne 8]
theorem kX9_put_29 : okB mX9_put 29 bX9_put_29 = true := by decide +kernel
def bX9_put_32 : List Instr := [.aload_n 0]
theorem kX9_put_32 : okB mX9_put 32 bX9_put_32 = true := by decide +kernel
def bX9_put_36 : List Instr := [.ireturn]
theorem kX9_put_36 : okB mX9_put 36 bX9_put_36 = true := by decide +kernel
def bX9_put_37 : List Instr := [.aload_n 0, .getfield 7, .iconst 4, .iload_n 1, .iadd, .iaload, .istore_n 3, .aload_n 0, .getfield 7, .iconst 4, .iload_n 1, .iadd, .iload_n 2, .iastore, .aload_n 0, .getfield 7, .bipush 6, .iconst 0, .iastore, .iload_n 3, .ireturn]
theorem kX9_put_37 : okB mX9_put 37 bX9_put_37 = true := by decide +kernel
theorem dX9_put_4 : decode mX9_put.2.2.1 4 = .ok (.invokestatic 65, 3) := by decide +kernel
theorem dX9_put_26 : decode mX9_put.2.2.1 26 = .ok (.invokestatic 65, 3) := by decide +kernel
theorem dX9_put_33 : decode mX9_put.2.2.1 33 = .ok (.invokevirtual 88, 3) := by decide +kernel
def bX9_cell_0 : List Instr := [.aload_n 0, .iload_n 1]
theorem kX9_cell_0 : okB mX9_cell 0 bX9_cell_0 = true := by decide +kernel
def bX9_cell_5 : List Instr := [.ifCond .eq 15]
theorem kX9_cell_5 : okB mX9_cell 5 bX9_cell_5 = true := by decide +kernel
def bX9_cell_8 : List Instr := [.iload_n 2, .i2l, .lconst 0, .ldc2_w 105]
theorem kX9_cell_8 : okB mX9_cell 8 bX9_cell_8 = true := by decide +kernel
def bX9_cell_17 : List Instr := [.ifCond .ne 12]
theorem kX9_cell_17 : okB mX9_cell 17 bX9_cell_17 = true := by decide +kernel
def bX9_cell_20 : List Instr := [.aload_n 0, .iconst 0, .sipush (-1000)]
theorem kX9_cell_20 : okB mX9_cell 20 bX9_cell_20 = true := by decide +kernel
def bX9_cell_28 : List Instr := [.ireturn]
theorem kX9_cell_28 : okB mX9_cell 28 bX9_cell_28 = true := by decide +kernel
def bX9_cell_29 : List Instr := [.aload_n 0]
theorem kX9_cell_29 : okB mX9_cell 29 bX9_cell_29 = true := by decide +kernel
def bX9_cell_33 : List Instr := [.iload_n 2, .ifCond .ne 12]
theorem kX9_cell_33 : okB mX9_cell 33 bX9_cell_33 = true := by decide +kernel
def bX9_cell_37 : List Instr := [.aload_n 0, .getfield 23, .iload_n 1, .iaload, .goto 45]
theorem kX9_cell_37 : okB mX9_cell 37 bX9_cell_37 = true := by decide +kernel
def bX9_cell_46 : List Instr := [.iload_n 2, .iconst 1, .if_icmp .ne 12]
theorem kX9_cell_46 : okB mX9_cell 46 bX9_cell_46 = true := by decide +kernel
def bX9_cell_51 : List Instr := [.aload_n 0, .getfield 26, .iload_n 1, .iaload, .goto 31]
theorem kX9_cell_51 : okB mX9_cell 51 bX9_cell_51 = true := by decide +kernel
def bX9_cell_60 : List Instr := [.iload_n 2, .iconst 2, .if_icmp .ne 12]
theorem kX9_cell_60 : okB mX9_cell 60 bX9_cell_60 = true := by decide +kernel
def bX9_cell_65 : List Instr := [.aload_n 0, .getfield 29, .iload_n 1, .iaload, .goto 17]
theorem kX9_cell_65 : okB mX9_cell 65 bX9_cell_65 = true := by decide +kernel
def bX9_cell_74 : List Instr := [.aload_n 0, .getfield 32, .iload_n 1, .baload, .ifCond .eq 7]
theorem kX9_cell_74 : okB mX9_cell 74 bX9_cell_74 = true := by decide +kernel
def bX9_cell_83 : List Instr := [.iconst 1, .goto 4]
theorem kX9_cell_83 : okB mX9_cell 83 bX9_cell_83 = true := by decide +kernel
def bX9_cell_87 : List Instr := [.iconst 0]
theorem kX9_cell_87 : okB mX9_cell 87 bX9_cell_87 = true := by decide +kernel
def bX9_cell_88 : List Instr := [.ireturn]
theorem kX9_cell_88 : okB mX9_cell 88 bX9_cell_88 = true := by decide +kernel
theorem dX9_cell_2 : decode mX9_cell.2.2.1 2 = .ok (.invokevirtual 69, 3) := by decide +kernel
theorem dX9_cell_14 : decode mX9_cell.2.2.1 14 = .ok (.invokestatic 65, 3) := by decide +kernel
theorem dX9_cell_25 : decode mX9_cell.2.2.1 25 = .ok (.invokevirtual 59, 3) := by decide +kernel
theorem dX9_cell_30 : decode mX9_cell.2.2.1 30 = .ok (.invokevirtual 107, 3) := by decide +kernel
def bX9_isAt_0 : List Instr := [.aload_n 0, .iload_n 1]
theorem kX9_isAt_0 : okB mX9_isAt 0 bX9_isAt_0 = true := by decide +kernel
def bX9_isAt_5 : List Instr := [.ifCond .eq 27]
theorem kX9_isAt_5 : okB mX9_isAt 5 bX9_isAt_5 = true := by decide +kernel
def bX9_isAt_8 : List Instr := [.aload_n 0, .getfield 23, .iload_n 1, .iaload, .iload_n 2, .if_icmp .ne 17]
theorem kX9_isAt_8 : okB mX9_isAt 8 bX9_isAt_8 = true := by decide +kernel
def bX9_isAt_18 : List Instr := [.aload_n 0, .getfield 26, .iload_n 1, .iaload, .iload_n 3, .if_icmp .ne 7]
theorem kX9_isAt_18 : okB mX9_isAt 18 bX9_isAt_18 = true := by decide +kernel
def bX9_isAt_28 : List Instr := [.iconst 1, .goto 4]
theorem kX9_isAt_28 : okB mX9_isAt 28 bX9_isAt_28 = true := by decide +kernel
def bX9_isAt_32 : List Instr := [.iconst 0]
theorem kX9_isAt_32 : okB mX9_isAt 32 bX9_isAt_32 = true := by decide +kernel
def bX9_isAt_33 : List Instr := [.ireturn]
theorem kX9_isAt_33 : okB mX9_isAt 33 bX9_isAt_33 = true := by decide +kernel
theorem dX9_isAt_2 : decode mX9_isAt.2.2.1 2 = .ok (.invokevirtual 69, 3) := by decide +kernel
def bX9_pile_0 : List Instr := [.iload_n 3, .iconst (-1), .if_icmp .ge 11]
theorem kX9_pile_0 : okB mX9_pile 0 bX9_pile_0 = true := by decide +kernel
def bX9_pile_5 : List Instr := [.aload_n 0, .iconst 0, .bipush (-10)]
theorem kX9_pile_5 : okB mX9_pile 5 bX9_pile_5 = true := by decide +kernel
def bX9_pile_12 : List Instr := [.ireturn]
theorem kX9_pile_12 : okB mX9_pile 12 bX9_pile_12 = true := by decide +kernel
def bX9_pile_13 : List Instr := [.aload_n 0]
theorem kX9_pile_13 : okB mX9_pile 13 bX9_pile_13 = true := by decide +kernel
def bX9_pile_17 : List Instr := [.iconst 0, .istore 4, .iconst 0, .istore 5]
theorem kX9_pile_17 : okB mX9_pile 17 bX9_pile_17 = true := by decide +kernel
def bX9_pile_23 : List Instr := [.iload 5, .bipush 36, .if_icmp .ge 30]
theorem kX9_pile_23 : okB mX9_pile 23 bX9_pile_23 = true := by decide +kernel
def bX9_pile_30 : List Instr := [.iload 4, .aload_n 0, .iload 5, .iload_n 1, .iload_n 2]
theorem kX9_pile_30 : okB mX9_pile 30 bX9_pile_30 = true := by decide +kernel
def bX9_pile_40 : List Instr := [.ifCond .eq 7]
theorem kX9_pile_40 : okB mX9_pile 40 bX9_pile_40 = true := by decide +kernel
def bX9_pile_43 : List Instr := [.iconst 1, .goto 4]
theorem kX9_pile_43 : okB mX9_pile 43 bX9_pile_43 = true := by decide +kernel
def bX9_pile_47 : List Instr := [.iconst 0]
theorem kX9_pile_47 : okB mX9_pile 47 bX9_pile_47 = true := by decide +kernel
def bX9_pile_48 : List Instr := [.iadd, .istore 4, .iinc 5 1, .goto (-31)]
theorem kX9_pile_48 : okB mX9_pile 48 bX9_pile_48 = true := by decide +kernel
def bX9_pile_57 : List Instr := [.iload_n 3, .iconst (-1), .if_icmp .eq 9]
theorem kX9_pile_57 : okB mX9_pile 57 bX9_pile_57 = true := by decide +kernel
def bX9_pile_62 : List Instr := [.iload_n 3, .iload 4, .if_icmp .lt 16]
theorem kX9_pile_62 : okB mX9_pile 62 bX9_pile_62 = true := by decide +kernel
def bX9_pile_68 : List Instr := [.iload_n 3, .iconst (-1), .if_icmp .ne 8]
theorem kX9_pile_68 : okB mX9_pile 68 bX9_pile_68 = true := by decide +kernel
def bX9_pile_73 : List Instr := [.iload 4, .goto 5]
theorem kX9_pile_73 : okB mX9_pile 73 bX9_pile_73 = true := by decide +kernel
def bX9_pile_78 : List Instr := [.bipush (-5)]
theorem kX9_pile_78 : okB mX9_pile 78 bX9_pile_78 = true := by decide +kernel
def bX9_pile_80 : List Instr := [.ireturn]
theorem kX9_pile_80 : okB mX9_pile 80 bX9_pile_80 = true := by decide +kernel
def bX9_pile_81 : List Instr := [.iconst 0, .istore 5]
theorem kX9_pile_81 : okB mX9_pile 81 bX9_pile_81 = true := by decide +kernel
def bX9_pile_84 : List Instr := [.iload 5, .bipush 36, .if_icmp .ge 97]
theorem kX9_pile_84 : okB mX9_pile 84 bX9_pile_84 = true := by decide +kernel
def bX9_pile_91 : List Instr := [.iconst 0, .istore 6, .iconst 0, .istore 7]
theorem kX9_pile_91 : okB mX9_pile 91 bX9_pile_91 = true := by decide +kernel
def bX9_pile_97 : List Instr := [.iload 7, .bipush 36, .if_icmp .ge 58]
theorem kX9_pile_97 : okB mX9_pile 97 bX9_pile_97 = true := by decide +kernel
def bX9_pile_104 : List Instr := [.aload_n 0, .iload 5, .iload_n 1, .iload_n 2]
theorem kX9_pile_104 : okB mX9_pile 104 bX9_pile_104 = true := by decide +kernel
def bX9_pile_112 : List Instr := [.ifCond .eq 47]
theorem kX9_pile_112 : okB mX9_pile 112 bX9_pile_112 = true := by decide +kernel
def bX9_pile_115 : List Instr := [.iload 6, .aload_n 0, .iload 7, .iload_n 1, .iload_n 2]
theorem kX9_pile_115 : okB mX9_pile 115 bX9_pile_115 = true := by decide +kernel
def bX9_pile_125 : List Instr := [.ifCond .eq 24]
theorem kX9_pile_125 : okB mX9_pile 125 bX9_pile_125 = true := by decide +kernel
def bX9_pile_128 : List Instr := [.aload_n 0, .getfield 29, .iload 7, .iaload, .aload_n 0, .getfield 29, .iload 5, .iaload, .if_icmp .ge 7]
theorem kX9_pile_128 : okB mX9_pile 128 bX9_pile_128 = true := by decide +kernel
def bX9_pile_145 : List Instr := [.iconst 1, .goto 4]
theorem kX9_pile_145 : okB mX9_pile 145 bX9_pile_145 = true := by decide +kernel
def bX9_pile_149 : List Instr := [.iconst 0]
theorem kX9_pile_149 : okB mX9_pile 149 bX9_pile_149 = true := by decide +kernel
def bX9_pile_150 : List Instr := [.iadd, .istore 6, .iinc 7 1, .goto (-59)]
theorem kX9_pile_150 : okB mX9_pile 150 bX9_pile_150 = true := by decide +kernel
def bX9_pile_159 : List Instr := [.aload_n 0, .iload 5, .iload_n 1, .iload_n 2]
theorem kX9_pile_159 : okB mX9_pile 159 bX9_pile_159 = true := by decide +kernel
def bX9_pile_167 : List Instr := [.ifCond .eq 12]
theorem kX9_pile_167 : okB mX9_pile 167 bX9_pile_167 = true := by decide +kernel
def bX9_pile_170 : List Instr := [.iload 6, .iload_n 3, .if_icmp .ne 6]
theorem kX9_pile_170 : okB mX9_pile 170 bX9_pile_170 = true := by decide +kernel
def bX9_pile_176 : List Instr := [.iload 5, .ireturn]
theorem kX9_pile_176 : okB mX9_pile 176 bX9_pile_176 = true := by decide +kernel
def bX9_pile_179 : List Instr := [.iinc 5 1, .goto (-98)]
theorem kX9_pile_179 : okB mX9_pile 179 bX9_pile_179 = true := by decide +kernel
def bX9_pile_185 : List Instr := [.bipush (-5), .ireturn]
theorem kX9_pile_185 : okB mX9_pile 185 bX9_pile_185 = true := by decide +kernel
theorem dX9_pile_9 : decode mX9_pile.2.2.1 9 = .ok (.invokevirtual 59, 3) := by decide +kernel
theorem dX9_pile_14 : decode mX9_pile.2.2.1 14 = .ok (.invokevirtual 107, 3) := by decide +kernel
theorem dX9_pile_37 : decode mX9_pile.2.2.1 37 = .ok (.invokevirtual 110, 3) := by decide +kernel
theorem dX9_pile_109 : decode mX9_pile.2.2.1 109 = .ok (.invokevirtual 110, 3) := by decide +kernel
theorem dX9_pile_122 : decode mX9_pile.2.2.1 122 = .ok (.invokevirtual 110, 3) := by decide +kernel
theorem dX9_pile_164 : decode mX9_pile.2.2.1 164 = .ok (.invokevirtual 110, 3) := by decide +kernel
def bX9_isHere_0 : List Instr := [.iload_n 1, .i2l, .lconst 0, .aload_n 0, .getfield 7, .iconst 2, .iaload, .iconst 1, .isub, .i2l]
theorem kX9_isHere_0 : okB mX9_isHere 0 bX9_isHere_0 = true := by decide +kernel
def bX9_isHere_15 : List Instr := [.ifCond .eq 20]
theorem kX9_isHere_15 : okB mX9_isHere 15 bX9_isHere_15 = true := by decide +kernel
def bX9_isHere_18 : List Instr := [.aload_n 0, .getfield 7, .bipush 8, .iload_n 1, .iadd, .iaload, .iconst (-1), .if_icmp .eq 7]
theorem kX9_isHere_18 : okB mX9_isHere 18 bX9_isHere_18 = true := by decide +kernel
def bX9_isHere_31 : List Instr := [.iconst 1, .goto 4]
theorem kX9_isHere_31 : okB mX9_isHere 31 bX9_isHere_31 = true := by decide +kernel
def bX9_isHere_35 : List Instr := [.iconst 0]
theorem kX9_isHere_35 : okB mX9_isHere 35 bX9_isHere_35 = true := by decide +kernel
def bX9_isHere_36 : List Instr := [.ireturn]
theorem kX9_isHere_36 : okB mX9_isHere 36 bX9_isHere_36 = true := by decide +kernel
theorem dX9_isHere_12 : decode mX9_isHere.2.2.1 12 = .ok (.invokestatic 65, 3) := by decide +kernel
def bX9_ownerOf_0 : List Instr := [.aload_n 0, .getfield 7, .bipush 28, .iconst 3, .iload_n 1, .imul, .iadd, .iconst 1, .iadd, .iaload, .ireturn]
theorem kX9_ownerOf_0 : okB mX9_ownerOf 0 bX9_ownerOf_0 = true := by decide +kernel
def bX9_strengthOf_0 : List Instr := [.aload_n 0, .getfield 7, .bipush 28, .iconst 3, .iload_n 1, .imul, .iadd, .iaload, .istore_n 2, .aload_n 0, .getfield 7, .bipush 28, .iconst 3, .iload_n 1, .imul, .iadd, .iconst 2, .iadd, .iaload, .istore_n 3, .aload_n 0, .getfield 32, .aload_n 0, .getfield 7, .bipush 8, .iload_n 1, .iadd, .iaload, .baload, .istore 4, .iload 4, .ifCond .eq 7]
theorem kX9_strengthOf_0 : okB mX9_strengthOf 0 bX9_strengthOf_0 = true := by decide +kernel
def bX9_strengthOf_47 : List Instr := [.iload_n 3, .goto 6]
theorem kX9_strengthOf_47 : okB mX9_strengthOf 47 bX9_strengthOf_47 = true := by decide +kernel
def bX9_strengthOf_51 : List Instr := [.iload_n 3, .iconst 2, .iadd]
theorem kX9_strengthOf_51 : okB mX9_strengthOf 51 bX9_strengthOf_51 = true := by decide +kernel
def bX9_strengthOf_54 : List Instr := [.istore 5, .iload_n 2, .iconst 1, .if_icmp .ne 8]
theorem kX9_strengthOf_54 : okB mX9_strengthOf 54 bX9_strengthOf_54 = true := by decide +kernel
def bX9_strengthOf_61 : List Instr := [.iload 5, .goto 36]
theorem kX9_strengthOf_61 : okB mX9_strengthOf 61 bX9_strengthOf_61 = true := by decide +kernel
def bX9_strengthOf_66 : List Instr := [.iload_n 2, .iconst 2, .if_icmp .ne 18]
theorem kX9_strengthOf_66 : okB mX9_strengthOf 66 bX9_strengthOf_66 = true := by decide +kernel
def bX9_strengthOf_71 : List Instr := [.iload 4, .ifCond .eq 9]
theorem kX9_strengthOf_71 : okB mX9_strengthOf 71 bX9_strengthOf_71 = true := by decide +kernel
def bX9_strengthOf_76 : List Instr := [.iload_n 3, .iconst 3, .iadd, .goto 20]
theorem kX9_strengthOf_76 : okB mX9_strengthOf 76 bX9_strengthOf_76 = true := by decide +kernel
def bX9_strengthOf_82 : List Instr := [.iload_n 3, .goto 16]
theorem kX9_strengthOf_82 : okB mX9_strengthOf 82 bX9_strengthOf_82 = true := by decide +kernel
def bX9_strengthOf_86 : List Instr := [.iload_n 2, .iconst 3, .if_icmp .ne 10]
theorem kX9_strengthOf_86 : okB mX9_strengthOf 86 bX9_strengthOf_86 = true := by decide +kernel
def bX9_strengthOf_91 : List Instr := [.iconst 2, .iload 5, .imul, .goto 4]
theorem kX9_strengthOf_91 : okB mX9_strengthOf 91 bX9_strengthOf_91 = true := by decide +kernel
def bX9_strengthOf_98 : List Instr := [.iload_n 3]
theorem kX9_strengthOf_98 : okB mX9_strengthOf 98 bX9_strengthOf_98 = true := by decide +kernel
def bX9_strengthOf_99 : List Instr := [.ireturn]
theorem kX9_strengthOf_99 : okB mX9_strengthOf 99 bX9_strengthOf_99 = true := by decide +kernel
def bX9_strength_0 : List Instr := [.aload_n 0, .iload_n 1]
theorem kX9_strength_0 : okB mX9_strength 0 bX9_strength_0 = true := by decide +kernel
def bX9_strength_5 : List Instr := [.ifCond .ne 8]
theorem kX9_strength_5 : okB mX9_strength 5 bX9_strength_5 = true := by decide +kernel
def bX9_strength_8 : List Instr := [.aload_n 0]
theorem kX9_strength_8 : okB mX9_strength 8 bX9_strength_8 = true := by decide +kernel
def bX9_strength_12 : List Instr := [.ireturn]
theorem kX9_strength_12 : okB mX9_strength 12 bX9_strength_12 = true := by decide +kernel
def bX9_strength_13 : List Instr := [.aload_n 0]
theorem kX9_strength_13 : okB mX9_strength 13 bX9_strength_13 = true := by decide +kernel
def bX9_strength_17 : List Instr := [.aload_n 0, .iload_n 1]
theorem kX9_strength_17 : okB mX9_strength 17 bX9_strength_17 = true := by decide +kernel
def bX9_strength_22 : List Instr := [.ireturn]
theorem kX9_strength_22 : okB mX9_strength 22 bX9_strength_22 = true := by decide +kernel
theorem dX9_strength_2 : decode mX9_strength.2.2.1 2 = .ok (.invokevirtual 114, 3) := by decide +kernel
theorem dX9_strength_9 : decode mX9_strength.2.2.1 9 = .ok (.invokevirtual 88, 3) := by decide +kernel
theorem dX9_strength_14 : decode mX9_strength.2.2.1 14 = .ok (.invokevirtual 107, 3) := by decide +kernel
theorem dX9_strength_19 : decode mX9_strength.2.2.1 19 = .ok (.invokevirtual 117, 3) := by decide +kernel
def bX9_rulerAt_0 : List Instr := [.iconst (-1), .istore_n 3, .iconst 0, .istore 4]
theorem kX9_rulerAt_0 : okB mX9_rulerAt 0 bX9_rulerAt_0 = true := by decide +kernel
def bX9_rulerAt_5 : List Instr := [.iload 4, .aload_n 0, .getfield 7, .iconst 2, .iaload, .if_icmp .ge 134]
theorem kX9_rulerAt_5 : okB mX9_rulerAt 5 bX9_rulerAt_5 = true := by decide +kernel
def bX9_rulerAt_16 : List Instr := [.aload_n 0, .iload 4]
theorem kX9_rulerAt_16 : okB mX9_rulerAt 16 bX9_rulerAt_16 = true := by decide +kernel
def bX9_rulerAt_22 : List Instr := [.ifCond .eq 119]
theorem kX9_rulerAt_22 : okB mX9_rulerAt 22 bX9_rulerAt_22 = true := by decide +kernel
def bX9_rulerAt_25 : List Instr := [.aload_n 0, .aload_n 0, .getfield 7, .bipush 8, .iload 4, .iadd, .iaload, .iload_n 1, .iload_n 2]
theorem kX9_rulerAt_25 : okB mX9_rulerAt 25 bX9_rulerAt_25 = true := by decide +kernel
def bX9_rulerAt_41 : List Instr := [.ifCond .eq 100]
theorem kX9_rulerAt_41 : okB mX9_rulerAt 41 bX9_rulerAt_41 = true := by decide +kernel
def bX9_rulerAt_44 : List Instr := [.iload_n 3, .iconst (-1), .if_icmp .ne 7]
theorem kX9_rulerAt_44 : okB mX9_rulerAt 44 bX9_rulerAt_44 = true := by decide +kernel
def bX9_rulerAt_49 : List Instr := [.iconst 1, .goto 4]
theorem kX9_rulerAt_49 : okB mX9_rulerAt 49 bX9_rulerAt_49 = true := by decide +kernel
def bX9_rulerAt_53 : List Instr := [.iconst 0]
theorem kX9_rulerAt_53 : okB mX9_rulerAt 53 bX9_rulerAt_53 = true := by decide +kernel
def bX9_rulerAt_54 : List Instr := [.istore 5, .iload 5, .ifCond .ne 71]
theorem kX9_rulerAt_54 : okB mX9_rulerAt 54 bX9_rulerAt_54 = true := by decide +kernel
def bX9_rulerAt_61 : List Instr := [.aload_n 0, .iload 4]
theorem kX9_rulerAt_61 : okB mX9_rulerAt 61 bX9_rulerAt_61 = true := by decide +kernel
def bX9_rulerAt_67 : List Instr := [.istore 6, .aload_n 0, .iload_n 3]
theorem kX9_rulerAt_67 : okB mX9_rulerAt 67 bX9_rulerAt_67 = true := by decide +kernel
def bX9_rulerAt_74 : List Instr := [.istore 7, .iload 6, .iload 7, .if_icmp .gt 42]
theorem kX9_rulerAt_74 : okB mX9_rulerAt 74 bX9_rulerAt_74 = true := by decide +kernel
def bX9_rulerAt_83 : List Instr := [.iload 6, .iload 7, .if_icmp .ne 39]
theorem kX9_rulerAt_83 : okB mX9_rulerAt 83 bX9_rulerAt_83 = true := by decide +kernel
def bX9_rulerAt_90 : List Instr := [.aload_n 0, .getfield 29, .aload_n 0, .getfield 7, .bipush 8, .iload 4, .iadd, .iaload, .iaload, .aload_n 0, .getfield 29, .aload_n 0, .getfield 7, .bipush 8, .iload_n 3, .iadd, .iaload, .iaload, .if_icmp .le 7]
theorem kX9_rulerAt_90 : okB mX9_rulerAt 90 bX9_rulerAt_90 = true := by decide +kernel
def bX9_rulerAt_122 : List Instr := [.iconst 1, .goto 4]
theorem kX9_rulerAt_122 : okB mX9_rulerAt 122 bX9_rulerAt_122 = true := by decide +kernel
def bX9_rulerAt_126 : List Instr := [.iconst 0]
theorem kX9_rulerAt_126 : okB mX9_rulerAt 126 bX9_rulerAt_126 = true := by decide +kernel
def bX9_rulerAt_127 : List Instr := [.istore 5]
theorem kX9_rulerAt_127 : okB mX9_rulerAt 127 bX9_rulerAt_127 = true := by decide +kernel
def bX9_rulerAt_129 : List Instr := [.iload 5, .ifCond .eq 8]
theorem kX9_rulerAt_129 : okB mX9_rulerAt 129 bX9_rulerAt_129 = true := by decide +kernel
def bX9_rulerAt_134 : List Instr := [.iload 4, .goto 4]
theorem kX9_rulerAt_134 : okB mX9_rulerAt 134 bX9_rulerAt_134 = true := by decide +kernel
def bX9_rulerAt_139 : List Instr := [.iload_n 3]
theorem kX9_rulerAt_139 : okB mX9_rulerAt 139 bX9_rulerAt_139 = true := by decide +kernel
def bX9_rulerAt_140 : List Instr := [.istore_n 3]
theorem kX9_rulerAt_140 : okB mX9_rulerAt 140 bX9_rulerAt_140 = true := by decide +kernel
def bX9_rulerAt_141 : List Instr := [.iinc 4 1, .goto (-139)]
theorem kX9_rulerAt_141 : okB mX9_rulerAt 141 bX9_rulerAt_141 = true := by decide +kernel
def bX9_rulerAt_147 : List Instr := [.iload_n 3, .ireturn]
theorem kX9_rulerAt_147 : okB mX9_rulerAt 147 bX9_rulerAt_147 = true := by decide +kernel
theorem dX9_rulerAt_19 : decode mX9_rulerAt.2.2.1 19 = .ok (.invokevirtual 114, 3) := by decide +kernel
theorem dX9_rulerAt_38 : decode mX9_rulerAt.2.2.1 38 = .ok (.invokevirtual 110, 3) := by decide +kernel
theorem dX9_rulerAt_64 : decode mX9_rulerAt.2.2.1 64 = .ok (.invokevirtual 117, 3) := by decide +kernel
theorem dX9_rulerAt_71 : decode mX9_rulerAt.2.2.1 71 = .ok (.invokevirtual 117, 3) := by decide +kernel
def bX9_ruler_0 : List Instr := [.aload_n 0]
theorem kX9_ruler_0 : okB mX9_ruler 0 bX9_ruler_0 = true := by decide +kernel
def bX9_ruler_4 : List Instr := [.aload_n 0, .iload_n 1, .iload_n 2]
theorem kX9_ruler_4 : okB mX9_ruler 4 bX9_ruler_4 = true := by decide +kernel
def bX9_ruler_10 : List Instr := [.ireturn]
theorem kX9_ruler_10 : okB mX9_ruler 10 bX9_ruler_10 = true := by decide +kernel
theorem dX9_ruler_1 : decode mX9_ruler.2.2.1 1 = .ok (.invokevirtual 107, 3) := by decide +kernel
theorem dX9_ruler_7 : decode mX9_ruler.2.2.1 7 = .ok (.invokevirtual 121, 3) := by decide +kernel
def bX9_where_0 : List Instr := [.iload_n 1, .i2l, .lconst 0, .aload_n 0, .getfield 7, .iconst 2, .iaload, .iconst 1, .isub, .i2l]
theorem kX9_where_0 : okB mX9_where 0 bX9_where_0 = true := by decide +kernel
def bX9_where_15 : List Instr := [.ifCond .eq 15]
theorem kX9_where_15 : okB mX9_where 15 bX9_where_15 = true := by decide +kernel
def bX9_where_18 : List Instr := [.aload_n 0, .getfield 7, .bipush 8, .iload_n 1, .iadd, .iaload, .goto 7]
theorem kX9_where_18 : okB mX9_where 18 bX9_where_18 = true := by decide +kernel
def bX9_where_30 : List Instr := [.aload_n 0]
theorem kX9_where_30 : okB mX9_where 30 bX9_where_30 = true := by decide +kernel
def bX9_where_34 : List Instr := [.ireturn]
theorem kX9_where_34 : okB mX9_where 34 bX9_where_34 = true := by decide +kernel
theorem dX9_where_12 : decode mX9_where.2.2.1 12 = .ok (.invokestatic 65, 3) := by decide +kernel
theorem dX9_where_31 : decode mX9_where.2.2.1 31 = .ok (.invokevirtual 88, 3) := by decide +kernel
def bX9_turn_0 : List Instr := [.aload_n 0, .getfield 7, .bipush 26, .iaload, .iconst 2, .irem, .ireturn]
theorem kX9_turn_0 : okB mX9_turn 0 bX9_turn_0 = true := by decide +kernel
def bX9_won_0 : List Instr := [.iconst 0, .istore_n 1, .iconst 0, .istore_n 2, .iconst 0, .istore_n 3, .iconst 0, .istore 4]
theorem kX9_won_0 : okB mX9_won 0 bX9_won_0 = true := by decide +kernel
def bX9_won_9 : List Instr := [.iload 4, .aload_n 0, .getfield 7, .iconst 2, .iaload, .if_icmp .ge 79]
theorem kX9_won_9 : okB mX9_won 9 bX9_won_9 = true := by decide +kernel
def bX9_won_20 : List Instr := [.iload_n 1, .aload_n 0, .iload 4]
theorem kX9_won_20 : okB mX9_won 20 bX9_won_20 = true := by decide +kernel
def bX9_won_27 : List Instr := [.ifCond .eq 16]
theorem kX9_won_27 : okB mX9_won 27 bX9_won_27 = true := by decide +kernel
def bX9_won_30 : List Instr := [.aload_n 0, .iload 4]
theorem kX9_won_30 : okB mX9_won 30 bX9_won_30 = true := by decide +kernel
def bX9_won_36 : List Instr := [.ifCond .ne 7]
theorem kX9_won_36 : okB mX9_won 36 bX9_won_36 = true := by decide +kernel
def bX9_won_39 : List Instr := [.iconst 1, .goto 4]
theorem kX9_won_39 : okB mX9_won 39 bX9_won_39 = true := by decide +kernel
def bX9_won_43 : List Instr := [.iconst 0]
theorem kX9_won_43 : okB mX9_won 43 bX9_won_43 = true := by decide +kernel
def bX9_won_44 : List Instr := [.iadd, .istore_n 1, .iload_n 2, .aload_n 0, .iload 4]
theorem kX9_won_44 : okB mX9_won 44 bX9_won_44 = true := by decide +kernel
def bX9_won_53 : List Instr := [.ifCond .eq 17]
theorem kX9_won_53 : okB mX9_won 53 bX9_won_53 = true := by decide +kernel
def bX9_won_56 : List Instr := [.aload_n 0, .iload 4]
theorem kX9_won_56 : okB mX9_won 56 bX9_won_56 = true := by decide +kernel
def bX9_won_62 : List Instr := [.iconst 1, .if_icmp .ne 7]
theorem kX9_won_62 : okB mX9_won 62 bX9_won_62 = true := by decide +kernel
def bX9_won_66 : List Instr := [.iconst 1, .goto 4]
theorem kX9_won_66 : okB mX9_won 66 bX9_won_66 = true := by decide +kernel
def bX9_won_70 : List Instr := [.iconst 0]
theorem kX9_won_70 : okB mX9_won 70 bX9_won_70 = true := by decide +kernel
def bX9_won_71 : List Instr := [.iadd, .istore_n 2, .iload_n 3, .aload_n 0, .iload 4]
theorem kX9_won_71 : okB mX9_won 71 bX9_won_71 = true := by decide +kernel
def bX9_won_80 : List Instr := [.ifCond .eq 7]
theorem kX9_won_80 : okB mX9_won 80 bX9_won_80 = true := by decide +kernel
def bX9_won_83 : List Instr := [.iconst 0, .goto 4]
theorem kX9_won_83 : okB mX9_won 83 bX9_won_83 = true := by decide +kernel
def bX9_won_87 : List Instr := [.iconst 1]
theorem kX9_won_87 : okB mX9_won 87 bX9_won_87 = true := by decide +kernel
def bX9_won_88 : List Instr := [.iadd, .istore_n 3, .iinc 4 1, .goto (-84)]
theorem kX9_won_88 : okB mX9_won 88 bX9_won_88 = true := by decide +kernel
def bX9_won_96 : List Instr := [.iload_n 3, .ifCond .ne 7]
theorem kX9_won_96 : okB mX9_won 96 bX9_won_96 = true := by decide +kernel
def bX9_won_100 : List Instr := [.iconst (-1), .goto 28]
theorem kX9_won_100 : okB mX9_won 100 bX9_won_100 = true := by decide +kernel
def bX9_won_104 : List Instr := [.iload_n 1, .ifCond .le 11]
theorem kX9_won_104 : okB mX9_won 104 bX9_won_104 = true := by decide +kernel
def bX9_won_108 : List Instr := [.iload_n 2, .ifCond .ne 7]
theorem kX9_won_108 : okB mX9_won 108 bX9_won_108 = true := by decide +kernel
def bX9_won_112 : List Instr := [.iconst 0, .goto 16]
theorem kX9_won_112 : okB mX9_won 112 bX9_won_112 = true := by decide +kernel
def bX9_won_116 : List Instr := [.iload_n 2, .ifCond .le 11]
theorem kX9_won_116 : okB mX9_won 116 bX9_won_116 = true := by decide +kernel
def bX9_won_120 : List Instr := [.iload_n 1, .ifCond .ne 7]
theorem kX9_won_120 : okB mX9_won 120 bX9_won_120 = true := by decide +kernel
def bX9_won_124 : List Instr := [.iconst 1, .goto 4]
theorem kX9_won_124 : okB mX9_won 124 bX9_won_124 = true := by decide +kernel
def bX9_won_128 : List Instr := [.iconst (-1)]
theorem kX9_won_128 : okB mX9_won 128 bX9_won_128 = true := by decide +kernel
def bX9_won_129 : List Instr := [.ireturn]
theorem kX9_won_129 : okB mX9_won 129 bX9_won_129 = true := by decide +kernel
theorem dX9_won_24 : decode mX9_won.2.2.1 24 = .ok (.invokevirtual 114, 3) := by decide +kernel
theorem dX9_won_33 : decode mX9_won.2.2.1 33 = .ok (.invokevirtual 124, 3) := by decide +kernel
theorem dX9_won_50 : decode mX9_won.2.2.1 50 = .ok (.invokevirtual 114, 3) := by decide +kernel
theorem dX9_won_59 : decode mX9_won.2.2.1 59 = .ok (.invokevirtual 124, 3) := by decide +kernel
theorem dX9_won_77 : decode mX9_won.2.2.1 77 = .ok (.invokevirtual 114, 3) := by decide +kernel
def bX9_behind_0 : List Instr := [.iconst 0, .istore_n 1, .iconst 0, .istore_n 2, .iconst 0, .istore_n 3]
theorem kX9_behind_0 : okB mX9_behind 0 bX9_behind_0 = true := by decide +kernel
def bX9_behind_6 : List Instr := [.iload_n 3, .aload_n 0, .getfield 7, .iconst 2, .iaload, .if_icmp .ge 58]
theorem kX9_behind_6 : okB mX9_behind 6 bX9_behind_6 = true := by decide +kernel
def bX9_behind_16 : List Instr := [.aload_n 0, .iload_n 3]
theorem kX9_behind_16 : okB mX9_behind 16 bX9_behind_16 = true := by decide +kernel
def bX9_behind_21 : List Instr := [.ifCond .eq 44]
theorem kX9_behind_21 : okB mX9_behind 21 bX9_behind_21 = true := by decide +kernel
def bX9_behind_24 : List Instr := [.iload_n 1, .aload_n 0, .iload_n 3]
theorem kX9_behind_24 : okB mX9_behind 24 bX9_behind_24 = true := by decide +kernel
def bX9_behind_30 : List Instr := [.ifCond .ne 11]
theorem kX9_behind_30 : okB mX9_behind 30 bX9_behind_30 = true := by decide +kernel
def bX9_behind_33 : List Instr := [.aload_n 0, .iload_n 3]
theorem kX9_behind_33 : okB mX9_behind 33 bX9_behind_33 = true := by decide +kernel
def bX9_behind_38 : List Instr := [.goto 4]
theorem kX9_behind_38 : okB mX9_behind 38 bX9_behind_38 = true := by decide +kernel
def bX9_behind_41 : List Instr := [.iconst 0]
theorem kX9_behind_41 : okB mX9_behind 41 bX9_behind_41 = true := by decide +kernel
def bX9_behind_42 : List Instr := [.iadd, .istore_n 1, .iload_n 2, .aload_n 0, .iload_n 3]
theorem kX9_behind_42 : okB mX9_behind 42 bX9_behind_42 = true := by decide +kernel
def bX9_behind_50 : List Instr := [.iconst 1, .if_icmp .ne 11]
theorem kX9_behind_50 : okB mX9_behind 50 bX9_behind_50 = true := by decide +kernel
def bX9_behind_54 : List Instr := [.aload_n 0, .iload_n 3]
theorem kX9_behind_54 : okB mX9_behind 54 bX9_behind_54 = true := by decide +kernel
def bX9_behind_59 : List Instr := [.goto 4]
theorem kX9_behind_59 : okB mX9_behind 59 bX9_behind_59 = true := by decide +kernel
def bX9_behind_62 : List Instr := [.iconst 0]
theorem kX9_behind_62 : okB mX9_behind 62 bX9_behind_62 = true := by decide +kernel
def bX9_behind_63 : List Instr := [.iadd, .istore_n 2]
theorem kX9_behind_63 : okB mX9_behind 63 bX9_behind_63 = true := by decide +kernel
def bX9_behind_65 : List Instr := [.iinc 3 1, .goto (-62)]
theorem kX9_behind_65 : okB mX9_behind 65 bX9_behind_65 = true := by decide +kernel
def bX9_behind_71 : List Instr := [.iload_n 1, .iload_n 2, .if_icmp .ge 7]
theorem kX9_behind_71 : okB mX9_behind 71 bX9_behind_71 = true := by decide +kernel
def bX9_behind_76 : List Instr := [.iconst 0, .goto 16]
theorem kX9_behind_76 : okB mX9_behind 76 bX9_behind_76 = true := by decide +kernel
def bX9_behind_80 : List Instr := [.iload_n 2, .iload_n 1, .if_icmp .ge 7]
theorem kX9_behind_80 : okB mX9_behind 80 bX9_behind_80 = true := by decide +kernel
def bX9_behind_85 : List Instr := [.iconst 1, .goto 7]
theorem kX9_behind_85 : okB mX9_behind 85 bX9_behind_85 = true := by decide +kernel
def bX9_behind_89 : List Instr := [.aload_n 0]
theorem kX9_behind_89 : okB mX9_behind 89 bX9_behind_89 = true := by decide +kernel
def bX9_behind_93 : List Instr := [.ireturn]
theorem kX9_behind_93 : okB mX9_behind 93 bX9_behind_93 = true := by decide +kernel
theorem dX9_behind_18 : decode mX9_behind.2.2.1 18 = .ok (.invokevirtual 114, 3) := by decide +kernel
theorem dX9_behind_27 : decode mX9_behind.2.2.1 27 = .ok (.invokevirtual 124, 3) := by decide +kernel
theorem dX9_behind_35 : decode mX9_behind.2.2.1 35 = .ok (.invokevirtual 117, 3) := by decide +kernel
theorem dX9_behind_47 : decode mX9_behind.2.2.1 47 = .ok (.invokevirtual 124, 3) := by decide +kernel
theorem dX9_behind_56 : decode mX9_behind.2.2.1 56 = .ok (.invokevirtual 117, 3) := by decide +kernel
theorem dX9_behind_90 : decode mX9_behind.2.2.1 90 = .ok (.invokevirtual 127, 3) := by decide +kernel
def bX9_topAt_0 : List Instr := [.iconst (-1), .istore_n 3, .iconst 0, .istore 4]
theorem kX9_topAt_0 : okB mX9_topAt 0 bX9_topAt_0 = true := by decide +kernel
def bX9_topAt_5 : List Instr := [.iload 4, .bipush 36, .if_icmp .ge 56]
theorem kX9_topAt_5 : okB mX9_topAt 5 bX9_topAt_5 = true := by decide +kernel
def bX9_topAt_12 : List Instr := [.aload_n 0, .iload 4, .iload_n 1, .iload_n 2]
theorem kX9_topAt_12 : okB mX9_topAt 12 bX9_topAt_12 = true := by decide +kernel
def bX9_topAt_20 : List Instr := [.ifCond .eq 37]
theorem kX9_topAt_20 : okB mX9_topAt 20 bX9_topAt_20 = true := by decide +kernel
def bX9_topAt_23 : List Instr := [.iload_n 3, .iconst (-1), .if_icmp .eq 27]
theorem kX9_topAt_23 : okB mX9_topAt 23 bX9_topAt_23 = true := by decide +kernel
def bX9_topAt_28 : List Instr := [.aload_n 0, .getfield 29, .iload 4, .iaload, .aload_n 0, .getfield 29, .iload_n 3, .ifCond .ge 7]
theorem kX9_topAt_28 : okB mX9_topAt 28 bX9_topAt_28 = true := by decide +kernel
def bX9_topAt_43 : List Instr := [.iconst 0, .goto 4]
theorem kX9_topAt_43 : okB mX9_topAt 43 bX9_topAt_43 = true := by decide +kernel
def bX9_topAt_47 : List Instr := [.iload_n 3]
theorem kX9_topAt_47 : okB mX9_topAt 47 bX9_topAt_47 = true := by decide +kernel
def bX9_topAt_48 : List Instr := [.iaload, .if_icmp .le 8]
theorem kX9_topAt_48 : okB mX9_topAt 48 bX9_topAt_48 = true := by decide +kernel
def bX9_topAt_52 : List Instr := [.iload 4, .goto 4]
theorem kX9_topAt_52 : okB mX9_topAt 52 bX9_topAt_52 = true := by decide +kernel
def bX9_topAt_57 : List Instr := [.iload_n 3]
theorem kX9_topAt_57 : okB mX9_topAt 57 bX9_topAt_57 = true := by decide +kernel
def bX9_topAt_58 : List Instr := [.istore_n 3, .iinc 4 1, .goto (-57)]
theorem kX9_topAt_58 : okB mX9_topAt 58 bX9_topAt_58 = true := by decide +kernel
def bX9_topAt_65 : List Instr := [.iload_n 3, .ireturn]
theorem kX9_topAt_65 : okB mX9_topAt 65 bX9_topAt_65 = true := by decide +kernel
theorem dX9_topAt_17 : decode mX9_topAt.2.2.1 17 = .ok (.invokevirtual 110, 3) := by decide +kernel
def bX9_wayX_0 : List Instr := [.iload_n 0, .iconst 1, .if_icmp .ne 7]
theorem kX9_wayX_0 : okB mX9_wayX 0 bX9_wayX_0 = true := by decide +kernel
def bX9_wayX_5 : List Instr := [.iconst 1, .goto 13]
theorem kX9_wayX_5 : okB mX9_wayX 5 bX9_wayX_5 = true := by decide +kernel
def bX9_wayX_9 : List Instr := [.iload_n 0, .iconst 3, .if_icmp .ne 7]
theorem kX9_wayX_9 : okB mX9_wayX 9 bX9_wayX_9 = true := by decide +kernel
def bX9_wayX_14 : List Instr := [.iconst (-1), .goto 4]
theorem kX9_wayX_14 : okB mX9_wayX 14 bX9_wayX_14 = true := by decide +kernel
def bX9_wayX_18 : List Instr := [.iconst 0]
theorem kX9_wayX_18 : okB mX9_wayX 18 bX9_wayX_18 = true := by decide +kernel
def bX9_wayX_19 : List Instr := [.ireturn]
theorem kX9_wayX_19 : okB mX9_wayX 19 bX9_wayX_19 = true := by decide +kernel
def bX9_wayY_0 : List Instr := [.iload_n 0, .ifCond .ne 7]
theorem kX9_wayY_0 : okB mX9_wayY 0 bX9_wayY_0 = true := by decide +kernel
def bX9_wayY_4 : List Instr := [.iconst (-1), .goto 13]
theorem kX9_wayY_4 : okB mX9_wayY 4 bX9_wayY_4 = true := by decide +kernel
def bX9_wayY_8 : List Instr := [.iload_n 0, .iconst 2, .if_icmp .ne 7]
theorem kX9_wayY_8 : okB mX9_wayY 8 bX9_wayY_8 = true := by decide +kernel
def bX9_wayY_13 : List Instr := [.iconst 1, .goto 4]
theorem kX9_wayY_13 : okB mX9_wayY 13 bX9_wayY_13 = true := by decide +kernel
def bX9_wayY_17 : List Instr := [.iconst 0]
theorem kX9_wayY_17 : okB mX9_wayY 17 bX9_wayY_17 = true := by decide +kernel
def bX9_wayY_18 : List Instr := [.ireturn]
theorem kX9_wayY_18 : okB mX9_wayY 18 bX9_wayY_18 = true := by decide +kernel
def bX9_anyFold_0 : List Instr := [.aload_n 0, .iconst 0, .iconst 1]
theorem kX9_anyFold_0 : okB mX9_anyFold 0 bX9_anyFold_0 = true := by decide +kernel
def bX9_anyFold_6 : List Instr := [.aload_n 0, .iconst 0, .iconst 0]
theorem kX9_anyFold_6 : okB mX9_anyFold 6 bX9_anyFold_6 = true := by decide +kernel
def bX9_anyFold_12 : List Instr := [.if_icmp .gt 18]
theorem kX9_anyFold_12 : okB mX9_anyFold 12 bX9_anyFold_12 = true := by decide +kernel
def bX9_anyFold_15 : List Instr := [.aload_n 0, .iconst 1, .iconst 1]
theorem kX9_anyFold_15 : okB mX9_anyFold 15 bX9_anyFold_15 = true := by decide +kernel
def bX9_anyFold_21 : List Instr := [.aload_n 0, .iconst 1, .iconst 0]
theorem kX9_anyFold_21 : okB mX9_anyFold 21 bX9_anyFold_21 = true := by decide +kernel
def bX9_anyFold_27 : List Instr := [.if_icmp .le 7]
theorem kX9_anyFold_27 : okB mX9_anyFold 27 bX9_anyFold_27 = true := by decide +kernel
def bX9_anyFold_30 : List Instr := [.iconst 1, .goto 4]
theorem kX9_anyFold_30 : okB mX9_anyFold 30 bX9_anyFold_30 = true := by decide +kernel
def bX9_anyFold_34 : List Instr := [.iconst 0]
theorem kX9_anyFold_34 : okB mX9_anyFold 34 bX9_anyFold_34 = true := by decide +kernel
def bX9_anyFold_35 : List Instr := [.ireturn]
theorem kX9_anyFold_35 : okB mX9_anyFold 35 bX9_anyFold_35 = true := by decide +kernel
theorem dX9_anyFold_3 : decode mX9_anyFold.2.2.1 3 = .ok (.invokevirtual 130, 3) := by decide +kernel
theorem dX9_anyFold_9 : decode mX9_anyFold.2.2.1 9 = .ok (.invokevirtual 130, 3) := by decide +kernel
theorem dX9_anyFold_18 : decode mX9_anyFold.2.2.1 18 = .ok (.invokevirtual 130, 3) := by decide +kernel
theorem dX9_anyFold_24 : decode mX9_anyFold.2.2.1 24 = .ok (.invokevirtual 130, 3) := by decide +kernel
def bX9_steps_0 : List Instr := [.aload_n 0, .iload_n 1, .iload_n 2]
theorem kX9_steps_0 : okB mX9_steps 0 bX9_steps_0 = true := by decide +kernel
def bX9_steps_6 : List Instr := [.istore 5, .aload_n 0, .getfield 7, .bipush 27, .iaload, .ifCond .gt 44]
theorem kX9_steps_6 : okB mX9_steps 6 bX9_steps_6 = true := by decide +kernel
def bX9_steps_18 : List Instr := [.iload 5, .iconst (-1), .if_icmp .eq 38]
theorem kX9_steps_18 : okB mX9_steps 18 bX9_steps_18 = true := by decide +kernel
def bX9_steps_24 : List Instr := [.aload_n 0, .iload 5]
theorem kX9_steps_24 : okB mX9_steps 24 bX9_steps_24 = true := by decide +kernel
def bX9_steps_30 : List Instr := [.aload_n 0]
theorem kX9_steps_30 : okB mX9_steps 30 bX9_steps_30 = true := by decide +kernel
def bX9_steps_34 : List Instr := [.if_icmp .ne 25]
theorem kX9_steps_34 : okB mX9_steps 34 bX9_steps_34 = true := by decide +kernel
def bX9_steps_37 : List Instr := [.iload 4, .iconst 2, .if_icmp .ne 21]
theorem kX9_steps_37 : okB mX9_steps 37 bX9_steps_37 = true := by decide +kernel
def bX9_steps_43 : List Instr := [.aload_n 0, .getfield 7, .bipush 28, .iconst 3, .iload 5, .imul, .iadd, .iaload, .iconst 4, .if_icmp .eq 5]
theorem kX9_steps_43 : okB mX9_steps 43 bX9_steps_43 = true := by decide +kernel
def bX9_steps_59 : List Instr := [.iconst 0, .ireturn]
theorem kX9_steps_59 : okB mX9_steps 59 bX9_steps_59 = true := by decide +kernel
def bX9_steps_61 : List Instr := [.iload_n 1, .iload_n 3]
theorem kX9_steps_61 : okB mX9_steps 61 bX9_steps_61 = true := by decide +kernel
def bX9_steps_66 : List Instr := [.iadd, .istore 6, .iload_n 2, .iload_n 3]
theorem kX9_steps_66 : okB mX9_steps 66 bX9_steps_66 = true := by decide +kernel
def bX9_steps_74 : List Instr := [.iadd, .istore 7, .iload 4, .iconst 2, .if_icmp .ne 29]
theorem kX9_steps_74 : okB mX9_steps 74 bX9_steps_74 = true := by decide +kernel
def bX9_steps_83 : List Instr := [.aload_n 0, .iload 6, .iload 7]
theorem kX9_steps_83 : okB mX9_steps 83 bX9_steps_83 = true := by decide +kernel
def bX9_steps_91 : List Instr := [.iconst (-1), .if_icmp .eq 15]
theorem kX9_steps_91 : okB mX9_steps 91 bX9_steps_91 = true := by decide +kernel
def bX9_steps_95 : List Instr := [.aload_n 0, .iload 6, .iload 7]
theorem kX9_steps_95 : okB mX9_steps 95 bX9_steps_95 = true := by decide +kernel
def bX9_steps_103 : List Instr := [.iconst (-1), .if_icmp .eq 5]
theorem kX9_steps_103 : okB mX9_steps 103 bX9_steps_103 = true := by decide +kernel
def bX9_steps_107 : List Instr := [.iconst 0, .ireturn]
theorem kX9_steps_107 : okB mX9_steps 107 bX9_steps_107 = true := by decide +kernel
def bX9_steps_109 : List Instr := [.iload_n 1, .iload 4, .iload_n 3]
theorem kX9_steps_109 : okB mX9_steps 109 bX9_steps_109 = true := by decide +kernel
def bX9_steps_116 : List Instr := [.imul, .iadd, .istore 8, .iload_n 2, .iload 4, .iload_n 3]
theorem kX9_steps_116 : okB mX9_steps 116 bX9_steps_116 = true := by decide +kernel
def bX9_steps_127 : List Instr := [.imul, .iadd, .istore 9, .aload_n 0, .iload 8, .iload 9]
theorem kX9_steps_127 : okB mX9_steps 127 bX9_steps_127 = true := by decide +kernel
def bX9_steps_139 : List Instr := [.istore 10, .aload_n 0, .iload 8, .iload 9]
theorem kX9_steps_139 : okB mX9_steps 139 bX9_steps_139 = true := by decide +kernel
def bX9_steps_149 : List Instr := [.istore 11, .iload 11, .iconst (-1), .if_icmp .eq 39]
theorem kX9_steps_149 : okB mX9_steps 149 bX9_steps_149 = true := by decide +kernel
def bX9_steps_157 : List Instr := [.iload 10, .iconst (-1), .if_icmp .eq 35]
theorem kX9_steps_157 : okB mX9_steps 157 bX9_steps_157 = true := by decide +kernel
def bX9_steps_163 : List Instr := [.aload_n 0, .iload 10]
theorem kX9_steps_163 : okB mX9_steps 163 bX9_steps_163 = true := by decide +kernel
def bX9_steps_169 : List Instr := [.aload_n 0, .iload 5]
theorem kX9_steps_169 : okB mX9_steps 169 bX9_steps_169 = true := by decide +kernel
def bX9_steps_175 : List Instr := [.if_icmp .eq 18]
theorem kX9_steps_175 : okB mX9_steps 175 bX9_steps_175 = true := by decide +kernel
def bX9_steps_178 : List Instr := [.aload_n 0, .iload 10]
theorem kX9_steps_178 : okB mX9_steps 178 bX9_steps_178 = true := by decide +kernel
def bX9_steps_184 : List Instr := [.aload_n 0, .iload 5]
theorem kX9_steps_184 : okB mX9_steps 184 bX9_steps_184 = true := by decide +kernel
def bX9_steps_190 : List Instr := [.if_icmp .lt 5]
theorem kX9_steps_190 : okB mX9_steps 190 bX9_steps_190 = true := by decide +kernel
def bX9_steps_193 : List Instr := [.iconst 0, .ireturn]
theorem kX9_steps_193 : okB mX9_steps 193 bX9_steps_193 = true := by decide +kernel
def bX9_steps_195 : List Instr := [.aload_n 0, .iload 10, .putfield 143, .iload 10, .iconst (-1), .if_icmp .eq 26]
theorem kX9_steps_195 : okB mX9_steps 195 bX9_steps_195 = true := by decide +kernel
def bX9_steps_207 : List Instr := [.aload_n 0, .getfield 7, .bipush 8, .iload 10, .iadd, .iaload, .istore 11, .aload_n 0, .getfield 7, .bipush 8, .iload 10, .iadd, .iconst (-1), .iastore]
theorem kX9_steps_207 : okB mX9_steps 207 bX9_steps_207 = true := by decide +kernel
def bX9_steps_230 : List Instr := [.aload_n 0, .getfield 7, .bipush 8, .iload 5, .iadd, .iload 11, .iastore, .aload_n 0, .getfield 7, .bipush 26, .dup2, .iaload, .iconst 1, .iadd, .iastore, .aload_n 0, .getfield 7, .bipush 26, .iaload, .aload_n 0, .getfield 7, .iconst 4, .iaload, .irem, .ifCond .ne 103]
theorem kX9_steps_230 : okB mX9_steps 230 bX9_steps_230 = true := by decide +kernel
def bX9_steps_270 : List Instr := [.aload_n 0, .getfield 7, .bipush 26, .iaload, .aload_n 0, .getfield 7, .iconst 4, .iaload, .idiv, .iconst 2, .irem, .iconst 1, .if_icmp .ne 71]
theorem kX9_steps_270 : okB mX9_steps 270 bX9_steps_270 = true := by decide +kernel
def bX9_steps_290 : List Instr := [.iconst 3, .aload_n 0, .getfield 7, .bipush 16, .iaload, .isub, .istore 12, .aload_n 0, .getfield 7, .bipush 27, .aload_n 0, .getfield 7, .iconst 5, .iaload, .iload 12, .if_icmp .ge 12]
theorem kX9_steps_290 : okB mX9_steps 290 bX9_steps_290 = true := by decide +kernel
def bX9_steps_318 : List Instr := [.aload_n 0, .getfield 7, .iconst 5, .iaload, .goto 5]
theorem kX9_steps_318 : okB mX9_steps 318 bX9_steps_318 = true := by decide +kernel
def bX9_steps_327 : List Instr := [.iload 12]
theorem kX9_steps_327 : okB mX9_steps 327 bX9_steps_327 = true := by decide +kernel
def bX9_steps_329 : List Instr := [.iastore, .aload_n 0, .getfield 7, .bipush 27, .aload_n 0]
theorem kX9_steps_329 : okB mX9_steps 329 bX9_steps_329 = true := by decide +kernel
def bX9_steps_340 : List Instr := [.ifCond .eq 13]
theorem kX9_steps_340 : okB mX9_steps 340 bX9_steps_340 = true := by decide +kernel
def bX9_steps_343 : List Instr := [.aload_n 0, .getfield 7, .bipush 27, .iaload, .goto 4]
theorem kX9_steps_343 : okB mX9_steps 343 bX9_steps_343 = true := by decide +kernel
def bX9_steps_353 : List Instr := [.iconst 0]
theorem kX9_steps_353 : okB mX9_steps 353 bX9_steps_353 = true := by decide +kernel
def bX9_steps_354 : List Instr := [.iastore, .goto 15]
theorem kX9_steps_354 : okB mX9_steps 354 bX9_steps_354 = true := by decide +kernel
def bX9_steps_358 : List Instr := [.aload_n 0, .getfield 7, .bipush 16, .iconst 0, .iastore, .aload_n 0]
theorem kX9_steps_358 : okB mX9_steps 358 bX9_steps_358 = true := by decide +kernel
def bX9_steps_370 : List Instr := [.iconst 1, .ireturn]
theorem kX9_steps_370 : okB mX9_steps 370 bX9_steps_370 = true := by decide +kernel
theorem dX9_steps_3 : decode mX9_steps.2.2.1 3 = .ok (.invokevirtual 121, 3) := by decide +kernel
theorem dX9_steps_27 : decode mX9_steps.2.2.1 27 = .ok (.invokevirtual 124, 3) := by decide +kernel
theorem dX9_steps_31 : decode mX9_steps.2.2.1 31 = .ok (.invokevirtual 127, 3) := by decide +kernel
theorem dX9_steps_63 : decode mX9_steps.2.2.1 63 = .ok (.invokestatic 134, 3) := by decide +kernel
theorem dX9_steps_71 : decode mX9_steps.2.2.1 71 = .ok (.invokestatic 137, 3) := by decide +kernel
theorem dX9_steps_88 : decode mX9_steps.2.2.1 88 = .ok (.invokevirtual 140, 3) := by decide +kernel
theorem dX9_steps_100 : decode mX9_steps.2.2.1 100 = .ok (.invokevirtual 121, 3) := by decide +kernel
theorem dX9_steps_113 : decode mX9_steps.2.2.1 113 = .ok (.invokestatic 134, 3) := by decide +kernel
theorem dX9_steps_124 : decode mX9_steps.2.2.1 124 = .ok (.invokestatic 137, 3) := by decide +kernel
theorem dX9_steps_136 : decode mX9_steps.2.2.1 136 = .ok (.invokevirtual 121, 3) := by decide +kernel
theorem dX9_steps_146 : decode mX9_steps.2.2.1 146 = .ok (.invokevirtual 140, 3) := by decide +kernel
theorem dX9_steps_166 : decode mX9_steps.2.2.1 166 = .ok (.invokevirtual 124, 3) := by decide +kernel
theorem dX9_steps_172 : decode mX9_steps.2.2.1 172 = .ok (.invokevirtual 124, 3) := by decide +kernel
theorem dX9_steps_181 : decode mX9_steps.2.2.1 181 = .ok (.invokevirtual 117, 3) := by decide +kernel
theorem dX9_steps_187 : decode mX9_steps.2.2.1 187 = .ok (.invokevirtual 117, 3) := by decide +kernel
theorem dX9_steps_337 : decode mX9_steps.2.2.1 337 = .ok (.invokevirtual 147, 3) := by decide +kernel
theorem dX9_steps_367 : decode mX9_steps.2.2.1 367 = .ok (.invokevirtual 107, 3) := by decide +kernel
def bX9_makes_0 : List Instr := [.aload_n 0, .getfield 7, .bipush 27, .iaload, .ifCond .eq 13]
theorem kX9_makes_0 : okB mX9_makes 0 bX9_makes_0 = true := by decide +kernel
def bX9_makes_10 : List Instr := [.aload_n 0, .iload_n 1, .iload_n 2, .iload_n 3]
theorem kX9_makes_10 : okB mX9_makes 10 bX9_makes_10 = true := by decide +kernel
def bX9_makes_17 : List Instr := [.ifCond .ne 5]
theorem kX9_makes_17 : okB mX9_makes 17 bX9_makes_17 = true := by decide +kernel
def bX9_makes_20 : List Instr := [.iconst 0, .ireturn]
theorem kX9_makes_20 : okB mX9_makes 20 bX9_makes_20 = true := by decide +kernel
def bX9_makes_22 : List Instr := [.bipush 17, .iconst 3, .aload_n 0, .getfield 7, .bipush 16, .iaload, .imul, .iadd, .istore 4, .aload_n 0, .getfield 7, .iload 4, .iload_n 1, .iastore, .aload_n 0, .getfield 7, .iload 4, .iconst 1, .iadd, .iload_n 2, .iastore, .aload_n 0, .getfield 7, .iload 4, .iconst 2, .iadd, .iload_n 3, .iastore, .aload_n 0, .getfield 7, .bipush 16, .dup2, .iaload, .iconst 1, .iadd, .iastore, .aload_n 0, .iload_n 1, .iload_n 2, .iload_n 3]
theorem kX9_makes_22 : okB mX9_makes 22 bX9_makes_22 = true := by decide +kernel
def bX9_makes_82 : List Instr := [.aload_n 0, .getfield 7, .bipush 27, .dup2, .iaload, .iconst 1, .isub, .iastore, .aload_n 0, .getfield 7, .bipush 27, .aload_n 0]
theorem kX9_makes_82 : okB mX9_makes 82 bX9_makes_82 = true := by decide +kernel
def bX9_makes_103 : List Instr := [.ifCond .eq 13]
theorem kX9_makes_103 : okB mX9_makes 103 bX9_makes_103 = true := by decide +kernel
def bX9_makes_106 : List Instr := [.aload_n 0, .getfield 7, .bipush 27, .iaload, .goto 4]
theorem kX9_makes_106 : okB mX9_makes 106 bX9_makes_106 = true := by decide +kernel
def bX9_makes_116 : List Instr := [.iconst 0]
theorem kX9_makes_116 : okB mX9_makes 116 bX9_makes_116 = true := by decide +kernel
def bX9_makes_117 : List Instr := [.iastore, .iconst 1, .ireturn]
theorem kX9_makes_117 : okB mX9_makes 117 bX9_makes_117 = true := by decide +kernel
theorem dX9_makes_14 : decode mX9_makes.2.2.1 14 = .ok (.invokevirtual 151, 3) := by decide +kernel
theorem dX9_makes_79 : decode mX9_makes.2.2.1 79 = .ok (.invokevirtual 80, 3) := by decide +kernel
theorem dX9_makes_100 : decode mX9_makes.2.2.1 100 = .ok (.invokevirtual 147, 3) := by decide +kernel
def bX9_keeps_0 : List Instr := [.iconst 0, .istore_n 3]
theorem kX9_keeps_0 : okB mX9_keeps 0 bX9_keeps_0 = true := by decide +kernel
def bX9_keeps_2 : List Instr := [.iload_n 3, .bipush 20, .if_icmp .ge 23]
theorem kX9_keeps_2 : okB mX9_keeps 2 bX9_keeps_2 = true := by decide +kernel
def bX9_keeps_8 : List Instr := [.aload_n 1, .iload_n 2, .iload_n 3, .iadd, .aload_n 0, .getfield 7, .bipush 8, .iload_n 3, .iadd, .iaload, .iastore, .iinc 3 1, .goto (-23)]
theorem kX9_keeps_8 : okB mX9_keeps 8 bX9_keeps_8 = true := by decide +kernel
def bX9_keeps_28 : List Instr := [.return_]
theorem kX9_keeps_28 : okB mX9_keeps 28 bX9_keeps_28 = true := by decide +kernel
def bX9_takes_0 : List Instr := [.iconst 0, .istore_n 3]
theorem kX9_takes_0 : okB mX9_takes 0 bX9_takes_0 = true := by decide +kernel
def bX9_takes_2 : List Instr := [.iload_n 3, .bipush 20, .if_icmp .ge 23]
theorem kX9_takes_2 : okB mX9_takes 2 bX9_takes_2 = true := by decide +kernel
def bX9_takes_8 : List Instr := [.aload_n 0, .getfield 7, .bipush 8, .iload_n 3, .iadd, .aload_n 1, .iload_n 2, .iload_n 3, .iadd, .iaload, .iastore, .iinc 3 1, .goto (-23)]
theorem kX9_takes_8 : okB mX9_takes 8 bX9_takes_8 = true := by decide +kernel
def bX9_takes_28 : List Instr := [.aload_n 0]
theorem kX9_takes_28 : okB mX9_takes 28 bX9_takes_28 = true := by decide +kernel
def bX9_takes_32 : List Instr := [.return_]
theorem kX9_takes_32 : okB mX9_takes 32 bX9_takes_32 = true := by decide +kernel
theorem dX9_takes_29 : decode mX9_takes.2.2.1 29 = .ok (.invokevirtual 107, 3) := by decide +kernel
def bX9_remembers_0 : List Instr := [.aload_n 0, .getfield 7, .bipush 6, .iaload, .bipush 8, .if_icmp .ne 50]
theorem kX9_remembers_0 : okB mX9_remembers 0 bX9_remembers_0 = true := by decide +kernel
def bX9_remembers_12 : List Instr := [.iconst 0, .istore_n 1]
theorem kX9_remembers_12 : okB mX9_remembers 12 bX9_remembers_12 = true := by decide +kernel
def bX9_remembers_14 : List Instr := [.iload_n 1, .sipush 140, .if_icmp .ge 30]
theorem kX9_remembers_14 : okB mX9_remembers 14 bX9_remembers_14 = true := by decide +kernel
def bX9_remembers_21 : List Instr := [.aload_n 0, .getfield 7, .bipush 88, .iload_n 1, .iadd, .aload_n 0, .getfield 7, .bipush 88, .iload_n 1, .iadd, .bipush 20, .iadd, .iaload, .iastore, .iinc 1 1, .goto (-31)]
theorem kX9_remembers_21 : okB mX9_remembers 21 bX9_remembers_21 = true := by decide +kernel
def bX9_remembers_48 : List Instr := [.aload_n 0, .getfield 7, .bipush 6, .dup2, .iaload, .iconst 1, .isub, .iastore]
theorem kX9_remembers_48 : okB mX9_remembers 48 bX9_remembers_48 = true := by decide +kernel
def bX9_remembers_59 : List Instr := [.iconst 0, .istore_n 1]
theorem kX9_remembers_59 : okB mX9_remembers 59 bX9_remembers_59 = true := by decide +kernel
def bX9_remembers_61 : List Instr := [.iload_n 1, .bipush 20, .if_icmp .ge 35]
theorem kX9_remembers_61 : okB mX9_remembers 61 bX9_remembers_61 = true := by decide +kernel
def bX9_remembers_67 : List Instr := [.aload_n 0, .getfield 7, .bipush 88, .bipush 20, .aload_n 0, .getfield 7, .bipush 6, .iaload, .imul, .iadd, .iload_n 1, .iadd, .aload_n 0, .getfield 35, .iload_n 1, .iaload, .iastore, .iinc 1 1, .goto (-35)]
theorem kX9_remembers_67 : okB mX9_remembers 67 bX9_remembers_67 = true := by decide +kernel
def bX9_remembers_99 : List Instr := [.aload_n 0, .getfield 7, .bipush 6, .dup2, .iaload, .iconst 1, .iadd, .iastore, .return_]
theorem kX9_remembers_99 : okB mX9_remembers 99 bX9_remembers_99 = true := by decide +kernel
def bX9_step_0 : List Instr := [.iload_n 3, .i2l, .lconst 0, .ldc2_w 105]
theorem kX9_step_0 : okB mX9_step 0 bX9_step_0 = true := by decide +kernel
def bX9_step_9 : List Instr := [.ifCond .eq 16]
theorem kX9_step_9 : okB mX9_step 9 bX9_step_9 = true := by decide +kernel
def bX9_step_12 : List Instr := [.iload 4, .i2l, .lconst 1, .ldc2_w 84]
theorem kX9_step_12 : okB mX9_step 12 bX9_step_12 = true := by decide +kernel
def bX9_step_22 : List Instr := [.ifCond .ne 11]
theorem kX9_step_22 : okB mX9_step 22 bX9_step_22 = true := by decide +kernel
def bX9_step_25 : List Instr := [.aload_n 0, .iconst 0, .bipush (-10)]
theorem kX9_step_25 : okB mX9_step 25 bX9_step_25 = true := by decide +kernel
def bX9_step_32 : List Instr := [.ireturn]
theorem kX9_step_32 : okB mX9_step 32 bX9_step_32 = true := by decide +kernel
def bX9_step_33 : List Instr := [.aload_n 0]
theorem kX9_step_33 : okB mX9_step 33 bX9_step_33 = true := by decide +kernel
def bX9_step_37 : List Instr := [.aload_n 0, .aload_n 0, .getfield 35, .iconst 0]
theorem kX9_step_37 : okB mX9_step 37 bX9_step_37 = true := by decide +kernel
def bX9_step_46 : List Instr := [.aload_n 0, .iload_n 1, .iload_n 2, .iload_n 3, .iload 4]
theorem kX9_step_46 : okB mX9_step 46 bX9_step_46 = true := by decide +kernel
def bX9_step_55 : List Instr := [.ifCond .ne 11]
theorem kX9_step_55 : okB mX9_step 55 bX9_step_55 = true := by decide +kernel
def bX9_step_58 : List Instr := [.aload_n 0, .iconst 1, .bipush (-20)]
theorem kX9_step_58 : okB mX9_step 58 bX9_step_58 = true := by decide +kernel
def bX9_step_65 : List Instr := [.ireturn]
theorem kX9_step_65 : okB mX9_step 65 bX9_step_65 = true := by decide +kernel
def bX9_step_66 : List Instr := [.aload_n 0]
theorem kX9_step_66 : okB mX9_step 66 bX9_step_66 = true := by decide +kernel
def bX9_step_70 : List Instr := [.aload_n 0, .getfield 143, .ireturn]
theorem kX9_step_70 : okB mX9_step 70 bX9_step_70 = true := by decide +kernel
theorem dX9_step_6 : decode mX9_step.2.2.1 6 = .ok (.invokestatic 65, 3) := by decide +kernel
theorem dX9_step_19 : decode mX9_step.2.2.1 19 = .ok (.invokestatic 65, 3) := by decide +kernel
theorem dX9_step_29 : decode mX9_step.2.2.1 29 = .ok (.invokevirtual 59, 3) := by decide +kernel
theorem dX9_step_34 : decode mX9_step.2.2.1 34 = .ok (.invokevirtual 107, 3) := by decide +kernel
theorem dX9_step_43 : decode mX9_step.2.2.1 43 = .ok (.invokevirtual 154, 3) := by decide +kernel
theorem dX9_step_52 : decode mX9_step.2.2.1 52 = .ok (.invokevirtual 158, 3) := by decide +kernel
theorem dX9_step_62 : decode mX9_step.2.2.1 62 = .ok (.invokevirtual 59, 3) := by decide +kernel
theorem dX9_step_67 : decode mX9_step.2.2.1 67 = .ok (.invokevirtual 161, 3) := by decide +kernel
def bX9_fold_0 : List Instr := [.iload_n 1, .i2l, .lconst 0, .lconst 1]
theorem kX9_fold_0 : okB mX9_fold 0 bX9_fold_0 = true := by decide +kernel
def bX9_fold_7 : List Instr := [.ifCond .eq 13]
theorem kX9_fold_7 : okB mX9_fold 7 bX9_fold_7 = true := by decide +kernel
def bX9_fold_10 : List Instr := [.iload_n 3, .i2l, .lconst 0, .lconst 1]
theorem kX9_fold_10 : okB mX9_fold 10 bX9_fold_10 = true := by decide +kernel
def bX9_fold_17 : List Instr := [.ifCond .ne 8]
theorem kX9_fold_17 : okB mX9_fold 17 bX9_fold_17 = true := by decide +kernel
def bX9_fold_20 : List Instr := [.aload_n 0]
theorem kX9_fold_20 : okB mX9_fold 20 bX9_fold_20 = true := by decide +kernel
def bX9_fold_24 : List Instr := [.ireturn]
theorem kX9_fold_24 : okB mX9_fold 24 bX9_fold_24 = true := by decide +kernel
def bX9_fold_25 : List Instr := [.aload_n 0]
theorem kX9_fold_25 : okB mX9_fold 25 bX9_fold_25 = true := by decide +kernel
def bX9_fold_29 : List Instr := [.aload_n 0, .aload_n 0, .getfield 35, .iconst 0]
theorem kX9_fold_29 : okB mX9_fold 29 bX9_fold_29 = true := by decide +kernel
def bX9_fold_38 : List Instr := [.aload_n 0, .iload_n 1, .iload_n 2, .iload_n 3]
theorem kX9_fold_38 : okB mX9_fold 38 bX9_fold_38 = true := by decide +kernel
def bX9_fold_45 : List Instr := [.ifCond .ne 8]
theorem kX9_fold_45 : okB mX9_fold 45 bX9_fold_45 = true := by decide +kernel
def bX9_fold_48 : List Instr := [.aload_n 0]
theorem kX9_fold_48 : okB mX9_fold 48 bX9_fold_48 = true := by decide +kernel
def bX9_fold_52 : List Instr := [.ireturn]
theorem kX9_fold_52 : okB mX9_fold 52 bX9_fold_52 = true := by decide +kernel
def bX9_fold_53 : List Instr := [.aload_n 0]
theorem kX9_fold_53 : okB mX9_fold 53 bX9_fold_53 = true := by decide +kernel
def bX9_fold_57 : List Instr := [.aload_n 0, .getfield 7, .bipush 27, .iaload, .ireturn]
theorem kX9_fold_57 : okB mX9_fold 57 bX9_fold_57 = true := by decide +kernel
theorem dX9_fold_4 : decode mX9_fold.2.2.1 4 = .ok (.invokestatic 65, 3) := by decide +kernel
theorem dX9_fold_14 : decode mX9_fold.2.2.1 14 = .ok (.invokestatic 65, 3) := by decide +kernel
theorem dX9_fold_21 : decode mX9_fold.2.2.1 21 = .ok (.invokevirtual 88, 3) := by decide +kernel
theorem dX9_fold_26 : decode mX9_fold.2.2.1 26 = .ok (.invokevirtual 107, 3) := by decide +kernel
theorem dX9_fold_35 : decode mX9_fold.2.2.1 35 = .ok (.invokevirtual 154, 3) := by decide +kernel
theorem dX9_fold_42 : decode mX9_fold.2.2.1 42 = .ok (.invokevirtual 164, 3) := by decide +kernel
theorem dX9_fold_49 : decode mX9_fold.2.2.1 49 = .ok (.invokevirtual 95, 3) := by decide +kernel
theorem dX9_fold_54 : decode mX9_fold.2.2.1 54 = .ok (.invokevirtual 161, 3) := by decide +kernel
def bX9_state_0 : List Instr := [.iload_n 1, .i2l, .lconst 0, .ldc2_w 167]
theorem kX9_state_0 : okB mX9_state 0 bX9_state_0 = true := by decide +kernel
def bX9_state_9 : List Instr := [.ifCond .ne 11]
theorem kX9_state_9 : okB mX9_state 9 bX9_state_9 = true := by decide +kernel
def bX9_state_12 : List Instr := [.aload_n 0, .iconst 0, .bipush (-10)]
theorem kX9_state_12 : okB mX9_state 12 bX9_state_12 = true := by decide +kernel
def bX9_state_19 : List Instr := [.ireturn]
theorem kX9_state_19 : okB mX9_state 19 bX9_state_19 = true := by decide +kernel
def bX9_state_20 : List Instr := [.aload_n 0]
theorem kX9_state_20 : okB mX9_state 20 bX9_state_20 = true := by decide +kernel
def bX9_state_24 : List Instr := [.iload_n 1, .ifCond .ne 13]
theorem kX9_state_24 : okB mX9_state 24 bX9_state_24 = true := by decide +kernel
def bX9_state_28 : List Instr := [.aload_n 0, .getfield 7, .bipush 26, .iaload, .goto 61]
theorem kX9_state_28 : okB mX9_state 28 bX9_state_28 = true := by decide +kernel
def bX9_state_38 : List Instr := [.iload_n 1, .iconst 1, .if_icmp .ne 10]
theorem kX9_state_38 : okB mX9_state 38 bX9_state_38 = true := by decide +kernel
def bX9_state_43 : List Instr := [.aload_n 0]
theorem kX9_state_43 : okB mX9_state 43 bX9_state_43 = true := by decide +kernel
def bX9_state_47 : List Instr := [.goto 49]
theorem kX9_state_47 : okB mX9_state 47 bX9_state_47 = true := by decide +kernel
def bX9_state_50 : List Instr := [.iload_n 1, .iconst 2, .if_icmp .ne 13]
theorem kX9_state_50 : okB mX9_state 50 bX9_state_50 = true := by decide +kernel
def bX9_state_55 : List Instr := [.aload_n 0, .getfield 7, .bipush 27, .iaload, .goto 34]
theorem kX9_state_55 : okB mX9_state 55 bX9_state_55 = true := by decide +kernel
def bX9_state_65 : List Instr := [.iload_n 1, .iconst 3, .if_icmp .ne 13]
theorem kX9_state_65 : okB mX9_state 65 bX9_state_65 = true := by decide +kernel
def bX9_state_70 : List Instr := [.aload_n 0, .getfield 7, .bipush 16, .iaload, .goto 19]
theorem kX9_state_70 : okB mX9_state 70 bX9_state_70 = true := by decide +kernel
def bX9_state_80 : List Instr := [.iload_n 1, .iconst 4, .if_icmp .ne 10]
theorem kX9_state_80 : okB mX9_state 80 bX9_state_80 = true := by decide +kernel
def bX9_state_85 : List Instr := [.aload_n 0]
theorem kX9_state_85 : okB mX9_state 85 bX9_state_85 = true := by decide +kernel
def bX9_state_89 : List Instr := [.goto 7]
theorem kX9_state_89 : okB mX9_state 89 bX9_state_89 = true := by decide +kernel
def bX9_state_92 : List Instr := [.aload_n 0]
theorem kX9_state_92 : okB mX9_state 92 bX9_state_92 = true := by decide +kernel
def bX9_state_96 : List Instr := [.ireturn]
theorem kX9_state_96 : okB mX9_state 96 bX9_state_96 = true := by decide +kernel
theorem dX9_state_6 : decode mX9_state.2.2.1 6 = .ok (.invokestatic 65, 3) := by decide +kernel
theorem dX9_state_16 : decode mX9_state.2.2.1 16 = .ok (.invokevirtual 59, 3) := by decide +kernel
theorem dX9_state_21 : decode mX9_state.2.2.1 21 = .ok (.invokevirtual 107, 3) := by decide +kernel
theorem dX9_state_44 : decode mX9_state.2.2.1 44 = .ok (.invokevirtual 127, 3) := by decide +kernel
theorem dX9_state_86 : decode mX9_state.2.2.1 86 = .ok (.invokevirtual 169, 3) := by decide +kernel
theorem dX9_state_93 : decode mX9_state.2.2.1 93 = .ok (.invokevirtual 172, 3) := by decide +kernel
def bX9_undo_0 : List Instr := [.aload_n 0, .getfield 7, .bipush 6, .iaload, .ifCond .ne 8]
theorem kX9_undo_0 : okB mX9_undo 0 bX9_undo_0 = true := by decide +kernel
def bX9_undo_10 : List Instr := [.aload_n 0]
theorem kX9_undo_10 : okB mX9_undo 10 bX9_undo_10 = true := by decide +kernel
def bX9_undo_14 : List Instr := [.ireturn]
theorem kX9_undo_14 : okB mX9_undo 14 bX9_undo_14 = true := by decide +kernel
def bX9_undo_15 : List Instr := [.aload_n 0, .getfield 7, .bipush 6, .dup2, .iaload, .iconst 1, .isub, .iastore, .iconst 0, .istore_n 1]
theorem kX9_undo_15 : okB mX9_undo 15 bX9_undo_15 = true := by decide +kernel
def bX9_undo_28 : List Instr := [.iload_n 1, .bipush 20, .if_icmp .ge 38]
theorem kX9_undo_28 : okB mX9_undo 28 bX9_undo_28 = true := by decide +kernel
def bX9_undo_34 : List Instr := [.aload_n 0, .getfield 7, .bipush 8, .iload_n 1, .iadd, .aload_n 0, .getfield 7, .bipush 88, .bipush 20, .aload_n 0, .getfield 7, .bipush 6, .iaload, .imul, .iadd, .iload_n 1, .iadd, .iaload, .iastore, .iinc 1 1, .goto (-38)]
theorem kX9_undo_34 : okB mX9_undo 34 bX9_undo_34 = true := by decide +kernel
def bX9_undo_69 : List Instr := [.iconst 1, .ireturn]
theorem kX9_undo_69 : okB mX9_undo 69 bX9_undo_69 = true := by decide +kernel
theorem dX9_undo_11 : decode mX9_undo.2.2.1 11 = .ok (.invokevirtual 95, 3) := by decide +kernel
def bX9_foldsNow_0 : List Instr := [.iconst 2, .aload_n 0, .iconst 0, .iconst 1]
theorem kX9_foldsNow_0 : okB mX9_foldsNow 0 bX9_foldsNow_0 = true := by decide +kernel
def bX9_foldsNow_7 : List Instr := [.aload_n 0, .iconst 0, .iconst 0]
theorem kX9_foldsNow_7 : okB mX9_foldsNow 7 bX9_foldsNow_7 = true := by decide +kernel
def bX9_foldsNow_13 : List Instr := [.isub, .aload_n 0, .iconst 1, .iconst 1]
theorem kX9_foldsNow_13 : okB mX9_foldsNow 13 bX9_foldsNow_13 = true := by decide +kernel
def bX9_foldsNow_20 : List Instr := [.iadd, .aload_n 0, .iconst 1, .iconst 0]
theorem kX9_foldsNow_20 : okB mX9_foldsNow 20 bX9_foldsNow_20 = true := by decide +kernel
def bX9_foldsNow_27 : List Instr := [.isub, .imul, .ireturn]
theorem kX9_foldsNow_27 : okB mX9_foldsNow 27 bX9_foldsNow_27 = true := by decide +kernel
theorem dX9_foldsNow_4 : decode mX9_foldsNow.2.2.1 4 = .ok (.invokevirtual 130, 3) := by decide +kernel
theorem dX9_foldsNow_10 : decode mX9_foldsNow.2.2.1 10 = .ok (.invokevirtual 130, 3) := by decide +kernel
theorem dX9_foldsNow_17 : decode mX9_foldsNow.2.2.1 17 = .ok (.invokevirtual 130, 3) := by decide +kernel
theorem dX9_foldsNow_24 : decode mX9_foldsNow.2.2.1 24 = .ok (.invokevirtual 130, 3) := by decide +kernel
def bX9_pick_0 : List Instr := [.iconst 2, .aload_n 0, .iconst 0, .iconst 1]
theorem kX9_pick_0 : okB mX9_pick 0 bX9_pick_0 = true := by decide +kernel
def bX9_pick_7 : List Instr := [.aload_n 0, .iconst 0, .iconst 0]
theorem kX9_pick_7 : okB mX9_pick 7 bX9_pick_7 = true := by decide +kernel
def bX9_pick_13 : List Instr := [.isub, .imul, .istore_n 2, .aload_n 0, .iload_n 1, .iload_n 2, .if_icmp .ge 7]
theorem kX9_pick_13 : okB mX9_pick 13 bX9_pick_13 = true := by decide +kernel
def bX9_pick_22 : List Instr := [.iconst 0, .goto 4]
theorem kX9_pick_22 : okB mX9_pick 22 bX9_pick_22 = true := by decide +kernel
def bX9_pick_26 : List Instr := [.iconst 1]
theorem kX9_pick_26 : okB mX9_pick 26 bX9_pick_26 = true := by decide +kernel
def bX9_pick_27 : List Instr := [.putfield 175, .iload_n 1, .iload_n 2, .if_icmp .ge 7]
theorem kX9_pick_27 : okB mX9_pick 27 bX9_pick_27 = true := by decide +kernel
def bX9_pick_35 : List Instr := [.iload_n 1, .goto 6]
theorem kX9_pick_35 : okB mX9_pick 35 bX9_pick_35 = true := by decide +kernel
def bX9_pick_39 : List Instr := [.iload_n 1, .iload_n 2, .isub]
theorem kX9_pick_39 : okB mX9_pick 39 bX9_pick_39 = true := by decide +kernel
def bX9_pick_42 : List Instr := [.istore_n 3, .aload_n 0, .aload_n 0, .aload_n 0, .getfield 175, .iconst 0]
theorem kX9_pick_42 : okB mX9_pick 42 bX9_pick_42 = true := by decide +kernel
def bX9_pick_53 : List Instr := [.iconst 1, .iadd, .iload_n 3, .iconst 2, .idiv, .iadd, .putfield 178, .aload_n 0, .iload_n 3, .iconst 2, .irem, .putfield 181, .return_]
theorem kX9_pick_53 : okB mX9_pick 53 bX9_pick_53 = true := by decide +kernel
theorem dX9_pick_4 : decode mX9_pick.2.2.1 4 = .ok (.invokevirtual 130, 3) := by decide +kernel
theorem dX9_pick_10 : decode mX9_pick.2.2.1 10 = .ok (.invokevirtual 130, 3) := by decide +kernel
theorem dX9_pick_50 : decode mX9_pick.2.2.1 50 = .ok (.invokevirtual 130, 3) := by decide +kernel
def bX9_folds_0 : List Instr := [.iload_n 1, .iconst (-1), .if_icmp .ge 11]
theorem kX9_folds_0 : okB mX9_folds 0 bX9_folds_0 = true := by decide +kernel
def bX9_folds_5 : List Instr := [.aload_n 0, .iconst 0, .bipush (-10)]
theorem kX9_folds_5 : okB mX9_folds 5 bX9_folds_5 = true := by decide +kernel
def bX9_folds_12 : List Instr := [.ireturn]
theorem kX9_folds_12 : okB mX9_folds 12 bX9_folds_12 = true := by decide +kernel
def bX9_folds_13 : List Instr := [.aload_n 0]
theorem kX9_folds_13 : okB mX9_folds 13 bX9_folds_13 = true := by decide +kernel
def bX9_folds_17 : List Instr := [.iload_n 1, .iconst (-1), .if_icmp .eq 11]
theorem kX9_folds_17 : okB mX9_folds 17 bX9_folds_17 = true := by decide +kernel
def bX9_folds_22 : List Instr := [.iload_n 1, .aload_n 0]
theorem kX9_folds_22 : okB mX9_folds 22 bX9_folds_22 = true := by decide +kernel
def bX9_folds_27 : List Instr := [.if_icmp .lt 18]
theorem kX9_folds_27 : okB mX9_folds 27 bX9_folds_27 = true := by decide +kernel
def bX9_folds_30 : List Instr := [.iload_n 1, .iconst (-1), .if_icmp .ne 10]
theorem kX9_folds_30 : okB mX9_folds 30 bX9_folds_30 = true := by decide +kernel
def bX9_folds_35 : List Instr := [.aload_n 0]
theorem kX9_folds_35 : okB mX9_folds 35 bX9_folds_35 = true := by decide +kernel
def bX9_folds_39 : List Instr := [.goto 5]
theorem kX9_folds_39 : okB mX9_folds 39 bX9_folds_39 = true := by decide +kernel
def bX9_folds_42 : List Instr := [.bipush (-5)]
theorem kX9_folds_42 : okB mX9_folds 42 bX9_folds_42 = true := by decide +kernel
def bX9_folds_44 : List Instr := [.ireturn]
theorem kX9_folds_44 : okB mX9_folds 44 bX9_folds_44 = true := by decide +kernel
def bX9_folds_45 : List Instr := [.aload_n 0, .iload_n 1]
theorem kX9_folds_45 : okB mX9_folds 45 bX9_folds_45 = true := by decide +kernel
def bX9_folds_50 : List Instr := [.sipush 1000, .aload_n 0, .getfield 175, .imul, .bipush 10, .aload_n 0, .getfield 178, .bipush 20, .iadd, .imul, .iadd, .aload_n 0, .getfield 181, .iadd, .ireturn]
theorem kX9_folds_50 : okB mX9_folds 50 bX9_folds_50 = true := by decide +kernel
theorem dX9_folds_9 : decode mX9_folds.2.2.1 9 = .ok (.invokevirtual 59, 3) := by decide +kernel
theorem dX9_folds_14 : decode mX9_folds.2.2.1 14 = .ok (.invokevirtual 107, 3) := by decide +kernel
theorem dX9_folds_24 : decode mX9_folds.2.2.1 24 = .ok (.invokevirtual 184, 3) := by decide +kernel
theorem dX9_folds_36 : decode mX9_folds.2.2.1 36 = .ok (.invokevirtual 184, 3) := by decide +kernel
theorem dX9_folds_47 : decode mX9_folds.2.2.1 47 = .ok (.invokevirtual 187, 3) := by decide +kernel
def bX9_rules_0 : List Instr := [.iconst 0, .istore_n 2, .iconst 0, .istore_n 3]
theorem kX9_rules_0 : okB mX9_rules 0 bX9_rules_0 = true := by decide +kernel
def bX9_rules_4 : List Instr := [.iload_n 3, .aload_n 0, .getfield 7, .iconst 2, .iaload, .if_icmp .ge 114]
theorem kX9_rules_4 : okB mX9_rules 4 bX9_rules_4 = true := by decide +kernel
def bX9_rules_14 : List Instr := [.aload_n 0, .iload_n 3]
theorem kX9_rules_14 : okB mX9_rules 14 bX9_rules_14 = true := by decide +kernel
def bX9_rules_19 : List Instr := [.ifCond .eq 16]
theorem kX9_rules_19 : okB mX9_rules 19 bX9_rules_19 = true := by decide +kernel
def bX9_rules_22 : List Instr := [.aload_n 0, .iload_n 3]
theorem kX9_rules_22 : okB mX9_rules 22 bX9_rules_22 = true := by decide +kernel
def bX9_rules_27 : List Instr := [.iload_n 1, .if_icmp .ne 7]
theorem kX9_rules_27 : okB mX9_rules 27 bX9_rules_27 = true := by decide +kernel
def bX9_rules_31 : List Instr := [.iconst 1, .goto 4]
theorem kX9_rules_31 : okB mX9_rules 31 bX9_rules_31 = true := by decide +kernel
def bX9_rules_35 : List Instr := [.iconst 0]
theorem kX9_rules_35 : okB mX9_rules 35 bX9_rules_35 = true := by decide +kernel
def bX9_rules_36 : List Instr := [.istore 4, .iload_n 2, .iload 4, .ifCond .eq 75]
theorem kX9_rules_36 : okB mX9_rules 36 bX9_rules_36 = true := by decide +kernel
def bX9_rules_44 : List Instr := [.aload_n 0, .aload_n 0, .getfield 23, .aload_n 0, .getfield 7, .bipush 8, .iload_n 3, .iadd, .iaload, .ifCond .ge 7]
theorem kX9_rules_44 : okB mX9_rules 44 bX9_rules_44 = true := by decide +kernel
def bX9_rules_61 : List Instr := [.iconst 0, .goto 12]
theorem kX9_rules_61 : okB mX9_rules 61 bX9_rules_61 = true := by decide +kernel
def bX9_rules_65 : List Instr := [.aload_n 0, .getfield 7, .bipush 8, .iload_n 3, .iadd, .iaload]
theorem kX9_rules_65 : okB mX9_rules 65 bX9_rules_65 = true := by decide +kernel
def bX9_rules_74 : List Instr := [.iaload, .aload_n 0, .getfield 26, .aload_n 0, .getfield 7, .bipush 8, .iload_n 3, .iadd, .iaload, .ifCond .ge 7]
theorem kX9_rules_74 : okB mX9_rules 74 bX9_rules_74 = true := by decide +kernel
def bX9_rules_91 : List Instr := [.iconst 0, .goto 12]
theorem kX9_rules_91 : okB mX9_rules 91 bX9_rules_91 = true := by decide +kernel
def bX9_rules_95 : List Instr := [.aload_n 0, .getfield 7, .bipush 8, .iload_n 3, .iadd, .iaload]
theorem kX9_rules_95 : okB mX9_rules 95 bX9_rules_95 = true := by decide +kernel
def bX9_rules_104 : List Instr := [.iaload]
theorem kX9_rules_104 : okB mX9_rules 104 bX9_rules_104 = true := by decide +kernel
def bX9_rules_108 : List Instr := [.iload_n 3, .if_icmp .ne 7]
theorem kX9_rules_108 : okB mX9_rules 108 bX9_rules_108 = true := by decide +kernel
def bX9_rules_112 : List Instr := [.iconst 1, .goto 4]
theorem kX9_rules_112 : okB mX9_rules 112 bX9_rules_112 = true := by decide +kernel
def bX9_rules_116 : List Instr := [.iconst 0]
theorem kX9_rules_116 : okB mX9_rules 116 bX9_rules_116 = true := by decide +kernel
def bX9_rules_117 : List Instr := [.iadd, .istore_n 2, .iinc 3 1, .goto (-118)]
theorem kX9_rules_117 : okB mX9_rules 117 bX9_rules_117 = true := by decide +kernel
def bX9_rules_125 : List Instr := [.iload_n 2, .ireturn]
theorem kX9_rules_125 : okB mX9_rules 125 bX9_rules_125 = true := by decide +kernel
theorem dX9_rules_16 : decode mX9_rules.2.2.1 16 = .ok (.invokevirtual 114, 3) := by decide +kernel
theorem dX9_rules_24 : decode mX9_rules.2.2.1 24 = .ok (.invokevirtual 124, 3) := by decide +kernel
theorem dX9_rules_105 : decode mX9_rules.2.2.1 105 = .ok (.invokevirtual 121, 3) := by decide +kernel
def bX9_laysWith_0 : List Instr := [.aload_n 0]
theorem kX9_laysWith_0 : okB mX9_laysWith 0 bX9_laysWith_0 = true := by decide +kernel
def bX9_laysWith_4 : List Instr := [.aload_n 0, .iload_n 1]
theorem kX9_laysWith_4 : okB mX9_laysWith 4 bX9_laysWith_4 = true := by decide +kernel
def bX9_laysWith_9 : List Instr := [.aload_n 0, .aload_n 0, .getfield 175, .aload_n 0, .getfield 178, .aload_n 0, .getfield 181]
theorem kX9_laysWith_9 : okB mX9_laysWith 9 bX9_laysWith_9 = true := by decide +kernel
def bX9_laysWith_25 : List Instr := [.return_]
theorem kX9_laysWith_25 : okB mX9_laysWith 25 bX9_laysWith_25 = true := by decide +kernel
theorem dX9_laysWith_1 : decode mX9_laysWith.2.2.1 1 = .ok (.invokevirtual 107, 3) := by decide +kernel
theorem dX9_laysWith_6 : decode mX9_laysWith.2.2.1 6 = .ok (.invokevirtual 187, 3) := by decide +kernel
theorem dX9_laysWith_22 : decode mX9_laysWith.2.2.1 22 = .ok (.invokevirtual 80, 3) := by decide +kernel
def bX9_leaves_0 : List Instr := [.aload_n 0]
theorem kX9_leaves_0 : okB mX9_leaves 0 bX9_leaves_0 = true := by decide +kernel
def bX9_leaves_4 : List Instr := [.iload_n 1, .i2l, .lconst 0, .aload_n 0]
theorem kX9_leaves_4 : okB mX9_leaves 4 bX9_leaves_4 = true := by decide +kernel
def bX9_leaves_11 : List Instr := [.iconst 1, .isub, .i2l]
theorem kX9_leaves_11 : okB mX9_leaves 11 bX9_leaves_11 = true := by decide +kernel
def bX9_leaves_17 : List Instr := [.ifCond .eq 13]
theorem kX9_leaves_17 : okB mX9_leaves 17 bX9_leaves_17 = true := by decide +kernel
def bX9_leaves_20 : List Instr := [.iload_n 2, .i2l, .lconst 0, .lconst 1]
theorem kX9_leaves_20 : okB mX9_leaves 20 bX9_leaves_20 = true := by decide +kernel
def bX9_leaves_27 : List Instr := [.ifCond .ne 8]
theorem kX9_leaves_27 : okB mX9_leaves 27 bX9_leaves_27 = true := by decide +kernel
def bX9_leaves_30 : List Instr := [.aload_n 0]
theorem kX9_leaves_30 : okB mX9_leaves 30 bX9_leaves_30 = true := by decide +kernel
def bX9_leaves_34 : List Instr := [.ireturn]
theorem kX9_leaves_34 : okB mX9_leaves 34 bX9_leaves_34 = true := by decide +kernel
def bX9_leaves_35 : List Instr := [.aload_n 0, .iload_n 1]
theorem kX9_leaves_35 : okB mX9_leaves 35 bX9_leaves_35 = true := by decide +kernel
def bX9_leaves_40 : List Instr := [.aload_n 0, .iload_n 2]
theorem kX9_leaves_40 : okB mX9_leaves 40 bX9_leaves_40 = true := by decide +kernel
def bX9_leaves_45 : List Instr := [.ireturn]
theorem kX9_leaves_45 : okB mX9_leaves 45 bX9_leaves_45 = true := by decide +kernel
theorem dX9_leaves_1 : decode mX9_leaves.2.2.1 1 = .ok (.invokevirtual 107, 3) := by decide +kernel
theorem dX9_leaves_8 : decode mX9_leaves.2.2.1 8 = .ok (.invokevirtual 184, 3) := by decide +kernel
theorem dX9_leaves_14 : decode mX9_leaves.2.2.1 14 = .ok (.invokestatic 65, 3) := by decide +kernel
theorem dX9_leaves_24 : decode mX9_leaves.2.2.1 24 = .ok (.invokestatic 65, 3) := by decide +kernel
theorem dX9_leaves_31 : decode mX9_leaves.2.2.1 31 = .ok (.invokevirtual 88, 3) := by decide +kernel
theorem dX9_leaves_37 : decode mX9_leaves.2.2.1 37 = .ok (.invokevirtual 191, 3) := by decide +kernel
theorem dX9_leaves_42 : decode mX9_leaves.2.2.1 42 = .ok (.invokevirtual 194, 3) := by decide +kernel
def bX9_habitNow_0 : List Instr := [.aload_n 0]
theorem kX9_habitNow_0 : okB mX9_habitNow 0 bX9_habitNow_0 = true := by decide +kernel
def bX9_habitNow_4 : List Instr := [.aload_n 0]
theorem kX9_habitNow_4 : okB mX9_habitNow 4 bX9_habitNow_4 = true := by decide +kernel
def bX9_habitNow_8 : List Instr := [.istore_n 1, .aload_n 0]
theorem kX9_habitNow_8 : okB mX9_habitNow 8 bX9_habitNow_8 = true := by decide +kernel
def bX9_habitNow_13 : List Instr := [.istore_n 2, .iconst (-1), .istore_n 3, .iconst 0, .istore 4, .iconst 0, .istore 5]
theorem kX9_habitNow_13 : okB mX9_habitNow 13 bX9_habitNow_13 = true := by decide +kernel
def bX9_habitNow_22 : List Instr := [.iload 5, .iload_n 2, .if_icmp .ge 49]
theorem kX9_habitNow_22 : okB mX9_habitNow 22 bX9_habitNow_22 = true := by decide +kernel
def bX9_habitNow_28 : List Instr := [.aload_n 0, .iload 5]
theorem kX9_habitNow_28 : okB mX9_habitNow 28 bX9_habitNow_28 = true := by decide +kernel
def bX9_habitNow_34 : List Instr := [.aload_n 0, .iload_n 1]
theorem kX9_habitNow_34 : okB mX9_habitNow 34 bX9_habitNow_34 = true := by decide +kernel
def bX9_habitNow_39 : List Instr := [.aload_n 0, .iconst 1, .iload_n 1, .isub]
theorem kX9_habitNow_39 : okB mX9_habitNow 39 bX9_habitNow_39 = true := by decide +kernel
def bX9_habitNow_46 : List Instr := [.isub, .istore 6, .iload_n 3, .iconst (-1), .if_icmp .eq 10]
theorem kX9_habitNow_46 : okB mX9_habitNow 46 bX9_habitNow_46 = true := by decide +kernel
def bX9_habitNow_54 : List Instr := [.iload 6, .iload 4, .if_icmp .le 10]
theorem kX9_habitNow_54 : okB mX9_habitNow 54 bX9_habitNow_54 = true := by decide +kernel
def bX9_habitNow_61 : List Instr := [.iload 5, .istore_n 3, .iload 6, .istore 4]
theorem kX9_habitNow_61 : okB mX9_habitNow 61 bX9_habitNow_61 = true := by decide +kernel
def bX9_habitNow_68 : List Instr := [.iinc 5 1, .goto (-49)]
theorem kX9_habitNow_68 : okB mX9_habitNow 68 bX9_habitNow_68 = true := by decide +kernel
def bX9_habitNow_74 : List Instr := [.aload_n 0]
theorem kX9_habitNow_74 : okB mX9_habitNow 74 bX9_habitNow_74 = true := by decide +kernel
def bX9_habitNow_78 : List Instr := [.iload_n 3, .ireturn]
theorem kX9_habitNow_78 : okB mX9_habitNow 78 bX9_habitNow_78 = true := by decide +kernel
theorem dX9_habitNow_1 : decode mX9_habitNow.2.2.1 1 = .ok (.invokevirtual 107, 3) := by decide +kernel
theorem dX9_habitNow_5 : decode mX9_habitNow.2.2.1 5 = .ok (.invokevirtual 169, 3) := by decide +kernel
theorem dX9_habitNow_10 : decode mX9_habitNow.2.2.1 10 = .ok (.invokevirtual 184, 3) := by decide +kernel
theorem dX9_habitNow_31 : decode mX9_habitNow.2.2.1 31 = .ok (.invokevirtual 191, 3) := by decide +kernel
theorem dX9_habitNow_36 : decode mX9_habitNow.2.2.1 36 = .ok (.invokevirtual 194, 3) := by decide +kernel
theorem dX9_habitNow_43 : decode mX9_habitNow.2.2.1 43 = .ok (.invokevirtual 194, 3) := by decide +kernel
theorem dX9_habitNow_75 : decode mX9_habitNow.2.2.1 75 = .ok (.invokevirtual 107, 3) := by decide +kernel
def bX9_habit_0 : List Instr := [.aload_n 0]
theorem kX9_habit_0 : okB mX9_habit 0 bX9_habit_0 = true := by decide +kernel
def bX9_habit_4 : List Instr := [.ireturn]
theorem kX9_habit_4 : okB mX9_habit 4 bX9_habit_4 = true := by decide +kernel
theorem dX9_habit_1 : decode mX9_habit.2.2.1 1 = .ok (.invokevirtual 197, 3) := by decide +kernel
def bX9_safeNow_0 : List Instr := [.iconst 0, .istore_n 1, .iconst 0, .istore_n 2]
theorem kX9_safeNow_0 : okB mX9_safeNow 0 bX9_safeNow_0 = true := by decide +kernel
def bX9_safeNow_4 : List Instr := [.iload_n 2, .aload_n 0, .getfield 7, .iconst 2, .iaload, .if_icmp .ge 71]
theorem kX9_safeNow_4 : okB mX9_safeNow 4 bX9_safeNow_4 = true := by decide +kernel
def bX9_safeNow_14 : List Instr := [.aload_n 0, .iload_n 2]
theorem kX9_safeNow_14 : okB mX9_safeNow 14 bX9_safeNow_14 = true := by decide +kernel
def bX9_safeNow_19 : List Instr := [.ifCond .eq 57]
theorem kX9_safeNow_19 : okB mX9_safeNow 19 bX9_safeNow_19 = true := by decide +kernel
def bX9_safeNow_22 : List Instr := [.iload_n 1, .aload_n 0, .aload_n 0, .aload_n 0, .getfield 23, .aload_n 0, .getfield 7, .bipush 8, .iload_n 2, .iadd, .iaload, .iaload, .aload_n 0, .getfield 26, .aload_n 0, .getfield 7, .bipush 8, .iload_n 2, .iadd, .iaload, .iaload]
theorem kX9_safeNow_22 : okB mX9_safeNow 22 bX9_safeNow_22 = true := by decide +kernel
def bX9_safeNow_59 : List Instr := [.aload_n 0, .iload_n 2]
theorem kX9_safeNow_59 : okB mX9_safeNow 59 bX9_safeNow_59 = true := by decide +kernel
def bX9_safeNow_64 : List Instr := [.if_icmp .ne 9]
theorem kX9_safeNow_64 : okB mX9_safeNow 64 bX9_safeNow_64 = true := by decide +kernel
def bX9_safeNow_67 : List Instr := [.iconst 1, .iload_n 2, .ishl, .goto 4]
theorem kX9_safeNow_67 : okB mX9_safeNow 67 bX9_safeNow_67 = true := by decide +kernel
def bX9_safeNow_73 : List Instr := [.iconst 0]
theorem kX9_safeNow_73 : okB mX9_safeNow 73 bX9_safeNow_73 = true := by decide +kernel
def bX9_safeNow_74 : List Instr := [.ior, .istore_n 1]
theorem kX9_safeNow_74 : okB mX9_safeNow 74 bX9_safeNow_74 = true := by decide +kernel
def bX9_safeNow_76 : List Instr := [.iinc 2 1, .goto (-75)]
theorem kX9_safeNow_76 : okB mX9_safeNow 76 bX9_safeNow_76 = true := by decide +kernel
def bX9_safeNow_82 : List Instr := [.iload_n 1, .ireturn]
theorem kX9_safeNow_82 : okB mX9_safeNow 82 bX9_safeNow_82 = true := by decide +kernel
theorem dX9_safeNow_16 : decode mX9_safeNow.2.2.1 16 = .ok (.invokevirtual 114, 3) := by decide +kernel
theorem dX9_safeNow_53 : decode mX9_safeNow.2.2.1 53 = .ok (.invokevirtual 121, 3) := by decide +kernel
theorem dX9_safeNow_56 : decode mX9_safeNow.2.2.1 56 = .ok (.invokevirtual 124, 3) := by decide +kernel
theorem dX9_safeNow_61 : decode mX9_safeNow.2.2.1 61 = .ok (.invokevirtual 124, 3) := by decide +kernel
def bX9_safe_0 : List Instr := [.aload_n 0]
theorem kX9_safe_0 : okB mX9_safe 0 bX9_safe_0 = true := by decide +kernel
def bX9_safe_4 : List Instr := [.aload_n 0]
theorem kX9_safe_4 : okB mX9_safe 4 bX9_safe_4 = true := by decide +kernel
def bX9_safe_8 : List Instr := [.istore_n 1, .aload_n 0]
theorem kX9_safe_8 : okB mX9_safe 8 bX9_safe_8 = true := by decide +kernel
def bX9_safe_13 : List Instr := [.istore_n 2, .iconst 0, .istore_n 3]
theorem kX9_safe_13 : okB mX9_safe 13 bX9_safe_13 = true := by decide +kernel
def bX9_safe_16 : List Instr := [.iload_n 3, .iload_n 2, .if_icmp .ge 21]
theorem kX9_safe_16 : okB mX9_safe 16 bX9_safe_16 = true := by decide +kernel
def bX9_safe_21 : List Instr := [.aload_n 0, .iload_n 3]
theorem kX9_safe_21 : okB mX9_safe 21 bX9_safe_21 = true := by decide +kernel
def bX9_safe_26 : List Instr := [.iload_n 1, .aload_n 0]
theorem kX9_safe_26 : okB mX9_safe 26 bX9_safe_26 = true := by decide +kernel
def bX9_safe_31 : List Instr := [.iand, .istore_n 1, .iinc 3 1, .goto (-20)]
theorem kX9_safe_31 : okB mX9_safe 31 bX9_safe_31 = true := by decide +kernel
def bX9_safe_39 : List Instr := [.iload_n 1, .ireturn]
theorem kX9_safe_39 : okB mX9_safe 39 bX9_safe_39 = true := by decide +kernel
theorem dX9_safe_1 : decode mX9_safe.2.2.1 1 = .ok (.invokevirtual 107, 3) := by decide +kernel
theorem dX9_safe_5 : decode mX9_safe.2.2.1 5 = .ok (.invokevirtual 200, 3) := by decide +kernel
theorem dX9_safe_10 : decode mX9_safe.2.2.1 10 = .ok (.invokevirtual 184, 3) := by decide +kernel
theorem dX9_safe_23 : decode mX9_safe.2.2.1 23 = .ok (.invokevirtual 191, 3) := by decide +kernel
theorem dX9_safe_28 : decode mX9_safe.2.2.1 28 = .ok (.invokevirtual 200, 3) := by decide +kernel
def bX9_places_0 : List Instr := [.iconst 0, .istore_n 1, .iconst 0, .istore_n 2]
theorem kX9_places_0 : okB mX9_places 0 bX9_places_0 = true := by decide +kernel
def bX9_places_4 : List Instr := [.iload_n 2, .bipush 36, .if_icmp .ge 73]
theorem kX9_places_4 : okB mX9_places 4 bX9_places_4 = true := by decide +kernel
def bX9_places_10 : List Instr := [.aload_n 0, .iload_n 2]
theorem kX9_places_10 : okB mX9_places 10 bX9_places_10 = true := by decide +kernel
def bX9_places_15 : List Instr := [.istore_n 3, .iconst 0, .istore 4]
theorem kX9_places_15 : okB mX9_places 15 bX9_places_15 = true := by decide +kernel
def bX9_places_19 : List Instr := [.iload 4, .iload_n 2, .if_icmp .ge 40]
theorem kX9_places_19 : okB mX9_places 19 bX9_places_19 = true := by decide +kernel
def bX9_places_25 : List Instr := [.iload_n 3, .ifCond .eq 36]
theorem kX9_places_25 : okB mX9_places 25 bX9_places_25 = true := by decide +kernel
def bX9_places_29 : List Instr := [.aload_n 0, .iload 4, .aload_n 0, .getfield 23, .iload_n 2, .iaload, .aload_n 0, .getfield 26, .iload_n 2, .iaload]
theorem kX9_places_29 : okB mX9_places 29 bX9_places_29 = true := by decide +kernel
def bX9_places_47 : List Instr := [.ifCond .ne 7]
theorem kX9_places_47 : okB mX9_places 47 bX9_places_47 = true := by decide +kernel
def bX9_places_50 : List Instr := [.iconst 1, .goto 4]
theorem kX9_places_50 : okB mX9_places 50 bX9_places_50 = true := by decide +kernel
def bX9_places_54 : List Instr := [.iconst 0]
theorem kX9_places_54 : okB mX9_places 54 bX9_places_54 = true := by decide +kernel
def bX9_places_55 : List Instr := [.istore_n 3, .iinc 4 1, .goto (-40)]
theorem kX9_places_55 : okB mX9_places 55 bX9_places_55 = true := by decide +kernel
def bX9_places_62 : List Instr := [.iload_n 1, .iload_n 3, .ifCond .eq 7]
theorem kX9_places_62 : okB mX9_places 62 bX9_places_62 = true := by decide +kernel
def bX9_places_67 : List Instr := [.iconst 1, .goto 4]
theorem kX9_places_67 : okB mX9_places 67 bX9_places_67 = true := by decide +kernel
def bX9_places_71 : List Instr := [.iconst 0]
theorem kX9_places_71 : okB mX9_places 71 bX9_places_71 = true := by decide +kernel
def bX9_places_72 : List Instr := [.iadd, .istore_n 1, .iinc 2 1, .goto (-73)]
theorem kX9_places_72 : okB mX9_places 72 bX9_places_72 = true := by decide +kernel
def bX9_places_80 : List Instr := [.iload_n 1, .ireturn]
theorem kX9_places_80 : okB mX9_places 80 bX9_places_80 = true := by decide +kernel
theorem dX9_places_12 : decode mX9_places.2.2.1 12 = .ok (.invokevirtual 69, 3) := by decide +kernel
theorem dX9_places_44 : decode mX9_places.2.2.1 44 = .ok (.invokevirtual 110, 3) := by decide +kernel
def bX9_small_0 : List Instr := [.iload_n 1, .i2l, .lconst 1, .ldc2_w 203]
theorem kX9_small_0 : okB mX9_small 0 bX9_small_0 = true := by decide +kernel
def bX9_small_9 : List Instr := [.ifCond .ne 8]
theorem kX9_small_9 : okB mX9_small 9 bX9_small_9 = true := by decide +kernel
def bX9_small_12 : List Instr := [.aload_n 0]
theorem kX9_small_12 : okB mX9_small 12 bX9_small_12 = true := by decide +kernel
def bX9_small_16 : List Instr := [.ireturn]
theorem kX9_small_16 : okB mX9_small 16 bX9_small_16 = true := by decide +kernel
def bX9_small_17 : List Instr := [.aload_n 0]
theorem kX9_small_17 : okB mX9_small 17 bX9_small_17 = true := by decide +kernel
def bX9_small_21 : List Instr := [.aload_n 0]
theorem kX9_small_21 : okB mX9_small 21 bX9_small_21 = true := by decide +kernel
def bX9_small_25 : List Instr := [.iload_n 1, .if_icmp .gt 5]
theorem kX9_small_25 : okB mX9_small 25 bX9_small_25 = true := by decide +kernel
def bX9_small_29 : List Instr := [.iconst 0, .ireturn]
theorem kX9_small_29 : okB mX9_small 29 bX9_small_29 = true := by decide +kernel
def bX9_small_31 : List Instr := [.iconst 4, .istore_n 2, .aload_n 0]
theorem kX9_small_31 : okB mX9_small 31 bX9_small_31 = true := by decide +kernel
def bX9_small_37 : List Instr := [.istore_n 3, .iconst 0, .istore 4]
theorem kX9_small_37 : okB mX9_small 37 bX9_small_37 = true := by decide +kernel
def bX9_small_41 : List Instr := [.iload 4, .iload_n 3, .if_icmp .ge 254]
theorem kX9_small_41 : okB mX9_small 41 bX9_small_41 = true := by decide +kernel
def bX9_small_47 : List Instr := [.iload_n 2, .iconst 1, .if_icmp .le 249]
theorem kX9_small_47 : okB mX9_small 47 bX9_small_47 = true := by decide +kernel
def bX9_small_52 : List Instr := [.aload_n 0]
theorem kX9_small_52 : okB mX9_small 52 bX9_small_52 = true := by decide +kernel
def bX9_small_56 : List Instr := [.aload_n 0, .iload 4]
theorem kX9_small_56 : okB mX9_small 56 bX9_small_56 = true := by decide +kernel
def bX9_small_62 : List Instr := [.aload_n 0, .aload_n 0, .getfield 175, .aload_n 0, .getfield 178, .aload_n 0, .getfield 181]
theorem kX9_small_62 : okB mX9_small 62 bX9_small_62 = true := by decide +kernel
def bX9_small_78 : List Instr := [.aload_n 0]
theorem kX9_small_78 : okB mX9_small 78 bX9_small_78 = true := by decide +kernel
def bX9_small_82 : List Instr := [.iload_n 1, .if_icmp .gt 7]
theorem kX9_small_82 : okB mX9_small 82 bX9_small_82 = true := by decide +kernel
def bX9_small_86 : List Instr := [.iconst 1, .goto 4]
theorem kX9_small_86 : okB mX9_small 86 bX9_small_86 = true := by decide +kernel
def bX9_small_90 : List Instr := [.iload_n 2]
theorem kX9_small_90 : okB mX9_small 90 bX9_small_90 = true := by decide +kernel
def bX9_small_91 : List Instr := [.istore_n 2, .aload_n 0]
theorem kX9_small_91 : okB mX9_small 91 bX9_small_91 = true := by decide +kernel
def bX9_small_96 : List Instr := [.istore 5, .iconst 0, .istore 6]
theorem kX9_small_96 : okB mX9_small 96 bX9_small_96 = true := by decide +kernel
def bX9_small_101 : List Instr := [.iload 6, .iload 5, .if_icmp .ge 187]
theorem kX9_small_101 : okB mX9_small 101 bX9_small_101 = true := by decide +kernel
def bX9_small_108 : List Instr := [.iload_n 2, .iconst 2, .if_icmp .le 182]
theorem kX9_small_108 : okB mX9_small 108 bX9_small_108 = true := by decide +kernel
def bX9_small_113 : List Instr := [.aload_n 0]
theorem kX9_small_113 : okB mX9_small 113 bX9_small_113 = true := by decide +kernel
def bX9_small_117 : List Instr := [.aload_n 0, .iload 4]
theorem kX9_small_117 : okB mX9_small 117 bX9_small_117 = true := by decide +kernel
def bX9_small_123 : List Instr := [.aload_n 0, .aload_n 0, .getfield 175, .aload_n 0, .getfield 178, .aload_n 0, .getfield 181]
theorem kX9_small_123 : okB mX9_small 123 bX9_small_123 = true := by decide +kernel
def bX9_small_139 : List Instr := [.aload_n 0, .iload 6]
theorem kX9_small_139 : okB mX9_small 139 bX9_small_139 = true := by decide +kernel
def bX9_small_145 : List Instr := [.aload_n 0, .aload_n 0, .getfield 175, .aload_n 0, .getfield 178, .aload_n 0, .getfield 181]
theorem kX9_small_145 : okB mX9_small 145 bX9_small_145 = true := by decide +kernel
def bX9_small_161 : List Instr := [.aload_n 0]
theorem kX9_small_161 : okB mX9_small 161 bX9_small_161 = true := by decide +kernel
def bX9_small_165 : List Instr := [.iload_n 1, .if_icmp .gt 7]
theorem kX9_small_165 : okB mX9_small 165 bX9_small_165 = true := by decide +kernel
def bX9_small_169 : List Instr := [.iconst 2, .goto 4]
theorem kX9_small_169 : okB mX9_small 169 bX9_small_169 = true := by decide +kernel
def bX9_small_173 : List Instr := [.iload_n 2]
theorem kX9_small_173 : okB mX9_small 173 bX9_small_173 = true := by decide +kernel
def bX9_small_174 : List Instr := [.istore_n 2, .aload_n 0]
theorem kX9_small_174 : okB mX9_small 174 bX9_small_174 = true := by decide +kernel
def bX9_small_179 : List Instr := [.istore 7, .iconst 0, .istore 8]
theorem kX9_small_179 : okB mX9_small 179 bX9_small_179 = true := by decide +kernel
def bX9_small_184 : List Instr := [.iload 8, .iload 7, .if_icmp .ge 98]
theorem kX9_small_184 : okB mX9_small 184 bX9_small_184 = true := by decide +kernel
def bX9_small_191 : List Instr := [.iload_n 2, .iconst 3, .if_icmp .le 93]
theorem kX9_small_191 : okB mX9_small 191 bX9_small_191 = true := by decide +kernel
def bX9_small_196 : List Instr := [.aload_n 0]
theorem kX9_small_196 : okB mX9_small 196 bX9_small_196 = true := by decide +kernel
def bX9_small_200 : List Instr := [.aload_n 0, .iload 4]
theorem kX9_small_200 : okB mX9_small 200 bX9_small_200 = true := by decide +kernel
def bX9_small_206 : List Instr := [.aload_n 0, .aload_n 0, .getfield 175, .aload_n 0, .getfield 178, .aload_n 0, .getfield 181]
theorem kX9_small_206 : okB mX9_small 206 bX9_small_206 = true := by decide +kernel
def bX9_small_222 : List Instr := [.aload_n 0, .iload 6]
theorem kX9_small_222 : okB mX9_small 222 bX9_small_222 = true := by decide +kernel
def bX9_small_228 : List Instr := [.aload_n 0, .aload_n 0, .getfield 175, .aload_n 0, .getfield 178, .aload_n 0, .getfield 181]
theorem kX9_small_228 : okB mX9_small 228 bX9_small_228 = true := by decide +kernel
def bX9_small_244 : List Instr := [.aload_n 0, .iload 8]
theorem kX9_small_244 : okB mX9_small 244 bX9_small_244 = true := by decide +kernel
def bX9_small_250 : List Instr := [.aload_n 0, .aload_n 0, .getfield 175, .aload_n 0, .getfield 178, .aload_n 0, .getfield 181]
theorem kX9_small_250 : okB mX9_small 250 bX9_small_250 = true := by decide +kernel
def bX9_small_266 : List Instr := [.aload_n 0]
theorem kX9_small_266 : okB mX9_small 266 bX9_small_266 = true := by decide +kernel
def bX9_small_270 : List Instr := [.iload_n 1, .if_icmp .gt 7]
theorem kX9_small_270 : okB mX9_small 270 bX9_small_270 = true := by decide +kernel
def bX9_small_274 : List Instr := [.iconst 3, .goto 4]
theorem kX9_small_274 : okB mX9_small 274 bX9_small_274 = true := by decide +kernel
def bX9_small_278 : List Instr := [.iload_n 2]
theorem kX9_small_278 : okB mX9_small 278 bX9_small_278 = true := by decide +kernel
def bX9_small_279 : List Instr := [.istore_n 2, .iinc 8 1, .goto (-99)]
theorem kX9_small_279 : okB mX9_small 279 bX9_small_279 = true := by decide +kernel
def bX9_small_286 : List Instr := [.iinc 6 1, .goto (-188)]
theorem kX9_small_286 : okB mX9_small 286 bX9_small_286 = true := by decide +kernel
def bX9_small_292 : List Instr := [.iinc 4 1, .goto (-254)]
theorem kX9_small_292 : okB mX9_small 292 bX9_small_292 = true := by decide +kernel
def bX9_small_298 : List Instr := [.iload_n 2, .iconst 4, .if_icmp .ne 7]
theorem kX9_small_298 : okB mX9_small 298 bX9_small_298 = true := by decide +kernel
def bX9_small_303 : List Instr := [.iconst (-1), .goto 4]
theorem kX9_small_303 : okB mX9_small 303 bX9_small_303 = true := by decide +kernel
def bX9_small_307 : List Instr := [.iload_n 2]
theorem kX9_small_307 : okB mX9_small 307 bX9_small_307 = true := by decide +kernel
def bX9_small_308 : List Instr := [.ireturn]
theorem kX9_small_308 : okB mX9_small 308 bX9_small_308 = true := by decide +kernel
theorem dX9_small_6 : decode mX9_small.2.2.1 6 = .ok (.invokestatic 65, 3) := by decide +kernel
theorem dX9_small_13 : decode mX9_small.2.2.1 13 = .ok (.invokevirtual 88, 3) := by decide +kernel
theorem dX9_small_18 : decode mX9_small.2.2.1 18 = .ok (.invokevirtual 77, 3) := by decide +kernel
theorem dX9_small_22 : decode mX9_small.2.2.1 22 = .ok (.invokevirtual 205, 3) := by decide +kernel
theorem dX9_small_34 : decode mX9_small.2.2.1 34 = .ok (.invokevirtual 184, 3) := by decide +kernel
theorem dX9_small_53 : decode mX9_small.2.2.1 53 = .ok (.invokevirtual 77, 3) := by decide +kernel
theorem dX9_small_59 : decode mX9_small.2.2.1 59 = .ok (.invokevirtual 187, 3) := by decide +kernel
theorem dX9_small_75 : decode mX9_small.2.2.1 75 = .ok (.invokevirtual 80, 3) := by decide +kernel
theorem dX9_small_79 : decode mX9_small.2.2.1 79 = .ok (.invokevirtual 205, 3) := by decide +kernel
theorem dX9_small_93 : decode mX9_small.2.2.1 93 = .ok (.invokevirtual 184, 3) := by decide +kernel
theorem dX9_small_114 : decode mX9_small.2.2.1 114 = .ok (.invokevirtual 77, 3) := by decide +kernel
theorem dX9_small_120 : decode mX9_small.2.2.1 120 = .ok (.invokevirtual 187, 3) := by decide +kernel
theorem dX9_small_136 : decode mX9_small.2.2.1 136 = .ok (.invokevirtual 80, 3) := by decide +kernel
theorem dX9_small_142 : decode mX9_small.2.2.1 142 = .ok (.invokevirtual 187, 3) := by decide +kernel
theorem dX9_small_158 : decode mX9_small.2.2.1 158 = .ok (.invokevirtual 80, 3) := by decide +kernel
theorem dX9_small_162 : decode mX9_small.2.2.1 162 = .ok (.invokevirtual 205, 3) := by decide +kernel
theorem dX9_small_176 : decode mX9_small.2.2.1 176 = .ok (.invokevirtual 184, 3) := by decide +kernel
theorem dX9_small_197 : decode mX9_small.2.2.1 197 = .ok (.invokevirtual 77, 3) := by decide +kernel
theorem dX9_small_203 : decode mX9_small.2.2.1 203 = .ok (.invokevirtual 187, 3) := by decide +kernel
theorem dX9_small_219 : decode mX9_small.2.2.1 219 = .ok (.invokevirtual 80, 3) := by decide +kernel
theorem dX9_small_225 : decode mX9_small.2.2.1 225 = .ok (.invokevirtual 187, 3) := by decide +kernel
theorem dX9_small_241 : decode mX9_small.2.2.1 241 = .ok (.invokevirtual 80, 3) := by decide +kernel
theorem dX9_small_247 : decode mX9_small.2.2.1 247 = .ok (.invokevirtual 187, 3) := by decide +kernel
theorem dX9_small_263 : decode mX9_small.2.2.1 263 = .ok (.invokevirtual 80, 3) := by decide +kernel
theorem dX9_small_267 : decode mX9_small.2.2.1 267 = .ok (.invokevirtual 205, 3) := by decide +kernel
def bX9_reach_0 : List Instr := [.aload_n 0]
theorem kX9_reach_0 : okB mX9_reach 0 bX9_reach_0 = true := by decide +kernel
def bX9_reach_4 : List Instr := [.aload_n 0, .iload_n 1, .iload_n 2]
theorem kX9_reach_4 : okB mX9_reach 4 bX9_reach_4 = true := by decide +kernel
def bX9_reach_10 : List Instr := [.iconst (-1), .if_icmp .eq 15]
theorem kX9_reach_10 : okB mX9_reach 10 bX9_reach_10 = true := by decide +kernel
def bX9_reach_14 : List Instr := [.iload_n 3, .i2l, .lconst 0, .ldc2_w 100]
theorem kX9_reach_14 : okB mX9_reach 14 bX9_reach_14 = true := by decide +kernel
def bX9_reach_23 : List Instr := [.ifCond .ne 8]
theorem kX9_reach_23 : okB mX9_reach 23 bX9_reach_23 = true := by decide +kernel
def bX9_reach_26 : List Instr := [.aload_n 0]
theorem kX9_reach_26 : okB mX9_reach 26 bX9_reach_26 = true := by decide +kernel
def bX9_reach_30 : List Instr := [.ireturn]
theorem kX9_reach_30 : okB mX9_reach 30 bX9_reach_30 = true := by decide +kernel
def bX9_reach_31 : List Instr := [.iconst 0, .istore 4]
theorem kX9_reach_31 : okB mX9_reach 31 bX9_reach_31 = true := by decide +kernel
def bX9_reach_34 : List Instr := [.iload 4, .bipush 36, .if_icmp .ge 17]
theorem kX9_reach_34 : okB mX9_reach 34 bX9_reach_34 = true := by decide +kernel
def bX9_reach_41 : List Instr := [.aload_n 0, .getfield 38, .iload 4, .iconst (-1), .iastore, .iinc 4 1, .goto (-18)]
theorem kX9_reach_41 : okB mX9_reach 41 bX9_reach_41 = true := by decide +kernel
def bX9_reach_55 : List Instr := [.aload_n 0, .getfield 38, .aload_n 0, .iload_n 1, .iload_n 2]
theorem kX9_reach_55 : okB mX9_reach 55 bX9_reach_55 = true := by decide +kernel
def bX9_reach_65 : List Instr := [.iconst 0, .iastore, .iconst 1, .istore 4, .iconst 1, .istore 5]
theorem kX9_reach_65 : okB mX9_reach 65 bX9_reach_65 = true := by decide +kernel
def bX9_reach_73 : List Instr := [.iload 5, .iload_n 3, .if_icmp .gt 167]
theorem kX9_reach_73 : okB mX9_reach 73 bX9_reach_73 = true := by decide +kernel
def bX9_reach_79 : List Instr := [.iconst 0, .istore 6]
theorem kX9_reach_79 : okB mX9_reach 79 bX9_reach_79 = true := by decide +kernel
def bX9_reach_82 : List Instr := [.iload 6, .bipush 36, .if_icmp .ge 151]
theorem kX9_reach_82 : okB mX9_reach 82 bX9_reach_82 = true := by decide +kernel
def bX9_reach_89 : List Instr := [.iconst 0, .istore 7]
theorem kX9_reach_89 : okB mX9_reach 89 bX9_reach_89 = true := by decide +kernel
def bX9_reach_92 : List Instr := [.iload 7, .iconst 4, .if_icmp .ge 136]
theorem kX9_reach_92 : okB mX9_reach 92 bX9_reach_92 = true := by decide +kernel
def bX9_reach_98 : List Instr := [.aload_n 0, .getfield 38, .iload 6, .iaload, .iload 5, .iconst 1, .isub, .if_icmp .ne 122]
theorem kX9_reach_98 : okB mX9_reach 98 bX9_reach_98 = true := by decide +kernel
def bX9_reach_112 : List Instr := [.aload_n 0, .aload_n 0, .getfield 23, .iload 6, .iaload, .iload 7]
theorem kX9_reach_112 : okB mX9_reach 112 bX9_reach_112 = true := by decide +kernel
def bX9_reach_125 : List Instr := [.iadd, .aload_n 0, .getfield 26, .iload 6, .iaload, .iload 7]
theorem kX9_reach_125 : okB mX9_reach 125 bX9_reach_125 = true := by decide +kernel
def bX9_reach_138 : List Instr := [.iadd]
theorem kX9_reach_138 : okB mX9_reach 138 bX9_reach_138 = true := by decide +kernel
def bX9_reach_142 : List Instr := [.istore 8, .iload 8, .iconst (-1), .if_icmp .eq 78]
theorem kX9_reach_142 : okB mX9_reach 142 bX9_reach_142 = true := by decide +kernel
def bX9_reach_150 : List Instr := [.aload_n 0, .getfield 38, .iload 8, .ifCond .ge 7]
theorem kX9_reach_150 : okB mX9_reach 150 bX9_reach_150 = true := by decide +kernel
def bX9_reach_159 : List Instr := [.iconst 0, .goto 5]
theorem kX9_reach_159 : okB mX9_reach 159 bX9_reach_159 = true := by decide +kernel
def bX9_reach_163 : List Instr := [.iload 8]
theorem kX9_reach_163 : okB mX9_reach 163 bX9_reach_163 = true := by decide +kernel
def bX9_reach_165 : List Instr := [.iaload, .iconst (-1), .if_icmp .ne 58]
theorem kX9_reach_165 : okB mX9_reach 165 bX9_reach_165 = true := by decide +kernel
def bX9_reach_170 : List Instr := [.aload_n 0, .aload_n 0, .getfield 23, .iload 6, .iaload, .iload 7]
theorem kX9_reach_170 : okB mX9_reach 170 bX9_reach_170 = true := by decide +kernel
def bX9_reach_183 : List Instr := [.iadd, .aload_n 0, .getfield 26, .iload 6, .iaload, .iload 7]
theorem kX9_reach_183 : okB mX9_reach 183 bX9_reach_183 = true := by decide +kernel
def bX9_reach_196 : List Instr := [.iadd]
theorem kX9_reach_196 : okB mX9_reach 196 bX9_reach_196 = true := by decide +kernel
def bX9_reach_200 : List Instr := [.iconst (-1), .if_icmp .ne 24]
theorem kX9_reach_200 : okB mX9_reach 200 bX9_reach_200 = true := by decide +kernel
def bX9_reach_204 : List Instr := [.aload_n 0, .getfield 38, .iload 8, .ifCond .ge 7]
theorem kX9_reach_204 : okB mX9_reach 204 bX9_reach_204 = true := by decide +kernel
def bX9_reach_213 : List Instr := [.iconst 0, .goto 5]
theorem kX9_reach_213 : okB mX9_reach 213 bX9_reach_213 = true := by decide +kernel
def bX9_reach_217 : List Instr := [.iload 8]
theorem kX9_reach_217 : okB mX9_reach 217 bX9_reach_217 = true := by decide +kernel
def bX9_reach_219 : List Instr := [.iload 5, .iastore, .iinc 4 1]
theorem kX9_reach_219 : okB mX9_reach 219 bX9_reach_219 = true := by decide +kernel
def bX9_reach_225 : List Instr := [.iinc 7 1, .goto (-136)]
theorem kX9_reach_225 : okB mX9_reach 225 bX9_reach_225 = true := by decide +kernel
def bX9_reach_231 : List Instr := [.iinc 6 1, .goto (-152)]
theorem kX9_reach_231 : okB mX9_reach 231 bX9_reach_231 = true := by decide +kernel
def bX9_reach_237 : List Instr := [.iinc 5 1, .goto (-167)]
theorem kX9_reach_237 : okB mX9_reach 237 bX9_reach_237 = true := by decide +kernel
def bX9_reach_243 : List Instr := [.iload 4, .ireturn]
theorem kX9_reach_243 : okB mX9_reach 243 bX9_reach_243 = true := by decide +kernel
theorem dX9_reach_1 : decode mX9_reach.2.2.1 1 = .ok (.invokevirtual 107, 3) := by decide +kernel
theorem dX9_reach_7 : decode mX9_reach.2.2.1 7 = .ok (.invokevirtual 121, 3) := by decide +kernel
theorem dX9_reach_20 : decode mX9_reach.2.2.1 20 = .ok (.invokestatic 65, 3) := by decide +kernel
theorem dX9_reach_27 : decode mX9_reach.2.2.1 27 = .ok (.invokevirtual 88, 3) := by decide +kernel
theorem dX9_reach_62 : decode mX9_reach.2.2.1 62 = .ok (.invokevirtual 140, 3) := by decide +kernel
theorem dX9_reach_122 : decode mX9_reach.2.2.1 122 = .ok (.invokestatic 134, 3) := by decide +kernel
theorem dX9_reach_135 : decode mX9_reach.2.2.1 135 = .ok (.invokestatic 137, 3) := by decide +kernel
theorem dX9_reach_139 : decode mX9_reach.2.2.1 139 = .ok (.invokevirtual 140, 3) := by decide +kernel
theorem dX9_reach_180 : decode mX9_reach.2.2.1 180 = .ok (.invokestatic 134, 3) := by decide +kernel
theorem dX9_reach_193 : decode mX9_reach.2.2.1 193 = .ok (.invokestatic 137, 3) := by decide +kernel
theorem dX9_reach_197 : decode mX9_reach.2.2.1 197 = .ok (.invokevirtual 121, 3) := by decide +kernel
def bX9_settles_0 : List Instr := [.aload_n 0, .getfield 7, .bipush 27, .iaload, .ifCond .le 31]
theorem kX9_settles_0 : okB mX9_settles 0 bX9_settles_0 = true := by decide +kernel
def bX9_settles_10 : List Instr := [.aload_n 0, .aload_n 0]
theorem kX9_settles_10 : okB mX9_settles 10 bX9_settles_10 = true := by decide +kernel
def bX9_settles_18 : List Instr := [.aload_n 0, .aload_n 0, .getfield 175, .aload_n 0, .getfield 178, .aload_n 0, .getfield 181]
theorem kX9_settles_18 : okB mX9_settles 18 bX9_settles_18 = true := by decide +kernel
def bX9_settles_34 : List Instr := [.pop, .goto (-35)]
theorem kX9_settles_34 : okB mX9_settles 34 bX9_settles_34 = true := by decide +kernel
def bX9_settles_38 : List Instr := [.return_]
theorem kX9_settles_38 : okB mX9_settles 38 bX9_settles_38 = true := by decide +kernel
theorem dX9_settles_12 : decode mX9_settles.2.2.1 12 = .ok (.invokevirtual 197, 3) := by decide +kernel
theorem dX9_settles_15 : decode mX9_settles.2.2.1 15 = .ok (.invokevirtual 187, 3) := by decide +kernel
theorem dX9_settles_31 : decode mX9_settles.2.2.1 31 = .ok (.invokevirtual 164, 3) := by decide +kernel
def bX9_picksStep_0 : List Instr := [.aload_n 0, .iconst 0, .iconst 1]
theorem kX9_picksStep_0 : okB mX9_picksStep 0 bX9_picksStep_0 = true := by decide +kernel
def bX9_picksStep_6 : List Instr := [.aload_n 0, .iconst 0, .iconst 0]
theorem kX9_picksStep_6 : okB mX9_picksStep 6 bX9_picksStep_6 = true := by decide +kernel
def bX9_picksStep_12 : List Instr := [.isub, .iconst 1, .iadd, .istore_n 2, .aload_n 0, .iconst 1, .iconst 1]
theorem kX9_picksStep_12 : okB mX9_picksStep 12 bX9_picksStep_12 = true := by decide +kernel
def bX9_picksStep_22 : List Instr := [.aload_n 0, .iconst 1, .iconst 0]
theorem kX9_picksStep_22 : okB mX9_picksStep 22 bX9_picksStep_22 = true := by decide +kernel
def bX9_picksStep_28 : List Instr := [.isub, .iconst 1, .iadd, .istore_n 3, .aload_n 0, .iconst 1, .iload_n 1, .iconst 2, .irem, .iadd, .putfield 208, .aload_n 0, .iload_n 1, .iconst 2, .idiv, .iconst 4, .irem, .putfield 211, .aload_n 0, .aload_n 0, .iconst 0, .iconst 0]
theorem kX9_picksStep_28 : okB mX9_picksStep 28 bX9_picksStep_28 = true := by decide +kernel
def bX9_picksStep_57 : List Instr := [.iload_n 1, .bipush 8, .idiv, .iload_n 2, .irem, .iadd, .putfield 214, .aload_n 0, .aload_n 0, .iconst 1, .iconst 0]
theorem kX9_picksStep_57 : okB mX9_picksStep 57 bX9_picksStep_57 = true := by decide +kernel
def bX9_picksStep_74 : List Instr := [.iload_n 1, .bipush 8, .idiv, .iload_n 2, .idiv, .iadd, .putfield 217, .iload_n 1, .bipush 8, .iload_n 2, .imul, .iload_n 3, .imul, .if_icmp .ge 7]
theorem kX9_picksStep_74 : okB mX9_picksStep 74 bX9_picksStep_74 = true := by decide +kernel
def bX9_picksStep_94 : List Instr := [.iconst 1, .goto 4]
theorem kX9_picksStep_94 : okB mX9_picksStep 94 bX9_picksStep_94 = true := by decide +kernel
def bX9_picksStep_98 : List Instr := [.iconst 0]
theorem kX9_picksStep_98 : okB mX9_picksStep 98 bX9_picksStep_98 = true := by decide +kernel
def bX9_picksStep_99 : List Instr := [.ireturn]
theorem kX9_picksStep_99 : okB mX9_picksStep 99 bX9_picksStep_99 = true := by decide +kernel
theorem dX9_picksStep_3 : decode mX9_picksStep.2.2.1 3 = .ok (.invokevirtual 130, 3) := by decide +kernel
theorem dX9_picksStep_9 : decode mX9_picksStep.2.2.1 9 = .ok (.invokevirtual 130, 3) := by decide +kernel
theorem dX9_picksStep_19 : decode mX9_picksStep.2.2.1 19 = .ok (.invokevirtual 130, 3) := by decide +kernel
theorem dX9_picksStep_25 : decode mX9_picksStep.2.2.1 25 = .ok (.invokevirtual 130, 3) := by decide +kernel
theorem dX9_picksStep_54 : decode mX9_picksStep.2.2.1 54 = .ok (.invokevirtual 130, 3) := by decide +kernel
theorem dX9_picksStep_71 : decode mX9_picksStep.2.2.1 71 = .ok (.invokevirtual 130, 3) := by decide +kernel
def bX9_plays_0 : List Instr := [.iconst 0, .istore_n 3, .iconst 1, .istore 4, .iconst 0, .istore 5]
theorem kX9_plays_0 : okB mX9_plays 0 bX9_plays_0 = true := by decide +kernel
def bX9_plays_8 : List Instr := [.iload_n 3, .ifCond .lt 259]
theorem kX9_plays_8 : okB mX9_plays 8 bX9_plays_8 = true := by decide +kernel
def bX9_plays_12 : List Instr := [.iload 4, .ifCond .eq 75]
theorem kX9_plays_12 : okB mX9_plays 12 bX9_plays_12 = true := by decide +kernel
def bX9_plays_17 : List Instr := [.aload_n 0]
theorem kX9_plays_17 : okB mX9_plays 17 bX9_plays_17 = true := by decide +kernel
def bX9_plays_21 : List Instr := [.istore 6, .iload 6, .iconst (-1), .if_icmp .ne 8]
theorem kX9_plays_21 : okB mX9_plays 21 bX9_plays_21 = true := by decide +kernel
def bX9_plays_29 : List Instr := [.iload_n 3, .iload_n 1, .if_icmp .ne 25]
theorem kX9_plays_29 : okB mX9_plays 29 bX9_plays_29 = true := by decide +kernel
def bX9_plays_34 : List Instr := [.iload 6, .iload_n 2, .if_icmp .ne 7]
theorem kX9_plays_34 : okB mX9_plays 34 bX9_plays_34 = true := by decide +kernel
def bX9_plays_40 : List Instr := [.iconst 1, .goto 4]
theorem kX9_plays_40 : okB mX9_plays 40 bX9_plays_40 = true := by decide +kernel
def bX9_plays_44 : List Instr := [.iconst 0]
theorem kX9_plays_44 : okB mX9_plays 44 bX9_plays_44 = true := by decide +kernel
def bX9_plays_45 : List Instr := [.istore 5, .iconst 0, .istore 4, .iinc 3 (-1), .goto 33]
theorem kX9_plays_45 : okB mX9_plays 45 bX9_plays_45 = true := by decide +kernel
def bX9_plays_56 : List Instr := [.aload_n 0]
theorem kX9_plays_56 : okB mX9_plays 56 bX9_plays_56 = true := by decide +kernel
def bX9_plays_60 : List Instr := [.aload_n 0, .aload_n 0, .getfield 41, .bipush 20, .iload_n 3, .imul]
theorem kX9_plays_60 : okB mX9_plays 60 bX9_plays_60 = true := by decide +kernel
def bX9_plays_72 : List Instr := [.aload_n 0, .getfield 44, .iload_n 3, .iconst 0, .iastore, .aload_n 0, .getfield 47, .iload_n 3, .iconst 0, .bastore]
theorem kX9_plays_72 : okB mX9_plays 72 bX9_plays_72 = true := by decide +kernel
def bX9_plays_86 : List Instr := [.goto 53]
theorem kX9_plays_86 : okB mX9_plays 86 bX9_plays_86 = true := by decide +kernel
def bX9_plays_89 : List Instr := [.aload_n 0, .aload_n 0, .getfield 41, .bipush 20, .iload_n 3, .imul]
theorem kX9_plays_89 : okB mX9_plays 89 bX9_plays_89 = true := by decide +kernel
def bX9_plays_101 : List Instr := [.aload_n 0]
theorem kX9_plays_101 : okB mX9_plays 101 bX9_plays_101 = true := by decide +kernel
def bX9_plays_105 : List Instr := [.iload_n 2, .if_icmp .ne 7]
theorem kX9_plays_105 : okB mX9_plays 105 bX9_plays_105 = true := by decide +kernel
def bX9_plays_109 : List Instr := [.iconst 1, .goto 4]
theorem kX9_plays_109 : okB mX9_plays 109 bX9_plays_109 = true := by decide +kernel
def bX9_plays_113 : List Instr := [.iconst 0]
theorem kX9_plays_113 : okB mX9_plays 113 bX9_plays_113 = true := by decide +kernel
def bX9_plays_114 : List Instr := [.istore 6, .iload 5, .iload 6, .if_icmp .ne 9]
theorem kX9_plays_114 : okB mX9_plays 114 bX9_plays_114 = true := by decide +kernel
def bX9_plays_123 : List Instr := [.iinc 3 (-1), .goto 13]
theorem kX9_plays_123 : okB mX9_plays 123 bX9_plays_123 = true := by decide +kernel
def bX9_plays_129 : List Instr := [.iconst 1, .istore 4, .aload_n 0, .getfield 47, .iload_n 3, .iconst 1, .bastore]
theorem kX9_plays_129 : okB mX9_plays 129 bX9_plays_129 = true := by decide +kernel
def bX9_plays_139 : List Instr := [.iload 4, .ifCond .eq (-133)]
theorem kX9_plays_139 : okB mX9_plays 139 bX9_plays_139 = true := by decide +kernel
def bX9_plays_144 : List Instr := [.iload_n 3, .ifCond .lt (-137)]
theorem kX9_plays_144 : okB mX9_plays 144 bX9_plays_144 = true := by decide +kernel
def bX9_plays_148 : List Instr := [.iconst 0, .istore 6, .iconst 1, .istore 7]
theorem kX9_plays_148 : okB mX9_plays 148 bX9_plays_148 = true := by decide +kernel
def bX9_plays_154 : List Instr := [.iload 7, .ifCond .eq 68]
theorem kX9_plays_154 : okB mX9_plays 154 bX9_plays_154 = true := by decide +kernel
def bX9_plays_159 : List Instr := [.iload 6, .ifCond .ne 63]
theorem kX9_plays_159 : okB mX9_plays 159 bX9_plays_159 = true := by decide +kernel
def bX9_plays_164 : List Instr := [.aload_n 0, .aload_n 0, .getfield 44, .iload_n 3, .iaload]
theorem kX9_plays_164 : okB mX9_plays 164 bX9_plays_164 = true := by decide +kernel
def bX9_plays_174 : List Instr := [.istore 7, .aload_n 0, .getfield 44, .iload_n 3, .dup2, .iaload, .iconst 1, .iadd, .iastore, .iload 7, .ifCond .eq 30]
theorem kX9_plays_174 : okB mX9_plays 174 bX9_plays_174 = true := by decide +kernel
def bX9_plays_191 : List Instr := [.aload_n 0, .aload_n 0, .getfield 214, .aload_n 0, .getfield 217, .aload_n 0, .getfield 211, .aload_n 0, .getfield 208]
theorem kX9_plays_191 : okB mX9_plays 191 bX9_plays_191 = true := by decide +kernel
def bX9_plays_211 : List Instr := [.ifCond .eq 7]
theorem kX9_plays_211 : okB mX9_plays 211 bX9_plays_211 = true := by decide +kernel
def bX9_plays_214 : List Instr := [.iconst 1, .goto 4]
theorem kX9_plays_214 : okB mX9_plays 214 bX9_plays_214 = true := by decide +kernel
def bX9_plays_218 : List Instr := [.iconst 0]
theorem kX9_plays_218 : okB mX9_plays 218 bX9_plays_218 = true := by decide +kernel
def bX9_plays_219 : List Instr := [.istore 6, .goto (-67)]
theorem kX9_plays_219 : okB mX9_plays 219 bX9_plays_219 = true := by decide +kernel
def bX9_plays_224 : List Instr := [.iload 6, .ifCond .eq 9]
theorem kX9_plays_224 : okB mX9_plays 224 bX9_plays_224 = true := by decide +kernel
def bX9_plays_229 : List Instr := [.iinc 3 1, .goto 33]
theorem kX9_plays_229 : okB mX9_plays 229 bX9_plays_229 = true := by decide +kernel
def bX9_plays_235 : List Instr := [.aload_n 0, .getfield 47, .iload_n 3, .baload, .ifCond .eq 15]
theorem kX9_plays_235 : okB mX9_plays 235 bX9_plays_235 = true := by decide +kernel
def bX9_plays_244 : List Instr := [.aload_n 0]
theorem kX9_plays_244 : okB mX9_plays 244 bX9_plays_244 = true := by decide +kernel
def bX9_plays_248 : List Instr := [.iload_n 2, .if_icmp .eq 7]
theorem kX9_plays_248 : okB mX9_plays 248 bX9_plays_248 = true := by decide +kernel
def bX9_plays_252 : List Instr := [.iconst 1, .goto 4]
theorem kX9_plays_252 : okB mX9_plays 252 bX9_plays_252 = true := by decide +kernel
def bX9_plays_256 : List Instr := [.iconst 0]
theorem kX9_plays_256 : okB mX9_plays 256 bX9_plays_256 = true := by decide +kernel
def bX9_plays_257 : List Instr := [.istore 5, .iconst 0, .istore 4, .iinc 3 (-1)]
theorem kX9_plays_257 : okB mX9_plays 257 bX9_plays_257 = true := by decide +kernel
def bX9_plays_265 : List Instr := [.goto (-257)]
theorem kX9_plays_265 : okB mX9_plays 265 bX9_plays_265 = true := by decide +kernel
def bX9_plays_268 : List Instr := [.iload 5, .ireturn]
theorem kX9_plays_268 : okB mX9_plays 268 bX9_plays_268 = true := by decide +kernel
theorem dX9_plays_18 : decode mX9_plays.2.2.1 18 = .ok (.invokevirtual 172, 3) := by decide +kernel
theorem dX9_plays_57 : decode mX9_plays.2.2.1 57 = .ok (.invokevirtual 220, 3) := by decide +kernel
theorem dX9_plays_69 : decode mX9_plays.2.2.1 69 = .ok (.invokevirtual 154, 3) := by decide +kernel
theorem dX9_plays_98 : decode mX9_plays.2.2.1 98 = .ok (.invokevirtual 223, 3) := by decide +kernel
theorem dX9_plays_102 : decode mX9_plays.2.2.1 102 = .ok (.invokevirtual 127, 3) := by decide +kernel
theorem dX9_plays_171 : decode mX9_plays.2.2.1 171 = .ok (.invokevirtual 226, 3) := by decide +kernel
theorem dX9_plays_208 : decode mX9_plays.2.2.1 208 = .ok (.invokevirtual 158, 3) := by decide +kernel
theorem dX9_plays_245 : decode mX9_plays.2.2.1 245 = .ok (.invokevirtual 127, 3) := by decide +kernel
def bX9_wins_0 : List Instr := [.iload_n 1, .i2l, .lconst 0, .ldc2_w 105]
theorem kX9_wins_0 : okB mX9_wins 0 bX9_wins_0 = true := by decide +kernel
def bX9_wins_9 : List Instr := [.ifCond .ne 8]
theorem kX9_wins_9 : okB mX9_wins 9 bX9_wins_9 = true := by decide +kernel
def bX9_wins_12 : List Instr := [.aload_n 0]
theorem kX9_wins_12 : okB mX9_wins 12 bX9_wins_12 = true := by decide +kernel
def bX9_wins_16 : List Instr := [.ireturn]
theorem kX9_wins_16 : okB mX9_wins 16 bX9_wins_16 = true := by decide +kernel
def bX9_wins_17 : List Instr := [.aload_n 0]
theorem kX9_wins_17 : okB mX9_wins 17 bX9_wins_17 = true := by decide +kernel
def bX9_wins_21 : List Instr := [.aload_n 0, .aload_n 0, .getfield 50, .iconst 0]
theorem kX9_wins_21 : okB mX9_wins 21 bX9_wins_21 = true := by decide +kernel
def bX9_wins_30 : List Instr := [.aload_n 0, .iload_n 1, .aload_n 0]
theorem kX9_wins_30 : okB mX9_wins 30 bX9_wins_30 = true := by decide +kernel
def bX9_wins_39 : List Instr := [.istore_n 2, .aload_n 0, .aload_n 0, .getfield 50, .iconst 0]
theorem kX9_wins_39 : okB mX9_wins 39 bX9_wins_39 = true := by decide +kernel
def bX9_wins_49 : List Instr := [.iload_n 2, .ifCond .eq 7]
theorem kX9_wins_49 : okB mX9_wins 49 bX9_wins_49 = true := by decide +kernel
def bX9_wins_53 : List Instr := [.iconst 1, .goto 4]
theorem kX9_wins_53 : okB mX9_wins 53 bX9_wins_53 = true := by decide +kernel
def bX9_wins_57 : List Instr := [.iconst 0]
theorem kX9_wins_57 : okB mX9_wins 57 bX9_wins_57 = true := by decide +kernel
def bX9_wins_58 : List Instr := [.ireturn]
theorem kX9_wins_58 : okB mX9_wins 58 bX9_wins_58 = true := by decide +kernel
theorem dX9_wins_6 : decode mX9_wins.2.2.1 6 = .ok (.invokestatic 65, 3) := by decide +kernel
theorem dX9_wins_13 : decode mX9_wins.2.2.1 13 = .ok (.invokevirtual 88, 3) := by decide +kernel
theorem dX9_wins_18 : decode mX9_wins.2.2.1 18 = .ok (.invokevirtual 107, 3) := by decide +kernel
theorem dX9_wins_27 : decode mX9_wins.2.2.1 27 = .ok (.invokevirtual 154, 3) := by decide +kernel
theorem dX9_wins_33 : decode mX9_wins.2.2.1 33 = .ok (.invokevirtual 127, 3) := by decide +kernel
theorem dX9_wins_36 : decode mX9_wins.2.2.1 36 = .ok (.invokevirtual 229, 3) := by decide +kernel
theorem dX9_wins_46 : decode mX9_wins.2.2.1 46 = .ok (.invokevirtual 223, 3) := by decide +kernel
def bX9_best_0 : List Instr := [.iload_n 1, .i2l, .lconst 0, .ldc2_w 105]
theorem kX9_best_0 : okB mX9_best 0 bX9_best_0 = true := by decide +kernel
def bX9_best_9 : List Instr := [.ifCond .ne 8]
theorem kX9_best_9 : okB mX9_best 9 bX9_best_9 = true := by decide +kernel
def bX9_best_12 : List Instr := [.aload_n 0]
theorem kX9_best_12 : okB mX9_best 12 bX9_best_12 = true := by decide +kernel
def bX9_best_16 : List Instr := [.ireturn]
theorem kX9_best_16 : okB mX9_best 16 bX9_best_16 = true := by decide +kernel
def bX9_best_17 : List Instr := [.aload_n 0]
theorem kX9_best_17 : okB mX9_best 17 bX9_best_17 = true := by decide +kernel
def bX9_best_21 : List Instr := [.iload_n 1, .ifCond .eq 24]
theorem kX9_best_21 : okB mX9_best 21 bX9_best_21 = true := by decide +kernel
def bX9_best_25 : List Instr := [.aload_n 0, .getfield 7, .bipush 27, .iaload, .ifCond .gt 14]
theorem kX9_best_25 : okB mX9_best 25 bX9_best_25 = true := by decide +kernel
def bX9_best_35 : List Instr := [.aload_n 0]
theorem kX9_best_35 : okB mX9_best 35 bX9_best_35 = true := by decide +kernel
def bX9_best_39 : List Instr := [.aload_n 0]
theorem kX9_best_39 : okB mX9_best 39 bX9_best_39 = true := by decide +kernel
def bX9_best_43 : List Instr := [.if_icmp .ne 5]
theorem kX9_best_43 : okB mX9_best 43 bX9_best_43 = true := by decide +kernel
def bX9_best_46 : List Instr := [.iconst (-1), .ireturn]
theorem kX9_best_46 : okB mX9_best 46 bX9_best_46 = true := by decide +kernel
def bX9_best_48 : List Instr := [.aload_n 0, .aload_n 0, .getfield 50, .iconst 0]
theorem kX9_best_48 : okB mX9_best 48 bX9_best_48 = true := by decide +kernel
def bX9_best_57 : List Instr := [.aload_n 0]
theorem kX9_best_57 : okB mX9_best 57 bX9_best_57 = true := by decide +kernel
def bX9_best_61 : List Instr := [.istore_n 2, .iconst (-1), .istore_n 3, .iconst 0, .istore 4]
theorem kX9_best_61 : okB mX9_best 61 bX9_best_61 = true := by decide +kernel
def bX9_best_67 : List Instr := [.iload_n 3, .iconst (-1), .if_icmp .ne 105]
theorem kX9_best_67 : okB mX9_best 67 bX9_best_67 = true := by decide +kernel
def bX9_best_72 : List Instr := [.aload_n 0, .iload 4]
theorem kX9_best_72 : okB mX9_best 72 bX9_best_72 = true := by decide +kernel
def bX9_best_78 : List Instr := [.ifCond .eq 96]
theorem kX9_best_78 : okB mX9_best 78 bX9_best_78 = true := by decide +kernel
def bX9_best_81 : List Instr := [.sipush 10000, .aload_n 0, .getfield 217, .bipush 20, .iadd, .imul, .bipush 100, .aload_n 0, .getfield 214, .bipush 20, .iadd, .imul, .iadd, .bipush 10, .aload_n 0, .getfield 211, .imul, .iadd, .aload_n 0, .getfield 208, .iadd, .istore 5, .aload_n 0, .aload_n 0, .getfield 214, .aload_n 0, .getfield 217, .aload_n 0, .getfield 211, .aload_n 0, .getfield 208]
theorem kX9_best_81 : okB mX9_best 81 bX9_best_81 = true := by decide +kernel
def bX9_best_138 : List Instr := [.ifCond .eq 30]
theorem kX9_best_138 : okB mX9_best 138 bX9_best_138 = true := by decide +kernel
def bX9_best_141 : List Instr := [.aload_n 0, .iload_n 1, .iconst 1, .isub, .iload_n 2]
theorem kX9_best_141 : okB mX9_best 141 bX9_best_141 = true := by decide +kernel
def bX9_best_149 : List Instr := [.ifCond .eq 8]
theorem kX9_best_149 : okB mX9_best 149 bX9_best_149 = true := by decide +kernel
def bX9_best_152 : List Instr := [.iload 5, .goto 4]
theorem kX9_best_152 : okB mX9_best 152 bX9_best_152 = true := by decide +kernel
def bX9_best_157 : List Instr := [.iconst (-1)]
theorem kX9_best_157 : okB mX9_best 157 bX9_best_157 = true := by decide +kernel
def bX9_best_158 : List Instr := [.istore_n 3, .aload_n 0, .aload_n 0, .getfield 50, .iconst 0]
theorem kX9_best_158 : okB mX9_best 158 bX9_best_158 = true := by decide +kernel
def bX9_best_168 : List Instr := [.iinc 4 1, .goto (-104)]
theorem kX9_best_168 : okB mX9_best 168 bX9_best_168 = true := by decide +kernel
def bX9_best_174 : List Instr := [.iload_n 3, .ireturn]
theorem kX9_best_174 : okB mX9_best 174 bX9_best_174 = true := by decide +kernel
theorem dX9_best_6 : decode mX9_best.2.2.1 6 = .ok (.invokestatic 65, 3) := by decide +kernel
theorem dX9_best_13 : decode mX9_best.2.2.1 13 = .ok (.invokevirtual 88, 3) := by decide +kernel
theorem dX9_best_18 : decode mX9_best.2.2.1 18 = .ok (.invokevirtual 107, 3) := by decide +kernel
theorem dX9_best_36 : decode mX9_best.2.2.1 36 = .ok (.invokevirtual 172, 3) := by decide +kernel
theorem dX9_best_40 : decode mX9_best.2.2.1 40 = .ok (.invokevirtual 127, 3) := by decide +kernel
theorem dX9_best_54 : decode mX9_best.2.2.1 54 = .ok (.invokevirtual 154, 3) := by decide +kernel
theorem dX9_best_58 : decode mX9_best.2.2.1 58 = .ok (.invokevirtual 127, 3) := by decide +kernel
theorem dX9_best_75 : decode mX9_best.2.2.1 75 = .ok (.invokevirtual 226, 3) := by decide +kernel
theorem dX9_best_135 : decode mX9_best.2.2.1 135 = .ok (.invokevirtual 158, 3) := by decide +kernel
theorem dX9_best_146 : decode mX9_best.2.2.1 146 = .ok (.invokevirtual 229, 3) := by decide +kernel
theorem dX9_best_165 : decode mX9_best.2.2.1 165 = .ok (.invokevirtual 223, 3) := by decide +kernel
def bX9_type_0 : List Instr := [.iload_n 3, .i2l, .lconst 1, .ldc2_w 233]
theorem kX9_type_0 : okB mX9_type 0 bX9_type_0 = true := by decide +kernel
def bX9_type_9 : List Instr := [.ifCond .ne 8]
theorem kX9_type_9 : okB mX9_type 9 bX9_type_9 = true := by decide +kernel
def bX9_type_12 : List Instr := [.aload_n 0]
theorem kX9_type_12 : okB mX9_type 12 bX9_type_12 = true := by decide +kernel
def bX9_type_16 : List Instr := [.ireturn]
theorem kX9_type_16 : okB mX9_type 16 bX9_type_16 = true := by decide +kernel
def bX9_type_17 : List Instr := [.aload_n 0, .getfield 235, .iload_n 3, .iadd, .sipush 200, .if_icmp .le 8]
theorem kX9_type_17 : okB mX9_type 17 bX9_type_17 = true := by decide +kernel
def bX9_type_29 : List Instr := [.aload_n 0]
theorem kX9_type_29 : okB mX9_type 29 bX9_type_29 = true := by decide +kernel
def bX9_type_33 : List Instr := [.ireturn]
theorem kX9_type_33 : okB mX9_type 33 bX9_type_33 = true := by decide +kernel
def bX9_type_34 : List Instr := [.iload_n 3, .iconst 1, .isub, .istore 4]
theorem kX9_type_34 : okB mX9_type 34 bX9_type_34 = true := by decide +kernel
def bX9_type_39 : List Instr := [.iload 4, .ifCond .lt 40]
theorem kX9_type_39 : okB mX9_type 39 bX9_type_39 = true := by decide +kernel
def bX9_type_44 : List Instr := [.aload_n 0, .getfield 53, .aload_n 0, .getfield 235, .lload_n 1, .bipush 8, .iload 4, .imul, .lshr, .ldc2_w 238, .land, .l2i, .iastore, .aload_n 0, .dup, .getfield 235, .iconst 1, .iadd, .putfield 235, .iinc 4 (-1), .goto (-39)]
theorem kX9_type_44 : okB mX9_type 44 bX9_type_44 = true := by decide +kernel
def bX9_type_81 : List Instr := [.aload_n 0, .getfield 235, .ireturn]
theorem kX9_type_81 : okB mX9_type 81 bX9_type_81 = true := by decide +kernel
theorem dX9_type_6 : decode mX9_type.2.2.1 6 = .ok (.invokestatic 65, 3) := by decide +kernel
theorem dX9_type_13 : decode mX9_type.2.2.1 13 = .ok (.invokevirtual 88, 3) := by decide +kernel
theorem dX9_type_30 : decode mX9_type.2.2.1 30 = .ok (.invokevirtual 102, 3) := by decide +kernel
def bX9_clear_0 : List Instr := [.aload_n 0, .getfield 235, .istore_n 1, .aload_n 0, .iconst 0, .putfield 235, .iload_n 1, .ireturn]
theorem kX9_clear_0 : okB mX9_clear 0 bX9_clear_0 = true := by decide +kernel
def bX9_isByte_0 : List Instr := [.aload_n 0, .getfield 240, .aload_n 0, .getfield 235, .if_icmp .ge 27]
theorem kX9_isByte_0 : okB mX9_isByte 0 bX9_isByte_0 = true := by decide +kernel
def bX9_isByte_11 : List Instr := [.aload_n 0, .getfield 53, .aload_n 0, .getfield 240, .iaload, .i2l, .iload_n 1, .i2l, .iload_n 2, .i2l]
theorem kX9_isByte_11 : okB mX9_isByte 11 bX9_isByte_11 = true := by decide +kernel
def bX9_isByte_28 : List Instr := [.ifCond .eq 7]
theorem kX9_isByte_28 : okB mX9_isByte 28 bX9_isByte_28 = true := by decide +kernel
def bX9_isByte_31 : List Instr := [.iconst 1, .goto 4]
theorem kX9_isByte_31 : okB mX9_isByte 31 bX9_isByte_31 = true := by decide +kernel
def bX9_isByte_35 : List Instr := [.iconst 0]
theorem kX9_isByte_35 : okB mX9_isByte 35 bX9_isByte_35 = true := by decide +kernel
def bX9_isByte_36 : List Instr := [.ireturn]
theorem kX9_isByte_36 : okB mX9_isByte 36 bX9_isByte_36 = true := by decide +kernel
theorem dX9_isByte_25 : decode mX9_isByte.2.2.1 25 = .ok (.invokestatic 65, 3) := by decide +kernel
def bX9_scans_0 : List Instr := [.aload_n 0, .bipush 32, .bipush 32]
theorem kX9_scans_0 : okB mX9_scans 0 bX9_scans_0 = true := by decide +kernel
def bX9_scans_8 : List Instr := [.ifCond .eq 16]
theorem kX9_scans_8 : okB mX9_scans 8 bX9_scans_8 = true := by decide +kernel
def bX9_scans_11 : List Instr := [.aload_n 0, .dup, .getfield 240, .iconst 1, .iadd, .putfield 240, .goto (-21)]
theorem kX9_scans_11 : okB mX9_scans 11 bX9_scans_11 = true := by decide +kernel
def bX9_scans_24 : List Instr := [.aload_n 0, .aload_n 0, .getfield 240, .putfield 246, .aload_n 0, .getfield 240, .aload_n 0, .getfield 235, .if_icmp .ne 9]
theorem kX9_scans_24 : okB mX9_scans 24 bX9_scans_24 = true := by decide +kernel
def bX9_scans_43 : List Instr := [.aload_n 0, .iconst 0, .putfield 249, .return_]
theorem kX9_scans_43 : okB mX9_scans 43 bX9_scans_43 = true := by decide +kernel
def bX9_scans_49 : List Instr := [.aload_n 0, .bipush 97, .bipush 122]
theorem kX9_scans_49 : okB mX9_scans 49 bX9_scans_49 = true := by decide +kernel
def bX9_scans_57 : List Instr := [.ifCond .eq 99]
theorem kX9_scans_57 : okB mX9_scans 57 bX9_scans_57 = true := by decide +kernel
def bX9_scans_60 : List Instr := [.lconst 0, .lstore_n 1]
theorem kX9_scans_60 : okB mX9_scans 60 bX9_scans_60 = true := by decide +kernel
def bX9_scans_62 : List Instr := [.aload_n 0, .bipush 97, .bipush 122]
theorem kX9_scans_62 : okB mX9_scans 62 bX9_scans_62 = true := by decide +kernel
def bX9_scans_70 : List Instr := [.ifCond .eq 56]
theorem kX9_scans_70 : okB mX9_scans 70 bX9_scans_70 = true := by decide +kernel
def bX9_scans_73 : List Instr := [.aload_n 0, .getfield 240, .aload_n 0, .getfield 246, .isub, .iconst 4, .if_icmp .le 7]
theorem kX9_scans_73 : okB mX9_scans 73 bX9_scans_73 = true := by decide +kernel
def bX9_scans_86 : List Instr := [.lconst 0, .goto 25]
theorem kX9_scans_86 : okB mX9_scans 86 bX9_scans_86 = true := by decide +kernel
def bX9_scans_90 : List Instr := [.ldc2_w 252, .lload_n 1, .lmul, .aload_n 0, .getfield 53, .aload_n 0, .getfield 240, .iaload, .i2l, .ladd, .ldc2_w 254, .lsub, .lconst 1, .ladd]
theorem kX9_scans_90 : okB mX9_scans 90 bX9_scans_90 = true := by decide +kernel
def bX9_scans_112 : List Instr := [.lstore_n 1, .aload_n 0, .dup, .getfield 240, .iconst 1, .iadd, .putfield 240, .goto (-61)]
theorem kX9_scans_112 : okB mX9_scans 112 bX9_scans_112 = true := by decide +kernel
def bX9_scans_126 : List Instr := [.aload_n 0, .lload_n 1, .ldc2_w 256, .lcmp, .ifCond .ne 7]
theorem kX9_scans_126 : okB mX9_scans 126 bX9_scans_126 = true := by decide +kernel
def bX9_scans_135 : List Instr := [.iconst 4, .goto 16]
theorem kX9_scans_135 : okB mX9_scans 135 bX9_scans_135 = true := by decide +kernel
def bX9_scans_139 : List Instr := [.lload_n 1, .ldc2_w 258, .lcmp, .ifCond .ne 7]
theorem kX9_scans_139 : okB mX9_scans 139 bX9_scans_139 = true := by decide +kernel
def bX9_scans_147 : List Instr := [.iconst 5, .goto 4]
theorem kX9_scans_147 : okB mX9_scans 147 bX9_scans_147 = true := by decide +kernel
def bX9_scans_151 : List Instr := [.iconst 1]
theorem kX9_scans_151 : okB mX9_scans 151 bX9_scans_151 = true := by decide +kernel
def bX9_scans_152 : List Instr := [.putfield 249, .return_]
theorem kX9_scans_152 : okB mX9_scans 152 bX9_scans_152 = true := by decide +kernel
def bX9_scans_156 : List Instr := [.aload_n 0, .bipush 45, .bipush 45]
theorem kX9_scans_156 : okB mX9_scans 156 bX9_scans_156 = true := by decide +kernel
def bX9_scans_164 : List Instr := [.istore_n 1, .aload_n 0, .dup, .getfield 240, .iload_n 1, .ifCond .eq 7]
theorem kX9_scans_164 : okB mX9_scans 164 bX9_scans_164 = true := by decide +kernel
def bX9_scans_174 : List Instr := [.iconst 1, .goto 4]
theorem kX9_scans_174 : okB mX9_scans 174 bX9_scans_174 = true := by decide +kernel
def bX9_scans_178 : List Instr := [.iconst 0]
theorem kX9_scans_178 : okB mX9_scans 178 bX9_scans_178 = true := by decide +kernel
def bX9_scans_179 : List Instr := [.iadd, .putfield 240, .aload_n 0, .bipush 48, .bipush 57]
theorem kX9_scans_179 : okB mX9_scans 179 bX9_scans_179 = true := by decide +kernel
def bX9_scans_191 : List Instr := [.ifCond .eq 118]
theorem kX9_scans_191 : okB mX9_scans 191 bX9_scans_191 = true := by decide +kernel
def bX9_scans_194 : List Instr := [.aload_n 0, .getfield 240, .istore_n 2, .aload_n 0, .iconst 0, .putfield 260]
theorem kX9_scans_194 : okB mX9_scans 194 bX9_scans_194 = true := by decide +kernel
def bX9_scans_204 : List Instr := [.aload_n 0, .bipush 48, .bipush 57]
theorem kX9_scans_204 : okB mX9_scans 204 bX9_scans_204 = true := by decide +kernel
def bX9_scans_212 : List Instr := [.ifCond .eq 57]
theorem kX9_scans_212 : okB mX9_scans 212 bX9_scans_212 = true := by decide +kernel
def bX9_scans_215 : List Instr := [.aload_n 0, .aload_n 0, .getfield 240, .iload_n 2, .isub, .iconst 2, .if_icmp .ge 26]
theorem kX9_scans_215 : okB mX9_scans 215 bX9_scans_215 = true := by decide +kernel
def bX9_scans_226 : List Instr := [.bipush 10, .aload_n 0, .getfield 260, .imul, .aload_n 0, .getfield 53, .aload_n 0, .getfield 240, .iaload, .iadd, .bipush 48, .isub, .goto 7]
theorem kX9_scans_226 : okB mX9_scans 226 bX9_scans_226 = true := by decide +kernel
def bX9_scans_249 : List Instr := [.aload_n 0, .getfield 260]
theorem kX9_scans_249 : okB mX9_scans 249 bX9_scans_249 = true := by decide +kernel
def bX9_scans_253 : List Instr := [.putfield 260, .aload_n 0, .dup, .getfield 240, .iconst 1, .iadd, .putfield 240, .goto (-62)]
theorem kX9_scans_253 : okB mX9_scans 253 bX9_scans_253 = true := by decide +kernel
def bX9_scans_269 : List Instr := [.aload_n 0, .iload_n 1, .ifCond .eq 11]
theorem kX9_scans_269 : okB mX9_scans 269 bX9_scans_269 = true := by decide +kernel
def bX9_scans_274 : List Instr := [.aload_n 0, .getfield 260, .ineg, .goto 7]
theorem kX9_scans_274 : okB mX9_scans 274 bX9_scans_274 = true := by decide +kernel
def bX9_scans_282 : List Instr := [.aload_n 0, .getfield 260]
theorem kX9_scans_282 : okB mX9_scans 282 bX9_scans_282 = true := by decide +kernel
def bX9_scans_286 : List Instr := [.putfield 260, .aload_n 0, .aload_n 0, .getfield 240, .iload_n 2, .isub, .iconst 2, .if_icmp .le 7]
theorem kX9_scans_286 : okB mX9_scans 286 bX9_scans_286 = true := by decide +kernel
def bX9_scans_300 : List Instr := [.iconst 1, .goto 4]
theorem kX9_scans_300 : okB mX9_scans 300 bX9_scans_300 = true := by decide +kernel
def bX9_scans_304 : List Instr := [.iconst 2]
theorem kX9_scans_304 : okB mX9_scans 304 bX9_scans_304 = true := by decide +kernel
def bX9_scans_305 : List Instr := [.putfield 249, .return_]
theorem kX9_scans_305 : okB mX9_scans 305 bX9_scans_305 = true := by decide +kernel
def bX9_scans_309 : List Instr := [.aload_n 0, .iload_n 1, .ifCond .eq 7]
theorem kX9_scans_309 : okB mX9_scans 309 bX9_scans_309 = true := by decide +kernel
def bX9_scans_314 : List Instr := [.iconst 1, .goto 19]
theorem kX9_scans_314 : okB mX9_scans 314 bX9_scans_314 = true := by decide +kernel
def bX9_scans_318 : List Instr := [.aload_n 0, .bipush 59, .bipush 59]
theorem kX9_scans_318 : okB mX9_scans 318 bX9_scans_318 = true := by decide +kernel
def bX9_scans_326 : List Instr := [.ifCond .eq 7]
theorem kX9_scans_326 : okB mX9_scans 326 bX9_scans_326 = true := by decide +kernel
def bX9_scans_329 : List Instr := [.iconst 3, .goto 4]
theorem kX9_scans_329 : okB mX9_scans 329 bX9_scans_329 = true := by decide +kernel
def bX9_scans_333 : List Instr := [.iconst 1]
theorem kX9_scans_333 : okB mX9_scans 333 bX9_scans_333 = true := by decide +kernel
def bX9_scans_334 : List Instr := [.putfield 249, .aload_n 0, .dup, .getfield 240, .iload_n 1, .ifCond .eq 7]
theorem kX9_scans_334 : okB mX9_scans 334 bX9_scans_334 = true := by decide +kernel
def bX9_scans_346 : List Instr := [.iconst 0, .goto 4]
theorem kX9_scans_346 : okB mX9_scans 346 bX9_scans_346 = true := by decide +kernel
def bX9_scans_350 : List Instr := [.iconst 1]
theorem kX9_scans_350 : okB mX9_scans 350 bX9_scans_350 = true := by decide +kernel
def bX9_scans_351 : List Instr := [.iadd, .putfield 240, .return_]
theorem kX9_scans_351 : okB mX9_scans 351 bX9_scans_351 = true := by decide +kernel
theorem dX9_scans_5 : decode mX9_scans.2.2.1 5 = .ok (.invokevirtual 243, 3) := by decide +kernel
theorem dX9_scans_54 : decode mX9_scans.2.2.1 54 = .ok (.invokevirtual 243, 3) := by decide +kernel
theorem dX9_scans_67 : decode mX9_scans.2.2.1 67 = .ok (.invokevirtual 243, 3) := by decide +kernel
theorem dX9_scans_161 : decode mX9_scans.2.2.1 161 = .ok (.invokevirtual 243, 3) := by decide +kernel
theorem dX9_scans_188 : decode mX9_scans.2.2.1 188 = .ok (.invokevirtual 243, 3) := by decide +kernel
theorem dX9_scans_209 : decode mX9_scans.2.2.1 209 = .ok (.invokevirtual 243, 3) := by decide +kernel
theorem dX9_scans_323 : decode mX9_scans.2.2.1 323 = .ok (.invokevirtual 243, 3) := by decide +kernel
def bX9_reads_0 : List Instr := [.aload_n 0, .iconst 0, .putfield 240, .aload_n 0, .iconst 0, .putfield 263, .aload_n 0]
theorem kX9_reads_0 : okB mX9_reads 0 bX9_reads_0 = true := by decide +kernel
def bX9_reads_14 : List Instr := [.aload_n 0, .getfield 249, .ifCond .eq 113]
theorem kX9_reads_14 : okB mX9_reads 14 bX9_reads_14 = true := by decide +kernel
def bX9_reads_21 : List Instr := [.aload_n 0, .getfield 249, .istore_n 1, .iload_n 1, .iconst 4, .if_icmp .ge 5]
theorem kX9_reads_21 : okB mX9_reads 21 bX9_reads_21 = true := by decide +kernel
def bX9_reads_31 : List Instr := [.iconst 0, .ireturn]
theorem kX9_reads_31 : okB mX9_reads 31 bX9_reads_31 = true := by decide +kernel
def bX9_reads_33 : List Instr := [.aload_n 0, .getfield 56, .iconst 5, .aload_n 0, .getfield 263, .imul, .iload_n 1, .iastore, .aload_n 0]
theorem kX9_reads_33 : okB mX9_reads 33 bX9_reads_33 = true := by decide +kernel
def bX9_reads_49 : List Instr := [.iconst 0, .istore_n 2]
theorem kX9_reads_49 : okB mX9_reads 49 bX9_reads_49 = true := by decide +kernel
def bX9_reads_51 : List Instr := [.iload_n 2, .iload_n 1, .iconst 4, .if_icmp .ne 7]
theorem kX9_reads_51 : okB mX9_reads 51 bX9_reads_51 = true := by decide +kernel
def bX9_reads_57 : List Instr := [.iconst 4, .goto 4]
theorem kX9_reads_57 : okB mX9_reads 57 bX9_reads_57 = true := by decide +kernel
def bX9_reads_61 : List Instr := [.iconst 3]
theorem kX9_reads_61 : okB mX9_reads 61 bX9_reads_61 = true := by decide +kernel
def bX9_reads_62 : List Instr := [.if_icmp .ge 42]
theorem kX9_reads_62 : okB mX9_reads 62 bX9_reads_62 = true := by decide +kernel
def bX9_reads_65 : List Instr := [.aload_n 0, .getfield 249, .iconst 2, .if_icmp .eq 5]
theorem kX9_reads_65 : okB mX9_reads 65 bX9_reads_65 = true := by decide +kernel
def bX9_reads_73 : List Instr := [.iconst 0, .ireturn]
theorem kX9_reads_73 : okB mX9_reads 73 bX9_reads_73 = true := by decide +kernel
def bX9_reads_75 : List Instr := [.aload_n 0, .getfield 56, .iconst 5, .aload_n 0, .getfield 263, .imul, .iconst 1, .iadd, .iload_n 2, .iadd, .aload_n 0, .getfield 260, .iastore, .aload_n 0]
theorem kX9_reads_75 : okB mX9_reads 75 bX9_reads_75 = true := by decide +kernel
def bX9_reads_98 : List Instr := [.iinc 2 1, .goto (-50)]
theorem kX9_reads_98 : okB mX9_reads 98 bX9_reads_98 = true := by decide +kernel
def bX9_reads_104 : List Instr := [.aload_n 0, .getfield 249, .iconst 3, .if_icmp .eq 5]
theorem kX9_reads_104 : okB mX9_reads 104 bX9_reads_104 = true := by decide +kernel
def bX9_reads_112 : List Instr := [.iconst 0, .ireturn]
theorem kX9_reads_112 : okB mX9_reads 112 bX9_reads_112 = true := by decide +kernel
def bX9_reads_114 : List Instr := [.aload_n 0, .dup, .getfield 263, .iconst 1, .iadd, .putfield 263, .aload_n 0]
theorem kX9_reads_114 : okB mX9_reads 114 bX9_reads_114 = true := by decide +kernel
def bX9_reads_128 : List Instr := [.goto (-114)]
theorem kX9_reads_128 : okB mX9_reads 128 bX9_reads_128 = true := by decide +kernel
def bX9_reads_131 : List Instr := [.iconst 1, .ireturn]
theorem kX9_reads_131 : okB mX9_reads 131 bX9_reads_131 = true := by decide +kernel
theorem dX9_reads_11 : decode mX9_reads.2.2.1 11 = .ok (.invokevirtual 266, 3) := by decide +kernel
theorem dX9_reads_46 : decode mX9_reads.2.2.1 46 = .ok (.invokevirtual 266, 3) := by decide +kernel
theorem dX9_reads_95 : decode mX9_reads.2.2.1 95 = .ok (.invokevirtual 266, 3) := by decide +kernel
theorem dX9_reads_125 : decode mX9_reads.2.2.1 125 = .ok (.invokevirtual 266, 3) := by decide +kernel
def bX9_fault_0 : List Instr := [.aload_n 0]
theorem kX9_fault_0 : okB mX9_fault 0 bX9_fault_0 = true := by decide +kernel
def bX9_fault_4 : List Instr := [.ifCond .eq 7]
theorem kX9_fault_4 : okB mX9_fault 4 bX9_fault_4 = true := by decide +kernel
def bX9_fault_7 : List Instr := [.iconst (-1), .goto 7]
theorem kX9_fault_7 : okB mX9_fault 7 bX9_fault_7 = true := by decide +kernel
def bX9_fault_11 : List Instr := [.aload_n 0, .getfield 246]
theorem kX9_fault_11 : okB mX9_fault 11 bX9_fault_11 = true := by decide +kernel
def bX9_fault_15 : List Instr := [.ireturn]
theorem kX9_fault_15 : okB mX9_fault 15 bX9_fault_15 = true := by decide +kernel
theorem dX9_fault_1 : decode mX9_fault.2.2.1 1 = .ok (.invokevirtual 269, 3) := by decide +kernel
def bX9_goes_0 : List Instr := [.aload_n 0, .getfield 56, .iconst 5, .iload_n 1, .imul, .iconst 1, .iadd, .iaload, .istore_n 2, .aload_n 0, .getfield 56, .iconst 5, .iload_n 1, .imul, .iconst 2, .iadd, .iaload, .istore_n 3, .aload_n 0, .getfield 56, .iconst 5, .iload_n 1, .imul, .iconst 3, .iadd, .iaload, .istore 4, .aload_n 0, .getfield 56, .iconst 5, .iload_n 1, .imul, .iconst 4, .iadd, .iaload, .istore 5, .aload_n 0, .getfield 56, .iconst 5, .iload_n 1, .imul, .iaload, .iconst 4, .if_icmp .ne 48]
theorem kX9_goes_0 : okB mX9_goes 0 bX9_goes_0 = true := by decide +kernel
def bX9_goes_58 : List Instr := [.iload 4, .i2l, .lconst 0, .ldc2_w 105]
theorem kX9_goes_58 : okB mX9_goes 58 bX9_goes_58 = true := by decide +kernel
def bX9_goes_68 : List Instr := [.ifCond .eq 33]
theorem kX9_goes_68 : okB mX9_goes 68 bX9_goes_68 = true := by decide +kernel
def bX9_goes_71 : List Instr := [.iload 5, .i2l, .lconst 1, .ldc2_w 84]
theorem kX9_goes_71 : okB mX9_goes 71 bX9_goes_71 = true := by decide +kernel
def bX9_goes_81 : List Instr := [.ifCond .eq 20]
theorem kX9_goes_81 : okB mX9_goes 81 bX9_goes_81 = true := by decide +kernel
def bX9_goes_84 : List Instr := [.aload_n 0, .iload_n 2, .iload_n 3, .iload 4, .iload 5]
theorem kX9_goes_84 : okB mX9_goes 84 bX9_goes_84 = true := by decide +kernel
def bX9_goes_94 : List Instr := [.ifCond .eq 7]
theorem kX9_goes_94 : okB mX9_goes 94 bX9_goes_94 = true := by decide +kernel
def bX9_goes_97 : List Instr := [.iconst 1, .goto 4]
theorem kX9_goes_97 : okB mX9_goes 97 bX9_goes_97 = true := by decide +kernel
def bX9_goes_101 : List Instr := [.iconst 0]
theorem kX9_goes_101 : okB mX9_goes 101 bX9_goes_101 = true := by decide +kernel
def bX9_goes_102 : List Instr := [.ireturn]
theorem kX9_goes_102 : okB mX9_goes 102 bX9_goes_102 = true := by decide +kernel
def bX9_goes_103 : List Instr := [.iload_n 2, .i2l, .lconst 0, .lconst 1]
theorem kX9_goes_103 : okB mX9_goes 103 bX9_goes_103 = true := by decide +kernel
def bX9_goes_110 : List Instr := [.ifCond .eq 29]
theorem kX9_goes_110 : okB mX9_goes 110 bX9_goes_110 = true := by decide +kernel
def bX9_goes_113 : List Instr := [.iload 4, .i2l, .lconst 0, .lconst 1]
theorem kX9_goes_113 : okB mX9_goes 113 bX9_goes_113 = true := by decide +kernel
def bX9_goes_121 : List Instr := [.ifCond .eq 18]
theorem kX9_goes_121 : okB mX9_goes 121 bX9_goes_121 = true := by decide +kernel
def bX9_goes_124 : List Instr := [.aload_n 0, .iload_n 2, .iload_n 3, .iload 4]
theorem kX9_goes_124 : okB mX9_goes 124 bX9_goes_124 = true := by decide +kernel
def bX9_goes_132 : List Instr := [.ifCond .eq 7]
theorem kX9_goes_132 : okB mX9_goes 132 bX9_goes_132 = true := by decide +kernel
def bX9_goes_135 : List Instr := [.iconst 1, .goto 4]
theorem kX9_goes_135 : okB mX9_goes 135 bX9_goes_135 = true := by decide +kernel
def bX9_goes_139 : List Instr := [.iconst 0]
theorem kX9_goes_139 : okB mX9_goes 139 bX9_goes_139 = true := by decide +kernel
def bX9_goes_140 : List Instr := [.ireturn]
theorem kX9_goes_140 : okB mX9_goes 140 bX9_goes_140 = true := by decide +kernel
theorem dX9_goes_65 : decode mX9_goes.2.2.1 65 = .ok (.invokestatic 65, 3) := by decide +kernel
theorem dX9_goes_78 : decode mX9_goes.2.2.1 78 = .ok (.invokestatic 65, 3) := by decide +kernel
theorem dX9_goes_91 : decode mX9_goes.2.2.1 91 = .ok (.invokevirtual 158, 3) := by decide +kernel
theorem dX9_goes_107 : decode mX9_goes.2.2.1 107 = .ok (.invokestatic 65, 3) := by decide +kernel
theorem dX9_goes_118 : decode mX9_goes.2.2.1 118 = .ok (.invokestatic 65, 3) := by decide +kernel
theorem dX9_goes_129 : decode mX9_goes.2.2.1 129 = .ok (.invokevirtual 164, 3) := by decide +kernel
def bX9_judge_0 : List Instr := [.aload_n 0]
theorem kX9_judge_0 : okB mX9_judge 0 bX9_judge_0 = true := by decide +kernel
def bX9_judge_4 : List Instr := [.ifCond .ne 8]
theorem kX9_judge_4 : okB mX9_judge 4 bX9_judge_4 = true := by decide +kernel
def bX9_judge_7 : List Instr := [.aload_n 0]
theorem kX9_judge_7 : okB mX9_judge 7 bX9_judge_7 = true := by decide +kernel
def bX9_judge_11 : List Instr := [.ireturn]
theorem kX9_judge_11 : okB mX9_judge 11 bX9_judge_11 = true := by decide +kernel
def bX9_judge_12 : List Instr := [.aload_n 0]
theorem kX9_judge_12 : okB mX9_judge 12 bX9_judge_12 = true := by decide +kernel
def bX9_judge_16 : List Instr := [.aload_n 0, .aload_n 0, .getfield 50, .iconst 0]
theorem kX9_judge_16 : okB mX9_judge 16 bX9_judge_16 = true := by decide +kernel
def bX9_judge_25 : List Instr := [.iconst 0, .istore_n 1]
theorem kX9_judge_25 : okB mX9_judge 25 bX9_judge_25 = true := by decide +kernel
def bX9_judge_27 : List Instr := [.iload_n 1, .aload_n 0, .getfield 263, .if_icmp .ge 17]
theorem kX9_judge_27 : okB mX9_judge 27 bX9_judge_27 = true := by decide +kernel
def bX9_judge_35 : List Instr := [.aload_n 0, .iload_n 1]
theorem kX9_judge_35 : okB mX9_judge 35 bX9_judge_35 = true := by decide +kernel
def bX9_judge_40 : List Instr := [.ifCond .eq 9]
theorem kX9_judge_40 : okB mX9_judge 40 bX9_judge_40 = true := by decide +kernel
def bX9_judge_43 : List Instr := [.iinc 1 1, .goto (-19)]
theorem kX9_judge_43 : okB mX9_judge 43 bX9_judge_43 = true := by decide +kernel
def bX9_judge_49 : List Instr := [.aload_n 0, .aload_n 0, .getfield 50, .iconst 0]
theorem kX9_judge_49 : okB mX9_judge 49 bX9_judge_49 = true := by decide +kernel
def bX9_judge_58 : List Instr := [.iload_n 1, .aload_n 0, .getfield 263, .if_icmp .ge 7]
theorem kX9_judge_58 : okB mX9_judge 58 bX9_judge_58 = true := by decide +kernel
def bX9_judge_66 : List Instr := [.iload_n 1, .goto 4]
theorem kX9_judge_66 : okB mX9_judge 66 bX9_judge_66 = true := by decide +kernel
def bX9_judge_70 : List Instr := [.iconst (-1)]
theorem kX9_judge_70 : okB mX9_judge 70 bX9_judge_70 = true := by decide +kernel
def bX9_judge_71 : List Instr := [.ireturn]
theorem kX9_judge_71 : okB mX9_judge 71 bX9_judge_71 = true := by decide +kernel
theorem dX9_judge_1 : decode mX9_judge.2.2.1 1 = .ok (.invokevirtual 269, 3) := by decide +kernel
theorem dX9_judge_8 : decode mX9_judge.2.2.1 8 = .ok (.invokevirtual 95, 3) := by decide +kernel
theorem dX9_judge_13 : decode mX9_judge.2.2.1 13 = .ok (.invokevirtual 107, 3) := by decide +kernel
theorem dX9_judge_22 : decode mX9_judge.2.2.1 22 = .ok (.invokevirtual 154, 3) := by decide +kernel
theorem dX9_judge_37 : decode mX9_judge.2.2.1 37 = .ok (.invokevirtual 272, 3) := by decide +kernel
theorem dX9_judge_55 : decode mX9_judge.2.2.1 55 = .ok (.invokevirtual 223, 3) := by decide +kernel
def bX9_image_0 : List Instr := [.iload_n 1, .i2l, .lconst 0, .lconst 1]
theorem kX9_image_0 : okB mX9_image 0 bX9_image_0 = true := by decide +kernel
def bX9_image_7 : List Instr := [.ifCond .ne 8]
theorem kX9_image_7 : okB mX9_image 7 bX9_image_7 = true := by decide +kernel
def bX9_image_10 : List Instr := [.aload_n 0]
theorem kX9_image_10 : okB mX9_image 10 bX9_image_10 = true := by decide +kernel
def bX9_image_14 : List Instr := [.ireturn]
theorem kX9_image_14 : okB mX9_image 14 bX9_image_14 = true := by decide +kernel
def bX9_image_15 : List Instr := [.iconst 0, .istore_n 2]
theorem kX9_image_15 : okB mX9_image 15 bX9_image_15 = true := by decide +kernel
def bX9_image_17 : List Instr := [.iload_n 2, .sipush 248, .if_icmp .ge 27]
theorem kX9_image_17 : okB mX9_image 17 bX9_image_17 = true := by decide +kernel
def bX9_image_24 : List Instr := [.aload_n 0, .getfield 13, .sipush 248, .iload_n 1, .imul, .iload_n 2, .iadd, .aload_n 0, .getfield 7, .iload_n 2, .iaload, .iastore, .iinc 2 1, .goto (-28)]
theorem kX9_image_24 : okB mX9_image 24 bX9_image_24 = true := by decide +kernel
def bX9_image_48 : List Instr := [.aload_n 0, .getfield 16, .iload_n 1, .iconst 1, .bastore, .iconst 1, .ireturn]
theorem kX9_image_48 : okB mX9_image 48 bX9_image_48 = true := by decide +kernel
theorem dX9_image_4 : decode mX9_image.2.2.1 4 = .ok (.invokestatic 65, 3) := by decide +kernel
theorem dX9_image_11 : decode mX9_image.2.2.1 11 = .ok (.invokevirtual 88, 3) := by decide +kernel
def bX9_from_0 : List Instr := [.iload_n 1, .i2l, .lconst 0, .lconst 1]
theorem kX9_from_0 : okB mX9_from 0 bX9_from_0 = true := by decide +kernel
def bX9_from_7 : List Instr := [.ifCond .ne 8]
theorem kX9_from_7 : okB mX9_from 7 bX9_from_7 = true := by decide +kernel
def bX9_from_10 : List Instr := [.aload_n 0]
theorem kX9_from_10 : okB mX9_from 10 bX9_from_10 = true := by decide +kernel
def bX9_from_14 : List Instr := [.ireturn]
theorem kX9_from_14 : okB mX9_from 14 bX9_from_14 = true := by decide +kernel
def bX9_from_15 : List Instr := [.aload_n 0, .getfield 16, .iload_n 1, .baload, .ifCond .ne 8]
theorem kX9_from_15 : okB mX9_from 15 bX9_from_15 = true := by decide +kernel
def bX9_from_24 : List Instr := [.aload_n 0]
theorem kX9_from_24 : okB mX9_from 24 bX9_from_24 = true := by decide +kernel
def bX9_from_28 : List Instr := [.ireturn]
theorem kX9_from_28 : okB mX9_from 28 bX9_from_28 = true := by decide +kernel
def bX9_from_29 : List Instr := [.iconst 0, .istore_n 2]
theorem kX9_from_29 : okB mX9_from 29 bX9_from_29 = true := by decide +kernel
def bX9_from_31 : List Instr := [.iload_n 2, .sipush 248, .if_icmp .ge 27]
theorem kX9_from_31 : okB mX9_from 31 bX9_from_31 = true := by decide +kernel
def bX9_from_38 : List Instr := [.aload_n 0, .getfield 7, .iload_n 2, .aload_n 0, .getfield 13, .sipush 248, .iload_n 1, .imul, .iload_n 2, .iadd, .iaload, .iastore, .iinc 2 1, .goto (-28)]
theorem kX9_from_38 : okB mX9_from 38 bX9_from_38 = true := by decide +kernel
def bX9_from_62 : List Instr := [.iconst 1, .ireturn]
theorem kX9_from_62 : okB mX9_from 62 bX9_from_62 = true := by decide +kernel
theorem dX9_from_4 : decode mX9_from.2.2.1 4 = .ok (.invokestatic 65, 3) := by decide +kernel
theorem dX9_from_11 : decode mX9_from.2.2.1 11 = .ok (.invokevirtual 88, 3) := by decide +kernel
theorem dX9_from_25 : decode mX9_from.2.2.1 25 = .ok (.invokevirtual 95, 3) := by decide +kernel
def bX9_status_0 : List Instr := [.iload_n 1, .i2l, .lconst 0, .ldc2_w 84]
theorem kX9_status_0 : okB mX9_status 0 bX9_status_0 = true := by decide +kernel
def bX9_status_9 : List Instr := [.ifCond .eq 12]
theorem kX9_status_9 : okB mX9_status 9 bX9_status_9 = true := by decide +kernel
def bX9_status_12 : List Instr := [.aload_n 0, .getfield 20, .iload_n 1, .iaload, .goto 9]
theorem kX9_status_12 : okB mX9_status 12 bX9_status_12 = true := by decide +kernel
def bX9_status_21 : List Instr := [.aload_n 0, .iconst 0, .iconst (-1)]
theorem kX9_status_21 : okB mX9_status 21 bX9_status_21 = true := by decide +kernel
def bX9_status_27 : List Instr := [.ireturn]
theorem kX9_status_27 : okB mX9_status 27 bX9_status_27 = true := by decide +kernel
theorem dX9_status_6 : decode mX9_status.2.2.1 6 = .ok (.invokestatic 65, 3) := by decide +kernel
theorem dX9_status_24 : decode mX9_status.2.2.1 24 = .ok (.invokevirtual 59, 3) := by decide +kernel
def bX9_countOf_0 : List Instr := [.iload_n 1, .ifCond .ne 10]
theorem kX9_countOf_0 : okB mX9_countOf 0 bX9_countOf_0 = true := by decide +kernel
def bX9_countOf_4 : List Instr := [.aload_n 0]
theorem kX9_countOf_4 : okB mX9_countOf 4 bX9_countOf_4 = true := by decide +kernel
def bX9_countOf_8 : List Instr := [.goto 36]
theorem kX9_countOf_8 : okB mX9_countOf 8 bX9_countOf_8 = true := by decide +kernel
def bX9_countOf_11 : List Instr := [.iload_n 1, .iconst 1, .if_icmp .ne 12]
theorem kX9_countOf_11 : okB mX9_countOf 11 bX9_countOf_11 = true := by decide +kernel
def bX9_countOf_16 : List Instr := [.aload_n 0, .getfield 7, .iconst 2, .iaload, .goto 22]
theorem kX9_countOf_16 : okB mX9_countOf 16 bX9_countOf_16 = true := by decide +kernel
def bX9_countOf_25 : List Instr := [.iload_n 1, .iconst 2, .if_icmp .ne 10]
theorem kX9_countOf_25 : okB mX9_countOf 25 bX9_countOf_25 = true := by decide +kernel
def bX9_countOf_30 : List Instr := [.aload_n 0, .getfield 235, .goto 10]
theorem kX9_countOf_30 : okB mX9_countOf 30 bX9_countOf_30 = true := by decide +kernel
def bX9_countOf_37 : List Instr := [.aload_n 0, .getfield 7, .bipush 6, .iaload]
theorem kX9_countOf_37 : okB mX9_countOf 37 bX9_countOf_37 = true := by decide +kernel
def bX9_countOf_44 : List Instr := [.ireturn]
theorem kX9_countOf_44 : okB mX9_countOf 44 bX9_countOf_44 = true := by decide +kernel
theorem dX9_countOf_5 : decode mX9_countOf.2.2.1 5 = .ok (.invokevirtual 275, 3) := by decide +kernel
def bX9_count_0 : List Instr := [.iload_n 1, .i2l, .lconst 0, .ldc2_w 105]
theorem kX9_count_0 : okB mX9_count 0 bX9_count_0 = true := by decide +kernel
def bX9_count_9 : List Instr := [.ifCond .eq 11]
theorem kX9_count_9 : okB mX9_count 9 bX9_count_9 = true := by decide +kernel
def bX9_count_12 : List Instr := [.aload_n 0, .iload_n 1]
theorem kX9_count_12 : okB mX9_count 12 bX9_count_12 = true := by decide +kernel
def bX9_count_17 : List Instr := [.goto 7]
theorem kX9_count_17 : okB mX9_count 17 bX9_count_17 = true := by decide +kernel
def bX9_count_20 : List Instr := [.aload_n 0]
theorem kX9_count_20 : okB mX9_count 20 bX9_count_20 = true := by decide +kernel
def bX9_count_24 : List Instr := [.ireturn]
theorem kX9_count_24 : okB mX9_count 24 bX9_count_24 = true := by decide +kernel
theorem dX9_count_6 : decode mX9_count.2.2.1 6 = .ok (.invokestatic 65, 3) := by decide +kernel
theorem dX9_count_14 : decode mX9_count.2.2.1 14 = .ok (.invokevirtual 278, 3) := by decide +kernel
theorem dX9_count_21 : decode mX9_count.2.2.1 21 = .ok (.invokevirtual 88, 3) := by decide +kernel
def bX9_digest_0 : List Instr := [.ldc2_w 281, .lstore_n 1, .iconst 0, .istore_n 3]
theorem kX9_digest_0 : okB mX9_digest 0 bX9_digest_0 = true := by decide +kernel
def bX9_digest_6 : List Instr := [.iload_n 3, .iconst 4, .if_icmp .ge 22]
theorem kX9_digest_6 : okB mX9_digest 6 bX9_digest_6 = true := by decide +kernel
def bX9_digest_11 : List Instr := [.ldc2_w 283, .lload_n 1, .lmul, .aload_n 0, .iload_n 3]
theorem kX9_digest_11 : okB mX9_digest 11 bX9_digest_11 = true := by decide +kernel
def bX9_digest_21 : List Instr := [.i2l, .ladd, .lstore_n 1, .iinc 3 1, .goto (-21)]
theorem kX9_digest_21 : okB mX9_digest 21 bX9_digest_21 = true := by decide +kernel
def bX9_digest_30 : List Instr := [.ldc2_w 283, .ldc2_w 283, .lload_n 1, .lmul, .aload_n 0, .getfield 7, .iconst 0, .iaload, .i2l, .ladd, .lmul, .aload_n 0, .getfield 7, .iconst 1, .iaload, .i2l, .ladd, .lstore_n 1, .iconst 0, .istore_n 3]
theorem kX9_digest_30 : okB mX9_digest 30 bX9_digest_30 = true := by decide +kernel
def bX9_digest_58 : List Instr := [.iload_n 3, .bipush 36, .if_icmp .ge 30]
theorem kX9_digest_58 : okB mX9_digest 58 bX9_digest_58 = true := by decide +kernel
def bX9_digest_64 : List Instr := [.aload_n 0, .iload_n 3]
theorem kX9_digest_64 : okB mX9_digest 64 bX9_digest_64 = true := by decide +kernel
def bX9_digest_69 : List Instr := [.ifCond .eq 14]
theorem kX9_digest_69 : okB mX9_digest 69 bX9_digest_69 = true := by decide +kernel
def bX9_digest_72 : List Instr := [.ldc2_w 283, .lload_n 1, .lmul, .iload_n 3, .i2l, .ladd, .goto 4]
theorem kX9_digest_72 : okB mX9_digest 72 bX9_digest_72 = true := by decide +kernel
def bX9_digest_83 : List Instr := [.lload_n 1]
theorem kX9_digest_83 : okB mX9_digest 83 bX9_digest_83 = true := by decide +kernel
def bX9_digest_84 : List Instr := [.lstore_n 1, .iinc 3 1, .goto (-30)]
theorem kX9_digest_84 : okB mX9_digest 84 bX9_digest_84 = true := by decide +kernel
def bX9_digest_91 : List Instr := [.iconst 0, .istore_n 3]
theorem kX9_digest_91 : okB mX9_digest 91 bX9_digest_91 = true := by decide +kernel
def bX9_digest_93 : List Instr := [.iload_n 3, .aload_n 0, .getfield 7, .iconst 2, .iaload, .if_icmp .ge 63]
theorem kX9_digest_93 : okB mX9_digest 93 bX9_digest_93 = true := by decide +kernel
def bX9_digest_103 : List Instr := [.iconst 0, .istore 4]
theorem kX9_digest_103 : okB mX9_digest 103 bX9_digest_103 = true := by decide +kernel
def bX9_digest_106 : List Instr := [.iload 4, .iconst 3, .if_icmp .ge 31]
theorem kX9_digest_106 : okB mX9_digest 106 bX9_digest_106 = true := by decide +kernel
def bX9_digest_112 : List Instr := [.ldc2_w 283, .lload_n 1, .lmul, .aload_n 0, .getfield 7, .bipush 28, .iconst 3, .iload_n 3, .imul, .iadd, .iload 4, .iadd, .iaload, .i2l, .ladd, .lstore_n 1, .iinc 4 1, .goto (-31)]
theorem kX9_digest_112 : okB mX9_digest 112 bX9_digest_112 = true := by decide +kernel
def bX9_digest_140 : List Instr := [.ldc2_w 283, .lload_n 1, .lmul, .aload_n 0, .getfield 7, .bipush 8, .iload_n 3, .iadd, .iaload, .i2l, .ladd, .lstore_n 1, .iinc 3 1, .goto (-67)]
theorem kX9_digest_140 : okB mX9_digest 140 bX9_digest_140 = true := by decide +kernel
def bX9_digest_163 : List Instr := [.ldc2_w 283, .ldc2_w 283, .lload_n 1, .lmul, .aload_n 0, .getfield 7, .iconst 4, .iaload, .i2l, .ladd, .lmul, .aload_n 0, .getfield 7, .iconst 5, .iaload, .i2l, .ladd, .lstore_n 1, .ldc2_w 283, .ldc2_w 283, .lload_n 1, .lmul, .aload_n 0, .getfield 7, .bipush 26, .iaload, .i2l, .ladd, .lmul, .aload_n 0, .getfield 7, .bipush 27, .iaload, .i2l, .ladd, .lstore_n 1, .iconst 0, .istore_n 3]
theorem kX9_digest_163 : okB mX9_digest 163 bX9_digest_163 = true := by decide +kernel
def bX9_digest_219 : List Instr := [.iload_n 3, .iconst 3, .aload_n 0, .getfield 7, .bipush 16, .iaload, .imul, .if_icmp .ge 26]
theorem kX9_digest_219 : okB mX9_digest 219 bX9_digest_219 = true := by decide +kernel
def bX9_digest_232 : List Instr := [.ldc2_w 283, .lload_n 1, .lmul, .aload_n 0, .getfield 7, .bipush 17, .iload_n 3, .iadd, .iaload, .i2l, .ladd, .lstore_n 1, .iinc 3 1, .goto (-33)]
theorem kX9_digest_232 : okB mX9_digest 232 bX9_digest_232 = true := by decide +kernel
def bX9_digest_255 : List Instr := [.iconst 0, .istore_n 3]
theorem kX9_digest_255 : okB mX9_digest 255 bX9_digest_255 = true := by decide +kernel
def bX9_digest_257 : List Instr := [.iload_n 3, .aload_n 0, .getfield 235, .if_icmp .ge 23]
theorem kX9_digest_257 : okB mX9_digest 257 bX9_digest_257 = true := by decide +kernel
def bX9_digest_265 : List Instr := [.ldc2_w 283, .lload_n 1, .lmul, .aload_n 0, .getfield 53, .iload_n 3, .iaload, .i2l, .ladd, .lstore_n 1, .iinc 3 1, .goto (-25)]
theorem kX9_digest_265 : okB mX9_digest 265 bX9_digest_265 = true := by decide +kernel
def bX9_digest_285 : List Instr := [.lload_n 1, .lreturn]
theorem kX9_digest_285 : okB mX9_digest 285 bX9_digest_285 = true := by decide +kernel
theorem dX9_digest_18 : decode mX9_digest.2.2.1 18 = .ok (.invokevirtual 278, 3) := by decide +kernel
theorem dX9_digest_66 : decode mX9_digest.2.2.1 66 = .ok (.invokevirtual 69, 3) := by decide +kernel
