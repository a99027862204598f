def bX8_init_0 : List Instr := [.aload_n 0]
theorem kX8_init_0 : okB mX8_init 0 bX8_init_0 = true := by decide +kernel
def bX8_init_4 : List Instr := [.aload_n 0]
theorem kX8_init_4 : okB mX8_init 4 bX8_init_4 = true := by decide +kernel
def bX8_init_8 : List Instr := [.dup]
theorem kX8_init_8 : okB mX8_init 8 bX8_init_8 = true := by decide +kernel
def bX8_init_12 : List Instr := [.putfield 12, .aload_n 0]
theorem kX8_init_12 : okB mX8_init 12 bX8_init_12 = true := by decide +kernel
def bX8_init_19 : List Instr := [.dup]
theorem kX8_init_19 : okB mX8_init 19 bX8_init_19 = true := by decide +kernel
def bX8_init_23 : List Instr := [.putfield 19, .aload_n 0]
theorem kX8_init_23 : okB mX8_init 23 bX8_init_23 = true := by decide +kernel
def bX8_init_30 : List Instr := [.dup]
theorem kX8_init_30 : okB mX8_init 30 bX8_init_30 = true := by decide +kernel
def bX8_init_34 : List Instr := [.putfield 26, .aload_n 0]
theorem kX8_init_34 : okB mX8_init 34 bX8_init_34 = true := by decide +kernel
def bX8_init_41 : List Instr := [.dup]
theorem kX8_init_41 : okB mX8_init 41 bX8_init_41 = true := by decide +kernel
def bX8_init_45 : List Instr := [.putfield 33, .aload_n 0]
theorem kX8_init_45 : okB mX8_init 45 bX8_init_45 = true := by decide +kernel
def bX8_init_52 : List Instr := [.dup]
theorem kX8_init_52 : okB mX8_init 52 bX8_init_52 = true := by decide +kernel
def bX8_init_56 : List Instr := [.putfield 40, .aload_n 0]
theorem kX8_init_56 : okB mX8_init 56 bX8_init_56 = true := by decide +kernel
def bX8_init_63 : List Instr := [.dup]
theorem kX8_init_63 : okB mX8_init 63 bX8_init_63 = true := by decide +kernel
def bX8_init_67 : List Instr := [.putfield 47, .aload_n 0]
theorem kX8_init_67 : okB mX8_init 67 bX8_init_67 = true := by decide +kernel
def bX8_init_74 : List Instr := [.dup]
theorem kX8_init_74 : okB mX8_init 74 bX8_init_74 = true := by decide +kernel
def bX8_init_78 : List Instr := [.putfield 54, .aload_n 0, .iconst 2]
theorem kX8_init_78 : okB mX8_init 78 bX8_init_78 = true := by decide +kernel
def bX8_init_86 : List Instr := [.putfield 58, .aload_n 0, .iconst 2]
theorem kX8_init_86 : okB mX8_init 86 bX8_init_86 = true := by decide +kernel
def bX8_init_94 : List Instr := [.putfield 62, .aload_n 0, .iconst 2]
theorem kX8_init_94 : okB mX8_init 94 bX8_init_94 = true := by decide +kernel
def bX8_init_101 : List Instr := [.putfield 66, .aload_n 0, .bipush 20]
theorem kX8_init_101 : okB mX8_init 101 bX8_init_101 = true := by decide +kernel
def bX8_init_109 : List Instr := [.putfield 70, .iconst 0, .istore_n 1]
theorem kX8_init_109 : okB mX8_init 109 bX8_init_109 = true := by decide +kernel
def bX8_init_114 : List Instr := [.iload_n 1, .iconst 2, .if_icmp .ge 35]
theorem kX8_init_114 : okB mX8_init 114 bX8_init_114 = true := by decide +kernel
def bX8_init_119 : List Instr := [.aload_n 0, .getfield 58, .iload_n 1]
theorem kX8_init_119 : okB mX8_init 119 bX8_init_119 = true := by decide +kernel
def bX8_init_127 : List Instr := [.dup]
theorem kX8_init_127 : okB mX8_init 127 bX8_init_127 = true := by decide +kernel
def bX8_init_132 : List Instr := [.aload_n 0, .getfield 62, .iload_n 1]
theorem kX8_init_132 : okB mX8_init 132 bX8_init_132 = true := by decide +kernel
def bX8_init_140 : List Instr := [.dup]
theorem kX8_init_140 : okB mX8_init 140 bX8_init_140 = true := by decide +kernel
def bX8_init_145 : List Instr := [.iinc 1 1, .goto (-34)]
theorem kX8_init_145 : okB mX8_init 145 bX8_init_145 = true := by decide +kernel
def bX8_init_151 : List Instr := [.return_]
theorem kX8_init_151 : okB mX8_init 151 bX8_init_151 = true := by decide +kernel
theorem dX8_init_1 : decode mX8_init.2.2.1 1 = .ok (.invokespecial 3, 3) := by decide +kernel
theorem dX8_init_9 : decode mX8_init.2.2.1 9 = .ok (.invokespecial 11, 3) := by decide +kernel
theorem dX8_init_20 : decode mX8_init.2.2.1 20 = .ok (.invokespecial 18, 3) := by decide +kernel
theorem dX8_init_31 : decode mX8_init.2.2.1 31 = .ok (.invokespecial 25, 3) := by decide +kernel
theorem dX8_init_42 : decode mX8_init.2.2.1 42 = .ok (.invokespecial 32, 3) := by decide +kernel
theorem dX8_init_53 : decode mX8_init.2.2.1 53 = .ok (.invokespecial 39, 3) := by decide +kernel
theorem dX8_init_64 : decode mX8_init.2.2.1 64 = .ok (.invokespecial 46, 3) := by decide +kernel
theorem dX8_init_75 : decode mX8_init.2.2.1 75 = .ok (.invokespecial 53, 3) := by decide +kernel
theorem dX8_init_128 : decode mX8_init.2.2.1 128 = .ok (.invokespecial 11, 3) := by decide +kernel
theorem dX8_init_141 : decode mX8_init.2.2.1 141 = .ok (.invokespecial 18, 3) := by decide +kernel
def bX8_board_0 : List Instr := [.iload_n 1, .iconst 2, .bipush 6]
theorem kX8_board_0 : okB mX8_board 0 bX8_board_0 = true := by decide +kernel
def bX8_board_7 : List Instr := [.ifCond .eq 13]
theorem kX8_board_7 : okB mX8_board 7 bX8_board_7 = true := by decide +kernel
def bX8_board_10 : List Instr := [.iload_n 2, .iconst 2, .bipush 6]
theorem kX8_board_10 : okB mX8_board 10 bX8_board_10 = true := by decide +kernel
def bX8_board_17 : List Instr := [.ifCond .ne 10]
theorem kX8_board_17 : okB mX8_board 17 bX8_board_17 = true := by decide +kernel
def bX8_board_20 : List Instr := [.aload_n 0, .bipush (-2)]
theorem kX8_board_20 : okB mX8_board 20 bX8_board_20 = true := by decide +kernel
def bX8_board_26 : List Instr := [.ireturn]
theorem kX8_board_26 : okB mX8_board 26 bX8_board_26 = true := by decide +kernel
def bX8_board_27 : List Instr := [.aload_n 0, .getfield 12, .iload_n 1, .iload_n 2]
theorem kX8_board_27 : okB mX8_board 27 bX8_board_27 = true := by decide +kernel
def bX8_board_36 : List Instr := [.aload_n 0, .getfield 19]
theorem kX8_board_36 : okB mX8_board 36 bX8_board_36 = true := by decide +kernel
def bX8_board_43 : List Instr := [.aload_n 0, .getfield 54]
theorem kX8_board_43 : okB mX8_board 43 bX8_board_43 = true := by decide +kernel
def bX8_board_50 : List Instr := [.aload_n 0, .getfield 12, .getfield 90]
theorem kX8_board_50 : okB mX8_board 50 bX8_board_50 = true := by decide +kernel
def bX8_board_60 : List Instr := [.ireturn]
theorem kX8_board_60 : okB mX8_board 60 bX8_board_60 = true := by decide +kernel
theorem dX8_board_4 : decode mX8_board.2.2.1 4 = .ok (.invokestatic 74, 3) := by decide +kernel
theorem dX8_board_14 : decode mX8_board.2.2.1 14 = .ok (.invokestatic 74, 3) := by decide +kernel
theorem dX8_board_23 : decode mX8_board.2.2.1 23 = .ok (.invokevirtual 78, 3) := by decide +kernel
theorem dX8_board_33 : decode mX8_board.2.2.1 33 = .ok (.invokevirtual 82, 3) := by decide +kernel
theorem dX8_board_40 : decode mX8_board.2.2.1 40 = .ok (.invokevirtual 86, 3) := by decide +kernel
theorem dX8_board_47 : decode mX8_board.2.2.1 47 = .ok (.invokevirtual 89, 3) := by decide +kernel
theorem dX8_board_57 : decode mX8_board.2.2.1 57 = .ok (.invokevirtual 94, 3) := by decide +kernel
def bX8_hole_0 : List Instr := [.aload_n 0, .getfield 12, .getfield 90, .iload_n 1]
theorem kX8_hole_0 : okB mX8_hole 0 bX8_hole_0 = true := by decide +kernel
def bX8_hole_11 : List Instr := [.ifCond .ne 10]
theorem kX8_hole_11 : okB mX8_hole 11 bX8_hole_11 = true := by decide +kernel
def bX8_hole_14 : List Instr := [.aload_n 0, .bipush (-2)]
theorem kX8_hole_14 : okB mX8_hole 14 bX8_hole_14 = true := by decide +kernel
def bX8_hole_20 : List Instr := [.ireturn]
theorem kX8_hole_20 : okB mX8_hole 20 bX8_hole_20 = true := by decide +kernel
def bX8_hole_21 : List Instr := [.aload_n 0, .getfield 12, .getfield 90, .iload_n 1]
theorem kX8_hole_21 : okB mX8_hole 21 bX8_hole_21 = true := by decide +kernel
def bX8_hole_32 : List Instr := [.ifCond .eq 38]
theorem kX8_hole_32 : okB mX8_hole 32 bX8_hole_32 = true := by decide +kernel
def bX8_hole_35 : List Instr := [.aload_n 0, .getfield 12, .iload_n 1]
theorem kX8_hole_35 : okB mX8_hole 35 bX8_hole_35 = true := by decide +kernel
def bX8_hole_43 : List Instr := [.iconst (-1), .if_icmp .ne 26]
theorem kX8_hole_43 : okB mX8_hole 43 bX8_hole_43 = true := by decide +kernel
def bX8_hole_47 : List Instr := [.aload_n 0, .getfield 12, .getfield 90, .getfield 110, .ifCond .gt 13]
theorem kX8_hole_47 : okB mX8_hole 47 bX8_hole_47 = true := by decide +kernel
def bX8_hole_60 : List Instr := [.aload_n 0, .getfield 12, .getfield 114, .ifCond .le 10]
theorem kX8_hole_60 : okB mX8_hole 60 bX8_hole_60 = true := by decide +kernel
def bX8_hole_70 : List Instr := [.aload_n 0, .bipush (-3)]
theorem kX8_hole_70 : okB mX8_hole 70 bX8_hole_70 = true := by decide +kernel
def bX8_hole_76 : List Instr := [.ireturn]
theorem kX8_hole_76 : okB mX8_hole 76 bX8_hole_76 = true := by decide +kernel
def bX8_hole_77 : List Instr := [.aload_n 0, .getfield 12, .getfield 90, .iload_n 1]
theorem kX8_hole_77 : okB mX8_hole 77 bX8_hole_77 = true := by decide +kernel
def bX8_hole_88 : List Instr := [.aload_n 0, .getfield 19]
theorem kX8_hole_88 : okB mX8_hole 88 bX8_hole_88 = true := by decide +kernel
def bX8_hole_95 : List Instr := [.aload_n 0, .getfield 54]
theorem kX8_hole_95 : okB mX8_hole 95 bX8_hole_95 = true := by decide +kernel
def bX8_hole_102 : List Instr := [.iconst 1, .ireturn]
theorem kX8_hole_102 : okB mX8_hole 102 bX8_hole_102 = true := by decide +kernel
theorem dX8_hole_8 : decode mX8_hole.2.2.1 8 = .ok (.invokevirtual 100, 3) := by decide +kernel
theorem dX8_hole_17 : decode mX8_hole.2.2.1 17 = .ok (.invokevirtual 78, 3) := by decide +kernel
theorem dX8_hole_29 : decode mX8_hole.2.2.1 29 = .ok (.invokevirtual 104, 3) := by decide +kernel
theorem dX8_hole_40 : decode mX8_hole.2.2.1 40 = .ok (.invokevirtual 107, 3) := by decide +kernel
theorem dX8_hole_73 : decode mX8_hole.2.2.1 73 = .ok (.invokevirtual 117, 3) := by decide +kernel
theorem dX8_hole_85 : decode mX8_hole.2.2.1 85 = .ok (.invokevirtual 120, 3) := by decide +kernel
theorem dX8_hole_92 : decode mX8_hole.2.2.1 92 = .ok (.invokevirtual 86, 3) := by decide +kernel
theorem dX8_hole_99 : decode mX8_hole.2.2.1 99 = .ok (.invokevirtual 89, 3) := by decide +kernel
def bX8_man_0 : List Instr := [.iload_n 1, .iconst 0, .iconst 4]
theorem kX8_man_0 : okB mX8_man 0 bX8_man_0 = true := by decide +kernel
def bX8_man_6 : List Instr := [.ifCond .eq 26]
theorem kX8_man_6 : okB mX8_man 6 bX8_man_6 = true := by decide +kernel
def bX8_man_9 : List Instr := [.iload_n 2, .iconst 0, .iconst 1]
theorem kX8_man_9 : okB mX8_man 9 bX8_man_9 = true := by decide +kernel
def bX8_man_15 : List Instr := [.ifCond .eq 17]
theorem kX8_man_15 : okB mX8_man 15 bX8_man_15 = true := by decide +kernel
def bX8_man_18 : List Instr := [.iload_n 3, .iconst 1, .bipush 9]
theorem kX8_man_18 : okB mX8_man 18 bX8_man_18 = true := by decide +kernel
def bX8_man_25 : List Instr := [.ifCond .eq 7]
theorem kX8_man_25 : okB mX8_man 25 bX8_man_25 = true := by decide +kernel
def bX8_man_28 : List Instr := [.iconst 1, .goto 4]
theorem kX8_man_28 : okB mX8_man 28 bX8_man_28 = true := by decide +kernel
def bX8_man_32 : List Instr := [.iconst 0]
theorem kX8_man_32 : okB mX8_man 32 bX8_man_32 = true := by decide +kernel
def bX8_man_33 : List Instr := [.istore 5, .iload 5, .ifCond .eq 31]
theorem kX8_man_33 : okB mX8_man 33 bX8_man_33 = true := by decide +kernel
def bX8_man_40 : List Instr := [.aload_n 0, .getfield 12, .getfield 90, .iload 4]
theorem kX8_man_40 : okB mX8_man 40 bX8_man_40 = true := by decide +kernel
def bX8_man_52 : List Instr := [.ifCond .eq 16]
theorem kX8_man_52 : okB mX8_man 52 bX8_man_52 = true := by decide +kernel
def bX8_man_55 : List Instr := [.aload_n 0, .getfield 12, .iload 4]
theorem kX8_man_55 : okB mX8_man 55 bX8_man_55 = true := by decide +kernel
def bX8_man_64 : List Instr := [.iconst (-1), .if_icmp .eq 10]
theorem kX8_man_64 : okB mX8_man 64 bX8_man_64 = true := by decide +kernel
def bX8_man_68 : List Instr := [.aload_n 0, .bipush (-2)]
theorem kX8_man_68 : okB mX8_man 68 bX8_man_68 = true := by decide +kernel
def bX8_man_74 : List Instr := [.ireturn]
theorem kX8_man_74 : okB mX8_man 74 bX8_man_74 = true := by decide +kernel
def bX8_man_75 : List Instr := [.aload_n 0, .getfield 12, .getfield 124, .bipush 8, .if_icmp .lt 8]
theorem kX8_man_75 : okB mX8_man 75 bX8_man_75 = true := by decide +kernel
def bX8_man_87 : List Instr := [.aload_n 0]
theorem kX8_man_87 : okB mX8_man 87 bX8_man_87 = true := by decide +kernel
def bX8_man_91 : List Instr := [.ireturn]
theorem kX8_man_91 : okB mX8_man 91 bX8_man_91 = true := by decide +kernel
def bX8_man_92 : List Instr := [.aload_n 0, .getfield 19]
theorem kX8_man_92 : okB mX8_man 92 bX8_man_92 = true := by decide +kernel
def bX8_man_99 : List Instr := [.aload_n 0, .getfield 12, .iload_n 1, .iload_n 2, .iload_n 3, .iload 4]
theorem kX8_man_99 : okB mX8_man 99 bX8_man_99 = true := by decide +kernel
def bX8_man_111 : List Instr := [.ireturn]
theorem kX8_man_111 : okB mX8_man 111 bX8_man_111 = true := by decide +kernel
theorem dX8_man_3 : decode mX8_man.2.2.1 3 = .ok (.invokestatic 74, 3) := by decide +kernel
theorem dX8_man_12 : decode mX8_man.2.2.1 12 = .ok (.invokestatic 74, 3) := by decide +kernel
theorem dX8_man_22 : decode mX8_man.2.2.1 22 = .ok (.invokestatic 74, 3) := by decide +kernel
theorem dX8_man_49 : decode mX8_man.2.2.1 49 = .ok (.invokevirtual 104, 3) := by decide +kernel
theorem dX8_man_61 : decode mX8_man.2.2.1 61 = .ok (.invokevirtual 107, 3) := by decide +kernel
theorem dX8_man_71 : decode mX8_man.2.2.1 71 = .ok (.invokevirtual 78, 3) := by decide +kernel
theorem dX8_man_88 : decode mX8_man.2.2.1 88 = .ok (.invokevirtual 127, 3) := by decide +kernel
theorem dX8_man_96 : decode mX8_man.2.2.1 96 = .ok (.invokevirtual 86, 3) := by decide +kernel
theorem dX8_man_108 : decode mX8_man.2.2.1 108 = .ok (.invokevirtual 130, 3) := by decide +kernel
def bX8_put_0 : List Instr := [.iload_n 1, .ifCond .ne 38]
theorem kX8_put_0 : okB mX8_put 0 bX8_put_0 = true := by decide +kernel
def bX8_put_4 : List Instr := [.iload_n 2, .iconst 1, .bipush 9]
theorem kX8_put_4 : okB mX8_put 4 bX8_put_4 = true := by decide +kernel
def bX8_put_11 : List Instr := [.ifCond .eq 28]
theorem kX8_put_11 : okB mX8_put 11 bX8_put_11 = true := by decide +kernel
def bX8_put_14 : List Instr := [.aload_n 0, .getfield 12, .getfield 134, .istore_n 3, .aload_n 0, .getfield 12, .iload_n 2, .putfield 134, .aload_n 0, .getfield 19]
theorem kX8_put_14 : okB mX8_put 14 bX8_put_14 = true := by decide +kernel
def bX8_put_37 : List Instr := [.iload_n 3, .ireturn]
theorem kX8_put_37 : okB mX8_put 37 bX8_put_37 = true := by decide +kernel
def bX8_put_39 : List Instr := [.iload_n 1, .iconst 1, .if_icmp .ne 37]
theorem kX8_put_39 : okB mX8_put 39 bX8_put_39 = true := by decide +kernel
def bX8_put_44 : List Instr := [.iload_n 2, .iconst 1, .iconst 3]
theorem kX8_put_44 : okB mX8_put 44 bX8_put_44 = true := by decide +kernel
def bX8_put_50 : List Instr := [.ifCond .eq 28]
theorem kX8_put_50 : okB mX8_put 50 bX8_put_50 = true := by decide +kernel
def bX8_put_53 : List Instr := [.aload_n 0, .getfield 12, .getfield 137, .istore_n 3, .aload_n 0, .getfield 12, .iload_n 2, .putfield 137, .aload_n 0, .getfield 19]
theorem kX8_put_53 : okB mX8_put 53 bX8_put_53 = true := by decide +kernel
def bX8_put_76 : List Instr := [.iload_n 3, .ireturn]
theorem kX8_put_76 : okB mX8_put 76 bX8_put_76 = true := by decide +kernel
def bX8_put_78 : List Instr := [.aload_n 0, .bipush (-2)]
theorem kX8_put_78 : okB mX8_put 78 bX8_put_78 = true := by decide +kernel
def bX8_put_84 : List Instr := [.ireturn]
theorem kX8_put_84 : okB mX8_put 84 bX8_put_84 = true := by decide +kernel
theorem dX8_put_8 : decode mX8_put.2.2.1 8 = .ok (.invokestatic 74, 3) := by decide +kernel
theorem dX8_put_34 : decode mX8_put.2.2.1 34 = .ok (.invokevirtual 86, 3) := by decide +kernel
theorem dX8_put_47 : decode mX8_put.2.2.1 47 = .ok (.invokestatic 74, 3) := by decide +kernel
theorem dX8_put_73 : decode mX8_put.2.2.1 73 = .ok (.invokevirtual 86, 3) := by decide +kernel
theorem dX8_put_81 : decode mX8_put.2.2.1 81 = .ok (.invokevirtual 78, 3) := by decide +kernel
def bX8_cell_0 : List Instr := [.aload_n 0, .getfield 12, .getfield 90, .iload_n 1]
theorem kX8_cell_0 : okB mX8_cell 0 bX8_cell_0 = true := by decide +kernel
def bX8_cell_11 : List Instr := [.ifCond .eq 12]
theorem kX8_cell_11 : okB mX8_cell 11 bX8_cell_11 = true := by decide +kernel
def bX8_cell_14 : List Instr := [.iload_n 2, .iconst 0, .iconst 3]
theorem kX8_cell_14 : okB mX8_cell 14 bX8_cell_14 = true := by decide +kernel
def bX8_cell_20 : List Instr := [.ifCond .ne 11]
theorem kX8_cell_20 : okB mX8_cell 20 bX8_cell_20 = true := by decide +kernel
def bX8_cell_23 : List Instr := [.aload_n 0, .sipush (-1000)]
theorem kX8_cell_23 : okB mX8_cell 23 bX8_cell_23 = true := by decide +kernel
def bX8_cell_30 : List Instr := [.ireturn]
theorem kX8_cell_30 : okB mX8_cell 30 bX8_cell_30 = true := by decide +kernel
def bX8_cell_31 : List Instr := [.iload_n 2]
theorem kX8_cell_31 : okB mX8_cell 31 bX8_cell_31 = true := by decide +kernel
def bX8_cell_60 : List Instr := [.aload_n 0, .getfield 12, .getfield 90, .getfield 140, .iload_n 1, .iaload, .ireturn]
theorem kX8_cell_60 : okB mX8_cell 60 bX8_cell_60 = true := by decide +kernel
def bX8_cell_73 : List Instr := [.aload_n 0, .getfield 12, .getfield 90, .getfield 143, .iload_n 1, .iaload, .ireturn]
theorem kX8_cell_73 : okB mX8_cell 73 bX8_cell_73 = true := by decide +kernel
def bX8_cell_86 : List Instr := [.aload_n 0, .getfield 12, .getfield 90, .getfield 146, .iload_n 1, .iaload, .ireturn]
theorem kX8_cell_86 : okB mX8_cell 86 bX8_cell_86 = true := by decide +kernel
def bX8_cell_99 : List Instr := [.aload_n 0, .getfield 12, .getfield 90, .getfield 149, .iload_n 1, .baload, .ifCond .eq 7]
theorem kX8_cell_99 : okB mX8_cell 99 bX8_cell_99 = true := by decide +kernel
def bX8_cell_114 : List Instr := [.iconst 1, .goto 4]
theorem kX8_cell_114 : okB mX8_cell 114 bX8_cell_114 = true := by decide +kernel
def bX8_cell_118 : List Instr := [.iconst 0]
theorem kX8_cell_118 : okB mX8_cell 118 bX8_cell_118 = true := by decide +kernel
def bX8_cell_119 : List Instr := [.ireturn]
theorem kX8_cell_119 : okB mX8_cell 119 bX8_cell_119 = true := by decide +kernel
theorem dX8_cell_8 : decode mX8_cell.2.2.1 8 = .ok (.invokevirtual 104, 3) := by decide +kernel
theorem dX8_cell_17 : decode mX8_cell.2.2.1 17 = .ok (.invokestatic 74, 3) := by decide +kernel
theorem dX8_cell_27 : decode mX8_cell.2.2.1 27 = .ok (.invokevirtual 78, 3) := by decide +kernel
theorem dX8_cell_32 : decode mX8_cell.2.2.1 32 = .ok (.tableswitch 67 0 2 #[28, 41, 54], 28) := by decide +kernel
def bX8_pile_0 : List Instr := [.iload_n 3, .iconst (-1), .if_icmp .ge 10]
theorem kX8_pile_0 : okB mX8_pile 0 bX8_pile_0 = true := by decide +kernel
def bX8_pile_5 : List Instr := [.aload_n 0, .bipush (-10)]
theorem kX8_pile_5 : okB mX8_pile 5 bX8_pile_5 = true := by decide +kernel
def bX8_pile_11 : List Instr := [.ireturn]
theorem kX8_pile_11 : okB mX8_pile 11 bX8_pile_11 = true := by decide +kernel
def bX8_pile_12 : List Instr := [.iload_n 3, .iconst (-1), .if_icmp .ne 16]
theorem kX8_pile_12 : okB mX8_pile 12 bX8_pile_12 = true := by decide +kernel
def bX8_pile_17 : List Instr := [.aload_n 0, .getfield 12, .getfield 90, .iload_n 1, .iload_n 2]
theorem kX8_pile_17 : okB mX8_pile 17 bX8_pile_17 = true := by decide +kernel
def bX8_pile_29 : List Instr := [.ireturn]
theorem kX8_pile_29 : okB mX8_pile 29 bX8_pile_29 = true := by decide +kernel
def bX8_pile_30 : List Instr := [.aload_n 0, .getfield 12, .getfield 90, .iload_n 1, .iload_n 2, .iload_n 3]
theorem kX8_pile_30 : okB mX8_pile 30 bX8_pile_30 = true := by decide +kernel
def bX8_pile_43 : List Instr := [.istore 4, .iload 4, .iconst (-1), .if_icmp .ne 8]
theorem kX8_pile_43 : okB mX8_pile 43 bX8_pile_43 = true := by decide +kernel
def bX8_pile_51 : List Instr := [.bipush (-5), .goto 5]
theorem kX8_pile_51 : okB mX8_pile 51 bX8_pile_51 = true := by decide +kernel
def bX8_pile_56 : List Instr := [.iload 4]
theorem kX8_pile_56 : okB mX8_pile 56 bX8_pile_56 = true := by decide +kernel
def bX8_pile_58 : List Instr := [.ireturn]
theorem kX8_pile_58 : okB mX8_pile 58 bX8_pile_58 = true := by decide +kernel
theorem dX8_pile_8 : decode mX8_pile.2.2.1 8 = .ok (.invokevirtual 78, 3) := by decide +kernel
theorem dX8_pile_26 : decode mX8_pile.2.2.1 26 = .ok (.invokevirtual 152, 3) := by decide +kernel
theorem dX8_pile_40 : decode mX8_pile.2.2.1 40 = .ok (.invokevirtual 156, 3) := by decide +kernel
def bX8_strength_0 : List Instr := [.aload_n 0, .getfield 12, .iload_n 1]
theorem kX8_strength_0 : okB mX8_strength 0 bX8_strength_0 = true := by decide +kernel
def bX8_strength_8 : List Instr := [.ifCond .ne 10]
theorem kX8_strength_8 : okB mX8_strength 8 bX8_strength_8 = true := by decide +kernel
def bX8_strength_11 : List Instr := [.aload_n 0, .bipush (-2)]
theorem kX8_strength_11 : okB mX8_strength 11 bX8_strength_11 = true := by decide +kernel
def bX8_strength_17 : List Instr := [.ireturn]
theorem kX8_strength_17 : okB mX8_strength 17 bX8_strength_17 = true := by decide +kernel
def bX8_strength_18 : List Instr := [.aload_n 0, .getfield 12, .iload_n 1]
theorem kX8_strength_18 : okB mX8_strength 18 bX8_strength_18 = true := by decide +kernel
def bX8_strength_26 : List Instr := [.ireturn]
theorem kX8_strength_26 : okB mX8_strength 26 bX8_strength_26 = true := by decide +kernel
theorem dX8_strength_5 : decode mX8_strength.2.2.1 5 = .ok (.invokevirtual 160, 3) := by decide +kernel
theorem dX8_strength_14 : decode mX8_strength.2.2.1 14 = .ok (.invokevirtual 78, 3) := by decide +kernel
theorem dX8_strength_23 : decode mX8_strength.2.2.1 23 = .ok (.invokevirtual 163, 3) := by decide +kernel
def bX8_ruler_0 : List Instr := [.aload_n 0, .getfield 12, .iload_n 1, .iload_n 2]
theorem kX8_ruler_0 : okB mX8_ruler 0 bX8_ruler_0 = true := by decide +kernel
def bX8_ruler_9 : List Instr := [.ireturn]
theorem kX8_ruler_9 : okB mX8_ruler 9 bX8_ruler_9 = true := by decide +kernel
theorem dX8_ruler_6 : decode mX8_ruler.2.2.1 6 = .ok (.invokevirtual 166, 3) := by decide +kernel
def bX8_where_0 : List Instr := [.iload_n 1, .iconst 0, .aload_n 0, .getfield 12, .getfield 124, .iconst 1, .isub]
theorem kX8_where_0 : okB mX8_where 0 bX8_where_0 = true := by decide +kernel
def bX8_where_14 : List Instr := [.ifCond .ne 10]
theorem kX8_where_14 : okB mX8_where 14 bX8_where_14 = true := by decide +kernel
def bX8_where_17 : List Instr := [.aload_n 0, .bipush (-2)]
theorem kX8_where_17 : okB mX8_where 17 bX8_where_17 = true := by decide +kernel
def bX8_where_23 : List Instr := [.ireturn]
theorem kX8_where_23 : okB mX8_where 23 bX8_where_23 = true := by decide +kernel
def bX8_where_24 : List Instr := [.aload_n 0, .getfield 12, .getfield 169, .iload_n 1, .iaload, .ireturn]
theorem kX8_where_24 : okB mX8_where 24 bX8_where_24 = true := by decide +kernel
theorem dX8_where_11 : decode mX8_where.2.2.1 11 = .ok (.invokestatic 74, 3) := by decide +kernel
theorem dX8_where_20 : decode mX8_where.2.2.1 20 = .ok (.invokevirtual 78, 3) := by decide +kernel
def bX8_step_0 : List Instr := [.iload_n 3, .iconst 0, .iconst 3]
theorem kX8_step_0 : okB mX8_step 0 bX8_step_0 = true := by decide +kernel
def bX8_step_6 : List Instr := [.ifCond .eq 13]
theorem kX8_step_6 : okB mX8_step 6 bX8_step_6 = true := by decide +kernel
def bX8_step_9 : List Instr := [.iload 4, .iconst 1, .iconst 2]
theorem kX8_step_9 : okB mX8_step 9 bX8_step_9 = true := by decide +kernel
def bX8_step_16 : List Instr := [.ifCond .ne 10]
theorem kX8_step_16 : okB mX8_step 16 bX8_step_16 = true := by decide +kernel
def bX8_step_19 : List Instr := [.aload_n 0, .bipush (-10)]
theorem kX8_step_19 : okB mX8_step 19 bX8_step_19 = true := by decide +kernel
def bX8_step_25 : List Instr := [.ireturn]
theorem kX8_step_25 : okB mX8_step 25 bX8_step_25 = true := by decide +kernel
def bX8_step_26 : List Instr := [.aload_n 0, .getfield 12, .iload_n 1, .iload_n 2, .iload_n 3, .iload 4]
theorem kX8_step_26 : okB mX8_step 26 bX8_step_26 = true := by decide +kernel
def bX8_step_38 : List Instr := [.istore 5, .iload 5, .iconst (-1), .if_icmp .ne 10]
theorem kX8_step_38 : okB mX8_step 38 bX8_step_38 = true := by decide +kernel
def bX8_step_46 : List Instr := [.aload_n 0, .bipush (-20)]
theorem kX8_step_46 : okB mX8_step 46 bX8_step_46 = true := by decide +kernel
def bX8_step_52 : List Instr := [.ireturn]
theorem kX8_step_52 : okB mX8_step 52 bX8_step_52 = true := by decide +kernel
def bX8_step_53 : List Instr := [.aload_n 0, .getfield 19, .aload_n 0, .getfield 12]
theorem kX8_step_53 : okB mX8_step 53 bX8_step_53 = true := by decide +kernel
def bX8_step_64 : List Instr := [.aload_n 0, .getfield 12, .aload_n 0, .getfield 12, .iload_n 1, .iload_n 2]
theorem kX8_step_64 : okB mX8_step 64 bX8_step_64 = true := by decide +kernel
def bX8_step_77 : List Instr := [.iload 5]
theorem kX8_step_77 : okB mX8_step 77 bX8_step_77 = true := by decide +kernel
def bX8_step_82 : List Instr := [.ireturn]
theorem kX8_step_82 : okB mX8_step 82 bX8_step_82 = true := by decide +kernel
theorem dX8_step_3 : decode mX8_step.2.2.1 3 = .ok (.invokestatic 74, 3) := by decide +kernel
theorem dX8_step_13 : decode mX8_step.2.2.1 13 = .ok (.invokestatic 74, 3) := by decide +kernel
theorem dX8_step_22 : decode mX8_step.2.2.1 22 = .ok (.invokevirtual 78, 3) := by decide +kernel
theorem dX8_step_35 : decode mX8_step.2.2.1 35 = .ok (.invokevirtual 172, 3) := by decide +kernel
theorem dX8_step_49 : decode mX8_step.2.2.1 49 = .ok (.invokevirtual 117, 3) := by decide +kernel
theorem dX8_step_61 : decode mX8_step.2.2.1 61 = .ok (.invokevirtual 175, 3) := by decide +kernel
theorem dX8_step_74 : decode mX8_step.2.2.1 74 = .ok (.invokevirtual 166, 3) := by decide +kernel
theorem dX8_step_79 : decode mX8_step.2.2.1 79 = .ok (.invokevirtual 179, 3) := by decide +kernel
def bX8_fold_0 : List Instr := [.iload_n 1, .iconst 0, .iconst 1]
theorem kX8_fold_0 : okB mX8_fold 0 bX8_fold_0 = true := by decide +kernel
def bX8_fold_6 : List Instr := [.ifCond .eq 12]
theorem kX8_fold_6 : okB mX8_fold 6 bX8_fold_6 = true := by decide +kernel
def bX8_fold_9 : List Instr := [.iload_n 3, .iconst 0, .iconst 1]
theorem kX8_fold_9 : okB mX8_fold 9 bX8_fold_9 = true := by decide +kernel
def bX8_fold_15 : List Instr := [.ifCond .ne 10]
theorem kX8_fold_15 : okB mX8_fold 15 bX8_fold_15 = true := by decide +kernel
def bX8_fold_18 : List Instr := [.aload_n 0, .bipush (-2)]
theorem kX8_fold_18 : okB mX8_fold 18 bX8_fold_18 = true := by decide +kernel
def bX8_fold_24 : List Instr := [.ireturn]
theorem kX8_fold_24 : okB mX8_fold 24 bX8_fold_24 = true := by decide +kernel
def bX8_fold_25 : List Instr := [.aload_n 0, .getfield 12, .getfield 114, .ifCond .eq 18]
theorem kX8_fold_25 : okB mX8_fold 25 bX8_fold_25 = true := by decide +kernel
def bX8_fold_35 : List Instr := [.aload_n 0, .getfield 12, .getfield 90, .iload_n 1, .iload_n 2]
theorem kX8_fold_35 : okB mX8_fold 35 bX8_fold_35 = true := by decide +kernel
def bX8_fold_47 : List Instr := [.ifCond .ne 10]
theorem kX8_fold_47 : okB mX8_fold 47 bX8_fold_47 = true := by decide +kernel
def bX8_fold_50 : List Instr := [.aload_n 0, .bipush (-3)]
theorem kX8_fold_50 : okB mX8_fold 50 bX8_fold_50 = true := by decide +kernel
def bX8_fold_56 : List Instr := [.ireturn]
theorem kX8_fold_56 : okB mX8_fold 56 bX8_fold_56 = true := by decide +kernel
def bX8_fold_57 : List Instr := [.aload_n 0, .getfield 19, .aload_n 0, .getfield 12]
theorem kX8_fold_57 : okB mX8_fold 57 bX8_fold_57 = true := by decide +kernel
def bX8_fold_68 : List Instr := [.aload_n 0, .getfield 12, .iload_n 1, .iload_n 2, .iload_n 3]
theorem kX8_fold_68 : okB mX8_fold 68 bX8_fold_68 = true := by decide +kernel
def bX8_fold_78 : List Instr := [.aload_n 0, .getfield 12, .getfield 114, .ireturn]
theorem kX8_fold_78 : okB mX8_fold 78 bX8_fold_78 = true := by decide +kernel
theorem dX8_fold_3 : decode mX8_fold.2.2.1 3 = .ok (.invokestatic 74, 3) := by decide +kernel
theorem dX8_fold_12 : decode mX8_fold.2.2.1 12 = .ok (.invokestatic 74, 3) := by decide +kernel
theorem dX8_fold_21 : decode mX8_fold.2.2.1 21 = .ok (.invokevirtual 78, 3) := by decide +kernel
theorem dX8_fold_44 : decode mX8_fold.2.2.1 44 = .ok (.invokevirtual 182, 3) := by decide +kernel
theorem dX8_fold_53 : decode mX8_fold.2.2.1 53 = .ok (.invokevirtual 117, 3) := by decide +kernel
theorem dX8_fold_65 : decode mX8_fold.2.2.1 65 = .ok (.invokevirtual 175, 3) := by decide +kernel
theorem dX8_fold_75 : decode mX8_fold.2.2.1 75 = .ok (.invokevirtual 186, 3) := by decide +kernel
def bX8_state_0 : List Instr := [.iload_n 1]
theorem kX8_state_0 : okB mX8_state 0 bX8_state_0 = true := by decide +kernel
def bX8_state_40 : List Instr := [.aload_n 0, .getfield 12, .getfield 190, .ireturn]
theorem kX8_state_40 : okB mX8_state 40 bX8_state_40 = true := by decide +kernel
def bX8_state_48 : List Instr := [.aload_n 0, .getfield 12]
theorem kX8_state_48 : okB mX8_state 48 bX8_state_48 = true := by decide +kernel
def bX8_state_55 : List Instr := [.ireturn]
theorem kX8_state_55 : okB mX8_state 55 bX8_state_55 = true := by decide +kernel
def bX8_state_56 : List Instr := [.aload_n 0, .getfield 12, .getfield 114, .ireturn]
theorem kX8_state_56 : okB mX8_state 56 bX8_state_56 = true := by decide +kernel
def bX8_state_64 : List Instr := [.aload_n 0, .getfield 12, .getfield 90, .getfield 110, .ireturn]
theorem kX8_state_64 : okB mX8_state 64 bX8_state_64 = true := by decide +kernel
def bX8_state_75 : List Instr := [.aload_n 0, .getfield 12]
theorem kX8_state_75 : okB mX8_state 75 bX8_state_75 = true := by decide +kernel
def bX8_state_82 : List Instr := [.ireturn]
theorem kX8_state_82 : okB mX8_state 82 bX8_state_82 = true := by decide +kernel
def bX8_state_83 : List Instr := [.aload_n 0, .getfield 12]
theorem kX8_state_83 : okB mX8_state 83 bX8_state_83 = true := by decide +kernel
def bX8_state_90 : List Instr := [.ireturn]
theorem kX8_state_90 : okB mX8_state 90 bX8_state_90 = true := by decide +kernel
def bX8_state_91 : List Instr := [.aload_n 0, .bipush (-10)]
theorem kX8_state_91 : okB mX8_state 91 bX8_state_91 = true := by decide +kernel
def bX8_state_97 : List Instr := [.ireturn]
theorem kX8_state_97 : okB mX8_state 97 bX8_state_97 = true := by decide +kernel
theorem dX8_state_1 : decode mX8_state.2.2.1 1 = .ok (.tableswitch 90 0 5 #[39, 47, 55, 63, 74, 82], 39) := by decide +kernel
theorem dX8_state_52 : decode mX8_state.2.2.1 52 = .ok (.invokevirtual 193, 3) := by decide +kernel
theorem dX8_state_79 : decode mX8_state.2.2.1 79 = .ok (.invokevirtual 196, 3) := by decide +kernel
theorem dX8_state_87 : decode mX8_state.2.2.1 87 = .ok (.invokevirtual 199, 3) := by decide +kernel
theorem dX8_state_94 : decode mX8_state.2.2.1 94 = .ok (.invokevirtual 78, 3) := by decide +kernel
def bX8_undo_0 : List Instr := [.aload_n 0, .getfield 19, .aload_n 0, .getfield 12]
theorem kX8_undo_0 : okB mX8_undo 0 bX8_undo_0 = true := by decide +kernel
def bX8_undo_11 : List Instr := [.ifCond .eq 7]
theorem kX8_undo_11 : okB mX8_undo 11 bX8_undo_11 = true := by decide +kernel
def bX8_undo_14 : List Instr := [.iconst 1, .goto 9]
theorem kX8_undo_14 : okB mX8_undo 14 bX8_undo_14 = true := by decide +kernel
def bX8_undo_18 : List Instr := [.aload_n 0, .bipush (-3)]
theorem kX8_undo_18 : okB mX8_undo 18 bX8_undo_18 = true := by decide +kernel
def bX8_undo_24 : List Instr := [.ireturn]
theorem kX8_undo_24 : okB mX8_undo 24 bX8_undo_24 = true := by decide +kernel
theorem dX8_undo_8 : decode mX8_undo.2.2.1 8 = .ok (.invokevirtual 202, 3) := by decide +kernel
theorem dX8_undo_21 : decode mX8_undo.2.2.1 21 = .ok (.invokevirtual 117, 3) := by decide +kernel
def bX8_folds_0 : List Instr := [.iload_n 1, .iconst (-1), .if_icmp .ge 10]
theorem kX8_folds_0 : okB mX8_folds 0 bX8_folds_0 = true := by decide +kernel
def bX8_folds_5 : List Instr := [.aload_n 0, .bipush (-10)]
theorem kX8_folds_5 : okB mX8_folds 5 bX8_folds_5 = true := by decide +kernel
def bX8_folds_11 : List Instr := [.ireturn]
theorem kX8_folds_11 : okB mX8_folds 11 bX8_folds_11 = true := by decide +kernel
def bX8_folds_12 : List Instr := [.aload_n 0, .getfield 12, .getfield 90, .astore_n 2, .iload_n 1, .iconst (-1), .if_icmp .ne 8]
theorem kX8_folds_12 : okB mX8_folds 12 bX8_folds_12 = true := by decide +kernel
def bX8_folds_25 : List Instr := [.aload_n 2]
theorem kX8_folds_25 : okB mX8_folds 25 bX8_folds_25 = true := by decide +kernel
def bX8_folds_29 : List Instr := [.ireturn]
theorem kX8_folds_29 : okB mX8_folds 29 bX8_folds_29 = true := by decide +kernel
def bX8_folds_30 : List Instr := [.iload_n 1, .aload_n 2]
theorem kX8_folds_30 : okB mX8_folds 30 bX8_folds_30 = true := by decide +kernel
def bX8_folds_35 : List Instr := [.if_icmp .lt 6]
theorem kX8_folds_35 : okB mX8_folds 35 bX8_folds_35 = true := by decide +kernel
def bX8_folds_38 : List Instr := [.bipush (-5), .ireturn]
theorem kX8_folds_38 : okB mX8_folds 38 bX8_folds_38 = true := by decide +kernel
def bX8_folds_41 : List Instr := [.sipush 1000, .aload_n 2, .iload_n 1]
theorem kX8_folds_41 : okB mX8_folds 41 bX8_folds_41 = true := by decide +kernel
def bX8_folds_49 : List Instr := [.imul, .bipush 10, .aload_n 2, .iload_n 1]
theorem kX8_folds_49 : okB mX8_folds 49 bX8_folds_49 = true := by decide +kernel
def bX8_folds_57 : List Instr := [.bipush 20, .iadd, .imul, .iadd, .aload_n 2, .iload_n 1]
theorem kX8_folds_57 : okB mX8_folds 57 bX8_folds_57 = true := by decide +kernel
def bX8_folds_67 : List Instr := [.iadd, .ireturn]
theorem kX8_folds_67 : okB mX8_folds 67 bX8_folds_67 = true := by decide +kernel
theorem dX8_folds_8 : decode mX8_folds.2.2.1 8 = .ok (.invokevirtual 78, 3) := by decide +kernel
theorem dX8_folds_26 : decode mX8_folds.2.2.1 26 = .ok (.invokevirtual 206, 3) := by decide +kernel
theorem dX8_folds_32 : decode mX8_folds.2.2.1 32 = .ok (.invokevirtual 206, 3) := by decide +kernel
theorem dX8_folds_46 : decode mX8_folds.2.2.1 46 = .ok (.invokevirtual 209, 3) := by decide +kernel
theorem dX8_folds_54 : decode mX8_folds.2.2.1 54 = .ok (.invokevirtual 212, 3) := by decide +kernel
theorem dX8_folds_64 : decode mX8_folds.2.2.1 64 = .ok (.invokevirtual 215, 3) := by decide +kernel
def bX8_leaves_0 : List Instr := [.iload_n 1, .iconst 0, .aload_n 0, .getfield 12, .getfield 90]
theorem kX8_leaves_0 : okB mX8_leaves 0 bX8_leaves_0 = true := by decide +kernel
def bX8_leaves_12 : List Instr := [.iconst 1, .isub]
theorem kX8_leaves_12 : okB mX8_leaves 12 bX8_leaves_12 = true := by decide +kernel
def bX8_leaves_17 : List Instr := [.ifCond .eq 12]
theorem kX8_leaves_17 : okB mX8_leaves 17 bX8_leaves_17 = true := by decide +kernel
def bX8_leaves_20 : List Instr := [.iload_n 2, .iconst 0, .iconst 1]
theorem kX8_leaves_20 : okB mX8_leaves 20 bX8_leaves_20 = true := by decide +kernel
def bX8_leaves_26 : List Instr := [.ifCond .ne 10]
theorem kX8_leaves_26 : okB mX8_leaves 26 bX8_leaves_26 = true := by decide +kernel
def bX8_leaves_29 : List Instr := [.aload_n 0, .bipush (-2)]
theorem kX8_leaves_29 : okB mX8_leaves 29 bX8_leaves_29 = true := by decide +kernel
def bX8_leaves_35 : List Instr := [.ireturn]
theorem kX8_leaves_35 : okB mX8_leaves 35 bX8_leaves_35 = true := by decide +kernel
def bX8_leaves_36 : List Instr := [.aload_n 0, .getfield 33, .aload_n 0, .getfield 12, .iload_n 1]
theorem kX8_leaves_36 : okB mX8_leaves 36 bX8_leaves_36 = true := by decide +kernel
def bX8_leaves_48 : List Instr := [.aload_n 0, .getfield 33, .aload_n 0, .getfield 12, .iload_n 2]
theorem kX8_leaves_48 : okB mX8_leaves 48 bX8_leaves_48 = true := by decide +kernel
def bX8_leaves_60 : List Instr := [.ireturn]
theorem kX8_leaves_60 : okB mX8_leaves 60 bX8_leaves_60 = true := by decide +kernel
theorem dX8_leaves_9 : decode mX8_leaves.2.2.1 9 = .ok (.invokevirtual 206, 3) := by decide +kernel
theorem dX8_leaves_14 : decode mX8_leaves.2.2.1 14 = .ok (.invokestatic 74, 3) := by decide +kernel
theorem dX8_leaves_23 : decode mX8_leaves.2.2.1 23 = .ok (.invokestatic 74, 3) := by decide +kernel
theorem dX8_leaves_32 : decode mX8_leaves.2.2.1 32 = .ok (.invokevirtual 78, 3) := by decide +kernel
theorem dX8_leaves_45 : decode mX8_leaves.2.2.1 45 = .ok (.invokevirtual 218, 3) := by decide +kernel
theorem dX8_leaves_57 : decode mX8_leaves.2.2.1 57 = .ok (.invokevirtual 222, 3) := by decide +kernel
def bX8_habit_0 : List Instr := [.aload_n 0, .getfield 33, .aload_n 0, .getfield 12]
theorem kX8_habit_0 : okB mX8_habit 0 bX8_habit_0 = true := by decide +kernel
def bX8_habit_11 : List Instr := [.ireturn]
theorem kX8_habit_11 : okB mX8_habit 11 bX8_habit_11 = true := by decide +kernel
theorem dX8_habit_8 : decode mX8_habit.2.2.1 8 = .ok (.invokevirtual 226, 3) := by decide +kernel
def bX8_safe_0 : List Instr := [.aload_n 0, .getfield 33, .aload_n 0, .getfield 12]
theorem kX8_safe_0 : okB mX8_safe 0 bX8_safe_0 = true := by decide +kernel
def bX8_safe_11 : List Instr := [.ireturn]
theorem kX8_safe_11 : okB mX8_safe 11 bX8_safe_11 = true := by decide +kernel
theorem dX8_safe_8 : decode mX8_safe.2.2.1 8 = .ok (.invokevirtual 230, 3) := by decide +kernel
def bX8_small_0 : List Instr := [.iload_n 1, .iconst 1, .bipush 36]
theorem kX8_small_0 : okB mX8_small 0 bX8_small_0 = true := by decide +kernel
def bX8_small_7 : List Instr := [.ifCond .ne 10]
theorem kX8_small_7 : okB mX8_small 7 bX8_small_7 = true := by decide +kernel
def bX8_small_10 : List Instr := [.aload_n 0, .bipush (-2)]
theorem kX8_small_10 : okB mX8_small 10 bX8_small_10 = true := by decide +kernel
def bX8_small_16 : List Instr := [.ireturn]
theorem kX8_small_16 : okB mX8_small 16 bX8_small_16 = true := by decide +kernel
def bX8_small_17 : List Instr := [.aload_n 0, .getfield 54, .aload_n 0, .getfield 12, .getfield 90, .iload_n 1]
theorem kX8_small_17 : okB mX8_small 17 bX8_small_17 = true := by decide +kernel
def bX8_small_32 : List Instr := [.ireturn]
theorem kX8_small_32 : okB mX8_small 32 bX8_small_32 = true := by decide +kernel
theorem dX8_small_4 : decode mX8_small.2.2.1 4 = .ok (.invokestatic 74, 3) := by decide +kernel
theorem dX8_small_13 : decode mX8_small.2.2.1 13 = .ok (.invokevirtual 78, 3) := by decide +kernel
theorem dX8_small_29 : decode mX8_small.2.2.1 29 = .ok (.invokevirtual 233, 3) := by decide +kernel
def bX8_reach_0 : List Instr := [.iload_n 3, .iconst 0, .bipush 9]
theorem kX8_reach_0 : okB mX8_reach 0 bX8_reach_0 = true := by decide +kernel
def bX8_reach_7 : List Instr := [.ifCond .eq 16]
theorem kX8_reach_7 : okB mX8_reach 7 bX8_reach_7 = true := by decide +kernel
def bX8_reach_10 : List Instr := [.aload_n 0, .getfield 12, .iload_n 1, .iload_n 2]
theorem kX8_reach_10 : okB mX8_reach 10 bX8_reach_10 = true := by decide +kernel
def bX8_reach_19 : List Instr := [.iconst (-1), .if_icmp .ne 10]
theorem kX8_reach_19 : okB mX8_reach 19 bX8_reach_19 = true := by decide +kernel
def bX8_reach_23 : List Instr := [.aload_n 0, .bipush (-2)]
theorem kX8_reach_23 : okB mX8_reach 23 bX8_reach_23 = true := by decide +kernel
def bX8_reach_29 : List Instr := [.ireturn]
theorem kX8_reach_29 : okB mX8_reach 29 bX8_reach_29 = true := by decide +kernel
def bX8_reach_30 : List Instr := [.aload_n 0, .getfield 47, .aload_n 0, .getfield 12, .iload_n 1, .iload_n 2, .iload_n 3]
theorem kX8_reach_30 : okB mX8_reach 30 bX8_reach_30 = true := by decide +kernel
def bX8_reach_44 : List Instr := [.ireturn]
theorem kX8_reach_44 : okB mX8_reach 44 bX8_reach_44 = true := by decide +kernel
theorem dX8_reach_4 : decode mX8_reach.2.2.1 4 = .ok (.invokestatic 74, 3) := by decide +kernel
theorem dX8_reach_16 : decode mX8_reach.2.2.1 16 = .ok (.invokevirtual 166, 3) := by decide +kernel
theorem dX8_reach_26 : decode mX8_reach.2.2.1 26 = .ok (.invokevirtual 78, 3) := by decide +kernel
theorem dX8_reach_41 : decode mX8_reach.2.2.1 41 = .ok (.invokevirtual 237, 3) := by decide +kernel
def bX8_wins_0 : List Instr := [.iload_n 1, .iconst 0, .iconst 3]
theorem kX8_wins_0 : okB mX8_wins 0 bX8_wins_0 = true := by decide +kernel
def bX8_wins_6 : List Instr := [.ifCond .ne 10]
theorem kX8_wins_6 : okB mX8_wins 6 bX8_wins_6 = true := by decide +kernel
def bX8_wins_9 : List Instr := [.aload_n 0, .bipush (-2)]
theorem kX8_wins_9 : okB mX8_wins 9 bX8_wins_9 = true := by decide +kernel
def bX8_wins_15 : List Instr := [.ireturn]
theorem kX8_wins_15 : okB mX8_wins 15 bX8_wins_15 = true := by decide +kernel
def bX8_wins_16 : List Instr := [.aload_n 0, .getfield 40, .aload_n 0, .getfield 12, .iload_n 1]
theorem kX8_wins_16 : okB mX8_wins 16 bX8_wins_16 = true := by decide +kernel
def bX8_wins_28 : List Instr := [.ifCond .eq 7]
theorem kX8_wins_28 : okB mX8_wins 28 bX8_wins_28 = true := by decide +kernel
def bX8_wins_31 : List Instr := [.iconst 1, .goto 4]
theorem kX8_wins_31 : okB mX8_wins 31 bX8_wins_31 = true := by decide +kernel
def bX8_wins_35 : List Instr := [.iconst 0]
theorem kX8_wins_35 : okB mX8_wins 35 bX8_wins_35 = true := by decide +kernel
def bX8_wins_36 : List Instr := [.ireturn]
theorem kX8_wins_36 : okB mX8_wins 36 bX8_wins_36 = true := by decide +kernel
theorem dX8_wins_3 : decode mX8_wins.2.2.1 3 = .ok (.invokestatic 74, 3) := by decide +kernel
theorem dX8_wins_12 : decode mX8_wins.2.2.1 12 = .ok (.invokevirtual 78, 3) := by decide +kernel
theorem dX8_wins_25 : decode mX8_wins.2.2.1 25 = .ok (.invokevirtual 241, 3) := by decide +kernel
def bX8_best_0 : List Instr := [.iload_n 1, .iconst 0, .iconst 3]
theorem kX8_best_0 : okB mX8_best 0 bX8_best_0 = true := by decide +kernel
def bX8_best_6 : List Instr := [.ifCond .ne 10]
theorem kX8_best_6 : okB mX8_best 6 bX8_best_6 = true := by decide +kernel
def bX8_best_9 : List Instr := [.aload_n 0, .bipush (-2)]
theorem kX8_best_9 : okB mX8_best 9 bX8_best_9 = true := by decide +kernel
def bX8_best_15 : List Instr := [.ireturn]
theorem kX8_best_15 : okB mX8_best 15 bX8_best_15 = true := by decide +kernel
def bX8_best_16 : List Instr := [.aload_n 0, .getfield 40, .aload_n 0, .getfield 12, .iload_n 1]
theorem kX8_best_16 : okB mX8_best 16 bX8_best_16 = true := by decide +kernel
def bX8_best_28 : List Instr := [.ireturn]
theorem kX8_best_28 : okB mX8_best 28 bX8_best_28 = true := by decide +kernel
theorem dX8_best_3 : decode mX8_best.2.2.1 3 = .ok (.invokestatic 74, 3) := by decide +kernel
theorem dX8_best_12 : decode mX8_best.2.2.1 12 = .ok (.invokevirtual 78, 3) := by decide +kernel
theorem dX8_best_25 : decode mX8_best.2.2.1 25 = .ok (.invokevirtual 245, 3) := by decide +kernel
def bX8_type_0 : List Instr := [.iload_n 3, .iconst 1, .bipush 8]
theorem kX8_type_0 : okB mX8_type 0 bX8_type_0 = true := by decide +kernel
def bX8_type_7 : List Instr := [.ifCond .ne 10]
theorem kX8_type_7 : okB mX8_type 7 bX8_type_7 = true := by decide +kernel
def bX8_type_10 : List Instr := [.aload_n 0, .bipush (-2)]
theorem kX8_type_10 : okB mX8_type 10 bX8_type_10 = true := by decide +kernel
def bX8_type_16 : List Instr := [.ireturn]
theorem kX8_type_16 : okB mX8_type 16 bX8_type_16 = true := by decide +kernel
def bX8_type_17 : List Instr := [.aload_n 0, .getfield 26, .getfield 248, .iload_n 3, .iadd, .sipush 200, .if_icmp .le 8]
theorem kX8_type_17 : okB mX8_type 17 bX8_type_17 = true := by decide +kernel
def bX8_type_32 : List Instr := [.aload_n 0]
theorem kX8_type_32 : okB mX8_type 32 bX8_type_32 = true := by decide +kernel
def bX8_type_36 : List Instr := [.ireturn]
theorem kX8_type_36 : okB mX8_type 36 bX8_type_36 = true := by decide +kernel
def bX8_type_37 : List Instr := [.iload_n 3, .iconst 1, .isub, .istore 4]
theorem kX8_type_37 : okB mX8_type 37 bX8_type_37 = true := by decide +kernel
def bX8_type_42 : List Instr := [.iload 4, .ifCond .lt 28]
theorem kX8_type_42 : okB mX8_type 42 bX8_type_42 = true := by decide +kernel
def bX8_type_47 : List Instr := [.aload_n 0, .getfield 26, .lload_n 1, .bipush 8, .iload 4, .imul, .lushr, .ldc2_w 251, .land, .l2i]
theorem kX8_type_47 : okB mX8_type 47 bX8_type_47 = true := by decide +kernel
def bX8_type_66 : List Instr := [.iinc 4 (-1), .goto (-27)]
theorem kX8_type_66 : okB mX8_type 66 bX8_type_66 = true := by decide +kernel
def bX8_type_72 : List Instr := [.aload_n 0, .getfield 26, .getfield 248, .ireturn]
theorem kX8_type_72 : okB mX8_type 72 bX8_type_72 = true := by decide +kernel
theorem dX8_type_4 : decode mX8_type.2.2.1 4 = .ok (.invokestatic 74, 3) := by decide +kernel
theorem dX8_type_13 : decode mX8_type.2.2.1 13 = .ok (.invokevirtual 78, 3) := by decide +kernel
theorem dX8_type_33 : decode mX8_type.2.2.1 33 = .ok (.invokevirtual 127, 3) := by decide +kernel
theorem dX8_type_63 : decode mX8_type.2.2.1 63 = .ok (.invokevirtual 253, 3) := by decide +kernel
def bX8_clear_0 : List Instr := [.aload_n 0, .getfield 26, .getfield 248, .istore_n 1, .aload_n 0, .getfield 26, .iconst 0, .putfield 248, .iload_n 1, .ireturn]
theorem kX8_clear_0 : okB mX8_clear 0 bX8_clear_0 = true := by decide +kernel
def bX8_fault_0 : List Instr := [.aload_n 0, .getfield 26]
theorem kX8_fault_0 : okB mX8_fault 0 bX8_fault_0 = true := by decide +kernel
def bX8_fault_7 : List Instr := [.ireturn]
theorem kX8_fault_7 : okB mX8_fault 7 bX8_fault_7 = true := by decide +kernel
theorem dX8_fault_4 : decode mX8_fault.2.2.1 4 = .ok (.invokevirtual 256, 3) := by decide +kernel
def bX8_judge_0 : List Instr := [.aload_n 0, .getfield 26]
theorem kX8_judge_0 : okB mX8_judge 0 bX8_judge_0 = true := by decide +kernel
def bX8_judge_7 : List Instr := [.iconst (-1), .if_icmp .eq 10]
theorem kX8_judge_7 : okB mX8_judge 7 bX8_judge_7 = true := by decide +kernel
def bX8_judge_11 : List Instr := [.aload_n 0, .bipush (-3)]
theorem kX8_judge_11 : okB mX8_judge 11 bX8_judge_11 = true := by decide +kernel
def bX8_judge_17 : List Instr := [.ireturn]
theorem kX8_judge_17 : okB mX8_judge 17 bX8_judge_17 = true := by decide +kernel
def bX8_judge_18 : List Instr := [.aload_n 0, .getfield 12, .aload_n 0, .getfield 70]
theorem kX8_judge_18 : okB mX8_judge 18 bX8_judge_18 = true := by decide +kernel
def bX8_judge_29 : List Instr := [.aload_n 0]
theorem kX8_judge_29 : okB mX8_judge 29 bX8_judge_29 = true := by decide +kernel
def bX8_judge_33 : List Instr := [.istore_n 1, .aload_n 0, .getfield 12, .aload_n 0, .getfield 70]
theorem kX8_judge_33 : okB mX8_judge 33 bX8_judge_33 = true := by decide +kernel
def bX8_judge_45 : List Instr := [.iload_n 1, .ireturn]
theorem kX8_judge_45 : okB mX8_judge 45 bX8_judge_45 = true := by decide +kernel
theorem dX8_judge_4 : decode mX8_judge.2.2.1 4 = .ok (.invokevirtual 256, 3) := by decide +kernel
theorem dX8_judge_14 : decode mX8_judge.2.2.1 14 = .ok (.invokevirtual 117, 3) := by decide +kernel
theorem dX8_judge_26 : decode mX8_judge.2.2.1 26 = .ok (.invokevirtual 259, 3) := by decide +kernel
theorem dX8_judge_30 : decode mX8_judge.2.2.1 30 = .ok (.invokevirtual 263, 3) := by decide +kernel
theorem dX8_judge_42 : decode mX8_judge.2.2.1 42 = .ok (.invokevirtual 266, 3) := by decide +kernel
def bX8_image_0 : List Instr := [.aload_n 0, .iload_n 1]
theorem kX8_image_0 : okB mX8_image 0 bX8_image_0 = true := by decide +kernel
def bX8_image_5 : List Instr := [.ifCond .ne 10]
theorem kX8_image_5 : okB mX8_image 5 bX8_image_5 = true := by decide +kernel
def bX8_image_8 : List Instr := [.aload_n 0, .bipush (-2)]
theorem kX8_image_8 : okB mX8_image 8 bX8_image_8 = true := by decide +kernel
def bX8_image_14 : List Instr := [.ireturn]
theorem kX8_image_14 : okB mX8_image 14 bX8_image_14 = true := by decide +kernel
def bX8_image_15 : List Instr := [.aload_n 0, .getfield 58, .iload_n 1, .aaload, .aload_n 0, .getfield 12]
theorem kX8_image_15 : okB mX8_image 15 bX8_image_15 = true := by decide +kernel
def bX8_image_28 : List Instr := [.aload_n 0, .getfield 62, .iload_n 1, .aaload, .aload_n 0, .getfield 19]
theorem kX8_image_28 : okB mX8_image 28 bX8_image_28 = true := by decide +kernel
def bX8_image_41 : List Instr := [.aload_n 0, .getfield 66, .iload_n 1, .iconst 1, .bastore, .iconst 1, .ireturn]
theorem kX8_image_41 : okB mX8_image 41 bX8_image_41 = true := by decide +kernel
theorem dX8_image_2 : decode mX8_image.2.2.1 2 = .ok (.invokevirtual 269, 3) := by decide +kernel
theorem dX8_image_11 : decode mX8_image.2.2.1 11 = .ok (.invokevirtual 78, 3) := by decide +kernel
theorem dX8_image_25 : decode mX8_image.2.2.1 25 = .ok (.invokevirtual 272, 3) := by decide +kernel
theorem dX8_image_38 : decode mX8_image.2.2.1 38 = .ok (.invokevirtual 275, 3) := by decide +kernel
def bX8_from_0 : List Instr := [.aload_n 0, .iload_n 1]
theorem kX8_from_0 : okB mX8_from 0 bX8_from_0 = true := by decide +kernel
def bX8_from_5 : List Instr := [.ifCond .ne 10]
theorem kX8_from_5 : okB mX8_from 5 bX8_from_5 = true := by decide +kernel
def bX8_from_8 : List Instr := [.aload_n 0, .bipush (-2)]
theorem kX8_from_8 : okB mX8_from 8 bX8_from_8 = true := by decide +kernel
def bX8_from_14 : List Instr := [.ireturn]
theorem kX8_from_14 : okB mX8_from 14 bX8_from_14 = true := by decide +kernel
def bX8_from_15 : List Instr := [.aload_n 0, .getfield 66, .iload_n 1, .baload, .ifCond .ne 10]
theorem kX8_from_15 : okB mX8_from 15 bX8_from_15 = true := by decide +kernel
def bX8_from_24 : List Instr := [.aload_n 0, .bipush (-3)]
theorem kX8_from_24 : okB mX8_from 24 bX8_from_24 = true := by decide +kernel
def bX8_from_30 : List Instr := [.ireturn]
theorem kX8_from_30 : okB mX8_from 30 bX8_from_30 = true := by decide +kernel
def bX8_from_31 : List Instr := [.aload_n 0, .getfield 12, .aload_n 0, .getfield 58, .iload_n 1, .aaload]
theorem kX8_from_31 : okB mX8_from 31 bX8_from_31 = true := by decide +kernel
def bX8_from_44 : List Instr := [.aload_n 0, .getfield 19, .aload_n 0, .getfield 62, .iload_n 1, .aaload]
theorem kX8_from_44 : okB mX8_from 44 bX8_from_44 = true := by decide +kernel
def bX8_from_57 : List Instr := [.aload_n 0, .getfield 54]
theorem kX8_from_57 : okB mX8_from 57 bX8_from_57 = true := by decide +kernel
def bX8_from_64 : List Instr := [.iconst 1, .ireturn]
theorem kX8_from_64 : okB mX8_from 64 bX8_from_64 = true := by decide +kernel
theorem dX8_from_2 : decode mX8_from.2.2.1 2 = .ok (.invokevirtual 269, 3) := by decide +kernel
theorem dX8_from_11 : decode mX8_from.2.2.1 11 = .ok (.invokevirtual 78, 3) := by decide +kernel
theorem dX8_from_27 : decode mX8_from.2.2.1 27 = .ok (.invokevirtual 117, 3) := by decide +kernel
theorem dX8_from_41 : decode mX8_from.2.2.1 41 = .ok (.invokevirtual 272, 3) := by decide +kernel
theorem dX8_from_54 : decode mX8_from.2.2.1 54 = .ok (.invokevirtual 275, 3) := by decide +kernel
theorem dX8_from_61 : decode mX8_from.2.2.1 61 = .ok (.invokevirtual 89, 3) := by decide +kernel
def bX8_status_0 : List Instr := [.iload_n 1]
theorem kX8_status_0 : okB mX8_status 0 bX8_status_0 = true := by decide +kernel
def bX8_status_28 : List Instr := [.aload_n 0, .getfield 278, .ireturn]
theorem kX8_status_28 : okB mX8_status 28 bX8_status_28 = true := by decide +kernel
def bX8_status_33 : List Instr := [.aload_n 0, .getfield 281, .ireturn]
theorem kX8_status_33 : okB mX8_status 33 bX8_status_33 = true := by decide +kernel
def bX8_status_38 : List Instr := [.aload_n 0, .getfield 284, .ireturn]
theorem kX8_status_38 : okB mX8_status 38 bX8_status_38 = true := by decide +kernel
def bX8_status_43 : List Instr := [.aload_n 0, .iconst (-1)]
theorem kX8_status_43 : okB mX8_status 43 bX8_status_43 = true := by decide +kernel
def bX8_status_48 : List Instr := [.ireturn]
theorem kX8_status_48 : okB mX8_status 48 bX8_status_48 = true := by decide +kernel
theorem dX8_status_1 : decode mX8_status.2.2.1 1 = .ok (.tableswitch 42 0 2 #[27, 32, 37], 27) := by decide +kernel
theorem dX8_status_45 : decode mX8_status.2.2.1 45 = .ok (.invokevirtual 78, 3) := by decide +kernel
def bX8_count_0 : List Instr := [.iload_n 1]
theorem kX8_count_0 : okB mX8_count 0 bX8_count_0 = true := by decide +kernel
def bX8_count_32 : List Instr := [.aload_n 0, .getfield 12, .getfield 90]
theorem kX8_count_32 : okB mX8_count 32 bX8_count_32 = true := by decide +kernel
def bX8_count_42 : List Instr := [.ireturn]
theorem kX8_count_42 : okB mX8_count 42 bX8_count_42 = true := by decide +kernel
def bX8_count_43 : List Instr := [.aload_n 0, .getfield 12, .getfield 124, .ireturn]
theorem kX8_count_43 : okB mX8_count 43 bX8_count_43 = true := by decide +kernel
def bX8_count_51 : List Instr := [.aload_n 0, .getfield 26, .getfield 248, .ireturn]
theorem kX8_count_51 : okB mX8_count 51 bX8_count_51 = true := by decide +kernel
def bX8_count_59 : List Instr := [.aload_n 0, .getfield 19, .getfield 287, .ireturn]
theorem kX8_count_59 : okB mX8_count 59 bX8_count_59 = true := by decide +kernel
def bX8_count_67 : List Instr := [.aload_n 0, .bipush (-2)]
theorem kX8_count_67 : okB mX8_count 67 bX8_count_67 = true := by decide +kernel
def bX8_count_73 : List Instr := [.ireturn]
theorem kX8_count_73 : okB mX8_count 73 bX8_count_73 = true := by decide +kernel
theorem dX8_count_1 : decode mX8_count.2.2.1 1 = .ok (.tableswitch 66 0 3 #[31, 42, 50, 58], 31) := by decide +kernel
theorem dX8_count_39 : decode mX8_count.2.2.1 39 = .ok (.invokevirtual 94, 3) := by decide +kernel
theorem dX8_count_70 : decode mX8_count.2.2.1 70 = .ok (.invokevirtual 78, 3) := by decide +kernel
def bX8_digest_0 : List Instr := [.ldc2_w 290, .lstore_n 1, .lload_n 1, .aload_n 0, .getfield 12, .getfield 90]
theorem kX8_digest_0 : okB mX8_digest 0 bX8_digest_0 = true := by decide +kernel
def bX8_digest_18 : List Instr := [.lstore_n 1, .lload_n 1, .aload_n 0, .getfield 12, .getfield 124]
theorem kX8_digest_18 : okB mX8_digest 18 bX8_digest_18 = true := by decide +kernel
def bX8_digest_30 : List Instr := [.lstore_n 1, .lload_n 1, .aload_n 0, .getfield 26, .getfield 248]
theorem kX8_digest_30 : okB mX8_digest 30 bX8_digest_30 = true := by decide +kernel
def bX8_digest_42 : List Instr := [.lstore_n 1, .lload_n 1, .aload_n 0, .getfield 19, .getfield 287]
theorem kX8_digest_42 : okB mX8_digest 42 bX8_digest_42 = true := by decide +kernel
def bX8_digest_54 : List Instr := [.lstore_n 1, .aload_n 0, .lload_n 1]
theorem kX8_digest_54 : okB mX8_digest 54 bX8_digest_54 = true := by decide +kernel
def bX8_digest_60 : List Instr := [.lstore_n 1, .lload_n 1, .aload_n 0, .getfield 12, .getfield 134]
theorem kX8_digest_60 : okB mX8_digest 60 bX8_digest_60 = true := by decide +kernel
def bX8_digest_72 : List Instr := [.lstore_n 1, .lload_n 1, .aload_n 0, .getfield 12, .getfield 137]
theorem kX8_digest_72 : okB mX8_digest 72 bX8_digest_72 = true := by decide +kernel
def bX8_digest_84 : List Instr := [.lstore_n 1, .lload_n 1, .aload_n 0, .getfield 12, .getfield 190]
theorem kX8_digest_84 : okB mX8_digest 84 bX8_digest_84 = true := by decide +kernel
def bX8_digest_96 : List Instr := [.lstore_n 1, .lload_n 1, .aload_n 0, .getfield 12, .getfield 114]
theorem kX8_digest_96 : okB mX8_digest 96 bX8_digest_96 = true := by decide +kernel
def bX8_digest_108 : List Instr := [.lstore_n 1, .iconst 0, .istore_n 3]
theorem kX8_digest_108 : okB mX8_digest 108 bX8_digest_108 = true := by decide +kernel
def bX8_digest_111 : List Instr := [.iload_n 3, .iconst 3, .aload_n 0, .getfield 12, .getfield 90, .getfield 110, .imul, .if_icmp .ge 26]
theorem kX8_digest_111 : okB mX8_digest 111 bX8_digest_111 = true := by decide +kernel
def bX8_digest_127 : List Instr := [.lload_n 1, .aload_n 0, .getfield 12, .getfield 90, .getfield 300, .iload_n 3, .iaload]
theorem kX8_digest_127 : okB mX8_digest 127 bX8_digest_127 = true := by decide +kernel
def bX8_digest_143 : List Instr := [.lstore_n 1, .iinc 3 1, .goto (-36)]
theorem kX8_digest_143 : okB mX8_digest 143 bX8_digest_143 = true := by decide +kernel
def bX8_digest_150 : List Instr := [.iconst 0, .istore_n 3]
theorem kX8_digest_150 : okB mX8_digest 150 bX8_digest_150 = true := by decide +kernel
def bX8_digest_152 : List Instr := [.iload_n 3, .aload_n 0, .getfield 26, .getfield 248, .if_icmp .ge 23]
theorem kX8_digest_152 : okB mX8_digest 152 bX8_digest_152 = true := by decide +kernel
def bX8_digest_163 : List Instr := [.lload_n 1, .aload_n 0, .getfield 26, .getfield 303, .iload_n 3, .iaload]
theorem kX8_digest_163 : okB mX8_digest 163 bX8_digest_163 = true := by decide +kernel
def bX8_digest_176 : List Instr := [.lstore_n 1, .iinc 3 1, .goto (-28)]
theorem kX8_digest_176 : okB mX8_digest 176 bX8_digest_176 = true := by decide +kernel
def bX8_digest_183 : List Instr := [.lload_n 1, .lreturn]
theorem kX8_digest_183 : okB mX8_digest 183 bX8_digest_183 = true := by decide +kernel
theorem dX8_digest_12 : decode mX8_digest.2.2.1 12 = .ok (.invokevirtual 94, 3) := by decide +kernel
theorem dX8_digest_15 : decode mX8_digest.2.2.1 15 = .ok (.invokestatic 292, 3) := by decide +kernel
theorem dX8_digest_27 : decode mX8_digest.2.2.1 27 = .ok (.invokestatic 292, 3) := by decide +kernel
theorem dX8_digest_39 : decode mX8_digest.2.2.1 39 = .ok (.invokestatic 292, 3) := by decide +kernel
theorem dX8_digest_51 : decode mX8_digest.2.2.1 51 = .ok (.invokestatic 292, 3) := by decide +kernel
theorem dX8_digest_57 : decode mX8_digest.2.2.1 57 = .ok (.invokevirtual 296, 3) := by decide +kernel
theorem dX8_digest_69 : decode mX8_digest.2.2.1 69 = .ok (.invokestatic 292, 3) := by decide +kernel
theorem dX8_digest_81 : decode mX8_digest.2.2.1 81 = .ok (.invokestatic 292, 3) := by decide +kernel
theorem dX8_digest_93 : decode mX8_digest.2.2.1 93 = .ok (.invokestatic 292, 3) := by decide +kernel
theorem dX8_digest_105 : decode mX8_digest.2.2.1 105 = .ok (.invokestatic 292, 3) := by decide +kernel
theorem dX8_digest_140 : decode mX8_digest.2.2.1 140 = .ok (.invokestatic 292, 3) := by decide +kernel
theorem dX8_digest_173 : decode mX8_digest.2.2.1 173 = .ok (.invokestatic 292, 3) := by decide +kernel
def bX8_isImage_0 : List Instr := [.iload_n 1, .iconst 0, .iconst 1]
theorem kX8_isImage_0 : okB mX8_isImage 0 bX8_isImage_0 = true := by decide +kernel
def bX8_isImage_6 : List Instr := [.ifCond .eq 25]
theorem kX8_isImage_6 : okB mX8_isImage 6 bX8_isImage_6 = true := by decide +kernel
def bX8_isImage_9 : List Instr := [.aload_n 0, .getfield 58, .iload_n 1, .aaload]
theorem kX8_isImage_9 : okB mX8_isImage 9 bX8_isImage_9 = true := by decide +kernel
def bX8_isImage_18 : List Instr := [.aload_n 0, .getfield 62, .iload_n 1, .aaload]
theorem kX8_isImage_18 : okB mX8_isImage 18 bX8_isImage_18 = true := by decide +kernel
def bX8_isImage_27 : List Instr := [.iconst 1, .goto 4]
theorem kX8_isImage_27 : okB mX8_isImage 27 bX8_isImage_27 = true := by decide +kernel
def bX8_isImage_31 : List Instr := [.iconst 0]
theorem kX8_isImage_31 : okB mX8_isImage 31 bX8_isImage_31 = true := by decide +kernel
def bX8_isImage_32 : List Instr := [.ireturn]
theorem kX8_isImage_32 : okB mX8_isImage 32 bX8_isImage_32 = true := by decide +kernel
theorem dX8_isImage_3 : decode mX8_isImage.2.2.1 3 = .ok (.invokestatic 74, 3) := by decide +kernel
theorem dX8_isImage_15 : decode mX8_isImage.2.2.1 15 = .ok (.ifnull 16, 3) := by decide +kernel
theorem dX8_isImage_24 : decode mX8_isImage.2.2.1 24 = .ok (.ifnull 7, 3) := by decide +kernel
def bX8_mixBoard_0 : List Instr := [.lload_n 1, .aload_n 0, .getfield 12, .getfield 90, .getfield 306]
theorem kX8_mixBoard_0 : okB mX8_mixBoard 0 bX8_mixBoard_0 = true := by decide +kernel
def bX8_mixBoard_14 : List Instr := [.lstore_n 3, .lload_n 3, .aload_n 0, .getfield 12, .getfield 90, .getfield 309]
theorem kX8_mixBoard_14 : okB mX8_mixBoard 14 bX8_mixBoard_14 = true := by decide +kernel
def bX8_mixBoard_29 : List Instr := [.lstore_n 3, .iconst 0, .istore 5]
theorem kX8_mixBoard_29 : okB mX8_mixBoard 29 bX8_mixBoard_29 = true := by decide +kernel
def bX8_mixBoard_33 : List Instr := [.iload 5, .bipush 36, .if_icmp .ge 31]
theorem kX8_mixBoard_33 : okB mX8_mixBoard 33 bX8_mixBoard_33 = true := by decide +kernel
def bX8_mixBoard_40 : List Instr := [.aload_n 0, .getfield 12, .getfield 90, .iload 5]
theorem kX8_mixBoard_40 : okB mX8_mixBoard 40 bX8_mixBoard_40 = true := by decide +kernel
def bX8_mixBoard_52 : List Instr := [.ifCond .eq 10]
theorem kX8_mixBoard_52 : okB mX8_mixBoard 52 bX8_mixBoard_52 = true := by decide +kernel
def bX8_mixBoard_55 : List Instr := [.lload_n 3, .iload 5]
theorem kX8_mixBoard_55 : okB mX8_mixBoard 55 bX8_mixBoard_55 = true := by decide +kernel
def bX8_mixBoard_61 : List Instr := [.lstore_n 3]
theorem kX8_mixBoard_61 : okB mX8_mixBoard 61 bX8_mixBoard_61 = true := by decide +kernel
def bX8_mixBoard_62 : List Instr := [.iinc 5 1, .goto (-32)]
theorem kX8_mixBoard_62 : okB mX8_mixBoard 62 bX8_mixBoard_62 = true := by decide +kernel
def bX8_mixBoard_68 : List Instr := [.iconst 0, .istore 5]
theorem kX8_mixBoard_68 : okB mX8_mixBoard 68 bX8_mixBoard_68 = true := by decide +kernel
def bX8_mixBoard_71 : List Instr := [.iload 5, .aload_n 0, .getfield 12, .getfield 124, .if_icmp .ge 69]
theorem kX8_mixBoard_71 : okB mX8_mixBoard 71 bX8_mixBoard_71 = true := by decide +kernel
def bX8_mixBoard_83 : List Instr := [.lload_n 3, .aload_n 0, .getfield 12, .getfield 312, .iload 5, .iaload]
theorem kX8_mixBoard_83 : okB mX8_mixBoard 83 bX8_mixBoard_83 = true := by decide +kernel
def bX8_mixBoard_97 : List Instr := [.lstore_n 3, .lload_n 3, .aload_n 0, .getfield 12, .getfield 315, .iload 5, .iaload]
theorem kX8_mixBoard_97 : okB mX8_mixBoard 97 bX8_mixBoard_97 = true := by decide +kernel
def bX8_mixBoard_112 : List Instr := [.lstore_n 3, .lload_n 3, .aload_n 0, .getfield 12, .getfield 318, .iload 5, .iaload]
theorem kX8_mixBoard_112 : okB mX8_mixBoard 112 bX8_mixBoard_112 = true := by decide +kernel
def bX8_mixBoard_127 : List Instr := [.lstore_n 3, .lload_n 3, .aload_n 0, .getfield 12, .getfield 169, .iload 5, .iaload]
theorem kX8_mixBoard_127 : okB mX8_mixBoard 127 bX8_mixBoard_127 = true := by decide +kernel
def bX8_mixBoard_142 : List Instr := [.lstore_n 3, .iinc 5 1, .goto (-75)]
theorem kX8_mixBoard_142 : okB mX8_mixBoard 142 bX8_mixBoard_142 = true := by decide +kernel
def bX8_mixBoard_149 : List Instr := [.lload_n 3, .lreturn]
theorem kX8_mixBoard_149 : okB mX8_mixBoard 149 bX8_mixBoard_149 = true := by decide +kernel
theorem dX8_mixBoard_11 : decode mX8_mixBoard.2.2.1 11 = .ok (.invokestatic 292, 3) := by decide +kernel
theorem dX8_mixBoard_26 : decode mX8_mixBoard.2.2.1 26 = .ok (.invokestatic 292, 3) := by decide +kernel
theorem dX8_mixBoard_49 : decode mX8_mixBoard.2.2.1 49 = .ok (.invokevirtual 104, 3) := by decide +kernel
theorem dX8_mixBoard_58 : decode mX8_mixBoard.2.2.1 58 = .ok (.invokestatic 292, 3) := by decide +kernel
theorem dX8_mixBoard_94 : decode mX8_mixBoard.2.2.1 94 = .ok (.invokestatic 292, 3) := by decide +kernel
theorem dX8_mixBoard_109 : decode mX8_mixBoard.2.2.1 109 = .ok (.invokestatic 292, 3) := by decide +kernel
theorem dX8_mixBoard_124 : decode mX8_mixBoard.2.2.1 124 = .ok (.invokestatic 292, 3) := by decide +kernel
theorem dX8_mixBoard_139 : decode mX8_mixBoard.2.2.1 139 = .ok (.invokestatic 292, 3) := by decide +kernel
def bX8_mix_0 : List Instr := [.ldc2_w 321, .lload_n 0, .lmul, .iload_n 2, .i2l, .ladd, .lreturn]
theorem kX8_mix_0 : okB mX8_mix 0 bX8_mix_0 = true := by decide +kernel
def bX8_firstWrongItem_0 : List Instr := [.aload_n 0, .getfield 26]
theorem kX8_firstWrongItem_0 : okB mX8_firstWrongItem 0 bX8_firstWrongItem_0 = true := by decide +kernel
def bX8_firstWrongItem_7 : List Instr := [.iconst 0, .istore_n 1]
theorem kX8_firstWrongItem_7 : okB mX8_firstWrongItem 7 bX8_firstWrongItem_7 = true := by decide +kernel
def bX8_firstWrongItem_9 : List Instr := [.iload_n 1, .sipush 200, .if_icmp .ge 30]
theorem kX8_firstWrongItem_9 : okB mX8_firstWrongItem 9 bX8_firstWrongItem_9 = true := by decide +kernel
def bX8_firstWrongItem_16 : List Instr := [.aload_n 0, .getfield 26]
theorem kX8_firstWrongItem_16 : okB mX8_firstWrongItem 16 bX8_firstWrongItem_16 = true := by decide +kernel
def bX8_firstWrongItem_23 : List Instr := [.ifCond .eq 5]
theorem kX8_firstWrongItem_23 : okB mX8_firstWrongItem 23 bX8_firstWrongItem_23 = true := by decide +kernel
def bX8_firstWrongItem_26 : List Instr := [.iconst (-1), .ireturn]
theorem kX8_firstWrongItem_26 : okB mX8_firstWrongItem 26 bX8_firstWrongItem_26 = true := by decide +kernel
def bX8_firstWrongItem_28 : List Instr := [.aload_n 0]
theorem kX8_firstWrongItem_28 : okB mX8_firstWrongItem 28 bX8_firstWrongItem_28 = true := by decide +kernel
def bX8_firstWrongItem_32 : List Instr := [.ifCond .ne 5]
theorem kX8_firstWrongItem_32 : okB mX8_firstWrongItem 32 bX8_firstWrongItem_32 = true := by decide +kernel
def bX8_firstWrongItem_35 : List Instr := [.iload_n 1, .ireturn]
theorem kX8_firstWrongItem_35 : okB mX8_firstWrongItem 35 bX8_firstWrongItem_35 = true := by decide +kernel
def bX8_firstWrongItem_37 : List Instr := [.iinc 1 1, .goto (-31)]
theorem kX8_firstWrongItem_37 : okB mX8_firstWrongItem 37 bX8_firstWrongItem_37 = true := by decide +kernel
def bX8_firstWrongItem_43 : List Instr := [.iconst (-1), .ireturn]
theorem kX8_firstWrongItem_43 : okB mX8_firstWrongItem 43 bX8_firstWrongItem_43 = true := by decide +kernel
theorem dX8_firstWrongItem_4 : decode mX8_firstWrongItem.2.2.1 4 = .ok (.invokevirtual 323, 3) := by decide +kernel
theorem dX8_firstWrongItem_20 : decode mX8_firstWrongItem.2.2.1 20 = .ok (.invokevirtual 326, 3) := by decide +kernel
theorem dX8_firstWrongItem_29 : decode mX8_firstWrongItem.2.2.1 29 = .ok (.invokevirtual 329, 3) := by decide +kernel
def bX8_playItem_0 : List Instr := [.aload_n 0, .getfield 26, .getfield 333, .astore_n 1, .aload_n 0, .getfield 26, .getfield 336, .ifCond .eq 54]
theorem kX8_playItem_0 : okB mX8_playItem 0 bX8_playItem_0 = true := by decide +kernel
def bX8_playItem_18 : List Instr := [.aload_n 0, .getfield 12, .aload_n 1, .iconst 0, .iaload, .aload_n 1, .iconst 1, .iaload, .aload_n 1, .iconst 2, .iaload, .aload_n 1, .iconst 3, .iaload]
theorem kX8_playItem_18 : okB mX8_playItem 18 bX8_playItem_18 = true := by decide +kernel
def bX8_playItem_37 : List Instr := [.istore_n 2, .iload_n 2, .iconst (-1), .if_icmp .ne 5]
theorem kX8_playItem_37 : okB mX8_playItem 37 bX8_playItem_37 = true := by decide +kernel
def bX8_playItem_43 : List Instr := [.iconst 0, .ireturn]
theorem kX8_playItem_43 : okB mX8_playItem 43 bX8_playItem_43 = true := by decide +kernel
def bX8_playItem_45 : List Instr := [.aload_n 0, .getfield 12, .aload_n 0, .getfield 12, .aload_n 1, .iconst 0, .iaload, .aload_n 1, .iconst 1, .iaload]
theorem kX8_playItem_45 : okB mX8_playItem 45 bX8_playItem_45 = true := by decide +kernel
def bX8_playItem_62 : List Instr := [.iload_n 2]
theorem kX8_playItem_62 : okB mX8_playItem 62 bX8_playItem_62 = true := by decide +kernel
def bX8_playItem_66 : List Instr := [.pop, .iconst 1, .ireturn]
theorem kX8_playItem_66 : okB mX8_playItem 66 bX8_playItem_66 = true := by decide +kernel
def bX8_playItem_69 : List Instr := [.aload_n 1, .iconst 0, .iaload, .iconst 0, .iconst 1]
theorem kX8_playItem_69 : okB mX8_playItem 69 bX8_playItem_69 = true := by decide +kernel
def bX8_playItem_77 : List Instr := [.ifCond .eq 18]
theorem kX8_playItem_77 : okB mX8_playItem 77 bX8_playItem_77 = true := by decide +kernel
def bX8_playItem_80 : List Instr := [.aload_n 1, .iconst 2, .iaload, .iconst 0, .iconst 1]
theorem kX8_playItem_80 : okB mX8_playItem 80 bX8_playItem_80 = true := by decide +kernel
def bX8_playItem_88 : List Instr := [.ifCond .eq 7]
theorem kX8_playItem_88 : okB mX8_playItem 88 bX8_playItem_88 = true := by decide +kernel
def bX8_playItem_91 : List Instr := [.iconst 1, .goto 4]
theorem kX8_playItem_91 : okB mX8_playItem 91 bX8_playItem_91 = true := by decide +kernel
def bX8_playItem_95 : List Instr := [.iconst 0]
theorem kX8_playItem_95 : okB mX8_playItem 95 bX8_playItem_95 = true := by decide +kernel
def bX8_playItem_96 : List Instr := [.istore_n 2, .iload_n 2, .ifCond .eq 32]
theorem kX8_playItem_96 : okB mX8_playItem 96 bX8_playItem_96 = true := by decide +kernel
def bX8_playItem_101 : List Instr := [.aload_n 0, .getfield 12, .getfield 114, .ifCond .eq 22]
theorem kX8_playItem_101 : okB mX8_playItem 101 bX8_playItem_101 = true := by decide +kernel
def bX8_playItem_111 : List Instr := [.aload_n 0, .getfield 12, .getfield 90, .aload_n 1, .iconst 0, .iaload, .aload_n 1, .iconst 1, .iaload]
theorem kX8_playItem_111 : okB mX8_playItem 111 bX8_playItem_111 = true := by decide +kernel
def bX8_playItem_127 : List Instr := [.ifCond .ne 5]
theorem kX8_playItem_127 : okB mX8_playItem 127 bX8_playItem_127 = true := by decide +kernel
def bX8_playItem_130 : List Instr := [.iconst 0, .ireturn]
theorem kX8_playItem_130 : okB mX8_playItem 130 bX8_playItem_130 = true := by decide +kernel
def bX8_playItem_132 : List Instr := [.aload_n 0, .getfield 12, .aload_n 1, .iconst 0, .iaload, .aload_n 1, .iconst 1, .iaload, .aload_n 1, .iconst 2, .iaload]
theorem kX8_playItem_132 : okB mX8_playItem 132 bX8_playItem_132 = true := by decide +kernel
def bX8_playItem_148 : List Instr := [.iconst 1, .ireturn]
theorem kX8_playItem_148 : okB mX8_playItem 148 bX8_playItem_148 = true := by decide +kernel
theorem dX8_playItem_34 : decode mX8_playItem.2.2.1 34 = .ok (.invokevirtual 172, 3) := by decide +kernel
theorem dX8_playItem_59 : decode mX8_playItem.2.2.1 59 = .ok (.invokevirtual 166, 3) := by decide +kernel
theorem dX8_playItem_63 : decode mX8_playItem.2.2.1 63 = .ok (.invokevirtual 179, 3) := by decide +kernel
theorem dX8_playItem_74 : decode mX8_playItem.2.2.1 74 = .ok (.invokestatic 74, 3) := by decide +kernel
theorem dX8_playItem_85 : decode mX8_playItem.2.2.1 85 = .ok (.invokestatic 74, 3) := by decide +kernel
theorem dX8_playItem_124 : decode mX8_playItem.2.2.1 124 = .ok (.invokevirtual 182, 3) := by decide +kernel
theorem dX8_playItem_145 : decode mX8_playItem.2.2.1 145 = .ok (.invokevirtual 186, 3) := by decide +kernel
def bX8_refuseBad_0 : List Instr := [.aload_n 0, .dup, .getfield 278, .iconst 1, .iadd, .putfield 278, .iload_n 1, .ireturn]
theorem kX8_refuseBad_0 : okB mX8_refuseBad 0 bX8_refuseBad_0 = true := by decide +kernel
def bX8_refuseNo_0 : List Instr := [.aload_n 0, .dup, .getfield 281, .iconst 1, .iadd, .putfield 281, .iload_n 1, .ireturn]
theorem kX8_refuseNo_0 : okB mX8_refuseNo 0 bX8_refuseNo_0 = true := by decide +kernel
def bX8_refuseFull_0 : List Instr := [.aload_n 0, .dup, .getfield 284, .iconst 1, .iadd, .putfield 284, .bipush (-4), .ireturn]
theorem kX8_refuseFull_0 : okB mX8_refuseFull 0 bX8_refuseFull_0 = true := by decide +kernel
def bX8_within_0 : List Instr := [.iload_n 0, .iload_n 1, .if_icmp .lt 12]
theorem kX8_within_0 : okB mX8_within 0 bX8_within_0 = true := by decide +kernel
def bX8_within_5 : List Instr := [.iload_n 0, .iload_n 2, .if_icmp .gt 7]
theorem kX8_within_5 : okB mX8_within 5 bX8_within_5 = true := by decide +kernel
def bX8_within_10 : List Instr := [.iconst 1, .goto 4]
theorem kX8_within_10 : okB mX8_within 10 bX8_within_10 = true := by decide +kernel
def bX8_within_14 : List Instr := [.iconst 0]
theorem kX8_within_14 : okB mX8_within 14 bX8_within_14 = true := by decide +kernel
def bX8_within_15 : List Instr := [.ireturn]
theorem kX8_within_15 : okB mX8_within 15 bX8_within_15 = true := by decide +kernel
def bX8_turns_0 : List Instr := [.iload_n 2, .ifCond .ne 16]
theorem kX8_turns_0 : okB mX8_turns 0 bX8_turns_0 = true := by decide +kernel
def bX8_turns_4 : List Instr := [.iload_n 0, .iload_n 1, .if_icmp .lt 7]
theorem kX8_turns_4 : okB mX8_turns 4 bX8_turns_4 = true := by decide +kernel
def bX8_turns_9 : List Instr := [.iconst 1, .goto 17]
theorem kX8_turns_9 : okB mX8_turns 9 bX8_turns_9 = true := by decide +kernel
def bX8_turns_13 : List Instr := [.iconst 0, .goto 13]
theorem kX8_turns_13 : okB mX8_turns 13 bX8_turns_13 = true := by decide +kernel
def bX8_turns_17 : List Instr := [.iload_n 0, .iload_n 1, .if_icmp .ge 7]
theorem kX8_turns_17 : okB mX8_turns 17 bX8_turns_17 = true := by decide +kernel
def bX8_turns_22 : List Instr := [.iconst 1, .goto 4]
theorem kX8_turns_22 : okB mX8_turns 22 bX8_turns_22 = true := by decide +kernel
def bX8_turns_26 : List Instr := [.iconst 0]
theorem kX8_turns_26 : okB mX8_turns 26 bX8_turns_26 = true := by decide +kernel
def bX8_turns_27 : List Instr := [.ireturn]
theorem kX8_turns_27 : okB mX8_turns 27 bX8_turns_27 = true := by decide +kernel
def bX8_mirrored_0 : List Instr := [.iconst 2, .iload_n 1, .imul, .iconst 1, .isub, .iload_n 0, .isub, .ireturn]
theorem kX8_mirrored_0 : okB mX8_mirrored 0 bX8_mirrored_0 = true := by decide +kernel
def bX8_powerOfKind_0 : List Instr := [.iload_n 2, .ifCond .eq 7]
theorem kX8_powerOfKind_0 : okB mX8_powerOfKind 0 bX8_powerOfKind_0 = true := by decide +kernel
def bX8_powerOfKind_4 : List Instr := [.iload_n 1, .goto 6]
theorem kX8_powerOfKind_4 : okB mX8_powerOfKind 4 bX8_powerOfKind_4 = true := by decide +kernel
def bX8_powerOfKind_8 : List Instr := [.iload_n 1, .iconst 2, .iadd]
theorem kX8_powerOfKind_8 : okB mX8_powerOfKind 8 bX8_powerOfKind_8 = true := by decide +kernel
def bX8_powerOfKind_11 : List Instr := [.istore_n 3, .iload_n 0]
theorem kX8_powerOfKind_11 : okB mX8_powerOfKind 11 bX8_powerOfKind_11 = true := by decide +kernel
def bX8_powerOfKind_40 : List Instr := [.iload_n 3, .ireturn]
theorem kX8_powerOfKind_40 : okB mX8_powerOfKind 40 bX8_powerOfKind_40 = true := by decide +kernel
def bX8_powerOfKind_42 : List Instr := [.iload_n 2, .ifCond .eq 9]
theorem kX8_powerOfKind_42 : okB mX8_powerOfKind 42 bX8_powerOfKind_42 = true := by decide +kernel
def bX8_powerOfKind_46 : List Instr := [.iload_n 1, .iconst 3, .iadd, .goto 4]
theorem kX8_powerOfKind_46 : okB mX8_powerOfKind 46 bX8_powerOfKind_46 = true := by decide +kernel
def bX8_powerOfKind_52 : List Instr := [.iload_n 1]
theorem kX8_powerOfKind_52 : okB mX8_powerOfKind 52 bX8_powerOfKind_52 = true := by decide +kernel
def bX8_powerOfKind_53 : List Instr := [.ireturn]
theorem kX8_powerOfKind_53 : okB mX8_powerOfKind 53 bX8_powerOfKind_53 = true := by decide +kernel
def bX8_powerOfKind_54 : List Instr := [.iconst 2, .iload_n 3, .imul, .ireturn]
theorem kX8_powerOfKind_54 : okB mX8_powerOfKind 54 bX8_powerOfKind_54 = true := by decide +kernel
def bX8_powerOfKind_58 : List Instr := [.iload_n 1, .ireturn]
theorem kX8_powerOfKind_58 : okB mX8_powerOfKind 58 bX8_powerOfKind_58 = true := by decide +kernel
theorem dX8_powerOfKind_13 : decode mX8_powerOfKind.2.2.1 13 = .ok (.tableswitch 45 1 3 #[27, 29, 41], 27) := by decide +kernel
