def bX7_init_0 : List Instr := [.aload_n 0]
theorem kX7_init_0 : okB mX7_init 0 bX7_init_0 = true := by decide +kernel
def bX7_init_4 : List Instr := [.aload_n 0, .bipush 36]
theorem kX7_init_4 : okB mX7_init 4 bX7_init_4 = true := by decide +kernel
def bX7_init_9 : List Instr := [.putfield 9, .aload_n 0, .bipush 36]
theorem kX7_init_9 : okB mX7_init 9 bX7_init_9 = true := by decide +kernel
def bX7_init_17 : List Instr := [.putfield 15, .return_]
theorem kX7_init_17 : okB mX7_init 17 bX7_init_17 = true := by decide +kernel
theorem dX7_init_1 : decode mX7_init.2.2.1 1 = .ok (.invokespecial 3, 3) := by decide +kernel
def bX7_howFar_0 : List Instr := [.iconst 0, .istore 5]
theorem kX7_howFar_0 : okB mX7_howFar 0 bX7_howFar_0 = true := by decide +kernel
def bX7_howFar_3 : List Instr := [.iload 5, .bipush 36, .if_icmp .ge 17]
theorem kX7_howFar_3 : okB mX7_howFar 3 bX7_howFar_3 = true := by decide +kernel
def bX7_howFar_10 : List Instr := [.aload_n 0, .getfield 9, .iload 5, .iconst (-1), .iastore, .iinc 5 1, .goto (-18)]
theorem kX7_howFar_10 : okB mX7_howFar 10 bX7_howFar_10 = true := by decide +kernel
def bX7_howFar_24 : List Instr := [.aload_n 1, .getfield 18, .iload_n 2, .iload_n 3]
theorem kX7_howFar_24 : okB mX7_howFar 24 bX7_howFar_24 = true := by decide +kernel
def bX7_howFar_33 : List Instr := [.istore 5, .iload 5, .iconst (-1), .if_icmp .ne 5]
theorem kX7_howFar_33 : okB mX7_howFar 33 bX7_howFar_33 = true := by decide +kernel
def bX7_howFar_41 : List Instr := [.iconst 0, .ireturn]
theorem kX7_howFar_41 : okB mX7_howFar 41 bX7_howFar_41 = true := by decide +kernel
def bX7_howFar_43 : List Instr := [.aload_n 0, .getfield 9, .iload 5, .iconst 0, .iastore, .aload_n 0, .getfield 15, .iconst 0, .iload 5, .iastore, .iconst 1, .istore 6, .iconst 0, .istore 7]
theorem kX7_howFar_43 : okB mX7_howFar 43 bX7_howFar_43 = true := by decide +kernel
def bX7_howFar_65 : List Instr := [.iload 7, .iload 6, .if_icmp .ge 49]
theorem kX7_howFar_65 : okB mX7_howFar 65 bX7_howFar_65 = true := by decide +kernel
def bX7_howFar_72 : List Instr := [.iload 7, .bipush 36, .if_icmp .ge 42]
theorem kX7_howFar_72 : okB mX7_howFar 72 bX7_howFar_72 = true := by decide +kernel
def bX7_howFar_79 : List Instr := [.aload_n 0, .getfield 9, .aload_n 0, .getfield 15, .iload 7, .iaload, .iaload, .iload 4, .if_icmp .ge 19]
theorem kX7_howFar_79 : okB mX7_howFar 79 bX7_howFar_79 = true := by decide +kernel
def bX7_howFar_96 : List Instr := [.aload_n 0, .aload_n 1, .aload_n 0, .getfield 15, .iload 7, .iaload, .iload 6]
theorem kX7_howFar_96 : okB mX7_howFar 96 bX7_howFar_96 = true := by decide +kernel
def bX7_howFar_110 : List Instr := [.istore 6]
theorem kX7_howFar_110 : okB mX7_howFar 110 bX7_howFar_110 = true := by decide +kernel
def bX7_howFar_112 : List Instr := [.iinc 7 1, .goto (-50)]
theorem kX7_howFar_112 : okB mX7_howFar 112 bX7_howFar_112 = true := by decide +kernel
def bX7_howFar_118 : List Instr := [.iload 6, .ireturn]
theorem kX7_howFar_118 : okB mX7_howFar 118 bX7_howFar_118 = true := by decide +kernel
theorem dX7_howFar_30 : decode mX7_howFar.2.2.1 30 = .ok (.invokevirtual 24, 3) := by decide +kernel
theorem dX7_howFar_107 : decode mX7_howFar.2.2.1 107 = .ok (.invokevirtual 30, 3) := by decide +kernel
def bX7_spread_0 : List Instr := [.iload_n 3, .istore 4, .iconst 0, .istore 5]
theorem kX7_spread_0 : okB mX7_spread 0 bX7_spread_0 = true := by decide +kernel
def bX7_spread_6 : List Instr := [.iload 5, .iconst 4, .if_icmp .ge 121]
theorem kX7_spread_6 : okB mX7_spread 6 bX7_spread_6 = true := by decide +kernel
def bX7_spread_12 : List Instr := [.aload_n 1, .getfield 18, .getfield 34, .iload_n 2, .iaload, .getstatic 37, .iload 5, .iaload, .iadd, .istore 6, .aload_n 1, .getfield 18, .getfield 40, .iload_n 2, .iaload, .getstatic 43, .iload 5, .iaload, .iadd, .istore 7, .aload_n 1, .getfield 18, .iload 6, .iload 7]
theorem kX7_spread_12 : okB mX7_spread 12 bX7_spread_12 = true := by decide +kernel
def bX7_spread_59 : List Instr := [.istore 8, .iload 8, .iconst (-1), .if_icmp .eq 60]
theorem kX7_spread_59 : okB mX7_spread 59 bX7_spread_59 = true := by decide +kernel
def bX7_spread_67 : List Instr := [.aload_n 0, .getfield 9, .iload 8, .iaload, .iconst (-1), .if_icmp .ne 49]
theorem kX7_spread_67 : okB mX7_spread 67 bX7_spread_67 = true := by decide +kernel
def bX7_spread_78 : List Instr := [.iload 4, .bipush 36, .if_icmp .ge 42]
theorem kX7_spread_78 : okB mX7_spread 78 bX7_spread_78 = true := by decide +kernel
def bX7_spread_85 : List Instr := [.aload_n 1, .iload 6, .iload 7]
theorem kX7_spread_85 : okB mX7_spread 85 bX7_spread_85 = true := by decide +kernel
def bX7_spread_93 : List Instr := [.iconst (-1), .if_icmp .ne 30]
theorem kX7_spread_93 : okB mX7_spread 93 bX7_spread_93 = true := by decide +kernel
def bX7_spread_97 : List Instr := [.aload_n 0, .getfield 9, .iload 8, .aload_n 0, .getfield 9, .iload_n 2, .iaload, .iconst 1, .iadd, .iastore, .aload_n 0, .getfield 15, .iload 4, .iload 8, .iastore, .iinc 4 1]
theorem kX7_spread_97 : okB mX7_spread 97 bX7_spread_97 = true := by decide +kernel
def bX7_spread_124 : List Instr := [.iinc 5 1, .goto (-121)]
theorem kX7_spread_124 : okB mX7_spread 124 bX7_spread_124 = true := by decide +kernel
def bX7_spread_130 : List Instr := [.iload 4, .ireturn]
theorem kX7_spread_130 : okB mX7_spread 130 bX7_spread_130 = true := by decide +kernel
theorem dX7_spread_56 : decode mX7_spread.2.2.1 56 = .ok (.invokevirtual 24, 3) := by decide +kernel
theorem dX7_spread_90 : decode mX7_spread.2.2.1 90 = .ok (.invokevirtual 46, 3) := by decide +kernel
