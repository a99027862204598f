def bX1_init_0 : List Instr := [.aload_n 0]
theorem kX1_init_0 : okB mX1_init 0 bX1_init_0 = true := by decide +kernel
def bX1_init_4 : List Instr := [.aload_n 0, .bipush 8]
theorem kX1_init_4 : okB mX1_init 4 bX1_init_4 = true := by decide +kernel
def bX1_init_9 : List Instr := [.putfield 9, .aload_n 0, .bipush 8]
theorem kX1_init_9 : okB mX1_init 9 bX1_init_9 = true := by decide +kernel
def bX1_init_17 : List Instr := [.putfield 15, .aload_n 0, .bipush 8]
theorem kX1_init_17 : okB mX1_init 17 bX1_init_17 = true := by decide +kernel
def bX1_init_25 : List Instr := [.putfield 18, .aload_n 0, .bipush 8]
theorem kX1_init_25 : okB mX1_init 25 bX1_init_25 = true := by decide +kernel
def bX1_init_33 : List Instr := [.putfield 21, .return_]
theorem kX1_init_33 : okB mX1_init 33 bX1_init_33 = true := by decide +kernel
theorem dX1_init_1 : decode mX1_init.2.2.1 1 = .ok (.invokespecial 3, 3) := by decide +kernel
def bX1_lookBehind_0 : List Instr := [.aload_n 1, .getfield 24, .astore_n 3, .aload_n 0, .aload_n 1, .aload_n 3, .iload_n 2]
theorem kX1_lookBehind_0 : okB mX1_lookBehind 0 bX1_lookBehind_0 = true := by decide +kernel
def bX1_lookBehind_12 : List Instr := [.aload_n 3, .iload_n 2]
theorem kX1_lookBehind_12 : okB mX1_lookBehind 12 bX1_lookBehind_12 = true := by decide +kernel
def bX1_lookBehind_17 : List Instr := [.aload_n 3, .iload_n 2]
theorem kX1_lookBehind_17 : okB mX1_lookBehind 17 bX1_lookBehind_17 = true := by decide +kernel
def bX1_lookBehind_25 : List Instr := [.return_]
theorem kX1_lookBehind_25 : okB mX1_lookBehind 25 bX1_lookBehind_25 = true := by decide +kernel
theorem dX1_lookBehind_9 : decode mX1_lookBehind.2.2.1 9 = .ok (.invokevirtual 30, 3) := by decide +kernel
theorem dX1_lookBehind_14 : decode mX1_lookBehind.2.2.1 14 = .ok (.invokevirtual 36, 3) := by decide +kernel
theorem dX1_lookBehind_19 : decode mX1_lookBehind.2.2.1 19 = .ok (.invokevirtual 39, 3) := by decide +kernel
theorem dX1_lookBehind_22 : decode mX1_lookBehind.2.2.1 22 = .ok (.invokevirtual 42, 3) := by decide +kernel
def bX1_lookNow_0 : List Instr := [.aload_n 0, .aload_n 1, .iconst 0, .aload_n 1, .getfield 24, .getfield 46, .iconst 1, .iadd, .iconst 0]
theorem kX1_lookNow_0 : okB mX1_lookNow 0 bX1_lookNow_0 = true := by decide +kernel
def bX1_lookNow_16 : List Instr := [.return_]
theorem kX1_lookNow_16 : okB mX1_lookNow 16 bX1_lookNow_16 = true := by decide +kernel
theorem dX1_lookNow_13 : decode mX1_lookNow.2.2.1 13 = .ok (.invokevirtual 42, 3) := by decide +kernel
def bX1_look_0 : List Instr := [.aload_n 1, .getfield 24, .astore 5, .iconst 0, .istore 6]
theorem kX1_look_0 : okB mX1_look 0 bX1_look_0 = true := by decide +kernel
def bX1_look_9 : List Instr := [.iload 6, .aload_n 1, .getfield 50, .if_icmp .ge 231]
theorem kX1_look_9 : okB mX1_look 9 bX1_look_9 = true := by decide +kernel
def bX1_look_18 : List Instr := [.aload_n 1, .iload 6]
theorem kX1_look_18 : okB mX1_look 18 bX1_look_18 = true := by decide +kernel
def bX1_look_24 : List Instr := [.ifCond .ne 14]
theorem kX1_look_24 : okB mX1_look 24 bX1_look_24 = true := by decide +kernel
def bX1_look_27 : List Instr := [.aload_n 0, .getfield 21, .iload 6, .iconst (-1), .iastore, .goto 205]
theorem kX1_look_27 : okB mX1_look 27 bX1_look_27 = true := by decide +kernel
def bX1_look_38 : List Instr := [.aload_n 1, .getfield 57, .iload 6, .iaload, .istore 7, .iload_n 2, .ifCond .ne 14]
theorem kX1_look_38 : okB mX1_look 38 bX1_look_38 = true := by decide +kernel
def bX1_look_51 : List Instr := [.aload 5, .getfield 60, .iload 7, .iaload, .goto 11]
theorem kX1_look_51 : okB mX1_look 51 bX1_look_51 = true := by decide +kernel
def bX1_look_62 : List Instr := [.aload 5, .getfield 61, .iload 7, .iaload]
theorem kX1_look_62 : okB mX1_look 62 bX1_look_62 = true := by decide +kernel
def bX1_look_70 : List Instr := [.iload_n 3, .iload 4]
theorem kX1_look_70 : okB mX1_look 70 bX1_look_70 = true := by decide +kernel
def bX1_look_76 : List Instr := [.istore 8, .aload_n 0, .getfield 9, .iload 6, .iload 8, .ifCond .eq 22]
theorem kX1_look_76 : okB mX1_look 76 bX1_look_76 = true := by decide +kernel
def bX1_look_89 : List Instr := [.iload_n 2, .ifCond .ne 18]
theorem kX1_look_89 : okB mX1_look 89 bX1_look_89 = true := by decide +kernel
def bX1_look_93 : List Instr := [.aload 5, .getfield 60, .iload 7, .iaload, .iload_n 3]
theorem kX1_look_93 : okB mX1_look 93 bX1_look_93 = true := by decide +kernel
def bX1_look_105 : List Instr := [.goto 11]
theorem kX1_look_105 : okB mX1_look 105 bX1_look_105 = true := by decide +kernel
def bX1_look_108 : List Instr := [.aload 5, .getfield 60, .iload 7, .iaload]
theorem kX1_look_108 : okB mX1_look 108 bX1_look_108 = true := by decide +kernel
def bX1_look_116 : List Instr := [.iastore, .aload_n 0, .getfield 15, .iload 6, .iload 8, .ifCond .eq 23]
theorem kX1_look_116 : okB mX1_look 116 bX1_look_116 = true := by decide +kernel
def bX1_look_128 : List Instr := [.iload_n 2, .iconst 1, .if_icmp .ne 18]
theorem kX1_look_128 : okB mX1_look 128 bX1_look_128 = true := by decide +kernel
def bX1_look_133 : List Instr := [.aload 5, .getfield 61, .iload 7, .iaload, .iload_n 3]
theorem kX1_look_133 : okB mX1_look 133 bX1_look_133 = true := by decide +kernel
def bX1_look_145 : List Instr := [.goto 11]
theorem kX1_look_145 : okB mX1_look 145 bX1_look_145 = true := by decide +kernel
def bX1_look_148 : List Instr := [.aload 5, .getfield 61, .iload 7, .iaload]
theorem kX1_look_148 : okB mX1_look 148 bX1_look_148 = true := by decide +kernel
def bX1_look_156 : List Instr := [.iastore, .aload_n 0, .getfield 18, .iload 6, .iload 8, .ifCond .eq 24]
theorem kX1_look_156 : okB mX1_look 156 bX1_look_156 = true := by decide +kernel
def bX1_look_168 : List Instr := [.iconst 2, .aload 5, .getfield 70, .imul, .iconst 1, .iadd, .aload 5, .getfield 73, .iload 7, .iaload, .isub, .goto 11]
theorem kX1_look_168 : okB mX1_look 168 bX1_look_168 = true := by decide +kernel
def bX1_look_189 : List Instr := [.aload 5, .getfield 73, .iload 7, .iaload]
theorem kX1_look_189 : okB mX1_look 189 bX1_look_189 = true := by decide +kernel
def bX1_look_197 : List Instr := [.iastore, .aload_n 0, .getfield 21, .iload 6, .aload_n 1, .getfield 74, .iload 6, .iaload, .aload_n 1, .getfield 77, .iload 6, .iaload, .aload 5, .getfield 80, .iload 7, .baload, .iload 8, .if_icmp .eq 7]
theorem kX1_look_197 : okB mX1_look 197 bX1_look_197 = true := by decide +kernel
def bX1_look_231 : List Instr := [.iconst 1, .goto 4]
theorem kX1_look_231 : okB mX1_look 231 bX1_look_231 = true := by decide +kernel
def bX1_look_235 : List Instr := [.iconst 0]
theorem kX1_look_235 : okB mX1_look 235 bX1_look_235 = true := by decide +kernel
def bX1_look_239 : List Instr := [.iastore]
theorem kX1_look_239 : okB mX1_look 239 bX1_look_239 = true := by decide +kernel
def bX1_look_240 : List Instr := [.iinc 6 1, .goto (-234)]
theorem kX1_look_240 : okB mX1_look 240 bX1_look_240 = true := by decide +kernel
def bX1_look_246 : List Instr := [.return_]
theorem kX1_look_246 : okB mX1_look 246 bX1_look_246 = true := by decide +kernel
theorem dX1_look_21 : decode mX1_look.2.2.1 21 = .ok (.invokevirtual 53, 3) := by decide +kernel
theorem dX1_look_73 : decode mX1_look.2.2.1 73 = .ok (.invokestatic 62, 3) := by decide +kernel
theorem dX1_look_102 : decode mX1_look.2.2.1 102 = .ok (.invokestatic 66, 3) := by decide +kernel
theorem dX1_look_142 : decode mX1_look.2.2.1 142 = .ok (.invokestatic 66, 3) := by decide +kernel
theorem dX1_look_236 : decode mX1_look.2.2.1 236 = .ok (.invokestatic 84, 3) := by decide +kernel
def bX1_rulerOver_0 : List Instr := [.iload_n 2, .istore_n 3, .iconst 0, .istore 4]
theorem kX1_rulerOver_0 : okB mX1_rulerOver 0 bX1_rulerOver_0 = true := by decide +kernel
def bX1_rulerOver_5 : List Instr := [.iload 4, .aload_n 1, .getfield 50, .if_icmp .ge 121]
theorem kX1_rulerOver_5 : okB mX1_rulerOver 5 bX1_rulerOver_5 = true := by decide +kernel
def bX1_rulerOver_14 : List Instr := [.aload_n 0, .getfield 21, .iload 4, .iaload, .iconst (-1), .if_icmp .eq 104]
theorem kX1_rulerOver_14 : okB mX1_rulerOver 14 bX1_rulerOver_14 = true := by decide +kernel
def bX1_rulerOver_25 : List Instr := [.aload_n 0, .getfield 9, .iload 4, .iaload, .aload_n 0, .getfield 9, .iload_n 2, .iaload, .if_icmp .ne 88]
theorem kX1_rulerOver_25 : okB mX1_rulerOver 25 bX1_rulerOver_25 = true := by decide +kernel
def bX1_rulerOver_41 : List Instr := [.aload_n 0, .getfield 15, .iload 4, .iaload, .aload_n 0, .getfield 15, .iload_n 2, .iaload, .if_icmp .eq 6]
theorem kX1_rulerOver_41 : okB mX1_rulerOver 41 bX1_rulerOver_41 = true := by decide +kernel
def bX1_rulerOver_57 : List Instr := [.goto 69]
theorem kX1_rulerOver_57 : okB mX1_rulerOver 57 bX1_rulerOver_57 = true := by decide +kernel
def bX1_rulerOver_60 : List Instr := [.aload_n 0, .getfield 21, .iload 4, .iaload, .aload_n 0, .getfield 21, .iload_n 3, .iaload, .if_icmp .ne 7]
theorem kX1_rulerOver_60 : okB mX1_rulerOver 60 bX1_rulerOver_60 = true := by decide +kernel
def bX1_rulerOver_76 : List Instr := [.iconst 1, .goto 4]
theorem kX1_rulerOver_76 : okB mX1_rulerOver 76 bX1_rulerOver_76 = true := by decide +kernel
def bX1_rulerOver_80 : List Instr := [.iconst 0]
theorem kX1_rulerOver_80 : okB mX1_rulerOver 80 bX1_rulerOver_80 = true := by decide +kernel
def bX1_rulerOver_81 : List Instr := [.istore 5, .iload 5, .ifCond .eq 22]
theorem kX1_rulerOver_81 : okB mX1_rulerOver 81 bX1_rulerOver_81 = true := by decide +kernel
def bX1_rulerOver_88 : List Instr := [.aload_n 0, .getfield 18, .iload 4, .iaload, .aload_n 0, .getfield 18, .iload_n 3, .iaload, .if_icmp .le 25]
theorem kX1_rulerOver_88 : okB mX1_rulerOver 88 bX1_rulerOver_88 = true := by decide +kernel
def bX1_rulerOver_104 : List Instr := [.goto 19]
theorem kX1_rulerOver_104 : okB mX1_rulerOver 104 bX1_rulerOver_104 = true := by decide +kernel
def bX1_rulerOver_107 : List Instr := [.aload_n 0, .getfield 21, .iload 4, .iaload, .aload_n 0, .getfield 21, .iload_n 3, .iaload, .if_icmp .le 6]
theorem kX1_rulerOver_107 : okB mX1_rulerOver 107 bX1_rulerOver_107 = true := by decide +kernel
def bX1_rulerOver_123 : List Instr := [.iload 4, .istore_n 3]
theorem kX1_rulerOver_123 : okB mX1_rulerOver 123 bX1_rulerOver_123 = true := by decide +kernel
def bX1_rulerOver_126 : List Instr := [.iinc 4 1, .goto (-124)]
theorem kX1_rulerOver_126 : okB mX1_rulerOver 126 bX1_rulerOver_126 = true := by decide +kernel
def bX1_rulerOver_132 : List Instr := [.iload_n 3, .ireturn]
theorem kX1_rulerOver_132 : okB mX1_rulerOver 132 bX1_rulerOver_132 = true := by decide +kernel
def bX1_rulersOf_0 : List Instr := [.iconst 0, .istore_n 3, .iconst 0, .istore 4]
theorem kX1_rulersOf_0 : okB mX1_rulersOf 0 bX1_rulersOf_0 = true := by decide +kernel
def bX1_rulersOf_5 : List Instr := [.iload 4, .aload_n 1, .getfield 50, .if_icmp .ge 46]
theorem kX1_rulersOf_5 : okB mX1_rulersOf 5 bX1_rulersOf_5 = true := by decide +kernel
def bX1_rulersOf_14 : List Instr := [.aload_n 0, .getfield 21, .iload 4, .iaload, .iconst (-1), .if_icmp .eq 29]
theorem kX1_rulersOf_14 : okB mX1_rulersOf 14 bX1_rulersOf_14 = true := by decide +kernel
def bX1_rulersOf_25 : List Instr := [.aload_n 1, .getfield 88, .iload 4, .iaload, .iload_n 2, .if_icmp .ne 18]
theorem kX1_rulersOf_25 : okB mX1_rulersOf 25 bX1_rulersOf_25 = true := by decide +kernel
def bX1_rulersOf_36 : List Instr := [.aload_n 0, .aload_n 1, .iload 4]
theorem kX1_rulersOf_36 : okB mX1_rulersOf 36 bX1_rulersOf_36 = true := by decide +kernel
def bX1_rulersOf_43 : List Instr := [.iload 4, .if_icmp .ne 6]
theorem kX1_rulersOf_43 : okB mX1_rulersOf 43 bX1_rulersOf_43 = true := by decide +kernel
def bX1_rulersOf_48 : List Instr := [.iinc 3 1]
theorem kX1_rulersOf_48 : okB mX1_rulersOf 48 bX1_rulersOf_48 = true := by decide +kernel
def bX1_rulersOf_51 : List Instr := [.iinc 4 1, .goto (-49)]
theorem kX1_rulersOf_51 : okB mX1_rulersOf 51 bX1_rulersOf_51 = true := by decide +kernel
def bX1_rulersOf_57 : List Instr := [.iload_n 3, .ireturn]
theorem kX1_rulersOf_57 : okB mX1_rulersOf 57 bX1_rulersOf_57 = true := by decide +kernel
theorem dX1_rulersOf_40 : decode mX1_rulersOf.2.2.1 40 = .ok (.invokevirtual 91, 3) := by decide +kernel
def bX1_habitOf_0 : List Instr := [.aload_n 1]
theorem kX1_habitOf_0 : okB mX1_habitOf 0 bX1_habitOf_0 = true := by decide +kernel
def bX1_habitOf_4 : List Instr := [.istore_n 2, .iconst (-1), .istore_n 3, .iconst 0, .istore 4, .aload_n 1, .getfield 24, .astore 5, .iconst 0, .istore 6]
theorem kX1_habitOf_4 : okB mX1_habitOf 4 bX1_habitOf_4 = true := by decide +kernel
def bX1_habitOf_19 : List Instr := [.iload 6, .aload 5]
theorem kX1_habitOf_19 : okB mX1_habitOf 19 bX1_habitOf_19 = true := by decide +kernel
def bX1_habitOf_26 : List Instr := [.if_icmp .ge 71]
theorem kX1_habitOf_26 : okB mX1_habitOf 26 bX1_habitOf_26 = true := by decide +kernel
def bX1_habitOf_29 : List Instr := [.aload_n 0, .aload_n 1, .aload 5, .iload 6]
theorem kX1_habitOf_29 : okB mX1_habitOf 29 bX1_habitOf_29 = true := by decide +kernel
def bX1_habitOf_38 : List Instr := [.aload 5, .iload 6]
theorem kX1_habitOf_38 : okB mX1_habitOf 38 bX1_habitOf_38 = true := by decide +kernel
def bX1_habitOf_45 : List Instr := [.aload 5, .iload 6]
theorem kX1_habitOf_45 : okB mX1_habitOf 45 bX1_habitOf_45 = true := by decide +kernel
def bX1_habitOf_55 : List Instr := [.aload_n 0, .aload_n 1, .iload_n 2]
theorem kX1_habitOf_55 : okB mX1_habitOf 55 bX1_habitOf_55 = true := by decide +kernel
def bX1_habitOf_61 : List Instr := [.aload_n 0, .aload_n 1, .iconst 1, .iload_n 2, .isub]
theorem kX1_habitOf_61 : okB mX1_habitOf 61 bX1_habitOf_61 = true := by decide +kernel
def bX1_habitOf_69 : List Instr := [.isub, .istore 7, .iload_n 3, .iconst (-1), .if_icmp .eq 10]
theorem kX1_habitOf_69 : okB mX1_habitOf 69 bX1_habitOf_69 = true := by decide +kernel
def bX1_habitOf_77 : List Instr := [.iload 7, .iload 4, .if_icmp .le 10]
theorem kX1_habitOf_77 : okB mX1_habitOf 77 bX1_habitOf_77 = true := by decide +kernel
def bX1_habitOf_84 : List Instr := [.iload 6, .istore_n 3, .iload 7, .istore 4]
theorem kX1_habitOf_84 : okB mX1_habitOf 84 bX1_habitOf_84 = true := by decide +kernel
def bX1_habitOf_91 : List Instr := [.iinc 6 1, .goto (-75)]
theorem kX1_habitOf_91 : okB mX1_habitOf 91 bX1_habitOf_91 = true := by decide +kernel
def bX1_habitOf_97 : List Instr := [.iload_n 3, .ireturn]
theorem kX1_habitOf_97 : okB mX1_habitOf 97 bX1_habitOf_97 = true := by decide +kernel
theorem dX1_habitOf_1 : decode mX1_habitOf.2.2.1 1 = .ok (.invokevirtual 95, 3) := by decide +kernel
theorem dX1_habitOf_23 : decode mX1_habitOf.2.2.1 23 = .ok (.invokevirtual 99, 3) := by decide +kernel
theorem dX1_habitOf_35 : decode mX1_habitOf.2.2.1 35 = .ok (.invokevirtual 30, 3) := by decide +kernel
theorem dX1_habitOf_42 : decode mX1_habitOf.2.2.1 42 = .ok (.invokevirtual 36, 3) := by decide +kernel
theorem dX1_habitOf_49 : decode mX1_habitOf.2.2.1 49 = .ok (.invokevirtual 39, 3) := by decide +kernel
theorem dX1_habitOf_52 : decode mX1_habitOf.2.2.1 52 = .ok (.invokevirtual 42, 3) := by decide +kernel
theorem dX1_habitOf_58 : decode mX1_habitOf.2.2.1 58 = .ok (.invokevirtual 102, 3) := by decide +kernel
theorem dX1_habitOf_66 : decode mX1_habitOf.2.2.1 66 = .ok (.invokevirtual 102, 3) := by decide +kernel
def bX1_safeMen_0 : List Instr := [.aload_n 0, .aload_n 1]
theorem kX1_safeMen_0 : okB mX1_safeMen 0 bX1_safeMen_0 = true := by decide +kernel
def bX1_safeMen_5 : List Instr := [.aload_n 0, .aload_n 1]
theorem kX1_safeMen_5 : okB mX1_safeMen 5 bX1_safeMen_5 = true := by decide +kernel
def bX1_safeMen_10 : List Instr := [.istore_n 2, .iconst 0, .istore_n 3]
theorem kX1_safeMen_10 : okB mX1_safeMen 10 bX1_safeMen_10 = true := by decide +kernel
def bX1_safeMen_13 : List Instr := [.iload_n 3, .aload_n 1, .getfield 24]
theorem kX1_safeMen_13 : okB mX1_safeMen 13 bX1_safeMen_13 = true := by decide +kernel
def bX1_safeMen_21 : List Instr := [.if_icmp .ge 27]
theorem kX1_safeMen_21 : okB mX1_safeMen 21 bX1_safeMen_21 = true := by decide +kernel
def bX1_safeMen_24 : List Instr := [.iload_n 2, .ifCond .eq 23]
theorem kX1_safeMen_24 : okB mX1_safeMen 24 bX1_safeMen_24 = true := by decide +kernel
def bX1_safeMen_28 : List Instr := [.aload_n 0, .aload_n 1, .iload_n 3]
theorem kX1_safeMen_28 : okB mX1_safeMen 28 bX1_safeMen_28 = true := by decide +kernel
def bX1_safeMen_34 : List Instr := [.iload_n 2, .aload_n 0, .aload_n 1]
theorem kX1_safeMen_34 : okB mX1_safeMen 34 bX1_safeMen_34 = true := by decide +kernel
def bX1_safeMen_40 : List Instr := [.iand, .istore_n 2, .iinc 3 1, .goto (-32)]
theorem kX1_safeMen_40 : okB mX1_safeMen 40 bX1_safeMen_40 = true := by decide +kernel
def bX1_safeMen_48 : List Instr := [.iload_n 2, .ireturn]
theorem kX1_safeMen_48 : okB mX1_safeMen 48 bX1_safeMen_48 = true := by decide +kernel
theorem dX1_safeMen_2 : decode mX1_safeMen.2.2.1 2 = .ok (.invokevirtual 105, 3) := by decide +kernel
theorem dX1_safeMen_7 : decode mX1_safeMen.2.2.1 7 = .ok (.invokevirtual 109, 3) := by decide +kernel
theorem dX1_safeMen_18 : decode mX1_safeMen.2.2.1 18 = .ok (.invokevirtual 99, 3) := by decide +kernel
theorem dX1_safeMen_31 : decode mX1_safeMen.2.2.1 31 = .ok (.invokevirtual 113, 3) := by decide +kernel
theorem dX1_safeMen_37 : decode mX1_safeMen.2.2.1 37 = .ok (.invokevirtual 109, 3) := by decide +kernel
def bX1_ruledByOwn_0 : List Instr := [.iconst 0, .istore_n 2, .iconst 0, .istore_n 3]
theorem kX1_ruledByOwn_0 : okB mX1_ruledByOwn 0 bX1_ruledByOwn_0 = true := by decide +kernel
def bX1_ruledByOwn_4 : List Instr := [.iload_n 3, .aload_n 1, .getfield 50, .if_icmp .ge 45]
theorem kX1_ruledByOwn_4 : okB mX1_ruledByOwn 4 bX1_ruledByOwn_4 = true := by decide +kernel
def bX1_ruledByOwn_12 : List Instr := [.aload_n 0, .getfield 21, .iload_n 3, .iaload, .iconst (-1), .if_icmp .eq 29]
theorem kX1_ruledByOwn_12 : okB mX1_ruledByOwn 12 bX1_ruledByOwn_12 = true := by decide +kernel
def bX1_ruledByOwn_22 : List Instr := [.aload_n 1, .getfield 88, .aload_n 0, .aload_n 1, .iload_n 3]
theorem kX1_ruledByOwn_22 : okB mX1_ruledByOwn 22 bX1_ruledByOwn_22 = true := by decide +kernel
def bX1_ruledByOwn_32 : List Instr := [.iaload, .aload_n 1, .getfield 88, .iload_n 3, .iaload, .if_icmp .ne 9]
theorem kX1_ruledByOwn_32 : okB mX1_ruledByOwn 32 bX1_ruledByOwn_32 = true := by decide +kernel
def bX1_ruledByOwn_42 : List Instr := [.iload_n 2, .iconst 1, .iload_n 3, .ishl, .ior, .istore_n 2]
theorem kX1_ruledByOwn_42 : okB mX1_ruledByOwn 42 bX1_ruledByOwn_42 = true := by decide +kernel
def bX1_ruledByOwn_48 : List Instr := [.iinc 3 1, .goto (-47)]
theorem kX1_ruledByOwn_48 : okB mX1_ruledByOwn 48 bX1_ruledByOwn_48 = true := by decide +kernel
def bX1_ruledByOwn_54 : List Instr := [.iload_n 2, .ireturn]
theorem kX1_ruledByOwn_54 : okB mX1_ruledByOwn 54 bX1_ruledByOwn_54 = true := by decide +kernel
theorem dX1_ruledByOwn_29 : decode mX1_ruledByOwn.2.2.1 29 = .ok (.invokevirtual 91, 3) := by decide +kernel
