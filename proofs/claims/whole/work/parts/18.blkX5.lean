def bX5_init_0 : List Instr := [.aload_n 0]
theorem kX5_init_0 : okB mX5_init 0 bX5_init_0 = true := by decide +kernel
def bX5_init_4 : List Instr := [.aload_n 0, .iconst 4, .bipush 6]
theorem kX5_init_4 : okB mX5_init 4 bX5_init_4 = true := by decide +kernel
def bX5_init_12 : List Instr := [.putfield 11, .aload_n 0, .iconst 4, .bipush 6]
theorem kX5_init_12 : okB mX5_init 12 bX5_init_12 = true := by decide +kernel
def bX5_init_23 : List Instr := [.putfield 16, .aload_n 0, .bipush 6]
theorem kX5_init_23 : okB mX5_init 23 bX5_init_23 = true := by decide +kernel
def bX5_init_31 : List Instr := [.putfield 19, .aload_n 0, .bipush 6]
theorem kX5_init_31 : okB mX5_init 31 bX5_init_31 = true := by decide +kernel
def bX5_init_39 : List Instr := [.putfield 23, .aload_n 0, .iconst 4]
theorem kX5_init_39 : okB mX5_init 39 bX5_init_39 = true := by decide +kernel
def bX5_init_46 : List Instr := [.putfield 26, .return_]
theorem kX5_init_46 : okB mX5_init 46 bX5_init_46 = true := by decide +kernel
theorem dX5_init_1 : decode mX5_init.2.2.1 1 = .ok (.invokespecial 3, 3) := by decide +kernel
def bX5_forget_0 : List Instr := [.aload_n 0, .iconst 0, .putfield 30, .return_]
theorem kX5_forget_0 : okB mX5_forget 0 bX5_forget_0 = true := by decide +kernel
def bX5_fewestFolds_0 : List Instr := [.aload_n 0, .getfield 30, .ifCond .ne 13]
theorem kX5_fewestFolds_0 : okB mX5_fewestFolds 0 bX5_fewestFolds_0 = true := by decide +kernel
def bX5_fewestFolds_7 : List Instr := [.aload_n 0, .aload_n 1]
theorem kX5_fewestFolds_7 : okB mX5_fewestFolds 7 bX5_fewestFolds_7 = true := by decide +kernel
def bX5_fewestFolds_12 : List Instr := [.aload_n 0, .iconst 1, .putfield 30]
theorem kX5_fewestFolds_12 : okB mX5_fewestFolds 12 bX5_fewestFolds_12 = true := by decide +kernel
def bX5_fewestFolds_17 : List Instr := [.iconst 0, .istore_n 3]
theorem kX5_fewestFolds_17 : okB mX5_fewestFolds 17 bX5_fewestFolds_17 = true := by decide +kernel
def bX5_fewestFolds_19 : List Instr := [.iload_n 3, .iconst 3, .if_icmp .gt 21]
theorem kX5_fewestFolds_19 : okB mX5_fewestFolds 19 bX5_fewestFolds_19 = true := by decide +kernel
def bX5_fewestFolds_24 : List Instr := [.aload_n 0, .getfield 26, .iload_n 3, .iaload, .iload_n 2, .if_icmp .gt 5]
theorem kX5_fewestFolds_24 : okB mX5_fewestFolds 24 bX5_fewestFolds_24 = true := by decide +kernel
def bX5_fewestFolds_34 : List Instr := [.iload_n 3, .ireturn]
theorem kX5_fewestFolds_34 : okB mX5_fewestFolds 34 bX5_fewestFolds_34 = true := by decide +kernel
def bX5_fewestFolds_36 : List Instr := [.iinc 3 1, .goto (-20)]
theorem kX5_fewestFolds_36 : okB mX5_fewestFolds 36 bX5_fewestFolds_36 = true := by decide +kernel
def bX5_fewestFolds_42 : List Instr := [.iconst (-1), .ireturn]
theorem kX5_fewestFolds_42 : okB mX5_fewestFolds 42 bX5_fewestFolds_42 = true := by decide +kernel
theorem dX5_fewestFolds_9 : decode mX5_fewestFolds.2.2.1 9 = .ok (.invokevirtual 34, 3) := by decide +kernel
def bX5_survey_0 : List Instr := [.iconst 0, .istore_n 2]
theorem kX5_survey_0 : okB mX5_survey 0 bX5_survey_0 = true := by decide +kernel
def bX5_survey_2 : List Instr := [.iload_n 2, .bipush 6, .if_icmp .ge 41]
theorem kX5_survey_2 : okB mX5_survey 2 bX5_survey_2 = true := by decide +kernel
def bX5_survey_8 : List Instr := [.aload_n 0, .getfield 11, .iconst 0, .aaload, .iload_n 2, .iload_n 2, .iastore, .aload_n 0, .getfield 16, .iconst 0, .aaload, .iload_n 2, .iload_n 2, .iastore, .aload_n 0, .getfield 19, .iload_n 2, .iconst 0, .bastore, .aload_n 0, .getfield 23, .iload_n 2, .iconst 0, .bastore, .iinc 2 1, .goto (-41)]
theorem kX5_survey_8 : okB mX5_survey 8 bX5_survey_8 = true := by decide +kernel
def bX5_survey_46 : List Instr := [.iconst 0, .istore_n 2]
theorem kX5_survey_46 : okB mX5_survey 46 bX5_survey_46 = true := by decide +kernel
def bX5_survey_48 : List Instr := [.iload_n 2, .bipush 36, .if_icmp .ge 37]
theorem kX5_survey_48 : okB mX5_survey 48 bX5_survey_48 = true := by decide +kernel
def bX5_survey_54 : List Instr := [.aload_n 1, .iload_n 2]
theorem kX5_survey_54 : okB mX5_survey 54 bX5_survey_54 = true := by decide +kernel
def bX5_survey_59 : List Instr := [.ifCond .eq 23]
theorem kX5_survey_59 : okB mX5_survey 59 bX5_survey_59 = true := by decide +kernel
def bX5_survey_62 : List Instr := [.aload_n 0, .getfield 19, .iload_n 2, .bipush 6, .irem, .iconst 1, .bastore, .aload_n 0, .getfield 23, .iload_n 2, .bipush 6, .idiv, .iconst 1, .bastore]
theorem kX5_survey_62 : okB mX5_survey 62 bX5_survey_62 = true := by decide +kernel
def bX5_survey_82 : List Instr := [.iinc 2 1, .goto (-37)]
theorem kX5_survey_82 : okB mX5_survey 82 bX5_survey_82 = true := by decide +kernel
def bX5_survey_88 : List Instr := [.iconst 0, .istore_n 2]
theorem kX5_survey_88 : okB mX5_survey 88 bX5_survey_88 = true := by decide +kernel
def bX5_survey_90 : List Instr := [.iload_n 2, .iconst 3, .if_icmp .gt 17]
theorem kX5_survey_90 : okB mX5_survey 90 bX5_survey_90 = true := by decide +kernel
def bX5_survey_95 : List Instr := [.aload_n 0, .getfield 26, .iload_n 2, .bipush 37, .iastore, .iinc 2 1, .goto (-16)]
theorem kX5_survey_95 : okB mX5_survey 95 bX5_survey_95 = true := by decide +kernel
def bX5_survey_109 : List Instr := [.aload_n 0, .aload_n 1, .iconst 0, .iconst 0]
theorem kX5_survey_109 : okB mX5_survey 109 bX5_survey_109 = true := by decide +kernel
def bX5_survey_116 : List Instr := [.return_]
theorem kX5_survey_116 : okB mX5_survey 116 bX5_survey_116 = true := by decide +kernel
theorem dX5_survey_56 : decode mX5_survey.2.2.1 56 = .ok (.invokevirtual 38, 3) := by decide +kernel
theorem dX5_survey_113 : decode mX5_survey.2.2.1 113 = .ok (.invokevirtual 44, 3) := by decide +kernel
def bX5_explore_0 : List Instr := [.iload_n 2, .iconst 0, .iconst 3]
theorem kX5_explore_0 : okB mX5_explore 0 bX5_explore_0 = true := by decide +kernel
def bX5_explore_6 : List Instr := [.ifCond .ne 4]
theorem kX5_explore_6 : okB mX5_explore 6 bX5_explore_6 = true := by decide +kernel
def bX5_explore_9 : List Instr := [.return_]
theorem kX5_explore_9 : okB mX5_explore 9 bX5_explore_9 = true := by decide +kernel
def bX5_explore_10 : List Instr := [.aload_n 0, .getfield 26, .iload_n 2, .aload_n 0, .getfield 26, .iload_n 2, .iaload, .aload_n 0, .aload_n 1, .iload_n 2]
theorem kX5_explore_10 : okB mX5_explore 10 bX5_explore_10 = true := by decide +kernel
def bX5_explore_30 : List Instr := [.iastore, .iload_n 3, .istore 4]
theorem kX5_explore_30 : okB mX5_explore 30 bX5_explore_30 = true := by decide +kernel
def bX5_explore_34 : List Instr := [.iload 4, .iconst 1, .if_icmp .gt 162]
theorem kX5_explore_34 : okB mX5_explore 34 bX5_explore_34 = true := by decide +kernel
def bX5_explore_40 : List Instr := [.iload_n 2, .iconst 3, .if_icmp .ge 157]
theorem kX5_explore_40 : okB mX5_explore 40 bX5_explore_40 = true := by decide +kernel
def bX5_explore_45 : List Instr := [.iload 4, .ifCond .ne 12]
theorem kX5_explore_45 : okB mX5_explore 45 bX5_explore_45 = true := by decide +kernel
def bX5_explore_50 : List Instr := [.aload_n 0, .getfield 11, .iload_n 2, .aaload, .goto 9]
theorem kX5_explore_50 : okB mX5_explore 50 bX5_explore_50 = true := by decide +kernel
def bX5_explore_59 : List Instr := [.aload_n 0, .getfield 16, .iload_n 2, .aaload]
theorem kX5_explore_59 : okB mX5_explore 59 bX5_explore_59 = true := by decide +kernel
def bX5_explore_65 : List Instr := [.astore 5, .iload 4, .ifCond .ne 10]
theorem kX5_explore_65 : okB mX5_explore 65 bX5_explore_65 = true := by decide +kernel
def bX5_explore_72 : List Instr := [.aload_n 0, .getfield 19, .goto 7]
theorem kX5_explore_72 : okB mX5_explore 72 bX5_explore_72 = true := by decide +kernel
def bX5_explore_79 : List Instr := [.aload_n 0, .getfield 23]
theorem kX5_explore_79 : okB mX5_explore 79 bX5_explore_79 = true := by decide +kernel
def bX5_explore_83 : List Instr := [.astore 6, .aload 5, .aload 6, .iconst 0]
theorem kX5_explore_83 : okB mX5_explore 83 bX5_explore_83 = true := by decide +kernel
def bX5_explore_93 : List Instr := [.istore 7, .aload 5, .aload 6, .iconst 1]
theorem kX5_explore_93 : okB mX5_explore 93 bX5_explore_93 = true := by decide +kernel
def bX5_explore_103 : List Instr := [.istore 8, .iload 7, .iconst 1, .iadd, .istore 9]
theorem kX5_explore_103 : okB mX5_explore 103 bX5_explore_103 = true := by decide +kernel
def bX5_explore_111 : List Instr := [.iload 9, .iload 8, .if_icmp .gt 78]
theorem kX5_explore_111 : okB mX5_explore 111 bX5_explore_111 = true := by decide +kernel
def bX5_explore_118 : List Instr := [.aload_n 0, .getfield 11, .iload_n 2, .aaload, .aload_n 0, .getfield 11, .iload_n 2, .iconst 1, .iadd, .aaload, .iload 4, .ifCond .ne 7]
theorem kX5_explore_118 : okB mX5_explore 118 bX5_explore_118 = true := by decide +kernel
def bX5_explore_137 : List Instr := [.iconst 1, .goto 4]
theorem kX5_explore_137 : okB mX5_explore 137 bX5_explore_137 = true := by decide +kernel
def bX5_explore_141 : List Instr := [.iconst 0]
theorem kX5_explore_141 : okB mX5_explore 141 bX5_explore_141 = true := by decide +kernel
def bX5_explore_142 : List Instr := [.iload 9]
theorem kX5_explore_142 : okB mX5_explore 142 bX5_explore_142 = true := by decide +kernel
def bX5_explore_147 : List Instr := [.aload_n 0, .getfield 16, .iload_n 2, .aaload, .aload_n 0, .getfield 16, .iload_n 2, .iconst 1, .iadd, .aaload, .iload 4, .iconst 1, .if_icmp .ne 7]
theorem kX5_explore_147 : okB mX5_explore 147 bX5_explore_147 = true := by decide +kernel
def bX5_explore_167 : List Instr := [.iconst 1, .goto 4]
theorem kX5_explore_167 : okB mX5_explore 167 bX5_explore_167 = true := by decide +kernel
def bX5_explore_171 : List Instr := [.iconst 0]
theorem kX5_explore_171 : okB mX5_explore 171 bX5_explore_171 = true := by decide +kernel
def bX5_explore_172 : List Instr := [.iload 9]
theorem kX5_explore_172 : okB mX5_explore 172 bX5_explore_172 = true := by decide +kernel
def bX5_explore_177 : List Instr := [.aload_n 0, .aload_n 1, .iload_n 2, .iconst 1, .iadd, .iload 4]
theorem kX5_explore_177 : okB mX5_explore 177 bX5_explore_177 = true := by decide +kernel
def bX5_explore_187 : List Instr := [.iinc 9 1, .goto (-79)]
theorem kX5_explore_187 : okB mX5_explore 187 bX5_explore_187 = true := by decide +kernel
def bX5_explore_193 : List Instr := [.iinc 4 1, .goto (-162)]
theorem kX5_explore_193 : okB mX5_explore 193 bX5_explore_193 = true := by decide +kernel
def bX5_explore_199 : List Instr := [.return_]
theorem kX5_explore_199 : okB mX5_explore 199 bX5_explore_199 = true := by decide +kernel
theorem dX5_explore_3 : decode mX5_explore.2.2.1 3 = .ok (.invokestatic 48, 3) := by decide +kernel
theorem dX5_explore_24 : decode mX5_explore.2.2.1 24 = .ok (.invokevirtual 52, 3) := by decide +kernel
theorem dX5_explore_27 : decode mX5_explore.2.2.1 27 = .ok (.invokestatic 56, 3) := by decide +kernel
theorem dX5_explore_90 : decode mX5_explore.2.2.1 90 = .ok (.invokestatic 62, 3) := by decide +kernel
theorem dX5_explore_100 : decode mX5_explore.2.2.1 100 = .ok (.invokestatic 62, 3) := by decide +kernel
theorem dX5_explore_144 : decode mX5_explore.2.2.1 144 = .ok (.invokestatic 66, 3) := by decide +kernel
theorem dX5_explore_174 : decode mX5_explore.2.2.1 174 = .ok (.invokestatic 66, 3) := by decide +kernel
theorem dX5_explore_184 : decode mX5_explore.2.2.1 184 = .ok (.invokevirtual 44, 3) := by decide +kernel
def bX5_bend_0 : List Instr := [.iconst 0, .istore 4]
theorem kX5_bend_0 : okB mX5_bend 0 bX5_bend_0 = true := by decide +kernel
def bX5_bend_3 : List Instr := [.iload 4, .bipush 6, .if_icmp .ge 44]
theorem kX5_bend_3 : okB mX5_bend 3 bX5_bend_3 = true := by decide +kernel
def bX5_bend_10 : List Instr := [.aload_n 1, .iload 4, .iload_n 2, .ifCond .eq 26]
theorem kX5_bend_10 : okB mX5_bend 10 bX5_bend_10 = true := by decide +kernel
def bX5_bend_17 : List Instr := [.aload_n 0, .iload 4, .iaload, .iload_n 3, .iconst 0]
theorem kX5_bend_17 : okB mX5_bend 17 bX5_bend_17 = true := by decide +kernel
def bX5_bend_26 : List Instr := [.ifCond .eq 14]
theorem kX5_bend_26 : okB mX5_bend 26 bX5_bend_26 = true := by decide +kernel
def bX5_bend_29 : List Instr := [.aload_n 0, .iload 4, .iaload, .iload_n 3]
theorem kX5_bend_29 : okB mX5_bend 29 bX5_bend_29 = true := by decide +kernel
def bX5_bend_37 : List Instr := [.goto 7]
theorem kX5_bend_37 : okB mX5_bend 37 bX5_bend_37 = true := by decide +kernel
def bX5_bend_40 : List Instr := [.aload_n 0, .iload 4, .iaload]
theorem kX5_bend_40 : okB mX5_bend 40 bX5_bend_40 = true := by decide +kernel
def bX5_bend_44 : List Instr := [.iastore, .iinc 4 1, .goto (-45)]
theorem kX5_bend_44 : okB mX5_bend 44 bX5_bend_44 = true := by decide +kernel
def bX5_bend_51 : List Instr := [.return_]
theorem kX5_bend_51 : okB mX5_bend 51 bX5_bend_51 = true := by decide +kernel
theorem dX5_bend_23 : decode mX5_bend.2.2.1 23 = .ok (.invokestatic 70, 3) := by decide +kernel
theorem dX5_bend_34 : decode mX5_bend.2.2.1 34 = .ok (.invokestatic 73, 3) := by decide +kernel
def bX5_outmost_0 : List Instr := [.iconst 0, .istore_n 3, .iconst 0, .istore 4, .iconst 0, .istore 5]
theorem kX5_outmost_0 : okB mX5_outmost 0 bX5_outmost_0 = true := by decide +kernel
def bX5_outmost_8 : List Instr := [.iload 5, .bipush 6, .if_icmp .ge 53]
theorem kX5_outmost_8 : okB mX5_outmost 8 bX5_outmost_8 = true := by decide +kernel
def bX5_outmost_15 : List Instr := [.aload_n 1, .iload 5, .baload, .ifCond .eq 40]
theorem kX5_outmost_15 : okB mX5_outmost 15 bX5_outmost_15 = true := by decide +kernel
def bX5_outmost_22 : List Instr := [.iload_n 3, .ifCond .eq 28]
theorem kX5_outmost_22 : okB mX5_outmost 22 bX5_outmost_22 = true := by decide +kernel
def bX5_outmost_26 : List Instr := [.iload_n 2, .ifCond .eq 15]
theorem kX5_outmost_26 : okB mX5_outmost 26 bX5_outmost_26 = true := by decide +kernel
def bX5_outmost_30 : List Instr := [.aload_n 0, .iload 5, .iaload, .iload 4, .if_icmp .le 23]
theorem kX5_outmost_30 : okB mX5_outmost 30 bX5_outmost_30 = true := by decide +kernel
def bX5_outmost_39 : List Instr := [.goto 12]
theorem kX5_outmost_39 : okB mX5_outmost 39 bX5_outmost_39 = true := by decide +kernel
def bX5_outmost_42 : List Instr := [.aload_n 0, .iload 5, .iaload, .iload 4, .if_icmp .ge 11]
theorem kX5_outmost_42 : okB mX5_outmost 42 bX5_outmost_42 = true := by decide +kernel
def bX5_outmost_51 : List Instr := [.aload_n 0, .iload 5, .iaload, .istore 4, .iconst 1, .istore_n 3]
theorem kX5_outmost_51 : okB mX5_outmost 51 bX5_outmost_51 = true := by decide +kernel
def bX5_outmost_59 : List Instr := [.iinc 5 1, .goto (-54)]
theorem kX5_outmost_59 : okB mX5_outmost 59 bX5_outmost_59 = true := by decide +kernel
def bX5_outmost_65 : List Instr := [.iload 4, .ireturn]
theorem kX5_outmost_65 : okB mX5_outmost 65 bX5_outmost_65 = true := by decide +kernel
def bX5_positions_0 : List Instr := [.lconst 0, .lstore_n 3, .iconst 0, .istore 5]
theorem kX5_positions_0 : okB mX5_positions 0 bX5_positions_0 = true := by decide +kernel
def bX5_positions_5 : List Instr := [.iload 5, .bipush 36, .if_icmp .ge 55]
theorem kX5_positions_5 : okB mX5_positions 5 bX5_positions_5 = true := by decide +kernel
def bX5_positions_12 : List Instr := [.aload_n 1, .iload 5]
theorem kX5_positions_12 : okB mX5_positions 12 bX5_positions_12 = true := by decide +kernel
def bX5_positions_18 : List Instr := [.ifCond .eq 40]
theorem kX5_positions_18 : okB mX5_positions 18 bX5_positions_18 = true := by decide +kernel
def bX5_positions_21 : List Instr := [.lload_n 3, .lconst 1, .bipush 6, .aload_n 0, .getfield 16, .iload_n 2, .aaload, .iload 5, .bipush 6, .idiv]
theorem kX5_positions_21 : okB mX5_positions 21 bX5_positions_21 = true := by decide +kernel
def bX5_positions_39 : List Instr := [.imul, .aload_n 0, .getfield 11, .iload_n 2, .aaload, .iload 5, .bipush 6, .irem]
theorem kX5_positions_39 : okB mX5_positions 39 bX5_positions_39 = true := by decide +kernel
def bX5_positions_54 : List Instr := [.iadd, .lshl, .lor, .lstore_n 3]
theorem kX5_positions_54 : okB mX5_positions 54 bX5_positions_54 = true := by decide +kernel
def bX5_positions_58 : List Instr := [.iinc 5 1, .goto (-56)]
theorem kX5_positions_58 : okB mX5_positions 58 bX5_positions_58 = true := by decide +kernel
def bX5_positions_64 : List Instr := [.lload_n 3]
theorem kX5_positions_64 : okB mX5_positions 64 bX5_positions_64 = true := by decide +kernel
def bX5_positions_68 : List Instr := [.ireturn]
theorem kX5_positions_68 : okB mX5_positions 68 bX5_positions_68 = true := by decide +kernel
theorem dX5_positions_15 : decode mX5_positions.2.2.1 15 = .ok (.invokevirtual 38, 3) := by decide +kernel
theorem dX5_positions_36 : decode mX5_positions.2.2.1 36 = .ok (.invokestatic 76, 3) := by decide +kernel
theorem dX5_positions_51 : decode mX5_positions.2.2.1 51 = .ok (.invokestatic 76, 3) := by decide +kernel
theorem dX5_positions_65 : decode mX5_positions.2.2.1 65 = .ok (.invokestatic 80, 3) := by decide +kernel
def bX5_firstLike_0 : List Instr := [.iconst 0, .istore_n 2]
theorem kX5_firstLike_0 : okB mX5_firstLike 0 bX5_firstLike_0 = true := by decide +kernel
def bX5_firstLike_2 : List Instr := [.iload_n 2, .iload_n 1, .if_icmp .ge 18]
theorem kX5_firstLike_2 : okB mX5_firstLike 2 bX5_firstLike_2 = true := by decide +kernel
def bX5_firstLike_7 : List Instr := [.aload_n 0, .iload_n 2, .iaload, .aload_n 0, .iload_n 1, .iaload, .if_icmp .eq 9]
theorem kX5_firstLike_7 : okB mX5_firstLike 7 bX5_firstLike_7 = true := by decide +kernel
def bX5_firstLike_16 : List Instr := [.iinc 2 1, .goto (-17)]
theorem kX5_firstLike_16 : okB mX5_firstLike 16 bX5_firstLike_16 = true := by decide +kernel
def bX5_firstLike_22 : List Instr := [.iload_n 2, .ireturn]
theorem kX5_firstLike_22 : okB mX5_firstLike 22 bX5_firstLike_22 = true := by decide +kernel
