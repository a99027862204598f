def bX6_init_0 : List Instr := [.aload_n 0]
theorem kX6_init_0 : okB mX6_init 0 bX6_init_0 = true := by decide +kernel
def bX6_init_4 : List Instr := [.aload_n 0, .sipush 200]
theorem kX6_init_4 : okB mX6_init 4 bX6_init_4 = true := by decide +kernel
def bX6_init_10 : List Instr := [.putfield 9, .aload_n 0, .iconst 4]
theorem kX6_init_10 : okB mX6_init 10 bX6_init_10 = true := by decide +kernel
def bX6_init_17 : List Instr := [.putfield 15, .return_]
theorem kX6_init_17 : okB mX6_init 17 bX6_init_17 = true := by decide +kernel
theorem dX6_init_1 : decode mX6_init.2.2.1 1 = .ok (.invokespecial 3, 3) := by decide +kernel
def bX6_add_0 : List Instr := [.aload_n 0, .getfield 18, .sipush 200, .if_icmp .ge 23]
theorem kX6_add_0 : okB mX6_add 0 bX6_add_0 = true := by decide +kernel
def bX6_add_10 : List Instr := [.aload_n 0, .getfield 9, .aload_n 0, .getfield 18, .iload_n 1, .iastore, .aload_n 0, .dup, .getfield 18, .iconst 1, .iadd, .putfield 18]
theorem kX6_add_10 : okB mX6_add 10 bX6_add_10 = true := by decide +kernel
def bX6_add_30 : List Instr := [.return_]
theorem kX6_add_30 : okB mX6_add 30 bX6_add_30 = true := by decide +kernel
def bX6_rewind_0 : List Instr := [.aload_n 0, .iconst 0, .putfield 22, .return_]
theorem kX6_rewind_0 : okB mX6_rewind 0 bX6_rewind_0 = true := by decide +kernel
def bX6_faultPlace_0 : List Instr := [.aload_n 0]
theorem kX6_faultPlace_0 : okB mX6_faultPlace 0 bX6_faultPlace_0 = true := by decide +kernel
def bX6_faultPlace_4 : List Instr := [.iconst 0, .istore_n 1, .iconst 0, .istore_n 2]
theorem kX6_faultPlace_4 : okB mX6_faultPlace 4 bX6_faultPlace_4 = true := by decide +kernel
def bX6_faultPlace_8 : List Instr := [.iload_n 2, .sipush 200, .if_icmp .gt 18]
theorem kX6_faultPlace_8 : okB mX6_faultPlace 8 bX6_faultPlace_8 = true := by decide +kernel
def bX6_faultPlace_15 : List Instr := [.iload_n 1, .ifCond .ne 14]
theorem kX6_faultPlace_15 : okB mX6_faultPlace 15 bX6_faultPlace_15 = true := by decide +kernel
def bX6_faultPlace_19 : List Instr := [.aload_n 0]
theorem kX6_faultPlace_19 : okB mX6_faultPlace 19 bX6_faultPlace_19 = true := by decide +kernel
def bX6_faultPlace_23 : List Instr := [.istore_n 1, .iinc 2 1, .goto (-19)]
theorem kX6_faultPlace_23 : okB mX6_faultPlace 23 bX6_faultPlace_23 = true := by decide +kernel
def bX6_faultPlace_30 : List Instr := [.iload_n 1, .iconst 2, .if_icmp .ne 10]
theorem kX6_faultPlace_30 : okB mX6_faultPlace 30 bX6_faultPlace_30 = true := by decide +kernel
def bX6_faultPlace_35 : List Instr := [.aload_n 0, .getfield 32, .goto 4]
theorem kX6_faultPlace_35 : okB mX6_faultPlace 35 bX6_faultPlace_35 = true := by decide +kernel
def bX6_faultPlace_42 : List Instr := [.iconst (-1)]
theorem kX6_faultPlace_42 : okB mX6_faultPlace 42 bX6_faultPlace_42 = true := by decide +kernel
def bX6_faultPlace_43 : List Instr := [.ireturn]
theorem kX6_faultPlace_43 : okB mX6_faultPlace 43 bX6_faultPlace_43 = true := by decide +kernel
theorem dX6_faultPlace_1 : decode mX6_faultPlace.2.2.1 1 = .ok (.invokevirtual 25, 3) := by decide +kernel
theorem dX6_faultPlace_20 : decode mX6_faultPlace.2.2.1 20 = .ok (.invokevirtual 28, 3) := by decide +kernel
def bX6_readItem_0 : List Instr := [.aload_n 0]
theorem kX6_readItem_0 : okB mX6_readItem 0 bX6_readItem_0 = true := by decide +kernel
def bX6_readItem_4 : List Instr := [.istore_n 1, .iload_n 1, .iconst 1, .if_icmp .ne 5]
theorem kX6_readItem_4 : okB mX6_readItem 4 bX6_readItem_4 = true := by decide +kernel
def bX6_readItem_10 : List Instr := [.iconst 1, .ireturn]
theorem kX6_readItem_10 : okB mX6_readItem 10 bX6_readItem_10 = true := by decide +kernel
def bX6_readItem_12 : List Instr := [.iload_n 1, .iconst 3, .if_icmp .eq 10]
theorem kX6_readItem_12 : okB mX6_readItem 12 bX6_readItem_12 = true := by decide +kernel
def bX6_readItem_17 : List Instr := [.iload_n 1, .iconst 4, .if_icmp .eq 5]
theorem kX6_readItem_17 : okB mX6_readItem 17 bX6_readItem_17 = true := by decide +kernel
def bX6_readItem_22 : List Instr := [.iconst 2, .ireturn]
theorem kX6_readItem_22 : okB mX6_readItem 22 bX6_readItem_22 = true := by decide +kernel
def bX6_readItem_24 : List Instr := [.aload_n 0, .iload_n 1, .iconst 3, .if_icmp .ne 7]
theorem kX6_readItem_24 : okB mX6_readItem 24 bX6_readItem_24 = true := by decide +kernel
def bX6_readItem_30 : List Instr := [.iconst 1, .goto 4]
theorem kX6_readItem_30 : okB mX6_readItem 30 bX6_readItem_30 = true := by decide +kernel
def bX6_readItem_34 : List Instr := [.iconst 0]
theorem kX6_readItem_34 : okB mX6_readItem 34 bX6_readItem_34 = true := by decide +kernel
def bX6_readItem_35 : List Instr := [.putfield 38, .aload_n 0, .getfield 38, .ifCond .eq 7]
theorem kX6_readItem_35 : okB mX6_readItem 35 bX6_readItem_35 = true := by decide +kernel
def bX6_readItem_45 : List Instr := [.iconst 4, .goto 4]
theorem kX6_readItem_45 : okB mX6_readItem 45 bX6_readItem_45 = true := by decide +kernel
def bX6_readItem_49 : List Instr := [.iconst 3]
theorem kX6_readItem_49 : okB mX6_readItem 49 bX6_readItem_49 = true := by decide +kernel
def bX6_readItem_50 : List Instr := [.istore_n 2, .iconst 0, .istore_n 3]
theorem kX6_readItem_50 : okB mX6_readItem 50 bX6_readItem_50 = true := by decide +kernel
def bX6_readItem_53 : List Instr := [.iload_n 3, .iload_n 2, .if_icmp .ge 29]
theorem kX6_readItem_53 : okB mX6_readItem 53 bX6_readItem_53 = true := by decide +kernel
def bX6_readItem_58 : List Instr := [.aload_n 0]
theorem kX6_readItem_58 : okB mX6_readItem 58 bX6_readItem_58 = true := by decide +kernel
def bX6_readItem_62 : List Instr := [.iconst 5, .if_icmp .eq 5]
theorem kX6_readItem_62 : okB mX6_readItem 62 bX6_readItem_62 = true := by decide +kernel
def bX6_readItem_66 : List Instr := [.iconst 2, .ireturn]
theorem kX6_readItem_66 : okB mX6_readItem 66 bX6_readItem_66 = true := by decide +kernel
def bX6_readItem_68 : List Instr := [.aload_n 0, .getfield 15, .iload_n 3, .aload_n 0, .getfield 42, .iastore, .iinc 3 1, .goto (-28)]
theorem kX6_readItem_68 : okB mX6_readItem 68 bX6_readItem_68 = true := by decide +kernel
def bX6_readItem_84 : List Instr := [.aload_n 0]
theorem kX6_readItem_84 : okB mX6_readItem 84 bX6_readItem_84 = true := by decide +kernel
def bX6_readItem_88 : List Instr := [.bipush 6, .if_icmp .ne 7]
theorem kX6_readItem_88 : okB mX6_readItem 88 bX6_readItem_88 = true := by decide +kernel
def bX6_readItem_93 : List Instr := [.iconst 0, .goto 4]
theorem kX6_readItem_93 : okB mX6_readItem 93 bX6_readItem_93 = true := by decide +kernel
def bX6_readItem_97 : List Instr := [.iconst 2]
theorem kX6_readItem_97 : okB mX6_readItem 97 bX6_readItem_97 = true := by decide +kernel
def bX6_readItem_98 : List Instr := [.ireturn]
theorem kX6_readItem_98 : okB mX6_readItem 98 bX6_readItem_98 = true := by decide +kernel
theorem dX6_readItem_1 : decode mX6_readItem.2.2.1 1 = .ok (.invokevirtual 35, 3) := by decide +kernel
theorem dX6_readItem_59 : decode mX6_readItem.2.2.1 59 = .ok (.invokevirtual 35, 3) := by decide +kernel
theorem dX6_readItem_85 : decode mX6_readItem.2.2.1 85 = .ok (.invokevirtual 35, 3) := by decide +kernel
def bX6_nextToken_0 : List Instr := [.aload_n 0, .getfield 22, .aload_n 0, .getfield 18, .if_icmp .ge 29]
theorem kX6_nextToken_0 : okB mX6_nextToken 0 bX6_nextToken_0 = true := by decide +kernel
def bX6_nextToken_11 : List Instr := [.aload_n 0, .aload_n 0, .getfield 22]
theorem kX6_nextToken_11 : okB mX6_nextToken 11 bX6_nextToken_11 = true := by decide +kernel
def bX6_nextToken_19 : List Instr := [.bipush 32, .if_icmp .ne 16]
theorem kX6_nextToken_19 : okB mX6_nextToken 19 bX6_nextToken_19 = true := by decide +kernel
def bX6_nextToken_24 : List Instr := [.aload_n 0, .dup, .getfield 22, .iconst 1, .iadd, .putfield 22, .goto (-34)]
theorem kX6_nextToken_24 : okB mX6_nextToken 24 bX6_nextToken_24 = true := by decide +kernel
def bX6_nextToken_37 : List Instr := [.aload_n 0, .aload_n 0, .getfield 22, .putfield 32, .aload_n 0, .aload_n 0, .getfield 22]
theorem kX6_nextToken_37 : okB mX6_nextToken 37 bX6_nextToken_37 = true := by decide +kernel
def bX6_nextToken_53 : List Instr := [.istore_n 1, .iload_n 1, .iconst (-1), .if_icmp .ne 5]
theorem kX6_nextToken_53 : okB mX6_nextToken 53 bX6_nextToken_53 = true := by decide +kernel
def bX6_nextToken_59 : List Instr := [.iconst 1, .ireturn]
theorem kX6_nextToken_59 : okB mX6_nextToken 59 bX6_nextToken_59 = true := by decide +kernel
def bX6_nextToken_61 : List Instr := [.iload_n 1]
theorem kX6_nextToken_61 : okB mX6_nextToken 61 bX6_nextToken_61 = true := by decide +kernel
def bX6_nextToken_65 : List Instr := [.ifCond .eq 8]
theorem kX6_nextToken_65 : okB mX6_nextToken 65 bX6_nextToken_65 = true := by decide +kernel
def bX6_nextToken_68 : List Instr := [.aload_n 0]
theorem kX6_nextToken_68 : okB mX6_nextToken 68 bX6_nextToken_68 = true := by decide +kernel
def bX6_nextToken_72 : List Instr := [.ireturn]
theorem kX6_nextToken_72 : okB mX6_nextToken 72 bX6_nextToken_72 = true := by decide +kernel
def bX6_nextToken_73 : List Instr := [.iload_n 1]
theorem kX6_nextToken_73 : okB mX6_nextToken 73 bX6_nextToken_73 = true := by decide +kernel
def bX6_nextToken_77 : List Instr := [.ifCond .ne 9]
theorem kX6_nextToken_77 : okB mX6_nextToken 77 bX6_nextToken_77 = true := by decide +kernel
def bX6_nextToken_80 : List Instr := [.iload_n 1, .bipush 45, .if_icmp .ne 8]
theorem kX6_nextToken_80 : okB mX6_nextToken 80 bX6_nextToken_80 = true := by decide +kernel
def bX6_nextToken_86 : List Instr := [.aload_n 0]
theorem kX6_nextToken_86 : okB mX6_nextToken 86 bX6_nextToken_86 = true := by decide +kernel
def bX6_nextToken_90 : List Instr := [.ireturn]
theorem kX6_nextToken_90 : okB mX6_nextToken 90 bX6_nextToken_90 = true := by decide +kernel
def bX6_nextToken_91 : List Instr := [.aload_n 0, .dup, .getfield 22, .iconst 1, .iadd, .putfield 22, .iload_n 1, .bipush 59, .if_icmp .ne 8]
theorem kX6_nextToken_91 : okB mX6_nextToken 91 bX6_nextToken_91 = true := by decide +kernel
def bX6_nextToken_107 : List Instr := [.bipush 6, .goto 4]
theorem kX6_nextToken_107 : okB mX6_nextToken 107 bX6_nextToken_107 = true := by decide +kernel
def bX6_nextToken_112 : List Instr := [.iconst 2]
theorem kX6_nextToken_112 : okB mX6_nextToken 112 bX6_nextToken_112 = true := by decide +kernel
def bX6_nextToken_113 : List Instr := [.ireturn]
theorem kX6_nextToken_113 : okB mX6_nextToken 113 bX6_nextToken_113 = true := by decide +kernel
theorem dX6_nextToken_16 : decode mX6_nextToken.2.2.1 16 = .ok (.invokevirtual 45, 3) := by decide +kernel
theorem dX6_nextToken_50 : decode mX6_nextToken.2.2.1 50 = .ok (.invokevirtual 45, 3) := by decide +kernel
theorem dX6_nextToken_62 : decode mX6_nextToken.2.2.1 62 = .ok (.invokestatic 49, 3) := by decide +kernel
theorem dX6_nextToken_69 : decode mX6_nextToken.2.2.1 69 = .ok (.invokevirtual 53, 3) := by decide +kernel
theorem dX6_nextToken_74 : decode mX6_nextToken.2.2.1 74 = .ok (.invokestatic 56, 3) := by decide +kernel
theorem dX6_nextToken_87 : decode mX6_nextToken.2.2.1 87 = .ok (.invokevirtual 59, 3) := by decide +kernel
def bX6_readWord_0 : List Instr := [.aload_n 0, .getfield 22, .aload_n 0, .getfield 18, .if_icmp .ge 30]
theorem kX6_readWord_0 : okB mX6_readWord 0 bX6_readWord_0 = true := by decide +kernel
def bX6_readWord_11 : List Instr := [.aload_n 0, .aload_n 0, .getfield 22]
theorem kX6_readWord_11 : okB mX6_readWord 11 bX6_readWord_11 = true := by decide +kernel
def bX6_readWord_22 : List Instr := [.ifCond .eq 16]
theorem kX6_readWord_22 : okB mX6_readWord 22 bX6_readWord_22 = true := by decide +kernel
def bX6_readWord_25 : List Instr := [.aload_n 0, .dup, .getfield 22, .iconst 1, .iadd, .putfield 22, .goto (-35)]
theorem kX6_readWord_25 : okB mX6_readWord 25 bX6_readWord_25 = true := by decide +kernel
def bX6_readWord_38 : List Instr := [.aload_n 0, .ldc 62]
theorem kX6_readWord_38 : okB mX6_readWord 38 bX6_readWord_38 = true := by decide +kernel
def bX6_readWord_44 : List Instr := [.ifCond .eq 5]
theorem kX6_readWord_44 : okB mX6_readWord 44 bX6_readWord_44 = true := by decide +kernel
def bX6_readWord_47 : List Instr := [.iconst 3, .ireturn]
theorem kX6_readWord_47 : okB mX6_readWord 47 bX6_readWord_47 = true := by decide +kernel
def bX6_readWord_49 : List Instr := [.aload_n 0, .ldc 68]
theorem kX6_readWord_49 : okB mX6_readWord 49 bX6_readWord_49 = true := by decide +kernel
def bX6_readWord_55 : List Instr := [.ifCond .eq 7]
theorem kX6_readWord_55 : okB mX6_readWord 55 bX6_readWord_55 = true := by decide +kernel
def bX6_readWord_58 : List Instr := [.iconst 4, .goto 4]
theorem kX6_readWord_58 : okB mX6_readWord 58 bX6_readWord_58 = true := by decide +kernel
def bX6_readWord_62 : List Instr := [.iconst 2]
theorem kX6_readWord_62 : okB mX6_readWord 62 bX6_readWord_62 = true := by decide +kernel
def bX6_readWord_63 : List Instr := [.ireturn]
theorem kX6_readWord_63 : okB mX6_readWord 63 bX6_readWord_63 = true := by decide +kernel
theorem dX6_readWord_16 : decode mX6_readWord.2.2.1 16 = .ok (.invokevirtual 45, 3) := by decide +kernel
theorem dX6_readWord_19 : decode mX6_readWord.2.2.1 19 = .ok (.invokestatic 49, 3) := by decide +kernel
theorem dX6_readWord_41 : decode mX6_readWord.2.2.1 41 = .ok (.invokevirtual 64, 3) := by decide +kernel
theorem dX6_readWord_52 : decode mX6_readWord.2.2.1 52 = .ok (.invokevirtual 64, 3) := by decide +kernel
def bX6_tokenIs_0 : List Instr := [.aload_n 0, .getfield 22, .aload_n 0, .getfield 32, .isub, .aload_n 1]
theorem kX6_tokenIs_0 : okB mX6_tokenIs 0 bX6_tokenIs_0 = true := by decide +kernel
def bX6_tokenIs_13 : List Instr := [.if_icmp .eq 5]
theorem kX6_tokenIs_13 : okB mX6_tokenIs 13 bX6_tokenIs_13 = true := by decide +kernel
def bX6_tokenIs_16 : List Instr := [.iconst 0, .ireturn]
theorem kX6_tokenIs_16 : okB mX6_tokenIs 16 bX6_tokenIs_16 = true := by decide +kernel
def bX6_tokenIs_18 : List Instr := [.iconst 0, .istore_n 2]
theorem kX6_tokenIs_18 : okB mX6_tokenIs 18 bX6_tokenIs_18 = true := by decide +kernel
def bX6_tokenIs_20 : List Instr := [.iload_n 2, .aload_n 1]
theorem kX6_tokenIs_20 : okB mX6_tokenIs 20 bX6_tokenIs_20 = true := by decide +kernel
def bX6_tokenIs_25 : List Instr := [.if_icmp .ge 29]
theorem kX6_tokenIs_25 : okB mX6_tokenIs 25 bX6_tokenIs_25 = true := by decide +kernel
def bX6_tokenIs_28 : List Instr := [.aload_n 0, .aload_n 0, .getfield 32, .iload_n 2, .iadd]
theorem kX6_tokenIs_28 : okB mX6_tokenIs 28 bX6_tokenIs_28 = true := by decide +kernel
def bX6_tokenIs_38 : List Instr := [.aload_n 1, .iload_n 2]
theorem kX6_tokenIs_38 : okB mX6_tokenIs 38 bX6_tokenIs_38 = true := by decide +kernel
def bX6_tokenIs_43 : List Instr := [.if_icmp .eq 5]
theorem kX6_tokenIs_43 : okB mX6_tokenIs 43 bX6_tokenIs_43 = true := by decide +kernel
def bX6_tokenIs_46 : List Instr := [.iconst 0, .ireturn]
theorem kX6_tokenIs_46 : okB mX6_tokenIs 46 bX6_tokenIs_46 = true := by decide +kernel
def bX6_tokenIs_48 : List Instr := [.iinc 2 1, .goto (-31)]
theorem kX6_tokenIs_48 : okB mX6_tokenIs 48 bX6_tokenIs_48 = true := by decide +kernel
def bX6_tokenIs_54 : List Instr := [.iconst 1, .ireturn]
theorem kX6_tokenIs_54 : okB mX6_tokenIs 54 bX6_tokenIs_54 = true := by decide +kernel
theorem dX6_tokenIs_10 : decode mX6_tokenIs.2.2.1 10 = .ok (.invokevirtual 70, 3) := by decide +kernel
theorem dX6_tokenIs_22 : decode mX6_tokenIs.2.2.1 22 = .ok (.invokevirtual 70, 3) := by decide +kernel
theorem dX6_tokenIs_35 : decode mX6_tokenIs.2.2.1 35 = .ok (.invokevirtual 45, 3) := by decide +kernel
theorem dX6_tokenIs_40 : decode mX6_tokenIs.2.2.1 40 = .ok (.invokevirtual 74, 3) := by decide +kernel
def bX6_readNumber_0 : List Instr := [.aload_n 0, .aload_n 0, .getfield 22]
theorem kX6_readNumber_0 : okB mX6_readNumber 0 bX6_readNumber_0 = true := by decide +kernel
def bX6_readNumber_8 : List Instr := [.bipush 45, .if_icmp .ne 7]
theorem kX6_readNumber_8 : okB mX6_readNumber 8 bX6_readNumber_8 = true := by decide +kernel
def bX6_readNumber_13 : List Instr := [.iconst 1, .goto 4]
theorem kX6_readNumber_13 : okB mX6_readNumber 13 bX6_readNumber_13 = true := by decide +kernel
def bX6_readNumber_17 : List Instr := [.iconst 0]
theorem kX6_readNumber_17 : okB mX6_readNumber 17 bX6_readNumber_17 = true := by decide +kernel
def bX6_readNumber_18 : List Instr := [.istore_n 1, .iload_n 1, .ifCond .eq 13]
theorem kX6_readNumber_18 : okB mX6_readNumber 18 bX6_readNumber_18 = true := by decide +kernel
def bX6_readNumber_23 : List Instr := [.aload_n 0, .dup, .getfield 22, .iconst 1, .iadd, .putfield 22]
theorem kX6_readNumber_23 : okB mX6_readNumber 23 bX6_readNumber_23 = true := by decide +kernel
def bX6_readNumber_33 : List Instr := [.iconst 0, .istore_n 2, .iconst 0, .istore_n 3]
theorem kX6_readNumber_33 : okB mX6_readNumber 33 bX6_readNumber_33 = true := by decide +kernel
def bX6_readNumber_37 : List Instr := [.aload_n 0, .getfield 22, .aload_n 0, .getfield 18, .if_icmp .ge 59]
theorem kX6_readNumber_37 : okB mX6_readNumber 37 bX6_readNumber_37 = true := by decide +kernel
def bX6_readNumber_48 : List Instr := [.aload_n 0, .aload_n 0, .getfield 22]
theorem kX6_readNumber_48 : okB mX6_readNumber 48 bX6_readNumber_48 = true := by decide +kernel
def bX6_readNumber_59 : List Instr := [.ifCond .eq 45]
theorem kX6_readNumber_59 : okB mX6_readNumber 59 bX6_readNumber_59 = true := by decide +kernel
def bX6_readNumber_62 : List Instr := [.iload_n 2, .iconst 2, .if_icmp .ge 22]
theorem kX6_readNumber_62 : okB mX6_readNumber 62 bX6_readNumber_62 = true := by decide +kernel
def bX6_readNumber_67 : List Instr := [.bipush 10, .iload_n 3, .imul, .aload_n 0, .aload_n 0, .getfield 22]
theorem kX6_readNumber_67 : okB mX6_readNumber 67 bX6_readNumber_67 = true := by decide +kernel
def bX6_readNumber_79 : List Instr := [.iadd, .bipush 48, .isub, .goto 4]
theorem kX6_readNumber_79 : okB mX6_readNumber 79 bX6_readNumber_79 = true := by decide +kernel
def bX6_readNumber_86 : List Instr := [.iconst 0]
theorem kX6_readNumber_86 : okB mX6_readNumber 86 bX6_readNumber_86 = true := by decide +kernel
def bX6_readNumber_87 : List Instr := [.istore_n 3, .iinc 2 1, .aload_n 0, .dup, .getfield 22, .iconst 1, .iadd, .putfield 22, .goto (-64)]
theorem kX6_readNumber_87 : okB mX6_readNumber 87 bX6_readNumber_87 = true := by decide +kernel
def bX6_readNumber_104 : List Instr := [.aload_n 0, .iload_n 1, .ifCond .eq 8]
theorem kX6_readNumber_104 : okB mX6_readNumber 104 bX6_readNumber_104 = true := by decide +kernel
def bX6_readNumber_109 : List Instr := [.iload_n 3, .ineg, .goto 4]
theorem kX6_readNumber_109 : okB mX6_readNumber 109 bX6_readNumber_109 = true := by decide +kernel
def bX6_readNumber_114 : List Instr := [.iload_n 3]
theorem kX6_readNumber_114 : okB mX6_readNumber 114 bX6_readNumber_114 = true := by decide +kernel
def bX6_readNumber_115 : List Instr := [.putfield 42, .iload_n 2, .iconst 1, .iconst 2]
theorem kX6_readNumber_115 : okB mX6_readNumber 115 bX6_readNumber_115 = true := by decide +kernel
def bX6_readNumber_124 : List Instr := [.ifCond .eq 7]
theorem kX6_readNumber_124 : okB mX6_readNumber 124 bX6_readNumber_124 = true := by decide +kernel
def bX6_readNumber_127 : List Instr := [.iconst 5, .goto 4]
theorem kX6_readNumber_127 : okB mX6_readNumber 127 bX6_readNumber_127 = true := by decide +kernel
def bX6_readNumber_131 : List Instr := [.iconst 2]
theorem kX6_readNumber_131 : okB mX6_readNumber 131 bX6_readNumber_131 = true := by decide +kernel
def bX6_readNumber_132 : List Instr := [.ireturn]
theorem kX6_readNumber_132 : okB mX6_readNumber 132 bX6_readNumber_132 = true := by decide +kernel
theorem dX6_readNumber_5 : decode mX6_readNumber.2.2.1 5 = .ok (.invokevirtual 45, 3) := by decide +kernel
theorem dX6_readNumber_53 : decode mX6_readNumber.2.2.1 53 = .ok (.invokevirtual 45, 3) := by decide +kernel
theorem dX6_readNumber_56 : decode mX6_readNumber.2.2.1 56 = .ok (.invokestatic 56, 3) := by decide +kernel
theorem dX6_readNumber_76 : decode mX6_readNumber.2.2.1 76 = .ok (.invokevirtual 45, 3) := by decide +kernel
theorem dX6_readNumber_121 : decode mX6_readNumber.2.2.1 121 = .ok (.invokestatic 78, 3) := by decide +kernel
def bX6_byteAt_0 : List Instr := [.iload_n 1, .iconst 0, .aload_n 0, .getfield 18, .iconst 1, .isub]
theorem kX6_byteAt_0 : okB mX6_byteAt 0 bX6_byteAt_0 = true := by decide +kernel
def bX6_byteAt_11 : List Instr := [.ifCond .eq 12]
theorem kX6_byteAt_11 : okB mX6_byteAt 11 bX6_byteAt_11 = true := by decide +kernel
def bX6_byteAt_14 : List Instr := [.aload_n 0, .getfield 9, .iload_n 1, .iaload, .goto 4]
theorem kX6_byteAt_14 : okB mX6_byteAt 14 bX6_byteAt_14 = true := by decide +kernel
def bX6_byteAt_23 : List Instr := [.iconst (-1)]
theorem kX6_byteAt_23 : okB mX6_byteAt 23 bX6_byteAt_23 = true := by decide +kernel
def bX6_byteAt_24 : List Instr := [.ireturn]
theorem kX6_byteAt_24 : okB mX6_byteAt 24 bX6_byteAt_24 = true := by decide +kernel
theorem dX6_byteAt_8 : decode mX6_byteAt.2.2.1 8 = .ok (.invokestatic 78, 3) := by decide +kernel
def bX6_isLetter_0 : List Instr := [.iload_n 0, .bipush 97, .bipush 122]
theorem kX6_isLetter_0 : okB mX6_isLetter 0 bX6_isLetter_0 = true := by decide +kernel
def bX6_isLetter_8 : List Instr := [.ireturn]
theorem kX6_isLetter_8 : okB mX6_isLetter 8 bX6_isLetter_8 = true := by decide +kernel
theorem dX6_isLetter_5 : decode mX6_isLetter.2.2.1 5 = .ok (.invokestatic 78, 3) := by decide +kernel
def bX6_isFigure_0 : List Instr := [.iload_n 0, .bipush 48, .bipush 57]
theorem kX6_isFigure_0 : okB mX6_isFigure 0 bX6_isFigure_0 = true := by decide +kernel
def bX6_isFigure_8 : List Instr := [.ireturn]
theorem kX6_isFigure_8 : okB mX6_isFigure 8 bX6_isFigure_8 = true := by decide +kernel
theorem dX6_isFigure_5 : decode mX6_isFigure.2.2.1 5 = .ok (.invokestatic 78, 3) := by decide +kernel
