def bL_law_3 : List Instr := [.dup]
theorem kL_law_3 : okB mL_law 3 bL_law_3 = true := by decide +kernel
def bL_law_7 : List Instr := [.astore_n 1]
theorem kL_law_7 : okB mL_law 7 bL_law_7 = true := by decide +kernel
def bL_law_11 : List Instr := [.dup]
theorem kL_law_11 : okB mL_law 11 bL_law_11 = true := by decide +kernel
def bL_law_15 : List Instr := [.astore_n 2, .iconst 0, .istore_n 3]
theorem kL_law_15 : okB mL_law 15 bL_law_15 = true := by decide +kernel
def bL_law_18 : List Instr := [.iload_n 3, .aload_n 0, .arraylength, .iconst 5, .isub, .if_icmp .gt 982]
theorem kL_law_18 : okB mL_law 18 bL_law_18 = true := by decide +kernel
def bL_law_26 : List Instr := [.aload_n 0, .iload_n 3, .iaload, .bipush 31, .iand]
theorem kL_law_26 : okB mL_law 26 bL_law_26 = true := by decide +kernel
def bL_law_168 : List Instr := [.aload_n 1, .aload_n 0, .iload_n 3, .iconst 1, .iadd, .iaload, .aload_n 0, .iload_n 3, .iconst 2, .iadd, .iaload]
theorem kL_law_168 : okB mL_law 168 bL_law_168 = true := by decide +kernel
def bL_law_182 : List Instr := [.aload_n 2, .aload_n 0, .iload_n 3, .iconst 1, .iadd, .iaload, .aload_n 0, .iload_n 3, .iconst 2, .iadd, .iaload]
theorem kL_law_182 : okB mL_law 182 bL_law_182 = true := by decide +kernel
def bL_law_196 : List Instr := [.if_icmp .eq 803]
theorem kL_law_196 : okB mL_law 196 bL_law_196 = true := by decide +kernel
def bL_law_199 : List Instr := [.iconst 0, .ireturn]
theorem kL_law_199 : okB mL_law 199 bL_law_199 = true := by decide +kernel
def bL_law_201 : List Instr := [.aload_n 1, .aload_n 0, .iload_n 3, .iconst 1, .iadd, .iaload]
theorem kL_law_201 : okB mL_law 201 bL_law_201 = true := by decide +kernel
def bL_law_210 : List Instr := [.aload_n 2, .aload_n 0, .iload_n 3, .iconst 1, .iadd, .iaload]
theorem kL_law_210 : okB mL_law 210 bL_law_210 = true := by decide +kernel
def bL_law_219 : List Instr := [.if_icmp .eq 780]
theorem kL_law_219 : okB mL_law 219 bL_law_219 = true := by decide +kernel
def bL_law_222 : List Instr := [.iconst 0, .ireturn]
theorem kL_law_222 : okB mL_law 222 bL_law_222 = true := by decide +kernel
def bL_law_224 : List Instr := [.aload_n 1, .aload_n 0, .iload_n 3, .iconst 1, .iadd, .iaload, .aload_n 0, .iload_n 3, .iconst 2, .iadd, .iaload, .aload_n 0, .iload_n 3, .iconst 3, .iadd, .iaload, .aload_n 0, .iload_n 3, .iconst 4, .iadd, .iaload]
theorem kL_law_224 : okB mL_law 224 bL_law_224 = true := by decide +kernel
def bL_law_248 : List Instr := [.aload_n 2, .aload_n 0, .iload_n 3, .iconst 1, .iadd, .iaload, .aload_n 0, .iload_n 3, .iconst 2, .iadd, .iaload, .aload_n 0, .iload_n 3, .iconst 3, .iadd, .iaload, .aload_n 0, .iload_n 3, .iconst 4, .iadd, .iaload]
theorem kL_law_248 : okB mL_law 248 bL_law_248 = true := by decide +kernel
def bL_law_272 : List Instr := [.if_icmp .eq 727]
theorem kL_law_272 : okB mL_law 272 bL_law_272 = true := by decide +kernel
def bL_law_275 : List Instr := [.iconst 0, .ireturn]
theorem kL_law_275 : okB mL_law 275 bL_law_275 = true := by decide +kernel
def bL_law_277 : List Instr := [.aload_n 1, .aload_n 0, .iload_n 3, .iconst 1, .iadd, .iaload, .aload_n 0, .iload_n 3, .iconst 2, .iadd, .iaload]
theorem kL_law_277 : okB mL_law 277 bL_law_277 = true := by decide +kernel
def bL_law_291 : List Instr := [.aload_n 2, .aload_n 0, .iload_n 3, .iconst 1, .iadd, .iaload, .aload_n 0, .iload_n 3, .iconst 2, .iadd, .iaload]
theorem kL_law_291 : okB mL_law 291 bL_law_291 = true := by decide +kernel
def bL_law_305 : List Instr := [.if_icmp .eq 694]
theorem kL_law_305 : okB mL_law 305 bL_law_305 = true := by decide +kernel
def bL_law_308 : List Instr := [.iconst 0, .ireturn]
theorem kL_law_308 : okB mL_law 308 bL_law_308 = true := by decide +kernel
def bL_law_310 : List Instr := [.aload_n 1, .aload_n 0, .iload_n 3, .iconst 1, .iadd, .iaload, .aload_n 0, .iload_n 3, .iconst 2, .iadd, .iaload]
theorem kL_law_310 : okB mL_law 310 bL_law_310 = true := by decide +kernel
def bL_law_324 : List Instr := [.aload_n 2, .aload_n 0, .iload_n 3, .iconst 1, .iadd, .iaload, .aload_n 0, .iload_n 3, .iconst 2, .iadd, .iaload]
theorem kL_law_324 : okB mL_law 324 bL_law_324 = true := by decide +kernel
def bL_law_338 : List Instr := [.if_icmp .eq 661]
theorem kL_law_338 : okB mL_law 338 bL_law_338 = true := by decide +kernel
def bL_law_341 : List Instr := [.iconst 0, .ireturn]
theorem kL_law_341 : okB mL_law 341 bL_law_341 = true := by decide +kernel
def bL_law_343 : List Instr := [.aload_n 1, .aload_n 0, .iload_n 3, .iconst 1, .iadd, .iaload, .aload_n 0, .iload_n 3, .iconst 2, .iadd, .iaload, .aload_n 0, .iload_n 3, .iconst 3, .iadd, .iaload]
theorem kL_law_343 : okB mL_law 343 bL_law_343 = true := by decide +kernel
def bL_law_362 : List Instr := [.aload_n 2, .aload_n 0, .iload_n 3, .iconst 1, .iadd, .iaload, .aload_n 0, .iload_n 3, .iconst 2, .iadd, .iaload, .aload_n 0, .iload_n 3, .iconst 3, .iadd, .iaload]
theorem kL_law_362 : okB mL_law 362 bL_law_362 = true := by decide +kernel
def bL_law_381 : List Instr := [.if_icmp .eq 618]
theorem kL_law_381 : okB mL_law 381 bL_law_381 = true := by decide +kernel
def bL_law_384 : List Instr := [.iconst 0, .ireturn]
theorem kL_law_384 : okB mL_law 384 bL_law_384 = true := by decide +kernel
def bL_law_386 : List Instr := [.aload_n 1, .aload_n 0, .iload_n 3, .iconst 1, .iadd, .iaload]
theorem kL_law_386 : okB mL_law 386 bL_law_386 = true := by decide +kernel
def bL_law_395 : List Instr := [.aload_n 2, .aload_n 0, .iload_n 3, .iconst 1, .iadd, .iaload]
theorem kL_law_395 : okB mL_law 395 bL_law_395 = true := by decide +kernel
def bL_law_404 : List Instr := [.if_icmp .eq 595]
theorem kL_law_404 : okB mL_law 404 bL_law_404 = true := by decide +kernel
def bL_law_407 : List Instr := [.iconst 0, .ireturn]
theorem kL_law_407 : okB mL_law 407 bL_law_407 = true := by decide +kernel
def bL_law_409 : List Instr := [.aload_n 1, .aload_n 0, .iload_n 3, .iconst 1, .iadd, .iaload, .aload_n 0, .iload_n 3, .iconst 2, .iadd, .iaload]
theorem kL_law_409 : okB mL_law 409 bL_law_409 = true := by decide +kernel
def bL_law_423 : List Instr := [.aload_n 2, .aload_n 0, .iload_n 3, .iconst 1, .iadd, .iaload, .aload_n 0, .iload_n 3, .iconst 2, .iadd, .iaload]
theorem kL_law_423 : okB mL_law 423 bL_law_423 = true := by decide +kernel
def bL_law_437 : List Instr := [.if_icmp .eq 562]
theorem kL_law_437 : okB mL_law 437 bL_law_437 = true := by decide +kernel
def bL_law_440 : List Instr := [.iconst 0, .ireturn]
theorem kL_law_440 : okB mL_law 440 bL_law_440 = true := by decide +kernel
def bL_law_442 : List Instr := [.aload_n 1, .aload_n 0, .iload_n 3, .iconst 1, .iadd, .iaload]
theorem kL_law_442 : okB mL_law 442 bL_law_442 = true := by decide +kernel
def bL_law_451 : List Instr := [.aload_n 2, .aload_n 0, .iload_n 3, .iconst 1, .iadd, .iaload]
theorem kL_law_451 : okB mL_law 451 bL_law_451 = true := by decide +kernel
def bL_law_460 : List Instr := [.if_icmp .eq 539]
theorem kL_law_460 : okB mL_law 460 bL_law_460 = true := by decide +kernel
def bL_law_463 : List Instr := [.iconst 0, .ireturn]
theorem kL_law_463 : okB mL_law 463 bL_law_463 = true := by decide +kernel
def bL_law_465 : List Instr := [.aload_n 1, .aload_n 0, .iload_n 3, .iconst 1, .iadd, .iaload, .aload_n 0, .iload_n 3, .iconst 2, .iadd, .iaload, .aload_n 0, .iload_n 3, .iconst 3, .iadd, .iaload, .aload_n 0, .iload_n 3, .iconst 4, .iadd, .iaload]
theorem kL_law_465 : okB mL_law 465 bL_law_465 = true := by decide +kernel
def bL_law_489 : List Instr := [.aload_n 2, .aload_n 0, .iload_n 3, .iconst 1, .iadd, .iaload, .aload_n 0, .iload_n 3, .iconst 2, .iadd, .iaload, .aload_n 0, .iload_n 3, .iconst 3, .iadd, .iaload, .aload_n 0, .iload_n 3, .iconst 4, .iadd, .iaload]
theorem kL_law_489 : okB mL_law 489 bL_law_489 = true := by decide +kernel
def bL_law_513 : List Instr := [.if_icmp .eq 486]
theorem kL_law_513 : okB mL_law 513 bL_law_513 = true := by decide +kernel
def bL_law_516 : List Instr := [.iconst 0, .ireturn]
theorem kL_law_516 : okB mL_law 516 bL_law_516 = true := by decide +kernel
def bL_law_518 : List Instr := [.aload_n 1, .aload_n 0, .iload_n 3, .iconst 1, .iadd, .iaload, .aload_n 0, .iload_n 3, .iconst 2, .iadd, .iaload, .aload_n 0, .iload_n 3, .iconst 3, .iadd, .iaload]
theorem kL_law_518 : okB mL_law 518 bL_law_518 = true := by decide +kernel
def bL_law_537 : List Instr := [.aload_n 2, .aload_n 0, .iload_n 3, .iconst 1, .iadd, .iaload, .aload_n 0, .iload_n 3, .iconst 2, .iadd, .iaload, .aload_n 0, .iload_n 3, .iconst 3, .iadd, .iaload]
theorem kL_law_537 : okB mL_law 537 bL_law_537 = true := by decide +kernel
def bL_law_556 : List Instr := [.if_icmp .eq 443]
theorem kL_law_556 : okB mL_law 556 bL_law_556 = true := by decide +kernel
def bL_law_559 : List Instr := [.iconst 0, .ireturn]
theorem kL_law_559 : okB mL_law 559 bL_law_559 = true := by decide +kernel
def bL_law_561 : List Instr := [.aload_n 1, .aload_n 0, .iload_n 3, .iconst 1, .iadd, .iaload]
theorem kL_law_561 : okB mL_law 561 bL_law_561 = true := by decide +kernel
def bL_law_570 : List Instr := [.aload_n 2, .aload_n 0, .iload_n 3, .iconst 1, .iadd, .iaload]
theorem kL_law_570 : okB mL_law 570 bL_law_570 = true := by decide +kernel
def bL_law_579 : List Instr := [.if_icmp .eq 420]
theorem kL_law_579 : okB mL_law 579 bL_law_579 = true := by decide +kernel
def bL_law_582 : List Instr := [.iconst 0, .ireturn]
theorem kL_law_582 : okB mL_law 582 bL_law_582 = true := by decide +kernel
def bL_law_584 : List Instr := [.aload_n 1]
theorem kL_law_584 : okB mL_law 584 bL_law_584 = true := by decide +kernel
def bL_law_588 : List Instr := [.aload_n 2]
theorem kL_law_588 : okB mL_law 588 bL_law_588 = true := by decide +kernel
def bL_law_592 : List Instr := [.if_icmp .eq 407]
theorem kL_law_592 : okB mL_law 592 bL_law_592 = true := by decide +kernel
def bL_law_595 : List Instr := [.iconst 0, .ireturn]
theorem kL_law_595 : okB mL_law 595 bL_law_595 = true := by decide +kernel
def bL_law_597 : List Instr := [.aload_n 1, .aload_n 0, .iload_n 3, .iconst 1, .iadd, .iaload]
theorem kL_law_597 : okB mL_law 597 bL_law_597 = true := by decide +kernel
def bL_law_606 : List Instr := [.aload_n 2, .aload_n 0, .iload_n 3, .iconst 1, .iadd, .iaload]
theorem kL_law_606 : okB mL_law 606 bL_law_606 = true := by decide +kernel
def bL_law_615 : List Instr := [.if_icmp .eq 384]
theorem kL_law_615 : okB mL_law 615 bL_law_615 = true := by decide +kernel
def bL_law_618 : List Instr := [.iconst 0, .ireturn]
theorem kL_law_618 : okB mL_law 618 bL_law_618 = true := by decide +kernel
def bL_law_620 : List Instr := [.aload_n 1, .aload_n 0, .iload_n 3, .iconst 1, .iadd, .iaload, .aload_n 0, .iload_n 3, .iconst 2, .iadd, .iaload]
theorem kL_law_620 : okB mL_law 620 bL_law_620 = true := by decide +kernel
def bL_law_634 : List Instr := [.aload_n 2, .aload_n 0, .iload_n 3, .iconst 1, .iadd, .iaload, .aload_n 0, .iload_n 3, .iconst 2, .iadd, .iaload]
theorem kL_law_634 : okB mL_law 634 bL_law_634 = true := by decide +kernel
def bL_law_648 : List Instr := [.if_icmp .eq 351]
theorem kL_law_648 : okB mL_law 648 bL_law_648 = true := by decide +kernel
def bL_law_651 : List Instr := [.iconst 0, .ireturn]
theorem kL_law_651 : okB mL_law 651 bL_law_651 = true := by decide +kernel
def bL_law_653 : List Instr := [.aload_n 1]
theorem kL_law_653 : okB mL_law 653 bL_law_653 = true := by decide +kernel
def bL_law_657 : List Instr := [.aload_n 2]
theorem kL_law_657 : okB mL_law 657 bL_law_657 = true := by decide +kernel
def bL_law_661 : List Instr := [.if_icmp .eq 338]
theorem kL_law_661 : okB mL_law 661 bL_law_661 = true := by decide +kernel
def bL_law_664 : List Instr := [.iconst 0, .ireturn]
theorem kL_law_664 : okB mL_law 664 bL_law_664 = true := by decide +kernel
def bL_law_666 : List Instr := [.aload_n 1]
theorem kL_law_666 : okB mL_law 666 bL_law_666 = true := by decide +kernel
def bL_law_670 : List Instr := [.aload_n 2]
theorem kL_law_670 : okB mL_law 670 bL_law_670 = true := by decide +kernel
def bL_law_674 : List Instr := [.if_icmp .eq 325]
theorem kL_law_674 : okB mL_law 674 bL_law_674 = true := by decide +kernel
def bL_law_677 : List Instr := [.iconst 0, .ireturn]
theorem kL_law_677 : okB mL_law 677 bL_law_677 = true := by decide +kernel
def bL_law_679 : List Instr := [.aload_n 1, .aload_n 0, .iload_n 3, .iconst 1, .iadd, .iaload]
theorem kL_law_679 : okB mL_law 679 bL_law_679 = true := by decide +kernel
def bL_law_688 : List Instr := [.aload_n 2, .aload_n 0, .iload_n 3, .iconst 1, .iadd, .iaload]
theorem kL_law_688 : okB mL_law 688 bL_law_688 = true := by decide +kernel
def bL_law_697 : List Instr := [.if_icmp .eq 302]
theorem kL_law_697 : okB mL_law 697 bL_law_697 = true := by decide +kernel
def bL_law_700 : List Instr := [.iconst 0, .ireturn]
theorem kL_law_700 : okB mL_law 700 bL_law_700 = true := by decide +kernel
def bL_law_702 : List Instr := [.aload_n 1, .aload_n 0, .iload_n 3, .iconst 1, .iadd, .iaload, .aload_n 0, .iload_n 3, .iconst 2, .iadd, .iaload, .aload_n 0, .iload_n 3, .iconst 3, .iadd, .iaload]
theorem kL_law_702 : okB mL_law 702 bL_law_702 = true := by decide +kernel
def bL_law_721 : List Instr := [.aload_n 2, .aload_n 0, .iload_n 3, .iconst 1, .iadd, .iaload, .aload_n 0, .iload_n 3, .iconst 2, .iadd, .iaload, .aload_n 0, .iload_n 3, .iconst 3, .iadd, .iaload]
theorem kL_law_721 : okB mL_law 721 bL_law_721 = true := by decide +kernel
def bL_law_740 : List Instr := [.if_icmp .eq 259]
theorem kL_law_740 : okB mL_law 740 bL_law_740 = true := by decide +kernel
def bL_law_743 : List Instr := [.iconst 0, .ireturn]
theorem kL_law_743 : okB mL_law 743 bL_law_743 = true := by decide +kernel
def bL_law_745 : List Instr := [.aload_n 1, .aload_n 0, .iload_n 3, .iconst 1, .iadd, .iaload]
theorem kL_law_745 : okB mL_law 745 bL_law_745 = true := by decide +kernel
def bL_law_754 : List Instr := [.aload_n 2, .aload_n 0, .iload_n 3, .iconst 1, .iadd, .iaload]
theorem kL_law_754 : okB mL_law 754 bL_law_754 = true := by decide +kernel
def bL_law_763 : List Instr := [.if_icmp .eq 236]
theorem kL_law_763 : okB mL_law 763 bL_law_763 = true := by decide +kernel
def bL_law_766 : List Instr := [.iconst 0, .ireturn]
theorem kL_law_766 : okB mL_law 766 bL_law_766 = true := by decide +kernel
def bL_law_768 : List Instr := [.aload_n 1, .aload_n 0, .iload_n 3, .iconst 1, .iadd, .iaload]
theorem kL_law_768 : okB mL_law 768 bL_law_768 = true := by decide +kernel
def bL_law_777 : List Instr := [.aload_n 2, .aload_n 0, .iload_n 3, .iconst 1, .iadd, .iaload]
theorem kL_law_777 : okB mL_law 777 bL_law_777 = true := by decide +kernel
def bL_law_786 : List Instr := [.if_icmp .eq 213]
theorem kL_law_786 : okB mL_law 786 bL_law_786 = true := by decide +kernel
def bL_law_789 : List Instr := [.iconst 0, .ireturn]
theorem kL_law_789 : okB mL_law 789 bL_law_789 = true := by decide +kernel
def bL_law_791 : List Instr := [.aload_n 1, .aload_n 0, .iload_n 3, .iconst 1, .iadd, .iaload, .i2l, .bipush 32, .lshl, .aload_n 0, .iload_n 3, .iconst 2, .iadd, .iaload, .i2l, .ldc2_w 102, .land, .lor, .aload_n 0, .iload_n 3, .iconst 3, .iadd, .iaload]
theorem kL_law_791 : okB mL_law 791 bL_law_791 = true := by decide +kernel
def bL_law_820 : List Instr := [.aload_n 2, .aload_n 0, .iload_n 3, .iconst 1, .iadd, .iaload, .i2l, .bipush 32, .lshl, .aload_n 0, .iload_n 3, .iconst 2, .iadd, .iaload, .i2l, .ldc2_w 102, .land, .lor, .aload_n 0, .iload_n 3, .iconst 3, .iadd, .iaload]
theorem kL_law_820 : okB mL_law 820 bL_law_820 = true := by decide +kernel
def bL_law_849 : List Instr := [.if_icmp .eq 150]
theorem kL_law_849 : okB mL_law 849 bL_law_849 = true := by decide +kernel
def bL_law_852 : List Instr := [.iconst 0, .ireturn]
theorem kL_law_852 : okB mL_law 852 bL_law_852 = true := by decide +kernel
def bL_law_854 : List Instr := [.aload_n 1]
theorem kL_law_854 : okB mL_law 854 bL_law_854 = true := by decide +kernel
def bL_law_858 : List Instr := [.aload_n 2]
theorem kL_law_858 : okB mL_law 858 bL_law_858 = true := by decide +kernel
def bL_law_862 : List Instr := [.if_icmp .eq 137]
theorem kL_law_862 : okB mL_law 862 bL_law_862 = true := by decide +kernel
def bL_law_865 : List Instr := [.iconst 0, .ireturn]
theorem kL_law_865 : okB mL_law 865 bL_law_865 = true := by decide +kernel
def bL_law_867 : List Instr := [.aload_n 1]
theorem kL_law_867 : okB mL_law 867 bL_law_867 = true := by decide +kernel
def bL_law_871 : List Instr := [.aload_n 2]
theorem kL_law_871 : okB mL_law 871 bL_law_871 = true := by decide +kernel
def bL_law_875 : List Instr := [.if_icmp .eq 124]
theorem kL_law_875 : okB mL_law 875 bL_law_875 = true := by decide +kernel
def bL_law_878 : List Instr := [.iconst 0, .ireturn]
theorem kL_law_878 : okB mL_law 878 bL_law_878 = true := by decide +kernel
def bL_law_880 : List Instr := [.aload_n 1]
theorem kL_law_880 : okB mL_law 880 bL_law_880 = true := by decide +kernel
def bL_law_884 : List Instr := [.aload_n 2]
theorem kL_law_884 : okB mL_law 884 bL_law_884 = true := by decide +kernel
def bL_law_888 : List Instr := [.if_icmp .eq 111]
theorem kL_law_888 : okB mL_law 888 bL_law_888 = true := by decide +kernel
def bL_law_891 : List Instr := [.iconst 0, .ireturn]
theorem kL_law_891 : okB mL_law 891 bL_law_891 = true := by decide +kernel
def bL_law_893 : List Instr := [.aload_n 1, .aload_n 0, .iload_n 3, .iconst 1, .iadd, .iaload]
theorem kL_law_893 : okB mL_law 893 bL_law_893 = true := by decide +kernel
def bL_law_902 : List Instr := [.aload_n 2, .aload_n 0, .iload_n 3, .iconst 1, .iadd, .iaload]
theorem kL_law_902 : okB mL_law 902 bL_law_902 = true := by decide +kernel
def bL_law_911 : List Instr := [.if_icmp .eq 88]
theorem kL_law_911 : okB mL_law 911 bL_law_911 = true := by decide +kernel
def bL_law_914 : List Instr := [.iconst 0, .ireturn]
theorem kL_law_914 : okB mL_law 914 bL_law_914 = true := by decide +kernel
def bL_law_916 : List Instr := [.aload_n 1, .aload_n 0, .iload_n 3, .iconst 1, .iadd, .iaload]
theorem kL_law_916 : okB mL_law 916 bL_law_916 = true := by decide +kernel
def bL_law_925 : List Instr := [.aload_n 2, .aload_n 0, .iload_n 3, .iconst 1, .iadd, .iaload]
theorem kL_law_925 : okB mL_law 925 bL_law_925 = true := by decide +kernel
def bL_law_934 : List Instr := [.if_icmp .eq 65]
theorem kL_law_934 : okB mL_law 934 bL_law_934 = true := by decide +kernel
def bL_law_937 : List Instr := [.iconst 0, .ireturn]
theorem kL_law_937 : okB mL_law 937 bL_law_937 = true := by decide +kernel
def bL_law_939 : List Instr := [.aload_n 1, .aload_n 0, .iload_n 3, .iconst 1, .iadd, .iaload]
theorem kL_law_939 : okB mL_law 939 bL_law_939 = true := by decide +kernel
def bL_law_948 : List Instr := [.aload_n 2, .aload_n 0, .iload_n 3, .iconst 1, .iadd, .iaload]
theorem kL_law_948 : okB mL_law 948 bL_law_948 = true := by decide +kernel
def bL_law_957 : List Instr := [.if_icmp .eq 42]
theorem kL_law_957 : okB mL_law 957 bL_law_957 = true := by decide +kernel
def bL_law_960 : List Instr := [.iconst 0, .ireturn]
theorem kL_law_960 : okB mL_law 960 bL_law_960 = true := by decide +kernel
def bL_law_962 : List Instr := [.aload_n 1, .aload_n 0, .iload_n 3, .iconst 1, .iadd, .iaload]
theorem kL_law_962 : okB mL_law 962 bL_law_962 = true := by decide +kernel
def bL_law_971 : List Instr := [.aload_n 2, .aload_n 0, .iload_n 3, .iconst 1, .iadd, .iaload]
theorem kL_law_971 : okB mL_law 971 bL_law_971 = true := by decide +kernel
def bL_law_980 : List Instr := [.if_icmp .eq 19]
theorem kL_law_980 : okB mL_law 980 bL_law_980 = true := by decide +kernel
def bL_law_983 : List Instr := [.iconst 0, .ireturn]
theorem kL_law_983 : okB mL_law 983 bL_law_983 = true := by decide +kernel
def bL_law_985 : List Instr := [.aload_n 1]
theorem kL_law_985 : okB mL_law 985 bL_law_985 = true := by decide +kernel
def bL_law_989 : List Instr := [.aload_n 2]
theorem kL_law_989 : okB mL_law 989 bL_law_989 = true := by decide +kernel
def bL_law_993 : List Instr := [.lcmp, .ifCond .eq 5]
theorem kL_law_993 : okB mL_law 993 bL_law_993 = true := by decide +kernel
def bL_law_997 : List Instr := [.iconst 0, .ireturn]
theorem kL_law_997 : okB mL_law 997 bL_law_997 = true := by decide +kernel
def bL_law_999 : List Instr := [.iinc 3 5, .goto (-984)]
theorem kL_law_999 : okB mL_law 999 bL_law_999 = true := by decide +kernel
def bL_law_1005 : List Instr := [.iconst 1, .ireturn]
theorem kL_law_1005 : okB mL_law 1005 bL_law_1005 = true := by decide +kernel
theorem dL_law_4 : decode mL_law.2.2.1 4 = .ok (.invokespecial 9, 3) := by decide +kernel
theorem dL_law_12 : decode mL_law.2.2.1 12 = .ok (.invokespecial 12, 3) := by decide +kernel
theorem dL_law_32 : decode mL_law.2.2.1 32 = .ok (.tableswitch 967 0 29 #[136, 169, 192, 245, 278, 311, 354, 377, 410, 433, 486, 529, 552, 565, 588, 621, 634, 647, 670, 713, 736, 759, 822, 835, 848, 861, 884, 907, 930, 953], 136) := by decide +kernel
theorem dL_law_179 : decode mL_law.2.2.1 179 = .ok (.invokevirtual 13, 3) := by decide +kernel
theorem dL_law_193 : decode mL_law.2.2.1 193 = .ok (.invokevirtual 17, 3) := by decide +kernel
theorem dL_law_207 : decode mL_law.2.2.1 207 = .ok (.invokevirtual 18, 3) := by decide +kernel
theorem dL_law_216 : decode mL_law.2.2.1 216 = .ok (.invokevirtual 22, 3) := by decide +kernel
theorem dL_law_245 : decode mL_law.2.2.1 245 = .ok (.invokevirtual 23, 3) := by decide +kernel
theorem dL_law_269 : decode mL_law.2.2.1 269 = .ok (.invokevirtual 27, 3) := by decide +kernel
theorem dL_law_288 : decode mL_law.2.2.1 288 = .ok (.invokevirtual 28, 3) := by decide +kernel
theorem dL_law_302 : decode mL_law.2.2.1 302 = .ok (.invokevirtual 31, 3) := by decide +kernel
theorem dL_law_321 : decode mL_law.2.2.1 321 = .ok (.invokevirtual 32, 3) := by decide +kernel
theorem dL_law_335 : decode mL_law.2.2.1 335 = .ok (.invokevirtual 35, 3) := by decide +kernel
theorem dL_law_359 : decode mL_law.2.2.1 359 = .ok (.invokevirtual 36, 3) := by decide +kernel
theorem dL_law_378 : decode mL_law.2.2.1 378 = .ok (.invokevirtual 40, 3) := by decide +kernel
theorem dL_law_392 : decode mL_law.2.2.1 392 = .ok (.invokevirtual 41, 3) := by decide +kernel
theorem dL_law_401 : decode mL_law.2.2.1 401 = .ok (.invokevirtual 44, 3) := by decide +kernel
theorem dL_law_420 : decode mL_law.2.2.1 420 = .ok (.invokevirtual 45, 3) := by decide +kernel
theorem dL_law_434 : decode mL_law.2.2.1 434 = .ok (.invokevirtual 48, 3) := by decide +kernel
theorem dL_law_448 : decode mL_law.2.2.1 448 = .ok (.invokevirtual 49, 3) := by decide +kernel
theorem dL_law_457 : decode mL_law.2.2.1 457 = .ok (.invokevirtual 52, 3) := by decide +kernel
theorem dL_law_486 : decode mL_law.2.2.1 486 = .ok (.invokevirtual 53, 3) := by decide +kernel
theorem dL_law_510 : decode mL_law.2.2.1 510 = .ok (.invokevirtual 56, 3) := by decide +kernel
theorem dL_law_534 : decode mL_law.2.2.1 534 = .ok (.invokevirtual 57, 3) := by decide +kernel
theorem dL_law_553 : decode mL_law.2.2.1 553 = .ok (.invokevirtual 60, 3) := by decide +kernel
theorem dL_law_567 : decode mL_law.2.2.1 567 = .ok (.invokevirtual 61, 3) := by decide +kernel
theorem dL_law_576 : decode mL_law.2.2.1 576 = .ok (.invokevirtual 64, 3) := by decide +kernel
theorem dL_law_585 : decode mL_law.2.2.1 585 = .ok (.invokevirtual 65, 3) := by decide +kernel
theorem dL_law_589 : decode mL_law.2.2.1 589 = .ok (.invokevirtual 69, 3) := by decide +kernel
theorem dL_law_603 : decode mL_law.2.2.1 603 = .ok (.invokevirtual 70, 3) := by decide +kernel
theorem dL_law_612 : decode mL_law.2.2.1 612 = .ok (.invokevirtual 73, 3) := by decide +kernel
theorem dL_law_631 : decode mL_law.2.2.1 631 = .ok (.invokevirtual 74, 3) := by decide +kernel
theorem dL_law_645 : decode mL_law.2.2.1 645 = .ok (.invokevirtual 77, 3) := by decide +kernel
theorem dL_law_654 : decode mL_law.2.2.1 654 = .ok (.invokevirtual 78, 3) := by decide +kernel
theorem dL_law_658 : decode mL_law.2.2.1 658 = .ok (.invokevirtual 81, 3) := by decide +kernel
theorem dL_law_667 : decode mL_law.2.2.1 667 = .ok (.invokevirtual 82, 3) := by decide +kernel
theorem dL_law_671 : decode mL_law.2.2.1 671 = .ok (.invokevirtual 85, 3) := by decide +kernel
theorem dL_law_685 : decode mL_law.2.2.1 685 = .ok (.invokevirtual 86, 3) := by decide +kernel
theorem dL_law_694 : decode mL_law.2.2.1 694 = .ok (.invokevirtual 89, 3) := by decide +kernel
theorem dL_law_718 : decode mL_law.2.2.1 718 = .ok (.invokevirtual 90, 3) := by decide +kernel
theorem dL_law_737 : decode mL_law.2.2.1 737 = .ok (.invokevirtual 93, 3) := by decide +kernel
theorem dL_law_751 : decode mL_law.2.2.1 751 = .ok (.invokevirtual 94, 3) := by decide +kernel
theorem dL_law_760 : decode mL_law.2.2.1 760 = .ok (.invokevirtual 97, 3) := by decide +kernel
theorem dL_law_774 : decode mL_law.2.2.1 774 = .ok (.invokevirtual 98, 3) := by decide +kernel
theorem dL_law_783 : decode mL_law.2.2.1 783 = .ok (.invokevirtual 101, 3) := by decide +kernel
theorem dL_law_817 : decode mL_law.2.2.1 817 = .ok (.invokevirtual 104, 3) := by decide +kernel
theorem dL_law_846 : decode mL_law.2.2.1 846 = .ok (.invokevirtual 108, 3) := by decide +kernel
theorem dL_law_855 : decode mL_law.2.2.1 855 = .ok (.invokevirtual 109, 3) := by decide +kernel
theorem dL_law_859 : decode mL_law.2.2.1 859 = .ok (.invokevirtual 112, 3) := by decide +kernel
theorem dL_law_868 : decode mL_law.2.2.1 868 = .ok (.invokevirtual 113, 3) := by decide +kernel
theorem dL_law_872 : decode mL_law.2.2.1 872 = .ok (.invokevirtual 116, 3) := by decide +kernel
theorem dL_law_881 : decode mL_law.2.2.1 881 = .ok (.invokevirtual 117, 3) := by decide +kernel
theorem dL_law_885 : decode mL_law.2.2.1 885 = .ok (.invokevirtual 120, 3) := by decide +kernel
theorem dL_law_899 : decode mL_law.2.2.1 899 = .ok (.invokevirtual 121, 3) := by decide +kernel
theorem dL_law_908 : decode mL_law.2.2.1 908 = .ok (.invokevirtual 124, 3) := by decide +kernel
theorem dL_law_922 : decode mL_law.2.2.1 922 = .ok (.invokevirtual 125, 3) := by decide +kernel
theorem dL_law_931 : decode mL_law.2.2.1 931 = .ok (.invokevirtual 128, 3) := by decide +kernel
theorem dL_law_945 : decode mL_law.2.2.1 945 = .ok (.invokevirtual 129, 3) := by decide +kernel
theorem dL_law_954 : decode mL_law.2.2.1 954 = .ok (.invokevirtual 132, 3) := by decide +kernel
theorem dL_law_968 : decode mL_law.2.2.1 968 = .ok (.invokevirtual 133, 3) := by decide +kernel
theorem dL_law_977 : decode mL_law.2.2.1 977 = .ok (.invokevirtual 136, 3) := by decide +kernel
theorem dL_law_986 : decode mL_law.2.2.1 986 = .ok (.invokevirtual 137, 3) := by decide +kernel
theorem dL_law_990 : decode mL_law.2.2.1 990 = .ok (.invokevirtual 141, 3) := by decide +kernel
