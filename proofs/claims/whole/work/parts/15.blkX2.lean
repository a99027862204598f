def bX2_init_0 : List Instr := [.aload_n 0]
theorem kX2_init_0 : okB mX2_init 0 bX2_init_0 = true := by decide +kernel
def bX2_init_4 : List Instr := [.aload_n 0, .bipush 8, .bipush 20]
theorem kX2_init_4 : okB mX2_init 4 bX2_init_4 = true := by decide +kernel
def bX2_init_13 : List Instr := [.putfield 11, .return_]
theorem kX2_init_13 : okB mX2_init 13 bX2_init_13 = true := by decide +kernel
theorem dX2_init_1 : decode mX2_init.2.2.1 1 = .ok (.invokespecial 3, 3) := by decide +kernel
def bX2_keep_0 : List Instr := [.aload_n 1, .aload_n 0, .getfield 11, .aload_n 0, .getfield 16, .aaload]
theorem kX2_keep_0 : okB mX2_keep 0 bX2_keep_0 = true := by decide +kernel
def bX2_keep_13 : List Instr := [.aload_n 0, .aload_n 0, .getfield 16, .iconst 1, .iadd, .bipush 8, .irem, .putfield 16, .aload_n 0, .aload_n 0, .getfield 26, .iconst 1, .iadd, .bipush 8]
theorem kX2_keep_13 : okB mX2_keep 13 bX2_keep_13 = true := by decide +kernel
def bX2_keep_38 : List Instr := [.putfield 26, .return_]
theorem kX2_keep_38 : okB mX2_keep 38 bX2_keep_38 = true := by decide +kernel
theorem dX2_keep_10 : decode mX2_keep.2.2.1 10 = .ok (.invokevirtual 20, 3) := by decide +kernel
theorem dX2_keep_35 : decode mX2_keep.2.2.1 35 = .ok (.invokestatic 29, 3) := by decide +kernel
def bX2_goBack_0 : List Instr := [.aload_n 0, .getfield 26, .ifCond .ne 5]
theorem kX2_goBack_0 : okB mX2_goBack 0 bX2_goBack_0 = true := by decide +kernel
def bX2_goBack_7 : List Instr := [.iconst 0, .ireturn]
theorem kX2_goBack_7 : okB mX2_goBack 7 bX2_goBack_7 = true := by decide +kernel
def bX2_goBack_9 : List Instr := [.aload_n 0, .aload_n 0, .getfield 16, .bipush 8, .iadd, .iconst 1, .isub, .bipush 8, .irem, .putfield 16, .aload_n 0, .dup, .getfield 26, .iconst 1, .isub, .putfield 26, .aload_n 1, .aload_n 0, .getfield 11, .aload_n 0, .getfield 16, .aaload]
theorem kX2_goBack_9 : okB mX2_goBack 9 bX2_goBack_9 = true := by decide +kernel
def bX2_goBack_48 : List Instr := [.iconst 1, .ireturn]
theorem kX2_goBack_48 : okB mX2_goBack 48 bX2_goBack_48 = true := by decide +kernel
theorem dX2_goBack_45 : decode mX2_goBack.2.2.1 45 = .ok (.invokevirtual 35, 3) := by decide +kernel
def bX2_forget_0 : List Instr := [.aload_n 0, .iconst 0, .putfield 26, .return_]
theorem kX2_forget_0 : okB mX2_forget 0 bX2_forget_0 = true := by decide +kernel
def bX2_copy_0 : List Instr := [.iconst 0, .istore_n 2]
theorem kX2_copy_0 : okB mX2_copy 0 bX2_copy_0 = true := by decide +kernel
def bX2_copy_2 : List Instr := [.iload_n 2, .bipush 8, .if_icmp .ge 28]
theorem kX2_copy_2 : okB mX2_copy 2 bX2_copy_2 = true := by decide +kernel
def bX2_copy_8 : List Instr := [.aload_n 1, .getfield 11, .iload_n 2, .aaload, .iconst 0, .aload_n 0, .getfield 11, .iload_n 2, .aaload, .iconst 0, .bipush 20]
theorem kX2_copy_8 : okB mX2_copy 8 bX2_copy_8 = true := by decide +kernel
def bX2_copy_27 : List Instr := [.iinc 2 1, .goto (-28)]
theorem kX2_copy_27 : okB mX2_copy 27 bX2_copy_27 = true := by decide +kernel
def bX2_copy_33 : List Instr := [.aload_n 0, .aload_n 1, .getfield 16, .putfield 16, .aload_n 0, .aload_n 1, .getfield 26, .putfield 26, .return_]
theorem kX2_copy_33 : okB mX2_copy 33 bX2_copy_33 = true := by decide +kernel
theorem dX2_copy_24 : decode mX2_copy.2.2.1 24 = .ok (.invokestatic 38, 3) := by decide +kernel
