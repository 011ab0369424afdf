def yX7_laysAside : MethodName := ⟨RX7, "laysAside", "()V"⟩
def yX7_remembersAside : MethodName := ⟨RX7, "remembersAside", "()V"⟩
def yX7_moves : MethodName := ⟨RX7, "moves", "([I[JI[I[JI)V"⟩
abbrev cX7_moves : ByteArray := prog_9_method_4_code
abbrev cX7_laysAside : ByteArray := prog_9_method_25_code
abbrev cX7_remembersAside : ByteArray := prog_9_method_27_code
abbrev cX7_back : ByteArray := prog_9_method_30_code
abbrev cX7_keep : ByteArray := prog_9_method_29_code
abbrev cX7_keepsPast : ByteArray := prog_9_method_26_code
abbrev cX7_sets : ByteArray := prog_9_method_35_code
abbrev cX7_undo : ByteArray := prog_9_method_28_code
def yX7_back : MethodName := ⟨RX7, "back", "(I)I"⟩
def yX7_keep : MethodName := ⟨RX7, "keep", "(I)I"⟩
def yX7_keepsPast : MethodName := ⟨RX7, "keepsPast", "()V"⟩
def yX7_sets : MethodName := ⟨RX7, "sets", "(III)V"⟩
def yX7_undo : MethodName := ⟨RX7, "undo", "()I"⟩
theorem dX7_back_0 : decode cX7_back 0 = .ok (.iload_n 1, 1) := by decide +kernel
theorem dX7_back_1 : decode cX7_back 1 = .ok (.i2l, 1) := by decide +kernel
theorem dX7_back_2 : decode cX7_back 2 = .ok (.lconst 0, 1) := by decide +kernel
theorem dX7_back_3 : decode cX7_back 3 = .ok (.lconst 1, 1) := by decide +kernel
theorem dX7_back_4 : decode cX7_back 4 = .ok (.invokestatic 96, 3) := by decide +kernel
theorem dX7_back_7 : decode cX7_back 7 = .ok (.ifCond .ne 5, 3) := by decide +kernel
theorem dX7_back_10 : decode cX7_back 10 = .ok (.iconst (-1), 1) := by decide +kernel
theorem dX7_back_11 : decode cX7_back 11 = .ok (.ireturn, 1) := by decide +kernel
theorem dX7_back_12 : decode cX7_back 12 = .ok (.aload_n 0, 1) := by decide +kernel
theorem dX7_back_13 : decode cX7_back 13 = .ok (.getfield 41, 3) := by decide +kernel
theorem dX7_back_16 : decode cX7_back 16 = .ok (.iload_n 1, 1) := by decide +kernel
theorem dX7_back_17 : decode cX7_back 17 = .ok (.baload, 1) := by decide +kernel
theorem dX7_back_18 : decode cX7_back 18 = .ok (.ifCond .ne 6, 3) := by decide +kernel
theorem dX7_back_21 : decode cX7_back 21 = .ok (.bipush (-2), 2) := by decide +kernel
theorem dX7_back_23 : decode cX7_back 23 = .ok (.ireturn, 1) := by decide +kernel
theorem dX7_back_24 : decode cX7_back 24 = .ok (.aload_n 0, 1) := by decide +kernel
theorem dX7_back_25 : decode cX7_back 25 = .ok (.getfield 22, 3) := by decide +kernel
theorem dX7_back_28 : decode cX7_back 28 = .ok (.aload_n 0, 1) := by decide +kernel
theorem dX7_back_29 : decode cX7_back 29 = .ok (.getfield 38, 3) := by decide +kernel
theorem dX7_back_32 : decode cX7_back 32 = .ok (.iload_n 1, 1) := by decide +kernel
theorem dX7_back_33 : decode cX7_back 33 = .ok (.aload_n 0, 1) := by decide +kernel
theorem dX7_back_34 : decode cX7_back 34 = .ok (.getfield 9, 3) := by decide +kernel
theorem dX7_back_37 : decode cX7_back 37 = .ok (.aload_n 0, 1) := by decide +kernel
theorem dX7_back_38 : decode cX7_back 38 = .ok (.getfield 25, 3) := by decide +kernel
theorem dX7_back_41 : decode cX7_back 41 = .ok (.iconst 0, 1) := by decide +kernel
theorem dX7_back_42 : decode cX7_back 42 = .ok (.invokestatic 184, 3) := by decide +kernel
theorem dX7_back_45 : decode cX7_back 45 = .ok (.aload_n 0, 1) := by decide +kernel
theorem dX7_back_46 : decode cX7_back 46 = .ok (.iconst 0, 1) := by decide +kernel
theorem dX7_back_47 : decode cX7_back 47 = .ok (.putfield 187, 3) := by decide +kernel
theorem dX7_back_50 : decode cX7_back 50 = .ok (.aload_n 0, 1) := by decide +kernel
theorem dX7_back_51 : decode cX7_back 51 = .ok (.getfield 9, 3) := by decide +kernel
theorem dX7_back_54 : decode cX7_back 54 = .ok (.iconst 1, 1) := by decide +kernel
theorem dX7_back_55 : decode cX7_back 55 = .ok (.iaload, 1) := by decide +kernel
theorem dX7_back_56 : decode cX7_back 56 = .ok (.ireturn, 1) := by decide +kernel
theorem dX7_keep_0 : decode cX7_keep 0 = .ok (.iload_n 1, 1) := by decide +kernel
theorem dX7_keep_1 : decode cX7_keep 1 = .ok (.i2l, 1) := by decide +kernel
theorem dX7_keep_2 : decode cX7_keep 2 = .ok (.lconst 0, 1) := by decide +kernel
theorem dX7_keep_3 : decode cX7_keep 3 = .ok (.lconst 1, 1) := by decide +kernel
theorem dX7_keep_4 : decode cX7_keep 4 = .ok (.invokestatic 96, 3) := by decide +kernel
theorem dX7_keep_7 : decode cX7_keep 7 = .ok (.ifCond .ne 5, 3) := by decide +kernel
theorem dX7_keep_10 : decode cX7_keep 10 = .ok (.iconst (-1), 1) := by decide +kernel
theorem dX7_keep_11 : decode cX7_keep 11 = .ok (.ireturn, 1) := by decide +kernel
theorem dX7_keep_12 : decode cX7_keep 12 = .ok (.aload_n 0, 1) := by decide +kernel
theorem dX7_keep_13 : decode cX7_keep 13 = .ok (.getfield 9, 3) := by decide +kernel
theorem dX7_keep_16 : decode cX7_keep 16 = .ok (.aload_n 0, 1) := by decide +kernel
theorem dX7_keep_17 : decode cX7_keep 17 = .ok (.getfield 25, 3) := by decide +kernel
theorem dX7_keep_20 : decode cX7_keep 20 = .ok (.iconst 0, 1) := by decide +kernel
theorem dX7_keep_21 : decode cX7_keep 21 = .ok (.aload_n 0, 1) := by decide +kernel
theorem dX7_keep_22 : decode cX7_keep 22 = .ok (.getfield 22, 3) := by decide +kernel
theorem dX7_keep_25 : decode cX7_keep 25 = .ok (.aload_n 0, 1) := by decide +kernel
theorem dX7_keep_26 : decode cX7_keep 26 = .ok (.getfield 38, 3) := by decide +kernel
theorem dX7_keep_29 : decode cX7_keep 29 = .ok (.iload_n 1, 1) := by decide +kernel
theorem dX7_keep_30 : decode cX7_keep 30 = .ok (.invokestatic 184, 3) := by decide +kernel
theorem dX7_keep_33 : decode cX7_keep 33 = .ok (.aload_n 0, 1) := by decide +kernel
theorem dX7_keep_34 : decode cX7_keep 34 = .ok (.getfield 41, 3) := by decide +kernel
theorem dX7_keep_37 : decode cX7_keep 37 = .ok (.iload_n 1, 1) := by decide +kernel
theorem dX7_keep_38 : decode cX7_keep 38 = .ok (.iconst 1, 1) := by decide +kernel
theorem dX7_keep_39 : decode cX7_keep 39 = .ok (.bastore, 1) := by decide +kernel
theorem dX7_keep_40 : decode cX7_keep 40 = .ok (.aload_n 0, 1) := by decide +kernel
theorem dX7_keep_41 : decode cX7_keep 41 = .ok (.getfield 9, 3) := by decide +kernel
theorem dX7_keep_44 : decode cX7_keep 44 = .ok (.iconst 1, 1) := by decide +kernel
theorem dX7_keep_45 : decode cX7_keep 45 = .ok (.iaload, 1) := by decide +kernel
theorem dX7_keep_46 : decode cX7_keep 46 = .ok (.ireturn, 1) := by decide +kernel
theorem dX7_keepsPast_0 : decode cX7_keepsPast 0 = .ok (.aload_n 0, 1) := by decide +kernel
theorem dX7_keepsPast_1 : decode cX7_keepsPast 1 = .ok (.invokevirtual 190, 3) := by decide +kernel
theorem dX7_keepsPast_4 : decode cX7_keepsPast 4 = .ok (.aload_n 0, 1) := by decide +kernel
theorem dX7_keepsPast_5 : decode cX7_keepsPast 5 = .ok (.invokevirtual 193, 3) := by decide +kernel
theorem dX7_keepsPast_8 : decode cX7_keepsPast 8 = .ok (.return_, 1) := by decide +kernel
theorem dX7_laysAside_0 : decode cX7_laysAside 0 = .ok (.aload_n 0, 1) := by decide +kernel
theorem dX7_laysAside_1 : decode cX7_laysAside 1 = .ok (.getfield 9, 3) := by decide +kernel
theorem dX7_laysAside_4 : decode cX7_laysAside 4 = .ok (.aload_n 0, 1) := by decide +kernel
theorem dX7_laysAside_5 : decode cX7_laysAside 5 = .ok (.getfield 25, 3) := by decide +kernel
theorem dX7_laysAside_8 : decode cX7_laysAside 8 = .ok (.iconst 0, 1) := by decide +kernel
theorem dX7_laysAside_9 : decode cX7_laysAside 9 = .ok (.aload_n 0, 1) := by decide +kernel
theorem dX7_laysAside_10 : decode cX7_laysAside 10 = .ok (.getfield 16, 3) := by decide +kernel
theorem dX7_laysAside_13 : decode cX7_laysAside 13 = .ok (.aload_n 0, 1) := by decide +kernel
theorem dX7_laysAside_14 : decode cX7_laysAside 14 = .ok (.getfield 32, 3) := by decide +kernel
theorem dX7_laysAside_17 : decode cX7_laysAside 17 = .ok (.iconst 0, 1) := by decide +kernel
theorem dX7_laysAside_18 : decode cX7_laysAside 18 = .ok (.invokestatic 184, 3) := by decide +kernel
theorem dX7_laysAside_21 : decode cX7_laysAside 21 = .ok (.return_, 1) := by decide +kernel
theorem dX7_moves_0 : decode cX7_moves 0 = .ok (.iconst 0, 1) := by decide +kernel
theorem dX7_moves_1 : decode cX7_moves 1 = .ok (.istore 6, 2) := by decide +kernel
theorem dX7_moves_3 : decode cX7_moves 3 = .ok (.iload 6, 2) := by decide +kernel
theorem dX7_moves_5 : decode cX7_moves 5 = .ok (.bipush 99, 2) := by decide +kernel
theorem dX7_moves_7 : decode cX7_moves 7 = .ok (.if_icmp .ge 28, 3) := by decide +kernel
theorem dX7_moves_10 : decode cX7_moves 10 = .ok (.aload_n 3, 1) := by decide +kernel
theorem dX7_moves_11 : decode cX7_moves 11 = .ok (.bipush 99, 2) := by decide +kernel
theorem dX7_moves_13 : decode cX7_moves 13 = .ok (.iload 5, 2) := by decide +kernel
theorem dX7_moves_15 : decode cX7_moves 15 = .ok (.imul, 1) := by decide +kernel
theorem dX7_moves_16 : decode cX7_moves 16 = .ok (.iload 6, 2) := by decide +kernel
theorem dX7_moves_18 : decode cX7_moves 18 = .ok (.iadd, 1) := by decide +kernel
theorem dX7_moves_19 : decode cX7_moves 19 = .ok (.aload_n 0, 1) := by decide +kernel
theorem dX7_moves_20 : decode cX7_moves 20 = .ok (.bipush 99, 2) := by decide +kernel
theorem dX7_moves_22 : decode cX7_moves 22 = .ok (.iload_n 2, 1) := by decide +kernel
theorem dX7_moves_23 : decode cX7_moves 23 = .ok (.imul, 1) := by decide +kernel
theorem dX7_moves_24 : decode cX7_moves 24 = .ok (.iload 6, 2) := by decide +kernel
theorem dX7_moves_26 : decode cX7_moves 26 = .ok (.iadd, 1) := by decide +kernel
theorem dX7_moves_27 : decode cX7_moves 27 = .ok (.iaload, 1) := by decide +kernel
theorem dX7_moves_28 : decode cX7_moves 28 = .ok (.iastore, 1) := by decide +kernel
theorem dX7_moves_29 : decode cX7_moves 29 = .ok (.iinc 6 1, 3) := by decide +kernel
theorem dX7_moves_32 : decode cX7_moves 32 = .ok (.goto (-29), 3) := by decide +kernel
theorem dX7_moves_35 : decode cX7_moves 35 = .ok (.iconst 0, 1) := by decide +kernel
theorem dX7_moves_36 : decode cX7_moves 36 = .ok (.istore 6, 2) := by decide +kernel
theorem dX7_moves_38 : decode cX7_moves 38 = .ok (.iload 6, 2) := by decide +kernel
theorem dX7_moves_40 : decode cX7_moves 40 = .ok (.sipush 640, 3) := by decide +kernel
theorem dX7_moves_43 : decode cX7_moves 43 = .ok (.if_icmp .ge 31, 3) := by decide +kernel
theorem dX7_moves_46 : decode cX7_moves 46 = .ok (.aload 4, 2) := by decide +kernel
theorem dX7_moves_48 : decode cX7_moves 48 = .ok (.sipush 640, 3) := by decide +kernel
theorem dX7_moves_51 : decode cX7_moves 51 = .ok (.iload 5, 2) := by decide +kernel
theorem dX7_moves_53 : decode cX7_moves 53 = .ok (.imul, 1) := by decide +kernel
theorem dX7_moves_54 : decode cX7_moves 54 = .ok (.iload 6, 2) := by decide +kernel
theorem dX7_moves_56 : decode cX7_moves 56 = .ok (.iadd, 1) := by decide +kernel
theorem dX7_moves_57 : decode cX7_moves 57 = .ok (.aload_n 1, 1) := by decide +kernel
theorem dX7_moves_58 : decode cX7_moves 58 = .ok (.sipush 640, 3) := by decide +kernel
theorem dX7_moves_61 : decode cX7_moves 61 = .ok (.iload_n 2, 1) := by decide +kernel
theorem dX7_moves_62 : decode cX7_moves 62 = .ok (.imul, 1) := by decide +kernel
theorem dX7_moves_63 : decode cX7_moves 63 = .ok (.iload 6, 2) := by decide +kernel
theorem dX7_moves_65 : decode cX7_moves 65 = .ok (.iadd, 1) := by decide +kernel
theorem dX7_moves_66 : decode cX7_moves 66 = .ok (.laload, 1) := by decide +kernel
theorem dX7_moves_67 : decode cX7_moves 67 = .ok (.lastore, 1) := by decide +kernel
theorem dX7_moves_68 : decode cX7_moves 68 = .ok (.iinc 6 1, 3) := by decide +kernel
theorem dX7_moves_71 : decode cX7_moves 71 = .ok (.goto (-33), 3) := by decide +kernel
theorem dX7_moves_74 : decode cX7_moves 74 = .ok (.return_, 1) := by decide +kernel
theorem dX7_remembersAside_0 : decode cX7_remembersAside 0 = .ok (.aload_n 0, 1) := by decide +kernel
theorem dX7_remembersAside_1 : decode cX7_remembersAside 1 = .ok (.getfield 187, 3) := by decide +kernel
theorem dX7_remembersAside_4 : decode cX7_remembersAside 4 = .ok (.bipush 10, 2) := by decide +kernel
theorem dX7_remembersAside_6 : decode cX7_remembersAside 6 = .ok (.if_icmp .ne 50, 3) := by decide +kernel
theorem dX7_remembersAside_9 : decode cX7_remembersAside 9 = .ok (.iconst 1, 1) := by decide +kernel
theorem dX7_remembersAside_10 : decode cX7_remembersAside 10 = .ok (.istore_n 1, 1) := by decide +kernel
theorem dX7_remembersAside_11 : decode cX7_remembersAside 11 = .ok (.iload_n 1, 1) := by decide +kernel
theorem dX7_remembersAside_12 : decode cX7_remembersAside 12 = .ok (.bipush 10, 2) := by decide +kernel
theorem dX7_remembersAside_14 : decode cX7_remembersAside 14 = .ok (.if_icmp .ge 32, 3) := by decide +kernel
theorem dX7_remembersAside_17 : decode cX7_remembersAside 17 = .ok (.aload_n 0, 1) := by decide +kernel
theorem dX7_remembersAside_18 : decode cX7_remembersAside 18 = .ok (.getfield 19, 3) := by decide +kernel
theorem dX7_remembersAside_21 : decode cX7_remembersAside 21 = .ok (.aload_n 0, 1) := by decide +kernel
theorem dX7_remembersAside_22 : decode cX7_remembersAside 22 = .ok (.getfield 35, 3) := by decide +kernel
theorem dX7_remembersAside_25 : decode cX7_remembersAside 25 = .ok (.iload_n 1, 1) := by decide +kernel
theorem dX7_remembersAside_26 : decode cX7_remembersAside 26 = .ok (.aload_n 0, 1) := by decide +kernel
theorem dX7_remembersAside_27 : decode cX7_remembersAside 27 = .ok (.getfield 19, 3) := by decide +kernel
theorem dX7_remembersAside_30 : decode cX7_remembersAside 30 = .ok (.aload_n 0, 1) := by decide +kernel
theorem dX7_remembersAside_31 : decode cX7_remembersAside 31 = .ok (.getfield 35, 3) := by decide +kernel
theorem dX7_remembersAside_34 : decode cX7_remembersAside 34 = .ok (.iload_n 1, 1) := by decide +kernel
theorem dX7_remembersAside_35 : decode cX7_remembersAside 35 = .ok (.iconst 1, 1) := by decide +kernel
theorem dX7_remembersAside_36 : decode cX7_remembersAside 36 = .ok (.isub, 1) := by decide +kernel
theorem dX7_remembersAside_37 : decode cX7_remembersAside 37 = .ok (.invokestatic 184, 3) := by decide +kernel
theorem dX7_remembersAside_40 : decode cX7_remembersAside 40 = .ok (.iinc 1 1, 3) := by decide +kernel
theorem dX7_remembersAside_43 : decode cX7_remembersAside 43 = .ok (.goto (-32), 3) := by decide +kernel
theorem dX7_remembersAside_46 : decode cX7_remembersAside 46 = .ok (.aload_n 0, 1) := by decide +kernel
theorem dX7_remembersAside_47 : decode cX7_remembersAside 47 = .ok (.dup, 1) := by decide +kernel
theorem dX7_remembersAside_48 : decode cX7_remembersAside 48 = .ok (.getfield 187, 3) := by decide +kernel
theorem dX7_remembersAside_51 : decode cX7_remembersAside 51 = .ok (.iconst 1, 1) := by decide +kernel
theorem dX7_remembersAside_52 : decode cX7_remembersAside 52 = .ok (.isub, 1) := by decide +kernel
theorem dX7_remembersAside_53 : decode cX7_remembersAside 53 = .ok (.putfield 187, 3) := by decide +kernel
theorem dX7_remembersAside_56 : decode cX7_remembersAside 56 = .ok (.aload_n 0, 1) := by decide +kernel
theorem dX7_remembersAside_57 : decode cX7_remembersAside 57 = .ok (.getfield 16, 3) := by decide +kernel
theorem dX7_remembersAside_60 : decode cX7_remembersAside 60 = .ok (.aload_n 0, 1) := by decide +kernel
theorem dX7_remembersAside_61 : decode cX7_remembersAside 61 = .ok (.getfield 32, 3) := by decide +kernel
theorem dX7_remembersAside_64 : decode cX7_remembersAside 64 = .ok (.iconst 0, 1) := by decide +kernel
theorem dX7_remembersAside_65 : decode cX7_remembersAside 65 = .ok (.aload_n 0, 1) := by decide +kernel
theorem dX7_remembersAside_66 : decode cX7_remembersAside 66 = .ok (.getfield 19, 3) := by decide +kernel
theorem dX7_remembersAside_69 : decode cX7_remembersAside 69 = .ok (.aload_n 0, 1) := by decide +kernel
theorem dX7_remembersAside_70 : decode cX7_remembersAside 70 = .ok (.getfield 35, 3) := by decide +kernel
theorem dX7_remembersAside_73 : decode cX7_remembersAside 73 = .ok (.aload_n 0, 1) := by decide +kernel
theorem dX7_remembersAside_74 : decode cX7_remembersAside 74 = .ok (.getfield 187, 3) := by decide +kernel
theorem dX7_remembersAside_77 : decode cX7_remembersAside 77 = .ok (.invokestatic 184, 3) := by decide +kernel
theorem dX7_remembersAside_80 : decode cX7_remembersAside 80 = .ok (.aload_n 0, 1) := by decide +kernel
theorem dX7_remembersAside_81 : decode cX7_remembersAside 81 = .ok (.dup, 1) := by decide +kernel
theorem dX7_remembersAside_82 : decode cX7_remembersAside 82 = .ok (.getfield 187, 3) := by decide +kernel
theorem dX7_remembersAside_85 : decode cX7_remembersAside 85 = .ok (.iconst 1, 1) := by decide +kernel
theorem dX7_remembersAside_86 : decode cX7_remembersAside 86 = .ok (.iadd, 1) := by decide +kernel
theorem dX7_remembersAside_87 : decode cX7_remembersAside 87 = .ok (.putfield 187, 3) := by decide +kernel
theorem dX7_remembersAside_90 : decode cX7_remembersAside 90 = .ok (.return_, 1) := by decide +kernel
theorem dX7_sets_0 : decode cX7_sets 0 = .ok (.aload_n 0, 1) := by decide +kernel
theorem dX7_sets_1 : decode cX7_sets 1 = .ok (.getfield 9, 3) := by decide +kernel
theorem dX7_sets_4 : decode cX7_sets 4 = .ok (.bipush 19, 2) := by decide +kernel
theorem dX7_sets_6 : decode cX7_sets 6 = .ok (.bipush 8, 2) := by decide +kernel
theorem dX7_sets_8 : decode cX7_sets 8 = .ok (.iload_n 1, 1) := by decide +kernel
theorem dX7_sets_9 : decode cX7_sets 9 = .ok (.imul, 1) := by decide +kernel
theorem dX7_sets_10 : decode cX7_sets 10 = .ok (.iadd, 1) := by decide +kernel
theorem dX7_sets_11 : decode cX7_sets 11 = .ok (.iload_n 2, 1) := by decide +kernel
theorem dX7_sets_12 : decode cX7_sets 12 = .ok (.iadd, 1) := by decide +kernel
theorem dX7_sets_13 : decode cX7_sets 13 = .ok (.iload_n 3, 1) := by decide +kernel
theorem dX7_sets_14 : decode cX7_sets 14 = .ok (.iastore, 1) := by decide +kernel
theorem dX7_sets_15 : decode cX7_sets 15 = .ok (.return_, 1) := by decide +kernel
theorem dX7_undo_0 : decode cX7_undo 0 = .ok (.aload_n 0, 1) := by decide +kernel
theorem dX7_undo_1 : decode cX7_undo 1 = .ok (.getfield 187, 3) := by decide +kernel
theorem dX7_undo_4 : decode cX7_undo 4 = .ok (.ifCond .ne 5, 3) := by decide +kernel
theorem dX7_undo_7 : decode cX7_undo 7 = .ok (.iconst (-1), 1) := by decide +kernel
theorem dX7_undo_8 : decode cX7_undo 8 = .ok (.ireturn, 1) := by decide +kernel
theorem dX7_undo_9 : decode cX7_undo 9 = .ok (.aload_n 0, 1) := by decide +kernel
theorem dX7_undo_10 : decode cX7_undo 10 = .ok (.dup, 1) := by decide +kernel
theorem dX7_undo_11 : decode cX7_undo 11 = .ok (.getfield 187, 3) := by decide +kernel
theorem dX7_undo_14 : decode cX7_undo 14 = .ok (.iconst 1, 1) := by decide +kernel
theorem dX7_undo_15 : decode cX7_undo 15 = .ok (.isub, 1) := by decide +kernel
theorem dX7_undo_16 : decode cX7_undo 16 = .ok (.putfield 187, 3) := by decide +kernel
theorem dX7_undo_19 : decode cX7_undo 19 = .ok (.aload_n 0, 1) := by decide +kernel
theorem dX7_undo_20 : decode cX7_undo 20 = .ok (.getfield 19, 3) := by decide +kernel
theorem dX7_undo_23 : decode cX7_undo 23 = .ok (.aload_n 0, 1) := by decide +kernel
theorem dX7_undo_24 : decode cX7_undo 24 = .ok (.getfield 35, 3) := by decide +kernel
theorem dX7_undo_27 : decode cX7_undo 27 = .ok (.aload_n 0, 1) := by decide +kernel
theorem dX7_undo_28 : decode cX7_undo 28 = .ok (.getfield 187, 3) := by decide +kernel
theorem dX7_undo_31 : decode cX7_undo 31 = .ok (.aload_n 0, 1) := by decide +kernel
theorem dX7_undo_32 : decode cX7_undo 32 = .ok (.getfield 9, 3) := by decide +kernel
theorem dX7_undo_35 : decode cX7_undo 35 = .ok (.aload_n 0, 1) := by decide +kernel
theorem dX7_undo_36 : decode cX7_undo 36 = .ok (.getfield 25, 3) := by decide +kernel
theorem dX7_undo_39 : decode cX7_undo 39 = .ok (.iconst 0, 1) := by decide +kernel
theorem dX7_undo_40 : decode cX7_undo 40 = .ok (.invokestatic 184, 3) := by decide +kernel
theorem dX7_undo_43 : decode cX7_undo 43 = .ok (.aload_n 0, 1) := by decide +kernel
theorem dX7_undo_44 : decode cX7_undo 44 = .ok (.getfield 187, 3) := by decide +kernel
theorem dX7_undo_47 : decode cX7_undo 47 = .ok (.ireturn, 1) := by decide +kernel
set_option maxRecDepth 100000 in
theorem pq27 : Cond.selects RX7 yX7_laysAside yX7_laysAside ∈ pw := pw_mem (i := 27) (by decide +kernel) rfl
set_option maxRecDepth 100000 in
theorem pq28 : Cond.selects RX7 yX7_remembersAside yX7_remembersAside ∈ pw := pw_mem (i := 28) (by decide +kernel) rfl
set_option maxRecDepth 100000 in
theorem pq1117 : Cond.fieldLink RX7 16 "MaskTouchModel" "aside" "[I" ∈ pw := pw_mem (i := 1117) (by decide +kernel) rfl
set_option maxRecDepth 100000 in
theorem pq1118 : Cond.fieldLink RX7 19 "MaskTouchModel" "past" "[I" ∈ pw := pw_mem (i := 1118) (by decide +kernel) rfl
set_option maxRecDepth 100000 in
theorem pq1119 : Cond.fieldLink RX7 22 "MaskTouchModel" "shelf" "[I" ∈ pw := pw_mem (i := 1119) (by decide +kernel) rfl
set_option maxRecDepth 100000 in
theorem pq1122 : Cond.fieldLink RX7 32 "MaskTouchModel" "asideDots" "[J" ∈ pw := pw_mem (i := 1122) (by decide +kernel) rfl
set_option maxRecDepth 100000 in
theorem pq1123 : Cond.fieldLink RX7 35 "MaskTouchModel" "pastDots" "[J" ∈ pw := pw_mem (i := 1123) (by decide +kernel) rfl
set_option maxRecDepth 100000 in
theorem pq1124 : Cond.fieldLink RX7 38 "MaskTouchModel" "shelfDots" "[J" ∈ pw := pw_mem (i := 1124) (by decide +kernel) rfl
set_option maxRecDepth 100000 in
theorem pq1125 : Cond.fieldLink RX7 41 "MaskTouchModel" "isKept" "[Z" ∈ pw := pw_mem (i := 1125) (by decide +kernel) rfl
set_option maxRecDepth 100000 in
theorem pq1126 : Cond.fieldLink RX7 187 "MaskTouchModel" "pastMany" "I" ∈ pw := pw_mem (i := 1126) (by decide +kernel) rfl
set_option maxRecDepth 100000 in
theorem pq1291 : Cond.methodLink RX7 184 yX7_moves ∈ pw := pw_mem (i := 1291) (by decide +kernel) rfl
set_option maxRecDepth 100000 in
theorem pq1292 : Cond.static yX7_moves ∈ pw := pw_mem (i := 1292) (by decide +kernel) rfl
set_option maxRecDepth 100000 in
theorem pq1293 : Cond.code yX7_moves cX7_moves 7 none ∈ pw := pw_mem (i := 1293) (by rfl) rfl
set_option maxRecDepth 100000 in
theorem pq1328 : Cond.methodLink RX7 190 yX7_laysAside ∈ pw := pw_mem (i := 1328) (by decide +kernel) rfl
set_option maxRecDepth 100000 in
theorem pq1330 : Cond.instanceMethod yX7_laysAside ∈ pw := pw_mem (i := 1330) (by decide +kernel) rfl
set_option maxRecDepth 100000 in
theorem pq1331 : Cond.code yX7_laysAside cX7_laysAside 1 none ∈ pw := pw_mem (i := 1331) (by rfl) rfl
set_option maxRecDepth 100000 in
theorem pq1332 : Cond.methodLink RX7 193 yX7_remembersAside ∈ pw := pw_mem (i := 1332) (by decide +kernel) rfl
set_option maxRecDepth 100000 in
theorem pq1334 : Cond.instanceMethod yX7_remembersAside ∈ pw := pw_mem (i := 1334) (by decide +kernel) rfl
set_option maxRecDepth 100000 in
theorem pq1335 : Cond.code yX7_remembersAside cX7_remembersAside 2 none ∈ pw := pw_mem (i := 1335) (by rfl) rfl
theorem rng_1 {B : Int} {b w : Int32} {v : Int} (hw : 1 ≤ w.toInt ∧ w.toInt ≤ 2) (hb : 0 ≤ b.toInt) (hv : -B ≤ v ∧ v ≤ B) : rng B (19 + 8 * b.toInt.toNat + w.toInt.toNat) v := by
  unfold rng; omega
theorem rng_3 {B : Int} {b w : Int32} {v : Int} (hw : 3 ≤ w.toInt ∧ w.toInt ≤ 5) (hb : 0 ≤ b.toInt) : rng B (19 + 8 * b.toInt.toNat + w.toInt.toNat) v := by
  unfold rng; omega
theorem rng_6 {B : Int} {b w : Int32} {v : Int} (hw : 6 ≤ w.toInt ∧ w.toInt ≤ 7) (hb : 0 ≤ b.toInt) (hv : -20 ≤ v ∧ v ≤ 20) : rng B (19 + 8 * b.toInt.toNat + w.toInt.toNat) v := by
  unfold rng; omega

set_option maxHeartbeats 4000000 in
set_option maxRecDepth 100000 in
theorem s_X7_sets (l : Launch) (dC : Nat → ClassId) (dI : Nat → Nat → Nat) (cs : Nat → ClassId) (L : List Nat) (K G : Nat → Nat) (Q : Nat → Nat → Option Nat) (hQ : Sv L K G Q) (x0 m0 : Nat) (tx : GT) (tm : GT × Int) (sz : Nat) (I : Nat → Nat → Int32) (J : Nat → Nat → Int64) (hI : Iv L K x0 m0 tx tm I) (p0 : Nat) (hLp0 : p0 ∈ L) (hKp0 : K p0 = 7) (p1 : Int32) (bp1 : (0) ≤ p1.toInt ∧ p1.toInt ≤ 9) (p2 : Int32) (bp2 : (0) ≤ p2.toInt ∧ p2.toInt ≤ 7) (p3 : Int32) (hrg : rng tm.2 (19 + 8 * p1.toInt.toNat + p2.toInt.toNat) p3.toInt) : Met l yX7_sets (.code yX7_sets cX7_sets 4 none :: pw) ({ frames := 0, cells := 0, slots := 0, locals := 0 }) (sP (dC, dI) cs [.ref p0, .int p1, .int p2, .int p3] sz L K I J Q) (va_Qv (fun (_ : Unit) => True) (fun _ t => sB (dC, dI) cs L K Q (fun I1 J1 => Iv L K x0 m0 tx tm I1 ∧ (∀ b, ¬ (K b = 18) → I1 b = I b) ∧ (I1 ((Q p0 0).getD 0) = upd (I ((Q p0 0).getD 0)) (19 + 8 * p1.toInt.toNat + p2.toInt.toNat) p3) ∧ (∀ b, K b = 0 ∨ K b = 1 ∨ K b = 3 ∨ K b = 6 → I1 b = I b) ∧ J1 = J) t) (fun q => q ∈ L ∨ sz ≤ q)) 0 0 (fun q => q ∈ L ∨ sz ≤ q) := by
  refine Met.ofW (cc := cX7_sets) (maxL := 4) (ret := none) (by decide +kernel) rfl ?_
  intro p e s m args below meth c s₁ B hml hv
  obtain ⟨rfl, hsz, hP, hK, hD0, hN⟩ := hv
  have hx := B.exec
  have hb := B.bytes
  have hr := B.returns
  have hts := fun w (h : w ∈ pw) => atoms_spec (ws := Cond.code yX7_sets cX7_sets 4 none :: pw) B.pre w (List.mem_cons_of_mem _ h)
  have hown : s.vm.findClass RX7 = some m.cls := findClass_of_methodNamed B.named
  have hlocks := B.notSynchronized
  subst hsz
  have hBB : 999 ≤ tm.2 ∧ tm.2 ≤ 6000000 := hI.2.2.2.2.1
  have dn_I : (∀ b, K b = 0 ∨ K b = 1 ∨ K b = 3 ∨ K b = 6 → I b = I b) := fun _ _ => rfl
  have dj_J : J = J := rfl
  have fr_I : ∀ b, ¬ (K b = 18) → I b = I b := fun _ _ => rfl
  obtain ⟨A, hAe⟩ : ∃ A : Nat → Prop, A = (fun q => q ∈ L ∨ s.heap.size ≤ q) := ⟨_, rfl⟩
  rw [← hAe]
  have hAL : ∀ q, q ∈ L → A q := fun q h => by rw [hAe]; exact Or.inl h
  have hA : ∀ q, s.heap.size ≤ q → A q := fun q h => by rw [hAe]; exact Or.inr h
  have hD : ∀ F, va_D A (va_pl L F) := fun F => (hD0 F).weaken (fun k q hk _ => hAL _ (pl_mem hk))
  obtain ⟨H, hHe⟩ : ∃ H : Heap, H = s.heap := ⟨_, rfl⟩
  have hS : va_S A s.heap H [] := by rw [hHe]; exact va_S.rf
  rw [← hHe] at hP
  have hl := lv_entry ([.ref p0, .int p1, .int p2, .int p3]) (n := 4) (Nat.le_of_ble_eq_true rfl)
  rw [lg_entry_eq]
  generalize (lg_sl ([.ref p0, .int p1, .int p2, .int p3]) ++ List.replicate (4 - (lg_sl ([.ref p0, .int p1, .int p2, .int p3])).length) Slot.unset).toArray = ls at hl ⊢
  have hl : lv_has ls 4 [(0, .ref p0), (1, .int p1), (2, .int p2), (3, .int p3)] := hl
  rw [← hHe]
  refine namedW (fun R Qz hR hQz => ?_)
  refine lv_aload_n hx hb dX7_sets_0 rfl (lv_at hl 0 rfl) ?_
  obtain ⟨y1, ey1, hLy1, hKy1⟩ := oQ_7_0 (Sv_at hQ hLp0 hKp0)
  refine p_get (v := .ref y1) hx hb hts inX7 hown hK hP hLp0 hKp0 rfl rfl 0 (by decide) (hts _ pq1115) (congrArg (fun q => some (va_rf q)) ey1) dX7_sets_1 ?_
  refine lv_bipush (v := 19) hx hb dX7_sets_4 (by decide +kernel) ?_
  refine lv_bipush (v := 8) hx hb dX7_sets_6 (by decide +kernel) ?_
  refine lv_iload_n hx hb dX7_sets_8 rfl (lv_at hl 1 rfl) ?_
  refine lv_imul hx hb dX7_sets_9 ?_
  refine lv_topi (fun z9 ez9 => ?_)
  have bz9 := tq_mul (k := (8)) (q := p1.toInt) ez9 (by decide +kernel) rfl (by omega) (by omega)
  refine lv_iadd hx hb dX7_sets_10 ?_
  refine lv_topi (fun z10 ez10 => ?_)
  have bz10 := tq_add (k := (19)) (q := z9.toInt) ez10 (by decide +kernel) rfl (by omega) (by omega)
  refine lv_iload_n hx hb dX7_sets_11 rfl (lv_at hl 2 rfl) ?_
  refine lv_iadd hx hb dX7_sets_12 ?_
  refine lv_topi (fun z12 ez12 => ?_)
  have bz12 := tq_add (k := z10.toInt) (q := p2.toInt) ez12 rfl rfl (by omega) (by omega)
  refine lv_iload_n hx hb dX7_sets_13 rfl (lv_at hl 3 rfl) ?_
  refine p_iast hx hb hK hP hD hS 8 hLy1 hKy1 rfl (fun _ => rfl) rfl (in_of (by omega) (by omega)) dX7_sets_14 (fun H locs hP hS => ?_)
  have rg14p3 := fb_rng p3
  obtain ⟨Iz14, hP, hIz14, qIz14⟩ : ∃ Iz14, va_P (dC, dI) vwCl (Wd cs L K Iz14 J Q) H ∧ Iv L K x0 m0 tx tm Iz14 ∧ Iz14 = va_up I y1 (upd (I y1) z12.toNatClampNeg p3) := ⟨_, hP, Iv_put hI hKy1 (oU_18 (i := z12) (k := z12.toInt) rfl (Iv_at hI hLy1 hKy1) (by rw [show z12.toInt.toNat = 19 + 8 * p1.toInt.toNat + p2.toInt.toNat by omega]; exact hrg)) (Or.inl (by decide)) (Or.inl (by decide)), rfl⟩
  have dn_Iz14 : (∀ b, K b = 0 ∨ K b = 1 ∨ K b = 3 ∨ K b = 6 → Iz14 b = I b) := fun b hc => (congrFun qIz14 b).trans ((va_up_ne _ _ (fun z => by have q := hKy1; rw [← z] at q; omega)).trans (dn_I b hc))
  have fr_Iz14 : ∀ b, ¬ (K b = 18) → Iz14 b = I b := fun b q => (congrFun qIz14 b).trans ((va_up_ne _ _ (fun z => q (by rw [z]; have := hKy1; omega))).trans (fr_I b q))
  subst hR; subst hQz
  exact W.vret hx hb hr (fun t ht hW => ⟨⟨(), rfl, trivial, ⟨Iz14, J, ⟨hIz14, fr_Iz14, (by rw [qIz14, ey1]; show va_up I y1 _ y1 = upd (I y1) _ p3; rw [va_up_self, show z12.toNatClampNeg = 19 + 8 * p1.toInt.toNat + p2.toInt.toNat by show z12.toInt.toNat = _; omega]), dn_Iz14, dj_J⟩, by rw [ht]; exact hP⟩⟩, hS.F ht⟩) hS.2.2 dX7_sets_15

set_option maxHeartbeats 4000000 in
set_option maxRecDepth 100000 in
theorem s_X7_movesA (l : Launch) (dC : Nat → ClassId) (dI : Nat → Nat → Nat) (cs : Nat → ClassId) (L : List Nat) (K G : Nat → Nat) (Q : Nat → Nat → Option Nat) (hQ : Sv L K G Q) (x0 m0 : Nat) (tx : GT) (tm : GT × Int) (sz : Nat) (I : Nat → Nat → Int32) (J : Nat → Nat → Int64) (hI : Iv L K x0 m0 tx tm I) (p0 : Nat) (hLp0 : p0 ∈ L) (hKp0 : K p0 = 18) (p1 : Nat) (hLp1 : p1 ∈ L) (hKp1 : K p1 = 21) (p2 : Int32) (bp2 : (0) ≤ p2.toInt ∧ p2.toInt ≤ 0) (p3 : Nat) (hLp3 : p3 ∈ L) (hKp3 : K p3 = 30) (p4 : Nat) (hLp4 : p4 ∈ L) (hKp4 : K p4 = 33) (p5 : Int32) (bp5 : (0) ≤ p5.toInt ∧ p5.toInt ≤ 0) : Met l yX7_moves (.code yX7_moves cX7_moves 7 none :: pw) ({ frames := 0, cells := 0, slots := 0, locals := 0 }) (sP (dC, dI) cs [.ref p0, .ref p1, .int p2, .ref p3, .ref p4, .int p5] sz L K I J Q) (va_Qv (fun (_ : Unit) => True) (fun _ t => sB (dC, dI) cs L K Q (fun I1 J1 => Iv L K x0 m0 tx tm I1 ∧ (∀ b, ¬ (b = p3) → I1 b = I b) ∧ cpd 99 p5.toInt.toNat p2.toInt.toNat (I p0) (I p3) (I1 p3) ∧ cpd 640 p5.toInt.toNat p2.toInt.toNat (J p1) (J p4) (J1 p4) ∧ (∀ b, ¬ (K b = 33) → J1 b = J b)) t) (fun q => q ∈ L ∨ sz ≤ q)) 0 0 (fun q => q ∈ L ∨ sz ≤ q) := by
  refine Met.ofW (cc := cX7_moves) (maxL := 7) (ret := none) (by decide +kernel) rfl ?_
  intro p e s m args below meth c s₁ B hml hv
  obtain ⟨rfl, hsz, hP, hK, hD0, hN⟩ := hv
  have hx := B.exec
  have hb := B.bytes
  have hr := B.returns
  have hts := fun w (h : w ∈ pw) => atoms_spec (ws := Cond.code yX7_moves cX7_moves 7 none :: pw) B.pre w (List.mem_cons_of_mem _ h)
  have hown : s.vm.findClass RX7 = some m.cls := findClass_of_methodNamed B.named
  have hlocks := B.notSynchronized
  subst hsz
  have hBB : 999 ≤ tm.2 ∧ tm.2 ≤ 6000000 := hI.2.2.2.2.1
  have dj_J : (∀ b, ¬ (K b = 33) → J b = J b) := fun _ _ => rfl
  have fr_I : ∀ b, ¬ (b = p3) → I b = I b := fun _ _ => rfl
  obtain ⟨A, hAe⟩ : ∃ A : Nat → Prop, A = (fun q => q ∈ L ∨ s.heap.size ≤ q) := ⟨_, rfl⟩
  rw [← hAe]
  have hAL : ∀ q, q ∈ L → A q := fun q h => by rw [hAe]; exact Or.inl h
  have hA : ∀ q, s.heap.size ≤ q → A q := fun q h => by rw [hAe]; exact Or.inr h
  have hD : ∀ F, va_D A (va_pl L F) := fun F => (hD0 F).weaken (fun k q hk _ => hAL _ (pl_mem hk))
  obtain ⟨H, hHe⟩ : ∃ H : Heap, H = s.heap := ⟨_, rfl⟩
  have hS : va_S A s.heap H [] := by rw [hHe]; exact va_S.rf
  rw [← hHe] at hP
  have hl := lv_entry ([.ref p0, .ref p1, .int p2, .ref p3, .ref p4, .int p5]) (n := 7) (Nat.le_of_ble_eq_true rfl)
  rw [lg_entry_eq]
  generalize (lg_sl ([.ref p0, .ref p1, .int p2, .ref p3, .ref p4, .int p5]) ++ List.replicate (7 - (lg_sl ([.ref p0, .ref p1, .int p2, .ref p3, .ref p4, .int p5])).length) Slot.unset).toArray = ls at hl ⊢
  have hl : lv_has ls 7 [(0, .ref p0), (1, .ref p1), (2, .int p2), (3, .ref p3), (4, .ref p4), (5, .int p5)] := hl
  rw [← hHe]
  refine namedW (fun R Qz hR hQz => ?_)
  refine lv_iconst (v := 0) hx hb dX7_moves_0 (by decide +kernel) ?_
  refine lv_istore (lv' := [(6, .int 0), (0, .ref p0), (1, .ref p1), (2, .int p2), (3, .ref p3), (4, .ref p4), (5, .int p5)]) hx hb dX7_moves_1 hl (by decide) rfl (fun ls hl => ?_)
  have key3 := blocks (fun n => ∀ (v3_6 : Int32) (I3 : Nat → Nat → Int32) (H : Heap) (lo : List Loc) (ls : Array Slot), (100 - v3_6.toInt).toNat = n → ((0) ≤ v3_6.toInt ∧ v3_6.toInt ≤ 99) → Iv L K x0 m0 tx tm I3 → (∀ b, ¬ (b = p3) → I3 b = I b) → cpv 99 v3_6.toInt.toNat p5.toInt.toNat p2.toInt.toNat (I p0) (I p3) (I3 p3) → va_P (dC, dI) vwCl (Wd cs L K I3 J Q) H → va_S A s.heap H lo → lv_has ls 7 [(0, .ref p0), (1, .ref p1), (2, .int p2), (3, .ref p3), (4, .ref p4), (5, .int p5), (6, .int v3_6)] → W p l e R s m (([.ref p0, .ref p1, .int p2, .ref p3, .ref p4, .int p5] : List Value).toArray) below meth c H lo 0 0 Qz (F0 m 3 ls [])) (by
    intro n ih3
    intro v3_6 I3 H lo ls hmu3 bv3_6 hI3 fr_I3 hc3 hP hS hl
    refine lv_iload hx hb dX7_moves_3 (lv_at hl 6 rfl) ?_
    refine lv_bipush (v := 99) hx hb dX7_moves_5 (by decide +kernel) ?_
    refine lv_icmp_ge (tgt := 35) hx hb dX7_moves_7 (by decide) (fun c7 => ?_) (fun c7 => ?_)
    · have t7 := tq_le (k := (99)) (q := v3_6.toInt) c7 (by decide +kernel) rfl
      refine lv_iconst (v := 0) hx hb dX7_moves_35 (by decide +kernel) ?_
      refine lv_istore (lv' := [(6, .int 0), (0, .ref p0), (1, .ref p1), (2, .int p2), (3, .ref p3), (4, .ref p4), (5, .int p5)]) hx hb dX7_moves_36 hl (by decide) rfl (fun ls hl => ?_)
      have key38 := blocks (fun n => ∀ (v38_6 : Int32) (J38 : Nat → Nat → Int64) (H : Heap) (lo : List Loc) (ls : Array Slot), (641 - v38_6.toInt).toNat = n → ((0) ≤ v38_6.toInt ∧ v38_6.toInt ≤ 640) → (∀ b, ¬ (K b = 33) → J38 b = J b) → (cpv 640 v38_6.toInt.toNat p5.toInt.toNat p2.toInt.toNat (J p1) (J p4) (J38 p4) ∧ ∀ b, ¬ b = p4 → J38 b = J b) → va_P (dC, dI) vwCl (Wd cs L K I3 J38 Q) H → va_S A s.heap H lo → lv_has ls 7 [(0, .ref p0), (1, .ref p1), (2, .int p2), (3, .ref p3), (4, .ref p4), (5, .int p5), (6, .int v38_6)] → W p l e R s m (([.ref p0, .ref p1, .int p2, .ref p3, .ref p4, .int p5] : List Value).toArray) below meth c H lo 0 0 Qz (F0 m 38 ls [])) (by
        intro n ih38
        intro v38_6 J38 H lo ls hmu38 bv38_6 dj_J38 hc38 hP hS hl
        refine lv_iload hx hb dX7_moves_38 (lv_at hl 6 rfl) ?_
        refine lv_sipush (v := 640) hx hb dX7_moves_40 (by decide +kernel) ?_
        refine lv_icmp_ge (tgt := 74) hx hb dX7_moves_43 (by decide) (fun c43 => ?_) (fun c43 => ?_)
        · have t43 := tq_le (k := (640)) (q := v38_6.toInt) c43 (by decide +kernel) rfl
          subst hR; subst hQz
          exact W.vret hx hb hr (fun t ht hW => ⟨⟨(), rfl, trivial, ⟨I3, J38, ⟨hI3, fr_I3, (by have e : v3_6.toInt.toNat = 99 := (by omega); rw [e] at hc3; exact hc3), (by have e : v38_6.toInt.toNat = 640 := (by omega); have q := hc38.1; rw [e] at q; exact q), dj_J38⟩, by rw [ht]; exact hP⟩⟩, hS.F ht⟩) hS.2.2 dX7_moves_74
        · have t43 := tq_nle (k := (640)) (q := v38_6.toInt) c43 (by decide +kernel) rfl
          refine lv_aload hx hb dX7_moves_46 (lv_at hl 4 rfl) ?_
          refine lv_sipush (v := 640) hx hb dX7_moves_48 (by decide +kernel) ?_
          refine lv_iload hx hb dX7_moves_51 (lv_at hl 5 rfl) ?_
          refine lv_imul hx hb dX7_moves_53 ?_
          refine lv_topi (fun z53 ez53 => ?_)
          have bz53 := tq_mul (k := (640)) (q := p5.toInt) ez53 (by decide +kernel) rfl (by omega) (by omega)
          refine lv_iload hx hb dX7_moves_54 (lv_at hl 6 rfl) ?_
          refine lv_iadd hx hb dX7_moves_56 ?_
          refine lv_topi (fun z56 ez56 => ?_)
          have bz56 := tq_add (k := z53.toInt) (q := v38_6.toInt) ez56 rfl rfl (by omega) (by omega)
          refine lv_aload_n hx hb dX7_moves_57 rfl (lv_at hl 1 rfl) ?_
          refine lv_sipush (v := 640) hx hb dX7_moves_58 (by decide +kernel) ?_
          refine lv_iload_n hx hb dX7_moves_61 rfl (lv_at hl 2 rfl) ?_
          refine lv_imul hx hb dX7_moves_62 ?_
          refine lv_topi (fun z62 ez62 => ?_)
          have bz62 := tq_mul (k := (640)) (q := p2.toInt) ez62 (by decide +kernel) rfl (by omega) (by omega)
          refine lv_iload hx hb dX7_moves_63 (lv_at hl 6 rfl) ?_
          refine lv_iadd hx hb dX7_moves_65 ?_
          refine lv_topi (fun z65 ez65 => ?_)
          have bz65 := tq_add (k := z62.toInt) (q := v38_6.toInt) ez65 rfl rfl (by omega) (by omega)
          refine p_lald hx hb hK hP 11 hLp1 hKp1 rfl rfl (in_of (by omega) (by omega)) dX7_moves_66 ?_
          refine lv_topl (fun z66 ez66 => ?_)
          refine p_last hx hb hK hP hD hS 23 hLp4 hKp4 rfl (fun _ => rfl) rfl (in_of (by omega) (by omega)) dX7_moves_67 (fun H locs hP hS => ?_)
          obtain ⟨Jz67, hP, qJz67⟩ : ∃ Jz67, va_P (dC, dI) vwCl (Wd cs L K I3 Jz67 Q) H ∧ Jz67 = va_up J38 p4 (vp_updL (J38 p4) z56.toNatClampNeg z66) := ⟨_, hP, rfl⟩
          have dj_Jz67 : (∀ b, ¬ (K b = 33) → Jz67 b = J b) := fun b hc => (congrFun qJz67 b).trans ((va_up_ne _ _ (fun z => hc (by have q := hKp4; rw [← z] at q; omega))).trans (dj_J38 b hc))
          obtain ⟨z68, ez68⟩ : ∃ y : Int32, y = v38_6 + 1 := ⟨_, rfl⟩
          refine lv_iinc (v := z68) (lv' := [(6, .int z68), (0, .ref p0), (1, .ref p1), (2, .int p2), (3, .ref p3), (4, .ref p4), (5, .int p5)]) hx hb dX7_moves_68 hl (k := 6) rfl (by rw [ez68]; rfl) (by decide) rfl (fun ls hl => ?_)
          have bz68 := tq_add (k := v38_6.toInt) (q := 1) ez68 rfl (by decide +kernel) (by omega) (by omega)
          refine lv_goto (tgt := 38) hx hb dX7_moves_71 (by decide) ?_
          exact ih38 _ (by omega) z68 Jz67 _ _ _ rfl ⟨by omega, by omega⟩ dj_Jz67 ⟨cpv_step hc38.1 (i := z56.toInt.toNat) (x := z66) (fun j => by rw [qJz67, va_up_self]; rfl) (by omega) (ez66.trans (cpv_src (F := J38) (F0 := J) hc38.1 (by omega) (fun q => hc38.2 p1 q) (i := z65.toInt.toNat) (by omega))) (by omega), fun b hb => by rw [qJz67, va_up_ne _ _ hb]; exact hc38.2 b hb⟩ hP hS (lv_sub hl [1, 2, 3, 4, 5, 6, 0] rfl))
      exact key38 _ 0 J _ _ _ rfl ⟨by decide +kernel, by decide +kernel⟩ dj_J ⟨cpv_0 rfl, fun _ _ => rfl⟩ hP hS (lv_sub hl [1, 2, 3, 4, 5, 6, 0] rfl)
    · have t7 := tq_nle (k := (99)) (q := v3_6.toInt) c7 (by decide +kernel) rfl
      refine lv_aload_n hx hb dX7_moves_10 rfl (lv_at hl 3 rfl) ?_
      refine lv_bipush (v := 99) hx hb dX7_moves_11 (by decide +kernel) ?_
      refine lv_iload hx hb dX7_moves_13 (lv_at hl 5 rfl) ?_
      refine lv_imul hx hb dX7_moves_15 ?_
      refine lv_topi (fun z15 ez15 => ?_)
      have bz15 := tq_mul (k := (99)) (q := p5.toInt) ez15 (by decide +kernel) rfl (by omega) (by omega)
      refine lv_iload hx hb dX7_moves_16 (lv_at hl 6 rfl) ?_
      refine lv_iadd hx hb dX7_moves_18 ?_
      refine lv_topi (fun z18 ez18 => ?_)
      have bz18 := tq_add (k := z15.toInt) (q := v3_6.toInt) ez18 rfl rfl (by omega) (by omega)
      refine lv_aload_n hx hb dX7_moves_19 rfl (lv_at hl 0 rfl) ?_
      refine lv_bipush (v := 99) hx hb dX7_moves_20 (by decide +kernel) ?_
      refine lv_iload_n hx hb dX7_moves_22 rfl (lv_at hl 2 rfl) ?_
      refine lv_imul hx hb dX7_moves_23 ?_
      refine lv_topi (fun z23 ez23 => ?_)
      have bz23 := tq_mul (k := (99)) (q := p2.toInt) ez23 (by decide +kernel) rfl (by omega) (by omega)
      refine lv_iload hx hb dX7_moves_24 (lv_at hl 6 rfl) ?_
      refine lv_iadd hx hb dX7_moves_26 ?_
      refine lv_topi (fun z26 ez26 => ?_)
      have bz26 := tq_add (k := z23.toInt) (q := v3_6.toInt) ez26 rfl rfl (by omega) (by omega)
      refine p_iald hx hb hK hP 8 hLp0 hKp0 rfl rfl (in_of (by omega) (by omega)) dX7_moves_27 ?_
      refine lv_topi (fun z27 ez27 => ?_)
      have bz27 := oR_18 (i := z26) (k := z26.toInt) rfl (Iv_at hI3 hLp0 hKp0)
      rw [← ez27] at bz27
      replace bz27 : Hid _ := bz27
      refine p_iast hx hb hK hP hD hS 20 hLp3 hKp3 rfl (fun _ => rfl) rfl (in_of (by omega) (by omega)) dX7_moves_28 (fun H locs hP hS => ?_)
      have rg28z27 := fb_rng z27
      obtain ⟨Iz28, hP, hIz28, qIz28⟩ : ∃ Iz28, va_P (dC, dI) vwCl (Wd cs L K Iz28 J Q) H ∧ Iv L K x0 m0 tx tm Iz28 ∧ Iz28 = va_up I3 p3 (upd (I3 p3) z18.toNatClampNeg z27) := ⟨_, hP, Iv_put hI3 hKp3 (oU_30 (i := z18) (k := z18.toInt) rfl (Iv_at hI3 hLp3 hKp3) (by have q : rng tm.2 (z26.toInt.toNat) z27.toInt := bz27; rw [show z18.toInt.toNat = z26.toInt.toNat by omega]; exact q)) (Or.inl (by decide)) (Or.inl (by decide)), rfl⟩
      have fr_Iz28 : ∀ b, ¬ (b = p3) → Iz28 b = I b := fun b q => (congrFun qIz28 b).trans ((va_up_ne _ _ (fun z => q z)).trans (fr_I3 b q))
      obtain ⟨z29, ez29⟩ : ∃ y : Int32, y = v3_6 + 1 := ⟨_, rfl⟩
      refine lv_iinc (v := z29) (lv' := [(6, .int z29), (0, .ref p0), (1, .ref p1), (2, .int p2), (3, .ref p3), (4, .ref p4), (5, .int p5)]) hx hb dX7_moves_29 hl (k := 6) rfl (by rw [ez29]; rfl) (by decide) rfl (fun ls hl => ?_)
      have bz29 := tq_add (k := v3_6.toInt) (q := 1) ez29 rfl (by decide +kernel) (by omega) (by omega)
      refine lv_goto (tgt := 3) hx hb dX7_moves_32 (by decide) ?_
      exact ih3 _ (by omega) z29 Iz28 _ _ _ rfl ⟨by omega, by omega⟩ hIz28 fr_Iz28 (cpv_step hc3 (i := z18.toInt.toNat) (x := z27) (fun j => by rw [qIz28, va_up_self]; rfl) (by omega) (ez27.trans (cpv_src (F := I3) (F0 := I) hc3 (by omega) (fun q => fr_I3 p0 q) (i := z26.toInt.toNat) (by omega))) (by omega)) hP hS (lv_sub hl [1, 2, 3, 4, 5, 6, 0] rfl))
  exact key3 _ 0 I _ _ _ rfl ⟨by decide +kernel, by decide +kernel⟩ hI fr_I (cpv_0 rfl) hP hS (lv_sub hl [1, 2, 3, 4, 5, 6, 0] rfl)

set_option maxHeartbeats 4000000 in
set_option maxRecDepth 100000 in
theorem s_X7_movesP (l : Launch) (dC : Nat → ClassId) (dI : Nat → Nat → Nat) (cs : Nat → ClassId) (L : List Nat) (K G : Nat → Nat) (Q : Nat → Nat → Option Nat) (hQ : Sv L K G Q) (x0 m0 : Nat) (tx : GT) (tm : GT × Int) (sz : Nat) (I : Nat → Nat → Int32) (J : Nat → Nat → Int64) (hI : Iv L K x0 m0 tx tm I) (p0 : Nat) (hLp0 : p0 ∈ L) (hKp0 : K p0 = 30) (p1 : Nat) (hLp1 : p1 ∈ L) (hKp1 : K p1 = 33) (p2 : Int32) (bp2 : (0) ≤ p2.toInt ∧ p2.toInt ≤ 0) (p3 : Nat) (hLp3 : p3 ∈ L) (hKp3 : K p3 = 19) (p4 : Nat) (hLp4 : p4 ∈ L) (hKp4 : K p4 = 22) (p5 : Int32) (bp5 : (0) ≤ p5.toInt ∧ p5.toInt ≤ 9) : Met l yX7_moves (.code yX7_moves cX7_moves 7 none :: pw) ({ frames := 0, cells := 0, slots := 0, locals := 0 }) (sP (dC, dI) cs [.ref p0, .ref p1, .int p2, .ref p3, .ref p4, .int p5] sz L K I J Q) (va_Qv (fun (_ : Unit) => True) (fun _ t => sB (dC, dI) cs L K Q (fun I1 J1 => Iv L K x0 m0 tx tm I1 ∧ (∀ b, ¬ (b = p3) → I1 b = I b) ∧ cpd 99 p5.toInt.toNat p2.toInt.toNat (I p0) (I p3) (I1 p3) ∧ cpd 640 p5.toInt.toNat p2.toInt.toNat (J p1) (J p4) (J1 p4) ∧ (∀ b, ¬ (K b = 22) → J1 b = J b)) t) (fun q => q ∈ L ∨ sz ≤ q)) 0 0 (fun q => q ∈ L ∨ sz ≤ q) := by
  refine Met.ofW (cc := cX7_moves) (maxL := 7) (ret := none) (by decide +kernel) rfl ?_
  intro p e s m args below meth c s₁ B hml hv
  obtain ⟨rfl, hsz, hP, hK, hD0, hN⟩ := hv
  have hx := B.exec
  have hb := B.bytes
  have hr := B.returns
  have hts := fun w (h : w ∈ pw) => atoms_spec (ws := Cond.code yX7_moves cX7_moves 7 none :: pw) B.pre w (List.mem_cons_of_mem _ h)
  have hown : s.vm.findClass RX7 = some m.cls := findClass_of_methodNamed B.named
  have hlocks := B.notSynchronized
  subst hsz
  have hBB : 999 ≤ tm.2 ∧ tm.2 ≤ 6000000 := hI.2.2.2.2.1
  have dj_J : (∀ b, ¬ (K b = 22) → J b = J b) := fun _ _ => rfl
  have fr_I : ∀ b, ¬ (b = p3) → I b = I b := fun _ _ => rfl
  obtain ⟨A, hAe⟩ : ∃ A : Nat → Prop, A = (fun q => q ∈ L ∨ s.heap.size ≤ q) := ⟨_, rfl⟩
  rw [← hAe]
  have hAL : ∀ q, q ∈ L → A q := fun q h => by rw [hAe]; exact Or.inl h
  have hA : ∀ q, s.heap.size ≤ q → A q := fun q h => by rw [hAe]; exact Or.inr h
  have hD : ∀ F, va_D A (va_pl L F) := fun F => (hD0 F).weaken (fun k q hk _ => hAL _ (pl_mem hk))
  obtain ⟨H, hHe⟩ : ∃ H : Heap, H = s.heap := ⟨_, rfl⟩
  have hS : va_S A s.heap H [] := by rw [hHe]; exact va_S.rf
  rw [← hHe] at hP
  have hl := lv_entry ([.ref p0, .ref p1, .int p2, .ref p3, .ref p4, .int p5]) (n := 7) (Nat.le_of_ble_eq_true rfl)
  rw [lg_entry_eq]
  generalize (lg_sl ([.ref p0, .ref p1, .int p2, .ref p3, .ref p4, .int p5]) ++ List.replicate (7 - (lg_sl ([.ref p0, .ref p1, .int p2, .ref p3, .ref p4, .int p5])).length) Slot.unset).toArray = ls at hl ⊢
  have hl : lv_has ls 7 [(0, .ref p0), (1, .ref p1), (2, .int p2), (3, .ref p3), (4, .ref p4), (5, .int p5)] := hl
  rw [← hHe]
  refine namedW (fun R Qz hR hQz => ?_)
  refine lv_iconst (v := 0) hx hb dX7_moves_0 (by decide +kernel) ?_
  refine lv_istore (lv' := [(6, .int 0), (0, .ref p0), (1, .ref p1), (2, .int p2), (3, .ref p3), (4, .ref p4), (5, .int p5)]) hx hb dX7_moves_1 hl (by decide) rfl (fun ls hl => ?_)
  have key3 := blocks (fun n => ∀ (v3_6 : Int32) (I3 : Nat → Nat → Int32) (H : Heap) (lo : List Loc) (ls : Array Slot), (100 - v3_6.toInt).toNat = n → ((0) ≤ v3_6.toInt ∧ v3_6.toInt ≤ 99) → Iv L K x0 m0 tx tm I3 → (∀ b, ¬ (b = p3) → I3 b = I b) → cpv 99 v3_6.toInt.toNat p5.toInt.toNat p2.toInt.toNat (I p0) (I p3) (I3 p3) → va_P (dC, dI) vwCl (Wd cs L K I3 J Q) H → va_S A s.heap H lo → lv_has ls 7 [(0, .ref p0), (1, .ref p1), (2, .int p2), (3, .ref p3), (4, .ref p4), (5, .int p5), (6, .int v3_6)] → W p l e R s m (([.ref p0, .ref p1, .int p2, .ref p3, .ref p4, .int p5] : List Value).toArray) below meth c H lo 0 0 Qz (F0 m 3 ls [])) (by
    intro n ih3
    intro v3_6 I3 H lo ls hmu3 bv3_6 hI3 fr_I3 hc3 hP hS hl
    refine lv_iload hx hb dX7_moves_3 (lv_at hl 6 rfl) ?_
    refine lv_bipush (v := 99) hx hb dX7_moves_5 (by decide +kernel) ?_
    refine lv_icmp_ge (tgt := 35) hx hb dX7_moves_7 (by decide) (fun c7 => ?_) (fun c7 => ?_)
    · have t7 := tq_le (k := (99)) (q := v3_6.toInt) c7 (by decide +kernel) rfl
      refine lv_iconst (v := 0) hx hb dX7_moves_35 (by decide +kernel) ?_
      refine lv_istore (lv' := [(6, .int 0), (0, .ref p0), (1, .ref p1), (2, .int p2), (3, .ref p3), (4, .ref p4), (5, .int p5)]) hx hb dX7_moves_36 hl (by decide) rfl (fun ls hl => ?_)
      have key38 := blocks (fun n => ∀ (v38_6 : Int32) (J38 : Nat → Nat → Int64) (H : Heap) (lo : List Loc) (ls : Array Slot), (641 - v38_6.toInt).toNat = n → ((0) ≤ v38_6.toInt ∧ v38_6.toInt ≤ 640) → (∀ b, ¬ (K b = 22) → J38 b = J b) → (cpv 640 v38_6.toInt.toNat p5.toInt.toNat p2.toInt.toNat (J p1) (J p4) (J38 p4) ∧ ∀ b, ¬ b = p4 → J38 b = J b) → va_P (dC, dI) vwCl (Wd cs L K I3 J38 Q) H → va_S A s.heap H lo → lv_has ls 7 [(0, .ref p0), (1, .ref p1), (2, .int p2), (3, .ref p3), (4, .ref p4), (5, .int p5), (6, .int v38_6)] → W p l e R s m (([.ref p0, .ref p1, .int p2, .ref p3, .ref p4, .int p5] : List Value).toArray) below meth c H lo 0 0 Qz (F0 m 38 ls [])) (by
        intro n ih38
        intro v38_6 J38 H lo ls hmu38 bv38_6 dj_J38 hc38 hP hS hl
        refine lv_iload hx hb dX7_moves_38 (lv_at hl 6 rfl) ?_
        refine lv_sipush (v := 640) hx hb dX7_moves_40 (by decide +kernel) ?_
        refine lv_icmp_ge (tgt := 74) hx hb dX7_moves_43 (by decide) (fun c43 => ?_) (fun c43 => ?_)
        · have t43 := tq_le (k := (640)) (q := v38_6.toInt) c43 (by decide +kernel) rfl
          subst hR; subst hQz
          exact W.vret hx hb hr (fun t ht hW => ⟨⟨(), rfl, trivial, ⟨I3, J38, ⟨hI3, fr_I3, (by have e : v3_6.toInt.toNat = 99 := (by omega); rw [e] at hc3; exact hc3), (by have e : v38_6.toInt.toNat = 640 := (by omega); have q := hc38.1; rw [e] at q; exact q), dj_J38⟩, by rw [ht]; exact hP⟩⟩, hS.F ht⟩) hS.2.2 dX7_moves_74
        · have t43 := tq_nle (k := (640)) (q := v38_6.toInt) c43 (by decide +kernel) rfl
          refine lv_aload hx hb dX7_moves_46 (lv_at hl 4 rfl) ?_
          refine lv_sipush (v := 640) hx hb dX7_moves_48 (by decide +kernel) ?_
          refine lv_iload hx hb dX7_moves_51 (lv_at hl 5 rfl) ?_
          refine lv_imul hx hb dX7_moves_53 ?_
          refine lv_topi (fun z53 ez53 => ?_)
          have bz53 := tq_mul (k := (640)) (q := p5.toInt) ez53 (by decide +kernel) rfl (by omega) (by omega)
          refine lv_iload hx hb dX7_moves_54 (lv_at hl 6 rfl) ?_
          refine lv_iadd hx hb dX7_moves_56 ?_
          refine lv_topi (fun z56 ez56 => ?_)
          have bz56 := tq_add (k := z53.toInt) (q := v38_6.toInt) ez56 rfl rfl (by omega) (by omega)
          refine lv_aload_n hx hb dX7_moves_57 rfl (lv_at hl 1 rfl) ?_
          refine lv_sipush (v := 640) hx hb dX7_moves_58 (by decide +kernel) ?_
          refine lv_iload_n hx hb dX7_moves_61 rfl (lv_at hl 2 rfl) ?_
          refine lv_imul hx hb dX7_moves_62 ?_
          refine lv_topi (fun z62 ez62 => ?_)
          have bz62 := tq_mul (k := (640)) (q := p2.toInt) ez62 (by decide +kernel) rfl (by omega) (by omega)
          refine lv_iload hx hb dX7_moves_63 (lv_at hl 6 rfl) ?_
          refine lv_iadd hx hb dX7_moves_65 ?_
          refine lv_topi (fun z65 ez65 => ?_)
          have bz65 := tq_add (k := z62.toInt) (q := v38_6.toInt) ez65 rfl rfl (by omega) (by omega)
          refine p_lald hx hb hK hP 23 hLp1 hKp1 rfl rfl (in_of (by omega) (by omega)) dX7_moves_66 ?_
          refine lv_topl (fun z66 ez66 => ?_)
          refine p_last hx hb hK hP hD hS 12 hLp4 hKp4 rfl (fun _ => rfl) rfl (in_of (by omega) (by omega)) dX7_moves_67 (fun H locs hP hS => ?_)
          obtain ⟨Jz67, hP, qJz67⟩ : ∃ Jz67, va_P (dC, dI) vwCl (Wd cs L K I3 Jz67 Q) H ∧ Jz67 = va_up J38 p4 (vp_updL (J38 p4) z56.toNatClampNeg z66) := ⟨_, hP, rfl⟩
          have dj_Jz67 : (∀ b, ¬ (K b = 22) → Jz67 b = J b) := fun b hc => (congrFun qJz67 b).trans ((va_up_ne _ _ (fun z => hc (by have q := hKp4; rw [← z] at q; omega))).trans (dj_J38 b hc))
          obtain ⟨z68, ez68⟩ : ∃ y : Int32, y = v38_6 + 1 := ⟨_, rfl⟩
          refine lv_iinc (v := z68) (lv' := [(6, .int z68), (0, .ref p0), (1, .ref p1), (2, .int p2), (3, .ref p3), (4, .ref p4), (5, .int p5)]) hx hb dX7_moves_68 hl (k := 6) rfl (by rw [ez68]; rfl) (by decide) rfl (fun ls hl => ?_)
          have bz68 := tq_add (k := v38_6.toInt) (q := 1) ez68 rfl (by decide +kernel) (by omega) (by omega)
          refine lv_goto (tgt := 38) hx hb dX7_moves_71 (by decide) ?_
          exact ih38 _ (by omega) z68 Jz67 _ _ _ rfl ⟨by omega, by omega⟩ dj_Jz67 ⟨cpv_step hc38.1 (i := z56.toInt.toNat) (x := z66) (fun j => by rw [qJz67, va_up_self]; rfl) (by omega) (ez66.trans (cpv_src (F := J38) (F0 := J) hc38.1 (by omega) (fun q => hc38.2 p1 q) (i := z65.toInt.toNat) (by omega))) (by omega), fun b hb => by rw [qJz67, va_up_ne _ _ hb]; exact hc38.2 b hb⟩ hP hS (lv_sub hl [1, 2, 3, 4, 5, 6, 0] rfl))
      exact key38 _ 0 J _ _ _ rfl ⟨by decide +kernel, by decide +kernel⟩ dj_J ⟨cpv_0 rfl, fun _ _ => rfl⟩ hP hS (lv_sub hl [1, 2, 3, 4, 5, 6, 0] rfl)
    · have t7 := tq_nle (k := (99)) (q := v3_6.toInt) c7 (by decide +kernel) rfl
      refine lv_aload_n hx hb dX7_moves_10 rfl (lv_at hl 3 rfl) ?_
      refine lv_bipush (v := 99) hx hb dX7_moves_11 (by decide +kernel) ?_
      refine lv_iload hx hb dX7_moves_13 (lv_at hl 5 rfl) ?_
      refine lv_imul hx hb dX7_moves_15 ?_
      refine lv_topi (fun z15 ez15 => ?_)
      have bz15 := tq_mul (k := (99)) (q := p5.toInt) ez15 (by decide +kernel) rfl (by omega) (by omega)
      refine lv_iload hx hb dX7_moves_16 (lv_at hl 6 rfl) ?_
      refine lv_iadd hx hb dX7_moves_18 ?_
      refine lv_topi (fun z18 ez18 => ?_)
      have bz18 := tq_add (k := z15.toInt) (q := v3_6.toInt) ez18 rfl rfl (by omega) (by omega)
      refine lv_aload_n hx hb dX7_moves_19 rfl (lv_at hl 0 rfl) ?_
      refine lv_bipush (v := 99) hx hb dX7_moves_20 (by decide +kernel) ?_
      refine lv_iload_n hx hb dX7_moves_22 rfl (lv_at hl 2 rfl) ?_
      refine lv_imul hx hb dX7_moves_23 ?_
      refine lv_topi (fun z23 ez23 => ?_)
      have bz23 := tq_mul (k := (99)) (q := p2.toInt) ez23 (by decide +kernel) rfl (by omega) (by omega)
      refine lv_iload hx hb dX7_moves_24 (lv_at hl 6 rfl) ?_
      refine lv_iadd hx hb dX7_moves_26 ?_
      refine lv_topi (fun z26 ez26 => ?_)
      have bz26 := tq_add (k := z23.toInt) (q := v3_6.toInt) ez26 rfl rfl (by omega) (by omega)
      refine p_iald hx hb hK hP 20 hLp0 hKp0 rfl rfl (in_of (by omega) (by omega)) dX7_moves_27 ?_
      refine lv_topi (fun z27 ez27 => ?_)
      have bz27 := oR_30 (i := z26) (k := z26.toInt) rfl (Iv_at hI3 hLp0 hKp0)
      rw [← ez27] at bz27
      replace bz27 : Hid _ := bz27
      refine p_iast hx hb hK hP hD hS 9 hLp3 hKp3 rfl (fun _ => rfl) rfl (in_of (by omega) (by omega)) dX7_moves_28 (fun H locs hP hS => ?_)
      have rg28z27 := fb_rng z27
      obtain ⟨Iz28, hP, hIz28, qIz28⟩ : ∃ Iz28, va_P (dC, dI) vwCl (Wd cs L K Iz28 J Q) H ∧ Iv L K x0 m0 tx tm Iz28 ∧ Iz28 = va_up I3 p3 (upd (I3 p3) z18.toNatClampNeg z27) := ⟨_, hP, Iv_put hI3 hKp3 (oU_19 (i := z18) (k := z18.toInt) rfl (Iv_at hI3 hLp3 hKp3) (by have q : rng tm.2 (z26.toInt.toNat) z27.toInt := bz27; rw [show z18.toInt.toNat % 99 = z26.toInt.toNat by omega]; exact q)) (Or.inl (by decide)) (Or.inl (by decide)), rfl⟩
      have fr_Iz28 : ∀ b, ¬ (b = p3) → Iz28 b = I b := fun b q => (congrFun qIz28 b).trans ((va_up_ne _ _ (fun z => q z)).trans (fr_I3 b q))
      obtain ⟨z29, ez29⟩ : ∃ y : Int32, y = v3_6 + 1 := ⟨_, rfl⟩
      refine lv_iinc (v := z29) (lv' := [(6, .int z29), (0, .ref p0), (1, .ref p1), (2, .int p2), (3, .ref p3), (4, .ref p4), (5, .int p5)]) hx hb dX7_moves_29 hl (k := 6) rfl (by rw [ez29]; rfl) (by decide) rfl (fun ls hl => ?_)
      have bz29 := tq_add (k := v3_6.toInt) (q := 1) ez29 rfl (by decide +kernel) (by omega) (by omega)
      refine lv_goto (tgt := 3) hx hb dX7_moves_32 (by decide) ?_
      exact ih3 _ (by omega) z29 Iz28 _ _ _ rfl ⟨by omega, by omega⟩ hIz28 fr_Iz28 (cpv_step hc3 (i := z18.toInt.toNat) (x := z27) (fun j => by rw [qIz28, va_up_self]; rfl) (by omega) (ez27.trans (cpv_src (F := I3) (F0 := I) hc3 (by omega) (fun q => fr_I3 p0 q) (i := z26.toInt.toNat) (by omega))) (by omega)) hP hS (lv_sub hl [1, 2, 3, 4, 5, 6, 0] rfl))
  exact key3 _ 0 I _ _ _ rfl ⟨by decide +kernel, by decide +kernel⟩ hI fr_I (cpv_0 rfl) hP hS (lv_sub hl [1, 2, 3, 4, 5, 6, 0] rfl)

set_option maxHeartbeats 4000000 in
set_option maxRecDepth 100000 in
theorem s_X7_movesQ (l : Launch) (dC : Nat → ClassId) (dI : Nat → Nat → Nat) (cs : Nat → ClassId) (L : List Nat) (K G : Nat → Nat) (Q : Nat → Nat → Option Nat) (hQ : Sv L K G Q) (x0 m0 : Nat) (tx : GT) (tm : GT × Int) (sz : Nat) (I : Nat → Nat → Int32) (J : Nat → Nat → Int64) (hI : Iv L K x0 m0 tx tm I) (p0 : Nat) (hLp0 : p0 ∈ L) (hKp0 : K p0 = 19) (p1 : Nat) (hLp1 : p1 ∈ L) (hKp1 : K p1 = 22) (p2 : Int32) (bp2 : (1) ≤ p2.toInt ∧ p2.toInt ≤ 9) (p3 : Nat) (hLp3 : p3 ∈ L) (hKp3 : K p3 = 19) (p4 : Nat) (hLp4 : p4 ∈ L) (hKp4 : K p4 = 22) (p5 : Int32) (bp5 : (0) ≤ p5.toInt ∧ p5.toInt ≤ 8) : Met l yX7_moves (.code yX7_moves cX7_moves 7 none :: pw) ({ frames := 0, cells := 0, slots := 0, locals := 0 }) (sP (dC, dI) cs [.ref p0, .ref p1, .int p2, .ref p3, .ref p4, .int p5] sz L K I J Q) (va_Qv (fun (_ : Unit) => True) (fun _ t => sB (dC, dI) cs L K Q (fun I1 J1 => Iv L K x0 m0 tx tm I1 ∧ (∀ b, ¬ (b = p3) → I1 b = I b) ∧ cpd 99 p5.toInt.toNat p2.toInt.toNat (I p0) (I p3) (I1 p3) ∧ cpd 640 p5.toInt.toNat p2.toInt.toNat (J p1) (J p4) (J1 p4) ∧ (∀ b, ¬ (K b = 22) → J1 b = J b)) t) (fun q => q ∈ L ∨ sz ≤ q)) 0 0 (fun q => q ∈ L ∨ sz ≤ q) := by
  refine Met.ofW (cc := cX7_moves) (maxL := 7) (ret := none) (by decide +kernel) rfl ?_
  intro p e s m args below meth c s₁ B hml hv
  obtain ⟨rfl, hsz, hP, hK, hD0, hN⟩ := hv
  have hx := B.exec
  have hb := B.bytes
  have hr := B.returns
  have hts := fun w (h : w ∈ pw) => atoms_spec (ws := Cond.code yX7_moves cX7_moves 7 none :: pw) B.pre w (List.mem_cons_of_mem _ h)
  have hown : s.vm.findClass RX7 = some m.cls := findClass_of_methodNamed B.named
  have hlocks := B.notSynchronized
  subst hsz
  have hBB : 999 ≤ tm.2 ∧ tm.2 ≤ 6000000 := hI.2.2.2.2.1
  have dj_J : (∀ b, ¬ (K b = 22) → J b = J b) := fun _ _ => rfl
  have fr_I : ∀ b, ¬ (b = p3) → I b = I b := fun _ _ => rfl
  obtain ⟨A, hAe⟩ : ∃ A : Nat → Prop, A = (fun q => q ∈ L ∨ s.heap.size ≤ q) := ⟨_, rfl⟩
  rw [← hAe]
  have hAL : ∀ q, q ∈ L → A q := fun q h => by rw [hAe]; exact Or.inl h
  have hA : ∀ q, s.heap.size ≤ q → A q := fun q h => by rw [hAe]; exact Or.inr h
  have hD : ∀ F, va_D A (va_pl L F) := fun F => (hD0 F).weaken (fun k q hk _ => hAL _ (pl_mem hk))
  obtain ⟨H, hHe⟩ : ∃ H : Heap, H = s.heap := ⟨_, rfl⟩
  have hS : va_S A s.heap H [] := by rw [hHe]; exact va_S.rf
  rw [← hHe] at hP
  have hl := lv_entry ([.ref p0, .ref p1, .int p2, .ref p3, .ref p4, .int p5]) (n := 7) (Nat.le_of_ble_eq_true rfl)
  rw [lg_entry_eq]
  generalize (lg_sl ([.ref p0, .ref p1, .int p2, .ref p3, .ref p4, .int p5]) ++ List.replicate (7 - (lg_sl ([.ref p0, .ref p1, .int p2, .ref p3, .ref p4, .int p5])).length) Slot.unset).toArray = ls at hl ⊢
  have hl : lv_has ls 7 [(0, .ref p0), (1, .ref p1), (2, .int p2), (3, .ref p3), (4, .ref p4), (5, .int p5)] := hl
  rw [← hHe]
  refine namedW (fun R Qz hR hQz => ?_)
  refine lv_iconst (v := 0) hx hb dX7_moves_0 (by decide +kernel) ?_
  refine lv_istore (lv' := [(6, .int 0), (0, .ref p0), (1, .ref p1), (2, .int p2), (3, .ref p3), (4, .ref p4), (5, .int p5)]) hx hb dX7_moves_1 hl (by decide) rfl (fun ls hl => ?_)
  have key3 := blocks (fun n => ∀ (v3_6 : Int32) (I3 : Nat → Nat → Int32) (H : Heap) (lo : List Loc) (ls : Array Slot), (100 - v3_6.toInt).toNat = n → ((0) ≤ v3_6.toInt ∧ v3_6.toInt ≤ 99) → Iv L K x0 m0 tx tm I3 → (∀ b, ¬ (b = p3) → I3 b = I b) → cpv 99 v3_6.toInt.toNat p5.toInt.toNat p2.toInt.toNat (I p0) (I p3) (I3 p3) → va_P (dC, dI) vwCl (Wd cs L K I3 J Q) H → va_S A s.heap H lo → lv_has ls 7 [(0, .ref p0), (1, .ref p1), (2, .int p2), (3, .ref p3), (4, .ref p4), (5, .int p5), (6, .int v3_6)] → W p l e R s m (([.ref p0, .ref p1, .int p2, .ref p3, .ref p4, .int p5] : List Value).toArray) below meth c H lo 0 0 Qz (F0 m 3 ls [])) (by
    intro n ih3
    intro v3_6 I3 H lo ls hmu3 bv3_6 hI3 fr_I3 hc3 hP hS hl
    refine lv_iload hx hb dX7_moves_3 (lv_at hl 6 rfl) ?_
    refine lv_bipush (v := 99) hx hb dX7_moves_5 (by decide +kernel) ?_
    refine lv_icmp_ge (tgt := 35) hx hb dX7_moves_7 (by decide) (fun c7 => ?_) (fun c7 => ?_)
    · have t7 := tq_le (k := (99)) (q := v3_6.toInt) c7 (by decide +kernel) rfl
      refine lv_iconst (v := 0) hx hb dX7_moves_35 (by decide +kernel) ?_
      refine lv_istore (lv' := [(6, .int 0), (0, .ref p0), (1, .ref p1), (2, .int p2), (3, .ref p3), (4, .ref p4), (5, .int p5)]) hx hb dX7_moves_36 hl (by decide) rfl (fun ls hl => ?_)
      have key38 := blocks (fun n => ∀ (v38_6 : Int32) (J38 : Nat → Nat → Int64) (H : Heap) (lo : List Loc) (ls : Array Slot), (641 - v38_6.toInt).toNat = n → ((0) ≤ v38_6.toInt ∧ v38_6.toInt ≤ 640) → (∀ b, ¬ (K b = 22) → J38 b = J b) → (cpv 640 v38_6.toInt.toNat p5.toInt.toNat p2.toInt.toNat (J p1) (J p4) (J38 p4) ∧ ∀ b, ¬ b = p4 → J38 b = J b) → va_P (dC, dI) vwCl (Wd cs L K I3 J38 Q) H → va_S A s.heap H lo → lv_has ls 7 [(0, .ref p0), (1, .ref p1), (2, .int p2), (3, .ref p3), (4, .ref p4), (5, .int p5), (6, .int v38_6)] → W p l e R s m (([.ref p0, .ref p1, .int p2, .ref p3, .ref p4, .int p5] : List Value).toArray) below meth c H lo 0 0 Qz (F0 m 38 ls [])) (by
        intro n ih38
        intro v38_6 J38 H lo ls hmu38 bv38_6 dj_J38 hc38 hP hS hl
        refine lv_iload hx hb dX7_moves_38 (lv_at hl 6 rfl) ?_
        refine lv_sipush (v := 640) hx hb dX7_moves_40 (by decide +kernel) ?_
        refine lv_icmp_ge (tgt := 74) hx hb dX7_moves_43 (by decide) (fun c43 => ?_) (fun c43 => ?_)
        · have t43 := tq_le (k := (640)) (q := v38_6.toInt) c43 (by decide +kernel) rfl
          subst hR; subst hQz
          exact W.vret hx hb hr (fun t ht hW => ⟨⟨(), rfl, trivial, ⟨I3, J38, ⟨hI3, fr_I3, (by have e : v3_6.toInt.toNat = 99 := (by omega); rw [e] at hc3; exact hc3), (by have e : v38_6.toInt.toNat = 640 := (by omega); have q := hc38.1; rw [e] at q; exact q), dj_J38⟩, by rw [ht]; exact hP⟩⟩, hS.F ht⟩) hS.2.2 dX7_moves_74
        · have t43 := tq_nle (k := (640)) (q := v38_6.toInt) c43 (by decide +kernel) rfl
          refine lv_aload hx hb dX7_moves_46 (lv_at hl 4 rfl) ?_
          refine lv_sipush (v := 640) hx hb dX7_moves_48 (by decide +kernel) ?_
          refine lv_iload hx hb dX7_moves_51 (lv_at hl 5 rfl) ?_
          refine lv_imul hx hb dX7_moves_53 ?_
          refine lv_topi (fun z53 ez53 => ?_)
          have bz53 := tq_mul (k := (640)) (q := p5.toInt) ez53 (by decide +kernel) rfl (by omega) (by omega)
          refine lv_iload hx hb dX7_moves_54 (lv_at hl 6 rfl) ?_
          refine lv_iadd hx hb dX7_moves_56 ?_
          refine lv_topi (fun z56 ez56 => ?_)
          have bz56 := tq_add (k := z53.toInt) (q := v38_6.toInt) ez56 rfl rfl (by omega) (by omega)
          refine lv_aload_n hx hb dX7_moves_57 rfl (lv_at hl 1 rfl) ?_
          refine lv_sipush (v := 640) hx hb dX7_moves_58 (by decide +kernel) ?_
          refine lv_iload_n hx hb dX7_moves_61 rfl (lv_at hl 2 rfl) ?_
          refine lv_imul hx hb dX7_moves_62 ?_
          refine lv_topi (fun z62 ez62 => ?_)
          have bz62 := tq_mul (k := (640)) (q := p2.toInt) ez62 (by decide +kernel) rfl (by omega) (by omega)
          refine lv_iload hx hb dX7_moves_63 (lv_at hl 6 rfl) ?_
          refine lv_iadd hx hb dX7_moves_65 ?_
          refine lv_topi (fun z65 ez65 => ?_)
          have bz65 := tq_add (k := z62.toInt) (q := v38_6.toInt) ez65 rfl rfl (by omega) (by omega)
          refine p_lald hx hb hK hP 12 hLp1 hKp1 rfl rfl (in_of (by omega) (by omega)) dX7_moves_66 ?_
          refine lv_topl (fun z66 ez66 => ?_)
          refine p_last hx hb hK hP hD hS 12 hLp4 hKp4 rfl (fun _ => rfl) rfl (in_of (by omega) (by omega)) dX7_moves_67 (fun H locs hP hS => ?_)
          obtain ⟨Jz67, hP, qJz67⟩ : ∃ Jz67, va_P (dC, dI) vwCl (Wd cs L K I3 Jz67 Q) H ∧ Jz67 = va_up J38 p4 (vp_updL (J38 p4) z56.toNatClampNeg z66) := ⟨_, hP, rfl⟩
          have dj_Jz67 : (∀ b, ¬ (K b = 22) → Jz67 b = J b) := fun b hc => (congrFun qJz67 b).trans ((va_up_ne _ _ (fun z => hc (by have q := hKp4; rw [← z] at q; omega))).trans (dj_J38 b hc))
          obtain ⟨z68, ez68⟩ : ∃ y : Int32, y = v38_6 + 1 := ⟨_, rfl⟩
          refine lv_iinc (v := z68) (lv' := [(6, .int z68), (0, .ref p0), (1, .ref p1), (2, .int p2), (3, .ref p3), (4, .ref p4), (5, .int p5)]) hx hb dX7_moves_68 hl (k := 6) rfl (by rw [ez68]; rfl) (by decide) rfl (fun ls hl => ?_)
          have bz68 := tq_add (k := v38_6.toInt) (q := 1) ez68 rfl (by decide +kernel) (by omega) (by omega)
          refine lv_goto (tgt := 38) hx hb dX7_moves_71 (by decide) ?_
          exact ih38 _ (by omega) z68 Jz67 _ _ _ rfl ⟨by omega, by omega⟩ dj_Jz67 ⟨cpv_step hc38.1 (i := z56.toInt.toNat) (x := z66) (fun j => by rw [qJz67, va_up_self]; rfl) (by omega) (ez66.trans (cpv_src (F := J38) (F0 := J) hc38.1 (by omega) (fun q => hc38.2 p1 q) (i := z65.toInt.toNat) (by omega))) (by omega), fun b hb => by rw [qJz67, va_up_ne _ _ hb]; exact hc38.2 b hb⟩ hP hS (lv_sub hl [1, 2, 3, 4, 5, 6, 0] rfl))
      exact key38 _ 0 J _ _ _ rfl ⟨by decide +kernel, by decide +kernel⟩ dj_J ⟨cpv_0 rfl, fun _ _ => rfl⟩ hP hS (lv_sub hl [1, 2, 3, 4, 5, 6, 0] rfl)
    · have t7 := tq_nle (k := (99)) (q := v3_6.toInt) c7 (by decide +kernel) rfl
      refine lv_aload_n hx hb dX7_moves_10 rfl (lv_at hl 3 rfl) ?_
      refine lv_bipush (v := 99) hx hb dX7_moves_11 (by decide +kernel) ?_
      refine lv_iload hx hb dX7_moves_13 (lv_at hl 5 rfl) ?_
      refine lv_imul hx hb dX7_moves_15 ?_
      refine lv_topi (fun z15 ez15 => ?_)
      have bz15 := tq_mul (k := (99)) (q := p5.toInt) ez15 (by decide +kernel) rfl (by omega) (by omega)
      refine lv_iload hx hb dX7_moves_16 (lv_at hl 6 rfl) ?_
      refine lv_iadd hx hb dX7_moves_18 ?_
      refine lv_topi (fun z18 ez18 => ?_)
      have bz18 := tq_add (k := z15.toInt) (q := v3_6.toInt) ez18 rfl rfl (by omega) (by omega)
      refine lv_aload_n hx hb dX7_moves_19 rfl (lv_at hl 0 rfl) ?_
      refine lv_bipush (v := 99) hx hb dX7_moves_20 (by decide +kernel) ?_
      refine lv_iload_n hx hb dX7_moves_22 rfl (lv_at hl 2 rfl) ?_
      refine lv_imul hx hb dX7_moves_23 ?_
      refine lv_topi (fun z23 ez23 => ?_)
      have bz23 := tq_mul (k := (99)) (q := p2.toInt) ez23 (by decide +kernel) rfl (by omega) (by omega)
      refine lv_iload hx hb dX7_moves_24 (lv_at hl 6 rfl) ?_
      refine lv_iadd hx hb dX7_moves_26 ?_
      refine lv_topi (fun z26 ez26 => ?_)
      have bz26 := tq_add (k := z23.toInt) (q := v3_6.toInt) ez26 rfl rfl (by omega) (by omega)
      refine p_iald hx hb hK hP 9 hLp0 hKp0 rfl rfl (in_of (by omega) (by omega)) dX7_moves_27 ?_
      refine lv_topi (fun z27 ez27 => ?_)
      have bz27 := oR_19 (i := z26) (k := z26.toInt) rfl (Iv_at hI3 hLp0 hKp0)
      rw [← ez27] at bz27
      replace bz27 : Hid _ := bz27
      refine p_iast hx hb hK hP hD hS 9 hLp3 hKp3 rfl (fun _ => rfl) rfl (in_of (by omega) (by omega)) dX7_moves_28 (fun H locs hP hS => ?_)
      have rg28z27 := fb_rng z27
      obtain ⟨Iz28, hP, hIz28, qIz28⟩ : ∃ Iz28, va_P (dC, dI) vwCl (Wd cs L K Iz28 J Q) H ∧ Iv L K x0 m0 tx tm Iz28 ∧ Iz28 = va_up I3 p3 (upd (I3 p3) z18.toNatClampNeg z27) := ⟨_, hP, Iv_put hI3 hKp3 (oU_19 (i := z18) (k := z18.toInt) rfl (Iv_at hI3 hLp3 hKp3) (by have q : rng tm.2 (z26.toInt.toNat % 99) z27.toInt := bz27; rw [show z18.toInt.toNat % 99 = z26.toInt.toNat % 99 by omega]; exact q)) (Or.inl (by decide)) (Or.inl (by decide)), rfl⟩
      have fr_Iz28 : ∀ b, ¬ (b = p3) → Iz28 b = I b := fun b q => (congrFun qIz28 b).trans ((va_up_ne _ _ (fun z => q z)).trans (fr_I3 b q))
      obtain ⟨z29, ez29⟩ : ∃ y : Int32, y = v3_6 + 1 := ⟨_, rfl⟩
      refine lv_iinc (v := z29) (lv' := [(6, .int z29), (0, .ref p0), (1, .ref p1), (2, .int p2), (3, .ref p3), (4, .ref p4), (5, .int p5)]) hx hb dX7_moves_29 hl (k := 6) rfl (by rw [ez29]; rfl) (by decide) rfl (fun ls hl => ?_)
      have bz29 := tq_add (k := v3_6.toInt) (q := 1) ez29 rfl (by decide +kernel) (by omega) (by omega)
      refine lv_goto (tgt := 3) hx hb dX7_moves_32 (by decide) ?_
      exact ih3 _ (by omega) z29 Iz28 _ _ _ rfl ⟨by omega, by omega⟩ hIz28 fr_Iz28 (cpv_step hc3 (i := z18.toInt.toNat) (x := z27) (fun j => by rw [qIz28, va_up_self]; rfl) (by omega) (ez27.trans (cpv_src (F := I3) (F0 := I) hc3 (by omega) (fun q => fr_I3 p0 q) (i := z26.toInt.toNat) (by omega))) (by omega)) hP hS (lv_sub hl [1, 2, 3, 4, 5, 6, 0] rfl))
  exact key3 _ 0 I _ _ _ rfl ⟨by decide +kernel, by decide +kernel⟩ hI fr_I (cpv_0 rfl) hP hS (lv_sub hl [1, 2, 3, 4, 5, 6, 0] rfl)

set_option maxHeartbeats 4000000 in
set_option maxRecDepth 100000 in
theorem s_X7_movesU (l : Launch) (dC : Nat → ClassId) (dI : Nat → Nat → Nat) (cs : Nat → ClassId) (L : List Nat) (K G : Nat → Nat) (Q : Nat → Nat → Option Nat) (hQ : Sv L K G Q) (x0 m0 : Nat) (tx : GT) (tm : GT × Int) (sz : Nat) (I : Nat → Nat → Int32) (J : Nat → Nat → Int64) (hI : Iv L K x0 m0 tx tm I) (p0 : Nat) (hLp0 : p0 ∈ L) (hKp0 : K p0 = 19) (p1 : Nat) (hLp1 : p1 ∈ L) (hKp1 : K p1 = 22) (p2 : Int32) (bp2 : (0) ≤ p2.toInt ∧ p2.toInt ≤ 9) (p3 : Nat) (hLp3 : p3 ∈ L) (hKp3 : K p3 = 18) (p4 : Nat) (hLp4 : p4 ∈ L) (hKp4 : K p4 = 21) (p5 : Int32) (bp5 : (0) ≤ p5.toInt ∧ p5.toInt ≤ 0) : Met l yX7_moves (.code yX7_moves cX7_moves 7 none :: pw) ({ frames := 0, cells := 0, slots := 0, locals := 0 }) (sP (dC, dI) cs [.ref p0, .ref p1, .int p2, .ref p3, .ref p4, .int p5] sz L K I J Q) (va_Qv (fun (_ : Unit) => True) (fun _ t => sB (dC, dI) cs L K Q (fun I1 J1 => Iv L K x0 m0 tx tm I1 ∧ (∀ b, ¬ (b = p3) → I1 b = I b) ∧ cpd 99 p5.toInt.toNat p2.toInt.toNat (I p0) (I p3) (I1 p3) ∧ cpd 640 p5.toInt.toNat p2.toInt.toNat (J p1) (J p4) (J1 p4) ∧ (∀ b, ¬ (K b = 21) → J1 b = J b)) t) (fun q => q ∈ L ∨ sz ≤ q)) 0 0 (fun q => q ∈ L ∨ sz ≤ q) := by
  refine Met.ofW (cc := cX7_moves) (maxL := 7) (ret := none) (by decide +kernel) rfl ?_
  intro p e s m args below meth c s₁ B hml hv
  obtain ⟨rfl, hsz, hP, hK, hD0, hN⟩ := hv
  have hx := B.exec
  have hb := B.bytes
  have hr := B.returns
  have hts := fun w (h : w ∈ pw) => atoms_spec (ws := Cond.code yX7_moves cX7_moves 7 none :: pw) B.pre w (List.mem_cons_of_mem _ h)
  have hown : s.vm.findClass RX7 = some m.cls := findClass_of_methodNamed B.named
  have hlocks := B.notSynchronized
  subst hsz
  have hBB : 999 ≤ tm.2 ∧ tm.2 ≤ 6000000 := hI.2.2.2.2.1
  have dj_J : (∀ b, ¬ (K b = 21) → J b = J b) := fun _ _ => rfl
  have fr_I : ∀ b, ¬ (b = p3) → I b = I b := fun _ _ => rfl
  obtain ⟨A, hAe⟩ : ∃ A : Nat → Prop, A = (fun q => q ∈ L ∨ s.heap.size ≤ q) := ⟨_, rfl⟩
  rw [← hAe]
  have hAL : ∀ q, q ∈ L → A q := fun q h => by rw [hAe]; exact Or.inl h
  have hA : ∀ q, s.heap.size ≤ q → A q := fun q h => by rw [hAe]; exact Or.inr h
  have hD : ∀ F, va_D A (va_pl L F) := fun F => (hD0 F).weaken (fun k q hk _ => hAL _ (pl_mem hk))
  obtain ⟨H, hHe⟩ : ∃ H : Heap, H = s.heap := ⟨_, rfl⟩
  have hS : va_S A s.heap H [] := by rw [hHe]; exact va_S.rf
  rw [← hHe] at hP
  have hl := lv_entry ([.ref p0, .ref p1, .int p2, .ref p3, .ref p4, .int p5]) (n := 7) (Nat.le_of_ble_eq_true rfl)
  rw [lg_entry_eq]
  generalize (lg_sl ([.ref p0, .ref p1, .int p2, .ref p3, .ref p4, .int p5]) ++ List.replicate (7 - (lg_sl ([.ref p0, .ref p1, .int p2, .ref p3, .ref p4, .int p5])).length) Slot.unset).toArray = ls at hl ⊢
  have hl : lv_has ls 7 [(0, .ref p0), (1, .ref p1), (2, .int p2), (3, .ref p3), (4, .ref p4), (5, .int p5)] := hl
  rw [← hHe]
  refine namedW (fun R Qz hR hQz => ?_)
  refine lv_iconst (v := 0) hx hb dX7_moves_0 (by decide +kernel) ?_
  refine lv_istore (lv' := [(6, .int 0), (0, .ref p0), (1, .ref p1), (2, .int p2), (3, .ref p3), (4, .ref p4), (5, .int p5)]) hx hb dX7_moves_1 hl (by decide) rfl (fun ls hl => ?_)
  have key3 := blocks (fun n => ∀ (v3_6 : Int32) (I3 : Nat → Nat → Int32) (H : Heap) (lo : List Loc) (ls : Array Slot), (100 - v3_6.toInt).toNat = n → ((0) ≤ v3_6.toInt ∧ v3_6.toInt ≤ 99) → Iv L K x0 m0 tx tm I3 → (∀ b, ¬ (b = p3) → I3 b = I b) → cpv 99 v3_6.toInt.toNat p5.toInt.toNat p2.toInt.toNat (I p0) (I p3) (I3 p3) → va_P (dC, dI) vwCl (Wd cs L K I3 J Q) H → va_S A s.heap H lo → lv_has ls 7 [(0, .ref p0), (1, .ref p1), (2, .int p2), (3, .ref p3), (4, .ref p4), (5, .int p5), (6, .int v3_6)] → W p l e R s m (([.ref p0, .ref p1, .int p2, .ref p3, .ref p4, .int p5] : List Value).toArray) below meth c H lo 0 0 Qz (F0 m 3 ls [])) (by
    intro n ih3
    intro v3_6 I3 H lo ls hmu3 bv3_6 hI3 fr_I3 hc3 hP hS hl
    refine lv_iload hx hb dX7_moves_3 (lv_at hl 6 rfl) ?_
    refine lv_bipush (v := 99) hx hb dX7_moves_5 (by decide +kernel) ?_
    refine lv_icmp_ge (tgt := 35) hx hb dX7_moves_7 (by decide) (fun c7 => ?_) (fun c7 => ?_)
    · have t7 := tq_le (k := (99)) (q := v3_6.toInt) c7 (by decide +kernel) rfl
      refine lv_iconst (v := 0) hx hb dX7_moves_35 (by decide +kernel) ?_
      refine lv_istore (lv' := [(6, .int 0), (0, .ref p0), (1, .ref p1), (2, .int p2), (3, .ref p3), (4, .ref p4), (5, .int p5)]) hx hb dX7_moves_36 hl (by decide) rfl (fun ls hl => ?_)
      have key38 := blocks (fun n => ∀ (v38_6 : Int32) (J38 : Nat → Nat → Int64) (H : Heap) (lo : List Loc) (ls : Array Slot), (641 - v38_6.toInt).toNat = n → ((0) ≤ v38_6.toInt ∧ v38_6.toInt ≤ 640) → (∀ b, ¬ (K b = 21) → J38 b = J b) → (cpv 640 v38_6.toInt.toNat p5.toInt.toNat p2.toInt.toNat (J p1) (J p4) (J38 p4) ∧ ∀ b, ¬ b = p4 → J38 b = J b) → va_P (dC, dI) vwCl (Wd cs L K I3 J38 Q) H → va_S A s.heap H lo → lv_has ls 7 [(0, .ref p0), (1, .ref p1), (2, .int p2), (3, .ref p3), (4, .ref p4), (5, .int p5), (6, .int v38_6)] → W p l e R s m (([.ref p0, .ref p1, .int p2, .ref p3, .ref p4, .int p5] : List Value).toArray) below meth c H lo 0 0 Qz (F0 m 38 ls [])) (by
        intro n ih38
        intro v38_6 J38 H lo ls hmu38 bv38_6 dj_J38 hc38 hP hS hl
        refine lv_iload hx hb dX7_moves_38 (lv_at hl 6 rfl) ?_
        refine lv_sipush (v := 640) hx hb dX7_moves_40 (by decide +kernel) ?_
        refine lv_icmp_ge (tgt := 74) hx hb dX7_moves_43 (by decide) (fun c43 => ?_) (fun c43 => ?_)
        · have t43 := tq_le (k := (640)) (q := v38_6.toInt) c43 (by decide +kernel) rfl
          subst hR; subst hQz
          exact W.vret hx hb hr (fun t ht hW => ⟨⟨(), rfl, trivial, ⟨I3, J38, ⟨hI3, fr_I3, (by have e : v3_6.toInt.toNat = 99 := (by omega); rw [e] at hc3; exact hc3), (by have e : v38_6.toInt.toNat = 640 := (by omega); have q := hc38.1; rw [e] at q; exact q), dj_J38⟩, by rw [ht]; exact hP⟩⟩, hS.F ht⟩) hS.2.2 dX7_moves_74
        · have t43 := tq_nle (k := (640)) (q := v38_6.toInt) c43 (by decide +kernel) rfl
          refine lv_aload hx hb dX7_moves_46 (lv_at hl 4 rfl) ?_
          refine lv_sipush (v := 640) hx hb dX7_moves_48 (by decide +kernel) ?_
          refine lv_iload hx hb dX7_moves_51 (lv_at hl 5 rfl) ?_
          refine lv_imul hx hb dX7_moves_53 ?_
          refine lv_topi (fun z53 ez53 => ?_)
          have bz53 := tq_mul (k := (640)) (q := p5.toInt) ez53 (by decide +kernel) rfl (by omega) (by omega)
          refine lv_iload hx hb dX7_moves_54 (lv_at hl 6 rfl) ?_
          refine lv_iadd hx hb dX7_moves_56 ?_
          refine lv_topi (fun z56 ez56 => ?_)
          have bz56 := tq_add (k := z53.toInt) (q := v38_6.toInt) ez56 rfl rfl (by omega) (by omega)
          refine lv_aload_n hx hb dX7_moves_57 rfl (lv_at hl 1 rfl) ?_
          refine lv_sipush (v := 640) hx hb dX7_moves_58 (by decide +kernel) ?_
          refine lv_iload_n hx hb dX7_moves_61 rfl (lv_at hl 2 rfl) ?_
          refine lv_imul hx hb dX7_moves_62 ?_
          refine lv_topi (fun z62 ez62 => ?_)
          have bz62 := tq_mul (k := (640)) (q := p2.toInt) ez62 (by decide +kernel) rfl (by omega) (by omega)
          refine lv_iload hx hb dX7_moves_63 (lv_at hl 6 rfl) ?_
          refine lv_iadd hx hb dX7_moves_65 ?_
          refine lv_topi (fun z65 ez65 => ?_)
          have bz65 := tq_add (k := z62.toInt) (q := v38_6.toInt) ez65 rfl rfl (by omega) (by omega)
          refine p_lald hx hb hK hP 12 hLp1 hKp1 rfl rfl (in_of (by omega) (by omega)) dX7_moves_66 ?_
          refine lv_topl (fun z66 ez66 => ?_)
          refine p_last hx hb hK hP hD hS 11 hLp4 hKp4 rfl (fun _ => rfl) rfl (in_of (by omega) (by omega)) dX7_moves_67 (fun H locs hP hS => ?_)
          obtain ⟨Jz67, hP, qJz67⟩ : ∃ Jz67, va_P (dC, dI) vwCl (Wd cs L K I3 Jz67 Q) H ∧ Jz67 = va_up J38 p4 (vp_updL (J38 p4) z56.toNatClampNeg z66) := ⟨_, hP, rfl⟩
          have dj_Jz67 : (∀ b, ¬ (K b = 21) → Jz67 b = J b) := fun b hc => (congrFun qJz67 b).trans ((va_up_ne _ _ (fun z => hc (by have q := hKp4; rw [← z] at q; omega))).trans (dj_J38 b hc))
          obtain ⟨z68, ez68⟩ : ∃ y : Int32, y = v38_6 + 1 := ⟨_, rfl⟩
          refine lv_iinc (v := z68) (lv' := [(6, .int z68), (0, .ref p0), (1, .ref p1), (2, .int p2), (3, .ref p3), (4, .ref p4), (5, .int p5)]) hx hb dX7_moves_68 hl (k := 6) rfl (by rw [ez68]; rfl) (by decide) rfl (fun ls hl => ?_)
          have bz68 := tq_add (k := v38_6.toInt) (q := 1) ez68 rfl (by decide +kernel) (by omega) (by omega)
          refine lv_goto (tgt := 38) hx hb dX7_moves_71 (by decide) ?_
          exact ih38 _ (by omega) z68 Jz67 _ _ _ rfl ⟨by omega, by omega⟩ dj_Jz67 ⟨cpv_step hc38.1 (i := z56.toInt.toNat) (x := z66) (fun j => by rw [qJz67, va_up_self]; rfl) (by omega) (ez66.trans (cpv_src (F := J38) (F0 := J) hc38.1 (by omega) (fun q => hc38.2 p1 q) (i := z65.toInt.toNat) (by omega))) (by omega), fun b hb => by rw [qJz67, va_up_ne _ _ hb]; exact hc38.2 b hb⟩ hP hS (lv_sub hl [1, 2, 3, 4, 5, 6, 0] rfl))
      exact key38 _ 0 J _ _ _ rfl ⟨by decide +kernel, by decide +kernel⟩ dj_J ⟨cpv_0 rfl, fun _ _ => rfl⟩ hP hS (lv_sub hl [1, 2, 3, 4, 5, 6, 0] rfl)
    · have t7 := tq_nle (k := (99)) (q := v3_6.toInt) c7 (by decide +kernel) rfl
      refine lv_aload_n hx hb dX7_moves_10 rfl (lv_at hl 3 rfl) ?_
      refine lv_bipush (v := 99) hx hb dX7_moves_11 (by decide +kernel) ?_
      refine lv_iload hx hb dX7_moves_13 (lv_at hl 5 rfl) ?_
      refine lv_imul hx hb dX7_moves_15 ?_
      refine lv_topi (fun z15 ez15 => ?_)
      have bz15 := tq_mul (k := (99)) (q := p5.toInt) ez15 (by decide +kernel) rfl (by omega) (by omega)
      refine lv_iload hx hb dX7_moves_16 (lv_at hl 6 rfl) ?_
      refine lv_iadd hx hb dX7_moves_18 ?_
      refine lv_topi (fun z18 ez18 => ?_)
      have bz18 := tq_add (k := z15.toInt) (q := v3_6.toInt) ez18 rfl rfl (by omega) (by omega)
      refine lv_aload_n hx hb dX7_moves_19 rfl (lv_at hl 0 rfl) ?_
      refine lv_bipush (v := 99) hx hb dX7_moves_20 (by decide +kernel) ?_
      refine lv_iload_n hx hb dX7_moves_22 rfl (lv_at hl 2 rfl) ?_
      refine lv_imul hx hb dX7_moves_23 ?_
      refine lv_topi (fun z23 ez23 => ?_)
      have bz23 := tq_mul (k := (99)) (q := p2.toInt) ez23 (by decide +kernel) rfl (by omega) (by omega)
      refine lv_iload hx hb dX7_moves_24 (lv_at hl 6 rfl) ?_
      refine lv_iadd hx hb dX7_moves_26 ?_
      refine lv_topi (fun z26 ez26 => ?_)
      have bz26 := tq_add (k := z23.toInt) (q := v3_6.toInt) ez26 rfl rfl (by omega) (by omega)
      refine p_iald hx hb hK hP 9 hLp0 hKp0 rfl rfl (in_of (by omega) (by omega)) dX7_moves_27 ?_
      refine lv_topi (fun z27 ez27 => ?_)
      have bz27 := oR_19 (i := z26) (k := z26.toInt) rfl (Iv_at hI3 hLp0 hKp0)
      rw [← ez27] at bz27
      replace bz27 : Hid _ := bz27
      refine p_iast hx hb hK hP hD hS 8 hLp3 hKp3 rfl (fun _ => rfl) rfl (in_of (by omega) (by omega)) dX7_moves_28 (fun H locs hP hS => ?_)
      have rg28z27 := fb_rng z27
      obtain ⟨Iz28, hP, hIz28, qIz28⟩ : ∃ Iz28, va_P (dC, dI) vwCl (Wd cs L K Iz28 J Q) H ∧ Iv L K x0 m0 tx tm Iz28 ∧ Iz28 = va_up I3 p3 (upd (I3 p3) z18.toNatClampNeg z27) := ⟨_, hP, Iv_put hI3 hKp3 (oU_18 (i := z18) (k := z18.toInt) rfl (Iv_at hI3 hLp3 hKp3) (by have q : rng tm.2 (z26.toInt.toNat % 99) z27.toInt := bz27; rw [show z18.toInt.toNat = z26.toInt.toNat % 99 by omega]; exact q)) (Or.inl (by decide)) (Or.inl (by decide)), rfl⟩
      have fr_Iz28 : ∀ b, ¬ (b = p3) → Iz28 b = I b := fun b q => (congrFun qIz28 b).trans ((va_up_ne _ _ (fun z => q z)).trans (fr_I3 b q))
      obtain ⟨z29, ez29⟩ : ∃ y : Int32, y = v3_6 + 1 := ⟨_, rfl⟩
      refine lv_iinc (v := z29) (lv' := [(6, .int z29), (0, .ref p0), (1, .ref p1), (2, .int p2), (3, .ref p3), (4, .ref p4), (5, .int p5)]) hx hb dX7_moves_29 hl (k := 6) rfl (by rw [ez29]; rfl) (by decide) rfl (fun ls hl => ?_)
      have bz29 := tq_add (k := v3_6.toInt) (q := 1) ez29 rfl (by decide +kernel) (by omega) (by omega)
      refine lv_goto (tgt := 3) hx hb dX7_moves_32 (by decide) ?_
      exact ih3 _ (by omega) z29 Iz28 _ _ _ rfl ⟨by omega, by omega⟩ hIz28 fr_Iz28 (cpv_step hc3 (i := z18.toInt.toNat) (x := z27) (fun j => by rw [qIz28, va_up_self]; rfl) (by omega) (ez27.trans (cpv_src (F := I3) (F0 := I) hc3 (by omega) (fun q => fr_I3 p0 q) (i := z26.toInt.toNat) (by omega))) (by omega)) hP hS (lv_sub hl [1, 2, 3, 4, 5, 6, 0] rfl))
  exact key3 _ 0 I _ _ _ rfl ⟨by decide +kernel, by decide +kernel⟩ hI fr_I (cpv_0 rfl) hP hS (lv_sub hl [1, 2, 3, 4, 5, 6, 0] rfl)

set_option maxHeartbeats 4000000 in
set_option maxRecDepth 100000 in
theorem s_X7_movesK (l : Launch) (dC : Nat → ClassId) (dI : Nat → Nat → Nat) (cs : Nat → ClassId) (L : List Nat) (K G : Nat → Nat) (Q : Nat → Nat → Option Nat) (hQ : Sv L K G Q) (x0 m0 : Nat) (tx : GT) (tm : GT × Int) (sz : Nat) (I : Nat → Nat → Int32) (J : Nat → Nat → Int64) (hI : Iv L K x0 m0 tx tm I) (p0 : Nat) (hLp0 : p0 ∈ L) (hKp0 : K p0 = 18) (p1 : Nat) (hLp1 : p1 ∈ L) (hKp1 : K p1 = 21) (p2 : Int32) (bp2 : (0) ≤ p2.toInt ∧ p2.toInt ≤ 0) (p3 : Nat) (hLp3 : p3 ∈ L) (hKp3 : K p3 = 20) (p4 : Nat) (hLp4 : p4 ∈ L) (hKp4 : K p4 = 23) (p5 : Int32) (bp5 : (0) ≤ p5.toInt ∧ p5.toInt ≤ 1) : Met l yX7_moves (.code yX7_moves cX7_moves 7 none :: pw) ({ frames := 0, cells := 0, slots := 0, locals := 0 }) (sP (dC, dI) cs [.ref p0, .ref p1, .int p2, .ref p3, .ref p4, .int p5] sz L K I J Q) (va_Qv (fun (_ : Unit) => True) (fun _ t => sB (dC, dI) cs L K Q (fun I1 J1 => Iv L K x0 m0 tx tm I1 ∧ (∀ b, ¬ (b = p3) → I1 b = I b) ∧ cpd 99 p5.toInt.toNat p2.toInt.toNat (I p0) (I p3) (I1 p3) ∧ cpd 640 p5.toInt.toNat p2.toInt.toNat (J p1) (J p4) (J1 p4) ∧ (∀ b, ¬ (K b = 23) → J1 b = J b)) t) (fun q => q ∈ L ∨ sz ≤ q)) 0 0 (fun q => q ∈ L ∨ sz ≤ q) := by
  refine Met.ofW (cc := cX7_moves) (maxL := 7) (ret := none) (by decide +kernel) rfl ?_
  intro p e s m args below meth c s₁ B hml hv
  obtain ⟨rfl, hsz, hP, hK, hD0, hN⟩ := hv
  have hx := B.exec
  have hb := B.bytes
  have hr := B.returns
  have hts := fun w (h : w ∈ pw) => atoms_spec (ws := Cond.code yX7_moves cX7_moves 7 none :: pw) B.pre w (List.mem_cons_of_mem _ h)
  have hown : s.vm.findClass RX7 = some m.cls := findClass_of_methodNamed B.named
  have hlocks := B.notSynchronized
  subst hsz
  have hBB : 999 ≤ tm.2 ∧ tm.2 ≤ 6000000 := hI.2.2.2.2.1
  have dj_J : (∀ b, ¬ (K b = 23) → J b = J b) := fun _ _ => rfl
  have fr_I : ∀ b, ¬ (b = p3) → I b = I b := fun _ _ => rfl
  obtain ⟨A, hAe⟩ : ∃ A : Nat → Prop, A = (fun q => q ∈ L ∨ s.heap.size ≤ q) := ⟨_, rfl⟩
  rw [← hAe]
  have hAL : ∀ q, q ∈ L → A q := fun q h => by rw [hAe]; exact Or.inl h
  have hA : ∀ q, s.heap.size ≤ q → A q := fun q h => by rw [hAe]; exact Or.inr h
  have hD : ∀ F, va_D A (va_pl L F) := fun F => (hD0 F).weaken (fun k q hk _ => hAL _ (pl_mem hk))
  obtain ⟨H, hHe⟩ : ∃ H : Heap, H = s.heap := ⟨_, rfl⟩
  have hS : va_S A s.heap H [] := by rw [hHe]; exact va_S.rf
  rw [← hHe] at hP
  have hl := lv_entry ([.ref p0, .ref p1, .int p2, .ref p3, .ref p4, .int p5]) (n := 7) (Nat.le_of_ble_eq_true rfl)
  rw [lg_entry_eq]
  generalize (lg_sl ([.ref p0, .ref p1, .int p2, .ref p3, .ref p4, .int p5]) ++ List.replicate (7 - (lg_sl ([.ref p0, .ref p1, .int p2, .ref p3, .ref p4, .int p5])).length) Slot.unset).toArray = ls at hl ⊢
  have hl : lv_has ls 7 [(0, .ref p0), (1, .ref p1), (2, .int p2), (3, .ref p3), (4, .ref p4), (5, .int p5)] := hl
  rw [← hHe]
  refine namedW (fun R Qz hR hQz => ?_)
  refine lv_iconst (v := 0) hx hb dX7_moves_0 (by decide +kernel) ?_
  refine lv_istore (lv' := [(6, .int 0), (0, .ref p0), (1, .ref p1), (2, .int p2), (3, .ref p3), (4, .ref p4), (5, .int p5)]) hx hb dX7_moves_1 hl (by decide) rfl (fun ls hl => ?_)
  have key3 := blocks (fun n => ∀ (v3_6 : Int32) (I3 : Nat → Nat → Int32) (H : Heap) (lo : List Loc) (ls : Array Slot), (100 - v3_6.toInt).toNat = n → ((0) ≤ v3_6.toInt ∧ v3_6.toInt ≤ 99) → Iv L K x0 m0 tx tm I3 → (∀ b, ¬ (b = p3) → I3 b = I b) → cpv 99 v3_6.toInt.toNat p5.toInt.toNat p2.toInt.toNat (I p0) (I p3) (I3 p3) → va_P (dC, dI) vwCl (Wd cs L K I3 J Q) H → va_S A s.heap H lo → lv_has ls 7 [(0, .ref p0), (1, .ref p1), (2, .int p2), (3, .ref p3), (4, .ref p4), (5, .int p5), (6, .int v3_6)] → W p l e R s m (([.ref p0, .ref p1, .int p2, .ref p3, .ref p4, .int p5] : List Value).toArray) below meth c H lo 0 0 Qz (F0 m 3 ls [])) (by
    intro n ih3
    intro v3_6 I3 H lo ls hmu3 bv3_6 hI3 fr_I3 hc3 hP hS hl
    refine lv_iload hx hb dX7_moves_3 (lv_at hl 6 rfl) ?_
    refine lv_bipush (v := 99) hx hb dX7_moves_5 (by decide +kernel) ?_
    refine lv_icmp_ge (tgt := 35) hx hb dX7_moves_7 (by decide) (fun c7 => ?_) (fun c7 => ?_)
    · have t7 := tq_le (k := (99)) (q := v3_6.toInt) c7 (by decide +kernel) rfl
      refine lv_iconst (v := 0) hx hb dX7_moves_35 (by decide +kernel) ?_
      refine lv_istore (lv' := [(6, .int 0), (0, .ref p0), (1, .ref p1), (2, .int p2), (3, .ref p3), (4, .ref p4), (5, .int p5)]) hx hb dX7_moves_36 hl (by decide) rfl (fun ls hl => ?_)
      have key38 := blocks (fun n => ∀ (v38_6 : Int32) (J38 : Nat → Nat → Int64) (H : Heap) (lo : List Loc) (ls : Array Slot), (641 - v38_6.toInt).toNat = n → ((0) ≤ v38_6.toInt ∧ v38_6.toInt ≤ 640) → (∀ b, ¬ (K b = 23) → J38 b = J b) → (cpv 640 v38_6.toInt.toNat p5.toInt.toNat p2.toInt.toNat (J p1) (J p4) (J38 p4) ∧ ∀ b, ¬ b = p4 → J38 b = J b) → va_P (dC, dI) vwCl (Wd cs L K I3 J38 Q) H → va_S A s.heap H lo → lv_has ls 7 [(0, .ref p0), (1, .ref p1), (2, .int p2), (3, .ref p3), (4, .ref p4), (5, .int p5), (6, .int v38_6)] → W p l e R s m (([.ref p0, .ref p1, .int p2, .ref p3, .ref p4, .int p5] : List Value).toArray) below meth c H lo 0 0 Qz (F0 m 38 ls [])) (by
        intro n ih38
        intro v38_6 J38 H lo ls hmu38 bv38_6 dj_J38 hc38 hP hS hl
        refine lv_iload hx hb dX7_moves_38 (lv_at hl 6 rfl) ?_
        refine lv_sipush (v := 640) hx hb dX7_moves_40 (by decide +kernel) ?_
        refine lv_icmp_ge (tgt := 74) hx hb dX7_moves_43 (by decide) (fun c43 => ?_) (fun c43 => ?_)
        · have t43 := tq_le (k := (640)) (q := v38_6.toInt) c43 (by decide +kernel) rfl
          subst hR; subst hQz
          exact W.vret hx hb hr (fun t ht hW => ⟨⟨(), rfl, trivial, ⟨I3, J38, ⟨hI3, fr_I3, (by have e : v3_6.toInt.toNat = 99 := (by omega); rw [e] at hc3; exact hc3), (by have e : v38_6.toInt.toNat = 640 := (by omega); have q := hc38.1; rw [e] at q; exact q), dj_J38⟩, by rw [ht]; exact hP⟩⟩, hS.F ht⟩) hS.2.2 dX7_moves_74
        · have t43 := tq_nle (k := (640)) (q := v38_6.toInt) c43 (by decide +kernel) rfl
          refine lv_aload hx hb dX7_moves_46 (lv_at hl 4 rfl) ?_
          refine lv_sipush (v := 640) hx hb dX7_moves_48 (by decide +kernel) ?_
          refine lv_iload hx hb dX7_moves_51 (lv_at hl 5 rfl) ?_
          refine lv_imul hx hb dX7_moves_53 ?_
          refine lv_topi (fun z53 ez53 => ?_)
          have bz53 := tq_mul (k := (640)) (q := p5.toInt) ez53 (by decide +kernel) rfl (by omega) (by omega)
          refine lv_iload hx hb dX7_moves_54 (lv_at hl 6 rfl) ?_
          refine lv_iadd hx hb dX7_moves_56 ?_
          refine lv_topi (fun z56 ez56 => ?_)
          have bz56 := tq_add (k := z53.toInt) (q := v38_6.toInt) ez56 rfl rfl (by omega) (by omega)
          refine lv_aload_n hx hb dX7_moves_57 rfl (lv_at hl 1 rfl) ?_
          refine lv_sipush (v := 640) hx hb dX7_moves_58 (by decide +kernel) ?_
          refine lv_iload_n hx hb dX7_moves_61 rfl (lv_at hl 2 rfl) ?_
          refine lv_imul hx hb dX7_moves_62 ?_
          refine lv_topi (fun z62 ez62 => ?_)
          have bz62 := tq_mul (k := (640)) (q := p2.toInt) ez62 (by decide +kernel) rfl (by omega) (by omega)
          refine lv_iload hx hb dX7_moves_63 (lv_at hl 6 rfl) ?_
          refine lv_iadd hx hb dX7_moves_65 ?_
          refine lv_topi (fun z65 ez65 => ?_)
          have bz65 := tq_add (k := z62.toInt) (q := v38_6.toInt) ez65 rfl rfl (by omega) (by omega)
          refine p_lald hx hb hK hP 11 hLp1 hKp1 rfl rfl (in_of (by omega) (by omega)) dX7_moves_66 ?_
          refine lv_topl (fun z66 ez66 => ?_)
          refine p_last hx hb hK hP hD hS 13 hLp4 hKp4 rfl (fun _ => rfl) rfl (in_of (by omega) (by omega)) dX7_moves_67 (fun H locs hP hS => ?_)
          obtain ⟨Jz67, hP, qJz67⟩ : ∃ Jz67, va_P (dC, dI) vwCl (Wd cs L K I3 Jz67 Q) H ∧ Jz67 = va_up J38 p4 (vp_updL (J38 p4) z56.toNatClampNeg z66) := ⟨_, hP, rfl⟩
          have dj_Jz67 : (∀ b, ¬ (K b = 23) → Jz67 b = J b) := fun b hc => (congrFun qJz67 b).trans ((va_up_ne _ _ (fun z => hc (by have q := hKp4; rw [← z] at q; omega))).trans (dj_J38 b hc))
          obtain ⟨z68, ez68⟩ : ∃ y : Int32, y = v38_6 + 1 := ⟨_, rfl⟩
          refine lv_iinc (v := z68) (lv' := [(6, .int z68), (0, .ref p0), (1, .ref p1), (2, .int p2), (3, .ref p3), (4, .ref p4), (5, .int p5)]) hx hb dX7_moves_68 hl (k := 6) rfl (by rw [ez68]; rfl) (by decide) rfl (fun ls hl => ?_)
          have bz68 := tq_add (k := v38_6.toInt) (q := 1) ez68 rfl (by decide +kernel) (by omega) (by omega)
          refine lv_goto (tgt := 38) hx hb dX7_moves_71 (by decide) ?_
          exact ih38 _ (by omega) z68 Jz67 _ _ _ rfl ⟨by omega, by omega⟩ dj_Jz67 ⟨cpv_step hc38.1 (i := z56.toInt.toNat) (x := z66) (fun j => by rw [qJz67, va_up_self]; rfl) (by omega) (ez66.trans (cpv_src (F := J38) (F0 := J) hc38.1 (by omega) (fun q => hc38.2 p1 q) (i := z65.toInt.toNat) (by omega))) (by omega), fun b hb => by rw [qJz67, va_up_ne _ _ hb]; exact hc38.2 b hb⟩ hP hS (lv_sub hl [1, 2, 3, 4, 5, 6, 0] rfl))
      exact key38 _ 0 J _ _ _ rfl ⟨by decide +kernel, by decide +kernel⟩ dj_J ⟨cpv_0 rfl, fun _ _ => rfl⟩ hP hS (lv_sub hl [1, 2, 3, 4, 5, 6, 0] rfl)
    · have t7 := tq_nle (k := (99)) (q := v3_6.toInt) c7 (by decide +kernel) rfl
      refine lv_aload_n hx hb dX7_moves_10 rfl (lv_at hl 3 rfl) ?_
      refine lv_bipush (v := 99) hx hb dX7_moves_11 (by decide +kernel) ?_
      refine lv_iload hx hb dX7_moves_13 (lv_at hl 5 rfl) ?_
      refine lv_imul hx hb dX7_moves_15 ?_
      refine lv_topi (fun z15 ez15 => ?_)
      have bz15 := tq_mul (k := (99)) (q := p5.toInt) ez15 (by decide +kernel) rfl (by omega) (by omega)
      refine lv_iload hx hb dX7_moves_16 (lv_at hl 6 rfl) ?_
      refine lv_iadd hx hb dX7_moves_18 ?_
      refine lv_topi (fun z18 ez18 => ?_)
      have bz18 := tq_add (k := z15.toInt) (q := v3_6.toInt) ez18 rfl rfl (by omega) (by omega)
      refine lv_aload_n hx hb dX7_moves_19 rfl (lv_at hl 0 rfl) ?_
      refine lv_bipush (v := 99) hx hb dX7_moves_20 (by decide +kernel) ?_
      refine lv_iload_n hx hb dX7_moves_22 rfl (lv_at hl 2 rfl) ?_
      refine lv_imul hx hb dX7_moves_23 ?_
      refine lv_topi (fun z23 ez23 => ?_)
      have bz23 := tq_mul (k := (99)) (q := p2.toInt) ez23 (by decide +kernel) rfl (by omega) (by omega)
      refine lv_iload hx hb dX7_moves_24 (lv_at hl 6 rfl) ?_
      refine lv_iadd hx hb dX7_moves_26 ?_
      refine lv_topi (fun z26 ez26 => ?_)
      have bz26 := tq_add (k := z23.toInt) (q := v3_6.toInt) ez26 rfl rfl (by omega) (by omega)
      refine p_iald hx hb hK hP 8 hLp0 hKp0 rfl rfl (in_of (by omega) (by omega)) dX7_moves_27 ?_
      refine lv_topi (fun z27 ez27 => ?_)
      have bz27 := oR_18 (i := z26) (k := z26.toInt) rfl (Iv_at hI3 hLp0 hKp0)
      rw [← ez27] at bz27
      replace bz27 : Hid _ := bz27
      refine p_iast hx hb hK hP hD hS 10 hLp3 hKp3 rfl (fun _ => rfl) rfl (in_of (by omega) (by omega)) dX7_moves_28 (fun H locs hP hS => ?_)
      have rg28z27 := fb_rng z27
      obtain ⟨Iz28, hP, hIz28, qIz28⟩ : ∃ Iz28, va_P (dC, dI) vwCl (Wd cs L K Iz28 J Q) H ∧ Iv L K x0 m0 tx tm Iz28 ∧ Iz28 = va_up I3 p3 (upd (I3 p3) z18.toNatClampNeg z27) := ⟨_, hP, Iv_put hI3 hKp3 (oU_20 (i := z18) (k := z18.toInt) rfl (Iv_at hI3 hLp3 hKp3) (by have q : rng tm.2 (z26.toInt.toNat) z27.toInt := bz27; rw [show z18.toInt.toNat % 99 = z26.toInt.toNat by omega]; exact q)) (Or.inl (by decide)) (Or.inl (by decide)), rfl⟩
      have fr_Iz28 : ∀ b, ¬ (b = p3) → Iz28 b = I b := fun b q => (congrFun qIz28 b).trans ((va_up_ne _ _ (fun z => q z)).trans (fr_I3 b q))
      obtain ⟨z29, ez29⟩ : ∃ y : Int32, y = v3_6 + 1 := ⟨_, rfl⟩
      refine lv_iinc (v := z29) (lv' := [(6, .int z29), (0, .ref p0), (1, .ref p1), (2, .int p2), (3, .ref p3), (4, .ref p4), (5, .int p5)]) hx hb dX7_moves_29 hl (k := 6) rfl (by rw [ez29]; rfl) (by decide) rfl (fun ls hl => ?_)
      have bz29 := tq_add (k := v3_6.toInt) (q := 1) ez29 rfl (by decide +kernel) (by omega) (by omega)
      refine lv_goto (tgt := 3) hx hb dX7_moves_32 (by decide) ?_
      exact ih3 _ (by omega) z29 Iz28 _ _ _ rfl ⟨by omega, by omega⟩ hIz28 fr_Iz28 (cpv_step hc3 (i := z18.toInt.toNat) (x := z27) (fun j => by rw [qIz28, va_up_self]; rfl) (by omega) (ez27.trans (cpv_src (F := I3) (F0 := I) hc3 (by omega) (fun q => fr_I3 p0 q) (i := z26.toInt.toNat) (by omega))) (by omega)) hP hS (lv_sub hl [1, 2, 3, 4, 5, 6, 0] rfl))
  exact key3 _ 0 I _ _ _ rfl ⟨by decide +kernel, by decide +kernel⟩ hI fr_I (cpv_0 rfl) hP hS (lv_sub hl [1, 2, 3, 4, 5, 6, 0] rfl)

set_option maxHeartbeats 4000000 in
set_option maxRecDepth 100000 in
theorem s_X7_movesB (l : Launch) (dC : Nat → ClassId) (dI : Nat → Nat → Nat) (cs : Nat → ClassId) (L : List Nat) (K G : Nat → Nat) (Q : Nat → Nat → Option Nat) (hQ : Sv L K G Q) (x0 m0 : Nat) (tx : GT) (tm : GT × Int) (sz : Nat) (I : Nat → Nat → Int32) (J : Nat → Nat → Int64) (hI : Iv L K x0 m0 tx tm I) (p0 : Nat) (hLp0 : p0 ∈ L) (hKp0 : K p0 = 20) (p1 : Nat) (hLp1 : p1 ∈ L) (hKp1 : K p1 = 23) (p2 : Int32) (bp2 : (0) ≤ p2.toInt ∧ p2.toInt ≤ 1) (p3 : Nat) (hLp3 : p3 ∈ L) (hKp3 : K p3 = 18) (p4 : Nat) (hLp4 : p4 ∈ L) (hKp4 : K p4 = 21) (p5 : Int32) (bp5 : (0) ≤ p5.toInt ∧ p5.toInt ≤ 0) : Met l yX7_moves (.code yX7_moves cX7_moves 7 none :: pw) ({ frames := 0, cells := 0, slots := 0, locals := 0 }) (sP (dC, dI) cs [.ref p0, .ref p1, .int p2, .ref p3, .ref p4, .int p5] sz L K I J Q) (va_Qv (fun (_ : Unit) => True) (fun _ t => sB (dC, dI) cs L K Q (fun I1 J1 => Iv L K x0 m0 tx tm I1 ∧ (∀ b, ¬ (b = p3) → I1 b = I b) ∧ cpd 99 p5.toInt.toNat p2.toInt.toNat (I p0) (I p3) (I1 p3) ∧ cpd 640 p5.toInt.toNat p2.toInt.toNat (J p1) (J p4) (J1 p4) ∧ (∀ b, ¬ (K b = 21) → J1 b = J b)) t) (fun q => q ∈ L ∨ sz ≤ q)) 0 0 (fun q => q ∈ L ∨ sz ≤ q) := by
  refine Met.ofW (cc := cX7_moves) (maxL := 7) (ret := none) (by decide +kernel) rfl ?_
  intro p e s m args below meth c s₁ B hml hv
  obtain ⟨rfl, hsz, hP, hK, hD0, hN⟩ := hv
  have hx := B.exec
  have hb := B.bytes
  have hr := B.returns
  have hts := fun w (h : w ∈ pw) => atoms_spec (ws := Cond.code yX7_moves cX7_moves 7 none :: pw) B.pre w (List.mem_cons_of_mem _ h)
  have hown : s.vm.findClass RX7 = some m.cls := findClass_of_methodNamed B.named
  have hlocks := B.notSynchronized
  subst hsz
  have hBB : 999 ≤ tm.2 ∧ tm.2 ≤ 6000000 := hI.2.2.2.2.1
  have dj_J : (∀ b, ¬ (K b = 21) → J b = J b) := fun _ _ => rfl
  have fr_I : ∀ b, ¬ (b = p3) → I b = I b := fun _ _ => rfl
  obtain ⟨A, hAe⟩ : ∃ A : Nat → Prop, A = (fun q => q ∈ L ∨ s.heap.size ≤ q) := ⟨_, rfl⟩
  rw [← hAe]
  have hAL : ∀ q, q ∈ L → A q := fun q h => by rw [hAe]; exact Or.inl h
  have hA : ∀ q, s.heap.size ≤ q → A q := fun q h => by rw [hAe]; exact Or.inr h
  have hD : ∀ F, va_D A (va_pl L F) := fun F => (hD0 F).weaken (fun k q hk _ => hAL _ (pl_mem hk))
  obtain ⟨H, hHe⟩ : ∃ H : Heap, H = s.heap := ⟨_, rfl⟩
  have hS : va_S A s.heap H [] := by rw [hHe]; exact va_S.rf
  rw [← hHe] at hP
  have hl := lv_entry ([.ref p0, .ref p1, .int p2, .ref p3, .ref p4, .int p5]) (n := 7) (Nat.le_of_ble_eq_true rfl)
  rw [lg_entry_eq]
  generalize (lg_sl ([.ref p0, .ref p1, .int p2, .ref p3, .ref p4, .int p5]) ++ List.replicate (7 - (lg_sl ([.ref p0, .ref p1, .int p2, .ref p3, .ref p4, .int p5])).length) Slot.unset).toArray = ls at hl ⊢
  have hl : lv_has ls 7 [(0, .ref p0), (1, .ref p1), (2, .int p2), (3, .ref p3), (4, .ref p4), (5, .int p5)] := hl
  rw [← hHe]
  refine namedW (fun R Qz hR hQz => ?_)
  refine lv_iconst (v := 0) hx hb dX7_moves_0 (by decide +kernel) ?_
  refine lv_istore (lv' := [(6, .int 0), (0, .ref p0), (1, .ref p1), (2, .int p2), (3, .ref p3), (4, .ref p4), (5, .int p5)]) hx hb dX7_moves_1 hl (by decide) rfl (fun ls hl => ?_)
  have key3 := blocks (fun n => ∀ (v3_6 : Int32) (I3 : Nat → Nat → Int32) (H : Heap) (lo : List Loc) (ls : Array Slot), (100 - v3_6.toInt).toNat = n → ((0) ≤ v3_6.toInt ∧ v3_6.toInt ≤ 99) → Iv L K x0 m0 tx tm I3 → (∀ b, ¬ (b = p3) → I3 b = I b) → cpv 99 v3_6.toInt.toNat p5.toInt.toNat p2.toInt.toNat (I p0) (I p3) (I3 p3) → va_P (dC, dI) vwCl (Wd cs L K I3 J Q) H → va_S A s.heap H lo → lv_has ls 7 [(0, .ref p0), (1, .ref p1), (2, .int p2), (3, .ref p3), (4, .ref p4), (5, .int p5), (6, .int v3_6)] → W p l e R s m (([.ref p0, .ref p1, .int p2, .ref p3, .ref p4, .int p5] : List Value).toArray) below meth c H lo 0 0 Qz (F0 m 3 ls [])) (by
    intro n ih3
    intro v3_6 I3 H lo ls hmu3 bv3_6 hI3 fr_I3 hc3 hP hS hl
    refine lv_iload hx hb dX7_moves_3 (lv_at hl 6 rfl) ?_
    refine lv_bipush (v := 99) hx hb dX7_moves_5 (by decide +kernel) ?_
    refine lv_icmp_ge (tgt := 35) hx hb dX7_moves_7 (by decide) (fun c7 => ?_) (fun c7 => ?_)
    · have t7 := tq_le (k := (99)) (q := v3_6.toInt) c7 (by decide +kernel) rfl
      refine lv_iconst (v := 0) hx hb dX7_moves_35 (by decide +kernel) ?_
      refine lv_istore (lv' := [(6, .int 0), (0, .ref p0), (1, .ref p1), (2, .int p2), (3, .ref p3), (4, .ref p4), (5, .int p5)]) hx hb dX7_moves_36 hl (by decide) rfl (fun ls hl => ?_)
      have key38 := blocks (fun n => ∀ (v38_6 : Int32) (J38 : Nat → Nat → Int64) (H : Heap) (lo : List Loc) (ls : Array Slot), (641 - v38_6.toInt).toNat = n → ((0) ≤ v38_6.toInt ∧ v38_6.toInt ≤ 640) → (∀ b, ¬ (K b = 21) → J38 b = J b) → (cpv 640 v38_6.toInt.toNat p5.toInt.toNat p2.toInt.toNat (J p1) (J p4) (J38 p4) ∧ ∀ b, ¬ b = p4 → J38 b = J b) → va_P (dC, dI) vwCl (Wd cs L K I3 J38 Q) H → va_S A s.heap H lo → lv_has ls 7 [(0, .ref p0), (1, .ref p1), (2, .int p2), (3, .ref p3), (4, .ref p4), (5, .int p5), (6, .int v38_6)] → W p l e R s m (([.ref p0, .ref p1, .int p2, .ref p3, .ref p4, .int p5] : List Value).toArray) below meth c H lo 0 0 Qz (F0 m 38 ls [])) (by
        intro n ih38
        intro v38_6 J38 H lo ls hmu38 bv38_6 dj_J38 hc38 hP hS hl
        refine lv_iload hx hb dX7_moves_38 (lv_at hl 6 rfl) ?_
        refine lv_sipush (v := 640) hx hb dX7_moves_40 (by decide +kernel) ?_
        refine lv_icmp_ge (tgt := 74) hx hb dX7_moves_43 (by decide) (fun c43 => ?_) (fun c43 => ?_)
        · have t43 := tq_le (k := (640)) (q := v38_6.toInt) c43 (by decide +kernel) rfl
          subst hR; subst hQz
          exact W.vret hx hb hr (fun t ht hW => ⟨⟨(), rfl, trivial, ⟨I3, J38, ⟨hI3, fr_I3, (by have e : v3_6.toInt.toNat = 99 := (by omega); rw [e] at hc3; exact hc3), (by have e : v38_6.toInt.toNat = 640 := (by omega); have q := hc38.1; rw [e] at q; exact q), dj_J38⟩, by rw [ht]; exact hP⟩⟩, hS.F ht⟩) hS.2.2 dX7_moves_74
        · have t43 := tq_nle (k := (640)) (q := v38_6.toInt) c43 (by decide +kernel) rfl
          refine lv_aload hx hb dX7_moves_46 (lv_at hl 4 rfl) ?_
          refine lv_sipush (v := 640) hx hb dX7_moves_48 (by decide +kernel) ?_
          refine lv_iload hx hb dX7_moves_51 (lv_at hl 5 rfl) ?_
          refine lv_imul hx hb dX7_moves_53 ?_
          refine lv_topi (fun z53 ez53 => ?_)
          have bz53 := tq_mul (k := (640)) (q := p5.toInt) ez53 (by decide +kernel) rfl (by omega) (by omega)
          refine lv_iload hx hb dX7_moves_54 (lv_at hl 6 rfl) ?_
          refine lv_iadd hx hb dX7_moves_56 ?_
          refine lv_topi (fun z56 ez56 => ?_)
          have bz56 := tq_add (k := z53.toInt) (q := v38_6.toInt) ez56 rfl rfl (by omega) (by omega)
          refine lv_aload_n hx hb dX7_moves_57 rfl (lv_at hl 1 rfl) ?_
          refine lv_sipush (v := 640) hx hb dX7_moves_58 (by decide +kernel) ?_
          refine lv_iload_n hx hb dX7_moves_61 rfl (lv_at hl 2 rfl) ?_
          refine lv_imul hx hb dX7_moves_62 ?_
          refine lv_topi (fun z62 ez62 => ?_)
          have bz62 := tq_mul (k := (640)) (q := p2.toInt) ez62 (by decide +kernel) rfl (by omega) (by omega)
          refine lv_iload hx hb dX7_moves_63 (lv_at hl 6 rfl) ?_
          refine lv_iadd hx hb dX7_moves_65 ?_
          refine lv_topi (fun z65 ez65 => ?_)
          have bz65 := tq_add (k := z62.toInt) (q := v38_6.toInt) ez65 rfl rfl (by omega) (by omega)
          refine p_lald hx hb hK hP 13 hLp1 hKp1 rfl rfl (in_of (by omega) (by omega)) dX7_moves_66 ?_
          refine lv_topl (fun z66 ez66 => ?_)
          refine p_last hx hb hK hP hD hS 11 hLp4 hKp4 rfl (fun _ => rfl) rfl (in_of (by omega) (by omega)) dX7_moves_67 (fun H locs hP hS => ?_)
          obtain ⟨Jz67, hP, qJz67⟩ : ∃ Jz67, va_P (dC, dI) vwCl (Wd cs L K I3 Jz67 Q) H ∧ Jz67 = va_up J38 p4 (vp_updL (J38 p4) z56.toNatClampNeg z66) := ⟨_, hP, rfl⟩
          have dj_Jz67 : (∀ b, ¬ (K b = 21) → Jz67 b = J b) := fun b hc => (congrFun qJz67 b).trans ((va_up_ne _ _ (fun z => hc (by have q := hKp4; rw [← z] at q; omega))).trans (dj_J38 b hc))
          obtain ⟨z68, ez68⟩ : ∃ y : Int32, y = v38_6 + 1 := ⟨_, rfl⟩
          refine lv_iinc (v := z68) (lv' := [(6, .int z68), (0, .ref p0), (1, .ref p1), (2, .int p2), (3, .ref p3), (4, .ref p4), (5, .int p5)]) hx hb dX7_moves_68 hl (k := 6) rfl (by rw [ez68]; rfl) (by decide) rfl (fun ls hl => ?_)
          have bz68 := tq_add (k := v38_6.toInt) (q := 1) ez68 rfl (by decide +kernel) (by omega) (by omega)
          refine lv_goto (tgt := 38) hx hb dX7_moves_71 (by decide) ?_
          exact ih38 _ (by omega) z68 Jz67 _ _ _ rfl ⟨by omega, by omega⟩ dj_Jz67 ⟨cpv_step hc38.1 (i := z56.toInt.toNat) (x := z66) (fun j => by rw [qJz67, va_up_self]; rfl) (by omega) (ez66.trans (cpv_src (F := J38) (F0 := J) hc38.1 (by omega) (fun q => hc38.2 p1 q) (i := z65.toInt.toNat) (by omega))) (by omega), fun b hb => by rw [qJz67, va_up_ne _ _ hb]; exact hc38.2 b hb⟩ hP hS (lv_sub hl [1, 2, 3, 4, 5, 6, 0] rfl))
      exact key38 _ 0 J _ _ _ rfl ⟨by decide +kernel, by decide +kernel⟩ dj_J ⟨cpv_0 rfl, fun _ _ => rfl⟩ hP hS (lv_sub hl [1, 2, 3, 4, 5, 6, 0] rfl)
    · have t7 := tq_nle (k := (99)) (q := v3_6.toInt) c7 (by decide +kernel) rfl
      refine lv_aload_n hx hb dX7_moves_10 rfl (lv_at hl 3 rfl) ?_
      refine lv_bipush (v := 99) hx hb dX7_moves_11 (by decide +kernel) ?_
      refine lv_iload hx hb dX7_moves_13 (lv_at hl 5 rfl) ?_
      refine lv_imul hx hb dX7_moves_15 ?_
      refine lv_topi (fun z15 ez15 => ?_)
      have bz15 := tq_mul (k := (99)) (q := p5.toInt) ez15 (by decide +kernel) rfl (by omega) (by omega)
      refine lv_iload hx hb dX7_moves_16 (lv_at hl 6 rfl) ?_
      refine lv_iadd hx hb dX7_moves_18 ?_
      refine lv_topi (fun z18 ez18 => ?_)
      have bz18 := tq_add (k := z15.toInt) (q := v3_6.toInt) ez18 rfl rfl (by omega) (by omega)
      refine lv_aload_n hx hb dX7_moves_19 rfl (lv_at hl 0 rfl) ?_
      refine lv_bipush (v := 99) hx hb dX7_moves_20 (by decide +kernel) ?_
      refine lv_iload_n hx hb dX7_moves_22 rfl (lv_at hl 2 rfl) ?_
      refine lv_imul hx hb dX7_moves_23 ?_
      refine lv_topi (fun z23 ez23 => ?_)
      have bz23 := tq_mul (k := (99)) (q := p2.toInt) ez23 (by decide +kernel) rfl (by omega) (by omega)
      refine lv_iload hx hb dX7_moves_24 (lv_at hl 6 rfl) ?_
      refine lv_iadd hx hb dX7_moves_26 ?_
      refine lv_topi (fun z26 ez26 => ?_)
      have bz26 := tq_add (k := z23.toInt) (q := v3_6.toInt) ez26 rfl rfl (by omega) (by omega)
      refine p_iald hx hb hK hP 10 hLp0 hKp0 rfl rfl (in_of (by omega) (by omega)) dX7_moves_27 ?_
      refine lv_topi (fun z27 ez27 => ?_)
      have bz27 := oR_20 (i := z26) (k := z26.toInt) rfl (Iv_at hI3 hLp0 hKp0)
      rw [← ez27] at bz27
      replace bz27 : Hid _ := bz27
      refine p_iast hx hb hK hP hD hS 8 hLp3 hKp3 rfl (fun _ => rfl) rfl (in_of (by omega) (by omega)) dX7_moves_28 (fun H locs hP hS => ?_)
      have rg28z27 := fb_rng z27
      obtain ⟨Iz28, hP, hIz28, qIz28⟩ : ∃ Iz28, va_P (dC, dI) vwCl (Wd cs L K Iz28 J Q) H ∧ Iv L K x0 m0 tx tm Iz28 ∧ Iz28 = va_up I3 p3 (upd (I3 p3) z18.toNatClampNeg z27) := ⟨_, hP, Iv_put hI3 hKp3 (oU_18 (i := z18) (k := z18.toInt) rfl (Iv_at hI3 hLp3 hKp3) (by have q : rng tm.2 (z26.toInt.toNat % 99) z27.toInt := bz27; rw [show z18.toInt.toNat = z26.toInt.toNat % 99 by omega]; exact q)) (Or.inl (by decide)) (Or.inl (by decide)), rfl⟩
      have fr_Iz28 : ∀ b, ¬ (b = p3) → Iz28 b = I b := fun b q => (congrFun qIz28 b).trans ((va_up_ne _ _ (fun z => q z)).trans (fr_I3 b q))
      obtain ⟨z29, ez29⟩ : ∃ y : Int32, y = v3_6 + 1 := ⟨_, rfl⟩
      refine lv_iinc (v := z29) (lv' := [(6, .int z29), (0, .ref p0), (1, .ref p1), (2, .int p2), (3, .ref p3), (4, .ref p4), (5, .int p5)]) hx hb dX7_moves_29 hl (k := 6) rfl (by rw [ez29]; rfl) (by decide) rfl (fun ls hl => ?_)
      have bz29 := tq_add (k := v3_6.toInt) (q := 1) ez29 rfl (by decide +kernel) (by omega) (by omega)
      refine lv_goto (tgt := 3) hx hb dX7_moves_32 (by decide) ?_
      exact ih3 _ (by omega) z29 Iz28 _ _ _ rfl ⟨by omega, by omega⟩ hIz28 fr_Iz28 (cpv_step hc3 (i := z18.toInt.toNat) (x := z27) (fun j => by rw [qIz28, va_up_self]; rfl) (by omega) (ez27.trans (cpv_src (F := I3) (F0 := I) hc3 (by omega) (fun q => fr_I3 p0 q) (i := z26.toInt.toNat) (by omega))) (by omega)) hP hS (lv_sub hl [1, 2, 3, 4, 5, 6, 0] rfl))
  exact key3 _ 0 I _ _ _ rfl ⟨by decide +kernel, by decide +kernel⟩ hI fr_I (cpv_0 rfl) hP hS (lv_sub hl [1, 2, 3, 4, 5, 6, 0] rfl)

set_option maxHeartbeats 4000000 in
set_option maxRecDepth 100000 in
theorem s_X7_laysAside (l : Launch) (dC : Nat → ClassId) (dI : Nat → Nat → Nat) (cs : Nat → ClassId) (L : List Nat) (K G : Nat → Nat) (Q : Nat → Nat → Option Nat) (hQ : Sv L K G Q) (x0 m0 : Nat) (tx : GT) (tm : GT × Int) (sz : Nat) (I : Nat → Nat → Int32) (J : Nat → Nat → Int64) (hI : Iv L K x0 m0 tx tm I) (p0 : Nat) (hLp0 : p0 ∈ L) (hKp0 : K p0 = 7) : Met l yX7_laysAside (.code yX7_laysAside cX7_laysAside 1 none :: pw) ({ frames := 1, cells := 0, slots := 0, locals := 26 }) (sP (dC, dI) cs [.ref p0] sz L K I J Q) (va_Qv (fun (_ : Unit) => True) (fun _ t => sB (dC, dI) cs L K Q (fun I1 J1 => Iv L K x0 m0 tx tm I1 ∧ (∀ b, ¬ (K b = 30) → I1 b = I b) ∧ (∀ b, K b = 0 ∨ K b = 1 ∨ K b = 3 ∨ K b = 6 → I1 b = I b) ∧ (∀ c : Fx, isF I J (a0 Q p0 0) (a0 Q p0 5) 0 c → isF I1 J1 (a0 Q p0 2) (a0 Q p0 7) 0 c) ∧ (∀ b, ¬ (K b = 33) → J1 b = J b)) t) (fun q => q ∈ L ∨ sz ≤ q)) 0 0 (fun q => q ∈ L ∨ sz ≤ q) := by
  refine Met.ofW (cc := cX7_laysAside) (maxL := 1) (ret := none) (by decide +kernel) rfl ?_
  intro p e s m args below meth c s₁ B hml hv
  obtain ⟨rfl, hsz, hP, hK, hD0, hN⟩ := hv
  have hx := B.exec
  have hb := B.bytes
  have hr := B.returns
  have hts := fun w (h : w ∈ pw) => atoms_spec (ws := Cond.code yX7_laysAside cX7_laysAside 1 none :: pw) B.pre w (List.mem_cons_of_mem _ h)
  have hown : s.vm.findClass RX7 = some m.cls := findClass_of_methodNamed B.named
  have hlocks := B.notSynchronized
  subst hsz
  have hBB : 999 ≤ tm.2 ∧ tm.2 ≤ 6000000 := hI.2.2.2.2.1
  have dn_I : (∀ b, K b = 0 ∨ K b = 1 ∨ K b = 3 ∨ K b = 6 → I b = I b) := fun _ _ => rfl
  have dj_J : (∀ b, ¬ (K b = 33) → J b = J b) := fun _ _ => rfl
  have fr_I : ∀ b, ¬ (K b = 30) → I b = I b := fun _ _ => rfl
  obtain ⟨A, hAe⟩ : ∃ A : Nat → Prop, A = (fun q => q ∈ L ∨ s.heap.size ≤ q) := ⟨_, rfl⟩
  rw [← hAe]
  have hAL : ∀ q, q ∈ L → A q := fun q h => by rw [hAe]; exact Or.inl h
  have hA : ∀ q, s.heap.size ≤ q → A q := fun q h => by rw [hAe]; exact Or.inr h
  have hD : ∀ F, va_D A (va_pl L F) := fun F => (hD0 F).weaken (fun k q hk _ => hAL _ (pl_mem hk))
  obtain ⟨H, hHe⟩ : ∃ H : Heap, H = s.heap := ⟨_, rfl⟩
  have hS : va_S A s.heap H [] := by rw [hHe]; exact va_S.rf
  rw [← hHe] at hP
  have hl := lv_entry ([.ref p0]) (n := 1) (Nat.le_of_ble_eq_true rfl)
  rw [lg_entry_eq]
  generalize (lg_sl ([.ref p0]) ++ List.replicate (1 - (lg_sl ([.ref p0])).length) Slot.unset).toArray = ls at hl ⊢
  have hl : lv_has ls 1 [(0, .ref p0)] := hl
  rw [← hHe]
  refine namedW (fun R Qz hR hQz => ?_)
  refine lv_aload_n hx hb dX7_laysAside_0 rfl (lv_at hl 0 rfl) ?_
  obtain ⟨y1, ey1, hLy1, hKy1⟩ := oQ_7_0 (Sv_at hQ hLp0 hKp0)
  refine p_get (v := .ref y1) hx hb hts inX7 hown hK hP hLp0 hKp0 rfl rfl 0 (by decide) (hts _ pq1115) (congrArg (fun q => some (va_rf q)) ey1) dX7_laysAside_1 ?_
  refine lv_aload_n hx hb dX7_laysAside_4 rfl (lv_at hl 0 rfl) ?_
  obtain ⟨y5, ey5, hLy5, hKy5⟩ := oQ_7_5 (Sv_at hQ hLp0 hKp0)
  refine p_get (v := .ref y5) hx hb hts inX7 hown hK hP hLp0 hKp0 rfl rfl 5 (by decide) (hts _ pq1120) (congrArg (fun q => some (va_rf q)) ey5) dX7_laysAside_5 ?_
  refine lv_iconst (v := 0) hx hb dX7_laysAside_8 (by decide +kernel) ?_
  refine lv_aload_n hx hb dX7_laysAside_9 rfl (lv_at hl 0 rfl) ?_
  obtain ⟨y10, ey10, hLy10, hKy10⟩ := oQ_7_2 (Sv_at hQ hLp0 hKp0)
  refine p_get (v := .ref y10) hx hb hts inX7 hown hK hP hLp0 hKp0 rfl rfl 2 (by decide) (hts _ pq1117) (congrArg (fun q => some (va_rf q)) ey10) dX7_laysAside_10 ?_
  refine lv_aload_n hx hb dX7_laysAside_13 rfl (lv_at hl 0 rfl) ?_
  obtain ⟨y14, ey14, hLy14, hKy14⟩ := oQ_7_7 (Sv_at hQ hLp0 hKp0)
  refine p_get (v := .ref y14) hx hb hts inX7 hown hK hP hLp0 hKp0 rfl rfl 7 (by decide) (hts _ pq1122) (congrArg (fun q => some (va_rf q)) ey14) dX7_laysAside_14 ?_
  refine lv_iconst (v := 0) hx hb dX7_laysAside_17 (by decide +kernel) ?_
  refine sw_v (Z := (fun I1 J1 => Iv L K x0 m0 tx tm I1 ∧ (∀ b, ¬ (b = y10) → I1 b = I b) ∧ cpd 99 (0 : Int32).toInt.toNat (0 : Int32).toInt.toNat (I y1) (I y10) (I1 y10) ∧ cpd 640 (0 : Int32).toInt.toNat (0 : Int32).toInt.toNat (J y5) (J y14) (J1 y14) ∧ (∀ b, ¬ (K b = 33) → J1 b = J b))) (va_runS (As := [.ref y1, .ref y5, .int 0, .ref y10, .ref y14, .int 0]) (rest := []) ⟨hx, hb, hml, hown, hts⟩ (s_X7_movesA l dC dI cs L K G Q hQ x0 m0 tx tm H.size I J hI y1 hLy1 hKy1 y5 hLy5 hKy5 0 ⟨by decide +kernel, by decide +kernel⟩ y10 hLy10 hKy10 y14 hLy14 hKy14 0 ⟨by decide +kernel, by decide +kernel⟩) (va_cwS 6 hts (gS pq1291 pq1292 pq81 pq1293) rfl rfl rfl (by decide +kernel) ⟨(by rw [hR]; exact (Nat.le_of_ble_eq_true rfl)), (by rw [hR]; exact (Nat.le_of_ble_eq_true rfl))⟩) (sP_S hP hD hK hN) rfl rfl hl.1 rfl (lv_room (Nat.le_of_ble_eq_true rfl)) dX7_laysAside_18 ⟨(by rw [hR]; exact (Nat.le_of_ble_eq_true rfl)), (by rw [hR]; exact (Nat.le_of_ble_eq_true rfl))⟩) hS hAL hA (fun Iz18 Jz18 H locs hz18 hIz18 hP hS => ?_)
  obtain ⟨hIz18, frc18, fz18, jz18, djc18⟩ := hIz18
  have dj_Jz18 : (∀ b, ¬ (K b = 33) → Jz18 b = J b) := fun b hc => (djc18 b (fun z => hc (by omega))).trans (dj_J b hc)
  have dn_Iz18 : (∀ b, K b = 0 ∨ K b = 1 ∨ K b = 3 ∨ K b = 6 → Iz18 b = I b) := fun b hc => (frc18 b (fun z => by have q := hKy10; rw [← z] at q; omega)).trans (dn_I b hc)
  have fr_Iz18 : ∀ b, ¬ (K b = 30) → Iz18 b = I b := fun b q => (frc18 b (fun z => q (by rw [z]; have := hKy10; omega))).trans (fr_I b q)
  have cst18_0 : (0 : Int32).toInt = 0 := by decide +kernel
  rw [show (0 : Int32).toInt.toNat = 0 from by decide +kernel] at fz18 jz18
  subst hR; subst hQz
  exact W.vret hx hb hr (fun t ht hW => ⟨⟨(), rfl, trivial, ⟨Iz18, Jz18, ⟨hIz18, fr_Iz18, dn_Iz18, (fun c h => by rw [show a0 Q p0 0 = y1 from gd_of ey1, show a0 Q p0 5 = y5 from gd_of ey5] at h; rw [show a0 Q p0 2 = y10 from gd_of ey10, show a0 Q p0 7 = y14 from gd_of ey14]; exact mv_to h fz18 jz18), dj_Jz18⟩, by rw [ht]; exact hP⟩⟩, hS.F ht⟩) hS.2.2 dX7_laysAside_21

set_option maxHeartbeats 4000000 in
set_option maxRecDepth 100000 in
theorem s_X7_remembersAside (l : Launch) (dC : Nat → ClassId) (dI : Nat → Nat → Nat) (cs : Nat → ClassId) (L : List Nat) (K G : Nat → Nat) (Q : Nat → Nat → Option Nat) (hQ : Sv L K G Q) (x0 m0 : Nat) (tx : GT) (tm : GT × Int) (sz : Nat) (I : Nat → Nat → Int32) (J : Nat → Nat → Int64) (hI : Iv L K x0 m0 tx tm I) (p0 : Nat) (hLp0 : p0 ∈ L) (hKp0 : K p0 = 7) : Met l yX7_remembersAside (.code yX7_remembersAside cX7_remembersAside 2 none :: pw) ({ frames := 1, cells := 0, slots := 0, locals := 26 }) (sP (dC, dI) cs [.ref p0] sz L K I J Q) (va_Qv (fun (_ : Unit) => True) (fun _ t => sB (dC, dI) cs L K Q (fun I1 J1 => Iv L K x0 m0 tx tm I1 ∧ (∀ b, ¬ (K b = 7 ∨ K b = 19) → I1 b = I b) ∧ (∀ b, K b = 0 ∨ K b = 1 ∨ K b = 3 ∨ K b = 6 → I1 b = I b) ∧ (∀ (σ : Sx) (c : Fx), cmA Q I J p0 σ → isF I J (a0 Q p0 2) (a0 Q p0 7) 0 c → cmA Q I1 J1 p0 (morc (shf σ) c)) ∧ (∀ b, ¬ (K b = 22) → J1 b = J b)) t) (fun q => q ∈ L ∨ sz ≤ q)) 0 0 (fun q => q ∈ L ∨ sz ≤ q) := by
  refine Met.ofW (cc := cX7_remembersAside) (maxL := 2) (ret := none) (by decide +kernel) rfl ?_
  intro p e s m args below meth c s₁ B hml hv
  obtain ⟨rfl, hsz, hP, hK, hD0, hN⟩ := hv
  have hx := B.exec
  have hb := B.bytes
  have hr := B.returns
  have hts := fun w (h : w ∈ pw) => atoms_spec (ws := Cond.code yX7_remembersAside cX7_remembersAside 2 none :: pw) B.pre w (List.mem_cons_of_mem _ h)
  have hown : s.vm.findClass RX7 = some m.cls := findClass_of_methodNamed B.named
  have hlocks := B.notSynchronized
  subst hsz
  have hBB : 999 ≤ tm.2 ∧ tm.2 ≤ 6000000 := hI.2.2.2.2.1
  have dn_I : (∀ b, K b = 0 ∨ K b = 1 ∨ K b = 3 ∨ K b = 6 → I b = I b) := fun _ _ => rfl
  have dj_J : (∀ b, ¬ (K b = 22) → J b = J b) := fun _ _ => rfl
  have fr_I : ∀ b, ¬ (K b = 7 ∨ K b = 19) → I b = I b := fun _ _ => rfl
  obtain ⟨A, hAe⟩ : ∃ A : Nat → Prop, A = (fun q => q ∈ L ∨ s.heap.size ≤ q) := ⟨_, rfl⟩
  rw [← hAe]
  have hAL : ∀ q, q ∈ L → A q := fun q h => by rw [hAe]; exact Or.inl h
  have hA : ∀ q, s.heap.size ≤ q → A q := fun q h => by rw [hAe]; exact Or.inr h
  have hD : ∀ F, va_D A (va_pl L F) := fun F => (hD0 F).weaken (fun k q hk _ => hAL _ (pl_mem hk))
  obtain ⟨H, hHe⟩ : ∃ H : Heap, H = s.heap := ⟨_, rfl⟩
  have hS : va_S A s.heap H [] := by rw [hHe]; exact va_S.rf
  rw [← hHe] at hP
  have hl := lv_entry ([.ref p0]) (n := 2) (Nat.le_of_ble_eq_true rfl)
  rw [lg_entry_eq]
  generalize (lg_sl ([.ref p0]) ++ List.replicate (2 - (lg_sl ([.ref p0])).length) Slot.unset).toArray = ls at hl ⊢
  have hl : lv_has ls 2 [(0, .ref p0)] := hl
  rw [← hHe]
  refine namedW (fun R Qz hR hQz => ?_)
  refine lv_aload_n hx hb dX7_remembersAside_0 rfl (lv_at hl 0 rfl) ?_
  refine p_get hx hb hts inX7 hown hK hP hLp0 hKp0 rfl rfl 11 (by decide) (hts _ pq1126) rfl dX7_remembersAside_1 ?_
  refine lv_topi (fun z1 ez1 => ?_)
  have cgz1 := congrArg Int32.toInt ez1
  have bz1 := oI_7_11 (Iv_at hI hLp0 hKp0)
  rw [← ez1] at bz1
  refine lv_bipush (v := 10) hx hb dX7_remembersAside_4 (by decide +kernel) ?_
  have j56 : ∀ (I56 : Nat → Nat → Int32) (J56 : Nat → Nat → Int64) (H : Heap) (lo : List Loc) (ls : Array Slot), Iv L K x0 m0 tx tm I56 → (∀ b, ¬ (K b = 7 ∨ K b = 19) → I56 b = I b) → (∀ b, K b = 0 ∨ K b = 1 ∨ K b = 3 ∨ K b = 6 → I56 b = I b) → (∀ b, ¬ (K b = 22) → J56 b = J b) → (I56 p0 11).toInt ≤ 9 → (∀ σ : Sx, cmA Q I J p0 σ → cmA Q I56 J56 p0 (shf σ)) → va_P (dC, dI) vwCl (Wd cs L K I56 J56 Q) H → va_S A s.heap H lo → lv_has ls 2 [(0, .ref p0)] → W p l e R s m (([.ref p0] : List Value).toArray) below meth c H lo 0 0 Qz (F0 m 56 ls []) := by
    intro I56 J56 H lo ls hI56 fr_I56 dn_I56 dj_J56 hp9 hc56 hP hS hl
    refine lv_aload_n hx hb dX7_remembersAside_56 rfl (lv_at hl 0 rfl) ?_
    obtain ⟨y57, ey57, hLy57, hKy57⟩ := oQ_7_2 (Sv_at hQ hLp0 hKp0)
    refine p_get (v := .ref y57) hx hb hts inX7 hown hK hP hLp0 hKp0 rfl rfl 2 (by decide) (hts _ pq1117) (congrArg (fun q => some (va_rf q)) ey57) dX7_remembersAside_57 ?_
    refine lv_aload_n hx hb dX7_remembersAside_60 rfl (lv_at hl 0 rfl) ?_
    obtain ⟨y61, ey61, hLy61, hKy61⟩ := oQ_7_7 (Sv_at hQ hLp0 hKp0)
    refine p_get (v := .ref y61) hx hb hts inX7 hown hK hP hLp0 hKp0 rfl rfl 7 (by decide) (hts _ pq1122) (congrArg (fun q => some (va_rf q)) ey61) dX7_remembersAside_61 ?_
    refine lv_iconst (v := 0) hx hb dX7_remembersAside_64 (by decide +kernel) ?_
    refine lv_aload_n hx hb dX7_remembersAside_65 rfl (lv_at hl 0 rfl) ?_
    obtain ⟨y66, ey66, hLy66, hKy66⟩ := oQ_7_3 (Sv_at hQ hLp0 hKp0)
    refine p_get (v := .ref y66) hx hb hts inX7 hown hK hP hLp0 hKp0 rfl rfl 3 (by decide) (hts _ pq1118) (congrArg (fun q => some (va_rf q)) ey66) dX7_remembersAside_66 ?_
    refine lv_aload_n hx hb dX7_remembersAside_69 rfl (lv_at hl 0 rfl) ?_
    obtain ⟨y70, ey70, hLy70, hKy70⟩ := oQ_7_8 (Sv_at hQ hLp0 hKp0)
    refine p_get (v := .ref y70) hx hb hts inX7 hown hK hP hLp0 hKp0 rfl rfl 8 (by decide) (hts _ pq1123) (congrArg (fun q => some (va_rf q)) ey70) dX7_remembersAside_70 ?_
    refine lv_aload_n hx hb dX7_remembersAside_73 rfl (lv_at hl 0 rfl) ?_
    refine p_get hx hb hts inX7 hown hK hP hLp0 hKp0 rfl rfl 11 (by decide) (hts _ pq1126) rfl dX7_remembersAside_74 ?_
    refine lv_topi (fun z74 ez74 => ?_)
    have cgz74 := congrArg Int32.toInt ez74
    have bz74 := oI_7_11 (Iv_at hI56 hLp0 hKp0)
    rw [← ez74] at bz74
    refine sw_v (Z := (fun I1 J1 => Iv L K x0 m0 tx tm I1 ∧ (∀ b, ¬ (b = y66) → I1 b = I56 b) ∧ cpd 99 z74.toInt.toNat (0 : Int32).toInt.toNat (I56 y57) (I56 y66) (I1 y66) ∧ cpd 640 z74.toInt.toNat (0 : Int32).toInt.toNat (J56 y61) (J56 y70) (J1 y70) ∧ (∀ b, ¬ (K b = 22) → J1 b = J56 b))) (va_runS (As := [.ref y57, .ref y61, .int 0, .ref y66, .ref y70, .int z74]) (rest := []) ⟨hx, hb, hml, hown, hts⟩ (s_X7_movesP l dC dI cs L K G Q hQ x0 m0 tx tm H.size I56 J56 hI56 y57 hLy57 hKy57 y61 hLy61 hKy61 0 ⟨by decide +kernel, by decide +kernel⟩ y66 hLy66 hKy66 y70 hLy70 hKy70 z74 ⟨by omega, by omega⟩) (va_cwS 6 hts (gS pq1291 pq1292 pq81 pq1293) rfl rfl rfl (by decide +kernel) ⟨(by rw [hR]; exact (Nat.le_of_ble_eq_true rfl)), (by rw [hR]; exact (Nat.le_of_ble_eq_true rfl))⟩) (sP_S hP hD hK hN) rfl rfl hl.1 rfl (lv_room (Nat.le_of_ble_eq_true rfl)) dX7_remembersAside_77 ⟨(by rw [hR]; exact (Nat.le_of_ble_eq_true rfl)), (by rw [hR]; exact (Nat.le_of_ble_eq_true rfl))⟩) hS hAL hA (fun Iz77 Jz77 H locs hz77 hIz77 hP hS => ?_)
    obtain ⟨hIz77, frc77, fz77, jz77, djc77⟩ := hIz77
    have dj_Jz77 : (∀ b, ¬ (K b = 22) → Jz77 b = J b) := fun b hc => (djc77 b (fun z => hc (by omega))).trans (dj_J56 b hc)
    have dn_Iz77 : (∀ b, K b = 0 ∨ K b = 1 ∨ K b = 3 ∨ K b = 6 → Iz77 b = I b) := fun b hc => (frc77 b (fun z => by have q := hKy66; rw [← z] at q; omega)).trans (dn_I56 b hc)
    have fr_Iz77 : ∀ b, ¬ (K b = 7 ∨ K b = 19) → Iz77 b = I b := fun b q => (frc77 b (fun z => q (by rw [z]; have := hKy66; omega))).trans (fr_I56 b q)
    have cst77_0 : (0 : Int32).toInt = 0 := by decide +kernel
    rw [show (0 : Int32).toInt.toNat = 0 from by decide +kernel] at fz77 jz77
    refine lv_aload_n hx hb dX7_remembersAside_80 rfl (lv_at hl 0 rfl) ?_
    refine lv_dup hx hb dX7_remembersAside_81 rfl ?_
    refine p_get hx hb hts inX7 hown hK hP hLp0 hKp0 rfl rfl 11 (by decide) (hts _ pq1126) rfl dX7_remembersAside_82 ?_
    refine lv_topi (fun z82 ez82 => ?_)
    obtain rfl : z74 = z82 := by rw [ez82, frc77 p0 (ne_k hKp0 hKy66 (by decide))]; exact ez74
    have ez74x82 := ez82
    refine lv_iconst (v := 1) hx hb dX7_remembersAside_85 (by decide +kernel) ?_
    refine lv_iadd hx hb dX7_remembersAside_86 ?_
    refine lv_topi (fun z86 ez86 => ?_)
    have bz86 := tq_add (k := z74.toInt) (q := (1)) ez86 rfl (by decide +kernel) (by omega) (by omega)
    refine p_put hx hb hts inX7 tyX7 tyX7_ok nmX7 hown hK hP hD hS hLp0 hKp0 rfl rfl 11 (by decide) (hts _ pq1126) rfl (by decide +kernel) (Nat.le_of_ble_eq_true rfl) (oS_7_11 cs _ _ _ _) dX7_remembersAside_87 (fun H locs hP hS => ?_)
    obtain ⟨Iz87, hP, hIz87, qIz87⟩ : ∃ Iz87, va_P (dC, dI) vwCl (Wd cs L K Iz87 Jz77 Q) H ∧ Iv L K x0 m0 tx tm Iz87 ∧ Iz87 = va_up Iz77 p0 (upd (Iz77 p0) 11 z86) := ⟨_, hP, Iv_put hIz77 hKp0 (oP_7_11 (Iv_at hIz77 hLp0 hKp0) ⟨by omega, by omega⟩) (by decide) (by decide), rfl⟩
    have dn_Iz87 : (∀ b, K b = 0 ∨ K b = 1 ∨ K b = 3 ∨ K b = 6 → Iz87 b = I b) := fun b hc => (congrFun qIz87 b).trans ((va_up_ne _ _ (fun z => by have q := hKp0; rw [← z] at q; omega)).trans (dn_Iz77 b hc))
    have fr_Iz87 : ∀ b, ¬ (K b = 7 ∨ K b = 19) → Iz87 b = I b := fun b q => (congrFun qIz87 b).trans ((va_up_ne _ _ (fun z => q (by rw [z]; have := hKp0; omega))).trans (fr_Iz77 b q))
    subst hR; subst hQz
    exact W.vret hx hb hr (fun t ht hW => ⟨⟨(), rfl, trivial, ⟨Iz87, Jz77, ⟨hIz87, fr_Iz87, dn_Iz87, (fun σ c A h => by have B := hc56 σ A; have en := B.2.1.1; rw [← ez74] at en; have g := a_g hQ hLp0 hKp0; have h2 := isF_fr (fr_I56 (a0 Q p0 2) (by have := g.2.2.2.2.1; omega)) (dj_J56 (a0 Q p0 7) (by have := g.2.2.2.2.2; omega)) h; exact cmA_more hQ hLp0 hKp0 (T := z74.toInt.toNat) (by omega) (by omega) h2 (by rw [show a0 Q p0 2 = y57 from gd_of ey57, show a0 Q p0 3 = y66 from gd_of ey66]; exact fz77) (by rw [show a0 Q p0 7 = y61 from gd_of ey61, show a0 Q p0 8 = y70 from gd_of ey70]; exact jz77) (by rw [show a0 Q p0 3 = y66 from gd_of ey66]; exact frc77) djc77 qIz87 (by rw [← ez74]; omega) B), dj_Jz77⟩, by rw [ht]; exact hP⟩⟩, hS.F ht⟩) hS.2.2 dX7_remembersAside_90
  refine lv_icmp_ne (tgt := 56) hx hb dX7_remembersAside_6 (by decide) (fun c6 => ?_) (fun c6 => ?_)
  · have t6 := tq_ne (k := z1.toInt) (q := (10)) c6 rfl (by decide +kernel)
    exact j56 I J _ _ _ hI fr_I dn_I dj_J (by rw [← ez1]; omega) (fun σ A => by unfold shf; rw [if_neg (by have e := A.2.1.1; rw [← ez1] at e; omega)]; exact A) hP hS (lv_sub hl [0] rfl)
  · have t6 := tq_eq (k := z1.toInt) (q := (10)) c6 rfl (by decide +kernel)
    refine lv_iconst (v := 1) hx hb dX7_remembersAside_9 (by decide +kernel) ?_
    refine lv_istore_n (lv' := [(1, .int 1), (0, .ref p0)]) hx hb dX7_remembersAside_10 rfl hl (by decide) rfl (fun ls hl => ?_)
    have key11 := blocks (fun n => ∀ (v11_1 : Int32) (I11 : Nat → Nat → Int32) (J11 : Nat → Nat → Int64) (H : Heap) (lo : List Loc) (ls : Array Slot), (11 - v11_1.toInt).toNat = n → ((1) ≤ v11_1.toInt ∧ v11_1.toInt ≤ 10) → Iv L K x0 m0 tx tm I11 → (∀ b, ¬ (K b = 7 ∨ K b = 19) → I11 b = I b) → (∀ b, K b = 0 ∨ K b = 1 ∨ K b = 3 ∨ K b = 6 → I11 b = I b) → (∀ b, ¬ (K b = 22) → J11 b = J b) → (I11 p0 11).toInt = 10 → (∀ σ : Sx, cmA Q I J p0 σ → ∀ j : Nat, j < 10 → isF I11 J11 (a0 Q p0 3) (a0 Q p0 8) j (if j + 1 < v11_1.toInt.toNat then σ.2.2.1 (j + 1) else σ.2.2.1 j)) → va_P (dC, dI) vwCl (Wd cs L K I11 J11 Q) H → va_S A s.heap H lo → lv_has ls 2 [(0, .ref p0), (1, .int v11_1)] → W p l e R s m (([.ref p0] : List Value).toArray) below meth c H lo 0 0 Qz (F0 m 11 ls [])) (by
      intro n ih11
      intro v11_1 I11 J11 H lo ls hmu11 bv11_1 hI11 fr_I11 dn_I11 dj_J11 hpm hc11 hP hS hl
      refine lv_iload_n hx hb dX7_remembersAside_11 rfl (lv_at hl 1 rfl) ?_
      refine lv_bipush (v := 10) hx hb dX7_remembersAside_12 (by decide +kernel) ?_
      refine lv_icmp_ge (tgt := 46) hx hb dX7_remembersAside_14 (by decide) (fun c14 => ?_) (fun c14 => ?_)
      · have t14 := tq_le (k := (10)) (q := v11_1.toInt) c14 (by decide +kernel) rfl
        refine lv_aload_n hx hb dX7_remembersAside_46 rfl (lv_at hl 0 rfl) ?_
        refine lv_dup hx hb dX7_remembersAside_47 rfl ?_
        refine p_get hx hb hts inX7 hown hK hP hLp0 hKp0 rfl rfl 11 (by decide) (hts _ pq1126) rfl dX7_remembersAside_48 ?_
        refine lv_topi (fun z48 ez48 => ?_)
        have cgz48 := congrArg Int32.toInt ez48
        have bz48 := oI_7_11 (Iv_at hI11 hLp0 hKp0)
        rw [← ez48] at bz48
        refine lv_iconst (v := 1) hx hb dX7_remembersAside_51 (by decide +kernel) ?_
        refine lv_isub hx hb dX7_remembersAside_52 ?_
        refine lv_topi (fun z52 ez52 => ?_)
        have bz52 := tq_sub (k := z48.toInt) (q := (1)) ez52 rfl (by decide +kernel) (by omega) (by omega)
        refine p_put hx hb hts inX7 tyX7 tyX7_ok nmX7 hown hK hP hD hS hLp0 hKp0 rfl rfl 11 (by decide) (hts _ pq1126) rfl (by decide +kernel) (Nat.le_of_ble_eq_true rfl) (oS_7_11 cs _ _ _ _) dX7_remembersAside_53 (fun H locs hP hS => ?_)
        obtain ⟨Iz53, hP, hIz53, qIz53⟩ : ∃ Iz53, va_P (dC, dI) vwCl (Wd cs L K Iz53 J11 Q) H ∧ Iv L K x0 m0 tx tm Iz53 ∧ Iz53 = va_up I11 p0 (upd (I11 p0) 11 z52) := ⟨_, hP, Iv_put hI11 hKp0 (oP_7_11 (Iv_at hI11 hLp0 hKp0) ⟨by omega, by omega⟩) (by decide) (by decide), rfl⟩
        have dn_Iz53 : (∀ b, K b = 0 ∨ K b = 1 ∨ K b = 3 ∨ K b = 6 → Iz53 b = I b) := fun b hc => (congrFun qIz53 b).trans ((va_up_ne _ _ (fun z => by have q := hKp0; rw [← z] at q; omega)).trans (dn_I11 b hc))
        have fr_Iz53 : ∀ b, ¬ (K b = 7 ∨ K b = 19) → Iz53 b = I b := fun b q => (congrFun qIz53 b).trans ((va_up_ne _ _ (fun z => q (by rw [z]; have := hKp0; omega))).trans (fr_I11 b q))
        exact j56 Iz53 J11 _ _ _ hIz53 fr_Iz53 dn_Iz53 dj_J11 (by rw [qIz53, rz_at]; omega) (fun σ A => cmA_shf hQ hLp0 hKp0 (by rw [← ez1]; omega) (fun _ j hj => by have q := hc11 σ A j hj; rw [show v11_1.toInt.toNat = 10 by omega] at q; exact isF_fr (by rw [qIz53, va_up_ne _ _ (ne_k (a_g hQ hLp0 hKp0).2.1.1 hKp0 (by decide))]) rfl q) (fun b hb => by rw [qIz53, va_up_ne _ _ (fun z => by rw [z, hKp0] at hb; omega)]; exact fr_I11 b (by omega)) (fun b hb => dj_J11 b (by omega)) (by rw [qIz53, rz_at]; omega) A) hP hS (lv_sub hl [0] rfl)
      · have t14 := tq_nle (k := (10)) (q := v11_1.toInt) c14 (by decide +kernel) rfl
        refine lv_aload_n hx hb dX7_remembersAside_17 rfl (lv_at hl 0 rfl) ?_
        obtain ⟨y18, ey18, hLy18, hKy18⟩ := oQ_7_3 (Sv_at hQ hLp0 hKp0)
        refine p_get (v := .ref y18) hx hb hts inX7 hown hK hP hLp0 hKp0 rfl rfl 3 (by decide) (hts _ pq1118) (congrArg (fun q => some (va_rf q)) ey18) dX7_remembersAside_18 ?_
        refine lv_aload_n hx hb dX7_remembersAside_21 rfl (lv_at hl 0 rfl) ?_
        obtain ⟨y22, ey22, hLy22, hKy22⟩ := oQ_7_8 (Sv_at hQ hLp0 hKp0)
        refine p_get (v := .ref y22) hx hb hts inX7 hown hK hP hLp0 hKp0 rfl rfl 8 (by decide) (hts _ pq1123) (congrArg (fun q => some (va_rf q)) ey22) dX7_remembersAside_22 ?_
        refine lv_iload_n hx hb dX7_remembersAside_25 rfl (lv_at hl 1 rfl) ?_
        refine lv_aload_n hx hb dX7_remembersAside_26 rfl (lv_at hl 0 rfl) ?_
        refine p_get (v := .ref y18) hx hb hts inX7 hown hK hP hLp0 hKp0 rfl rfl 3 (by decide) (hts _ pq1118) (congrArg (fun q => some (va_rf q)) ey18) dX7_remembersAside_27 ?_
        refine lv_aload_n hx hb dX7_remembersAside_30 rfl (lv_at hl 0 rfl) ?_
        refine p_get (v := .ref y22) hx hb hts inX7 hown hK hP hLp0 hKp0 rfl rfl 8 (by decide) (hts _ pq1123) (congrArg (fun q => some (va_rf q)) ey22) dX7_remembersAside_31 ?_
        refine lv_iload_n hx hb dX7_remembersAside_34 rfl (lv_at hl 1 rfl) ?_
        refine lv_iconst (v := 1) hx hb dX7_remembersAside_35 (by decide +kernel) ?_
        refine lv_isub hx hb dX7_remembersAside_36 ?_
        refine lv_topi (fun z36 ez36 => ?_)
        have bz36 := tq_sub (k := v11_1.toInt) (q := (1)) ez36 rfl (by decide +kernel) (by omega) (by omega)
        refine sw_v (Z := (fun I1 J1 => Iv L K x0 m0 tx tm I1 ∧ (∀ b, ¬ (b = y18) → I1 b = I11 b) ∧ cpd 99 z36.toInt.toNat v11_1.toInt.toNat (I11 y18) (I11 y18) (I1 y18) ∧ cpd 640 z36.toInt.toNat v11_1.toInt.toNat (J11 y22) (J11 y22) (J1 y22) ∧ (∀ b, ¬ (K b = 22) → J1 b = J11 b))) (va_runS (As := [.ref y18, .ref y22, .int v11_1, .ref y18, .ref y22, .int z36]) (rest := []) ⟨hx, hb, hml, hown, hts⟩ (s_X7_movesQ l dC dI cs L K G Q hQ x0 m0 tx tm H.size I11 J11 hI11 y18 hLy18 hKy18 y22 hLy22 hKy22 v11_1 ⟨by omega, by omega⟩ y18 hLy18 hKy18 y22 hLy22 hKy22 z36 ⟨by omega, by omega⟩) (va_cwS 6 hts (gS pq1291 pq1292 pq81 pq1293) rfl rfl rfl (by decide +kernel) ⟨(by rw [hR]; exact (Nat.le_of_ble_eq_true rfl)), (by rw [hR]; exact (Nat.le_of_ble_eq_true rfl))⟩) (sP_S hP hD hK hN) rfl rfl hl.1 rfl (lv_room (Nat.le_of_ble_eq_true rfl)) dX7_remembersAside_37 ⟨(by rw [hR]; exact (Nat.le_of_ble_eq_true rfl)), (by rw [hR]; exact (Nat.le_of_ble_eq_true rfl))⟩) hS hAL hA (fun Iz37 Jz37 H locs hz37 hIz37 hP hS => ?_)
        obtain ⟨hIz37, frc37, fz37, jz37, djc37⟩ := hIz37
        have dj_Jz37 : (∀ b, ¬ (K b = 22) → Jz37 b = J b) := fun b hc => (djc37 b (fun z => hc (by omega))).trans (dj_J11 b hc)
        have dn_Iz37 : (∀ b, K b = 0 ∨ K b = 1 ∨ K b = 3 ∨ K b = 6 → Iz37 b = I b) := fun b hc => (frc37 b (fun z => by have q := hKy18; rw [← z] at q; omega)).trans (dn_I11 b hc)
        have fr_Iz37 : ∀ b, ¬ (K b = 7 ∨ K b = 19) → Iz37 b = I b := fun b q => (frc37 b (fun z => q (by rw [z]; have := hKy18; omega))).trans (fr_I11 b q)
        obtain ⟨z40, ez40⟩ : ∃ y : Int32, y = v11_1 + 1 := ⟨_, rfl⟩
        refine lv_iinc (v := z40) (lv' := [(1, .int z40), (0, .ref p0)]) hx hb dX7_remembersAside_40 hl (k := 1) rfl (by rw [ez40]; rfl) (by decide) rfl (fun ls hl => ?_)
        have bz40 := tq_add (k := v11_1.toInt) (q := 1) ez40 rfl (by decide +kernel) (by omega) (by omega)
        refine lv_goto (tgt := 11) hx hb dX7_remembersAside_43 (by decide) ?_
        exact ih11 _ (by omega) z40 Iz37 Jz37 _ _ _ rfl ⟨by omega, by omega⟩ hIz37 fr_Iz37 dn_Iz37 dj_Jz37 (by rw [frc37 p0 (ne_k hKp0 hKy18 (by decide))]; exact hpm) (fun σ A => ra_step (v := v11_1.toInt.toNat) (hc11 σ A) ⟨by omega, by omega⟩ (T := z36.toInt.toNat) (by omega) (by omega) (by rw [show a0 Q p0 3 = y18 from gd_of ey18]; exact fz37) (by rw [show a0 Q p0 8 = y22 from gd_of ey22]; exact jz37)) hP hS (lv_sub hl [1, 0] rfl))
    exact key11 _ 1 I J _ _ _ rfl ⟨by decide +kernel, by decide +kernel⟩ hI fr_I dn_I dj_J (by rw [← ez1]; omega) (fun σ A j hj => by have e := A.2.1.1; rw [← ez1] at e; rw [show (1 : Int32).toInt.toNat = 1 from by decide +kernel, if_neg (by omega)]; exact A.2.2.1 j (by omega)) hP hS (lv_sub hl [1, 0] rfl)

set_option maxHeartbeats 4000000 in
set_option maxRecDepth 100000 in
theorem s_X7_keepsPast (l : Launch) (dC : Nat → ClassId) (dI : Nat → Nat → Nat) (cs : Nat → ClassId) (L : List Nat) (K G : Nat → Nat) (Q : Nat → Nat → Option Nat) (hQ : Sv L K G Q) (x0 m0 : Nat) (tx : GT) (tm : GT × Int) (sz : Nat) (I : Nat → Nat → Int32) (J : Nat → Nat → Int64) (hI : Iv L K x0 m0 tx tm I) (p0 : Nat) (hLp0 : p0 ∈ L) (hKp0 : K p0 = 7) : Met l yX7_keepsPast (.code yX7_keepsPast cX7_keepsPast 1 none :: pw) ({ frames := 2, cells := 0, slots := 0, locals := 47 }) (sP (dC, dI) cs [.ref p0] sz L K I J Q) (va_Qv (fun (_ : Unit) => True) (fun _ t => sB (dC, dI) cs L K Q (fun I1 J1 => Iv L K x0 m0 tx tm I1 ∧ (∀ b, ¬ (K b = 7 ∨ K b = 19 ∨ K b = 30) → I1 b = I b) ∧ (∀ b, K b = 0 ∨ K b = 1 ∨ K b = 3 ∨ K b = 6 → I1 b = I b) ∧ (∀ σ : Sx, cmA Q I J p0 σ → cmA Q I1 J1 p0 (rem σ)) ∧ (∀ b, ¬ (K b = 22 ∨ K b = 33) → J1 b = J b)) t) (fun q => q ∈ L ∨ sz ≤ q)) 0 0 (fun q => q ∈ L ∨ sz ≤ q) := by
  refine Met.ofW (cc := cX7_keepsPast) (maxL := 1) (ret := none) (by decide +kernel) rfl ?_
  intro p e s m args below meth c s₁ B hml hv
  obtain ⟨rfl, hsz, hP, hK, hD0, hN⟩ := hv
  have hx := B.exec
  have hb := B.bytes
  have hr := B.returns
  have hts := fun w (h : w ∈ pw) => atoms_spec (ws := Cond.code yX7_keepsPast cX7_keepsPast 1 none :: pw) B.pre w (List.mem_cons_of_mem _ h)
  have hown : s.vm.findClass RX7 = some m.cls := findClass_of_methodNamed B.named
  have hlocks := B.notSynchronized
  subst hsz
  have hBB : 999 ≤ tm.2 ∧ tm.2 ≤ 6000000 := hI.2.2.2.2.1
  have dn_I : (∀ b, K b = 0 ∨ K b = 1 ∨ K b = 3 ∨ K b = 6 → I b = I b) := fun _ _ => rfl
  have dj_J : (∀ b, ¬ (K b = 22 ∨ K b = 33) → J b = J b) := fun _ _ => rfl
  have fr_I : ∀ b, ¬ (K b = 7 ∨ K b = 19 ∨ K b = 30) → I b = I b := fun _ _ => rfl
  obtain ⟨A, hAe⟩ : ∃ A : Nat → Prop, A = (fun q => q ∈ L ∨ s.heap.size ≤ q) := ⟨_, rfl⟩
  rw [← hAe]
  have hAL : ∀ q, q ∈ L → A q := fun q h => by rw [hAe]; exact Or.inl h
  have hA : ∀ q, s.heap.size ≤ q → A q := fun q h => by rw [hAe]; exact Or.inr h
  have hD : ∀ F, va_D A (va_pl L F) := fun F => (hD0 F).weaken (fun k q hk _ => hAL _ (pl_mem hk))
  obtain ⟨H, hHe⟩ : ∃ H : Heap, H = s.heap := ⟨_, rfl⟩
  have hS : va_S A s.heap H [] := by rw [hHe]; exact va_S.rf
  rw [← hHe] at hP
  have hl := lv_entry ([.ref p0]) (n := 1) (Nat.le_of_ble_eq_true rfl)
  rw [lg_entry_eq]
  generalize (lg_sl ([.ref p0]) ++ List.replicate (1 - (lg_sl ([.ref p0])).length) Slot.unset).toArray = ls at hl ⊢
  have hl : lv_has ls 1 [(0, .ref p0)] := hl
  rw [← hHe]
  refine namedW (fun R Qz hR hQz => ?_)
  refine lv_aload_n hx hb dX7_keepsPast_0 rfl (lv_at hl 0 rfl) ?_
  refine sw_v (Z := (fun I1 J1 => Iv L K x0 m0 tx tm I1 ∧ (∀ b, ¬ (K b = 30) → I1 b = I b) ∧ (∀ b, K b = 0 ∨ K b = 1 ∨ K b = 3 ∨ K b = 6 → I1 b = I b) ∧ (∀ c : Fx, isF I J (a0 Q p0 0) (a0 Q p0 5) 0 c → isF I1 J1 (a0 Q p0 2) (a0 Q p0 7) 0 c) ∧ (∀ b, ¬ (K b = 33) → J1 b = J b))) (va_runV (As := []) (rest := []) ⟨hx, hb, hml, hown, hts⟩ (s_X7_laysAside l dC dI cs L K G Q hQ x0 m0 tx tm H.size I J hI p0 hLp0 hKp0) (cwV 0 hts (gV pq1328 pq1330 pq27 pq81 pq1331) rfl rfl rfl (by decide +kernel) ⟨(by rw [hR]; exact (Nat.le_of_ble_eq_true rfl)), (by rw [hR]; exact (Nat.le_of_ble_eq_true rfl))⟩) (sP_V hP hD hK hN hLp0 hKp0 rfl rfl) rfl rfl hl.1 rfl (lv_room (Nat.le_of_ble_eq_true rfl)) dX7_keepsPast_1 ⟨(by rw [hR]; exact (Nat.le_of_ble_eq_true rfl)), (by rw [hR]; exact (Nat.le_of_ble_eq_true rfl))⟩) hS hAL hA (fun Iz1 Jz1 H locs hz1 hIz1 hP hS => ?_)
  obtain ⟨hIz1, frc1, dnc1, jz1, djc1⟩ := hIz1
  have dj_Jz1 : (∀ b, ¬ (K b = 22 ∨ K b = 33) → Jz1 b = J b) := fun b hc => (djc1 b (fun z => hc (by omega))).trans (dj_J b hc)
  have dn_Iz1 : (∀ b, K b = 0 ∨ K b = 1 ∨ K b = 3 ∨ K b = 6 → Iz1 b = I b) := fun b hc => (dnc1 b (by omega)).trans (dn_I b hc)
  have fr_Iz1 : ∀ b, ¬ (K b = 7 ∨ K b = 19 ∨ K b = 30) → Iz1 b = I b := fun b q => (frc1 b (fun z => q (by omega))).trans (fr_I b q)
  refine lv_aload_n hx hb dX7_keepsPast_4 rfl (lv_at hl 0 rfl) ?_
  refine sw_v (Z := (fun I1 J1 => Iv L K x0 m0 tx tm I1 ∧ (∀ b, ¬ (K b = 7 ∨ K b = 19) → I1 b = Iz1 b) ∧ (∀ b, K b = 0 ∨ K b = 1 ∨ K b = 3 ∨ K b = 6 → I1 b = Iz1 b) ∧ (∀ (σ : Sx) (c : Fx), cmA Q Iz1 Jz1 p0 σ → isF Iz1 Jz1 (a0 Q p0 2) (a0 Q p0 7) 0 c → cmA Q I1 J1 p0 (morc (shf σ) c)) ∧ (∀ b, ¬ (K b = 22) → J1 b = Jz1 b))) (va_runV (As := []) (rest := []) ⟨hx, hb, hml, hown, hts⟩ (s_X7_remembersAside l dC dI cs L K G Q hQ x0 m0 tx tm H.size Iz1 Jz1 hIz1 p0 hLp0 hKp0) (cwV 0 hts (gV pq1332 pq1334 pq28 pq81 pq1335) rfl rfl rfl (by decide +kernel) ⟨(by rw [hR]; exact (Nat.le_of_ble_eq_true rfl)), (by rw [hR]; exact (Nat.le_of_ble_eq_true rfl))⟩) (sP_V hP hD hK hN hLp0 hKp0 rfl rfl) rfl rfl hl.1 rfl (lv_room (Nat.le_of_ble_eq_true rfl)) dX7_keepsPast_5 ⟨(by rw [hR]; exact (Nat.le_of_ble_eq_true rfl)), (by rw [hR]; exact (Nat.le_of_ble_eq_true rfl))⟩) hS hAL hA (fun Iz5 Jz5 H locs hz5 hIz5 hP hS => ?_)
  obtain ⟨hIz5, frc5, dnc5, jz5, djc5⟩ := hIz5
  have dj_Jz5 : (∀ b, ¬ (K b = 22 ∨ K b = 33) → Jz5 b = J b) := fun b hc => (djc5 b (fun z => hc (by omega))).trans (dj_Jz1 b hc)
  have dn_Iz5 : (∀ b, K b = 0 ∨ K b = 1 ∨ K b = 3 ∨ K b = 6 → Iz5 b = I b) := fun b hc => (dnc5 b (by omega)).trans (dn_Iz1 b hc)
  have fr_Iz5 : ∀ b, ¬ (K b = 7 ∨ K b = 19 ∨ K b = 30) → Iz5 b = I b := fun b q => (frc5 b (fun z => q (by omega))).trans (fr_Iz1 b q)
  subst hR; subst hQz
  exact W.vret hx hb hr (fun t ht hW => ⟨⟨(), rfl, trivial, ⟨Iz5, Jz5, ⟨hIz5, fr_Iz5, dn_Iz5, (fun σ A => by rw [rem_c]; exact jz5 σ σ.1 (cmA_fr hQ hLp0 hKp0 (fun b hb => frc1 b (by omega)) (fun b hb => djc1 b (by omega)) (by rw [frc1 p0 (by omega)]) A) (jz1 σ.1 A.1)), dj_Jz5⟩, by rw [ht]; exact hP⟩⟩, hS.F ht⟩) hS.2.2 dX7_keepsPast_8

set_option maxHeartbeats 4000000 in
set_option maxRecDepth 100000 in
theorem s_X7_undo (l : Launch) (dC : Nat → ClassId) (dI : Nat → Nat → Nat) (cs : Nat → ClassId) (L : List Nat) (K G : Nat → Nat) (Q : Nat → Nat → Option Nat) (hQ : Sv L K G Q) (x0 m0 : Nat) (tx : GT) (tm : GT × Int) (sz : Nat) (I : Nat → Nat → Int32) (J : Nat → Nat → Int64) (hI : Iv L K x0 m0 tx tm I) (p0 : Nat) (hLp0 : p0 ∈ L) (hKp0 : K p0 = 7) : Met l yX7_undo (.code yX7_undo cX7_undo 1 (some .int) :: pw) ({ frames := 1, cells := 0, slots := 0, locals := 26 }) (sP (dC, dI) cs [.ref p0] sz L K I J Q) (va_Qi (fun (r : Int32) (_ : Unit) => (∀ σ : Sx, cmA Q I J p0 σ → r.toInt = (unA σ).1)) (fun _ t => sB (dC, dI) cs L K Q (fun I1 J1 => Iv L K x0 m0 tx tm I1 ∧ (∀ b, K b = 0 ∨ K b = 1 ∨ K b = 3 ∨ K b = 6 → I1 b = I b) ∧ (∀ σ : Sx, cmA Q I J p0 σ → cmA Q I1 J1 p0 (unA σ).2) ∧ (∀ b, ¬ (K b = 21) → J1 b = J b)) t) (fun q => q ∈ L ∨ sz ≤ q)) 0 0 (fun q => q ∈ L ∨ sz ≤ q) := by
  refine Met.ofW (cc := cX7_undo) (maxL := 1) (ret := (some .int)) (by decide +kernel) rfl ?_
  intro p e s m args below meth c s₁ B hml hv
  obtain ⟨rfl, hsz, hP, hK, hD0, hN⟩ := hv
  have hx := B.exec
  have hb := B.bytes
  have hr := B.returns
  have hts := fun w (h : w ∈ pw) => atoms_spec (ws := Cond.code yX7_undo cX7_undo 1 (some .int) :: pw) B.pre w (List.mem_cons_of_mem _ h)
  have hown : s.vm.findClass RX7 = some m.cls := findClass_of_methodNamed B.named
  have hlocks := B.notSynchronized
  subst hsz
  have hBB : 999 ≤ tm.2 ∧ tm.2 ≤ 6000000 := hI.2.2.2.2.1
  have dn_I : (∀ b, K b = 0 ∨ K b = 1 ∨ K b = 3 ∨ K b = 6 → I b = I b) := fun _ _ => rfl
  have dj_J : (∀ b, ¬ (K b = 21) → J b = J b) := fun _ _ => rfl
  obtain ⟨A, hAe⟩ : ∃ A : Nat → Prop, A = (fun q => q ∈ L ∨ s.heap.size ≤ q) := ⟨_, rfl⟩
  rw [← hAe]
  have hAL : ∀ q, q ∈ L → A q := fun q h => by rw [hAe]; exact Or.inl h
  have hA : ∀ q, s.heap.size ≤ q → A q := fun q h => by rw [hAe]; exact Or.inr h
  have hD : ∀ F, va_D A (va_pl L F) := fun F => (hD0 F).weaken (fun k q hk _ => hAL _ (pl_mem hk))
  obtain ⟨H, hHe⟩ : ∃ H : Heap, H = s.heap := ⟨_, rfl⟩
  have hS : va_S A s.heap H [] := by rw [hHe]; exact va_S.rf
  rw [← hHe] at hP
  have hl := lv_entry ([.ref p0]) (n := 1) (Nat.le_of_ble_eq_true rfl)
  rw [lg_entry_eq]
  generalize (lg_sl ([.ref p0]) ++ List.replicate (1 - (lg_sl ([.ref p0])).length) Slot.unset).toArray = ls at hl ⊢
  have hl : lv_has ls 1 [(0, .ref p0)] := hl
  rw [← hHe]
  refine namedW (fun R Qz hR hQz => ?_)
  refine lv_aload_n hx hb dX7_undo_0 rfl (lv_at hl 0 rfl) ?_
  refine p_get hx hb hts inX7 hown hK hP hLp0 hKp0 rfl rfl 11 (by decide) (hts _ pq1126) rfl dX7_undo_1 ?_
  refine lv_topi (fun z1 ez1 => ?_)
  have cgz1 := congrArg Int32.toInt ez1
  have bz1 := oI_7_11 (Iv_at hI hLp0 hKp0)
  rw [← ez1] at bz1
  refine lv_if_ne (tgt := 9) hx hb dX7_undo_4 (by decide) (fun c4 => ?_) (fun c4 => ?_)
  · have t4 := tq_ne (k := z1.toInt) (q := (0)) c4 rfl (by decide +kernel)
    refine lv_aload_n hx hb dX7_undo_9 rfl (lv_at hl 0 rfl) ?_
    refine lv_dup hx hb dX7_undo_10 rfl ?_
    refine p_get hx hb hts inX7 hown hK hP hLp0 hKp0 rfl rfl 11 (by decide) (hts _ pq1126) rfl dX7_undo_11 ?_
    refine lv_topi (fun z11 ez11 => ?_)
    obtain rfl : z1 = z11 := ez1.trans ez11.symm
    refine lv_iconst (v := 1) hx hb dX7_undo_14 (by decide +kernel) ?_
    refine lv_isub hx hb dX7_undo_15 ?_
    refine lv_topi (fun z15 ez15 => ?_)
    have bz15 := tq_sub (k := z1.toInt) (q := (1)) ez15 rfl (by decide +kernel) (by omega) (by omega)
    refine p_put hx hb hts inX7 tyX7 tyX7_ok nmX7 hown hK hP hD hS hLp0 hKp0 rfl rfl 11 (by decide) (hts _ pq1126) rfl (by decide +kernel) (Nat.le_of_ble_eq_true rfl) (oS_7_11 cs _ _ _ _) dX7_undo_16 (fun H locs hP hS => ?_)
    obtain ⟨Iz16, hP, hIz16, qIz16⟩ : ∃ Iz16, va_P (dC, dI) vwCl (Wd cs L K Iz16 J Q) H ∧ Iv L K x0 m0 tx tm Iz16 ∧ Iz16 = va_up I p0 (upd (I p0) 11 z15) := ⟨_, hP, Iv_put hI hKp0 (oP_7_11 (Iv_at hI hLp0 hKp0) ⟨by omega, by omega⟩) (by decide) (by decide), rfl⟩
    have dn_Iz16 : (∀ b, K b = 0 ∨ K b = 1 ∨ K b = 3 ∨ K b = 6 → Iz16 b = I b) := fun b hc => (congrFun qIz16 b).trans ((va_up_ne _ _ (fun z => by have q := hKp0; rw [← z] at q; omega)).trans (dn_I b hc))
    refine lv_aload_n hx hb dX7_undo_19 rfl (lv_at hl 0 rfl) ?_
    obtain ⟨y20, ey20, hLy20, hKy20⟩ := oQ_7_3 (Sv_at hQ hLp0 hKp0)
    refine p_get (v := .ref y20) hx hb hts inX7 hown hK hP hLp0 hKp0 rfl rfl 3 (by decide) (hts _ pq1118) (congrArg (fun q => some (va_rf q)) ey20) dX7_undo_20 ?_
    refine lv_aload_n hx hb dX7_undo_23 rfl (lv_at hl 0 rfl) ?_
    obtain ⟨y24, ey24, hLy24, hKy24⟩ := oQ_7_8 (Sv_at hQ hLp0 hKp0)
    refine p_get (v := .ref y24) hx hb hts inX7 hown hK hP hLp0 hKp0 rfl rfl 8 (by decide) (hts _ pq1123) (congrArg (fun q => some (va_rf q)) ey24) dX7_undo_24 ?_
    refine lv_aload_n hx hb dX7_undo_27 rfl (lv_at hl 0 rfl) ?_
    refine p_get hx hb hts inX7 hown hK hP hLp0 hKp0 rfl rfl 11 (by decide) (hts _ pq1126) rfl dX7_undo_28 ?_
    refine lv_topi (fun z28 ez28 => ?_)
    have cgz28 := congrArg Int32.toInt ez28
    have bz28 := oI_7_11 (Iv_at hIz16 hLp0 hKp0)
    rw [← ez28] at bz28
    have c28 := congrArg Int32.toInt (ez28.trans (show Iz16 p0 11 = z15 by rw [qIz16, rz_at]))
    refine lv_aload_n hx hb dX7_undo_31 rfl (lv_at hl 0 rfl) ?_
    obtain ⟨y32, ey32, hLy32, hKy32⟩ := oQ_7_0 (Sv_at hQ hLp0 hKp0)
    refine p_get (v := .ref y32) hx hb hts inX7 hown hK hP hLp0 hKp0 rfl rfl 0 (by decide) (hts _ pq1115) (congrArg (fun q => some (va_rf q)) ey32) dX7_undo_32 ?_
    refine lv_aload_n hx hb dX7_undo_35 rfl (lv_at hl 0 rfl) ?_
    obtain ⟨y36, ey36, hLy36, hKy36⟩ := oQ_7_5 (Sv_at hQ hLp0 hKp0)
    refine p_get (v := .ref y36) hx hb hts inX7 hown hK hP hLp0 hKp0 rfl rfl 5 (by decide) (hts _ pq1120) (congrArg (fun q => some (va_rf q)) ey36) dX7_undo_36 ?_
    refine lv_iconst (v := 0) hx hb dX7_undo_39 (by decide +kernel) ?_
    refine sw_v (Z := (fun I1 J1 => Iv L K x0 m0 tx tm I1 ∧ (∀ b, ¬ (b = y32) → I1 b = Iz16 b) ∧ cpd 99 (0 : Int32).toInt.toNat z28.toInt.toNat (Iz16 y20) (Iz16 y32) (I1 y32) ∧ cpd 640 (0 : Int32).toInt.toNat z28.toInt.toNat (J y24) (J y36) (J1 y36) ∧ (∀ b, ¬ (K b = 21) → J1 b = J b))) (va_runS (As := [.ref y20, .ref y24, .int z28, .ref y32, .ref y36, .int 0]) (rest := []) ⟨hx, hb, hml, hown, hts⟩ (s_X7_movesU l dC dI cs L K G Q hQ x0 m0 tx tm H.size Iz16 J hIz16 y20 hLy20 hKy20 y24 hLy24 hKy24 z28 ⟨by omega, by omega⟩ y32 hLy32 hKy32 y36 hLy36 hKy36 0 ⟨by decide +kernel, by decide +kernel⟩) (va_cwS 6 hts (gS pq1291 pq1292 pq81 pq1293) rfl rfl rfl (by decide +kernel) ⟨(by rw [hR]; exact (Nat.le_of_ble_eq_true rfl)), (by rw [hR]; exact (Nat.le_of_ble_eq_true rfl))⟩) (sP_S hP hD hK hN) rfl rfl hl.1 rfl (lv_room (Nat.le_of_ble_eq_true rfl)) dX7_undo_40 ⟨(by rw [hR]; exact (Nat.le_of_ble_eq_true rfl)), (by rw [hR]; exact (Nat.le_of_ble_eq_true rfl))⟩) hS hAL hA (fun Iz40 Jz40 H locs hz40 hIz40 hP hS => ?_)
    obtain ⟨hIz40, frc40, fz40, jz40, djc40⟩ := hIz40
    have dj_Jz40 : (∀ b, ¬ (K b = 21) → Jz40 b = J b) := fun b hc => (djc40 b (fun z => hc (by omega))).trans (dj_J b hc)
    have dn_Iz40 : (∀ b, K b = 0 ∨ K b = 1 ∨ K b = 3 ∨ K b = 6 → Iz40 b = I b) := fun b hc => (frc40 b (fun z => by have q := hKy32; rw [← z] at q; omega)).trans (dn_Iz16 b hc)
    have cst40_0 : (0 : Int32).toInt = 0 := by decide +kernel
    rw [show (0 : Int32).toInt.toNat = 0 from by decide +kernel] at fz40 jz40
    refine lv_aload_n hx hb dX7_undo_43 rfl (lv_at hl 0 rfl) ?_
    refine p_get hx hb hts inX7 hown hK hP hLp0 hKp0 rfl rfl 11 (by decide) (hts _ pq1126) rfl dX7_undo_44 ?_
    refine lv_topi (fun z44 ez44 => ?_)
    obtain rfl : z28 = z44 := by rw [ez44, frc40 p0 (ne_k hKp0 hKy32 (by decide))]; exact ez28
    have ez28x44 := ez44
    subst hR; subst hQz
    exact W.iret (v := z28) hx hb hr (fun t ht hW => ⟨⟨z28, (), rfl, (fun σ A => by have e := A.2.1.1; rw [← ez1] at e; rw [un_y (by omega)]; show z28.toInt = (σ.2.1 : Int) - 1; omega), ⟨Iz40, Jz40, ⟨hIz40, dn_Iz40, (fun σ A => by have e := A.2.1.1; rw [← ez1] at e; rw [un_y (by omega)]; have P := A.2.2.1 (σ.2.1 - 1) (by omega); have P2 := isF_fr (I1 := Iz16) (J1 := J) (by rw [qIz16, va_up_ne _ _ (ne_k (a_g hQ hLp0 hKp0).2.1.1 hKp0 (by decide))]) rfl P; rw [show σ.2.1 - 1 = z28.toInt.toNat from (by omega), show a0 Q p0 3 = y20 from gd_of ey20, show a0 Q p0 8 = y24 from gd_of ey24] at P2; have N := mv_to P2 fz40 jz40; refine cmA_now (n := σ.2.1 - 1) hQ hLp0 hKp0 (by rw [show a0 Q p0 0 = y32 from gd_of ey32, show a0 Q p0 5 = y36 from gd_of ey36, show σ.2.1 - 1 = z28.toInt.toNat from (by omega)]; exact N) (fun b hb => by rw [frc40 b (fun z => by rw [z] at hb; have := hKy32; omega), qIz16, va_up_ne _ _ (fun z => by rw [z, hKp0] at hb; omega)]) (fun b hb => djc40 b (by omega)) (by rw [frc40 p0 (ne_k hKp0 hKy32 (by decide)), qIz16, rz_at]; omega) (by omega) A), dj_Jz40⟩, by rw [ht]; exact hP⟩⟩, hS.F ht⟩) hS.2.2 dX7_undo_47
  · have t4 := tq_eq (k := z1.toInt) (q := (0)) c4 rfl (by decide +kernel)
    refine lv_iconst (v := (-1)) hx hb dX7_undo_7 (by decide +kernel) ?_
    subst hR; subst hQz
    exact W.iret (v := (-1)) hx hb hr (fun t ht hW => ⟨⟨(-1), (), rfl, (fun σ A => by have e := A.2.1.1; rw [← ez1] at e; rw [un_n (by omega)]; show (-1 : Int32).toInt = -1; decide +kernel), ⟨I, J, ⟨hI, dn_I, (fun σ A => by have e := A.2.1.1; rw [← ez1] at e; rw [un_n (by omega)]; exact A), dj_J⟩, by rw [ht]; exact hP⟩⟩, hS.F ht⟩) hS.2.2 dX7_undo_8

set_option maxHeartbeats 4000000 in
set_option maxRecDepth 100000 in
theorem s_X7_keep (l : Launch) (dC : Nat → ClassId) (dI : Nat → Nat → Nat) (cs : Nat → ClassId) (L : List Nat) (K G : Nat → Nat) (Q : Nat → Nat → Option Nat) (hQ : Sv L K G Q) (x0 m0 : Nat) (tx : GT) (tm : GT × Int) (sz : Nat) (I : Nat → Nat → Int32) (J : Nat → Nat → Int64) (hI : Iv L K x0 m0 tx tm I) (p0 : Nat) (hLp0 : p0 ∈ L) (hKp0 : K p0 = 7) (p1 : Int32) : Met l yX7_keep (.code yX7_keep cX7_keep 2 (some .int) :: pw) ({ frames := 1, cells := 0, slots := 0, locals := 26 }) (sP (dC, dI) cs [.ref p0, .int p1] sz L K I J Q) (va_Qi (fun (r : Int32) (_ : Unit) => (∀ σ : Sx, cmA Q I J p0 σ → r.toInt = (kpA σ p1).1)) (fun _ t => sB (dC, dI) cs L K Q (fun I1 J1 => Iv L K x0 m0 tx tm I1 ∧ (∀ b, K b = 0 ∨ K b = 1 ∨ K b = 3 ∨ K b = 6 → I1 b = I b) ∧ (∀ σ : Sx, cmA Q I J p0 σ → cmA Q I1 J1 p0 (kpA σ p1).2) ∧ (∀ b, ¬ (K b = 23) → J1 b = J b)) t) (fun q => q ∈ L ∨ sz ≤ q)) 0 0 (fun q => q ∈ L ∨ sz ≤ q) := by
  refine Met.ofW (cc := cX7_keep) (maxL := 2) (ret := (some .int)) (by decide +kernel) rfl ?_
  intro p e s m args below meth c s₁ B hml hv
  obtain ⟨rfl, hsz, hP, hK, hD0, hN⟩ := hv
  have hx := B.exec
  have hb := B.bytes
  have hr := B.returns
  have hts := fun w (h : w ∈ pw) => atoms_spec (ws := Cond.code yX7_keep cX7_keep 2 (some .int) :: pw) B.pre w (List.mem_cons_of_mem _ h)
  have hown : s.vm.findClass RX7 = some m.cls := findClass_of_methodNamed B.named
  have hlocks := B.notSynchronized
  subst hsz
  have hBB : 999 ≤ tm.2 ∧ tm.2 ≤ 6000000 := hI.2.2.2.2.1
  have dn_I : (∀ b, K b = 0 ∨ K b = 1 ∨ K b = 3 ∨ K b = 6 → I b = I b) := fun _ _ => rfl
  have dj_J : (∀ b, ¬ (K b = 23) → J b = J b) := fun _ _ => rfl
  obtain ⟨A, hAe⟩ : ∃ A : Nat → Prop, A = (fun q => q ∈ L ∨ s.heap.size ≤ q) := ⟨_, rfl⟩
  rw [← hAe]
  have hAL : ∀ q, q ∈ L → A q := fun q h => by rw [hAe]; exact Or.inl h
  have hA : ∀ q, s.heap.size ≤ q → A q := fun q h => by rw [hAe]; exact Or.inr h
  have hD : ∀ F, va_D A (va_pl L F) := fun F => (hD0 F).weaken (fun k q hk _ => hAL _ (pl_mem hk))
  obtain ⟨H, hHe⟩ : ∃ H : Heap, H = s.heap := ⟨_, rfl⟩
  have hS : va_S A s.heap H [] := by rw [hHe]; exact va_S.rf
  rw [← hHe] at hP
  have hl := lv_entry ([.ref p0, .int p1]) (n := 2) (Nat.le_of_ble_eq_true rfl)
  rw [lg_entry_eq]
  generalize (lg_sl ([.ref p0, .int p1]) ++ List.replicate (2 - (lg_sl ([.ref p0, .int p1])).length) Slot.unset).toArray = ls at hl ⊢
  have hl : lv_has ls 2 [(0, .ref p0), (1, .int p1)] := hl
  rw [← hHe]
  refine namedW (fun R Qz hR hQz => ?_)
  refine lv_iload_n hx hb dX7_keep_0 rfl (lv_at hl 1 rfl) ?_
  refine lv_i2l hx hb dX7_keep_1 rfl ?_
  refine lv_topl (fun z1 ez1 => ?_)
  have bz1 := tq_i2l (k := p1.toInt) ez1 rfl
  refine lv_lconst (v := 0) hx hb dX7_keep_2 (by decide +kernel) ?_
  refine lv_lconst (v := 1) hx hb dX7_keep_3 (by decide +kernel) ?_
  refine ro_i (va_runS (As := [.long z1, .long 0, .long 1]) (rest := []) ⟨hx, hb, hml, hown, hts⟩ (s_X7_in l dC dI cs L K Q H.size I J z1 0 1) (va_cwS 3 hts (gS pq1234 pq1235 pq81 pq1236) rfl rfl rfl (by decide +kernel) ⟨(by rw [hR]; exact (Nat.le_of_ble_eq_true rfl)), (by rw [hR]; exact (Nat.le_of_ble_eq_true rfl))⟩) (sP_S hP hD hK hN) rfl rfl hl.1 rfl (lv_room (Nat.le_of_ble_eq_true rfl)) dX7_keep_4 ⟨(by rw [hR]; exact (Nat.le_of_ble_eq_true rfl)), (by rw [hR]; exact (Nat.le_of_ble_eq_true rfl))⟩) hS hP (fun z4 H locs hz4 hP hS => ?_)
  have csl4_0 : (0 : Int64).toInt = 0 := by decide +kernel
  have csl4_1 : (1 : Int64).toInt = 1 := by decide +kernel
  obtain ⟨bz4, imz4, xpz4⟩ := hz4
  refine lv_if_ne (tgt := 12) hx hb dX7_keep_7 (by decide) (fun c7 => ?_) (fun c7 => ?_)
  · have t7 := tq_ne (k := z4.toInt) (q := (0)) c7 rfl (by decide +kernel)
    have i7 := imz4 t7
    refine lv_aload_n hx hb dX7_keep_12 rfl (lv_at hl 0 rfl) ?_
    obtain ⟨y13, ey13, hLy13, hKy13⟩ := oQ_7_0 (Sv_at hQ hLp0 hKp0)
    refine p_get (v := .ref y13) hx hb hts inX7 hown hK hP hLp0 hKp0 rfl rfl 0 (by decide) (hts _ pq1115) (congrArg (fun q => some (va_rf q)) ey13) dX7_keep_13 ?_
    refine lv_aload_n hx hb dX7_keep_16 rfl (lv_at hl 0 rfl) ?_
    obtain ⟨y17, ey17, hLy17, hKy17⟩ := oQ_7_5 (Sv_at hQ hLp0 hKp0)
    refine p_get (v := .ref y17) hx hb hts inX7 hown hK hP hLp0 hKp0 rfl rfl 5 (by decide) (hts _ pq1120) (congrArg (fun q => some (va_rf q)) ey17) dX7_keep_17 ?_
    refine lv_iconst (v := 0) hx hb dX7_keep_20 (by decide +kernel) ?_
    refine lv_aload_n hx hb dX7_keep_21 rfl (lv_at hl 0 rfl) ?_
    obtain ⟨y22, ey22, hLy22, hKy22⟩ := oQ_7_4 (Sv_at hQ hLp0 hKp0)
    refine p_get (v := .ref y22) hx hb hts inX7 hown hK hP hLp0 hKp0 rfl rfl 4 (by decide) (hts _ pq1119) (congrArg (fun q => some (va_rf q)) ey22) dX7_keep_22 ?_
    refine lv_aload_n hx hb dX7_keep_25 rfl (lv_at hl 0 rfl) ?_
    obtain ⟨y26, ey26, hLy26, hKy26⟩ := oQ_7_9 (Sv_at hQ hLp0 hKp0)
    refine p_get (v := .ref y26) hx hb hts inX7 hown hK hP hLp0 hKp0 rfl rfl 9 (by decide) (hts _ pq1124) (congrArg (fun q => some (va_rf q)) ey26) dX7_keep_26 ?_
    refine lv_iload_n hx hb dX7_keep_29 rfl (lv_at hl 1 rfl) ?_
    refine sw_v (Z := (fun I1 J1 => Iv L K x0 m0 tx tm I1 ∧ (∀ b, ¬ (b = y22) → I1 b = I b) ∧ cpd 99 p1.toInt.toNat (0 : Int32).toInt.toNat (I y13) (I y22) (I1 y22) ∧ cpd 640 p1.toInt.toNat (0 : Int32).toInt.toNat (J y17) (J y26) (J1 y26) ∧ (∀ b, ¬ (K b = 23) → J1 b = J b))) (va_runS (As := [.ref y13, .ref y17, .int 0, .ref y22, .ref y26, .int p1]) (rest := []) ⟨hx, hb, hml, hown, hts⟩ (s_X7_movesK l dC dI cs L K G Q hQ x0 m0 tx tm H.size I J hI y13 hLy13 hKy13 y17 hLy17 hKy17 0 ⟨by decide +kernel, by decide +kernel⟩ y22 hLy22 hKy22 y26 hLy26 hKy26 p1 ⟨by omega, by omega⟩) (va_cwS 6 hts (gS pq1291 pq1292 pq81 pq1293) rfl rfl rfl (by decide +kernel) ⟨(by rw [hR]; exact (Nat.le_of_ble_eq_true rfl)), (by rw [hR]; exact (Nat.le_of_ble_eq_true rfl))⟩) (sP_S hP hD hK hN) rfl rfl hl.1 rfl (lv_room (Nat.le_of_ble_eq_true rfl)) dX7_keep_30 ⟨(by rw [hR]; exact (Nat.le_of_ble_eq_true rfl)), (by rw [hR]; exact (Nat.le_of_ble_eq_true rfl))⟩) hS hAL hA (fun Iz30 Jz30 H locs hz30 hIz30 hP hS => ?_)
    obtain ⟨hIz30, frc30, fz30, jz30, djc30⟩ := hIz30
    have dj_Jz30 : (∀ b, ¬ (K b = 23) → Jz30 b = J b) := fun b hc => (djc30 b (fun z => hc (by omega))).trans (dj_J b hc)
    have dn_Iz30 : (∀ b, K b = 0 ∨ K b = 1 ∨ K b = 3 ∨ K b = 6 → Iz30 b = I b) := fun b hc => (frc30 b (fun z => by have q := hKy22; rw [← z] at q; omega)).trans (dn_I b hc)
    have cst30_0 : (0 : Int32).toInt = 0 := by decide +kernel
    rw [show (0 : Int32).toInt.toNat = 0 from by decide +kernel] at fz30 jz30
    refine lv_aload_n hx hb dX7_keep_33 rfl (lv_at hl 0 rfl) ?_
    obtain ⟨y34, ey34, hLy34, hKy34⟩ := oQ_7_10 (Sv_at hQ hLp0 hKp0)
    refine p_get (v := .ref y34) hx hb hts inX7 hown hK hP hLp0 hKp0 rfl rfl 10 (by decide) (hts _ pq1125) (congrArg (fun q => some (va_rf q)) ey34) dX7_keep_34 ?_
    refine lv_iload_n hx hb dX7_keep_37 rfl (lv_at hl 1 rfl) ?_
    refine lv_iconst (v := 1) hx hb dX7_keep_38 (by decide +kernel) ?_
    refine p_zast hx hb hK hP hD hS 14 hLy34 hKy34 rfl (fun _ => rfl) rfl (in_of (by omega) (by omega)) dX7_keep_39 (fun H locs hP hS => ?_)
    obtain ⟨Iz39, hP, hIz39, qIz39⟩ : ∃ Iz39, va_P (dC, dI) vwCl (Wd cs L K Iz39 Jz30 Q) H ∧ Iv L K x0 m0 tx tm Iz39 ∧ Iz39 = va_up Iz30 y34 (upd (Iz30 y34) p1.toNatClampNeg (vp_nar .boolean (1 : Int32))) := ⟨_, hP, Iv_put hIz30 hKy34 (show okI _ 24 _ from trivial) (Or.inl (by decide)) (Or.inl (by decide)), rfl⟩
    have dn_Iz39 : (∀ b, K b = 0 ∨ K b = 1 ∨ K b = 3 ∨ K b = 6 → Iz39 b = I b) := fun b hc => (congrFun qIz39 b).trans ((va_up_ne _ _ (fun z => by have q := hKy34; rw [← z] at q; omega)).trans (dn_Iz30 b hc))
    refine lv_aload_n hx hb dX7_keep_40 rfl (lv_at hl 0 rfl) ?_
    refine p_get (v := .ref y13) hx hb hts inX7 hown hK hP hLp0 hKp0 rfl rfl 0 (by decide) (hts _ pq1115) (congrArg (fun q => some (va_rf q)) ey13) dX7_keep_41 ?_
    refine lv_iconst (v := 1) hx hb dX7_keep_44 (by decide +kernel) ?_
    refine p_iald hx hb hK hP 8 hLy13 hKy13 rfl rfl (in_d (by decide +kernel)) dX7_keep_45 ?_
    refine lv_topi (fun z45 ez45 => ?_)
    have bz45 := rng1 (oR_18 (i := (1 : Int32)) (k := (1)) (by decide +kernel) (Iv_at hIz39 hLy13 hKy13))
    rw [← ez45] at bz45
    subst hR; subst hQz
    exact W.iret (v := z45) hx hb hr (fun t ht hW => ⟨⟨z45, (), rfl, (fun σ A => by rw [kp_y ⟨by omega, by omega⟩]; show z45.toInt = (σ.1.1 1).toInt; rw [ez45, qIz39, va_up_ne _ _ (ne_k hKy13 hKy34 (by decide)), frc30 y13 (ne_k hKy13 hKy22 (by decide)), show (1 : Int32).toNatClampNeg = 1 from by decide +kernel, ← cmA_n A (by decide), show a0 Q p0 0 = y13 from gd_of ey13]), ⟨Iz39, Jz30, ⟨hIz39, dn_Iz39, (fun σ A => by rw [kp_y ⟨by omega, by omega⟩]; have A1 := A.1; rw [show a0 Q p0 0 = y13 from gd_of ey13, show a0 Q p0 5 = y17 from gd_of ey17] at A1; have N := mv_to A1 fz30 jz30; refine cmA_kept (v := vp_nar .boolean 1) hQ hLp0 hKp0 (by decide +kernel) (by rw [show a0 Q p0 10 = y34 from gd_of ey34, qIz39, va_up_self, frc30 y34 (ne_k hKy34 hKy22 (by decide))]; rfl) (by rw [show a0 Q p0 4 = y22 from gd_of ey22, show a0 Q p0 9 = y26 from gd_of ey26]; exact isF_fr (by rw [qIz39, va_up_ne _ _ (ne_k hKy22 hKy34 (by decide))]) rfl N) (fun s c hs h => by rw [show a0 Q p0 4 = y22 from gd_of ey22, show a0 Q p0 9 = y26 from gd_of ey26] at h; rw [show a0 Q p0 4 = y22 from gd_of ey22, show a0 Q p0 9 = y26 from gd_of ey26]; exact isF_fr (I := Iz30) (J := Jz30) (by rw [qIz39, va_up_ne _ _ (ne_k hKy22 hKy34 (by decide))]) rfl (mv_oth (s0 := 0) h hs fz30 jz30)) (fun b h1 h2 => by rw [qIz39, va_up_ne _ _ (fun z => h2 (by rw [z]; exact hKy34)), frc30 b (fun z => h1 (by rw [z]; exact hKy22))]) djc30 A), dj_Jz30⟩, by rw [ht]; exact hP⟩⟩, hS.F ht⟩) hS.2.2 dX7_keep_46
  · have t7 := tq_eq (k := z4.toInt) (q := (0)) c7 rfl (by decide +kernel)
    refine lv_iconst (v := (-1)) hx hb dX7_keep_10 (by decide +kernel) ?_
    subst hR; subst hQz
    exact W.iret (v := (-1)) hx hb hr (fun t ht hW => ⟨⟨(-1), (), rfl, (fun σ A => by rw [kp_n (fun q => xpz4 t7 (by omega))]; show (-1 : Int32).toInt = -1; decide +kernel), ⟨I, J, ⟨hI, dn_I, (fun σ A => by rw [kp_n (fun q => xpz4 t7 (by omega))]; exact A), dj_J⟩, by rw [ht]; exact hP⟩⟩, hS.F ht⟩) hS.2.2 dX7_keep_11

set_option maxHeartbeats 4000000 in
set_option maxRecDepth 100000 in
theorem s_X7_back (l : Launch) (dC : Nat → ClassId) (dI : Nat → Nat → Nat) (cs : Nat → ClassId) (L : List Nat) (K G : Nat → Nat) (Q : Nat → Nat → Option Nat) (hQ : Sv L K G Q) (x0 m0 : Nat) (tx : GT) (tm : GT × Int) (sz : Nat) (I : Nat → Nat → Int32) (J : Nat → Nat → Int64) (hI : Iv L K x0 m0 tx tm I) (p0 : Nat) (hLp0 : p0 ∈ L) (hKp0 : K p0 = 7) (p1 : Int32) : Met l yX7_back (.code yX7_back cX7_back 2 (some .int) :: pw) ({ frames := 1, cells := 0, slots := 0, locals := 26 }) (sP (dC, dI) cs [.ref p0, .int p1] sz L K I J Q) (va_Qi (fun (r : Int32) (_ : Unit) => (∀ σ : Sx, cmA Q I J p0 σ → r.toInt = (bkA σ p1).1)) (fun _ t => sB (dC, dI) cs L K Q (fun I1 J1 => Iv L K x0 m0 tx tm I1 ∧ (∀ b, K b = 0 ∨ K b = 1 ∨ K b = 3 ∨ K b = 6 → I1 b = I b) ∧ (∀ σ : Sx, cmA Q I J p0 σ → cmA Q I1 J1 p0 (bkA σ p1).2) ∧ (∀ b, ¬ (K b = 21) → J1 b = J b)) t) (fun q => q ∈ L ∨ sz ≤ q)) 0 0 (fun q => q ∈ L ∨ sz ≤ q) := by
  refine Met.ofW (cc := cX7_back) (maxL := 2) (ret := (some .int)) (by decide +kernel) rfl ?_
  intro p e s m args below meth c s₁ B hml hv
  obtain ⟨rfl, hsz, hP, hK, hD0, hN⟩ := hv
  have hx := B.exec
  have hb := B.bytes
  have hr := B.returns
  have hts := fun w (h : w ∈ pw) => atoms_spec (ws := Cond.code yX7_back cX7_back 2 (some .int) :: pw) B.pre w (List.mem_cons_of_mem _ h)
  have hown : s.vm.findClass RX7 = some m.cls := findClass_of_methodNamed B.named
  have hlocks := B.notSynchronized
  subst hsz
  have hBB : 999 ≤ tm.2 ∧ tm.2 ≤ 6000000 := hI.2.2.2.2.1
  have dn_I : (∀ b, K b = 0 ∨ K b = 1 ∨ K b = 3 ∨ K b = 6 → I b = I b) := fun _ _ => rfl
  have dj_J : (∀ b, ¬ (K b = 21) → J b = J b) := fun _ _ => rfl
  obtain ⟨A, hAe⟩ : ∃ A : Nat → Prop, A = (fun q => q ∈ L ∨ s.heap.size ≤ q) := ⟨_, rfl⟩
  rw [← hAe]
  have hAL : ∀ q, q ∈ L → A q := fun q h => by rw [hAe]; exact Or.inl h
  have hA : ∀ q, s.heap.size ≤ q → A q := fun q h => by rw [hAe]; exact Or.inr h
  have hD : ∀ F, va_D A (va_pl L F) := fun F => (hD0 F).weaken (fun k q hk _ => hAL _ (pl_mem hk))
  obtain ⟨H, hHe⟩ : ∃ H : Heap, H = s.heap := ⟨_, rfl⟩
  have hS : va_S A s.heap H [] := by rw [hHe]; exact va_S.rf
  rw [← hHe] at hP
  have hl := lv_entry ([.ref p0, .int p1]) (n := 2) (Nat.le_of_ble_eq_true rfl)
  rw [lg_entry_eq]
  generalize (lg_sl ([.ref p0, .int p1]) ++ List.replicate (2 - (lg_sl ([.ref p0, .int p1])).length) Slot.unset).toArray = ls at hl ⊢
  have hl : lv_has ls 2 [(0, .ref p0), (1, .int p1)] := hl
  rw [← hHe]
  refine namedW (fun R Qz hR hQz => ?_)
  refine lv_iload_n hx hb dX7_back_0 rfl (lv_at hl 1 rfl) ?_
  refine lv_i2l hx hb dX7_back_1 rfl ?_
  refine lv_topl (fun z1 ez1 => ?_)
  have bz1 := tq_i2l (k := p1.toInt) ez1 rfl
  refine lv_lconst (v := 0) hx hb dX7_back_2 (by decide +kernel) ?_
  refine lv_lconst (v := 1) hx hb dX7_back_3 (by decide +kernel) ?_
  refine ro_i (va_runS (As := [.long z1, .long 0, .long 1]) (rest := []) ⟨hx, hb, hml, hown, hts⟩ (s_X7_in l dC dI cs L K Q H.size I J z1 0 1) (va_cwS 3 hts (gS pq1234 pq1235 pq81 pq1236) rfl rfl rfl (by decide +kernel) ⟨(by rw [hR]; exact (Nat.le_of_ble_eq_true rfl)), (by rw [hR]; exact (Nat.le_of_ble_eq_true rfl))⟩) (sP_S hP hD hK hN) rfl rfl hl.1 rfl (lv_room (Nat.le_of_ble_eq_true rfl)) dX7_back_4 ⟨(by rw [hR]; exact (Nat.le_of_ble_eq_true rfl)), (by rw [hR]; exact (Nat.le_of_ble_eq_true rfl))⟩) hS hP (fun z4 H locs hz4 hP hS => ?_)
  have csl4_0 : (0 : Int64).toInt = 0 := by decide +kernel
  have csl4_1 : (1 : Int64).toInt = 1 := by decide +kernel
  obtain ⟨bz4, imz4, xpz4⟩ := hz4
  refine lv_if_ne (tgt := 12) hx hb dX7_back_7 (by decide) (fun c7 => ?_) (fun c7 => ?_)
  · have t7 := tq_ne (k := z4.toInt) (q := (0)) c7 rfl (by decide +kernel)
    have i7 := imz4 t7
    refine lv_aload_n hx hb dX7_back_12 rfl (lv_at hl 0 rfl) ?_
    obtain ⟨y13, ey13, hLy13, hKy13⟩ := oQ_7_10 (Sv_at hQ hLp0 hKp0)
    refine p_get (v := .ref y13) hx hb hts inX7 hown hK hP hLp0 hKp0 rfl rfl 10 (by decide) (hts _ pq1125) (congrArg (fun q => some (va_rf q)) ey13) dX7_back_13 ?_
    refine lv_iload_n hx hb dX7_back_16 rfl (lv_at hl 1 rfl) ?_
    refine p_zald hx hb hK hP 14 hLy13 hKy13 rfl rfl (in_of (by omega) (by omega)) dX7_back_17 ?_
    refine lv_topi (fun z17 ez17 => ?_)
    refine lv_if_ne (tgt := 24) hx hb dX7_back_18 (by decide) (fun c18 => ?_) (fun c18 => ?_)
    · have t18 := tq_ne (k := z17.toInt) (q := (0)) c18 rfl (by decide +kernel)
      refine lv_aload_n hx hb dX7_back_24 rfl (lv_at hl 0 rfl) ?_
      obtain ⟨y25, ey25, hLy25, hKy25⟩ := oQ_7_4 (Sv_at hQ hLp0 hKp0)
      refine p_get (v := .ref y25) hx hb hts inX7 hown hK hP hLp0 hKp0 rfl rfl 4 (by decide) (hts _ pq1119) (congrArg (fun q => some (va_rf q)) ey25) dX7_back_25 ?_
      refine lv_aload_n hx hb dX7_back_28 rfl (lv_at hl 0 rfl) ?_
      obtain ⟨y29, ey29, hLy29, hKy29⟩ := oQ_7_9 (Sv_at hQ hLp0 hKp0)
      refine p_get (v := .ref y29) hx hb hts inX7 hown hK hP hLp0 hKp0 rfl rfl 9 (by decide) (hts _ pq1124) (congrArg (fun q => some (va_rf q)) ey29) dX7_back_29 ?_
      refine lv_iload_n hx hb dX7_back_32 rfl (lv_at hl 1 rfl) ?_
      refine lv_aload_n hx hb dX7_back_33 rfl (lv_at hl 0 rfl) ?_
      obtain ⟨y34, ey34, hLy34, hKy34⟩ := oQ_7_0 (Sv_at hQ hLp0 hKp0)
      refine p_get (v := .ref y34) hx hb hts inX7 hown hK hP hLp0 hKp0 rfl rfl 0 (by decide) (hts _ pq1115) (congrArg (fun q => some (va_rf q)) ey34) dX7_back_34 ?_
      refine lv_aload_n hx hb dX7_back_37 rfl (lv_at hl 0 rfl) ?_
      obtain ⟨y38, ey38, hLy38, hKy38⟩ := oQ_7_5 (Sv_at hQ hLp0 hKp0)
      refine p_get (v := .ref y38) hx hb hts inX7 hown hK hP hLp0 hKp0 rfl rfl 5 (by decide) (hts _ pq1120) (congrArg (fun q => some (va_rf q)) ey38) dX7_back_38 ?_
      refine lv_iconst (v := 0) hx hb dX7_back_41 (by decide +kernel) ?_
      refine sw_v (Z := (fun I1 J1 => Iv L K x0 m0 tx tm I1 ∧ (∀ b, ¬ (b = y34) → I1 b = I b) ∧ cpd 99 (0 : Int32).toInt.toNat p1.toInt.toNat (I y25) (I y34) (I1 y34) ∧ cpd 640 (0 : Int32).toInt.toNat p1.toInt.toNat (J y29) (J y38) (J1 y38) ∧ (∀ b, ¬ (K b = 21) → J1 b = J b))) (va_runS (As := [.ref y25, .ref y29, .int p1, .ref y34, .ref y38, .int 0]) (rest := []) ⟨hx, hb, hml, hown, hts⟩ (s_X7_movesB l dC dI cs L K G Q hQ x0 m0 tx tm H.size I J hI y25 hLy25 hKy25 y29 hLy29 hKy29 p1 ⟨by omega, by omega⟩ y34 hLy34 hKy34 y38 hLy38 hKy38 0 ⟨by decide +kernel, by decide +kernel⟩) (va_cwS 6 hts (gS pq1291 pq1292 pq81 pq1293) rfl rfl rfl (by decide +kernel) ⟨(by rw [hR]; exact (Nat.le_of_ble_eq_true rfl)), (by rw [hR]; exact (Nat.le_of_ble_eq_true rfl))⟩) (sP_S hP hD hK hN) rfl rfl hl.1 rfl (lv_room (Nat.le_of_ble_eq_true rfl)) dX7_back_42 ⟨(by rw [hR]; exact (Nat.le_of_ble_eq_true rfl)), (by rw [hR]; exact (Nat.le_of_ble_eq_true rfl))⟩) hS hAL hA (fun Iz42 Jz42 H locs hz42 hIz42 hP hS => ?_)
      obtain ⟨hIz42, frc42, fz42, jz42, djc42⟩ := hIz42
      have dj_Jz42 : (∀ b, ¬ (K b = 21) → Jz42 b = J b) := fun b hc => (djc42 b (fun z => hc (by omega))).trans (dj_J b hc)
      have dn_Iz42 : (∀ b, K b = 0 ∨ K b = 1 ∨ K b = 3 ∨ K b = 6 → Iz42 b = I b) := fun b hc => (frc42 b (fun z => by have q := hKy34; rw [← z] at q; omega)).trans (dn_I b hc)
      have cst42_0 : (0 : Int32).toInt = 0 := by decide +kernel
      rw [show (0 : Int32).toInt.toNat = 0 from by decide +kernel] at fz42 jz42
      refine lv_aload_n hx hb dX7_back_45 rfl (lv_at hl 0 rfl) ?_
      refine lv_iconst (v := 0) hx hb dX7_back_46 (by decide +kernel) ?_
      refine p_put hx hb hts inX7 tyX7 tyX7_ok nmX7 hown hK hP hD hS hLp0 hKp0 rfl rfl 11 (by decide) (hts _ pq1126) rfl (by decide +kernel) (Nat.le_of_ble_eq_true rfl) (oS_7_11 cs _ _ _ _) dX7_back_47 (fun H locs hP hS => ?_)
      obtain ⟨Iz47, hP, hIz47, qIz47⟩ : ∃ Iz47, va_P (dC, dI) vwCl (Wd cs L K Iz47 Jz42 Q) H ∧ Iv L K x0 m0 tx tm Iz47 ∧ Iz47 = va_up Iz42 p0 (upd (Iz42 p0) 11 (0 : Int32)) := ⟨_, hP, Iv_put hIz42 hKp0 (oP_7_11 (Iv_at hIz42 hLp0 hKp0) ⟨by decide +kernel, by decide +kernel⟩) (by decide) (by decide), rfl⟩
      have dn_Iz47 : (∀ b, K b = 0 ∨ K b = 1 ∨ K b = 3 ∨ K b = 6 → Iz47 b = I b) := fun b hc => (congrFun qIz47 b).trans ((va_up_ne _ _ (fun z => by have q := hKp0; rw [← z] at q; omega)).trans (dn_Iz42 b hc))
      refine lv_aload_n hx hb dX7_back_50 rfl (lv_at hl 0 rfl) ?_
      refine p_get (v := .ref y34) hx hb hts inX7 hown hK hP hLp0 hKp0 rfl rfl 0 (by decide) (hts _ pq1115) (congrArg (fun q => some (va_rf q)) ey34) dX7_back_51 ?_
      refine lv_iconst (v := 1) hx hb dX7_back_54 (by decide +kernel) ?_
      refine p_iald hx hb hK hP 8 hLy34 hKy34 rfl rfl (in_d (by decide +kernel)) dX7_back_55 ?_
      refine lv_topi (fun z55 ez55 => ?_)
      have bz55 := rng1 (oR_18 (i := (1 : Int32)) (k := (1)) (by decide +kernel) (Iv_at hIz47 hLy34 hKy34))
      rw [← ez55] at bz55
      subst hR; subst hQz
      exact W.iret (v := z55) hx hb hr (fun t ht hW => ⟨⟨z55, (), rfl, (fun σ A => by rcases A.2.2.2 p1.toInt.toNat (by omega) with ⟨z1, z2⟩ | ⟨z1, c, z2, z3⟩; (rw [show a0 Q p0 10 = y13 from gd_of ey13, show I y13 p1.toInt.toNat = z17 from ez17.symm] at z1; exact absurd (by rw [z1]; decide +kernel) t18); (rw [bk_y ⟨by omega, by omega⟩ z2]; rw [show a0 Q p0 4 = y25 from gd_of ey25, show a0 Q p0 9 = y29 from gd_of ey29] at z3; have N := mv_to z3 fz42 jz42; show z55.toInt = (c.1 1).toInt; rw [ez55, qIz47, va_up_ne _ _ (ne_k hKy34 hKp0 (by decide)), show (1 : Int32).toNatClampNeg = 1 from by decide +kernel, ← N.1 1 (by decide)])), ⟨Iz47, Jz42, ⟨hIz47, dn_Iz47, (fun σ A => by rcases A.2.2.2 p1.toInt.toNat (by omega) with ⟨z1, z2⟩ | ⟨z1, c, z2, z3⟩; (rw [show a0 Q p0 10 = y13 from gd_of ey13, show I y13 p1.toInt.toNat = z17 from ez17.symm] at z1; exact absurd (by rw [z1]; decide +kernel) t18); (rw [bk_y ⟨by omega, by omega⟩ z2]; rw [show a0 Q p0 4 = y25 from gd_of ey25, show a0 Q p0 9 = y29 from gd_of ey29] at z3; have N := mv_to z3 fz42 jz42; exact cmA_now (n := 0) hQ hLp0 hKp0 (by rw [show a0 Q p0 0 = y34 from gd_of ey34, show a0 Q p0 5 = y38 from gd_of ey38]; exact isF_fr (by rw [qIz47, va_up_ne _ _ (ne_k hKy34 hKp0 (by decide))]) rfl N) (fun b hb => by rw [qIz47, va_up_ne _ _ (fun z => by rw [z, hKp0] at hb; omega), frc42 b (fun z => by rw [z] at hb; have := hKy34; omega)]) (fun b hb => djc42 b (by omega)) (by rw [qIz47, rz_at]; decide +kernel) (by omega) A)), dj_Jz42⟩, by rw [ht]; exact hP⟩⟩, hS.F ht⟩) hS.2.2 dX7_back_56
    · have t18 := tq_eq (k := z17.toInt) (q := (0)) c18 rfl (by decide +kernel)
      refine lv_bipush (v := (-2)) hx hb dX7_back_21 (by decide +kernel) ?_
      subst hR; subst hQz
      exact W.iret (v := (-2)) hx hb hr (fun t ht hW => ⟨⟨(-2), (), rfl, (fun σ A => by rcases A.2.2.2 p1.toInt.toNat (by omega) with ⟨z1, z2⟩ | ⟨z1, c, z2, z3⟩; (rw [show a0 Q p0 10 = y13 from gd_of ey13, show I y13 p1.toInt.toNat = z17 from ez17.symm] at z1; rw [bk_e ⟨by omega, by omega⟩ z2]; show (-2 : Int32).toInt = -2; decide +kernel); (rw [show a0 Q p0 10 = y13 from gd_of ey13, show I y13 p1.toInt.toNat = z17 from ez17.symm] at z1; exact absurd (Int32.toInt_inj.mp t18) z1)), ⟨I, J, ⟨hI, dn_I, (fun σ A => by rcases A.2.2.2 p1.toInt.toNat (by omega) with ⟨z1, z2⟩ | ⟨z1, c, z2, z3⟩; (rw [show a0 Q p0 10 = y13 from gd_of ey13, show I y13 p1.toInt.toNat = z17 from ez17.symm] at z1; rw [bk_e ⟨by omega, by omega⟩ z2]; exact A); (rw [show a0 Q p0 10 = y13 from gd_of ey13, show I y13 p1.toInt.toNat = z17 from ez17.symm] at z1; exact absurd (Int32.toInt_inj.mp t18) z1)), dj_J⟩, by rw [ht]; exact hP⟩⟩, hS.F ht⟩) hS.2.2 dX7_back_23
  · have t7 := tq_eq (k := z4.toInt) (q := (0)) c7 rfl (by decide +kernel)
    refine lv_iconst (v := (-1)) hx hb dX7_back_10 (by decide +kernel) ?_
    subst hR; subst hQz
    exact W.iret (v := (-1)) hx hb hr (fun t ht hW => ⟨⟨(-1), (), rfl, (fun σ A => by rw [bk_n (fun q => xpz4 t7 (by omega))]; show (-1 : Int32).toInt = -1; decide +kernel), ⟨I, J, ⟨hI, dn_I, (fun σ A => by rw [bk_n (fun q => xpz4 t7 (by omega))]; exact A), dj_J⟩, by rw [ht]; exact hP⟩⟩, hS.F ht⟩) hS.2.2 dX7_back_11
