def yX7_keepsPast : MethodName := ⟨RX7, "keepsPast", "()V"⟩
def yX7_laysAside : MethodName := ⟨RX7, "laysAside", "()V"⟩
def yX7_remembersAside : MethodName := ⟨RX7, "remembersAside", "()V"⟩
def yX7_sets : MethodName := ⟨RX7, "sets", "(III)V"⟩
def yX7_two : MethodName := ⟨RX7, "two", "(IIII)I"⟩
def yX7_changes : MethodName := ⟨RX7, "changes", "(IZ)I"⟩
def yX7_moves : MethodName := ⟨RX7, "moves", "([I[JI[I[JI)V"⟩
abbrev cX7_moves : ByteArray := prog_9_method_4_code
abbrev cX7_keepsPast : ByteArray := prog_9_method_26_code
abbrev cX7_laysAside : ByteArray := prog_9_method_25_code
abbrev cX7_remembersAside : ByteArray := prog_9_method_27_code
abbrev cX7_sets : ByteArray := prog_9_method_35_code
abbrev cX7_two : ByteArray := prog_9_method_58_code
abbrev cX7_changes : ByteArray := prog_9_method_66_code
abbrev cX7_back : ByteArray := prog_9_method_30_code
abbrev cX7_flip : ByteArray := prog_9_method_57_code
abbrev cX7_grow : ByteArray := prog_9_method_67_code
abbrev cX7_join : ByteArray := prog_9_method_69_code
abbrev cX7_keep : ByteArray := prog_9_method_29_code
abbrev cX7_layers : ByteArray := prog_9_method_59_code
abbrev cX7_place : ByteArray := prog_9_method_56_code
abbrev cX7_quarter : ByteArray := prog_9_method_81_code
abbrev cX7_speed : ByteArray := prog_9_method_60_code
abbrev cX7_thin : ByteArray := prog_9_method_68_code
abbrev cX7_turn : ByteArray := prog_9_method_61_code
abbrev cX7_undo : ByteArray := prog_9_method_28_code
def yX7_back : MethodName := ⟨RX7, "back", "(I)I"⟩
def yX7_flip : MethodName := ⟨RX7, "flip", "(II)I"⟩
def yX7_grow : MethodName := ⟨RX7, "grow", "(I)I"⟩
def yX7_join : MethodName := ⟨RX7, "join", "(IIIII)I"⟩
def yX7_keep : MethodName := ⟨RX7, "keep", "(I)I"⟩
def yX7_layers : MethodName := ⟨RX7, "layers", "(III)I"⟩
def yX7_place : MethodName := ⟨RX7, "place", "(III)I"⟩
def yX7_quarter : MethodName := ⟨RX7, "quarter", "(I)I"⟩
def yX7_speed : MethodName := ⟨RX7, "speed", "(III)I"⟩
def yX7_thin : MethodName := ⟨RX7, "thin", "(I)I"⟩
def yX7_turn : MethodName := ⟨RX7, "turn", "(III)I"⟩
def yX7_undo : MethodName := ⟨RX7, "undo", "()I"⟩
theorem dX7_back_0 : decode cX7_back 0 = .ok (.iload_n 1, 1) := by decide +kernel
theorem dX7_back_1 : decode cX7_back 1 = .ok (.i2l, 1) := by decide +kernel
theorem dX7_back_2 : decode cX7_back 2 = .ok (.lconst 0, 1) := by decide +kernel
theorem dX7_back_3 : decode cX7_back 3 = .ok (.lconst 1, 1) := by decide +kernel
theorem dX7_back_4 : decode cX7_back 4 = .ok (.invokestatic 96, 3) := by decide +kernel
theorem dX7_back_7 : decode cX7_back 7 = .ok (.ifCond .ne 5, 3) := by decide +kernel
theorem dX7_back_10 : decode cX7_back 10 = .ok (.iconst (-1), 1) := by decide +kernel
theorem dX7_back_11 : decode cX7_back 11 = .ok (.ireturn, 1) := by decide +kernel
theorem dX7_back_12 : decode cX7_back 12 = .ok (.aload_n 0, 1) := by decide +kernel
theorem dX7_back_13 : decode cX7_back 13 = .ok (.getfield 41, 3) := by decide +kernel
theorem dX7_back_16 : decode cX7_back 16 = .ok (.iload_n 1, 1) := by decide +kernel
theorem dX7_back_17 : decode cX7_back 17 = .ok (.baload, 1) := by decide +kernel
theorem dX7_back_18 : decode cX7_back 18 = .ok (.ifCond .ne 6, 3) := by decide +kernel
theorem dX7_back_21 : decode cX7_back 21 = .ok (.bipush (-2), 2) := by decide +kernel
theorem dX7_back_23 : decode cX7_back 23 = .ok (.ireturn, 1) := by decide +kernel
theorem dX7_back_24 : decode cX7_back 24 = .ok (.aload_n 0, 1) := by decide +kernel
theorem dX7_back_25 : decode cX7_back 25 = .ok (.getfield 22, 3) := by decide +kernel
theorem dX7_back_28 : decode cX7_back 28 = .ok (.aload_n 0, 1) := by decide +kernel
theorem dX7_back_29 : decode cX7_back 29 = .ok (.getfield 38, 3) := by decide +kernel
theorem dX7_back_32 : decode cX7_back 32 = .ok (.iload_n 1, 1) := by decide +kernel
theorem dX7_back_33 : decode cX7_back 33 = .ok (.aload_n 0, 1) := by decide +kernel
theorem dX7_back_34 : decode cX7_back 34 = .ok (.getfield 9, 3) := by decide +kernel
theorem dX7_back_37 : decode cX7_back 37 = .ok (.aload_n 0, 1) := by decide +kernel
theorem dX7_back_38 : decode cX7_back 38 = .ok (.getfield 25, 3) := by decide +kernel
theorem dX7_back_41 : decode cX7_back 41 = .ok (.iconst 0, 1) := by decide +kernel
theorem dX7_back_42 : decode cX7_back 42 = .ok (.invokestatic 184, 3) := by decide +kernel
theorem dX7_back_45 : decode cX7_back 45 = .ok (.aload_n 0, 1) := by decide +kernel
theorem dX7_back_46 : decode cX7_back 46 = .ok (.iconst 0, 1) := by decide +kernel
theorem dX7_back_47 : decode cX7_back 47 = .ok (.putfield 187, 3) := by decide +kernel
theorem dX7_back_50 : decode cX7_back 50 = .ok (.aload_n 0, 1) := by decide +kernel
theorem dX7_back_51 : decode cX7_back 51 = .ok (.getfield 9, 3) := by decide +kernel
theorem dX7_back_54 : decode cX7_back 54 = .ok (.iconst 1, 1) := by decide +kernel
theorem dX7_back_55 : decode cX7_back 55 = .ok (.iaload, 1) := by decide +kernel
theorem dX7_back_56 : decode cX7_back 56 = .ok (.ireturn, 1) := by decide +kernel
theorem dX7_changes_0 : decode cX7_changes 0 = .ok (.aload_n 0, 1) := by decide +kernel
theorem dX7_changes_1 : decode cX7_changes 1 = .ok (.iload_n 1, 1) := by decide +kernel
theorem dX7_changes_2 : decode cX7_changes 2 = .ok (.invokevirtual 301, 3) := by decide +kernel
theorem dX7_changes_5 : decode cX7_changes 5 = .ok (.ifCond .ne 5, 3) := by decide +kernel
theorem dX7_changes_8 : decode cX7_changes 8 = .ok (.iconst (-1), 1) := by decide +kernel
theorem dX7_changes_9 : decode cX7_changes 9 = .ok (.ireturn, 1) := by decide +kernel
theorem dX7_changes_10 : decode cX7_changes 10 = .ok (.aload_n 0, 1) := by decide +kernel
theorem dX7_changes_11 : decode cX7_changes 11 = .ok (.invokevirtual 304, 3) := by decide +kernel
theorem dX7_changes_14 : decode cX7_changes 14 = .ok (.iconst 0, 1) := by decide +kernel
theorem dX7_changes_15 : decode cX7_changes 15 = .ok (.istore_n 3, 1) := by decide +kernel
theorem dX7_changes_16 : decode cX7_changes 16 = .ok (.iconst 0, 1) := by decide +kernel
theorem dX7_changes_17 : decode cX7_changes 17 = .ok (.istore 4, 2) := by decide +kernel
theorem dX7_changes_19 : decode cX7_changes 19 = .ok (.iload 4, 2) := by decide +kernel
theorem dX7_changes_21 : decode cX7_changes 21 = .ok (.aload_n 0, 1) := by decide +kernel
theorem dX7_changes_22 : decode cX7_changes 22 = .ok (.iload_n 1, 1) := by decide +kernel
theorem dX7_changes_23 : decode cX7_changes 23 = .ok (.invokevirtual 205, 3) := by decide +kernel
theorem dX7_changes_26 : decode cX7_changes 26 = .ok (.if_icmp .ge 128, 3) := by decide +kernel
theorem dX7_changes_29 : decode cX7_changes 29 = .ok (.iconst 0, 1) := by decide +kernel
theorem dX7_changes_30 : decode cX7_changes 30 = .ok (.istore 5, 2) := by decide +kernel
theorem dX7_changes_32 : decode cX7_changes 32 = .ok (.iload 5, 2) := by decide +kernel
theorem dX7_changes_34 : decode cX7_changes 34 = .ok (.aload_n 0, 1) := by decide +kernel
theorem dX7_changes_35 : decode cX7_changes 35 = .ok (.iload_n 1, 1) := by decide +kernel
theorem dX7_changes_36 : decode cX7_changes 36 = .ok (.invokevirtual 202, 3) := by decide +kernel
theorem dX7_changes_39 : decode cX7_changes 39 = .ok (.if_icmp .ge 109, 3) := by decide +kernel
theorem dX7_changes_42 : decode cX7_changes 42 = .ok (.aload_n 0, 1) := by decide +kernel
theorem dX7_changes_43 : decode cX7_changes 43 = .ok (.iload_n 1, 1) := by decide +kernel
theorem dX7_changes_44 : decode cX7_changes 44 = .ok (.iload 5, 2) := by decide +kernel
theorem dX7_changes_46 : decode cX7_changes 46 = .ok (.iload 4, 2) := by decide +kernel
theorem dX7_changes_48 : decode cX7_changes 48 = .ok (.invokevirtual 215, 3) := by decide +kernel
theorem dX7_changes_51 : decode cX7_changes 51 = .ok (.istore 6, 2) := by decide +kernel
theorem dX7_changes_53 : decode cX7_changes 53 = .ok (.iload_n 2, 1) := by decide +kernel
theorem dX7_changes_54 : decode cX7_changes 54 = .ok (.ifCond .eq 28, 3) := by decide +kernel
theorem dX7_changes_57 : decode cX7_changes 57 = .ok (.iload 6, 2) := by decide +kernel
theorem dX7_changes_59 : decode cX7_changes 59 = .ok (.ifCond .ne 15, 3) := by decide +kernel
theorem dX7_changes_62 : decode cX7_changes 62 = .ok (.aload_n 0, 1) := by decide +kernel
theorem dX7_changes_63 : decode cX7_changes 63 = .ok (.iload_n 1, 1) := by decide +kernel
theorem dX7_changes_64 : decode cX7_changes 64 = .ok (.iload 5, 2) := by decide +kernel
theorem dX7_changes_66 : decode cX7_changes 66 = .ok (.iload 4, 2) := by decide +kernel
theorem dX7_changes_68 : decode cX7_changes 68 = .ok (.invokevirtual 307, 3) := by decide +kernel
theorem dX7_changes_71 : decode cX7_changes 71 = .ok (.ifCond .le 7, 3) := by decide +kernel
theorem dX7_changes_74 : decode cX7_changes 74 = .ok (.iconst 1, 1) := by decide +kernel
theorem dX7_changes_75 : decode cX7_changes 75 = .ok (.goto 30, 3) := by decide +kernel
theorem dX7_changes_78 : decode cX7_changes 78 = .ok (.iconst 0, 1) := by decide +kernel
theorem dX7_changes_79 : decode cX7_changes 79 = .ok (.goto 26, 3) := by decide +kernel
theorem dX7_changes_82 : decode cX7_changes 82 = .ok (.iload 6, 2) := by decide +kernel
theorem dX7_changes_84 : decode cX7_changes 84 = .ok (.ifCond .eq 20, 3) := by decide +kernel
theorem dX7_changes_87 : decode cX7_changes 87 = .ok (.aload_n 0, 1) := by decide +kernel
theorem dX7_changes_88 : decode cX7_changes 88 = .ok (.iload_n 1, 1) := by decide +kernel
theorem dX7_changes_89 : decode cX7_changes 89 = .ok (.iload 5, 2) := by decide +kernel
theorem dX7_changes_91 : decode cX7_changes 91 = .ok (.iload 4, 2) := by decide +kernel
theorem dX7_changes_93 : decode cX7_changes 93 = .ok (.invokevirtual 307, 3) := by decide +kernel
theorem dX7_changes_96 : decode cX7_changes 96 = .ok (.iconst 4, 1) := by decide +kernel
theorem dX7_changes_97 : decode cX7_changes 97 = .ok (.if_icmp .ne 7, 3) := by decide +kernel
theorem dX7_changes_100 : decode cX7_changes 100 = .ok (.iconst 1, 1) := by decide +kernel
theorem dX7_changes_101 : decode cX7_changes 101 = .ok (.goto 4, 3) := by decide +kernel
theorem dX7_changes_104 : decode cX7_changes 104 = .ok (.iconst 0, 1) := by decide +kernel
theorem dX7_changes_105 : decode cX7_changes 105 = .ok (.istore 7, 2) := by decide +kernel
theorem dX7_changes_107 : decode cX7_changes 107 = .ok (.iload_n 3, 1) := by decide +kernel
theorem dX7_changes_108 : decode cX7_changes 108 = .ok (.iload 7, 2) := by decide +kernel
theorem dX7_changes_110 : decode cX7_changes 110 = .ok (.iload 6, 2) := by decide +kernel
theorem dX7_changes_112 : decode cX7_changes 112 = .ok (.if_icmp .eq 7, 3) := by decide +kernel
theorem dX7_changes_115 : decode cX7_changes 115 = .ok (.iconst 1, 1) := by decide +kernel
theorem dX7_changes_116 : decode cX7_changes 116 = .ok (.goto 4, 3) := by decide +kernel
theorem dX7_changes_119 : decode cX7_changes 119 = .ok (.iconst 0, 1) := by decide +kernel
theorem dX7_changes_120 : decode cX7_changes 120 = .ok (.invokestatic 127, 3) := by decide +kernel
theorem dX7_changes_123 : decode cX7_changes 123 = .ok (.iadd, 1) := by decide +kernel
theorem dX7_changes_124 : decode cX7_changes 124 = .ok (.istore_n 3, 1) := by decide +kernel
theorem dX7_changes_125 : decode cX7_changes 125 = .ok (.iload 7, 2) := by decide +kernel
theorem dX7_changes_127 : decode cX7_changes 127 = .ok (.ifCond .eq 15, 3) := by decide +kernel
theorem dX7_changes_130 : decode cX7_changes 130 = .ok (.aload_n 0, 1) := by decide +kernel
theorem dX7_changes_131 : decode cX7_changes 131 = .ok (.getfield 52, 3) := by decide +kernel
theorem dX7_changes_134 : decode cX7_changes 134 = .ok (.iconst 0, 1) := by decide +kernel
theorem dX7_changes_135 : decode cX7_changes 135 = .ok (.iload 5, 2) := by decide +kernel
theorem dX7_changes_137 : decode cX7_changes 137 = .ok (.iload 4, 2) := by decide +kernel
theorem dX7_changes_139 : decode cX7_changes 139 = .ok (.invokestatic 157, 3) := by decide +kernel
theorem dX7_changes_142 : decode cX7_changes 142 = .ok (.iinc 5 1, 3) := by decide +kernel
theorem dX7_changes_145 : decode cX7_changes 145 = .ok (.goto (-113), 3) := by decide +kernel
theorem dX7_changes_148 : decode cX7_changes 148 = .ok (.iinc 4 1, 3) := by decide +kernel
theorem dX7_changes_151 : decode cX7_changes 151 = .ok (.goto (-132), 3) := by decide +kernel
theorem dX7_changes_154 : decode cX7_changes 154 = .ok (.iload_n 3, 1) := by decide +kernel
theorem dX7_changes_155 : decode cX7_changes 155 = .ok (.ifCond .ne 6, 3) := by decide +kernel
theorem dX7_changes_158 : decode cX7_changes 158 = .ok (.bipush (-2), 2) := by decide +kernel
theorem dX7_changes_160 : decode cX7_changes 160 = .ok (.ireturn, 1) := by decide +kernel
theorem dX7_changes_161 : decode cX7_changes 161 = .ok (.aload_n 0, 1) := by decide +kernel
theorem dX7_changes_162 : decode cX7_changes 162 = .ok (.invokevirtual 286, 3) := by decide +kernel
theorem dX7_changes_165 : decode cX7_changes 165 = .ok (.aload_n 0, 1) := by decide +kernel
theorem dX7_changes_166 : decode cX7_changes 166 = .ok (.iload_n 1, 1) := by decide +kernel
theorem dX7_changes_167 : decode cX7_changes 167 = .ok (.invokevirtual 310, 3) := by decide +kernel
theorem dX7_changes_170 : decode cX7_changes 170 = .ok (.iload_n 3, 1) := by decide +kernel
theorem dX7_changes_171 : decode cX7_changes 171 = .ok (.ireturn, 1) := by decide +kernel
theorem dX7_flip_0 : decode cX7_flip 0 = .ok (.aload_n 0, 1) := by decide +kernel
theorem dX7_flip_1 : decode cX7_flip 1 = .ok (.iload_n 1, 1) := by decide +kernel
theorem dX7_flip_2 : decode cX7_flip 2 = .ok (.invokevirtual 196, 3) := by decide +kernel
theorem dX7_flip_5 : decode cX7_flip 5 = .ok (.ifCond .eq 15, 3) := by decide +kernel
theorem dX7_flip_8 : decode cX7_flip 8 = .ok (.iload_n 2, 1) := by decide +kernel
theorem dX7_flip_9 : decode cX7_flip 9 = .ok (.i2l, 1) := by decide +kernel
theorem dX7_flip_10 : decode cX7_flip 10 = .ok (.lconst 0, 1) := by decide +kernel
theorem dX7_flip_11 : decode cX7_flip 11 = .ok (.ldc2_w 289, 3) := by decide +kernel
theorem dX7_flip_14 : decode cX7_flip 14 = .ok (.invokestatic 96, 3) := by decide +kernel
theorem dX7_flip_17 : decode cX7_flip 17 = .ok (.ifCond .ne 5, 3) := by decide +kernel
theorem dX7_flip_20 : decode cX7_flip 20 = .ok (.iconst (-1), 1) := by decide +kernel
theorem dX7_flip_21 : decode cX7_flip 21 = .ok (.ireturn, 1) := by decide +kernel
theorem dX7_flip_22 : decode cX7_flip 22 = .ok (.aload_n 0, 1) := by decide +kernel
theorem dX7_flip_23 : decode cX7_flip 23 = .ok (.iload_n 1, 1) := by decide +kernel
theorem dX7_flip_24 : decode cX7_flip 24 = .ok (.iconst 3, 1) := by decide +kernel
theorem dX7_flip_25 : decode cX7_flip 25 = .ok (.invokevirtual 199, 3) := by decide +kernel
theorem dX7_flip_28 : decode cX7_flip 28 = .ok (.istore_n 3, 1) := by decide +kernel
theorem dX7_flip_29 : decode cX7_flip 29 = .ok (.iload_n 3, 1) := by decide +kernel
theorem dX7_flip_30 : decode cX7_flip 30 = .ok (.iload_n 2, 1) := by decide +kernel
theorem dX7_flip_31 : decode cX7_flip 31 = .ok (.if_icmp .ne 6, 3) := by decide +kernel
theorem dX7_flip_34 : decode cX7_flip 34 = .ok (.bipush (-2), 2) := by decide +kernel
theorem dX7_flip_36 : decode cX7_flip 36 = .ok (.ireturn, 1) := by decide +kernel
theorem dX7_flip_37 : decode cX7_flip 37 = .ok (.aload_n 0, 1) := by decide +kernel
theorem dX7_flip_38 : decode cX7_flip 38 = .ok (.invokevirtual 286, 3) := by decide +kernel
theorem dX7_flip_41 : decode cX7_flip 41 = .ok (.aload_n 0, 1) := by decide +kernel
theorem dX7_flip_42 : decode cX7_flip 42 = .ok (.iload_n 1, 1) := by decide +kernel
theorem dX7_flip_43 : decode cX7_flip 43 = .ok (.iconst 3, 1) := by decide +kernel
theorem dX7_flip_44 : decode cX7_flip 44 = .ok (.iload_n 2, 1) := by decide +kernel
theorem dX7_flip_45 : decode cX7_flip 45 = .ok (.invokevirtual 276, 3) := by decide +kernel
theorem dX7_flip_48 : decode cX7_flip 48 = .ok (.iload_n 3, 1) := by decide +kernel
theorem dX7_flip_49 : decode cX7_flip 49 = .ok (.ireturn, 1) := by decide +kernel
theorem dX7_grow_0 : decode cX7_grow 0 = .ok (.aload_n 0, 1) := by decide +kernel
theorem dX7_grow_1 : decode cX7_grow 1 = .ok (.iload_n 1, 1) := by decide +kernel
theorem dX7_grow_2 : decode cX7_grow 2 = .ok (.iconst 1, 1) := by decide +kernel
theorem dX7_grow_3 : decode cX7_grow 3 = .ok (.invokevirtual 313, 3) := by decide +kernel
theorem dX7_grow_6 : decode cX7_grow 6 = .ok (.ireturn, 1) := by decide +kernel
theorem dX7_join_0 : decode cX7_join 0 = .ok (.aload_n 0, 1) := by decide +kernel
theorem dX7_join_1 : decode cX7_join 1 = .ok (.iload_n 1, 1) := by decide +kernel
theorem dX7_join_2 : decode cX7_join 2 = .ok (.invokevirtual 301, 3) := by decide +kernel
theorem dX7_join_5 : decode cX7_join 5 = .ok (.ifCond .eq 53, 3) := by decide +kernel
theorem dX7_join_8 : decode cX7_join 8 = .ok (.aload_n 0, 1) := by decide +kernel
theorem dX7_join_9 : decode cX7_join 9 = .ok (.iload_n 2, 1) := by decide +kernel
theorem dX7_join_10 : decode cX7_join 10 = .ok (.invokevirtual 301, 3) := by decide +kernel
theorem dX7_join_13 : decode cX7_join 13 = .ok (.ifCond .eq 45, 3) := by decide +kernel
theorem dX7_join_16 : decode cX7_join 16 = .ok (.iload_n 3, 1) := by decide +kernel
theorem dX7_join_17 : decode cX7_join 17 = .ok (.i2l, 1) := by decide +kernel
theorem dX7_join_18 : decode cX7_join 18 = .ok (.ldc2_w 317, 3) := by decide +kernel
theorem dX7_join_21 : decode cX7_join 21 = .ok (.ldc2_w 319, 3) := by decide +kernel
theorem dX7_join_24 : decode cX7_join 24 = .ok (.invokestatic 96, 3) := by decide +kernel
theorem dX7_join_27 : decode cX7_join 27 = .ok (.ifCond .eq 31, 3) := by decide +kernel
theorem dX7_join_30 : decode cX7_join 30 = .ok (.iload 4, 2) := by decide +kernel
theorem dX7_join_32 : decode cX7_join 32 = .ok (.i2l, 1) := by decide +kernel
theorem dX7_join_33 : decode cX7_join 33 = .ok (.ldc2_w 317, 3) := by decide +kernel
theorem dX7_join_36 : decode cX7_join 36 = .ok (.ldc2_w 319, 3) := by decide +kernel
theorem dX7_join_39 : decode cX7_join 39 = .ok (.invokestatic 96, 3) := by decide +kernel
theorem dX7_join_42 : decode cX7_join 42 = .ok (.ifCond .eq 16, 3) := by decide +kernel
theorem dX7_join_45 : decode cX7_join 45 = .ok (.iload 5, 2) := by decide +kernel
theorem dX7_join_47 : decode cX7_join 47 = .ok (.i2l, 1) := by decide +kernel
theorem dX7_join_48 : decode cX7_join 48 = .ok (.lconst 0, 1) := by decide +kernel
theorem dX7_join_49 : decode cX7_join 49 = .ok (.ldc2_w 289, 3) := by decide +kernel
theorem dX7_join_52 : decode cX7_join 52 = .ok (.invokestatic 96, 3) := by decide +kernel
theorem dX7_join_55 : decode cX7_join 55 = .ok (.ifCond .ne 5, 3) := by decide +kernel
theorem dX7_join_58 : decode cX7_join 58 = .ok (.iconst (-1), 1) := by decide +kernel
theorem dX7_join_59 : decode cX7_join 59 = .ok (.ireturn, 1) := by decide +kernel
theorem dX7_join_60 : decode cX7_join 60 = .ok (.aload_n 0, 1) := by decide +kernel
theorem dX7_join_61 : decode cX7_join 61 = .ok (.invokevirtual 304, 3) := by decide +kernel
theorem dX7_join_64 : decode cX7_join 64 = .ok (.iconst 0, 1) := by decide +kernel
theorem dX7_join_65 : decode cX7_join 65 = .ok (.istore 6, 2) := by decide +kernel
theorem dX7_join_67 : decode cX7_join 67 = .ok (.iload 6, 2) := by decide +kernel
theorem dX7_join_69 : decode cX7_join 69 = .ok (.aload_n 0, 1) := by decide +kernel
theorem dX7_join_70 : decode cX7_join 70 = .ok (.iload_n 1, 1) := by decide +kernel
theorem dX7_join_71 : decode cX7_join 71 = .ok (.invokevirtual 205, 3) := by decide +kernel
theorem dX7_join_74 : decode cX7_join 74 = .ok (.if_icmp .ge 157, 3) := by decide +kernel
theorem dX7_join_77 : decode cX7_join 77 = .ok (.iconst 0, 1) := by decide +kernel
theorem dX7_join_78 : decode cX7_join 78 = .ok (.istore 7, 2) := by decide +kernel
theorem dX7_join_80 : decode cX7_join 80 = .ok (.iload 7, 2) := by decide +kernel
theorem dX7_join_82 : decode cX7_join 82 = .ok (.aload_n 0, 1) := by decide +kernel
theorem dX7_join_83 : decode cX7_join 83 = .ok (.iload_n 1, 1) := by decide +kernel
theorem dX7_join_84 : decode cX7_join 84 = .ok (.invokevirtual 202, 3) := by decide +kernel
theorem dX7_join_87 : decode cX7_join 87 = .ok (.if_icmp .ge 138, 3) := by decide +kernel
theorem dX7_join_90 : decode cX7_join 90 = .ok (.aload_n 0, 1) := by decide +kernel
theorem dX7_join_91 : decode cX7_join 91 = .ok (.iload_n 1, 1) := by decide +kernel
theorem dX7_join_92 : decode cX7_join 92 = .ok (.iload 7, 2) := by decide +kernel
theorem dX7_join_94 : decode cX7_join 94 = .ok (.iload 6, 2) := by decide +kernel
theorem dX7_join_96 : decode cX7_join 96 = .ok (.invokevirtual 215, 3) := by decide +kernel
theorem dX7_join_99 : decode cX7_join 99 = .ok (.istore 8, 2) := by decide +kernel
theorem dX7_join_101 : decode cX7_join 101 = .ok (.aload_n 0, 1) := by decide +kernel
theorem dX7_join_102 : decode cX7_join 102 = .ok (.iload_n 2, 1) := by decide +kernel
theorem dX7_join_103 : decode cX7_join 103 = .ok (.iload 7, 2) := by decide +kernel
theorem dX7_join_105 : decode cX7_join 105 = .ok (.iload_n 3, 1) := by decide +kernel
theorem dX7_join_106 : decode cX7_join 106 = .ok (.isub, 1) := by decide +kernel
theorem dX7_join_107 : decode cX7_join 107 = .ok (.iload 6, 2) := by decide +kernel
theorem dX7_join_109 : decode cX7_join 109 = .ok (.iload 4, 2) := by decide +kernel
theorem dX7_join_111 : decode cX7_join 111 = .ok (.isub, 1) := by decide +kernel
theorem dX7_join_112 : decode cX7_join 112 = .ok (.invokevirtual 215, 3) := by decide +kernel
theorem dX7_join_115 : decode cX7_join 115 = .ok (.istore 9, 2) := by decide +kernel
theorem dX7_join_117 : decode cX7_join 117 = .ok (.iload 5, 2) := by decide +kernel
theorem dX7_join_119 : decode cX7_join 119 = .ok (.ifCond .ne 21, 3) := by decide +kernel
theorem dX7_join_122 : decode cX7_join 122 = .ok (.iload 8, 2) := by decide +kernel
theorem dX7_join_124 : decode cX7_join 124 = .ok (.ifCond .ne 8, 3) := by decide +kernel
theorem dX7_join_127 : decode cX7_join 127 = .ok (.iload 9, 2) := by decide +kernel
theorem dX7_join_129 : decode cX7_join 129 = .ok (.ifCond .eq 7, 3) := by decide +kernel
theorem dX7_join_132 : decode cX7_join 132 = .ok (.iconst 1, 1) := by decide +kernel
theorem dX7_join_133 : decode cX7_join 133 = .ok (.goto 67, 3) := by decide +kernel
theorem dX7_join_136 : decode cX7_join 136 = .ok (.iconst 0, 1) := by decide +kernel
theorem dX7_join_137 : decode cX7_join 137 = .ok (.goto 63, 3) := by decide +kernel
theorem dX7_join_140 : decode cX7_join 140 = .ok (.iload 5, 2) := by decide +kernel
theorem dX7_join_142 : decode cX7_join 142 = .ok (.iconst 1, 1) := by decide +kernel
theorem dX7_join_143 : decode cX7_join 143 = .ok (.if_icmp .ne 21, 3) := by decide +kernel
theorem dX7_join_146 : decode cX7_join 146 = .ok (.iload 8, 2) := by decide +kernel
theorem dX7_join_148 : decode cX7_join 148 = .ok (.ifCond .eq 12, 3) := by decide +kernel
theorem dX7_join_151 : decode cX7_join 151 = .ok (.iload 9, 2) := by decide +kernel
theorem dX7_join_153 : decode cX7_join 153 = .ok (.ifCond .eq 7, 3) := by decide +kernel
theorem dX7_join_156 : decode cX7_join 156 = .ok (.iconst 1, 1) := by decide +kernel
theorem dX7_join_157 : decode cX7_join 157 = .ok (.goto 43, 3) := by decide +kernel
theorem dX7_join_160 : decode cX7_join 160 = .ok (.iconst 0, 1) := by decide +kernel
theorem dX7_join_161 : decode cX7_join 161 = .ok (.goto 39, 3) := by decide +kernel
theorem dX7_join_164 : decode cX7_join 164 = .ok (.iload 5, 2) := by decide +kernel
theorem dX7_join_166 : decode cX7_join 166 = .ok (.iconst 2, 1) := by decide +kernel
theorem dX7_join_167 : decode cX7_join 167 = .ok (.if_icmp .ne 21, 3) := by decide +kernel
theorem dX7_join_170 : decode cX7_join 170 = .ok (.iload 8, 2) := by decide +kernel
theorem dX7_join_172 : decode cX7_join 172 = .ok (.ifCond .eq 12, 3) := by decide +kernel
theorem dX7_join_175 : decode cX7_join 175 = .ok (.iload 9, 2) := by decide +kernel
theorem dX7_join_177 : decode cX7_join 177 = .ok (.ifCond .ne 7, 3) := by decide +kernel
theorem dX7_join_180 : decode cX7_join 180 = .ok (.iconst 1, 1) := by decide +kernel
theorem dX7_join_181 : decode cX7_join 181 = .ok (.goto 19, 3) := by decide +kernel
theorem dX7_join_184 : decode cX7_join 184 = .ok (.iconst 0, 1) := by decide +kernel
theorem dX7_join_185 : decode cX7_join 185 = .ok (.goto 15, 3) := by decide +kernel
theorem dX7_join_188 : decode cX7_join 188 = .ok (.iload 8, 2) := by decide +kernel
theorem dX7_join_190 : decode cX7_join 190 = .ok (.iload 9, 2) := by decide +kernel
theorem dX7_join_192 : decode cX7_join 192 = .ok (.if_icmp .eq 7, 3) := by decide +kernel
theorem dX7_join_195 : decode cX7_join 195 = .ok (.iconst 1, 1) := by decide +kernel
theorem dX7_join_196 : decode cX7_join 196 = .ok (.goto 4, 3) := by decide +kernel
theorem dX7_join_199 : decode cX7_join 199 = .ok (.iconst 0, 1) := by decide +kernel
theorem dX7_join_200 : decode cX7_join 200 = .ok (.istore 10, 2) := by decide +kernel
theorem dX7_join_202 : decode cX7_join 202 = .ok (.iload 10, 2) := by decide +kernel
theorem dX7_join_204 : decode cX7_join 204 = .ok (.ifCond .eq 15, 3) := by decide +kernel
theorem dX7_join_207 : decode cX7_join 207 = .ok (.aload_n 0, 1) := by decide +kernel
theorem dX7_join_208 : decode cX7_join 208 = .ok (.getfield 52, 3) := by decide +kernel
theorem dX7_join_211 : decode cX7_join 211 = .ok (.iconst 0, 1) := by decide +kernel
theorem dX7_join_212 : decode cX7_join 212 = .ok (.iload 7, 2) := by decide +kernel
theorem dX7_join_214 : decode cX7_join 214 = .ok (.iload 6, 2) := by decide +kernel
theorem dX7_join_216 : decode cX7_join 216 = .ok (.invokestatic 157, 3) := by decide +kernel
theorem dX7_join_219 : decode cX7_join 219 = .ok (.iinc 7 1, 3) := by decide +kernel
theorem dX7_join_222 : decode cX7_join 222 = .ok (.goto (-142), 3) := by decide +kernel
theorem dX7_join_225 : decode cX7_join 225 = .ok (.iinc 6 1, 3) := by decide +kernel
theorem dX7_join_228 : decode cX7_join 228 = .ok (.goto (-161), 3) := by decide +kernel
theorem dX7_join_231 : decode cX7_join 231 = .ok (.aload_n 0, 1) := by decide +kernel
theorem dX7_join_232 : decode cX7_join 232 = .ok (.invokevirtual 286, 3) := by decide +kernel
theorem dX7_join_235 : decode cX7_join 235 = .ok (.aload_n 0, 1) := by decide +kernel
theorem dX7_join_236 : decode cX7_join 236 = .ok (.iload_n 1, 1) := by decide +kernel
theorem dX7_join_237 : decode cX7_join 237 = .ok (.invokevirtual 310, 3) := by decide +kernel
theorem dX7_join_240 : decode cX7_join 240 = .ok (.aload_n 0, 1) := by decide +kernel
theorem dX7_join_241 : decode cX7_join 241 = .ok (.iload_n 1, 1) := by decide +kernel
theorem dX7_join_242 : decode cX7_join 242 = .ok (.invokevirtual 321, 3) := by decide +kernel
theorem dX7_join_245 : decode cX7_join 245 = .ok (.ireturn, 1) := by decide +kernel
theorem dX7_keep_0 : decode cX7_keep 0 = .ok (.iload_n 1, 1) := by decide +kernel
theorem dX7_keep_1 : decode cX7_keep 1 = .ok (.i2l, 1) := by decide +kernel
theorem dX7_keep_2 : decode cX7_keep 2 = .ok (.lconst 0, 1) := by decide +kernel
theorem dX7_keep_3 : decode cX7_keep 3 = .ok (.lconst 1, 1) := by decide +kernel
theorem dX7_keep_4 : decode cX7_keep 4 = .ok (.invokestatic 96, 3) := by decide +kernel
theorem dX7_keep_7 : decode cX7_keep 7 = .ok (.ifCond .ne 5, 3) := by decide +kernel
theorem dX7_keep_10 : decode cX7_keep 10 = .ok (.iconst (-1), 1) := by decide +kernel
theorem dX7_keep_11 : decode cX7_keep 11 = .ok (.ireturn, 1) := by decide +kernel
theorem dX7_keep_12 : decode cX7_keep 12 = .ok (.aload_n 0, 1) := by decide +kernel
theorem dX7_keep_13 : decode cX7_keep 13 = .ok (.getfield 9, 3) := by decide +kernel
theorem dX7_keep_16 : decode cX7_keep 16 = .ok (.aload_n 0, 1) := by decide +kernel
theorem dX7_keep_17 : decode cX7_keep 17 = .ok (.getfield 25, 3) := by decide +kernel
theorem dX7_keep_20 : decode cX7_keep 20 = .ok (.iconst 0, 1) := by decide +kernel
theorem dX7_keep_21 : decode cX7_keep 21 = .ok (.aload_n 0, 1) := by decide +kernel
theorem dX7_keep_22 : decode cX7_keep 22 = .ok (.getfield 22, 3) := by decide +kernel
theorem dX7_keep_25 : decode cX7_keep 25 = .ok (.aload_n 0, 1) := by decide +kernel
theorem dX7_keep_26 : decode cX7_keep 26 = .ok (.getfield 38, 3) := by decide +kernel
theorem dX7_keep_29 : decode cX7_keep 29 = .ok (.iload_n 1, 1) := by decide +kernel
theorem dX7_keep_30 : decode cX7_keep 30 = .ok (.invokestatic 184, 3) := by decide +kernel
theorem dX7_keep_33 : decode cX7_keep 33 = .ok (.aload_n 0, 1) := by decide +kernel
theorem dX7_keep_34 : decode cX7_keep 34 = .ok (.getfield 41, 3) := by decide +kernel
theorem dX7_keep_37 : decode cX7_keep 37 = .ok (.iload_n 1, 1) := by decide +kernel
theorem dX7_keep_38 : decode cX7_keep 38 = .ok (.iconst 1, 1) := by decide +kernel
theorem dX7_keep_39 : decode cX7_keep 39 = .ok (.bastore, 1) := by decide +kernel
theorem dX7_keep_40 : decode cX7_keep 40 = .ok (.aload_n 0, 1) := by decide +kernel
theorem dX7_keep_41 : decode cX7_keep 41 = .ok (.getfield 9, 3) := by decide +kernel
theorem dX7_keep_44 : decode cX7_keep 44 = .ok (.iconst 1, 1) := by decide +kernel
theorem dX7_keep_45 : decode cX7_keep 45 = .ok (.iaload, 1) := by decide +kernel
theorem dX7_keep_46 : decode cX7_keep 46 = .ok (.ireturn, 1) := by decide +kernel
theorem dX7_keepsPast_0 : decode cX7_keepsPast 0 = .ok (.aload_n 0, 1) := by decide +kernel
theorem dX7_keepsPast_1 : decode cX7_keepsPast 1 = .ok (.invokevirtual 190, 3) := by decide +kernel
theorem dX7_keepsPast_4 : decode cX7_keepsPast 4 = .ok (.aload_n 0, 1) := by decide +kernel
theorem dX7_keepsPast_5 : decode cX7_keepsPast 5 = .ok (.invokevirtual 193, 3) := by decide +kernel
theorem dX7_keepsPast_8 : decode cX7_keepsPast 8 = .ok (.return_, 1) := by decide +kernel
theorem dX7_layers_0 : decode cX7_layers 0 = .ok (.aload_n 0, 1) := by decide +kernel
theorem dX7_layers_1 : decode cX7_layers 1 = .ok (.iload_n 1, 1) := by decide +kernel
theorem dX7_layers_2 : decode cX7_layers 2 = .ok (.invokevirtual 196, 3) := by decide +kernel
theorem dX7_layers_5 : decode cX7_layers 5 = .ok (.ifCond .eq 38, 3) := by decide +kernel
theorem dX7_layers_8 : decode cX7_layers 8 = .ok (.iload_n 2, 1) := by decide +kernel
theorem dX7_layers_9 : decode cX7_layers 9 = .ok (.i2l, 1) := by decide +kernel
theorem dX7_layers_10 : decode cX7_layers 10 = .ok (.lconst 0, 1) := by decide +kernel
theorem dX7_layers_11 : decode cX7_layers 11 = .ok (.ldc2_w 291, 3) := by decide +kernel
theorem dX7_layers_14 : decode cX7_layers 14 = .ok (.invokestatic 96, 3) := by decide +kernel
theorem dX7_layers_17 : decode cX7_layers 17 = .ok (.ifCond .eq 26, 3) := by decide +kernel
theorem dX7_layers_20 : decode cX7_layers 20 = .ok (.iload_n 3, 1) := by decide +kernel
theorem dX7_layers_21 : decode cX7_layers 21 = .ok (.i2l, 1) := by decide +kernel
theorem dX7_layers_22 : decode cX7_layers 22 = .ok (.lconst 0, 1) := by decide +kernel
theorem dX7_layers_23 : decode cX7_layers 23 = .ok (.ldc2_w 291, 3) := by decide +kernel
theorem dX7_layers_26 : decode cX7_layers 26 = .ok (.invokestatic 96, 3) := by decide +kernel
theorem dX7_layers_29 : decode cX7_layers 29 = .ok (.ifCond .eq 14, 3) := by decide +kernel
theorem dX7_layers_32 : decode cX7_layers 32 = .ok (.aload_n 0, 1) := by decide +kernel
theorem dX7_layers_33 : decode cX7_layers 33 = .ok (.iload_n 1, 1) := by decide +kernel
theorem dX7_layers_34 : decode cX7_layers 34 = .ok (.iconst 4, 1) := by decide +kernel
theorem dX7_layers_35 : decode cX7_layers 35 = .ok (.iload_n 2, 1) := by decide +kernel
theorem dX7_layers_36 : decode cX7_layers 36 = .ok (.iload_n 3, 1) := by decide +kernel
theorem dX7_layers_37 : decode cX7_layers 37 = .ok (.invokevirtual 293, 3) := by decide +kernel
theorem dX7_layers_40 : decode cX7_layers 40 = .ok (.goto 4, 3) := by decide +kernel
theorem dX7_layers_43 : decode cX7_layers 43 = .ok (.iconst (-1), 1) := by decide +kernel
theorem dX7_layers_44 : decode cX7_layers 44 = .ok (.ireturn, 1) := by decide +kernel
theorem dX7_laysAside_0 : decode cX7_laysAside 0 = .ok (.aload_n 0, 1) := by decide +kernel
theorem dX7_laysAside_1 : decode cX7_laysAside 1 = .ok (.getfield 9, 3) := by decide +kernel
theorem dX7_laysAside_4 : decode cX7_laysAside 4 = .ok (.aload_n 0, 1) := by decide +kernel
theorem dX7_laysAside_5 : decode cX7_laysAside 5 = .ok (.getfield 25, 3) := by decide +kernel
theorem dX7_laysAside_8 : decode cX7_laysAside 8 = .ok (.iconst 0, 1) := by decide +kernel
theorem dX7_laysAside_9 : decode cX7_laysAside 9 = .ok (.aload_n 0, 1) := by decide +kernel
theorem dX7_laysAside_10 : decode cX7_laysAside 10 = .ok (.getfield 16, 3) := by decide +kernel
theorem dX7_laysAside_13 : decode cX7_laysAside 13 = .ok (.aload_n 0, 1) := by decide +kernel
theorem dX7_laysAside_14 : decode cX7_laysAside 14 = .ok (.getfield 32, 3) := by decide +kernel
theorem dX7_laysAside_17 : decode cX7_laysAside 17 = .ok (.iconst 0, 1) := by decide +kernel
theorem dX7_laysAside_18 : decode cX7_laysAside 18 = .ok (.invokestatic 184, 3) := by decide +kernel
theorem dX7_laysAside_21 : decode cX7_laysAside 21 = .ok (.return_, 1) := by decide +kernel
theorem dX7_moves_0 : decode cX7_moves 0 = .ok (.iconst 0, 1) := by decide +kernel
theorem dX7_moves_1 : decode cX7_moves 1 = .ok (.istore 6, 2) := by decide +kernel
theorem dX7_moves_3 : decode cX7_moves 3 = .ok (.iload 6, 2) := by decide +kernel
theorem dX7_moves_5 : decode cX7_moves 5 = .ok (.bipush 99, 2) := by decide +kernel
theorem dX7_moves_7 : decode cX7_moves 7 = .ok (.if_icmp .ge 28, 3) := by decide +kernel
theorem dX7_moves_10 : decode cX7_moves 10 = .ok (.aload_n 3, 1) := by decide +kernel
theorem dX7_moves_11 : decode cX7_moves 11 = .ok (.bipush 99, 2) := by decide +kernel
theorem dX7_moves_13 : decode cX7_moves 13 = .ok (.iload 5, 2) := by decide +kernel
theorem dX7_moves_15 : decode cX7_moves 15 = .ok (.imul, 1) := by decide +kernel
theorem dX7_moves_16 : decode cX7_moves 16 = .ok (.iload 6, 2) := by decide +kernel
theorem dX7_moves_18 : decode cX7_moves 18 = .ok (.iadd, 1) := by decide +kernel
theorem dX7_moves_19 : decode cX7_moves 19 = .ok (.aload_n 0, 1) := by decide +kernel
theorem dX7_moves_20 : decode cX7_moves 20 = .ok (.bipush 99, 2) := by decide +kernel
theorem dX7_moves_22 : decode cX7_moves 22 = .ok (.iload_n 2, 1) := by decide +kernel
theorem dX7_moves_23 : decode cX7_moves 23 = .ok (.imul, 1) := by decide +kernel
theorem dX7_moves_24 : decode cX7_moves 24 = .ok (.iload 6, 2) := by decide +kernel
theorem dX7_moves_26 : decode cX7_moves 26 = .ok (.iadd, 1) := by decide +kernel
theorem dX7_moves_27 : decode cX7_moves 27 = .ok (.iaload, 1) := by decide +kernel
theorem dX7_moves_28 : decode cX7_moves 28 = .ok (.iastore, 1) := by decide +kernel
theorem dX7_moves_29 : decode cX7_moves 29 = .ok (.iinc 6 1, 3) := by decide +kernel
theorem dX7_moves_32 : decode cX7_moves 32 = .ok (.goto (-29), 3) := by decide +kernel
theorem dX7_moves_35 : decode cX7_moves 35 = .ok (.iconst 0, 1) := by decide +kernel
theorem dX7_moves_36 : decode cX7_moves 36 = .ok (.istore 6, 2) := by decide +kernel
theorem dX7_moves_38 : decode cX7_moves 38 = .ok (.iload 6, 2) := by decide +kernel
theorem dX7_moves_40 : decode cX7_moves 40 = .ok (.sipush 640, 3) := by decide +kernel
theorem dX7_moves_43 : decode cX7_moves 43 = .ok (.if_icmp .ge 31, 3) := by decide +kernel
theorem dX7_moves_46 : decode cX7_moves 46 = .ok (.aload 4, 2) := by decide +kernel
theorem dX7_moves_48 : decode cX7_moves 48 = .ok (.sipush 640, 3) := by decide +kernel
theorem dX7_moves_51 : decode cX7_moves 51 = .ok (.iload 5, 2) := by decide +kernel
theorem dX7_moves_53 : decode cX7_moves 53 = .ok (.imul, 1) := by decide +kernel
theorem dX7_moves_54 : decode cX7_moves 54 = .ok (.iload 6, 2) := by decide +kernel
theorem dX7_moves_56 : decode cX7_moves 56 = .ok (.iadd, 1) := by decide +kernel
theorem dX7_moves_57 : decode cX7_moves 57 = .ok (.aload_n 1, 1) := by decide +kernel
theorem dX7_moves_58 : decode cX7_moves 58 = .ok (.sipush 640, 3) := by decide +kernel
theorem dX7_moves_61 : decode cX7_moves 61 = .ok (.iload_n 2, 1) := by decide +kernel
theorem dX7_moves_62 : decode cX7_moves 62 = .ok (.imul, 1) := by decide +kernel
theorem dX7_moves_63 : decode cX7_moves 63 = .ok (.iload 6, 2) := by decide +kernel
theorem dX7_moves_65 : decode cX7_moves 65 = .ok (.iadd, 1) := by decide +kernel
theorem dX7_moves_66 : decode cX7_moves 66 = .ok (.laload, 1) := by decide +kernel
theorem dX7_moves_67 : decode cX7_moves 67 = .ok (.lastore, 1) := by decide +kernel
theorem dX7_moves_68 : decode cX7_moves 68 = .ok (.iinc 6 1, 3) := by decide +kernel
theorem dX7_moves_71 : decode cX7_moves 71 = .ok (.goto (-33), 3) := by decide +kernel
theorem dX7_moves_74 : decode cX7_moves 74 = .ok (.return_, 1) := by decide +kernel
theorem dX7_place_0 : decode cX7_place 0 = .ok (.aload_n 0, 1) := by decide +kernel
theorem dX7_place_1 : decode cX7_place 1 = .ok (.iload_n 1, 1) := by decide +kernel
theorem dX7_place_2 : decode cX7_place 2 = .ok (.invokevirtual 196, 3) := by decide +kernel
theorem dX7_place_5 : decode cX7_place 5 = .ok (.ifCond .eq 12, 3) := by decide +kernel
theorem dX7_place_8 : decode cX7_place 8 = .ok (.aload_n 0, 1) := by decide +kernel
theorem dX7_place_9 : decode cX7_place 9 = .ok (.iload_n 2, 1) := by decide +kernel
theorem dX7_place_10 : decode cX7_place 10 = .ok (.iload_n 3, 1) := by decide +kernel
theorem dX7_place_11 : decode cX7_place 11 = .ok (.invokevirtual 273, 3) := by decide +kernel
theorem dX7_place_14 : decode cX7_place 14 = .ok (.ifCond .ne 5, 3) := by decide +kernel
theorem dX7_place_17 : decode cX7_place 17 = .ok (.iconst (-1), 1) := by decide +kernel
theorem dX7_place_18 : decode cX7_place 18 = .ok (.ireturn, 1) := by decide +kernel
theorem dX7_place_19 : decode cX7_place 19 = .ok (.aload_n 0, 1) := by decide +kernel
theorem dX7_place_20 : decode cX7_place 20 = .ok (.iload_n 1, 1) := by decide +kernel
theorem dX7_place_21 : decode cX7_place 21 = .ok (.iconst 1, 1) := by decide +kernel
theorem dX7_place_22 : decode cX7_place 22 = .ok (.invokevirtual 199, 3) := by decide +kernel
theorem dX7_place_25 : decode cX7_place 25 = .ok (.iload_n 2, 1) := by decide +kernel
theorem dX7_place_26 : decode cX7_place 26 = .ok (.if_icmp .ne 16, 3) := by decide +kernel
theorem dX7_place_29 : decode cX7_place 29 = .ok (.aload_n 0, 1) := by decide +kernel
theorem dX7_place_30 : decode cX7_place 30 = .ok (.iload_n 1, 1) := by decide +kernel
theorem dX7_place_31 : decode cX7_place 31 = .ok (.iconst 2, 1) := by decide +kernel
theorem dX7_place_32 : decode cX7_place 32 = .ok (.invokevirtual 199, 3) := by decide +kernel
theorem dX7_place_35 : decode cX7_place 35 = .ok (.iload_n 3, 1) := by decide +kernel
theorem dX7_place_36 : decode cX7_place 36 = .ok (.if_icmp .ne 6, 3) := by decide +kernel
theorem dX7_place_39 : decode cX7_place 39 = .ok (.bipush (-2), 2) := by decide +kernel
theorem dX7_place_41 : decode cX7_place 41 = .ok (.ireturn, 1) := by decide +kernel
theorem dX7_place_42 : decode cX7_place 42 = .ok (.aload_n 0, 1) := by decide +kernel
theorem dX7_place_43 : decode cX7_place 43 = .ok (.invokevirtual 286, 3) := by decide +kernel
theorem dX7_place_46 : decode cX7_place 46 = .ok (.aload_n 0, 1) := by decide +kernel
theorem dX7_place_47 : decode cX7_place 47 = .ok (.iload_n 1, 1) := by decide +kernel
theorem dX7_place_48 : decode cX7_place 48 = .ok (.iconst 1, 1) := by decide +kernel
theorem dX7_place_49 : decode cX7_place 49 = .ok (.iload_n 2, 1) := by decide +kernel
theorem dX7_place_50 : decode cX7_place 50 = .ok (.invokevirtual 276, 3) := by decide +kernel
theorem dX7_place_53 : decode cX7_place 53 = .ok (.aload_n 0, 1) := by decide +kernel
theorem dX7_place_54 : decode cX7_place 54 = .ok (.iload_n 1, 1) := by decide +kernel
theorem dX7_place_55 : decode cX7_place 55 = .ok (.iconst 2, 1) := by decide +kernel
theorem dX7_place_56 : decode cX7_place 56 = .ok (.iload_n 3, 1) := by decide +kernel
theorem dX7_place_57 : decode cX7_place 57 = .ok (.invokevirtual 276, 3) := by decide +kernel
theorem dX7_place_60 : decode cX7_place 60 = .ok (.iconst 1, 1) := by decide +kernel
theorem dX7_place_61 : decode cX7_place 61 = .ok (.ireturn, 1) := by decide +kernel
theorem dX7_quarter_0 : decode cX7_quarter 0 = .ok (.aload_n 0, 1) := by decide +kernel
theorem dX7_quarter_1 : decode cX7_quarter 1 = .ok (.iload_n 1, 1) := by decide +kernel
theorem dX7_quarter_2 : decode cX7_quarter 2 = .ok (.invokevirtual 301, 3) := by decide +kernel
theorem dX7_quarter_5 : decode cX7_quarter 5 = .ok (.ifCond .ne 5, 3) := by decide +kernel
theorem dX7_quarter_8 : decode cX7_quarter 8 = .ok (.iconst (-1), 1) := by decide +kernel
theorem dX7_quarter_9 : decode cX7_quarter 9 = .ok (.ireturn, 1) := by decide +kernel
theorem dX7_quarter_10 : decode cX7_quarter 10 = .ok (.aload_n 0, 1) := by decide +kernel
theorem dX7_quarter_11 : decode cX7_quarter 11 = .ok (.iload_n 1, 1) := by decide +kernel
theorem dX7_quarter_12 : decode cX7_quarter 12 = .ok (.invokevirtual 202, 3) := by decide +kernel
theorem dX7_quarter_15 : decode cX7_quarter 15 = .ok (.bipush 40, 2) := by decide +kernel
theorem dX7_quarter_17 : decode cX7_quarter 17 = .ok (.if_icmp .le 6, 3) := by decide +kernel
theorem dX7_quarter_20 : decode cX7_quarter 20 = .ok (.bipush (-2), 2) := by decide +kernel
theorem dX7_quarter_22 : decode cX7_quarter 22 = .ok (.ireturn, 1) := by decide +kernel
theorem dX7_quarter_23 : decode cX7_quarter 23 = .ok (.aload_n 0, 1) := by decide +kernel
theorem dX7_quarter_24 : decode cX7_quarter 24 = .ok (.invokevirtual 304, 3) := by decide +kernel
theorem dX7_quarter_27 : decode cX7_quarter 27 = .ok (.iconst 0, 1) := by decide +kernel
theorem dX7_quarter_28 : decode cX7_quarter 28 = .ok (.istore_n 2, 1) := by decide +kernel
theorem dX7_quarter_29 : decode cX7_quarter 29 = .ok (.iload_n 2, 1) := by decide +kernel
theorem dX7_quarter_30 : decode cX7_quarter 30 = .ok (.aload_n 0, 1) := by decide +kernel
theorem dX7_quarter_31 : decode cX7_quarter 31 = .ok (.iload_n 1, 1) := by decide +kernel
theorem dX7_quarter_32 : decode cX7_quarter 32 = .ok (.invokevirtual 205, 3) := by decide +kernel
theorem dX7_quarter_35 : decode cX7_quarter 35 = .ok (.if_icmp .ge 54, 3) := by decide +kernel
theorem dX7_quarter_38 : decode cX7_quarter 38 = .ok (.iconst 0, 1) := by decide +kernel
theorem dX7_quarter_39 : decode cX7_quarter 39 = .ok (.istore_n 3, 1) := by decide +kernel
theorem dX7_quarter_40 : decode cX7_quarter 40 = .ok (.iload_n 3, 1) := by decide +kernel
theorem dX7_quarter_41 : decode cX7_quarter 41 = .ok (.aload_n 0, 1) := by decide +kernel
theorem dX7_quarter_42 : decode cX7_quarter 42 = .ok (.iload_n 1, 1) := by decide +kernel
theorem dX7_quarter_43 : decode cX7_quarter 43 = .ok (.invokevirtual 202, 3) := by decide +kernel
theorem dX7_quarter_46 : decode cX7_quarter 46 = .ok (.if_icmp .ge 37, 3) := by decide +kernel
theorem dX7_quarter_49 : decode cX7_quarter 49 = .ok (.aload_n 0, 1) := by decide +kernel
theorem dX7_quarter_50 : decode cX7_quarter 50 = .ok (.iload_n 1, 1) := by decide +kernel
theorem dX7_quarter_51 : decode cX7_quarter 51 = .ok (.iload_n 3, 1) := by decide +kernel
theorem dX7_quarter_52 : decode cX7_quarter 52 = .ok (.iload_n 2, 1) := by decide +kernel
theorem dX7_quarter_53 : decode cX7_quarter 53 = .ok (.invokevirtual 215, 3) := by decide +kernel
theorem dX7_quarter_56 : decode cX7_quarter 56 = .ok (.ifCond .eq 21, 3) := by decide +kernel
theorem dX7_quarter_59 : decode cX7_quarter 59 = .ok (.aload_n 0, 1) := by decide +kernel
theorem dX7_quarter_60 : decode cX7_quarter 60 = .ok (.getfield 52, 3) := by decide +kernel
theorem dX7_quarter_63 : decode cX7_quarter 63 = .ok (.iconst 0, 1) := by decide +kernel
theorem dX7_quarter_64 : decode cX7_quarter 64 = .ok (.aload_n 0, 1) := by decide +kernel
theorem dX7_quarter_65 : decode cX7_quarter 65 = .ok (.iload_n 1, 1) := by decide +kernel
theorem dX7_quarter_66 : decode cX7_quarter 66 = .ok (.invokevirtual 205, 3) := by decide +kernel
theorem dX7_quarter_69 : decode cX7_quarter 69 = .ok (.iconst 1, 1) := by decide +kernel
theorem dX7_quarter_70 : decode cX7_quarter 70 = .ok (.isub, 1) := by decide +kernel
theorem dX7_quarter_71 : decode cX7_quarter 71 = .ok (.iload_n 2, 1) := by decide +kernel
theorem dX7_quarter_72 : decode cX7_quarter 72 = .ok (.isub, 1) := by decide +kernel
theorem dX7_quarter_73 : decode cX7_quarter 73 = .ok (.iload_n 3, 1) := by decide +kernel
theorem dX7_quarter_74 : decode cX7_quarter 74 = .ok (.invokestatic 157, 3) := by decide +kernel
theorem dX7_quarter_77 : decode cX7_quarter 77 = .ok (.iinc 3 1, 3) := by decide +kernel
theorem dX7_quarter_80 : decode cX7_quarter 80 = .ok (.goto (-40), 3) := by decide +kernel
theorem dX7_quarter_83 : decode cX7_quarter 83 = .ok (.iinc 2 1, 3) := by decide +kernel
theorem dX7_quarter_86 : decode cX7_quarter 86 = .ok (.goto (-57), 3) := by decide +kernel
theorem dX7_quarter_89 : decode cX7_quarter 89 = .ok (.aload_n 0, 1) := by decide +kernel
theorem dX7_quarter_90 : decode cX7_quarter 90 = .ok (.invokevirtual 286, 3) := by decide +kernel
theorem dX7_quarter_93 : decode cX7_quarter 93 = .ok (.aload_n 0, 1) := by decide +kernel
theorem dX7_quarter_94 : decode cX7_quarter 94 = .ok (.iload_n 1, 1) := by decide +kernel
theorem dX7_quarter_95 : decode cX7_quarter 95 = .ok (.invokevirtual 310, 3) := by decide +kernel
theorem dX7_quarter_98 : decode cX7_quarter 98 = .ok (.aload_n 0, 1) := by decide +kernel
theorem dX7_quarter_99 : decode cX7_quarter 99 = .ok (.iload_n 1, 1) := by decide +kernel
theorem dX7_quarter_100 : decode cX7_quarter 100 = .ok (.invokevirtual 202, 3) := by decide +kernel
theorem dX7_quarter_103 : decode cX7_quarter 103 = .ok (.istore_n 2, 1) := by decide +kernel
theorem dX7_quarter_104 : decode cX7_quarter 104 = .ok (.aload_n 0, 1) := by decide +kernel
theorem dX7_quarter_105 : decode cX7_quarter 105 = .ok (.getfield 9, 3) := by decide +kernel
theorem dX7_quarter_108 : decode cX7_quarter 108 = .ok (.iconst 3, 1) := by decide +kernel
theorem dX7_quarter_109 : decode cX7_quarter 109 = .ok (.iload_n 1, 1) := by decide +kernel
theorem dX7_quarter_110 : decode cX7_quarter 110 = .ok (.iadd, 1) := by decide +kernel
theorem dX7_quarter_111 : decode cX7_quarter 111 = .ok (.aload_n 0, 1) := by decide +kernel
theorem dX7_quarter_112 : decode cX7_quarter 112 = .ok (.iload_n 1, 1) := by decide +kernel
theorem dX7_quarter_113 : decode cX7_quarter 113 = .ok (.invokevirtual 205, 3) := by decide +kernel
theorem dX7_quarter_116 : decode cX7_quarter 116 = .ok (.iastore, 1) := by decide +kernel
theorem dX7_quarter_117 : decode cX7_quarter 117 = .ok (.aload_n 0, 1) := by decide +kernel
theorem dX7_quarter_118 : decode cX7_quarter 118 = .ok (.getfield 9, 3) := by decide +kernel
theorem dX7_quarter_121 : decode cX7_quarter 121 = .ok (.bipush 11, 2) := by decide +kernel
theorem dX7_quarter_123 : decode cX7_quarter 123 = .ok (.iload_n 1, 1) := by decide +kernel
theorem dX7_quarter_124 : decode cX7_quarter 124 = .ok (.iadd, 1) := by decide +kernel
theorem dX7_quarter_125 : decode cX7_quarter 125 = .ok (.iload_n 2, 1) := by decide +kernel
theorem dX7_quarter_126 : decode cX7_quarter 126 = .ok (.iastore, 1) := by decide +kernel
theorem dX7_quarter_127 : decode cX7_quarter 127 = .ok (.aload_n 0, 1) := by decide +kernel
theorem dX7_quarter_128 : decode cX7_quarter 128 = .ok (.iload_n 1, 1) := by decide +kernel
theorem dX7_quarter_129 : decode cX7_quarter 129 = .ok (.invokevirtual 202, 3) := by decide +kernel
theorem dX7_quarter_132 : decode cX7_quarter 132 = .ok (.ireturn, 1) := by decide +kernel
theorem dX7_remembersAside_0 : decode cX7_remembersAside 0 = .ok (.aload_n 0, 1) := by decide +kernel
theorem dX7_remembersAside_1 : decode cX7_remembersAside 1 = .ok (.getfield 187, 3) := by decide +kernel
theorem dX7_remembersAside_4 : decode cX7_remembersAside 4 = .ok (.bipush 10, 2) := by decide +kernel
theorem dX7_remembersAside_6 : decode cX7_remembersAside 6 = .ok (.if_icmp .ne 50, 3) := by decide +kernel
theorem dX7_remembersAside_9 : decode cX7_remembersAside 9 = .ok (.iconst 1, 1) := by decide +kernel
theorem dX7_remembersAside_10 : decode cX7_remembersAside 10 = .ok (.istore_n 1, 1) := by decide +kernel
theorem dX7_remembersAside_11 : decode cX7_remembersAside 11 = .ok (.iload_n 1, 1) := by decide +kernel
theorem dX7_remembersAside_12 : decode cX7_remembersAside 12 = .ok (.bipush 10, 2) := by decide +kernel
theorem dX7_remembersAside_14 : decode cX7_remembersAside 14 = .ok (.if_icmp .ge 32, 3) := by decide +kernel
theorem dX7_remembersAside_17 : decode cX7_remembersAside 17 = .ok (.aload_n 0, 1) := by decide +kernel
theorem dX7_remembersAside_18 : decode cX7_remembersAside 18 = .ok (.getfield 19, 3) := by decide +kernel
theorem dX7_remembersAside_21 : decode cX7_remembersAside 21 = .ok (.aload_n 0, 1) := by decide +kernel
theorem dX7_remembersAside_22 : decode cX7_remembersAside 22 = .ok (.getfield 35, 3) := by decide +kernel
theorem dX7_remembersAside_25 : decode cX7_remembersAside 25 = .ok (.iload_n 1, 1) := by decide +kernel
theorem dX7_remembersAside_26 : decode cX7_remembersAside 26 = .ok (.aload_n 0, 1) := by decide +kernel
theorem dX7_remembersAside_27 : decode cX7_remembersAside 27 = .ok (.getfield 19, 3) := by decide +kernel
theorem dX7_remembersAside_30 : decode cX7_remembersAside 30 = .ok (.aload_n 0, 1) := by decide +kernel
theorem dX7_remembersAside_31 : decode cX7_remembersAside 31 = .ok (.getfield 35, 3) := by decide +kernel
theorem dX7_remembersAside_34 : decode cX7_remembersAside 34 = .ok (.iload_n 1, 1) := by decide +kernel
theorem dX7_remembersAside_35 : decode cX7_remembersAside 35 = .ok (.iconst 1, 1) := by decide +kernel
theorem dX7_remembersAside_36 : decode cX7_remembersAside 36 = .ok (.isub, 1) := by decide +kernel
theorem dX7_remembersAside_37 : decode cX7_remembersAside 37 = .ok (.invokestatic 184, 3) := by decide +kernel
theorem dX7_remembersAside_40 : decode cX7_remembersAside 40 = .ok (.iinc 1 1, 3) := by decide +kernel
theorem dX7_remembersAside_43 : decode cX7_remembersAside 43 = .ok (.goto (-32), 3) := by decide +kernel
theorem dX7_remembersAside_46 : decode cX7_remembersAside 46 = .ok (.aload_n 0, 1) := by decide +kernel
theorem dX7_remembersAside_47 : decode cX7_remembersAside 47 = .ok (.dup, 1) := by decide +kernel
theorem dX7_remembersAside_48 : decode cX7_remembersAside 48 = .ok (.getfield 187, 3) := by decide +kernel
theorem dX7_remembersAside_51 : decode cX7_remembersAside 51 = .ok (.iconst 1, 1) := by decide +kernel
theorem dX7_remembersAside_52 : decode cX7_remembersAside 52 = .ok (.isub, 1) := by decide +kernel
theorem dX7_remembersAside_53 : decode cX7_remembersAside 53 = .ok (.putfield 187, 3) := by decide +kernel
theorem dX7_remembersAside_56 : decode cX7_remembersAside 56 = .ok (.aload_n 0, 1) := by decide +kernel
theorem dX7_remembersAside_57 : decode cX7_remembersAside 57 = .ok (.getfield 16, 3) := by decide +kernel
theorem dX7_remembersAside_60 : decode cX7_remembersAside 60 = .ok (.aload_n 0, 1) := by decide +kernel
theorem dX7_remembersAside_61 : decode cX7_remembersAside 61 = .ok (.getfield 32, 3) := by decide +kernel
theorem dX7_remembersAside_64 : decode cX7_remembersAside 64 = .ok (.iconst 0, 1) := by decide +kernel
theorem dX7_remembersAside_65 : decode cX7_remembersAside 65 = .ok (.aload_n 0, 1) := by decide +kernel
theorem dX7_remembersAside_66 : decode cX7_remembersAside 66 = .ok (.getfield 19, 3) := by decide +kernel
theorem dX7_remembersAside_69 : decode cX7_remembersAside 69 = .ok (.aload_n 0, 1) := by decide +kernel
theorem dX7_remembersAside_70 : decode cX7_remembersAside 70 = .ok (.getfield 35, 3) := by decide +kernel
theorem dX7_remembersAside_73 : decode cX7_remembersAside 73 = .ok (.aload_n 0, 1) := by decide +kernel
theorem dX7_remembersAside_74 : decode cX7_remembersAside 74 = .ok (.getfield 187, 3) := by decide +kernel
theorem dX7_remembersAside_77 : decode cX7_remembersAside 77 = .ok (.invokestatic 184, 3) := by decide +kernel
theorem dX7_remembersAside_80 : decode cX7_remembersAside 80 = .ok (.aload_n 0, 1) := by decide +kernel
theorem dX7_remembersAside_81 : decode cX7_remembersAside 81 = .ok (.dup, 1) := by decide +kernel
theorem dX7_remembersAside_82 : decode cX7_remembersAside 82 = .ok (.getfield 187, 3) := by decide +kernel
theorem dX7_remembersAside_85 : decode cX7_remembersAside 85 = .ok (.iconst 1, 1) := by decide +kernel
theorem dX7_remembersAside_86 : decode cX7_remembersAside 86 = .ok (.iadd, 1) := by decide +kernel
theorem dX7_remembersAside_87 : decode cX7_remembersAside 87 = .ok (.putfield 187, 3) := by decide +kernel
theorem dX7_remembersAside_90 : decode cX7_remembersAside 90 = .ok (.return_, 1) := by decide +kernel
theorem dX7_sets_0 : decode cX7_sets 0 = .ok (.aload_n 0, 1) := by decide +kernel
theorem dX7_sets_1 : decode cX7_sets 1 = .ok (.getfield 9, 3) := by decide +kernel
theorem dX7_sets_4 : decode cX7_sets 4 = .ok (.bipush 19, 2) := by decide +kernel
theorem dX7_sets_6 : decode cX7_sets 6 = .ok (.bipush 8, 2) := by decide +kernel
theorem dX7_sets_8 : decode cX7_sets 8 = .ok (.iload_n 1, 1) := by decide +kernel
theorem dX7_sets_9 : decode cX7_sets 9 = .ok (.imul, 1) := by decide +kernel
theorem dX7_sets_10 : decode cX7_sets 10 = .ok (.iadd, 1) := by decide +kernel
theorem dX7_sets_11 : decode cX7_sets 11 = .ok (.iload_n 2, 1) := by decide +kernel
theorem dX7_sets_12 : decode cX7_sets 12 = .ok (.iadd, 1) := by decide +kernel
theorem dX7_sets_13 : decode cX7_sets 13 = .ok (.iload_n 3, 1) := by decide +kernel
theorem dX7_sets_14 : decode cX7_sets 14 = .ok (.iastore, 1) := by decide +kernel
theorem dX7_sets_15 : decode cX7_sets 15 = .ok (.return_, 1) := by decide +kernel
theorem dX7_speed_0 : decode cX7_speed 0 = .ok (.aload_n 0, 1) := by decide +kernel
theorem dX7_speed_1 : decode cX7_speed 1 = .ok (.iload_n 1, 1) := by decide +kernel
theorem dX7_speed_2 : decode cX7_speed 2 = .ok (.invokevirtual 196, 3) := by decide +kernel
theorem dX7_speed_5 : decode cX7_speed 5 = .ok (.ifCond .eq 43, 3) := by decide +kernel
theorem dX7_speed_8 : decode cX7_speed 8 = .ok (.iload_n 2, 1) := by decide +kernel
theorem dX7_speed_9 : decode cX7_speed 9 = .ok (.i2l, 1) := by decide +kernel
theorem dX7_speed_10 : decode cX7_speed 10 = .ok (.ldc2_w 297, 3) := by decide +kernel
theorem dX7_speed_13 : decode cX7_speed 13 = .ok (.ldc2_w 299, 3) := by decide +kernel
theorem dX7_speed_16 : decode cX7_speed 16 = .ok (.invokestatic 96, 3) := by decide +kernel
theorem dX7_speed_19 : decode cX7_speed 19 = .ok (.ifCond .eq 29, 3) := by decide +kernel
theorem dX7_speed_22 : decode cX7_speed 22 = .ok (.iload_n 3, 1) := by decide +kernel
theorem dX7_speed_23 : decode cX7_speed 23 = .ok (.i2l, 1) := by decide +kernel
theorem dX7_speed_24 : decode cX7_speed 24 = .ok (.ldc2_w 297, 3) := by decide +kernel
theorem dX7_speed_27 : decode cX7_speed 27 = .ok (.ldc2_w 299, 3) := by decide +kernel
theorem dX7_speed_30 : decode cX7_speed 30 = .ok (.invokestatic 96, 3) := by decide +kernel
theorem dX7_speed_33 : decode cX7_speed 33 = .ok (.ifCond .eq 15, 3) := by decide +kernel
theorem dX7_speed_36 : decode cX7_speed 36 = .ok (.aload_n 0, 1) := by decide +kernel
theorem dX7_speed_37 : decode cX7_speed 37 = .ok (.iload_n 1, 1) := by decide +kernel
theorem dX7_speed_38 : decode cX7_speed 38 = .ok (.bipush 6, 2) := by decide +kernel
theorem dX7_speed_40 : decode cX7_speed 40 = .ok (.iload_n 2, 1) := by decide +kernel
theorem dX7_speed_41 : decode cX7_speed 41 = .ok (.iload_n 3, 1) := by decide +kernel
theorem dX7_speed_42 : decode cX7_speed 42 = .ok (.invokevirtual 293, 3) := by decide +kernel
theorem dX7_speed_45 : decode cX7_speed 45 = .ok (.goto 4, 3) := by decide +kernel
theorem dX7_speed_48 : decode cX7_speed 48 = .ok (.iconst (-1), 1) := by decide +kernel
theorem dX7_speed_49 : decode cX7_speed 49 = .ok (.ireturn, 1) := by decide +kernel
theorem dX7_thin_0 : decode cX7_thin 0 = .ok (.aload_n 0, 1) := by decide +kernel
theorem dX7_thin_1 : decode cX7_thin 1 = .ok (.iload_n 1, 1) := by decide +kernel
theorem dX7_thin_2 : decode cX7_thin 2 = .ok (.iconst 0, 1) := by decide +kernel
theorem dX7_thin_3 : decode cX7_thin 3 = .ok (.invokevirtual 313, 3) := by decide +kernel
theorem dX7_thin_6 : decode cX7_thin 6 = .ok (.ireturn, 1) := by decide +kernel
theorem dX7_turn_0 : decode cX7_turn 0 = .ok (.aload_n 0, 1) := by decide +kernel
theorem dX7_turn_1 : decode cX7_turn 1 = .ok (.iload_n 1, 1) := by decide +kernel
theorem dX7_turn_2 : decode cX7_turn 2 = .ok (.invokevirtual 301, 3) := by decide +kernel
theorem dX7_turn_5 : decode cX7_turn 5 = .ok (.ifCond .eq 37, 3) := by decide +kernel
theorem dX7_turn_8 : decode cX7_turn 8 = .ok (.iload_n 2, 1) := by decide +kernel
theorem dX7_turn_9 : decode cX7_turn 9 = .ok (.i2l, 1) := by decide +kernel
theorem dX7_turn_10 : decode cX7_turn 10 = .ok (.lconst 0, 1) := by decide +kernel
theorem dX7_turn_11 : decode cX7_turn 11 = .ok (.aload_n 0, 1) := by decide +kernel
theorem dX7_turn_12 : decode cX7_turn 12 = .ok (.iload_n 1, 1) := by decide +kernel
theorem dX7_turn_13 : decode cX7_turn 13 = .ok (.invokevirtual 202, 3) := by decide +kernel
theorem dX7_turn_16 : decode cX7_turn 16 = .ok (.iconst 1, 1) := by decide +kernel
theorem dX7_turn_17 : decode cX7_turn 17 = .ok (.isub, 1) := by decide +kernel
theorem dX7_turn_18 : decode cX7_turn 18 = .ok (.i2l, 1) := by decide +kernel
theorem dX7_turn_19 : decode cX7_turn 19 = .ok (.invokestatic 96, 3) := by decide +kernel
theorem dX7_turn_22 : decode cX7_turn 22 = .ok (.ifCond .eq 20, 3) := by decide +kernel
theorem dX7_turn_25 : decode cX7_turn 25 = .ok (.iload_n 3, 1) := by decide +kernel
theorem dX7_turn_26 : decode cX7_turn 26 = .ok (.i2l, 1) := by decide +kernel
theorem dX7_turn_27 : decode cX7_turn 27 = .ok (.lconst 0, 1) := by decide +kernel
theorem dX7_turn_28 : decode cX7_turn 28 = .ok (.aload_n 0, 1) := by decide +kernel
theorem dX7_turn_29 : decode cX7_turn 29 = .ok (.iload_n 1, 1) := by decide +kernel
theorem dX7_turn_30 : decode cX7_turn 30 = .ok (.invokevirtual 205, 3) := by decide +kernel
theorem dX7_turn_33 : decode cX7_turn 33 = .ok (.iconst 1, 1) := by decide +kernel
theorem dX7_turn_34 : decode cX7_turn 34 = .ok (.isub, 1) := by decide +kernel
theorem dX7_turn_35 : decode cX7_turn 35 = .ok (.i2l, 1) := by decide +kernel
theorem dX7_turn_36 : decode cX7_turn 36 = .ok (.invokestatic 96, 3) := by decide +kernel
theorem dX7_turn_39 : decode cX7_turn 39 = .ok (.ifCond .ne 5, 3) := by decide +kernel
theorem dX7_turn_42 : decode cX7_turn 42 = .ok (.iconst (-1), 1) := by decide +kernel
theorem dX7_turn_43 : decode cX7_turn 43 = .ok (.ireturn, 1) := by decide +kernel
theorem dX7_turn_44 : decode cX7_turn 44 = .ok (.aload_n 0, 1) := by decide +kernel
theorem dX7_turn_45 : decode cX7_turn 45 = .ok (.invokevirtual 286, 3) := by decide +kernel
theorem dX7_turn_48 : decode cX7_turn 48 = .ok (.aload_n 0, 1) := by decide +kernel
theorem dX7_turn_49 : decode cX7_turn 49 = .ok (.getfield 25, 3) := by decide +kernel
theorem dX7_turn_52 : decode cX7_turn 52 = .ok (.bipush 80, 2) := by decide +kernel
theorem dX7_turn_54 : decode cX7_turn 54 = .ok (.iload_n 1, 1) := by decide +kernel
theorem dX7_turn_55 : decode cX7_turn 55 = .ok (.imul, 1) := by decide +kernel
theorem dX7_turn_56 : decode cX7_turn 56 = .ok (.iconst 2, 1) := by decide +kernel
theorem dX7_turn_57 : decode cX7_turn 57 = .ok (.iload_n 3, 1) := by decide +kernel
theorem dX7_turn_58 : decode cX7_turn 58 = .ok (.imul, 1) := by decide +kernel
theorem dX7_turn_59 : decode cX7_turn 59 = .ok (.iadd, 1) := by decide +kernel
theorem dX7_turn_60 : decode cX7_turn 60 = .ok (.iload_n 2, 1) := by decide +kernel
theorem dX7_turn_61 : decode cX7_turn 61 = .ok (.bipush 64, 2) := by decide +kernel
theorem dX7_turn_63 : decode cX7_turn 63 = .ok (.idiv, 1) := by decide +kernel
theorem dX7_turn_64 : decode cX7_turn 64 = .ok (.iadd, 1) := by decide +kernel
theorem dX7_turn_65 : decode cX7_turn 65 = .ok (.dup2, 1) := by decide +kernel
theorem dX7_turn_66 : decode cX7_turn 66 = .ok (.laload, 1) := by decide +kernel
theorem dX7_turn_67 : decode cX7_turn 67 = .ok (.lconst 1, 1) := by decide +kernel
theorem dX7_turn_68 : decode cX7_turn 68 = .ok (.iload_n 2, 1) := by decide +kernel
theorem dX7_turn_69 : decode cX7_turn 69 = .ok (.bipush 64, 2) := by decide +kernel
theorem dX7_turn_71 : decode cX7_turn 71 = .ok (.irem, 1) := by decide +kernel
theorem dX7_turn_72 : decode cX7_turn 72 = .ok (.lshl, 1) := by decide +kernel
theorem dX7_turn_73 : decode cX7_turn 73 = .ok (.lxor, 1) := by decide +kernel
theorem dX7_turn_74 : decode cX7_turn 74 = .ok (.lastore, 1) := by decide +kernel
theorem dX7_turn_75 : decode cX7_turn 75 = .ok (.aload_n 0, 1) := by decide +kernel
theorem dX7_turn_76 : decode cX7_turn 76 = .ok (.iload_n 1, 1) := by decide +kernel
theorem dX7_turn_77 : decode cX7_turn 77 = .ok (.iload_n 2, 1) := by decide +kernel
theorem dX7_turn_78 : decode cX7_turn 78 = .ok (.iload_n 3, 1) := by decide +kernel
theorem dX7_turn_79 : decode cX7_turn 79 = .ok (.invokevirtual 215, 3) := by decide +kernel
theorem dX7_turn_82 : decode cX7_turn 82 = .ok (.invokestatic 127, 3) := by decide +kernel
theorem dX7_turn_85 : decode cX7_turn 85 = .ok (.ireturn, 1) := by decide +kernel
theorem dX7_two_0 : decode cX7_two 0 = .ok (.aload_n 0, 1) := by decide +kernel
theorem dX7_two_1 : decode cX7_two 1 = .ok (.iload_n 1, 1) := by decide +kernel
theorem dX7_two_2 : decode cX7_two 2 = .ok (.iload_n 2, 1) := by decide +kernel
theorem dX7_two_3 : decode cX7_two 3 = .ok (.invokevirtual 199, 3) := by decide +kernel
theorem dX7_two_6 : decode cX7_two 6 = .ok (.iload_n 3, 1) := by decide +kernel
theorem dX7_two_7 : decode cX7_two 7 = .ok (.if_icmp .ne 19, 3) := by decide +kernel
theorem dX7_two_10 : decode cX7_two 10 = .ok (.aload_n 0, 1) := by decide +kernel
theorem dX7_two_11 : decode cX7_two 11 = .ok (.iload_n 1, 1) := by decide +kernel
theorem dX7_two_12 : decode cX7_two 12 = .ok (.iload_n 2, 1) := by decide +kernel
theorem dX7_two_13 : decode cX7_two 13 = .ok (.iconst 1, 1) := by decide +kernel
theorem dX7_two_14 : decode cX7_two 14 = .ok (.iadd, 1) := by decide +kernel
theorem dX7_two_15 : decode cX7_two 15 = .ok (.invokevirtual 199, 3) := by decide +kernel
theorem dX7_two_18 : decode cX7_two 18 = .ok (.iload 4, 2) := by decide +kernel
theorem dX7_two_20 : decode cX7_two 20 = .ok (.if_icmp .ne 6, 3) := by decide +kernel
theorem dX7_two_23 : decode cX7_two 23 = .ok (.bipush (-2), 2) := by decide +kernel
theorem dX7_two_25 : decode cX7_two 25 = .ok (.ireturn, 1) := by decide +kernel
theorem dX7_two_26 : decode cX7_two 26 = .ok (.aload_n 0, 1) := by decide +kernel
theorem dX7_two_27 : decode cX7_two 27 = .ok (.invokevirtual 286, 3) := by decide +kernel
theorem dX7_two_30 : decode cX7_two 30 = .ok (.aload_n 0, 1) := by decide +kernel
theorem dX7_two_31 : decode cX7_two 31 = .ok (.iload_n 1, 1) := by decide +kernel
theorem dX7_two_32 : decode cX7_two 32 = .ok (.iload_n 2, 1) := by decide +kernel
theorem dX7_two_33 : decode cX7_two 33 = .ok (.iload_n 3, 1) := by decide +kernel
theorem dX7_two_34 : decode cX7_two 34 = .ok (.invokevirtual 276, 3) := by decide +kernel
theorem dX7_two_37 : decode cX7_two 37 = .ok (.aload_n 0, 1) := by decide +kernel
theorem dX7_two_38 : decode cX7_two 38 = .ok (.iload_n 1, 1) := by decide +kernel
theorem dX7_two_39 : decode cX7_two 39 = .ok (.iload_n 2, 1) := by decide +kernel
theorem dX7_two_40 : decode cX7_two 40 = .ok (.iconst 1, 1) := by decide +kernel
theorem dX7_two_41 : decode cX7_two 41 = .ok (.iadd, 1) := by decide +kernel
theorem dX7_two_42 : decode cX7_two 42 = .ok (.iload 4, 2) := by decide +kernel
theorem dX7_two_44 : decode cX7_two 44 = .ok (.invokevirtual 276, 3) := by decide +kernel
theorem dX7_two_47 : decode cX7_two 47 = .ok (.iconst 1, 1) := by decide +kernel
theorem dX7_two_48 : decode cX7_two 48 = .ok (.ireturn, 1) := by decide +kernel
theorem dX7_undo_0 : decode cX7_undo 0 = .ok (.aload_n 0, 1) := by decide +kernel
theorem dX7_undo_1 : decode cX7_undo 1 = .ok (.getfield 187, 3) := by decide +kernel
theorem dX7_undo_4 : decode cX7_undo 4 = .ok (.ifCond .ne 5, 3) := by decide +kernel
theorem dX7_undo_7 : decode cX7_undo 7 = .ok (.iconst (-1), 1) := by decide +kernel
theorem dX7_undo_8 : decode cX7_undo 8 = .ok (.ireturn, 1) := by decide +kernel
theorem dX7_undo_9 : decode cX7_undo 9 = .ok (.aload_n 0, 1) := by decide +kernel
theorem dX7_undo_10 : decode cX7_undo 10 = .ok (.dup, 1) := by decide +kernel
theorem dX7_undo_11 : decode cX7_undo 11 = .ok (.getfield 187, 3) := by decide +kernel
theorem dX7_undo_14 : decode cX7_undo 14 = .ok (.iconst 1, 1) := by decide +kernel
theorem dX7_undo_15 : decode cX7_undo 15 = .ok (.isub, 1) := by decide +kernel
theorem dX7_undo_16 : decode cX7_undo 16 = .ok (.putfield 187, 3) := by decide +kernel
theorem dX7_undo_19 : decode cX7_undo 19 = .ok (.aload_n 0, 1) := by decide +kernel
theorem dX7_undo_20 : decode cX7_undo 20 = .ok (.getfield 19, 3) := by decide +kernel
theorem dX7_undo_23 : decode cX7_undo 23 = .ok (.aload_n 0, 1) := by decide +kernel
theorem dX7_undo_24 : decode cX7_undo 24 = .ok (.getfield 35, 3) := by decide +kernel
theorem dX7_undo_27 : decode cX7_undo 27 = .ok (.aload_n 0, 1) := by decide +kernel
theorem dX7_undo_28 : decode cX7_undo 28 = .ok (.getfield 187, 3) := by decide +kernel
theorem dX7_undo_31 : decode cX7_undo 31 = .ok (.aload_n 0, 1) := by decide +kernel
theorem dX7_undo_32 : decode cX7_undo 32 = .ok (.getfield 9, 3) := by decide +kernel
theorem dX7_undo_35 : decode cX7_undo 35 = .ok (.aload_n 0, 1) := by decide +kernel
theorem dX7_undo_36 : decode cX7_undo 36 = .ok (.getfield 25, 3) := by decide +kernel
theorem dX7_undo_39 : decode cX7_undo 39 = .ok (.iconst 0, 1) := by decide +kernel
theorem dX7_undo_40 : decode cX7_undo 40 = .ok (.invokestatic 184, 3) := by decide +kernel
theorem dX7_undo_43 : decode cX7_undo 43 = .ok (.aload_n 0, 1) := by decide +kernel
theorem dX7_undo_44 : decode cX7_undo 44 = .ok (.getfield 187, 3) := by decide +kernel
theorem dX7_undo_47 : decode cX7_undo 47 = .ok (.ireturn, 1) := by decide +kernel
set_option maxRecDepth 100000 in
theorem pq24 : Cond.selects RX7 yX7_isPlace yX7_isPlace ∈ pw := pw_mem (i := 24) (by decide +kernel) rfl
set_option maxRecDepth 100000 in
theorem pq26 : Cond.selects RX7 yX7_keepsPast yX7_keepsPast ∈ pw := pw_mem (i := 26) (by decide +kernel) rfl
set_option maxRecDepth 100000 in
theorem pq27 : Cond.selects RX7 yX7_laysAside yX7_laysAside ∈ pw := pw_mem (i := 27) (by decide +kernel) rfl
set_option maxRecDepth 100000 in
theorem pq28 : Cond.selects RX7 yX7_remembersAside yX7_remembersAside ∈ pw := pw_mem (i := 28) (by decide +kernel) rfl
set_option maxRecDepth 100000 in
theorem pq29 : Cond.selects RX7 yX7_sets yX7_sets ∈ pw := pw_mem (i := 29) (by decide +kernel) rfl
set_option maxRecDepth 100000 in
theorem pq30 : Cond.selects RX7 yX7_two yX7_two ∈ pw := pw_mem (i := 30) (by decide +kernel) rfl
set_option maxRecDepth 100000 in
theorem pq31 : Cond.selects RX7 yX7_isMask yX7_isMask ∈ pw := pw_mem (i := 31) (by decide +kernel) rfl
set_option maxRecDepth 100000 in
theorem pq35 : Cond.selects RX7 yX7_changes yX7_changes ∈ pw := pw_mem (i := 35) (by decide +kernel) rfl
set_option maxRecDepth 100000 in
theorem pq36 : Cond.selects RX7 yX7_clearsMade yX7_clearsMade ∈ pw := pw_mem (i := 36) (by decide +kernel) rfl
set_option maxRecDepth 100000 in
theorem pq37 : Cond.selects RX7 yX7_around yX7_around ∈ pw := pw_mem (i := 37) (by decide +kernel) rfl
set_option maxRecDepth 100000 in
theorem pq38 : Cond.selects RX7 yX7_takesMade yX7_takesMade ∈ pw := pw_mem (i := 38) (by decide +kernel) rfl
set_option maxRecDepth 100000 in
theorem pq39 : Cond.selects RX7 yX7_dotsOf yX7_dotsOf ∈ pw := pw_mem (i := 39) (by decide +kernel) rfl
set_option maxRecDepth 100000 in
theorem pq1117 : Cond.fieldLink RX7 16 "MaskTouchModel" "aside" "[I" ∈ pw := pw_mem (i := 1117) (by decide +kernel) rfl
set_option maxRecDepth 100000 in
theorem pq1118 : Cond.fieldLink RX7 19 "MaskTouchModel" "past" "[I" ∈ pw := pw_mem (i := 1118) (by decide +kernel) rfl
set_option maxRecDepth 100000 in
theorem pq1119 : Cond.fieldLink RX7 22 "MaskTouchModel" "shelf" "[I" ∈ pw := pw_mem (i := 1119) (by decide +kernel) rfl
set_option maxRecDepth 100000 in
theorem pq1122 : Cond.fieldLink RX7 32 "MaskTouchModel" "asideDots" "[J" ∈ pw := pw_mem (i := 1122) (by decide +kernel) rfl
set_option maxRecDepth 100000 in
theorem pq1123 : Cond.fieldLink RX7 35 "MaskTouchModel" "pastDots" "[J" ∈ pw := pw_mem (i := 1123) (by decide +kernel) rfl
set_option maxRecDepth 100000 in
theorem pq1124 : Cond.fieldLink RX7 38 "MaskTouchModel" "shelfDots" "[J" ∈ pw := pw_mem (i := 1124) (by decide +kernel) rfl
set_option maxRecDepth 100000 in
theorem pq1125 : Cond.fieldLink RX7 41 "MaskTouchModel" "isKept" "[Z" ∈ pw := pw_mem (i := 1125) (by decide +kernel) rfl
set_option maxRecDepth 100000 in
theorem pq1126 : Cond.fieldLink RX7 187 "MaskTouchModel" "pastMany" "I" ∈ pw := pw_mem (i := 1126) (by decide +kernel) rfl
set_option maxRecDepth 100000 in
theorem pq1254 : Cond.methodLink RX7 157 yX7_setsDot ∈ pw := pw_mem (i := 1254) (by decide +kernel) rfl
set_option maxRecDepth 100000 in
theorem pq1255 : Cond.static yX7_setsDot ∈ pw := pw_mem (i := 1255) (by decide +kernel) rfl
set_option maxRecDepth 100000 in
theorem pq1256 : Cond.code yX7_setsDot cX7_setsDot 4 none ∈ pw := pw_mem (i := 1256) (by rfl) rfl
set_option maxRecDepth 100000 in
theorem pq1291 : Cond.methodLink RX7 184 yX7_moves ∈ pw := pw_mem (i := 1291) (by decide +kernel) rfl
set_option maxRecDepth 100000 in
theorem pq1292 : Cond.static yX7_moves ∈ pw := pw_mem (i := 1292) (by decide +kernel) rfl
set_option maxRecDepth 100000 in
theorem pq1293 : Cond.code yX7_moves cX7_moves 7 none ∈ pw := pw_mem (i := 1293) (by rfl) rfl
set_option maxRecDepth 100000 in
theorem pq1314 : Cond.methodLink RX7 273 yX7_isPlace ∈ pw := pw_mem (i := 1314) (by decide +kernel) rfl
set_option maxRecDepth 100000 in
theorem pq1316 : Cond.instanceMethod yX7_isPlace ∈ pw := pw_mem (i := 1316) (by decide +kernel) rfl
set_option maxRecDepth 100000 in
theorem pq1317 : Cond.code yX7_isPlace cX7_isPlace 3 (some .boolean) ∈ pw := pw_mem (i := 1317) (by rfl) rfl
set_option maxRecDepth 100000 in
theorem pq1324 : Cond.methodLink RX7 286 yX7_keepsPast ∈ pw := pw_mem (i := 1324) (by decide +kernel) rfl
set_option maxRecDepth 100000 in
theorem pq1326 : Cond.instanceMethod yX7_keepsPast ∈ pw := pw_mem (i := 1326) (by decide +kernel) rfl
set_option maxRecDepth 100000 in
theorem pq1327 : Cond.code yX7_keepsPast cX7_keepsPast 1 none ∈ pw := pw_mem (i := 1327) (by rfl) rfl
set_option maxRecDepth 100000 in
theorem pq1328 : Cond.methodLink RX7 190 yX7_laysAside ∈ pw := pw_mem (i := 1328) (by decide +kernel) rfl
set_option maxRecDepth 100000 in
theorem pq1330 : Cond.instanceMethod yX7_laysAside ∈ pw := pw_mem (i := 1330) (by decide +kernel) rfl
set_option maxRecDepth 100000 in
theorem pq1331 : Cond.code yX7_laysAside cX7_laysAside 1 none ∈ pw := pw_mem (i := 1331) (by rfl) rfl
set_option maxRecDepth 100000 in
theorem pq1332 : Cond.methodLink RX7 193 yX7_remembersAside ∈ pw := pw_mem (i := 1332) (by decide +kernel) rfl
set_option maxRecDepth 100000 in
theorem pq1334 : Cond.instanceMethod yX7_remembersAside ∈ pw := pw_mem (i := 1334) (by decide +kernel) rfl
set_option maxRecDepth 100000 in
theorem pq1335 : Cond.code yX7_remembersAside cX7_remembersAside 2 none ∈ pw := pw_mem (i := 1335) (by rfl) rfl
set_option maxRecDepth 100000 in
theorem pq1336 : Cond.methodLink RX7 276 yX7_sets ∈ pw := pw_mem (i := 1336) (by decide +kernel) rfl
set_option maxRecDepth 100000 in
theorem pq1338 : Cond.instanceMethod yX7_sets ∈ pw := pw_mem (i := 1338) (by decide +kernel) rfl
set_option maxRecDepth 100000 in
theorem pq1339 : Cond.code yX7_sets cX7_sets 4 none ∈ pw := pw_mem (i := 1339) (by rfl) rfl
set_option maxRecDepth 100000 in
theorem pq1344 : Cond.constantLong RX7 289 (3) ∈ pw := pw_mem (i := 1344) (by decide +kernel) rfl
set_option maxRecDepth 100000 in
theorem pq1349 : Cond.constantLong RX7 291 (15) ∈ pw := pw_mem (i := 1349) (by decide +kernel) rfl
set_option maxRecDepth 100000 in
theorem pq1350 : Cond.methodLink RX7 293 yX7_two ∈ pw := pw_mem (i := 1350) (by decide +kernel) rfl
set_option maxRecDepth 100000 in
theorem pq1352 : Cond.instanceMethod yX7_two ∈ pw := pw_mem (i := 1352) (by decide +kernel) rfl
set_option maxRecDepth 100000 in
theorem pq1353 : Cond.code yX7_two cX7_two 5 (some .int) ∈ pw := pw_mem (i := 1353) (by rfl) rfl
set_option maxRecDepth 100000 in
theorem pq1358 : Cond.constantLong RX7 297 (-20) ∈ pw := pw_mem (i := 1358) (by decide +kernel) rfl
set_option maxRecDepth 100000 in
theorem pq1359 : Cond.constantLong RX7 299 (20) ∈ pw := pw_mem (i := 1359) (by decide +kernel) rfl
set_option maxRecDepth 100000 in
theorem pq1364 : Cond.methodLink RX7 301 yX7_isMask ∈ pw := pw_mem (i := 1364) (by decide +kernel) rfl
set_option maxRecDepth 100000 in
theorem pq1366 : Cond.instanceMethod yX7_isMask ∈ pw := pw_mem (i := 1366) (by decide +kernel) rfl
set_option maxRecDepth 100000 in
theorem pq1367 : Cond.code yX7_isMask cX7_isMask 2 (some .boolean) ∈ pw := pw_mem (i := 1367) (by rfl) rfl
set_option maxRecDepth 100000 in
theorem pq1387 : Cond.methodLink RX7 313 yX7_changes ∈ pw := pw_mem (i := 1387) (by decide +kernel) rfl
set_option maxRecDepth 100000 in
theorem pq1389 : Cond.instanceMethod yX7_changes ∈ pw := pw_mem (i := 1389) (by decide +kernel) rfl
set_option maxRecDepth 100000 in
theorem pq1390 : Cond.code yX7_changes cX7_changes 8 (some .int) ∈ pw := pw_mem (i := 1390) (by rfl) rfl
set_option maxRecDepth 100000 in
theorem pq1391 : Cond.methodLink RX7 304 yX7_clearsMade ∈ pw := pw_mem (i := 1391) (by decide +kernel) rfl
set_option maxRecDepth 100000 in
theorem pq1393 : Cond.instanceMethod yX7_clearsMade ∈ pw := pw_mem (i := 1393) (by decide +kernel) rfl
set_option maxRecDepth 100000 in
theorem pq1394 : Cond.code yX7_clearsMade cX7_clearsMade 2 none ∈ pw := pw_mem (i := 1394) (by rfl) rfl
set_option maxRecDepth 100000 in
theorem pq1395 : Cond.methodLink RX7 307 yX7_around ∈ pw := pw_mem (i := 1395) (by decide +kernel) rfl
set_option maxRecDepth 100000 in
theorem pq1397 : Cond.instanceMethod yX7_around ∈ pw := pw_mem (i := 1397) (by decide +kernel) rfl
set_option maxRecDepth 100000 in
theorem pq1398 : Cond.code yX7_around cX7_around 4 (some .int) ∈ pw := pw_mem (i := 1398) (by rfl) rfl
set_option maxRecDepth 100000 in
theorem pq1399 : Cond.methodLink RX7 310 yX7_takesMade ∈ pw := pw_mem (i := 1399) (by decide +kernel) rfl
set_option maxRecDepth 100000 in
theorem pq1401 : Cond.instanceMethod yX7_takesMade ∈ pw := pw_mem (i := 1401) (by decide +kernel) rfl
set_option maxRecDepth 100000 in
theorem pq1402 : Cond.code yX7_takesMade cX7_takesMade 3 none ∈ pw := pw_mem (i := 1402) (by rfl) rfl
set_option maxRecDepth 100000 in
theorem pq1411 : Cond.constantLong RX7 317 (-99) ∈ pw := pw_mem (i := 1411) (by decide +kernel) rfl
set_option maxRecDepth 100000 in
theorem pq1412 : Cond.constantLong RX7 319 (99) ∈ pw := pw_mem (i := 1412) (by decide +kernel) rfl
set_option maxRecDepth 100000 in
theorem pq1413 : Cond.methodLink RX7 321 yX7_dotsOf ∈ pw := pw_mem (i := 1413) (by decide +kernel) rfl
set_option maxRecDepth 100000 in
theorem pq1415 : Cond.instanceMethod yX7_dotsOf ∈ pw := pw_mem (i := 1415) (by decide +kernel) rfl
set_option maxRecDepth 100000 in
theorem pq1416 : Cond.code yX7_dotsOf cX7_dotsOf 4 (some .int) ∈ pw := pw_mem (i := 1416) (by rfl) rfl
theorem rng_1 {B : Int} {b w : Int32} {v : Int} (hw : 1 ≤ w.toInt ∧ w.toInt ≤ 2) (hb : 0 ≤ b.toInt) (hv : -B ≤ v ∧ v ≤ B) : rng B (19 + 8 * b.toInt.toNat + w.toInt.toNat) v := by
  unfold rng; omega
theorem rng_3 {B : Int} {b w : Int32} {v : Int} (hw : 3 ≤ w.toInt ∧ w.toInt ≤ 5) (hb : 0 ≤ b.toInt) : rng B (19 + 8 * b.toInt.toNat + w.toInt.toNat) v := by
  unfold rng; omega
theorem rng_6 {B : Int} {b w : Int32} {v : Int} (hw : 6 ≤ w.toInt ∧ w.toInt ≤ 7) (hb : 0 ≤ b.toInt) (hv : -20 ≤ v ∧ v ≤ 20) : rng B (19 + 8 * b.toInt.toNat + w.toInt.toNat) v := by
  unfold rng; omega

set_option maxHeartbeats 4000000 in
set_option maxRecDepth 100000 in
theorem s_X7_sets (l : Launch) (dC : Nat → ClassId) (dI : Nat → Nat → Nat) (cs : Nat → ClassId) (L : List Nat) (K G : Nat → Nat) (Q : Nat → Nat → Option Nat) (hQ : Sv L K G Q) (x0 m0 : Nat) (tx : Int32) (tm : Int32 × Int) (sz : Nat) (I : Nat → Nat → Int32) (J : Nat → Nat → Int64) (hI : Iv L K x0 m0 tx tm I) (p0 : Nat) (hLp0 : p0 ∈ L) (hKp0 : K p0 = 7) (p1 : Int32) (bp1 : (0) ≤ p1.toInt ∧ p1.toInt ≤ 9) (p2 : Int32) (bp2 : (0) ≤ p2.toInt ∧ p2.toInt ≤ 7) (p3 : Int32) (hrg : rng tm.2 (19 + 8 * p1.toInt.toNat + p2.toInt.toNat) p3.toInt) : Met l yX7_sets (.code yX7_sets cX7_sets 4 none :: pw) ({ frames := 0, cells := 0, slots := 0, locals := 0 }) (sP (dC, dI) cs [.ref p0, .int p1, .int p2, .int p3] sz L K I J Q) (va_Qv (fun (_ : Unit) => True) (fun _ t => sB (dC, dI) cs L K Q (fun I1 => Iv L K x0 m0 tx tm I1 ∧ (∀ b, ¬ (K b = 18) → I1 b = I b) ∧ I1 ((Q p0 0).getD 0) = upd (I ((Q p0 0).getD 0)) (19 + 8 * p1.toInt.toNat + p2.toInt.toNat) p3) t) (fun q => q ∈ L ∨ sz ≤ q)) 0 0 (fun q => q ∈ L ∨ sz ≤ q) := by
  refine Met.ofW (cc := cX7_sets) (maxL := 4) (ret := none) (by decide +kernel) rfl ?_
  intro p e s m args below meth c s₁ B hml hv
  obtain ⟨rfl, hsz, hP, hK, hD0, hN⟩ := hv
  have hx := B.exec
  have hb := B.bytes
  have hr := B.returns
  have hts := fun w (h : w ∈ pw) => atoms_spec (ws := Cond.code yX7_sets cX7_sets 4 none :: pw) B.pre w (List.mem_cons_of_mem _ h)
  have hown : s.vm.findClass RX7 = some m.cls := findClass_of_methodNamed B.named
  have hlocks := B.notSynchronized
  subst hsz
  have hBB : 999 ≤ tm.2 ∧ tm.2 ≤ 6000000 := hI.2.2.2.2
  have fr_I : ∀ b, ¬ (K b = 18) → I b = I b := fun _ _ => rfl
  obtain ⟨A, hAe⟩ : ∃ A : Nat → Prop, A = (fun q => q ∈ L ∨ s.heap.size ≤ q) := ⟨_, rfl⟩
  rw [← hAe]
  have hAL : ∀ q, q ∈ L → A q := fun q h => by rw [hAe]; exact Or.inl h
  have hA : ∀ q, s.heap.size ≤ q → A q := fun q h => by rw [hAe]; exact Or.inr h
  have hD : ∀ F, va_D A (va_pl L F) := fun F => (hD0 F).weaken (fun k q hk _ => hAL _ (pl_mem hk))
  obtain ⟨H, hHe⟩ : ∃ H : Heap, H = s.heap := ⟨_, rfl⟩
  have hS : va_S A s.heap H [] := by rw [hHe]; exact va_S.rf
  rw [← hHe] at hP
  have hl := lv_entry ([.ref p0, .int p1, .int p2, .int p3]) (n := 4) (Nat.le_of_ble_eq_true rfl)
  rw [lg_entry_eq]
  generalize (lg_sl ([.ref p0, .int p1, .int p2, .int p3]) ++ List.replicate (4 - (lg_sl ([.ref p0, .int p1, .int p2, .int p3])).length) Slot.unset).toArray = ls at hl ⊢
  have hl : lv_has ls 4 [(0, .ref p0), (1, .int p1), (2, .int p2), (3, .int p3)] := hl
  rw [← hHe]
  refine namedW (fun R Qz hR hQz => ?_)
  refine lv_aload_n hx hb dX7_sets_0 rfl (lv_at hl 0 rfl) ?_
  obtain ⟨y1, ey1, hLy1, hKy1⟩ := oQ_7_0 (Sv_at hQ hLp0 hKp0)
  refine p_get (v := .ref y1) hx hb hts inX7 hown hK hP hLp0 hKp0 rfl rfl 0 (by decide) (hts _ pq1115) (congrArg (fun q => some (va_rf q)) ey1) dX7_sets_1 ?_
  refine lv_bipush (v := 19) hx hb dX7_sets_4 (by decide +kernel) ?_
  refine lv_bipush (v := 8) hx hb dX7_sets_6 (by decide +kernel) ?_
  refine lv_iload_n hx hb dX7_sets_8 rfl (lv_at hl 1 rfl) ?_
  refine lv_imul hx hb dX7_sets_9 ?_
  refine lv_topi (fun z9 ez9 => ?_)
  have bz9 := tq_mul (k := (8)) (q := p1.toInt) ez9 (by decide +kernel) rfl (by omega) (by omega)
  refine lv_iadd hx hb dX7_sets_10 ?_
  refine lv_topi (fun z10 ez10 => ?_)
  have bz10 := tq_add (k := (19)) (q := z9.toInt) ez10 (by decide +kernel) rfl (by omega) (by omega)
  refine lv_iload_n hx hb dX7_sets_11 rfl (lv_at hl 2 rfl) ?_
  refine lv_iadd hx hb dX7_sets_12 ?_
  refine lv_topi (fun z12 ez12 => ?_)
  have bz12 := tq_add (k := z10.toInt) (q := p2.toInt) ez12 rfl rfl (by omega) (by omega)
  refine lv_iload_n hx hb dX7_sets_13 rfl (lv_at hl 3 rfl) ?_
  refine p_iast hx hb hK hP hD hS 8 hLy1 hKy1 rfl (fun _ => rfl) rfl (in_of (by omega) (by omega)) dX7_sets_14 (fun H locs hP hS => ?_)
  have rg14p3 := fb_rng p3
  obtain ⟨Iz14, hP, hIz14, qIz14⟩ : ∃ Iz14, va_P (dC, dI) vwCl (Wd cs L K Iz14 J Q) H ∧ Iv L K x0 m0 tx tm Iz14 ∧ Iz14 = va_up I y1 (upd (I y1) z12.toNatClampNeg p3) := ⟨_, hP, Iv_put hI hKy1 (oU_18 (i := z12) (k := z12.toInt) rfl (Iv_at hI hLy1 hKy1) (by rw [show z12.toInt.toNat = 19 + 8 * p1.toInt.toNat + p2.toInt.toNat by omega]; exact hrg)) (Or.inl (by decide)) (Or.inl (by decide)), rfl⟩
  have fr_Iz14 : ∀ b, ¬ (K b = 18) → Iz14 b = I b := fun b q => (congrFun qIz14 b).trans ((va_up_ne _ _ (fun z => q (by rw [z]; have := hKy1; omega))).trans (fr_I b q))
  subst hR; subst hQz
  exact W.vret hx hb hr (fun t ht hW => ⟨⟨(), rfl, trivial, ⟨Iz14, J, ⟨hIz14, fr_Iz14, (by rw [qIz14, ey1]; show va_up I y1 _ y1 = upd (I y1) _ p3; rw [va_up_self, show z12.toNatClampNeg = 19 + 8 * p1.toInt.toNat + p2.toInt.toNat by show z12.toInt.toNat = _; omega])⟩, by rw [ht]; exact hP⟩⟩, hS.F ht⟩) hS.2.2 dX7_sets_15

set_option maxHeartbeats 4000000 in
set_option maxRecDepth 100000 in
theorem s_X7_movesA (l : Launch) (dC : Nat → ClassId) (dI : Nat → Nat → Nat) (cs : Nat → ClassId) (L : List Nat) (K G : Nat → Nat) (Q : Nat → Nat → Option Nat) (hQ : Sv L K G Q) (x0 m0 : Nat) (tx : Int32) (tm : Int32 × Int) (sz : Nat) (I : Nat → Nat → Int32) (J : Nat → Nat → Int64) (hI : Iv L K x0 m0 tx tm I) (p0 : Nat) (hLp0 : p0 ∈ L) (hKp0 : K p0 = 18) (p1 : Nat) (hLp1 : p1 ∈ L) (hKp1 : K p1 = 21) (p2 : Int32) (bp2 : (0) ≤ p2.toInt ∧ p2.toInt ≤ 0) (p3 : Nat) (hLp3 : p3 ∈ L) (hKp3 : K p3 = 30) (p4 : Nat) (hLp4 : p4 ∈ L) (hKp4 : K p4 = 21) (p5 : Int32) (bp5 : (0) ≤ p5.toInt ∧ p5.toInt ≤ 0) : Met l yX7_moves (.code yX7_moves cX7_moves 7 none :: pw) ({ frames := 0, cells := 0, slots := 0, locals := 0 }) (sP (dC, dI) cs [.ref p0, .ref p1, .int p2, .ref p3, .ref p4, .int p5] sz L K I J Q) (va_Qv (fun (_ : Unit) => True) (fun _ t => sB (dC, dI) cs L K Q (fun I1 => Iv L K x0 m0 tx tm I1 ∧ (∀ b, ¬ (b = p3) → I1 b = I b)) t) (fun q => q ∈ L ∨ sz ≤ q)) 0 0 (fun q => q ∈ L ∨ sz ≤ q) := by
  refine Met.ofW (cc := cX7_moves) (maxL := 7) (ret := none) (by decide +kernel) rfl ?_
  intro p e s m args below meth c s₁ B hml hv
  obtain ⟨rfl, hsz, hP, hK, hD0, hN⟩ := hv
  have hx := B.exec
  have hb := B.bytes
  have hr := B.returns
  have hts := fun w (h : w ∈ pw) => atoms_spec (ws := Cond.code yX7_moves cX7_moves 7 none :: pw) B.pre w (List.mem_cons_of_mem _ h)
  have hown : s.vm.findClass RX7 = some m.cls := findClass_of_methodNamed B.named
  have hlocks := B.notSynchronized
  subst hsz
  have hBB : 999 ≤ tm.2 ∧ tm.2 ≤ 6000000 := hI.2.2.2.2
  have fr_I : ∀ b, ¬ (b = p3) → I b = I b := fun _ _ => rfl
  obtain ⟨A, hAe⟩ : ∃ A : Nat → Prop, A = (fun q => q ∈ L ∨ s.heap.size ≤ q) := ⟨_, rfl⟩
  rw [← hAe]
  have hAL : ∀ q, q ∈ L → A q := fun q h => by rw [hAe]; exact Or.inl h
  have hA : ∀ q, s.heap.size ≤ q → A q := fun q h => by rw [hAe]; exact Or.inr h
  have hD : ∀ F, va_D A (va_pl L F) := fun F => (hD0 F).weaken (fun k q hk _ => hAL _ (pl_mem hk))
  obtain ⟨H, hHe⟩ : ∃ H : Heap, H = s.heap := ⟨_, rfl⟩
  have hS : va_S A s.heap H [] := by rw [hHe]; exact va_S.rf
  rw [← hHe] at hP
  have hl := lv_entry ([.ref p0, .ref p1, .int p2, .ref p3, .ref p4, .int p5]) (n := 7) (Nat.le_of_ble_eq_true rfl)
  rw [lg_entry_eq]
  generalize (lg_sl ([.ref p0, .ref p1, .int p2, .ref p3, .ref p4, .int p5]) ++ List.replicate (7 - (lg_sl ([.ref p0, .ref p1, .int p2, .ref p3, .ref p4, .int p5])).length) Slot.unset).toArray = ls at hl ⊢
  have hl : lv_has ls 7 [(0, .ref p0), (1, .ref p1), (2, .int p2), (3, .ref p3), (4, .ref p4), (5, .int p5)] := hl
  rw [← hHe]
  refine namedW (fun R Qz hR hQz => ?_)
  refine lv_iconst (v := 0) hx hb dX7_moves_0 (by decide +kernel) ?_
  refine lv_istore (lv' := [(6, .int 0), (0, .ref p0), (1, .ref p1), (2, .int p2), (3, .ref p3), (4, .ref p4), (5, .int p5)]) hx hb dX7_moves_1 hl (by decide) rfl (fun ls hl => ?_)
  have key3 := blocks (fun n => ∀ (v3_6 : Int32) (I3 : Nat → Nat → Int32) (H : Heap) (lo : List Loc) (ls : Array Slot), (100 - v3_6.toInt).toNat = n → ((0) ≤ v3_6.toInt ∧ v3_6.toInt ≤ 99) → Iv L K x0 m0 tx tm I3 → (∀ b, ¬ (b = p3) → I3 b = I b) → va_P (dC, dI) vwCl (Wd cs L K I3 J Q) H → va_S A s.heap H lo → lv_has ls 7 [(0, .ref p0), (1, .ref p1), (2, .int p2), (3, .ref p3), (4, .ref p4), (5, .int p5), (6, .int v3_6)] → W p l e R s m (([.ref p0, .ref p1, .int p2, .ref p3, .ref p4, .int p5] : List Value).toArray) below meth c H lo 0 0 Qz (F0 m 3 ls [])) (by
    intro n ih3
    intro v3_6 I3 H lo ls hmu3 bv3_6 hI3 fr_I3 hP hS hl
    refine lv_iload hx hb dX7_moves_3 (lv_at hl 6 rfl) ?_
    refine lv_bipush (v := 99) hx hb dX7_moves_5 (by decide +kernel) ?_
    refine lv_icmp_ge (tgt := 35) hx hb dX7_moves_7 (by decide) (fun c7 => ?_) (fun c7 => ?_)
    · have t7 := tq_le (k := (99)) (q := v3_6.toInt) c7 (by decide +kernel) rfl
      refine lv_iconst (v := 0) hx hb dX7_moves_35 (by decide +kernel) ?_
      refine lv_istore (lv' := [(6, .int 0), (0, .ref p0), (1, .ref p1), (2, .int p2), (3, .ref p3), (4, .ref p4), (5, .int p5)]) hx hb dX7_moves_36 hl (by decide) rfl (fun ls hl => ?_)
      have key38 := blocks (fun n => ∀ (v38_6 : Int32) (J38 : Nat → Nat → Int64) (H : Heap) (lo : List Loc) (ls : Array Slot), (1000 - v38_6.toInt).toNat = n → ((0) ≤ v38_6.toInt ∧ v38_6.toInt ≤ 999) → va_P (dC, dI) vwCl (Wd cs L K I3 J38 Q) H → va_S A s.heap H lo → lv_has ls 7 [(0, .ref p0), (1, .ref p1), (2, .int p2), (3, .ref p3), (4, .ref p4), (5, .int p5), (6, .int v38_6)] → W p l e R s m (([.ref p0, .ref p1, .int p2, .ref p3, .ref p4, .int p5] : List Value).toArray) below meth c H lo 0 0 Qz (F0 m 38 ls [])) (by
        intro n ih38
        intro v38_6 J38 H lo ls hmu38 bv38_6 hP hS hl
        refine lv_iload hx hb dX7_moves_38 (lv_at hl 6 rfl) ?_
        refine lv_sipush (v := 640) hx hb dX7_moves_40 (by decide +kernel) ?_
        refine lv_icmp_ge (tgt := 74) hx hb dX7_moves_43 (by decide) (fun c43 => ?_) (fun c43 => ?_)
        · have t43 := tq_le (k := (640)) (q := v38_6.toInt) c43 (by decide +kernel) rfl
          subst hR; subst hQz
          exact W.vret hx hb hr (fun t ht hW => ⟨⟨(), rfl, trivial, ⟨I3, J38, ⟨hI3, fr_I3⟩, by rw [ht]; exact hP⟩⟩, hS.F ht⟩) hS.2.2 dX7_moves_74
        · have t43 := tq_nle (k := (640)) (q := v38_6.toInt) c43 (by decide +kernel) rfl
          refine lv_aload hx hb dX7_moves_46 (lv_at hl 4 rfl) ?_
          refine lv_sipush (v := 640) hx hb dX7_moves_48 (by decide +kernel) ?_
          refine lv_iload hx hb dX7_moves_51 (lv_at hl 5 rfl) ?_
          refine lv_imul hx hb dX7_moves_53 ?_
          refine lv_topi (fun z53 ez53 => ?_)
          have bz53 := tq_mul (k := (640)) (q := p5.toInt) ez53 (by decide +kernel) rfl (by omega) (by omega)
          refine lv_iload hx hb dX7_moves_54 (lv_at hl 6 rfl) ?_
          refine lv_iadd hx hb dX7_moves_56 ?_
          refine lv_topi (fun z56 ez56 => ?_)
          have bz56 := tq_add (k := z53.toInt) (q := v38_6.toInt) ez56 rfl rfl (by omega) (by omega)
          refine lv_aload_n hx hb dX7_moves_57 rfl (lv_at hl 1 rfl) ?_
          refine lv_sipush (v := 640) hx hb dX7_moves_58 (by decide +kernel) ?_
          refine lv_iload_n hx hb dX7_moves_61 rfl (lv_at hl 2 rfl) ?_
          refine lv_imul hx hb dX7_moves_62 ?_
          refine lv_topi (fun z62 ez62 => ?_)
          have bz62 := tq_mul (k := (640)) (q := p2.toInt) ez62 (by decide +kernel) rfl (by omega) (by omega)
          refine lv_iload hx hb dX7_moves_63 (lv_at hl 6 rfl) ?_
          refine lv_iadd hx hb dX7_moves_65 ?_
          refine lv_topi (fun z65 ez65 => ?_)
          have bz65 := tq_add (k := z62.toInt) (q := v38_6.toInt) ez65 rfl rfl (by omega) (by omega)
          refine p_lald hx hb hK hP 11 hLp1 hKp1 rfl rfl (in_of (by omega) (by omega)) dX7_moves_66 ?_
          refine lv_topl (fun z66 ez66 => ?_)
          refine p_last hx hb hK hP hD hS 11 hLp4 hKp4 rfl (fun _ => rfl) rfl (in_of (by omega) (by omega)) dX7_moves_67 (fun H locs hP hS => ?_)
          obtain ⟨Jz67, hP⟩ : ∃ Jz67, va_P (dC, dI) vwCl (Wd cs L K I3 Jz67 Q) H := ⟨_, hP⟩
          obtain ⟨z68, ez68⟩ : ∃ y : Int32, y = v38_6 + 1 := ⟨_, rfl⟩
          refine lv_iinc (v := z68) (lv' := [(6, .int z68), (0, .ref p0), (1, .ref p1), (2, .int p2), (3, .ref p3), (4, .ref p4), (5, .int p5)]) hx hb dX7_moves_68 hl (k := 6) rfl (by rw [ez68]; rfl) (by decide) rfl (fun ls hl => ?_)
          have bz68 := tq_add (k := v38_6.toInt) (q := 1) ez68 rfl (by decide +kernel) (by omega) (by omega)
          refine lv_goto (tgt := 38) hx hb dX7_moves_71 (by decide) ?_
          exact ih38 _ (by omega) z68 Jz67 _ _ _ rfl ⟨by omega, by omega⟩ hP hS (lv_sub hl [1, 2, 3, 4, 5, 6, 0] rfl))
      exact key38 _ 0 J _ _ _ rfl ⟨by decide +kernel, by decide +kernel⟩ hP hS (lv_sub hl [1, 2, 3, 4, 5, 6, 0] rfl)
    · have t7 := tq_nle (k := (99)) (q := v3_6.toInt) c7 (by decide +kernel) rfl
      refine lv_aload_n hx hb dX7_moves_10 rfl (lv_at hl 3 rfl) ?_
      refine lv_bipush (v := 99) hx hb dX7_moves_11 (by decide +kernel) ?_
      refine lv_iload hx hb dX7_moves_13 (lv_at hl 5 rfl) ?_
      refine lv_imul hx hb dX7_moves_15 ?_
      refine lv_topi (fun z15 ez15 => ?_)
      have bz15 := tq_mul (k := (99)) (q := p5.toInt) ez15 (by decide +kernel) rfl (by omega) (by omega)
      refine lv_iload hx hb dX7_moves_16 (lv_at hl 6 rfl) ?_
      refine lv_iadd hx hb dX7_moves_18 ?_
      refine lv_topi (fun z18 ez18 => ?_)
      have bz18 := tq_add (k := z15.toInt) (q := v3_6.toInt) ez18 rfl rfl (by omega) (by omega)
      refine lv_aload_n hx hb dX7_moves_19 rfl (lv_at hl 0 rfl) ?_
      refine lv_bipush (v := 99) hx hb dX7_moves_20 (by decide +kernel) ?_
      refine lv_iload_n hx hb dX7_moves_22 rfl (lv_at hl 2 rfl) ?_
      refine lv_imul hx hb dX7_moves_23 ?_
      refine lv_topi (fun z23 ez23 => ?_)
      have bz23 := tq_mul (k := (99)) (q := p2.toInt) ez23 (by decide +kernel) rfl (by omega) (by omega)
      refine lv_iload hx hb dX7_moves_24 (lv_at hl 6 rfl) ?_
      refine lv_iadd hx hb dX7_moves_26 ?_
      refine lv_topi (fun z26 ez26 => ?_)
      have bz26 := tq_add (k := z23.toInt) (q := v3_6.toInt) ez26 rfl rfl (by omega) (by omega)
      refine p_iald hx hb hK hP 8 hLp0 hKp0 rfl rfl (in_of (by omega) (by omega)) dX7_moves_27 ?_
      refine lv_topi (fun z27 ez27 => ?_)
      have bz27 := oR_18 (i := z26) (k := z26.toInt) rfl (Iv_at hI3 hLp0 hKp0)
      rw [← ez27] at bz27
      unfold rng at bz27
      refine p_iast hx hb hK hP hD hS 20 hLp3 hKp3 rfl (fun _ => rfl) rfl (in_of (by omega) (by omega)) dX7_moves_28 (fun H locs hP hS => ?_)
      have rg28z27 := fb_rng z27
      obtain ⟨Iz28, hP, hIz28, qIz28⟩ : ∃ Iz28, va_P (dC, dI) vwCl (Wd cs L K Iz28 J Q) H ∧ Iv L K x0 m0 tx tm Iz28 ∧ Iz28 = va_up I3 p3 (upd (I3 p3) z18.toNatClampNeg z27) := ⟨_, hP, Iv_put hI3 hKp3 (oU_30 (i := z18) (k := z18.toInt) rfl (Iv_at hI3 hLp3 hKp3) (by unfold rng; rw [show z18.toInt.toNat = z26.toInt.toNat by omega]; exact bz27)) (Or.inl (by decide)) (Or.inl (by decide)), rfl⟩
      have fr_Iz28 : ∀ b, ¬ (b = p3) → Iz28 b = I b := fun b q => (congrFun qIz28 b).trans ((va_up_ne _ _ (fun z => q z)).trans (fr_I3 b q))
      obtain ⟨z29, ez29⟩ : ∃ y : Int32, y = v3_6 + 1 := ⟨_, rfl⟩
      refine lv_iinc (v := z29) (lv' := [(6, .int z29), (0, .ref p0), (1, .ref p1), (2, .int p2), (3, .ref p3), (4, .ref p4), (5, .int p5)]) hx hb dX7_moves_29 hl (k := 6) rfl (by rw [ez29]; rfl) (by decide) rfl (fun ls hl => ?_)
      have bz29 := tq_add (k := v3_6.toInt) (q := 1) ez29 rfl (by decide +kernel) (by omega) (by omega)
      refine lv_goto (tgt := 3) hx hb dX7_moves_32 (by decide) ?_
      exact ih3 _ (by omega) z29 Iz28 _ _ _ rfl ⟨by omega, by omega⟩ hIz28 fr_Iz28 hP hS (lv_sub hl [1, 2, 3, 4, 5, 6, 0] rfl))
  exact key3 _ 0 I _ _ _ rfl ⟨by decide +kernel, by decide +kernel⟩ hI fr_I hP hS (lv_sub hl [1, 2, 3, 4, 5, 6, 0] rfl)

set_option maxHeartbeats 4000000 in
set_option maxRecDepth 100000 in
theorem s_X7_movesP (l : Launch) (dC : Nat → ClassId) (dI : Nat → Nat → Nat) (cs : Nat → ClassId) (L : List Nat) (K G : Nat → Nat) (Q : Nat → Nat → Option Nat) (hQ : Sv L K G Q) (x0 m0 : Nat) (tx : Int32) (tm : Int32 × Int) (sz : Nat) (I : Nat → Nat → Int32) (J : Nat → Nat → Int64) (hI : Iv L K x0 m0 tx tm I) (p0 : Nat) (hLp0 : p0 ∈ L) (hKp0 : K p0 = 30) (p1 : Nat) (hLp1 : p1 ∈ L) (hKp1 : K p1 = 21) (p2 : Int32) (bp2 : (0) ≤ p2.toInt ∧ p2.toInt ≤ 0) (p3 : Nat) (hLp3 : p3 ∈ L) (hKp3 : K p3 = 19) (p4 : Nat) (hLp4 : p4 ∈ L) (hKp4 : K p4 = 22) (p5 : Int32) (bp5 : (0) ≤ p5.toInt ∧ p5.toInt ≤ 9) : Met l yX7_moves (.code yX7_moves cX7_moves 7 none :: pw) ({ frames := 0, cells := 0, slots := 0, locals := 0 }) (sP (dC, dI) cs [.ref p0, .ref p1, .int p2, .ref p3, .ref p4, .int p5] sz L K I J Q) (va_Qv (fun (_ : Unit) => True) (fun _ t => sB (dC, dI) cs L K Q (fun I1 => Iv L K x0 m0 tx tm I1 ∧ (∀ b, ¬ (b = p3) → I1 b = I b)) t) (fun q => q ∈ L ∨ sz ≤ q)) 0 0 (fun q => q ∈ L ∨ sz ≤ q) := by
  refine Met.ofW (cc := cX7_moves) (maxL := 7) (ret := none) (by decide +kernel) rfl ?_
  intro p e s m args below meth c s₁ B hml hv
  obtain ⟨rfl, hsz, hP, hK, hD0, hN⟩ := hv
  have hx := B.exec
  have hb := B.bytes
  have hr := B.returns
  have hts := fun w (h : w ∈ pw) => atoms_spec (ws := Cond.code yX7_moves cX7_moves 7 none :: pw) B.pre w (List.mem_cons_of_mem _ h)
  have hown : s.vm.findClass RX7 = some m.cls := findClass_of_methodNamed B.named
  have hlocks := B.notSynchronized
  subst hsz
  have hBB : 999 ≤ tm.2 ∧ tm.2 ≤ 6000000 := hI.2.2.2.2
  have fr_I : ∀ b, ¬ (b = p3) → I b = I b := fun _ _ => rfl
  obtain ⟨A, hAe⟩ : ∃ A : Nat → Prop, A = (fun q => q ∈ L ∨ s.heap.size ≤ q) := ⟨_, rfl⟩
  rw [← hAe]
  have hAL : ∀ q, q ∈ L → A q := fun q h => by rw [hAe]; exact Or.inl h
  have hA : ∀ q, s.heap.size ≤ q → A q := fun q h => by rw [hAe]; exact Or.inr h
  have hD : ∀ F, va_D A (va_pl L F) := fun F => (hD0 F).weaken (fun k q hk _ => hAL _ (pl_mem hk))
  obtain ⟨H, hHe⟩ : ∃ H : Heap, H = s.heap := ⟨_, rfl⟩
  have hS : va_S A s.heap H [] := by rw [hHe]; exact va_S.rf
  rw [← hHe] at hP
  have hl := lv_entry ([.ref p0, .ref p1, .int p2, .ref p3, .ref p4, .int p5]) (n := 7) (Nat.le_of_ble_eq_true rfl)
  rw [lg_entry_eq]
  generalize (lg_sl ([.ref p0, .ref p1, .int p2, .ref p3, .ref p4, .int p5]) ++ List.replicate (7 - (lg_sl ([.ref p0, .ref p1, .int p2, .ref p3, .ref p4, .int p5])).length) Slot.unset).toArray = ls at hl ⊢
  have hl : lv_has ls 7 [(0, .ref p0), (1, .ref p1), (2, .int p2), (3, .ref p3), (4, .ref p4), (5, .int p5)] := hl
  rw [← hHe]
  refine namedW (fun R Qz hR hQz => ?_)
  refine lv_iconst (v := 0) hx hb dX7_moves_0 (by decide +kernel) ?_
  refine lv_istore (lv' := [(6, .int 0), (0, .ref p0), (1, .ref p1), (2, .int p2), (3, .ref p3), (4, .ref p4), (5, .int p5)]) hx hb dX7_moves_1 hl (by decide) rfl (fun ls hl => ?_)
  have key3 := blocks (fun n => ∀ (v3_6 : Int32) (I3 : Nat → Nat → Int32) (H : Heap) (lo : List Loc) (ls : Array Slot), (100 - v3_6.toInt).toNat = n → ((0) ≤ v3_6.toInt ∧ v3_6.toInt ≤ 99) → Iv L K x0 m0 tx tm I3 → (∀ b, ¬ (b = p3) → I3 b = I b) → va_P (dC, dI) vwCl (Wd cs L K I3 J Q) H → va_S A s.heap H lo → lv_has ls 7 [(0, .ref p0), (1, .ref p1), (2, .int p2), (3, .ref p3), (4, .ref p4), (5, .int p5), (6, .int v3_6)] → W p l e R s m (([.ref p0, .ref p1, .int p2, .ref p3, .ref p4, .int p5] : List Value).toArray) below meth c H lo 0 0 Qz (F0 m 3 ls [])) (by
    intro n ih3
    intro v3_6 I3 H lo ls hmu3 bv3_6 hI3 fr_I3 hP hS hl
    refine lv_iload hx hb dX7_moves_3 (lv_at hl 6 rfl) ?_
    refine lv_bipush (v := 99) hx hb dX7_moves_5 (by decide +kernel) ?_
    refine lv_icmp_ge (tgt := 35) hx hb dX7_moves_7 (by decide) (fun c7 => ?_) (fun c7 => ?_)
    · have t7 := tq_le (k := (99)) (q := v3_6.toInt) c7 (by decide +kernel) rfl
      refine lv_iconst (v := 0) hx hb dX7_moves_35 (by decide +kernel) ?_
      refine lv_istore (lv' := [(6, .int 0), (0, .ref p0), (1, .ref p1), (2, .int p2), (3, .ref p3), (4, .ref p4), (5, .int p5)]) hx hb dX7_moves_36 hl (by decide) rfl (fun ls hl => ?_)
      have key38 := blocks (fun n => ∀ (v38_6 : Int32) (J38 : Nat → Nat → Int64) (H : Heap) (lo : List Loc) (ls : Array Slot), (1000 - v38_6.toInt).toNat = n → ((0) ≤ v38_6.toInt ∧ v38_6.toInt ≤ 999) → va_P (dC, dI) vwCl (Wd cs L K I3 J38 Q) H → va_S A s.heap H lo → lv_has ls 7 [(0, .ref p0), (1, .ref p1), (2, .int p2), (3, .ref p3), (4, .ref p4), (5, .int p5), (6, .int v38_6)] → W p l e R s m (([.ref p0, .ref p1, .int p2, .ref p3, .ref p4, .int p5] : List Value).toArray) below meth c H lo 0 0 Qz (F0 m 38 ls [])) (by
        intro n ih38
        intro v38_6 J38 H lo ls hmu38 bv38_6 hP hS hl
        refine lv_iload hx hb dX7_moves_38 (lv_at hl 6 rfl) ?_
        refine lv_sipush (v := 640) hx hb dX7_moves_40 (by decide +kernel) ?_
        refine lv_icmp_ge (tgt := 74) hx hb dX7_moves_43 (by decide) (fun c43 => ?_) (fun c43 => ?_)
        · have t43 := tq_le (k := (640)) (q := v38_6.toInt) c43 (by decide +kernel) rfl
          subst hR; subst hQz
          exact W.vret hx hb hr (fun t ht hW => ⟨⟨(), rfl, trivial, ⟨I3, J38, ⟨hI3, fr_I3⟩, by rw [ht]; exact hP⟩⟩, hS.F ht⟩) hS.2.2 dX7_moves_74
        · have t43 := tq_nle (k := (640)) (q := v38_6.toInt) c43 (by decide +kernel) rfl
          refine lv_aload hx hb dX7_moves_46 (lv_at hl 4 rfl) ?_
          refine lv_sipush (v := 640) hx hb dX7_moves_48 (by decide +kernel) ?_
          refine lv_iload hx hb dX7_moves_51 (lv_at hl 5 rfl) ?_
          refine lv_imul hx hb dX7_moves_53 ?_
          refine lv_topi (fun z53 ez53 => ?_)
          have bz53 := tq_mul (k := (640)) (q := p5.toInt) ez53 (by decide +kernel) rfl (by omega) (by omega)
          refine lv_iload hx hb dX7_moves_54 (lv_at hl 6 rfl) ?_
          refine lv_iadd hx hb dX7_moves_56 ?_
          refine lv_topi (fun z56 ez56 => ?_)
          have bz56 := tq_add (k := z53.toInt) (q := v38_6.toInt) ez56 rfl rfl (by omega) (by omega)
          refine lv_aload_n hx hb dX7_moves_57 rfl (lv_at hl 1 rfl) ?_
          refine lv_sipush (v := 640) hx hb dX7_moves_58 (by decide +kernel) ?_
          refine lv_iload_n hx hb dX7_moves_61 rfl (lv_at hl 2 rfl) ?_
          refine lv_imul hx hb dX7_moves_62 ?_
          refine lv_topi (fun z62 ez62 => ?_)
          have bz62 := tq_mul (k := (640)) (q := p2.toInt) ez62 (by decide +kernel) rfl (by omega) (by omega)
          refine lv_iload hx hb dX7_moves_63 (lv_at hl 6 rfl) ?_
          refine lv_iadd hx hb dX7_moves_65 ?_
          refine lv_topi (fun z65 ez65 => ?_)
          have bz65 := tq_add (k := z62.toInt) (q := v38_6.toInt) ez65 rfl rfl (by omega) (by omega)
          refine p_lald hx hb hK hP 11 hLp1 hKp1 rfl rfl (in_of (by omega) (by omega)) dX7_moves_66 ?_
          refine lv_topl (fun z66 ez66 => ?_)
          refine p_last hx hb hK hP hD hS 12 hLp4 hKp4 rfl (fun _ => rfl) rfl (in_of (by omega) (by omega)) dX7_moves_67 (fun H locs hP hS => ?_)
          obtain ⟨Jz67, hP⟩ : ∃ Jz67, va_P (dC, dI) vwCl (Wd cs L K I3 Jz67 Q) H := ⟨_, hP⟩
          obtain ⟨z68, ez68⟩ : ∃ y : Int32, y = v38_6 + 1 := ⟨_, rfl⟩
          refine lv_iinc (v := z68) (lv' := [(6, .int z68), (0, .ref p0), (1, .ref p1), (2, .int p2), (3, .ref p3), (4, .ref p4), (5, .int p5)]) hx hb dX7_moves_68 hl (k := 6) rfl (by rw [ez68]; rfl) (by decide) rfl (fun ls hl => ?_)
          have bz68 := tq_add (k := v38_6.toInt) (q := 1) ez68 rfl (by decide +kernel) (by omega) (by omega)
          refine lv_goto (tgt := 38) hx hb dX7_moves_71 (by decide) ?_
          exact ih38 _ (by omega) z68 Jz67 _ _ _ rfl ⟨by omega, by omega⟩ hP hS (lv_sub hl [1, 2, 3, 4, 5, 6, 0] rfl))
      exact key38 _ 0 J _ _ _ rfl ⟨by decide +kernel, by decide +kernel⟩ hP hS (lv_sub hl [1, 2, 3, 4, 5, 6, 0] rfl)
    · have t7 := tq_nle (k := (99)) (q := v3_6.toInt) c7 (by decide +kernel) rfl
      refine lv_aload_n hx hb dX7_moves_10 rfl (lv_at hl 3 rfl) ?_
      refine lv_bipush (v := 99) hx hb dX7_moves_11 (by decide +kernel) ?_
      refine lv_iload hx hb dX7_moves_13 (lv_at hl 5 rfl) ?_
      refine lv_imul hx hb dX7_moves_15 ?_
      refine lv_topi (fun z15 ez15 => ?_)
      have bz15 := tq_mul (k := (99)) (q := p5.toInt) ez15 (by decide +kernel) rfl (by omega) (by omega)
      refine lv_iload hx hb dX7_moves_16 (lv_at hl 6 rfl) ?_
      refine lv_iadd hx hb dX7_moves_18 ?_
      refine lv_topi (fun z18 ez18 => ?_)
      have bz18 := tq_add (k := z15.toInt) (q := v3_6.toInt) ez18 rfl rfl (by omega) (by omega)
      refine lv_aload_n hx hb dX7_moves_19 rfl (lv_at hl 0 rfl) ?_
      refine lv_bipush (v := 99) hx hb dX7_moves_20 (by decide +kernel) ?_
      refine lv_iload_n hx hb dX7_moves_22 rfl (lv_at hl 2 rfl) ?_
      refine lv_imul hx hb dX7_moves_23 ?_
      refine lv_topi (fun z23 ez23 => ?_)
      have bz23 := tq_mul (k := (99)) (q := p2.toInt) ez23 (by decide +kernel) rfl (by omega) (by omega)
      refine lv_iload hx hb dX7_moves_24 (lv_at hl 6 rfl) ?_
      refine lv_iadd hx hb dX7_moves_26 ?_
      refine lv_topi (fun z26 ez26 => ?_)
      have bz26 := tq_add (k := z23.toInt) (q := v3_6.toInt) ez26 rfl rfl (by omega) (by omega)
      refine p_iald hx hb hK hP 20 hLp0 hKp0 rfl rfl (in_of (by omega) (by omega)) dX7_moves_27 ?_
      refine lv_topi (fun z27 ez27 => ?_)
      have bz27 := oR_30 (i := z26) (k := z26.toInt) rfl (Iv_at hI3 hLp0 hKp0)
      rw [← ez27] at bz27
      unfold rng at bz27
      refine p_iast hx hb hK hP hD hS 9 hLp3 hKp3 rfl (fun _ => rfl) rfl (in_of (by omega) (by omega)) dX7_moves_28 (fun H locs hP hS => ?_)
      have rg28z27 := fb_rng z27
      obtain ⟨Iz28, hP, hIz28, qIz28⟩ : ∃ Iz28, va_P (dC, dI) vwCl (Wd cs L K Iz28 J Q) H ∧ Iv L K x0 m0 tx tm Iz28 ∧ Iz28 = va_up I3 p3 (upd (I3 p3) z18.toNatClampNeg z27) := ⟨_, hP, Iv_put hI3 hKp3 (oU_19 (i := z18) (k := z18.toInt) rfl (Iv_at hI3 hLp3 hKp3) (by unfold rng; rw [show z18.toInt.toNat % 99 = z26.toInt.toNat by omega]; exact bz27)) (Or.inl (by decide)) (Or.inl (by decide)), rfl⟩
      have fr_Iz28 : ∀ b, ¬ (b = p3) → Iz28 b = I b := fun b q => (congrFun qIz28 b).trans ((va_up_ne _ _ (fun z => q z)).trans (fr_I3 b q))
      obtain ⟨z29, ez29⟩ : ∃ y : Int32, y = v3_6 + 1 := ⟨_, rfl⟩
      refine lv_iinc (v := z29) (lv' := [(6, .int z29), (0, .ref p0), (1, .ref p1), (2, .int p2), (3, .ref p3), (4, .ref p4), (5, .int p5)]) hx hb dX7_moves_29 hl (k := 6) rfl (by rw [ez29]; rfl) (by decide) rfl (fun ls hl => ?_)
      have bz29 := tq_add (k := v3_6.toInt) (q := 1) ez29 rfl (by decide +kernel) (by omega) (by omega)
      refine lv_goto (tgt := 3) hx hb dX7_moves_32 (by decide) ?_
      exact ih3 _ (by omega) z29 Iz28 _ _ _ rfl ⟨by omega, by omega⟩ hIz28 fr_Iz28 hP hS (lv_sub hl [1, 2, 3, 4, 5, 6, 0] rfl))
  exact key3 _ 0 I _ _ _ rfl ⟨by decide +kernel, by decide +kernel⟩ hI fr_I hP hS (lv_sub hl [1, 2, 3, 4, 5, 6, 0] rfl)

set_option maxHeartbeats 4000000 in
set_option maxRecDepth 100000 in
theorem s_X7_movesQ (l : Launch) (dC : Nat → ClassId) (dI : Nat → Nat → Nat) (cs : Nat → ClassId) (L : List Nat) (K G : Nat → Nat) (Q : Nat → Nat → Option Nat) (hQ : Sv L K G Q) (x0 m0 : Nat) (tx : Int32) (tm : Int32 × Int) (sz : Nat) (I : Nat → Nat → Int32) (J : Nat → Nat → Int64) (hI : Iv L K x0 m0 tx tm I) (p0 : Nat) (hLp0 : p0 ∈ L) (hKp0 : K p0 = 19) (p1 : Nat) (hLp1 : p1 ∈ L) (hKp1 : K p1 = 22) (p2 : Int32) (bp2 : (1) ≤ p2.toInt ∧ p2.toInt ≤ 9) (p3 : Nat) (hLp3 : p3 ∈ L) (hKp3 : K p3 = 19) (p4 : Nat) (hLp4 : p4 ∈ L) (hKp4 : K p4 = 22) (p5 : Int32) (bp5 : (0) ≤ p5.toInt ∧ p5.toInt ≤ 8) : Met l yX7_moves (.code yX7_moves cX7_moves 7 none :: pw) ({ frames := 0, cells := 0, slots := 0, locals := 0 }) (sP (dC, dI) cs [.ref p0, .ref p1, .int p2, .ref p3, .ref p4, .int p5] sz L K I J Q) (va_Qv (fun (_ : Unit) => True) (fun _ t => sB (dC, dI) cs L K Q (fun I1 => Iv L K x0 m0 tx tm I1 ∧ (∀ b, ¬ (b = p3) → I1 b = I b)) t) (fun q => q ∈ L ∨ sz ≤ q)) 0 0 (fun q => q ∈ L ∨ sz ≤ q) := by
  refine Met.ofW (cc := cX7_moves) (maxL := 7) (ret := none) (by decide +kernel) rfl ?_
  intro p e s m args below meth c s₁ B hml hv
  obtain ⟨rfl, hsz, hP, hK, hD0, hN⟩ := hv
  have hx := B.exec
  have hb := B.bytes
  have hr := B.returns
  have hts := fun w (h : w ∈ pw) => atoms_spec (ws := Cond.code yX7_moves cX7_moves 7 none :: pw) B.pre w (List.mem_cons_of_mem _ h)
  have hown : s.vm.findClass RX7 = some m.cls := findClass_of_methodNamed B.named
  have hlocks := B.notSynchronized
  subst hsz
  have hBB : 999 ≤ tm.2 ∧ tm.2 ≤ 6000000 := hI.2.2.2.2
  have fr_I : ∀ b, ¬ (b = p3) → I b = I b := fun _ _ => rfl
  obtain ⟨A, hAe⟩ : ∃ A : Nat → Prop, A = (fun q => q ∈ L ∨ s.heap.size ≤ q) := ⟨_, rfl⟩
  rw [← hAe]
  have hAL : ∀ q, q ∈ L → A q := fun q h => by rw [hAe]; exact Or.inl h
  have hA : ∀ q, s.heap.size ≤ q → A q := fun q h => by rw [hAe]; exact Or.inr h
  have hD : ∀ F, va_D A (va_pl L F) := fun F => (hD0 F).weaken (fun k q hk _ => hAL _ (pl_mem hk))
  obtain ⟨H, hHe⟩ : ∃ H : Heap, H = s.heap := ⟨_, rfl⟩
  have hS : va_S A s.heap H [] := by rw [hHe]; exact va_S.rf
  rw [← hHe] at hP
  have hl := lv_entry ([.ref p0, .ref p1, .int p2, .ref p3, .ref p4, .int p5]) (n := 7) (Nat.le_of_ble_eq_true rfl)
  rw [lg_entry_eq]
  generalize (lg_sl ([.ref p0, .ref p1, .int p2, .ref p3, .ref p4, .int p5]) ++ List.replicate (7 - (lg_sl ([.ref p0, .ref p1, .int p2, .ref p3, .ref p4, .int p5])).length) Slot.unset).toArray = ls at hl ⊢
  have hl : lv_has ls 7 [(0, .ref p0), (1, .ref p1), (2, .int p2), (3, .ref p3), (4, .ref p4), (5, .int p5)] := hl
  rw [← hHe]
  refine namedW (fun R Qz hR hQz => ?_)
  refine lv_iconst (v := 0) hx hb dX7_moves_0 (by decide +kernel) ?_
  refine lv_istore (lv' := [(6, .int 0), (0, .ref p0), (1, .ref p1), (2, .int p2), (3, .ref p3), (4, .ref p4), (5, .int p5)]) hx hb dX7_moves_1 hl (by decide) rfl (fun ls hl => ?_)
  have key3 := blocks (fun n => ∀ (v3_6 : Int32) (I3 : Nat → Nat → Int32) (H : Heap) (lo : List Loc) (ls : Array Slot), (100 - v3_6.toInt).toNat = n → ((0) ≤ v3_6.toInt ∧ v3_6.toInt ≤ 99) → Iv L K x0 m0 tx tm I3 → (∀ b, ¬ (b = p3) → I3 b = I b) → va_P (dC, dI) vwCl (Wd cs L K I3 J Q) H → va_S A s.heap H lo → lv_has ls 7 [(0, .ref p0), (1, .ref p1), (2, .int p2), (3, .ref p3), (4, .ref p4), (5, .int p5), (6, .int v3_6)] → W p l e R s m (([.ref p0, .ref p1, .int p2, .ref p3, .ref p4, .int p5] : List Value).toArray) below meth c H lo 0 0 Qz (F0 m 3 ls [])) (by
    intro n ih3
    intro v3_6 I3 H lo ls hmu3 bv3_6 hI3 fr_I3 hP hS hl
    refine lv_iload hx hb dX7_moves_3 (lv_at hl 6 rfl) ?_
    refine lv_bipush (v := 99) hx hb dX7_moves_5 (by decide +kernel) ?_
    refine lv_icmp_ge (tgt := 35) hx hb dX7_moves_7 (by decide) (fun c7 => ?_) (fun c7 => ?_)
    · have t7 := tq_le (k := (99)) (q := v3_6.toInt) c7 (by decide +kernel) rfl
      refine lv_iconst (v := 0) hx hb dX7_moves_35 (by decide +kernel) ?_
      refine lv_istore (lv' := [(6, .int 0), (0, .ref p0), (1, .ref p1), (2, .int p2), (3, .ref p3), (4, .ref p4), (5, .int p5)]) hx hb dX7_moves_36 hl (by decide) rfl (fun ls hl => ?_)
      have key38 := blocks (fun n => ∀ (v38_6 : Int32) (J38 : Nat → Nat → Int64) (H : Heap) (lo : List Loc) (ls : Array Slot), (1000 - v38_6.toInt).toNat = n → ((0) ≤ v38_6.toInt ∧ v38_6.toInt ≤ 999) → va_P (dC, dI) vwCl (Wd cs L K I3 J38 Q) H → va_S A s.heap H lo → lv_has ls 7 [(0, .ref p0), (1, .ref p1), (2, .int p2), (3, .ref p3), (4, .ref p4), (5, .int p5), (6, .int v38_6)] → W p l e R s m (([.ref p0, .ref p1, .int p2, .ref p3, .ref p4, .int p5] : List Value).toArray) below meth c H lo 0 0 Qz (F0 m 38 ls [])) (by
        intro n ih38
        intro v38_6 J38 H lo ls hmu38 bv38_6 hP hS hl
        refine lv_iload hx hb dX7_moves_38 (lv_at hl 6 rfl) ?_
        refine lv_sipush (v := 640) hx hb dX7_moves_40 (by decide +kernel) ?_
        refine lv_icmp_ge (tgt := 74) hx hb dX7_moves_43 (by decide) (fun c43 => ?_) (fun c43 => ?_)
        · have t43 := tq_le (k := (640)) (q := v38_6.toInt) c43 (by decide +kernel) rfl
          subst hR; subst hQz
          exact W.vret hx hb hr (fun t ht hW => ⟨⟨(), rfl, trivial, ⟨I3, J38, ⟨hI3, fr_I3⟩, by rw [ht]; exact hP⟩⟩, hS.F ht⟩) hS.2.2 dX7_moves_74
        · have t43 := tq_nle (k := (640)) (q := v38_6.toInt) c43 (by decide +kernel) rfl
          refine lv_aload hx hb dX7_moves_46 (lv_at hl 4 rfl) ?_
          refine lv_sipush (v := 640) hx hb dX7_moves_48 (by decide +kernel) ?_
          refine lv_iload hx hb dX7_moves_51 (lv_at hl 5 rfl) ?_
          refine lv_imul hx hb dX7_moves_53 ?_
          refine lv_topi (fun z53 ez53 => ?_)
          have bz53 := tq_mul (k := (640)) (q := p5.toInt) ez53 (by decide +kernel) rfl (by omega) (by omega)
          refine lv_iload hx hb dX7_moves_54 (lv_at hl 6 rfl) ?_
          refine lv_iadd hx hb dX7_moves_56 ?_
          refine lv_topi (fun z56 ez56 => ?_)
          have bz56 := tq_add (k := z53.toInt) (q := v38_6.toInt) ez56 rfl rfl (by omega) (by omega)
          refine lv_aload_n hx hb dX7_moves_57 rfl (lv_at hl 1 rfl) ?_
          refine lv_sipush (v := 640) hx hb dX7_moves_58 (by decide +kernel) ?_
          refine lv_iload_n hx hb dX7_moves_61 rfl (lv_at hl 2 rfl) ?_
          refine lv_imul hx hb dX7_moves_62 ?_
          refine lv_topi (fun z62 ez62 => ?_)
          have bz62 := tq_mul (k := (640)) (q := p2.toInt) ez62 (by decide +kernel) rfl (by omega) (by omega)
          refine lv_iload hx hb dX7_moves_63 (lv_at hl 6 rfl) ?_
          refine lv_iadd hx hb dX7_moves_65 ?_
          refine lv_topi (fun z65 ez65 => ?_)
          have bz65 := tq_add (k := z62.toInt) (q := v38_6.toInt) ez65 rfl rfl (by omega) (by omega)
          refine p_lald hx hb hK hP 12 hLp1 hKp1 rfl rfl (in_of (by omega) (by omega)) dX7_moves_66 ?_
          refine lv_topl (fun z66 ez66 => ?_)
          refine p_last hx hb hK hP hD hS 12 hLp4 hKp4 rfl (fun _ => rfl) rfl (in_of (by omega) (by omega)) dX7_moves_67 (fun H locs hP hS => ?_)
          obtain ⟨Jz67, hP⟩ : ∃ Jz67, va_P (dC, dI) vwCl (Wd cs L K I3 Jz67 Q) H := ⟨_, hP⟩
          obtain ⟨z68, ez68⟩ : ∃ y : Int32, y = v38_6 + 1 := ⟨_, rfl⟩
          refine lv_iinc (v := z68) (lv' := [(6, .int z68), (0, .ref p0), (1, .ref p1), (2, .int p2), (3, .ref p3), (4, .ref p4), (5, .int p5)]) hx hb dX7_moves_68 hl (k := 6) rfl (by rw [ez68]; rfl) (by decide) rfl (fun ls hl => ?_)
          have bz68 := tq_add (k := v38_6.toInt) (q := 1) ez68 rfl (by decide +kernel) (by omega) (by omega)
          refine lv_goto (tgt := 38) hx hb dX7_moves_71 (by decide) ?_
          exact ih38 _ (by omega) z68 Jz67 _ _ _ rfl ⟨by omega, by omega⟩ hP hS (lv_sub hl [1, 2, 3, 4, 5, 6, 0] rfl))
      exact key38 _ 0 J _ _ _ rfl ⟨by decide +kernel, by decide +kernel⟩ hP hS (lv_sub hl [1, 2, 3, 4, 5, 6, 0] rfl)
    · have t7 := tq_nle (k := (99)) (q := v3_6.toInt) c7 (by decide +kernel) rfl
      refine lv_aload_n hx hb dX7_moves_10 rfl (lv_at hl 3 rfl) ?_
      refine lv_bipush (v := 99) hx hb dX7_moves_11 (by decide +kernel) ?_
      refine lv_iload hx hb dX7_moves_13 (lv_at hl 5 rfl) ?_
      refine lv_imul hx hb dX7_moves_15 ?_
      refine lv_topi (fun z15 ez15 => ?_)
      have bz15 := tq_mul (k := (99)) (q := p5.toInt) ez15 (by decide +kernel) rfl (by omega) (by omega)
      refine lv_iload hx hb dX7_moves_16 (lv_at hl 6 rfl) ?_
      refine lv_iadd hx hb dX7_moves_18 ?_
      refine lv_topi (fun z18 ez18 => ?_)
      have bz18 := tq_add (k := z15.toInt) (q := v3_6.toInt) ez18 rfl rfl (by omega) (by omega)
      refine lv_aload_n hx hb dX7_moves_19 rfl (lv_at hl 0 rfl) ?_
      refine lv_bipush (v := 99) hx hb dX7_moves_20 (by decide +kernel) ?_
      refine lv_iload_n hx hb dX7_moves_22 rfl (lv_at hl 2 rfl) ?_
      refine lv_imul hx hb dX7_moves_23 ?_
      refine lv_topi (fun z23 ez23 => ?_)
      have bz23 := tq_mul (k := (99)) (q := p2.toInt) ez23 (by decide +kernel) rfl (by omega) (by omega)
      refine lv_iload hx hb dX7_moves_24 (lv_at hl 6 rfl) ?_
      refine lv_iadd hx hb dX7_moves_26 ?_
      refine lv_topi (fun z26 ez26 => ?_)
      have bz26 := tq_add (k := z23.toInt) (q := v3_6.toInt) ez26 rfl rfl (by omega) (by omega)
      refine p_iald hx hb hK hP 9 hLp0 hKp0 rfl rfl (in_of (by omega) (by omega)) dX7_moves_27 ?_
      refine lv_topi (fun z27 ez27 => ?_)
      have bz27 := oR_19 (i := z26) (k := z26.toInt) rfl (Iv_at hI3 hLp0 hKp0)
      rw [← ez27] at bz27
      unfold rng at bz27
      refine p_iast hx hb hK hP hD hS 9 hLp3 hKp3 rfl (fun _ => rfl) rfl (in_of (by omega) (by omega)) dX7_moves_28 (fun H locs hP hS => ?_)
      have rg28z27 := fb_rng z27
      obtain ⟨Iz28, hP, hIz28, qIz28⟩ : ∃ Iz28, va_P (dC, dI) vwCl (Wd cs L K Iz28 J Q) H ∧ Iv L K x0 m0 tx tm Iz28 ∧ Iz28 = va_up I3 p3 (upd (I3 p3) z18.toNatClampNeg z27) := ⟨_, hP, Iv_put hI3 hKp3 (oU_19 (i := z18) (k := z18.toInt) rfl (Iv_at hI3 hLp3 hKp3) (by unfold rng; rw [show z18.toInt.toNat % 99 = z26.toInt.toNat % 99 by omega]; exact bz27)) (Or.inl (by decide)) (Or.inl (by decide)), rfl⟩
      have fr_Iz28 : ∀ b, ¬ (b = p3) → Iz28 b = I b := fun b q => (congrFun qIz28 b).trans ((va_up_ne _ _ (fun z => q z)).trans (fr_I3 b q))
      obtain ⟨z29, ez29⟩ : ∃ y : Int32, y = v3_6 + 1 := ⟨_, rfl⟩
      refine lv_iinc (v := z29) (lv' := [(6, .int z29), (0, .ref p0), (1, .ref p1), (2, .int p2), (3, .ref p3), (4, .ref p4), (5, .int p5)]) hx hb dX7_moves_29 hl (k := 6) rfl (by rw [ez29]; rfl) (by decide) rfl (fun ls hl => ?_)
      have bz29 := tq_add (k := v3_6.toInt) (q := 1) ez29 rfl (by decide +kernel) (by omega) (by omega)
      refine lv_goto (tgt := 3) hx hb dX7_moves_32 (by decide) ?_
      exact ih3 _ (by omega) z29 Iz28 _ _ _ rfl ⟨by omega, by omega⟩ hIz28 fr_Iz28 hP hS (lv_sub hl [1, 2, 3, 4, 5, 6, 0] rfl))
  exact key3 _ 0 I _ _ _ rfl ⟨by decide +kernel, by decide +kernel⟩ hI fr_I hP hS (lv_sub hl [1, 2, 3, 4, 5, 6, 0] rfl)

set_option maxHeartbeats 4000000 in
set_option maxRecDepth 100000 in
theorem s_X7_movesU (l : Launch) (dC : Nat → ClassId) (dI : Nat → Nat → Nat) (cs : Nat → ClassId) (L : List Nat) (K G : Nat → Nat) (Q : Nat → Nat → Option Nat) (hQ : Sv L K G Q) (x0 m0 : Nat) (tx : Int32) (tm : Int32 × Int) (sz : Nat) (I : Nat → Nat → Int32) (J : Nat → Nat → Int64) (hI : Iv L K x0 m0 tx tm I) (p0 : Nat) (hLp0 : p0 ∈ L) (hKp0 : K p0 = 19) (p1 : Nat) (hLp1 : p1 ∈ L) (hKp1 : K p1 = 22) (p2 : Int32) (bp2 : (0) ≤ p2.toInt ∧ p2.toInt ≤ 9) (p3 : Nat) (hLp3 : p3 ∈ L) (hKp3 : K p3 = 18) (p4 : Nat) (hLp4 : p4 ∈ L) (hKp4 : K p4 = 21) (p5 : Int32) (bp5 : (0) ≤ p5.toInt ∧ p5.toInt ≤ 0) : Met l yX7_moves (.code yX7_moves cX7_moves 7 none :: pw) ({ frames := 0, cells := 0, slots := 0, locals := 0 }) (sP (dC, dI) cs [.ref p0, .ref p1, .int p2, .ref p3, .ref p4, .int p5] sz L K I J Q) (va_Qv (fun (_ : Unit) => True) (fun _ t => sB (dC, dI) cs L K Q (fun I1 => Iv L K x0 m0 tx tm I1 ∧ (∀ b, ¬ (b = p3) → I1 b = I b)) t) (fun q => q ∈ L ∨ sz ≤ q)) 0 0 (fun q => q ∈ L ∨ sz ≤ q) := by
  refine Met.ofW (cc := cX7_moves) (maxL := 7) (ret := none) (by decide +kernel) rfl ?_
  intro p e s m args below meth c s₁ B hml hv
  obtain ⟨rfl, hsz, hP, hK, hD0, hN⟩ := hv
  have hx := B.exec
  have hb := B.bytes
  have hr := B.returns
  have hts := fun w (h : w ∈ pw) => atoms_spec (ws := Cond.code yX7_moves cX7_moves 7 none :: pw) B.pre w (List.mem_cons_of_mem _ h)
  have hown : s.vm.findClass RX7 = some m.cls := findClass_of_methodNamed B.named
  have hlocks := B.notSynchronized
  subst hsz
  have hBB : 999 ≤ tm.2 ∧ tm.2 ≤ 6000000 := hI.2.2.2.2
  have fr_I : ∀ b, ¬ (b = p3) → I b = I b := fun _ _ => rfl
  obtain ⟨A, hAe⟩ : ∃ A : Nat → Prop, A = (fun q => q ∈ L ∨ s.heap.size ≤ q) := ⟨_, rfl⟩
  rw [← hAe]
  have hAL : ∀ q, q ∈ L → A q := fun q h => by rw [hAe]; exact Or.inl h
  have hA : ∀ q, s.heap.size ≤ q → A q := fun q h => by rw [hAe]; exact Or.inr h
  have hD : ∀ F, va_D A (va_pl L F) := fun F => (hD0 F).weaken (fun k q hk _ => hAL _ (pl_mem hk))
  obtain ⟨H, hHe⟩ : ∃ H : Heap, H = s.heap := ⟨_, rfl⟩
  have hS : va_S A s.heap H [] := by rw [hHe]; exact va_S.rf
  rw [← hHe] at hP
  have hl := lv_entry ([.ref p0, .ref p1, .int p2, .ref p3, .ref p4, .int p5]) (n := 7) (Nat.le_of_ble_eq_true rfl)
  rw [lg_entry_eq]
  generalize (lg_sl ([.ref p0, .ref p1, .int p2, .ref p3, .ref p4, .int p5]) ++ List.replicate (7 - (lg_sl ([.ref p0, .ref p1, .int p2, .ref p3, .ref p4, .int p5])).length) Slot.unset).toArray = ls at hl ⊢
  have hl : lv_has ls 7 [(0, .ref p0), (1, .ref p1), (2, .int p2), (3, .ref p3), (4, .ref p4), (5, .int p5)] := hl
  rw [← hHe]
  refine namedW (fun R Qz hR hQz => ?_)
  refine lv_iconst (v := 0) hx hb dX7_moves_0 (by decide +kernel) ?_
  refine lv_istore (lv' := [(6, .int 0), (0, .ref p0), (1, .ref p1), (2, .int p2), (3, .ref p3), (4, .ref p4), (5, .int p5)]) hx hb dX7_moves_1 hl (by decide) rfl (fun ls hl => ?_)
  have key3 := blocks (fun n => ∀ (v3_6 : Int32) (I3 : Nat → Nat → Int32) (H : Heap) (lo : List Loc) (ls : Array Slot), (100 - v3_6.toInt).toNat = n → ((0) ≤ v3_6.toInt ∧ v3_6.toInt ≤ 99) → Iv L K x0 m0 tx tm I3 → (∀ b, ¬ (b = p3) → I3 b = I b) → va_P (dC, dI) vwCl (Wd cs L K I3 J Q) H → va_S A s.heap H lo → lv_has ls 7 [(0, .ref p0), (1, .ref p1), (2, .int p2), (3, .ref p3), (4, .ref p4), (5, .int p5), (6, .int v3_6)] → W p l e R s m (([.ref p0, .ref p1, .int p2, .ref p3, .ref p4, .int p5] : List Value).toArray) below meth c H lo 0 0 Qz (F0 m 3 ls [])) (by
    intro n ih3
    intro v3_6 I3 H lo ls hmu3 bv3_6 hI3 fr_I3 hP hS hl
    refine lv_iload hx hb dX7_moves_3 (lv_at hl 6 rfl) ?_
    refine lv_bipush (v := 99) hx hb dX7_moves_5 (by decide +kernel) ?_
    refine lv_icmp_ge (tgt := 35) hx hb dX7_moves_7 (by decide) (fun c7 => ?_) (fun c7 => ?_)
    · have t7 := tq_le (k := (99)) (q := v3_6.toInt) c7 (by decide +kernel) rfl
      refine lv_iconst (v := 0) hx hb dX7_moves_35 (by decide +kernel) ?_
      refine lv_istore (lv' := [(6, .int 0), (0, .ref p0), (1, .ref p1), (2, .int p2), (3, .ref p3), (4, .ref p4), (5, .int p5)]) hx hb dX7_moves_36 hl (by decide) rfl (fun ls hl => ?_)
      have key38 := blocks (fun n => ∀ (v38_6 : Int32) (J38 : Nat → Nat → Int64) (H : Heap) (lo : List Loc) (ls : Array Slot), (1000 - v38_6.toInt).toNat = n → ((0) ≤ v38_6.toInt ∧ v38_6.toInt ≤ 999) → va_P (dC, dI) vwCl (Wd cs L K I3 J38 Q) H → va_S A s.heap H lo → lv_has ls 7 [(0, .ref p0), (1, .ref p1), (2, .int p2), (3, .ref p3), (4, .ref p4), (5, .int p5), (6, .int v38_6)] → W p l e R s m (([.ref p0, .ref p1, .int p2, .ref p3, .ref p4, .int p5] : List Value).toArray) below meth c H lo 0 0 Qz (F0 m 38 ls [])) (by
        intro n ih38
        intro v38_6 J38 H lo ls hmu38 bv38_6 hP hS hl
        refine lv_iload hx hb dX7_moves_38 (lv_at hl 6 rfl) ?_
        refine lv_sipush (v := 640) hx hb dX7_moves_40 (by decide +kernel) ?_
        refine lv_icmp_ge (tgt := 74) hx hb dX7_moves_43 (by decide) (fun c43 => ?_) (fun c43 => ?_)
        · have t43 := tq_le (k := (640)) (q := v38_6.toInt) c43 (by decide +kernel) rfl
          subst hR; subst hQz
          exact W.vret hx hb hr (fun t ht hW => ⟨⟨(), rfl, trivial, ⟨I3, J38, ⟨hI3, fr_I3⟩, by rw [ht]; exact hP⟩⟩, hS.F ht⟩) hS.2.2 dX7_moves_74
        · have t43 := tq_nle (k := (640)) (q := v38_6.toInt) c43 (by decide +kernel) rfl
          refine lv_aload hx hb dX7_moves_46 (lv_at hl 4 rfl) ?_
          refine lv_sipush (v := 640) hx hb dX7_moves_48 (by decide +kernel) ?_
          refine lv_iload hx hb dX7_moves_51 (lv_at hl 5 rfl) ?_
          refine lv_imul hx hb dX7_moves_53 ?_
          refine lv_topi (fun z53 ez53 => ?_)
          have bz53 := tq_mul (k := (640)) (q := p5.toInt) ez53 (by decide +kernel) rfl (by omega) (by omega)
          refine lv_iload hx hb dX7_moves_54 (lv_at hl 6 rfl) ?_
          refine lv_iadd hx hb dX7_moves_56 ?_
          refine lv_topi (fun z56 ez56 => ?_)
          have bz56 := tq_add (k := z53.toInt) (q := v38_6.toInt) ez56 rfl rfl (by omega) (by omega)
          refine lv_aload_n hx hb dX7_moves_57 rfl (lv_at hl 1 rfl) ?_
          refine lv_sipush (v := 640) hx hb dX7_moves_58 (by decide +kernel) ?_
          refine lv_iload_n hx hb dX7_moves_61 rfl (lv_at hl 2 rfl) ?_
          refine lv_imul hx hb dX7_moves_62 ?_
          refine lv_topi (fun z62 ez62 => ?_)
          have bz62 := tq_mul (k := (640)) (q := p2.toInt) ez62 (by decide +kernel) rfl (by omega) (by omega)
          refine lv_iload hx hb dX7_moves_63 (lv_at hl 6 rfl) ?_
          refine lv_iadd hx hb dX7_moves_65 ?_
          refine lv_topi (fun z65 ez65 => ?_)
          have bz65 := tq_add (k := z62.toInt) (q := v38_6.toInt) ez65 rfl rfl (by omega) (by omega)
          refine p_lald hx hb hK hP 12 hLp1 hKp1 rfl rfl (in_of (by omega) (by omega)) dX7_moves_66 ?_
          refine lv_topl (fun z66 ez66 => ?_)
          refine p_last hx hb hK hP hD hS 11 hLp4 hKp4 rfl (fun _ => rfl) rfl (in_of (by omega) (by omega)) dX7_moves_67 (fun H locs hP hS => ?_)
          obtain ⟨Jz67, hP⟩ : ∃ Jz67, va_P (dC, dI) vwCl (Wd cs L K I3 Jz67 Q) H := ⟨_, hP⟩
          obtain ⟨z68, ez68⟩ : ∃ y : Int32, y = v38_6 + 1 := ⟨_, rfl⟩
          refine lv_iinc (v := z68) (lv' := [(6, .int z68), (0, .ref p0), (1, .ref p1), (2, .int p2), (3, .ref p3), (4, .ref p4), (5, .int p5)]) hx hb dX7_moves_68 hl (k := 6) rfl (by rw [ez68]; rfl) (by decide) rfl (fun ls hl => ?_)
          have bz68 := tq_add (k := v38_6.toInt) (q := 1) ez68 rfl (by decide +kernel) (by omega) (by omega)
          refine lv_goto (tgt := 38) hx hb dX7_moves_71 (by decide) ?_
          exact ih38 _ (by omega) z68 Jz67 _ _ _ rfl ⟨by omega, by omega⟩ hP hS (lv_sub hl [1, 2, 3, 4, 5, 6, 0] rfl))
      exact key38 _ 0 J _ _ _ rfl ⟨by decide +kernel, by decide +kernel⟩ hP hS (lv_sub hl [1, 2, 3, 4, 5, 6, 0] rfl)
    · have t7 := tq_nle (k := (99)) (q := v3_6.toInt) c7 (by decide +kernel) rfl
      refine lv_aload_n hx hb dX7_moves_10 rfl (lv_at hl 3 rfl) ?_
      refine lv_bipush (v := 99) hx hb dX7_moves_11 (by decide +kernel) ?_
      refine lv_iload hx hb dX7_moves_13 (lv_at hl 5 rfl) ?_
      refine lv_imul hx hb dX7_moves_15 ?_
      refine lv_topi (fun z15 ez15 => ?_)
      have bz15 := tq_mul (k := (99)) (q := p5.toInt) ez15 (by decide +kernel) rfl (by omega) (by omega)
      refine lv_iload hx hb dX7_moves_16 (lv_at hl 6 rfl) ?_
      refine lv_iadd hx hb dX7_moves_18 ?_
      refine lv_topi (fun z18 ez18 => ?_)
      have bz18 := tq_add (k := z15.toInt) (q := v3_6.toInt) ez18 rfl rfl (by omega) (by omega)
      refine lv_aload_n hx hb dX7_moves_19 rfl (lv_at hl 0 rfl) ?_
      refine lv_bipush (v := 99) hx hb dX7_moves_20 (by decide +kernel) ?_
      refine lv_iload_n hx hb dX7_moves_22 rfl (lv_at hl 2 rfl) ?_
      refine lv_imul hx hb dX7_moves_23 ?_
      refine lv_topi (fun z23 ez23 => ?_)
      have bz23 := tq_mul (k := (99)) (q := p2.toInt) ez23 (by decide +kernel) rfl (by omega) (by omega)
      refine lv_iload hx hb dX7_moves_24 (lv_at hl 6 rfl) ?_
      refine lv_iadd hx hb dX7_moves_26 ?_
      refine lv_topi (fun z26 ez26 => ?_)
      have bz26 := tq_add (k := z23.toInt) (q := v3_6.toInt) ez26 rfl rfl (by omega) (by omega)
      refine p_iald hx hb hK hP 9 hLp0 hKp0 rfl rfl (in_of (by omega) (by omega)) dX7_moves_27 ?_
      refine lv_topi (fun z27 ez27 => ?_)
      have bz27 := oR_19 (i := z26) (k := z26.toInt) rfl (Iv_at hI3 hLp0 hKp0)
      rw [← ez27] at bz27
      unfold rng at bz27
      refine p_iast hx hb hK hP hD hS 8 hLp3 hKp3 rfl (fun _ => rfl) rfl (in_of (by omega) (by omega)) dX7_moves_28 (fun H locs hP hS => ?_)
      have rg28z27 := fb_rng z27
      obtain ⟨Iz28, hP, hIz28, qIz28⟩ : ∃ Iz28, va_P (dC, dI) vwCl (Wd cs L K Iz28 J Q) H ∧ Iv L K x0 m0 tx tm Iz28 ∧ Iz28 = va_up I3 p3 (upd (I3 p3) z18.toNatClampNeg z27) := ⟨_, hP, Iv_put hI3 hKp3 (oU_18 (i := z18) (k := z18.toInt) rfl (Iv_at hI3 hLp3 hKp3) (by unfold rng; rw [show z18.toInt.toNat = z26.toInt.toNat % 99 by omega]; exact bz27)) (Or.inl (by decide)) (Or.inl (by decide)), rfl⟩
      have fr_Iz28 : ∀ b, ¬ (b = p3) → Iz28 b = I b := fun b q => (congrFun qIz28 b).trans ((va_up_ne _ _ (fun z => q z)).trans (fr_I3 b q))
      obtain ⟨z29, ez29⟩ : ∃ y : Int32, y = v3_6 + 1 := ⟨_, rfl⟩
      refine lv_iinc (v := z29) (lv' := [(6, .int z29), (0, .ref p0), (1, .ref p1), (2, .int p2), (3, .ref p3), (4, .ref p4), (5, .int p5)]) hx hb dX7_moves_29 hl (k := 6) rfl (by rw [ez29]; rfl) (by decide) rfl (fun ls hl => ?_)
      have bz29 := tq_add (k := v3_6.toInt) (q := 1) ez29 rfl (by decide +kernel) (by omega) (by omega)
      refine lv_goto (tgt := 3) hx hb dX7_moves_32 (by decide) ?_
      exact ih3 _ (by omega) z29 Iz28 _ _ _ rfl ⟨by omega, by omega⟩ hIz28 fr_Iz28 hP hS (lv_sub hl [1, 2, 3, 4, 5, 6, 0] rfl))
  exact key3 _ 0 I _ _ _ rfl ⟨by decide +kernel, by decide +kernel⟩ hI fr_I hP hS (lv_sub hl [1, 2, 3, 4, 5, 6, 0] rfl)

set_option maxHeartbeats 4000000 in
set_option maxRecDepth 100000 in
theorem s_X7_movesK (l : Launch) (dC : Nat → ClassId) (dI : Nat → Nat → Nat) (cs : Nat → ClassId) (L : List Nat) (K G : Nat → Nat) (Q : Nat → Nat → Option Nat) (hQ : Sv L K G Q) (x0 m0 : Nat) (tx : Int32) (tm : Int32 × Int) (sz : Nat) (I : Nat → Nat → Int32) (J : Nat → Nat → Int64) (hI : Iv L K x0 m0 tx tm I) (p0 : Nat) (hLp0 : p0 ∈ L) (hKp0 : K p0 = 18) (p1 : Nat) (hLp1 : p1 ∈ L) (hKp1 : K p1 = 21) (p2 : Int32) (bp2 : (0) ≤ p2.toInt ∧ p2.toInt ≤ 0) (p3 : Nat) (hLp3 : p3 ∈ L) (hKp3 : K p3 = 20) (p4 : Nat) (hLp4 : p4 ∈ L) (hKp4 : K p4 = 23) (p5 : Int32) (bp5 : (0) ≤ p5.toInt ∧ p5.toInt ≤ 1) : Met l yX7_moves (.code yX7_moves cX7_moves 7 none :: pw) ({ frames := 0, cells := 0, slots := 0, locals := 0 }) (sP (dC, dI) cs [.ref p0, .ref p1, .int p2, .ref p3, .ref p4, .int p5] sz L K I J Q) (va_Qv (fun (_ : Unit) => True) (fun _ t => sB (dC, dI) cs L K Q (fun I1 => Iv L K x0 m0 tx tm I1 ∧ (∀ b, ¬ (b = p3) → I1 b = I b)) t) (fun q => q ∈ L ∨ sz ≤ q)) 0 0 (fun q => q ∈ L ∨ sz ≤ q) := by
  refine Met.ofW (cc := cX7_moves) (maxL := 7) (ret := none) (by decide +kernel) rfl ?_
  intro p e s m args below meth c s₁ B hml hv
  obtain ⟨rfl, hsz, hP, hK, hD0, hN⟩ := hv
  have hx := B.exec
  have hb := B.bytes
  have hr := B.returns
  have hts := fun w (h : w ∈ pw) => atoms_spec (ws := Cond.code yX7_moves cX7_moves 7 none :: pw) B.pre w (List.mem_cons_of_mem _ h)
  have hown : s.vm.findClass RX7 = some m.cls := findClass_of_methodNamed B.named
  have hlocks := B.notSynchronized
  subst hsz
  have hBB : 999 ≤ tm.2 ∧ tm.2 ≤ 6000000 := hI.2.2.2.2
  have fr_I : ∀ b, ¬ (b = p3) → I b = I b := fun _ _ => rfl
  obtain ⟨A, hAe⟩ : ∃ A : Nat → Prop, A = (fun q => q ∈ L ∨ s.heap.size ≤ q) := ⟨_, rfl⟩
  rw [← hAe]
  have hAL : ∀ q, q ∈ L → A q := fun q h => by rw [hAe]; exact Or.inl h
  have hA : ∀ q, s.heap.size ≤ q → A q := fun q h => by rw [hAe]; exact Or.inr h
  have hD : ∀ F, va_D A (va_pl L F) := fun F => (hD0 F).weaken (fun k q hk _ => hAL _ (pl_mem hk))
  obtain ⟨H, hHe⟩ : ∃ H : Heap, H = s.heap := ⟨_, rfl⟩
  have hS : va_S A s.heap H [] := by rw [hHe]; exact va_S.rf
  rw [← hHe] at hP
  have hl := lv_entry ([.ref p0, .ref p1, .int p2, .ref p3, .ref p4, .int p5]) (n := 7) (Nat.le_of_ble_eq_true rfl)
  rw [lg_entry_eq]
  generalize (lg_sl ([.ref p0, .ref p1, .int p2, .ref p3, .ref p4, .int p5]) ++ List.replicate (7 - (lg_sl ([.ref p0, .ref p1, .int p2, .ref p3, .ref p4, .int p5])).length) Slot.unset).toArray = ls at hl ⊢
  have hl : lv_has ls 7 [(0, .ref p0), (1, .ref p1), (2, .int p2), (3, .ref p3), (4, .ref p4), (5, .int p5)] := hl
  rw [← hHe]
  refine namedW (fun R Qz hR hQz => ?_)
  refine lv_iconst (v := 0) hx hb dX7_moves_0 (by decide +kernel) ?_
  refine lv_istore (lv' := [(6, .int 0), (0, .ref p0), (1, .ref p1), (2, .int p2), (3, .ref p3), (4, .ref p4), (5, .int p5)]) hx hb dX7_moves_1 hl (by decide) rfl (fun ls hl => ?_)
  have key3 := blocks (fun n => ∀ (v3_6 : Int32) (I3 : Nat → Nat → Int32) (H : Heap) (lo : List Loc) (ls : Array Slot), (100 - v3_6.toInt).toNat = n → ((0) ≤ v3_6.toInt ∧ v3_6.toInt ≤ 99) → Iv L K x0 m0 tx tm I3 → (∀ b, ¬ (b = p3) → I3 b = I b) → va_P (dC, dI) vwCl (Wd cs L K I3 J Q) H → va_S A s.heap H lo → lv_has ls 7 [(0, .ref p0), (1, .ref p1), (2, .int p2), (3, .ref p3), (4, .ref p4), (5, .int p5), (6, .int v3_6)] → W p l e R s m (([.ref p0, .ref p1, .int p2, .ref p3, .ref p4, .int p5] : List Value).toArray) below meth c H lo 0 0 Qz (F0 m 3 ls [])) (by
    intro n ih3
    intro v3_6 I3 H lo ls hmu3 bv3_6 hI3 fr_I3 hP hS hl
    refine lv_iload hx hb dX7_moves_3 (lv_at hl 6 rfl) ?_
    refine lv_bipush (v := 99) hx hb dX7_moves_5 (by decide +kernel) ?_
    refine lv_icmp_ge (tgt := 35) hx hb dX7_moves_7 (by decide) (fun c7 => ?_) (fun c7 => ?_)
    · have t7 := tq_le (k := (99)) (q := v3_6.toInt) c7 (by decide +kernel) rfl
      refine lv_iconst (v := 0) hx hb dX7_moves_35 (by decide +kernel) ?_
      refine lv_istore (lv' := [(6, .int 0), (0, .ref p0), (1, .ref p1), (2, .int p2), (3, .ref p3), (4, .ref p4), (5, .int p5)]) hx hb dX7_moves_36 hl (by decide) rfl (fun ls hl => ?_)
      have key38 := blocks (fun n => ∀ (v38_6 : Int32) (J38 : Nat → Nat → Int64) (H : Heap) (lo : List Loc) (ls : Array Slot), (1000 - v38_6.toInt).toNat = n → ((0) ≤ v38_6.toInt ∧ v38_6.toInt ≤ 999) → va_P (dC, dI) vwCl (Wd cs L K I3 J38 Q) H → va_S A s.heap H lo → lv_has ls 7 [(0, .ref p0), (1, .ref p1), (2, .int p2), (3, .ref p3), (4, .ref p4), (5, .int p5), (6, .int v38_6)] → W p l e R s m (([.ref p0, .ref p1, .int p2, .ref p3, .ref p4, .int p5] : List Value).toArray) below meth c H lo 0 0 Qz (F0 m 38 ls [])) (by
        intro n ih38
        intro v38_6 J38 H lo ls hmu38 bv38_6 hP hS hl
        refine lv_iload hx hb dX7_moves_38 (lv_at hl 6 rfl) ?_
        refine lv_sipush (v := 640) hx hb dX7_moves_40 (by decide +kernel) ?_
        refine lv_icmp_ge (tgt := 74) hx hb dX7_moves_43 (by decide) (fun c43 => ?_) (fun c43 => ?_)
        · have t43 := tq_le (k := (640)) (q := v38_6.toInt) c43 (by decide +kernel) rfl
          subst hR; subst hQz
          exact W.vret hx hb hr (fun t ht hW => ⟨⟨(), rfl, trivial, ⟨I3, J38, ⟨hI3, fr_I3⟩, by rw [ht]; exact hP⟩⟩, hS.F ht⟩) hS.2.2 dX7_moves_74
        · have t43 := tq_nle (k := (640)) (q := v38_6.toInt) c43 (by decide +kernel) rfl
          refine lv_aload hx hb dX7_moves_46 (lv_at hl 4 rfl) ?_
          refine lv_sipush (v := 640) hx hb dX7_moves_48 (by decide +kernel) ?_
          refine lv_iload hx hb dX7_moves_51 (lv_at hl 5 rfl) ?_
          refine lv_imul hx hb dX7_moves_53 ?_
          refine lv_topi (fun z53 ez53 => ?_)
          have bz53 := tq_mul (k := (640)) (q := p5.toInt) ez53 (by decide +kernel) rfl (by omega) (by omega)
          refine lv_iload hx hb dX7_moves_54 (lv_at hl 6 rfl) ?_
          refine lv_iadd hx hb dX7_moves_56 ?_
          refine lv_topi (fun z56 ez56 => ?_)
          have bz56 := tq_add (k := z53.toInt) (q := v38_6.toInt) ez56 rfl rfl (by omega) (by omega)
          refine lv_aload_n hx hb dX7_moves_57 rfl (lv_at hl 1 rfl) ?_
          refine lv_sipush (v := 640) hx hb dX7_moves_58 (by decide +kernel) ?_
          refine lv_iload_n hx hb dX7_moves_61 rfl (lv_at hl 2 rfl) ?_
          refine lv_imul hx hb dX7_moves_62 ?_
          refine lv_topi (fun z62 ez62 => ?_)
          have bz62 := tq_mul (k := (640)) (q := p2.toInt) ez62 (by decide +kernel) rfl (by omega) (by omega)
          refine lv_iload hx hb dX7_moves_63 (lv_at hl 6 rfl) ?_
          refine lv_iadd hx hb dX7_moves_65 ?_
          refine lv_topi (fun z65 ez65 => ?_)
          have bz65 := tq_add (k := z62.toInt) (q := v38_6.toInt) ez65 rfl rfl (by omega) (by omega)
          refine p_lald hx hb hK hP 11 hLp1 hKp1 rfl rfl (in_of (by omega) (by omega)) dX7_moves_66 ?_
          refine lv_topl (fun z66 ez66 => ?_)
          refine p_last hx hb hK hP hD hS 13 hLp4 hKp4 rfl (fun _ => rfl) rfl (in_of (by omega) (by omega)) dX7_moves_67 (fun H locs hP hS => ?_)
          obtain ⟨Jz67, hP⟩ : ∃ Jz67, va_P (dC, dI) vwCl (Wd cs L K I3 Jz67 Q) H := ⟨_, hP⟩
          obtain ⟨z68, ez68⟩ : ∃ y : Int32, y = v38_6 + 1 := ⟨_, rfl⟩
          refine lv_iinc (v := z68) (lv' := [(6, .int z68), (0, .ref p0), (1, .ref p1), (2, .int p2), (3, .ref p3), (4, .ref p4), (5, .int p5)]) hx hb dX7_moves_68 hl (k := 6) rfl (by rw [ez68]; rfl) (by decide) rfl (fun ls hl => ?_)
          have bz68 := tq_add (k := v38_6.toInt) (q := 1) ez68 rfl (by decide +kernel) (by omega) (by omega)
          refine lv_goto (tgt := 38) hx hb dX7_moves_71 (by decide) ?_
          exact ih38 _ (by omega) z68 Jz67 _ _ _ rfl ⟨by omega, by omega⟩ hP hS (lv_sub hl [1, 2, 3, 4, 5, 6, 0] rfl))
      exact key38 _ 0 J _ _ _ rfl ⟨by decide +kernel, by decide +kernel⟩ hP hS (lv_sub hl [1, 2, 3, 4, 5, 6, 0] rfl)
    · have t7 := tq_nle (k := (99)) (q := v3_6.toInt) c7 (by decide +kernel) rfl
      refine lv_aload_n hx hb dX7_moves_10 rfl (lv_at hl 3 rfl) ?_
      refine lv_bipush (v := 99) hx hb dX7_moves_11 (by decide +kernel) ?_
      refine lv_iload hx hb dX7_moves_13 (lv_at hl 5 rfl) ?_
      refine lv_imul hx hb dX7_moves_15 ?_
      refine lv_topi (fun z15 ez15 => ?_)
      have bz15 := tq_mul (k := (99)) (q := p5.toInt) ez15 (by decide +kernel) rfl (by omega) (by omega)
      refine lv_iload hx hb dX7_moves_16 (lv_at hl 6 rfl) ?_
      refine lv_iadd hx hb dX7_moves_18 ?_
      refine lv_topi (fun z18 ez18 => ?_)
      have bz18 := tq_add (k := z15.toInt) (q := v3_6.toInt) ez18 rfl rfl (by omega) (by omega)
      refine lv_aload_n hx hb dX7_moves_19 rfl (lv_at hl 0 rfl) ?_
      refine lv_bipush (v := 99) hx hb dX7_moves_20 (by decide +kernel) ?_
      refine lv_iload_n hx hb dX7_moves_22 rfl (lv_at hl 2 rfl) ?_
      refine lv_imul hx hb dX7_moves_23 ?_
      refine lv_topi (fun z23 ez23 => ?_)
      have bz23 := tq_mul (k := (99)) (q := p2.toInt) ez23 (by decide +kernel) rfl (by omega) (by omega)
      refine lv_iload hx hb dX7_moves_24 (lv_at hl 6 rfl) ?_
      refine lv_iadd hx hb dX7_moves_26 ?_
      refine lv_topi (fun z26 ez26 => ?_)
      have bz26 := tq_add (k := z23.toInt) (q := v3_6.toInt) ez26 rfl rfl (by omega) (by omega)
      refine p_iald hx hb hK hP 8 hLp0 hKp0 rfl rfl (in_of (by omega) (by omega)) dX7_moves_27 ?_
      refine lv_topi (fun z27 ez27 => ?_)
      have bz27 := oR_18 (i := z26) (k := z26.toInt) rfl (Iv_at hI3 hLp0 hKp0)
      rw [← ez27] at bz27
      unfold rng at bz27
      refine p_iast hx hb hK hP hD hS 10 hLp3 hKp3 rfl (fun _ => rfl) rfl (in_of (by omega) (by omega)) dX7_moves_28 (fun H locs hP hS => ?_)
      have rg28z27 := fb_rng z27
      obtain ⟨Iz28, hP, hIz28, qIz28⟩ : ∃ Iz28, va_P (dC, dI) vwCl (Wd cs L K Iz28 J Q) H ∧ Iv L K x0 m0 tx tm Iz28 ∧ Iz28 = va_up I3 p3 (upd (I3 p3) z18.toNatClampNeg z27) := ⟨_, hP, Iv_put hI3 hKp3 (oU_20 (i := z18) (k := z18.toInt) rfl (Iv_at hI3 hLp3 hKp3) (by unfold rng; rw [show z18.toInt.toNat % 99 = z26.toInt.toNat by omega]; exact bz27)) (Or.inl (by decide)) (Or.inl (by decide)), rfl⟩
      have fr_Iz28 : ∀ b, ¬ (b = p3) → Iz28 b = I b := fun b q => (congrFun qIz28 b).trans ((va_up_ne _ _ (fun z => q z)).trans (fr_I3 b q))
      obtain ⟨z29, ez29⟩ : ∃ y : Int32, y = v3_6 + 1 := ⟨_, rfl⟩
      refine lv_iinc (v := z29) (lv' := [(6, .int z29), (0, .ref p0), (1, .ref p1), (2, .int p2), (3, .ref p3), (4, .ref p4), (5, .int p5)]) hx hb dX7_moves_29 hl (k := 6) rfl (by rw [ez29]; rfl) (by decide) rfl (fun ls hl => ?_)
      have bz29 := tq_add (k := v3_6.toInt) (q := 1) ez29 rfl (by decide +kernel) (by omega) (by omega)
      refine lv_goto (tgt := 3) hx hb dX7_moves_32 (by decide) ?_
      exact ih3 _ (by omega) z29 Iz28 _ _ _ rfl ⟨by omega, by omega⟩ hIz28 fr_Iz28 hP hS (lv_sub hl [1, 2, 3, 4, 5, 6, 0] rfl))
  exact key3 _ 0 I _ _ _ rfl ⟨by decide +kernel, by decide +kernel⟩ hI fr_I hP hS (lv_sub hl [1, 2, 3, 4, 5, 6, 0] rfl)

set_option maxHeartbeats 4000000 in
set_option maxRecDepth 100000 in
theorem s_X7_movesB (l : Launch) (dC : Nat → ClassId) (dI : Nat → Nat → Nat) (cs : Nat → ClassId) (L : List Nat) (K G : Nat → Nat) (Q : Nat → Nat → Option Nat) (hQ : Sv L K G Q) (x0 m0 : Nat) (tx : Int32) (tm : Int32 × Int) (sz : Nat) (I : Nat → Nat → Int32) (J : Nat → Nat → Int64) (hI : Iv L K x0 m0 tx tm I) (p0 : Nat) (hLp0 : p0 ∈ L) (hKp0 : K p0 = 20) (p1 : Nat) (hLp1 : p1 ∈ L) (hKp1 : K p1 = 23) (p2 : Int32) (bp2 : (0) ≤ p2.toInt ∧ p2.toInt ≤ 1) (p3 : Nat) (hLp3 : p3 ∈ L) (hKp3 : K p3 = 18) (p4 : Nat) (hLp4 : p4 ∈ L) (hKp4 : K p4 = 21) (p5 : Int32) (bp5 : (0) ≤ p5.toInt ∧ p5.toInt ≤ 0) : Met l yX7_moves (.code yX7_moves cX7_moves 7 none :: pw) ({ frames := 0, cells := 0, slots := 0, locals := 0 }) (sP (dC, dI) cs [.ref p0, .ref p1, .int p2, .ref p3, .ref p4, .int p5] sz L K I J Q) (va_Qv (fun (_ : Unit) => True) (fun _ t => sB (dC, dI) cs L K Q (fun I1 => Iv L K x0 m0 tx tm I1 ∧ (∀ b, ¬ (b = p3) → I1 b = I b)) t) (fun q => q ∈ L ∨ sz ≤ q)) 0 0 (fun q => q ∈ L ∨ sz ≤ q) := by
  refine Met.ofW (cc := cX7_moves) (maxL := 7) (ret := none) (by decide +kernel) rfl ?_
  intro p e s m args below meth c s₁ B hml hv
  obtain ⟨rfl, hsz, hP, hK, hD0, hN⟩ := hv
  have hx := B.exec
  have hb := B.bytes
  have hr := B.returns
  have hts := fun w (h : w ∈ pw) => atoms_spec (ws := Cond.code yX7_moves cX7_moves 7 none :: pw) B.pre w (List.mem_cons_of_mem _ h)
  have hown : s.vm.findClass RX7 = some m.cls := findClass_of_methodNamed B.named
  have hlocks := B.notSynchronized
  subst hsz
  have hBB : 999 ≤ tm.2 ∧ tm.2 ≤ 6000000 := hI.2.2.2.2
  have fr_I : ∀ b, ¬ (b = p3) → I b = I b := fun _ _ => rfl
  obtain ⟨A, hAe⟩ : ∃ A : Nat → Prop, A = (fun q => q ∈ L ∨ s.heap.size ≤ q) := ⟨_, rfl⟩
  rw [← hAe]
  have hAL : ∀ q, q ∈ L → A q := fun q h => by rw [hAe]; exact Or.inl h
  have hA : ∀ q, s.heap.size ≤ q → A q := fun q h => by rw [hAe]; exact Or.inr h
  have hD : ∀ F, va_D A (va_pl L F) := fun F => (hD0 F).weaken (fun k q hk _ => hAL _ (pl_mem hk))
  obtain ⟨H, hHe⟩ : ∃ H : Heap, H = s.heap := ⟨_, rfl⟩
  have hS : va_S A s.heap H [] := by rw [hHe]; exact va_S.rf
  rw [← hHe] at hP
  have hl := lv_entry ([.ref p0, .ref p1, .int p2, .ref p3, .ref p4, .int p5]) (n := 7) (Nat.le_of_ble_eq_true rfl)
  rw [lg_entry_eq]
  generalize (lg_sl ([.ref p0, .ref p1, .int p2, .ref p3, .ref p4, .int p5]) ++ List.replicate (7 - (lg_sl ([.ref p0, .ref p1, .int p2, .ref p3, .ref p4, .int p5])).length) Slot.unset).toArray = ls at hl ⊢
  have hl : lv_has ls 7 [(0, .ref p0), (1, .ref p1), (2, .int p2), (3, .ref p3), (4, .ref p4), (5, .int p5)] := hl
  rw [← hHe]
  refine namedW (fun R Qz hR hQz => ?_)
  refine lv_iconst (v := 0) hx hb dX7_moves_0 (by decide +kernel) ?_
  refine lv_istore (lv' := [(6, .int 0), (0, .ref p0), (1, .ref p1), (2, .int p2), (3, .ref p3), (4, .ref p4), (5, .int p5)]) hx hb dX7_moves_1 hl (by decide) rfl (fun ls hl => ?_)
  have key3 := blocks (fun n => ∀ (v3_6 : Int32) (I3 : Nat → Nat → Int32) (H : Heap) (lo : List Loc) (ls : Array Slot), (100 - v3_6.toInt).toNat = n → ((0) ≤ v3_6.toInt ∧ v3_6.toInt ≤ 99) → Iv L K x0 m0 tx tm I3 → (∀ b, ¬ (b = p3) → I3 b = I b) → va_P (dC, dI) vwCl (Wd cs L K I3 J Q) H → va_S A s.heap H lo → lv_has ls 7 [(0, .ref p0), (1, .ref p1), (2, .int p2), (3, .ref p3), (4, .ref p4), (5, .int p5), (6, .int v3_6)] → W p l e R s m (([.ref p0, .ref p1, .int p2, .ref p3, .ref p4, .int p5] : List Value).toArray) below meth c H lo 0 0 Qz (F0 m 3 ls [])) (by
    intro n ih3
    intro v3_6 I3 H lo ls hmu3 bv3_6 hI3 fr_I3 hP hS hl
    refine lv_iload hx hb dX7_moves_3 (lv_at hl 6 rfl) ?_
    refine lv_bipush (v := 99) hx hb dX7_moves_5 (by decide +kernel) ?_
    refine lv_icmp_ge (tgt := 35) hx hb dX7_moves_7 (by decide) (fun c7 => ?_) (fun c7 => ?_)
    · have t7 := tq_le (k := (99)) (q := v3_6.toInt) c7 (by decide +kernel) rfl
      refine lv_iconst (v := 0) hx hb dX7_moves_35 (by decide +kernel) ?_
      refine lv_istore (lv' := [(6, .int 0), (0, .ref p0), (1, .ref p1), (2, .int p2), (3, .ref p3), (4, .ref p4), (5, .int p5)]) hx hb dX7_moves_36 hl (by decide) rfl (fun ls hl => ?_)
      have key38 := blocks (fun n => ∀ (v38_6 : Int32) (J38 : Nat → Nat → Int64) (H : Heap) (lo : List Loc) (ls : Array Slot), (1000 - v38_6.toInt).toNat = n → ((0) ≤ v38_6.toInt ∧ v38_6.toInt ≤ 999) → va_P (dC, dI) vwCl (Wd cs L K I3 J38 Q) H → va_S A s.heap H lo → lv_has ls 7 [(0, .ref p0), (1, .ref p1), (2, .int p2), (3, .ref p3), (4, .ref p4), (5, .int p5), (6, .int v38_6)] → W p l e R s m (([.ref p0, .ref p1, .int p2, .ref p3, .ref p4, .int p5] : List Value).toArray) below meth c H lo 0 0 Qz (F0 m 38 ls [])) (by
        intro n ih38
        intro v38_6 J38 H lo ls hmu38 bv38_6 hP hS hl
        refine lv_iload hx hb dX7_moves_38 (lv_at hl 6 rfl) ?_
        refine lv_sipush (v := 640) hx hb dX7_moves_40 (by decide +kernel) ?_
        refine lv_icmp_ge (tgt := 74) hx hb dX7_moves_43 (by decide) (fun c43 => ?_) (fun c43 => ?_)
        · have t43 := tq_le (k := (640)) (q := v38_6.toInt) c43 (by decide +kernel) rfl
          subst hR; subst hQz
          exact W.vret hx hb hr (fun t ht hW => ⟨⟨(), rfl, trivial, ⟨I3, J38, ⟨hI3, fr_I3⟩, by rw [ht]; exact hP⟩⟩, hS.F ht⟩) hS.2.2 dX7_moves_74
        · have t43 := tq_nle (k := (640)) (q := v38_6.toInt) c43 (by decide +kernel) rfl
          refine lv_aload hx hb dX7_moves_46 (lv_at hl 4 rfl) ?_
          refine lv_sipush (v := 640) hx hb dX7_moves_48 (by decide +kernel) ?_
          refine lv_iload hx hb dX7_moves_51 (lv_at hl 5 rfl) ?_
          refine lv_imul hx hb dX7_moves_53 ?_
          refine lv_topi (fun z53 ez53 => ?_)
          have bz53 := tq_mul (k := (640)) (q := p5.toInt) ez53 (by decide +kernel) rfl (by omega) (by omega)
          refine lv_iload hx hb dX7_moves_54 (lv_at hl 6 rfl) ?_
          refine lv_iadd hx hb dX7_moves_56 ?_
          refine lv_topi (fun z56 ez56 => ?_)
          have bz56 := tq_add (k := z53.toInt) (q := v38_6.toInt) ez56 rfl rfl (by omega) (by omega)
          refine lv_aload_n hx hb dX7_moves_57 rfl (lv_at hl 1 rfl) ?_
          refine lv_sipush (v := 640) hx hb dX7_moves_58 (by decide +kernel) ?_
          refine lv_iload_n hx hb dX7_moves_61 rfl (lv_at hl 2 rfl) ?_
          refine lv_imul hx hb dX7_moves_62 ?_
          refine lv_topi (fun z62 ez62 => ?_)
          have bz62 := tq_mul (k := (640)) (q := p2.toInt) ez62 (by decide +kernel) rfl (by omega) (by omega)
          refine lv_iload hx hb dX7_moves_63 (lv_at hl 6 rfl) ?_
          refine lv_iadd hx hb dX7_moves_65 ?_
          refine lv_topi (fun z65 ez65 => ?_)
          have bz65 := tq_add (k := z62.toInt) (q := v38_6.toInt) ez65 rfl rfl (by omega) (by omega)
          refine p_lald hx hb hK hP 13 hLp1 hKp1 rfl rfl (in_of (by omega) (by omega)) dX7_moves_66 ?_
          refine lv_topl (fun z66 ez66 => ?_)
          refine p_last hx hb hK hP hD hS 11 hLp4 hKp4 rfl (fun _ => rfl) rfl (in_of (by omega) (by omega)) dX7_moves_67 (fun H locs hP hS => ?_)
          obtain ⟨Jz67, hP⟩ : ∃ Jz67, va_P (dC, dI) vwCl (Wd cs L K I3 Jz67 Q) H := ⟨_, hP⟩
          obtain ⟨z68, ez68⟩ : ∃ y : Int32, y = v38_6 + 1 := ⟨_, rfl⟩
          refine lv_iinc (v := z68) (lv' := [(6, .int z68), (0, .ref p0), (1, .ref p1), (2, .int p2), (3, .ref p3), (4, .ref p4), (5, .int p5)]) hx hb dX7_moves_68 hl (k := 6) rfl (by rw [ez68]; rfl) (by decide) rfl (fun ls hl => ?_)
          have bz68 := tq_add (k := v38_6.toInt) (q := 1) ez68 rfl (by decide +kernel) (by omega) (by omega)
          refine lv_goto (tgt := 38) hx hb dX7_moves_71 (by decide) ?_
          exact ih38 _ (by omega) z68 Jz67 _ _ _ rfl ⟨by omega, by omega⟩ hP hS (lv_sub hl [1, 2, 3, 4, 5, 6, 0] rfl))
      exact key38 _ 0 J _ _ _ rfl ⟨by decide +kernel, by decide +kernel⟩ hP hS (lv_sub hl [1, 2, 3, 4, 5, 6, 0] rfl)
    · have t7 := tq_nle (k := (99)) (q := v3_6.toInt) c7 (by decide +kernel) rfl
      refine lv_aload_n hx hb dX7_moves_10 rfl (lv_at hl 3 rfl) ?_
      refine lv_bipush (v := 99) hx hb dX7_moves_11 (by decide +kernel) ?_
      refine lv_iload hx hb dX7_moves_13 (lv_at hl 5 rfl) ?_
      refine lv_imul hx hb dX7_moves_15 ?_
      refine lv_topi (fun z15 ez15 => ?_)
      have bz15 := tq_mul (k := (99)) (q := p5.toInt) ez15 (by decide +kernel) rfl (by omega) (by omega)
      refine lv_iload hx hb dX7_moves_16 (lv_at hl 6 rfl) ?_
      refine lv_iadd hx hb dX7_moves_18 ?_
      refine lv_topi (fun z18 ez18 => ?_)
      have bz18 := tq_add (k := z15.toInt) (q := v3_6.toInt) ez18 rfl rfl (by omega) (by omega)
      refine lv_aload_n hx hb dX7_moves_19 rfl (lv_at hl 0 rfl) ?_
      refine lv_bipush (v := 99) hx hb dX7_moves_20 (by decide +kernel) ?_
      refine lv_iload_n hx hb dX7_moves_22 rfl (lv_at hl 2 rfl) ?_
      refine lv_imul hx hb dX7_moves_23 ?_
      refine lv_topi (fun z23 ez23 => ?_)
      have bz23 := tq_mul (k := (99)) (q := p2.toInt) ez23 (by decide +kernel) rfl (by omega) (by omega)
      refine lv_iload hx hb dX7_moves_24 (lv_at hl 6 rfl) ?_
      refine lv_iadd hx hb dX7_moves_26 ?_
      refine lv_topi (fun z26 ez26 => ?_)
      have bz26 := tq_add (k := z23.toInt) (q := v3_6.toInt) ez26 rfl rfl (by omega) (by omega)
      refine p_iald hx hb hK hP 10 hLp0 hKp0 rfl rfl (in_of (by omega) (by omega)) dX7_moves_27 ?_
      refine lv_topi (fun z27 ez27 => ?_)
      have bz27 := oR_20 (i := z26) (k := z26.toInt) rfl (Iv_at hI3 hLp0 hKp0)
      rw [← ez27] at bz27
      unfold rng at bz27
      refine p_iast hx hb hK hP hD hS 8 hLp3 hKp3 rfl (fun _ => rfl) rfl (in_of (by omega) (by omega)) dX7_moves_28 (fun H locs hP hS => ?_)
      have rg28z27 := fb_rng z27
      obtain ⟨Iz28, hP, hIz28, qIz28⟩ : ∃ Iz28, va_P (dC, dI) vwCl (Wd cs L K Iz28 J Q) H ∧ Iv L K x0 m0 tx tm Iz28 ∧ Iz28 = va_up I3 p3 (upd (I3 p3) z18.toNatClampNeg z27) := ⟨_, hP, Iv_put hI3 hKp3 (oU_18 (i := z18) (k := z18.toInt) rfl (Iv_at hI3 hLp3 hKp3) (by unfold rng; rw [show z18.toInt.toNat = z26.toInt.toNat % 99 by omega]; exact bz27)) (Or.inl (by decide)) (Or.inl (by decide)), rfl⟩
      have fr_Iz28 : ∀ b, ¬ (b = p3) → Iz28 b = I b := fun b q => (congrFun qIz28 b).trans ((va_up_ne _ _ (fun z => q z)).trans (fr_I3 b q))
      obtain ⟨z29, ez29⟩ : ∃ y : Int32, y = v3_6 + 1 := ⟨_, rfl⟩
      refine lv_iinc (v := z29) (lv' := [(6, .int z29), (0, .ref p0), (1, .ref p1), (2, .int p2), (3, .ref p3), (4, .ref p4), (5, .int p5)]) hx hb dX7_moves_29 hl (k := 6) rfl (by rw [ez29]; rfl) (by decide) rfl (fun ls hl => ?_)
      have bz29 := tq_add (k := v3_6.toInt) (q := 1) ez29 rfl (by decide +kernel) (by omega) (by omega)
      refine lv_goto (tgt := 3) hx hb dX7_moves_32 (by decide) ?_
      exact ih3 _ (by omega) z29 Iz28 _ _ _ rfl ⟨by omega, by omega⟩ hIz28 fr_Iz28 hP hS (lv_sub hl [1, 2, 3, 4, 5, 6, 0] rfl))
  exact key3 _ 0 I _ _ _ rfl ⟨by decide +kernel, by decide +kernel⟩ hI fr_I hP hS (lv_sub hl [1, 2, 3, 4, 5, 6, 0] rfl)

set_option maxHeartbeats 4000000 in
set_option maxRecDepth 100000 in
theorem s_X7_laysAside (l : Launch) (dC : Nat → ClassId) (dI : Nat → Nat → Nat) (cs : Nat → ClassId) (L : List Nat) (K G : Nat → Nat) (Q : Nat → Nat → Option Nat) (hQ : Sv L K G Q) (x0 m0 : Nat) (tx : Int32) (tm : Int32 × Int) (sz : Nat) (I : Nat → Nat → Int32) (J : Nat → Nat → Int64) (hI : Iv L K x0 m0 tx tm I) (p0 : Nat) (hLp0 : p0 ∈ L) (hKp0 : K p0 = 7) : Met l yX7_laysAside (.code yX7_laysAside cX7_laysAside 1 none :: pw) ({ frames := 1, cells := 0, slots := 0, locals := 26 }) (sP (dC, dI) cs [.ref p0] sz L K I J Q) (va_Qv (fun (_ : Unit) => True) (fun _ t => sB (dC, dI) cs L K Q (fun I1 => Iv L K x0 m0 tx tm I1 ∧ (∀ b, ¬ (K b = 30) → I1 b = I b)) t) (fun q => q ∈ L ∨ sz ≤ q)) 0 0 (fun q => q ∈ L ∨ sz ≤ q) := by
  refine Met.ofW (cc := cX7_laysAside) (maxL := 1) (ret := none) (by decide +kernel) rfl ?_
  intro p e s m args below meth c s₁ B hml hv
  obtain ⟨rfl, hsz, hP, hK, hD0, hN⟩ := hv
  have hx := B.exec
  have hb := B.bytes
  have hr := B.returns
  have hts := fun w (h : w ∈ pw) => atoms_spec (ws := Cond.code yX7_laysAside cX7_laysAside 1 none :: pw) B.pre w (List.mem_cons_of_mem _ h)
  have hown : s.vm.findClass RX7 = some m.cls := findClass_of_methodNamed B.named
  have hlocks := B.notSynchronized
  subst hsz
  have hBB : 999 ≤ tm.2 ∧ tm.2 ≤ 6000000 := hI.2.2.2.2
  have fr_I : ∀ b, ¬ (K b = 30) → I b = I b := fun _ _ => rfl
  obtain ⟨A, hAe⟩ : ∃ A : Nat → Prop, A = (fun q => q ∈ L ∨ s.heap.size ≤ q) := ⟨_, rfl⟩
  rw [← hAe]
  have hAL : ∀ q, q ∈ L → A q := fun q h => by rw [hAe]; exact Or.inl h
  have hA : ∀ q, s.heap.size ≤ q → A q := fun q h => by rw [hAe]; exact Or.inr h
  have hD : ∀ F, va_D A (va_pl L F) := fun F => (hD0 F).weaken (fun k q hk _ => hAL _ (pl_mem hk))
  obtain ⟨H, hHe⟩ : ∃ H : Heap, H = s.heap := ⟨_, rfl⟩
  have hS : va_S A s.heap H [] := by rw [hHe]; exact va_S.rf
  rw [← hHe] at hP
  have hl := lv_entry ([.ref p0]) (n := 1) (Nat.le_of_ble_eq_true rfl)
  rw [lg_entry_eq]
  generalize (lg_sl ([.ref p0]) ++ List.replicate (1 - (lg_sl ([.ref p0])).length) Slot.unset).toArray = ls at hl ⊢
  have hl : lv_has ls 1 [(0, .ref p0)] := hl
  rw [← hHe]
  refine namedW (fun R Qz hR hQz => ?_)
  refine lv_aload_n hx hb dX7_laysAside_0 rfl (lv_at hl 0 rfl) ?_
  obtain ⟨y1, ey1, hLy1, hKy1⟩ := oQ_7_0 (Sv_at hQ hLp0 hKp0)
  refine p_get (v := .ref y1) hx hb hts inX7 hown hK hP hLp0 hKp0 rfl rfl 0 (by decide) (hts _ pq1115) (congrArg (fun q => some (va_rf q)) ey1) dX7_laysAside_1 ?_
  refine lv_aload_n hx hb dX7_laysAside_4 rfl (lv_at hl 0 rfl) ?_
  obtain ⟨y5, ey5, hLy5, hKy5⟩ := oQ_7_5 (Sv_at hQ hLp0 hKp0)
  refine p_get (v := .ref y5) hx hb hts inX7 hown hK hP hLp0 hKp0 rfl rfl 5 (by decide) (hts _ pq1120) (congrArg (fun q => some (va_rf q)) ey5) dX7_laysAside_5 ?_
  refine lv_iconst (v := 0) hx hb dX7_laysAside_8 (by decide +kernel) ?_
  refine lv_aload_n hx hb dX7_laysAside_9 rfl (lv_at hl 0 rfl) ?_
  obtain ⟨y10, ey10, hLy10, hKy10⟩ := oQ_7_2 (Sv_at hQ hLp0 hKp0)
  refine p_get (v := .ref y10) hx hb hts inX7 hown hK hP hLp0 hKp0 rfl rfl 2 (by decide) (hts _ pq1117) (congrArg (fun q => some (va_rf q)) ey10) dX7_laysAside_10 ?_
  refine lv_aload_n hx hb dX7_laysAside_13 rfl (lv_at hl 0 rfl) ?_
  obtain ⟨y14, ey14, hLy14, hKy14⟩ := oQ_7_7 (Sv_at hQ hLp0 hKp0)
  refine p_get (v := .ref y14) hx hb hts inX7 hown hK hP hLp0 hKp0 rfl rfl 7 (by decide) (hts _ pq1122) (congrArg (fun q => some (va_rf q)) ey14) dX7_laysAside_14 ?_
  refine lv_iconst (v := 0) hx hb dX7_laysAside_17 (by decide +kernel) ?_
  refine sw_v (Z := (fun I1 => Iv L K x0 m0 tx tm I1 ∧ (∀ b, ¬ (b = y10) → I1 b = I b))) (va_runS (As := [.ref y1, .ref y5, .int 0, .ref y10, .ref y14, .int 0]) (rest := []) ⟨hx, hb, hml, hown, hts⟩ (s_X7_movesA l dC dI cs L K G Q hQ x0 m0 tx tm H.size I J hI y1 hLy1 hKy1 y5 hLy5 hKy5 0 ⟨by decide +kernel, by decide +kernel⟩ y10 hLy10 hKy10 y14 hLy14 hKy14 0 ⟨by decide +kernel, by decide +kernel⟩) (va_cwS 6 hts (gS pq1291 pq1292 pq81 pq1293) rfl rfl rfl (by decide +kernel) ⟨(by rw [hR]; exact (Nat.le_of_ble_eq_true rfl)), (by rw [hR]; exact (Nat.le_of_ble_eq_true rfl))⟩) (sP_S hP hD hK hN) rfl rfl hl.1 rfl (lv_room (Nat.le_of_ble_eq_true rfl)) dX7_laysAside_18 ⟨(by rw [hR]; exact (Nat.le_of_ble_eq_true rfl)), (by rw [hR]; exact (Nat.le_of_ble_eq_true rfl))⟩) hS hAL hA (fun Iz18 Jz18 H locs hz18 hIz18 hP hS => ?_)
  obtain ⟨hIz18, frc18⟩ := hIz18
  have fr_Iz18 : ∀ b, ¬ (K b = 30) → Iz18 b = I b := fun b q => (frc18 b (fun z => q (by rw [z]; have := hKy10; omega))).trans (fr_I b q)
  subst hR; subst hQz
  exact W.vret hx hb hr (fun t ht hW => ⟨⟨(), rfl, trivial, ⟨Iz18, Jz18, ⟨hIz18, fr_Iz18⟩, by rw [ht]; exact hP⟩⟩, hS.F ht⟩) hS.2.2 dX7_laysAside_21

set_option maxHeartbeats 4000000 in
set_option maxRecDepth 100000 in
theorem s_X7_remembersAside (l : Launch) (dC : Nat → ClassId) (dI : Nat → Nat → Nat) (cs : Nat → ClassId) (L : List Nat) (K G : Nat → Nat) (Q : Nat → Nat → Option Nat) (hQ : Sv L K G Q) (x0 m0 : Nat) (tx : Int32) (tm : Int32 × Int) (sz : Nat) (I : Nat → Nat → Int32) (J : Nat → Nat → Int64) (hI : Iv L K x0 m0 tx tm I) (p0 : Nat) (hLp0 : p0 ∈ L) (hKp0 : K p0 = 7) : Met l yX7_remembersAside (.code yX7_remembersAside cX7_remembersAside 2 none :: pw) ({ frames := 1, cells := 0, slots := 0, locals := 26 }) (sP (dC, dI) cs [.ref p0] sz L K I J Q) (va_Qv (fun (_ : Unit) => True) (fun _ t => sB (dC, dI) cs L K Q (fun I1 => Iv L K x0 m0 tx tm I1 ∧ (∀ b, ¬ (K b = 7 ∨ K b = 19) → I1 b = I b)) t) (fun q => q ∈ L ∨ sz ≤ q)) 0 0 (fun q => q ∈ L ∨ sz ≤ q) := by
  refine Met.ofW (cc := cX7_remembersAside) (maxL := 2) (ret := none) (by decide +kernel) rfl ?_
  intro p e s m args below meth c s₁ B hml hv
  obtain ⟨rfl, hsz, hP, hK, hD0, hN⟩ := hv
  have hx := B.exec
  have hb := B.bytes
  have hr := B.returns
  have hts := fun w (h : w ∈ pw) => atoms_spec (ws := Cond.code yX7_remembersAside cX7_remembersAside 2 none :: pw) B.pre w (List.mem_cons_of_mem _ h)
  have hown : s.vm.findClass RX7 = some m.cls := findClass_of_methodNamed B.named
  have hlocks := B.notSynchronized
  subst hsz
  have hBB : 999 ≤ tm.2 ∧ tm.2 ≤ 6000000 := hI.2.2.2.2
  have fr_I : ∀ b, ¬ (K b = 7 ∨ K b = 19) → I b = I b := fun _ _ => rfl
  obtain ⟨A, hAe⟩ : ∃ A : Nat → Prop, A = (fun q => q ∈ L ∨ s.heap.size ≤ q) := ⟨_, rfl⟩
  rw [← hAe]
  have hAL : ∀ q, q ∈ L → A q := fun q h => by rw [hAe]; exact Or.inl h
  have hA : ∀ q, s.heap.size ≤ q → A q := fun q h => by rw [hAe]; exact Or.inr h
  have hD : ∀ F, va_D A (va_pl L F) := fun F => (hD0 F).weaken (fun k q hk _ => hAL _ (pl_mem hk))
  obtain ⟨H, hHe⟩ : ∃ H : Heap, H = s.heap := ⟨_, rfl⟩
  have hS : va_S A s.heap H [] := by rw [hHe]; exact va_S.rf
  rw [← hHe] at hP
  have hl := lv_entry ([.ref p0]) (n := 2) (Nat.le_of_ble_eq_true rfl)
  rw [lg_entry_eq]
  generalize (lg_sl ([.ref p0]) ++ List.replicate (2 - (lg_sl ([.ref p0])).length) Slot.unset).toArray = ls at hl ⊢
  have hl : lv_has ls 2 [(0, .ref p0)] := hl
  rw [← hHe]
  refine namedW (fun R Qz hR hQz => ?_)
  refine lv_aload_n hx hb dX7_remembersAside_0 rfl (lv_at hl 0 rfl) ?_
  refine p_get hx hb hts inX7 hown hK hP hLp0 hKp0 rfl rfl 11 (by decide) (hts _ pq1126) rfl dX7_remembersAside_1 ?_
  refine lv_topi (fun z1 ez1 => ?_)
  have cgz1 := congrArg Int32.toInt ez1
  have bz1 := oI_7_11 (Iv_at hI hLp0 hKp0)
  rw [← ez1] at bz1
  refine lv_bipush (v := 10) hx hb dX7_remembersAside_4 (by decide +kernel) ?_
  have j56 : ∀ (I56 : Nat → Nat → Int32) (J56 : Nat → Nat → Int64) (H : Heap) (lo : List Loc) (ls : Array Slot), Iv L K x0 m0 tx tm I56 → (∀ b, ¬ (K b = 7 ∨ K b = 19) → I56 b = I b) → (I56 p0 11).toInt ≤ 9 → va_P (dC, dI) vwCl (Wd cs L K I56 J56 Q) H → va_S A s.heap H lo → lv_has ls 2 [(0, .ref p0)] → W p l e R s m (([.ref p0] : List Value).toArray) below meth c H lo 0 0 Qz (F0 m 56 ls []) := by
    intro I56 J56 H lo ls hI56 fr_I56 hp9 hP hS hl
    refine lv_aload_n hx hb dX7_remembersAside_56 rfl (lv_at hl 0 rfl) ?_
    obtain ⟨y57, ey57, hLy57, hKy57⟩ := oQ_7_2 (Sv_at hQ hLp0 hKp0)
    refine p_get (v := .ref y57) hx hb hts inX7 hown hK hP hLp0 hKp0 rfl rfl 2 (by decide) (hts _ pq1117) (congrArg (fun q => some (va_rf q)) ey57) dX7_remembersAside_57 ?_
    refine lv_aload_n hx hb dX7_remembersAside_60 rfl (lv_at hl 0 rfl) ?_
    obtain ⟨y61, ey61, hLy61, hKy61⟩ := oQ_7_7 (Sv_at hQ hLp0 hKp0)
    refine p_get (v := .ref y61) hx hb hts inX7 hown hK hP hLp0 hKp0 rfl rfl 7 (by decide) (hts _ pq1122) (congrArg (fun q => some (va_rf q)) ey61) dX7_remembersAside_61 ?_
    refine lv_iconst (v := 0) hx hb dX7_remembersAside_64 (by decide +kernel) ?_
    refine lv_aload_n hx hb dX7_remembersAside_65 rfl (lv_at hl 0 rfl) ?_
    obtain ⟨y66, ey66, hLy66, hKy66⟩ := oQ_7_3 (Sv_at hQ hLp0 hKp0)
    refine p_get (v := .ref y66) hx hb hts inX7 hown hK hP hLp0 hKp0 rfl rfl 3 (by decide) (hts _ pq1118) (congrArg (fun q => some (va_rf q)) ey66) dX7_remembersAside_66 ?_
    refine lv_aload_n hx hb dX7_remembersAside_69 rfl (lv_at hl 0 rfl) ?_
    obtain ⟨y70, ey70, hLy70, hKy70⟩ := oQ_7_8 (Sv_at hQ hLp0 hKp0)
    refine p_get (v := .ref y70) hx hb hts inX7 hown hK hP hLp0 hKp0 rfl rfl 8 (by decide) (hts _ pq1123) (congrArg (fun q => some (va_rf q)) ey70) dX7_remembersAside_70 ?_
    refine lv_aload_n hx hb dX7_remembersAside_73 rfl (lv_at hl 0 rfl) ?_
    refine p_get hx hb hts inX7 hown hK hP hLp0 hKp0 rfl rfl 11 (by decide) (hts _ pq1126) rfl dX7_remembersAside_74 ?_
    refine lv_topi (fun z74 ez74 => ?_)
    have cgz74 := congrArg Int32.toInt ez74
    have bz74 := oI_7_11 (Iv_at hI56 hLp0 hKp0)
    rw [← ez74] at bz74
    refine sw_v (Z := (fun I1 => Iv L K x0 m0 tx tm I1 ∧ (∀ b, ¬ (b = y66) → I1 b = I56 b))) (va_runS (As := [.ref y57, .ref y61, .int 0, .ref y66, .ref y70, .int z74]) (rest := []) ⟨hx, hb, hml, hown, hts⟩ (s_X7_movesP l dC dI cs L K G Q hQ x0 m0 tx tm H.size I56 J56 hI56 y57 hLy57 hKy57 y61 hLy61 hKy61 0 ⟨by decide +kernel, by decide +kernel⟩ y66 hLy66 hKy66 y70 hLy70 hKy70 z74 ⟨by omega, by omega⟩) (va_cwS 6 hts (gS pq1291 pq1292 pq81 pq1293) rfl rfl rfl (by decide +kernel) ⟨(by rw [hR]; exact (Nat.le_of_ble_eq_true rfl)), (by rw [hR]; exact (Nat.le_of_ble_eq_true rfl))⟩) (sP_S hP hD hK hN) rfl rfl hl.1 rfl (lv_room (Nat.le_of_ble_eq_true rfl)) dX7_remembersAside_77 ⟨(by rw [hR]; exact (Nat.le_of_ble_eq_true rfl)), (by rw [hR]; exact (Nat.le_of_ble_eq_true rfl))⟩) hS hAL hA (fun Iz77 Jz77 H locs hz77 hIz77 hP hS => ?_)
    obtain ⟨hIz77, frc77⟩ := hIz77
    have fr_Iz77 : ∀ b, ¬ (K b = 7 ∨ K b = 19) → Iz77 b = I b := fun b q => (frc77 b (fun z => q (by rw [z]; have := hKy66; omega))).trans (fr_I56 b q)
    refine lv_aload_n hx hb dX7_remembersAside_80 rfl (lv_at hl 0 rfl) ?_
    refine lv_dup hx hb dX7_remembersAside_81 rfl ?_
    refine p_get hx hb hts inX7 hown hK hP hLp0 hKp0 rfl rfl 11 (by decide) (hts _ pq1126) rfl dX7_remembersAside_82 ?_
    refine lv_topi (fun z82 ez82 => ?_)
    obtain rfl : z74 = z82 := by rw [ez82, frc77 p0 (ne_k hKp0 hKy66 (by decide))]; exact ez74
    have ez74x82 := ez82
    refine lv_iconst (v := 1) hx hb dX7_remembersAside_85 (by decide +kernel) ?_
    refine lv_iadd hx hb dX7_remembersAside_86 ?_
    refine lv_topi (fun z86 ez86 => ?_)
    have bz86 := tq_add (k := z74.toInt) (q := (1)) ez86 rfl (by decide +kernel) (by omega) (by omega)
    refine p_put hx hb hts inX7 tyX7 tyX7_ok nmX7 hown hK hP hD hS hLp0 hKp0 rfl rfl 11 (by decide) (hts _ pq1126) rfl (by decide +kernel) (Nat.le_of_ble_eq_true rfl) (oS_7_11 cs _ _ _ _) dX7_remembersAside_87 (fun H locs hP hS => ?_)
    obtain ⟨Iz87, hP, hIz87, qIz87⟩ : ∃ Iz87, va_P (dC, dI) vwCl (Wd cs L K Iz87 Jz77 Q) H ∧ Iv L K x0 m0 tx tm Iz87 ∧ Iz87 = va_up Iz77 p0 (upd (Iz77 p0) 11 z86) := ⟨_, hP, Iv_put hIz77 hKp0 (oP_7_11 (Iv_at hIz77 hLp0 hKp0) ⟨by omega, by omega⟩) (by decide) (by decide), rfl⟩
    have fr_Iz87 : ∀ b, ¬ (K b = 7 ∨ K b = 19) → Iz87 b = I b := fun b q => (congrFun qIz87 b).trans ((va_up_ne _ _ (fun z => q (by rw [z]; have := hKp0; omega))).trans (fr_Iz77 b q))
    subst hR; subst hQz
    exact W.vret hx hb hr (fun t ht hW => ⟨⟨(), rfl, trivial, ⟨Iz87, Jz77, ⟨hIz87, fr_Iz87⟩, by rw [ht]; exact hP⟩⟩, hS.F ht⟩) hS.2.2 dX7_remembersAside_90
  refine lv_icmp_ne (tgt := 56) hx hb dX7_remembersAside_6 (by decide) (fun c6 => ?_) (fun c6 => ?_)
  · have t6 := tq_ne (k := z1.toInt) (q := (10)) c6 rfl (by decide +kernel)
    exact j56 I J _ _ _ hI fr_I (by rw [← ez1]; omega) hP hS (lv_sub hl [0] rfl)
  · have t6 := tq_eq (k := z1.toInt) (q := (10)) c6 rfl (by decide +kernel)
    refine lv_iconst (v := 1) hx hb dX7_remembersAside_9 (by decide +kernel) ?_
    refine lv_istore_n (lv' := [(1, .int 1), (0, .ref p0)]) hx hb dX7_remembersAside_10 rfl hl (by decide) rfl (fun ls hl => ?_)
    have key11 := blocks (fun n => ∀ (v11_1 : Int32) (I11 : Nat → Nat → Int32) (J11 : Nat → Nat → Int64) (H : Heap) (lo : List Loc) (ls : Array Slot), (11 - v11_1.toInt).toNat = n → ((1) ≤ v11_1.toInt ∧ v11_1.toInt ≤ 10) → Iv L K x0 m0 tx tm I11 → (∀ b, ¬ (K b = 7 ∨ K b = 19) → I11 b = I b) → (I11 p0 11).toInt = 10 → va_P (dC, dI) vwCl (Wd cs L K I11 J11 Q) H → va_S A s.heap H lo → lv_has ls 2 [(0, .ref p0), (1, .int v11_1)] → W p l e R s m (([.ref p0] : List Value).toArray) below meth c H lo 0 0 Qz (F0 m 11 ls [])) (by
      intro n ih11
      intro v11_1 I11 J11 H lo ls hmu11 bv11_1 hI11 fr_I11 hpm hP hS hl
      refine lv_iload_n hx hb dX7_remembersAside_11 rfl (lv_at hl 1 rfl) ?_
      refine lv_bipush (v := 10) hx hb dX7_remembersAside_12 (by decide +kernel) ?_
      refine lv_icmp_ge (tgt := 46) hx hb dX7_remembersAside_14 (by decide) (fun c14 => ?_) (fun c14 => ?_)
      · have t14 := tq_le (k := (10)) (q := v11_1.toInt) c14 (by decide +kernel) rfl
        refine lv_aload_n hx hb dX7_remembersAside_46 rfl (lv_at hl 0 rfl) ?_
        refine lv_dup hx hb dX7_remembersAside_47 rfl ?_
        refine p_get hx hb hts inX7 hown hK hP hLp0 hKp0 rfl rfl 11 (by decide) (hts _ pq1126) rfl dX7_remembersAside_48 ?_
        refine lv_topi (fun z48 ez48 => ?_)
        have cgz48 := congrArg Int32.toInt ez48
        have bz48 := oI_7_11 (Iv_at hI11 hLp0 hKp0)
        rw [← ez48] at bz48
        refine lv_iconst (v := 1) hx hb dX7_remembersAside_51 (by decide +kernel) ?_
        refine lv_isub hx hb dX7_remembersAside_52 ?_
        refine lv_topi (fun z52 ez52 => ?_)
        have bz52 := tq_sub (k := z48.toInt) (q := (1)) ez52 rfl (by decide +kernel) (by omega) (by omega)
        refine p_put hx hb hts inX7 tyX7 tyX7_ok nmX7 hown hK hP hD hS hLp0 hKp0 rfl rfl 11 (by decide) (hts _ pq1126) rfl (by decide +kernel) (Nat.le_of_ble_eq_true rfl) (oS_7_11 cs _ _ _ _) dX7_remembersAside_53 (fun H locs hP hS => ?_)
        obtain ⟨Iz53, hP, hIz53, qIz53⟩ : ∃ Iz53, va_P (dC, dI) vwCl (Wd cs L K Iz53 J11 Q) H ∧ Iv L K x0 m0 tx tm Iz53 ∧ Iz53 = va_up I11 p0 (upd (I11 p0) 11 z52) := ⟨_, hP, Iv_put hI11 hKp0 (oP_7_11 (Iv_at hI11 hLp0 hKp0) ⟨by omega, by omega⟩) (by decide) (by decide), rfl⟩
        have fr_Iz53 : ∀ b, ¬ (K b = 7 ∨ K b = 19) → Iz53 b = I b := fun b q => (congrFun qIz53 b).trans ((va_up_ne _ _ (fun z => q (by rw [z]; have := hKp0; omega))).trans (fr_I11 b q))
        exact j56 Iz53 J11 _ _ _ hIz53 fr_Iz53 (by rw [qIz53, rz_at]; omega) hP hS (lv_sub hl [0] rfl)
      · have t14 := tq_nle (k := (10)) (q := v11_1.toInt) c14 (by decide +kernel) rfl
        refine lv_aload_n hx hb dX7_remembersAside_17 rfl (lv_at hl 0 rfl) ?_
        obtain ⟨y18, ey18, hLy18, hKy18⟩ := oQ_7_3 (Sv_at hQ hLp0 hKp0)
        refine p_get (v := .ref y18) hx hb hts inX7 hown hK hP hLp0 hKp0 rfl rfl 3 (by decide) (hts _ pq1118) (congrArg (fun q => some (va_rf q)) ey18) dX7_remembersAside_18 ?_
        refine lv_aload_n hx hb dX7_remembersAside_21 rfl (lv_at hl 0 rfl) ?_
        obtain ⟨y22, ey22, hLy22, hKy22⟩ := oQ_7_8 (Sv_at hQ hLp0 hKp0)
        refine p_get (v := .ref y22) hx hb hts inX7 hown hK hP hLp0 hKp0 rfl rfl 8 (by decide) (hts _ pq1123) (congrArg (fun q => some (va_rf q)) ey22) dX7_remembersAside_22 ?_
        refine lv_iload_n hx hb dX7_remembersAside_25 rfl (lv_at hl 1 rfl) ?_
        refine lv_aload_n hx hb dX7_remembersAside_26 rfl (lv_at hl 0 rfl) ?_
        refine p_get (v := .ref y18) hx hb hts inX7 hown hK hP hLp0 hKp0 rfl rfl 3 (by decide) (hts _ pq1118) (congrArg (fun q => some (va_rf q)) ey18) dX7_remembersAside_27 ?_
        refine lv_aload_n hx hb dX7_remembersAside_30 rfl (lv_at hl 0 rfl) ?_
        refine p_get (v := .ref y22) hx hb hts inX7 hown hK hP hLp0 hKp0 rfl rfl 8 (by decide) (hts _ pq1123) (congrArg (fun q => some (va_rf q)) ey22) dX7_remembersAside_31 ?_
        refine lv_iload_n hx hb dX7_remembersAside_34 rfl (lv_at hl 1 rfl) ?_
        refine lv_iconst (v := 1) hx hb dX7_remembersAside_35 (by decide +kernel) ?_
        refine lv_isub hx hb dX7_remembersAside_36 ?_
        refine lv_topi (fun z36 ez36 => ?_)
        have bz36 := tq_sub (k := v11_1.toInt) (q := (1)) ez36 rfl (by decide +kernel) (by omega) (by omega)
        refine sw_v (Z := (fun I1 => Iv L K x0 m0 tx tm I1 ∧ (∀ b, ¬ (b = y18) → I1 b = I11 b))) (va_runS (As := [.ref y18, .ref y22, .int v11_1, .ref y18, .ref y22, .int z36]) (rest := []) ⟨hx, hb, hml, hown, hts⟩ (s_X7_movesQ l dC dI cs L K G Q hQ x0 m0 tx tm H.size I11 J11 hI11 y18 hLy18 hKy18 y22 hLy22 hKy22 v11_1 ⟨by omega, by omega⟩ y18 hLy18 hKy18 y22 hLy22 hKy22 z36 ⟨by omega, by omega⟩) (va_cwS 6 hts (gS pq1291 pq1292 pq81 pq1293) rfl rfl rfl (by decide +kernel) ⟨(by rw [hR]; exact (Nat.le_of_ble_eq_true rfl)), (by rw [hR]; exact (Nat.le_of_ble_eq_true rfl))⟩) (sP_S hP hD hK hN) rfl rfl hl.1 rfl (lv_room (Nat.le_of_ble_eq_true rfl)) dX7_remembersAside_37 ⟨(by rw [hR]; exact (Nat.le_of_ble_eq_true rfl)), (by rw [hR]; exact (Nat.le_of_ble_eq_true rfl))⟩) hS hAL hA (fun Iz37 Jz37 H locs hz37 hIz37 hP hS => ?_)
        obtain ⟨hIz37, frc37⟩ := hIz37
        have fr_Iz37 : ∀ b, ¬ (K b = 7 ∨ K b = 19) → Iz37 b = I b := fun b q => (frc37 b (fun z => q (by rw [z]; have := hKy18; omega))).trans (fr_I11 b q)
        obtain ⟨z40, ez40⟩ : ∃ y : Int32, y = v11_1 + 1 := ⟨_, rfl⟩
        refine lv_iinc (v := z40) (lv' := [(1, .int z40), (0, .ref p0)]) hx hb dX7_remembersAside_40 hl (k := 1) rfl (by rw [ez40]; rfl) (by decide) rfl (fun ls hl => ?_)
        have bz40 := tq_add (k := v11_1.toInt) (q := 1) ez40 rfl (by decide +kernel) (by omega) (by omega)
        refine lv_goto (tgt := 11) hx hb dX7_remembersAside_43 (by decide) ?_
        exact ih11 _ (by omega) z40 Iz37 Jz37 _ _ _ rfl ⟨by omega, by omega⟩ hIz37 fr_Iz37 (by rw [frc37 p0 (ne_k hKp0 hKy18 (by decide))]; exact hpm) hP hS (lv_sub hl [1, 0] rfl))
    exact key11 _ 1 I J _ _ _ rfl ⟨by decide +kernel, by decide +kernel⟩ hI fr_I (by rw [← ez1]; omega) hP hS (lv_sub hl [1, 0] rfl)

set_option maxHeartbeats 4000000 in
set_option maxRecDepth 100000 in
theorem s_X7_keepsPast (l : Launch) (dC : Nat → ClassId) (dI : Nat → Nat → Nat) (cs : Nat → ClassId) (L : List Nat) (K G : Nat → Nat) (Q : Nat → Nat → Option Nat) (hQ : Sv L K G Q) (x0 m0 : Nat) (tx : Int32) (tm : Int32 × Int) (sz : Nat) (I : Nat → Nat → Int32) (J : Nat → Nat → Int64) (hI : Iv L K x0 m0 tx tm I) (p0 : Nat) (hLp0 : p0 ∈ L) (hKp0 : K p0 = 7) : Met l yX7_keepsPast (.code yX7_keepsPast cX7_keepsPast 1 none :: pw) ({ frames := 2, cells := 0, slots := 0, locals := 47 }) (sP (dC, dI) cs [.ref p0] sz L K I J Q) (va_Qv (fun (_ : Unit) => True) (fun _ t => sB (dC, dI) cs L K Q (fun I1 => Iv L K x0 m0 tx tm I1 ∧ (∀ b, ¬ (K b = 7 ∨ K b = 19 ∨ K b = 30) → I1 b = I b)) t) (fun q => q ∈ L ∨ sz ≤ q)) 0 0 (fun q => q ∈ L ∨ sz ≤ q) := by
  refine Met.ofW (cc := cX7_keepsPast) (maxL := 1) (ret := none) (by decide +kernel) rfl ?_
  intro p e s m args below meth c s₁ B hml hv
  obtain ⟨rfl, hsz, hP, hK, hD0, hN⟩ := hv
  have hx := B.exec
  have hb := B.bytes
  have hr := B.returns
  have hts := fun w (h : w ∈ pw) => atoms_spec (ws := Cond.code yX7_keepsPast cX7_keepsPast 1 none :: pw) B.pre w (List.mem_cons_of_mem _ h)
  have hown : s.vm.findClass RX7 = some m.cls := findClass_of_methodNamed B.named
  have hlocks := B.notSynchronized
  subst hsz
  have hBB : 999 ≤ tm.2 ∧ tm.2 ≤ 6000000 := hI.2.2.2.2
  have fr_I : ∀ b, ¬ (K b = 7 ∨ K b = 19 ∨ K b = 30) → I b = I b := fun _ _ => rfl
  obtain ⟨A, hAe⟩ : ∃ A : Nat → Prop, A = (fun q => q ∈ L ∨ s.heap.size ≤ q) := ⟨_, rfl⟩
  rw [← hAe]
  have hAL : ∀ q, q ∈ L → A q := fun q h => by rw [hAe]; exact Or.inl h
  have hA : ∀ q, s.heap.size ≤ q → A q := fun q h => by rw [hAe]; exact Or.inr h
  have hD : ∀ F, va_D A (va_pl L F) := fun F => (hD0 F).weaken (fun k q hk _ => hAL _ (pl_mem hk))
  obtain ⟨H, hHe⟩ : ∃ H : Heap, H = s.heap := ⟨_, rfl⟩
  have hS : va_S A s.heap H [] := by rw [hHe]; exact va_S.rf
  rw [← hHe] at hP
  have hl := lv_entry ([.ref p0]) (n := 1) (Nat.le_of_ble_eq_true rfl)
  rw [lg_entry_eq]
  generalize (lg_sl ([.ref p0]) ++ List.replicate (1 - (lg_sl ([.ref p0])).length) Slot.unset).toArray = ls at hl ⊢
  have hl : lv_has ls 1 [(0, .ref p0)] := hl
  rw [← hHe]
  refine namedW (fun R Qz hR hQz => ?_)
  refine lv_aload_n hx hb dX7_keepsPast_0 rfl (lv_at hl 0 rfl) ?_
  refine sw_v (Z := (fun I1 => Iv L K x0 m0 tx tm I1 ∧ (∀ b, ¬ (K b = 30) → I1 b = I b))) (va_runV (As := []) (rest := []) ⟨hx, hb, hml, hown, hts⟩ (s_X7_laysAside l dC dI cs L K G Q hQ x0 m0 tx tm H.size I J hI p0 hLp0 hKp0) (cwV 0 hts (gV pq1328 pq1330 pq27 pq81 pq1331) rfl rfl rfl (by decide +kernel) ⟨(by rw [hR]; exact (Nat.le_of_ble_eq_true rfl)), (by rw [hR]; exact (Nat.le_of_ble_eq_true rfl))⟩) (sP_V hP hD hK hN hLp0 hKp0 rfl rfl) rfl rfl hl.1 rfl (lv_room (Nat.le_of_ble_eq_true rfl)) dX7_keepsPast_1 ⟨(by rw [hR]; exact (Nat.le_of_ble_eq_true rfl)), (by rw [hR]; exact (Nat.le_of_ble_eq_true rfl))⟩) hS hAL hA (fun Iz1 Jz1 H locs hz1 hIz1 hP hS => ?_)
  obtain ⟨hIz1, frc1⟩ := hIz1
  have fr_Iz1 : ∀ b, ¬ (K b = 7 ∨ K b = 19 ∨ K b = 30) → Iz1 b = I b := fun b q => (frc1 b (fun z => q (by omega))).trans (fr_I b q)
  refine lv_aload_n hx hb dX7_keepsPast_4 rfl (lv_at hl 0 rfl) ?_
  refine sw_v (Z := (fun I1 => Iv L K x0 m0 tx tm I1 ∧ (∀ b, ¬ (K b = 7 ∨ K b = 19) → I1 b = Iz1 b))) (va_runV (As := []) (rest := []) ⟨hx, hb, hml, hown, hts⟩ (s_X7_remembersAside l dC dI cs L K G Q hQ x0 m0 tx tm H.size Iz1 Jz1 hIz1 p0 hLp0 hKp0) (cwV 0 hts (gV pq1332 pq1334 pq28 pq81 pq1335) rfl rfl rfl (by decide +kernel) ⟨(by rw [hR]; exact (Nat.le_of_ble_eq_true rfl)), (by rw [hR]; exact (Nat.le_of_ble_eq_true rfl))⟩) (sP_V hP hD hK hN hLp0 hKp0 rfl rfl) rfl rfl hl.1 rfl (lv_room (Nat.le_of_ble_eq_true rfl)) dX7_keepsPast_5 ⟨(by rw [hR]; exact (Nat.le_of_ble_eq_true rfl)), (by rw [hR]; exact (Nat.le_of_ble_eq_true rfl))⟩) hS hAL hA (fun Iz5 Jz5 H locs hz5 hIz5 hP hS => ?_)
  obtain ⟨hIz5, frc5⟩ := hIz5
  have fr_Iz5 : ∀ b, ¬ (K b = 7 ∨ K b = 19 ∨ K b = 30) → Iz5 b = I b := fun b q => (frc5 b (fun z => q (by omega))).trans (fr_Iz1 b q)
  subst hR; subst hQz
  exact W.vret hx hb hr (fun t ht hW => ⟨⟨(), rfl, trivial, ⟨Iz5, Jz5, ⟨hIz5, fr_Iz5⟩, by rw [ht]; exact hP⟩⟩, hS.F ht⟩) hS.2.2 dX7_keepsPast_8

set_option maxHeartbeats 4000000 in
set_option maxRecDepth 100000 in
theorem s_X7_undo (l : Launch) (dC : Nat → ClassId) (dI : Nat → Nat → Nat) (cs : Nat → ClassId) (L : List Nat) (K G : Nat → Nat) (Q : Nat → Nat → Option Nat) (hQ : Sv L K G Q) (x0 m0 : Nat) (tx : Int32) (tm : Int32 × Int) (sz : Nat) (I : Nat → Nat → Int32) (J : Nat → Nat → Int64) (hI : Iv L K x0 m0 tx tm I) (p0 : Nat) (hLp0 : p0 ∈ L) (hKp0 : K p0 = 7) : Met l yX7_undo (.code yX7_undo cX7_undo 1 (some .int) :: pw) ({ frames := 1, cells := 0, slots := 0, locals := 26 }) (sP (dC, dI) cs [.ref p0] sz L K I J Q) (va_Qi (fun (r : Int32) (_ : Unit) => True) (fun _ t => sB (dC, dI) cs L K Q (Iv L K x0 m0 tx tm) t) (fun q => q ∈ L ∨ sz ≤ q)) 0 0 (fun q => q ∈ L ∨ sz ≤ q) := by
  refine Met.ofW (cc := cX7_undo) (maxL := 1) (ret := (some .int)) (by decide +kernel) rfl ?_
  intro p e s m args below meth c s₁ B hml hv
  obtain ⟨rfl, hsz, hP, hK, hD0, hN⟩ := hv
  have hx := B.exec
  have hb := B.bytes
  have hr := B.returns
  have hts := fun w (h : w ∈ pw) => atoms_spec (ws := Cond.code yX7_undo cX7_undo 1 (some .int) :: pw) B.pre w (List.mem_cons_of_mem _ h)
  have hown : s.vm.findClass RX7 = some m.cls := findClass_of_methodNamed B.named
  have hlocks := B.notSynchronized
  subst hsz
  have hBB : 999 ≤ tm.2 ∧ tm.2 ≤ 6000000 := hI.2.2.2.2
  obtain ⟨A, hAe⟩ : ∃ A : Nat → Prop, A = (fun q => q ∈ L ∨ s.heap.size ≤ q) := ⟨_, rfl⟩
  rw [← hAe]
  have hAL : ∀ q, q ∈ L → A q := fun q h => by rw [hAe]; exact Or.inl h
  have hA : ∀ q, s.heap.size ≤ q → A q := fun q h => by rw [hAe]; exact Or.inr h
  have hD : ∀ F, va_D A (va_pl L F) := fun F => (hD0 F).weaken (fun k q hk _ => hAL _ (pl_mem hk))
  obtain ⟨H, hHe⟩ : ∃ H : Heap, H = s.heap := ⟨_, rfl⟩
  have hS : va_S A s.heap H [] := by rw [hHe]; exact va_S.rf
  rw [← hHe] at hP
  have hl := lv_entry ([.ref p0]) (n := 1) (Nat.le_of_ble_eq_true rfl)
  rw [lg_entry_eq]
  generalize (lg_sl ([.ref p0]) ++ List.replicate (1 - (lg_sl ([.ref p0])).length) Slot.unset).toArray = ls at hl ⊢
  have hl : lv_has ls 1 [(0, .ref p0)] := hl
  rw [← hHe]
  refine namedW (fun R Qz hR hQz => ?_)
  refine lv_aload_n hx hb dX7_undo_0 rfl (lv_at hl 0 rfl) ?_
  refine p_get hx hb hts inX7 hown hK hP hLp0 hKp0 rfl rfl 11 (by decide) (hts _ pq1126) rfl dX7_undo_1 ?_
  refine lv_topi (fun z1 ez1 => ?_)
  have cgz1 := congrArg Int32.toInt ez1
  have bz1 := oI_7_11 (Iv_at hI hLp0 hKp0)
  rw [← ez1] at bz1
  refine lv_if_ne (tgt := 9) hx hb dX7_undo_4 (by decide) (fun c4 => ?_) (fun c4 => ?_)
  · have t4 := tq_ne (k := z1.toInt) (q := (0)) c4 rfl (by decide +kernel)
    refine lv_aload_n hx hb dX7_undo_9 rfl (lv_at hl 0 rfl) ?_
    refine lv_dup hx hb dX7_undo_10 rfl ?_
    refine p_get hx hb hts inX7 hown hK hP hLp0 hKp0 rfl rfl 11 (by decide) (hts _ pq1126) rfl dX7_undo_11 ?_
    refine lv_topi (fun z11 ez11 => ?_)
    obtain rfl : z1 = z11 := ez1.trans ez11.symm
    refine lv_iconst (v := 1) hx hb dX7_undo_14 (by decide +kernel) ?_
    refine lv_isub hx hb dX7_undo_15 ?_
    refine lv_topi (fun z15 ez15 => ?_)
    have bz15 := tq_sub (k := z1.toInt) (q := (1)) ez15 rfl (by decide +kernel) (by omega) (by omega)
    refine p_put hx hb hts inX7 tyX7 tyX7_ok nmX7 hown hK hP hD hS hLp0 hKp0 rfl rfl 11 (by decide) (hts _ pq1126) rfl (by decide +kernel) (Nat.le_of_ble_eq_true rfl) (oS_7_11 cs _ _ _ _) dX7_undo_16 (fun H locs hP hS => ?_)
    obtain ⟨Iz16, hP, hIz16, qIz16⟩ : ∃ Iz16, va_P (dC, dI) vwCl (Wd cs L K Iz16 J Q) H ∧ Iv L K x0 m0 tx tm Iz16 ∧ Iz16 = va_up I p0 (upd (I p0) 11 z15) := ⟨_, hP, Iv_put hI hKp0 (oP_7_11 (Iv_at hI hLp0 hKp0) ⟨by omega, by omega⟩) (by decide) (by decide), rfl⟩
    refine lv_aload_n hx hb dX7_undo_19 rfl (lv_at hl 0 rfl) ?_
    obtain ⟨y20, ey20, hLy20, hKy20⟩ := oQ_7_3 (Sv_at hQ hLp0 hKp0)
    refine p_get (v := .ref y20) hx hb hts inX7 hown hK hP hLp0 hKp0 rfl rfl 3 (by decide) (hts _ pq1118) (congrArg (fun q => some (va_rf q)) ey20) dX7_undo_20 ?_
    refine lv_aload_n hx hb dX7_undo_23 rfl (lv_at hl 0 rfl) ?_
    obtain ⟨y24, ey24, hLy24, hKy24⟩ := oQ_7_8 (Sv_at hQ hLp0 hKp0)
    refine p_get (v := .ref y24) hx hb hts inX7 hown hK hP hLp0 hKp0 rfl rfl 8 (by decide) (hts _ pq1123) (congrArg (fun q => some (va_rf q)) ey24) dX7_undo_24 ?_
    refine lv_aload_n hx hb dX7_undo_27 rfl (lv_at hl 0 rfl) ?_
    refine p_get hx hb hts inX7 hown hK hP hLp0 hKp0 rfl rfl 11 (by decide) (hts _ pq1126) rfl dX7_undo_28 ?_
    refine lv_topi (fun z28 ez28 => ?_)
    have cgz28 := congrArg Int32.toInt ez28
    have bz28 := oI_7_11 (Iv_at hIz16 hLp0 hKp0)
    rw [← ez28] at bz28
    have c28 := congrArg Int32.toInt (ez28.trans (show Iz16 p0 11 = z15 by rw [qIz16, rz_at]))
    refine lv_aload_n hx hb dX7_undo_31 rfl (lv_at hl 0 rfl) ?_
    obtain ⟨y32, ey32, hLy32, hKy32⟩ := oQ_7_0 (Sv_at hQ hLp0 hKp0)
    refine p_get (v := .ref y32) hx hb hts inX7 hown hK hP hLp0 hKp0 rfl rfl 0 (by decide) (hts _ pq1115) (congrArg (fun q => some (va_rf q)) ey32) dX7_undo_32 ?_
    refine lv_aload_n hx hb dX7_undo_35 rfl (lv_at hl 0 rfl) ?_
    obtain ⟨y36, ey36, hLy36, hKy36⟩ := oQ_7_5 (Sv_at hQ hLp0 hKp0)
    refine p_get (v := .ref y36) hx hb hts inX7 hown hK hP hLp0 hKp0 rfl rfl 5 (by decide) (hts _ pq1120) (congrArg (fun q => some (va_rf q)) ey36) dX7_undo_36 ?_
    refine lv_iconst (v := 0) hx hb dX7_undo_39 (by decide +kernel) ?_
    refine sw_v (Z := (fun I1 => Iv L K x0 m0 tx tm I1 ∧ (∀ b, ¬ (b = y32) → I1 b = Iz16 b))) (va_runS (As := [.ref y20, .ref y24, .int z28, .ref y32, .ref y36, .int 0]) (rest := []) ⟨hx, hb, hml, hown, hts⟩ (s_X7_movesU l dC dI cs L K G Q hQ x0 m0 tx tm H.size Iz16 J hIz16 y20 hLy20 hKy20 y24 hLy24 hKy24 z28 ⟨by omega, by omega⟩ y32 hLy32 hKy32 y36 hLy36 hKy36 0 ⟨by decide +kernel, by decide +kernel⟩) (va_cwS 6 hts (gS pq1291 pq1292 pq81 pq1293) rfl rfl rfl (by decide +kernel) ⟨(by rw [hR]; exact (Nat.le_of_ble_eq_true rfl)), (by rw [hR]; exact (Nat.le_of_ble_eq_true rfl))⟩) (sP_S hP hD hK hN) rfl rfl hl.1 rfl (lv_room (Nat.le_of_ble_eq_true rfl)) dX7_undo_40 ⟨(by rw [hR]; exact (Nat.le_of_ble_eq_true rfl)), (by rw [hR]; exact (Nat.le_of_ble_eq_true rfl))⟩) hS hAL hA (fun Iz40 Jz40 H locs hz40 hIz40 hP hS => ?_)
    obtain ⟨hIz40, frc40⟩ := hIz40
    refine lv_aload_n hx hb dX7_undo_43 rfl (lv_at hl 0 rfl) ?_
    refine p_get hx hb hts inX7 hown hK hP hLp0 hKp0 rfl rfl 11 (by decide) (hts _ pq1126) rfl dX7_undo_44 ?_
    refine lv_topi (fun z44 ez44 => ?_)
    obtain rfl : z28 = z44 := by rw [ez44, frc40 p0 (ne_k hKp0 hKy32 (by decide))]; exact ez28
    have ez28x44 := ez44
    subst hR; subst hQz
    exact W.iret (v := z28) hx hb hr (fun t ht hW => ⟨⟨z28, (), rfl, trivial, ⟨Iz40, Jz40, hIz40, by rw [ht]; exact hP⟩⟩, hS.F ht⟩) hS.2.2 dX7_undo_47
  · have t4 := tq_eq (k := z1.toInt) (q := (0)) c4 rfl (by decide +kernel)
    refine lv_iconst (v := (-1)) hx hb dX7_undo_7 (by decide +kernel) ?_
    subst hR; subst hQz
    exact W.iret (v := (-1)) hx hb hr (fun t ht hW => ⟨⟨(-1), (), rfl, trivial, ⟨I, J, hI, by rw [ht]; exact hP⟩⟩, hS.F ht⟩) hS.2.2 dX7_undo_8

set_option maxHeartbeats 4000000 in
set_option maxRecDepth 100000 in
theorem s_X7_keep (l : Launch) (dC : Nat → ClassId) (dI : Nat → Nat → Nat) (cs : Nat → ClassId) (L : List Nat) (K G : Nat → Nat) (Q : Nat → Nat → Option Nat) (hQ : Sv L K G Q) (x0 m0 : Nat) (tx : Int32) (tm : Int32 × Int) (sz : Nat) (I : Nat → Nat → Int32) (J : Nat → Nat → Int64) (hI : Iv L K x0 m0 tx tm I) (p0 : Nat) (hLp0 : p0 ∈ L) (hKp0 : K p0 = 7) (p1 : Int32) : Met l yX7_keep (.code yX7_keep cX7_keep 2 (some .int) :: pw) ({ frames := 1, cells := 0, slots := 0, locals := 26 }) (sP (dC, dI) cs [.ref p0, .int p1] sz L K I J Q) (va_Qi (fun (r : Int32) (_ : Unit) => True) (fun _ t => sB (dC, dI) cs L K Q (Iv L K x0 m0 tx tm) t) (fun q => q ∈ L ∨ sz ≤ q)) 0 0 (fun q => q ∈ L ∨ sz ≤ q) := by
  refine Met.ofW (cc := cX7_keep) (maxL := 2) (ret := (some .int)) (by decide +kernel) rfl ?_
  intro p e s m args below meth c s₁ B hml hv
  obtain ⟨rfl, hsz, hP, hK, hD0, hN⟩ := hv
  have hx := B.exec
  have hb := B.bytes
  have hr := B.returns
  have hts := fun w (h : w ∈ pw) => atoms_spec (ws := Cond.code yX7_keep cX7_keep 2 (some .int) :: pw) B.pre w (List.mem_cons_of_mem _ h)
  have hown : s.vm.findClass RX7 = some m.cls := findClass_of_methodNamed B.named
  have hlocks := B.notSynchronized
  subst hsz
  have hBB : 999 ≤ tm.2 ∧ tm.2 ≤ 6000000 := hI.2.2.2.2
  obtain ⟨A, hAe⟩ : ∃ A : Nat → Prop, A = (fun q => q ∈ L ∨ s.heap.size ≤ q) := ⟨_, rfl⟩
  rw [← hAe]
  have hAL : ∀ q, q ∈ L → A q := fun q h => by rw [hAe]; exact Or.inl h
  have hA : ∀ q, s.heap.size ≤ q → A q := fun q h => by rw [hAe]; exact Or.inr h
  have hD : ∀ F, va_D A (va_pl L F) := fun F => (hD0 F).weaken (fun k q hk _ => hAL _ (pl_mem hk))
  obtain ⟨H, hHe⟩ : ∃ H : Heap, H = s.heap := ⟨_, rfl⟩
  have hS : va_S A s.heap H [] := by rw [hHe]; exact va_S.rf
  rw [← hHe] at hP
  have hl := lv_entry ([.ref p0, .int p1]) (n := 2) (Nat.le_of_ble_eq_true rfl)
  rw [lg_entry_eq]
  generalize (lg_sl ([.ref p0, .int p1]) ++ List.replicate (2 - (lg_sl ([.ref p0, .int p1])).length) Slot.unset).toArray = ls at hl ⊢
  have hl : lv_has ls 2 [(0, .ref p0), (1, .int p1)] := hl
  rw [← hHe]
  refine namedW (fun R Qz hR hQz => ?_)
  refine lv_iload_n hx hb dX7_keep_0 rfl (lv_at hl 1 rfl) ?_
  refine lv_i2l hx hb dX7_keep_1 rfl ?_
  refine lv_topl (fun z1 ez1 => ?_)
  have bz1 := tq_i2l (k := p1.toInt) ez1 rfl
  refine lv_lconst (v := 0) hx hb dX7_keep_2 (by decide +kernel) ?_
  refine lv_lconst (v := 1) hx hb dX7_keep_3 (by decide +kernel) ?_
  refine ro_i (va_runS (As := [.long z1, .long 0, .long 1]) (rest := []) ⟨hx, hb, hml, hown, hts⟩ (s_X7_in l dC dI cs L K Q H.size I J z1 0 1) (va_cwS 3 hts (gS pq1234 pq1235 pq81 pq1236) rfl rfl rfl (by decide +kernel) ⟨(by rw [hR]; exact (Nat.le_of_ble_eq_true rfl)), (by rw [hR]; exact (Nat.le_of_ble_eq_true rfl))⟩) (sP_S hP hD hK hN) rfl rfl hl.1 rfl (lv_room (Nat.le_of_ble_eq_true rfl)) dX7_keep_4 ⟨(by rw [hR]; exact (Nat.le_of_ble_eq_true rfl)), (by rw [hR]; exact (Nat.le_of_ble_eq_true rfl))⟩) hS hP (fun z4 H locs hz4 hP hS => ?_)
  have csl4_0 : (0 : Int64).toInt = 0 := by decide +kernel
  have csl4_1 : (1 : Int64).toInt = 1 := by decide +kernel
  obtain ⟨bz4, imz4⟩ := hz4
  refine lv_if_ne (tgt := 12) hx hb dX7_keep_7 (by decide) (fun c7 => ?_) (fun c7 => ?_)
  · have t7 := tq_ne (k := z4.toInt) (q := (0)) c7 rfl (by decide +kernel)
    have i7 := imz4 t7
    refine lv_aload_n hx hb dX7_keep_12 rfl (lv_at hl 0 rfl) ?_
    obtain ⟨y13, ey13, hLy13, hKy13⟩ := oQ_7_0 (Sv_at hQ hLp0 hKp0)
    refine p_get (v := .ref y13) hx hb hts inX7 hown hK hP hLp0 hKp0 rfl rfl 0 (by decide) (hts _ pq1115) (congrArg (fun q => some (va_rf q)) ey13) dX7_keep_13 ?_
    refine lv_aload_n hx hb dX7_keep_16 rfl (lv_at hl 0 rfl) ?_
    obtain ⟨y17, ey17, hLy17, hKy17⟩ := oQ_7_5 (Sv_at hQ hLp0 hKp0)
    refine p_get (v := .ref y17) hx hb hts inX7 hown hK hP hLp0 hKp0 rfl rfl 5 (by decide) (hts _ pq1120) (congrArg (fun q => some (va_rf q)) ey17) dX7_keep_17 ?_
    refine lv_iconst (v := 0) hx hb dX7_keep_20 (by decide +kernel) ?_
    refine lv_aload_n hx hb dX7_keep_21 rfl (lv_at hl 0 rfl) ?_
    obtain ⟨y22, ey22, hLy22, hKy22⟩ := oQ_7_4 (Sv_at hQ hLp0 hKp0)
    refine p_get (v := .ref y22) hx hb hts inX7 hown hK hP hLp0 hKp0 rfl rfl 4 (by decide) (hts _ pq1119) (congrArg (fun q => some (va_rf q)) ey22) dX7_keep_22 ?_
    refine lv_aload_n hx hb dX7_keep_25 rfl (lv_at hl 0 rfl) ?_
    obtain ⟨y26, ey26, hLy26, hKy26⟩ := oQ_7_9 (Sv_at hQ hLp0 hKp0)
    refine p_get (v := .ref y26) hx hb hts inX7 hown hK hP hLp0 hKp0 rfl rfl 9 (by decide) (hts _ pq1124) (congrArg (fun q => some (va_rf q)) ey26) dX7_keep_26 ?_
    refine lv_iload_n hx hb dX7_keep_29 rfl (lv_at hl 1 rfl) ?_
    refine sw_v (Z := (fun I1 => Iv L K x0 m0 tx tm I1 ∧ (∀ b, ¬ (b = y22) → I1 b = I b))) (va_runS (As := [.ref y13, .ref y17, .int 0, .ref y22, .ref y26, .int p1]) (rest := []) ⟨hx, hb, hml, hown, hts⟩ (s_X7_movesK l dC dI cs L K G Q hQ x0 m0 tx tm H.size I J hI y13 hLy13 hKy13 y17 hLy17 hKy17 0 ⟨by decide +kernel, by decide +kernel⟩ y22 hLy22 hKy22 y26 hLy26 hKy26 p1 ⟨by omega, by omega⟩) (va_cwS 6 hts (gS pq1291 pq1292 pq81 pq1293) rfl rfl rfl (by decide +kernel) ⟨(by rw [hR]; exact (Nat.le_of_ble_eq_true rfl)), (by rw [hR]; exact (Nat.le_of_ble_eq_true rfl))⟩) (sP_S hP hD hK hN) rfl rfl hl.1 rfl (lv_room (Nat.le_of_ble_eq_true rfl)) dX7_keep_30 ⟨(by rw [hR]; exact (Nat.le_of_ble_eq_true rfl)), (by rw [hR]; exact (Nat.le_of_ble_eq_true rfl))⟩) hS hAL hA (fun Iz30 Jz30 H locs hz30 hIz30 hP hS => ?_)
    obtain ⟨hIz30, frc30⟩ := hIz30
    refine lv_aload_n hx hb dX7_keep_33 rfl (lv_at hl 0 rfl) ?_
    obtain ⟨y34, ey34, hLy34, hKy34⟩ := oQ_7_10 (Sv_at hQ hLp0 hKp0)
    refine p_get (v := .ref y34) hx hb hts inX7 hown hK hP hLp0 hKp0 rfl rfl 10 (by decide) (hts _ pq1125) (congrArg (fun q => some (va_rf q)) ey34) dX7_keep_34 ?_
    refine lv_iload_n hx hb dX7_keep_37 rfl (lv_at hl 1 rfl) ?_
    refine lv_iconst (v := 1) hx hb dX7_keep_38 (by decide +kernel) ?_
    refine p_zast hx hb hK hP hD hS 14 hLy34 hKy34 rfl (fun _ => rfl) rfl (in_of (by omega) (by omega)) dX7_keep_39 (fun H locs hP hS => ?_)
    obtain ⟨Iz39, hP, hIz39, qIz39⟩ : ∃ Iz39, va_P (dC, dI) vwCl (Wd cs L K Iz39 Jz30 Q) H ∧ Iv L K x0 m0 tx tm Iz39 ∧ Iz39 = va_up Iz30 y34 (upd (Iz30 y34) p1.toNatClampNeg (vp_nar .boolean (1 : Int32))) := ⟨_, hP, Iv_put hIz30 hKy34 (show okI _ 24 _ from trivial) (Or.inl (by decide)) (Or.inl (by decide)), rfl⟩
    refine lv_aload_n hx hb dX7_keep_40 rfl (lv_at hl 0 rfl) ?_
    refine p_get (v := .ref y13) hx hb hts inX7 hown hK hP hLp0 hKp0 rfl rfl 0 (by decide) (hts _ pq1115) (congrArg (fun q => some (va_rf q)) ey13) dX7_keep_41 ?_
    refine lv_iconst (v := 1) hx hb dX7_keep_44 (by decide +kernel) ?_
    refine p_iald hx hb hK hP 8 hLy13 hKy13 rfl rfl (in_d (by decide +kernel)) dX7_keep_45 ?_
    refine lv_topi (fun z45 ez45 => ?_)
    have bz45 := rng1 (oR_18 (i := (1 : Int32)) (k := (1)) (by decide +kernel) (Iv_at hIz39 hLy13 hKy13))
    rw [← ez45] at bz45
    subst hR; subst hQz
    exact W.iret (v := z45) hx hb hr (fun t ht hW => ⟨⟨z45, (), rfl, trivial, ⟨Iz39, Jz30, hIz39, by rw [ht]; exact hP⟩⟩, hS.F ht⟩) hS.2.2 dX7_keep_46
  · have t7 := tq_eq (k := z4.toInt) (q := (0)) c7 rfl (by decide +kernel)
    refine lv_iconst (v := (-1)) hx hb dX7_keep_10 (by decide +kernel) ?_
    subst hR; subst hQz
    exact W.iret (v := (-1)) hx hb hr (fun t ht hW => ⟨⟨(-1), (), rfl, trivial, ⟨I, J, hI, by rw [ht]; exact hP⟩⟩, hS.F ht⟩) hS.2.2 dX7_keep_11

set_option maxHeartbeats 4000000 in
set_option maxRecDepth 100000 in
theorem s_X7_back (l : Launch) (dC : Nat → ClassId) (dI : Nat → Nat → Nat) (cs : Nat → ClassId) (L : List Nat) (K G : Nat → Nat) (Q : Nat → Nat → Option Nat) (hQ : Sv L K G Q) (x0 m0 : Nat) (tx : Int32) (tm : Int32 × Int) (sz : Nat) (I : Nat → Nat → Int32) (J : Nat → Nat → Int64) (hI : Iv L K x0 m0 tx tm I) (p0 : Nat) (hLp0 : p0 ∈ L) (hKp0 : K p0 = 7) (p1 : Int32) : Met l yX7_back (.code yX7_back cX7_back 2 (some .int) :: pw) ({ frames := 1, cells := 0, slots := 0, locals := 26 }) (sP (dC, dI) cs [.ref p0, .int p1] sz L K I J Q) (va_Qi (fun (r : Int32) (_ : Unit) => True) (fun _ t => sB (dC, dI) cs L K Q (Iv L K x0 m0 tx tm) t) (fun q => q ∈ L ∨ sz ≤ q)) 0 0 (fun q => q ∈ L ∨ sz ≤ q) := by
  refine Met.ofW (cc := cX7_back) (maxL := 2) (ret := (some .int)) (by decide +kernel) rfl ?_
  intro p e s m args below meth c s₁ B hml hv
  obtain ⟨rfl, hsz, hP, hK, hD0, hN⟩ := hv
  have hx := B.exec
  have hb := B.bytes
  have hr := B.returns
  have hts := fun w (h : w ∈ pw) => atoms_spec (ws := Cond.code yX7_back cX7_back 2 (some .int) :: pw) B.pre w (List.mem_cons_of_mem _ h)
  have hown : s.vm.findClass RX7 = some m.cls := findClass_of_methodNamed B.named
  have hlocks := B.notSynchronized
  subst hsz
  have hBB : 999 ≤ tm.2 ∧ tm.2 ≤ 6000000 := hI.2.2.2.2
  obtain ⟨A, hAe⟩ : ∃ A : Nat → Prop, A = (fun q => q ∈ L ∨ s.heap.size ≤ q) := ⟨_, rfl⟩
  rw [← hAe]
  have hAL : ∀ q, q ∈ L → A q := fun q h => by rw [hAe]; exact Or.inl h
  have hA : ∀ q, s.heap.size ≤ q → A q := fun q h => by rw [hAe]; exact Or.inr h
  have hD : ∀ F, va_D A (va_pl L F) := fun F => (hD0 F).weaken (fun k q hk _ => hAL _ (pl_mem hk))
  obtain ⟨H, hHe⟩ : ∃ H : Heap, H = s.heap := ⟨_, rfl⟩
  have hS : va_S A s.heap H [] := by rw [hHe]; exact va_S.rf
  rw [← hHe] at hP
  have hl := lv_entry ([.ref p0, .int p1]) (n := 2) (Nat.le_of_ble_eq_true rfl)
  rw [lg_entry_eq]
  generalize (lg_sl ([.ref p0, .int p1]) ++ List.replicate (2 - (lg_sl ([.ref p0, .int p1])).length) Slot.unset).toArray = ls at hl ⊢
  have hl : lv_has ls 2 [(0, .ref p0), (1, .int p1)] := hl
  rw [← hHe]
  refine namedW (fun R Qz hR hQz => ?_)
  refine lv_iload_n hx hb dX7_back_0 rfl (lv_at hl 1 rfl) ?_
  refine lv_i2l hx hb dX7_back_1 rfl ?_
  refine lv_topl (fun z1 ez1 => ?_)
  have bz1 := tq_i2l (k := p1.toInt) ez1 rfl
  refine lv_lconst (v := 0) hx hb dX7_back_2 (by decide +kernel) ?_
  refine lv_lconst (v := 1) hx hb dX7_back_3 (by decide +kernel) ?_
  refine ro_i (va_runS (As := [.long z1, .long 0, .long 1]) (rest := []) ⟨hx, hb, hml, hown, hts⟩ (s_X7_in l dC dI cs L K Q H.size I J z1 0 1) (va_cwS 3 hts (gS pq1234 pq1235 pq81 pq1236) rfl rfl rfl (by decide +kernel) ⟨(by rw [hR]; exact (Nat.le_of_ble_eq_true rfl)), (by rw [hR]; exact (Nat.le_of_ble_eq_true rfl))⟩) (sP_S hP hD hK hN) rfl rfl hl.1 rfl (lv_room (Nat.le_of_ble_eq_true rfl)) dX7_back_4 ⟨(by rw [hR]; exact (Nat.le_of_ble_eq_true rfl)), (by rw [hR]; exact (Nat.le_of_ble_eq_true rfl))⟩) hS hP (fun z4 H locs hz4 hP hS => ?_)
  have csl4_0 : (0 : Int64).toInt = 0 := by decide +kernel
  have csl4_1 : (1 : Int64).toInt = 1 := by decide +kernel
  obtain ⟨bz4, imz4⟩ := hz4
  refine lv_if_ne (tgt := 12) hx hb dX7_back_7 (by decide) (fun c7 => ?_) (fun c7 => ?_)
  · have t7 := tq_ne (k := z4.toInt) (q := (0)) c7 rfl (by decide +kernel)
    have i7 := imz4 t7
    refine lv_aload_n hx hb dX7_back_12 rfl (lv_at hl 0 rfl) ?_
    obtain ⟨y13, ey13, hLy13, hKy13⟩ := oQ_7_10 (Sv_at hQ hLp0 hKp0)
    refine p_get (v := .ref y13) hx hb hts inX7 hown hK hP hLp0 hKp0 rfl rfl 10 (by decide) (hts _ pq1125) (congrArg (fun q => some (va_rf q)) ey13) dX7_back_13 ?_
    refine lv_iload_n hx hb dX7_back_16 rfl (lv_at hl 1 rfl) ?_
    refine p_zald hx hb hK hP 14 hLy13 hKy13 rfl rfl (in_of (by omega) (by omega)) dX7_back_17 ?_
    refine lv_topi (fun z17 ez17 => ?_)
    refine lv_if_ne (tgt := 24) hx hb dX7_back_18 (by decide) (fun c18 => ?_) (fun c18 => ?_)
    · have t18 := tq_ne (k := z17.toInt) (q := (0)) c18 rfl (by decide +kernel)
      refine lv_aload_n hx hb dX7_back_24 rfl (lv_at hl 0 rfl) ?_
      obtain ⟨y25, ey25, hLy25, hKy25⟩ := oQ_7_4 (Sv_at hQ hLp0 hKp0)
      refine p_get (v := .ref y25) hx hb hts inX7 hown hK hP hLp0 hKp0 rfl rfl 4 (by decide) (hts _ pq1119) (congrArg (fun q => some (va_rf q)) ey25) dX7_back_25 ?_
      refine lv_aload_n hx hb dX7_back_28 rfl (lv_at hl 0 rfl) ?_
      obtain ⟨y29, ey29, hLy29, hKy29⟩ := oQ_7_9 (Sv_at hQ hLp0 hKp0)
      refine p_get (v := .ref y29) hx hb hts inX7 hown hK hP hLp0 hKp0 rfl rfl 9 (by decide) (hts _ pq1124) (congrArg (fun q => some (va_rf q)) ey29) dX7_back_29 ?_
      refine lv_iload_n hx hb dX7_back_32 rfl (lv_at hl 1 rfl) ?_
      refine lv_aload_n hx hb dX7_back_33 rfl (lv_at hl 0 rfl) ?_
      obtain ⟨y34, ey34, hLy34, hKy34⟩ := oQ_7_0 (Sv_at hQ hLp0 hKp0)
      refine p_get (v := .ref y34) hx hb hts inX7 hown hK hP hLp0 hKp0 rfl rfl 0 (by decide) (hts _ pq1115) (congrArg (fun q => some (va_rf q)) ey34) dX7_back_34 ?_
      refine lv_aload_n hx hb dX7_back_37 rfl (lv_at hl 0 rfl) ?_
      obtain ⟨y38, ey38, hLy38, hKy38⟩ := oQ_7_5 (Sv_at hQ hLp0 hKp0)
      refine p_get (v := .ref y38) hx hb hts inX7 hown hK hP hLp0 hKp0 rfl rfl 5 (by decide) (hts _ pq1120) (congrArg (fun q => some (va_rf q)) ey38) dX7_back_38 ?_
      refine lv_iconst (v := 0) hx hb dX7_back_41 (by decide +kernel) ?_
      refine sw_v (Z := (fun I1 => Iv L K x0 m0 tx tm I1 ∧ (∀ b, ¬ (b = y34) → I1 b = I b))) (va_runS (As := [.ref y25, .ref y29, .int p1, .ref y34, .ref y38, .int 0]) (rest := []) ⟨hx, hb, hml, hown, hts⟩ (s_X7_movesB l dC dI cs L K G Q hQ x0 m0 tx tm H.size I J hI y25 hLy25 hKy25 y29 hLy29 hKy29 p1 ⟨by omega, by omega⟩ y34 hLy34 hKy34 y38 hLy38 hKy38 0 ⟨by decide +kernel, by decide +kernel⟩) (va_cwS 6 hts (gS pq1291 pq1292 pq81 pq1293) rfl rfl rfl (by decide +kernel) ⟨(by rw [hR]; exact (Nat.le_of_ble_eq_true rfl)), (by rw [hR]; exact (Nat.le_of_ble_eq_true rfl))⟩) (sP_S hP hD hK hN) rfl rfl hl.1 rfl (lv_room (Nat.le_of_ble_eq_true rfl)) dX7_back_42 ⟨(by rw [hR]; exact (Nat.le_of_ble_eq_true rfl)), (by rw [hR]; exact (Nat.le_of_ble_eq_true rfl))⟩) hS hAL hA (fun Iz42 Jz42 H locs hz42 hIz42 hP hS => ?_)
      obtain ⟨hIz42, frc42⟩ := hIz42
      refine lv_aload_n hx hb dX7_back_45 rfl (lv_at hl 0 rfl) ?_
      refine lv_iconst (v := 0) hx hb dX7_back_46 (by decide +kernel) ?_
      refine p_put hx hb hts inX7 tyX7 tyX7_ok nmX7 hown hK hP hD hS hLp0 hKp0 rfl rfl 11 (by decide) (hts _ pq1126) rfl (by decide +kernel) (Nat.le_of_ble_eq_true rfl) (oS_7_11 cs _ _ _ _) dX7_back_47 (fun H locs hP hS => ?_)
      obtain ⟨Iz47, hP, hIz47, qIz47⟩ : ∃ Iz47, va_P (dC, dI) vwCl (Wd cs L K Iz47 Jz42 Q) H ∧ Iv L K x0 m0 tx tm Iz47 ∧ Iz47 = va_up Iz42 p0 (upd (Iz42 p0) 11 (0 : Int32)) := ⟨_, hP, Iv_put hIz42 hKp0 (oP_7_11 (Iv_at hIz42 hLp0 hKp0) ⟨by decide +kernel, by decide +kernel⟩) (by decide) (by decide), rfl⟩
      refine lv_aload_n hx hb dX7_back_50 rfl (lv_at hl 0 rfl) ?_
      refine p_get (v := .ref y34) hx hb hts inX7 hown hK hP hLp0 hKp0 rfl rfl 0 (by decide) (hts _ pq1115) (congrArg (fun q => some (va_rf q)) ey34) dX7_back_51 ?_
      refine lv_iconst (v := 1) hx hb dX7_back_54 (by decide +kernel) ?_
      refine p_iald hx hb hK hP 8 hLy34 hKy34 rfl rfl (in_d (by decide +kernel)) dX7_back_55 ?_
      refine lv_topi (fun z55 ez55 => ?_)
      have bz55 := rng1 (oR_18 (i := (1 : Int32)) (k := (1)) (by decide +kernel) (Iv_at hIz47 hLy34 hKy34))
      rw [← ez55] at bz55
      subst hR; subst hQz
      exact W.iret (v := z55) hx hb hr (fun t ht hW => ⟨⟨z55, (), rfl, trivial, ⟨Iz47, Jz42, hIz47, by rw [ht]; exact hP⟩⟩, hS.F ht⟩) hS.2.2 dX7_back_56
    · have t18 := tq_eq (k := z17.toInt) (q := (0)) c18 rfl (by decide +kernel)
      refine lv_bipush (v := (-2)) hx hb dX7_back_21 (by decide +kernel) ?_
      subst hR; subst hQz
      exact W.iret (v := (-2)) hx hb hr (fun t ht hW => ⟨⟨(-2), (), rfl, trivial, ⟨I, J, hI, by rw [ht]; exact hP⟩⟩, hS.F ht⟩) hS.2.2 dX7_back_23
  · have t7 := tq_eq (k := z4.toInt) (q := (0)) c7 rfl (by decide +kernel)
    refine lv_iconst (v := (-1)) hx hb dX7_back_10 (by decide +kernel) ?_
    subst hR; subst hQz
    exact W.iret (v := (-1)) hx hb hr (fun t ht hW => ⟨⟨(-1), (), rfl, trivial, ⟨I, J, hI, by rw [ht]; exact hP⟩⟩, hS.F ht⟩) hS.2.2 dX7_back_11

set_option maxHeartbeats 4000000 in
set_option maxRecDepth 100000 in
theorem s_X7_place (l : Launch) (dC : Nat → ClassId) (dI : Nat → Nat → Nat) (cs : Nat → ClassId) (L : List Nat) (K G : Nat → Nat) (Q : Nat → Nat → Option Nat) (hQ : Sv L K G Q) (x0 m0 : Nat) (tx : Int32) (tm : Int32 × Int) (sz : Nat) (I : Nat → Nat → Int32) (J : Nat → Nat → Int64) (hI : Iv L K x0 m0 tx tm I) (p0 : Nat) (hLp0 : p0 ∈ L) (hKp0 : K p0 = 7) (p1 : Int32) (p2 : Int32) (p3 : Int32) : Met l yX7_place (.code yX7_place cX7_place 4 (some .int) :: pw) ({ frames := 3, cells := 0, slots := 0, locals := 67 }) (sP (dC, dI) cs [.ref p0, .int p1, .int p2, .int p3] sz L K I J Q) (va_Qi (fun (r : Int32) (_ : Unit) => True) (fun _ t => sB (dC, dI) cs L K Q (Iv L K x0 m0 tx tm) t) (fun q => q ∈ L ∨ sz ≤ q)) 0 0 (fun q => q ∈ L ∨ sz ≤ q) := by
  refine Met.ofW (cc := cX7_place) (maxL := 4) (ret := (some .int)) (by decide +kernel) rfl ?_
  intro p e s m args below meth c s₁ B hml hv
  obtain ⟨rfl, hsz, hP, hK, hD0, hN⟩ := hv
  have hx := B.exec
  have hb := B.bytes
  have hr := B.returns
  have hts := fun w (h : w ∈ pw) => atoms_spec (ws := Cond.code yX7_place cX7_place 4 (some .int) :: pw) B.pre w (List.mem_cons_of_mem _ h)
  have hown : s.vm.findClass RX7 = some m.cls := findClass_of_methodNamed B.named
  have hlocks := B.notSynchronized
  subst hsz
  have hBB : 999 ≤ tm.2 ∧ tm.2 ≤ 6000000 := hI.2.2.2.2
  obtain ⟨A, hAe⟩ : ∃ A : Nat → Prop, A = (fun q => q ∈ L ∨ s.heap.size ≤ q) := ⟨_, rfl⟩
  rw [← hAe]
  have hAL : ∀ q, q ∈ L → A q := fun q h => by rw [hAe]; exact Or.inl h
  have hA : ∀ q, s.heap.size ≤ q → A q := fun q h => by rw [hAe]; exact Or.inr h
  have hD : ∀ F, va_D A (va_pl L F) := fun F => (hD0 F).weaken (fun k q hk _ => hAL _ (pl_mem hk))
  obtain ⟨H, hHe⟩ : ∃ H : Heap, H = s.heap := ⟨_, rfl⟩
  have hS : va_S A s.heap H [] := by rw [hHe]; exact va_S.rf
  rw [← hHe] at hP
  have hl := lv_entry ([.ref p0, .int p1, .int p2, .int p3]) (n := 4) (Nat.le_of_ble_eq_true rfl)
  rw [lg_entry_eq]
  generalize (lg_sl ([.ref p0, .int p1, .int p2, .int p3]) ++ List.replicate (4 - (lg_sl ([.ref p0, .int p1, .int p2, .int p3])).length) Slot.unset).toArray = ls at hl ⊢
  have hl : lv_has ls 4 [(0, .ref p0), (1, .int p1), (2, .int p2), (3, .int p3)] := hl
  rw [← hHe]
  refine namedW (fun R Qz hR hQz => ?_)
  refine lv_aload_n hx hb dX7_place_0 rfl (lv_at hl 0 rfl) ?_
  refine lv_iload_n hx hb dX7_place_1 rfl (lv_at hl 1 rfl) ?_
  refine ro_i (va_runV (As := [.int p1]) (rest := []) ⟨hx, hb, hml, hown, hts⟩ (s_X7_isBody l dC dI cs L K G Q hQ x0 m0 tx tm H.size I J hI p0 hLp0 hKp0 p1) (cwV 1 hts (gV pq1310 pq1312 pq23 pq81 pq1313) rfl rfl rfl (by decide +kernel) ⟨(by rw [hR]; exact (Nat.le_of_ble_eq_true rfl)), (by rw [hR]; exact (Nat.le_of_ble_eq_true rfl))⟩) (sP_V hP hD hK hN hLp0 hKp0 rfl rfl) rfl rfl hl.1 rfl (lv_room (Nat.le_of_ble_eq_true rfl)) dX7_place_2 ⟨(by rw [hR]; exact (Nat.le_of_ble_eq_true rfl)), (by rw [hR]; exact (Nat.le_of_ble_eq_true rfl))⟩) hS hP (fun z2 H locs hz2 hP hS => ?_)
  obtain ⟨bz2, imz2⟩ := hz2
  refine lv_if_eq (tgt := 17) hx hb dX7_place_5 (by decide) (fun c5 => ?_) (fun c5 => ?_)
  · have t5 := tq_eq (k := z2.toInt) (q := (0)) c5 rfl (by decide +kernel)
    refine lv_iconst (v := (-1)) hx hb dX7_place_17 (by decide +kernel) ?_
    subst hR; subst hQz
    exact W.iret (v := (-1)) hx hb hr (fun t ht hW => ⟨⟨(-1), (), rfl, trivial, ⟨I, J, hI, by rw [ht]; exact hP⟩⟩, hS.F ht⟩) hS.2.2 dX7_place_18
  · have t5 := tq_ne (k := z2.toInt) (q := (0)) c5 rfl (by decide +kernel)
    have i5 := imz2 t5
    refine lv_aload_n hx hb dX7_place_8 rfl (lv_at hl 0 rfl) ?_
    refine lv_iload_n hx hb dX7_place_9 rfl (lv_at hl 2 rfl) ?_
    refine lv_iload_n hx hb dX7_place_10 rfl (lv_at hl 3 rfl) ?_
    refine ro_i (va_runV (As := [.int p2, .int p3]) (rest := []) ⟨hx, hb, hml, hown, hts⟩ (s_X7_isPlace l dC dI cs L K G Q hQ x0 m0 tx tm H.size I J hI p0 hLp0 hKp0 p2 p3) (cwV 2 hts (gV pq1314 pq1316 pq24 pq81 pq1317) rfl rfl rfl (by decide +kernel) ⟨(by rw [hR]; exact (Nat.le_of_ble_eq_true rfl)), (by rw [hR]; exact (Nat.le_of_ble_eq_true rfl))⟩) (sP_V hP hD hK hN hLp0 hKp0 rfl rfl) rfl rfl hl.1 rfl (lv_room (Nat.le_of_ble_eq_true rfl)) dX7_place_11 ⟨(by rw [hR]; exact (Nat.le_of_ble_eq_true rfl)), (by rw [hR]; exact (Nat.le_of_ble_eq_true rfl))⟩) hS hP (fun z11 H locs hz11 hP hS => ?_)
    obtain ⟨bz11, imz11⟩ := hz11
    refine lv_if_ne (tgt := 19) hx hb dX7_place_14 (by decide) (fun c14 => ?_) (fun c14 => ?_)
    · have t14 := tq_ne (k := z11.toInt) (q := (0)) c14 rfl (by decide +kernel)
      have i14 := imz11 t14
      refine lv_aload_n hx hb dX7_place_19 rfl (lv_at hl 0 rfl) ?_
      refine lv_iload_n hx hb dX7_place_20 rfl (lv_at hl 1 rfl) ?_
      refine lv_iconst (v := 1) hx hb dX7_place_21 (by decide +kernel) ?_
      refine ro_i (va_runV (As := [.int p1, .int 1]) (rest := []) ⟨hx, hb, hml, hown, hts⟩ (s_X7_of l dC dI cs L K G Q hQ x0 m0 tx tm H.size I J hI p0 hLp0 hKp0 p1 ⟨by omega, by omega⟩ 1 ⟨by decide +kernel, by decide +kernel⟩) (cwV 2 hts (gV pq1320 pq1322 pq25 pq81 pq1323) rfl rfl rfl (by decide +kernel) ⟨(by rw [hR]; exact (Nat.le_of_ble_eq_true rfl)), (by rw [hR]; exact (Nat.le_of_ble_eq_true rfl))⟩) (sP_V hP hD hK hN hLp0 hKp0 rfl rfl) rfl rfl hl.1 rfl (lv_room (Nat.le_of_ble_eq_true rfl)) dX7_place_22 ⟨(by rw [hR]; exact (Nat.le_of_ble_eq_true rfl)), (by rw [hR]; exact (Nat.le_of_ble_eq_true rfl))⟩) hS hP (fun z22 H locs hz22 hP hS => ?_)
      have cst22_1 : (1 : Int32).toInt = 1 := by decide +kernel
      obtain ⟨fez22, xpz22⟩ := hz22
      have bz22 := xpz22.2.1 rfl
      refine lv_iload_n hx hb dX7_place_25 rfl (lv_at hl 2 rfl) ?_
      have j42 : ∀ (H : Heap) (lo : List Loc) (ls : Array Slot), va_P (dC, dI) vwCl (Wd cs L K I J Q) H → va_S A s.heap H lo → lv_has ls 4 [(0, .ref p0), (1, .int p1), (2, .int p2), (3, .int p3)] → W p l e R s m (([.ref p0, .int p1, .int p2, .int p3] : List Value).toArray) below meth c H lo 0 0 Qz (F0 m 42 ls []) := by
        intro H lo ls hP hS hl
        refine lv_aload_n hx hb dX7_place_42 rfl (lv_at hl 0 rfl) ?_
        refine sw_v (Z := (fun I1 => Iv L K x0 m0 tx tm I1 ∧ (∀ b, ¬ (K b = 7 ∨ K b = 19 ∨ K b = 30) → I1 b = I b))) (va_runV (As := []) (rest := []) ⟨hx, hb, hml, hown, hts⟩ (s_X7_keepsPast l dC dI cs L K G Q hQ x0 m0 tx tm H.size I J hI p0 hLp0 hKp0) (cwV 0 hts (gV pq1324 pq1326 pq26 pq81 pq1327) rfl rfl rfl (by decide +kernel) ⟨(by rw [hR]; exact (Nat.le_of_ble_eq_true rfl)), (by rw [hR]; exact (Nat.le_of_ble_eq_true rfl))⟩) (sP_V hP hD hK hN hLp0 hKp0 rfl rfl) rfl rfl hl.1 rfl (lv_room (Nat.le_of_ble_eq_true rfl)) dX7_place_43 ⟨(by rw [hR]; exact (Nat.le_of_ble_eq_true rfl)), (by rw [hR]; exact (Nat.le_of_ble_eq_true rfl))⟩) hS hAL hA (fun Iz43 Jz43 H locs hz43 hIz43 hP hS => ?_)
        obtain ⟨hIz43, frc43⟩ := hIz43
        refine lv_aload_n hx hb dX7_place_46 rfl (lv_at hl 0 rfl) ?_
        refine lv_iload_n hx hb dX7_place_47 rfl (lv_at hl 1 rfl) ?_
        refine lv_iconst (v := 1) hx hb dX7_place_48 (by decide +kernel) ?_
        refine lv_iload_n hx hb dX7_place_49 rfl (lv_at hl 2 rfl) ?_
        refine sw_v (Z := (fun I1 => Iv L K x0 m0 tx tm I1 ∧ (∀ b, ¬ (K b = 18) → I1 b = Iz43 b) ∧ I1 ((Q p0 0).getD 0) = upd (Iz43 ((Q p0 0).getD 0)) (19 + 8 * p1.toInt.toNat + (1 : Int32).toInt.toNat) p2)) (va_runV (As := [.int p1, .int 1, .int p2]) (rest := []) ⟨hx, hb, hml, hown, hts⟩ (s_X7_sets l dC dI cs L K G Q hQ x0 m0 tx tm H.size Iz43 Jz43 hIz43 p0 hLp0 hKp0 p1 ⟨by omega, by omega⟩ 1 ⟨by decide +kernel, by decide +kernel⟩ p2 (rng_1 ⟨by decide +kernel, by decide +kernel⟩ (by omega) ⟨by omega, by omega⟩)) (cwV 3 hts (gV pq1336 pq1338 pq29 pq81 pq1339) rfl rfl rfl (by decide +kernel) ⟨(by rw [hR]; exact (Nat.le_of_ble_eq_true rfl)), (by rw [hR]; exact (Nat.le_of_ble_eq_true rfl))⟩) (sP_V hP hD hK hN hLp0 hKp0 rfl rfl) rfl rfl hl.1 rfl (lv_room (Nat.le_of_ble_eq_true rfl)) dX7_place_50 ⟨(by rw [hR]; exact (Nat.le_of_ble_eq_true rfl)), (by rw [hR]; exact (Nat.le_of_ble_eq_true rfl))⟩) hS hAL hA (fun Iz50 Jz50 H locs hz50 hIz50 hP hS => ?_)
        obtain ⟨hIz50, frc50, zp50⟩ := hIz50
        refine lv_aload_n hx hb dX7_place_53 rfl (lv_at hl 0 rfl) ?_
        refine lv_iload_n hx hb dX7_place_54 rfl (lv_at hl 1 rfl) ?_
        refine lv_iconst (v := 2) hx hb dX7_place_55 (by decide +kernel) ?_
        refine lv_iload_n hx hb dX7_place_56 rfl (lv_at hl 3 rfl) ?_
        refine sw_v (Z := (fun I1 => Iv L K x0 m0 tx tm I1 ∧ (∀ b, ¬ (K b = 18) → I1 b = Iz50 b) ∧ I1 ((Q p0 0).getD 0) = upd (Iz50 ((Q p0 0).getD 0)) (19 + 8 * p1.toInt.toNat + (2 : Int32).toInt.toNat) p3)) (va_runV (As := [.int p1, .int 2, .int p3]) (rest := []) ⟨hx, hb, hml, hown, hts⟩ (s_X7_sets l dC dI cs L K G Q hQ x0 m0 tx tm H.size Iz50 Jz50 hIz50 p0 hLp0 hKp0 p1 ⟨by omega, by omega⟩ 2 ⟨by decide +kernel, by decide +kernel⟩ p3 (rng_1 ⟨by decide +kernel, by decide +kernel⟩ (by omega) ⟨by omega, by omega⟩)) (cwV 3 hts (gV pq1336 pq1338 pq29 pq81 pq1339) rfl rfl rfl (by decide +kernel) ⟨(by rw [hR]; exact (Nat.le_of_ble_eq_true rfl)), (by rw [hR]; exact (Nat.le_of_ble_eq_true rfl))⟩) (sP_V hP hD hK hN hLp0 hKp0 rfl rfl) rfl rfl hl.1 rfl (lv_room (Nat.le_of_ble_eq_true rfl)) dX7_place_57 ⟨(by rw [hR]; exact (Nat.le_of_ble_eq_true rfl)), (by rw [hR]; exact (Nat.le_of_ble_eq_true rfl))⟩) hS hAL hA (fun Iz57 Jz57 H locs hz57 hIz57 hP hS => ?_)
        obtain ⟨hIz57, frc57, zp57⟩ := hIz57
        refine lv_iconst (v := 1) hx hb dX7_place_60 (by decide +kernel) ?_
        subst hR; subst hQz
        exact W.iret (v := 1) hx hb hr (fun t ht hW => ⟨⟨1, (), rfl, trivial, ⟨Iz57, Jz57, hIz57, by rw [ht]; exact hP⟩⟩, hS.F ht⟩) hS.2.2 dX7_place_61
      refine lv_icmp_ne (tgt := 42) hx hb dX7_place_26 (by decide) (fun c26 => ?_) (fun c26 => ?_)
      · have t26 := tq_ne (k := z22.toInt) (q := p2.toInt) c26 rfl rfl
        exact j42  _ _ _ hP hS (lv_sub hl [0, 1, 2, 3] rfl)
      · have t26 := tq_eq (k := z22.toInt) (q := p2.toInt) c26 rfl rfl
        refine lv_aload_n hx hb dX7_place_29 rfl (lv_at hl 0 rfl) ?_
        refine lv_iload_n hx hb dX7_place_30 rfl (lv_at hl 1 rfl) ?_
        refine lv_iconst (v := 2) hx hb dX7_place_31 (by decide +kernel) ?_
        refine ro_i (va_runV (As := [.int p1, .int 2]) (rest := []) ⟨hx, hb, hml, hown, hts⟩ (s_X7_of l dC dI cs L K G Q hQ x0 m0 tx tm H.size I J hI p0 hLp0 hKp0 p1 ⟨by omega, by omega⟩ 2 ⟨by decide +kernel, by decide +kernel⟩) (cwV 2 hts (gV pq1320 pq1322 pq25 pq81 pq1323) rfl rfl rfl (by decide +kernel) ⟨(by rw [hR]; exact (Nat.le_of_ble_eq_true rfl)), (by rw [hR]; exact (Nat.le_of_ble_eq_true rfl))⟩) (sP_V hP hD hK hN hLp0 hKp0 rfl rfl) rfl rfl hl.1 rfl (lv_room (Nat.le_of_ble_eq_true rfl)) dX7_place_32 ⟨(by rw [hR]; exact (Nat.le_of_ble_eq_true rfl)), (by rw [hR]; exact (Nat.le_of_ble_eq_true rfl))⟩) hS hP (fun z32 H locs hz32 hP hS => ?_)
        have cst32_2 : (2 : Int32).toInt = 2 := by decide +kernel
        obtain ⟨fez32, xpz32⟩ := hz32
        have bz32 := xpz32.2.2.1 rfl
        refine lv_iload_n hx hb dX7_place_35 rfl (lv_at hl 3 rfl) ?_
        refine lv_icmp_ne (tgt := 42) hx hb dX7_place_36 (by decide) (fun c36 => ?_) (fun c36 => ?_)
        · have t36 := tq_ne (k := z32.toInt) (q := p3.toInt) c36 rfl rfl
          exact j42  _ _ _ hP hS (lv_sub hl [0, 1, 2, 3] rfl)
        · have t36 := tq_eq (k := z32.toInt) (q := p3.toInt) c36 rfl rfl
          refine lv_bipush (v := (-2)) hx hb dX7_place_39 (by decide +kernel) ?_
          subst hR; subst hQz
          exact W.iret (v := (-2)) hx hb hr (fun t ht hW => ⟨⟨(-2), (), rfl, trivial, ⟨I, J, hI, by rw [ht]; exact hP⟩⟩, hS.F ht⟩) hS.2.2 dX7_place_41
    · have t14 := tq_eq (k := z11.toInt) (q := (0)) c14 rfl (by decide +kernel)
      refine lv_iconst (v := (-1)) hx hb dX7_place_17 (by decide +kernel) ?_
      subst hR; subst hQz
      exact W.iret (v := (-1)) hx hb hr (fun t ht hW => ⟨⟨(-1), (), rfl, trivial, ⟨I, J, hI, by rw [ht]; exact hP⟩⟩, hS.F ht⟩) hS.2.2 dX7_place_18

set_option maxHeartbeats 4000000 in
set_option maxRecDepth 100000 in
theorem s_X7_flip (l : Launch) (dC : Nat → ClassId) (dI : Nat → Nat → Nat) (cs : Nat → ClassId) (L : List Nat) (K G : Nat → Nat) (Q : Nat → Nat → Option Nat) (hQ : Sv L K G Q) (x0 m0 : Nat) (tx : Int32) (tm : Int32 × Int) (sz : Nat) (I : Nat → Nat → Int32) (J : Nat → Nat → Int64) (hI : Iv L K x0 m0 tx tm I) (p0 : Nat) (hLp0 : p0 ∈ L) (hKp0 : K p0 = 7) (p1 : Int32) (p2 : Int32) : Met l yX7_flip (.code yX7_flip cX7_flip 4 (some .int) :: pw) ({ frames := 3, cells := 0, slots := 0, locals := 67 }) (sP (dC, dI) cs [.ref p0, .int p1, .int p2] sz L K I J Q) (va_Qi (fun (r : Int32) (_ : Unit) => True) (fun _ t => sB (dC, dI) cs L K Q (Iv L K x0 m0 tx tm) t) (fun q => q ∈ L ∨ sz ≤ q)) 0 0 (fun q => q ∈ L ∨ sz ≤ q) := by
  refine Met.ofW (cc := cX7_flip) (maxL := 4) (ret := (some .int)) (by decide +kernel) rfl ?_
  intro p e s m args below meth c s₁ B hml hv
  obtain ⟨rfl, hsz, hP, hK, hD0, hN⟩ := hv
  have hx := B.exec
  have hb := B.bytes
  have hr := B.returns
  have hts := fun w (h : w ∈ pw) => atoms_spec (ws := Cond.code yX7_flip cX7_flip 4 (some .int) :: pw) B.pre w (List.mem_cons_of_mem _ h)
  have hown : s.vm.findClass RX7 = some m.cls := findClass_of_methodNamed B.named
  have hlocks := B.notSynchronized
  subst hsz
  have hBB : 999 ≤ tm.2 ∧ tm.2 ≤ 6000000 := hI.2.2.2.2
  obtain ⟨A, hAe⟩ : ∃ A : Nat → Prop, A = (fun q => q ∈ L ∨ s.heap.size ≤ q) := ⟨_, rfl⟩
  rw [← hAe]
  have hAL : ∀ q, q ∈ L → A q := fun q h => by rw [hAe]; exact Or.inl h
  have hA : ∀ q, s.heap.size ≤ q → A q := fun q h => by rw [hAe]; exact Or.inr h
  have hD : ∀ F, va_D A (va_pl L F) := fun F => (hD0 F).weaken (fun k q hk _ => hAL _ (pl_mem hk))
  obtain ⟨H, hHe⟩ : ∃ H : Heap, H = s.heap := ⟨_, rfl⟩
  have hS : va_S A s.heap H [] := by rw [hHe]; exact va_S.rf
  rw [← hHe] at hP
  have hl := lv_entry ([.ref p0, .int p1, .int p2]) (n := 4) (Nat.le_of_ble_eq_true rfl)
  rw [lg_entry_eq]
  generalize (lg_sl ([.ref p0, .int p1, .int p2]) ++ List.replicate (4 - (lg_sl ([.ref p0, .int p1, .int p2])).length) Slot.unset).toArray = ls at hl ⊢
  have hl : lv_has ls 4 [(0, .ref p0), (1, .int p1), (2, .int p2)] := hl
  rw [← hHe]
  refine namedW (fun R Qz hR hQz => ?_)
  refine lv_aload_n hx hb dX7_flip_0 rfl (lv_at hl 0 rfl) ?_
  refine lv_iload_n hx hb dX7_flip_1 rfl (lv_at hl 1 rfl) ?_
  refine ro_i (va_runV (As := [.int p1]) (rest := []) ⟨hx, hb, hml, hown, hts⟩ (s_X7_isBody l dC dI cs L K G Q hQ x0 m0 tx tm H.size I J hI p0 hLp0 hKp0 p1) (cwV 1 hts (gV pq1310 pq1312 pq23 pq81 pq1313) rfl rfl rfl (by decide +kernel) ⟨(by rw [hR]; exact (Nat.le_of_ble_eq_true rfl)), (by rw [hR]; exact (Nat.le_of_ble_eq_true rfl))⟩) (sP_V hP hD hK hN hLp0 hKp0 rfl rfl) rfl rfl hl.1 rfl (lv_room (Nat.le_of_ble_eq_true rfl)) dX7_flip_2 ⟨(by rw [hR]; exact (Nat.le_of_ble_eq_true rfl)), (by rw [hR]; exact (Nat.le_of_ble_eq_true rfl))⟩) hS hP (fun z2 H locs hz2 hP hS => ?_)
  obtain ⟨bz2, imz2⟩ := hz2
  refine lv_if_eq (tgt := 20) hx hb dX7_flip_5 (by decide) (fun c5 => ?_) (fun c5 => ?_)
  · have t5 := tq_eq (k := z2.toInt) (q := (0)) c5 rfl (by decide +kernel)
    refine lv_iconst (v := (-1)) hx hb dX7_flip_20 (by decide +kernel) ?_
    subst hR; subst hQz
    exact W.iret (v := (-1)) hx hb hr (fun t ht hW => ⟨⟨(-1), (), rfl, trivial, ⟨I, J, hI, by rw [ht]; exact hP⟩⟩, hS.F ht⟩) hS.2.2 dX7_flip_21
  · have t5 := tq_ne (k := z2.toInt) (q := (0)) c5 rfl (by decide +kernel)
    have i5 := imz2 t5
    refine lv_iload_n hx hb dX7_flip_8 rfl (lv_at hl 2 rfl) ?_
    refine lv_i2l hx hb dX7_flip_9 rfl ?_
    refine lv_topl (fun z9 ez9 => ?_)
    have bz9 := tq_i2l (k := p2.toInt) ez9 rfl
    refine lv_lconst (v := 0) hx hb dX7_flip_10 (by decide +kernel) ?_
    refine lv_ldc2 hx hb hown (hts _ pq1344) dX7_flip_11 ?_
    refine ro_i (va_runS (As := [.long z9, .long 0, .long 3]) (rest := []) ⟨hx, hb, hml, hown, hts⟩ (s_X7_in l dC dI cs L K Q H.size I J z9 0 3) (va_cwS 3 hts (gS pq1234 pq1235 pq81 pq1236) rfl rfl rfl (by decide +kernel) ⟨(by rw [hR]; exact (Nat.le_of_ble_eq_true rfl)), (by rw [hR]; exact (Nat.le_of_ble_eq_true rfl))⟩) (sP_S hP hD hK hN) rfl rfl hl.1 rfl (lv_room (Nat.le_of_ble_eq_true rfl)) dX7_flip_14 ⟨(by rw [hR]; exact (Nat.le_of_ble_eq_true rfl)), (by rw [hR]; exact (Nat.le_of_ble_eq_true rfl))⟩) hS hP (fun z14 H locs hz14 hP hS => ?_)
    have csl14_0 : (0 : Int64).toInt = 0 := by decide +kernel
    have csl14_3 : (3 : Int64).toInt = 3 := by decide +kernel
    obtain ⟨bz14, imz14⟩ := hz14
    refine lv_if_ne (tgt := 22) hx hb dX7_flip_17 (by decide) (fun c17 => ?_) (fun c17 => ?_)
    · have t17 := tq_ne (k := z14.toInt) (q := (0)) c17 rfl (by decide +kernel)
      have i17 := imz14 t17
      refine lv_aload_n hx hb dX7_flip_22 rfl (lv_at hl 0 rfl) ?_
      refine lv_iload_n hx hb dX7_flip_23 rfl (lv_at hl 1 rfl) ?_
      refine lv_iconst (v := 3) hx hb dX7_flip_24 (by decide +kernel) ?_
      refine ro_i (va_runV (As := [.int p1, .int 3]) (rest := []) ⟨hx, hb, hml, hown, hts⟩ (s_X7_of l dC dI cs L K G Q hQ x0 m0 tx tm H.size I J hI p0 hLp0 hKp0 p1 ⟨by omega, by omega⟩ 3 ⟨by decide +kernel, by decide +kernel⟩) (cwV 2 hts (gV pq1320 pq1322 pq25 pq81 pq1323) rfl rfl rfl (by decide +kernel) ⟨(by rw [hR]; exact (Nat.le_of_ble_eq_true rfl)), (by rw [hR]; exact (Nat.le_of_ble_eq_true rfl))⟩) (sP_V hP hD hK hN hLp0 hKp0 rfl rfl) rfl rfl hl.1 rfl (lv_room (Nat.le_of_ble_eq_true rfl)) dX7_flip_25 ⟨(by rw [hR]; exact (Nat.le_of_ble_eq_true rfl)), (by rw [hR]; exact (Nat.le_of_ble_eq_true rfl))⟩) hS hP (fun z25 H locs hz25 hP hS => ?_)
      have cst25_3 : (3 : Int32).toInt = 3 := by decide +kernel
      obtain ⟨fez25, xpz25⟩ := hz25
      refine lv_istore_n (lv' := [(3, .int z25), (0, .ref p0), (1, .int p1), (2, .int p2)]) hx hb dX7_flip_28 rfl hl (by decide) rfl (fun ls hl => ?_)
      refine lv_iload_n hx hb dX7_flip_29 rfl (lv_at hl 0 rfl) ?_
      refine lv_iload_n hx hb dX7_flip_30 rfl (lv_at hl 3 rfl) ?_
      refine lv_icmp_ne (tgt := 37) hx hb dX7_flip_31 (by decide) (fun c31 => ?_) (fun c31 => ?_)
      · have t31 := tq_ne (k := z25.toInt) (q := p2.toInt) c31 rfl rfl
        refine lv_aload_n hx hb dX7_flip_37 rfl (lv_at hl 1 rfl) ?_
        refine sw_v (Z := (fun I1 => Iv L K x0 m0 tx tm I1 ∧ (∀ b, ¬ (K b = 7 ∨ K b = 19 ∨ K b = 30) → I1 b = I b))) (va_runV (As := []) (rest := []) ⟨hx, hb, hml, hown, hts⟩ (s_X7_keepsPast l dC dI cs L K G Q hQ x0 m0 tx tm H.size I J hI p0 hLp0 hKp0) (cwV 0 hts (gV pq1324 pq1326 pq26 pq81 pq1327) rfl rfl rfl (by decide +kernel) ⟨(by rw [hR]; exact (Nat.le_of_ble_eq_true rfl)), (by rw [hR]; exact (Nat.le_of_ble_eq_true rfl))⟩) (sP_V hP hD hK hN hLp0 hKp0 rfl rfl) rfl rfl hl.1 rfl (lv_room (Nat.le_of_ble_eq_true rfl)) dX7_flip_38 ⟨(by rw [hR]; exact (Nat.le_of_ble_eq_true rfl)), (by rw [hR]; exact (Nat.le_of_ble_eq_true rfl))⟩) hS hAL hA (fun Iz38 Jz38 H locs hz38 hIz38 hP hS => ?_)
        obtain ⟨hIz38, frc38⟩ := hIz38
        refine lv_aload_n hx hb dX7_flip_41 rfl (lv_at hl 1 rfl) ?_
        refine lv_iload_n hx hb dX7_flip_42 rfl (lv_at hl 2 rfl) ?_
        refine lv_iconst (v := 3) hx hb dX7_flip_43 (by decide +kernel) ?_
        refine lv_iload_n hx hb dX7_flip_44 rfl (lv_at hl 3 rfl) ?_
        refine sw_v (Z := (fun I1 => Iv L K x0 m0 tx tm I1 ∧ (∀ b, ¬ (K b = 18) → I1 b = Iz38 b) ∧ I1 ((Q p0 0).getD 0) = upd (Iz38 ((Q p0 0).getD 0)) (19 + 8 * p1.toInt.toNat + (3 : Int32).toInt.toNat) p2)) (va_runV (As := [.int p1, .int 3, .int p2]) (rest := []) ⟨hx, hb, hml, hown, hts⟩ (s_X7_sets l dC dI cs L K G Q hQ x0 m0 tx tm H.size Iz38 Jz38 hIz38 p0 hLp0 hKp0 p1 ⟨by omega, by omega⟩ 3 ⟨by decide +kernel, by decide +kernel⟩ p2 (rng_3 ⟨by decide +kernel, by decide +kernel⟩ (by omega))) (cwV 3 hts (gV pq1336 pq1338 pq29 pq81 pq1339) rfl rfl rfl (by decide +kernel) ⟨(by rw [hR]; exact (Nat.le_of_ble_eq_true rfl)), (by rw [hR]; exact (Nat.le_of_ble_eq_true rfl))⟩) (sP_V hP hD hK hN hLp0 hKp0 rfl rfl) rfl rfl hl.1 rfl (lv_room (Nat.le_of_ble_eq_true rfl)) dX7_flip_45 ⟨(by rw [hR]; exact (Nat.le_of_ble_eq_true rfl)), (by rw [hR]; exact (Nat.le_of_ble_eq_true rfl))⟩) hS hAL hA (fun Iz45 Jz45 H locs hz45 hIz45 hP hS => ?_)
        obtain ⟨hIz45, frc45, zp45⟩ := hIz45
        refine lv_iload_n hx hb dX7_flip_48 rfl (lv_at hl 0 rfl) ?_
        subst hR; subst hQz
        exact W.iret (v := z25) hx hb hr (fun t ht hW => ⟨⟨z25, (), rfl, trivial, ⟨Iz45, Jz45, hIz45, by rw [ht]; exact hP⟩⟩, hS.F ht⟩) hS.2.2 dX7_flip_49
      · have t31 := tq_eq (k := z25.toInt) (q := p2.toInt) c31 rfl rfl
        refine lv_bipush (v := (-2)) hx hb dX7_flip_34 (by decide +kernel) ?_
        subst hR; subst hQz
        exact W.iret (v := (-2)) hx hb hr (fun t ht hW => ⟨⟨(-2), (), rfl, trivial, ⟨I, J, hI, by rw [ht]; exact hP⟩⟩, hS.F ht⟩) hS.2.2 dX7_flip_36
    · have t17 := tq_eq (k := z14.toInt) (q := (0)) c17 rfl (by decide +kernel)
      refine lv_iconst (v := (-1)) hx hb dX7_flip_20 (by decide +kernel) ?_
      subst hR; subst hQz
      exact W.iret (v := (-1)) hx hb hr (fun t ht hW => ⟨⟨(-1), (), rfl, trivial, ⟨I, J, hI, by rw [ht]; exact hP⟩⟩, hS.F ht⟩) hS.2.2 dX7_flip_21

set_option maxHeartbeats 4000000 in
set_option maxRecDepth 100000 in
theorem s_X7_twoL (l : Launch) (dC : Nat → ClassId) (dI : Nat → Nat → Nat) (cs : Nat → ClassId) (L : List Nat) (K G : Nat → Nat) (Q : Nat → Nat → Option Nat) (hQ : Sv L K G Q) (x0 m0 : Nat) (tx : Int32) (tm : Int32 × Int) (sz : Nat) (I : Nat → Nat → Int32) (J : Nat → Nat → Int64) (hI : Iv L K x0 m0 tx tm I) (p0 : Nat) (hLp0 : p0 ∈ L) (hKp0 : K p0 = 7) (p1 : Int32) (bp1 : (0) ≤ p1.toInt ∧ p1.toInt ≤ 9) (p2 : Int32) (bp2 : (4) ≤ p2.toInt ∧ p2.toInt ≤ 4) (p3 : Int32) (p4 : Int32) : Met l yX7_two (.code yX7_two cX7_two 5 (some .int) :: pw) ({ frames := 3, cells := 0, slots := 0, locals := 67 }) (sP (dC, dI) cs [.ref p0, .int p1, .int p2, .int p3, .int p4] sz L K I J Q) (va_Qi (fun (r : Int32) (_ : Unit) => True) (fun _ t => sB (dC, dI) cs L K Q (Iv L K x0 m0 tx tm) t) (fun q => q ∈ L ∨ sz ≤ q)) 0 0 (fun q => q ∈ L ∨ sz ≤ q) := by
  refine Met.ofW (cc := cX7_two) (maxL := 5) (ret := (some .int)) (by decide +kernel) rfl ?_
  intro p e s m args below meth c s₁ B hml hv
  obtain ⟨rfl, hsz, hP, hK, hD0, hN⟩ := hv
  have hx := B.exec
  have hb := B.bytes
  have hr := B.returns
  have hts := fun w (h : w ∈ pw) => atoms_spec (ws := Cond.code yX7_two cX7_two 5 (some .int) :: pw) B.pre w (List.mem_cons_of_mem _ h)
  have hown : s.vm.findClass RX7 = some m.cls := findClass_of_methodNamed B.named
  have hlocks := B.notSynchronized
  subst hsz
  have hBB : 999 ≤ tm.2 ∧ tm.2 ≤ 6000000 := hI.2.2.2.2
  obtain ⟨A, hAe⟩ : ∃ A : Nat → Prop, A = (fun q => q ∈ L ∨ s.heap.size ≤ q) := ⟨_, rfl⟩
  rw [← hAe]
  have hAL : ∀ q, q ∈ L → A q := fun q h => by rw [hAe]; exact Or.inl h
  have hA : ∀ q, s.heap.size ≤ q → A q := fun q h => by rw [hAe]; exact Or.inr h
  have hD : ∀ F, va_D A (va_pl L F) := fun F => (hD0 F).weaken (fun k q hk _ => hAL _ (pl_mem hk))
  obtain ⟨H, hHe⟩ : ∃ H : Heap, H = s.heap := ⟨_, rfl⟩
  have hS : va_S A s.heap H [] := by rw [hHe]; exact va_S.rf
  rw [← hHe] at hP
  have hl := lv_entry ([.ref p0, .int p1, .int p2, .int p3, .int p4]) (n := 5) (Nat.le_of_ble_eq_true rfl)
  rw [lg_entry_eq]
  generalize (lg_sl ([.ref p0, .int p1, .int p2, .int p3, .int p4]) ++ List.replicate (5 - (lg_sl ([.ref p0, .int p1, .int p2, .int p3, .int p4])).length) Slot.unset).toArray = ls at hl ⊢
  have hl : lv_has ls 5 [(0, .ref p0), (1, .int p1), (2, .int p2), (3, .int p3), (4, .int p4)] := hl
  rw [← hHe]
  refine namedW (fun R Qz hR hQz => ?_)
  refine lv_aload_n hx hb dX7_two_0 rfl (lv_at hl 0 rfl) ?_
  refine lv_iload_n hx hb dX7_two_1 rfl (lv_at hl 1 rfl) ?_
  refine lv_iload_n hx hb dX7_two_2 rfl (lv_at hl 2 rfl) ?_
  refine ro_i (va_runV (As := [.int p1, .int p2]) (rest := []) ⟨hx, hb, hml, hown, hts⟩ (s_X7_of l dC dI cs L K G Q hQ x0 m0 tx tm H.size I J hI p0 hLp0 hKp0 p1 ⟨by omega, by omega⟩ p2 ⟨by omega, by omega⟩) (cwV 2 hts (gV pq1320 pq1322 pq25 pq81 pq1323) rfl rfl rfl (by decide +kernel) ⟨(by rw [hR]; exact (Nat.le_of_ble_eq_true rfl)), (by rw [hR]; exact (Nat.le_of_ble_eq_true rfl))⟩) (sP_V hP hD hK hN hLp0 hKp0 rfl rfl) rfl rfl hl.1 rfl (lv_room (Nat.le_of_ble_eq_true rfl)) dX7_two_3 ⟨(by rw [hR]; exact (Nat.le_of_ble_eq_true rfl)), (by rw [hR]; exact (Nat.le_of_ble_eq_true rfl))⟩) hS hP (fun z3 H locs hz3 hP hS => ?_)
  obtain ⟨fez3, xpz3⟩ := hz3
  refine lv_iload_n hx hb dX7_two_6 rfl (lv_at hl 3 rfl) ?_
  have j26 : ∀ (H : Heap) (lo : List Loc) (ls : Array Slot), va_P (dC, dI) vwCl (Wd cs L K I J Q) H → va_S A s.heap H lo → lv_has ls 5 [(0, .ref p0), (1, .int p1), (2, .int p2), (3, .int p3), (4, .int p4)] → W p l e R s m (([.ref p0, .int p1, .int p2, .int p3, .int p4] : List Value).toArray) below meth c H lo 0 0 Qz (F0 m 26 ls []) := by
    intro H lo ls hP hS hl
    refine lv_aload_n hx hb dX7_two_26 rfl (lv_at hl 0 rfl) ?_
    refine sw_v (Z := (fun I1 => Iv L K x0 m0 tx tm I1 ∧ (∀ b, ¬ (K b = 7 ∨ K b = 19 ∨ K b = 30) → I1 b = I b))) (va_runV (As := []) (rest := []) ⟨hx, hb, hml, hown, hts⟩ (s_X7_keepsPast l dC dI cs L K G Q hQ x0 m0 tx tm H.size I J hI p0 hLp0 hKp0) (cwV 0 hts (gV pq1324 pq1326 pq26 pq81 pq1327) rfl rfl rfl (by decide +kernel) ⟨(by rw [hR]; exact (Nat.le_of_ble_eq_true rfl)), (by rw [hR]; exact (Nat.le_of_ble_eq_true rfl))⟩) (sP_V hP hD hK hN hLp0 hKp0 rfl rfl) rfl rfl hl.1 rfl (lv_room (Nat.le_of_ble_eq_true rfl)) dX7_two_27 ⟨(by rw [hR]; exact (Nat.le_of_ble_eq_true rfl)), (by rw [hR]; exact (Nat.le_of_ble_eq_true rfl))⟩) hS hAL hA (fun Iz27 Jz27 H locs hz27 hIz27 hP hS => ?_)
    obtain ⟨hIz27, frc27⟩ := hIz27
    refine lv_aload_n hx hb dX7_two_30 rfl (lv_at hl 0 rfl) ?_
    refine lv_iload_n hx hb dX7_two_31 rfl (lv_at hl 1 rfl) ?_
    refine lv_iload_n hx hb dX7_two_32 rfl (lv_at hl 2 rfl) ?_
    refine lv_iload_n hx hb dX7_two_33 rfl (lv_at hl 3 rfl) ?_
    refine sw_v (Z := (fun I1 => Iv L K x0 m0 tx tm I1 ∧ (∀ b, ¬ (K b = 18) → I1 b = Iz27 b) ∧ I1 ((Q p0 0).getD 0) = upd (Iz27 ((Q p0 0).getD 0)) (19 + 8 * p1.toInt.toNat + p2.toInt.toNat) p3)) (va_runV (As := [.int p1, .int p2, .int p3]) (rest := []) ⟨hx, hb, hml, hown, hts⟩ (s_X7_sets l dC dI cs L K G Q hQ x0 m0 tx tm H.size Iz27 Jz27 hIz27 p0 hLp0 hKp0 p1 ⟨by omega, by omega⟩ p2 ⟨by omega, by omega⟩ p3 (rng_3 ⟨by omega, by omega⟩ (by omega))) (cwV 3 hts (gV pq1336 pq1338 pq29 pq81 pq1339) rfl rfl rfl (by decide +kernel) ⟨(by rw [hR]; exact (Nat.le_of_ble_eq_true rfl)), (by rw [hR]; exact (Nat.le_of_ble_eq_true rfl))⟩) (sP_V hP hD hK hN hLp0 hKp0 rfl rfl) rfl rfl hl.1 rfl (lv_room (Nat.le_of_ble_eq_true rfl)) dX7_two_34 ⟨(by rw [hR]; exact (Nat.le_of_ble_eq_true rfl)), (by rw [hR]; exact (Nat.le_of_ble_eq_true rfl))⟩) hS hAL hA (fun Iz34 Jz34 H locs hz34 hIz34 hP hS => ?_)
    obtain ⟨hIz34, frc34, zp34⟩ := hIz34
    refine lv_aload_n hx hb dX7_two_37 rfl (lv_at hl 0 rfl) ?_
    refine lv_iload_n hx hb dX7_two_38 rfl (lv_at hl 1 rfl) ?_
    refine lv_iload_n hx hb dX7_two_39 rfl (lv_at hl 2 rfl) ?_
    refine lv_iconst (v := 1) hx hb dX7_two_40 (by decide +kernel) ?_
    refine lv_iadd hx hb dX7_two_41 ?_
    refine lv_topi (fun z41 ez41 => ?_)
    have bz41 := tq_add (k := p2.toInt) (q := (1)) ez41 rfl (by decide +kernel) (by omega) (by omega)
    refine lv_iload hx hb dX7_two_42 (lv_at hl 4 rfl) ?_
    refine sw_v (Z := (fun I1 => Iv L K x0 m0 tx tm I1 ∧ (∀ b, ¬ (K b = 18) → I1 b = Iz34 b) ∧ I1 ((Q p0 0).getD 0) = upd (Iz34 ((Q p0 0).getD 0)) (19 + 8 * p1.toInt.toNat + z41.toInt.toNat) p4)) (va_runV (As := [.int p1, .int z41, .int p4]) (rest := []) ⟨hx, hb, hml, hown, hts⟩ (s_X7_sets l dC dI cs L K G Q hQ x0 m0 tx tm H.size Iz34 Jz34 hIz34 p0 hLp0 hKp0 p1 ⟨by omega, by omega⟩ z41 ⟨by omega, by omega⟩ p4 (rng_3 ⟨by omega, by omega⟩ (by omega))) (cwV 3 hts (gV pq1336 pq1338 pq29 pq81 pq1339) rfl rfl rfl (by decide +kernel) ⟨(by rw [hR]; exact (Nat.le_of_ble_eq_true rfl)), (by rw [hR]; exact (Nat.le_of_ble_eq_true rfl))⟩) (sP_V hP hD hK hN hLp0 hKp0 rfl rfl) rfl rfl hl.1 rfl (lv_room (Nat.le_of_ble_eq_true rfl)) dX7_two_44 ⟨(by rw [hR]; exact (Nat.le_of_ble_eq_true rfl)), (by rw [hR]; exact (Nat.le_of_ble_eq_true rfl))⟩) hS hAL hA (fun Iz44 Jz44 H locs hz44 hIz44 hP hS => ?_)
    obtain ⟨hIz44, frc44, zp44⟩ := hIz44
    refine lv_iconst (v := 1) hx hb dX7_two_47 (by decide +kernel) ?_
    subst hR; subst hQz
    exact W.iret (v := 1) hx hb hr (fun t ht hW => ⟨⟨1, (), rfl, trivial, ⟨Iz44, Jz44, hIz44, by rw [ht]; exact hP⟩⟩, hS.F ht⟩) hS.2.2 dX7_two_48
  refine lv_icmp_ne (tgt := 26) hx hb dX7_two_7 (by decide) (fun c7 => ?_) (fun c7 => ?_)
  · have t7 := tq_ne (k := z3.toInt) (q := p3.toInt) c7 rfl rfl
    exact j26  _ _ _ hP hS (lv_sub hl [0, 1, 2, 3, 4] rfl)
  · have t7 := tq_eq (k := z3.toInt) (q := p3.toInt) c7 rfl rfl
    refine lv_aload_n hx hb dX7_two_10 rfl (lv_at hl 0 rfl) ?_
    refine lv_iload_n hx hb dX7_two_11 rfl (lv_at hl 1 rfl) ?_
    refine lv_iload_n hx hb dX7_two_12 rfl (lv_at hl 2 rfl) ?_
    refine lv_iconst (v := 1) hx hb dX7_two_13 (by decide +kernel) ?_
    refine lv_iadd hx hb dX7_two_14 ?_
    refine lv_topi (fun z14 ez14 => ?_)
    have bz14 := tq_add (k := p2.toInt) (q := (1)) ez14 rfl (by decide +kernel) (by omega) (by omega)
    refine ro_i (va_runV (As := [.int p1, .int z14]) (rest := []) ⟨hx, hb, hml, hown, hts⟩ (s_X7_of l dC dI cs L K G Q hQ x0 m0 tx tm H.size I J hI p0 hLp0 hKp0 p1 ⟨by omega, by omega⟩ z14 ⟨by omega, by omega⟩) (cwV 2 hts (gV pq1320 pq1322 pq25 pq81 pq1323) rfl rfl rfl (by decide +kernel) ⟨(by rw [hR]; exact (Nat.le_of_ble_eq_true rfl)), (by rw [hR]; exact (Nat.le_of_ble_eq_true rfl))⟩) (sP_V hP hD hK hN hLp0 hKp0 rfl rfl) rfl rfl hl.1 rfl (lv_room (Nat.le_of_ble_eq_true rfl)) dX7_two_15 ⟨(by rw [hR]; exact (Nat.le_of_ble_eq_true rfl)), (by rw [hR]; exact (Nat.le_of_ble_eq_true rfl))⟩) hS hP (fun z15 H locs hz15 hP hS => ?_)
    obtain ⟨fez15, xpz15⟩ := hz15
    refine lv_iload hx hb dX7_two_18 (lv_at hl 4 rfl) ?_
    refine lv_icmp_ne (tgt := 26) hx hb dX7_two_20 (by decide) (fun c20 => ?_) (fun c20 => ?_)
    · have t20 := tq_ne (k := z15.toInt) (q := p4.toInt) c20 rfl rfl
      exact j26  _ _ _ hP hS (lv_sub hl [0, 1, 2, 3, 4] rfl)
    · have t20 := tq_eq (k := z15.toInt) (q := p4.toInt) c20 rfl rfl
      refine lv_bipush (v := (-2)) hx hb dX7_two_23 (by decide +kernel) ?_
      subst hR; subst hQz
      exact W.iret (v := (-2)) hx hb hr (fun t ht hW => ⟨⟨(-2), (), rfl, trivial, ⟨I, J, hI, by rw [ht]; exact hP⟩⟩, hS.F ht⟩) hS.2.2 dX7_two_25

set_option maxHeartbeats 4000000 in
set_option maxRecDepth 100000 in
theorem s_X7_twoS (l : Launch) (dC : Nat → ClassId) (dI : Nat → Nat → Nat) (cs : Nat → ClassId) (L : List Nat) (K G : Nat → Nat) (Q : Nat → Nat → Option Nat) (hQ : Sv L K G Q) (x0 m0 : Nat) (tx : Int32) (tm : Int32 × Int) (sz : Nat) (I : Nat → Nat → Int32) (J : Nat → Nat → Int64) (hI : Iv L K x0 m0 tx tm I) (p0 : Nat) (hLp0 : p0 ∈ L) (hKp0 : K p0 = 7) (p1 : Int32) (bp1 : (0) ≤ p1.toInt ∧ p1.toInt ≤ 9) (p2 : Int32) (bp2 : (6) ≤ p2.toInt ∧ p2.toInt ≤ 6) (p3 : Int32) (bp3 : (-20) ≤ p3.toInt ∧ p3.toInt ≤ 20) (p4 : Int32) (bp4 : (-20) ≤ p4.toInt ∧ p4.toInt ≤ 20) : Met l yX7_two (.code yX7_two cX7_two 5 (some .int) :: pw) ({ frames := 3, cells := 0, slots := 0, locals := 67 }) (sP (dC, dI) cs [.ref p0, .int p1, .int p2, .int p3, .int p4] sz L K I J Q) (va_Qi (fun (r : Int32) (_ : Unit) => True) (fun _ t => sB (dC, dI) cs L K Q (Iv L K x0 m0 tx tm) t) (fun q => q ∈ L ∨ sz ≤ q)) 0 0 (fun q => q ∈ L ∨ sz ≤ q) := by
  refine Met.ofW (cc := cX7_two) (maxL := 5) (ret := (some .int)) (by decide +kernel) rfl ?_
  intro p e s m args below meth c s₁ B hml hv
  obtain ⟨rfl, hsz, hP, hK, hD0, hN⟩ := hv
  have hx := B.exec
  have hb := B.bytes
  have hr := B.returns
  have hts := fun w (h : w ∈ pw) => atoms_spec (ws := Cond.code yX7_two cX7_two 5 (some .int) :: pw) B.pre w (List.mem_cons_of_mem _ h)
  have hown : s.vm.findClass RX7 = some m.cls := findClass_of_methodNamed B.named
  have hlocks := B.notSynchronized
  subst hsz
  have hBB : 999 ≤ tm.2 ∧ tm.2 ≤ 6000000 := hI.2.2.2.2
  obtain ⟨A, hAe⟩ : ∃ A : Nat → Prop, A = (fun q => q ∈ L ∨ s.heap.size ≤ q) := ⟨_, rfl⟩
  rw [← hAe]
  have hAL : ∀ q, q ∈ L → A q := fun q h => by rw [hAe]; exact Or.inl h
  have hA : ∀ q, s.heap.size ≤ q → A q := fun q h => by rw [hAe]; exact Or.inr h
  have hD : ∀ F, va_D A (va_pl L F) := fun F => (hD0 F).weaken (fun k q hk _ => hAL _ (pl_mem hk))
  obtain ⟨H, hHe⟩ : ∃ H : Heap, H = s.heap := ⟨_, rfl⟩
  have hS : va_S A s.heap H [] := by rw [hHe]; exact va_S.rf
  rw [← hHe] at hP
  have hl := lv_entry ([.ref p0, .int p1, .int p2, .int p3, .int p4]) (n := 5) (Nat.le_of_ble_eq_true rfl)
  rw [lg_entry_eq]
  generalize (lg_sl ([.ref p0, .int p1, .int p2, .int p3, .int p4]) ++ List.replicate (5 - (lg_sl ([.ref p0, .int p1, .int p2, .int p3, .int p4])).length) Slot.unset).toArray = ls at hl ⊢
  have hl : lv_has ls 5 [(0, .ref p0), (1, .int p1), (2, .int p2), (3, .int p3), (4, .int p4)] := hl
  rw [← hHe]
  refine namedW (fun R Qz hR hQz => ?_)
  refine lv_aload_n hx hb dX7_two_0 rfl (lv_at hl 0 rfl) ?_
  refine lv_iload_n hx hb dX7_two_1 rfl (lv_at hl 1 rfl) ?_
  refine lv_iload_n hx hb dX7_two_2 rfl (lv_at hl 2 rfl) ?_
  refine ro_i (va_runV (As := [.int p1, .int p2]) (rest := []) ⟨hx, hb, hml, hown, hts⟩ (s_X7_of l dC dI cs L K G Q hQ x0 m0 tx tm H.size I J hI p0 hLp0 hKp0 p1 ⟨by omega, by omega⟩ p2 ⟨by omega, by omega⟩) (cwV 2 hts (gV pq1320 pq1322 pq25 pq81 pq1323) rfl rfl rfl (by decide +kernel) ⟨(by rw [hR]; exact (Nat.le_of_ble_eq_true rfl)), (by rw [hR]; exact (Nat.le_of_ble_eq_true rfl))⟩) (sP_V hP hD hK hN hLp0 hKp0 rfl rfl) rfl rfl hl.1 rfl (lv_room (Nat.le_of_ble_eq_true rfl)) dX7_two_3 ⟨(by rw [hR]; exact (Nat.le_of_ble_eq_true rfl)), (by rw [hR]; exact (Nat.le_of_ble_eq_true rfl))⟩) hS hP (fun z3 H locs hz3 hP hS => ?_)
  obtain ⟨fez3, xpz3⟩ := hz3
  refine lv_iload_n hx hb dX7_two_6 rfl (lv_at hl 3 rfl) ?_
  have j26 : ∀ (H : Heap) (lo : List Loc) (ls : Array Slot), va_P (dC, dI) vwCl (Wd cs L K I J Q) H → va_S A s.heap H lo → lv_has ls 5 [(0, .ref p0), (1, .int p1), (2, .int p2), (3, .int p3), (4, .int p4)] → W p l e R s m (([.ref p0, .int p1, .int p2, .int p3, .int p4] : List Value).toArray) below meth c H lo 0 0 Qz (F0 m 26 ls []) := by
    intro H lo ls hP hS hl
    refine lv_aload_n hx hb dX7_two_26 rfl (lv_at hl 0 rfl) ?_
    refine sw_v (Z := (fun I1 => Iv L K x0 m0 tx tm I1 ∧ (∀ b, ¬ (K b = 7 ∨ K b = 19 ∨ K b = 30) → I1 b = I b))) (va_runV (As := []) (rest := []) ⟨hx, hb, hml, hown, hts⟩ (s_X7_keepsPast l dC dI cs L K G Q hQ x0 m0 tx tm H.size I J hI p0 hLp0 hKp0) (cwV 0 hts (gV pq1324 pq1326 pq26 pq81 pq1327) rfl rfl rfl (by decide +kernel) ⟨(by rw [hR]; exact (Nat.le_of_ble_eq_true rfl)), (by rw [hR]; exact (Nat.le_of_ble_eq_true rfl))⟩) (sP_V hP hD hK hN hLp0 hKp0 rfl rfl) rfl rfl hl.1 rfl (lv_room (Nat.le_of_ble_eq_true rfl)) dX7_two_27 ⟨(by rw [hR]; exact (Nat.le_of_ble_eq_true rfl)), (by rw [hR]; exact (Nat.le_of_ble_eq_true rfl))⟩) hS hAL hA (fun Iz27 Jz27 H locs hz27 hIz27 hP hS => ?_)
    obtain ⟨hIz27, frc27⟩ := hIz27
    refine lv_aload_n hx hb dX7_two_30 rfl (lv_at hl 0 rfl) ?_
    refine lv_iload_n hx hb dX7_two_31 rfl (lv_at hl 1 rfl) ?_
    refine lv_iload_n hx hb dX7_two_32 rfl (lv_at hl 2 rfl) ?_
    refine lv_iload_n hx hb dX7_two_33 rfl (lv_at hl 3 rfl) ?_
    refine sw_v (Z := (fun I1 => Iv L K x0 m0 tx tm I1 ∧ (∀ b, ¬ (K b = 18) → I1 b = Iz27 b) ∧ I1 ((Q p0 0).getD 0) = upd (Iz27 ((Q p0 0).getD 0)) (19 + 8 * p1.toInt.toNat + p2.toInt.toNat) p3)) (va_runV (As := [.int p1, .int p2, .int p3]) (rest := []) ⟨hx, hb, hml, hown, hts⟩ (s_X7_sets l dC dI cs L K G Q hQ x0 m0 tx tm H.size Iz27 Jz27 hIz27 p0 hLp0 hKp0 p1 ⟨by omega, by omega⟩ p2 ⟨by omega, by omega⟩ p3 (rng_6 ⟨by omega, by omega⟩ (by omega) ⟨by omega, by omega⟩)) (cwV 3 hts (gV pq1336 pq1338 pq29 pq81 pq1339) rfl rfl rfl (by decide +kernel) ⟨(by rw [hR]; exact (Nat.le_of_ble_eq_true rfl)), (by rw [hR]; exact (Nat.le_of_ble_eq_true rfl))⟩) (sP_V hP hD hK hN hLp0 hKp0 rfl rfl) rfl rfl hl.1 rfl (lv_room (Nat.le_of_ble_eq_true rfl)) dX7_two_34 ⟨(by rw [hR]; exact (Nat.le_of_ble_eq_true rfl)), (by rw [hR]; exact (Nat.le_of_ble_eq_true rfl))⟩) hS hAL hA (fun Iz34 Jz34 H locs hz34 hIz34 hP hS => ?_)
    obtain ⟨hIz34, frc34, zp34⟩ := hIz34
    refine lv_aload_n hx hb dX7_two_37 rfl (lv_at hl 0 rfl) ?_
    refine lv_iload_n hx hb dX7_two_38 rfl (lv_at hl 1 rfl) ?_
    refine lv_iload_n hx hb dX7_two_39 rfl (lv_at hl 2 rfl) ?_
    refine lv_iconst (v := 1) hx hb dX7_two_40 (by decide +kernel) ?_
    refine lv_iadd hx hb dX7_two_41 ?_
    refine lv_topi (fun z41 ez41 => ?_)
    have bz41 := tq_add (k := p2.toInt) (q := (1)) ez41 rfl (by decide +kernel) (by omega) (by omega)
    refine lv_iload hx hb dX7_two_42 (lv_at hl 4 rfl) ?_
    refine sw_v (Z := (fun I1 => Iv L K x0 m0 tx tm I1 ∧ (∀ b, ¬ (K b = 18) → I1 b = Iz34 b) ∧ I1 ((Q p0 0).getD 0) = upd (Iz34 ((Q p0 0).getD 0)) (19 + 8 * p1.toInt.toNat + z41.toInt.toNat) p4)) (va_runV (As := [.int p1, .int z41, .int p4]) (rest := []) ⟨hx, hb, hml, hown, hts⟩ (s_X7_sets l dC dI cs L K G Q hQ x0 m0 tx tm H.size Iz34 Jz34 hIz34 p0 hLp0 hKp0 p1 ⟨by omega, by omega⟩ z41 ⟨by omega, by omega⟩ p4 (rng_6 ⟨by omega, by omega⟩ (by omega) ⟨by omega, by omega⟩)) (cwV 3 hts (gV pq1336 pq1338 pq29 pq81 pq1339) rfl rfl rfl (by decide +kernel) ⟨(by rw [hR]; exact (Nat.le_of_ble_eq_true rfl)), (by rw [hR]; exact (Nat.le_of_ble_eq_true rfl))⟩) (sP_V hP hD hK hN hLp0 hKp0 rfl rfl) rfl rfl hl.1 rfl (lv_room (Nat.le_of_ble_eq_true rfl)) dX7_two_44 ⟨(by rw [hR]; exact (Nat.le_of_ble_eq_true rfl)), (by rw [hR]; exact (Nat.le_of_ble_eq_true rfl))⟩) hS hAL hA (fun Iz44 Jz44 H locs hz44 hIz44 hP hS => ?_)
    obtain ⟨hIz44, frc44, zp44⟩ := hIz44
    refine lv_iconst (v := 1) hx hb dX7_two_47 (by decide +kernel) ?_
    subst hR; subst hQz
    exact W.iret (v := 1) hx hb hr (fun t ht hW => ⟨⟨1, (), rfl, trivial, ⟨Iz44, Jz44, hIz44, by rw [ht]; exact hP⟩⟩, hS.F ht⟩) hS.2.2 dX7_two_48
  refine lv_icmp_ne (tgt := 26) hx hb dX7_two_7 (by decide) (fun c7 => ?_) (fun c7 => ?_)
  · have t7 := tq_ne (k := z3.toInt) (q := p3.toInt) c7 rfl rfl
    exact j26  _ _ _ hP hS (lv_sub hl [0, 1, 2, 3, 4] rfl)
  · have t7 := tq_eq (k := z3.toInt) (q := p3.toInt) c7 rfl rfl
    refine lv_aload_n hx hb dX7_two_10 rfl (lv_at hl 0 rfl) ?_
    refine lv_iload_n hx hb dX7_two_11 rfl (lv_at hl 1 rfl) ?_
    refine lv_iload_n hx hb dX7_two_12 rfl (lv_at hl 2 rfl) ?_
    refine lv_iconst (v := 1) hx hb dX7_two_13 (by decide +kernel) ?_
    refine lv_iadd hx hb dX7_two_14 ?_
    refine lv_topi (fun z14 ez14 => ?_)
    have bz14 := tq_add (k := p2.toInt) (q := (1)) ez14 rfl (by decide +kernel) (by omega) (by omega)
    refine ro_i (va_runV (As := [.int p1, .int z14]) (rest := []) ⟨hx, hb, hml, hown, hts⟩ (s_X7_of l dC dI cs L K G Q hQ x0 m0 tx tm H.size I J hI p0 hLp0 hKp0 p1 ⟨by omega, by omega⟩ z14 ⟨by omega, by omega⟩) (cwV 2 hts (gV pq1320 pq1322 pq25 pq81 pq1323) rfl rfl rfl (by decide +kernel) ⟨(by rw [hR]; exact (Nat.le_of_ble_eq_true rfl)), (by rw [hR]; exact (Nat.le_of_ble_eq_true rfl))⟩) (sP_V hP hD hK hN hLp0 hKp0 rfl rfl) rfl rfl hl.1 rfl (lv_room (Nat.le_of_ble_eq_true rfl)) dX7_two_15 ⟨(by rw [hR]; exact (Nat.le_of_ble_eq_true rfl)), (by rw [hR]; exact (Nat.le_of_ble_eq_true rfl))⟩) hS hP (fun z15 H locs hz15 hP hS => ?_)
    obtain ⟨fez15, xpz15⟩ := hz15
    refine lv_iload hx hb dX7_two_18 (lv_at hl 4 rfl) ?_
    refine lv_icmp_ne (tgt := 26) hx hb dX7_two_20 (by decide) (fun c20 => ?_) (fun c20 => ?_)
    · have t20 := tq_ne (k := z15.toInt) (q := p4.toInt) c20 rfl rfl
      exact j26  _ _ _ hP hS (lv_sub hl [0, 1, 2, 3, 4] rfl)
    · have t20 := tq_eq (k := z15.toInt) (q := p4.toInt) c20 rfl rfl
      refine lv_bipush (v := (-2)) hx hb dX7_two_23 (by decide +kernel) ?_
      subst hR; subst hQz
      exact W.iret (v := (-2)) hx hb hr (fun t ht hW => ⟨⟨(-2), (), rfl, trivial, ⟨I, J, hI, by rw [ht]; exact hP⟩⟩, hS.F ht⟩) hS.2.2 dX7_two_25

set_option maxHeartbeats 4000000 in
set_option maxRecDepth 100000 in
theorem s_X7_layers (l : Launch) (dC : Nat → ClassId) (dI : Nat → Nat → Nat) (cs : Nat → ClassId) (L : List Nat) (K G : Nat → Nat) (Q : Nat → Nat → Option Nat) (hQ : Sv L K G Q) (x0 m0 : Nat) (tx : Int32) (tm : Int32 × Int) (sz : Nat) (I : Nat → Nat → Int32) (J : Nat → Nat → Int64) (hI : Iv L K x0 m0 tx tm I) (p0 : Nat) (hLp0 : p0 ∈ L) (hKp0 : K p0 = 7) (p1 : Int32) (p2 : Int32) (p3 : Int32) : Met l yX7_layers (.code yX7_layers cX7_layers 4 (some .int) :: pw) ({ frames := 4, cells := 0, slots := 0, locals := 91 }) (sP (dC, dI) cs [.ref p0, .int p1, .int p2, .int p3] sz L K I J Q) (va_Qi (fun (r : Int32) (_ : Unit) => True) (fun _ t => sB (dC, dI) cs L K Q (Iv L K x0 m0 tx tm) t) (fun q => q ∈ L ∨ sz ≤ q)) 0 0 (fun q => q ∈ L ∨ sz ≤ q) := by
  refine Met.ofW (cc := cX7_layers) (maxL := 4) (ret := (some .int)) (by decide +kernel) rfl ?_
  intro p e s m args below meth c s₁ B hml hv
  obtain ⟨rfl, hsz, hP, hK, hD0, hN⟩ := hv
  have hx := B.exec
  have hb := B.bytes
  have hr := B.returns
  have hts := fun w (h : w ∈ pw) => atoms_spec (ws := Cond.code yX7_layers cX7_layers 4 (some .int) :: pw) B.pre w (List.mem_cons_of_mem _ h)
  have hown : s.vm.findClass RX7 = some m.cls := findClass_of_methodNamed B.named
  have hlocks := B.notSynchronized
  subst hsz
  have hBB : 999 ≤ tm.2 ∧ tm.2 ≤ 6000000 := hI.2.2.2.2
  obtain ⟨A, hAe⟩ : ∃ A : Nat → Prop, A = (fun q => q ∈ L ∨ s.heap.size ≤ q) := ⟨_, rfl⟩
  rw [← hAe]
  have hAL : ∀ q, q ∈ L → A q := fun q h => by rw [hAe]; exact Or.inl h
  have hA : ∀ q, s.heap.size ≤ q → A q := fun q h => by rw [hAe]; exact Or.inr h
  have hD : ∀ F, va_D A (va_pl L F) := fun F => (hD0 F).weaken (fun k q hk _ => hAL _ (pl_mem hk))
  obtain ⟨H, hHe⟩ : ∃ H : Heap, H = s.heap := ⟨_, rfl⟩
  have hS : va_S A s.heap H [] := by rw [hHe]; exact va_S.rf
  rw [← hHe] at hP
  have hl := lv_entry ([.ref p0, .int p1, .int p2, .int p3]) (n := 4) (Nat.le_of_ble_eq_true rfl)
  rw [lg_entry_eq]
  generalize (lg_sl ([.ref p0, .int p1, .int p2, .int p3]) ++ List.replicate (4 - (lg_sl ([.ref p0, .int p1, .int p2, .int p3])).length) Slot.unset).toArray = ls at hl ⊢
  have hl : lv_has ls 4 [(0, .ref p0), (1, .int p1), (2, .int p2), (3, .int p3)] := hl
  rw [← hHe]
  refine namedW (fun R Qz hR hQz => ?_)
  refine lv_aload_n hx hb dX7_layers_0 rfl (lv_at hl 0 rfl) ?_
  refine lv_iload_n hx hb dX7_layers_1 rfl (lv_at hl 1 rfl) ?_
  refine ro_i (va_runV (As := [.int p1]) (rest := []) ⟨hx, hb, hml, hown, hts⟩ (s_X7_isBody l dC dI cs L K G Q hQ x0 m0 tx tm H.size I J hI p0 hLp0 hKp0 p1) (cwV 1 hts (gV pq1310 pq1312 pq23 pq81 pq1313) rfl rfl rfl (by decide +kernel) ⟨(by rw [hR]; exact (Nat.le_of_ble_eq_true rfl)), (by rw [hR]; exact (Nat.le_of_ble_eq_true rfl))⟩) (sP_V hP hD hK hN hLp0 hKp0 rfl rfl) rfl rfl hl.1 rfl (lv_room (Nat.le_of_ble_eq_true rfl)) dX7_layers_2 ⟨(by rw [hR]; exact (Nat.le_of_ble_eq_true rfl)), (by rw [hR]; exact (Nat.le_of_ble_eq_true rfl))⟩) hS hP (fun z2 H locs hz2 hP hS => ?_)
  obtain ⟨bz2, imz2⟩ := hz2
  refine lv_if_eq (tgt := 43) hx hb dX7_layers_5 (by decide) (fun c5 => ?_) (fun c5 => ?_)
  · have t5 := tq_eq (k := z2.toInt) (q := (0)) c5 rfl (by decide +kernel)
    refine lv_iconst (v := (-1)) hx hb dX7_layers_43 (by decide +kernel) ?_
    subst hR; subst hQz
    exact W.iret (v := (-1)) hx hb hr (fun t ht hW => ⟨⟨(-1), (), rfl, trivial, ⟨I, J, hI, by rw [ht]; exact hP⟩⟩, hS.F ht⟩) hS.2.2 dX7_layers_44
  · have t5 := tq_ne (k := z2.toInt) (q := (0)) c5 rfl (by decide +kernel)
    have i5 := imz2 t5
    refine lv_iload_n hx hb dX7_layers_8 rfl (lv_at hl 2 rfl) ?_
    refine lv_i2l hx hb dX7_layers_9 rfl ?_
    refine lv_topl (fun z9 ez9 => ?_)
    have bz9 := tq_i2l (k := p2.toInt) ez9 rfl
    refine lv_lconst (v := 0) hx hb dX7_layers_10 (by decide +kernel) ?_
    refine lv_ldc2 hx hb hown (hts _ pq1349) dX7_layers_11 ?_
    refine ro_i (va_runS (As := [.long z9, .long 0, .long 15]) (rest := []) ⟨hx, hb, hml, hown, hts⟩ (s_X7_in l dC dI cs L K Q H.size I J z9 0 15) (va_cwS 3 hts (gS pq1234 pq1235 pq81 pq1236) rfl rfl rfl (by decide +kernel) ⟨(by rw [hR]; exact (Nat.le_of_ble_eq_true rfl)), (by rw [hR]; exact (Nat.le_of_ble_eq_true rfl))⟩) (sP_S hP hD hK hN) rfl rfl hl.1 rfl (lv_room (Nat.le_of_ble_eq_true rfl)) dX7_layers_14 ⟨(by rw [hR]; exact (Nat.le_of_ble_eq_true rfl)), (by rw [hR]; exact (Nat.le_of_ble_eq_true rfl))⟩) hS hP (fun z14 H locs hz14 hP hS => ?_)
    have csl14_0 : (0 : Int64).toInt = 0 := by decide +kernel
    have csl14_15 : (15 : Int64).toInt = 15 := by decide +kernel
    obtain ⟨bz14, imz14⟩ := hz14
    refine lv_if_eq (tgt := 43) hx hb dX7_layers_17 (by decide) (fun c17 => ?_) (fun c17 => ?_)
    · have t17 := tq_eq (k := z14.toInt) (q := (0)) c17 rfl (by decide +kernel)
      refine lv_iconst (v := (-1)) hx hb dX7_layers_43 (by decide +kernel) ?_
      subst hR; subst hQz
      exact W.iret (v := (-1)) hx hb hr (fun t ht hW => ⟨⟨(-1), (), rfl, trivial, ⟨I, J, hI, by rw [ht]; exact hP⟩⟩, hS.F ht⟩) hS.2.2 dX7_layers_44
    · have t17 := tq_ne (k := z14.toInt) (q := (0)) c17 rfl (by decide +kernel)
      have i17 := imz14 t17
      refine lv_iload_n hx hb dX7_layers_20 rfl (lv_at hl 3 rfl) ?_
      refine lv_i2l hx hb dX7_layers_21 rfl ?_
      refine lv_topl (fun z21 ez21 => ?_)
      have bz21 := tq_i2l (k := p3.toInt) ez21 rfl
      refine lv_lconst (v := 0) hx hb dX7_layers_22 (by decide +kernel) ?_
      refine lv_ldc2 hx hb hown (hts _ pq1349) dX7_layers_23 ?_
      refine ro_i (va_runS (As := [.long z21, .long 0, .long 15]) (rest := []) ⟨hx, hb, hml, hown, hts⟩ (s_X7_in l dC dI cs L K Q H.size I J z21 0 15) (va_cwS 3 hts (gS pq1234 pq1235 pq81 pq1236) rfl rfl rfl (by decide +kernel) ⟨(by rw [hR]; exact (Nat.le_of_ble_eq_true rfl)), (by rw [hR]; exact (Nat.le_of_ble_eq_true rfl))⟩) (sP_S hP hD hK hN) rfl rfl hl.1 rfl (lv_room (Nat.le_of_ble_eq_true rfl)) dX7_layers_26 ⟨(by rw [hR]; exact (Nat.le_of_ble_eq_true rfl)), (by rw [hR]; exact (Nat.le_of_ble_eq_true rfl))⟩) hS hP (fun z26 H locs hz26 hP hS => ?_)
      have csl26_0 : (0 : Int64).toInt = 0 := by decide +kernel
      have csl26_15 : (15 : Int64).toInt = 15 := by decide +kernel
      obtain ⟨bz26, imz26⟩ := hz26
      refine lv_if_eq (tgt := 43) hx hb dX7_layers_29 (by decide) (fun c29 => ?_) (fun c29 => ?_)
      · have t29 := tq_eq (k := z26.toInt) (q := (0)) c29 rfl (by decide +kernel)
        refine lv_iconst (v := (-1)) hx hb dX7_layers_43 (by decide +kernel) ?_
        subst hR; subst hQz
        exact W.iret (v := (-1)) hx hb hr (fun t ht hW => ⟨⟨(-1), (), rfl, trivial, ⟨I, J, hI, by rw [ht]; exact hP⟩⟩, hS.F ht⟩) hS.2.2 dX7_layers_44
      · have t29 := tq_ne (k := z26.toInt) (q := (0)) c29 rfl (by decide +kernel)
        have i29 := imz26 t29
        refine lv_aload_n hx hb dX7_layers_32 rfl (lv_at hl 0 rfl) ?_
        refine lv_iload_n hx hb dX7_layers_33 rfl (lv_at hl 1 rfl) ?_
        refine lv_iconst (v := 4) hx hb dX7_layers_34 (by decide +kernel) ?_
        refine lv_iload_n hx hb dX7_layers_35 rfl (lv_at hl 2 rfl) ?_
        refine lv_iload_n hx hb dX7_layers_36 rfl (lv_at hl 3 rfl) ?_
        refine sw_i (Z := (Iv L K x0 m0 tx tm)) (va_runV (As := [.int p1, .int 4, .int p2, .int p3]) (rest := []) ⟨hx, hb, hml, hown, hts⟩ (s_X7_twoL l dC dI cs L K G Q hQ x0 m0 tx tm H.size I J hI p0 hLp0 hKp0 p1 ⟨by omega, by omega⟩ 4 ⟨by decide +kernel, by decide +kernel⟩ p2 p3) (cwV 4 hts (gV pq1350 pq1352 pq30 pq81 pq1353) rfl rfl rfl (by decide +kernel) ⟨(by rw [hR]; exact (Nat.le_of_ble_eq_true rfl)), (by rw [hR]; exact (Nat.le_of_ble_eq_true rfl))⟩) (sP_V hP hD hK hN hLp0 hKp0 rfl rfl) rfl rfl hl.1 rfl (lv_room (Nat.le_of_ble_eq_true rfl)) dX7_layers_37 ⟨(by rw [hR]; exact (Nat.le_of_ble_eq_true rfl)), (by rw [hR]; exact (Nat.le_of_ble_eq_true rfl))⟩) hS hAL hA (fun z37 Iz37 Jz37 H locs hz37 hIz37 hP hS => ?_)
        refine lv_goto (tgt := 44) hx hb dX7_layers_40 (by decide) ?_
        subst hR; subst hQz
        exact W.iret (v := z37) hx hb hr (fun t ht hW => ⟨⟨z37, (), rfl, trivial, ⟨Iz37, Jz37, hIz37, by rw [ht]; exact hP⟩⟩, hS.F ht⟩) hS.2.2 dX7_layers_44

set_option maxHeartbeats 4000000 in
set_option maxRecDepth 100000 in
theorem s_X7_speed (l : Launch) (dC : Nat → ClassId) (dI : Nat → Nat → Nat) (cs : Nat → ClassId) (L : List Nat) (K G : Nat → Nat) (Q : Nat → Nat → Option Nat) (hQ : Sv L K G Q) (x0 m0 : Nat) (tx : Int32) (tm : Int32 × Int) (sz : Nat) (I : Nat → Nat → Int32) (J : Nat → Nat → Int64) (hI : Iv L K x0 m0 tx tm I) (p0 : Nat) (hLp0 : p0 ∈ L) (hKp0 : K p0 = 7) (p1 : Int32) (p2 : Int32) (p3 : Int32) : Met l yX7_speed (.code yX7_speed cX7_speed 4 (some .int) :: pw) ({ frames := 4, cells := 0, slots := 0, locals := 91 }) (sP (dC, dI) cs [.ref p0, .int p1, .int p2, .int p3] sz L K I J Q) (va_Qi (fun (r : Int32) (_ : Unit) => True) (fun _ t => sB (dC, dI) cs L K Q (Iv L K x0 m0 tx tm) t) (fun q => q ∈ L ∨ sz ≤ q)) 0 0 (fun q => q ∈ L ∨ sz ≤ q) := by
  refine Met.ofW (cc := cX7_speed) (maxL := 4) (ret := (some .int)) (by decide +kernel) rfl ?_
  intro p e s m args below meth c s₁ B hml hv
  obtain ⟨rfl, hsz, hP, hK, hD0, hN⟩ := hv
  have hx := B.exec
  have hb := B.bytes
  have hr := B.returns
  have hts := fun w (h : w ∈ pw) => atoms_spec (ws := Cond.code yX7_speed cX7_speed 4 (some .int) :: pw) B.pre w (List.mem_cons_of_mem _ h)
  have hown : s.vm.findClass RX7 = some m.cls := findClass_of_methodNamed B.named
  have hlocks := B.notSynchronized
  subst hsz
  have hBB : 999 ≤ tm.2 ∧ tm.2 ≤ 6000000 := hI.2.2.2.2
  obtain ⟨A, hAe⟩ : ∃ A : Nat → Prop, A = (fun q => q ∈ L ∨ s.heap.size ≤ q) := ⟨_, rfl⟩
  rw [← hAe]
  have hAL : ∀ q, q ∈ L → A q := fun q h => by rw [hAe]; exact Or.inl h
  have hA : ∀ q, s.heap.size ≤ q → A q := fun q h => by rw [hAe]; exact Or.inr h
  have hD : ∀ F, va_D A (va_pl L F) := fun F => (hD0 F).weaken (fun k q hk _ => hAL _ (pl_mem hk))
  obtain ⟨H, hHe⟩ : ∃ H : Heap, H = s.heap := ⟨_, rfl⟩
  have hS : va_S A s.heap H [] := by rw [hHe]; exact va_S.rf
  rw [← hHe] at hP
  have hl := lv_entry ([.ref p0, .int p1, .int p2, .int p3]) (n := 4) (Nat.le_of_ble_eq_true rfl)
  rw [lg_entry_eq]
  generalize (lg_sl ([.ref p0, .int p1, .int p2, .int p3]) ++ List.replicate (4 - (lg_sl ([.ref p0, .int p1, .int p2, .int p3])).length) Slot.unset).toArray = ls at hl ⊢
  have hl : lv_has ls 4 [(0, .ref p0), (1, .int p1), (2, .int p2), (3, .int p3)] := hl
  rw [← hHe]
  refine namedW (fun R Qz hR hQz => ?_)
  refine lv_aload_n hx hb dX7_speed_0 rfl (lv_at hl 0 rfl) ?_
  refine lv_iload_n hx hb dX7_speed_1 rfl (lv_at hl 1 rfl) ?_
  refine ro_i (va_runV (As := [.int p1]) (rest := []) ⟨hx, hb, hml, hown, hts⟩ (s_X7_isBody l dC dI cs L K G Q hQ x0 m0 tx tm H.size I J hI p0 hLp0 hKp0 p1) (cwV 1 hts (gV pq1310 pq1312 pq23 pq81 pq1313) rfl rfl rfl (by decide +kernel) ⟨(by rw [hR]; exact (Nat.le_of_ble_eq_true rfl)), (by rw [hR]; exact (Nat.le_of_ble_eq_true rfl))⟩) (sP_V hP hD hK hN hLp0 hKp0 rfl rfl) rfl rfl hl.1 rfl (lv_room (Nat.le_of_ble_eq_true rfl)) dX7_speed_2 ⟨(by rw [hR]; exact (Nat.le_of_ble_eq_true rfl)), (by rw [hR]; exact (Nat.le_of_ble_eq_true rfl))⟩) hS hP (fun z2 H locs hz2 hP hS => ?_)
  obtain ⟨bz2, imz2⟩ := hz2
  refine lv_if_eq (tgt := 48) hx hb dX7_speed_5 (by decide) (fun c5 => ?_) (fun c5 => ?_)
  · have t5 := tq_eq (k := z2.toInt) (q := (0)) c5 rfl (by decide +kernel)
    refine lv_iconst (v := (-1)) hx hb dX7_speed_48 (by decide +kernel) ?_
    subst hR; subst hQz
    exact W.iret (v := (-1)) hx hb hr (fun t ht hW => ⟨⟨(-1), (), rfl, trivial, ⟨I, J, hI, by rw [ht]; exact hP⟩⟩, hS.F ht⟩) hS.2.2 dX7_speed_49
  · have t5 := tq_ne (k := z2.toInt) (q := (0)) c5 rfl (by decide +kernel)
    have i5 := imz2 t5
    refine lv_iload_n hx hb dX7_speed_8 rfl (lv_at hl 2 rfl) ?_
    refine lv_i2l hx hb dX7_speed_9 rfl ?_
    refine lv_topl (fun z9 ez9 => ?_)
    have bz9 := tq_i2l (k := p2.toInt) ez9 rfl
    refine lv_ldc2 hx hb hown (hts _ pq1358) dX7_speed_10 ?_
    refine lv_ldc2 hx hb hown (hts _ pq1359) dX7_speed_13 ?_
    refine ro_i (va_runS (As := [.long z9, .long (-20), .long 20]) (rest := []) ⟨hx, hb, hml, hown, hts⟩ (s_X7_in l dC dI cs L K Q H.size I J z9 (-20) 20) (va_cwS 3 hts (gS pq1234 pq1235 pq81 pq1236) rfl rfl rfl (by decide +kernel) ⟨(by rw [hR]; exact (Nat.le_of_ble_eq_true rfl)), (by rw [hR]; exact (Nat.le_of_ble_eq_true rfl))⟩) (sP_S hP hD hK hN) rfl rfl hl.1 rfl (lv_room (Nat.le_of_ble_eq_true rfl)) dX7_speed_16 ⟨(by rw [hR]; exact (Nat.le_of_ble_eq_true rfl)), (by rw [hR]; exact (Nat.le_of_ble_eq_true rfl))⟩) hS hP (fun z16 H locs hz16 hP hS => ?_)
    have csl16_m20 : ((-20) : Int64).toInt = (-20) := by decide +kernel
    have csl16_20 : (20 : Int64).toInt = 20 := by decide +kernel
    obtain ⟨bz16, imz16⟩ := hz16
    refine lv_if_eq (tgt := 48) hx hb dX7_speed_19 (by decide) (fun c19 => ?_) (fun c19 => ?_)
    · have t19 := tq_eq (k := z16.toInt) (q := (0)) c19 rfl (by decide +kernel)
      refine lv_iconst (v := (-1)) hx hb dX7_speed_48 (by decide +kernel) ?_
      subst hR; subst hQz
      exact W.iret (v := (-1)) hx hb hr (fun t ht hW => ⟨⟨(-1), (), rfl, trivial, ⟨I, J, hI, by rw [ht]; exact hP⟩⟩, hS.F ht⟩) hS.2.2 dX7_speed_49
    · have t19 := tq_ne (k := z16.toInt) (q := (0)) c19 rfl (by decide +kernel)
      have i19 := imz16 t19
      refine lv_iload_n hx hb dX7_speed_22 rfl (lv_at hl 3 rfl) ?_
      refine lv_i2l hx hb dX7_speed_23 rfl ?_
      refine lv_topl (fun z23 ez23 => ?_)
      have bz23 := tq_i2l (k := p3.toInt) ez23 rfl
      refine lv_ldc2 hx hb hown (hts _ pq1358) dX7_speed_24 ?_
      refine lv_ldc2 hx hb hown (hts _ pq1359) dX7_speed_27 ?_
      refine ro_i (va_runS (As := [.long z23, .long (-20), .long 20]) (rest := []) ⟨hx, hb, hml, hown, hts⟩ (s_X7_in l dC dI cs L K Q H.size I J z23 (-20) 20) (va_cwS 3 hts (gS pq1234 pq1235 pq81 pq1236) rfl rfl rfl (by decide +kernel) ⟨(by rw [hR]; exact (Nat.le_of_ble_eq_true rfl)), (by rw [hR]; exact (Nat.le_of_ble_eq_true rfl))⟩) (sP_S hP hD hK hN) rfl rfl hl.1 rfl (lv_room (Nat.le_of_ble_eq_true rfl)) dX7_speed_30 ⟨(by rw [hR]; exact (Nat.le_of_ble_eq_true rfl)), (by rw [hR]; exact (Nat.le_of_ble_eq_true rfl))⟩) hS hP (fun z30 H locs hz30 hP hS => ?_)
      have csl30_m20 : ((-20) : Int64).toInt = (-20) := by decide +kernel
      have csl30_20 : (20 : Int64).toInt = 20 := by decide +kernel
      obtain ⟨bz30, imz30⟩ := hz30
      refine lv_if_eq (tgt := 48) hx hb dX7_speed_33 (by decide) (fun c33 => ?_) (fun c33 => ?_)
      · have t33 := tq_eq (k := z30.toInt) (q := (0)) c33 rfl (by decide +kernel)
        refine lv_iconst (v := (-1)) hx hb dX7_speed_48 (by decide +kernel) ?_
        subst hR; subst hQz
        exact W.iret (v := (-1)) hx hb hr (fun t ht hW => ⟨⟨(-1), (), rfl, trivial, ⟨I, J, hI, by rw [ht]; exact hP⟩⟩, hS.F ht⟩) hS.2.2 dX7_speed_49
      · have t33 := tq_ne (k := z30.toInt) (q := (0)) c33 rfl (by decide +kernel)
        have i33 := imz30 t33
        refine lv_aload_n hx hb dX7_speed_36 rfl (lv_at hl 0 rfl) ?_
        refine lv_iload_n hx hb dX7_speed_37 rfl (lv_at hl 1 rfl) ?_
        refine lv_bipush (v := 6) hx hb dX7_speed_38 (by decide +kernel) ?_
        refine lv_iload_n hx hb dX7_speed_40 rfl (lv_at hl 2 rfl) ?_
        refine lv_iload_n hx hb dX7_speed_41 rfl (lv_at hl 3 rfl) ?_
        refine sw_i (Z := (Iv L K x0 m0 tx tm)) (va_runV (As := [.int p1, .int 6, .int p2, .int p3]) (rest := []) ⟨hx, hb, hml, hown, hts⟩ (s_X7_twoS l dC dI cs L K G Q hQ x0 m0 tx tm H.size I J hI p0 hLp0 hKp0 p1 ⟨by omega, by omega⟩ 6 ⟨by decide +kernel, by decide +kernel⟩ p2 ⟨by omega, by omega⟩ p3 ⟨by omega, by omega⟩) (cwV 4 hts (gV pq1350 pq1352 pq30 pq81 pq1353) rfl rfl rfl (by decide +kernel) ⟨(by rw [hR]; exact (Nat.le_of_ble_eq_true rfl)), (by rw [hR]; exact (Nat.le_of_ble_eq_true rfl))⟩) (sP_V hP hD hK hN hLp0 hKp0 rfl rfl) rfl rfl hl.1 rfl (lv_room (Nat.le_of_ble_eq_true rfl)) dX7_speed_42 ⟨(by rw [hR]; exact (Nat.le_of_ble_eq_true rfl)), (by rw [hR]; exact (Nat.le_of_ble_eq_true rfl))⟩) hS hAL hA (fun z42 Iz42 Jz42 H locs hz42 hIz42 hP hS => ?_)
        refine lv_goto (tgt := 49) hx hb dX7_speed_45 (by decide) ?_
        subst hR; subst hQz
        exact W.iret (v := z42) hx hb hr (fun t ht hW => ⟨⟨z42, (), rfl, trivial, ⟨Iz42, Jz42, hIz42, by rw [ht]; exact hP⟩⟩, hS.F ht⟩) hS.2.2 dX7_speed_49

set_option maxHeartbeats 4000000 in
set_option maxRecDepth 100000 in
theorem s_X7_turn (l : Launch) (dC : Nat → ClassId) (dI : Nat → Nat → Nat) (cs : Nat → ClassId) (L : List Nat) (K G : Nat → Nat) (Q : Nat → Nat → Option Nat) (hQ : Sv L K G Q) (x0 m0 : Nat) (tx : Int32) (tm : Int32 × Int) (sz : Nat) (I : Nat → Nat → Int32) (J : Nat → Nat → Int64) (hI : Iv L K x0 m0 tx tm I) (p0 : Nat) (hLp0 : p0 ∈ L) (hKp0 : K p0 = 7) (p1 : Int32) (p2 : Int32) (p3 : Int32) : Met l yX7_turn (.code yX7_turn cX7_turn 4 (some .int) :: pw) ({ frames := 3, cells := 0, slots := 0, locals := 67 }) (sP (dC, dI) cs [.ref p0, .int p1, .int p2, .int p3] sz L K I J Q) (va_Qi (fun (r : Int32) (_ : Unit) => True) (fun _ t => sB (dC, dI) cs L K Q (Iv L K x0 m0 tx tm) t) (fun q => q ∈ L ∨ sz ≤ q)) 0 0 (fun q => q ∈ L ∨ sz ≤ q) := by
  refine Met.ofW (cc := cX7_turn) (maxL := 4) (ret := (some .int)) (by decide +kernel) rfl ?_
  intro p e s m args below meth c s₁ B hml hv
  obtain ⟨rfl, hsz, hP, hK, hD0, hN⟩ := hv
  have hx := B.exec
  have hb := B.bytes
  have hr := B.returns
  have hts := fun w (h : w ∈ pw) => atoms_spec (ws := Cond.code yX7_turn cX7_turn 4 (some .int) :: pw) B.pre w (List.mem_cons_of_mem _ h)
  have hown : s.vm.findClass RX7 = some m.cls := findClass_of_methodNamed B.named
  have hlocks := B.notSynchronized
  subst hsz
  have hBB : 999 ≤ tm.2 ∧ tm.2 ≤ 6000000 := hI.2.2.2.2
  obtain ⟨A, hAe⟩ : ∃ A : Nat → Prop, A = (fun q => q ∈ L ∨ s.heap.size ≤ q) := ⟨_, rfl⟩
  rw [← hAe]
  have hAL : ∀ q, q ∈ L → A q := fun q h => by rw [hAe]; exact Or.inl h
  have hA : ∀ q, s.heap.size ≤ q → A q := fun q h => by rw [hAe]; exact Or.inr h
  have hD : ∀ F, va_D A (va_pl L F) := fun F => (hD0 F).weaken (fun k q hk _ => hAL _ (pl_mem hk))
  obtain ⟨H, hHe⟩ : ∃ H : Heap, H = s.heap := ⟨_, rfl⟩
  have hS : va_S A s.heap H [] := by rw [hHe]; exact va_S.rf
  rw [← hHe] at hP
  have hl := lv_entry ([.ref p0, .int p1, .int p2, .int p3]) (n := 4) (Nat.le_of_ble_eq_true rfl)
  rw [lg_entry_eq]
  generalize (lg_sl ([.ref p0, .int p1, .int p2, .int p3]) ++ List.replicate (4 - (lg_sl ([.ref p0, .int p1, .int p2, .int p3])).length) Slot.unset).toArray = ls at hl ⊢
  have hl : lv_has ls 4 [(0, .ref p0), (1, .int p1), (2, .int p2), (3, .int p3)] := hl
  rw [← hHe]
  refine namedW (fun R Qz hR hQz => ?_)
  refine lv_aload_n hx hb dX7_turn_0 rfl (lv_at hl 0 rfl) ?_
  refine lv_iload_n hx hb dX7_turn_1 rfl (lv_at hl 1 rfl) ?_
  refine ro_i (va_runV (As := [.int p1]) (rest := []) ⟨hx, hb, hml, hown, hts⟩ (s_X7_isMask l dC dI cs L K G Q hQ x0 m0 tx tm H.size I J hI p0 hLp0 hKp0 p1) (cwV 1 hts (gV pq1364 pq1366 pq31 pq81 pq1367) rfl rfl rfl (by decide +kernel) ⟨(by rw [hR]; exact (Nat.le_of_ble_eq_true rfl)), (by rw [hR]; exact (Nat.le_of_ble_eq_true rfl))⟩) (sP_V hP hD hK hN hLp0 hKp0 rfl rfl) rfl rfl hl.1 rfl (lv_room (Nat.le_of_ble_eq_true rfl)) dX7_turn_2 ⟨(by rw [hR]; exact (Nat.le_of_ble_eq_true rfl)), (by rw [hR]; exact (Nat.le_of_ble_eq_true rfl))⟩) hS hP (fun z2 H locs hz2 hP hS => ?_)
  obtain ⟨bz2, imz2⟩ := hz2
  refine lv_if_eq (tgt := 42) hx hb dX7_turn_5 (by decide) (fun c5 => ?_) (fun c5 => ?_)
  · have t5 := tq_eq (k := z2.toInt) (q := (0)) c5 rfl (by decide +kernel)
    refine lv_iconst (v := (-1)) hx hb dX7_turn_42 (by decide +kernel) ?_
    subst hR; subst hQz
    exact W.iret (v := (-1)) hx hb hr (fun t ht hW => ⟨⟨(-1), (), rfl, trivial, ⟨I, J, hI, by rw [ht]; exact hP⟩⟩, hS.F ht⟩) hS.2.2 dX7_turn_43
  · have t5 := tq_ne (k := z2.toInt) (q := (0)) c5 rfl (by decide +kernel)
    have i5 := imz2 t5
    refine lv_iload_n hx hb dX7_turn_8 rfl (lv_at hl 2 rfl) ?_
    refine lv_i2l hx hb dX7_turn_9 rfl ?_
    refine lv_topl (fun z9 ez9 => ?_)
    have bz9 := tq_i2l (k := p2.toInt) ez9 rfl
    refine lv_lconst (v := 0) hx hb dX7_turn_10 (by decide +kernel) ?_
    refine lv_aload_n hx hb dX7_turn_11 rfl (lv_at hl 0 rfl) ?_
    refine lv_iload_n hx hb dX7_turn_12 rfl (lv_at hl 1 rfl) ?_
    refine ro_i (va_runV (As := [.int p1]) (rest := [.long 0, .long z9]) ⟨hx, hb, hml, hown, hts⟩ (s_X7_wide l dC dI cs L K G Q hQ x0 m0 tx tm H.size I J hI p0 hLp0 hKp0 p1 ⟨by omega, by omega⟩) (cwV 1 hts (gV pq1368 pq1370 pq32 pq81 pq1371) rfl rfl rfl (by decide +kernel) ⟨(by rw [hR]; exact (Nat.le_of_ble_eq_true rfl)), (by rw [hR]; exact (Nat.le_of_ble_eq_true rfl))⟩) (sP_V hP hD hK hN hLp0 hKp0 rfl rfl) rfl rfl hl.1 rfl (lv_room (Nat.le_of_ble_eq_true rfl)) dX7_turn_13 ⟨(by rw [hR]; exact (Nat.le_of_ble_eq_true rfl)), (by rw [hR]; exact (Nat.le_of_ble_eq_true rfl))⟩) hS hP (fun z13 H locs hz13 hP hS => ?_)
    obtain ⟨bz13, fez13⟩ := hz13
    refine lv_iconst (v := 1) hx hb dX7_turn_16 (by decide +kernel) ?_
    refine lv_isub hx hb dX7_turn_17 ?_
    refine lv_topi (fun z17 ez17 => ?_)
    have bz17 := tq_sub (k := z13.toInt) (q := (1)) ez17 rfl (by decide +kernel) (by omega) (by omega)
    refine lv_i2l hx hb dX7_turn_18 rfl ?_
    refine lv_topl (fun z18 ez18 => ?_)
    have bz18 := tq_i2l (k := z17.toInt) ez18 rfl
    refine ro_i (va_runS (As := [.long z9, .long 0, .long z18]) (rest := []) ⟨hx, hb, hml, hown, hts⟩ (s_X7_in l dC dI cs L K Q H.size I J z9 0 z18) (va_cwS 3 hts (gS pq1234 pq1235 pq81 pq1236) rfl rfl rfl (by decide +kernel) ⟨(by rw [hR]; exact (Nat.le_of_ble_eq_true rfl)), (by rw [hR]; exact (Nat.le_of_ble_eq_true rfl))⟩) (sP_S hP hD hK hN) rfl rfl hl.1 rfl (lv_room (Nat.le_of_ble_eq_true rfl)) dX7_turn_19 ⟨(by rw [hR]; exact (Nat.le_of_ble_eq_true rfl)), (by rw [hR]; exact (Nat.le_of_ble_eq_true rfl))⟩) hS hP (fun z19 H locs hz19 hP hS => ?_)
    have csl19_0 : (0 : Int64).toInt = 0 := by decide +kernel
    obtain ⟨bz19, imz19⟩ := hz19
    refine lv_if_eq (tgt := 42) hx hb dX7_turn_22 (by decide) (fun c22 => ?_) (fun c22 => ?_)
    · have t22 := tq_eq (k := z19.toInt) (q := (0)) c22 rfl (by decide +kernel)
      refine lv_iconst (v := (-1)) hx hb dX7_turn_42 (by decide +kernel) ?_
      subst hR; subst hQz
      exact W.iret (v := (-1)) hx hb hr (fun t ht hW => ⟨⟨(-1), (), rfl, trivial, ⟨I, J, hI, by rw [ht]; exact hP⟩⟩, hS.F ht⟩) hS.2.2 dX7_turn_43
    · have t22 := tq_ne (k := z19.toInt) (q := (0)) c22 rfl (by decide +kernel)
      have i22 := imz19 t22
      refine lv_iload_n hx hb dX7_turn_25 rfl (lv_at hl 3 rfl) ?_
      refine lv_i2l hx hb dX7_turn_26 rfl ?_
      refine lv_topl (fun z26 ez26 => ?_)
      have bz26 := tq_i2l (k := p3.toInt) ez26 rfl
      refine lv_lconst (v := 0) hx hb dX7_turn_27 (by decide +kernel) ?_
      refine lv_aload_n hx hb dX7_turn_28 rfl (lv_at hl 0 rfl) ?_
      refine lv_iload_n hx hb dX7_turn_29 rfl (lv_at hl 1 rfl) ?_
      refine ro_i (va_runV (As := [.int p1]) (rest := [.long 0, .long z26]) ⟨hx, hb, hml, hown, hts⟩ (s_X7_high l dC dI cs L K G Q hQ x0 m0 tx tm H.size I J hI p0 hLp0 hKp0 p1 ⟨by omega, by omega⟩) (cwV 1 hts (gV pq1372 pq1374 pq33 pq81 pq1375) rfl rfl rfl (by decide +kernel) ⟨(by rw [hR]; exact (Nat.le_of_ble_eq_true rfl)), (by rw [hR]; exact (Nat.le_of_ble_eq_true rfl))⟩) (sP_V hP hD hK hN hLp0 hKp0 rfl rfl) rfl rfl hl.1 rfl (lv_room (Nat.le_of_ble_eq_true rfl)) dX7_turn_30 ⟨(by rw [hR]; exact (Nat.le_of_ble_eq_true rfl)), (by rw [hR]; exact (Nat.le_of_ble_eq_true rfl))⟩) hS hP (fun z30 H locs hz30 hP hS => ?_)
      obtain ⟨bz30, fez30⟩ := hz30
      refine lv_iconst (v := 1) hx hb dX7_turn_33 (by decide +kernel) ?_
      refine lv_isub hx hb dX7_turn_34 ?_
      refine lv_topi (fun z34 ez34 => ?_)
      have bz34 := tq_sub (k := z30.toInt) (q := (1)) ez34 rfl (by decide +kernel) (by omega) (by omega)
      refine lv_i2l hx hb dX7_turn_35 rfl ?_
      refine lv_topl (fun z35 ez35 => ?_)
      have bz35 := tq_i2l (k := z34.toInt) ez35 rfl
      refine ro_i (va_runS (As := [.long z26, .long 0, .long z35]) (rest := []) ⟨hx, hb, hml, hown, hts⟩ (s_X7_in l dC dI cs L K Q H.size I J z26 0 z35) (va_cwS 3 hts (gS pq1234 pq1235 pq81 pq1236) rfl rfl rfl (by decide +kernel) ⟨(by rw [hR]; exact (Nat.le_of_ble_eq_true rfl)), (by rw [hR]; exact (Nat.le_of_ble_eq_true rfl))⟩) (sP_S hP hD hK hN) rfl rfl hl.1 rfl (lv_room (Nat.le_of_ble_eq_true rfl)) dX7_turn_36 ⟨(by rw [hR]; exact (Nat.le_of_ble_eq_true rfl)), (by rw [hR]; exact (Nat.le_of_ble_eq_true rfl))⟩) hS hP (fun z36 H locs hz36 hP hS => ?_)
      have csl36_0 : (0 : Int64).toInt = 0 := by decide +kernel
      obtain ⟨bz36, imz36⟩ := hz36
      refine lv_if_ne (tgt := 44) hx hb dX7_turn_39 (by decide) (fun c39 => ?_) (fun c39 => ?_)
      · have t39 := tq_ne (k := z36.toInt) (q := (0)) c39 rfl (by decide +kernel)
        have i39 := imz36 t39
        refine lv_aload_n hx hb dX7_turn_44 rfl (lv_at hl 0 rfl) ?_
        refine sw_v (Z := (fun I1 => Iv L K x0 m0 tx tm I1 ∧ (∀ b, ¬ (K b = 7 ∨ K b = 19 ∨ K b = 30) → I1 b = I b))) (va_runV (As := []) (rest := []) ⟨hx, hb, hml, hown, hts⟩ (s_X7_keepsPast l dC dI cs L K G Q hQ x0 m0 tx tm H.size I J hI p0 hLp0 hKp0) (cwV 0 hts (gV pq1324 pq1326 pq26 pq81 pq1327) rfl rfl rfl (by decide +kernel) ⟨(by rw [hR]; exact (Nat.le_of_ble_eq_true rfl)), (by rw [hR]; exact (Nat.le_of_ble_eq_true rfl))⟩) (sP_V hP hD hK hN hLp0 hKp0 rfl rfl) rfl rfl hl.1 rfl (lv_room (Nat.le_of_ble_eq_true rfl)) dX7_turn_45 ⟨(by rw [hR]; exact (Nat.le_of_ble_eq_true rfl)), (by rw [hR]; exact (Nat.le_of_ble_eq_true rfl))⟩) hS hAL hA (fun Iz45 Jz45 H locs hz45 hIz45 hP hS => ?_)
        obtain ⟨hIz45, frc45⟩ := hIz45
        refine lv_aload_n hx hb dX7_turn_48 rfl (lv_at hl 0 rfl) ?_
        obtain ⟨y49, ey49, hLy49, hKy49⟩ := oQ_7_5 (Sv_at hQ hLp0 hKp0)
        refine p_get (v := .ref y49) hx hb hts inX7 hown hK hP hLp0 hKp0 rfl rfl 5 (by decide) (hts _ pq1120) (congrArg (fun q => some (va_rf q)) ey49) dX7_turn_49 ?_
        refine lv_bipush (v := 80) hx hb dX7_turn_52 (by decide +kernel) ?_
        refine lv_iload_n hx hb dX7_turn_54 rfl (lv_at hl 1 rfl) ?_
        refine lv_imul hx hb dX7_turn_55 ?_
        refine lv_topi (fun z55 ez55 => ?_)
        have bz55 := tq_mul (k := (80)) (q := p1.toInt) ez55 (by decide +kernel) rfl (by omega) (by omega)
        refine lv_iconst (v := 2) hx hb dX7_turn_56 (by decide +kernel) ?_
        refine lv_iload_n hx hb dX7_turn_57 rfl (lv_at hl 3 rfl) ?_
        refine lv_imul hx hb dX7_turn_58 ?_
        refine lv_topi (fun z58 ez58 => ?_)
        have bz58 := tq_mul (k := (2)) (q := p3.toInt) ez58 (by decide +kernel) rfl (by omega) (by omega)
        refine lv_iadd hx hb dX7_turn_59 ?_
        refine lv_topi (fun z59 ez59 => ?_)
        have bz59 := tq_add (k := z55.toInt) (q := z58.toInt) ez59 rfl rfl (by omega) (by omega)
        refine lv_iload_n hx hb dX7_turn_60 rfl (lv_at hl 2 rfl) ?_
        refine lv_bipush (v := 64) hx hb dX7_turn_61 (by decide +kernel) ?_
        refine lv_idiv hx hb dX7_turn_63 (by decide +kernel) ?_
        refine lv_topi (fun z63 ez63 => ?_)
        have bz63 := tq_div (k := 64) ez63 (by decide +kernel) (by omega) (by omega)
        refine lv_iadd hx hb dX7_turn_64 ?_
        refine lv_topi (fun z64 ez64 => ?_)
        have bz64 := tq_add (k := z59.toInt) (q := z63.toInt) ez64 rfl rfl (by omega) (by omega)
        refine lv_dup2_11 hx hb dX7_turn_65 rfl rfl ?_
        refine p_lald hx hb hK hP 11 hLy49 hKy49 rfl rfl (in_of (by omega) (by omega)) dX7_turn_66 ?_
        refine lv_topl (fun z66 ez66 => ?_)
        refine lv_lconst (v := 1) hx hb dX7_turn_67 (by decide +kernel) ?_
        refine lv_iload_n hx hb dX7_turn_68 rfl (lv_at hl 2 rfl) ?_
        refine lv_bipush (v := 64) hx hb dX7_turn_69 (by decide +kernel) ?_
        refine lv_irem hx hb dX7_turn_71 (by decide +kernel) ?_
        refine lv_topi (fun z71 ez71 => ?_)
        have bz71 := tq_rem (k := 64) ez71 (by decide +kernel) (by omega) (by omega)
        refine lv_lshl hx hb dX7_turn_72 rfl ?_
        refine lv_topl (fun z72 ez72 => ?_)
        refine lv_lxor hx hb dX7_turn_73 ?_
        refine lv_topl (fun z73 ez73 => ?_)
        refine p_last hx hb hK hP hD hS 11 hLy49 hKy49 rfl (fun _ => rfl) rfl (in_of (by omega) (by omega)) dX7_turn_74 (fun H locs hP hS => ?_)
        obtain ⟨Jz74, hP⟩ : ∃ Jz74, va_P (dC, dI) vwCl (Wd cs L K Iz45 Jz74 Q) H := ⟨_, hP⟩
        refine lv_aload_n hx hb dX7_turn_75 rfl (lv_at hl 0 rfl) ?_
        refine lv_iload_n hx hb dX7_turn_76 rfl (lv_at hl 1 rfl) ?_
        refine lv_iload_n hx hb dX7_turn_77 rfl (lv_at hl 2 rfl) ?_
        refine lv_iload_n hx hb dX7_turn_78 rfl (lv_at hl 3 rfl) ?_
        refine ro_i (va_runV (As := [.int p1, .int p2, .int p3]) (rest := []) ⟨hx, hb, hml, hown, hts⟩ (s_X7_has l dC dI cs L K G Q hQ x0 m0 tx tm H.size Iz45 Jz74 hIz45 p0 hLp0 hKp0 p1 ⟨by omega, by omega⟩ p2 p3) (cwV 3 hts (gV pq1376 pq1378 pq34 pq81 pq1379) rfl rfl rfl (by decide +kernel) ⟨(by rw [hR]; exact (Nat.le_of_ble_eq_true rfl)), (by rw [hR]; exact (Nat.le_of_ble_eq_true rfl))⟩) (sP_V hP hD hK hN hLp0 hKp0 rfl rfl) rfl rfl hl.1 rfl (lv_room (Nat.le_of_ble_eq_true rfl)) dX7_turn_79 ⟨(by rw [hR]; exact (Nat.le_of_ble_eq_true rfl)), (by rw [hR]; exact (Nat.le_of_ble_eq_true rfl))⟩) hS hP (fun z79 H locs hz79 hP hS => ?_)
        obtain ⟨bz79, imz79⟩ := hz79
        refine ro_i (va_runS (As := [.int z79]) (rest := []) ⟨hx, hb, hml, hown, hts⟩ (s_X7_truth l dC dI cs L K Q H.size Iz45 Jz74 z79) (va_cwS 1 hts (gS pq1257 pq1258 pq81 pq1259) rfl rfl rfl (by decide +kernel) ⟨(by rw [hR]; exact (Nat.le_of_ble_eq_true rfl)), (by rw [hR]; exact (Nat.le_of_ble_eq_true rfl))⟩) (sP_S hP hD hK hN) rfl rfl hl.1 rfl (lv_room (Nat.le_of_ble_eq_true rfl)) dX7_turn_82 ⟨(by rw [hR]; exact (Nat.le_of_ble_eq_true rfl)), (by rw [hR]; exact (Nat.le_of_ble_eq_true rfl))⟩) hS hP (fun z82 H locs hz82 hP hS => ?_)
        obtain ⟨bz82, xpz82⟩ := hz82
        subst hR; subst hQz
        exact W.iret (v := z82) hx hb hr (fun t ht hW => ⟨⟨z82, (), rfl, trivial, ⟨Iz45, Jz74, hIz45, by rw [ht]; exact hP⟩⟩, hS.F ht⟩) hS.2.2 dX7_turn_85
      · have t39 := tq_eq (k := z36.toInt) (q := (0)) c39 rfl (by decide +kernel)
        refine lv_iconst (v := (-1)) hx hb dX7_turn_42 (by decide +kernel) ?_
        subst hR; subst hQz
        exact W.iret (v := (-1)) hx hb hr (fun t ht hW => ⟨⟨(-1), (), rfl, trivial, ⟨I, J, hI, by rw [ht]; exact hP⟩⟩, hS.F ht⟩) hS.2.2 dX7_turn_43

set_option maxHeartbeats 4000000 in
set_option maxRecDepth 100000 in
theorem s_X7_changes (l : Launch) (dC : Nat → ClassId) (dI : Nat → Nat → Nat) (cs : Nat → ClassId) (L : List Nat) (K G : Nat → Nat) (Q : Nat → Nat → Option Nat) (hQ : Sv L K G Q) (x0 m0 : Nat) (tx : Int32) (tm : Int32 × Int) (sz : Nat) (I : Nat → Nat → Int32) (J : Nat → Nat → Int64) (hI : Iv L K x0 m0 tx tm I) (p0 : Nat) (hLp0 : p0 ∈ L) (hKp0 : K p0 = 7) (p1 : Int32) (p2 : Int32) (bp2 : (0) ≤ p2.toInt ∧ p2.toInt ≤ 1) : Met l yX7_changes (.code yX7_changes cX7_changes 8 (some .int) :: pw) ({ frames := 3, cells := 0, slots := 0, locals := 71 }) (sP (dC, dI) cs [.ref p0, .int p1, .int p2] sz L K I J Q) (va_Qi (fun (r : Int32) (_ : Unit) => True) (fun _ t => sB (dC, dI) cs L K Q (Iv L K x0 m0 tx tm) t) (fun q => q ∈ L ∨ sz ≤ q)) 0 0 (fun q => q ∈ L ∨ sz ≤ q) := by
  refine Met.ofW (cc := cX7_changes) (maxL := 8) (ret := (some .int)) (by decide +kernel) rfl ?_
  intro p e s m args below meth c s₁ B hml hv
  obtain ⟨rfl, hsz, hP, hK, hD0, hN⟩ := hv
  have hx := B.exec
  have hb := B.bytes
  have hr := B.returns
  have hts := fun w (h : w ∈ pw) => atoms_spec (ws := Cond.code yX7_changes cX7_changes 8 (some .int) :: pw) B.pre w (List.mem_cons_of_mem _ h)
  have hown : s.vm.findClass RX7 = some m.cls := findClass_of_methodNamed B.named
  have hlocks := B.notSynchronized
  subst hsz
  have hBB : 999 ≤ tm.2 ∧ tm.2 ≤ 6000000 := hI.2.2.2.2
  obtain ⟨A, hAe⟩ : ∃ A : Nat → Prop, A = (fun q => q ∈ L ∨ s.heap.size ≤ q) := ⟨_, rfl⟩
  rw [← hAe]
  have hAL : ∀ q, q ∈ L → A q := fun q h => by rw [hAe]; exact Or.inl h
  have hA : ∀ q, s.heap.size ≤ q → A q := fun q h => by rw [hAe]; exact Or.inr h
  have hD : ∀ F, va_D A (va_pl L F) := fun F => (hD0 F).weaken (fun k q hk _ => hAL _ (pl_mem hk))
  obtain ⟨H, hHe⟩ : ∃ H : Heap, H = s.heap := ⟨_, rfl⟩
  have hS : va_S A s.heap H [] := by rw [hHe]; exact va_S.rf
  rw [← hHe] at hP
  have hl := lv_entry ([.ref p0, .int p1, .int p2]) (n := 8) (Nat.le_of_ble_eq_true rfl)
  rw [lg_entry_eq]
  generalize (lg_sl ([.ref p0, .int p1, .int p2]) ++ List.replicate (8 - (lg_sl ([.ref p0, .int p1, .int p2])).length) Slot.unset).toArray = ls at hl ⊢
  have hl : lv_has ls 8 [(0, .ref p0), (1, .int p1), (2, .int p2)] := hl
  rw [← hHe]
  refine namedW (fun R Qz hR hQz => ?_)
  refine lv_aload_n hx hb dX7_changes_0 rfl (lv_at hl 0 rfl) ?_
  refine lv_iload_n hx hb dX7_changes_1 rfl (lv_at hl 1 rfl) ?_
  refine ro_i (va_runV (As := [.int p1]) (rest := []) ⟨hx, hb, hml, hown, hts⟩ (s_X7_isMask l dC dI cs L K G Q hQ x0 m0 tx tm H.size I J hI p0 hLp0 hKp0 p1) (cwV 1 hts (gV pq1364 pq1366 pq31 pq81 pq1367) rfl rfl rfl (by decide +kernel) ⟨(by rw [hR]; exact (Nat.le_of_ble_eq_true rfl)), (by rw [hR]; exact (Nat.le_of_ble_eq_true rfl))⟩) (sP_V hP hD hK hN hLp0 hKp0 rfl rfl) rfl rfl hl.1 rfl (lv_room (Nat.le_of_ble_eq_true rfl)) dX7_changes_2 ⟨(by rw [hR]; exact (Nat.le_of_ble_eq_true rfl)), (by rw [hR]; exact (Nat.le_of_ble_eq_true rfl))⟩) hS hP (fun z2 H locs hz2 hP hS => ?_)
  obtain ⟨bz2, imz2⟩ := hz2
  refine lv_if_ne (tgt := 10) hx hb dX7_changes_5 (by decide) (fun c5 => ?_) (fun c5 => ?_)
  · have t5 := tq_ne (k := z2.toInt) (q := (0)) c5 rfl (by decide +kernel)
    have i5 := imz2 t5
    refine lv_aload_n hx hb dX7_changes_10 rfl (lv_at hl 0 rfl) ?_
    refine sw_v (Z := (fun I1 => Iv L K x0 m0 tx tm I1 ∧ I1 = I)) (va_runV (As := []) (rest := []) ⟨hx, hb, hml, hown, hts⟩ (s_X7_clearsMade l dC dI cs L K G Q hQ x0 m0 tx tm H.size I J hI p0 hLp0 hKp0) (cwV 0 hts (gV pq1391 pq1393 pq36 pq81 pq1394) rfl rfl rfl (by decide +kernel) ⟨(by rw [hR]; exact (Nat.le_of_ble_eq_true rfl)), (by rw [hR]; exact (Nat.le_of_ble_eq_true rfl))⟩) (sP_V hP hD hK hN hLp0 hKp0 rfl rfl) rfl rfl hl.1 rfl (lv_room (Nat.le_of_ble_eq_true rfl)) dX7_changes_11 ⟨(by rw [hR]; exact (Nat.le_of_ble_eq_true rfl)), (by rw [hR]; exact (Nat.le_of_ble_eq_true rfl))⟩) hS hAL hA (fun Iz11 Jz11 H locs hz11 hIz11 hP hS => ?_)
    obtain ⟨hIz11x, rfl⟩ : Iv L K x0 m0 tx tm Iz11 ∧ I = Iz11 := ⟨hIz11.1, hIz11.2.symm⟩
    refine lv_iconst (v := 0) hx hb dX7_changes_14 (by decide +kernel) ?_
    refine lv_istore_n (lv' := [(3, .int 0), (0, .ref p0), (1, .int p1), (2, .int p2)]) hx hb dX7_changes_15 rfl hl (by decide) rfl (fun ls hl => ?_)
    refine lv_iconst (v := 0) hx hb dX7_changes_16 (by decide +kernel) ?_
    refine lv_istore (lv' := [(4, .int 0), (3, .int 0), (0, .ref p0), (1, .int p1), (2, .int p2)]) hx hb dX7_changes_17 hl (by decide) rfl (fun ls hl => ?_)
    have key19 := blocks (fun n => ∀ (v19_3 : Int32) (v19_4 : Int32) (J19 : Nat → Nat → Int64) (H : Heap) (lo : List Loc) (ls : Array Slot), (41 - v19_4.toInt).toNat = n → ((0) ≤ v19_4.toInt ∧ v19_4.toInt ≤ 40) → va_P (dC, dI) vwCl (Wd cs L K I J19 Q) H → va_S A s.heap H lo → lv_has ls 8 [(0, .ref p0), (1, .int p1), (2, .int p2), (3, .int v19_3), (4, .int v19_4)] → W p l e R s m (([.ref p0, .int p1, .int p2] : List Value).toArray) below meth c H lo 0 0 Qz (F0 m 19 ls [])) (by
      intro n ih19
      intro v19_3 v19_4 J19 H lo ls hmu19 bv19_4 hP hS hl
      refine lv_iload hx hb dX7_changes_19 (lv_at hl 4 rfl) ?_
      refine lv_aload_n hx hb dX7_changes_21 rfl (lv_at hl 0 rfl) ?_
      refine lv_iload_n hx hb dX7_changes_22 rfl (lv_at hl 1 rfl) ?_
      refine ro_i (va_runV (As := [.int p1]) (rest := [.int v19_4]) ⟨hx, hb, hml, hown, hts⟩ (s_X7_high l dC dI cs L K G Q hQ x0 m0 tx tm H.size I J19 hI p0 hLp0 hKp0 p1 ⟨by omega, by omega⟩) (cwV 1 hts (gV pq1372 pq1374 pq33 pq81 pq1375) rfl rfl rfl (by decide +kernel) ⟨(by rw [hR]; exact (Nat.le_of_ble_eq_true rfl)), (by rw [hR]; exact (Nat.le_of_ble_eq_true rfl))⟩) (sP_V hP hD hK hN hLp0 hKp0 rfl rfl) rfl rfl hl.1 rfl (lv_room (Nat.le_of_ble_eq_true rfl)) dX7_changes_23 ⟨(by rw [hR]; exact (Nat.le_of_ble_eq_true rfl)), (by rw [hR]; exact (Nat.le_of_ble_eq_true rfl))⟩) hS hP (fun z23 H locs hz23 hP hS => ?_)
      obtain ⟨bz23, fez23⟩ := hz23
      refine lv_icmp_ge (tgt := 154) hx hb dX7_changes_26 (by decide) (fun c26 => ?_) (fun c26 => ?_)
      · have t26 := tq_le (k := z23.toInt) (q := v19_4.toInt) c26 rfl rfl
        refine lv_iload_n hx hb dX7_changes_154 rfl (lv_at hl 3 rfl) ?_
        refine lv_if_ne (tgt := 161) hx hb dX7_changes_155 (by decide) (fun c155 => ?_) (fun c155 => ?_)
        · have t155 := tq_ne (k := v19_3.toInt) (q := (0)) c155 rfl (by decide +kernel)
          refine lv_aload_n hx hb dX7_changes_161 rfl (lv_at hl 0 rfl) ?_
          refine sw_v (Z := (fun I1 => Iv L K x0 m0 tx tm I1 ∧ (∀ b, ¬ (K b = 7 ∨ K b = 19 ∨ K b = 30) → I1 b = I b))) (va_runV (As := []) (rest := []) ⟨hx, hb, hml, hown, hts⟩ (s_X7_keepsPast l dC dI cs L K G Q hQ x0 m0 tx tm H.size I J19 hI p0 hLp0 hKp0) (cwV 0 hts (gV pq1324 pq1326 pq26 pq81 pq1327) rfl rfl rfl (by decide +kernel) ⟨(by rw [hR]; exact (Nat.le_of_ble_eq_true rfl)), (by rw [hR]; exact (Nat.le_of_ble_eq_true rfl))⟩) (sP_V hP hD hK hN hLp0 hKp0 rfl rfl) rfl rfl hl.1 rfl (lv_room (Nat.le_of_ble_eq_true rfl)) dX7_changes_162 ⟨(by rw [hR]; exact (Nat.le_of_ble_eq_true rfl)), (by rw [hR]; exact (Nat.le_of_ble_eq_true rfl))⟩) hS hAL hA (fun Iz162 Jz162 H locs hz162 hIz162 hP hS => ?_)
          obtain ⟨hIz162, frc162⟩ := hIz162
          refine lv_aload_n hx hb dX7_changes_165 rfl (lv_at hl 0 rfl) ?_
          refine lv_iload_n hx hb dX7_changes_166 rfl (lv_at hl 1 rfl) ?_
          refine sw_v (Z := (fun I1 => Iv L K x0 m0 tx tm I1 ∧ I1 = Iz162)) (va_runV (As := [.int p1]) (rest := []) ⟨hx, hb, hml, hown, hts⟩ (s_X7_takesMade l dC dI cs L K G Q hQ x0 m0 tx tm H.size Iz162 Jz162 hIz162 p0 hLp0 hKp0 p1 ⟨by omega, by omega⟩) (cwV 1 hts (gV pq1399 pq1401 pq38 pq81 pq1402) rfl rfl rfl (by decide +kernel) ⟨(by rw [hR]; exact (Nat.le_of_ble_eq_true rfl)), (by rw [hR]; exact (Nat.le_of_ble_eq_true rfl))⟩) (sP_V hP hD hK hN hLp0 hKp0 rfl rfl) rfl rfl hl.1 rfl (lv_room (Nat.le_of_ble_eq_true rfl)) dX7_changes_167 ⟨(by rw [hR]; exact (Nat.le_of_ble_eq_true rfl)), (by rw [hR]; exact (Nat.le_of_ble_eq_true rfl))⟩) hS hAL hA (fun Iz167 Jz167 H locs hz167 hIz167 hP hS => ?_)
          obtain ⟨hIz167x, rfl⟩ : Iv L K x0 m0 tx tm Iz167 ∧ Iz162 = Iz167 := ⟨hIz167.1, hIz167.2.symm⟩
          refine lv_iload_n hx hb dX7_changes_170 rfl (lv_at hl 3 rfl) ?_
          subst hR; subst hQz
          exact W.iret (v := v19_3) hx hb hr (fun t ht hW => ⟨⟨v19_3, (), rfl, trivial, ⟨Iz162, Jz167, hIz162, by rw [ht]; exact hP⟩⟩, hS.F ht⟩) hS.2.2 dX7_changes_171
        · have t155 := tq_eq (k := v19_3.toInt) (q := (0)) c155 rfl (by decide +kernel)
          refine lv_bipush (v := (-2)) hx hb dX7_changes_158 (by decide +kernel) ?_
          subst hR; subst hQz
          exact W.iret (v := (-2)) hx hb hr (fun t ht hW => ⟨⟨(-2), (), rfl, trivial, ⟨I, J19, hI, by rw [ht]; exact hP⟩⟩, hS.F ht⟩) hS.2.2 dX7_changes_160
      · have t26 := tq_nle (k := z23.toInt) (q := v19_4.toInt) c26 rfl rfl
        refine lv_iconst (v := 0) hx hb dX7_changes_29 (by decide +kernel) ?_
        refine lv_istore (lv' := [(5, .int 0), (0, .ref p0), (1, .int p1), (2, .int p2), (3, .int v19_3), (4, .int v19_4)]) hx hb dX7_changes_30 hl (by decide) rfl (fun ls hl => ?_)
        have key32 := blocks (fun n => ∀ (v32_3 : Int32) (v32_5 : Int32) (J32 : Nat → Nat → Int64) (H : Heap) (lo : List Loc) (ls : Array Slot), (101 - v32_5.toInt).toNat = n → ((0) ≤ v32_5.toInt ∧ v32_5.toInt ≤ 100) → va_P (dC, dI) vwCl (Wd cs L K I J32 Q) H → va_S A s.heap H lo → lv_has ls 8 [(0, .ref p0), (1, .int p1), (2, .int p2), (3, .int v32_3), (4, .int v19_4), (5, .int v32_5)] → W p l e R s m (([.ref p0, .int p1, .int p2] : List Value).toArray) below meth c H lo 0 0 Qz (F0 m 32 ls [])) (by
          intro n ih32
          intro v32_3 v32_5 J32 H lo ls hmu32 bv32_5 hP hS hl
          refine lv_iload hx hb dX7_changes_32 (lv_at hl 5 rfl) ?_
          refine lv_aload_n hx hb dX7_changes_34 rfl (lv_at hl 0 rfl) ?_
          refine lv_iload_n hx hb dX7_changes_35 rfl (lv_at hl 1 rfl) ?_
          refine ro_i (va_runV (As := [.int p1]) (rest := [.int v32_5]) ⟨hx, hb, hml, hown, hts⟩ (s_X7_wide l dC dI cs L K G Q hQ x0 m0 tx tm H.size I J32 hI p0 hLp0 hKp0 p1 ⟨by omega, by omega⟩) (cwV 1 hts (gV pq1368 pq1370 pq32 pq81 pq1371) rfl rfl rfl (by decide +kernel) ⟨(by rw [hR]; exact (Nat.le_of_ble_eq_true rfl)), (by rw [hR]; exact (Nat.le_of_ble_eq_true rfl))⟩) (sP_V hP hD hK hN hLp0 hKp0 rfl rfl) rfl rfl hl.1 rfl (lv_room (Nat.le_of_ble_eq_true rfl)) dX7_changes_36 ⟨(by rw [hR]; exact (Nat.le_of_ble_eq_true rfl)), (by rw [hR]; exact (Nat.le_of_ble_eq_true rfl))⟩) hS hP (fun z36 H locs hz36 hP hS => ?_)
          obtain ⟨bz36, fez36⟩ := hz36
          refine lv_icmp_ge (tgt := 148) hx hb dX7_changes_39 (by decide) (fun c39 => ?_) (fun c39 => ?_)
          · have t39 := tq_le (k := z36.toInt) (q := v32_5.toInt) c39 rfl rfl
            obtain ⟨z148, ez148⟩ : ∃ y : Int32, y = v19_4 + 1 := ⟨_, rfl⟩
            refine lv_iinc (v := z148) (lv' := [(4, .int z148), (0, .ref p0), (1, .int p1), (2, .int p2), (3, .int v32_3), (5, .int v32_5)]) hx hb dX7_changes_148 hl (k := 4) rfl (by rw [ez148]; rfl) (by decide) rfl (fun ls hl => ?_)
            have bz148 := tq_add (k := v19_4.toInt) (q := 1) ez148 rfl (by decide +kernel) (by omega) (by omega)
            refine lv_goto (tgt := 19) hx hb dX7_changes_151 (by decide) ?_
            exact ih19 _ (by omega) v32_3 z148 J32 _ _ _ rfl ⟨by omega, by omega⟩ hP hS (lv_sub hl [1, 2, 3, 4, 0] rfl)
          · have t39 := tq_nle (k := z36.toInt) (q := v32_5.toInt) c39 rfl rfl
            refine lv_aload_n hx hb dX7_changes_42 rfl (lv_at hl 0 rfl) ?_
            refine lv_iload_n hx hb dX7_changes_43 rfl (lv_at hl 1 rfl) ?_
            refine lv_iload hx hb dX7_changes_44 (lv_at hl 5 rfl) ?_
            refine lv_iload hx hb dX7_changes_46 (lv_at hl 4 rfl) ?_
            refine ro_i (va_runV (As := [.int p1, .int v32_5, .int v19_4]) (rest := []) ⟨hx, hb, hml, hown, hts⟩ (s_X7_has l dC dI cs L K G Q hQ x0 m0 tx tm H.size I J32 hI p0 hLp0 hKp0 p1 ⟨by omega, by omega⟩ v32_5 v19_4) (cwV 3 hts (gV pq1376 pq1378 pq34 pq81 pq1379) rfl rfl rfl (by decide +kernel) ⟨(by rw [hR]; exact (Nat.le_of_ble_eq_true rfl)), (by rw [hR]; exact (Nat.le_of_ble_eq_true rfl))⟩) (sP_V hP hD hK hN hLp0 hKp0 rfl rfl) rfl rfl hl.1 rfl (lv_room (Nat.le_of_ble_eq_true rfl)) dX7_changes_48 ⟨(by rw [hR]; exact (Nat.le_of_ble_eq_true rfl)), (by rw [hR]; exact (Nat.le_of_ble_eq_true rfl))⟩) hS hP (fun z48 H locs hz48 hP hS => ?_)
            obtain ⟨bz48, imz48⟩ := hz48
            refine lv_istore (lv' := [(6, .int z48), (0, .ref p0), (1, .int p1), (2, .int p2), (3, .int v32_3), (4, .int v19_4), (5, .int v32_5)]) hx hb dX7_changes_51 hl (by decide) rfl (fun ls hl => ?_)
            refine lv_iload_n hx hb dX7_changes_53 rfl (lv_at hl 3 rfl) ?_
            have j105 : ∀ (w105_0 : Int32) (H : Heap) (lo : List Loc) (ls : Array Slot), ((0) ≤ w105_0.toInt ∧ w105_0.toInt ≤ 1) → va_P (dC, dI) vwCl (Wd cs L K I J32 Q) H → va_S A s.heap H lo → lv_has ls 8 [(0, .ref p0), (1, .int p1), (2, .int p2), (3, .int v32_3), (4, .int v19_4), (5, .int v32_5), (6, .int z48)] → W p l e R s m (([.ref p0, .int p1, .int p2] : List Value).toArray) below meth c H lo 0 0 Qz (F0 m 105 ls [.int w105_0]) := by
              intro w105_0 H lo ls bw105_0 hP hS hl
              refine lv_istore (lv' := [(7, .int w105_0), (0, .ref p0), (1, .int p1), (2, .int p2), (3, .int v32_3), (4, .int v19_4), (5, .int v32_5), (6, .int z48)]) hx hb dX7_changes_105 hl (by decide) rfl (fun ls hl => ?_)
              refine lv_iload_n hx hb dX7_changes_107 rfl (lv_at hl 4 rfl) ?_
              refine lv_iload hx hb dX7_changes_108 (lv_at hl 0 rfl) ?_
              refine lv_iload hx hb dX7_changes_110 (lv_at hl 7 rfl) ?_
              have j120 : ∀ (w120_1 : Int32) (H : Heap) (lo : List Loc) (ls : Array Slot), ((0) ≤ w120_1.toInt ∧ w120_1.toInt ≤ 1) → va_P (dC, dI) vwCl (Wd cs L K I J32 Q) H → va_S A s.heap H lo → lv_has ls 8 [(0, .ref p0), (1, .int p1), (2, .int p2), (3, .int v32_3), (4, .int v19_4), (5, .int v32_5), (6, .int z48), (7, .int w105_0)] → W p l e R s m (([.ref p0, .int p1, .int p2] : List Value).toArray) below meth c H lo 0 0 Qz (F0 m 120 ls [.int w120_1, .int v32_3]) := by
                intro w120_1 H lo ls bw120_1 hP hS hl
                refine ro_i (va_runS (As := [.int w120_1]) (rest := [.int v32_3]) ⟨hx, hb, hml, hown, hts⟩ (s_X7_truth l dC dI cs L K Q H.size I J32 w120_1) (va_cwS 1 hts (gS pq1257 pq1258 pq81 pq1259) rfl rfl rfl (by decide +kernel) ⟨(by rw [hR]; exact (Nat.le_of_ble_eq_true rfl)), (by rw [hR]; exact (Nat.le_of_ble_eq_true rfl))⟩) (sP_S hP hD hK hN) rfl rfl hl.1 rfl (lv_room (Nat.le_of_ble_eq_true rfl)) dX7_changes_120 ⟨(by rw [hR]; exact (Nat.le_of_ble_eq_true rfl)), (by rw [hR]; exact (Nat.le_of_ble_eq_true rfl))⟩) hS hP (fun z120 H locs hz120 hP hS => ?_)
                obtain ⟨bz120, xpz120⟩ := hz120
                refine lv_iadd hx hb dX7_changes_123 ?_
                refine lv_topi (fun z123 ez123 => ?_)
                refine lv_istore_n (lv' := [(3, .int z123), (0, .ref p0), (1, .int p1), (2, .int p2), (4, .int v19_4), (5, .int v32_5), (6, .int z48), (7, .int w105_0)]) hx hb dX7_changes_124 rfl hl (by decide) rfl (fun ls hl => ?_)
                refine lv_iload hx hb dX7_changes_125 (lv_at hl 7 rfl) ?_
                have j142 : ∀ (J142 : Nat → Nat → Int64) (H : Heap) (lo : List Loc) (ls : Array Slot), va_P (dC, dI) vwCl (Wd cs L K I J142 Q) H → va_S A s.heap H lo → lv_has ls 8 [(0, .ref p0), (1, .int p1), (2, .int p2), (3, .int z123), (4, .int v19_4), (5, .int v32_5), (6, .int z48), (7, .int w105_0)] → W p l e R s m (([.ref p0, .int p1, .int p2] : List Value).toArray) below meth c H lo 0 0 Qz (F0 m 142 ls []) := by
                  intro J142 H lo ls hP hS hl
                  obtain ⟨z142, ez142⟩ : ∃ y : Int32, y = v32_5 + 1 := ⟨_, rfl⟩
                  refine lv_iinc (v := z142) (lv' := [(5, .int z142), (0, .ref p0), (1, .int p1), (2, .int p2), (3, .int z123), (4, .int v19_4), (6, .int z48), (7, .int w105_0)]) hx hb dX7_changes_142 hl (k := 5) rfl (by rw [ez142]; rfl) (by decide) rfl (fun ls hl => ?_)
                  have bz142 := tq_add (k := v32_5.toInt) (q := 1) ez142 rfl (by decide +kernel) (by omega) (by omega)
                  refine lv_goto (tgt := 32) hx hb dX7_changes_145 (by decide) ?_
                  exact ih32 _ (by omega) z123 z142 J142 _ _ _ rfl ⟨by omega, by omega⟩ hP hS (lv_sub hl [1, 2, 3, 4, 5, 0] rfl)
                refine lv_if_eq (tgt := 142) hx hb dX7_changes_127 (by decide) (fun c127 => ?_) (fun c127 => ?_)
                · have t127 := tq_eq (k := w105_0.toInt) (q := (0)) c127 rfl (by decide +kernel)
                  exact j142 J32 _ _ _ hP hS (lv_sub hl [1, 2, 3, 0, 4, 5, 6, 7] rfl)
                · have t127 := tq_ne (k := w105_0.toInt) (q := (0)) c127 rfl (by decide +kernel)
                  refine lv_aload_n hx hb dX7_changes_130 rfl (lv_at hl 1 rfl) ?_
                  obtain ⟨y131, ey131, hLy131, hKy131⟩ := oQ_7_19 (Sv_at hQ hLp0 hKp0)
                  refine p_get (v := .ref y131) hx hb hts inX7 hown hK hP hLp0 hKp0 rfl rfl 19 (by decide) (hts _ pq1134) (congrArg (fun q => some (va_rf q)) ey131) dX7_changes_131 ?_
                  refine lv_iconst (v := 0) hx hb dX7_changes_134 (by decide +kernel) ?_
                  refine lv_iload hx hb dX7_changes_135 (lv_at hl 5 rfl) ?_
                  refine lv_iload hx hb dX7_changes_137 (lv_at hl 4 rfl) ?_
                  refine sw_v (Z := (fun I1 => Iv L K x0 m0 tx tm I1 ∧ I1 = I)) (va_runS (As := [.ref y131, .int 0, .int v32_5, .int v19_4]) (rest := []) ⟨hx, hb, hml, hown, hts⟩ (s_X7_setsDotM l dC dI cs L K G Q hQ x0 m0 tx tm H.size I J32 hI y131 hLy131 hKy131 0 ⟨by decide +kernel, by decide +kernel⟩ v32_5 ⟨by omega, by omega⟩ v19_4 ⟨by omega, by omega⟩) (va_cwS 4 hts (gS pq1254 pq1255 pq81 pq1256) rfl rfl rfl (by decide +kernel) ⟨(by rw [hR]; exact (Nat.le_of_ble_eq_true rfl)), (by rw [hR]; exact (Nat.le_of_ble_eq_true rfl))⟩) (sP_S hP hD hK hN) rfl rfl hl.1 rfl (lv_room (Nat.le_of_ble_eq_true rfl)) dX7_changes_139 ⟨(by rw [hR]; exact (Nat.le_of_ble_eq_true rfl)), (by rw [hR]; exact (Nat.le_of_ble_eq_true rfl))⟩) hS hAL hA (fun Iz139 Jz139 H locs hz139 hIz139 hP hS => ?_)
                  obtain ⟨hIz139x, rfl⟩ : Iv L K x0 m0 tx tm Iz139 ∧ I = Iz139 := ⟨hIz139.1, hIz139.2.symm⟩
                  exact j142 Jz139 _ _ _ hP hS (lv_sub hl [1, 2, 3, 0, 4, 5, 6, 7] rfl)
              refine lv_icmp_eq (tgt := 119) hx hb dX7_changes_112 (by decide) (fun c112 => ?_) (fun c112 => ?_)
              · have t112 := tq_eq (k := w105_0.toInt) (q := z48.toInt) c112 rfl rfl
                refine lv_iconst (v := 0) hx hb dX7_changes_119 (by decide +kernel) ?_
                exact j120 0 _ _ _ ⟨by decide +kernel, by decide +kernel⟩ hP hS (lv_sub hl [1, 2, 3, 4, 5, 6, 7, 0] rfl)
              · have t112 := tq_ne (k := w105_0.toInt) (q := z48.toInt) c112 rfl rfl
                refine lv_iconst (v := 1) hx hb dX7_changes_115 (by decide +kernel) ?_
                refine lv_goto (tgt := 120) hx hb dX7_changes_116 (by decide) ?_
                exact j120 1 _ _ _ ⟨by decide +kernel, by decide +kernel⟩ hP hS (lv_sub hl [1, 2, 3, 4, 5, 6, 7, 0] rfl)
            refine lv_if_eq (tgt := 82) hx hb dX7_changes_54 (by decide) (fun c54 => ?_) (fun c54 => ?_)
            · have t54 := tq_eq (k := p2.toInt) (q := (0)) c54 rfl (by decide +kernel)
              refine lv_iload hx hb dX7_changes_82 (lv_at hl 0 rfl) ?_
              have j104 : ∀ (H : Heap) (lo : List Loc) (ls : Array Slot), va_P (dC, dI) vwCl (Wd cs L K I J32 Q) H → va_S A s.heap H lo → lv_has ls 8 [(0, .ref p0), (1, .int p1), (2, .int p2), (3, .int v32_3), (4, .int v19_4), (5, .int v32_5), (6, .int z48)] → W p l e R s m (([.ref p0, .int p1, .int p2] : List Value).toArray) below meth c H lo 0 0 Qz (F0 m 104 ls []) := by
                intro H lo ls hP hS hl
                refine lv_iconst (v := 0) hx hb dX7_changes_104 (by decide +kernel) ?_
                exact j105 0 _ _ _ ⟨by decide +kernel, by decide +kernel⟩ hP hS (lv_sub hl [0, 1, 2, 3, 4, 5, 6] rfl)
              refine lv_if_eq (tgt := 104) hx hb dX7_changes_84 (by decide) (fun c84 => ?_) (fun c84 => ?_)
              · have t84 := tq_eq (k := z48.toInt) (q := (0)) c84 rfl (by decide +kernel)
                exact j104  _ _ _ hP hS (lv_sub hl [1, 2, 3, 4, 5, 6, 0] rfl)
              · have t84 := tq_ne (k := z48.toInt) (q := (0)) c84 rfl (by decide +kernel)
                have i84 := imz48 t84
                refine lv_aload_n hx hb dX7_changes_87 rfl (lv_at hl 1 rfl) ?_
                refine lv_iload_n hx hb dX7_changes_88 rfl (lv_at hl 2 rfl) ?_
                refine lv_iload hx hb dX7_changes_89 (lv_at hl 6 rfl) ?_
                refine lv_iload hx hb dX7_changes_91 (lv_at hl 5 rfl) ?_
                refine ro_i (va_runV (As := [.int p1, .int v32_5, .int v19_4]) (rest := []) ⟨hx, hb, hml, hown, hts⟩ (s_X7_around l dC dI cs L K G Q hQ x0 m0 tx tm H.size I J32 hI p0 hLp0 hKp0 p1 ⟨by omega, by omega⟩ v32_5 v19_4) (cwV 3 hts (gV pq1395 pq1397 pq37 pq81 pq1398) rfl rfl rfl (by decide +kernel) ⟨(by rw [hR]; exact (Nat.le_of_ble_eq_true rfl)), (by rw [hR]; exact (Nat.le_of_ble_eq_true rfl))⟩) (sP_V hP hD hK hN hLp0 hKp0 rfl rfl) rfl rfl hl.1 rfl (lv_room (Nat.le_of_ble_eq_true rfl)) dX7_changes_93 ⟨(by rw [hR]; exact (Nat.le_of_ble_eq_true rfl)), (by rw [hR]; exact (Nat.le_of_ble_eq_true rfl))⟩) hS hP (fun z93 H locs hz93 hP hS => ?_)
                have bz93 := hz93
                refine lv_iconst (v := 4) hx hb dX7_changes_96 (by decide +kernel) ?_
                refine lv_icmp_ne (tgt := 104) hx hb dX7_changes_97 (by decide) (fun c97 => ?_) (fun c97 => ?_)
                · have t97 := tq_ne (k := z93.toInt) (q := (4)) c97 rfl (by decide +kernel)
                  exact j104  _ _ _ hP hS (lv_sub hl [1, 2, 3, 4, 5, 6, 0] rfl)
                · have t97 := tq_eq (k := z93.toInt) (q := (4)) c97 rfl (by decide +kernel)
                  refine lv_iconst (v := 1) hx hb dX7_changes_100 (by decide +kernel) ?_
                  refine lv_goto (tgt := 105) hx hb dX7_changes_101 (by decide) ?_
                  exact j105 1 _ _ _ ⟨by decide +kernel, by decide +kernel⟩ hP hS (lv_sub hl [1, 2, 3, 4, 5, 6, 0] rfl)
            · have t54 := tq_ne (k := p2.toInt) (q := (0)) c54 rfl (by decide +kernel)
              refine lv_iload hx hb dX7_changes_57 (lv_at hl 0 rfl) ?_
              have j74 : ∀ (H : Heap) (lo : List Loc) (ls : Array Slot), va_P (dC, dI) vwCl (Wd cs L K I J32 Q) H → va_S A s.heap H lo → lv_has ls 8 [(0, .ref p0), (1, .int p1), (2, .int p2), (3, .int v32_3), (4, .int v19_4), (5, .int v32_5), (6, .int z48)] → W p l e R s m (([.ref p0, .int p1, .int p2] : List Value).toArray) below meth c H lo 0 0 Qz (F0 m 74 ls []) := by
                intro H lo ls hP hS hl
                refine lv_iconst (v := 1) hx hb dX7_changes_74 (by decide +kernel) ?_
                refine lv_goto (tgt := 105) hx hb dX7_changes_75 (by decide) ?_
                exact j105 1 _ _ _ ⟨by decide +kernel, by decide +kernel⟩ hP hS (lv_sub hl [0, 1, 2, 3, 4, 5, 6] rfl)
              refine lv_if_ne (tgt := 74) hx hb dX7_changes_59 (by decide) (fun c59 => ?_) (fun c59 => ?_)
              · have t59 := tq_ne (k := z48.toInt) (q := (0)) c59 rfl (by decide +kernel)
                have i59 := imz48 t59
                exact j74  _ _ _ hP hS (lv_sub hl [1, 2, 3, 4, 5, 6, 0] rfl)
              · have t59 := tq_eq (k := z48.toInt) (q := (0)) c59 rfl (by decide +kernel)
                refine lv_aload_n hx hb dX7_changes_62 rfl (lv_at hl 1 rfl) ?_
                refine lv_iload_n hx hb dX7_changes_63 rfl (lv_at hl 2 rfl) ?_
                refine lv_iload hx hb dX7_changes_64 (lv_at hl 6 rfl) ?_
                refine lv_iload hx hb dX7_changes_66 (lv_at hl 5 rfl) ?_
                refine ro_i (va_runV (As := [.int p1, .int v32_5, .int v19_4]) (rest := []) ⟨hx, hb, hml, hown, hts⟩ (s_X7_around l dC dI cs L K G Q hQ x0 m0 tx tm H.size I J32 hI p0 hLp0 hKp0 p1 ⟨by omega, by omega⟩ v32_5 v19_4) (cwV 3 hts (gV pq1395 pq1397 pq37 pq81 pq1398) rfl rfl rfl (by decide +kernel) ⟨(by rw [hR]; exact (Nat.le_of_ble_eq_true rfl)), (by rw [hR]; exact (Nat.le_of_ble_eq_true rfl))⟩) (sP_V hP hD hK hN hLp0 hKp0 rfl rfl) rfl rfl hl.1 rfl (lv_room (Nat.le_of_ble_eq_true rfl)) dX7_changes_68 ⟨(by rw [hR]; exact (Nat.le_of_ble_eq_true rfl)), (by rw [hR]; exact (Nat.le_of_ble_eq_true rfl))⟩) hS hP (fun z68 H locs hz68 hP hS => ?_)
                have bz68 := hz68
                refine lv_if_le (tgt := 78) hx hb dX7_changes_71 (by decide) (fun c71 => ?_) (fun c71 => ?_)
                · have t71 := tq_le (k := z68.toInt) (q := (0)) c71 rfl (by decide +kernel)
                  refine lv_iconst (v := 0) hx hb dX7_changes_78 (by decide +kernel) ?_
                  refine lv_goto (tgt := 105) hx hb dX7_changes_79 (by decide) ?_
                  exact j105 0 _ _ _ ⟨by decide +kernel, by decide +kernel⟩ hP hS (lv_sub hl [1, 2, 3, 4, 5, 6, 0] rfl)
                · have t71 := tq_nle (k := z68.toInt) (q := (0)) c71 rfl (by decide +kernel)
                  exact j74  _ _ _ hP hS (lv_sub hl [1, 2, 3, 4, 5, 6, 0] rfl))
        exact key32 _ v19_3 0 J19 _ _ _ rfl ⟨by decide +kernel, by decide +kernel⟩ hP hS (lv_sub hl [1, 2, 3, 4, 5, 0] rfl))
    exact key19 _ 0 0 Jz11 _ _ _ rfl ⟨by decide +kernel, by decide +kernel⟩ hP hS (lv_sub hl [2, 3, 4, 1, 0] rfl)
  · have t5 := tq_eq (k := z2.toInt) (q := (0)) c5 rfl (by decide +kernel)
    refine lv_iconst (v := (-1)) hx hb dX7_changes_8 (by decide +kernel) ?_
    subst hR; subst hQz
    exact W.iret (v := (-1)) hx hb hr (fun t ht hW => ⟨⟨(-1), (), rfl, trivial, ⟨I, J, hI, by rw [ht]; exact hP⟩⟩, hS.F ht⟩) hS.2.2 dX7_changes_9

set_option maxHeartbeats 4000000 in
set_option maxRecDepth 100000 in
theorem s_X7_grow (l : Launch) (dC : Nat → ClassId) (dI : Nat → Nat → Nat) (cs : Nat → ClassId) (L : List Nat) (K G : Nat → Nat) (Q : Nat → Nat → Option Nat) (hQ : Sv L K G Q) (x0 m0 : Nat) (tx : Int32) (tm : Int32 × Int) (sz : Nat) (I : Nat → Nat → Int32) (J : Nat → Nat → Int64) (hI : Iv L K x0 m0 tx tm I) (p0 : Nat) (hLp0 : p0 ∈ L) (hKp0 : K p0 = 7) (p1 : Int32) : Met l yX7_grow (.code yX7_grow cX7_grow 2 (some .int) :: pw) ({ frames := 4, cells := 0, slots := 0, locals := 98 }) (sP (dC, dI) cs [.ref p0, .int p1] sz L K I J Q) (va_Qi (fun (r : Int32) (_ : Unit) => True) (fun _ t => sB (dC, dI) cs L K Q (Iv L K x0 m0 tx tm) t) (fun q => q ∈ L ∨ sz ≤ q)) 0 0 (fun q => q ∈ L ∨ sz ≤ q) := by
  refine Met.ofW (cc := cX7_grow) (maxL := 2) (ret := (some .int)) (by decide +kernel) rfl ?_
  intro p e s m args below meth c s₁ B hml hv
  obtain ⟨rfl, hsz, hP, hK, hD0, hN⟩ := hv
  have hx := B.exec
  have hb := B.bytes
  have hr := B.returns
  have hts := fun w (h : w ∈ pw) => atoms_spec (ws := Cond.code yX7_grow cX7_grow 2 (some .int) :: pw) B.pre w (List.mem_cons_of_mem _ h)
  have hown : s.vm.findClass RX7 = some m.cls := findClass_of_methodNamed B.named
  have hlocks := B.notSynchronized
  subst hsz
  have hBB : 999 ≤ tm.2 ∧ tm.2 ≤ 6000000 := hI.2.2.2.2
  obtain ⟨A, hAe⟩ : ∃ A : Nat → Prop, A = (fun q => q ∈ L ∨ s.heap.size ≤ q) := ⟨_, rfl⟩
  rw [← hAe]
  have hAL : ∀ q, q ∈ L → A q := fun q h => by rw [hAe]; exact Or.inl h
  have hA : ∀ q, s.heap.size ≤ q → A q := fun q h => by rw [hAe]; exact Or.inr h
  have hD : ∀ F, va_D A (va_pl L F) := fun F => (hD0 F).weaken (fun k q hk _ => hAL _ (pl_mem hk))
  obtain ⟨H, hHe⟩ : ∃ H : Heap, H = s.heap := ⟨_, rfl⟩
  have hS : va_S A s.heap H [] := by rw [hHe]; exact va_S.rf
  rw [← hHe] at hP
  have hl := lv_entry ([.ref p0, .int p1]) (n := 2) (Nat.le_of_ble_eq_true rfl)
  rw [lg_entry_eq]
  generalize (lg_sl ([.ref p0, .int p1]) ++ List.replicate (2 - (lg_sl ([.ref p0, .int p1])).length) Slot.unset).toArray = ls at hl ⊢
  have hl : lv_has ls 2 [(0, .ref p0), (1, .int p1)] := hl
  rw [← hHe]
  refine namedW (fun R Qz hR hQz => ?_)
  refine lv_aload_n hx hb dX7_grow_0 rfl (lv_at hl 0 rfl) ?_
  refine lv_iload_n hx hb dX7_grow_1 rfl (lv_at hl 1 rfl) ?_
  refine lv_iconst (v := 1) hx hb dX7_grow_2 (by decide +kernel) ?_
  refine sw_i (Z := (Iv L K x0 m0 tx tm)) (va_runV (As := [.int p1, .int 1]) (rest := []) ⟨hx, hb, hml, hown, hts⟩ (s_X7_changes l dC dI cs L K G Q hQ x0 m0 tx tm H.size I J hI p0 hLp0 hKp0 p1 1 ⟨by decide +kernel, by decide +kernel⟩) (cwV 2 hts (gV pq1387 pq1389 pq35 pq81 pq1390) rfl rfl rfl (by decide +kernel) ⟨(by rw [hR]; exact (Nat.le_of_ble_eq_true rfl)), (by rw [hR]; exact (Nat.le_of_ble_eq_true rfl))⟩) (sP_V hP hD hK hN hLp0 hKp0 rfl rfl) rfl rfl hl.1 rfl (lv_room (Nat.le_of_ble_eq_true rfl)) dX7_grow_3 ⟨(by rw [hR]; exact (Nat.le_of_ble_eq_true rfl)), (by rw [hR]; exact (Nat.le_of_ble_eq_true rfl))⟩) hS hAL hA (fun z3 Iz3 Jz3 H locs hz3 hIz3 hP hS => ?_)
  subst hR; subst hQz
  exact W.iret (v := z3) hx hb hr (fun t ht hW => ⟨⟨z3, (), rfl, trivial, ⟨Iz3, Jz3, hIz3, by rw [ht]; exact hP⟩⟩, hS.F ht⟩) hS.2.2 dX7_grow_6

set_option maxHeartbeats 4000000 in
set_option maxRecDepth 100000 in
theorem s_X7_thin (l : Launch) (dC : Nat → ClassId) (dI : Nat → Nat → Nat) (cs : Nat → ClassId) (L : List Nat) (K G : Nat → Nat) (Q : Nat → Nat → Option Nat) (hQ : Sv L K G Q) (x0 m0 : Nat) (tx : Int32) (tm : Int32 × Int) (sz : Nat) (I : Nat → Nat → Int32) (J : Nat → Nat → Int64) (hI : Iv L K x0 m0 tx tm I) (p0 : Nat) (hLp0 : p0 ∈ L) (hKp0 : K p0 = 7) (p1 : Int32) : Met l yX7_thin (.code yX7_thin cX7_thin 2 (some .int) :: pw) ({ frames := 4, cells := 0, slots := 0, locals := 98 }) (sP (dC, dI) cs [.ref p0, .int p1] sz L K I J Q) (va_Qi (fun (r : Int32) (_ : Unit) => True) (fun _ t => sB (dC, dI) cs L K Q (Iv L K x0 m0 tx tm) t) (fun q => q ∈ L ∨ sz ≤ q)) 0 0 (fun q => q ∈ L ∨ sz ≤ q) := by
  refine Met.ofW (cc := cX7_thin) (maxL := 2) (ret := (some .int)) (by decide +kernel) rfl ?_
  intro p e s m args below meth c s₁ B hml hv
  obtain ⟨rfl, hsz, hP, hK, hD0, hN⟩ := hv
  have hx := B.exec
  have hb := B.bytes
  have hr := B.returns
  have hts := fun w (h : w ∈ pw) => atoms_spec (ws := Cond.code yX7_thin cX7_thin 2 (some .int) :: pw) B.pre w (List.mem_cons_of_mem _ h)
  have hown : s.vm.findClass RX7 = some m.cls := findClass_of_methodNamed B.named
  have hlocks := B.notSynchronized
  subst hsz
  have hBB : 999 ≤ tm.2 ∧ tm.2 ≤ 6000000 := hI.2.2.2.2
  obtain ⟨A, hAe⟩ : ∃ A : Nat → Prop, A = (fun q => q ∈ L ∨ s.heap.size ≤ q) := ⟨_, rfl⟩
  rw [← hAe]
  have hAL : ∀ q, q ∈ L → A q := fun q h => by rw [hAe]; exact Or.inl h
  have hA : ∀ q, s.heap.size ≤ q → A q := fun q h => by rw [hAe]; exact Or.inr h
  have hD : ∀ F, va_D A (va_pl L F) := fun F => (hD0 F).weaken (fun k q hk _ => hAL _ (pl_mem hk))
  obtain ⟨H, hHe⟩ : ∃ H : Heap, H = s.heap := ⟨_, rfl⟩
  have hS : va_S A s.heap H [] := by rw [hHe]; exact va_S.rf
  rw [← hHe] at hP
  have hl := lv_entry ([.ref p0, .int p1]) (n := 2) (Nat.le_of_ble_eq_true rfl)
  rw [lg_entry_eq]
  generalize (lg_sl ([.ref p0, .int p1]) ++ List.replicate (2 - (lg_sl ([.ref p0, .int p1])).length) Slot.unset).toArray = ls at hl ⊢
  have hl : lv_has ls 2 [(0, .ref p0), (1, .int p1)] := hl
  rw [← hHe]
  refine namedW (fun R Qz hR hQz => ?_)
  refine lv_aload_n hx hb dX7_thin_0 rfl (lv_at hl 0 rfl) ?_
  refine lv_iload_n hx hb dX7_thin_1 rfl (lv_at hl 1 rfl) ?_
  refine lv_iconst (v := 0) hx hb dX7_thin_2 (by decide +kernel) ?_
  refine sw_i (Z := (Iv L K x0 m0 tx tm)) (va_runV (As := [.int p1, .int 0]) (rest := []) ⟨hx, hb, hml, hown, hts⟩ (s_X7_changes l dC dI cs L K G Q hQ x0 m0 tx tm H.size I J hI p0 hLp0 hKp0 p1 0 ⟨by decide +kernel, by decide +kernel⟩) (cwV 2 hts (gV pq1387 pq1389 pq35 pq81 pq1390) rfl rfl rfl (by decide +kernel) ⟨(by rw [hR]; exact (Nat.le_of_ble_eq_true rfl)), (by rw [hR]; exact (Nat.le_of_ble_eq_true rfl))⟩) (sP_V hP hD hK hN hLp0 hKp0 rfl rfl) rfl rfl hl.1 rfl (lv_room (Nat.le_of_ble_eq_true rfl)) dX7_thin_3 ⟨(by rw [hR]; exact (Nat.le_of_ble_eq_true rfl)), (by rw [hR]; exact (Nat.le_of_ble_eq_true rfl))⟩) hS hAL hA (fun z3 Iz3 Jz3 H locs hz3 hIz3 hP hS => ?_)
  subst hR; subst hQz
  exact W.iret (v := z3) hx hb hr (fun t ht hW => ⟨⟨z3, (), rfl, trivial, ⟨Iz3, Jz3, hIz3, by rw [ht]; exact hP⟩⟩, hS.F ht⟩) hS.2.2 dX7_thin_6

set_option maxHeartbeats 4000000 in
set_option maxRecDepth 100000 in
theorem s_X7_join (l : Launch) (dC : Nat → ClassId) (dI : Nat → Nat → Nat) (cs : Nat → ClassId) (L : List Nat) (K G : Nat → Nat) (Q : Nat → Nat → Option Nat) (hQ : Sv L K G Q) (x0 m0 : Nat) (tx : Int32) (tm : Int32 × Int) (sz : Nat) (I : Nat → Nat → Int32) (J : Nat → Nat → Int64) (hI : Iv L K x0 m0 tx tm I) (p0 : Nat) (hLp0 : p0 ∈ L) (hKp0 : K p0 = 7) (p1 : Int32) (p2 : Int32) (p3 : Int32) (p4 : Int32) (p5 : Int32) : Met l yX7_join (.code yX7_join cX7_join 11 (some .int) :: pw) ({ frames := 3, cells := 0, slots := 0, locals := 67 }) (sP (dC, dI) cs [.ref p0, .int p1, .int p2, .int p3, .int p4, .int p5] sz L K I J Q) (va_Qi (fun (r : Int32) (_ : Unit) => True) (fun _ t => sB (dC, dI) cs L K Q (Iv L K x0 m0 tx tm) t) (fun q => q ∈ L ∨ sz ≤ q)) 0 0 (fun q => q ∈ L ∨ sz ≤ q) := by
  refine Met.ofW (cc := cX7_join) (maxL := 11) (ret := (some .int)) (by decide +kernel) rfl ?_
  intro p e s m args below meth c s₁ B hml hv
  obtain ⟨rfl, hsz, hP, hK, hD0, hN⟩ := hv
  have hx := B.exec
  have hb := B.bytes
  have hr := B.returns
  have hts := fun w (h : w ∈ pw) => atoms_spec (ws := Cond.code yX7_join cX7_join 11 (some .int) :: pw) B.pre w (List.mem_cons_of_mem _ h)
  have hown : s.vm.findClass RX7 = some m.cls := findClass_of_methodNamed B.named
  have hlocks := B.notSynchronized
  subst hsz
  have hBB : 999 ≤ tm.2 ∧ tm.2 ≤ 6000000 := hI.2.2.2.2
  obtain ⟨A, hAe⟩ : ∃ A : Nat → Prop, A = (fun q => q ∈ L ∨ s.heap.size ≤ q) := ⟨_, rfl⟩
  rw [← hAe]
  have hAL : ∀ q, q ∈ L → A q := fun q h => by rw [hAe]; exact Or.inl h
  have hA : ∀ q, s.heap.size ≤ q → A q := fun q h => by rw [hAe]; exact Or.inr h
  have hD : ∀ F, va_D A (va_pl L F) := fun F => (hD0 F).weaken (fun k q hk _ => hAL _ (pl_mem hk))
  obtain ⟨H, hHe⟩ : ∃ H : Heap, H = s.heap := ⟨_, rfl⟩
  have hS : va_S A s.heap H [] := by rw [hHe]; exact va_S.rf
  rw [← hHe] at hP
  have hl := lv_entry ([.ref p0, .int p1, .int p2, .int p3, .int p4, .int p5]) (n := 11) (Nat.le_of_ble_eq_true rfl)
  rw [lg_entry_eq]
  generalize (lg_sl ([.ref p0, .int p1, .int p2, .int p3, .int p4, .int p5]) ++ List.replicate (11 - (lg_sl ([.ref p0, .int p1, .int p2, .int p3, .int p4, .int p5])).length) Slot.unset).toArray = ls at hl ⊢
  have hl : lv_has ls 11 [(0, .ref p0), (1, .int p1), (2, .int p2), (3, .int p3), (4, .int p4), (5, .int p5)] := hl
  rw [← hHe]
  refine namedW (fun R Qz hR hQz => ?_)
  refine lv_aload_n hx hb dX7_join_0 rfl (lv_at hl 0 rfl) ?_
  refine lv_iload_n hx hb dX7_join_1 rfl (lv_at hl 1 rfl) ?_
  refine ro_i (va_runV (As := [.int p1]) (rest := []) ⟨hx, hb, hml, hown, hts⟩ (s_X7_isMask l dC dI cs L K G Q hQ x0 m0 tx tm H.size I J hI p0 hLp0 hKp0 p1) (cwV 1 hts (gV pq1364 pq1366 pq31 pq81 pq1367) rfl rfl rfl (by decide +kernel) ⟨(by rw [hR]; exact (Nat.le_of_ble_eq_true rfl)), (by rw [hR]; exact (Nat.le_of_ble_eq_true rfl))⟩) (sP_V hP hD hK hN hLp0 hKp0 rfl rfl) rfl rfl hl.1 rfl (lv_room (Nat.le_of_ble_eq_true rfl)) dX7_join_2 ⟨(by rw [hR]; exact (Nat.le_of_ble_eq_true rfl)), (by rw [hR]; exact (Nat.le_of_ble_eq_true rfl))⟩) hS hP (fun z2 H locs hz2 hP hS => ?_)
  obtain ⟨bz2, imz2⟩ := hz2
  refine lv_if_eq (tgt := 58) hx hb dX7_join_5 (by decide) (fun c5 => ?_) (fun c5 => ?_)
  · have t5 := tq_eq (k := z2.toInt) (q := (0)) c5 rfl (by decide +kernel)
    refine lv_iconst (v := (-1)) hx hb dX7_join_58 (by decide +kernel) ?_
    subst hR; subst hQz
    exact W.iret (v := (-1)) hx hb hr (fun t ht hW => ⟨⟨(-1), (), rfl, trivial, ⟨I, J, hI, by rw [ht]; exact hP⟩⟩, hS.F ht⟩) hS.2.2 dX7_join_59
  · have t5 := tq_ne (k := z2.toInt) (q := (0)) c5 rfl (by decide +kernel)
    have i5 := imz2 t5
    refine lv_aload_n hx hb dX7_join_8 rfl (lv_at hl 0 rfl) ?_
    refine lv_iload_n hx hb dX7_join_9 rfl (lv_at hl 2 rfl) ?_
    refine ro_i (va_runV (As := [.int p2]) (rest := []) ⟨hx, hb, hml, hown, hts⟩ (s_X7_isMask l dC dI cs L K G Q hQ x0 m0 tx tm H.size I J hI p0 hLp0 hKp0 p2) (cwV 1 hts (gV pq1364 pq1366 pq31 pq81 pq1367) rfl rfl rfl (by decide +kernel) ⟨(by rw [hR]; exact (Nat.le_of_ble_eq_true rfl)), (by rw [hR]; exact (Nat.le_of_ble_eq_true rfl))⟩) (sP_V hP hD hK hN hLp0 hKp0 rfl rfl) rfl rfl hl.1 rfl (lv_room (Nat.le_of_ble_eq_true rfl)) dX7_join_10 ⟨(by rw [hR]; exact (Nat.le_of_ble_eq_true rfl)), (by rw [hR]; exact (Nat.le_of_ble_eq_true rfl))⟩) hS hP (fun z10 H locs hz10 hP hS => ?_)
    obtain ⟨bz10, imz10⟩ := hz10
    refine lv_if_eq (tgt := 58) hx hb dX7_join_13 (by decide) (fun c13 => ?_) (fun c13 => ?_)
    · have t13 := tq_eq (k := z10.toInt) (q := (0)) c13 rfl (by decide +kernel)
      refine lv_iconst (v := (-1)) hx hb dX7_join_58 (by decide +kernel) ?_
      subst hR; subst hQz
      exact W.iret (v := (-1)) hx hb hr (fun t ht hW => ⟨⟨(-1), (), rfl, trivial, ⟨I, J, hI, by rw [ht]; exact hP⟩⟩, hS.F ht⟩) hS.2.2 dX7_join_59
    · have t13 := tq_ne (k := z10.toInt) (q := (0)) c13 rfl (by decide +kernel)
      have i13 := imz10 t13
      refine lv_iload_n hx hb dX7_join_16 rfl (lv_at hl 3 rfl) ?_
      refine lv_i2l hx hb dX7_join_17 rfl ?_
      refine lv_topl (fun z17 ez17 => ?_)
      have bz17 := tq_i2l (k := p3.toInt) ez17 rfl
      refine lv_ldc2 hx hb hown (hts _ pq1411) dX7_join_18 ?_
      refine lv_ldc2 hx hb hown (hts _ pq1412) dX7_join_21 ?_
      refine ro_i (va_runS (As := [.long z17, .long (-99), .long 99]) (rest := []) ⟨hx, hb, hml, hown, hts⟩ (s_X7_in l dC dI cs L K Q H.size I J z17 (-99) 99) (va_cwS 3 hts (gS pq1234 pq1235 pq81 pq1236) rfl rfl rfl (by decide +kernel) ⟨(by rw [hR]; exact (Nat.le_of_ble_eq_true rfl)), (by rw [hR]; exact (Nat.le_of_ble_eq_true rfl))⟩) (sP_S hP hD hK hN) rfl rfl hl.1 rfl (lv_room (Nat.le_of_ble_eq_true rfl)) dX7_join_24 ⟨(by rw [hR]; exact (Nat.le_of_ble_eq_true rfl)), (by rw [hR]; exact (Nat.le_of_ble_eq_true rfl))⟩) hS hP (fun z24 H locs hz24 hP hS => ?_)
      have csl24_m99 : ((-99) : Int64).toInt = (-99) := by decide +kernel
      have csl24_99 : (99 : Int64).toInt = 99 := by decide +kernel
      obtain ⟨bz24, imz24⟩ := hz24
      refine lv_if_eq (tgt := 58) hx hb dX7_join_27 (by decide) (fun c27 => ?_) (fun c27 => ?_)
      · have t27 := tq_eq (k := z24.toInt) (q := (0)) c27 rfl (by decide +kernel)
        refine lv_iconst (v := (-1)) hx hb dX7_join_58 (by decide +kernel) ?_
        subst hR; subst hQz
        exact W.iret (v := (-1)) hx hb hr (fun t ht hW => ⟨⟨(-1), (), rfl, trivial, ⟨I, J, hI, by rw [ht]; exact hP⟩⟩, hS.F ht⟩) hS.2.2 dX7_join_59
      · have t27 := tq_ne (k := z24.toInt) (q := (0)) c27 rfl (by decide +kernel)
        have i27 := imz24 t27
        refine lv_iload hx hb dX7_join_30 (lv_at hl 4 rfl) ?_
        refine lv_i2l hx hb dX7_join_32 rfl ?_
        refine lv_topl (fun z32 ez32 => ?_)
        have bz32 := tq_i2l (k := p4.toInt) ez32 rfl
        refine lv_ldc2 hx hb hown (hts _ pq1411) dX7_join_33 ?_
        refine lv_ldc2 hx hb hown (hts _ pq1412) dX7_join_36 ?_
        refine ro_i (va_runS (As := [.long z32, .long (-99), .long 99]) (rest := []) ⟨hx, hb, hml, hown, hts⟩ (s_X7_in l dC dI cs L K Q H.size I J z32 (-99) 99) (va_cwS 3 hts (gS pq1234 pq1235 pq81 pq1236) rfl rfl rfl (by decide +kernel) ⟨(by rw [hR]; exact (Nat.le_of_ble_eq_true rfl)), (by rw [hR]; exact (Nat.le_of_ble_eq_true rfl))⟩) (sP_S hP hD hK hN) rfl rfl hl.1 rfl (lv_room (Nat.le_of_ble_eq_true rfl)) dX7_join_39 ⟨(by rw [hR]; exact (Nat.le_of_ble_eq_true rfl)), (by rw [hR]; exact (Nat.le_of_ble_eq_true rfl))⟩) hS hP (fun z39 H locs hz39 hP hS => ?_)
        have csl39_m99 : ((-99) : Int64).toInt = (-99) := by decide +kernel
        have csl39_99 : (99 : Int64).toInt = 99 := by decide +kernel
        obtain ⟨bz39, imz39⟩ := hz39
        refine lv_if_eq (tgt := 58) hx hb dX7_join_42 (by decide) (fun c42 => ?_) (fun c42 => ?_)
        · have t42 := tq_eq (k := z39.toInt) (q := (0)) c42 rfl (by decide +kernel)
          refine lv_iconst (v := (-1)) hx hb dX7_join_58 (by decide +kernel) ?_
          subst hR; subst hQz
          exact W.iret (v := (-1)) hx hb hr (fun t ht hW => ⟨⟨(-1), (), rfl, trivial, ⟨I, J, hI, by rw [ht]; exact hP⟩⟩, hS.F ht⟩) hS.2.2 dX7_join_59
        · have t42 := tq_ne (k := z39.toInt) (q := (0)) c42 rfl (by decide +kernel)
          have i42 := imz39 t42
          refine lv_iload hx hb dX7_join_45 (lv_at hl 5 rfl) ?_
          refine lv_i2l hx hb dX7_join_47 rfl ?_
          refine lv_topl (fun z47 ez47 => ?_)
          have bz47 := tq_i2l (k := p5.toInt) ez47 rfl
          refine lv_lconst (v := 0) hx hb dX7_join_48 (by decide +kernel) ?_
          refine lv_ldc2 hx hb hown (hts _ pq1344) dX7_join_49 ?_
          refine ro_i (va_runS (As := [.long z47, .long 0, .long 3]) (rest := []) ⟨hx, hb, hml, hown, hts⟩ (s_X7_in l dC dI cs L K Q H.size I J z47 0 3) (va_cwS 3 hts (gS pq1234 pq1235 pq81 pq1236) rfl rfl rfl (by decide +kernel) ⟨(by rw [hR]; exact (Nat.le_of_ble_eq_true rfl)), (by rw [hR]; exact (Nat.le_of_ble_eq_true rfl))⟩) (sP_S hP hD hK hN) rfl rfl hl.1 rfl (lv_room (Nat.le_of_ble_eq_true rfl)) dX7_join_52 ⟨(by rw [hR]; exact (Nat.le_of_ble_eq_true rfl)), (by rw [hR]; exact (Nat.le_of_ble_eq_true rfl))⟩) hS hP (fun z52 H locs hz52 hP hS => ?_)
          have csl52_0 : (0 : Int64).toInt = 0 := by decide +kernel
          have csl52_3 : (3 : Int64).toInt = 3 := by decide +kernel
          obtain ⟨bz52, imz52⟩ := hz52
          refine lv_if_ne (tgt := 60) hx hb dX7_join_55 (by decide) (fun c55 => ?_) (fun c55 => ?_)
          · have t55 := tq_ne (k := z52.toInt) (q := (0)) c55 rfl (by decide +kernel)
            have i55 := imz52 t55
            refine lv_aload_n hx hb dX7_join_60 rfl (lv_at hl 0 rfl) ?_
            refine sw_v (Z := (fun I1 => Iv L K x0 m0 tx tm I1 ∧ I1 = I)) (va_runV (As := []) (rest := []) ⟨hx, hb, hml, hown, hts⟩ (s_X7_clearsMade l dC dI cs L K G Q hQ x0 m0 tx tm H.size I J hI p0 hLp0 hKp0) (cwV 0 hts (gV pq1391 pq1393 pq36 pq81 pq1394) rfl rfl rfl (by decide +kernel) ⟨(by rw [hR]; exact (Nat.le_of_ble_eq_true rfl)), (by rw [hR]; exact (Nat.le_of_ble_eq_true rfl))⟩) (sP_V hP hD hK hN hLp0 hKp0 rfl rfl) rfl rfl hl.1 rfl (lv_room (Nat.le_of_ble_eq_true rfl)) dX7_join_61 ⟨(by rw [hR]; exact (Nat.le_of_ble_eq_true rfl)), (by rw [hR]; exact (Nat.le_of_ble_eq_true rfl))⟩) hS hAL hA (fun Iz61 Jz61 H locs hz61 hIz61 hP hS => ?_)
            obtain ⟨hIz61x, rfl⟩ : Iv L K x0 m0 tx tm Iz61 ∧ I = Iz61 := ⟨hIz61.1, hIz61.2.symm⟩
            refine lv_iconst (v := 0) hx hb dX7_join_64 (by decide +kernel) ?_
            refine lv_istore (lv' := [(6, .int 0), (0, .ref p0), (1, .int p1), (2, .int p2), (3, .int p3), (4, .int p4), (5, .int p5)]) hx hb dX7_join_65 hl (by decide) rfl (fun ls hl => ?_)
            have key67 := blocks (fun n => ∀ (v67_6 : Int32) (J67 : Nat → Nat → Int64) (H : Heap) (lo : List Loc) (ls : Array Slot), (41 - v67_6.toInt).toNat = n → ((0) ≤ v67_6.toInt ∧ v67_6.toInt ≤ 40) → va_P (dC, dI) vwCl (Wd cs L K I J67 Q) H → va_S A s.heap H lo → lv_has ls 11 [(0, .ref p0), (1, .int p1), (2, .int p2), (3, .int p3), (4, .int p4), (5, .int p5), (6, .int v67_6)] → W p l e R s m (([.ref p0, .int p1, .int p2, .int p3, .int p4, .int p5] : List Value).toArray) below meth c H lo 0 0 Qz (F0 m 67 ls [])) (by
              intro n ih67
              intro v67_6 J67 H lo ls hmu67 bv67_6 hP hS hl
              refine lv_iload hx hb dX7_join_67 (lv_at hl 6 rfl) ?_
              refine lv_aload_n hx hb dX7_join_69 rfl (lv_at hl 0 rfl) ?_
              refine lv_iload_n hx hb dX7_join_70 rfl (lv_at hl 1 rfl) ?_
              refine ro_i (va_runV (As := [.int p1]) (rest := [.int v67_6]) ⟨hx, hb, hml, hown, hts⟩ (s_X7_high l dC dI cs L K G Q hQ x0 m0 tx tm H.size I J67 hI p0 hLp0 hKp0 p1 ⟨by omega, by omega⟩) (cwV 1 hts (gV pq1372 pq1374 pq33 pq81 pq1375) rfl rfl rfl (by decide +kernel) ⟨(by rw [hR]; exact (Nat.le_of_ble_eq_true rfl)), (by rw [hR]; exact (Nat.le_of_ble_eq_true rfl))⟩) (sP_V hP hD hK hN hLp0 hKp0 rfl rfl) rfl rfl hl.1 rfl (lv_room (Nat.le_of_ble_eq_true rfl)) dX7_join_71 ⟨(by rw [hR]; exact (Nat.le_of_ble_eq_true rfl)), (by rw [hR]; exact (Nat.le_of_ble_eq_true rfl))⟩) hS hP (fun z71 H locs hz71 hP hS => ?_)
              obtain ⟨bz71, fez71⟩ := hz71
              refine lv_icmp_ge (tgt := 231) hx hb dX7_join_74 (by decide) (fun c74 => ?_) (fun c74 => ?_)
              · have t74 := tq_le (k := z71.toInt) (q := v67_6.toInt) c74 rfl rfl
                refine lv_aload_n hx hb dX7_join_231 rfl (lv_at hl 0 rfl) ?_
                refine sw_v (Z := (fun I1 => Iv L K x0 m0 tx tm I1 ∧ (∀ b, ¬ (K b = 7 ∨ K b = 19 ∨ K b = 30) → I1 b = I b))) (va_runV (As := []) (rest := []) ⟨hx, hb, hml, hown, hts⟩ (s_X7_keepsPast l dC dI cs L K G Q hQ x0 m0 tx tm H.size I J67 hI p0 hLp0 hKp0) (cwV 0 hts (gV pq1324 pq1326 pq26 pq81 pq1327) rfl rfl rfl (by decide +kernel) ⟨(by rw [hR]; exact (Nat.le_of_ble_eq_true rfl)), (by rw [hR]; exact (Nat.le_of_ble_eq_true rfl))⟩) (sP_V hP hD hK hN hLp0 hKp0 rfl rfl) rfl rfl hl.1 rfl (lv_room (Nat.le_of_ble_eq_true rfl)) dX7_join_232 ⟨(by rw [hR]; exact (Nat.le_of_ble_eq_true rfl)), (by rw [hR]; exact (Nat.le_of_ble_eq_true rfl))⟩) hS hAL hA (fun Iz232 Jz232 H locs hz232 hIz232 hP hS => ?_)
                obtain ⟨hIz232, frc232⟩ := hIz232
                refine lv_aload_n hx hb dX7_join_235 rfl (lv_at hl 0 rfl) ?_
                refine lv_iload_n hx hb dX7_join_236 rfl (lv_at hl 1 rfl) ?_
                refine sw_v (Z := (fun I1 => Iv L K x0 m0 tx tm I1 ∧ I1 = Iz232)) (va_runV (As := [.int p1]) (rest := []) ⟨hx, hb, hml, hown, hts⟩ (s_X7_takesMade l dC dI cs L K G Q hQ x0 m0 tx tm H.size Iz232 Jz232 hIz232 p0 hLp0 hKp0 p1 ⟨by omega, by omega⟩) (cwV 1 hts (gV pq1399 pq1401 pq38 pq81 pq1402) rfl rfl rfl (by decide +kernel) ⟨(by rw [hR]; exact (Nat.le_of_ble_eq_true rfl)), (by rw [hR]; exact (Nat.le_of_ble_eq_true rfl))⟩) (sP_V hP hD hK hN hLp0 hKp0 rfl rfl) rfl rfl hl.1 rfl (lv_room (Nat.le_of_ble_eq_true rfl)) dX7_join_237 ⟨(by rw [hR]; exact (Nat.le_of_ble_eq_true rfl)), (by rw [hR]; exact (Nat.le_of_ble_eq_true rfl))⟩) hS hAL hA (fun Iz237 Jz237 H locs hz237 hIz237 hP hS => ?_)
                obtain ⟨hIz237x, rfl⟩ : Iv L K x0 m0 tx tm Iz237 ∧ Iz232 = Iz237 := ⟨hIz237.1, hIz237.2.symm⟩
                refine lv_aload_n hx hb dX7_join_240 rfl (lv_at hl 0 rfl) ?_
                refine lv_iload_n hx hb dX7_join_241 rfl (lv_at hl 1 rfl) ?_
                refine ro_i (va_runV (As := [.int p1]) (rest := []) ⟨hx, hb, hml, hown, hts⟩ (s_X7_dotsOf l dC dI cs L K G Q hQ x0 m0 tx tm H.size Iz232 Jz237 hIz232 p0 hLp0 hKp0 p1 ⟨by omega, by omega⟩) (cwV 1 hts (gV pq1413 pq1415 pq39 pq81 pq1416) rfl rfl rfl (by decide +kernel) ⟨(by rw [hR]; exact (Nat.le_of_ble_eq_true rfl)), (by rw [hR]; exact (Nat.le_of_ble_eq_true rfl))⟩) (sP_V hP hD hK hN hLp0 hKp0 rfl rfl) rfl rfl hl.1 rfl (lv_room (Nat.le_of_ble_eq_true rfl)) dX7_join_242 ⟨(by rw [hR]; exact (Nat.le_of_ble_eq_true rfl)), (by rw [hR]; exact (Nat.le_of_ble_eq_true rfl))⟩) hS hP (fun z242 H locs hz242 hP hS => ?_)
                subst hR; subst hQz
                exact W.iret (v := z242) hx hb hr (fun t ht hW => ⟨⟨z242, (), rfl, trivial, ⟨Iz232, Jz237, hIz232, by rw [ht]; exact hP⟩⟩, hS.F ht⟩) hS.2.2 dX7_join_245
              · have t74 := tq_nle (k := z71.toInt) (q := v67_6.toInt) c74 rfl rfl
                refine lv_iconst (v := 0) hx hb dX7_join_77 (by decide +kernel) ?_
                refine lv_istore (lv' := [(7, .int 0), (0, .ref p0), (1, .int p1), (2, .int p2), (3, .int p3), (4, .int p4), (5, .int p5), (6, .int v67_6)]) hx hb dX7_join_78 hl (by decide) rfl (fun ls hl => ?_)
                have key80 := blocks (fun n => ∀ (v80_7 : Int32) (J80 : Nat → Nat → Int64) (H : Heap) (lo : List Loc) (ls : Array Slot), (101 - v80_7.toInt).toNat = n → ((0) ≤ v80_7.toInt ∧ v80_7.toInt ≤ 100) → va_P (dC, dI) vwCl (Wd cs L K I J80 Q) H → va_S A s.heap H lo → lv_has ls 11 [(0, .ref p0), (1, .int p1), (2, .int p2), (3, .int p3), (4, .int p4), (5, .int p5), (6, .int v67_6), (7, .int v80_7)] → W p l e R s m (([.ref p0, .int p1, .int p2, .int p3, .int p4, .int p5] : List Value).toArray) below meth c H lo 0 0 Qz (F0 m 80 ls [])) (by
                  intro n ih80
                  intro v80_7 J80 H lo ls hmu80 bv80_7 hP hS hl
                  refine lv_iload hx hb dX7_join_80 (lv_at hl 7 rfl) ?_
                  refine lv_aload_n hx hb dX7_join_82 rfl (lv_at hl 0 rfl) ?_
                  refine lv_iload_n hx hb dX7_join_83 rfl (lv_at hl 1 rfl) ?_
                  refine ro_i (va_runV (As := [.int p1]) (rest := [.int v80_7]) ⟨hx, hb, hml, hown, hts⟩ (s_X7_wide l dC dI cs L K G Q hQ x0 m0 tx tm H.size I J80 hI p0 hLp0 hKp0 p1 ⟨by omega, by omega⟩) (cwV 1 hts (gV pq1368 pq1370 pq32 pq81 pq1371) rfl rfl rfl (by decide +kernel) ⟨(by rw [hR]; exact (Nat.le_of_ble_eq_true rfl)), (by rw [hR]; exact (Nat.le_of_ble_eq_true rfl))⟩) (sP_V hP hD hK hN hLp0 hKp0 rfl rfl) rfl rfl hl.1 rfl (lv_room (Nat.le_of_ble_eq_true rfl)) dX7_join_84 ⟨(by rw [hR]; exact (Nat.le_of_ble_eq_true rfl)), (by rw [hR]; exact (Nat.le_of_ble_eq_true rfl))⟩) hS hP (fun z84 H locs hz84 hP hS => ?_)
                  obtain ⟨bz84, fez84⟩ := hz84
                  refine lv_icmp_ge (tgt := 225) hx hb dX7_join_87 (by decide) (fun c87 => ?_) (fun c87 => ?_)
                  · have t87 := tq_le (k := z84.toInt) (q := v80_7.toInt) c87 rfl rfl
                    obtain ⟨z225, ez225⟩ : ∃ y : Int32, y = v67_6 + 1 := ⟨_, rfl⟩
                    refine lv_iinc (v := z225) (lv' := [(6, .int z225), (0, .ref p0), (1, .int p1), (2, .int p2), (3, .int p3), (4, .int p4), (5, .int p5), (7, .int v80_7)]) hx hb dX7_join_225 hl (k := 6) rfl (by rw [ez225]; rfl) (by decide) rfl (fun ls hl => ?_)
                    have bz225 := tq_add (k := v67_6.toInt) (q := 1) ez225 rfl (by decide +kernel) (by omega) (by omega)
                    refine lv_goto (tgt := 67) hx hb dX7_join_228 (by decide) ?_
                    exact ih67 _ (by omega) z225 J80 _ _ _ rfl ⟨by omega, by omega⟩ hP hS (lv_sub hl [1, 2, 3, 4, 5, 6, 0] rfl)
                  · have t87 := tq_nle (k := z84.toInt) (q := v80_7.toInt) c87 rfl rfl
                    refine lv_aload_n hx hb dX7_join_90 rfl (lv_at hl 0 rfl) ?_
                    refine lv_iload_n hx hb dX7_join_91 rfl (lv_at hl 1 rfl) ?_
                    refine lv_iload hx hb dX7_join_92 (lv_at hl 7 rfl) ?_
                    refine lv_iload hx hb dX7_join_94 (lv_at hl 6 rfl) ?_
                    refine ro_i (va_runV (As := [.int p1, .int v80_7, .int v67_6]) (rest := []) ⟨hx, hb, hml, hown, hts⟩ (s_X7_has l dC dI cs L K G Q hQ x0 m0 tx tm H.size I J80 hI p0 hLp0 hKp0 p1 ⟨by omega, by omega⟩ v80_7 v67_6) (cwV 3 hts (gV pq1376 pq1378 pq34 pq81 pq1379) rfl rfl rfl (by decide +kernel) ⟨(by rw [hR]; exact (Nat.le_of_ble_eq_true rfl)), (by rw [hR]; exact (Nat.le_of_ble_eq_true rfl))⟩) (sP_V hP hD hK hN hLp0 hKp0 rfl rfl) rfl rfl hl.1 rfl (lv_room (Nat.le_of_ble_eq_true rfl)) dX7_join_96 ⟨(by rw [hR]; exact (Nat.le_of_ble_eq_true rfl)), (by rw [hR]; exact (Nat.le_of_ble_eq_true rfl))⟩) hS hP (fun z96 H locs hz96 hP hS => ?_)
                    obtain ⟨bz96, imz96⟩ := hz96
                    refine lv_istore (lv' := [(8, .int z96), (0, .ref p0), (1, .int p1), (2, .int p2), (3, .int p3), (4, .int p4), (5, .int p5), (6, .int v67_6), (7, .int v80_7)]) hx hb dX7_join_99 hl (by decide) rfl (fun ls hl => ?_)
                    refine lv_aload_n hx hb dX7_join_101 rfl (lv_at hl 1 rfl) ?_
                    refine lv_iload_n hx hb dX7_join_102 rfl (lv_at hl 3 rfl) ?_
                    refine lv_iload hx hb dX7_join_103 (lv_at hl 8 rfl) ?_
                    refine lv_iload_n hx hb dX7_join_105 rfl (lv_at hl 4 rfl) ?_
                    refine lv_isub hx hb dX7_join_106 ?_
                    refine lv_topi (fun z106 ez106 => ?_)
                    have bz106 := tq_sub (k := v80_7.toInt) (q := p3.toInt) ez106 rfl rfl (by omega) (by omega)
                    refine lv_iload hx hb dX7_join_107 (lv_at hl 7 rfl) ?_
                    refine lv_iload hx hb dX7_join_109 (lv_at hl 5 rfl) ?_
                    refine lv_isub hx hb dX7_join_111 ?_
                    refine lv_topi (fun z111 ez111 => ?_)
                    have bz111 := tq_sub (k := v67_6.toInt) (q := p4.toInt) ez111 rfl rfl (by omega) (by omega)
                    refine ro_i (va_runV (As := [.int p2, .int z106, .int z111]) (rest := []) ⟨hx, hb, hml, hown, hts⟩ (s_X7_has l dC dI cs L K G Q hQ x0 m0 tx tm H.size I J80 hI p0 hLp0 hKp0 p2 ⟨by omega, by omega⟩ z106 z111) (cwV 3 hts (gV pq1376 pq1378 pq34 pq81 pq1379) rfl rfl rfl (by decide +kernel) ⟨(by rw [hR]; exact (Nat.le_of_ble_eq_true rfl)), (by rw [hR]; exact (Nat.le_of_ble_eq_true rfl))⟩) (sP_V hP hD hK hN hLp0 hKp0 rfl rfl) rfl rfl hl.1 rfl (lv_room (Nat.le_of_ble_eq_true rfl)) dX7_join_112 ⟨(by rw [hR]; exact (Nat.le_of_ble_eq_true rfl)), (by rw [hR]; exact (Nat.le_of_ble_eq_true rfl))⟩) hS hP (fun z112 H locs hz112 hP hS => ?_)
                    obtain ⟨bz112, imz112⟩ := hz112
                    refine lv_istore (lv' := [(9, .int z112), (8, .int z96), (0, .ref p0), (1, .int p1), (2, .int p2), (3, .int p3), (4, .int p4), (5, .int p5), (6, .int v67_6), (7, .int v80_7)]) hx hb dX7_join_115 hl (by decide) rfl (fun ls hl => ?_)
                    refine lv_iload hx hb dX7_join_117 (lv_at hl 7 rfl) ?_
                    have j200 : ∀ (w200_0 : Int32) (H : Heap) (lo : List Loc) (ls : Array Slot), ((0) ≤ w200_0.toInt ∧ w200_0.toInt ≤ 1) → va_P (dC, dI) vwCl (Wd cs L K I J80 Q) H → va_S A s.heap H lo → lv_has ls 11 [(0, .ref p0), (1, .int p1), (2, .int p2), (3, .int p3), (4, .int p4), (5, .int p5), (6, .int v67_6), (7, .int v80_7), (8, .int z96), (9, .int z112)] → W p l e R s m (([.ref p0, .int p1, .int p2, .int p3, .int p4, .int p5] : List Value).toArray) below meth c H lo 0 0 Qz (F0 m 200 ls [.int w200_0]) := by
                      intro w200_0 H lo ls bw200_0 hP hS hl
                      refine lv_istore (lv' := [(10, .int w200_0), (0, .ref p0), (1, .int p1), (2, .int p2), (3, .int p3), (4, .int p4), (5, .int p5), (6, .int v67_6), (7, .int v80_7), (8, .int z96), (9, .int z112)]) hx hb dX7_join_200 hl (by decide) rfl (fun ls hl => ?_)
                      refine lv_iload hx hb dX7_join_202 (lv_at hl 0 rfl) ?_
                      have j219 : ∀ (J219 : Nat → Nat → Int64) (H : Heap) (lo : List Loc) (ls : Array Slot), va_P (dC, dI) vwCl (Wd cs L K I J219 Q) H → va_S A s.heap H lo → lv_has ls 11 [(0, .ref p0), (1, .int p1), (2, .int p2), (3, .int p3), (4, .int p4), (5, .int p5), (6, .int v67_6), (7, .int v80_7), (8, .int z96), (9, .int z112), (10, .int w200_0)] → W p l e R s m (([.ref p0, .int p1, .int p2, .int p3, .int p4, .int p5] : List Value).toArray) below meth c H lo 0 0 Qz (F0 m 219 ls []) := by
                        intro J219 H lo ls hP hS hl
                        obtain ⟨z219, ez219⟩ : ∃ y : Int32, y = v80_7 + 1 := ⟨_, rfl⟩
                        refine lv_iinc (v := z219) (lv' := [(7, .int z219), (0, .ref p0), (1, .int p1), (2, .int p2), (3, .int p3), (4, .int p4), (5, .int p5), (6, .int v67_6), (8, .int z96), (9, .int z112), (10, .int w200_0)]) hx hb dX7_join_219 hl (k := 7) rfl (by rw [ez219]; rfl) (by decide) rfl (fun ls hl => ?_)
                        have bz219 := tq_add (k := v80_7.toInt) (q := 1) ez219 rfl (by decide +kernel) (by omega) (by omega)
                        refine lv_goto (tgt := 80) hx hb dX7_join_222 (by decide) ?_
                        exact ih80 _ (by omega) z219 J219 _ _ _ rfl ⟨by omega, by omega⟩ hP hS (lv_sub hl [1, 2, 3, 4, 5, 6, 7, 0] rfl)
                      refine lv_if_eq (tgt := 219) hx hb dX7_join_204 (by decide) (fun c204 => ?_) (fun c204 => ?_)
                      · have t204 := tq_eq (k := w200_0.toInt) (q := (0)) c204 rfl (by decide +kernel)
                        exact j219 J80 _ _ _ hP hS (lv_sub hl [1, 2, 3, 4, 5, 6, 7, 8, 9, 10, 0] rfl)
                      · have t204 := tq_ne (k := w200_0.toInt) (q := (0)) c204 rfl (by decide +kernel)
                        refine lv_aload_n hx hb dX7_join_207 rfl (lv_at hl 1 rfl) ?_
                        obtain ⟨y208, ey208, hLy208, hKy208⟩ := oQ_7_19 (Sv_at hQ hLp0 hKp0)
                        refine p_get (v := .ref y208) hx hb hts inX7 hown hK hP hLp0 hKp0 rfl rfl 19 (by decide) (hts _ pq1134) (congrArg (fun q => some (va_rf q)) ey208) dX7_join_208 ?_
                        refine lv_iconst (v := 0) hx hb dX7_join_211 (by decide +kernel) ?_
                        refine lv_iload hx hb dX7_join_212 (lv_at hl 8 rfl) ?_
                        refine lv_iload hx hb dX7_join_214 (lv_at hl 7 rfl) ?_
                        refine sw_v (Z := (fun I1 => Iv L K x0 m0 tx tm I1 ∧ I1 = I)) (va_runS (As := [.ref y208, .int 0, .int v80_7, .int v67_6]) (rest := []) ⟨hx, hb, hml, hown, hts⟩ (s_X7_setsDotM l dC dI cs L K G Q hQ x0 m0 tx tm H.size I J80 hI y208 hLy208 hKy208 0 ⟨by decide +kernel, by decide +kernel⟩ v80_7 ⟨by omega, by omega⟩ v67_6 ⟨by omega, by omega⟩) (va_cwS 4 hts (gS pq1254 pq1255 pq81 pq1256) rfl rfl rfl (by decide +kernel) ⟨(by rw [hR]; exact (Nat.le_of_ble_eq_true rfl)), (by rw [hR]; exact (Nat.le_of_ble_eq_true rfl))⟩) (sP_S hP hD hK hN) rfl rfl hl.1 rfl (lv_room (Nat.le_of_ble_eq_true rfl)) dX7_join_216 ⟨(by rw [hR]; exact (Nat.le_of_ble_eq_true rfl)), (by rw [hR]; exact (Nat.le_of_ble_eq_true rfl))⟩) hS hAL hA (fun Iz216 Jz216 H locs hz216 hIz216 hP hS => ?_)
                        obtain ⟨hIz216x, rfl⟩ : Iv L K x0 m0 tx tm Iz216 ∧ I = Iz216 := ⟨hIz216.1, hIz216.2.symm⟩
                        exact j219 Jz216 _ _ _ hP hS (lv_sub hl [1, 2, 3, 4, 5, 6, 7, 8, 9, 10, 0] rfl)
                    refine lv_if_ne (tgt := 140) hx hb dX7_join_119 (by decide) (fun c119 => ?_) (fun c119 => ?_)
                    · have t119 := tq_ne (k := p5.toInt) (q := (0)) c119 rfl (by decide +kernel)
                      refine lv_iload hx hb dX7_join_140 (lv_at hl 7 rfl) ?_
                      refine lv_iconst (v := 1) hx hb dX7_join_142 (by decide +kernel) ?_
                      refine lv_icmp_ne (tgt := 164) hx hb dX7_join_143 (by decide) (fun c143 => ?_) (fun c143 => ?_)
                      · have t143 := tq_ne (k := p5.toInt) (q := (1)) c143 rfl (by decide +kernel)
                        refine lv_iload hx hb dX7_join_164 (lv_at hl 7 rfl) ?_
                        refine lv_iconst (v := 2) hx hb dX7_join_166 (by decide +kernel) ?_
                        refine lv_icmp_ne (tgt := 188) hx hb dX7_join_167 (by decide) (fun c167 => ?_) (fun c167 => ?_)
                        · have t167 := tq_ne (k := p5.toInt) (q := (2)) c167 rfl (by decide +kernel)
                          refine lv_iload hx hb dX7_join_188 (lv_at hl 1 rfl) ?_
                          refine lv_iload hx hb dX7_join_190 (lv_at hl 0 rfl) ?_
                          refine lv_icmp_eq (tgt := 199) hx hb dX7_join_192 (by decide) (fun c192 => ?_) (fun c192 => ?_)
                          · have t192 := tq_eq (k := z96.toInt) (q := z112.toInt) c192 rfl rfl
                            refine lv_iconst (v := 0) hx hb dX7_join_199 (by decide +kernel) ?_
                            exact j200 0 _ _ _ ⟨by decide +kernel, by decide +kernel⟩ hP hS (lv_sub hl [2, 3, 4, 5, 6, 7, 8, 9, 1, 0] rfl)
                          · have t192 := tq_ne (k := z96.toInt) (q := z112.toInt) c192 rfl rfl
                            refine lv_iconst (v := 1) hx hb dX7_join_195 (by decide +kernel) ?_
                            refine lv_goto (tgt := 200) hx hb dX7_join_196 (by decide) ?_
                            exact j200 1 _ _ _ ⟨by decide +kernel, by decide +kernel⟩ hP hS (lv_sub hl [2, 3, 4, 5, 6, 7, 8, 9, 1, 0] rfl)
                        · have t167 := tq_eq (k := p5.toInt) (q := (2)) c167 rfl (by decide +kernel)
                          refine lv_iload hx hb dX7_join_170 (lv_at hl 1 rfl) ?_
                          have j184 : ∀ (H : Heap) (lo : List Loc) (ls : Array Slot), va_P (dC, dI) vwCl (Wd cs L K I J80 Q) H → va_S A s.heap H lo → lv_has ls 11 [(0, .ref p0), (1, .int p1), (2, .int p2), (3, .int p3), (4, .int p4), (5, .int p5), (6, .int v67_6), (7, .int v80_7), (8, .int z96), (9, .int z112)] → W p l e R s m (([.ref p0, .int p1, .int p2, .int p3, .int p4, .int p5] : List Value).toArray) below meth c H lo 0 0 Qz (F0 m 184 ls []) := by
                            intro H lo ls hP hS hl
                            refine lv_iconst (v := 0) hx hb dX7_join_184 (by decide +kernel) ?_
                            refine lv_goto (tgt := 200) hx hb dX7_join_185 (by decide) ?_
                            exact j200 0 _ _ _ ⟨by decide +kernel, by decide +kernel⟩ hP hS (lv_sub hl [0, 1, 2, 3, 4, 5, 6, 7, 8, 9] rfl)
                          refine lv_if_eq (tgt := 184) hx hb dX7_join_172 (by decide) (fun c172 => ?_) (fun c172 => ?_)
                          · have t172 := tq_eq (k := z96.toInt) (q := (0)) c172 rfl (by decide +kernel)
                            exact j184  _ _ _ hP hS (lv_sub hl [2, 3, 4, 5, 6, 7, 8, 9, 1, 0] rfl)
                          · have t172 := tq_ne (k := z96.toInt) (q := (0)) c172 rfl (by decide +kernel)
                            have i172 := imz96 t172
                            refine lv_iload hx hb dX7_join_175 (lv_at hl 0 rfl) ?_
                            refine lv_if_ne (tgt := 184) hx hb dX7_join_177 (by decide) (fun c177 => ?_) (fun c177 => ?_)
                            · have t177 := tq_ne (k := z112.toInt) (q := (0)) c177 rfl (by decide +kernel)
                              have i177 := imz112 t177
                              exact j184  _ _ _ hP hS (lv_sub hl [2, 3, 4, 5, 6, 7, 8, 9, 1, 0] rfl)
                            · have t177 := tq_eq (k := z112.toInt) (q := (0)) c177 rfl (by decide +kernel)
                              refine lv_iconst (v := 1) hx hb dX7_join_180 (by decide +kernel) ?_
                              refine lv_goto (tgt := 200) hx hb dX7_join_181 (by decide) ?_
                              exact j200 1 _ _ _ ⟨by decide +kernel, by decide +kernel⟩ hP hS (lv_sub hl [2, 3, 4, 5, 6, 7, 8, 9, 1, 0] rfl)
                      · have t143 := tq_eq (k := p5.toInt) (q := (1)) c143 rfl (by decide +kernel)
                        refine lv_iload hx hb dX7_join_146 (lv_at hl 1 rfl) ?_
                        have j160 : ∀ (H : Heap) (lo : List Loc) (ls : Array Slot), va_P (dC, dI) vwCl (Wd cs L K I J80 Q) H → va_S A s.heap H lo → lv_has ls 11 [(0, .ref p0), (1, .int p1), (2, .int p2), (3, .int p3), (4, .int p4), (5, .int p5), (6, .int v67_6), (7, .int v80_7), (8, .int z96), (9, .int z112)] → W p l e R s m (([.ref p0, .int p1, .int p2, .int p3, .int p4, .int p5] : List Value).toArray) below meth c H lo 0 0 Qz (F0 m 160 ls []) := by
                          intro H lo ls hP hS hl
                          refine lv_iconst (v := 0) hx hb dX7_join_160 (by decide +kernel) ?_
                          refine lv_goto (tgt := 200) hx hb dX7_join_161 (by decide) ?_
                          exact j200 0 _ _ _ ⟨by decide +kernel, by decide +kernel⟩ hP hS (lv_sub hl [0, 1, 2, 3, 4, 5, 6, 7, 8, 9] rfl)
                        refine lv_if_eq (tgt := 160) hx hb dX7_join_148 (by decide) (fun c148 => ?_) (fun c148 => ?_)
                        · have t148 := tq_eq (k := z96.toInt) (q := (0)) c148 rfl (by decide +kernel)
                          exact j160  _ _ _ hP hS (lv_sub hl [2, 3, 4, 5, 6, 7, 8, 9, 1, 0] rfl)
                        · have t148 := tq_ne (k := z96.toInt) (q := (0)) c148 rfl (by decide +kernel)
                          have i148 := imz96 t148
                          refine lv_iload hx hb dX7_join_151 (lv_at hl 0 rfl) ?_
                          refine lv_if_eq (tgt := 160) hx hb dX7_join_153 (by decide) (fun c153 => ?_) (fun c153 => ?_)
                          · have t153 := tq_eq (k := z112.toInt) (q := (0)) c153 rfl (by decide +kernel)
                            exact j160  _ _ _ hP hS (lv_sub hl [2, 3, 4, 5, 6, 7, 8, 9, 1, 0] rfl)
                          · have t153 := tq_ne (k := z112.toInt) (q := (0)) c153 rfl (by decide +kernel)
                            have i153 := imz112 t153
                            refine lv_iconst (v := 1) hx hb dX7_join_156 (by decide +kernel) ?_
                            refine lv_goto (tgt := 200) hx hb dX7_join_157 (by decide) ?_
                            exact j200 1 _ _ _ ⟨by decide +kernel, by decide +kernel⟩ hP hS (lv_sub hl [2, 3, 4, 5, 6, 7, 8, 9, 1, 0] rfl)
                    · have t119 := tq_eq (k := p5.toInt) (q := (0)) c119 rfl (by decide +kernel)
                      refine lv_iload hx hb dX7_join_122 (lv_at hl 1 rfl) ?_
                      have j132 : ∀ (H : Heap) (lo : List Loc) (ls : Array Slot), va_P (dC, dI) vwCl (Wd cs L K I J80 Q) H → va_S A s.heap H lo → lv_has ls 11 [(0, .ref p0), (1, .int p1), (2, .int p2), (3, .int p3), (4, .int p4), (5, .int p5), (6, .int v67_6), (7, .int v80_7), (8, .int z96), (9, .int z112)] → W p l e R s m (([.ref p0, .int p1, .int p2, .int p3, .int p4, .int p5] : List Value).toArray) below meth c H lo 0 0 Qz (F0 m 132 ls []) := by
                        intro H lo ls hP hS hl
                        refine lv_iconst (v := 1) hx hb dX7_join_132 (by decide +kernel) ?_
                        refine lv_goto (tgt := 200) hx hb dX7_join_133 (by decide) ?_
                        exact j200 1 _ _ _ ⟨by decide +kernel, by decide +kernel⟩ hP hS (lv_sub hl [0, 1, 2, 3, 4, 5, 6, 7, 8, 9] rfl)
                      refine lv_if_ne (tgt := 132) hx hb dX7_join_124 (by decide) (fun c124 => ?_) (fun c124 => ?_)
                      · have t124 := tq_ne (k := z96.toInt) (q := (0)) c124 rfl (by decide +kernel)
                        have i124 := imz96 t124
                        exact j132  _ _ _ hP hS (lv_sub hl [2, 3, 4, 5, 6, 7, 8, 9, 1, 0] rfl)
                      · have t124 := tq_eq (k := z96.toInt) (q := (0)) c124 rfl (by decide +kernel)
                        refine lv_iload hx hb dX7_join_127 (lv_at hl 0 rfl) ?_
                        refine lv_if_eq (tgt := 136) hx hb dX7_join_129 (by decide) (fun c129 => ?_) (fun c129 => ?_)
                        · have t129 := tq_eq (k := z112.toInt) (q := (0)) c129 rfl (by decide +kernel)
                          refine lv_iconst (v := 0) hx hb dX7_join_136 (by decide +kernel) ?_
                          refine lv_goto (tgt := 200) hx hb dX7_join_137 (by decide) ?_
                          exact j200 0 _ _ _ ⟨by decide +kernel, by decide +kernel⟩ hP hS (lv_sub hl [2, 3, 4, 5, 6, 7, 8, 9, 1, 0] rfl)
                        · have t129 := tq_ne (k := z112.toInt) (q := (0)) c129 rfl (by decide +kernel)
                          have i129 := imz112 t129
                          exact j132  _ _ _ hP hS (lv_sub hl [2, 3, 4, 5, 6, 7, 8, 9, 1, 0] rfl))
                exact key80 _ 0 J67 _ _ _ rfl ⟨by decide +kernel, by decide +kernel⟩ hP hS (lv_sub hl [1, 2, 3, 4, 5, 6, 7, 0] rfl))
            exact key67 _ 0 Jz61 _ _ _ rfl ⟨by decide +kernel, by decide +kernel⟩ hP hS (lv_sub hl [1, 2, 3, 4, 5, 6, 0] rfl)
          · have t55 := tq_eq (k := z52.toInt) (q := (0)) c55 rfl (by decide +kernel)
            refine lv_iconst (v := (-1)) hx hb dX7_join_58 (by decide +kernel) ?_
            subst hR; subst hQz
            exact W.iret (v := (-1)) hx hb hr (fun t ht hW => ⟨⟨(-1), (), rfl, trivial, ⟨I, J, hI, by rw [ht]; exact hP⟩⟩, hS.F ht⟩) hS.2.2 dX7_join_59

set_option maxHeartbeats 4000000 in
set_option maxRecDepth 100000 in
theorem s_X7_quarter (l : Launch) (dC : Nat → ClassId) (dI : Nat → Nat → Nat) (cs : Nat → ClassId) (L : List Nat) (K G : Nat → Nat) (Q : Nat → Nat → Option Nat) (hQ : Sv L K G Q) (x0 m0 : Nat) (tx : Int32) (tm : Int32 × Int) (sz : Nat) (I : Nat → Nat → Int32) (J : Nat → Nat → Int64) (hI : Iv L K x0 m0 tx tm I) (p0 : Nat) (hLp0 : p0 ∈ L) (hKp0 : K p0 = 7) (p1 : Int32) : Met l yX7_quarter (.code yX7_quarter cX7_quarter 4 (some .int) :: pw) ({ frames := 3, cells := 0, slots := 0, locals := 67 }) (sP (dC, dI) cs [.ref p0, .int p1] sz L K I J Q) (va_Qi (fun (r : Int32) (_ : Unit) => True) (fun _ t => sB (dC, dI) cs L K Q (Iv L K x0 m0 tx tm) t) (fun q => q ∈ L ∨ sz ≤ q)) 0 0 (fun q => q ∈ L ∨ sz ≤ q) := by
  refine Met.ofW (cc := cX7_quarter) (maxL := 4) (ret := (some .int)) (by decide +kernel) rfl ?_
  intro p e s m args below meth c s₁ B hml hv
  obtain ⟨rfl, hsz, hP, hK, hD0, hN⟩ := hv
  have hx := B.exec
  have hb := B.bytes
  have hr := B.returns
  have hts := fun w (h : w ∈ pw) => atoms_spec (ws := Cond.code yX7_quarter cX7_quarter 4 (some .int) :: pw) B.pre w (List.mem_cons_of_mem _ h)
  have hown : s.vm.findClass RX7 = some m.cls := findClass_of_methodNamed B.named
  have hlocks := B.notSynchronized
  subst hsz
  have hBB : 999 ≤ tm.2 ∧ tm.2 ≤ 6000000 := hI.2.2.2.2
  obtain ⟨A, hAe⟩ : ∃ A : Nat → Prop, A = (fun q => q ∈ L ∨ s.heap.size ≤ q) := ⟨_, rfl⟩
  rw [← hAe]
  have hAL : ∀ q, q ∈ L → A q := fun q h => by rw [hAe]; exact Or.inl h
  have hA : ∀ q, s.heap.size ≤ q → A q := fun q h => by rw [hAe]; exact Or.inr h
  have hD : ∀ F, va_D A (va_pl L F) := fun F => (hD0 F).weaken (fun k q hk _ => hAL _ (pl_mem hk))
  obtain ⟨H, hHe⟩ : ∃ H : Heap, H = s.heap := ⟨_, rfl⟩
  have hS : va_S A s.heap H [] := by rw [hHe]; exact va_S.rf
  rw [← hHe] at hP
  have hl := lv_entry ([.ref p0, .int p1]) (n := 4) (Nat.le_of_ble_eq_true rfl)
  rw [lg_entry_eq]
  generalize (lg_sl ([.ref p0, .int p1]) ++ List.replicate (4 - (lg_sl ([.ref p0, .int p1])).length) Slot.unset).toArray = ls at hl ⊢
  have hl : lv_has ls 4 [(0, .ref p0), (1, .int p1)] := hl
  rw [← hHe]
  refine namedW (fun R Qz hR hQz => ?_)
  refine lv_aload_n hx hb dX7_quarter_0 rfl (lv_at hl 0 rfl) ?_
  refine lv_iload_n hx hb dX7_quarter_1 rfl (lv_at hl 1 rfl) ?_
  refine ro_i (va_runV (As := [.int p1]) (rest := []) ⟨hx, hb, hml, hown, hts⟩ (s_X7_isMask l dC dI cs L K G Q hQ x0 m0 tx tm H.size I J hI p0 hLp0 hKp0 p1) (cwV 1 hts (gV pq1364 pq1366 pq31 pq81 pq1367) rfl rfl rfl (by decide +kernel) ⟨(by rw [hR]; exact (Nat.le_of_ble_eq_true rfl)), (by rw [hR]; exact (Nat.le_of_ble_eq_true rfl))⟩) (sP_V hP hD hK hN hLp0 hKp0 rfl rfl) rfl rfl hl.1 rfl (lv_room (Nat.le_of_ble_eq_true rfl)) dX7_quarter_2 ⟨(by rw [hR]; exact (Nat.le_of_ble_eq_true rfl)), (by rw [hR]; exact (Nat.le_of_ble_eq_true rfl))⟩) hS hP (fun z2 H locs hz2 hP hS => ?_)
  obtain ⟨bz2, imz2⟩ := hz2
  refine lv_if_ne (tgt := 10) hx hb dX7_quarter_5 (by decide) (fun c5 => ?_) (fun c5 => ?_)
  · have t5 := tq_ne (k := z2.toInt) (q := (0)) c5 rfl (by decide +kernel)
    have i5 := imz2 t5
    refine lv_aload_n hx hb dX7_quarter_10 rfl (lv_at hl 0 rfl) ?_
    refine lv_iload_n hx hb dX7_quarter_11 rfl (lv_at hl 1 rfl) ?_
    refine ro_i (va_runV (As := [.int p1]) (rest := []) ⟨hx, hb, hml, hown, hts⟩ (s_X7_wide l dC dI cs L K G Q hQ x0 m0 tx tm H.size I J hI p0 hLp0 hKp0 p1 ⟨by omega, by omega⟩) (cwV 1 hts (gV pq1368 pq1370 pq32 pq81 pq1371) rfl rfl rfl (by decide +kernel) ⟨(by rw [hR]; exact (Nat.le_of_ble_eq_true rfl)), (by rw [hR]; exact (Nat.le_of_ble_eq_true rfl))⟩) (sP_V hP hD hK hN hLp0 hKp0 rfl rfl) rfl rfl hl.1 rfl (lv_room (Nat.le_of_ble_eq_true rfl)) dX7_quarter_12 ⟨(by rw [hR]; exact (Nat.le_of_ble_eq_true rfl)), (by rw [hR]; exact (Nat.le_of_ble_eq_true rfl))⟩) hS hP (fun z12 H locs hz12 hP hS => ?_)
    obtain ⟨bz12, fez12⟩ := hz12
    refine lv_bipush (v := 40) hx hb dX7_quarter_15 (by decide +kernel) ?_
    refine lv_icmp_le (tgt := 23) hx hb dX7_quarter_17 (by decide) (fun c17 => ?_) (fun c17 => ?_)
    · have t17 := tq_le (k := z12.toInt) (q := (40)) c17 rfl (by decide +kernel)
      refine lv_aload_n hx hb dX7_quarter_23 rfl (lv_at hl 0 rfl) ?_
      refine sw_v (Z := (fun I1 => Iv L K x0 m0 tx tm I1 ∧ I1 = I)) (va_runV (As := []) (rest := []) ⟨hx, hb, hml, hown, hts⟩ (s_X7_clearsMade l dC dI cs L K G Q hQ x0 m0 tx tm H.size I J hI p0 hLp0 hKp0) (cwV 0 hts (gV pq1391 pq1393 pq36 pq81 pq1394) rfl rfl rfl (by decide +kernel) ⟨(by rw [hR]; exact (Nat.le_of_ble_eq_true rfl)), (by rw [hR]; exact (Nat.le_of_ble_eq_true rfl))⟩) (sP_V hP hD hK hN hLp0 hKp0 rfl rfl) rfl rfl hl.1 rfl (lv_room (Nat.le_of_ble_eq_true rfl)) dX7_quarter_24 ⟨(by rw [hR]; exact (Nat.le_of_ble_eq_true rfl)), (by rw [hR]; exact (Nat.le_of_ble_eq_true rfl))⟩) hS hAL hA (fun Iz24 Jz24 H locs hz24 hIz24 hP hS => ?_)
      obtain ⟨hIz24x, rfl⟩ : Iv L K x0 m0 tx tm Iz24 ∧ I = Iz24 := ⟨hIz24.1, hIz24.2.symm⟩
      refine lv_iconst (v := 0) hx hb dX7_quarter_27 (by decide +kernel) ?_
      refine lv_istore_n (lv' := [(2, .int 0), (0, .ref p0), (1, .int p1)]) hx hb dX7_quarter_28 rfl hl (by decide) rfl (fun ls hl => ?_)
      have key29 := blocks (fun n => ∀ (v29_2 : Int32) (J29 : Nat → Nat → Int64) (H : Heap) (lo : List Loc) (ls : Array Slot), (41 - v29_2.toInt).toNat = n → ((0) ≤ v29_2.toInt ∧ v29_2.toInt ≤ 40) → va_P (dC, dI) vwCl (Wd cs L K I J29 Q) H → va_S A s.heap H lo → lv_has ls 4 [(0, .ref p0), (1, .int p1), (2, .int v29_2)] → W p l e R s m (([.ref p0, .int p1] : List Value).toArray) below meth c H lo 0 0 Qz (F0 m 29 ls [])) (by
        intro n ih29
        intro v29_2 J29 H lo ls hmu29 bv29_2 hP hS hl
        refine lv_iload_n hx hb dX7_quarter_29 rfl (lv_at hl 2 rfl) ?_
        refine lv_aload_n hx hb dX7_quarter_30 rfl (lv_at hl 0 rfl) ?_
        refine lv_iload_n hx hb dX7_quarter_31 rfl (lv_at hl 1 rfl) ?_
        refine ro_i (va_runV (As := [.int p1]) (rest := [.int v29_2]) ⟨hx, hb, hml, hown, hts⟩ (s_X7_high l dC dI cs L K G Q hQ x0 m0 tx tm H.size I J29 hI p0 hLp0 hKp0 p1 ⟨by omega, by omega⟩) (cwV 1 hts (gV pq1372 pq1374 pq33 pq81 pq1375) rfl rfl rfl (by decide +kernel) ⟨(by rw [hR]; exact (Nat.le_of_ble_eq_true rfl)), (by rw [hR]; exact (Nat.le_of_ble_eq_true rfl))⟩) (sP_V hP hD hK hN hLp0 hKp0 rfl rfl) rfl rfl hl.1 rfl (lv_room (Nat.le_of_ble_eq_true rfl)) dX7_quarter_32 ⟨(by rw [hR]; exact (Nat.le_of_ble_eq_true rfl)), (by rw [hR]; exact (Nat.le_of_ble_eq_true rfl))⟩) hS hP (fun z32 H locs hz32 hP hS => ?_)
        obtain ⟨bz32, fez32⟩ := hz32
        refine lv_icmp_ge (tgt := 89) hx hb dX7_quarter_35 (by decide) (fun c35 => ?_) (fun c35 => ?_)
        · have t35 := tq_le (k := z32.toInt) (q := v29_2.toInt) c35 rfl rfl
          refine lv_aload_n hx hb dX7_quarter_89 rfl (lv_at hl 0 rfl) ?_
          refine sw_v (Z := (fun I1 => Iv L K x0 m0 tx tm I1 ∧ (∀ b, ¬ (K b = 7 ∨ K b = 19 ∨ K b = 30) → I1 b = I b))) (va_runV (As := []) (rest := []) ⟨hx, hb, hml, hown, hts⟩ (s_X7_keepsPast l dC dI cs L K G Q hQ x0 m0 tx tm H.size I J29 hI p0 hLp0 hKp0) (cwV 0 hts (gV pq1324 pq1326 pq26 pq81 pq1327) rfl rfl rfl (by decide +kernel) ⟨(by rw [hR]; exact (Nat.le_of_ble_eq_true rfl)), (by rw [hR]; exact (Nat.le_of_ble_eq_true rfl))⟩) (sP_V hP hD hK hN hLp0 hKp0 rfl rfl) rfl rfl hl.1 rfl (lv_room (Nat.le_of_ble_eq_true rfl)) dX7_quarter_90 ⟨(by rw [hR]; exact (Nat.le_of_ble_eq_true rfl)), (by rw [hR]; exact (Nat.le_of_ble_eq_true rfl))⟩) hS hAL hA (fun Iz90 Jz90 H locs hz90 hIz90 hP hS => ?_)
          obtain ⟨hIz90, frc90⟩ := hIz90
          refine lv_aload_n hx hb dX7_quarter_93 rfl (lv_at hl 0 rfl) ?_
          refine lv_iload_n hx hb dX7_quarter_94 rfl (lv_at hl 1 rfl) ?_
          refine sw_v (Z := (fun I1 => Iv L K x0 m0 tx tm I1 ∧ I1 = Iz90)) (va_runV (As := [.int p1]) (rest := []) ⟨hx, hb, hml, hown, hts⟩ (s_X7_takesMade l dC dI cs L K G Q hQ x0 m0 tx tm H.size Iz90 Jz90 hIz90 p0 hLp0 hKp0 p1 ⟨by omega, by omega⟩) (cwV 1 hts (gV pq1399 pq1401 pq38 pq81 pq1402) rfl rfl rfl (by decide +kernel) ⟨(by rw [hR]; exact (Nat.le_of_ble_eq_true rfl)), (by rw [hR]; exact (Nat.le_of_ble_eq_true rfl))⟩) (sP_V hP hD hK hN hLp0 hKp0 rfl rfl) rfl rfl hl.1 rfl (lv_room (Nat.le_of_ble_eq_true rfl)) dX7_quarter_95 ⟨(by rw [hR]; exact (Nat.le_of_ble_eq_true rfl)), (by rw [hR]; exact (Nat.le_of_ble_eq_true rfl))⟩) hS hAL hA (fun Iz95 Jz95 H locs hz95 hIz95 hP hS => ?_)
          obtain ⟨hIz95x, rfl⟩ : Iv L K x0 m0 tx tm Iz95 ∧ Iz90 = Iz95 := ⟨hIz95.1, hIz95.2.symm⟩
          refine lv_aload_n hx hb dX7_quarter_98 rfl (lv_at hl 0 rfl) ?_
          refine lv_iload_n hx hb dX7_quarter_99 rfl (lv_at hl 1 rfl) ?_
          refine ro_i (va_runV (As := [.int p1]) (rest := []) ⟨hx, hb, hml, hown, hts⟩ (s_X7_wide l dC dI cs L K G Q hQ x0 m0 tx tm H.size Iz90 Jz95 hIz90 p0 hLp0 hKp0 p1 ⟨by omega, by omega⟩) (cwV 1 hts (gV pq1368 pq1370 pq32 pq81 pq1371) rfl rfl rfl (by decide +kernel) ⟨(by rw [hR]; exact (Nat.le_of_ble_eq_true rfl)), (by rw [hR]; exact (Nat.le_of_ble_eq_true rfl))⟩) (sP_V hP hD hK hN hLp0 hKp0 rfl rfl) rfl rfl hl.1 rfl (lv_room (Nat.le_of_ble_eq_true rfl)) dX7_quarter_100 ⟨(by rw [hR]; exact (Nat.le_of_ble_eq_true rfl)), (by rw [hR]; exact (Nat.le_of_ble_eq_true rfl))⟩) hS hP (fun z100 H locs hz100 hP hS => ?_)
          obtain ⟨bz100, fez100⟩ := hz100
          obtain ⟨yn, eyn, hLyn, hKyn⟩ := oQ_7_0 (Sv_at hQ hLp0 hKp0)
          have w100 : z100 = z12 := by rw [fez100, fez12, eyn]; exact congrFun (frc90 yn (by have := hKyn; omega)) _
          have w100i := congrArg Int32.toInt w100
          refine lv_istore_n (lv' := [(2, .int z100), (0, .ref p0), (1, .int p1)]) hx hb dX7_quarter_103 rfl hl (by decide) rfl (fun ls hl => ?_)
          refine lv_aload_n hx hb dX7_quarter_104 rfl (lv_at hl 1 rfl) ?_
          obtain ⟨y105, ey105, hLy105, hKy105⟩ := oQ_7_0 (Sv_at hQ hLp0 hKp0)
          refine p_get (v := .ref y105) hx hb hts inX7 hown hK hP hLp0 hKp0 rfl rfl 0 (by decide) (hts _ pq1115) (congrArg (fun q => some (va_rf q)) ey105) dX7_quarter_105 ?_
          refine lv_iconst (v := 3) hx hb dX7_quarter_108 (by decide +kernel) ?_
          refine lv_iload_n hx hb dX7_quarter_109 rfl (lv_at hl 2 rfl) ?_
          refine lv_iadd hx hb dX7_quarter_110 ?_
          refine lv_topi (fun z110 ez110 => ?_)
          have bz110 := tq_add (k := (3)) (q := p1.toInt) ez110 (by decide +kernel) rfl (by omega) (by omega)
          refine lv_aload_n hx hb dX7_quarter_111 rfl (lv_at hl 1 rfl) ?_
          refine lv_iload_n hx hb dX7_quarter_112 rfl (lv_at hl 2 rfl) ?_
          refine ro_i (va_runV (As := [.int p1]) (rest := [.int z110, .ref y105]) ⟨hx, hb, hml, hown, hts⟩ (s_X7_high l dC dI cs L K G Q hQ x0 m0 tx tm H.size Iz90 Jz95 hIz90 p0 hLp0 hKp0 p1 ⟨by omega, by omega⟩) (cwV 1 hts (gV pq1372 pq1374 pq33 pq81 pq1375) rfl rfl rfl (by decide +kernel) ⟨(by rw [hR]; exact (Nat.le_of_ble_eq_true rfl)), (by rw [hR]; exact (Nat.le_of_ble_eq_true rfl))⟩) (sP_V hP hD hK hN hLp0 hKp0 rfl rfl) rfl rfl hl.1 rfl (lv_room (Nat.le_of_ble_eq_true rfl)) dX7_quarter_113 ⟨(by rw [hR]; exact (Nat.le_of_ble_eq_true rfl)), (by rw [hR]; exact (Nat.le_of_ble_eq_true rfl))⟩) hS hP (fun z113 H locs hz113 hP hS => ?_)
          obtain ⟨bz113, fez113⟩ := hz113
          refine p_iast hx hb hK hP hD hS 8 hLy105 hKy105 rfl (fun _ => rfl) rfl (in_of (by omega) (by omega)) dX7_quarter_116 (fun H locs hP hS => ?_)
          obtain ⟨Iz116, hP, hIz116, qIz116⟩ : ∃ Iz116, va_P (dC, dI) vwCl (Wd cs L K Iz116 Jz95 Q) H ∧ Iv L K x0 m0 tx tm Iz116 ∧ Iz116 = va_up Iz90 y105 (upd (Iz90 y105) z110.toNatClampNeg z113) := ⟨_, hP, Iv_put hIz90 hKy105 (oU_18 (i := z110) (k := z110.toInt) rfl (Iv_at hIz90 hLy105 hKy105) (by unfold rng; omega)) (Or.inl (by decide)) (Or.inl (by decide)), rfl⟩
          refine lv_aload_n hx hb dX7_quarter_117 rfl (lv_at hl 1 rfl) ?_
          refine p_get (v := .ref y105) hx hb hts inX7 hown hK hP hLp0 hKp0 rfl rfl 0 (by decide) (hts _ pq1115) (congrArg (fun q => some (va_rf q)) ey105) dX7_quarter_118 ?_
          refine lv_bipush (v := 11) hx hb dX7_quarter_121 (by decide +kernel) ?_
          refine lv_iload_n hx hb dX7_quarter_123 rfl (lv_at hl 2 rfl) ?_
          refine lv_iadd hx hb dX7_quarter_124 ?_
          refine lv_topi (fun z124 ez124 => ?_)
          have bz124 := tq_add (k := (11)) (q := p1.toInt) ez124 (by decide +kernel) rfl (by omega) (by omega)
          refine lv_iload_n hx hb dX7_quarter_125 rfl (lv_at hl 0 rfl) ?_
          refine p_iast hx hb hK hP hD hS 8 hLy105 hKy105 rfl (fun _ => rfl) rfl (in_of (by omega) (by omega)) dX7_quarter_126 (fun H locs hP hS => ?_)
          obtain ⟨Iz126, hP, hIz126, qIz126⟩ : ∃ Iz126, va_P (dC, dI) vwCl (Wd cs L K Iz126 Jz95 Q) H ∧ Iv L K x0 m0 tx tm Iz126 ∧ Iz126 = va_up Iz116 y105 (upd (Iz116 y105) z124.toNatClampNeg z100) := ⟨_, hP, Iv_put hIz116 hKy105 (oU_18 (i := z124) (k := z124.toInt) rfl (Iv_at hIz116 hLy105 hKy105) (by unfold rng; omega)) (Or.inl (by decide)) (Or.inl (by decide)), rfl⟩
          refine lv_aload_n hx hb dX7_quarter_127 rfl (lv_at hl 1 rfl) ?_
          refine lv_iload_n hx hb dX7_quarter_128 rfl (lv_at hl 2 rfl) ?_
          refine ro_i (va_runV (As := [.int p1]) (rest := []) ⟨hx, hb, hml, hown, hts⟩ (s_X7_wide l dC dI cs L K G Q hQ x0 m0 tx tm H.size Iz126 Jz95 hIz126 p0 hLp0 hKp0 p1 ⟨by omega, by omega⟩) (cwV 1 hts (gV pq1368 pq1370 pq32 pq81 pq1371) rfl rfl rfl (by decide +kernel) ⟨(by rw [hR]; exact (Nat.le_of_ble_eq_true rfl)), (by rw [hR]; exact (Nat.le_of_ble_eq_true rfl))⟩) (sP_V hP hD hK hN hLp0 hKp0 rfl rfl) rfl rfl hl.1 rfl (lv_room (Nat.le_of_ble_eq_true rfl)) dX7_quarter_129 ⟨(by rw [hR]; exact (Nat.le_of_ble_eq_true rfl)), (by rw [hR]; exact (Nat.le_of_ble_eq_true rfl))⟩) hS hP (fun z129 H locs hz129 hP hS => ?_)
          obtain ⟨bz129, fez129⟩ := hz129
          subst hR; subst hQz
          exact W.iret (v := z129) hx hb hr (fun t ht hW => ⟨⟨z129, (), rfl, trivial, ⟨Iz126, Jz95, hIz126, by rw [ht]; exact hP⟩⟩, hS.F ht⟩) hS.2.2 dX7_quarter_132
        · have t35 := tq_nle (k := z32.toInt) (q := v29_2.toInt) c35 rfl rfl
          refine lv_iconst (v := 0) hx hb dX7_quarter_38 (by decide +kernel) ?_
          refine lv_istore_n (lv' := [(3, .int 0), (0, .ref p0), (1, .int p1), (2, .int v29_2)]) hx hb dX7_quarter_39 rfl hl (by decide) rfl (fun ls hl => ?_)
          have key40 := blocks (fun n => ∀ (v40_3 : Int32) (J40 : Nat → Nat → Int64) (H : Heap) (lo : List Loc) (ls : Array Slot), (41 - v40_3.toInt).toNat = n → ((0) ≤ v40_3.toInt ∧ v40_3.toInt ≤ 40) → va_P (dC, dI) vwCl (Wd cs L K I J40 Q) H → va_S A s.heap H lo → lv_has ls 4 [(0, .ref p0), (1, .int p1), (2, .int v29_2), (3, .int v40_3)] → W p l e R s m (([.ref p0, .int p1] : List Value).toArray) below meth c H lo 0 0 Qz (F0 m 40 ls [])) (by
            intro n ih40
            intro v40_3 J40 H lo ls hmu40 bv40_3 hP hS hl
            refine lv_iload_n hx hb dX7_quarter_40 rfl (lv_at hl 3 rfl) ?_
            refine lv_aload_n hx hb dX7_quarter_41 rfl (lv_at hl 0 rfl) ?_
            refine lv_iload_n hx hb dX7_quarter_42 rfl (lv_at hl 1 rfl) ?_
            refine ro_i (va_runV (As := [.int p1]) (rest := [.int v40_3]) ⟨hx, hb, hml, hown, hts⟩ (s_X7_wide l dC dI cs L K G Q hQ x0 m0 tx tm H.size I J40 hI p0 hLp0 hKp0 p1 ⟨by omega, by omega⟩) (cwV 1 hts (gV pq1368 pq1370 pq32 pq81 pq1371) rfl rfl rfl (by decide +kernel) ⟨(by rw [hR]; exact (Nat.le_of_ble_eq_true rfl)), (by rw [hR]; exact (Nat.le_of_ble_eq_true rfl))⟩) (sP_V hP hD hK hN hLp0 hKp0 rfl rfl) rfl rfl hl.1 rfl (lv_room (Nat.le_of_ble_eq_true rfl)) dX7_quarter_43 ⟨(by rw [hR]; exact (Nat.le_of_ble_eq_true rfl)), (by rw [hR]; exact (Nat.le_of_ble_eq_true rfl))⟩) hS hP (fun z43 H locs hz43 hP hS => ?_)
            obtain ⟨bz43, fez43⟩ := hz43
            obtain rfl : z12 = z43 := fez12.trans fez43.symm
            refine lv_icmp_ge (tgt := 83) hx hb dX7_quarter_46 (by decide) (fun c46 => ?_) (fun c46 => ?_)
            · have t46 := tq_le (k := z12.toInt) (q := v40_3.toInt) c46 rfl rfl
              obtain ⟨z83, ez83⟩ : ∃ y : Int32, y = v29_2 + 1 := ⟨_, rfl⟩
              refine lv_iinc (v := z83) (lv' := [(2, .int z83), (0, .ref p0), (1, .int p1), (3, .int v40_3)]) hx hb dX7_quarter_83 hl (k := 2) rfl (by rw [ez83]; rfl) (by decide) rfl (fun ls hl => ?_)
              have bz83 := tq_add (k := v29_2.toInt) (q := 1) ez83 rfl (by decide +kernel) (by omega) (by omega)
              refine lv_goto (tgt := 29) hx hb dX7_quarter_86 (by decide) ?_
              exact ih29 _ (by omega) z83 J40 _ _ _ rfl ⟨by omega, by omega⟩ hP hS (lv_sub hl [1, 2, 0] rfl)
            · have t46 := tq_nle (k := z12.toInt) (q := v40_3.toInt) c46 rfl rfl
              refine lv_aload_n hx hb dX7_quarter_49 rfl (lv_at hl 0 rfl) ?_
              refine lv_iload_n hx hb dX7_quarter_50 rfl (lv_at hl 1 rfl) ?_
              refine lv_iload_n hx hb dX7_quarter_51 rfl (lv_at hl 3 rfl) ?_
              refine lv_iload_n hx hb dX7_quarter_52 rfl (lv_at hl 2 rfl) ?_
              refine ro_i (va_runV (As := [.int p1, .int v40_3, .int v29_2]) (rest := []) ⟨hx, hb, hml, hown, hts⟩ (s_X7_has l dC dI cs L K G Q hQ x0 m0 tx tm H.size I J40 hI p0 hLp0 hKp0 p1 ⟨by omega, by omega⟩ v40_3 v29_2) (cwV 3 hts (gV pq1376 pq1378 pq34 pq81 pq1379) rfl rfl rfl (by decide +kernel) ⟨(by rw [hR]; exact (Nat.le_of_ble_eq_true rfl)), (by rw [hR]; exact (Nat.le_of_ble_eq_true rfl))⟩) (sP_V hP hD hK hN hLp0 hKp0 rfl rfl) rfl rfl hl.1 rfl (lv_room (Nat.le_of_ble_eq_true rfl)) dX7_quarter_53 ⟨(by rw [hR]; exact (Nat.le_of_ble_eq_true rfl)), (by rw [hR]; exact (Nat.le_of_ble_eq_true rfl))⟩) hS hP (fun z53 H locs hz53 hP hS => ?_)
              obtain ⟨bz53, imz53⟩ := hz53
              have j77 : ∀ (J77 : Nat → Nat → Int64) (H : Heap) (lo : List Loc) (ls : Array Slot), va_P (dC, dI) vwCl (Wd cs L K I J77 Q) H → va_S A s.heap H lo → lv_has ls 4 [(0, .ref p0), (1, .int p1), (2, .int v29_2), (3, .int v40_3)] → W p l e R s m (([.ref p0, .int p1] : List Value).toArray) below meth c H lo 0 0 Qz (F0 m 77 ls []) := by
                intro J77 H lo ls hP hS hl
                obtain ⟨z77, ez77⟩ : ∃ y : Int32, y = v40_3 + 1 := ⟨_, rfl⟩
                refine lv_iinc (v := z77) (lv' := [(3, .int z77), (0, .ref p0), (1, .int p1), (2, .int v29_2)]) hx hb dX7_quarter_77 hl (k := 3) rfl (by rw [ez77]; rfl) (by decide) rfl (fun ls hl => ?_)
                have bz77 := tq_add (k := v40_3.toInt) (q := 1) ez77 rfl (by decide +kernel) (by omega) (by omega)
                refine lv_goto (tgt := 40) hx hb dX7_quarter_80 (by decide) ?_
                exact ih40 _ (by omega) z77 J77 _ _ _ rfl ⟨by omega, by omega⟩ hP hS (lv_sub hl [1, 2, 3, 0] rfl)
              refine lv_if_eq (tgt := 77) hx hb dX7_quarter_56 (by decide) (fun c56 => ?_) (fun c56 => ?_)
              · have t56 := tq_eq (k := z53.toInt) (q := (0)) c56 rfl (by decide +kernel)
                exact j77 J40 _ _ _ hP hS (lv_sub hl [0, 1, 2, 3] rfl)
              · have t56 := tq_ne (k := z53.toInt) (q := (0)) c56 rfl (by decide +kernel)
                have i56 := imz53 t56
                refine lv_aload_n hx hb dX7_quarter_59 rfl (lv_at hl 0 rfl) ?_
                obtain ⟨y60, ey60, hLy60, hKy60⟩ := oQ_7_19 (Sv_at hQ hLp0 hKp0)
                refine p_get (v := .ref y60) hx hb hts inX7 hown hK hP hLp0 hKp0 rfl rfl 19 (by decide) (hts _ pq1134) (congrArg (fun q => some (va_rf q)) ey60) dX7_quarter_60 ?_
                refine lv_iconst (v := 0) hx hb dX7_quarter_63 (by decide +kernel) ?_
                refine lv_aload_n hx hb dX7_quarter_64 rfl (lv_at hl 0 rfl) ?_
                refine lv_iload_n hx hb dX7_quarter_65 rfl (lv_at hl 1 rfl) ?_
                refine ro_i (va_runV (As := [.int p1]) (rest := [.int 0, .ref y60]) ⟨hx, hb, hml, hown, hts⟩ (s_X7_high l dC dI cs L K G Q hQ x0 m0 tx tm H.size I J40 hI p0 hLp0 hKp0 p1 ⟨by omega, by omega⟩) (cwV 1 hts (gV pq1372 pq1374 pq33 pq81 pq1375) rfl rfl rfl (by decide +kernel) ⟨(by rw [hR]; exact (Nat.le_of_ble_eq_true rfl)), (by rw [hR]; exact (Nat.le_of_ble_eq_true rfl))⟩) (sP_V hP hD hK hN hLp0 hKp0 rfl rfl) rfl rfl hl.1 rfl (lv_room (Nat.le_of_ble_eq_true rfl)) dX7_quarter_66 ⟨(by rw [hR]; exact (Nat.le_of_ble_eq_true rfl)), (by rw [hR]; exact (Nat.le_of_ble_eq_true rfl))⟩) hS hP (fun z66 H locs hz66 hP hS => ?_)
                obtain ⟨bz66, fez66⟩ := hz66
                obtain rfl : z32 = z66 := fez32.trans fez66.symm
                refine lv_iconst (v := 1) hx hb dX7_quarter_69 (by decide +kernel) ?_
                refine lv_isub hx hb dX7_quarter_70 ?_
                refine lv_topi (fun z70 ez70 => ?_)
                have bz70 := tq_sub (k := z32.toInt) (q := (1)) ez70 rfl (by decide +kernel) (by omega) (by omega)
                refine lv_iload_n hx hb dX7_quarter_71 rfl (lv_at hl 2 rfl) ?_
                refine lv_isub hx hb dX7_quarter_72 ?_
                refine lv_topi (fun z72 ez72 => ?_)
                have bz72 := tq_sub (k := z70.toInt) (q := v29_2.toInt) ez72 rfl rfl (by omega) (by omega)
                refine lv_iload_n hx hb dX7_quarter_73 rfl (lv_at hl 3 rfl) ?_
                refine sw_v (Z := (fun I1 => Iv L K x0 m0 tx tm I1 ∧ I1 = I)) (va_runS (As := [.ref y60, .int 0, .int z72, .int v40_3]) (rest := []) ⟨hx, hb, hml, hown, hts⟩ (s_X7_setsDotM l dC dI cs L K G Q hQ x0 m0 tx tm H.size I J40 hI y60 hLy60 hKy60 0 ⟨by decide +kernel, by decide +kernel⟩ z72 ⟨by omega, by omega⟩ v40_3 ⟨by omega, by omega⟩) (va_cwS 4 hts (gS pq1254 pq1255 pq81 pq1256) rfl rfl rfl (by decide +kernel) ⟨(by rw [hR]; exact (Nat.le_of_ble_eq_true rfl)), (by rw [hR]; exact (Nat.le_of_ble_eq_true rfl))⟩) (sP_S hP hD hK hN) rfl rfl hl.1 rfl (lv_room (Nat.le_of_ble_eq_true rfl)) dX7_quarter_74 ⟨(by rw [hR]; exact (Nat.le_of_ble_eq_true rfl)), (by rw [hR]; exact (Nat.le_of_ble_eq_true rfl))⟩) hS hAL hA (fun Iz74 Jz74 H locs hz74 hIz74 hP hS => ?_)
                obtain ⟨hIz74x, rfl⟩ : Iv L K x0 m0 tx tm Iz74 ∧ I = Iz74 := ⟨hIz74.1, hIz74.2.symm⟩
                exact j77 Jz74 _ _ _ hP hS (lv_sub hl [0, 1, 2, 3] rfl))
          exact key40 _ 0 J29 _ _ _ rfl ⟨by decide +kernel, by decide +kernel⟩ hP hS (lv_sub hl [1, 2, 3, 0] rfl))
      exact key29 _ 0 Jz24 _ _ _ rfl ⟨by decide +kernel, by decide +kernel⟩ hP hS (lv_sub hl [1, 2, 0] rfl)
    · have t17 := tq_nle (k := z12.toInt) (q := (40)) c17 rfl (by decide +kernel)
      refine lv_bipush (v := (-2)) hx hb dX7_quarter_20 (by decide +kernel) ?_
      subst hR; subst hQz
      exact W.iret (v := (-2)) hx hb hr (fun t ht hW => ⟨⟨(-2), (), rfl, trivial, ⟨I, J, hI, by rw [ht]; exact hP⟩⟩, hS.F ht⟩) hS.2.2 dX7_quarter_22
  · have t5 := tq_eq (k := z2.toInt) (q := (0)) c5 rfl (by decide +kernel)
    refine lv_iconst (v := (-1)) hx hb dX7_quarter_8 (by decide +kernel) ?_
    subst hR; subst hQz
    exact W.iret (v := (-1)) hx hb hr (fun t ht hW => ⟨⟨(-1), (), rfl, trivial, ⟨I, J, hI, by rw [ht]; exact hP⟩⟩, hS.F ht⟩) hS.2.2 dX7_quarter_9
