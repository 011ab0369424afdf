def yX7_areLike : MethodName := ⟨RX7, "areLike", "(III)Z"⟩
def yX7_within : MethodName := ⟨RX7, "within", "(IIIII)I"⟩
abbrev cX7_areLike : ByteArray := prog_9_method_113_code
abbrev cX7_within : ByteArray := prog_9_method_116_code
abbrev cX7_dense : ByteArray := prog_9_method_117_code
abbrev cX7_dots : ByteArray := prog_9_method_118_code
abbrev cX7_letter : ByteArray := prog_9_method_115_code
abbrev cX7_like : ByteArray := prog_9_method_114_code
def yX7_dense : MethodName := ⟨RX7, "dense", "(IIII)I"⟩
def yX7_dots : MethodName := ⟨RX7, "dots", "(IZI)I"⟩
def yX7_letter : MethodName := ⟨RX7, "letter", "(II)I"⟩
def yX7_like : MethodName := ⟨RX7, "like", "(I)I"⟩
theorem dX7_areLike_0 : decode cX7_areLike 0 = .ok (.aload_n 0, 1) := by decide +kernel
theorem dX7_areLike_1 : decode cX7_areLike 1 = .ok (.iload_n 1, 1) := by decide +kernel
theorem dX7_areLike_2 : decode cX7_areLike 2 = .ok (.invokevirtual 202, 3) := by decide +kernel
theorem dX7_areLike_5 : decode cX7_areLike 5 = .ok (.aload_n 0, 1) := by decide +kernel
theorem dX7_areLike_6 : decode cX7_areLike 6 = .ok (.iload_n 2, 1) := by decide +kernel
theorem dX7_areLike_7 : decode cX7_areLike 7 = .ok (.invokevirtual 202, 3) := by decide +kernel
theorem dX7_areLike_10 : decode cX7_areLike 10 = .ok (.if_icmp .ne 16, 3) := by decide +kernel
theorem dX7_areLike_13 : decode cX7_areLike 13 = .ok (.aload_n 0, 1) := by decide +kernel
theorem dX7_areLike_14 : decode cX7_areLike 14 = .ok (.iload_n 1, 1) := by decide +kernel
theorem dX7_areLike_15 : decode cX7_areLike 15 = .ok (.invokevirtual 205, 3) := by decide +kernel
theorem dX7_areLike_18 : decode cX7_areLike 18 = .ok (.aload_n 0, 1) := by decide +kernel
theorem dX7_areLike_19 : decode cX7_areLike 19 = .ok (.iload_n 2, 1) := by decide +kernel
theorem dX7_areLike_20 : decode cX7_areLike 20 = .ok (.invokevirtual 205, 3) := by decide +kernel
theorem dX7_areLike_23 : decode cX7_areLike 23 = .ok (.if_icmp .eq 5, 3) := by decide +kernel
theorem dX7_areLike_26 : decode cX7_areLike 26 = .ok (.iconst 0, 1) := by decide +kernel
theorem dX7_areLike_27 : decode cX7_areLike 27 = .ok (.ireturn, 1) := by decide +kernel
theorem dX7_areLike_28 : decode cX7_areLike 28 = .ok (.iconst 0, 1) := by decide +kernel
theorem dX7_areLike_29 : decode cX7_areLike 29 = .ok (.istore 4, 2) := by decide +kernel
theorem dX7_areLike_31 : decode cX7_areLike 31 = .ok (.iload 4, 2) := by decide +kernel
theorem dX7_areLike_33 : decode cX7_areLike 33 = .ok (.aload_n 0, 1) := by decide +kernel
theorem dX7_areLike_34 : decode cX7_areLike 34 = .ok (.iload_n 1, 1) := by decide +kernel
theorem dX7_areLike_35 : decode cX7_areLike 35 = .ok (.invokevirtual 205, 3) := by decide +kernel
theorem dX7_areLike_38 : decode cX7_areLike 38 = .ok (.if_icmp .ge 89, 3) := by decide +kernel
theorem dX7_areLike_41 : decode cX7_areLike 41 = .ok (.iconst 0, 1) := by decide +kernel
theorem dX7_areLike_42 : decode cX7_areLike 42 = .ok (.istore 5, 2) := by decide +kernel
theorem dX7_areLike_44 : decode cX7_areLike 44 = .ok (.iload 5, 2) := by decide +kernel
theorem dX7_areLike_46 : decode cX7_areLike 46 = .ok (.aload_n 0, 1) := by decide +kernel
theorem dX7_areLike_47 : decode cX7_areLike 47 = .ok (.iload_n 1, 1) := by decide +kernel
theorem dX7_areLike_48 : decode cX7_areLike 48 = .ok (.invokevirtual 202, 3) := by decide +kernel
theorem dX7_areLike_51 : decode cX7_areLike 51 = .ok (.if_icmp .ge 70, 3) := by decide +kernel
theorem dX7_areLike_54 : decode cX7_areLike 54 = .ok (.aload_n 0, 1) := by decide +kernel
theorem dX7_areLike_55 : decode cX7_areLike 55 = .ok (.iload_n 1, 1) := by decide +kernel
theorem dX7_areLike_56 : decode cX7_areLike 56 = .ok (.iload 5, 2) := by decide +kernel
theorem dX7_areLike_58 : decode cX7_areLike 58 = .ok (.iload 4, 2) := by decide +kernel
theorem dX7_areLike_60 : decode cX7_areLike 60 = .ok (.invokevirtual 215, 3) := by decide +kernel
theorem dX7_areLike_63 : decode cX7_areLike 63 = .ok (.aload_n 0, 1) := by decide +kernel
theorem dX7_areLike_64 : decode cX7_areLike 64 = .ok (.iload_n 2, 1) := by decide +kernel
theorem dX7_areLike_65 : decode cX7_areLike 65 = .ok (.iload_n 3, 1) := by decide +kernel
theorem dX7_areLike_66 : decode cX7_areLike 66 = .ok (.iconst 2, 1) := by decide +kernel
theorem dX7_areLike_67 : decode cX7_areLike 67 = .ok (.irem, 1) := by decide +kernel
theorem dX7_areLike_68 : decode cX7_areLike 68 = .ok (.iconst 1, 1) := by decide +kernel
theorem dX7_areLike_69 : decode cX7_areLike 69 = .ok (.if_icmp .ne 16, 3) := by decide +kernel
theorem dX7_areLike_72 : decode cX7_areLike 72 = .ok (.aload_n 0, 1) := by decide +kernel
theorem dX7_areLike_73 : decode cX7_areLike 73 = .ok (.iload_n 1, 1) := by decide +kernel
theorem dX7_areLike_74 : decode cX7_areLike 74 = .ok (.invokevirtual 202, 3) := by decide +kernel
theorem dX7_areLike_77 : decode cX7_areLike 77 = .ok (.iconst 1, 1) := by decide +kernel
theorem dX7_areLike_78 : decode cX7_areLike 78 = .ok (.isub, 1) := by decide +kernel
theorem dX7_areLike_79 : decode cX7_areLike 79 = .ok (.iload 5, 2) := by decide +kernel
theorem dX7_areLike_81 : decode cX7_areLike 81 = .ok (.isub, 1) := by decide +kernel
theorem dX7_areLike_82 : decode cX7_areLike 82 = .ok (.goto 5, 3) := by decide +kernel
theorem dX7_areLike_85 : decode cX7_areLike 85 = .ok (.iload 5, 2) := by decide +kernel
theorem dX7_areLike_87 : decode cX7_areLike 87 = .ok (.iload_n 3, 1) := by decide +kernel
theorem dX7_areLike_88 : decode cX7_areLike 88 = .ok (.iconst 1, 1) := by decide +kernel
theorem dX7_areLike_89 : decode cX7_areLike 89 = .ok (.if_icmp .le 16, 3) := by decide +kernel
theorem dX7_areLike_92 : decode cX7_areLike 92 = .ok (.aload_n 0, 1) := by decide +kernel
theorem dX7_areLike_93 : decode cX7_areLike 93 = .ok (.iload_n 1, 1) := by decide +kernel
theorem dX7_areLike_94 : decode cX7_areLike 94 = .ok (.invokevirtual 205, 3) := by decide +kernel
theorem dX7_areLike_97 : decode cX7_areLike 97 = .ok (.iconst 1, 1) := by decide +kernel
theorem dX7_areLike_98 : decode cX7_areLike 98 = .ok (.isub, 1) := by decide +kernel
theorem dX7_areLike_99 : decode cX7_areLike 99 = .ok (.iload 4, 2) := by decide +kernel
theorem dX7_areLike_101 : decode cX7_areLike 101 = .ok (.isub, 1) := by decide +kernel
theorem dX7_areLike_102 : decode cX7_areLike 102 = .ok (.goto 5, 3) := by decide +kernel
theorem dX7_areLike_105 : decode cX7_areLike 105 = .ok (.iload 4, 2) := by decide +kernel
theorem dX7_areLike_107 : decode cX7_areLike 107 = .ok (.invokevirtual 215, 3) := by decide +kernel
theorem dX7_areLike_110 : decode cX7_areLike 110 = .ok (.if_icmp .eq 5, 3) := by decide +kernel
theorem dX7_areLike_113 : decode cX7_areLike 113 = .ok (.iconst 0, 1) := by decide +kernel
theorem dX7_areLike_114 : decode cX7_areLike 114 = .ok (.ireturn, 1) := by decide +kernel
theorem dX7_areLike_115 : decode cX7_areLike 115 = .ok (.iinc 5 1, 3) := by decide +kernel
theorem dX7_areLike_118 : decode cX7_areLike 118 = .ok (.goto (-74), 3) := by decide +kernel
theorem dX7_areLike_121 : decode cX7_areLike 121 = .ok (.iinc 4 1, 3) := by decide +kernel
theorem dX7_areLike_124 : decode cX7_areLike 124 = .ok (.goto (-93), 3) := by decide +kernel
theorem dX7_areLike_127 : decode cX7_areLike 127 = .ok (.iconst 1, 1) := by decide +kernel
theorem dX7_areLike_128 : decode cX7_areLike 128 = .ok (.ireturn, 1) := by decide +kernel
theorem dX7_dense_0 : decode cX7_dense 0 = .ok (.aload_n 0, 1) := by decide +kernel
theorem dX7_dense_1 : decode cX7_dense 1 = .ok (.iload_n 1, 1) := by decide +kernel
theorem dX7_dense_2 : decode cX7_dense 2 = .ok (.invokevirtual 301, 3) := by decide +kernel
theorem dX7_dense_5 : decode cX7_dense 5 = .ok (.ifCond .eq 46, 3) := by decide +kernel
theorem dX7_dense_8 : decode cX7_dense 8 = .ok (.iload_n 2, 1) := by decide +kernel
theorem dX7_dense_9 : decode cX7_dense 9 = .ok (.i2l, 1) := by decide +kernel
theorem dX7_dense_10 : decode cX7_dense 10 = .ok (.lconst 1, 1) := by decide +kernel
theorem dX7_dense_11 : decode cX7_dense 11 = .ok (.aload_n 0, 1) := by decide +kernel
theorem dX7_dense_12 : decode cX7_dense 12 = .ok (.iload_n 1, 1) := by decide +kernel
theorem dX7_dense_13 : decode cX7_dense 13 = .ok (.invokevirtual 202, 3) := by decide +kernel
theorem dX7_dense_16 : decode cX7_dense 16 = .ok (.i2l, 1) := by decide +kernel
theorem dX7_dense_17 : decode cX7_dense 17 = .ok (.invokestatic 96, 3) := by decide +kernel
theorem dX7_dense_20 : decode cX7_dense 20 = .ok (.ifCond .eq 31, 3) := by decide +kernel
theorem dX7_dense_23 : decode cX7_dense 23 = .ok (.iload_n 3, 1) := by decide +kernel
theorem dX7_dense_24 : decode cX7_dense 24 = .ok (.i2l, 1) := by decide +kernel
theorem dX7_dense_25 : decode cX7_dense 25 = .ok (.lconst 1, 1) := by decide +kernel
theorem dX7_dense_26 : decode cX7_dense 26 = .ok (.aload_n 0, 1) := by decide +kernel
theorem dX7_dense_27 : decode cX7_dense 27 = .ok (.iload_n 1, 1) := by decide +kernel
theorem dX7_dense_28 : decode cX7_dense 28 = .ok (.invokevirtual 205, 3) := by decide +kernel
theorem dX7_dense_31 : decode cX7_dense 31 = .ok (.i2l, 1) := by decide +kernel
theorem dX7_dense_32 : decode cX7_dense 32 = .ok (.invokestatic 96, 3) := by decide +kernel
theorem dX7_dense_35 : decode cX7_dense 35 = .ok (.ifCond .eq 16, 3) := by decide +kernel
theorem dX7_dense_38 : decode cX7_dense 38 = .ok (.iload 4, 2) := by decide +kernel
theorem dX7_dense_40 : decode cX7_dense 40 = .ok (.i2l, 1) := by decide +kernel
theorem dX7_dense_41 : decode cX7_dense 41 = .ok (.lconst 0, 1) := by decide +kernel
theorem dX7_dense_42 : decode cX7_dense 42 = .ok (.ldc2_w 394, 3) := by decide +kernel
theorem dX7_dense_45 : decode cX7_dense 45 = .ok (.invokestatic 96, 3) := by decide +kernel
theorem dX7_dense_48 : decode cX7_dense 48 = .ok (.ifCond .ne 5, 3) := by decide +kernel
theorem dX7_dense_51 : decode cX7_dense 51 = .ok (.iconst (-1), 1) := by decide +kernel
theorem dX7_dense_52 : decode cX7_dense 52 = .ok (.ireturn, 1) := by decide +kernel
theorem dX7_dense_53 : decode cX7_dense 53 = .ok (.iconst (-1), 1) := by decide +kernel
theorem dX7_dense_54 : decode cX7_dense 54 = .ok (.istore 5, 2) := by decide +kernel
theorem dX7_dense_56 : decode cX7_dense 56 = .ok (.iconst 0, 1) := by decide +kernel
theorem dX7_dense_57 : decode cX7_dense 57 = .ok (.istore 6, 2) := by decide +kernel
theorem dX7_dense_59 : decode cX7_dense 59 = .ok (.iconst 0, 1) := by decide +kernel
theorem dX7_dense_60 : decode cX7_dense 60 = .ok (.istore 7, 2) := by decide +kernel
theorem dX7_dense_62 : decode cX7_dense 62 = .ok (.iconst 0, 1) := by decide +kernel
theorem dX7_dense_63 : decode cX7_dense 63 = .ok (.istore 8, 2) := by decide +kernel
theorem dX7_dense_65 : decode cX7_dense 65 = .ok (.iload 8, 2) := by decide +kernel
theorem dX7_dense_67 : decode cX7_dense 67 = .ok (.iload_n 3, 1) := by decide +kernel
theorem dX7_dense_68 : decode cX7_dense 68 = .ok (.iadd, 1) := by decide +kernel
theorem dX7_dense_69 : decode cX7_dense 69 = .ok (.aload_n 0, 1) := by decide +kernel
theorem dX7_dense_70 : decode cX7_dense 70 = .ok (.iload_n 1, 1) := by decide +kernel
theorem dX7_dense_71 : decode cX7_dense 71 = .ok (.invokevirtual 205, 3) := by decide +kernel
theorem dX7_dense_74 : decode cX7_dense 74 = .ok (.if_icmp .gt 91, 3) := by decide +kernel
theorem dX7_dense_77 : decode cX7_dense 77 = .ok (.aload_n 0, 1) := by decide +kernel
theorem dX7_dense_78 : decode cX7_dense 78 = .ok (.iload_n 1, 1) := by decide +kernel
theorem dX7_dense_79 : decode cX7_dense 79 = .ok (.iconst 0, 1) := by decide +kernel
theorem dX7_dense_80 : decode cX7_dense 80 = .ok (.iload 8, 2) := by decide +kernel
theorem dX7_dense_82 : decode cX7_dense 82 = .ok (.iload_n 2, 1) := by decide +kernel
theorem dX7_dense_83 : decode cX7_dense 83 = .ok (.iload_n 3, 1) := by decide +kernel
theorem dX7_dense_84 : decode cX7_dense 84 = .ok (.invokevirtual 419, 3) := by decide +kernel
theorem dX7_dense_87 : decode cX7_dense 87 = .ok (.istore 9, 2) := by decide +kernel
theorem dX7_dense_89 : decode cX7_dense 89 = .ok (.iconst 0, 1) := by decide +kernel
theorem dX7_dense_90 : decode cX7_dense 90 = .ok (.istore 10, 2) := by decide +kernel
theorem dX7_dense_92 : decode cX7_dense 92 = .ok (.iload 10, 2) := by decide +kernel
theorem dX7_dense_94 : decode cX7_dense 94 = .ok (.iload_n 2, 1) := by decide +kernel
theorem dX7_dense_95 : decode cX7_dense 95 = .ok (.iadd, 1) := by decide +kernel
theorem dX7_dense_96 : decode cX7_dense 96 = .ok (.aload_n 0, 1) := by decide +kernel
theorem dX7_dense_97 : decode cX7_dense 97 = .ok (.iload_n 1, 1) := by decide +kernel
theorem dX7_dense_98 : decode cX7_dense 98 = .ok (.invokevirtual 202, 3) := by decide +kernel
theorem dX7_dense_101 : decode cX7_dense 101 = .ok (.if_icmp .gt 58, 3) := by decide +kernel
theorem dX7_dense_104 : decode cX7_dense 104 = .ok (.iload 9, 2) := by decide +kernel
theorem dX7_dense_106 : decode cX7_dense 106 = .ok (.iload 5, 2) := by decide +kernel
theorem dX7_dense_108 : decode cX7_dense 108 = .ok (.if_icmp .le 15, 3) := by decide +kernel
theorem dX7_dense_111 : decode cX7_dense 111 = .ok (.iload 9, 2) := by decide +kernel
theorem dX7_dense_113 : decode cX7_dense 113 = .ok (.istore 5, 2) := by decide +kernel
theorem dX7_dense_115 : decode cX7_dense 115 = .ok (.iload 10, 2) := by decide +kernel
theorem dX7_dense_117 : decode cX7_dense 117 = .ok (.istore 6, 2) := by decide +kernel
theorem dX7_dense_119 : decode cX7_dense 119 = .ok (.iload 8, 2) := by decide +kernel
theorem dX7_dense_121 : decode cX7_dense 121 = .ok (.istore 7, 2) := by decide +kernel
theorem dX7_dense_123 : decode cX7_dense 123 = .ok (.iload 9, 2) := by decide +kernel
theorem dX7_dense_125 : decode cX7_dense 125 = .ok (.aload_n 0, 1) := by decide +kernel
theorem dX7_dense_126 : decode cX7_dense 126 = .ok (.iload_n 1, 1) := by decide +kernel
theorem dX7_dense_127 : decode cX7_dense 127 = .ok (.iload 10, 2) := by decide +kernel
theorem dX7_dense_129 : decode cX7_dense 129 = .ok (.iload_n 2, 1) := by decide +kernel
theorem dX7_dense_130 : decode cX7_dense 130 = .ok (.iadd, 1) := by decide +kernel
theorem dX7_dense_131 : decode cX7_dense 131 = .ok (.iload 8, 2) := by decide +kernel
theorem dX7_dense_133 : decode cX7_dense 133 = .ok (.iconst 1, 1) := by decide +kernel
theorem dX7_dense_134 : decode cX7_dense 134 = .ok (.iload_n 3, 1) := by decide +kernel
theorem dX7_dense_135 : decode cX7_dense 135 = .ok (.invokevirtual 419, 3) := by decide +kernel
theorem dX7_dense_138 : decode cX7_dense 138 = .ok (.aload_n 0, 1) := by decide +kernel
theorem dX7_dense_139 : decode cX7_dense 139 = .ok (.iload_n 1, 1) := by decide +kernel
theorem dX7_dense_140 : decode cX7_dense 140 = .ok (.iload 10, 2) := by decide +kernel
theorem dX7_dense_142 : decode cX7_dense 142 = .ok (.iload 8, 2) := by decide +kernel
theorem dX7_dense_144 : decode cX7_dense 144 = .ok (.iconst 1, 1) := by decide +kernel
theorem dX7_dense_145 : decode cX7_dense 145 = .ok (.iload_n 3, 1) := by decide +kernel
theorem dX7_dense_146 : decode cX7_dense 146 = .ok (.invokevirtual 419, 3) := by decide +kernel
theorem dX7_dense_149 : decode cX7_dense 149 = .ok (.isub, 1) := by decide +kernel
theorem dX7_dense_150 : decode cX7_dense 150 = .ok (.iadd, 1) := by decide +kernel
theorem dX7_dense_151 : decode cX7_dense 151 = .ok (.istore 9, 2) := by decide +kernel
theorem dX7_dense_153 : decode cX7_dense 153 = .ok (.iinc 10 1, 3) := by decide +kernel
theorem dX7_dense_156 : decode cX7_dense 156 = .ok (.goto (-64), 3) := by decide +kernel
theorem dX7_dense_159 : decode cX7_dense 159 = .ok (.iinc 8 1, 3) := by decide +kernel
theorem dX7_dense_162 : decode cX7_dense 162 = .ok (.goto (-97), 3) := by decide +kernel
theorem dX7_dense_165 : decode cX7_dense 165 = .ok (.iload 4, 2) := by decide +kernel
theorem dX7_dense_167 : decode cX7_dense 167 = .ok (.ifCond .ne 8, 3) := by decide +kernel
theorem dX7_dense_170 : decode cX7_dense 170 = .ok (.iload 5, 2) := by decide +kernel
theorem dX7_dense_172 : decode cX7_dense 172 = .ok (.goto 16, 3) := by decide +kernel
theorem dX7_dense_175 : decode cX7_dense 175 = .ok (.iload 4, 2) := by decide +kernel
theorem dX7_dense_177 : decode cX7_dense 177 = .ok (.iconst 1, 1) := by decide +kernel
theorem dX7_dense_178 : decode cX7_dense 178 = .ok (.if_icmp .ne 8, 3) := by decide +kernel
theorem dX7_dense_181 : decode cX7_dense 181 = .ok (.iload 6, 2) := by decide +kernel
theorem dX7_dense_183 : decode cX7_dense 183 = .ok (.goto 5, 3) := by decide +kernel
theorem dX7_dense_186 : decode cX7_dense 186 = .ok (.iload 7, 2) := by decide +kernel
theorem dX7_dense_188 : decode cX7_dense 188 = .ok (.ireturn, 1) := by decide +kernel
theorem dX7_dots_0 : decode cX7_dots 0 = .ok (.aload_n 0, 1) := by decide +kernel
theorem dX7_dots_1 : decode cX7_dots 1 = .ok (.iload_n 1, 1) := by decide +kernel
theorem dX7_dots_2 : decode cX7_dots 2 = .ok (.invokevirtual 301, 3) := by decide +kernel
theorem dX7_dots_5 : decode cX7_dots 5 = .ok (.ifCond .eq 32, 3) := by decide +kernel
theorem dX7_dots_8 : decode cX7_dots 8 = .ok (.iload_n 3, 1) := by decide +kernel
theorem dX7_dots_9 : decode cX7_dots 9 = .ok (.i2l, 1) := by decide +kernel
theorem dX7_dots_10 : decode cX7_dots 10 = .ok (.lconst 0, 1) := by decide +kernel
theorem dX7_dots_11 : decode cX7_dots 11 = .ok (.iload_n 2, 1) := by decide +kernel
theorem dX7_dots_12 : decode cX7_dots 12 = .ok (.ifCond .eq 11, 3) := by decide +kernel
theorem dX7_dots_15 : decode cX7_dots 15 = .ok (.aload_n 0, 1) := by decide +kernel
theorem dX7_dots_16 : decode cX7_dots 16 = .ok (.iload_n 1, 1) := by decide +kernel
theorem dX7_dots_17 : decode cX7_dots 17 = .ok (.invokevirtual 202, 3) := by decide +kernel
theorem dX7_dots_20 : decode cX7_dots 20 = .ok (.goto 8, 3) := by decide +kernel
theorem dX7_dots_23 : decode cX7_dots 23 = .ok (.aload_n 0, 1) := by decide +kernel
theorem dX7_dots_24 : decode cX7_dots 24 = .ok (.iload_n 1, 1) := by decide +kernel
theorem dX7_dots_25 : decode cX7_dots 25 = .ok (.invokevirtual 205, 3) := by decide +kernel
theorem dX7_dots_28 : decode cX7_dots 28 = .ok (.iconst 1, 1) := by decide +kernel
theorem dX7_dots_29 : decode cX7_dots 29 = .ok (.isub, 1) := by decide +kernel
theorem dX7_dots_30 : decode cX7_dots 30 = .ok (.i2l, 1) := by decide +kernel
theorem dX7_dots_31 : decode cX7_dots 31 = .ok (.invokestatic 96, 3) := by decide +kernel
theorem dX7_dots_34 : decode cX7_dots 34 = .ok (.ifCond .ne 5, 3) := by decide +kernel
theorem dX7_dots_37 : decode cX7_dots 37 = .ok (.iconst (-1), 1) := by decide +kernel
theorem dX7_dots_38 : decode cX7_dots 38 = .ok (.ireturn, 1) := by decide +kernel
theorem dX7_dots_39 : decode cX7_dots 39 = .ok (.iload_n 2, 1) := by decide +kernel
theorem dX7_dots_40 : decode cX7_dots 40 = .ok (.ifCond .eq 19, 3) := by decide +kernel
theorem dX7_dots_43 : decode cX7_dots 43 = .ok (.aload_n 0, 1) := by decide +kernel
theorem dX7_dots_44 : decode cX7_dots 44 = .ok (.iload_n 1, 1) := by decide +kernel
theorem dX7_dots_45 : decode cX7_dots 45 = .ok (.iload_n 3, 1) := by decide +kernel
theorem dX7_dots_46 : decode cX7_dots 46 = .ok (.iconst 0, 1) := by decide +kernel
theorem dX7_dots_47 : decode cX7_dots 47 = .ok (.iconst 1, 1) := by decide +kernel
theorem dX7_dots_48 : decode cX7_dots 48 = .ok (.aload_n 0, 1) := by decide +kernel
theorem dX7_dots_49 : decode cX7_dots 49 = .ok (.iload_n 1, 1) := by decide +kernel
theorem dX7_dots_50 : decode cX7_dots 50 = .ok (.invokevirtual 205, 3) := by decide +kernel
theorem dX7_dots_53 : decode cX7_dots 53 = .ok (.invokevirtual 419, 3) := by decide +kernel
theorem dX7_dots_56 : decode cX7_dots 56 = .ok (.goto 16, 3) := by decide +kernel
theorem dX7_dots_59 : decode cX7_dots 59 = .ok (.aload_n 0, 1) := by decide +kernel
theorem dX7_dots_60 : decode cX7_dots 60 = .ok (.iload_n 1, 1) := by decide +kernel
theorem dX7_dots_61 : decode cX7_dots 61 = .ok (.iconst 0, 1) := by decide +kernel
theorem dX7_dots_62 : decode cX7_dots 62 = .ok (.iload_n 3, 1) := by decide +kernel
theorem dX7_dots_63 : decode cX7_dots 63 = .ok (.aload_n 0, 1) := by decide +kernel
theorem dX7_dots_64 : decode cX7_dots 64 = .ok (.iload_n 1, 1) := by decide +kernel
theorem dX7_dots_65 : decode cX7_dots 65 = .ok (.invokevirtual 202, 3) := by decide +kernel
theorem dX7_dots_68 : decode cX7_dots 68 = .ok (.iconst 1, 1) := by decide +kernel
theorem dX7_dots_69 : decode cX7_dots 69 = .ok (.invokevirtual 419, 3) := by decide +kernel
theorem dX7_dots_72 : decode cX7_dots 72 = .ok (.ireturn, 1) := by decide +kernel
theorem dX7_letter_0 : decode cX7_letter 0 = .ok (.aload_n 0, 1) := by decide +kernel
theorem dX7_letter_1 : decode cX7_letter 1 = .ok (.iload_n 1, 1) := by decide +kernel
theorem dX7_letter_2 : decode cX7_letter 2 = .ok (.invokevirtual 301, 3) := by decide +kernel
theorem dX7_letter_5 : decode cX7_letter 5 = .ok (.ifCond .eq 8, 3) := by decide +kernel
theorem dX7_letter_8 : decode cX7_letter 8 = .ok (.iload_n 2, 1) := by decide +kernel
theorem dX7_letter_9 : decode cX7_letter 9 = .ok (.iconst (-1), 1) := by decide +kernel
theorem dX7_letter_10 : decode cX7_letter 10 = .ok (.if_icmp .ge 5, 3) := by decide +kernel
theorem dX7_letter_13 : decode cX7_letter 13 = .ok (.iconst (-1), 1) := by decide +kernel
theorem dX7_letter_14 : decode cX7_letter 14 = .ok (.ireturn, 1) := by decide +kernel
theorem dX7_letter_15 : decode cX7_letter 15 = .ok (.aload_n 0, 1) := by decide +kernel
theorem dX7_letter_16 : decode cX7_letter 16 = .ok (.iload_n 1, 1) := by decide +kernel
theorem dX7_letter_17 : decode cX7_letter 17 = .ok (.invokevirtual 202, 3) := by decide +kernel
theorem dX7_letter_20 : decode cX7_letter 20 = .ok (.iconst 1, 1) := by decide +kernel
theorem dX7_letter_21 : decode cX7_letter 21 = .ok (.iadd, 1) := by decide +kernel
theorem dX7_letter_22 : decode cX7_letter 22 = .ok (.istore_n 3, 1) := by decide +kernel
theorem dX7_letter_23 : decode cX7_letter 23 = .ok (.iload_n 3, 1) := by decide +kernel
theorem dX7_letter_24 : decode cX7_letter 24 = .ok (.aload_n 0, 1) := by decide +kernel
theorem dX7_letter_25 : decode cX7_letter 25 = .ok (.iload_n 1, 1) := by decide +kernel
theorem dX7_letter_26 : decode cX7_letter 26 = .ok (.invokevirtual 205, 3) := by decide +kernel
theorem dX7_letter_29 : decode cX7_letter 29 = .ok (.imul, 1) := by decide +kernel
theorem dX7_letter_30 : decode cX7_letter 30 = .ok (.iconst 1, 1) := by decide +kernel
theorem dX7_letter_31 : decode cX7_letter 31 = .ok (.isub, 1) := by decide +kernel
theorem dX7_letter_32 : decode cX7_letter 32 = .ok (.istore 4, 2) := by decide +kernel
theorem dX7_letter_34 : decode cX7_letter 34 = .ok (.iload_n 2, 1) := by decide +kernel
theorem dX7_letter_35 : decode cX7_letter 35 = .ok (.iconst (-1), 1) := by decide +kernel
theorem dX7_letter_36 : decode cX7_letter 36 = .ok (.if_icmp .ne 6, 3) := by decide +kernel
theorem dX7_letter_39 : decode cX7_letter 39 = .ok (.iload 4, 2) := by decide +kernel
theorem dX7_letter_41 : decode cX7_letter 41 = .ok (.ireturn, 1) := by decide +kernel
theorem dX7_letter_42 : decode cX7_letter 42 = .ok (.iload_n 2, 1) := by decide +kernel
theorem dX7_letter_43 : decode cX7_letter 43 = .ok (.iload 4, 2) := by decide +kernel
theorem dX7_letter_45 : decode cX7_letter 45 = .ok (.if_icmp .lt 8, 3) := by decide +kernel
theorem dX7_letter_48 : decode cX7_letter 48 = .ok (.bipush (-2), 2) := by decide +kernel
theorem dX7_letter_50 : decode cX7_letter 50 = .ok (.goto 40, 3) := by decide +kernel
theorem dX7_letter_53 : decode cX7_letter 53 = .ok (.iload_n 2, 1) := by decide +kernel
theorem dX7_letter_54 : decode cX7_letter 54 = .ok (.iload_n 3, 1) := by decide +kernel
theorem dX7_letter_55 : decode cX7_letter 55 = .ok (.irem, 1) := by decide +kernel
theorem dX7_letter_56 : decode cX7_letter 56 = .ok (.aload_n 0, 1) := by decide +kernel
theorem dX7_letter_57 : decode cX7_letter 57 = .ok (.iload_n 1, 1) := by decide +kernel
theorem dX7_letter_58 : decode cX7_letter 58 = .ok (.invokevirtual 202, 3) := by decide +kernel
theorem dX7_letter_61 : decode cX7_letter 61 = .ok (.if_icmp .ne 8, 3) := by decide +kernel
theorem dX7_letter_64 : decode cX7_letter 64 = .ok (.bipush 47, 2) := by decide +kernel
theorem dX7_letter_66 : decode cX7_letter 66 = .ok (.goto 24, 3) := by decide +kernel
theorem dX7_letter_69 : decode cX7_letter 69 = .ok (.aload_n 0, 1) := by decide +kernel
theorem dX7_letter_70 : decode cX7_letter 70 = .ok (.iload_n 1, 1) := by decide +kernel
theorem dX7_letter_71 : decode cX7_letter 71 = .ok (.iload_n 2, 1) := by decide +kernel
theorem dX7_letter_72 : decode cX7_letter 72 = .ok (.iload_n 3, 1) := by decide +kernel
theorem dX7_letter_73 : decode cX7_letter 73 = .ok (.irem, 1) := by decide +kernel
theorem dX7_letter_74 : decode cX7_letter 74 = .ok (.iload_n 2, 1) := by decide +kernel
theorem dX7_letter_75 : decode cX7_letter 75 = .ok (.iload_n 3, 1) := by decide +kernel
theorem dX7_letter_76 : decode cX7_letter 76 = .ok (.idiv, 1) := by decide +kernel
theorem dX7_letter_77 : decode cX7_letter 77 = .ok (.invokevirtual 215, 3) := by decide +kernel
theorem dX7_letter_80 : decode cX7_letter 80 = .ok (.ifCond .eq 8, 3) := by decide +kernel
theorem dX7_letter_83 : decode cX7_letter 83 = .ok (.bipush 35, 2) := by decide +kernel
theorem dX7_letter_85 : decode cX7_letter 85 = .ok (.goto 5, 3) := by decide +kernel
theorem dX7_letter_88 : decode cX7_letter 88 = .ok (.bipush 46, 2) := by decide +kernel
theorem dX7_letter_90 : decode cX7_letter 90 = .ok (.ireturn, 1) := by decide +kernel
theorem dX7_like_0 : decode cX7_like 0 = .ok (.aload_n 0, 1) := by decide +kernel
theorem dX7_like_1 : decode cX7_like 1 = .ok (.iload_n 1, 1) := by decide +kernel
theorem dX7_like_2 : decode cX7_like 2 = .ok (.invokevirtual 301, 3) := by decide +kernel
theorem dX7_like_5 : decode cX7_like 5 = .ok (.ifCond .ne 5, 3) := by decide +kernel
theorem dX7_like_8 : decode cX7_like 8 = .ok (.iconst (-1), 1) := by decide +kernel
theorem dX7_like_9 : decode cX7_like 9 = .ok (.ireturn, 1) := by decide +kernel
theorem dX7_like_10 : decode cX7_like 10 = .ok (.iconst 0, 1) := by decide +kernel
theorem dX7_like_11 : decode cX7_like 11 = .ok (.istore_n 2, 1) := by decide +kernel
theorem dX7_like_12 : decode cX7_like 12 = .ok (.iconst 0, 1) := by decide +kernel
theorem dX7_like_13 : decode cX7_like 13 = .ok (.istore_n 3, 1) := by decide +kernel
theorem dX7_like_14 : decode cX7_like 14 = .ok (.iload_n 3, 1) := by decide +kernel
theorem dX7_like_15 : decode cX7_like 15 = .ok (.iconst 4, 1) := by decide +kernel
theorem dX7_like_16 : decode cX7_like 16 = .ok (.if_icmp .ge 29, 3) := by decide +kernel
theorem dX7_like_19 : decode cX7_like 19 = .ok (.iload_n 2, 1) := by decide +kernel
theorem dX7_like_20 : decode cX7_like 20 = .ok (.aload_n 0, 1) := by decide +kernel
theorem dX7_like_21 : decode cX7_like 21 = .ok (.iload_n 1, 1) := by decide +kernel
theorem dX7_like_22 : decode cX7_like 22 = .ok (.iload_n 1, 1) := by decide +kernel
theorem dX7_like_23 : decode cX7_like 23 = .ok (.iload_n 3, 1) := by decide +kernel
theorem dX7_like_24 : decode cX7_like 24 = .ok (.invokevirtual 416, 3) := by decide +kernel
theorem dX7_like_27 : decode cX7_like 27 = .ok (.ifCond .eq 9, 3) := by decide +kernel
theorem dX7_like_30 : decode cX7_like 30 = .ok (.iconst 1, 1) := by decide +kernel
theorem dX7_like_31 : decode cX7_like 31 = .ok (.iload_n 3, 1) := by decide +kernel
theorem dX7_like_32 : decode cX7_like 32 = .ok (.ishl, 1) := by decide +kernel
theorem dX7_like_33 : decode cX7_like 33 = .ok (.goto 4, 3) := by decide +kernel
theorem dX7_like_36 : decode cX7_like 36 = .ok (.iconst 0, 1) := by decide +kernel
theorem dX7_like_37 : decode cX7_like 37 = .ok (.ior, 1) := by decide +kernel
theorem dX7_like_38 : decode cX7_like 38 = .ok (.istore_n 2, 1) := by decide +kernel
theorem dX7_like_39 : decode cX7_like 39 = .ok (.iinc 3 1, 3) := by decide +kernel
theorem dX7_like_42 : decode cX7_like 42 = .ok (.goto (-28), 3) := by decide +kernel
theorem dX7_like_45 : decode cX7_like 45 = .ok (.iload_n 2, 1) := by decide +kernel
theorem dX7_like_46 : decode cX7_like 46 = .ok (.ireturn, 1) := by decide +kernel
theorem dX7_within_0 : decode cX7_within 0 = .ok (.iconst 0, 1) := by decide +kernel
theorem dX7_within_1 : decode cX7_within 1 = .ok (.istore 6, 2) := by decide +kernel
theorem dX7_within_3 : decode cX7_within 3 = .ok (.iload_n 3, 1) := by decide +kernel
theorem dX7_within_4 : decode cX7_within 4 = .ok (.istore 7, 2) := by decide +kernel
theorem dX7_within_6 : decode cX7_within 6 = .ok (.iload 7, 2) := by decide +kernel
theorem dX7_within_8 : decode cX7_within 8 = .ok (.iload_n 3, 1) := by decide +kernel
theorem dX7_within_9 : decode cX7_within 9 = .ok (.iload 5, 2) := by decide +kernel
theorem dX7_within_11 : decode cX7_within 11 = .ok (.iadd, 1) := by decide +kernel
theorem dX7_within_12 : decode cX7_within 12 = .ok (.if_icmp .ge 44, 3) := by decide +kernel
theorem dX7_within_15 : decode cX7_within 15 = .ok (.iload_n 2, 1) := by decide +kernel
theorem dX7_within_16 : decode cX7_within 16 = .ok (.istore 8, 2) := by decide +kernel
theorem dX7_within_18 : decode cX7_within 18 = .ok (.iload 8, 2) := by decide +kernel
theorem dX7_within_20 : decode cX7_within 20 = .ok (.iload_n 2, 1) := by decide +kernel
theorem dX7_within_21 : decode cX7_within 21 = .ok (.iload 4, 2) := by decide +kernel
theorem dX7_within_23 : decode cX7_within 23 = .ok (.iadd, 1) := by decide +kernel
theorem dX7_within_24 : decode cX7_within 24 = .ok (.if_icmp .ge 26, 3) := by decide +kernel
theorem dX7_within_27 : decode cX7_within 27 = .ok (.iload 6, 2) := by decide +kernel
theorem dX7_within_29 : decode cX7_within 29 = .ok (.aload_n 0, 1) := by decide +kernel
theorem dX7_within_30 : decode cX7_within 30 = .ok (.iload_n 1, 1) := by decide +kernel
theorem dX7_within_31 : decode cX7_within 31 = .ok (.iload 8, 2) := by decide +kernel
theorem dX7_within_33 : decode cX7_within 33 = .ok (.iload 7, 2) := by decide +kernel
theorem dX7_within_35 : decode cX7_within 35 = .ok (.invokevirtual 215, 3) := by decide +kernel
theorem dX7_within_38 : decode cX7_within 38 = .ok (.invokestatic 127, 3) := by decide +kernel
theorem dX7_within_41 : decode cX7_within 41 = .ok (.iadd, 1) := by decide +kernel
theorem dX7_within_42 : decode cX7_within 42 = .ok (.istore 6, 2) := by decide +kernel
theorem dX7_within_44 : decode cX7_within 44 = .ok (.iinc 8 1, 3) := by decide +kernel
theorem dX7_within_47 : decode cX7_within 47 = .ok (.goto (-29), 3) := by decide +kernel
theorem dX7_within_50 : decode cX7_within 50 = .ok (.iinc 7 1, 3) := by decide +kernel
theorem dX7_within_53 : decode cX7_within 53 = .ok (.goto (-47), 3) := by decide +kernel
theorem dX7_within_56 : decode cX7_within 56 = .ok (.iload 6, 2) := by decide +kernel
theorem dX7_within_58 : decode cX7_within 58 = .ok (.ireturn, 1) := by decide +kernel
set_option maxRecDepth 100000 in
theorem pq69 : Cond.selects RX7 yX7_areLike yX7_areLike ∈ pw := pw_mem (i := 69) (by decide +kernel) rfl
set_option maxRecDepth 100000 in
theorem pq70 : Cond.selects RX7 yX7_within yX7_within ∈ pw := pw_mem (i := 70) (by decide +kernel) rfl
set_option maxRecDepth 100000 in
theorem pq1670 : Cond.methodLink RX7 416 yX7_areLike ∈ pw := pw_mem (i := 1670) (by decide +kernel) rfl
set_option maxRecDepth 100000 in
theorem pq1672 : Cond.instanceMethod yX7_areLike ∈ pw := pw_mem (i := 1672) (by decide +kernel) rfl
set_option maxRecDepth 100000 in
theorem pq1673 : Cond.code yX7_areLike cX7_areLike 6 (some .boolean) ∈ pw := pw_mem (i := 1673) (by rfl) rfl
set_option maxRecDepth 100000 in
theorem pq1682 : Cond.methodLink RX7 419 yX7_within ∈ pw := pw_mem (i := 1682) (by decide +kernel) rfl
set_option maxRecDepth 100000 in
theorem pq1684 : Cond.instanceMethod yX7_within ∈ pw := pw_mem (i := 1684) (by decide +kernel) rfl
set_option maxRecDepth 100000 in
theorem pq1685 : Cond.code yX7_within cX7_within 9 (some .int) ∈ pw := pw_mem (i := 1685) (by rfl) rfl
set_option maxHeartbeats 4000000 in
set_option maxRecDepth 100000 in
theorem s_X7_areLike (l : Launch) (dC : Nat → ClassId) (dI : Nat → Nat → Nat) (cs : Nat → ClassId) (L : List Nat) (K G : Nat → Nat) (Q : Nat → Nat → Option Nat) (hQ : Sv L K G Q) (x0 m0 : Nat) (tx : GT) (tm : GT × Int) (sz : Nat) (I : Nat → Nat → Int32) (J : Nat → Nat → Int64) (hI : Iv L K x0 m0 tx tm I) (p0 : Nat) (hLp0 : p0 ∈ L) (hKp0 : K p0 = 7) (p1 : Int32) (bp1 : (0) ≤ p1.toInt ∧ p1.toInt ≤ 7) (p2 : Int32) (bp2 : (0) ≤ p2.toInt ∧ p2.toInt ≤ 7) (p3 : Int32) (bp3 : (0) ≤ p3.toInt ∧ p3.toInt ≤ 3) : Met l yX7_areLike (.code yX7_areLike cX7_areLike 6 (some .boolean) :: pw) ({ frames := 2, cells := 0, slots := 0, locals := 48 }) (sP (dC, dI) cs [.ref p0, .int p1, .int p2, .int p3] sz L K I J Q) (va_Qi (fun (r : Int32) (_ : Unit) => ((0) ≤ r.toInt ∧ r.toInt ≤ 1) ∧ (∀ c : Fx, okF c → rI Q I p0 c → rJ Q J p0 c → p1.toInt.toNat < (c.1 0).toInt.toNat → p2.toInt.toNat < (c.1 0).toInt.toNat → (¬ r.toInt = 0 ↔ alM c p1.toInt.toNat p2.toInt.toNat p3.toInt))) (fun _ _ => True) (fun _ => False)) 0 0 (fun _ => False) := by
  refine Met.ofW (cc := cX7_areLike) (maxL := 6) (ret := (some .boolean)) (by decide +kernel) rfl ?_
  intro p e s m args below meth c s₁ B hml hv
  obtain ⟨rfl, hsz, hP, hK, hD0, hN⟩ := hv
  have hx := B.exec
  have hb := B.bytes
  have hr := B.returns
  have hts := fun w (h : w ∈ pw) => atoms_spec (ws := Cond.code yX7_areLike cX7_areLike 6 (some .boolean) :: pw) B.pre w (List.mem_cons_of_mem _ h)
  have hown : s.vm.findClass RX7 = some m.cls := findClass_of_methodNamed B.named
  have hlocks := B.notSynchronized
  subst hsz
  have hBB : 999 ≤ tm.2 ∧ tm.2 ≤ 6000000 := hI.2.2.2.2.1
  have hD := hD0
  obtain ⟨H, hHe⟩ : ∃ H : Heap, H = s.heap := ⟨_, rfl⟩
  have hS : va_S (fun _ => False) s.heap H [] := by rw [hHe]; exact va_S.rf
  rw [← hHe] at hP
  have hl := lv_entry ([.ref p0, .int p1, .int p2, .int p3]) (n := 6) (Nat.le_of_ble_eq_true rfl)
  rw [lg_entry_eq]
  generalize (lg_sl ([.ref p0, .int p1, .int p2, .int p3]) ++ List.replicate (6 - (lg_sl ([.ref p0, .int p1, .int p2, .int p3])).length) Slot.unset).toArray = ls at hl ⊢
  have hl : lv_has ls 6 [(0, .ref p0), (1, .int p1), (2, .int p2), (3, .int p3)] := hl
  rw [← hHe]
  refine namedW (fun R Qz hR hQz => ?_)
  refine lv_aload_n hx hb dX7_areLike_0 rfl (lv_at hl 0 rfl) ?_
  refine lv_iload_n hx hb dX7_areLike_1 rfl (lv_at hl 1 rfl) ?_
  refine ro_i (va_runV (As := [.int p1]) (rest := []) ⟨hx, hb, hml, hown, hts⟩ (s_X7_wide l dC dI cs L K G Q hQ x0 m0 tx tm H.size I J hI p0 hLp0 hKp0 p1 ⟨by omega, by omega⟩) (cwV 1 hts (gV pq1368 pq1370 pq32 pq81 pq1371) rfl rfl rfl (by decide +kernel) ⟨(by rw [hR]; exact (Nat.le_of_ble_eq_true rfl)), (by rw [hR]; exact (Nat.le_of_ble_eq_true rfl))⟩) (sP_V hP hD hK hN hLp0 hKp0 rfl rfl) rfl rfl hl.1 rfl (lv_room (Nat.le_of_ble_eq_true rfl)) dX7_areLike_2 ⟨(by rw [hR]; exact (Nat.le_of_ble_eq_true rfl)), (by rw [hR]; exact (Nat.le_of_ble_eq_true rfl))⟩) hS hP (fun z2 H locs hz2 hP hS => ?_)
  obtain ⟨bz2, fez2⟩ := hz2
  refine lv_aload_n hx hb dX7_areLike_5 rfl (lv_at hl 0 rfl) ?_
  refine lv_iload_n hx hb dX7_areLike_6 rfl (lv_at hl 2 rfl) ?_
  refine ro_i (va_runV (As := [.int p2]) (rest := [.int z2]) ⟨hx, hb, hml, hown, hts⟩ (s_X7_wide l dC dI cs L K G Q hQ x0 m0 tx tm H.size I J hI p0 hLp0 hKp0 p2 ⟨by omega, by omega⟩) (cwV 1 hts (gV pq1368 pq1370 pq32 pq81 pq1371) rfl rfl rfl (by decide +kernel) ⟨(by rw [hR]; exact (Nat.le_of_ble_eq_true rfl)), (by rw [hR]; exact (Nat.le_of_ble_eq_true rfl))⟩) (sP_V hP hD hK hN hLp0 hKp0 rfl rfl) rfl rfl hl.1 rfl (lv_room (Nat.le_of_ble_eq_true rfl)) dX7_areLike_7 ⟨(by rw [hR]; exact (Nat.le_of_ble_eq_true rfl)), (by rw [hR]; exact (Nat.le_of_ble_eq_true rfl))⟩) hS hP (fun z7 H locs hz7 hP hS => ?_)
  obtain ⟨bz7, fez7⟩ := hz7
  refine lv_icmp_ne (tgt := 26) hx hb dX7_areLike_10 (by decide) (fun c10 => ?_) (fun c10 => ?_)
  · have t10 := tq_ne (k := z2.toInt) (q := z7.toInt) c10 rfl rfl
    refine lv_iconst (v := 0) hx hb dX7_areLike_26 (by decide +kernel) ?_
    subst hR; subst hQz
    exact W.zret (v := 0) hx hb hr (by decide +kernel) (fun t ht hW => ⟨⟨0, (), rfl, ⟨⟨by decide +kernel, by decide +kernel⟩, (fun c ok h hj hm ho => by refine ⟨fun q => absurd (by decide +kernel) q, fun q => ?_⟩; have eW : z2 = c.1 (3 + p1.toInt.toNat) := (show z2 = I (a0 Q p0 0) (3 + p1.toInt.toNat) from fez2).trans (h _ (by omega)); have eW2 : z7 = c.1 (3 + p2.toInt.toNat) := (show z7 = I (a0 Q p0 0) (3 + p2.toInt.toNat) from fez7).trans (h _ (by omega)); first | exact absurd (by rw [eW, eW2, q.1.1]) t10 | (have eH : z15 = c.1 (11 + p1.toInt.toNat) := (show z15 = I (a0 Q p0 0) (11 + p1.toInt.toNat) from fez15).trans (h _ (by omega)); have eH2 : z20 = c.1 (11 + p2.toInt.toNat) := (show z20 = I (a0 Q p0 0) (11 + p2.toInt.toNat) from fez20).trans (h _ (by omega)); exact absurd (by rw [eH, eH2, q.1.2]) t23) | (have eH : z15 = c.1 (11 + p1.toInt.toNat) := (show z15 = I (a0 Q p0 0) (11 + p1.toInt.toNat) from fez15).trans (h _ (by omega)); have eH2 : z20 = c.1 (11 + p2.toInt.toNat) := (show z20 = I (a0 Q p0 0) (11 + p2.toInt.toNat) from fez20).trans (h _ (by omega)); have iW := congrArg Int32.toInt eW; have iH := congrArg Int32.toInt eH; have w : (c.1 (3 + p1.toInt.toNat) = c.1 (3 + p2.toInt.toNat) ∧ c.1 (11 + p1.toInt.toNat) = c.1 (11 + p2.toInt.toNat)) := ⟨by rw [← eW, ← eW2]; exact Int32.toInt_inj.mp t10, by rw [← eH, ← eH2]; exact Int32.toInt_inj.mp t23⟩; have q60 : z60.toInt = bi (md (mo c.2 p1.toInt.toNat) v44_5.toInt v31_4.toInt) := (by rw [xpz60, hs_congr (f := rF Q J p0 p1.toInt.toNat) (g := mo c.2 p1.toInt.toNat) (congrArg Int32.toInt (h (3 + p1.toInt.toNat) (by omega))) (congrArg Int32.toInt (h (11 + p1.toInt.toNat) (by omega))) (fun k hk => hj (80 * p1.toInt.toNat + k) (by omega)), hs_of (ok.2.2.1 _ hm).2.2]); have q107 : z107.toInt = bi (flipD (c.1 (3 + p2.toInt.toNat)).toInt (c.1 (11 + p2.toInt.toNat)).toInt p3.toInt (mo c.2 p2.toInt.toNat) v44_5.toInt v31_4.toInt) := (by rw [xpz107, hs_congr (f := rF Q J p0 p2.toInt.toNat) (g := mo c.2 p2.toInt.toNat) (congrArg Int32.toInt (h (3 + p2.toInt.toNat) (by omega))) (congrArg Int32.toInt (h (11 + p2.toInt.toNat) (by omega))) (fun k hk => hj (80 * p2.toInt.toNat + k) (by omega)), g87, g107, eW, eH]; exact congrArg bi (al_v w ⟨by omega, by omega⟩ ⟨by omega, by omega⟩)); exact absurd (by rw [q60, q107, q.2]) t110))⟩, trivial⟩, hS.F ht⟩) hS.2.2 dX7_areLike_27
  · have t10 := tq_eq (k := z2.toInt) (q := z7.toInt) c10 rfl rfl
    refine lv_aload_n hx hb dX7_areLike_13 rfl (lv_at hl 0 rfl) ?_
    refine lv_iload_n hx hb dX7_areLike_14 rfl (lv_at hl 1 rfl) ?_
    refine ro_i (va_runV (As := [.int p1]) (rest := []) ⟨hx, hb, hml, hown, hts⟩ (s_X7_high l dC dI cs L K G Q hQ x0 m0 tx tm H.size I J hI p0 hLp0 hKp0 p1 ⟨by omega, by omega⟩) (cwV 1 hts (gV pq1372 pq1374 pq33 pq81 pq1375) rfl rfl rfl (by decide +kernel) ⟨(by rw [hR]; exact (Nat.le_of_ble_eq_true rfl)), (by rw [hR]; exact (Nat.le_of_ble_eq_true rfl))⟩) (sP_V hP hD hK hN hLp0 hKp0 rfl rfl) rfl rfl hl.1 rfl (lv_room (Nat.le_of_ble_eq_true rfl)) dX7_areLike_15 ⟨(by rw [hR]; exact (Nat.le_of_ble_eq_true rfl)), (by rw [hR]; exact (Nat.le_of_ble_eq_true rfl))⟩) hS hP (fun z15 H locs hz15 hP hS => ?_)
    obtain ⟨bz15, fez15⟩ := hz15
    refine lv_aload_n hx hb dX7_areLike_18 rfl (lv_at hl 0 rfl) ?_
    refine lv_iload_n hx hb dX7_areLike_19 rfl (lv_at hl 2 rfl) ?_
    refine ro_i (va_runV (As := [.int p2]) (rest := [.int z15]) ⟨hx, hb, hml, hown, hts⟩ (s_X7_high l dC dI cs L K G Q hQ x0 m0 tx tm H.size I J hI p0 hLp0 hKp0 p2 ⟨by omega, by omega⟩) (cwV 1 hts (gV pq1372 pq1374 pq33 pq81 pq1375) rfl rfl rfl (by decide +kernel) ⟨(by rw [hR]; exact (Nat.le_of_ble_eq_true rfl)), (by rw [hR]; exact (Nat.le_of_ble_eq_true rfl))⟩) (sP_V hP hD hK hN hLp0 hKp0 rfl rfl) rfl rfl hl.1 rfl (lv_room (Nat.le_of_ble_eq_true rfl)) dX7_areLike_20 ⟨(by rw [hR]; exact (Nat.le_of_ble_eq_true rfl)), (by rw [hR]; exact (Nat.le_of_ble_eq_true rfl))⟩) hS hP (fun z20 H locs hz20 hP hS => ?_)
    obtain ⟨bz20, fez20⟩ := hz20
    refine lv_icmp_eq (tgt := 28) hx hb dX7_areLike_23 (by decide) (fun c23 => ?_) (fun c23 => ?_)
    · have t23 := tq_eq (k := z15.toInt) (q := z20.toInt) c23 rfl rfl
      refine lv_iconst (v := 0) hx hb dX7_areLike_28 (by decide +kernel) ?_
      refine lv_istore (lv' := [(4, .int 0), (0, .ref p0), (1, .int p1), (2, .int p2), (3, .int p3)]) hx hb dX7_areLike_29 hl (by decide) rfl (fun ls hl => ?_)
      have key31 := blocks (fun n => ∀ (v31_4 : Int32) (H : Heap) (lo : List Loc) (ls : Array Slot), (41 - v31_4.toInt).toNat = n → ((0) ≤ v31_4.toInt ∧ v31_4.toInt ≤ 40) → (∀ c : Fx, okF c → rI Q I p0 c → rJ Q J p0 c → p1.toInt.toNat < (c.1 0).toInt.toNat → p2.toInt.toNat < (c.1 0).toInt.toNat → alQ c p1.toInt.toNat p2.toInt.toNat p3.toInt v31_4.toInt 0) → va_P (dC, dI) vwCl (Wd cs L K I J Q) H → va_S (fun _ => False) s.heap H lo → lv_has ls 6 [(0, .ref p0), (1, .int p1), (2, .int p2), (3, .int p3), (4, .int v31_4)] → W p l e R s m (([.ref p0, .int p1, .int p2, .int p3] : List Value).toArray) below meth c H lo 0 0 Qz (F0 m 31 ls [])) (by
        intro n ih31
        intro v31_4 H lo ls hmu31 bv31_4 g31 hP hS hl
        refine lv_iload hx hb dX7_areLike_31 (lv_at hl 4 rfl) ?_
        refine lv_aload_n hx hb dX7_areLike_33 rfl (lv_at hl 0 rfl) ?_
        refine lv_iload_n hx hb dX7_areLike_34 rfl (lv_at hl 1 rfl) ?_
        refine ro_i (va_runV (As := [.int p1]) (rest := [.int v31_4]) ⟨hx, hb, hml, hown, hts⟩ (s_X7_high l dC dI cs L K G Q hQ x0 m0 tx tm H.size I J hI p0 hLp0 hKp0 p1 ⟨by omega, by omega⟩) (cwV 1 hts (gV pq1372 pq1374 pq33 pq81 pq1375) rfl rfl rfl (by decide +kernel) ⟨(by rw [hR]; exact (Nat.le_of_ble_eq_true rfl)), (by rw [hR]; exact (Nat.le_of_ble_eq_true rfl))⟩) (sP_V hP hD hK hN hLp0 hKp0 rfl rfl) rfl rfl hl.1 rfl (lv_room (Nat.le_of_ble_eq_true rfl)) dX7_areLike_35 ⟨(by rw [hR]; exact (Nat.le_of_ble_eq_true rfl)), (by rw [hR]; exact (Nat.le_of_ble_eq_true rfl))⟩) hS hP (fun z35 H locs hz35 hP hS => ?_)
        obtain ⟨bz35, fez35⟩ := hz35
        obtain rfl : z15 = z35 := fez15.trans fez35.symm
        refine lv_icmp_ge (tgt := 127) hx hb dX7_areLike_38 (by decide) (fun c38 => ?_) (fun c38 => ?_)
        · have t38 := tq_le (k := z15.toInt) (q := v31_4.toInt) c38 rfl rfl
          refine lv_iconst (v := 1) hx hb dX7_areLike_127 (by decide +kernel) ?_
          subst hR; subst hQz
          exact W.zret (v := 1) hx hb hr (by decide +kernel) (fun t ht hW => ⟨⟨1, (), rfl, ⟨⟨by decide +kernel, by decide +kernel⟩, (fun c ok h hj hm ho => by have eW : z2 = c.1 (3 + p1.toInt.toNat) := (show z2 = I (a0 Q p0 0) (3 + p1.toInt.toNat) from fez2).trans (h _ (by omega)); have eW2 : z7 = c.1 (3 + p2.toInt.toNat) := (show z7 = I (a0 Q p0 0) (3 + p2.toInt.toNat) from fez7).trans (h _ (by omega)); have eH : z15 = c.1 (11 + p1.toInt.toNat) := (show z15 = I (a0 Q p0 0) (11 + p1.toInt.toNat) from fez15).trans (h _ (by omega)); have eH2 : z20 = c.1 (11 + p2.toInt.toNat) := (show z20 = I (a0 Q p0 0) (11 + p2.toInt.toNat) from fez20).trans (h _ (by omega)); have iW := congrArg Int32.toInt eW; have iH := congrArg Int32.toInt eH; have w : (c.1 (3 + p1.toInt.toNat) = c.1 (3 + p2.toInt.toNat) ∧ c.1 (11 + p1.toInt.toNat) = c.1 (11 + p2.toInt.toNat)) := ⟨by rw [← eW, ← eW2]; exact Int32.toInt_inj.mp t10, by rw [← eH, ← eH2]; exact Int32.toInt_inj.mp t23⟩; exact ⟨fun _ => al_end (g31 c ok h hj hm ho) (by omega) w (ok.2.2.1 _ hm), fun _ => by decide +kernel⟩)⟩, trivial⟩, hS.F ht⟩) hS.2.2 dX7_areLike_128
        · have t38 := tq_nle (k := z15.toInt) (q := v31_4.toInt) c38 rfl rfl
          refine lv_iconst (v := 0) hx hb dX7_areLike_41 (by decide +kernel) ?_
          refine lv_istore (lv' := [(5, .int 0), (0, .ref p0), (1, .int p1), (2, .int p2), (3, .int p3), (4, .int v31_4)]) hx hb dX7_areLike_42 hl (by decide) rfl (fun ls hl => ?_)
          have key44 := blocks (fun n => ∀ (v44_5 : Int32) (H : Heap) (lo : List Loc) (ls : Array Slot), (101 - v44_5.toInt).toNat = n → ((0) ≤ v44_5.toInt ∧ v44_5.toInt ≤ 100) → (∀ c : Fx, okF c → rI Q I p0 c → rJ Q J p0 c → p1.toInt.toNat < (c.1 0).toInt.toNat → p2.toInt.toNat < (c.1 0).toInt.toNat → alQ c p1.toInt.toNat p2.toInt.toNat p3.toInt v31_4.toInt v44_5.toInt) → va_P (dC, dI) vwCl (Wd cs L K I J Q) H → va_S (fun _ => False) s.heap H lo → lv_has ls 6 [(0, .ref p0), (1, .int p1), (2, .int p2), (3, .int p3), (4, .int v31_4), (5, .int v44_5)] → W p l e R s m (([.ref p0, .int p1, .int p2, .int p3] : List Value).toArray) below meth c H lo 0 0 Qz (F0 m 44 ls [])) (by
            intro n ih44
            intro v44_5 H lo ls hmu44 bv44_5 g44 hP hS hl
            refine lv_iload hx hb dX7_areLike_44 (lv_at hl 5 rfl) ?_
            refine lv_aload_n hx hb dX7_areLike_46 rfl (lv_at hl 0 rfl) ?_
            refine lv_iload_n hx hb dX7_areLike_47 rfl (lv_at hl 1 rfl) ?_
            refine ro_i (va_runV (As := [.int p1]) (rest := [.int v44_5]) ⟨hx, hb, hml, hown, hts⟩ (s_X7_wide l dC dI cs L K G Q hQ x0 m0 tx tm H.size I J hI p0 hLp0 hKp0 p1 ⟨by omega, by omega⟩) (cwV 1 hts (gV pq1368 pq1370 pq32 pq81 pq1371) rfl rfl rfl (by decide +kernel) ⟨(by rw [hR]; exact (Nat.le_of_ble_eq_true rfl)), (by rw [hR]; exact (Nat.le_of_ble_eq_true rfl))⟩) (sP_V hP hD hK hN hLp0 hKp0 rfl rfl) rfl rfl hl.1 rfl (lv_room (Nat.le_of_ble_eq_true rfl)) dX7_areLike_48 ⟨(by rw [hR]; exact (Nat.le_of_ble_eq_true rfl)), (by rw [hR]; exact (Nat.le_of_ble_eq_true rfl))⟩) hS hP (fun z48 H locs hz48 hP hS => ?_)
            obtain ⟨bz48, fez48⟩ := hz48
            obtain rfl : z2 = z48 := fez2.trans fez48.symm
            refine lv_icmp_ge (tgt := 121) hx hb dX7_areLike_51 (by decide) (fun c51 => ?_) (fun c51 => ?_)
            · have t51 := tq_le (k := z2.toInt) (q := v44_5.toInt) c51 rfl rfl
              obtain ⟨z121, ez121⟩ : ∃ y : Int32, y = v31_4 + 1 := ⟨_, rfl⟩
              refine lv_iinc (v := z121) (lv' := [(4, .int z121), (0, .ref p0), (1, .int p1), (2, .int p2), (3, .int p3), (5, .int v44_5)]) hx hb dX7_areLike_121 hl (k := 4) rfl (by rw [ez121]; rfl) (by decide) rfl (fun ls hl => ?_)
              have bz121 := tq_add (k := v31_4.toInt) (q := 1) ez121 rfl (by decide +kernel) (by omega) (by omega)
              refine lv_goto (tgt := 31) hx hb dX7_areLike_124 (by decide) ?_
              exact ih31 _ (by omega) z121 _ _ _ rfl ⟨by omega, by omega⟩ (fun c ok h hj hm ho => by have eW : z2 = c.1 (3 + p1.toInt.toNat) := (show z2 = I (a0 Q p0 0) (3 + p1.toInt.toNat) from fez2).trans (h _ (by omega)); have eW2 : z7 = c.1 (3 + p2.toInt.toNat) := (show z7 = I (a0 Q p0 0) (3 + p2.toInt.toNat) from fez7).trans (h _ (by omega)); have eH : z15 = c.1 (11 + p1.toInt.toNat) := (show z15 = I (a0 Q p0 0) (11 + p1.toInt.toNat) from fez15).trans (h _ (by omega)); have eH2 : z20 = c.1 (11 + p2.toInt.toNat) := (show z20 = I (a0 Q p0 0) (11 + p2.toInt.toNat) from fez20).trans (h _ (by omega)); have iW := congrArg Int32.toInt eW; have iH := congrArg Int32.toInt eH; have w : (c.1 (3 + p1.toInt.toNat) = c.1 (3 + p2.toInt.toNat) ∧ c.1 (11 + p1.toInt.toNat) = c.1 (11 + p2.toInt.toNat)) := ⟨by rw [← eW, ← eW2]; exact Int32.toInt_inj.mp t10, by rw [← eH, ← eH2]; exact Int32.toInt_inj.mp t23⟩; exact al_nl (g44 c ok h hj hm ho) (by omega) (by omega)) hP hS (lv_sub hl [1, 2, 3, 4, 0] rfl)
            · have t51 := tq_nle (k := z2.toInt) (q := v44_5.toInt) c51 rfl rfl
              refine lv_aload_n hx hb dX7_areLike_54 rfl (lv_at hl 0 rfl) ?_
              refine lv_iload_n hx hb dX7_areLike_55 rfl (lv_at hl 1 rfl) ?_
              refine lv_iload hx hb dX7_areLike_56 (lv_at hl 5 rfl) ?_
              refine lv_iload hx hb dX7_areLike_58 (lv_at hl 4 rfl) ?_
              refine ro_i (va_runV (As := [.int p1, .int v44_5, .int v31_4]) (rest := []) ⟨hx, hb, hml, hown, hts⟩ (s_X7_has l dC dI cs L K G Q hQ x0 m0 tx tm H.size I J hI p0 hLp0 hKp0 p1 ⟨by omega, by omega⟩ v44_5 v31_4) (cwV 3 hts (gV pq1376 pq1378 pq34 pq81 pq1379) rfl rfl rfl (by decide +kernel) ⟨(by rw [hR]; exact (Nat.le_of_ble_eq_true rfl)), (by rw [hR]; exact (Nat.le_of_ble_eq_true rfl))⟩) (sP_V hP hD hK hN hLp0 hKp0 rfl rfl) rfl rfl hl.1 rfl (lv_room (Nat.le_of_ble_eq_true rfl)) dX7_areLike_60 ⟨(by rw [hR]; exact (Nat.le_of_ble_eq_true rfl)), (by rw [hR]; exact (Nat.le_of_ble_eq_true rfl))⟩) hS hP (fun z60 H locs hz60 hP hS => ?_)
              obtain ⟨bz60, imz60, xpz60⟩ := hz60
              refine lv_aload_n hx hb dX7_areLike_63 rfl (lv_at hl 0 rfl) ?_
              refine lv_iload_n hx hb dX7_areLike_64 rfl (lv_at hl 2 rfl) ?_
              refine lv_iload_n hx hb dX7_areLike_65 rfl (lv_at hl 3 rfl) ?_
              refine lv_iconst (v := 2) hx hb dX7_areLike_66 (by decide +kernel) ?_
              refine lv_irem hx hb dX7_areLike_67 (by decide +kernel) ?_
              refine lv_topi (fun z67 ez67 => ?_)
              have bz67 := tq_rem (k := 2) ez67 (by decide +kernel) (by omega) (by omega)
              refine lv_iconst (v := 1) hx hb dX7_areLike_68 (by decide +kernel) ?_
              have j87 : ∀ (w87_3 : Int32) (H : Heap) (lo : List Loc) (ls : Array Slot), ((-99) ≤ w87_3.toInt ∧ w87_3.toInt ≤ 99) → (w87_3.toInt = flx z2.toInt p3.toInt v44_5.toInt) → va_P (dC, dI) vwCl (Wd cs L K I J Q) H → va_S (fun _ => False) s.heap H lo → lv_has ls 6 [(0, .ref p0), (1, .int p1), (2, .int p2), (3, .int p3), (4, .int v31_4), (5, .int v44_5)] → W p l e R s m (([.ref p0, .int p1, .int p2, .int p3] : List Value).toArray) below meth c H lo 0 0 Qz (F0 m 87 ls [.int w87_3, .int p2, .ref p0, .int z60]) := by
                intro w87_3 H lo ls bw87_3 g87 hP hS hl
                refine lv_iload_n hx hb dX7_areLike_87 rfl (lv_at hl 3 rfl) ?_
                refine lv_iconst (v := 1) hx hb dX7_areLike_88 (by decide +kernel) ?_
                have j107 : ∀ (w107_4 : Int32) (H : Heap) (lo : List Loc) (ls : Array Slot), ((-39) ≤ w107_4.toInt ∧ w107_4.toInt ≤ 39) → (w107_4.toInt = fly z15.toInt p3.toInt v31_4.toInt) → va_P (dC, dI) vwCl (Wd cs L K I J Q) H → va_S (fun _ => False) s.heap H lo → lv_has ls 6 [(0, .ref p0), (1, .int p1), (2, .int p2), (3, .int p3), (4, .int v31_4), (5, .int v44_5)] → W p l e R s m (([.ref p0, .int p1, .int p2, .int p3] : List Value).toArray) below meth c H lo 0 0 Qz (F0 m 107 ls [.int w107_4, .int w87_3, .int p2, .ref p0, .int z60]) := by
                  intro w107_4 H lo ls bw107_4 g107 hP hS hl
                  refine ro_i (va_runV (As := [.int p2, .int w87_3, .int w107_4]) (rest := [.int z60]) ⟨hx, hb, hml, hown, hts⟩ (s_X7_has l dC dI cs L K G Q hQ x0 m0 tx tm H.size I J hI p0 hLp0 hKp0 p2 ⟨by omega, by omega⟩ w87_3 w107_4) (cwV 3 hts (gV pq1376 pq1378 pq34 pq81 pq1379) rfl rfl rfl (by decide +kernel) ⟨(by rw [hR]; exact (Nat.le_of_ble_eq_true rfl)), (by rw [hR]; exact (Nat.le_of_ble_eq_true rfl))⟩) (sP_V hP hD hK hN hLp0 hKp0 rfl rfl) rfl rfl hl.1 rfl (lv_room (Nat.le_of_ble_eq_true rfl)) dX7_areLike_107 ⟨(by rw [hR]; exact (Nat.le_of_ble_eq_true rfl)), (by rw [hR]; exact (Nat.le_of_ble_eq_true rfl))⟩) hS hP (fun z107 H locs hz107 hP hS => ?_)
                  obtain ⟨bz107, imz107, xpz107⟩ := hz107
                  refine lv_icmp_eq (tgt := 115) hx hb dX7_areLike_110 (by decide) (fun c110 => ?_) (fun c110 => ?_)
                  · have t110 := tq_eq (k := z60.toInt) (q := z107.toInt) c110 rfl rfl
                    obtain ⟨z115, ez115⟩ : ∃ y : Int32, y = v44_5 + 1 := ⟨_, rfl⟩
                    refine lv_iinc (v := z115) (lv' := [(5, .int z115), (0, .ref p0), (1, .int p1), (2, .int p2), (3, .int p3), (4, .int v31_4)]) hx hb dX7_areLike_115 hl (k := 5) rfl (by rw [ez115]; rfl) (by decide) rfl (fun ls hl => ?_)
                    have bz115 := tq_add (k := v44_5.toInt) (q := 1) ez115 rfl (by decide +kernel) (by omega) (by omega)
                    refine lv_goto (tgt := 44) hx hb dX7_areLike_118 (by decide) ?_
                    exact ih44 _ (by omega) z115 _ _ _ rfl ⟨by omega, by omega⟩ (fun c ok h hj hm ho => by have eW : z2 = c.1 (3 + p1.toInt.toNat) := (show z2 = I (a0 Q p0 0) (3 + p1.toInt.toNat) from fez2).trans (h _ (by omega)); have eW2 : z7 = c.1 (3 + p2.toInt.toNat) := (show z7 = I (a0 Q p0 0) (3 + p2.toInt.toNat) from fez7).trans (h _ (by omega)); have eH : z15 = c.1 (11 + p1.toInt.toNat) := (show z15 = I (a0 Q p0 0) (11 + p1.toInt.toNat) from fez15).trans (h _ (by omega)); have eH2 : z20 = c.1 (11 + p2.toInt.toNat) := (show z20 = I (a0 Q p0 0) (11 + p2.toInt.toNat) from fez20).trans (h _ (by omega)); have iW := congrArg Int32.toInt eW; have iH := congrArg Int32.toInt eH; have w : (c.1 (3 + p1.toInt.toNat) = c.1 (3 + p2.toInt.toNat) ∧ c.1 (11 + p1.toInt.toNat) = c.1 (11 + p2.toInt.toNat)) := ⟨by rw [← eW, ← eW2]; exact Int32.toInt_inj.mp t10, by rw [← eH, ← eH2]; exact Int32.toInt_inj.mp t23⟩; have q60 : z60.toInt = bi (md (mo c.2 p1.toInt.toNat) v44_5.toInt v31_4.toInt) := (by rw [xpz60, hs_congr (f := rF Q J p0 p1.toInt.toNat) (g := mo c.2 p1.toInt.toNat) (congrArg Int32.toInt (h (3 + p1.toInt.toNat) (by omega))) (congrArg Int32.toInt (h (11 + p1.toInt.toNat) (by omega))) (fun k hk => hj (80 * p1.toInt.toNat + k) (by omega)), hs_of (ok.2.2.1 _ hm).2.2]); have q107 : z107.toInt = bi (flipD (c.1 (3 + p2.toInt.toNat)).toInt (c.1 (11 + p2.toInt.toNat)).toInt p3.toInt (mo c.2 p2.toInt.toNat) v44_5.toInt v31_4.toInt) := (by rw [xpz107, hs_congr (f := rF Q J p0 p2.toInt.toNat) (g := mo c.2 p2.toInt.toNat) (congrArg Int32.toInt (h (3 + p2.toInt.toNat) (by omega))) (congrArg Int32.toInt (h (11 + p2.toInt.toNat) (by omega))) (fun k hk => hj (80 * p2.toInt.toNat + k) (by omega)), g87, g107, eW, eH]; exact congrArg bi (al_v w ⟨by omega, by omega⟩ ⟨by omega, by omega⟩)); exact al_st (g44 c ok h hj hm ho) (bi_inj (by rw [← q60, ← q107]; exact t110)) (by omega)) hP hS (lv_sub hl [1, 2, 3, 4, 5, 0] rfl)
                  · have t110 := tq_ne (k := z60.toInt) (q := z107.toInt) c110 rfl rfl
                    refine lv_iconst (v := 0) hx hb dX7_areLike_113 (by decide +kernel) ?_
                    subst hR; subst hQz
                    exact W.zret (v := 0) hx hb hr (by decide +kernel) (fun t ht hW => ⟨⟨0, (), rfl, ⟨⟨by decide +kernel, by decide +kernel⟩, (fun c ok h hj hm ho => by refine ⟨fun q => absurd (by decide +kernel) q, fun q => ?_⟩; have eW : z2 = c.1 (3 + p1.toInt.toNat) := (show z2 = I (a0 Q p0 0) (3 + p1.toInt.toNat) from fez2).trans (h _ (by omega)); have eW2 : z7 = c.1 (3 + p2.toInt.toNat) := (show z7 = I (a0 Q p0 0) (3 + p2.toInt.toNat) from fez7).trans (h _ (by omega)); first | exact absurd (by rw [eW, eW2, q.1.1]) t10 | (have eH : z15 = c.1 (11 + p1.toInt.toNat) := (show z15 = I (a0 Q p0 0) (11 + p1.toInt.toNat) from fez15).trans (h _ (by omega)); have eH2 : z20 = c.1 (11 + p2.toInt.toNat) := (show z20 = I (a0 Q p0 0) (11 + p2.toInt.toNat) from fez20).trans (h _ (by omega)); exact absurd (by rw [eH, eH2, q.1.2]) t23) | (have eH : z15 = c.1 (11 + p1.toInt.toNat) := (show z15 = I (a0 Q p0 0) (11 + p1.toInt.toNat) from fez15).trans (h _ (by omega)); have eH2 : z20 = c.1 (11 + p2.toInt.toNat) := (show z20 = I (a0 Q p0 0) (11 + p2.toInt.toNat) from fez20).trans (h _ (by omega)); have iW := congrArg Int32.toInt eW; have iH := congrArg Int32.toInt eH; have w : (c.1 (3 + p1.toInt.toNat) = c.1 (3 + p2.toInt.toNat) ∧ c.1 (11 + p1.toInt.toNat) = c.1 (11 + p2.toInt.toNat)) := ⟨by rw [← eW, ← eW2]; exact Int32.toInt_inj.mp t10, by rw [← eH, ← eH2]; exact Int32.toInt_inj.mp t23⟩; have q60 : z60.toInt = bi (md (mo c.2 p1.toInt.toNat) v44_5.toInt v31_4.toInt) := (by rw [xpz60, hs_congr (f := rF Q J p0 p1.toInt.toNat) (g := mo c.2 p1.toInt.toNat) (congrArg Int32.toInt (h (3 + p1.toInt.toNat) (by omega))) (congrArg Int32.toInt (h (11 + p1.toInt.toNat) (by omega))) (fun k hk => hj (80 * p1.toInt.toNat + k) (by omega)), hs_of (ok.2.2.1 _ hm).2.2]); have q107 : z107.toInt = bi (flipD (c.1 (3 + p2.toInt.toNat)).toInt (c.1 (11 + p2.toInt.toNat)).toInt p3.toInt (mo c.2 p2.toInt.toNat) v44_5.toInt v31_4.toInt) := (by rw [xpz107, hs_congr (f := rF Q J p0 p2.toInt.toNat) (g := mo c.2 p2.toInt.toNat) (congrArg Int32.toInt (h (3 + p2.toInt.toNat) (by omega))) (congrArg Int32.toInt (h (11 + p2.toInt.toNat) (by omega))) (fun k hk => hj (80 * p2.toInt.toNat + k) (by omega)), g87, g107, eW, eH]; exact congrArg bi (al_v w ⟨by omega, by omega⟩ ⟨by omega, by omega⟩)); exact absurd (by rw [q60, q107, q.2]) t110))⟩, trivial⟩, hS.F ht⟩) hS.2.2 dX7_areLike_114
                refine lv_icmp_le (tgt := 105) hx hb dX7_areLike_89 (by decide) (fun c89 => ?_) (fun c89 => ?_)
                · have t89 := tq_le (k := p3.toInt) (q := (1)) c89 rfl (by decide +kernel)
                  refine lv_iload hx hb dX7_areLike_105 (lv_at hl 4 rfl) ?_
                  exact j107 v31_4 _ _ _ ⟨by omega, by omega⟩ (by unfold fly; rw [if_neg (by omega)]) hP hS (lv_sub hl [0, 1, 2, 3, 4, 5] rfl)
                · have t89 := tq_nle (k := p3.toInt) (q := (1)) c89 rfl (by decide +kernel)
                  refine lv_aload_n hx hb dX7_areLike_92 rfl (lv_at hl 0 rfl) ?_
                  refine lv_iload_n hx hb dX7_areLike_93 rfl (lv_at hl 1 rfl) ?_
                  refine ro_i (va_runV (As := [.int p1]) (rest := [.int w87_3, .int p2, .ref p0, .int z60]) ⟨hx, hb, hml, hown, hts⟩ (s_X7_high l dC dI cs L K G Q hQ x0 m0 tx tm H.size I J hI p0 hLp0 hKp0 p1 ⟨by omega, by omega⟩) (cwV 1 hts (gV pq1372 pq1374 pq33 pq81 pq1375) rfl rfl rfl (by decide +kernel) ⟨(by rw [hR]; exact (Nat.le_of_ble_eq_true rfl)), (by rw [hR]; exact (Nat.le_of_ble_eq_true rfl))⟩) (sP_V hP hD hK hN hLp0 hKp0 rfl rfl) rfl rfl hl.1 rfl (lv_room (Nat.le_of_ble_eq_true rfl)) dX7_areLike_94 ⟨(by rw [hR]; exact (Nat.le_of_ble_eq_true rfl)), (by rw [hR]; exact (Nat.le_of_ble_eq_true rfl))⟩) hS hP (fun z94 H locs hz94 hP hS => ?_)
                  obtain ⟨bz94, fez94⟩ := hz94
                  obtain rfl : z15 = z94 := fez15.trans fez94.symm
                  refine lv_iconst (v := 1) hx hb dX7_areLike_97 (by decide +kernel) ?_
                  refine lv_isub hx hb dX7_areLike_98 ?_
                  refine lv_topi (fun z98 ez98 => ?_)
                  have bz98 := tq_sub (k := z15.toInt) (q := (1)) ez98 rfl (by decide +kernel) (by omega) (by omega)
                  refine lv_iload hx hb dX7_areLike_99 (lv_at hl 4 rfl) ?_
                  refine lv_isub hx hb dX7_areLike_101 ?_
                  refine lv_topi (fun z101 ez101 => ?_)
                  have bz101 := tq_sub (k := z98.toInt) (q := v31_4.toInt) ez101 rfl rfl (by omega) (by omega)
                  refine lv_goto (tgt := 107) hx hb dX7_areLike_102 (by decide) ?_
                  exact j107 z101 _ _ _ ⟨by omega, by omega⟩ (by unfold fly; rw [if_pos (by omega)]; omega) hP hS (lv_sub hl [0, 1, 2, 3, 4, 5] rfl)
              refine lv_icmp_ne (tgt := 85) hx hb dX7_areLike_69 (by decide) (fun c69 => ?_) (fun c69 => ?_)
              · have t69 := tq_ne (k := z67.toInt) (q := (1)) c69 rfl (by decide +kernel)
                refine lv_iload hx hb dX7_areLike_85 (lv_at hl 5 rfl) ?_
                exact j87 v44_5 _ _ _ ⟨by omega, by omega⟩ (by unfold flx; rw [if_neg (fun q => t69 (by rw [tq_rem (k := 2) ez67 (by decide +kernel) (by decide) bp3.1]; exact q))]) hP hS (lv_sub hl [0, 1, 2, 3, 4, 5] rfl)
              · have t69 := tq_eq (k := z67.toInt) (q := (1)) c69 rfl (by decide +kernel)
                refine lv_aload_n hx hb dX7_areLike_72 rfl (lv_at hl 0 rfl) ?_
                refine lv_iload_n hx hb dX7_areLike_73 rfl (lv_at hl 1 rfl) ?_
                refine ro_i (va_runV (As := [.int p1]) (rest := [.int p2, .ref p0, .int z60]) ⟨hx, hb, hml, hown, hts⟩ (s_X7_wide l dC dI cs L K G Q hQ x0 m0 tx tm H.size I J hI p0 hLp0 hKp0 p1 ⟨by omega, by omega⟩) (cwV 1 hts (gV pq1368 pq1370 pq32 pq81 pq1371) rfl rfl rfl (by decide +kernel) ⟨(by rw [hR]; exact (Nat.le_of_ble_eq_true rfl)), (by rw [hR]; exact (Nat.le_of_ble_eq_true rfl))⟩) (sP_V hP hD hK hN hLp0 hKp0 rfl rfl) rfl rfl hl.1 rfl (lv_room (Nat.le_of_ble_eq_true rfl)) dX7_areLike_74 ⟨(by rw [hR]; exact (Nat.le_of_ble_eq_true rfl)), (by rw [hR]; exact (Nat.le_of_ble_eq_true rfl))⟩) hS hP (fun z74 H locs hz74 hP hS => ?_)
                obtain ⟨bz74, fez74⟩ := hz74
                obtain rfl : z2 = z74 := fez2.trans fez74.symm
                refine lv_iconst (v := 1) hx hb dX7_areLike_77 (by decide +kernel) ?_
                refine lv_isub hx hb dX7_areLike_78 ?_
                refine lv_topi (fun z78 ez78 => ?_)
                have bz78 := tq_sub (k := z2.toInt) (q := (1)) ez78 rfl (by decide +kernel) (by omega) (by omega)
                refine lv_iload hx hb dX7_areLike_79 (lv_at hl 5 rfl) ?_
                refine lv_isub hx hb dX7_areLike_81 ?_
                refine lv_topi (fun z81 ez81 => ?_)
                have bz81 := tq_sub (k := z78.toInt) (q := v44_5.toInt) ez81 rfl rfl (by omega) (by omega)
                refine lv_goto (tgt := 87) hx hb dX7_areLike_82 (by decide) ?_
                exact j87 z81 _ _ _ ⟨by omega, by omega⟩ (by unfold flx; rw [if_pos (by have q := t69; rw [tq_rem (k := 2) ez67 (by decide +kernel) (by decide) bp3.1] at q; exact q)]; omega) hP hS (lv_sub hl [0, 1, 2, 3, 4, 5] rfl))
          exact key44 _ 0 _ _ _ rfl ⟨by decide +kernel, by decide +kernel⟩ (fun c ok h hj hm ho => by rw [show (0 : Int32).toInt = 0 from by decide +kernel]; exact g31 c ok h hj hm ho) hP hS (lv_sub hl [1, 2, 3, 4, 5, 0] rfl))
      exact key31 _ 0 _ _ _ rfl ⟨by decide +kernel, by decide +kernel⟩ (fun c ok h hj hm ho => by rw [show (0 : Int32).toInt = 0 from by decide +kernel]; exact al_0) hP hS (lv_sub hl [1, 2, 3, 4, 0] rfl)
    · have t23 := tq_ne (k := z15.toInt) (q := z20.toInt) c23 rfl rfl
      refine lv_iconst (v := 0) hx hb dX7_areLike_26 (by decide +kernel) ?_
      subst hR; subst hQz
      exact W.zret (v := 0) hx hb hr (by decide +kernel) (fun t ht hW => ⟨⟨0, (), rfl, ⟨⟨by decide +kernel, by decide +kernel⟩, (fun c ok h hj hm ho => by refine ⟨fun q => absurd (by decide +kernel) q, fun q => ?_⟩; have eW : z2 = c.1 (3 + p1.toInt.toNat) := (show z2 = I (a0 Q p0 0) (3 + p1.toInt.toNat) from fez2).trans (h _ (by omega)); have eW2 : z7 = c.1 (3 + p2.toInt.toNat) := (show z7 = I (a0 Q p0 0) (3 + p2.toInt.toNat) from fez7).trans (h _ (by omega)); first | exact absurd (by rw [eW, eW2, q.1.1]) t10 | (have eH : z15 = c.1 (11 + p1.toInt.toNat) := (show z15 = I (a0 Q p0 0) (11 + p1.toInt.toNat) from fez15).trans (h _ (by omega)); have eH2 : z20 = c.1 (11 + p2.toInt.toNat) := (show z20 = I (a0 Q p0 0) (11 + p2.toInt.toNat) from fez20).trans (h _ (by omega)); exact absurd (by rw [eH, eH2, q.1.2]) t23) | (have eH : z15 = c.1 (11 + p1.toInt.toNat) := (show z15 = I (a0 Q p0 0) (11 + p1.toInt.toNat) from fez15).trans (h _ (by omega)); have eH2 : z20 = c.1 (11 + p2.toInt.toNat) := (show z20 = I (a0 Q p0 0) (11 + p2.toInt.toNat) from fez20).trans (h _ (by omega)); have iW := congrArg Int32.toInt eW; have iH := congrArg Int32.toInt eH; have w : (c.1 (3 + p1.toInt.toNat) = c.1 (3 + p2.toInt.toNat) ∧ c.1 (11 + p1.toInt.toNat) = c.1 (11 + p2.toInt.toNat)) := ⟨by rw [← eW, ← eW2]; exact Int32.toInt_inj.mp t10, by rw [← eH, ← eH2]; exact Int32.toInt_inj.mp t23⟩; have q60 : z60.toInt = bi (md (mo c.2 p1.toInt.toNat) v44_5.toInt v31_4.toInt) := (by rw [xpz60, hs_congr (f := rF Q J p0 p1.toInt.toNat) (g := mo c.2 p1.toInt.toNat) (congrArg Int32.toInt (h (3 + p1.toInt.toNat) (by omega))) (congrArg Int32.toInt (h (11 + p1.toInt.toNat) (by omega))) (fun k hk => hj (80 * p1.toInt.toNat + k) (by omega)), hs_of (ok.2.2.1 _ hm).2.2]); have q107 : z107.toInt = bi (flipD (c.1 (3 + p2.toInt.toNat)).toInt (c.1 (11 + p2.toInt.toNat)).toInt p3.toInt (mo c.2 p2.toInt.toNat) v44_5.toInt v31_4.toInt) := (by rw [xpz107, hs_congr (f := rF Q J p0 p2.toInt.toNat) (g := mo c.2 p2.toInt.toNat) (congrArg Int32.toInt (h (3 + p2.toInt.toNat) (by omega))) (congrArg Int32.toInt (h (11 + p2.toInt.toNat) (by omega))) (fun k hk => hj (80 * p2.toInt.toNat + k) (by omega)), g87, g107, eW, eH]; exact congrArg bi (al_v w ⟨by omega, by omega⟩ ⟨by omega, by omega⟩)); exact absurd (by rw [q60, q107, q.2]) t110))⟩, trivial⟩, hS.F ht⟩) hS.2.2 dX7_areLike_27

set_option maxHeartbeats 4000000 in
set_option maxRecDepth 100000 in
theorem s_X7_like (l : Launch) (dC : Nat → ClassId) (dI : Nat → Nat → Nat) (cs : Nat → ClassId) (L : List Nat) (K G : Nat → Nat) (Q : Nat → Nat → Option Nat) (hQ : Sv L K G Q) (x0 m0 : Nat) (tx : GT) (tm : GT × Int) (sz : Nat) (I : Nat → Nat → Int32) (J : Nat → Nat → Int64) (hI : Iv L K x0 m0 tx tm I) (p0 : Nat) (hLp0 : p0 ∈ L) (hKp0 : K p0 = 7) (p1 : Int32) : Met l yX7_like (.code yX7_like cX7_like 4 (some .int) :: pw) ({ frames := 3, cells := 0, slots := 0, locals := 73 }) (sP (dC, dI) cs [.ref p0, .int p1] sz L K I J Q) (va_Qi (fun (r : Int32) (_ : Unit) => (∀ σ : Sx, okF σ.1 → cmA Q I J p0 σ → lkR σ p1 r)) (fun _ _ => True) (fun _ => False)) 0 0 (fun _ => False) := by
  refine Met.ofW (cc := cX7_like) (maxL := 4) (ret := (some .int)) (by decide +kernel) rfl ?_
  intro p e s m args below meth c s₁ B hml hv
  obtain ⟨rfl, hsz, hP, hK, hD0, hN⟩ := hv
  have hx := B.exec
  have hb := B.bytes
  have hr := B.returns
  have hts := fun w (h : w ∈ pw) => atoms_spec (ws := Cond.code yX7_like cX7_like 4 (some .int) :: pw) B.pre w (List.mem_cons_of_mem _ h)
  have hown : s.vm.findClass RX7 = some m.cls := findClass_of_methodNamed B.named
  have hlocks := B.notSynchronized
  subst hsz
  have hBB : 999 ≤ tm.2 ∧ tm.2 ≤ 6000000 := hI.2.2.2.2.1
  have hD := hD0
  obtain ⟨H, hHe⟩ : ∃ H : Heap, H = s.heap := ⟨_, rfl⟩
  have hS : va_S (fun _ => False) s.heap H [] := by rw [hHe]; exact va_S.rf
  rw [← hHe] at hP
  have hl := lv_entry ([.ref p0, .int p1]) (n := 4) (Nat.le_of_ble_eq_true rfl)
  rw [lg_entry_eq]
  generalize (lg_sl ([.ref p0, .int p1]) ++ List.replicate (4 - (lg_sl ([.ref p0, .int p1])).length) Slot.unset).toArray = ls at hl ⊢
  have hl : lv_has ls 4 [(0, .ref p0), (1, .int p1)] := hl
  rw [← hHe]
  refine namedW (fun R Qz hR hQz => ?_)
  refine lv_aload_n hx hb dX7_like_0 rfl (lv_at hl 0 rfl) ?_
  refine lv_iload_n hx hb dX7_like_1 rfl (lv_at hl 1 rfl) ?_
  refine ro_i (va_runV (As := [.int p1]) (rest := []) ⟨hx, hb, hml, hown, hts⟩ (s_X7_isMask l dC dI cs L K G Q hQ x0 m0 tx tm H.size I J hI p0 hLp0 hKp0 p1) (cwV 1 hts (gV pq1364 pq1366 pq31 pq81 pq1367) rfl rfl rfl (by decide +kernel) ⟨(by rw [hR]; exact (Nat.le_of_ble_eq_true rfl)), (by rw [hR]; exact (Nat.le_of_ble_eq_true rfl))⟩) (sP_V hP hD hK hN hLp0 hKp0 rfl rfl) rfl rfl hl.1 rfl (lv_room (Nat.le_of_ble_eq_true rfl)) dX7_like_2 ⟨(by rw [hR]; exact (Nat.le_of_ble_eq_true rfl)), (by rw [hR]; exact (Nat.le_of_ble_eq_true rfl))⟩) hS hP (fun z2 H locs hz2 hP hS => ?_)
  obtain ⟨bz2, imz2, xpz2⟩ := hz2
  refine lv_if_ne (tgt := 10) hx hb dX7_like_5 (by decide) (fun c5 => ?_) (fun c5 => ?_)
  · have t5 := tq_ne (k := z2.toInt) (q := (0)) c5 rfl (by decide +kernel)
    have i5 := imz2 t5
    refine lv_iconst (v := 0) hx hb dX7_like_10 (by decide +kernel) ?_
    refine lv_istore_n (lv' := [(2, .int 0), (0, .ref p0), (1, .int p1)]) hx hb dX7_like_11 rfl hl (by decide) rfl (fun ls hl => ?_)
    refine lv_iconst (v := 0) hx hb dX7_like_12 (by decide +kernel) ?_
    refine lv_istore_n (lv' := [(3, .int 0), (2, .int 0), (0, .ref p0), (1, .int p1)]) hx hb dX7_like_13 rfl hl (by decide) rfl (fun ls hl => ?_)
    have key14 := blocks (fun n => ∀ (v14_2 : Int32) (v14_3 : Int32) (H : Heap) (lo : List Loc) (ls : Array Slot), (5 - v14_3.toInt).toNat = n → ((0) ≤ v14_3.toInt ∧ v14_3.toInt ≤ 4) → (∀ σ : Sx, okF σ.1 → cmA Q I J p0 σ → ∀ o : Nat, hbt v14_2 o = true ↔ o < v14_3.toInt.toNat ∧ alM σ.1 p1.toInt.toNat p1.toInt.toNat (o : Int)) → va_P (dC, dI) vwCl (Wd cs L K I J Q) H → va_S (fun _ => False) s.heap H lo → lv_has ls 4 [(0, .ref p0), (1, .int p1), (2, .int v14_2), (3, .int v14_3)] → W p l e R s m (([.ref p0, .int p1] : List Value).toArray) below meth c H lo 0 0 Qz (F0 m 14 ls [])) (by
      intro n ih14
      intro v14_2 v14_3 H lo ls hmu14 bv14_3 g14 hP hS hl
      refine lv_iload_n hx hb dX7_like_14 rfl (lv_at hl 3 rfl) ?_
      refine lv_iconst (v := 4) hx hb dX7_like_15 (by decide +kernel) ?_
      refine lv_icmp_ge (tgt := 45) hx hb dX7_like_16 (by decide) (fun c16 => ?_) (fun c16 => ?_)
      · have t16 := tq_le (k := (4)) (q := v14_3.toInt) c16 (by decide +kernel) rfl
        refine lv_iload_n hx hb dX7_like_45 rfl (lv_at hl 2 rfl) ?_
        subst hR; subst hQz
        exact W.iret (v := v14_2) hx hb hr (fun t ht hW => ⟨⟨v14_2, (), rfl, (fun σ ok h => by have q := xpz2.1 t5; rw [cm_0 h] at q; exact ⟨fun _ o => (by have e : v14_3.toInt.toNat = 4 := (by omega); have g := g14 σ ok h o; rw [e] at g; exact g), fun w => absurd q w⟩), trivial⟩, hS.F ht⟩) hS.2.2 dX7_like_46
      · have t16 := tq_nle (k := (4)) (q := v14_3.toInt) c16 (by decide +kernel) rfl
        refine lv_iload_n hx hb dX7_like_19 rfl (lv_at hl 2 rfl) ?_
        refine lv_aload_n hx hb dX7_like_20 rfl (lv_at hl 0 rfl) ?_
        refine lv_iload_n hx hb dX7_like_21 rfl (lv_at hl 1 rfl) ?_
        refine lv_iload_n hx hb dX7_like_22 rfl (lv_at hl 1 rfl) ?_
        refine lv_iload_n hx hb dX7_like_23 rfl (lv_at hl 3 rfl) ?_
        refine ro_i (va_runV (As := [.int p1, .int p1, .int v14_3]) (rest := [.int v14_2]) ⟨hx, hb, hml, hown, hts⟩ (s_X7_areLike l dC dI cs L K G Q hQ x0 m0 tx tm H.size I J hI p0 hLp0 hKp0 p1 ⟨by omega, by omega⟩ p1 ⟨by omega, by omega⟩ v14_3 ⟨by omega, by omega⟩) (cwV 3 hts (gV pq1670 pq1672 pq69 pq81 pq1673) rfl rfl rfl (by decide +kernel) ⟨(by rw [hR]; exact (Nat.le_of_ble_eq_true rfl)), (by rw [hR]; exact (Nat.le_of_ble_eq_true rfl))⟩) (sP_V hP hD hK hN hLp0 hKp0 rfl rfl) rfl rfl hl.1 rfl (lv_room (Nat.le_of_ble_eq_true rfl)) dX7_like_24 ⟨(by rw [hR]; exact (Nat.le_of_ble_eq_true rfl)), (by rw [hR]; exact (Nat.le_of_ble_eq_true rfl))⟩) hS hP (fun z24 H locs hz24 hP hS => ?_)
        obtain ⟨bz24, xpz24⟩ := hz24
        have j37 : ∀ (w37_1 : Int32) (H : Heap) (lo : List Loc) (ls : Array Slot), ((z24.toInt = 0 ∧ w37_1 = 0) ∨ (¬ z24.toInt = 0 ∧ ∀ o, hbt w37_1 o = decide (o = v14_3.toInt.toNat))) → va_P (dC, dI) vwCl (Wd cs L K I J Q) H → va_S (fun _ => False) s.heap H lo → lv_has ls 4 [(0, .ref p0), (1, .int p1), (2, .int v14_2), (3, .int v14_3)] → W p l e R s m (([.ref p0, .int p1] : List Value).toArray) below meth c H lo 0 0 Qz (F0 m 37 ls [.int w37_1, .int v14_2]) := by
          intro w37_1 H lo ls h37 hP hS hl
          refine lv_ior hx hb dX7_like_37 ?_
          refine lv_topi (fun z37 ez37 => ?_)
          refine lv_istore_n (lv' := [(2, .int z37), (0, .ref p0), (1, .int p1), (3, .int v14_3)]) hx hb dX7_like_38 rfl hl (by decide) rfl (fun ls hl => ?_)
          obtain ⟨z39, ez39⟩ : ∃ y : Int32, y = v14_3 + 1 := ⟨_, rfl⟩
          refine lv_iinc (v := z39) (lv' := [(3, .int z39), (2, .int z37), (0, .ref p0), (1, .int p1)]) hx hb dX7_like_39 hl (k := 3) rfl (by rw [ez39]; rfl) (by decide) rfl (fun ls hl => ?_)
          have bz39 := tq_add (k := v14_3.toInt) (q := 1) ez39 rfl (by decide +kernel) (by omega) (by omega)
          refine lv_goto (tgt := 14) hx hb dX7_like_42 (by decide) ?_
          exact ih14 _ (by omega) z37 z39 _ _ _ rfl ⟨by omega, by omega⟩ (fun σ ok h => by have q := xpz2.1 t5; rw [cm_0 h] at q; have w := xpz24 σ.1 ok (cmA_rI h) (cmA_rJ h) (by omega) (by omega); rw [show v14_3.toInt = ((v14_3.toInt.toNat : Nat) : Int) by omega] at w; exact h37.elim (fun q => bt_no (P := fun o : Nat => alM σ.1 p1.toInt.toNat p1.toInt.toNat (o : Int)) (by rw [ez37, q.2, Int32.or_zero]; exact g14 σ ok h) (by omega) (fun r => (w.mpr r) q.1)) (fun q => bt_yes (P := fun o : Nat => alM σ.1 p1.toInt.toNat p1.toInt.toNat (o : Int)) (g14 σ ok h) (by omega) (fun o => by rw [hb_or ez37, q.2]) (w.mp q.1))) hP hS (lv_sub hl [2, 3, 1, 0] rfl)
        refine lv_if_eq (tgt := 36) hx hb dX7_like_27 (by decide) (fun c27 => ?_) (fun c27 => ?_)
        · have t27 := tq_eq (k := z24.toInt) (q := (0)) c27 rfl (by decide +kernel)
          refine lv_iconst (v := 0) hx hb dX7_like_36 (by decide +kernel) ?_
          exact j37 0 _ _ _ (Or.inl ⟨t27, rfl⟩) hP hS (lv_sub hl [0, 1, 2, 3] rfl)
        · have t27 := tq_ne (k := z24.toInt) (q := (0)) c27 rfl (by decide +kernel)
          refine lv_iconst (v := 1) hx hb dX7_like_30 (by decide +kernel) ?_
          refine lv_iload_n hx hb dX7_like_31 rfl (lv_at hl 3 rfl) ?_
          refine lv_ishl hx hb dX7_like_32 ?_
          refine lv_topi (fun z32 ez32 => ?_)
          refine lv_goto (tgt := 37) hx hb dX7_like_33 (by decide) ?_
          exact j37 z32 _ _ _ (Or.inr ⟨t27, hb_one ez32 ⟨by omega, by omega⟩⟩) hP hS (lv_sub hl [0, 1, 2, 3] rfl))
    exact key14 _ 0 0 _ _ _ rfl ⟨by decide +kernel, by decide +kernel⟩ (fun σ ok h o => by rw [hb_0, show (0 : Int32).toInt.toNat = 0 from by decide +kernel]; exact ⟨fun w => (by cases w), fun w => absurd w.1 (Nat.not_lt_zero _)⟩) hP hS (lv_sub hl [2, 3, 1, 0] rfl)
  · have t5 := tq_eq (k := z2.toInt) (q := (0)) c5 rfl (by decide +kernel)
    refine lv_iconst (v := (-1)) hx hb dX7_like_8 (by decide +kernel) ?_
    subst hR; subst hQz
    exact W.iret (v := (-1)) hx hb hr (fun t ht hW => ⟨⟨(-1), (), rfl, (fun σ ok h => by have q := xpz2.2 t5; rw [cm_0 h] at q; exact ⟨fun w => absurd w q, fun _ => by decide +kernel⟩), trivial⟩, hS.F ht⟩) hS.2.2 dX7_like_9

set_option maxHeartbeats 4000000 in
set_option maxRecDepth 100000 in
theorem s_X7_letter (l : Launch) (dC : Nat → ClassId) (dI : Nat → Nat → Nat) (cs : Nat → ClassId) (L : List Nat) (K G : Nat → Nat) (Q : Nat → Nat → Option Nat) (hQ : Sv L K G Q) (x0 m0 : Nat) (tx : GT) (tm : GT × Int) (sz : Nat) (I : Nat → Nat → Int32) (J : Nat → Nat → Int64) (hI : Iv L K x0 m0 tx tm I) (p0 : Nat) (hLp0 : p0 ∈ L) (hKp0 : K p0 = 7) (p1 : Int32) (p2 : Int32) : Met l yX7_letter (.code yX7_letter cX7_letter 5 (some .int) :: pw) ({ frames := 2, cells := 0, slots := 0, locals := 48 }) (sP (dC, dI) cs [.ref p0, .int p1, .int p2] sz L K I J Q) (va_Qi (fun (r : Int32) (_ : Unit) => (∀ σ : Sx, cmA Q I J p0 σ → r.toInt = ltR σ p1 p2)) (fun _ _ => True) (fun _ => False)) 0 0 (fun _ => False) := by
  refine Met.ofW (cc := cX7_letter) (maxL := 5) (ret := (some .int)) (by decide +kernel) rfl ?_
  intro p e s m args below meth c s₁ B hml hv
  obtain ⟨rfl, hsz, hP, hK, hD0, hN⟩ := hv
  have hx := B.exec
  have hb := B.bytes
  have hr := B.returns
  have hts := fun w (h : w ∈ pw) => atoms_spec (ws := Cond.code yX7_letter cX7_letter 5 (some .int) :: pw) B.pre w (List.mem_cons_of_mem _ h)
  have hown : s.vm.findClass RX7 = some m.cls := findClass_of_methodNamed B.named
  have hlocks := B.notSynchronized
  subst hsz
  have hBB : 999 ≤ tm.2 ∧ tm.2 ≤ 6000000 := hI.2.2.2.2.1
  have hD := hD0
  obtain ⟨H, hHe⟩ : ∃ H : Heap, H = s.heap := ⟨_, rfl⟩
  have hS : va_S (fun _ => False) s.heap H [] := by rw [hHe]; exact va_S.rf
  rw [← hHe] at hP
  have hl := lv_entry ([.ref p0, .int p1, .int p2]) (n := 5) (Nat.le_of_ble_eq_true rfl)
  rw [lg_entry_eq]
  generalize (lg_sl ([.ref p0, .int p1, .int p2]) ++ List.replicate (5 - (lg_sl ([.ref p0, .int p1, .int p2])).length) Slot.unset).toArray = ls at hl ⊢
  have hl : lv_has ls 5 [(0, .ref p0), (1, .int p1), (2, .int p2)] := hl
  rw [← hHe]
  refine namedW (fun R Qz hR hQz => ?_)
  refine lv_aload_n hx hb dX7_letter_0 rfl (lv_at hl 0 rfl) ?_
  refine lv_iload_n hx hb dX7_letter_1 rfl (lv_at hl 1 rfl) ?_
  refine ro_i (va_runV (As := [.int p1]) (rest := []) ⟨hx, hb, hml, hown, hts⟩ (s_X7_isMask l dC dI cs L K G Q hQ x0 m0 tx tm H.size I J hI p0 hLp0 hKp0 p1) (cwV 1 hts (gV pq1364 pq1366 pq31 pq81 pq1367) rfl rfl rfl (by decide +kernel) ⟨(by rw [hR]; exact (Nat.le_of_ble_eq_true rfl)), (by rw [hR]; exact (Nat.le_of_ble_eq_true rfl))⟩) (sP_V hP hD hK hN hLp0 hKp0 rfl rfl) rfl rfl hl.1 rfl (lv_room (Nat.le_of_ble_eq_true rfl)) dX7_letter_2 ⟨(by rw [hR]; exact (Nat.le_of_ble_eq_true rfl)), (by rw [hR]; exact (Nat.le_of_ble_eq_true rfl))⟩) hS hP (fun z2 H locs hz2 hP hS => ?_)
  obtain ⟨bz2, imz2, xpz2⟩ := hz2
  refine lv_if_eq (tgt := 13) hx hb dX7_letter_5 (by decide) (fun c5 => ?_) (fun c5 => ?_)
  · have t5 := tq_eq (k := z2.toInt) (q := (0)) c5 rfl (by decide +kernel)
    refine lv_iconst (v := (-1)) hx hb dX7_letter_13 (by decide +kernel) ?_
    subst hR; subst hQz
    exact W.iret (v := (-1)) hx hb hr (fun t ht hW => ⟨⟨(-1), (), rfl, (fun σ h => by rw [ltr0 (fun w => by first | exact (xpz2.2 t5) (by rw [cm_0 h]; exact w.1) | (have a := w.2; omega))]; decide +kernel), trivial⟩, hS.F ht⟩) hS.2.2 dX7_letter_14
  · have t5 := tq_ne (k := z2.toInt) (q := (0)) c5 rfl (by decide +kernel)
    have i5 := imz2 t5
    refine lv_iload_n hx hb dX7_letter_8 rfl (lv_at hl 2 rfl) ?_
    refine lv_iconst (v := (-1)) hx hb dX7_letter_9 (by decide +kernel) ?_
    refine lv_icmp_ge (tgt := 15) hx hb dX7_letter_10 (by decide) (fun c10 => ?_) (fun c10 => ?_)
    · have t10 := tq_le (k := (-1)) (q := p2.toInt) c10 (by decide +kernel) rfl
      refine lv_aload_n hx hb dX7_letter_15 rfl (lv_at hl 0 rfl) ?_
      refine lv_iload_n hx hb dX7_letter_16 rfl (lv_at hl 1 rfl) ?_
      refine ro_i (va_runV (As := [.int p1]) (rest := []) ⟨hx, hb, hml, hown, hts⟩ (s_X7_wide l dC dI cs L K G Q hQ x0 m0 tx tm H.size I J hI p0 hLp0 hKp0 p1 ⟨by omega, by omega⟩) (cwV 1 hts (gV pq1368 pq1370 pq32 pq81 pq1371) rfl rfl rfl (by decide +kernel) ⟨(by rw [hR]; exact (Nat.le_of_ble_eq_true rfl)), (by rw [hR]; exact (Nat.le_of_ble_eq_true rfl))⟩) (sP_V hP hD hK hN hLp0 hKp0 rfl rfl) rfl rfl hl.1 rfl (lv_room (Nat.le_of_ble_eq_true rfl)) dX7_letter_17 ⟨(by rw [hR]; exact (Nat.le_of_ble_eq_true rfl)), (by rw [hR]; exact (Nat.le_of_ble_eq_true rfl))⟩) hS hP (fun z17 H locs hz17 hP hS => ?_)
      obtain ⟨bz17, fez17⟩ := hz17
      refine lv_iconst (v := 1) hx hb dX7_letter_20 (by decide +kernel) ?_
      refine lv_iadd hx hb dX7_letter_21 ?_
      refine lv_topi (fun z21 ez21 => ?_)
      have bz21 := tq_add (k := z17.toInt) (q := (1)) ez21 rfl (by decide +kernel) (by omega) (by omega)
      refine lv_istore_n (lv' := [(3, .int z21), (0, .ref p0), (1, .int p1), (2, .int p2)]) hx hb dX7_letter_22 rfl hl (by decide) rfl (fun ls hl => ?_)
      refine lv_iload_n hx hb dX7_letter_23 rfl (lv_at hl 0 rfl) ?_
      refine lv_aload_n hx hb dX7_letter_24 rfl (lv_at hl 1 rfl) ?_
      refine lv_iload_n hx hb dX7_letter_25 rfl (lv_at hl 2 rfl) ?_
      refine ro_i (va_runV (As := [.int p1]) (rest := [.int z21]) ⟨hx, hb, hml, hown, hts⟩ (s_X7_high l dC dI cs L K G Q hQ x0 m0 tx tm H.size I J hI p0 hLp0 hKp0 p1 ⟨by omega, by omega⟩) (cwV 1 hts (gV pq1372 pq1374 pq33 pq81 pq1375) rfl rfl rfl (by decide +kernel) ⟨(by rw [hR]; exact (Nat.le_of_ble_eq_true rfl)), (by rw [hR]; exact (Nat.le_of_ble_eq_true rfl))⟩) (sP_V hP hD hK hN hLp0 hKp0 rfl rfl) rfl rfl hl.1 rfl (lv_room (Nat.le_of_ble_eq_true rfl)) dX7_letter_26 ⟨(by rw [hR]; exact (Nat.le_of_ble_eq_true rfl)), (by rw [hR]; exact (Nat.le_of_ble_eq_true rfl))⟩) hS hP (fun z26 H locs hz26 hP hS => ?_)
      obtain ⟨bz26, fez26⟩ := hz26
      refine lv_imul hx hb dX7_letter_29 ?_
      refine lv_topi (fun z29 ez29 => ?_)
      refine lv_iconst (v := 1) hx hb dX7_letter_30 (by decide +kernel) ?_
      refine lv_isub hx hb dX7_letter_31 ?_
      refine lv_topi (fun z31 ez31 => ?_)
      refine lv_istore (lv' := [(4, .int z31), (3, .int z21), (0, .ref p0), (1, .int p1), (2, .int p2)]) hx hb dX7_letter_32 hl (by decide) rfl (fun ls hl => ?_)
      refine lv_iload_n hx hb dX7_letter_34 rfl (lv_at hl 4 rfl) ?_
      refine lv_iconst (v := (-1)) hx hb dX7_letter_35 (by decide +kernel) ?_
      refine lv_icmp_ne (tgt := 42) hx hb dX7_letter_36 (by decide) (fun c36 => ?_) (fun c36 => ?_)
      · have t36 := tq_ne (k := p2.toInt) (q := (-1)) c36 rfl (by decide +kernel)
        refine lv_iload_n hx hb dX7_letter_42 rfl (lv_at hl 4 rfl) ?_
        refine lv_iload hx hb dX7_letter_43 (lv_at hl 0 rfl) ?_
        refine lv_icmp_lt (tgt := 53) hx hb dX7_letter_45 (by decide) (fun c45 => ?_) (fun c45 => ?_)
        · have t45 := tq_lt (k := p2.toInt) (q := z31.toInt) c45 rfl rfl
          have rg45p2 := fb_rng p2
          have rg45z31 := fb_rng z31
          refine lv_iload_n hx hb dX7_letter_53 rfl (lv_at hl 4 rfl) ?_
          refine lv_iload_n hx hb dX7_letter_54 rfl (lv_at hl 1 rfl) ?_
          refine lv_irem hx hb dX7_letter_55 (letn ez29 ez31 (by omega) t45) ?_
          refine lv_topi (fun z55 ez55 => ?_)
          refine lv_aload_n hx hb dX7_letter_56 rfl (lv_at hl 2 rfl) ?_
          refine lv_iload_n hx hb dX7_letter_57 rfl (lv_at hl 3 rfl) ?_
          refine ro_i (va_runV (As := [.int p1]) (rest := [.int z55]) ⟨hx, hb, hml, hown, hts⟩ (s_X7_wide l dC dI cs L K G Q hQ x0 m0 tx tm H.size I J hI p0 hLp0 hKp0 p1 ⟨by omega, by omega⟩) (cwV 1 hts (gV pq1368 pq1370 pq32 pq81 pq1371) rfl rfl rfl (by decide +kernel) ⟨(by rw [hR]; exact (Nat.le_of_ble_eq_true rfl)), (by rw [hR]; exact (Nat.le_of_ble_eq_true rfl))⟩) (sP_V hP hD hK hN hLp0 hKp0 rfl rfl) rfl rfl hl.1 rfl (lv_room (Nat.le_of_ble_eq_true rfl)) dX7_letter_58 ⟨(by rw [hR]; exact (Nat.le_of_ble_eq_true rfl)), (by rw [hR]; exact (Nat.le_of_ble_eq_true rfl))⟩) hS hP (fun z58 H locs hz58 hP hS => ?_)
          obtain ⟨bz58, fez58⟩ := hz58
          obtain rfl : z17 = z58 := fez17.trans fez58.symm
          refine lv_icmp_ne (tgt := 69) hx hb dX7_letter_61 (by decide) (fun c61 => ?_) (fun c61 => ?_)
          · have t61 := tq_ne (k := z55.toInt) (q := z17.toInt) c61 rfl rfl
            refine lv_aload_n hx hb dX7_letter_69 rfl (lv_at hl 2 rfl) ?_
            refine lv_iload_n hx hb dX7_letter_70 rfl (lv_at hl 3 rfl) ?_
            refine lv_iload_n hx hb dX7_letter_71 rfl (lv_at hl 4 rfl) ?_
            refine lv_iload_n hx hb dX7_letter_72 rfl (lv_at hl 1 rfl) ?_
            refine lv_irem hx hb dX7_letter_73 (letn ez29 ez31 (by omega) t45) ?_
            refine lv_topi (fun z73 ez73 => ?_)
            refine lv_iload_n hx hb dX7_letter_74 rfl (lv_at hl 4 rfl) ?_
            refine lv_iload_n hx hb dX7_letter_75 rfl (lv_at hl 1 rfl) ?_
            refine lv_idiv hx hb dX7_letter_76 (letn ez29 ez31 (by omega) t45) ?_
            refine lv_topi (fun z76 ez76 => ?_)
            refine ro_i (va_runV (As := [.int p1, .int z73, .int z76]) (rest := []) ⟨hx, hb, hml, hown, hts⟩ (s_X7_has l dC dI cs L K G Q hQ x0 m0 tx tm H.size I J hI p0 hLp0 hKp0 p1 ⟨by omega, by omega⟩ z73 z76) (cwV 3 hts (gV pq1376 pq1378 pq34 pq81 pq1379) rfl rfl rfl (by decide +kernel) ⟨(by rw [hR]; exact (Nat.le_of_ble_eq_true rfl)), (by rw [hR]; exact (Nat.le_of_ble_eq_true rfl))⟩) (sP_V hP hD hK hN hLp0 hKp0 rfl rfl) rfl rfl hl.1 rfl (lv_room (Nat.le_of_ble_eq_true rfl)) dX7_letter_77 ⟨(by rw [hR]; exact (Nat.le_of_ble_eq_true rfl)), (by rw [hR]; exact (Nat.le_of_ble_eq_true rfl))⟩) hS hP (fun z77 H locs hz77 hP hS => ?_)
            obtain ⟨bz77, imz77, xpz77⟩ := hz77
            refine lv_if_eq (tgt := 88) hx hb dX7_letter_80 (by decide) (fun c80 => ?_) (fun c80 => ?_)
            · have t80 := tq_eq (k := z77.toInt) (q := (0)) c80 rfl (by decide +kernel)
              refine lv_bipush (v := 46) hx hb dX7_letter_88 (by decide +kernel) ?_
              subst hR; subst hQz
              exact W.iret (v := 46) hx hb hr (fun t ht hW => ⟨⟨46, (), rfl, (fun σ h => by have q := xpz2.1 t5; rw [cm_0 h] at q; have c := cmA_F (m := p1) h (by omega); have e26 : z17 = mW σ p1 := fez17.trans (cmA_n h (by omega)); have e36 : z26 = mH σ p1 := fez26.trans (cmA_n h (by omega)); have eM : z31 = ltM (mW σ p1) (mH σ p1) := (by rw [ez31, ez29, ez21, e26, e36]; rfl); have H : mK σ p1 ∧ -1 ≤ p2.toInt := ⟨q, by omega⟩; have eX : z55 = ltX (mW σ p1) p2 := (by rw [ez55, ez21, e26]; rfl); have r : ¬ (ltM (mW σ p1) (mH σ p1)).toInt ≤ p2.toInt := (by rw [← eM]; omega); rw [ltr4 (b := z77.toInt) H t36 r (by rw [← eX, ← e26]; exact t61) (by rw [xpz77, hs_congr c.1 c.2.1 c.2.2, ← eX, ez76, ez73, ez55, ez21, e26]), show (46 : Int32).toInt = 46 from by decide +kernel]; omega), trivial⟩, hS.F ht⟩) hS.2.2 dX7_letter_90
            · have t80 := tq_ne (k := z77.toInt) (q := (0)) c80 rfl (by decide +kernel)
              have i80 := imz77 t80
              refine lv_bipush (v := 35) hx hb dX7_letter_83 (by decide +kernel) ?_
              refine lv_goto (tgt := 90) hx hb dX7_letter_85 (by decide) ?_
              subst hR; subst hQz
              exact W.iret (v := 35) hx hb hr (fun t ht hW => ⟨⟨35, (), rfl, (fun σ h => by have q := xpz2.1 t5; rw [cm_0 h] at q; have c := cmA_F (m := p1) h (by omega); have e26 : z17 = mW σ p1 := fez17.trans (cmA_n h (by omega)); have e36 : z26 = mH σ p1 := fez26.trans (cmA_n h (by omega)); have eM : z31 = ltM (mW σ p1) (mH σ p1) := (by rw [ez31, ez29, ez21, e26, e36]; rfl); have H : mK σ p1 ∧ -1 ≤ p2.toInt := ⟨q, by omega⟩; have eX : z55 = ltX (mW σ p1) p2 := (by rw [ez55, ez21, e26]; rfl); have r : ¬ (ltM (mW σ p1) (mH σ p1)).toInt ≤ p2.toInt := (by rw [← eM]; omega); rw [ltr4 (b := z77.toInt) H t36 r (by rw [← eX, ← e26]; exact t61) (by rw [xpz77, hs_congr c.1 c.2.1 c.2.2, ← eX, ez76, ez73, ez55, ez21, e26]), show (35 : Int32).toInt = 35 from by decide +kernel]; omega), trivial⟩, hS.F ht⟩) hS.2.2 dX7_letter_90
          · have t61 := tq_eq (k := z55.toInt) (q := z17.toInt) c61 rfl rfl
            refine lv_bipush (v := 47) hx hb dX7_letter_64 (by decide +kernel) ?_
            refine lv_goto (tgt := 90) hx hb dX7_letter_66 (by decide) ?_
            subst hR; subst hQz
            exact W.iret (v := 47) hx hb hr (fun t ht hW => ⟨⟨47, (), rfl, (fun σ h => by have q := xpz2.1 t5; rw [cm_0 h] at q; have c := cmA_F (m := p1) h (by omega); have e26 : z17 = mW σ p1 := fez17.trans (cmA_n h (by omega)); have e36 : z26 = mH σ p1 := fez26.trans (cmA_n h (by omega)); have eM : z31 = ltM (mW σ p1) (mH σ p1) := (by rw [ez31, ez29, ez21, e26, e36]; rfl); have H : mK σ p1 ∧ -1 ≤ p2.toInt := ⟨q, by omega⟩; have eX : z55 = ltX (mW σ p1) p2 := (by rw [ez55, ez21, e26]; rfl); have r : ¬ (ltM (mW σ p1) (mH σ p1)).toInt ≤ p2.toInt := (by rw [← eM]; omega); rw [ltr3 H t36 r (by rw [← eX, ← e26]; exact t61)]; decide +kernel), trivial⟩, hS.F ht⟩) hS.2.2 dX7_letter_90
        · have t45 := tq_nlt (k := p2.toInt) (q := z31.toInt) c45 rfl rfl
          refine lv_bipush (v := (-2)) hx hb dX7_letter_48 (by decide +kernel) ?_
          refine lv_goto (tgt := 90) hx hb dX7_letter_50 (by decide) ?_
          subst hR; subst hQz
          exact W.iret (v := (-2)) hx hb hr (fun t ht hW => ⟨⟨(-2), (), rfl, (fun σ h => by have q := xpz2.1 t5; rw [cm_0 h] at q; have c := cmA_F (m := p1) h (by omega); have e26 : z17 = mW σ p1 := fez17.trans (cmA_n h (by omega)); have e36 : z26 = mH σ p1 := fez26.trans (cmA_n h (by omega)); have eM : z31 = ltM (mW σ p1) (mH σ p1) := (by rw [ez31, ez29, ez21, e26, e36]; rfl); have H : mK σ p1 ∧ -1 ≤ p2.toInt := ⟨q, by omega⟩; rw [ltr2 H t36 (by rw [← eM]; exact t45)]; decide +kernel), trivial⟩, hS.F ht⟩) hS.2.2 dX7_letter_90
      · have t36 := tq_eq (k := p2.toInt) (q := (-1)) c36 rfl (by decide +kernel)
        refine lv_iload hx hb dX7_letter_39 (lv_at hl 0 rfl) ?_
        subst hR; subst hQz
        exact W.iret (v := z31) hx hb hr (fun t ht hW => ⟨⟨z31, (), rfl, (fun σ h => by have q := xpz2.1 t5; rw [cm_0 h] at q; have c := cmA_F (m := p1) h (by omega); have e26 : z17 = mW σ p1 := fez17.trans (cmA_n h (by omega)); have e36 : z26 = mH σ p1 := fez26.trans (cmA_n h (by omega)); have eM : z31 = ltM (mW σ p1) (mH σ p1) := (by rw [ez31, ez29, ez21, e26, e36]; rfl); have H : mK σ p1 ∧ -1 ≤ p2.toInt := ⟨q, by omega⟩; rw [ltr1 H t36, ← eM]), trivial⟩, hS.F ht⟩) hS.2.2 dX7_letter_41
    · have t10 := tq_nle (k := (-1)) (q := p2.toInt) c10 (by decide +kernel) rfl
      have rg10p2 := fb_rng p2
      refine lv_iconst (v := (-1)) hx hb dX7_letter_13 (by decide +kernel) ?_
      subst hR; subst hQz
      exact W.iret (v := (-1)) hx hb hr (fun t ht hW => ⟨⟨(-1), (), rfl, (fun σ h => by rw [ltr0 (fun w => by first | exact (xpz2.2 t5) (by rw [cm_0 h]; exact w.1) | (have a := w.2; omega))]; decide +kernel), trivial⟩, hS.F ht⟩) hS.2.2 dX7_letter_14

set_option maxHeartbeats 4000000 in
set_option maxRecDepth 100000 in
theorem s_X7_within (l : Launch) (dC : Nat → ClassId) (dI : Nat → Nat → Nat) (cs : Nat → ClassId) (L : List Nat) (K G : Nat → Nat) (Q : Nat → Nat → Option Nat) (hQ : Sv L K G Q) (x0 m0 : Nat) (tx : GT) (tm : GT × Int) (sz : Nat) (I : Nat → Nat → Int32) (J : Nat → Nat → Int64) (hI : Iv L K x0 m0 tx tm I) (p0 : Nat) (hLp0 : p0 ∈ L) (hKp0 : K p0 = 7) (p1 : Int32) (bp1 : (0) ≤ p1.toInt ∧ p1.toInt ≤ 7) (p2 : Int32) (p3 : Int32) (p4 : Int32) (p5 : Int32) : Met l yX7_within (.code yX7_within cX7_within 9 (some .int) :: pw) ({ frames := 2, cells := 0, slots := 0, locals := 48 }) (sP (dC, dI) cs [.ref p0, .int p1, .int p2, .int p3, .int p4, .int p5] sz L K I J Q) (va_Qi (fun (r : Int32) (_ : Unit) => (∀ c : Fx, okF c → rI Q I p0 c → rJ Q J p0 c → p1.toInt.toNat < (c.1 0).toInt.toNat → ((0 ≤ p2.toInt ∧ p2.toInt ≤ 128) ∧ (0 ≤ p3.toInt ∧ p3.toInt ≤ 40) ∧ (0 ≤ p4.toInt ∧ p2.toInt + p4.toInt ≤ 128) ∧ (0 ≤ p5.toInt ∧ p3.toInt + p5.toInt ≤ 40)) → r.toInt = rcN (mo c.2 p1.toInt.toNat) p2.toInt p3.toInt p4.toInt p5.toInt)) (fun _ _ => True) (fun _ => False)) 0 0 (fun _ => False) := by
  refine Met.ofW (cc := cX7_within) (maxL := 9) (ret := (some .int)) (by decide +kernel) rfl ?_
  intro p e s m args below meth c s₁ B hml hv
  obtain ⟨rfl, hsz, hP, hK, hD0, hN⟩ := hv
  have hx := B.exec
  have hb := B.bytes
  have hr := B.returns
  have hts := fun w (h : w ∈ pw) => atoms_spec (ws := Cond.code yX7_within cX7_within 9 (some .int) :: pw) B.pre w (List.mem_cons_of_mem _ h)
  have hown : s.vm.findClass RX7 = some m.cls := findClass_of_methodNamed B.named
  have hlocks := B.notSynchronized
  subst hsz
  have hBB : 999 ≤ tm.2 ∧ tm.2 ≤ 6000000 := hI.2.2.2.2.1
  have hD := hD0
  obtain ⟨H, hHe⟩ : ∃ H : Heap, H = s.heap := ⟨_, rfl⟩
  have hS : va_S (fun _ => False) s.heap H [] := by rw [hHe]; exact va_S.rf
  rw [← hHe] at hP
  have hl := lv_entry ([.ref p0, .int p1, .int p2, .int p3, .int p4, .int p5]) (n := 9) (Nat.le_of_ble_eq_true rfl)
  rw [lg_entry_eq]
  generalize (lg_sl ([.ref p0, .int p1, .int p2, .int p3, .int p4, .int p5]) ++ List.replicate (9 - (lg_sl ([.ref p0, .int p1, .int p2, .int p3, .int p4, .int p5])).length) Slot.unset).toArray = ls at hl ⊢
  have hl : lv_has ls 9 [(0, .ref p0), (1, .int p1), (2, .int p2), (3, .int p3), (4, .int p4), (5, .int p5)] := hl
  rw [← hHe]
  refine namedW (fun R Qz hR hQz => ?_)
  refine lv_iconst (v := 0) hx hb dX7_within_0 (by decide +kernel) ?_
  refine lv_istore (lv' := [(6, .int 0), (0, .ref p0), (1, .int p1), (2, .int p2), (3, .int p3), (4, .int p4), (5, .int p5)]) hx hb dX7_within_1 hl (by decide) rfl (fun ls hl => ?_)
  refine lv_iload_n hx hb dX7_within_3 rfl (lv_at hl 4 rfl) ?_
  refine lv_istore (lv' := [(7, .int p3), (6, .int 0), (0, .ref p0), (1, .int p1), (2, .int p2), (3, .int p3), (4, .int p4), (5, .int p5)]) hx hb dX7_within_4 hl (by decide) rfl (fun ls hl => ?_)
  have key6 := blocks (fun n => ∀ (v6_6 : Int32) (v6_7 : Int32) (H : Heap) (lo : List Loc) (ls : Array Slot), (2147483648 - v6_7.toInt).toNat = n → (∀ c : Fx, okF c → rI Q I p0 c → rJ Q J p0 c → p1.toInt.toNat < (c.1 0).toInt.toNat → ((0 ≤ p2.toInt ∧ p2.toInt ≤ 128) ∧ (0 ≤ p3.toInt ∧ p3.toInt ≤ 40) ∧ (0 ≤ p4.toInt ∧ p2.toInt + p4.toInt ≤ 128) ∧ (0 ≤ p5.toInt ∧ p3.toInt + p5.toInt ≤ 40)) → v6_6.toInt = (TD (rcD (mo c.2 p1.toInt.toNat) p2.toInt p3.toInt p4.toInt p5.toInt) v6_7.toInt p2.toInt : Int) ∧ p3.toInt ≤ v6_7.toInt ∧ v6_7.toInt ≤ p3.toInt + p5.toInt) → va_P (dC, dI) vwCl (Wd cs L K I J Q) H → va_S (fun _ => False) s.heap H lo → lv_has ls 9 [(0, .ref p0), (1, .int p1), (2, .int p2), (3, .int p3), (4, .int p4), (5, .int p5), (6, .int v6_6), (7, .int v6_7)] → W p l e R s m (([.ref p0, .int p1, .int p2, .int p3, .int p4, .int p5] : List Value).toArray) below meth c H lo 0 0 Qz (F0 m 6 ls [])) (by
    intro n ih6
    intro v6_6 v6_7 H lo ls hmu6 g6 hP hS hl
    refine lv_iload hx hb dX7_within_6 (lv_at hl 7 rfl) ?_
    refine lv_iload_n hx hb dX7_within_8 rfl (lv_at hl 3 rfl) ?_
    refine lv_iload hx hb dX7_within_9 (lv_at hl 5 rfl) ?_
    refine lv_iadd hx hb dX7_within_11 ?_
    refine lv_topi (fun z11 ez11 => ?_)
    refine lv_icmp_ge (tgt := 56) hx hb dX7_within_12 (by decide) (fun c12 => ?_) (fun c12 => ?_)
    · have t12 := tq_le (k := z11.toInt) (q := v6_7.toInt) c12 rfl rfl
      refine lv_iload hx hb dX7_within_56 (lv_at hl 6 rfl) ?_
      subst hR; subst hQz
      exact W.iret (v := v6_6) hx hb hr (fun t ht hW => ⟨⟨v6_6, (), rfl, (fun c ok h hj hm b => by have q11 := tq_add (k := p3.toInt) (q := p5.toInt) ez11 rfl rfl (by omega) (by omega); obtain ⟨g, m1, m2⟩ := g6 c ok h hj hm b; rw [g, TD_hi (D := (rcD (mo c.2 p1.toInt.toNat) p2.toInt p3.toInt p4.toInt p5.toInt)) (y := v6_7.toInt) (x := p2.toInt) (fun X Y q => by have k := (rc_t.mp q).1; omega)]; rfl), trivial⟩, hS.F ht⟩) hS.2.2 dX7_within_58
    · have t12 := tq_nle (k := z11.toInt) (q := v6_7.toInt) c12 rfl rfl
      have rg12v6_7 := fb_rng v6_7
      have rg12z11 := fb_rng z11
      refine lv_iload_n hx hb dX7_within_15 rfl (lv_at hl 2 rfl) ?_
      refine lv_istore (lv' := [(8, .int p2), (0, .ref p0), (1, .int p1), (2, .int p2), (3, .int p3), (4, .int p4), (5, .int p5), (6, .int v6_6), (7, .int v6_7)]) hx hb dX7_within_16 hl (by decide) rfl (fun ls hl => ?_)
      have key18 := blocks (fun n => ∀ (v18_6 : Int32) (v18_8 : Int32) (H : Heap) (lo : List Loc) (ls : Array Slot), (2147483648 - v18_8.toInt).toNat = n → (∀ c : Fx, okF c → rI Q I p0 c → rJ Q J p0 c → p1.toInt.toNat < (c.1 0).toInt.toNat → ((0 ≤ p2.toInt ∧ p2.toInt ≤ 128) ∧ (0 ≤ p3.toInt ∧ p3.toInt ≤ 40) ∧ (0 ≤ p4.toInt ∧ p2.toInt + p4.toInt ≤ 128) ∧ (0 ≤ p5.toInt ∧ p3.toInt + p5.toInt ≤ 40)) → v18_6.toInt = (TD (rcD (mo c.2 p1.toInt.toNat) p2.toInt p3.toInt p4.toInt p5.toInt) v6_7.toInt v18_8.toInt : Int) ∧ p2.toInt ≤ v18_8.toInt ∧ v18_8.toInt ≤ p2.toInt + p4.toInt) → va_P (dC, dI) vwCl (Wd cs L K I J Q) H → va_S (fun _ => False) s.heap H lo → lv_has ls 9 [(0, .ref p0), (1, .int p1), (2, .int p2), (3, .int p3), (4, .int p4), (5, .int p5), (6, .int v18_6), (7, .int v6_7), (8, .int v18_8)] → W p l e R s m (([.ref p0, .int p1, .int p2, .int p3, .int p4, .int p5] : List Value).toArray) below meth c H lo 0 0 Qz (F0 m 18 ls [])) (by
        intro n ih18
        intro v18_6 v18_8 H lo ls hmu18 g18 hP hS hl
        refine lv_iload hx hb dX7_within_18 (lv_at hl 8 rfl) ?_
        refine lv_iload_n hx hb dX7_within_20 rfl (lv_at hl 2 rfl) ?_
        refine lv_iload hx hb dX7_within_21 (lv_at hl 4 rfl) ?_
        refine lv_iadd hx hb dX7_within_23 ?_
        refine lv_topi (fun z23 ez23 => ?_)
        refine lv_icmp_ge (tgt := 50) hx hb dX7_within_24 (by decide) (fun c24 => ?_) (fun c24 => ?_)
        · have t24 := tq_le (k := z23.toInt) (q := v18_8.toInt) c24 rfl rfl
          obtain ⟨z50, ez50⟩ : ∃ y : Int32, y = v6_7 + 1 := ⟨_, rfl⟩
          refine lv_iinc (v := z50) (lv' := [(7, .int z50), (0, .ref p0), (1, .int p1), (2, .int p2), (3, .int p3), (4, .int p4), (5, .int p5), (6, .int v18_6), (8, .int v18_8)]) hx hb dX7_within_50 hl (k := 7) rfl (by rw [ez50]; rfl) (by decide) rfl (fun ls hl => ?_)
          have rg50v6_7 := fb_rng v6_7
          have bz50 := tq_add (k := v6_7.toInt) (q := 1) ez50 rfl (by decide +kernel) (by omega) (by omega)
          refine lv_goto (tgt := 6) hx hb dX7_within_53 (by decide) ?_
          exact ih6 _ (by omega) v18_6 z50 _ _ _ rfl (fun c ok h hj hm b => by have q11 := tq_add (k := p3.toInt) (q := p5.toInt) ez11 rfl rfl (by omega) (by omega); have q23 := tq_add (k := p2.toInt) (q := p4.toInt) ez23 rfl rfl (by omega) (by omega); obtain ⟨g, l1, l2⟩ := g18 c ok h hj hm b; obtain ⟨_, m1, m2⟩ := g6 c ok h hj hm b; exact ⟨by rw [g, TD_mv (D := (rcD (mo c.2 p1.toInt.toNat) p2.toInt p3.toInt p4.toInt p5.toInt)) (y := v6_7.toInt) (x := v18_8.toInt) (y1 := z50.toInt) (x1 := p2.toInt) (fun X Y q => by have k := (rc_t.mp q).1; omega)], by omega, by omega⟩) hP hS (lv_sub hl [1, 2, 3, 4, 5, 6, 7, 0] rfl)
        · have t24 := tq_nle (k := z23.toInt) (q := v18_8.toInt) c24 rfl rfl
          have rg24v18_8 := fb_rng v18_8
          have rg24z23 := fb_rng z23
          refine lv_iload hx hb dX7_within_27 (lv_at hl 6 rfl) ?_
          refine lv_aload_n hx hb dX7_within_29 rfl (lv_at hl 0 rfl) ?_
          refine lv_iload_n hx hb dX7_within_30 rfl (lv_at hl 1 rfl) ?_
          refine lv_iload hx hb dX7_within_31 (lv_at hl 8 rfl) ?_
          refine lv_iload hx hb dX7_within_33 (lv_at hl 7 rfl) ?_
          refine ro_i (va_runV (As := [.int p1, .int v18_8, .int v6_7]) (rest := [.int v18_6]) ⟨hx, hb, hml, hown, hts⟩ (s_X7_has l dC dI cs L K G Q hQ x0 m0 tx tm H.size I J hI p0 hLp0 hKp0 p1 ⟨by omega, by omega⟩ v18_8 v6_7) (cwV 3 hts (gV pq1376 pq1378 pq34 pq81 pq1379) rfl rfl rfl (by decide +kernel) ⟨(by rw [hR]; exact (Nat.le_of_ble_eq_true rfl)), (by rw [hR]; exact (Nat.le_of_ble_eq_true rfl))⟩) (sP_V hP hD hK hN hLp0 hKp0 rfl rfl) rfl rfl hl.1 rfl (lv_room (Nat.le_of_ble_eq_true rfl)) dX7_within_35 ⟨(by rw [hR]; exact (Nat.le_of_ble_eq_true rfl)), (by rw [hR]; exact (Nat.le_of_ble_eq_true rfl))⟩) hS hP (fun z35 H locs hz35 hP hS => ?_)
          obtain ⟨bz35, imz35, xpz35⟩ := hz35
          refine ro_i (va_runS (As := [.int z35]) (rest := [.int v18_6]) ⟨hx, hb, hml, hown, hts⟩ (s_X7_truth l dC dI cs L K Q H.size I J z35) (va_cwS 1 hts (gS pq1257 pq1258 pq81 pq1259) rfl rfl rfl (by decide +kernel) ⟨(by rw [hR]; exact (Nat.le_of_ble_eq_true rfl)), (by rw [hR]; exact (Nat.le_of_ble_eq_true rfl))⟩) (sP_S hP hD hK hN) rfl rfl hl.1 rfl (lv_room (Nat.le_of_ble_eq_true rfl)) dX7_within_38 ⟨(by rw [hR]; exact (Nat.le_of_ble_eq_true rfl)), (by rw [hR]; exact (Nat.le_of_ble_eq_true rfl))⟩) hS hP (fun z38 H locs hz38 hP hS => ?_)
          obtain ⟨bz38, xpz38⟩ := hz38
          refine lv_iadd hx hb dX7_within_41 ?_
          refine lv_topi (fun z41 ez41 => ?_)
          refine lv_istore (lv' := [(6, .int z41), (0, .ref p0), (1, .int p1), (2, .int p2), (3, .int p3), (4, .int p4), (5, .int p5), (7, .int v6_7), (8, .int v18_8)]) hx hb dX7_within_42 hl (by decide) rfl (fun ls hl => ?_)
          obtain ⟨z44, ez44⟩ : ∃ y : Int32, y = v18_8 + 1 := ⟨_, rfl⟩
          refine lv_iinc (v := z44) (lv' := [(8, .int z44), (6, .int z41), (0, .ref p0), (1, .int p1), (2, .int p2), (3, .int p3), (4, .int p4), (5, .int p5), (7, .int v6_7)]) hx hb dX7_within_44 hl (k := 8) rfl (by rw [ez44]; rfl) (by decide) rfl (fun ls hl => ?_)
          have rg44v18_8 := fb_rng v18_8
          have bz44 := tq_add (k := v18_8.toInt) (q := 1) ez44 rfl (by decide +kernel) (by omega) (by omega)
          refine lv_goto (tgt := 18) hx hb dX7_within_47 (by decide) ?_
          exact ih18 _ (by omega) z41 z44 _ _ _ rfl (fun c ok h hj hm b => by have q11 := tq_add (k := p3.toInt) (q := p5.toInt) ez11 rfl rfl (by omega) (by omega); have q23 := tq_add (k := p2.toInt) (q := p4.toInt) ez23 rfl rfl (by omega) (by omega); obtain ⟨g, l1, l2⟩ := g18 c ok h hj hm b; obtain ⟨_, m1, m2⟩ := g6 c ok h hj hm b; have q35 : z35.toInt = bi (md (mo c.2 p1.toInt.toNat) v18_8.toInt v6_7.toInt) := (by rw [xpz35, hs_congr (f := rF Q J p0 p1.toInt.toNat) (g := mo c.2 p1.toInt.toNat) (congrArg Int32.toInt (h (3 + p1.toInt.toNat) (by omega))) (congrArg Int32.toInt (h (11 + p1.toInt.toNat) (by omega))) (fun k hk => hj (80 * p1.toInt.toNat + k) (by omega)), hs_of (ok.2.2.1 _ hm).2.2]); have q38 := tru_bi q35 xpz38; have T := TD_step (D := (rcD (mo c.2 p1.toInt.toNat) p2.toInt p3.toInt p4.toInt p5.toInt)) (y := v6_7.toInt) (x := v18_8.toInt) (x1 := z44.toInt) ⟨by omega, by omega⟩ ⟨by omega, by omega⟩ (by omega); rw [rc_in ⟨by omega, by omega⟩ ⟨by omega, by omega⟩, ← q38] at T; have tl := cnt_le (ahD (rcD (mo c.2 p1.toInt.toNat) p2.toInt p3.toInt p4.toInt p5.toInt) v6_7.toInt v18_8.toInt); have tl2 : (TD (rcD (mo c.2 p1.toInt.toNat) p2.toInt p3.toInt p4.toInt p5.toInt) v6_7.toInt v18_8.toInt : Int) ≤ 5120 := (by unfold TD; unfold cntD at tl; omega); have a41 := tq_add (k := v18_6.toInt) (q := z38.toInt) ez41 rfl rfl (by omega) (by omega); exact ⟨by rw [T]; omega, by omega, by omega⟩) hP hS (lv_sub hl [2, 3, 4, 5, 6, 7, 1, 8, 0] rfl))
      exact key18 _ v6_6 p2 _ _ _ rfl (fun c ok h hj hm b => by obtain ⟨g, m1, m2⟩ := g6 c ok h hj hm b; exact ⟨g, by omega, by omega⟩) hP hS (lv_sub hl [1, 2, 3, 4, 5, 6, 7, 8, 0] rfl))
  exact key6 _ 0 p3 _ _ _ rfl (fun c ok h hj hm b => by exact ⟨by rw [TD_lo (fun X Y q => by have k := (rc_t.mp q).1; omega)]; show (0 : Int32).toInt = 0; decide +kernel, by omega, by omega⟩) hP hS (lv_sub hl [2, 3, 4, 5, 6, 7, 1, 0] rfl)

set_option maxHeartbeats 4000000 in
set_option maxRecDepth 100000 in
theorem s_X7_dense (l : Launch) (dC : Nat → ClassId) (dI : Nat → Nat → Nat) (cs : Nat → ClassId) (L : List Nat) (K G : Nat → Nat) (Q : Nat → Nat → Option Nat) (hQ : Sv L K G Q) (x0 m0 : Nat) (tx : GT) (tm : GT × Int) (sz : Nat) (I : Nat → Nat → Int32) (J : Nat → Nat → Int64) (hI : Iv L K x0 m0 tx tm I) (p0 : Nat) (hLp0 : p0 ∈ L) (hKp0 : K p0 = 7) (p1 : Int32) (p2 : Int32) (p3 : Int32) (p4 : Int32) : Met l yX7_dense (.code yX7_dense cX7_dense 11 (some .int) :: pw) ({ frames := 3, cells := 0, slots := 0, locals := 76 }) (sP (dC, dI) cs [.ref p0, .int p1, .int p2, .int p3, .int p4] sz L K I J Q) (va_Qi (fun (r : Int32) (_ : Unit) => (∀ σ : Sx, okF σ.1 → cmA Q I J p0 σ → dnR σ p1 p2 p3 p4 r)) (fun _ _ => True) (fun _ => False)) 0 0 (fun _ => False) := by
  refine Met.ofW (cc := cX7_dense) (maxL := 11) (ret := (some .int)) (by decide +kernel) rfl ?_
  intro p e s m args below meth c s₁ B hml hv
  obtain ⟨rfl, hsz, hP, hK, hD0, hN⟩ := hv
  have hx := B.exec
  have hb := B.bytes
  have hr := B.returns
  have hts := fun w (h : w ∈ pw) => atoms_spec (ws := Cond.code yX7_dense cX7_dense 11 (some .int) :: pw) B.pre w (List.mem_cons_of_mem _ h)
  have hown : s.vm.findClass RX7 = some m.cls := findClass_of_methodNamed B.named
  have hlocks := B.notSynchronized
  subst hsz
  have hBB : 999 ≤ tm.2 ∧ tm.2 ≤ 6000000 := hI.2.2.2.2.1
  have hD := hD0
  obtain ⟨H, hHe⟩ : ∃ H : Heap, H = s.heap := ⟨_, rfl⟩
  have hS : va_S (fun _ => False) s.heap H [] := by rw [hHe]; exact va_S.rf
  rw [← hHe] at hP
  have hl := lv_entry ([.ref p0, .int p1, .int p2, .int p3, .int p4]) (n := 11) (Nat.le_of_ble_eq_true rfl)
  rw [lg_entry_eq]
  generalize (lg_sl ([.ref p0, .int p1, .int p2, .int p3, .int p4]) ++ List.replicate (11 - (lg_sl ([.ref p0, .int p1, .int p2, .int p3, .int p4])).length) Slot.unset).toArray = ls at hl ⊢
  have hl : lv_has ls 11 [(0, .ref p0), (1, .int p1), (2, .int p2), (3, .int p3), (4, .int p4)] := hl
  rw [← hHe]
  refine namedW (fun R Qz hR hQz => ?_)
  refine lv_aload_n hx hb dX7_dense_0 rfl (lv_at hl 0 rfl) ?_
  refine lv_iload_n hx hb dX7_dense_1 rfl (lv_at hl 1 rfl) ?_
  refine ro_i (va_runV (As := [.int p1]) (rest := []) ⟨hx, hb, hml, hown, hts⟩ (s_X7_isMask l dC dI cs L K G Q hQ x0 m0 tx tm H.size I J hI p0 hLp0 hKp0 p1) (cwV 1 hts (gV pq1364 pq1366 pq31 pq81 pq1367) rfl rfl rfl (by decide +kernel) ⟨(by rw [hR]; exact (Nat.le_of_ble_eq_true rfl)), (by rw [hR]; exact (Nat.le_of_ble_eq_true rfl))⟩) (sP_V hP hD hK hN hLp0 hKp0 rfl rfl) rfl rfl hl.1 rfl (lv_room (Nat.le_of_ble_eq_true rfl)) dX7_dense_2 ⟨(by rw [hR]; exact (Nat.le_of_ble_eq_true rfl)), (by rw [hR]; exact (Nat.le_of_ble_eq_true rfl))⟩) hS hP (fun z2 H locs hz2 hP hS => ?_)
  obtain ⟨bz2, imz2, xpz2⟩ := hz2
  refine lv_if_eq (tgt := 51) hx hb dX7_dense_5 (by decide) (fun c5 => ?_) (fun c5 => ?_)
  · have t5 := tq_eq (k := z2.toInt) (q := (0)) c5 rfl (by decide +kernel)
    refine lv_iconst (v := (-1)) hx hb dX7_dense_51 (by decide +kernel) ?_
    subst hR; subst hQz
    exact W.iret (v := (-1)) hx hb hr (fun t ht hW => ⟨⟨(-1), (), rfl, (fun σ ok h => by refine ⟨fun w => absurd w (fun w => ?_), fun _ => by decide +kernel⟩; obtain ⟨w1, w2, w3, w4⟩ := w; first | exact xpz2.2 t5 (by rw [cm_0 h]; exact w1) | (have e13 : z13.toInt = (mW σ p1).toInt := congrArg Int32.toInt ((show z13 = I (a0 Q p0 0) (3 + p1.toInt.toNat) from fez13).trans (cmA_n h (by omega))); exact xpz17 t20 ⟨by omega, by omega⟩) | (have e28 : z28.toInt = (mH σ p1).toInt := congrArg Int32.toInt ((show z28 = I (a0 Q p0 0) (11 + p1.toInt.toNat) from fez28).trans (cmA_n h (by omega))); exact xpz32 t35 ⟨by omega, by omega⟩) | exact xpz45 t48 ⟨by omega, by omega⟩), trivial⟩, hS.F ht⟩) hS.2.2 dX7_dense_52
  · have t5 := tq_ne (k := z2.toInt) (q := (0)) c5 rfl (by decide +kernel)
    have i5 := imz2 t5
    refine lv_iload_n hx hb dX7_dense_8 rfl (lv_at hl 2 rfl) ?_
    refine lv_i2l hx hb dX7_dense_9 rfl ?_
    refine lv_topl (fun z9 ez9 => ?_)
    have bz9 := tq_i2l (k := p2.toInt) ez9 rfl
    refine lv_lconst (v := 1) hx hb dX7_dense_10 (by decide +kernel) ?_
    refine lv_aload_n hx hb dX7_dense_11 rfl (lv_at hl 0 rfl) ?_
    refine lv_iload_n hx hb dX7_dense_12 rfl (lv_at hl 1 rfl) ?_
    refine ro_i (va_runV (As := [.int p1]) (rest := [.long 1, .long z9]) ⟨hx, hb, hml, hown, hts⟩ (s_X7_wide l dC dI cs L K G Q hQ x0 m0 tx tm H.size I J hI p0 hLp0 hKp0 p1 ⟨by omega, by omega⟩) (cwV 1 hts (gV pq1368 pq1370 pq32 pq81 pq1371) rfl rfl rfl (by decide +kernel) ⟨(by rw [hR]; exact (Nat.le_of_ble_eq_true rfl)), (by rw [hR]; exact (Nat.le_of_ble_eq_true rfl))⟩) (sP_V hP hD hK hN hLp0 hKp0 rfl rfl) rfl rfl hl.1 rfl (lv_room (Nat.le_of_ble_eq_true rfl)) dX7_dense_13 ⟨(by rw [hR]; exact (Nat.le_of_ble_eq_true rfl)), (by rw [hR]; exact (Nat.le_of_ble_eq_true rfl))⟩) hS hP (fun z13 H locs hz13 hP hS => ?_)
    obtain ⟨bz13, fez13⟩ := hz13
    refine lv_i2l hx hb dX7_dense_16 rfl ?_
    refine lv_topl (fun z16 ez16 => ?_)
    have bz16 := tq_i2l (k := z13.toInt) ez16 rfl
    refine ro_i (va_runS (As := [.long z9, .long 1, .long z16]) (rest := []) ⟨hx, hb, hml, hown, hts⟩ (s_X7_in l dC dI cs L K Q H.size I J z9 1 z16) (va_cwS 3 hts (gS pq1234 pq1235 pq81 pq1236) rfl rfl rfl (by decide +kernel) ⟨(by rw [hR]; exact (Nat.le_of_ble_eq_true rfl)), (by rw [hR]; exact (Nat.le_of_ble_eq_true rfl))⟩) (sP_S hP hD hK hN) rfl rfl hl.1 rfl (lv_room (Nat.le_of_ble_eq_true rfl)) dX7_dense_17 ⟨(by rw [hR]; exact (Nat.le_of_ble_eq_true rfl)), (by rw [hR]; exact (Nat.le_of_ble_eq_true rfl))⟩) hS hP (fun z17 H locs hz17 hP hS => ?_)
    have csl17_1 : (1 : Int64).toInt = 1 := by decide +kernel
    obtain ⟨bz17, imz17, xpz17⟩ := hz17
    refine lv_if_eq (tgt := 51) hx hb dX7_dense_20 (by decide) (fun c20 => ?_) (fun c20 => ?_)
    · have t20 := tq_eq (k := z17.toInt) (q := (0)) c20 rfl (by decide +kernel)
      refine lv_iconst (v := (-1)) hx hb dX7_dense_51 (by decide +kernel) ?_
      subst hR; subst hQz
      exact W.iret (v := (-1)) hx hb hr (fun t ht hW => ⟨⟨(-1), (), rfl, (fun σ ok h => by refine ⟨fun w => absurd w (fun w => ?_), fun _ => by decide +kernel⟩; obtain ⟨w1, w2, w3, w4⟩ := w; first | exact xpz2.2 t5 (by rw [cm_0 h]; exact w1) | (have e13 : z13.toInt = (mW σ p1).toInt := congrArg Int32.toInt ((show z13 = I (a0 Q p0 0) (3 + p1.toInt.toNat) from fez13).trans (cmA_n h (by omega))); exact xpz17 t20 ⟨by omega, by omega⟩) | (have e28 : z28.toInt = (mH σ p1).toInt := congrArg Int32.toInt ((show z28 = I (a0 Q p0 0) (11 + p1.toInt.toNat) from fez28).trans (cmA_n h (by omega))); exact xpz32 t35 ⟨by omega, by omega⟩) | exact xpz45 t48 ⟨by omega, by omega⟩), trivial⟩, hS.F ht⟩) hS.2.2 dX7_dense_52
    · have t20 := tq_ne (k := z17.toInt) (q := (0)) c20 rfl (by decide +kernel)
      have i20 := imz17 t20
      refine lv_iload_n hx hb dX7_dense_23 rfl (lv_at hl 3 rfl) ?_
      refine lv_i2l hx hb dX7_dense_24 rfl ?_
      refine lv_topl (fun z24 ez24 => ?_)
      have bz24 := tq_i2l (k := p3.toInt) ez24 rfl
      refine lv_lconst (v := 1) hx hb dX7_dense_25 (by decide +kernel) ?_
      refine lv_aload_n hx hb dX7_dense_26 rfl (lv_at hl 0 rfl) ?_
      refine lv_iload_n hx hb dX7_dense_27 rfl (lv_at hl 1 rfl) ?_
      refine ro_i (va_runV (As := [.int p1]) (rest := [.long 1, .long z24]) ⟨hx, hb, hml, hown, hts⟩ (s_X7_high l dC dI cs L K G Q hQ x0 m0 tx tm H.size I J hI p0 hLp0 hKp0 p1 ⟨by omega, by omega⟩) (cwV 1 hts (gV pq1372 pq1374 pq33 pq81 pq1375) rfl rfl rfl (by decide +kernel) ⟨(by rw [hR]; exact (Nat.le_of_ble_eq_true rfl)), (by rw [hR]; exact (Nat.le_of_ble_eq_true rfl))⟩) (sP_V hP hD hK hN hLp0 hKp0 rfl rfl) rfl rfl hl.1 rfl (lv_room (Nat.le_of_ble_eq_true rfl)) dX7_dense_28 ⟨(by rw [hR]; exact (Nat.le_of_ble_eq_true rfl)), (by rw [hR]; exact (Nat.le_of_ble_eq_true rfl))⟩) hS hP (fun z28 H locs hz28 hP hS => ?_)
      obtain ⟨bz28, fez28⟩ := hz28
      refine lv_i2l hx hb dX7_dense_31 rfl ?_
      refine lv_topl (fun z31 ez31 => ?_)
      have bz31 := tq_i2l (k := z28.toInt) ez31 rfl
      refine ro_i (va_runS (As := [.long z24, .long 1, .long z31]) (rest := []) ⟨hx, hb, hml, hown, hts⟩ (s_X7_in l dC dI cs L K Q H.size I J z24 1 z31) (va_cwS 3 hts (gS pq1234 pq1235 pq81 pq1236) rfl rfl rfl (by decide +kernel) ⟨(by rw [hR]; exact (Nat.le_of_ble_eq_true rfl)), (by rw [hR]; exact (Nat.le_of_ble_eq_true rfl))⟩) (sP_S hP hD hK hN) rfl rfl hl.1 rfl (lv_room (Nat.le_of_ble_eq_true rfl)) dX7_dense_32 ⟨(by rw [hR]; exact (Nat.le_of_ble_eq_true rfl)), (by rw [hR]; exact (Nat.le_of_ble_eq_true rfl))⟩) hS hP (fun z32 H locs hz32 hP hS => ?_)
      have csl32_1 : (1 : Int64).toInt = 1 := by decide +kernel
      obtain ⟨bz32, imz32, xpz32⟩ := hz32
      refine lv_if_eq (tgt := 51) hx hb dX7_dense_35 (by decide) (fun c35 => ?_) (fun c35 => ?_)
      · have t35 := tq_eq (k := z32.toInt) (q := (0)) c35 rfl (by decide +kernel)
        refine lv_iconst (v := (-1)) hx hb dX7_dense_51 (by decide +kernel) ?_
        subst hR; subst hQz
        exact W.iret (v := (-1)) hx hb hr (fun t ht hW => ⟨⟨(-1), (), rfl, (fun σ ok h => by refine ⟨fun w => absurd w (fun w => ?_), fun _ => by decide +kernel⟩; obtain ⟨w1, w2, w3, w4⟩ := w; first | exact xpz2.2 t5 (by rw [cm_0 h]; exact w1) | (have e13 : z13.toInt = (mW σ p1).toInt := congrArg Int32.toInt ((show z13 = I (a0 Q p0 0) (3 + p1.toInt.toNat) from fez13).trans (cmA_n h (by omega))); exact xpz17 t20 ⟨by omega, by omega⟩) | (have e28 : z28.toInt = (mH σ p1).toInt := congrArg Int32.toInt ((show z28 = I (a0 Q p0 0) (11 + p1.toInt.toNat) from fez28).trans (cmA_n h (by omega))); exact xpz32 t35 ⟨by omega, by omega⟩) | exact xpz45 t48 ⟨by omega, by omega⟩), trivial⟩, hS.F ht⟩) hS.2.2 dX7_dense_52
      · have t35 := tq_ne (k := z32.toInt) (q := (0)) c35 rfl (by decide +kernel)
        have i35 := imz32 t35
        refine lv_iload hx hb dX7_dense_38 (lv_at hl 4 rfl) ?_
        refine lv_i2l hx hb dX7_dense_40 rfl ?_
        refine lv_topl (fun z40 ez40 => ?_)
        have bz40 := tq_i2l (k := p4.toInt) ez40 rfl
        refine lv_lconst (v := 0) hx hb dX7_dense_41 (by decide +kernel) ?_
        refine lv_ldc2 hx hb hown (hts _ pq1595) dX7_dense_42 ?_
        refine ro_i (va_runS (As := [.long z40, .long 0, .long 2]) (rest := []) ⟨hx, hb, hml, hown, hts⟩ (s_X7_in l dC dI cs L K Q H.size I J z40 0 2) (va_cwS 3 hts (gS pq1234 pq1235 pq81 pq1236) rfl rfl rfl (by decide +kernel) ⟨(by rw [hR]; exact (Nat.le_of_ble_eq_true rfl)), (by rw [hR]; exact (Nat.le_of_ble_eq_true rfl))⟩) (sP_S hP hD hK hN) rfl rfl hl.1 rfl (lv_room (Nat.le_of_ble_eq_true rfl)) dX7_dense_45 ⟨(by rw [hR]; exact (Nat.le_of_ble_eq_true rfl)), (by rw [hR]; exact (Nat.le_of_ble_eq_true rfl))⟩) hS hP (fun z45 H locs hz45 hP hS => ?_)
        have csl45_0 : (0 : Int64).toInt = 0 := by decide +kernel
        have csl45_2 : (2 : Int64).toInt = 2 := by decide +kernel
        obtain ⟨bz45, imz45, xpz45⟩ := hz45
        refine lv_if_ne (tgt := 53) hx hb dX7_dense_48 (by decide) (fun c48 => ?_) (fun c48 => ?_)
        · have t48 := tq_ne (k := z45.toInt) (q := (0)) c48 rfl (by decide +kernel)
          have i48 := imz45 t48
          refine lv_iconst (v := (-1)) hx hb dX7_dense_53 (by decide +kernel) ?_
          refine lv_istore (lv' := [(5, .int (-1)), (0, .ref p0), (1, .int p1), (2, .int p2), (3, .int p3), (4, .int p4)]) hx hb dX7_dense_54 hl (by decide) rfl (fun ls hl => ?_)
          refine lv_iconst (v := 0) hx hb dX7_dense_56 (by decide +kernel) ?_
          refine lv_istore (lv' := [(6, .int 0), (5, .int (-1)), (0, .ref p0), (1, .int p1), (2, .int p2), (3, .int p3), (4, .int p4)]) hx hb dX7_dense_57 hl (by decide) rfl (fun ls hl => ?_)
          refine lv_iconst (v := 0) hx hb dX7_dense_59 (by decide +kernel) ?_
          refine lv_istore (lv' := [(7, .int 0), (6, .int 0), (5, .int (-1)), (0, .ref p0), (1, .int p1), (2, .int p2), (3, .int p3), (4, .int p4)]) hx hb dX7_dense_60 hl (by decide) rfl (fun ls hl => ?_)
          refine lv_iconst (v := 0) hx hb dX7_dense_62 (by decide +kernel) ?_
          refine lv_istore (lv' := [(8, .int 0), (7, .int 0), (6, .int 0), (5, .int (-1)), (0, .ref p0), (1, .int p1), (2, .int p2), (3, .int p3), (4, .int p4)]) hx hb dX7_dense_63 hl (by decide) rfl (fun ls hl => ?_)
          have key65 := blocks (fun n => ∀ (v65_5 : Int32) (v65_6 : Int32) (v65_7 : Int32) (v65_8 : Int32) (H : Heap) (lo : List Loc) (ls : Array Slot), (42 - v65_8.toInt).toNat = n → ((-1) ≤ v65_5.toInt ∧ v65_5.toInt ≤ 2147483647) → ((0) ≤ v65_6.toInt ∧ v65_6.toInt ≤ 101) → ((0) ≤ v65_7.toInt ∧ v65_7.toInt ≤ 41) → ((0) ≤ v65_8.toInt ∧ v65_8.toInt ≤ 41) → (∀ σ : Sx, okF σ.1 → cmA Q I J p0 σ → mxI (dnN σ p1 p2 p3) ((mW σ p1).toInt - p2.toInt) ((mH σ p1).toInt - p3.toInt) v65_8.toInt 0 v65_5.toInt v65_6.toInt v65_7.toInt) → va_P (dC, dI) vwCl (Wd cs L K I J Q) H → va_S (fun _ => False) s.heap H lo → lv_has ls 11 [(0, .ref p0), (1, .int p1), (2, .int p2), (3, .int p3), (4, .int p4), (5, .int v65_5), (6, .int v65_6), (7, .int v65_7), (8, .int v65_8)] → W p l e R s m (([.ref p0, .int p1, .int p2, .int p3, .int p4] : List Value).toArray) below meth c H lo 0 0 Qz (F0 m 65 ls [])) (by
            intro n ih65
            intro v65_5 v65_6 v65_7 v65_8 H lo ls hmu65 bv65_5 bv65_6 bv65_7 bv65_8 g65 hP hS hl
            refine lv_iload hx hb dX7_dense_65 (lv_at hl 8 rfl) ?_
            refine lv_iload_n hx hb dX7_dense_67 rfl (lv_at hl 3 rfl) ?_
            refine lv_iadd hx hb dX7_dense_68 ?_
            refine lv_topi (fun z68 ez68 => ?_)
            have bz68 := tq_add (k := v65_8.toInt) (q := p3.toInt) ez68 rfl rfl (by omega) (by omega)
            refine lv_aload_n hx hb dX7_dense_69 rfl (lv_at hl 0 rfl) ?_
            refine lv_iload_n hx hb dX7_dense_70 rfl (lv_at hl 1 rfl) ?_
            refine ro_i (va_runV (As := [.int p1]) (rest := [.int z68]) ⟨hx, hb, hml, hown, hts⟩ (s_X7_high l dC dI cs L K G Q hQ x0 m0 tx tm H.size I J hI p0 hLp0 hKp0 p1 ⟨by omega, by omega⟩) (cwV 1 hts (gV pq1372 pq1374 pq33 pq81 pq1375) rfl rfl rfl (by decide +kernel) ⟨(by rw [hR]; exact (Nat.le_of_ble_eq_true rfl)), (by rw [hR]; exact (Nat.le_of_ble_eq_true rfl))⟩) (sP_V hP hD hK hN hLp0 hKp0 rfl rfl) rfl rfl hl.1 rfl (lv_room (Nat.le_of_ble_eq_true rfl)) dX7_dense_71 ⟨(by rw [hR]; exact (Nat.le_of_ble_eq_true rfl)), (by rw [hR]; exact (Nat.le_of_ble_eq_true rfl))⟩) hS hP (fun z71 H locs hz71 hP hS => ?_)
            obtain ⟨bz71, fez71⟩ := hz71
            obtain rfl : z28 = z71 := fez28.trans fez71.symm
            refine lv_icmp_gt (tgt := 165) hx hb dX7_dense_74 (by decide) (fun c74 => ?_) (fun c74 => ?_)
            · have t74 := tq_lt (k := z28.toInt) (q := z68.toInt) c74 rfl rfl
              refine lv_iload hx hb dX7_dense_165 (lv_at hl 4 rfl) ?_
              refine lv_if_ne (tgt := 175) hx hb dX7_dense_167 (by decide) (fun c167 => ?_) (fun c167 => ?_)
              · have t167 := tq_ne (k := p4.toInt) (q := (0)) c167 rfl (by decide +kernel)
                refine lv_iload hx hb dX7_dense_175 (lv_at hl 4 rfl) ?_
                refine lv_iconst (v := 1) hx hb dX7_dense_177 (by decide +kernel) ?_
                refine lv_icmp_ne (tgt := 186) hx hb dX7_dense_178 (by decide) (fun c178 => ?_) (fun c178 => ?_)
                · have t178 := tq_ne (k := p4.toInt) (q := (1)) c178 rfl (by decide +kernel)
                  refine lv_iload hx hb dX7_dense_186 (lv_at hl 7 rfl) ?_
                  subst hR; subst hQz
                  exact W.iret (v := v65_7) hx hb hr (fun t ht hW => ⟨⟨v65_7, (), rfl, (fun σ ok h => by have q := xpz2.1 t5; rw [cm_0 h] at q; have o := ok.2.2.1 p1.toInt.toNat (by omega); have o1 := o.1; have o2 := o.2.1; have eW_ : (mW σ p1).toInt = (σ.1.1 (3 + p1.toInt.toNat)).toInt := rfl; have eH_ : (mH σ p1).toInt = (σ.1.1 (11 + p1.toInt.toNat)).toInt := rfl; have e13 : z13.toInt = (mW σ p1).toInt := congrArg Int32.toInt ((show z13 = I (a0 Q p0 0) (3 + p1.toInt.toNat) from fez13).trans (cmA_n h (by omega))); have e28 : z28.toInt = (mH σ p1).toInt := congrArg Int32.toInt ((show z28 = I (a0 Q p0 0) (11 + p1.toInt.toNat) from fez28).trans (cmA_n h (by omega))); exact ⟨fun _ => ⟨_, _, _, mx_end (g65 σ ok h) (by omega) (by omega) (by omega), by rw [if_neg t167, if_neg t178]⟩, fun w => absurd ⟨q, ⟨by omega, by omega⟩, ⟨by omega, by omega⟩, by omega, by omega⟩ w⟩), trivial⟩, hS.F ht⟩) hS.2.2 dX7_dense_188
                · have t178 := tq_eq (k := p4.toInt) (q := (1)) c178 rfl (by decide +kernel)
                  refine lv_iload hx hb dX7_dense_181 (lv_at hl 6 rfl) ?_
                  refine lv_goto (tgt := 188) hx hb dX7_dense_183 (by decide) ?_
                  subst hR; subst hQz
                  exact W.iret (v := v65_6) hx hb hr (fun t ht hW => ⟨⟨v65_6, (), rfl, (fun σ ok h => by have q := xpz2.1 t5; rw [cm_0 h] at q; have o := ok.2.2.1 p1.toInt.toNat (by omega); have o1 := o.1; have o2 := o.2.1; have eW_ : (mW σ p1).toInt = (σ.1.1 (3 + p1.toInt.toNat)).toInt := rfl; have eH_ : (mH σ p1).toInt = (σ.1.1 (11 + p1.toInt.toNat)).toInt := rfl; have e13 : z13.toInt = (mW σ p1).toInt := congrArg Int32.toInt ((show z13 = I (a0 Q p0 0) (3 + p1.toInt.toNat) from fez13).trans (cmA_n h (by omega))); have e28 : z28.toInt = (mH σ p1).toInt := congrArg Int32.toInt ((show z28 = I (a0 Q p0 0) (11 + p1.toInt.toNat) from fez28).trans (cmA_n h (by omega))); exact ⟨fun _ => ⟨_, _, _, mx_end (g65 σ ok h) (by omega) (by omega) (by omega), by rw [if_neg t167, if_pos t178]⟩, fun w => absurd ⟨q, ⟨by omega, by omega⟩, ⟨by omega, by omega⟩, by omega, by omega⟩ w⟩), trivial⟩, hS.F ht⟩) hS.2.2 dX7_dense_188
              · have t167 := tq_eq (k := p4.toInt) (q := (0)) c167 rfl (by decide +kernel)
                refine lv_iload hx hb dX7_dense_170 (lv_at hl 5 rfl) ?_
                refine lv_goto (tgt := 188) hx hb dX7_dense_172 (by decide) ?_
                subst hR; subst hQz
                exact W.iret (v := v65_5) hx hb hr (fun t ht hW => ⟨⟨v65_5, (), rfl, (fun σ ok h => by have q := xpz2.1 t5; rw [cm_0 h] at q; have o := ok.2.2.1 p1.toInt.toNat (by omega); have o1 := o.1; have o2 := o.2.1; have eW_ : (mW σ p1).toInt = (σ.1.1 (3 + p1.toInt.toNat)).toInt := rfl; have eH_ : (mH σ p1).toInt = (σ.1.1 (11 + p1.toInt.toNat)).toInt := rfl; have e13 : z13.toInt = (mW σ p1).toInt := congrArg Int32.toInt ((show z13 = I (a0 Q p0 0) (3 + p1.toInt.toNat) from fez13).trans (cmA_n h (by omega))); have e28 : z28.toInt = (mH σ p1).toInt := congrArg Int32.toInt ((show z28 = I (a0 Q p0 0) (11 + p1.toInt.toNat) from fez28).trans (cmA_n h (by omega))); exact ⟨fun _ => ⟨_, _, _, mx_end (g65 σ ok h) (by omega) (by omega) (by omega), by rw [if_pos t167]⟩, fun w => absurd ⟨q, ⟨by omega, by omega⟩, ⟨by omega, by omega⟩, by omega, by omega⟩ w⟩), trivial⟩, hS.F ht⟩) hS.2.2 dX7_dense_188
            · have t74 := tq_nlt (k := z28.toInt) (q := z68.toInt) c74 rfl rfl
              refine lv_aload_n hx hb dX7_dense_77 rfl (lv_at hl 0 rfl) ?_
              refine lv_iload_n hx hb dX7_dense_78 rfl (lv_at hl 1 rfl) ?_
              refine lv_iconst (v := 0) hx hb dX7_dense_79 (by decide +kernel) ?_
              refine lv_iload hx hb dX7_dense_80 (lv_at hl 8 rfl) ?_
              refine lv_iload_n hx hb dX7_dense_82 rfl (lv_at hl 2 rfl) ?_
              refine lv_iload_n hx hb dX7_dense_83 rfl (lv_at hl 3 rfl) ?_
              refine ro_i (va_runV (As := [.int p1, .int 0, .int v65_8, .int p2, .int p3]) (rest := []) ⟨hx, hb, hml, hown, hts⟩ (s_X7_within l dC dI cs L K G Q hQ x0 m0 tx tm H.size I J hI p0 hLp0 hKp0 p1 ⟨by omega, by omega⟩ 0 v65_8 p2 p3) (cwV 5 hts (gV pq1682 pq1684 pq70 pq81 pq1685) rfl rfl rfl (by decide +kernel) ⟨(by rw [hR]; exact (Nat.le_of_ble_eq_true rfl)), (by rw [hR]; exact (Nat.le_of_ble_eq_true rfl))⟩) (sP_V hP hD hK hN hLp0 hKp0 rfl rfl) rfl rfl hl.1 rfl (lv_room (Nat.le_of_ble_eq_true rfl)) dX7_dense_84 ⟨(by rw [hR]; exact (Nat.le_of_ble_eq_true rfl)), (by rw [hR]; exact (Nat.le_of_ble_eq_true rfl))⟩) hS hP (fun z84 H locs hz84 hP hS => ?_)
              have cst84_0 : (0 : Int32).toInt = 0 := by decide +kernel
              have xpz84 := hz84
              try rw [cst84_0] at xpz84
              refine lv_istore (lv' := [(9, .int z84), (0, .ref p0), (1, .int p1), (2, .int p2), (3, .int p3), (4, .int p4), (5, .int v65_5), (6, .int v65_6), (7, .int v65_7), (8, .int v65_8)]) hx hb dX7_dense_87 hl (by decide) rfl (fun ls hl => ?_)
              refine lv_iconst (v := 0) hx hb dX7_dense_89 (by decide +kernel) ?_
              refine lv_istore (lv' := [(10, .int 0), (9, .int z84), (0, .ref p0), (1, .int p1), (2, .int p2), (3, .int p3), (4, .int p4), (5, .int v65_5), (6, .int v65_6), (7, .int v65_7), (8, .int v65_8)]) hx hb dX7_dense_90 hl (by decide) rfl (fun ls hl => ?_)
              have key92 := blocks (fun n => ∀ (v92_10 : Int32) (v92_5 : Int32) (v92_6 : Int32) (v92_7 : Int32) (v92_9 : Int32) (H : Heap) (lo : List Loc) (ls : Array Slot), (102 - v92_10.toInt).toNat = n → ((0) ≤ v92_10.toInt ∧ v92_10.toInt ≤ 101) → ((-1) ≤ v92_5.toInt ∧ v92_5.toInt ≤ 2147483647) → ((0) ≤ v92_6.toInt ∧ v92_6.toInt ≤ 101) → ((0) ≤ v92_7.toInt ∧ v92_7.toInt ≤ 41) → (∀ σ : Sx, okF σ.1 → cmA Q I J p0 σ → v92_9.toInt = dnN σ p1 p2 p3 v92_10.toInt v65_8.toInt ∧ mxI (dnN σ p1 p2 p3) ((mW σ p1).toInt - p2.toInt) ((mH σ p1).toInt - p3.toInt) v65_8.toInt v92_10.toInt v92_5.toInt v92_6.toInt v92_7.toInt) → va_P (dC, dI) vwCl (Wd cs L K I J Q) H → va_S (fun _ => False) s.heap H lo → lv_has ls 11 [(0, .ref p0), (1, .int p1), (2, .int p2), (3, .int p3), (4, .int p4), (5, .int v92_5), (6, .int v92_6), (7, .int v92_7), (8, .int v65_8), (9, .int v92_9), (10, .int v92_10)] → W p l e R s m (([.ref p0, .int p1, .int p2, .int p3, .int p4] : List Value).toArray) below meth c H lo 0 0 Qz (F0 m 92 ls [])) (by
                intro n ih92
                intro v92_10 v92_5 v92_6 v92_7 v92_9 H lo ls hmu92 bv92_10 bv92_5 bv92_6 bv92_7 g92 hP hS hl
                refine lv_iload hx hb dX7_dense_92 (lv_at hl 10 rfl) ?_
                refine lv_iload_n hx hb dX7_dense_94 rfl (lv_at hl 2 rfl) ?_
                refine lv_iadd hx hb dX7_dense_95 ?_
                refine lv_topi (fun z95 ez95 => ?_)
                have bz95 := tq_add (k := v92_10.toInt) (q := p2.toInt) ez95 rfl rfl (by omega) (by omega)
                refine lv_aload_n hx hb dX7_dense_96 rfl (lv_at hl 0 rfl) ?_
                refine lv_iload_n hx hb dX7_dense_97 rfl (lv_at hl 1 rfl) ?_
                refine ro_i (va_runV (As := [.int p1]) (rest := [.int z95]) ⟨hx, hb, hml, hown, hts⟩ (s_X7_wide l dC dI cs L K G Q hQ x0 m0 tx tm H.size I J hI p0 hLp0 hKp0 p1 ⟨by omega, by omega⟩) (cwV 1 hts (gV pq1368 pq1370 pq32 pq81 pq1371) rfl rfl rfl (by decide +kernel) ⟨(by rw [hR]; exact (Nat.le_of_ble_eq_true rfl)), (by rw [hR]; exact (Nat.le_of_ble_eq_true rfl))⟩) (sP_V hP hD hK hN hLp0 hKp0 rfl rfl) rfl rfl hl.1 rfl (lv_room (Nat.le_of_ble_eq_true rfl)) dX7_dense_98 ⟨(by rw [hR]; exact (Nat.le_of_ble_eq_true rfl)), (by rw [hR]; exact (Nat.le_of_ble_eq_true rfl))⟩) hS hP (fun z98 H locs hz98 hP hS => ?_)
                obtain ⟨bz98, fez98⟩ := hz98
                obtain rfl : z13 = z98 := fez13.trans fez98.symm
                refine lv_icmp_gt (tgt := 159) hx hb dX7_dense_101 (by decide) (fun c101 => ?_) (fun c101 => ?_)
                · have t101 := tq_lt (k := z13.toInt) (q := z95.toInt) c101 rfl rfl
                  obtain ⟨z159, ez159⟩ : ∃ y : Int32, y = v65_8 + 1 := ⟨_, rfl⟩
                  refine lv_iinc (v := z159) (lv' := [(8, .int z159), (0, .ref p0), (1, .int p1), (2, .int p2), (3, .int p3), (4, .int p4), (5, .int v92_5), (6, .int v92_6), (7, .int v92_7), (9, .int v92_9), (10, .int v92_10)]) hx hb dX7_dense_159 hl (k := 8) rfl (by rw [ez159]; rfl) (by decide) rfl (fun ls hl => ?_)
                  have bz159 := tq_add (k := v65_8.toInt) (q := 1) ez159 rfl (by decide +kernel) (by omega) (by omega)
                  refine lv_goto (tgt := 65) hx hb dX7_dense_162 (by decide) ?_
                  exact ih65 _ (by omega) v92_5 v92_6 v92_7 z159 _ _ _ rfl ⟨by omega, by have := fb_rng v92_5; omega⟩ ⟨by omega, by omega⟩ ⟨by omega, by omega⟩ ⟨by omega, by omega⟩ (fun σ ok h => by have q := xpz2.1 t5; rw [cm_0 h] at q; have o := ok.2.2.1 p1.toInt.toNat (by omega); have o1 := o.1; have o2 := o.2.1; have eW_ : (mW σ p1).toInt = (σ.1.1 (3 + p1.toInt.toNat)).toInt := rfl; have eH_ : (mH σ p1).toInt = (σ.1.1 (11 + p1.toInt.toNat)).toInt := rfl; have e13 : z13.toInt = (mW σ p1).toInt := congrArg Int32.toInt ((show z13 = I (a0 Q p0 0) (3 + p1.toInt.toNat) from fez13).trans (cmA_n h (by omega))); have e28 : z28.toInt = (mH σ p1).toInt := congrArg Int32.toInt ((show z28 = I (a0 Q p0 0) (11 + p1.toInt.toNat) from fez28).trans (cmA_n h (by omega))); exact mx_nl (g92 σ ok h).2 (by omega) (by omega)) hP hS (lv_sub hl [1, 2, 3, 4, 5, 6, 7, 8, 0] rfl)
                · have t101 := tq_nlt (k := z13.toInt) (q := z95.toInt) c101 rfl rfl
                  refine lv_iload hx hb dX7_dense_104 (lv_at hl 9 rfl) ?_
                  refine lv_iload hx hb dX7_dense_106 (lv_at hl 5 rfl) ?_
                  have j123 : ∀ (v123_5 : Int32) (v123_6 : Int32) (v123_7 : Int32) (H : Heap) (lo : List Loc) (ls : Array Slot), ((-1) ≤ v123_5.toInt ∧ v123_5.toInt ≤ 2147483647) → ((0) ≤ v123_6.toInt ∧ v123_6.toInt ≤ 101) → ((0) ≤ v123_7.toInt ∧ v123_7.toInt ≤ 41) → (∀ σ : Sx, okF σ.1 → cmA Q I J p0 σ → mxI (dnN σ p1 p2 p3) ((mW σ p1).toInt - p2.toInt) ((mH σ p1).toInt - p3.toInt) v65_8.toInt (v92_10.toInt + 1) v123_5.toInt v123_6.toInt v123_7.toInt) → va_P (dC, dI) vwCl (Wd cs L K I J Q) H → va_S (fun _ => False) s.heap H lo → lv_has ls 11 [(0, .ref p0), (1, .int p1), (2, .int p2), (3, .int p3), (4, .int p4), (5, .int v123_5), (6, .int v123_6), (7, .int v123_7), (8, .int v65_8), (9, .int v92_9), (10, .int v92_10)] → W p l e R s m (([.ref p0, .int p1, .int p2, .int p3, .int p4] : List Value).toArray) below meth c H lo 0 0 Qz (F0 m 123 ls []) := by
                    intro v123_5 v123_6 v123_7 H lo ls bv123_5 bv123_6 bv123_7 g123 hP hS hl
                    refine lv_iload hx hb dX7_dense_123 (lv_at hl 9 rfl) ?_
                    refine lv_aload_n hx hb dX7_dense_125 rfl (lv_at hl 0 rfl) ?_
                    refine lv_iload_n hx hb dX7_dense_126 rfl (lv_at hl 1 rfl) ?_
                    refine lv_iload hx hb dX7_dense_127 (lv_at hl 10 rfl) ?_
                    refine lv_iload_n hx hb dX7_dense_129 rfl (lv_at hl 2 rfl) ?_
                    refine lv_iadd hx hb dX7_dense_130 ?_
                    refine lv_topi (fun z130 ez130 => ?_)
                    have bz130 := tq_add (k := v92_10.toInt) (q := p2.toInt) ez130 rfl rfl (by omega) (by omega)
                    refine lv_iload hx hb dX7_dense_131 (lv_at hl 8 rfl) ?_
                    refine lv_iconst (v := 1) hx hb dX7_dense_133 (by decide +kernel) ?_
                    refine lv_iload_n hx hb dX7_dense_134 rfl (lv_at hl 3 rfl) ?_
                    refine ro_i (va_runV (As := [.int p1, .int z130, .int v65_8, .int 1, .int p3]) (rest := [.int v92_9]) ⟨hx, hb, hml, hown, hts⟩ (s_X7_within l dC dI cs L K G Q hQ x0 m0 tx tm H.size I J hI p0 hLp0 hKp0 p1 ⟨by omega, by omega⟩ z130 v65_8 1 p3) (cwV 5 hts (gV pq1682 pq1684 pq70 pq81 pq1685) rfl rfl rfl (by decide +kernel) ⟨(by rw [hR]; exact (Nat.le_of_ble_eq_true rfl)), (by rw [hR]; exact (Nat.le_of_ble_eq_true rfl))⟩) (sP_V hP hD hK hN hLp0 hKp0 rfl rfl) rfl rfl hl.1 rfl (lv_room (Nat.le_of_ble_eq_true rfl)) dX7_dense_135 ⟨(by rw [hR]; exact (Nat.le_of_ble_eq_true rfl)), (by rw [hR]; exact (Nat.le_of_ble_eq_true rfl))⟩) hS hP (fun z135 H locs hz135 hP hS => ?_)
                    have cst135_1 : (1 : Int32).toInt = 1 := by decide +kernel
                    have xpz135 := hz135
                    try rw [cst135_1] at xpz135
                    refine lv_aload_n hx hb dX7_dense_138 rfl (lv_at hl 0 rfl) ?_
                    refine lv_iload_n hx hb dX7_dense_139 rfl (lv_at hl 1 rfl) ?_
                    refine lv_iload hx hb dX7_dense_140 (lv_at hl 10 rfl) ?_
                    refine lv_iload hx hb dX7_dense_142 (lv_at hl 8 rfl) ?_
                    refine lv_iconst (v := 1) hx hb dX7_dense_144 (by decide +kernel) ?_
                    refine lv_iload_n hx hb dX7_dense_145 rfl (lv_at hl 3 rfl) ?_
                    refine ro_i (va_runV (As := [.int p1, .int v92_10, .int v65_8, .int 1, .int p3]) (rest := [.int z135, .int v92_9]) ⟨hx, hb, hml, hown, hts⟩ (s_X7_within l dC dI cs L K G Q hQ x0 m0 tx tm H.size I J hI p0 hLp0 hKp0 p1 ⟨by omega, by omega⟩ v92_10 v65_8 1 p3) (cwV 5 hts (gV pq1682 pq1684 pq70 pq81 pq1685) rfl rfl rfl (by decide +kernel) ⟨(by rw [hR]; exact (Nat.le_of_ble_eq_true rfl)), (by rw [hR]; exact (Nat.le_of_ble_eq_true rfl))⟩) (sP_V hP hD hK hN hLp0 hKp0 rfl rfl) rfl rfl hl.1 rfl (lv_room (Nat.le_of_ble_eq_true rfl)) dX7_dense_146 ⟨(by rw [hR]; exact (Nat.le_of_ble_eq_true rfl)), (by rw [hR]; exact (Nat.le_of_ble_eq_true rfl))⟩) hS hP (fun z146 H locs hz146 hP hS => ?_)
                    have cst146_1 : (1 : Int32).toInt = 1 := by decide +kernel
                    have xpz146 := hz146
                    try rw [cst146_1] at xpz146
                    refine lv_isub hx hb dX7_dense_149 ?_
                    refine lv_topi (fun z149 ez149 => ?_)
                    refine lv_iadd hx hb dX7_dense_150 ?_
                    refine lv_topi (fun z150 ez150 => ?_)
                    refine lv_istore (lv' := [(9, .int z150), (0, .ref p0), (1, .int p1), (2, .int p2), (3, .int p3), (4, .int p4), (5, .int v123_5), (6, .int v123_6), (7, .int v123_7), (8, .int v65_8), (10, .int v92_10)]) hx hb dX7_dense_151 hl (by decide) rfl (fun ls hl => ?_)
                    obtain ⟨z153, ez153⟩ : ∃ y : Int32, y = v92_10 + 1 := ⟨_, rfl⟩
                    refine lv_iinc (v := z153) (lv' := [(10, .int z153), (9, .int z150), (0, .ref p0), (1, .int p1), (2, .int p2), (3, .int p3), (4, .int p4), (5, .int v123_5), (6, .int v123_6), (7, .int v123_7), (8, .int v65_8)]) hx hb dX7_dense_153 hl (k := 10) rfl (by rw [ez153]; rfl) (by decide) rfl (fun ls hl => ?_)
                    have bz153 := tq_add (k := v92_10.toInt) (q := 1) ez153 rfl (by decide +kernel) (by omega) (by omega)
                    refine lv_goto (tgt := 92) hx hb dX7_dense_156 (by decide) ?_
                    exact ih92 _ (by omega) z153 v123_5 v123_6 v123_7 z150 _ _ _ rfl ⟨by omega, by omega⟩ ⟨by omega, by have := fb_rng v123_5; omega⟩ ⟨by omega, by omega⟩ ⟨by omega, by omega⟩ (fun σ ok h => by have q := xpz2.1 t5; rw [cm_0 h] at q; have o := ok.2.2.1 p1.toInt.toNat (by omega); have o1 := o.1; have o2 := o.2.1; have eW_ : (mW σ p1).toInt = (σ.1.1 (3 + p1.toInt.toNat)).toInt := rfl; have eH_ : (mH σ p1).toInt = (σ.1.1 (11 + p1.toInt.toNat)).toInt := rfl; have e13 : z13.toInt = (mW σ p1).toInt := congrArg Int32.toInt ((show z13 = I (a0 Q p0 0) (3 + p1.toInt.toNat) from fez13).trans (cmA_n h (by omega))); have e28 : z28.toInt = (mH σ p1).toInt := congrArg Int32.toInt ((show z28 = I (a0 Q p0 0) (11 + p1.toInt.toNat) from fez28).trans (cmA_n h (by omega))); have w1 := xpz135 σ.1 ok (cmA_rI h) (cmA_rJ h) (by omega) ⟨⟨by omega, by omega⟩, ⟨by omega, by omega⟩, ⟨by decide +kernel, by first | omega | (rw [show (1 : Int32).toInt = 1 from by decide +kernel]; omega)⟩, by omega, by omega⟩; have w2 := xpz146 σ.1 ok (cmA_rI h) (cmA_rJ h) (by omega) ⟨⟨by omega, by omega⟩, ⟨by omega, by omega⟩, ⟨by decide +kernel, by first | omega | (rw [show (1 : Int32).toInt = 1 from by decide +kernel]; omega)⟩, by omega, by omega⟩; (try rw [show (1 : Int32).toInt = 1 from by decide +kernel] at w1); (try rw [show (1 : Int32).toInt = 1 from by decide +kernel] at w2); have g := (g92 σ ok h).1; have S := rc_slide (f := mF σ p1) (x := v92_10.toInt) (y := v65_8.toInt) (w := p2.toInt) (h := p3.toInt) (x1 := z153.toInt) (xw := z130.toInt) (by omega) (by omega) (by omega); have b0 := rc_b (mF σ p1) v92_10.toInt v65_8.toInt p2.toInt p3.toInt; have b1 := rc_b (mF σ p1) z130.toInt v65_8.toInt 1 p3.toInt; have b2 := rc_b (mF σ p1) v92_10.toInt v65_8.toInt 1 p3.toInt; rw [← w1] at b1 S; rw [← w2] at b2 S; unfold dnN at g ⊢; rw [← g] at b0 S; have a149 := tq_sub (k := z135.toInt) (q := z146.toInt) ez149 rfl rfl (by omega) (by omega); have a150 := tq_add (k := v92_9.toInt) (q := z149.toInt) ez150 rfl rfl (by omega) (by omega); refine ⟨by rw [S]; omega, ?_⟩; rw [show z153.toInt = v92_10.toInt + 1 by omega]; exact g123 σ ok h) hP hS (lv_sub hl [2, 3, 4, 5, 6, 7, 8, 9, 10, 1, 0] rfl)
                  refine lv_icmp_le (tgt := 123) hx hb dX7_dense_108 (by decide) (fun c108 => ?_) (fun c108 => ?_)
                  · have t108 := tq_le (k := v92_9.toInt) (q := v92_5.toInt) c108 rfl rfl
                    exact j123 v92_5 v92_6 v92_7 _ _ _ ⟨by omega, by have := fb_rng v92_5; omega⟩ ⟨by omega, by omega⟩ ⟨by omega, by omega⟩ (fun σ ok h => by have q := xpz2.1 t5; rw [cm_0 h] at q; have o := ok.2.2.1 p1.toInt.toNat (by omega); have o1 := o.1; have o2 := o.2.1; have eW_ : (mW σ p1).toInt = (σ.1.1 (3 + p1.toInt.toNat)).toInt := rfl; have eH_ : (mH σ p1).toInt = (σ.1.1 (11 + p1.toInt.toNat)).toInt := rfl; have e13 : z13.toInt = (mW σ p1).toInt := congrArg Int32.toInt ((show z13 = I (a0 Q p0 0) (3 + p1.toInt.toNat) from fez13).trans (cmA_n h (by omega))); have e28 : z28.toInt = (mH σ p1).toInt := congrArg Int32.toInt ((show z28 = I (a0 Q p0 0) (11 + p1.toInt.toNat) from fez28).trans (cmA_n h (by omega))); have g := (g92 σ ok h).1; have v0 := rc_b (mF σ p1) v92_10.toInt v65_8.toInt p2.toInt p3.toInt; have g2 := g; unfold dnN at g2; rw [← g2] at v0; exact mx_old (g92 σ ok h).2 g (by omega) (by omega) rfl) hP hS (lv_sub hl [0, 1, 2, 3, 4, 5, 6, 7, 8, 9, 10] rfl)
                  · have t108 := tq_nle (k := v92_9.toInt) (q := v92_5.toInt) c108 rfl rfl
                    have rg108v92_9 := fb_rng v92_9
                    have rg108v92_5 := fb_rng v92_5
                    refine lv_iload hx hb dX7_dense_111 (lv_at hl 9 rfl) ?_
                    refine lv_istore (lv' := [(5, .int v92_9), (0, .ref p0), (1, .int p1), (2, .int p2), (3, .int p3), (4, .int p4), (6, .int v92_6), (7, .int v92_7), (8, .int v65_8), (9, .int v92_9), (10, .int v92_10)]) hx hb dX7_dense_113 hl (by decide) rfl (fun ls hl => ?_)
                    refine lv_iload hx hb dX7_dense_115 (lv_at hl 10 rfl) ?_
                    refine lv_istore (lv' := [(6, .int v92_10), (5, .int v92_9), (0, .ref p0), (1, .int p1), (2, .int p2), (3, .int p3), (4, .int p4), (7, .int v92_7), (8, .int v65_8), (9, .int v92_9), (10, .int v92_10)]) hx hb dX7_dense_117 hl (by decide) rfl (fun ls hl => ?_)
                    refine lv_iload hx hb dX7_dense_119 (lv_at hl 8 rfl) ?_
                    refine lv_istore (lv' := [(7, .int v65_8), (6, .int v92_10), (5, .int v92_9), (0, .ref p0), (1, .int p1), (2, .int p2), (3, .int p3), (4, .int p4), (8, .int v65_8), (9, .int v92_9), (10, .int v92_10)]) hx hb dX7_dense_121 hl (by decide) rfl (fun ls hl => ?_)
                    exact j123 v92_9 v92_10 v65_8 _ _ _ ⟨by omega, by have := fb_rng v92_9; omega⟩ ⟨by omega, by omega⟩ ⟨by omega, by omega⟩ (fun σ ok h => by have q := xpz2.1 t5; rw [cm_0 h] at q; have o := ok.2.2.1 p1.toInt.toNat (by omega); have o1 := o.1; have o2 := o.2.1; have eW_ : (mW σ p1).toInt = (σ.1.1 (3 + p1.toInt.toNat)).toInt := rfl; have eH_ : (mH σ p1).toInt = (σ.1.1 (11 + p1.toInt.toNat)).toInt := rfl; have e13 : z13.toInt = (mW σ p1).toInt := congrArg Int32.toInt ((show z13 = I (a0 Q p0 0) (3 + p1.toInt.toNat) from fez13).trans (cmA_n h (by omega))); have e28 : z28.toInt = (mH σ p1).toInt := congrArg Int32.toInt ((show z28 = I (a0 Q p0 0) (11 + p1.toInt.toNat) from fez28).trans (cmA_n h (by omega))); have g := (g92 σ ok h).1; have v0 := rc_b (mF σ p1) v92_10.toInt v65_8.toInt p2.toInt p3.toInt; have g2 := g; unfold dnN at g2; rw [← g2] at v0; exact mx_new (g92 σ ok h).2 g (by omega) ⟨by omega, by omega⟩ ⟨by omega, by omega⟩ rfl) hP hS (lv_sub hl [3, 4, 5, 6, 7, 2, 1, 0, 8, 9, 10] rfl))
              exact key92 _ 0 v65_5 v65_6 v65_7 z84 _ _ _ rfl ⟨by decide +kernel, by decide +kernel⟩ ⟨by omega, by have := fb_rng v65_5; omega⟩ ⟨by omega, by omega⟩ ⟨by omega, by omega⟩ (fun σ ok h => by have q := xpz2.1 t5; rw [cm_0 h] at q; have o := ok.2.2.1 p1.toInt.toNat (by omega); have o1 := o.1; have o2 := o.2.1; have eW_ : (mW σ p1).toInt = (σ.1.1 (3 + p1.toInt.toNat)).toInt := rfl; have eH_ : (mH σ p1).toInt = (σ.1.1 (11 + p1.toInt.toNat)).toInt := rfl; have e13 : z13.toInt = (mW σ p1).toInt := congrArg Int32.toInt ((show z13 = I (a0 Q p0 0) (3 + p1.toInt.toNat) from fez13).trans (cmA_n h (by omega))); have e28 : z28.toInt = (mH σ p1).toInt := congrArg Int32.toInt ((show z28 = I (a0 Q p0 0) (11 + p1.toInt.toNat) from fez28).trans (cmA_n h (by omega))); have w := xpz84 σ.1 ok (cmA_rI h) (cmA_rJ h) (by omega) ⟨⟨by decide +kernel, by decide +kernel⟩, ⟨by omega, by omega⟩, ⟨by omega, by first | omega | (rw [show (0 : Int32).toInt = 0 from by decide +kernel]; omega)⟩, by omega, by omega⟩; rw [show (0 : Int32).toInt = 0 from by decide +kernel]; (try rw [show (0 : Int32).toInt = 0 from by decide +kernel] at w); exact ⟨w, g65 σ ok h⟩) hP hS (lv_sub hl [2, 3, 4, 5, 6, 7, 8, 9, 10, 1, 0] rfl))
          exact key65 _ (-1) 0 0 0 _ _ _ rfl ⟨by decide +kernel, by decide +kernel⟩ ⟨by decide +kernel, by decide +kernel⟩ ⟨by decide +kernel, by decide +kernel⟩ ⟨by decide +kernel, by decide +kernel⟩ (fun σ ok h => by rw [show (0 : Int32).toInt = 0 from by decide +kernel, show (-1 : Int32).toInt = -1 from by decide +kernel]; exact mx_0) hP hS (lv_sub hl [4, 5, 6, 7, 8, 3, 2, 1, 0] rfl)
        · have t48 := tq_eq (k := z45.toInt) (q := (0)) c48 rfl (by decide +kernel)
          refine lv_iconst (v := (-1)) hx hb dX7_dense_51 (by decide +kernel) ?_
          subst hR; subst hQz
          exact W.iret (v := (-1)) hx hb hr (fun t ht hW => ⟨⟨(-1), (), rfl, (fun σ ok h => by refine ⟨fun w => absurd w (fun w => ?_), fun _ => by decide +kernel⟩; obtain ⟨w1, w2, w3, w4⟩ := w; first | exact xpz2.2 t5 (by rw [cm_0 h]; exact w1) | (have e13 : z13.toInt = (mW σ p1).toInt := congrArg Int32.toInt ((show z13 = I (a0 Q p0 0) (3 + p1.toInt.toNat) from fez13).trans (cmA_n h (by omega))); exact xpz17 t20 ⟨by omega, by omega⟩) | (have e28 : z28.toInt = (mH σ p1).toInt := congrArg Int32.toInt ((show z28 = I (a0 Q p0 0) (11 + p1.toInt.toNat) from fez28).trans (cmA_n h (by omega))); exact xpz32 t35 ⟨by omega, by omega⟩) | exact xpz45 t48 ⟨by omega, by omega⟩), trivial⟩, hS.F ht⟩) hS.2.2 dX7_dense_52

set_option maxHeartbeats 4000000 in
set_option maxRecDepth 100000 in
theorem s_X7_dots (l : Launch) (dC : Nat → ClassId) (dI : Nat → Nat → Nat) (cs : Nat → ClassId) (L : List Nat) (K G : Nat → Nat) (Q : Nat → Nat → Option Nat) (hQ : Sv L K G Q) (x0 m0 : Nat) (tx : GT) (tm : GT × Int) (sz : Nat) (I : Nat → Nat → Int32) (J : Nat → Nat → Int64) (hI : Iv L K x0 m0 tx tm I) (p0 : Nat) (hLp0 : p0 ∈ L) (hKp0 : K p0 = 7) (p1 : Int32) (p2 : Int32) (bp2 : (0) ≤ p2.toInt ∧ p2.toInt ≤ 1) (p3 : Int32) : Met l yX7_dots (.code yX7_dots cX7_dots 4 (some .int) :: pw) ({ frames := 3, cells := 0, slots := 0, locals := 76 }) (sP (dC, dI) cs [.ref p0, .int p1, .int p2, .int p3] sz L K I J Q) (va_Qi (fun (r : Int32) (_ : Unit) => (∀ σ : Sx, okF σ.1 → cmA Q I J p0 σ → r.toInt = dtsR σ p1 p2 p3)) (fun _ _ => True) (fun _ => False)) 0 0 (fun _ => False) := by
  refine Met.ofW (cc := cX7_dots) (maxL := 4) (ret := (some .int)) (by decide +kernel) rfl ?_
  intro p e s m args below meth c s₁ B hml hv
  obtain ⟨rfl, hsz, hP, hK, hD0, hN⟩ := hv
  have hx := B.exec
  have hb := B.bytes
  have hr := B.returns
  have hts := fun w (h : w ∈ pw) => atoms_spec (ws := Cond.code yX7_dots cX7_dots 4 (some .int) :: pw) B.pre w (List.mem_cons_of_mem _ h)
  have hown : s.vm.findClass RX7 = some m.cls := findClass_of_methodNamed B.named
  have hlocks := B.notSynchronized
  subst hsz
  have hBB : 999 ≤ tm.2 ∧ tm.2 ≤ 6000000 := hI.2.2.2.2.1
  have hD := hD0
  obtain ⟨H, hHe⟩ : ∃ H : Heap, H = s.heap := ⟨_, rfl⟩
  have hS : va_S (fun _ => False) s.heap H [] := by rw [hHe]; exact va_S.rf
  rw [← hHe] at hP
  have hl := lv_entry ([.ref p0, .int p1, .int p2, .int p3]) (n := 4) (Nat.le_of_ble_eq_true rfl)
  rw [lg_entry_eq]
  generalize (lg_sl ([.ref p0, .int p1, .int p2, .int p3]) ++ List.replicate (4 - (lg_sl ([.ref p0, .int p1, .int p2, .int p3])).length) Slot.unset).toArray = ls at hl ⊢
  have hl : lv_has ls 4 [(0, .ref p0), (1, .int p1), (2, .int p2), (3, .int p3)] := hl
  rw [← hHe]
  refine namedW (fun R Qz hR hQz => ?_)
  refine lv_aload_n hx hb dX7_dots_0 rfl (lv_at hl 0 rfl) ?_
  refine lv_iload_n hx hb dX7_dots_1 rfl (lv_at hl 1 rfl) ?_
  refine ro_i (va_runV (As := [.int p1]) (rest := []) ⟨hx, hb, hml, hown, hts⟩ (s_X7_isMask l dC dI cs L K G Q hQ x0 m0 tx tm H.size I J hI p0 hLp0 hKp0 p1) (cwV 1 hts (gV pq1364 pq1366 pq31 pq81 pq1367) rfl rfl rfl (by decide +kernel) ⟨(by rw [hR]; exact (Nat.le_of_ble_eq_true rfl)), (by rw [hR]; exact (Nat.le_of_ble_eq_true rfl))⟩) (sP_V hP hD hK hN hLp0 hKp0 rfl rfl) rfl rfl hl.1 rfl (lv_room (Nat.le_of_ble_eq_true rfl)) dX7_dots_2 ⟨(by rw [hR]; exact (Nat.le_of_ble_eq_true rfl)), (by rw [hR]; exact (Nat.le_of_ble_eq_true rfl))⟩) hS hP (fun z2 H locs hz2 hP hS => ?_)
  obtain ⟨bz2, imz2, xpz2⟩ := hz2
  refine lv_if_eq (tgt := 37) hx hb dX7_dots_5 (by decide) (fun c5 => ?_) (fun c5 => ?_)
  · have t5 := tq_eq (k := z2.toInt) (q := (0)) c5 rfl (by decide +kernel)
    refine lv_iconst (v := (-1)) hx hb dX7_dots_37 (by decide +kernel) ?_
    subst hR; subst hQz
    exact W.iret (v := (-1)) hx hb hr (fun t ht hW => ⟨⟨(-1), (), rfl, (fun σ ok h => by rw [dts_n (fun w => by first | exact xpz2.2 t5 (by rw [cm_0 h]; exact w.1) | (have g := g28 σ ok h; have a := w.2; rw [← g] at a; exact xpz31 t34 ⟨by omega, by omega⟩))]; decide +kernel), trivial⟩, hS.F ht⟩) hS.2.2 dX7_dots_38
  · have t5 := tq_ne (k := z2.toInt) (q := (0)) c5 rfl (by decide +kernel)
    have i5 := imz2 t5
    refine lv_iload_n hx hb dX7_dots_8 rfl (lv_at hl 3 rfl) ?_
    refine lv_i2l hx hb dX7_dots_9 rfl ?_
    refine lv_topl (fun z9 ez9 => ?_)
    have bz9 := tq_i2l (k := p3.toInt) ez9 rfl
    refine lv_lconst (v := 0) hx hb dX7_dots_10 (by decide +kernel) ?_
    refine lv_iload_n hx hb dX7_dots_11 rfl (lv_at hl 2 rfl) ?_
    have j28 : ∀ (w28_2 : Int32) (H : Heap) (lo : List Loc) (ls : Array Slot), ((-300) ≤ w28_2.toInt ∧ w28_2.toInt ≤ 100) → (∀ σ : Sx, okF σ.1 → cmA Q I J p0 σ → w28_2.toInt = (if p2.toInt = 0 then (mH σ p1).toInt else (mW σ p1).toInt)) → va_P (dC, dI) vwCl (Wd cs L K I J Q) H → va_S (fun _ => False) s.heap H lo → lv_has ls 4 [(0, .ref p0), (1, .int p1), (2, .int p2), (3, .int p3)] → W p l e R s m (([.ref p0, .int p1, .int p2, .int p3] : List Value).toArray) below meth c H lo 0 0 Qz (F0 m 28 ls [.int w28_2, .long 0, .long z9]) := by
      intro w28_2 H lo ls bw28_2 g28 hP hS hl
      refine lv_iconst (v := 1) hx hb dX7_dots_28 (by decide +kernel) ?_
      refine lv_isub hx hb dX7_dots_29 ?_
      refine lv_topi (fun z29 ez29 => ?_)
      have bz29 := tq_sub (k := w28_2.toInt) (q := (1)) ez29 rfl (by decide +kernel) (by omega) (by omega)
      refine lv_i2l hx hb dX7_dots_30 rfl ?_
      refine lv_topl (fun z30 ez30 => ?_)
      have bz30 := tq_i2l (k := z29.toInt) ez30 rfl
      refine ro_i (va_runS (As := [.long z9, .long 0, .long z30]) (rest := []) ⟨hx, hb, hml, hown, hts⟩ (s_X7_in l dC dI cs L K Q H.size I J z9 0 z30) (va_cwS 3 hts (gS pq1234 pq1235 pq81 pq1236) rfl rfl rfl (by decide +kernel) ⟨(by rw [hR]; exact (Nat.le_of_ble_eq_true rfl)), (by rw [hR]; exact (Nat.le_of_ble_eq_true rfl))⟩) (sP_S hP hD hK hN) rfl rfl hl.1 rfl (lv_room (Nat.le_of_ble_eq_true rfl)) dX7_dots_31 ⟨(by rw [hR]; exact (Nat.le_of_ble_eq_true rfl)), (by rw [hR]; exact (Nat.le_of_ble_eq_true rfl))⟩) hS hP (fun z31 H locs hz31 hP hS => ?_)
      have csl31_0 : (0 : Int64).toInt = 0 := by decide +kernel
      obtain ⟨bz31, imz31, xpz31⟩ := hz31
      refine lv_if_ne (tgt := 39) hx hb dX7_dots_34 (by decide) (fun c34 => ?_) (fun c34 => ?_)
      · have t34 := tq_ne (k := z31.toInt) (q := (0)) c34 rfl (by decide +kernel)
        have i34 := imz31 t34
        refine lv_iload_n hx hb dX7_dots_39 rfl (lv_at hl 2 rfl) ?_
        refine lv_if_eq (tgt := 59) hx hb dX7_dots_40 (by decide) (fun c40 => ?_) (fun c40 => ?_)
        · have t40 := tq_eq (k := p2.toInt) (q := (0)) c40 rfl (by decide +kernel)
          refine lv_aload_n hx hb dX7_dots_59 rfl (lv_at hl 0 rfl) ?_
          refine lv_iload_n hx hb dX7_dots_60 rfl (lv_at hl 1 rfl) ?_
          refine lv_iconst (v := 0) hx hb dX7_dots_61 (by decide +kernel) ?_
          refine lv_iload_n hx hb dX7_dots_62 rfl (lv_at hl 3 rfl) ?_
          refine lv_aload_n hx hb dX7_dots_63 rfl (lv_at hl 0 rfl) ?_
          refine lv_iload_n hx hb dX7_dots_64 rfl (lv_at hl 1 rfl) ?_
          refine ro_i (va_runV (As := [.int p1]) (rest := [.int p3, .int 0, .int p1, .ref p0]) ⟨hx, hb, hml, hown, hts⟩ (s_X7_wide l dC dI cs L K G Q hQ x0 m0 tx tm H.size I J hI p0 hLp0 hKp0 p1 ⟨by omega, by omega⟩) (cwV 1 hts (gV pq1368 pq1370 pq32 pq81 pq1371) rfl rfl rfl (by decide +kernel) ⟨(by rw [hR]; exact (Nat.le_of_ble_eq_true rfl)), (by rw [hR]; exact (Nat.le_of_ble_eq_true rfl))⟩) (sP_V hP hD hK hN hLp0 hKp0 rfl rfl) rfl rfl hl.1 rfl (lv_room (Nat.le_of_ble_eq_true rfl)) dX7_dots_65 ⟨(by rw [hR]; exact (Nat.le_of_ble_eq_true rfl)), (by rw [hR]; exact (Nat.le_of_ble_eq_true rfl))⟩) hS hP (fun z65 H locs hz65 hP hS => ?_)
          obtain ⟨bz65, fez65⟩ := hz65
          refine lv_iconst (v := 1) hx hb dX7_dots_68 (by decide +kernel) ?_
          refine ro_i (va_runV (As := [.int p1, .int 0, .int p3, .int z65, .int 1]) (rest := []) ⟨hx, hb, hml, hown, hts⟩ (s_X7_within l dC dI cs L K G Q hQ x0 m0 tx tm H.size I J hI p0 hLp0 hKp0 p1 ⟨by omega, by omega⟩ 0 p3 z65 1) (cwV 5 hts (gV pq1682 pq1684 pq70 pq81 pq1685) rfl rfl rfl (by decide +kernel) ⟨(by rw [hR]; exact (Nat.le_of_ble_eq_true rfl)), (by rw [hR]; exact (Nat.le_of_ble_eq_true rfl))⟩) (sP_V hP hD hK hN hLp0 hKp0 rfl rfl) rfl rfl hl.1 rfl (lv_room (Nat.le_of_ble_eq_true rfl)) dX7_dots_69 ⟨(by rw [hR]; exact (Nat.le_of_ble_eq_true rfl)), (by rw [hR]; exact (Nat.le_of_ble_eq_true rfl))⟩) hS hP (fun z69 H locs hz69 hP hS => ?_)
          have cst69_0 : (0 : Int32).toInt = 0 := by decide +kernel
          have cst69_1 : (1 : Int32).toInt = 1 := by decide +kernel
          have xpz69 := hz69
          try rw [cst69_0] at xpz69
          try rw [cst69_1] at xpz69
          subst hR; subst hQz
          exact W.iret (v := z69) hx hb hr (fun t ht hW => ⟨⟨z69, (), rfl, (fun σ ok h => by have q := xpz2.1 t5; rw [cm_0 h] at q; have o := ok.2.2.1 p1.toInt.toNat (by omega); have o1 := o.1; have o2 := o.2.1; have eW_ : (mW σ p1).toInt = (σ.1.1 (3 + p1.toInt.toNat)).toInt := rfl; have eH_ : (mH σ p1).toInt = (σ.1.1 (11 + p1.toInt.toNat)).toInt := rfl; have g := g28 σ ok h; have V : dtsV σ p1 p2 p3 := ⟨q, by omega, by rw [← g]; omega⟩; rw [dts_y V]; unfold dtsN; have e65 : z65.toInt = (mW σ p1).toInt := congrArg Int32.toInt ((show z65 = I (a0 Q p0 0) (3 + p1.toInt.toNat) from fez65).trans (cmA_n h (by omega))); rw [if_pos t40]; rw [if_pos t40] at g; have w := xpz69 σ.1 ok (cmA_rI h) (cmA_rJ h) (by omega) ⟨⟨by decide +kernel, by decide +kernel⟩, ⟨by omega, by omega⟩, ⟨by omega, by first | omega | (rw [show (0 : Int32).toInt = 0 from by decide +kernel]; omega)⟩, by decide +kernel, by first | omega | (rw [show (1 : Int32).toInt = 1 from by decide +kernel]; omega)⟩; (try rw [show (0 : Int32).toInt = 0 from by decide +kernel] at w); (try rw [show (1 : Int32).toInt = 1 from by decide +kernel] at w); rw [w, e65]), trivial⟩, hS.F ht⟩) hS.2.2 dX7_dots_72
        · have t40 := tq_ne (k := p2.toInt) (q := (0)) c40 rfl (by decide +kernel)
          refine lv_aload_n hx hb dX7_dots_43 rfl (lv_at hl 0 rfl) ?_
          refine lv_iload_n hx hb dX7_dots_44 rfl (lv_at hl 1 rfl) ?_
          refine lv_iload_n hx hb dX7_dots_45 rfl (lv_at hl 3 rfl) ?_
          refine lv_iconst (v := 0) hx hb dX7_dots_46 (by decide +kernel) ?_
          refine lv_iconst (v := 1) hx hb dX7_dots_47 (by decide +kernel) ?_
          refine lv_aload_n hx hb dX7_dots_48 rfl (lv_at hl 0 rfl) ?_
          refine lv_iload_n hx hb dX7_dots_49 rfl (lv_at hl 1 rfl) ?_
          refine ro_i (va_runV (As := [.int p1]) (rest := [.int 1, .int 0, .int p3, .int p1, .ref p0]) ⟨hx, hb, hml, hown, hts⟩ (s_X7_high l dC dI cs L K G Q hQ x0 m0 tx tm H.size I J hI p0 hLp0 hKp0 p1 ⟨by omega, by omega⟩) (cwV 1 hts (gV pq1372 pq1374 pq33 pq81 pq1375) rfl rfl rfl (by decide +kernel) ⟨(by rw [hR]; exact (Nat.le_of_ble_eq_true rfl)), (by rw [hR]; exact (Nat.le_of_ble_eq_true rfl))⟩) (sP_V hP hD hK hN hLp0 hKp0 rfl rfl) rfl rfl hl.1 rfl (lv_room (Nat.le_of_ble_eq_true rfl)) dX7_dots_50 ⟨(by rw [hR]; exact (Nat.le_of_ble_eq_true rfl)), (by rw [hR]; exact (Nat.le_of_ble_eq_true rfl))⟩) hS hP (fun z50 H locs hz50 hP hS => ?_)
          obtain ⟨bz50, fez50⟩ := hz50
          refine ro_i (va_runV (As := [.int p1, .int p3, .int 0, .int 1, .int z50]) (rest := []) ⟨hx, hb, hml, hown, hts⟩ (s_X7_within l dC dI cs L K G Q hQ x0 m0 tx tm H.size I J hI p0 hLp0 hKp0 p1 ⟨by omega, by omega⟩ p3 0 1 z50) (cwV 5 hts (gV pq1682 pq1684 pq70 pq81 pq1685) rfl rfl rfl (by decide +kernel) ⟨(by rw [hR]; exact (Nat.le_of_ble_eq_true rfl)), (by rw [hR]; exact (Nat.le_of_ble_eq_true rfl))⟩) (sP_V hP hD hK hN hLp0 hKp0 rfl rfl) rfl rfl hl.1 rfl (lv_room (Nat.le_of_ble_eq_true rfl)) dX7_dots_53 ⟨(by rw [hR]; exact (Nat.le_of_ble_eq_true rfl)), (by rw [hR]; exact (Nat.le_of_ble_eq_true rfl))⟩) hS hP (fun z53 H locs hz53 hP hS => ?_)
          have cst53_0 : (0 : Int32).toInt = 0 := by decide +kernel
          have cst53_1 : (1 : Int32).toInt = 1 := by decide +kernel
          have xpz53 := hz53
          try rw [cst53_0] at xpz53
          try rw [cst53_1] at xpz53
          refine lv_goto (tgt := 72) hx hb dX7_dots_56 (by decide) ?_
          subst hR; subst hQz
          exact W.iret (v := z53) hx hb hr (fun t ht hW => ⟨⟨z53, (), rfl, (fun σ ok h => by have q := xpz2.1 t5; rw [cm_0 h] at q; have o := ok.2.2.1 p1.toInt.toNat (by omega); have o1 := o.1; have o2 := o.2.1; have eW_ : (mW σ p1).toInt = (σ.1.1 (3 + p1.toInt.toNat)).toInt := rfl; have eH_ : (mH σ p1).toInt = (σ.1.1 (11 + p1.toInt.toNat)).toInt := rfl; have g := g28 σ ok h; have V : dtsV σ p1 p2 p3 := ⟨q, by omega, by rw [← g]; omega⟩; rw [dts_y V]; unfold dtsN; have e50 : z50.toInt = (mH σ p1).toInt := congrArg Int32.toInt ((show z50 = I (a0 Q p0 0) (11 + p1.toInt.toNat) from fez50).trans (cmA_n h (by omega))); rw [if_neg t40]; rw [if_neg t40] at g; have w := xpz53 σ.1 ok (cmA_rI h) (cmA_rJ h) (by omega) ⟨⟨by omega, by omega⟩, ⟨by decide +kernel, by decide +kernel⟩, ⟨by decide +kernel, by first | omega | (rw [show (1 : Int32).toInt = 1 from by decide +kernel]; omega)⟩, by omega, by first | omega | (rw [show (0 : Int32).toInt = 0 from by decide +kernel]; omega)⟩; (try rw [show (0 : Int32).toInt = 0 from by decide +kernel] at w); (try rw [show (1 : Int32).toInt = 1 from by decide +kernel] at w); rw [w, e50]), trivial⟩, hS.F ht⟩) hS.2.2 dX7_dots_72
      · have t34 := tq_eq (k := z31.toInt) (q := (0)) c34 rfl (by decide +kernel)
        refine lv_iconst (v := (-1)) hx hb dX7_dots_37 (by decide +kernel) ?_
        subst hR; subst hQz
        exact W.iret (v := (-1)) hx hb hr (fun t ht hW => ⟨⟨(-1), (), rfl, (fun σ ok h => by rw [dts_n (fun w => by first | exact xpz2.2 t5 (by rw [cm_0 h]; exact w.1) | (have g := g28 σ ok h; have a := w.2; rw [← g] at a; exact xpz31 t34 ⟨by omega, by omega⟩))]; decide +kernel), trivial⟩, hS.F ht⟩) hS.2.2 dX7_dots_38
    refine lv_if_eq (tgt := 23) hx hb dX7_dots_12 (by decide) (fun c12 => ?_) (fun c12 => ?_)
    · have t12 := tq_eq (k := p2.toInt) (q := (0)) c12 rfl (by decide +kernel)
      refine lv_aload_n hx hb dX7_dots_23 rfl (lv_at hl 0 rfl) ?_
      refine lv_iload_n hx hb dX7_dots_24 rfl (lv_at hl 1 rfl) ?_
      refine ro_i (va_runV (As := [.int p1]) (rest := [.long 0, .long z9]) ⟨hx, hb, hml, hown, hts⟩ (s_X7_high l dC dI cs L K G Q hQ x0 m0 tx tm H.size I J hI p0 hLp0 hKp0 p1 ⟨by omega, by omega⟩) (cwV 1 hts (gV pq1372 pq1374 pq33 pq81 pq1375) rfl rfl rfl (by decide +kernel) ⟨(by rw [hR]; exact (Nat.le_of_ble_eq_true rfl)), (by rw [hR]; exact (Nat.le_of_ble_eq_true rfl))⟩) (sP_V hP hD hK hN hLp0 hKp0 rfl rfl) rfl rfl hl.1 rfl (lv_room (Nat.le_of_ble_eq_true rfl)) dX7_dots_25 ⟨(by rw [hR]; exact (Nat.le_of_ble_eq_true rfl)), (by rw [hR]; exact (Nat.le_of_ble_eq_true rfl))⟩) hS hP (fun z25 H locs hz25 hP hS => ?_)
      obtain ⟨bz25, fez25⟩ := hz25
      exact j28 z25 _ _ _ ⟨by omega, by omega⟩ (fun σ ok h => by have q := xpz2.1 t5; rw [cm_0 h] at q; have o := ok.2.2.1 p1.toInt.toNat (by omega); have o1 := o.1; have o2 := o.2.1; have eW_ : (mW σ p1).toInt = (σ.1.1 (3 + p1.toInt.toNat)).toInt := rfl; have eH_ : (mH σ p1).toInt = (σ.1.1 (11 + p1.toInt.toNat)).toInt := rfl; have e25 : z25.toInt = (mH σ p1).toInt := congrArg Int32.toInt ((show z25 = I (a0 Q p0 0) (11 + p1.toInt.toNat) from fez25).trans (cmA_n h (by omega))); rw [if_pos t12]; exact e25) hP hS (lv_sub hl [0, 1, 2, 3] rfl)
    · have t12 := tq_ne (k := p2.toInt) (q := (0)) c12 rfl (by decide +kernel)
      refine lv_aload_n hx hb dX7_dots_15 rfl (lv_at hl 0 rfl) ?_
      refine lv_iload_n hx hb dX7_dots_16 rfl (lv_at hl 1 rfl) ?_
      refine ro_i (va_runV (As := [.int p1]) (rest := [.long 0, .long z9]) ⟨hx, hb, hml, hown, hts⟩ (s_X7_wide l dC dI cs L K G Q hQ x0 m0 tx tm H.size I J hI p0 hLp0 hKp0 p1 ⟨by omega, by omega⟩) (cwV 1 hts (gV pq1368 pq1370 pq32 pq81 pq1371) rfl rfl rfl (by decide +kernel) ⟨(by rw [hR]; exact (Nat.le_of_ble_eq_true rfl)), (by rw [hR]; exact (Nat.le_of_ble_eq_true rfl))⟩) (sP_V hP hD hK hN hLp0 hKp0 rfl rfl) rfl rfl hl.1 rfl (lv_room (Nat.le_of_ble_eq_true rfl)) dX7_dots_17 ⟨(by rw [hR]; exact (Nat.le_of_ble_eq_true rfl)), (by rw [hR]; exact (Nat.le_of_ble_eq_true rfl))⟩) hS hP (fun z17 H locs hz17 hP hS => ?_)
      obtain ⟨bz17, fez17⟩ := hz17
      refine lv_goto (tgt := 28) hx hb dX7_dots_20 (by decide) ?_
      exact j28 z17 _ _ _ ⟨by omega, by omega⟩ (fun σ ok h => by have q := xpz2.1 t5; rw [cm_0 h] at q; have o := ok.2.2.1 p1.toInt.toNat (by omega); have o1 := o.1; have o2 := o.2.1; have eW_ : (mW σ p1).toInt = (σ.1.1 (3 + p1.toInt.toNat)).toInt := rfl; have eH_ : (mH σ p1).toInt = (σ.1.1 (11 + p1.toInt.toNat)).toInt := rfl; have e17 : z17.toInt = (mW σ p1).toInt := congrArg Int32.toInt ((show z17 = I (a0 Q p0 0) (3 + p1.toInt.toNat) from fez17).trans (cmA_n h (by omega))); rw [if_neg t12]; exact e17) hP hS (lv_sub hl [0, 1, 2, 3] rfl)
