def yX7_masksMeet : MethodName := ⟨RX7, "masksMeet", "(IIII)Z"⟩
def yX7_areLike : MethodName := ⟨RX7, "areLike", "(III)Z"⟩
def yX7_within : MethodName := ⟨RX7, "within", "(IIIII)I"⟩
abbrev cX7_masksMeet : ByteArray := prog_9_method_111_code
abbrev cX7_areLike : ByteArray := prog_9_method_113_code
abbrev cX7_within : ByteArray := prog_9_method_116_code
abbrev cX7_best : ByteArray := prog_9_method_106_code
abbrev cX7_dense : ByteArray := prog_9_method_117_code
abbrev cX7_letter : ByteArray := prog_9_method_115_code
abbrev cX7_like : ByteArray := prog_9_method_114_code
abbrev cX7_shifts : ByteArray := prog_9_method_112_code
def yX7_best : MethodName := ⟨RX7, "best", "(III)I"⟩
def yX7_dense : MethodName := ⟨RX7, "dense", "(IIII)I"⟩
def yX7_letter : MethodName := ⟨RX7, "letter", "(II)I"⟩
def yX7_like : MethodName := ⟨RX7, "like", "(I)I"⟩
def yX7_shifts : MethodName := ⟨RX7, "shifts", "(II)I"⟩
theorem dX7_areLike_0 : decode cX7_areLike 0 = .ok (.aload_n 0, 1) := by decide +kernel
theorem dX7_areLike_1 : decode cX7_areLike 1 = .ok (.iload_n 1, 1) := by decide +kernel
theorem dX7_areLike_2 : decode cX7_areLike 2 = .ok (.invokevirtual 202, 3) := by decide +kernel
theorem dX7_areLike_5 : decode cX7_areLike 5 = .ok (.aload_n 0, 1) := by decide +kernel
theorem dX7_areLike_6 : decode cX7_areLike 6 = .ok (.iload_n 2, 1) := by decide +kernel
theorem dX7_areLike_7 : decode cX7_areLike 7 = .ok (.invokevirtual 202, 3) := by decide +kernel
theorem dX7_areLike_10 : decode cX7_areLike 10 = .ok (.if_icmp .ne 16, 3) := by decide +kernel
theorem dX7_areLike_13 : decode cX7_areLike 13 = .ok (.aload_n 0, 1) := by decide +kernel
theorem dX7_areLike_14 : decode cX7_areLike 14 = .ok (.iload_n 1, 1) := by decide +kernel
theorem dX7_areLike_15 : decode cX7_areLike 15 = .ok (.invokevirtual 205, 3) := by decide +kernel
theorem dX7_areLike_18 : decode cX7_areLike 18 = .ok (.aload_n 0, 1) := by decide +kernel
theorem dX7_areLike_19 : decode cX7_areLike 19 = .ok (.iload_n 2, 1) := by decide +kernel
theorem dX7_areLike_20 : decode cX7_areLike 20 = .ok (.invokevirtual 205, 3) := by decide +kernel
theorem dX7_areLike_23 : decode cX7_areLike 23 = .ok (.if_icmp .eq 5, 3) := by decide +kernel
theorem dX7_areLike_26 : decode cX7_areLike 26 = .ok (.iconst 0, 1) := by decide +kernel
theorem dX7_areLike_27 : decode cX7_areLike 27 = .ok (.ireturn, 1) := by decide +kernel
theorem dX7_areLike_28 : decode cX7_areLike 28 = .ok (.iconst 0, 1) := by decide +kernel
theorem dX7_areLike_29 : decode cX7_areLike 29 = .ok (.istore 4, 2) := by decide +kernel
theorem dX7_areLike_31 : decode cX7_areLike 31 = .ok (.iload 4, 2) := by decide +kernel
theorem dX7_areLike_33 : decode cX7_areLike 33 = .ok (.aload_n 0, 1) := by decide +kernel
theorem dX7_areLike_34 : decode cX7_areLike 34 = .ok (.iload_n 1, 1) := by decide +kernel
theorem dX7_areLike_35 : decode cX7_areLike 35 = .ok (.invokevirtual 205, 3) := by decide +kernel
theorem dX7_areLike_38 : decode cX7_areLike 38 = .ok (.if_icmp .ge 89, 3) := by decide +kernel
theorem dX7_areLike_41 : decode cX7_areLike 41 = .ok (.iconst 0, 1) := by decide +kernel
theorem dX7_areLike_42 : decode cX7_areLike 42 = .ok (.istore 5, 2) := by decide +kernel
theorem dX7_areLike_44 : decode cX7_areLike 44 = .ok (.iload 5, 2) := by decide +kernel
theorem dX7_areLike_46 : decode cX7_areLike 46 = .ok (.aload_n 0, 1) := by decide +kernel
theorem dX7_areLike_47 : decode cX7_areLike 47 = .ok (.iload_n 1, 1) := by decide +kernel
theorem dX7_areLike_48 : decode cX7_areLike 48 = .ok (.invokevirtual 202, 3) := by decide +kernel
theorem dX7_areLike_51 : decode cX7_areLike 51 = .ok (.if_icmp .ge 70, 3) := by decide +kernel
theorem dX7_areLike_54 : decode cX7_areLike 54 = .ok (.aload_n 0, 1) := by decide +kernel
theorem dX7_areLike_55 : decode cX7_areLike 55 = .ok (.iload_n 1, 1) := by decide +kernel
theorem dX7_areLike_56 : decode cX7_areLike 56 = .ok (.iload 5, 2) := by decide +kernel
theorem dX7_areLike_58 : decode cX7_areLike 58 = .ok (.iload 4, 2) := by decide +kernel
theorem dX7_areLike_60 : decode cX7_areLike 60 = .ok (.invokevirtual 215, 3) := by decide +kernel
theorem dX7_areLike_63 : decode cX7_areLike 63 = .ok (.aload_n 0, 1) := by decide +kernel
theorem dX7_areLike_64 : decode cX7_areLike 64 = .ok (.iload_n 2, 1) := by decide +kernel
theorem dX7_areLike_65 : decode cX7_areLike 65 = .ok (.iload_n 3, 1) := by decide +kernel
theorem dX7_areLike_66 : decode cX7_areLike 66 = .ok (.iconst 2, 1) := by decide +kernel
theorem dX7_areLike_67 : decode cX7_areLike 67 = .ok (.irem, 1) := by decide +kernel
theorem dX7_areLike_68 : decode cX7_areLike 68 = .ok (.iconst 1, 1) := by decide +kernel
theorem dX7_areLike_69 : decode cX7_areLike 69 = .ok (.if_icmp .ne 16, 3) := by decide +kernel
theorem dX7_areLike_72 : decode cX7_areLike 72 = .ok (.aload_n 0, 1) := by decide +kernel
theorem dX7_areLike_73 : decode cX7_areLike 73 = .ok (.iload_n 1, 1) := by decide +kernel
theorem dX7_areLike_74 : decode cX7_areLike 74 = .ok (.invokevirtual 202, 3) := by decide +kernel
theorem dX7_areLike_77 : decode cX7_areLike 77 = .ok (.iconst 1, 1) := by decide +kernel
theorem dX7_areLike_78 : decode cX7_areLike 78 = .ok (.isub, 1) := by decide +kernel
theorem dX7_areLike_79 : decode cX7_areLike 79 = .ok (.iload 5, 2) := by decide +kernel
theorem dX7_areLike_81 : decode cX7_areLike 81 = .ok (.isub, 1) := by decide +kernel
theorem dX7_areLike_82 : decode cX7_areLike 82 = .ok (.goto 5, 3) := by decide +kernel
theorem dX7_areLike_85 : decode cX7_areLike 85 = .ok (.iload 5, 2) := by decide +kernel
theorem dX7_areLike_87 : decode cX7_areLike 87 = .ok (.iload_n 3, 1) := by decide +kernel
theorem dX7_areLike_88 : decode cX7_areLike 88 = .ok (.iconst 1, 1) := by decide +kernel
theorem dX7_areLike_89 : decode cX7_areLike 89 = .ok (.if_icmp .le 16, 3) := by decide +kernel
theorem dX7_areLike_92 : decode cX7_areLike 92 = .ok (.aload_n 0, 1) := by decide +kernel
theorem dX7_areLike_93 : decode cX7_areLike 93 = .ok (.iload_n 1, 1) := by decide +kernel
theorem dX7_areLike_94 : decode cX7_areLike 94 = .ok (.invokevirtual 205, 3) := by decide +kernel
theorem dX7_areLike_97 : decode cX7_areLike 97 = .ok (.iconst 1, 1) := by decide +kernel
theorem dX7_areLike_98 : decode cX7_areLike 98 = .ok (.isub, 1) := by decide +kernel
theorem dX7_areLike_99 : decode cX7_areLike 99 = .ok (.iload 4, 2) := by decide +kernel
theorem dX7_areLike_101 : decode cX7_areLike 101 = .ok (.isub, 1) := by decide +kernel
theorem dX7_areLike_102 : decode cX7_areLike 102 = .ok (.goto 5, 3) := by decide +kernel
theorem dX7_areLike_105 : decode cX7_areLike 105 = .ok (.iload 4, 2) := by decide +kernel
theorem dX7_areLike_107 : decode cX7_areLike 107 = .ok (.invokevirtual 215, 3) := by decide +kernel
theorem dX7_areLike_110 : decode cX7_areLike 110 = .ok (.if_icmp .eq 5, 3) := by decide +kernel
theorem dX7_areLike_113 : decode cX7_areLike 113 = .ok (.iconst 0, 1) := by decide +kernel
theorem dX7_areLike_114 : decode cX7_areLike 114 = .ok (.ireturn, 1) := by decide +kernel
theorem dX7_areLike_115 : decode cX7_areLike 115 = .ok (.iinc 5 1, 3) := by decide +kernel
theorem dX7_areLike_118 : decode cX7_areLike 118 = .ok (.goto (-74), 3) := by decide +kernel
theorem dX7_areLike_121 : decode cX7_areLike 121 = .ok (.iinc 4 1, 3) := by decide +kernel
theorem dX7_areLike_124 : decode cX7_areLike 124 = .ok (.goto (-93), 3) := by decide +kernel
theorem dX7_areLike_127 : decode cX7_areLike 127 = .ok (.iconst 1, 1) := by decide +kernel
theorem dX7_areLike_128 : decode cX7_areLike 128 = .ok (.ireturn, 1) := by decide +kernel
theorem dX7_best_0 : decode cX7_best 0 = .ok (.aload_n 0, 1) := by decide +kernel
theorem dX7_best_1 : decode cX7_best 1 = .ok (.iload_n 1, 1) := by decide +kernel
theorem dX7_best_2 : decode cX7_best 2 = .ok (.iload_n 2, 1) := by decide +kernel
theorem dX7_best_3 : decode cX7_best 3 = .ok (.invokevirtual 382, 3) := by decide +kernel
theorem dX7_best_6 : decode cX7_best 6 = .ok (.ifCond .eq 15, 3) := by decide +kernel
theorem dX7_best_9 : decode cX7_best 9 = .ok (.iload_n 3, 1) := by decide +kernel
theorem dX7_best_10 : decode cX7_best 10 = .ok (.i2l, 1) := by decide +kernel
theorem dX7_best_11 : decode cX7_best 11 = .ok (.lconst 0, 1) := by decide +kernel
theorem dX7_best_12 : decode cX7_best 12 = .ok (.ldc2_w 394, 3) := by decide +kernel
theorem dX7_best_15 : decode cX7_best 15 = .ok (.invokestatic 96, 3) := by decide +kernel
theorem dX7_best_18 : decode cX7_best 18 = .ok (.ifCond .ne 7, 3) := by decide +kernel
theorem dX7_best_21 : decode cX7_best 21 = .ok (.sipush (-2000), 3) := by decide +kernel
theorem dX7_best_24 : decode cX7_best 24 = .ok (.ireturn, 1) := by decide +kernel
theorem dX7_best_25 : decode cX7_best 25 = .ok (.aload_n 0, 1) := by decide +kernel
theorem dX7_best_26 : decode cX7_best 26 = .ok (.invokevirtual 331, 3) := by decide +kernel
theorem dX7_best_29 : decode cX7_best 29 = .ok (.iconst 0, 1) := by decide +kernel
theorem dX7_best_30 : decode cX7_best 30 = .ok (.istore 4, 2) := by decide +kernel
theorem dX7_best_32 : decode cX7_best 32 = .ok (.aload_n 0, 1) := by decide +kernel
theorem dX7_best_33 : decode cX7_best 33 = .ok (.iload_n 1, 1) := by decide +kernel
theorem dX7_best_34 : decode cX7_best 34 = .ok (.iconst 1, 1) := by decide +kernel
theorem dX7_best_35 : decode cX7_best 35 = .ok (.invokevirtual 199, 3) := by decide +kernel
theorem dX7_best_38 : decode cX7_best 38 = .ok (.istore 5, 2) := by decide +kernel
theorem dX7_best_40 : decode cX7_best 40 = .ok (.aload_n 0, 1) := by decide +kernel
theorem dX7_best_41 : decode cX7_best 41 = .ok (.iload_n 1, 1) := by decide +kernel
theorem dX7_best_42 : decode cX7_best 42 = .ok (.iconst 2, 1) := by decide +kernel
theorem dX7_best_43 : decode cX7_best 43 = .ok (.invokevirtual 199, 3) := by decide +kernel
theorem dX7_best_46 : decode cX7_best 46 = .ok (.istore 6, 2) := by decide +kernel
theorem dX7_best_48 : decode cX7_best 48 = .ok (.aload_n 0, 1) := by decide +kernel
theorem dX7_best_49 : decode cX7_best 49 = .ok (.iload_n 2, 1) := by decide +kernel
theorem dX7_best_50 : decode cX7_best 50 = .ok (.iconst 2, 1) := by decide +kernel
theorem dX7_best_51 : decode cX7_best 51 = .ok (.invokevirtual 199, 3) := by decide +kernel
theorem dX7_best_54 : decode cX7_best 54 = .ok (.aload_n 0, 1) := by decide +kernel
theorem dX7_best_55 : decode cX7_best 55 = .ok (.aload_n 0, 1) := by decide +kernel
theorem dX7_best_56 : decode cX7_best 56 = .ok (.iload_n 1, 1) := by decide +kernel
theorem dX7_best_57 : decode cX7_best 57 = .ok (.invokevirtual 212, 3) := by decide +kernel
theorem dX7_best_60 : decode cX7_best 60 = .ok (.invokevirtual 205, 3) := by decide +kernel
theorem dX7_best_63 : decode cX7_best 63 = .ok (.isub, 1) := by decide +kernel
theorem dX7_best_64 : decode cX7_best 64 = .ok (.iconst 1, 1) := by decide +kernel
theorem dX7_best_65 : decode cX7_best 65 = .ok (.iadd, 1) := by decide +kernel
theorem dX7_best_66 : decode cX7_best 66 = .ok (.istore 7, 2) := by decide +kernel
theorem dX7_best_68 : decode cX7_best 68 = .ok (.iload 7, 2) := by decide +kernel
theorem dX7_best_70 : decode cX7_best 70 = .ok (.aload_n 0, 1) := by decide +kernel
theorem dX7_best_71 : decode cX7_best 71 = .ok (.iload_n 2, 1) := by decide +kernel
theorem dX7_best_72 : decode cX7_best 72 = .ok (.iconst 2, 1) := by decide +kernel
theorem dX7_best_73 : decode cX7_best 73 = .ok (.invokevirtual 199, 3) := by decide +kernel
theorem dX7_best_76 : decode cX7_best 76 = .ok (.aload_n 0, 1) := by decide +kernel
theorem dX7_best_77 : decode cX7_best 77 = .ok (.aload_n 0, 1) := by decide +kernel
theorem dX7_best_78 : decode cX7_best 78 = .ok (.iload_n 2, 1) := by decide +kernel
theorem dX7_best_79 : decode cX7_best 79 = .ok (.invokevirtual 212, 3) := by decide +kernel
theorem dX7_best_82 : decode cX7_best 82 = .ok (.invokevirtual 205, 3) := by decide +kernel
theorem dX7_best_85 : decode cX7_best 85 = .ok (.iadd, 1) := by decide +kernel
theorem dX7_best_86 : decode cX7_best 86 = .ok (.if_icmp .ge 101, 3) := by decide +kernel
theorem dX7_best_89 : decode cX7_best 89 = .ok (.aload_n 0, 1) := by decide +kernel
theorem dX7_best_90 : decode cX7_best 90 = .ok (.iload_n 2, 1) := by decide +kernel
theorem dX7_best_91 : decode cX7_best 91 = .ok (.iconst 1, 1) := by decide +kernel
theorem dX7_best_92 : decode cX7_best 92 = .ok (.invokevirtual 199, 3) := by decide +kernel
theorem dX7_best_95 : decode cX7_best 95 = .ok (.aload_n 0, 1) := by decide +kernel
theorem dX7_best_96 : decode cX7_best 96 = .ok (.aload_n 0, 1) := by decide +kernel
theorem dX7_best_97 : decode cX7_best 97 = .ok (.iload_n 1, 1) := by decide +kernel
theorem dX7_best_98 : decode cX7_best 98 = .ok (.invokevirtual 212, 3) := by decide +kernel
theorem dX7_best_101 : decode cX7_best 101 = .ok (.invokevirtual 202, 3) := by decide +kernel
theorem dX7_best_104 : decode cX7_best 104 = .ok (.isub, 1) := by decide +kernel
theorem dX7_best_105 : decode cX7_best 105 = .ok (.iconst 1, 1) := by decide +kernel
theorem dX7_best_106 : decode cX7_best 106 = .ok (.iadd, 1) := by decide +kernel
theorem dX7_best_107 : decode cX7_best 107 = .ok (.istore 8, 2) := by decide +kernel
theorem dX7_best_109 : decode cX7_best 109 = .ok (.iload 8, 2) := by decide +kernel
theorem dX7_best_111 : decode cX7_best 111 = .ok (.aload_n 0, 1) := by decide +kernel
theorem dX7_best_112 : decode cX7_best 112 = .ok (.iload_n 2, 1) := by decide +kernel
theorem dX7_best_113 : decode cX7_best 113 = .ok (.iconst 1, 1) := by decide +kernel
theorem dX7_best_114 : decode cX7_best 114 = .ok (.invokevirtual 199, 3) := by decide +kernel
theorem dX7_best_117 : decode cX7_best 117 = .ok (.aload_n 0, 1) := by decide +kernel
theorem dX7_best_118 : decode cX7_best 118 = .ok (.aload_n 0, 1) := by decide +kernel
theorem dX7_best_119 : decode cX7_best 119 = .ok (.iload_n 2, 1) := by decide +kernel
theorem dX7_best_120 : decode cX7_best 120 = .ok (.invokevirtual 212, 3) := by decide +kernel
theorem dX7_best_123 : decode cX7_best 123 = .ok (.invokevirtual 202, 3) := by decide +kernel
theorem dX7_best_126 : decode cX7_best 126 = .ok (.iadd, 1) := by decide +kernel
theorem dX7_best_127 : decode cX7_best 127 = .ok (.if_icmp .ge 54, 3) := by decide +kernel
theorem dX7_best_130 : decode cX7_best 130 = .ok (.aload_n 0, 1) := by decide +kernel
theorem dX7_best_131 : decode cX7_best 131 = .ok (.iload_n 1, 1) := by decide +kernel
theorem dX7_best_132 : decode cX7_best 132 = .ok (.iload_n 2, 1) := by decide +kernel
theorem dX7_best_133 : decode cX7_best 133 = .ok (.iload 8, 2) := by decide +kernel
theorem dX7_best_135 : decode cX7_best 135 = .ok (.aload_n 0, 1) := by decide +kernel
theorem dX7_best_136 : decode cX7_best 136 = .ok (.iload_n 1, 1) := by decide +kernel
theorem dX7_best_137 : decode cX7_best 137 = .ok (.iconst 1, 1) := by decide +kernel
theorem dX7_best_138 : decode cX7_best 138 = .ok (.invokevirtual 199, 3) := by decide +kernel
theorem dX7_best_141 : decode cX7_best 141 = .ok (.isub, 1) := by decide +kernel
theorem dX7_best_142 : decode cX7_best 142 = .ok (.iload 7, 2) := by decide +kernel
theorem dX7_best_144 : decode cX7_best 144 = .ok (.aload_n 0, 1) := by decide +kernel
theorem dX7_best_145 : decode cX7_best 145 = .ok (.iload_n 1, 1) := by decide +kernel
theorem dX7_best_146 : decode cX7_best 146 = .ok (.iconst 2, 1) := by decide +kernel
theorem dX7_best_147 : decode cX7_best 147 = .ok (.invokevirtual 199, 3) := by decide +kernel
theorem dX7_best_150 : decode cX7_best 150 = .ok (.isub, 1) := by decide +kernel
theorem dX7_best_151 : decode cX7_best 151 = .ok (.invokevirtual 385, 3) := by decide +kernel
theorem dX7_best_154 : decode cX7_best 154 = .ok (.istore 9, 2) := by decide +kernel
theorem dX7_best_156 : decode cX7_best 156 = .ok (.iload 9, 2) := by decide +kernel
theorem dX7_best_158 : decode cX7_best 158 = .ok (.iload 4, 2) := by decide +kernel
theorem dX7_best_160 : decode cX7_best 160 = .ok (.if_icmp .le 15, 3) := by decide +kernel
theorem dX7_best_163 : decode cX7_best 163 = .ok (.iload 9, 2) := by decide +kernel
theorem dX7_best_165 : decode cX7_best 165 = .ok (.istore 4, 2) := by decide +kernel
theorem dX7_best_167 : decode cX7_best 167 = .ok (.iload 8, 2) := by decide +kernel
theorem dX7_best_169 : decode cX7_best 169 = .ok (.istore 5, 2) := by decide +kernel
theorem dX7_best_171 : decode cX7_best 171 = .ok (.iload 7, 2) := by decide +kernel
theorem dX7_best_173 : decode cX7_best 173 = .ok (.istore 6, 2) := by decide +kernel
theorem dX7_best_175 : decode cX7_best 175 = .ok (.iinc 8 1, 3) := by decide +kernel
theorem dX7_best_178 : decode cX7_best 178 = .ok (.goto (-69), 3) := by decide +kernel
theorem dX7_best_181 : decode cX7_best 181 = .ok (.iinc 7 1, 3) := by decide +kernel
theorem dX7_best_184 : decode cX7_best 184 = .ok (.goto (-116), 3) := by decide +kernel
theorem dX7_best_187 : decode cX7_best 187 = .ok (.iload_n 3, 1) := by decide +kernel
theorem dX7_best_188 : decode cX7_best 188 = .ok (.ifCond .ne 8, 3) := by decide +kernel
theorem dX7_best_191 : decode cX7_best 191 = .ok (.iload 4, 2) := by decide +kernel
theorem dX7_best_193 : decode cX7_best 193 = .ok (.goto 15, 3) := by decide +kernel
theorem dX7_best_196 : decode cX7_best 196 = .ok (.iload_n 3, 1) := by decide +kernel
theorem dX7_best_197 : decode cX7_best 197 = .ok (.iconst 1, 1) := by decide +kernel
theorem dX7_best_198 : decode cX7_best 198 = .ok (.if_icmp .ne 8, 3) := by decide +kernel
theorem dX7_best_201 : decode cX7_best 201 = .ok (.iload 5, 2) := by decide +kernel
theorem dX7_best_203 : decode cX7_best 203 = .ok (.goto 5, 3) := by decide +kernel
theorem dX7_best_206 : decode cX7_best 206 = .ok (.iload 6, 2) := by decide +kernel
theorem dX7_best_208 : decode cX7_best 208 = .ok (.ireturn, 1) := by decide +kernel
theorem dX7_dense_0 : decode cX7_dense 0 = .ok (.aload_n 0, 1) := by decide +kernel
theorem dX7_dense_1 : decode cX7_dense 1 = .ok (.iload_n 1, 1) := by decide +kernel
theorem dX7_dense_2 : decode cX7_dense 2 = .ok (.invokevirtual 301, 3) := by decide +kernel
theorem dX7_dense_5 : decode cX7_dense 5 = .ok (.ifCond .eq 46, 3) := by decide +kernel
theorem dX7_dense_8 : decode cX7_dense 8 = .ok (.iload_n 2, 1) := by decide +kernel
theorem dX7_dense_9 : decode cX7_dense 9 = .ok (.i2l, 1) := by decide +kernel
theorem dX7_dense_10 : decode cX7_dense 10 = .ok (.lconst 1, 1) := by decide +kernel
theorem dX7_dense_11 : decode cX7_dense 11 = .ok (.aload_n 0, 1) := by decide +kernel
theorem dX7_dense_12 : decode cX7_dense 12 = .ok (.iload_n 1, 1) := by decide +kernel
theorem dX7_dense_13 : decode cX7_dense 13 = .ok (.invokevirtual 202, 3) := by decide +kernel
theorem dX7_dense_16 : decode cX7_dense 16 = .ok (.i2l, 1) := by decide +kernel
theorem dX7_dense_17 : decode cX7_dense 17 = .ok (.invokestatic 96, 3) := by decide +kernel
theorem dX7_dense_20 : decode cX7_dense 20 = .ok (.ifCond .eq 31, 3) := by decide +kernel
theorem dX7_dense_23 : decode cX7_dense 23 = .ok (.iload_n 3, 1) := by decide +kernel
theorem dX7_dense_24 : decode cX7_dense 24 = .ok (.i2l, 1) := by decide +kernel
theorem dX7_dense_25 : decode cX7_dense 25 = .ok (.lconst 1, 1) := by decide +kernel
theorem dX7_dense_26 : decode cX7_dense 26 = .ok (.aload_n 0, 1) := by decide +kernel
theorem dX7_dense_27 : decode cX7_dense 27 = .ok (.iload_n 1, 1) := by decide +kernel
theorem dX7_dense_28 : decode cX7_dense 28 = .ok (.invokevirtual 205, 3) := by decide +kernel
theorem dX7_dense_31 : decode cX7_dense 31 = .ok (.i2l, 1) := by decide +kernel
theorem dX7_dense_32 : decode cX7_dense 32 = .ok (.invokestatic 96, 3) := by decide +kernel
theorem dX7_dense_35 : decode cX7_dense 35 = .ok (.ifCond .eq 16, 3) := by decide +kernel
theorem dX7_dense_38 : decode cX7_dense 38 = .ok (.iload 4, 2) := by decide +kernel
theorem dX7_dense_40 : decode cX7_dense 40 = .ok (.i2l, 1) := by decide +kernel
theorem dX7_dense_41 : decode cX7_dense 41 = .ok (.lconst 0, 1) := by decide +kernel
theorem dX7_dense_42 : decode cX7_dense 42 = .ok (.ldc2_w 394, 3) := by decide +kernel
theorem dX7_dense_45 : decode cX7_dense 45 = .ok (.invokestatic 96, 3) := by decide +kernel
theorem dX7_dense_48 : decode cX7_dense 48 = .ok (.ifCond .ne 5, 3) := by decide +kernel
theorem dX7_dense_51 : decode cX7_dense 51 = .ok (.iconst (-1), 1) := by decide +kernel
theorem dX7_dense_52 : decode cX7_dense 52 = .ok (.ireturn, 1) := by decide +kernel
theorem dX7_dense_53 : decode cX7_dense 53 = .ok (.iconst (-1), 1) := by decide +kernel
theorem dX7_dense_54 : decode cX7_dense 54 = .ok (.istore 5, 2) := by decide +kernel
theorem dX7_dense_56 : decode cX7_dense 56 = .ok (.iconst 0, 1) := by decide +kernel
theorem dX7_dense_57 : decode cX7_dense 57 = .ok (.istore 6, 2) := by decide +kernel
theorem dX7_dense_59 : decode cX7_dense 59 = .ok (.iconst 0, 1) := by decide +kernel
theorem dX7_dense_60 : decode cX7_dense 60 = .ok (.istore 7, 2) := by decide +kernel
theorem dX7_dense_62 : decode cX7_dense 62 = .ok (.iconst 0, 1) := by decide +kernel
theorem dX7_dense_63 : decode cX7_dense 63 = .ok (.istore 8, 2) := by decide +kernel
theorem dX7_dense_65 : decode cX7_dense 65 = .ok (.iload 8, 2) := by decide +kernel
theorem dX7_dense_67 : decode cX7_dense 67 = .ok (.iload_n 3, 1) := by decide +kernel
theorem dX7_dense_68 : decode cX7_dense 68 = .ok (.iadd, 1) := by decide +kernel
theorem dX7_dense_69 : decode cX7_dense 69 = .ok (.aload_n 0, 1) := by decide +kernel
theorem dX7_dense_70 : decode cX7_dense 70 = .ok (.iload_n 1, 1) := by decide +kernel
theorem dX7_dense_71 : decode cX7_dense 71 = .ok (.invokevirtual 205, 3) := by decide +kernel
theorem dX7_dense_74 : decode cX7_dense 74 = .ok (.if_icmp .gt 91, 3) := by decide +kernel
theorem dX7_dense_77 : decode cX7_dense 77 = .ok (.aload_n 0, 1) := by decide +kernel
theorem dX7_dense_78 : decode cX7_dense 78 = .ok (.iload_n 1, 1) := by decide +kernel
theorem dX7_dense_79 : decode cX7_dense 79 = .ok (.iconst 0, 1) := by decide +kernel
theorem dX7_dense_80 : decode cX7_dense 80 = .ok (.iload 8, 2) := by decide +kernel
theorem dX7_dense_82 : decode cX7_dense 82 = .ok (.iload_n 2, 1) := by decide +kernel
theorem dX7_dense_83 : decode cX7_dense 83 = .ok (.iload_n 3, 1) := by decide +kernel
theorem dX7_dense_84 : decode cX7_dense 84 = .ok (.invokevirtual 419, 3) := by decide +kernel
theorem dX7_dense_87 : decode cX7_dense 87 = .ok (.istore 9, 2) := by decide +kernel
theorem dX7_dense_89 : decode cX7_dense 89 = .ok (.iconst 0, 1) := by decide +kernel
theorem dX7_dense_90 : decode cX7_dense 90 = .ok (.istore 10, 2) := by decide +kernel
theorem dX7_dense_92 : decode cX7_dense 92 = .ok (.iload 10, 2) := by decide +kernel
theorem dX7_dense_94 : decode cX7_dense 94 = .ok (.iload_n 2, 1) := by decide +kernel
theorem dX7_dense_95 : decode cX7_dense 95 = .ok (.iadd, 1) := by decide +kernel
theorem dX7_dense_96 : decode cX7_dense 96 = .ok (.aload_n 0, 1) := by decide +kernel
theorem dX7_dense_97 : decode cX7_dense 97 = .ok (.iload_n 1, 1) := by decide +kernel
theorem dX7_dense_98 : decode cX7_dense 98 = .ok (.invokevirtual 202, 3) := by decide +kernel
theorem dX7_dense_101 : decode cX7_dense 101 = .ok (.if_icmp .gt 58, 3) := by decide +kernel
theorem dX7_dense_104 : decode cX7_dense 104 = .ok (.iload 9, 2) := by decide +kernel
theorem dX7_dense_106 : decode cX7_dense 106 = .ok (.iload 5, 2) := by decide +kernel
theorem dX7_dense_108 : decode cX7_dense 108 = .ok (.if_icmp .le 15, 3) := by decide +kernel
theorem dX7_dense_111 : decode cX7_dense 111 = .ok (.iload 9, 2) := by decide +kernel
theorem dX7_dense_113 : decode cX7_dense 113 = .ok (.istore 5, 2) := by decide +kernel
theorem dX7_dense_115 : decode cX7_dense 115 = .ok (.iload 10, 2) := by decide +kernel
theorem dX7_dense_117 : decode cX7_dense 117 = .ok (.istore 6, 2) := by decide +kernel
theorem dX7_dense_119 : decode cX7_dense 119 = .ok (.iload 8, 2) := by decide +kernel
theorem dX7_dense_121 : decode cX7_dense 121 = .ok (.istore 7, 2) := by decide +kernel
theorem dX7_dense_123 : decode cX7_dense 123 = .ok (.iload 9, 2) := by decide +kernel
theorem dX7_dense_125 : decode cX7_dense 125 = .ok (.aload_n 0, 1) := by decide +kernel
theorem dX7_dense_126 : decode cX7_dense 126 = .ok (.iload_n 1, 1) := by decide +kernel
theorem dX7_dense_127 : decode cX7_dense 127 = .ok (.iload 10, 2) := by decide +kernel
theorem dX7_dense_129 : decode cX7_dense 129 = .ok (.iload_n 2, 1) := by decide +kernel
theorem dX7_dense_130 : decode cX7_dense 130 = .ok (.iadd, 1) := by decide +kernel
theorem dX7_dense_131 : decode cX7_dense 131 = .ok (.iload 8, 2) := by decide +kernel
theorem dX7_dense_133 : decode cX7_dense 133 = .ok (.iconst 1, 1) := by decide +kernel
theorem dX7_dense_134 : decode cX7_dense 134 = .ok (.iload_n 3, 1) := by decide +kernel
theorem dX7_dense_135 : decode cX7_dense 135 = .ok (.invokevirtual 419, 3) := by decide +kernel
theorem dX7_dense_138 : decode cX7_dense 138 = .ok (.aload_n 0, 1) := by decide +kernel
theorem dX7_dense_139 : decode cX7_dense 139 = .ok (.iload_n 1, 1) := by decide +kernel
theorem dX7_dense_140 : decode cX7_dense 140 = .ok (.iload 10, 2) := by decide +kernel
theorem dX7_dense_142 : decode cX7_dense 142 = .ok (.iload 8, 2) := by decide +kernel
theorem dX7_dense_144 : decode cX7_dense 144 = .ok (.iconst 1, 1) := by decide +kernel
theorem dX7_dense_145 : decode cX7_dense 145 = .ok (.iload_n 3, 1) := by decide +kernel
theorem dX7_dense_146 : decode cX7_dense 146 = .ok (.invokevirtual 419, 3) := by decide +kernel
theorem dX7_dense_149 : decode cX7_dense 149 = .ok (.isub, 1) := by decide +kernel
theorem dX7_dense_150 : decode cX7_dense 150 = .ok (.iadd, 1) := by decide +kernel
theorem dX7_dense_151 : decode cX7_dense 151 = .ok (.istore 9, 2) := by decide +kernel
theorem dX7_dense_153 : decode cX7_dense 153 = .ok (.iinc 10 1, 3) := by decide +kernel
theorem dX7_dense_156 : decode cX7_dense 156 = .ok (.goto (-64), 3) := by decide +kernel
theorem dX7_dense_159 : decode cX7_dense 159 = .ok (.iinc 8 1, 3) := by decide +kernel
theorem dX7_dense_162 : decode cX7_dense 162 = .ok (.goto (-97), 3) := by decide +kernel
theorem dX7_dense_165 : decode cX7_dense 165 = .ok (.iload 4, 2) := by decide +kernel
theorem dX7_dense_167 : decode cX7_dense 167 = .ok (.ifCond .ne 8, 3) := by decide +kernel
theorem dX7_dense_170 : decode cX7_dense 170 = .ok (.iload 5, 2) := by decide +kernel
theorem dX7_dense_172 : decode cX7_dense 172 = .ok (.goto 16, 3) := by decide +kernel
theorem dX7_dense_175 : decode cX7_dense 175 = .ok (.iload 4, 2) := by decide +kernel
theorem dX7_dense_177 : decode cX7_dense 177 = .ok (.iconst 1, 1) := by decide +kernel
theorem dX7_dense_178 : decode cX7_dense 178 = .ok (.if_icmp .ne 8, 3) := by decide +kernel
theorem dX7_dense_181 : decode cX7_dense 181 = .ok (.iload 6, 2) := by decide +kernel
theorem dX7_dense_183 : decode cX7_dense 183 = .ok (.goto 5, 3) := by decide +kernel
theorem dX7_dense_186 : decode cX7_dense 186 = .ok (.iload 7, 2) := by decide +kernel
theorem dX7_dense_188 : decode cX7_dense 188 = .ok (.ireturn, 1) := by decide +kernel
theorem dX7_letter_0 : decode cX7_letter 0 = .ok (.aload_n 0, 1) := by decide +kernel
theorem dX7_letter_1 : decode cX7_letter 1 = .ok (.iload_n 1, 1) := by decide +kernel
theorem dX7_letter_2 : decode cX7_letter 2 = .ok (.invokevirtual 301, 3) := by decide +kernel
theorem dX7_letter_5 : decode cX7_letter 5 = .ok (.ifCond .eq 8, 3) := by decide +kernel
theorem dX7_letter_8 : decode cX7_letter 8 = .ok (.iload_n 2, 1) := by decide +kernel
theorem dX7_letter_9 : decode cX7_letter 9 = .ok (.iconst (-1), 1) := by decide +kernel
theorem dX7_letter_10 : decode cX7_letter 10 = .ok (.if_icmp .ge 5, 3) := by decide +kernel
theorem dX7_letter_13 : decode cX7_letter 13 = .ok (.iconst (-1), 1) := by decide +kernel
theorem dX7_letter_14 : decode cX7_letter 14 = .ok (.ireturn, 1) := by decide +kernel
theorem dX7_letter_15 : decode cX7_letter 15 = .ok (.aload_n 0, 1) := by decide +kernel
theorem dX7_letter_16 : decode cX7_letter 16 = .ok (.iload_n 1, 1) := by decide +kernel
theorem dX7_letter_17 : decode cX7_letter 17 = .ok (.invokevirtual 202, 3) := by decide +kernel
theorem dX7_letter_20 : decode cX7_letter 20 = .ok (.iconst 1, 1) := by decide +kernel
theorem dX7_letter_21 : decode cX7_letter 21 = .ok (.iadd, 1) := by decide +kernel
theorem dX7_letter_22 : decode cX7_letter 22 = .ok (.istore_n 3, 1) := by decide +kernel
theorem dX7_letter_23 : decode cX7_letter 23 = .ok (.iload_n 3, 1) := by decide +kernel
theorem dX7_letter_24 : decode cX7_letter 24 = .ok (.aload_n 0, 1) := by decide +kernel
theorem dX7_letter_25 : decode cX7_letter 25 = .ok (.iload_n 1, 1) := by decide +kernel
theorem dX7_letter_26 : decode cX7_letter 26 = .ok (.invokevirtual 205, 3) := by decide +kernel
theorem dX7_letter_29 : decode cX7_letter 29 = .ok (.imul, 1) := by decide +kernel
theorem dX7_letter_30 : decode cX7_letter 30 = .ok (.iconst 1, 1) := by decide +kernel
theorem dX7_letter_31 : decode cX7_letter 31 = .ok (.isub, 1) := by decide +kernel
theorem dX7_letter_32 : decode cX7_letter 32 = .ok (.istore 4, 2) := by decide +kernel
theorem dX7_letter_34 : decode cX7_letter 34 = .ok (.iload_n 2, 1) := by decide +kernel
theorem dX7_letter_35 : decode cX7_letter 35 = .ok (.iconst (-1), 1) := by decide +kernel
theorem dX7_letter_36 : decode cX7_letter 36 = .ok (.if_icmp .ne 6, 3) := by decide +kernel
theorem dX7_letter_39 : decode cX7_letter 39 = .ok (.iload 4, 2) := by decide +kernel
theorem dX7_letter_41 : decode cX7_letter 41 = .ok (.ireturn, 1) := by decide +kernel
theorem dX7_letter_42 : decode cX7_letter 42 = .ok (.iload_n 2, 1) := by decide +kernel
theorem dX7_letter_43 : decode cX7_letter 43 = .ok (.iload 4, 2) := by decide +kernel
theorem dX7_letter_45 : decode cX7_letter 45 = .ok (.if_icmp .lt 8, 3) := by decide +kernel
theorem dX7_letter_48 : decode cX7_letter 48 = .ok (.bipush (-2), 2) := by decide +kernel
theorem dX7_letter_50 : decode cX7_letter 50 = .ok (.goto 40, 3) := by decide +kernel
theorem dX7_letter_53 : decode cX7_letter 53 = .ok (.iload_n 2, 1) := by decide +kernel
theorem dX7_letter_54 : decode cX7_letter 54 = .ok (.iload_n 3, 1) := by decide +kernel
theorem dX7_letter_55 : decode cX7_letter 55 = .ok (.irem, 1) := by decide +kernel
theorem dX7_letter_56 : decode cX7_letter 56 = .ok (.aload_n 0, 1) := by decide +kernel
theorem dX7_letter_57 : decode cX7_letter 57 = .ok (.iload_n 1, 1) := by decide +kernel
theorem dX7_letter_58 : decode cX7_letter 58 = .ok (.invokevirtual 202, 3) := by decide +kernel
theorem dX7_letter_61 : decode cX7_letter 61 = .ok (.if_icmp .ne 8, 3) := by decide +kernel
theorem dX7_letter_64 : decode cX7_letter 64 = .ok (.bipush 47, 2) := by decide +kernel
theorem dX7_letter_66 : decode cX7_letter 66 = .ok (.goto 24, 3) := by decide +kernel
theorem dX7_letter_69 : decode cX7_letter 69 = .ok (.aload_n 0, 1) := by decide +kernel
theorem dX7_letter_70 : decode cX7_letter 70 = .ok (.iload_n 1, 1) := by decide +kernel
theorem dX7_letter_71 : decode cX7_letter 71 = .ok (.iload_n 2, 1) := by decide +kernel
theorem dX7_letter_72 : decode cX7_letter 72 = .ok (.iload_n 3, 1) := by decide +kernel
theorem dX7_letter_73 : decode cX7_letter 73 = .ok (.irem, 1) := by decide +kernel
theorem dX7_letter_74 : decode cX7_letter 74 = .ok (.iload_n 2, 1) := by decide +kernel
theorem dX7_letter_75 : decode cX7_letter 75 = .ok (.iload_n 3, 1) := by decide +kernel
theorem dX7_letter_76 : decode cX7_letter 76 = .ok (.idiv, 1) := by decide +kernel
theorem dX7_letter_77 : decode cX7_letter 77 = .ok (.invokevirtual 215, 3) := by decide +kernel
theorem dX7_letter_80 : decode cX7_letter 80 = .ok (.ifCond .eq 8, 3) := by decide +kernel
theorem dX7_letter_83 : decode cX7_letter 83 = .ok (.bipush 35, 2) := by decide +kernel
theorem dX7_letter_85 : decode cX7_letter 85 = .ok (.goto 5, 3) := by decide +kernel
theorem dX7_letter_88 : decode cX7_letter 88 = .ok (.bipush 46, 2) := by decide +kernel
theorem dX7_letter_90 : decode cX7_letter 90 = .ok (.ireturn, 1) := by decide +kernel
theorem dX7_like_0 : decode cX7_like 0 = .ok (.aload_n 0, 1) := by decide +kernel
theorem dX7_like_1 : decode cX7_like 1 = .ok (.iload_n 1, 1) := by decide +kernel
theorem dX7_like_2 : decode cX7_like 2 = .ok (.invokevirtual 301, 3) := by decide +kernel
theorem dX7_like_5 : decode cX7_like 5 = .ok (.ifCond .ne 5, 3) := by decide +kernel
theorem dX7_like_8 : decode cX7_like 8 = .ok (.iconst (-1), 1) := by decide +kernel
theorem dX7_like_9 : decode cX7_like 9 = .ok (.ireturn, 1) := by decide +kernel
theorem dX7_like_10 : decode cX7_like 10 = .ok (.iconst 0, 1) := by decide +kernel
theorem dX7_like_11 : decode cX7_like 11 = .ok (.istore_n 2, 1) := by decide +kernel
theorem dX7_like_12 : decode cX7_like 12 = .ok (.iconst 0, 1) := by decide +kernel
theorem dX7_like_13 : decode cX7_like 13 = .ok (.istore_n 3, 1) := by decide +kernel
theorem dX7_like_14 : decode cX7_like 14 = .ok (.iload_n 3, 1) := by decide +kernel
theorem dX7_like_15 : decode cX7_like 15 = .ok (.iconst 4, 1) := by decide +kernel
theorem dX7_like_16 : decode cX7_like 16 = .ok (.if_icmp .ge 29, 3) := by decide +kernel
theorem dX7_like_19 : decode cX7_like 19 = .ok (.iload_n 2, 1) := by decide +kernel
theorem dX7_like_20 : decode cX7_like 20 = .ok (.aload_n 0, 1) := by decide +kernel
theorem dX7_like_21 : decode cX7_like 21 = .ok (.iload_n 1, 1) := by decide +kernel
theorem dX7_like_22 : decode cX7_like 22 = .ok (.iload_n 1, 1) := by decide +kernel
theorem dX7_like_23 : decode cX7_like 23 = .ok (.iload_n 3, 1) := by decide +kernel
theorem dX7_like_24 : decode cX7_like 24 = .ok (.invokevirtual 416, 3) := by decide +kernel
theorem dX7_like_27 : decode cX7_like 27 = .ok (.ifCond .eq 9, 3) := by decide +kernel
theorem dX7_like_30 : decode cX7_like 30 = .ok (.iconst 1, 1) := by decide +kernel
theorem dX7_like_31 : decode cX7_like 31 = .ok (.iload_n 3, 1) := by decide +kernel
theorem dX7_like_32 : decode cX7_like 32 = .ok (.ishl, 1) := by decide +kernel
theorem dX7_like_33 : decode cX7_like 33 = .ok (.goto 4, 3) := by decide +kernel
theorem dX7_like_36 : decode cX7_like 36 = .ok (.iconst 0, 1) := by decide +kernel
theorem dX7_like_37 : decode cX7_like 37 = .ok (.ior, 1) := by decide +kernel
theorem dX7_like_38 : decode cX7_like 38 = .ok (.istore_n 2, 1) := by decide +kernel
theorem dX7_like_39 : decode cX7_like 39 = .ok (.iinc 3 1, 3) := by decide +kernel
theorem dX7_like_42 : decode cX7_like 42 = .ok (.goto (-28), 3) := by decide +kernel
theorem dX7_like_45 : decode cX7_like 45 = .ok (.iload_n 2, 1) := by decide +kernel
theorem dX7_like_46 : decode cX7_like 46 = .ok (.ireturn, 1) := by decide +kernel
theorem dX7_masksMeet_0 : decode cX7_masksMeet 0 = .ok (.iconst 0, 1) := by decide +kernel
theorem dX7_masksMeet_1 : decode cX7_masksMeet 1 = .ok (.iload 4, 2) := by decide +kernel
theorem dX7_masksMeet_3 : decode cX7_masksMeet 3 = .ok (.ineg, 1) := by decide +kernel
theorem dX7_masksMeet_4 : decode cX7_masksMeet 4 = .ok (.invokestatic 219, 3) := by decide +kernel
theorem dX7_masksMeet_7 : decode cX7_masksMeet 7 = .ok (.istore 5, 2) := by decide +kernel
theorem dX7_masksMeet_9 : decode cX7_masksMeet 9 = .ok (.iload 5, 2) := by decide +kernel
theorem dX7_masksMeet_11 : decode cX7_masksMeet 11 = .ok (.aload_n 0, 1) := by decide +kernel
theorem dX7_masksMeet_12 : decode cX7_masksMeet 12 = .ok (.iload_n 1, 1) := by decide +kernel
theorem dX7_masksMeet_13 : decode cX7_masksMeet 13 = .ok (.invokevirtual 205, 3) := by decide +kernel
theorem dX7_masksMeet_16 : decode cX7_masksMeet 16 = .ok (.if_icmp .ge 117, 3) := by decide +kernel
theorem dX7_masksMeet_19 : decode cX7_masksMeet 19 = .ok (.iload 5, 2) := by decide +kernel
theorem dX7_masksMeet_21 : decode cX7_masksMeet 21 = .ok (.iload 4, 2) := by decide +kernel
theorem dX7_masksMeet_23 : decode cX7_masksMeet 23 = .ok (.iadd, 1) := by decide +kernel
theorem dX7_masksMeet_24 : decode cX7_masksMeet 24 = .ok (.aload_n 0, 1) := by decide +kernel
theorem dX7_masksMeet_25 : decode cX7_masksMeet 25 = .ok (.iload_n 2, 1) := by decide +kernel
theorem dX7_masksMeet_26 : decode cX7_masksMeet 26 = .ok (.invokevirtual 205, 3) := by decide +kernel
theorem dX7_masksMeet_29 : decode cX7_masksMeet 29 = .ok (.if_icmp .ge 104, 3) := by decide +kernel
theorem dX7_masksMeet_32 : decode cX7_masksMeet 32 = .ok (.bipush 80, 2) := by decide +kernel
theorem dX7_masksMeet_34 : decode cX7_masksMeet 34 = .ok (.iload_n 1, 1) := by decide +kernel
theorem dX7_masksMeet_35 : decode cX7_masksMeet 35 = .ok (.imul, 1) := by decide +kernel
theorem dX7_masksMeet_36 : decode cX7_masksMeet 36 = .ok (.iconst 2, 1) := by decide +kernel
theorem dX7_masksMeet_37 : decode cX7_masksMeet 37 = .ok (.iload 5, 2) := by decide +kernel
theorem dX7_masksMeet_39 : decode cX7_masksMeet 39 = .ok (.imul, 1) := by decide +kernel
theorem dX7_masksMeet_40 : decode cX7_masksMeet 40 = .ok (.iadd, 1) := by decide +kernel
theorem dX7_masksMeet_41 : decode cX7_masksMeet 41 = .ok (.istore 6, 2) := by decide +kernel
theorem dX7_masksMeet_43 : decode cX7_masksMeet 43 = .ok (.bipush 80, 2) := by decide +kernel
theorem dX7_masksMeet_45 : decode cX7_masksMeet 45 = .ok (.iload_n 2, 1) := by decide +kernel
theorem dX7_masksMeet_46 : decode cX7_masksMeet 46 = .ok (.imul, 1) := by decide +kernel
theorem dX7_masksMeet_47 : decode cX7_masksMeet 47 = .ok (.iconst 2, 1) := by decide +kernel
theorem dX7_masksMeet_48 : decode cX7_masksMeet 48 = .ok (.iload 5, 2) := by decide +kernel
theorem dX7_masksMeet_50 : decode cX7_masksMeet 50 = .ok (.iload 4, 2) := by decide +kernel
theorem dX7_masksMeet_52 : decode cX7_masksMeet 52 = .ok (.iadd, 1) := by decide +kernel
theorem dX7_masksMeet_53 : decode cX7_masksMeet 53 = .ok (.imul, 1) := by decide +kernel
theorem dX7_masksMeet_54 : decode cX7_masksMeet 54 = .ok (.iadd, 1) := by decide +kernel
theorem dX7_masksMeet_55 : decode cX7_masksMeet 55 = .ok (.istore 7, 2) := by decide +kernel
theorem dX7_masksMeet_57 : decode cX7_masksMeet 57 = .ok (.aload_n 0, 1) := by decide +kernel
theorem dX7_masksMeet_58 : decode cX7_masksMeet 58 = .ok (.getfield 25, 3) := by decide +kernel
theorem dX7_masksMeet_61 : decode cX7_masksMeet 61 = .ok (.iload 6, 2) := by decide +kernel
theorem dX7_masksMeet_63 : decode cX7_masksMeet 63 = .ok (.laload, 1) := by decide +kernel
theorem dX7_masksMeet_64 : decode cX7_masksMeet 64 = .ok (.aload_n 0, 1) := by decide +kernel
theorem dX7_masksMeet_65 : decode cX7_masksMeet 65 = .ok (.getfield 25, 3) := by decide +kernel
theorem dX7_masksMeet_68 : decode cX7_masksMeet 68 = .ok (.iload 6, 2) := by decide +kernel
theorem dX7_masksMeet_70 : decode cX7_masksMeet 70 = .ok (.iconst 1, 1) := by decide +kernel
theorem dX7_masksMeet_71 : decode cX7_masksMeet 71 = .ok (.iadd, 1) := by decide +kernel
theorem dX7_masksMeet_72 : decode cX7_masksMeet 72 = .ok (.laload, 1) := by decide +kernel
theorem dX7_masksMeet_73 : decode cX7_masksMeet 73 = .ok (.iload_n 3, 1) := by decide +kernel
theorem dX7_masksMeet_74 : decode cX7_masksMeet 74 = .ok (.invokestatic 222, 3) := by decide +kernel
theorem dX7_masksMeet_77 : decode cX7_masksMeet 77 = .ok (.aload_n 0, 1) := by decide +kernel
theorem dX7_masksMeet_78 : decode cX7_masksMeet 78 = .ok (.getfield 25, 3) := by decide +kernel
theorem dX7_masksMeet_81 : decode cX7_masksMeet 81 = .ok (.iload 7, 2) := by decide +kernel
theorem dX7_masksMeet_83 : decode cX7_masksMeet 83 = .ok (.laload, 1) := by decide +kernel
theorem dX7_masksMeet_84 : decode cX7_masksMeet 84 = .ok (.land, 1) := by decide +kernel
theorem dX7_masksMeet_85 : decode cX7_masksMeet 85 = .ok (.lconst 0, 1) := by decide +kernel
theorem dX7_masksMeet_86 : decode cX7_masksMeet 86 = .ok (.lcmp, 1) := by decide +kernel
theorem dX7_masksMeet_87 : decode cX7_masksMeet 87 = .ok (.ifCond .ne 38, 3) := by decide +kernel
theorem dX7_masksMeet_90 : decode cX7_masksMeet 90 = .ok (.aload_n 0, 1) := by decide +kernel
theorem dX7_masksMeet_91 : decode cX7_masksMeet 91 = .ok (.getfield 25, 3) := by decide +kernel
theorem dX7_masksMeet_94 : decode cX7_masksMeet 94 = .ok (.iload 6, 2) := by decide +kernel
theorem dX7_masksMeet_96 : decode cX7_masksMeet 96 = .ok (.laload, 1) := by decide +kernel
theorem dX7_masksMeet_97 : decode cX7_masksMeet 97 = .ok (.aload_n 0, 1) := by decide +kernel
theorem dX7_masksMeet_98 : decode cX7_masksMeet 98 = .ok (.getfield 25, 3) := by decide +kernel
theorem dX7_masksMeet_101 : decode cX7_masksMeet 101 = .ok (.iload 6, 2) := by decide +kernel
theorem dX7_masksMeet_103 : decode cX7_masksMeet 103 = .ok (.iconst 1, 1) := by decide +kernel
theorem dX7_masksMeet_104 : decode cX7_masksMeet 104 = .ok (.iadd, 1) := by decide +kernel
theorem dX7_masksMeet_105 : decode cX7_masksMeet 105 = .ok (.laload, 1) := by decide +kernel
theorem dX7_masksMeet_106 : decode cX7_masksMeet 106 = .ok (.iload_n 3, 1) := by decide +kernel
theorem dX7_masksMeet_107 : decode cX7_masksMeet 107 = .ok (.invokestatic 232, 3) := by decide +kernel
theorem dX7_masksMeet_110 : decode cX7_masksMeet 110 = .ok (.aload_n 0, 1) := by decide +kernel
theorem dX7_masksMeet_111 : decode cX7_masksMeet 111 = .ok (.getfield 25, 3) := by decide +kernel
theorem dX7_masksMeet_114 : decode cX7_masksMeet 114 = .ok (.iload 7, 2) := by decide +kernel
theorem dX7_masksMeet_116 : decode cX7_masksMeet 116 = .ok (.iconst 1, 1) := by decide +kernel
theorem dX7_masksMeet_117 : decode cX7_masksMeet 117 = .ok (.iadd, 1) := by decide +kernel
theorem dX7_masksMeet_118 : decode cX7_masksMeet 118 = .ok (.laload, 1) := by decide +kernel
theorem dX7_masksMeet_119 : decode cX7_masksMeet 119 = .ok (.land, 1) := by decide +kernel
theorem dX7_masksMeet_120 : decode cX7_masksMeet 120 = .ok (.lconst 0, 1) := by decide +kernel
theorem dX7_masksMeet_121 : decode cX7_masksMeet 121 = .ok (.lcmp, 1) := by decide +kernel
theorem dX7_masksMeet_122 : decode cX7_masksMeet 122 = .ok (.ifCond .eq 5, 3) := by decide +kernel
theorem dX7_masksMeet_125 : decode cX7_masksMeet 125 = .ok (.iconst 1, 1) := by decide +kernel
theorem dX7_masksMeet_126 : decode cX7_masksMeet 126 = .ok (.ireturn, 1) := by decide +kernel
theorem dX7_masksMeet_127 : decode cX7_masksMeet 127 = .ok (.iinc 5 1, 3) := by decide +kernel
theorem dX7_masksMeet_130 : decode cX7_masksMeet 130 = .ok (.goto (-121), 3) := by decide +kernel
theorem dX7_masksMeet_133 : decode cX7_masksMeet 133 = .ok (.iconst 0, 1) := by decide +kernel
theorem dX7_masksMeet_134 : decode cX7_masksMeet 134 = .ok (.ireturn, 1) := by decide +kernel
theorem dX7_shifts_0 : decode cX7_shifts 0 = .ok (.aload_n 0, 1) := by decide +kernel
theorem dX7_shifts_1 : decode cX7_shifts 1 = .ok (.iload_n 1, 1) := by decide +kernel
theorem dX7_shifts_2 : decode cX7_shifts 2 = .ok (.invokevirtual 301, 3) := by decide +kernel
theorem dX7_shifts_5 : decode cX7_shifts 5 = .ok (.ifCond .eq 11, 3) := by decide +kernel
theorem dX7_shifts_8 : decode cX7_shifts 8 = .ok (.aload_n 0, 1) := by decide +kernel
theorem dX7_shifts_9 : decode cX7_shifts 9 = .ok (.iload_n 2, 1) := by decide +kernel
theorem dX7_shifts_10 : decode cX7_shifts 10 = .ok (.invokevirtual 301, 3) := by decide +kernel
theorem dX7_shifts_13 : decode cX7_shifts 13 = .ok (.ifCond .ne 5, 3) := by decide +kernel
theorem dX7_shifts_16 : decode cX7_shifts 16 = .ok (.iconst (-1), 1) := by decide +kernel
theorem dX7_shifts_17 : decode cX7_shifts 17 = .ok (.ireturn, 1) := by decide +kernel
theorem dX7_shifts_18 : decode cX7_shifts 18 = .ok (.iconst 0, 1) := by decide +kernel
theorem dX7_shifts_19 : decode cX7_shifts 19 = .ok (.istore_n 3, 1) := by decide +kernel
theorem dX7_shifts_20 : decode cX7_shifts 20 = .ok (.iconst 1, 1) := by decide +kernel
theorem dX7_shifts_21 : decode cX7_shifts 21 = .ok (.aload_n 0, 1) := by decide +kernel
theorem dX7_shifts_22 : decode cX7_shifts 22 = .ok (.iload_n 1, 1) := by decide +kernel
theorem dX7_shifts_23 : decode cX7_shifts 23 = .ok (.invokevirtual 205, 3) := by decide +kernel
theorem dX7_shifts_26 : decode cX7_shifts 26 = .ok (.isub, 1) := by decide +kernel
theorem dX7_shifts_27 : decode cX7_shifts 27 = .ok (.istore 4, 2) := by decide +kernel
theorem dX7_shifts_29 : decode cX7_shifts 29 = .ok (.iload 4, 2) := by decide +kernel
theorem dX7_shifts_31 : decode cX7_shifts 31 = .ok (.aload_n 0, 1) := by decide +kernel
theorem dX7_shifts_32 : decode cX7_shifts 32 = .ok (.iload_n 2, 1) := by decide +kernel
theorem dX7_shifts_33 : decode cX7_shifts 33 = .ok (.invokevirtual 205, 3) := by decide +kernel
theorem dX7_shifts_36 : decode cX7_shifts 36 = .ok (.if_icmp .ge 50, 3) := by decide +kernel
theorem dX7_shifts_39 : decode cX7_shifts 39 = .ok (.iconst 1, 1) := by decide +kernel
theorem dX7_shifts_40 : decode cX7_shifts 40 = .ok (.aload_n 0, 1) := by decide +kernel
theorem dX7_shifts_41 : decode cX7_shifts 41 = .ok (.iload_n 1, 1) := by decide +kernel
theorem dX7_shifts_42 : decode cX7_shifts 42 = .ok (.invokevirtual 202, 3) := by decide +kernel
theorem dX7_shifts_45 : decode cX7_shifts 45 = .ok (.isub, 1) := by decide +kernel
theorem dX7_shifts_46 : decode cX7_shifts 46 = .ok (.istore 5, 2) := by decide +kernel
theorem dX7_shifts_48 : decode cX7_shifts 48 = .ok (.iload 5, 2) := by decide +kernel
theorem dX7_shifts_50 : decode cX7_shifts 50 = .ok (.aload_n 0, 1) := by decide +kernel
theorem dX7_shifts_51 : decode cX7_shifts 51 = .ok (.iload_n 2, 1) := by decide +kernel
theorem dX7_shifts_52 : decode cX7_shifts 52 = .ok (.invokevirtual 202, 3) := by decide +kernel
theorem dX7_shifts_55 : decode cX7_shifts 55 = .ok (.if_icmp .ge 25, 3) := by decide +kernel
theorem dX7_shifts_58 : decode cX7_shifts 58 = .ok (.iload_n 3, 1) := by decide +kernel
theorem dX7_shifts_59 : decode cX7_shifts 59 = .ok (.aload_n 0, 1) := by decide +kernel
theorem dX7_shifts_60 : decode cX7_shifts 60 = .ok (.iload_n 1, 1) := by decide +kernel
theorem dX7_shifts_61 : decode cX7_shifts 61 = .ok (.iload_n 2, 1) := by decide +kernel
theorem dX7_shifts_62 : decode cX7_shifts 62 = .ok (.iload 5, 2) := by decide +kernel
theorem dX7_shifts_64 : decode cX7_shifts 64 = .ok (.iload 4, 2) := by decide +kernel
theorem dX7_shifts_66 : decode cX7_shifts 66 = .ok (.invokevirtual 413, 3) := by decide +kernel
theorem dX7_shifts_69 : decode cX7_shifts 69 = .ok (.invokestatic 127, 3) := by decide +kernel
theorem dX7_shifts_72 : decode cX7_shifts 72 = .ok (.iadd, 1) := by decide +kernel
theorem dX7_shifts_73 : decode cX7_shifts 73 = .ok (.istore_n 3, 1) := by decide +kernel
theorem dX7_shifts_74 : decode cX7_shifts 74 = .ok (.iinc 5 1, 3) := by decide +kernel
theorem dX7_shifts_77 : decode cX7_shifts 77 = .ok (.goto (-29), 3) := by decide +kernel
theorem dX7_shifts_80 : decode cX7_shifts 80 = .ok (.iinc 4 1, 3) := by decide +kernel
theorem dX7_shifts_83 : decode cX7_shifts 83 = .ok (.goto (-54), 3) := by decide +kernel
theorem dX7_shifts_86 : decode cX7_shifts 86 = .ok (.iload_n 3, 1) := by decide +kernel
theorem dX7_shifts_87 : decode cX7_shifts 87 = .ok (.ireturn, 1) := by decide +kernel
theorem dX7_within_0 : decode cX7_within 0 = .ok (.iconst 0, 1) := by decide +kernel
theorem dX7_within_1 : decode cX7_within 1 = .ok (.istore 6, 2) := by decide +kernel
theorem dX7_within_3 : decode cX7_within 3 = .ok (.iload_n 3, 1) := by decide +kernel
theorem dX7_within_4 : decode cX7_within 4 = .ok (.istore 7, 2) := by decide +kernel
theorem dX7_within_6 : decode cX7_within 6 = .ok (.iload 7, 2) := by decide +kernel
theorem dX7_within_8 : decode cX7_within 8 = .ok (.iload_n 3, 1) := by decide +kernel
theorem dX7_within_9 : decode cX7_within 9 = .ok (.iload 5, 2) := by decide +kernel
theorem dX7_within_11 : decode cX7_within 11 = .ok (.iadd, 1) := by decide +kernel
theorem dX7_within_12 : decode cX7_within 12 = .ok (.if_icmp .ge 44, 3) := by decide +kernel
theorem dX7_within_15 : decode cX7_within 15 = .ok (.iload_n 2, 1) := by decide +kernel
theorem dX7_within_16 : decode cX7_within 16 = .ok (.istore 8, 2) := by decide +kernel
theorem dX7_within_18 : decode cX7_within 18 = .ok (.iload 8, 2) := by decide +kernel
theorem dX7_within_20 : decode cX7_within 20 = .ok (.iload_n 2, 1) := by decide +kernel
theorem dX7_within_21 : decode cX7_within 21 = .ok (.iload 4, 2) := by decide +kernel
theorem dX7_within_23 : decode cX7_within 23 = .ok (.iadd, 1) := by decide +kernel
theorem dX7_within_24 : decode cX7_within 24 = .ok (.if_icmp .ge 26, 3) := by decide +kernel
theorem dX7_within_27 : decode cX7_within 27 = .ok (.iload 6, 2) := by decide +kernel
theorem dX7_within_29 : decode cX7_within 29 = .ok (.aload_n 0, 1) := by decide +kernel
theorem dX7_within_30 : decode cX7_within 30 = .ok (.iload_n 1, 1) := by decide +kernel
theorem dX7_within_31 : decode cX7_within 31 = .ok (.iload 8, 2) := by decide +kernel
theorem dX7_within_33 : decode cX7_within 33 = .ok (.iload 7, 2) := by decide +kernel
theorem dX7_within_35 : decode cX7_within 35 = .ok (.invokevirtual 215, 3) := by decide +kernel
theorem dX7_within_38 : decode cX7_within 38 = .ok (.invokestatic 127, 3) := by decide +kernel
theorem dX7_within_41 : decode cX7_within 41 = .ok (.iadd, 1) := by decide +kernel
theorem dX7_within_42 : decode cX7_within 42 = .ok (.istore 6, 2) := by decide +kernel
theorem dX7_within_44 : decode cX7_within 44 = .ok (.iinc 8 1, 3) := by decide +kernel
theorem dX7_within_47 : decode cX7_within 47 = .ok (.goto (-29), 3) := by decide +kernel
theorem dX7_within_50 : decode cX7_within 50 = .ok (.iinc 7 1, 3) := by decide +kernel
theorem dX7_within_53 : decode cX7_within 53 = .ok (.goto (-47), 3) := by decide +kernel
theorem dX7_within_56 : decode cX7_within 56 = .ok (.iload 6, 2) := by decide +kernel
theorem dX7_within_58 : decode cX7_within 58 = .ok (.ireturn, 1) := by decide +kernel
set_option maxRecDepth 100000 in
theorem pq68 : Cond.selects RX7 yX7_masksMeet yX7_masksMeet ∈ pw := pw_mem (i := 68) (by decide +kernel) rfl
set_option maxRecDepth 100000 in
theorem pq69 : Cond.selects RX7 yX7_areLike yX7_areLike ∈ pw := pw_mem (i := 69) (by decide +kernel) rfl
set_option maxRecDepth 100000 in
theorem pq70 : Cond.selects RX7 yX7_within yX7_within ∈ pw := pw_mem (i := 70) (by decide +kernel) rfl
set_option maxRecDepth 100000 in
theorem pq1595 : Cond.constantLong RX7 394 (2) ∈ pw := pw_mem (i := 1595) (by decide +kernel) rfl
set_option maxRecDepth 100000 in
theorem pq1662 : Cond.methodLink RX7 413 yX7_masksMeet ∈ pw := pw_mem (i := 1662) (by decide +kernel) rfl
set_option maxRecDepth 100000 in
theorem pq1664 : Cond.instanceMethod yX7_masksMeet ∈ pw := pw_mem (i := 1664) (by decide +kernel) rfl
set_option maxRecDepth 100000 in
theorem pq1665 : Cond.code yX7_masksMeet cX7_masksMeet 8 (some .boolean) ∈ pw := pw_mem (i := 1665) (by rfl) rfl
set_option maxRecDepth 100000 in
theorem pq1670 : Cond.methodLink RX7 416 yX7_areLike ∈ pw := pw_mem (i := 1670) (by decide +kernel) rfl
set_option maxRecDepth 100000 in
theorem pq1672 : Cond.instanceMethod yX7_areLike ∈ pw := pw_mem (i := 1672) (by decide +kernel) rfl
set_option maxRecDepth 100000 in
theorem pq1673 : Cond.code yX7_areLike cX7_areLike 6 (some .boolean) ∈ pw := pw_mem (i := 1673) (by rfl) rfl
set_option maxRecDepth 100000 in
theorem pq1682 : Cond.methodLink RX7 419 yX7_within ∈ pw := pw_mem (i := 1682) (by decide +kernel) rfl
set_option maxRecDepth 100000 in
theorem pq1684 : Cond.instanceMethod yX7_within ∈ pw := pw_mem (i := 1684) (by decide +kernel) rfl
set_option maxRecDepth 100000 in
theorem pq1685 : Cond.code yX7_within cX7_within 9 (some .int) ∈ pw := pw_mem (i := 1685) (by rfl) rfl
set_option maxHeartbeats 4000000 in
set_option maxRecDepth 100000 in
theorem s_X7_best (l : Launch) (dC : Nat → ClassId) (dI : Nat → Nat → Nat) (cs : Nat → ClassId) (L : List Nat) (K G : Nat → Nat) (Q : Nat → Nat → Option Nat) (hQ : Sv L K G Q) (x0 m0 : Nat) (tx : GT) (tm : GT × Int) (sz : Nat) (I : Nat → Nat → Int32) (J : Nat → Nat → Int64) (hI : Iv L K x0 m0 tx tm I) (p0 : Nat) (hLp0 : p0 ∈ L) (hKp0 : K p0 = 7) (p1 : Int32) (p2 : Int32) (p3 : Int32) : Met l yX7_best (.code yX7_best cX7_best 10 (some .int) :: pw) ({ frames := 4, cells := 0, slots := 0, locals := 98 }) (sP (dC, dI) cs [.ref p0, .int p1, .int p2, .int p3] sz L K I J Q) (va_Qi (fun (r : Int32) (_ : Unit) => True) (fun _ t => sB (dC, dI) cs L K Q (fun I1 J1 => Iv L K x0 m0 tx tm I1 ∧ I1 = I ∧ (∀ σ : Sx, cmA Q I J p0 σ → cmA Q I1 J1 p0 σ) ∧ (∀ b, ¬ (K b = 25) → J1 b = J b)) t) (fun q => q ∈ L ∨ sz ≤ q)) 0 0 (fun q => q ∈ L ∨ sz ≤ q) := by
  refine Met.ofW (cc := cX7_best) (maxL := 10) (ret := (some .int)) (by decide +kernel) rfl ?_
  intro p e s m args below meth c s₁ B hml hv
  obtain ⟨rfl, hsz, hP, hK, hD0, hN⟩ := hv
  have hx := B.exec
  have hb := B.bytes
  have hr := B.returns
  have hts := fun w (h : w ∈ pw) => atoms_spec (ws := Cond.code yX7_best cX7_best 10 (some .int) :: pw) B.pre w (List.mem_cons_of_mem _ h)
  have hown : s.vm.findClass RX7 = some m.cls := findClass_of_methodNamed B.named
  have hlocks := B.notSynchronized
  subst hsz
  have hBB : 999 ≤ tm.2 ∧ tm.2 ≤ 6000000 := hI.2.2.2.2.1
  have dj_J : (∀ b, ¬ (K b = 25) → J b = J b) := fun _ _ => rfl
  obtain ⟨A, hAe⟩ : ∃ A : Nat → Prop, A = (fun q => q ∈ L ∨ s.heap.size ≤ q) := ⟨_, rfl⟩
  rw [← hAe]
  have hAL : ∀ q, q ∈ L → A q := fun q h => by rw [hAe]; exact Or.inl h
  have hA : ∀ q, s.heap.size ≤ q → A q := fun q h => by rw [hAe]; exact Or.inr h
  have hD : ∀ F, va_D A (va_pl L F) := fun F => (hD0 F).weaken (fun k q hk _ => hAL _ (pl_mem hk))
  obtain ⟨H, hHe⟩ : ∃ H : Heap, H = s.heap := ⟨_, rfl⟩
  have hS : va_S A s.heap H [] := by rw [hHe]; exact va_S.rf
  rw [← hHe] at hP
  have hl := lv_entry ([.ref p0, .int p1, .int p2, .int p3]) (n := 10) (Nat.le_of_ble_eq_true rfl)
  rw [lg_entry_eq]
  generalize (lg_sl ([.ref p0, .int p1, .int p2, .int p3]) ++ List.replicate (10 - (lg_sl ([.ref p0, .int p1, .int p2, .int p3])).length) Slot.unset).toArray = ls at hl ⊢
  have hl : lv_has ls 10 [(0, .ref p0), (1, .int p1), (2, .int p2), (3, .int p3)] := hl
  rw [← hHe]
  refine namedW (fun R Qz hR hQz => ?_)
  refine lv_aload_n hx hb dX7_best_0 rfl (lv_at hl 0 rfl) ?_
  refine lv_iload_n hx hb dX7_best_1 rfl (lv_at hl 1 rfl) ?_
  refine lv_iload_n hx hb dX7_best_2 rfl (lv_at hl 2 rfl) ?_
  refine ro_i (va_runV (As := [.int p1, .int p2]) (rest := []) ⟨hx, hb, hml, hown, hts⟩ (s_X7_areTwo l dC dI cs L K G Q hQ x0 m0 tx tm H.size I J hI p0 hLp0 hKp0 p1 p2) (cwV 2 hts (gV pq1571 pq1573 pq62 pq81 pq1574) rfl rfl rfl (by decide +kernel) ⟨(by rw [hR]; exact (Nat.le_of_ble_eq_true rfl)), (by rw [hR]; exact (Nat.le_of_ble_eq_true rfl))⟩) (sP_V hP hD hK hN hLp0 hKp0 rfl rfl) rfl rfl hl.1 rfl (lv_room (Nat.le_of_ble_eq_true rfl)) dX7_best_3 ⟨(by rw [hR]; exact (Nat.le_of_ble_eq_true rfl)), (by rw [hR]; exact (Nat.le_of_ble_eq_true rfl))⟩) hS hP (fun z3 H locs hz3 hP hS => ?_)
  obtain ⟨bz3, imz3, xpz3⟩ := hz3
  refine lv_if_eq (tgt := 21) hx hb dX7_best_6 (by decide) (fun c6 => ?_) (fun c6 => ?_)
  · have t6 := tq_eq (k := z3.toInt) (q := (0)) c6 rfl (by decide +kernel)
    refine lv_sipush (v := (-2000)) hx hb dX7_best_21 (by decide +kernel) ?_
    subst hR; subst hQz
    exact W.iret (v := (-2000)) hx hb hr (fun t ht hW => ⟨⟨(-2000), (), rfl, trivial, ⟨I, J, ⟨hI, rfl, (fun σ A => cmA_fr hQ hLp0 hKp0 (fun _ _ => rfl) (fun _ _ => rfl) rfl A), dj_J⟩, by rw [ht]; exact hP⟩⟩, hS.F ht⟩) hS.2.2 dX7_best_24
  · have t6 := tq_ne (k := z3.toInt) (q := (0)) c6 rfl (by decide +kernel)
    have i6 := imz3 t6
    refine lv_iload_n hx hb dX7_best_9 rfl (lv_at hl 3 rfl) ?_
    refine lv_i2l hx hb dX7_best_10 rfl ?_
    refine lv_topl (fun z10 ez10 => ?_)
    have bz10 := tq_i2l (k := p3.toInt) ez10 rfl
    refine lv_lconst (v := 0) hx hb dX7_best_11 (by decide +kernel) ?_
    refine lv_ldc2 hx hb hown (hts _ pq1595) dX7_best_12 ?_
    refine ro_i (va_runS (As := [.long z10, .long 0, .long 2]) (rest := []) ⟨hx, hb, hml, hown, hts⟩ (s_X7_in l dC dI cs L K Q H.size I J z10 0 2) (va_cwS 3 hts (gS pq1234 pq1235 pq81 pq1236) rfl rfl rfl (by decide +kernel) ⟨(by rw [hR]; exact (Nat.le_of_ble_eq_true rfl)), (by rw [hR]; exact (Nat.le_of_ble_eq_true rfl))⟩) (sP_S hP hD hK hN) rfl rfl hl.1 rfl (lv_room (Nat.le_of_ble_eq_true rfl)) dX7_best_15 ⟨(by rw [hR]; exact (Nat.le_of_ble_eq_true rfl)), (by rw [hR]; exact (Nat.le_of_ble_eq_true rfl))⟩) hS hP (fun z15 H locs hz15 hP hS => ?_)
    have csl15_0 : (0 : Int64).toInt = 0 := by decide +kernel
    have csl15_2 : (2 : Int64).toInt = 2 := by decide +kernel
    obtain ⟨bz15, imz15, xpz15⟩ := hz15
    refine lv_if_ne (tgt := 25) hx hb dX7_best_18 (by decide) (fun c18 => ?_) (fun c18 => ?_)
    · have t18 := tq_ne (k := z15.toInt) (q := (0)) c18 rfl (by decide +kernel)
      have i18 := imz15 t18
      refine lv_aload_n hx hb dX7_best_25 rfl (lv_at hl 0 rfl) ?_
      refine sw_v (Z := (fun I1 J1 => Iv L K x0 m0 tx tm I1 ∧ I1 = I ∧ (∀ c : Fx, okF c → rI Q I p0 c → rJ Q J p0 c → ldA Q J1 p0 c) ∧ (∀ b, ¬ (K b = 25) → J1 b = J b))) (va_runV (As := []) (rest := []) ⟨hx, hb, hml, hown, hts⟩ (s_X7_laysAll l dC dI cs L K G Q hQ x0 m0 tx tm H.size I J hI p0 hLp0 hKp0) (cwV 0 hts (gV pq1427 pq1429 pq40 pq81 pq1430) rfl rfl rfl (by decide +kernel) ⟨(by rw [hR]; exact (Nat.le_of_ble_eq_true rfl)), (by rw [hR]; exact (Nat.le_of_ble_eq_true rfl))⟩) (sP_V hP hD hK hN hLp0 hKp0 rfl rfl) rfl rfl hl.1 rfl (lv_room (Nat.le_of_ble_eq_true rfl)) dX7_best_26 ⟨(by rw [hR]; exact (Nat.le_of_ble_eq_true rfl)), (by rw [hR]; exact (Nat.le_of_ble_eq_true rfl))⟩) hS hAL hA (fun Iz26 Jz26 H locs hz26 hIz26 hP hS => ?_)
      obtain ⟨hIz26, sm26, jz26, djc26⟩ := hIz26
      have dj_Jz26 : (∀ b, ¬ (K b = 25) → Jz26 b = J b) := fun b hc => (djc26 b (fun z => hc (by omega))).trans (dj_J b hc)
      obtain rfl : I = Iz26 := sm26.symm
      refine lv_iconst (v := 0) hx hb dX7_best_29 (by decide +kernel) ?_
      refine lv_istore (lv' := [(4, .int 0), (0, .ref p0), (1, .int p1), (2, .int p2), (3, .int p3)]) hx hb dX7_best_30 hl (by decide) rfl (fun ls hl => ?_)
      refine lv_aload_n hx hb dX7_best_32 rfl (lv_at hl 1 rfl) ?_
      refine lv_iload_n hx hb dX7_best_33 rfl (lv_at hl 2 rfl) ?_
      refine lv_iconst (v := 1) hx hb dX7_best_34 (by decide +kernel) ?_
      refine ro_i (va_runV (As := [.int p1, .int 1]) (rest := []) ⟨hx, hb, hml, hown, hts⟩ (s_X7_of l dC dI cs L K G Q hQ x0 m0 tx tm H.size I Jz26 hI p0 hLp0 hKp0 p1 ⟨by omega, by omega⟩ 1 ⟨by decide +kernel, by decide +kernel⟩) (cwV 2 hts (gV pq1320 pq1322 pq25 pq81 pq1323) rfl rfl rfl (by decide +kernel) ⟨(by rw [hR]; exact (Nat.le_of_ble_eq_true rfl)), (by rw [hR]; exact (Nat.le_of_ble_eq_true rfl))⟩) (sP_V hP hD hK hN hLp0 hKp0 rfl rfl) rfl rfl hl.1 rfl (lv_room (Nat.le_of_ble_eq_true rfl)) dX7_best_35 ⟨(by rw [hR]; exact (Nat.le_of_ble_eq_true rfl)), (by rw [hR]; exact (Nat.le_of_ble_eq_true rfl))⟩) hS hP (fun z35 H locs hz35 hP hS => ?_)
      have cst35_1 : (1 : Int32).toInt = 1 := by decide +kernel
      obtain ⟨fez35, xpz35⟩ := hz35
      have bz35 := xpz35.2.1 rfl
      refine lv_istore (lv' := [(5, .int z35), (4, .int 0), (0, .ref p0), (1, .int p1), (2, .int p2), (3, .int p3)]) hx hb dX7_best_38 hl (by decide) rfl (fun ls hl => ?_)
      refine lv_aload_n hx hb dX7_best_40 rfl (lv_at hl 2 rfl) ?_
      refine lv_iload_n hx hb dX7_best_41 rfl (lv_at hl 3 rfl) ?_
      refine lv_iconst (v := 2) hx hb dX7_best_42 (by decide +kernel) ?_
      refine ro_i (va_runV (As := [.int p1, .int 2]) (rest := []) ⟨hx, hb, hml, hown, hts⟩ (s_X7_of l dC dI cs L K G Q hQ x0 m0 tx tm H.size I Jz26 hI p0 hLp0 hKp0 p1 ⟨by omega, by omega⟩ 2 ⟨by decide +kernel, by decide +kernel⟩) (cwV 2 hts (gV pq1320 pq1322 pq25 pq81 pq1323) rfl rfl rfl (by decide +kernel) ⟨(by rw [hR]; exact (Nat.le_of_ble_eq_true rfl)), (by rw [hR]; exact (Nat.le_of_ble_eq_true rfl))⟩) (sP_V hP hD hK hN hLp0 hKp0 rfl rfl) rfl rfl hl.1 rfl (lv_room (Nat.le_of_ble_eq_true rfl)) dX7_best_43 ⟨(by rw [hR]; exact (Nat.le_of_ble_eq_true rfl)), (by rw [hR]; exact (Nat.le_of_ble_eq_true rfl))⟩) hS hP (fun z43 H locs hz43 hP hS => ?_)
      have cst43_2 : (2 : Int32).toInt = 2 := by decide +kernel
      obtain ⟨fez43, xpz43⟩ := hz43
      have bz43 := xpz43.2.2.1 rfl
      refine lv_istore (lv' := [(6, .int z43), (5, .int z35), (4, .int 0), (0, .ref p0), (1, .int p1), (2, .int p2), (3, .int p3)]) hx hb dX7_best_46 hl (by decide) rfl (fun ls hl => ?_)
      refine lv_aload_n hx hb dX7_best_48 rfl (lv_at hl 3 rfl) ?_
      refine lv_iload_n hx hb dX7_best_49 rfl (lv_at hl 5 rfl) ?_
      refine lv_iconst (v := 2) hx hb dX7_best_50 (by decide +kernel) ?_
      refine ro_i (va_runV (As := [.int p2, .int 2]) (rest := []) ⟨hx, hb, hml, hown, hts⟩ (s_X7_of l dC dI cs L K G Q hQ x0 m0 tx tm H.size I Jz26 hI p0 hLp0 hKp0 p2 ⟨by omega, by omega⟩ 2 ⟨by decide +kernel, by decide +kernel⟩) (cwV 2 hts (gV pq1320 pq1322 pq25 pq81 pq1323) rfl rfl rfl (by decide +kernel) ⟨(by rw [hR]; exact (Nat.le_of_ble_eq_true rfl)), (by rw [hR]; exact (Nat.le_of_ble_eq_true rfl))⟩) (sP_V hP hD hK hN hLp0 hKp0 rfl rfl) rfl rfl hl.1 rfl (lv_room (Nat.le_of_ble_eq_true rfl)) dX7_best_51 ⟨(by rw [hR]; exact (Nat.le_of_ble_eq_true rfl)), (by rw [hR]; exact (Nat.le_of_ble_eq_true rfl))⟩) hS hP (fun z51 H locs hz51 hP hS => ?_)
      have cst51_2 : (2 : Int32).toInt = 2 := by decide +kernel
      obtain ⟨fez51, xpz51⟩ := hz51
      have bz51 := xpz51.2.2.1 rfl
      refine lv_aload_n hx hb dX7_best_54 rfl (lv_at hl 3 rfl) ?_
      refine lv_aload_n hx hb dX7_best_55 rfl (lv_at hl 3 rfl) ?_
      refine lv_iload_n hx hb dX7_best_56 rfl (lv_at hl 4 rfl) ?_
      refine ro_i (va_runV (As := [.int p1]) (rest := [.ref p0, .int z51]) ⟨hx, hb, hml, hown, hts⟩ (s_X7_maskOf l dC dI cs L K G Q hQ x0 m0 tx tm H.size I Jz26 hI p0 hLp0 hKp0 p1 ⟨by omega, by omega⟩) (cwV 1 hts (gV pq1431 pq1433 pq41 pq81 pq1434) rfl rfl rfl (by decide +kernel) ⟨(by rw [hR]; exact (Nat.le_of_ble_eq_true rfl)), (by rw [hR]; exact (Nat.le_of_ble_eq_true rfl))⟩) (sP_V hP hD hK hN hLp0 hKp0 rfl rfl) rfl rfl hl.1 rfl (lv_room (Nat.le_of_ble_eq_true rfl)) dX7_best_57 ⟨(by rw [hR]; exact (Nat.le_of_ble_eq_true rfl)), (by rw [hR]; exact (Nat.le_of_ble_eq_true rfl))⟩) hS hP (fun z57 H locs hz57 hP hS => ?_)
      obtain ⟨bz57, fez57⟩ := hz57
      refine ro_i (va_runV (As := [.int z57]) (rest := [.int z51]) ⟨hx, hb, hml, hown, hts⟩ (s_X7_high l dC dI cs L K G Q hQ x0 m0 tx tm H.size I Jz26 hI p0 hLp0 hKp0 z57 ⟨by omega, by omega⟩) (cwV 1 hts (gV pq1372 pq1374 pq33 pq81 pq1375) rfl rfl rfl (by decide +kernel) ⟨(by rw [hR]; exact (Nat.le_of_ble_eq_true rfl)), (by rw [hR]; exact (Nat.le_of_ble_eq_true rfl))⟩) (sP_V hP hD hK hN hLp0 hKp0 rfl rfl) rfl rfl hl.1 rfl (lv_room (Nat.le_of_ble_eq_true rfl)) dX7_best_60 ⟨(by rw [hR]; exact (Nat.le_of_ble_eq_true rfl)), (by rw [hR]; exact (Nat.le_of_ble_eq_true rfl))⟩) hS hP (fun z60 H locs hz60 hP hS => ?_)
      obtain ⟨bz60, fez60⟩ := hz60
      refine lv_isub hx hb dX7_best_63 ?_
      refine lv_topi (fun z63 ez63 => ?_)
      have bz63 := tq_sub (k := z51.toInt) (q := z60.toInt) ez63 rfl rfl (by omega) (by omega)
      refine lv_iconst (v := 1) hx hb dX7_best_64 (by decide +kernel) ?_
      refine lv_iadd hx hb dX7_best_65 ?_
      refine lv_topi (fun z65 ez65 => ?_)
      have bz65 := tq_add (k := z63.toInt) (q := (1)) ez65 rfl (by decide +kernel) (by omega) (by omega)
      refine lv_istore (lv' := [(7, .int z65), (6, .int z43), (5, .int z35), (4, .int 0), (0, .ref p0), (1, .int p1), (2, .int p2), (3, .int p3)]) hx hb dX7_best_66 hl (by decide) rfl (fun ls hl => ?_)
      have key68 := blocks (fun n => ∀ (v68_4 : Int32) (v68_5 : Int32) (v68_6 : Int32) (v68_7 : Int32) (H : Heap) (lo : List Loc) (ls : Array Slot), (6000302 - v68_7.toInt).toNat = n → ((0) ≤ v68_4.toInt ∧ v68_4.toInt ≤ 2147483647) → ((-6000099) ≤ v68_5.toInt ∧ v68_5.toInt ≤ 6000099) → ((-6000039) ≤ v68_6.toInt ∧ v68_6.toInt ≤ 6000039) → ((-6000039) ≤ v68_7.toInt ∧ v68_7.toInt ≤ 6000301) → va_P (dC, dI) vwCl (Wd cs L K I Jz26 Q) H → va_S A s.heap H lo → lv_has ls 10 [(0, .ref p0), (1, .int p1), (2, .int p2), (3, .int p3), (4, .int v68_4), (5, .int v68_5), (6, .int v68_6), (7, .int v68_7)] → W p l e R s m (([.ref p0, .int p1, .int p2, .int p3] : List Value).toArray) below meth c H lo 0 0 Qz (F0 m 68 ls [])) (by
        intro n ih68
        intro v68_4 v68_5 v68_6 v68_7 H lo ls hmu68 bv68_4 bv68_5 bv68_6 bv68_7 hP hS hl
        refine lv_iload hx hb dX7_best_68 (lv_at hl 7 rfl) ?_
        refine lv_aload_n hx hb dX7_best_70 rfl (lv_at hl 0 rfl) ?_
        refine lv_iload_n hx hb dX7_best_71 rfl (lv_at hl 2 rfl) ?_
        refine lv_iconst (v := 2) hx hb dX7_best_72 (by decide +kernel) ?_
        refine ro_i (va_runV (As := [.int p2, .int 2]) (rest := [.int v68_7]) ⟨hx, hb, hml, hown, hts⟩ (s_X7_of l dC dI cs L K G Q hQ x0 m0 tx tm H.size I Jz26 hI p0 hLp0 hKp0 p2 ⟨by omega, by omega⟩ 2 ⟨by decide +kernel, by decide +kernel⟩) (cwV 2 hts (gV pq1320 pq1322 pq25 pq81 pq1323) rfl rfl rfl (by decide +kernel) ⟨(by rw [hR]; exact (Nat.le_of_ble_eq_true rfl)), (by rw [hR]; exact (Nat.le_of_ble_eq_true rfl))⟩) (sP_V hP hD hK hN hLp0 hKp0 rfl rfl) rfl rfl hl.1 rfl (lv_room (Nat.le_of_ble_eq_true rfl)) dX7_best_73 ⟨(by rw [hR]; exact (Nat.le_of_ble_eq_true rfl)), (by rw [hR]; exact (Nat.le_of_ble_eq_true rfl))⟩) hS hP (fun z73 H locs hz73 hP hS => ?_)
        have cst73_2 : (2 : Int32).toInt = 2 := by decide +kernel
        obtain ⟨fez73, xpz73⟩ := hz73
        have bz73 := xpz73.2.2.1 rfl
        obtain rfl : z51 = z73 := fez51.trans fez73.symm
        refine lv_aload_n hx hb dX7_best_76 rfl (lv_at hl 0 rfl) ?_
        refine lv_aload_n hx hb dX7_best_77 rfl (lv_at hl 0 rfl) ?_
        refine lv_iload_n hx hb dX7_best_78 rfl (lv_at hl 2 rfl) ?_
        refine ro_i (va_runV (As := [.int p2]) (rest := [.ref p0, .int z51, .int v68_7]) ⟨hx, hb, hml, hown, hts⟩ (s_X7_maskOf l dC dI cs L K G Q hQ x0 m0 tx tm H.size I Jz26 hI p0 hLp0 hKp0 p2 ⟨by omega, by omega⟩) (cwV 1 hts (gV pq1431 pq1433 pq41 pq81 pq1434) rfl rfl rfl (by decide +kernel) ⟨(by rw [hR]; exact (Nat.le_of_ble_eq_true rfl)), (by rw [hR]; exact (Nat.le_of_ble_eq_true rfl))⟩) (sP_V hP hD hK hN hLp0 hKp0 rfl rfl) rfl rfl hl.1 rfl (lv_room (Nat.le_of_ble_eq_true rfl)) dX7_best_79 ⟨(by rw [hR]; exact (Nat.le_of_ble_eq_true rfl)), (by rw [hR]; exact (Nat.le_of_ble_eq_true rfl))⟩) hS hP (fun z79 H locs hz79 hP hS => ?_)
        obtain ⟨bz79, fez79⟩ := hz79
        refine ro_i (va_runV (As := [.int z79]) (rest := [.int z51, .int v68_7]) ⟨hx, hb, hml, hown, hts⟩ (s_X7_high l dC dI cs L K G Q hQ x0 m0 tx tm H.size I Jz26 hI p0 hLp0 hKp0 z79 ⟨by omega, by omega⟩) (cwV 1 hts (gV pq1372 pq1374 pq33 pq81 pq1375) rfl rfl rfl (by decide +kernel) ⟨(by rw [hR]; exact (Nat.le_of_ble_eq_true rfl)), (by rw [hR]; exact (Nat.le_of_ble_eq_true rfl))⟩) (sP_V hP hD hK hN hLp0 hKp0 rfl rfl) rfl rfl hl.1 rfl (lv_room (Nat.le_of_ble_eq_true rfl)) dX7_best_82 ⟨(by rw [hR]; exact (Nat.le_of_ble_eq_true rfl)), (by rw [hR]; exact (Nat.le_of_ble_eq_true rfl))⟩) hS hP (fun z82 H locs hz82 hP hS => ?_)
        obtain ⟨bz82, fez82⟩ := hz82
        refine lv_iadd hx hb dX7_best_85 ?_
        refine lv_topi (fun z85 ez85 => ?_)
        have bz85 := tq_add (k := z51.toInt) (q := z82.toInt) ez85 rfl rfl (by omega) (by omega)
        refine lv_icmp_ge (tgt := 187) hx hb dX7_best_86 (by decide) (fun c86 => ?_) (fun c86 => ?_)
        · have t86 := tq_le (k := z85.toInt) (q := v68_7.toInt) c86 rfl rfl
          refine lv_iload_n hx hb dX7_best_187 rfl (lv_at hl 3 rfl) ?_
          refine lv_if_ne (tgt := 196) hx hb dX7_best_188 (by decide) (fun c188 => ?_) (fun c188 => ?_)
          · have t188 := tq_ne (k := p3.toInt) (q := (0)) c188 rfl (by decide +kernel)
            refine lv_iload_n hx hb dX7_best_196 rfl (lv_at hl 3 rfl) ?_
            refine lv_iconst (v := 1) hx hb dX7_best_197 (by decide +kernel) ?_
            refine lv_icmp_ne (tgt := 206) hx hb dX7_best_198 (by decide) (fun c198 => ?_) (fun c198 => ?_)
            · have t198 := tq_ne (k := p3.toInt) (q := (1)) c198 rfl (by decide +kernel)
              refine lv_iload hx hb dX7_best_206 (lv_at hl 6 rfl) ?_
              subst hR; subst hQz
              exact W.iret (v := v68_6) hx hb hr (fun t ht hW => ⟨⟨v68_6, (), rfl, trivial, ⟨I, Jz26, ⟨hI, rfl, (fun σ A => cmA_fr hQ hLp0 hKp0 (fun _ _ => rfl) (fun b hb => dj_Jz26 b (by omega)) rfl A), dj_Jz26⟩, by rw [ht]; exact hP⟩⟩, hS.F ht⟩) hS.2.2 dX7_best_208
            · have t198 := tq_eq (k := p3.toInt) (q := (1)) c198 rfl (by decide +kernel)
              refine lv_iload hx hb dX7_best_201 (lv_at hl 5 rfl) ?_
              refine lv_goto (tgt := 208) hx hb dX7_best_203 (by decide) ?_
              subst hR; subst hQz
              exact W.iret (v := v68_5) hx hb hr (fun t ht hW => ⟨⟨v68_5, (), rfl, trivial, ⟨I, Jz26, ⟨hI, rfl, (fun σ A => cmA_fr hQ hLp0 hKp0 (fun _ _ => rfl) (fun b hb => dj_Jz26 b (by omega)) rfl A), dj_Jz26⟩, by rw [ht]; exact hP⟩⟩, hS.F ht⟩) hS.2.2 dX7_best_208
          · have t188 := tq_eq (k := p3.toInt) (q := (0)) c188 rfl (by decide +kernel)
            refine lv_iload hx hb dX7_best_191 (lv_at hl 4 rfl) ?_
            refine lv_goto (tgt := 208) hx hb dX7_best_193 (by decide) ?_
            subst hR; subst hQz
            exact W.iret (v := v68_4) hx hb hr (fun t ht hW => ⟨⟨v68_4, (), rfl, trivial, ⟨I, Jz26, ⟨hI, rfl, (fun σ A => cmA_fr hQ hLp0 hKp0 (fun _ _ => rfl) (fun b hb => dj_Jz26 b (by omega)) rfl A), dj_Jz26⟩, by rw [ht]; exact hP⟩⟩, hS.F ht⟩) hS.2.2 dX7_best_208
        · have t86 := tq_nle (k := z85.toInt) (q := v68_7.toInt) c86 rfl rfl
          refine lv_aload_n hx hb dX7_best_89 rfl (lv_at hl 0 rfl) ?_
          refine lv_iload_n hx hb dX7_best_90 rfl (lv_at hl 2 rfl) ?_
          refine lv_iconst (v := 1) hx hb dX7_best_91 (by decide +kernel) ?_
          refine ro_i (va_runV (As := [.int p2, .int 1]) (rest := []) ⟨hx, hb, hml, hown, hts⟩ (s_X7_of l dC dI cs L K G Q hQ x0 m0 tx tm H.size I Jz26 hI p0 hLp0 hKp0 p2 ⟨by omega, by omega⟩ 1 ⟨by decide +kernel, by decide +kernel⟩) (cwV 2 hts (gV pq1320 pq1322 pq25 pq81 pq1323) rfl rfl rfl (by decide +kernel) ⟨(by rw [hR]; exact (Nat.le_of_ble_eq_true rfl)), (by rw [hR]; exact (Nat.le_of_ble_eq_true rfl))⟩) (sP_V hP hD hK hN hLp0 hKp0 rfl rfl) rfl rfl hl.1 rfl (lv_room (Nat.le_of_ble_eq_true rfl)) dX7_best_92 ⟨(by rw [hR]; exact (Nat.le_of_ble_eq_true rfl)), (by rw [hR]; exact (Nat.le_of_ble_eq_true rfl))⟩) hS hP (fun z92 H locs hz92 hP hS => ?_)
          have cst92_1 : (1 : Int32).toInt = 1 := by decide +kernel
          obtain ⟨fez92, xpz92⟩ := hz92
          have bz92 := xpz92.2.1 rfl
          refine lv_aload_n hx hb dX7_best_95 rfl (lv_at hl 0 rfl) ?_
          refine lv_aload_n hx hb dX7_best_96 rfl (lv_at hl 0 rfl) ?_
          refine lv_iload_n hx hb dX7_best_97 rfl (lv_at hl 1 rfl) ?_
          refine ro_i (va_runV (As := [.int p1]) (rest := [.ref p0, .int z92]) ⟨hx, hb, hml, hown, hts⟩ (s_X7_maskOf l dC dI cs L K G Q hQ x0 m0 tx tm H.size I Jz26 hI p0 hLp0 hKp0 p1 ⟨by omega, by omega⟩) (cwV 1 hts (gV pq1431 pq1433 pq41 pq81 pq1434) rfl rfl rfl (by decide +kernel) ⟨(by rw [hR]; exact (Nat.le_of_ble_eq_true rfl)), (by rw [hR]; exact (Nat.le_of_ble_eq_true rfl))⟩) (sP_V hP hD hK hN hLp0 hKp0 rfl rfl) rfl rfl hl.1 rfl (lv_room (Nat.le_of_ble_eq_true rfl)) dX7_best_98 ⟨(by rw [hR]; exact (Nat.le_of_ble_eq_true rfl)), (by rw [hR]; exact (Nat.le_of_ble_eq_true rfl))⟩) hS hP (fun z98 H locs hz98 hP hS => ?_)
          obtain ⟨bz98, fez98⟩ := hz98
          obtain rfl : z57 = z98 := fez57.trans fez98.symm
          refine ro_i (va_runV (As := [.int z57]) (rest := [.int z92]) ⟨hx, hb, hml, hown, hts⟩ (s_X7_wide l dC dI cs L K G Q hQ x0 m0 tx tm H.size I Jz26 hI p0 hLp0 hKp0 z57 ⟨by omega, by omega⟩) (cwV 1 hts (gV pq1368 pq1370 pq32 pq81 pq1371) rfl rfl rfl (by decide +kernel) ⟨(by rw [hR]; exact (Nat.le_of_ble_eq_true rfl)), (by rw [hR]; exact (Nat.le_of_ble_eq_true rfl))⟩) (sP_V hP hD hK hN hLp0 hKp0 rfl rfl) rfl rfl hl.1 rfl (lv_room (Nat.le_of_ble_eq_true rfl)) dX7_best_101 ⟨(by rw [hR]; exact (Nat.le_of_ble_eq_true rfl)), (by rw [hR]; exact (Nat.le_of_ble_eq_true rfl))⟩) hS hP (fun z101 H locs hz101 hP hS => ?_)
          obtain ⟨bz101, fez101⟩ := hz101
          refine lv_isub hx hb dX7_best_104 ?_
          refine lv_topi (fun z104 ez104 => ?_)
          have bz104 := tq_sub (k := z92.toInt) (q := z101.toInt) ez104 rfl rfl (by omega) (by omega)
          refine lv_iconst (v := 1) hx hb dX7_best_105 (by decide +kernel) ?_
          refine lv_iadd hx hb dX7_best_106 ?_
          refine lv_topi (fun z106 ez106 => ?_)
          have bz106 := tq_add (k := z104.toInt) (q := (1)) ez106 rfl (by decide +kernel) (by omega) (by omega)
          refine lv_istore (lv' := [(8, .int z106), (0, .ref p0), (1, .int p1), (2, .int p2), (3, .int p3), (4, .int v68_4), (5, .int v68_5), (6, .int v68_6), (7, .int v68_7)]) hx hb dX7_best_107 hl (by decide) rfl (fun ls hl => ?_)
          have key109 := blocks (fun n => ∀ (v109_4 : Int32) (v109_5 : Int32) (v109_6 : Int32) (v109_8 : Int32) (H : Heap) (lo : List Loc) (ls : Array Slot), (6000302 - v109_8.toInt).toNat = n → ((0) ≤ v109_4.toInt ∧ v109_4.toInt ≤ 2147483647) → ((-6000099) ≤ v109_5.toInt ∧ v109_5.toInt ≤ 6000099) → ((-6000039) ≤ v109_6.toInt ∧ v109_6.toInt ≤ 6000039) → ((-6000099) ≤ v109_8.toInt ∧ v109_8.toInt ≤ 6000301) → va_P (dC, dI) vwCl (Wd cs L K I Jz26 Q) H → va_S A s.heap H lo → lv_has ls 10 [(0, .ref p0), (1, .int p1), (2, .int p2), (3, .int p3), (4, .int v109_4), (5, .int v109_5), (6, .int v109_6), (7, .int v68_7), (8, .int v109_8)] → W p l e R s m (([.ref p0, .int p1, .int p2, .int p3] : List Value).toArray) below meth c H lo 0 0 Qz (F0 m 109 ls [])) (by
            intro n ih109
            intro v109_4 v109_5 v109_6 v109_8 H lo ls hmu109 bv109_4 bv109_5 bv109_6 bv109_8 hP hS hl
            refine lv_iload hx hb dX7_best_109 (lv_at hl 8 rfl) ?_
            refine lv_aload_n hx hb dX7_best_111 rfl (lv_at hl 0 rfl) ?_
            refine lv_iload_n hx hb dX7_best_112 rfl (lv_at hl 2 rfl) ?_
            refine lv_iconst (v := 1) hx hb dX7_best_113 (by decide +kernel) ?_
            refine ro_i (va_runV (As := [.int p2, .int 1]) (rest := [.int v109_8]) ⟨hx, hb, hml, hown, hts⟩ (s_X7_of l dC dI cs L K G Q hQ x0 m0 tx tm H.size I Jz26 hI p0 hLp0 hKp0 p2 ⟨by omega, by omega⟩ 1 ⟨by decide +kernel, by decide +kernel⟩) (cwV 2 hts (gV pq1320 pq1322 pq25 pq81 pq1323) rfl rfl rfl (by decide +kernel) ⟨(by rw [hR]; exact (Nat.le_of_ble_eq_true rfl)), (by rw [hR]; exact (Nat.le_of_ble_eq_true rfl))⟩) (sP_V hP hD hK hN hLp0 hKp0 rfl rfl) rfl rfl hl.1 rfl (lv_room (Nat.le_of_ble_eq_true rfl)) dX7_best_114 ⟨(by rw [hR]; exact (Nat.le_of_ble_eq_true rfl)), (by rw [hR]; exact (Nat.le_of_ble_eq_true rfl))⟩) hS hP (fun z114 H locs hz114 hP hS => ?_)
            have cst114_1 : (1 : Int32).toInt = 1 := by decide +kernel
            obtain ⟨fez114, xpz114⟩ := hz114
            have bz114 := xpz114.2.1 rfl
            obtain rfl : z92 = z114 := fez92.trans fez114.symm
            refine lv_aload_n hx hb dX7_best_117 rfl (lv_at hl 0 rfl) ?_
            refine lv_aload_n hx hb dX7_best_118 rfl (lv_at hl 0 rfl) ?_
            refine lv_iload_n hx hb dX7_best_119 rfl (lv_at hl 2 rfl) ?_
            refine ro_i (va_runV (As := [.int p2]) (rest := [.ref p0, .int z92, .int v109_8]) ⟨hx, hb, hml, hown, hts⟩ (s_X7_maskOf l dC dI cs L K G Q hQ x0 m0 tx tm H.size I Jz26 hI p0 hLp0 hKp0 p2 ⟨by omega, by omega⟩) (cwV 1 hts (gV pq1431 pq1433 pq41 pq81 pq1434) rfl rfl rfl (by decide +kernel) ⟨(by rw [hR]; exact (Nat.le_of_ble_eq_true rfl)), (by rw [hR]; exact (Nat.le_of_ble_eq_true rfl))⟩) (sP_V hP hD hK hN hLp0 hKp0 rfl rfl) rfl rfl hl.1 rfl (lv_room (Nat.le_of_ble_eq_true rfl)) dX7_best_120 ⟨(by rw [hR]; exact (Nat.le_of_ble_eq_true rfl)), (by rw [hR]; exact (Nat.le_of_ble_eq_true rfl))⟩) hS hP (fun z120 H locs hz120 hP hS => ?_)
            obtain ⟨bz120, fez120⟩ := hz120
            obtain rfl : z79 = z120 := fez79.trans fez120.symm
            refine ro_i (va_runV (As := [.int z79]) (rest := [.int z92, .int v109_8]) ⟨hx, hb, hml, hown, hts⟩ (s_X7_wide l dC dI cs L K G Q hQ x0 m0 tx tm H.size I Jz26 hI p0 hLp0 hKp0 z79 ⟨by omega, by omega⟩) (cwV 1 hts (gV pq1368 pq1370 pq32 pq81 pq1371) rfl rfl rfl (by decide +kernel) ⟨(by rw [hR]; exact (Nat.le_of_ble_eq_true rfl)), (by rw [hR]; exact (Nat.le_of_ble_eq_true rfl))⟩) (sP_V hP hD hK hN hLp0 hKp0 rfl rfl) rfl rfl hl.1 rfl (lv_room (Nat.le_of_ble_eq_true rfl)) dX7_best_123 ⟨(by rw [hR]; exact (Nat.le_of_ble_eq_true rfl)), (by rw [hR]; exact (Nat.le_of_ble_eq_true rfl))⟩) hS hP (fun z123 H locs hz123 hP hS => ?_)
            obtain ⟨bz123, fez123⟩ := hz123
            refine lv_iadd hx hb dX7_best_126 ?_
            refine lv_topi (fun z126 ez126 => ?_)
            have bz126 := tq_add (k := z92.toInt) (q := z123.toInt) ez126 rfl rfl (by omega) (by omega)
            refine lv_icmp_ge (tgt := 181) hx hb dX7_best_127 (by decide) (fun c127 => ?_) (fun c127 => ?_)
            · have t127 := tq_le (k := z126.toInt) (q := v109_8.toInt) c127 rfl rfl
              obtain ⟨z181, ez181⟩ : ∃ y : Int32, y = v68_7 + 1 := ⟨_, rfl⟩
              refine lv_iinc (v := z181) (lv' := [(7, .int z181), (0, .ref p0), (1, .int p1), (2, .int p2), (3, .int p3), (4, .int v109_4), (5, .int v109_5), (6, .int v109_6), (8, .int v109_8)]) hx hb dX7_best_181 hl (k := 7) rfl (by rw [ez181]; rfl) (by decide) rfl (fun ls hl => ?_)
              have bz181 := tq_add (k := v68_7.toInt) (q := 1) ez181 rfl (by decide +kernel) (by omega) (by omega)
              refine lv_goto (tgt := 68) hx hb dX7_best_184 (by decide) ?_
              exact ih68 _ (by omega) v109_4 v109_5 v109_6 z181 _ _ _ rfl ⟨by omega, by have := fb_rng v109_4; omega⟩ ⟨by omega, by omega⟩ ⟨by omega, by omega⟩ ⟨by omega, by omega⟩ hP hS (lv_sub hl [1, 2, 3, 4, 5, 6, 7, 0] rfl)
            · have t127 := tq_nle (k := z126.toInt) (q := v109_8.toInt) c127 rfl rfl
              refine lv_aload_n hx hb dX7_best_130 rfl (lv_at hl 0 rfl) ?_
              refine lv_iload_n hx hb dX7_best_131 rfl (lv_at hl 1 rfl) ?_
              refine lv_iload_n hx hb dX7_best_132 rfl (lv_at hl 2 rfl) ?_
              refine lv_iload hx hb dX7_best_133 (lv_at hl 8 rfl) ?_
              refine lv_aload_n hx hb dX7_best_135 rfl (lv_at hl 0 rfl) ?_
              refine lv_iload_n hx hb dX7_best_136 rfl (lv_at hl 1 rfl) ?_
              refine lv_iconst (v := 1) hx hb dX7_best_137 (by decide +kernel) ?_
              refine ro_i (va_runV (As := [.int p1, .int 1]) (rest := [.int v109_8, .int p2, .int p1, .ref p0]) ⟨hx, hb, hml, hown, hts⟩ (s_X7_of l dC dI cs L K G Q hQ x0 m0 tx tm H.size I Jz26 hI p0 hLp0 hKp0 p1 ⟨by omega, by omega⟩ 1 ⟨by decide +kernel, by decide +kernel⟩) (cwV 2 hts (gV pq1320 pq1322 pq25 pq81 pq1323) rfl rfl rfl (by decide +kernel) ⟨(by rw [hR]; exact (Nat.le_of_ble_eq_true rfl)), (by rw [hR]; exact (Nat.le_of_ble_eq_true rfl))⟩) (sP_V hP hD hK hN hLp0 hKp0 rfl rfl) rfl rfl hl.1 rfl (lv_room (Nat.le_of_ble_eq_true rfl)) dX7_best_138 ⟨(by rw [hR]; exact (Nat.le_of_ble_eq_true rfl)), (by rw [hR]; exact (Nat.le_of_ble_eq_true rfl))⟩) hS hP (fun z138 H locs hz138 hP hS => ?_)
              have cst138_1 : (1 : Int32).toInt = 1 := by decide +kernel
              obtain ⟨fez138, xpz138⟩ := hz138
              have bz138 := xpz138.2.1 rfl
              obtain rfl : z35 = z138 := fez35.trans fez138.symm
              refine lv_isub hx hb dX7_best_141 ?_
              refine lv_topi (fun z141 ez141 => ?_)
              have bz141 := tq_sub (k := v109_8.toInt) (q := z35.toInt) ez141 rfl rfl (by omega) (by omega)
              refine lv_iload hx hb dX7_best_142 (lv_at hl 7 rfl) ?_
              refine lv_aload_n hx hb dX7_best_144 rfl (lv_at hl 0 rfl) ?_
              refine lv_iload_n hx hb dX7_best_145 rfl (lv_at hl 1 rfl) ?_
              refine lv_iconst (v := 2) hx hb dX7_best_146 (by decide +kernel) ?_
              refine ro_i (va_runV (As := [.int p1, .int 2]) (rest := [.int v68_7, .int z141, .int p2, .int p1, .ref p0]) ⟨hx, hb, hml, hown, hts⟩ (s_X7_of l dC dI cs L K G Q hQ x0 m0 tx tm H.size I Jz26 hI p0 hLp0 hKp0 p1 ⟨by omega, by omega⟩ 2 ⟨by decide +kernel, by decide +kernel⟩) (cwV 2 hts (gV pq1320 pq1322 pq25 pq81 pq1323) rfl rfl rfl (by decide +kernel) ⟨(by rw [hR]; exact (Nat.le_of_ble_eq_true rfl)), (by rw [hR]; exact (Nat.le_of_ble_eq_true rfl))⟩) (sP_V hP hD hK hN hLp0 hKp0 rfl rfl) rfl rfl hl.1 rfl (lv_room (Nat.le_of_ble_eq_true rfl)) dX7_best_147 ⟨(by rw [hR]; exact (Nat.le_of_ble_eq_true rfl)), (by rw [hR]; exact (Nat.le_of_ble_eq_true rfl))⟩) hS hP (fun z147 H locs hz147 hP hS => ?_)
              have cst147_2 : (2 : Int32).toInt = 2 := by decide +kernel
              obtain ⟨fez147, xpz147⟩ := hz147
              have bz147 := xpz147.2.2.1 rfl
              obtain rfl : z43 = z147 := fez43.trans fez147.symm
              refine lv_isub hx hb dX7_best_150 ?_
              refine lv_topi (fun z150 ez150 => ?_)
              have bz150 := tq_sub (k := v68_7.toInt) (q := z43.toInt) ez150 rfl rfl (by omega) (by omega)
              refine ro_i (va_runV (As := [.int p1, .int p2, .int z141, .int z150]) (rest := []) ⟨hx, hb, hml, hown, hts⟩ (s_X7_commonBy l dC dI cs L K G Q hQ x0 m0 tx tm H.size I Jz26 hI p0 hLp0 hKp0 p1 ⟨by omega, by omega⟩ p2 ⟨by omega, by omega⟩ z141 z150 ⟨by omega, by omega⟩) (cwV 4 hts (gV pq1575 pq1577 pq63 pq81 pq1578) rfl rfl rfl (by decide +kernel) ⟨(by rw [hR]; exact (Nat.le_of_ble_eq_true rfl)), (by rw [hR]; exact (Nat.le_of_ble_eq_true rfl))⟩) (sP_V hP hD hK hN hLp0 hKp0 rfl rfl) rfl rfl hl.1 rfl (lv_room (Nat.le_of_ble_eq_true rfl)) dX7_best_151 ⟨(by rw [hR]; exact (Nat.le_of_ble_eq_true rfl)), (by rw [hR]; exact (Nat.le_of_ble_eq_true rfl))⟩) hS hP (fun z151 H locs hz151 hP hS => ?_)
              refine lv_istore (lv' := [(9, .int z151), (0, .ref p0), (1, .int p1), (2, .int p2), (3, .int p3), (4, .int v109_4), (5, .int v109_5), (6, .int v109_6), (7, .int v68_7), (8, .int v109_8)]) hx hb dX7_best_154 hl (by decide) rfl (fun ls hl => ?_)
              refine lv_iload hx hb dX7_best_156 (lv_at hl 0 rfl) ?_
              refine lv_iload hx hb dX7_best_158 (lv_at hl 5 rfl) ?_
              have j175 : ∀ (v175_4 : Int32) (v175_5 : Int32) (v175_6 : Int32) (H : Heap) (lo : List Loc) (ls : Array Slot), ((0) ≤ v175_4.toInt ∧ v175_4.toInt ≤ 2147483647) → ((-6000099) ≤ v175_5.toInt ∧ v175_5.toInt ≤ 6000099) → ((-6000039) ≤ v175_6.toInt ∧ v175_6.toInt ≤ 6000039) → va_P (dC, dI) vwCl (Wd cs L K I Jz26 Q) H → va_S A s.heap H lo → lv_has ls 10 [(0, .ref p0), (1, .int p1), (2, .int p2), (3, .int p3), (4, .int v175_4), (5, .int v175_5), (6, .int v175_6), (7, .int v68_7), (8, .int v109_8), (9, .int z151)] → W p l e R s m (([.ref p0, .int p1, .int p2, .int p3] : List Value).toArray) below meth c H lo 0 0 Qz (F0 m 175 ls []) := by
                intro v175_4 v175_5 v175_6 H lo ls bv175_4 bv175_5 bv175_6 hP hS hl
                obtain ⟨z175, ez175⟩ : ∃ y : Int32, y = v109_8 + 1 := ⟨_, rfl⟩
                refine lv_iinc (v := z175) (lv' := [(8, .int z175), (0, .ref p0), (1, .int p1), (2, .int p2), (3, .int p3), (4, .int v175_4), (5, .int v175_5), (6, .int v175_6), (7, .int v68_7), (9, .int z151)]) hx hb dX7_best_175 hl (k := 8) rfl (by rw [ez175]; rfl) (by decide) rfl (fun ls hl => ?_)
                have bz175 := tq_add (k := v109_8.toInt) (q := 1) ez175 rfl (by decide +kernel) (by omega) (by omega)
                refine lv_goto (tgt := 109) hx hb dX7_best_178 (by decide) ?_
                exact ih109 _ (by omega) v175_4 v175_5 v175_6 z175 _ _ _ rfl ⟨by omega, by have := fb_rng v175_4; omega⟩ ⟨by omega, by omega⟩ ⟨by omega, by omega⟩ ⟨by omega, by omega⟩ hP hS (lv_sub hl [1, 2, 3, 4, 5, 6, 7, 8, 0] rfl)
              refine lv_icmp_le (tgt := 175) hx hb dX7_best_160 (by decide) (fun c160 => ?_) (fun c160 => ?_)
              · have t160 := tq_le (k := z151.toInt) (q := v109_4.toInt) c160 rfl rfl
                exact j175 v109_4 v109_5 v109_6 _ _ _ ⟨by omega, by have := fb_rng v109_4; omega⟩ ⟨by omega, by omega⟩ ⟨by omega, by omega⟩ hP hS (lv_sub hl [1, 2, 3, 4, 5, 6, 7, 8, 9, 0] rfl)
              · have t160 := tq_nle (k := z151.toInt) (q := v109_4.toInt) c160 rfl rfl
                have rg160z151 := fb_rng z151
                have rg160v109_4 := fb_rng v109_4
                refine lv_iload hx hb dX7_best_163 (lv_at hl 0 rfl) ?_
                refine lv_istore (lv' := [(4, .int z151), (9, .int z151), (0, .ref p0), (1, .int p1), (2, .int p2), (3, .int p3), (5, .int v109_5), (6, .int v109_6), (7, .int v68_7), (8, .int v109_8)]) hx hb dX7_best_165 hl (by decide) rfl (fun ls hl => ?_)
                refine lv_iload hx hb dX7_best_167 (lv_at hl 9 rfl) ?_
                refine lv_istore (lv' := [(5, .int v109_8), (4, .int z151), (9, .int z151), (0, .ref p0), (1, .int p1), (2, .int p2), (3, .int p3), (6, .int v109_6), (7, .int v68_7), (8, .int v109_8)]) hx hb dX7_best_169 hl (by decide) rfl (fun ls hl => ?_)
                refine lv_iload hx hb dX7_best_171 (lv_at hl 8 rfl) ?_
                refine lv_istore (lv' := [(6, .int v68_7), (5, .int v109_8), (4, .int z151), (9, .int z151), (0, .ref p0), (1, .int p1), (2, .int p2), (3, .int p3), (7, .int v68_7), (8, .int v109_8)]) hx hb dX7_best_173 hl (by decide) rfl (fun ls hl => ?_)
                exact j175 z151 v109_8 v68_7 _ _ _ ⟨by omega, by have := fb_rng z151; omega⟩ ⟨by omega, by omega⟩ ⟨by omega, by omega⟩ hP hS (lv_sub hl [4, 5, 6, 7, 2, 1, 0, 8, 9, 3] rfl))
          exact key109 _ v68_4 v68_5 v68_6 z106 _ _ _ rfl ⟨by omega, by have := fb_rng v68_4; omega⟩ ⟨by omega, by omega⟩ ⟨by omega, by omega⟩ ⟨by omega, by omega⟩ hP hS (lv_sub hl [1, 2, 3, 4, 5, 6, 7, 8, 0] rfl))
      exact key68 _ 0 z35 z43 z65 _ _ _ rfl ⟨by decide +kernel, by decide +kernel⟩ ⟨by omega, by omega⟩ ⟨by omega, by omega⟩ ⟨by omega, by omega⟩ hP hS (lv_sub hl [4, 5, 6, 7, 3, 2, 1, 0] rfl)
    · have t18 := tq_eq (k := z15.toInt) (q := (0)) c18 rfl (by decide +kernel)
      refine lv_sipush (v := (-2000)) hx hb dX7_best_21 (by decide +kernel) ?_
      subst hR; subst hQz
      exact W.iret (v := (-2000)) hx hb hr (fun t ht hW => ⟨⟨(-2000), (), rfl, trivial, ⟨I, J, ⟨hI, rfl, (fun σ A => cmA_fr hQ hLp0 hKp0 (fun _ _ => rfl) (fun _ _ => rfl) rfl A), dj_J⟩, by rw [ht]; exact hP⟩⟩, hS.F ht⟩) hS.2.2 dX7_best_24

set_option maxHeartbeats 4000000 in
set_option maxRecDepth 100000 in
theorem s_X7_masksMeet (l : Launch) (dC : Nat → ClassId) (dI : Nat → Nat → Nat) (cs : Nat → ClassId) (L : List Nat) (K G : Nat → Nat) (Q : Nat → Nat → Option Nat) (hQ : Sv L K G Q) (x0 m0 : Nat) (tx : GT) (tm : GT × Int) (sz : Nat) (I : Nat → Nat → Int32) (J : Nat → Nat → Int64) (hI : Iv L K x0 m0 tx tm I) (p0 : Nat) (hLp0 : p0 ∈ L) (hKp0 : K p0 = 7) (p1 : Int32) (bp1 : (0) ≤ p1.toInt ∧ p1.toInt ≤ 7) (p2 : Int32) (bp2 : (0) ≤ p2.toInt ∧ p2.toInt ≤ 7) (p3 : Int32) (p4 : Int32) (bp4 : (-1000) ≤ p4.toInt ∧ p4.toInt ≤ 1000) : Met l yX7_masksMeet (.code yX7_masksMeet cX7_masksMeet 8 (some .boolean) :: pw) ({ frames := 1, cells := 0, slots := 0, locals := 25 }) (sP (dC, dI) cs [.ref p0, .int p1, .int p2, .int p3, .int p4] sz L K I J Q) (va_Qi (fun (r : Int32) (_ : Unit) => ((0) ≤ r.toInt ∧ r.toInt ≤ 1)) (fun _ _ => True) (fun _ => False)) 0 0 (fun _ => False) := by
  refine Met.ofW (cc := cX7_masksMeet) (maxL := 8) (ret := (some .boolean)) (by decide +kernel) rfl ?_
  intro p e s m args below meth c s₁ B hml hv
  obtain ⟨rfl, hsz, hP, hK, hD0, hN⟩ := hv
  have hx := B.exec
  have hb := B.bytes
  have hr := B.returns
  have hts := fun w (h : w ∈ pw) => atoms_spec (ws := Cond.code yX7_masksMeet cX7_masksMeet 8 (some .boolean) :: pw) B.pre w (List.mem_cons_of_mem _ h)
  have hown : s.vm.findClass RX7 = some m.cls := findClass_of_methodNamed B.named
  have hlocks := B.notSynchronized
  subst hsz
  have hBB : 999 ≤ tm.2 ∧ tm.2 ≤ 6000000 := hI.2.2.2.2.1
  have hD := hD0
  obtain ⟨H, hHe⟩ : ∃ H : Heap, H = s.heap := ⟨_, rfl⟩
  have hS : va_S (fun _ => False) s.heap H [] := by rw [hHe]; exact va_S.rf
  rw [← hHe] at hP
  have hl := lv_entry ([.ref p0, .int p1, .int p2, .int p3, .int p4]) (n := 8) (Nat.le_of_ble_eq_true rfl)
  rw [lg_entry_eq]
  generalize (lg_sl ([.ref p0, .int p1, .int p2, .int p3, .int p4]) ++ List.replicate (8 - (lg_sl ([.ref p0, .int p1, .int p2, .int p3, .int p4])).length) Slot.unset).toArray = ls at hl ⊢
  have hl : lv_has ls 8 [(0, .ref p0), (1, .int p1), (2, .int p2), (3, .int p3), (4, .int p4)] := hl
  rw [← hHe]
  refine namedW (fun R Qz hR hQz => ?_)
  refine lv_iconst (v := 0) hx hb dX7_masksMeet_0 (by decide +kernel) ?_
  refine lv_iload hx hb dX7_masksMeet_1 (lv_at hl 4 rfl) ?_
  refine lv_ineg hx hb dX7_masksMeet_3 ?_
  refine lv_topi (fun z3 ez3 => ?_)
  have bz3 := tq_neg (k := p4.toInt) ez3 rfl (by omega) (by omega)
  refine va_mmax hx hb (hml.trans hl.1.symm) hown (hts _ pq1443) (hts _ pq750) (hts _ pq82) (hts _ pq751) (by rw [hR]; exact (Nat.le_of_ble_eq_true rfl)) (by rw [hR]; exact (Nat.le_of_ble_eq_true rfl)) (by rw [hR]; exact (Nat.le_of_ble_eq_true rfl)) (by rw [hR]; exact (Nat.le_of_ble_eq_true rfl)) dX7_masksMeet_4 ?_
  refine lv_topi (fun z4 ez4 => ?_)
  have bz4 := tq_max ez4
  have bz4x : (0 : Int32).toInt = 0 := by decide +kernel
  refine lv_istore (lv' := [(5, .int z4), (0, .ref p0), (1, .int p1), (2, .int p2), (3, .int p3), (4, .int p4)]) hx hb dX7_masksMeet_7 hl (by decide) rfl (fun ls hl => ?_)
  have key9 := blocks (fun n => ∀ (v9_5 : Int32) (H : Heap) (lo : List Loc) (ls : Array Slot), (1001 - v9_5.toInt).toNat = n → ((0) ≤ v9_5.toInt ∧ v9_5.toInt ≤ 1000) → -p4.toInt ≤ v9_5.toInt → va_P (dC, dI) vwCl (Wd cs L K I J Q) H → va_S (fun _ => False) s.heap H lo → lv_has ls 8 [(0, .ref p0), (1, .int p1), (2, .int p2), (3, .int p3), (4, .int p4), (5, .int v9_5)] → W p l e R s m (([.ref p0, .int p1, .int p2, .int p3, .int p4] : List Value).toArray) below meth c H lo 0 0 Qz (F0 m 9 ls [])) (by
    intro n ih9
    intro v9_5 H lo ls hmu9 bv9_5 hmd hP hS hl
    refine lv_iload hx hb dX7_masksMeet_9 (lv_at hl 5 rfl) ?_
    refine lv_aload_n hx hb dX7_masksMeet_11 rfl (lv_at hl 0 rfl) ?_
    refine lv_iload_n hx hb dX7_masksMeet_12 rfl (lv_at hl 1 rfl) ?_
    refine ro_i (va_runV (As := [.int p1]) (rest := [.int v9_5]) ⟨hx, hb, hml, hown, hts⟩ (s_X7_high l dC dI cs L K G Q hQ x0 m0 tx tm H.size I J hI p0 hLp0 hKp0 p1 ⟨by omega, by omega⟩) (cwV 1 hts (gV pq1372 pq1374 pq33 pq81 pq1375) rfl rfl rfl (by decide +kernel) ⟨(by rw [hR]; exact (Nat.le_of_ble_eq_true rfl)), (by rw [hR]; exact (Nat.le_of_ble_eq_true rfl))⟩) (sP_V hP hD hK hN hLp0 hKp0 rfl rfl) rfl rfl hl.1 rfl (lv_room (Nat.le_of_ble_eq_true rfl)) dX7_masksMeet_13 ⟨(by rw [hR]; exact (Nat.le_of_ble_eq_true rfl)), (by rw [hR]; exact (Nat.le_of_ble_eq_true rfl))⟩) hS hP (fun z13 H locs hz13 hP hS => ?_)
    obtain ⟨bz13, fez13⟩ := hz13
    refine lv_icmp_ge (tgt := 133) hx hb dX7_masksMeet_16 (by decide) (fun c16 => ?_) (fun c16 => ?_)
    · have t16 := tq_le (k := z13.toInt) (q := v9_5.toInt) c16 rfl rfl
      refine lv_iconst (v := 0) hx hb dX7_masksMeet_133 (by decide +kernel) ?_
      subst hR; subst hQz
      exact W.zret (v := 0) hx hb hr (by decide +kernel) (fun t ht hW => ⟨⟨0, (), rfl, ⟨by decide +kernel, by decide +kernel⟩, trivial⟩, hS.F ht⟩) hS.2.2 dX7_masksMeet_134
    · have t16 := tq_nle (k := z13.toInt) (q := v9_5.toInt) c16 rfl rfl
      refine lv_iload hx hb dX7_masksMeet_19 (lv_at hl 5 rfl) ?_
      refine lv_iload hx hb dX7_masksMeet_21 (lv_at hl 4 rfl) ?_
      refine lv_iadd hx hb dX7_masksMeet_23 ?_
      refine lv_topi (fun z23 ez23 => ?_)
      have bz23 := tq_add (k := v9_5.toInt) (q := p4.toInt) ez23 rfl rfl (by omega) (by omega)
      refine lv_aload_n hx hb dX7_masksMeet_24 rfl (lv_at hl 0 rfl) ?_
      refine lv_iload_n hx hb dX7_masksMeet_25 rfl (lv_at hl 2 rfl) ?_
      refine ro_i (va_runV (As := [.int p2]) (rest := [.int z23]) ⟨hx, hb, hml, hown, hts⟩ (s_X7_high l dC dI cs L K G Q hQ x0 m0 tx tm H.size I J hI p0 hLp0 hKp0 p2 ⟨by omega, by omega⟩) (cwV 1 hts (gV pq1372 pq1374 pq33 pq81 pq1375) rfl rfl rfl (by decide +kernel) ⟨(by rw [hR]; exact (Nat.le_of_ble_eq_true rfl)), (by rw [hR]; exact (Nat.le_of_ble_eq_true rfl))⟩) (sP_V hP hD hK hN hLp0 hKp0 rfl rfl) rfl rfl hl.1 rfl (lv_room (Nat.le_of_ble_eq_true rfl)) dX7_masksMeet_26 ⟨(by rw [hR]; exact (Nat.le_of_ble_eq_true rfl)), (by rw [hR]; exact (Nat.le_of_ble_eq_true rfl))⟩) hS hP (fun z26 H locs hz26 hP hS => ?_)
      obtain ⟨bz26, fez26⟩ := hz26
      refine lv_icmp_ge (tgt := 133) hx hb dX7_masksMeet_29 (by decide) (fun c29 => ?_) (fun c29 => ?_)
      · have t29 := tq_le (k := z26.toInt) (q := z23.toInt) c29 rfl rfl
        refine lv_iconst (v := 0) hx hb dX7_masksMeet_133 (by decide +kernel) ?_
        subst hR; subst hQz
        exact W.zret (v := 0) hx hb hr (by decide +kernel) (fun t ht hW => ⟨⟨0, (), rfl, ⟨by decide +kernel, by decide +kernel⟩, trivial⟩, hS.F ht⟩) hS.2.2 dX7_masksMeet_134
      · have t29 := tq_nle (k := z26.toInt) (q := z23.toInt) c29 rfl rfl
        refine lv_bipush (v := 80) hx hb dX7_masksMeet_32 (by decide +kernel) ?_
        refine lv_iload_n hx hb dX7_masksMeet_34 rfl (lv_at hl 1 rfl) ?_
        refine lv_imul hx hb dX7_masksMeet_35 ?_
        refine lv_topi (fun z35 ez35 => ?_)
        have bz35 := tq_mul (k := (80)) (q := p1.toInt) ez35 (by decide +kernel) rfl (by omega) (by omega)
        refine lv_iconst (v := 2) hx hb dX7_masksMeet_36 (by decide +kernel) ?_
        refine lv_iload hx hb dX7_masksMeet_37 (lv_at hl 5 rfl) ?_
        refine lv_imul hx hb dX7_masksMeet_39 ?_
        refine lv_topi (fun z39 ez39 => ?_)
        have bz39 := tq_mul (k := (2)) (q := v9_5.toInt) ez39 (by decide +kernel) rfl (by omega) (by omega)
        refine lv_iadd hx hb dX7_masksMeet_40 ?_
        refine lv_topi (fun z40 ez40 => ?_)
        have bz40 := tq_add (k := z35.toInt) (q := z39.toInt) ez40 rfl rfl (by omega) (by omega)
        refine lv_istore (lv' := [(6, .int z40), (0, .ref p0), (1, .int p1), (2, .int p2), (3, .int p3), (4, .int p4), (5, .int v9_5)]) hx hb dX7_masksMeet_41 hl (by decide) rfl (fun ls hl => ?_)
        refine lv_bipush (v := 80) hx hb dX7_masksMeet_43 (by decide +kernel) ?_
        refine lv_iload_n hx hb dX7_masksMeet_45 rfl (lv_at hl 3 rfl) ?_
        refine lv_imul hx hb dX7_masksMeet_46 ?_
        refine lv_topi (fun z46 ez46 => ?_)
        have bz46 := tq_mul (k := (80)) (q := p2.toInt) ez46 (by decide +kernel) rfl (by omega) (by omega)
        refine lv_iconst (v := 2) hx hb dX7_masksMeet_47 (by decide +kernel) ?_
        refine lv_iload hx hb dX7_masksMeet_48 (lv_at hl 6 rfl) ?_
        refine lv_iload hx hb dX7_masksMeet_50 (lv_at hl 5 rfl) ?_
        refine lv_iadd hx hb dX7_masksMeet_52 ?_
        refine lv_topi (fun z52 ez52 => ?_)
        have bz52 := tq_add (k := v9_5.toInt) (q := p4.toInt) ez52 rfl rfl (by omega) (by omega)
        refine lv_imul hx hb dX7_masksMeet_53 ?_
        refine lv_topi (fun z53 ez53 => ?_)
        have bz53 := tq_mul (k := (2)) (q := z52.toInt) ez53 (by decide +kernel) rfl (by omega) (by omega)
        refine lv_iadd hx hb dX7_masksMeet_54 ?_
        refine lv_topi (fun z54 ez54 => ?_)
        have bz54 := tq_add (k := z46.toInt) (q := z53.toInt) ez54 rfl rfl (by omega) (by omega)
        refine lv_istore (lv' := [(7, .int z54), (6, .int z40), (0, .ref p0), (1, .int p1), (2, .int p2), (3, .int p3), (4, .int p4), (5, .int v9_5)]) hx hb dX7_masksMeet_55 hl (by decide) rfl (fun ls hl => ?_)
        refine lv_aload_n hx hb dX7_masksMeet_57 rfl (lv_at hl 2 rfl) ?_
        obtain ⟨y58, ey58, hLy58, hKy58⟩ := oQ_7_5 (Sv_at hQ hLp0 hKp0)
        refine p_get (v := .ref y58) hx hb hts inX7 hown hK hP hLp0 hKp0 rfl rfl 5 (by decide) (hts _ pq1120) (congrArg (fun q => some (va_rf q)) ey58) dX7_masksMeet_58 ?_
        refine lv_iload hx hb dX7_masksMeet_61 (lv_at hl 1 rfl) ?_
        refine p_lald hx hb hK hP 11 hLy58 hKy58 rfl rfl (in_of (by omega) (by omega)) dX7_masksMeet_63 ?_
        refine lv_topl (fun z63 ez63 => ?_)
        refine lv_aload_n hx hb dX7_masksMeet_64 rfl (lv_at hl 2 rfl) ?_
        refine p_get (v := .ref y58) hx hb hts inX7 hown hK hP hLp0 hKp0 rfl rfl 5 (by decide) (hts _ pq1120) (congrArg (fun q => some (va_rf q)) ey58) dX7_masksMeet_65 ?_
        refine lv_iload hx hb dX7_masksMeet_68 (lv_at hl 1 rfl) ?_
        refine lv_iconst (v := 1) hx hb dX7_masksMeet_70 (by decide +kernel) ?_
        refine lv_iadd hx hb dX7_masksMeet_71 ?_
        refine lv_topi (fun z71 ez71 => ?_)
        have bz71 := tq_add (k := z40.toInt) (q := (1)) ez71 rfl (by decide +kernel) (by omega) (by omega)
        refine p_lald hx hb hK hP 11 hLy58 hKy58 rfl rfl (in_of (by omega) (by omega)) dX7_masksMeet_72 ?_
        refine lv_topl (fun z72 ez72 => ?_)
        refine lv_iload_n hx hb dX7_masksMeet_73 rfl (lv_at hl 5 rfl) ?_
        refine ro_l (va_runS (As := [.long z63, .long z72, .int p3]) (rest := []) ⟨hx, hb, hml, hown, hts⟩ (s_X7_low l dC dI cs L K G Q hQ x0 m0 tx tm H.size I J hI z63 z72 p3) (va_cwS 3 hts (gS pq1464 pq1465 pq81 pq1466) rfl rfl rfl (by decide +kernel) ⟨(by rw [hR]; exact (Nat.le_of_ble_eq_true rfl)), (by rw [hR]; exact (Nat.le_of_ble_eq_true rfl))⟩) (sP_S hP hD hK hN) rfl rfl hl.1 rfl (lv_room (Nat.le_of_ble_eq_true rfl)) dX7_masksMeet_74 ⟨(by rw [hR]; exact (Nat.le_of_ble_eq_true rfl)), (by rw [hR]; exact (Nat.le_of_ble_eq_true rfl))⟩) hS hP (fun z74 H locs hz74 hP hS => ?_)
        have xpz74 := hz74
        refine lv_aload_n hx hb dX7_masksMeet_77 rfl (lv_at hl 2 rfl) ?_
        refine p_get (v := .ref y58) hx hb hts inX7 hown hK hP hLp0 hKp0 rfl rfl 5 (by decide) (hts _ pq1120) (congrArg (fun q => some (va_rf q)) ey58) dX7_masksMeet_78 ?_
        refine lv_iload hx hb dX7_masksMeet_81 (lv_at hl 0 rfl) ?_
        refine p_lald hx hb hK hP 11 hLy58 hKy58 rfl rfl (in_of (by omega) (by omega)) dX7_masksMeet_83 ?_
        refine lv_topl (fun z83 ez83 => ?_)
        refine lv_land hx hb dX7_masksMeet_84 ?_
        refine lv_topl (fun z84 ez84 => ?_)
        refine lv_lconst (v := 0) hx hb dX7_masksMeet_85 (by decide +kernel) ?_
        refine W.lcmp hx hb dX7_masksMeet_86 ?_
        refine lv_topi (fun z86 ez86 => ?_)
        have bz86 := tq_lcmp (k := z84.toInt) (q := (0)) ez86 rfl (by decide +kernel)
        refine lv_if_ne (tgt := 125) hx hb dX7_masksMeet_87 (by decide) (fun c87 => ?_) (fun c87 => ?_)
        · have t87 := tq_ne (k := z86.toInt) (q := (0)) c87 rfl (by decide +kernel)
          refine lv_iconst (v := 1) hx hb dX7_masksMeet_125 (by decide +kernel) ?_
          subst hR; subst hQz
          exact W.zret (v := 1) hx hb hr (by decide +kernel) (fun t ht hW => ⟨⟨1, (), rfl, ⟨by decide +kernel, by decide +kernel⟩, trivial⟩, hS.F ht⟩) hS.2.2 dX7_masksMeet_126
        · have t87 := tq_eq (k := z86.toInt) (q := (0)) c87 rfl (by decide +kernel)
          refine lv_aload_n hx hb dX7_masksMeet_90 rfl (lv_at hl 2 rfl) ?_
          refine p_get (v := .ref y58) hx hb hts inX7 hown hK hP hLp0 hKp0 rfl rfl 5 (by decide) (hts _ pq1120) (congrArg (fun q => some (va_rf q)) ey58) dX7_masksMeet_91 ?_
          refine lv_iload hx hb dX7_masksMeet_94 (lv_at hl 1 rfl) ?_
          refine p_lald hx hb hK hP 11 hLy58 hKy58 rfl rfl (in_of (by omega) (by omega)) dX7_masksMeet_96 ?_
          refine lv_topl (fun z96 ez96 => ?_)
          obtain rfl : z63 = z96 := ez63.trans ez96.symm
          refine lv_aload_n hx hb dX7_masksMeet_97 rfl (lv_at hl 2 rfl) ?_
          refine p_get (v := .ref y58) hx hb hts inX7 hown hK hP hLp0 hKp0 rfl rfl 5 (by decide) (hts _ pq1120) (congrArg (fun q => some (va_rf q)) ey58) dX7_masksMeet_98 ?_
          refine lv_iload hx hb dX7_masksMeet_101 (lv_at hl 1 rfl) ?_
          refine lv_iconst (v := 1) hx hb dX7_masksMeet_103 (by decide +kernel) ?_
          refine lv_iadd hx hb dX7_masksMeet_104 ?_
          refine lv_topi (fun z104 ez104 => ?_)
          have bz104 := tq_add (k := z40.toInt) (q := (1)) ez104 rfl (by decide +kernel) (by omega) (by omega)
          refine p_lald hx hb hK hP 11 hLy58 hKy58 rfl rfl (in_of (by omega) (by omega)) dX7_masksMeet_105 ?_
          refine lv_topl (fun z105 ez105 => ?_)
          refine lv_iload_n hx hb dX7_masksMeet_106 rfl (lv_at hl 5 rfl) ?_
          refine ro_l (va_runS (As := [.long z63, .long z105, .int p3]) (rest := []) ⟨hx, hb, hml, hown, hts⟩ (s_X7_top l dC dI cs L K G Q hQ x0 m0 tx tm H.size I J hI z63 z105 p3) (va_cwS 3 hts (gS pq1467 pq1468 pq81 pq1469) rfl rfl rfl (by decide +kernel) ⟨(by rw [hR]; exact (Nat.le_of_ble_eq_true rfl)), (by rw [hR]; exact (Nat.le_of_ble_eq_true rfl))⟩) (sP_S hP hD hK hN) rfl rfl hl.1 rfl (lv_room (Nat.le_of_ble_eq_true rfl)) dX7_masksMeet_107 ⟨(by rw [hR]; exact (Nat.le_of_ble_eq_true rfl)), (by rw [hR]; exact (Nat.le_of_ble_eq_true rfl))⟩) hS hP (fun z107 H locs hz107 hP hS => ?_)
          have xpz107 := hz107
          refine lv_aload_n hx hb dX7_masksMeet_110 rfl (lv_at hl 2 rfl) ?_
          refine p_get (v := .ref y58) hx hb hts inX7 hown hK hP hLp0 hKp0 rfl rfl 5 (by decide) (hts _ pq1120) (congrArg (fun q => some (va_rf q)) ey58) dX7_masksMeet_111 ?_
          refine lv_iload hx hb dX7_masksMeet_114 (lv_at hl 0 rfl) ?_
          refine lv_iconst (v := 1) hx hb dX7_masksMeet_116 (by decide +kernel) ?_
          refine lv_iadd hx hb dX7_masksMeet_117 ?_
          refine lv_topi (fun z117 ez117 => ?_)
          have bz117 := tq_add (k := z54.toInt) (q := (1)) ez117 rfl (by decide +kernel) (by omega) (by omega)
          refine p_lald hx hb hK hP 11 hLy58 hKy58 rfl rfl (in_of (by omega) (by omega)) dX7_masksMeet_118 ?_
          refine lv_topl (fun z118 ez118 => ?_)
          refine lv_land hx hb dX7_masksMeet_119 ?_
          refine lv_topl (fun z119 ez119 => ?_)
          refine lv_lconst (v := 0) hx hb dX7_masksMeet_120 (by decide +kernel) ?_
          refine W.lcmp hx hb dX7_masksMeet_121 ?_
          refine lv_topi (fun z121 ez121 => ?_)
          have bz121 := tq_lcmp (k := z119.toInt) (q := (0)) ez121 rfl (by decide +kernel)
          refine lv_if_eq (tgt := 127) hx hb dX7_masksMeet_122 (by decide) (fun c122 => ?_) (fun c122 => ?_)
          · have t122 := tq_eq (k := z121.toInt) (q := (0)) c122 rfl (by decide +kernel)
            obtain ⟨z127, ez127⟩ : ∃ y : Int32, y = v9_5 + 1 := ⟨_, rfl⟩
            refine lv_iinc (v := z127) (lv' := [(5, .int z127), (7, .int z54), (6, .int z40), (0, .ref p0), (1, .int p1), (2, .int p2), (3, .int p3), (4, .int p4)]) hx hb dX7_masksMeet_127 hl (k := 7) rfl (by rw [ez127]; rfl) (by decide) rfl (fun ls hl => ?_)
            have bz127 := tq_add (k := v9_5.toInt) (q := 1) ez127 rfl (by decide +kernel) (by omega) (by omega)
            refine lv_goto (tgt := 9) hx hb dX7_masksMeet_130 (by decide) ?_
            exact ih9 _ (by omega) z127 _ _ _ rfl ⟨by omega, by omega⟩ (by omega) hP hS (lv_sub hl [3, 4, 5, 6, 7, 0] rfl)
          · have t122 := tq_ne (k := z121.toInt) (q := (0)) c122 rfl (by decide +kernel)
            refine lv_iconst (v := 1) hx hb dX7_masksMeet_125 (by decide +kernel) ?_
            subst hR; subst hQz
            exact W.zret (v := 1) hx hb hr (by decide +kernel) (fun t ht hW => ⟨⟨1, (), rfl, ⟨by decide +kernel, by decide +kernel⟩, trivial⟩, hS.F ht⟩) hS.2.2 dX7_masksMeet_126)
  exact key9 _ z4 _ _ _ rfl ⟨by omega, by omega⟩ (by omega) hP hS (lv_sub hl [1, 2, 3, 4, 5, 0] rfl)

set_option maxHeartbeats 4000000 in
set_option maxRecDepth 100000 in
theorem s_X7_shifts (l : Launch) (dC : Nat → ClassId) (dI : Nat → Nat → Nat) (cs : Nat → ClassId) (L : List Nat) (K G : Nat → Nat) (Q : Nat → Nat → Option Nat) (hQ : Sv L K G Q) (x0 m0 : Nat) (tx : GT) (tm : GT × Int) (sz : Nat) (I : Nat → Nat → Int32) (J : Nat → Nat → Int64) (hI : Iv L K x0 m0 tx tm I) (p0 : Nat) (hLp0 : p0 ∈ L) (hKp0 : K p0 = 7) (p1 : Int32) (p2 : Int32) : Met l yX7_shifts (.code yX7_shifts cX7_shifts 6 (some .int) :: pw) ({ frames := 2, cells := 0, slots := 0, locals := 52 }) (sP (dC, dI) cs [.ref p0, .int p1, .int p2] sz L K I J Q) (va_Qi (fun (r : Int32) (_ : Unit) => True) (fun _ _ => True) (fun _ => False)) 0 0 (fun _ => False) := by
  refine Met.ofW (cc := cX7_shifts) (maxL := 6) (ret := (some .int)) (by decide +kernel) rfl ?_
  intro p e s m args below meth c s₁ B hml hv
  obtain ⟨rfl, hsz, hP, hK, hD0, hN⟩ := hv
  have hx := B.exec
  have hb := B.bytes
  have hr := B.returns
  have hts := fun w (h : w ∈ pw) => atoms_spec (ws := Cond.code yX7_shifts cX7_shifts 6 (some .int) :: pw) B.pre w (List.mem_cons_of_mem _ h)
  have hown : s.vm.findClass RX7 = some m.cls := findClass_of_methodNamed B.named
  have hlocks := B.notSynchronized
  subst hsz
  have hBB : 999 ≤ tm.2 ∧ tm.2 ≤ 6000000 := hI.2.2.2.2.1
  have hD := hD0
  obtain ⟨H, hHe⟩ : ∃ H : Heap, H = s.heap := ⟨_, rfl⟩
  have hS : va_S (fun _ => False) s.heap H [] := by rw [hHe]; exact va_S.rf
  rw [← hHe] at hP
  have hl := lv_entry ([.ref p0, .int p1, .int p2]) (n := 6) (Nat.le_of_ble_eq_true rfl)
  rw [lg_entry_eq]
  generalize (lg_sl ([.ref p0, .int p1, .int p2]) ++ List.replicate (6 - (lg_sl ([.ref p0, .int p1, .int p2])).length) Slot.unset).toArray = ls at hl ⊢
  have hl : lv_has ls 6 [(0, .ref p0), (1, .int p1), (2, .int p2)] := hl
  rw [← hHe]
  refine namedW (fun R Qz hR hQz => ?_)
  refine lv_aload_n hx hb dX7_shifts_0 rfl (lv_at hl 0 rfl) ?_
  refine lv_iload_n hx hb dX7_shifts_1 rfl (lv_at hl 1 rfl) ?_
  refine ro_i (va_runV (As := [.int p1]) (rest := []) ⟨hx, hb, hml, hown, hts⟩ (s_X7_isMask l dC dI cs L K G Q hQ x0 m0 tx tm H.size I J hI p0 hLp0 hKp0 p1) (cwV 1 hts (gV pq1364 pq1366 pq31 pq81 pq1367) rfl rfl rfl (by decide +kernel) ⟨(by rw [hR]; exact (Nat.le_of_ble_eq_true rfl)), (by rw [hR]; exact (Nat.le_of_ble_eq_true rfl))⟩) (sP_V hP hD hK hN hLp0 hKp0 rfl rfl) rfl rfl hl.1 rfl (lv_room (Nat.le_of_ble_eq_true rfl)) dX7_shifts_2 ⟨(by rw [hR]; exact (Nat.le_of_ble_eq_true rfl)), (by rw [hR]; exact (Nat.le_of_ble_eq_true rfl))⟩) hS hP (fun z2 H locs hz2 hP hS => ?_)
  obtain ⟨bz2, imz2, xpz2⟩ := hz2
  refine lv_if_eq (tgt := 16) hx hb dX7_shifts_5 (by decide) (fun c5 => ?_) (fun c5 => ?_)
  · have t5 := tq_eq (k := z2.toInt) (q := (0)) c5 rfl (by decide +kernel)
    refine lv_iconst (v := (-1)) hx hb dX7_shifts_16 (by decide +kernel) ?_
    subst hR; subst hQz
    exact W.iret (v := (-1)) hx hb hr (fun t ht hW => ⟨⟨(-1), (), rfl, trivial, trivial⟩, hS.F ht⟩) hS.2.2 dX7_shifts_17
  · have t5 := tq_ne (k := z2.toInt) (q := (0)) c5 rfl (by decide +kernel)
    have i5 := imz2 t5
    refine lv_aload_n hx hb dX7_shifts_8 rfl (lv_at hl 0 rfl) ?_
    refine lv_iload_n hx hb dX7_shifts_9 rfl (lv_at hl 2 rfl) ?_
    refine ro_i (va_runV (As := [.int p2]) (rest := []) ⟨hx, hb, hml, hown, hts⟩ (s_X7_isMask l dC dI cs L K G Q hQ x0 m0 tx tm H.size I J hI p0 hLp0 hKp0 p2) (cwV 1 hts (gV pq1364 pq1366 pq31 pq81 pq1367) rfl rfl rfl (by decide +kernel) ⟨(by rw [hR]; exact (Nat.le_of_ble_eq_true rfl)), (by rw [hR]; exact (Nat.le_of_ble_eq_true rfl))⟩) (sP_V hP hD hK hN hLp0 hKp0 rfl rfl) rfl rfl hl.1 rfl (lv_room (Nat.le_of_ble_eq_true rfl)) dX7_shifts_10 ⟨(by rw [hR]; exact (Nat.le_of_ble_eq_true rfl)), (by rw [hR]; exact (Nat.le_of_ble_eq_true rfl))⟩) hS hP (fun z10 H locs hz10 hP hS => ?_)
    obtain ⟨bz10, imz10, xpz10⟩ := hz10
    refine lv_if_ne (tgt := 18) hx hb dX7_shifts_13 (by decide) (fun c13 => ?_) (fun c13 => ?_)
    · have t13 := tq_ne (k := z10.toInt) (q := (0)) c13 rfl (by decide +kernel)
      have i13 := imz10 t13
      refine lv_iconst (v := 0) hx hb dX7_shifts_18 (by decide +kernel) ?_
      refine lv_istore_n (lv' := [(3, .int 0), (0, .ref p0), (1, .int p1), (2, .int p2)]) hx hb dX7_shifts_19 rfl hl (by decide) rfl (fun ls hl => ?_)
      refine lv_iconst (v := 1) hx hb dX7_shifts_20 (by decide +kernel) ?_
      refine lv_aload_n hx hb dX7_shifts_21 rfl (lv_at hl 1 rfl) ?_
      refine lv_iload_n hx hb dX7_shifts_22 rfl (lv_at hl 2 rfl) ?_
      refine ro_i (va_runV (As := [.int p1]) (rest := [.int 1]) ⟨hx, hb, hml, hown, hts⟩ (s_X7_high l dC dI cs L K G Q hQ x0 m0 tx tm H.size I J hI p0 hLp0 hKp0 p1 ⟨by omega, by omega⟩) (cwV 1 hts (gV pq1372 pq1374 pq33 pq81 pq1375) rfl rfl rfl (by decide +kernel) ⟨(by rw [hR]; exact (Nat.le_of_ble_eq_true rfl)), (by rw [hR]; exact (Nat.le_of_ble_eq_true rfl))⟩) (sP_V hP hD hK hN hLp0 hKp0 rfl rfl) rfl rfl hl.1 rfl (lv_room (Nat.le_of_ble_eq_true rfl)) dX7_shifts_23 ⟨(by rw [hR]; exact (Nat.le_of_ble_eq_true rfl)), (by rw [hR]; exact (Nat.le_of_ble_eq_true rfl))⟩) hS hP (fun z23 H locs hz23 hP hS => ?_)
      obtain ⟨bz23, fez23⟩ := hz23
      refine lv_isub hx hb dX7_shifts_26 ?_
      refine lv_topi (fun z26 ez26 => ?_)
      have bz26 := tq_sub (k := (1)) (q := z23.toInt) ez26 (by decide +kernel) rfl (by omega) (by omega)
      refine lv_istore (lv' := [(4, .int z26), (3, .int 0), (0, .ref p0), (1, .int p1), (2, .int p2)]) hx hb dX7_shifts_27 hl (by decide) rfl (fun ls hl => ?_)
      have key29 := blocks (fun n => ∀ (v29_3 : Int32) (v29_4 : Int32) (H : Heap) (lo : List Loc) (ls : Array Slot), (302 - v29_4.toInt).toNat = n → ((-39) ≤ v29_4.toInt ∧ v29_4.toInt ≤ 301) → va_P (dC, dI) vwCl (Wd cs L K I J Q) H → va_S (fun _ => False) s.heap H lo → lv_has ls 6 [(0, .ref p0), (1, .int p1), (2, .int p2), (3, .int v29_3), (4, .int v29_4)] → W p l e R s m (([.ref p0, .int p1, .int p2] : List Value).toArray) below meth c H lo 0 0 Qz (F0 m 29 ls [])) (by
        intro n ih29
        intro v29_3 v29_4 H lo ls hmu29 bv29_4 hP hS hl
        refine lv_iload hx hb dX7_shifts_29 (lv_at hl 4 rfl) ?_
        refine lv_aload_n hx hb dX7_shifts_31 rfl (lv_at hl 0 rfl) ?_
        refine lv_iload_n hx hb dX7_shifts_32 rfl (lv_at hl 2 rfl) ?_
        refine ro_i (va_runV (As := [.int p2]) (rest := [.int v29_4]) ⟨hx, hb, hml, hown, hts⟩ (s_X7_high l dC dI cs L K G Q hQ x0 m0 tx tm H.size I J hI p0 hLp0 hKp0 p2 ⟨by omega, by omega⟩) (cwV 1 hts (gV pq1372 pq1374 pq33 pq81 pq1375) rfl rfl rfl (by decide +kernel) ⟨(by rw [hR]; exact (Nat.le_of_ble_eq_true rfl)), (by rw [hR]; exact (Nat.le_of_ble_eq_true rfl))⟩) (sP_V hP hD hK hN hLp0 hKp0 rfl rfl) rfl rfl hl.1 rfl (lv_room (Nat.le_of_ble_eq_true rfl)) dX7_shifts_33 ⟨(by rw [hR]; exact (Nat.le_of_ble_eq_true rfl)), (by rw [hR]; exact (Nat.le_of_ble_eq_true rfl))⟩) hS hP (fun z33 H locs hz33 hP hS => ?_)
        obtain ⟨bz33, fez33⟩ := hz33
        refine lv_icmp_ge (tgt := 86) hx hb dX7_shifts_36 (by decide) (fun c36 => ?_) (fun c36 => ?_)
        · have t36 := tq_le (k := z33.toInt) (q := v29_4.toInt) c36 rfl rfl
          refine lv_iload_n hx hb dX7_shifts_86 rfl (lv_at hl 3 rfl) ?_
          subst hR; subst hQz
          exact W.iret (v := v29_3) hx hb hr (fun t ht hW => ⟨⟨v29_3, (), rfl, trivial, trivial⟩, hS.F ht⟩) hS.2.2 dX7_shifts_87
        · have t36 := tq_nle (k := z33.toInt) (q := v29_4.toInt) c36 rfl rfl
          refine lv_iconst (v := 1) hx hb dX7_shifts_39 (by decide +kernel) ?_
          refine lv_aload_n hx hb dX7_shifts_40 rfl (lv_at hl 0 rfl) ?_
          refine lv_iload_n hx hb dX7_shifts_41 rfl (lv_at hl 1 rfl) ?_
          refine ro_i (va_runV (As := [.int p1]) (rest := [.int 1]) ⟨hx, hb, hml, hown, hts⟩ (s_X7_wide l dC dI cs L K G Q hQ x0 m0 tx tm H.size I J hI p0 hLp0 hKp0 p1 ⟨by omega, by omega⟩) (cwV 1 hts (gV pq1368 pq1370 pq32 pq81 pq1371) rfl rfl rfl (by decide +kernel) ⟨(by rw [hR]; exact (Nat.le_of_ble_eq_true rfl)), (by rw [hR]; exact (Nat.le_of_ble_eq_true rfl))⟩) (sP_V hP hD hK hN hLp0 hKp0 rfl rfl) rfl rfl hl.1 rfl (lv_room (Nat.le_of_ble_eq_true rfl)) dX7_shifts_42 ⟨(by rw [hR]; exact (Nat.le_of_ble_eq_true rfl)), (by rw [hR]; exact (Nat.le_of_ble_eq_true rfl))⟩) hS hP (fun z42 H locs hz42 hP hS => ?_)
          obtain ⟨bz42, fez42⟩ := hz42
          refine lv_isub hx hb dX7_shifts_45 ?_
          refine lv_topi (fun z45 ez45 => ?_)
          have bz45 := tq_sub (k := (1)) (q := z42.toInt) ez45 (by decide +kernel) rfl (by omega) (by omega)
          refine lv_istore (lv' := [(5, .int z45), (0, .ref p0), (1, .int p1), (2, .int p2), (3, .int v29_3), (4, .int v29_4)]) hx hb dX7_shifts_46 hl (by decide) rfl (fun ls hl => ?_)
          have key48 := blocks (fun n => ∀ (v48_3 : Int32) (v48_5 : Int32) (H : Heap) (lo : List Loc) (ls : Array Slot), (302 - v48_5.toInt).toNat = n → ((-99) ≤ v48_5.toInt ∧ v48_5.toInt ≤ 301) → va_P (dC, dI) vwCl (Wd cs L K I J Q) H → va_S (fun _ => False) s.heap H lo → lv_has ls 6 [(0, .ref p0), (1, .int p1), (2, .int p2), (3, .int v48_3), (4, .int v29_4), (5, .int v48_5)] → W p l e R s m (([.ref p0, .int p1, .int p2] : List Value).toArray) below meth c H lo 0 0 Qz (F0 m 48 ls [])) (by
            intro n ih48
            intro v48_3 v48_5 H lo ls hmu48 bv48_5 hP hS hl
            refine lv_iload hx hb dX7_shifts_48 (lv_at hl 5 rfl) ?_
            refine lv_aload_n hx hb dX7_shifts_50 rfl (lv_at hl 0 rfl) ?_
            refine lv_iload_n hx hb dX7_shifts_51 rfl (lv_at hl 2 rfl) ?_
            refine ro_i (va_runV (As := [.int p2]) (rest := [.int v48_5]) ⟨hx, hb, hml, hown, hts⟩ (s_X7_wide l dC dI cs L K G Q hQ x0 m0 tx tm H.size I J hI p0 hLp0 hKp0 p2 ⟨by omega, by omega⟩) (cwV 1 hts (gV pq1368 pq1370 pq32 pq81 pq1371) rfl rfl rfl (by decide +kernel) ⟨(by rw [hR]; exact (Nat.le_of_ble_eq_true rfl)), (by rw [hR]; exact (Nat.le_of_ble_eq_true rfl))⟩) (sP_V hP hD hK hN hLp0 hKp0 rfl rfl) rfl rfl hl.1 rfl (lv_room (Nat.le_of_ble_eq_true rfl)) dX7_shifts_52 ⟨(by rw [hR]; exact (Nat.le_of_ble_eq_true rfl)), (by rw [hR]; exact (Nat.le_of_ble_eq_true rfl))⟩) hS hP (fun z52 H locs hz52 hP hS => ?_)
            obtain ⟨bz52, fez52⟩ := hz52
            refine lv_icmp_ge (tgt := 80) hx hb dX7_shifts_55 (by decide) (fun c55 => ?_) (fun c55 => ?_)
            · have t55 := tq_le (k := z52.toInt) (q := v48_5.toInt) c55 rfl rfl
              obtain ⟨z80, ez80⟩ : ∃ y : Int32, y = v29_4 + 1 := ⟨_, rfl⟩
              refine lv_iinc (v := z80) (lv' := [(4, .int z80), (0, .ref p0), (1, .int p1), (2, .int p2), (3, .int v48_3), (5, .int v48_5)]) hx hb dX7_shifts_80 hl (k := 4) rfl (by rw [ez80]; rfl) (by decide) rfl (fun ls hl => ?_)
              have bz80 := tq_add (k := v29_4.toInt) (q := 1) ez80 rfl (by decide +kernel) (by omega) (by omega)
              refine lv_goto (tgt := 29) hx hb dX7_shifts_83 (by decide) ?_
              exact ih29 _ (by omega) v48_3 z80 _ _ _ rfl ⟨by omega, by omega⟩ hP hS (lv_sub hl [1, 2, 3, 4, 0] rfl)
            · have t55 := tq_nle (k := z52.toInt) (q := v48_5.toInt) c55 rfl rfl
              refine lv_iload_n hx hb dX7_shifts_58 rfl (lv_at hl 3 rfl) ?_
              refine lv_aload_n hx hb dX7_shifts_59 rfl (lv_at hl 0 rfl) ?_
              refine lv_iload_n hx hb dX7_shifts_60 rfl (lv_at hl 1 rfl) ?_
              refine lv_iload_n hx hb dX7_shifts_61 rfl (lv_at hl 2 rfl) ?_
              refine lv_iload hx hb dX7_shifts_62 (lv_at hl 5 rfl) ?_
              refine lv_iload hx hb dX7_shifts_64 (lv_at hl 4 rfl) ?_
              refine ro_i (va_runV (As := [.int p1, .int p2, .int v48_5, .int v29_4]) (rest := [.int v48_3]) ⟨hx, hb, hml, hown, hts⟩ (s_X7_masksMeet l dC dI cs L K G Q hQ x0 m0 tx tm H.size I J hI p0 hLp0 hKp0 p1 ⟨by omega, by omega⟩ p2 ⟨by omega, by omega⟩ v48_5 v29_4 ⟨by omega, by omega⟩) (cwV 4 hts (gV pq1662 pq1664 pq68 pq81 pq1665) rfl rfl rfl (by decide +kernel) ⟨(by rw [hR]; exact (Nat.le_of_ble_eq_true rfl)), (by rw [hR]; exact (Nat.le_of_ble_eq_true rfl))⟩) (sP_V hP hD hK hN hLp0 hKp0 rfl rfl) rfl rfl hl.1 rfl (lv_room (Nat.le_of_ble_eq_true rfl)) dX7_shifts_66 ⟨(by rw [hR]; exact (Nat.le_of_ble_eq_true rfl)), (by rw [hR]; exact (Nat.le_of_ble_eq_true rfl))⟩) hS hP (fun z66 H locs hz66 hP hS => ?_)
              have bz66 := hz66
              refine ro_i (va_runS (As := [.int z66]) (rest := [.int v48_3]) ⟨hx, hb, hml, hown, hts⟩ (s_X7_truth l dC dI cs L K Q H.size I J z66) (va_cwS 1 hts (gS pq1257 pq1258 pq81 pq1259) rfl rfl rfl (by decide +kernel) ⟨(by rw [hR]; exact (Nat.le_of_ble_eq_true rfl)), (by rw [hR]; exact (Nat.le_of_ble_eq_true rfl))⟩) (sP_S hP hD hK hN) rfl rfl hl.1 rfl (lv_room (Nat.le_of_ble_eq_true rfl)) dX7_shifts_69 ⟨(by rw [hR]; exact (Nat.le_of_ble_eq_true rfl)), (by rw [hR]; exact (Nat.le_of_ble_eq_true rfl))⟩) hS hP (fun z69 H locs hz69 hP hS => ?_)
              obtain ⟨bz69, xpz69⟩ := hz69
              refine lv_iadd hx hb dX7_shifts_72 ?_
              refine lv_topi (fun z72 ez72 => ?_)
              refine lv_istore_n (lv' := [(3, .int z72), (0, .ref p0), (1, .int p1), (2, .int p2), (4, .int v29_4), (5, .int v48_5)]) hx hb dX7_shifts_73 rfl hl (by decide) rfl (fun ls hl => ?_)
              obtain ⟨z74, ez74⟩ : ∃ y : Int32, y = v48_5 + 1 := ⟨_, rfl⟩
              refine lv_iinc (v := z74) (lv' := [(5, .int z74), (3, .int z72), (0, .ref p0), (1, .int p1), (2, .int p2), (4, .int v29_4)]) hx hb dX7_shifts_74 hl (k := 5) rfl (by rw [ez74]; rfl) (by decide) rfl (fun ls hl => ?_)
              have bz74 := tq_add (k := v48_5.toInt) (q := 1) ez74 rfl (by decide +kernel) (by omega) (by omega)
              refine lv_goto (tgt := 48) hx hb dX7_shifts_77 (by decide) ?_
              exact ih48 _ (by omega) z72 z74 _ _ _ rfl ⟨by omega, by omega⟩ hP hS (lv_sub hl [2, 3, 4, 1, 5, 0] rfl))
          exact key48 _ v29_3 z45 _ _ _ rfl ⟨by omega, by omega⟩ hP hS (lv_sub hl [1, 2, 3, 4, 5, 0] rfl))
      exact key29 _ 0 z26 _ _ _ rfl ⟨by omega, by omega⟩ hP hS (lv_sub hl [2, 3, 4, 1, 0] rfl)
    · have t13 := tq_eq (k := z10.toInt) (q := (0)) c13 rfl (by decide +kernel)
      refine lv_iconst (v := (-1)) hx hb dX7_shifts_16 (by decide +kernel) ?_
      subst hR; subst hQz
      exact W.iret (v := (-1)) hx hb hr (fun t ht hW => ⟨⟨(-1), (), rfl, trivial, trivial⟩, hS.F ht⟩) hS.2.2 dX7_shifts_17

set_option maxHeartbeats 4000000 in
set_option maxRecDepth 100000 in
theorem s_X7_areLike (l : Launch) (dC : Nat → ClassId) (dI : Nat → Nat → Nat) (cs : Nat → ClassId) (L : List Nat) (K G : Nat → Nat) (Q : Nat → Nat → Option Nat) (hQ : Sv L K G Q) (x0 m0 : Nat) (tx : GT) (tm : GT × Int) (sz : Nat) (I : Nat → Nat → Int32) (J : Nat → Nat → Int64) (hI : Iv L K x0 m0 tx tm I) (p0 : Nat) (hLp0 : p0 ∈ L) (hKp0 : K p0 = 7) (p1 : Int32) (bp1 : (0) ≤ p1.toInt ∧ p1.toInt ≤ 7) (p2 : Int32) (bp2 : (0) ≤ p2.toInt ∧ p2.toInt ≤ 7) (p3 : Int32) : Met l yX7_areLike (.code yX7_areLike cX7_areLike 6 (some .boolean) :: pw) ({ frames := 2, cells := 0, slots := 0, locals := 48 }) (sP (dC, dI) cs [.ref p0, .int p1, .int p2, .int p3] sz L K I J Q) (va_Qi (fun (r : Int32) (_ : Unit) => ((0) ≤ r.toInt ∧ r.toInt ≤ 1)) (fun _ _ => True) (fun _ => False)) 0 0 (fun _ => False) := by
  refine Met.ofW (cc := cX7_areLike) (maxL := 6) (ret := (some .boolean)) (by decide +kernel) rfl ?_
  intro p e s m args below meth c s₁ B hml hv
  obtain ⟨rfl, hsz, hP, hK, hD0, hN⟩ := hv
  have hx := B.exec
  have hb := B.bytes
  have hr := B.returns
  have hts := fun w (h : w ∈ pw) => atoms_spec (ws := Cond.code yX7_areLike cX7_areLike 6 (some .boolean) :: pw) B.pre w (List.mem_cons_of_mem _ h)
  have hown : s.vm.findClass RX7 = some m.cls := findClass_of_methodNamed B.named
  have hlocks := B.notSynchronized
  subst hsz
  have hBB : 999 ≤ tm.2 ∧ tm.2 ≤ 6000000 := hI.2.2.2.2.1
  have hD := hD0
  obtain ⟨H, hHe⟩ : ∃ H : Heap, H = s.heap := ⟨_, rfl⟩
  have hS : va_S (fun _ => False) s.heap H [] := by rw [hHe]; exact va_S.rf
  rw [← hHe] at hP
  have hl := lv_entry ([.ref p0, .int p1, .int p2, .int p3]) (n := 6) (Nat.le_of_ble_eq_true rfl)
  rw [lg_entry_eq]
  generalize (lg_sl ([.ref p0, .int p1, .int p2, .int p3]) ++ List.replicate (6 - (lg_sl ([.ref p0, .int p1, .int p2, .int p3])).length) Slot.unset).toArray = ls at hl ⊢
  have hl : lv_has ls 6 [(0, .ref p0), (1, .int p1), (2, .int p2), (3, .int p3)] := hl
  rw [← hHe]
  refine namedW (fun R Qz hR hQz => ?_)
  refine lv_aload_n hx hb dX7_areLike_0 rfl (lv_at hl 0 rfl) ?_
  refine lv_iload_n hx hb dX7_areLike_1 rfl (lv_at hl 1 rfl) ?_
  refine ro_i (va_runV (As := [.int p1]) (rest := []) ⟨hx, hb, hml, hown, hts⟩ (s_X7_wide l dC dI cs L K G Q hQ x0 m0 tx tm H.size I J hI p0 hLp0 hKp0 p1 ⟨by omega, by omega⟩) (cwV 1 hts (gV pq1368 pq1370 pq32 pq81 pq1371) rfl rfl rfl (by decide +kernel) ⟨(by rw [hR]; exact (Nat.le_of_ble_eq_true rfl)), (by rw [hR]; exact (Nat.le_of_ble_eq_true rfl))⟩) (sP_V hP hD hK hN hLp0 hKp0 rfl rfl) rfl rfl hl.1 rfl (lv_room (Nat.le_of_ble_eq_true rfl)) dX7_areLike_2 ⟨(by rw [hR]; exact (Nat.le_of_ble_eq_true rfl)), (by rw [hR]; exact (Nat.le_of_ble_eq_true rfl))⟩) hS hP (fun z2 H locs hz2 hP hS => ?_)
  obtain ⟨bz2, fez2⟩ := hz2
  refine lv_aload_n hx hb dX7_areLike_5 rfl (lv_at hl 0 rfl) ?_
  refine lv_iload_n hx hb dX7_areLike_6 rfl (lv_at hl 2 rfl) ?_
  refine ro_i (va_runV (As := [.int p2]) (rest := [.int z2]) ⟨hx, hb, hml, hown, hts⟩ (s_X7_wide l dC dI cs L K G Q hQ x0 m0 tx tm H.size I J hI p0 hLp0 hKp0 p2 ⟨by omega, by omega⟩) (cwV 1 hts (gV pq1368 pq1370 pq32 pq81 pq1371) rfl rfl rfl (by decide +kernel) ⟨(by rw [hR]; exact (Nat.le_of_ble_eq_true rfl)), (by rw [hR]; exact (Nat.le_of_ble_eq_true rfl))⟩) (sP_V hP hD hK hN hLp0 hKp0 rfl rfl) rfl rfl hl.1 rfl (lv_room (Nat.le_of_ble_eq_true rfl)) dX7_areLike_7 ⟨(by rw [hR]; exact (Nat.le_of_ble_eq_true rfl)), (by rw [hR]; exact (Nat.le_of_ble_eq_true rfl))⟩) hS hP (fun z7 H locs hz7 hP hS => ?_)
  obtain ⟨bz7, fez7⟩ := hz7
  refine lv_icmp_ne (tgt := 26) hx hb dX7_areLike_10 (by decide) (fun c10 => ?_) (fun c10 => ?_)
  · have t10 := tq_ne (k := z2.toInt) (q := z7.toInt) c10 rfl rfl
    refine lv_iconst (v := 0) hx hb dX7_areLike_26 (by decide +kernel) ?_
    subst hR; subst hQz
    exact W.zret (v := 0) hx hb hr (by decide +kernel) (fun t ht hW => ⟨⟨0, (), rfl, ⟨by decide +kernel, by decide +kernel⟩, trivial⟩, hS.F ht⟩) hS.2.2 dX7_areLike_27
  · have t10 := tq_eq (k := z2.toInt) (q := z7.toInt) c10 rfl rfl
    refine lv_aload_n hx hb dX7_areLike_13 rfl (lv_at hl 0 rfl) ?_
    refine lv_iload_n hx hb dX7_areLike_14 rfl (lv_at hl 1 rfl) ?_
    refine ro_i (va_runV (As := [.int p1]) (rest := []) ⟨hx, hb, hml, hown, hts⟩ (s_X7_high l dC dI cs L K G Q hQ x0 m0 tx tm H.size I J hI p0 hLp0 hKp0 p1 ⟨by omega, by omega⟩) (cwV 1 hts (gV pq1372 pq1374 pq33 pq81 pq1375) rfl rfl rfl (by decide +kernel) ⟨(by rw [hR]; exact (Nat.le_of_ble_eq_true rfl)), (by rw [hR]; exact (Nat.le_of_ble_eq_true rfl))⟩) (sP_V hP hD hK hN hLp0 hKp0 rfl rfl) rfl rfl hl.1 rfl (lv_room (Nat.le_of_ble_eq_true rfl)) dX7_areLike_15 ⟨(by rw [hR]; exact (Nat.le_of_ble_eq_true rfl)), (by rw [hR]; exact (Nat.le_of_ble_eq_true rfl))⟩) hS hP (fun z15 H locs hz15 hP hS => ?_)
    obtain ⟨bz15, fez15⟩ := hz15
    refine lv_aload_n hx hb dX7_areLike_18 rfl (lv_at hl 0 rfl) ?_
    refine lv_iload_n hx hb dX7_areLike_19 rfl (lv_at hl 2 rfl) ?_
    refine ro_i (va_runV (As := [.int p2]) (rest := [.int z15]) ⟨hx, hb, hml, hown, hts⟩ (s_X7_high l dC dI cs L K G Q hQ x0 m0 tx tm H.size I J hI p0 hLp0 hKp0 p2 ⟨by omega, by omega⟩) (cwV 1 hts (gV pq1372 pq1374 pq33 pq81 pq1375) rfl rfl rfl (by decide +kernel) ⟨(by rw [hR]; exact (Nat.le_of_ble_eq_true rfl)), (by rw [hR]; exact (Nat.le_of_ble_eq_true rfl))⟩) (sP_V hP hD hK hN hLp0 hKp0 rfl rfl) rfl rfl hl.1 rfl (lv_room (Nat.le_of_ble_eq_true rfl)) dX7_areLike_20 ⟨(by rw [hR]; exact (Nat.le_of_ble_eq_true rfl)), (by rw [hR]; exact (Nat.le_of_ble_eq_true rfl))⟩) hS hP (fun z20 H locs hz20 hP hS => ?_)
    obtain ⟨bz20, fez20⟩ := hz20
    refine lv_icmp_eq (tgt := 28) hx hb dX7_areLike_23 (by decide) (fun c23 => ?_) (fun c23 => ?_)
    · have t23 := tq_eq (k := z15.toInt) (q := z20.toInt) c23 rfl rfl
      refine lv_iconst (v := 0) hx hb dX7_areLike_28 (by decide +kernel) ?_
      refine lv_istore (lv' := [(4, .int 0), (0, .ref p0), (1, .int p1), (2, .int p2), (3, .int p3)]) hx hb dX7_areLike_29 hl (by decide) rfl (fun ls hl => ?_)
      have key31 := blocks (fun n => ∀ (v31_4 : Int32) (H : Heap) (lo : List Loc) (ls : Array Slot), (41 - v31_4.toInt).toNat = n → ((0) ≤ v31_4.toInt ∧ v31_4.toInt ≤ 40) → va_P (dC, dI) vwCl (Wd cs L K I J Q) H → va_S (fun _ => False) s.heap H lo → lv_has ls 6 [(0, .ref p0), (1, .int p1), (2, .int p2), (3, .int p3), (4, .int v31_4)] → W p l e R s m (([.ref p0, .int p1, .int p2, .int p3] : List Value).toArray) below meth c H lo 0 0 Qz (F0 m 31 ls [])) (by
        intro n ih31
        intro v31_4 H lo ls hmu31 bv31_4 hP hS hl
        refine lv_iload hx hb dX7_areLike_31 (lv_at hl 4 rfl) ?_
        refine lv_aload_n hx hb dX7_areLike_33 rfl (lv_at hl 0 rfl) ?_
        refine lv_iload_n hx hb dX7_areLike_34 rfl (lv_at hl 1 rfl) ?_
        refine ro_i (va_runV (As := [.int p1]) (rest := [.int v31_4]) ⟨hx, hb, hml, hown, hts⟩ (s_X7_high l dC dI cs L K G Q hQ x0 m0 tx tm H.size I J hI p0 hLp0 hKp0 p1 ⟨by omega, by omega⟩) (cwV 1 hts (gV pq1372 pq1374 pq33 pq81 pq1375) rfl rfl rfl (by decide +kernel) ⟨(by rw [hR]; exact (Nat.le_of_ble_eq_true rfl)), (by rw [hR]; exact (Nat.le_of_ble_eq_true rfl))⟩) (sP_V hP hD hK hN hLp0 hKp0 rfl rfl) rfl rfl hl.1 rfl (lv_room (Nat.le_of_ble_eq_true rfl)) dX7_areLike_35 ⟨(by rw [hR]; exact (Nat.le_of_ble_eq_true rfl)), (by rw [hR]; exact (Nat.le_of_ble_eq_true rfl))⟩) hS hP (fun z35 H locs hz35 hP hS => ?_)
        obtain ⟨bz35, fez35⟩ := hz35
        obtain rfl : z15 = z35 := fez15.trans fez35.symm
        refine lv_icmp_ge (tgt := 127) hx hb dX7_areLike_38 (by decide) (fun c38 => ?_) (fun c38 => ?_)
        · have t38 := tq_le (k := z15.toInt) (q := v31_4.toInt) c38 rfl rfl
          refine lv_iconst (v := 1) hx hb dX7_areLike_127 (by decide +kernel) ?_
          subst hR; subst hQz
          exact W.zret (v := 1) hx hb hr (by decide +kernel) (fun t ht hW => ⟨⟨1, (), rfl, ⟨by decide +kernel, by decide +kernel⟩, trivial⟩, hS.F ht⟩) hS.2.2 dX7_areLike_128
        · have t38 := tq_nle (k := z15.toInt) (q := v31_4.toInt) c38 rfl rfl
          refine lv_iconst (v := 0) hx hb dX7_areLike_41 (by decide +kernel) ?_
          refine lv_istore (lv' := [(5, .int 0), (0, .ref p0), (1, .int p1), (2, .int p2), (3, .int p3), (4, .int v31_4)]) hx hb dX7_areLike_42 hl (by decide) rfl (fun ls hl => ?_)
          have key44 := blocks (fun n => ∀ (v44_5 : Int32) (H : Heap) (lo : List Loc) (ls : Array Slot), (101 - v44_5.toInt).toNat = n → ((0) ≤ v44_5.toInt ∧ v44_5.toInt ≤ 100) → va_P (dC, dI) vwCl (Wd cs L K I J Q) H → va_S (fun _ => False) s.heap H lo → lv_has ls 6 [(0, .ref p0), (1, .int p1), (2, .int p2), (3, .int p3), (4, .int v31_4), (5, .int v44_5)] → W p l e R s m (([.ref p0, .int p1, .int p2, .int p3] : List Value).toArray) below meth c H lo 0 0 Qz (F0 m 44 ls [])) (by
            intro n ih44
            intro v44_5 H lo ls hmu44 bv44_5 hP hS hl
            refine lv_iload hx hb dX7_areLike_44 (lv_at hl 5 rfl) ?_
            refine lv_aload_n hx hb dX7_areLike_46 rfl (lv_at hl 0 rfl) ?_
            refine lv_iload_n hx hb dX7_areLike_47 rfl (lv_at hl 1 rfl) ?_
            refine ro_i (va_runV (As := [.int p1]) (rest := [.int v44_5]) ⟨hx, hb, hml, hown, hts⟩ (s_X7_wide l dC dI cs L K G Q hQ x0 m0 tx tm H.size I J hI p0 hLp0 hKp0 p1 ⟨by omega, by omega⟩) (cwV 1 hts (gV pq1368 pq1370 pq32 pq81 pq1371) rfl rfl rfl (by decide +kernel) ⟨(by rw [hR]; exact (Nat.le_of_ble_eq_true rfl)), (by rw [hR]; exact (Nat.le_of_ble_eq_true rfl))⟩) (sP_V hP hD hK hN hLp0 hKp0 rfl rfl) rfl rfl hl.1 rfl (lv_room (Nat.le_of_ble_eq_true rfl)) dX7_areLike_48 ⟨(by rw [hR]; exact (Nat.le_of_ble_eq_true rfl)), (by rw [hR]; exact (Nat.le_of_ble_eq_true rfl))⟩) hS hP (fun z48 H locs hz48 hP hS => ?_)
            obtain ⟨bz48, fez48⟩ := hz48
            obtain rfl : z2 = z48 := fez2.trans fez48.symm
            refine lv_icmp_ge (tgt := 121) hx hb dX7_areLike_51 (by decide) (fun c51 => ?_) (fun c51 => ?_)
            · have t51 := tq_le (k := z2.toInt) (q := v44_5.toInt) c51 rfl rfl
              obtain ⟨z121, ez121⟩ : ∃ y : Int32, y = v31_4 + 1 := ⟨_, rfl⟩
              refine lv_iinc (v := z121) (lv' := [(4, .int z121), (0, .ref p0), (1, .int p1), (2, .int p2), (3, .int p3), (5, .int v44_5)]) hx hb dX7_areLike_121 hl (k := 4) rfl (by rw [ez121]; rfl) (by decide) rfl (fun ls hl => ?_)
              have bz121 := tq_add (k := v31_4.toInt) (q := 1) ez121 rfl (by decide +kernel) (by omega) (by omega)
              refine lv_goto (tgt := 31) hx hb dX7_areLike_124 (by decide) ?_
              exact ih31 _ (by omega) z121 _ _ _ rfl ⟨by omega, by omega⟩ hP hS (lv_sub hl [1, 2, 3, 4, 0] rfl)
            · have t51 := tq_nle (k := z2.toInt) (q := v44_5.toInt) c51 rfl rfl
              refine lv_aload_n hx hb dX7_areLike_54 rfl (lv_at hl 0 rfl) ?_
              refine lv_iload_n hx hb dX7_areLike_55 rfl (lv_at hl 1 rfl) ?_
              refine lv_iload hx hb dX7_areLike_56 (lv_at hl 5 rfl) ?_
              refine lv_iload hx hb dX7_areLike_58 (lv_at hl 4 rfl) ?_
              refine ro_i (va_runV (As := [.int p1, .int v44_5, .int v31_4]) (rest := []) ⟨hx, hb, hml, hown, hts⟩ (s_X7_has l dC dI cs L K G Q hQ x0 m0 tx tm H.size I J hI p0 hLp0 hKp0 p1 ⟨by omega, by omega⟩ v44_5 v31_4) (cwV 3 hts (gV pq1376 pq1378 pq34 pq81 pq1379) rfl rfl rfl (by decide +kernel) ⟨(by rw [hR]; exact (Nat.le_of_ble_eq_true rfl)), (by rw [hR]; exact (Nat.le_of_ble_eq_true rfl))⟩) (sP_V hP hD hK hN hLp0 hKp0 rfl rfl) rfl rfl hl.1 rfl (lv_room (Nat.le_of_ble_eq_true rfl)) dX7_areLike_60 ⟨(by rw [hR]; exact (Nat.le_of_ble_eq_true rfl)), (by rw [hR]; exact (Nat.le_of_ble_eq_true rfl))⟩) hS hP (fun z60 H locs hz60 hP hS => ?_)
              obtain ⟨bz60, imz60, xpz60⟩ := hz60
              refine lv_aload_n hx hb dX7_areLike_63 rfl (lv_at hl 0 rfl) ?_
              refine lv_iload_n hx hb dX7_areLike_64 rfl (lv_at hl 2 rfl) ?_
              refine lv_iload_n hx hb dX7_areLike_65 rfl (lv_at hl 3 rfl) ?_
              refine lv_iconst (v := 2) hx hb dX7_areLike_66 (by decide +kernel) ?_
              refine lv_irem hx hb dX7_areLike_67 (by decide +kernel) ?_
              refine lv_topi (fun z67 ez67 => ?_)
              refine lv_iconst (v := 1) hx hb dX7_areLike_68 (by decide +kernel) ?_
              have j87 : ∀ (w87_3 : Int32) (H : Heap) (lo : List Loc) (ls : Array Slot), ((-99) ≤ w87_3.toInt ∧ w87_3.toInt ≤ 99) → va_P (dC, dI) vwCl (Wd cs L K I J Q) H → va_S (fun _ => False) s.heap H lo → lv_has ls 6 [(0, .ref p0), (1, .int p1), (2, .int p2), (3, .int p3), (4, .int v31_4), (5, .int v44_5)] → W p l e R s m (([.ref p0, .int p1, .int p2, .int p3] : List Value).toArray) below meth c H lo 0 0 Qz (F0 m 87 ls [.int w87_3, .int p2, .ref p0, .int z60]) := by
                intro w87_3 H lo ls bw87_3 hP hS hl
                refine lv_iload_n hx hb dX7_areLike_87 rfl (lv_at hl 3 rfl) ?_
                refine lv_iconst (v := 1) hx hb dX7_areLike_88 (by decide +kernel) ?_
                have j107 : ∀ (w107_4 : Int32) (H : Heap) (lo : List Loc) (ls : Array Slot), ((-39) ≤ w107_4.toInt ∧ w107_4.toInt ≤ 39) → va_P (dC, dI) vwCl (Wd cs L K I J Q) H → va_S (fun _ => False) s.heap H lo → lv_has ls 6 [(0, .ref p0), (1, .int p1), (2, .int p2), (3, .int p3), (4, .int v31_4), (5, .int v44_5)] → W p l e R s m (([.ref p0, .int p1, .int p2, .int p3] : List Value).toArray) below meth c H lo 0 0 Qz (F0 m 107 ls [.int w107_4, .int w87_3, .int p2, .ref p0, .int z60]) := by
                  intro w107_4 H lo ls bw107_4 hP hS hl
                  refine ro_i (va_runV (As := [.int p2, .int w87_3, .int w107_4]) (rest := [.int z60]) ⟨hx, hb, hml, hown, hts⟩ (s_X7_has l dC dI cs L K G Q hQ x0 m0 tx tm H.size I J hI p0 hLp0 hKp0 p2 ⟨by omega, by omega⟩ w87_3 w107_4) (cwV 3 hts (gV pq1376 pq1378 pq34 pq81 pq1379) rfl rfl rfl (by decide +kernel) ⟨(by rw [hR]; exact (Nat.le_of_ble_eq_true rfl)), (by rw [hR]; exact (Nat.le_of_ble_eq_true rfl))⟩) (sP_V hP hD hK hN hLp0 hKp0 rfl rfl) rfl rfl hl.1 rfl (lv_room (Nat.le_of_ble_eq_true rfl)) dX7_areLike_107 ⟨(by rw [hR]; exact (Nat.le_of_ble_eq_true rfl)), (by rw [hR]; exact (Nat.le_of_ble_eq_true rfl))⟩) hS hP (fun z107 H locs hz107 hP hS => ?_)
                  obtain ⟨bz107, imz107, xpz107⟩ := hz107
                  refine lv_icmp_eq (tgt := 115) hx hb dX7_areLike_110 (by decide) (fun c110 => ?_) (fun c110 => ?_)
                  · have t110 := tq_eq (k := z60.toInt) (q := z107.toInt) c110 rfl rfl
                    obtain ⟨z115, ez115⟩ : ∃ y : Int32, y = v44_5 + 1 := ⟨_, rfl⟩
                    refine lv_iinc (v := z115) (lv' := [(5, .int z115), (0, .ref p0), (1, .int p1), (2, .int p2), (3, .int p3), (4, .int v31_4)]) hx hb dX7_areLike_115 hl (k := 5) rfl (by rw [ez115]; rfl) (by decide) rfl (fun ls hl => ?_)
                    have bz115 := tq_add (k := v44_5.toInt) (q := 1) ez115 rfl (by decide +kernel) (by omega) (by omega)
                    refine lv_goto (tgt := 44) hx hb dX7_areLike_118 (by decide) ?_
                    exact ih44 _ (by omega) z115 _ _ _ rfl ⟨by omega, by omega⟩ hP hS (lv_sub hl [1, 2, 3, 4, 5, 0] rfl)
                  · have t110 := tq_ne (k := z60.toInt) (q := z107.toInt) c110 rfl rfl
                    refine lv_iconst (v := 0) hx hb dX7_areLike_113 (by decide +kernel) ?_
                    subst hR; subst hQz
                    exact W.zret (v := 0) hx hb hr (by decide +kernel) (fun t ht hW => ⟨⟨0, (), rfl, ⟨by decide +kernel, by decide +kernel⟩, trivial⟩, hS.F ht⟩) hS.2.2 dX7_areLike_114
                refine lv_icmp_le (tgt := 105) hx hb dX7_areLike_89 (by decide) (fun c89 => ?_) (fun c89 => ?_)
                · have t89 := tq_le (k := p3.toInt) (q := (1)) c89 rfl (by decide +kernel)
                  refine lv_iload hx hb dX7_areLike_105 (lv_at hl 4 rfl) ?_
                  exact j107 v31_4 _ _ _ ⟨by omega, by omega⟩ hP hS (lv_sub hl [0, 1, 2, 3, 4, 5] rfl)
                · have t89 := tq_nle (k := p3.toInt) (q := (1)) c89 rfl (by decide +kernel)
                  have rg89p3 := fb_rng p3
                  refine lv_aload_n hx hb dX7_areLike_92 rfl (lv_at hl 0 rfl) ?_
                  refine lv_iload_n hx hb dX7_areLike_93 rfl (lv_at hl 1 rfl) ?_
                  refine ro_i (va_runV (As := [.int p1]) (rest := [.int w87_3, .int p2, .ref p0, .int z60]) ⟨hx, hb, hml, hown, hts⟩ (s_X7_high l dC dI cs L K G Q hQ x0 m0 tx tm H.size I J hI p0 hLp0 hKp0 p1 ⟨by omega, by omega⟩) (cwV 1 hts (gV pq1372 pq1374 pq33 pq81 pq1375) rfl rfl rfl (by decide +kernel) ⟨(by rw [hR]; exact (Nat.le_of_ble_eq_true rfl)), (by rw [hR]; exact (Nat.le_of_ble_eq_true rfl))⟩) (sP_V hP hD hK hN hLp0 hKp0 rfl rfl) rfl rfl hl.1 rfl (lv_room (Nat.le_of_ble_eq_true rfl)) dX7_areLike_94 ⟨(by rw [hR]; exact (Nat.le_of_ble_eq_true rfl)), (by rw [hR]; exact (Nat.le_of_ble_eq_true rfl))⟩) hS hP (fun z94 H locs hz94 hP hS => ?_)
                  obtain ⟨bz94, fez94⟩ := hz94
                  obtain rfl : z15 = z94 := fez15.trans fez94.symm
                  refine lv_iconst (v := 1) hx hb dX7_areLike_97 (by decide +kernel) ?_
                  refine lv_isub hx hb dX7_areLike_98 ?_
                  refine lv_topi (fun z98 ez98 => ?_)
                  have bz98 := tq_sub (k := z15.toInt) (q := (1)) ez98 rfl (by decide +kernel) (by omega) (by omega)
                  refine lv_iload hx hb dX7_areLike_99 (lv_at hl 4 rfl) ?_
                  refine lv_isub hx hb dX7_areLike_101 ?_
                  refine lv_topi (fun z101 ez101 => ?_)
                  have bz101 := tq_sub (k := z98.toInt) (q := v31_4.toInt) ez101 rfl rfl (by omega) (by omega)
                  refine lv_goto (tgt := 107) hx hb dX7_areLike_102 (by decide) ?_
                  exact j107 z101 _ _ _ ⟨by omega, by omega⟩ hP hS (lv_sub hl [0, 1, 2, 3, 4, 5] rfl)
              refine lv_icmp_ne (tgt := 85) hx hb dX7_areLike_69 (by decide) (fun c69 => ?_) (fun c69 => ?_)
              · have t69 := tq_ne (k := z67.toInt) (q := (1)) c69 rfl (by decide +kernel)
                refine lv_iload hx hb dX7_areLike_85 (lv_at hl 5 rfl) ?_
                exact j87 v44_5 _ _ _ ⟨by omega, by omega⟩ hP hS (lv_sub hl [0, 1, 2, 3, 4, 5] rfl)
              · have t69 := tq_eq (k := z67.toInt) (q := (1)) c69 rfl (by decide +kernel)
                refine lv_aload_n hx hb dX7_areLike_72 rfl (lv_at hl 0 rfl) ?_
                refine lv_iload_n hx hb dX7_areLike_73 rfl (lv_at hl 1 rfl) ?_
                refine ro_i (va_runV (As := [.int p1]) (rest := [.int p2, .ref p0, .int z60]) ⟨hx, hb, hml, hown, hts⟩ (s_X7_wide l dC dI cs L K G Q hQ x0 m0 tx tm H.size I J hI p0 hLp0 hKp0 p1 ⟨by omega, by omega⟩) (cwV 1 hts (gV pq1368 pq1370 pq32 pq81 pq1371) rfl rfl rfl (by decide +kernel) ⟨(by rw [hR]; exact (Nat.le_of_ble_eq_true rfl)), (by rw [hR]; exact (Nat.le_of_ble_eq_true rfl))⟩) (sP_V hP hD hK hN hLp0 hKp0 rfl rfl) rfl rfl hl.1 rfl (lv_room (Nat.le_of_ble_eq_true rfl)) dX7_areLike_74 ⟨(by rw [hR]; exact (Nat.le_of_ble_eq_true rfl)), (by rw [hR]; exact (Nat.le_of_ble_eq_true rfl))⟩) hS hP (fun z74 H locs hz74 hP hS => ?_)
                obtain ⟨bz74, fez74⟩ := hz74
                obtain rfl : z2 = z74 := fez2.trans fez74.symm
                refine lv_iconst (v := 1) hx hb dX7_areLike_77 (by decide +kernel) ?_
                refine lv_isub hx hb dX7_areLike_78 ?_
                refine lv_topi (fun z78 ez78 => ?_)
                have bz78 := tq_sub (k := z2.toInt) (q := (1)) ez78 rfl (by decide +kernel) (by omega) (by omega)
                refine lv_iload hx hb dX7_areLike_79 (lv_at hl 5 rfl) ?_
                refine lv_isub hx hb dX7_areLike_81 ?_
                refine lv_topi (fun z81 ez81 => ?_)
                have bz81 := tq_sub (k := z78.toInt) (q := v44_5.toInt) ez81 rfl rfl (by omega) (by omega)
                refine lv_goto (tgt := 87) hx hb dX7_areLike_82 (by decide) ?_
                exact j87 z81 _ _ _ ⟨by omega, by omega⟩ hP hS (lv_sub hl [0, 1, 2, 3, 4, 5] rfl))
          exact key44 _ 0 _ _ _ rfl ⟨by decide +kernel, by decide +kernel⟩ hP hS (lv_sub hl [1, 2, 3, 4, 5, 0] rfl))
      exact key31 _ 0 _ _ _ rfl ⟨by decide +kernel, by decide +kernel⟩ hP hS (lv_sub hl [1, 2, 3, 4, 0] rfl)
    · have t23 := tq_ne (k := z15.toInt) (q := z20.toInt) c23 rfl rfl
      refine lv_iconst (v := 0) hx hb dX7_areLike_26 (by decide +kernel) ?_
      subst hR; subst hQz
      exact W.zret (v := 0) hx hb hr (by decide +kernel) (fun t ht hW => ⟨⟨0, (), rfl, ⟨by decide +kernel, by decide +kernel⟩, trivial⟩, hS.F ht⟩) hS.2.2 dX7_areLike_27

set_option maxHeartbeats 4000000 in
set_option maxRecDepth 100000 in
theorem s_X7_like (l : Launch) (dC : Nat → ClassId) (dI : Nat → Nat → Nat) (cs : Nat → ClassId) (L : List Nat) (K G : Nat → Nat) (Q : Nat → Nat → Option Nat) (hQ : Sv L K G Q) (x0 m0 : Nat) (tx : GT) (tm : GT × Int) (sz : Nat) (I : Nat → Nat → Int32) (J : Nat → Nat → Int64) (hI : Iv L K x0 m0 tx tm I) (p0 : Nat) (hLp0 : p0 ∈ L) (hKp0 : K p0 = 7) (p1 : Int32) : Met l yX7_like (.code yX7_like cX7_like 4 (some .int) :: pw) ({ frames := 3, cells := 0, slots := 0, locals := 73 }) (sP (dC, dI) cs [.ref p0, .int p1] sz L K I J Q) (va_Qi (fun (r : Int32) (_ : Unit) => True) (fun _ _ => True) (fun _ => False)) 0 0 (fun _ => False) := by
  refine Met.ofW (cc := cX7_like) (maxL := 4) (ret := (some .int)) (by decide +kernel) rfl ?_
  intro p e s m args below meth c s₁ B hml hv
  obtain ⟨rfl, hsz, hP, hK, hD0, hN⟩ := hv
  have hx := B.exec
  have hb := B.bytes
  have hr := B.returns
  have hts := fun w (h : w ∈ pw) => atoms_spec (ws := Cond.code yX7_like cX7_like 4 (some .int) :: pw) B.pre w (List.mem_cons_of_mem _ h)
  have hown : s.vm.findClass RX7 = some m.cls := findClass_of_methodNamed B.named
  have hlocks := B.notSynchronized
  subst hsz
  have hBB : 999 ≤ tm.2 ∧ tm.2 ≤ 6000000 := hI.2.2.2.2.1
  have hD := hD0
  obtain ⟨H, hHe⟩ : ∃ H : Heap, H = s.heap := ⟨_, rfl⟩
  have hS : va_S (fun _ => False) s.heap H [] := by rw [hHe]; exact va_S.rf
  rw [← hHe] at hP
  have hl := lv_entry ([.ref p0, .int p1]) (n := 4) (Nat.le_of_ble_eq_true rfl)
  rw [lg_entry_eq]
  generalize (lg_sl ([.ref p0, .int p1]) ++ List.replicate (4 - (lg_sl ([.ref p0, .int p1])).length) Slot.unset).toArray = ls at hl ⊢
  have hl : lv_has ls 4 [(0, .ref p0), (1, .int p1)] := hl
  rw [← hHe]
  refine namedW (fun R Qz hR hQz => ?_)
  refine lv_aload_n hx hb dX7_like_0 rfl (lv_at hl 0 rfl) ?_
  refine lv_iload_n hx hb dX7_like_1 rfl (lv_at hl 1 rfl) ?_
  refine ro_i (va_runV (As := [.int p1]) (rest := []) ⟨hx, hb, hml, hown, hts⟩ (s_X7_isMask l dC dI cs L K G Q hQ x0 m0 tx tm H.size I J hI p0 hLp0 hKp0 p1) (cwV 1 hts (gV pq1364 pq1366 pq31 pq81 pq1367) rfl rfl rfl (by decide +kernel) ⟨(by rw [hR]; exact (Nat.le_of_ble_eq_true rfl)), (by rw [hR]; exact (Nat.le_of_ble_eq_true rfl))⟩) (sP_V hP hD hK hN hLp0 hKp0 rfl rfl) rfl rfl hl.1 rfl (lv_room (Nat.le_of_ble_eq_true rfl)) dX7_like_2 ⟨(by rw [hR]; exact (Nat.le_of_ble_eq_true rfl)), (by rw [hR]; exact (Nat.le_of_ble_eq_true rfl))⟩) hS hP (fun z2 H locs hz2 hP hS => ?_)
  obtain ⟨bz2, imz2, xpz2⟩ := hz2
  refine lv_if_ne (tgt := 10) hx hb dX7_like_5 (by decide) (fun c5 => ?_) (fun c5 => ?_)
  · have t5 := tq_ne (k := z2.toInt) (q := (0)) c5 rfl (by decide +kernel)
    have i5 := imz2 t5
    refine lv_iconst (v := 0) hx hb dX7_like_10 (by decide +kernel) ?_
    refine lv_istore_n (lv' := [(2, .int 0), (0, .ref p0), (1, .int p1)]) hx hb dX7_like_11 rfl hl (by decide) rfl (fun ls hl => ?_)
    refine lv_iconst (v := 0) hx hb dX7_like_12 (by decide +kernel) ?_
    refine lv_istore_n (lv' := [(3, .int 0), (2, .int 0), (0, .ref p0), (1, .int p1)]) hx hb dX7_like_13 rfl hl (by decide) rfl (fun ls hl => ?_)
    have key14 := blocks (fun n => ∀ (v14_2 : Int32) (v14_3 : Int32) (H : Heap) (lo : List Loc) (ls : Array Slot), (5 - v14_3.toInt).toNat = n → ((0) ≤ v14_3.toInt ∧ v14_3.toInt ≤ 4) → va_P (dC, dI) vwCl (Wd cs L K I J Q) H → va_S (fun _ => False) s.heap H lo → lv_has ls 4 [(0, .ref p0), (1, .int p1), (2, .int v14_2), (3, .int v14_3)] → W p l e R s m (([.ref p0, .int p1] : List Value).toArray) below meth c H lo 0 0 Qz (F0 m 14 ls [])) (by
      intro n ih14
      intro v14_2 v14_3 H lo ls hmu14 bv14_3 hP hS hl
      refine lv_iload_n hx hb dX7_like_14 rfl (lv_at hl 3 rfl) ?_
      refine lv_iconst (v := 4) hx hb dX7_like_15 (by decide +kernel) ?_
      refine lv_icmp_ge (tgt := 45) hx hb dX7_like_16 (by decide) (fun c16 => ?_) (fun c16 => ?_)
      · have t16 := tq_le (k := (4)) (q := v14_3.toInt) c16 (by decide +kernel) rfl
        refine lv_iload_n hx hb dX7_like_45 rfl (lv_at hl 2 rfl) ?_
        subst hR; subst hQz
        exact W.iret (v := v14_2) hx hb hr (fun t ht hW => ⟨⟨v14_2, (), rfl, trivial, trivial⟩, hS.F ht⟩) hS.2.2 dX7_like_46
      · have t16 := tq_nle (k := (4)) (q := v14_3.toInt) c16 (by decide +kernel) rfl
        refine lv_iload_n hx hb dX7_like_19 rfl (lv_at hl 2 rfl) ?_
        refine lv_aload_n hx hb dX7_like_20 rfl (lv_at hl 0 rfl) ?_
        refine lv_iload_n hx hb dX7_like_21 rfl (lv_at hl 1 rfl) ?_
        refine lv_iload_n hx hb dX7_like_22 rfl (lv_at hl 1 rfl) ?_
        refine lv_iload_n hx hb dX7_like_23 rfl (lv_at hl 3 rfl) ?_
        refine ro_i (va_runV (As := [.int p1, .int p1, .int v14_3]) (rest := [.int v14_2]) ⟨hx, hb, hml, hown, hts⟩ (s_X7_areLike l dC dI cs L K G Q hQ x0 m0 tx tm H.size I J hI p0 hLp0 hKp0 p1 ⟨by omega, by omega⟩ p1 ⟨by omega, by omega⟩ v14_3) (cwV 3 hts (gV pq1670 pq1672 pq69 pq81 pq1673) rfl rfl rfl (by decide +kernel) ⟨(by rw [hR]; exact (Nat.le_of_ble_eq_true rfl)), (by rw [hR]; exact (Nat.le_of_ble_eq_true rfl))⟩) (sP_V hP hD hK hN hLp0 hKp0 rfl rfl) rfl rfl hl.1 rfl (lv_room (Nat.le_of_ble_eq_true rfl)) dX7_like_24 ⟨(by rw [hR]; exact (Nat.le_of_ble_eq_true rfl)), (by rw [hR]; exact (Nat.le_of_ble_eq_true rfl))⟩) hS hP (fun z24 H locs hz24 hP hS => ?_)
        have bz24 := hz24
        have j37 : ∀ (w37_1 : Int32) (H : Heap) (lo : List Loc) (ls : Array Slot), va_P (dC, dI) vwCl (Wd cs L K I J Q) H → va_S (fun _ => False) s.heap H lo → lv_has ls 4 [(0, .ref p0), (1, .int p1), (2, .int v14_2), (3, .int v14_3)] → W p l e R s m (([.ref p0, .int p1] : List Value).toArray) below meth c H lo 0 0 Qz (F0 m 37 ls [.int w37_1, .int v14_2]) := by
          intro w37_1 H lo ls hP hS hl
          refine lv_ior hx hb dX7_like_37 ?_
          refine lv_topi (fun z37 ez37 => ?_)
          refine lv_istore_n (lv' := [(2, .int z37), (0, .ref p0), (1, .int p1), (3, .int v14_3)]) hx hb dX7_like_38 rfl hl (by decide) rfl (fun ls hl => ?_)
          obtain ⟨z39, ez39⟩ : ∃ y : Int32, y = v14_3 + 1 := ⟨_, rfl⟩
          refine lv_iinc (v := z39) (lv' := [(3, .int z39), (2, .int z37), (0, .ref p0), (1, .int p1)]) hx hb dX7_like_39 hl (k := 3) rfl (by rw [ez39]; rfl) (by decide) rfl (fun ls hl => ?_)
          have bz39 := tq_add (k := v14_3.toInt) (q := 1) ez39 rfl (by decide +kernel) (by omega) (by omega)
          refine lv_goto (tgt := 14) hx hb dX7_like_42 (by decide) ?_
          exact ih14 _ (by omega) z37 z39 _ _ _ rfl ⟨by omega, by omega⟩ hP hS (lv_sub hl [2, 3, 1, 0] rfl)
        refine lv_if_eq (tgt := 36) hx hb dX7_like_27 (by decide) (fun c27 => ?_) (fun c27 => ?_)
        · have t27 := tq_eq (k := z24.toInt) (q := (0)) c27 rfl (by decide +kernel)
          refine lv_iconst (v := 0) hx hb dX7_like_36 (by decide +kernel) ?_
          exact j37 0 _ _ _ hP hS (lv_sub hl [0, 1, 2, 3] rfl)
        · have t27 := tq_ne (k := z24.toInt) (q := (0)) c27 rfl (by decide +kernel)
          refine lv_iconst (v := 1) hx hb dX7_like_30 (by decide +kernel) ?_
          refine lv_iload_n hx hb dX7_like_31 rfl (lv_at hl 3 rfl) ?_
          refine lv_ishl hx hb dX7_like_32 ?_
          refine lv_topi (fun z32 ez32 => ?_)
          refine lv_goto (tgt := 37) hx hb dX7_like_33 (by decide) ?_
          exact j37 z32 _ _ _ hP hS (lv_sub hl [0, 1, 2, 3] rfl))
    exact key14 _ 0 0 _ _ _ rfl ⟨by decide +kernel, by decide +kernel⟩ hP hS (lv_sub hl [2, 3, 1, 0] rfl)
  · have t5 := tq_eq (k := z2.toInt) (q := (0)) c5 rfl (by decide +kernel)
    refine lv_iconst (v := (-1)) hx hb dX7_like_8 (by decide +kernel) ?_
    subst hR; subst hQz
    exact W.iret (v := (-1)) hx hb hr (fun t ht hW => ⟨⟨(-1), (), rfl, trivial, trivial⟩, hS.F ht⟩) hS.2.2 dX7_like_9

set_option maxHeartbeats 4000000 in
set_option maxRecDepth 100000 in
theorem s_X7_letter (l : Launch) (dC : Nat → ClassId) (dI : Nat → Nat → Nat) (cs : Nat → ClassId) (L : List Nat) (K G : Nat → Nat) (Q : Nat → Nat → Option Nat) (hQ : Sv L K G Q) (x0 m0 : Nat) (tx : GT) (tm : GT × Int) (sz : Nat) (I : Nat → Nat → Int32) (J : Nat → Nat → Int64) (hI : Iv L K x0 m0 tx tm I) (p0 : Nat) (hLp0 : p0 ∈ L) (hKp0 : K p0 = 7) (p1 : Int32) (p2 : Int32) : Met l yX7_letter (.code yX7_letter cX7_letter 5 (some .int) :: pw) ({ frames := 2, cells := 0, slots := 0, locals := 48 }) (sP (dC, dI) cs [.ref p0, .int p1, .int p2] sz L K I J Q) (va_Qi (fun (r : Int32) (_ : Unit) => (∀ σ : Sx, cmA Q I J p0 σ → r.toInt = ltR σ p1 p2)) (fun _ _ => True) (fun _ => False)) 0 0 (fun _ => False) := by
  refine Met.ofW (cc := cX7_letter) (maxL := 5) (ret := (some .int)) (by decide +kernel) rfl ?_
  intro p e s m args below meth c s₁ B hml hv
  obtain ⟨rfl, hsz, hP, hK, hD0, hN⟩ := hv
  have hx := B.exec
  have hb := B.bytes
  have hr := B.returns
  have hts := fun w (h : w ∈ pw) => atoms_spec (ws := Cond.code yX7_letter cX7_letter 5 (some .int) :: pw) B.pre w (List.mem_cons_of_mem _ h)
  have hown : s.vm.findClass RX7 = some m.cls := findClass_of_methodNamed B.named
  have hlocks := B.notSynchronized
  subst hsz
  have hBB : 999 ≤ tm.2 ∧ tm.2 ≤ 6000000 := hI.2.2.2.2.1
  have hD := hD0
  obtain ⟨H, hHe⟩ : ∃ H : Heap, H = s.heap := ⟨_, rfl⟩
  have hS : va_S (fun _ => False) s.heap H [] := by rw [hHe]; exact va_S.rf
  rw [← hHe] at hP
  have hl := lv_entry ([.ref p0, .int p1, .int p2]) (n := 5) (Nat.le_of_ble_eq_true rfl)
  rw [lg_entry_eq]
  generalize (lg_sl ([.ref p0, .int p1, .int p2]) ++ List.replicate (5 - (lg_sl ([.ref p0, .int p1, .int p2])).length) Slot.unset).toArray = ls at hl ⊢
  have hl : lv_has ls 5 [(0, .ref p0), (1, .int p1), (2, .int p2)] := hl
  rw [← hHe]
  refine namedW (fun R Qz hR hQz => ?_)
  refine lv_aload_n hx hb dX7_letter_0 rfl (lv_at hl 0 rfl) ?_
  refine lv_iload_n hx hb dX7_letter_1 rfl (lv_at hl 1 rfl) ?_
  refine ro_i (va_runV (As := [.int p1]) (rest := []) ⟨hx, hb, hml, hown, hts⟩ (s_X7_isMask l dC dI cs L K G Q hQ x0 m0 tx tm H.size I J hI p0 hLp0 hKp0 p1) (cwV 1 hts (gV pq1364 pq1366 pq31 pq81 pq1367) rfl rfl rfl (by decide +kernel) ⟨(by rw [hR]; exact (Nat.le_of_ble_eq_true rfl)), (by rw [hR]; exact (Nat.le_of_ble_eq_true rfl))⟩) (sP_V hP hD hK hN hLp0 hKp0 rfl rfl) rfl rfl hl.1 rfl (lv_room (Nat.le_of_ble_eq_true rfl)) dX7_letter_2 ⟨(by rw [hR]; exact (Nat.le_of_ble_eq_true rfl)), (by rw [hR]; exact (Nat.le_of_ble_eq_true rfl))⟩) hS hP (fun z2 H locs hz2 hP hS => ?_)
  obtain ⟨bz2, imz2, xpz2⟩ := hz2
  refine lv_if_eq (tgt := 13) hx hb dX7_letter_5 (by decide) (fun c5 => ?_) (fun c5 => ?_)
  · have t5 := tq_eq (k := z2.toInt) (q := (0)) c5 rfl (by decide +kernel)
    refine lv_iconst (v := (-1)) hx hb dX7_letter_13 (by decide +kernel) ?_
    subst hR; subst hQz
    exact W.iret (v := (-1)) hx hb hr (fun t ht hW => ⟨⟨(-1), (), rfl, (fun σ h => by rw [ltr0 (fun w => by first | exact (xpz2.2 t5) (by rw [cm_0 h]; exact w.1) | (have a := w.2; omega))]; decide +kernel), trivial⟩, hS.F ht⟩) hS.2.2 dX7_letter_14
  · have t5 := tq_ne (k := z2.toInt) (q := (0)) c5 rfl (by decide +kernel)
    have i5 := imz2 t5
    refine lv_iload_n hx hb dX7_letter_8 rfl (lv_at hl 2 rfl) ?_
    refine lv_iconst (v := (-1)) hx hb dX7_letter_9 (by decide +kernel) ?_
    refine lv_icmp_ge (tgt := 15) hx hb dX7_letter_10 (by decide) (fun c10 => ?_) (fun c10 => ?_)
    · have t10 := tq_le (k := (-1)) (q := p2.toInt) c10 (by decide +kernel) rfl
      refine lv_aload_n hx hb dX7_letter_15 rfl (lv_at hl 0 rfl) ?_
      refine lv_iload_n hx hb dX7_letter_16 rfl (lv_at hl 1 rfl) ?_
      refine ro_i (va_runV (As := [.int p1]) (rest := []) ⟨hx, hb, hml, hown, hts⟩ (s_X7_wide l dC dI cs L K G Q hQ x0 m0 tx tm H.size I J hI p0 hLp0 hKp0 p1 ⟨by omega, by omega⟩) (cwV 1 hts (gV pq1368 pq1370 pq32 pq81 pq1371) rfl rfl rfl (by decide +kernel) ⟨(by rw [hR]; exact (Nat.le_of_ble_eq_true rfl)), (by rw [hR]; exact (Nat.le_of_ble_eq_true rfl))⟩) (sP_V hP hD hK hN hLp0 hKp0 rfl rfl) rfl rfl hl.1 rfl (lv_room (Nat.le_of_ble_eq_true rfl)) dX7_letter_17 ⟨(by rw [hR]; exact (Nat.le_of_ble_eq_true rfl)), (by rw [hR]; exact (Nat.le_of_ble_eq_true rfl))⟩) hS hP (fun z17 H locs hz17 hP hS => ?_)
      obtain ⟨bz17, fez17⟩ := hz17
      refine lv_iconst (v := 1) hx hb dX7_letter_20 (by decide +kernel) ?_
      refine lv_iadd hx hb dX7_letter_21 ?_
      refine lv_topi (fun z21 ez21 => ?_)
      have bz21 := tq_add (k := z17.toInt) (q := (1)) ez21 rfl (by decide +kernel) (by omega) (by omega)
      refine lv_istore_n (lv' := [(3, .int z21), (0, .ref p0), (1, .int p1), (2, .int p2)]) hx hb dX7_letter_22 rfl hl (by decide) rfl (fun ls hl => ?_)
      refine lv_iload_n hx hb dX7_letter_23 rfl (lv_at hl 0 rfl) ?_
      refine lv_aload_n hx hb dX7_letter_24 rfl (lv_at hl 1 rfl) ?_
      refine lv_iload_n hx hb dX7_letter_25 rfl (lv_at hl 2 rfl) ?_
      refine ro_i (va_runV (As := [.int p1]) (rest := [.int z21]) ⟨hx, hb, hml, hown, hts⟩ (s_X7_high l dC dI cs L K G Q hQ x0 m0 tx tm H.size I J hI p0 hLp0 hKp0 p1 ⟨by omega, by omega⟩) (cwV 1 hts (gV pq1372 pq1374 pq33 pq81 pq1375) rfl rfl rfl (by decide +kernel) ⟨(by rw [hR]; exact (Nat.le_of_ble_eq_true rfl)), (by rw [hR]; exact (Nat.le_of_ble_eq_true rfl))⟩) (sP_V hP hD hK hN hLp0 hKp0 rfl rfl) rfl rfl hl.1 rfl (lv_room (Nat.le_of_ble_eq_true rfl)) dX7_letter_26 ⟨(by rw [hR]; exact (Nat.le_of_ble_eq_true rfl)), (by rw [hR]; exact (Nat.le_of_ble_eq_true rfl))⟩) hS hP (fun z26 H locs hz26 hP hS => ?_)
      obtain ⟨bz26, fez26⟩ := hz26
      refine lv_imul hx hb dX7_letter_29 ?_
      refine lv_topi (fun z29 ez29 => ?_)
      refine lv_iconst (v := 1) hx hb dX7_letter_30 (by decide +kernel) ?_
      refine lv_isub hx hb dX7_letter_31 ?_
      refine lv_topi (fun z31 ez31 => ?_)
      refine lv_istore (lv' := [(4, .int z31), (3, .int z21), (0, .ref p0), (1, .int p1), (2, .int p2)]) hx hb dX7_letter_32 hl (by decide) rfl (fun ls hl => ?_)
      refine lv_iload_n hx hb dX7_letter_34 rfl (lv_at hl 4 rfl) ?_
      refine lv_iconst (v := (-1)) hx hb dX7_letter_35 (by decide +kernel) ?_
      refine lv_icmp_ne (tgt := 42) hx hb dX7_letter_36 (by decide) (fun c36 => ?_) (fun c36 => ?_)
      · have t36 := tq_ne (k := p2.toInt) (q := (-1)) c36 rfl (by decide +kernel)
        refine lv_iload_n hx hb dX7_letter_42 rfl (lv_at hl 4 rfl) ?_
        refine lv_iload hx hb dX7_letter_43 (lv_at hl 0 rfl) ?_
        refine lv_icmp_lt (tgt := 53) hx hb dX7_letter_45 (by decide) (fun c45 => ?_) (fun c45 => ?_)
        · have t45 := tq_lt (k := p2.toInt) (q := z31.toInt) c45 rfl rfl
          have rg45p2 := fb_rng p2
          have rg45z31 := fb_rng z31
          refine lv_iload_n hx hb dX7_letter_53 rfl (lv_at hl 4 rfl) ?_
          refine lv_iload_n hx hb dX7_letter_54 rfl (lv_at hl 1 rfl) ?_
          refine lv_irem hx hb dX7_letter_55 (letn ez29 ez31 (by omega) t45) ?_
          refine lv_topi (fun z55 ez55 => ?_)
          refine lv_aload_n hx hb dX7_letter_56 rfl (lv_at hl 2 rfl) ?_
          refine lv_iload_n hx hb dX7_letter_57 rfl (lv_at hl 3 rfl) ?_
          refine ro_i (va_runV (As := [.int p1]) (rest := [.int z55]) ⟨hx, hb, hml, hown, hts⟩ (s_X7_wide l dC dI cs L K G Q hQ x0 m0 tx tm H.size I J hI p0 hLp0 hKp0 p1 ⟨by omega, by omega⟩) (cwV 1 hts (gV pq1368 pq1370 pq32 pq81 pq1371) rfl rfl rfl (by decide +kernel) ⟨(by rw [hR]; exact (Nat.le_of_ble_eq_true rfl)), (by rw [hR]; exact (Nat.le_of_ble_eq_true rfl))⟩) (sP_V hP hD hK hN hLp0 hKp0 rfl rfl) rfl rfl hl.1 rfl (lv_room (Nat.le_of_ble_eq_true rfl)) dX7_letter_58 ⟨(by rw [hR]; exact (Nat.le_of_ble_eq_true rfl)), (by rw [hR]; exact (Nat.le_of_ble_eq_true rfl))⟩) hS hP (fun z58 H locs hz58 hP hS => ?_)
          obtain ⟨bz58, fez58⟩ := hz58
          obtain rfl : z17 = z58 := fez17.trans fez58.symm
          refine lv_icmp_ne (tgt := 69) hx hb dX7_letter_61 (by decide) (fun c61 => ?_) (fun c61 => ?_)
          · have t61 := tq_ne (k := z55.toInt) (q := z17.toInt) c61 rfl rfl
            refine lv_aload_n hx hb dX7_letter_69 rfl (lv_at hl 2 rfl) ?_
            refine lv_iload_n hx hb dX7_letter_70 rfl (lv_at hl 3 rfl) ?_
            refine lv_iload_n hx hb dX7_letter_71 rfl (lv_at hl 4 rfl) ?_
            refine lv_iload_n hx hb dX7_letter_72 rfl (lv_at hl 1 rfl) ?_
            refine lv_irem hx hb dX7_letter_73 (letn ez29 ez31 (by omega) t45) ?_
            refine lv_topi (fun z73 ez73 => ?_)
            refine lv_iload_n hx hb dX7_letter_74 rfl (lv_at hl 4 rfl) ?_
            refine lv_iload_n hx hb dX7_letter_75 rfl (lv_at hl 1 rfl) ?_
            refine lv_idiv hx hb dX7_letter_76 (letn ez29 ez31 (by omega) t45) ?_
            refine lv_topi (fun z76 ez76 => ?_)
            refine ro_i (va_runV (As := [.int p1, .int z73, .int z76]) (rest := []) ⟨hx, hb, hml, hown, hts⟩ (s_X7_has l dC dI cs L K G Q hQ x0 m0 tx tm H.size I J hI p0 hLp0 hKp0 p1 ⟨by omega, by omega⟩ z73 z76) (cwV 3 hts (gV pq1376 pq1378 pq34 pq81 pq1379) rfl rfl rfl (by decide +kernel) ⟨(by rw [hR]; exact (Nat.le_of_ble_eq_true rfl)), (by rw [hR]; exact (Nat.le_of_ble_eq_true rfl))⟩) (sP_V hP hD hK hN hLp0 hKp0 rfl rfl) rfl rfl hl.1 rfl (lv_room (Nat.le_of_ble_eq_true rfl)) dX7_letter_77 ⟨(by rw [hR]; exact (Nat.le_of_ble_eq_true rfl)), (by rw [hR]; exact (Nat.le_of_ble_eq_true rfl))⟩) hS hP (fun z77 H locs hz77 hP hS => ?_)
            obtain ⟨bz77, imz77, xpz77⟩ := hz77
            refine lv_if_eq (tgt := 88) hx hb dX7_letter_80 (by decide) (fun c80 => ?_) (fun c80 => ?_)
            · have t80 := tq_eq (k := z77.toInt) (q := (0)) c80 rfl (by decide +kernel)
              refine lv_bipush (v := 46) hx hb dX7_letter_88 (by decide +kernel) ?_
              subst hR; subst hQz
              exact W.iret (v := 46) hx hb hr (fun t ht hW => ⟨⟨46, (), rfl, (fun σ h => by have q := xpz2.1 t5; rw [cm_0 h] at q; have c := cmA_F (m := p1) h (by omega); have e26 : z17 = mW σ p1 := fez17.trans (cmA_n h (by omega)); have e36 : z26 = mH σ p1 := fez26.trans (cmA_n h (by omega)); have eM : z31 = ltM (mW σ p1) (mH σ p1) := (by rw [ez31, ez29, ez21, e26, e36]; rfl); have H : mK σ p1 ∧ -1 ≤ p2.toInt := ⟨q, by omega⟩; have eX : z55 = ltX (mW σ p1) p2 := (by rw [ez55, ez21, e26]; rfl); have r : ¬ (ltM (mW σ p1) (mH σ p1)).toInt ≤ p2.toInt := (by rw [← eM]; omega); rw [ltr4 (b := z77.toInt) H t36 r (by rw [← eX, ← e26]; exact t61) (by rw [xpz77, hs_congr c.1 c.2.1 c.2.2, ← eX, ez76, ez73, ez55, ez21, e26]), show (46 : Int32).toInt = 46 from by decide +kernel]; omega), trivial⟩, hS.F ht⟩) hS.2.2 dX7_letter_90
            · have t80 := tq_ne (k := z77.toInt) (q := (0)) c80 rfl (by decide +kernel)
              have i80 := imz77 t80
              refine lv_bipush (v := 35) hx hb dX7_letter_83 (by decide +kernel) ?_
              refine lv_goto (tgt := 90) hx hb dX7_letter_85 (by decide) ?_
              subst hR; subst hQz
              exact W.iret (v := 35) hx hb hr (fun t ht hW => ⟨⟨35, (), rfl, (fun σ h => by have q := xpz2.1 t5; rw [cm_0 h] at q; have c := cmA_F (m := p1) h (by omega); have e26 : z17 = mW σ p1 := fez17.trans (cmA_n h (by omega)); have e36 : z26 = mH σ p1 := fez26.trans (cmA_n h (by omega)); have eM : z31 = ltM (mW σ p1) (mH σ p1) := (by rw [ez31, ez29, ez21, e26, e36]; rfl); have H : mK σ p1 ∧ -1 ≤ p2.toInt := ⟨q, by omega⟩; have eX : z55 = ltX (mW σ p1) p2 := (by rw [ez55, ez21, e26]; rfl); have r : ¬ (ltM (mW σ p1) (mH σ p1)).toInt ≤ p2.toInt := (by rw [← eM]; omega); rw [ltr4 (b := z77.toInt) H t36 r (by rw [← eX, ← e26]; exact t61) (by rw [xpz77, hs_congr c.1 c.2.1 c.2.2, ← eX, ez76, ez73, ez55, ez21, e26]), show (35 : Int32).toInt = 35 from by decide +kernel]; omega), trivial⟩, hS.F ht⟩) hS.2.2 dX7_letter_90
          · have t61 := tq_eq (k := z55.toInt) (q := z17.toInt) c61 rfl rfl
            refine lv_bipush (v := 47) hx hb dX7_letter_64 (by decide +kernel) ?_
            refine lv_goto (tgt := 90) hx hb dX7_letter_66 (by decide) ?_
            subst hR; subst hQz
            exact W.iret (v := 47) hx hb hr (fun t ht hW => ⟨⟨47, (), rfl, (fun σ h => by have q := xpz2.1 t5; rw [cm_0 h] at q; have c := cmA_F (m := p1) h (by omega); have e26 : z17 = mW σ p1 := fez17.trans (cmA_n h (by omega)); have e36 : z26 = mH σ p1 := fez26.trans (cmA_n h (by omega)); have eM : z31 = ltM (mW σ p1) (mH σ p1) := (by rw [ez31, ez29, ez21, e26, e36]; rfl); have H : mK σ p1 ∧ -1 ≤ p2.toInt := ⟨q, by omega⟩; have eX : z55 = ltX (mW σ p1) p2 := (by rw [ez55, ez21, e26]; rfl); have r : ¬ (ltM (mW σ p1) (mH σ p1)).toInt ≤ p2.toInt := (by rw [← eM]; omega); rw [ltr3 H t36 r (by rw [← eX, ← e26]; exact t61)]; decide +kernel), trivial⟩, hS.F ht⟩) hS.2.2 dX7_letter_90
        · have t45 := tq_nlt (k := p2.toInt) (q := z31.toInt) c45 rfl rfl
          refine lv_bipush (v := (-2)) hx hb dX7_letter_48 (by decide +kernel) ?_
          refine lv_goto (tgt := 90) hx hb dX7_letter_50 (by decide) ?_
          subst hR; subst hQz
          exact W.iret (v := (-2)) hx hb hr (fun t ht hW => ⟨⟨(-2), (), rfl, (fun σ h => by have q := xpz2.1 t5; rw [cm_0 h] at q; have c := cmA_F (m := p1) h (by omega); have e26 : z17 = mW σ p1 := fez17.trans (cmA_n h (by omega)); have e36 : z26 = mH σ p1 := fez26.trans (cmA_n h (by omega)); have eM : z31 = ltM (mW σ p1) (mH σ p1) := (by rw [ez31, ez29, ez21, e26, e36]; rfl); have H : mK σ p1 ∧ -1 ≤ p2.toInt := ⟨q, by omega⟩; rw [ltr2 H t36 (by rw [← eM]; exact t45)]; decide +kernel), trivial⟩, hS.F ht⟩) hS.2.2 dX7_letter_90
      · have t36 := tq_eq (k := p2.toInt) (q := (-1)) c36 rfl (by decide +kernel)
        refine lv_iload hx hb dX7_letter_39 (lv_at hl 0 rfl) ?_
        subst hR; subst hQz
        exact W.iret (v := z31) hx hb hr (fun t ht hW => ⟨⟨z31, (), rfl, (fun σ h => by have q := xpz2.1 t5; rw [cm_0 h] at q; have c := cmA_F (m := p1) h (by omega); have e26 : z17 = mW σ p1 := fez17.trans (cmA_n h (by omega)); have e36 : z26 = mH σ p1 := fez26.trans (cmA_n h (by omega)); have eM : z31 = ltM (mW σ p1) (mH σ p1) := (by rw [ez31, ez29, ez21, e26, e36]; rfl); have H : mK σ p1 ∧ -1 ≤ p2.toInt := ⟨q, by omega⟩; rw [ltr1 H t36, ← eM]), trivial⟩, hS.F ht⟩) hS.2.2 dX7_letter_41
    · have t10 := tq_nle (k := (-1)) (q := p2.toInt) c10 (by decide +kernel) rfl
      have rg10p2 := fb_rng p2
      refine lv_iconst (v := (-1)) hx hb dX7_letter_13 (by decide +kernel) ?_
      subst hR; subst hQz
      exact W.iret (v := (-1)) hx hb hr (fun t ht hW => ⟨⟨(-1), (), rfl, (fun σ h => by rw [ltr0 (fun w => by first | exact (xpz2.2 t5) (by rw [cm_0 h]; exact w.1) | (have a := w.2; omega))]; decide +kernel), trivial⟩, hS.F ht⟩) hS.2.2 dX7_letter_14

set_option maxHeartbeats 4000000 in
set_option maxRecDepth 100000 in
theorem s_X7_within (l : Launch) (dC : Nat → ClassId) (dI : Nat → Nat → Nat) (cs : Nat → ClassId) (L : List Nat) (K G : Nat → Nat) (Q : Nat → Nat → Option Nat) (hQ : Sv L K G Q) (x0 m0 : Nat) (tx : GT) (tm : GT × Int) (sz : Nat) (I : Nat → Nat → Int32) (J : Nat → Nat → Int64) (hI : Iv L K x0 m0 tx tm I) (p0 : Nat) (hLp0 : p0 ∈ L) (hKp0 : K p0 = 7) (p1 : Int32) (bp1 : (0) ≤ p1.toInt ∧ p1.toInt ≤ 7) (p2 : Int32) (p3 : Int32) (p4 : Int32) (p5 : Int32) : Met l yX7_within (.code yX7_within cX7_within 9 (some .int) :: pw) ({ frames := 2, cells := 0, slots := 0, locals := 48 }) (sP (dC, dI) cs [.ref p0, .int p1, .int p2, .int p3, .int p4, .int p5] sz L K I J Q) (va_Qi (fun (r : Int32) (_ : Unit) => True) (fun _ _ => True) (fun _ => False)) 0 0 (fun _ => False) := by
  refine Met.ofW (cc := cX7_within) (maxL := 9) (ret := (some .int)) (by decide +kernel) rfl ?_
  intro p e s m args below meth c s₁ B hml hv
  obtain ⟨rfl, hsz, hP, hK, hD0, hN⟩ := hv
  have hx := B.exec
  have hb := B.bytes
  have hr := B.returns
  have hts := fun w (h : w ∈ pw) => atoms_spec (ws := Cond.code yX7_within cX7_within 9 (some .int) :: pw) B.pre w (List.mem_cons_of_mem _ h)
  have hown : s.vm.findClass RX7 = some m.cls := findClass_of_methodNamed B.named
  have hlocks := B.notSynchronized
  subst hsz
  have hBB : 999 ≤ tm.2 ∧ tm.2 ≤ 6000000 := hI.2.2.2.2.1
  have hD := hD0
  obtain ⟨H, hHe⟩ : ∃ H : Heap, H = s.heap := ⟨_, rfl⟩
  have hS : va_S (fun _ => False) s.heap H [] := by rw [hHe]; exact va_S.rf
  rw [← hHe] at hP
  have hl := lv_entry ([.ref p0, .int p1, .int p2, .int p3, .int p4, .int p5]) (n := 9) (Nat.le_of_ble_eq_true rfl)
  rw [lg_entry_eq]
  generalize (lg_sl ([.ref p0, .int p1, .int p2, .int p3, .int p4, .int p5]) ++ List.replicate (9 - (lg_sl ([.ref p0, .int p1, .int p2, .int p3, .int p4, .int p5])).length) Slot.unset).toArray = ls at hl ⊢
  have hl : lv_has ls 9 [(0, .ref p0), (1, .int p1), (2, .int p2), (3, .int p3), (4, .int p4), (5, .int p5)] := hl
  rw [← hHe]
  refine namedW (fun R Qz hR hQz => ?_)
  refine lv_iconst (v := 0) hx hb dX7_within_0 (by decide +kernel) ?_
  refine lv_istore (lv' := [(6, .int 0), (0, .ref p0), (1, .int p1), (2, .int p2), (3, .int p3), (4, .int p4), (5, .int p5)]) hx hb dX7_within_1 hl (by decide) rfl (fun ls hl => ?_)
  refine lv_iload_n hx hb dX7_within_3 rfl (lv_at hl 4 rfl) ?_
  refine lv_istore (lv' := [(7, .int p3), (6, .int 0), (0, .ref p0), (1, .int p1), (2, .int p2), (3, .int p3), (4, .int p4), (5, .int p5)]) hx hb dX7_within_4 hl (by decide) rfl (fun ls hl => ?_)
  have key6 := blocks (fun n => ∀ (v6_6 : Int32) (v6_7 : Int32) (H : Heap) (lo : List Loc) (ls : Array Slot), (2147483648 - v6_7.toInt).toNat = n → va_P (dC, dI) vwCl (Wd cs L K I J Q) H → va_S (fun _ => False) s.heap H lo → lv_has ls 9 [(0, .ref p0), (1, .int p1), (2, .int p2), (3, .int p3), (4, .int p4), (5, .int p5), (6, .int v6_6), (7, .int v6_7)] → W p l e R s m (([.ref p0, .int p1, .int p2, .int p3, .int p4, .int p5] : List Value).toArray) below meth c H lo 0 0 Qz (F0 m 6 ls [])) (by
    intro n ih6
    intro v6_6 v6_7 H lo ls hmu6 hP hS hl
    refine lv_iload hx hb dX7_within_6 (lv_at hl 7 rfl) ?_
    refine lv_iload_n hx hb dX7_within_8 rfl (lv_at hl 3 rfl) ?_
    refine lv_iload hx hb dX7_within_9 (lv_at hl 5 rfl) ?_
    refine lv_iadd hx hb dX7_within_11 ?_
    refine lv_topi (fun z11 ez11 => ?_)
    refine lv_icmp_ge (tgt := 56) hx hb dX7_within_12 (by decide) (fun c12 => ?_) (fun c12 => ?_)
    · have t12 := tq_le (k := z11.toInt) (q := v6_7.toInt) c12 rfl rfl
      refine lv_iload hx hb dX7_within_56 (lv_at hl 6 rfl) ?_
      subst hR; subst hQz
      exact W.iret (v := v6_6) hx hb hr (fun t ht hW => ⟨⟨v6_6, (), rfl, trivial, trivial⟩, hS.F ht⟩) hS.2.2 dX7_within_58
    · have t12 := tq_nle (k := z11.toInt) (q := v6_7.toInt) c12 rfl rfl
      have rg12v6_7 := fb_rng v6_7
      have rg12z11 := fb_rng z11
      refine lv_iload_n hx hb dX7_within_15 rfl (lv_at hl 2 rfl) ?_
      refine lv_istore (lv' := [(8, .int p2), (0, .ref p0), (1, .int p1), (2, .int p2), (3, .int p3), (4, .int p4), (5, .int p5), (6, .int v6_6), (7, .int v6_7)]) hx hb dX7_within_16 hl (by decide) rfl (fun ls hl => ?_)
      have key18 := blocks (fun n => ∀ (v18_6 : Int32) (v18_8 : Int32) (H : Heap) (lo : List Loc) (ls : Array Slot), (2147483648 - v18_8.toInt).toNat = n → va_P (dC, dI) vwCl (Wd cs L K I J Q) H → va_S (fun _ => False) s.heap H lo → lv_has ls 9 [(0, .ref p0), (1, .int p1), (2, .int p2), (3, .int p3), (4, .int p4), (5, .int p5), (6, .int v18_6), (7, .int v6_7), (8, .int v18_8)] → W p l e R s m (([.ref p0, .int p1, .int p2, .int p3, .int p4, .int p5] : List Value).toArray) below meth c H lo 0 0 Qz (F0 m 18 ls [])) (by
        intro n ih18
        intro v18_6 v18_8 H lo ls hmu18 hP hS hl
        refine lv_iload hx hb dX7_within_18 (lv_at hl 8 rfl) ?_
        refine lv_iload_n hx hb dX7_within_20 rfl (lv_at hl 2 rfl) ?_
        refine lv_iload hx hb dX7_within_21 (lv_at hl 4 rfl) ?_
        refine lv_iadd hx hb dX7_within_23 ?_
        refine lv_topi (fun z23 ez23 => ?_)
        refine lv_icmp_ge (tgt := 50) hx hb dX7_within_24 (by decide) (fun c24 => ?_) (fun c24 => ?_)
        · have t24 := tq_le (k := z23.toInt) (q := v18_8.toInt) c24 rfl rfl
          obtain ⟨z50, ez50⟩ : ∃ y : Int32, y = v6_7 + 1 := ⟨_, rfl⟩
          refine lv_iinc (v := z50) (lv' := [(7, .int z50), (0, .ref p0), (1, .int p1), (2, .int p2), (3, .int p3), (4, .int p4), (5, .int p5), (6, .int v18_6), (8, .int v18_8)]) hx hb dX7_within_50 hl (k := 7) rfl (by rw [ez50]; rfl) (by decide) rfl (fun ls hl => ?_)
          have rg50v6_7 := fb_rng v6_7
          have bz50 := tq_add (k := v6_7.toInt) (q := 1) ez50 rfl (by decide +kernel) (by omega) (by omega)
          refine lv_goto (tgt := 6) hx hb dX7_within_53 (by decide) ?_
          exact ih6 _ (by omega) v18_6 z50 _ _ _ rfl hP hS (lv_sub hl [1, 2, 3, 4, 5, 6, 7, 0] rfl)
        · have t24 := tq_nle (k := z23.toInt) (q := v18_8.toInt) c24 rfl rfl
          have rg24v18_8 := fb_rng v18_8
          have rg24z23 := fb_rng z23
          refine lv_iload hx hb dX7_within_27 (lv_at hl 6 rfl) ?_
          refine lv_aload_n hx hb dX7_within_29 rfl (lv_at hl 0 rfl) ?_
          refine lv_iload_n hx hb dX7_within_30 rfl (lv_at hl 1 rfl) ?_
          refine lv_iload hx hb dX7_within_31 (lv_at hl 8 rfl) ?_
          refine lv_iload hx hb dX7_within_33 (lv_at hl 7 rfl) ?_
          refine ro_i (va_runV (As := [.int p1, .int v18_8, .int v6_7]) (rest := [.int v18_6]) ⟨hx, hb, hml, hown, hts⟩ (s_X7_has l dC dI cs L K G Q hQ x0 m0 tx tm H.size I J hI p0 hLp0 hKp0 p1 ⟨by omega, by omega⟩ v18_8 v6_7) (cwV 3 hts (gV pq1376 pq1378 pq34 pq81 pq1379) rfl rfl rfl (by decide +kernel) ⟨(by rw [hR]; exact (Nat.le_of_ble_eq_true rfl)), (by rw [hR]; exact (Nat.le_of_ble_eq_true rfl))⟩) (sP_V hP hD hK hN hLp0 hKp0 rfl rfl) rfl rfl hl.1 rfl (lv_room (Nat.le_of_ble_eq_true rfl)) dX7_within_35 ⟨(by rw [hR]; exact (Nat.le_of_ble_eq_true rfl)), (by rw [hR]; exact (Nat.le_of_ble_eq_true rfl))⟩) hS hP (fun z35 H locs hz35 hP hS => ?_)
          obtain ⟨bz35, imz35, xpz35⟩ := hz35
          refine ro_i (va_runS (As := [.int z35]) (rest := [.int v18_6]) ⟨hx, hb, hml, hown, hts⟩ (s_X7_truth l dC dI cs L K Q H.size I J z35) (va_cwS 1 hts (gS pq1257 pq1258 pq81 pq1259) rfl rfl rfl (by decide +kernel) ⟨(by rw [hR]; exact (Nat.le_of_ble_eq_true rfl)), (by rw [hR]; exact (Nat.le_of_ble_eq_true rfl))⟩) (sP_S hP hD hK hN) rfl rfl hl.1 rfl (lv_room (Nat.le_of_ble_eq_true rfl)) dX7_within_38 ⟨(by rw [hR]; exact (Nat.le_of_ble_eq_true rfl)), (by rw [hR]; exact (Nat.le_of_ble_eq_true rfl))⟩) hS hP (fun z38 H locs hz38 hP hS => ?_)
          obtain ⟨bz38, xpz38⟩ := hz38
          refine lv_iadd hx hb dX7_within_41 ?_
          refine lv_topi (fun z41 ez41 => ?_)
          refine lv_istore (lv' := [(6, .int z41), (0, .ref p0), (1, .int p1), (2, .int p2), (3, .int p3), (4, .int p4), (5, .int p5), (7, .int v6_7), (8, .int v18_8)]) hx hb dX7_within_42 hl (by decide) rfl (fun ls hl => ?_)
          obtain ⟨z44, ez44⟩ : ∃ y : Int32, y = v18_8 + 1 := ⟨_, rfl⟩
          refine lv_iinc (v := z44) (lv' := [(8, .int z44), (6, .int z41), (0, .ref p0), (1, .int p1), (2, .int p2), (3, .int p3), (4, .int p4), (5, .int p5), (7, .int v6_7)]) hx hb dX7_within_44 hl (k := 8) rfl (by rw [ez44]; rfl) (by decide) rfl (fun ls hl => ?_)
          have rg44v18_8 := fb_rng v18_8
          have bz44 := tq_add (k := v18_8.toInt) (q := 1) ez44 rfl (by decide +kernel) (by omega) (by omega)
          refine lv_goto (tgt := 18) hx hb dX7_within_47 (by decide) ?_
          exact ih18 _ (by omega) z41 z44 _ _ _ rfl hP hS (lv_sub hl [2, 3, 4, 5, 6, 7, 1, 8, 0] rfl))
      exact key18 _ v6_6 p2 _ _ _ rfl  hP hS (lv_sub hl [1, 2, 3, 4, 5, 6, 7, 8, 0] rfl))
  exact key6 _ 0 p3 _ _ _ rfl  hP hS (lv_sub hl [2, 3, 4, 5, 6, 7, 1, 0] rfl)

set_option maxHeartbeats 4000000 in
set_option maxRecDepth 100000 in
theorem s_X7_dense (l : Launch) (dC : Nat → ClassId) (dI : Nat → Nat → Nat) (cs : Nat → ClassId) (L : List Nat) (K G : Nat → Nat) (Q : Nat → Nat → Option Nat) (hQ : Sv L K G Q) (x0 m0 : Nat) (tx : GT) (tm : GT × Int) (sz : Nat) (I : Nat → Nat → Int32) (J : Nat → Nat → Int64) (hI : Iv L K x0 m0 tx tm I) (p0 : Nat) (hLp0 : p0 ∈ L) (hKp0 : K p0 = 7) (p1 : Int32) (p2 : Int32) (p3 : Int32) (p4 : Int32) : Met l yX7_dense (.code yX7_dense cX7_dense 11 (some .int) :: pw) ({ frames := 3, cells := 0, slots := 0, locals := 76 }) (sP (dC, dI) cs [.ref p0, .int p1, .int p2, .int p3, .int p4] sz L K I J Q) (va_Qi (fun (r : Int32) (_ : Unit) => True) (fun _ _ => True) (fun _ => False)) 0 0 (fun _ => False) := by
  refine Met.ofW (cc := cX7_dense) (maxL := 11) (ret := (some .int)) (by decide +kernel) rfl ?_
  intro p e s m args below meth c s₁ B hml hv
  obtain ⟨rfl, hsz, hP, hK, hD0, hN⟩ := hv
  have hx := B.exec
  have hb := B.bytes
  have hr := B.returns
  have hts := fun w (h : w ∈ pw) => atoms_spec (ws := Cond.code yX7_dense cX7_dense 11 (some .int) :: pw) B.pre w (List.mem_cons_of_mem _ h)
  have hown : s.vm.findClass RX7 = some m.cls := findClass_of_methodNamed B.named
  have hlocks := B.notSynchronized
  subst hsz
  have hBB : 999 ≤ tm.2 ∧ tm.2 ≤ 6000000 := hI.2.2.2.2.1
  have hD := hD0
  obtain ⟨H, hHe⟩ : ∃ H : Heap, H = s.heap := ⟨_, rfl⟩
  have hS : va_S (fun _ => False) s.heap H [] := by rw [hHe]; exact va_S.rf
  rw [← hHe] at hP
  have hl := lv_entry ([.ref p0, .int p1, .int p2, .int p3, .int p4]) (n := 11) (Nat.le_of_ble_eq_true rfl)
  rw [lg_entry_eq]
  generalize (lg_sl ([.ref p0, .int p1, .int p2, .int p3, .int p4]) ++ List.replicate (11 - (lg_sl ([.ref p0, .int p1, .int p2, .int p3, .int p4])).length) Slot.unset).toArray = ls at hl ⊢
  have hl : lv_has ls 11 [(0, .ref p0), (1, .int p1), (2, .int p2), (3, .int p3), (4, .int p4)] := hl
  rw [← hHe]
  refine namedW (fun R Qz hR hQz => ?_)
  refine lv_aload_n hx hb dX7_dense_0 rfl (lv_at hl 0 rfl) ?_
  refine lv_iload_n hx hb dX7_dense_1 rfl (lv_at hl 1 rfl) ?_
  refine ro_i (va_runV (As := [.int p1]) (rest := []) ⟨hx, hb, hml, hown, hts⟩ (s_X7_isMask l dC dI cs L K G Q hQ x0 m0 tx tm H.size I J hI p0 hLp0 hKp0 p1) (cwV 1 hts (gV pq1364 pq1366 pq31 pq81 pq1367) rfl rfl rfl (by decide +kernel) ⟨(by rw [hR]; exact (Nat.le_of_ble_eq_true rfl)), (by rw [hR]; exact (Nat.le_of_ble_eq_true rfl))⟩) (sP_V hP hD hK hN hLp0 hKp0 rfl rfl) rfl rfl hl.1 rfl (lv_room (Nat.le_of_ble_eq_true rfl)) dX7_dense_2 ⟨(by rw [hR]; exact (Nat.le_of_ble_eq_true rfl)), (by rw [hR]; exact (Nat.le_of_ble_eq_true rfl))⟩) hS hP (fun z2 H locs hz2 hP hS => ?_)
  obtain ⟨bz2, imz2, xpz2⟩ := hz2
  refine lv_if_eq (tgt := 51) hx hb dX7_dense_5 (by decide) (fun c5 => ?_) (fun c5 => ?_)
  · have t5 := tq_eq (k := z2.toInt) (q := (0)) c5 rfl (by decide +kernel)
    refine lv_iconst (v := (-1)) hx hb dX7_dense_51 (by decide +kernel) ?_
    subst hR; subst hQz
    exact W.iret (v := (-1)) hx hb hr (fun t ht hW => ⟨⟨(-1), (), rfl, trivial, trivial⟩, hS.F ht⟩) hS.2.2 dX7_dense_52
  · have t5 := tq_ne (k := z2.toInt) (q := (0)) c5 rfl (by decide +kernel)
    have i5 := imz2 t5
    refine lv_iload_n hx hb dX7_dense_8 rfl (lv_at hl 2 rfl) ?_
    refine lv_i2l hx hb dX7_dense_9 rfl ?_
    refine lv_topl (fun z9 ez9 => ?_)
    have bz9 := tq_i2l (k := p2.toInt) ez9 rfl
    refine lv_lconst (v := 1) hx hb dX7_dense_10 (by decide +kernel) ?_
    refine lv_aload_n hx hb dX7_dense_11 rfl (lv_at hl 0 rfl) ?_
    refine lv_iload_n hx hb dX7_dense_12 rfl (lv_at hl 1 rfl) ?_
    refine ro_i (va_runV (As := [.int p1]) (rest := [.long 1, .long z9]) ⟨hx, hb, hml, hown, hts⟩ (s_X7_wide l dC dI cs L K G Q hQ x0 m0 tx tm H.size I J hI p0 hLp0 hKp0 p1 ⟨by omega, by omega⟩) (cwV 1 hts (gV pq1368 pq1370 pq32 pq81 pq1371) rfl rfl rfl (by decide +kernel) ⟨(by rw [hR]; exact (Nat.le_of_ble_eq_true rfl)), (by rw [hR]; exact (Nat.le_of_ble_eq_true rfl))⟩) (sP_V hP hD hK hN hLp0 hKp0 rfl rfl) rfl rfl hl.1 rfl (lv_room (Nat.le_of_ble_eq_true rfl)) dX7_dense_13 ⟨(by rw [hR]; exact (Nat.le_of_ble_eq_true rfl)), (by rw [hR]; exact (Nat.le_of_ble_eq_true rfl))⟩) hS hP (fun z13 H locs hz13 hP hS => ?_)
    obtain ⟨bz13, fez13⟩ := hz13
    refine lv_i2l hx hb dX7_dense_16 rfl ?_
    refine lv_topl (fun z16 ez16 => ?_)
    have bz16 := tq_i2l (k := z13.toInt) ez16 rfl
    refine ro_i (va_runS (As := [.long z9, .long 1, .long z16]) (rest := []) ⟨hx, hb, hml, hown, hts⟩ (s_X7_in l dC dI cs L K Q H.size I J z9 1 z16) (va_cwS 3 hts (gS pq1234 pq1235 pq81 pq1236) rfl rfl rfl (by decide +kernel) ⟨(by rw [hR]; exact (Nat.le_of_ble_eq_true rfl)), (by rw [hR]; exact (Nat.le_of_ble_eq_true rfl))⟩) (sP_S hP hD hK hN) rfl rfl hl.1 rfl (lv_room (Nat.le_of_ble_eq_true rfl)) dX7_dense_17 ⟨(by rw [hR]; exact (Nat.le_of_ble_eq_true rfl)), (by rw [hR]; exact (Nat.le_of_ble_eq_true rfl))⟩) hS hP (fun z17 H locs hz17 hP hS => ?_)
    have csl17_1 : (1 : Int64).toInt = 1 := by decide +kernel
    obtain ⟨bz17, imz17, xpz17⟩ := hz17
    refine lv_if_eq (tgt := 51) hx hb dX7_dense_20 (by decide) (fun c20 => ?_) (fun c20 => ?_)
    · have t20 := tq_eq (k := z17.toInt) (q := (0)) c20 rfl (by decide +kernel)
      refine lv_iconst (v := (-1)) hx hb dX7_dense_51 (by decide +kernel) ?_
      subst hR; subst hQz
      exact W.iret (v := (-1)) hx hb hr (fun t ht hW => ⟨⟨(-1), (), rfl, trivial, trivial⟩, hS.F ht⟩) hS.2.2 dX7_dense_52
    · have t20 := tq_ne (k := z17.toInt) (q := (0)) c20 rfl (by decide +kernel)
      have i20 := imz17 t20
      refine lv_iload_n hx hb dX7_dense_23 rfl (lv_at hl 3 rfl) ?_
      refine lv_i2l hx hb dX7_dense_24 rfl ?_
      refine lv_topl (fun z24 ez24 => ?_)
      have bz24 := tq_i2l (k := p3.toInt) ez24 rfl
      refine lv_lconst (v := 1) hx hb dX7_dense_25 (by decide +kernel) ?_
      refine lv_aload_n hx hb dX7_dense_26 rfl (lv_at hl 0 rfl) ?_
      refine lv_iload_n hx hb dX7_dense_27 rfl (lv_at hl 1 rfl) ?_
      refine ro_i (va_runV (As := [.int p1]) (rest := [.long 1, .long z24]) ⟨hx, hb, hml, hown, hts⟩ (s_X7_high l dC dI cs L K G Q hQ x0 m0 tx tm H.size I J hI p0 hLp0 hKp0 p1 ⟨by omega, by omega⟩) (cwV 1 hts (gV pq1372 pq1374 pq33 pq81 pq1375) rfl rfl rfl (by decide +kernel) ⟨(by rw [hR]; exact (Nat.le_of_ble_eq_true rfl)), (by rw [hR]; exact (Nat.le_of_ble_eq_true rfl))⟩) (sP_V hP hD hK hN hLp0 hKp0 rfl rfl) rfl rfl hl.1 rfl (lv_room (Nat.le_of_ble_eq_true rfl)) dX7_dense_28 ⟨(by rw [hR]; exact (Nat.le_of_ble_eq_true rfl)), (by rw [hR]; exact (Nat.le_of_ble_eq_true rfl))⟩) hS hP (fun z28 H locs hz28 hP hS => ?_)
      obtain ⟨bz28, fez28⟩ := hz28
      refine lv_i2l hx hb dX7_dense_31 rfl ?_
      refine lv_topl (fun z31 ez31 => ?_)
      have bz31 := tq_i2l (k := z28.toInt) ez31 rfl
      refine ro_i (va_runS (As := [.long z24, .long 1, .long z31]) (rest := []) ⟨hx, hb, hml, hown, hts⟩ (s_X7_in l dC dI cs L K Q H.size I J z24 1 z31) (va_cwS 3 hts (gS pq1234 pq1235 pq81 pq1236) rfl rfl rfl (by decide +kernel) ⟨(by rw [hR]; exact (Nat.le_of_ble_eq_true rfl)), (by rw [hR]; exact (Nat.le_of_ble_eq_true rfl))⟩) (sP_S hP hD hK hN) rfl rfl hl.1 rfl (lv_room (Nat.le_of_ble_eq_true rfl)) dX7_dense_32 ⟨(by rw [hR]; exact (Nat.le_of_ble_eq_true rfl)), (by rw [hR]; exact (Nat.le_of_ble_eq_true rfl))⟩) hS hP (fun z32 H locs hz32 hP hS => ?_)
      have csl32_1 : (1 : Int64).toInt = 1 := by decide +kernel
      obtain ⟨bz32, imz32, xpz32⟩ := hz32
      refine lv_if_eq (tgt := 51) hx hb dX7_dense_35 (by decide) (fun c35 => ?_) (fun c35 => ?_)
      · have t35 := tq_eq (k := z32.toInt) (q := (0)) c35 rfl (by decide +kernel)
        refine lv_iconst (v := (-1)) hx hb dX7_dense_51 (by decide +kernel) ?_
        subst hR; subst hQz
        exact W.iret (v := (-1)) hx hb hr (fun t ht hW => ⟨⟨(-1), (), rfl, trivial, trivial⟩, hS.F ht⟩) hS.2.2 dX7_dense_52
      · have t35 := tq_ne (k := z32.toInt) (q := (0)) c35 rfl (by decide +kernel)
        have i35 := imz32 t35
        refine lv_iload hx hb dX7_dense_38 (lv_at hl 4 rfl) ?_
        refine lv_i2l hx hb dX7_dense_40 rfl ?_
        refine lv_topl (fun z40 ez40 => ?_)
        have bz40 := tq_i2l (k := p4.toInt) ez40 rfl
        refine lv_lconst (v := 0) hx hb dX7_dense_41 (by decide +kernel) ?_
        refine lv_ldc2 hx hb hown (hts _ pq1595) dX7_dense_42 ?_
        refine ro_i (va_runS (As := [.long z40, .long 0, .long 2]) (rest := []) ⟨hx, hb, hml, hown, hts⟩ (s_X7_in l dC dI cs L K Q H.size I J z40 0 2) (va_cwS 3 hts (gS pq1234 pq1235 pq81 pq1236) rfl rfl rfl (by decide +kernel) ⟨(by rw [hR]; exact (Nat.le_of_ble_eq_true rfl)), (by rw [hR]; exact (Nat.le_of_ble_eq_true rfl))⟩) (sP_S hP hD hK hN) rfl rfl hl.1 rfl (lv_room (Nat.le_of_ble_eq_true rfl)) dX7_dense_45 ⟨(by rw [hR]; exact (Nat.le_of_ble_eq_true rfl)), (by rw [hR]; exact (Nat.le_of_ble_eq_true rfl))⟩) hS hP (fun z45 H locs hz45 hP hS => ?_)
        have csl45_0 : (0 : Int64).toInt = 0 := by decide +kernel
        have csl45_2 : (2 : Int64).toInt = 2 := by decide +kernel
        obtain ⟨bz45, imz45, xpz45⟩ := hz45
        refine lv_if_ne (tgt := 53) hx hb dX7_dense_48 (by decide) (fun c48 => ?_) (fun c48 => ?_)
        · have t48 := tq_ne (k := z45.toInt) (q := (0)) c48 rfl (by decide +kernel)
          have i48 := imz45 t48
          refine lv_iconst (v := (-1)) hx hb dX7_dense_53 (by decide +kernel) ?_
          refine lv_istore (lv' := [(5, .int (-1)), (0, .ref p0), (1, .int p1), (2, .int p2), (3, .int p3), (4, .int p4)]) hx hb dX7_dense_54 hl (by decide) rfl (fun ls hl => ?_)
          refine lv_iconst (v := 0) hx hb dX7_dense_56 (by decide +kernel) ?_
          refine lv_istore (lv' := [(6, .int 0), (5, .int (-1)), (0, .ref p0), (1, .int p1), (2, .int p2), (3, .int p3), (4, .int p4)]) hx hb dX7_dense_57 hl (by decide) rfl (fun ls hl => ?_)
          refine lv_iconst (v := 0) hx hb dX7_dense_59 (by decide +kernel) ?_
          refine lv_istore (lv' := [(7, .int 0), (6, .int 0), (5, .int (-1)), (0, .ref p0), (1, .int p1), (2, .int p2), (3, .int p3), (4, .int p4)]) hx hb dX7_dense_60 hl (by decide) rfl (fun ls hl => ?_)
          refine lv_iconst (v := 0) hx hb dX7_dense_62 (by decide +kernel) ?_
          refine lv_istore (lv' := [(8, .int 0), (7, .int 0), (6, .int 0), (5, .int (-1)), (0, .ref p0), (1, .int p1), (2, .int p2), (3, .int p3), (4, .int p4)]) hx hb dX7_dense_63 hl (by decide) rfl (fun ls hl => ?_)
          have key65 := blocks (fun n => ∀ (v65_5 : Int32) (v65_6 : Int32) (v65_7 : Int32) (v65_8 : Int32) (H : Heap) (lo : List Loc) (ls : Array Slot), (42 - v65_8.toInt).toNat = n → ((-1) ≤ v65_5.toInt ∧ v65_5.toInt ≤ 2147483647) → ((0) ≤ v65_6.toInt ∧ v65_6.toInt ≤ 101) → ((0) ≤ v65_7.toInt ∧ v65_7.toInt ≤ 41) → ((0) ≤ v65_8.toInt ∧ v65_8.toInt ≤ 41) → va_P (dC, dI) vwCl (Wd cs L K I J Q) H → va_S (fun _ => False) s.heap H lo → lv_has ls 11 [(0, .ref p0), (1, .int p1), (2, .int p2), (3, .int p3), (4, .int p4), (5, .int v65_5), (6, .int v65_6), (7, .int v65_7), (8, .int v65_8)] → W p l e R s m (([.ref p0, .int p1, .int p2, .int p3, .int p4] : List Value).toArray) below meth c H lo 0 0 Qz (F0 m 65 ls [])) (by
            intro n ih65
            intro v65_5 v65_6 v65_7 v65_8 H lo ls hmu65 bv65_5 bv65_6 bv65_7 bv65_8 hP hS hl
            refine lv_iload hx hb dX7_dense_65 (lv_at hl 8 rfl) ?_
            refine lv_iload_n hx hb dX7_dense_67 rfl (lv_at hl 3 rfl) ?_
            refine lv_iadd hx hb dX7_dense_68 ?_
            refine lv_topi (fun z68 ez68 => ?_)
            have bz68 := tq_add (k := v65_8.toInt) (q := p3.toInt) ez68 rfl rfl (by omega) (by omega)
            refine lv_aload_n hx hb dX7_dense_69 rfl (lv_at hl 0 rfl) ?_
            refine lv_iload_n hx hb dX7_dense_70 rfl (lv_at hl 1 rfl) ?_
            refine ro_i (va_runV (As := [.int p1]) (rest := [.int z68]) ⟨hx, hb, hml, hown, hts⟩ (s_X7_high l dC dI cs L K G Q hQ x0 m0 tx tm H.size I J hI p0 hLp0 hKp0 p1 ⟨by omega, by omega⟩) (cwV 1 hts (gV pq1372 pq1374 pq33 pq81 pq1375) rfl rfl rfl (by decide +kernel) ⟨(by rw [hR]; exact (Nat.le_of_ble_eq_true rfl)), (by rw [hR]; exact (Nat.le_of_ble_eq_true rfl))⟩) (sP_V hP hD hK hN hLp0 hKp0 rfl rfl) rfl rfl hl.1 rfl (lv_room (Nat.le_of_ble_eq_true rfl)) dX7_dense_71 ⟨(by rw [hR]; exact (Nat.le_of_ble_eq_true rfl)), (by rw [hR]; exact (Nat.le_of_ble_eq_true rfl))⟩) hS hP (fun z71 H locs hz71 hP hS => ?_)
            obtain ⟨bz71, fez71⟩ := hz71
            obtain rfl : z28 = z71 := fez28.trans fez71.symm
            refine lv_icmp_gt (tgt := 165) hx hb dX7_dense_74 (by decide) (fun c74 => ?_) (fun c74 => ?_)
            · have t74 := tq_lt (k := z28.toInt) (q := z68.toInt) c74 rfl rfl
              refine lv_iload hx hb dX7_dense_165 (lv_at hl 4 rfl) ?_
              refine lv_if_ne (tgt := 175) hx hb dX7_dense_167 (by decide) (fun c167 => ?_) (fun c167 => ?_)
              · have t167 := tq_ne (k := p4.toInt) (q := (0)) c167 rfl (by decide +kernel)
                refine lv_iload hx hb dX7_dense_175 (lv_at hl 4 rfl) ?_
                refine lv_iconst (v := 1) hx hb dX7_dense_177 (by decide +kernel) ?_
                refine lv_icmp_ne (tgt := 186) hx hb dX7_dense_178 (by decide) (fun c178 => ?_) (fun c178 => ?_)
                · have t178 := tq_ne (k := p4.toInt) (q := (1)) c178 rfl (by decide +kernel)
                  refine lv_iload hx hb dX7_dense_186 (lv_at hl 7 rfl) ?_
                  subst hR; subst hQz
                  exact W.iret (v := v65_7) hx hb hr (fun t ht hW => ⟨⟨v65_7, (), rfl, trivial, trivial⟩, hS.F ht⟩) hS.2.2 dX7_dense_188
                · have t178 := tq_eq (k := p4.toInt) (q := (1)) c178 rfl (by decide +kernel)
                  refine lv_iload hx hb dX7_dense_181 (lv_at hl 6 rfl) ?_
                  refine lv_goto (tgt := 188) hx hb dX7_dense_183 (by decide) ?_
                  subst hR; subst hQz
                  exact W.iret (v := v65_6) hx hb hr (fun t ht hW => ⟨⟨v65_6, (), rfl, trivial, trivial⟩, hS.F ht⟩) hS.2.2 dX7_dense_188
              · have t167 := tq_eq (k := p4.toInt) (q := (0)) c167 rfl (by decide +kernel)
                refine lv_iload hx hb dX7_dense_170 (lv_at hl 5 rfl) ?_
                refine lv_goto (tgt := 188) hx hb dX7_dense_172 (by decide) ?_
                subst hR; subst hQz
                exact W.iret (v := v65_5) hx hb hr (fun t ht hW => ⟨⟨v65_5, (), rfl, trivial, trivial⟩, hS.F ht⟩) hS.2.2 dX7_dense_188
            · have t74 := tq_nlt (k := z28.toInt) (q := z68.toInt) c74 rfl rfl
              refine lv_aload_n hx hb dX7_dense_77 rfl (lv_at hl 0 rfl) ?_
              refine lv_iload_n hx hb dX7_dense_78 rfl (lv_at hl 1 rfl) ?_
              refine lv_iconst (v := 0) hx hb dX7_dense_79 (by decide +kernel) ?_
              refine lv_iload hx hb dX7_dense_80 (lv_at hl 8 rfl) ?_
              refine lv_iload_n hx hb dX7_dense_82 rfl (lv_at hl 2 rfl) ?_
              refine lv_iload_n hx hb dX7_dense_83 rfl (lv_at hl 3 rfl) ?_
              refine ro_i (va_runV (As := [.int p1, .int 0, .int v65_8, .int p2, .int p3]) (rest := []) ⟨hx, hb, hml, hown, hts⟩ (s_X7_within l dC dI cs L K G Q hQ x0 m0 tx tm H.size I J hI p0 hLp0 hKp0 p1 ⟨by omega, by omega⟩ 0 v65_8 p2 p3) (cwV 5 hts (gV pq1682 pq1684 pq70 pq81 pq1685) rfl rfl rfl (by decide +kernel) ⟨(by rw [hR]; exact (Nat.le_of_ble_eq_true rfl)), (by rw [hR]; exact (Nat.le_of_ble_eq_true rfl))⟩) (sP_V hP hD hK hN hLp0 hKp0 rfl rfl) rfl rfl hl.1 rfl (lv_room (Nat.le_of_ble_eq_true rfl)) dX7_dense_84 ⟨(by rw [hR]; exact (Nat.le_of_ble_eq_true rfl)), (by rw [hR]; exact (Nat.le_of_ble_eq_true rfl))⟩) hS hP (fun z84 H locs hz84 hP hS => ?_)
              refine lv_istore (lv' := [(9, .int z84), (0, .ref p0), (1, .int p1), (2, .int p2), (3, .int p3), (4, .int p4), (5, .int v65_5), (6, .int v65_6), (7, .int v65_7), (8, .int v65_8)]) hx hb dX7_dense_87 hl (by decide) rfl (fun ls hl => ?_)
              refine lv_iconst (v := 0) hx hb dX7_dense_89 (by decide +kernel) ?_
              refine lv_istore (lv' := [(10, .int 0), (9, .int z84), (0, .ref p0), (1, .int p1), (2, .int p2), (3, .int p3), (4, .int p4), (5, .int v65_5), (6, .int v65_6), (7, .int v65_7), (8, .int v65_8)]) hx hb dX7_dense_90 hl (by decide) rfl (fun ls hl => ?_)
              have key92 := blocks (fun n => ∀ (v92_10 : Int32) (v92_5 : Int32) (v92_6 : Int32) (v92_7 : Int32) (v92_9 : Int32) (H : Heap) (lo : List Loc) (ls : Array Slot), (102 - v92_10.toInt).toNat = n → ((0) ≤ v92_10.toInt ∧ v92_10.toInt ≤ 101) → ((-1) ≤ v92_5.toInt ∧ v92_5.toInt ≤ 2147483647) → ((0) ≤ v92_6.toInt ∧ v92_6.toInt ≤ 101) → ((0) ≤ v92_7.toInt ∧ v92_7.toInt ≤ 41) → va_P (dC, dI) vwCl (Wd cs L K I J Q) H → va_S (fun _ => False) s.heap H lo → lv_has ls 11 [(0, .ref p0), (1, .int p1), (2, .int p2), (3, .int p3), (4, .int p4), (5, .int v92_5), (6, .int v92_6), (7, .int v92_7), (8, .int v65_8), (9, .int v92_9), (10, .int v92_10)] → W p l e R s m (([.ref p0, .int p1, .int p2, .int p3, .int p4] : List Value).toArray) below meth c H lo 0 0 Qz (F0 m 92 ls [])) (by
                intro n ih92
                intro v92_10 v92_5 v92_6 v92_7 v92_9 H lo ls hmu92 bv92_10 bv92_5 bv92_6 bv92_7 hP hS hl
                refine lv_iload hx hb dX7_dense_92 (lv_at hl 10 rfl) ?_
                refine lv_iload_n hx hb dX7_dense_94 rfl (lv_at hl 2 rfl) ?_
                refine lv_iadd hx hb dX7_dense_95 ?_
                refine lv_topi (fun z95 ez95 => ?_)
                have bz95 := tq_add (k := v92_10.toInt) (q := p2.toInt) ez95 rfl rfl (by omega) (by omega)
                refine lv_aload_n hx hb dX7_dense_96 rfl (lv_at hl 0 rfl) ?_
                refine lv_iload_n hx hb dX7_dense_97 rfl (lv_at hl 1 rfl) ?_
                refine ro_i (va_runV (As := [.int p1]) (rest := [.int z95]) ⟨hx, hb, hml, hown, hts⟩ (s_X7_wide l dC dI cs L K G Q hQ x0 m0 tx tm H.size I J hI p0 hLp0 hKp0 p1 ⟨by omega, by omega⟩) (cwV 1 hts (gV pq1368 pq1370 pq32 pq81 pq1371) rfl rfl rfl (by decide +kernel) ⟨(by rw [hR]; exact (Nat.le_of_ble_eq_true rfl)), (by rw [hR]; exact (Nat.le_of_ble_eq_true rfl))⟩) (sP_V hP hD hK hN hLp0 hKp0 rfl rfl) rfl rfl hl.1 rfl (lv_room (Nat.le_of_ble_eq_true rfl)) dX7_dense_98 ⟨(by rw [hR]; exact (Nat.le_of_ble_eq_true rfl)), (by rw [hR]; exact (Nat.le_of_ble_eq_true rfl))⟩) hS hP (fun z98 H locs hz98 hP hS => ?_)
                obtain ⟨bz98, fez98⟩ := hz98
                obtain rfl : z13 = z98 := fez13.trans fez98.symm
                refine lv_icmp_gt (tgt := 159) hx hb dX7_dense_101 (by decide) (fun c101 => ?_) (fun c101 => ?_)
                · have t101 := tq_lt (k := z13.toInt) (q := z95.toInt) c101 rfl rfl
                  obtain ⟨z159, ez159⟩ : ∃ y : Int32, y = v65_8 + 1 := ⟨_, rfl⟩
                  refine lv_iinc (v := z159) (lv' := [(8, .int z159), (0, .ref p0), (1, .int p1), (2, .int p2), (3, .int p3), (4, .int p4), (5, .int v92_5), (6, .int v92_6), (7, .int v92_7), (9, .int v92_9), (10, .int v92_10)]) hx hb dX7_dense_159 hl (k := 8) rfl (by rw [ez159]; rfl) (by decide) rfl (fun ls hl => ?_)
                  have bz159 := tq_add (k := v65_8.toInt) (q := 1) ez159 rfl (by decide +kernel) (by omega) (by omega)
                  refine lv_goto (tgt := 65) hx hb dX7_dense_162 (by decide) ?_
                  exact ih65 _ (by omega) v92_5 v92_6 v92_7 z159 _ _ _ rfl ⟨by omega, by have := fb_rng v92_5; omega⟩ ⟨by omega, by omega⟩ ⟨by omega, by omega⟩ ⟨by omega, by omega⟩ hP hS (lv_sub hl [1, 2, 3, 4, 5, 6, 7, 8, 0] rfl)
                · have t101 := tq_nlt (k := z13.toInt) (q := z95.toInt) c101 rfl rfl
                  refine lv_iload hx hb dX7_dense_104 (lv_at hl 9 rfl) ?_
                  refine lv_iload hx hb dX7_dense_106 (lv_at hl 5 rfl) ?_
                  have j123 : ∀ (v123_5 : Int32) (v123_6 : Int32) (v123_7 : Int32) (H : Heap) (lo : List Loc) (ls : Array Slot), ((-1) ≤ v123_5.toInt ∧ v123_5.toInt ≤ 2147483647) → ((0) ≤ v123_6.toInt ∧ v123_6.toInt ≤ 101) → ((0) ≤ v123_7.toInt ∧ v123_7.toInt ≤ 41) → va_P (dC, dI) vwCl (Wd cs L K I J Q) H → va_S (fun _ => False) s.heap H lo → lv_has ls 11 [(0, .ref p0), (1, .int p1), (2, .int p2), (3, .int p3), (4, .int p4), (5, .int v123_5), (6, .int v123_6), (7, .int v123_7), (8, .int v65_8), (9, .int v92_9), (10, .int v92_10)] → W p l e R s m (([.ref p0, .int p1, .int p2, .int p3, .int p4] : List Value).toArray) below meth c H lo 0 0 Qz (F0 m 123 ls []) := by
                    intro v123_5 v123_6 v123_7 H lo ls bv123_5 bv123_6 bv123_7 hP hS hl
                    refine lv_iload hx hb dX7_dense_123 (lv_at hl 9 rfl) ?_
                    refine lv_aload_n hx hb dX7_dense_125 rfl (lv_at hl 0 rfl) ?_
                    refine lv_iload_n hx hb dX7_dense_126 rfl (lv_at hl 1 rfl) ?_
                    refine lv_iload hx hb dX7_dense_127 (lv_at hl 10 rfl) ?_
                    refine lv_iload_n hx hb dX7_dense_129 rfl (lv_at hl 2 rfl) ?_
                    refine lv_iadd hx hb dX7_dense_130 ?_
                    refine lv_topi (fun z130 ez130 => ?_)
                    have bz130 := tq_add (k := v92_10.toInt) (q := p2.toInt) ez130 rfl rfl (by omega) (by omega)
                    refine lv_iload hx hb dX7_dense_131 (lv_at hl 8 rfl) ?_
                    refine lv_iconst (v := 1) hx hb dX7_dense_133 (by decide +kernel) ?_
                    refine lv_iload_n hx hb dX7_dense_134 rfl (lv_at hl 3 rfl) ?_
                    refine ro_i (va_runV (As := [.int p1, .int z130, .int v65_8, .int 1, .int p3]) (rest := [.int v92_9]) ⟨hx, hb, hml, hown, hts⟩ (s_X7_within l dC dI cs L K G Q hQ x0 m0 tx tm H.size I J hI p0 hLp0 hKp0 p1 ⟨by omega, by omega⟩ z130 v65_8 1 p3) (cwV 5 hts (gV pq1682 pq1684 pq70 pq81 pq1685) rfl rfl rfl (by decide +kernel) ⟨(by rw [hR]; exact (Nat.le_of_ble_eq_true rfl)), (by rw [hR]; exact (Nat.le_of_ble_eq_true rfl))⟩) (sP_V hP hD hK hN hLp0 hKp0 rfl rfl) rfl rfl hl.1 rfl (lv_room (Nat.le_of_ble_eq_true rfl)) dX7_dense_135 ⟨(by rw [hR]; exact (Nat.le_of_ble_eq_true rfl)), (by rw [hR]; exact (Nat.le_of_ble_eq_true rfl))⟩) hS hP (fun z135 H locs hz135 hP hS => ?_)
                    refine lv_aload_n hx hb dX7_dense_138 rfl (lv_at hl 0 rfl) ?_
                    refine lv_iload_n hx hb dX7_dense_139 rfl (lv_at hl 1 rfl) ?_
                    refine lv_iload hx hb dX7_dense_140 (lv_at hl 10 rfl) ?_
                    refine lv_iload hx hb dX7_dense_142 (lv_at hl 8 rfl) ?_
                    refine lv_iconst (v := 1) hx hb dX7_dense_144 (by decide +kernel) ?_
                    refine lv_iload_n hx hb dX7_dense_145 rfl (lv_at hl 3 rfl) ?_
                    refine ro_i (va_runV (As := [.int p1, .int v92_10, .int v65_8, .int 1, .int p3]) (rest := [.int z135, .int v92_9]) ⟨hx, hb, hml, hown, hts⟩ (s_X7_within l dC dI cs L K G Q hQ x0 m0 tx tm H.size I J hI p0 hLp0 hKp0 p1 ⟨by omega, by omega⟩ v92_10 v65_8 1 p3) (cwV 5 hts (gV pq1682 pq1684 pq70 pq81 pq1685) rfl rfl rfl (by decide +kernel) ⟨(by rw [hR]; exact (Nat.le_of_ble_eq_true rfl)), (by rw [hR]; exact (Nat.le_of_ble_eq_true rfl))⟩) (sP_V hP hD hK hN hLp0 hKp0 rfl rfl) rfl rfl hl.1 rfl (lv_room (Nat.le_of_ble_eq_true rfl)) dX7_dense_146 ⟨(by rw [hR]; exact (Nat.le_of_ble_eq_true rfl)), (by rw [hR]; exact (Nat.le_of_ble_eq_true rfl))⟩) hS hP (fun z146 H locs hz146 hP hS => ?_)
                    refine lv_isub hx hb dX7_dense_149 ?_
                    refine lv_topi (fun z149 ez149 => ?_)
                    refine lv_iadd hx hb dX7_dense_150 ?_
                    refine lv_topi (fun z150 ez150 => ?_)
                    refine lv_istore (lv' := [(9, .int z150), (0, .ref p0), (1, .int p1), (2, .int p2), (3, .int p3), (4, .int p4), (5, .int v123_5), (6, .int v123_6), (7, .int v123_7), (8, .int v65_8), (10, .int v92_10)]) hx hb dX7_dense_151 hl (by decide) rfl (fun ls hl => ?_)
                    obtain ⟨z153, ez153⟩ : ∃ y : Int32, y = v92_10 + 1 := ⟨_, rfl⟩
                    refine lv_iinc (v := z153) (lv' := [(10, .int z153), (9, .int z150), (0, .ref p0), (1, .int p1), (2, .int p2), (3, .int p3), (4, .int p4), (5, .int v123_5), (6, .int v123_6), (7, .int v123_7), (8, .int v65_8)]) hx hb dX7_dense_153 hl (k := 10) rfl (by rw [ez153]; rfl) (by decide) rfl (fun ls hl => ?_)
                    have bz153 := tq_add (k := v92_10.toInt) (q := 1) ez153 rfl (by decide +kernel) (by omega) (by omega)
                    refine lv_goto (tgt := 92) hx hb dX7_dense_156 (by decide) ?_
                    exact ih92 _ (by omega) z153 v123_5 v123_6 v123_7 z150 _ _ _ rfl ⟨by omega, by omega⟩ ⟨by omega, by have := fb_rng v123_5; omega⟩ ⟨by omega, by omega⟩ ⟨by omega, by omega⟩ hP hS (lv_sub hl [2, 3, 4, 5, 6, 7, 8, 9, 10, 1, 0] rfl)
                  refine lv_icmp_le (tgt := 123) hx hb dX7_dense_108 (by decide) (fun c108 => ?_) (fun c108 => ?_)
                  · have t108 := tq_le (k := v92_9.toInt) (q := v92_5.toInt) c108 rfl rfl
                    exact j123 v92_5 v92_6 v92_7 _ _ _ ⟨by omega, by have := fb_rng v92_5; omega⟩ ⟨by omega, by omega⟩ ⟨by omega, by omega⟩ hP hS (lv_sub hl [0, 1, 2, 3, 4, 5, 6, 7, 8, 9, 10] rfl)
                  · have t108 := tq_nle (k := v92_9.toInt) (q := v92_5.toInt) c108 rfl rfl
                    have rg108v92_9 := fb_rng v92_9
                    have rg108v92_5 := fb_rng v92_5
                    refine lv_iload hx hb dX7_dense_111 (lv_at hl 9 rfl) ?_
                    refine lv_istore (lv' := [(5, .int v92_9), (0, .ref p0), (1, .int p1), (2, .int p2), (3, .int p3), (4, .int p4), (6, .int v92_6), (7, .int v92_7), (8, .int v65_8), (9, .int v92_9), (10, .int v92_10)]) hx hb dX7_dense_113 hl (by decide) rfl (fun ls hl => ?_)
                    refine lv_iload hx hb dX7_dense_115 (lv_at hl 10 rfl) ?_
                    refine lv_istore (lv' := [(6, .int v92_10), (5, .int v92_9), (0, .ref p0), (1, .int p1), (2, .int p2), (3, .int p3), (4, .int p4), (7, .int v92_7), (8, .int v65_8), (9, .int v92_9), (10, .int v92_10)]) hx hb dX7_dense_117 hl (by decide) rfl (fun ls hl => ?_)
                    refine lv_iload hx hb dX7_dense_119 (lv_at hl 8 rfl) ?_
                    refine lv_istore (lv' := [(7, .int v65_8), (6, .int v92_10), (5, .int v92_9), (0, .ref p0), (1, .int p1), (2, .int p2), (3, .int p3), (4, .int p4), (8, .int v65_8), (9, .int v92_9), (10, .int v92_10)]) hx hb dX7_dense_121 hl (by decide) rfl (fun ls hl => ?_)
                    exact j123 v92_9 v92_10 v65_8 _ _ _ ⟨by omega, by have := fb_rng v92_9; omega⟩ ⟨by omega, by omega⟩ ⟨by omega, by omega⟩ hP hS (lv_sub hl [3, 4, 5, 6, 7, 2, 1, 0, 8, 9, 10] rfl))
              exact key92 _ 0 v65_5 v65_6 v65_7 z84 _ _ _ rfl ⟨by decide +kernel, by decide +kernel⟩ ⟨by omega, by have := fb_rng v65_5; omega⟩ ⟨by omega, by omega⟩ ⟨by omega, by omega⟩ hP hS (lv_sub hl [2, 3, 4, 5, 6, 7, 8, 9, 10, 1, 0] rfl))
          exact key65 _ (-1) 0 0 0 _ _ _ rfl ⟨by decide +kernel, by decide +kernel⟩ ⟨by decide +kernel, by decide +kernel⟩ ⟨by decide +kernel, by decide +kernel⟩ ⟨by decide +kernel, by decide +kernel⟩ hP hS (lv_sub hl [4, 5, 6, 7, 8, 3, 2, 1, 0] rfl)
        · have t48 := tq_eq (k := z45.toInt) (q := (0)) c48 rfl (by decide +kernel)
          refine lv_iconst (v := (-1)) hx hb dX7_dense_51 (by decide +kernel) ?_
          subst hR; subst hQz
          exact W.iret (v := (-1)) hx hb hr (fun t ht hW => ⟨⟨(-1), (), rfl, trivial, trivial⟩, hS.F ht⟩) hS.2.2 dX7_dense_52
