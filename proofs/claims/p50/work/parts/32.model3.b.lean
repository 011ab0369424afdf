def yX7_masksMeet : MethodName := ⟨RX7, "masksMeet", "(IIII)Z"⟩
abbrev cX7_masksMeet : ByteArray := prog_9_method_111_code
abbrev cX7_best : ByteArray := prog_9_method_106_code
abbrev cX7_shifts : ByteArray := prog_9_method_112_code
abbrev cX7_slope : ByteArray := prog_9_method_107_code
def yX7_best : MethodName := ⟨RX7, "best", "(III)I"⟩
def yX7_shifts : MethodName := ⟨RX7, "shifts", "(II)I"⟩
def yX7_slope : MethodName := ⟨RX7, "slope", "(III)I"⟩
theorem dX7_best_0 : decode cX7_best 0 = .ok (.aload_n 0, 1) := by decide +kernel
theorem dX7_best_1 : decode cX7_best 1 = .ok (.iload_n 1, 1) := by decide +kernel
theorem dX7_best_2 : decode cX7_best 2 = .ok (.iload_n 2, 1) := by decide +kernel
theorem dX7_best_3 : decode cX7_best 3 = .ok (.invokevirtual 382, 3) := by decide +kernel
theorem dX7_best_6 : decode cX7_best 6 = .ok (.ifCond .eq 15, 3) := by decide +kernel
theorem dX7_best_9 : decode cX7_best 9 = .ok (.iload_n 3, 1) := by decide +kernel
theorem dX7_best_10 : decode cX7_best 10 = .ok (.i2l, 1) := by decide +kernel
theorem dX7_best_11 : decode cX7_best 11 = .ok (.lconst 0, 1) := by decide +kernel
theorem dX7_best_12 : decode cX7_best 12 = .ok (.ldc2_w 394, 3) := by decide +kernel
theorem dX7_best_15 : decode cX7_best 15 = .ok (.invokestatic 96, 3) := by decide +kernel
theorem dX7_best_18 : decode cX7_best 18 = .ok (.ifCond .ne 7, 3) := by decide +kernel
theorem dX7_best_21 : decode cX7_best 21 = .ok (.sipush (-2000), 3) := by decide +kernel
theorem dX7_best_24 : decode cX7_best 24 = .ok (.ireturn, 1) := by decide +kernel
theorem dX7_best_25 : decode cX7_best 25 = .ok (.aload_n 0, 1) := by decide +kernel
theorem dX7_best_26 : decode cX7_best 26 = .ok (.invokevirtual 331, 3) := by decide +kernel
theorem dX7_best_29 : decode cX7_best 29 = .ok (.iconst 0, 1) := by decide +kernel
theorem dX7_best_30 : decode cX7_best 30 = .ok (.istore 4, 2) := by decide +kernel
theorem dX7_best_32 : decode cX7_best 32 = .ok (.aload_n 0, 1) := by decide +kernel
theorem dX7_best_33 : decode cX7_best 33 = .ok (.iload_n 1, 1) := by decide +kernel
theorem dX7_best_34 : decode cX7_best 34 = .ok (.iconst 1, 1) := by decide +kernel
theorem dX7_best_35 : decode cX7_best 35 = .ok (.invokevirtual 199, 3) := by decide +kernel
theorem dX7_best_38 : decode cX7_best 38 = .ok (.istore 5, 2) := by decide +kernel
theorem dX7_best_40 : decode cX7_best 40 = .ok (.aload_n 0, 1) := by decide +kernel
theorem dX7_best_41 : decode cX7_best 41 = .ok (.iload_n 1, 1) := by decide +kernel
theorem dX7_best_42 : decode cX7_best 42 = .ok (.iconst 2, 1) := by decide +kernel
theorem dX7_best_43 : decode cX7_best 43 = .ok (.invokevirtual 199, 3) := by decide +kernel
theorem dX7_best_46 : decode cX7_best 46 = .ok (.istore 6, 2) := by decide +kernel
theorem dX7_best_48 : decode cX7_best 48 = .ok (.aload_n 0, 1) := by decide +kernel
theorem dX7_best_49 : decode cX7_best 49 = .ok (.iload_n 2, 1) := by decide +kernel
theorem dX7_best_50 : decode cX7_best 50 = .ok (.iconst 2, 1) := by decide +kernel
theorem dX7_best_51 : decode cX7_best 51 = .ok (.invokevirtual 199, 3) := by decide +kernel
theorem dX7_best_54 : decode cX7_best 54 = .ok (.aload_n 0, 1) := by decide +kernel
theorem dX7_best_55 : decode cX7_best 55 = .ok (.aload_n 0, 1) := by decide +kernel
theorem dX7_best_56 : decode cX7_best 56 = .ok (.iload_n 1, 1) := by decide +kernel
theorem dX7_best_57 : decode cX7_best 57 = .ok (.invokevirtual 212, 3) := by decide +kernel
theorem dX7_best_60 : decode cX7_best 60 = .ok (.invokevirtual 205, 3) := by decide +kernel
theorem dX7_best_63 : decode cX7_best 63 = .ok (.isub, 1) := by decide +kernel
theorem dX7_best_64 : decode cX7_best 64 = .ok (.iconst 1, 1) := by decide +kernel
theorem dX7_best_65 : decode cX7_best 65 = .ok (.iadd, 1) := by decide +kernel
theorem dX7_best_66 : decode cX7_best 66 = .ok (.istore 7, 2) := by decide +kernel
theorem dX7_best_68 : decode cX7_best 68 = .ok (.iload 7, 2) := by decide +kernel
theorem dX7_best_70 : decode cX7_best 70 = .ok (.aload_n 0, 1) := by decide +kernel
theorem dX7_best_71 : decode cX7_best 71 = .ok (.iload_n 2, 1) := by decide +kernel
theorem dX7_best_72 : decode cX7_best 72 = .ok (.iconst 2, 1) := by decide +kernel
theorem dX7_best_73 : decode cX7_best 73 = .ok (.invokevirtual 199, 3) := by decide +kernel
theorem dX7_best_76 : decode cX7_best 76 = .ok (.aload_n 0, 1) := by decide +kernel
theorem dX7_best_77 : decode cX7_best 77 = .ok (.aload_n 0, 1) := by decide +kernel
theorem dX7_best_78 : decode cX7_best 78 = .ok (.iload_n 2, 1) := by decide +kernel
theorem dX7_best_79 : decode cX7_best 79 = .ok (.invokevirtual 212, 3) := by decide +kernel
theorem dX7_best_82 : decode cX7_best 82 = .ok (.invokevirtual 205, 3) := by decide +kernel
theorem dX7_best_85 : decode cX7_best 85 = .ok (.iadd, 1) := by decide +kernel
theorem dX7_best_86 : decode cX7_best 86 = .ok (.if_icmp .ge 101, 3) := by decide +kernel
theorem dX7_best_89 : decode cX7_best 89 = .ok (.aload_n 0, 1) := by decide +kernel
theorem dX7_best_90 : decode cX7_best 90 = .ok (.iload_n 2, 1) := by decide +kernel
theorem dX7_best_91 : decode cX7_best 91 = .ok (.iconst 1, 1) := by decide +kernel
theorem dX7_best_92 : decode cX7_best 92 = .ok (.invokevirtual 199, 3) := by decide +kernel
theorem dX7_best_95 : decode cX7_best 95 = .ok (.aload_n 0, 1) := by decide +kernel
theorem dX7_best_96 : decode cX7_best 96 = .ok (.aload_n 0, 1) := by decide +kernel
theorem dX7_best_97 : decode cX7_best 97 = .ok (.iload_n 1, 1) := by decide +kernel
theorem dX7_best_98 : decode cX7_best 98 = .ok (.invokevirtual 212, 3) := by decide +kernel
theorem dX7_best_101 : decode cX7_best 101 = .ok (.invokevirtual 202, 3) := by decide +kernel
theorem dX7_best_104 : decode cX7_best 104 = .ok (.isub, 1) := by decide +kernel
theorem dX7_best_105 : decode cX7_best 105 = .ok (.iconst 1, 1) := by decide +kernel
theorem dX7_best_106 : decode cX7_best 106 = .ok (.iadd, 1) := by decide +kernel
theorem dX7_best_107 : decode cX7_best 107 = .ok (.istore 8, 2) := by decide +kernel
theorem dX7_best_109 : decode cX7_best 109 = .ok (.iload 8, 2) := by decide +kernel
theorem dX7_best_111 : decode cX7_best 111 = .ok (.aload_n 0, 1) := by decide +kernel
theorem dX7_best_112 : decode cX7_best 112 = .ok (.iload_n 2, 1) := by decide +kernel
theorem dX7_best_113 : decode cX7_best 113 = .ok (.iconst 1, 1) := by decide +kernel
theorem dX7_best_114 : decode cX7_best 114 = .ok (.invokevirtual 199, 3) := by decide +kernel
theorem dX7_best_117 : decode cX7_best 117 = .ok (.aload_n 0, 1) := by decide +kernel
theorem dX7_best_118 : decode cX7_best 118 = .ok (.aload_n 0, 1) := by decide +kernel
theorem dX7_best_119 : decode cX7_best 119 = .ok (.iload_n 2, 1) := by decide +kernel
theorem dX7_best_120 : decode cX7_best 120 = .ok (.invokevirtual 212, 3) := by decide +kernel
theorem dX7_best_123 : decode cX7_best 123 = .ok (.invokevirtual 202, 3) := by decide +kernel
theorem dX7_best_126 : decode cX7_best 126 = .ok (.iadd, 1) := by decide +kernel
theorem dX7_best_127 : decode cX7_best 127 = .ok (.if_icmp .ge 54, 3) := by decide +kernel
theorem dX7_best_130 : decode cX7_best 130 = .ok (.aload_n 0, 1) := by decide +kernel
theorem dX7_best_131 : decode cX7_best 131 = .ok (.iload_n 1, 1) := by decide +kernel
theorem dX7_best_132 : decode cX7_best 132 = .ok (.iload_n 2, 1) := by decide +kernel
theorem dX7_best_133 : decode cX7_best 133 = .ok (.iload 8, 2) := by decide +kernel
theorem dX7_best_135 : decode cX7_best 135 = .ok (.aload_n 0, 1) := by decide +kernel
theorem dX7_best_136 : decode cX7_best 136 = .ok (.iload_n 1, 1) := by decide +kernel
theorem dX7_best_137 : decode cX7_best 137 = .ok (.iconst 1, 1) := by decide +kernel
theorem dX7_best_138 : decode cX7_best 138 = .ok (.invokevirtual 199, 3) := by decide +kernel
theorem dX7_best_141 : decode cX7_best 141 = .ok (.isub, 1) := by decide +kernel
theorem dX7_best_142 : decode cX7_best 142 = .ok (.iload 7, 2) := by decide +kernel
theorem dX7_best_144 : decode cX7_best 144 = .ok (.aload_n 0, 1) := by decide +kernel
theorem dX7_best_145 : decode cX7_best 145 = .ok (.iload_n 1, 1) := by decide +kernel
theorem dX7_best_146 : decode cX7_best 146 = .ok (.iconst 2, 1) := by decide +kernel
theorem dX7_best_147 : decode cX7_best 147 = .ok (.invokevirtual 199, 3) := by decide +kernel
theorem dX7_best_150 : decode cX7_best 150 = .ok (.isub, 1) := by decide +kernel
theorem dX7_best_151 : decode cX7_best 151 = .ok (.invokevirtual 385, 3) := by decide +kernel
theorem dX7_best_154 : decode cX7_best 154 = .ok (.istore 9, 2) := by decide +kernel
theorem dX7_best_156 : decode cX7_best 156 = .ok (.iload 9, 2) := by decide +kernel
theorem dX7_best_158 : decode cX7_best 158 = .ok (.iload 4, 2) := by decide +kernel
theorem dX7_best_160 : decode cX7_best 160 = .ok (.if_icmp .le 15, 3) := by decide +kernel
theorem dX7_best_163 : decode cX7_best 163 = .ok (.iload 9, 2) := by decide +kernel
theorem dX7_best_165 : decode cX7_best 165 = .ok (.istore 4, 2) := by decide +kernel
theorem dX7_best_167 : decode cX7_best 167 = .ok (.iload 8, 2) := by decide +kernel
theorem dX7_best_169 : decode cX7_best 169 = .ok (.istore 5, 2) := by decide +kernel
theorem dX7_best_171 : decode cX7_best 171 = .ok (.iload 7, 2) := by decide +kernel
theorem dX7_best_173 : decode cX7_best 173 = .ok (.istore 6, 2) := by decide +kernel
theorem dX7_best_175 : decode cX7_best 175 = .ok (.iinc 8 1, 3) := by decide +kernel
theorem dX7_best_178 : decode cX7_best 178 = .ok (.goto (-69), 3) := by decide +kernel
theorem dX7_best_181 : decode cX7_best 181 = .ok (.iinc 7 1, 3) := by decide +kernel
theorem dX7_best_184 : decode cX7_best 184 = .ok (.goto (-116), 3) := by decide +kernel
theorem dX7_best_187 : decode cX7_best 187 = .ok (.iload_n 3, 1) := by decide +kernel
theorem dX7_best_188 : decode cX7_best 188 = .ok (.ifCond .ne 8, 3) := by decide +kernel
theorem dX7_best_191 : decode cX7_best 191 = .ok (.iload 4, 2) := by decide +kernel
theorem dX7_best_193 : decode cX7_best 193 = .ok (.goto 15, 3) := by decide +kernel
theorem dX7_best_196 : decode cX7_best 196 = .ok (.iload_n 3, 1) := by decide +kernel
theorem dX7_best_197 : decode cX7_best 197 = .ok (.iconst 1, 1) := by decide +kernel
theorem dX7_best_198 : decode cX7_best 198 = .ok (.if_icmp .ne 8, 3) := by decide +kernel
theorem dX7_best_201 : decode cX7_best 201 = .ok (.iload 5, 2) := by decide +kernel
theorem dX7_best_203 : decode cX7_best 203 = .ok (.goto 5, 3) := by decide +kernel
theorem dX7_best_206 : decode cX7_best 206 = .ok (.iload 6, 2) := by decide +kernel
theorem dX7_best_208 : decode cX7_best 208 = .ok (.ireturn, 1) := by decide +kernel
theorem dX7_masksMeet_0 : decode cX7_masksMeet 0 = .ok (.iconst 0, 1) := by decide +kernel
theorem dX7_masksMeet_1 : decode cX7_masksMeet 1 = .ok (.iload 4, 2) := by decide +kernel
theorem dX7_masksMeet_3 : decode cX7_masksMeet 3 = .ok (.ineg, 1) := by decide +kernel
theorem dX7_masksMeet_4 : decode cX7_masksMeet 4 = .ok (.invokestatic 219, 3) := by decide +kernel
theorem dX7_masksMeet_7 : decode cX7_masksMeet 7 = .ok (.istore 5, 2) := by decide +kernel
theorem dX7_masksMeet_9 : decode cX7_masksMeet 9 = .ok (.iload 5, 2) := by decide +kernel
theorem dX7_masksMeet_11 : decode cX7_masksMeet 11 = .ok (.aload_n 0, 1) := by decide +kernel
theorem dX7_masksMeet_12 : decode cX7_masksMeet 12 = .ok (.iload_n 1, 1) := by decide +kernel
theorem dX7_masksMeet_13 : decode cX7_masksMeet 13 = .ok (.invokevirtual 205, 3) := by decide +kernel
theorem dX7_masksMeet_16 : decode cX7_masksMeet 16 = .ok (.if_icmp .ge 117, 3) := by decide +kernel
theorem dX7_masksMeet_19 : decode cX7_masksMeet 19 = .ok (.iload 5, 2) := by decide +kernel
theorem dX7_masksMeet_21 : decode cX7_masksMeet 21 = .ok (.iload 4, 2) := by decide +kernel
theorem dX7_masksMeet_23 : decode cX7_masksMeet 23 = .ok (.iadd, 1) := by decide +kernel
theorem dX7_masksMeet_24 : decode cX7_masksMeet 24 = .ok (.aload_n 0, 1) := by decide +kernel
theorem dX7_masksMeet_25 : decode cX7_masksMeet 25 = .ok (.iload_n 2, 1) := by decide +kernel
theorem dX7_masksMeet_26 : decode cX7_masksMeet 26 = .ok (.invokevirtual 205, 3) := by decide +kernel
theorem dX7_masksMeet_29 : decode cX7_masksMeet 29 = .ok (.if_icmp .ge 104, 3) := by decide +kernel
theorem dX7_masksMeet_32 : decode cX7_masksMeet 32 = .ok (.bipush 80, 2) := by decide +kernel
theorem dX7_masksMeet_34 : decode cX7_masksMeet 34 = .ok (.iload_n 1, 1) := by decide +kernel
theorem dX7_masksMeet_35 : decode cX7_masksMeet 35 = .ok (.imul, 1) := by decide +kernel
theorem dX7_masksMeet_36 : decode cX7_masksMeet 36 = .ok (.iconst 2, 1) := by decide +kernel
theorem dX7_masksMeet_37 : decode cX7_masksMeet 37 = .ok (.iload 5, 2) := by decide +kernel
theorem dX7_masksMeet_39 : decode cX7_masksMeet 39 = .ok (.imul, 1) := by decide +kernel
theorem dX7_masksMeet_40 : decode cX7_masksMeet 40 = .ok (.iadd, 1) := by decide +kernel
theorem dX7_masksMeet_41 : decode cX7_masksMeet 41 = .ok (.istore 6, 2) := by decide +kernel
theorem dX7_masksMeet_43 : decode cX7_masksMeet 43 = .ok (.bipush 80, 2) := by decide +kernel
theorem dX7_masksMeet_45 : decode cX7_masksMeet 45 = .ok (.iload_n 2, 1) := by decide +kernel
theorem dX7_masksMeet_46 : decode cX7_masksMeet 46 = .ok (.imul, 1) := by decide +kernel
theorem dX7_masksMeet_47 : decode cX7_masksMeet 47 = .ok (.iconst 2, 1) := by decide +kernel
theorem dX7_masksMeet_48 : decode cX7_masksMeet 48 = .ok (.iload 5, 2) := by decide +kernel
theorem dX7_masksMeet_50 : decode cX7_masksMeet 50 = .ok (.iload 4, 2) := by decide +kernel
theorem dX7_masksMeet_52 : decode cX7_masksMeet 52 = .ok (.iadd, 1) := by decide +kernel
theorem dX7_masksMeet_53 : decode cX7_masksMeet 53 = .ok (.imul, 1) := by decide +kernel
theorem dX7_masksMeet_54 : decode cX7_masksMeet 54 = .ok (.iadd, 1) := by decide +kernel
theorem dX7_masksMeet_55 : decode cX7_masksMeet 55 = .ok (.istore 7, 2) := by decide +kernel
theorem dX7_masksMeet_57 : decode cX7_masksMeet 57 = .ok (.aload_n 0, 1) := by decide +kernel
theorem dX7_masksMeet_58 : decode cX7_masksMeet 58 = .ok (.getfield 25, 3) := by decide +kernel
theorem dX7_masksMeet_61 : decode cX7_masksMeet 61 = .ok (.iload 6, 2) := by decide +kernel
theorem dX7_masksMeet_63 : decode cX7_masksMeet 63 = .ok (.laload, 1) := by decide +kernel
theorem dX7_masksMeet_64 : decode cX7_masksMeet 64 = .ok (.aload_n 0, 1) := by decide +kernel
theorem dX7_masksMeet_65 : decode cX7_masksMeet 65 = .ok (.getfield 25, 3) := by decide +kernel
theorem dX7_masksMeet_68 : decode cX7_masksMeet 68 = .ok (.iload 6, 2) := by decide +kernel
theorem dX7_masksMeet_70 : decode cX7_masksMeet 70 = .ok (.iconst 1, 1) := by decide +kernel
theorem dX7_masksMeet_71 : decode cX7_masksMeet 71 = .ok (.iadd, 1) := by decide +kernel
theorem dX7_masksMeet_72 : decode cX7_masksMeet 72 = .ok (.laload, 1) := by decide +kernel
theorem dX7_masksMeet_73 : decode cX7_masksMeet 73 = .ok (.iload_n 3, 1) := by decide +kernel
theorem dX7_masksMeet_74 : decode cX7_masksMeet 74 = .ok (.invokestatic 222, 3) := by decide +kernel
theorem dX7_masksMeet_77 : decode cX7_masksMeet 77 = .ok (.aload_n 0, 1) := by decide +kernel
theorem dX7_masksMeet_78 : decode cX7_masksMeet 78 = .ok (.getfield 25, 3) := by decide +kernel
theorem dX7_masksMeet_81 : decode cX7_masksMeet 81 = .ok (.iload 7, 2) := by decide +kernel
theorem dX7_masksMeet_83 : decode cX7_masksMeet 83 = .ok (.laload, 1) := by decide +kernel
theorem dX7_masksMeet_84 : decode cX7_masksMeet 84 = .ok (.land, 1) := by decide +kernel
theorem dX7_masksMeet_85 : decode cX7_masksMeet 85 = .ok (.lconst 0, 1) := by decide +kernel
theorem dX7_masksMeet_86 : decode cX7_masksMeet 86 = .ok (.lcmp, 1) := by decide +kernel
theorem dX7_masksMeet_87 : decode cX7_masksMeet 87 = .ok (.ifCond .ne 38, 3) := by decide +kernel
theorem dX7_masksMeet_90 : decode cX7_masksMeet 90 = .ok (.aload_n 0, 1) := by decide +kernel
theorem dX7_masksMeet_91 : decode cX7_masksMeet 91 = .ok (.getfield 25, 3) := by decide +kernel
theorem dX7_masksMeet_94 : decode cX7_masksMeet 94 = .ok (.iload 6, 2) := by decide +kernel
theorem dX7_masksMeet_96 : decode cX7_masksMeet 96 = .ok (.laload, 1) := by decide +kernel
theorem dX7_masksMeet_97 : decode cX7_masksMeet 97 = .ok (.aload_n 0, 1) := by decide +kernel
theorem dX7_masksMeet_98 : decode cX7_masksMeet 98 = .ok (.getfield 25, 3) := by decide +kernel
theorem dX7_masksMeet_101 : decode cX7_masksMeet 101 = .ok (.iload 6, 2) := by decide +kernel
theorem dX7_masksMeet_103 : decode cX7_masksMeet 103 = .ok (.iconst 1, 1) := by decide +kernel
theorem dX7_masksMeet_104 : decode cX7_masksMeet 104 = .ok (.iadd, 1) := by decide +kernel
theorem dX7_masksMeet_105 : decode cX7_masksMeet 105 = .ok (.laload, 1) := by decide +kernel
theorem dX7_masksMeet_106 : decode cX7_masksMeet 106 = .ok (.iload_n 3, 1) := by decide +kernel
theorem dX7_masksMeet_107 : decode cX7_masksMeet 107 = .ok (.invokestatic 232, 3) := by decide +kernel
theorem dX7_masksMeet_110 : decode cX7_masksMeet 110 = .ok (.aload_n 0, 1) := by decide +kernel
theorem dX7_masksMeet_111 : decode cX7_masksMeet 111 = .ok (.getfield 25, 3) := by decide +kernel
theorem dX7_masksMeet_114 : decode cX7_masksMeet 114 = .ok (.iload 7, 2) := by decide +kernel
theorem dX7_masksMeet_116 : decode cX7_masksMeet 116 = .ok (.iconst 1, 1) := by decide +kernel
theorem dX7_masksMeet_117 : decode cX7_masksMeet 117 = .ok (.iadd, 1) := by decide +kernel
theorem dX7_masksMeet_118 : decode cX7_masksMeet 118 = .ok (.laload, 1) := by decide +kernel
theorem dX7_masksMeet_119 : decode cX7_masksMeet 119 = .ok (.land, 1) := by decide +kernel
theorem dX7_masksMeet_120 : decode cX7_masksMeet 120 = .ok (.lconst 0, 1) := by decide +kernel
theorem dX7_masksMeet_121 : decode cX7_masksMeet 121 = .ok (.lcmp, 1) := by decide +kernel
theorem dX7_masksMeet_122 : decode cX7_masksMeet 122 = .ok (.ifCond .eq 5, 3) := by decide +kernel
theorem dX7_masksMeet_125 : decode cX7_masksMeet 125 = .ok (.iconst 1, 1) := by decide +kernel
theorem dX7_masksMeet_126 : decode cX7_masksMeet 126 = .ok (.ireturn, 1) := by decide +kernel
theorem dX7_masksMeet_127 : decode cX7_masksMeet 127 = .ok (.iinc 5 1, 3) := by decide +kernel
theorem dX7_masksMeet_130 : decode cX7_masksMeet 130 = .ok (.goto (-121), 3) := by decide +kernel
theorem dX7_masksMeet_133 : decode cX7_masksMeet 133 = .ok (.iconst 0, 1) := by decide +kernel
theorem dX7_masksMeet_134 : decode cX7_masksMeet 134 = .ok (.ireturn, 1) := by decide +kernel
theorem dX7_shifts_0 : decode cX7_shifts 0 = .ok (.aload_n 0, 1) := by decide +kernel
theorem dX7_shifts_1 : decode cX7_shifts 1 = .ok (.iload_n 1, 1) := by decide +kernel
theorem dX7_shifts_2 : decode cX7_shifts 2 = .ok (.invokevirtual 301, 3) := by decide +kernel
theorem dX7_shifts_5 : decode cX7_shifts 5 = .ok (.ifCond .eq 11, 3) := by decide +kernel
theorem dX7_shifts_8 : decode cX7_shifts 8 = .ok (.aload_n 0, 1) := by decide +kernel
theorem dX7_shifts_9 : decode cX7_shifts 9 = .ok (.iload_n 2, 1) := by decide +kernel
theorem dX7_shifts_10 : decode cX7_shifts 10 = .ok (.invokevirtual 301, 3) := by decide +kernel
theorem dX7_shifts_13 : decode cX7_shifts 13 = .ok (.ifCond .ne 5, 3) := by decide +kernel
theorem dX7_shifts_16 : decode cX7_shifts 16 = .ok (.iconst (-1), 1) := by decide +kernel
theorem dX7_shifts_17 : decode cX7_shifts 17 = .ok (.ireturn, 1) := by decide +kernel
theorem dX7_shifts_18 : decode cX7_shifts 18 = .ok (.iconst 0, 1) := by decide +kernel
theorem dX7_shifts_19 : decode cX7_shifts 19 = .ok (.istore_n 3, 1) := by decide +kernel
theorem dX7_shifts_20 : decode cX7_shifts 20 = .ok (.iconst 1, 1) := by decide +kernel
theorem dX7_shifts_21 : decode cX7_shifts 21 = .ok (.aload_n 0, 1) := by decide +kernel
theorem dX7_shifts_22 : decode cX7_shifts 22 = .ok (.iload_n 1, 1) := by decide +kernel
theorem dX7_shifts_23 : decode cX7_shifts 23 = .ok (.invokevirtual 205, 3) := by decide +kernel
theorem dX7_shifts_26 : decode cX7_shifts 26 = .ok (.isub, 1) := by decide +kernel
theorem dX7_shifts_27 : decode cX7_shifts 27 = .ok (.istore 4, 2) := by decide +kernel
theorem dX7_shifts_29 : decode cX7_shifts 29 = .ok (.iload 4, 2) := by decide +kernel
theorem dX7_shifts_31 : decode cX7_shifts 31 = .ok (.aload_n 0, 1) := by decide +kernel
theorem dX7_shifts_32 : decode cX7_shifts 32 = .ok (.iload_n 2, 1) := by decide +kernel
theorem dX7_shifts_33 : decode cX7_shifts 33 = .ok (.invokevirtual 205, 3) := by decide +kernel
theorem dX7_shifts_36 : decode cX7_shifts 36 = .ok (.if_icmp .ge 50, 3) := by decide +kernel
theorem dX7_shifts_39 : decode cX7_shifts 39 = .ok (.iconst 1, 1) := by decide +kernel
theorem dX7_shifts_40 : decode cX7_shifts 40 = .ok (.aload_n 0, 1) := by decide +kernel
theorem dX7_shifts_41 : decode cX7_shifts 41 = .ok (.iload_n 1, 1) := by decide +kernel
theorem dX7_shifts_42 : decode cX7_shifts 42 = .ok (.invokevirtual 202, 3) := by decide +kernel
theorem dX7_shifts_45 : decode cX7_shifts 45 = .ok (.isub, 1) := by decide +kernel
theorem dX7_shifts_46 : decode cX7_shifts 46 = .ok (.istore 5, 2) := by decide +kernel
theorem dX7_shifts_48 : decode cX7_shifts 48 = .ok (.iload 5, 2) := by decide +kernel
theorem dX7_shifts_50 : decode cX7_shifts 50 = .ok (.aload_n 0, 1) := by decide +kernel
theorem dX7_shifts_51 : decode cX7_shifts 51 = .ok (.iload_n 2, 1) := by decide +kernel
theorem dX7_shifts_52 : decode cX7_shifts 52 = .ok (.invokevirtual 202, 3) := by decide +kernel
theorem dX7_shifts_55 : decode cX7_shifts 55 = .ok (.if_icmp .ge 25, 3) := by decide +kernel
theorem dX7_shifts_58 : decode cX7_shifts 58 = .ok (.iload_n 3, 1) := by decide +kernel
theorem dX7_shifts_59 : decode cX7_shifts 59 = .ok (.aload_n 0, 1) := by decide +kernel
theorem dX7_shifts_60 : decode cX7_shifts 60 = .ok (.iload_n 1, 1) := by decide +kernel
theorem dX7_shifts_61 : decode cX7_shifts 61 = .ok (.iload_n 2, 1) := by decide +kernel
theorem dX7_shifts_62 : decode cX7_shifts 62 = .ok (.iload 5, 2) := by decide +kernel
theorem dX7_shifts_64 : decode cX7_shifts 64 = .ok (.iload 4, 2) := by decide +kernel
theorem dX7_shifts_66 : decode cX7_shifts 66 = .ok (.invokevirtual 413, 3) := by decide +kernel
theorem dX7_shifts_69 : decode cX7_shifts 69 = .ok (.invokestatic 127, 3) := by decide +kernel
theorem dX7_shifts_72 : decode cX7_shifts 72 = .ok (.iadd, 1) := by decide +kernel
theorem dX7_shifts_73 : decode cX7_shifts 73 = .ok (.istore_n 3, 1) := by decide +kernel
theorem dX7_shifts_74 : decode cX7_shifts 74 = .ok (.iinc 5 1, 3) := by decide +kernel
theorem dX7_shifts_77 : decode cX7_shifts 77 = .ok (.goto (-29), 3) := by decide +kernel
theorem dX7_shifts_80 : decode cX7_shifts 80 = .ok (.iinc 4 1, 3) := by decide +kernel
theorem dX7_shifts_83 : decode cX7_shifts 83 = .ok (.goto (-54), 3) := by decide +kernel
theorem dX7_shifts_86 : decode cX7_shifts 86 = .ok (.iload_n 3, 1) := by decide +kernel
theorem dX7_shifts_87 : decode cX7_shifts 87 = .ok (.ireturn, 1) := by decide +kernel
theorem dX7_slope_0 : decode cX7_slope 0 = .ok (.aload_n 0, 1) := by decide +kernel
theorem dX7_slope_1 : decode cX7_slope 1 = .ok (.iload_n 1, 1) := by decide +kernel
theorem dX7_slope_2 : decode cX7_slope 2 = .ok (.iload_n 2, 1) := by decide +kernel
theorem dX7_slope_3 : decode cX7_slope 3 = .ok (.invokevirtual 382, 3) := by decide +kernel
theorem dX7_slope_6 : decode cX7_slope 6 = .ok (.ifCond .eq 13, 3) := by decide +kernel
theorem dX7_slope_9 : decode cX7_slope 9 = .ok (.iload_n 3, 1) := by decide +kernel
theorem dX7_slope_10 : decode cX7_slope 10 = .ok (.i2l, 1) := by decide +kernel
theorem dX7_slope_11 : decode cX7_slope 11 = .ok (.lconst 0, 1) := by decide +kernel
theorem dX7_slope_12 : decode cX7_slope 12 = .ok (.lconst 1, 1) := by decide +kernel
theorem dX7_slope_13 : decode cX7_slope 13 = .ok (.invokestatic 96, 3) := by decide +kernel
theorem dX7_slope_16 : decode cX7_slope 16 = .ok (.ifCond .ne 7, 3) := by decide +kernel
theorem dX7_slope_19 : decode cX7_slope 19 = .ok (.ldc_w 404, 3) := by decide +kernel
theorem dX7_slope_22 : decode cX7_slope 22 = .ok (.ireturn, 1) := by decide +kernel
theorem dX7_slope_23 : decode cX7_slope 23 = .ok (.aload_n 0, 1) := by decide +kernel
theorem dX7_slope_24 : decode cX7_slope 24 = .ok (.invokevirtual 331, 3) := by decide +kernel
theorem dX7_slope_27 : decode cX7_slope 27 = .ok (.iload_n 3, 1) := by decide +kernel
theorem dX7_slope_28 : decode cX7_slope 28 = .ok (.ifCond .ne 23, 3) := by decide +kernel
theorem dX7_slope_31 : decode cX7_slope 31 = .ok (.aload_n 0, 1) := by decide +kernel
theorem dX7_slope_32 : decode cX7_slope 32 = .ok (.iload_n 1, 1) := by decide +kernel
theorem dX7_slope_33 : decode cX7_slope 33 = .ok (.iload_n 2, 1) := by decide +kernel
theorem dX7_slope_34 : decode cX7_slope 34 = .ok (.iconst 1, 1) := by decide +kernel
theorem dX7_slope_35 : decode cX7_slope 35 = .ok (.iconst 0, 1) := by decide +kernel
theorem dX7_slope_36 : decode cX7_slope 36 = .ok (.invokevirtual 385, 3) := by decide +kernel
theorem dX7_slope_39 : decode cX7_slope 39 = .ok (.aload_n 0, 1) := by decide +kernel
theorem dX7_slope_40 : decode cX7_slope 40 = .ok (.iload_n 1, 1) := by decide +kernel
theorem dX7_slope_41 : decode cX7_slope 41 = .ok (.iload_n 2, 1) := by decide +kernel
theorem dX7_slope_42 : decode cX7_slope 42 = .ok (.iconst (-1), 1) := by decide +kernel
theorem dX7_slope_43 : decode cX7_slope 43 = .ok (.iconst 0, 1) := by decide +kernel
theorem dX7_slope_44 : decode cX7_slope 44 = .ok (.invokevirtual 385, 3) := by decide +kernel
theorem dX7_slope_47 : decode cX7_slope 47 = .ok (.isub, 1) := by decide +kernel
theorem dX7_slope_48 : decode cX7_slope 48 = .ok (.goto 20, 3) := by decide +kernel
theorem dX7_slope_51 : decode cX7_slope 51 = .ok (.aload_n 0, 1) := by decide +kernel
theorem dX7_slope_52 : decode cX7_slope 52 = .ok (.iload_n 1, 1) := by decide +kernel
theorem dX7_slope_53 : decode cX7_slope 53 = .ok (.iload_n 2, 1) := by decide +kernel
theorem dX7_slope_54 : decode cX7_slope 54 = .ok (.iconst 0, 1) := by decide +kernel
theorem dX7_slope_55 : decode cX7_slope 55 = .ok (.iconst 1, 1) := by decide +kernel
theorem dX7_slope_56 : decode cX7_slope 56 = .ok (.invokevirtual 385, 3) := by decide +kernel
theorem dX7_slope_59 : decode cX7_slope 59 = .ok (.aload_n 0, 1) := by decide +kernel
theorem dX7_slope_60 : decode cX7_slope 60 = .ok (.iload_n 1, 1) := by decide +kernel
theorem dX7_slope_61 : decode cX7_slope 61 = .ok (.iload_n 2, 1) := by decide +kernel
theorem dX7_slope_62 : decode cX7_slope 62 = .ok (.iconst 0, 1) := by decide +kernel
theorem dX7_slope_63 : decode cX7_slope 63 = .ok (.iconst (-1), 1) := by decide +kernel
theorem dX7_slope_64 : decode cX7_slope 64 = .ok (.invokevirtual 385, 3) := by decide +kernel
theorem dX7_slope_67 : decode cX7_slope 67 = .ok (.isub, 1) := by decide +kernel
theorem dX7_slope_68 : decode cX7_slope 68 = .ok (.ireturn, 1) := by decide +kernel
set_option maxRecDepth 100000 in
theorem pq68 : Cond.selects RX7 yX7_masksMeet yX7_masksMeet ∈ pw := pw_mem (i := 68) (by decide +kernel) rfl
set_option maxRecDepth 100000 in
theorem pq1595 : Cond.constantLong RX7 394 (2) ∈ pw := pw_mem (i := 1595) (by decide +kernel) rfl
set_option maxRecDepth 100000 in
theorem pq1641 : Cond.constant RX7 404 (-2000000) ∈ pw := pw_mem (i := 1641) (by decide +kernel) rfl
set_option maxRecDepth 100000 in
theorem pq1662 : Cond.methodLink RX7 413 yX7_masksMeet ∈ pw := pw_mem (i := 1662) (by decide +kernel) rfl
set_option maxRecDepth 100000 in
theorem pq1664 : Cond.instanceMethod yX7_masksMeet ∈ pw := pw_mem (i := 1664) (by decide +kernel) rfl
set_option maxRecDepth 100000 in
theorem pq1665 : Cond.code yX7_masksMeet cX7_masksMeet 8 (some .boolean) ∈ pw := pw_mem (i := 1665) (by rfl) rfl
set_option maxHeartbeats 4000000 in
set_option maxRecDepth 100000 in
theorem s_X7_slope (l : Launch) (dC : Nat → ClassId) (dI : Nat → Nat → Nat) (cs : Nat → ClassId) (L : List Nat) (K G : Nat → Nat) (Q : Nat → Nat → Option Nat) (hQ : Sv L K G Q) (x0 m0 : Nat) (tx : GT) (tm : GT × Int) (sz : Nat) (I : Nat → Nat → Int32) (J : Nat → Nat → Int64) (hI : Iv L K x0 m0 tx tm I) (p0 : Nat) (hLp0 : p0 ∈ L) (hKp0 : K p0 = 7) (p1 : Int32) (p2 : Int32) (p3 : Int32) : Met l yX7_slope (.code yX7_slope cX7_slope 4 (some .int) :: pw) ({ frames := 4, cells := 0, slots := 0, locals := 98 }) (sP (dC, dI) cs [.ref p0, .int p1, .int p2, .int p3] sz L K I J Q) (va_Qi (fun (r : Int32) (_ : Unit) => (∀ σ : Sx, okF σ.1 → cmA Q I J p0 σ → r.toInt = sloR σ p1 p2 p3)) (fun _ t => sB (dC, dI) cs L K Q (fun I1 J1 => Iv L K x0 m0 tx tm I1 ∧ I1 = I ∧ (∀ σ : Sx, cmA Q I J p0 σ → cmA Q I1 J1 p0 σ) ∧ (∀ b, ¬ (K b = 25) → J1 b = J b)) t) (fun q => q ∈ L ∨ sz ≤ q)) 0 0 (fun q => q ∈ L ∨ sz ≤ q) := by
  refine Met.ofW (cc := cX7_slope) (maxL := 4) (ret := (some .int)) (by decide +kernel) rfl ?_
  intro p e s m args below meth c s₁ B hml hv
  obtain ⟨rfl, hsz, hP, hK, hD0, hN⟩ := hv
  have hx := B.exec
  have hb := B.bytes
  have hr := B.returns
  have hts := fun w (h : w ∈ pw) => atoms_spec (ws := Cond.code yX7_slope cX7_slope 4 (some .int) :: pw) B.pre w (List.mem_cons_of_mem _ h)
  have hown : s.vm.findClass RX7 = some m.cls := findClass_of_methodNamed B.named
  have hlocks := B.notSynchronized
  subst hsz
  have hBB : 999 ≤ tm.2 ∧ tm.2 ≤ 6000000 := hI.2.2.2.2.1
  have dj_J : (∀ b, ¬ (K b = 25) → J b = J b) := fun _ _ => rfl
  obtain ⟨A, hAe⟩ : ∃ A : Nat → Prop, A = (fun q => q ∈ L ∨ s.heap.size ≤ q) := ⟨_, rfl⟩
  rw [← hAe]
  have hAL : ∀ q, q ∈ L → A q := fun q h => by rw [hAe]; exact Or.inl h
  have hA : ∀ q, s.heap.size ≤ q → A q := fun q h => by rw [hAe]; exact Or.inr h
  have hD : ∀ F, va_D A (va_pl L F) := fun F => (hD0 F).weaken (fun k q hk _ => hAL _ (pl_mem hk))
  obtain ⟨H, hHe⟩ : ∃ H : Heap, H = s.heap := ⟨_, rfl⟩
  have hS : va_S A s.heap H [] := by rw [hHe]; exact va_S.rf
  rw [← hHe] at hP
  have hl := lv_entry ([.ref p0, .int p1, .int p2, .int p3]) (n := 4) (Nat.le_of_ble_eq_true rfl)
  rw [lg_entry_eq]
  generalize (lg_sl ([.ref p0, .int p1, .int p2, .int p3]) ++ List.replicate (4 - (lg_sl ([.ref p0, .int p1, .int p2, .int p3])).length) Slot.unset).toArray = ls at hl ⊢
  have hl : lv_has ls 4 [(0, .ref p0), (1, .int p1), (2, .int p2), (3, .int p3)] := hl
  rw [← hHe]
  refine namedW (fun R Qz hR hQz => ?_)
  refine lv_aload_n hx hb dX7_slope_0 rfl (lv_at hl 0 rfl) ?_
  refine lv_iload_n hx hb dX7_slope_1 rfl (lv_at hl 1 rfl) ?_
  refine lv_iload_n hx hb dX7_slope_2 rfl (lv_at hl 2 rfl) ?_
  refine ro_i (va_runV (As := [.int p1, .int p2]) (rest := []) ⟨hx, hb, hml, hown, hts⟩ (s_X7_areTwo l dC dI cs L K G Q hQ x0 m0 tx tm H.size I J hI p0 hLp0 hKp0 p1 p2) (cwV 2 hts (gV pq1571 pq1573 pq62 pq81 pq1574) rfl rfl rfl (by decide +kernel) ⟨(by rw [hR]; exact (Nat.le_of_ble_eq_true rfl)), (by rw [hR]; exact (Nat.le_of_ble_eq_true rfl))⟩) (sP_V hP hD hK hN hLp0 hKp0 rfl rfl) rfl rfl hl.1 rfl (lv_room (Nat.le_of_ble_eq_true rfl)) dX7_slope_3 ⟨(by rw [hR]; exact (Nat.le_of_ble_eq_true rfl)), (by rw [hR]; exact (Nat.le_of_ble_eq_true rfl))⟩) hS hP (fun z3 H locs hz3 hP hS => ?_)
  obtain ⟨bz3, imz3, xpz3⟩ := hz3
  refine lv_if_eq (tgt := 19) hx hb dX7_slope_6 (by decide) (fun c6 => ?_) (fun c6 => ?_)
  · have t6 := tq_eq (k := z3.toInt) (q := (0)) c6 rfl (by decide +kernel)
    refine lv_ldcw hx hb hown (hts _ pq1641) dX7_slope_19 ?_
    subst hR; subst hQz
    exact W.iret (v := (-2000000)) hx hb hr (fun t ht hW => ⟨⟨(-2000000), (), rfl, (fun σ ok h => by have e := cm_1 h; rw [slo_n (fun w => by first | (have t := w.1; unfold twV at t; rw [← e] at t; exact (xpz3.mpr t) t6) | exact xpz13 t16 ⟨by have a := w.2; omega, by have a := w.2; omega⟩)]; decide +kernel), ⟨I, J, ⟨hI, rfl, (fun σ A => cmA_fr hQ hLp0 hKp0 (fun _ _ => rfl) (fun _ _ => rfl) rfl A), dj_J⟩, by rw [ht]; exact hP⟩⟩, hS.F ht⟩) hS.2.2 dX7_slope_22
  · have t6 := tq_ne (k := z3.toInt) (q := (0)) c6 rfl (by decide +kernel)
    have i6 := imz3 t6
    refine lv_iload_n hx hb dX7_slope_9 rfl (lv_at hl 3 rfl) ?_
    refine lv_i2l hx hb dX7_slope_10 rfl ?_
    refine lv_topl (fun z10 ez10 => ?_)
    have bz10 := tq_i2l (k := p3.toInt) ez10 rfl
    refine lv_lconst (v := 0) hx hb dX7_slope_11 (by decide +kernel) ?_
    refine lv_lconst (v := 1) hx hb dX7_slope_12 (by decide +kernel) ?_
    refine ro_i (va_runS (As := [.long z10, .long 0, .long 1]) (rest := []) ⟨hx, hb, hml, hown, hts⟩ (s_X7_in l dC dI cs L K Q H.size I J z10 0 1) (va_cwS 3 hts (gS pq1234 pq1235 pq81 pq1236) rfl rfl rfl (by decide +kernel) ⟨(by rw [hR]; exact (Nat.le_of_ble_eq_true rfl)), (by rw [hR]; exact (Nat.le_of_ble_eq_true rfl))⟩) (sP_S hP hD hK hN) rfl rfl hl.1 rfl (lv_room (Nat.le_of_ble_eq_true rfl)) dX7_slope_13 ⟨(by rw [hR]; exact (Nat.le_of_ble_eq_true rfl)), (by rw [hR]; exact (Nat.le_of_ble_eq_true rfl))⟩) hS hP (fun z13 H locs hz13 hP hS => ?_)
    have csl13_0 : (0 : Int64).toInt = 0 := by decide +kernel
    have csl13_1 : (1 : Int64).toInt = 1 := by decide +kernel
    obtain ⟨bz13, imz13, xpz13⟩ := hz13
    refine lv_if_ne (tgt := 23) hx hb dX7_slope_16 (by decide) (fun c16 => ?_) (fun c16 => ?_)
    · have t16 := tq_ne (k := z13.toInt) (q := (0)) c16 rfl (by decide +kernel)
      have i16 := imz13 t16
      refine lv_aload_n hx hb dX7_slope_23 rfl (lv_at hl 0 rfl) ?_
      refine sw_v (Z := (fun I1 J1 => Iv L K x0 m0 tx tm I1 ∧ I1 = I ∧ (∀ c : Fx, okF c → rI Q I p0 c → rJ Q J p0 c → ldA Q J1 p0 c) ∧ (∀ b, ¬ (K b = 25) → J1 b = J b))) (va_runV (As := []) (rest := []) ⟨hx, hb, hml, hown, hts⟩ (s_X7_laysAll l dC dI cs L K G Q hQ x0 m0 tx tm H.size I J hI p0 hLp0 hKp0) (cwV 0 hts (gV pq1427 pq1429 pq40 pq81 pq1430) rfl rfl rfl (by decide +kernel) ⟨(by rw [hR]; exact (Nat.le_of_ble_eq_true rfl)), (by rw [hR]; exact (Nat.le_of_ble_eq_true rfl))⟩) (sP_V hP hD hK hN hLp0 hKp0 rfl rfl) rfl rfl hl.1 rfl (lv_room (Nat.le_of_ble_eq_true rfl)) dX7_slope_24 ⟨(by rw [hR]; exact (Nat.le_of_ble_eq_true rfl)), (by rw [hR]; exact (Nat.le_of_ble_eq_true rfl))⟩) hS hAL hA (fun Iz24 Jz24 H locs hz24 hIz24 hP hS => ?_)
      obtain ⟨hIz24, sm24, jz24, djc24⟩ := hIz24
      have dj_Jz24 : (∀ b, ¬ (K b = 25) → Jz24 b = J b) := fun b hc => (djc24 b (fun z => hc (by omega))).trans (dj_J b hc)
      obtain rfl : I = Iz24 := sm24.symm
      refine lv_iload_n hx hb dX7_slope_27 rfl (lv_at hl 3 rfl) ?_
      refine lv_if_ne (tgt := 51) hx hb dX7_slope_28 (by decide) (fun c28 => ?_) (fun c28 => ?_)
      · have t28 := tq_ne (k := p3.toInt) (q := (0)) c28 rfl (by decide +kernel)
        refine lv_aload_n hx hb dX7_slope_51 rfl (lv_at hl 0 rfl) ?_
        refine lv_iload_n hx hb dX7_slope_52 rfl (lv_at hl 1 rfl) ?_
        refine lv_iload_n hx hb dX7_slope_53 rfl (lv_at hl 2 rfl) ?_
        refine lv_iconst (v := 0) hx hb dX7_slope_54 (by decide +kernel) ?_
        refine lv_iconst (v := 1) hx hb dX7_slope_55 (by decide +kernel) ?_
        refine ro_i (va_runV (As := [.int p1, .int p2, .int 0, .int 1]) (rest := []) ⟨hx, hb, hml, hown, hts⟩ (s_X7_commonBy l dC dI cs L K G Q hQ x0 m0 tx tm H.size I Jz24 hI p0 hLp0 hKp0 p1 ⟨by omega, by omega⟩ p2 ⟨by omega, by omega⟩ 0 1 ⟨by decide +kernel, by decide +kernel⟩) (cwV 4 hts (gV pq1575 pq1577 pq63 pq81 pq1578) rfl rfl rfl (by decide +kernel) ⟨(by rw [hR]; exact (Nat.le_of_ble_eq_true rfl)), (by rw [hR]; exact (Nat.le_of_ble_eq_true rfl))⟩) (sP_V hP hD hK hN hLp0 hKp0 rfl rfl) rfl rfl hl.1 rfl (lv_room (Nat.le_of_ble_eq_true rfl)) dX7_slope_56 ⟨(by rw [hR]; exact (Nat.le_of_ble_eq_true rfl)), (by rw [hR]; exact (Nat.le_of_ble_eq_true rfl))⟩) hS hP (fun z56 H locs hz56 hP hS => ?_)
        have cst56_0 : (0 : Int32).toInt = 0 := by decide +kernel
        have cst56_1 : (1 : Int32).toInt = 1 := by decide +kernel
        have xpz56 := hz56
        try rw [cst56_0] at xpz56
        try rw [cst56_1] at xpz56
        refine lv_aload_n hx hb dX7_slope_59 rfl (lv_at hl 0 rfl) ?_
        refine lv_iload_n hx hb dX7_slope_60 rfl (lv_at hl 1 rfl) ?_
        refine lv_iload_n hx hb dX7_slope_61 rfl (lv_at hl 2 rfl) ?_
        refine lv_iconst (v := 0) hx hb dX7_slope_62 (by decide +kernel) ?_
        refine lv_iconst (v := (-1)) hx hb dX7_slope_63 (by decide +kernel) ?_
        refine ro_i (va_runV (As := [.int p1, .int p2, .int 0, .int (-1)]) (rest := [.int z56]) ⟨hx, hb, hml, hown, hts⟩ (s_X7_commonBy l dC dI cs L K G Q hQ x0 m0 tx tm H.size I Jz24 hI p0 hLp0 hKp0 p1 ⟨by omega, by omega⟩ p2 ⟨by omega, by omega⟩ 0 (-1) ⟨by decide +kernel, by decide +kernel⟩) (cwV 4 hts (gV pq1575 pq1577 pq63 pq81 pq1578) rfl rfl rfl (by decide +kernel) ⟨(by rw [hR]; exact (Nat.le_of_ble_eq_true rfl)), (by rw [hR]; exact (Nat.le_of_ble_eq_true rfl))⟩) (sP_V hP hD hK hN hLp0 hKp0 rfl rfl) rfl rfl hl.1 rfl (lv_room (Nat.le_of_ble_eq_true rfl)) dX7_slope_64 ⟨(by rw [hR]; exact (Nat.le_of_ble_eq_true rfl)), (by rw [hR]; exact (Nat.le_of_ble_eq_true rfl))⟩) hS hP (fun z64 H locs hz64 hP hS => ?_)
        have cst64_m1 : ((-1) : Int32).toInt = (-1) := by decide +kernel
        have cst64_0 : (0 : Int32).toInt = 0 := by decide +kernel
        have xpz64 := hz64
        try rw [cst64_m1] at xpz64
        try rw [cst64_0] at xpz64
        refine lv_isub hx hb dX7_slope_67 ?_
        refine lv_topi (fun z67 ez67 => ?_)
        subst hR; subst hQz
        exact W.iret (v := z67) hx hb hr (fun t ht hW => ⟨⟨z67, (), rfl, (fun σ ok h => by have e := cm_1 h; have t := xpz3.mp t6; rw [e] at t; have w1 := xpz56 σ.1 ok (cmA_rI h) (jz24 σ.1 ok (cmA_rI h) (cmA_rJ h)) (show p1.toInt.toNat < _ by omega) (show p2.toInt.toNat < _ by omega) ⟨⟨by decide +kernel, by decide +kernel⟩, by decide +kernel, by decide +kernel⟩; have w2 := xpz64 σ.1 ok (cmA_rI h) (jz24 σ.1 ok (cmA_rI h) (cmA_rJ h)) (show p1.toInt.toNat < _ by omega) (show p2.toInt.toNat < _ by omega) ⟨⟨by decide +kernel, by decide +kernel⟩, by decide +kernel, by decide +kernel⟩; (try rw [show (0 : Int32).toInt = 0 from by decide +kernel] at w1); (try rw [show (1 : Int32).toInt = 1 from by decide +kernel] at w1); (try rw [show (-1 : Int32).toInt = -1 from by decide +kernel] at w1); (try rw [show (0 : Int32).toInt = 0 from by decide +kernel] at w2); (try rw [show (1 : Int32).toInt = 1 from by decide +kernel] at w2); (try rw [show (-1 : Int32).toInt = -1 from by decide +kernel] at w2); unfold coN at w1 w2; have b1 := cm_b (mkw (shp σ.1 p1.toInt.toNat)) (mkw (shp σ.1 p2.toInt.toNat)) (bX σ.1 p2.toInt.toNat - bX σ.1 p1.toInt.toNat - 0) (bY σ.1 p2.toInt.toNat - bY σ.1 p1.toInt.toNat - 1); have b2 := cm_b (mkw (shp σ.1 p1.toInt.toNat)) (mkw (shp σ.1 p2.toInt.toNat)) (bX σ.1 p2.toInt.toNat - bX σ.1 p1.toInt.toNat - 0) (bY σ.1 p2.toInt.toNat - bY σ.1 p1.toInt.toNat - (-1)); have r := tq_sub (k := z56.toInt) (q := z64.toInt) ez67 rfl rfl (by omega) (by omega); rw [slo_y ⟨t, by omega, by omega⟩, r, w1, w2]; unfold sloN coN; rw [if_neg t28]), ⟨I, Jz24, ⟨hI, rfl, (fun σ A => cmA_fr hQ hLp0 hKp0 (fun _ _ => rfl) (fun b hb => dj_Jz24 b (by omega)) rfl A), dj_Jz24⟩, by rw [ht]; exact hP⟩⟩, hS.F ht⟩) hS.2.2 dX7_slope_68
      · have t28 := tq_eq (k := p3.toInt) (q := (0)) c28 rfl (by decide +kernel)
        refine lv_aload_n hx hb dX7_slope_31 rfl (lv_at hl 0 rfl) ?_
        refine lv_iload_n hx hb dX7_slope_32 rfl (lv_at hl 1 rfl) ?_
        refine lv_iload_n hx hb dX7_slope_33 rfl (lv_at hl 2 rfl) ?_
        refine lv_iconst (v := 1) hx hb dX7_slope_34 (by decide +kernel) ?_
        refine lv_iconst (v := 0) hx hb dX7_slope_35 (by decide +kernel) ?_
        refine ro_i (va_runV (As := [.int p1, .int p2, .int 1, .int 0]) (rest := []) ⟨hx, hb, hml, hown, hts⟩ (s_X7_commonBy l dC dI cs L K G Q hQ x0 m0 tx tm H.size I Jz24 hI p0 hLp0 hKp0 p1 ⟨by omega, by omega⟩ p2 ⟨by omega, by omega⟩ 1 0 ⟨by decide +kernel, by decide +kernel⟩) (cwV 4 hts (gV pq1575 pq1577 pq63 pq81 pq1578) rfl rfl rfl (by decide +kernel) ⟨(by rw [hR]; exact (Nat.le_of_ble_eq_true rfl)), (by rw [hR]; exact (Nat.le_of_ble_eq_true rfl))⟩) (sP_V hP hD hK hN hLp0 hKp0 rfl rfl) rfl rfl hl.1 rfl (lv_room (Nat.le_of_ble_eq_true rfl)) dX7_slope_36 ⟨(by rw [hR]; exact (Nat.le_of_ble_eq_true rfl)), (by rw [hR]; exact (Nat.le_of_ble_eq_true rfl))⟩) hS hP (fun z36 H locs hz36 hP hS => ?_)
        have cst36_0 : (0 : Int32).toInt = 0 := by decide +kernel
        have cst36_1 : (1 : Int32).toInt = 1 := by decide +kernel
        have xpz36 := hz36
        try rw [cst36_0] at xpz36
        try rw [cst36_1] at xpz36
        refine lv_aload_n hx hb dX7_slope_39 rfl (lv_at hl 0 rfl) ?_
        refine lv_iload_n hx hb dX7_slope_40 rfl (lv_at hl 1 rfl) ?_
        refine lv_iload_n hx hb dX7_slope_41 rfl (lv_at hl 2 rfl) ?_
        refine lv_iconst (v := (-1)) hx hb dX7_slope_42 (by decide +kernel) ?_
        refine lv_iconst (v := 0) hx hb dX7_slope_43 (by decide +kernel) ?_
        refine ro_i (va_runV (As := [.int p1, .int p2, .int (-1), .int 0]) (rest := [.int z36]) ⟨hx, hb, hml, hown, hts⟩ (s_X7_commonBy l dC dI cs L K G Q hQ x0 m0 tx tm H.size I Jz24 hI p0 hLp0 hKp0 p1 ⟨by omega, by omega⟩ p2 ⟨by omega, by omega⟩ (-1) 0 ⟨by decide +kernel, by decide +kernel⟩) (cwV 4 hts (gV pq1575 pq1577 pq63 pq81 pq1578) rfl rfl rfl (by decide +kernel) ⟨(by rw [hR]; exact (Nat.le_of_ble_eq_true rfl)), (by rw [hR]; exact (Nat.le_of_ble_eq_true rfl))⟩) (sP_V hP hD hK hN hLp0 hKp0 rfl rfl) rfl rfl hl.1 rfl (lv_room (Nat.le_of_ble_eq_true rfl)) dX7_slope_44 ⟨(by rw [hR]; exact (Nat.le_of_ble_eq_true rfl)), (by rw [hR]; exact (Nat.le_of_ble_eq_true rfl))⟩) hS hP (fun z44 H locs hz44 hP hS => ?_)
        have cst44_m1 : ((-1) : Int32).toInt = (-1) := by decide +kernel
        have cst44_0 : (0 : Int32).toInt = 0 := by decide +kernel
        have xpz44 := hz44
        try rw [cst44_m1] at xpz44
        try rw [cst44_0] at xpz44
        refine lv_isub hx hb dX7_slope_47 ?_
        refine lv_topi (fun z47 ez47 => ?_)
        refine lv_goto (tgt := 68) hx hb dX7_slope_48 (by decide) ?_
        subst hR; subst hQz
        exact W.iret (v := z47) hx hb hr (fun t ht hW => ⟨⟨z47, (), rfl, (fun σ ok h => by have e := cm_1 h; have t := xpz3.mp t6; rw [e] at t; have w1 := xpz36 σ.1 ok (cmA_rI h) (jz24 σ.1 ok (cmA_rI h) (cmA_rJ h)) (show p1.toInt.toNat < _ by omega) (show p2.toInt.toNat < _ by omega) ⟨⟨by decide +kernel, by decide +kernel⟩, by decide +kernel, by decide +kernel⟩; have w2 := xpz44 σ.1 ok (cmA_rI h) (jz24 σ.1 ok (cmA_rI h) (cmA_rJ h)) (show p1.toInt.toNat < _ by omega) (show p2.toInt.toNat < _ by omega) ⟨⟨by decide +kernel, by decide +kernel⟩, by decide +kernel, by decide +kernel⟩; (try rw [show (0 : Int32).toInt = 0 from by decide +kernel] at w1); (try rw [show (1 : Int32).toInt = 1 from by decide +kernel] at w1); (try rw [show (-1 : Int32).toInt = -1 from by decide +kernel] at w1); (try rw [show (0 : Int32).toInt = 0 from by decide +kernel] at w2); (try rw [show (1 : Int32).toInt = 1 from by decide +kernel] at w2); (try rw [show (-1 : Int32).toInt = -1 from by decide +kernel] at w2); unfold coN at w1 w2; have b1 := cm_b (mkw (shp σ.1 p1.toInt.toNat)) (mkw (shp σ.1 p2.toInt.toNat)) (bX σ.1 p2.toInt.toNat - bX σ.1 p1.toInt.toNat - 1) (bY σ.1 p2.toInt.toNat - bY σ.1 p1.toInt.toNat - 0); have b2 := cm_b (mkw (shp σ.1 p1.toInt.toNat)) (mkw (shp σ.1 p2.toInt.toNat)) (bX σ.1 p2.toInt.toNat - bX σ.1 p1.toInt.toNat - (-1)) (bY σ.1 p2.toInt.toNat - bY σ.1 p1.toInt.toNat - 0); have r := tq_sub (k := z36.toInt) (q := z44.toInt) ez47 rfl rfl (by omega) (by omega); rw [slo_y ⟨t, by omega, by omega⟩, r, w1, w2]; unfold sloN coN; rw [if_pos t28]), ⟨I, Jz24, ⟨hI, rfl, (fun σ A => cmA_fr hQ hLp0 hKp0 (fun _ _ => rfl) (fun b hb => dj_Jz24 b (by omega)) rfl A), dj_Jz24⟩, by rw [ht]; exact hP⟩⟩, hS.F ht⟩) hS.2.2 dX7_slope_68
    · have t16 := tq_eq (k := z13.toInt) (q := (0)) c16 rfl (by decide +kernel)
      refine lv_ldcw hx hb hown (hts _ pq1641) dX7_slope_19 ?_
      subst hR; subst hQz
      exact W.iret (v := (-2000000)) hx hb hr (fun t ht hW => ⟨⟨(-2000000), (), rfl, (fun σ ok h => by have e := cm_1 h; rw [slo_n (fun w => by first | (have t := w.1; unfold twV at t; rw [← e] at t; exact (xpz3.mpr t) t6) | exact xpz13 t16 ⟨by have a := w.2; omega, by have a := w.2; omega⟩)]; decide +kernel), ⟨I, J, ⟨hI, rfl, (fun σ A => cmA_fr hQ hLp0 hKp0 (fun _ _ => rfl) (fun _ _ => rfl) rfl A), dj_J⟩, by rw [ht]; exact hP⟩⟩, hS.F ht⟩) hS.2.2 dX7_slope_22

set_option maxHeartbeats 4000000 in
set_option maxRecDepth 100000 in
theorem s_X7_best (l : Launch) (dC : Nat → ClassId) (dI : Nat → Nat → Nat) (cs : Nat → ClassId) (L : List Nat) (K G : Nat → Nat) (Q : Nat → Nat → Option Nat) (hQ : Sv L K G Q) (x0 m0 : Nat) (tx : GT) (tm : GT × Int) (sz : Nat) (I : Nat → Nat → Int32) (J : Nat → Nat → Int64) (hI : Iv L K x0 m0 tx tm I) (p0 : Nat) (hLp0 : p0 ∈ L) (hKp0 : K p0 = 7) (p1 : Int32) (p2 : Int32) (p3 : Int32) : Met l yX7_best (.code yX7_best cX7_best 10 (some .int) :: pw) ({ frames := 4, cells := 0, slots := 0, locals := 98 }) (sP (dC, dI) cs [.ref p0, .int p1, .int p2, .int p3] sz L K I J Q) (va_Qi (fun (r : Int32) (_ : Unit) => (∀ σ : Sx, okF σ.1 → cmA Q I J p0 σ → bsR σ p1 p2 p3 r)) (fun _ t => sB (dC, dI) cs L K Q (fun I1 J1 => Iv L K x0 m0 tx tm I1 ∧ I1 = I ∧ (∀ σ : Sx, cmA Q I J p0 σ → cmA Q I1 J1 p0 σ) ∧ (∀ b, ¬ (K b = 25) → J1 b = J b)) t) (fun q => q ∈ L ∨ sz ≤ q)) 0 0 (fun q => q ∈ L ∨ sz ≤ q) := by
  refine Met.ofW (cc := cX7_best) (maxL := 10) (ret := (some .int)) (by decide +kernel) rfl ?_
  intro p e s m args below meth c s₁ B hml hv
  obtain ⟨rfl, hsz, hP, hK, hD0, hN⟩ := hv
  have hx := B.exec
  have hb := B.bytes
  have hr := B.returns
  have hts := fun w (h : w ∈ pw) => atoms_spec (ws := Cond.code yX7_best cX7_best 10 (some .int) :: pw) B.pre w (List.mem_cons_of_mem _ h)
  have hown : s.vm.findClass RX7 = some m.cls := findClass_of_methodNamed B.named
  have hlocks := B.notSynchronized
  subst hsz
  have hBB : 999 ≤ tm.2 ∧ tm.2 ≤ 6000000 := hI.2.2.2.2.1
  have dj_J : (∀ b, ¬ (K b = 25) → J b = J b) := fun _ _ => rfl
  obtain ⟨A, hAe⟩ : ∃ A : Nat → Prop, A = (fun q => q ∈ L ∨ s.heap.size ≤ q) := ⟨_, rfl⟩
  rw [← hAe]
  have hAL : ∀ q, q ∈ L → A q := fun q h => by rw [hAe]; exact Or.inl h
  have hA : ∀ q, s.heap.size ≤ q → A q := fun q h => by rw [hAe]; exact Or.inr h
  have hD : ∀ F, va_D A (va_pl L F) := fun F => (hD0 F).weaken (fun k q hk _ => hAL _ (pl_mem hk))
  obtain ⟨H, hHe⟩ : ∃ H : Heap, H = s.heap := ⟨_, rfl⟩
  have hS : va_S A s.heap H [] := by rw [hHe]; exact va_S.rf
  rw [← hHe] at hP
  have hl := lv_entry ([.ref p0, .int p1, .int p2, .int p3]) (n := 10) (Nat.le_of_ble_eq_true rfl)
  rw [lg_entry_eq]
  generalize (lg_sl ([.ref p0, .int p1, .int p2, .int p3]) ++ List.replicate (10 - (lg_sl ([.ref p0, .int p1, .int p2, .int p3])).length) Slot.unset).toArray = ls at hl ⊢
  have hl : lv_has ls 10 [(0, .ref p0), (1, .int p1), (2, .int p2), (3, .int p3)] := hl
  rw [← hHe]
  refine namedW (fun R Qz hR hQz => ?_)
  refine lv_aload_n hx hb dX7_best_0 rfl (lv_at hl 0 rfl) ?_
  refine lv_iload_n hx hb dX7_best_1 rfl (lv_at hl 1 rfl) ?_
  refine lv_iload_n hx hb dX7_best_2 rfl (lv_at hl 2 rfl) ?_
  refine ro_i (va_runV (As := [.int p1, .int p2]) (rest := []) ⟨hx, hb, hml, hown, hts⟩ (s_X7_areTwo l dC dI cs L K G Q hQ x0 m0 tx tm H.size I J hI p0 hLp0 hKp0 p1 p2) (cwV 2 hts (gV pq1571 pq1573 pq62 pq81 pq1574) rfl rfl rfl (by decide +kernel) ⟨(by rw [hR]; exact (Nat.le_of_ble_eq_true rfl)), (by rw [hR]; exact (Nat.le_of_ble_eq_true rfl))⟩) (sP_V hP hD hK hN hLp0 hKp0 rfl rfl) rfl rfl hl.1 rfl (lv_room (Nat.le_of_ble_eq_true rfl)) dX7_best_3 ⟨(by rw [hR]; exact (Nat.le_of_ble_eq_true rfl)), (by rw [hR]; exact (Nat.le_of_ble_eq_true rfl))⟩) hS hP (fun z3 H locs hz3 hP hS => ?_)
  obtain ⟨bz3, imz3, xpz3⟩ := hz3
  refine lv_if_eq (tgt := 21) hx hb dX7_best_6 (by decide) (fun c6 => ?_) (fun c6 => ?_)
  · have t6 := tq_eq (k := z3.toInt) (q := (0)) c6 rfl (by decide +kernel)
    refine lv_sipush (v := (-2000)) hx hb dX7_best_21 (by decide +kernel) ?_
    subst hR; subst hQz
    exact W.iret (v := (-2000)) hx hb hr (fun t ht hW => ⟨⟨(-2000), (), rfl, (fun σ ok h => by have e := cm_1 h; exact ⟨fun w => absurd w (fun w => by first | (have t := w.1; unfold twV at t; rw [← e] at t; exact (xpz3.mpr t) t6) | exact xpz15 t18 ⟨by have a := w.2; omega, by have a := w.2; omega⟩), fun _ => by decide +kernel⟩), ⟨I, J, ⟨hI, rfl, (fun σ A => cmA_fr hQ hLp0 hKp0 (fun _ _ => rfl) (fun _ _ => rfl) rfl A), dj_J⟩, by rw [ht]; exact hP⟩⟩, hS.F ht⟩) hS.2.2 dX7_best_24
  · have t6 := tq_ne (k := z3.toInt) (q := (0)) c6 rfl (by decide +kernel)
    have i6 := imz3 t6
    refine lv_iload_n hx hb dX7_best_9 rfl (lv_at hl 3 rfl) ?_
    refine lv_i2l hx hb dX7_best_10 rfl ?_
    refine lv_topl (fun z10 ez10 => ?_)
    have bz10 := tq_i2l (k := p3.toInt) ez10 rfl
    refine lv_lconst (v := 0) hx hb dX7_best_11 (by decide +kernel) ?_
    refine lv_ldc2 hx hb hown (hts _ pq1595) dX7_best_12 ?_
    refine ro_i (va_runS (As := [.long z10, .long 0, .long 2]) (rest := []) ⟨hx, hb, hml, hown, hts⟩ (s_X7_in l dC dI cs L K Q H.size I J z10 0 2) (va_cwS 3 hts (gS pq1234 pq1235 pq81 pq1236) rfl rfl rfl (by decide +kernel) ⟨(by rw [hR]; exact (Nat.le_of_ble_eq_true rfl)), (by rw [hR]; exact (Nat.le_of_ble_eq_true rfl))⟩) (sP_S hP hD hK hN) rfl rfl hl.1 rfl (lv_room (Nat.le_of_ble_eq_true rfl)) dX7_best_15 ⟨(by rw [hR]; exact (Nat.le_of_ble_eq_true rfl)), (by rw [hR]; exact (Nat.le_of_ble_eq_true rfl))⟩) hS hP (fun z15 H locs hz15 hP hS => ?_)
    have csl15_0 : (0 : Int64).toInt = 0 := by decide +kernel
    have csl15_2 : (2 : Int64).toInt = 2 := by decide +kernel
    obtain ⟨bz15, imz15, xpz15⟩ := hz15
    refine lv_if_ne (tgt := 25) hx hb dX7_best_18 (by decide) (fun c18 => ?_) (fun c18 => ?_)
    · have t18 := tq_ne (k := z15.toInt) (q := (0)) c18 rfl (by decide +kernel)
      have i18 := imz15 t18
      refine lv_aload_n hx hb dX7_best_25 rfl (lv_at hl 0 rfl) ?_
      refine sw_v (Z := (fun I1 J1 => Iv L K x0 m0 tx tm I1 ∧ I1 = I ∧ (∀ c : Fx, okF c → rI Q I p0 c → rJ Q J p0 c → ldA Q J1 p0 c) ∧ (∀ b, ¬ (K b = 25) → J1 b = J b))) (va_runV (As := []) (rest := []) ⟨hx, hb, hml, hown, hts⟩ (s_X7_laysAll l dC dI cs L K G Q hQ x0 m0 tx tm H.size I J hI p0 hLp0 hKp0) (cwV 0 hts (gV pq1427 pq1429 pq40 pq81 pq1430) rfl rfl rfl (by decide +kernel) ⟨(by rw [hR]; exact (Nat.le_of_ble_eq_true rfl)), (by rw [hR]; exact (Nat.le_of_ble_eq_true rfl))⟩) (sP_V hP hD hK hN hLp0 hKp0 rfl rfl) rfl rfl hl.1 rfl (lv_room (Nat.le_of_ble_eq_true rfl)) dX7_best_26 ⟨(by rw [hR]; exact (Nat.le_of_ble_eq_true rfl)), (by rw [hR]; exact (Nat.le_of_ble_eq_true rfl))⟩) hS hAL hA (fun Iz26 Jz26 H locs hz26 hIz26 hP hS => ?_)
      obtain ⟨hIz26, sm26, jz26, djc26⟩ := hIz26
      have dj_Jz26 : (∀ b, ¬ (K b = 25) → Jz26 b = J b) := fun b hc => (djc26 b (fun z => hc (by omega))).trans (dj_J b hc)
      obtain rfl : I = Iz26 := sm26.symm
      refine lv_iconst (v := 0) hx hb dX7_best_29 (by decide +kernel) ?_
      refine lv_istore (lv' := [(4, .int 0), (0, .ref p0), (1, .int p1), (2, .int p2), (3, .int p3)]) hx hb dX7_best_30 hl (by decide) rfl (fun ls hl => ?_)
      refine lv_aload_n hx hb dX7_best_32 rfl (lv_at hl 1 rfl) ?_
      refine lv_iload_n hx hb dX7_best_33 rfl (lv_at hl 2 rfl) ?_
      refine lv_iconst (v := 1) hx hb dX7_best_34 (by decide +kernel) ?_
      refine ro_i (va_runV (As := [.int p1, .int 1]) (rest := []) ⟨hx, hb, hml, hown, hts⟩ (s_X7_of l dC dI cs L K G Q hQ x0 m0 tx tm H.size I Jz26 hI p0 hLp0 hKp0 p1 ⟨by omega, by omega⟩ 1 ⟨by decide +kernel, by decide +kernel⟩) (cwV 2 hts (gV pq1320 pq1322 pq25 pq81 pq1323) rfl rfl rfl (by decide +kernel) ⟨(by rw [hR]; exact (Nat.le_of_ble_eq_true rfl)), (by rw [hR]; exact (Nat.le_of_ble_eq_true rfl))⟩) (sP_V hP hD hK hN hLp0 hKp0 rfl rfl) rfl rfl hl.1 rfl (lv_room (Nat.le_of_ble_eq_true rfl)) dX7_best_35 ⟨(by rw [hR]; exact (Nat.le_of_ble_eq_true rfl)), (by rw [hR]; exact (Nat.le_of_ble_eq_true rfl))⟩) hS hP (fun z35 H locs hz35 hP hS => ?_)
      have cst35_1 : (1 : Int32).toInt = 1 := by decide +kernel
      obtain ⟨fez35, xpz35⟩ := hz35
      have bz35 := xpz35.2.1 rfl
      refine lv_istore (lv' := [(5, .int z35), (4, .int 0), (0, .ref p0), (1, .int p1), (2, .int p2), (3, .int p3)]) hx hb dX7_best_38 hl (by decide) rfl (fun ls hl => ?_)
      refine lv_aload_n hx hb dX7_best_40 rfl (lv_at hl 2 rfl) ?_
      refine lv_iload_n hx hb dX7_best_41 rfl (lv_at hl 3 rfl) ?_
      refine lv_iconst (v := 2) hx hb dX7_best_42 (by decide +kernel) ?_
      refine ro_i (va_runV (As := [.int p1, .int 2]) (rest := []) ⟨hx, hb, hml, hown, hts⟩ (s_X7_of l dC dI cs L K G Q hQ x0 m0 tx tm H.size I Jz26 hI p0 hLp0 hKp0 p1 ⟨by omega, by omega⟩ 2 ⟨by decide +kernel, by decide +kernel⟩) (cwV 2 hts (gV pq1320 pq1322 pq25 pq81 pq1323) rfl rfl rfl (by decide +kernel) ⟨(by rw [hR]; exact (Nat.le_of_ble_eq_true rfl)), (by rw [hR]; exact (Nat.le_of_ble_eq_true rfl))⟩) (sP_V hP hD hK hN hLp0 hKp0 rfl rfl) rfl rfl hl.1 rfl (lv_room (Nat.le_of_ble_eq_true rfl)) dX7_best_43 ⟨(by rw [hR]; exact (Nat.le_of_ble_eq_true rfl)), (by rw [hR]; exact (Nat.le_of_ble_eq_true rfl))⟩) hS hP (fun z43 H locs hz43 hP hS => ?_)
      have cst43_2 : (2 : Int32).toInt = 2 := by decide +kernel
      obtain ⟨fez43, xpz43⟩ := hz43
      have bz43 := xpz43.2.2.1 rfl
      refine lv_istore (lv' := [(6, .int z43), (5, .int z35), (4, .int 0), (0, .ref p0), (1, .int p1), (2, .int p2), (3, .int p3)]) hx hb dX7_best_46 hl (by decide) rfl (fun ls hl => ?_)
      refine lv_aload_n hx hb dX7_best_48 rfl (lv_at hl 3 rfl) ?_
      refine lv_iload_n hx hb dX7_best_49 rfl (lv_at hl 5 rfl) ?_
      refine lv_iconst (v := 2) hx hb dX7_best_50 (by decide +kernel) ?_
      refine ro_i (va_runV (As := [.int p2, .int 2]) (rest := []) ⟨hx, hb, hml, hown, hts⟩ (s_X7_of l dC dI cs L K G Q hQ x0 m0 tx tm H.size I Jz26 hI p0 hLp0 hKp0 p2 ⟨by omega, by omega⟩ 2 ⟨by decide +kernel, by decide +kernel⟩) (cwV 2 hts (gV pq1320 pq1322 pq25 pq81 pq1323) rfl rfl rfl (by decide +kernel) ⟨(by rw [hR]; exact (Nat.le_of_ble_eq_true rfl)), (by rw [hR]; exact (Nat.le_of_ble_eq_true rfl))⟩) (sP_V hP hD hK hN hLp0 hKp0 rfl rfl) rfl rfl hl.1 rfl (lv_room (Nat.le_of_ble_eq_true rfl)) dX7_best_51 ⟨(by rw [hR]; exact (Nat.le_of_ble_eq_true rfl)), (by rw [hR]; exact (Nat.le_of_ble_eq_true rfl))⟩) hS hP (fun z51 H locs hz51 hP hS => ?_)
      have cst51_2 : (2 : Int32).toInt = 2 := by decide +kernel
      obtain ⟨fez51, xpz51⟩ := hz51
      have bz51 := xpz51.2.2.1 rfl
      refine lv_aload_n hx hb dX7_best_54 rfl (lv_at hl 3 rfl) ?_
      refine lv_aload_n hx hb dX7_best_55 rfl (lv_at hl 3 rfl) ?_
      refine lv_iload_n hx hb dX7_best_56 rfl (lv_at hl 4 rfl) ?_
      refine ro_i (va_runV (As := [.int p1]) (rest := [.ref p0, .int z51]) ⟨hx, hb, hml, hown, hts⟩ (s_X7_maskOf l dC dI cs L K G Q hQ x0 m0 tx tm H.size I Jz26 hI p0 hLp0 hKp0 p1 ⟨by omega, by omega⟩) (cwV 1 hts (gV pq1431 pq1433 pq41 pq81 pq1434) rfl rfl rfl (by decide +kernel) ⟨(by rw [hR]; exact (Nat.le_of_ble_eq_true rfl)), (by rw [hR]; exact (Nat.le_of_ble_eq_true rfl))⟩) (sP_V hP hD hK hN hLp0 hKp0 rfl rfl) rfl rfl hl.1 rfl (lv_room (Nat.le_of_ble_eq_true rfl)) dX7_best_57 ⟨(by rw [hR]; exact (Nat.le_of_ble_eq_true rfl)), (by rw [hR]; exact (Nat.le_of_ble_eq_true rfl))⟩) hS hP (fun z57 H locs hz57 hP hS => ?_)
      obtain ⟨bz57, fez57⟩ := hz57
      refine ro_i (va_runV (As := [.int z57]) (rest := [.int z51]) ⟨hx, hb, hml, hown, hts⟩ (s_X7_high l dC dI cs L K G Q hQ x0 m0 tx tm H.size I Jz26 hI p0 hLp0 hKp0 z57 ⟨by omega, by omega⟩) (cwV 1 hts (gV pq1372 pq1374 pq33 pq81 pq1375) rfl rfl rfl (by decide +kernel) ⟨(by rw [hR]; exact (Nat.le_of_ble_eq_true rfl)), (by rw [hR]; exact (Nat.le_of_ble_eq_true rfl))⟩) (sP_V hP hD hK hN hLp0 hKp0 rfl rfl) rfl rfl hl.1 rfl (lv_room (Nat.le_of_ble_eq_true rfl)) dX7_best_60 ⟨(by rw [hR]; exact (Nat.le_of_ble_eq_true rfl)), (by rw [hR]; exact (Nat.le_of_ble_eq_true rfl))⟩) hS hP (fun z60 H locs hz60 hP hS => ?_)
      obtain ⟨bz60, fez60⟩ := hz60
      refine lv_isub hx hb dX7_best_63 ?_
      refine lv_topi (fun z63 ez63 => ?_)
      have bz63 := tq_sub (k := z51.toInt) (q := z60.toInt) ez63 rfl rfl (by omega) (by omega)
      refine lv_iconst (v := 1) hx hb dX7_best_64 (by decide +kernel) ?_
      refine lv_iadd hx hb dX7_best_65 ?_
      refine lv_topi (fun z65 ez65 => ?_)
      have bz65 := tq_add (k := z63.toInt) (q := (1)) ez65 rfl (by decide +kernel) (by omega) (by omega)
      refine lv_istore (lv' := [(7, .int z65), (6, .int z43), (5, .int z35), (4, .int 0), (0, .ref p0), (1, .int p1), (2, .int p2), (3, .int p3)]) hx hb dX7_best_66 hl (by decide) rfl (fun ls hl => ?_)
      have key68 := blocks (fun n => ∀ (v68_4 : Int32) (v68_5 : Int32) (v68_6 : Int32) (v68_7 : Int32) (H : Heap) (lo : List Loc) (ls : Array Slot), (6000302 - v68_7.toInt).toNat = n → ((0) ≤ v68_4.toInt ∧ v68_4.toInt ≤ 2147483647) → ((-6000099) ≤ v68_5.toInt ∧ v68_5.toInt ≤ 6000099) → ((-6000039) ≤ v68_6.toInt ∧ v68_6.toInt ≤ 6000039) → ((-6000039) ≤ v68_7.toInt ∧ v68_7.toInt ≤ 6000301) → z65.toInt ≤ v68_7.toInt → (∀ σ : Sx, okF σ.1 → cmA Q I J p0 σ → bsJ (bsC σ.1 p1.toInt.toNat p2.toInt.toNat) 0 (bX σ.1 p1.toInt.toNat) (bY σ.1 p1.toInt.toNat) (v68_7.toInt) (-100000) v68_4.toInt v68_5.toInt v68_6.toInt) → va_P (dC, dI) vwCl (Wd cs L K I Jz26 Q) H → va_S A s.heap H lo → lv_has ls 10 [(0, .ref p0), (1, .int p1), (2, .int p2), (3, .int p3), (4, .int v68_4), (5, .int v68_5), (6, .int v68_6), (7, .int v68_7)] → W p l e R s m (([.ref p0, .int p1, .int p2, .int p3] : List Value).toArray) below meth c H lo 0 0 Qz (F0 m 68 ls [])) (by
        intro n ih68
        intro v68_4 v68_5 v68_6 v68_7 H lo ls hmu68 bv68_4 bv68_5 bv68_6 bv68_7 hx68 g68 hP hS hl
        refine lv_iload hx hb dX7_best_68 (lv_at hl 7 rfl) ?_
        refine lv_aload_n hx hb dX7_best_70 rfl (lv_at hl 0 rfl) ?_
        refine lv_iload_n hx hb dX7_best_71 rfl (lv_at hl 2 rfl) ?_
        refine lv_iconst (v := 2) hx hb dX7_best_72 (by decide +kernel) ?_
        refine ro_i (va_runV (As := [.int p2, .int 2]) (rest := [.int v68_7]) ⟨hx, hb, hml, hown, hts⟩ (s_X7_of l dC dI cs L K G Q hQ x0 m0 tx tm H.size I Jz26 hI p0 hLp0 hKp0 p2 ⟨by omega, by omega⟩ 2 ⟨by decide +kernel, by decide +kernel⟩) (cwV 2 hts (gV pq1320 pq1322 pq25 pq81 pq1323) rfl rfl rfl (by decide +kernel) ⟨(by rw [hR]; exact (Nat.le_of_ble_eq_true rfl)), (by rw [hR]; exact (Nat.le_of_ble_eq_true rfl))⟩) (sP_V hP hD hK hN hLp0 hKp0 rfl rfl) rfl rfl hl.1 rfl (lv_room (Nat.le_of_ble_eq_true rfl)) dX7_best_73 ⟨(by rw [hR]; exact (Nat.le_of_ble_eq_true rfl)), (by rw [hR]; exact (Nat.le_of_ble_eq_true rfl))⟩) hS hP (fun z73 H locs hz73 hP hS => ?_)
        have cst73_2 : (2 : Int32).toInt = 2 := by decide +kernel
        obtain ⟨fez73, xpz73⟩ := hz73
        have bz73 := xpz73.2.2.1 rfl
        obtain rfl : z51 = z73 := fez51.trans fez73.symm
        refine lv_aload_n hx hb dX7_best_76 rfl (lv_at hl 0 rfl) ?_
        refine lv_aload_n hx hb dX7_best_77 rfl (lv_at hl 0 rfl) ?_
        refine lv_iload_n hx hb dX7_best_78 rfl (lv_at hl 2 rfl) ?_
        refine ro_i (va_runV (As := [.int p2]) (rest := [.ref p0, .int z51, .int v68_7]) ⟨hx, hb, hml, hown, hts⟩ (s_X7_maskOf l dC dI cs L K G Q hQ x0 m0 tx tm H.size I Jz26 hI p0 hLp0 hKp0 p2 ⟨by omega, by omega⟩) (cwV 1 hts (gV pq1431 pq1433 pq41 pq81 pq1434) rfl rfl rfl (by decide +kernel) ⟨(by rw [hR]; exact (Nat.le_of_ble_eq_true rfl)), (by rw [hR]; exact (Nat.le_of_ble_eq_true rfl))⟩) (sP_V hP hD hK hN hLp0 hKp0 rfl rfl) rfl rfl hl.1 rfl (lv_room (Nat.le_of_ble_eq_true rfl)) dX7_best_79 ⟨(by rw [hR]; exact (Nat.le_of_ble_eq_true rfl)), (by rw [hR]; exact (Nat.le_of_ble_eq_true rfl))⟩) hS hP (fun z79 H locs hz79 hP hS => ?_)
        obtain ⟨bz79, fez79⟩ := hz79
        refine ro_i (va_runV (As := [.int z79]) (rest := [.int z51, .int v68_7]) ⟨hx, hb, hml, hown, hts⟩ (s_X7_high l dC dI cs L K G Q hQ x0 m0 tx tm H.size I Jz26 hI p0 hLp0 hKp0 z79 ⟨by omega, by omega⟩) (cwV 1 hts (gV pq1372 pq1374 pq33 pq81 pq1375) rfl rfl rfl (by decide +kernel) ⟨(by rw [hR]; exact (Nat.le_of_ble_eq_true rfl)), (by rw [hR]; exact (Nat.le_of_ble_eq_true rfl))⟩) (sP_V hP hD hK hN hLp0 hKp0 rfl rfl) rfl rfl hl.1 rfl (lv_room (Nat.le_of_ble_eq_true rfl)) dX7_best_82 ⟨(by rw [hR]; exact (Nat.le_of_ble_eq_true rfl)), (by rw [hR]; exact (Nat.le_of_ble_eq_true rfl))⟩) hS hP (fun z82 H locs hz82 hP hS => ?_)
        obtain ⟨bz82, fez82⟩ := hz82
        refine lv_iadd hx hb dX7_best_85 ?_
        refine lv_topi (fun z85 ez85 => ?_)
        have bz85 := tq_add (k := z51.toInt) (q := z82.toInt) ez85 rfl rfl (by omega) (by omega)
        refine lv_icmp_ge (tgt := 187) hx hb dX7_best_86 (by decide) (fun c86 => ?_) (fun c86 => ?_)
        · have t86 := tq_le (k := z85.toInt) (q := v68_7.toInt) c86 rfl rfl
          refine lv_iload_n hx hb dX7_best_187 rfl (lv_at hl 3 rfl) ?_
          refine lv_if_ne (tgt := 196) hx hb dX7_best_188 (by decide) (fun c188 => ?_) (fun c188 => ?_)
          · have t188 := tq_ne (k := p3.toInt) (q := (0)) c188 rfl (by decide +kernel)
            refine lv_iload_n hx hb dX7_best_196 rfl (lv_at hl 3 rfl) ?_
            refine lv_iconst (v := 1) hx hb dX7_best_197 (by decide +kernel) ?_
            refine lv_icmp_ne (tgt := 206) hx hb dX7_best_198 (by decide) (fun c198 => ?_) (fun c198 => ?_)
            · have t198 := tq_ne (k := p3.toInt) (q := (1)) c198 rfl (by decide +kernel)
              refine lv_iload hx hb dX7_best_206 (lv_at hl 6 rfl) ?_
              subst hR; subst hQz
              exact W.iret (v := v68_6) hx hb hr (fun t ht hW => ⟨⟨v68_6, (), rfl, (fun σ ok h => by have t := xpz3.mp t6; rw [cm_1 h] at t; have ha : p1.toInt.toNat < (σ.1.1 1).toInt.toNat := (by omega); have hb : p2.toInt.toNat < (σ.1.1 1).toInt.toNat := (by omega); have oa := okm_shp ok ha; have ob := okm_shp ok hb; have oa1 := oa.1; have oa2 := oa.2.1; have ob1 := ob.1; have ob2 := ob.2.1; have pb := ok.2.2.2 _ hb; have pb1 := pb.2.1; have pb2 := pb.2.2.1; have pa := ok.2.2.2 _ ha; have pa1 := pa.2.1; have pa2 := pa.2.2.1; have eX : bX σ.1 p2.toInt.toNat = (σ.1.1 (19 + 8 * p2.toInt.toNat + 1)).toInt := rfl; have eY : bY σ.1 p2.toInt.toNat = (σ.1.1 (19 + 8 * p2.toInt.toNat + 2)).toInt := rfl; have eXa : bX σ.1 p1.toInt.toNat = (σ.1.1 (19 + 8 * p1.toInt.toNat + 1)).toInt := rfl; have eYa : bY σ.1 p1.toInt.toNat = (σ.1.1 (19 + 8 * p1.toInt.toNat + 2)).toInt := rfl; have e35 : z35.toInt = bX σ.1 p1.toInt.toNat := congrArg Int32.toInt ((show z35 = I (a0 Q p0 0) (19 + 8 * p1.toInt.toNat + 1) from fez35).trans (cmA_n h (by omega))); have e43 : z43.toInt = bY σ.1 p1.toInt.toNat := congrArg Int32.toInt ((show z43 = I (a0 Q p0 0) (19 + 8 * p1.toInt.toNat + 2) from fez43).trans (cmA_n h (by omega))); have e51 : z51.toInt = bY σ.1 p2.toInt.toNat := congrArg Int32.toInt ((show z51 = I (a0 Q p0 0) (19 + 8 * p2.toInt.toNat + 2) from fez51).trans (cmA_n h (by omega))); have e57 : z57 = σ.1.1 (19 + 8 * p1.toInt.toNat) := (show z57 = I (a0 Q p0 0) (19 + 8 * p1.toInt.toNat) from fez57).trans (cmA_n h (by omega)); have e60 : z60.toInt = (bh_ σ.1 p1.toInt.toNat).toInt := congrArg Int32.toInt ((show z60 = I (a0 Q p0 0) (11 + z57.toInt.toNat) from fez60).trans ((cmA_n h (by omega)).trans (by rw [e57]; rfl))); have e79 : z79 = σ.1.1 (19 + 8 * p2.toInt.toNat) := (show z79 = I (a0 Q p0 0) (19 + 8 * p2.toInt.toNat) from fez79).trans (cmA_n h (by omega)); have e82 : z82.toInt = (bh_ σ.1 p2.toInt.toNat).toInt := congrArg Int32.toInt ((show z82 = I (a0 Q p0 0) (11 + z79.toInt.toNat) from fez82).trans ((cmA_n h (by omega)).trans (by rw [e79]; rfl))); exact ⟨fun _ => ⟨_, _, _, bs_end (g68 σ ok h) (bsC_b _ _ _) (fun x y => by by_cases w : bfr v68_7.toInt (-100000) y x; (exact Or.inl w); (exact Or.inr (bsC_w ok ha hb (by unfold bfr at w; omega)))) (Or.inl (Int.le_refl _)), by unfold bsA; rw [if_neg t188, if_neg t198]⟩, fun q => absurd ⟨t, by omega, by omega⟩ q⟩), ⟨I, Jz26, ⟨hI, rfl, (fun σ A => cmA_fr hQ hLp0 hKp0 (fun _ _ => rfl) (fun b hb => dj_Jz26 b (by omega)) rfl A), dj_Jz26⟩, by rw [ht]; exact hP⟩⟩, hS.F ht⟩) hS.2.2 dX7_best_208
            · have t198 := tq_eq (k := p3.toInt) (q := (1)) c198 rfl (by decide +kernel)
              refine lv_iload hx hb dX7_best_201 (lv_at hl 5 rfl) ?_
              refine lv_goto (tgt := 208) hx hb dX7_best_203 (by decide) ?_
              subst hR; subst hQz
              exact W.iret (v := v68_5) hx hb hr (fun t ht hW => ⟨⟨v68_5, (), rfl, (fun σ ok h => by have t := xpz3.mp t6; rw [cm_1 h] at t; have ha : p1.toInt.toNat < (σ.1.1 1).toInt.toNat := (by omega); have hb : p2.toInt.toNat < (σ.1.1 1).toInt.toNat := (by omega); have oa := okm_shp ok ha; have ob := okm_shp ok hb; have oa1 := oa.1; have oa2 := oa.2.1; have ob1 := ob.1; have ob2 := ob.2.1; have pb := ok.2.2.2 _ hb; have pb1 := pb.2.1; have pb2 := pb.2.2.1; have pa := ok.2.2.2 _ ha; have pa1 := pa.2.1; have pa2 := pa.2.2.1; have eX : bX σ.1 p2.toInt.toNat = (σ.1.1 (19 + 8 * p2.toInt.toNat + 1)).toInt := rfl; have eY : bY σ.1 p2.toInt.toNat = (σ.1.1 (19 + 8 * p2.toInt.toNat + 2)).toInt := rfl; have eXa : bX σ.1 p1.toInt.toNat = (σ.1.1 (19 + 8 * p1.toInt.toNat + 1)).toInt := rfl; have eYa : bY σ.1 p1.toInt.toNat = (σ.1.1 (19 + 8 * p1.toInt.toNat + 2)).toInt := rfl; have e35 : z35.toInt = bX σ.1 p1.toInt.toNat := congrArg Int32.toInt ((show z35 = I (a0 Q p0 0) (19 + 8 * p1.toInt.toNat + 1) from fez35).trans (cmA_n h (by omega))); have e43 : z43.toInt = bY σ.1 p1.toInt.toNat := congrArg Int32.toInt ((show z43 = I (a0 Q p0 0) (19 + 8 * p1.toInt.toNat + 2) from fez43).trans (cmA_n h (by omega))); have e51 : z51.toInt = bY σ.1 p2.toInt.toNat := congrArg Int32.toInt ((show z51 = I (a0 Q p0 0) (19 + 8 * p2.toInt.toNat + 2) from fez51).trans (cmA_n h (by omega))); have e57 : z57 = σ.1.1 (19 + 8 * p1.toInt.toNat) := (show z57 = I (a0 Q p0 0) (19 + 8 * p1.toInt.toNat) from fez57).trans (cmA_n h (by omega)); have e60 : z60.toInt = (bh_ σ.1 p1.toInt.toNat).toInt := congrArg Int32.toInt ((show z60 = I (a0 Q p0 0) (11 + z57.toInt.toNat) from fez60).trans ((cmA_n h (by omega)).trans (by rw [e57]; rfl))); have e79 : z79 = σ.1.1 (19 + 8 * p2.toInt.toNat) := (show z79 = I (a0 Q p0 0) (19 + 8 * p2.toInt.toNat) from fez79).trans (cmA_n h (by omega)); have e82 : z82.toInt = (bh_ σ.1 p2.toInt.toNat).toInt := congrArg Int32.toInt ((show z82 = I (a0 Q p0 0) (11 + z79.toInt.toNat) from fez82).trans ((cmA_n h (by omega)).trans (by rw [e79]; rfl))); exact ⟨fun _ => ⟨_, _, _, bs_end (g68 σ ok h) (bsC_b _ _ _) (fun x y => by by_cases w : bfr v68_7.toInt (-100000) y x; (exact Or.inl w); (exact Or.inr (bsC_w ok ha hb (by unfold bfr at w; omega)))) (Or.inl (Int.le_refl _)), by unfold bsA; rw [if_neg t188, if_pos t198]⟩, fun q => absurd ⟨t, by omega, by omega⟩ q⟩), ⟨I, Jz26, ⟨hI, rfl, (fun σ A => cmA_fr hQ hLp0 hKp0 (fun _ _ => rfl) (fun b hb => dj_Jz26 b (by omega)) rfl A), dj_Jz26⟩, by rw [ht]; exact hP⟩⟩, hS.F ht⟩) hS.2.2 dX7_best_208
          · have t188 := tq_eq (k := p3.toInt) (q := (0)) c188 rfl (by decide +kernel)
            refine lv_iload hx hb dX7_best_191 (lv_at hl 4 rfl) ?_
            refine lv_goto (tgt := 208) hx hb dX7_best_193 (by decide) ?_
            subst hR; subst hQz
            exact W.iret (v := v68_4) hx hb hr (fun t ht hW => ⟨⟨v68_4, (), rfl, (fun σ ok h => by have t := xpz3.mp t6; rw [cm_1 h] at t; have ha : p1.toInt.toNat < (σ.1.1 1).toInt.toNat := (by omega); have hb : p2.toInt.toNat < (σ.1.1 1).toInt.toNat := (by omega); have oa := okm_shp ok ha; have ob := okm_shp ok hb; have oa1 := oa.1; have oa2 := oa.2.1; have ob1 := ob.1; have ob2 := ob.2.1; have pb := ok.2.2.2 _ hb; have pb1 := pb.2.1; have pb2 := pb.2.2.1; have pa := ok.2.2.2 _ ha; have pa1 := pa.2.1; have pa2 := pa.2.2.1; have eX : bX σ.1 p2.toInt.toNat = (σ.1.1 (19 + 8 * p2.toInt.toNat + 1)).toInt := rfl; have eY : bY σ.1 p2.toInt.toNat = (σ.1.1 (19 + 8 * p2.toInt.toNat + 2)).toInt := rfl; have eXa : bX σ.1 p1.toInt.toNat = (σ.1.1 (19 + 8 * p1.toInt.toNat + 1)).toInt := rfl; have eYa : bY σ.1 p1.toInt.toNat = (σ.1.1 (19 + 8 * p1.toInt.toNat + 2)).toInt := rfl; have e35 : z35.toInt = bX σ.1 p1.toInt.toNat := congrArg Int32.toInt ((show z35 = I (a0 Q p0 0) (19 + 8 * p1.toInt.toNat + 1) from fez35).trans (cmA_n h (by omega))); have e43 : z43.toInt = bY σ.1 p1.toInt.toNat := congrArg Int32.toInt ((show z43 = I (a0 Q p0 0) (19 + 8 * p1.toInt.toNat + 2) from fez43).trans (cmA_n h (by omega))); have e51 : z51.toInt = bY σ.1 p2.toInt.toNat := congrArg Int32.toInt ((show z51 = I (a0 Q p0 0) (19 + 8 * p2.toInt.toNat + 2) from fez51).trans (cmA_n h (by omega))); have e57 : z57 = σ.1.1 (19 + 8 * p1.toInt.toNat) := (show z57 = I (a0 Q p0 0) (19 + 8 * p1.toInt.toNat) from fez57).trans (cmA_n h (by omega)); have e60 : z60.toInt = (bh_ σ.1 p1.toInt.toNat).toInt := congrArg Int32.toInt ((show z60 = I (a0 Q p0 0) (11 + z57.toInt.toNat) from fez60).trans ((cmA_n h (by omega)).trans (by rw [e57]; rfl))); have e79 : z79 = σ.1.1 (19 + 8 * p2.toInt.toNat) := (show z79 = I (a0 Q p0 0) (19 + 8 * p2.toInt.toNat) from fez79).trans (cmA_n h (by omega)); have e82 : z82.toInt = (bh_ σ.1 p2.toInt.toNat).toInt := congrArg Int32.toInt ((show z82 = I (a0 Q p0 0) (11 + z79.toInt.toNat) from fez82).trans ((cmA_n h (by omega)).trans (by rw [e79]; rfl))); exact ⟨fun _ => ⟨_, _, _, bs_end (g68 σ ok h) (bsC_b _ _ _) (fun x y => by by_cases w : bfr v68_7.toInt (-100000) y x; (exact Or.inl w); (exact Or.inr (bsC_w ok ha hb (by unfold bfr at w; omega)))) (Or.inl (Int.le_refl _)), by unfold bsA; rw [if_pos t188]⟩, fun q => absurd ⟨t, by omega, by omega⟩ q⟩), ⟨I, Jz26, ⟨hI, rfl, (fun σ A => cmA_fr hQ hLp0 hKp0 (fun _ _ => rfl) (fun b hb => dj_Jz26 b (by omega)) rfl A), dj_Jz26⟩, by rw [ht]; exact hP⟩⟩, hS.F ht⟩) hS.2.2 dX7_best_208
        · have t86 := tq_nle (k := z85.toInt) (q := v68_7.toInt) c86 rfl rfl
          refine lv_aload_n hx hb dX7_best_89 rfl (lv_at hl 0 rfl) ?_
          refine lv_iload_n hx hb dX7_best_90 rfl (lv_at hl 2 rfl) ?_
          refine lv_iconst (v := 1) hx hb dX7_best_91 (by decide +kernel) ?_
          refine ro_i (va_runV (As := [.int p2, .int 1]) (rest := []) ⟨hx, hb, hml, hown, hts⟩ (s_X7_of l dC dI cs L K G Q hQ x0 m0 tx tm H.size I Jz26 hI p0 hLp0 hKp0 p2 ⟨by omega, by omega⟩ 1 ⟨by decide +kernel, by decide +kernel⟩) (cwV 2 hts (gV pq1320 pq1322 pq25 pq81 pq1323) rfl rfl rfl (by decide +kernel) ⟨(by rw [hR]; exact (Nat.le_of_ble_eq_true rfl)), (by rw [hR]; exact (Nat.le_of_ble_eq_true rfl))⟩) (sP_V hP hD hK hN hLp0 hKp0 rfl rfl) rfl rfl hl.1 rfl (lv_room (Nat.le_of_ble_eq_true rfl)) dX7_best_92 ⟨(by rw [hR]; exact (Nat.le_of_ble_eq_true rfl)), (by rw [hR]; exact (Nat.le_of_ble_eq_true rfl))⟩) hS hP (fun z92 H locs hz92 hP hS => ?_)
          have cst92_1 : (1 : Int32).toInt = 1 := by decide +kernel
          obtain ⟨fez92, xpz92⟩ := hz92
          have bz92 := xpz92.2.1 rfl
          refine lv_aload_n hx hb dX7_best_95 rfl (lv_at hl 0 rfl) ?_
          refine lv_aload_n hx hb dX7_best_96 rfl (lv_at hl 0 rfl) ?_
          refine lv_iload_n hx hb dX7_best_97 rfl (lv_at hl 1 rfl) ?_
          refine ro_i (va_runV (As := [.int p1]) (rest := [.ref p0, .int z92]) ⟨hx, hb, hml, hown, hts⟩ (s_X7_maskOf l dC dI cs L K G Q hQ x0 m0 tx tm H.size I Jz26 hI p0 hLp0 hKp0 p1 ⟨by omega, by omega⟩) (cwV 1 hts (gV pq1431 pq1433 pq41 pq81 pq1434) rfl rfl rfl (by decide +kernel) ⟨(by rw [hR]; exact (Nat.le_of_ble_eq_true rfl)), (by rw [hR]; exact (Nat.le_of_ble_eq_true rfl))⟩) (sP_V hP hD hK hN hLp0 hKp0 rfl rfl) rfl rfl hl.1 rfl (lv_room (Nat.le_of_ble_eq_true rfl)) dX7_best_98 ⟨(by rw [hR]; exact (Nat.le_of_ble_eq_true rfl)), (by rw [hR]; exact (Nat.le_of_ble_eq_true rfl))⟩) hS hP (fun z98 H locs hz98 hP hS => ?_)
          obtain ⟨bz98, fez98⟩ := hz98
          obtain rfl : z57 = z98 := fez57.trans fez98.symm
          refine ro_i (va_runV (As := [.int z57]) (rest := [.int z92]) ⟨hx, hb, hml, hown, hts⟩ (s_X7_wide l dC dI cs L K G Q hQ x0 m0 tx tm H.size I Jz26 hI p0 hLp0 hKp0 z57 ⟨by omega, by omega⟩) (cwV 1 hts (gV pq1368 pq1370 pq32 pq81 pq1371) rfl rfl rfl (by decide +kernel) ⟨(by rw [hR]; exact (Nat.le_of_ble_eq_true rfl)), (by rw [hR]; exact (Nat.le_of_ble_eq_true rfl))⟩) (sP_V hP hD hK hN hLp0 hKp0 rfl rfl) rfl rfl hl.1 rfl (lv_room (Nat.le_of_ble_eq_true rfl)) dX7_best_101 ⟨(by rw [hR]; exact (Nat.le_of_ble_eq_true rfl)), (by rw [hR]; exact (Nat.le_of_ble_eq_true rfl))⟩) hS hP (fun z101 H locs hz101 hP hS => ?_)
          obtain ⟨bz101, fez101⟩ := hz101
          refine lv_isub hx hb dX7_best_104 ?_
          refine lv_topi (fun z104 ez104 => ?_)
          have bz104 := tq_sub (k := z92.toInt) (q := z101.toInt) ez104 rfl rfl (by omega) (by omega)
          refine lv_iconst (v := 1) hx hb dX7_best_105 (by decide +kernel) ?_
          refine lv_iadd hx hb dX7_best_106 ?_
          refine lv_topi (fun z106 ez106 => ?_)
          have bz106 := tq_add (k := z104.toInt) (q := (1)) ez106 rfl (by decide +kernel) (by omega) (by omega)
          refine lv_istore (lv' := [(8, .int z106), (0, .ref p0), (1, .int p1), (2, .int p2), (3, .int p3), (4, .int v68_4), (5, .int v68_5), (6, .int v68_6), (7, .int v68_7)]) hx hb dX7_best_107 hl (by decide) rfl (fun ls hl => ?_)
          have key109 := blocks (fun n => ∀ (v109_4 : Int32) (v109_5 : Int32) (v109_6 : Int32) (v109_8 : Int32) (H : Heap) (lo : List Loc) (ls : Array Slot), (6000302 - v109_8.toInt).toNat = n → ((0) ≤ v109_4.toInt ∧ v109_4.toInt ≤ 2147483647) → ((-6000099) ≤ v109_5.toInt ∧ v109_5.toInt ≤ 6000099) → ((-6000039) ≤ v109_6.toInt ∧ v109_6.toInt ≤ 6000039) → ((-6000099) ≤ v109_8.toInt ∧ v109_8.toInt ≤ 6000301) → z106.toInt ≤ v109_8.toInt → (∀ σ : Sx, okF σ.1 → cmA Q I J p0 σ → bsJ (bsC σ.1 p1.toInt.toNat p2.toInt.toNat) 0 (bX σ.1 p1.toInt.toNat) (bY σ.1 p1.toInt.toNat) (v68_7.toInt) (v109_8.toInt) v109_4.toInt v109_5.toInt v109_6.toInt) → va_P (dC, dI) vwCl (Wd cs L K I Jz26 Q) H → va_S A s.heap H lo → lv_has ls 10 [(0, .ref p0), (1, .int p1), (2, .int p2), (3, .int p3), (4, .int v109_4), (5, .int v109_5), (6, .int v109_6), (7, .int v68_7), (8, .int v109_8)] → W p l e R s m (([.ref p0, .int p1, .int p2, .int p3] : List Value).toArray) below meth c H lo 0 0 Qz (F0 m 109 ls [])) (by
            intro n ih109
            intro v109_4 v109_5 v109_6 v109_8 H lo ls hmu109 bv109_4 bv109_5 bv109_6 bv109_8 hx109 g109 hP hS hl
            refine lv_iload hx hb dX7_best_109 (lv_at hl 8 rfl) ?_
            refine lv_aload_n hx hb dX7_best_111 rfl (lv_at hl 0 rfl) ?_
            refine lv_iload_n hx hb dX7_best_112 rfl (lv_at hl 2 rfl) ?_
            refine lv_iconst (v := 1) hx hb dX7_best_113 (by decide +kernel) ?_
            refine ro_i (va_runV (As := [.int p2, .int 1]) (rest := [.int v109_8]) ⟨hx, hb, hml, hown, hts⟩ (s_X7_of l dC dI cs L K G Q hQ x0 m0 tx tm H.size I Jz26 hI p0 hLp0 hKp0 p2 ⟨by omega, by omega⟩ 1 ⟨by decide +kernel, by decide +kernel⟩) (cwV 2 hts (gV pq1320 pq1322 pq25 pq81 pq1323) rfl rfl rfl (by decide +kernel) ⟨(by rw [hR]; exact (Nat.le_of_ble_eq_true rfl)), (by rw [hR]; exact (Nat.le_of_ble_eq_true rfl))⟩) (sP_V hP hD hK hN hLp0 hKp0 rfl rfl) rfl rfl hl.1 rfl (lv_room (Nat.le_of_ble_eq_true rfl)) dX7_best_114 ⟨(by rw [hR]; exact (Nat.le_of_ble_eq_true rfl)), (by rw [hR]; exact (Nat.le_of_ble_eq_true rfl))⟩) hS hP (fun z114 H locs hz114 hP hS => ?_)
            have cst114_1 : (1 : Int32).toInt = 1 := by decide +kernel
            obtain ⟨fez114, xpz114⟩ := hz114
            have bz114 := xpz114.2.1 rfl
            obtain rfl : z92 = z114 := fez92.trans fez114.symm
            refine lv_aload_n hx hb dX7_best_117 rfl (lv_at hl 0 rfl) ?_
            refine lv_aload_n hx hb dX7_best_118 rfl (lv_at hl 0 rfl) ?_
            refine lv_iload_n hx hb dX7_best_119 rfl (lv_at hl 2 rfl) ?_
            refine ro_i (va_runV (As := [.int p2]) (rest := [.ref p0, .int z92, .int v109_8]) ⟨hx, hb, hml, hown, hts⟩ (s_X7_maskOf l dC dI cs L K G Q hQ x0 m0 tx tm H.size I Jz26 hI p0 hLp0 hKp0 p2 ⟨by omega, by omega⟩) (cwV 1 hts (gV pq1431 pq1433 pq41 pq81 pq1434) rfl rfl rfl (by decide +kernel) ⟨(by rw [hR]; exact (Nat.le_of_ble_eq_true rfl)), (by rw [hR]; exact (Nat.le_of_ble_eq_true rfl))⟩) (sP_V hP hD hK hN hLp0 hKp0 rfl rfl) rfl rfl hl.1 rfl (lv_room (Nat.le_of_ble_eq_true rfl)) dX7_best_120 ⟨(by rw [hR]; exact (Nat.le_of_ble_eq_true rfl)), (by rw [hR]; exact (Nat.le_of_ble_eq_true rfl))⟩) hS hP (fun z120 H locs hz120 hP hS => ?_)
            obtain ⟨bz120, fez120⟩ := hz120
            obtain rfl : z79 = z120 := fez79.trans fez120.symm
            refine ro_i (va_runV (As := [.int z79]) (rest := [.int z92, .int v109_8]) ⟨hx, hb, hml, hown, hts⟩ (s_X7_wide l dC dI cs L K G Q hQ x0 m0 tx tm H.size I Jz26 hI p0 hLp0 hKp0 z79 ⟨by omega, by omega⟩) (cwV 1 hts (gV pq1368 pq1370 pq32 pq81 pq1371) rfl rfl rfl (by decide +kernel) ⟨(by rw [hR]; exact (Nat.le_of_ble_eq_true rfl)), (by rw [hR]; exact (Nat.le_of_ble_eq_true rfl))⟩) (sP_V hP hD hK hN hLp0 hKp0 rfl rfl) rfl rfl hl.1 rfl (lv_room (Nat.le_of_ble_eq_true rfl)) dX7_best_123 ⟨(by rw [hR]; exact (Nat.le_of_ble_eq_true rfl)), (by rw [hR]; exact (Nat.le_of_ble_eq_true rfl))⟩) hS hP (fun z123 H locs hz123 hP hS => ?_)
            obtain ⟨bz123, fez123⟩ := hz123
            refine lv_iadd hx hb dX7_best_126 ?_
            refine lv_topi (fun z126 ez126 => ?_)
            have bz126 := tq_add (k := z92.toInt) (q := z123.toInt) ez126 rfl rfl (by omega) (by omega)
            refine lv_icmp_ge (tgt := 181) hx hb dX7_best_127 (by decide) (fun c127 => ?_) (fun c127 => ?_)
            · have t127 := tq_le (k := z126.toInt) (q := v109_8.toInt) c127 rfl rfl
              obtain ⟨z181, ez181⟩ : ∃ y : Int32, y = v68_7 + 1 := ⟨_, rfl⟩
              refine lv_iinc (v := z181) (lv' := [(7, .int z181), (0, .ref p0), (1, .int p1), (2, .int p2), (3, .int p3), (4, .int v109_4), (5, .int v109_5), (6, .int v109_6), (8, .int v109_8)]) hx hb dX7_best_181 hl (k := 7) rfl (by rw [ez181]; rfl) (by decide) rfl (fun ls hl => ?_)
              have bz181 := tq_add (k := v68_7.toInt) (q := 1) ez181 rfl (by decide +kernel) (by omega) (by omega)
              refine lv_goto (tgt := 68) hx hb dX7_best_184 (by decide) ?_
              exact ih68 _ (by omega) v109_4 v109_5 v109_6 z181 _ _ _ rfl ⟨by omega, by have := fb_rng v109_4; omega⟩ ⟨by omega, by omega⟩ ⟨by omega, by omega⟩ ⟨by omega, by omega⟩ (by omega) (fun σ ok h => by have t := xpz3.mp t6; rw [cm_1 h] at t; have ha : p1.toInt.toNat < (σ.1.1 1).toInt.toNat := (by omega); have hb : p2.toInt.toNat < (σ.1.1 1).toInt.toNat := (by omega); have oa := okm_shp ok ha; have ob := okm_shp ok hb; have oa1 := oa.1; have oa2 := oa.2.1; have ob1 := ob.1; have ob2 := ob.2.1; have pb := ok.2.2.2 _ hb; have pb1 := pb.2.1; have pb2 := pb.2.2.1; have pa := ok.2.2.2 _ ha; have pa1 := pa.2.1; have pa2 := pa.2.2.1; have eX : bX σ.1 p2.toInt.toNat = (σ.1.1 (19 + 8 * p2.toInt.toNat + 1)).toInt := rfl; have eY : bY σ.1 p2.toInt.toNat = (σ.1.1 (19 + 8 * p2.toInt.toNat + 2)).toInt := rfl; have eXa : bX σ.1 p1.toInt.toNat = (σ.1.1 (19 + 8 * p1.toInt.toNat + 1)).toInt := rfl; have eYa : bY σ.1 p1.toInt.toNat = (σ.1.1 (19 + 8 * p1.toInt.toNat + 2)).toInt := rfl; have e35 : z35.toInt = bX σ.1 p1.toInt.toNat := congrArg Int32.toInt ((show z35 = I (a0 Q p0 0) (19 + 8 * p1.toInt.toNat + 1) from fez35).trans (cmA_n h (by omega))); have e43 : z43.toInt = bY σ.1 p1.toInt.toNat := congrArg Int32.toInt ((show z43 = I (a0 Q p0 0) (19 + 8 * p1.toInt.toNat + 2) from fez43).trans (cmA_n h (by omega))); have e51 : z51.toInt = bY σ.1 p2.toInt.toNat := congrArg Int32.toInt ((show z51 = I (a0 Q p0 0) (19 + 8 * p2.toInt.toNat + 2) from fez51).trans (cmA_n h (by omega))); have e57 : z57 = σ.1.1 (19 + 8 * p1.toInt.toNat) := (show z57 = I (a0 Q p0 0) (19 + 8 * p1.toInt.toNat) from fez57).trans (cmA_n h (by omega)); have e60 : z60.toInt = (bh_ σ.1 p1.toInt.toNat).toInt := congrArg Int32.toInt ((show z60 = I (a0 Q p0 0) (11 + z57.toInt.toNat) from fez60).trans ((cmA_n h (by omega)).trans (by rw [e57]; rfl))); have e92 : z92.toInt = bX σ.1 p2.toInt.toNat := congrArg Int32.toInt ((show z92 = I (a0 Q p0 0) (19 + 8 * p2.toInt.toNat + 1) from fez92).trans (cmA_n h (by omega))); have e79 : z79 = σ.1.1 (19 + 8 * p2.toInt.toNat) := (show z79 = I (a0 Q p0 0) (19 + 8 * p2.toInt.toNat) from fez79).trans (cmA_n h (by omega)); have e123 : z123.toInt = (bw_ σ.1 p2.toInt.toNat).toInt := congrArg Int32.toInt ((show z123 = I (a0 Q p0 0) (3 + z79.toInt.toNat) from fez123).trans ((cmA_n h (by omega)).trans (by rw [e79]; rfl))); exact bs_mv (g109 σ ok h) (fun x y q => by by_cases w : bfr v68_7.toInt v109_8.toInt y x; (exact Or.inl w); (exact Or.inr (Or.inl (bsC_w ok ha hb (by unfold bfr at q w; omega)))))) hP hS (lv_sub hl [1, 2, 3, 4, 5, 6, 7, 0] rfl)
            · have t127 := tq_nle (k := z126.toInt) (q := v109_8.toInt) c127 rfl rfl
              refine lv_aload_n hx hb dX7_best_130 rfl (lv_at hl 0 rfl) ?_
              refine lv_iload_n hx hb dX7_best_131 rfl (lv_at hl 1 rfl) ?_
              refine lv_iload_n hx hb dX7_best_132 rfl (lv_at hl 2 rfl) ?_
              refine lv_iload hx hb dX7_best_133 (lv_at hl 8 rfl) ?_
              refine lv_aload_n hx hb dX7_best_135 rfl (lv_at hl 0 rfl) ?_
              refine lv_iload_n hx hb dX7_best_136 rfl (lv_at hl 1 rfl) ?_
              refine lv_iconst (v := 1) hx hb dX7_best_137 (by decide +kernel) ?_
              refine ro_i (va_runV (As := [.int p1, .int 1]) (rest := [.int v109_8, .int p2, .int p1, .ref p0]) ⟨hx, hb, hml, hown, hts⟩ (s_X7_of l dC dI cs L K G Q hQ x0 m0 tx tm H.size I Jz26 hI p0 hLp0 hKp0 p1 ⟨by omega, by omega⟩ 1 ⟨by decide +kernel, by decide +kernel⟩) (cwV 2 hts (gV pq1320 pq1322 pq25 pq81 pq1323) rfl rfl rfl (by decide +kernel) ⟨(by rw [hR]; exact (Nat.le_of_ble_eq_true rfl)), (by rw [hR]; exact (Nat.le_of_ble_eq_true rfl))⟩) (sP_V hP hD hK hN hLp0 hKp0 rfl rfl) rfl rfl hl.1 rfl (lv_room (Nat.le_of_ble_eq_true rfl)) dX7_best_138 ⟨(by rw [hR]; exact (Nat.le_of_ble_eq_true rfl)), (by rw [hR]; exact (Nat.le_of_ble_eq_true rfl))⟩) hS hP (fun z138 H locs hz138 hP hS => ?_)
              have cst138_1 : (1 : Int32).toInt = 1 := by decide +kernel
              obtain ⟨fez138, xpz138⟩ := hz138
              have bz138 := xpz138.2.1 rfl
              obtain rfl : z35 = z138 := fez35.trans fez138.symm
              refine lv_isub hx hb dX7_best_141 ?_
              refine lv_topi (fun z141 ez141 => ?_)
              have bz141 := tq_sub (k := v109_8.toInt) (q := z35.toInt) ez141 rfl rfl (by omega) (by omega)
              refine lv_iload hx hb dX7_best_142 (lv_at hl 7 rfl) ?_
              refine lv_aload_n hx hb dX7_best_144 rfl (lv_at hl 0 rfl) ?_
              refine lv_iload_n hx hb dX7_best_145 rfl (lv_at hl 1 rfl) ?_
              refine lv_iconst (v := 2) hx hb dX7_best_146 (by decide +kernel) ?_
              refine ro_i (va_runV (As := [.int p1, .int 2]) (rest := [.int v68_7, .int z141, .int p2, .int p1, .ref p0]) ⟨hx, hb, hml, hown, hts⟩ (s_X7_of l dC dI cs L K G Q hQ x0 m0 tx tm H.size I Jz26 hI p0 hLp0 hKp0 p1 ⟨by omega, by omega⟩ 2 ⟨by decide +kernel, by decide +kernel⟩) (cwV 2 hts (gV pq1320 pq1322 pq25 pq81 pq1323) rfl rfl rfl (by decide +kernel) ⟨(by rw [hR]; exact (Nat.le_of_ble_eq_true rfl)), (by rw [hR]; exact (Nat.le_of_ble_eq_true rfl))⟩) (sP_V hP hD hK hN hLp0 hKp0 rfl rfl) rfl rfl hl.1 rfl (lv_room (Nat.le_of_ble_eq_true rfl)) dX7_best_147 ⟨(by rw [hR]; exact (Nat.le_of_ble_eq_true rfl)), (by rw [hR]; exact (Nat.le_of_ble_eq_true rfl))⟩) hS hP (fun z147 H locs hz147 hP hS => ?_)
              have cst147_2 : (2 : Int32).toInt = 2 := by decide +kernel
              obtain ⟨fez147, xpz147⟩ := hz147
              have bz147 := xpz147.2.2.1 rfl
              obtain rfl : z43 = z147 := fez43.trans fez147.symm
              refine lv_isub hx hb dX7_best_150 ?_
              refine lv_topi (fun z150 ez150 => ?_)
              have bz150 := tq_sub (k := v68_7.toInt) (q := z43.toInt) ez150 rfl rfl (by omega) (by omega)
              refine ro_i (va_runV (As := [.int p1, .int p2, .int z141, .int z150]) (rest := []) ⟨hx, hb, hml, hown, hts⟩ (s_X7_commonBy l dC dI cs L K G Q hQ x0 m0 tx tm H.size I Jz26 hI p0 hLp0 hKp0 p1 ⟨by omega, by omega⟩ p2 ⟨by omega, by omega⟩ z141 z150 ⟨by omega, by omega⟩) (cwV 4 hts (gV pq1575 pq1577 pq63 pq81 pq1578) rfl rfl rfl (by decide +kernel) ⟨(by rw [hR]; exact (Nat.le_of_ble_eq_true rfl)), (by rw [hR]; exact (Nat.le_of_ble_eq_true rfl))⟩) (sP_V hP hD hK hN hLp0 hKp0 rfl rfl) rfl rfl hl.1 rfl (lv_room (Nat.le_of_ble_eq_true rfl)) dX7_best_151 ⟨(by rw [hR]; exact (Nat.le_of_ble_eq_true rfl)), (by rw [hR]; exact (Nat.le_of_ble_eq_true rfl))⟩) hS hP (fun z151 H locs hz151 hP hS => ?_)
              have xpz151 := hz151
              refine lv_istore (lv' := [(9, .int z151), (0, .ref p0), (1, .int p1), (2, .int p2), (3, .int p3), (4, .int v109_4), (5, .int v109_5), (6, .int v109_6), (7, .int v68_7), (8, .int v109_8)]) hx hb dX7_best_154 hl (by decide) rfl (fun ls hl => ?_)
              refine lv_iload hx hb dX7_best_156 (lv_at hl 0 rfl) ?_
              refine lv_iload hx hb dX7_best_158 (lv_at hl 5 rfl) ?_
              have j175 : ∀ (v175_4 : Int32) (v175_5 : Int32) (v175_6 : Int32) (H : Heap) (lo : List Loc) (ls : Array Slot), ((0) ≤ v175_4.toInt ∧ v175_4.toInt ≤ 2147483647) → ((-6000099) ≤ v175_5.toInt ∧ v175_5.toInt ≤ 6000099) → ((-6000039) ≤ v175_6.toInt ∧ v175_6.toInt ≤ 6000039) → (∀ σ : Sx, okF σ.1 → cmA Q I J p0 σ → bsJ (bsC σ.1 p1.toInt.toNat p2.toInt.toNat) 0 (bX σ.1 p1.toInt.toNat) (bY σ.1 p1.toInt.toNat) (v68_7.toInt) (v109_8.toInt + 1) v175_4.toInt v175_5.toInt v175_6.toInt) → va_P (dC, dI) vwCl (Wd cs L K I Jz26 Q) H → va_S A s.heap H lo → lv_has ls 10 [(0, .ref p0), (1, .int p1), (2, .int p2), (3, .int p3), (4, .int v175_4), (5, .int v175_5), (6, .int v175_6), (7, .int v68_7), (8, .int v109_8), (9, .int z151)] → W p l e R s m (([.ref p0, .int p1, .int p2, .int p3] : List Value).toArray) below meth c H lo 0 0 Qz (F0 m 175 ls []) := by
                intro v175_4 v175_5 v175_6 H lo ls bv175_4 bv175_5 bv175_6 g175 hP hS hl
                obtain ⟨z175, ez175⟩ : ∃ y : Int32, y = v109_8 + 1 := ⟨_, rfl⟩
                refine lv_iinc (v := z175) (lv' := [(8, .int z175), (0, .ref p0), (1, .int p1), (2, .int p2), (3, .int p3), (4, .int v175_4), (5, .int v175_5), (6, .int v175_6), (7, .int v68_7), (9, .int z151)]) hx hb dX7_best_175 hl (k := 8) rfl (by rw [ez175]; rfl) (by decide) rfl (fun ls hl => ?_)
                have bz175 := tq_add (k := v109_8.toInt) (q := 1) ez175 rfl (by decide +kernel) (by omega) (by omega)
                refine lv_goto (tgt := 109) hx hb dX7_best_178 (by decide) ?_
                exact ih109 _ (by omega) v175_4 v175_5 v175_6 z175 _ _ _ rfl ⟨by omega, by have := fb_rng v175_4; omega⟩ ⟨by omega, by omega⟩ ⟨by omega, by omega⟩ ⟨by omega, by omega⟩ (by omega) (fun σ ok h => by rw [show z175.toInt = v109_8.toInt + 1 by omega]; exact g175 σ ok h) hP hS (lv_sub hl [1, 2, 3, 4, 5, 6, 7, 8, 0] rfl)
              refine lv_icmp_le (tgt := 175) hx hb dX7_best_160 (by decide) (fun c160 => ?_) (fun c160 => ?_)
              · have t160 := tq_le (k := z151.toInt) (q := v109_4.toInt) c160 rfl rfl
                exact j175 v109_4 v109_5 v109_6 _ _ _ ⟨by omega, by have := fb_rng v109_4; omega⟩ ⟨by omega, by omega⟩ ⟨by omega, by omega⟩ (fun σ ok h => by have t := xpz3.mp t6; rw [cm_1 h] at t; have ha : p1.toInt.toNat < (σ.1.1 1).toInt.toNat := (by omega); have hb : p2.toInt.toNat < (σ.1.1 1).toInt.toNat := (by omega); have oa := okm_shp ok ha; have ob := okm_shp ok hb; have oa1 := oa.1; have oa2 := oa.2.1; have ob1 := ob.1; have ob2 := ob.2.1; have pb := ok.2.2.2 _ hb; have pb1 := pb.2.1; have pb2 := pb.2.2.1; have pa := ok.2.2.2 _ ha; have pa1 := pa.2.1; have pa2 := pa.2.2.1; have eX : bX σ.1 p2.toInt.toNat = (σ.1.1 (19 + 8 * p2.toInt.toNat + 1)).toInt := rfl; have eY : bY σ.1 p2.toInt.toNat = (σ.1.1 (19 + 8 * p2.toInt.toNat + 2)).toInt := rfl; have eXa : bX σ.1 p1.toInt.toNat = (σ.1.1 (19 + 8 * p1.toInt.toNat + 1)).toInt := rfl; have eYa : bY σ.1 p1.toInt.toNat = (σ.1.1 (19 + 8 * p1.toInt.toNat + 2)).toInt := rfl; have e35 : z35.toInt = bX σ.1 p1.toInt.toNat := congrArg Int32.toInt ((show z35 = I (a0 Q p0 0) (19 + 8 * p1.toInt.toNat + 1) from fez35).trans (cmA_n h (by omega))); have e43 : z43.toInt = bY σ.1 p1.toInt.toNat := congrArg Int32.toInt ((show z43 = I (a0 Q p0 0) (19 + 8 * p1.toInt.toNat + 2) from fez43).trans (cmA_n h (by omega))); have e51 : z51.toInt = bY σ.1 p2.toInt.toNat := congrArg Int32.toInt ((show z51 = I (a0 Q p0 0) (19 + 8 * p2.toInt.toNat + 2) from fez51).trans (cmA_n h (by omega))); have e57 : z57 = σ.1.1 (19 + 8 * p1.toInt.toNat) := (show z57 = I (a0 Q p0 0) (19 + 8 * p1.toInt.toNat) from fez57).trans (cmA_n h (by omega)); have e60 : z60.toInt = (bh_ σ.1 p1.toInt.toNat).toInt := congrArg Int32.toInt ((show z60 = I (a0 Q p0 0) (11 + z57.toInt.toNat) from fez60).trans ((cmA_n h (by omega)).trans (by rw [e57]; rfl))); have e92 : z92.toInt = bX σ.1 p2.toInt.toNat := congrArg Int32.toInt ((show z92 = I (a0 Q p0 0) (19 + 8 * p2.toInt.toNat + 1) from fez92).trans (cmA_n h (by omega))); have e79 : z79 = σ.1.1 (19 + 8 * p2.toInt.toNat) := (show z79 = I (a0 Q p0 0) (19 + 8 * p2.toInt.toNat) from fez79).trans (cmA_n h (by omega)); have e82 : z82.toInt = (bh_ σ.1 p2.toInt.toNat).toInt := congrArg Int32.toInt ((show z82 = I (a0 Q p0 0) (11 + z79.toInt.toNat) from fez82).trans ((cmA_n h (by omega)).trans (by rw [e79]; rfl))); have e101 : z101.toInt = (bw_ σ.1 p1.toInt.toNat).toInt := congrArg Int32.toInt ((show z101 = I (a0 Q p0 0) (3 + z57.toInt.toNat) from fez101).trans ((cmA_n h (by omega)).trans (by rw [e57]; rfl))); have e123 : z123.toInt = (bw_ σ.1 p2.toInt.toNat).toInt := congrArg Int32.toInt ((show z123 = I (a0 Q p0 0) (3 + z79.toInt.toNat) from fez123).trans ((cmA_n h (by omega)).trans (by rw [e79]; rfl))); have eC : z151.toInt = bsC σ.1 p1.toInt.toNat p2.toInt.toNat v109_8.toInt v68_7.toInt := (xpz151 σ.1 ok (cmA_rI h) (jz26 σ.1 ok (cmA_rI h) (cmA_rJ h)) ha hb ⟨⟨by omega, by omega⟩, by omega, by omega⟩).trans (bsC_co (by omega) (by omega)); exact bs_mv (g109 σ ok h) (fun x y q => by by_cases w : bfr v68_7.toInt v109_8.toInt y x; (exact Or.inl w); (have e : x = v109_8.toInt ∧ y = v68_7.toInt := (by unfold bfr at q w; omega); rw [e.1, e.2, ← eC]; exact Or.inr (Or.inr (Or.inl (by omega)))))) hP hS (lv_sub hl [1, 2, 3, 4, 5, 6, 7, 8, 9, 0] rfl)
              · have t160 := tq_nle (k := z151.toInt) (q := v109_4.toInt) c160 rfl rfl
                have rg160z151 := fb_rng z151
                have rg160v109_4 := fb_rng v109_4
                refine lv_iload hx hb dX7_best_163 (lv_at hl 0 rfl) ?_
                refine lv_istore (lv' := [(4, .int z151), (9, .int z151), (0, .ref p0), (1, .int p1), (2, .int p2), (3, .int p3), (5, .int v109_5), (6, .int v109_6), (7, .int v68_7), (8, .int v109_8)]) hx hb dX7_best_165 hl (by decide) rfl (fun ls hl => ?_)
                refine lv_iload hx hb dX7_best_167 (lv_at hl 9 rfl) ?_
                refine lv_istore (lv' := [(5, .int v109_8), (4, .int z151), (9, .int z151), (0, .ref p0), (1, .int p1), (2, .int p2), (3, .int p3), (6, .int v109_6), (7, .int v68_7), (8, .int v109_8)]) hx hb dX7_best_169 hl (by decide) rfl (fun ls hl => ?_)
                refine lv_iload hx hb dX7_best_171 (lv_at hl 8 rfl) ?_
                refine lv_istore (lv' := [(6, .int v68_7), (5, .int v109_8), (4, .int z151), (9, .int z151), (0, .ref p0), (1, .int p1), (2, .int p2), (3, .int p3), (7, .int v68_7), (8, .int v109_8)]) hx hb dX7_best_173 hl (by decide) rfl (fun ls hl => ?_)
                exact j175 z151 v109_8 v68_7 _ _ _ ⟨by omega, by have := fb_rng z151; omega⟩ ⟨by omega, by omega⟩ ⟨by omega, by omega⟩ (fun σ ok h => by have t := xpz3.mp t6; rw [cm_1 h] at t; have ha : p1.toInt.toNat < (σ.1.1 1).toInt.toNat := (by omega); have hb : p2.toInt.toNat < (σ.1.1 1).toInt.toNat := (by omega); have oa := okm_shp ok ha; have ob := okm_shp ok hb; have oa1 := oa.1; have oa2 := oa.2.1; have ob1 := ob.1; have ob2 := ob.2.1; have pb := ok.2.2.2 _ hb; have pb1 := pb.2.1; have pb2 := pb.2.2.1; have pa := ok.2.2.2 _ ha; have pa1 := pa.2.1; have pa2 := pa.2.2.1; have eX : bX σ.1 p2.toInt.toNat = (σ.1.1 (19 + 8 * p2.toInt.toNat + 1)).toInt := rfl; have eY : bY σ.1 p2.toInt.toNat = (σ.1.1 (19 + 8 * p2.toInt.toNat + 2)).toInt := rfl; have eXa : bX σ.1 p1.toInt.toNat = (σ.1.1 (19 + 8 * p1.toInt.toNat + 1)).toInt := rfl; have eYa : bY σ.1 p1.toInt.toNat = (σ.1.1 (19 + 8 * p1.toInt.toNat + 2)).toInt := rfl; have e35 : z35.toInt = bX σ.1 p1.toInt.toNat := congrArg Int32.toInt ((show z35 = I (a0 Q p0 0) (19 + 8 * p1.toInt.toNat + 1) from fez35).trans (cmA_n h (by omega))); have e43 : z43.toInt = bY σ.1 p1.toInt.toNat := congrArg Int32.toInt ((show z43 = I (a0 Q p0 0) (19 + 8 * p1.toInt.toNat + 2) from fez43).trans (cmA_n h (by omega))); have e51 : z51.toInt = bY σ.1 p2.toInt.toNat := congrArg Int32.toInt ((show z51 = I (a0 Q p0 0) (19 + 8 * p2.toInt.toNat + 2) from fez51).trans (cmA_n h (by omega))); have e57 : z57 = σ.1.1 (19 + 8 * p1.toInt.toNat) := (show z57 = I (a0 Q p0 0) (19 + 8 * p1.toInt.toNat) from fez57).trans (cmA_n h (by omega)); have e60 : z60.toInt = (bh_ σ.1 p1.toInt.toNat).toInt := congrArg Int32.toInt ((show z60 = I (a0 Q p0 0) (11 + z57.toInt.toNat) from fez60).trans ((cmA_n h (by omega)).trans (by rw [e57]; rfl))); have e92 : z92.toInt = bX σ.1 p2.toInt.toNat := congrArg Int32.toInt ((show z92 = I (a0 Q p0 0) (19 + 8 * p2.toInt.toNat + 1) from fez92).trans (cmA_n h (by omega))); have e79 : z79 = σ.1.1 (19 + 8 * p2.toInt.toNat) := (show z79 = I (a0 Q p0 0) (19 + 8 * p2.toInt.toNat) from fez79).trans (cmA_n h (by omega)); have e82 : z82.toInt = (bh_ σ.1 p2.toInt.toNat).toInt := congrArg Int32.toInt ((show z82 = I (a0 Q p0 0) (11 + z79.toInt.toNat) from fez82).trans ((cmA_n h (by omega)).trans (by rw [e79]; rfl))); have e101 : z101.toInt = (bw_ σ.1 p1.toInt.toNat).toInt := congrArg Int32.toInt ((show z101 = I (a0 Q p0 0) (3 + z57.toInt.toNat) from fez101).trans ((cmA_n h (by omega)).trans (by rw [e57]; rfl))); have e123 : z123.toInt = (bw_ σ.1 p2.toInt.toNat).toInt := congrArg Int32.toInt ((show z123 = I (a0 Q p0 0) (3 + z79.toInt.toNat) from fez123).trans ((cmA_n h (by omega)).trans (by rw [e79]; rfl))); have eC : z151.toInt = bsC σ.1 p1.toInt.toNat p2.toInt.toNat v109_8.toInt v68_7.toInt := (xpz151 σ.1 ok (cmA_rI h) (jz26 σ.1 ok (cmA_rI h) (cmA_rJ h)) ha hb ⟨⟨by omega, by omega⟩, by omega, by omega⟩).trans (bsC_co (by omega) (by omega)); exact bs_new (g109 σ ok h) eC (by omega) rfl) hP hS (lv_sub hl [4, 5, 6, 7, 2, 1, 0, 8, 9, 3] rfl))
          exact key109 _ v68_4 v68_5 v68_6 z106 _ _ _ rfl ⟨by omega, by have := fb_rng v68_4; omega⟩ ⟨by omega, by omega⟩ ⟨by omega, by omega⟩ ⟨by omega, by omega⟩ (by omega) (fun σ ok h => by have t := xpz3.mp t6; rw [cm_1 h] at t; have ha : p1.toInt.toNat < (σ.1.1 1).toInt.toNat := (by omega); have hb : p2.toInt.toNat < (σ.1.1 1).toInt.toNat := (by omega); have oa := okm_shp ok ha; have ob := okm_shp ok hb; have oa1 := oa.1; have oa2 := oa.2.1; have ob1 := ob.1; have ob2 := ob.2.1; have pb := ok.2.2.2 _ hb; have pb1 := pb.2.1; have pb2 := pb.2.2.1; have pa := ok.2.2.2 _ ha; have pa1 := pa.2.1; have pa2 := pa.2.2.1; have eX : bX σ.1 p2.toInt.toNat = (σ.1.1 (19 + 8 * p2.toInt.toNat + 1)).toInt := rfl; have eY : bY σ.1 p2.toInt.toNat = (σ.1.1 (19 + 8 * p2.toInt.toNat + 2)).toInt := rfl; have eXa : bX σ.1 p1.toInt.toNat = (σ.1.1 (19 + 8 * p1.toInt.toNat + 1)).toInt := rfl; have eYa : bY σ.1 p1.toInt.toNat = (σ.1.1 (19 + 8 * p1.toInt.toNat + 2)).toInt := rfl; have e35 : z35.toInt = bX σ.1 p1.toInt.toNat := congrArg Int32.toInt ((show z35 = I (a0 Q p0 0) (19 + 8 * p1.toInt.toNat + 1) from fez35).trans (cmA_n h (by omega))); have e43 : z43.toInt = bY σ.1 p1.toInt.toNat := congrArg Int32.toInt ((show z43 = I (a0 Q p0 0) (19 + 8 * p1.toInt.toNat + 2) from fez43).trans (cmA_n h (by omega))); have e51 : z51.toInt = bY σ.1 p2.toInt.toNat := congrArg Int32.toInt ((show z51 = I (a0 Q p0 0) (19 + 8 * p2.toInt.toNat + 2) from fez51).trans (cmA_n h (by omega))); have e57 : z57 = σ.1.1 (19 + 8 * p1.toInt.toNat) := (show z57 = I (a0 Q p0 0) (19 + 8 * p1.toInt.toNat) from fez57).trans (cmA_n h (by omega)); have e60 : z60.toInt = (bh_ σ.1 p1.toInt.toNat).toInt := congrArg Int32.toInt ((show z60 = I (a0 Q p0 0) (11 + z57.toInt.toNat) from fez60).trans ((cmA_n h (by omega)).trans (by rw [e57]; rfl))); have e92 : z92.toInt = bX σ.1 p2.toInt.toNat := congrArg Int32.toInt ((show z92 = I (a0 Q p0 0) (19 + 8 * p2.toInt.toNat + 1) from fez92).trans (cmA_n h (by omega))); have e101 : z101.toInt = (bw_ σ.1 p1.toInt.toNat).toInt := congrArg Int32.toInt ((show z101 = I (a0 Q p0 0) (3 + z57.toInt.toNat) from fez101).trans ((cmA_n h (by omega)).trans (by rw [e57]; rfl))); exact bs_mv (g68 σ ok h) (fun x y q => by by_cases w : bfr v68_7.toInt (-100000) y x; (exact Or.inl w); (exact Or.inr (Or.inl (bsC_w ok ha hb (by unfold bfr at q w; omega)))))) hP hS (lv_sub hl [1, 2, 3, 4, 5, 6, 7, 8, 0] rfl))
      exact key68 _ 0 z35 z43 z65 _ _ _ rfl ⟨by decide +kernel, by decide +kernel⟩ ⟨by omega, by omega⟩ ⟨by omega, by omega⟩ ⟨by omega, by omega⟩ (by omega) (fun σ ok h => by have t := xpz3.mp t6; rw [cm_1 h] at t; have ha : p1.toInt.toNat < (σ.1.1 1).toInt.toNat := (by omega); have hb : p2.toInt.toNat < (σ.1.1 1).toInt.toNat := (by omega); have oa := okm_shp ok ha; have ob := okm_shp ok hb; have oa1 := oa.1; have oa2 := oa.2.1; have ob1 := ob.1; have ob2 := ob.2.1; have pb := ok.2.2.2 _ hb; have pb1 := pb.2.1; have pb2 := pb.2.2.1; have pa := ok.2.2.2 _ ha; have pa1 := pa.2.1; have pa2 := pa.2.2.1; have eX : bX σ.1 p2.toInt.toNat = (σ.1.1 (19 + 8 * p2.toInt.toNat + 1)).toInt := rfl; have eY : bY σ.1 p2.toInt.toNat = (σ.1.1 (19 + 8 * p2.toInt.toNat + 2)).toInt := rfl; have eXa : bX σ.1 p1.toInt.toNat = (σ.1.1 (19 + 8 * p1.toInt.toNat + 1)).toInt := rfl; have eYa : bY σ.1 p1.toInt.toNat = (σ.1.1 (19 + 8 * p1.toInt.toNat + 2)).toInt := rfl; have e35 : z35.toInt = bX σ.1 p1.toInt.toNat := congrArg Int32.toInt ((show z35 = I (a0 Q p0 0) (19 + 8 * p1.toInt.toNat + 1) from fez35).trans (cmA_n h (by omega))); have e43 : z43.toInt = bY σ.1 p1.toInt.toNat := congrArg Int32.toInt ((show z43 = I (a0 Q p0 0) (19 + 8 * p1.toInt.toNat + 2) from fez43).trans (cmA_n h (by omega))); have e51 : z51.toInt = bY σ.1 p2.toInt.toNat := congrArg Int32.toInt ((show z51 = I (a0 Q p0 0) (19 + 8 * p2.toInt.toNat + 2) from fez51).trans (cmA_n h (by omega))); have e57 : z57 = σ.1.1 (19 + 8 * p1.toInt.toNat) := (show z57 = I (a0 Q p0 0) (19 + 8 * p1.toInt.toNat) from fez57).trans (cmA_n h (by omega)); have e60 : z60.toInt = (bh_ σ.1 p1.toInt.toNat).toInt := congrArg Int32.toInt ((show z60 = I (a0 Q p0 0) (11 + z57.toInt.toNat) from fez60).trans ((cmA_n h (by omega)).trans (by rw [e57]; rfl))); rw [e35, e43, show (0 : Int32).toInt = 0 from by decide +kernel]; exact bs_0 (fun x y q => bsC_w ok ha hb (by unfold bfr at q; omega))) hP hS (lv_sub hl [4, 5, 6, 7, 3, 2, 1, 0] rfl)
    · have t18 := tq_eq (k := z15.toInt) (q := (0)) c18 rfl (by decide +kernel)
      refine lv_sipush (v := (-2000)) hx hb dX7_best_21 (by decide +kernel) ?_
      subst hR; subst hQz
      exact W.iret (v := (-2000)) hx hb hr (fun t ht hW => ⟨⟨(-2000), (), rfl, (fun σ ok h => by have e := cm_1 h; exact ⟨fun w => absurd w (fun w => by first | (have t := w.1; unfold twV at t; rw [← e] at t; exact (xpz3.mpr t) t6) | exact xpz15 t18 ⟨by have a := w.2; omega, by have a := w.2; omega⟩), fun _ => by decide +kernel⟩), ⟨I, J, ⟨hI, rfl, (fun σ A => cmA_fr hQ hLp0 hKp0 (fun _ _ => rfl) (fun _ _ => rfl) rfl A), dj_J⟩, by rw [ht]; exact hP⟩⟩, hS.F ht⟩) hS.2.2 dX7_best_24

set_option maxHeartbeats 4000000 in
set_option maxRecDepth 100000 in
theorem s_X7_masksMeet (l : Launch) (dC : Nat → ClassId) (dI : Nat → Nat → Nat) (cs : Nat → ClassId) (L : List Nat) (K G : Nat → Nat) (Q : Nat → Nat → Option Nat) (hQ : Sv L K G Q) (x0 m0 : Nat) (tx : GT) (tm : GT × Int) (sz : Nat) (I : Nat → Nat → Int32) (J : Nat → Nat → Int64) (hI : Iv L K x0 m0 tx tm I) (p0 : Nat) (hLp0 : p0 ∈ L) (hKp0 : K p0 = 7) (p1 : Int32) (bp1 : (0) ≤ p1.toInt ∧ p1.toInt ≤ 7) (p2 : Int32) (bp2 : (0) ≤ p2.toInt ∧ p2.toInt ≤ 7) (p3 : Int32) (p4 : Int32) (bp4 : (-1000) ≤ p4.toInt ∧ p4.toInt ≤ 1000) : Met l yX7_masksMeet (.code yX7_masksMeet cX7_masksMeet 8 (some .boolean) :: pw) ({ frames := 1, cells := 0, slots := 0, locals := 25 }) (sP (dC, dI) cs [.ref p0, .int p1, .int p2, .int p3, .int p4] sz L K I J Q) (va_Qi (fun (r : Int32) (_ : Unit) => ((0) ≤ r.toInt ∧ r.toInt ≤ 1) ∧ (∀ c : Fx, okF c → rI Q I p0 c → rJ Q J p0 c → p1.toInt.toNat < (c.1 0).toInt.toNat → p2.toInt.toNat < (c.1 0).toInt.toNat → (¬ r.toInt = 0 ↔ ovl (mo c.2 p2.toInt.toNat) (mo c.2 p1.toInt.toNat) p3.toInt p4.toInt))) (fun _ _ => True) (fun _ => False)) 0 0 (fun _ => False) := by
  refine Met.ofW (cc := cX7_masksMeet) (maxL := 8) (ret := (some .boolean)) (by decide +kernel) rfl ?_
  intro p e s m args below meth c s₁ B hml hv
  obtain ⟨rfl, hsz, hP, hK, hD0, hN⟩ := hv
  have hx := B.exec
  have hb := B.bytes
  have hr := B.returns
  have hts := fun w (h : w ∈ pw) => atoms_spec (ws := Cond.code yX7_masksMeet cX7_masksMeet 8 (some .boolean) :: pw) B.pre w (List.mem_cons_of_mem _ h)
  have hown : s.vm.findClass RX7 = some m.cls := findClass_of_methodNamed B.named
  have hlocks := B.notSynchronized
  subst hsz
  have hBB : 999 ≤ tm.2 ∧ tm.2 ≤ 6000000 := hI.2.2.2.2.1
  have hD := hD0
  obtain ⟨H, hHe⟩ : ∃ H : Heap, H = s.heap := ⟨_, rfl⟩
  have hS : va_S (fun _ => False) s.heap H [] := by rw [hHe]; exact va_S.rf
  rw [← hHe] at hP
  have hl := lv_entry ([.ref p0, .int p1, .int p2, .int p3, .int p4]) (n := 8) (Nat.le_of_ble_eq_true rfl)
  rw [lg_entry_eq]
  generalize (lg_sl ([.ref p0, .int p1, .int p2, .int p3, .int p4]) ++ List.replicate (8 - (lg_sl ([.ref p0, .int p1, .int p2, .int p3, .int p4])).length) Slot.unset).toArray = ls at hl ⊢
  have hl : lv_has ls 8 [(0, .ref p0), (1, .int p1), (2, .int p2), (3, .int p3), (4, .int p4)] := hl
  rw [← hHe]
  refine namedW (fun R Qz hR hQz => ?_)
  refine lv_iconst (v := 0) hx hb dX7_masksMeet_0 (by decide +kernel) ?_
  refine lv_iload hx hb dX7_masksMeet_1 (lv_at hl 4 rfl) ?_
  refine lv_ineg hx hb dX7_masksMeet_3 ?_
  refine lv_topi (fun z3 ez3 => ?_)
  have bz3 := tq_neg (k := p4.toInt) ez3 rfl (by omega) (by omega)
  refine va_mmax hx hb (hml.trans hl.1.symm) hown (hts _ pq1443) (hts _ pq750) (hts _ pq82) (hts _ pq751) (by rw [hR]; exact (Nat.le_of_ble_eq_true rfl)) (by rw [hR]; exact (Nat.le_of_ble_eq_true rfl)) (by rw [hR]; exact (Nat.le_of_ble_eq_true rfl)) (by rw [hR]; exact (Nat.le_of_ble_eq_true rfl)) dX7_masksMeet_4 ?_
  refine lv_topi (fun z4 ez4 => ?_)
  have bz4 := tq_max ez4
  have bz4x : (0 : Int32).toInt = 0 := by decide +kernel
  refine lv_istore (lv' := [(5, .int z4), (0, .ref p0), (1, .int p1), (2, .int p2), (3, .int p3), (4, .int p4)]) hx hb dX7_masksMeet_7 hl (by decide) rfl (fun ls hl => ?_)
  have key9 := blocks (fun n => ∀ (v9_5 : Int32) (H : Heap) (lo : List Loc) (ls : Array Slot), (1001 - v9_5.toInt).toNat = n → ((0) ≤ v9_5.toInt ∧ v9_5.toInt ≤ 1000) → -p4.toInt ≤ v9_5.toInt → (∀ c : Fx, okF c → rI Q I p0 c → rJ Q J p0 c → p1.toInt.toNat < (c.1 0).toInt.toNat → p2.toInt.toNat < (c.1 0).toInt.toNat → ∀ X y : Int, y < v9_5.toInt → ¬ (md (mo c.2 p1.toInt.toNat) (X - p3.toInt) y = true ∧ md (mo c.2 p2.toInt.toNat) X (y + p4.toInt) = true)) → va_P (dC, dI) vwCl (Wd cs L K I J Q) H → va_S (fun _ => False) s.heap H lo → lv_has ls 8 [(0, .ref p0), (1, .int p1), (2, .int p2), (3, .int p3), (4, .int p4), (5, .int v9_5)] → W p l e R s m (([.ref p0, .int p1, .int p2, .int p3, .int p4] : List Value).toArray) below meth c H lo 0 0 Qz (F0 m 9 ls [])) (by
    intro n ih9
    intro v9_5 H lo ls hmu9 bv9_5 hmd g9 hP hS hl
    refine lv_iload hx hb dX7_masksMeet_9 (lv_at hl 5 rfl) ?_
    refine lv_aload_n hx hb dX7_masksMeet_11 rfl (lv_at hl 0 rfl) ?_
    refine lv_iload_n hx hb dX7_masksMeet_12 rfl (lv_at hl 1 rfl) ?_
    refine ro_i (va_runV (As := [.int p1]) (rest := [.int v9_5]) ⟨hx, hb, hml, hown, hts⟩ (s_X7_high l dC dI cs L K G Q hQ x0 m0 tx tm H.size I J hI p0 hLp0 hKp0 p1 ⟨by omega, by omega⟩) (cwV 1 hts (gV pq1372 pq1374 pq33 pq81 pq1375) rfl rfl rfl (by decide +kernel) ⟨(by rw [hR]; exact (Nat.le_of_ble_eq_true rfl)), (by rw [hR]; exact (Nat.le_of_ble_eq_true rfl))⟩) (sP_V hP hD hK hN hLp0 hKp0 rfl rfl) rfl rfl hl.1 rfl (lv_room (Nat.le_of_ble_eq_true rfl)) dX7_masksMeet_13 ⟨(by rw [hR]; exact (Nat.le_of_ble_eq_true rfl)), (by rw [hR]; exact (Nat.le_of_ble_eq_true rfl))⟩) hS hP (fun z13 H locs hz13 hP hS => ?_)
    obtain ⟨bz13, fez13⟩ := hz13
    refine lv_icmp_ge (tgt := 133) hx hb dX7_masksMeet_16 (by decide) (fun c16 => ?_) (fun c16 => ?_)
    · have t16 := tq_le (k := z13.toInt) (q := v9_5.toInt) c16 rfl rfl
      refine lv_iconst (v := 0) hx hb dX7_masksMeet_133 (by decide +kernel) ?_
      subst hR; subst hQz
      exact W.zret (v := 0) hx hb hr (by decide +kernel) (fun t ht hW => ⟨⟨0, (), rfl, ⟨⟨by decide +kernel, by decide +kernel⟩, (fun c ok h hj hm ho => by refine ⟨fun q => absurd (by decide +kernel) q, fun o => ?_⟩; obtain ⟨x, y, b, a⟩ := o; rcases Int.lt_or_le (y - p4.toInt) v9_5.toInt with w | w; (exact absurd ⟨a, by rw [Int.sub_add_cancel]; exact b⟩ (g9 c ok h hj hm ho x (y - p4.toInt) w)); (have k := md_b (ok.2.2.1 _ hm).2.2 _ _ a; have l := md_b (ok.2.2.1 _ ho).2.2 _ _ b; have e13 : z13.toInt = (c.1 (11 + p1.toInt.toNat)).toInt := congrArg Int32.toInt ((show z13 = I (a0 Q p0 0) (11 + p1.toInt.toNat) from fez13).trans (h _ (by omega))); exfalso; first | omega | (have e26 : z26.toInt = (c.1 (11 + p2.toInt.toNat)).toInt := congrArg Int32.toInt ((show z26 = I (a0 Q p0 0) (11 + p2.toInt.toNat) from fez26).trans (h _ (by omega))); omega)))⟩, trivial⟩, hS.F ht⟩) hS.2.2 dX7_masksMeet_134
    · have t16 := tq_nle (k := z13.toInt) (q := v9_5.toInt) c16 rfl rfl
      refine lv_iload hx hb dX7_masksMeet_19 (lv_at hl 5 rfl) ?_
      refine lv_iload hx hb dX7_masksMeet_21 (lv_at hl 4 rfl) ?_
      refine lv_iadd hx hb dX7_masksMeet_23 ?_
      refine lv_topi (fun z23 ez23 => ?_)
      have bz23 := tq_add (k := v9_5.toInt) (q := p4.toInt) ez23 rfl rfl (by omega) (by omega)
      refine lv_aload_n hx hb dX7_masksMeet_24 rfl (lv_at hl 0 rfl) ?_
      refine lv_iload_n hx hb dX7_masksMeet_25 rfl (lv_at hl 2 rfl) ?_
      refine ro_i (va_runV (As := [.int p2]) (rest := [.int z23]) ⟨hx, hb, hml, hown, hts⟩ (s_X7_high l dC dI cs L K G Q hQ x0 m0 tx tm H.size I J hI p0 hLp0 hKp0 p2 ⟨by omega, by omega⟩) (cwV 1 hts (gV pq1372 pq1374 pq33 pq81 pq1375) rfl rfl rfl (by decide +kernel) ⟨(by rw [hR]; exact (Nat.le_of_ble_eq_true rfl)), (by rw [hR]; exact (Nat.le_of_ble_eq_true rfl))⟩) (sP_V hP hD hK hN hLp0 hKp0 rfl rfl) rfl rfl hl.1 rfl (lv_room (Nat.le_of_ble_eq_true rfl)) dX7_masksMeet_26 ⟨(by rw [hR]; exact (Nat.le_of_ble_eq_true rfl)), (by rw [hR]; exact (Nat.le_of_ble_eq_true rfl))⟩) hS hP (fun z26 H locs hz26 hP hS => ?_)
      obtain ⟨bz26, fez26⟩ := hz26
      refine lv_icmp_ge (tgt := 133) hx hb dX7_masksMeet_29 (by decide) (fun c29 => ?_) (fun c29 => ?_)
      · have t29 := tq_le (k := z26.toInt) (q := z23.toInt) c29 rfl rfl
        refine lv_iconst (v := 0) hx hb dX7_masksMeet_133 (by decide +kernel) ?_
        subst hR; subst hQz
        exact W.zret (v := 0) hx hb hr (by decide +kernel) (fun t ht hW => ⟨⟨0, (), rfl, ⟨⟨by decide +kernel, by decide +kernel⟩, (fun c ok h hj hm ho => by refine ⟨fun q => absurd (by decide +kernel) q, fun o => ?_⟩; obtain ⟨x, y, b, a⟩ := o; rcases Int.lt_or_le (y - p4.toInt) v9_5.toInt with w | w; (exact absurd ⟨a, by rw [Int.sub_add_cancel]; exact b⟩ (g9 c ok h hj hm ho x (y - p4.toInt) w)); (have k := md_b (ok.2.2.1 _ hm).2.2 _ _ a; have l := md_b (ok.2.2.1 _ ho).2.2 _ _ b; have e13 : z13.toInt = (c.1 (11 + p1.toInt.toNat)).toInt := congrArg Int32.toInt ((show z13 = I (a0 Q p0 0) (11 + p1.toInt.toNat) from fez13).trans (h _ (by omega))); exfalso; first | omega | (have e26 : z26.toInt = (c.1 (11 + p2.toInt.toNat)).toInt := congrArg Int32.toInt ((show z26 = I (a0 Q p0 0) (11 + p2.toInt.toNat) from fez26).trans (h _ (by omega))); omega)))⟩, trivial⟩, hS.F ht⟩) hS.2.2 dX7_masksMeet_134
      · have t29 := tq_nle (k := z26.toInt) (q := z23.toInt) c29 rfl rfl
        refine lv_bipush (v := 80) hx hb dX7_masksMeet_32 (by decide +kernel) ?_
        refine lv_iload_n hx hb dX7_masksMeet_34 rfl (lv_at hl 1 rfl) ?_
        refine lv_imul hx hb dX7_masksMeet_35 ?_
        refine lv_topi (fun z35 ez35 => ?_)
        have bz35 := tq_mul (k := (80)) (q := p1.toInt) ez35 (by decide +kernel) rfl (by omega) (by omega)
        refine lv_iconst (v := 2) hx hb dX7_masksMeet_36 (by decide +kernel) ?_
        refine lv_iload hx hb dX7_masksMeet_37 (lv_at hl 5 rfl) ?_
        refine lv_imul hx hb dX7_masksMeet_39 ?_
        refine lv_topi (fun z39 ez39 => ?_)
        have bz39 := tq_mul (k := (2)) (q := v9_5.toInt) ez39 (by decide +kernel) rfl (by omega) (by omega)
        refine lv_iadd hx hb dX7_masksMeet_40 ?_
        refine lv_topi (fun z40 ez40 => ?_)
        have bz40 := tq_add (k := z35.toInt) (q := z39.toInt) ez40 rfl rfl (by omega) (by omega)
        refine lv_istore (lv' := [(6, .int z40), (0, .ref p0), (1, .int p1), (2, .int p2), (3, .int p3), (4, .int p4), (5, .int v9_5)]) hx hb dX7_masksMeet_41 hl (by decide) rfl (fun ls hl => ?_)
        refine lv_bipush (v := 80) hx hb dX7_masksMeet_43 (by decide +kernel) ?_
        refine lv_iload_n hx hb dX7_masksMeet_45 rfl (lv_at hl 3 rfl) ?_
        refine lv_imul hx hb dX7_masksMeet_46 ?_
        refine lv_topi (fun z46 ez46 => ?_)
        have bz46 := tq_mul (k := (80)) (q := p2.toInt) ez46 (by decide +kernel) rfl (by omega) (by omega)
        refine lv_iconst (v := 2) hx hb dX7_masksMeet_47 (by decide +kernel) ?_
        refine lv_iload hx hb dX7_masksMeet_48 (lv_at hl 6 rfl) ?_
        refine lv_iload hx hb dX7_masksMeet_50 (lv_at hl 5 rfl) ?_
        refine lv_iadd hx hb dX7_masksMeet_52 ?_
        refine lv_topi (fun z52 ez52 => ?_)
        have bz52 := tq_add (k := v9_5.toInt) (q := p4.toInt) ez52 rfl rfl (by omega) (by omega)
        refine lv_imul hx hb dX7_masksMeet_53 ?_
        refine lv_topi (fun z53 ez53 => ?_)
        have bz53 := tq_mul (k := (2)) (q := z52.toInt) ez53 (by decide +kernel) rfl (by omega) (by omega)
        refine lv_iadd hx hb dX7_masksMeet_54 ?_
        refine lv_topi (fun z54 ez54 => ?_)
        have bz54 := tq_add (k := z46.toInt) (q := z53.toInt) ez54 rfl rfl (by omega) (by omega)
        refine lv_istore (lv' := [(7, .int z54), (6, .int z40), (0, .ref p0), (1, .int p1), (2, .int p2), (3, .int p3), (4, .int p4), (5, .int v9_5)]) hx hb dX7_masksMeet_55 hl (by decide) rfl (fun ls hl => ?_)
        refine lv_aload_n hx hb dX7_masksMeet_57 rfl (lv_at hl 2 rfl) ?_
        obtain ⟨y58, ey58, hLy58, hKy58⟩ := oQ_7_5 (Sv_at hQ hLp0 hKp0)
        refine p_get (v := .ref y58) hx hb hts inX7 hown hK hP hLp0 hKp0 rfl rfl 5 (by decide) (hts _ pq1120) (congrArg (fun q => some (va_rf q)) ey58) dX7_masksMeet_58 ?_
        refine lv_iload hx hb dX7_masksMeet_61 (lv_at hl 1 rfl) ?_
        refine p_lald hx hb hK hP 11 hLy58 hKy58 rfl rfl (in_of (by omega) (by omega)) dX7_masksMeet_63 ?_
        refine lv_topl (fun z63 ez63 => ?_)
        refine lv_aload_n hx hb dX7_masksMeet_64 rfl (lv_at hl 2 rfl) ?_
        refine p_get (v := .ref y58) hx hb hts inX7 hown hK hP hLp0 hKp0 rfl rfl 5 (by decide) (hts _ pq1120) (congrArg (fun q => some (va_rf q)) ey58) dX7_masksMeet_65 ?_
        refine lv_iload hx hb dX7_masksMeet_68 (lv_at hl 1 rfl) ?_
        refine lv_iconst (v := 1) hx hb dX7_masksMeet_70 (by decide +kernel) ?_
        refine lv_iadd hx hb dX7_masksMeet_71 ?_
        refine lv_topi (fun z71 ez71 => ?_)
        have bz71 := tq_add (k := z40.toInt) (q := (1)) ez71 rfl (by decide +kernel) (by omega) (by omega)
        refine p_lald hx hb hK hP 11 hLy58 hKy58 rfl rfl (in_of (by omega) (by omega)) dX7_masksMeet_72 ?_
        refine lv_topl (fun z72 ez72 => ?_)
        refine lv_iload_n hx hb dX7_masksMeet_73 rfl (lv_at hl 5 rfl) ?_
        refine ro_l (va_runS (As := [.long z63, .long z72, .int p3]) (rest := []) ⟨hx, hb, hml, hown, hts⟩ (s_X7_low l dC dI cs L K G Q hQ x0 m0 tx tm H.size I J hI z63 z72 p3) (va_cwS 3 hts (gS pq1464 pq1465 pq81 pq1466) rfl rfl rfl (by decide +kernel) ⟨(by rw [hR]; exact (Nat.le_of_ble_eq_true rfl)), (by rw [hR]; exact (Nat.le_of_ble_eq_true rfl))⟩) (sP_S hP hD hK hN) rfl rfl hl.1 rfl (lv_room (Nat.le_of_ble_eq_true rfl)) dX7_masksMeet_74 ⟨(by rw [hR]; exact (Nat.le_of_ble_eq_true rfl)), (by rw [hR]; exact (Nat.le_of_ble_eq_true rfl))⟩) hS hP (fun z74 H locs hz74 hP hS => ?_)
        have xpz74 := hz74
        refine lv_aload_n hx hb dX7_masksMeet_77 rfl (lv_at hl 2 rfl) ?_
        refine p_get (v := .ref y58) hx hb hts inX7 hown hK hP hLp0 hKp0 rfl rfl 5 (by decide) (hts _ pq1120) (congrArg (fun q => some (va_rf q)) ey58) dX7_masksMeet_78 ?_
        refine lv_iload hx hb dX7_masksMeet_81 (lv_at hl 0 rfl) ?_
        refine p_lald hx hb hK hP 11 hLy58 hKy58 rfl rfl (in_of (by omega) (by omega)) dX7_masksMeet_83 ?_
        refine lv_topl (fun z83 ez83 => ?_)
        refine lv_land hx hb dX7_masksMeet_84 ?_
        refine lv_topl (fun z84 ez84 => ?_)
        refine lv_lconst (v := 0) hx hb dX7_masksMeet_85 (by decide +kernel) ?_
        refine W.lcmp hx hb dX7_masksMeet_86 ?_
        refine lv_topi (fun z86 ez86 => ?_)
        have bz86 := tq_lcmp (k := z84.toInt) (q := (0)) ez86 rfl (by decide +kernel)
        refine lv_if_ne (tgt := 125) hx hb dX7_masksMeet_87 (by decide) (fun c87 => ?_) (fun c87 => ?_)
        · have t87 := tq_ne (k := z86.toInt) (q := (0)) c87 rfl (by decide +kernel)
          refine lv_iconst (v := 1) hx hb dX7_masksMeet_125 (by decide +kernel) ?_
          subst hR; subst hQz
          exact W.zret (v := 1) hx hb hr (by decide +kernel) (fun t ht hW => ⟨⟨1, (), rfl, ⟨⟨by decide +kernel, by decide +kernel⟩, (fun c ok h hj hm ho => by first | (have _k := t122; have A : ∀ X, md (mo c.2 p1.toInt.toNat) X v9_5.toInt = dt z63 z72 X := (fun X => by have q := md_row (f := mo c.2 p1.toInt.toNat) (r := v9_5.toInt.toNat) (a := z63) (b := z72) (by omega) (by rw [ez63, show y58 = a0 Q p0 5 from (gd_of ey58).symm, hj _ (by show z40.toInt.toNat < 640; omega)]; unfold mo; exact congrArg c.2 (show z40.toInt.toNat = _ by omega)) (by rw [ez72, show y58 = a0 Q p0 5 from (gd_of ey58).symm, hj _ (by show z71.toInt.toNat < 640; omega)]; unfold mo; exact congrArg c.2 (show z71.toInt.toNat = _ by omega)) X; rw [show ((v9_5.toInt.toNat : Nat) : Int) = v9_5.toInt by omega] at q; exact q); have eB : mo c.2 p2.toInt.toNat (2 * z52.toInt.toNat) = z83 := Eq.symm (by rw [ez83, show y58 = a0 Q p0 5 from (gd_of ey58).symm, hj _ (by show z54.toInt.toNat < 640; omega)]; unfold mo; exact congrArg c.2 (show z54.toInt.toNat = _ by omega)); have B0 : ∀ X : Int, 0 ≤ X → X < 64 → md (mo c.2 p2.toInt.toNat) X (v9_5.toInt + p4.toInt) = b64 z83 X.toNat := (fun X a b => by rw [← bz52]; have q := md_row (f := mo c.2 p2.toInt.toNat) (r := z52.toInt.toNat) (by omega) eB.symm rfl X; rw [show ((z52.toInt.toNat : Nat) : Int) = z52.toInt by omega, dt_a a b] at q; exact q); have eC : mo c.2 p2.toInt.toNat (2 * z52.toInt.toNat + 1) = z118 := Eq.symm (by rw [ez118, show y58 = a0 Q p0 5 from (gd_of ey58).symm, hj _ (by show z117.toInt.toNat < 640; omega)]; unfold mo; exact congrArg c.2 (show z117.toInt.toNat = _ by omega)); have B1 : ∀ X : Int, 64 ≤ X → md (mo c.2 p2.toInt.toNat) X (v9_5.toInt + p4.toInt) = b64 z118 (X.toNat - 64) := (fun X a => by rw [← bz52]; have q := md_row (f := mo c.2 p2.toInt.toNat) (r := z52.toInt.toNat) (by omega) rfl eC.symm X; rw [show ((z52.toInt.toNat : Nat) : Int) = z52.toInt by omega, dt_b a] at q; exact q); have e105 : z105 = z72 := (by rw [ez105, ez72, show z104 = z71 from Int32.toInt_inj.mp (by omega)]); have w107 := xpz107; rw [e105] at w107; refine ⟨fun _ => ?_, fun _ => by decide +kernel⟩; obtain ⟨i, hi, a, b⟩ := (mm_hi w107 ez119).mp (fun z => t122 ((lc0 ez121).mpr z)); exact ⟨(i : Int) + 64, v9_5.toInt + p4.toInt, by rw [B1 _ (by omega), show ((i : Int) + 64).toNat - 64 = i by omega]; exact b, by rw [Int.add_sub_cancel, A]; exact a⟩) | (have A : ∀ X, md (mo c.2 p1.toInt.toNat) X v9_5.toInt = dt z63 z72 X := (fun X => by have q := md_row (f := mo c.2 p1.toInt.toNat) (r := v9_5.toInt.toNat) (a := z63) (b := z72) (by omega) (by rw [ez63, show y58 = a0 Q p0 5 from (gd_of ey58).symm, hj _ (by show z40.toInt.toNat < 640; omega)]; unfold mo; exact congrArg c.2 (show z40.toInt.toNat = _ by omega)) (by rw [ez72, show y58 = a0 Q p0 5 from (gd_of ey58).symm, hj _ (by show z71.toInt.toNat < 640; omega)]; unfold mo; exact congrArg c.2 (show z71.toInt.toNat = _ by omega)) X; rw [show ((v9_5.toInt.toNat : Nat) : Int) = v9_5.toInt by omega] at q; exact q); have eB : mo c.2 p2.toInt.toNat (2 * z52.toInt.toNat) = z83 := Eq.symm (by rw [ez83, show y58 = a0 Q p0 5 from (gd_of ey58).symm, hj _ (by show z54.toInt.toNat < 640; omega)]; unfold mo; exact congrArg c.2 (show z54.toInt.toNat = _ by omega)); have B0 : ∀ X : Int, 0 ≤ X → X < 64 → md (mo c.2 p2.toInt.toNat) X (v9_5.toInt + p4.toInt) = b64 z83 X.toNat := (fun X a b => by rw [← bz52]; have q := md_row (f := mo c.2 p2.toInt.toNat) (r := z52.toInt.toNat) (by omega) eB.symm rfl X; rw [show ((z52.toInt.toNat : Nat) : Int) = z52.toInt by omega, dt_a a b] at q; exact q); refine ⟨fun _ => ?_, fun _ => by decide +kernel⟩; obtain ⟨i, hi, a, b⟩ := (mm_lo xpz74 ez84).mp (fun z => t87 ((lc0 ez86).mpr z)); exact ⟨(i : Int), v9_5.toInt + p4.toInt, by rw [B0 _ (by omega) (by omega), show ((i : Int)).toNat = i by omega]; exact b, by rw [Int.add_sub_cancel, A]; exact a⟩))⟩, trivial⟩, hS.F ht⟩) hS.2.2 dX7_masksMeet_126
        · have t87 := tq_eq (k := z86.toInt) (q := (0)) c87 rfl (by decide +kernel)
          refine lv_aload_n hx hb dX7_masksMeet_90 rfl (lv_at hl 2 rfl) ?_
          refine p_get (v := .ref y58) hx hb hts inX7 hown hK hP hLp0 hKp0 rfl rfl 5 (by decide) (hts _ pq1120) (congrArg (fun q => some (va_rf q)) ey58) dX7_masksMeet_91 ?_
          refine lv_iload hx hb dX7_masksMeet_94 (lv_at hl 1 rfl) ?_
          refine p_lald hx hb hK hP 11 hLy58 hKy58 rfl rfl (in_of (by omega) (by omega)) dX7_masksMeet_96 ?_
          refine lv_topl (fun z96 ez96 => ?_)
          obtain rfl : z63 = z96 := ez63.trans ez96.symm
          refine lv_aload_n hx hb dX7_masksMeet_97 rfl (lv_at hl 2 rfl) ?_
          refine p_get (v := .ref y58) hx hb hts inX7 hown hK hP hLp0 hKp0 rfl rfl 5 (by decide) (hts _ pq1120) (congrArg (fun q => some (va_rf q)) ey58) dX7_masksMeet_98 ?_
          refine lv_iload hx hb dX7_masksMeet_101 (lv_at hl 1 rfl) ?_
          refine lv_iconst (v := 1) hx hb dX7_masksMeet_103 (by decide +kernel) ?_
          refine lv_iadd hx hb dX7_masksMeet_104 ?_
          refine lv_topi (fun z104 ez104 => ?_)
          have bz104 := tq_add (k := z40.toInt) (q := (1)) ez104 rfl (by decide +kernel) (by omega) (by omega)
          refine p_lald hx hb hK hP 11 hLy58 hKy58 rfl rfl (in_of (by omega) (by omega)) dX7_masksMeet_105 ?_
          refine lv_topl (fun z105 ez105 => ?_)
          refine lv_iload_n hx hb dX7_masksMeet_106 rfl (lv_at hl 5 rfl) ?_
          refine ro_l (va_runS (As := [.long z63, .long z105, .int p3]) (rest := []) ⟨hx, hb, hml, hown, hts⟩ (s_X7_top l dC dI cs L K G Q hQ x0 m0 tx tm H.size I J hI z63 z105 p3) (va_cwS 3 hts (gS pq1467 pq1468 pq81 pq1469) rfl rfl rfl (by decide +kernel) ⟨(by rw [hR]; exact (Nat.le_of_ble_eq_true rfl)), (by rw [hR]; exact (Nat.le_of_ble_eq_true rfl))⟩) (sP_S hP hD hK hN) rfl rfl hl.1 rfl (lv_room (Nat.le_of_ble_eq_true rfl)) dX7_masksMeet_107 ⟨(by rw [hR]; exact (Nat.le_of_ble_eq_true rfl)), (by rw [hR]; exact (Nat.le_of_ble_eq_true rfl))⟩) hS hP (fun z107 H locs hz107 hP hS => ?_)
          have xpz107 := hz107
          refine lv_aload_n hx hb dX7_masksMeet_110 rfl (lv_at hl 2 rfl) ?_
          refine p_get (v := .ref y58) hx hb hts inX7 hown hK hP hLp0 hKp0 rfl rfl 5 (by decide) (hts _ pq1120) (congrArg (fun q => some (va_rf q)) ey58) dX7_masksMeet_111 ?_
          refine lv_iload hx hb dX7_masksMeet_114 (lv_at hl 0 rfl) ?_
          refine lv_iconst (v := 1) hx hb dX7_masksMeet_116 (by decide +kernel) ?_
          refine lv_iadd hx hb dX7_masksMeet_117 ?_
          refine lv_topi (fun z117 ez117 => ?_)
          have bz117 := tq_add (k := z54.toInt) (q := (1)) ez117 rfl (by decide +kernel) (by omega) (by omega)
          refine p_lald hx hb hK hP 11 hLy58 hKy58 rfl rfl (in_of (by omega) (by omega)) dX7_masksMeet_118 ?_
          refine lv_topl (fun z118 ez118 => ?_)
          refine lv_land hx hb dX7_masksMeet_119 ?_
          refine lv_topl (fun z119 ez119 => ?_)
          refine lv_lconst (v := 0) hx hb dX7_masksMeet_120 (by decide +kernel) ?_
          refine W.lcmp hx hb dX7_masksMeet_121 ?_
          refine lv_topi (fun z121 ez121 => ?_)
          have bz121 := tq_lcmp (k := z119.toInt) (q := (0)) ez121 rfl (by decide +kernel)
          refine lv_if_eq (tgt := 127) hx hb dX7_masksMeet_122 (by decide) (fun c122 => ?_) (fun c122 => ?_)
          · have t122 := tq_eq (k := z121.toInt) (q := (0)) c122 rfl (by decide +kernel)
            obtain ⟨z127, ez127⟩ : ∃ y : Int32, y = v9_5 + 1 := ⟨_, rfl⟩
            refine lv_iinc (v := z127) (lv' := [(5, .int z127), (7, .int z54), (6, .int z40), (0, .ref p0), (1, .int p1), (2, .int p2), (3, .int p3), (4, .int p4)]) hx hb dX7_masksMeet_127 hl (k := 7) rfl (by rw [ez127]; rfl) (by decide) rfl (fun ls hl => ?_)
            have bz127 := tq_add (k := v9_5.toInt) (q := 1) ez127 rfl (by decide +kernel) (by omega) (by omega)
            refine lv_goto (tgt := 9) hx hb dX7_masksMeet_130 (by decide) ?_
            exact ih9 _ (by omega) z127 _ _ _ rfl ⟨by omega, by omega⟩ (by omega) (fun c ok h hj hm ho X y hy => by have A : ∀ X, md (mo c.2 p1.toInt.toNat) X v9_5.toInt = dt z63 z72 X := (fun X => by have q := md_row (f := mo c.2 p1.toInt.toNat) (r := v9_5.toInt.toNat) (a := z63) (b := z72) (by omega) (by rw [ez63, show y58 = a0 Q p0 5 from (gd_of ey58).symm, hj _ (by show z40.toInt.toNat < 640; omega)]; unfold mo; exact congrArg c.2 (show z40.toInt.toNat = _ by omega)) (by rw [ez72, show y58 = a0 Q p0 5 from (gd_of ey58).symm, hj _ (by show z71.toInt.toNat < 640; omega)]; unfold mo; exact congrArg c.2 (show z71.toInt.toNat = _ by omega)) X; rw [show ((v9_5.toInt.toNat : Nat) : Int) = v9_5.toInt by omega] at q; exact q); have eB : mo c.2 p2.toInt.toNat (2 * z52.toInt.toNat) = z83 := Eq.symm (by rw [ez83, show y58 = a0 Q p0 5 from (gd_of ey58).symm, hj _ (by show z54.toInt.toNat < 640; omega)]; unfold mo; exact congrArg c.2 (show z54.toInt.toNat = _ by omega)); have B0 : ∀ X : Int, 0 ≤ X → X < 64 → md (mo c.2 p2.toInt.toNat) X (v9_5.toInt + p4.toInt) = b64 z83 X.toNat := (fun X a b => by rw [← bz52]; have q := md_row (f := mo c.2 p2.toInt.toNat) (r := z52.toInt.toNat) (by omega) eB.symm rfl X; rw [show ((z52.toInt.toNat : Nat) : Int) = z52.toInt by omega, dt_a a b] at q; exact q); have eC : mo c.2 p2.toInt.toNat (2 * z52.toInt.toNat + 1) = z118 := Eq.symm (by rw [ez118, show y58 = a0 Q p0 5 from (gd_of ey58).symm, hj _ (by show z117.toInt.toNat < 640; omega)]; unfold mo; exact congrArg c.2 (show z117.toInt.toNat = _ by omega)); have B1 : ∀ X : Int, 64 ≤ X → md (mo c.2 p2.toInt.toNat) X (v9_5.toInt + p4.toInt) = b64 z118 (X.toNat - 64) := (fun X a => by rw [← bz52]; have q := md_row (f := mo c.2 p2.toInt.toNat) (r := z52.toInt.toNat) (by omega) rfl eC.symm X; rw [show ((z52.toInt.toNat : Nat) : Int) = z52.toInt by omega, dt_b a] at q; exact q); have e105 : z105 = z72 := (by rw [ez105, ez72, show z104 = z71 from Int32.toInt_inj.mp (by omega)]); have w107 := xpz107; rw [e105] at w107; rcases Int.lt_or_le y v9_5.toInt with w | w; (exact g9 c ok h hj hm ho X y w); (obtain rfl : y = v9_5.toInt := (by omega); rintro ⟨a, b⟩; have l := md_rng b; rw [A] at a; rcases Int.lt_or_le X 64 with v | v; (rw [B0 X l.1.1 v] at b; exact (mm_lo xpz74 ez84).mpr ⟨X.toNat, by omega, by rw [show ((X.toNat : Nat) : Int) = X by omega]; exact a, b⟩ ((lc0 ez86).mp t87)); (rw [B1 X v] at b; exact (mm_hi w107 ez119).mpr ⟨X.toNat - 64, by omega, by rw [show ((X.toNat - 64 : Nat) : Int) + 64 = X by omega]; exact a, b⟩ ((lc0 ez121).mp t122)))) hP hS (lv_sub hl [3, 4, 5, 6, 7, 0] rfl)
          · have t122 := tq_ne (k := z121.toInt) (q := (0)) c122 rfl (by decide +kernel)
            refine lv_iconst (v := 1) hx hb dX7_masksMeet_125 (by decide +kernel) ?_
            subst hR; subst hQz
            exact W.zret (v := 1) hx hb hr (by decide +kernel) (fun t ht hW => ⟨⟨1, (), rfl, ⟨⟨by decide +kernel, by decide +kernel⟩, (fun c ok h hj hm ho => by first | (have _k := t122; have A : ∀ X, md (mo c.2 p1.toInt.toNat) X v9_5.toInt = dt z63 z72 X := (fun X => by have q := md_row (f := mo c.2 p1.toInt.toNat) (r := v9_5.toInt.toNat) (a := z63) (b := z72) (by omega) (by rw [ez63, show y58 = a0 Q p0 5 from (gd_of ey58).symm, hj _ (by show z40.toInt.toNat < 640; omega)]; unfold mo; exact congrArg c.2 (show z40.toInt.toNat = _ by omega)) (by rw [ez72, show y58 = a0 Q p0 5 from (gd_of ey58).symm, hj _ (by show z71.toInt.toNat < 640; omega)]; unfold mo; exact congrArg c.2 (show z71.toInt.toNat = _ by omega)) X; rw [show ((v9_5.toInt.toNat : Nat) : Int) = v9_5.toInt by omega] at q; exact q); have eB : mo c.2 p2.toInt.toNat (2 * z52.toInt.toNat) = z83 := Eq.symm (by rw [ez83, show y58 = a0 Q p0 5 from (gd_of ey58).symm, hj _ (by show z54.toInt.toNat < 640; omega)]; unfold mo; exact congrArg c.2 (show z54.toInt.toNat = _ by omega)); have B0 : ∀ X : Int, 0 ≤ X → X < 64 → md (mo c.2 p2.toInt.toNat) X (v9_5.toInt + p4.toInt) = b64 z83 X.toNat := (fun X a b => by rw [← bz52]; have q := md_row (f := mo c.2 p2.toInt.toNat) (r := z52.toInt.toNat) (by omega) eB.symm rfl X; rw [show ((z52.toInt.toNat : Nat) : Int) = z52.toInt by omega, dt_a a b] at q; exact q); have eC : mo c.2 p2.toInt.toNat (2 * z52.toInt.toNat + 1) = z118 := Eq.symm (by rw [ez118, show y58 = a0 Q p0 5 from (gd_of ey58).symm, hj _ (by show z117.toInt.toNat < 640; omega)]; unfold mo; exact congrArg c.2 (show z117.toInt.toNat = _ by omega)); have B1 : ∀ X : Int, 64 ≤ X → md (mo c.2 p2.toInt.toNat) X (v9_5.toInt + p4.toInt) = b64 z118 (X.toNat - 64) := (fun X a => by rw [← bz52]; have q := md_row (f := mo c.2 p2.toInt.toNat) (r := z52.toInt.toNat) (by omega) rfl eC.symm X; rw [show ((z52.toInt.toNat : Nat) : Int) = z52.toInt by omega, dt_b a] at q; exact q); have e105 : z105 = z72 := (by rw [ez105, ez72, show z104 = z71 from Int32.toInt_inj.mp (by omega)]); have w107 := xpz107; rw [e105] at w107; refine ⟨fun _ => ?_, fun _ => by decide +kernel⟩; obtain ⟨i, hi, a, b⟩ := (mm_hi w107 ez119).mp (fun z => t122 ((lc0 ez121).mpr z)); exact ⟨(i : Int) + 64, v9_5.toInt + p4.toInt, by rw [B1 _ (by omega), show ((i : Int) + 64).toNat - 64 = i by omega]; exact b, by rw [Int.add_sub_cancel, A]; exact a⟩) | (have A : ∀ X, md (mo c.2 p1.toInt.toNat) X v9_5.toInt = dt z63 z72 X := (fun X => by have q := md_row (f := mo c.2 p1.toInt.toNat) (r := v9_5.toInt.toNat) (a := z63) (b := z72) (by omega) (by rw [ez63, show y58 = a0 Q p0 5 from (gd_of ey58).symm, hj _ (by show z40.toInt.toNat < 640; omega)]; unfold mo; exact congrArg c.2 (show z40.toInt.toNat = _ by omega)) (by rw [ez72, show y58 = a0 Q p0 5 from (gd_of ey58).symm, hj _ (by show z71.toInt.toNat < 640; omega)]; unfold mo; exact congrArg c.2 (show z71.toInt.toNat = _ by omega)) X; rw [show ((v9_5.toInt.toNat : Nat) : Int) = v9_5.toInt by omega] at q; exact q); have eB : mo c.2 p2.toInt.toNat (2 * z52.toInt.toNat) = z83 := Eq.symm (by rw [ez83, show y58 = a0 Q p0 5 from (gd_of ey58).symm, hj _ (by show z54.toInt.toNat < 640; omega)]; unfold mo; exact congrArg c.2 (show z54.toInt.toNat = _ by omega)); have B0 : ∀ X : Int, 0 ≤ X → X < 64 → md (mo c.2 p2.toInt.toNat) X (v9_5.toInt + p4.toInt) = b64 z83 X.toNat := (fun X a b => by rw [← bz52]; have q := md_row (f := mo c.2 p2.toInt.toNat) (r := z52.toInt.toNat) (by omega) eB.symm rfl X; rw [show ((z52.toInt.toNat : Nat) : Int) = z52.toInt by omega, dt_a a b] at q; exact q); refine ⟨fun _ => ?_, fun _ => by decide +kernel⟩; obtain ⟨i, hi, a, b⟩ := (mm_lo xpz74 ez84).mp (fun z => t87 ((lc0 ez86).mpr z)); exact ⟨(i : Int), v9_5.toInt + p4.toInt, by rw [B0 _ (by omega) (by omega), show ((i : Int)).toNat = i by omega]; exact b, by rw [Int.add_sub_cancel, A]; exact a⟩))⟩, trivial⟩, hS.F ht⟩) hS.2.2 dX7_masksMeet_126)
  exact key9 _ z4 _ _ _ rfl ⟨by omega, by omega⟩ (by omega) (fun c ok h hj hm ho X y hy => by rintro ⟨a, b⟩; have k := md_rng a; have l := md_rng b; omega) hP hS (lv_sub hl [1, 2, 3, 4, 5, 0] rfl)

set_option maxHeartbeats 4000000 in
set_option maxRecDepth 100000 in
theorem s_X7_shifts (l : Launch) (dC : Nat → ClassId) (dI : Nat → Nat → Nat) (cs : Nat → ClassId) (L : List Nat) (K G : Nat → Nat) (Q : Nat → Nat → Option Nat) (hQ : Sv L K G Q) (x0 m0 : Nat) (tx : GT) (tm : GT × Int) (sz : Nat) (I : Nat → Nat → Int32) (J : Nat → Nat → Int64) (hI : Iv L K x0 m0 tx tm I) (p0 : Nat) (hLp0 : p0 ∈ L) (hKp0 : K p0 = 7) (p1 : Int32) (p2 : Int32) : Met l yX7_shifts (.code yX7_shifts cX7_shifts 6 (some .int) :: pw) ({ frames := 2, cells := 0, slots := 0, locals := 52 }) (sP (dC, dI) cs [.ref p0, .int p1, .int p2] sz L K I J Q) (va_Qi (fun (r : Int32) (_ : Unit) => (∀ σ : Sx, okF σ.1 → cmA Q I J p0 σ → r.toInt = shiR σ p1 p2)) (fun _ _ => True) (fun _ => False)) 0 0 (fun _ => False) := by
  refine Met.ofW (cc := cX7_shifts) (maxL := 6) (ret := (some .int)) (by decide +kernel) rfl ?_
  intro p e s m args below meth c s₁ B hml hv
  obtain ⟨rfl, hsz, hP, hK, hD0, hN⟩ := hv
  have hx := B.exec
  have hb := B.bytes
  have hr := B.returns
  have hts := fun w (h : w ∈ pw) => atoms_spec (ws := Cond.code yX7_shifts cX7_shifts 6 (some .int) :: pw) B.pre w (List.mem_cons_of_mem _ h)
  have hown : s.vm.findClass RX7 = some m.cls := findClass_of_methodNamed B.named
  have hlocks := B.notSynchronized
  subst hsz
  have hBB : 999 ≤ tm.2 ∧ tm.2 ≤ 6000000 := hI.2.2.2.2.1
  have hD := hD0
  obtain ⟨H, hHe⟩ : ∃ H : Heap, H = s.heap := ⟨_, rfl⟩
  have hS : va_S (fun _ => False) s.heap H [] := by rw [hHe]; exact va_S.rf
  rw [← hHe] at hP
  have hl := lv_entry ([.ref p0, .int p1, .int p2]) (n := 6) (Nat.le_of_ble_eq_true rfl)
  rw [lg_entry_eq]
  generalize (lg_sl ([.ref p0, .int p1, .int p2]) ++ List.replicate (6 - (lg_sl ([.ref p0, .int p1, .int p2])).length) Slot.unset).toArray = ls at hl ⊢
  have hl : lv_has ls 6 [(0, .ref p0), (1, .int p1), (2, .int p2)] := hl
  rw [← hHe]
  refine namedW (fun R Qz hR hQz => ?_)
  refine lv_aload_n hx hb dX7_shifts_0 rfl (lv_at hl 0 rfl) ?_
  refine lv_iload_n hx hb dX7_shifts_1 rfl (lv_at hl 1 rfl) ?_
  refine ro_i (va_runV (As := [.int p1]) (rest := []) ⟨hx, hb, hml, hown, hts⟩ (s_X7_isMask l dC dI cs L K G Q hQ x0 m0 tx tm H.size I J hI p0 hLp0 hKp0 p1) (cwV 1 hts (gV pq1364 pq1366 pq31 pq81 pq1367) rfl rfl rfl (by decide +kernel) ⟨(by rw [hR]; exact (Nat.le_of_ble_eq_true rfl)), (by rw [hR]; exact (Nat.le_of_ble_eq_true rfl))⟩) (sP_V hP hD hK hN hLp0 hKp0 rfl rfl) rfl rfl hl.1 rfl (lv_room (Nat.le_of_ble_eq_true rfl)) dX7_shifts_2 ⟨(by rw [hR]; exact (Nat.le_of_ble_eq_true rfl)), (by rw [hR]; exact (Nat.le_of_ble_eq_true rfl))⟩) hS hP (fun z2 H locs hz2 hP hS => ?_)
  obtain ⟨bz2, imz2, xpz2⟩ := hz2
  refine lv_if_eq (tgt := 16) hx hb dX7_shifts_5 (by decide) (fun c5 => ?_) (fun c5 => ?_)
  · have t5 := tq_eq (k := z2.toInt) (q := (0)) c5 rfl (by decide +kernel)
    refine lv_iconst (v := (-1)) hx hb dX7_shifts_16 (by decide +kernel) ?_
    subst hR; subst hQz
    exact W.iret (v := (-1)) hx hb hr (fun t ht hW => ⟨⟨(-1), (), rfl, (fun σ ok h => by rw [shi_n (fun w => by first | exact xpz2.2 t5 (by rw [cm_0 h]; exact w.1) | exact xpz10.2 t13 (by rw [cm_0 h]; exact w.2))]; decide +kernel), trivial⟩, hS.F ht⟩) hS.2.2 dX7_shifts_17
  · have t5 := tq_ne (k := z2.toInt) (q := (0)) c5 rfl (by decide +kernel)
    have i5 := imz2 t5
    refine lv_aload_n hx hb dX7_shifts_8 rfl (lv_at hl 0 rfl) ?_
    refine lv_iload_n hx hb dX7_shifts_9 rfl (lv_at hl 2 rfl) ?_
    refine ro_i (va_runV (As := [.int p2]) (rest := []) ⟨hx, hb, hml, hown, hts⟩ (s_X7_isMask l dC dI cs L K G Q hQ x0 m0 tx tm H.size I J hI p0 hLp0 hKp0 p2) (cwV 1 hts (gV pq1364 pq1366 pq31 pq81 pq1367) rfl rfl rfl (by decide +kernel) ⟨(by rw [hR]; exact (Nat.le_of_ble_eq_true rfl)), (by rw [hR]; exact (Nat.le_of_ble_eq_true rfl))⟩) (sP_V hP hD hK hN hLp0 hKp0 rfl rfl) rfl rfl hl.1 rfl (lv_room (Nat.le_of_ble_eq_true rfl)) dX7_shifts_10 ⟨(by rw [hR]; exact (Nat.le_of_ble_eq_true rfl)), (by rw [hR]; exact (Nat.le_of_ble_eq_true rfl))⟩) hS hP (fun z10 H locs hz10 hP hS => ?_)
    obtain ⟨bz10, imz10, xpz10⟩ := hz10
    refine lv_if_ne (tgt := 18) hx hb dX7_shifts_13 (by decide) (fun c13 => ?_) (fun c13 => ?_)
    · have t13 := tq_ne (k := z10.toInt) (q := (0)) c13 rfl (by decide +kernel)
      have i13 := imz10 t13
      refine lv_iconst (v := 0) hx hb dX7_shifts_18 (by decide +kernel) ?_
      refine lv_istore_n (lv' := [(3, .int 0), (0, .ref p0), (1, .int p1), (2, .int p2)]) hx hb dX7_shifts_19 rfl hl (by decide) rfl (fun ls hl => ?_)
      refine lv_iconst (v := 1) hx hb dX7_shifts_20 (by decide +kernel) ?_
      refine lv_aload_n hx hb dX7_shifts_21 rfl (lv_at hl 1 rfl) ?_
      refine lv_iload_n hx hb dX7_shifts_22 rfl (lv_at hl 2 rfl) ?_
      refine ro_i (va_runV (As := [.int p1]) (rest := [.int 1]) ⟨hx, hb, hml, hown, hts⟩ (s_X7_high l dC dI cs L K G Q hQ x0 m0 tx tm H.size I J hI p0 hLp0 hKp0 p1 ⟨by omega, by omega⟩) (cwV 1 hts (gV pq1372 pq1374 pq33 pq81 pq1375) rfl rfl rfl (by decide +kernel) ⟨(by rw [hR]; exact (Nat.le_of_ble_eq_true rfl)), (by rw [hR]; exact (Nat.le_of_ble_eq_true rfl))⟩) (sP_V hP hD hK hN hLp0 hKp0 rfl rfl) rfl rfl hl.1 rfl (lv_room (Nat.le_of_ble_eq_true rfl)) dX7_shifts_23 ⟨(by rw [hR]; exact (Nat.le_of_ble_eq_true rfl)), (by rw [hR]; exact (Nat.le_of_ble_eq_true rfl))⟩) hS hP (fun z23 H locs hz23 hP hS => ?_)
      obtain ⟨bz23, fez23⟩ := hz23
      refine lv_isub hx hb dX7_shifts_26 ?_
      refine lv_topi (fun z26 ez26 => ?_)
      have bz26 := tq_sub (k := (1)) (q := z23.toInt) ez26 (by decide +kernel) rfl (by omega) (by omega)
      refine lv_istore (lv' := [(4, .int z26), (3, .int 0), (0, .ref p0), (1, .int p1), (2, .int p2)]) hx hb dX7_shifts_27 hl (by decide) rfl (fun ls hl => ?_)
      have key29 := blocks (fun n => ∀ (v29_3 : Int32) (v29_4 : Int32) (H : Heap) (lo : List Loc) (ls : Array Slot), (302 - v29_4.toInt).toNat = n → ((-39) ≤ v29_4.toInt ∧ v29_4.toInt ≤ 301) → (∀ σ : Sx, okF σ.1 → cmA Q I J p0 σ → v29_4.toInt ≤ 40) → (∀ σ : Sx, okF σ.1 → cmA Q I J p0 σ → v29_3.toInt = nSh (shiP σ p1 p2) (ix_ v29_4.toInt (-150))) → va_P (dC, dI) vwCl (Wd cs L K I J Q) H → va_S (fun _ => False) s.heap H lo → lv_has ls 6 [(0, .ref p0), (1, .int p1), (2, .int p2), (3, .int v29_3), (4, .int v29_4)] → W p l e R s m (([.ref p0, .int p1, .int p2] : List Value).toArray) below meth c H lo 0 0 Qz (F0 m 29 ls [])) (by
        intro n ih29
        intro v29_3 v29_4 H lo ls hmu29 bv29_4 hy29 g29 hP hS hl
        refine lv_iload hx hb dX7_shifts_29 (lv_at hl 4 rfl) ?_
        refine lv_aload_n hx hb dX7_shifts_31 rfl (lv_at hl 0 rfl) ?_
        refine lv_iload_n hx hb dX7_shifts_32 rfl (lv_at hl 2 rfl) ?_
        refine ro_i (va_runV (As := [.int p2]) (rest := [.int v29_4]) ⟨hx, hb, hml, hown, hts⟩ (s_X7_high l dC dI cs L K G Q hQ x0 m0 tx tm H.size I J hI p0 hLp0 hKp0 p2 ⟨by omega, by omega⟩) (cwV 1 hts (gV pq1372 pq1374 pq33 pq81 pq1375) rfl rfl rfl (by decide +kernel) ⟨(by rw [hR]; exact (Nat.le_of_ble_eq_true rfl)), (by rw [hR]; exact (Nat.le_of_ble_eq_true rfl))⟩) (sP_V hP hD hK hN hLp0 hKp0 rfl rfl) rfl rfl hl.1 rfl (lv_room (Nat.le_of_ble_eq_true rfl)) dX7_shifts_33 ⟨(by rw [hR]; exact (Nat.le_of_ble_eq_true rfl)), (by rw [hR]; exact (Nat.le_of_ble_eq_true rfl))⟩) hS hP (fun z33 H locs hz33 hP hS => ?_)
        obtain ⟨bz33, fez33⟩ := hz33
        refine lv_icmp_ge (tgt := 86) hx hb dX7_shifts_36 (by decide) (fun c36 => ?_) (fun c36 => ?_)
        · have t36 := tq_le (k := z33.toInt) (q := v29_4.toInt) c36 rfl rfl
          refine lv_iload_n hx hb dX7_shifts_86 rfl (lv_at hl 3 rfl) ?_
          subst hR; subst hQz
          exact W.iret (v := v29_3) hx hb hr (fun t ht hW => ⟨⟨v29_3, (), rfl, (fun σ ok h => by have hy_ := hy29 σ ok h; have q1 := xpz2.1 t5; have q2 := xpz10.1 t13; rw [cm_0 h] at q1 q2; have oa := ok.2.2.1 p1.toInt.toNat (by omega); have ob := ok.2.2.1 p2.toInt.toNat (by omega); have HB : ∀ x y, shiP σ p1 p2 x y → _ := (fun x y o => ovl_b ob oa o); have oa1 := oa.1; have oa2 := oa.2.1; have ob1 := ob.1; have ob2 := ob.2.1; have e33 : z33.toInt = (σ.1.1 (11 + p2.toInt.toNat)).toInt := congrArg Int32.toInt ((show z33 = I (a0 Q p0 0) (11 + p2.toInt.toNat) from fez33).trans (cmA_n h (by omega))); rw [shi_y ⟨q1, q2⟩, g29 σ ok h]; exact (nSh_mv (by unfold ix_; omega) (fun x y o a b => by have := HB x y o; unfold ix_; omega)).symm), trivial⟩, hS.F ht⟩) hS.2.2 dX7_shifts_87
        · have t36 := tq_nle (k := z33.toInt) (q := v29_4.toInt) c36 rfl rfl
          refine lv_iconst (v := 1) hx hb dX7_shifts_39 (by decide +kernel) ?_
          refine lv_aload_n hx hb dX7_shifts_40 rfl (lv_at hl 0 rfl) ?_
          refine lv_iload_n hx hb dX7_shifts_41 rfl (lv_at hl 1 rfl) ?_
          refine ro_i (va_runV (As := [.int p1]) (rest := [.int 1]) ⟨hx, hb, hml, hown, hts⟩ (s_X7_wide l dC dI cs L K G Q hQ x0 m0 tx tm H.size I J hI p0 hLp0 hKp0 p1 ⟨by omega, by omega⟩) (cwV 1 hts (gV pq1368 pq1370 pq32 pq81 pq1371) rfl rfl rfl (by decide +kernel) ⟨(by rw [hR]; exact (Nat.le_of_ble_eq_true rfl)), (by rw [hR]; exact (Nat.le_of_ble_eq_true rfl))⟩) (sP_V hP hD hK hN hLp0 hKp0 rfl rfl) rfl rfl hl.1 rfl (lv_room (Nat.le_of_ble_eq_true rfl)) dX7_shifts_42 ⟨(by rw [hR]; exact (Nat.le_of_ble_eq_true rfl)), (by rw [hR]; exact (Nat.le_of_ble_eq_true rfl))⟩) hS hP (fun z42 H locs hz42 hP hS => ?_)
          obtain ⟨bz42, fez42⟩ := hz42
          refine lv_isub hx hb dX7_shifts_45 ?_
          refine lv_topi (fun z45 ez45 => ?_)
          have bz45 := tq_sub (k := (1)) (q := z42.toInt) ez45 (by decide +kernel) rfl (by omega) (by omega)
          refine lv_istore (lv' := [(5, .int z45), (0, .ref p0), (1, .int p1), (2, .int p2), (3, .int v29_3), (4, .int v29_4)]) hx hb dX7_shifts_46 hl (by decide) rfl (fun ls hl => ?_)
          have key48 := blocks (fun n => ∀ (v48_3 : Int32) (v48_5 : Int32) (H : Heap) (lo : List Loc) (ls : Array Slot), (302 - v48_5.toInt).toNat = n → ((-99) ≤ v48_5.toInt ∧ v48_5.toInt ≤ 301) → (∀ σ : Sx, okF σ.1 → cmA Q I J p0 σ → v48_5.toInt ≤ 100) → (∀ σ : Sx, okF σ.1 → cmA Q I J p0 σ → v48_3.toInt = nSh (shiP σ p1 p2) (ix_ v29_4.toInt v48_5.toInt)) → va_P (dC, dI) vwCl (Wd cs L K I J Q) H → va_S (fun _ => False) s.heap H lo → lv_has ls 6 [(0, .ref p0), (1, .int p1), (2, .int p2), (3, .int v48_3), (4, .int v29_4), (5, .int v48_5)] → W p l e R s m (([.ref p0, .int p1, .int p2] : List Value).toArray) below meth c H lo 0 0 Qz (F0 m 48 ls [])) (by
            intro n ih48
            intro v48_3 v48_5 H lo ls hmu48 bv48_5 hx48 g48 hP hS hl
            refine lv_iload hx hb dX7_shifts_48 (lv_at hl 5 rfl) ?_
            refine lv_aload_n hx hb dX7_shifts_50 rfl (lv_at hl 0 rfl) ?_
            refine lv_iload_n hx hb dX7_shifts_51 rfl (lv_at hl 2 rfl) ?_
            refine ro_i (va_runV (As := [.int p2]) (rest := [.int v48_5]) ⟨hx, hb, hml, hown, hts⟩ (s_X7_wide l dC dI cs L K G Q hQ x0 m0 tx tm H.size I J hI p0 hLp0 hKp0 p2 ⟨by omega, by omega⟩) (cwV 1 hts (gV pq1368 pq1370 pq32 pq81 pq1371) rfl rfl rfl (by decide +kernel) ⟨(by rw [hR]; exact (Nat.le_of_ble_eq_true rfl)), (by rw [hR]; exact (Nat.le_of_ble_eq_true rfl))⟩) (sP_V hP hD hK hN hLp0 hKp0 rfl rfl) rfl rfl hl.1 rfl (lv_room (Nat.le_of_ble_eq_true rfl)) dX7_shifts_52 ⟨(by rw [hR]; exact (Nat.le_of_ble_eq_true rfl)), (by rw [hR]; exact (Nat.le_of_ble_eq_true rfl))⟩) hS hP (fun z52 H locs hz52 hP hS => ?_)
            obtain ⟨bz52, fez52⟩ := hz52
            refine lv_icmp_ge (tgt := 80) hx hb dX7_shifts_55 (by decide) (fun c55 => ?_) (fun c55 => ?_)
            · have t55 := tq_le (k := z52.toInt) (q := v48_5.toInt) c55 rfl rfl
              obtain ⟨z80, ez80⟩ : ∃ y : Int32, y = v29_4 + 1 := ⟨_, rfl⟩
              refine lv_iinc (v := z80) (lv' := [(4, .int z80), (0, .ref p0), (1, .int p1), (2, .int p2), (3, .int v48_3), (5, .int v48_5)]) hx hb dX7_shifts_80 hl (k := 4) rfl (by rw [ez80]; rfl) (by decide) rfl (fun ls hl => ?_)
              have bz80 := tq_add (k := v29_4.toInt) (q := 1) ez80 rfl (by decide +kernel) (by omega) (by omega)
              refine lv_goto (tgt := 29) hx hb dX7_shifts_83 (by decide) ?_
              exact ih29 _ (by omega) v48_3 z80 _ _ _ rfl ⟨by omega, by omega⟩ (fun σ ok h => by omega) (fun σ ok h => by have hy_ := hy29 σ ok h; have q1 := xpz2.1 t5; have q2 := xpz10.1 t13; rw [cm_0 h] at q1 q2; have oa := ok.2.2.1 p1.toInt.toNat (by omega); have ob := ok.2.2.1 p2.toInt.toNat (by omega); have HB : ∀ x y, shiP σ p1 p2 x y → _ := (fun x y o => ovl_b ob oa o); have oa1 := oa.1; have oa2 := oa.2.1; have ob1 := ob.1; have ob2 := ob.2.1; have e52 : z52.toInt = (σ.1.1 (3 + p2.toInt.toNat)).toInt := congrArg Int32.toInt ((show z52 = I (a0 Q p0 0) (3 + p2.toInt.toNat) from fez52).trans (cmA_n h (by omega))); have hx_ := hx48 σ ok h; rw [g48 σ ok h]; exact (nSh_mv (by unfold ix_; omega) (fun x y o a b => by have := HB x y o; unfold ix_; omega)).symm) hP hS (lv_sub hl [1, 2, 3, 4, 0] rfl)
            · have t55 := tq_nle (k := z52.toInt) (q := v48_5.toInt) c55 rfl rfl
              refine lv_iload_n hx hb dX7_shifts_58 rfl (lv_at hl 3 rfl) ?_
              refine lv_aload_n hx hb dX7_shifts_59 rfl (lv_at hl 0 rfl) ?_
              refine lv_iload_n hx hb dX7_shifts_60 rfl (lv_at hl 1 rfl) ?_
              refine lv_iload_n hx hb dX7_shifts_61 rfl (lv_at hl 2 rfl) ?_
              refine lv_iload hx hb dX7_shifts_62 (lv_at hl 5 rfl) ?_
              refine lv_iload hx hb dX7_shifts_64 (lv_at hl 4 rfl) ?_
              refine ro_i (va_runV (As := [.int p1, .int p2, .int v48_5, .int v29_4]) (rest := [.int v48_3]) ⟨hx, hb, hml, hown, hts⟩ (s_X7_masksMeet l dC dI cs L K G Q hQ x0 m0 tx tm H.size I J hI p0 hLp0 hKp0 p1 ⟨by omega, by omega⟩ p2 ⟨by omega, by omega⟩ v48_5 v29_4 ⟨by omega, by omega⟩) (cwV 4 hts (gV pq1662 pq1664 pq68 pq81 pq1665) rfl rfl rfl (by decide +kernel) ⟨(by rw [hR]; exact (Nat.le_of_ble_eq_true rfl)), (by rw [hR]; exact (Nat.le_of_ble_eq_true rfl))⟩) (sP_V hP hD hK hN hLp0 hKp0 rfl rfl) rfl rfl hl.1 rfl (lv_room (Nat.le_of_ble_eq_true rfl)) dX7_shifts_66 ⟨(by rw [hR]; exact (Nat.le_of_ble_eq_true rfl)), (by rw [hR]; exact (Nat.le_of_ble_eq_true rfl))⟩) hS hP (fun z66 H locs hz66 hP hS => ?_)
              obtain ⟨bz66, xpz66⟩ := hz66
              refine ro_i (va_runS (As := [.int z66]) (rest := [.int v48_3]) ⟨hx, hb, hml, hown, hts⟩ (s_X7_truth l dC dI cs L K Q H.size I J z66) (va_cwS 1 hts (gS pq1257 pq1258 pq81 pq1259) rfl rfl rfl (by decide +kernel) ⟨(by rw [hR]; exact (Nat.le_of_ble_eq_true rfl)), (by rw [hR]; exact (Nat.le_of_ble_eq_true rfl))⟩) (sP_S hP hD hK hN) rfl rfl hl.1 rfl (lv_room (Nat.le_of_ble_eq_true rfl)) dX7_shifts_69 ⟨(by rw [hR]; exact (Nat.le_of_ble_eq_true rfl)), (by rw [hR]; exact (Nat.le_of_ble_eq_true rfl))⟩) hS hP (fun z69 H locs hz69 hP hS => ?_)
              obtain ⟨bz69, xpz69⟩ := hz69
              refine lv_iadd hx hb dX7_shifts_72 ?_
              refine lv_topi (fun z72 ez72 => ?_)
              refine lv_istore_n (lv' := [(3, .int z72), (0, .ref p0), (1, .int p1), (2, .int p2), (4, .int v29_4), (5, .int v48_5)]) hx hb dX7_shifts_73 rfl hl (by decide) rfl (fun ls hl => ?_)
              obtain ⟨z74, ez74⟩ : ∃ y : Int32, y = v48_5 + 1 := ⟨_, rfl⟩
              refine lv_iinc (v := z74) (lv' := [(5, .int z74), (3, .int z72), (0, .ref p0), (1, .int p1), (2, .int p2), (4, .int v29_4)]) hx hb dX7_shifts_74 hl (k := 5) rfl (by rw [ez74]; rfl) (by decide) rfl (fun ls hl => ?_)
              have bz74 := tq_add (k := v48_5.toInt) (q := 1) ez74 rfl (by decide +kernel) (by omega) (by omega)
              refine lv_goto (tgt := 48) hx hb dX7_shifts_77 (by decide) ?_
              exact ih48 _ (by omega) z72 z74 _ _ _ rfl ⟨by omega, by omega⟩ (fun σ ok h => by omega) (fun σ ok h => by have hy_ := hy29 σ ok h; have q1 := xpz2.1 t5; have q2 := xpz10.1 t13; rw [cm_0 h] at q1 q2; have oa := ok.2.2.1 p1.toInt.toNat (by omega); have ob := ok.2.2.1 p2.toInt.toNat (by omega); have HB : ∀ x y, shiP σ p1 p2 x y → _ := (fun x y o => ovl_b ob oa o); have oa1 := oa.1; have oa2 := oa.2.1; have ob1 := ob.1; have ob2 := ob.2.1; have hx_ := hx48 σ ok h; have w := xpz66 σ.1 ok (cmA_rI h) (cmA_rJ h) (by omega) (by omega); have b := nSh_b (shiP σ p1 p2) (ix_ v29_4.toInt v48_5.toInt); have g := g48 σ ok h; by_cases k : z66.toInt = 0; (have z0 := xpz69.1 k; have a := tq_add (k := v48_3.toInt) (q := z69.toInt) ez72 rfl rfl (by omega) (by rw [g]; unfold ix_ at b ⊢; omega); rw [a, z0, g, Int.add_zero]; exact (nSh_no (P := shiP σ p1 p2) (X := v48_5.toInt) (by omega) (by omega) bz74 (fun p => (w.mpr p) k)).symm); (have z1 := xpz69.2 k; have a := tq_add (k := v48_3.toInt) (q := z69.toInt) ez72 rfl rfl (by omega) (by rw [g]; unfold ix_ at b ⊢; omega); rw [a, z1, g]; exact (nSh_yes (P := shiP σ p1 p2) (X := v48_5.toInt) (by omega) (by omega) bz74 (w.mp k)).symm)) hP hS (lv_sub hl [2, 3, 4, 1, 5, 0] rfl))
          exact key48 _ v29_3 z45 _ _ _ rfl ⟨by omega, by omega⟩ (fun σ ok h => by have q1 := xpz2.1 t5; have q2 := xpz10.1 t13; rw [cm_0 h] at q1 q2; have oa := ok.2.2.1 p1.toInt.toNat (by omega); have ob := ok.2.2.1 p2.toInt.toNat (by omega); have HB : ∀ x y, shiP σ p1 p2 x y → _ := (fun x y o => ovl_b ob oa o); have oa1 := oa.1; have oa2 := oa.2.1; have ob1 := ob.1; have ob2 := ob.2.1; have e42 : z42.toInt = (σ.1.1 (3 + p1.toInt.toNat)).toInt := congrArg Int32.toInt ((show z42 = I (a0 Q p0 0) (3 + p1.toInt.toNat) from fez42).trans (cmA_n h (by omega))); omega) (fun σ ok h => by have hy_ := hy29 σ ok h; have q1 := xpz2.1 t5; have q2 := xpz10.1 t13; rw [cm_0 h] at q1 q2; have oa := ok.2.2.1 p1.toInt.toNat (by omega); have ob := ok.2.2.1 p2.toInt.toNat (by omega); have HB : ∀ x y, shiP σ p1 p2 x y → _ := (fun x y o => ovl_b ob oa o); have oa1 := oa.1; have oa2 := oa.2.1; have ob1 := ob.1; have ob2 := ob.2.1; have e42 : z42.toInt = (σ.1.1 (3 + p1.toInt.toNat)).toInt := congrArg Int32.toInt ((show z42 = I (a0 Q p0 0) (3 + p1.toInt.toNat) from fez42).trans (cmA_n h (by omega))); rw [g29 σ ok h]; exact (nSh_mv (by unfold ix_; omega) (fun x y o a b => by have := HB x y o; unfold ix_; omega)).symm) hP hS (lv_sub hl [1, 2, 3, 4, 5, 0] rfl))
      exact key29 _ 0 z26 _ _ _ rfl ⟨by omega, by omega⟩ (fun σ ok h => by have q1 := xpz2.1 t5; have q2 := xpz10.1 t13; rw [cm_0 h] at q1 q2; have oa := ok.2.2.1 p1.toInt.toNat (by omega); have ob := ok.2.2.1 p2.toInt.toNat (by omega); have HB : ∀ x y, shiP σ p1 p2 x y → _ := (fun x y o => ovl_b ob oa o); have oa1 := oa.1; have oa2 := oa.2.1; have ob1 := ob.1; have ob2 := ob.2.1; have e23 : z23.toInt = (σ.1.1 (11 + p1.toInt.toNat)).toInt := congrArg Int32.toInt ((show z23 = I (a0 Q p0 0) (11 + p1.toInt.toNat) from fez23).trans (cmA_n h (by omega))); omega) (fun σ ok h => by have q1 := xpz2.1 t5; have q2 := xpz10.1 t13; rw [cm_0 h] at q1 q2; have oa := ok.2.2.1 p1.toInt.toNat (by omega); have ob := ok.2.2.1 p2.toInt.toNat (by omega); have HB : ∀ x y, shiP σ p1 p2 x y → _ := (fun x y o => ovl_b ob oa o); have oa1 := oa.1; have oa2 := oa.2.1; have ob1 := ob.1; have ob2 := ob.2.1; have e23 : z23.toInt = (σ.1.1 (11 + p1.toInt.toNat)).toInt := congrArg Int32.toInt ((show z23 = I (a0 Q p0 0) (11 + p1.toInt.toNat) from fez23).trans (cmA_n h (by omega))); rw [nSh_lo (fun x y o a b => by have := HB x y o; unfold ix_; omega)]; show (0 : Int32).toInt = 0; decide +kernel) hP hS (lv_sub hl [2, 3, 4, 1, 0] rfl)
    · have t13 := tq_eq (k := z10.toInt) (q := (0)) c13 rfl (by decide +kernel)
      refine lv_iconst (v := (-1)) hx hb dX7_shifts_16 (by decide +kernel) ?_
      subst hR; subst hQz
      exact W.iret (v := (-1)) hx hb hr (fun t ht hW => ⟨⟨(-1), (), rfl, (fun σ ok h => by rw [shi_n (fun w => by first | exact xpz2.2 t5 (by rw [cm_0 h]; exact w.1) | exact xpz10.2 t13 (by rw [cm_0 h]; exact w.2))]; decide +kernel), trivial⟩, hS.F ht⟩) hS.2.2 dX7_shifts_17
