def yX7_readsRows : MethodName := ⟨RX7, "readsRows", "(I)V"⟩
abbrev cX7_readsRows : ByteArray := prog_9_method_21_code
abbrev cX7_readsBody : ByteArray := prog_9_method_22_code
abbrev cX7_readsForm : ByteArray := prog_9_method_18_code
def yX7_readsBody : MethodName := ⟨RX7, "readsBody", "()V"⟩
def yX7_readsForm : MethodName := ⟨RX7, "readsForm", "()V"⟩
theorem dX7_readsBody_0 : decode cX7_readsBody 0 = .ok (.bipush 19, 2) := by decide +kernel
theorem dX7_readsBody_2 : decode cX7_readsBody 2 = .ok (.bipush 8, 2) := by decide +kernel
theorem dX7_readsBody_4 : decode cX7_readsBody 4 = .ok (.aload_n 0, 1) := by decide +kernel
theorem dX7_readsBody_5 : decode cX7_readsBody 5 = .ok (.getfield 13, 3) := by decide +kernel
theorem dX7_readsBody_8 : decode cX7_readsBody 8 = .ok (.iconst 1, 1) := by decide +kernel
theorem dX7_readsBody_9 : decode cX7_readsBody 9 = .ok (.iaload, 1) := by decide +kernel
theorem dX7_readsBody_10 : decode cX7_readsBody 10 = .ok (.imul, 1) := by decide +kernel
theorem dX7_readsBody_11 : decode cX7_readsBody 11 = .ok (.iadd, 1) := by decide +kernel
theorem dX7_readsBody_12 : decode cX7_readsBody 12 = .ok (.istore_n 1, 1) := by decide +kernel
theorem dX7_readsBody_13 : decode cX7_readsBody 13 = .ok (.aload_n 0, 1) := by decide +kernel
theorem dX7_readsBody_14 : decode cX7_readsBody 14 = .ok (.getfield 13, 3) := by decide +kernel
theorem dX7_readsBody_17 : decode cX7_readsBody 17 = .ok (.iload_n 1, 1) := by decide +kernel
theorem dX7_readsBody_18 : decode cX7_readsBody 18 = .ok (.iconst 0, 1) := by decide +kernel
theorem dX7_readsBody_19 : decode cX7_readsBody 19 = .ok (.iadd, 1) := by decide +kernel
theorem dX7_readsBody_20 : decode cX7_readsBody 20 = .ok (.aload_n 0, 1) := by decide +kernel
theorem dX7_readsBody_21 : decode cX7_readsBody 21 = .ok (.iconst 0, 1) := by decide +kernel
theorem dX7_readsBody_22 : decode cX7_readsBody 22 = .ok (.aload_n 0, 1) := by decide +kernel
theorem dX7_readsBody_23 : decode cX7_readsBody 23 = .ok (.getfield 13, 3) := by decide +kernel
theorem dX7_readsBody_26 : decode cX7_readsBody 26 = .ok (.iconst 0, 1) := by decide +kernel
theorem dX7_readsBody_27 : decode cX7_readsBody 27 = .ok (.iaload, 1) := by decide +kernel
theorem dX7_readsBody_28 : decode cX7_readsBody 28 = .ok (.iconst 1, 1) := by decide +kernel
theorem dX7_readsBody_29 : decode cX7_readsBody 29 = .ok (.isub, 1) := by decide +kernel
theorem dX7_readsBody_30 : decode cX7_readsBody 30 = .ok (.invokevirtual 131, 3) := by decide +kernel
theorem dX7_readsBody_33 : decode cX7_readsBody 33 = .ok (.iastore, 1) := by decide +kernel
theorem dX7_readsBody_34 : decode cX7_readsBody 34 = .ok (.aload_n 0, 1) := by decide +kernel
theorem dX7_readsBody_35 : decode cX7_readsBody 35 = .ok (.getfield 13, 3) := by decide +kernel
theorem dX7_readsBody_38 : decode cX7_readsBody 38 = .ok (.iload_n 1, 1) := by decide +kernel
theorem dX7_readsBody_39 : decode cX7_readsBody 39 = .ok (.iconst 1, 1) := by decide +kernel
theorem dX7_readsBody_40 : decode cX7_readsBody 40 = .ok (.iadd, 1) := by decide +kernel
theorem dX7_readsBody_41 : decode cX7_readsBody 41 = .ok (.aload_n 0, 1) := by decide +kernel
theorem dX7_readsBody_42 : decode cX7_readsBody 42 = .ok (.sipush 999, 3) := by decide +kernel
theorem dX7_readsBody_45 : decode cX7_readsBody 45 = .ok (.invokevirtual 161, 3) := by decide +kernel
theorem dX7_readsBody_48 : decode cX7_readsBody 48 = .ok (.iastore, 1) := by decide +kernel
theorem dX7_readsBody_49 : decode cX7_readsBody 49 = .ok (.aload_n 0, 1) := by decide +kernel
theorem dX7_readsBody_50 : decode cX7_readsBody 50 = .ok (.getfield 13, 3) := by decide +kernel
theorem dX7_readsBody_53 : decode cX7_readsBody 53 = .ok (.iload_n 1, 1) := by decide +kernel
theorem dX7_readsBody_54 : decode cX7_readsBody 54 = .ok (.iconst 2, 1) := by decide +kernel
theorem dX7_readsBody_55 : decode cX7_readsBody 55 = .ok (.iadd, 1) := by decide +kernel
theorem dX7_readsBody_56 : decode cX7_readsBody 56 = .ok (.aload_n 0, 1) := by decide +kernel
theorem dX7_readsBody_57 : decode cX7_readsBody 57 = .ok (.sipush 999, 3) := by decide +kernel
theorem dX7_readsBody_60 : decode cX7_readsBody 60 = .ok (.invokevirtual 161, 3) := by decide +kernel
theorem dX7_readsBody_63 : decode cX7_readsBody 63 = .ok (.iastore, 1) := by decide +kernel
theorem dX7_readsBody_64 : decode cX7_readsBody 64 = .ok (.aload_n 0, 1) := by decide +kernel
theorem dX7_readsBody_65 : decode cX7_readsBody 65 = .ok (.getfield 13, 3) := by decide +kernel
theorem dX7_readsBody_68 : decode cX7_readsBody 68 = .ok (.iload_n 1, 1) := by decide +kernel
theorem dX7_readsBody_69 : decode cX7_readsBody 69 = .ok (.iconst 3, 1) := by decide +kernel
theorem dX7_readsBody_70 : decode cX7_readsBody 70 = .ok (.iadd, 1) := by decide +kernel
theorem dX7_readsBody_71 : decode cX7_readsBody 71 = .ok (.aload_n 0, 1) := by decide +kernel
theorem dX7_readsBody_72 : decode cX7_readsBody 72 = .ok (.invokevirtual 85, 3) := by decide +kernel
theorem dX7_readsBody_75 : decode cX7_readsBody 75 = .ok (.ifCond .eq 21, 3) := by decide +kernel
theorem dX7_readsBody_78 : decode cX7_readsBody 78 = .ok (.aload_n 0, 1) := by decide +kernel
theorem dX7_readsBody_79 : decode cX7_readsBody 79 = .ok (.ldc 165, 2) := by decide +kernel
theorem dX7_readsBody_81 : decode cX7_readsBody 81 = .ok (.invokevirtual 142, 3) := by decide +kernel
theorem dX7_readsBody_84 : decode cX7_readsBody 84 = .ok (.ifCond .eq 12, 3) := by decide +kernel
theorem dX7_readsBody_87 : decode cX7_readsBody 87 = .ok (.aload_n 0, 1) := by decide +kernel
theorem dX7_readsBody_88 : decode cX7_readsBody 88 = .ok (.iconst 0, 1) := by decide +kernel
theorem dX7_readsBody_89 : decode cX7_readsBody 89 = .ok (.iconst 3, 1) := by decide +kernel
theorem dX7_readsBody_90 : decode cX7_readsBody 90 = .ok (.invokevirtual 131, 3) := by decide +kernel
theorem dX7_readsBody_93 : decode cX7_readsBody 93 = .ok (.goto 4, 3) := by decide +kernel
theorem dX7_readsBody_96 : decode cX7_readsBody 96 = .ok (.iconst 0, 1) := by decide +kernel
theorem dX7_readsBody_97 : decode cX7_readsBody 97 = .ok (.iastore, 1) := by decide +kernel
theorem dX7_readsBody_98 : decode cX7_readsBody 98 = .ok (.aload_n 0, 1) := by decide +kernel
theorem dX7_readsBody_99 : decode cX7_readsBody 99 = .ok (.invokevirtual 85, 3) := by decide +kernel
theorem dX7_readsBody_102 : decode cX7_readsBody 102 = .ok (.ifCond .eq 16, 3) := by decide +kernel
theorem dX7_readsBody_105 : decode cX7_readsBody 105 = .ok (.aload_n 0, 1) := by decide +kernel
theorem dX7_readsBody_106 : decode cX7_readsBody 106 = .ok (.ldc 167, 2) := by decide +kernel
theorem dX7_readsBody_108 : decode cX7_readsBody 108 = .ok (.invokevirtual 142, 3) := by decide +kernel
theorem dX7_readsBody_111 : decode cX7_readsBody 111 = .ok (.ifCond .eq 7, 3) := by decide +kernel
theorem dX7_readsBody_114 : decode cX7_readsBody 114 = .ok (.iconst 1, 1) := by decide +kernel
theorem dX7_readsBody_115 : decode cX7_readsBody 115 = .ok (.goto 4, 3) := by decide +kernel
theorem dX7_readsBody_118 : decode cX7_readsBody 118 = .ok (.iconst 0, 1) := by decide +kernel
theorem dX7_readsBody_119 : decode cX7_readsBody 119 = .ok (.istore_n 2, 1) := by decide +kernel
theorem dX7_readsBody_120 : decode cX7_readsBody 120 = .ok (.aload_n 0, 1) := by decide +kernel
theorem dX7_readsBody_121 : decode cX7_readsBody 121 = .ok (.getfield 13, 3) := by decide +kernel
theorem dX7_readsBody_124 : decode cX7_readsBody 124 = .ok (.iload_n 1, 1) := by decide +kernel
theorem dX7_readsBody_125 : decode cX7_readsBody 125 = .ok (.iconst 4, 1) := by decide +kernel
theorem dX7_readsBody_126 : decode cX7_readsBody 126 = .ok (.iadd, 1) := by decide +kernel
theorem dX7_readsBody_127 : decode cX7_readsBody 127 = .ok (.iload_n 2, 1) := by decide +kernel
theorem dX7_readsBody_128 : decode cX7_readsBody 128 = .ok (.ifCond .eq 13, 3) := by decide +kernel
theorem dX7_readsBody_131 : decode cX7_readsBody 131 = .ok (.aload_n 0, 1) := by decide +kernel
theorem dX7_readsBody_132 : decode cX7_readsBody 132 = .ok (.iconst 0, 1) := by decide +kernel
theorem dX7_readsBody_133 : decode cX7_readsBody 133 = .ok (.bipush 15, 2) := by decide +kernel
theorem dX7_readsBody_135 : decode cX7_readsBody 135 = .ok (.invokevirtual 131, 3) := by decide +kernel
theorem dX7_readsBody_138 : decode cX7_readsBody 138 = .ok (.goto 4, 3) := by decide +kernel
theorem dX7_readsBody_141 : decode cX7_readsBody 141 = .ok (.iconst 1, 1) := by decide +kernel
theorem dX7_readsBody_142 : decode cX7_readsBody 142 = .ok (.iastore, 1) := by decide +kernel
theorem dX7_readsBody_143 : decode cX7_readsBody 143 = .ok (.aload_n 0, 1) := by decide +kernel
theorem dX7_readsBody_144 : decode cX7_readsBody 144 = .ok (.getfield 13, 3) := by decide +kernel
theorem dX7_readsBody_147 : decode cX7_readsBody 147 = .ok (.iload_n 1, 1) := by decide +kernel
theorem dX7_readsBody_148 : decode cX7_readsBody 148 = .ok (.iconst 5, 1) := by decide +kernel
theorem dX7_readsBody_149 : decode cX7_readsBody 149 = .ok (.iadd, 1) := by decide +kernel
theorem dX7_readsBody_150 : decode cX7_readsBody 150 = .ok (.iload_n 2, 1) := by decide +kernel
theorem dX7_readsBody_151 : decode cX7_readsBody 151 = .ok (.ifCond .eq 13, 3) := by decide +kernel
theorem dX7_readsBody_154 : decode cX7_readsBody 154 = .ok (.aload_n 0, 1) := by decide +kernel
theorem dX7_readsBody_155 : decode cX7_readsBody 155 = .ok (.iconst 0, 1) := by decide +kernel
theorem dX7_readsBody_156 : decode cX7_readsBody 156 = .ok (.bipush 15, 2) := by decide +kernel
theorem dX7_readsBody_158 : decode cX7_readsBody 158 = .ok (.invokevirtual 131, 3) := by decide +kernel
theorem dX7_readsBody_161 : decode cX7_readsBody 161 = .ok (.goto 4, 3) := by decide +kernel
theorem dX7_readsBody_164 : decode cX7_readsBody 164 = .ok (.iconst 1, 1) := by decide +kernel
theorem dX7_readsBody_165 : decode cX7_readsBody 165 = .ok (.iastore, 1) := by decide +kernel
theorem dX7_readsBody_166 : decode cX7_readsBody 166 = .ok (.aload_n 0, 1) := by decide +kernel
theorem dX7_readsBody_167 : decode cX7_readsBody 167 = .ok (.invokevirtual 85, 3) := by decide +kernel
theorem dX7_readsBody_170 : decode cX7_readsBody 170 = .ok (.ifCond .eq 16, 3) := by decide +kernel
theorem dX7_readsBody_173 : decode cX7_readsBody 173 = .ok (.aload_n 0, 1) := by decide +kernel
theorem dX7_readsBody_174 : decode cX7_readsBody 174 = .ok (.ldc 169, 2) := by decide +kernel
theorem dX7_readsBody_176 : decode cX7_readsBody 176 = .ok (.invokevirtual 142, 3) := by decide +kernel
theorem dX7_readsBody_179 : decode cX7_readsBody 179 = .ok (.ifCond .eq 7, 3) := by decide +kernel
theorem dX7_readsBody_182 : decode cX7_readsBody 182 = .ok (.iconst 1, 1) := by decide +kernel
theorem dX7_readsBody_183 : decode cX7_readsBody 183 = .ok (.goto 4, 3) := by decide +kernel
theorem dX7_readsBody_186 : decode cX7_readsBody 186 = .ok (.iconst 0, 1) := by decide +kernel
theorem dX7_readsBody_187 : decode cX7_readsBody 187 = .ok (.istore_n 2, 1) := by decide +kernel
theorem dX7_readsBody_188 : decode cX7_readsBody 188 = .ok (.aload_n 0, 1) := by decide +kernel
theorem dX7_readsBody_189 : decode cX7_readsBody 189 = .ok (.getfield 13, 3) := by decide +kernel
theorem dX7_readsBody_192 : decode cX7_readsBody 192 = .ok (.iload_n 1, 1) := by decide +kernel
theorem dX7_readsBody_193 : decode cX7_readsBody 193 = .ok (.bipush 6, 2) := by decide +kernel
theorem dX7_readsBody_195 : decode cX7_readsBody 195 = .ok (.iadd, 1) := by decide +kernel
theorem dX7_readsBody_196 : decode cX7_readsBody 196 = .ok (.iload_n 2, 1) := by decide +kernel
theorem dX7_readsBody_197 : decode cX7_readsBody 197 = .ok (.ifCond .eq 12, 3) := by decide +kernel
theorem dX7_readsBody_200 : decode cX7_readsBody 200 = .ok (.aload_n 0, 1) := by decide +kernel
theorem dX7_readsBody_201 : decode cX7_readsBody 201 = .ok (.bipush 20, 2) := by decide +kernel
theorem dX7_readsBody_203 : decode cX7_readsBody 203 = .ok (.invokevirtual 161, 3) := by decide +kernel
theorem dX7_readsBody_206 : decode cX7_readsBody 206 = .ok (.goto 4, 3) := by decide +kernel
theorem dX7_readsBody_209 : decode cX7_readsBody 209 = .ok (.iconst 0, 1) := by decide +kernel
theorem dX7_readsBody_210 : decode cX7_readsBody 210 = .ok (.iastore, 1) := by decide +kernel
theorem dX7_readsBody_211 : decode cX7_readsBody 211 = .ok (.aload_n 0, 1) := by decide +kernel
theorem dX7_readsBody_212 : decode cX7_readsBody 212 = .ok (.getfield 13, 3) := by decide +kernel
theorem dX7_readsBody_215 : decode cX7_readsBody 215 = .ok (.iload_n 1, 1) := by decide +kernel
theorem dX7_readsBody_216 : decode cX7_readsBody 216 = .ok (.bipush 7, 2) := by decide +kernel
theorem dX7_readsBody_218 : decode cX7_readsBody 218 = .ok (.iadd, 1) := by decide +kernel
theorem dX7_readsBody_219 : decode cX7_readsBody 219 = .ok (.iload_n 2, 1) := by decide +kernel
theorem dX7_readsBody_220 : decode cX7_readsBody 220 = .ok (.ifCond .eq 12, 3) := by decide +kernel
theorem dX7_readsBody_223 : decode cX7_readsBody 223 = .ok (.aload_n 0, 1) := by decide +kernel
theorem dX7_readsBody_224 : decode cX7_readsBody 224 = .ok (.bipush 20, 2) := by decide +kernel
theorem dX7_readsBody_226 : decode cX7_readsBody 226 = .ok (.invokevirtual 161, 3) := by decide +kernel
theorem dX7_readsBody_229 : decode cX7_readsBody 229 = .ok (.goto 4, 3) := by decide +kernel
theorem dX7_readsBody_232 : decode cX7_readsBody 232 = .ok (.iconst 0, 1) := by decide +kernel
theorem dX7_readsBody_233 : decode cX7_readsBody 233 = .ok (.iastore, 1) := by decide +kernel
theorem dX7_readsBody_234 : decode cX7_readsBody 234 = .ok (.aload_n 0, 1) := by decide +kernel
theorem dX7_readsBody_235 : decode cX7_readsBody 235 = .ok (.getfield 13, 3) := by decide +kernel
theorem dX7_readsBody_238 : decode cX7_readsBody 238 = .ok (.iconst 1, 1) := by decide +kernel
theorem dX7_readsBody_239 : decode cX7_readsBody 239 = .ok (.dup2, 1) := by decide +kernel
theorem dX7_readsBody_240 : decode cX7_readsBody 240 = .ok (.iaload, 1) := by decide +kernel
theorem dX7_readsBody_241 : decode cX7_readsBody 241 = .ok (.aload_n 0, 1) := by decide +kernel
theorem dX7_readsBody_242 : decode cX7_readsBody 242 = .ok (.invokevirtual 85, 3) := by decide +kernel
theorem dX7_readsBody_245 : decode cX7_readsBody 245 = .ok (.invokestatic 127, 3) := by decide +kernel
theorem dX7_readsBody_248 : decode cX7_readsBody 248 = .ok (.iadd, 1) := by decide +kernel
theorem dX7_readsBody_249 : decode cX7_readsBody 249 = .ok (.iastore, 1) := by decide +kernel
theorem dX7_readsBody_250 : decode cX7_readsBody 250 = .ok (.return_, 1) := by decide +kernel
theorem dX7_readsForm_0 : decode cX7_readsForm 0 = .ok (.aload_n 0, 1) := by decide +kernel
theorem dX7_readsForm_1 : decode cX7_readsForm 1 = .ok (.getfield 13, 3) := by decide +kernel
theorem dX7_readsForm_4 : decode cX7_readsForm 4 = .ok (.iconst 0, 1) := by decide +kernel
theorem dX7_readsForm_5 : decode cX7_readsForm 5 = .ok (.iaload, 1) := by decide +kernel
theorem dX7_readsForm_6 : decode cX7_readsForm 6 = .ok (.istore_n 1, 1) := by decide +kernel
theorem dX7_readsForm_7 : decode cX7_readsForm 7 = .ok (.aload_n 0, 1) := by decide +kernel
theorem dX7_readsForm_8 : decode cX7_readsForm 8 = .ok (.invokevirtual 89, 3) := by decide +kernel
theorem dX7_readsForm_11 : decode cX7_readsForm 11 = .ok (.invokestatic 134, 3) := by decide +kernel
theorem dX7_readsForm_14 : decode cX7_readsForm 14 = .ok (.ifCond .eq 11, 3) := by decide +kernel
theorem dX7_readsForm_17 : decode cX7_readsForm 17 = .ok (.aload_n 0, 1) := by decide +kernel
theorem dX7_readsForm_18 : decode cX7_readsForm 18 = .ok (.iload_n 1, 1) := by decide +kernel
theorem dX7_readsForm_19 : decode cX7_readsForm 19 = .ok (.invokevirtual 138, 3) := by decide +kernel
theorem dX7_readsForm_22 : decode cX7_readsForm 22 = .ok (.goto 121, 3) := by decide +kernel
theorem dX7_readsForm_25 : decode cX7_readsForm 25 = .ok (.aload_n 0, 1) := by decide +kernel
theorem dX7_readsForm_26 : decode cX7_readsForm 26 = .ok (.ldc 141, 2) := by decide +kernel
theorem dX7_readsForm_28 : decode cX7_readsForm 28 = .ok (.invokevirtual 142, 3) := by decide +kernel
theorem dX7_readsForm_31 : decode cX7_readsForm 31 = .ok (.ifCond .ne 12, 3) := by decide +kernel
theorem dX7_readsForm_34 : decode cX7_readsForm 34 = .ok (.aload_n 0, 1) := by decide +kernel
theorem dX7_readsForm_35 : decode cX7_readsForm 35 = .ok (.ldc 146, 2) := by decide +kernel
theorem dX7_readsForm_37 : decode cX7_readsForm 37 = .ok (.invokevirtual 142, 3) := by decide +kernel
theorem dX7_readsForm_40 : decode cX7_readsForm 40 = .ok (.ifCond .eq 61, 3) := by decide +kernel
theorem dX7_readsForm_43 : decode cX7_readsForm 43 = .ok (.aload_n 0, 1) := by decide +kernel
theorem dX7_readsForm_44 : decode cX7_readsForm 44 = .ok (.getfield 45, 3) := by decide +kernel
theorem dX7_readsForm_47 : decode cX7_readsForm 47 = .ok (.aload_n 0, 1) := by decide +kernel
theorem dX7_readsForm_48 : decode cX7_readsForm 48 = .ok (.getfield 75, 3) := by decide +kernel
theorem dX7_readsForm_51 : decode cX7_readsForm 51 = .ok (.iconst 1, 1) := by decide +kernel
theorem dX7_readsForm_52 : decode cX7_readsForm 52 = .ok (.isub, 1) := by decide +kernel
theorem dX7_readsForm_53 : decode cX7_readsForm 53 = .ok (.baload, 1) := by decide +kernel
theorem dX7_readsForm_54 : decode cX7_readsForm 54 = .ok (.bipush 120, 2) := by decide +kernel
theorem dX7_readsForm_56 : decode cX7_readsForm 56 = .ok (.if_icmp .ne 7, 3) := by decide +kernel
theorem dX7_readsForm_59 : decode cX7_readsForm 59 = .ok (.iconst 1, 1) := by decide +kernel
theorem dX7_readsForm_60 : decode cX7_readsForm 60 = .ok (.goto 4, 3) := by decide +kernel
theorem dX7_readsForm_63 : decode cX7_readsForm 63 = .ok (.iconst 0, 1) := by decide +kernel
theorem dX7_readsForm_64 : decode cX7_readsForm 64 = .ok (.istore_n 2, 1) := by decide +kernel
theorem dX7_readsForm_65 : decode cX7_readsForm 65 = .ok (.aload_n 0, 1) := by decide +kernel
theorem dX7_readsForm_66 : decode cX7_readsForm 66 = .ok (.iconst 1, 1) := by decide +kernel
theorem dX7_readsForm_67 : decode cX7_readsForm 67 = .ok (.bipush 100, 2) := by decide +kernel
theorem dX7_readsForm_69 : decode cX7_readsForm 69 = .ok (.invokevirtual 131, 3) := by decide +kernel
theorem dX7_readsForm_72 : decode cX7_readsForm 72 = .ok (.istore_n 3, 1) := by decide +kernel
theorem dX7_readsForm_73 : decode cX7_readsForm 73 = .ok (.aload_n 0, 1) := by decide +kernel
theorem dX7_readsForm_74 : decode cX7_readsForm 74 = .ok (.iconst 1, 1) := by decide +kernel
theorem dX7_readsForm_75 : decode cX7_readsForm 75 = .ok (.bipush 40, 2) := by decide +kernel
theorem dX7_readsForm_77 : decode cX7_readsForm 77 = .ok (.invokevirtual 131, 3) := by decide +kernel
theorem dX7_readsForm_80 : decode cX7_readsForm 80 = .ok (.istore 4, 2) := by decide +kernel
theorem dX7_readsForm_82 : decode cX7_readsForm 82 = .ok (.aload_n 0, 1) := by decide +kernel
theorem dX7_readsForm_83 : decode cX7_readsForm 83 = .ok (.invokevirtual 85, 3) := by decide +kernel
theorem dX7_readsForm_86 : decode cX7_readsForm 86 = .ok (.ifCond .eq 12, 3) := by decide +kernel
theorem dX7_readsForm_89 : decode cX7_readsForm 89 = .ok (.aload_n 0, 1) := by decide +kernel
theorem dX7_readsForm_90 : decode cX7_readsForm 90 = .ok (.iload_n 1, 1) := by decide +kernel
theorem dX7_readsForm_91 : decode cX7_readsForm 91 = .ok (.iload_n 3, 1) := by decide +kernel
theorem dX7_readsForm_92 : decode cX7_readsForm 92 = .ok (.iload 4, 2) := by decide +kernel
theorem dX7_readsForm_94 : decode cX7_readsForm 94 = .ok (.iload_n 2, 1) := by decide +kernel
theorem dX7_readsForm_95 : decode cX7_readsForm 95 = .ok (.invokevirtual 148, 3) := by decide +kernel
theorem dX7_readsForm_98 : decode cX7_readsForm 98 = .ok (.goto 45, 3) := by decide +kernel
theorem dX7_readsForm_101 : decode cX7_readsForm 101 = .ok (.aload_n 0, 1) := by decide +kernel
theorem dX7_readsForm_102 : decode cX7_readsForm 102 = .ok (.ldc 152, 2) := by decide +kernel
theorem dX7_readsForm_104 : decode cX7_readsForm 104 = .ok (.invokevirtual 142, 3) := by decide +kernel
theorem dX7_readsForm_107 : decode cX7_readsForm 107 = .ok (.ifCond .eq 27, 3) := by decide +kernel
theorem dX7_readsForm_110 : decode cX7_readsForm 110 = .ok (.aload_n 0, 1) := by decide +kernel
theorem dX7_readsForm_111 : decode cX7_readsForm 111 = .ok (.iconst 0, 1) := by decide +kernel
theorem dX7_readsForm_112 : decode cX7_readsForm 112 = .ok (.bipush 19, 2) := by decide +kernel
theorem dX7_readsForm_114 : decode cX7_readsForm 114 = .ok (.invokevirtual 131, 3) := by decide +kernel
theorem dX7_readsForm_117 : decode cX7_readsForm 117 = .ok (.istore_n 2, 1) := by decide +kernel
theorem dX7_readsForm_118 : decode cX7_readsForm 118 = .ok (.aload_n 0, 1) := by decide +kernel
theorem dX7_readsForm_119 : decode cX7_readsForm 119 = .ok (.invokevirtual 85, 3) := by decide +kernel
theorem dX7_readsForm_122 : decode cX7_readsForm 122 = .ok (.ifCond .eq 9, 3) := by decide +kernel
theorem dX7_readsForm_125 : decode cX7_readsForm 125 = .ok (.aload_n 0, 1) := by decide +kernel
theorem dX7_readsForm_126 : decode cX7_readsForm 126 = .ok (.iload_n 1, 1) := by decide +kernel
theorem dX7_readsForm_127 : decode cX7_readsForm 127 = .ok (.iload_n 2, 1) := by decide +kernel
theorem dX7_readsForm_128 : decode cX7_readsForm 128 = .ok (.invokevirtual 154, 3) := by decide +kernel
theorem dX7_readsForm_131 : decode cX7_readsForm 131 = .ok (.goto 12, 3) := by decide +kernel
theorem dX7_readsForm_134 : decode cX7_readsForm 134 = .ok (.aload_n 0, 1) := by decide +kernel
theorem dX7_readsForm_135 : decode cX7_readsForm 135 = .ok (.iconst 1, 1) := by decide +kernel
theorem dX7_readsForm_136 : decode cX7_readsForm 136 = .ok (.aload_n 0, 1) := by decide +kernel
theorem dX7_readsForm_137 : decode cX7_readsForm 137 = .ok (.getfield 75, 3) := by decide +kernel
theorem dX7_readsForm_140 : decode cX7_readsForm 140 = .ok (.invokevirtual 113, 3) := by decide +kernel
theorem dX7_readsForm_143 : decode cX7_readsForm 143 = .ok (.aload_n 0, 1) := by decide +kernel
theorem dX7_readsForm_144 : decode cX7_readsForm 144 = .ok (.getfield 13, 3) := by decide +kernel
theorem dX7_readsForm_147 : decode cX7_readsForm 147 = .ok (.iconst 0, 1) := by decide +kernel
theorem dX7_readsForm_148 : decode cX7_readsForm 148 = .ok (.dup2, 1) := by decide +kernel
theorem dX7_readsForm_149 : decode cX7_readsForm 149 = .ok (.iaload, 1) := by decide +kernel
theorem dX7_readsForm_150 : decode cX7_readsForm 150 = .ok (.aload_n 0, 1) := by decide +kernel
theorem dX7_readsForm_151 : decode cX7_readsForm 151 = .ok (.invokevirtual 85, 3) := by decide +kernel
theorem dX7_readsForm_154 : decode cX7_readsForm 154 = .ok (.invokestatic 127, 3) := by decide +kernel
theorem dX7_readsForm_157 : decode cX7_readsForm 157 = .ok (.iadd, 1) := by decide +kernel
theorem dX7_readsForm_158 : decode cX7_readsForm 158 = .ok (.iastore, 1) := by decide +kernel
theorem dX7_readsForm_159 : decode cX7_readsForm 159 = .ok (.return_, 1) := by decide +kernel
theorem dX7_readsRows_0 : decode cX7_readsRows 0 = .ok (.iconst 0, 1) := by decide +kernel
theorem dX7_readsRows_1 : decode cX7_readsRows 1 = .ok (.istore_n 2, 1) := by decide +kernel
theorem dX7_readsRows_2 : decode cX7_readsRows 2 = .ok (.iconst 1, 1) := by decide +kernel
theorem dX7_readsRows_3 : decode cX7_readsRows 3 = .ok (.istore_n 3, 1) := by decide +kernel
theorem dX7_readsRows_4 : decode cX7_readsRows 4 = .ok (.iload_n 3, 1) := by decide +kernel
theorem dX7_readsRows_5 : decode cX7_readsRows 5 = .ok (.ifCond .eq 233, 3) := by decide +kernel
theorem dX7_readsRows_8 : decode cX7_readsRows 8 = .ok (.aload_n 0, 1) := by decide +kernel
theorem dX7_readsRows_9 : decode cX7_readsRows 9 = .ok (.invokevirtual 85, 3) := by decide +kernel
theorem dX7_readsRows_12 : decode cX7_readsRows 12 = .ok (.ifCond .eq 226, 3) := by decide +kernel
theorem dX7_readsRows_15 : decode cX7_readsRows 15 = .ok (.aload_n 0, 1) := by decide +kernel
theorem dX7_readsRows_16 : decode cX7_readsRows 16 = .ok (.invokevirtual 89, 3) := by decide +kernel
theorem dX7_readsRows_19 : decode cX7_readsRows 19 = .ok (.pop, 1) := by decide +kernel
theorem dX7_readsRows_20 : decode cX7_readsRows 20 = .ok (.aload_n 0, 1) := by decide +kernel
theorem dX7_readsRows_21 : decode cX7_readsRows 21 = .ok (.getfield 75, 3) := by decide +kernel
theorem dX7_readsRows_24 : decode cX7_readsRows 24 = .ok (.istore 4, 2) := by decide +kernel
theorem dX7_readsRows_26 : decode cX7_readsRows 26 = .ok (.iconst 0, 1) := by decide +kernel
theorem dX7_readsRows_27 : decode cX7_readsRows 27 = .ok (.istore 5, 2) := by decide +kernel
theorem dX7_readsRows_29 : decode cX7_readsRows 29 = .ok (.aload_n 0, 1) := by decide +kernel
theorem dX7_readsRows_30 : decode cX7_readsRows 30 = .ok (.invokevirtual 78, 3) := by decide +kernel
theorem dX7_readsRows_33 : decode cX7_readsRows 33 = .ok (.invokestatic 134, 3) := by decide +kernel
theorem dX7_readsRows_36 : decode cX7_readsRows 36 = .ok (.ifCond .eq 19, 3) := by decide +kernel
theorem dX7_readsRows_39 : decode cX7_readsRows 39 = .ok (.iinc 5 1, 3) := by decide +kernel
theorem dX7_readsRows_42 : decode cX7_readsRows 42 = .ok (.aload_n 0, 1) := by decide +kernel
theorem dX7_readsRows_43 : decode cX7_readsRows 43 = .ok (.dup, 1) := by decide +kernel
theorem dX7_readsRows_44 : decode cX7_readsRows 44 = .ok (.getfield 75, 3) := by decide +kernel
theorem dX7_readsRows_47 : decode cX7_readsRows 47 = .ok (.iconst 1, 1) := by decide +kernel
theorem dX7_readsRows_48 : decode cX7_readsRows 48 = .ok (.iadd, 1) := by decide +kernel
theorem dX7_readsRows_49 : decode cX7_readsRows 49 = .ok (.putfield 75, 3) := by decide +kernel
theorem dX7_readsRows_52 : decode cX7_readsRows 52 = .ok (.goto (-23), 3) := by decide +kernel
theorem dX7_readsRows_55 : decode cX7_readsRows 55 = .ok (.iload 5, 2) := by decide +kernel
theorem dX7_readsRows_57 : decode cX7_readsRows 57 = .ok (.ifCond .ne 12, 3) := by decide +kernel
theorem dX7_readsRows_60 : decode cX7_readsRows 60 = .ok (.aload_n 0, 1) := by decide +kernel
theorem dX7_readsRows_61 : decode cX7_readsRows 61 = .ok (.iconst 1, 1) := by decide +kernel
theorem dX7_readsRows_62 : decode cX7_readsRows 62 = .ok (.aload_n 0, 1) := by decide +kernel
theorem dX7_readsRows_63 : decode cX7_readsRows 63 = .ok (.getfield 75, 3) := by decide +kernel
theorem dX7_readsRows_66 : decode cX7_readsRows 66 = .ok (.invokevirtual 113, 3) := by decide +kernel
theorem dX7_readsRows_69 : decode cX7_readsRows 69 = .ok (.iload_n 2, 1) := by decide +kernel
theorem dX7_readsRows_70 : decode cX7_readsRows 70 = .ok (.bipush 40, 2) := by decide +kernel
theorem dX7_readsRows_72 : decode cX7_readsRows 72 = .ok (.if_icmp .ne 10, 3) := by decide +kernel
theorem dX7_readsRows_75 : decode cX7_readsRows 75 = .ok (.aload_n 0, 1) := by decide +kernel
theorem dX7_readsRows_76 : decode cX7_readsRows 76 = .ok (.iconst 3, 1) := by decide +kernel
theorem dX7_readsRows_77 : decode cX7_readsRows 77 = .ok (.iload 4, 2) := by decide +kernel
theorem dX7_readsRows_79 : decode cX7_readsRows 79 = .ok (.invokevirtual 113, 3) := by decide +kernel
theorem dX7_readsRows_82 : decode cX7_readsRows 82 = .ok (.iload_n 2, 1) := by decide +kernel
theorem dX7_readsRows_83 : decode cX7_readsRows 83 = .ok (.ifCond .ne 20, 3) := by decide +kernel
theorem dX7_readsRows_86 : decode cX7_readsRows 86 = .ok (.iload 5, 2) := by decide +kernel
theorem dX7_readsRows_88 : decode cX7_readsRows 88 = .ok (.bipush 100, 2) := by decide +kernel
theorem dX7_readsRows_90 : decode cX7_readsRows 90 = .ok (.if_icmp .le 13, 3) := by decide +kernel
theorem dX7_readsRows_93 : decode cX7_readsRows 93 = .ok (.aload_n 0, 1) := by decide +kernel
theorem dX7_readsRows_94 : decode cX7_readsRows 94 = .ok (.iconst 4, 1) := by decide +kernel
theorem dX7_readsRows_95 : decode cX7_readsRows 95 = .ok (.iload 4, 2) := by decide +kernel
theorem dX7_readsRows_97 : decode cX7_readsRows 97 = .ok (.bipush 100, 2) := by decide +kernel
theorem dX7_readsRows_99 : decode cX7_readsRows 99 = .ok (.iadd, 1) := by decide +kernel
theorem dX7_readsRows_100 : decode cX7_readsRows 100 = .ok (.invokevirtual 113, 3) := by decide +kernel
theorem dX7_readsRows_103 : decode cX7_readsRows 103 = .ok (.iload_n 2, 1) := by decide +kernel
theorem dX7_readsRows_104 : decode cX7_readsRows 104 = .ok (.ifCond .le 23, 3) := by decide +kernel
theorem dX7_readsRows_107 : decode cX7_readsRows 107 = .ok (.iload 5, 2) := by decide +kernel
theorem dX7_readsRows_109 : decode cX7_readsRows 109 = .ok (.aload_n 0, 1) := by decide +kernel
theorem dX7_readsRows_110 : decode cX7_readsRows 110 = .ok (.getfield 13, 3) := by decide +kernel
theorem dX7_readsRows_113 : decode cX7_readsRows 113 = .ok (.iconst 3, 1) := by decide +kernel
theorem dX7_readsRows_114 : decode cX7_readsRows 114 = .ok (.iload_n 1, 1) := by decide +kernel
theorem dX7_readsRows_115 : decode cX7_readsRows 115 = .ok (.iadd, 1) := by decide +kernel
theorem dX7_readsRows_116 : decode cX7_readsRows 116 = .ok (.iaload, 1) := by decide +kernel
theorem dX7_readsRows_117 : decode cX7_readsRows 117 = .ok (.if_icmp .eq 10, 3) := by decide +kernel
theorem dX7_readsRows_120 : decode cX7_readsRows 120 = .ok (.aload_n 0, 1) := by decide +kernel
theorem dX7_readsRows_121 : decode cX7_readsRows 121 = .ok (.iconst 4, 1) := by decide +kernel
theorem dX7_readsRows_122 : decode cX7_readsRows 122 = .ok (.iload 4, 2) := by decide +kernel
theorem dX7_readsRows_124 : decode cX7_readsRows 124 = .ok (.invokevirtual 113, 3) := by decide +kernel
theorem dX7_readsRows_127 : decode cX7_readsRows 127 = .ok (.aload_n 0, 1) := by decide +kernel
theorem dX7_readsRows_128 : decode cX7_readsRows 128 = .ok (.getfield 13, 3) := by decide +kernel
theorem dX7_readsRows_131 : decode cX7_readsRows 131 = .ok (.iconst 3, 1) := by decide +kernel
theorem dX7_readsRows_132 : decode cX7_readsRows 132 = .ok (.iload_n 1, 1) := by decide +kernel
theorem dX7_readsRows_133 : decode cX7_readsRows 133 = .ok (.iadd, 1) := by decide +kernel
theorem dX7_readsRows_134 : decode cX7_readsRows 134 = .ok (.aload_n 0, 1) := by decide +kernel
theorem dX7_readsRows_135 : decode cX7_readsRows 135 = .ok (.invokevirtual 85, 3) := by decide +kernel
theorem dX7_readsRows_138 : decode cX7_readsRows 138 = .ok (.ifCond .eq 8, 3) := by decide +kernel
theorem dX7_readsRows_141 : decode cX7_readsRows 141 = .ok (.iload 5, 2) := by decide +kernel
theorem dX7_readsRows_143 : decode cX7_readsRows 143 = .ok (.goto 4, 3) := by decide +kernel
theorem dX7_readsRows_146 : decode cX7_readsRows 146 = .ok (.iconst 0, 1) := by decide +kernel
theorem dX7_readsRows_147 : decode cX7_readsRows 147 = .ok (.iastore, 1) := by decide +kernel
theorem dX7_readsRows_148 : decode cX7_readsRows 148 = .ok (.iconst 0, 1) := by decide +kernel
theorem dX7_readsRows_149 : decode cX7_readsRows 149 = .ok (.istore 6, 2) := by decide +kernel
theorem dX7_readsRows_151 : decode cX7_readsRows 151 = .ok (.iload 6, 2) := by decide +kernel
theorem dX7_readsRows_153 : decode cX7_readsRows 153 = .ok (.iload 5, 2) := by decide +kernel
theorem dX7_readsRows_155 : decode cX7_readsRows 155 = .ok (.if_icmp .ge 42, 3) := by decide +kernel
theorem dX7_readsRows_158 : decode cX7_readsRows 158 = .ok (.aload_n 0, 1) := by decide +kernel
theorem dX7_readsRows_159 : decode cX7_readsRows 159 = .ok (.invokevirtual 85, 3) := by decide +kernel
theorem dX7_readsRows_162 : decode cX7_readsRows 162 = .ok (.ifCond .eq 35, 3) := by decide +kernel
theorem dX7_readsRows_165 : decode cX7_readsRows 165 = .ok (.aload_n 0, 1) := by decide +kernel
theorem dX7_readsRows_166 : decode cX7_readsRows 166 = .ok (.getfield 45, 3) := by decide +kernel
theorem dX7_readsRows_169 : decode cX7_readsRows 169 = .ok (.iload 4, 2) := by decide +kernel
theorem dX7_readsRows_171 : decode cX7_readsRows 171 = .ok (.iload 6, 2) := by decide +kernel
theorem dX7_readsRows_173 : decode cX7_readsRows 173 = .ok (.iadd, 1) := by decide +kernel
theorem dX7_readsRows_174 : decode cX7_readsRows 174 = .ok (.baload, 1) := by decide +kernel
theorem dX7_readsRows_175 : decode cX7_readsRows 175 = .ok (.bipush 35, 2) := by decide +kernel
theorem dX7_readsRows_177 : decode cX7_readsRows 177 = .ok (.if_icmp .ne 14, 3) := by decide +kernel
theorem dX7_readsRows_180 : decode cX7_readsRows 180 = .ok (.aload_n 0, 1) := by decide +kernel
theorem dX7_readsRows_181 : decode cX7_readsRows 181 = .ok (.getfield 29, 3) := by decide +kernel
theorem dX7_readsRows_184 : decode cX7_readsRows 184 = .ok (.iload_n 1, 1) := by decide +kernel
theorem dX7_readsRows_185 : decode cX7_readsRows 185 = .ok (.iload 6, 2) := by decide +kernel
theorem dX7_readsRows_187 : decode cX7_readsRows 187 = .ok (.iload_n 2, 1) := by decide +kernel
theorem dX7_readsRows_188 : decode cX7_readsRows 188 = .ok (.invokestatic 157, 3) := by decide +kernel
theorem dX7_readsRows_191 : decode cX7_readsRows 191 = .ok (.iinc 6 1, 3) := by decide +kernel
theorem dX7_readsRows_194 : decode cX7_readsRows 194 = .ok (.goto (-43), 3) := by decide +kernel
theorem dX7_readsRows_197 : decode cX7_readsRows 197 = .ok (.iinc 2 1, 3) := by decide +kernel
theorem dX7_readsRows_200 : decode cX7_readsRows 200 = .ok (.aload_n 0, 1) := by decide +kernel
theorem dX7_readsRows_201 : decode cX7_readsRows 201 = .ok (.invokevirtual 85, 3) := by decide +kernel
theorem dX7_readsRows_204 : decode cX7_readsRows 204 = .ok (.ifCond .eq 16, 3) := by decide +kernel
theorem dX7_readsRows_207 : decode cX7_readsRows 207 = .ok (.aload_n 0, 1) := by decide +kernel
theorem dX7_readsRows_208 : decode cX7_readsRows 208 = .ok (.invokevirtual 89, 3) := by decide +kernel
theorem dX7_readsRows_211 : decode cX7_readsRows 211 = .ok (.bipush 47, 2) := by decide +kernel
theorem dX7_readsRows_213 : decode cX7_readsRows 213 = .ok (.if_icmp .ne 7, 3) := by decide +kernel
theorem dX7_readsRows_216 : decode cX7_readsRows 216 = .ok (.iconst 1, 1) := by decide +kernel
theorem dX7_readsRows_217 : decode cX7_readsRows 217 = .ok (.goto 4, 3) := by decide +kernel
theorem dX7_readsRows_220 : decode cX7_readsRows 220 = .ok (.iconst 0, 1) := by decide +kernel
theorem dX7_readsRows_221 : decode cX7_readsRows 221 = .ok (.istore_n 3, 1) := by decide +kernel
theorem dX7_readsRows_222 : decode cX7_readsRows 222 = .ok (.aload_n 0, 1) := by decide +kernel
theorem dX7_readsRows_223 : decode cX7_readsRows 223 = .ok (.dup, 1) := by decide +kernel
theorem dX7_readsRows_224 : decode cX7_readsRows 224 = .ok (.getfield 75, 3) := by decide +kernel
theorem dX7_readsRows_227 : decode cX7_readsRows 227 = .ok (.iload_n 3, 1) := by decide +kernel
theorem dX7_readsRows_228 : decode cX7_readsRows 228 = .ok (.invokestatic 127, 3) := by decide +kernel
theorem dX7_readsRows_231 : decode cX7_readsRows 231 = .ok (.iadd, 1) := by decide +kernel
theorem dX7_readsRows_232 : decode cX7_readsRows 232 = .ok (.putfield 75, 3) := by decide +kernel
theorem dX7_readsRows_235 : decode cX7_readsRows 235 = .ok (.goto (-231), 3) := by decide +kernel
theorem dX7_readsRows_238 : decode cX7_readsRows 238 = .ok (.aload_n 0, 1) := by decide +kernel
theorem dX7_readsRows_239 : decode cX7_readsRows 239 = .ok (.getfield 13, 3) := by decide +kernel
theorem dX7_readsRows_242 : decode cX7_readsRows 242 = .ok (.bipush 11, 2) := by decide +kernel
theorem dX7_readsRows_244 : decode cX7_readsRows 244 = .ok (.iload_n 1, 1) := by decide +kernel
theorem dX7_readsRows_245 : decode cX7_readsRows 245 = .ok (.iadd, 1) := by decide +kernel
theorem dX7_readsRows_246 : decode cX7_readsRows 246 = .ok (.iload_n 2, 1) := by decide +kernel
theorem dX7_readsRows_247 : decode cX7_readsRows 247 = .ok (.iastore, 1) := by decide +kernel
theorem dX7_readsRows_248 : decode cX7_readsRows 248 = .ok (.return_, 1) := by decide +kernel
set_option maxRecDepth 100000 in
theorem pq14 : Cond.selects RX7 yX7_takes yX7_takes ∈ pw := pw_mem (i := 14) (by decide +kernel) rfl
set_option maxRecDepth 100000 in
theorem pq17 : Cond.selects RX7 yX7_readsRows yX7_readsRows ∈ pw := pw_mem (i := 17) (by decide +kernel) rfl
set_option maxRecDepth 100000 in
theorem pq19 : Cond.selects RX7 yX7_laysBox yX7_laysBox ∈ pw := pw_mem (i := 19) (by decide +kernel) rfl
set_option maxRecDepth 100000 in
theorem pq20 : Cond.selects RX7 yX7_laysDisk yX7_laysDisk ∈ pw := pw_mem (i := 20) (by decide +kernel) rfl
set_option maxRecDepth 100000 in
theorem pq22 : Cond.selects RX7 yX7_signed yX7_signed ∈ pw := pw_mem (i := 22) (by decide +kernel) rfl
set_option maxRecDepth 100000 in
theorem pq1228 : Cond.methodLink RX7 142 yX7_takes ∈ pw := pw_mem (i := 1228) (by decide +kernel) rfl
set_option maxRecDepth 100000 in
theorem pq1230 : Cond.instanceMethod yX7_takes ∈ pw := pw_mem (i := 1230) (by decide +kernel) rfl
set_option maxRecDepth 100000 in
theorem pq1231 : Cond.code yX7_takes cX7_takes 5 (some .boolean) ∈ pw := pw_mem (i := 1231) (by rfl) rfl
set_option maxRecDepth 100000 in
theorem pq1247 : Cond.methodLink RX7 134 yX7_isSign ∈ pw := pw_mem (i := 1247) (by decide +kernel) rfl
set_option maxRecDepth 100000 in
theorem pq1248 : Cond.static yX7_isSign ∈ pw := pw_mem (i := 1248) (by decide +kernel) rfl
set_option maxRecDepth 100000 in
theorem pq1249 : Cond.code yX7_isSign cX7_isSign 1 (some .boolean) ∈ pw := pw_mem (i := 1249) (by rfl) rfl
set_option maxRecDepth 100000 in
theorem pq1250 : Cond.methodLink RX7 138 yX7_readsRows ∈ pw := pw_mem (i := 1250) (by decide +kernel) rfl
set_option maxRecDepth 100000 in
theorem pq1252 : Cond.instanceMethod yX7_readsRows ∈ pw := pw_mem (i := 1252) (by decide +kernel) rfl
set_option maxRecDepth 100000 in
theorem pq1253 : Cond.code yX7_readsRows cX7_readsRows 7 none ∈ pw := pw_mem (i := 1253) (by rfl) rfl
set_option maxRecDepth 100000 in
theorem pq1270 : Cond.methodLink RX7 148 yX7_laysBox ∈ pw := pw_mem (i := 1270) (by decide +kernel) rfl
set_option maxRecDepth 100000 in
theorem pq1272 : Cond.instanceMethod yX7_laysBox ∈ pw := pw_mem (i := 1272) (by decide +kernel) rfl
set_option maxRecDepth 100000 in
theorem pq1273 : Cond.code yX7_laysBox cX7_laysBox 7 none ∈ pw := pw_mem (i := 1273) (by rfl) rfl
set_option maxRecDepth 100000 in
theorem pq1275 : Cond.methodLink RX7 154 yX7_laysDisk ∈ pw := pw_mem (i := 1275) (by decide +kernel) rfl
set_option maxRecDepth 100000 in
theorem pq1277 : Cond.instanceMethod yX7_laysDisk ∈ pw := pw_mem (i := 1277) (by decide +kernel) rfl
set_option maxRecDepth 100000 in
theorem pq1278 : Cond.code yX7_laysDisk cX7_laysDisk 5 none ∈ pw := pw_mem (i := 1278) (by rfl) rfl
set_option maxRecDepth 100000 in
theorem pq1284 : Cond.methodLink RX7 161 yX7_signed ∈ pw := pw_mem (i := 1284) (by decide +kernel) rfl
set_option maxRecDepth 100000 in
theorem pq1286 : Cond.instanceMethod yX7_signed ∈ pw := pw_mem (i := 1286) (by decide +kernel) rfl
set_option maxRecDepth 100000 in
theorem pq1287 : Cond.code yX7_signed cX7_signed 4 (some .int) ∈ pw := pw_mem (i := 1287) (by rfl) rfl
set_option maxHeartbeats 4000000 in
set_option maxRecDepth 100000 in
theorem s_X7_readsRows (l : Launch) (dC : Nat → ClassId) (dI : Nat → Nat → Nat) (cs : Nat → ClassId) (L : List Nat) (K G : Nat → Nat) (Q : Nat → Nat → Option Nat) (hQ : Sv L K G Q) (x0 m0 : Nat) (tx : Int32) (tm : Int32 × Int) (sz : Nat) (I : Nat → Nat → Int32) (J : Nat → Nat → Int64) (hI : Iv L K x0 m0 tx tm I) (p0 : Nat) (hLp0 : p0 ∈ L) (hKp0 : K p0 = 7) (p1 : Int32) (bp1 : (0) ≤ p1.toInt ∧ p1.toInt ≤ 7) (ho : hOK Q I p0) (hf : (I p0 15).toInt = -1) : Met l yX7_readsRows (.code yX7_readsRows cX7_readsRows 7 none :: pw) ({ frames := 2, cells := 0, slots := 0, locals := 42 }) (sP (dC, dI) cs [.ref p0, .int p1] sz L K I J Q) (va_Qv (fun (_ : Unit) => True) (fun _ t => sB (dC, dI) cs L K Q (fun I1 => Iv L K x0 m0 tx tm I1 ∧ (∀ b, ¬ (K b = 7 ∨ K b = 28) → I1 b = I b) ∧ hHK Q I I1 p0) t) (fun q => q ∈ L ∨ sz ≤ q)) 0 0 (fun q => q ∈ L ∨ sz ≤ q) := by
  refine Met.ofW (cc := cX7_readsRows) (maxL := 7) (ret := none) (by decide +kernel) rfl ?_
  intro p e s m args below meth c s₁ B hml hv
  obtain ⟨rfl, hsz, hP, hK, hD0, hN⟩ := hv
  have hx := B.exec
  have hb := B.bytes
  have hr := B.returns
  have hts := fun w (h : w ∈ pw) => atoms_spec (ws := Cond.code yX7_readsRows cX7_readsRows 7 none :: pw) B.pre w (List.mem_cons_of_mem _ h)
  have hown : s.vm.findClass RX7 = some m.cls := findClass_of_methodNamed B.named
  have hlocks := B.notSynchronized
  subst hsz
  have hBB : 999 ≤ tm.2 ∧ tm.2 ≤ 6000000 := hI.2.2.2.2
  have hk_I : hHK Q I I p0 := hK_refl ho
  have fr_I : ∀ b, ¬ (K b = 7 ∨ K b = 28) → I b = I b := fun _ _ => rfl
  obtain ⟨A, hAe⟩ : ∃ A : Nat → Prop, A = (fun q => q ∈ L ∨ s.heap.size ≤ q) := ⟨_, rfl⟩
  rw [← hAe]
  have hAL : ∀ q, q ∈ L → A q := fun q h => by rw [hAe]; exact Or.inl h
  have hA : ∀ q, s.heap.size ≤ q → A q := fun q h => by rw [hAe]; exact Or.inr h
  have hD : ∀ F, va_D A (va_pl L F) := fun F => (hD0 F).weaken (fun k q hk _ => hAL _ (pl_mem hk))
  obtain ⟨H, hHe⟩ : ∃ H : Heap, H = s.heap := ⟨_, rfl⟩
  have hS : va_S A s.heap H [] := by rw [hHe]; exact va_S.rf
  rw [← hHe] at hP
  have hl := lv_entry ([.ref p0, .int p1]) (n := 7) (Nat.le_of_ble_eq_true rfl)
  rw [lg_entry_eq]
  generalize (lg_sl ([.ref p0, .int p1]) ++ List.replicate (7 - (lg_sl ([.ref p0, .int p1])).length) Slot.unset).toArray = ls at hl ⊢
  have hl : lv_has ls 7 [(0, .ref p0), (1, .int p1)] := hl
  rw [← hHe]
  refine namedW (fun R Qz hR hQz => ?_)
  refine lv_iconst (v := 0) hx hb dX7_readsRows_0 (by decide +kernel) ?_
  refine lv_istore_n (lv' := [(2, .int 0), (0, .ref p0), (1, .int p1)]) hx hb dX7_readsRows_1 rfl hl (by decide) rfl (fun ls hl => ?_)
  refine lv_iconst (v := 1) hx hb dX7_readsRows_2 (by decide +kernel) ?_
  refine lv_istore_n (lv' := [(3, .int 1), (2, .int 0), (0, .ref p0), (1, .int p1)]) hx hb dX7_readsRows_3 rfl hl (by decide) rfl (fun ls hl => ?_)
  have key4 := blocks (fun n => ∀ (v4_2 : Int32) (v4_3 : Int32) (I4 : Nat → Nat → Int32) (J4 : Nat → Nat → Int64) (H : Heap) (lo : List Loc) (ls : Array Slot), 2 * (401 - (I4 p0 14).toInt).toNat + v4_3.toInt.toNat = n → ((0) ≤ v4_2.toInt ∧ v4_2.toInt ≤ 41) → ((0) ≤ v4_3.toInt ∧ v4_3.toInt ≤ 1) → Iv L K x0 m0 tx tm I4 → (∀ b, ¬ (K b = 7 ∨ K b = 28) → I4 b = I b) → hHK Q I I4 p0 → Hid (((I4 p0 15).toInt = -1 → v4_2.toInt ≤ 40)) → va_P (dC, dI) vwCl (Wd cs L K I4 J4 Q) H → va_S A s.heap H lo → lv_has ls 7 [(0, .ref p0), (1, .int p1), (2, .int v4_2), (3, .int v4_3)] → W p l e R s m (([.ref p0, .int p1] : List Value).toArray) below meth c H lo 0 0 Qz (F0 m 4 ls [])) (by
    intro n ih4
    intro v4_2 v4_3 I4 J4 H lo ls hmu4 bv4_2 bv4_3 hI4 fr_I4 hk_I4 h4 hP hS hl
    refine lv_iload_n hx hb dX7_readsRows_4 rfl (lv_at hl 3 rfl) ?_
    have j238 : ∀ (H : Heap) (lo : List Loc) (ls : Array Slot), va_P (dC, dI) vwCl (Wd cs L K I4 J4 Q) H → va_S A s.heap H lo → lv_has ls 7 [(0, .ref p0), (1, .int p1), (2, .int v4_2), (3, .int v4_3)] → W p l e R s m (([.ref p0, .int p1] : List Value).toArray) below meth c H lo 0 0 Qz (F0 m 238 ls []) := by
      intro H lo ls hP hS hl
      refine lv_aload_n hx hb dX7_readsRows_238 rfl (lv_at hl 0 rfl) ?_
      obtain ⟨y239, ey239, hLy239, hKy239⟩ := oQ_7_1 (Sv_at hQ hLp0 hKp0)
      refine p_get (v := .ref y239) hx hb hts inX7 hown hK hP hLp0 hKp0 rfl rfl 1 (by decide) (hts _ pq1116) (congrArg (fun q => some (va_rf q)) ey239) dX7_readsRows_239 ?_
      refine lv_bipush (v := 11) hx hb dX7_readsRows_242 (by decide +kernel) ?_
      refine lv_iload_n hx hb dX7_readsRows_244 rfl (lv_at hl 1 rfl) ?_
      refine lv_iadd hx hb dX7_readsRows_245 ?_
      refine lv_topi (fun z245 ez245 => ?_)
      have bz245 := tq_add (k := (11)) (q := p1.toInt) ez245 (by decide +kernel) rfl (by omega) (by omega)
      refine lv_iload_n hx hb dX7_readsRows_246 rfl (lv_at hl 2 rfl) ?_
      refine p_iast hx hb hK hP hD hS 18 hLy239 hKy239 rfl (fun _ => rfl) rfl (in_of (by omega) (by omega)) dX7_readsRows_247 (fun H locs hP hS => ?_)
      obtain ⟨Iz247, hP, hIz247, qIz247⟩ : ∃ Iz247, va_P (dC, dI) vwCl (Wd cs L K Iz247 J4 Q) H ∧ Iv L K x0 m0 tx tm Iz247 ∧ Iz247 = va_up I4 y239 (upd (I4 y239) z245.toNatClampNeg v4_2) := ⟨_, hP, Iv_put hI4 hKy239 (show okI _ 28 _ from trivial) (Or.inl (by decide)) (Or.inl (by decide)), rfl⟩
      have hk_Iz247 := hK_put hQ hLp0 hKp0 ey239 qIz247 ⟨by omega, fun h => by have := h4 h; unfold rng; omega⟩ hk_I4
      have fr_Iz247 : ∀ b, ¬ (K b = 7 ∨ K b = 28) → Iz247 b = I b := fun b q => (congrFun qIz247 b).trans ((va_up_ne _ _ (fun z => q (by rw [z]; have := hKy239; omega))).trans (fr_I4 b q))
      subst hR; subst hQz
      exact W.vret hx hb hr (fun t ht hW => ⟨⟨(), rfl, trivial, ⟨Iz247, J4, ⟨hIz247, fr_Iz247, hk_Iz247⟩, by rw [ht]; exact hP⟩⟩, hS.F ht⟩) hS.2.2 dX7_readsRows_248
    refine lv_if_eq (tgt := 238) hx hb dX7_readsRows_5 (by decide) (fun c5 => ?_) (fun c5 => ?_)
    · have t5 := tq_eq (k := v4_3.toInt) (q := (0)) c5 rfl (by decide +kernel)
      exact j238  _ _ _ hP hS (lv_sub hl [0, 1, 2, 3] rfl)
    · have t5 := tq_ne (k := v4_3.toInt) (q := (0)) c5 rfl (by decide +kernel)
      refine lv_aload_n hx hb dX7_readsRows_8 rfl (lv_at hl 0 rfl) ?_
      refine ro_i (va_runV (As := []) (rest := []) ⟨hx, hb, hml, hown, hts⟩ (s_X7_isRight l dC dI cs L K G Q hQ x0 m0 tx tm H.size I4 J4 hI4 p0 hLp0 hKp0) (cwV 0 hts (gV pq1219 pq1221 pq12 pq81 pq1222) rfl rfl rfl (by decide +kernel) ⟨(by rw [hR]; exact (Nat.le_of_ble_eq_true rfl)), (by rw [hR]; exact (Nat.le_of_ble_eq_true rfl))⟩) (sP_V hP hD hK hN hLp0 hKp0 rfl rfl) rfl rfl hl.1 rfl (lv_room (Nat.le_of_ble_eq_true rfl)) dX7_readsRows_9 ⟨(by rw [hR]; exact (Nat.le_of_ble_eq_true rfl)), (by rw [hR]; exact (Nat.le_of_ble_eq_true rfl))⟩) hS hP (fun z9 H locs hz9 hP hS => ?_)
      obtain ⟨bz9, xpz9⟩ := hz9
      replace xpz9 : Hid _ := xpz9
      refine lv_if_eq (tgt := 238) hx hb dX7_readsRows_12 (by decide) (fun c12 => ?_) (fun c12 => ?_)
      · have t12 := tq_eq (k := z9.toInt) (q := (0)) c12 rfl (by decide +kernel)
        exact j238  _ _ _ hP hS (lv_sub hl [0, 1, 2, 3] rfl)
      · have t12 := tq_ne (k := z9.toInt) (q := (0)) c12 rfl (by decide +kernel)
        have r4 := h4 (xpz9.1 t12)
        refine lv_aload_n hx hb dX7_readsRows_15 rfl (lv_at hl 0 rfl) ?_
        refine sw_ir (Z := (fun u => (fun I1 => Iv L K x0 m0 tx tm I1 ∧ (∀ b, ¬ (b = p0) → I1 b = I4 b) ∧ ((I4 p0 14).toInt ≤ (I1 p0 14).toInt ∧ ((I1 p0 15).toInt = -1 → (I4 p0 15).toInt = -1) ∧ (∀ k, ¬ k = 14 → I1 p0 k = I4 p0 k) ∧ (¬ u.toInt = -1 → (I1 p0 14).toInt < (I1 p0 13).toInt))))) (va_runV (As := []) (rest := []) ⟨hx, hb, hml, hown, hts⟩ (s_X7_next l dC dI cs L K G Q hQ x0 m0 tx tm H.size I4 J4 hI4 p0 hLp0 hKp0) (cwV 0 hts (gV pq1211 pq1213 pq10 pq81 pq1214) rfl rfl rfl (by decide +kernel) ⟨(by rw [hR]; exact (Nat.le_of_ble_eq_true rfl)), (by rw [hR]; exact (Nat.le_of_ble_eq_true rfl))⟩) (sP_V hP hD hK hN hLp0 hKp0 rfl rfl) rfl rfl hl.1 rfl (lv_room (Nat.le_of_ble_eq_true rfl)) dX7_readsRows_16 ⟨(by rw [hR]; exact (Nat.le_of_ble_eq_true rfl)), (by rw [hR]; exact (Nat.le_of_ble_eq_true rfl))⟩) hS hAL hA (fun z16 Iz16 Jz16 H locs hz16 hIz16 hP hS => ?_)
        obtain ⟨hIz16, frc16, zr16⟩ := hIz16
        replace zr16 : Hid _ := zr16
        have hk_Iz16 := hK_call hQ hLp0 hKp0 frc16 zr16.1 zr16.2.1 hk_I4
        have fr_Iz16 : ∀ b, ¬ (K b = 7 ∨ K b = 28) → Iz16 b = I b := fun b q => (frc16 b (fun z => q (by rw [z]; have := hKp0; omega))).trans (fr_I4 b q)
        have bz16 := hz16
        refine lv_pop hx hb dX7_readsRows_19 rfl ?_
        refine lv_aload_n hx hb dX7_readsRows_20 rfl (lv_at hl 0 rfl) ?_
        refine p_get hx hb hts inX7 hown hK hP hLp0 hKp0 rfl rfl 14 (by decide) (hts _ pq1129) rfl dX7_readsRows_21 ?_
        refine lv_topi (fun z21 ez21 => ?_)
        have cgz21 := congrArg Int32.toInt ez21
        have bz21 := oI_7_14 (Iv_at hIz16 hLp0 hKp0)
        rw [← ez21] at bz21
        refine lv_istore (lv' := [(4, .int z21), (0, .ref p0), (1, .int p1), (2, .int v4_2), (3, .int v4_3)]) hx hb dX7_readsRows_24 hl (by decide) rfl (fun ls hl => ?_)
        refine lv_iconst (v := 0) hx hb dX7_readsRows_26 (by decide +kernel) ?_
        refine lv_istore (lv' := [(5, .int 0), (4, .int z21), (0, .ref p0), (1, .int p1), (2, .int v4_2), (3, .int v4_3)]) hx hb dX7_readsRows_27 hl (by decide) rfl (fun ls hl => ?_)
        have key29 := blocks (fun n => ∀ (v29_5 : Int32) (I29 : Nat → Nat → Int32) (H : Heap) (lo : List Loc) (ls : Array Slot), (401 - (I29 p0 14).toInt).toNat = n → ((0) ≤ v29_5.toInt ∧ v29_5.toInt ≤ 400) → Iv L K x0 m0 tx tm I29 → (∀ b, ¬ (K b = 7 ∨ K b = 28) → I29 b = I b) → hHK Q I I29 p0 → ((I29 p0 14).toInt = z21.toInt + v29_5.toInt ∧ z21.toInt ≤ (I29 p0 14).toInt) → va_P (dC, dI) vwCl (Wd cs L K I29 Jz16 Q) H → va_S A s.heap H lo → lv_has ls 7 [(0, .ref p0), (1, .int p1), (2, .int v4_2), (3, .int v4_3), (4, .int z21), (5, .int v29_5)] → W p l e R s m (([.ref p0, .int p1] : List Value).toArray) below meth c H lo 0 0 Qz (F0 m 29 ls [])) (by
          intro n ih29
          intro v29_5 I29 H lo ls hmu29 bv29_5 hI29 fr_I29 hk_I29 h29 hP hS hl
          have b13 := oI_7_13 (Iv_at hI29 hLp0 hKp0)
          refine lv_aload_n hx hb dX7_readsRows_29 rfl (lv_at hl 0 rfl) ?_
          refine ro_i (va_runV (As := []) (rest := []) ⟨hx, hb, hml, hown, hts⟩ (s_X7_sign l dC dI cs L K G Q hQ x0 m0 tx tm H.size I29 Jz16 hI29 p0 hLp0 hKp0) (cwV 0 hts (gV pq1215 pq1217 pq11 pq81 pq1218) rfl rfl rfl (by decide +kernel) ⟨(by rw [hR]; exact (Nat.le_of_ble_eq_true rfl)), (by rw [hR]; exact (Nat.le_of_ble_eq_true rfl))⟩) (sP_V hP hD hK hN hLp0 hKp0 rfl rfl) rfl rfl hl.1 rfl (lv_room (Nat.le_of_ble_eq_true rfl)) dX7_readsRows_30 ⟨(by rw [hR]; exact (Nat.le_of_ble_eq_true rfl)), (by rw [hR]; exact (Nat.le_of_ble_eq_true rfl))⟩) hS hP (fun z30 H locs hz30 hP hS => ?_)
          obtain ⟨bz30, fez30, xpz30⟩ := hz30
          replace xpz30 : Hid _ := xpz30
          refine ro_i (va_runS (As := [.int z30]) (rest := []) ⟨hx, hb, hml, hown, hts⟩ (s_X7_isSign l dC dI cs L K G Q hQ x0 m0 tx tm H.size I29 Jz16 hI29 z30) (va_cwS 1 hts (gS pq1247 pq1248 pq81 pq1249) rfl rfl rfl (by decide +kernel) ⟨(by rw [hR]; exact (Nat.le_of_ble_eq_true rfl)), (by rw [hR]; exact (Nat.le_of_ble_eq_true rfl))⟩) (sP_S hP hD hK hN) rfl rfl hl.1 rfl (lv_room (Nat.le_of_ble_eq_true rfl)) dX7_readsRows_33 ⟨(by rw [hR]; exact (Nat.le_of_ble_eq_true rfl)), (by rw [hR]; exact (Nat.le_of_ble_eq_true rfl))⟩) hS hP (fun z33 H locs hz33 hP hS => ?_)
          obtain ⟨bz33, imz33⟩ := hz33
          refine lv_if_eq (tgt := 55) hx hb dX7_readsRows_36 (by decide) (fun c36 => ?_) (fun c36 => ?_)
          · have t36 := tq_eq (k := z33.toInt) (q := (0)) c36 rfl (by decide +kernel)
            have hpn : z21.toInt + v29_5.toInt ≤ 400 := by have := oI_7_14 (Iv_at hI29 hLp0 hKp0); omega
            refine lv_iload hx hb dX7_readsRows_55 (lv_at hl 5 rfl) ?_
            have j69 : ∀ (I69 : Nat → Nat → Int32) (J69 : Nat → Nat → Int64) (H : Heap) (lo : List Loc) (ls : Array Slot), Iv L K x0 m0 tx tm I69 → (∀ b, ¬ (K b = 7 ∨ K b = 28) → I69 b = I b) → hHK Q I I69 p0 → z21.toInt ≤ (I69 p0 14).toInt → va_P (dC, dI) vwCl (Wd cs L K I69 J69 Q) H → va_S A s.heap H lo → lv_has ls 7 [(0, .ref p0), (1, .int p1), (2, .int v4_2), (3, .int v4_3), (4, .int z21), (5, .int v29_5)] → W p l e R s m (([.ref p0, .int p1] : List Value).toArray) below meth c H lo 0 0 Qz (F0 m 69 ls []) := by
              intro I69 J69 H lo ls hI69 fr_I69 hk_I69 h69 hP hS hl
              refine lv_iload_n hx hb dX7_readsRows_69 rfl (lv_at hl 2 rfl) ?_
              refine lv_bipush (v := 40) hx hb dX7_readsRows_70 (by decide +kernel) ?_
              have j82 : ∀ (I82 : Nat → Nat → Int32) (J82 : Nat → Nat → Int64) (H : Heap) (lo : List Loc) (ls : Array Slot), Iv L K x0 m0 tx tm I82 → (∀ b, ¬ (K b = 7 ∨ K b = 28) → I82 b = I b) → hHK Q I I82 p0 → Hid ((z21.toInt ≤ (I82 p0 14).toInt ∧ ((I82 p0 15).toInt = -1 → v4_2.toInt ≤ 39))) → va_P (dC, dI) vwCl (Wd cs L K I82 J82 Q) H → va_S A s.heap H lo → lv_has ls 7 [(0, .ref p0), (1, .int p1), (2, .int v4_2), (3, .int v4_3), (4, .int z21), (5, .int v29_5)] → W p l e R s m (([.ref p0, .int p1] : List Value).toArray) below meth c H lo 0 0 Qz (F0 m 82 ls []) := by
                intro I82 J82 H lo ls hI82 fr_I82 hk_I82 h82 hP hS hl
                refine lv_iload_n hx hb dX7_readsRows_82 rfl (lv_at hl 2 rfl) ?_
                have j103 : ∀ (I103 : Nat → Nat → Int32) (J103 : Nat → Nat → Int64) (H : Heap) (lo : List Loc) (ls : Array Slot), Iv L K x0 m0 tx tm I103 → (∀ b, ¬ (K b = 7 ∨ K b = 28) → I103 b = I b) → hHK Q I I103 p0 → Hid ((z21.toInt ≤ (I103 p0 14).toInt ∧ ((I103 p0 15).toInt = -1 → v4_2.toInt ≤ 39 ∧ (v4_2.toInt = 0 → v29_5.toInt ≤ 100)))) → va_P (dC, dI) vwCl (Wd cs L K I103 J103 Q) H → va_S A s.heap H lo → lv_has ls 7 [(0, .ref p0), (1, .int p1), (2, .int v4_2), (3, .int v4_3), (4, .int z21), (5, .int v29_5)] → W p l e R s m (([.ref p0, .int p1] : List Value).toArray) below meth c H lo 0 0 Qz (F0 m 103 ls []) := by
                  intro I103 J103 H lo ls hI103 fr_I103 hk_I103 h103 hP hS hl
                  refine lv_iload_n hx hb dX7_readsRows_103 rfl (lv_at hl 2 rfl) ?_
                  have j127 : ∀ (I127 : Nat → Nat → Int32) (J127 : Nat → Nat → Int64) (H : Heap) (lo : List Loc) (ls : Array Slot), Iv L K x0 m0 tx tm I127 → (∀ b, ¬ (K b = 7 ∨ K b = 28) → I127 b = I b) → hHK Q I I127 p0 → Hid ((z21.toInt ≤ (I127 p0 14).toInt ∧ ((I127 p0 15).toInt = -1 → v4_2.toInt ≤ 39 ∧ v29_5.toInt ≤ 100))) → va_P (dC, dI) vwCl (Wd cs L K I127 J127 Q) H → va_S A s.heap H lo → lv_has ls 7 [(0, .ref p0), (1, .int p1), (2, .int v4_2), (3, .int v4_3), (4, .int z21), (5, .int v29_5)] → W p l e R s m (([.ref p0, .int p1] : List Value).toArray) below meth c H lo 0 0 Qz (F0 m 127 ls []) := by
                    intro I127 J127 H lo ls hI127 fr_I127 hk_I127 h127 hP hS hl
                    refine lv_aload_n hx hb dX7_readsRows_127 rfl (lv_at hl 0 rfl) ?_
                    obtain ⟨y128, ey128, hLy128, hKy128⟩ := oQ_7_1 (Sv_at hQ hLp0 hKp0)
                    refine p_get (v := .ref y128) hx hb hts inX7 hown hK hP hLp0 hKp0 rfl rfl 1 (by decide) (hts _ pq1116) (congrArg (fun q => some (va_rf q)) ey128) dX7_readsRows_128 ?_
                    refine lv_iconst (v := 3) hx hb dX7_readsRows_131 (by decide +kernel) ?_
                    refine lv_iload_n hx hb dX7_readsRows_132 rfl (lv_at hl 1 rfl) ?_
                    refine lv_iadd hx hb dX7_readsRows_133 ?_
                    refine lv_topi (fun z133 ez133 => ?_)
                    have bz133 := tq_add (k := (3)) (q := p1.toInt) ez133 (by decide +kernel) rfl (by omega) (by omega)
                    refine lv_aload_n hx hb dX7_readsRows_134 rfl (lv_at hl 0 rfl) ?_
                    refine ro_i (va_runV (As := []) (rest := [.int z133, .ref y128]) ⟨hx, hb, hml, hown, hts⟩ (s_X7_isRight l dC dI cs L K G Q hQ x0 m0 tx tm H.size I127 J127 hI127 p0 hLp0 hKp0) (cwV 0 hts (gV pq1219 pq1221 pq12 pq81 pq1222) rfl rfl rfl (by decide +kernel) ⟨(by rw [hR]; exact (Nat.le_of_ble_eq_true rfl)), (by rw [hR]; exact (Nat.le_of_ble_eq_true rfl))⟩) (sP_V hP hD hK hN hLp0 hKp0 rfl rfl) rfl rfl hl.1 rfl (lv_room (Nat.le_of_ble_eq_true rfl)) dX7_readsRows_135 ⟨(by rw [hR]; exact (Nat.le_of_ble_eq_true rfl)), (by rw [hR]; exact (Nat.le_of_ble_eq_true rfl))⟩) hS hP (fun z135 H locs hz135 hP hS => ?_)
                    obtain ⟨bz135, xpz135⟩ := hz135
                    replace xpz135 : Hid _ := xpz135
                    have j147 : ∀ (w147_2 : Int32) (H : Heap) (lo : List Loc) (ls : Array Slot), ((0) ≤ w147_2.toInt ∧ w147_2.toInt ≤ 400) → Hid (((I127 p0 15).toInt = -1 → 0 ≤ w147_2.toInt ∧ w147_2.toInt ≤ 100)) → va_P (dC, dI) vwCl (Wd cs L K I127 J127 Q) H → va_S A s.heap H lo → lv_has ls 7 [(0, .ref p0), (1, .int p1), (2, .int v4_2), (3, .int v4_3), (4, .int z21), (5, .int v29_5)] → W p l e R s m (([.ref p0, .int p1] : List Value).toArray) below meth c H lo 0 0 Qz (F0 m 147 ls [.int w147_2, .int z133, .ref y128]) := by
                      intro w147_2 H lo ls bw147_2 h147 hP hS hl
                      refine p_iast hx hb hK hP hD hS 18 hLy128 hKy128 rfl (fun _ => rfl) rfl (in_of (by omega) (by omega)) dX7_readsRows_147 (fun H locs hP hS => ?_)
                      obtain ⟨Iz147, hP, hIz147, qIz147⟩ : ∃ Iz147, va_P (dC, dI) vwCl (Wd cs L K Iz147 J127 Q) H ∧ Iv L K x0 m0 tx tm Iz147 ∧ Iz147 = va_up I127 y128 (upd (I127 y128) z133.toNatClampNeg w147_2) := ⟨_, hP, Iv_put hI127 hKy128 (show okI _ 28 _ from trivial) (Or.inl (by decide)) (Or.inl (by decide)), rfl⟩
                      have hk_Iz147 := hK_put hQ hLp0 hKp0 ey128 qIz147 ⟨by omega, fun h => by have := h147 h; unfold rng; omega⟩ hk_I127
                      have fr_Iz147 : ∀ b, ¬ (K b = 7 ∨ K b = 28) → Iz147 b = I b := fun b q => (congrFun qIz147 b).trans ((va_up_ne _ _ (fun z => q (by rw [z]; have := hKy128; omega))).trans (fr_I127 b q))
                      refine lv_iconst (v := 0) hx hb dX7_readsRows_148 (by decide +kernel) ?_
                      refine lv_istore (lv' := [(6, .int 0), (0, .ref p0), (1, .int p1), (2, .int v4_2), (3, .int v4_3), (4, .int z21), (5, .int v29_5)]) hx hb dX7_readsRows_149 hl (by decide) rfl (fun ls hl => ?_)
                      have key151 := blocks (fun n => ∀ (v151_6 : Int32) (J151 : Nat → Nat → Int64) (H : Heap) (lo : List Loc) (ls : Array Slot), (402 - v151_6.toInt).toNat = n → ((0) ≤ v151_6.toInt ∧ v151_6.toInt ≤ 401) → va_P (dC, dI) vwCl (Wd cs L K Iz147 J151 Q) H → va_S A s.heap H lo → lv_has ls 7 [(0, .ref p0), (1, .int p1), (2, .int v4_2), (3, .int v4_3), (4, .int z21), (5, .int v29_5), (6, .int v151_6)] → W p l e R s m (([.ref p0, .int p1] : List Value).toArray) below meth c H lo 0 0 Qz (F0 m 151 ls [])) (by
                        intro n ih151
                        intro v151_6 J151 H lo ls hmu151 bv151_6 hP hS hl
                        refine lv_iload hx hb dX7_readsRows_151 (lv_at hl 6 rfl) ?_
                        refine lv_iload hx hb dX7_readsRows_153 (lv_at hl 5 rfl) ?_
                        have j197 : ∀ (H : Heap) (lo : List Loc) (ls : Array Slot), va_P (dC, dI) vwCl (Wd cs L K Iz147 J151 Q) H → va_S A s.heap H lo → lv_has ls 7 [(0, .ref p0), (1, .int p1), (2, .int v4_2), (3, .int v4_3), (4, .int z21), (5, .int v29_5), (6, .int v151_6)] → W p l e R s m (([.ref p0, .int p1] : List Value).toArray) below meth c H lo 0 0 Qz (F0 m 197 ls []) := by
                          intro H lo ls hP hS hl
                          obtain ⟨z197, ez197⟩ : ∃ y : Int32, y = v4_2 + 1 := ⟨_, rfl⟩
                          refine lv_iinc (v := z197) (lv' := [(2, .int z197), (0, .ref p0), (1, .int p1), (3, .int v4_3), (4, .int z21), (5, .int v29_5), (6, .int v151_6)]) hx hb dX7_readsRows_197 hl (k := 2) rfl (by rw [ez197]; rfl) (by decide) rfl (fun ls hl => ?_)
                          have bz197 := tq_add (k := v4_2.toInt) (q := 1) ez197 rfl (by decide +kernel) (by omega) (by omega)
                          refine lv_aload_n hx hb dX7_readsRows_200 rfl (lv_at hl 1 rfl) ?_
                          refine ro_i (va_runV (As := []) (rest := []) ⟨hx, hb, hml, hown, hts⟩ (s_X7_isRight l dC dI cs L K G Q hQ x0 m0 tx tm H.size Iz147 J151 hIz147 p0 hLp0 hKp0) (cwV 0 hts (gV pq1219 pq1221 pq12 pq81 pq1222) rfl rfl rfl (by decide +kernel) ⟨(by rw [hR]; exact (Nat.le_of_ble_eq_true rfl)), (by rw [hR]; exact (Nat.le_of_ble_eq_true rfl))⟩) (sP_V hP hD hK hN hLp0 hKp0 rfl rfl) rfl rfl hl.1 rfl (lv_room (Nat.le_of_ble_eq_true rfl)) dX7_readsRows_201 ⟨(by rw [hR]; exact (Nat.le_of_ble_eq_true rfl)), (by rw [hR]; exact (Nat.le_of_ble_eq_true rfl))⟩) hS hP (fun z201 H locs hz201 hP hS => ?_)
                          obtain ⟨bz201, xpz201⟩ := hz201
                          replace xpz201 : Hid _ := xpz201
                          have j221 : ∀ (w221_0 : Int32) (I221 : Nat → Nat → Int32) (J221 : Nat → Nat → Int64) (H : Heap) (lo : List Loc) (ls : Array Slot), ((0) ≤ w221_0.toInt ∧ w221_0.toInt ≤ 1) → Iv L K x0 m0 tx tm I221 → (∀ b, ¬ (K b = 7 ∨ K b = 28) → I221 b = I b) → hHK Q I I221 p0 → Hid ((((I221 p0 15).toInt = -1 → v4_2.toInt ≤ 39) ∧ z21.toInt ≤ (I221 p0 14).toInt ∧ (¬ w221_0.toInt = 0 → (I221 p0 14).toInt ≤ 399))) → va_P (dC, dI) vwCl (Wd cs L K I221 J221 Q) H → va_S A s.heap H lo → lv_has ls 7 [(0, .ref p0), (1, .int p1), (2, .int z197), (3, .int v4_3), (4, .int z21), (5, .int v29_5), (6, .int v151_6)] → W p l e R s m (([.ref p0, .int p1] : List Value).toArray) below meth c H lo 0 0 Qz (F0 m 221 ls [.int w221_0]) := by
                            intro w221_0 I221 J221 H lo ls bw221_0 hI221 fr_I221 hk_I221 h221 hP hS hl
                            refine lv_istore_n (lv' := [(3, .int w221_0), (0, .ref p0), (1, .int p1), (2, .int z197), (4, .int z21), (5, .int v29_5), (6, .int v151_6)]) hx hb dX7_readsRows_221 rfl hl (by decide) rfl (fun ls hl => ?_)
                            refine lv_aload_n hx hb dX7_readsRows_222 rfl (lv_at hl 1 rfl) ?_
                            refine lv_dup hx hb dX7_readsRows_223 rfl ?_
                            refine p_get hx hb hts inX7 hown hK hP hLp0 hKp0 rfl rfl 14 (by decide) (hts _ pq1129) rfl dX7_readsRows_224 ?_
                            refine lv_topi (fun z224 ez224 => ?_)
                            have cgz224 := congrArg Int32.toInt ez224
                            have bz224 := oI_7_14 (Iv_at hI221 hLp0 hKp0)
                            rw [← ez224] at bz224
                            refine lv_iload_n hx hb dX7_readsRows_227 rfl (lv_at hl 0 rfl) ?_
                            refine ro_i (va_runS (As := [.int w221_0]) (rest := [.int z224, .ref p0]) ⟨hx, hb, hml, hown, hts⟩ (s_X7_truth l dC dI cs L K Q H.size I221 J221 w221_0) (va_cwS 1 hts (gS pq1257 pq1258 pq81 pq1259) rfl rfl rfl (by decide +kernel) ⟨(by rw [hR]; exact (Nat.le_of_ble_eq_true rfl)), (by rw [hR]; exact (Nat.le_of_ble_eq_true rfl))⟩) (sP_S hP hD hK hN) rfl rfl hl.1 rfl (lv_room (Nat.le_of_ble_eq_true rfl)) dX7_readsRows_228 ⟨(by rw [hR]; exact (Nat.le_of_ble_eq_true rfl)), (by rw [hR]; exact (Nat.le_of_ble_eq_true rfl))⟩) hS hP (fun z228 H locs hz228 hP hS => ?_)
                            obtain ⟨bz228, xpz228⟩ := hz228
                            refine lv_iadd hx hb dX7_readsRows_231 ?_
                            refine lv_topi (fun z231 ez231 => ?_)
                            have bz231 := tq_add (k := z224.toInt) (q := z228.toInt) ez231 rfl rfl (by omega) (by omega)
                            have q1 := h221.2.2
                            have q2 := xpz228.1
                            refine p_put hx hb hts inX7 tyX7 tyX7_ok nmX7 hown hK hP hD hS hLp0 hKp0 rfl rfl 14 (by decide) (hts _ pq1129) rfl (by decide +kernel) (Nat.le_of_ble_eq_true rfl) (oS_7_14 cs _ _ _ _) dX7_readsRows_232 (fun H locs hP hS => ?_)
                            obtain ⟨Iz232, hP, hIz232, qIz232⟩ : ∃ Iz232, va_P (dC, dI) vwCl (Wd cs L K Iz232 J221 Q) H ∧ Iv L K x0 m0 tx tm Iz232 ∧ Iz232 = va_up I221 p0 (upd (I221 p0) 14 z231) := ⟨_, hP, Iv_put hI221 hKp0 (oP_7_14 (Iv_at hI221 hLp0 hKp0) ⟨by omega, by omega⟩) (by decide) (by decide), rfl⟩
                            have hk_Iz232 := hK_at hQ hLp0 hKp0 qIz232 (by omega) hk_I221
                            have fr_Iz232 : ∀ b, ¬ (K b = 7 ∨ K b = 28) → Iz232 b = I b := fun b q => (congrFun qIz232 b).trans ((va_up_ne _ _ (fun z => q (by rw [z]; have := hKp0; omega))).trans (fr_I221 b q))
                            refine lv_goto (tgt := 4) hx hb dX7_readsRows_235 (by decide) ?_
                            exact ih4 _ (by rw [qIz232, rz_at]; have q0 := zr16.1; have q1 := h221.2.1; have q2 := xpz228.2; omega) z197 w221_0 Iz232 J221 _ _ _ rfl ⟨by omega, by omega⟩ ⟨by omega, by omega⟩ hIz232 fr_Iz232 hk_Iz232 (fun h => by have := h221.1 (by rw [qIz232, rz_fr _ _ _ _ (by decide)] at h; exact h); omega) hP hS (lv_sub hl [1, 2, 3, 0] rfl)
                          have j220 : ∀ (I220 : Nat → Nat → Int32) (J220 : Nat → Nat → Int64) (H : Heap) (lo : List Loc) (ls : Array Slot), Iv L K x0 m0 tx tm I220 → (∀ b, ¬ (K b = 7 ∨ K b = 28) → I220 b = I b) → hHK Q I I220 p0 → Hid ((((I220 p0 15).toInt = -1 → v4_2.toInt ≤ 39) ∧ z21.toInt ≤ (I220 p0 14).toInt)) → va_P (dC, dI) vwCl (Wd cs L K I220 J220 Q) H → va_S A s.heap H lo → lv_has ls 7 [(0, .ref p0), (1, .int p1), (2, .int z197), (3, .int v4_3), (4, .int z21), (5, .int v29_5), (6, .int v151_6)] → W p l e R s m (([.ref p0, .int p1] : List Value).toArray) below meth c H lo 0 0 Qz (F0 m 220 ls []) := by
                            intro I220 J220 H lo ls hI220 fr_I220 hk_I220 h220 hP hS hl
                            refine lv_iconst (v := 0) hx hb dX7_readsRows_220 (by decide +kernel) ?_
                            exact j221 0 I220 J220 _ _ _ ⟨by decide +kernel, by decide +kernel⟩ hI220 fr_I220 hk_I220 ⟨h220.1, h220.2, fun h => absurd (by decide +kernel) h⟩ hP hS (lv_sub hl [0, 1, 2, 3, 4, 5, 6] rfl)
                          refine lv_if_eq (tgt := 220) hx hb dX7_readsRows_204 (by decide) (fun c204 => ?_) (fun c204 => ?_)
                          · have t204 := tq_eq (k := z201.toInt) (q := (0)) c204 rfl (by decide +kernel)
                            exact j220 Iz147 J151 _ _ _ hIz147 fr_Iz147 hk_Iz147 ⟨fun h => (h127.2 (by rw [qIz147, va_up_ne _ _ (ne_k hKp0 hKy128 (by decide))] at h; exact h)).1, by rw [qIz147, va_up_ne _ _ (ne_k hKp0 hKy128 (by decide))]; exact h127.1⟩ hP hS (lv_sub hl [1, 2, 0, 3, 4, 5, 6] rfl)
                          · have t204 := tq_ne (k := z201.toInt) (q := (0)) c204 rfl (by decide +kernel)
                            refine lv_aload_n hx hb dX7_readsRows_207 rfl (lv_at hl 1 rfl) ?_
                            refine sw_ir (Z := (fun u => (fun I1 => Iv L K x0 m0 tx tm I1 ∧ (∀ b, ¬ (b = p0) → I1 b = Iz147 b) ∧ ((Iz147 p0 14).toInt ≤ (I1 p0 14).toInt ∧ ((I1 p0 15).toInt = -1 → (Iz147 p0 15).toInt = -1) ∧ (∀ k, ¬ k = 14 → I1 p0 k = Iz147 p0 k) ∧ (¬ u.toInt = -1 → (I1 p0 14).toInt < (I1 p0 13).toInt))))) (va_runV (As := []) (rest := []) ⟨hx, hb, hml, hown, hts⟩ (s_X7_next l dC dI cs L K G Q hQ x0 m0 tx tm H.size Iz147 J151 hIz147 p0 hLp0 hKp0) (cwV 0 hts (gV pq1211 pq1213 pq10 pq81 pq1214) rfl rfl rfl (by decide +kernel) ⟨(by rw [hR]; exact (Nat.le_of_ble_eq_true rfl)), (by rw [hR]; exact (Nat.le_of_ble_eq_true rfl))⟩) (sP_V hP hD hK hN hLp0 hKp0 rfl rfl) rfl rfl hl.1 rfl (lv_room (Nat.le_of_ble_eq_true rfl)) dX7_readsRows_208 ⟨(by rw [hR]; exact (Nat.le_of_ble_eq_true rfl)), (by rw [hR]; exact (Nat.le_of_ble_eq_true rfl))⟩) hS hAL hA (fun z208 Iz208 Jz208 H locs hz208 hIz208 hP hS => ?_)
                            obtain ⟨hIz208, frc208, zr208⟩ := hIz208
                            replace zr208 : Hid _ := zr208
                            have hk_Iz208 := hK_call hQ hLp0 hKp0 frc208 zr208.1 zr208.2.1 hk_Iz147
                            have fr_Iz208 : ∀ b, ¬ (K b = 7 ∨ K b = 28) → Iz208 b = I b := fun b q => (frc208 b (fun z => q (by rw [z]; have := hKp0; omega))).trans (fr_Iz147 b q)
                            have bz208 := hz208
                            refine lv_bipush (v := 47) hx hb dX7_readsRows_211 (by decide +kernel) ?_
                            refine lv_icmp_ne (tgt := 220) hx hb dX7_readsRows_213 (by decide) (fun c213 => ?_) (fun c213 => ?_)
                            · have t213 := tq_ne (k := z208.toInt) (q := (47)) c213 rfl (by decide +kernel)
                              exact j220 Iz208 Jz208 _ _ _ hIz208 fr_Iz208 hk_Iz208 ⟨fun h => (h127.2 (by have := zr208.2.1 h; rw [qIz147, va_up_ne _ _ (ne_k hKp0 hKy128 (by decide))] at this; exact this)).1, by have := zr208.1; rw [qIz147, va_up_ne _ _ (ne_k hKp0 hKy128 (by decide))] at this; exact Int.le_trans h127.1 this⟩ hP hS (lv_sub hl [1, 2, 0, 3, 4, 5, 6] rfl)
                            · have t213 := tq_eq (k := z208.toInt) (q := (47)) c213 rfl (by decide +kernel)
                              refine lv_iconst (v := 1) hx hb dX7_readsRows_216 (by decide +kernel) ?_
                              refine lv_goto (tgt := 221) hx hb dX7_readsRows_217 (by decide) ?_
                              exact j221 1 Iz208 Jz208 _ _ _ ⟨by decide +kernel, by decide +kernel⟩ hIz208 fr_Iz208 hk_Iz208 ⟨(show ((Iz208 p0 15).toInt = -1 → v4_2.toInt ≤ 39) ∧ z21.toInt ≤ (Iz208 p0 14).toInt from ⟨fun h => (h127.2 (by have := zr208.2.1 h; rw [qIz147, va_up_ne _ _ (ne_k hKp0 hKy128 (by decide))] at this; exact this)).1, by have := zr208.1; rw [qIz147, va_up_ne _ _ (ne_k hKp0 hKy128 (by decide))] at this; exact Int.le_trans h127.1 this⟩).1, (show ((Iz208 p0 15).toInt = -1 → v4_2.toInt ≤ 39) ∧ z21.toInt ≤ (Iz208 p0 14).toInt from ⟨fun h => (h127.2 (by have := zr208.2.1 h; rw [qIz147, va_up_ne _ _ (ne_k hKp0 hKy128 (by decide))] at this; exact this)).1, by have := zr208.1; rw [qIz147, va_up_ne _ _ (ne_k hKp0 hKy128 (by decide))] at this; exact Int.le_trans h127.1 this⟩).2, fun _ => by have := zr208.2.2.2 (by omega); have := oI_7_13 (Iv_at hIz208 hLp0 hKp0); omega⟩ hP hS (lv_sub hl [1, 2, 0, 3, 4, 5, 6] rfl)
                        refine lv_icmp_ge (tgt := 197) hx hb dX7_readsRows_155 (by decide) (fun c155 => ?_) (fun c155 => ?_)
                        · have t155 := tq_le (k := v29_5.toInt) (q := v151_6.toInt) c155 rfl rfl
                          exact j197  _ _ _ hP hS (lv_sub hl [0, 1, 2, 3, 4, 5, 6] rfl)
                        · have t155 := tq_nle (k := v29_5.toInt) (q := v151_6.toInt) c155 rfl rfl
                          refine lv_aload_n hx hb dX7_readsRows_158 rfl (lv_at hl 0 rfl) ?_
                          refine ro_i (va_runV (As := []) (rest := []) ⟨hx, hb, hml, hown, hts⟩ (s_X7_isRight l dC dI cs L K G Q hQ x0 m0 tx tm H.size Iz147 J151 hIz147 p0 hLp0 hKp0) (cwV 0 hts (gV pq1219 pq1221 pq12 pq81 pq1222) rfl rfl rfl (by decide +kernel) ⟨(by rw [hR]; exact (Nat.le_of_ble_eq_true rfl)), (by rw [hR]; exact (Nat.le_of_ble_eq_true rfl))⟩) (sP_V hP hD hK hN hLp0 hKp0 rfl rfl) rfl rfl hl.1 rfl (lv_room (Nat.le_of_ble_eq_true rfl)) dX7_readsRows_159 ⟨(by rw [hR]; exact (Nat.le_of_ble_eq_true rfl)), (by rw [hR]; exact (Nat.le_of_ble_eq_true rfl))⟩) hS hP (fun z159 H locs hz159 hP hS => ?_)
                          obtain ⟨bz159, xpz159⟩ := hz159
                          replace xpz159 : Hid _ := xpz159
                          refine lv_if_eq (tgt := 197) hx hb dX7_readsRows_162 (by decide) (fun c162 => ?_) (fun c162 => ?_)
                          · have t162 := tq_eq (k := z159.toInt) (q := (0)) c162 rfl (by decide +kernel)
                            exact j197  _ _ _ hP hS (lv_sub hl [0, 1, 2, 3, 4, 5, 6] rfl)
                          · have t162 := tq_ne (k := z159.toInt) (q := (0)) c162 rfl (by decide +kernel)
                            have hr := h127.2 (by have := xpz159.1 t162; rw [qIz147, va_up_ne _ _ (ne_k hKp0 hKy128 (by decide))] at this; exact this)
                            refine lv_aload_n hx hb dX7_readsRows_165 rfl (lv_at hl 0 rfl) ?_
                            obtain ⟨y166, ey166, hLy166, hKy166⟩ := oQ_7_12 (Sv_at hQ hLp0 hKp0)
                            refine p_get (v := .ref y166) hx hb hts inX7 hown hK hP hLp0 hKp0 rfl rfl 12 (by decide) (hts _ pq1127) (congrArg (fun q => some (va_rf q)) ey166) dX7_readsRows_166 ?_
                            refine lv_iload hx hb dX7_readsRows_169 (lv_at hl 4 rfl) ?_
                            refine lv_iload hx hb dX7_readsRows_171 (lv_at hl 6 rfl) ?_
                            refine lv_iadd hx hb dX7_readsRows_173 ?_
                            refine lv_topi (fun z173 ez173 => ?_)
                            have bz173 := tq_add (k := z21.toInt) (q := v151_6.toInt) ez173 rfl rfl (by omega) (by omega)
                            refine p_bald hx hb hK hP 0 hLy166 hKy166 rfl rfl (in_of (by omega) (by omega)) dX7_readsRows_174 ?_
                            refine lv_topi (fun z174 ez174 => ?_)
                            refine lv_bipush (v := 35) hx hb dX7_readsRows_175 (by decide +kernel) ?_
                            have j191 : ∀ (J191 : Nat → Nat → Int64) (H : Heap) (lo : List Loc) (ls : Array Slot), va_P (dC, dI) vwCl (Wd cs L K Iz147 J191 Q) H → va_S A s.heap H lo → lv_has ls 7 [(0, .ref p0), (1, .int p1), (2, .int v4_2), (3, .int v4_3), (4, .int z21), (5, .int v29_5), (6, .int v151_6)] → W p l e R s m (([.ref p0, .int p1] : List Value).toArray) below meth c H lo 0 0 Qz (F0 m 191 ls []) := by
                              intro J191 H lo ls hP hS hl
                              obtain ⟨z191, ez191⟩ : ∃ y : Int32, y = v151_6 + 1 := ⟨_, rfl⟩
                              refine lv_iinc (v := z191) (lv' := [(6, .int z191), (0, .ref p0), (1, .int p1), (2, .int v4_2), (3, .int v4_3), (4, .int z21), (5, .int v29_5)]) hx hb dX7_readsRows_191 hl (k := 6) rfl (by rw [ez191]; rfl) (by decide) rfl (fun ls hl => ?_)
                              have bz191 := tq_add (k := v151_6.toInt) (q := 1) ez191 rfl (by decide +kernel) (by omega) (by omega)
                              refine lv_goto (tgt := 151) hx hb dX7_readsRows_194 (by decide) ?_
                              exact ih151 _ (by omega) z191 J191 _ _ _ rfl ⟨by omega, by omega⟩ hP hS (lv_sub hl [1, 2, 3, 4, 5, 6, 0] rfl)
                            refine lv_icmp_ne (tgt := 191) hx hb dX7_readsRows_177 (by decide) (fun c177 => ?_) (fun c177 => ?_)
                            · have t177 := tq_ne (k := z174.toInt) (q := (35)) c177 rfl (by decide +kernel)
                              exact j191 J151 _ _ _ hP hS (lv_sub hl [0, 1, 2, 3, 4, 5, 6] rfl)
                            · have t177 := tq_eq (k := z174.toInt) (q := (35)) c177 rfl (by decide +kernel)
                              refine lv_aload_n hx hb dX7_readsRows_180 rfl (lv_at hl 0 rfl) ?_
                              obtain ⟨y181, ey181, hLy181, hKy181⟩ := oQ_7_6 (Sv_at hQ hLp0 hKp0)
                              refine p_get (v := .ref y181) hx hb hts inX7 hown hK hP hLp0 hKp0 rfl rfl 6 (by decide) (hts _ pq1121) (congrArg (fun q => some (va_rf q)) ey181) dX7_readsRows_181 ?_
                              refine lv_iload_n hx hb dX7_readsRows_184 rfl (lv_at hl 1 rfl) ?_
                              refine lv_iload hx hb dX7_readsRows_185 (lv_at hl 6 rfl) ?_
                              refine lv_iload_n hx hb dX7_readsRows_187 rfl (lv_at hl 2 rfl) ?_
                              refine sw_v (Z := (fun I1 => Iv L K x0 m0 tx tm I1 ∧ I1 = Iz147)) (va_runS (As := [.ref y181, .int p1, .int v151_6, .int v4_2]) (rest := []) ⟨hx, hb, hml, hown, hts⟩ (s_X7_setsDot l dC dI cs L K G Q hQ x0 m0 tx tm H.size Iz147 J151 hIz147 y181 hLy181 hKy181 p1 ⟨by omega, by omega⟩ v151_6 ⟨by omega, by omega⟩ v4_2 ⟨by omega, by omega⟩) (va_cwS 4 hts (gS pq1254 pq1255 pq81 pq1256) rfl rfl rfl (by decide +kernel) ⟨(by rw [hR]; exact (Nat.le_of_ble_eq_true rfl)), (by rw [hR]; exact (Nat.le_of_ble_eq_true rfl))⟩) (sP_S hP hD hK hN) rfl rfl hl.1 rfl (lv_room (Nat.le_of_ble_eq_true rfl)) dX7_readsRows_188 ⟨(by rw [hR]; exact (Nat.le_of_ble_eq_true rfl)), (by rw [hR]; exact (Nat.le_of_ble_eq_true rfl))⟩) hS hAL hA (fun Iz188 Jz188 H locs hz188 hIz188 hP hS => ?_)
                              obtain ⟨hIz188x, rfl⟩ : Iv L K x0 m0 tx tm Iz188 ∧ Iz147 = Iz188 := ⟨hIz188.1, hIz188.2.symm⟩
                              exact j191 Jz188 _ _ _ hP hS (lv_sub hl [0, 1, 2, 3, 4, 5, 6] rfl))
                      exact key151 _ 0 J127 _ _ _ rfl ⟨by decide +kernel, by decide +kernel⟩ hP hS (lv_sub hl [1, 2, 3, 4, 5, 6, 0] rfl)
                    refine lv_if_eq (tgt := 146) hx hb dX7_readsRows_138 (by decide) (fun c138 => ?_) (fun c138 => ?_)
                    · have t138 := tq_eq (k := z135.toInt) (q := (0)) c138 rfl (by decide +kernel)
                      refine lv_iconst (v := 0) hx hb dX7_readsRows_146 (by decide +kernel) ?_
                      exact j147 0 _ _ _ ⟨by decide +kernel, by decide +kernel⟩ (fun _ => ⟨by decide +kernel, by decide +kernel⟩) hP hS (lv_sub hl [0, 1, 2, 3, 4, 5] rfl)
                    · have t138 := tq_ne (k := z135.toInt) (q := (0)) c138 rfl (by decide +kernel)
                      refine lv_iload hx hb dX7_readsRows_141 (lv_at hl 5 rfl) ?_
                      refine lv_goto (tgt := 147) hx hb dX7_readsRows_143 (by decide) ?_
                      exact j147 v29_5 _ _ _ ⟨by omega, by omega⟩ (fun h => ⟨by omega, (h127.2 h).2⟩) hP hS (lv_sub hl [0, 1, 2, 3, 4, 5] rfl)
                  refine lv_if_le (tgt := 127) hx hb dX7_readsRows_104 (by decide) (fun c104 => ?_) (fun c104 => ?_)
                  · have t104 := tq_le (k := v4_2.toInt) (q := (0)) c104 rfl (by decide +kernel)
                    exact j127 I103 J103 _ _ _ hI103 fr_I103 hk_I103 ⟨h103.1, fun h => ⟨(h103.2 h).1, (h103.2 h).2 (by omega)⟩⟩ hP hS (lv_sub hl [0, 1, 2, 3, 4, 5] rfl)
                  · have t104 := tq_nle (k := v4_2.toInt) (q := (0)) c104 rfl (by decide +kernel)
                    refine lv_iload hx hb dX7_readsRows_107 (lv_at hl 5 rfl) ?_
                    refine lv_aload_n hx hb dX7_readsRows_109 rfl (lv_at hl 0 rfl) ?_
                    obtain ⟨y110, ey110, hLy110, hKy110⟩ := oQ_7_1 (Sv_at hQ hLp0 hKp0)
                    refine p_get (v := .ref y110) hx hb hts inX7 hown hK hP hLp0 hKp0 rfl rfl 1 (by decide) (hts _ pq1116) (congrArg (fun q => some (va_rf q)) ey110) dX7_readsRows_110 ?_
                    refine lv_iconst (v := 3) hx hb dX7_readsRows_113 (by decide +kernel) ?_
                    refine lv_iload_n hx hb dX7_readsRows_114 rfl (lv_at hl 1 rfl) ?_
                    refine lv_iadd hx hb dX7_readsRows_115 ?_
                    refine lv_topi (fun z115 ez115 => ?_)
                    have bz115 := tq_add (k := (3)) (q := p1.toInt) ez115 (by decide +kernel) rfl (by omega) (by omega)
                    refine p_iald hx hb hK hP 18 hLy110 hKy110 rfl rfl (in_of (by omega) (by omega)) dX7_readsRows_116 ?_
                    refine lv_topi (fun z116 ez116 => ?_)
                    refine lv_icmp_eq (tgt := 127) hx hb dX7_readsRows_117 (by decide) (fun c117 => ?_) (fun c117 => ?_)
                    · have t117 := tq_eq (k := v29_5.toInt) (q := z116.toInt) c117 rfl rfl
                      exact j127 I103 J103 _ _ _ hI103 fr_I103 hk_I103 ⟨h103.1, fun h => ⟨(h103.2 h).1, by have q := hk_I103.2.1 h y110 ey110 z115.toInt.toNat (by omega); unfold rng at q; have c := congrArg Int32.toInt (show z116 = I103 y110 z115.toInt.toNat from ez116); omega⟩⟩ hP hS (lv_sub hl [0, 1, 2, 3, 4, 5] rfl)
                    · have t117 := tq_ne (k := v29_5.toInt) (q := z116.toInt) c117 rfl rfl
                      refine lv_aload_n hx hb dX7_readsRows_120 rfl (lv_at hl 0 rfl) ?_
                      refine lv_iconst (v := 4) hx hb dX7_readsRows_121 (by decide +kernel) ?_
                      refine lv_iload hx hb dX7_readsRows_122 (lv_at hl 4 rfl) ?_
                      refine sw_v (Z := (fun I1 => Iv L K x0 m0 tx tm I1 ∧ (∀ b, ¬ (b = p0) → I1 b = I103 b) ∧ ((I103 p0 14).toInt ≤ (I1 p0 14).toInt ∧ ((I1 p0 15).toInt = -1 → (I103 p0 15).toInt = -1) ∧ (∀ k, ¬ k = 15 → I1 p0 k = I103 p0 k) ∧ ¬ (I1 p0 15).toInt = -1))) (va_runV (As := [.int 4, .int z21]) (rest := []) ⟨hx, hb, hml, hown, hts⟩ (s_X7_fails l dC dI cs L K G Q hQ x0 m0 tx tm H.size I103 J103 hI103 p0 hLp0 hKp0 4 ⟨by decide +kernel, by decide +kernel⟩ z21 ⟨by omega, by omega⟩) (cwV 2 hts (gV pq1239 pq1241 pq15 pq81 pq1242) rfl rfl rfl (by decide +kernel) ⟨(by rw [hR]; exact (Nat.le_of_ble_eq_true rfl)), (by rw [hR]; exact (Nat.le_of_ble_eq_true rfl))⟩) (sP_V hP hD hK hN hLp0 hKp0 rfl rfl) rfl rfl hl.1 rfl (lv_room (Nat.le_of_ble_eq_true rfl)) dX7_readsRows_124 ⟨(by rw [hR]; exact (Nat.le_of_ble_eq_true rfl)), (by rw [hR]; exact (Nat.le_of_ble_eq_true rfl))⟩) hS hAL hA (fun Iz124 Jz124 H locs hz124 hIz124 hP hS => ?_)
                      obtain ⟨hIz124, frc124, zp124⟩ := hIz124
                      replace zp124 : Hid _ := zp124
                      have hk_Iz124 := hK_call hQ hLp0 hKp0 frc124 zp124.1 zp124.2.1 hk_I103
                      have fr_Iz124 : ∀ b, ¬ (K b = 7 ∨ K b = 28) → Iz124 b = I b := fun b q => (frc124 b (fun z => q (by rw [z]; have := hKp0; omega))).trans (fr_I103 b q)
                      exact j127 Iz124 Jz124 _ _ _ hIz124 fr_Iz124 hk_Iz124 ⟨Int.le_trans h103.1 zp124.1, fun h => absurd h zp124.2.2.2⟩ hP hS (lv_sub hl [0, 1, 2, 3, 4, 5] rfl)
                refine lv_if_ne (tgt := 103) hx hb dX7_readsRows_83 (by decide) (fun c83 => ?_) (fun c83 => ?_)
                · have t83 := tq_ne (k := v4_2.toInt) (q := (0)) c83 rfl (by decide +kernel)
                  exact j103 I82 J82 _ _ _ hI82 fr_I82 hk_I82 ⟨h82.1, fun h => ⟨h82.2 h, fun _ => by omega⟩⟩ hP hS (lv_sub hl [0, 1, 2, 3, 4, 5] rfl)
                · have t83 := tq_eq (k := v4_2.toInt) (q := (0)) c83 rfl (by decide +kernel)
                  refine lv_iload hx hb dX7_readsRows_86 (lv_at hl 5 rfl) ?_
                  refine lv_bipush (v := 100) hx hb dX7_readsRows_88 (by decide +kernel) ?_
                  refine lv_icmp_le (tgt := 103) hx hb dX7_readsRows_90 (by decide) (fun c90 => ?_) (fun c90 => ?_)
                  · have t90 := tq_le (k := v29_5.toInt) (q := (100)) c90 rfl (by decide +kernel)
                    exact j103 I82 J82 _ _ _ hI82 fr_I82 hk_I82 ⟨h82.1, fun h => ⟨h82.2 h, fun _ => by omega⟩⟩ hP hS (lv_sub hl [0, 1, 2, 3, 4, 5] rfl)
                  · have t90 := tq_nle (k := v29_5.toInt) (q := (100)) c90 rfl (by decide +kernel)
                    refine lv_aload_n hx hb dX7_readsRows_93 rfl (lv_at hl 0 rfl) ?_
                    refine lv_iconst (v := 4) hx hb dX7_readsRows_94 (by decide +kernel) ?_
                    refine lv_iload hx hb dX7_readsRows_95 (lv_at hl 4 rfl) ?_
                    refine lv_bipush (v := 100) hx hb dX7_readsRows_97 (by decide +kernel) ?_
                    refine lv_iadd hx hb dX7_readsRows_99 ?_
                    refine lv_topi (fun z99 ez99 => ?_)
                    have bz99 := tq_add (k := z21.toInt) (q := (100)) ez99 rfl (by decide +kernel) (by omega) (by omega)
                    refine sw_v (Z := (fun I1 => Iv L K x0 m0 tx tm I1 ∧ (∀ b, ¬ (b = p0) → I1 b = I82 b) ∧ ((I82 p0 14).toInt ≤ (I1 p0 14).toInt ∧ ((I1 p0 15).toInt = -1 → (I82 p0 15).toInt = -1) ∧ (∀ k, ¬ k = 15 → I1 p0 k = I82 p0 k) ∧ ¬ (I1 p0 15).toInt = -1))) (va_runV (As := [.int 4, .int z99]) (rest := []) ⟨hx, hb, hml, hown, hts⟩ (s_X7_fails l dC dI cs L K G Q hQ x0 m0 tx tm H.size I82 J82 hI82 p0 hLp0 hKp0 4 ⟨by decide +kernel, by decide +kernel⟩ z99 ⟨by omega, by omega⟩) (cwV 2 hts (gV pq1239 pq1241 pq15 pq81 pq1242) rfl rfl rfl (by decide +kernel) ⟨(by rw [hR]; exact (Nat.le_of_ble_eq_true rfl)), (by rw [hR]; exact (Nat.le_of_ble_eq_true rfl))⟩) (sP_V hP hD hK hN hLp0 hKp0 rfl rfl) rfl rfl hl.1 rfl (lv_room (Nat.le_of_ble_eq_true rfl)) dX7_readsRows_100 ⟨(by rw [hR]; exact (Nat.le_of_ble_eq_true rfl)), (by rw [hR]; exact (Nat.le_of_ble_eq_true rfl))⟩) hS hAL hA (fun Iz100 Jz100 H locs hz100 hIz100 hP hS => ?_)
                    obtain ⟨hIz100, frc100, zp100⟩ := hIz100
                    replace zp100 : Hid _ := zp100
                    have hk_Iz100 := hK_call hQ hLp0 hKp0 frc100 zp100.1 zp100.2.1 hk_I82
                    have fr_Iz100 : ∀ b, ¬ (K b = 7 ∨ K b = 28) → Iz100 b = I b := fun b q => (frc100 b (fun z => q (by rw [z]; have := hKp0; omega))).trans (fr_I82 b q)
                    exact j103 Iz100 Jz100 _ _ _ hIz100 fr_Iz100 hk_Iz100 ⟨Int.le_trans h82.1 zp100.1, fun h => absurd h zp100.2.2.2⟩ hP hS (lv_sub hl [0, 1, 2, 3, 4, 5] rfl)
              refine lv_icmp_ne (tgt := 82) hx hb dX7_readsRows_72 (by decide) (fun c72 => ?_) (fun c72 => ?_)
              · have t72 := tq_ne (k := v4_2.toInt) (q := (40)) c72 rfl (by decide +kernel)
                exact j82 I69 J69 _ _ _ hI69 fr_I69 hk_I69 ⟨h69, fun _ => by omega⟩ hP hS (lv_sub hl [0, 1, 2, 3, 4, 5] rfl)
              · have t72 := tq_eq (k := v4_2.toInt) (q := (40)) c72 rfl (by decide +kernel)
                refine lv_aload_n hx hb dX7_readsRows_75 rfl (lv_at hl 0 rfl) ?_
                refine lv_iconst (v := 3) hx hb dX7_readsRows_76 (by decide +kernel) ?_
                refine lv_iload hx hb dX7_readsRows_77 (lv_at hl 4 rfl) ?_
                refine sw_v (Z := (fun I1 => Iv L K x0 m0 tx tm I1 ∧ (∀ b, ¬ (b = p0) → I1 b = I69 b) ∧ ((I69 p0 14).toInt ≤ (I1 p0 14).toInt ∧ ((I1 p0 15).toInt = -1 → (I69 p0 15).toInt = -1) ∧ (∀ k, ¬ k = 15 → I1 p0 k = I69 p0 k) ∧ ¬ (I1 p0 15).toInt = -1))) (va_runV (As := [.int 3, .int z21]) (rest := []) ⟨hx, hb, hml, hown, hts⟩ (s_X7_fails l dC dI cs L K G Q hQ x0 m0 tx tm H.size I69 J69 hI69 p0 hLp0 hKp0 3 ⟨by decide +kernel, by decide +kernel⟩ z21 ⟨by omega, by omega⟩) (cwV 2 hts (gV pq1239 pq1241 pq15 pq81 pq1242) rfl rfl rfl (by decide +kernel) ⟨(by rw [hR]; exact (Nat.le_of_ble_eq_true rfl)), (by rw [hR]; exact (Nat.le_of_ble_eq_true rfl))⟩) (sP_V hP hD hK hN hLp0 hKp0 rfl rfl) rfl rfl hl.1 rfl (lv_room (Nat.le_of_ble_eq_true rfl)) dX7_readsRows_79 ⟨(by rw [hR]; exact (Nat.le_of_ble_eq_true rfl)), (by rw [hR]; exact (Nat.le_of_ble_eq_true rfl))⟩) hS hAL hA (fun Iz79 Jz79 H locs hz79 hIz79 hP hS => ?_)
                obtain ⟨hIz79, frc79, zp79⟩ := hIz79
                replace zp79 : Hid _ := zp79
                have hk_Iz79 := hK_call hQ hLp0 hKp0 frc79 zp79.1 zp79.2.1 hk_I69
                have fr_Iz79 : ∀ b, ¬ (K b = 7 ∨ K b = 28) → Iz79 b = I b := fun b q => (frc79 b (fun z => q (by rw [z]; have := hKp0; omega))).trans (fr_I69 b q)
                exact j82 Iz79 Jz79 _ _ _ hIz79 fr_Iz79 hk_Iz79 ⟨Int.le_trans h69 zp79.1, fun h => absurd h zp79.2.2.2⟩ hP hS (lv_sub hl [0, 1, 2, 3, 4, 5] rfl)
            refine lv_if_ne (tgt := 69) hx hb dX7_readsRows_57 (by decide) (fun c57 => ?_) (fun c57 => ?_)
            · have t57 := tq_ne (k := v29_5.toInt) (q := (0)) c57 rfl (by decide +kernel)
              exact j69 I29 Jz16 _ _ _ hI29 fr_I29 hk_I29 h29.2 hP hS (lv_sub hl [0, 1, 2, 3, 4, 5] rfl)
            · have t57 := tq_eq (k := v29_5.toInt) (q := (0)) c57 rfl (by decide +kernel)
              refine lv_aload_n hx hb dX7_readsRows_60 rfl (lv_at hl 0 rfl) ?_
              refine lv_iconst (v := 1) hx hb dX7_readsRows_61 (by decide +kernel) ?_
              refine lv_aload_n hx hb dX7_readsRows_62 rfl (lv_at hl 0 rfl) ?_
              refine p_get hx hb hts inX7 hown hK hP hLp0 hKp0 rfl rfl 14 (by decide) (hts _ pq1129) rfl dX7_readsRows_63 ?_
              refine lv_topi (fun z63 ez63 => ?_)
              have cgz63 := congrArg Int32.toInt ez63
              have bz63 := oI_7_14 (Iv_at hI29 hLp0 hKp0)
              rw [← ez63] at bz63
              refine sw_v (Z := (fun I1 => Iv L K x0 m0 tx tm I1 ∧ (∀ b, ¬ (b = p0) → I1 b = I29 b) ∧ ((I29 p0 14).toInt ≤ (I1 p0 14).toInt ∧ ((I1 p0 15).toInt = -1 → (I29 p0 15).toInt = -1) ∧ (∀ k, ¬ k = 15 → I1 p0 k = I29 p0 k) ∧ ¬ (I1 p0 15).toInt = -1))) (va_runV (As := [.int 1, .int z63]) (rest := []) ⟨hx, hb, hml, hown, hts⟩ (s_X7_fails l dC dI cs L K G Q hQ x0 m0 tx tm H.size I29 Jz16 hI29 p0 hLp0 hKp0 1 ⟨by decide +kernel, by decide +kernel⟩ z63 ⟨by omega, by omega⟩) (cwV 2 hts (gV pq1239 pq1241 pq15 pq81 pq1242) rfl rfl rfl (by decide +kernel) ⟨(by rw [hR]; exact (Nat.le_of_ble_eq_true rfl)), (by rw [hR]; exact (Nat.le_of_ble_eq_true rfl))⟩) (sP_V hP hD hK hN hLp0 hKp0 rfl rfl) rfl rfl hl.1 rfl (lv_room (Nat.le_of_ble_eq_true rfl)) dX7_readsRows_66 ⟨(by rw [hR]; exact (Nat.le_of_ble_eq_true rfl)), (by rw [hR]; exact (Nat.le_of_ble_eq_true rfl))⟩) hS hAL hA (fun Iz66 Jz66 H locs hz66 hIz66 hP hS => ?_)
              obtain ⟨hIz66, frc66, zp66⟩ := hIz66
              replace zp66 : Hid _ := zp66
              have hk_Iz66 := hK_call hQ hLp0 hKp0 frc66 zp66.1 zp66.2.1 hk_I29
              have fr_Iz66 : ∀ b, ¬ (K b = 7 ∨ K b = 28) → Iz66 b = I b := fun b q => (frc66 b (fun z => q (by rw [z]; have := hKp0; omega))).trans (fr_I29 b q)
              exact j69 Iz66 Jz66 _ _ _ hIz66 fr_Iz66 hk_Iz66 (Int.le_trans h29.2 zp66.1) hP hS (lv_sub hl [0, 1, 2, 3, 4, 5] rfl)
          · have t36 := tq_ne (k := z33.toInt) (q := (0)) c36 rfl (by decide +kernel)
            have i36 := imz33 t36
            have q30 := xpz30 (by omega)
            obtain ⟨z39, ez39⟩ : ∃ y : Int32, y = v29_5 + 1 := ⟨_, rfl⟩
            refine lv_iinc (v := z39) (lv' := [(5, .int z39), (0, .ref p0), (1, .int p1), (2, .int v4_2), (3, .int v4_3), (4, .int z21)]) hx hb dX7_readsRows_39 hl (k := 5) rfl (by rw [ez39]; rfl) (by decide) rfl (fun ls hl => ?_)
            have bz39 := tq_add (k := v29_5.toInt) (q := 1) ez39 rfl (by decide +kernel) (by omega) (by omega)
            refine lv_aload_n hx hb dX7_readsRows_42 rfl (lv_at hl 1 rfl) ?_
            refine lv_dup hx hb dX7_readsRows_43 rfl ?_
            refine p_get hx hb hts inX7 hown hK hP hLp0 hKp0 rfl rfl 14 (by decide) (hts _ pq1129) rfl dX7_readsRows_44 ?_
            refine lv_topi (fun z44 ez44 => ?_)
            have cgz44 := congrArg Int32.toInt ez44
            have bz44 := oI_7_14 (Iv_at hI29 hLp0 hKp0)
            rw [← ez44] at bz44
            refine lv_iconst (v := 1) hx hb dX7_readsRows_47 (by decide +kernel) ?_
            refine lv_iadd hx hb dX7_readsRows_48 ?_
            refine lv_topi (fun z48 ez48 => ?_)
            have bz48 := tq_add (k := z44.toInt) (q := (1)) ez48 rfl (by decide +kernel) (by omega) (by omega)
            refine p_put hx hb hts inX7 tyX7 tyX7_ok nmX7 hown hK hP hD hS hLp0 hKp0 rfl rfl 14 (by decide) (hts _ pq1129) rfl (by decide +kernel) (Nat.le_of_ble_eq_true rfl) (oS_7_14 cs _ _ _ _) dX7_readsRows_49 (fun H locs hP hS => ?_)
            obtain ⟨Iz49, hP, hIz49, qIz49⟩ : ∃ Iz49, va_P (dC, dI) vwCl (Wd cs L K Iz49 Jz16 Q) H ∧ Iv L K x0 m0 tx tm Iz49 ∧ Iz49 = va_up I29 p0 (upd (I29 p0) 14 z48) := ⟨_, hP, Iv_put hI29 hKp0 (oP_7_14 (Iv_at hI29 hLp0 hKp0) ⟨by omega, by omega⟩) (by decide) (by decide), rfl⟩
            have hk_Iz49 := hK_at hQ hLp0 hKp0 qIz49 (by omega) hk_I29
            have fr_Iz49 : ∀ b, ¬ (K b = 7 ∨ K b = 28) → Iz49 b = I b := fun b q => (congrFun qIz49 b).trans ((va_up_ne _ _ (fun z => q (by rw [z]; have := hKp0; omega))).trans (fr_I29 b q))
            refine lv_goto (tgt := 29) hx hb dX7_readsRows_52 (by decide) ?_
            exact ih29 _ (by rw [qIz49, rz_at]; omega) z39 Iz49 _ _ _ rfl ⟨by omega, by omega⟩ hIz49 fr_Iz49 hk_Iz49 ⟨by rw [qIz49, rz_at]; omega, by rw [qIz49, rz_at]; omega⟩ hP hS (lv_sub hl [1, 2, 3, 4, 5, 0] rfl))
        exact key29 _ 0 Iz16 _ _ _ rfl ⟨by decide +kernel, by decide +kernel⟩ hIz16 fr_Iz16 hk_Iz16 ⟨by rw [← ez21, show (0 : Int32).toInt = 0 from by decide +kernel]; omega, by rw [← ez21]; exact Int.le_refl _⟩ hP hS (lv_sub hl [2, 3, 4, 5, 1, 0] rfl))
  exact key4 _ 0 1 I J _ _ _ rfl ⟨by decide +kernel, by decide +kernel⟩ ⟨by decide +kernel, by decide +kernel⟩ hI fr_I hk_I (fun _ => by decide +kernel) hP hS (lv_sub hl [2, 3, 1, 0] rfl)

set_option maxHeartbeats 4000000 in
set_option maxRecDepth 100000 in
theorem s_X7_readsForm (l : Launch) (dC : Nat → ClassId) (dI : Nat → Nat → Nat) (cs : Nat → ClassId) (L : List Nat) (K G : Nat → Nat) (Q : Nat → Nat → Option Nat) (hQ : Sv L K G Q) (x0 m0 : Nat) (tx : Int32) (tm : Int32 × Int) (sz : Nat) (I : Nat → Nat → Int32) (J : Nat → Nat → Int64) (hI : Iv L K x0 m0 tx tm I) (p0 : Nat) (hLp0 : p0 ∈ L) (hKp0 : K p0 = 7) (ho : hOK Q I p0) (hf : (I p0 15).toInt = -1) (hm : (∀ yh, Q p0 1 = some yh → (I yh 0).toInt ≤ 7)) : Met l yX7_readsForm (.code yX7_readsForm cX7_readsForm 5 none :: pw) ({ frames := 5, cells := 0, slots := 0, locals := 109 }) (sPX (dC, dI) cs [.ref p0] sz L K I J Q (fun q => q ∈ L ∨ sz ≤ q) (fun A U H => xS A U H)) (va_Qv (fun (_ : Unit) => True) (fun _ t => sB (dC, dI) cs L K Q (fun I1 => Iv L K x0 m0 tx tm I1 ∧ (∀ b, ¬ (K b = 7 ∨ K b = 28) → I1 b = I b) ∧ hJ Q I I1 p0) t) (fun q => q ∈ L ∨ sz ≤ q)) 0 0 (fun q => q ∈ L ∨ sz ≤ q) := by
  refine Met.ofW (cc := cX7_readsForm) (maxL := 5) (ret := none) (by decide +kernel) rfl ?_
  intro p e s m args below meth c s₁ B hml hv
  obtain ⟨rfl, ⟨hsz, hP, hK, hD0, hN⟩, hXs⟩ := hv
  have hx := B.exec
  have hb := B.bytes
  have hr := B.returns
  have hts := fun w (h : w ∈ pw) => atoms_spec (ws := Cond.code yX7_readsForm cX7_readsForm 5 none :: pw) B.pre w (List.mem_cons_of_mem _ h)
  have hown : s.vm.findClass RX7 = some m.cls := findClass_of_methodNamed B.named
  have hlocks := B.notSynchronized
  subst hsz
  have hBB : 999 ≤ tm.2 ∧ tm.2 ≤ 6000000 := hI.2.2.2.2
  have hk_I : hHK Q I I p0 := hK_refl ho
  have fr_I : ∀ b, ¬ (K b = 7 ∨ K b = 28) → I b = I b := fun _ _ => rfl
  obtain ⟨A, hAe⟩ : ∃ A : Nat → Prop, A = (fun q => q ∈ L ∨ s.heap.size ≤ q) := ⟨_, rfl⟩
  rw [← hAe]
  have hAL : ∀ q, q ∈ L → A q := fun q h => by rw [hAe]; exact Or.inl h
  have hA : ∀ q, s.heap.size ≤ q → A q := fun q h => by rw [hAe]; exact Or.inr h
  have hD : ∀ F, va_D A (va_pl L F) := fun F => (hD0 F).weaken (fun k q hk _ => hAL _ (pl_mem hk))
  rw [← hAe] at hXs
  have hxx := hXs
  have hxt := hxx.1
  obtain ⟨H, hHe⟩ : ∃ H : Heap, H = s.heap := ⟨_, rfl⟩
  have hS : va_S A s.heap H [] := by rw [hHe]; exact va_S.rf
  rw [← hHe] at hP
  have hl := lv_entry ([.ref p0]) (n := 5) (Nat.le_of_ble_eq_true rfl)
  rw [lg_entry_eq]
  generalize (lg_sl ([.ref p0]) ++ List.replicate (5 - (lg_sl ([.ref p0])).length) Slot.unset).toArray = ls at hl ⊢
  have hl : lv_has ls 5 [(0, .ref p0)] := hl
  rw [← hHe]
  refine namedW (fun R Qz hR hQz => ?_)
  refine lv_aload_n hx hb dX7_readsForm_0 rfl (lv_at hl 0 rfl) ?_
  obtain ⟨y1, ey1, hLy1, hKy1⟩ := oQ_7_1 (Sv_at hQ hLp0 hKp0)
  refine p_get (v := .ref y1) hx hb hts inX7 hown hK hP hLp0 hKp0 rfl rfl 1 (by decide) (hts _ pq1116) (congrArg (fun q => some (va_rf q)) ey1) dX7_readsForm_1 ?_
  refine lv_iconst (v := 0) hx hb dX7_readsForm_4 (by decide +kernel) ?_
  refine p_iald hx hb hK hP 18 hLy1 hKy1 rfl rfl (in_d (by decide +kernel)) dX7_readsForm_5 ?_
  refine lv_topi (fun z5 ez5 => ?_)
  have b5 := ho hf y1 ey1 0 (by decide)
  unfold rng at b5
  have c5 := congrArg Int32.toInt (show z5 = I y1 0 from ez5)
  have m5 := hm y1 ey1
  have m6 : 0 ≤ z5.toInt ∧ z5.toInt ≤ 7 := ⟨by omega, by omega⟩
  replace b5 : Hid _ := b5
  refine lv_istore_n (lv' := [(1, .int z5), (0, .ref p0)]) hx hb dX7_readsForm_6 rfl hl (by decide) rfl (fun ls hl => ?_)
  refine lv_aload_n hx hb dX7_readsForm_7 rfl (lv_at hl 1 rfl) ?_
  refine sw_ir (Z := (fun u => (fun I1 => Iv L K x0 m0 tx tm I1 ∧ (∀ b, ¬ (b = p0) → I1 b = I b) ∧ ((I p0 14).toInt ≤ (I1 p0 14).toInt ∧ ((I1 p0 15).toInt = -1 → (I p0 15).toInt = -1) ∧ (∀ k, ¬ k = 14 → I1 p0 k = I p0 k) ∧ (¬ u.toInt = -1 → (I1 p0 14).toInt < (I1 p0 13).toInt))))) (va_runV (As := []) (rest := []) ⟨hx, hb, hml, hown, hts⟩ (s_X7_next l dC dI cs L K G Q hQ x0 m0 tx tm H.size I J hI p0 hLp0 hKp0) (cwV 0 hts (gV pq1211 pq1213 pq10 pq81 pq1214) rfl rfl rfl (by decide +kernel) ⟨(by rw [hR]; exact (Nat.le_of_ble_eq_true rfl)), (by rw [hR]; exact (Nat.le_of_ble_eq_true rfl))⟩) (sP_V hP hD hK hN hLp0 hKp0 rfl rfl) rfl rfl hl.1 rfl (lv_room (Nat.le_of_ble_eq_true rfl)) dX7_readsForm_8 ⟨(by rw [hR]; exact (Nat.le_of_ble_eq_true rfl)), (by rw [hR]; exact (Nat.le_of_ble_eq_true rfl))⟩) hS hAL hA (fun z8 Iz8 Jz8 H locs hz8 hIz8 hP hS => ?_)
  obtain ⟨hIz8, frc8, zr8⟩ := hIz8
  replace zr8 : Hid _ := zr8
  have hk_Iz8 := hK_call hQ hLp0 hKp0 frc8 zr8.1 zr8.2.1 hk_I
  have fr_Iz8 : ∀ b, ¬ (K b = 7 ∨ K b = 28) → Iz8 b = I b := fun b q => (frc8 b (fun z => q (by rw [z]; have := hKp0; omega))).trans (fr_I b q)
  have bz8 := hz8
  refine ro_i (va_runS (As := [.int z8]) (rest := []) ⟨hx, hb, hml, hown, hts⟩ (s_X7_isSign l dC dI cs L K G Q hQ x0 m0 tx tm H.size Iz8 Jz8 hIz8 z8) (va_cwS 1 hts (gS pq1247 pq1248 pq81 pq1249) rfl rfl rfl (by decide +kernel) ⟨(by rw [hR]; exact (Nat.le_of_ble_eq_true rfl)), (by rw [hR]; exact (Nat.le_of_ble_eq_true rfl))⟩) (sP_S hP hD hK hN) rfl rfl hl.1 rfl (lv_room (Nat.le_of_ble_eq_true rfl)) dX7_readsForm_11 ⟨(by rw [hR]; exact (Nat.le_of_ble_eq_true rfl)), (by rw [hR]; exact (Nat.le_of_ble_eq_true rfl))⟩) hS hP (fun z11 H locs hz11 hP hS => ?_)
  obtain ⟨bz11, imz11⟩ := hz11
  have j143 : ∀ (I143 : Nat → Nat → Int32) (J143 : Nat → Nat → Int64) (H : Heap) (lo : List Loc) (ls : Array Slot), Iv L K x0 m0 tx tm I143 → (∀ b, ¬ (K b = 7 ∨ K b = 28) → I143 b = I b) → hHK Q I I143 p0 → va_P (dC, dI) vwCl (Wd cs L K I143 J143 Q) H → va_S A s.heap H lo → lv_has ls 5 [(0, .ref p0), (1, .int z5)] → W p l e R s m (([.ref p0] : List Value).toArray) below meth c H lo 0 0 Qz (F0 m 143 ls []) := by
    intro I143 J143 H lo ls hI143 fr_I143 hk_I143 hP hS hl
    refine lv_aload_n hx hb dX7_readsForm_143 rfl (lv_at hl 0 rfl) ?_
    refine p_get (v := .ref y1) hx hb hts inX7 hown hK hP hLp0 hKp0 rfl rfl 1 (by decide) (hts _ pq1116) (congrArg (fun q => some (va_rf q)) ey1) dX7_readsForm_144 ?_
    refine lv_iconst (v := 0) hx hb dX7_readsForm_147 (by decide +kernel) ?_
    refine lv_dup2_11 hx hb dX7_readsForm_148 rfl rfl ?_
    refine p_iald hx hb hK hP 18 hLy1 hKy1 rfl rfl (in_d (by decide +kernel)) dX7_readsForm_149 ?_
    refine lv_topi (fun z149 ez149 => ?_)
    refine lv_aload_n hx hb dX7_readsForm_150 rfl (lv_at hl 0 rfl) ?_
    refine ro_i (va_runV (As := []) (rest := [.int z149, .int 0, .ref y1]) ⟨hx, hb, hml, hown, hts⟩ (s_X7_isRight l dC dI cs L K G Q hQ x0 m0 tx tm H.size I143 J143 hI143 p0 hLp0 hKp0) (cwV 0 hts (gV pq1219 pq1221 pq12 pq81 pq1222) rfl rfl rfl (by decide +kernel) ⟨(by rw [hR]; exact (Nat.le_of_ble_eq_true rfl)), (by rw [hR]; exact (Nat.le_of_ble_eq_true rfl))⟩) (sP_V hP hD hK hN hLp0 hKp0 rfl rfl) rfl rfl hl.1 rfl (lv_room (Nat.le_of_ble_eq_true rfl)) dX7_readsForm_151 ⟨(by rw [hR]; exact (Nat.le_of_ble_eq_true rfl)), (by rw [hR]; exact (Nat.le_of_ble_eq_true rfl))⟩) hS hP (fun z151 H locs hz151 hP hS => ?_)
    obtain ⟨bz151, xpz151⟩ := hz151
    replace xpz151 : Hid _ := xpz151
    refine ro_i (va_runS (As := [.int z151]) (rest := [.int z149, .int 0, .ref y1]) ⟨hx, hb, hml, hown, hts⟩ (s_X7_truth l dC dI cs L K Q H.size I143 J143 z151) (va_cwS 1 hts (gS pq1257 pq1258 pq81 pq1259) rfl rfl rfl (by decide +kernel) ⟨(by rw [hR]; exact (Nat.le_of_ble_eq_true rfl)), (by rw [hR]; exact (Nat.le_of_ble_eq_true rfl))⟩) (sP_S hP hD hK hN) rfl rfl hl.1 rfl (lv_room (Nat.le_of_ble_eq_true rfl)) dX7_readsForm_154 ⟨(by rw [hR]; exact (Nat.le_of_ble_eq_true rfl)), (by rw [hR]; exact (Nat.le_of_ble_eq_true rfl))⟩) hS hP (fun z154 H locs hz154 hP hS => ?_)
    obtain ⟨bz154, xpz154⟩ := hz154
    have c149 := congrArg Int32.toInt ((show z149 = I143 y1 0 from ez149).trans (hk_I143.2.2.1 y1 ey1).1)
    have b149 := ho hf y1 ey1 0 (by decide)
    unfold rng at b149
    have c149b : 0 ≤ z149.toInt ∧ z149.toInt ≤ 7 := ⟨by have := hm y1 ey1; omega, by have := hm y1 ey1; omega⟩
    replace b149 : Hid _ := b149
    refine lv_iadd hx hb dX7_readsForm_157 ?_
    refine lv_topi (fun z157 ez157 => ?_)
    have bz157 := tq_add (k := z149.toInt) (q := z154.toInt) ez157 rfl rfl (by omega) (by omega)
    refine p_iast hx hb hK hP hD hS 18 hLy1 hKy1 rfl (fun _ => rfl) rfl (in_d (by decide +kernel)) dX7_readsForm_158 (fun H locs hP hS => ?_)
    obtain ⟨Iz158, hP, hIz158, qIz158⟩ : ∃ Iz158, va_P (dC, dI) vwCl (Wd cs L K Iz158 J143 Q) H ∧ Iv L K x0 m0 tx tm Iz158 ∧ Iz158 = va_up I143 y1 (upd (I143 y1) (0 : Int32).toNatClampNeg z157) := ⟨_, hP, Iv_put hI143 hKy1 (show okI _ 28 _ from trivial) (Or.inl (by decide)) (Or.inl (by decide)), rfl⟩
    have fr_Iz158 : ∀ b, ¬ (K b = 7 ∨ K b = 28) → Iz158 b = I b := fun b q => (congrFun qIz158 b).trans ((va_up_ne _ _ (fun z => q (by rw [z]; have := hKy1; omega))).trans (fr_I143 b q))
    subst hR; subst hQz
    exact W.vret hx hb hr (fun t ht hW => ⟨⟨(), rfl, trivial, ⟨Iz158, J143, ⟨hIz158, fr_Iz158, (hJ_put hQ hLp0 hKp0 ey1 qIz158 (fun _ => by rw [show (0 : Int32).toInt.toNat = 0 from rfl]; unfold rng; omega) hk_I143)⟩, by rw [ht]; exact hP⟩⟩, hS.F ht⟩) hS.2.2 dX7_readsForm_159
  refine lv_if_eq (tgt := 25) hx hb dX7_readsForm_14 (by decide) (fun c14 => ?_) (fun c14 => ?_)
  · have t14 := tq_eq (k := z11.toInt) (q := (0)) c14 rfl (by decide +kernel)
    refine lv_aload_n hx hb dX7_readsForm_25 rfl (lv_at hl 1 rfl) ?_
    obtain ⟨y26, hv26, hx_y26⟩ := hxx.2 (RX7, 141, "box", 3) (by simp [lits])
    dsimp only at hv26 hx_y26
    refine va_ldcS hx hb hown hv26 dX7_readsForm_26 ?_
    refine sw_ir (Z := (fun u => (fun I1 => Iv L K x0 m0 tx tm I1 ∧ (∀ b, ¬ (b = p0) → I1 b = Iz8 b) ∧ ((Iz8 p0 14).toInt ≤ (I1 p0 14).toInt ∧ ((I1 p0 15).toInt = -1 → (Iz8 p0 15).toInt = -1) ∧ (∀ k, ¬ k = 14 → I1 p0 k = Iz8 p0 k) ∧ (¬ u.toInt = 0 → ((3 : Nat) : Int) ≤ (I1 p0 14).toInt))))) (va_runV (As := [.ref y26]) (rest := []) ⟨hx, hb, hml, hown, hts⟩ (s_X7_takes l dC dI cs L K G Q hQ x0 m0 tx tm H.size Iz8 Jz8 hIz8 p0 hLp0 hKp0 y26 3) (cwV 1 hts (gV pq1228 pq1230 pq14 pq81 pq1231) rfl rfl rfl (by decide +kernel) ⟨(by rw [hR]; exact (Nat.le_of_ble_eq_true rfl)), (by rw [hR]; exact (Nat.le_of_ble_eq_true rfl))⟩) (sPX_V hP hD hK hN hLp0 hKp0 rfl rfl (gX_and (gX_s _ _) gX_t) hS ⟨hx_y26, hxt⟩ (fun q h => h.elim (hAL q) (fun h => hA q (Nat.le_trans hS.1 h)))) rfl rfl hl.1 rfl (lv_room (Nat.le_of_ble_eq_true rfl)) dX7_readsForm_28 ⟨(by rw [hR]; exact (Nat.le_of_ble_eq_true rfl)), (by rw [hR]; exact (Nat.le_of_ble_eq_true rfl))⟩) hS hAL hA (fun z28 Iz28 Jz28 H locs hz28 hIz28 hP hS => ?_)
    obtain ⟨hIz28, frc28, zr28⟩ := hIz28
    replace zr28 : Hid _ := zr28
    have hk_Iz28 := hK_call hQ hLp0 hKp0 frc28 zr28.1 zr28.2.1 hk_Iz8
    have fr_Iz28 : ∀ b, ¬ (K b = 7 ∨ K b = 28) → Iz28 b = I b := fun b q => (frc28 b (fun z => q (by rw [z]; have := hKp0; omega))).trans (fr_Iz8 b q)
    have bz28 := hz28
    have j43 : ∀ (I43 : Nat → Nat → Int32) (J43 : Nat → Nat → Int64) (H : Heap) (lo : List Loc) (ls : Array Slot), Iv L K x0 m0 tx tm I43 → (∀ b, ¬ (K b = 7 ∨ K b = 28) → I43 b = I b) → hHK Q I I43 p0 → 1 ≤ (I43 p0 14).toInt → va_P (dC, dI) vwCl (Wd cs L K I43 J43 Q) H → va_S A s.heap H lo → lv_has ls 5 [(0, .ref p0), (1, .int z5)] → W p l e R s m (([.ref p0] : List Value).toArray) below meth c H lo 0 0 Qz (F0 m 43 ls []) := by
      intro I43 J43 H lo ls hI43 fr_I43 hk_I43 h43 hP hS hl
      refine lv_aload_n hx hb dX7_readsForm_43 rfl (lv_at hl 0 rfl) ?_
      obtain ⟨y44, ey44, hLy44, hKy44⟩ := oQ_7_12 (Sv_at hQ hLp0 hKp0)
      refine p_get (v := .ref y44) hx hb hts inX7 hown hK hP hLp0 hKp0 rfl rfl 12 (by decide) (hts _ pq1127) (congrArg (fun q => some (va_rf q)) ey44) dX7_readsForm_44 ?_
      refine lv_aload_n hx hb dX7_readsForm_47 rfl (lv_at hl 0 rfl) ?_
      refine p_get hx hb hts inX7 hown hK hP hLp0 hKp0 rfl rfl 14 (by decide) (hts _ pq1129) rfl dX7_readsForm_48 ?_
      refine lv_topi (fun z48 ez48 => ?_)
      have cgz48 := congrArg Int32.toInt ez48
      have bz48 := oI_7_14 (Iv_at hI43 hLp0 hKp0)
      rw [← ez48] at bz48
      refine lv_iconst (v := 1) hx hb dX7_readsForm_51 (by decide +kernel) ?_
      refine lv_isub hx hb dX7_readsForm_52 ?_
      refine lv_topi (fun z52 ez52 => ?_)
      have bz52 := tq_sub (k := z48.toInt) (q := (1)) ez52 rfl (by decide +kernel) (by omega) (by omega)
      refine p_bald hx hb hK hP 0 hLy44 hKy44 rfl rfl (in_of (by omega) (by omega)) dX7_readsForm_53 ?_
      refine lv_topi (fun z53 ez53 => ?_)
      refine lv_bipush (v := 120) hx hb dX7_readsForm_54 (by decide +kernel) ?_
      have j64 : ∀ (w64_0 : Int32) (H : Heap) (lo : List Loc) (ls : Array Slot), ((0) ≤ w64_0.toInt ∧ w64_0.toInt ≤ 1) → va_P (dC, dI) vwCl (Wd cs L K I43 J43 Q) H → va_S A s.heap H lo → lv_has ls 5 [(0, .ref p0), (1, .int z5)] → W p l e R s m (([.ref p0] : List Value).toArray) below meth c H lo 0 0 Qz (F0 m 64 ls [.int w64_0]) := by
        intro w64_0 H lo ls bw64_0 hP hS hl
        refine lv_istore_n (lv' := [(2, .int w64_0), (0, .ref p0), (1, .int z5)]) hx hb dX7_readsForm_64 rfl hl (by decide) rfl (fun ls hl => ?_)
        refine lv_aload_n hx hb dX7_readsForm_65 rfl (lv_at hl 1 rfl) ?_
        refine lv_iconst (v := 1) hx hb dX7_readsForm_66 (by decide +kernel) ?_
        refine lv_bipush (v := 100) hx hb dX7_readsForm_67 (by decide +kernel) ?_
        refine sw_ir (Z := (fun u => (fun I1 => Iv L K x0 m0 tx tm I1 ∧ (∀ b, ¬ (b = p0) → I1 b = I43 b) ∧ ((I43 p0 14).toInt ≤ (I1 p0 14).toInt ∧ ((I1 p0 15).toInt = -1 → (I43 p0 15).toInt = -1) ∧ ((I1 p0 15).toInt = -1 → (1 : Int32).toInt ≤ u.toInt ∧ u.toInt ≤ (100 : Int32).toInt))))) (va_runV (As := [.int 1, .int 100]) (rest := []) ⟨hx, hb, hml, hown, hts⟩ (s_X7_number l dC dI cs L K G Q hQ x0 m0 tx tm H.size I43 J43 hI43 p0 hLp0 hKp0 1 100) (cwV 2 hts (gV pq1262 pq1264 pq18 pq81 pq1265) rfl rfl rfl (by decide +kernel) ⟨(by rw [hR]; exact (Nat.le_of_ble_eq_true rfl)), (by rw [hR]; exact (Nat.le_of_ble_eq_true rfl))⟩) (sP_V hP hD hK hN hLp0 hKp0 rfl rfl) rfl rfl hl.1 rfl (lv_room (Nat.le_of_ble_eq_true rfl)) dX7_readsForm_69 ⟨(by rw [hR]; exact (Nat.le_of_ble_eq_true rfl)), (by rw [hR]; exact (Nat.le_of_ble_eq_true rfl))⟩) hS hAL hA (fun z69 Iz69 Jz69 H locs hz69 hIz69 hP hS => ?_)
        obtain ⟨hIz69, frc69, zr69⟩ := hIz69
        replace zr69 : Hid _ := zr69
        have hk_Iz69 := hK_call hQ hLp0 hKp0 frc69 zr69.1 zr69.2.1 hk_I43
        have fr_Iz69 : ∀ b, ¬ (K b = 7 ∨ K b = 28) → Iz69 b = I b := fun b q => (frc69 b (fun z => q (by rw [z]; have := hKp0; omega))).trans (fr_I43 b q)
        have cst69_1 : (1 : Int32).toInt = 1 := by decide +kernel
        have cst69_100 : (100 : Int32).toInt = 100 := by decide +kernel
        have bz69 := hz69
        refine lv_istore_n (lv' := [(3, .int z69), (2, .int w64_0), (0, .ref p0), (1, .int z5)]) hx hb dX7_readsForm_72 rfl hl (by decide) rfl (fun ls hl => ?_)
        refine lv_aload_n hx hb dX7_readsForm_73 rfl (lv_at hl 2 rfl) ?_
        refine lv_iconst (v := 1) hx hb dX7_readsForm_74 (by decide +kernel) ?_
        refine lv_bipush (v := 40) hx hb dX7_readsForm_75 (by decide +kernel) ?_
        refine sw_ir (Z := (fun u => (fun I1 => Iv L K x0 m0 tx tm I1 ∧ (∀ b, ¬ (b = p0) → I1 b = Iz69 b) ∧ ((Iz69 p0 14).toInt ≤ (I1 p0 14).toInt ∧ ((I1 p0 15).toInt = -1 → (Iz69 p0 15).toInt = -1) ∧ ((I1 p0 15).toInt = -1 → (1 : Int32).toInt ≤ u.toInt ∧ u.toInt ≤ (40 : Int32).toInt))))) (va_runV (As := [.int 1, .int 40]) (rest := []) ⟨hx, hb, hml, hown, hts⟩ (s_X7_number l dC dI cs L K G Q hQ x0 m0 tx tm H.size Iz69 Jz69 hIz69 p0 hLp0 hKp0 1 40) (cwV 2 hts (gV pq1262 pq1264 pq18 pq81 pq1265) rfl rfl rfl (by decide +kernel) ⟨(by rw [hR]; exact (Nat.le_of_ble_eq_true rfl)), (by rw [hR]; exact (Nat.le_of_ble_eq_true rfl))⟩) (sP_V hP hD hK hN hLp0 hKp0 rfl rfl) rfl rfl hl.1 rfl (lv_room (Nat.le_of_ble_eq_true rfl)) dX7_readsForm_77 ⟨(by rw [hR]; exact (Nat.le_of_ble_eq_true rfl)), (by rw [hR]; exact (Nat.le_of_ble_eq_true rfl))⟩) hS hAL hA (fun z77 Iz77 Jz77 H locs hz77 hIz77 hP hS => ?_)
        obtain ⟨hIz77, frc77, zr77⟩ := hIz77
        replace zr77 : Hid _ := zr77
        have hk_Iz77 := hK_call hQ hLp0 hKp0 frc77 zr77.1 zr77.2.1 hk_Iz69
        have fr_Iz77 : ∀ b, ¬ (K b = 7 ∨ K b = 28) → Iz77 b = I b := fun b q => (frc77 b (fun z => q (by rw [z]; have := hKp0; omega))).trans (fr_Iz69 b q)
        have cst77_1 : (1 : Int32).toInt = 1 := by decide +kernel
        have cst77_40 : (40 : Int32).toInt = 40 := by decide +kernel
        have bz77 := hz77
        refine lv_istore (lv' := [(4, .int z77), (3, .int z69), (2, .int w64_0), (0, .ref p0), (1, .int z5)]) hx hb dX7_readsForm_80 hl (by decide) rfl (fun ls hl => ?_)
        refine lv_aload_n hx hb dX7_readsForm_82 rfl (lv_at hl 3 rfl) ?_
        refine ro_i (va_runV (As := []) (rest := []) ⟨hx, hb, hml, hown, hts⟩ (s_X7_isRight l dC dI cs L K G Q hQ x0 m0 tx tm H.size Iz77 Jz77 hIz77 p0 hLp0 hKp0) (cwV 0 hts (gV pq1219 pq1221 pq12 pq81 pq1222) rfl rfl rfl (by decide +kernel) ⟨(by rw [hR]; exact (Nat.le_of_ble_eq_true rfl)), (by rw [hR]; exact (Nat.le_of_ble_eq_true rfl))⟩) (sP_V hP hD hK hN hLp0 hKp0 rfl rfl) rfl rfl hl.1 rfl (lv_room (Nat.le_of_ble_eq_true rfl)) dX7_readsForm_83 ⟨(by rw [hR]; exact (Nat.le_of_ble_eq_true rfl)), (by rw [hR]; exact (Nat.le_of_ble_eq_true rfl))⟩) hS hP (fun z83 H locs hz83 hP hS => ?_)
        obtain ⟨bz83, xpz83⟩ := hz83
        replace xpz83 : Hid _ := xpz83
        have j98 : ∀ (I98 : Nat → Nat → Int32) (J98 : Nat → Nat → Int64) (H : Heap) (lo : List Loc) (ls : Array Slot), Iv L K x0 m0 tx tm I98 → (∀ b, ¬ (K b = 7 ∨ K b = 28) → I98 b = I b) → hHK Q I I98 p0 → va_P (dC, dI) vwCl (Wd cs L K I98 J98 Q) H → va_S A s.heap H lo → lv_has ls 5 [(0, .ref p0), (1, .int z5), (2, .int w64_0), (3, .int z69), (4, .int z77)] → W p l e R s m (([.ref p0] : List Value).toArray) below meth c H lo 0 0 Qz (F0 m 98 ls []) := by
          intro I98 J98 H lo ls hI98 fr_I98 hk_I98 hP hS hl
          refine lv_goto (tgt := 143) hx hb dX7_readsForm_98 (by decide) ?_
          exact j143 I98 J98 _ _ _ hI98 fr_I98 hk_I98 hP hS (lv_sub hl [0, 1] rfl)
        refine lv_if_eq (tgt := 98) hx hb dX7_readsForm_86 (by decide) (fun c86 => ?_) (fun c86 => ?_)
        · have t86 := tq_eq (k := z83.toInt) (q := (0)) c86 rfl (by decide +kernel)
          exact j98 Iz77 Jz77 _ _ _ hIz77 fr_Iz77 hk_Iz77 hP hS (lv_sub hl [3, 4, 2, 1, 0] rfl)
        · have t86 := tq_ne (k := z83.toInt) (q := (0)) c86 rfl (by decide +kernel)
          refine lv_aload_n hx hb dX7_readsForm_89 rfl (lv_at hl 3 rfl) ?_
          refine lv_iload_n hx hb dX7_readsForm_90 rfl (lv_at hl 4 rfl) ?_
          refine lv_iload_n hx hb dX7_readsForm_91 rfl (lv_at hl 1 rfl) ?_
          refine lv_iload hx hb dX7_readsForm_92 (lv_at hl 0 rfl) ?_
          refine lv_iload_n hx hb dX7_readsForm_94 rfl (lv_at hl 2 rfl) ?_
          have f77 := xpz83.1 t86
          have q77 := zr77.2.2 f77
          have q69 := zr69.2.2 (zr77.2.1 f77)
          refine sw_v (Z := (fun I1 => Iv L K x0 m0 tx tm I1 ∧ (∀ b, ¬ (K b = 28) → I1 b = Iz77 b) ∧ hHK Q Iz77 I1 p0)) (va_runV (As := [.int z5, .int z69, .int z77, .int w64_0]) (rest := []) ⟨hx, hb, hml, hown, hts⟩ (s_X7_laysBox l dC dI cs L K G Q hQ x0 m0 tx tm H.size Iz77 Jz77 hIz77 p0 hLp0 hKp0 z5 ⟨by omega, by omega⟩ z69 ⟨by omega, by omega⟩ z77 ⟨by omega, by omega⟩ w64_0 hk_Iz77.2.1) (cwV 4 hts (gV pq1270 pq1272 pq19 pq81 pq1273) rfl rfl rfl (by decide +kernel) ⟨(by rw [hR]; exact (Nat.le_of_ble_eq_true rfl)), (by rw [hR]; exact (Nat.le_of_ble_eq_true rfl))⟩) (sP_V hP hD hK hN hLp0 hKp0 rfl rfl) rfl rfl hl.1 rfl (lv_room (Nat.le_of_ble_eq_true rfl)) dX7_readsForm_95 ⟨(by rw [hR]; exact (Nat.le_of_ble_eq_true rfl)), (by rw [hR]; exact (Nat.le_of_ble_eq_true rfl))⟩) hS hAL hA (fun Iz95 Jz95 H locs hz95 hIz95 hP hS => ?_)
          obtain ⟨hIz95, frc95, zp95⟩ := hIz95
          replace zp95 : Hid _ := zp95
          have hk_Iz95 := hK_tr hk_Iz77 zp95
          have fr_Iz95 : ∀ b, ¬ (K b = 7 ∨ K b = 28) → Iz95 b = I b := fun b q => (frc95 b (fun z => q (by omega))).trans (fr_Iz77 b q)
          exact j98 Iz95 Jz95 _ _ _ hIz95 fr_Iz95 hk_Iz95 hP hS (lv_sub hl [3, 4, 2, 1, 0] rfl)
      refine lv_icmp_ne (tgt := 63) hx hb dX7_readsForm_56 (by decide) (fun c56 => ?_) (fun c56 => ?_)
      · have t56 := tq_ne (k := z53.toInt) (q := (120)) c56 rfl (by decide +kernel)
        refine lv_iconst (v := 0) hx hb dX7_readsForm_63 (by decide +kernel) ?_
        exact j64 0 _ _ _ ⟨by decide +kernel, by decide +kernel⟩ hP hS (lv_sub hl [0, 1] rfl)
      · have t56 := tq_eq (k := z53.toInt) (q := (120)) c56 rfl (by decide +kernel)
        refine lv_iconst (v := 1) hx hb dX7_readsForm_59 (by decide +kernel) ?_
        refine lv_goto (tgt := 64) hx hb dX7_readsForm_60 (by decide) ?_
        exact j64 1 _ _ _ ⟨by decide +kernel, by decide +kernel⟩ hP hS (lv_sub hl [0, 1] rfl)
    refine lv_if_ne (tgt := 43) hx hb dX7_readsForm_31 (by decide) (fun c31 => ?_) (fun c31 => ?_)
    · have t31 := tq_ne (k := z28.toInt) (q := (0)) c31 rfl (by decide +kernel)
      exact j43 Iz28 Jz28 _ _ _ hIz28 fr_Iz28 hk_Iz28 (by have := zr28.2.2.2 t31; omega) hP hS (lv_sub hl [1, 0] rfl)
    · have t31 := tq_eq (k := z28.toInt) (q := (0)) c31 rfl (by decide +kernel)
      refine lv_aload_n hx hb dX7_readsForm_34 rfl (lv_at hl 1 rfl) ?_
      obtain ⟨y35, hv35, hx_y35⟩ := hxx.2 (RX7, 146, "frame", 5) (by simp [lits])
      dsimp only at hv35 hx_y35
      refine va_ldcS hx hb hown hv35 dX7_readsForm_35 ?_
      refine sw_ir (Z := (fun u => (fun I1 => Iv L K x0 m0 tx tm I1 ∧ (∀ b, ¬ (b = p0) → I1 b = Iz28 b) ∧ ((Iz28 p0 14).toInt ≤ (I1 p0 14).toInt ∧ ((I1 p0 15).toInt = -1 → (Iz28 p0 15).toInt = -1) ∧ (∀ k, ¬ k = 14 → I1 p0 k = Iz28 p0 k) ∧ (¬ u.toInt = 0 → ((5 : Nat) : Int) ≤ (I1 p0 14).toInt))))) (va_runV (As := [.ref y35]) (rest := []) ⟨hx, hb, hml, hown, hts⟩ (s_X7_takes l dC dI cs L K G Q hQ x0 m0 tx tm H.size Iz28 Jz28 hIz28 p0 hLp0 hKp0 y35 5) (cwV 1 hts (gV pq1228 pq1230 pq14 pq81 pq1231) rfl rfl rfl (by decide +kernel) ⟨(by rw [hR]; exact (Nat.le_of_ble_eq_true rfl)), (by rw [hR]; exact (Nat.le_of_ble_eq_true rfl))⟩) (sPX_V hP hD hK hN hLp0 hKp0 rfl rfl (gX_and (gX_s _ _) gX_t) hS ⟨hx_y35, hxt⟩ (fun q h => h.elim (hAL q) (fun h => hA q (Nat.le_trans hS.1 h)))) rfl rfl hl.1 rfl (lv_room (Nat.le_of_ble_eq_true rfl)) dX7_readsForm_37 ⟨(by rw [hR]; exact (Nat.le_of_ble_eq_true rfl)), (by rw [hR]; exact (Nat.le_of_ble_eq_true rfl))⟩) hS hAL hA (fun z37 Iz37 Jz37 H locs hz37 hIz37 hP hS => ?_)
      obtain ⟨hIz37, frc37, zr37⟩ := hIz37
      replace zr37 : Hid _ := zr37
      have hk_Iz37 := hK_call hQ hLp0 hKp0 frc37 zr37.1 zr37.2.1 hk_Iz28
      have fr_Iz37 : ∀ b, ¬ (K b = 7 ∨ K b = 28) → Iz37 b = I b := fun b q => (frc37 b (fun z => q (by rw [z]; have := hKp0; omega))).trans (fr_Iz28 b q)
      have bz37 := hz37
      refine lv_if_eq (tgt := 101) hx hb dX7_readsForm_40 (by decide) (fun c40 => ?_) (fun c40 => ?_)
      · have t40 := tq_eq (k := z37.toInt) (q := (0)) c40 rfl (by decide +kernel)
        refine lv_aload_n hx hb dX7_readsForm_101 rfl (lv_at hl 1 rfl) ?_
        obtain ⟨y102, hv102, hx_y102⟩ := hxx.2 (RX7, 152, "disk", 4) (by simp [lits])
        dsimp only at hv102 hx_y102
        refine va_ldcS hx hb hown hv102 dX7_readsForm_102 ?_
        refine sw_ir (Z := (fun u => (fun I1 => Iv L K x0 m0 tx tm I1 ∧ (∀ b, ¬ (b = p0) → I1 b = Iz37 b) ∧ ((Iz37 p0 14).toInt ≤ (I1 p0 14).toInt ∧ ((I1 p0 15).toInt = -1 → (Iz37 p0 15).toInt = -1) ∧ (∀ k, ¬ k = 14 → I1 p0 k = Iz37 p0 k) ∧ (¬ u.toInt = 0 → ((4 : Nat) : Int) ≤ (I1 p0 14).toInt))))) (va_runV (As := [.ref y102]) (rest := []) ⟨hx, hb, hml, hown, hts⟩ (s_X7_takes l dC dI cs L K G Q hQ x0 m0 tx tm H.size Iz37 Jz37 hIz37 p0 hLp0 hKp0 y102 4) (cwV 1 hts (gV pq1228 pq1230 pq14 pq81 pq1231) rfl rfl rfl (by decide +kernel) ⟨(by rw [hR]; exact (Nat.le_of_ble_eq_true rfl)), (by rw [hR]; exact (Nat.le_of_ble_eq_true rfl))⟩) (sPX_V hP hD hK hN hLp0 hKp0 rfl rfl (gX_and (gX_s _ _) gX_t) hS ⟨hx_y102, hxt⟩ (fun q h => h.elim (hAL q) (fun h => hA q (Nat.le_trans hS.1 h)))) rfl rfl hl.1 rfl (lv_room (Nat.le_of_ble_eq_true rfl)) dX7_readsForm_104 ⟨(by rw [hR]; exact (Nat.le_of_ble_eq_true rfl)), (by rw [hR]; exact (Nat.le_of_ble_eq_true rfl))⟩) hS hAL hA (fun z104 Iz104 Jz104 H locs hz104 hIz104 hP hS => ?_)
        obtain ⟨hIz104, frc104, zr104⟩ := hIz104
        replace zr104 : Hid _ := zr104
        have hk_Iz104 := hK_call hQ hLp0 hKp0 frc104 zr104.1 zr104.2.1 hk_Iz37
        have fr_Iz104 : ∀ b, ¬ (K b = 7 ∨ K b = 28) → Iz104 b = I b := fun b q => (frc104 b (fun z => q (by rw [z]; have := hKp0; omega))).trans (fr_Iz37 b q)
        have bz104 := hz104
        refine lv_if_eq (tgt := 134) hx hb dX7_readsForm_107 (by decide) (fun c107 => ?_) (fun c107 => ?_)
        · have t107 := tq_eq (k := z104.toInt) (q := (0)) c107 rfl (by decide +kernel)
          refine lv_aload_n hx hb dX7_readsForm_134 rfl (lv_at hl 1 rfl) ?_
          refine lv_iconst (v := 1) hx hb dX7_readsForm_135 (by decide +kernel) ?_
          refine lv_aload_n hx hb dX7_readsForm_136 rfl (lv_at hl 1 rfl) ?_
          refine p_get hx hb hts inX7 hown hK hP hLp0 hKp0 rfl rfl 14 (by decide) (hts _ pq1129) rfl dX7_readsForm_137 ?_
          refine lv_topi (fun z137 ez137 => ?_)
          have cgz137 := congrArg Int32.toInt ez137
          have bz137 := oI_7_14 (Iv_at hIz104 hLp0 hKp0)
          rw [← ez137] at bz137
          refine sw_v (Z := (fun I1 => Iv L K x0 m0 tx tm I1 ∧ (∀ b, ¬ (b = p0) → I1 b = Iz104 b) ∧ ((Iz104 p0 14).toInt ≤ (I1 p0 14).toInt ∧ ((I1 p0 15).toInt = -1 → (Iz104 p0 15).toInt = -1) ∧ (∀ k, ¬ k = 15 → I1 p0 k = Iz104 p0 k) ∧ ¬ (I1 p0 15).toInt = -1))) (va_runV (As := [.int 1, .int z137]) (rest := []) ⟨hx, hb, hml, hown, hts⟩ (s_X7_fails l dC dI cs L K G Q hQ x0 m0 tx tm H.size Iz104 Jz104 hIz104 p0 hLp0 hKp0 1 ⟨by decide +kernel, by decide +kernel⟩ z137 ⟨by omega, by omega⟩) (cwV 2 hts (gV pq1239 pq1241 pq15 pq81 pq1242) rfl rfl rfl (by decide +kernel) ⟨(by rw [hR]; exact (Nat.le_of_ble_eq_true rfl)), (by rw [hR]; exact (Nat.le_of_ble_eq_true rfl))⟩) (sP_V hP hD hK hN hLp0 hKp0 rfl rfl) rfl rfl hl.1 rfl (lv_room (Nat.le_of_ble_eq_true rfl)) dX7_readsForm_140 ⟨(by rw [hR]; exact (Nat.le_of_ble_eq_true rfl)), (by rw [hR]; exact (Nat.le_of_ble_eq_true rfl))⟩) hS hAL hA (fun Iz140 Jz140 H locs hz140 hIz140 hP hS => ?_)
          obtain ⟨hIz140, frc140, zp140⟩ := hIz140
          replace zp140 : Hid _ := zp140
          have hk_Iz140 := hK_call hQ hLp0 hKp0 frc140 zp140.1 zp140.2.1 hk_Iz104
          have fr_Iz140 : ∀ b, ¬ (K b = 7 ∨ K b = 28) → Iz140 b = I b := fun b q => (frc140 b (fun z => q (by rw [z]; have := hKp0; omega))).trans (fr_Iz104 b q)
          exact j143 Iz140 Jz140 _ _ _ hIz140 fr_Iz140 hk_Iz140 hP hS (lv_sub hl [1, 0] rfl)
        · have t107 := tq_ne (k := z104.toInt) (q := (0)) c107 rfl (by decide +kernel)
          refine lv_aload_n hx hb dX7_readsForm_110 rfl (lv_at hl 1 rfl) ?_
          refine lv_iconst (v := 0) hx hb dX7_readsForm_111 (by decide +kernel) ?_
          refine lv_bipush (v := 19) hx hb dX7_readsForm_112 (by decide +kernel) ?_
          refine sw_ir (Z := (fun u => (fun I1 => Iv L K x0 m0 tx tm I1 ∧ (∀ b, ¬ (b = p0) → I1 b = Iz104 b) ∧ ((Iz104 p0 14).toInt ≤ (I1 p0 14).toInt ∧ ((I1 p0 15).toInt = -1 → (Iz104 p0 15).toInt = -1) ∧ ((I1 p0 15).toInt = -1 → (0 : Int32).toInt ≤ u.toInt ∧ u.toInt ≤ (19 : Int32).toInt))))) (va_runV (As := [.int 0, .int 19]) (rest := []) ⟨hx, hb, hml, hown, hts⟩ (s_X7_number l dC dI cs L K G Q hQ x0 m0 tx tm H.size Iz104 Jz104 hIz104 p0 hLp0 hKp0 0 19) (cwV 2 hts (gV pq1262 pq1264 pq18 pq81 pq1265) rfl rfl rfl (by decide +kernel) ⟨(by rw [hR]; exact (Nat.le_of_ble_eq_true rfl)), (by rw [hR]; exact (Nat.le_of_ble_eq_true rfl))⟩) (sP_V hP hD hK hN hLp0 hKp0 rfl rfl) rfl rfl hl.1 rfl (lv_room (Nat.le_of_ble_eq_true rfl)) dX7_readsForm_114 ⟨(by rw [hR]; exact (Nat.le_of_ble_eq_true rfl)), (by rw [hR]; exact (Nat.le_of_ble_eq_true rfl))⟩) hS hAL hA (fun z114 Iz114 Jz114 H locs hz114 hIz114 hP hS => ?_)
          obtain ⟨hIz114, frc114, zr114⟩ := hIz114
          replace zr114 : Hid _ := zr114
          have hk_Iz114 := hK_call hQ hLp0 hKp0 frc114 zr114.1 zr114.2.1 hk_Iz104
          have fr_Iz114 : ∀ b, ¬ (K b = 7 ∨ K b = 28) → Iz114 b = I b := fun b q => (frc114 b (fun z => q (by rw [z]; have := hKp0; omega))).trans (fr_Iz104 b q)
          have cst114_0 : (0 : Int32).toInt = 0 := by decide +kernel
          have cst114_19 : (19 : Int32).toInt = 19 := by decide +kernel
          have bz114 := hz114
          refine lv_istore_n (lv' := [(2, .int z114), (1, .int z5), (0, .ref p0)]) hx hb dX7_readsForm_117 rfl hl (by decide) rfl (fun ls hl => ?_)
          refine lv_aload_n hx hb dX7_readsForm_118 rfl (lv_at hl 2 rfl) ?_
          refine ro_i (va_runV (As := []) (rest := []) ⟨hx, hb, hml, hown, hts⟩ (s_X7_isRight l dC dI cs L K G Q hQ x0 m0 tx tm H.size Iz114 Jz114 hIz114 p0 hLp0 hKp0) (cwV 0 hts (gV pq1219 pq1221 pq12 pq81 pq1222) rfl rfl rfl (by decide +kernel) ⟨(by rw [hR]; exact (Nat.le_of_ble_eq_true rfl)), (by rw [hR]; exact (Nat.le_of_ble_eq_true rfl))⟩) (sP_V hP hD hK hN hLp0 hKp0 rfl rfl) rfl rfl hl.1 rfl (lv_room (Nat.le_of_ble_eq_true rfl)) dX7_readsForm_119 ⟨(by rw [hR]; exact (Nat.le_of_ble_eq_true rfl)), (by rw [hR]; exact (Nat.le_of_ble_eq_true rfl))⟩) hS hP (fun z119 H locs hz119 hP hS => ?_)
          obtain ⟨bz119, xpz119⟩ := hz119
          replace xpz119 : Hid _ := xpz119
          have j131 : ∀ (I131 : Nat → Nat → Int32) (J131 : Nat → Nat → Int64) (H : Heap) (lo : List Loc) (ls : Array Slot), Iv L K x0 m0 tx tm I131 → (∀ b, ¬ (K b = 7 ∨ K b = 28) → I131 b = I b) → hHK Q I I131 p0 → va_P (dC, dI) vwCl (Wd cs L K I131 J131 Q) H → va_S A s.heap H lo → lv_has ls 5 [(0, .ref p0), (1, .int z5), (2, .int z114)] → W p l e R s m (([.ref p0] : List Value).toArray) below meth c H lo 0 0 Qz (F0 m 131 ls []) := by
            intro I131 J131 H lo ls hI131 fr_I131 hk_I131 hP hS hl
            refine lv_goto (tgt := 143) hx hb dX7_readsForm_131 (by decide) ?_
            exact j143 I131 J131 _ _ _ hI131 fr_I131 hk_I131 hP hS (lv_sub hl [0, 1] rfl)
          refine lv_if_eq (tgt := 131) hx hb dX7_readsForm_122 (by decide) (fun c122 => ?_) (fun c122 => ?_)
          · have t122 := tq_eq (k := z119.toInt) (q := (0)) c122 rfl (by decide +kernel)
            exact j131 Iz114 Jz114 _ _ _ hIz114 fr_Iz114 hk_Iz114 hP hS (lv_sub hl [2, 1, 0] rfl)
          · have t122 := tq_ne (k := z119.toInt) (q := (0)) c122 rfl (by decide +kernel)
            refine lv_aload_n hx hb dX7_readsForm_125 rfl (lv_at hl 2 rfl) ?_
            refine lv_iload_n hx hb dX7_readsForm_126 rfl (lv_at hl 1 rfl) ?_
            refine lv_iload_n hx hb dX7_readsForm_127 rfl (lv_at hl 0 rfl) ?_
            have q114 := zr114.2.2 (xpz119.1 t122)
            refine sw_v (Z := (fun I1 => Iv L K x0 m0 tx tm I1 ∧ (∀ b, ¬ (K b = 28) → I1 b = Iz114 b) ∧ hHK Q Iz114 I1 p0)) (va_runV (As := [.int z5, .int z114]) (rest := []) ⟨hx, hb, hml, hown, hts⟩ (s_X7_laysDisk l dC dI cs L K G Q hQ x0 m0 tx tm H.size Iz114 Jz114 hIz114 p0 hLp0 hKp0 z5 ⟨by omega, by omega⟩ z114 ⟨by omega, by omega⟩ hk_Iz114.2.1) (cwV 2 hts (gV pq1275 pq1277 pq20 pq81 pq1278) rfl rfl rfl (by decide +kernel) ⟨(by rw [hR]; exact (Nat.le_of_ble_eq_true rfl)), (by rw [hR]; exact (Nat.le_of_ble_eq_true rfl))⟩) (sP_V hP hD hK hN hLp0 hKp0 rfl rfl) rfl rfl hl.1 rfl (lv_room (Nat.le_of_ble_eq_true rfl)) dX7_readsForm_128 ⟨(by rw [hR]; exact (Nat.le_of_ble_eq_true rfl)), (by rw [hR]; exact (Nat.le_of_ble_eq_true rfl))⟩) hS hAL hA (fun Iz128 Jz128 H locs hz128 hIz128 hP hS => ?_)
            obtain ⟨hIz128, frc128, zp128⟩ := hIz128
            replace zp128 : Hid _ := zp128
            have hk_Iz128 := hK_tr hk_Iz114 zp128
            have fr_Iz128 : ∀ b, ¬ (K b = 7 ∨ K b = 28) → Iz128 b = I b := fun b q => (frc128 b (fun z => q (by omega))).trans (fr_Iz114 b q)
            exact j131 Iz128 Jz128 _ _ _ hIz128 fr_Iz128 hk_Iz128 hP hS (lv_sub hl [2, 1, 0] rfl)
      · have t40 := tq_ne (k := z37.toInt) (q := (0)) c40 rfl (by decide +kernel)
        exact j43 Iz37 Jz37 _ _ _ hIz37 fr_Iz37 hk_Iz37 (by have := zr37.2.2.2 t40; omega) hP hS (lv_sub hl [1, 0] rfl)
  · have t14 := tq_ne (k := z11.toInt) (q := (0)) c14 rfl (by decide +kernel)
    have i14 := imz11 t14
    refine lv_aload_n hx hb dX7_readsForm_17 rfl (lv_at hl 1 rfl) ?_
    refine lv_iload_n hx hb dX7_readsForm_18 rfl (lv_at hl 0 rfl) ?_
    refine sw_v (Z := (fun I1 => Iv L K x0 m0 tx tm I1 ∧ (∀ b, ¬ (K b = 7 ∨ K b = 28) → I1 b = Iz8 b) ∧ hHK Q Iz8 I1 p0)) (va_runV (As := [.int z5]) (rest := []) ⟨hx, hb, hml, hown, hts⟩ (s_X7_readsRows l dC dI cs L K G Q hQ x0 m0 tx tm H.size Iz8 Jz8 hIz8 p0 hLp0 hKp0 z5 ⟨by omega, by omega⟩ hk_Iz8.2.1 (by rw [zr8.2.2.1 15 (by decide)]; exact hf)) (cwV 1 hts (gV pq1250 pq1252 pq17 pq81 pq1253) rfl rfl rfl (by decide +kernel) ⟨(by rw [hR]; exact (Nat.le_of_ble_eq_true rfl)), (by rw [hR]; exact (Nat.le_of_ble_eq_true rfl))⟩) (sP_V hP hD hK hN hLp0 hKp0 rfl rfl) rfl rfl hl.1 rfl (lv_room (Nat.le_of_ble_eq_true rfl)) dX7_readsForm_19 ⟨(by rw [hR]; exact (Nat.le_of_ble_eq_true rfl)), (by rw [hR]; exact (Nat.le_of_ble_eq_true rfl))⟩) hS hAL hA (fun Iz19 Jz19 H locs hz19 hIz19 hP hS => ?_)
    obtain ⟨hIz19, frc19, zp19⟩ := hIz19
    replace zp19 : Hid _ := zp19
    have hk_Iz19 := hK_tr hk_Iz8 zp19
    have fr_Iz19 : ∀ b, ¬ (K b = 7 ∨ K b = 28) → Iz19 b = I b := fun b q => (frc19 b (fun z => q (by omega))).trans (fr_Iz8 b q)
    refine lv_goto (tgt := 143) hx hb dX7_readsForm_22 (by decide) ?_
    exact j143 Iz19 Jz19 _ _ _ hIz19 fr_Iz19 hk_Iz19 hP hS (lv_sub hl [1, 0] rfl)

set_option maxHeartbeats 4000000 in
set_option maxRecDepth 100000 in
theorem s_X7_readsBody (l : Launch) (dC : Nat → ClassId) (dI : Nat → Nat → Nat) (cs : Nat → ClassId) (L : List Nat) (K G : Nat → Nat) (Q : Nat → Nat → Option Nat) (hQ : Sv L K G Q) (x0 m0 : Nat) (tx : Int32) (tm : Int32 × Int) (sz : Nat) (I : Nat → Nat → Int32) (J : Nat → Nat → Int64) (hI : Iv L K x0 m0 tx tm I) (p0 : Nat) (hLp0 : p0 ∈ L) (hKp0 : K p0 = 7) (ho : hOK Q I p0) (hf : (I p0 15).toInt = -1) (hn : (∀ yh, Q p0 1 = some yh → (I yh 1).toInt ≤ 9)) : Met l yX7_readsBody (.code yX7_readsBody cX7_readsBody 3 none :: pw) ({ frames := 5, cells := 0, slots := 0, locals := 109 }) (sPX (dC, dI) cs [.ref p0] sz L K I J Q (fun q => q ∈ L ∨ sz ≤ q) (fun A U H => xS A U H)) (va_Qv (fun (_ : Unit) => True) (fun _ t => sB (dC, dI) cs L K Q (fun I1 => Iv L K x0 m0 tx tm I1 ∧ (∀ b, ¬ (K b = 7 ∨ K b = 28) → I1 b = I b) ∧ hJ Q I I1 p0) t) (fun q => q ∈ L ∨ sz ≤ q)) 0 0 (fun q => q ∈ L ∨ sz ≤ q) := by
  refine Met.ofW (cc := cX7_readsBody) (maxL := 3) (ret := none) (by decide +kernel) rfl ?_
  intro p e s m args below meth c s₁ B hml hv
  obtain ⟨rfl, ⟨hsz, hP, hK, hD0, hN⟩, hXs⟩ := hv
  have hx := B.exec
  have hb := B.bytes
  have hr := B.returns
  have hts := fun w (h : w ∈ pw) => atoms_spec (ws := Cond.code yX7_readsBody cX7_readsBody 3 none :: pw) B.pre w (List.mem_cons_of_mem _ h)
  have hown : s.vm.findClass RX7 = some m.cls := findClass_of_methodNamed B.named
  have hlocks := B.notSynchronized
  subst hsz
  have hBB : 999 ≤ tm.2 ∧ tm.2 ≤ 6000000 := hI.2.2.2.2
  have hk_I : hHK Q I I p0 := hK_refl ho
  have fr_I : ∀ b, ¬ (K b = 7 ∨ K b = 28) → I b = I b := fun _ _ => rfl
  obtain ⟨A, hAe⟩ : ∃ A : Nat → Prop, A = (fun q => q ∈ L ∨ s.heap.size ≤ q) := ⟨_, rfl⟩
  rw [← hAe]
  have hAL : ∀ q, q ∈ L → A q := fun q h => by rw [hAe]; exact Or.inl h
  have hA : ∀ q, s.heap.size ≤ q → A q := fun q h => by rw [hAe]; exact Or.inr h
  have hD : ∀ F, va_D A (va_pl L F) := fun F => (hD0 F).weaken (fun k q hk _ => hAL _ (pl_mem hk))
  rw [← hAe] at hXs
  have hxx := hXs
  have hxt := hxx.1
  obtain ⟨H, hHe⟩ : ∃ H : Heap, H = s.heap := ⟨_, rfl⟩
  have hS : va_S A s.heap H [] := by rw [hHe]; exact va_S.rf
  rw [← hHe] at hP
  have hl := lv_entry ([.ref p0]) (n := 3) (Nat.le_of_ble_eq_true rfl)
  rw [lg_entry_eq]
  generalize (lg_sl ([.ref p0]) ++ List.replicate (3 - (lg_sl ([.ref p0])).length) Slot.unset).toArray = ls at hl ⊢
  have hl : lv_has ls 3 [(0, .ref p0)] := hl
  rw [← hHe]
  refine namedW (fun R Qz hR hQz => ?_)
  refine lv_bipush (v := 19) hx hb dX7_readsBody_0 (by decide +kernel) ?_
  refine lv_bipush (v := 8) hx hb dX7_readsBody_2 (by decide +kernel) ?_
  refine lv_aload_n hx hb dX7_readsBody_4 rfl (lv_at hl 0 rfl) ?_
  obtain ⟨y5, ey5, hLy5, hKy5⟩ := oQ_7_1 (Sv_at hQ hLp0 hKp0)
  refine p_get (v := .ref y5) hx hb hts inX7 hown hK hP hLp0 hKp0 rfl rfl 1 (by decide) (hts _ pq1116) (congrArg (fun q => some (va_rf q)) ey5) dX7_readsBody_5 ?_
  refine lv_iconst (v := 1) hx hb dX7_readsBody_8 (by decide +kernel) ?_
  refine p_iald hx hb hK hP 18 hLy5 hKy5 rfl rfl (in_d (by decide +kernel)) dX7_readsBody_9 ?_
  refine lv_topi (fun z9 ez9 => ?_)
  have b9 := ho hf y5 ey5 1 (by decide)
  unfold rng at b9
  have c9 := congrArg Int32.toInt (show z9 = I y5 1 from ez9)
  have m9 : 0 ≤ z9.toInt ∧ z9.toInt ≤ 9 := by have := hn y5 ey5; exact ⟨by omega, by omega⟩
  replace b9 : Hid _ := b9
  refine lv_imul hx hb dX7_readsBody_10 ?_
  refine lv_topi (fun z10 ez10 => ?_)
  have bz10 := tq_mul (k := 8) (q := z9.toInt) ez10 (by decide +kernel) rfl (by omega) (by omega)
  refine lv_iadd hx hb dX7_readsBody_11 ?_
  refine lv_topi (fun z11 ez11 => ?_)
  have bz11 := tq_add (k := (19)) (q := z10.toInt) ez11 (by decide +kernel) rfl (by omega) (by omega)
  refine lv_istore_n (lv' := [(1, .int z11), (0, .ref p0)]) hx hb dX7_readsBody_12 rfl hl (by decide) rfl (fun ls hl => ?_)
  refine lv_aload_n hx hb dX7_readsBody_13 rfl (lv_at hl 1 rfl) ?_
  refine p_get (v := .ref y5) hx hb hts inX7 hown hK hP hLp0 hKp0 rfl rfl 1 (by decide) (hts _ pq1116) (congrArg (fun q => some (va_rf q)) ey5) dX7_readsBody_14 ?_
  refine lv_iload_n hx hb dX7_readsBody_17 rfl (lv_at hl 0 rfl) ?_
  refine lv_iconst (v := 0) hx hb dX7_readsBody_18 (by decide +kernel) ?_
  refine lv_iadd hx hb dX7_readsBody_19 ?_
  refine lv_topi (fun z19 ez19 => ?_)
  have bz19 := tq_add (k := z11.toInt) (q := (0)) ez19 rfl (by decide +kernel) (by omega) (by omega)
  refine lv_aload_n hx hb dX7_readsBody_20 rfl (lv_at hl 1 rfl) ?_
  refine lv_iconst (v := 0) hx hb dX7_readsBody_21 (by decide +kernel) ?_
  refine lv_aload_n hx hb dX7_readsBody_22 rfl (lv_at hl 1 rfl) ?_
  refine p_get (v := .ref y5) hx hb hts inX7 hown hK hP hLp0 hKp0 rfl rfl 1 (by decide) (hts _ pq1116) (congrArg (fun q => some (va_rf q)) ey5) dX7_readsBody_23 ?_
  refine lv_iconst (v := 0) hx hb dX7_readsBody_26 (by decide +kernel) ?_
  refine p_iald hx hb hK hP 18 hLy5 hKy5 rfl rfl (in_d (by decide +kernel)) dX7_readsBody_27 ?_
  refine lv_topi (fun z27 ez27 => ?_)
  have b27 := ho hf y5 ey5 0 (by decide)
  unfold rng at b27
  have c27 := congrArg Int32.toInt (show z27 = I y5 0 from ez27)
  have m27 : 0 ≤ z27.toInt ∧ z27.toInt ≤ 8 := ⟨by omega, by omega⟩
  replace b27 : Hid _ := b27
  refine lv_iconst (v := 1) hx hb dX7_readsBody_28 (by decide +kernel) ?_
  refine lv_isub hx hb dX7_readsBody_29 ?_
  refine lv_topi (fun z29 ez29 => ?_)
  have bz29 := tq_sub (k := z27.toInt) (q := 1) ez29 rfl (by decide +kernel) (by omega) (by omega)
  refine sw_ir (Z := (fun u => (fun I1 => Iv L K x0 m0 tx tm I1 ∧ (∀ b, ¬ (b = p0) → I1 b = I b) ∧ ((I p0 14).toInt ≤ (I1 p0 14).toInt ∧ ((I1 p0 15).toInt = -1 → (I p0 15).toInt = -1) ∧ ((I1 p0 15).toInt = -1 → (0 : Int32).toInt ≤ u.toInt ∧ u.toInt ≤ z29.toInt))))) (va_runV (As := [.int 0, .int z29]) (rest := [.int z19, .ref y5]) ⟨hx, hb, hml, hown, hts⟩ (s_X7_number l dC dI cs L K G Q hQ x0 m0 tx tm H.size I J hI p0 hLp0 hKp0 0 z29) (cwV 2 hts (gV pq1262 pq1264 pq18 pq81 pq1265) rfl rfl rfl (by decide +kernel) ⟨(by rw [hR]; exact (Nat.le_of_ble_eq_true rfl)), (by rw [hR]; exact (Nat.le_of_ble_eq_true rfl))⟩) (sP_V hP hD hK hN hLp0 hKp0 rfl rfl) rfl rfl hl.1 rfl (lv_room (Nat.le_of_ble_eq_true rfl)) dX7_readsBody_30 ⟨(by rw [hR]; exact (Nat.le_of_ble_eq_true rfl)), (by rw [hR]; exact (Nat.le_of_ble_eq_true rfl))⟩) hS hAL hA (fun z30 Iz30 Jz30 H locs hz30 hIz30 hP hS => ?_)
  obtain ⟨hIz30, frc30, zr30⟩ := hIz30
  replace zr30 : Hid _ := zr30
  have hk_Iz30 := hK_call hQ hLp0 hKp0 frc30 zr30.1 zr30.2.1 hk_I
  have fr_Iz30 : ∀ b, ¬ (K b = 7 ∨ K b = 28) → Iz30 b = I b := fun b q => (frc30 b (fun z => q (by rw [z]; have := hKp0; omega))).trans (fr_I b q)
  have cst30_0 : (0 : Int32).toInt = 0 := by decide +kernel
  have bz30 := hz30
  refine p_iast hx hb hK hP hD hS 18 hLy5 hKy5 rfl (fun _ => rfl) rfl (in_of (by omega) (by omega)) dX7_readsBody_33 (fun H locs hP hS => ?_)
  obtain ⟨Iz33, hP, hIz33, qIz33⟩ : ∃ Iz33, va_P (dC, dI) vwCl (Wd cs L K Iz33 Jz30 Q) H ∧ Iv L K x0 m0 tx tm Iz33 ∧ Iz33 = va_up Iz30 y5 (upd (Iz30 y5) z19.toNatClampNeg z30) := ⟨_, hP, Iv_put hIz30 hKy5 (show okI _ 28 _ from trivial) (Or.inl (by decide)) (Or.inl (by decide)), rfl⟩
  have hk_Iz33 := hK_put hQ hLp0 hKp0 ey5 qIz33 ⟨by omega, fun h => by have q := zr30.2.2 h; unfold rng; omega⟩ hk_Iz30
  have fr_Iz33 : ∀ b, ¬ (K b = 7 ∨ K b = 28) → Iz33 b = I b := fun b q => (congrFun qIz33 b).trans ((va_up_ne _ _ (fun z => q (by rw [z]; have := hKy5; omega))).trans (fr_Iz30 b q))
  refine lv_aload_n hx hb dX7_readsBody_34 rfl (lv_at hl 1 rfl) ?_
  refine p_get (v := .ref y5) hx hb hts inX7 hown hK hP hLp0 hKp0 rfl rfl 1 (by decide) (hts _ pq1116) (congrArg (fun q => some (va_rf q)) ey5) dX7_readsBody_35 ?_
  refine lv_iload_n hx hb dX7_readsBody_38 rfl (lv_at hl 0 rfl) ?_
  refine lv_iconst (v := 1) hx hb dX7_readsBody_39 (by decide +kernel) ?_
  refine lv_iadd hx hb dX7_readsBody_40 ?_
  refine lv_topi (fun z40 ez40 => ?_)
  have bz40 := tq_add (k := z11.toInt) (q := (1)) ez40 rfl (by decide +kernel) (by omega) (by omega)
  refine lv_aload_n hx hb dX7_readsBody_41 rfl (lv_at hl 1 rfl) ?_
  refine lv_sipush (v := 999) hx hb dX7_readsBody_42 (by decide +kernel) ?_
  refine sw_ir (Z := (fun u => (fun I1 => Iv L K x0 m0 tx tm I1 ∧ (∀ b, ¬ (b = p0) → I1 b = Iz33 b) ∧ ((Iz33 p0 14).toInt ≤ (I1 p0 14).toInt ∧ ((I1 p0 15).toInt = -1 → (Iz33 p0 15).toInt = -1) ∧ ((I1 p0 15).toInt = -1 → -(999 : Int32).toInt ≤ u.toInt ∧ u.toInt ≤ (999 : Int32).toInt))))) (va_runV (As := [.int 999]) (rest := [.int z40, .ref y5]) ⟨hx, hb, hml, hown, hts⟩ (s_X7_signed l dC dI cs L K G Q hQ x0 m0 tx tm H.size Iz33 Jz30 hIz33 p0 hLp0 hKp0 999 ⟨by decide +kernel, by decide +kernel⟩) (cwV 1 hts (gV pq1284 pq1286 pq22 pq81 pq1287) rfl rfl rfl (by decide +kernel) ⟨(by rw [hR]; exact (Nat.le_of_ble_eq_true rfl)), (by rw [hR]; exact (Nat.le_of_ble_eq_true rfl))⟩) (sP_V hP hD hK hN hLp0 hKp0 rfl rfl) rfl rfl hl.1 rfl (lv_room (Nat.le_of_ble_eq_true rfl)) dX7_readsBody_45 ⟨(by rw [hR]; exact (Nat.le_of_ble_eq_true rfl)), (by rw [hR]; exact (Nat.le_of_ble_eq_true rfl))⟩) hS hAL hA (fun z45 Iz45 Jz45 H locs hz45 hIz45 hP hS => ?_)
  obtain ⟨hIz45, frc45, zr45⟩ := hIz45
  replace zr45 : Hid _ := zr45
  have hk_Iz45 := hK_call hQ hLp0 hKp0 frc45 zr45.1 zr45.2.1 hk_Iz33
  have fr_Iz45 : ∀ b, ¬ (K b = 7 ∨ K b = 28) → Iz45 b = I b := fun b q => (frc45 b (fun z => q (by rw [z]; have := hKp0; omega))).trans (fr_Iz33 b q)
  have cst45_999 : (999 : Int32).toInt = 999 := by decide +kernel
  have bz45 := hz45
  refine p_iast hx hb hK hP hD hS 18 hLy5 hKy5 rfl (fun _ => rfl) rfl (in_of (by omega) (by omega)) dX7_readsBody_48 (fun H locs hP hS => ?_)
  obtain ⟨Iz48, hP, hIz48, qIz48⟩ : ∃ Iz48, va_P (dC, dI) vwCl (Wd cs L K Iz48 Jz45 Q) H ∧ Iv L K x0 m0 tx tm Iz48 ∧ Iz48 = va_up Iz45 y5 (upd (Iz45 y5) z40.toNatClampNeg z45) := ⟨_, hP, Iv_put hIz45 hKy5 (show okI _ 28 _ from trivial) (Or.inl (by decide)) (Or.inl (by decide)), rfl⟩
  have hk_Iz48 := hK_put hQ hLp0 hKp0 ey5 qIz48 ⟨by omega, fun h => by have q := zr45.2.2 h; unfold rng; omega⟩ hk_Iz45
  have fr_Iz48 : ∀ b, ¬ (K b = 7 ∨ K b = 28) → Iz48 b = I b := fun b q => (congrFun qIz48 b).trans ((va_up_ne _ _ (fun z => q (by rw [z]; have := hKy5; omega))).trans (fr_Iz45 b q))
  refine lv_aload_n hx hb dX7_readsBody_49 rfl (lv_at hl 1 rfl) ?_
  refine p_get (v := .ref y5) hx hb hts inX7 hown hK hP hLp0 hKp0 rfl rfl 1 (by decide) (hts _ pq1116) (congrArg (fun q => some (va_rf q)) ey5) dX7_readsBody_50 ?_
  refine lv_iload_n hx hb dX7_readsBody_53 rfl (lv_at hl 0 rfl) ?_
  refine lv_iconst (v := 2) hx hb dX7_readsBody_54 (by decide +kernel) ?_
  refine lv_iadd hx hb dX7_readsBody_55 ?_
  refine lv_topi (fun z55 ez55 => ?_)
  have bz55 := tq_add (k := z11.toInt) (q := (2)) ez55 rfl (by decide +kernel) (by omega) (by omega)
  refine lv_aload_n hx hb dX7_readsBody_56 rfl (lv_at hl 1 rfl) ?_
  refine lv_sipush (v := 999) hx hb dX7_readsBody_57 (by decide +kernel) ?_
  refine sw_ir (Z := (fun u => (fun I1 => Iv L K x0 m0 tx tm I1 ∧ (∀ b, ¬ (b = p0) → I1 b = Iz48 b) ∧ ((Iz48 p0 14).toInt ≤ (I1 p0 14).toInt ∧ ((I1 p0 15).toInt = -1 → (Iz48 p0 15).toInt = -1) ∧ ((I1 p0 15).toInt = -1 → -(999 : Int32).toInt ≤ u.toInt ∧ u.toInt ≤ (999 : Int32).toInt))))) (va_runV (As := [.int 999]) (rest := [.int z55, .ref y5]) ⟨hx, hb, hml, hown, hts⟩ (s_X7_signed l dC dI cs L K G Q hQ x0 m0 tx tm H.size Iz48 Jz45 hIz48 p0 hLp0 hKp0 999 ⟨by decide +kernel, by decide +kernel⟩) (cwV 1 hts (gV pq1284 pq1286 pq22 pq81 pq1287) rfl rfl rfl (by decide +kernel) ⟨(by rw [hR]; exact (Nat.le_of_ble_eq_true rfl)), (by rw [hR]; exact (Nat.le_of_ble_eq_true rfl))⟩) (sP_V hP hD hK hN hLp0 hKp0 rfl rfl) rfl rfl hl.1 rfl (lv_room (Nat.le_of_ble_eq_true rfl)) dX7_readsBody_60 ⟨(by rw [hR]; exact (Nat.le_of_ble_eq_true rfl)), (by rw [hR]; exact (Nat.le_of_ble_eq_true rfl))⟩) hS hAL hA (fun z60 Iz60 Jz60 H locs hz60 hIz60 hP hS => ?_)
  obtain ⟨hIz60, frc60, zr60⟩ := hIz60
  replace zr60 : Hid _ := zr60
  have hk_Iz60 := hK_call hQ hLp0 hKp0 frc60 zr60.1 zr60.2.1 hk_Iz48
  have fr_Iz60 : ∀ b, ¬ (K b = 7 ∨ K b = 28) → Iz60 b = I b := fun b q => (frc60 b (fun z => q (by rw [z]; have := hKp0; omega))).trans (fr_Iz48 b q)
  have cst60_999 : (999 : Int32).toInt = 999 := by decide +kernel
  have bz60 := hz60
  refine p_iast hx hb hK hP hD hS 18 hLy5 hKy5 rfl (fun _ => rfl) rfl (in_of (by omega) (by omega)) dX7_readsBody_63 (fun H locs hP hS => ?_)
  obtain ⟨Iz63, hP, hIz63, qIz63⟩ : ∃ Iz63, va_P (dC, dI) vwCl (Wd cs L K Iz63 Jz60 Q) H ∧ Iv L K x0 m0 tx tm Iz63 ∧ Iz63 = va_up Iz60 y5 (upd (Iz60 y5) z55.toNatClampNeg z60) := ⟨_, hP, Iv_put hIz60 hKy5 (show okI _ 28 _ from trivial) (Or.inl (by decide)) (Or.inl (by decide)), rfl⟩
  have hk_Iz63 := hK_put hQ hLp0 hKp0 ey5 qIz63 ⟨by omega, fun h => by have q := zr60.2.2 h; unfold rng; omega⟩ hk_Iz60
  have fr_Iz63 : ∀ b, ¬ (K b = 7 ∨ K b = 28) → Iz63 b = I b := fun b q => (congrFun qIz63 b).trans ((va_up_ne _ _ (fun z => q (by rw [z]; have := hKy5; omega))).trans (fr_Iz60 b q))
  refine lv_aload_n hx hb dX7_readsBody_64 rfl (lv_at hl 1 rfl) ?_
  refine p_get (v := .ref y5) hx hb hts inX7 hown hK hP hLp0 hKp0 rfl rfl 1 (by decide) (hts _ pq1116) (congrArg (fun q => some (va_rf q)) ey5) dX7_readsBody_65 ?_
  refine lv_iload_n hx hb dX7_readsBody_68 rfl (lv_at hl 0 rfl) ?_
  refine lv_iconst (v := 3) hx hb dX7_readsBody_69 (by decide +kernel) ?_
  refine lv_iadd hx hb dX7_readsBody_70 ?_
  refine lv_topi (fun z70 ez70 => ?_)
  have bz70 := tq_add (k := z11.toInt) (q := (3)) ez70 rfl (by decide +kernel) (by omega) (by omega)
  refine lv_aload_n hx hb dX7_readsBody_71 rfl (lv_at hl 1 rfl) ?_
  refine ro_i (va_runV (As := []) (rest := [.int z70, .ref y5]) ⟨hx, hb, hml, hown, hts⟩ (s_X7_isRight l dC dI cs L K G Q hQ x0 m0 tx tm H.size Iz63 Jz60 hIz63 p0 hLp0 hKp0) (cwV 0 hts (gV pq1219 pq1221 pq12 pq81 pq1222) rfl rfl rfl (by decide +kernel) ⟨(by rw [hR]; exact (Nat.le_of_ble_eq_true rfl)), (by rw [hR]; exact (Nat.le_of_ble_eq_true rfl))⟩) (sP_V hP hD hK hN hLp0 hKp0 rfl rfl) rfl rfl hl.1 rfl (lv_room (Nat.le_of_ble_eq_true rfl)) dX7_readsBody_72 ⟨(by rw [hR]; exact (Nat.le_of_ble_eq_true rfl)), (by rw [hR]; exact (Nat.le_of_ble_eq_true rfl))⟩) hS hP (fun z72 H locs hz72 hP hS => ?_)
  obtain ⟨bz72, xpz72⟩ := hz72
  replace xpz72 : Hid _ := xpz72
  have j97 : ∀ (w97_2 : Int32) (I97 : Nat → Nat → Int32) (J97 : Nat → Nat → Int64) (H : Heap) (lo : List Loc) (ls : Array Slot), ((0) ≤ w97_2.toInt ∧ w97_2.toInt ≤ 100000) → Iv L K x0 m0 tx tm I97 → (∀ b, ¬ (K b = 7 ∨ K b = 28) → I97 b = I b) → hHK Q I I97 p0 → va_P (dC, dI) vwCl (Wd cs L K I97 J97 Q) H → va_S A s.heap H lo → lv_has ls 3 [(0, .ref p0), (1, .int z11)] → W p l e R s m (([.ref p0] : List Value).toArray) below meth c H lo 0 0 Qz (F0 m 97 ls [.int w97_2, .int z70, .ref y5]) := by
    intro w97_2 I97 J97 H lo ls bw97_2 hI97 fr_I97 hk_I97 hP hS hl
    refine p_iast hx hb hK hP hD hS 18 hLy5 hKy5 rfl (fun _ => rfl) rfl (in_of (by omega) (by omega)) dX7_readsBody_97 (fun H locs hP hS => ?_)
    obtain ⟨Iz97, hP, hIz97, qIz97⟩ : ∃ Iz97, va_P (dC, dI) vwCl (Wd cs L K Iz97 J97 Q) H ∧ Iv L K x0 m0 tx tm Iz97 ∧ Iz97 = va_up I97 y5 (upd (I97 y5) z70.toNatClampNeg w97_2) := ⟨_, hP, Iv_put hI97 hKy5 (show okI _ 28 _ from trivial) (Or.inl (by decide)) (Or.inl (by decide)), rfl⟩
    have hk_Iz97 := hK_put hQ hLp0 hKp0 ey5 qIz97 ⟨by omega, fun _ => by unfold rng; omega⟩ hk_I97
    have fr_Iz97 : ∀ b, ¬ (K b = 7 ∨ K b = 28) → Iz97 b = I b := fun b q => (congrFun qIz97 b).trans ((va_up_ne _ _ (fun z => q (by rw [z]; have := hKy5; omega))).trans (fr_I97 b q))
    refine lv_aload_n hx hb dX7_readsBody_98 rfl (lv_at hl 0 rfl) ?_
    refine ro_i (va_runV (As := []) (rest := []) ⟨hx, hb, hml, hown, hts⟩ (s_X7_isRight l dC dI cs L K G Q hQ x0 m0 tx tm H.size Iz97 J97 hIz97 p0 hLp0 hKp0) (cwV 0 hts (gV pq1219 pq1221 pq12 pq81 pq1222) rfl rfl rfl (by decide +kernel) ⟨(by rw [hR]; exact (Nat.le_of_ble_eq_true rfl)), (by rw [hR]; exact (Nat.le_of_ble_eq_true rfl))⟩) (sP_V hP hD hK hN hLp0 hKp0 rfl rfl) rfl rfl hl.1 rfl (lv_room (Nat.le_of_ble_eq_true rfl)) dX7_readsBody_99 ⟨(by rw [hR]; exact (Nat.le_of_ble_eq_true rfl)), (by rw [hR]; exact (Nat.le_of_ble_eq_true rfl))⟩) hS hP (fun z99 H locs hz99 hP hS => ?_)
    obtain ⟨bz99, xpz99⟩ := hz99
    replace xpz99 : Hid _ := xpz99
    have j119 : ∀ (w119_0 : Int32) (I119 : Nat → Nat → Int32) (J119 : Nat → Nat → Int64) (H : Heap) (lo : List Loc) (ls : Array Slot), ((0) ≤ w119_0.toInt ∧ w119_0.toInt ≤ 1) → Iv L K x0 m0 tx tm I119 → (∀ b, ¬ (K b = 7 ∨ K b = 28) → I119 b = I b) → hHK Q I I119 p0 → va_P (dC, dI) vwCl (Wd cs L K I119 J119 Q) H → va_S A s.heap H lo → lv_has ls 3 [(0, .ref p0), (1, .int z11)] → W p l e R s m (([.ref p0] : List Value).toArray) below meth c H lo 0 0 Qz (F0 m 119 ls [.int w119_0]) := by
      intro w119_0 I119 J119 H lo ls bw119_0 hI119 fr_I119 hk_I119 hP hS hl
      refine lv_istore_n (lv' := [(2, .int w119_0), (0, .ref p0), (1, .int z11)]) hx hb dX7_readsBody_119 rfl hl (by decide) rfl (fun ls hl => ?_)
      refine lv_aload_n hx hb dX7_readsBody_120 rfl (lv_at hl 1 rfl) ?_
      refine p_get (v := .ref y5) hx hb hts inX7 hown hK hP hLp0 hKp0 rfl rfl 1 (by decide) (hts _ pq1116) (congrArg (fun q => some (va_rf q)) ey5) dX7_readsBody_121 ?_
      refine lv_iload_n hx hb dX7_readsBody_124 rfl (lv_at hl 2 rfl) ?_
      refine lv_iconst (v := 4) hx hb dX7_readsBody_125 (by decide +kernel) ?_
      refine lv_iadd hx hb dX7_readsBody_126 ?_
      refine lv_topi (fun z126 ez126 => ?_)
      have bz126 := tq_add (k := z11.toInt) (q := (4)) ez126 rfl (by decide +kernel) (by omega) (by omega)
      refine lv_iload_n hx hb dX7_readsBody_127 rfl (lv_at hl 0 rfl) ?_
      have j142 : ∀ (w142_2 : Int32) (I142 : Nat → Nat → Int32) (J142 : Nat → Nat → Int64) (H : Heap) (lo : List Loc) (ls : Array Slot), ((0) ≤ w142_2.toInt ∧ w142_2.toInt ≤ 100000) → Iv L K x0 m0 tx tm I142 → (∀ b, ¬ (K b = 7 ∨ K b = 28) → I142 b = I b) → hHK Q I I142 p0 → va_P (dC, dI) vwCl (Wd cs L K I142 J142 Q) H → va_S A s.heap H lo → lv_has ls 3 [(0, .ref p0), (1, .int z11), (2, .int w119_0)] → W p l e R s m (([.ref p0] : List Value).toArray) below meth c H lo 0 0 Qz (F0 m 142 ls [.int w142_2, .int z126, .ref y5]) := by
        intro w142_2 I142 J142 H lo ls bw142_2 hI142 fr_I142 hk_I142 hP hS hl
        refine p_iast hx hb hK hP hD hS 18 hLy5 hKy5 rfl (fun _ => rfl) rfl (in_of (by omega) (by omega)) dX7_readsBody_142 (fun H locs hP hS => ?_)
        obtain ⟨Iz142, hP, hIz142, qIz142⟩ : ∃ Iz142, va_P (dC, dI) vwCl (Wd cs L K Iz142 J142 Q) H ∧ Iv L K x0 m0 tx tm Iz142 ∧ Iz142 = va_up I142 y5 (upd (I142 y5) z126.toNatClampNeg w142_2) := ⟨_, hP, Iv_put hI142 hKy5 (show okI _ 28 _ from trivial) (Or.inl (by decide)) (Or.inl (by decide)), rfl⟩
        have hk_Iz142 := hK_put hQ hLp0 hKp0 ey5 qIz142 ⟨by omega, fun _ => by unfold rng; omega⟩ hk_I142
        have fr_Iz142 : ∀ b, ¬ (K b = 7 ∨ K b = 28) → Iz142 b = I b := fun b q => (congrFun qIz142 b).trans ((va_up_ne _ _ (fun z => q (by rw [z]; have := hKy5; omega))).trans (fr_I142 b q))
        refine lv_aload_n hx hb dX7_readsBody_143 rfl (lv_at hl 0 rfl) ?_
        refine p_get (v := .ref y5) hx hb hts inX7 hown hK hP hLp0 hKp0 rfl rfl 1 (by decide) (hts _ pq1116) (congrArg (fun q => some (va_rf q)) ey5) dX7_readsBody_144 ?_
        refine lv_iload_n hx hb dX7_readsBody_147 rfl (lv_at hl 1 rfl) ?_
        refine lv_iconst (v := 5) hx hb dX7_readsBody_148 (by decide +kernel) ?_
        refine lv_iadd hx hb dX7_readsBody_149 ?_
        refine lv_topi (fun z149 ez149 => ?_)
        have bz149 := tq_add (k := z11.toInt) (q := (5)) ez149 rfl (by decide +kernel) (by omega) (by omega)
        refine lv_iload_n hx hb dX7_readsBody_150 rfl (lv_at hl 2 rfl) ?_
        have j165 : ∀ (w165_2 : Int32) (I165 : Nat → Nat → Int32) (J165 : Nat → Nat → Int64) (H : Heap) (lo : List Loc) (ls : Array Slot), ((0) ≤ w165_2.toInt ∧ w165_2.toInt ≤ 100000) → Iv L K x0 m0 tx tm I165 → (∀ b, ¬ (K b = 7 ∨ K b = 28) → I165 b = I b) → hHK Q I I165 p0 → va_P (dC, dI) vwCl (Wd cs L K I165 J165 Q) H → va_S A s.heap H lo → lv_has ls 3 [(0, .ref p0), (1, .int z11), (2, .int w119_0)] → W p l e R s m (([.ref p0] : List Value).toArray) below meth c H lo 0 0 Qz (F0 m 165 ls [.int w165_2, .int z149, .ref y5]) := by
          intro w165_2 I165 J165 H lo ls bw165_2 hI165 fr_I165 hk_I165 hP hS hl
          refine p_iast hx hb hK hP hD hS 18 hLy5 hKy5 rfl (fun _ => rfl) rfl (in_of (by omega) (by omega)) dX7_readsBody_165 (fun H locs hP hS => ?_)
          obtain ⟨Iz165, hP, hIz165, qIz165⟩ : ∃ Iz165, va_P (dC, dI) vwCl (Wd cs L K Iz165 J165 Q) H ∧ Iv L K x0 m0 tx tm Iz165 ∧ Iz165 = va_up I165 y5 (upd (I165 y5) z149.toNatClampNeg w165_2) := ⟨_, hP, Iv_put hI165 hKy5 (show okI _ 28 _ from trivial) (Or.inl (by decide)) (Or.inl (by decide)), rfl⟩
          have hk_Iz165 := hK_put hQ hLp0 hKp0 ey5 qIz165 ⟨by omega, fun _ => by unfold rng; omega⟩ hk_I165
          have fr_Iz165 : ∀ b, ¬ (K b = 7 ∨ K b = 28) → Iz165 b = I b := fun b q => (congrFun qIz165 b).trans ((va_up_ne _ _ (fun z => q (by rw [z]; have := hKy5; omega))).trans (fr_I165 b q))
          refine lv_aload_n hx hb dX7_readsBody_166 rfl (lv_at hl 0 rfl) ?_
          refine ro_i (va_runV (As := []) (rest := []) ⟨hx, hb, hml, hown, hts⟩ (s_X7_isRight l dC dI cs L K G Q hQ x0 m0 tx tm H.size Iz165 J165 hIz165 p0 hLp0 hKp0) (cwV 0 hts (gV pq1219 pq1221 pq12 pq81 pq1222) rfl rfl rfl (by decide +kernel) ⟨(by rw [hR]; exact (Nat.le_of_ble_eq_true rfl)), (by rw [hR]; exact (Nat.le_of_ble_eq_true rfl))⟩) (sP_V hP hD hK hN hLp0 hKp0 rfl rfl) rfl rfl hl.1 rfl (lv_room (Nat.le_of_ble_eq_true rfl)) dX7_readsBody_167 ⟨(by rw [hR]; exact (Nat.le_of_ble_eq_true rfl)), (by rw [hR]; exact (Nat.le_of_ble_eq_true rfl))⟩) hS hP (fun z167 H locs hz167 hP hS => ?_)
          obtain ⟨bz167, xpz167⟩ := hz167
          replace xpz167 : Hid _ := xpz167
          have j187 : ∀ (w187_0 : Int32) (I187 : Nat → Nat → Int32) (J187 : Nat → Nat → Int64) (H : Heap) (lo : List Loc) (ls : Array Slot), ((0) ≤ w187_0.toInt ∧ w187_0.toInt ≤ 1) → Iv L K x0 m0 tx tm I187 → (∀ b, ¬ (K b = 7 ∨ K b = 28) → I187 b = I b) → hHK Q I I187 p0 → va_P (dC, dI) vwCl (Wd cs L K I187 J187 Q) H → va_S A s.heap H lo → lv_has ls 3 [(0, .ref p0), (1, .int z11), (2, .int w119_0)] → W p l e R s m (([.ref p0] : List Value).toArray) below meth c H lo 0 0 Qz (F0 m 187 ls [.int w187_0]) := by
            intro w187_0 I187 J187 H lo ls bw187_0 hI187 fr_I187 hk_I187 hP hS hl
            refine lv_istore_n (lv' := [(2, .int w187_0), (0, .ref p0), (1, .int z11)]) hx hb dX7_readsBody_187 rfl hl (by decide) rfl (fun ls hl => ?_)
            refine lv_aload_n hx hb dX7_readsBody_188 rfl (lv_at hl 1 rfl) ?_
            refine p_get (v := .ref y5) hx hb hts inX7 hown hK hP hLp0 hKp0 rfl rfl 1 (by decide) (hts _ pq1116) (congrArg (fun q => some (va_rf q)) ey5) dX7_readsBody_189 ?_
            refine lv_iload_n hx hb dX7_readsBody_192 rfl (lv_at hl 2 rfl) ?_
            refine lv_bipush (v := 6) hx hb dX7_readsBody_193 (by decide +kernel) ?_
            refine lv_iadd hx hb dX7_readsBody_195 ?_
            refine lv_topi (fun z195 ez195 => ?_)
            have bz195 := tq_add (k := z11.toInt) (q := (6)) ez195 rfl (by decide +kernel) (by omega) (by omega)
            refine lv_iload_n hx hb dX7_readsBody_196 rfl (lv_at hl 0 rfl) ?_
            have j210 : ∀ (w210_2 : Int32) (I210 : Nat → Nat → Int32) (J210 : Nat → Nat → Int64) (H : Heap) (lo : List Loc) (ls : Array Slot), ((-100000) ≤ w210_2.toInt ∧ w210_2.toInt ≤ 100000) → Iv L K x0 m0 tx tm I210 → (∀ b, ¬ (K b = 7 ∨ K b = 28) → I210 b = I b) → hHK Q I I210 p0 → Hid (((I210 p0 15).toInt = -1 → -20 ≤ w210_2.toInt ∧ w210_2.toInt ≤ 20)) → va_P (dC, dI) vwCl (Wd cs L K I210 J210 Q) H → va_S A s.heap H lo → lv_has ls 3 [(0, .ref p0), (1, .int z11), (2, .int w187_0)] → W p l e R s m (([.ref p0] : List Value).toArray) below meth c H lo 0 0 Qz (F0 m 210 ls [.int w210_2, .int z195, .ref y5]) := by
              intro w210_2 I210 J210 H lo ls bw210_2 hI210 fr_I210 hk_I210 h210 hP hS hl
              refine p_iast hx hb hK hP hD hS 18 hLy5 hKy5 rfl (fun _ => rfl) rfl (in_of (by omega) (by omega)) dX7_readsBody_210 (fun H locs hP hS => ?_)
              obtain ⟨Iz210, hP, hIz210, qIz210⟩ : ∃ Iz210, va_P (dC, dI) vwCl (Wd cs L K Iz210 J210 Q) H ∧ Iv L K x0 m0 tx tm Iz210 ∧ Iz210 = va_up I210 y5 (upd (I210 y5) z195.toNatClampNeg w210_2) := ⟨_, hP, Iv_put hI210 hKy5 (show okI _ 28 _ from trivial) (Or.inl (by decide)) (Or.inl (by decide)), rfl⟩
              have hk_Iz210 := hK_put hQ hLp0 hKp0 ey5 qIz210 ⟨by omega, fun h => by have q := h210 h; unfold rng; omega⟩ hk_I210
              have fr_Iz210 : ∀ b, ¬ (K b = 7 ∨ K b = 28) → Iz210 b = I b := fun b q => (congrFun qIz210 b).trans ((va_up_ne _ _ (fun z => q (by rw [z]; have := hKy5; omega))).trans (fr_I210 b q))
              refine lv_aload_n hx hb dX7_readsBody_211 rfl (lv_at hl 0 rfl) ?_
              refine p_get (v := .ref y5) hx hb hts inX7 hown hK hP hLp0 hKp0 rfl rfl 1 (by decide) (hts _ pq1116) (congrArg (fun q => some (va_rf q)) ey5) dX7_readsBody_212 ?_
              refine lv_iload_n hx hb dX7_readsBody_215 rfl (lv_at hl 1 rfl) ?_
              refine lv_bipush (v := 7) hx hb dX7_readsBody_216 (by decide +kernel) ?_
              refine lv_iadd hx hb dX7_readsBody_218 ?_
              refine lv_topi (fun z218 ez218 => ?_)
              have bz218 := tq_add (k := z11.toInt) (q := (7)) ez218 rfl (by decide +kernel) (by omega) (by omega)
              refine lv_iload_n hx hb dX7_readsBody_219 rfl (lv_at hl 2 rfl) ?_
              have j233 : ∀ (w233_2 : Int32) (I233 : Nat → Nat → Int32) (J233 : Nat → Nat → Int64) (H : Heap) (lo : List Loc) (ls : Array Slot), ((-100000) ≤ w233_2.toInt ∧ w233_2.toInt ≤ 100000) → Iv L K x0 m0 tx tm I233 → (∀ b, ¬ (K b = 7 ∨ K b = 28) → I233 b = I b) → hHK Q I I233 p0 → Hid (((I233 p0 15).toInt = -1 → -20 ≤ w233_2.toInt ∧ w233_2.toInt ≤ 20)) → va_P (dC, dI) vwCl (Wd cs L K I233 J233 Q) H → va_S A s.heap H lo → lv_has ls 3 [(0, .ref p0), (1, .int z11), (2, .int w187_0)] → W p l e R s m (([.ref p0] : List Value).toArray) below meth c H lo 0 0 Qz (F0 m 233 ls [.int w233_2, .int z218, .ref y5]) := by
                intro w233_2 I233 J233 H lo ls bw233_2 hI233 fr_I233 hk_I233 h233 hP hS hl
                refine p_iast hx hb hK hP hD hS 18 hLy5 hKy5 rfl (fun _ => rfl) rfl (in_of (by omega) (by omega)) dX7_readsBody_233 (fun H locs hP hS => ?_)
                obtain ⟨Iz233, hP, hIz233, qIz233⟩ : ∃ Iz233, va_P (dC, dI) vwCl (Wd cs L K Iz233 J233 Q) H ∧ Iv L K x0 m0 tx tm Iz233 ∧ Iz233 = va_up I233 y5 (upd (I233 y5) z218.toNatClampNeg w233_2) := ⟨_, hP, Iv_put hI233 hKy5 (show okI _ 28 _ from trivial) (Or.inl (by decide)) (Or.inl (by decide)), rfl⟩
                have hk_Iz233 := hK_put hQ hLp0 hKp0 ey5 qIz233 ⟨by omega, fun h => by have q := h233 h; unfold rng; omega⟩ hk_I233
                have fr_Iz233 : ∀ b, ¬ (K b = 7 ∨ K b = 28) → Iz233 b = I b := fun b q => (congrFun qIz233 b).trans ((va_up_ne _ _ (fun z => q (by rw [z]; have := hKy5; omega))).trans (fr_I233 b q))
                refine lv_aload_n hx hb dX7_readsBody_234 rfl (lv_at hl 0 rfl) ?_
                refine p_get (v := .ref y5) hx hb hts inX7 hown hK hP hLp0 hKp0 rfl rfl 1 (by decide) (hts _ pq1116) (congrArg (fun q => some (va_rf q)) ey5) dX7_readsBody_235 ?_
                refine lv_iconst (v := 1) hx hb dX7_readsBody_238 (by decide +kernel) ?_
                refine lv_dup2_11 hx hb dX7_readsBody_239 rfl rfl ?_
                refine p_iald hx hb hK hP 18 hLy5 hKy5 rfl rfl (in_d (by decide +kernel)) dX7_readsBody_240 ?_
                refine lv_topi (fun z240 ez240 => ?_)
                refine lv_aload_n hx hb dX7_readsBody_241 rfl (lv_at hl 0 rfl) ?_
                refine ro_i (va_runV (As := []) (rest := [.int z240, .int 1, .ref y5]) ⟨hx, hb, hml, hown, hts⟩ (s_X7_isRight l dC dI cs L K G Q hQ x0 m0 tx tm H.size Iz233 J233 hIz233 p0 hLp0 hKp0) (cwV 0 hts (gV pq1219 pq1221 pq12 pq81 pq1222) rfl rfl rfl (by decide +kernel) ⟨(by rw [hR]; exact (Nat.le_of_ble_eq_true rfl)), (by rw [hR]; exact (Nat.le_of_ble_eq_true rfl))⟩) (sP_V hP hD hK hN hLp0 hKp0 rfl rfl) rfl rfl hl.1 rfl (lv_room (Nat.le_of_ble_eq_true rfl)) dX7_readsBody_242 ⟨(by rw [hR]; exact (Nat.le_of_ble_eq_true rfl)), (by rw [hR]; exact (Nat.le_of_ble_eq_true rfl))⟩) hS hP (fun z242 H locs hz242 hP hS => ?_)
                obtain ⟨bz242, xpz242⟩ := hz242
                replace xpz242 : Hid _ := xpz242
                refine ro_i (va_runS (As := [.int z242]) (rest := [.int z240, .int 1, .ref y5]) ⟨hx, hb, hml, hown, hts⟩ (s_X7_truth l dC dI cs L K Q H.size Iz233 J233 z242) (va_cwS 1 hts (gS pq1257 pq1258 pq81 pq1259) rfl rfl rfl (by decide +kernel) ⟨(by rw [hR]; exact (Nat.le_of_ble_eq_true rfl)), (by rw [hR]; exact (Nat.le_of_ble_eq_true rfl))⟩) (sP_S hP hD hK hN) rfl rfl hl.1 rfl (lv_room (Nat.le_of_ble_eq_true rfl)) dX7_readsBody_245 ⟨(by rw [hR]; exact (Nat.le_of_ble_eq_true rfl)), (by rw [hR]; exact (Nat.le_of_ble_eq_true rfl))⟩) hS hP (fun z245 H locs hz245 hP hS => ?_)
                obtain ⟨bz245, xpz245⟩ := hz245
                have c240 := congrArg Int32.toInt ((show z240 = Iz233 y5 1 from ez240).trans (hk_Iz233.2.2.1 y5 ey5).2)
                have m240 : 0 ≤ z240.toInt ∧ z240.toInt ≤ 9 := by omega
                refine lv_iadd hx hb dX7_readsBody_248 ?_
                refine lv_topi (fun z248 ez248 => ?_)
                have bz248 := tq_add (k := z240.toInt) (q := z245.toInt) ez248 rfl rfl (by omega) (by omega)
                refine p_iast hx hb hK hP hD hS 18 hLy5 hKy5 rfl (fun _ => rfl) rfl (in_d (by decide +kernel)) dX7_readsBody_249 (fun H locs hP hS => ?_)
                obtain ⟨Iz249, hP, hIz249, qIz249⟩ : ∃ Iz249, va_P (dC, dI) vwCl (Wd cs L K Iz249 J233 Q) H ∧ Iv L K x0 m0 tx tm Iz249 ∧ Iz249 = va_up Iz233 y5 (upd (Iz233 y5) (1 : Int32).toNatClampNeg z248) := ⟨_, hP, Iv_put hIz233 hKy5 (show okI _ 28 _ from trivial) (Or.inl (by decide)) (Or.inl (by decide)), rfl⟩
                have fr_Iz249 : ∀ b, ¬ (K b = 7 ∨ K b = 28) → Iz249 b = I b := fun b q => (congrFun qIz249 b).trans ((va_up_ne _ _ (fun z => q (by rw [z]; have := hKy5; omega))).trans (fr_Iz233 b q))
                subst hR; subst hQz
                exact W.vret hx hb hr (fun t ht hW => ⟨⟨(), rfl, trivial, ⟨Iz249, J233, ⟨hIz249, fr_Iz249, (hJ_put hQ hLp0 hKp0 ey5 qIz249 (fun _ => by rw [show (1 : Int32).toInt.toNat = 1 from rfl]; unfold rng; omega) hk_Iz233)⟩, by rw [ht]; exact hP⟩⟩, hS.F ht⟩) hS.2.2 dX7_readsBody_250
              refine lv_if_eq (tgt := 232) hx hb dX7_readsBody_220 (by decide) (fun c220 => ?_) (fun c220 => ?_)
              · have t220 := tq_eq (k := w187_0.toInt) (q := (0)) c220 rfl (by decide +kernel)
                refine lv_iconst (v := 0) hx hb dX7_readsBody_232 (by decide +kernel) ?_
                exact j233 0 Iz210 J210 _ _ _ ⟨by decide +kernel, by decide +kernel⟩ hIz210 fr_Iz210 hk_Iz210 (fun _ => ⟨by decide +kernel, by decide +kernel⟩) hP hS (lv_sub hl [0, 1, 2] rfl)
              · have t220 := tq_ne (k := w187_0.toInt) (q := (0)) c220 rfl (by decide +kernel)
                refine lv_aload_n hx hb dX7_readsBody_223 rfl (lv_at hl 0 rfl) ?_
                refine lv_bipush (v := 20) hx hb dX7_readsBody_224 (by decide +kernel) ?_
                refine sw_ir (Z := (fun u => (fun I1 => Iv L K x0 m0 tx tm I1 ∧ (∀ b, ¬ (b = p0) → I1 b = Iz210 b) ∧ ((Iz210 p0 14).toInt ≤ (I1 p0 14).toInt ∧ ((I1 p0 15).toInt = -1 → (Iz210 p0 15).toInt = -1) ∧ ((I1 p0 15).toInt = -1 → -(20 : Int32).toInt ≤ u.toInt ∧ u.toInt ≤ (20 : Int32).toInt))))) (va_runV (As := [.int 20]) (rest := [.int z218, .ref y5]) ⟨hx, hb, hml, hown, hts⟩ (s_X7_signed l dC dI cs L K G Q hQ x0 m0 tx tm H.size Iz210 J210 hIz210 p0 hLp0 hKp0 20 ⟨by decide +kernel, by decide +kernel⟩) (cwV 1 hts (gV pq1284 pq1286 pq22 pq81 pq1287) rfl rfl rfl (by decide +kernel) ⟨(by rw [hR]; exact (Nat.le_of_ble_eq_true rfl)), (by rw [hR]; exact (Nat.le_of_ble_eq_true rfl))⟩) (sP_V hP hD hK hN hLp0 hKp0 rfl rfl) rfl rfl hl.1 rfl (lv_room (Nat.le_of_ble_eq_true rfl)) dX7_readsBody_226 ⟨(by rw [hR]; exact (Nat.le_of_ble_eq_true rfl)), (by rw [hR]; exact (Nat.le_of_ble_eq_true rfl))⟩) hS hAL hA (fun z226 Iz226 Jz226 H locs hz226 hIz226 hP hS => ?_)
                obtain ⟨hIz226, frc226, zr226⟩ := hIz226
                replace zr226 : Hid _ := zr226
                have hk_Iz226 := hK_call hQ hLp0 hKp0 frc226 zr226.1 zr226.2.1 hk_Iz210
                have fr_Iz226 : ∀ b, ¬ (K b = 7 ∨ K b = 28) → Iz226 b = I b := fun b q => (frc226 b (fun z => q (by rw [z]; have := hKp0; omega))).trans (fr_Iz210 b q)
                have cst226_20 : (20 : Int32).toInt = 20 := by decide +kernel
                have bz226 := hz226
                refine lv_goto (tgt := 233) hx hb dX7_readsBody_229 (by decide) ?_
                exact j233 z226 Iz226 Jz226 _ _ _ ⟨by omega, by omega⟩ hIz226 fr_Iz226 hk_Iz226 (fun h => by have := zr226.2.2 h; exact ⟨by omega, by omega⟩) hP hS (lv_sub hl [0, 1, 2] rfl)
            refine lv_if_eq (tgt := 209) hx hb dX7_readsBody_197 (by decide) (fun c197 => ?_) (fun c197 => ?_)
            · have t197 := tq_eq (k := w187_0.toInt) (q := (0)) c197 rfl (by decide +kernel)
              refine lv_iconst (v := 0) hx hb dX7_readsBody_209 (by decide +kernel) ?_
              exact j210 0 I187 J187 _ _ _ ⟨by decide +kernel, by decide +kernel⟩ hI187 fr_I187 hk_I187 (fun _ => ⟨by decide +kernel, by decide +kernel⟩) hP hS (lv_sub hl [1, 2, 0] rfl)
            · have t197 := tq_ne (k := w187_0.toInt) (q := (0)) c197 rfl (by decide +kernel)
              refine lv_aload_n hx hb dX7_readsBody_200 rfl (lv_at hl 1 rfl) ?_
              refine lv_bipush (v := 20) hx hb dX7_readsBody_201 (by decide +kernel) ?_
              refine sw_ir (Z := (fun u => (fun I1 => Iv L K x0 m0 tx tm I1 ∧ (∀ b, ¬ (b = p0) → I1 b = I187 b) ∧ ((I187 p0 14).toInt ≤ (I1 p0 14).toInt ∧ ((I1 p0 15).toInt = -1 → (I187 p0 15).toInt = -1) ∧ ((I1 p0 15).toInt = -1 → -(20 : Int32).toInt ≤ u.toInt ∧ u.toInt ≤ (20 : Int32).toInt))))) (va_runV (As := [.int 20]) (rest := [.int z195, .ref y5]) ⟨hx, hb, hml, hown, hts⟩ (s_X7_signed l dC dI cs L K G Q hQ x0 m0 tx tm H.size I187 J187 hI187 p0 hLp0 hKp0 20 ⟨by decide +kernel, by decide +kernel⟩) (cwV 1 hts (gV pq1284 pq1286 pq22 pq81 pq1287) rfl rfl rfl (by decide +kernel) ⟨(by rw [hR]; exact (Nat.le_of_ble_eq_true rfl)), (by rw [hR]; exact (Nat.le_of_ble_eq_true rfl))⟩) (sP_V hP hD hK hN hLp0 hKp0 rfl rfl) rfl rfl hl.1 rfl (lv_room (Nat.le_of_ble_eq_true rfl)) dX7_readsBody_203 ⟨(by rw [hR]; exact (Nat.le_of_ble_eq_true rfl)), (by rw [hR]; exact (Nat.le_of_ble_eq_true rfl))⟩) hS hAL hA (fun z203 Iz203 Jz203 H locs hz203 hIz203 hP hS => ?_)
              obtain ⟨hIz203, frc203, zr203⟩ := hIz203
              replace zr203 : Hid _ := zr203
              have hk_Iz203 := hK_call hQ hLp0 hKp0 frc203 zr203.1 zr203.2.1 hk_I187
              have fr_Iz203 : ∀ b, ¬ (K b = 7 ∨ K b = 28) → Iz203 b = I b := fun b q => (frc203 b (fun z => q (by rw [z]; have := hKp0; omega))).trans (fr_I187 b q)
              have cst203_20 : (20 : Int32).toInt = 20 := by decide +kernel
              have bz203 := hz203
              refine lv_goto (tgt := 210) hx hb dX7_readsBody_206 (by decide) ?_
              exact j210 z203 Iz203 Jz203 _ _ _ ⟨by omega, by omega⟩ hIz203 fr_Iz203 hk_Iz203 (fun h => by have := zr203.2.2 h; exact ⟨by omega, by omega⟩) hP hS (lv_sub hl [1, 2, 0] rfl)
          have j186 : ∀ (I186 : Nat → Nat → Int32) (J186 : Nat → Nat → Int64) (H : Heap) (lo : List Loc) (ls : Array Slot), Iv L K x0 m0 tx tm I186 → (∀ b, ¬ (K b = 7 ∨ K b = 28) → I186 b = I b) → hHK Q I I186 p0 → va_P (dC, dI) vwCl (Wd cs L K I186 J186 Q) H → va_S A s.heap H lo → lv_has ls 3 [(0, .ref p0), (1, .int z11), (2, .int w119_0)] → W p l e R s m (([.ref p0] : List Value).toArray) below meth c H lo 0 0 Qz (F0 m 186 ls []) := by
            intro I186 J186 H lo ls hI186 fr_I186 hk_I186 hP hS hl
            refine lv_iconst (v := 0) hx hb dX7_readsBody_186 (by decide +kernel) ?_
            exact j187 0 I186 J186 _ _ _ ⟨by decide +kernel, by decide +kernel⟩ hI186 fr_I186 hk_I186 hP hS (lv_sub hl [0, 1, 2] rfl)
          refine lv_if_eq (tgt := 186) hx hb dX7_readsBody_170 (by decide) (fun c170 => ?_) (fun c170 => ?_)
          · have t170 := tq_eq (k := z167.toInt) (q := (0)) c170 rfl (by decide +kernel)
            exact j186 Iz165 J165 _ _ _ hIz165 fr_Iz165 hk_Iz165 hP hS (lv_sub hl [0, 1, 2] rfl)
          · have t170 := tq_ne (k := z167.toInt) (q := (0)) c170 rfl (by decide +kernel)
            refine lv_aload_n hx hb dX7_readsBody_173 rfl (lv_at hl 0 rfl) ?_
            obtain ⟨y174, hv174, hx_y174⟩ := hxx.2 (RX7, 169, "moves", 5) (by simp [lits])
            dsimp only at hv174 hx_y174
            refine va_ldcS hx hb hown hv174 dX7_readsBody_174 ?_
            refine sw_ir (Z := (fun u => (fun I1 => Iv L K x0 m0 tx tm I1 ∧ (∀ b, ¬ (b = p0) → I1 b = Iz165 b) ∧ ((Iz165 p0 14).toInt ≤ (I1 p0 14).toInt ∧ ((I1 p0 15).toInt = -1 → (Iz165 p0 15).toInt = -1) ∧ (∀ k, ¬ k = 14 → I1 p0 k = Iz165 p0 k) ∧ (¬ u.toInt = 0 → ((5 : Nat) : Int) ≤ (I1 p0 14).toInt))))) (va_runV (As := [.ref y174]) (rest := []) ⟨hx, hb, hml, hown, hts⟩ (s_X7_takes l dC dI cs L K G Q hQ x0 m0 tx tm H.size Iz165 J165 hIz165 p0 hLp0 hKp0 y174 5) (cwV 1 hts (gV pq1228 pq1230 pq14 pq81 pq1231) rfl rfl rfl (by decide +kernel) ⟨(by rw [hR]; exact (Nat.le_of_ble_eq_true rfl)), (by rw [hR]; exact (Nat.le_of_ble_eq_true rfl))⟩) (sPX_V hP hD hK hN hLp0 hKp0 rfl rfl (gX_and (gX_s _ _) gX_t) hS ⟨hx_y174, hxt⟩ (fun q h => h.elim (hAL q) (fun h => hA q (Nat.le_trans hS.1 h)))) rfl rfl hl.1 rfl (lv_room (Nat.le_of_ble_eq_true rfl)) dX7_readsBody_176 ⟨(by rw [hR]; exact (Nat.le_of_ble_eq_true rfl)), (by rw [hR]; exact (Nat.le_of_ble_eq_true rfl))⟩) hS hAL hA (fun z176 Iz176 Jz176 H locs hz176 hIz176 hP hS => ?_)
            obtain ⟨hIz176, frc176, zr176⟩ := hIz176
            replace zr176 : Hid _ := zr176
            have hk_Iz176 := hK_call hQ hLp0 hKp0 frc176 zr176.1 zr176.2.1 hk_Iz165
            have fr_Iz176 : ∀ b, ¬ (K b = 7 ∨ K b = 28) → Iz176 b = I b := fun b q => (frc176 b (fun z => q (by rw [z]; have := hKp0; omega))).trans (fr_Iz165 b q)
            have bz176 := hz176
            refine lv_if_eq (tgt := 186) hx hb dX7_readsBody_179 (by decide) (fun c179 => ?_) (fun c179 => ?_)
            · have t179 := tq_eq (k := z176.toInt) (q := (0)) c179 rfl (by decide +kernel)
              exact j186 Iz176 Jz176 _ _ _ hIz176 fr_Iz176 hk_Iz176 hP hS (lv_sub hl [0, 1, 2] rfl)
            · have t179 := tq_ne (k := z176.toInt) (q := (0)) c179 rfl (by decide +kernel)
              refine lv_iconst (v := 1) hx hb dX7_readsBody_182 (by decide +kernel) ?_
              refine lv_goto (tgt := 187) hx hb dX7_readsBody_183 (by decide) ?_
              exact j187 1 Iz176 Jz176 _ _ _ ⟨by decide +kernel, by decide +kernel⟩ hIz176 fr_Iz176 hk_Iz176 hP hS (lv_sub hl [0, 1, 2] rfl)
        refine lv_if_eq (tgt := 164) hx hb dX7_readsBody_151 (by decide) (fun c151 => ?_) (fun c151 => ?_)
        · have t151 := tq_eq (k := w119_0.toInt) (q := (0)) c151 rfl (by decide +kernel)
          refine lv_iconst (v := 1) hx hb dX7_readsBody_164 (by decide +kernel) ?_
          exact j165 1 Iz142 J142 _ _ _ ⟨by decide +kernel, by decide +kernel⟩ hIz142 fr_Iz142 hk_Iz142 hP hS (lv_sub hl [0, 1, 2] rfl)
        · have t151 := tq_ne (k := w119_0.toInt) (q := (0)) c151 rfl (by decide +kernel)
          refine lv_aload_n hx hb dX7_readsBody_154 rfl (lv_at hl 0 rfl) ?_
          refine lv_iconst (v := 0) hx hb dX7_readsBody_155 (by decide +kernel) ?_
          refine lv_bipush (v := 15) hx hb dX7_readsBody_156 (by decide +kernel) ?_
          refine sw_ir (Z := (fun u => (fun I1 => Iv L K x0 m0 tx tm I1 ∧ (∀ b, ¬ (b = p0) → I1 b = Iz142 b) ∧ ((Iz142 p0 14).toInt ≤ (I1 p0 14).toInt ∧ ((I1 p0 15).toInt = -1 → (Iz142 p0 15).toInt = -1) ∧ ((I1 p0 15).toInt = -1 → (0 : Int32).toInt ≤ u.toInt ∧ u.toInt ≤ (15 : Int32).toInt))))) (va_runV (As := [.int 0, .int 15]) (rest := [.int z149, .ref y5]) ⟨hx, hb, hml, hown, hts⟩ (s_X7_number l dC dI cs L K G Q hQ x0 m0 tx tm H.size Iz142 J142 hIz142 p0 hLp0 hKp0 0 15) (cwV 2 hts (gV pq1262 pq1264 pq18 pq81 pq1265) rfl rfl rfl (by decide +kernel) ⟨(by rw [hR]; exact (Nat.le_of_ble_eq_true rfl)), (by rw [hR]; exact (Nat.le_of_ble_eq_true rfl))⟩) (sP_V hP hD hK hN hLp0 hKp0 rfl rfl) rfl rfl hl.1 rfl (lv_room (Nat.le_of_ble_eq_true rfl)) dX7_readsBody_158 ⟨(by rw [hR]; exact (Nat.le_of_ble_eq_true rfl)), (by rw [hR]; exact (Nat.le_of_ble_eq_true rfl))⟩) hS hAL hA (fun z158 Iz158 Jz158 H locs hz158 hIz158 hP hS => ?_)
          obtain ⟨hIz158, frc158, zr158⟩ := hIz158
          replace zr158 : Hid _ := zr158
          have hk_Iz158 := hK_call hQ hLp0 hKp0 frc158 zr158.1 zr158.2.1 hk_Iz142
          have fr_Iz158 : ∀ b, ¬ (K b = 7 ∨ K b = 28) → Iz158 b = I b := fun b q => (frc158 b (fun z => q (by rw [z]; have := hKp0; omega))).trans (fr_Iz142 b q)
          have cst158_0 : (0 : Int32).toInt = 0 := by decide +kernel
          have cst158_15 : (15 : Int32).toInt = 15 := by decide +kernel
          have bz158 := hz158
          refine lv_goto (tgt := 165) hx hb dX7_readsBody_161 (by decide) ?_
          exact j165 z158 Iz158 Jz158 _ _ _ ⟨by omega, by omega⟩ hIz158 fr_Iz158 hk_Iz158 hP hS (lv_sub hl [0, 1, 2] rfl)
      refine lv_if_eq (tgt := 141) hx hb dX7_readsBody_128 (by decide) (fun c128 => ?_) (fun c128 => ?_)
      · have t128 := tq_eq (k := w119_0.toInt) (q := (0)) c128 rfl (by decide +kernel)
        refine lv_iconst (v := 1) hx hb dX7_readsBody_141 (by decide +kernel) ?_
        exact j142 1 I119 J119 _ _ _ ⟨by decide +kernel, by decide +kernel⟩ hI119 fr_I119 hk_I119 hP hS (lv_sub hl [1, 2, 0] rfl)
      · have t128 := tq_ne (k := w119_0.toInt) (q := (0)) c128 rfl (by decide +kernel)
        refine lv_aload_n hx hb dX7_readsBody_131 rfl (lv_at hl 1 rfl) ?_
        refine lv_iconst (v := 0) hx hb dX7_readsBody_132 (by decide +kernel) ?_
        refine lv_bipush (v := 15) hx hb dX7_readsBody_133 (by decide +kernel) ?_
        refine sw_ir (Z := (fun u => (fun I1 => Iv L K x0 m0 tx tm I1 ∧ (∀ b, ¬ (b = p0) → I1 b = I119 b) ∧ ((I119 p0 14).toInt ≤ (I1 p0 14).toInt ∧ ((I1 p0 15).toInt = -1 → (I119 p0 15).toInt = -1) ∧ ((I1 p0 15).toInt = -1 → (0 : Int32).toInt ≤ u.toInt ∧ u.toInt ≤ (15 : Int32).toInt))))) (va_runV (As := [.int 0, .int 15]) (rest := [.int z126, .ref y5]) ⟨hx, hb, hml, hown, hts⟩ (s_X7_number l dC dI cs L K G Q hQ x0 m0 tx tm H.size I119 J119 hI119 p0 hLp0 hKp0 0 15) (cwV 2 hts (gV pq1262 pq1264 pq18 pq81 pq1265) rfl rfl rfl (by decide +kernel) ⟨(by rw [hR]; exact (Nat.le_of_ble_eq_true rfl)), (by rw [hR]; exact (Nat.le_of_ble_eq_true rfl))⟩) (sP_V hP hD hK hN hLp0 hKp0 rfl rfl) rfl rfl hl.1 rfl (lv_room (Nat.le_of_ble_eq_true rfl)) dX7_readsBody_135 ⟨(by rw [hR]; exact (Nat.le_of_ble_eq_true rfl)), (by rw [hR]; exact (Nat.le_of_ble_eq_true rfl))⟩) hS hAL hA (fun z135 Iz135 Jz135 H locs hz135 hIz135 hP hS => ?_)
        obtain ⟨hIz135, frc135, zr135⟩ := hIz135
        replace zr135 : Hid _ := zr135
        have hk_Iz135 := hK_call hQ hLp0 hKp0 frc135 zr135.1 zr135.2.1 hk_I119
        have fr_Iz135 : ∀ b, ¬ (K b = 7 ∨ K b = 28) → Iz135 b = I b := fun b q => (frc135 b (fun z => q (by rw [z]; have := hKp0; omega))).trans (fr_I119 b q)
        have cst135_0 : (0 : Int32).toInt = 0 := by decide +kernel
        have cst135_15 : (15 : Int32).toInt = 15 := by decide +kernel
        have bz135 := hz135
        refine lv_goto (tgt := 142) hx hb dX7_readsBody_138 (by decide) ?_
        exact j142 z135 Iz135 Jz135 _ _ _ ⟨by omega, by omega⟩ hIz135 fr_Iz135 hk_Iz135 hP hS (lv_sub hl [1, 2, 0] rfl)
    have j118 : ∀ (I118 : Nat → Nat → Int32) (J118 : Nat → Nat → Int64) (H : Heap) (lo : List Loc) (ls : Array Slot), Iv L K x0 m0 tx tm I118 → (∀ b, ¬ (K b = 7 ∨ K b = 28) → I118 b = I b) → hHK Q I I118 p0 → va_P (dC, dI) vwCl (Wd cs L K I118 J118 Q) H → va_S A s.heap H lo → lv_has ls 3 [(0, .ref p0), (1, .int z11)] → W p l e R s m (([.ref p0] : List Value).toArray) below meth c H lo 0 0 Qz (F0 m 118 ls []) := by
      intro I118 J118 H lo ls hI118 fr_I118 hk_I118 hP hS hl
      refine lv_iconst (v := 0) hx hb dX7_readsBody_118 (by decide +kernel) ?_
      exact j119 0 I118 J118 _ _ _ ⟨by decide +kernel, by decide +kernel⟩ hI118 fr_I118 hk_I118 hP hS (lv_sub hl [0, 1] rfl)
    refine lv_if_eq (tgt := 118) hx hb dX7_readsBody_102 (by decide) (fun c102 => ?_) (fun c102 => ?_)
    · have t102 := tq_eq (k := z99.toInt) (q := (0)) c102 rfl (by decide +kernel)
      exact j118 Iz97 J97 _ _ _ hIz97 fr_Iz97 hk_Iz97 hP hS (lv_sub hl [0, 1] rfl)
    · have t102 := tq_ne (k := z99.toInt) (q := (0)) c102 rfl (by decide +kernel)
      refine lv_aload_n hx hb dX7_readsBody_105 rfl (lv_at hl 0 rfl) ?_
      obtain ⟨y106, hv106, hx_y106⟩ := hxx.2 (RX7, 167, "layer", 5) (by simp [lits])
      dsimp only at hv106 hx_y106
      refine va_ldcS hx hb hown hv106 dX7_readsBody_106 ?_
      refine sw_ir (Z := (fun u => (fun I1 => Iv L K x0 m0 tx tm I1 ∧ (∀ b, ¬ (b = p0) → I1 b = Iz97 b) ∧ ((Iz97 p0 14).toInt ≤ (I1 p0 14).toInt ∧ ((I1 p0 15).toInt = -1 → (Iz97 p0 15).toInt = -1) ∧ (∀ k, ¬ k = 14 → I1 p0 k = Iz97 p0 k) ∧ (¬ u.toInt = 0 → ((5 : Nat) : Int) ≤ (I1 p0 14).toInt))))) (va_runV (As := [.ref y106]) (rest := []) ⟨hx, hb, hml, hown, hts⟩ (s_X7_takes l dC dI cs L K G Q hQ x0 m0 tx tm H.size Iz97 J97 hIz97 p0 hLp0 hKp0 y106 5) (cwV 1 hts (gV pq1228 pq1230 pq14 pq81 pq1231) rfl rfl rfl (by decide +kernel) ⟨(by rw [hR]; exact (Nat.le_of_ble_eq_true rfl)), (by rw [hR]; exact (Nat.le_of_ble_eq_true rfl))⟩) (sPX_V hP hD hK hN hLp0 hKp0 rfl rfl (gX_and (gX_s _ _) gX_t) hS ⟨hx_y106, hxt⟩ (fun q h => h.elim (hAL q) (fun h => hA q (Nat.le_trans hS.1 h)))) rfl rfl hl.1 rfl (lv_room (Nat.le_of_ble_eq_true rfl)) dX7_readsBody_108 ⟨(by rw [hR]; exact (Nat.le_of_ble_eq_true rfl)), (by rw [hR]; exact (Nat.le_of_ble_eq_true rfl))⟩) hS hAL hA (fun z108 Iz108 Jz108 H locs hz108 hIz108 hP hS => ?_)
      obtain ⟨hIz108, frc108, zr108⟩ := hIz108
      replace zr108 : Hid _ := zr108
      have hk_Iz108 := hK_call hQ hLp0 hKp0 frc108 zr108.1 zr108.2.1 hk_Iz97
      have fr_Iz108 : ∀ b, ¬ (K b = 7 ∨ K b = 28) → Iz108 b = I b := fun b q => (frc108 b (fun z => q (by rw [z]; have := hKp0; omega))).trans (fr_Iz97 b q)
      have bz108 := hz108
      refine lv_if_eq (tgt := 118) hx hb dX7_readsBody_111 (by decide) (fun c111 => ?_) (fun c111 => ?_)
      · have t111 := tq_eq (k := z108.toInt) (q := (0)) c111 rfl (by decide +kernel)
        exact j118 Iz108 Jz108 _ _ _ hIz108 fr_Iz108 hk_Iz108 hP hS (lv_sub hl [0, 1] rfl)
      · have t111 := tq_ne (k := z108.toInt) (q := (0)) c111 rfl (by decide +kernel)
        refine lv_iconst (v := 1) hx hb dX7_readsBody_114 (by decide +kernel) ?_
        refine lv_goto (tgt := 119) hx hb dX7_readsBody_115 (by decide) ?_
        exact j119 1 Iz108 Jz108 _ _ _ ⟨by decide +kernel, by decide +kernel⟩ hIz108 fr_Iz108 hk_Iz108 hP hS (lv_sub hl [0, 1] rfl)
  have j96 : ∀ (I96 : Nat → Nat → Int32) (J96 : Nat → Nat → Int64) (H : Heap) (lo : List Loc) (ls : Array Slot), Iv L K x0 m0 tx tm I96 → (∀ b, ¬ (K b = 7 ∨ K b = 28) → I96 b = I b) → hHK Q I I96 p0 → va_P (dC, dI) vwCl (Wd cs L K I96 J96 Q) H → va_S A s.heap H lo → lv_has ls 3 [(0, .ref p0), (1, .int z11)] → W p l e R s m (([.ref p0] : List Value).toArray) below meth c H lo 0 0 Qz (F0 m 96 ls [.int z70, .ref y5]) := by
    intro I96 J96 H lo ls hI96 fr_I96 hk_I96 hP hS hl
    refine lv_iconst (v := 0) hx hb dX7_readsBody_96 (by decide +kernel) ?_
    exact j97 0 I96 J96 _ _ _ ⟨by decide +kernel, by decide +kernel⟩ hI96 fr_I96 hk_I96 hP hS (lv_sub hl [0, 1] rfl)
  refine lv_if_eq (tgt := 96) hx hb dX7_readsBody_75 (by decide) (fun c75 => ?_) (fun c75 => ?_)
  · have t75 := tq_eq (k := z72.toInt) (q := (0)) c75 rfl (by decide +kernel)
    exact j96 Iz63 Jz60 _ _ _ hIz63 fr_Iz63 hk_Iz63 hP hS (lv_sub hl [1, 0] rfl)
  · have t75 := tq_ne (k := z72.toInt) (q := (0)) c75 rfl (by decide +kernel)
    refine lv_aload_n hx hb dX7_readsBody_78 rfl (lv_at hl 1 rfl) ?_
    obtain ⟨y79, hv79, hx_y79⟩ := hxx.2 (RX7, 165, "flip", 4) (by simp [lits])
    dsimp only at hv79 hx_y79
    refine va_ldcS hx hb hown hv79 dX7_readsBody_79 ?_
    refine sw_ir (Z := (fun u => (fun I1 => Iv L K x0 m0 tx tm I1 ∧ (∀ b, ¬ (b = p0) → I1 b = Iz63 b) ∧ ((Iz63 p0 14).toInt ≤ (I1 p0 14).toInt ∧ ((I1 p0 15).toInt = -1 → (Iz63 p0 15).toInt = -1) ∧ (∀ k, ¬ k = 14 → I1 p0 k = Iz63 p0 k) ∧ (¬ u.toInt = 0 → ((4 : Nat) : Int) ≤ (I1 p0 14).toInt))))) (va_runV (As := [.ref y79]) (rest := [.int z70, .ref y5]) ⟨hx, hb, hml, hown, hts⟩ (s_X7_takes l dC dI cs L K G Q hQ x0 m0 tx tm H.size Iz63 Jz60 hIz63 p0 hLp0 hKp0 y79 4) (cwV 1 hts (gV pq1228 pq1230 pq14 pq81 pq1231) rfl rfl rfl (by decide +kernel) ⟨(by rw [hR]; exact (Nat.le_of_ble_eq_true rfl)), (by rw [hR]; exact (Nat.le_of_ble_eq_true rfl))⟩) (sPX_V hP hD hK hN hLp0 hKp0 rfl rfl (gX_and (gX_s _ _) gX_t) hS ⟨hx_y79, hxt⟩ (fun q h => h.elim (hAL q) (fun h => hA q (Nat.le_trans hS.1 h)))) rfl rfl hl.1 rfl (lv_room (Nat.le_of_ble_eq_true rfl)) dX7_readsBody_81 ⟨(by rw [hR]; exact (Nat.le_of_ble_eq_true rfl)), (by rw [hR]; exact (Nat.le_of_ble_eq_true rfl))⟩) hS hAL hA (fun z81 Iz81 Jz81 H locs hz81 hIz81 hP hS => ?_)
    obtain ⟨hIz81, frc81, zr81⟩ := hIz81
    replace zr81 : Hid _ := zr81
    have hk_Iz81 := hK_call hQ hLp0 hKp0 frc81 zr81.1 zr81.2.1 hk_Iz63
    have fr_Iz81 : ∀ b, ¬ (K b = 7 ∨ K b = 28) → Iz81 b = I b := fun b q => (frc81 b (fun z => q (by rw [z]; have := hKp0; omega))).trans (fr_Iz63 b q)
    have bz81 := hz81
    refine lv_if_eq (tgt := 96) hx hb dX7_readsBody_84 (by decide) (fun c84 => ?_) (fun c84 => ?_)
    · have t84 := tq_eq (k := z81.toInt) (q := (0)) c84 rfl (by decide +kernel)
      exact j96 Iz81 Jz81 _ _ _ hIz81 fr_Iz81 hk_Iz81 hP hS (lv_sub hl [1, 0] rfl)
    · have t84 := tq_ne (k := z81.toInt) (q := (0)) c84 rfl (by decide +kernel)
      refine lv_aload_n hx hb dX7_readsBody_87 rfl (lv_at hl 1 rfl) ?_
      refine lv_iconst (v := 0) hx hb dX7_readsBody_88 (by decide +kernel) ?_
      refine lv_iconst (v := 3) hx hb dX7_readsBody_89 (by decide +kernel) ?_
      refine sw_ir (Z := (fun u => (fun I1 => Iv L K x0 m0 tx tm I1 ∧ (∀ b, ¬ (b = p0) → I1 b = Iz81 b) ∧ ((Iz81 p0 14).toInt ≤ (I1 p0 14).toInt ∧ ((I1 p0 15).toInt = -1 → (Iz81 p0 15).toInt = -1) ∧ ((I1 p0 15).toInt = -1 → (0 : Int32).toInt ≤ u.toInt ∧ u.toInt ≤ (3 : Int32).toInt))))) (va_runV (As := [.int 0, .int 3]) (rest := [.int z70, .ref y5]) ⟨hx, hb, hml, hown, hts⟩ (s_X7_number l dC dI cs L K G Q hQ x0 m0 tx tm H.size Iz81 Jz81 hIz81 p0 hLp0 hKp0 0 3) (cwV 2 hts (gV pq1262 pq1264 pq18 pq81 pq1265) rfl rfl rfl (by decide +kernel) ⟨(by rw [hR]; exact (Nat.le_of_ble_eq_true rfl)), (by rw [hR]; exact (Nat.le_of_ble_eq_true rfl))⟩) (sP_V hP hD hK hN hLp0 hKp0 rfl rfl) rfl rfl hl.1 rfl (lv_room (Nat.le_of_ble_eq_true rfl)) dX7_readsBody_90 ⟨(by rw [hR]; exact (Nat.le_of_ble_eq_true rfl)), (by rw [hR]; exact (Nat.le_of_ble_eq_true rfl))⟩) hS hAL hA (fun z90 Iz90 Jz90 H locs hz90 hIz90 hP hS => ?_)
      obtain ⟨hIz90, frc90, zr90⟩ := hIz90
      replace zr90 : Hid _ := zr90
      have hk_Iz90 := hK_call hQ hLp0 hKp0 frc90 zr90.1 zr90.2.1 hk_Iz81
      have fr_Iz90 : ∀ b, ¬ (K b = 7 ∨ K b = 28) → Iz90 b = I b := fun b q => (frc90 b (fun z => q (by rw [z]; have := hKp0; omega))).trans (fr_Iz81 b q)
      have cst90_0 : (0 : Int32).toInt = 0 := by decide +kernel
      have cst90_3 : (3 : Int32).toInt = 3 := by decide +kernel
      have bz90 := hz90
      refine lv_goto (tgt := 97) hx hb dX7_readsBody_93 (by decide) ?_
      exact j97 z90 Iz90 Jz90 _ _ _ ⟨by omega, by omega⟩ hIz90 fr_Iz90 hk_Iz90 hP hS (lv_sub hl [1, 0] rfl)
