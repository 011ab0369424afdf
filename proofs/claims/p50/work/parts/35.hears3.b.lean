def yX7_readsBody : MethodName := ⟨RX7, "readsBody", "()V"⟩
abbrev cX7_readsBody : ByteArray := prog_9_method_22_code
abbrev cX7_readsPart : ByteArray := prog_9_method_23_code
def yX7_readsPart : MethodName := ⟨RX7, "readsPart", "()V"⟩
theorem dX7_readsBody_0 : decode cX7_readsBody 0 = .ok (.bipush 19, 2) := by decide +kernel
theorem dX7_readsBody_2 : decode cX7_readsBody 2 = .ok (.bipush 8, 2) := by decide +kernel
theorem dX7_readsBody_4 : decode cX7_readsBody 4 = .ok (.aload_n 0, 1) := by decide +kernel
theorem dX7_readsBody_5 : decode cX7_readsBody 5 = .ok (.getfield 13, 3) := by decide +kernel
theorem dX7_readsBody_8 : decode cX7_readsBody 8 = .ok (.iconst 1, 1) := by decide +kernel
theorem dX7_readsBody_9 : decode cX7_readsBody 9 = .ok (.iaload, 1) := by decide +kernel
theorem dX7_readsBody_10 : decode cX7_readsBody 10 = .ok (.imul, 1) := by decide +kernel
theorem dX7_readsBody_11 : decode cX7_readsBody 11 = .ok (.iadd, 1) := by decide +kernel
theorem dX7_readsBody_12 : decode cX7_readsBody 12 = .ok (.istore_n 1, 1) := by decide +kernel
theorem dX7_readsBody_13 : decode cX7_readsBody 13 = .ok (.aload_n 0, 1) := by decide +kernel
theorem dX7_readsBody_14 : decode cX7_readsBody 14 = .ok (.getfield 13, 3) := by decide +kernel
theorem dX7_readsBody_17 : decode cX7_readsBody 17 = .ok (.iload_n 1, 1) := by decide +kernel
theorem dX7_readsBody_18 : decode cX7_readsBody 18 = .ok (.iconst 0, 1) := by decide +kernel
theorem dX7_readsBody_19 : decode cX7_readsBody 19 = .ok (.iadd, 1) := by decide +kernel
theorem dX7_readsBody_20 : decode cX7_readsBody 20 = .ok (.aload_n 0, 1) := by decide +kernel
theorem dX7_readsBody_21 : decode cX7_readsBody 21 = .ok (.iconst 0, 1) := by decide +kernel
theorem dX7_readsBody_22 : decode cX7_readsBody 22 = .ok (.aload_n 0, 1) := by decide +kernel
theorem dX7_readsBody_23 : decode cX7_readsBody 23 = .ok (.getfield 13, 3) := by decide +kernel
theorem dX7_readsBody_26 : decode cX7_readsBody 26 = .ok (.iconst 0, 1) := by decide +kernel
theorem dX7_readsBody_27 : decode cX7_readsBody 27 = .ok (.iaload, 1) := by decide +kernel
theorem dX7_readsBody_28 : decode cX7_readsBody 28 = .ok (.iconst 1, 1) := by decide +kernel
theorem dX7_readsBody_29 : decode cX7_readsBody 29 = .ok (.isub, 1) := by decide +kernel
theorem dX7_readsBody_30 : decode cX7_readsBody 30 = .ok (.invokevirtual 131, 3) := by decide +kernel
theorem dX7_readsBody_33 : decode cX7_readsBody 33 = .ok (.iastore, 1) := by decide +kernel
theorem dX7_readsBody_34 : decode cX7_readsBody 34 = .ok (.aload_n 0, 1) := by decide +kernel
theorem dX7_readsBody_35 : decode cX7_readsBody 35 = .ok (.getfield 13, 3) := by decide +kernel
theorem dX7_readsBody_38 : decode cX7_readsBody 38 = .ok (.iload_n 1, 1) := by decide +kernel
theorem dX7_readsBody_39 : decode cX7_readsBody 39 = .ok (.iconst 1, 1) := by decide +kernel
theorem dX7_readsBody_40 : decode cX7_readsBody 40 = .ok (.iadd, 1) := by decide +kernel
theorem dX7_readsBody_41 : decode cX7_readsBody 41 = .ok (.aload_n 0, 1) := by decide +kernel
theorem dX7_readsBody_42 : decode cX7_readsBody 42 = .ok (.sipush 999, 3) := by decide +kernel
theorem dX7_readsBody_45 : decode cX7_readsBody 45 = .ok (.invokevirtual 161, 3) := by decide +kernel
theorem dX7_readsBody_48 : decode cX7_readsBody 48 = .ok (.iastore, 1) := by decide +kernel
theorem dX7_readsBody_49 : decode cX7_readsBody 49 = .ok (.aload_n 0, 1) := by decide +kernel
theorem dX7_readsBody_50 : decode cX7_readsBody 50 = .ok (.getfield 13, 3) := by decide +kernel
theorem dX7_readsBody_53 : decode cX7_readsBody 53 = .ok (.iload_n 1, 1) := by decide +kernel
theorem dX7_readsBody_54 : decode cX7_readsBody 54 = .ok (.iconst 2, 1) := by decide +kernel
theorem dX7_readsBody_55 : decode cX7_readsBody 55 = .ok (.iadd, 1) := by decide +kernel
theorem dX7_readsBody_56 : decode cX7_readsBody 56 = .ok (.aload_n 0, 1) := by decide +kernel
theorem dX7_readsBody_57 : decode cX7_readsBody 57 = .ok (.sipush 999, 3) := by decide +kernel
theorem dX7_readsBody_60 : decode cX7_readsBody 60 = .ok (.invokevirtual 161, 3) := by decide +kernel
theorem dX7_readsBody_63 : decode cX7_readsBody 63 = .ok (.iastore, 1) := by decide +kernel
theorem dX7_readsBody_64 : decode cX7_readsBody 64 = .ok (.aload_n 0, 1) := by decide +kernel
theorem dX7_readsBody_65 : decode cX7_readsBody 65 = .ok (.getfield 13, 3) := by decide +kernel
theorem dX7_readsBody_68 : decode cX7_readsBody 68 = .ok (.iload_n 1, 1) := by decide +kernel
theorem dX7_readsBody_69 : decode cX7_readsBody 69 = .ok (.iconst 3, 1) := by decide +kernel
theorem dX7_readsBody_70 : decode cX7_readsBody 70 = .ok (.iadd, 1) := by decide +kernel
theorem dX7_readsBody_71 : decode cX7_readsBody 71 = .ok (.aload_n 0, 1) := by decide +kernel
theorem dX7_readsBody_72 : decode cX7_readsBody 72 = .ok (.invokevirtual 85, 3) := by decide +kernel
theorem dX7_readsBody_75 : decode cX7_readsBody 75 = .ok (.ifCond .eq 21, 3) := by decide +kernel
theorem dX7_readsBody_78 : decode cX7_readsBody 78 = .ok (.aload_n 0, 1) := by decide +kernel
theorem dX7_readsBody_79 : decode cX7_readsBody 79 = .ok (.ldc 165, 2) := by decide +kernel
theorem dX7_readsBody_81 : decode cX7_readsBody 81 = .ok (.invokevirtual 142, 3) := by decide +kernel
theorem dX7_readsBody_84 : decode cX7_readsBody 84 = .ok (.ifCond .eq 12, 3) := by decide +kernel
theorem dX7_readsBody_87 : decode cX7_readsBody 87 = .ok (.aload_n 0, 1) := by decide +kernel
theorem dX7_readsBody_88 : decode cX7_readsBody 88 = .ok (.iconst 0, 1) := by decide +kernel
theorem dX7_readsBody_89 : decode cX7_readsBody 89 = .ok (.iconst 3, 1) := by decide +kernel
theorem dX7_readsBody_90 : decode cX7_readsBody 90 = .ok (.invokevirtual 131, 3) := by decide +kernel
theorem dX7_readsBody_93 : decode cX7_readsBody 93 = .ok (.goto 4, 3) := by decide +kernel
theorem dX7_readsBody_96 : decode cX7_readsBody 96 = .ok (.iconst 0, 1) := by decide +kernel
theorem dX7_readsBody_97 : decode cX7_readsBody 97 = .ok (.iastore, 1) := by decide +kernel
theorem dX7_readsBody_98 : decode cX7_readsBody 98 = .ok (.aload_n 0, 1) := by decide +kernel
theorem dX7_readsBody_99 : decode cX7_readsBody 99 = .ok (.invokevirtual 85, 3) := by decide +kernel
theorem dX7_readsBody_102 : decode cX7_readsBody 102 = .ok (.ifCond .eq 16, 3) := by decide +kernel
theorem dX7_readsBody_105 : decode cX7_readsBody 105 = .ok (.aload_n 0, 1) := by decide +kernel
theorem dX7_readsBody_106 : decode cX7_readsBody 106 = .ok (.ldc 167, 2) := by decide +kernel
theorem dX7_readsBody_108 : decode cX7_readsBody 108 = .ok (.invokevirtual 142, 3) := by decide +kernel
theorem dX7_readsBody_111 : decode cX7_readsBody 111 = .ok (.ifCond .eq 7, 3) := by decide +kernel
theorem dX7_readsBody_114 : decode cX7_readsBody 114 = .ok (.iconst 1, 1) := by decide +kernel
theorem dX7_readsBody_115 : decode cX7_readsBody 115 = .ok (.goto 4, 3) := by decide +kernel
theorem dX7_readsBody_118 : decode cX7_readsBody 118 = .ok (.iconst 0, 1) := by decide +kernel
theorem dX7_readsBody_119 : decode cX7_readsBody 119 = .ok (.istore_n 2, 1) := by decide +kernel
theorem dX7_readsBody_120 : decode cX7_readsBody 120 = .ok (.aload_n 0, 1) := by decide +kernel
theorem dX7_readsBody_121 : decode cX7_readsBody 121 = .ok (.getfield 13, 3) := by decide +kernel
theorem dX7_readsBody_124 : decode cX7_readsBody 124 = .ok (.iload_n 1, 1) := by decide +kernel
theorem dX7_readsBody_125 : decode cX7_readsBody 125 = .ok (.iconst 4, 1) := by decide +kernel
theorem dX7_readsBody_126 : decode cX7_readsBody 126 = .ok (.iadd, 1) := by decide +kernel
theorem dX7_readsBody_127 : decode cX7_readsBody 127 = .ok (.iload_n 2, 1) := by decide +kernel
theorem dX7_readsBody_128 : decode cX7_readsBody 128 = .ok (.ifCond .eq 13, 3) := by decide +kernel
theorem dX7_readsBody_131 : decode cX7_readsBody 131 = .ok (.aload_n 0, 1) := by decide +kernel
theorem dX7_readsBody_132 : decode cX7_readsBody 132 = .ok (.iconst 0, 1) := by decide +kernel
theorem dX7_readsBody_133 : decode cX7_readsBody 133 = .ok (.bipush 15, 2) := by decide +kernel
theorem dX7_readsBody_135 : decode cX7_readsBody 135 = .ok (.invokevirtual 131, 3) := by decide +kernel
theorem dX7_readsBody_138 : decode cX7_readsBody 138 = .ok (.goto 4, 3) := by decide +kernel
theorem dX7_readsBody_141 : decode cX7_readsBody 141 = .ok (.iconst 1, 1) := by decide +kernel
theorem dX7_readsBody_142 : decode cX7_readsBody 142 = .ok (.iastore, 1) := by decide +kernel
theorem dX7_readsBody_143 : decode cX7_readsBody 143 = .ok (.aload_n 0, 1) := by decide +kernel
theorem dX7_readsBody_144 : decode cX7_readsBody 144 = .ok (.getfield 13, 3) := by decide +kernel
theorem dX7_readsBody_147 : decode cX7_readsBody 147 = .ok (.iload_n 1, 1) := by decide +kernel
theorem dX7_readsBody_148 : decode cX7_readsBody 148 = .ok (.iconst 5, 1) := by decide +kernel
theorem dX7_readsBody_149 : decode cX7_readsBody 149 = .ok (.iadd, 1) := by decide +kernel
theorem dX7_readsBody_150 : decode cX7_readsBody 150 = .ok (.iload_n 2, 1) := by decide +kernel
theorem dX7_readsBody_151 : decode cX7_readsBody 151 = .ok (.ifCond .eq 13, 3) := by decide +kernel
theorem dX7_readsBody_154 : decode cX7_readsBody 154 = .ok (.aload_n 0, 1) := by decide +kernel
theorem dX7_readsBody_155 : decode cX7_readsBody 155 = .ok (.iconst 0, 1) := by decide +kernel
theorem dX7_readsBody_156 : decode cX7_readsBody 156 = .ok (.bipush 15, 2) := by decide +kernel
theorem dX7_readsBody_158 : decode cX7_readsBody 158 = .ok (.invokevirtual 131, 3) := by decide +kernel
theorem dX7_readsBody_161 : decode cX7_readsBody 161 = .ok (.goto 4, 3) := by decide +kernel
theorem dX7_readsBody_164 : decode cX7_readsBody 164 = .ok (.iconst 1, 1) := by decide +kernel
theorem dX7_readsBody_165 : decode cX7_readsBody 165 = .ok (.iastore, 1) := by decide +kernel
theorem dX7_readsBody_166 : decode cX7_readsBody 166 = .ok (.aload_n 0, 1) := by decide +kernel
theorem dX7_readsBody_167 : decode cX7_readsBody 167 = .ok (.invokevirtual 85, 3) := by decide +kernel
theorem dX7_readsBody_170 : decode cX7_readsBody 170 = .ok (.ifCond .eq 16, 3) := by decide +kernel
theorem dX7_readsBody_173 : decode cX7_readsBody 173 = .ok (.aload_n 0, 1) := by decide +kernel
theorem dX7_readsBody_174 : decode cX7_readsBody 174 = .ok (.ldc 169, 2) := by decide +kernel
theorem dX7_readsBody_176 : decode cX7_readsBody 176 = .ok (.invokevirtual 142, 3) := by decide +kernel
theorem dX7_readsBody_179 : decode cX7_readsBody 179 = .ok (.ifCond .eq 7, 3) := by decide +kernel
theorem dX7_readsBody_182 : decode cX7_readsBody 182 = .ok (.iconst 1, 1) := by decide +kernel
theorem dX7_readsBody_183 : decode cX7_readsBody 183 = .ok (.goto 4, 3) := by decide +kernel
theorem dX7_readsBody_186 : decode cX7_readsBody 186 = .ok (.iconst 0, 1) := by decide +kernel
theorem dX7_readsBody_187 : decode cX7_readsBody 187 = .ok (.istore_n 2, 1) := by decide +kernel
theorem dX7_readsBody_188 : decode cX7_readsBody 188 = .ok (.aload_n 0, 1) := by decide +kernel
theorem dX7_readsBody_189 : decode cX7_readsBody 189 = .ok (.getfield 13, 3) := by decide +kernel
theorem dX7_readsBody_192 : decode cX7_readsBody 192 = .ok (.iload_n 1, 1) := by decide +kernel
theorem dX7_readsBody_193 : decode cX7_readsBody 193 = .ok (.bipush 6, 2) := by decide +kernel
theorem dX7_readsBody_195 : decode cX7_readsBody 195 = .ok (.iadd, 1) := by decide +kernel
theorem dX7_readsBody_196 : decode cX7_readsBody 196 = .ok (.iload_n 2, 1) := by decide +kernel
theorem dX7_readsBody_197 : decode cX7_readsBody 197 = .ok (.ifCond .eq 12, 3) := by decide +kernel
theorem dX7_readsBody_200 : decode cX7_readsBody 200 = .ok (.aload_n 0, 1) := by decide +kernel
theorem dX7_readsBody_201 : decode cX7_readsBody 201 = .ok (.bipush 20, 2) := by decide +kernel
theorem dX7_readsBody_203 : decode cX7_readsBody 203 = .ok (.invokevirtual 161, 3) := by decide +kernel
theorem dX7_readsBody_206 : decode cX7_readsBody 206 = .ok (.goto 4, 3) := by decide +kernel
theorem dX7_readsBody_209 : decode cX7_readsBody 209 = .ok (.iconst 0, 1) := by decide +kernel
theorem dX7_readsBody_210 : decode cX7_readsBody 210 = .ok (.iastore, 1) := by decide +kernel
theorem dX7_readsBody_211 : decode cX7_readsBody 211 = .ok (.aload_n 0, 1) := by decide +kernel
theorem dX7_readsBody_212 : decode cX7_readsBody 212 = .ok (.getfield 13, 3) := by decide +kernel
theorem dX7_readsBody_215 : decode cX7_readsBody 215 = .ok (.iload_n 1, 1) := by decide +kernel
theorem dX7_readsBody_216 : decode cX7_readsBody 216 = .ok (.bipush 7, 2) := by decide +kernel
theorem dX7_readsBody_218 : decode cX7_readsBody 218 = .ok (.iadd, 1) := by decide +kernel
theorem dX7_readsBody_219 : decode cX7_readsBody 219 = .ok (.iload_n 2, 1) := by decide +kernel
theorem dX7_readsBody_220 : decode cX7_readsBody 220 = .ok (.ifCond .eq 12, 3) := by decide +kernel
theorem dX7_readsBody_223 : decode cX7_readsBody 223 = .ok (.aload_n 0, 1) := by decide +kernel
theorem dX7_readsBody_224 : decode cX7_readsBody 224 = .ok (.bipush 20, 2) := by decide +kernel
theorem dX7_readsBody_226 : decode cX7_readsBody 226 = .ok (.invokevirtual 161, 3) := by decide +kernel
theorem dX7_readsBody_229 : decode cX7_readsBody 229 = .ok (.goto 4, 3) := by decide +kernel
theorem dX7_readsBody_232 : decode cX7_readsBody 232 = .ok (.iconst 0, 1) := by decide +kernel
theorem dX7_readsBody_233 : decode cX7_readsBody 233 = .ok (.iastore, 1) := by decide +kernel
theorem dX7_readsBody_234 : decode cX7_readsBody 234 = .ok (.aload_n 0, 1) := by decide +kernel
theorem dX7_readsBody_235 : decode cX7_readsBody 235 = .ok (.getfield 13, 3) := by decide +kernel
theorem dX7_readsBody_238 : decode cX7_readsBody 238 = .ok (.iconst 1, 1) := by decide +kernel
theorem dX7_readsBody_239 : decode cX7_readsBody 239 = .ok (.dup2, 1) := by decide +kernel
theorem dX7_readsBody_240 : decode cX7_readsBody 240 = .ok (.iaload, 1) := by decide +kernel
theorem dX7_readsBody_241 : decode cX7_readsBody 241 = .ok (.aload_n 0, 1) := by decide +kernel
theorem dX7_readsBody_242 : decode cX7_readsBody 242 = .ok (.invokevirtual 85, 3) := by decide +kernel
theorem dX7_readsBody_245 : decode cX7_readsBody 245 = .ok (.invokestatic 127, 3) := by decide +kernel
theorem dX7_readsBody_248 : decode cX7_readsBody 248 = .ok (.iadd, 1) := by decide +kernel
theorem dX7_readsBody_249 : decode cX7_readsBody 249 = .ok (.iastore, 1) := by decide +kernel
theorem dX7_readsBody_250 : decode cX7_readsBody 250 = .ok (.return_, 1) := by decide +kernel
theorem dX7_readsPart_0 : decode cX7_readsPart 0 = .ok (.aload_n 0, 1) := by decide +kernel
theorem dX7_readsPart_1 : decode cX7_readsPart 1 = .ok (.invokevirtual 89, 3) := by decide +kernel
theorem dX7_readsPart_4 : decode cX7_readsPart 4 = .ok (.pop, 1) := by decide +kernel
theorem dX7_readsPart_5 : decode cX7_readsPart 5 = .ok (.aload_n 0, 1) := by decide +kernel
theorem dX7_readsPart_6 : decode cX7_readsPart 6 = .ok (.getfield 75, 3) := by decide +kernel
theorem dX7_readsPart_9 : decode cX7_readsPart 9 = .ok (.istore_n 1, 1) := by decide +kernel
theorem dX7_readsPart_10 : decode cX7_readsPart 10 = .ok (.aload_n 0, 1) := by decide +kernel
theorem dX7_readsPart_11 : decode cX7_readsPart 11 = .ok (.ldc 171, 2) := by decide +kernel
theorem dX7_readsPart_13 : decode cX7_readsPart 13 = .ok (.invokevirtual 142, 3) := by decide +kernel
theorem dX7_readsPart_16 : decode cX7_readsPart 16 = .ok (.ifCond .eq 30, 3) := by decide +kernel
theorem dX7_readsPart_19 : decode cX7_readsPart 19 = .ok (.aload_n 0, 1) := by decide +kernel
theorem dX7_readsPart_20 : decode cX7_readsPart 20 = .ok (.getfield 13, 3) := by decide +kernel
theorem dX7_readsPart_23 : decode cX7_readsPart 23 = .ok (.iconst 0, 1) := by decide +kernel
theorem dX7_readsPart_24 : decode cX7_readsPart 24 = .ok (.iaload, 1) := by decide +kernel
theorem dX7_readsPart_25 : decode cX7_readsPart 25 = .ok (.bipush 8, 2) := by decide +kernel
theorem dX7_readsPart_27 : decode cX7_readsPart 27 = .ok (.if_icmp .ne 12, 3) := by decide +kernel
theorem dX7_readsPart_30 : decode cX7_readsPart 30 = .ok (.aload_n 0, 1) := by decide +kernel
theorem dX7_readsPart_31 : decode cX7_readsPart 31 = .ok (.iconst 3, 1) := by decide +kernel
theorem dX7_readsPart_32 : decode cX7_readsPart 32 = .ok (.iload_n 1, 1) := by decide +kernel
theorem dX7_readsPart_33 : decode cX7_readsPart 33 = .ok (.invokevirtual 113, 3) := by decide +kernel
theorem dX7_readsPart_36 : decode cX7_readsPart 36 = .ok (.goto 52, 3) := by decide +kernel
theorem dX7_readsPart_39 : decode cX7_readsPart 39 = .ok (.aload_n 0, 1) := by decide +kernel
theorem dX7_readsPart_40 : decode cX7_readsPart 40 = .ok (.invokevirtual 173, 3) := by decide +kernel
theorem dX7_readsPart_43 : decode cX7_readsPart 43 = .ok (.goto 45, 3) := by decide +kernel
theorem dX7_readsPart_46 : decode cX7_readsPart 46 = .ok (.aload_n 0, 1) := by decide +kernel
theorem dX7_readsPart_47 : decode cX7_readsPart 47 = .ok (.ldc 176, 2) := by decide +kernel
theorem dX7_readsPart_49 : decode cX7_readsPart 49 = .ok (.invokevirtual 142, 3) := by decide +kernel
theorem dX7_readsPart_52 : decode cX7_readsPart 52 = .ok (.ifCond .eq 30, 3) := by decide +kernel
theorem dX7_readsPart_55 : decode cX7_readsPart 55 = .ok (.aload_n 0, 1) := by decide +kernel
theorem dX7_readsPart_56 : decode cX7_readsPart 56 = .ok (.getfield 13, 3) := by decide +kernel
theorem dX7_readsPart_59 : decode cX7_readsPart 59 = .ok (.iconst 1, 1) := by decide +kernel
theorem dX7_readsPart_60 : decode cX7_readsPart 60 = .ok (.iaload, 1) := by decide +kernel
theorem dX7_readsPart_61 : decode cX7_readsPart 61 = .ok (.bipush 10, 2) := by decide +kernel
theorem dX7_readsPart_63 : decode cX7_readsPart 63 = .ok (.if_icmp .ne 12, 3) := by decide +kernel
theorem dX7_readsPart_66 : decode cX7_readsPart 66 = .ok (.aload_n 0, 1) := by decide +kernel
theorem dX7_readsPart_67 : decode cX7_readsPart 67 = .ok (.iconst 3, 1) := by decide +kernel
theorem dX7_readsPart_68 : decode cX7_readsPart 68 = .ok (.iload_n 1, 1) := by decide +kernel
theorem dX7_readsPart_69 : decode cX7_readsPart 69 = .ok (.invokevirtual 113, 3) := by decide +kernel
theorem dX7_readsPart_72 : decode cX7_readsPart 72 = .ok (.goto 16, 3) := by decide +kernel
theorem dX7_readsPart_75 : decode cX7_readsPart 75 = .ok (.aload_n 0, 1) := by decide +kernel
theorem dX7_readsPart_76 : decode cX7_readsPart 76 = .ok (.invokevirtual 178, 3) := by decide +kernel
theorem dX7_readsPart_79 : decode cX7_readsPart 79 = .ok (.goto 9, 3) := by decide +kernel
theorem dX7_readsPart_82 : decode cX7_readsPart 82 = .ok (.aload_n 0, 1) := by decide +kernel
theorem dX7_readsPart_83 : decode cX7_readsPart 83 = .ok (.iconst 1, 1) := by decide +kernel
theorem dX7_readsPart_84 : decode cX7_readsPart 84 = .ok (.iload_n 1, 1) := by decide +kernel
theorem dX7_readsPart_85 : decode cX7_readsPart 85 = .ok (.invokevirtual 113, 3) := by decide +kernel
theorem dX7_readsPart_88 : decode cX7_readsPart 88 = .ok (.return_, 1) := by decide +kernel
set_option maxRecDepth 100000 in
theorem pq16 : Cond.selects RX7 yX7_readsForm yX7_readsForm ∈ pw := pw_mem (i := 16) (by decide +kernel) rfl
set_option maxRecDepth 100000 in
theorem pq21 : Cond.selects RX7 yX7_readsBody yX7_readsBody ∈ pw := pw_mem (i := 21) (by decide +kernel) rfl
set_option maxRecDepth 100000 in
theorem pq22 : Cond.selects RX7 yX7_signed yX7_signed ∈ pw := pw_mem (i := 22) (by decide +kernel) rfl
set_option maxRecDepth 100000 in
theorem pq1243 : Cond.methodLink RX7 173 yX7_readsForm ∈ pw := pw_mem (i := 1243) (by decide +kernel) rfl
set_option maxRecDepth 100000 in
theorem pq1245 : Cond.instanceMethod yX7_readsForm ∈ pw := pw_mem (i := 1245) (by decide +kernel) rfl
set_option maxRecDepth 100000 in
theorem pq1246 : Cond.code yX7_readsForm cX7_readsForm 5 none ∈ pw := pw_mem (i := 1246) (by rfl) rfl
set_option maxRecDepth 100000 in
theorem pq1280 : Cond.methodLink RX7 178 yX7_readsBody ∈ pw := pw_mem (i := 1280) (by decide +kernel) rfl
set_option maxRecDepth 100000 in
theorem pq1282 : Cond.instanceMethod yX7_readsBody ∈ pw := pw_mem (i := 1282) (by decide +kernel) rfl
set_option maxRecDepth 100000 in
theorem pq1283 : Cond.code yX7_readsBody cX7_readsBody 3 none ∈ pw := pw_mem (i := 1283) (by rfl) rfl
set_option maxRecDepth 100000 in
theorem pq1284 : Cond.methodLink RX7 161 yX7_signed ∈ pw := pw_mem (i := 1284) (by decide +kernel) rfl
set_option maxRecDepth 100000 in
theorem pq1286 : Cond.instanceMethod yX7_signed ∈ pw := pw_mem (i := 1286) (by decide +kernel) rfl
set_option maxRecDepth 100000 in
theorem pq1287 : Cond.code yX7_signed cX7_signed 4 (some .int) ∈ pw := pw_mem (i := 1287) (by rfl) rfl
set_option maxHeartbeats 4000000 in
set_option maxRecDepth 100000 in
theorem s_X7_readsBody (l : Launch) (dC : Nat → ClassId) (dI : Nat → Nat → Nat) (cs : Nat → ClassId) (L : List Nat) (K G : Nat → Nat) (Q : Nat → Nat → Option Nat) (hQ : Sv L K G Q) (x0 m0 : Nat) (tx : GT) (tm : GT × Int) (sz : Nat) (I : Nat → Nat → Int32) (J : Nat → Nat → Int64) (hI : Iv L K x0 m0 tx tm I) (p0 : Nat) (hLp0 : p0 ∈ L) (hKp0 : K p0 = 7) (ho : hOK Q I p0) (hf : (I p0 15).toInt = -1) (hn : (∀ yh, Q p0 1 = some yh → (I yh 1).toInt ≤ 9)) : Met l yX7_readsBody (.code yX7_readsBody cX7_readsBody 3 none :: pw) ({ frames := 5, cells := 0, slots := 0, locals := 109 }) (sPX (dC, dI) cs [.ref p0] sz L K I J Q (fun q => q ∈ L ∨ sz ≤ q) (fun A U H => xS A U H)) (va_Qv (fun (_ : Unit) => True) (fun _ t => sB (dC, dI) cs L K Q (fun I1 J1 => Iv L K x0 m0 tx tm I1 ∧ (∀ b, ¬ (K b = 7 ∨ K b = 28) → I1 b = I b) ∧ I1 p0 11 = I p0 11 ∧ (hJ Q I I1 p0) ∧ (mdQ I I1 p0 (pbd (tb tm.1.2.2 (I p0 13).toInt) (I ((Q p0 1).getD 0) 0).toInt (I p0 14).toInt) ∧ ((pbd (tb tm.1.2.2 (I p0 13).toInt) (I ((Q p0 1).getD 0) 0).toInt (I p0 14).toInt).1 = 0 → (I1 ((Q p0 1).getD 0) 1).toInt = (I ((Q p0 1).getD 0) 1).toInt + 1) ∧ I1 ((Q p0 1).getD 0) 0 = I ((Q p0 1).getD 0) 0) ∧ (∀ b, K b = 0 ∨ K b = 1 ∨ K b = 3 ∨ K b = 6 → I1 b = I b) ∧ (∀ c : Fx, okF c → isF I J (a0 Q p0 1) (a0 Q p0 6) 0 c → (I1 p0 15).toInt = -1 → isF I1 J1 (a0 Q p0 1) (a0 Q p0 6) 0 (adB c (bdT (tb tm.1.2.2 (I p0 13).toInt) (c.1 0).toInt (I p0 14).toInt (fun _ => 0)))) ∧ J1 = J) t) (fun q => q ∈ L ∨ sz ≤ q)) 0 0 (fun q => q ∈ L ∨ sz ≤ q) := by
  refine Met.ofW (cc := cX7_readsBody) (maxL := 3) (ret := none) (by decide +kernel) rfl ?_
  intro p e s m args below meth c s₁ B hml hv
  obtain ⟨rfl, ⟨hsz, hP, hK, hD0, hN⟩, hXs⟩ := hv
  have hx := B.exec
  have hb := B.bytes
  have hr := B.returns
  have hts := fun w (h : w ∈ pw) => atoms_spec (ws := Cond.code yX7_readsBody cX7_readsBody 3 none :: pw) B.pre w (List.mem_cons_of_mem _ h)
  have hown : s.vm.findClass RX7 = some m.cls := findClass_of_methodNamed B.named
  have hlocks := B.notSynchronized
  subst hsz
  have hBB : 999 ≤ tm.2 ∧ tm.2 ≤ 6000000 := hI.2.2.2.2.1
  have hk_I : hHK Q I I p0 := hK_refl ho
  have dn_I : (∀ b, K b = 0 ∨ K b = 1 ∨ K b = 3 ∨ K b = 6 → I b = I b) := fun _ _ => rfl
  have dj_J : J = J := rfl
  have kp0_11_I : I p0 11 = I p0 11 := rfl
  have fr_I : ∀ b, ¬ (K b = 7 ∨ K b = 28) → I b = I b := fun _ _ => rfl
  obtain ⟨A, hAe⟩ : ∃ A : Nat → Prop, A = (fun q => q ∈ L ∨ s.heap.size ≤ q) := ⟨_, rfl⟩
  rw [← hAe]
  have hAL : ∀ q, q ∈ L → A q := fun q h => by rw [hAe]; exact Or.inl h
  have hA : ∀ q, s.heap.size ≤ q → A q := fun q h => by rw [hAe]; exact Or.inr h
  have hD : ∀ F, va_D A (va_pl L F) := fun F => (hD0 F).weaken (fun k q hk _ => hAL _ (pl_mem hk))
  rw [← hAe] at hXs
  have hxx := hXs
  have hxt := hxx.1
  obtain ⟨H, hHe⟩ : ∃ H : Heap, H = s.heap := ⟨_, rfl⟩
  have hS : va_S A s.heap H [] := by rw [hHe]; exact va_S.rf
  rw [← hHe] at hP
  have hl := lv_entry ([.ref p0]) (n := 3) (Nat.le_of_ble_eq_true rfl)
  rw [lg_entry_eq]
  generalize (lg_sl ([.ref p0]) ++ List.replicate (3 - (lg_sl ([.ref p0])).length) Slot.unset).toArray = ls at hl ⊢
  have hl : lv_has ls 3 [(0, .ref p0)] := hl
  rw [← hHe]
  refine namedW (fun R Qz hR hQz => ?_)
  refine lv_bipush (v := 19) hx hb dX7_readsBody_0 (by decide +kernel) ?_
  refine lv_bipush (v := 8) hx hb dX7_readsBody_2 (by decide +kernel) ?_
  refine lv_aload_n hx hb dX7_readsBody_4 rfl (lv_at hl 0 rfl) ?_
  obtain ⟨y5, ey5, hLy5, hKy5⟩ := oQ_7_1 (Sv_at hQ hLp0 hKp0)
  refine p_get (v := .ref y5) hx hb hts inX7 hown hK hP hLp0 hKp0 rfl rfl 1 (by decide) (hts _ pq1116) (congrArg (fun q => some (va_rf q)) ey5) dX7_readsBody_5 ?_
  refine lv_iconst (v := 1) hx hb dX7_readsBody_8 (by decide +kernel) ?_
  refine p_iald hx hb hK hP 18 hLy5 hKy5 rfl rfl (in_d (by decide +kernel)) dX7_readsBody_9 ?_
  refine lv_topi (fun z9 ez9 => ?_)
  have b9 := ho hf y5 ey5 1 (by decide)
  unfold rng at b9
  have c9 := congrArg Int32.toInt (show z9 = I y5 1 from ez9)
  have m9 : 0 ≤ z9.toInt ∧ z9.toInt ≤ 9 := by have := hn y5 ey5; exact ⟨by omega, by omega⟩
  replace b9 : Hid _ := b9
  have ny5 : ¬ y5 = p0 := ne_k hKy5 hKp0 (by decide)
  refine lv_imul hx hb dX7_readsBody_10 ?_
  refine lv_topi (fun z10 ez10 => ?_)
  have bz10 := tq_mul (k := 8) (q := z9.toInt) ez10 (by decide +kernel) rfl (by omega) (by omega)
  refine lv_iadd hx hb dX7_readsBody_11 ?_
  refine lv_topi (fun z11 ez11 => ?_)
  have bz11 := tq_add (k := (19)) (q := z10.toInt) ez11 (by decide +kernel) rfl (by omega) (by omega)
  refine lv_istore_n (lv' := [(1, .int z11), (0, .ref p0)]) hx hb dX7_readsBody_12 rfl hl (by decide) rfl (fun ls hl => ?_)
  refine lv_aload_n hx hb dX7_readsBody_13 rfl (lv_at hl 1 rfl) ?_
  refine p_get (v := .ref y5) hx hb hts inX7 hown hK hP hLp0 hKp0 rfl rfl 1 (by decide) (hts _ pq1116) (congrArg (fun q => some (va_rf q)) ey5) dX7_readsBody_14 ?_
  refine lv_iload_n hx hb dX7_readsBody_17 rfl (lv_at hl 0 rfl) ?_
  refine lv_iconst (v := 0) hx hb dX7_readsBody_18 (by decide +kernel) ?_
  refine lv_iadd hx hb dX7_readsBody_19 ?_
  refine lv_topi (fun z19 ez19 => ?_)
  have bz19 := tq_add (k := z11.toInt) (q := (0)) ez19 rfl (by decide +kernel) (by omega) (by omega)
  refine lv_aload_n hx hb dX7_readsBody_20 rfl (lv_at hl 1 rfl) ?_
  refine lv_iconst (v := 0) hx hb dX7_readsBody_21 (by decide +kernel) ?_
  refine lv_aload_n hx hb dX7_readsBody_22 rfl (lv_at hl 1 rfl) ?_
  refine p_get (v := .ref y5) hx hb hts inX7 hown hK hP hLp0 hKp0 rfl rfl 1 (by decide) (hts _ pq1116) (congrArg (fun q => some (va_rf q)) ey5) dX7_readsBody_23 ?_
  refine lv_iconst (v := 0) hx hb dX7_readsBody_26 (by decide +kernel) ?_
  refine p_iald hx hb hK hP 18 hLy5 hKy5 rfl rfl (in_d (by decide +kernel)) dX7_readsBody_27 ?_
  refine lv_topi (fun z27 ez27 => ?_)
  have b27 := ho hf y5 ey5 0 (by decide)
  unfold rng at b27
  have c27 := congrArg Int32.toInt (show z27 = I y5 0 from ez27)
  have m27 : 0 ≤ z27.toInt ∧ z27.toInt ≤ 8 := ⟨by omega, by omega⟩
  replace b27 : Hid _ := b27
  refine lv_iconst (v := 1) hx hb dX7_readsBody_28 (by decide +kernel) ?_
  refine lv_isub hx hb dX7_readsBody_29 ?_
  refine lv_topi (fun z29 ez29 => ?_)
  have bz29 := tq_sub (k := z27.toInt) (q := 1) ez29 rfl (by decide +kernel) (by omega) (by omega)
  refine sw_ir (Z := (fun u => (fun I1 J1 => Iv L K x0 m0 tx tm I1 ∧ (∀ b, ¬ (b = p0) → I1 b = I b) ∧ I1 p0 11 = I p0 11 ∧ ((I p0 14).toInt ≤ (I1 p0 14).toInt ∧ ((I1 p0 15).toInt = -1 → (I p0 15).toInt = -1) ∧ ((I1 p0 15).toInt = -1 → (0 : Int32).toInt ≤ u.toInt ∧ u.toInt ≤ z29.toInt)) ∧ mdQ I I1 p0 (pn (tb tm.1.2.2 (I p0 13).toInt) (0 : Int32).toInt z29.toInt (I p0 14).toInt) ∧ (∀ b, K b = 0 ∨ K b = 1 ∨ K b = 3 ∨ K b = 6 → I1 b = I b) ∧ ((I1 p0 15).toInt = -1 → u.toInt = nv (tb tm.1.2.2 (I p0 13).toInt) (I p0 14).toInt) ∧ J1 = J))) (va_runV (As := [.int 0, .int z29]) (rest := [.int z19, .ref y5]) ⟨hx, hb, hml, hown, hts⟩ (s_X7_number l dC dI cs L K G Q hQ x0 m0 tx tm H.size I J hI p0 hLp0 hKp0 0 ⟨by decide +kernel, by decide +kernel⟩ z29 ⟨by omega, by omega⟩) (cwV 2 hts (gV pq1262 pq1264 pq18 pq81 pq1265) rfl rfl rfl (by decide +kernel) ⟨(by rw [hR]; exact (Nat.le_of_ble_eq_true rfl)), (by rw [hR]; exact (Nat.le_of_ble_eq_true rfl))⟩) (sP_V hP hD hK hN hLp0 hKp0 rfl rfl) rfl rfl hl.1 rfl (lv_room (Nat.le_of_ble_eq_true rfl)) dX7_readsBody_30 ⟨(by rw [hR]; exact (Nat.le_of_ble_eq_true rfl)), (by rw [hR]; exact (Nat.le_of_ble_eq_true rfl))⟩) hS hAL hA (fun z30 Iz30 Jz30 H locs hz30 hIz30 hP hS => ?_)
  obtain ⟨hIz30, frc30, kc30_0_11, zr30, fz30, dnc30, jz30, djc30⟩ := hIz30
  obtain rfl : J = Jz30 := djc30.symm
  replace zr30 : Hid _ := zr30
  replace fz30 : Hid _ := fz30
  have hk_Iz30 := hK_call hQ hLp0 hKp0 frc30 zr30.1 zr30.2.1 hk_I
  have dn_Iz30 : (∀ b, K b = 0 ∨ K b = 1 ∨ K b = 3 ∨ K b = 6 → Iz30 b = I b) := fun b hc => (dnc30 b (by omega)).trans (dn_I b hc)
  have kp0_11_Iz30 : Iz30 p0 11 = I p0 11 := kc30_0_11.trans kp0_11_I
  have fr_Iz30 : ∀ b, ¬ (K b = 7 ∨ K b = 28) → Iz30 b = I b := fun b q => (frc30 b (fun z => q (by rw [z]; have := hKp0; omega))).trans (fr_I b q)
  have cst30_0 : (0 : Int32).toInt = 0 := by decide +kernel
  have bz30 := hz30
  refine p_iast hx hb hK hP hD hS 18 hLy5 hKy5 rfl (fun _ => rfl) rfl (in_of (by omega) (by omega)) dX7_readsBody_33 (fun H locs hP hS => ?_)
  obtain ⟨Iz33, hP, hIz33, qIz33⟩ : ∃ Iz33, va_P (dC, dI) vwCl (Wd cs L K Iz33 J Q) H ∧ Iv L K x0 m0 tx tm Iz33 ∧ Iz33 = va_up Iz30 y5 (upd (Iz30 y5) z19.toNatClampNeg z30) := ⟨_, hP, Iv_put hIz30 hKy5 (show okI _ 28 _ from trivial) (Or.inl (by decide)) (Or.inl (by decide)), rfl⟩
  have dn_Iz33 : (∀ b, K b = 0 ∨ K b = 1 ∨ K b = 3 ∨ K b = 6 → Iz33 b = I b) := fun b hc => (congrFun qIz33 b).trans ((va_up_ne _ _ (fun z => by have q := hKy5; rw [← z] at q; omega)).trans (dn_Iz30 b hc))
  have hk_Iz33 := hK_put hQ hLp0 hKp0 ey5 qIz33 ⟨by omega, fun h => by have q := zr30.2.2 h; unfold rng; omega⟩ hk_Iz30
  have kp0_11_Iz33 : Iz33 p0 11 = I p0 11 := (congrFun (congrFun qIz33 p0) 11).trans ((congrFun (va_up_ne _ _ (fun z => by have q1 := hKp0; have q2 := hKy5; rw [z] at q1; omega)) 11).trans kp0_11_Iz30)
  have fr_Iz33 : ∀ b, ¬ (K b = 7 ∨ K b = 28) → Iz33 b = I b := fun b q => (congrFun qIz33 b).trans ((va_up_ne _ _ (fun z => q (by rw [z]; have := hKy5; omega))).trans (fr_Iz30 b q))
  refine lv_aload_n hx hb dX7_readsBody_34 rfl (lv_at hl 1 rfl) ?_
  refine p_get (v := .ref y5) hx hb hts inX7 hown hK hP hLp0 hKp0 rfl rfl 1 (by decide) (hts _ pq1116) (congrArg (fun q => some (va_rf q)) ey5) dX7_readsBody_35 ?_
  refine lv_iload_n hx hb dX7_readsBody_38 rfl (lv_at hl 0 rfl) ?_
  refine lv_iconst (v := 1) hx hb dX7_readsBody_39 (by decide +kernel) ?_
  refine lv_iadd hx hb dX7_readsBody_40 ?_
  refine lv_topi (fun z40 ez40 => ?_)
  have bz40 := tq_add (k := z11.toInt) (q := (1)) ez40 rfl (by decide +kernel) (by omega) (by omega)
  refine lv_aload_n hx hb dX7_readsBody_41 rfl (lv_at hl 1 rfl) ?_
  refine lv_sipush (v := 999) hx hb dX7_readsBody_42 (by decide +kernel) ?_
  refine sw_ir (Z := (fun u => (fun I1 J1 => Iv L K x0 m0 tx tm I1 ∧ (∀ b, ¬ (b = p0) → I1 b = Iz33 b) ∧ I1 p0 11 = Iz33 p0 11 ∧ ((Iz33 p0 14).toInt ≤ (I1 p0 14).toInt ∧ ((I1 p0 15).toInt = -1 → (Iz33 p0 15).toInt = -1) ∧ ((I1 p0 15).toInt = -1 → -(999 : Int32).toInt ≤ u.toInt ∧ u.toInt ≤ (999 : Int32).toInt)) ∧ mdQ Iz33 I1 p0 (ps (tb tm.1.2.2 (Iz33 p0 13).toInt) (999 : Int32).toInt (Iz33 p0 14).toInt) ∧ (∀ b, K b = 0 ∨ K b = 1 ∨ K b = 3 ∨ K b = 6 → I1 b = Iz33 b) ∧ ((I1 p0 15).toInt = -1 → u.toInt = sv (tb tm.1.2.2 (Iz33 p0 13).toInt) (Iz33 p0 14).toInt) ∧ J1 = J))) (va_runV (As := [.int 999]) (rest := [.int z40, .ref y5]) ⟨hx, hb, hml, hown, hts⟩ (s_X7_signed l dC dI cs L K G Q hQ x0 m0 tx tm H.size Iz33 J hIz33 p0 hLp0 hKp0 999 ⟨by decide +kernel, by decide +kernel⟩) (cwV 1 hts (gV pq1284 pq1286 pq22 pq81 pq1287) rfl rfl rfl (by decide +kernel) ⟨(by rw [hR]; exact (Nat.le_of_ble_eq_true rfl)), (by rw [hR]; exact (Nat.le_of_ble_eq_true rfl))⟩) (sP_V hP hD hK hN hLp0 hKp0 rfl rfl) rfl rfl hl.1 rfl (lv_room (Nat.le_of_ble_eq_true rfl)) dX7_readsBody_45 ⟨(by rw [hR]; exact (Nat.le_of_ble_eq_true rfl)), (by rw [hR]; exact (Nat.le_of_ble_eq_true rfl))⟩) hS hAL hA (fun z45 Iz45 Jz45 H locs hz45 hIz45 hP hS => ?_)
  obtain ⟨hIz45, frc45, kc45_0_11, zr45, fz45, dnc45, jz45, djc45⟩ := hIz45
  obtain rfl : J = Jz45 := djc45.symm
  replace zr45 : Hid _ := zr45
  replace fz45 : Hid _ := fz45
  have hk_Iz45 := hK_call hQ hLp0 hKp0 frc45 zr45.1 zr45.2.1 hk_Iz33
  have dn_Iz45 : (∀ b, K b = 0 ∨ K b = 1 ∨ K b = 3 ∨ K b = 6 → Iz45 b = I b) := fun b hc => (dnc45 b (by omega)).trans (dn_Iz33 b hc)
  have kp0_11_Iz45 : Iz45 p0 11 = I p0 11 := kc45_0_11.trans kp0_11_Iz33
  have fr_Iz45 : ∀ b, ¬ (K b = 7 ∨ K b = 28) → Iz45 b = I b := fun b q => (frc45 b (fun z => q (by rw [z]; have := hKp0; omega))).trans (fr_Iz33 b q)
  have cst45_999 : (999 : Int32).toInt = 999 := by decide +kernel
  have bz45 := hz45
  refine p_iast hx hb hK hP hD hS 18 hLy5 hKy5 rfl (fun _ => rfl) rfl (in_of (by omega) (by omega)) dX7_readsBody_48 (fun H locs hP hS => ?_)
  obtain ⟨Iz48, hP, hIz48, qIz48⟩ : ∃ Iz48, va_P (dC, dI) vwCl (Wd cs L K Iz48 J Q) H ∧ Iv L K x0 m0 tx tm Iz48 ∧ Iz48 = va_up Iz45 y5 (upd (Iz45 y5) z40.toNatClampNeg z45) := ⟨_, hP, Iv_put hIz45 hKy5 (show okI _ 28 _ from trivial) (Or.inl (by decide)) (Or.inl (by decide)), rfl⟩
  have dn_Iz48 : (∀ b, K b = 0 ∨ K b = 1 ∨ K b = 3 ∨ K b = 6 → Iz48 b = I b) := fun b hc => (congrFun qIz48 b).trans ((va_up_ne _ _ (fun z => by have q := hKy5; rw [← z] at q; omega)).trans (dn_Iz45 b hc))
  have hk_Iz48 := hK_put hQ hLp0 hKp0 ey5 qIz48 ⟨by omega, fun h => by have q := zr45.2.2 h; unfold rng; omega⟩ hk_Iz45
  have kp0_11_Iz48 : Iz48 p0 11 = I p0 11 := (congrFun (congrFun qIz48 p0) 11).trans ((congrFun (va_up_ne _ _ (fun z => by have q1 := hKp0; have q2 := hKy5; rw [z] at q1; omega)) 11).trans kp0_11_Iz45)
  have fr_Iz48 : ∀ b, ¬ (K b = 7 ∨ K b = 28) → Iz48 b = I b := fun b q => (congrFun qIz48 b).trans ((va_up_ne _ _ (fun z => q (by rw [z]; have := hKy5; omega))).trans (fr_Iz45 b q))
  refine lv_aload_n hx hb dX7_readsBody_49 rfl (lv_at hl 1 rfl) ?_
  refine p_get (v := .ref y5) hx hb hts inX7 hown hK hP hLp0 hKp0 rfl rfl 1 (by decide) (hts _ pq1116) (congrArg (fun q => some (va_rf q)) ey5) dX7_readsBody_50 ?_
  refine lv_iload_n hx hb dX7_readsBody_53 rfl (lv_at hl 0 rfl) ?_
  refine lv_iconst (v := 2) hx hb dX7_readsBody_54 (by decide +kernel) ?_
  refine lv_iadd hx hb dX7_readsBody_55 ?_
  refine lv_topi (fun z55 ez55 => ?_)
  have bz55 := tq_add (k := z11.toInt) (q := (2)) ez55 rfl (by decide +kernel) (by omega) (by omega)
  refine lv_aload_n hx hb dX7_readsBody_56 rfl (lv_at hl 1 rfl) ?_
  refine lv_sipush (v := 999) hx hb dX7_readsBody_57 (by decide +kernel) ?_
  refine sw_ir (Z := (fun u => (fun I1 J1 => Iv L K x0 m0 tx tm I1 ∧ (∀ b, ¬ (b = p0) → I1 b = Iz48 b) ∧ I1 p0 11 = Iz48 p0 11 ∧ ((Iz48 p0 14).toInt ≤ (I1 p0 14).toInt ∧ ((I1 p0 15).toInt = -1 → (Iz48 p0 15).toInt = -1) ∧ ((I1 p0 15).toInt = -1 → -(999 : Int32).toInt ≤ u.toInt ∧ u.toInt ≤ (999 : Int32).toInt)) ∧ mdQ Iz48 I1 p0 (ps (tb tm.1.2.2 (Iz48 p0 13).toInt) (999 : Int32).toInt (Iz48 p0 14).toInt) ∧ (∀ b, K b = 0 ∨ K b = 1 ∨ K b = 3 ∨ K b = 6 → I1 b = Iz48 b) ∧ ((I1 p0 15).toInt = -1 → u.toInt = sv (tb tm.1.2.2 (Iz48 p0 13).toInt) (Iz48 p0 14).toInt) ∧ J1 = J))) (va_runV (As := [.int 999]) (rest := [.int z55, .ref y5]) ⟨hx, hb, hml, hown, hts⟩ (s_X7_signed l dC dI cs L K G Q hQ x0 m0 tx tm H.size Iz48 J hIz48 p0 hLp0 hKp0 999 ⟨by decide +kernel, by decide +kernel⟩) (cwV 1 hts (gV pq1284 pq1286 pq22 pq81 pq1287) rfl rfl rfl (by decide +kernel) ⟨(by rw [hR]; exact (Nat.le_of_ble_eq_true rfl)), (by rw [hR]; exact (Nat.le_of_ble_eq_true rfl))⟩) (sP_V hP hD hK hN hLp0 hKp0 rfl rfl) rfl rfl hl.1 rfl (lv_room (Nat.le_of_ble_eq_true rfl)) dX7_readsBody_60 ⟨(by rw [hR]; exact (Nat.le_of_ble_eq_true rfl)), (by rw [hR]; exact (Nat.le_of_ble_eq_true rfl))⟩) hS hAL hA (fun z60 Iz60 Jz60 H locs hz60 hIz60 hP hS => ?_)
  obtain ⟨hIz60, frc60, kc60_0_11, zr60, fz60, dnc60, jz60, djc60⟩ := hIz60
  obtain rfl : J = Jz60 := djc60.symm
  replace zr60 : Hid _ := zr60
  replace fz60 : Hid _ := fz60
  have hk_Iz60 := hK_call hQ hLp0 hKp0 frc60 zr60.1 zr60.2.1 hk_Iz48
  have dn_Iz60 : (∀ b, K b = 0 ∨ K b = 1 ∨ K b = 3 ∨ K b = 6 → Iz60 b = I b) := fun b hc => (dnc60 b (by omega)).trans (dn_Iz48 b hc)
  have kp0_11_Iz60 : Iz60 p0 11 = I p0 11 := kc60_0_11.trans kp0_11_Iz48
  have fr_Iz60 : ∀ b, ¬ (K b = 7 ∨ K b = 28) → Iz60 b = I b := fun b q => (frc60 b (fun z => q (by rw [z]; have := hKp0; omega))).trans (fr_Iz48 b q)
  have cst60_999 : (999 : Int32).toInt = 999 := by decide +kernel
  have bz60 := hz60
  refine p_iast hx hb hK hP hD hS 18 hLy5 hKy5 rfl (fun _ => rfl) rfl (in_of (by omega) (by omega)) dX7_readsBody_63 (fun H locs hP hS => ?_)
  obtain ⟨Iz63, hP, hIz63, qIz63⟩ : ∃ Iz63, va_P (dC, dI) vwCl (Wd cs L K Iz63 J Q) H ∧ Iv L K x0 m0 tx tm Iz63 ∧ Iz63 = va_up Iz60 y5 (upd (Iz60 y5) z55.toNatClampNeg z60) := ⟨_, hP, Iv_put hIz60 hKy5 (show okI _ 28 _ from trivial) (Or.inl (by decide)) (Or.inl (by decide)), rfl⟩
  have dn_Iz63 : (∀ b, K b = 0 ∨ K b = 1 ∨ K b = 3 ∨ K b = 6 → Iz63 b = I b) := fun b hc => (congrFun qIz63 b).trans ((va_up_ne _ _ (fun z => by have q := hKy5; rw [← z] at q; omega)).trans (dn_Iz60 b hc))
  have hk_Iz63 := hK_put hQ hLp0 hKp0 ey5 qIz63 ⟨by omega, fun h => by have q := zr60.2.2 h; unfold rng; omega⟩ hk_Iz60
  have kp0_11_Iz63 : Iz63 p0 11 = I p0 11 := (congrFun (congrFun qIz63 p0) 11).trans ((congrFun (va_up_ne _ _ (fun z => by have q1 := hKp0; have q2 := hKy5; rw [z] at q1; omega)) 11).trans kp0_11_Iz60)
  have fr_Iz63 : ∀ b, ¬ (K b = 7 ∨ K b = 28) → Iz63 b = I b := fun b q => (congrFun qIz63 b).trans ((va_up_ne _ _ (fun z => q (by rw [z]; have := hKy5; omega))).trans (fr_Iz60 b q))
  have B1 : mdQ I Iz30 p0 (pn (tb tm.1.2.2 (I p0 13).toInt) 0 ((I ((Q p0 1).getD 0) 0).toInt - 1) (I p0 14).toInt) := by have q := fz30; rw [show z29.toInt = (I ((Q p0 1).getD 0) 0).toInt - 1 by (rw [show ((Q p0 1).getD 0) = y5 from (by rw [ey5]; rfl)]; have := bz29; omega)] at q; exact q
  have B2 : mdQ I Iz45 p0 (sq (pn (tb tm.1.2.2 (I p0 13).toInt) 0 ((I ((Q p0 1).getD 0) 0).toInt - 1) (I p0 14).toInt) (ps (tb tm.1.2.2 (I p0 13).toInt) 999)) := mdQ_bind (g := fun t => ps t 999) (mdQ_S B1 (md_fr (by rw [qIz33, va_up_ne _ _ (ne_k hKp0 hKy5 (by decide))]))) fz45
  have B3 : mdQ I Iz63 p0 (sq (sq (pn (tb tm.1.2.2 (I p0 13).toInt) 0 ((I ((Q p0 1).getD 0) 0).toInt - 1) (I p0 14).toInt) (ps (tb tm.1.2.2 (I p0 13).toInt) 999)) (ps (tb tm.1.2.2 (I p0 13).toInt) 999)) := mdQ_S (mdQ_bind (g := fun t => ps t 999) (mdQ_S B2 (md_fr (by rw [qIz48, va_up_ne _ _ (ne_k hKp0 hKy5 (by decide))]))) fz60) (md_fr (by rw [qIz63, va_up_ne _ _ (ne_k hKp0 hKy5 (by decide))]))
  refine lv_aload_n hx hb dX7_readsBody_64 rfl (lv_at hl 1 rfl) ?_
  refine p_get (v := .ref y5) hx hb hts inX7 hown hK hP hLp0 hKp0 rfl rfl 1 (by decide) (hts _ pq1116) (congrArg (fun q => some (va_rf q)) ey5) dX7_readsBody_65 ?_
  refine lv_iload_n hx hb dX7_readsBody_68 rfl (lv_at hl 0 rfl) ?_
  refine lv_iconst (v := 3) hx hb dX7_readsBody_69 (by decide +kernel) ?_
  refine lv_iadd hx hb dX7_readsBody_70 ?_
  refine lv_topi (fun z70 ez70 => ?_)
  have bz70 := tq_add (k := z11.toInt) (q := (3)) ez70 rfl (by decide +kernel) (by omega) (by omega)
  refine lv_aload_n hx hb dX7_readsBody_71 rfl (lv_at hl 1 rfl) ?_
  refine ro_i (va_runV (As := []) (rest := [.int z70, .ref y5]) ⟨hx, hb, hml, hown, hts⟩ (s_X7_isRight l dC dI cs L K G Q hQ x0 m0 tx tm H.size Iz63 J hIz63 p0 hLp0 hKp0) (cwV 0 hts (gV pq1219 pq1221 pq12 pq81 pq1222) rfl rfl rfl (by decide +kernel) ⟨(by rw [hR]; exact (Nat.le_of_ble_eq_true rfl)), (by rw [hR]; exact (Nat.le_of_ble_eq_true rfl))⟩) (sP_V hP hD hK hN hLp0 hKp0 rfl rfl) rfl rfl hl.1 rfl (lv_room (Nat.le_of_ble_eq_true rfl)) dX7_readsBody_72 ⟨(by rw [hR]; exact (Nat.le_of_ble_eq_true rfl)), (by rw [hR]; exact (Nat.le_of_ble_eq_true rfl))⟩) hS hP (fun z72 H locs hz72 hP hS => ?_)
  obtain ⟨bz72, xpz72⟩ := hz72
  replace xpz72 : Hid _ := xpz72
  have j97 : ∀ (w97_2 : Int32) (I97 : Nat → Nat → Int32) (H : Heap) (lo : List Loc) (ls : Array Slot), ((0) ≤ w97_2.toInt ∧ w97_2.toInt ≤ 100000) → Iv L K x0 m0 tx tm I97 → I97 p0 11 = I p0 11 → (∀ b, ¬ (K b = 7 ∨ K b = 28) → I97 b = I b) → hHK Q I I97 p0 → (∀ b, K b = 0 ∨ K b = 1 ∨ K b = 3 ∨ K b = 6 → I97 b = I b) → Hid (((((I97 p0 15).toInt = -1) → ((Iz63 p0 15).toInt = -1) ∧ w97_2 = fl0 (tb tm.1.2.2 (I p0 13).toInt) (Iz63 p0 14).toInt) ∧ I97 y5 = Iz63 y5)) → mdQ I I97 p0 (sq (sq (sq (pn (tb tm.1.2.2 (I p0 13).toInt) 0 ((I ((Q p0 1).getD 0) 0).toInt - 1) (I p0 14).toInt) (ps (tb tm.1.2.2 (I p0 13).toInt) 999)) (ps (tb tm.1.2.2 (I p0 13).toInt) 999)) (pfl (tb tm.1.2.2 (I p0 13).toInt))) → va_P (dC, dI) vwCl (Wd cs L K I97 J Q) H → va_S A s.heap H lo → lv_has ls 3 [(0, .ref p0), (1, .int z11)] → W p l e R s m (([.ref p0] : List Value).toArray) below meth c H lo 0 0 Qz (F0 m 97 ls [.int w97_2, .int z70, .ref y5]) := by
    intro w97_2 I97 H lo ls bw97_2 hI97 kp0_11_I97 fr_I97 hk_I97 dn_I97 g97 hc97 hP hS hl
    refine p_iast hx hb hK hP hD hS 18 hLy5 hKy5 rfl (fun _ => rfl) rfl (in_of (by omega) (by omega)) dX7_readsBody_97 (fun H locs hP hS => ?_)
    obtain ⟨Iz97, hP, hIz97, qIz97⟩ : ∃ Iz97, va_P (dC, dI) vwCl (Wd cs L K Iz97 J Q) H ∧ Iv L K x0 m0 tx tm Iz97 ∧ Iz97 = va_up I97 y5 (upd (I97 y5) z70.toNatClampNeg w97_2) := ⟨_, hP, Iv_put hI97 hKy5 (show okI _ 28 _ from trivial) (Or.inl (by decide)) (Or.inl (by decide)), rfl⟩
    have dn_Iz97 : (∀ b, K b = 0 ∨ K b = 1 ∨ K b = 3 ∨ K b = 6 → Iz97 b = I b) := fun b hc => (congrFun qIz97 b).trans ((va_up_ne _ _ (fun z => by have q := hKy5; rw [← z] at q; omega)).trans (dn_I97 b hc))
    have hk_Iz97 := hK_put hQ hLp0 hKp0 ey5 qIz97 ⟨by omega, fun _ => by unfold rng; omega⟩ hk_I97
    have kp0_11_Iz97 : Iz97 p0 11 = I p0 11 := (congrFun (congrFun qIz97 p0) 11).trans ((congrFun (va_up_ne _ _ (fun z => by have q1 := hKp0; have q2 := hKy5; rw [z] at q1; omega)) 11).trans kp0_11_I97)
    have fr_Iz97 : ∀ b, ¬ (K b = 7 ∨ K b = 28) → Iz97 b = I b := fun b q => (congrFun qIz97 b).trans ((va_up_ne _ _ (fun z => q (by rw [z]; have := hKy5; omega))).trans (fr_I97 b q))
    have B4 : mdQ I Iz97 p0 (sq (sq (sq (pn (tb tm.1.2.2 (I p0 13).toInt) 0 ((I ((Q p0 1).getD 0) 0).toInt - 1) (I p0 14).toInt) (ps (tb tm.1.2.2 (I p0 13).toInt) 999)) (ps (tb tm.1.2.2 (I p0 13).toInt) 999)) (pfl (tb tm.1.2.2 (I p0 13).toInt))) := mdQ_S hc97 (md_fr (by rw [qIz97, va_up_ne _ _ (ne_k hKp0 hKy5 (by decide))]))
    refine lv_aload_n hx hb dX7_readsBody_98 rfl (lv_at hl 0 rfl) ?_
    refine ro_i (va_runV (As := []) (rest := []) ⟨hx, hb, hml, hown, hts⟩ (s_X7_isRight l dC dI cs L K G Q hQ x0 m0 tx tm H.size Iz97 J hIz97 p0 hLp0 hKp0) (cwV 0 hts (gV pq1219 pq1221 pq12 pq81 pq1222) rfl rfl rfl (by decide +kernel) ⟨(by rw [hR]; exact (Nat.le_of_ble_eq_true rfl)), (by rw [hR]; exact (Nat.le_of_ble_eq_true rfl))⟩) (sP_V hP hD hK hN hLp0 hKp0 rfl rfl) rfl rfl hl.1 rfl (lv_room (Nat.le_of_ble_eq_true rfl)) dX7_readsBody_99 ⟨(by rw [hR]; exact (Nat.le_of_ble_eq_true rfl)), (by rw [hR]; exact (Nat.le_of_ble_eq_true rfl))⟩) hS hP (fun z99 H locs hz99 hP hS => ?_)
    obtain ⟨bz99, xpz99⟩ := hz99
    replace xpz99 : Hid _ := xpz99
    have j119 : ∀ (w119_0 : Int32) (I119 : Nat → Nat → Int32) (H : Heap) (lo : List Loc) (ls : Array Slot), ((0) ≤ w119_0.toInt ∧ w119_0.toInt ≤ 1) → Iv L K x0 m0 tx tm I119 → I119 p0 11 = I p0 11 → (∀ b, ¬ (K b = 7 ∨ K b = 28) → I119 b = I b) → hHK Q I I119 p0 → (∀ b, K b = 0 ∨ K b = 1 ∨ K b = 3 ∨ K b = 6 → I119 b = I b) → Hid (((w119_0.toInt = 0 → ((I119 p0 15).toInt = -1) → ¬ tw (tb tm.1.2.2 (I p0 13).toInt) wLayer (Iz97 p0 14).toInt) ∧ I119 y5 = Iz97 y5)) → mdO tm.1.2.2 Iz97 I119 p0 w119_0.toInt wLayer ply → va_P (dC, dI) vwCl (Wd cs L K I119 J Q) H → va_S A s.heap H lo → lv_has ls 3 [(0, .ref p0), (1, .int z11)] → W p l e R s m (([.ref p0] : List Value).toArray) below meth c H lo 0 0 Qz (F0 m 119 ls [.int w119_0]) := by
      intro w119_0 I119 H lo ls bw119_0 hI119 kp0_11_I119 fr_I119 hk_I119 dn_I119 g119 hc119 hP hS hl
      refine lv_istore_n (lv' := [(2, .int w119_0), (0, .ref p0), (1, .int z11)]) hx hb dX7_readsBody_119 rfl hl (by decide) rfl (fun ls hl => ?_)
      refine lv_aload_n hx hb dX7_readsBody_120 rfl (lv_at hl 1 rfl) ?_
      refine p_get (v := .ref y5) hx hb hts inX7 hown hK hP hLp0 hKp0 rfl rfl 1 (by decide) (hts _ pq1116) (congrArg (fun q => some (va_rf q)) ey5) dX7_readsBody_121 ?_
      refine lv_iload_n hx hb dX7_readsBody_124 rfl (lv_at hl 2 rfl) ?_
      refine lv_iconst (v := 4) hx hb dX7_readsBody_125 (by decide +kernel) ?_
      refine lv_iadd hx hb dX7_readsBody_126 ?_
      refine lv_topi (fun z126 ez126 => ?_)
      have bz126 := tq_add (k := z11.toInt) (q := (4)) ez126 rfl (by decide +kernel) (by omega) (by omega)
      refine lv_iload_n hx hb dX7_readsBody_127 rfl (lv_at hl 0 rfl) ?_
      have j142 : ∀ (w142_2 : Int32) (I142 : Nat → Nat → Int32) (H : Heap) (lo : List Loc) (ls : Array Slot), ((0) ≤ w142_2.toInt ∧ w142_2.toInt ≤ 100000) → Iv L K x0 m0 tx tm I142 → I142 p0 11 = I p0 11 → (∀ b, ¬ (K b = 7 ∨ K b = 28) → I142 b = I b) → hHK Q I I142 p0 → (∀ b, K b = 0 ∨ K b = 1 ∨ K b = 3 ∨ K b = 6 → I142 b = I b) → Hid (((((I142 p0 15).toInt = -1) → ((I119 p0 15).toInt = -1) ∧ w142_2 = ly1 (tb tm.1.2.2 (I p0 13).toInt) (Iz97 p0 14).toInt) ∧ I142 y5 = Iz97 y5)) → mdO2 tm.1.2.2 Iz97 I142 p0 w119_0.toInt wLayer (fun t => pn t 0 15) ply → va_P (dC, dI) vwCl (Wd cs L K I142 J Q) H → va_S A s.heap H lo → lv_has ls 3 [(0, .ref p0), (1, .int z11), (2, .int w119_0)] → W p l e R s m (([.ref p0] : List Value).toArray) below meth c H lo 0 0 Qz (F0 m 142 ls [.int w142_2, .int z126, .ref y5]) := by
        intro w142_2 I142 H lo ls bw142_2 hI142 kp0_11_I142 fr_I142 hk_I142 dn_I142 g142 hc142 hP hS hl
        refine p_iast hx hb hK hP hD hS 18 hLy5 hKy5 rfl (fun _ => rfl) rfl (in_of (by omega) (by omega)) dX7_readsBody_142 (fun H locs hP hS => ?_)
        obtain ⟨Iz142, hP, hIz142, qIz142⟩ : ∃ Iz142, va_P (dC, dI) vwCl (Wd cs L K Iz142 J Q) H ∧ Iv L K x0 m0 tx tm Iz142 ∧ Iz142 = va_up I142 y5 (upd (I142 y5) z126.toNatClampNeg w142_2) := ⟨_, hP, Iv_put hI142 hKy5 (show okI _ 28 _ from trivial) (Or.inl (by decide)) (Or.inl (by decide)), rfl⟩
        have dn_Iz142 : (∀ b, K b = 0 ∨ K b = 1 ∨ K b = 3 ∨ K b = 6 → Iz142 b = I b) := fun b hc => (congrFun qIz142 b).trans ((va_up_ne _ _ (fun z => by have q := hKy5; rw [← z] at q; omega)).trans (dn_I142 b hc))
        have hk_Iz142 := hK_put hQ hLp0 hKp0 ey5 qIz142 ⟨by omega, fun _ => by unfold rng; omega⟩ hk_I142
        have kp0_11_Iz142 : Iz142 p0 11 = I p0 11 := (congrFun (congrFun qIz142 p0) 11).trans ((congrFun (va_up_ne _ _ (fun z => by have q1 := hKp0; have q2 := hKy5; rw [z] at q1; omega)) 11).trans kp0_11_I142)
        have fr_Iz142 : ∀ b, ¬ (K b = 7 ∨ K b = 28) → Iz142 b = I b := fun b q => (congrFun qIz142 b).trans ((va_up_ne _ _ (fun z => q (by rw [z]; have := hKy5; omega))).trans (fr_I142 b q))
        refine lv_aload_n hx hb dX7_readsBody_143 rfl (lv_at hl 0 rfl) ?_
        refine p_get (v := .ref y5) hx hb hts inX7 hown hK hP hLp0 hKp0 rfl rfl 1 (by decide) (hts _ pq1116) (congrArg (fun q => some (va_rf q)) ey5) dX7_readsBody_144 ?_
        refine lv_iload_n hx hb dX7_readsBody_147 rfl (lv_at hl 1 rfl) ?_
        refine lv_iconst (v := 5) hx hb dX7_readsBody_148 (by decide +kernel) ?_
        refine lv_iadd hx hb dX7_readsBody_149 ?_
        refine lv_topi (fun z149 ez149 => ?_)
        have bz149 := tq_add (k := z11.toInt) (q := (5)) ez149 rfl (by decide +kernel) (by omega) (by omega)
        refine lv_iload_n hx hb dX7_readsBody_150 rfl (lv_at hl 2 rfl) ?_
        have j165 : ∀ (w165_2 : Int32) (I165 : Nat → Nat → Int32) (H : Heap) (lo : List Loc) (ls : Array Slot), ((0) ≤ w165_2.toInt ∧ w165_2.toInt ≤ 100000) → Iv L K x0 m0 tx tm I165 → I165 p0 11 = I p0 11 → (∀ b, ¬ (K b = 7 ∨ K b = 28) → I165 b = I b) → hHK Q I I165 p0 → (∀ b, K b = 0 ∨ K b = 1 ∨ K b = 3 ∨ K b = 6 → I165 b = I b) → Hid (((((I165 p0 15).toInt = -1) → ((Iz142 p0 15).toInt = -1) ∧ w165_2 = ly2 (tb tm.1.2.2 (I p0 13).toInt) (Iz97 p0 14).toInt) ∧ I165 y5 = Iz142 y5)) → mdQ Iz97 I165 p0 (ply (tb tm.1.2.2 (Iz97 p0 13).toInt) (Iz97 p0 14).toInt) → va_P (dC, dI) vwCl (Wd cs L K I165 J Q) H → va_S A s.heap H lo → lv_has ls 3 [(0, .ref p0), (1, .int z11), (2, .int w119_0)] → W p l e R s m (([.ref p0] : List Value).toArray) below meth c H lo 0 0 Qz (F0 m 165 ls [.int w165_2, .int z149, .ref y5]) := by
          intro w165_2 I165 H lo ls bw165_2 hI165 kp0_11_I165 fr_I165 hk_I165 dn_I165 g165 hc165 hP hS hl
          refine p_iast hx hb hK hP hD hS 18 hLy5 hKy5 rfl (fun _ => rfl) rfl (in_of (by omega) (by omega)) dX7_readsBody_165 (fun H locs hP hS => ?_)
          obtain ⟨Iz165, hP, hIz165, qIz165⟩ : ∃ Iz165, va_P (dC, dI) vwCl (Wd cs L K Iz165 J Q) H ∧ Iv L K x0 m0 tx tm Iz165 ∧ Iz165 = va_up I165 y5 (upd (I165 y5) z149.toNatClampNeg w165_2) := ⟨_, hP, Iv_put hI165 hKy5 (show okI _ 28 _ from trivial) (Or.inl (by decide)) (Or.inl (by decide)), rfl⟩
          have dn_Iz165 : (∀ b, K b = 0 ∨ K b = 1 ∨ K b = 3 ∨ K b = 6 → Iz165 b = I b) := fun b hc => (congrFun qIz165 b).trans ((va_up_ne _ _ (fun z => by have q := hKy5; rw [← z] at q; omega)).trans (dn_I165 b hc))
          have hk_Iz165 := hK_put hQ hLp0 hKp0 ey5 qIz165 ⟨by omega, fun _ => by unfold rng; omega⟩ hk_I165
          have kp0_11_Iz165 : Iz165 p0 11 = I p0 11 := (congrFun (congrFun qIz165 p0) 11).trans ((congrFun (va_up_ne _ _ (fun z => by have q1 := hKp0; have q2 := hKy5; rw [z] at q1; omega)) 11).trans kp0_11_I165)
          have fr_Iz165 : ∀ b, ¬ (K b = 7 ∨ K b = 28) → Iz165 b = I b := fun b q => (congrFun qIz165 b).trans ((va_up_ne _ _ (fun z => q (by rw [z]; have := hKy5; omega))).trans (fr_I165 b q))
          have B5 : mdQ I Iz165 p0 (sq (sq (sq (sq (pn (tb tm.1.2.2 (I p0 13).toInt) 0 ((I ((Q p0 1).getD 0) 0).toInt - 1) (I p0 14).toInt) (ps (tb tm.1.2.2 (I p0 13).toInt) 999)) (ps (tb tm.1.2.2 (I p0 13).toInt) 999)) (pfl (tb tm.1.2.2 (I p0 13).toInt))) (ply (tb tm.1.2.2 (I p0 13).toInt))) := mdQ_bind (g := ply) B4 (mdQ_S hc165 (md_fr (by rw [qIz165, va_up_ne _ _ (ne_k hKp0 hKy5 (by decide))])))
          refine lv_aload_n hx hb dX7_readsBody_166 rfl (lv_at hl 0 rfl) ?_
          refine ro_i (va_runV (As := []) (rest := []) ⟨hx, hb, hml, hown, hts⟩ (s_X7_isRight l dC dI cs L K G Q hQ x0 m0 tx tm H.size Iz165 J hIz165 p0 hLp0 hKp0) (cwV 0 hts (gV pq1219 pq1221 pq12 pq81 pq1222) rfl rfl rfl (by decide +kernel) ⟨(by rw [hR]; exact (Nat.le_of_ble_eq_true rfl)), (by rw [hR]; exact (Nat.le_of_ble_eq_true rfl))⟩) (sP_V hP hD hK hN hLp0 hKp0 rfl rfl) rfl rfl hl.1 rfl (lv_room (Nat.le_of_ble_eq_true rfl)) dX7_readsBody_167 ⟨(by rw [hR]; exact (Nat.le_of_ble_eq_true rfl)), (by rw [hR]; exact (Nat.le_of_ble_eq_true rfl))⟩) hS hP (fun z167 H locs hz167 hP hS => ?_)
          obtain ⟨bz167, xpz167⟩ := hz167
          replace xpz167 : Hid _ := xpz167
          have j187 : ∀ (w187_0 : Int32) (I187 : Nat → Nat → Int32) (H : Heap) (lo : List Loc) (ls : Array Slot), ((0) ≤ w187_0.toInt ∧ w187_0.toInt ≤ 1) → Iv L K x0 m0 tx tm I187 → I187 p0 11 = I p0 11 → (∀ b, ¬ (K b = 7 ∨ K b = 28) → I187 b = I b) → hHK Q I I187 p0 → (∀ b, K b = 0 ∨ K b = 1 ∨ K b = 3 ∨ K b = 6 → I187 b = I b) → Hid (((w187_0.toInt = 0 → ((I187 p0 15).toInt = -1) → ¬ tw (tb tm.1.2.2 (I p0 13).toInt) wMoves (Iz165 p0 14).toInt) ∧ I187 y5 = Iz165 y5)) → mdO tm.1.2.2 Iz165 I187 p0 w187_0.toInt wMoves pmv → va_P (dC, dI) vwCl (Wd cs L K I187 J Q) H → va_S A s.heap H lo → lv_has ls 3 [(0, .ref p0), (1, .int z11), (2, .int w119_0)] → W p l e R s m (([.ref p0] : List Value).toArray) below meth c H lo 0 0 Qz (F0 m 187 ls [.int w187_0]) := by
            intro w187_0 I187 H lo ls bw187_0 hI187 kp0_11_I187 fr_I187 hk_I187 dn_I187 g187 hc187 hP hS hl
            refine lv_istore_n (lv' := [(2, .int w187_0), (0, .ref p0), (1, .int z11)]) hx hb dX7_readsBody_187 rfl hl (by decide) rfl (fun ls hl => ?_)
            refine lv_aload_n hx hb dX7_readsBody_188 rfl (lv_at hl 1 rfl) ?_
            refine p_get (v := .ref y5) hx hb hts inX7 hown hK hP hLp0 hKp0 rfl rfl 1 (by decide) (hts _ pq1116) (congrArg (fun q => some (va_rf q)) ey5) dX7_readsBody_189 ?_
            refine lv_iload_n hx hb dX7_readsBody_192 rfl (lv_at hl 2 rfl) ?_
            refine lv_bipush (v := 6) hx hb dX7_readsBody_193 (by decide +kernel) ?_
            refine lv_iadd hx hb dX7_readsBody_195 ?_
            refine lv_topi (fun z195 ez195 => ?_)
            have bz195 := tq_add (k := z11.toInt) (q := (6)) ez195 rfl (by decide +kernel) (by omega) (by omega)
            refine lv_iload_n hx hb dX7_readsBody_196 rfl (lv_at hl 0 rfl) ?_
            have j210 : ∀ (w210_2 : Int32) (I210 : Nat → Nat → Int32) (H : Heap) (lo : List Loc) (ls : Array Slot), ((-100000) ≤ w210_2.toInt ∧ w210_2.toInt ≤ 100000) → Iv L K x0 m0 tx tm I210 → I210 p0 11 = I p0 11 → (∀ b, ¬ (K b = 7 ∨ K b = 28) → I210 b = I b) → hHK Q I I210 p0 → (∀ b, K b = 0 ∨ K b = 1 ∨ K b = 3 ∨ K b = 6 → I210 b = I b) → Hid (((I210 p0 15).toInt = -1 → -20 ≤ w210_2.toInt ∧ w210_2.toInt ≤ 20)) → Hid (((((I210 p0 15).toInt = -1) → ((I187 p0 15).toInt = -1) ∧ w210_2 = mv1 (tb tm.1.2.2 (I p0 13).toInt) (Iz165 p0 14).toInt) ∧ I210 y5 = Iz165 y5)) → mdO2 tm.1.2.2 Iz165 I210 p0 w187_0.toInt wMoves (fun t => ps t 20) pmv → va_P (dC, dI) vwCl (Wd cs L K I210 J Q) H → va_S A s.heap H lo → lv_has ls 3 [(0, .ref p0), (1, .int z11), (2, .int w187_0)] → W p l e R s m (([.ref p0] : List Value).toArray) below meth c H lo 0 0 Qz (F0 m 210 ls [.int w210_2, .int z195, .ref y5]) := by
              intro w210_2 I210 H lo ls bw210_2 hI210 kp0_11_I210 fr_I210 hk_I210 dn_I210 h210 g210 hc210 hP hS hl
              refine p_iast hx hb hK hP hD hS 18 hLy5 hKy5 rfl (fun _ => rfl) rfl (in_of (by omega) (by omega)) dX7_readsBody_210 (fun H locs hP hS => ?_)
              obtain ⟨Iz210, hP, hIz210, qIz210⟩ : ∃ Iz210, va_P (dC, dI) vwCl (Wd cs L K Iz210 J Q) H ∧ Iv L K x0 m0 tx tm Iz210 ∧ Iz210 = va_up I210 y5 (upd (I210 y5) z195.toNatClampNeg w210_2) := ⟨_, hP, Iv_put hI210 hKy5 (show okI _ 28 _ from trivial) (Or.inl (by decide)) (Or.inl (by decide)), rfl⟩
              have dn_Iz210 : (∀ b, K b = 0 ∨ K b = 1 ∨ K b = 3 ∨ K b = 6 → Iz210 b = I b) := fun b hc => (congrFun qIz210 b).trans ((va_up_ne _ _ (fun z => by have q := hKy5; rw [← z] at q; omega)).trans (dn_I210 b hc))
              have hk_Iz210 := hK_put hQ hLp0 hKp0 ey5 qIz210 ⟨by omega, fun h => by have q := h210 h; unfold rng; omega⟩ hk_I210
              have kp0_11_Iz210 : Iz210 p0 11 = I p0 11 := (congrFun (congrFun qIz210 p0) 11).trans ((congrFun (va_up_ne _ _ (fun z => by have q1 := hKp0; have q2 := hKy5; rw [z] at q1; omega)) 11).trans kp0_11_I210)
              have fr_Iz210 : ∀ b, ¬ (K b = 7 ∨ K b = 28) → Iz210 b = I b := fun b q => (congrFun qIz210 b).trans ((va_up_ne _ _ (fun z => q (by rw [z]; have := hKy5; omega))).trans (fr_I210 b q))
              refine lv_aload_n hx hb dX7_readsBody_211 rfl (lv_at hl 0 rfl) ?_
              refine p_get (v := .ref y5) hx hb hts inX7 hown hK hP hLp0 hKp0 rfl rfl 1 (by decide) (hts _ pq1116) (congrArg (fun q => some (va_rf q)) ey5) dX7_readsBody_212 ?_
              refine lv_iload_n hx hb dX7_readsBody_215 rfl (lv_at hl 1 rfl) ?_
              refine lv_bipush (v := 7) hx hb dX7_readsBody_216 (by decide +kernel) ?_
              refine lv_iadd hx hb dX7_readsBody_218 ?_
              refine lv_topi (fun z218 ez218 => ?_)
              have bz218 := tq_add (k := z11.toInt) (q := (7)) ez218 rfl (by decide +kernel) (by omega) (by omega)
              refine lv_iload_n hx hb dX7_readsBody_219 rfl (lv_at hl 2 rfl) ?_
              have j233 : ∀ (w233_2 : Int32) (I233 : Nat → Nat → Int32) (H : Heap) (lo : List Loc) (ls : Array Slot), ((-100000) ≤ w233_2.toInt ∧ w233_2.toInt ≤ 100000) → Iv L K x0 m0 tx tm I233 → I233 p0 11 = I p0 11 → (∀ b, ¬ (K b = 7 ∨ K b = 28) → I233 b = I b) → hHK Q I I233 p0 → (∀ b, K b = 0 ∨ K b = 1 ∨ K b = 3 ∨ K b = 6 → I233 b = I b) → Hid (((I233 p0 15).toInt = -1 → -20 ≤ w233_2.toInt ∧ w233_2.toInt ≤ 20)) → Hid (((((I233 p0 15).toInt = -1) → ((Iz210 p0 15).toInt = -1) ∧ w233_2 = mv2 (tb tm.1.2.2 (I p0 13).toInt) (Iz165 p0 14).toInt) ∧ I233 y5 = Iz210 y5)) → mdQ Iz165 I233 p0 (pmv (tb tm.1.2.2 (Iz165 p0 13).toInt) (Iz165 p0 14).toInt) → va_P (dC, dI) vwCl (Wd cs L K I233 J Q) H → va_S A s.heap H lo → lv_has ls 3 [(0, .ref p0), (1, .int z11), (2, .int w187_0)] → W p l e R s m (([.ref p0] : List Value).toArray) below meth c H lo 0 0 Qz (F0 m 233 ls [.int w233_2, .int z218, .ref y5]) := by
                intro w233_2 I233 H lo ls bw233_2 hI233 kp0_11_I233 fr_I233 hk_I233 dn_I233 h233 g233 hc233 hP hS hl
                refine p_iast hx hb hK hP hD hS 18 hLy5 hKy5 rfl (fun _ => rfl) rfl (in_of (by omega) (by omega)) dX7_readsBody_233 (fun H locs hP hS => ?_)
                obtain ⟨Iz233, hP, hIz233, qIz233⟩ : ∃ Iz233, va_P (dC, dI) vwCl (Wd cs L K Iz233 J Q) H ∧ Iv L K x0 m0 tx tm Iz233 ∧ Iz233 = va_up I233 y5 (upd (I233 y5) z218.toNatClampNeg w233_2) := ⟨_, hP, Iv_put hI233 hKy5 (show okI _ 28 _ from trivial) (Or.inl (by decide)) (Or.inl (by decide)), rfl⟩
                have dn_Iz233 : (∀ b, K b = 0 ∨ K b = 1 ∨ K b = 3 ∨ K b = 6 → Iz233 b = I b) := fun b hc => (congrFun qIz233 b).trans ((va_up_ne _ _ (fun z => by have q := hKy5; rw [← z] at q; omega)).trans (dn_I233 b hc))
                have hk_Iz233 := hK_put hQ hLp0 hKp0 ey5 qIz233 ⟨by omega, fun h => by have q := h233 h; unfold rng; omega⟩ hk_I233
                have kp0_11_Iz233 : Iz233 p0 11 = I p0 11 := (congrFun (congrFun qIz233 p0) 11).trans ((congrFun (va_up_ne _ _ (fun z => by have q1 := hKp0; have q2 := hKy5; rw [z] at q1; omega)) 11).trans kp0_11_I233)
                have fr_Iz233 : ∀ b, ¬ (K b = 7 ∨ K b = 28) → Iz233 b = I b := fun b q => (congrFun qIz233 b).trans ((va_up_ne _ _ (fun z => q (by rw [z]; have := hKy5; omega))).trans (fr_I233 b q))
                refine lv_aload_n hx hb dX7_readsBody_234 rfl (lv_at hl 0 rfl) ?_
                refine p_get (v := .ref y5) hx hb hts inX7 hown hK hP hLp0 hKp0 rfl rfl 1 (by decide) (hts _ pq1116) (congrArg (fun q => some (va_rf q)) ey5) dX7_readsBody_235 ?_
                refine lv_iconst (v := 1) hx hb dX7_readsBody_238 (by decide +kernel) ?_
                refine lv_dup2_11 hx hb dX7_readsBody_239 rfl rfl ?_
                refine p_iald hx hb hK hP 18 hLy5 hKy5 rfl rfl (in_d (by decide +kernel)) dX7_readsBody_240 ?_
                refine lv_topi (fun z240 ez240 => ?_)
                refine lv_aload_n hx hb dX7_readsBody_241 rfl (lv_at hl 0 rfl) ?_
                refine ro_i (va_runV (As := []) (rest := [.int z240, .int 1, .ref y5]) ⟨hx, hb, hml, hown, hts⟩ (s_X7_isRight l dC dI cs L K G Q hQ x0 m0 tx tm H.size Iz233 J hIz233 p0 hLp0 hKp0) (cwV 0 hts (gV pq1219 pq1221 pq12 pq81 pq1222) rfl rfl rfl (by decide +kernel) ⟨(by rw [hR]; exact (Nat.le_of_ble_eq_true rfl)), (by rw [hR]; exact (Nat.le_of_ble_eq_true rfl))⟩) (sP_V hP hD hK hN hLp0 hKp0 rfl rfl) rfl rfl hl.1 rfl (lv_room (Nat.le_of_ble_eq_true rfl)) dX7_readsBody_242 ⟨(by rw [hR]; exact (Nat.le_of_ble_eq_true rfl)), (by rw [hR]; exact (Nat.le_of_ble_eq_true rfl))⟩) hS hP (fun z242 H locs hz242 hP hS => ?_)
                obtain ⟨bz242, xpz242⟩ := hz242
                replace xpz242 : Hid _ := xpz242
                refine ro_i (va_runS (As := [.int z242]) (rest := [.int z240, .int 1, .ref y5]) ⟨hx, hb, hml, hown, hts⟩ (s_X7_truth l dC dI cs L K Q H.size Iz233 J z242) (va_cwS 1 hts (gS pq1257 pq1258 pq81 pq1259) rfl rfl rfl (by decide +kernel) ⟨(by rw [hR]; exact (Nat.le_of_ble_eq_true rfl)), (by rw [hR]; exact (Nat.le_of_ble_eq_true rfl))⟩) (sP_S hP hD hK hN) rfl rfl hl.1 rfl (lv_room (Nat.le_of_ble_eq_true rfl)) dX7_readsBody_245 ⟨(by rw [hR]; exact (Nat.le_of_ble_eq_true rfl)), (by rw [hR]; exact (Nat.le_of_ble_eq_true rfl))⟩) hS hP (fun z245 H locs hz245 hP hS => ?_)
                obtain ⟨bz245, xpz245⟩ := hz245
                have c240 := congrArg Int32.toInt ((show z240 = Iz233 y5 1 from ez240).trans (hk_Iz233.2.2.1 y5 ey5).2)
                have m240 : 0 ≤ z240.toInt ∧ z240.toInt ≤ 9 := by omega
                refine lv_iadd hx hb dX7_readsBody_248 ?_
                refine lv_topi (fun z248 ez248 => ?_)
                have bz248 := tq_add (k := z240.toInt) (q := z245.toInt) ez248 rfl rfl (by omega) (by omega)
                refine p_iast hx hb hK hP hD hS 18 hLy5 hKy5 rfl (fun _ => rfl) rfl (in_d (by decide +kernel)) dX7_readsBody_249 (fun H locs hP hS => ?_)
                obtain ⟨Iz249, hP, hIz249, qIz249⟩ : ∃ Iz249, va_P (dC, dI) vwCl (Wd cs L K Iz249 J Q) H ∧ Iv L K x0 m0 tx tm Iz249 ∧ Iz249 = va_up Iz233 y5 (upd (Iz233 y5) (1 : Int32).toNatClampNeg z248) := ⟨_, hP, Iv_put hIz233 hKy5 (show okI _ 28 _ from trivial) (Or.inl (by decide)) (Or.inl (by decide)), rfl⟩
                have dn_Iz249 : (∀ b, K b = 0 ∨ K b = 1 ∨ K b = 3 ∨ K b = 6 → Iz249 b = I b) := fun b hc => (congrFun qIz249 b).trans ((va_up_ne _ _ (fun z => by have q := hKy5; rw [← z] at q; omega)).trans (dn_Iz233 b hc))
                have kp0_11_Iz249 : Iz249 p0 11 = I p0 11 := (congrFun (congrFun qIz249 p0) 11).trans ((congrFun (va_up_ne _ _ (fun z => by have q1 := hKp0; have q2 := hKy5; rw [z] at q1; omega)) 11).trans kp0_11_Iz233)
                have fr_Iz249 : ∀ b, ¬ (K b = 7 ∨ K b = 28) → Iz249 b = I b := fun b q => (congrFun qIz249 b).trans ((va_up_ne _ _ (fun z => q (by rw [z]; have := hKy5; omega))).trans (fr_Iz233 b q))
                subst hR; subst hQz
                exact W.vret hx hb hr (fun t ht hW => ⟨⟨(), rfl, trivial, ⟨Iz249, J, ⟨hIz249, fr_Iz249, kp0_11_Iz249, (hJ_put hQ hLp0 hKp0 ey5 qIz249 (fun _ => by rw [show (1 : Int32).toInt.toNat = 1 from rfl]; unfold rng; omega) hk_Iz233), (by have hh := (hk_Iz233.2.2.1 y5 ey5); have eY : ((Q p0 1).getD 0) = y5 := (by rw [ey5]; rfl); have Q9 : mdQ I Iz233 p0 (pbd (tb tm.1.2.2 (I p0 13).toInt) (I ((Q p0 1).getD 0) 0).toInt (I p0 14).toInt) := mdQ_bind (g := pmv) B5 (mdQ_S hc233 (md_fr (by rw [qIz233, va_up_ne _ _ (ne_k hKp0 hKy5 (by decide))]))); exact ⟨mdQ_S Q9 (md_fr (by rw [qIz249, va_up_ne _ _ (ne_k hKp0 hKy5 (by decide))])), fun q => (by have F := ((Q9.2.1 hf).1 q).1; have r : ¬ z242.toInt = 0 := (fun h => xpz242.2 h F); have v2 := xpz245.2 r; rw [eY, qIz249, va_up_self]; unfold upd; rw [if_pos (by rfl)]; have := congrArg Int32.toInt hh.2; omega), (by rw [eY, qIz249, va_up_self]; unfold upd; rw [if_neg (by decide)]; exact hh.1)⟩), dn_Iz249, (fun c ok h F => by have eY : a0 Q p0 1 = y5 := gd_of ey5; have e0 : I y5 0 = c.1 0 := (by have q := h.1 0 (by decide); rw [eY] at q; exact q); have e1 : I y5 1 = c.1 1 := (by have q := h.1 1 (by decide); rw [eY] at q; exact q); have F233 : (I233 p0 15).toInt = -1 := (by rw [← F, qIz249, va_up_ne _ _ (ne_k hKp0 hKy5 (by decide)), qIz233, va_up_ne _ _ (ne_k hKp0 hKy5 (by decide))]); have R233 := g233.1 F233; have F210 := R233.1; rw [(show Iz210 p0 = I210 p0 by rw [qIz210, va_up_ne _ _ (ne_k hKp0 hKy5 (by decide))])] at F210; have R210 := g210.1 F210; have F165 := mdQ_r hc233 F233; have F165b := F165; rw [(show Iz165 p0 = I165 p0 by rw [qIz165, va_up_ne _ _ (ne_k hKp0 hKy5 (by decide))])] at F165b; have R165 := g165.1 F165b; have F142 := R165.1; rw [(show Iz142 p0 = I142 p0 by rw [qIz142, va_up_ne _ _ (ne_k hKp0 hKy5 (by decide))])] at F142; have R142 := g142.1 F142; have F97 := mdQ_r hc165 F165b; have F97b := F97; rw [(show Iz97 p0 = I97 p0 by rw [qIz97, va_up_ne _ _ (ne_k hKp0 hKy5 (by decide))])] at F97b; have R97 := g97.1 F97b; have F63 := R97.1; have F60 := F63; rw [(show Iz63 p0 = Iz60 p0 by rw [qIz63, va_up_ne _ _ (ne_k hKp0 hKy5 (by decide))])] at F60; have F48 := mdQ_r fz60 F60; have F45 := F48; rw [(show Iz48 p0 = Iz45 p0 by rw [qIz48, va_up_ne _ _ (ne_k hKp0 hKy5 (by decide))])] at F45; have F33 := mdQ_r fz45 F45; have F30 := F33; rw [(show Iz33 p0 = Iz30 p0 by rw [qIz33, va_up_ne _ _ (ne_k hKp0 hKy5 (by decide))])] at F30; have K1 := hf_pn (v := (0, 0)) (F := 0) B1 F30 hf; have K2 := hf_pn (v := (0, 0)) (F := 0) B2 F45 hf; have K3 := hf_pn (v := (0, 0)) (F := 0) B3 F63 hf; have K4 := hf_pn (v := (0, 0)) (F := 0) B4 F97 hf; have K5 := hf_pn (v := (0, 0)) (F := 0) B5 F165 hf; have V1 := jz45 F45; rw [(show Iz33 p0 = Iz30 p0 by rw [qIz33, va_up_ne _ _ (ne_k hKp0 hKy5 (by decide))]), B1.1, K1.2] at V1; have V2 := jz60 F60; rw [(show Iz48 p0 = Iz45 p0 by rw [qIz48, va_up_ne _ _ (ne_k hKp0 hKy5 (by decide))]), B2.1, K2.2] at V2; have eM : (I ((Q p0 1).getD 0) 0).toInt = (c.1 0).toInt := (by rw [← e0]; exact congrArg (fun q => (I q 0).toInt) eY); have w := bd8 (g := fun _ => 0) (show _ = (pn (tb tm.1.2.2 (I p0 13).toInt) 0 ((I ((Q p0 1).getD 0) 0).toInt - 1) (I p0 14).toInt).2 from K1.2) (K2.2.trans ((sq_2 K1.1).trans (by rw [K1.2]))) (K3.2.trans ((sq_2 K2.1).trans (by rw [K2.2]))) (K4.2.trans ((sq_2 K3.1).trans (by rw [K3.2]))) (K5.2.trans ((sq_2 K4.1).trans (by rw [K4.2]))); rw [eM] at w; have r : ¬ z242.toInt = 0 := (fun q => xpz242.2 q (by rw [(show Iz233 p0 = I233 p0 by rw [qIz233, va_up_ne _ _ (ne_k hKp0 hKy5 (by decide))])]; exact F233)); have v2 := xpz245.2 r; exact isF_adB h (n := z9.toInt.toNat) (by rw [← e1]; exact congrArg Int.toNat c9) (by rw [eY, qIz249, va_up_self, qIz233, va_up_self, show z218.toNatClampNeg = 19 + 8 * z9.toInt.toNat + 7 from (by show z218.toInt.toNat = _; omega), g233.2, qIz210, va_up_self, show z195.toNatClampNeg = 19 + 8 * z9.toInt.toNat + 6 from (by show z195.toInt.toNat = _; omega), g210.2, qIz165, va_up_self, show z149.toNatClampNeg = 19 + 8 * z9.toInt.toNat + 5 from (by show z149.toInt.toNat = _; omega), g165.2, qIz142, va_up_self, show z126.toNatClampNeg = 19 + 8 * z9.toInt.toNat + 4 from (by show z126.toInt.toNat = _; omega), g142.2, qIz97, va_up_self, show z70.toNatClampNeg = 19 + 8 * z9.toInt.toNat + 3 from (by show z70.toInt.toNat = _; omega), g97.2, qIz63, va_up_self, show z55.toNatClampNeg = 19 + 8 * z9.toInt.toNat + 2 from (by show z55.toInt.toNat = _; omega), frc60 y5 ny5, qIz48, va_up_self, show z40.toNatClampNeg = 19 + 8 * z9.toInt.toNat + 1 from (by show z40.toInt.toNat = _; omega), frc45 y5 ny5, qIz33, va_up_self, show z19.toNatClampNeg = 19 + 8 * z9.toInt.toNat + 0 from (by show z19.toInt.toNat = _; omega), frc30 y5 ny5]; rfl) ⟨Nat.add_zero _, rfl, rfl, rfl, rfl, rfl, rfl, rfl⟩ (by rw [← e1, ez248, ez240, show Iz233 y5 (1 : Int32).toNatClampNeg = I y5 1 from (hk_Iz233.2.2.1 y5 ey5).2, show z245 = 1 from Int32.toInt_inj.mp (by rw [v2]; decide +kernel)]) ⟨w.1.trans (oi_eq (jz30 F30)).symm, w.2.1.trans (by rw [K1.2]; exact (oi_eq V1).symm), w.2.2.1.trans (by rw [K2.2]; exact (oi_eq V2).symm), w.2.2.2.1.trans R97.2.symm, w.2.2.2.2.1.trans R142.2.symm, w.2.2.2.2.2.1.trans R165.2.symm, w.2.2.2.2.2.2.1.trans R210.2.symm, w.2.2.2.2.2.2.2.trans R233.2.symm⟩), dj_J⟩, by rw [ht]; exact hP⟩⟩, hS.F ht⟩) hS.2.2 dX7_readsBody_250
              refine lv_if_eq (tgt := 232) hx hb dX7_readsBody_220 (by decide) (fun c220 => ?_) (fun c220 => ?_)
              · have t220 := tq_eq (k := w187_0.toInt) (q := (0)) c220 rfl (by decide +kernel)
                refine lv_iconst (v := 0) hx hb dX7_readsBody_232 (by decide +kernel) ?_
                exact j233 0 Iz210 _ _ _ ⟨by decide +kernel, by decide +kernel⟩ hIz210 kp0_11_Iz210 fr_Iz210 hk_Iz210 dn_Iz210 (fun _ => ⟨by decide +kernel, by decide +kernel⟩) ⟨fun h => ⟨h, by unfold mv2; rw [if_neg (g187.1 t220 (g210.1 (by rw [(show Iz210 p0 = I210 p0 by rw [qIz210, va_up_ne _ _ (ne_k hKp0 hKy5 (by decide))])] at h; exact h)).1)]⟩, rfl⟩ (mdO2_0 (mdO2_S hc210 (md_fr (by rw [qIz210, va_up_ne _ _ (ne_k hKp0 hKy5 (by decide))]))) t220) hP hS (lv_sub hl [0, 1, 2] rfl)
              · have t220 := tq_ne (k := w187_0.toInt) (q := (0)) c220 rfl (by decide +kernel)
                refine lv_aload_n hx hb dX7_readsBody_223 rfl (lv_at hl 0 rfl) ?_
                refine lv_bipush (v := 20) hx hb dX7_readsBody_224 (by decide +kernel) ?_
                refine sw_ir (Z := (fun u => (fun I1 J1 => Iv L K x0 m0 tx tm I1 ∧ (∀ b, ¬ (b = p0) → I1 b = Iz210 b) ∧ I1 p0 11 = Iz210 p0 11 ∧ ((Iz210 p0 14).toInt ≤ (I1 p0 14).toInt ∧ ((I1 p0 15).toInt = -1 → (Iz210 p0 15).toInt = -1) ∧ ((I1 p0 15).toInt = -1 → -(20 : Int32).toInt ≤ u.toInt ∧ u.toInt ≤ (20 : Int32).toInt)) ∧ mdQ Iz210 I1 p0 (ps (tb tm.1.2.2 (Iz210 p0 13).toInt) (20 : Int32).toInt (Iz210 p0 14).toInt) ∧ (∀ b, K b = 0 ∨ K b = 1 ∨ K b = 3 ∨ K b = 6 → I1 b = Iz210 b) ∧ ((I1 p0 15).toInt = -1 → u.toInt = sv (tb tm.1.2.2 (Iz210 p0 13).toInt) (Iz210 p0 14).toInt) ∧ J1 = J))) (va_runV (As := [.int 20]) (rest := [.int z218, .ref y5]) ⟨hx, hb, hml, hown, hts⟩ (s_X7_signed l dC dI cs L K G Q hQ x0 m0 tx tm H.size Iz210 J hIz210 p0 hLp0 hKp0 20 ⟨by decide +kernel, by decide +kernel⟩) (cwV 1 hts (gV pq1284 pq1286 pq22 pq81 pq1287) rfl rfl rfl (by decide +kernel) ⟨(by rw [hR]; exact (Nat.le_of_ble_eq_true rfl)), (by rw [hR]; exact (Nat.le_of_ble_eq_true rfl))⟩) (sP_V hP hD hK hN hLp0 hKp0 rfl rfl) rfl rfl hl.1 rfl (lv_room (Nat.le_of_ble_eq_true rfl)) dX7_readsBody_226 ⟨(by rw [hR]; exact (Nat.le_of_ble_eq_true rfl)), (by rw [hR]; exact (Nat.le_of_ble_eq_true rfl))⟩) hS hAL hA (fun z226 Iz226 Jz226 H locs hz226 hIz226 hP hS => ?_)
                obtain ⟨hIz226, frc226, kc226_0_11, zr226, fz226, dnc226, jz226, djc226⟩ := hIz226
                obtain rfl : J = Jz226 := djc226.symm
                replace zr226 : Hid _ := zr226
                replace fz226 : Hid _ := fz226
                have hk_Iz226 := hK_call hQ hLp0 hKp0 frc226 zr226.1 zr226.2.1 hk_Iz210
                have dn_Iz226 : (∀ b, K b = 0 ∨ K b = 1 ∨ K b = 3 ∨ K b = 6 → Iz226 b = I b) := fun b hc => (dnc226 b (by omega)).trans (dn_Iz210 b hc)
                have kp0_11_Iz226 : Iz226 p0 11 = I p0 11 := kc226_0_11.trans kp0_11_Iz210
                have fr_Iz226 : ∀ b, ¬ (K b = 7 ∨ K b = 28) → Iz226 b = I b := fun b q => (frc226 b (fun z => q (by rw [z]; have := hKp0; omega))).trans (fr_Iz210 b q)
                have cst226_20 : (20 : Int32).toInt = 20 := by decide +kernel
                have bz226 := hz226
                refine lv_goto (tgt := 233) hx hb dX7_readsBody_229 (by decide) ?_
                exact j233 z226 Iz226 _ _ _ ⟨by omega, by omega⟩ hIz226 kp0_11_Iz226 fr_Iz226 hk_Iz226 dn_Iz226 (fun h => by have := zr226.2.2 h; exact ⟨by omega, by omega⟩) ⟨fun h => hc210.elim (fun o => by have r := mdQ_r fz226 h; have f1 := r; rw [(show Iz210 p0 = I210 p0 by rw [qIz210, va_up_ne _ _ (ne_k hKp0 hKy5 (by decide))])] at f1; have k := hf_pn (v := (0, 0)) (F := 0) o.2.2 f1 (mdQ_r o.2.2 f1); have n := jz226 h; rw [(show Iz210 p0 = I210 p0 by rw [qIz210, va_up_ne _ _ (ne_k hKp0 hKy5 (by decide))]), o.2.2.1, k.2, B5.1] at n; refine ⟨r, ?_⟩; unfold mv2; rw [if_pos (by have q := o.2.1; rw [B5.1] at q; exact q)]; exact oi_eq n) (fun o => absurd o.1 t220), frc226 _ ny5⟩ (mdO2_1 pmv_y (mdO2_S hc210 (md_fr (by rw [qIz210, va_up_ne _ _ (ne_k hKp0 hKy5 (by decide))]))) t220 fz226) hP hS (lv_sub hl [0, 1, 2] rfl)
            refine lv_if_eq (tgt := 209) hx hb dX7_readsBody_197 (by decide) (fun c197 => ?_) (fun c197 => ?_)
            · have t197 := tq_eq (k := w187_0.toInt) (q := (0)) c197 rfl (by decide +kernel)
              refine lv_iconst (v := 0) hx hb dX7_readsBody_209 (by decide +kernel) ?_
              exact j210 0 I187 _ _ _ ⟨by decide +kernel, by decide +kernel⟩ hI187 kp0_11_I187 fr_I187 hk_I187 dn_I187 (fun _ => ⟨by decide +kernel, by decide +kernel⟩) ⟨fun h => ⟨h, by unfold mv1; rw [if_neg (g187.1 t197 h)]⟩, g187.2⟩ (mdO_0 hc187 t197) hP hS (lv_sub hl [1, 2, 0] rfl)
            · have t197 := tq_ne (k := w187_0.toInt) (q := (0)) c197 rfl (by decide +kernel)
              refine lv_aload_n hx hb dX7_readsBody_200 rfl (lv_at hl 1 rfl) ?_
              refine lv_bipush (v := 20) hx hb dX7_readsBody_201 (by decide +kernel) ?_
              refine sw_ir (Z := (fun u => (fun I1 J1 => Iv L K x0 m0 tx tm I1 ∧ (∀ b, ¬ (b = p0) → I1 b = I187 b) ∧ I1 p0 11 = I187 p0 11 ∧ ((I187 p0 14).toInt ≤ (I1 p0 14).toInt ∧ ((I1 p0 15).toInt = -1 → (I187 p0 15).toInt = -1) ∧ ((I1 p0 15).toInt = -1 → -(20 : Int32).toInt ≤ u.toInt ∧ u.toInt ≤ (20 : Int32).toInt)) ∧ mdQ I187 I1 p0 (ps (tb tm.1.2.2 (I187 p0 13).toInt) (20 : Int32).toInt (I187 p0 14).toInt) ∧ (∀ b, K b = 0 ∨ K b = 1 ∨ K b = 3 ∨ K b = 6 → I1 b = I187 b) ∧ ((I1 p0 15).toInt = -1 → u.toInt = sv (tb tm.1.2.2 (I187 p0 13).toInt) (I187 p0 14).toInt) ∧ J1 = J))) (va_runV (As := [.int 20]) (rest := [.int z195, .ref y5]) ⟨hx, hb, hml, hown, hts⟩ (s_X7_signed l dC dI cs L K G Q hQ x0 m0 tx tm H.size I187 J hI187 p0 hLp0 hKp0 20 ⟨by decide +kernel, by decide +kernel⟩) (cwV 1 hts (gV pq1284 pq1286 pq22 pq81 pq1287) rfl rfl rfl (by decide +kernel) ⟨(by rw [hR]; exact (Nat.le_of_ble_eq_true rfl)), (by rw [hR]; exact (Nat.le_of_ble_eq_true rfl))⟩) (sP_V hP hD hK hN hLp0 hKp0 rfl rfl) rfl rfl hl.1 rfl (lv_room (Nat.le_of_ble_eq_true rfl)) dX7_readsBody_203 ⟨(by rw [hR]; exact (Nat.le_of_ble_eq_true rfl)), (by rw [hR]; exact (Nat.le_of_ble_eq_true rfl))⟩) hS hAL hA (fun z203 Iz203 Jz203 H locs hz203 hIz203 hP hS => ?_)
              obtain ⟨hIz203, frc203, kc203_0_11, zr203, fz203, dnc203, jz203, djc203⟩ := hIz203
              obtain rfl : J = Jz203 := djc203.symm
              replace zr203 : Hid _ := zr203
              replace fz203 : Hid _ := fz203
              have hk_Iz203 := hK_call hQ hLp0 hKp0 frc203 zr203.1 zr203.2.1 hk_I187
              have dn_Iz203 : (∀ b, K b = 0 ∨ K b = 1 ∨ K b = 3 ∨ K b = 6 → Iz203 b = I b) := fun b hc => (dnc203 b (by omega)).trans (dn_I187 b hc)
              have kp0_11_Iz203 : Iz203 p0 11 = I p0 11 := kc203_0_11.trans kp0_11_I187
              have fr_Iz203 : ∀ b, ¬ (K b = 7 ∨ K b = 28) → Iz203 b = I b := fun b q => (frc203 b (fun z => q (by rw [z]; have := hKp0; omega))).trans (fr_I187 b q)
              have cst203_20 : (20 : Int32).toInt = 20 := by decide +kernel
              have bz203 := hz203
              refine lv_goto (tgt := 210) hx hb dX7_readsBody_206 (by decide) ?_
              exact j210 z203 Iz203 _ _ _ ⟨by omega, by omega⟩ hIz203 kp0_11_Iz203 fr_Iz203 hk_Iz203 dn_Iz203 (fun h => by have := zr203.2.2 h; exact ⟨by omega, by omega⟩) ⟨fun h => hc187.elim (fun o => ⟨by rw [o.2.2.2.2.1]; exact o.2.1, by have n := jz203 h; rw [o.2.2.2.1, o.2.2.2.2.2, B5.1] at n; unfold mv1; rw [if_pos (by have q := o.2.2.1; rw [B5.1] at q; exact q)]; exact oi_eq n⟩) (fun o => absurd o.1 t197), (frc203 _ ny5).trans g187.2⟩ (mdO_1 hc187 t197 fz203) hP hS (lv_sub hl [1, 2, 0] rfl)
          have j186 : ∀ (I186 : Nat → Nat → Int32) (H : Heap) (lo : List Loc) (ls : Array Slot), Iv L K x0 m0 tx tm I186 → I186 p0 11 = I p0 11 → (∀ b, ¬ (K b = 7 ∨ K b = 28) → I186 b = I b) → hHK Q I I186 p0 → (∀ b, K b = 0 ∨ K b = 1 ∨ K b = 3 ∨ K b = 6 → I186 b = I b) → Hid (((((I186 p0 15).toInt = -1) → ¬ tw (tb tm.1.2.2 (I p0 13).toInt) wMoves (Iz165 p0 14).toInt) ∧ I186 y5 = Iz165 y5)) → mdQ Iz165 I186 p0 (pmv (tb tm.1.2.2 (Iz165 p0 13).toInt) (Iz165 p0 14).toInt) → va_P (dC, dI) vwCl (Wd cs L K I186 J Q) H → va_S A s.heap H lo → lv_has ls 3 [(0, .ref p0), (1, .int z11), (2, .int w119_0)] → W p l e R s m (([.ref p0] : List Value).toArray) below meth c H lo 0 0 Qz (F0 m 186 ls []) := by
            intro I186 H lo ls hI186 kp0_11_I186 fr_I186 hk_I186 dn_I186 g186 hc186 hP hS hl
            refine lv_iconst (v := 0) hx hb dX7_readsBody_186 (by decide +kernel) ?_
            exact j187 0 I186 _ _ _ ⟨by decide +kernel, by decide +kernel⟩ hI186 kp0_11_I186 fr_I186 hk_I186 dn_I186 ⟨fun _ => g186.1, g186.2⟩ (Or.inr ⟨by decide +kernel, hc186⟩) hP hS (lv_sub hl [0, 1, 2] rfl)
          refine lv_if_eq (tgt := 186) hx hb dX7_readsBody_170 (by decide) (fun c170 => ?_) (fun c170 => ?_)
          · have t170 := tq_eq (k := z167.toInt) (q := (0)) c170 rfl (by decide +kernel)
            exact j186 Iz165 _ _ _ hIz165 kp0_11_Iz165 fr_Iz165 hk_Iz165 dn_Iz165 ⟨fun h => absurd h (xpz167.2 t170), rfl⟩ (mdQ_id (xpz167.2 t170)) hP hS (lv_sub hl [0, 1, 2] rfl)
          · have t170 := tq_ne (k := z167.toInt) (q := (0)) c170 rfl (by decide +kernel)
            refine lv_aload_n hx hb dX7_readsBody_173 rfl (lv_at hl 0 rfl) ?_
            obtain ⟨y174, hv174, hx_y174⟩ := hxx.2 (RX7, 169, "moves", wMoves) (by simp [lits])
            dsimp only at hv174 hx_y174
            refine va_ldcS hx hb hown hv174 dX7_readsBody_174 ?_
            refine sw_ir (Z := (fun u => (fun I1 J1 => Iv L K x0 m0 tx tm I1 ∧ (∀ b, ¬ (b = p0) → I1 b = Iz165 b) ∧ I1 p0 11 = Iz165 p0 11 ∧ ((Iz165 p0 14).toInt ≤ (I1 p0 14).toInt ∧ ((I1 p0 15).toInt = -1 → (Iz165 p0 15).toInt = -1) ∧ (∀ k, ¬ k = 14 → I1 p0 k = Iz165 p0 k) ∧ (¬ u.toInt = 0 → (wMoves.length : Int) ≤ (I1 p0 14).toInt)) ∧ ((tw (tb tm.1.2.2 (Iz165 p0 13).toInt) wMoves (Iz165 p0 14).toInt → u.toInt = 1 ∧ (I1 p0 14).toInt = wr (tb tm.1.2.2 (Iz165 p0 13).toInt) (sk (tb tm.1.2.2 (Iz165 p0 13).toInt) (Iz165 p0 14).toInt)) ∧ (¬ tw (tb tm.1.2.2 (Iz165 p0 13).toInt) wMoves (Iz165 p0 14).toInt → u.toInt = 0 ∧ (I1 p0 14).toInt = (sk (tb tm.1.2.2 (Iz165 p0 13).toInt) (Iz165 p0 14).toInt))) ∧ (∀ b, K b = 0 ∨ K b = 1 ∨ K b = 3 ∨ K b = 6 → I1 b = Iz165 b) ∧ J1 = J))) (va_runV (As := [.ref y174]) (rest := []) ⟨hx, hb, hml, hown, hts⟩ (s_X7_takes l dC dI cs L K G Q hQ x0 m0 tx tm H.size Iz165 J hIz165 p0 hLp0 hKp0 y174 wMoves) (cwV 1 hts (gV pq1228 pq1230 pq14 pq81 pq1231) rfl rfl rfl (by decide +kernel) ⟨(by rw [hR]; exact (Nat.le_of_ble_eq_true rfl)), (by rw [hR]; exact (Nat.le_of_ble_eq_true rfl))⟩) (sPX_V hP hD hK hN hLp0 hKp0 rfl rfl (gX_and (gX_s _ _) gX_t) hS ⟨hx_y174, hxt⟩ (fun q h => h.elim (hAL q) (fun h => hA q (Nat.le_trans hS.1 h)))) rfl rfl hl.1 rfl (lv_room (Nat.le_of_ble_eq_true rfl)) dX7_readsBody_176 ⟨(by rw [hR]; exact (Nat.le_of_ble_eq_true rfl)), (by rw [hR]; exact (Nat.le_of_ble_eq_true rfl))⟩) hS hAL hA (fun z176 Iz176 Jz176 H locs hz176 hIz176 hP hS => ?_)
            obtain ⟨hIz176, frc176, kc176_0_11, zr176, fz176, dnc176, djc176⟩ := hIz176
            obtain rfl : J = Jz176 := djc176.symm
            replace zr176 : Hid _ := zr176
            replace fz176 : Hid _ := fz176
            have hk_Iz176 := hK_call hQ hLp0 hKp0 frc176 zr176.1 zr176.2.1 hk_Iz165
            have dn_Iz176 : (∀ b, K b = 0 ∨ K b = 1 ∨ K b = 3 ∨ K b = 6 → Iz176 b = I b) := fun b hc => (dnc176 b (by omega)).trans (dn_Iz165 b hc)
            have kp0_11_Iz176 : Iz176 p0 11 = I p0 11 := kc176_0_11.trans kp0_11_Iz165
            have fr_Iz176 : ∀ b, ¬ (K b = 7 ∨ K b = 28) → Iz176 b = I b := fun b q => (frc176 b (fun z => q (by rw [z]; have := hKp0; omega))).trans (fr_Iz165 b q)
            have bz176 := hz176
            refine lv_if_eq (tgt := 186) hx hb dX7_readsBody_179 (by decide) (fun c179 => ?_) (fun c179 => ?_)
            · have t179 := tq_eq (k := z176.toInt) (q := (0)) c179 rfl (by decide +kernel)
              exact j186 Iz176 _ _ _ hIz176 kp0_11_Iz176 fr_Iz176 hk_Iz176 dn_Iz176 ⟨fun _ => by have q := (mdW_no (mdW_of zr176.2.2.1 fz176) t179).1; rw [B5.1] at q; exact q, frc176 _ ny5⟩ (md_none pmv_n (xpz167.1 t170) (mdW_of zr176.2.2.1 fz176) t179) hP hS (lv_sub hl [0, 1, 2] rfl)
            · have t179 := tq_ne (k := z176.toInt) (q := (0)) c179 rfl (by decide +kernel)
              refine lv_iconst (v := 1) hx hb dX7_readsBody_182 (by decide +kernel) ?_
              refine lv_goto (tgt := 187) hx hb dX7_readsBody_183 (by decide) ?_
              exact j187 1 Iz176 _ _ _ ⟨by decide +kernel, by decide +kernel⟩ hIz176 kp0_11_Iz176 fr_Iz176 hk_Iz176 dn_Iz176 ⟨fun h => absurd h (by decide +kernel), frc176 _ ny5⟩ (mdO_yes (xpz167.1 t170) (mdW_of zr176.2.2.1 fz176) t179 (by decide +kernel)) hP hS (lv_sub hl [0, 1, 2] rfl)
        refine lv_if_eq (tgt := 164) hx hb dX7_readsBody_151 (by decide) (fun c151 => ?_) (fun c151 => ?_)
        · have t151 := tq_eq (k := w119_0.toInt) (q := (0)) c151 rfl (by decide +kernel)
          refine lv_iconst (v := 1) hx hb dX7_readsBody_164 (by decide +kernel) ?_
          exact j165 1 Iz142 _ _ _ ⟨by decide +kernel, by decide +kernel⟩ hIz142 kp0_11_Iz142 fr_Iz142 hk_Iz142 dn_Iz142 ⟨fun h => ⟨h, by unfold ly2; rw [if_neg (g119.1 t151 (g142.1 (by rw [(show Iz142 p0 = I142 p0 by rw [qIz142, va_up_ne _ _ (ne_k hKp0 hKy5 (by decide))])] at h; exact h)).1)]⟩, rfl⟩ (mdO2_0 (mdO2_S hc142 (md_fr (by rw [qIz142, va_up_ne _ _ (ne_k hKp0 hKy5 (by decide))]))) t151) hP hS (lv_sub hl [0, 1, 2] rfl)
        · have t151 := tq_ne (k := w119_0.toInt) (q := (0)) c151 rfl (by decide +kernel)
          refine lv_aload_n hx hb dX7_readsBody_154 rfl (lv_at hl 0 rfl) ?_
          refine lv_iconst (v := 0) hx hb dX7_readsBody_155 (by decide +kernel) ?_
          refine lv_bipush (v := 15) hx hb dX7_readsBody_156 (by decide +kernel) ?_
          refine sw_ir (Z := (fun u => (fun I1 J1 => Iv L K x0 m0 tx tm I1 ∧ (∀ b, ¬ (b = p0) → I1 b = Iz142 b) ∧ I1 p0 11 = Iz142 p0 11 ∧ ((Iz142 p0 14).toInt ≤ (I1 p0 14).toInt ∧ ((I1 p0 15).toInt = -1 → (Iz142 p0 15).toInt = -1) ∧ ((I1 p0 15).toInt = -1 → (0 : Int32).toInt ≤ u.toInt ∧ u.toInt ≤ (15 : Int32).toInt)) ∧ mdQ Iz142 I1 p0 (pn (tb tm.1.2.2 (Iz142 p0 13).toInt) (0 : Int32).toInt (15 : Int32).toInt (Iz142 p0 14).toInt) ∧ (∀ b, K b = 0 ∨ K b = 1 ∨ K b = 3 ∨ K b = 6 → I1 b = Iz142 b) ∧ ((I1 p0 15).toInt = -1 → u.toInt = nv (tb tm.1.2.2 (Iz142 p0 13).toInt) (Iz142 p0 14).toInt) ∧ J1 = J))) (va_runV (As := [.int 0, .int 15]) (rest := [.int z149, .ref y5]) ⟨hx, hb, hml, hown, hts⟩ (s_X7_number l dC dI cs L K G Q hQ x0 m0 tx tm H.size Iz142 J hIz142 p0 hLp0 hKp0 0 ⟨by decide +kernel, by decide +kernel⟩ 15 ⟨by decide +kernel, by decide +kernel⟩) (cwV 2 hts (gV pq1262 pq1264 pq18 pq81 pq1265) rfl rfl rfl (by decide +kernel) ⟨(by rw [hR]; exact (Nat.le_of_ble_eq_true rfl)), (by rw [hR]; exact (Nat.le_of_ble_eq_true rfl))⟩) (sP_V hP hD hK hN hLp0 hKp0 rfl rfl) rfl rfl hl.1 rfl (lv_room (Nat.le_of_ble_eq_true rfl)) dX7_readsBody_158 ⟨(by rw [hR]; exact (Nat.le_of_ble_eq_true rfl)), (by rw [hR]; exact (Nat.le_of_ble_eq_true rfl))⟩) hS hAL hA (fun z158 Iz158 Jz158 H locs hz158 hIz158 hP hS => ?_)
          obtain ⟨hIz158, frc158, kc158_0_11, zr158, fz158, dnc158, jz158, djc158⟩ := hIz158
          obtain rfl : J = Jz158 := djc158.symm
          replace zr158 : Hid _ := zr158
          replace fz158 : Hid _ := fz158
          have hk_Iz158 := hK_call hQ hLp0 hKp0 frc158 zr158.1 zr158.2.1 hk_Iz142
          have dn_Iz158 : (∀ b, K b = 0 ∨ K b = 1 ∨ K b = 3 ∨ K b = 6 → Iz158 b = I b) := fun b hc => (dnc158 b (by omega)).trans (dn_Iz142 b hc)
          have kp0_11_Iz158 : Iz158 p0 11 = I p0 11 := kc158_0_11.trans kp0_11_Iz142
          have fr_Iz158 : ∀ b, ¬ (K b = 7 ∨ K b = 28) → Iz158 b = I b := fun b q => (frc158 b (fun z => q (by rw [z]; have := hKp0; omega))).trans (fr_Iz142 b q)
          have cst158_0 : (0 : Int32).toInt = 0 := by decide +kernel
          have cst158_15 : (15 : Int32).toInt = 15 := by decide +kernel
          have bz158 := hz158
          refine lv_goto (tgt := 165) hx hb dX7_readsBody_161 (by decide) ?_
          exact j165 z158 Iz158 _ _ _ ⟨by omega, by omega⟩ hIz158 kp0_11_Iz158 fr_Iz158 hk_Iz158 dn_Iz158 ⟨fun h => hc142.elim (fun o => by have r := mdQ_r fz158 h; have f1 := r; rw [(show Iz142 p0 = I142 p0 by rw [qIz142, va_up_ne _ _ (ne_k hKp0 hKy5 (by decide))])] at f1; have k := hf_pn (v := (0, 0)) (F := 0) o.2.2 f1 (mdQ_r o.2.2 f1); have n := jz158 h; rw [(show Iz142 p0 = I142 p0 by rw [qIz142, va_up_ne _ _ (ne_k hKp0 hKy5 (by decide))]), o.2.2.1, k.2, B4.1] at n; refine ⟨r, ?_⟩; unfold ly2; rw [if_pos (by have q := o.2.1; rw [B4.1] at q; exact q)]; exact oi_eq n) (fun o => absurd o.1 t151), frc158 _ ny5⟩ (mdO2_1 ply_y (mdO2_S hc142 (md_fr (by rw [qIz142, va_up_ne _ _ (ne_k hKp0 hKy5 (by decide))]))) t151 fz158) hP hS (lv_sub hl [0, 1, 2] rfl)
      refine lv_if_eq (tgt := 141) hx hb dX7_readsBody_128 (by decide) (fun c128 => ?_) (fun c128 => ?_)
      · have t128 := tq_eq (k := w119_0.toInt) (q := (0)) c128 rfl (by decide +kernel)
        refine lv_iconst (v := 1) hx hb dX7_readsBody_141 (by decide +kernel) ?_
        exact j142 1 I119 _ _ _ ⟨by decide +kernel, by decide +kernel⟩ hI119 kp0_11_I119 fr_I119 hk_I119 dn_I119 ⟨fun h => ⟨h, by unfold ly1; rw [if_neg (g119.1 t128 h)]⟩, g119.2⟩ (mdO_0 hc119 t128) hP hS (lv_sub hl [1, 2, 0] rfl)
      · have t128 := tq_ne (k := w119_0.toInt) (q := (0)) c128 rfl (by decide +kernel)
        refine lv_aload_n hx hb dX7_readsBody_131 rfl (lv_at hl 1 rfl) ?_
        refine lv_iconst (v := 0) hx hb dX7_readsBody_132 (by decide +kernel) ?_
        refine lv_bipush (v := 15) hx hb dX7_readsBody_133 (by decide +kernel) ?_
        refine sw_ir (Z := (fun u => (fun I1 J1 => Iv L K x0 m0 tx tm I1 ∧ (∀ b, ¬ (b = p0) → I1 b = I119 b) ∧ I1 p0 11 = I119 p0 11 ∧ ((I119 p0 14).toInt ≤ (I1 p0 14).toInt ∧ ((I1 p0 15).toInt = -1 → (I119 p0 15).toInt = -1) ∧ ((I1 p0 15).toInt = -1 → (0 : Int32).toInt ≤ u.toInt ∧ u.toInt ≤ (15 : Int32).toInt)) ∧ mdQ I119 I1 p0 (pn (tb tm.1.2.2 (I119 p0 13).toInt) (0 : Int32).toInt (15 : Int32).toInt (I119 p0 14).toInt) ∧ (∀ b, K b = 0 ∨ K b = 1 ∨ K b = 3 ∨ K b = 6 → I1 b = I119 b) ∧ ((I1 p0 15).toInt = -1 → u.toInt = nv (tb tm.1.2.2 (I119 p0 13).toInt) (I119 p0 14).toInt) ∧ J1 = J))) (va_runV (As := [.int 0, .int 15]) (rest := [.int z126, .ref y5]) ⟨hx, hb, hml, hown, hts⟩ (s_X7_number l dC dI cs L K G Q hQ x0 m0 tx tm H.size I119 J hI119 p0 hLp0 hKp0 0 ⟨by decide +kernel, by decide +kernel⟩ 15 ⟨by decide +kernel, by decide +kernel⟩) (cwV 2 hts (gV pq1262 pq1264 pq18 pq81 pq1265) rfl rfl rfl (by decide +kernel) ⟨(by rw [hR]; exact (Nat.le_of_ble_eq_true rfl)), (by rw [hR]; exact (Nat.le_of_ble_eq_true rfl))⟩) (sP_V hP hD hK hN hLp0 hKp0 rfl rfl) rfl rfl hl.1 rfl (lv_room (Nat.le_of_ble_eq_true rfl)) dX7_readsBody_135 ⟨(by rw [hR]; exact (Nat.le_of_ble_eq_true rfl)), (by rw [hR]; exact (Nat.le_of_ble_eq_true rfl))⟩) hS hAL hA (fun z135 Iz135 Jz135 H locs hz135 hIz135 hP hS => ?_)
        obtain ⟨hIz135, frc135, kc135_0_11, zr135, fz135, dnc135, jz135, djc135⟩ := hIz135
        obtain rfl : J = Jz135 := djc135.symm
        replace zr135 : Hid _ := zr135
        replace fz135 : Hid _ := fz135
        have hk_Iz135 := hK_call hQ hLp0 hKp0 frc135 zr135.1 zr135.2.1 hk_I119
        have dn_Iz135 : (∀ b, K b = 0 ∨ K b = 1 ∨ K b = 3 ∨ K b = 6 → Iz135 b = I b) := fun b hc => (dnc135 b (by omega)).trans (dn_I119 b hc)
        have kp0_11_Iz135 : Iz135 p0 11 = I p0 11 := kc135_0_11.trans kp0_11_I119
        have fr_Iz135 : ∀ b, ¬ (K b = 7 ∨ K b = 28) → Iz135 b = I b := fun b q => (frc135 b (fun z => q (by rw [z]; have := hKp0; omega))).trans (fr_I119 b q)
        have cst135_0 : (0 : Int32).toInt = 0 := by decide +kernel
        have cst135_15 : (15 : Int32).toInt = 15 := by decide +kernel
        have bz135 := hz135
        refine lv_goto (tgt := 142) hx hb dX7_readsBody_138 (by decide) ?_
        exact j142 z135 Iz135 _ _ _ ⟨by omega, by omega⟩ hIz135 kp0_11_Iz135 fr_Iz135 hk_Iz135 dn_Iz135 ⟨fun h => hc119.elim (fun o => ⟨by rw [o.2.2.2.2.1]; exact o.2.1, by have n := jz135 h; rw [o.2.2.2.1, o.2.2.2.2.2, B4.1] at n; unfold ly1; rw [if_pos (by have q := o.2.2.1; rw [B4.1] at q; exact q)]; exact oi_eq n⟩) (fun o => absurd o.1 t128), (frc135 _ ny5).trans g119.2⟩ (mdO_1 hc119 t128 fz135) hP hS (lv_sub hl [1, 2, 0] rfl)
    have j118 : ∀ (I118 : Nat → Nat → Int32) (H : Heap) (lo : List Loc) (ls : Array Slot), Iv L K x0 m0 tx tm I118 → I118 p0 11 = I p0 11 → (∀ b, ¬ (K b = 7 ∨ K b = 28) → I118 b = I b) → hHK Q I I118 p0 → (∀ b, K b = 0 ∨ K b = 1 ∨ K b = 3 ∨ K b = 6 → I118 b = I b) → Hid (((((I118 p0 15).toInt = -1) → ¬ tw (tb tm.1.2.2 (I p0 13).toInt) wLayer (Iz97 p0 14).toInt) ∧ I118 y5 = Iz97 y5)) → mdQ Iz97 I118 p0 (ply (tb tm.1.2.2 (Iz97 p0 13).toInt) (Iz97 p0 14).toInt) → va_P (dC, dI) vwCl (Wd cs L K I118 J Q) H → va_S A s.heap H lo → lv_has ls 3 [(0, .ref p0), (1, .int z11)] → W p l e R s m (([.ref p0] : List Value).toArray) below meth c H lo 0 0 Qz (F0 m 118 ls []) := by
      intro I118 H lo ls hI118 kp0_11_I118 fr_I118 hk_I118 dn_I118 g118 hc118 hP hS hl
      refine lv_iconst (v := 0) hx hb dX7_readsBody_118 (by decide +kernel) ?_
      exact j119 0 I118 _ _ _ ⟨by decide +kernel, by decide +kernel⟩ hI118 kp0_11_I118 fr_I118 hk_I118 dn_I118 ⟨fun _ => g118.1, g118.2⟩ (Or.inr ⟨by decide +kernel, hc118⟩) hP hS (lv_sub hl [0, 1] rfl)
    refine lv_if_eq (tgt := 118) hx hb dX7_readsBody_102 (by decide) (fun c102 => ?_) (fun c102 => ?_)
    · have t102 := tq_eq (k := z99.toInt) (q := (0)) c102 rfl (by decide +kernel)
      exact j118 Iz97 _ _ _ hIz97 kp0_11_Iz97 fr_Iz97 hk_Iz97 dn_Iz97 ⟨fun h => absurd h (xpz99.2 t102), rfl⟩ (mdQ_id (xpz99.2 t102)) hP hS (lv_sub hl [0, 1] rfl)
    · have t102 := tq_ne (k := z99.toInt) (q := (0)) c102 rfl (by decide +kernel)
      refine lv_aload_n hx hb dX7_readsBody_105 rfl (lv_at hl 0 rfl) ?_
      obtain ⟨y106, hv106, hx_y106⟩ := hxx.2 (RX7, 167, "layer", wLayer) (by simp [lits])
      dsimp only at hv106 hx_y106
      refine va_ldcS hx hb hown hv106 dX7_readsBody_106 ?_
      refine sw_ir (Z := (fun u => (fun I1 J1 => Iv L K x0 m0 tx tm I1 ∧ (∀ b, ¬ (b = p0) → I1 b = Iz97 b) ∧ I1 p0 11 = Iz97 p0 11 ∧ ((Iz97 p0 14).toInt ≤ (I1 p0 14).toInt ∧ ((I1 p0 15).toInt = -1 → (Iz97 p0 15).toInt = -1) ∧ (∀ k, ¬ k = 14 → I1 p0 k = Iz97 p0 k) ∧ (¬ u.toInt = 0 → (wLayer.length : Int) ≤ (I1 p0 14).toInt)) ∧ ((tw (tb tm.1.2.2 (Iz97 p0 13).toInt) wLayer (Iz97 p0 14).toInt → u.toInt = 1 ∧ (I1 p0 14).toInt = wr (tb tm.1.2.2 (Iz97 p0 13).toInt) (sk (tb tm.1.2.2 (Iz97 p0 13).toInt) (Iz97 p0 14).toInt)) ∧ (¬ tw (tb tm.1.2.2 (Iz97 p0 13).toInt) wLayer (Iz97 p0 14).toInt → u.toInt = 0 ∧ (I1 p0 14).toInt = (sk (tb tm.1.2.2 (Iz97 p0 13).toInt) (Iz97 p0 14).toInt))) ∧ (∀ b, K b = 0 ∨ K b = 1 ∨ K b = 3 ∨ K b = 6 → I1 b = Iz97 b) ∧ J1 = J))) (va_runV (As := [.ref y106]) (rest := []) ⟨hx, hb, hml, hown, hts⟩ (s_X7_takes l dC dI cs L K G Q hQ x0 m0 tx tm H.size Iz97 J hIz97 p0 hLp0 hKp0 y106 wLayer) (cwV 1 hts (gV pq1228 pq1230 pq14 pq81 pq1231) rfl rfl rfl (by decide +kernel) ⟨(by rw [hR]; exact (Nat.le_of_ble_eq_true rfl)), (by rw [hR]; exact (Nat.le_of_ble_eq_true rfl))⟩) (sPX_V hP hD hK hN hLp0 hKp0 rfl rfl (gX_and (gX_s _ _) gX_t) hS ⟨hx_y106, hxt⟩ (fun q h => h.elim (hAL q) (fun h => hA q (Nat.le_trans hS.1 h)))) rfl rfl hl.1 rfl (lv_room (Nat.le_of_ble_eq_true rfl)) dX7_readsBody_108 ⟨(by rw [hR]; exact (Nat.le_of_ble_eq_true rfl)), (by rw [hR]; exact (Nat.le_of_ble_eq_true rfl))⟩) hS hAL hA (fun z108 Iz108 Jz108 H locs hz108 hIz108 hP hS => ?_)
      obtain ⟨hIz108, frc108, kc108_0_11, zr108, fz108, dnc108, djc108⟩ := hIz108
      obtain rfl : J = Jz108 := djc108.symm
      replace zr108 : Hid _ := zr108
      replace fz108 : Hid _ := fz108
      have hk_Iz108 := hK_call hQ hLp0 hKp0 frc108 zr108.1 zr108.2.1 hk_Iz97
      have dn_Iz108 : (∀ b, K b = 0 ∨ K b = 1 ∨ K b = 3 ∨ K b = 6 → Iz108 b = I b) := fun b hc => (dnc108 b (by omega)).trans (dn_Iz97 b hc)
      have kp0_11_Iz108 : Iz108 p0 11 = I p0 11 := kc108_0_11.trans kp0_11_Iz97
      have fr_Iz108 : ∀ b, ¬ (K b = 7 ∨ K b = 28) → Iz108 b = I b := fun b q => (frc108 b (fun z => q (by rw [z]; have := hKp0; omega))).trans (fr_Iz97 b q)
      have bz108 := hz108
      refine lv_if_eq (tgt := 118) hx hb dX7_readsBody_111 (by decide) (fun c111 => ?_) (fun c111 => ?_)
      · have t111 := tq_eq (k := z108.toInt) (q := (0)) c111 rfl (by decide +kernel)
        exact j118 Iz108 _ _ _ hIz108 kp0_11_Iz108 fr_Iz108 hk_Iz108 dn_Iz108 ⟨fun _ => by have q := (mdW_no (mdW_of zr108.2.2.1 fz108) t111).1; rw [B4.1] at q; exact q, frc108 _ ny5⟩ (md_none ply_n (xpz99.1 t102) (mdW_of zr108.2.2.1 fz108) t111) hP hS (lv_sub hl [0, 1] rfl)
      · have t111 := tq_ne (k := z108.toInt) (q := (0)) c111 rfl (by decide +kernel)
        refine lv_iconst (v := 1) hx hb dX7_readsBody_114 (by decide +kernel) ?_
        refine lv_goto (tgt := 119) hx hb dX7_readsBody_115 (by decide) ?_
        exact j119 1 Iz108 _ _ _ ⟨by decide +kernel, by decide +kernel⟩ hIz108 kp0_11_Iz108 fr_Iz108 hk_Iz108 dn_Iz108 ⟨fun h => absurd h (by decide +kernel), frc108 _ ny5⟩ (mdO_yes (xpz99.1 t102) (mdW_of zr108.2.2.1 fz108) t111 (by decide +kernel)) hP hS (lv_sub hl [0, 1] rfl)
  have j96 : ∀ (I96 : Nat → Nat → Int32) (H : Heap) (lo : List Loc) (ls : Array Slot), Iv L K x0 m0 tx tm I96 → I96 p0 11 = I p0 11 → (∀ b, ¬ (K b = 7 ∨ K b = 28) → I96 b = I b) → hHK Q I I96 p0 → (∀ b, K b = 0 ∨ K b = 1 ∨ K b = 3 ∨ K b = 6 → I96 b = I b) → Hid (((((I96 p0 15).toInt = -1) → ((Iz63 p0 15).toInt = -1) ∧ ¬ tw (tb tm.1.2.2 (I p0 13).toInt) wFlip (Iz63 p0 14).toInt) ∧ I96 y5 = Iz63 y5)) → mdQ I I96 p0 (sq (sq (sq (pn (tb tm.1.2.2 (I p0 13).toInt) 0 ((I ((Q p0 1).getD 0) 0).toInt - 1) (I p0 14).toInt) (ps (tb tm.1.2.2 (I p0 13).toInt) 999)) (ps (tb tm.1.2.2 (I p0 13).toInt) 999)) (pfl (tb tm.1.2.2 (I p0 13).toInt))) → va_P (dC, dI) vwCl (Wd cs L K I96 J Q) H → va_S A s.heap H lo → lv_has ls 3 [(0, .ref p0), (1, .int z11)] → W p l e R s m (([.ref p0] : List Value).toArray) below meth c H lo 0 0 Qz (F0 m 96 ls [.int z70, .ref y5]) := by
    intro I96 H lo ls hI96 kp0_11_I96 fr_I96 hk_I96 dn_I96 g96 hc96 hP hS hl
    refine lv_iconst (v := 0) hx hb dX7_readsBody_96 (by decide +kernel) ?_
    exact j97 0 I96 _ _ _ ⟨by decide +kernel, by decide +kernel⟩ hI96 kp0_11_I96 fr_I96 hk_I96 dn_I96 ⟨fun h => ⟨(g96.1 h).1, by unfold fl0; rw [if_neg (g96.1 h).2]⟩, g96.2⟩ hc96 hP hS (lv_sub hl [0, 1] rfl)
  refine lv_if_eq (tgt := 96) hx hb dX7_readsBody_75 (by decide) (fun c75 => ?_) (fun c75 => ?_)
  · have t75 := tq_eq (k := z72.toInt) (q := (0)) c75 rfl (by decide +kernel)
    exact j96 Iz63 _ _ _ hIz63 kp0_11_Iz63 fr_Iz63 hk_Iz63 dn_Iz63 ⟨fun h => absurd h (xpz72.2 t75), rfl⟩ (mdQ_bind (g := pfl) B3 (mdQ_id (xpz72.2 t75))) hP hS (lv_sub hl [1, 0] rfl)
  · have t75 := tq_ne (k := z72.toInt) (q := (0)) c75 rfl (by decide +kernel)
    refine lv_aload_n hx hb dX7_readsBody_78 rfl (lv_at hl 1 rfl) ?_
    obtain ⟨y79, hv79, hx_y79⟩ := hxx.2 (RX7, 165, "flip", wFlip) (by simp [lits])
    dsimp only at hv79 hx_y79
    refine va_ldcS hx hb hown hv79 dX7_readsBody_79 ?_
    refine sw_ir (Z := (fun u => (fun I1 J1 => Iv L K x0 m0 tx tm I1 ∧ (∀ b, ¬ (b = p0) → I1 b = Iz63 b) ∧ I1 p0 11 = Iz63 p0 11 ∧ ((Iz63 p0 14).toInt ≤ (I1 p0 14).toInt ∧ ((I1 p0 15).toInt = -1 → (Iz63 p0 15).toInt = -1) ∧ (∀ k, ¬ k = 14 → I1 p0 k = Iz63 p0 k) ∧ (¬ u.toInt = 0 → (wFlip.length : Int) ≤ (I1 p0 14).toInt)) ∧ ((tw (tb tm.1.2.2 (Iz63 p0 13).toInt) wFlip (Iz63 p0 14).toInt → u.toInt = 1 ∧ (I1 p0 14).toInt = wr (tb tm.1.2.2 (Iz63 p0 13).toInt) (sk (tb tm.1.2.2 (Iz63 p0 13).toInt) (Iz63 p0 14).toInt)) ∧ (¬ tw (tb tm.1.2.2 (Iz63 p0 13).toInt) wFlip (Iz63 p0 14).toInt → u.toInt = 0 ∧ (I1 p0 14).toInt = (sk (tb tm.1.2.2 (Iz63 p0 13).toInt) (Iz63 p0 14).toInt))) ∧ (∀ b, K b = 0 ∨ K b = 1 ∨ K b = 3 ∨ K b = 6 → I1 b = Iz63 b) ∧ J1 = J))) (va_runV (As := [.ref y79]) (rest := [.int z70, .ref y5]) ⟨hx, hb, hml, hown, hts⟩ (s_X7_takes l dC dI cs L K G Q hQ x0 m0 tx tm H.size Iz63 J hIz63 p0 hLp0 hKp0 y79 wFlip) (cwV 1 hts (gV pq1228 pq1230 pq14 pq81 pq1231) rfl rfl rfl (by decide +kernel) ⟨(by rw [hR]; exact (Nat.le_of_ble_eq_true rfl)), (by rw [hR]; exact (Nat.le_of_ble_eq_true rfl))⟩) (sPX_V hP hD hK hN hLp0 hKp0 rfl rfl (gX_and (gX_s _ _) gX_t) hS ⟨hx_y79, hxt⟩ (fun q h => h.elim (hAL q) (fun h => hA q (Nat.le_trans hS.1 h)))) rfl rfl hl.1 rfl (lv_room (Nat.le_of_ble_eq_true rfl)) dX7_readsBody_81 ⟨(by rw [hR]; exact (Nat.le_of_ble_eq_true rfl)), (by rw [hR]; exact (Nat.le_of_ble_eq_true rfl))⟩) hS hAL hA (fun z81 Iz81 Jz81 H locs hz81 hIz81 hP hS => ?_)
    obtain ⟨hIz81, frc81, kc81_0_11, zr81, fz81, dnc81, djc81⟩ := hIz81
    obtain rfl : J = Jz81 := djc81.symm
    replace zr81 : Hid _ := zr81
    replace fz81 : Hid _ := fz81
    have hk_Iz81 := hK_call hQ hLp0 hKp0 frc81 zr81.1 zr81.2.1 hk_Iz63
    have dn_Iz81 : (∀ b, K b = 0 ∨ K b = 1 ∨ K b = 3 ∨ K b = 6 → Iz81 b = I b) := fun b hc => (dnc81 b (by omega)).trans (dn_Iz63 b hc)
    have kp0_11_Iz81 : Iz81 p0 11 = I p0 11 := kc81_0_11.trans kp0_11_Iz63
    have fr_Iz81 : ∀ b, ¬ (K b = 7 ∨ K b = 28) → Iz81 b = I b := fun b q => (frc81 b (fun z => q (by rw [z]; have := hKp0; omega))).trans (fr_Iz63 b q)
    have bz81 := hz81
    refine lv_if_eq (tgt := 96) hx hb dX7_readsBody_84 (by decide) (fun c84 => ?_) (fun c84 => ?_)
    · have t84 := tq_eq (k := z81.toInt) (q := (0)) c84 rfl (by decide +kernel)
      exact j96 Iz81 _ _ _ hIz81 kp0_11_Iz81 fr_Iz81 hk_Iz81 dn_Iz81 ⟨fun _ => ⟨xpz72.1 t75, by have q := (mdW_no (mdW_of zr81.2.2.1 fz81) t84).1; rw [B3.1] at q; exact q⟩, frc81 _ ny5⟩ (mdQ_bind (g := pfl) B3 (md_none pfl_n (xpz72.1 t75) (mdW_of zr81.2.2.1 fz81) t84)) hP hS (lv_sub hl [1, 0] rfl)
    · have t84 := tq_ne (k := z81.toInt) (q := (0)) c84 rfl (by decide +kernel)
      refine lv_aload_n hx hb dX7_readsBody_87 rfl (lv_at hl 1 rfl) ?_
      refine lv_iconst (v := 0) hx hb dX7_readsBody_88 (by decide +kernel) ?_
      refine lv_iconst (v := 3) hx hb dX7_readsBody_89 (by decide +kernel) ?_
      refine sw_ir (Z := (fun u => (fun I1 J1 => Iv L K x0 m0 tx tm I1 ∧ (∀ b, ¬ (b = p0) → I1 b = Iz81 b) ∧ I1 p0 11 = Iz81 p0 11 ∧ ((Iz81 p0 14).toInt ≤ (I1 p0 14).toInt ∧ ((I1 p0 15).toInt = -1 → (Iz81 p0 15).toInt = -1) ∧ ((I1 p0 15).toInt = -1 → (0 : Int32).toInt ≤ u.toInt ∧ u.toInt ≤ (3 : Int32).toInt)) ∧ mdQ Iz81 I1 p0 (pn (tb tm.1.2.2 (Iz81 p0 13).toInt) (0 : Int32).toInt (3 : Int32).toInt (Iz81 p0 14).toInt) ∧ (∀ b, K b = 0 ∨ K b = 1 ∨ K b = 3 ∨ K b = 6 → I1 b = Iz81 b) ∧ ((I1 p0 15).toInt = -1 → u.toInt = nv (tb tm.1.2.2 (Iz81 p0 13).toInt) (Iz81 p0 14).toInt) ∧ J1 = J))) (va_runV (As := [.int 0, .int 3]) (rest := [.int z70, .ref y5]) ⟨hx, hb, hml, hown, hts⟩ (s_X7_number l dC dI cs L K G Q hQ x0 m0 tx tm H.size Iz81 J hIz81 p0 hLp0 hKp0 0 ⟨by decide +kernel, by decide +kernel⟩ 3 ⟨by decide +kernel, by decide +kernel⟩) (cwV 2 hts (gV pq1262 pq1264 pq18 pq81 pq1265) rfl rfl rfl (by decide +kernel) ⟨(by rw [hR]; exact (Nat.le_of_ble_eq_true rfl)), (by rw [hR]; exact (Nat.le_of_ble_eq_true rfl))⟩) (sP_V hP hD hK hN hLp0 hKp0 rfl rfl) rfl rfl hl.1 rfl (lv_room (Nat.le_of_ble_eq_true rfl)) dX7_readsBody_90 ⟨(by rw [hR]; exact (Nat.le_of_ble_eq_true rfl)), (by rw [hR]; exact (Nat.le_of_ble_eq_true rfl))⟩) hS hAL hA (fun z90 Iz90 Jz90 H locs hz90 hIz90 hP hS => ?_)
      obtain ⟨hIz90, frc90, kc90_0_11, zr90, fz90, dnc90, jz90, djc90⟩ := hIz90
      obtain rfl : J = Jz90 := djc90.symm
      replace zr90 : Hid _ := zr90
      replace fz90 : Hid _ := fz90
      have hk_Iz90 := hK_call hQ hLp0 hKp0 frc90 zr90.1 zr90.2.1 hk_Iz81
      have dn_Iz90 : (∀ b, K b = 0 ∨ K b = 1 ∨ K b = 3 ∨ K b = 6 → Iz90 b = I b) := fun b hc => (dnc90 b (by omega)).trans (dn_Iz81 b hc)
      have kp0_11_Iz90 : Iz90 p0 11 = I p0 11 := kc90_0_11.trans kp0_11_Iz81
      have fr_Iz90 : ∀ b, ¬ (K b = 7 ∨ K b = 28) → Iz90 b = I b := fun b q => (frc90 b (fun z => q (by rw [z]; have := hKp0; omega))).trans (fr_Iz81 b q)
      have cst90_0 : (0 : Int32).toInt = 0 := by decide +kernel
      have cst90_3 : (3 : Int32).toInt = 3 := by decide +kernel
      have bz90 := hz90
      refine lv_goto (tgt := 97) hx hb dX7_readsBody_93 (by decide) ?_
      exact j97 z90 Iz90 _ _ _ ⟨by omega, by omega⟩ hIz90 kp0_11_Iz90 fr_Iz90 hk_Iz90 dn_Iz90 ⟨fun h => ⟨xpz72.1 t75, by have y := mdW_yes (mdW_of zr81.2.2.1 fz81) t84; have n := jz90 h; rw [y.2.1, y.2.2.2, B3.1] at n; unfold fl0; rw [if_pos (by have q := y.1; rw [B3.1] at q; exact q)]; exact oi_eq n⟩, (frc90 _ ny5).trans (frc81 _ ny5)⟩ (mdQ_bind (g := pfl) B3 (md_one (q := fun t => pn t 0 3) pfl_y (mdW_of zr81.2.2.1 fz81) t84 fz90)) hP hS (lv_sub hl [1, 0] rfl)

set_option maxHeartbeats 4000000 in
set_option maxRecDepth 100000 in
theorem s_X7_readsPart (l : Launch) (dC : Nat → ClassId) (dI : Nat → Nat → Nat) (cs : Nat → ClassId) (L : List Nat) (K G : Nat → Nat) (Q : Nat → Nat → Option Nat) (hQ : Sv L K G Q) (x0 m0 : Nat) (tx : GT) (tm : GT × Int) (sz : Nat) (I : Nat → Nat → Int32) (J : Nat → Nat → Int64) (hI : Iv L K x0 m0 tx tm I) (p0 : Nat) (hLp0 : p0 ∈ L) (hKp0 : K p0 = 7) (ho : hOK Q I p0) (hf : (I p0 15).toInt = -1) : Met l yX7_readsPart (.code yX7_readsPart cX7_readsPart 2 none :: pw) ({ frames := 6, cells := 0, slots := 0, locals := 133 }) (sPX (dC, dI) cs [.ref p0] sz L K I J Q (fun q => q ∈ L ∨ sz ≤ q) (fun A U H => xS A U H)) (va_Qv (fun (_ : Unit) => True) (fun _ t => sB (dC, dI) cs L K Q (fun I1 J1 => Iv L K x0 m0 tx tm I1 ∧ (∀ b, ¬ (K b = 7 ∨ K b = 28) → I1 b = I b) ∧ I1 p0 11 = I p0 11 ∧ (hJ Q I I1 p0) ∧ mpC tm.1.2.2 I I1 p0 ((Q p0 1).getD 0) ∧ (∀ b, K b = 0 ∨ K b = 1 ∨ K b = 3 ∨ K b = 6 → I1 b = I b) ∧ (∀ c : Fx, okF c → isF I J (a0 Q p0 1) (a0 Q p0 6) 0 c → zF c → (I1 p0 15).toInt = -1 → isF I1 J1 (a0 Q p0 1) (a0 Q p0 6) 0 (pcT (tb tm.1.2.2 (I p0 13).toInt) c (I p0 14).toInt) ∧ okF (pcT (tb tm.1.2.2 (I p0 13).toInt) c (I p0 14).toInt) ∧ zF (pcT (tb tm.1.2.2 (I p0 13).toInt) c (I p0 14).toInt)) ∧ (∀ b, ¬ (K b = 32) → J1 b = J b)) t) (fun q => q ∈ L ∨ sz ≤ q)) 0 0 (fun q => q ∈ L ∨ sz ≤ q) := by
  refine Met.ofW (cc := cX7_readsPart) (maxL := 2) (ret := none) (by decide +kernel) rfl ?_
  intro p e s m args below meth c s₁ B hml hv
  obtain ⟨rfl, ⟨hsz, hP, hK, hD0, hN⟩, hXs⟩ := hv
  have hx := B.exec
  have hb := B.bytes
  have hr := B.returns
  have hts := fun w (h : w ∈ pw) => atoms_spec (ws := Cond.code yX7_readsPart cX7_readsPart 2 none :: pw) B.pre w (List.mem_cons_of_mem _ h)
  have hown : s.vm.findClass RX7 = some m.cls := findClass_of_methodNamed B.named
  have hlocks := B.notSynchronized
  subst hsz
  have hBB : 999 ≤ tm.2 ∧ tm.2 ≤ 6000000 := hI.2.2.2.2.1
  have hk_I : hHK Q I I p0 := hK_refl ho
  have dn_I : (∀ b, K b = 0 ∨ K b = 1 ∨ K b = 3 ∨ K b = 6 → I b = I b) := fun _ _ => rfl
  have dj_J : (∀ b, ¬ (K b = 32) → J b = J b) := fun _ _ => rfl
  have kp0_11_I : I p0 11 = I p0 11 := rfl
  have fr_I : ∀ b, ¬ (K b = 7 ∨ K b = 28) → I b = I b := fun _ _ => rfl
  obtain ⟨A, hAe⟩ : ∃ A : Nat → Prop, A = (fun q => q ∈ L ∨ s.heap.size ≤ q) := ⟨_, rfl⟩
  rw [← hAe]
  have hAL : ∀ q, q ∈ L → A q := fun q h => by rw [hAe]; exact Or.inl h
  have hA : ∀ q, s.heap.size ≤ q → A q := fun q h => by rw [hAe]; exact Or.inr h
  have hD : ∀ F, va_D A (va_pl L F) := fun F => (hD0 F).weaken (fun k q hk _ => hAL _ (pl_mem hk))
  rw [← hAe] at hXs
  have hxx := hXs
  have hxt := hxx.1
  obtain ⟨H, hHe⟩ : ∃ H : Heap, H = s.heap := ⟨_, rfl⟩
  have hS : va_S A s.heap H [] := by rw [hHe]; exact va_S.rf
  rw [← hHe] at hP
  have hl := lv_entry ([.ref p0]) (n := 2) (Nat.le_of_ble_eq_true rfl)
  rw [lg_entry_eq]
  generalize (lg_sl ([.ref p0]) ++ List.replicate (2 - (lg_sl ([.ref p0])).length) Slot.unset).toArray = ls at hl ⊢
  have hl : lv_has ls 2 [(0, .ref p0)] := hl
  rw [← hHe]
  refine namedW (fun R Qz hR hQz => ?_)
  obtain ⟨yh0, eyh0, hLyh, hKyh⟩ := oQ_7_1 (Sv_at hQ hLp0 hKp0)
  have eYH : ((Q p0 1).getD 0) = yh0 := by rw [eyh0]; rfl
  have nyh : ¬ ((Q p0 1).getD 0) = p0 := by rw [eYH]; exact ne_k hKyh hKp0 (by decide)
  have a14 := (oI_7_14 (Iv_at hI hLp0 hKp0)).1
  have a13 := (oI_7_13 (Iv_at hI hLp0 hKp0)).2
  have hby := tpB hQ hI hLp0 hKp0
  refine lv_aload_n hx hb dX7_readsPart_0 rfl (lv_at hl 0 rfl) ?_
  refine sw_ir (Z := (fun u => (fun I1 J1 => Iv L K x0 m0 tx tm I1 ∧ (∀ b, ¬ (b = p0) → I1 b = I b) ∧ I1 p0 11 = I p0 11 ∧ ((I p0 14).toInt ≤ (I1 p0 14).toInt ∧ ((I1 p0 15).toInt = -1 → (I p0 15).toInt = -1) ∧ (∀ k, ¬ k = 14 → I1 p0 k = I p0 k) ∧ (¬ u.toInt = -1 → (I1 p0 14).toInt < (I1 p0 13).toInt)) ∧ (u.toInt = sgB ((tb tm.1.2.2 (I p0 13).toInt) (sk (tb tm.1.2.2 (I p0 13).toInt) (I p0 14).toInt)) ∧ (I1 p0 14).toInt = (sk (tb tm.1.2.2 (I p0 13).toInt) (I p0 14).toInt)) ∧ (∀ b, K b = 0 ∨ K b = 1 ∨ K b = 3 ∨ K b = 6 → I1 b = I b) ∧ J1 = J))) (va_runV (As := []) (rest := []) ⟨hx, hb, hml, hown, hts⟩ (s_X7_next l dC dI cs L K G Q hQ x0 m0 tx tm H.size I J hI p0 hLp0 hKp0) (cwV 0 hts (gV pq1211 pq1213 pq10 pq81 pq1214) rfl rfl rfl (by decide +kernel) ⟨(by rw [hR]; exact (Nat.le_of_ble_eq_true rfl)), (by rw [hR]; exact (Nat.le_of_ble_eq_true rfl))⟩) (sP_V hP hD hK hN hLp0 hKp0 rfl rfl) rfl rfl hl.1 rfl (lv_room (Nat.le_of_ble_eq_true rfl)) dX7_readsPart_1 ⟨(by rw [hR]; exact (Nat.le_of_ble_eq_true rfl)), (by rw [hR]; exact (Nat.le_of_ble_eq_true rfl))⟩) hS hAL hA (fun z1 Iz1 Jz1 H locs hz1 hIz1 hP hS => ?_)
  obtain ⟨hIz1, frc1, kc1_0_11, zr1, fz1, dnc1, djc1⟩ := hIz1
  obtain rfl : J = Jz1 := djc1.symm
  replace zr1 : Hid _ := zr1
  replace fz1 : Hid _ := fz1
  have hk_Iz1 := hK_call hQ hLp0 hKp0 frc1 zr1.1 zr1.2.1 hk_I
  have dn_Iz1 : (∀ b, K b = 0 ∨ K b = 1 ∨ K b = 3 ∨ K b = 6 → Iz1 b = I b) := fun b hc => (dnc1 b (by omega)).trans (dn_I b hc)
  have kp0_11_Iz1 : Iz1 p0 11 = I p0 11 := kc1_0_11.trans kp0_11_I
  have fr_Iz1 : ∀ b, ¬ (K b = 7 ∨ K b = 28) → Iz1 b = I b := fun b q => (frc1 b (fun z => q (by rw [z]; have := hKp0; omega))).trans (fr_I b q)
  have bz1 := hz1
  refine lv_pop hx hb dX7_readsPart_4 rfl ?_
  have s0 : 0 ≤ (sk (tb tm.1.2.2 (I p0 13).toInt) (I p0 14).toInt) := by rw [← fz1.2]; exact (oI_7_14 (Iv_at hIz1 hLp0 hKp0)).1
  refine lv_aload_n hx hb dX7_readsPart_5 rfl (lv_at hl 0 rfl) ?_
  refine p_get hx hb hts inX7 hown hK hP hLp0 hKp0 rfl rfl 14 (by decide) (hts _ pq1129) rfl dX7_readsPart_6 ?_
  refine lv_topi (fun z6 ez6 => ?_)
  have cgz6 := congrArg Int32.toInt ez6
  have bz6 := oI_7_14 (Iv_at hIz1 hLp0 hKp0)
  rw [← ez6] at bz6
  refine lv_istore_n (lv' := [(1, .int z6), (0, .ref p0)]) hx hb dX7_readsPart_9 rfl hl (by decide) rfl (fun ls hl => ?_)
  refine lv_aload_n hx hb dX7_readsPart_10 rfl (lv_at hl 1 rfl) ?_
  obtain ⟨y11, hv11, hx_y11⟩ := hxx.2 (RX7, 171, "mask", wMask) (by simp [lits])
  dsimp only at hv11 hx_y11
  refine va_ldcS hx hb hown hv11 dX7_readsPart_11 ?_
  refine sw_ir (Z := (fun u => (fun I1 J1 => Iv L K x0 m0 tx tm I1 ∧ (∀ b, ¬ (b = p0) → I1 b = Iz1 b) ∧ I1 p0 11 = Iz1 p0 11 ∧ ((Iz1 p0 14).toInt ≤ (I1 p0 14).toInt ∧ ((I1 p0 15).toInt = -1 → (Iz1 p0 15).toInt = -1) ∧ (∀ k, ¬ k = 14 → I1 p0 k = Iz1 p0 k) ∧ (¬ u.toInt = 0 → (wMask.length : Int) ≤ (I1 p0 14).toInt)) ∧ ((tw (tb tm.1.2.2 (Iz1 p0 13).toInt) wMask (Iz1 p0 14).toInt → u.toInt = 1 ∧ (I1 p0 14).toInt = wr (tb tm.1.2.2 (Iz1 p0 13).toInt) (sk (tb tm.1.2.2 (Iz1 p0 13).toInt) (Iz1 p0 14).toInt)) ∧ (¬ tw (tb tm.1.2.2 (Iz1 p0 13).toInt) wMask (Iz1 p0 14).toInt → u.toInt = 0 ∧ (I1 p0 14).toInt = (sk (tb tm.1.2.2 (Iz1 p0 13).toInt) (Iz1 p0 14).toInt))) ∧ (∀ b, K b = 0 ∨ K b = 1 ∨ K b = 3 ∨ K b = 6 → I1 b = Iz1 b) ∧ J1 = J))) (va_runV (As := [.ref y11]) (rest := []) ⟨hx, hb, hml, hown, hts⟩ (s_X7_takes l dC dI cs L K G Q hQ x0 m0 tx tm H.size Iz1 J hIz1 p0 hLp0 hKp0 y11 wMask) (cwV 1 hts (gV pq1228 pq1230 pq14 pq81 pq1231) rfl rfl rfl (by decide +kernel) ⟨(by rw [hR]; exact (Nat.le_of_ble_eq_true rfl)), (by rw [hR]; exact (Nat.le_of_ble_eq_true rfl))⟩) (sPX_V hP hD hK hN hLp0 hKp0 rfl rfl (gX_and (gX_s _ _) gX_t) hS ⟨hx_y11, hxt⟩ (fun q h => h.elim (hAL q) (fun h => hA q (Nat.le_trans hS.1 h)))) rfl rfl hl.1 rfl (lv_room (Nat.le_of_ble_eq_true rfl)) dX7_readsPart_13 ⟨(by rw [hR]; exact (Nat.le_of_ble_eq_true rfl)), (by rw [hR]; exact (Nat.le_of_ble_eq_true rfl))⟩) hS hAL hA (fun z13 Iz13 Jz13 H locs hz13 hIz13 hP hS => ?_)
  obtain ⟨hIz13, frc13, kc13_0_11, zr13, fz13, dnc13, djc13⟩ := hIz13
  obtain rfl : J = Jz13 := djc13.symm
  replace zr13 : Hid _ := zr13
  replace fz13 : Hid _ := fz13
  have hk_Iz13 := hK_call hQ hLp0 hKp0 frc13 zr13.1 zr13.2.1 hk_Iz1
  have dn_Iz13 : (∀ b, K b = 0 ∨ K b = 1 ∨ K b = 3 ∨ K b = 6 → Iz13 b = I b) := fun b hc => (dnc13 b (by omega)).trans (dn_Iz1 b hc)
  have kp0_11_Iz13 : Iz13 p0 11 = I p0 11 := kc13_0_11.trans kp0_11_Iz1
  have fr_Iz13 : ∀ b, ¬ (K b = 7 ∨ K b = 28) → Iz13 b = I b := fun b q => (frc13 b (fun z => q (by rw [z]; have := hKp0; omega))).trans (fr_Iz1 b q)
  have bz13 := hz13
  have f13 : (Iz13 p0 15).toInt = -1 := by rw [zr13.2.2.1 15 (by decide), zr1.2.2.1 15 (by decide)]; exact hf
  refine lv_if_eq (tgt := 46) hx hb dX7_readsPart_16 (by decide) (fun c16 => ?_) (fun c16 => ?_)
  · have t16 := tq_eq (k := z13.toInt) (q := (0)) c16 rfl (by decide +kernel)
    refine lv_aload_n hx hb dX7_readsPart_46 rfl (lv_at hl 1 rfl) ?_
    obtain ⟨y47, hv47, hx_y47⟩ := hxx.2 (RX7, 176, "body", wBody) (by simp [lits])
    dsimp only at hv47 hx_y47
    refine va_ldcS hx hb hown hv47 dX7_readsPart_47 ?_
    refine sw_ir (Z := (fun u => (fun I1 J1 => Iv L K x0 m0 tx tm I1 ∧ (∀ b, ¬ (b = p0) → I1 b = Iz13 b) ∧ I1 p0 11 = Iz13 p0 11 ∧ ((Iz13 p0 14).toInt ≤ (I1 p0 14).toInt ∧ ((I1 p0 15).toInt = -1 → (Iz13 p0 15).toInt = -1) ∧ (∀ k, ¬ k = 14 → I1 p0 k = Iz13 p0 k) ∧ (¬ u.toInt = 0 → (wBody.length : Int) ≤ (I1 p0 14).toInt)) ∧ ((tw (tb tm.1.2.2 (Iz13 p0 13).toInt) wBody (Iz13 p0 14).toInt → u.toInt = 1 ∧ (I1 p0 14).toInt = wr (tb tm.1.2.2 (Iz13 p0 13).toInt) (sk (tb tm.1.2.2 (Iz13 p0 13).toInt) (Iz13 p0 14).toInt)) ∧ (¬ tw (tb tm.1.2.2 (Iz13 p0 13).toInt) wBody (Iz13 p0 14).toInt → u.toInt = 0 ∧ (I1 p0 14).toInt = (sk (tb tm.1.2.2 (Iz13 p0 13).toInt) (Iz13 p0 14).toInt))) ∧ (∀ b, K b = 0 ∨ K b = 1 ∨ K b = 3 ∨ K b = 6 → I1 b = Iz13 b) ∧ J1 = J))) (va_runV (As := [.ref y47]) (rest := []) ⟨hx, hb, hml, hown, hts⟩ (s_X7_takes l dC dI cs L K G Q hQ x0 m0 tx tm H.size Iz13 J hIz13 p0 hLp0 hKp0 y47 wBody) (cwV 1 hts (gV pq1228 pq1230 pq14 pq81 pq1231) rfl rfl rfl (by decide +kernel) ⟨(by rw [hR]; exact (Nat.le_of_ble_eq_true rfl)), (by rw [hR]; exact (Nat.le_of_ble_eq_true rfl))⟩) (sPX_V hP hD hK hN hLp0 hKp0 rfl rfl (gX_and (gX_s _ _) gX_t) hS ⟨hx_y47, hxt⟩ (fun q h => h.elim (hAL q) (fun h => hA q (Nat.le_trans hS.1 h)))) rfl rfl hl.1 rfl (lv_room (Nat.le_of_ble_eq_true rfl)) dX7_readsPart_49 ⟨(by rw [hR]; exact (Nat.le_of_ble_eq_true rfl)), (by rw [hR]; exact (Nat.le_of_ble_eq_true rfl))⟩) hS hAL hA (fun z49 Iz49 Jz49 H locs hz49 hIz49 hP hS => ?_)
    obtain ⟨hIz49, frc49, kc49_0_11, zr49, fz49, dnc49, djc49⟩ := hIz49
    obtain rfl : J = Jz49 := djc49.symm
    replace zr49 : Hid _ := zr49
    replace fz49 : Hid _ := fz49
    have hk_Iz49 := hK_call hQ hLp0 hKp0 frc49 zr49.1 zr49.2.1 hk_Iz13
    have dn_Iz49 : (∀ b, K b = 0 ∨ K b = 1 ∨ K b = 3 ∨ K b = 6 → Iz49 b = I b) := fun b hc => (dnc49 b (by omega)).trans (dn_Iz13 b hc)
    have kp0_11_Iz49 : Iz49 p0 11 = I p0 11 := kc49_0_11.trans kp0_11_Iz13
    have fr_Iz49 : ∀ b, ¬ (K b = 7 ∨ K b = 28) → Iz49 b = I b := fun b q => (frc49 b (fun z => q (by rw [z]; have := hKp0; omega))).trans (fr_Iz13 b q)
    have bz49 := hz49
    have f49 : (Iz49 p0 15).toInt = -1 := by rw [zr49.2.2.1 15 (by decide)]; exact f13
    refine lv_if_eq (tgt := 82) hx hb dX7_readsPart_52 (by decide) (fun c52 => ?_) (fun c52 => ?_)
    · have t52 := tq_eq (k := z49.toInt) (q := (0)) c52 rfl (by decide +kernel)
      refine lv_aload_n hx hb dX7_readsPart_82 rfl (lv_at hl 1 rfl) ?_
      refine lv_iconst (v := 1) hx hb dX7_readsPart_83 (by decide +kernel) ?_
      refine lv_iload_n hx hb dX7_readsPart_84 rfl (lv_at hl 0 rfl) ?_
      refine sw_v (Z := (fun I1 J1 => Iv L K x0 m0 tx tm I1 ∧ (∀ b, ¬ (b = p0) → I1 b = Iz49 b) ∧ I1 p0 11 = Iz49 p0 11 ∧ (((Iz49 p0 14).toInt ≤ (I1 p0 14).toInt ∧ ((I1 p0 15).toInt = -1 → (Iz49 p0 15).toInt = -1) ∧ (∀ k, ¬ k = 15 → I1 p0 k = Iz49 p0 k) ∧ ¬ (I1 p0 15).toInt = -1)) ∧ (((Iz49 p0 15).toInt = -1 → (I1 p0 15).toInt = 8 * z6.toInt + (1 : Int32).toInt) ∧ (¬ (Iz49 p0 15).toInt = -1 → I1 p0 15 = Iz49 p0 15)) ∧ (∀ b, K b = 0 ∨ K b = 1 ∨ K b = 3 ∨ K b = 6 → I1 b = Iz49 b) ∧ J1 = J)) (va_runV (As := [.int 1, .int z6]) (rest := []) ⟨hx, hb, hml, hown, hts⟩ (s_X7_fails l dC dI cs L K G Q hQ x0 m0 tx tm H.size Iz49 J hIz49 p0 hLp0 hKp0 1 ⟨by decide +kernel, by decide +kernel⟩ z6 ⟨by omega, by omega⟩) (cwV 2 hts (gV pq1239 pq1241 pq15 pq81 pq1242) rfl rfl rfl (by decide +kernel) ⟨(by rw [hR]; exact (Nat.le_of_ble_eq_true rfl)), (by rw [hR]; exact (Nat.le_of_ble_eq_true rfl))⟩) (sP_V hP hD hK hN hLp0 hKp0 rfl rfl) rfl rfl hl.1 rfl (lv_room (Nat.le_of_ble_eq_true rfl)) dX7_readsPart_85 ⟨(by rw [hR]; exact (Nat.le_of_ble_eq_true rfl)), (by rw [hR]; exact (Nat.le_of_ble_eq_true rfl))⟩) hS hAL hA (fun Iz85 Jz85 H locs hz85 hIz85 hP hS => ?_)
      obtain ⟨hIz85, frc85, kc85_0_11, zp85, fz85, dnc85, djc85⟩ := hIz85
      obtain rfl : J = Jz85 := djc85.symm
      replace zp85 : Hid _ := zp85
      replace fz85 : Hid _ := fz85
      have hk_Iz85 := hK_call hQ hLp0 hKp0 frc85 zp85.1 zp85.2.1 hk_Iz49
      have dn_Iz85 : (∀ b, K b = 0 ∨ K b = 1 ∨ K b = 3 ∨ K b = 6 → Iz85 b = I b) := fun b hc => (dnc85 b (by omega)).trans (dn_Iz49 b hc)
      have kp0_11_Iz85 : Iz85 p0 11 = I p0 11 := kc85_0_11.trans kp0_11_Iz49
      have fr_Iz85 : ∀ b, ¬ (K b = 7 ∨ K b = 28) → Iz85 b = I b := fun b q => (frc85 b (fun z => q (by rw [z]; have := hKp0; omega))).trans (fr_Iz49 b q)
      have cst85_1 : (1 : Int32).toInt = 1 := by decide +kernel
      subst hR; subst hQz
      exact W.vret hx hb hr (fun t ht hW => ⟨⟨(), rfl, trivial, ⟨Iz85, J, ⟨hIz85, fr_Iz85, kp0_11_Iz85, (hJ_of hk_Iz85), (mpt_none (mdW_next (show mdA I Iz1 p0 (sk (tb tm.1.2.2 (I p0 13).toInt) (I p0 14).toInt) from ⟨zr1.2.2.1 13 (by decide), zr1.2.2.1 15 (by decide), fz1.2⟩) a14 a13 (mdW_of zr13.2.2.1 fz13)) t16 (mdW_next (mdW_no (mdW_next (show mdA I Iz1 p0 (sk (tb tm.1.2.2 (I p0 13).toInt) (I p0 14).toInt) from ⟨zr1.2.2.1 13 (by decide), zr1.2.2.1 15 (by decide), fz1.2⟩) a14 a13 (mdW_of zr13.2.2.1 fz13)) t16).2 a14 a13 (mdW_of zr49.2.2.1 fz49)) t52 hf s0 ((zp85.2.2.1 13 (by decide))) (fun q => (fz85.1 q).trans (by rw [cst85_1, cgz6, fz1.2]))), dn_Iz85, (fun c ok h zc F => absurd F zp85.2.2.2), dj_J⟩, by rw [ht]; exact hP⟩⟩, hS.F ht⟩) hS.2.2 dX7_readsPart_88
    · have t52 := tq_ne (k := z49.toInt) (q := (0)) c52 rfl (by decide +kernel)
      refine lv_aload_n hx hb dX7_readsPart_55 rfl (lv_at hl 1 rfl) ?_
      obtain ⟨y56, ey56, hLy56, hKy56⟩ := oQ_7_1 (Sv_at hQ hLp0 hKp0)
      refine p_get (v := .ref y56) hx hb hts inX7 hown hK hP hLp0 hKp0 rfl rfl 1 (by decide) (hts _ pq1116) (congrArg (fun q => some (va_rf q)) ey56) dX7_readsPart_56 ?_
      refine lv_iconst (v := 1) hx hb dX7_readsPart_59 (by decide +kernel) ?_
      refine p_iald hx hb hK hP 18 hLy56 hKy56 rfl rfl (in_d (by decide +kernel)) dX7_readsPart_60 ?_
      refine lv_topi (fun z60 ez60 => ?_)
      have eY49 : ((Q p0 1).getD 0) = y56 := by rw [ey56]; rfl
      have m56 : z60.toInt = (I ((Q p0 1).getD 0) 1).toInt ∧ (I ((Q p0 1).getD 0) 1).toInt ≤ 10 := by (have q := ho hf y56 ey56 1 (by decide); unfold rng at q; rw [← eY49] at q; exact ⟨by rw [show z60 = Iz49 y56 1 from ez60, ← eY49, (show Iz49 ((Q p0 1).getD 0) = I ((Q p0 1).getD 0) by rw [frc49 _ nyh, frc13 _ nyh, frc1 _ nyh])], by omega⟩)
      have m56 := m56
      refine lv_bipush (v := 10) hx hb dX7_readsPart_61 (by decide +kernel) ?_
      refine lv_icmp_ne (tgt := 75) hx hb dX7_readsPart_63 (by decide) (fun c63 => ?_) (fun c63 => ?_)
      · have t63 := tq_ne (k := z60.toInt) (q := (10)) c63 rfl (by decide +kernel)
        refine lv_aload_n hx hb dX7_readsPart_75 rfl (lv_at hl 1 rfl) ?_
        refine sw_v (Z := (fun I1 J1 => Iv L K x0 m0 tx tm I1 ∧ (∀ b, ¬ (K b = 7 ∨ K b = 28) → I1 b = Iz49 b) ∧ I1 p0 11 = Iz49 p0 11 ∧ (hJ Q Iz49 I1 p0) ∧ (mdQ Iz49 I1 p0 (pbd (tb tm.1.2.2 (Iz49 p0 13).toInt) (Iz49 ((Q p0 1).getD 0) 0).toInt (Iz49 p0 14).toInt) ∧ ((pbd (tb tm.1.2.2 (Iz49 p0 13).toInt) (Iz49 ((Q p0 1).getD 0) 0).toInt (Iz49 p0 14).toInt).1 = 0 → (I1 ((Q p0 1).getD 0) 1).toInt = (Iz49 ((Q p0 1).getD 0) 1).toInt + 1) ∧ I1 ((Q p0 1).getD 0) 0 = Iz49 ((Q p0 1).getD 0) 0) ∧ (∀ b, K b = 0 ∨ K b = 1 ∨ K b = 3 ∨ K b = 6 → I1 b = Iz49 b) ∧ (∀ c : Fx, okF c → isF Iz49 J (a0 Q p0 1) (a0 Q p0 6) 0 c → (I1 p0 15).toInt = -1 → isF I1 J1 (a0 Q p0 1) (a0 Q p0 6) 0 (adB c (bdT (tb tm.1.2.2 (Iz49 p0 13).toInt) (c.1 0).toInt (Iz49 p0 14).toInt (fun _ => 0)))) ∧ J1 = J)) (va_runV (As := []) (rest := []) ⟨hx, hb, hml, hown, hts⟩ (s_X7_readsBody l dC dI cs L K G Q hQ x0 m0 tx tm H.size Iz49 J hIz49 p0 hLp0 hKp0 hk_Iz49.2.1 f49 (fun yh e => by obtain rfl : y56 = yh := Option.some.inj (ey56.symm.trans e); have q := hk_Iz49.2.1 f49 y56 ey56 1 (by decide); unfold rng at q; have c := congrArg Int32.toInt (show z60 = Iz49 y56 1 from ez60); omega)) (cwV 0 hts (gV pq1280 pq1282 pq21 pq81 pq1283) rfl rfl rfl (by decide +kernel) ⟨(by rw [hR]; exact (Nat.le_of_ble_eq_true rfl)), (by rw [hR]; exact (Nat.le_of_ble_eq_true rfl))⟩) (sPX_V hP hD hK hN hLp0 hKp0 rfl rfl gX_x hS hxx (fun q h => h.elim (hAL q) (fun h => hA q (Nat.le_trans hS.1 h)))) rfl rfl hl.1 rfl (lv_room (Nat.le_of_ble_eq_true rfl)) dX7_readsPart_76 ⟨(by rw [hR]; exact (Nat.le_of_ble_eq_true rfl)), (by rw [hR]; exact (Nat.le_of_ble_eq_true rfl))⟩) hS hAL hA (fun Iz76 Jz76 H locs hz76 hIz76 hP hS => ?_)
        obtain ⟨hIz76, frc76, kc76_0_11, zp76, fz76, dnc76, jz76, djc76⟩ := hIz76
        obtain rfl : J = Jz76 := djc76.symm
        replace zp76 : Hid _ := zp76
        replace fz76 : Hid _ := fz76
        have dn_Iz76 : (∀ b, K b = 0 ∨ K b = 1 ∨ K b = 3 ∨ K b = 6 → Iz76 b = I b) := fun b hc => (dnc76 b (by omega)).trans (dn_Iz49 b hc)
        have kp0_11_Iz76 : Iz76 p0 11 = I p0 11 := kc76_0_11.trans kp0_11_Iz49
        have fr_Iz76 : ∀ b, ¬ (K b = 7 ∨ K b = 28) → Iz76 b = I b := fun b q => (frc76 b (fun z => q (by omega))).trans (fr_Iz49 b q)
        refine lv_goto (tgt := 88) hx hb dX7_readsPart_79 (by decide) ?_
        subst hR; subst hQz
        exact W.vret hx hb hr (fun t ht hW => ⟨⟨(), rfl, trivial, ⟨Iz76, J, ⟨hIz76, fr_Iz76, kp0_11_Iz76, (hJ_tr hk_Iz49 zp76), (mpt_body (mdW_next (show mdA I Iz1 p0 (sk (tb tm.1.2.2 (I p0 13).toInt) (I p0 14).toInt) from ⟨zr1.2.2.1 13 (by decide), zr1.2.2.1 15 (by decide), fz1.2⟩) a14 a13 (mdW_of zr13.2.2.1 fz13)) t16 (mdW_next (mdW_no (mdW_next (show mdA I Iz1 p0 (sk (tb tm.1.2.2 (I p0 13).toInt) (I p0 14).toInt) from ⟨zr1.2.2.1 13 (by decide), zr1.2.2.1 15 (by decide), fz1.2⟩) a14 a13 (mdW_of zr13.2.2.1 fz13)) t16).2 a14 a13 (mdW_of zr49.2.2.1 fz49)) t52 (show Iz49 ((Q p0 1).getD 0) = I ((Q p0 1).getD 0) by rw [frc49 _ nyh, frc13 _ nyh, frc1 _ nyh]) (by have := m56; omega) fz76), dn_Iz76, (fun c ok h zc F => by have y := mdW_yes (mdW_next (mdW_no (mdW_next (show mdA I Iz1 p0 (sk (tb tm.1.2.2 (I p0 13).toInt) (I p0 14).toInt) from ⟨zr1.2.2.1 13 (by decide), zr1.2.2.1 15 (by decide), fz1.2⟩) a14 a13 (mdW_of zr13.2.2.1 fz13)) t16).2 a14 a13 (mdW_of zr49.2.2.1 fz49)) t52; exact rp_b (mdW_no (mdW_next (show mdA I Iz1 p0 (sk (tb tm.1.2.2 (I p0 13).toInt) (I p0 14).toInt) from ⟨zr1.2.2.1 13 (by decide), zr1.2.2.1 15 (by decide), fz1.2⟩) a14 a13 (mdW_of zr13.2.2.1 fz13)) t16).1 y.2 ok zc (by have q := h.1 1 (by decide); have m := m56; rw [show (I ((Q p0 1).getD 0) 1) = c.1 1 from q] at m; omega) (show Iz49 (a0 Q p0 1) = I (a0 Q p0 1) from (show Iz49 ((Q p0 1).getD 0) = I ((Q p0 1).getD 0) by rw [frc49 _ nyh, frc13 _ nyh, frc1 _ nyh])) h fz76.1 hf F (jz76 c ok (isF_fr (show Iz49 (a0 Q p0 1) = I (a0 Q p0 1) from (show Iz49 ((Q p0 1).getD 0) = I ((Q p0 1).getD 0) by rw [frc49 _ nyh, frc13 _ nyh, frc1 _ nyh])) rfl h) F)), dj_J⟩, by rw [ht]; exact hP⟩⟩, hS.F ht⟩) hS.2.2 dX7_readsPart_88
      · have t63 := tq_eq (k := z60.toInt) (q := (10)) c63 rfl (by decide +kernel)
        refine lv_aload_n hx hb dX7_readsPart_66 rfl (lv_at hl 1 rfl) ?_
        refine lv_iconst (v := 3) hx hb dX7_readsPart_67 (by decide +kernel) ?_
        refine lv_iload_n hx hb dX7_readsPart_68 rfl (lv_at hl 0 rfl) ?_
        refine sw_v (Z := (fun I1 J1 => Iv L K x0 m0 tx tm I1 ∧ (∀ b, ¬ (b = p0) → I1 b = Iz49 b) ∧ I1 p0 11 = Iz49 p0 11 ∧ (((Iz49 p0 14).toInt ≤ (I1 p0 14).toInt ∧ ((I1 p0 15).toInt = -1 → (Iz49 p0 15).toInt = -1) ∧ (∀ k, ¬ k = 15 → I1 p0 k = Iz49 p0 k) ∧ ¬ (I1 p0 15).toInt = -1)) ∧ (((Iz49 p0 15).toInt = -1 → (I1 p0 15).toInt = 8 * z6.toInt + (3 : Int32).toInt) ∧ (¬ (Iz49 p0 15).toInt = -1 → I1 p0 15 = Iz49 p0 15)) ∧ (∀ b, K b = 0 ∨ K b = 1 ∨ K b = 3 ∨ K b = 6 → I1 b = Iz49 b) ∧ J1 = J)) (va_runV (As := [.int 3, .int z6]) (rest := []) ⟨hx, hb, hml, hown, hts⟩ (s_X7_fails l dC dI cs L K G Q hQ x0 m0 tx tm H.size Iz49 J hIz49 p0 hLp0 hKp0 3 ⟨by decide +kernel, by decide +kernel⟩ z6 ⟨by omega, by omega⟩) (cwV 2 hts (gV pq1239 pq1241 pq15 pq81 pq1242) rfl rfl rfl (by decide +kernel) ⟨(by rw [hR]; exact (Nat.le_of_ble_eq_true rfl)), (by rw [hR]; exact (Nat.le_of_ble_eq_true rfl))⟩) (sP_V hP hD hK hN hLp0 hKp0 rfl rfl) rfl rfl hl.1 rfl (lv_room (Nat.le_of_ble_eq_true rfl)) dX7_readsPart_69 ⟨(by rw [hR]; exact (Nat.le_of_ble_eq_true rfl)), (by rw [hR]; exact (Nat.le_of_ble_eq_true rfl))⟩) hS hAL hA (fun Iz69 Jz69 H locs hz69 hIz69 hP hS => ?_)
        obtain ⟨hIz69, frc69, kc69_0_11, zp69, fz69, dnc69, djc69⟩ := hIz69
        obtain rfl : J = Jz69 := djc69.symm
        replace zp69 : Hid _ := zp69
        replace fz69 : Hid _ := fz69
        have hk_Iz69 := hK_call hQ hLp0 hKp0 frc69 zp69.1 zp69.2.1 hk_Iz49
        have dn_Iz69 : (∀ b, K b = 0 ∨ K b = 1 ∨ K b = 3 ∨ K b = 6 → Iz69 b = I b) := fun b hc => (dnc69 b (by omega)).trans (dn_Iz49 b hc)
        have kp0_11_Iz69 : Iz69 p0 11 = I p0 11 := kc69_0_11.trans kp0_11_Iz49
        have fr_Iz69 : ∀ b, ¬ (K b = 7 ∨ K b = 28) → Iz69 b = I b := fun b q => (frc69 b (fun z => q (by rw [z]; have := hKp0; omega))).trans (fr_Iz49 b q)
        have cst69_3 : (3 : Int32).toInt = 3 := by decide +kernel
        refine lv_goto (tgt := 88) hx hb dX7_readsPart_72 (by decide) ?_
        subst hR; subst hQz
        exact W.vret hx hb hr (fun t ht hW => ⟨⟨(), rfl, trivial, ⟨Iz69, J, ⟨hIz69, fr_Iz69, kp0_11_Iz69, (hJ_of hk_Iz69), (mpt_body10 (mdW_next (show mdA I Iz1 p0 (sk (tb tm.1.2.2 (I p0 13).toInt) (I p0 14).toInt) from ⟨zr1.2.2.1 13 (by decide), zr1.2.2.1 15 (by decide), fz1.2⟩) a14 a13 (mdW_of zr13.2.2.1 fz13)) t16 (mdW_next (mdW_no (mdW_next (show mdA I Iz1 p0 (sk (tb tm.1.2.2 (I p0 13).toInt) (I p0 14).toInt) from ⟨zr1.2.2.1 13 (by decide), zr1.2.2.1 15 (by decide), fz1.2⟩) a14 a13 (mdW_of zr13.2.2.1 fz13)) t16).2 a14 a13 (mdW_of zr49.2.2.1 fz49)) t52 hf s0 (by have := m56; omega) ((zp69.2.2.1 13 (by decide))) (fun q => (fz69.1 q).trans (by rw [cst69_3, cgz6, fz1.2]))), dn_Iz69, (fun c ok h zc F => absurd F zp69.2.2.2), dj_J⟩, by rw [ht]; exact hP⟩⟩, hS.F ht⟩) hS.2.2 dX7_readsPart_88
  · have t16 := tq_ne (k := z13.toInt) (q := (0)) c16 rfl (by decide +kernel)
    refine lv_aload_n hx hb dX7_readsPart_19 rfl (lv_at hl 1 rfl) ?_
    obtain ⟨y20, ey20, hLy20, hKy20⟩ := oQ_7_1 (Sv_at hQ hLp0 hKp0)
    refine p_get (v := .ref y20) hx hb hts inX7 hown hK hP hLp0 hKp0 rfl rfl 1 (by decide) (hts _ pq1116) (congrArg (fun q => some (va_rf q)) ey20) dX7_readsPart_20 ?_
    refine lv_iconst (v := 0) hx hb dX7_readsPart_23 (by decide +kernel) ?_
    refine p_iald hx hb hK hP 18 hLy20 hKy20 rfl rfl (in_d (by decide +kernel)) dX7_readsPart_24 ?_
    refine lv_topi (fun z24 ez24 => ?_)
    have eY13 : ((Q p0 1).getD 0) = y20 := by rw [ey20]; rfl
    have m20 : z24.toInt = (I ((Q p0 1).getD 0) 0).toInt ∧ (I ((Q p0 1).getD 0) 0).toInt ≤ 8 := by (have q := ho hf y20 ey20 0 (by decide); unfold rng at q; rw [← eY13] at q; exact ⟨by rw [show z24 = Iz13 y20 0 from ez24, ← eY13, (show Iz13 ((Q p0 1).getD 0) = I ((Q p0 1).getD 0) by rw [frc13 _ nyh, frc1 _ nyh])], by omega⟩)
    have m20 := m20
    refine lv_bipush (v := 8) hx hb dX7_readsPart_25 (by decide +kernel) ?_
    refine lv_icmp_ne (tgt := 39) hx hb dX7_readsPart_27 (by decide) (fun c27 => ?_) (fun c27 => ?_)
    · have t27 := tq_ne (k := z24.toInt) (q := (8)) c27 rfl (by decide +kernel)
      refine lv_aload_n hx hb dX7_readsPart_39 rfl (lv_at hl 1 rfl) ?_
      refine sw_v (Z := (fun I1 J1 => Iv L K x0 m0 tx tm I1 ∧ (∀ b, ¬ (K b = 7 ∨ K b = 28) → I1 b = Iz13 b) ∧ I1 p0 11 = Iz13 p0 11 ∧ (hJ Q Iz13 I1 p0) ∧ (mdQ Iz13 I1 p0 (pfm (tb tm.1.2.2 (Iz13 p0 13).toInt) (Iz13 p0 14).toInt) ∧ ((pfm (tb tm.1.2.2 (Iz13 p0 13).toInt) (Iz13 p0 14).toInt).1 = 0 → (I1 ((Q p0 1).getD 0) 0).toInt = (Iz13 ((Q p0 1).getD 0) 0).toInt + 1) ∧ I1 ((Q p0 1).getD 0) 1 = Iz13 ((Q p0 1).getD 0) 1) ∧ (∀ b, K b = 0 ∨ K b = 1 ∨ K b = 3 ∨ K b = 6 → I1 b = Iz13 b) ∧ (∀ c : Fx, okF c → isF Iz13 J (a0 Q p0 1) (a0 Q p0 6) 0 c → zF c → (I1 p0 15).toInt = -1 → isF I1 J1 (a0 Q p0 1) (a0 Q p0 6) 0 (adM c (fmT (tb tm.1.2.2 (Iz13 p0 13).toInt) (Iz13 p0 14).toInt))) ∧ (∀ b, ¬ (K b = 32) → J1 b = J b))) (va_runV (As := []) (rest := []) ⟨hx, hb, hml, hown, hts⟩ (s_X7_readsForm l dC dI cs L K G Q hQ x0 m0 tx tm H.size Iz13 J hIz13 p0 hLp0 hKp0 hk_Iz13.2.1 f13 (fun yh e => by obtain rfl : y20 = yh := Option.some.inj (ey20.symm.trans e); have q := hk_Iz13.2.1 f13 y20 ey20 0 (by decide); unfold rng at q; have c := congrArg Int32.toInt (show z24 = Iz13 y20 0 from ez24); omega)) (cwV 0 hts (gV pq1243 pq1245 pq16 pq81 pq1246) rfl rfl rfl (by decide +kernel) ⟨(by rw [hR]; exact (Nat.le_of_ble_eq_true rfl)), (by rw [hR]; exact (Nat.le_of_ble_eq_true rfl))⟩) (sPX_V hP hD hK hN hLp0 hKp0 rfl rfl gX_x hS hxx (fun q h => h.elim (hAL q) (fun h => hA q (Nat.le_trans hS.1 h)))) rfl rfl hl.1 rfl (lv_room (Nat.le_of_ble_eq_true rfl)) dX7_readsPart_40 ⟨(by rw [hR]; exact (Nat.le_of_ble_eq_true rfl)), (by rw [hR]; exact (Nat.le_of_ble_eq_true rfl))⟩) hS hAL hA (fun Iz40 Jz40 H locs hz40 hIz40 hP hS => ?_)
      obtain ⟨hIz40, frc40, kc40_0_11, zp40, fz40, dnc40, jz40, djc40⟩ := hIz40
      have dj_Jz40 : (∀ b, ¬ (K b = 32) → Jz40 b = J b) := fun b hc => (djc40 b (fun z => hc (by omega))).trans (dj_J b hc)
      replace zp40 : Hid _ := zp40
      replace fz40 : Hid _ := fz40
      have dn_Iz40 : (∀ b, K b = 0 ∨ K b = 1 ∨ K b = 3 ∨ K b = 6 → Iz40 b = I b) := fun b hc => (dnc40 b (by omega)).trans (dn_Iz13 b hc)
      have kp0_11_Iz40 : Iz40 p0 11 = I p0 11 := kc40_0_11.trans kp0_11_Iz13
      have fr_Iz40 : ∀ b, ¬ (K b = 7 ∨ K b = 28) → Iz40 b = I b := fun b q => (frc40 b (fun z => q (by omega))).trans (fr_Iz13 b q)
      refine lv_goto (tgt := 88) hx hb dX7_readsPart_43 (by decide) ?_
      subst hR; subst hQz
      exact W.vret hx hb hr (fun t ht hW => ⟨⟨(), rfl, trivial, ⟨Iz40, Jz40, ⟨hIz40, fr_Iz40, kp0_11_Iz40, (hJ_tr hk_Iz13 zp40), (mpt_mask (mdW_next (show mdA I Iz1 p0 (sk (tb tm.1.2.2 (I p0 13).toInt) (I p0 14).toInt) from ⟨zr1.2.2.1 13 (by decide), zr1.2.2.1 15 (by decide), fz1.2⟩) a14 a13 (mdW_of zr13.2.2.1 fz13)) t16 (show Iz13 ((Q p0 1).getD 0) = I ((Q p0 1).getD 0) by rw [frc13 _ nyh, frc1 _ nyh]) (by have := m20; omega) fz40), dn_Iz40, (fun c ok h zc F => by have y := mdW_yes (mdW_next (show mdA I Iz1 p0 (sk (tb tm.1.2.2 (I p0 13).toInt) (I p0 14).toInt) from ⟨zr1.2.2.1 13 (by decide), zr1.2.2.1 15 (by decide), fz1.2⟩) a14 a13 (mdW_of zr13.2.2.1 fz13)) t16; exact rp_m y.2 y.1 ok zc (by have q := h.1 0 (by decide); have m := m20; rw [show (I ((Q p0 1).getD 0) 0) = c.1 0 from q] at m; omega) fz40.1 hf F (jz40 c ok (isF_fr (show Iz13 (a0 Q p0 1) = I (a0 Q p0 1) from (show Iz13 ((Q p0 1).getD 0) = I ((Q p0 1).getD 0) by rw [frc13 _ nyh, frc1 _ nyh])) rfl h) zc F)), dj_Jz40⟩, by rw [ht]; exact hP⟩⟩, hS.F ht⟩) hS.2.2 dX7_readsPart_88
    · have t27 := tq_eq (k := z24.toInt) (q := (8)) c27 rfl (by decide +kernel)
      refine lv_aload_n hx hb dX7_readsPart_30 rfl (lv_at hl 1 rfl) ?_
      refine lv_iconst (v := 3) hx hb dX7_readsPart_31 (by decide +kernel) ?_
      refine lv_iload_n hx hb dX7_readsPart_32 rfl (lv_at hl 0 rfl) ?_
      refine sw_v (Z := (fun I1 J1 => Iv L K x0 m0 tx tm I1 ∧ (∀ b, ¬ (b = p0) → I1 b = Iz13 b) ∧ I1 p0 11 = Iz13 p0 11 ∧ (((Iz13 p0 14).toInt ≤ (I1 p0 14).toInt ∧ ((I1 p0 15).toInt = -1 → (Iz13 p0 15).toInt = -1) ∧ (∀ k, ¬ k = 15 → I1 p0 k = Iz13 p0 k) ∧ ¬ (I1 p0 15).toInt = -1)) ∧ (((Iz13 p0 15).toInt = -1 → (I1 p0 15).toInt = 8 * z6.toInt + (3 : Int32).toInt) ∧ (¬ (Iz13 p0 15).toInt = -1 → I1 p0 15 = Iz13 p0 15)) ∧ (∀ b, K b = 0 ∨ K b = 1 ∨ K b = 3 ∨ K b = 6 → I1 b = Iz13 b) ∧ J1 = J)) (va_runV (As := [.int 3, .int z6]) (rest := []) ⟨hx, hb, hml, hown, hts⟩ (s_X7_fails l dC dI cs L K G Q hQ x0 m0 tx tm H.size Iz13 J hIz13 p0 hLp0 hKp0 3 ⟨by decide +kernel, by decide +kernel⟩ z6 ⟨by omega, by omega⟩) (cwV 2 hts (gV pq1239 pq1241 pq15 pq81 pq1242) rfl rfl rfl (by decide +kernel) ⟨(by rw [hR]; exact (Nat.le_of_ble_eq_true rfl)), (by rw [hR]; exact (Nat.le_of_ble_eq_true rfl))⟩) (sP_V hP hD hK hN hLp0 hKp0 rfl rfl) rfl rfl hl.1 rfl (lv_room (Nat.le_of_ble_eq_true rfl)) dX7_readsPart_33 ⟨(by rw [hR]; exact (Nat.le_of_ble_eq_true rfl)), (by rw [hR]; exact (Nat.le_of_ble_eq_true rfl))⟩) hS hAL hA (fun Iz33 Jz33 H locs hz33 hIz33 hP hS => ?_)
      obtain ⟨hIz33, frc33, kc33_0_11, zp33, fz33, dnc33, djc33⟩ := hIz33
      obtain rfl : J = Jz33 := djc33.symm
      replace zp33 : Hid _ := zp33
      replace fz33 : Hid _ := fz33
      have hk_Iz33 := hK_call hQ hLp0 hKp0 frc33 zp33.1 zp33.2.1 hk_Iz13
      have dn_Iz33 : (∀ b, K b = 0 ∨ K b = 1 ∨ K b = 3 ∨ K b = 6 → Iz33 b = I b) := fun b hc => (dnc33 b (by omega)).trans (dn_Iz13 b hc)
      have kp0_11_Iz33 : Iz33 p0 11 = I p0 11 := kc33_0_11.trans kp0_11_Iz13
      have fr_Iz33 : ∀ b, ¬ (K b = 7 ∨ K b = 28) → Iz33 b = I b := fun b q => (frc33 b (fun z => q (by rw [z]; have := hKp0; omega))).trans (fr_Iz13 b q)
      have cst33_3 : (3 : Int32).toInt = 3 := by decide +kernel
      refine lv_goto (tgt := 88) hx hb dX7_readsPart_36 (by decide) ?_
      subst hR; subst hQz
      exact W.vret hx hb hr (fun t ht hW => ⟨⟨(), rfl, trivial, ⟨Iz33, J, ⟨hIz33, fr_Iz33, kp0_11_Iz33, (hJ_of hk_Iz33), (mpt_mask8 (mdW_next (show mdA I Iz1 p0 (sk (tb tm.1.2.2 (I p0 13).toInt) (I p0 14).toInt) from ⟨zr1.2.2.1 13 (by decide), zr1.2.2.1 15 (by decide), fz1.2⟩) a14 a13 (mdW_of zr13.2.2.1 fz13)) t16 hf s0 (by have := m20; omega) ((zp33.2.2.1 13 (by decide))) (fun q => (fz33.1 q).trans (by rw [cst33_3, cgz6, fz1.2]))), dn_Iz33, (fun c ok h zc F => absurd F zp33.2.2.2), dj_J⟩, by rw [ht]; exact hP⟩⟩, hS.F ht⟩) hS.2.2 dX7_readsPart_88
