abbrev cX6_crop : ByteArray := prog_1_method_14_code
abbrev cX6_falls : ByteArray := prog_1_method_21_code
abbrev cX6_push : ByteArray := prog_1_method_20_code
abbrev cX6_slide : ByteArray := prog_1_method_19_code
abbrev cX6_ticks : ByteArray := prog_1_method_22_code
def yX6_crop : MethodName := ⟨RX6, "crop", "(I)I"⟩
def yX6_falls : MethodName := ⟨RX6, "falls", "()I"⟩
def yX6_push : MethodName := ⟨RX6, "push", "(III)I"⟩
def yX6_slide : MethodName := ⟨RX6, "slide", "(III)I"⟩
def yX6_ticks : MethodName := ⟨RX6, "ticks", "(I)I"⟩
theorem dX6_crop_0 : decode cX6_crop 0 = .ok (.aload_n 0, 1) := by decide +kernel
theorem dX6_crop_1 : decode cX6_crop 1 = .ok (.iload_n 1, 1) := by decide +kernel
theorem dX6_crop_2 : decode cX6_crop 2 = .ok (.invokevirtual 130, 3) := by decide +kernel
theorem dX6_crop_5 : decode cX6_crop 5 = .ok (.ifCond .ne 5, 3) := by decide +kernel
theorem dX6_crop_8 : decode cX6_crop 8 = .ok (.iconst (-1), 1) := by decide +kernel
theorem dX6_crop_9 : decode cX6_crop 9 = .ok (.ireturn, 1) := by decide +kernel
theorem dX6_crop_10 : decode cX6_crop 10 = .ok (.aload_n 0, 1) := by decide +kernel
theorem dX6_crop_11 : decode cX6_crop 11 = .ok (.getfield 20, 3) := by decide +kernel
theorem dX6_crop_14 : decode cX6_crop 14 = .ok (.getfield 133, 3) := by decide +kernel
theorem dX6_crop_17 : decode cX6_crop 17 = .ok (.iload_n 1, 1) := by decide +kernel
theorem dX6_crop_18 : decode cX6_crop 18 = .ok (.aaload, 1) := by decide +kernel
theorem dX6_crop_19 : decode cX6_crop 19 = .ok (.astore_n 2, 1) := by decide +kernel
theorem dX6_crop_20 : decode cX6_crop 20 = .ok (.aload_n 0, 1) := by decide +kernel
theorem dX6_crop_21 : decode cX6_crop 21 = .ok (.getfield 48, 3) := by decide +kernel
theorem dX6_crop_24 : decode cX6_crop 24 = .ok (.aload_n 2, 1) := by decide +kernel
theorem dX6_crop_25 : decode cX6_crop 25 = .ok (.invokevirtual 167, 3) := by decide +kernel
theorem dX6_crop_28 : decode cX6_crop 28 = .ok (.aload_n 2, 1) := by decide +kernel
theorem dX6_crop_29 : decode cX6_crop 29 = .ok (.getfield 150, 3) := by decide +kernel
theorem dX6_crop_32 : decode cX6_crop 32 = .ok (.ifCond .eq 31, 3) := by decide +kernel
theorem dX6_crop_35 : decode cX6_crop 35 = .ok (.aload_n 0, 1) := by decide +kernel
theorem dX6_crop_36 : decode cX6_crop 36 = .ok (.getfield 48, 3) := by decide +kernel
theorem dX6_crop_39 : decode cX6_crop 39 = .ok (.getfield 170, 3) := by decide +kernel
theorem dX6_crop_42 : decode cX6_crop 42 = .ok (.aload_n 2, 1) := by decide +kernel
theorem dX6_crop_43 : decode cX6_crop 43 = .ok (.getfield 170, 3) := by decide +kernel
theorem dX6_crop_46 : decode cX6_crop 46 = .ok (.if_icmp .ne 20, 3) := by decide +kernel
theorem dX6_crop_49 : decode cX6_crop 49 = .ok (.aload_n 0, 1) := by decide +kernel
theorem dX6_crop_50 : decode cX6_crop 50 = .ok (.getfield 48, 3) := by decide +kernel
theorem dX6_crop_53 : decode cX6_crop 53 = .ok (.getfield 173, 3) := by decide +kernel
theorem dX6_crop_56 : decode cX6_crop 56 = .ok (.aload_n 2, 1) := by decide +kernel
theorem dX6_crop_57 : decode cX6_crop 57 = .ok (.getfield 173, 3) := by decide +kernel
theorem dX6_crop_60 : decode cX6_crop 60 = .ok (.if_icmp .ne 6, 3) := by decide +kernel
theorem dX6_crop_63 : decode cX6_crop 63 = .ok (.bipush (-2), 2) := by decide +kernel
theorem dX6_crop_65 : decode cX6_crop 65 = .ok (.ireturn, 1) := by decide +kernel
theorem dX6_crop_66 : decode cX6_crop 66 = .ok (.iconst 0, 1) := by decide +kernel
theorem dX6_crop_67 : decode cX6_crop 67 = .ok (.istore_n 3, 1) := by decide +kernel
theorem dX6_crop_68 : decode cX6_crop 68 = .ok (.iload_n 3, 1) := by decide +kernel
theorem dX6_crop_69 : decode cX6_crop 69 = .ok (.aload_n 0, 1) := by decide +kernel
theorem dX6_crop_70 : decode cX6_crop 70 = .ok (.getfield 20, 3) := by decide +kernel
theorem dX6_crop_73 : decode cX6_crop 73 = .ok (.getfield 83, 3) := by decide +kernel
theorem dX6_crop_76 : decode cX6_crop 76 = .ok (.if_icmp .ge 74, 3) := by decide +kernel
theorem dX6_crop_79 : decode cX6_crop 79 = .ok (.aload_n 0, 1) := by decide +kernel
theorem dX6_crop_80 : decode cX6_crop 80 = .ok (.getfield 20, 3) := by decide +kernel
theorem dX6_crop_83 : decode cX6_crop 83 = .ok (.getfield 94, 3) := by decide +kernel
theorem dX6_crop_86 : decode cX6_crop 86 = .ok (.iload_n 3, 1) := by decide +kernel
theorem dX6_crop_87 : decode cX6_crop 87 = .ok (.aaload, 1) := by decide +kernel
theorem dX6_crop_88 : decode cX6_crop 88 = .ok (.astore 4, 2) := by decide +kernel
theorem dX6_crop_90 : decode cX6_crop 90 = .ok (.aload 4, 2) := by decide +kernel
theorem dX6_crop_92 : decode cX6_crop 92 = .ok (.getfield 176, 3) := by decide +kernel
theorem dX6_crop_95 : decode cX6_crop 95 = .ok (.iload_n 1, 1) := by decide +kernel
theorem dX6_crop_96 : decode cX6_crop 96 = .ok (.if_icmp .ne 48, 3) := by decide +kernel
theorem dX6_crop_99 : decode cX6_crop 99 = .ok (.aload 4, 2) := by decide +kernel
theorem dX6_crop_101 : decode cX6_crop 101 = .ok (.getfield 98, 3) := by decide +kernel
theorem dX6_crop_104 : decode cX6_crop 104 = .ok (.aload_n 2, 1) := by decide +kernel
theorem dX6_crop_105 : decode cX6_crop 105 = .ok (.aload 4, 2) := by decide +kernel
theorem dX6_crop_107 : decode cX6_crop 107 = .ok (.getfield 112, 3) := by decide +kernel
theorem dX6_crop_110 : decode cX6_crop 110 = .ok (.invokestatic 179, 3) := by decide +kernel
theorem dX6_crop_113 : decode cX6_crop 113 = .ok (.iadd, 1) := by decide +kernel
theorem dX6_crop_114 : decode cX6_crop 114 = .ok (.sipush 999, 3) := by decide +kernel
theorem dX6_crop_117 : decode cX6_crop 117 = .ok (.if_icmp .gt 24, 3) := by decide +kernel
theorem dX6_crop_120 : decode cX6_crop 120 = .ok (.aload 4, 2) := by decide +kernel
theorem dX6_crop_122 : decode cX6_crop 122 = .ok (.getfield 103, 3) := by decide +kernel
theorem dX6_crop_125 : decode cX6_crop 125 = .ok (.aload_n 2, 1) := by decide +kernel
theorem dX6_crop_126 : decode cX6_crop 126 = .ok (.aload 4, 2) := by decide +kernel
theorem dX6_crop_128 : decode cX6_crop 128 = .ok (.getfield 112, 3) := by decide +kernel
theorem dX6_crop_131 : decode cX6_crop 131 = .ok (.invokestatic 183, 3) := by decide +kernel
theorem dX6_crop_134 : decode cX6_crop 134 = .ok (.iadd, 1) := by decide +kernel
theorem dX6_crop_135 : decode cX6_crop 135 = .ok (.sipush 999, 3) := by decide +kernel
theorem dX6_crop_138 : decode cX6_crop 138 = .ok (.if_icmp .le 6, 3) := by decide +kernel
theorem dX6_crop_141 : decode cX6_crop 141 = .ok (.bipush (-3), 2) := by decide +kernel
theorem dX6_crop_143 : decode cX6_crop 143 = .ok (.ireturn, 1) := by decide +kernel
theorem dX6_crop_144 : decode cX6_crop 144 = .ok (.iinc 3 1, 3) := by decide +kernel
theorem dX6_crop_147 : decode cX6_crop 147 = .ok (.goto (-79), 3) := by decide +kernel
theorem dX6_crop_150 : decode cX6_crop 150 = .ok (.aload_n 0, 1) := by decide +kernel
theorem dX6_crop_151 : decode cX6_crop 151 = .ok (.invokevirtual 106, 3) := by decide +kernel
theorem dX6_crop_154 : decode cX6_crop 154 = .ok (.iconst 0, 1) := by decide +kernel
theorem dX6_crop_155 : decode cX6_crop 155 = .ok (.istore_n 3, 1) := by decide +kernel
theorem dX6_crop_156 : decode cX6_crop 156 = .ok (.iload_n 3, 1) := by decide +kernel
theorem dX6_crop_157 : decode cX6_crop 157 = .ok (.aload_n 0, 1) := by decide +kernel
theorem dX6_crop_158 : decode cX6_crop 158 = .ok (.getfield 20, 3) := by decide +kernel
theorem dX6_crop_161 : decode cX6_crop 161 = .ok (.getfield 83, 3) := by decide +kernel
theorem dX6_crop_164 : decode cX6_crop 164 = .ok (.if_icmp .ge 67, 3) := by decide +kernel
theorem dX6_crop_167 : decode cX6_crop 167 = .ok (.aload_n 0, 1) := by decide +kernel
theorem dX6_crop_168 : decode cX6_crop 168 = .ok (.getfield 20, 3) := by decide +kernel
theorem dX6_crop_171 : decode cX6_crop 171 = .ok (.getfield 94, 3) := by decide +kernel
theorem dX6_crop_174 : decode cX6_crop 174 = .ok (.iload_n 3, 1) := by decide +kernel
theorem dX6_crop_175 : decode cX6_crop 175 = .ok (.aaload, 1) := by decide +kernel
theorem dX6_crop_176 : decode cX6_crop 176 = .ok (.astore 4, 2) := by decide +kernel
theorem dX6_crop_178 : decode cX6_crop 178 = .ok (.aload 4, 2) := by decide +kernel
theorem dX6_crop_180 : decode cX6_crop 180 = .ok (.getfield 176, 3) := by decide +kernel
theorem dX6_crop_183 : decode cX6_crop 183 = .ok (.iload_n 1, 1) := by decide +kernel
theorem dX6_crop_184 : decode cX6_crop 184 = .ok (.if_icmp .ne 41, 3) := by decide +kernel
theorem dX6_crop_187 : decode cX6_crop 187 = .ok (.aload 4, 2) := by decide +kernel
theorem dX6_crop_189 : decode cX6_crop 189 = .ok (.dup, 1) := by decide +kernel
theorem dX6_crop_190 : decode cX6_crop 190 = .ok (.getfield 98, 3) := by decide +kernel
theorem dX6_crop_193 : decode cX6_crop 193 = .ok (.aload_n 2, 1) := by decide +kernel
theorem dX6_crop_194 : decode cX6_crop 194 = .ok (.aload 4, 2) := by decide +kernel
theorem dX6_crop_196 : decode cX6_crop 196 = .ok (.getfield 112, 3) := by decide +kernel
theorem dX6_crop_199 : decode cX6_crop 199 = .ok (.invokestatic 179, 3) := by decide +kernel
theorem dX6_crop_202 : decode cX6_crop 202 = .ok (.iadd, 1) := by decide +kernel
theorem dX6_crop_203 : decode cX6_crop 203 = .ok (.putfield 98, 3) := by decide +kernel
theorem dX6_crop_206 : decode cX6_crop 206 = .ok (.aload 4, 2) := by decide +kernel
theorem dX6_crop_208 : decode cX6_crop 208 = .ok (.dup, 1) := by decide +kernel
theorem dX6_crop_209 : decode cX6_crop 209 = .ok (.getfield 103, 3) := by decide +kernel
theorem dX6_crop_212 : decode cX6_crop 212 = .ok (.aload_n 2, 1) := by decide +kernel
theorem dX6_crop_213 : decode cX6_crop 213 = .ok (.aload 4, 2) := by decide +kernel
theorem dX6_crop_215 : decode cX6_crop 215 = .ok (.getfield 112, 3) := by decide +kernel
theorem dX6_crop_218 : decode cX6_crop 218 = .ok (.invokestatic 183, 3) := by decide +kernel
theorem dX6_crop_221 : decode cX6_crop 221 = .ok (.iadd, 1) := by decide +kernel
theorem dX6_crop_222 : decode cX6_crop 222 = .ok (.putfield 103, 3) := by decide +kernel
theorem dX6_crop_225 : decode cX6_crop 225 = .ok (.iinc 3 1, 3) := by decide +kernel
theorem dX6_crop_228 : decode cX6_crop 228 = .ok (.goto (-72), 3) := by decide +kernel
theorem dX6_crop_231 : decode cX6_crop 231 = .ok (.aload_n 2, 1) := by decide +kernel
theorem dX6_crop_232 : decode cX6_crop 232 = .ok (.aload_n 0, 1) := by decide +kernel
theorem dX6_crop_233 : decode cX6_crop 233 = .ok (.getfield 48, 3) := by decide +kernel
theorem dX6_crop_236 : decode cX6_crop 236 = .ok (.invokevirtual 186, 3) := by decide +kernel
theorem dX6_crop_239 : decode cX6_crop 239 = .ok (.aload_n 0, 1) := by decide +kernel
theorem dX6_crop_240 : decode cX6_crop 240 = .ok (.getfield 41, 3) := by decide +kernel
theorem dX6_crop_243 : decode cX6_crop 243 = .ok (.invokevirtual 115, 3) := by decide +kernel
theorem dX6_crop_246 : decode cX6_crop 246 = .ok (.aload_n 2, 1) := by decide +kernel
theorem dX6_crop_247 : decode cX6_crop 247 = .ok (.getfield 170, 3) := by decide +kernel
theorem dX6_crop_250 : decode cX6_crop 250 = .ok (.aload_n 2, 1) := by decide +kernel
theorem dX6_crop_251 : decode cX6_crop 251 = .ok (.getfield 173, 3) := by decide +kernel
theorem dX6_crop_254 : decode cX6_crop 254 = .ok (.imul, 1) := by decide +kernel
theorem dX6_crop_255 : decode cX6_crop 255 = .ok (.ireturn, 1) := by decide +kernel
theorem dX6_falls_0 : decode cX6_falls 0 = .ok (.aload_n 0, 1) := by decide +kernel
theorem dX6_falls_1 : decode cX6_falls 1 = .ok (.getfield 20, 3) := by decide +kernel
theorem dX6_falls_4 : decode cX6_falls 4 = .ok (.getfield 83, 3) := by decide +kernel
theorem dX6_falls_7 : decode cX6_falls 7 = .ok (.ifCond .ne 5, 3) := by decide +kernel
theorem dX6_falls_10 : decode cX6_falls 10 = .ok (.iconst (-1), 1) := by decide +kernel
theorem dX6_falls_11 : decode cX6_falls 11 = .ok (.ireturn, 1) := by decide +kernel
theorem dX6_falls_12 : decode cX6_falls 12 = .ok (.iconst 0, 1) := by decide +kernel
theorem dX6_falls_13 : decode cX6_falls 13 = .ok (.istore_n 1, 1) := by decide +kernel
theorem dX6_falls_14 : decode cX6_falls 14 = .ok (.sipush 19981, 3) := by decide +kernel
theorem dX6_falls_17 : decode cX6_falls 17 = .ok (.istore_n 2, 1) := by decide +kernel
theorem dX6_falls_18 : decode cX6_falls 18 = .ok (.iconst 0, 1) := by decide +kernel
theorem dX6_falls_19 : decode cX6_falls 19 = .ok (.istore_n 3, 1) := by decide +kernel
theorem dX6_falls_20 : decode cX6_falls 20 = .ok (.iload_n 3, 1) := by decide +kernel
theorem dX6_falls_21 : decode cX6_falls 21 = .ok (.iload_n 2, 1) := by decide +kernel
theorem dX6_falls_22 : decode cX6_falls 22 = .ok (.if_icmp .ge 92, 3) := by decide +kernel
theorem dX6_falls_25 : decode cX6_falls 25 = .ok (.iload_n 1, 1) := by decide +kernel
theorem dX6_falls_26 : decode cX6_falls 26 = .ok (.istore 4, 2) := by decide +kernel
theorem dX6_falls_28 : decode cX6_falls 28 = .ok (.iconst 0, 1) := by decide +kernel
theorem dX6_falls_29 : decode cX6_falls 29 = .ok (.istore 5, 2) := by decide +kernel
theorem dX6_falls_31 : decode cX6_falls 31 = .ok (.iload 5, 2) := by decide +kernel
theorem dX6_falls_33 : decode cX6_falls 33 = .ok (.aload_n 0, 1) := by decide +kernel
theorem dX6_falls_34 : decode cX6_falls 34 = .ok (.getfield 20, 3) := by decide +kernel
theorem dX6_falls_37 : decode cX6_falls 37 = .ok (.getfield 83, 3) := by decide +kernel
theorem dX6_falls_40 : decode cX6_falls 40 = .ok (.if_icmp .ge 59, 3) := by decide +kernel
theorem dX6_falls_43 : decode cX6_falls 43 = .ok (.aload_n 0, 1) := by decide +kernel
theorem dX6_falls_44 : decode cX6_falls 44 = .ok (.getfield 41, 3) := by decide +kernel
theorem dX6_falls_47 : decode cX6_falls 47 = .ok (.iload 5, 2) := by decide +kernel
theorem dX6_falls_49 : decode cX6_falls 49 = .ok (.iconst 0, 1) := by decide +kernel
theorem dX6_falls_50 : decode cX6_falls 50 = .ok (.sipush 200, 3) := by decide +kernel
theorem dX6_falls_53 : decode cX6_falls 53 = .ok (.invokevirtual 204, 3) := by decide +kernel
theorem dX6_falls_56 : decode cX6_falls 56 = .ok (.aload_n 0, 1) := by decide +kernel
theorem dX6_falls_57 : decode cX6_falls 57 = .ok (.getfield 41, 3) := by decide +kernel
theorem dX6_falls_60 : decode cX6_falls 60 = .ok (.getfield 208, 3) := by decide +kernel
theorem dX6_falls_63 : decode cX6_falls 63 = .ok (.ifCond .le 30, 3) := by decide +kernel
theorem dX6_falls_66 : decode cX6_falls 66 = .ok (.iload_n 1, 1) := by decide +kernel
theorem dX6_falls_67 : decode cX6_falls 67 = .ok (.ifCond .ne 7, 3) := by decide +kernel
theorem dX6_falls_70 : decode cX6_falls 70 = .ok (.aload_n 0, 1) := by decide +kernel
theorem dX6_falls_71 : decode cX6_falls 71 = .ok (.invokevirtual 106, 3) := by decide +kernel
theorem dX6_falls_74 : decode cX6_falls 74 = .ok (.aload_n 0, 1) := by decide +kernel
theorem dX6_falls_75 : decode cX6_falls 75 = .ok (.getfield 41, 3) := by decide +kernel
theorem dX6_falls_78 : decode cX6_falls 78 = .ok (.iload 5, 2) := by decide +kernel
theorem dX6_falls_80 : decode cX6_falls 80 = .ok (.invokevirtual 211, 3) := by decide +kernel
theorem dX6_falls_83 : decode cX6_falls 83 = .ok (.iload_n 1, 1) := by decide +kernel
theorem dX6_falls_84 : decode cX6_falls 84 = .ok (.aload_n 0, 1) := by decide +kernel
theorem dX6_falls_85 : decode cX6_falls 85 = .ok (.getfield 41, 3) := by decide +kernel
theorem dX6_falls_88 : decode cX6_falls 88 = .ok (.getfield 208, 3) := by decide +kernel
theorem dX6_falls_91 : decode cX6_falls 91 = .ok (.iadd, 1) := by decide +kernel
theorem dX6_falls_92 : decode cX6_falls 92 = .ok (.istore_n 1, 1) := by decide +kernel
theorem dX6_falls_93 : decode cX6_falls 93 = .ok (.iinc 5 1, 3) := by decide +kernel
theorem dX6_falls_96 : decode cX6_falls 96 = .ok (.goto (-65), 3) := by decide +kernel
theorem dX6_falls_99 : decode cX6_falls 99 = .ok (.iload_n 1, 1) := by decide +kernel
theorem dX6_falls_100 : decode cX6_falls 100 = .ok (.iload 4, 2) := by decide +kernel
theorem dX6_falls_102 : decode cX6_falls 102 = .ok (.if_icmp .ne 6, 3) := by decide +kernel
theorem dX6_falls_105 : decode cX6_falls 105 = .ok (.goto 9, 3) := by decide +kernel
theorem dX6_falls_108 : decode cX6_falls 108 = .ok (.iinc 3 1, 3) := by decide +kernel
theorem dX6_falls_111 : decode cX6_falls 111 = .ok (.goto (-91), 3) := by decide +kernel
theorem dX6_falls_114 : decode cX6_falls 114 = .ok (.iload_n 1, 1) := by decide +kernel
theorem dX6_falls_115 : decode cX6_falls 115 = .ok (.ifCond .ne 8, 3) := by decide +kernel
theorem dX6_falls_118 : decode cX6_falls 118 = .ok (.bipush (-2), 2) := by decide +kernel
theorem dX6_falls_120 : decode cX6_falls 120 = .ok (.goto 4, 3) := by decide +kernel
theorem dX6_falls_123 : decode cX6_falls 123 = .ok (.iload_n 1, 1) := by decide +kernel
theorem dX6_falls_124 : decode cX6_falls 124 = .ok (.ireturn, 1) := by decide +kernel
theorem dX6_push_0 : decode cX6_push 0 = .ok (.aload_n 0, 1) := by decide +kernel
theorem dX6_push_1 : decode cX6_push 1 = .ok (.iload_n 1, 1) := by decide +kernel
theorem dX6_push_2 : decode cX6_push 2 = .ok (.invokevirtual 86, 3) := by decide +kernel
theorem dX6_push_5 : decode cX6_push 5 = .ok (.ifCond .eq 23, 3) := by decide +kernel
theorem dX6_push_8 : decode cX6_push 8 = .ok (.iload_n 2, 1) := by decide +kernel
theorem dX6_push_9 : decode cX6_push 9 = .ok (.sipush 200, 3) := by decide +kernel
theorem dX6_push_12 : decode cX6_push 12 = .ok (.invokestatic 90, 3) := by decide +kernel
theorem dX6_push_15 : decode cX6_push 15 = .ok (.ifCond .eq 13, 3) := by decide +kernel
theorem dX6_push_18 : decode cX6_push 18 = .ok (.iload_n 3, 1) := by decide +kernel
theorem dX6_push_19 : decode cX6_push 19 = .ok (.sipush 200, 3) := by decide +kernel
theorem dX6_push_22 : decode cX6_push 22 = .ok (.invokestatic 90, 3) := by decide +kernel
theorem dX6_push_25 : decode cX6_push 25 = .ok (.ifCond .ne 5, 3) := by decide +kernel
theorem dX6_push_28 : decode cX6_push 28 = .ok (.iconst (-1), 1) := by decide +kernel
theorem dX6_push_29 : decode cX6_push 29 = .ok (.ireturn, 1) := by decide +kernel
theorem dX6_push_30 : decode cX6_push 30 = .ok (.iload_n 2, 1) := by decide +kernel
theorem dX6_push_31 : decode cX6_push 31 = .ok (.iload_n 3, 1) := by decide +kernel
theorem dX6_push_32 : decode cX6_push 32 = .ok (.invokestatic 214, 3) := by decide +kernel
theorem dX6_push_35 : decode cX6_push 35 = .ok (.istore 4, 2) := by decide +kernel
theorem dX6_push_37 : decode cX6_push 37 = .ok (.iconst 0, 1) := by decide +kernel
theorem dX6_push_38 : decode cX6_push 38 = .ok (.istore 5, 2) := by decide +kernel
theorem dX6_push_40 : decode cX6_push 40 = .ok (.iconst 1, 1) := by decide +kernel
theorem dX6_push_41 : decode cX6_push 41 = .ok (.istore 6, 2) := by decide +kernel
theorem dX6_push_43 : decode cX6_push 43 = .ok (.iload 6, 2) := by decide +kernel
theorem dX6_push_45 : decode cX6_push 45 = .ok (.iload 4, 2) := by decide +kernel
theorem dX6_push_47 : decode cX6_push 47 = .ok (.if_icmp .gt 110, 3) := by decide +kernel
theorem dX6_push_50 : decode cX6_push 50 = .ok (.iload 6, 2) := by decide +kernel
theorem dX6_push_52 : decode cX6_push 52 = .ok (.iload_n 2, 1) := by decide +kernel
theorem dX6_push_53 : decode cX6_push 53 = .ok (.iload 4, 2) := by decide +kernel
theorem dX6_push_55 : decode cX6_push 55 = .ok (.invokestatic 218, 3) := by decide +kernel
theorem dX6_push_58 : decode cX6_push 58 = .ok (.iload 6, 2) := by decide +kernel
theorem dX6_push_60 : decode cX6_push 60 = .ok (.iconst 1, 1) := by decide +kernel
theorem dX6_push_61 : decode cX6_push 61 = .ok (.isub, 1) := by decide +kernel
theorem dX6_push_62 : decode cX6_push 62 = .ok (.iload_n 2, 1) := by decide +kernel
theorem dX6_push_63 : decode cX6_push 63 = .ok (.iload 4, 2) := by decide +kernel
theorem dX6_push_65 : decode cX6_push 65 = .ok (.invokestatic 218, 3) := by decide +kernel
theorem dX6_push_68 : decode cX6_push 68 = .ok (.isub, 1) := by decide +kernel
theorem dX6_push_69 : decode cX6_push 69 = .ok (.istore 7, 2) := by decide +kernel
theorem dX6_push_71 : decode cX6_push 71 = .ok (.iload 6, 2) := by decide +kernel
theorem dX6_push_73 : decode cX6_push 73 = .ok (.iload_n 3, 1) := by decide +kernel
theorem dX6_push_74 : decode cX6_push 74 = .ok (.iload 4, 2) := by decide +kernel
theorem dX6_push_76 : decode cX6_push 76 = .ok (.invokestatic 218, 3) := by decide +kernel
theorem dX6_push_79 : decode cX6_push 79 = .ok (.iload 6, 2) := by decide +kernel
theorem dX6_push_81 : decode cX6_push 81 = .ok (.iconst 1, 1) := by decide +kernel
theorem dX6_push_82 : decode cX6_push 82 = .ok (.isub, 1) := by decide +kernel
theorem dX6_push_83 : decode cX6_push 83 = .ok (.iload_n 3, 1) := by decide +kernel
theorem dX6_push_84 : decode cX6_push 84 = .ok (.iload 4, 2) := by decide +kernel
theorem dX6_push_86 : decode cX6_push 86 = .ok (.invokestatic 218, 3) := by decide +kernel
theorem dX6_push_89 : decode cX6_push 89 = .ok (.isub, 1) := by decide +kernel
theorem dX6_push_90 : decode cX6_push 90 = .ok (.istore 8, 2) := by decide +kernel
theorem dX6_push_92 : decode cX6_push 92 = .ok (.aload_n 0, 1) := by decide +kernel
theorem dX6_push_93 : decode cX6_push 93 = .ok (.getfield 41, 3) := by decide +kernel
theorem dX6_push_96 : decode cX6_push 96 = .ok (.iload_n 1, 1) := by decide +kernel
theorem dX6_push_97 : decode cX6_push 97 = .ok (.iload 7, 2) := by decide +kernel
theorem dX6_push_99 : decode cX6_push 99 = .ok (.iload 8, 2) := by decide +kernel
theorem dX6_push_101 : decode cX6_push 101 = .ok (.invokevirtual 222, 3) := by decide +kernel
theorem dX6_push_104 : decode cX6_push 104 = .ok (.istore 9, 2) := by decide +kernel
theorem dX6_push_106 : decode cX6_push 106 = .ok (.aload_n 0, 1) := by decide +kernel
theorem dX6_push_107 : decode cX6_push 107 = .ok (.getfield 41, 3) := by decide +kernel
theorem dX6_push_110 : decode cX6_push 110 = .ok (.iload 9, 2) := by decide +kernel
theorem dX6_push_112 : decode cX6_push 112 = .ok (.iload 7, 2) := by decide +kernel
theorem dX6_push_114 : decode cX6_push 114 = .ok (.iload 8, 2) := by decide +kernel
theorem dX6_push_116 : decode cX6_push 116 = .ok (.invokevirtual 225, 3) := by decide +kernel
theorem dX6_push_119 : decode cX6_push 119 = .ok (.ifCond .ne 6, 3) := by decide +kernel
theorem dX6_push_122 : decode cX6_push 122 = .ok (.goto 35, 3) := by decide +kernel
theorem dX6_push_125 : decode cX6_push 125 = .ok (.iload 5, 2) := by decide +kernel
theorem dX6_push_127 : decode cX6_push 127 = .ok (.ifCond .ne 7, 3) := by decide +kernel
theorem dX6_push_130 : decode cX6_push 130 = .ok (.aload_n 0, 1) := by decide +kernel
theorem dX6_push_131 : decode cX6_push 131 = .ok (.invokevirtual 106, 3) := by decide +kernel
theorem dX6_push_134 : decode cX6_push 134 = .ok (.aload_n 0, 1) := by decide +kernel
theorem dX6_push_135 : decode cX6_push 135 = .ok (.getfield 41, 3) := by decide +kernel
theorem dX6_push_138 : decode cX6_push 138 = .ok (.iload 9, 2) := by decide +kernel
theorem dX6_push_140 : decode cX6_push 140 = .ok (.iload 7, 2) := by decide +kernel
theorem dX6_push_142 : decode cX6_push 142 = .ok (.iload 8, 2) := by decide +kernel
theorem dX6_push_144 : decode cX6_push 144 = .ok (.invokevirtual 229, 3) := by decide +kernel
theorem dX6_push_147 : decode cX6_push 147 = .ok (.iload 6, 2) := by decide +kernel
theorem dX6_push_149 : decode cX6_push 149 = .ok (.istore 5, 2) := by decide +kernel
theorem dX6_push_151 : decode cX6_push 151 = .ok (.iinc 6 1, 3) := by decide +kernel
theorem dX6_push_154 : decode cX6_push 154 = .ok (.goto (-111), 3) := by decide +kernel
theorem dX6_push_157 : decode cX6_push 157 = .ok (.iload 5, 2) := by decide +kernel
theorem dX6_push_159 : decode cX6_push 159 = .ok (.ifCond .ne 8, 3) := by decide +kernel
theorem dX6_push_162 : decode cX6_push 162 = .ok (.bipush (-2), 2) := by decide +kernel
theorem dX6_push_164 : decode cX6_push 164 = .ok (.goto 5, 3) := by decide +kernel
theorem dX6_push_167 : decode cX6_push 167 = .ok (.iload 5, 2) := by decide +kernel
theorem dX6_push_169 : decode cX6_push 169 = .ok (.ireturn, 1) := by decide +kernel
theorem dX6_slide_0 : decode cX6_slide 0 = .ok (.aload_n 0, 1) := by decide +kernel
theorem dX6_slide_1 : decode cX6_slide 1 = .ok (.iload_n 1, 1) := by decide +kernel
theorem dX6_slide_2 : decode cX6_slide 2 = .ok (.invokevirtual 86, 3) := by decide +kernel
theorem dX6_slide_5 : decode cX6_slide 5 = .ok (.ifCond .eq 23, 3) := by decide +kernel
theorem dX6_slide_8 : decode cX6_slide 8 = .ok (.iload_n 2, 1) := by decide +kernel
theorem dX6_slide_9 : decode cX6_slide 9 = .ok (.sipush 200, 3) := by decide +kernel
theorem dX6_slide_12 : decode cX6_slide 12 = .ok (.invokestatic 90, 3) := by decide +kernel
theorem dX6_slide_15 : decode cX6_slide 15 = .ok (.ifCond .eq 13, 3) := by decide +kernel
theorem dX6_slide_18 : decode cX6_slide 18 = .ok (.iload_n 3, 1) := by decide +kernel
theorem dX6_slide_19 : decode cX6_slide 19 = .ok (.sipush 200, 3) := by decide +kernel
theorem dX6_slide_22 : decode cX6_slide 22 = .ok (.invokestatic 90, 3) := by decide +kernel
theorem dX6_slide_25 : decode cX6_slide 25 = .ok (.ifCond .ne 5, 3) := by decide +kernel
theorem dX6_slide_28 : decode cX6_slide 28 = .ok (.iconst (-1), 1) := by decide +kernel
theorem dX6_slide_29 : decode cX6_slide 29 = .ok (.ireturn, 1) := by decide +kernel
theorem dX6_slide_30 : decode cX6_slide 30 = .ok (.aload_n 0, 1) := by decide +kernel
theorem dX6_slide_31 : decode cX6_slide 31 = .ok (.getfield 41, 3) := by decide +kernel
theorem dX6_slide_34 : decode cX6_slide 34 = .ok (.iload_n 1, 1) := by decide +kernel
theorem dX6_slide_35 : decode cX6_slide 35 = .ok (.iload_n 2, 1) := by decide +kernel
theorem dX6_slide_36 : decode cX6_slide 36 = .ok (.iload_n 3, 1) := by decide +kernel
theorem dX6_slide_37 : decode cX6_slide 37 = .ok (.invokevirtual 204, 3) := by decide +kernel
theorem dX6_slide_40 : decode cX6_slide 40 = .ok (.aload_n 0, 1) := by decide +kernel
theorem dX6_slide_41 : decode cX6_slide 41 = .ok (.getfield 41, 3) := by decide +kernel
theorem dX6_slide_44 : decode cX6_slide 44 = .ok (.getfield 208, 3) := by decide +kernel
theorem dX6_slide_47 : decode cX6_slide 47 = .ok (.ifCond .ne 6, 3) := by decide +kernel
theorem dX6_slide_50 : decode cX6_slide 50 = .ok (.bipush (-2), 2) := by decide +kernel
theorem dX6_slide_52 : decode cX6_slide 52 = .ok (.ireturn, 1) := by decide +kernel
theorem dX6_slide_53 : decode cX6_slide 53 = .ok (.aload_n 0, 1) := by decide +kernel
theorem dX6_slide_54 : decode cX6_slide 54 = .ok (.invokevirtual 106, 3) := by decide +kernel
theorem dX6_slide_57 : decode cX6_slide 57 = .ok (.aload_n 0, 1) := by decide +kernel
theorem dX6_slide_58 : decode cX6_slide 58 = .ok (.getfield 41, 3) := by decide +kernel
theorem dX6_slide_61 : decode cX6_slide 61 = .ok (.iload_n 1, 1) := by decide +kernel
theorem dX6_slide_62 : decode cX6_slide 62 = .ok (.invokevirtual 211, 3) := by decide +kernel
theorem dX6_slide_65 : decode cX6_slide 65 = .ok (.aload_n 0, 1) := by decide +kernel
theorem dX6_slide_66 : decode cX6_slide 66 = .ok (.getfield 41, 3) := by decide +kernel
theorem dX6_slide_69 : decode cX6_slide 69 = .ok (.getfield 208, 3) := by decide +kernel
theorem dX6_slide_72 : decode cX6_slide 72 = .ok (.ireturn, 1) := by decide +kernel
theorem dX6_ticks_0 : decode cX6_ticks 0 = .ok (.iload_n 1, 1) := by decide +kernel
theorem dX6_ticks_1 : decode cX6_ticks 1 = .ok (.iconst 1, 1) := by decide +kernel
theorem dX6_ticks_2 : decode cX6_ticks 2 = .ok (.if_icmp .lt 9, 3) := by decide +kernel
theorem dX6_ticks_5 : decode cX6_ticks 5 = .ok (.iload_n 1, 1) := by decide +kernel
theorem dX6_ticks_6 : decode cX6_ticks 6 = .ok (.bipush 20, 2) := by decide +kernel
theorem dX6_ticks_8 : decode cX6_ticks 8 = .ok (.if_icmp .le 5, 3) := by decide +kernel
theorem dX6_ticks_11 : decode cX6_ticks 11 = .ok (.iconst (-1), 1) := by decide +kernel
theorem dX6_ticks_12 : decode cX6_ticks 12 = .ok (.ireturn, 1) := by decide +kernel
theorem dX6_ticks_13 : decode cX6_ticks 13 = .ok (.aload_n 0, 1) := by decide +kernel
theorem dX6_ticks_14 : decode cX6_ticks 14 = .ok (.invokevirtual 106, 3) := by decide +kernel
theorem dX6_ticks_17 : decode cX6_ticks 17 = .ok (.iconst 0, 1) := by decide +kernel
theorem dX6_ticks_18 : decode cX6_ticks 18 = .ok (.istore_n 2, 1) := by decide +kernel
theorem dX6_ticks_19 : decode cX6_ticks 19 = .ok (.iconst 0, 1) := by decide +kernel
theorem dX6_ticks_20 : decode cX6_ticks 20 = .ok (.istore_n 3, 1) := by decide +kernel
theorem dX6_ticks_21 : decode cX6_ticks 21 = .ok (.iload_n 3, 1) := by decide +kernel
theorem dX6_ticks_22 : decode cX6_ticks 22 = .ok (.iload_n 1, 1) := by decide +kernel
theorem dX6_ticks_23 : decode cX6_ticks 23 = .ok (.if_icmp .ge 42, 3) := by decide +kernel
theorem dX6_ticks_26 : decode cX6_ticks 26 = .ok (.iconst 0, 1) := by decide +kernel
theorem dX6_ticks_27 : decode cX6_ticks 27 = .ok (.istore 4, 2) := by decide +kernel
theorem dX6_ticks_29 : decode cX6_ticks 29 = .ok (.iload 4, 2) := by decide +kernel
theorem dX6_ticks_31 : decode cX6_ticks 31 = .ok (.aload_n 0, 1) := by decide +kernel
theorem dX6_ticks_32 : decode cX6_ticks 32 = .ok (.getfield 20, 3) := by decide +kernel
theorem dX6_ticks_35 : decode cX6_ticks 35 = .ok (.getfield 83, 3) := by decide +kernel
theorem dX6_ticks_38 : decode cX6_ticks 38 = .ok (.if_icmp .ge 21, 3) := by decide +kernel
theorem dX6_ticks_41 : decode cX6_ticks 41 = .ok (.aload_n 0, 1) := by decide +kernel
theorem dX6_ticks_42 : decode cX6_ticks 42 = .ok (.iload 4, 2) := by decide +kernel
theorem dX6_ticks_44 : decode cX6_ticks 44 = .ok (.invokevirtual 232, 3) := by decide +kernel
theorem dX6_ticks_47 : decode cX6_ticks 47 = .ok (.ifCond .eq 6, 3) := by decide +kernel
theorem dX6_ticks_50 : decode cX6_ticks 50 = .ok (.iinc 2 1, 3) := by decide +kernel
theorem dX6_ticks_53 : decode cX6_ticks 53 = .ok (.iinc 4 1, 3) := by decide +kernel
theorem dX6_ticks_56 : decode cX6_ticks 56 = .ok (.goto (-27), 3) := by decide +kernel
theorem dX6_ticks_59 : decode cX6_ticks 59 = .ok (.iinc 3 1, 3) := by decide +kernel
theorem dX6_ticks_62 : decode cX6_ticks 62 = .ok (.goto (-41), 3) := by decide +kernel
theorem dX6_ticks_65 : decode cX6_ticks 65 = .ok (.aload_n 0, 1) := by decide +kernel
theorem dX6_ticks_66 : decode cX6_ticks 66 = .ok (.getfield 20, 3) := by decide +kernel
theorem dX6_ticks_69 : decode cX6_ticks 69 = .ok (.dup, 1) := by decide +kernel
theorem dX6_ticks_70 : decode cX6_ticks 70 = .ok (.getfield 235, 3) := by decide +kernel
theorem dX6_ticks_73 : decode cX6_ticks 73 = .ok (.iload_n 1, 1) := by decide +kernel
theorem dX6_ticks_74 : decode cX6_ticks 74 = .ok (.iadd, 1) := by decide +kernel
theorem dX6_ticks_75 : decode cX6_ticks 75 = .ok (.putfield 235, 3) := by decide +kernel
theorem dX6_ticks_78 : decode cX6_ticks 78 = .ok (.iload_n 2, 1) := by decide +kernel
theorem dX6_ticks_79 : decode cX6_ticks 79 = .ok (.ireturn, 1) := by decide +kernel
set_option maxRecDepth 100000 in
theorem pq6 : Cond.selects RX6 yX6_stopsInTick yX6_stopsInTick ∈ pw := pw_mem (i := 6) (by decide +kernel) rfl
set_option maxRecDepth 100000 in
theorem pq171 : Cond.fieldLink RX6 176 "MaskTouch$Body" "mask" "I" ∈ pw := pw_mem (i := 171) (by decide +kernel) rfl
set_option maxRecDepth 100000 in
theorem pq715 : Cond.methodLink RX6 167 yX3_becomeCropped ∈ pw := pw_mem (i := 715) (by decide +kernel) rfl
set_option maxRecDepth 100000 in
theorem pq716 : Cond.instanceMethod yX3_becomeCropped ∈ pw := pw_mem (i := 716) (by decide +kernel) rfl
set_option maxRecDepth 100000 in
theorem pq717 : Cond.selects RX3 yX3_becomeCropped yX3_becomeCropped ∈ pw := pw_mem (i := 717) (by decide +kernel) rfl
set_option maxRecDepth 100000 in
theorem pq718 : Cond.code yX3_becomeCropped cX3_becomeCropped 4 none ∈ pw := pw_mem (i := 718) (by rfl) rfl
set_option maxRecDepth 100000 in
theorem pq719 : Cond.methodLink RX6 179 yX6_cutLeft ∈ pw := pw_mem (i := 719) (by decide +kernel) rfl
set_option maxRecDepth 100000 in
theorem pq720 : Cond.static yX6_cutLeft ∈ pw := pw_mem (i := 720) (by decide +kernel) rfl
set_option maxRecDepth 100000 in
theorem pq721 : Cond.code yX6_cutLeft cX6_cutLeft 2 (some .int) ∈ pw := pw_mem (i := 721) (by rfl) rfl
set_option maxRecDepth 100000 in
theorem pq722 : Cond.methodLink RX6 183 yX6_cutAbove ∈ pw := pw_mem (i := 722) (by decide +kernel) rfl
set_option maxRecDepth 100000 in
theorem pq723 : Cond.static yX6_cutAbove ∈ pw := pw_mem (i := 723) (by decide +kernel) rfl
set_option maxRecDepth 100000 in
theorem pq724 : Cond.code yX6_cutAbove cX6_cutAbove 2 (some .int) ∈ pw := pw_mem (i := 724) (by rfl) rfl
set_option maxRecDepth 100000 in
theorem pq799 : Cond.methodLink RX6 222 yX5_goingBy ∈ pw := pw_mem (i := 799) (by decide +kernel) rfl
set_option maxRecDepth 100000 in
theorem pq800 : Cond.instanceMethod yX5_goingBy ∈ pw := pw_mem (i := 800) (by decide +kernel) rfl
set_option maxRecDepth 100000 in
theorem pq801 : Cond.selects RX5 yX5_goingBy yX5_goingBy ∈ pw := pw_mem (i := 801) (by decide +kernel) rfl
set_option maxRecDepth 100000 in
theorem pq802 : Cond.code yX5_goingBy cX5_goingBy 10 (some .int) ∈ pw := pw_mem (i := 802) (by rfl) rfl
set_option maxRecDepth 100000 in
theorem pq813 : Cond.methodLink RX6 225 yX5_canAllGo ∈ pw := pw_mem (i := 813) (by decide +kernel) rfl
set_option maxRecDepth 100000 in
theorem pq814 : Cond.instanceMethod yX5_canAllGo ∈ pw := pw_mem (i := 814) (by decide +kernel) rfl
set_option maxRecDepth 100000 in
theorem pq815 : Cond.selects RX5 yX5_canAllGo yX5_canAllGo ∈ pw := pw_mem (i := 815) (by decide +kernel) rfl
set_option maxRecDepth 100000 in
theorem pq816 : Cond.code yX5_canAllGo cX5_canAllGo 6 (some .boolean) ∈ pw := pw_mem (i := 816) (by rfl) rfl
set_option maxRecDepth 100000 in
theorem pq817 : Cond.methodLink RX6 229 yX5_moveAll ∈ pw := pw_mem (i := 817) (by decide +kernel) rfl
set_option maxRecDepth 100000 in
theorem pq818 : Cond.instanceMethod yX5_moveAll ∈ pw := pw_mem (i := 818) (by decide +kernel) rfl
set_option maxRecDepth 100000 in
theorem pq819 : Cond.selects RX5 yX5_moveAll yX5_moveAll ∈ pw := pw_mem (i := 819) (by decide +kernel) rfl
set_option maxRecDepth 100000 in
theorem pq820 : Cond.code yX5_moveAll cX5_moveAll 5 none ∈ pw := pw_mem (i := 820) (by rfl) rfl
set_option maxRecDepth 100000 in
theorem pq829 : Cond.methodLink RX6 232 yX6_stopsInTick ∈ pw := pw_mem (i := 829) (by decide +kernel) rfl
set_option maxRecDepth 100000 in
theorem pq831 : Cond.instanceMethod yX6_stopsInTick ∈ pw := pw_mem (i := 831) (by decide +kernel) rfl
set_option maxRecDepth 100000 in
theorem pq832 : Cond.code yX6_stopsInTick cX6_stopsInTick 3 (some .boolean) ∈ pw := pw_mem (i := 832) (by rfl) rfl
set_option maxHeartbeats 4000000 in
set_option maxRecDepth 100000 in
theorem s_X6_slide (l : Launch) (dC : Nat → ClassId) (dI : Nat → Nat → Nat) (cs : Nat → ClassId) (L0 : List Nat) (K0 G0 : Nat → Nat) (Q0 : Nat → Nat → Option Nat) (hQ : Sv L0 K0 G0 Q0) (x0 m0 : Nat) (tx : GT) (tm : GT × Int) (hx0 : x0 ∈ L0) (hm0 : m0 ∈ L0) (sz : Nat) (I : Nat → Nat → Int32) (J : Nat → Nat → Int64) (hI : Iv L0 K0 x0 m0 tx tm I) (p0 : Nat) (hLp0 : p0 ∈ L0) (hKp0 : K0 p0 = 6) (p1 : Int32) (p2 : Int32) (p3 : Int32) : Met l yX6_slide (.code yX6_slide cX6_slide 4 (some .int) :: pw) ({ frames := 5, cells := 29, slots := 807, locals := 136 }) (sP (dC, dI) cs [.ref p0, .int p1, .int p2, .int p3] sz L0 K0 I J Q0) (va_Qi (fun (r : Int32) (_ : Unit) => True) (fun _ t => sA (dC, dI) cs L0 K0 G0 Q0 x0 m0 tx tm sz (fun L K G Q I1 => cxT Q0 I p0 Q I1 ∧ (∀ b, b ∈ L0 → (K0 b = 7 ∨ K0 b = 18 ∨ K0 b = 19 ∨ K0 b = 20 ∨ K0 b = 24) → I1 b = I b)) t) (fun q => q ∈ L0 ∨ sz ≤ q)) 29 807 (fun q => q ∈ L0 ∨ sz ≤ q) := by
  refine Met.ofW (cc := cX6_slide) (maxL := 4) (ret := (some .int)) (by decide +kernel) rfl ?_
  intro p e s m args below meth c s₁ B hml hv
  obtain ⟨rfl, hsz, hP, hK, hD0, hN⟩ := hv
  have hx := B.exec
  have hb := B.bytes
  have hr := B.returns
  have hts := fun w (h : w ∈ pw) => atoms_spec (ws := Cond.code yX6_slide cX6_slide 4 (some .int) :: pw) B.pre w (List.mem_cons_of_mem _ h)
  have hown : s.vm.findClass RX6 = some m.cls := findClass_of_methodNamed B.named
  have hlocks := B.notSynchronized
  subst hsz
  have hBB : 999 ≤ tm.2 ∧ tm.2 ≤ 6000000 := hI.2.2.2.2.1
  have dn_I : (∀ b, b ∈ L0 → (K0 b = 7 ∨ K0 b = 18 ∨ K0 b = 19 ∨ K0 b = 20 ∨ K0 b = 24) → I b = I b) := fun _ _ _ => rfl
  obtain ⟨A, hAe⟩ : ∃ A : Nat → Prop, A = (fun q => q ∈ L0 ∨ s.heap.size ≤ q) := ⟨_, rfl⟩
  rw [← hAe]
  have hAL : ∀ q, q ∈ L0 → A q := fun q h => by rw [hAe]; exact Or.inl h
  have hA : ∀ q, s.heap.size ≤ q → A q := fun q h => by rw [hAe]; exact Or.inr h
  have hD : ∀ F, va_D A (va_pl L0 F) := fun F => (hD0 F).weaken (fun k q hk _ => hAL _ (pl_mem hk))
  obtain ⟨H, hHe⟩ : ∃ H : Heap, H = s.heap := ⟨_, rfl⟩
  have hS : va_S A s.heap H [] := by rw [hHe]; exact va_S.rf
  rw [← hHe] at hP
  have hl := lv_entry ([.ref p0, .int p1, .int p2, .int p3]) (n := 4) (Nat.le_of_ble_eq_true rfl)
  rw [lg_entry_eq]
  generalize (lg_sl ([.ref p0, .int p1, .int p2, .int p3]) ++ List.replicate (4 - (lg_sl ([.ref p0, .int p1, .int p2, .int p3])).length) Slot.unset).toArray = ls at hl ⊢
  have hl : lv_has ls 4 [(0, .ref p0), (1, .int p1), (2, .int p2), (3, .int p3)] := hl
  rw [← hHe]
  refine namedW (fun R Qz hR hQz => ?_)
  have hAe2 : ∀ q, A q → q ∈ L0 ∨ H.size ≤ q := fun q h => by rw [hHe]; rw [hAe] at h; exact h
  have hQ0 := hQ
  have hK0p0 := hKp0
  have hL0p0 := hLp0
  obtain ⟨L, K, G, Q, hX, hQ, hI, hP, hD, hAL, hx0, hm0, hLp0, hKp0, cn_I⟩ : ∃ L K G Q, extW L0 K0 G0 Q0 L K G Q ∧ Sv L K G Q ∧ Iv L K x0 m0 tx tm I ∧ va_P (dC, dI) vwCl (Wd cs L K I J Q) H ∧ (∀ F, va_D A (va_pl L F)) ∧ (∀ q, q ∈ L → A q) ∧ x0 ∈ L ∧ m0 ∈ L ∧ p0 ∈ L ∧ K p0 = 6 ∧ cxT Q0 I p0 Q I := ⟨L0, K0, G0, Q0, extW_refl, hQ, hI, hP, hD, hAL, hx0, hm0, hLp0, hKp0, cxT_refl⟩
  refine lv_aload_n hx hb dX6_slide_0 rfl (lv_at hl 0 rfl) ?_
  refine lv_iload_n hx hb dX6_slide_1 rfl (lv_at hl 1 rfl) ?_
  refine ro_i (va_runV (As := [.int p1]) (rest := []) ⟨hx, hb, hml, hown, hts⟩ (s_X6_isBody l dC dI cs L K G Q hQ x0 m0 tx tm H.size I J hI p0 hLp0 hKp0 p1) (cwV 1 hts (gV pq636 pq638 pq2 pq74 pq639) rfl rfl rfl (by decide +kernel) ⟨(by rw [hR]; exact (Nat.le_of_ble_eq_true rfl)), (by rw [hR]; exact (Nat.le_of_ble_eq_true rfl))⟩) (sP_V hP hD hK hN hLp0 hKp0 rfl rfl) rfl rfl hl.1 rfl (lv_room (Nat.le_of_ble_eq_true rfl)) dX6_slide_2 ⟨(by rw [hR]; exact (Nat.le_of_ble_eq_true rfl)), (by rw [hR]; exact (Nat.le_of_ble_eq_true rfl))⟩) hS hP (fun z2 H locs hz2 hP hS => ?_)
  obtain ⟨bz2, imz2⟩ := hz2
  refine lv_if_eq (tgt := 28) hx hb dX6_slide_5 (by decide) (fun c5 => ?_) (fun c5 => ?_)
  · have t5 := tq_eq (k := z2.toInt) (q := (0)) c5 rfl (by decide +kernel)
    refine lv_iconst (v := (-1)) hx hb dX6_slide_28 (by decide +kernel) ?_
    subst hR; subst hQz
    refine W.widen (k := 29) (n := 807) (Nat.le_of_ble_eq_true rfl) (Nat.le_of_ble_eq_true rfl) ?_
    exact W.iret (v := (-1)) hx hb hr (fun t ht hW => ⟨⟨(-1), (), rfl, trivial, ⟨L, K, G, Q, I, J, hX, hQ, hI, fun F => (hD F).weaken (fun _ _ _ _ => trivial), fun q h => hAe2 q (hAL q h), by rw [ht]; exact hP, ⟨cn_I, dn_I⟩⟩⟩, hS.F ht⟩) hS.2.2 dX6_slide_29
  · have t5 := tq_ne (k := z2.toInt) (q := (0)) c5 rfl (by decide +kernel)
    have i5 := imz2 t5
    refine lv_iload_n hx hb dX6_slide_8 rfl (lv_at hl 2 rfl) ?_
    refine lv_sipush (v := 200) hx hb dX6_slide_9 (by decide +kernel) ?_
    refine ro_i (va_runS (As := [.int p2, .int 200]) (rest := []) ⟨hx, hb, hml, hown, hts⟩ (s_X6_isWithin l dC dI cs L K G Q hQ x0 m0 tx tm H.size I J hI p2 200 ⟨by decide +kernel, by decide +kernel⟩) (va_cwS 2 hts (gS pq640 pq641 pq74 pq642) rfl rfl rfl (by decide +kernel) ⟨(by rw [hR]; exact (Nat.le_of_ble_eq_true rfl)), (by rw [hR]; exact (Nat.le_of_ble_eq_true rfl))⟩) (sP_S hP hD hK hN) rfl rfl hl.1 rfl (lv_room (Nat.le_of_ble_eq_true rfl)) dX6_slide_12 ⟨(by rw [hR]; exact (Nat.le_of_ble_eq_true rfl)), (by rw [hR]; exact (Nat.le_of_ble_eq_true rfl))⟩) hS hP (fun z12 H locs hz12 hP hS => ?_)
    have cst12_200 : (200 : Int32).toInt = 200 := by decide +kernel
    obtain ⟨bz12, imz12⟩ := hz12
    refine lv_if_eq (tgt := 28) hx hb dX6_slide_15 (by decide) (fun c15 => ?_) (fun c15 => ?_)
    · have t15 := tq_eq (k := z12.toInt) (q := (0)) c15 rfl (by decide +kernel)
      refine lv_iconst (v := (-1)) hx hb dX6_slide_28 (by decide +kernel) ?_
      subst hR; subst hQz
      refine W.widen (k := 29) (n := 807) (Nat.le_of_ble_eq_true rfl) (Nat.le_of_ble_eq_true rfl) ?_
      exact W.iret (v := (-1)) hx hb hr (fun t ht hW => ⟨⟨(-1), (), rfl, trivial, ⟨L, K, G, Q, I, J, hX, hQ, hI, fun F => (hD F).weaken (fun _ _ _ _ => trivial), fun q h => hAe2 q (hAL q h), by rw [ht]; exact hP, ⟨cn_I, dn_I⟩⟩⟩, hS.F ht⟩) hS.2.2 dX6_slide_29
    · have t15 := tq_ne (k := z12.toInt) (q := (0)) c15 rfl (by decide +kernel)
      have i15 := imz12 t15
      refine lv_iload_n hx hb dX6_slide_18 rfl (lv_at hl 3 rfl) ?_
      refine lv_sipush (v := 200) hx hb dX6_slide_19 (by decide +kernel) ?_
      refine ro_i (va_runS (As := [.int p3, .int 200]) (rest := []) ⟨hx, hb, hml, hown, hts⟩ (s_X6_isWithin l dC dI cs L K G Q hQ x0 m0 tx tm H.size I J hI p3 200 ⟨by decide +kernel, by decide +kernel⟩) (va_cwS 2 hts (gS pq640 pq641 pq74 pq642) rfl rfl rfl (by decide +kernel) ⟨(by rw [hR]; exact (Nat.le_of_ble_eq_true rfl)), (by rw [hR]; exact (Nat.le_of_ble_eq_true rfl))⟩) (sP_S hP hD hK hN) rfl rfl hl.1 rfl (lv_room (Nat.le_of_ble_eq_true rfl)) dX6_slide_22 ⟨(by rw [hR]; exact (Nat.le_of_ble_eq_true rfl)), (by rw [hR]; exact (Nat.le_of_ble_eq_true rfl))⟩) hS hP (fun z22 H locs hz22 hP hS => ?_)
      have cst22_200 : (200 : Int32).toInt = 200 := by decide +kernel
      obtain ⟨bz22, imz22⟩ := hz22
      refine lv_if_ne (tgt := 30) hx hb dX6_slide_25 (by decide) (fun c25 => ?_) (fun c25 => ?_)
      · have t25 := tq_ne (k := z22.toInt) (q := (0)) c25 rfl (by decide +kernel)
        have i25 := imz22 t25
        refine lv_aload_n hx hb dX6_slide_30 rfl (lv_at hl 0 rfl) ?_
        obtain ⟨y31, ey31, hLy31, hKy31, hGy31⟩ := oQ_6_5 (Sv_at hQ hLp0 hKp0)
        refine p_get (v := .ref y31) hx hb hts inX6 hown hK hP hLp0 hKp0 rfl rfl 5 (by decide) (hts _ pq354) (congrArg (fun q => some (va_rf q)) ey31) dX6_slide_31 ?_
        refine lv_iload_n hx hb dX6_slide_34 rfl (lv_at hl 1 rfl) ?_
        refine lv_iload_n hx hb dX6_slide_35 rfl (lv_at hl 2 rfl) ?_
        refine lv_iload_n hx hb dX6_slide_36 rfl (lv_at hl 3 rfl) ?_
        refine sw_v (Z := (fun I1 => Iv L K x0 m0 tx tm I1 ∧ (∀ b, ¬ (b = y31) → I1 b = I b) ∧ glOK tm.2 Q I1 y31 p1)) (va_runV (As := [.int p1, .int p2, .int p3]) (rest := []) ⟨hx, hb, hml, hown, hts⟩ (s_X5_tryGlide l dC dI cs L K G Q hQ x0 m0 tx tm H.size I J hI y31 hLy31 hKy31 p1 ⟨by omega, by omega⟩ p2 ⟨by omega, by omega⟩ p3 ⟨by omega, by omega⟩) (cwV 3 hts (gV pq739 pq740 pq741 pq79 pq742) rfl rfl rfl (by decide +kernel) ⟨(by rw [hR]; exact (Nat.le_of_ble_eq_true rfl)), (by rw [hR]; exact (Nat.le_of_ble_eq_true rfl))⟩) (sP_V hP hD hK hN hLy31 hKy31 rfl rfl) rfl rfl hl.1 rfl (lv_room (Nat.le_of_ble_eq_true rfl)) dX6_slide_37 ⟨(by rw [hR]; exact (Nat.le_of_ble_eq_true rfl)), (by rw [hR]; exact (Nat.le_of_ble_eq_true rfl))⟩) hS hAL hA (fun Iz37 Jz37 H locs hz37 hIz37 hP hS => ?_)
        obtain ⟨hIz37, frc37, zp37⟩ := hIz37
        have dn_Iz37 : (∀ b, b ∈ L0 → (K0 b = 7 ∨ K0 b = 18 ∨ K0 b = 19 ∨ K0 b = 20 ∨ K0 b = 24) → Iz37 b = I b) := fun b hb hc => (frc37 b (fun z => by have w := (hX b hb).2.1; have q := hKy31; rw [← z] at q; omega)).trans (dn_I b hb hc)
        have cn_Iz37 := cxT_fr hQ hLp0 hKp0 cn_I (fun b hb => congrFun (frc37 b (ne_k hb hKy31 (by decide))) 3) (congrFun (frc37 p0 (ne_k hKp0 hKy31 (by decide))) 9) (congrFun (frc37 p0 (ne_k hKp0 hKy31 (by decide))) 10)
        refine lv_aload_n hx hb dX6_slide_40 rfl (lv_at hl 0 rfl) ?_
        refine p_get (v := .ref y31) hx hb hts inX6 hown hK hP hLp0 hKp0 rfl rfl 5 (by decide) (hts _ pq354) (congrArg (fun q => some (va_rf q)) ey31) dX6_slide_41 ?_
        refine p_get hx hb hts inX5 hown hK hP hLy31 hKy31 rfl rfl 2 (by decide) (hts _ pq277) rfl dX6_slide_44 ?_
        refine lv_topi (fun z44 ez44 => ?_)
        have bz44 := oI_5_2 (Iv_at hIz37 hLy31 hKy31)
        rw [← ez44] at bz44
        refine lv_if_ne (tgt := 53) hx hb dX6_slide_47 (by decide) (fun c47 => ?_) (fun c47 => ?_)
        · have t47 := tq_ne (k := z44.toInt) (q := (0)) c47 rfl (by decide +kernel)
          refine lv_aload_n hx hb dX6_slide_53 rfl (lv_at hl 0 rfl) ?_
          refine sa_v (va_runV (As := []) (rest := []) ⟨hx, hb, hml, hown, hts⟩ (s_X6_remember l dC dI cs L K G Q hQ x0 m0 tx tm hx0 hm0 H.size Iz37 Jz37 hIz37 p0 hLp0 hKp0) (cwV 0 hts (gV pq643 pq645 pq3 pq74 pq646) rfl rfl rfl (by decide +kernel) ⟨(by rw [hR]; exact (Nat.le_of_ble_eq_true rfl)), (by rw [hR]; exact (Nat.le_of_ble_eq_true rfl))⟩) (sP_V hP hD hK hN hLp0 hKp0 rfl rfl) rfl rfl hl.1 rfl (lv_room (Nat.le_of_ble_eq_true rfl)) dX6_slide_54 ⟨(by rw [hR]; exact (Nat.le_of_ble_eq_true rfl)), (by rw [hR]; exact (Nat.le_of_ble_eq_true rfl))⟩) hS hAL hA (fun L K G Q Iz54 Jz54 H locs hz54 hE hQn hIz54 hDn hALn hP zp54 hS => ?_)
          obtain ⟨zp54, cnc54, dnc54⟩ := zp54
          have dn_Iz54 : (∀ b, b ∈ L0 → (K0 b = 7 ∨ K0 b = 18 ∨ K0 b = 19 ∨ K0 b = 20 ∨ K0 b = 24) → Iz54 b = I b) := fun b hb hc => (dnc54 b (hX b hb).1 (by have w := (hX b hb).2.1; omega)).trans (dn_Iz37 b hb hc)
          have gl54 := glOK_al hQ hE zp54 hLy31 hKy31 hGy31 i5 zp37
          have es54 := (congrFun ((hE p0 hLp0).2.2.2 (by rw [hKp0]; decide) (by rw [hKp0]; decide)) 5).trans ey31
          have hKp0 := (hE p0 hLp0).2.1.trans hKp0
          have hKy31 := (hE y31 hLy31).2.1.trans hKy31
          have hGy31 := (hE y31 hLy31).2.2.1.trans hGy31
          have hLp0 := (hE p0 hLp0).1
          have hLy31 := (hE y31 hLy31).1
          have hx0 := (hE x0 hx0).1
          have hm0 := (hE m0 hm0).1
          have hX := extW_trans hX hE
          have hQ := hQn
          have hD := hDn
          have hAL := hALn
          have cn_Iz54 := cxT_tr cn_Iz37 cnc54
          refine W.widen (k := 29) (n := 807) (Nat.le_of_ble_eq_true rfl) (Nat.le_of_ble_eq_true rfl) ?_
          refine lv_aload_n hx hb dX6_slide_57 rfl (lv_at hl 0 rfl) ?_
          obtain ⟨y58, ey58, hLy58, hKy58, hGy58⟩ := oQ_6_5 (Sv_at hQ hLp0 hKp0)
          refine p_get (v := .ref y58) hx hb hts inX6 hown hK hP hLp0 hKp0 rfl rfl 5 (by decide) (hts _ pq354) (congrArg (fun q => some (va_rf q)) ey58) dX6_slide_58 ?_
          refine lv_iload_n hx hb dX6_slide_61 rfl (lv_at hl 1 rfl) ?_
          refine sw_v (Z := (fun I1 => Iv L K x0 m0 tx tm I1 ∧ (∀ b, ¬ (K b = 0) → I1 b = Iz54 b))) (va_runV (As := [.int p1]) (rest := []) ⟨hx, hb, hml, hown, hts⟩ (s_X5_finishGlide l dC dI cs L K G Q hQ x0 m0 tx tm H.size Iz54 Jz54 hIz54 y58 hLy58 hKy58 p1 ⟨by omega, by omega⟩ (by obtain rfl : y31 = y58 := Option.some.inj (es54.symm.trans ey58); exact gl54)) (cwV 1 hts (gV pq789 pq790 pq791 pq79 pq792) rfl rfl rfl (by decide +kernel) ⟨(by rw [hR]; exact (Nat.le_of_ble_eq_true rfl)), (by rw [hR]; exact (Nat.le_of_ble_eq_true rfl))⟩) (sP_V hP hD hK hN hLy58 hKy58 rfl rfl) rfl rfl hl.1 rfl (lv_room (Nat.le_of_ble_eq_true rfl)) dX6_slide_62 ⟨(by rw [hR]; exact (Nat.le_of_ble_eq_true rfl)), (by rw [hR]; exact (Nat.le_of_ble_eq_true rfl))⟩) hS hAL hA (fun Iz62 Jz62 H locs hz62 hIz62 hP hS => ?_)
          obtain ⟨hIz62, frc62⟩ := hIz62
          have dn_Iz62 : (∀ b, b ∈ L0 → (K0 b = 7 ∨ K0 b = 18 ∨ K0 b = 19 ∨ K0 b = 20 ∨ K0 b = 24) → Iz62 b = I b) := fun b hb hc => (frc62 b (by have w := (hX b hb).2.1; omega)).trans (dn_Iz54 b hb hc)
          have cn_Iz62 := cxT_fr hQ hLp0 hKp0 cn_Iz54 (fun b hb => congrFun (frc62 b (by omega)) 3) (congrFun (frc62 p0 (by omega)) 9) (congrFun (frc62 p0 (by omega)) 10)
          refine lv_aload_n hx hb dX6_slide_65 rfl (lv_at hl 0 rfl) ?_
          refine p_get (v := .ref y58) hx hb hts inX6 hown hK hP hLp0 hKp0 rfl rfl 5 (by decide) (hts _ pq354) (congrArg (fun q => some (va_rf q)) ey58) dX6_slide_66 ?_
          refine p_get hx hb hts inX5 hown hK hP hLy58 hKy58 rfl rfl 2 (by decide) (hts _ pq277) rfl dX6_slide_69 ?_
          refine lv_topi (fun z69 ez69 => ?_)
          have bz69 := oI_5_2 (Iv_at hIz62 hLy58 hKy58)
          rw [← ez69] at bz69
          subst hR; subst hQz
          exact W.iret (v := z69) hx hb hr (fun t ht hW => ⟨⟨z69, (), rfl, trivial, ⟨L, K, G, Q, Iz62, Jz62, hX, hQ, hIz62, fun F => (hD F).weaken (fun _ _ _ _ => trivial), fun q h => hAe2 q (hAL q h), by rw [ht]; exact hP, ⟨cn_Iz62, dn_Iz62⟩⟩⟩, hS.F ht⟩) hS.2.2 dX6_slide_72
        · have t47 := tq_eq (k := z44.toInt) (q := (0)) c47 rfl (by decide +kernel)
          refine lv_bipush (v := (-2)) hx hb dX6_slide_50 (by decide +kernel) ?_
          subst hR; subst hQz
          refine W.widen (k := 29) (n := 807) (Nat.le_of_ble_eq_true rfl) (Nat.le_of_ble_eq_true rfl) ?_
          exact W.iret (v := (-2)) hx hb hr (fun t ht hW => ⟨⟨(-2), (), rfl, trivial, ⟨L, K, G, Q, Iz37, Jz37, hX, hQ, hIz37, fun F => (hD F).weaken (fun _ _ _ _ => trivial), fun q h => hAe2 q (hAL q h), by rw [ht]; exact hP, ⟨cn_Iz37, dn_Iz37⟩⟩⟩, hS.F ht⟩) hS.2.2 dX6_slide_52
      · have t25 := tq_eq (k := z22.toInt) (q := (0)) c25 rfl (by decide +kernel)
        refine lv_iconst (v := (-1)) hx hb dX6_slide_28 (by decide +kernel) ?_
        subst hR; subst hQz
        refine W.widen (k := 29) (n := 807) (Nat.le_of_ble_eq_true rfl) (Nat.le_of_ble_eq_true rfl) ?_
        exact W.iret (v := (-1)) hx hb hr (fun t ht hW => ⟨⟨(-1), (), rfl, trivial, ⟨L, K, G, Q, I, J, hX, hQ, hI, fun F => (hD F).weaken (fun _ _ _ _ => trivial), fun q h => hAe2 q (hAL q h), by rw [ht]; exact hP, ⟨cn_I, dn_I⟩⟩⟩, hS.F ht⟩) hS.2.2 dX6_slide_29

set_option maxHeartbeats 4000000 in
set_option maxRecDepth 100000 in
theorem s_X6_ticks (l : Launch) (dC : Nat → ClassId) (dI : Nat → Nat → Nat) (cs : Nat → ClassId) (L0 : List Nat) (K0 G0 : Nat → Nat) (Q0 : Nat → Nat → Option Nat) (hQ : Sv L0 K0 G0 Q0) (x0 m0 : Nat) (tx : GT) (tm : GT × Int) (hx0 : x0 ∈ L0) (hm0 : m0 ∈ L0) (sz : Nat) (I : Nat → Nat → Int32) (J : Nat → Nat → Int64) (hI : Iv L0 K0 x0 m0 tx tm I) (p0 : Nat) (hLp0 : p0 ∈ L0) (hKp0 : K0 p0 = 6) (p1 : Int32) : Met l yX6_ticks (.code yX6_ticks cX6_ticks 5 (some .int) :: pw) ({ frames := 6, cells := 29, slots := 807, locals := 158 }) (sP (dC, dI) cs [.ref p0, .int p1] sz L0 K0 I J Q0) (va_Qi (fun (r : Int32) (_ : Unit) => True) (fun _ t => sA (dC, dI) cs L0 K0 G0 Q0 x0 m0 tx tm sz (fun L K G Q I1 => cxT Q0 I p0 Q I1 ∧ (∀ b, b ∈ L0 → (K0 b = 7 ∨ K0 b = 18 ∨ K0 b = 19 ∨ K0 b = 20 ∨ K0 b = 24) → I1 b = I b)) t) (fun q => q ∈ L0 ∨ sz ≤ q)) 29 807 (fun q => q ∈ L0 ∨ sz ≤ q) := by
  refine Met.ofW (cc := cX6_ticks) (maxL := 5) (ret := (some .int)) (by decide +kernel) rfl ?_
  intro p e s m args below meth c s₁ B hml hv
  obtain ⟨rfl, hsz, hP, hK, hD0, hN⟩ := hv
  have hx := B.exec
  have hb := B.bytes
  have hr := B.returns
  have hts := fun w (h : w ∈ pw) => atoms_spec (ws := Cond.code yX6_ticks cX6_ticks 5 (some .int) :: pw) B.pre w (List.mem_cons_of_mem _ h)
  have hown : s.vm.findClass RX6 = some m.cls := findClass_of_methodNamed B.named
  have hlocks := B.notSynchronized
  subst hsz
  have hBB : 999 ≤ tm.2 ∧ tm.2 ≤ 6000000 := hI.2.2.2.2.1
  have dn_I : (∀ b, b ∈ L0 → (K0 b = 7 ∨ K0 b = 18 ∨ K0 b = 19 ∨ K0 b = 20 ∨ K0 b = 24) → I b = I b) := fun _ _ _ => rfl
  obtain ⟨A, hAe⟩ : ∃ A : Nat → Prop, A = (fun q => q ∈ L0 ∨ s.heap.size ≤ q) := ⟨_, rfl⟩
  rw [← hAe]
  have hAL : ∀ q, q ∈ L0 → A q := fun q h => by rw [hAe]; exact Or.inl h
  have hA : ∀ q, s.heap.size ≤ q → A q := fun q h => by rw [hAe]; exact Or.inr h
  have hD : ∀ F, va_D A (va_pl L0 F) := fun F => (hD0 F).weaken (fun k q hk _ => hAL _ (pl_mem hk))
  obtain ⟨H, hHe⟩ : ∃ H : Heap, H = s.heap := ⟨_, rfl⟩
  have hS : va_S A s.heap H [] := by rw [hHe]; exact va_S.rf
  rw [← hHe] at hP
  have hl := lv_entry ([.ref p0, .int p1]) (n := 5) (Nat.le_of_ble_eq_true rfl)
  rw [lg_entry_eq]
  generalize (lg_sl ([.ref p0, .int p1]) ++ List.replicate (5 - (lg_sl ([.ref p0, .int p1])).length) Slot.unset).toArray = ls at hl ⊢
  have hl : lv_has ls 5 [(0, .ref p0), (1, .int p1)] := hl
  rw [← hHe]
  refine namedW (fun R Qz hR hQz => ?_)
  have hAe2 : ∀ q, A q → q ∈ L0 ∨ H.size ≤ q := fun q h => by rw [hHe]; rw [hAe] at h; exact h
  have hQ0 := hQ
  have hK0p0 := hKp0
  have hL0p0 := hLp0
  obtain ⟨L, K, G, Q, hX, hQ, hI, hP, hD, hAL, hx0, hm0, hLp0, hKp0, cn_I⟩ : ∃ L K G Q, extW L0 K0 G0 Q0 L K G Q ∧ Sv L K G Q ∧ Iv L K x0 m0 tx tm I ∧ va_P (dC, dI) vwCl (Wd cs L K I J Q) H ∧ (∀ F, va_D A (va_pl L F)) ∧ (∀ q, q ∈ L → A q) ∧ x0 ∈ L ∧ m0 ∈ L ∧ p0 ∈ L ∧ K p0 = 6 ∧ cxT Q0 I p0 Q I := ⟨L0, K0, G0, Q0, extW_refl, hQ, hI, hP, hD, hAL, hx0, hm0, hLp0, hKp0, cxT_refl⟩
  refine lv_iload_n hx hb dX6_ticks_0 rfl (lv_at hl 1 rfl) ?_
  refine lv_iconst (v := 1) hx hb dX6_ticks_1 (by decide +kernel) ?_
  refine lv_icmp_lt (tgt := 11) hx hb dX6_ticks_2 (by decide) (fun c2 => ?_) (fun c2 => ?_)
  · have t2 := tq_lt (k := p1.toInt) (q := (1)) c2 rfl (by decide +kernel)
    refine lv_iconst (v := (-1)) hx hb dX6_ticks_11 (by decide +kernel) ?_
    subst hR; subst hQz
    refine W.widen (k := 29) (n := 807) (Nat.le_of_ble_eq_true rfl) (Nat.le_of_ble_eq_true rfl) ?_
    exact W.iret (v := (-1)) hx hb hr (fun t ht hW => ⟨⟨(-1), (), rfl, trivial, ⟨L, K, G, Q, I, J, hX, hQ, hI, fun F => (hD F).weaken (fun _ _ _ _ => trivial), fun q h => hAe2 q (hAL q h), by rw [ht]; exact hP, ⟨cn_I, dn_I⟩⟩⟩, hS.F ht⟩) hS.2.2 dX6_ticks_12
  · have t2 := tq_nlt (k := p1.toInt) (q := (1)) c2 rfl (by decide +kernel)
    refine lv_iload_n hx hb dX6_ticks_5 rfl (lv_at hl 1 rfl) ?_
    refine lv_bipush (v := 20) hx hb dX6_ticks_6 (by decide +kernel) ?_
    refine lv_icmp_le (tgt := 13) hx hb dX6_ticks_8 (by decide) (fun c8 => ?_) (fun c8 => ?_)
    · have t8 := tq_le (k := p1.toInt) (q := (20)) c8 rfl (by decide +kernel)
      refine lv_aload_n hx hb dX6_ticks_13 rfl (lv_at hl 0 rfl) ?_
      refine sa_v (va_runV (As := []) (rest := []) ⟨hx, hb, hml, hown, hts⟩ (s_X6_remember l dC dI cs L K G Q hQ x0 m0 tx tm hx0 hm0 H.size I J hI p0 hLp0 hKp0) (cwV 0 hts (gV pq643 pq645 pq3 pq74 pq646) rfl rfl rfl (by decide +kernel) ⟨(by rw [hR]; exact (Nat.le_of_ble_eq_true rfl)), (by rw [hR]; exact (Nat.le_of_ble_eq_true rfl))⟩) (sP_V hP hD hK hN hLp0 hKp0 rfl rfl) rfl rfl hl.1 rfl (lv_room (Nat.le_of_ble_eq_true rfl)) dX6_ticks_14 ⟨(by rw [hR]; exact (Nat.le_of_ble_eq_true rfl)), (by rw [hR]; exact (Nat.le_of_ble_eq_true rfl))⟩) hS hAL hA (fun L K G Q Iz14 Jz14 H locs hz14 hE hQn hIz14 hDn hALn hP zp14 hS => ?_)
      obtain ⟨zp14, cnc14, dnc14⟩ := zp14
      have dn_Iz14 : (∀ b, b ∈ L0 → (K0 b = 7 ∨ K0 b = 18 ∨ K0 b = 19 ∨ K0 b = 20 ∨ K0 b = 24) → Iz14 b = I b) := fun b hb hc => (dnc14 b (hX b hb).1 (by have w := (hX b hb).2.1; omega)).trans (dn_I b hb hc)
      have hKp0 := (hE p0 hLp0).2.1.trans hKp0
      have hLp0 := (hE p0 hLp0).1
      have hx0 := (hE x0 hx0).1
      have hm0 := (hE m0 hm0).1
      have hX := extW_trans hX hE
      have hQ := hQn
      have hD := hDn
      have hAL := hALn
      have cn_Iz14 := cxT_tr cn_I cnc14
      refine W.widen (k := 29) (n := 807) (Nat.le_of_ble_eq_true rfl) (Nat.le_of_ble_eq_true rfl) ?_
      refine lv_iconst (v := 0) hx hb dX6_ticks_17 (by decide +kernel) ?_
      refine lv_istore_n (lv' := [(2, .int 0), (0, .ref p0), (1, .int p1)]) hx hb dX6_ticks_18 rfl hl (by decide) rfl (fun ls hl => ?_)
      refine lv_iconst (v := 0) hx hb dX6_ticks_19 (by decide +kernel) ?_
      refine lv_istore_n (lv' := [(3, .int 0), (2, .int 0), (0, .ref p0), (1, .int p1)]) hx hb dX6_ticks_20 rfl hl (by decide) rfl (fun ls hl => ?_)
      have key21 := blocks (fun n => ∀ (v21_2 : Int32) (v21_3 : Int32) (I21 : Nat → Nat → Int32) (J21 : Nat → Nat → Int64) (H : Heap) (lo : List Loc) (ls : Array Slot), (41 - v21_3.toInt).toNat = n → ((0) ≤ v21_3.toInt ∧ v21_3.toInt ≤ 40) → Iv L K x0 m0 tx tm I21 → (∀ b, b ∈ L0 → (K0 b = 7 ∨ K0 b = 18 ∨ K0 b = 19 ∨ K0 b = 20 ∨ K0 b = 24) → I21 b = I b) → cxT Q0 I p0 Q I21 → va_P (dC, dI) vwCl (Wd cs L K I21 J21 Q) H → va_S A s.heap H lo → lv_has ls 5 [(0, .ref p0), (1, .int p1), (2, .int v21_2), (3, .int v21_3)] → W p l e R s m (([.ref p0, .int p1] : List Value).toArray) below meth c H lo 29 807 Qz (F0 m 21 ls [])) (by
        intro n ih21
        intro v21_2 v21_3 I21 J21 H lo ls hmu21 bv21_3 hI21 dn_I21 cn_I21 hP hS hl
        refine lv_iload_n hx hb dX6_ticks_21 rfl (lv_at hl 3 rfl) ?_
        refine lv_iload_n hx hb dX6_ticks_22 rfl (lv_at hl 1 rfl) ?_
        refine lv_icmp_ge (tgt := 65) hx hb dX6_ticks_23 (by decide) (fun c23 => ?_) (fun c23 => ?_)
        · have t23 := tq_le (k := p1.toInt) (q := v21_3.toInt) c23 rfl rfl
          refine lv_aload_n hx hb dX6_ticks_65 rfl (lv_at hl 0 rfl) ?_
          obtain ⟨y66, ey66, hLy66, hKy66, hGy66⟩ := oQ_6_2 (Sv_at hQ hLp0 hKp0)
          refine p_get (v := .ref y66) hx hb hts inX6 hown hK hP hLp0 hKp0 rfl rfl 2 (by decide) (hts _ pq351) (congrArg (fun q => some (va_rf q)) ey66) dX6_ticks_66 ?_
          refine lv_dup hx hb dX6_ticks_69 rfl ?_
          refine p_get hx hb hts inX1 hown hK hP hLy66 hKy66 rfl rfl 4 (by decide) (hts _ pq229) rfl dX6_ticks_70 ?_
          refine lv_topi (fun z70 ez70 => ?_)
          refine lv_iload_n hx hb dX6_ticks_73 rfl (lv_at hl 1 rfl) ?_
          refine lv_iadd hx hb dX6_ticks_74 ?_
          refine lv_topi (fun z74 ez74 => ?_)
          refine p_put hx hb hts inX1 tyX1 tyX1_ok nmX1 hown hK hP hD hS hLy66 hKy66 rfl rfl 4 (by decide) (hts _ pq229) rfl (by decide +kernel) (Nat.le_of_ble_eq_true rfl) (oS_1_4 cs _ _ _ _) dX6_ticks_75 (fun H locs hP hS => ?_)
          obtain ⟨Iz75, hP, hIz75, qIz75⟩ : ∃ Iz75, va_P (dC, dI) vwCl (Wd cs L K Iz75 J21 Q) H ∧ Iv L K x0 m0 tx tm Iz75 ∧ Iz75 = va_up I21 y66 (upd (I21 y66) 4 z74) := ⟨_, hP, Iv_put hI21 hKy66 (oP_1_4 (Iv_at hI21 hLy66 hKy66)) (by decide) (by decide), rfl⟩
          have dn_Iz75 : (∀ b, b ∈ L0 → (K0 b = 7 ∨ K0 b = 18 ∨ K0 b = 19 ∨ K0 b = 20 ∨ K0 b = 24) → Iz75 b = I b) := fun b hb hc => (congrFun qIz75 b).trans ((va_up_ne _ _ (fun z => by have q := hKy66; rw [← z, (hX b hb).2.1] at q; omega)).trans (dn_I21 b hb hc))
          have cn_Iz75 := cxT_put hQ hLp0 hKp0 cn_I21 qIz75 hKy66 (by decide)
          refine lv_iload_n hx hb dX6_ticks_78 rfl (lv_at hl 2 rfl) ?_
          subst hR; subst hQz
          exact W.iret (v := v21_2) hx hb hr (fun t ht hW => ⟨⟨v21_2, (), rfl, trivial, ⟨L, K, G, Q, Iz75, J21, hX, hQ, hIz75, fun F => (hD F).weaken (fun _ _ _ _ => trivial), fun q h => hAe2 q (hAL q h), by rw [ht]; exact hP, ⟨cn_Iz75, dn_Iz75⟩⟩⟩, hS.F ht⟩) hS.2.2 dX6_ticks_79
        · have t23 := tq_nle (k := p1.toInt) (q := v21_3.toInt) c23 rfl rfl
          refine lv_iconst (v := 0) hx hb dX6_ticks_26 (by decide +kernel) ?_
          refine lv_istore (lv' := [(4, .int 0), (0, .ref p0), (1, .int p1), (2, .int v21_2), (3, .int v21_3)]) hx hb dX6_ticks_27 hl (by decide) rfl (fun ls hl => ?_)
          have key29 := blocks (fun n => ∀ (v29_2 : Int32) (v29_4 : Int32) (I29 : Nat → Nat → Int32) (J29 : Nat → Nat → Int64) (H : Heap) (lo : List Loc) (ls : Array Slot), (11 - v29_4.toInt).toNat = n → ((0) ≤ v29_4.toInt ∧ v29_4.toInt ≤ 10) → Iv L K x0 m0 tx tm I29 → (∀ b, b ∈ L0 → (K0 b = 7 ∨ K0 b = 18 ∨ K0 b = 19 ∨ K0 b = 20 ∨ K0 b = 24) → I29 b = I b) → cxT Q0 I p0 Q I29 → va_P (dC, dI) vwCl (Wd cs L K I29 J29 Q) H → va_S A s.heap H lo → lv_has ls 5 [(0, .ref p0), (1, .int p1), (2, .int v29_2), (3, .int v21_3), (4, .int v29_4)] → W p l e R s m (([.ref p0, .int p1] : List Value).toArray) below meth c H lo 29 807 Qz (F0 m 29 ls [])) (by
            intro n ih29
            intro v29_2 v29_4 I29 J29 H lo ls hmu29 bv29_4 hI29 dn_I29 cn_I29 hP hS hl
            refine lv_iload hx hb dX6_ticks_29 (lv_at hl 4 rfl) ?_
            refine lv_aload_n hx hb dX6_ticks_31 rfl (lv_at hl 0 rfl) ?_
            obtain ⟨y32, ey32, hLy32, hKy32, hGy32⟩ := oQ_6_2 (Sv_at hQ hLp0 hKp0)
            refine p_get (v := .ref y32) hx hb hts inX6 hown hK hP hLp0 hKp0 rfl rfl 2 (by decide) (hts _ pq351) (congrArg (fun q => some (va_rf q)) ey32) dX6_ticks_32 ?_
            refine p_get hx hb hts inX1 hown hK hP hLy32 hKy32 rfl rfl 3 (by decide) (hts _ pq226) rfl dX6_ticks_35 ?_
            refine lv_topi (fun z35 ez35 => ?_)
            have cgz35 := congrArg Int32.toInt ez35
            have bz35 := oI_1_3 (Iv_at hI29 hLy32 hKy32)
            rw [← ez35] at bz35
            refine lv_icmp_ge (tgt := 59) hx hb dX6_ticks_38 (by decide) (fun c38 => ?_) (fun c38 => ?_)
            · have t38 := tq_le (k := z35.toInt) (q := v29_4.toInt) c38 rfl rfl
              obtain ⟨z59, ez59⟩ : ∃ y : Int32, y = v21_3 + 1 := ⟨_, rfl⟩
              refine lv_iinc (v := z59) (lv' := [(3, .int z59), (0, .ref p0), (1, .int p1), (2, .int v29_2), (4, .int v29_4)]) hx hb dX6_ticks_59 hl (k := 3) rfl (by rw [ez59]; rfl) (by decide) rfl (fun ls hl => ?_)
              have bz59 := tq_add (k := v21_3.toInt) (q := 1) ez59 rfl (by decide +kernel) (by omega) (by omega)
              refine lv_goto (tgt := 21) hx hb dX6_ticks_62 (by decide) ?_
              exact ih21 _ (by omega) v29_2 z59 I29 J29 _ _ _ rfl ⟨by omega, by omega⟩ hI29 dn_I29 cn_I29 hP hS (lv_sub hl [1, 2, 3, 0] rfl)
            · have t38 := tq_nle (k := z35.toInt) (q := v29_4.toInt) c38 rfl rfl
              refine lv_aload_n hx hb dX6_ticks_41 rfl (lv_at hl 0 rfl) ?_
              refine lv_iload hx hb dX6_ticks_42 (lv_at hl 4 rfl) ?_
              refine sw_i (Z := (fun I1 => Iv L K x0 m0 tx tm I1 ∧ cxT Q I29 p0 Q I1 ∧ (∀ b, K b = 7 ∨ K b = 18 ∨ K b = 19 ∨ K b = 20 ∨ K b = 24 → I1 b = I29 b))) (va_runV (As := [.int v29_4]) (rest := []) ⟨hx, hb, hml, hown, hts⟩ (s_X6_stopsInTick l dC dI cs L K G Q hQ x0 m0 tx tm H.size I29 J29 hI29 p0 hLp0 hKp0 v29_4 ⟨by omega, by omega⟩) (cwV 1 hts (gV pq829 pq831 pq6 pq74 pq832) rfl rfl rfl (by decide +kernel) ⟨(by rw [hR]; exact (Nat.le_of_ble_eq_true rfl)), (by rw [hR]; exact (Nat.le_of_ble_eq_true rfl))⟩) (sP_V hP hD hK hN hLp0 hKp0 rfl rfl) rfl rfl hl.1 rfl (lv_room (Nat.le_of_ble_eq_true rfl)) dX6_ticks_44 ⟨(by rw [hR]; exact (Nat.le_of_ble_eq_true rfl)), (by rw [hR]; exact (Nat.le_of_ble_eq_true rfl))⟩) hS hAL hA (fun z44 Iz44 Jz44 H locs hz44 hIz44 hP hS => ?_)
              obtain ⟨hIz44, cnc44, dnc44⟩ := hIz44
              have dn_Iz44 : (∀ b, b ∈ L0 → (K0 b = 7 ∨ K0 b = 18 ∨ K0 b = 19 ∨ K0 b = 20 ∨ K0 b = 24) → Iz44 b = I b) := fun b hb hc => (dnc44 b (by have w := (hX b hb).2.1; omega)).trans (dn_I29 b hb hc)
              have cn_Iz44 := cxT_tr cn_I29 cnc44
              have bz44 := hz44
              have j53 : ∀ (v53_2 : Int32) (H : Heap) (lo : List Loc) (ls : Array Slot), va_P (dC, dI) vwCl (Wd cs L K Iz44 Jz44 Q) H → va_S A s.heap H lo → lv_has ls 5 [(0, .ref p0), (1, .int p1), (2, .int v53_2), (3, .int v21_3), (4, .int v29_4)] → W p l e R s m (([.ref p0, .int p1] : List Value).toArray) below meth c H lo 29 807 Qz (F0 m 53 ls []) := by
                intro v53_2 H lo ls hP hS hl
                obtain ⟨z53, ez53⟩ : ∃ y : Int32, y = v29_4 + 1 := ⟨_, rfl⟩
                refine lv_iinc (v := z53) (lv' := [(4, .int z53), (0, .ref p0), (1, .int p1), (2, .int v53_2), (3, .int v21_3)]) hx hb dX6_ticks_53 hl (k := 4) rfl (by rw [ez53]; rfl) (by decide) rfl (fun ls hl => ?_)
                have bz53 := tq_add (k := v29_4.toInt) (q := 1) ez53 rfl (by decide +kernel) (by omega) (by omega)
                refine lv_goto (tgt := 29) hx hb dX6_ticks_56 (by decide) ?_
                exact ih29 _ (by omega) v53_2 z53 Iz44 Jz44 _ _ _ rfl ⟨by omega, by omega⟩ hIz44 dn_Iz44 cn_Iz44 hP hS (lv_sub hl [1, 2, 3, 4, 0] rfl)
              refine lv_if_eq (tgt := 53) hx hb dX6_ticks_47 (by decide) (fun c47 => ?_) (fun c47 => ?_)
              · have t47 := tq_eq (k := z44.toInt) (q := (0)) c47 rfl (by decide +kernel)
                exact j53 v29_2 _ _ _ hP hS (lv_sub hl [0, 1, 2, 3, 4] rfl)
              · have t47 := tq_ne (k := z44.toInt) (q := (0)) c47 rfl (by decide +kernel)
                obtain ⟨z50, ez50⟩ : ∃ y : Int32, y = v29_2 + 1 := ⟨_, rfl⟩
                refine lv_iinc (v := z50) (lv' := [(2, .int z50), (0, .ref p0), (1, .int p1), (3, .int v21_3), (4, .int v29_4)]) hx hb dX6_ticks_50 hl (k := 2) rfl (by rw [ez50]; rfl) (by decide) rfl (fun ls hl => ?_)
                exact j53 z50 _ _ _ hP hS (lv_sub hl [1, 2, 0, 3, 4] rfl))
          exact key29 _ v21_2 0 I21 J21 _ _ _ rfl ⟨by decide +kernel, by decide +kernel⟩ hI21 dn_I21 cn_I21 hP hS (lv_sub hl [1, 2, 3, 4, 0] rfl))
      exact key21 _ 0 0 Iz14 Jz14 _ _ _ rfl ⟨by decide +kernel, by decide +kernel⟩ hIz14 dn_Iz14 cn_Iz14 hP hS (lv_sub hl [2, 3, 1, 0] rfl)
    · have t8 := tq_nle (k := p1.toInt) (q := (20)) c8 rfl (by decide +kernel)
      refine lv_iconst (v := (-1)) hx hb dX6_ticks_11 (by decide +kernel) ?_
      subst hR; subst hQz
      refine W.widen (k := 29) (n := 807) (Nat.le_of_ble_eq_true rfl) (Nat.le_of_ble_eq_true rfl) ?_
      exact W.iret (v := (-1)) hx hb hr (fun t ht hW => ⟨⟨(-1), (), rfl, trivial, ⟨L, K, G, Q, I, J, hX, hQ, hI, fun F => (hD F).weaken (fun _ _ _ _ => trivial), fun q h => hAe2 q (hAL q h), by rw [ht]; exact hP, ⟨cn_I, dn_I⟩⟩⟩, hS.F ht⟩) hS.2.2 dX6_ticks_12

set_option maxHeartbeats 4000000 in
set_option maxRecDepth 100000 in
theorem s_X6_push (l : Launch) (dC : Nat → ClassId) (dI : Nat → Nat → Nat) (cs : Nat → ClassId) (L0 : List Nat) (K0 G0 : Nat → Nat) (Q0 : Nat → Nat → Option Nat) (hQ : Sv L0 K0 G0 Q0) (x0 m0 : Nat) (tx : GT) (tm : GT × Int) (hx0 : x0 ∈ L0) (hm0 : m0 ∈ L0) (sz : Nat) (I : Nat → Nat → Int32) (J : Nat → Nat → Int64) (hI : Iv L0 K0 x0 m0 tx tm I) (p0 : Nat) (hLp0 : p0 ∈ L0) (hKp0 : K0 p0 = 6) (p1 : Int32) (p2 : Int32) (p3 : Int32) : Met l yX6_push (.code yX6_push cX6_push 10 (some .int) :: pw) ({ frames := 5, cells := 29, slots := 807, locals := 135 }) (sP (dC, dI) cs [.ref p0, .int p1, .int p2, .int p3] sz L0 K0 I J Q0) (va_Qi (fun (r : Int32) (_ : Unit) => True) (fun _ t => sA (dC, dI) cs L0 K0 G0 Q0 x0 m0 tx tm sz (fun L K G Q I1 => cxT Q0 I p0 Q I1 ∧ (∀ b, b ∈ L0 → (K0 b = 7 ∨ K0 b = 18 ∨ K0 b = 19 ∨ K0 b = 20 ∨ K0 b = 24) → I1 b = I b)) t) (fun q => q ∈ L0 ∨ sz ≤ q)) 29 807 (fun q => q ∈ L0 ∨ sz ≤ q) := by
  refine Met.ofW (cc := cX6_push) (maxL := 10) (ret := (some .int)) (by decide +kernel) rfl ?_
  intro p e s m args below meth c s₁ B hml hv
  obtain ⟨rfl, hsz, hP, hK, hD0, hN⟩ := hv
  have hx := B.exec
  have hb := B.bytes
  have hr := B.returns
  have hts := fun w (h : w ∈ pw) => atoms_spec (ws := Cond.code yX6_push cX6_push 10 (some .int) :: pw) B.pre w (List.mem_cons_of_mem _ h)
  have hown : s.vm.findClass RX6 = some m.cls := findClass_of_methodNamed B.named
  have hlocks := B.notSynchronized
  subst hsz
  have hBB : 999 ≤ tm.2 ∧ tm.2 ≤ 6000000 := hI.2.2.2.2.1
  have dn_I : (∀ b, b ∈ L0 → (K0 b = 7 ∨ K0 b = 18 ∨ K0 b = 19 ∨ K0 b = 20 ∨ K0 b = 24) → I b = I b) := fun _ _ _ => rfl
  obtain ⟨A, hAe⟩ : ∃ A : Nat → Prop, A = (fun q => q ∈ L0 ∨ s.heap.size ≤ q) := ⟨_, rfl⟩
  rw [← hAe]
  have hAL : ∀ q, q ∈ L0 → A q := fun q h => by rw [hAe]; exact Or.inl h
  have hA : ∀ q, s.heap.size ≤ q → A q := fun q h => by rw [hAe]; exact Or.inr h
  have hD : ∀ F, va_D A (va_pl L0 F) := fun F => (hD0 F).weaken (fun k q hk _ => hAL _ (pl_mem hk))
  obtain ⟨H, hHe⟩ : ∃ H : Heap, H = s.heap := ⟨_, rfl⟩
  have hS : va_S A s.heap H [] := by rw [hHe]; exact va_S.rf
  rw [← hHe] at hP
  have hl := lv_entry ([.ref p0, .int p1, .int p2, .int p3]) (n := 10) (Nat.le_of_ble_eq_true rfl)
  rw [lg_entry_eq]
  generalize (lg_sl ([.ref p0, .int p1, .int p2, .int p3]) ++ List.replicate (10 - (lg_sl ([.ref p0, .int p1, .int p2, .int p3])).length) Slot.unset).toArray = ls at hl ⊢
  have hl : lv_has ls 10 [(0, .ref p0), (1, .int p1), (2, .int p2), (3, .int p3)] := hl
  rw [← hHe]
  refine namedW (fun R Qz hR hQz => ?_)
  have hAe2 : ∀ q, A q → q ∈ L0 ∨ H.size ≤ q := fun q h => by rw [hHe]; rw [hAe] at h; exact h
  have hQ0 := hQ
  have hK0p0 := hKp0
  have hL0p0 := hLp0
  obtain ⟨L, K, G, Q, hX, hQ, hI, hP, hD, hAL, hx0, hm0, hLp0, hKp0, cn_I⟩ : ∃ L K G Q, extW L0 K0 G0 Q0 L K G Q ∧ Sv L K G Q ∧ Iv L K x0 m0 tx tm I ∧ va_P (dC, dI) vwCl (Wd cs L K I J Q) H ∧ (∀ F, va_D A (va_pl L F)) ∧ (∀ q, q ∈ L → A q) ∧ x0 ∈ L ∧ m0 ∈ L ∧ p0 ∈ L ∧ K p0 = 6 ∧ cxT Q0 I p0 Q I := ⟨L0, K0, G0, Q0, extW_refl, hQ, hI, hP, hD, hAL, hx0, hm0, hLp0, hKp0, cxT_refl⟩
  refine lv_aload_n hx hb dX6_push_0 rfl (lv_at hl 0 rfl) ?_
  refine lv_iload_n hx hb dX6_push_1 rfl (lv_at hl 1 rfl) ?_
  refine ro_i (va_runV (As := [.int p1]) (rest := []) ⟨hx, hb, hml, hown, hts⟩ (s_X6_isBody l dC dI cs L K G Q hQ x0 m0 tx tm H.size I J hI p0 hLp0 hKp0 p1) (cwV 1 hts (gV pq636 pq638 pq2 pq74 pq639) rfl rfl rfl (by decide +kernel) ⟨(by rw [hR]; exact (Nat.le_of_ble_eq_true rfl)), (by rw [hR]; exact (Nat.le_of_ble_eq_true rfl))⟩) (sP_V hP hD hK hN hLp0 hKp0 rfl rfl) rfl rfl hl.1 rfl (lv_room (Nat.le_of_ble_eq_true rfl)) dX6_push_2 ⟨(by rw [hR]; exact (Nat.le_of_ble_eq_true rfl)), (by rw [hR]; exact (Nat.le_of_ble_eq_true rfl))⟩) hS hP (fun z2 H locs hz2 hP hS => ?_)
  obtain ⟨bz2, imz2⟩ := hz2
  refine lv_if_eq (tgt := 28) hx hb dX6_push_5 (by decide) (fun c5 => ?_) (fun c5 => ?_)
  · have t5 := tq_eq (k := z2.toInt) (q := (0)) c5 rfl (by decide +kernel)
    refine lv_iconst (v := (-1)) hx hb dX6_push_28 (by decide +kernel) ?_
    subst hR; subst hQz
    refine W.widen (k := 29) (n := 807) (Nat.le_of_ble_eq_true rfl) (Nat.le_of_ble_eq_true rfl) ?_
    exact W.iret (v := (-1)) hx hb hr (fun t ht hW => ⟨⟨(-1), (), rfl, trivial, ⟨L, K, G, Q, I, J, hX, hQ, hI, fun F => (hD F).weaken (fun _ _ _ _ => trivial), fun q h => hAe2 q (hAL q h), by rw [ht]; exact hP, ⟨cn_I, dn_I⟩⟩⟩, hS.F ht⟩) hS.2.2 dX6_push_29
  · have t5 := tq_ne (k := z2.toInt) (q := (0)) c5 rfl (by decide +kernel)
    have i5 := imz2 t5
    refine lv_iload_n hx hb dX6_push_8 rfl (lv_at hl 2 rfl) ?_
    refine lv_sipush (v := 200) hx hb dX6_push_9 (by decide +kernel) ?_
    refine ro_i (va_runS (As := [.int p2, .int 200]) (rest := []) ⟨hx, hb, hml, hown, hts⟩ (s_X6_isWithin l dC dI cs L K G Q hQ x0 m0 tx tm H.size I J hI p2 200 ⟨by decide +kernel, by decide +kernel⟩) (va_cwS 2 hts (gS pq640 pq641 pq74 pq642) rfl rfl rfl (by decide +kernel) ⟨(by rw [hR]; exact (Nat.le_of_ble_eq_true rfl)), (by rw [hR]; exact (Nat.le_of_ble_eq_true rfl))⟩) (sP_S hP hD hK hN) rfl rfl hl.1 rfl (lv_room (Nat.le_of_ble_eq_true rfl)) dX6_push_12 ⟨(by rw [hR]; exact (Nat.le_of_ble_eq_true rfl)), (by rw [hR]; exact (Nat.le_of_ble_eq_true rfl))⟩) hS hP (fun z12 H locs hz12 hP hS => ?_)
    have cst12_200 : (200 : Int32).toInt = 200 := by decide +kernel
    obtain ⟨bz12, imz12⟩ := hz12
    refine lv_if_eq (tgt := 28) hx hb dX6_push_15 (by decide) (fun c15 => ?_) (fun c15 => ?_)
    · have t15 := tq_eq (k := z12.toInt) (q := (0)) c15 rfl (by decide +kernel)
      refine lv_iconst (v := (-1)) hx hb dX6_push_28 (by decide +kernel) ?_
      subst hR; subst hQz
      refine W.widen (k := 29) (n := 807) (Nat.le_of_ble_eq_true rfl) (Nat.le_of_ble_eq_true rfl) ?_
      exact W.iret (v := (-1)) hx hb hr (fun t ht hW => ⟨⟨(-1), (), rfl, trivial, ⟨L, K, G, Q, I, J, hX, hQ, hI, fun F => (hD F).weaken (fun _ _ _ _ => trivial), fun q h => hAe2 q (hAL q h), by rw [ht]; exact hP, ⟨cn_I, dn_I⟩⟩⟩, hS.F ht⟩) hS.2.2 dX6_push_29
    · have t15 := tq_ne (k := z12.toInt) (q := (0)) c15 rfl (by decide +kernel)
      have i15 := imz12 t15
      refine lv_iload_n hx hb dX6_push_18 rfl (lv_at hl 3 rfl) ?_
      refine lv_sipush (v := 200) hx hb dX6_push_19 (by decide +kernel) ?_
      refine ro_i (va_runS (As := [.int p3, .int 200]) (rest := []) ⟨hx, hb, hml, hown, hts⟩ (s_X6_isWithin l dC dI cs L K G Q hQ x0 m0 tx tm H.size I J hI p3 200 ⟨by decide +kernel, by decide +kernel⟩) (va_cwS 2 hts (gS pq640 pq641 pq74 pq642) rfl rfl rfl (by decide +kernel) ⟨(by rw [hR]; exact (Nat.le_of_ble_eq_true rfl)), (by rw [hR]; exact (Nat.le_of_ble_eq_true rfl))⟩) (sP_S hP hD hK hN) rfl rfl hl.1 rfl (lv_room (Nat.le_of_ble_eq_true rfl)) dX6_push_22 ⟨(by rw [hR]; exact (Nat.le_of_ble_eq_true rfl)), (by rw [hR]; exact (Nat.le_of_ble_eq_true rfl))⟩) hS hP (fun z22 H locs hz22 hP hS => ?_)
      have cst22_200 : (200 : Int32).toInt = 200 := by decide +kernel
      obtain ⟨bz22, imz22⟩ := hz22
      refine lv_if_ne (tgt := 30) hx hb dX6_push_25 (by decide) (fun c25 => ?_) (fun c25 => ?_)
      · have t25 := tq_ne (k := z22.toInt) (q := (0)) c25 rfl (by decide +kernel)
        have i25 := imz22 t25
        refine lv_iload_n hx hb dX6_push_30 rfl (lv_at hl 2 rfl) ?_
        refine lv_iload_n hx hb dX6_push_31 rfl (lv_at hl 3 rfl) ?_
        refine ro_i (va_runS (As := [.int p2, .int p3]) (rest := []) ⟨hx, hb, hml, hown, hts⟩ (s_X6_wayLength l dC dI cs L K G Q hQ x0 m0 tx tm H.size I J hI p2 ⟨by omega, by omega⟩ p3 ⟨by omega, by omega⟩) (va_cwS 2 hts (gS pq797 pq744 pq74 pq745) rfl rfl rfl (by decide +kernel) ⟨(by rw [hR]; exact (Nat.le_of_ble_eq_true rfl)), (by rw [hR]; exact (Nat.le_of_ble_eq_true rfl))⟩) (sP_S hP hD hK hN) rfl rfl hl.1 rfl (lv_room (Nat.le_of_ble_eq_true rfl)) dX6_push_32 ⟨(by rw [hR]; exact (Nat.le_of_ble_eq_true rfl)), (by rw [hR]; exact (Nat.le_of_ble_eq_true rfl))⟩) hS hP (fun z32 H locs hz32 hP hS => ?_)
        have bz32 := hz32
        refine lv_istore (lv' := [(4, .int z32), (0, .ref p0), (1, .int p1), (2, .int p2), (3, .int p3)]) hx hb dX6_push_35 hl (by decide) rfl (fun ls hl => ?_)
        refine lv_iconst (v := 0) hx hb dX6_push_37 (by decide +kernel) ?_
        refine lv_istore (lv' := [(5, .int 0), (4, .int z32), (0, .ref p0), (1, .int p1), (2, .int p2), (3, .int p3)]) hx hb dX6_push_38 hl (by decide) rfl (fun ls hl => ?_)
        refine lv_iconst (v := 1) hx hb dX6_push_40 (by decide +kernel) ?_
        refine lv_istore (lv' := [(6, .int 1), (5, .int 0), (4, .int z32), (0, .ref p0), (1, .int p1), (2, .int p2), (3, .int p3)]) hx hb dX6_push_41 hl (by decide) rfl (fun ls hl => ?_)
        have key43 := blocks (fun n => ∀ (L : List Nat) (K : Nat → Nat) (G : Nat → Nat) (Q : Nat → Nat → Option Nat) (v43_5 : Int32) (v43_6 : Int32) (I43 : Nat → Nat → Int32) (J43 : Nat → Nat → Int64) (nc43 : Nat) (ns43 : Nat) (H : Heap) (lo : List Loc) (ls : Array Slot), (302 - v43_6.toInt).toNat = n → extW L0 K0 G0 Q0 L K G Q → Sv L K G Q → (∀ F, va_D A (va_pl L F)) → (∀ q, q ∈ L → A q) → x0 ∈ L → m0 ∈ L → p0 ∈ L → K p0 = 6 → (nc43 ≤ 29 ∧ ns43 ≤ 807) → ((0) ≤ v43_5.toInt ∧ v43_5.toInt ≤ 300) → ((1) ≤ v43_6.toInt ∧ v43_6.toInt ≤ 301) → Iv L K x0 m0 tx tm I43 → (∀ b, b ∈ L0 → (K0 b = 7 ∨ K0 b = 18 ∨ K0 b = 19 ∨ K0 b = 20 ∨ K0 b = 24) → I43 b = I b) → cxT Q0 I p0 Q I43 → (v43_5.toInt = 0 → nc43 = 0 ∧ ns43 = 0) → va_P (dC, dI) vwCl (Wd cs L K I43 J43 Q) H → va_S A s.heap H lo → lv_has ls 10 [(0, .ref p0), (1, .int p1), (2, .int p2), (3, .int p3), (4, .int z32), (5, .int v43_5), (6, .int v43_6)] → W p l e R s m (([.ref p0, .int p1, .int p2, .int p3] : List Value).toArray) below meth c H lo nc43 ns43 Qz (F0 m 43 ls [])) (by
          intro n ih43
          intro L K G Q v43_5 v43_6 I43 J43 nc43 ns43 H lo ls hmu43 hX hQ hD hAL hx0 hm0 hLp0 hKp0 hnc43 bv43_5 bv43_6 hI43 dn_I43 cn_I43 hnz hP hS hl
          refine lv_iload hx hb dX6_push_43 (lv_at hl 6 rfl) ?_
          refine lv_iload hx hb dX6_push_45 (lv_at hl 4 rfl) ?_
          have j157 : ∀ (H : Heap) (lo : List Loc) (ls : Array Slot), va_P (dC, dI) vwCl (Wd cs L K I43 J43 Q) H → va_S A s.heap H lo → lv_has ls 10 [(0, .ref p0), (1, .int p1), (2, .int p2), (3, .int p3), (4, .int z32), (5, .int v43_5), (6, .int v43_6)] → W p l e R s m (([.ref p0, .int p1, .int p2, .int p3] : List Value).toArray) below meth c H lo nc43 ns43 Qz (F0 m 157 ls []) := by
            intro H lo ls hP hS hl
            refine lv_iload hx hb dX6_push_157 (lv_at hl 5 rfl) ?_
            refine lv_if_ne (tgt := 167) hx hb dX6_push_159 (by decide) (fun c159 => ?_) (fun c159 => ?_)
            · have t159 := tq_ne (k := v43_5.toInt) (q := (0)) c159 rfl (by decide +kernel)
              refine lv_iload hx hb dX6_push_167 (lv_at hl 5 rfl) ?_
              subst hR; subst hQz
              refine W.widen (k := 29) (n := 807) (by omega) (by omega) ?_
              exact W.iret (v := v43_5) hx hb hr (fun t ht hW => ⟨⟨v43_5, (), rfl, trivial, ⟨L, K, G, Q, I43, J43, hX, hQ, hI43, fun F => (hD F).weaken (fun _ _ _ _ => trivial), fun q h => hAe2 q (hAL q h), by rw [ht]; exact hP, ⟨cn_I43, dn_I43⟩⟩⟩, hS.F ht⟩) hS.2.2 dX6_push_169
            · have t159 := tq_eq (k := v43_5.toInt) (q := (0)) c159 rfl (by decide +kernel)
              refine lv_bipush (v := (-2)) hx hb dX6_push_162 (by decide +kernel) ?_
              refine lv_goto (tgt := 169) hx hb dX6_push_164 (by decide) ?_
              subst hR; subst hQz
              refine W.widen (k := 29) (n := 807) (by omega) (by omega) ?_
              exact W.iret (v := (-2)) hx hb hr (fun t ht hW => ⟨⟨(-2), (), rfl, trivial, ⟨L, K, G, Q, I43, J43, hX, hQ, hI43, fun F => (hD F).weaken (fun _ _ _ _ => trivial), fun q h => hAe2 q (hAL q h), by rw [ht]; exact hP, ⟨cn_I43, dn_I43⟩⟩⟩, hS.F ht⟩) hS.2.2 dX6_push_169
          refine lv_icmp_gt (tgt := 157) hx hb dX6_push_47 (by decide) (fun c47 => ?_) (fun c47 => ?_)
          · have t47 := tq_lt (k := z32.toInt) (q := v43_6.toInt) c47 rfl rfl
            exact j157  _ _ _ hP hS (lv_sub hl [0, 1, 2, 3, 4, 5, 6] rfl)
          · have t47 := tq_nlt (k := z32.toInt) (q := v43_6.toInt) c47 rfl rfl
            refine lv_iload hx hb dX6_push_50 (lv_at hl 6 rfl) ?_
            refine lv_iload_n hx hb dX6_push_52 rfl (lv_at hl 2 rfl) ?_
            refine lv_iload hx hb dX6_push_53 (lv_at hl 4 rfl) ?_
            refine ro_i (va_runS (As := [.int v43_6, .int p2, .int z32]) (rest := []) ⟨hx, hb, hml, hown, hts⟩ (s_X6_wayPartS l dC dI cs L K G Q hQ x0 m0 tx tm H.size I43 J43 hI43 v43_6 ⟨by omega, by omega⟩ p2 ⟨by omega, by omega⟩ z32 ⟨by omega, by omega⟩ (by omega)) (va_cwS 3 hts (gS pq798 pq779 pq74 pq780) rfl rfl rfl (by decide +kernel) ⟨(by rw [hR]; exact (Nat.le_of_ble_eq_true rfl)), (by rw [hR]; exact (Nat.le_of_ble_eq_true rfl))⟩) (sP_S hP hD hK hN) rfl rfl hl.1 rfl (lv_room (Nat.le_of_ble_eq_true rfl)) dX6_push_55 ⟨(by rw [hR]; exact (show nc43 + 0 ≤ 29 by omega)), (by rw [hR]; exact (show ns43 + 0 ≤ 807 by omega))⟩) hS hP (fun z55 H locs hz55 hP hS => ?_)
            have bz55 := hz55
            refine lv_iload hx hb dX6_push_58 (lv_at hl 6 rfl) ?_
            refine lv_iconst (v := 1) hx hb dX6_push_60 (by decide +kernel) ?_
            refine lv_isub hx hb dX6_push_61 ?_
            refine lv_topi (fun z61 ez61 => ?_)
            have bz61 := tq_sub (k := v43_6.toInt) (q := (1)) ez61 rfl (by decide +kernel) (by omega) (by omega)
            refine lv_iload_n hx hb dX6_push_62 rfl (lv_at hl 2 rfl) ?_
            refine lv_iload hx hb dX6_push_63 (lv_at hl 4 rfl) ?_
            refine ro_i (va_runS (As := [.int z61, .int p2, .int z32]) (rest := [.int z55]) ⟨hx, hb, hml, hown, hts⟩ (s_X6_wayPartS l dC dI cs L K G Q hQ x0 m0 tx tm H.size I43 J43 hI43 z61 ⟨by omega, by omega⟩ p2 ⟨by omega, by omega⟩ z32 ⟨by omega, by omega⟩ (by omega)) (va_cwS 3 hts (gS pq798 pq779 pq74 pq780) rfl rfl rfl (by decide +kernel) ⟨(by rw [hR]; exact (Nat.le_of_ble_eq_true rfl)), (by rw [hR]; exact (Nat.le_of_ble_eq_true rfl))⟩) (sP_S hP hD hK hN) rfl rfl hl.1 rfl (lv_room (Nat.le_of_ble_eq_true rfl)) dX6_push_65 ⟨(by rw [hR]; exact (show nc43 + 0 ≤ 29 by omega)), (by rw [hR]; exact (show ns43 + 0 ≤ 807 by omega))⟩) hS hP (fun z65 H locs hz65 hP hS => ?_)
            have bz65 := hz65
            refine lv_isub hx hb dX6_push_68 ?_
            refine lv_topi (fun z68 ez68 => ?_)
            have bz68 := tq_sub (k := z55.toInt) (q := z65.toInt) ez68 rfl rfl (by omega) (by omega)
            refine lv_istore (lv' := [(7, .int z68), (0, .ref p0), (1, .int p1), (2, .int p2), (3, .int p3), (4, .int z32), (5, .int v43_5), (6, .int v43_6)]) hx hb dX6_push_69 hl (by decide) rfl (fun ls hl => ?_)
            refine lv_iload hx hb dX6_push_71 (lv_at hl 7 rfl) ?_
            refine lv_iload_n hx hb dX6_push_73 rfl (lv_at hl 4 rfl) ?_
            refine lv_iload hx hb dX6_push_74 (lv_at hl 5 rfl) ?_
            refine ro_i (va_runS (As := [.int v43_6, .int p3, .int z32]) (rest := []) ⟨hx, hb, hml, hown, hts⟩ (s_X6_wayPartS l dC dI cs L K G Q hQ x0 m0 tx tm H.size I43 J43 hI43 v43_6 ⟨by omega, by omega⟩ p3 ⟨by omega, by omega⟩ z32 ⟨by omega, by omega⟩ (by omega)) (va_cwS 3 hts (gS pq798 pq779 pq74 pq780) rfl rfl rfl (by decide +kernel) ⟨(by rw [hR]; exact (Nat.le_of_ble_eq_true rfl)), (by rw [hR]; exact (Nat.le_of_ble_eq_true rfl))⟩) (sP_S hP hD hK hN) rfl rfl hl.1 rfl (lv_room (Nat.le_of_ble_eq_true rfl)) dX6_push_76 ⟨(by rw [hR]; exact (show nc43 + 0 ≤ 29 by omega)), (by rw [hR]; exact (show ns43 + 0 ≤ 807 by omega))⟩) hS hP (fun z76 H locs hz76 hP hS => ?_)
            have bz76 := hz76
            refine lv_iload hx hb dX6_push_79 (lv_at hl 7 rfl) ?_
            refine lv_iconst (v := 1) hx hb dX6_push_81 (by decide +kernel) ?_
            refine lv_isub hx hb dX6_push_82 ?_
            refine lv_topi (fun z82 ez82 => ?_)
            have bz82 := tq_sub (k := v43_6.toInt) (q := (1)) ez82 rfl (by decide +kernel) (by omega) (by omega)
            refine lv_iload_n hx hb dX6_push_83 rfl (lv_at hl 4 rfl) ?_
            refine lv_iload hx hb dX6_push_84 (lv_at hl 5 rfl) ?_
            refine ro_i (va_runS (As := [.int z82, .int p3, .int z32]) (rest := [.int z76]) ⟨hx, hb, hml, hown, hts⟩ (s_X6_wayPartS l dC dI cs L K G Q hQ x0 m0 tx tm H.size I43 J43 hI43 z82 ⟨by omega, by omega⟩ p3 ⟨by omega, by omega⟩ z32 ⟨by omega, by omega⟩ (by omega)) (va_cwS 3 hts (gS pq798 pq779 pq74 pq780) rfl rfl rfl (by decide +kernel) ⟨(by rw [hR]; exact (Nat.le_of_ble_eq_true rfl)), (by rw [hR]; exact (Nat.le_of_ble_eq_true rfl))⟩) (sP_S hP hD hK hN) rfl rfl hl.1 rfl (lv_room (Nat.le_of_ble_eq_true rfl)) dX6_push_86 ⟨(by rw [hR]; exact (show nc43 + 0 ≤ 29 by omega)), (by rw [hR]; exact (show ns43 + 0 ≤ 807 by omega))⟩) hS hP (fun z86 H locs hz86 hP hS => ?_)
            have bz86 := hz86
            refine lv_isub hx hb dX6_push_89 ?_
            refine lv_topi (fun z89 ez89 => ?_)
            have bz89 := tq_sub (k := z76.toInt) (q := z86.toInt) ez89 rfl rfl (by omega) (by omega)
            refine lv_istore (lv' := [(8, .int z89), (7, .int z68), (0, .ref p0), (1, .int p1), (2, .int p2), (3, .int p3), (4, .int z32), (5, .int v43_5), (6, .int v43_6)]) hx hb dX6_push_90 hl (by decide) rfl (fun ls hl => ?_)
            refine lv_aload_n hx hb dX6_push_92 rfl (lv_at hl 2 rfl) ?_
            obtain ⟨y93, ey93, hLy93, hKy93, hGy93⟩ := oQ_6_5 (Sv_at hQ hLp0 hKp0)
            refine p_get (v := .ref y93) hx hb hts inX6 hown hK hP hLp0 hKp0 rfl rfl 5 (by decide) (hts _ pq354) (congrArg (fun q => some (va_rf q)) ey93) dX6_push_93 ?_
            refine lv_iload_n hx hb dX6_push_96 rfl (lv_at hl 3 rfl) ?_
            refine lv_iload hx hb dX6_push_97 (lv_at hl 1 rfl) ?_
            refine lv_iload hx hb dX6_push_99 (lv_at hl 0 rfl) ?_
            refine ro_i (va_runV (As := [.int p1, .int z68, .int z89]) (rest := []) ⟨hx, hb, hml, hown, hts⟩ (s_X5_goingBy l dC dI cs L K G Q hQ x0 m0 tx tm H.size I43 J43 hI43 y93 hLy93 hKy93 p1 ⟨by omega, by omega⟩ z68 z89) (cwV 3 hts (gV pq799 pq800 pq801 pq79 pq802) rfl rfl rfl (by decide +kernel) ⟨(by rw [hR]; exact (Nat.le_of_ble_eq_true rfl)), (by rw [hR]; exact (Nat.le_of_ble_eq_true rfl))⟩) (sP_V hP hD hK hN hLy93 hKy93 rfl rfl) rfl rfl hl.1 rfl (lv_room (Nat.le_of_ble_eq_true rfl)) dX6_push_101 ⟨(by rw [hR]; exact (show nc43 + 0 ≤ 29 by omega)), (by rw [hR]; exact (show ns43 + 0 ≤ 807 by omega))⟩) hS hP (fun z101 H locs hz101 hP hS => ?_)
            refine lv_istore (lv' := [(9, .int z101), (8, .int z89), (7, .int z68), (0, .ref p0), (1, .int p1), (2, .int p2), (3, .int p3), (4, .int z32), (5, .int v43_5), (6, .int v43_6)]) hx hb dX6_push_104 hl (by decide) rfl (fun ls hl => ?_)
            refine lv_aload_n hx hb dX6_push_106 rfl (lv_at hl 3 rfl) ?_
            refine p_get (v := .ref y93) hx hb hts inX6 hown hK hP hLp0 hKp0 rfl rfl 5 (by decide) (hts _ pq354) (congrArg (fun q => some (va_rf q)) ey93) dX6_push_107 ?_
            refine lv_iload hx hb dX6_push_110 (lv_at hl 0 rfl) ?_
            refine lv_iload hx hb dX6_push_112 (lv_at hl 2 rfl) ?_
            refine lv_iload hx hb dX6_push_114 (lv_at hl 1 rfl) ?_
            refine ro_i (va_runV (As := [.int z101, .int z68, .int z89]) (rest := []) ⟨hx, hb, hml, hown, hts⟩ (s_X5_canAllGo l dC dI cs L K G Q hQ x0 m0 tx tm H.size I43 J43 hI43 y93 hLy93 hKy93 z101 z68 ⟨by omega, by omega⟩ z89 ⟨by omega, by omega⟩) (cwV 3 hts (gV pq813 pq814 pq815 pq79 pq816) rfl rfl rfl (by decide +kernel) ⟨(by rw [hR]; exact (Nat.le_of_ble_eq_true rfl)), (by rw [hR]; exact (Nat.le_of_ble_eq_true rfl))⟩) (sP_V hP hD hK hN hLy93 hKy93 rfl rfl) rfl rfl hl.1 rfl (lv_room (Nat.le_of_ble_eq_true rfl)) dX6_push_116 ⟨(by rw [hR]; exact (show nc43 + 0 ≤ 29 by omega)), (by rw [hR]; exact (show ns43 + 0 ≤ 807 by omega))⟩) hS hP (fun z116 H locs hz116 hP hS => ?_)
            obtain ⟨bz116, xpz116⟩ := hz116
            refine lv_if_ne (tgt := 125) hx hb dX6_push_119 (by decide) (fun c119 => ?_) (fun c119 => ?_)
            · have t119 := tq_ne (k := z116.toInt) (q := (0)) c119 rfl (by decide +kernel)
              refine lv_iload hx hb dX6_push_125 (lv_at hl 8 rfl) ?_
              have j134 : ∀ (L : List Nat) (K : Nat → Nat) (G : Nat → Nat) (Q : Nat → Nat → Option Nat) (I134 : Nat → Nat → Int32) (J134 : Nat → Nat → Int64) (nc134 : Nat) (ns134 : Nat) (H : Heap) (lo : List Loc) (ls : Array Slot), extW L0 K0 G0 Q0 L K G Q → Sv L K G Q → (∀ F, va_D A (va_pl L F)) → (∀ q, q ∈ L → A q) → x0 ∈ L → m0 ∈ L → p0 ∈ L → K p0 = 6 → (nc134 ≤ 29 ∧ ns134 ≤ 807) → Iv L K x0 m0 tx tm I134 → (∀ b, b ∈ L0 → (K0 b = 7 ∨ K0 b = 18 ∨ K0 b = 19 ∨ K0 b = 20 ∨ K0 b = 24) → I134 b = I b) → cxT Q0 I p0 Q I134 → (∀ ys, Q p0 5 = some ys → goAll tm.2 Q I134 ys z101 z68 z89) → va_P (dC, dI) vwCl (Wd cs L K I134 J134 Q) H → va_S A s.heap H lo → lv_has ls 10 [(0, .ref p0), (1, .int p1), (2, .int p2), (3, .int p3), (4, .int z32), (5, .int v43_5), (6, .int v43_6), (7, .int z68), (8, .int z89), (9, .int z101)] → W p l e R s m (([.ref p0, .int p1, .int p2, .int p3] : List Value).toArray) below meth c H lo nc134 ns134 Qz (F0 m 134 ls []) := by
                intro L K G Q I134 J134 nc134 ns134 H lo ls hX hQ hD hAL hx0 hm0 hLp0 hKp0 hnc134 hI134 dn_I134 cn_I134 hga hP hS hl
                refine lv_aload_n hx hb dX6_push_134 rfl (lv_at hl 0 rfl) ?_
                obtain ⟨y135, ey135, hLy135, hKy135, hGy135⟩ := oQ_6_5 (Sv_at hQ hLp0 hKp0)
                refine p_get (v := .ref y135) hx hb hts inX6 hown hK hP hLp0 hKp0 rfl rfl 5 (by decide) (hts _ pq354) (congrArg (fun q => some (va_rf q)) ey135) dX6_push_135 ?_
                refine lv_iload hx hb dX6_push_138 (lv_at hl 9 rfl) ?_
                refine lv_iload hx hb dX6_push_140 (lv_at hl 7 rfl) ?_
                refine lv_iload hx hb dX6_push_142 (lv_at hl 8 rfl) ?_
                refine sw_v (Z := (fun I1 => Iv L K x0 m0 tx tm I1 ∧ (∀ b, ¬ (K b = 0) → I1 b = I134 b))) (va_runV (As := [.int z101, .int z68, .int z89]) (rest := []) ⟨hx, hb, hml, hown, hts⟩ (s_X5_moveAll l dC dI cs L K G Q hQ x0 m0 tx tm H.size I134 J134 hI134 y135 hLy135 hKy135 z101 z68 ⟨by omega, by omega⟩ z89 ⟨by omega, by omega⟩ (hga y135 ey135)) (cwV 3 hts (gV pq817 pq818 pq819 pq79 pq820) rfl rfl rfl (by decide +kernel) ⟨(by rw [hR]; exact (Nat.le_of_ble_eq_true rfl)), (by rw [hR]; exact (Nat.le_of_ble_eq_true rfl))⟩) (sP_V hP hD hK hN hLy135 hKy135 rfl rfl) rfl rfl hl.1 rfl (lv_room (Nat.le_of_ble_eq_true rfl)) dX6_push_144 ⟨(by rw [hR]; exact (show nc134 + 0 ≤ 29 by omega)), (by rw [hR]; exact (show ns134 + 0 ≤ 807 by omega))⟩) hS hAL hA (fun Iz144 Jz144 H locs hz144 hIz144 hP hS => ?_)
                obtain ⟨hIz144, frc144⟩ := hIz144
                have dn_Iz144 : (∀ b, b ∈ L0 → (K0 b = 7 ∨ K0 b = 18 ∨ K0 b = 19 ∨ K0 b = 20 ∨ K0 b = 24) → Iz144 b = I b) := fun b hb hc => (frc144 b (by have w := (hX b hb).2.1; omega)).trans (dn_I134 b hb hc)
                have cn_Iz144 := cxT_fr hQ hLp0 hKp0 cn_I134 (fun b hb => congrFun (frc144 b (by omega)) 3) (congrFun (frc144 p0 (by omega)) 9) (congrFun (frc144 p0 (by omega)) 10)
                refine lv_iload hx hb dX6_push_147 (lv_at hl 6 rfl) ?_
                refine lv_istore (lv' := [(5, .int v43_6), (0, .ref p0), (1, .int p1), (2, .int p2), (3, .int p3), (4, .int z32), (6, .int v43_6), (7, .int z68), (8, .int z89), (9, .int z101)]) hx hb dX6_push_149 hl (by decide) rfl (fun ls hl => ?_)
                obtain ⟨z151, ez151⟩ : ∃ y : Int32, y = v43_6 + 1 := ⟨_, rfl⟩
                refine lv_iinc (v := z151) (lv' := [(6, .int z151), (5, .int v43_6), (0, .ref p0), (1, .int p1), (2, .int p2), (3, .int p3), (4, .int z32), (7, .int z68), (8, .int z89), (9, .int z101)]) hx hb dX6_push_151 hl (k := 6) rfl (by rw [ez151]; rfl) (by decide) rfl (fun ls hl => ?_)
                have bz151 := tq_add (k := v43_6.toInt) (q := 1) ez151 rfl (by decide +kernel) (by omega) (by omega)
                refine lv_goto (tgt := 43) hx hb dX6_push_154 (by decide) ?_
                exact ih43 _ (by omega) L K G Q v43_6 z151 Iz144 Jz144 nc134 ns134 _ _ _ rfl hX hQ hD hAL hx0 hm0 hLp0 hKp0 ⟨by omega, by omega⟩ ⟨by omega, by omega⟩ ⟨by omega, by omega⟩ hIz144 dn_Iz144 cn_Iz144 (fun h => absurd h (by omega)) hP hS (lv_sub hl [2, 3, 4, 5, 6, 1, 0] rfl)
              refine lv_if_ne (tgt := 134) hx hb dX6_push_127 (by decide) (fun c127 => ?_) (fun c127 => ?_)
              · have t127 := tq_ne (k := v43_5.toInt) (q := (0)) c127 rfl (by decide +kernel)
                exact j134 L K G Q I43 J43 nc43 ns43 _ _ _ hX hQ hD hAL hx0 hm0 hLp0 hKp0 ⟨by omega, by omega⟩ hI43 dn_I43 cn_I43 (fun ys e => by obtain rfl : y93 = ys := Option.some.inj (ey93.symm.trans e); exact xpz116 t119) hP hS (lv_sub hl [3, 4, 5, 6, 7, 8, 9, 2, 1, 0] rfl)
              · have t127 := tq_eq (k := v43_5.toInt) (q := (0)) c127 rfl (by decide +kernel)
                refine lv_aload_n hx hb dX6_push_130 rfl (lv_at hl 3 rfl) ?_
                obtain ⟨rfl, rfl⟩ : nc43 = 0 ∧ ns43 = 0 := hnz t127
                refine sa_v (va_runV (As := []) (rest := []) ⟨hx, hb, hml, hown, hts⟩ (s_X6_remember l dC dI cs L K G Q hQ x0 m0 tx tm hx0 hm0 H.size I43 J43 hI43 p0 hLp0 hKp0) (cwV 0 hts (gV pq643 pq645 pq3 pq74 pq646) rfl rfl rfl (by decide +kernel) ⟨(by rw [hR]; exact (Nat.le_of_ble_eq_true rfl)), (by rw [hR]; exact (Nat.le_of_ble_eq_true rfl))⟩) (sP_V hP hD hK hN hLp0 hKp0 rfl rfl) rfl rfl hl.1 rfl (lv_room (Nat.le_of_ble_eq_true rfl)) dX6_push_131 ⟨(by rw [hR]; exact (Nat.le_of_ble_eq_true rfl)), (by rw [hR]; exact (Nat.le_of_ble_eq_true rfl))⟩) hS hAL hA (fun L K G Q Iz131 Jz131 H locs hz131 hE hQn hIz131 hDn hALn hP zp131 hS => ?_)
                obtain ⟨zp131, cnc131, dnc131⟩ := zp131
                have dn_Iz131 : (∀ b, b ∈ L0 → (K0 b = 7 ∨ K0 b = 18 ∨ K0 b = 19 ∨ K0 b = 20 ∨ K0 b = 24) → Iz131 b = I b) := fun b hb hc => (dnc131 b (hX b hb).1 (by have w := (hX b hb).2.1; omega)).trans (dn_I43 b hb hc)
                have ga131 := goAll_al hQ hI43 hE zp131 hLy93 hKy93 hGy93 (xpz116 t119)
                have es131 := (congrFun ((hE p0 hLp0).2.2.2 (by rw [hKp0]; decide) (by rw [hKp0]; decide)) 5).trans ey93
                have hKp0 := (hE p0 hLp0).2.1.trans hKp0
                have hKy93 := (hE y93 hLy93).2.1.trans hKy93
                have hGy93 := (hE y93 hLy93).2.2.1.trans hGy93
                have hLp0 := (hE p0 hLp0).1
                have hLy93 := (hE y93 hLy93).1
                have hx0 := (hE x0 hx0).1
                have hm0 := (hE m0 hm0).1
                have hX := extW_trans hX hE
                have hQ := hQn
                have hD := hDn
                have hAL := hALn
                have cn_Iz131 := cxT_tr cn_I43 cnc131
                refine W.widen (k := 29) (n := 807) (Nat.le_of_ble_eq_true rfl) (Nat.le_of_ble_eq_true rfl) ?_
                exact j134 L K G Q Iz131 Jz131 29 807 _ _ _ hX hQ hD hAL hx0 hm0 hLp0 hKp0 ⟨by omega, by omega⟩ hIz131 dn_Iz131 cn_Iz131 (fun ys e => by obtain rfl : y93 = ys := Option.some.inj (es131.symm.trans e); exact ga131) hP hS (lv_sub hl [3, 4, 5, 6, 7, 8, 9, 2, 1, 0] rfl)
            · have t119 := tq_eq (k := z116.toInt) (q := (0)) c119 rfl (by decide +kernel)
              refine lv_goto (tgt := 157) hx hb dX6_push_122 (by decide) ?_
              exact j157  _ _ _ hP hS (lv_sub hl [3, 4, 5, 6, 7, 8, 9] rfl))
        exact key43 _ L K G Q 0 1 I J 0 0 _ _ _ rfl hX hQ hD hAL hx0 hm0 hLp0 hKp0 ⟨by omega, by omega⟩ ⟨by decide +kernel, by decide +kernel⟩ ⟨by decide +kernel, by decide +kernel⟩ hI dn_I cn_I (fun _ => ⟨rfl, rfl⟩) hP hS (lv_sub hl [3, 4, 5, 6, 2, 1, 0] rfl)
      · have t25 := tq_eq (k := z22.toInt) (q := (0)) c25 rfl (by decide +kernel)
        refine lv_iconst (v := (-1)) hx hb dX6_push_28 (by decide +kernel) ?_
        subst hR; subst hQz
        refine W.widen (k := 29) (n := 807) (Nat.le_of_ble_eq_true rfl) (Nat.le_of_ble_eq_true rfl) ?_
        exact W.iret (v := (-1)) hx hb hr (fun t ht hW => ⟨⟨(-1), (), rfl, trivial, ⟨L, K, G, Q, I, J, hX, hQ, hI, fun F => (hD F).weaken (fun _ _ _ _ => trivial), fun q h => hAe2 q (hAL q h), by rw [ht]; exact hP, ⟨cn_I, dn_I⟩⟩⟩, hS.F ht⟩) hS.2.2 dX6_push_29

set_option maxHeartbeats 4000000 in
set_option maxRecDepth 100000 in
theorem s_X6_falls (l : Launch) (dC : Nat → ClassId) (dI : Nat → Nat → Nat) (cs : Nat → ClassId) (L0 : List Nat) (K0 G0 : Nat → Nat) (Q0 : Nat → Nat → Option Nat) (hQ : Sv L0 K0 G0 Q0) (x0 m0 : Nat) (tx : GT) (tm : GT × Int) (hx0 : x0 ∈ L0) (hm0 : m0 ∈ L0) (sz : Nat) (I : Nat → Nat → Int32) (J : Nat → Nat → Int64) (hI : Iv L0 K0 x0 m0 tx tm I) (p0 : Nat) (hLp0 : p0 ∈ L0) (hKp0 : K0 p0 = 6) : Met l yX6_falls (.code yX6_falls cX6_falls 6 (some .int) :: pw) ({ frames := 5, cells := 29, slots := 807, locals := 136 }) (sP (dC, dI) cs [.ref p0] sz L0 K0 I J Q0) (va_Qi (fun (r : Int32) (_ : Unit) => True) (fun _ t => sA (dC, dI) cs L0 K0 G0 Q0 x0 m0 tx tm sz (fun L K G Q I1 => cxT Q0 I p0 Q I1 ∧ (∀ b, b ∈ L0 → (K0 b = 7 ∨ K0 b = 18 ∨ K0 b = 19 ∨ K0 b = 20 ∨ K0 b = 24) → I1 b = I b)) t) (fun q => q ∈ L0 ∨ sz ≤ q)) 29 807 (fun q => q ∈ L0 ∨ sz ≤ q) := by
  refine Met.ofW (cc := cX6_falls) (maxL := 6) (ret := (some .int)) (by decide +kernel) rfl ?_
  intro p e s m args below meth c s₁ B hml hv
  obtain ⟨rfl, hsz, hP, hK, hD0, hN⟩ := hv
  have hx := B.exec
  have hb := B.bytes
  have hr := B.returns
  have hts := fun w (h : w ∈ pw) => atoms_spec (ws := Cond.code yX6_falls cX6_falls 6 (some .int) :: pw) B.pre w (List.mem_cons_of_mem _ h)
  have hown : s.vm.findClass RX6 = some m.cls := findClass_of_methodNamed B.named
  have hlocks := B.notSynchronized
  subst hsz
  have hBB : 999 ≤ tm.2 ∧ tm.2 ≤ 6000000 := hI.2.2.2.2.1
  have dn_I : (∀ b, b ∈ L0 → (K0 b = 7 ∨ K0 b = 18 ∨ K0 b = 19 ∨ K0 b = 20 ∨ K0 b = 24) → I b = I b) := fun _ _ _ => rfl
  obtain ⟨A, hAe⟩ : ∃ A : Nat → Prop, A = (fun q => q ∈ L0 ∨ s.heap.size ≤ q) := ⟨_, rfl⟩
  rw [← hAe]
  have hAL : ∀ q, q ∈ L0 → A q := fun q h => by rw [hAe]; exact Or.inl h
  have hA : ∀ q, s.heap.size ≤ q → A q := fun q h => by rw [hAe]; exact Or.inr h
  have hD : ∀ F, va_D A (va_pl L0 F) := fun F => (hD0 F).weaken (fun k q hk _ => hAL _ (pl_mem hk))
  obtain ⟨H, hHe⟩ : ∃ H : Heap, H = s.heap := ⟨_, rfl⟩
  have hS : va_S A s.heap H [] := by rw [hHe]; exact va_S.rf
  rw [← hHe] at hP
  have hl := lv_entry ([.ref p0]) (n := 6) (Nat.le_of_ble_eq_true rfl)
  rw [lg_entry_eq]
  generalize (lg_sl ([.ref p0]) ++ List.replicate (6 - (lg_sl ([.ref p0])).length) Slot.unset).toArray = ls at hl ⊢
  have hl : lv_has ls 6 [(0, .ref p0)] := hl
  rw [← hHe]
  refine namedW (fun R Qz hR hQz => ?_)
  have hAe2 : ∀ q, A q → q ∈ L0 ∨ H.size ≤ q := fun q h => by rw [hHe]; rw [hAe] at h; exact h
  have hQ0 := hQ
  have hK0p0 := hKp0
  have hL0p0 := hLp0
  obtain ⟨L, K, G, Q, hX, hQ, hI, hP, hD, hAL, hx0, hm0, hLp0, hKp0, cn_I⟩ : ∃ L K G Q, extW L0 K0 G0 Q0 L K G Q ∧ Sv L K G Q ∧ Iv L K x0 m0 tx tm I ∧ va_P (dC, dI) vwCl (Wd cs L K I J Q) H ∧ (∀ F, va_D A (va_pl L F)) ∧ (∀ q, q ∈ L → A q) ∧ x0 ∈ L ∧ m0 ∈ L ∧ p0 ∈ L ∧ K p0 = 6 ∧ cxT Q0 I p0 Q I := ⟨L0, K0, G0, Q0, extW_refl, hQ, hI, hP, hD, hAL, hx0, hm0, hLp0, hKp0, cxT_refl⟩
  refine lv_aload_n hx hb dX6_falls_0 rfl (lv_at hl 0 rfl) ?_
  obtain ⟨y1, ey1, hLy1, hKy1, hGy1⟩ := oQ_6_2 (Sv_at hQ hLp0 hKp0)
  refine p_get (v := .ref y1) hx hb hts inX6 hown hK hP hLp0 hKp0 rfl rfl 2 (by decide) (hts _ pq351) (congrArg (fun q => some (va_rf q)) ey1) dX6_falls_1 ?_
  refine p_get hx hb hts inX1 hown hK hP hLy1 hKy1 rfl rfl 3 (by decide) (hts _ pq226) rfl dX6_falls_4 ?_
  refine lv_topi (fun z4 ez4 => ?_)
  have cgz4 := congrArg Int32.toInt ez4
  have bz4 := oI_1_3 (Iv_at hI hLy1 hKy1)
  rw [← ez4] at bz4
  refine lv_if_ne (tgt := 12) hx hb dX6_falls_7 (by decide) (fun c7 => ?_) (fun c7 => ?_)
  · have t7 := tq_ne (k := z4.toInt) (q := (0)) c7 rfl (by decide +kernel)
    have z00 : (0 : Int32).toInt = 0 := by decide +kernel
    refine lv_iconst (v := 0) hx hb dX6_falls_12 (by decide +kernel) ?_
    refine lv_istore_n (lv' := [(1, .int 0), (0, .ref p0)]) hx hb dX6_falls_13 rfl hl (by decide) rfl (fun ls hl => ?_)
    refine lv_sipush (v := 19981) hx hb dX6_falls_14 (by decide +kernel) ?_
    refine lv_istore_n (lv' := [(2, .int 19981), (1, .int 0), (0, .ref p0)]) hx hb dX6_falls_17 rfl hl (by decide) rfl (fun ls hl => ?_)
    refine lv_iconst (v := 0) hx hb dX6_falls_18 (by decide +kernel) ?_
    refine lv_istore_n (lv' := [(3, .int 0), (2, .int 19981), (1, .int 0), (0, .ref p0)]) hx hb dX6_falls_19 rfl hl (by decide) rfl (fun ls hl => ?_)
    have key20 := blocks (fun n => ∀ (L : List Nat) (K : Nat → Nat) (G : Nat → Nat) (Q : Nat → Nat → Option Nat) (v20_1 : Int32) (v20_3 : Int32) (I20 : Nat → Nat → Int32) (J20 : Nat → Nat → Int64) (nc20 : Nat) (ns20 : Nat) (H : Heap) (lo : List Loc) (ls : Array Slot), (100001 - v20_3.toInt).toNat = n → extW L0 K0 G0 Q0 L K G Q → Sv L K G Q → (∀ F, va_D A (va_pl L F)) → (∀ q, q ∈ L → A q) → x0 ∈ L → m0 ∈ L → p0 ∈ L → K p0 = 6 → (nc20 ≤ 29 ∧ ns20 ≤ 807) → ((0) ≤ v20_1.toInt ∧ v20_1.toInt ≤ 2000000000) → ((0) ≤ v20_3.toInt ∧ v20_3.toInt ≤ 100000) → Iv L K x0 m0 tx tm I20 → (∀ b, b ∈ L0 → (K0 b = 7 ∨ K0 b = 18 ∨ K0 b = 19 ∨ K0 b = 20 ∨ K0 b = 24) → I20 b = I b) → cxT Q0 I p0 Q I20 → (v20_1.toInt = 0 → nc20 = 0 ∧ ns20 = 0) → (0 ≤ v20_1.toInt ∧ v20_1.toInt ≤ 3000 * v20_3.toInt) → va_P (dC, dI) vwCl (Wd cs L K I20 J20 Q) H → va_S A s.heap H lo → lv_has ls 6 [(0, .ref p0), (1, .int v20_1), (2, .int 19981), (3, .int v20_3)] → W p l e R s m (([.ref p0] : List Value).toArray) below meth c H lo nc20 ns20 Qz (F0 m 20 ls [])) (by
      intro n ih20
      intro L K G Q v20_1 v20_3 I20 J20 nc20 ns20 H lo ls hmu20 hX hQ hD hAL hx0 hm0 hLp0 hKp0 hnc20 bv20_1 bv20_3 hI20 dn_I20 cn_I20 hnz20 hto20 hP hS hl
      refine lv_iload_n hx hb dX6_falls_20 rfl (lv_at hl 3 rfl) ?_
      refine lv_iload_n hx hb dX6_falls_21 rfl (lv_at hl 2 rfl) ?_
      have j114 : ∀ (L : List Nat) (K : Nat → Nat) (G : Nat → Nat) (Q : Nat → Nat → Option Nat) (v114_1 : Int32) (I114 : Nat → Nat → Int32) (J114 : Nat → Nat → Int64) (nc114 : Nat) (ns114 : Nat) (H : Heap) (lo : List Loc) (ls : Array Slot), extW L0 K0 G0 Q0 L K G Q → Sv L K G Q → (∀ F, va_D A (va_pl L F)) → (∀ q, q ∈ L → A q) → x0 ∈ L → m0 ∈ L → p0 ∈ L → K p0 = 6 → (nc114 ≤ 29 ∧ ns114 ≤ 807) → ((0) ≤ v114_1.toInt ∧ v114_1.toInt ≤ 2000000000) → Iv L K x0 m0 tx tm I114 → (∀ b, b ∈ L0 → (K0 b = 7 ∨ K0 b = 18 ∨ K0 b = 19 ∨ K0 b = 20 ∨ K0 b = 24) → I114 b = I b) → cxT Q0 I p0 Q I114 → va_P (dC, dI) vwCl (Wd cs L K I114 J114 Q) H → va_S A s.heap H lo → lv_has ls 6 [(0, .ref p0), (1, .int v114_1), (2, .int 19981), (3, .int v20_3)] → W p l e R s m (([.ref p0] : List Value).toArray) below meth c H lo nc114 ns114 Qz (F0 m 114 ls []) := by
        intro L K G Q v114_1 I114 J114 nc114 ns114 H lo ls hX hQ hD hAL hx0 hm0 hLp0 hKp0 hnc114 bv114_1 hI114 dn_I114 cn_I114 hP hS hl
        refine lv_iload_n hx hb dX6_falls_114 rfl (lv_at hl 1 rfl) ?_
        refine lv_if_ne (tgt := 123) hx hb dX6_falls_115 (by decide) (fun c115 => ?_) (fun c115 => ?_)
        · have t115 := tq_ne (k := v114_1.toInt) (q := (0)) c115 rfl (by decide +kernel)
          refine lv_iload_n hx hb dX6_falls_123 rfl (lv_at hl 1 rfl) ?_
          subst hR; subst hQz
          refine W.widen (k := 29) (n := 807) (by omega) (by omega) ?_
          exact W.iret (v := v114_1) hx hb hr (fun t ht hW => ⟨⟨v114_1, (), rfl, trivial, ⟨L, K, G, Q, I114, J114, hX, hQ, hI114, fun F => (hD F).weaken (fun _ _ _ _ => trivial), fun q h => hAe2 q (hAL q h), by rw [ht]; exact hP, ⟨cn_I114, dn_I114⟩⟩⟩, hS.F ht⟩) hS.2.2 dX6_falls_124
        · have t115 := tq_eq (k := v114_1.toInt) (q := (0)) c115 rfl (by decide +kernel)
          refine lv_bipush (v := (-2)) hx hb dX6_falls_118 (by decide +kernel) ?_
          refine lv_goto (tgt := 124) hx hb dX6_falls_120 (by decide) ?_
          subst hR; subst hQz
          refine W.widen (k := 29) (n := 807) (by omega) (by omega) ?_
          exact W.iret (v := (-2)) hx hb hr (fun t ht hW => ⟨⟨(-2), (), rfl, trivial, ⟨L, K, G, Q, I114, J114, hX, hQ, hI114, fun F => (hD F).weaken (fun _ _ _ _ => trivial), fun q h => hAe2 q (hAL q h), by rw [ht]; exact hP, ⟨cn_I114, dn_I114⟩⟩⟩, hS.F ht⟩) hS.2.2 dX6_falls_124
      refine lv_icmp_ge (tgt := 114) hx hb dX6_falls_22 (by decide) (fun c22 => ?_) (fun c22 => ?_)
      · have t22 := tq_le (k := (19981)) (q := v20_3.toInt) c22 (by decide +kernel) rfl
        exact j114 L K G Q v20_1 I20 J20 nc20 ns20 _ _ _ hX hQ hD hAL hx0 hm0 hLp0 hKp0 ⟨by omega, by omega⟩ ⟨by omega, by omega⟩ hI20 dn_I20 cn_I20 hP hS (lv_sub hl [0, 1, 2, 3] rfl)
      · have t22 := tq_nle (k := (19981)) (q := v20_3.toInt) c22 (by decide +kernel) rfl
        refine lv_iload_n hx hb dX6_falls_25 rfl (lv_at hl 1 rfl) ?_
        refine lv_istore (lv' := [(4, .int v20_1), (0, .ref p0), (1, .int v20_1), (2, .int 19981), (3, .int v20_3)]) hx hb dX6_falls_26 hl (by decide) rfl (fun ls hl => ?_)
        refine lv_iconst (v := 0) hx hb dX6_falls_28 (by decide +kernel) ?_
        refine lv_istore (lv' := [(5, .int 0), (4, .int v20_1), (0, .ref p0), (1, .int v20_1), (2, .int 19981), (3, .int v20_3)]) hx hb dX6_falls_29 hl (by decide) rfl (fun ls hl => ?_)
        have key31 := blocks (fun n => ∀ (L : List Nat) (K : Nat → Nat) (G : Nat → Nat) (Q : Nat → Nat → Option Nat) (v31_1 : Int32) (v31_5 : Int32) (I31 : Nat → Nat → Int32) (J31 : Nat → Nat → Int64) (nc31 : Nat) (ns31 : Nat) (H : Heap) (lo : List Loc) (ls : Array Slot), (11 - v31_5.toInt).toNat = n → extW L0 K0 G0 Q0 L K G Q → Sv L K G Q → (∀ F, va_D A (va_pl L F)) → (∀ q, q ∈ L → A q) → x0 ∈ L → m0 ∈ L → p0 ∈ L → K p0 = 6 → (nc31 ≤ 29 ∧ ns31 ≤ 807) → ((0) ≤ v31_1.toInt ∧ v31_1.toInt ≤ 2000000000) → ((0) ≤ v31_5.toInt ∧ v31_5.toInt ≤ 10) → Iv L K x0 m0 tx tm I31 → (∀ b, b ∈ L0 → (K0 b = 7 ∨ K0 b = 18 ∨ K0 b = 19 ∨ K0 b = 20 ∨ K0 b = 24) → I31 b = I b) → cxT Q0 I p0 Q I31 → (v31_1.toInt = 0 → nc31 = 0 ∧ ns31 = 0) → (0 ≤ v31_1.toInt ∧ v31_1.toInt ≤ 3000 * v20_3.toInt + 300 * v31_5.toInt) → va_P (dC, dI) vwCl (Wd cs L K I31 J31 Q) H → va_S A s.heap H lo → lv_has ls 6 [(0, .ref p0), (1, .int v31_1), (2, .int 19981), (3, .int v20_3), (4, .int v20_1), (5, .int v31_5)] → W p l e R s m (([.ref p0] : List Value).toArray) below meth c H lo nc31 ns31 Qz (F0 m 31 ls [])) (by
          intro n ih31
          intro L K G Q v31_1 v31_5 I31 J31 nc31 ns31 H lo ls hmu31 hX hQ hD hAL hx0 hm0 hLp0 hKp0 hnc31 bv31_1 bv31_5 hI31 dn_I31 cn_I31 hnz31 hto31 hP hS hl
          refine lv_iload hx hb dX6_falls_31 (lv_at hl 5 rfl) ?_
          refine lv_aload_n hx hb dX6_falls_33 rfl (lv_at hl 0 rfl) ?_
          obtain ⟨y34, ey34, hLy34, hKy34, hGy34⟩ := oQ_6_2 (Sv_at hQ hLp0 hKp0)
          refine p_get (v := .ref y34) hx hb hts inX6 hown hK hP hLp0 hKp0 rfl rfl 2 (by decide) (hts _ pq351) (congrArg (fun q => some (va_rf q)) ey34) dX6_falls_34 ?_
          refine p_get hx hb hts inX1 hown hK hP hLy34 hKy34 rfl rfl 3 (by decide) (hts _ pq226) rfl dX6_falls_37 ?_
          refine lv_topi (fun z37 ez37 => ?_)
          have cgz37 := congrArg Int32.toInt ez37
          have bz37 := oI_1_3 (Iv_at hI31 hLy34 hKy34)
          rw [← ez37] at bz37
          refine lv_icmp_ge (tgt := 99) hx hb dX6_falls_40 (by decide) (fun c40 => ?_) (fun c40 => ?_)
          · have t40 := tq_le (k := z37.toInt) (q := v31_5.toInt) c40 rfl rfl
            refine lv_iload_n hx hb dX6_falls_99 rfl (lv_at hl 1 rfl) ?_
            refine lv_iload hx hb dX6_falls_100 (lv_at hl 4 rfl) ?_
            refine lv_icmp_ne (tgt := 108) hx hb dX6_falls_102 (by decide) (fun c102 => ?_) (fun c102 => ?_)
            · have t102 := tq_ne (k := v31_1.toInt) (q := v20_1.toInt) c102 rfl rfl
              obtain ⟨z108, ez108⟩ : ∃ y : Int32, y = v20_3 + 1 := ⟨_, rfl⟩
              refine lv_iinc (v := z108) (lv' := [(3, .int z108), (0, .ref p0), (1, .int v31_1), (2, .int 19981), (4, .int v20_1), (5, .int v31_5)]) hx hb dX6_falls_108 hl (k := 3) rfl (by rw [ez108]; rfl) (by decide) rfl (fun ls hl => ?_)
              have bz108 := tq_add (k := v20_3.toInt) (q := 1) ez108 rfl (by decide +kernel) (by omega) (by omega)
              refine lv_goto (tgt := 20) hx hb dX6_falls_111 (by decide) ?_
              exact ih20 _ (by omega) L K G Q v31_1 z108 I31 J31 nc31 ns31 _ _ _ rfl hX hQ hD hAL hx0 hm0 hLp0 hKp0 ⟨by omega, by omega⟩ ⟨by omega, by omega⟩ ⟨by omega, by omega⟩ hI31 dn_I31 cn_I31 hnz31 ⟨by omega, by omega⟩ hP hS (lv_sub hl [1, 2, 3, 0] rfl)
            · have t102 := tq_eq (k := v31_1.toInt) (q := v20_1.toInt) c102 rfl rfl
              refine lv_goto (tgt := 114) hx hb dX6_falls_105 (by decide) ?_
              exact j114 L K G Q v31_1 I31 J31 nc31 ns31 _ _ _ hX hQ hD hAL hx0 hm0 hLp0 hKp0 ⟨by omega, by omega⟩ ⟨by omega, by omega⟩ hI31 dn_I31 cn_I31 hP hS (lv_sub hl [0, 1, 2, 3] rfl)
          · have t40 := tq_nle (k := z37.toInt) (q := v31_5.toInt) c40 rfl rfl
            refine lv_aload_n hx hb dX6_falls_43 rfl (lv_at hl 0 rfl) ?_
            obtain ⟨y44, ey44, hLy44, hKy44, hGy44⟩ := oQ_6_5 (Sv_at hQ hLp0 hKp0)
            refine p_get (v := .ref y44) hx hb hts inX6 hown hK hP hLp0 hKp0 rfl rfl 5 (by decide) (hts _ pq354) (congrArg (fun q => some (va_rf q)) ey44) dX6_falls_44 ?_
            refine lv_iload hx hb dX6_falls_47 (lv_at hl 5 rfl) ?_
            refine lv_iconst (v := 0) hx hb dX6_falls_49 (by decide +kernel) ?_
            refine lv_sipush (v := 200) hx hb dX6_falls_50 (by decide +kernel) ?_
            refine sw_v (Z := (fun I1 => Iv L K x0 m0 tx tm I1 ∧ (∀ b, ¬ (b = y44) → I1 b = I31 b) ∧ glOK tm.2 Q I1 y44 v31_5)) (va_runV (As := [.int v31_5, .int 0, .int 200]) (rest := []) ⟨hx, hb, hml, hown, hts⟩ (s_X5_tryGlide l dC dI cs L K G Q hQ x0 m0 tx tm H.size I31 J31 hI31 y44 hLy44 hKy44 v31_5 ⟨by omega, by omega⟩ 0 ⟨by decide +kernel, by decide +kernel⟩ 200 ⟨by decide +kernel, by decide +kernel⟩) (cwV 3 hts (gV pq739 pq740 pq741 pq79 pq742) rfl rfl rfl (by decide +kernel) ⟨(by rw [hR]; exact (Nat.le_of_ble_eq_true rfl)), (by rw [hR]; exact (Nat.le_of_ble_eq_true rfl))⟩) (sP_V hP hD hK hN hLy44 hKy44 rfl rfl) rfl rfl hl.1 rfl (lv_room (Nat.le_of_ble_eq_true rfl)) dX6_falls_53 ⟨(by rw [hR]; exact (show nc31 + 0 ≤ 29 by omega)), (by rw [hR]; exact (show ns31 + 0 ≤ 807 by omega))⟩) hS hAL hA (fun Iz53 Jz53 H locs hz53 hIz53 hP hS => ?_)
            obtain ⟨hIz53, frc53, zp53⟩ := hIz53
            have dn_Iz53 : (∀ b, b ∈ L0 → (K0 b = 7 ∨ K0 b = 18 ∨ K0 b = 19 ∨ K0 b = 20 ∨ K0 b = 24) → Iz53 b = I b) := fun b hb hc => (frc53 b (fun z => by have w := (hX b hb).2.1; have q := hKy44; rw [← z] at q; omega)).trans (dn_I31 b hb hc)
            have cn_Iz53 := cxT_fr hQ hLp0 hKp0 cn_I31 (fun b hb => congrFun (frc53 b (ne_k hb hKy44 (by decide))) 3) (congrFun (frc53 p0 (ne_k hKp0 hKy44 (by decide))) 9) (congrFun (frc53 p0 (ne_k hKp0 hKy44 (by decide))) 10)
            refine lv_aload_n hx hb dX6_falls_56 rfl (lv_at hl 0 rfl) ?_
            refine p_get (v := .ref y44) hx hb hts inX6 hown hK hP hLp0 hKp0 rfl rfl 5 (by decide) (hts _ pq354) (congrArg (fun q => some (va_rf q)) ey44) dX6_falls_57 ?_
            refine p_get hx hb hts inX5 hown hK hP hLy44 hKy44 rfl rfl 2 (by decide) (hts _ pq277) rfl dX6_falls_60 ?_
            refine lv_topi (fun z60 ez60 => ?_)
            have bz60 := oI_5_2 (Iv_at hIz53 hLy44 hKy44)
            rw [← ez60] at bz60
            have j93 : ∀ (L : List Nat) (K : Nat → Nat) (G : Nat → Nat) (Q : Nat → Nat → Option Nat) (v93_1 : Int32) (I93 : Nat → Nat → Int32) (J93 : Nat → Nat → Int64) (nc93 : Nat) (ns93 : Nat) (H : Heap) (lo : List Loc) (ls : Array Slot), extW L0 K0 G0 Q0 L K G Q → Sv L K G Q → (∀ F, va_D A (va_pl L F)) → (∀ q, q ∈ L → A q) → x0 ∈ L → m0 ∈ L → p0 ∈ L → K p0 = 6 → (nc93 ≤ 29 ∧ ns93 ≤ 807) → ((0) ≤ v93_1.toInt ∧ v93_1.toInt ≤ 2000000000) → Iv L K x0 m0 tx tm I93 → (∀ b, b ∈ L0 → (K0 b = 7 ∨ K0 b = 18 ∨ K0 b = 19 ∨ K0 b = 20 ∨ K0 b = 24) → I93 b = I b) → cxT Q0 I p0 Q I93 → (v93_1.toInt = 0 → nc93 = 0 ∧ ns93 = 0) → (0 ≤ v93_1.toInt ∧ v93_1.toInt ≤ 3000 * v20_3.toInt + 300 * v31_5.toInt + 300) → va_P (dC, dI) vwCl (Wd cs L K I93 J93 Q) H → va_S A s.heap H lo → lv_has ls 6 [(0, .ref p0), (1, .int v93_1), (2, .int 19981), (3, .int v20_3), (4, .int v20_1), (5, .int v31_5)] → W p l e R s m (([.ref p0] : List Value).toArray) below meth c H lo nc93 ns93 Qz (F0 m 93 ls []) := by
              intro L K G Q v93_1 I93 J93 nc93 ns93 H lo ls hX hQ hD hAL hx0 hm0 hLp0 hKp0 hnc93 bv93_1 hI93 dn_I93 cn_I93 hnz93 hto93 hP hS hl
              obtain ⟨z93, ez93⟩ : ∃ y : Int32, y = v31_5 + 1 := ⟨_, rfl⟩
              refine lv_iinc (v := z93) (lv' := [(5, .int z93), (0, .ref p0), (1, .int v93_1), (2, .int 19981), (3, .int v20_3), (4, .int v20_1)]) hx hb dX6_falls_93 hl (k := 5) rfl (by rw [ez93]; rfl) (by decide) rfl (fun ls hl => ?_)
              have bz93 := tq_add (k := v31_5.toInt) (q := 1) ez93 rfl (by decide +kernel) (by omega) (by omega)
              refine lv_goto (tgt := 31) hx hb dX6_falls_96 (by decide) ?_
              exact ih31 _ (by omega) L K G Q v93_1 z93 I93 J93 nc93 ns93 _ _ _ rfl hX hQ hD hAL hx0 hm0 hLp0 hKp0 ⟨by omega, by omega⟩ ⟨by omega, by omega⟩ ⟨by omega, by omega⟩ hI93 dn_I93 cn_I93 hnz93 ⟨by omega, by omega⟩ hP hS (lv_sub hl [1, 2, 3, 4, 5, 0] rfl)
            refine lv_if_le (tgt := 93) hx hb dX6_falls_63 (by decide) (fun c63 => ?_) (fun c63 => ?_)
            · have t63 := tq_le (k := z60.toInt) (q := (0)) c63 rfl (by decide +kernel)
              exact j93 L K G Q v31_1 Iz53 Jz53 nc31 ns31 _ _ _ hX hQ hD hAL hx0 hm0 hLp0 hKp0 ⟨by omega, by omega⟩ ⟨by omega, by omega⟩ hIz53 dn_Iz53 cn_Iz53 hnz31 ⟨by omega, by omega⟩ hP hS (lv_sub hl [0, 1, 2, 3, 4, 5] rfl)
            · have t63 := tq_nle (k := z60.toInt) (q := (0)) c63 rfl (by decide +kernel)
              refine lv_iload_n hx hb dX6_falls_66 rfl (lv_at hl 1 rfl) ?_
              have j74 : ∀ (L : List Nat) (K : Nat → Nat) (G : Nat → Nat) (Q : Nat → Nat → Option Nat) (I74 : Nat → Nat → Int32) (J74 : Nat → Nat → Int64) (nc74 : Nat) (ns74 : Nat) (H : Heap) (lo : List Loc) (ls : Array Slot), extW L0 K0 G0 Q0 L K G Q → Sv L K G Q → (∀ F, va_D A (va_pl L F)) → (∀ q, q ∈ L → A q) → x0 ∈ L → m0 ∈ L → p0 ∈ L → K p0 = 6 → (nc74 ≤ 29 ∧ ns74 ≤ 807) → Iv L K x0 m0 tx tm I74 → (∀ b, b ∈ L0 → (K0 b = 7 ∨ K0 b = 18 ∨ K0 b = 19 ∨ K0 b = 20 ∨ K0 b = 24) → I74 b = I b) → cxT Q0 I p0 Q I74 → (∀ ys, Q p0 5 = some ys → glOK tm.2 Q I74 ys v31_5 ∧ 0 < (I74 ys 2).toInt) → va_P (dC, dI) vwCl (Wd cs L K I74 J74 Q) H → va_S A s.heap H lo → lv_has ls 6 [(0, .ref p0), (1, .int v31_1), (2, .int 19981), (3, .int v20_3), (4, .int v20_1), (5, .int v31_5)] → W p l e R s m (([.ref p0] : List Value).toArray) below meth c H lo nc74 ns74 Qz (F0 m 74 ls []) := by
                intro L K G Q I74 J74 nc74 ns74 H lo ls hX hQ hD hAL hx0 hm0 hLp0 hKp0 hnc74 hI74 dn_I74 cn_I74 hgl hP hS hl
                refine lv_aload_n hx hb dX6_falls_74 rfl (lv_at hl 0 rfl) ?_
                obtain ⟨y75, ey75, hLy75, hKy75, hGy75⟩ := oQ_6_5 (Sv_at hQ hLp0 hKp0)
                refine p_get (v := .ref y75) hx hb hts inX6 hown hK hP hLp0 hKp0 rfl rfl 5 (by decide) (hts _ pq354) (congrArg (fun q => some (va_rf q)) ey75) dX6_falls_75 ?_
                refine lv_iload hx hb dX6_falls_78 (lv_at hl 5 rfl) ?_
                refine sw_v (Z := (fun I1 => Iv L K x0 m0 tx tm I1 ∧ (∀ b, ¬ (K b = 0) → I1 b = I74 b))) (va_runV (As := [.int v31_5]) (rest := []) ⟨hx, hb, hml, hown, hts⟩ (s_X5_finishGlide l dC dI cs L K G Q hQ x0 m0 tx tm H.size I74 J74 hI74 y75 hLy75 hKy75 v31_5 ⟨by omega, by omega⟩ (hgl y75 ey75).1) (cwV 1 hts (gV pq789 pq790 pq791 pq79 pq792) rfl rfl rfl (by decide +kernel) ⟨(by rw [hR]; exact (Nat.le_of_ble_eq_true rfl)), (by rw [hR]; exact (Nat.le_of_ble_eq_true rfl))⟩) (sP_V hP hD hK hN hLy75 hKy75 rfl rfl) rfl rfl hl.1 rfl (lv_room (Nat.le_of_ble_eq_true rfl)) dX6_falls_80 ⟨(by rw [hR]; exact (show nc74 + 0 ≤ 29 by omega)), (by rw [hR]; exact (show ns74 + 0 ≤ 807 by omega))⟩) hS hAL hA (fun Iz80 Jz80 H locs hz80 hIz80 hP hS => ?_)
                obtain ⟨hIz80, frc80⟩ := hIz80
                have dn_Iz80 : (∀ b, b ∈ L0 → (K0 b = 7 ∨ K0 b = 18 ∨ K0 b = 19 ∨ K0 b = 20 ∨ K0 b = 24) → Iz80 b = I b) := fun b hb hc => (frc80 b (by have w := (hX b hb).2.1; omega)).trans (dn_I74 b hb hc)
                have cn_Iz80 := cxT_fr hQ hLp0 hKp0 cn_I74 (fun b hb => congrFun (frc80 b (by omega)) 3) (congrFun (frc80 p0 (by omega)) 9) (congrFun (frc80 p0 (by omega)) 10)
                refine lv_iload_n hx hb dX6_falls_83 rfl (lv_at hl 1 rfl) ?_
                refine lv_aload_n hx hb dX6_falls_84 rfl (lv_at hl 0 rfl) ?_
                refine p_get (v := .ref y75) hx hb hts inX6 hown hK hP hLp0 hKp0 rfl rfl 5 (by decide) (hts _ pq354) (congrArg (fun q => some (va_rf q)) ey75) dX6_falls_85 ?_
                refine p_get hx hb hts inX5 hown hK hP hLy75 hKy75 rfl rfl 2 (by decide) (hts _ pq277) rfl dX6_falls_88 ?_
                refine lv_topi (fun z88 ez88 => ?_)
                have bz88 := oI_5_2 (Iv_at hIz80 hLy75 hKy75)
                rw [← ez88] at bz88
                have c88 := congrArg Int32.toInt (ez88.trans (congrFun (frc80 y75 (by have := hKy75; omega)) 2))
                have g88 := (hgl y75 ey75).2
                refine lv_iadd hx hb dX6_falls_91 ?_
                refine lv_topi (fun z91 ez91 => ?_)
                have bz91 := tq_add (k := v31_1.toInt) (q := z88.toInt) ez91 rfl rfl (by omega) (by omega)
                refine lv_istore_n (lv' := [(1, .int z91), (0, .ref p0), (2, .int 19981), (3, .int v20_3), (4, .int v20_1), (5, .int v31_5)]) hx hb dX6_falls_92 rfl hl (by decide) rfl (fun ls hl => ?_)
                exact j93 L K G Q z91 Iz80 Jz80 nc74 ns74 _ _ _ hX hQ hD hAL hx0 hm0 hLp0 hKp0 ⟨by omega, by omega⟩ ⟨by omega, by omega⟩ hIz80 dn_Iz80 cn_Iz80 (fun h => absurd h (by omega)) ⟨by omega, by omega⟩ hP hS (lv_sub hl [1, 0, 2, 3, 4, 5] rfl)
              refine lv_if_ne (tgt := 74) hx hb dX6_falls_67 (by decide) (fun c67 => ?_) (fun c67 => ?_)
              · have t67 := tq_ne (k := v31_1.toInt) (q := (0)) c67 rfl (by decide +kernel)
                exact j74 L K G Q Iz53 Jz53 nc31 ns31 _ _ _ hX hQ hD hAL hx0 hm0 hLp0 hKp0 ⟨by omega, by omega⟩ hIz53 dn_Iz53 cn_Iz53 (fun ys e => by obtain rfl : y44 = ys := Option.some.inj (ey44.symm.trans e); exact ⟨zp53, by rw [← ez60]; omega⟩) hP hS (lv_sub hl [0, 1, 2, 3, 4, 5] rfl)
              · have t67 := tq_eq (k := v31_1.toInt) (q := (0)) c67 rfl (by decide +kernel)
                refine lv_aload_n hx hb dX6_falls_70 rfl (lv_at hl 0 rfl) ?_
                obtain ⟨rfl, rfl⟩ : nc31 = 0 ∧ ns31 = 0 := hnz31 t67
                refine sa_v (va_runV (As := []) (rest := []) ⟨hx, hb, hml, hown, hts⟩ (s_X6_remember l dC dI cs L K G Q hQ x0 m0 tx tm hx0 hm0 H.size Iz53 Jz53 hIz53 p0 hLp0 hKp0) (cwV 0 hts (gV pq643 pq645 pq3 pq74 pq646) rfl rfl rfl (by decide +kernel) ⟨(by rw [hR]; exact (Nat.le_of_ble_eq_true rfl)), (by rw [hR]; exact (Nat.le_of_ble_eq_true rfl))⟩) (sP_V hP hD hK hN hLp0 hKp0 rfl rfl) rfl rfl hl.1 rfl (lv_room (Nat.le_of_ble_eq_true rfl)) dX6_falls_71 ⟨(by rw [hR]; exact (Nat.le_of_ble_eq_true rfl)), (by rw [hR]; exact (Nat.le_of_ble_eq_true rfl))⟩) hS hAL hA (fun L K G Q Iz71 Jz71 H locs hz71 hE hQn hIz71 hDn hALn hP zp71 hS => ?_)
                obtain ⟨zp71, cnc71, dnc71⟩ := zp71
                have dn_Iz71 : (∀ b, b ∈ L0 → (K0 b = 7 ∨ K0 b = 18 ∨ K0 b = 19 ∨ K0 b = 20 ∨ K0 b = 24) → Iz71 b = I b) := fun b hb hc => (dnc71 b (hX b hb).1 (by have w := (hX b hb).2.1; omega)).trans (dn_Iz53 b hb hc)
                have gl71 := glOK_al hQ hE zp71 hLy44 hKy44 hGy44 ⟨by omega, by omega⟩ zp53
                have es71 := (congrFun ((hE p0 hLp0).2.2.2 (by rw [hKp0]; decide) (by rw [hKp0]; decide)) 5).trans ey44
                have st71 : 0 < (Iz71 y44 2).toInt := by rw [zp71 y44 hLy44 hGy44 (by rw [hKy44]; decide), ← ez60]; omega
                have hKp0 := (hE p0 hLp0).2.1.trans hKp0
                have hKy44 := (hE y44 hLy44).2.1.trans hKy44
                have hGy44 := (hE y44 hLy44).2.2.1.trans hGy44
                have hLp0 := (hE p0 hLp0).1
                have hLy44 := (hE y44 hLy44).1
                have hx0 := (hE x0 hx0).1
                have hm0 := (hE m0 hm0).1
                have hX := extW_trans hX hE
                have hQ := hQn
                have hD := hDn
                have hAL := hALn
                have cn_Iz71 := cxT_tr cn_Iz53 cnc71
                refine W.widen (k := 29) (n := 807) (Nat.le_of_ble_eq_true rfl) (Nat.le_of_ble_eq_true rfl) ?_
                exact j74 L K G Q Iz71 Jz71 29 807 _ _ _ hX hQ hD hAL hx0 hm0 hLp0 hKp0 ⟨by omega, by omega⟩ hIz71 dn_Iz71 cn_Iz71 (fun ys e => by obtain rfl : y44 = ys := Option.some.inj (es71.symm.trans e); exact ⟨gl71, st71⟩) hP hS (lv_sub hl [0, 1, 2, 3, 4, 5] rfl))
        exact key31 _ L K G Q v20_1 0 I20 J20 nc20 ns20 _ _ _ rfl hX hQ hD hAL hx0 hm0 hLp0 hKp0 ⟨by omega, by omega⟩ ⟨by omega, by omega⟩ ⟨by decide +kernel, by decide +kernel⟩ hI20 dn_I20 cn_I20 hnz20 ⟨by omega, by omega⟩ hP hS (lv_sub hl [2, 3, 4, 5, 1, 0] rfl))
    exact key20 _ L K G Q 0 0 I J 0 0 _ _ _ rfl hX hQ hD hAL hx0 hm0 hLp0 hKp0 ⟨by omega, by omega⟩ ⟨by decide +kernel, by decide +kernel⟩ ⟨by decide +kernel, by decide +kernel⟩ hI dn_I cn_I (fun _ => ⟨rfl, rfl⟩) ⟨by omega, by omega⟩ hP hS (lv_sub hl [3, 2, 1, 0] rfl)
  · have t7 := tq_eq (k := z4.toInt) (q := (0)) c7 rfl (by decide +kernel)
    refine lv_iconst (v := (-1)) hx hb dX6_falls_10 (by decide +kernel) ?_
    subst hR; subst hQz
    refine W.widen (k := 29) (n := 807) (Nat.le_of_ble_eq_true rfl) (Nat.le_of_ble_eq_true rfl) ?_
    exact W.iret (v := (-1)) hx hb hr (fun t ht hW => ⟨⟨(-1), (), rfl, trivial, ⟨L, K, G, Q, I, J, hX, hQ, hI, fun F => (hD F).weaken (fun _ _ _ _ => trivial), fun q h => hAe2 q (hAL q h), by rw [ht]; exact hP, ⟨cn_I, dn_I⟩⟩⟩, hS.F ht⟩) hS.2.2 dX6_falls_11

set_option maxHeartbeats 4000000 in
set_option maxRecDepth 100000 in
theorem s_X6_crop (l : Launch) (dC : Nat → ClassId) (dI : Nat → Nat → Nat) (cs : Nat → ClassId) (L0 : List Nat) (K0 G0 : Nat → Nat) (Q0 : Nat → Nat → Option Nat) (hQ : Sv L0 K0 G0 Q0) (x0 m0 : Nat) (tx : GT) (tm : GT × Int) (hx0 : x0 ∈ L0) (hm0 : m0 ∈ L0) (sz : Nat) (I : Nat → Nat → Int32) (J : Nat → Nat → Int64) (hI : Iv L0 K0 x0 m0 tx tm I) (p0 : Nat) (hLp0 : p0 ∈ L0) (hKp0 : K0 p0 = 6) (p1 : Int32) (hIo : Iv L0 K0 x0 m0 tx (tm.1, tm.2 - 5000) I) : Met l yX6_crop (.code yX6_crop cX6_crop 5 (some .int) :: pw) ({ frames := 5, cells := 29, slots := 807, locals := 131 }) (sP (dC, dI) cs [.ref p0, .int p1] sz L0 K0 I J Q0) (va_Qi (fun (r : Int32) (_ : Unit) => True) (fun _ t => sA (dC, dI) cs L0 K0 G0 Q0 x0 m0 tx tm sz (fun L K G Q I1 => cxT Q0 I p0 Q I1 ∧ (∀ b, b ∈ L0 → (K0 b = 7 ∨ K0 b = 18 ∨ K0 b = 19 ∨ K0 b = 20 ∨ K0 b = 24) → I1 b = I b)) t) (fun q => q ∈ L0 ∨ sz ≤ q)) 29 807 (fun q => q ∈ L0 ∨ sz ≤ q) := by
  refine Met.ofW (cc := cX6_crop) (maxL := 5) (ret := (some .int)) (by decide +kernel) rfl ?_
  intro p e s m args below meth c s₁ B hml hv
  obtain ⟨rfl, hsz, hP, hK, hD0, hN⟩ := hv
  have hx := B.exec
  have hb := B.bytes
  have hr := B.returns
  have hts := fun w (h : w ∈ pw) => atoms_spec (ws := Cond.code yX6_crop cX6_crop 5 (some .int) :: pw) B.pre w (List.mem_cons_of_mem _ h)
  have hown : s.vm.findClass RX6 = some m.cls := findClass_of_methodNamed B.named
  have hlocks := B.notSynchronized
  subst hsz
  have hBB : 999 ≤ tm.2 ∧ tm.2 ≤ 6000000 := hI.2.2.2.2.1
  have dn_I : (∀ b, b ∈ L0 → (K0 b = 7 ∨ K0 b = 18 ∨ K0 b = 19 ∨ K0 b = 20 ∨ K0 b = 24) → I b = I b) := fun _ _ _ => rfl
  obtain ⟨A, hAe⟩ : ∃ A : Nat → Prop, A = (fun q => q ∈ L0 ∨ s.heap.size ≤ q) := ⟨_, rfl⟩
  rw [← hAe]
  have hAL : ∀ q, q ∈ L0 → A q := fun q h => by rw [hAe]; exact Or.inl h
  have hA : ∀ q, s.heap.size ≤ q → A q := fun q h => by rw [hAe]; exact Or.inr h
  have hD : ∀ F, va_D A (va_pl L0 F) := fun F => (hD0 F).weaken (fun k q hk _ => hAL _ (pl_mem hk))
  obtain ⟨H, hHe⟩ : ∃ H : Heap, H = s.heap := ⟨_, rfl⟩
  have hS : va_S A s.heap H [] := by rw [hHe]; exact va_S.rf
  rw [← hHe] at hP
  have hl := lv_entry ([.ref p0, .int p1]) (n := 5) (Nat.le_of_ble_eq_true rfl)
  rw [lg_entry_eq]
  generalize (lg_sl ([.ref p0, .int p1]) ++ List.replicate (5 - (lg_sl ([.ref p0, .int p1])).length) Slot.unset).toArray = ls at hl ⊢
  have hl : lv_has ls 5 [(0, .ref p0), (1, .int p1)] := hl
  rw [← hHe]
  refine namedW (fun R Qz hR hQz => ?_)
  have hAe2 : ∀ q, A q → q ∈ L0 ∨ H.size ≤ q := fun q h => by rw [hHe]; rw [hAe] at h; exact h
  have hQ0 := hQ
  have hK0p0 := hKp0
  have hL0p0 := hLp0
  obtain ⟨L, K, G, Q, hX, hQ, hI, hP, hD, hAL, hx0, hm0, hLp0, hKp0, cn_I⟩ : ∃ L K G Q, extW L0 K0 G0 Q0 L K G Q ∧ Sv L K G Q ∧ Iv L K x0 m0 tx tm I ∧ va_P (dC, dI) vwCl (Wd cs L K I J Q) H ∧ (∀ F, va_D A (va_pl L F)) ∧ (∀ q, q ∈ L → A q) ∧ x0 ∈ L ∧ m0 ∈ L ∧ p0 ∈ L ∧ K p0 = 6 ∧ cxT Q0 I p0 Q I := ⟨L0, K0, G0, Q0, extW_refl, hQ, hI, hP, hD, hAL, hx0, hm0, hLp0, hKp0, cxT_refl⟩
  have cr0 := crB_al hQ0 hX (fun _ _ _ _ => rfl) hL0p0 hK0p0 (crB_init hQ0 hIo hL0p0 hK0p0)
  have nn0 := hIo.2.2.2.2.1
  refine lv_aload_n hx hb dX6_crop_0 rfl (lv_at hl 0 rfl) ?_
  refine lv_iload_n hx hb dX6_crop_1 rfl (lv_at hl 1 rfl) ?_
  refine ro_i (va_runV (As := [.int p1]) (rest := []) ⟨hx, hb, hml, hown, hts⟩ (s_X6_isMask l dC dI cs L K G Q hQ x0 m0 tx tm H.size I J hI p0 hLp0 hKp0 p1) (cwV 1 hts (gV pq666 pq668 pq4 pq74 pq669) rfl rfl rfl (by decide +kernel) ⟨(by rw [hR]; exact (Nat.le_of_ble_eq_true rfl)), (by rw [hR]; exact (Nat.le_of_ble_eq_true rfl))⟩) (sP_V hP hD hK hN hLp0 hKp0 rfl rfl) rfl rfl hl.1 rfl (lv_room (Nat.le_of_ble_eq_true rfl)) dX6_crop_2 ⟨(by rw [hR]; exact (Nat.le_of_ble_eq_true rfl)), (by rw [hR]; exact (Nat.le_of_ble_eq_true rfl))⟩) hS hP (fun z2 H locs hz2 hP hS => ?_)
  obtain ⟨bz2, imz2⟩ := hz2
  refine lv_if_ne (tgt := 10) hx hb dX6_crop_5 (by decide) (fun c5 => ?_) (fun c5 => ?_)
  · have t5 := tq_ne (k := z2.toInt) (q := (0)) c5 rfl (by decide +kernel)
    have i5 := imz2 t5
    refine lv_aload_n hx hb dX6_crop_10 rfl (lv_at hl 0 rfl) ?_
    obtain ⟨y11, ey11, hLy11, hKy11, hGy11⟩ := oQ_6_2 (Sv_at hQ hLp0 hKp0)
    refine p_get (v := .ref y11) hx hb hts inX6 hown hK hP hLp0 hKp0 rfl rfl 2 (by decide) (hts _ pq351) (congrArg (fun q => some (va_rf q)) ey11) dX6_crop_11 ?_
    obtain ⟨y14, ey14, hLy14, hKy14, hGy14⟩ := oQ_1_0 (Sv_at hQ hLy11 hKy11)
    refine p_get (v := .ref y14) hx hb hts inX1 hown hK hP hLy11 hKy11 rfl rfl 0 (by decide) (hts _ pq216) (congrArg (fun q => some (va_rf q)) ey14) dX6_crop_14 ?_
    refine lv_iload_n hx hb dX6_crop_17 rfl (lv_at hl 1 rfl) ?_
    obtain ⟨y18, ey18, hLy18, hKy18, hGy18⟩ := (Sv_at hQ hLy14 hKy14).1 p1.toNatClampNeg (clamp_lt (n := 8) (in_of (by omega) (by omega)))
    refine p_aaldR hx hb hK hP 3 hLy14 hKy14 rfl rfl (in_of (by omega) (by omega)) ey18 dX6_crop_18 ?_
    refine lv_astore_n (lv' := [(2, .ref y18), (0, .ref p0), (1, .int p1)]) hx hb dX6_crop_19 rfl hl (by decide) rfl (fun ls hl => ?_)
    refine lv_aload_n hx hb dX6_crop_20 rfl (lv_at hl 1 rfl) ?_
    obtain ⟨y21, ey21, hLy21, hKy21⟩ := oQ_6_6 (Sv_at hQ hLp0 hKp0)
    refine p_get (v := .ref y21) hx hb hts inX6 hown hK hP hLp0 hKp0 rfl rfl 6 (by decide) (hts _ pq355) (congrArg (fun q => some (va_rf q)) ey21) dX6_crop_21 ?_
    refine lv_aload_n hx hb dX6_crop_24 rfl (lv_at hl 0 rfl) ?_
    refine sw_v (Z := (fun I1 => Iv L K x0 m0 tx tm I1 ∧ (∀ b, ¬ (b = y21) → I1 b = I b))) (va_runV (As := [.ref y18]) (rest := []) ⟨hx, hb, hml, hown, hts⟩ (s_X3_becomeCropped l dC dI cs L K G Q hQ x0 m0 tx tm H.size I J hI y21 hLy21 hKy21 y18 hLy18 hKy18) (cwV 1 hts (gV pq715 pq716 pq717 pq76 pq718) rfl rfl rfl (by decide +kernel) ⟨(by rw [hR]; exact (Nat.le_of_ble_eq_true rfl)), (by rw [hR]; exact (Nat.le_of_ble_eq_true rfl))⟩) (sP_V hP hD hK hN hLy21 hKy21 rfl rfl) rfl rfl hl.1 rfl (lv_room (Nat.le_of_ble_eq_true rfl)) dX6_crop_25 ⟨(by rw [hR]; exact (Nat.le_of_ble_eq_true rfl)), (by rw [hR]; exact (Nat.le_of_ble_eq_true rfl))⟩) hS hAL hA (fun Iz25 Jz25 H locs hz25 hIz25 hP hS => ?_)
    obtain ⟨hIz25, frc25⟩ := hIz25
    have dn_Iz25 : (∀ b, b ∈ L0 → (K0 b = 7 ∨ K0 b = 18 ∨ K0 b = 19 ∨ K0 b = 20 ∨ K0 b = 24) → Iz25 b = I b) := fun b hb hc => (frc25 b (fun z => by have w := (hX b hb).2.1; have q := hKy21; rw [← z] at q; omega)).trans (dn_I b hb hc)
    have cn_Iz25 := cxT_fr hQ hLp0 hKp0 cn_I (fun b hb => congrFun (frc25 b (ne_k hb hKy21 (by decide))) 3) (congrFun (frc25 p0 (ne_k hKp0 hKy21 (by decide))) 9) (congrFun (frc25 p0 (ne_k hKp0 hKy21 (by decide))) 10)
    have cr25 := crB_fr hQ hLp0 hKp0 (fun b hb => frc25 b (fun z => by rw [z, hKy21] at hb; exact absurd hb (by decide))) cr0
    refine lv_aload_n hx hb dX6_crop_28 rfl (lv_at hl 0 rfl) ?_
    refine p_get hx hb hts inX3 hown hK hP hLy18 hKy18 rfl rfl 3 (by decide) (hts _ pq132) rfl dX6_crop_29 ?_
    refine lv_topi (fun z29 ez29 => ?_)
    refine lv_if_eq (tgt := 63) hx hb dX6_crop_32 (by decide) (fun c32 => ?_) (fun c32 => ?_)
    · have t32 := tq_eq (k := z29.toInt) (q := (0)) c32 rfl (by decide +kernel)
      refine lv_bipush (v := (-2)) hx hb dX6_crop_63 (by decide +kernel) ?_
      subst hR; subst hQz
      refine W.widen (k := 29) (n := 807) (Nat.le_of_ble_eq_true rfl) (Nat.le_of_ble_eq_true rfl) ?_
      exact W.iret (v := (-2)) hx hb hr (fun t ht hW => ⟨⟨(-2), (), rfl, trivial, ⟨L, K, G, Q, Iz25, Jz25, hX, hQ, hIz25, fun F => (hD F).weaken (fun _ _ _ _ => trivial), fun q h => hAe2 q (hAL q h), by rw [ht]; exact hP, ⟨cn_Iz25, dn_Iz25⟩⟩⟩, hS.F ht⟩) hS.2.2 dX6_crop_65
    · have t32 := tq_ne (k := z29.toInt) (q := (0)) c32 rfl (by decide +kernel)
      refine lv_aload_n hx hb dX6_crop_35 rfl (lv_at hl 1 rfl) ?_
      refine p_get (v := .ref y21) hx hb hts inX6 hown hK hP hLp0 hKp0 rfl rfl 6 (by decide) (hts _ pq355) (congrArg (fun q => some (va_rf q)) ey21) dX6_crop_36 ?_
      refine p_get hx hb hts inX3 hown hK hP hLy21 hKy21 rfl rfl 0 (by decide) (hts _ pq119) rfl dX6_crop_39 ?_
      refine lv_topi (fun z39 ez39 => ?_)
      have bz39 := oI_3_0 (Iv_at hIz25 hLy21 hKy21)
      rw [← ez39] at bz39
      refine lv_aload_n hx hb dX6_crop_42 rfl (lv_at hl 0 rfl) ?_
      refine p_get hx hb hts inX3 hown hK hP hLy18 hKy18 rfl rfl 0 (by decide) (hts _ pq119) rfl dX6_crop_43 ?_
      refine lv_topi (fun z43 ez43 => ?_)
      have bz43 := oI_3_0 (Iv_at hIz25 hLy18 hKy18)
      rw [← ez43] at bz43
      have j66 : ∀ (H : Heap) (lo : List Loc) (ls : Array Slot), va_P (dC, dI) vwCl (Wd cs L K Iz25 Jz25 Q) H → va_S A s.heap H lo → lv_has ls 5 [(0, .ref p0), (1, .int p1), (2, .ref y18)] → W p l e R s m (([.ref p0, .int p1] : List Value).toArray) below meth c H lo 0 0 Qz (F0 m 66 ls []) := by
        intro H lo ls hP hS hl
        refine lv_iconst (v := 0) hx hb dX6_crop_66 (by decide +kernel) ?_
        refine lv_istore_n (lv' := [(3, .int 0), (0, .ref p0), (1, .int p1), (2, .ref y18)]) hx hb dX6_crop_67 rfl hl (by decide) rfl (fun ls hl => ?_)
        have key68 := blocks (fun n => ∀ (v68_3 : Int32) (H : Heap) (lo : List Loc) (ls : Array Slot), (11 - v68_3.toInt).toNat = n → ((0) ≤ v68_3.toInt ∧ v68_3.toInt ≤ 10) → va_P (dC, dI) vwCl (Wd cs L K Iz25 Jz25 Q) H → va_S A s.heap H lo → lv_has ls 5 [(0, .ref p0), (1, .int p1), (2, .ref y18), (3, .int v68_3)] → W p l e R s m (([.ref p0, .int p1] : List Value).toArray) below meth c H lo 0 0 Qz (F0 m 68 ls [])) (by
          intro n ih68
          intro v68_3 H lo ls hmu68 bv68_3 hP hS hl
          refine lv_iload_n hx hb dX6_crop_68 rfl (lv_at hl 3 rfl) ?_
          refine lv_aload_n hx hb dX6_crop_69 rfl (lv_at hl 0 rfl) ?_
          refine p_get (v := .ref y11) hx hb hts inX6 hown hK hP hLp0 hKp0 rfl rfl 2 (by decide) (hts _ pq351) (congrArg (fun q => some (va_rf q)) ey11) dX6_crop_70 ?_
          refine p_get hx hb hts inX1 hown hK hP hLy11 hKy11 rfl rfl 3 (by decide) (hts _ pq226) rfl dX6_crop_73 ?_
          refine lv_topi (fun z73 ez73 => ?_)
          have cgz73 := congrArg Int32.toInt ez73
          have bz73 := oI_1_3 (Iv_at hIz25 hLy11 hKy11)
          rw [← ez73] at bz73
          refine lv_icmp_ge (tgt := 150) hx hb dX6_crop_76 (by decide) (fun c76 => ?_) (fun c76 => ?_)
          · have t76 := tq_le (k := z73.toInt) (q := v68_3.toInt) c76 rfl rfl
            refine lv_aload_n hx hb dX6_crop_150 rfl (lv_at hl 0 rfl) ?_
            refine sa_v (va_runV (As := []) (rest := []) ⟨hx, hb, hml, hown, hts⟩ (s_X6_remember l dC dI cs L K G Q hQ x0 m0 tx tm hx0 hm0 H.size Iz25 Jz25 hIz25 p0 hLp0 hKp0) (cwV 0 hts (gV pq643 pq645 pq3 pq74 pq646) rfl rfl rfl (by decide +kernel) ⟨(by rw [hR]; exact (Nat.le_of_ble_eq_true rfl)), (by rw [hR]; exact (Nat.le_of_ble_eq_true rfl))⟩) (sP_V hP hD hK hN hLp0 hKp0 rfl rfl) rfl rfl hl.1 rfl (lv_room (Nat.le_of_ble_eq_true rfl)) dX6_crop_151 ⟨(by rw [hR]; exact (Nat.le_of_ble_eq_true rfl)), (by rw [hR]; exact (Nat.le_of_ble_eq_true rfl))⟩) hS hAL hA (fun L K G Q Iz151 Jz151 H locs hz151 hE hQn hIz151 hDn hALn hP zp151 hS => ?_)
            obtain ⟨zp151, cnc151, dnc151⟩ := zp151
            have dn_Iz151 : (∀ b, b ∈ L0 → (K0 b = 7 ∨ K0 b = 18 ∨ K0 b = 19 ∨ K0 b = 20 ∨ K0 b = 24) → Iz151 b = I b) := fun b hb hc => (dnc151 b (hX b hb).1 (by have w := (hX b hb).2.1; omega)).trans (dn_Iz25 b hb hc)
            have cr151 := crB_al hQ hE zp151 hLp0 hKp0 cr25
            have hKp0 := (hE p0 hLp0).2.1.trans hKp0
            have hKy18 := (hE y18 hLy18).2.1.trans hKy18
            have hLp0 := (hE p0 hLp0).1
            have hLy18 := (hE y18 hLy18).1
            have hx0 := (hE x0 hx0).1
            have hm0 := (hE m0 hm0).1
            have hX := extW_trans hX hE
            have hQ := hQn
            have hD := hDn
            have hAL := hALn
            have cn_Iz151 := cxT_tr cn_Iz25 cnc151
            refine W.widen (k := 29) (n := 807) (Nat.le_of_ble_eq_true rfl) (Nat.le_of_ble_eq_true rfl) ?_
            refine lv_iconst (v := 0) hx hb dX6_crop_154 (by decide +kernel) ?_
            refine lv_istore_n (lv' := [(3, .int 0), (0, .ref p0), (1, .int p1), (2, .ref y18)]) hx hb dX6_crop_155 rfl hl (by decide) rfl (fun ls hl => ?_)
            have key156 := blocks (fun n => ∀ (v156_3 : Int32) (I156 : Nat → Nat → Int32) (H : Heap) (lo : List Loc) (ls : Array Slot), (11 - v156_3.toInt).toNat = n → ((0) ≤ v156_3.toInt ∧ v156_3.toInt ≤ 10) → Iv L K x0 m0 tx tm I156 → (∀ b, b ∈ L0 → (K0 b = 7 ∨ K0 b = 18 ∨ K0 b = 19 ∨ K0 b = 20 ∨ K0 b = 24) → I156 b = I b) → cxT Q0 I p0 Q I156 → crB Q I156 p0 (tm.2 - 5000 + 500 * v156_3.toInt) → va_P (dC, dI) vwCl (Wd cs L K I156 Jz151 Q) H → va_S A s.heap H lo → lv_has ls 5 [(0, .ref p0), (1, .int p1), (2, .ref y18), (3, .int v156_3)] → W p l e R s m (([.ref p0, .int p1] : List Value).toArray) below meth c H lo 29 807 Qz (F0 m 156 ls [])) (by
              intro n ih156
              intro v156_3 I156 H lo ls hmu156 bv156_3 hI156 dn_I156 cn_I156 hcr hP hS hl
              refine lv_iload_n hx hb dX6_crop_156 rfl (lv_at hl 3 rfl) ?_
              refine lv_aload_n hx hb dX6_crop_157 rfl (lv_at hl 0 rfl) ?_
              obtain ⟨y158, ey158, hLy158, hKy158, hGy158⟩ := oQ_6_2 (Sv_at hQ hLp0 hKp0)
              refine p_get (v := .ref y158) hx hb hts inX6 hown hK hP hLp0 hKp0 rfl rfl 2 (by decide) (hts _ pq351) (congrArg (fun q => some (va_rf q)) ey158) dX6_crop_158 ?_
              refine p_get hx hb hts inX1 hown hK hP hLy158 hKy158 rfl rfl 3 (by decide) (hts _ pq226) rfl dX6_crop_161 ?_
              refine lv_topi (fun z161 ez161 => ?_)
              have cgz161 := congrArg Int32.toInt ez161
              have bz161 := oI_1_3 (Iv_at hI156 hLy158 hKy158)
              rw [← ez161] at bz161
              refine lv_icmp_ge (tgt := 231) hx hb dX6_crop_164 (by decide) (fun c164 => ?_) (fun c164 => ?_)
              · have t164 := tq_le (k := z161.toInt) (q := v156_3.toInt) c164 rfl rfl
                refine lv_aload_n hx hb dX6_crop_231 rfl (lv_at hl 2 rfl) ?_
                refine lv_aload_n hx hb dX6_crop_232 rfl (lv_at hl 0 rfl) ?_
                obtain ⟨y233, ey233, hLy233, hKy233⟩ := oQ_6_6 (Sv_at hQ hLp0 hKp0)
                refine p_get (v := .ref y233) hx hb hts inX6 hown hK hP hLp0 hKp0 rfl rfl 6 (by decide) (hts _ pq355) (congrArg (fun q => some (va_rf q)) ey233) dX6_crop_233 ?_
                refine sw_v (Z := (fun I1 => Iv L K x0 m0 tx tm I1 ∧ (∀ b, ¬ (b = y18) → I1 b = I156 b))) (va_runV (As := [.ref y233]) (rest := []) ⟨hx, hb, hml, hown, hts⟩ (s_X3_become l dC dI cs L K G Q hQ x0 m0 tx tm H.size I156 Jz151 hI156 y18 hLy18 hKy18 y233 hLy233 hKy233) (cwV 1 hts (gV pq691 pq594 pq595 pq76 pq596) rfl rfl rfl (by decide +kernel) ⟨(by rw [hR]; exact (Nat.le_of_ble_eq_true rfl)), (by rw [hR]; exact (Nat.le_of_ble_eq_true rfl))⟩) (sP_V hP hD hK hN hLy18 hKy18 rfl rfl) rfl rfl hl.1 rfl (lv_room (Nat.le_of_ble_eq_true rfl)) dX6_crop_236 ⟨(by rw [hR]; exact (Nat.le_of_ble_eq_true rfl)), (by rw [hR]; exact (Nat.le_of_ble_eq_true rfl))⟩) hS hAL hA (fun Iz236 Jz236 H locs hz236 hIz236 hP hS => ?_)
                obtain ⟨hIz236, frc236⟩ := hIz236
                have dn_Iz236 : (∀ b, b ∈ L0 → (K0 b = 7 ∨ K0 b = 18 ∨ K0 b = 19 ∨ K0 b = 20 ∨ K0 b = 24) → Iz236 b = I b) := fun b hb hc => (frc236 b (fun z => by have w := (hX b hb).2.1; have q := hKy18; rw [← z] at q; omega)).trans (dn_I156 b hb hc)
                have cn_Iz236 := cxT_fr hQ hLp0 hKp0 cn_I156 (fun b hb => congrFun (frc236 b (ne_k hb hKy18 (by decide))) 3) (congrFun (frc236 p0 (ne_k hKp0 hKy18 (by decide))) 9) (congrFun (frc236 p0 (ne_k hKp0 hKy18 (by decide))) 10)
                refine lv_aload_n hx hb dX6_crop_239 rfl (lv_at hl 0 rfl) ?_
                obtain ⟨y240, ey240, hLy240, hKy240, hGy240⟩ := oQ_6_5 (Sv_at hQ hLp0 hKp0)
                refine p_get (v := .ref y240) hx hb hts inX6 hown hK hP hLp0 hKp0 rfl rfl 5 (by decide) (hts _ pq354) (congrArg (fun q => some (va_rf q)) ey240) dX6_crop_240 ?_
                refine sw_v (Z := (fun I1 => Iv L K x0 m0 tx tm I1 ∧ (∀ b, ¬ (K b = 3) → I1 b = Iz236 b))) (va_runV (As := []) (rest := []) ⟨hx, hb, hml, hown, hts⟩ (s_X5_redraw l dC dI cs L K G Q hQ x0 m0 tx tm H.size Iz236 Jz236 hIz236 y240 hLy240 hKy240) (cwV 0 hts (gV pq604 pq605 pq606 pq79 pq607) rfl rfl rfl (by decide +kernel) ⟨(by rw [hR]; exact (Nat.le_of_ble_eq_true rfl)), (by rw [hR]; exact (Nat.le_of_ble_eq_true rfl))⟩) (sP_V hP hD hK hN hLy240 hKy240 rfl rfl) rfl rfl hl.1 rfl (lv_room (Nat.le_of_ble_eq_true rfl)) dX6_crop_243 ⟨(by rw [hR]; exact (Nat.le_of_ble_eq_true rfl)), (by rw [hR]; exact (Nat.le_of_ble_eq_true rfl))⟩) hS hAL hA (fun Iz243 Jz243 H locs hz243 hIz243 hP hS => ?_)
                obtain ⟨hIz243, frc243⟩ := hIz243
                have dn_Iz243 : (∀ b, b ∈ L0 → (K0 b = 7 ∨ K0 b = 18 ∨ K0 b = 19 ∨ K0 b = 20 ∨ K0 b = 24) → Iz243 b = I b) := fun b hb hc => (frc243 b (by have w := (hX b hb).2.1; omega)).trans (dn_Iz236 b hb hc)
                have cn_Iz243 := cxT_fr hQ hLp0 hKp0 cn_Iz236 (fun b hb => congrFun (frc243 b (by omega)) 3) (congrFun (frc243 p0 (by omega)) 9) (congrFun (frc243 p0 (by omega)) 10)
                refine lv_aload_n hx hb dX6_crop_246 rfl (lv_at hl 2 rfl) ?_
                refine p_get hx hb hts inX3 hown hK hP hLy18 hKy18 rfl rfl 0 (by decide) (hts _ pq119) rfl dX6_crop_247 ?_
                refine lv_topi (fun z247 ez247 => ?_)
                have bz247 := oI_3_0 (Iv_at hIz243 hLy18 hKy18)
                rw [← ez247] at bz247
                refine lv_aload_n hx hb dX6_crop_250 rfl (lv_at hl 2 rfl) ?_
                refine p_get hx hb hts inX3 hown hK hP hLy18 hKy18 rfl rfl 1 (by decide) (hts _ pq123) rfl dX6_crop_251 ?_
                refine lv_topi (fun z251 ez251 => ?_)
                have bz251 := oI_3_1 (Iv_at hIz243 hLy18 hKy18)
                rw [← ez251] at bz251
                refine lv_imul hx hb dX6_crop_254 ?_
                refine lv_topi (fun z254 ez254 => ?_)
                subst hR; subst hQz
                exact W.iret (v := z254) hx hb hr (fun t ht hW => ⟨⟨z254, (), rfl, trivial, ⟨L, K, G, Q, Iz243, Jz243, hX, hQ, hIz243, fun F => (hD F).weaken (fun _ _ _ _ => trivial), fun q h => hAe2 q (hAL q h), by rw [ht]; exact hP, ⟨cn_Iz243, dn_Iz243⟩⟩⟩, hS.F ht⟩) hS.2.2 dX6_crop_255
              · have t164 := tq_nle (k := z161.toInt) (q := v156_3.toInt) c164 rfl rfl
                refine lv_aload_n hx hb dX6_crop_167 rfl (lv_at hl 0 rfl) ?_
                refine p_get (v := .ref y158) hx hb hts inX6 hown hK hP hLp0 hKp0 rfl rfl 2 (by decide) (hts _ pq351) (congrArg (fun q => some (va_rf q)) ey158) dX6_crop_168 ?_
                obtain ⟨y171, ey171, hLy171, hKy171, hGy171⟩ := oQ_1_1 (Sv_at hQ hLy158 hKy158)
                refine p_get (v := .ref y171) hx hb hts inX1 hown hK hP hLy158 hKy158 rfl rfl 1 (by decide) (hts _ pq219) (congrArg (fun q => some (va_rf q)) ey171) dX6_crop_171 ?_
                refine lv_iload_n hx hb dX6_crop_174 rfl (lv_at hl 3 rfl) ?_
                obtain ⟨y175, ey175, hLy175, hKy175, hGy175⟩ := (Sv_at hQ hLy171 hKy171).1 v156_3.toNatClampNeg (clamp_lt (n := 10) (in_of (by omega) (by omega)))
                refine p_aaldR hx hb hK hP 4 hLy171 hKy171 rfl rfl (in_of (by omega) (by omega)) ey175 dX6_crop_175 ?_
                refine lv_astore (lv' := [(4, .ref y175), (0, .ref p0), (1, .int p1), (2, .ref y18), (3, .int v156_3)]) hx hb dX6_crop_176 hl (by decide) rfl (fun ls hl => ?_)
                refine lv_aload hx hb dX6_crop_178 (lv_at hl 0 rfl) ?_
                refine p_get hx hb hts inX0 hown hK hP hLy175 hKy175 rfl rfl 0 (by decide) (hts _ pq171) rfl dX6_crop_180 ?_
                refine lv_topi (fun z180 ez180 => ?_)
                have bz180 := oI_0_0 (Iv_at hI156 hLy175 hKy175)
                rw [← ez180] at bz180
                refine lv_iload_n hx hb dX6_crop_183 rfl (lv_at hl 2 rfl) ?_
                have j225 : ∀ (I225 : Nat → Nat → Int32) (H : Heap) (lo : List Loc) (ls : Array Slot), Iv L K x0 m0 tx tm I225 → (∀ b, b ∈ L0 → (K0 b = 7 ∨ K0 b = 18 ∨ K0 b = 19 ∨ K0 b = 20 ∨ K0 b = 24) → I225 b = I b) → cxT Q0 I p0 Q I225 → crB Q I225 p0 (tm.2 - 5000 + 500 * (v156_3.toInt + 1)) → va_P (dC, dI) vwCl (Wd cs L K I225 Jz151 Q) H → va_S A s.heap H lo → lv_has ls 5 [(0, .ref p0), (1, .int p1), (2, .ref y18), (3, .int v156_3), (4, .ref y175)] → W p l e R s m (([.ref p0, .int p1] : List Value).toArray) below meth c H lo 29 807 Qz (F0 m 225 ls []) := by
                  intro I225 H lo ls hI225 dn_I225 cn_I225 hcr225 hP hS hl
                  obtain ⟨z225, ez225⟩ : ∃ y : Int32, y = v156_3 + 1 := ⟨_, rfl⟩
                  refine lv_iinc (v := z225) (lv' := [(3, .int z225), (0, .ref p0), (1, .int p1), (2, .ref y18), (4, .ref y175)]) hx hb dX6_crop_225 hl (k := 3) rfl (by rw [ez225]; rfl) (by decide) rfl (fun ls hl => ?_)
                  have bz225 := tq_add (k := v156_3.toInt) (q := 1) ez225 rfl (by decide +kernel) (by omega) (by omega)
                  refine lv_goto (tgt := 156) hx hb dX6_crop_228 (by decide) ?_
                  exact ih156 _ (by omega) z225 I225 _ _ _ rfl ⟨by omega, by omega⟩ hI225 dn_I225 cn_I225 (by rw [bz225]; exact hcr225) hP hS (lv_sub hl [1, 2, 3, 0] rfl)
                refine lv_icmp_ne (tgt := 225) hx hb dX6_crop_184 (by decide) (fun c184 => ?_) (fun c184 => ?_)
                · have t184 := tq_ne (k := z180.toInt) (q := p1.toInt) c184 rfl rfl
                  exact j225 I156 _ _ _ hI156 dn_I156 cn_I156 (crB_mono hcr (by omega)) hP hS (lv_sub hl [1, 2, 3, 4, 0] rfl)
                · have t184 := tq_eq (k := z180.toInt) (q := p1.toInt) c184 rfl rfl
                  have hr := hcr y158 y171 y175 v156_3.toNatClampNeg ey158 ey171 (by show v156_3.toInt.toNat < 10; omega) ey175
                  have nn1 := hIo.2.2.2.2.1
                  dsimp only at nn1
                  refine lv_aload hx hb dX6_crop_187 (lv_at hl 0 rfl) ?_
                  refine lv_dup hx hb dX6_crop_189 rfl ?_
                  refine p_get hx hb hts inX0 hown hK hP hLy175 hKy175 rfl rfl 1 (by decide) (hts _ pq174) rfl dX6_crop_190 ?_
                  refine lv_topi (fun z190 ez190 => ?_)
                  have cgz190 := congrArg Int32.toInt ez190
                  have bz190 := oI_0_1 (Iv_at hI156 hLy175 hKy175)
                  rw [← ez190] at bz190
                  refine lv_aload_n hx hb dX6_crop_193 rfl (lv_at hl 3 rfl) ?_
                  refine lv_aload hx hb dX6_crop_194 (lv_at hl 0 rfl) ?_
                  refine p_get hx hb hts inX0 hown hK hP hLy175 hKy175 rfl rfl 3 (by decide) (hts _ pq180) rfl dX6_crop_196 ?_
                  refine lv_topi (fun z196 ez196 => ?_)
                  have bz196 := oI_0_3 (Iv_at hI156 hLy175 hKy175)
                  rw [← ez196] at bz196
                  refine ro_i (va_runS (As := [.ref y18, .int z196]) (rest := [.int z190, .ref y175]) ⟨hx, hb, hml, hown, hts⟩ (s_X6_cutLeft l dC dI cs L K G Q hQ x0 m0 tx tm H.size I156 Jz151 hI156 y18 hLy18 hKy18 z196) (va_cwS 2 hts (gS pq719 pq720 pq74 pq721) rfl rfl rfl (by decide +kernel) ⟨(by rw [hR]; exact (Nat.le_of_ble_eq_true rfl)), (by rw [hR]; exact (Nat.le_of_ble_eq_true rfl))⟩) (sP_S hP hD hK hN) rfl rfl hl.1 rfl (lv_room (Nat.le_of_ble_eq_true rfl)) dX6_crop_199 ⟨(by rw [hR]; exact (Nat.le_of_ble_eq_true rfl)), (by rw [hR]; exact (Nat.le_of_ble_eq_true rfl))⟩) hS hP (fun z199 H locs hz199 hP hS => ?_)
                  have bz199 := hz199
                  refine lv_iadd hx hb dX6_crop_202 ?_
                  refine lv_topi (fun z202 ez202 => ?_)
                  have bz202 := tq_add (k := z190.toInt) (q := z199.toInt) ez202 rfl rfl (by omega) (by omega)
                  refine p_put hx hb hts inX0 tyX0 tyX0_ok nmX0 hown hK hP hD hS hLy175 hKy175 rfl rfl 1 (by decide) (hts _ pq174) rfl (by decide +kernel) (Nat.le_of_ble_eq_true rfl) (oS_0_1 cs _ _ _ _) dX6_crop_203 (fun H locs hP hS => ?_)
                  obtain ⟨Iz203, hP, hIz203, qIz203⟩ : ∃ Iz203, va_P (dC, dI) vwCl (Wd cs L K Iz203 Jz151 Q) H ∧ Iv L K x0 m0 tx tm Iz203 ∧ Iz203 = va_up I156 y175 (upd (I156 y175) 1 z202) := ⟨_, hP, Iv_put hI156 hKy175 (oP_0_1 (Iv_at hI156 hLy175 hKy175) ⟨by omega, by omega⟩) (by decide) (by decide), rfl⟩
                  have dn_Iz203 : (∀ b, b ∈ L0 → (K0 b = 7 ∨ K0 b = 18 ∨ K0 b = 19 ∨ K0 b = 20 ∨ K0 b = 24) → Iz203 b = I b) := fun b hb hc => (congrFun qIz203 b).trans ((va_up_ne _ _ (fun z => by have q := hKy175; rw [← z, (hX b hb).2.1] at q; omega)).trans (dn_I156 b hb hc))
                  have cn_Iz203 := cxT_put hQ hLp0 hKp0 cn_I156 qIz203 hKy175 (by decide)
                  refine lv_aload hx hb dX6_crop_206 (lv_at hl 0 rfl) ?_
                  refine lv_dup hx hb dX6_crop_208 rfl ?_
                  refine p_get hx hb hts inX0 hown hK hP hLy175 hKy175 rfl rfl 2 (by decide) (hts _ pq177) rfl dX6_crop_209 ?_
                  refine lv_topi (fun z209 ez209 => ?_)
                  have cgz209 := congrArg Int32.toInt ez209
                  have bz209 := oI_0_2 (Iv_at hIz203 hLy175 hKy175)
                  rw [← ez209] at bz209
                  have c209 := congrArg Int32.toInt (ez209.trans (show Iz203 y175 2 = I156 y175 2 by rw [qIz203, rz_fr _ _ _ _ (by decide)]))
                  refine lv_aload_n hx hb dX6_crop_212 rfl (lv_at hl 3 rfl) ?_
                  refine lv_aload hx hb dX6_crop_213 (lv_at hl 0 rfl) ?_
                  refine p_get hx hb hts inX0 hown hK hP hLy175 hKy175 rfl rfl 3 (by decide) (hts _ pq180) rfl dX6_crop_215 ?_
                  refine lv_topi (fun z215 ez215 => ?_)
                  obtain rfl : z196 = z215 := by rw [ez215, qIz203, rz_fr _ _ _ _ (by decide)]; exact ez196
                  have ez196x215 := ez215
                  refine ro_i (va_runS (As := [.ref y18, .int z196]) (rest := [.int z209, .ref y175]) ⟨hx, hb, hml, hown, hts⟩ (s_X6_cutAbove l dC dI cs L K G Q hQ x0 m0 tx tm H.size Iz203 Jz151 hIz203 y18 hLy18 hKy18 z196) (va_cwS 2 hts (gS pq722 pq723 pq74 pq724) rfl rfl rfl (by decide +kernel) ⟨(by rw [hR]; exact (Nat.le_of_ble_eq_true rfl)), (by rw [hR]; exact (Nat.le_of_ble_eq_true rfl))⟩) (sP_S hP hD hK hN) rfl rfl hl.1 rfl (lv_room (Nat.le_of_ble_eq_true rfl)) dX6_crop_218 ⟨(by rw [hR]; exact (Nat.le_of_ble_eq_true rfl)), (by rw [hR]; exact (Nat.le_of_ble_eq_true rfl))⟩) hS hP (fun z218 H locs hz218 hP hS => ?_)
                  have bz218 := hz218
                  refine lv_iadd hx hb dX6_crop_221 ?_
                  refine lv_topi (fun z221 ez221 => ?_)
                  have bz221 := tq_add (k := z209.toInt) (q := z218.toInt) ez221 rfl rfl (by omega) (by omega)
                  refine p_put hx hb hts inX0 tyX0 tyX0_ok nmX0 hown hK hP hD hS hLy175 hKy175 rfl rfl 2 (by decide) (hts _ pq177) rfl (by decide +kernel) (Nat.le_of_ble_eq_true rfl) (oS_0_2 cs _ _ _ _) dX6_crop_222 (fun H locs hP hS => ?_)
                  obtain ⟨Iz222, hP, hIz222, qIz222⟩ : ∃ Iz222, va_P (dC, dI) vwCl (Wd cs L K Iz222 Jz151 Q) H ∧ Iv L K x0 m0 tx tm Iz222 ∧ Iz222 = va_up Iz203 y175 (upd (Iz203 y175) 2 z221) := ⟨_, hP, Iv_put hIz203 hKy175 (oP_0_2 (Iv_at hIz203 hLy175 hKy175) ⟨by omega, by omega⟩) (by decide) (by decide), rfl⟩
                  have dn_Iz222 : (∀ b, b ∈ L0 → (K0 b = 7 ∨ K0 b = 18 ∨ K0 b = 19 ∨ K0 b = 20 ∨ K0 b = 24) → Iz222 b = I b) := fun b hb hc => (congrFun qIz222 b).trans ((va_up_ne _ _ (fun z => by have q := hKy175; rw [← z, (hX b hb).2.1] at q; omega)).trans (dn_Iz203 b hb hc))
                  have cn_Iz222 := cxT_put hQ hLp0 hKp0 cn_Iz203 qIz222 hKy175 (by decide)
                  exact j225 Iz222 _ _ _ hIz222 dn_Iz222 cn_Iz222 (crB_step (y := y175) hcr (by omega) (fun b q => by rw [qIz222, va_up_ne _ _ q, qIz203, va_up_ne _ _ q]) (by rw [qIz222, rz_fr _ _ _ _ (by decide), qIz203, rz_at]; omega) (by rw [qIz222, rz_at]; omega)) hP hS (lv_sub hl [1, 2, 3, 4, 0] rfl))
            exact key156 _ 0 Iz151 _ _ _ rfl ⟨by decide +kernel, by decide +kernel⟩ hIz151 dn_Iz151 cn_Iz151 (by rw [show (0 : Int32).toInt = 0 from by decide +kernel]; simpa using cr151) hP hS (lv_sub hl [1, 2, 3, 0] rfl)
          · have t76 := tq_nle (k := z73.toInt) (q := v68_3.toInt) c76 rfl rfl
            refine lv_aload_n hx hb dX6_crop_79 rfl (lv_at hl 0 rfl) ?_
            refine p_get (v := .ref y11) hx hb hts inX6 hown hK hP hLp0 hKp0 rfl rfl 2 (by decide) (hts _ pq351) (congrArg (fun q => some (va_rf q)) ey11) dX6_crop_80 ?_
            obtain ⟨y83, ey83, hLy83, hKy83, hGy83⟩ := oQ_1_1 (Sv_at hQ hLy11 hKy11)
            refine p_get (v := .ref y83) hx hb hts inX1 hown hK hP hLy11 hKy11 rfl rfl 1 (by decide) (hts _ pq219) (congrArg (fun q => some (va_rf q)) ey83) dX6_crop_83 ?_
            refine lv_iload_n hx hb dX6_crop_86 rfl (lv_at hl 3 rfl) ?_
            obtain ⟨y87, ey87, hLy87, hKy87, hGy87⟩ := (Sv_at hQ hLy83 hKy83).1 v68_3.toNatClampNeg (clamp_lt (n := 10) (in_of (by omega) (by omega)))
            refine p_aaldR hx hb hK hP 4 hLy83 hKy83 rfl rfl (in_of (by omega) (by omega)) ey87 dX6_crop_87 ?_
            refine lv_astore (lv' := [(4, .ref y87), (0, .ref p0), (1, .int p1), (2, .ref y18), (3, .int v68_3)]) hx hb dX6_crop_88 hl (by decide) rfl (fun ls hl => ?_)
            refine lv_aload hx hb dX6_crop_90 (lv_at hl 0 rfl) ?_
            refine p_get hx hb hts inX0 hown hK hP hLy87 hKy87 rfl rfl 0 (by decide) (hts _ pq171) rfl dX6_crop_92 ?_
            refine lv_topi (fun z92 ez92 => ?_)
            have bz92 := oI_0_0 (Iv_at hIz25 hLy87 hKy87)
            rw [← ez92] at bz92
            refine lv_iload_n hx hb dX6_crop_95 rfl (lv_at hl 2 rfl) ?_
            have j144 : ∀ (H : Heap) (lo : List Loc) (ls : Array Slot), va_P (dC, dI) vwCl (Wd cs L K Iz25 Jz25 Q) H → va_S A s.heap H lo → lv_has ls 5 [(0, .ref p0), (1, .int p1), (2, .ref y18), (3, .int v68_3), (4, .ref y87)] → W p l e R s m (([.ref p0, .int p1] : List Value).toArray) below meth c H lo 0 0 Qz (F0 m 144 ls []) := by
              intro H lo ls hP hS hl
              obtain ⟨z144, ez144⟩ : ∃ y : Int32, y = v68_3 + 1 := ⟨_, rfl⟩
              refine lv_iinc (v := z144) (lv' := [(3, .int z144), (0, .ref p0), (1, .int p1), (2, .ref y18), (4, .ref y87)]) hx hb dX6_crop_144 hl (k := 3) rfl (by rw [ez144]; rfl) (by decide) rfl (fun ls hl => ?_)
              have bz144 := tq_add (k := v68_3.toInt) (q := 1) ez144 rfl (by decide +kernel) (by omega) (by omega)
              refine lv_goto (tgt := 68) hx hb dX6_crop_147 (by decide) ?_
              exact ih68 _ (by omega) z144 _ _ _ rfl ⟨by omega, by omega⟩ hP hS (lv_sub hl [1, 2, 3, 0] rfl)
            refine lv_icmp_ne (tgt := 144) hx hb dX6_crop_96 (by decide) (fun c96 => ?_) (fun c96 => ?_)
            · have t96 := tq_ne (k := z92.toInt) (q := p1.toInt) c96 rfl rfl
              exact j144  _ _ _ hP hS (lv_sub hl [1, 2, 3, 4, 0] rfl)
            · have t96 := tq_eq (k := z92.toInt) (q := p1.toInt) c96 rfl rfl
              refine lv_aload hx hb dX6_crop_99 (lv_at hl 0 rfl) ?_
              refine p_get hx hb hts inX0 hown hK hP hLy87 hKy87 rfl rfl 1 (by decide) (hts _ pq174) rfl dX6_crop_101 ?_
              refine lv_topi (fun z101 ez101 => ?_)
              have cgz101 := congrArg Int32.toInt ez101
              have bz101 := oI_0_1 (Iv_at hIz25 hLy87 hKy87)
              rw [← ez101] at bz101
              refine lv_aload_n hx hb dX6_crop_104 rfl (lv_at hl 3 rfl) ?_
              refine lv_aload hx hb dX6_crop_105 (lv_at hl 0 rfl) ?_
              refine p_get hx hb hts inX0 hown hK hP hLy87 hKy87 rfl rfl 3 (by decide) (hts _ pq180) rfl dX6_crop_107 ?_
              refine lv_topi (fun z107 ez107 => ?_)
              have bz107 := oI_0_3 (Iv_at hIz25 hLy87 hKy87)
              rw [← ez107] at bz107
              refine ro_i (va_runS (As := [.ref y18, .int z107]) (rest := [.int z101]) ⟨hx, hb, hml, hown, hts⟩ (s_X6_cutLeft l dC dI cs L K G Q hQ x0 m0 tx tm H.size Iz25 Jz25 hIz25 y18 hLy18 hKy18 z107) (va_cwS 2 hts (gS pq719 pq720 pq74 pq721) rfl rfl rfl (by decide +kernel) ⟨(by rw [hR]; exact (Nat.le_of_ble_eq_true rfl)), (by rw [hR]; exact (Nat.le_of_ble_eq_true rfl))⟩) (sP_S hP hD hK hN) rfl rfl hl.1 rfl (lv_room (Nat.le_of_ble_eq_true rfl)) dX6_crop_110 ⟨(by rw [hR]; exact (Nat.le_of_ble_eq_true rfl)), (by rw [hR]; exact (Nat.le_of_ble_eq_true rfl))⟩) hS hP (fun z110 H locs hz110 hP hS => ?_)
              have bz110 := hz110
              refine lv_iadd hx hb dX6_crop_113 ?_
              refine lv_topi (fun z113 ez113 => ?_)
              have bz113 := tq_add (k := z101.toInt) (q := z110.toInt) ez113 rfl rfl (by omega) (by omega)
              refine lv_sipush (v := 999) hx hb dX6_crop_114 (by decide +kernel) ?_
              refine lv_icmp_gt (tgt := 141) hx hb dX6_crop_117 (by decide) (fun c117 => ?_) (fun c117 => ?_)
              · have t117 := tq_lt (k := (999)) (q := z113.toInt) c117 (by decide +kernel) rfl
                refine lv_bipush (v := (-3)) hx hb dX6_crop_141 (by decide +kernel) ?_
                subst hR; subst hQz
                refine W.widen (k := 29) (n := 807) (Nat.le_of_ble_eq_true rfl) (Nat.le_of_ble_eq_true rfl) ?_
                exact W.iret (v := (-3)) hx hb hr (fun t ht hW => ⟨⟨(-3), (), rfl, trivial, ⟨L, K, G, Q, Iz25, Jz25, hX, hQ, hIz25, fun F => (hD F).weaken (fun _ _ _ _ => trivial), fun q h => hAe2 q (hAL q h), by rw [ht]; exact hP, ⟨cn_Iz25, dn_Iz25⟩⟩⟩, hS.F ht⟩) hS.2.2 dX6_crop_143
              · have t117 := tq_nlt (k := (999)) (q := z113.toInt) c117 (by decide +kernel) rfl
                refine lv_aload hx hb dX6_crop_120 (lv_at hl 0 rfl) ?_
                refine p_get hx hb hts inX0 hown hK hP hLy87 hKy87 rfl rfl 2 (by decide) (hts _ pq177) rfl dX6_crop_122 ?_
                refine lv_topi (fun z122 ez122 => ?_)
                have cgz122 := congrArg Int32.toInt ez122
                have bz122 := oI_0_2 (Iv_at hIz25 hLy87 hKy87)
                rw [← ez122] at bz122
                refine lv_aload_n hx hb dX6_crop_125 rfl (lv_at hl 3 rfl) ?_
                refine lv_aload hx hb dX6_crop_126 (lv_at hl 0 rfl) ?_
                refine p_get hx hb hts inX0 hown hK hP hLy87 hKy87 rfl rfl 3 (by decide) (hts _ pq180) rfl dX6_crop_128 ?_
                refine lv_topi (fun z128 ez128 => ?_)
                obtain rfl : z107 = z128 := ez107.trans ez128.symm
                refine ro_i (va_runS (As := [.ref y18, .int z107]) (rest := [.int z122]) ⟨hx, hb, hml, hown, hts⟩ (s_X6_cutAbove l dC dI cs L K G Q hQ x0 m0 tx tm H.size Iz25 Jz25 hIz25 y18 hLy18 hKy18 z107) (va_cwS 2 hts (gS pq722 pq723 pq74 pq724) rfl rfl rfl (by decide +kernel) ⟨(by rw [hR]; exact (Nat.le_of_ble_eq_true rfl)), (by rw [hR]; exact (Nat.le_of_ble_eq_true rfl))⟩) (sP_S hP hD hK hN) rfl rfl hl.1 rfl (lv_room (Nat.le_of_ble_eq_true rfl)) dX6_crop_131 ⟨(by rw [hR]; exact (Nat.le_of_ble_eq_true rfl)), (by rw [hR]; exact (Nat.le_of_ble_eq_true rfl))⟩) hS hP (fun z131 H locs hz131 hP hS => ?_)
                have bz131 := hz131
                refine lv_iadd hx hb dX6_crop_134 ?_
                refine lv_topi (fun z134 ez134 => ?_)
                have bz134 := tq_add (k := z122.toInt) (q := z131.toInt) ez134 rfl rfl (by omega) (by omega)
                refine lv_sipush (v := 999) hx hb dX6_crop_135 (by decide +kernel) ?_
                refine lv_icmp_le (tgt := 144) hx hb dX6_crop_138 (by decide) (fun c138 => ?_) (fun c138 => ?_)
                · have t138 := tq_le (k := z134.toInt) (q := (999)) c138 rfl (by decide +kernel)
                  exact j144  _ _ _ hP hS (lv_sub hl [1, 2, 3, 4, 0] rfl)
                · have t138 := tq_nle (k := z134.toInt) (q := (999)) c138 rfl (by decide +kernel)
                  refine lv_bipush (v := (-3)) hx hb dX6_crop_141 (by decide +kernel) ?_
                  subst hR; subst hQz
                  refine W.widen (k := 29) (n := 807) (Nat.le_of_ble_eq_true rfl) (Nat.le_of_ble_eq_true rfl) ?_
                  exact W.iret (v := (-3)) hx hb hr (fun t ht hW => ⟨⟨(-3), (), rfl, trivial, ⟨L, K, G, Q, Iz25, Jz25, hX, hQ, hIz25, fun F => (hD F).weaken (fun _ _ _ _ => trivial), fun q h => hAe2 q (hAL q h), by rw [ht]; exact hP, ⟨cn_Iz25, dn_Iz25⟩⟩⟩, hS.F ht⟩) hS.2.2 dX6_crop_143)
        exact key68 _ 0 _ _ _ rfl ⟨by decide +kernel, by decide +kernel⟩ hP hS (lv_sub hl [1, 2, 3, 0] rfl)
      refine lv_icmp_ne (tgt := 66) hx hb dX6_crop_46 (by decide) (fun c46 => ?_) (fun c46 => ?_)
      · have t46 := tq_ne (k := z39.toInt) (q := z43.toInt) c46 rfl rfl
        exact j66  _ _ _ hP hS (lv_sub hl [1, 2, 0] rfl)
      · have t46 := tq_eq (k := z39.toInt) (q := z43.toInt) c46 rfl rfl
        refine lv_aload_n hx hb dX6_crop_49 rfl (lv_at hl 1 rfl) ?_
        refine p_get (v := .ref y21) hx hb hts inX6 hown hK hP hLp0 hKp0 rfl rfl 6 (by decide) (hts _ pq355) (congrArg (fun q => some (va_rf q)) ey21) dX6_crop_50 ?_
        refine p_get hx hb hts inX3 hown hK hP hLy21 hKy21 rfl rfl 1 (by decide) (hts _ pq123) rfl dX6_crop_53 ?_
        refine lv_topi (fun z53 ez53 => ?_)
        have bz53 := oI_3_1 (Iv_at hIz25 hLy21 hKy21)
        rw [← ez53] at bz53
        refine lv_aload_n hx hb dX6_crop_56 rfl (lv_at hl 0 rfl) ?_
        refine p_get hx hb hts inX3 hown hK hP hLy18 hKy18 rfl rfl 1 (by decide) (hts _ pq123) rfl dX6_crop_57 ?_
        refine lv_topi (fun z57 ez57 => ?_)
        have bz57 := oI_3_1 (Iv_at hIz25 hLy18 hKy18)
        rw [← ez57] at bz57
        refine lv_icmp_ne (tgt := 66) hx hb dX6_crop_60 (by decide) (fun c60 => ?_) (fun c60 => ?_)
        · have t60 := tq_ne (k := z53.toInt) (q := z57.toInt) c60 rfl rfl
          exact j66  _ _ _ hP hS (lv_sub hl [1, 2, 0] rfl)
        · have t60 := tq_eq (k := z53.toInt) (q := z57.toInt) c60 rfl rfl
          refine lv_bipush (v := (-2)) hx hb dX6_crop_63 (by decide +kernel) ?_
          subst hR; subst hQz
          refine W.widen (k := 29) (n := 807) (Nat.le_of_ble_eq_true rfl) (Nat.le_of_ble_eq_true rfl) ?_
          exact W.iret (v := (-2)) hx hb hr (fun t ht hW => ⟨⟨(-2), (), rfl, trivial, ⟨L, K, G, Q, Iz25, Jz25, hX, hQ, hIz25, fun F => (hD F).weaken (fun _ _ _ _ => trivial), fun q h => hAe2 q (hAL q h), by rw [ht]; exact hP, ⟨cn_Iz25, dn_Iz25⟩⟩⟩, hS.F ht⟩) hS.2.2 dX6_crop_65
  · have t5 := tq_eq (k := z2.toInt) (q := (0)) c5 rfl (by decide +kernel)
    refine lv_iconst (v := (-1)) hx hb dX6_crop_8 (by decide +kernel) ?_
    subst hR; subst hQz
    refine W.widen (k := 29) (n := 807) (Nat.le_of_ble_eq_true rfl) (Nat.le_of_ble_eq_true rfl) ?_
    exact W.iret (v := (-1)) hx hb hr (fun t ht hW => ⟨⟨(-1), (), rfl, trivial, ⟨L, K, G, Q, I, J, hX, hQ, hI, fun F => (hD F).weaken (fun _ _ _ _ => trivial), fun q h => hAe2 q (hAL q h), by rw [ht]; exact hP, ⟨cn_I, dn_I⟩⟩⟩, hS.F ht⟩) hS.2.2 dX6_crop_9
