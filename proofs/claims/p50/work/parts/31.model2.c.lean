abbrev cX7_join : ByteArray := prog_9_method_69_code
abbrev cX7_quarter : ByteArray := prog_9_method_81_code
abbrev cX7_thin : ByteArray := prog_9_method_68_code
def yX7_join : MethodName := ⟨RX7, "join", "(IIIII)I"⟩
def yX7_quarter : MethodName := ⟨RX7, "quarter", "(I)I"⟩
def yX7_thin : MethodName := ⟨RX7, "thin", "(I)I"⟩
theorem dX7_join_0 : decode cX7_join 0 = .ok (.aload_n 0, 1) := by decide +kernel
theorem dX7_join_1 : decode cX7_join 1 = .ok (.iload_n 1, 1) := by decide +kernel
theorem dX7_join_2 : decode cX7_join 2 = .ok (.invokevirtual 301, 3) := by decide +kernel
theorem dX7_join_5 : decode cX7_join 5 = .ok (.ifCond .eq 53, 3) := by decide +kernel
theorem dX7_join_8 : decode cX7_join 8 = .ok (.aload_n 0, 1) := by decide +kernel
theorem dX7_join_9 : decode cX7_join 9 = .ok (.iload_n 2, 1) := by decide +kernel
theorem dX7_join_10 : decode cX7_join 10 = .ok (.invokevirtual 301, 3) := by decide +kernel
theorem dX7_join_13 : decode cX7_join 13 = .ok (.ifCond .eq 45, 3) := by decide +kernel
theorem dX7_join_16 : decode cX7_join 16 = .ok (.iload_n 3, 1) := by decide +kernel
theorem dX7_join_17 : decode cX7_join 17 = .ok (.i2l, 1) := by decide +kernel
theorem dX7_join_18 : decode cX7_join 18 = .ok (.ldc2_w 317, 3) := by decide +kernel
theorem dX7_join_21 : decode cX7_join 21 = .ok (.ldc2_w 319, 3) := by decide +kernel
theorem dX7_join_24 : decode cX7_join 24 = .ok (.invokestatic 96, 3) := by decide +kernel
theorem dX7_join_27 : decode cX7_join 27 = .ok (.ifCond .eq 31, 3) := by decide +kernel
theorem dX7_join_30 : decode cX7_join 30 = .ok (.iload 4, 2) := by decide +kernel
theorem dX7_join_32 : decode cX7_join 32 = .ok (.i2l, 1) := by decide +kernel
theorem dX7_join_33 : decode cX7_join 33 = .ok (.ldc2_w 317, 3) := by decide +kernel
theorem dX7_join_36 : decode cX7_join 36 = .ok (.ldc2_w 319, 3) := by decide +kernel
theorem dX7_join_39 : decode cX7_join 39 = .ok (.invokestatic 96, 3) := by decide +kernel
theorem dX7_join_42 : decode cX7_join 42 = .ok (.ifCond .eq 16, 3) := by decide +kernel
theorem dX7_join_45 : decode cX7_join 45 = .ok (.iload 5, 2) := by decide +kernel
theorem dX7_join_47 : decode cX7_join 47 = .ok (.i2l, 1) := by decide +kernel
theorem dX7_join_48 : decode cX7_join 48 = .ok (.lconst 0, 1) := by decide +kernel
theorem dX7_join_49 : decode cX7_join 49 = .ok (.ldc2_w 289, 3) := by decide +kernel
theorem dX7_join_52 : decode cX7_join 52 = .ok (.invokestatic 96, 3) := by decide +kernel
theorem dX7_join_55 : decode cX7_join 55 = .ok (.ifCond .ne 5, 3) := by decide +kernel
theorem dX7_join_58 : decode cX7_join 58 = .ok (.iconst (-1), 1) := by decide +kernel
theorem dX7_join_59 : decode cX7_join 59 = .ok (.ireturn, 1) := by decide +kernel
theorem dX7_join_60 : decode cX7_join 60 = .ok (.aload_n 0, 1) := by decide +kernel
theorem dX7_join_61 : decode cX7_join 61 = .ok (.invokevirtual 304, 3) := by decide +kernel
theorem dX7_join_64 : decode cX7_join 64 = .ok (.iconst 0, 1) := by decide +kernel
theorem dX7_join_65 : decode cX7_join 65 = .ok (.istore 6, 2) := by decide +kernel
theorem dX7_join_67 : decode cX7_join 67 = .ok (.iload 6, 2) := by decide +kernel
theorem dX7_join_69 : decode cX7_join 69 = .ok (.aload_n 0, 1) := by decide +kernel
theorem dX7_join_70 : decode cX7_join 70 = .ok (.iload_n 1, 1) := by decide +kernel
theorem dX7_join_71 : decode cX7_join 71 = .ok (.invokevirtual 205, 3) := by decide +kernel
theorem dX7_join_74 : decode cX7_join 74 = .ok (.if_icmp .ge 157, 3) := by decide +kernel
theorem dX7_join_77 : decode cX7_join 77 = .ok (.iconst 0, 1) := by decide +kernel
theorem dX7_join_78 : decode cX7_join 78 = .ok (.istore 7, 2) := by decide +kernel
theorem dX7_join_80 : decode cX7_join 80 = .ok (.iload 7, 2) := by decide +kernel
theorem dX7_join_82 : decode cX7_join 82 = .ok (.aload_n 0, 1) := by decide +kernel
theorem dX7_join_83 : decode cX7_join 83 = .ok (.iload_n 1, 1) := by decide +kernel
theorem dX7_join_84 : decode cX7_join 84 = .ok (.invokevirtual 202, 3) := by decide +kernel
theorem dX7_join_87 : decode cX7_join 87 = .ok (.if_icmp .ge 138, 3) := by decide +kernel
theorem dX7_join_90 : decode cX7_join 90 = .ok (.aload_n 0, 1) := by decide +kernel
theorem dX7_join_91 : decode cX7_join 91 = .ok (.iload_n 1, 1) := by decide +kernel
theorem dX7_join_92 : decode cX7_join 92 = .ok (.iload 7, 2) := by decide +kernel
theorem dX7_join_94 : decode cX7_join 94 = .ok (.iload 6, 2) := by decide +kernel
theorem dX7_join_96 : decode cX7_join 96 = .ok (.invokevirtual 215, 3) := by decide +kernel
theorem dX7_join_99 : decode cX7_join 99 = .ok (.istore 8, 2) := by decide +kernel
theorem dX7_join_101 : decode cX7_join 101 = .ok (.aload_n 0, 1) := by decide +kernel
theorem dX7_join_102 : decode cX7_join 102 = .ok (.iload_n 2, 1) := by decide +kernel
theorem dX7_join_103 : decode cX7_join 103 = .ok (.iload 7, 2) := by decide +kernel
theorem dX7_join_105 : decode cX7_join 105 = .ok (.iload_n 3, 1) := by decide +kernel
theorem dX7_join_106 : decode cX7_join 106 = .ok (.isub, 1) := by decide +kernel
theorem dX7_join_107 : decode cX7_join 107 = .ok (.iload 6, 2) := by decide +kernel
theorem dX7_join_109 : decode cX7_join 109 = .ok (.iload 4, 2) := by decide +kernel
theorem dX7_join_111 : decode cX7_join 111 = .ok (.isub, 1) := by decide +kernel
theorem dX7_join_112 : decode cX7_join 112 = .ok (.invokevirtual 215, 3) := by decide +kernel
theorem dX7_join_115 : decode cX7_join 115 = .ok (.istore 9, 2) := by decide +kernel
theorem dX7_join_117 : decode cX7_join 117 = .ok (.iload 5, 2) := by decide +kernel
theorem dX7_join_119 : decode cX7_join 119 = .ok (.ifCond .ne 21, 3) := by decide +kernel
theorem dX7_join_122 : decode cX7_join 122 = .ok (.iload 8, 2) := by decide +kernel
theorem dX7_join_124 : decode cX7_join 124 = .ok (.ifCond .ne 8, 3) := by decide +kernel
theorem dX7_join_127 : decode cX7_join 127 = .ok (.iload 9, 2) := by decide +kernel
theorem dX7_join_129 : decode cX7_join 129 = .ok (.ifCond .eq 7, 3) := by decide +kernel
theorem dX7_join_132 : decode cX7_join 132 = .ok (.iconst 1, 1) := by decide +kernel
theorem dX7_join_133 : decode cX7_join 133 = .ok (.goto 67, 3) := by decide +kernel
theorem dX7_join_136 : decode cX7_join 136 = .ok (.iconst 0, 1) := by decide +kernel
theorem dX7_join_137 : decode cX7_join 137 = .ok (.goto 63, 3) := by decide +kernel
theorem dX7_join_140 : decode cX7_join 140 = .ok (.iload 5, 2) := by decide +kernel
theorem dX7_join_142 : decode cX7_join 142 = .ok (.iconst 1, 1) := by decide +kernel
theorem dX7_join_143 : decode cX7_join 143 = .ok (.if_icmp .ne 21, 3) := by decide +kernel
theorem dX7_join_146 : decode cX7_join 146 = .ok (.iload 8, 2) := by decide +kernel
theorem dX7_join_148 : decode cX7_join 148 = .ok (.ifCond .eq 12, 3) := by decide +kernel
theorem dX7_join_151 : decode cX7_join 151 = .ok (.iload 9, 2) := by decide +kernel
theorem dX7_join_153 : decode cX7_join 153 = .ok (.ifCond .eq 7, 3) := by decide +kernel
theorem dX7_join_156 : decode cX7_join 156 = .ok (.iconst 1, 1) := by decide +kernel
theorem dX7_join_157 : decode cX7_join 157 = .ok (.goto 43, 3) := by decide +kernel
theorem dX7_join_160 : decode cX7_join 160 = .ok (.iconst 0, 1) := by decide +kernel
theorem dX7_join_161 : decode cX7_join 161 = .ok (.goto 39, 3) := by decide +kernel
theorem dX7_join_164 : decode cX7_join 164 = .ok (.iload 5, 2) := by decide +kernel
theorem dX7_join_166 : decode cX7_join 166 = .ok (.iconst 2, 1) := by decide +kernel
theorem dX7_join_167 : decode cX7_join 167 = .ok (.if_icmp .ne 21, 3) := by decide +kernel
theorem dX7_join_170 : decode cX7_join 170 = .ok (.iload 8, 2) := by decide +kernel
theorem dX7_join_172 : decode cX7_join 172 = .ok (.ifCond .eq 12, 3) := by decide +kernel
theorem dX7_join_175 : decode cX7_join 175 = .ok (.iload 9, 2) := by decide +kernel
theorem dX7_join_177 : decode cX7_join 177 = .ok (.ifCond .ne 7, 3) := by decide +kernel
theorem dX7_join_180 : decode cX7_join 180 = .ok (.iconst 1, 1) := by decide +kernel
theorem dX7_join_181 : decode cX7_join 181 = .ok (.goto 19, 3) := by decide +kernel
theorem dX7_join_184 : decode cX7_join 184 = .ok (.iconst 0, 1) := by decide +kernel
theorem dX7_join_185 : decode cX7_join 185 = .ok (.goto 15, 3) := by decide +kernel
theorem dX7_join_188 : decode cX7_join 188 = .ok (.iload 8, 2) := by decide +kernel
theorem dX7_join_190 : decode cX7_join 190 = .ok (.iload 9, 2) := by decide +kernel
theorem dX7_join_192 : decode cX7_join 192 = .ok (.if_icmp .eq 7, 3) := by decide +kernel
theorem dX7_join_195 : decode cX7_join 195 = .ok (.iconst 1, 1) := by decide +kernel
theorem dX7_join_196 : decode cX7_join 196 = .ok (.goto 4, 3) := by decide +kernel
theorem dX7_join_199 : decode cX7_join 199 = .ok (.iconst 0, 1) := by decide +kernel
theorem dX7_join_200 : decode cX7_join 200 = .ok (.istore 10, 2) := by decide +kernel
theorem dX7_join_202 : decode cX7_join 202 = .ok (.iload 10, 2) := by decide +kernel
theorem dX7_join_204 : decode cX7_join 204 = .ok (.ifCond .eq 15, 3) := by decide +kernel
theorem dX7_join_207 : decode cX7_join 207 = .ok (.aload_n 0, 1) := by decide +kernel
theorem dX7_join_208 : decode cX7_join 208 = .ok (.getfield 52, 3) := by decide +kernel
theorem dX7_join_211 : decode cX7_join 211 = .ok (.iconst 0, 1) := by decide +kernel
theorem dX7_join_212 : decode cX7_join 212 = .ok (.iload 7, 2) := by decide +kernel
theorem dX7_join_214 : decode cX7_join 214 = .ok (.iload 6, 2) := by decide +kernel
theorem dX7_join_216 : decode cX7_join 216 = .ok (.invokestatic 157, 3) := by decide +kernel
theorem dX7_join_219 : decode cX7_join 219 = .ok (.iinc 7 1, 3) := by decide +kernel
theorem dX7_join_222 : decode cX7_join 222 = .ok (.goto (-142), 3) := by decide +kernel
theorem dX7_join_225 : decode cX7_join 225 = .ok (.iinc 6 1, 3) := by decide +kernel
theorem dX7_join_228 : decode cX7_join 228 = .ok (.goto (-161), 3) := by decide +kernel
theorem dX7_join_231 : decode cX7_join 231 = .ok (.aload_n 0, 1) := by decide +kernel
theorem dX7_join_232 : decode cX7_join 232 = .ok (.invokevirtual 286, 3) := by decide +kernel
theorem dX7_join_235 : decode cX7_join 235 = .ok (.aload_n 0, 1) := by decide +kernel
theorem dX7_join_236 : decode cX7_join 236 = .ok (.iload_n 1, 1) := by decide +kernel
theorem dX7_join_237 : decode cX7_join 237 = .ok (.invokevirtual 310, 3) := by decide +kernel
theorem dX7_join_240 : decode cX7_join 240 = .ok (.aload_n 0, 1) := by decide +kernel
theorem dX7_join_241 : decode cX7_join 241 = .ok (.iload_n 1, 1) := by decide +kernel
theorem dX7_join_242 : decode cX7_join 242 = .ok (.invokevirtual 321, 3) := by decide +kernel
theorem dX7_join_245 : decode cX7_join 245 = .ok (.ireturn, 1) := by decide +kernel
theorem dX7_quarter_0 : decode cX7_quarter 0 = .ok (.aload_n 0, 1) := by decide +kernel
theorem dX7_quarter_1 : decode cX7_quarter 1 = .ok (.iload_n 1, 1) := by decide +kernel
theorem dX7_quarter_2 : decode cX7_quarter 2 = .ok (.invokevirtual 301, 3) := by decide +kernel
theorem dX7_quarter_5 : decode cX7_quarter 5 = .ok (.ifCond .ne 5, 3) := by decide +kernel
theorem dX7_quarter_8 : decode cX7_quarter 8 = .ok (.iconst (-1), 1) := by decide +kernel
theorem dX7_quarter_9 : decode cX7_quarter 9 = .ok (.ireturn, 1) := by decide +kernel
theorem dX7_quarter_10 : decode cX7_quarter 10 = .ok (.aload_n 0, 1) := by decide +kernel
theorem dX7_quarter_11 : decode cX7_quarter 11 = .ok (.iload_n 1, 1) := by decide +kernel
theorem dX7_quarter_12 : decode cX7_quarter 12 = .ok (.invokevirtual 202, 3) := by decide +kernel
theorem dX7_quarter_15 : decode cX7_quarter 15 = .ok (.bipush 40, 2) := by decide +kernel
theorem dX7_quarter_17 : decode cX7_quarter 17 = .ok (.if_icmp .le 6, 3) := by decide +kernel
theorem dX7_quarter_20 : decode cX7_quarter 20 = .ok (.bipush (-2), 2) := by decide +kernel
theorem dX7_quarter_22 : decode cX7_quarter 22 = .ok (.ireturn, 1) := by decide +kernel
theorem dX7_quarter_23 : decode cX7_quarter 23 = .ok (.aload_n 0, 1) := by decide +kernel
theorem dX7_quarter_24 : decode cX7_quarter 24 = .ok (.invokevirtual 304, 3) := by decide +kernel
theorem dX7_quarter_27 : decode cX7_quarter 27 = .ok (.iconst 0, 1) := by decide +kernel
theorem dX7_quarter_28 : decode cX7_quarter 28 = .ok (.istore_n 2, 1) := by decide +kernel
theorem dX7_quarter_29 : decode cX7_quarter 29 = .ok (.iload_n 2, 1) := by decide +kernel
theorem dX7_quarter_30 : decode cX7_quarter 30 = .ok (.aload_n 0, 1) := by decide +kernel
theorem dX7_quarter_31 : decode cX7_quarter 31 = .ok (.iload_n 1, 1) := by decide +kernel
theorem dX7_quarter_32 : decode cX7_quarter 32 = .ok (.invokevirtual 205, 3) := by decide +kernel
theorem dX7_quarter_35 : decode cX7_quarter 35 = .ok (.if_icmp .ge 54, 3) := by decide +kernel
theorem dX7_quarter_38 : decode cX7_quarter 38 = .ok (.iconst 0, 1) := by decide +kernel
theorem dX7_quarter_39 : decode cX7_quarter 39 = .ok (.istore_n 3, 1) := by decide +kernel
theorem dX7_quarter_40 : decode cX7_quarter 40 = .ok (.iload_n 3, 1) := by decide +kernel
theorem dX7_quarter_41 : decode cX7_quarter 41 = .ok (.aload_n 0, 1) := by decide +kernel
theorem dX7_quarter_42 : decode cX7_quarter 42 = .ok (.iload_n 1, 1) := by decide +kernel
theorem dX7_quarter_43 : decode cX7_quarter 43 = .ok (.invokevirtual 202, 3) := by decide +kernel
theorem dX7_quarter_46 : decode cX7_quarter 46 = .ok (.if_icmp .ge 37, 3) := by decide +kernel
theorem dX7_quarter_49 : decode cX7_quarter 49 = .ok (.aload_n 0, 1) := by decide +kernel
theorem dX7_quarter_50 : decode cX7_quarter 50 = .ok (.iload_n 1, 1) := by decide +kernel
theorem dX7_quarter_51 : decode cX7_quarter 51 = .ok (.iload_n 3, 1) := by decide +kernel
theorem dX7_quarter_52 : decode cX7_quarter 52 = .ok (.iload_n 2, 1) := by decide +kernel
theorem dX7_quarter_53 : decode cX7_quarter 53 = .ok (.invokevirtual 215, 3) := by decide +kernel
theorem dX7_quarter_56 : decode cX7_quarter 56 = .ok (.ifCond .eq 21, 3) := by decide +kernel
theorem dX7_quarter_59 : decode cX7_quarter 59 = .ok (.aload_n 0, 1) := by decide +kernel
theorem dX7_quarter_60 : decode cX7_quarter 60 = .ok (.getfield 52, 3) := by decide +kernel
theorem dX7_quarter_63 : decode cX7_quarter 63 = .ok (.iconst 0, 1) := by decide +kernel
theorem dX7_quarter_64 : decode cX7_quarter 64 = .ok (.aload_n 0, 1) := by decide +kernel
theorem dX7_quarter_65 : decode cX7_quarter 65 = .ok (.iload_n 1, 1) := by decide +kernel
theorem dX7_quarter_66 : decode cX7_quarter 66 = .ok (.invokevirtual 205, 3) := by decide +kernel
theorem dX7_quarter_69 : decode cX7_quarter 69 = .ok (.iconst 1, 1) := by decide +kernel
theorem dX7_quarter_70 : decode cX7_quarter 70 = .ok (.isub, 1) := by decide +kernel
theorem dX7_quarter_71 : decode cX7_quarter 71 = .ok (.iload_n 2, 1) := by decide +kernel
theorem dX7_quarter_72 : decode cX7_quarter 72 = .ok (.isub, 1) := by decide +kernel
theorem dX7_quarter_73 : decode cX7_quarter 73 = .ok (.iload_n 3, 1) := by decide +kernel
theorem dX7_quarter_74 : decode cX7_quarter 74 = .ok (.invokestatic 157, 3) := by decide +kernel
theorem dX7_quarter_77 : decode cX7_quarter 77 = .ok (.iinc 3 1, 3) := by decide +kernel
theorem dX7_quarter_80 : decode cX7_quarter 80 = .ok (.goto (-40), 3) := by decide +kernel
theorem dX7_quarter_83 : decode cX7_quarter 83 = .ok (.iinc 2 1, 3) := by decide +kernel
theorem dX7_quarter_86 : decode cX7_quarter 86 = .ok (.goto (-57), 3) := by decide +kernel
theorem dX7_quarter_89 : decode cX7_quarter 89 = .ok (.aload_n 0, 1) := by decide +kernel
theorem dX7_quarter_90 : decode cX7_quarter 90 = .ok (.invokevirtual 286, 3) := by decide +kernel
theorem dX7_quarter_93 : decode cX7_quarter 93 = .ok (.aload_n 0, 1) := by decide +kernel
theorem dX7_quarter_94 : decode cX7_quarter 94 = .ok (.iload_n 1, 1) := by decide +kernel
theorem dX7_quarter_95 : decode cX7_quarter 95 = .ok (.invokevirtual 310, 3) := by decide +kernel
theorem dX7_quarter_98 : decode cX7_quarter 98 = .ok (.aload_n 0, 1) := by decide +kernel
theorem dX7_quarter_99 : decode cX7_quarter 99 = .ok (.iload_n 1, 1) := by decide +kernel
theorem dX7_quarter_100 : decode cX7_quarter 100 = .ok (.invokevirtual 202, 3) := by decide +kernel
theorem dX7_quarter_103 : decode cX7_quarter 103 = .ok (.istore_n 2, 1) := by decide +kernel
theorem dX7_quarter_104 : decode cX7_quarter 104 = .ok (.aload_n 0, 1) := by decide +kernel
theorem dX7_quarter_105 : decode cX7_quarter 105 = .ok (.getfield 9, 3) := by decide +kernel
theorem dX7_quarter_108 : decode cX7_quarter 108 = .ok (.iconst 3, 1) := by decide +kernel
theorem dX7_quarter_109 : decode cX7_quarter 109 = .ok (.iload_n 1, 1) := by decide +kernel
theorem dX7_quarter_110 : decode cX7_quarter 110 = .ok (.iadd, 1) := by decide +kernel
theorem dX7_quarter_111 : decode cX7_quarter 111 = .ok (.aload_n 0, 1) := by decide +kernel
theorem dX7_quarter_112 : decode cX7_quarter 112 = .ok (.iload_n 1, 1) := by decide +kernel
theorem dX7_quarter_113 : decode cX7_quarter 113 = .ok (.invokevirtual 205, 3) := by decide +kernel
theorem dX7_quarter_116 : decode cX7_quarter 116 = .ok (.iastore, 1) := by decide +kernel
theorem dX7_quarter_117 : decode cX7_quarter 117 = .ok (.aload_n 0, 1) := by decide +kernel
theorem dX7_quarter_118 : decode cX7_quarter 118 = .ok (.getfield 9, 3) := by decide +kernel
theorem dX7_quarter_121 : decode cX7_quarter 121 = .ok (.bipush 11, 2) := by decide +kernel
theorem dX7_quarter_123 : decode cX7_quarter 123 = .ok (.iload_n 1, 1) := by decide +kernel
theorem dX7_quarter_124 : decode cX7_quarter 124 = .ok (.iadd, 1) := by decide +kernel
theorem dX7_quarter_125 : decode cX7_quarter 125 = .ok (.iload_n 2, 1) := by decide +kernel
theorem dX7_quarter_126 : decode cX7_quarter 126 = .ok (.iastore, 1) := by decide +kernel
theorem dX7_quarter_127 : decode cX7_quarter 127 = .ok (.aload_n 0, 1) := by decide +kernel
theorem dX7_quarter_128 : decode cX7_quarter 128 = .ok (.iload_n 1, 1) := by decide +kernel
theorem dX7_quarter_129 : decode cX7_quarter 129 = .ok (.invokevirtual 202, 3) := by decide +kernel
theorem dX7_quarter_132 : decode cX7_quarter 132 = .ok (.ireturn, 1) := by decide +kernel
theorem dX7_thin_0 : decode cX7_thin 0 = .ok (.aload_n 0, 1) := by decide +kernel
theorem dX7_thin_1 : decode cX7_thin 1 = .ok (.iload_n 1, 1) := by decide +kernel
theorem dX7_thin_2 : decode cX7_thin 2 = .ok (.iconst 0, 1) := by decide +kernel
theorem dX7_thin_3 : decode cX7_thin 3 = .ok (.invokevirtual 313, 3) := by decide +kernel
theorem dX7_thin_6 : decode cX7_thin 6 = .ok (.ireturn, 1) := by decide +kernel
set_option maxRecDepth 100000 in
theorem pq39 : Cond.selects RX7 yX7_dotsOf yX7_dotsOf ∈ pw := pw_mem (i := 39) (by decide +kernel) rfl
set_option maxRecDepth 100000 in
theorem pq1411 : Cond.constantLong RX7 317 (-99) ∈ pw := pw_mem (i := 1411) (by decide +kernel) rfl
set_option maxRecDepth 100000 in
theorem pq1412 : Cond.constantLong RX7 319 (99) ∈ pw := pw_mem (i := 1412) (by decide +kernel) rfl
set_option maxRecDepth 100000 in
theorem pq1413 : Cond.methodLink RX7 321 yX7_dotsOf ∈ pw := pw_mem (i := 1413) (by decide +kernel) rfl
set_option maxRecDepth 100000 in
theorem pq1415 : Cond.instanceMethod yX7_dotsOf ∈ pw := pw_mem (i := 1415) (by decide +kernel) rfl
set_option maxRecDepth 100000 in
theorem pq1416 : Cond.code yX7_dotsOf cX7_dotsOf 4 (some .int) ∈ pw := pw_mem (i := 1416) (by rfl) rfl
set_option maxHeartbeats 4000000 in
set_option maxRecDepth 100000 in
theorem s_X7_thin (l : Launch) (dC : Nat → ClassId) (dI : Nat → Nat → Nat) (cs : Nat → ClassId) (L : List Nat) (K G : Nat → Nat) (Q : Nat → Nat → Option Nat) (hQ : Sv L K G Q) (x0 m0 : Nat) (tx : GT) (tm : GT × Int) (sz : Nat) (I : Nat → Nat → Int32) (J : Nat → Nat → Int64) (hI : Iv L K x0 m0 tx tm I) (p0 : Nat) (hLp0 : p0 ∈ L) (hKp0 : K p0 = 7) (p1 : Int32) : Met l yX7_thin (.code yX7_thin cX7_thin 2 (some .int) :: pw) ({ frames := 4, cells := 0, slots := 0, locals := 98 }) (sP (dC, dI) cs [.ref p0, .int p1] sz L K I J Q) (va_Qi (fun (r : Int32) (_ : Unit) => (∀ σ : Sx, okF σ.1 → cmA Q I J p0 σ → r.toInt = (chA σ p1 (mkw (thinD (mF σ p1))) false).1)) (fun _ t => sB (dC, dI) cs L K Q (fun I1 J1 => Iv L K x0 m0 tx tm I1 ∧ (∀ b, K b = 0 ∨ K b = 1 ∨ K b = 3 ∨ K b = 6 → I1 b = I b) ∧ (∀ σ : Sx, okF σ.1 → cmA Q I J p0 σ → cmA Q I1 J1 p0 (chA σ p1 (mkw (thinD (mF σ p1))) false).2) ∧ (∀ b, ¬ (K b = 21 ∨ K b = 22 ∨ K b = 33 ∨ K b = 34) → J1 b = J b)) t) (fun q => q ∈ L ∨ sz ≤ q)) 0 0 (fun q => q ∈ L ∨ sz ≤ q) := by
  refine Met.ofW (cc := cX7_thin) (maxL := 2) (ret := (some .int)) (by decide +kernel) rfl ?_
  intro p e s m args below meth c s₁ B hml hv
  obtain ⟨rfl, hsz, hP, hK, hD0, hN⟩ := hv
  have hx := B.exec
  have hb := B.bytes
  have hr := B.returns
  have hts := fun w (h : w ∈ pw) => atoms_spec (ws := Cond.code yX7_thin cX7_thin 2 (some .int) :: pw) B.pre w (List.mem_cons_of_mem _ h)
  have hown : s.vm.findClass RX7 = some m.cls := findClass_of_methodNamed B.named
  have hlocks := B.notSynchronized
  subst hsz
  have hBB : 999 ≤ tm.2 ∧ tm.2 ≤ 6000000 := hI.2.2.2.2.1
  have dn_I : (∀ b, K b = 0 ∨ K b = 1 ∨ K b = 3 ∨ K b = 6 → I b = I b) := fun _ _ => rfl
  have dj_J : (∀ b, ¬ (K b = 21 ∨ K b = 22 ∨ K b = 33 ∨ K b = 34) → J b = J b) := fun _ _ => rfl
  obtain ⟨A, hAe⟩ : ∃ A : Nat → Prop, A = (fun q => q ∈ L ∨ s.heap.size ≤ q) := ⟨_, rfl⟩
  rw [← hAe]
  have hAL : ∀ q, q ∈ L → A q := fun q h => by rw [hAe]; exact Or.inl h
  have hA : ∀ q, s.heap.size ≤ q → A q := fun q h => by rw [hAe]; exact Or.inr h
  have hD : ∀ F, va_D A (va_pl L F) := fun F => (hD0 F).weaken (fun k q hk _ => hAL _ (pl_mem hk))
  obtain ⟨H, hHe⟩ : ∃ H : Heap, H = s.heap := ⟨_, rfl⟩
  have hS : va_S A s.heap H [] := by rw [hHe]; exact va_S.rf
  rw [← hHe] at hP
  have hl := lv_entry ([.ref p0, .int p1]) (n := 2) (Nat.le_of_ble_eq_true rfl)
  rw [lg_entry_eq]
  generalize (lg_sl ([.ref p0, .int p1]) ++ List.replicate (2 - (lg_sl ([.ref p0, .int p1])).length) Slot.unset).toArray = ls at hl ⊢
  have hl : lv_has ls 2 [(0, .ref p0), (1, .int p1)] := hl
  rw [← hHe]
  refine namedW (fun R Qz hR hQz => ?_)
  refine lv_aload_n hx hb dX7_thin_0 rfl (lv_at hl 0 rfl) ?_
  refine lv_iload_n hx hb dX7_thin_1 rfl (lv_at hl 1 rfl) ?_
  refine lv_iconst (v := 0) hx hb dX7_thin_2 (by decide +kernel) ?_
  refine sw_i (Z := (fun I1 J1 => Iv L K x0 m0 tx tm I1 ∧ (∀ b, K b = 0 ∨ K b = 1 ∨ K b = 3 ∨ K b = 6 → I1 b = I b) ∧ (∀ σ : Sx, okF σ.1 → cmA Q I J p0 σ → cmA Q I1 J1 p0 (chA σ p1 (mkw (chD (0 : Int32).toInt (mW σ p1).toInt (mH σ p1).toInt (mF σ p1))) (decide (¬ (0 : Int32).toInt = 0))).2) ∧ (∀ b, ¬ (K b = 21 ∨ K b = 22 ∨ K b = 33 ∨ K b = 34) → J1 b = J b))) (va_runV (As := [.int p1, .int 0]) (rest := []) ⟨hx, hb, hml, hown, hts⟩ (s_X7_changes l dC dI cs L K G Q hQ x0 m0 tx tm H.size I J hI p0 hLp0 hKp0 p1 0 ⟨by decide +kernel, by decide +kernel⟩) (cwV 2 hts (gV pq1387 pq1389 pq35 pq81 pq1390) rfl rfl rfl (by decide +kernel) ⟨(by rw [hR]; exact (Nat.le_of_ble_eq_true rfl)), (by rw [hR]; exact (Nat.le_of_ble_eq_true rfl))⟩) (sP_V hP hD hK hN hLp0 hKp0 rfl rfl) rfl rfl hl.1 rfl (lv_room (Nat.le_of_ble_eq_true rfl)) dX7_thin_3 ⟨(by rw [hR]; exact (Nat.le_of_ble_eq_true rfl)), (by rw [hR]; exact (Nat.le_of_ble_eq_true rfl))⟩) hS hAL hA (fun z3 Iz3 Jz3 H locs hz3 hIz3 hP hS => ?_)
  obtain ⟨hIz3, dnc3, jz3, djc3⟩ := hIz3
  have dj_Jz3 : (∀ b, ¬ (K b = 21 ∨ K b = 22 ∨ K b = 33 ∨ K b = 34) → Jz3 b = J b) := fun b hc => (djc3 b (fun z => hc (by omega))).trans (dj_J b hc)
  have dn_Iz3 : (∀ b, K b = 0 ∨ K b = 1 ∨ K b = 3 ∨ K b = 6 → Iz3 b = I b) := fun b hc => (dnc3 b (by omega)).trans (dn_I b hc)
  have cst3_0 : (0 : Int32).toInt = 0 := by decide +kernel
  have xpz3 := hz3
  try rw [cst3_0] at xpz3
  subst hR; subst hQz
  exact W.iret (v := z3) hx hb hr (fun t ht hW => ⟨⟨z3, (), rfl, (fun σ ok A => by rw [← chA_t σ p1 (mW σ p1).toInt (mH σ p1).toInt (mF σ p1)]; have q := xpz3 σ ok A; (try rw [show (0 : Int32).toInt = 0 from by decide +kernel] at q); exact q), ⟨Iz3, Jz3, ⟨hIz3, dn_Iz3, (fun σ ok A => by rw [← chA_t σ p1 (mW σ p1).toInt (mH σ p1).toInt (mF σ p1)]; have q := jz3 σ ok A; (try rw [show (0 : Int32).toInt = 0 from by decide +kernel] at q); exact q), dj_Jz3⟩, by rw [ht]; exact hP⟩⟩, hS.F ht⟩) hS.2.2 dX7_thin_6

set_option maxHeartbeats 4000000 in
set_option maxRecDepth 100000 in
theorem s_X7_join (l : Launch) (dC : Nat → ClassId) (dI : Nat → Nat → Nat) (cs : Nat → ClassId) (L : List Nat) (K G : Nat → Nat) (Q : Nat → Nat → Option Nat) (hQ : Sv L K G Q) (x0 m0 : Nat) (tx : GT) (tm : GT × Int) (sz : Nat) (I : Nat → Nat → Int32) (J : Nat → Nat → Int64) (hI : Iv L K x0 m0 tx tm I) (p0 : Nat) (hLp0 : p0 ∈ L) (hKp0 : K p0 = 7) (p1 : Int32) (p2 : Int32) (p3 : Int32) (p4 : Int32) (p5 : Int32) : Met l yX7_join (.code yX7_join cX7_join 11 (some .int) :: pw) ({ frames := 3, cells := 0, slots := 0, locals := 67 }) (sP (dC, dI) cs [.ref p0, .int p1, .int p2, .int p3, .int p4, .int p5] sz L K I J Q) (va_Qi (fun (r : Int32) (_ : Unit) => (∀ σ : Sx, okF σ.1 → cmA Q I J p0 σ → r.toInt = (jnA σ p1 p2 p3 p4 p5).1)) (fun _ t => sB (dC, dI) cs L K Q (fun I1 J1 => Iv L K x0 m0 tx tm I1 ∧ (∀ b, K b = 0 ∨ K b = 1 ∨ K b = 3 ∨ K b = 6 → I1 b = I b) ∧ (∀ σ : Sx, okF σ.1 → cmA Q I J p0 σ → cmA Q I1 J1 p0 (jnA σ p1 p2 p3 p4 p5).2) ∧ (∀ b, ¬ (K b = 21 ∨ K b = 22 ∨ K b = 33 ∨ K b = 34) → J1 b = J b)) t) (fun q => q ∈ L ∨ sz ≤ q)) 0 0 (fun q => q ∈ L ∨ sz ≤ q) := by
  refine Met.ofW (cc := cX7_join) (maxL := 11) (ret := (some .int)) (by decide +kernel) rfl ?_
  intro p e s m args below meth c s₁ B hml hv
  obtain ⟨rfl, hsz, hP, hK, hD0, hN⟩ := hv
  have hx := B.exec
  have hb := B.bytes
  have hr := B.returns
  have hts := fun w (h : w ∈ pw) => atoms_spec (ws := Cond.code yX7_join cX7_join 11 (some .int) :: pw) B.pre w (List.mem_cons_of_mem _ h)
  have hown : s.vm.findClass RX7 = some m.cls := findClass_of_methodNamed B.named
  have hlocks := B.notSynchronized
  subst hsz
  have hBB : 999 ≤ tm.2 ∧ tm.2 ≤ 6000000 := hI.2.2.2.2.1
  have dn_I : (∀ b, K b = 0 ∨ K b = 1 ∨ K b = 3 ∨ K b = 6 → I b = I b) := fun _ _ => rfl
  have dj_J : (∀ b, ¬ (K b = 21 ∨ K b = 22 ∨ K b = 33 ∨ K b = 34) → J b = J b) := fun _ _ => rfl
  obtain ⟨A, hAe⟩ : ∃ A : Nat → Prop, A = (fun q => q ∈ L ∨ s.heap.size ≤ q) := ⟨_, rfl⟩
  rw [← hAe]
  have hAL : ∀ q, q ∈ L → A q := fun q h => by rw [hAe]; exact Or.inl h
  have hA : ∀ q, s.heap.size ≤ q → A q := fun q h => by rw [hAe]; exact Or.inr h
  have hD : ∀ F, va_D A (va_pl L F) := fun F => (hD0 F).weaken (fun k q hk _ => hAL _ (pl_mem hk))
  obtain ⟨H, hHe⟩ : ∃ H : Heap, H = s.heap := ⟨_, rfl⟩
  have hS : va_S A s.heap H [] := by rw [hHe]; exact va_S.rf
  rw [← hHe] at hP
  have hl := lv_entry ([.ref p0, .int p1, .int p2, .int p3, .int p4, .int p5]) (n := 11) (Nat.le_of_ble_eq_true rfl)
  rw [lg_entry_eq]
  generalize (lg_sl ([.ref p0, .int p1, .int p2, .int p3, .int p4, .int p5]) ++ List.replicate (11 - (lg_sl ([.ref p0, .int p1, .int p2, .int p3, .int p4, .int p5])).length) Slot.unset).toArray = ls at hl ⊢
  have hl : lv_has ls 11 [(0, .ref p0), (1, .int p1), (2, .int p2), (3, .int p3), (4, .int p4), (5, .int p5)] := hl
  rw [← hHe]
  refine namedW (fun R Qz hR hQz => ?_)
  refine lv_aload_n hx hb dX7_join_0 rfl (lv_at hl 0 rfl) ?_
  refine lv_iload_n hx hb dX7_join_1 rfl (lv_at hl 1 rfl) ?_
  refine ro_i (va_runV (As := [.int p1]) (rest := []) ⟨hx, hb, hml, hown, hts⟩ (s_X7_isMask l dC dI cs L K G Q hQ x0 m0 tx tm H.size I J hI p0 hLp0 hKp0 p1) (cwV 1 hts (gV pq1364 pq1366 pq31 pq81 pq1367) rfl rfl rfl (by decide +kernel) ⟨(by rw [hR]; exact (Nat.le_of_ble_eq_true rfl)), (by rw [hR]; exact (Nat.le_of_ble_eq_true rfl))⟩) (sP_V hP hD hK hN hLp0 hKp0 rfl rfl) rfl rfl hl.1 rfl (lv_room (Nat.le_of_ble_eq_true rfl)) dX7_join_2 ⟨(by rw [hR]; exact (Nat.le_of_ble_eq_true rfl)), (by rw [hR]; exact (Nat.le_of_ble_eq_true rfl))⟩) hS hP (fun z2 H locs hz2 hP hS => ?_)
  obtain ⟨bz2, imz2, xpz2⟩ := hz2
  refine lv_if_eq (tgt := 58) hx hb dX7_join_5 (by decide) (fun c5 => ?_) (fun c5 => ?_)
  · have t5 := tq_eq (k := z2.toInt) (q := (0)) c5 rfl (by decide +kernel)
    refine lv_iconst (v := (-1)) hx hb dX7_join_58 (by decide +kernel) ?_
    subst hR; subst hQz
    exact W.iret (v := (-1)) hx hb hr (fun t ht hW => ⟨⟨(-1), (), rfl, (fun σ ok A => by have ec : I (a0 Q p0 0) 0 = σ.1.1 0 := cmA_n A (by decide); rw [jn_n (fun q => by unfold jnC at q; have q1 := q.2.2; first | exact xpz2.2 t5 (by rw [ec]; exact q.1) | exact xpz10.2 t13 (by rw [ec]; exact q.2.1) | exact xpz24 t27 (by omega) | exact xpz39 t42 (by omega) | exact xpz52 t55 (by omega))]; show (-1 : Int32).toInt = -1; decide +kernel), ⟨I, J, ⟨hI, dn_I, (fun σ ok A => by have ec : I (a0 Q p0 0) 0 = σ.1.1 0 := cmA_n A (by decide); rw [jn_n (fun q => by unfold jnC at q; have q1 := q.2.2; first | exact xpz2.2 t5 (by rw [ec]; exact q.1) | exact xpz10.2 t13 (by rw [ec]; exact q.2.1) | exact xpz24 t27 (by omega) | exact xpz39 t42 (by omega) | exact xpz52 t55 (by omega))]; exact A), dj_J⟩, by rw [ht]; exact hP⟩⟩, hS.F ht⟩) hS.2.2 dX7_join_59
  · have t5 := tq_ne (k := z2.toInt) (q := (0)) c5 rfl (by decide +kernel)
    have i5 := imz2 t5
    refine lv_aload_n hx hb dX7_join_8 rfl (lv_at hl 0 rfl) ?_
    refine lv_iload_n hx hb dX7_join_9 rfl (lv_at hl 2 rfl) ?_
    refine ro_i (va_runV (As := [.int p2]) (rest := []) ⟨hx, hb, hml, hown, hts⟩ (s_X7_isMask l dC dI cs L K G Q hQ x0 m0 tx tm H.size I J hI p0 hLp0 hKp0 p2) (cwV 1 hts (gV pq1364 pq1366 pq31 pq81 pq1367) rfl rfl rfl (by decide +kernel) ⟨(by rw [hR]; exact (Nat.le_of_ble_eq_true rfl)), (by rw [hR]; exact (Nat.le_of_ble_eq_true rfl))⟩) (sP_V hP hD hK hN hLp0 hKp0 rfl rfl) rfl rfl hl.1 rfl (lv_room (Nat.le_of_ble_eq_true rfl)) dX7_join_10 ⟨(by rw [hR]; exact (Nat.le_of_ble_eq_true rfl)), (by rw [hR]; exact (Nat.le_of_ble_eq_true rfl))⟩) hS hP (fun z10 H locs hz10 hP hS => ?_)
    obtain ⟨bz10, imz10, xpz10⟩ := hz10
    refine lv_if_eq (tgt := 58) hx hb dX7_join_13 (by decide) (fun c13 => ?_) (fun c13 => ?_)
    · have t13 := tq_eq (k := z10.toInt) (q := (0)) c13 rfl (by decide +kernel)
      refine lv_iconst (v := (-1)) hx hb dX7_join_58 (by decide +kernel) ?_
      subst hR; subst hQz
      exact W.iret (v := (-1)) hx hb hr (fun t ht hW => ⟨⟨(-1), (), rfl, (fun σ ok A => by have ec : I (a0 Q p0 0) 0 = σ.1.1 0 := cmA_n A (by decide); rw [jn_n (fun q => by unfold jnC at q; have q1 := q.2.2; first | exact xpz2.2 t5 (by rw [ec]; exact q.1) | exact xpz10.2 t13 (by rw [ec]; exact q.2.1) | exact xpz24 t27 (by omega) | exact xpz39 t42 (by omega) | exact xpz52 t55 (by omega))]; show (-1 : Int32).toInt = -1; decide +kernel), ⟨I, J, ⟨hI, dn_I, (fun σ ok A => by have ec : I (a0 Q p0 0) 0 = σ.1.1 0 := cmA_n A (by decide); rw [jn_n (fun q => by unfold jnC at q; have q1 := q.2.2; first | exact xpz2.2 t5 (by rw [ec]; exact q.1) | exact xpz10.2 t13 (by rw [ec]; exact q.2.1) | exact xpz24 t27 (by omega) | exact xpz39 t42 (by omega) | exact xpz52 t55 (by omega))]; exact A), dj_J⟩, by rw [ht]; exact hP⟩⟩, hS.F ht⟩) hS.2.2 dX7_join_59
    · have t13 := tq_ne (k := z10.toInt) (q := (0)) c13 rfl (by decide +kernel)
      have i13 := imz10 t13
      refine lv_iload_n hx hb dX7_join_16 rfl (lv_at hl 3 rfl) ?_
      refine lv_i2l hx hb dX7_join_17 rfl ?_
      refine lv_topl (fun z17 ez17 => ?_)
      have bz17 := tq_i2l (k := p3.toInt) ez17 rfl
      refine lv_ldc2 hx hb hown (hts _ pq1411) dX7_join_18 ?_
      refine lv_ldc2 hx hb hown (hts _ pq1412) dX7_join_21 ?_
      refine ro_i (va_runS (As := [.long z17, .long (-99), .long 99]) (rest := []) ⟨hx, hb, hml, hown, hts⟩ (s_X7_in l dC dI cs L K Q H.size I J z17 (-99) 99) (va_cwS 3 hts (gS pq1234 pq1235 pq81 pq1236) rfl rfl rfl (by decide +kernel) ⟨(by rw [hR]; exact (Nat.le_of_ble_eq_true rfl)), (by rw [hR]; exact (Nat.le_of_ble_eq_true rfl))⟩) (sP_S hP hD hK hN) rfl rfl hl.1 rfl (lv_room (Nat.le_of_ble_eq_true rfl)) dX7_join_24 ⟨(by rw [hR]; exact (Nat.le_of_ble_eq_true rfl)), (by rw [hR]; exact (Nat.le_of_ble_eq_true rfl))⟩) hS hP (fun z24 H locs hz24 hP hS => ?_)
      have csl24_m99 : ((-99) : Int64).toInt = (-99) := by decide +kernel
      have csl24_99 : (99 : Int64).toInt = 99 := by decide +kernel
      obtain ⟨bz24, imz24, xpz24⟩ := hz24
      refine lv_if_eq (tgt := 58) hx hb dX7_join_27 (by decide) (fun c27 => ?_) (fun c27 => ?_)
      · have t27 := tq_eq (k := z24.toInt) (q := (0)) c27 rfl (by decide +kernel)
        refine lv_iconst (v := (-1)) hx hb dX7_join_58 (by decide +kernel) ?_
        subst hR; subst hQz
        exact W.iret (v := (-1)) hx hb hr (fun t ht hW => ⟨⟨(-1), (), rfl, (fun σ ok A => by have ec : I (a0 Q p0 0) 0 = σ.1.1 0 := cmA_n A (by decide); rw [jn_n (fun q => by unfold jnC at q; have q1 := q.2.2; first | exact xpz2.2 t5 (by rw [ec]; exact q.1) | exact xpz10.2 t13 (by rw [ec]; exact q.2.1) | exact xpz24 t27 (by omega) | exact xpz39 t42 (by omega) | exact xpz52 t55 (by omega))]; show (-1 : Int32).toInt = -1; decide +kernel), ⟨I, J, ⟨hI, dn_I, (fun σ ok A => by have ec : I (a0 Q p0 0) 0 = σ.1.1 0 := cmA_n A (by decide); rw [jn_n (fun q => by unfold jnC at q; have q1 := q.2.2; first | exact xpz2.2 t5 (by rw [ec]; exact q.1) | exact xpz10.2 t13 (by rw [ec]; exact q.2.1) | exact xpz24 t27 (by omega) | exact xpz39 t42 (by omega) | exact xpz52 t55 (by omega))]; exact A), dj_J⟩, by rw [ht]; exact hP⟩⟩, hS.F ht⟩) hS.2.2 dX7_join_59
      · have t27 := tq_ne (k := z24.toInt) (q := (0)) c27 rfl (by decide +kernel)
        have i27 := imz24 t27
        refine lv_iload hx hb dX7_join_30 (lv_at hl 4 rfl) ?_
        refine lv_i2l hx hb dX7_join_32 rfl ?_
        refine lv_topl (fun z32 ez32 => ?_)
        have bz32 := tq_i2l (k := p4.toInt) ez32 rfl
        refine lv_ldc2 hx hb hown (hts _ pq1411) dX7_join_33 ?_
        refine lv_ldc2 hx hb hown (hts _ pq1412) dX7_join_36 ?_
        refine ro_i (va_runS (As := [.long z32, .long (-99), .long 99]) (rest := []) ⟨hx, hb, hml, hown, hts⟩ (s_X7_in l dC dI cs L K Q H.size I J z32 (-99) 99) (va_cwS 3 hts (gS pq1234 pq1235 pq81 pq1236) rfl rfl rfl (by decide +kernel) ⟨(by rw [hR]; exact (Nat.le_of_ble_eq_true rfl)), (by rw [hR]; exact (Nat.le_of_ble_eq_true rfl))⟩) (sP_S hP hD hK hN) rfl rfl hl.1 rfl (lv_room (Nat.le_of_ble_eq_true rfl)) dX7_join_39 ⟨(by rw [hR]; exact (Nat.le_of_ble_eq_true rfl)), (by rw [hR]; exact (Nat.le_of_ble_eq_true rfl))⟩) hS hP (fun z39 H locs hz39 hP hS => ?_)
        have csl39_m99 : ((-99) : Int64).toInt = (-99) := by decide +kernel
        have csl39_99 : (99 : Int64).toInt = 99 := by decide +kernel
        obtain ⟨bz39, imz39, xpz39⟩ := hz39
        refine lv_if_eq (tgt := 58) hx hb dX7_join_42 (by decide) (fun c42 => ?_) (fun c42 => ?_)
        · have t42 := tq_eq (k := z39.toInt) (q := (0)) c42 rfl (by decide +kernel)
          refine lv_iconst (v := (-1)) hx hb dX7_join_58 (by decide +kernel) ?_
          subst hR; subst hQz
          exact W.iret (v := (-1)) hx hb hr (fun t ht hW => ⟨⟨(-1), (), rfl, (fun σ ok A => by have ec : I (a0 Q p0 0) 0 = σ.1.1 0 := cmA_n A (by decide); rw [jn_n (fun q => by unfold jnC at q; have q1 := q.2.2; first | exact xpz2.2 t5 (by rw [ec]; exact q.1) | exact xpz10.2 t13 (by rw [ec]; exact q.2.1) | exact xpz24 t27 (by omega) | exact xpz39 t42 (by omega) | exact xpz52 t55 (by omega))]; show (-1 : Int32).toInt = -1; decide +kernel), ⟨I, J, ⟨hI, dn_I, (fun σ ok A => by have ec : I (a0 Q p0 0) 0 = σ.1.1 0 := cmA_n A (by decide); rw [jn_n (fun q => by unfold jnC at q; have q1 := q.2.2; first | exact xpz2.2 t5 (by rw [ec]; exact q.1) | exact xpz10.2 t13 (by rw [ec]; exact q.2.1) | exact xpz24 t27 (by omega) | exact xpz39 t42 (by omega) | exact xpz52 t55 (by omega))]; exact A), dj_J⟩, by rw [ht]; exact hP⟩⟩, hS.F ht⟩) hS.2.2 dX7_join_59
        · have t42 := tq_ne (k := z39.toInt) (q := (0)) c42 rfl (by decide +kernel)
          have i42 := imz39 t42
          refine lv_iload hx hb dX7_join_45 (lv_at hl 5 rfl) ?_
          refine lv_i2l hx hb dX7_join_47 rfl ?_
          refine lv_topl (fun z47 ez47 => ?_)
          have bz47 := tq_i2l (k := p5.toInt) ez47 rfl
          refine lv_lconst (v := 0) hx hb dX7_join_48 (by decide +kernel) ?_
          refine lv_ldc2 hx hb hown (hts _ pq1344) dX7_join_49 ?_
          refine ro_i (va_runS (As := [.long z47, .long 0, .long 3]) (rest := []) ⟨hx, hb, hml, hown, hts⟩ (s_X7_in l dC dI cs L K Q H.size I J z47 0 3) (va_cwS 3 hts (gS pq1234 pq1235 pq81 pq1236) rfl rfl rfl (by decide +kernel) ⟨(by rw [hR]; exact (Nat.le_of_ble_eq_true rfl)), (by rw [hR]; exact (Nat.le_of_ble_eq_true rfl))⟩) (sP_S hP hD hK hN) rfl rfl hl.1 rfl (lv_room (Nat.le_of_ble_eq_true rfl)) dX7_join_52 ⟨(by rw [hR]; exact (Nat.le_of_ble_eq_true rfl)), (by rw [hR]; exact (Nat.le_of_ble_eq_true rfl))⟩) hS hP (fun z52 H locs hz52 hP hS => ?_)
          have csl52_0 : (0 : Int64).toInt = 0 := by decide +kernel
          have csl52_3 : (3 : Int64).toInt = 3 := by decide +kernel
          obtain ⟨bz52, imz52, xpz52⟩ := hz52
          refine lv_if_ne (tgt := 60) hx hb dX7_join_55 (by decide) (fun c55 => ?_) (fun c55 => ?_)
          · have t55 := tq_ne (k := z52.toInt) (q := (0)) c55 rfl (by decide +kernel)
            have i55 := imz52 t55
            refine lv_aload_n hx hb dX7_join_60 rfl (lv_at hl 0 rfl) ?_
            refine sw_v (Z := (fun I1 J1 => Iv L K x0 m0 tx tm I1 ∧ I1 = I ∧ (∀ k, k < 80 → J1 (a0 Q p0 19) k = 0) ∧ (∀ b, ¬ (K b = 34) → J1 b = J b))) (va_runV (As := []) (rest := []) ⟨hx, hb, hml, hown, hts⟩ (s_X7_clearsMade l dC dI cs L K G Q hQ x0 m0 tx tm H.size I J hI p0 hLp0 hKp0) (cwV 0 hts (gV pq1391 pq1393 pq36 pq81 pq1394) rfl rfl rfl (by decide +kernel) ⟨(by rw [hR]; exact (Nat.le_of_ble_eq_true rfl)), (by rw [hR]; exact (Nat.le_of_ble_eq_true rfl))⟩) (sP_V hP hD hK hN hLp0 hKp0 rfl rfl) rfl rfl hl.1 rfl (lv_room (Nat.le_of_ble_eq_true rfl)) dX7_join_61 ⟨(by rw [hR]; exact (Nat.le_of_ble_eq_true rfl)), (by rw [hR]; exact (Nat.le_of_ble_eq_true rfl))⟩) hS hAL hA (fun Iz61 Jz61 H locs hz61 hIz61 hP hS => ?_)
            obtain ⟨hIz61, sm61, jz61, djc61⟩ := hIz61
            have dj_Jz61 : (∀ b, ¬ (K b = 21 ∨ K b = 22 ∨ K b = 33 ∨ K b = 34) → Jz61 b = J b) := fun b hc => (djc61 b (fun z => hc (by omega))).trans (dj_J b hc)
            obtain rfl : I = Iz61 := sm61.symm
            refine lv_iconst (v := 0) hx hb dX7_join_64 (by decide +kernel) ?_
            refine lv_istore (lv' := [(6, .int 0), (0, .ref p0), (1, .int p1), (2, .int p2), (3, .int p3), (4, .int p4), (5, .int p5)]) hx hb dX7_join_65 hl (by decide) rfl (fun ls hl => ?_)
            have key67 := blocks (fun n => ∀ (v67_6 : Int32) (J67 : Nat → Nat → Int64) (H : Heap) (lo : List Loc) (ls : Array Slot), (41 - v67_6.toInt).toNat = n → ((0) ≤ v67_6.toInt ∧ v67_6.toInt ≤ 40) → (∀ b, ¬ (K b = 21 ∨ K b = 22 ∨ K b = 33 ∨ K b = 34) → J67 b = J b) → (∀ b, ¬ K b = 34 → J67 b = J b) → (∀ σ : Sx, okF σ.1 → cmA Q I J p0 σ → mK σ p1 → mK σ p2 → rxI (J67 (a0 Q p0 19)) (joinD (mW σ p1).toInt (mH σ p1).toInt (mF σ p1) (mF σ p2) p3.toInt p4.toInt p5.toInt) v67_6.toInt (0)) → va_P (dC, dI) vwCl (Wd cs L K I J67 Q) H → va_S A s.heap H lo → lv_has ls 11 [(0, .ref p0), (1, .int p1), (2, .int p2), (3, .int p3), (4, .int p4), (5, .int p5), (6, .int v67_6)] → W p l e R s m (([.ref p0, .int p1, .int p2, .int p3, .int p4, .int p5] : List Value).toArray) below meth c H lo 0 0 Qz (F0 m 67 ls [])) (by
              intro n ih67
              intro v67_6 J67 H lo ls hmu67 bv67_6 dj_J67 hd67 h67 hP hS hl
              refine lv_iload hx hb dX7_join_67 (lv_at hl 6 rfl) ?_
              refine lv_aload_n hx hb dX7_join_69 rfl (lv_at hl 0 rfl) ?_
              refine lv_iload_n hx hb dX7_join_70 rfl (lv_at hl 1 rfl) ?_
              refine ro_i (va_runV (As := [.int p1]) (rest := [.int v67_6]) ⟨hx, hb, hml, hown, hts⟩ (s_X7_high l dC dI cs L K G Q hQ x0 m0 tx tm H.size I J67 hI p0 hLp0 hKp0 p1 ⟨by omega, by omega⟩) (cwV 1 hts (gV pq1372 pq1374 pq33 pq81 pq1375) rfl rfl rfl (by decide +kernel) ⟨(by rw [hR]; exact (Nat.le_of_ble_eq_true rfl)), (by rw [hR]; exact (Nat.le_of_ble_eq_true rfl))⟩) (sP_V hP hD hK hN hLp0 hKp0 rfl rfl) rfl rfl hl.1 rfl (lv_room (Nat.le_of_ble_eq_true rfl)) dX7_join_71 ⟨(by rw [hR]; exact (Nat.le_of_ble_eq_true rfl)), (by rw [hR]; exact (Nat.le_of_ble_eq_true rfl))⟩) hS hP (fun z71 H locs hz71 hP hS => ?_)
              obtain ⟨bz71, fez71⟩ := hz71
              refine lv_icmp_ge (tgt := 231) hx hb dX7_join_74 (by decide) (fun c74 => ?_) (fun c74 => ?_)
              · have t74 := tq_le (k := z71.toInt) (q := v67_6.toInt) c74 rfl rfl
                refine lv_aload_n hx hb dX7_join_231 rfl (lv_at hl 0 rfl) ?_
                refine sw_v (Z := (fun I1 J1 => Iv L K x0 m0 tx tm I1 ∧ (∀ b, ¬ (K b = 7 ∨ K b = 19 ∨ K b = 30) → I1 b = I b) ∧ (∀ b, K b = 0 ∨ K b = 1 ∨ K b = 3 ∨ K b = 6 → I1 b = I b) ∧ (∀ σ : Sx, cmA Q I J67 p0 σ → cmA Q I1 J1 p0 (rem σ)) ∧ (∀ b, ¬ (K b = 22 ∨ K b = 33) → J1 b = J67 b))) (va_runV (As := []) (rest := []) ⟨hx, hb, hml, hown, hts⟩ (s_X7_keepsPast l dC dI cs L K G Q hQ x0 m0 tx tm H.size I J67 hI p0 hLp0 hKp0) (cwV 0 hts (gV pq1324 pq1326 pq26 pq81 pq1327) rfl rfl rfl (by decide +kernel) ⟨(by rw [hR]; exact (Nat.le_of_ble_eq_true rfl)), (by rw [hR]; exact (Nat.le_of_ble_eq_true rfl))⟩) (sP_V hP hD hK hN hLp0 hKp0 rfl rfl) rfl rfl hl.1 rfl (lv_room (Nat.le_of_ble_eq_true rfl)) dX7_join_232 ⟨(by rw [hR]; exact (Nat.le_of_ble_eq_true rfl)), (by rw [hR]; exact (Nat.le_of_ble_eq_true rfl))⟩) hS hAL hA (fun Iz232 Jz232 H locs hz232 hIz232 hP hS => ?_)
                obtain ⟨hIz232, frc232, dnc232, jz232, djc232⟩ := hIz232
                have dj_Jz232 : (∀ b, ¬ (K b = 21 ∨ K b = 22 ∨ K b = 33 ∨ K b = 34) → Jz232 b = J b) := fun b hc => (djc232 b (fun z => hc (by omega))).trans (dj_J67 b hc)
                have dn_Iz232 : (∀ b, K b = 0 ∨ K b = 1 ∨ K b = 3 ∨ K b = 6 → Iz232 b = I b) := fun b hc => (dnc232 b (by omega)).trans (dn_I b hc)
                refine lv_aload_n hx hb dX7_join_235 rfl (lv_at hl 0 rfl) ?_
                refine lv_iload_n hx hb dX7_join_236 rfl (lv_at hl 1 rfl) ?_
                refine sw_v (Z := (fun I1 J1 => Iv L K x0 m0 tx tm I1 ∧ I1 = Iz232 ∧ (∀ k, k < 640 → J1 (a0 Q p0 5) k = if 80 * p1.toInt.toNat ≤ k ∧ k < 80 * p1.toInt.toNat + 80 then Jz232 (a0 Q p0 19) (k - 80 * p1.toInt.toNat) else Jz232 (a0 Q p0 5) k) ∧ (∀ b, ¬ (K b = 21) → J1 b = Jz232 b))) (va_runV (As := [.int p1]) (rest := []) ⟨hx, hb, hml, hown, hts⟩ (s_X7_takesMade l dC dI cs L K G Q hQ x0 m0 tx tm H.size Iz232 Jz232 hIz232 p0 hLp0 hKp0 p1 ⟨by omega, by omega⟩) (cwV 1 hts (gV pq1399 pq1401 pq38 pq81 pq1402) rfl rfl rfl (by decide +kernel) ⟨(by rw [hR]; exact (Nat.le_of_ble_eq_true rfl)), (by rw [hR]; exact (Nat.le_of_ble_eq_true rfl))⟩) (sP_V hP hD hK hN hLp0 hKp0 rfl rfl) rfl rfl hl.1 rfl (lv_room (Nat.le_of_ble_eq_true rfl)) dX7_join_237 ⟨(by rw [hR]; exact (Nat.le_of_ble_eq_true rfl)), (by rw [hR]; exact (Nat.le_of_ble_eq_true rfl))⟩) hS hAL hA (fun Iz237 Jz237 H locs hz237 hIz237 hP hS => ?_)
                obtain ⟨hIz237, sm237, jz237, djc237⟩ := hIz237
                have dj_Jz237 : (∀ b, ¬ (K b = 21 ∨ K b = 22 ∨ K b = 33 ∨ K b = 34) → Jz237 b = J b) := fun b hc => (djc237 b (fun z => hc (by omega))).trans (dj_Jz232 b hc)
                obtain rfl : Iz232 = Iz237 := sm237.symm
                refine lv_aload_n hx hb dX7_join_240 rfl (lv_at hl 0 rfl) ?_
                refine lv_iload_n hx hb dX7_join_241 rfl (lv_at hl 1 rfl) ?_
                refine ro_i (va_runV (As := [.int p1]) (rest := []) ⟨hx, hb, hml, hown, hts⟩ (s_X7_dotsOf l dC dI cs L K G Q hQ x0 m0 tx tm H.size Iz232 Jz237 hIz232 p0 hLp0 hKp0 p1 ⟨by omega, by omega⟩) (cwV 1 hts (gV pq1413 pq1415 pq39 pq81 pq1416) rfl rfl rfl (by decide +kernel) ⟨(by rw [hR]; exact (Nat.le_of_ble_eq_true rfl)), (by rw [hR]; exact (Nat.le_of_ble_eq_true rfl))⟩) (sP_V hP hD hK hN hLp0 hKp0 rfl rfl) rfl rfl hl.1 rfl (lv_room (Nat.le_of_ble_eq_true rfl)) dX7_join_242 ⟨(by rw [hR]; exact (Nat.le_of_ble_eq_true rfl)), (by rw [hR]; exact (Nat.le_of_ble_eq_true rfl))⟩) hS hP (fun z242 H locs hz242 hP hS => ?_)
                obtain ⟨bz242, xpz242⟩ := hz242
                subst hR; subst hQz
                exact W.iret (v := z242) hx hb hr (fun t ht hW => ⟨⟨z242, (), rfl, (fun σ ok A => by have ec : I (a0 Q p0 0) 0 = σ.1.1 0 := cmA_n A (by decide); have hm : mK σ p1 := (by have q := xpz2.1 t5; rw [ec] at q; exact q); have hm2 : mK σ p2 := (by have q := xpz10.1 t13; rw [ec] at q; exact q); have hC : jnC σ p1 p2 p3 p4 p5 := ⟨hm, hm2, ⟨by omega, by omega⟩, ⟨by omega, by omega⟩, ⟨by omega, by omega⟩⟩; have F := cmA_F A (m := p1) (by omega); have eH := congrArg Int32.toInt (show z71 = I (a0 Q p0 0) (11 + p1.toInt.toNat) from fez71); have F2 : (I (a0 Q p0 0) (11 + p1.toInt.toNat)).toInt = (mH σ p1).toInt := F.2.1; have A2 := cmA_fr (I1 := I) (J1 := J67) hQ hLp0 hKp0 (fun _ _ => rfl) (fun b hb => hd67 b (by omega)) rfl A; have A3 := jz232 σ A2; have fin := rx_fin (h := (mH σ p1).toInt) (h67 σ ok A hm hm2) (fun x y q => by have := joinD_b x y q; omega) (by omega); have W := tk_fin jz237 (D := (joinD (mW σ p1).toInt (mH σ p1).toInt (mF σ p1) (mF σ p2) p3.toInt p4.toInt p5.toInt)) (fun x y => by rw [djc232 _ (by have := (made_k hQ hLp0 hKp0); omega)]; exact fin x y); rw [jn_y hC]; show z242.toInt = (totr (jnW σ p1 p2 p3 p4 p5) 40 : Int); rw [xpz242, totr_congr (f := rF Q Jz237 p0 p1.toInt.toNat) (g := jnW σ p1 p2 p3 p4 p5) (fun k hk => by show Jz237 (a0 Q p0 5) (80 * p1.toInt.toNat + k) = _; rw [W _ (by omega), if_pos (by omega)]; congr 1; omega)]), ⟨Iz232, Jz237, ⟨hIz232, dn_Iz232, (fun σ ok A => by have ec : I (a0 Q p0 0) 0 = σ.1.1 0 := cmA_n A (by decide); have hm : mK σ p1 := (by have q := xpz2.1 t5; rw [ec] at q; exact q); have hm2 : mK σ p2 := (by have q := xpz10.1 t13; rw [ec] at q; exact q); have hC : jnC σ p1 p2 p3 p4 p5 := ⟨hm, hm2, ⟨by omega, by omega⟩, ⟨by omega, by omega⟩, ⟨by omega, by omega⟩⟩; have F := cmA_F A (m := p1) (by omega); have eH := congrArg Int32.toInt (show z71 = I (a0 Q p0 0) (11 + p1.toInt.toNat) from fez71); have F2 : (I (a0 Q p0 0) (11 + p1.toInt.toNat)).toInt = (mH σ p1).toInt := F.2.1; have A2 := cmA_fr (I1 := I) (J1 := J67) hQ hLp0 hKp0 (fun _ _ => rfl) (fun b hb => hd67 b (by omega)) rfl A; have A3 := jz232 σ A2; have fin := rx_fin (h := (mH σ p1).toInt) (h67 σ ok A hm hm2) (fun x y q => by have := joinD_b x y q; omega) (by omega); have W := tk_fin jz237 (D := (joinD (mW σ p1).toInt (mH σ p1).toInt (mF σ p1) (mF σ p2) p3.toInt p4.toInt p5.toInt)) (fun x y => by rw [djc232 _ (by have := (made_k hQ hLp0 hKp0); omega)]; exact fin x y); rw [jn_y hC]; have B := cmA_setM (m := p1.toInt.toNat) (w := mW σ p1) (h := mH σ p1) (f := jnW σ p1 p2 p3 p4 p5) (I := Iz232) (J := Jz232) (I1 := Iz232) (J1 := Jz237) hQ hLp0 hKp0 (by omega) (by rw [upd_same (show mW σ p1 = Iz232 (a0 Q p0 0) (3 + p1.toInt.toNat) from (by rw [cmA_n A3 (by omega), ← rem_W])), upd_same (show mH σ p1 = Iz232 (a0 Q p0 0) (11 + p1.toInt.toNat) from (by rw [cmA_n A3 (by omega), ← rem_H]))]) W (fun _ _ => rfl) (fun b hb => djc237 b (by omega)) A3; rw [rem_1] at B; exact B), dj_Jz237⟩, by rw [ht]; exact hP⟩⟩, hS.F ht⟩) hS.2.2 dX7_join_245
              · have t74 := tq_nle (k := z71.toInt) (q := v67_6.toInt) c74 rfl rfl
                refine lv_iconst (v := 0) hx hb dX7_join_77 (by decide +kernel) ?_
                refine lv_istore (lv' := [(7, .int 0), (0, .ref p0), (1, .int p1), (2, .int p2), (3, .int p3), (4, .int p4), (5, .int p5), (6, .int v67_6)]) hx hb dX7_join_78 hl (by decide) rfl (fun ls hl => ?_)
                have key80 := blocks (fun n => ∀ (v80_7 : Int32) (J80 : Nat → Nat → Int64) (H : Heap) (lo : List Loc) (ls : Array Slot), (101 - v80_7.toInt).toNat = n → ((0) ≤ v80_7.toInt ∧ v80_7.toInt ≤ 100) → (∀ b, ¬ (K b = 21 ∨ K b = 22 ∨ K b = 33 ∨ K b = 34) → J80 b = J b) → (∀ b, ¬ K b = 34 → J80 b = J b) → (∀ σ : Sx, okF σ.1 → cmA Q I J p0 σ → mK σ p1 → mK σ p2 → rxI (J80 (a0 Q p0 19)) (joinD (mW σ p1).toInt (mH σ p1).toInt (mF σ p1) (mF σ p2) p3.toInt p4.toInt p5.toInt) v67_6.toInt (v80_7.toInt)) → va_P (dC, dI) vwCl (Wd cs L K I J80 Q) H → va_S A s.heap H lo → lv_has ls 11 [(0, .ref p0), (1, .int p1), (2, .int p2), (3, .int p3), (4, .int p4), (5, .int p5), (6, .int v67_6), (7, .int v80_7)] → W p l e R s m (([.ref p0, .int p1, .int p2, .int p3, .int p4, .int p5] : List Value).toArray) below meth c H lo 0 0 Qz (F0 m 80 ls [])) (by
                  intro n ih80
                  intro v80_7 J80 H lo ls hmu80 bv80_7 dj_J80 hd80 h80 hP hS hl
                  refine lv_iload hx hb dX7_join_80 (lv_at hl 7 rfl) ?_
                  refine lv_aload_n hx hb dX7_join_82 rfl (lv_at hl 0 rfl) ?_
                  refine lv_iload_n hx hb dX7_join_83 rfl (lv_at hl 1 rfl) ?_
                  refine ro_i (va_runV (As := [.int p1]) (rest := [.int v80_7]) ⟨hx, hb, hml, hown, hts⟩ (s_X7_wide l dC dI cs L K G Q hQ x0 m0 tx tm H.size I J80 hI p0 hLp0 hKp0 p1 ⟨by omega, by omega⟩) (cwV 1 hts (gV pq1368 pq1370 pq32 pq81 pq1371) rfl rfl rfl (by decide +kernel) ⟨(by rw [hR]; exact (Nat.le_of_ble_eq_true rfl)), (by rw [hR]; exact (Nat.le_of_ble_eq_true rfl))⟩) (sP_V hP hD hK hN hLp0 hKp0 rfl rfl) rfl rfl hl.1 rfl (lv_room (Nat.le_of_ble_eq_true rfl)) dX7_join_84 ⟨(by rw [hR]; exact (Nat.le_of_ble_eq_true rfl)), (by rw [hR]; exact (Nat.le_of_ble_eq_true rfl))⟩) hS hP (fun z84 H locs hz84 hP hS => ?_)
                  obtain ⟨bz84, fez84⟩ := hz84
                  refine lv_icmp_ge (tgt := 225) hx hb dX7_join_87 (by decide) (fun c87 => ?_) (fun c87 => ?_)
                  · have t87 := tq_le (k := z84.toInt) (q := v80_7.toInt) c87 rfl rfl
                    obtain ⟨z225, ez225⟩ : ∃ y : Int32, y = v67_6 + 1 := ⟨_, rfl⟩
                    refine lv_iinc (v := z225) (lv' := [(6, .int z225), (0, .ref p0), (1, .int p1), (2, .int p2), (3, .int p3), (4, .int p4), (5, .int p5), (7, .int v80_7)]) hx hb dX7_join_225 hl (k := 6) rfl (by rw [ez225]; rfl) (by decide) rfl (fun ls hl => ?_)
                    have bz225 := tq_add (k := v67_6.toInt) (q := 1) ez225 rfl (by decide +kernel) (by omega) (by omega)
                    refine lv_goto (tgt := 67) hx hb dX7_join_228 (by decide) ?_
                    exact ih67 _ (by omega) z225 J80 _ _ _ rfl ⟨by omega, by omega⟩ dj_J80 hd80 (fun σ ok A hm hm2 => by have F := cmA_F A (m := p1) (by omega); have eW := congrArg Int32.toInt (show z84 = I (a0 Q p0 0) (3 + p1.toInt.toNat) from fez84); have F1 : (I (a0 Q p0 0) (3 + p1.toInt.toNat)).toInt = (mW σ p1).toInt := F.1; have eH := congrArg Int32.toInt (show z71 = I (a0 Q p0 0) (11 + p1.toInt.toNat) from fez71); have F2 : (I (a0 Q p0 0) (11 + p1.toInt.toNat)).toInt = (mH σ p1).toInt := F.2.1; exact rx_nl (w := (mW σ p1).toInt) (h80 σ ok A hm hm2) (fun x y q => by have := joinD_b x y q; omega) (by omega) (by omega)) hP hS (lv_sub hl [1, 2, 3, 4, 5, 6, 0] rfl)
                  · have t87 := tq_nle (k := z84.toInt) (q := v80_7.toInt) c87 rfl rfl
                    refine lv_aload_n hx hb dX7_join_90 rfl (lv_at hl 0 rfl) ?_
                    refine lv_iload_n hx hb dX7_join_91 rfl (lv_at hl 1 rfl) ?_
                    refine lv_iload hx hb dX7_join_92 (lv_at hl 7 rfl) ?_
                    refine lv_iload hx hb dX7_join_94 (lv_at hl 6 rfl) ?_
                    refine ro_i (va_runV (As := [.int p1, .int v80_7, .int v67_6]) (rest := []) ⟨hx, hb, hml, hown, hts⟩ (s_X7_has l dC dI cs L K G Q hQ x0 m0 tx tm H.size I J80 hI p0 hLp0 hKp0 p1 ⟨by omega, by omega⟩ v80_7 v67_6) (cwV 3 hts (gV pq1376 pq1378 pq34 pq81 pq1379) rfl rfl rfl (by decide +kernel) ⟨(by rw [hR]; exact (Nat.le_of_ble_eq_true rfl)), (by rw [hR]; exact (Nat.le_of_ble_eq_true rfl))⟩) (sP_V hP hD hK hN hLp0 hKp0 rfl rfl) rfl rfl hl.1 rfl (lv_room (Nat.le_of_ble_eq_true rfl)) dX7_join_96 ⟨(by rw [hR]; exact (Nat.le_of_ble_eq_true rfl)), (by rw [hR]; exact (Nat.le_of_ble_eq_true rfl))⟩) hS hP (fun z96 H locs hz96 hP hS => ?_)
                    obtain ⟨bz96, imz96, xpz96⟩ := hz96
                    refine lv_istore (lv' := [(8, .int z96), (0, .ref p0), (1, .int p1), (2, .int p2), (3, .int p3), (4, .int p4), (5, .int p5), (6, .int v67_6), (7, .int v80_7)]) hx hb dX7_join_99 hl (by decide) rfl (fun ls hl => ?_)
                    refine lv_aload_n hx hb dX7_join_101 rfl (lv_at hl 1 rfl) ?_
                    refine lv_iload_n hx hb dX7_join_102 rfl (lv_at hl 3 rfl) ?_
                    refine lv_iload hx hb dX7_join_103 (lv_at hl 8 rfl) ?_
                    refine lv_iload_n hx hb dX7_join_105 rfl (lv_at hl 4 rfl) ?_
                    refine lv_isub hx hb dX7_join_106 ?_
                    refine lv_topi (fun z106 ez106 => ?_)
                    have bz106 := tq_sub (k := v80_7.toInt) (q := p3.toInt) ez106 rfl rfl (by omega) (by omega)
                    refine lv_iload hx hb dX7_join_107 (lv_at hl 7 rfl) ?_
                    refine lv_iload hx hb dX7_join_109 (lv_at hl 5 rfl) ?_
                    refine lv_isub hx hb dX7_join_111 ?_
                    refine lv_topi (fun z111 ez111 => ?_)
                    have bz111 := tq_sub (k := v67_6.toInt) (q := p4.toInt) ez111 rfl rfl (by omega) (by omega)
                    refine ro_i (va_runV (As := [.int p2, .int z106, .int z111]) (rest := []) ⟨hx, hb, hml, hown, hts⟩ (s_X7_has l dC dI cs L K G Q hQ x0 m0 tx tm H.size I J80 hI p0 hLp0 hKp0 p2 ⟨by omega, by omega⟩ z106 z111) (cwV 3 hts (gV pq1376 pq1378 pq34 pq81 pq1379) rfl rfl rfl (by decide +kernel) ⟨(by rw [hR]; exact (Nat.le_of_ble_eq_true rfl)), (by rw [hR]; exact (Nat.le_of_ble_eq_true rfl))⟩) (sP_V hP hD hK hN hLp0 hKp0 rfl rfl) rfl rfl hl.1 rfl (lv_room (Nat.le_of_ble_eq_true rfl)) dX7_join_112 ⟨(by rw [hR]; exact (Nat.le_of_ble_eq_true rfl)), (by rw [hR]; exact (Nat.le_of_ble_eq_true rfl))⟩) hS hP (fun z112 H locs hz112 hP hS => ?_)
                    obtain ⟨bz112, imz112, xpz112⟩ := hz112
                    refine lv_istore (lv' := [(9, .int z112), (8, .int z96), (0, .ref p0), (1, .int p1), (2, .int p2), (3, .int p3), (4, .int p4), (5, .int p5), (6, .int v67_6), (7, .int v80_7)]) hx hb dX7_join_115 hl (by decide) rfl (fun ls hl => ?_)
                    have hx96 : ∀ σ : Sx, okF σ.1 → cmA Q I J p0 σ → mK σ p1 → mK σ p2 → z96.toInt = bi (md (mF σ p1) v80_7.toInt v67_6.toInt) := fun σ ok A hm hm2 => by have F := cmA_F A (m := p1) (by omega); have q := xpz96; rw [show rF Q J80 p0 p1.toInt.toNat = rF Q J p0 p1.toInt.toNat from congrArg (fun f => mo f p1.toInt.toNat) (hd80 _ (by have := (a_g hQ hLp0 hKp0).1.2; omega)), hs_congr F.1 F.2.1 F.2.2, hs_of (show okm (mW σ p1).toInt (mH σ p1).toInt (mF σ p1) from ok.2.2.1 _ (show p1.toInt.toNat < (σ.1.1 0).toInt.toNat by have q : 0 ≤ p1.toInt ∧ p1.toInt < (σ.1.1 0).toInt := hm; omega)).2.2] at q; exact q
                    have hx112 : ∀ σ : Sx, okF σ.1 → cmA Q I J p0 σ → mK σ p1 → mK σ p2 → z112.toInt = bi (md (mF σ p2) (v80_7.toInt - p3.toInt) (v67_6.toInt - p4.toInt)) := fun σ ok A hm hm2 => by have F := cmA_F A (m := p2) (by omega); have q := xpz112; rw [show rF Q J80 p0 p2.toInt.toNat = rF Q J p0 p2.toInt.toNat from congrArg (fun f => mo f p2.toInt.toNat) (hd80 _ (by have := (a_g hQ hLp0 hKp0).1.2; omega)), hs_congr F.1 F.2.1 F.2.2, hs_of (show okm (mW σ p2).toInt (mH σ p2).toInt (mF σ p2) from ok.2.2.1 _ (show p2.toInt.toNat < (σ.1.1 0).toInt.toNat by have q : 0 ≤ p2.toInt ∧ p2.toInt < (σ.1.1 0).toInt := hm2; omega)).2.2, bz106, bz111] at q; exact q
                    refine lv_iload hx hb dX7_join_117 (lv_at hl 7 rfl) ?_
                    have j200 : ∀ (w200_0 : Int32) (H : Heap) (lo : List Loc) (ls : Array Slot), ((0) ≤ w200_0.toInt ∧ w200_0.toInt ≤ 1) → (∀ a b : Bool, z96.toInt = bi a → z112.toInt = bi b → w200_0.toInt = bi (jop p5.toInt a b)) → va_P (dC, dI) vwCl (Wd cs L K I J80 Q) H → va_S A s.heap H lo → lv_has ls 11 [(0, .ref p0), (1, .int p1), (2, .int p2), (3, .int p3), (4, .int p4), (5, .int p5), (6, .int v67_6), (7, .int v80_7), (8, .int z96), (9, .int z112)] → W p l e R s m (([.ref p0, .int p1, .int p2, .int p3, .int p4, .int p5] : List Value).toArray) below meth c H lo 0 0 Qz (F0 m 200 ls [.int w200_0]) := by
                      intro w200_0 H lo ls bw200_0 h200 hP hS hl
                      refine lv_istore (lv' := [(10, .int w200_0), (0, .ref p0), (1, .int p1), (2, .int p2), (3, .int p3), (4, .int p4), (5, .int p5), (6, .int v67_6), (7, .int v80_7), (8, .int z96), (9, .int z112)]) hx hb dX7_join_200 hl (by decide) rfl (fun ls hl => ?_)
                      refine lv_iload hx hb dX7_join_202 (lv_at hl 0 rfl) ?_
                      have j219 : ∀ (J219 : Nat → Nat → Int64) (H : Heap) (lo : List Loc) (ls : Array Slot), (∀ b, ¬ (K b = 21 ∨ K b = 22 ∨ K b = 33 ∨ K b = 34) → J219 b = J b) → (∀ b, ¬ K b = 34 → J219 b = J b) → (∀ σ : Sx, okF σ.1 → cmA Q I J p0 σ → mK σ p1 → mK σ p2 → rxI (J219 (a0 Q p0 19)) (joinD (mW σ p1).toInt (mH σ p1).toInt (mF σ p1) (mF σ p2) p3.toInt p4.toInt p5.toInt) v67_6.toInt (v80_7.toInt + 1)) → va_P (dC, dI) vwCl (Wd cs L K I J219 Q) H → va_S A s.heap H lo → lv_has ls 11 [(0, .ref p0), (1, .int p1), (2, .int p2), (3, .int p3), (4, .int p4), (5, .int p5), (6, .int v67_6), (7, .int v80_7), (8, .int z96), (9, .int z112), (10, .int w200_0)] → W p l e R s m (([.ref p0, .int p1, .int p2, .int p3, .int p4, .int p5] : List Value).toArray) below meth c H lo 0 0 Qz (F0 m 219 ls []) := by
                        intro J219 H lo ls dj_J219 hd219 h219 hP hS hl
                        obtain ⟨z219, ez219⟩ : ∃ y : Int32, y = v80_7 + 1 := ⟨_, rfl⟩
                        refine lv_iinc (v := z219) (lv' := [(7, .int z219), (0, .ref p0), (1, .int p1), (2, .int p2), (3, .int p3), (4, .int p4), (5, .int p5), (6, .int v67_6), (8, .int z96), (9, .int z112), (10, .int w200_0)]) hx hb dX7_join_219 hl (k := 7) rfl (by rw [ez219]; rfl) (by decide) rfl (fun ls hl => ?_)
                        have bz219 := tq_add (k := v80_7.toInt) (q := 1) ez219 rfl (by decide +kernel) (by omega) (by omega)
                        refine lv_goto (tgt := 80) hx hb dX7_join_222 (by decide) ?_
                        exact ih80 _ (by omega) z219 J219 _ _ _ rfl ⟨by omega, by omega⟩ dj_J219 hd219 (fun σ ok A hm hm2 => by rw [bz219]; exact h219 σ ok A hm hm2) hP hS (lv_sub hl [1, 2, 3, 4, 5, 6, 7, 0] rfl)
                      refine lv_if_eq (tgt := 219) hx hb dX7_join_204 (by decide) (fun c204 => ?_) (fun c204 => ?_)
                      · have t204 := tq_eq (k := w200_0.toInt) (q := (0)) c204 rfl (by decide +kernel)
                        exact j219 J80 _ _ _ dj_J80 hd80 (fun σ ok A hm hm2 => by have F := cmA_F A (m := p1) (by omega); have eW := congrArg Int32.toInt (show z84 = I (a0 Q p0 0) (3 + p1.toInt.toNat) from fez84); have F1 : (I (a0 Q p0 0) (3 + p1.toInt.toNat)).toInt = (mW σ p1).toInt := F.1; have eH := congrArg Int32.toInt (show z71 = I (a0 Q p0 0) (11 + p1.toInt.toNat) from fez71); have F2 : (I (a0 Q p0 0) (11 + p1.toInt.toNat)).toInt = (mH σ p1).toInt := F.2.1; have D := h200 _ _ (hx96 σ ok A hm hm2) (hx112 σ ok A hm hm2); rw [← joinD_at (w := (mW σ p1).toInt) (h := (mH σ p1).toInt) (by omega)] at D; exact rx_skip (h80 σ ok A hm hm2) rfl (bi_f D t204)) hP hS (lv_sub hl [1, 2, 3, 4, 5, 6, 7, 8, 9, 10, 0] rfl)
                      · have t204 := tq_ne (k := w200_0.toInt) (q := (0)) c204 rfl (by decide +kernel)
                        refine lv_aload_n hx hb dX7_join_207 rfl (lv_at hl 1 rfl) ?_
                        obtain ⟨y208, ey208, hLy208, hKy208⟩ := oQ_7_19 (Sv_at hQ hLp0 hKp0)
                        refine p_get (v := .ref y208) hx hb hts inX7 hown hK hP hLp0 hKp0 rfl rfl 19 (by decide) (hts _ pq1134) (congrArg (fun q => some (va_rf q)) ey208) dX7_join_208 ?_
                        refine lv_iconst (v := 0) hx hb dX7_join_211 (by decide +kernel) ?_
                        refine lv_iload hx hb dX7_join_212 (lv_at hl 8 rfl) ?_
                        refine lv_iload hx hb dX7_join_214 (lv_at hl 7 rfl) ?_
                        refine sw_v (Z := (fun I1 J1 => Iv L K x0 m0 tx tm I1 ∧ I1 = I ∧ (∀ x y : Int, md (J1 y208) x y = (md (J80 y208) x y || decide (x = v80_7.toInt ∧ y = v67_6.toInt))) ∧ (∀ b, ¬ (K b = 34) → J1 b = J80 b))) (va_runS (As := [.ref y208, .int 0, .int v80_7, .int v67_6]) (rest := []) ⟨hx, hb, hml, hown, hts⟩ (s_X7_setsDotM l dC dI cs L K G Q hQ x0 m0 tx tm H.size I J80 hI y208 hLy208 hKy208 0 ⟨by decide +kernel, by decide +kernel⟩ v80_7 ⟨by omega, by omega⟩ v67_6 ⟨by omega, by omega⟩) (va_cwS 4 hts (gS pq1254 pq1255 pq81 pq1256) rfl rfl rfl (by decide +kernel) ⟨(by rw [hR]; exact (Nat.le_of_ble_eq_true rfl)), (by rw [hR]; exact (Nat.le_of_ble_eq_true rfl))⟩) (sP_S hP hD hK hN) rfl rfl hl.1 rfl (lv_room (Nat.le_of_ble_eq_true rfl)) dX7_join_216 ⟨(by rw [hR]; exact (Nat.le_of_ble_eq_true rfl)), (by rw [hR]; exact (Nat.le_of_ble_eq_true rfl))⟩) hS hAL hA (fun Iz216 Jz216 H locs hz216 hIz216 hP hS => ?_)
                        obtain ⟨hIz216, sm216, jz216, djc216⟩ := hIz216
                        have dj_Jz216 : (∀ b, ¬ (K b = 21 ∨ K b = 22 ∨ K b = 33 ∨ K b = 34) → Jz216 b = J b) := fun b hc => (djc216 b (fun z => hc (by omega))).trans (dj_J80 b hc)
                        obtain rfl : I = Iz216 := sm216.symm
                        exact j219 Jz216 _ _ _ dj_Jz216 (fun b hb => (djc216 b (by omega)).trans (hd80 b hb)) (fun σ ok A hm hm2 => by have F := cmA_F A (m := p1) (by omega); have eW := congrArg Int32.toInt (show z84 = I (a0 Q p0 0) (3 + p1.toInt.toNat) from fez84); have F1 : (I (a0 Q p0 0) (3 + p1.toInt.toNat)).toInt = (mW σ p1).toInt := F.1; have eH := congrArg Int32.toInt (show z71 = I (a0 Q p0 0) (11 + p1.toInt.toNat) from fez71); have F2 : (I (a0 Q p0 0) (11 + p1.toInt.toNat)).toInt = (mH σ p1).toInt := F.2.1; have D := h200 _ _ (hx96 σ ok A hm hm2) (hx112 σ ok A hm hm2); rw [← joinD_at (w := (mW σ p1).toInt) (h := (mH σ p1).toInt) (by omega)] at D; exact rx_put (h80 σ ok A hm hm2) rfl (bi_t D t204) (by rw [show a0 Q p0 19 = y208 from gd_of ey208]; exact jz216)) hP hS (lv_sub hl [1, 2, 3, 4, 5, 6, 7, 8, 9, 10, 0] rfl)
                    refine lv_if_ne (tgt := 140) hx hb dX7_join_119 (by decide) (fun c119 => ?_) (fun c119 => ?_)
                    · have t119 := tq_ne (k := p5.toInt) (q := (0)) c119 rfl (by decide +kernel)
                      refine lv_iload hx hb dX7_join_140 (lv_at hl 7 rfl) ?_
                      refine lv_iconst (v := 1) hx hb dX7_join_142 (by decide +kernel) ?_
                      refine lv_icmp_ne (tgt := 164) hx hb dX7_join_143 (by decide) (fun c143 => ?_) (fun c143 => ?_)
                      · have t143 := tq_ne (k := p5.toInt) (q := (1)) c143 rfl (by decide +kernel)
                        refine lv_iload hx hb dX7_join_164 (lv_at hl 7 rfl) ?_
                        refine lv_iconst (v := 2) hx hb dX7_join_166 (by decide +kernel) ?_
                        refine lv_icmp_ne (tgt := 188) hx hb dX7_join_167 (by decide) (fun c167 => ?_) (fun c167 => ?_)
                        · have t167 := tq_ne (k := p5.toInt) (q := (2)) c167 rfl (by decide +kernel)
                          refine lv_iload hx hb dX7_join_188 (lv_at hl 1 rfl) ?_
                          refine lv_iload hx hb dX7_join_190 (lv_at hl 0 rfl) ?_
                          refine lv_icmp_eq (tgt := 199) hx hb dX7_join_192 (by decide) (fun c192 => ?_) (fun c192 => ?_)
                          · have t192 := tq_eq (k := z96.toInt) (q := z112.toInt) c192 rfl rfl
                            refine lv_iconst (v := 0) hx hb dX7_join_199 (by decide +kernel) ?_
                            exact j200 0 _ _ _ ⟨by decide +kernel, by decide +kernel⟩ (by intro a b ha hb; have e1 : bi true = 1 := rfl; have e0 : bi false = 0 := rfl; have c1 : (1 : Int32).toInt = 1 := (by decide +kernel); have c0 : (0 : Int32).toInt = 0 := (by decide +kernel); unfold jop; cases a <;> cases b <;> (repeat' split) <;> first | (exfalso; omega) | exact c1 | exact c0) hP hS (lv_sub hl [2, 3, 4, 5, 6, 7, 8, 9, 1, 0] rfl)
                          · have t192 := tq_ne (k := z96.toInt) (q := z112.toInt) c192 rfl rfl
                            refine lv_iconst (v := 1) hx hb dX7_join_195 (by decide +kernel) ?_
                            refine lv_goto (tgt := 200) hx hb dX7_join_196 (by decide) ?_
                            exact j200 1 _ _ _ ⟨by decide +kernel, by decide +kernel⟩ (by intro a b ha hb; have e1 : bi true = 1 := rfl; have e0 : bi false = 0 := rfl; have c1 : (1 : Int32).toInt = 1 := (by decide +kernel); have c0 : (0 : Int32).toInt = 0 := (by decide +kernel); unfold jop; cases a <;> cases b <;> (repeat' split) <;> first | (exfalso; omega) | exact c1 | exact c0) hP hS (lv_sub hl [2, 3, 4, 5, 6, 7, 8, 9, 1, 0] rfl)
                        · have t167 := tq_eq (k := p5.toInt) (q := (2)) c167 rfl (by decide +kernel)
                          refine lv_iload hx hb dX7_join_170 (lv_at hl 1 rfl) ?_
                          have j184 : ∀ (H : Heap) (lo : List Loc) (ls : Array Slot), (z96.toInt = 0 ∨ ¬ z112.toInt = 0) → va_P (dC, dI) vwCl (Wd cs L K I J80 Q) H → va_S A s.heap H lo → lv_has ls 11 [(0, .ref p0), (1, .int p1), (2, .int p2), (3, .int p3), (4, .int p4), (5, .int p5), (6, .int v67_6), (7, .int v80_7), (8, .int z96), (9, .int z112)] → W p l e R s m (([.ref p0, .int p1, .int p2, .int p3, .int p4, .int p5] : List Value).toArray) below meth c H lo 0 0 Qz (F0 m 184 ls []) := by
                            intro H lo ls h184 hP hS hl
                            refine lv_iconst (v := 0) hx hb dX7_join_184 (by decide +kernel) ?_
                            refine lv_goto (tgt := 200) hx hb dX7_join_185 (by decide) ?_
                            exact j200 0 _ _ _ ⟨by decide +kernel, by decide +kernel⟩ (by intro a b ha hb; have e1 : bi true = 1 := rfl; have e0 : bi false = 0 := rfl; have c1 : (1 : Int32).toInt = 1 := (by decide +kernel); have c0 : (0 : Int32).toInt = 0 := (by decide +kernel); unfold jop; cases a <;> cases b <;> (repeat' split) <;> first | (exfalso; omega) | exact c1 | exact c0) hP hS (lv_sub hl [0, 1, 2, 3, 4, 5, 6, 7, 8, 9] rfl)
                          refine lv_if_eq (tgt := 184) hx hb dX7_join_172 (by decide) (fun c172 => ?_) (fun c172 => ?_)
                          · have t172 := tq_eq (k := z96.toInt) (q := (0)) c172 rfl (by decide +kernel)
                            exact j184  _ _ _ (by omega) hP hS (lv_sub hl [2, 3, 4, 5, 6, 7, 8, 9, 1, 0] rfl)
                          · have t172 := tq_ne (k := z96.toInt) (q := (0)) c172 rfl (by decide +kernel)
                            have i172 := imz96 t172
                            refine lv_iload hx hb dX7_join_175 (lv_at hl 0 rfl) ?_
                            refine lv_if_ne (tgt := 184) hx hb dX7_join_177 (by decide) (fun c177 => ?_) (fun c177 => ?_)
                            · have t177 := tq_ne (k := z112.toInt) (q := (0)) c177 rfl (by decide +kernel)
                              have i177 := imz112 t177
                              exact j184  _ _ _ (by omega) hP hS (lv_sub hl [2, 3, 4, 5, 6, 7, 8, 9, 1, 0] rfl)
                            · have t177 := tq_eq (k := z112.toInt) (q := (0)) c177 rfl (by decide +kernel)
                              refine lv_iconst (v := 1) hx hb dX7_join_180 (by decide +kernel) ?_
                              refine lv_goto (tgt := 200) hx hb dX7_join_181 (by decide) ?_
                              exact j200 1 _ _ _ ⟨by decide +kernel, by decide +kernel⟩ (by intro a b ha hb; have e1 : bi true = 1 := rfl; have e0 : bi false = 0 := rfl; have c1 : (1 : Int32).toInt = 1 := (by decide +kernel); have c0 : (0 : Int32).toInt = 0 := (by decide +kernel); unfold jop; cases a <;> cases b <;> (repeat' split) <;> first | (exfalso; omega) | exact c1 | exact c0) hP hS (lv_sub hl [2, 3, 4, 5, 6, 7, 8, 9, 1, 0] rfl)
                      · have t143 := tq_eq (k := p5.toInt) (q := (1)) c143 rfl (by decide +kernel)
                        refine lv_iload hx hb dX7_join_146 (lv_at hl 1 rfl) ?_
                        have j160 : ∀ (H : Heap) (lo : List Loc) (ls : Array Slot), (z96.toInt = 0 ∨ z112.toInt = 0) → va_P (dC, dI) vwCl (Wd cs L K I J80 Q) H → va_S A s.heap H lo → lv_has ls 11 [(0, .ref p0), (1, .int p1), (2, .int p2), (3, .int p3), (4, .int p4), (5, .int p5), (6, .int v67_6), (7, .int v80_7), (8, .int z96), (9, .int z112)] → W p l e R s m (([.ref p0, .int p1, .int p2, .int p3, .int p4, .int p5] : List Value).toArray) below meth c H lo 0 0 Qz (F0 m 160 ls []) := by
                          intro H lo ls h160 hP hS hl
                          refine lv_iconst (v := 0) hx hb dX7_join_160 (by decide +kernel) ?_
                          refine lv_goto (tgt := 200) hx hb dX7_join_161 (by decide) ?_
                          exact j200 0 _ _ _ ⟨by decide +kernel, by decide +kernel⟩ (by intro a b ha hb; have e1 : bi true = 1 := rfl; have e0 : bi false = 0 := rfl; have c1 : (1 : Int32).toInt = 1 := (by decide +kernel); have c0 : (0 : Int32).toInt = 0 := (by decide +kernel); unfold jop; cases a <;> cases b <;> (repeat' split) <;> first | (exfalso; omega) | exact c1 | exact c0) hP hS (lv_sub hl [0, 1, 2, 3, 4, 5, 6, 7, 8, 9] rfl)
                        refine lv_if_eq (tgt := 160) hx hb dX7_join_148 (by decide) (fun c148 => ?_) (fun c148 => ?_)
                        · have t148 := tq_eq (k := z96.toInt) (q := (0)) c148 rfl (by decide +kernel)
                          exact j160  _ _ _ (by omega) hP hS (lv_sub hl [2, 3, 4, 5, 6, 7, 8, 9, 1, 0] rfl)
                        · have t148 := tq_ne (k := z96.toInt) (q := (0)) c148 rfl (by decide +kernel)
                          have i148 := imz96 t148
                          refine lv_iload hx hb dX7_join_151 (lv_at hl 0 rfl) ?_
                          refine lv_if_eq (tgt := 160) hx hb dX7_join_153 (by decide) (fun c153 => ?_) (fun c153 => ?_)
                          · have t153 := tq_eq (k := z112.toInt) (q := (0)) c153 rfl (by decide +kernel)
                            exact j160  _ _ _ (by omega) hP hS (lv_sub hl [2, 3, 4, 5, 6, 7, 8, 9, 1, 0] rfl)
                          · have t153 := tq_ne (k := z112.toInt) (q := (0)) c153 rfl (by decide +kernel)
                            have i153 := imz112 t153
                            refine lv_iconst (v := 1) hx hb dX7_join_156 (by decide +kernel) ?_
                            refine lv_goto (tgt := 200) hx hb dX7_join_157 (by decide) ?_
                            exact j200 1 _ _ _ ⟨by decide +kernel, by decide +kernel⟩ (by intro a b ha hb; have e1 : bi true = 1 := rfl; have e0 : bi false = 0 := rfl; have c1 : (1 : Int32).toInt = 1 := (by decide +kernel); have c0 : (0 : Int32).toInt = 0 := (by decide +kernel); unfold jop; cases a <;> cases b <;> (repeat' split) <;> first | (exfalso; omega) | exact c1 | exact c0) hP hS (lv_sub hl [2, 3, 4, 5, 6, 7, 8, 9, 1, 0] rfl)
                    · have t119 := tq_eq (k := p5.toInt) (q := (0)) c119 rfl (by decide +kernel)
                      refine lv_iload hx hb dX7_join_122 (lv_at hl 1 rfl) ?_
                      have j132 : ∀ (H : Heap) (lo : List Loc) (ls : Array Slot), (¬ z96.toInt = 0 ∨ ¬ z112.toInt = 0) → va_P (dC, dI) vwCl (Wd cs L K I J80 Q) H → va_S A s.heap H lo → lv_has ls 11 [(0, .ref p0), (1, .int p1), (2, .int p2), (3, .int p3), (4, .int p4), (5, .int p5), (6, .int v67_6), (7, .int v80_7), (8, .int z96), (9, .int z112)] → W p l e R s m (([.ref p0, .int p1, .int p2, .int p3, .int p4, .int p5] : List Value).toArray) below meth c H lo 0 0 Qz (F0 m 132 ls []) := by
                        intro H lo ls h132 hP hS hl
                        refine lv_iconst (v := 1) hx hb dX7_join_132 (by decide +kernel) ?_
                        refine lv_goto (tgt := 200) hx hb dX7_join_133 (by decide) ?_
                        exact j200 1 _ _ _ ⟨by decide +kernel, by decide +kernel⟩ (by intro a b ha hb; have e1 : bi true = 1 := rfl; have e0 : bi false = 0 := rfl; have c1 : (1 : Int32).toInt = 1 := (by decide +kernel); have c0 : (0 : Int32).toInt = 0 := (by decide +kernel); unfold jop; cases a <;> cases b <;> (repeat' split) <;> first | (exfalso; omega) | exact c1 | exact c0) hP hS (lv_sub hl [0, 1, 2, 3, 4, 5, 6, 7, 8, 9] rfl)
                      refine lv_if_ne (tgt := 132) hx hb dX7_join_124 (by decide) (fun c124 => ?_) (fun c124 => ?_)
                      · have t124 := tq_ne (k := z96.toInt) (q := (0)) c124 rfl (by decide +kernel)
                        have i124 := imz96 t124
                        exact j132  _ _ _ (by omega) hP hS (lv_sub hl [2, 3, 4, 5, 6, 7, 8, 9, 1, 0] rfl)
                      · have t124 := tq_eq (k := z96.toInt) (q := (0)) c124 rfl (by decide +kernel)
                        refine lv_iload hx hb dX7_join_127 (lv_at hl 0 rfl) ?_
                        refine lv_if_eq (tgt := 136) hx hb dX7_join_129 (by decide) (fun c129 => ?_) (fun c129 => ?_)
                        · have t129 := tq_eq (k := z112.toInt) (q := (0)) c129 rfl (by decide +kernel)
                          refine lv_iconst (v := 0) hx hb dX7_join_136 (by decide +kernel) ?_
                          refine lv_goto (tgt := 200) hx hb dX7_join_137 (by decide) ?_
                          exact j200 0 _ _ _ ⟨by decide +kernel, by decide +kernel⟩ (by intro a b ha hb; have e1 : bi true = 1 := rfl; have e0 : bi false = 0 := rfl; have c1 : (1 : Int32).toInt = 1 := (by decide +kernel); have c0 : (0 : Int32).toInt = 0 := (by decide +kernel); unfold jop; cases a <;> cases b <;> (repeat' split) <;> first | (exfalso; omega) | exact c1 | exact c0) hP hS (lv_sub hl [2, 3, 4, 5, 6, 7, 8, 9, 1, 0] rfl)
                        · have t129 := tq_ne (k := z112.toInt) (q := (0)) c129 rfl (by decide +kernel)
                          have i129 := imz112 t129
                          exact j132  _ _ _ (by omega) hP hS (lv_sub hl [2, 3, 4, 5, 6, 7, 8, 9, 1, 0] rfl))
                exact key80 _ 0 J67 _ _ _ rfl ⟨by decide +kernel, by decide +kernel⟩ dj_J67 hd67 h67 hP hS (lv_sub hl [1, 2, 3, 4, 5, 6, 7, 0] rfl))
            exact key67 _ 0 Jz61 _ _ _ rfl ⟨by decide +kernel, by decide +kernel⟩ dj_Jz61 (fun b hb => djc61 b (by omega)) (fun σ ok A hm hm2 => rx_0 jz61 (fun x y q => by have := joinD_b x y q; omega)) hP hS (lv_sub hl [1, 2, 3, 4, 5, 6, 0] rfl)
          · have t55 := tq_eq (k := z52.toInt) (q := (0)) c55 rfl (by decide +kernel)
            refine lv_iconst (v := (-1)) hx hb dX7_join_58 (by decide +kernel) ?_
            subst hR; subst hQz
            exact W.iret (v := (-1)) hx hb hr (fun t ht hW => ⟨⟨(-1), (), rfl, (fun σ ok A => by have ec : I (a0 Q p0 0) 0 = σ.1.1 0 := cmA_n A (by decide); rw [jn_n (fun q => by unfold jnC at q; have q1 := q.2.2; first | exact xpz2.2 t5 (by rw [ec]; exact q.1) | exact xpz10.2 t13 (by rw [ec]; exact q.2.1) | exact xpz24 t27 (by omega) | exact xpz39 t42 (by omega) | exact xpz52 t55 (by omega))]; show (-1 : Int32).toInt = -1; decide +kernel), ⟨I, J, ⟨hI, dn_I, (fun σ ok A => by have ec : I (a0 Q p0 0) 0 = σ.1.1 0 := cmA_n A (by decide); rw [jn_n (fun q => by unfold jnC at q; have q1 := q.2.2; first | exact xpz2.2 t5 (by rw [ec]; exact q.1) | exact xpz10.2 t13 (by rw [ec]; exact q.2.1) | exact xpz24 t27 (by omega) | exact xpz39 t42 (by omega) | exact xpz52 t55 (by omega))]; exact A), dj_J⟩, by rw [ht]; exact hP⟩⟩, hS.F ht⟩) hS.2.2 dX7_join_59

set_option maxHeartbeats 4000000 in
set_option maxRecDepth 100000 in
theorem s_X7_quarter (l : Launch) (dC : Nat → ClassId) (dI : Nat → Nat → Nat) (cs : Nat → ClassId) (L : List Nat) (K G : Nat → Nat) (Q : Nat → Nat → Option Nat) (hQ : Sv L K G Q) (x0 m0 : Nat) (tx : GT) (tm : GT × Int) (sz : Nat) (I : Nat → Nat → Int32) (J : Nat → Nat → Int64) (hI : Iv L K x0 m0 tx tm I) (p0 : Nat) (hLp0 : p0 ∈ L) (hKp0 : K p0 = 7) (p1 : Int32) : Met l yX7_quarter (.code yX7_quarter cX7_quarter 4 (some .int) :: pw) ({ frames := 3, cells := 0, slots := 0, locals := 67 }) (sP (dC, dI) cs [.ref p0, .int p1] sz L K I J Q) (va_Qi (fun (r : Int32) (_ : Unit) => (∀ σ : Sx, okF σ.1 → cmA Q I J p0 σ → r.toInt = (quA σ p1).1)) (fun _ t => sB (dC, dI) cs L K Q (fun I1 J1 => Iv L K x0 m0 tx tm I1 ∧ (∀ b, K b = 0 ∨ K b = 1 ∨ K b = 3 ∨ K b = 6 → I1 b = I b) ∧ (∀ σ : Sx, okF σ.1 → cmA Q I J p0 σ → cmA Q I1 J1 p0 (quA σ p1).2) ∧ (∀ b, ¬ (K b = 21 ∨ K b = 22 ∨ K b = 33 ∨ K b = 34) → J1 b = J b)) t) (fun q => q ∈ L ∨ sz ≤ q)) 0 0 (fun q => q ∈ L ∨ sz ≤ q) := by
  refine Met.ofW (cc := cX7_quarter) (maxL := 4) (ret := (some .int)) (by decide +kernel) rfl ?_
  intro p e s m args below meth c s₁ B hml hv
  obtain ⟨rfl, hsz, hP, hK, hD0, hN⟩ := hv
  have hx := B.exec
  have hb := B.bytes
  have hr := B.returns
  have hts := fun w (h : w ∈ pw) => atoms_spec (ws := Cond.code yX7_quarter cX7_quarter 4 (some .int) :: pw) B.pre w (List.mem_cons_of_mem _ h)
  have hown : s.vm.findClass RX7 = some m.cls := findClass_of_methodNamed B.named
  have hlocks := B.notSynchronized
  subst hsz
  have hBB : 999 ≤ tm.2 ∧ tm.2 ≤ 6000000 := hI.2.2.2.2.1
  have dn_I : (∀ b, K b = 0 ∨ K b = 1 ∨ K b = 3 ∨ K b = 6 → I b = I b) := fun _ _ => rfl
  have dj_J : (∀ b, ¬ (K b = 21 ∨ K b = 22 ∨ K b = 33 ∨ K b = 34) → J b = J b) := fun _ _ => rfl
  obtain ⟨A, hAe⟩ : ∃ A : Nat → Prop, A = (fun q => q ∈ L ∨ s.heap.size ≤ q) := ⟨_, rfl⟩
  rw [← hAe]
  have hAL : ∀ q, q ∈ L → A q := fun q h => by rw [hAe]; exact Or.inl h
  have hA : ∀ q, s.heap.size ≤ q → A q := fun q h => by rw [hAe]; exact Or.inr h
  have hD : ∀ F, va_D A (va_pl L F) := fun F => (hD0 F).weaken (fun k q hk _ => hAL _ (pl_mem hk))
  obtain ⟨H, hHe⟩ : ∃ H : Heap, H = s.heap := ⟨_, rfl⟩
  have hS : va_S A s.heap H [] := by rw [hHe]; exact va_S.rf
  rw [← hHe] at hP
  have hl := lv_entry ([.ref p0, .int p1]) (n := 4) (Nat.le_of_ble_eq_true rfl)
  rw [lg_entry_eq]
  generalize (lg_sl ([.ref p0, .int p1]) ++ List.replicate (4 - (lg_sl ([.ref p0, .int p1])).length) Slot.unset).toArray = ls at hl ⊢
  have hl : lv_has ls 4 [(0, .ref p0), (1, .int p1)] := hl
  rw [← hHe]
  refine namedW (fun R Qz hR hQz => ?_)
  refine lv_aload_n hx hb dX7_quarter_0 rfl (lv_at hl 0 rfl) ?_
  refine lv_iload_n hx hb dX7_quarter_1 rfl (lv_at hl 1 rfl) ?_
  refine ro_i (va_runV (As := [.int p1]) (rest := []) ⟨hx, hb, hml, hown, hts⟩ (s_X7_isMask l dC dI cs L K G Q hQ x0 m0 tx tm H.size I J hI p0 hLp0 hKp0 p1) (cwV 1 hts (gV pq1364 pq1366 pq31 pq81 pq1367) rfl rfl rfl (by decide +kernel) ⟨(by rw [hR]; exact (Nat.le_of_ble_eq_true rfl)), (by rw [hR]; exact (Nat.le_of_ble_eq_true rfl))⟩) (sP_V hP hD hK hN hLp0 hKp0 rfl rfl) rfl rfl hl.1 rfl (lv_room (Nat.le_of_ble_eq_true rfl)) dX7_quarter_2 ⟨(by rw [hR]; exact (Nat.le_of_ble_eq_true rfl)), (by rw [hR]; exact (Nat.le_of_ble_eq_true rfl))⟩) hS hP (fun z2 H locs hz2 hP hS => ?_)
  obtain ⟨bz2, imz2, xpz2⟩ := hz2
  refine lv_if_ne (tgt := 10) hx hb dX7_quarter_5 (by decide) (fun c5 => ?_) (fun c5 => ?_)
  · have t5 := tq_ne (k := z2.toInt) (q := (0)) c5 rfl (by decide +kernel)
    have i5 := imz2 t5
    refine lv_aload_n hx hb dX7_quarter_10 rfl (lv_at hl 0 rfl) ?_
    refine lv_iload_n hx hb dX7_quarter_11 rfl (lv_at hl 1 rfl) ?_
    refine ro_i (va_runV (As := [.int p1]) (rest := []) ⟨hx, hb, hml, hown, hts⟩ (s_X7_wide l dC dI cs L K G Q hQ x0 m0 tx tm H.size I J hI p0 hLp0 hKp0 p1 ⟨by omega, by omega⟩) (cwV 1 hts (gV pq1368 pq1370 pq32 pq81 pq1371) rfl rfl rfl (by decide +kernel) ⟨(by rw [hR]; exact (Nat.le_of_ble_eq_true rfl)), (by rw [hR]; exact (Nat.le_of_ble_eq_true rfl))⟩) (sP_V hP hD hK hN hLp0 hKp0 rfl rfl) rfl rfl hl.1 rfl (lv_room (Nat.le_of_ble_eq_true rfl)) dX7_quarter_12 ⟨(by rw [hR]; exact (Nat.le_of_ble_eq_true rfl)), (by rw [hR]; exact (Nat.le_of_ble_eq_true rfl))⟩) hS hP (fun z12 H locs hz12 hP hS => ?_)
    obtain ⟨bz12, fez12⟩ := hz12
    refine lv_bipush (v := 40) hx hb dX7_quarter_15 (by decide +kernel) ?_
    refine lv_icmp_le (tgt := 23) hx hb dX7_quarter_17 (by decide) (fun c17 => ?_) (fun c17 => ?_)
    · have t17 := tq_le (k := z12.toInt) (q := (40)) c17 rfl (by decide +kernel)
      refine lv_aload_n hx hb dX7_quarter_23 rfl (lv_at hl 0 rfl) ?_
      refine sw_v (Z := (fun I1 J1 => Iv L K x0 m0 tx tm I1 ∧ I1 = I ∧ (∀ k, k < 80 → J1 (a0 Q p0 19) k = 0) ∧ (∀ b, ¬ (K b = 34) → J1 b = J b))) (va_runV (As := []) (rest := []) ⟨hx, hb, hml, hown, hts⟩ (s_X7_clearsMade l dC dI cs L K G Q hQ x0 m0 tx tm H.size I J hI p0 hLp0 hKp0) (cwV 0 hts (gV pq1391 pq1393 pq36 pq81 pq1394) rfl rfl rfl (by decide +kernel) ⟨(by rw [hR]; exact (Nat.le_of_ble_eq_true rfl)), (by rw [hR]; exact (Nat.le_of_ble_eq_true rfl))⟩) (sP_V hP hD hK hN hLp0 hKp0 rfl rfl) rfl rfl hl.1 rfl (lv_room (Nat.le_of_ble_eq_true rfl)) dX7_quarter_24 ⟨(by rw [hR]; exact (Nat.le_of_ble_eq_true rfl)), (by rw [hR]; exact (Nat.le_of_ble_eq_true rfl))⟩) hS hAL hA (fun Iz24 Jz24 H locs hz24 hIz24 hP hS => ?_)
      obtain ⟨hIz24, sm24, jz24, djc24⟩ := hIz24
      have dj_Jz24 : (∀ b, ¬ (K b = 21 ∨ K b = 22 ∨ K b = 33 ∨ K b = 34) → Jz24 b = J b) := fun b hc => (djc24 b (fun z => hc (by omega))).trans (dj_J b hc)
      obtain rfl : I = Iz24 := sm24.symm
      refine lv_iconst (v := 0) hx hb dX7_quarter_27 (by decide +kernel) ?_
      refine lv_istore_n (lv' := [(2, .int 0), (0, .ref p0), (1, .int p1)]) hx hb dX7_quarter_28 rfl hl (by decide) rfl (fun ls hl => ?_)
      have key29 := blocks (fun n => ∀ (v29_2 : Int32) (J29 : Nat → Nat → Int64) (H : Heap) (lo : List Loc) (ls : Array Slot), (41 - v29_2.toInt).toNat = n → ((0) ≤ v29_2.toInt ∧ v29_2.toInt ≤ 40) → (∀ b, ¬ (K b = 21 ∨ K b = 22 ∨ K b = 33 ∨ K b = 34) → J29 b = J b) → (∀ b, ¬ K b = 34 → J29 b = J b) → (∀ σ : Sx, okF σ.1 → cmA Q I J p0 σ → mK σ p1 → qrI (mH σ p1).toInt (mF σ p1) (J29 (a0 Q p0 19)) v29_2.toInt (0)) → va_P (dC, dI) vwCl (Wd cs L K I J29 Q) H → va_S A s.heap H lo → lv_has ls 4 [(0, .ref p0), (1, .int p1), (2, .int v29_2)] → W p l e R s m (([.ref p0, .int p1] : List Value).toArray) below meth c H lo 0 0 Qz (F0 m 29 ls [])) (by
        intro n ih29
        intro v29_2 J29 H lo ls hmu29 bv29_2 dj_J29 hd29 h29 hP hS hl
        refine lv_iload_n hx hb dX7_quarter_29 rfl (lv_at hl 2 rfl) ?_
        refine lv_aload_n hx hb dX7_quarter_30 rfl (lv_at hl 0 rfl) ?_
        refine lv_iload_n hx hb dX7_quarter_31 rfl (lv_at hl 1 rfl) ?_
        refine ro_i (va_runV (As := [.int p1]) (rest := [.int v29_2]) ⟨hx, hb, hml, hown, hts⟩ (s_X7_high l dC dI cs L K G Q hQ x0 m0 tx tm H.size I J29 hI p0 hLp0 hKp0 p1 ⟨by omega, by omega⟩) (cwV 1 hts (gV pq1372 pq1374 pq33 pq81 pq1375) rfl rfl rfl (by decide +kernel) ⟨(by rw [hR]; exact (Nat.le_of_ble_eq_true rfl)), (by rw [hR]; exact (Nat.le_of_ble_eq_true rfl))⟩) (sP_V hP hD hK hN hLp0 hKp0 rfl rfl) rfl rfl hl.1 rfl (lv_room (Nat.le_of_ble_eq_true rfl)) dX7_quarter_32 ⟨(by rw [hR]; exact (Nat.le_of_ble_eq_true rfl)), (by rw [hR]; exact (Nat.le_of_ble_eq_true rfl))⟩) hS hP (fun z32 H locs hz32 hP hS => ?_)
        obtain ⟨bz32, fez32⟩ := hz32
        refine lv_icmp_ge (tgt := 89) hx hb dX7_quarter_35 (by decide) (fun c35 => ?_) (fun c35 => ?_)
        · have t35 := tq_le (k := z32.toInt) (q := v29_2.toInt) c35 rfl rfl
          refine lv_aload_n hx hb dX7_quarter_89 rfl (lv_at hl 0 rfl) ?_
          refine sw_v (Z := (fun I1 J1 => Iv L K x0 m0 tx tm I1 ∧ (∀ b, ¬ (K b = 7 ∨ K b = 19 ∨ K b = 30) → I1 b = I b) ∧ (∀ b, K b = 0 ∨ K b = 1 ∨ K b = 3 ∨ K b = 6 → I1 b = I b) ∧ (∀ σ : Sx, cmA Q I J29 p0 σ → cmA Q I1 J1 p0 (rem σ)) ∧ (∀ b, ¬ (K b = 22 ∨ K b = 33) → J1 b = J29 b))) (va_runV (As := []) (rest := []) ⟨hx, hb, hml, hown, hts⟩ (s_X7_keepsPast l dC dI cs L K G Q hQ x0 m0 tx tm H.size I J29 hI p0 hLp0 hKp0) (cwV 0 hts (gV pq1324 pq1326 pq26 pq81 pq1327) rfl rfl rfl (by decide +kernel) ⟨(by rw [hR]; exact (Nat.le_of_ble_eq_true rfl)), (by rw [hR]; exact (Nat.le_of_ble_eq_true rfl))⟩) (sP_V hP hD hK hN hLp0 hKp0 rfl rfl) rfl rfl hl.1 rfl (lv_room (Nat.le_of_ble_eq_true rfl)) dX7_quarter_90 ⟨(by rw [hR]; exact (Nat.le_of_ble_eq_true rfl)), (by rw [hR]; exact (Nat.le_of_ble_eq_true rfl))⟩) hS hAL hA (fun Iz90 Jz90 H locs hz90 hIz90 hP hS => ?_)
          obtain ⟨hIz90, frc90, dnc90, jz90, djc90⟩ := hIz90
          have dj_Jz90 : (∀ b, ¬ (K b = 21 ∨ K b = 22 ∨ K b = 33 ∨ K b = 34) → Jz90 b = J b) := fun b hc => (djc90 b (fun z => hc (by omega))).trans (dj_J29 b hc)
          have dn_Iz90 : (∀ b, K b = 0 ∨ K b = 1 ∨ K b = 3 ∨ K b = 6 → Iz90 b = I b) := fun b hc => (dnc90 b (by omega)).trans (dn_I b hc)
          refine lv_aload_n hx hb dX7_quarter_93 rfl (lv_at hl 0 rfl) ?_
          refine lv_iload_n hx hb dX7_quarter_94 rfl (lv_at hl 1 rfl) ?_
          refine sw_v (Z := (fun I1 J1 => Iv L K x0 m0 tx tm I1 ∧ I1 = Iz90 ∧ (∀ k, k < 640 → J1 (a0 Q p0 5) k = if 80 * p1.toInt.toNat ≤ k ∧ k < 80 * p1.toInt.toNat + 80 then Jz90 (a0 Q p0 19) (k - 80 * p1.toInt.toNat) else Jz90 (a0 Q p0 5) k) ∧ (∀ b, ¬ (K b = 21) → J1 b = Jz90 b))) (va_runV (As := [.int p1]) (rest := []) ⟨hx, hb, hml, hown, hts⟩ (s_X7_takesMade l dC dI cs L K G Q hQ x0 m0 tx tm H.size Iz90 Jz90 hIz90 p0 hLp0 hKp0 p1 ⟨by omega, by omega⟩) (cwV 1 hts (gV pq1399 pq1401 pq38 pq81 pq1402) rfl rfl rfl (by decide +kernel) ⟨(by rw [hR]; exact (Nat.le_of_ble_eq_true rfl)), (by rw [hR]; exact (Nat.le_of_ble_eq_true rfl))⟩) (sP_V hP hD hK hN hLp0 hKp0 rfl rfl) rfl rfl hl.1 rfl (lv_room (Nat.le_of_ble_eq_true rfl)) dX7_quarter_95 ⟨(by rw [hR]; exact (Nat.le_of_ble_eq_true rfl)), (by rw [hR]; exact (Nat.le_of_ble_eq_true rfl))⟩) hS hAL hA (fun Iz95 Jz95 H locs hz95 hIz95 hP hS => ?_)
          obtain ⟨hIz95, sm95, jz95, djc95⟩ := hIz95
          have dj_Jz95 : (∀ b, ¬ (K b = 21 ∨ K b = 22 ∨ K b = 33 ∨ K b = 34) → Jz95 b = J b) := fun b hc => (djc95 b (fun z => hc (by omega))).trans (dj_Jz90 b hc)
          obtain rfl : Iz90 = Iz95 := sm95.symm
          refine lv_aload_n hx hb dX7_quarter_98 rfl (lv_at hl 0 rfl) ?_
          refine lv_iload_n hx hb dX7_quarter_99 rfl (lv_at hl 1 rfl) ?_
          refine ro_i (va_runV (As := [.int p1]) (rest := []) ⟨hx, hb, hml, hown, hts⟩ (s_X7_wide l dC dI cs L K G Q hQ x0 m0 tx tm H.size Iz90 Jz95 hIz90 p0 hLp0 hKp0 p1 ⟨by omega, by omega⟩) (cwV 1 hts (gV pq1368 pq1370 pq32 pq81 pq1371) rfl rfl rfl (by decide +kernel) ⟨(by rw [hR]; exact (Nat.le_of_ble_eq_true rfl)), (by rw [hR]; exact (Nat.le_of_ble_eq_true rfl))⟩) (sP_V hP hD hK hN hLp0 hKp0 rfl rfl) rfl rfl hl.1 rfl (lv_room (Nat.le_of_ble_eq_true rfl)) dX7_quarter_100 ⟨(by rw [hR]; exact (Nat.le_of_ble_eq_true rfl)), (by rw [hR]; exact (Nat.le_of_ble_eq_true rfl))⟩) hS hP (fun z100 H locs hz100 hP hS => ?_)
          obtain ⟨bz100, fez100⟩ := hz100
          obtain ⟨yn, eyn, hLyn, hKyn⟩ := oQ_7_0 (Sv_at hQ hLp0 hKp0)
          have w100 : z100 = z12 := by rw [fez100, fez12, eyn]; exact congrFun (frc90 yn (by have := hKyn; omega)) _
          have w100i := congrArg Int32.toInt w100
          refine lv_istore_n (lv' := [(2, .int z100), (0, .ref p0), (1, .int p1)]) hx hb dX7_quarter_103 rfl hl (by decide) rfl (fun ls hl => ?_)
          refine lv_aload_n hx hb dX7_quarter_104 rfl (lv_at hl 1 rfl) ?_
          obtain ⟨y105, ey105, hLy105, hKy105⟩ := oQ_7_0 (Sv_at hQ hLp0 hKp0)
          refine p_get (v := .ref y105) hx hb hts inX7 hown hK hP hLp0 hKp0 rfl rfl 0 (by decide) (hts _ pq1115) (congrArg (fun q => some (va_rf q)) ey105) dX7_quarter_105 ?_
          refine lv_iconst (v := 3) hx hb dX7_quarter_108 (by decide +kernel) ?_
          refine lv_iload_n hx hb dX7_quarter_109 rfl (lv_at hl 2 rfl) ?_
          refine lv_iadd hx hb dX7_quarter_110 ?_
          refine lv_topi (fun z110 ez110 => ?_)
          have bz110 := tq_add (k := (3)) (q := p1.toInt) ez110 (by decide +kernel) rfl (by omega) (by omega)
          refine lv_aload_n hx hb dX7_quarter_111 rfl (lv_at hl 1 rfl) ?_
          refine lv_iload_n hx hb dX7_quarter_112 rfl (lv_at hl 2 rfl) ?_
          refine ro_i (va_runV (As := [.int p1]) (rest := [.int z110, .ref y105]) ⟨hx, hb, hml, hown, hts⟩ (s_X7_high l dC dI cs L K G Q hQ x0 m0 tx tm H.size Iz90 Jz95 hIz90 p0 hLp0 hKp0 p1 ⟨by omega, by omega⟩) (cwV 1 hts (gV pq1372 pq1374 pq33 pq81 pq1375) rfl rfl rfl (by decide +kernel) ⟨(by rw [hR]; exact (Nat.le_of_ble_eq_true rfl)), (by rw [hR]; exact (Nat.le_of_ble_eq_true rfl))⟩) (sP_V hP hD hK hN hLp0 hKp0 rfl rfl) rfl rfl hl.1 rfl (lv_room (Nat.le_of_ble_eq_true rfl)) dX7_quarter_113 ⟨(by rw [hR]; exact (Nat.le_of_ble_eq_true rfl)), (by rw [hR]; exact (Nat.le_of_ble_eq_true rfl))⟩) hS hP (fun z113 H locs hz113 hP hS => ?_)
          obtain ⟨bz113, fez113⟩ := hz113
          refine p_iast hx hb hK hP hD hS 8 hLy105 hKy105 rfl (fun _ => rfl) rfl (in_of (by omega) (by omega)) dX7_quarter_116 (fun H locs hP hS => ?_)
          obtain ⟨Iz116, hP, hIz116, qIz116⟩ : ∃ Iz116, va_P (dC, dI) vwCl (Wd cs L K Iz116 Jz95 Q) H ∧ Iv L K x0 m0 tx tm Iz116 ∧ Iz116 = va_up Iz90 y105 (upd (Iz90 y105) z110.toNatClampNeg z113) := ⟨_, hP, Iv_put hIz90 hKy105 (oU_18 (i := z110) (k := z110.toInt) rfl (Iv_at hIz90 hLy105 hKy105) (by unfold rng; omega)) (Or.inl (by decide)) (Or.inl (by decide)), rfl⟩
          have dn_Iz116 : (∀ b, K b = 0 ∨ K b = 1 ∨ K b = 3 ∨ K b = 6 → Iz116 b = I b) := fun b hc => (congrFun qIz116 b).trans ((va_up_ne _ _ (fun z => by have q := hKy105; rw [← z] at q; omega)).trans (dn_Iz90 b hc))
          refine lv_aload_n hx hb dX7_quarter_117 rfl (lv_at hl 1 rfl) ?_
          refine p_get (v := .ref y105) hx hb hts inX7 hown hK hP hLp0 hKp0 rfl rfl 0 (by decide) (hts _ pq1115) (congrArg (fun q => some (va_rf q)) ey105) dX7_quarter_118 ?_
          refine lv_bipush (v := 11) hx hb dX7_quarter_121 (by decide +kernel) ?_
          refine lv_iload_n hx hb dX7_quarter_123 rfl (lv_at hl 2 rfl) ?_
          refine lv_iadd hx hb dX7_quarter_124 ?_
          refine lv_topi (fun z124 ez124 => ?_)
          have bz124 := tq_add (k := (11)) (q := p1.toInt) ez124 (by decide +kernel) rfl (by omega) (by omega)
          refine lv_iload_n hx hb dX7_quarter_125 rfl (lv_at hl 0 rfl) ?_
          refine p_iast hx hb hK hP hD hS 8 hLy105 hKy105 rfl (fun _ => rfl) rfl (in_of (by omega) (by omega)) dX7_quarter_126 (fun H locs hP hS => ?_)
          obtain ⟨Iz126, hP, hIz126, qIz126⟩ : ∃ Iz126, va_P (dC, dI) vwCl (Wd cs L K Iz126 Jz95 Q) H ∧ Iv L K x0 m0 tx tm Iz126 ∧ Iz126 = va_up Iz116 y105 (upd (Iz116 y105) z124.toNatClampNeg z100) := ⟨_, hP, Iv_put hIz116 hKy105 (oU_18 (i := z124) (k := z124.toInt) rfl (Iv_at hIz116 hLy105 hKy105) (by unfold rng; omega)) (Or.inl (by decide)) (Or.inl (by decide)), rfl⟩
          have dn_Iz126 : (∀ b, K b = 0 ∨ K b = 1 ∨ K b = 3 ∨ K b = 6 → Iz126 b = I b) := fun b hc => (congrFun qIz126 b).trans ((va_up_ne _ _ (fun z => by have q := hKy105; rw [← z] at q; omega)).trans (dn_Iz116 b hc))
          refine lv_aload_n hx hb dX7_quarter_127 rfl (lv_at hl 1 rfl) ?_
          refine lv_iload_n hx hb dX7_quarter_128 rfl (lv_at hl 2 rfl) ?_
          refine ro_i (va_runV (As := [.int p1]) (rest := []) ⟨hx, hb, hml, hown, hts⟩ (s_X7_wide l dC dI cs L K G Q hQ x0 m0 tx tm H.size Iz126 Jz95 hIz126 p0 hLp0 hKp0 p1 ⟨by omega, by omega⟩) (cwV 1 hts (gV pq1368 pq1370 pq32 pq81 pq1371) rfl rfl rfl (by decide +kernel) ⟨(by rw [hR]; exact (Nat.le_of_ble_eq_true rfl)), (by rw [hR]; exact (Nat.le_of_ble_eq_true rfl))⟩) (sP_V hP hD hK hN hLp0 hKp0 rfl rfl) rfl rfl hl.1 rfl (lv_room (Nat.le_of_ble_eq_true rfl)) dX7_quarter_129 ⟨(by rw [hR]; exact (Nat.le_of_ble_eq_true rfl)), (by rw [hR]; exact (Nat.le_of_ble_eq_true rfl))⟩) hS hP (fun z129 H locs hz129 hP hS => ?_)
          obtain ⟨bz129, fez129⟩ := hz129
          subst hR; subst hQz
          exact W.iret (v := z129) hx hb hr (fun t ht hW => ⟨⟨z129, (), rfl, (fun σ ok A => by have ec : I (a0 Q p0 0) 0 = σ.1.1 0 := cmA_n A (by decide); have hm : mK σ p1 := (by have q := xpz2.1 t5; rw [ec] at q; exact q); have F := cmA_F A (m := p1) (by omega); have eW := congrArg Int32.toInt (show z12 = I (a0 Q p0 0) (3 + p1.toInt.toNat) from fez12); have F1 : (I (a0 Q p0 0) (3 + p1.toInt.toNat)).toInt = (mW σ p1).toInt := F.1; have hw : (mW σ p1).toInt ≤ 40 := (by omega); have A2 := cmA_fr (I1 := I) (J1 := J29) hQ hLp0 hKp0 (fun _ _ => rfl) (fun b hb => hd29 b (by omega)) rfl A; have A3 := jz90 σ A2; have eH := congrArg Int32.toInt (show z32 = I (a0 Q p0 0) (11 + p1.toInt.toNat) from fez32); have F2 : (I (a0 Q p0 0) (11 + p1.toInt.toNat)).toInt = (mH σ p1).toInt := F.2.1; have fin := qr_fin (show okm (mW σ p1).toInt (mH σ p1).toInt (mF σ p1) from ok.2.2.1 _ (show p1.toInt.toNat < (σ.1.1 0).toInt.toNat by have q : 0 ≤ p1.toInt ∧ p1.toInt < (σ.1.1 0).toInt := hm; omega)).2.2 (h29 σ ok A hm) (by omega); have v113 : z113 = mH σ p1 := (by rw [show z113 = Iz90 (a0 Q p0 0) (11 + p1.toInt.toNat) from fez113, cmA_n A3 (by omega), ← rem_H]); have v100 : z100 = mW σ p1 := (by rw [show z100 = Iz90 (a0 Q p0 0) (3 + p1.toInt.toNat) from fez100, cmA_n A3 (by omega), ← rem_W]); rw [qu_y hm hw, ← v113]; show z129.toInt = z113.toInt; rw [show z129 = Iz126 (a0 Q p0 0) (3 + p1.toInt.toNat) from fez129, show a0 Q p0 0 = y105 from gd_of ey105, qIz126, va_up_self, qIz116, va_up_self]; unfold upd; rw [if_neg (by show ¬ 3 + p1.toInt.toNat = z124.toInt.toNat; omega), if_pos (by show 3 + p1.toInt.toNat = z110.toInt.toNat; omega)]), ⟨Iz126, Jz95, ⟨hIz126, dn_Iz126, (fun σ ok A => by have ec : I (a0 Q p0 0) 0 = σ.1.1 0 := cmA_n A (by decide); have hm : mK σ p1 := (by have q := xpz2.1 t5; rw [ec] at q; exact q); have F := cmA_F A (m := p1) (by omega); have eW := congrArg Int32.toInt (show z12 = I (a0 Q p0 0) (3 + p1.toInt.toNat) from fez12); have F1 : (I (a0 Q p0 0) (3 + p1.toInt.toNat)).toInt = (mW σ p1).toInt := F.1; have hw : (mW σ p1).toInt ≤ 40 := (by omega); have A2 := cmA_fr (I1 := I) (J1 := J29) hQ hLp0 hKp0 (fun _ _ => rfl) (fun b hb => hd29 b (by omega)) rfl A; have A3 := jz90 σ A2; have eH := congrArg Int32.toInt (show z32 = I (a0 Q p0 0) (11 + p1.toInt.toNat) from fez32); have F2 : (I (a0 Q p0 0) (11 + p1.toInt.toNat)).toInt = (mH σ p1).toInt := F.2.1; have fin := qr_fin (show okm (mW σ p1).toInt (mH σ p1).toInt (mF σ p1) from ok.2.2.1 _ (show p1.toInt.toNat < (σ.1.1 0).toInt.toNat by have q : 0 ≤ p1.toInt ∧ p1.toInt < (σ.1.1 0).toInt := hm; omega)).2.2 (h29 σ ok A hm) (by omega); have v113 : z113 = mH σ p1 := (by rw [show z113 = Iz90 (a0 Q p0 0) (11 + p1.toInt.toNat) from fez113, cmA_n A3 (by omega), ← rem_H]); have v100 : z100 = mW σ p1 := (by rw [show z100 = Iz90 (a0 Q p0 0) (3 + p1.toInt.toNat) from fez100, cmA_n A3 (by omega), ← rem_W]); rw [qu_y hm hw]; have B := cmA_setM (m := p1.toInt.toNat) (w := mH σ p1) (h := mW σ p1) (f := quW σ p1) (I := Iz90) (J := Jz90) (I1 := Iz126) (J1 := Jz95) hQ hLp0 hKp0 (by omega) (by rw [show a0 Q p0 0 = y105 from gd_of ey105, qIz126, va_up_self, qIz116, va_up_self, v113, v100, show z110.toNatClampNeg = 3 + p1.toInt.toNat from (by show z110.toInt.toNat = _; omega), show z124.toNatClampNeg = 11 + p1.toInt.toNat from (by show z124.toInt.toNat = _; omega)]) (tk_fin jz95 (fun x y => by rw [djc90 _ (by have := (made_k hQ hLp0 hKp0); omega)]; exact fin x y)) (fun b hb => by rw [qIz126, va_up_ne _ _ (fun z => hb (by rw [z]; exact hKy105)), qIz116, va_up_ne _ _ (fun z => hb (by rw [z]; exact hKy105))]) (fun b hb => djc95 b (by omega)) A3; rw [rem_1] at B; exact B), dj_Jz95⟩, by rw [ht]; exact hP⟩⟩, hS.F ht⟩) hS.2.2 dX7_quarter_132
        · have t35 := tq_nle (k := z32.toInt) (q := v29_2.toInt) c35 rfl rfl
          refine lv_iconst (v := 0) hx hb dX7_quarter_38 (by decide +kernel) ?_
          refine lv_istore_n (lv' := [(3, .int 0), (0, .ref p0), (1, .int p1), (2, .int v29_2)]) hx hb dX7_quarter_39 rfl hl (by decide) rfl (fun ls hl => ?_)
          have key40 := blocks (fun n => ∀ (v40_3 : Int32) (J40 : Nat → Nat → Int64) (H : Heap) (lo : List Loc) (ls : Array Slot), (41 - v40_3.toInt).toNat = n → ((0) ≤ v40_3.toInt ∧ v40_3.toInt ≤ 40) → (∀ b, ¬ (K b = 21 ∨ K b = 22 ∨ K b = 33 ∨ K b = 34) → J40 b = J b) → (∀ b, ¬ K b = 34 → J40 b = J b) → (∀ σ : Sx, okF σ.1 → cmA Q I J p0 σ → mK σ p1 → qrI (mH σ p1).toInt (mF σ p1) (J40 (a0 Q p0 19)) v29_2.toInt (v40_3.toInt)) → va_P (dC, dI) vwCl (Wd cs L K I J40 Q) H → va_S A s.heap H lo → lv_has ls 4 [(0, .ref p0), (1, .int p1), (2, .int v29_2), (3, .int v40_3)] → W p l e R s m (([.ref p0, .int p1] : List Value).toArray) below meth c H lo 0 0 Qz (F0 m 40 ls [])) (by
            intro n ih40
            intro v40_3 J40 H lo ls hmu40 bv40_3 dj_J40 hd40 h40 hP hS hl
            refine lv_iload_n hx hb dX7_quarter_40 rfl (lv_at hl 3 rfl) ?_
            refine lv_aload_n hx hb dX7_quarter_41 rfl (lv_at hl 0 rfl) ?_
            refine lv_iload_n hx hb dX7_quarter_42 rfl (lv_at hl 1 rfl) ?_
            refine ro_i (va_runV (As := [.int p1]) (rest := [.int v40_3]) ⟨hx, hb, hml, hown, hts⟩ (s_X7_wide l dC dI cs L K G Q hQ x0 m0 tx tm H.size I J40 hI p0 hLp0 hKp0 p1 ⟨by omega, by omega⟩) (cwV 1 hts (gV pq1368 pq1370 pq32 pq81 pq1371) rfl rfl rfl (by decide +kernel) ⟨(by rw [hR]; exact (Nat.le_of_ble_eq_true rfl)), (by rw [hR]; exact (Nat.le_of_ble_eq_true rfl))⟩) (sP_V hP hD hK hN hLp0 hKp0 rfl rfl) rfl rfl hl.1 rfl (lv_room (Nat.le_of_ble_eq_true rfl)) dX7_quarter_43 ⟨(by rw [hR]; exact (Nat.le_of_ble_eq_true rfl)), (by rw [hR]; exact (Nat.le_of_ble_eq_true rfl))⟩) hS hP (fun z43 H locs hz43 hP hS => ?_)
            obtain ⟨bz43, fez43⟩ := hz43
            obtain rfl : z12 = z43 := fez12.trans fez43.symm
            refine lv_icmp_ge (tgt := 83) hx hb dX7_quarter_46 (by decide) (fun c46 => ?_) (fun c46 => ?_)
            · have t46 := tq_le (k := z12.toInt) (q := v40_3.toInt) c46 rfl rfl
              obtain ⟨z83, ez83⟩ : ∃ y : Int32, y = v29_2 + 1 := ⟨_, rfl⟩
              refine lv_iinc (v := z83) (lv' := [(2, .int z83), (0, .ref p0), (1, .int p1), (3, .int v40_3)]) hx hb dX7_quarter_83 hl (k := 2) rfl (by rw [ez83]; rfl) (by decide) rfl (fun ls hl => ?_)
              have bz83 := tq_add (k := v29_2.toInt) (q := 1) ez83 rfl (by decide +kernel) (by omega) (by omega)
              refine lv_goto (tgt := 29) hx hb dX7_quarter_86 (by decide) ?_
              exact ih29 _ (by omega) z83 J40 _ _ _ rfl ⟨by omega, by omega⟩ dj_J40 hd40 (fun σ ok A hm => qr_nl (show okm (mW σ p1).toInt (mH σ p1).toInt (mF σ p1) from ok.2.2.1 _ (show p1.toInt.toNat < (σ.1.1 0).toInt.toNat by have q : 0 ≤ p1.toInt ∧ p1.toInt < (σ.1.1 0).toInt := hm; omega)).2.2 (h40 σ ok A hm) (by have F := cmA_F A (m := p1) (by omega); have e := congrArg Int32.toInt (show z12 = I (a0 Q p0 0) (3 + p1.toInt.toNat) from fez12); have F1 : (I (a0 Q p0 0) (3 + p1.toInt.toNat)).toInt = (mW σ p1).toInt := F.1; omega) (by omega)) hP hS (lv_sub hl [1, 2, 0] rfl)
            · have t46 := tq_nle (k := z12.toInt) (q := v40_3.toInt) c46 rfl rfl
              refine lv_aload_n hx hb dX7_quarter_49 rfl (lv_at hl 0 rfl) ?_
              refine lv_iload_n hx hb dX7_quarter_50 rfl (lv_at hl 1 rfl) ?_
              refine lv_iload_n hx hb dX7_quarter_51 rfl (lv_at hl 3 rfl) ?_
              refine lv_iload_n hx hb dX7_quarter_52 rfl (lv_at hl 2 rfl) ?_
              refine ro_i (va_runV (As := [.int p1, .int v40_3, .int v29_2]) (rest := []) ⟨hx, hb, hml, hown, hts⟩ (s_X7_has l dC dI cs L K G Q hQ x0 m0 tx tm H.size I J40 hI p0 hLp0 hKp0 p1 ⟨by omega, by omega⟩ v40_3 v29_2) (cwV 3 hts (gV pq1376 pq1378 pq34 pq81 pq1379) rfl rfl rfl (by decide +kernel) ⟨(by rw [hR]; exact (Nat.le_of_ble_eq_true rfl)), (by rw [hR]; exact (Nat.le_of_ble_eq_true rfl))⟩) (sP_V hP hD hK hN hLp0 hKp0 rfl rfl) rfl rfl hl.1 rfl (lv_room (Nat.le_of_ble_eq_true rfl)) dX7_quarter_53 ⟨(by rw [hR]; exact (Nat.le_of_ble_eq_true rfl)), (by rw [hR]; exact (Nat.le_of_ble_eq_true rfl))⟩) hS hP (fun z53 H locs hz53 hP hS => ?_)
              obtain ⟨bz53, imz53, xpz53⟩ := hz53
              have hx53 : ∀ σ : Sx, okF σ.1 → cmA Q I J p0 σ → mK σ p1 → z53.toInt = bi (md (mF σ p1) v40_3.toInt v29_2.toInt) := fun σ ok A hm => by have F := cmA_F A (m := p1) (by omega); have q := xpz53; rw [show rF Q J40 p0 p1.toInt.toNat = rF Q J p0 p1.toInt.toNat from congrArg (fun f => mo f p1.toInt.toNat) (hd40 _ (by have := (a_g hQ hLp0 hKp0).1.2; omega)), hs_congr F.1 F.2.1 F.2.2, hs_of (show okm (mW σ p1).toInt (mH σ p1).toInt (mF σ p1) from ok.2.2.1 _ (show p1.toInt.toNat < (σ.1.1 0).toInt.toNat by have q : 0 ≤ p1.toInt ∧ p1.toInt < (σ.1.1 0).toInt := hm; omega)).2.2] at q; exact q
              have j77 : ∀ (J77 : Nat → Nat → Int64) (H : Heap) (lo : List Loc) (ls : Array Slot), (∀ b, ¬ (K b = 21 ∨ K b = 22 ∨ K b = 33 ∨ K b = 34) → J77 b = J b) → (∀ b, ¬ K b = 34 → J77 b = J b) → (∀ σ : Sx, okF σ.1 → cmA Q I J p0 σ → mK σ p1 → qrI (mH σ p1).toInt (mF σ p1) (J77 (a0 Q p0 19)) v29_2.toInt (v40_3.toInt + 1)) → va_P (dC, dI) vwCl (Wd cs L K I J77 Q) H → va_S A s.heap H lo → lv_has ls 4 [(0, .ref p0), (1, .int p1), (2, .int v29_2), (3, .int v40_3)] → W p l e R s m (([.ref p0, .int p1] : List Value).toArray) below meth c H lo 0 0 Qz (F0 m 77 ls []) := by
                intro J77 H lo ls dj_J77 hd77 h77 hP hS hl
                obtain ⟨z77, ez77⟩ : ∃ y : Int32, y = v40_3 + 1 := ⟨_, rfl⟩
                refine lv_iinc (v := z77) (lv' := [(3, .int z77), (0, .ref p0), (1, .int p1), (2, .int v29_2)]) hx hb dX7_quarter_77 hl (k := 3) rfl (by rw [ez77]; rfl) (by decide) rfl (fun ls hl => ?_)
                have bz77 := tq_add (k := v40_3.toInt) (q := 1) ez77 rfl (by decide +kernel) (by omega) (by omega)
                refine lv_goto (tgt := 40) hx hb dX7_quarter_80 (by decide) ?_
                exact ih40 _ (by omega) z77 J77 _ _ _ rfl ⟨by omega, by omega⟩ dj_J77 hd77 (fun σ ok A hm => by rw [bz77]; exact h77 σ ok A hm) hP hS (lv_sub hl [1, 2, 3, 0] rfl)
              refine lv_if_eq (tgt := 77) hx hb dX7_quarter_56 (by decide) (fun c56 => ?_) (fun c56 => ?_)
              · have t56 := tq_eq (k := z53.toInt) (q := (0)) c56 rfl (by decide +kernel)
                exact j77 J40 _ _ _ dj_J40 hd40 (fun σ ok A hm => qr_skip (h40 σ ok A hm) rfl (bi_f (hx53 σ ok A hm) t56)) hP hS (lv_sub hl [0, 1, 2, 3] rfl)
              · have t56 := tq_ne (k := z53.toInt) (q := (0)) c56 rfl (by decide +kernel)
                have i56 := imz53 t56
                refine lv_aload_n hx hb dX7_quarter_59 rfl (lv_at hl 0 rfl) ?_
                obtain ⟨y60, ey60, hLy60, hKy60⟩ := oQ_7_19 (Sv_at hQ hLp0 hKp0)
                refine p_get (v := .ref y60) hx hb hts inX7 hown hK hP hLp0 hKp0 rfl rfl 19 (by decide) (hts _ pq1134) (congrArg (fun q => some (va_rf q)) ey60) dX7_quarter_60 ?_
                refine lv_iconst (v := 0) hx hb dX7_quarter_63 (by decide +kernel) ?_
                refine lv_aload_n hx hb dX7_quarter_64 rfl (lv_at hl 0 rfl) ?_
                refine lv_iload_n hx hb dX7_quarter_65 rfl (lv_at hl 1 rfl) ?_
                refine ro_i (va_runV (As := [.int p1]) (rest := [.int 0, .ref y60]) ⟨hx, hb, hml, hown, hts⟩ (s_X7_high l dC dI cs L K G Q hQ x0 m0 tx tm H.size I J40 hI p0 hLp0 hKp0 p1 ⟨by omega, by omega⟩) (cwV 1 hts (gV pq1372 pq1374 pq33 pq81 pq1375) rfl rfl rfl (by decide +kernel) ⟨(by rw [hR]; exact (Nat.le_of_ble_eq_true rfl)), (by rw [hR]; exact (Nat.le_of_ble_eq_true rfl))⟩) (sP_V hP hD hK hN hLp0 hKp0 rfl rfl) rfl rfl hl.1 rfl (lv_room (Nat.le_of_ble_eq_true rfl)) dX7_quarter_66 ⟨(by rw [hR]; exact (Nat.le_of_ble_eq_true rfl)), (by rw [hR]; exact (Nat.le_of_ble_eq_true rfl))⟩) hS hP (fun z66 H locs hz66 hP hS => ?_)
                obtain ⟨bz66, fez66⟩ := hz66
                obtain rfl : z32 = z66 := fez32.trans fez66.symm
                refine lv_iconst (v := 1) hx hb dX7_quarter_69 (by decide +kernel) ?_
                refine lv_isub hx hb dX7_quarter_70 ?_
                refine lv_topi (fun z70 ez70 => ?_)
                have bz70 := tq_sub (k := z32.toInt) (q := (1)) ez70 rfl (by decide +kernel) (by omega) (by omega)
                refine lv_iload_n hx hb dX7_quarter_71 rfl (lv_at hl 2 rfl) ?_
                refine lv_isub hx hb dX7_quarter_72 ?_
                refine lv_topi (fun z72 ez72 => ?_)
                have bz72 := tq_sub (k := z70.toInt) (q := v29_2.toInt) ez72 rfl rfl (by omega) (by omega)
                refine lv_iload_n hx hb dX7_quarter_73 rfl (lv_at hl 3 rfl) ?_
                refine sw_v (Z := (fun I1 J1 => Iv L K x0 m0 tx tm I1 ∧ I1 = I ∧ (∀ x y : Int, md (J1 y60) x y = (md (J40 y60) x y || decide (x = z72.toInt ∧ y = v40_3.toInt))) ∧ (∀ b, ¬ (K b = 34) → J1 b = J40 b))) (va_runS (As := [.ref y60, .int 0, .int z72, .int v40_3]) (rest := []) ⟨hx, hb, hml, hown, hts⟩ (s_X7_setsDotM l dC dI cs L K G Q hQ x0 m0 tx tm H.size I J40 hI y60 hLy60 hKy60 0 ⟨by decide +kernel, by decide +kernel⟩ z72 ⟨by omega, by omega⟩ v40_3 ⟨by omega, by omega⟩) (va_cwS 4 hts (gS pq1254 pq1255 pq81 pq1256) rfl rfl rfl (by decide +kernel) ⟨(by rw [hR]; exact (Nat.le_of_ble_eq_true rfl)), (by rw [hR]; exact (Nat.le_of_ble_eq_true rfl))⟩) (sP_S hP hD hK hN) rfl rfl hl.1 rfl (lv_room (Nat.le_of_ble_eq_true rfl)) dX7_quarter_74 ⟨(by rw [hR]; exact (Nat.le_of_ble_eq_true rfl)), (by rw [hR]; exact (Nat.le_of_ble_eq_true rfl))⟩) hS hAL hA (fun Iz74 Jz74 H locs hz74 hIz74 hP hS => ?_)
                obtain ⟨hIz74, sm74, jz74, djc74⟩ := hIz74
                have dj_Jz74 : (∀ b, ¬ (K b = 21 ∨ K b = 22 ∨ K b = 33 ∨ K b = 34) → Jz74 b = J b) := fun b hc => (djc74 b (fun z => hc (by omega))).trans (dj_J40 b hc)
                obtain rfl : I = Iz74 := sm74.symm
                exact j77 Jz74 _ _ _ dj_Jz74 (fun b hb => (djc74 b (by omega)).trans (hd40 b hb)) (fun σ ok A hm => qr_set (h40 σ ok A hm) rfl (bi_t (hx53 σ ok A hm) t56) (by rw [show a0 Q p0 19 = y60 from gd_of ey60]; exact jz74) (by have F := cmA_F A (m := p1) (by omega); have e := congrArg Int32.toInt (show z32 = I (a0 Q p0 0) (11 + p1.toInt.toNat) from fez32); have F1 : (I (a0 Q p0 0) (11 + p1.toInt.toNat)).toInt = (mH σ p1).toInt := F.2.1; omega) rfl) hP hS (lv_sub hl [0, 1, 2, 3] rfl))
          exact key40 _ 0 J29 _ _ _ rfl ⟨by decide +kernel, by decide +kernel⟩ dj_J29 hd29 h29 hP hS (lv_sub hl [1, 2, 3, 0] rfl))
      exact key29 _ 0 Jz24 _ _ _ rfl ⟨by decide +kernel, by decide +kernel⟩ dj_Jz24 (fun b hb => djc24 b (by omega)) (fun σ ok A hm => qr_0 (show okm (mW σ p1).toInt (mH σ p1).toInt (mF σ p1) from ok.2.2.1 _ (show p1.toInt.toNat < (σ.1.1 0).toInt.toNat by have q : 0 ≤ p1.toInt ∧ p1.toInt < (σ.1.1 0).toInt := hm; omega)).2.2 jz24) hP hS (lv_sub hl [1, 2, 0] rfl)
    · have t17 := tq_nle (k := z12.toInt) (q := (40)) c17 rfl (by decide +kernel)
      refine lv_bipush (v := (-2)) hx hb dX7_quarter_20 (by decide +kernel) ?_
      subst hR; subst hQz
      exact W.iret (v := (-2)) hx hb hr (fun t ht hW => ⟨⟨(-2), (), rfl, (fun σ ok A => by have ec : I (a0 Q p0 0) 0 = σ.1.1 0 := cmA_n A (by decide); have hm : mK σ p1 := (by have q := xpz2.1 t5; rw [ec] at q; exact q); have F := cmA_F A (m := p1) (by omega); have eW := congrArg Int32.toInt (show z12 = I (a0 Q p0 0) (3 + p1.toInt.toNat) from fez12); have F1 : (I (a0 Q p0 0) (3 + p1.toInt.toNat)).toInt = (mW σ p1).toInt := F.1; rw [qu_e hm (by omega)]; show (-2 : Int32).toInt = -2; decide +kernel), ⟨I, J, ⟨hI, dn_I, (fun σ ok A => by have ec : I (a0 Q p0 0) 0 = σ.1.1 0 := cmA_n A (by decide); have hm : mK σ p1 := (by have q := xpz2.1 t5; rw [ec] at q; exact q); have F := cmA_F A (m := p1) (by omega); have eW := congrArg Int32.toInt (show z12 = I (a0 Q p0 0) (3 + p1.toInt.toNat) from fez12); have F1 : (I (a0 Q p0 0) (3 + p1.toInt.toNat)).toInt = (mW σ p1).toInt := F.1; rw [qu_e hm (by omega)]; exact A), dj_J⟩, by rw [ht]; exact hP⟩⟩, hS.F ht⟩) hS.2.2 dX7_quarter_22
  · have t5 := tq_eq (k := z2.toInt) (q := (0)) c5 rfl (by decide +kernel)
    refine lv_iconst (v := (-1)) hx hb dX7_quarter_8 (by decide +kernel) ?_
    subst hR; subst hQz
    exact W.iret (v := (-1)) hx hb hr (fun t ht hW => ⟨⟨(-1), (), rfl, (fun σ ok A => by have ec : I (a0 Q p0 0) 0 = σ.1.1 0 := cmA_n A (by decide); rw [qu_n (fun q => xpz2.2 t5 (by rw [ec]; exact q))]; show (-1 : Int32).toInt = -1; decide +kernel), ⟨I, J, ⟨hI, dn_I, (fun σ ok A => by have ec : I (a0 Q p0 0) 0 = σ.1.1 0 := cmA_n A (by decide); rw [qu_n (fun q => xpz2.2 t5 (by rw [ec]; exact q))]; exact A), dj_J⟩, by rw [ht]; exact hP⟩⟩, hS.F ht⟩) hS.2.2 dX7_quarter_9
