def yX7_islandsOf : MethodName := ⟨RX7, "islandsOf", "(I)I"⟩
def yX7_holesOf : MethodName := ⟨RX7, "holesOf", "(I)I"⟩
def yX7_isOutside : MethodName := ⟨RX7, "isOutside", "(II)Z"⟩
abbrev cX7_islandsOf : ByteArray := prog_9_method_85_code
abbrev cX7_holesOf : ByteArray := prog_9_method_87_code
abbrev cX7_isOutside : ByteArray := prog_9_method_86_code
abbrev cX7_island : ByteArray := prog_9_method_110_code
abbrev cX7_mask : ByteArray := prog_9_method_89_code
def yX7_island : MethodName := ⟨RX7, "island", "(III)I"⟩
def yX7_mask : MethodName := ⟨RX7, "mask", "(II)I"⟩
theorem dX7_holesOf_0 : decode cX7_holesOf 0 = .ok (.aload_n 0, 1) := by decide +kernel
theorem dX7_holesOf_1 : decode cX7_holesOf 1 = .ok (.iload_n 1, 1) := by decide +kernel
theorem dX7_holesOf_2 : decode cX7_holesOf 2 = .ok (.iconst 0, 1) := by decide +kernel
theorem dX7_holesOf_3 : decode cX7_holesOf 3 = .ok (.invokevirtual 364, 3) := by decide +kernel
theorem dX7_holesOf_6 : decode cX7_holesOf 6 = .ok (.iconst 0, 1) := by decide +kernel
theorem dX7_holesOf_7 : decode cX7_holesOf 7 = .ok (.istore_n 2, 1) := by decide +kernel
theorem dX7_holesOf_8 : decode cX7_holesOf 8 = .ok (.iconst 0, 1) := by decide +kernel
theorem dX7_holesOf_9 : decode cX7_holesOf 9 = .ok (.istore_n 3, 1) := by decide +kernel
theorem dX7_holesOf_10 : decode cX7_holesOf 10 = .ok (.iload_n 3, 1) := by decide +kernel
theorem dX7_holesOf_11 : decode cX7_holesOf 11 = .ok (.aload_n 0, 1) := by decide +kernel
theorem dX7_holesOf_12 : decode cX7_holesOf 12 = .ok (.getfield 355, 3) := by decide +kernel
theorem dX7_holesOf_15 : decode cX7_holesOf 15 = .ok (.if_icmp .ge 29, 3) := by decide +kernel
theorem dX7_holesOf_18 : decode cX7_holesOf 18 = .ok (.iload_n 2, 1) := by decide +kernel
theorem dX7_holesOf_19 : decode cX7_holesOf 19 = .ok (.aload_n 0, 1) := by decide +kernel
theorem dX7_holesOf_20 : decode cX7_holesOf 20 = .ok (.iload_n 1, 1) := by decide +kernel
theorem dX7_holesOf_21 : decode cX7_holesOf 21 = .ok (.iload_n 3, 1) := by decide +kernel
theorem dX7_holesOf_22 : decode cX7_holesOf 22 = .ok (.invokevirtual 368, 3) := by decide +kernel
theorem dX7_holesOf_25 : decode cX7_holesOf 25 = .ok (.ifCond .ne 7, 3) := by decide +kernel
theorem dX7_holesOf_28 : decode cX7_holesOf 28 = .ok (.iconst 1, 1) := by decide +kernel
theorem dX7_holesOf_29 : decode cX7_holesOf 29 = .ok (.goto 4, 3) := by decide +kernel
theorem dX7_holesOf_32 : decode cX7_holesOf 32 = .ok (.iconst 0, 1) := by decide +kernel
theorem dX7_holesOf_33 : decode cX7_holesOf 33 = .ok (.invokestatic 127, 3) := by decide +kernel
theorem dX7_holesOf_36 : decode cX7_holesOf 36 = .ok (.iadd, 1) := by decide +kernel
theorem dX7_holesOf_37 : decode cX7_holesOf 37 = .ok (.istore_n 2, 1) := by decide +kernel
theorem dX7_holesOf_38 : decode cX7_holesOf 38 = .ok (.iinc 3 1, 3) := by decide +kernel
theorem dX7_holesOf_41 : decode cX7_holesOf 41 = .ok (.goto (-31), 3) := by decide +kernel
theorem dX7_holesOf_44 : decode cX7_holesOf 44 = .ok (.iload_n 2, 1) := by decide +kernel
theorem dX7_holesOf_45 : decode cX7_holesOf 45 = .ok (.ireturn, 1) := by decide +kernel
theorem dX7_isOutside_0 : decode cX7_isOutside 0 = .ok (.iconst 0, 1) := by decide +kernel
theorem dX7_isOutside_1 : decode cX7_isOutside 1 = .ok (.istore_n 3, 1) := by decide +kernel
theorem dX7_isOutside_2 : decode cX7_isOutside 2 = .ok (.iload_n 3, 1) := by decide +kernel
theorem dX7_isOutside_3 : decode cX7_isOutside 3 = .ok (.aload_n 0, 1) := by decide +kernel
theorem dX7_isOutside_4 : decode cX7_isOutside 4 = .ok (.iload_n 1, 1) := by decide +kernel
theorem dX7_isOutside_5 : decode cX7_isOutside 5 = .ok (.invokevirtual 205, 3) := by decide +kernel
theorem dX7_isOutside_8 : decode cX7_isOutside 8 = .ok (.if_icmp .ge 45, 3) := by decide +kernel
theorem dX7_isOutside_11 : decode cX7_isOutside 11 = .ok (.aload_n 0, 1) := by decide +kernel
theorem dX7_isOutside_12 : decode cX7_isOutside 12 = .ok (.getfield 58, 3) := by decide +kernel
theorem dX7_isOutside_15 : decode cX7_isOutside 15 = .ok (.bipush 100, 2) := by decide +kernel
theorem dX7_isOutside_17 : decode cX7_isOutside 17 = .ok (.iload_n 3, 1) := by decide +kernel
theorem dX7_isOutside_18 : decode cX7_isOutside 18 = .ok (.imul, 1) := by decide +kernel
theorem dX7_isOutside_19 : decode cX7_isOutside 19 = .ok (.iaload, 1) := by decide +kernel
theorem dX7_isOutside_20 : decode cX7_isOutside 20 = .ok (.iload_n 2, 1) := by decide +kernel
theorem dX7_isOutside_21 : decode cX7_isOutside 21 = .ok (.if_icmp .eq 24, 3) := by decide +kernel
theorem dX7_isOutside_24 : decode cX7_isOutside 24 = .ok (.aload_n 0, 1) := by decide +kernel
theorem dX7_isOutside_25 : decode cX7_isOutside 25 = .ok (.getfield 58, 3) := by decide +kernel
theorem dX7_isOutside_28 : decode cX7_isOutside 28 = .ok (.bipush 100, 2) := by decide +kernel
theorem dX7_isOutside_30 : decode cX7_isOutside 30 = .ok (.iload_n 3, 1) := by decide +kernel
theorem dX7_isOutside_31 : decode cX7_isOutside 31 = .ok (.imul, 1) := by decide +kernel
theorem dX7_isOutside_32 : decode cX7_isOutside 32 = .ok (.aload_n 0, 1) := by decide +kernel
theorem dX7_isOutside_33 : decode cX7_isOutside 33 = .ok (.iload_n 1, 1) := by decide +kernel
theorem dX7_isOutside_34 : decode cX7_isOutside 34 = .ok (.invokevirtual 202, 3) := by decide +kernel
theorem dX7_isOutside_37 : decode cX7_isOutside 37 = .ok (.iadd, 1) := by decide +kernel
theorem dX7_isOutside_38 : decode cX7_isOutside 38 = .ok (.iconst 1, 1) := by decide +kernel
theorem dX7_isOutside_39 : decode cX7_isOutside 39 = .ok (.isub, 1) := by decide +kernel
theorem dX7_isOutside_40 : decode cX7_isOutside 40 = .ok (.iaload, 1) := by decide +kernel
theorem dX7_isOutside_41 : decode cX7_isOutside 41 = .ok (.iload_n 2, 1) := by decide +kernel
theorem dX7_isOutside_42 : decode cX7_isOutside 42 = .ok (.if_icmp .ne 5, 3) := by decide +kernel
theorem dX7_isOutside_45 : decode cX7_isOutside 45 = .ok (.iconst 1, 1) := by decide +kernel
theorem dX7_isOutside_46 : decode cX7_isOutside 46 = .ok (.ireturn, 1) := by decide +kernel
theorem dX7_isOutside_47 : decode cX7_isOutside 47 = .ok (.iinc 3 1, 3) := by decide +kernel
theorem dX7_isOutside_50 : decode cX7_isOutside 50 = .ok (.goto (-48), 3) := by decide +kernel
theorem dX7_isOutside_53 : decode cX7_isOutside 53 = .ok (.iconst 0, 1) := by decide +kernel
theorem dX7_isOutside_54 : decode cX7_isOutside 54 = .ok (.istore_n 3, 1) := by decide +kernel
theorem dX7_isOutside_55 : decode cX7_isOutside 55 = .ok (.iload_n 3, 1) := by decide +kernel
theorem dX7_isOutside_56 : decode cX7_isOutside 56 = .ok (.aload_n 0, 1) := by decide +kernel
theorem dX7_isOutside_57 : decode cX7_isOutside 57 = .ok (.iload_n 1, 1) := by decide +kernel
theorem dX7_isOutside_58 : decode cX7_isOutside 58 = .ok (.invokevirtual 202, 3) := by decide +kernel
theorem dX7_isOutside_61 : decode cX7_isOutside 61 = .ok (.if_icmp .ge 42, 3) := by decide +kernel
theorem dX7_isOutside_64 : decode cX7_isOutside 64 = .ok (.aload_n 0, 1) := by decide +kernel
theorem dX7_isOutside_65 : decode cX7_isOutside 65 = .ok (.getfield 58, 3) := by decide +kernel
theorem dX7_isOutside_68 : decode cX7_isOutside 68 = .ok (.iload_n 3, 1) := by decide +kernel
theorem dX7_isOutside_69 : decode cX7_isOutside 69 = .ok (.iaload, 1) := by decide +kernel
theorem dX7_isOutside_70 : decode cX7_isOutside 70 = .ok (.iload_n 2, 1) := by decide +kernel
theorem dX7_isOutside_71 : decode cX7_isOutside 71 = .ok (.if_icmp .eq 24, 3) := by decide +kernel
theorem dX7_isOutside_74 : decode cX7_isOutside 74 = .ok (.aload_n 0, 1) := by decide +kernel
theorem dX7_isOutside_75 : decode cX7_isOutside 75 = .ok (.getfield 58, 3) := by decide +kernel
theorem dX7_isOutside_78 : decode cX7_isOutside 78 = .ok (.bipush 100, 2) := by decide +kernel
theorem dX7_isOutside_80 : decode cX7_isOutside 80 = .ok (.aload_n 0, 1) := by decide +kernel
theorem dX7_isOutside_81 : decode cX7_isOutside 81 = .ok (.iload_n 1, 1) := by decide +kernel
theorem dX7_isOutside_82 : decode cX7_isOutside 82 = .ok (.invokevirtual 205, 3) := by decide +kernel
theorem dX7_isOutside_85 : decode cX7_isOutside 85 = .ok (.iconst 1, 1) := by decide +kernel
theorem dX7_isOutside_86 : decode cX7_isOutside 86 = .ok (.isub, 1) := by decide +kernel
theorem dX7_isOutside_87 : decode cX7_isOutside 87 = .ok (.imul, 1) := by decide +kernel
theorem dX7_isOutside_88 : decode cX7_isOutside 88 = .ok (.iload_n 3, 1) := by decide +kernel
theorem dX7_isOutside_89 : decode cX7_isOutside 89 = .ok (.iadd, 1) := by decide +kernel
theorem dX7_isOutside_90 : decode cX7_isOutside 90 = .ok (.iaload, 1) := by decide +kernel
theorem dX7_isOutside_91 : decode cX7_isOutside 91 = .ok (.iload_n 2, 1) := by decide +kernel
theorem dX7_isOutside_92 : decode cX7_isOutside 92 = .ok (.if_icmp .ne 5, 3) := by decide +kernel
theorem dX7_isOutside_95 : decode cX7_isOutside 95 = .ok (.iconst 1, 1) := by decide +kernel
theorem dX7_isOutside_96 : decode cX7_isOutside 96 = .ok (.ireturn, 1) := by decide +kernel
theorem dX7_isOutside_97 : decode cX7_isOutside 97 = .ok (.iinc 3 1, 3) := by decide +kernel
theorem dX7_isOutside_100 : decode cX7_isOutside 100 = .ok (.goto (-45), 3) := by decide +kernel
theorem dX7_isOutside_103 : decode cX7_isOutside 103 = .ok (.iconst 0, 1) := by decide +kernel
theorem dX7_isOutside_104 : decode cX7_isOutside 104 = .ok (.ireturn, 1) := by decide +kernel
theorem dX7_island_0 : decode cX7_island 0 = .ok (.aload_n 0, 1) := by decide +kernel
theorem dX7_island_1 : decode cX7_island 1 = .ok (.iload_n 1, 1) := by decide +kernel
theorem dX7_island_2 : decode cX7_island 2 = .ok (.invokevirtual 301, 3) := by decide +kernel
theorem dX7_island_5 : decode cX7_island 5 = .ok (.ifCond .ne 5, 3) := by decide +kernel
theorem dX7_island_8 : decode cX7_island 8 = .ok (.iconst (-1), 1) := by decide +kernel
theorem dX7_island_9 : decode cX7_island 9 = .ok (.ireturn, 1) := by decide +kernel
theorem dX7_island_10 : decode cX7_island 10 = .ok (.aload_n 0, 1) := by decide +kernel
theorem dX7_island_11 : decode cX7_island 11 = .ok (.iload_n 1, 1) := by decide +kernel
theorem dX7_island_12 : decode cX7_island 12 = .ok (.iconst 1, 1) := by decide +kernel
theorem dX7_island_13 : decode cX7_island 13 = .ok (.invokevirtual 364, 3) := by decide +kernel
theorem dX7_island_16 : decode cX7_island 16 = .ok (.iload_n 2, 1) := by decide +kernel
theorem dX7_island_17 : decode cX7_island 17 = .ok (.iconst (-1), 1) := by decide +kernel
theorem dX7_island_18 : decode cX7_island 18 = .ok (.if_icmp .ne 16, 3) := by decide +kernel
theorem dX7_island_21 : decode cX7_island 21 = .ok (.iload_n 3, 1) := by decide +kernel
theorem dX7_island_22 : decode cX7_island 22 = .ok (.ifCond .ne 10, 3) := by decide +kernel
theorem dX7_island_25 : decode cX7_island 25 = .ok (.aload_n 0, 1) := by decide +kernel
theorem dX7_island_26 : decode cX7_island 26 = .ok (.getfield 355, 3) := by decide +kernel
theorem dX7_island_29 : decode cX7_island 29 = .ok (.goto 4, 3) := by decide +kernel
theorem dX7_island_32 : decode cX7_island 32 = .ok (.iconst (-1), 1) := by decide +kernel
theorem dX7_island_33 : decode cX7_island 33 = .ok (.ireturn, 1) := by decide +kernel
theorem dX7_island_34 : decode cX7_island 34 = .ok (.iload_n 2, 1) := by decide +kernel
theorem dX7_island_35 : decode cX7_island 35 = .ok (.i2l, 1) := by decide +kernel
theorem dX7_island_36 : decode cX7_island 36 = .ok (.lconst 0, 1) := by decide +kernel
theorem dX7_island_37 : decode cX7_island 37 = .ok (.aload_n 0, 1) := by decide +kernel
theorem dX7_island_38 : decode cX7_island 38 = .ok (.getfield 355, 3) := by decide +kernel
theorem dX7_island_41 : decode cX7_island 41 = .ok (.iconst 1, 1) := by decide +kernel
theorem dX7_island_42 : decode cX7_island 42 = .ok (.isub, 1) := by decide +kernel
theorem dX7_island_43 : decode cX7_island 43 = .ok (.i2l, 1) := by decide +kernel
theorem dX7_island_44 : decode cX7_island 44 = .ok (.invokestatic 96, 3) := by decide +kernel
theorem dX7_island_47 : decode cX7_island 47 = .ok (.ifCond .eq 15, 3) := by decide +kernel
theorem dX7_island_50 : decode cX7_island 50 = .ok (.iload_n 3, 1) := by decide +kernel
theorem dX7_island_51 : decode cX7_island 51 = .ok (.i2l, 1) := by decide +kernel
theorem dX7_island_52 : decode cX7_island 52 = .ok (.lconst 0, 1) := by decide +kernel
theorem dX7_island_53 : decode cX7_island 53 = .ok (.ldc2_w 411, 3) := by decide +kernel
theorem dX7_island_56 : decode cX7_island 56 = .ok (.invokestatic 96, 3) := by decide +kernel
theorem dX7_island_59 : decode cX7_island 59 = .ok (.ifCond .ne 5, 3) := by decide +kernel
theorem dX7_island_62 : decode cX7_island 62 = .ok (.iconst (-1), 1) := by decide +kernel
theorem dX7_island_63 : decode cX7_island 63 = .ok (.ireturn, 1) := by decide +kernel
theorem dX7_island_64 : decode cX7_island 64 = .ok (.iconst 0, 1) := by decide +kernel
theorem dX7_island_65 : decode cX7_island 65 = .ok (.istore 4, 2) := by decide +kernel
theorem dX7_island_67 : decode cX7_island 67 = .ok (.bipush 100, 2) := by decide +kernel
theorem dX7_island_69 : decode cX7_island 69 = .ok (.istore 5, 2) := by decide +kernel
theorem dX7_island_71 : decode cX7_island 71 = .ok (.bipush 40, 2) := by decide +kernel
theorem dX7_island_73 : decode cX7_island 73 = .ok (.istore 6, 2) := by decide +kernel
theorem dX7_island_75 : decode cX7_island 75 = .ok (.iconst 0, 1) := by decide +kernel
theorem dX7_island_76 : decode cX7_island 76 = .ok (.istore 7, 2) := by decide +kernel
theorem dX7_island_78 : decode cX7_island 78 = .ok (.iconst 0, 1) := by decide +kernel
theorem dX7_island_79 : decode cX7_island 79 = .ok (.istore 8, 2) := by decide +kernel
theorem dX7_island_81 : decode cX7_island 81 = .ok (.iconst 0, 1) := by decide +kernel
theorem dX7_island_82 : decode cX7_island 82 = .ok (.istore 9, 2) := by decide +kernel
theorem dX7_island_84 : decode cX7_island 84 = .ok (.iload 9, 2) := by decide +kernel
theorem dX7_island_86 : decode cX7_island 86 = .ok (.aload_n 0, 1) := by decide +kernel
theorem dX7_island_87 : decode cX7_island 87 = .ok (.iload_n 1, 1) := by decide +kernel
theorem dX7_island_88 : decode cX7_island 88 = .ok (.invokevirtual 205, 3) := by decide +kernel
theorem dX7_island_91 : decode cX7_island 91 = .ok (.if_icmp .ge 87, 3) := by decide +kernel
theorem dX7_island_94 : decode cX7_island 94 = .ok (.iconst 0, 1) := by decide +kernel
theorem dX7_island_95 : decode cX7_island 95 = .ok (.istore 10, 2) := by decide +kernel
theorem dX7_island_97 : decode cX7_island 97 = .ok (.iload 10, 2) := by decide +kernel
theorem dX7_island_99 : decode cX7_island 99 = .ok (.aload_n 0, 1) := by decide +kernel
theorem dX7_island_100 : decode cX7_island 100 = .ok (.iload_n 1, 1) := by decide +kernel
theorem dX7_island_101 : decode cX7_island 101 = .ok (.invokevirtual 202, 3) := by decide +kernel
theorem dX7_island_104 : decode cX7_island 104 = .ok (.if_icmp .ge 68, 3) := by decide +kernel
theorem dX7_island_107 : decode cX7_island 107 = .ok (.aload_n 0, 1) := by decide +kernel
theorem dX7_island_108 : decode cX7_island 108 = .ok (.getfield 58, 3) := by decide +kernel
theorem dX7_island_111 : decode cX7_island 111 = .ok (.bipush 100, 2) := by decide +kernel
theorem dX7_island_113 : decode cX7_island 113 = .ok (.iload 9, 2) := by decide +kernel
theorem dX7_island_115 : decode cX7_island 115 = .ok (.imul, 1) := by decide +kernel
theorem dX7_island_116 : decode cX7_island 116 = .ok (.iload 10, 2) := by decide +kernel
theorem dX7_island_118 : decode cX7_island 118 = .ok (.iadd, 1) := by decide +kernel
theorem dX7_island_119 : decode cX7_island 119 = .ok (.iaload, 1) := by decide +kernel
theorem dX7_island_120 : decode cX7_island 120 = .ok (.iload_n 2, 1) := by decide +kernel
theorem dX7_island_121 : decode cX7_island 121 = .ok (.if_icmp .eq 6, 3) := by decide +kernel
theorem dX7_island_124 : decode cX7_island 124 = .ok (.goto 42, 3) := by decide +kernel
theorem dX7_island_127 : decode cX7_island 127 = .ok (.iinc 4 1, 3) := by decide +kernel
theorem dX7_island_130 : decode cX7_island 130 = .ok (.iload 5, 2) := by decide +kernel
theorem dX7_island_132 : decode cX7_island 132 = .ok (.iload 10, 2) := by decide +kernel
theorem dX7_island_134 : decode cX7_island 134 = .ok (.invokestatic 121, 3) := by decide +kernel
theorem dX7_island_137 : decode cX7_island 137 = .ok (.istore 5, 2) := by decide +kernel
theorem dX7_island_139 : decode cX7_island 139 = .ok (.iload 6, 2) := by decide +kernel
theorem dX7_island_141 : decode cX7_island 141 = .ok (.iload 9, 2) := by decide +kernel
theorem dX7_island_143 : decode cX7_island 143 = .ok (.invokestatic 121, 3) := by decide +kernel
theorem dX7_island_146 : decode cX7_island 146 = .ok (.istore 6, 2) := by decide +kernel
theorem dX7_island_148 : decode cX7_island 148 = .ok (.iload 7, 2) := by decide +kernel
theorem dX7_island_150 : decode cX7_island 150 = .ok (.iload 10, 2) := by decide +kernel
theorem dX7_island_152 : decode cX7_island 152 = .ok (.invokestatic 219, 3) := by decide +kernel
theorem dX7_island_155 : decode cX7_island 155 = .ok (.istore 7, 2) := by decide +kernel
theorem dX7_island_157 : decode cX7_island 157 = .ok (.iload 8, 2) := by decide +kernel
theorem dX7_island_159 : decode cX7_island 159 = .ok (.iload 9, 2) := by decide +kernel
theorem dX7_island_161 : decode cX7_island 161 = .ok (.invokestatic 219, 3) := by decide +kernel
theorem dX7_island_164 : decode cX7_island 164 = .ok (.istore 8, 2) := by decide +kernel
theorem dX7_island_166 : decode cX7_island 166 = .ok (.iinc 10 1, 3) := by decide +kernel
theorem dX7_island_169 : decode cX7_island 169 = .ok (.goto (-72), 3) := by decide +kernel
theorem dX7_island_172 : decode cX7_island 172 = .ok (.iinc 9 1, 3) := by decide +kernel
theorem dX7_island_175 : decode cX7_island 175 = .ok (.goto (-91), 3) := by decide +kernel
theorem dX7_island_178 : decode cX7_island 178 = .ok (.iload_n 3, 1) := by decide +kernel
theorem dX7_island_179 : decode cX7_island 179 = .ok (.ifCond .ne 8, 3) := by decide +kernel
theorem dX7_island_182 : decode cX7_island 182 = .ok (.iload 4, 2) := by decide +kernel
theorem dX7_island_184 : decode cX7_island 184 = .ok (.goto 35, 3) := by decide +kernel
theorem dX7_island_187 : decode cX7_island 187 = .ok (.iload_n 3, 1) := by decide +kernel
theorem dX7_island_188 : decode cX7_island 188 = .ok (.iconst 1, 1) := by decide +kernel
theorem dX7_island_189 : decode cX7_island 189 = .ok (.if_icmp .ne 8, 3) := by decide +kernel
theorem dX7_island_192 : decode cX7_island 192 = .ok (.iload 5, 2) := by decide +kernel
theorem dX7_island_194 : decode cX7_island 194 = .ok (.goto 25, 3) := by decide +kernel
theorem dX7_island_197 : decode cX7_island 197 = .ok (.iload_n 3, 1) := by decide +kernel
theorem dX7_island_198 : decode cX7_island 198 = .ok (.iconst 2, 1) := by decide +kernel
theorem dX7_island_199 : decode cX7_island 199 = .ok (.if_icmp .ne 8, 3) := by decide +kernel
theorem dX7_island_202 : decode cX7_island 202 = .ok (.iload 6, 2) := by decide +kernel
theorem dX7_island_204 : decode cX7_island 204 = .ok (.goto 15, 3) := by decide +kernel
theorem dX7_island_207 : decode cX7_island 207 = .ok (.iload_n 3, 1) := by decide +kernel
theorem dX7_island_208 : decode cX7_island 208 = .ok (.iconst 3, 1) := by decide +kernel
theorem dX7_island_209 : decode cX7_island 209 = .ok (.if_icmp .ne 8, 3) := by decide +kernel
theorem dX7_island_212 : decode cX7_island 212 = .ok (.iload 7, 2) := by decide +kernel
theorem dX7_island_214 : decode cX7_island 214 = .ok (.goto 5, 3) := by decide +kernel
theorem dX7_island_217 : decode cX7_island 217 = .ok (.iload 8, 2) := by decide +kernel
theorem dX7_island_219 : decode cX7_island 219 = .ok (.ireturn, 1) := by decide +kernel
theorem dX7_islandsOf_0 : decode cX7_islandsOf 0 = .ok (.aload_n 0, 1) := by decide +kernel
theorem dX7_islandsOf_1 : decode cX7_islandsOf 1 = .ok (.iload_n 1, 1) := by decide +kernel
theorem dX7_islandsOf_2 : decode cX7_islandsOf 2 = .ok (.iconst 1, 1) := by decide +kernel
theorem dX7_islandsOf_3 : decode cX7_islandsOf 3 = .ok (.invokevirtual 364, 3) := by decide +kernel
theorem dX7_islandsOf_6 : decode cX7_islandsOf 6 = .ok (.aload_n 0, 1) := by decide +kernel
theorem dX7_islandsOf_7 : decode cX7_islandsOf 7 = .ok (.getfield 355, 3) := by decide +kernel
theorem dX7_islandsOf_10 : decode cX7_islandsOf 10 = .ok (.ireturn, 1) := by decide +kernel
theorem dX7_mask_0 : decode cX7_mask 0 = .ok (.aload_n 0, 1) := by decide +kernel
theorem dX7_mask_1 : decode cX7_mask 1 = .ok (.iload_n 1, 1) := by decide +kernel
theorem dX7_mask_2 : decode cX7_mask 2 = .ok (.invokevirtual 301, 3) := by decide +kernel
theorem dX7_mask_5 : decode cX7_mask 5 = .ok (.ifCond .ne 5, 3) := by decide +kernel
theorem dX7_mask_8 : decode cX7_mask 8 = .ok (.iconst (-1), 1) := by decide +kernel
theorem dX7_mask_9 : decode cX7_mask 9 = .ok (.ireturn, 1) := by decide +kernel
theorem dX7_mask_10 : decode cX7_mask 10 = .ok (.iload_n 2, 1) := by decide +kernel
theorem dX7_mask_11 : decode cX7_mask 11 = .ok (.tableswitch 111 0 9 #[53, 59, 65, 71, 71, 71, 71, 93, 99, 105], 53) := by decide +kernel
theorem dX7_mask_64 : decode cX7_mask 64 = .ok (.aload_n 0, 1) := by decide +kernel
theorem dX7_mask_65 : decode cX7_mask 65 = .ok (.iload_n 1, 1) := by decide +kernel
theorem dX7_mask_66 : decode cX7_mask 66 = .ok (.invokevirtual 202, 3) := by decide +kernel
theorem dX7_mask_69 : decode cX7_mask 69 = .ok (.ireturn, 1) := by decide +kernel
theorem dX7_mask_70 : decode cX7_mask 70 = .ok (.aload_n 0, 1) := by decide +kernel
theorem dX7_mask_71 : decode cX7_mask 71 = .ok (.iload_n 1, 1) := by decide +kernel
theorem dX7_mask_72 : decode cX7_mask 72 = .ok (.invokevirtual 205, 3) := by decide +kernel
theorem dX7_mask_75 : decode cX7_mask 75 = .ok (.ireturn, 1) := by decide +kernel
theorem dX7_mask_76 : decode cX7_mask 76 = .ok (.aload_n 0, 1) := by decide +kernel
theorem dX7_mask_77 : decode cX7_mask 77 = .ok (.iload_n 1, 1) := by decide +kernel
theorem dX7_mask_78 : decode cX7_mask 78 = .ok (.invokevirtual 321, 3) := by decide +kernel
theorem dX7_mask_81 : decode cX7_mask 81 = .ok (.ireturn, 1) := by decide +kernel
theorem dX7_mask_82 : decode cX7_mask 82 = .ok (.aload_n 0, 1) := by decide +kernel
theorem dX7_mask_83 : decode cX7_mask 83 = .ok (.iload_n 1, 1) := by decide +kernel
theorem dX7_mask_84 : decode cX7_mask 84 = .ok (.invokevirtual 346, 3) := by decide +kernel
theorem dX7_mask_87 : decode cX7_mask 87 = .ok (.ifCond .eq 14, 3) := by decide +kernel
theorem dX7_mask_90 : decode cX7_mask 90 = .ok (.aload_n 0, 1) := by decide +kernel
theorem dX7_mask_91 : decode cX7_mask 91 = .ok (.getfield 55, 3) := by decide +kernel
theorem dX7_mask_94 : decode cX7_mask 94 = .ok (.iload_n 2, 1) := by decide +kernel
theorem dX7_mask_95 : decode cX7_mask 95 = .ok (.iconst 3, 1) := by decide +kernel
theorem dX7_mask_96 : decode cX7_mask 96 = .ok (.isub, 1) := by decide +kernel
theorem dX7_mask_97 : decode cX7_mask 97 = .ok (.iaload, 1) := by decide +kernel
theorem dX7_mask_98 : decode cX7_mask 98 = .ok (.goto 5, 3) := by decide +kernel
theorem dX7_mask_101 : decode cX7_mask 101 = .ok (.bipush (-2), 2) := by decide +kernel
theorem dX7_mask_103 : decode cX7_mask 103 = .ok (.ireturn, 1) := by decide +kernel
theorem dX7_mask_104 : decode cX7_mask 104 = .ok (.aload_n 0, 1) := by decide +kernel
theorem dX7_mask_105 : decode cX7_mask 105 = .ok (.iload_n 1, 1) := by decide +kernel
theorem dX7_mask_106 : decode cX7_mask 106 = .ok (.invokevirtual 371, 3) := by decide +kernel
theorem dX7_mask_109 : decode cX7_mask 109 = .ok (.ireturn, 1) := by decide +kernel
theorem dX7_mask_110 : decode cX7_mask 110 = .ok (.aload_n 0, 1) := by decide +kernel
theorem dX7_mask_111 : decode cX7_mask 111 = .ok (.iload_n 1, 1) := by decide +kernel
theorem dX7_mask_112 : decode cX7_mask 112 = .ok (.invokevirtual 374, 3) := by decide +kernel
theorem dX7_mask_115 : decode cX7_mask 115 = .ok (.ireturn, 1) := by decide +kernel
theorem dX7_mask_116 : decode cX7_mask 116 = .ok (.aload_n 0, 1) := by decide +kernel
theorem dX7_mask_117 : decode cX7_mask 117 = .ok (.iload_n 1, 1) := by decide +kernel
theorem dX7_mask_118 : decode cX7_mask 118 = .ok (.invokevirtual 377, 3) := by decide +kernel
theorem dX7_mask_121 : decode cX7_mask 121 = .ok (.ireturn, 1) := by decide +kernel
theorem dX7_mask_122 : decode cX7_mask 122 = .ok (.iconst (-1), 1) := by decide +kernel
theorem dX7_mask_123 : decode cX7_mask 123 = .ok (.ireturn, 1) := by decide +kernel
set_option maxRecDepth 100000 in
theorem pq56 : Cond.selects RX7 yX7_islandsOf yX7_islandsOf ∈ pw := pw_mem (i := 56) (by decide +kernel) rfl
set_option maxRecDepth 100000 in
theorem pq57 : Cond.selects RX7 yX7_laysIslands yX7_laysIslands ∈ pw := pw_mem (i := 57) (by decide +kernel) rfl
set_option maxRecDepth 100000 in
theorem pq59 : Cond.selects RX7 yX7_holesOf yX7_holesOf ∈ pw := pw_mem (i := 59) (by decide +kernel) rfl
set_option maxRecDepth 100000 in
theorem pq60 : Cond.selects RX7 yX7_isOutside yX7_isOutside ∈ pw := pw_mem (i := 60) (by decide +kernel) rfl
set_option maxRecDepth 100000 in
theorem pq61 : Cond.selects RX7 yX7_edgeOf yX7_edgeOf ∈ pw := pw_mem (i := 61) (by decide +kernel) rfl
set_option maxRecDepth 100000 in
theorem pq1530 : Cond.methodLink RX7 371 yX7_islandsOf ∈ pw := pw_mem (i := 1530) (by decide +kernel) rfl
set_option maxRecDepth 100000 in
theorem pq1532 : Cond.instanceMethod yX7_islandsOf ∈ pw := pw_mem (i := 1532) (by decide +kernel) rfl
set_option maxRecDepth 100000 in
theorem pq1533 : Cond.code yX7_islandsOf cX7_islandsOf 2 (some .int) ∈ pw := pw_mem (i := 1533) (by rfl) rfl
set_option maxRecDepth 100000 in
theorem pq1534 : Cond.methodLink RX7 364 yX7_laysIslands ∈ pw := pw_mem (i := 1534) (by decide +kernel) rfl
set_option maxRecDepth 100000 in
theorem pq1536 : Cond.instanceMethod yX7_laysIslands ∈ pw := pw_mem (i := 1536) (by decide +kernel) rfl
set_option maxRecDepth 100000 in
theorem pq1537 : Cond.code yX7_laysIslands cX7_laysIslands 8 none ∈ pw := pw_mem (i := 1537) (by rfl) rfl
set_option maxRecDepth 100000 in
theorem pq1542 : Cond.methodLink RX7 374 yX7_holesOf ∈ pw := pw_mem (i := 1542) (by decide +kernel) rfl
set_option maxRecDepth 100000 in
theorem pq1544 : Cond.instanceMethod yX7_holesOf ∈ pw := pw_mem (i := 1544) (by decide +kernel) rfl
set_option maxRecDepth 100000 in
theorem pq1545 : Cond.code yX7_holesOf cX7_holesOf 4 (some .int) ∈ pw := pw_mem (i := 1545) (by rfl) rfl
set_option maxRecDepth 100000 in
theorem pq1546 : Cond.methodLink RX7 368 yX7_isOutside ∈ pw := pw_mem (i := 1546) (by decide +kernel) rfl
set_option maxRecDepth 100000 in
theorem pq1548 : Cond.instanceMethod yX7_isOutside ∈ pw := pw_mem (i := 1548) (by decide +kernel) rfl
set_option maxRecDepth 100000 in
theorem pq1549 : Cond.code yX7_isOutside cX7_isOutside 4 (some .boolean) ∈ pw := pw_mem (i := 1549) (by rfl) rfl
set_option maxRecDepth 100000 in
theorem pq1550 : Cond.methodLink RX7 377 yX7_edgeOf ∈ pw := pw_mem (i := 1550) (by decide +kernel) rfl
set_option maxRecDepth 100000 in
theorem pq1552 : Cond.instanceMethod yX7_edgeOf ∈ pw := pw_mem (i := 1552) (by decide +kernel) rfl
set_option maxRecDepth 100000 in
theorem pq1553 : Cond.code yX7_edgeOf cX7_edgeOf 5 (some .int) ∈ pw := pw_mem (i := 1553) (by rfl) rfl
set_option maxRecDepth 100000 in
theorem pq1657 : Cond.constantLong RX7 411 (4) ∈ pw := pw_mem (i := 1657) (by decide +kernel) rfl
set_option maxHeartbeats 4000000 in
set_option maxRecDepth 100000 in
theorem s_X7_islandsOf (l : Launch) (dC : Nat → ClassId) (dI : Nat → Nat → Nat) (cs : Nat → ClassId) (L : List Nat) (K G : Nat → Nat) (Q : Nat → Nat → Option Nat) (hQ : Sv L K G Q) (x0 m0 : Nat) (tx : GT) (tm : GT × Int) (sz : Nat) (I : Nat → Nat → Int32) (J : Nat → Nat → Int64) (hI : Iv L K x0 m0 tx tm I) (p0 : Nat) (hLp0 : p0 ∈ L) (hKp0 : K p0 = 7) (p1 : Int32) (bp1 : (0) ≤ p1.toInt ∧ p1.toInt ≤ 7) : Met l yX7_islandsOf (.code yX7_islandsOf cX7_islandsOf 2 (some .int) :: pw) ({ frames := 4, cells := 0, slots := 0, locals := 99 }) (sP (dC, dI) cs [.ref p0, .int p1] sz L K I J Q) (va_Qi (fun (r : Int32) (_ : Unit) => (∀ c : Fx, okF c → rI Q I p0 c → rJ Q J p0 c → p1.toInt.toNat < (c.1 0).toInt.toNat → r.toInt = isT (B2P (md (mo c.2 p1.toInt.toNat))))) (fun _ t => sB (dC, dI) cs L K Q (fun I1 J1 => Iv L K x0 m0 tx tm I1 ∧ (∀ b, ¬ (K b = 7 ∨ K b = 11 ∨ K b = 27) → I1 b = I b) ∧ I1 p0 11 = I p0 11 ∧ (∀ b, K b = 0 ∨ K b = 1 ∨ K b = 3 ∨ K b = 6 → I1 b = I b) ∧ (∀ σ : Sx, cmA Q I J p0 σ → cmA Q I1 J1 p0 σ) ∧ J1 = J) t) (fun q => q ∈ L ∨ sz ≤ q)) 0 0 (fun q => q ∈ L ∨ sz ≤ q) := by
  refine Met.ofW (cc := cX7_islandsOf) (maxL := 2) (ret := (some .int)) (by decide +kernel) rfl ?_
  intro p e s m args below meth c s₁ B hml hv
  obtain ⟨rfl, hsz, hP, hK, hD0, hN⟩ := hv
  have hx := B.exec
  have hb := B.bytes
  have hr := B.returns
  have hts := fun w (h : w ∈ pw) => atoms_spec (ws := Cond.code yX7_islandsOf cX7_islandsOf 2 (some .int) :: pw) B.pre w (List.mem_cons_of_mem _ h)
  have hown : s.vm.findClass RX7 = some m.cls := findClass_of_methodNamed B.named
  have hlocks := B.notSynchronized
  subst hsz
  have hBB : 999 ≤ tm.2 ∧ tm.2 ≤ 6000000 := hI.2.2.2.2.1
  have dn_I : (∀ b, K b = 0 ∨ K b = 1 ∨ K b = 3 ∨ K b = 6 → I b = I b) := fun _ _ => rfl
  have dj_J : J = J := rfl
  have kp0_11_I : I p0 11 = I p0 11 := rfl
  have fr_I : ∀ b, ¬ (K b = 7 ∨ K b = 11 ∨ K b = 27) → I b = I b := fun _ _ => rfl
  obtain ⟨A, hAe⟩ : ∃ A : Nat → Prop, A = (fun q => q ∈ L ∨ s.heap.size ≤ q) := ⟨_, rfl⟩
  rw [← hAe]
  have hAL : ∀ q, q ∈ L → A q := fun q h => by rw [hAe]; exact Or.inl h
  have hA : ∀ q, s.heap.size ≤ q → A q := fun q h => by rw [hAe]; exact Or.inr h
  have hD : ∀ F, va_D A (va_pl L F) := fun F => (hD0 F).weaken (fun k q hk _ => hAL _ (pl_mem hk))
  obtain ⟨H, hHe⟩ : ∃ H : Heap, H = s.heap := ⟨_, rfl⟩
  have hS : va_S A s.heap H [] := by rw [hHe]; exact va_S.rf
  rw [← hHe] at hP
  have hl := lv_entry ([.ref p0, .int p1]) (n := 2) (Nat.le_of_ble_eq_true rfl)
  rw [lg_entry_eq]
  generalize (lg_sl ([.ref p0, .int p1]) ++ List.replicate (2 - (lg_sl ([.ref p0, .int p1])).length) Slot.unset).toArray = ls at hl ⊢
  have hl : lv_has ls 2 [(0, .ref p0), (1, .int p1)] := hl
  rw [← hHe]
  refine namedW (fun R Qz hR hQz => ?_)
  refine lv_aload_n hx hb dX7_islandsOf_0 rfl (lv_at hl 0 rfl) ?_
  refine lv_iload_n hx hb dX7_islandsOf_1 rfl (lv_at hl 1 rfl) ?_
  refine lv_iconst (v := 1) hx hb dX7_islandsOf_2 (by decide +kernel) ?_
  refine sw_v (Z := (fun I1 J1 => Iv L K x0 m0 tx tm I1 ∧ (∀ b, ¬ (K b = 7 ∨ K b = 11 ∨ K b = 27) → I1 b = I b) ∧ I1 p0 11 = I p0 11 ∧ ((0 ≤ (I1 p0 23).toInt ∧ (I1 p0 23).toInt ≤ 4000 ∧ (0 < (I1 p0 23).toInt → 1 ≤ (I ((Q p0 0).getD 0) (3 + p1.toInt.toNat)).toInt ∧ 1 ≤ (I ((Q p0 0).getD 0) (11 + p1.toInt.toNat)).toInt))) ∧ (∀ b, K b = 0 ∨ K b = 1 ∨ K b = 3 ∨ K b = 6 → I1 b = I b) ∧ (∀ c : Fx, okF c → rI Q I p0 c → rJ Q J p0 c → p1.toInt.toNat < (c.1 0).toInt.toNat → lyR (I1 (a0 Q p0 21)) (I1 p0 23) (dsD (c.1 (3 + p1.toInt.toNat)).toInt (c.1 (11 + p1.toInt.toNat)).toInt (mo c.2 p1.toInt.toNat) (1 : Int32).toInt)) ∧ J1 = J)) (va_runV (As := [.int p1, .int 1]) (rest := []) ⟨hx, hb, hml, hown, hts⟩ (s_X7_laysIslands l dC dI cs L K G Q hQ x0 m0 tx tm H.size I J hI p0 hLp0 hKp0 p1 ⟨by omega, by omega⟩ 1) (cwV 2 hts (gV pq1534 pq1536 pq57 pq81 pq1537) rfl rfl rfl (by decide +kernel) ⟨(by rw [hR]; exact (Nat.le_of_ble_eq_true rfl)), (by rw [hR]; exact (Nat.le_of_ble_eq_true rfl))⟩) (sP_V hP hD hK hN hLp0 hKp0 rfl rfl) rfl rfl hl.1 rfl (lv_room (Nat.le_of_ble_eq_true rfl)) dX7_islandsOf_3 ⟨(by rw [hR]; exact (Nat.le_of_ble_eq_true rfl)), (by rw [hR]; exact (Nat.le_of_ble_eq_true rfl))⟩) hS hAL hA (fun Iz3 Jz3 H locs hz3 hIz3 hP hS => ?_)
  obtain ⟨hIz3, frc3, kc3_0_11, zp3, dnc3, jz3, djc3⟩ := hIz3
  obtain rfl : J = Jz3 := djc3.symm
  have dn_Iz3 : (∀ b, K b = 0 ∨ K b = 1 ∨ K b = 3 ∨ K b = 6 → Iz3 b = I b) := fun b hc => (dnc3 b (by omega)).trans (dn_I b hc)
  have kp0_11_Iz3 : Iz3 p0 11 = I p0 11 := kc3_0_11.trans kp0_11_I
  have fr_Iz3 : ∀ b, ¬ (K b = 7 ∨ K b = 11 ∨ K b = 27) → Iz3 b = I b := fun b q => (frc3 b (fun z => q (by omega))).trans (fr_I b q)
  refine lv_aload_n hx hb dX7_islandsOf_6 rfl (lv_at hl 0 rfl) ?_
  refine p_get hx hb hts inX7 hown hK hP hLp0 hKp0 rfl rfl 23 (by decide) (hts _ pq1138) rfl dX7_islandsOf_7 ?_
  refine lv_topi (fun z7 ez7 => ?_)
  have cgz7 := congrArg Int32.toInt ez7
  subst hR; subst hQz
  exact W.iret (v := z7) hx hb hr (fun t ht hW => ⟨⟨z7, (), rfl, (fun c ok h hj hm => by have L := jz3 c ok h hj hm; rw [show (1 : Int32).toInt = 1 from by decide +kernel, dsD_1 (ok.2.2.1 _ hm).2.2] at L; exact (congrArg Int32.toInt ez7).trans L.1), ⟨Iz3, J, ⟨hIz3, fr_Iz3, kp0_11_Iz3, dn_Iz3, (fun σ A => cmA_fr hQ hLp0 hKp0 (fun b hb => fr_Iz3 b (by omega)) (fun _ _ => rfl) kp0_11_Iz3 A), dj_J⟩, by rw [ht]; exact hP⟩⟩, hS.F ht⟩) hS.2.2 dX7_islandsOf_10

set_option maxHeartbeats 4000000 in
set_option maxRecDepth 100000 in
theorem s_X7_isOutside (l : Launch) (dC : Nat → ClassId) (dI : Nat → Nat → Nat) (cs : Nat → ClassId) (L : List Nat) (K G : Nat → Nat) (Q : Nat → Nat → Option Nat) (hQ : Sv L K G Q) (x0 m0 : Nat) (tx : GT) (tm : GT × Int) (sz : Nat) (I : Nat → Nat → Int32) (J : Nat → Nat → Int64) (hI : Iv L K x0 m0 tx tm I) (p0 : Nat) (hLp0 : p0 ∈ L) (hKp0 : K p0 = 7) (p1 : Int32) (bp1 : (0) ≤ p1.toInt ∧ p1.toInt ≤ 7) (p2 : Int32) (hw : 1 ≤ (I ((Q p0 0).getD 0) (3 + p1.toInt.toNat)).toInt ∧ 1 ≤ (I ((Q p0 0).getD 0) (11 + p1.toInt.toNat)).toInt) : Met l yX7_isOutside (.code yX7_isOutside cX7_isOutside 4 (some .boolean) :: pw) ({ frames := 1, cells := 0, slots := 0, locals := 21 }) (sP (dC, dI) cs [.ref p0, .int p1, .int p2] sz L K I J Q) (va_Qi (fun (r : Int32) (_ : Unit) => ((0) ≤ r.toInt ∧ r.toInt ≤ 1) ∧ (∀ c : Fx, okF c → rI Q I p0 c → p1.toInt.toNat < (c.1 0).toInt.toNat → (¬ r.toInt = 0 ↔ outR (I (a0 Q p0 21)) (c.1 (3 + p1.toInt.toNat)).toInt (c.1 (11 + p1.toInt.toNat)).toInt p2.toInt))) (fun _ _ => True) (fun _ => False)) 0 0 (fun _ => False) := by
  refine Met.ofW (cc := cX7_isOutside) (maxL := 4) (ret := (some .boolean)) (by decide +kernel) rfl ?_
  intro p e s m args below meth c s₁ B hml hv
  obtain ⟨rfl, hsz, hP, hK, hD0, hN⟩ := hv
  have hx := B.exec
  have hb := B.bytes
  have hr := B.returns
  have hts := fun w (h : w ∈ pw) => atoms_spec (ws := Cond.code yX7_isOutside cX7_isOutside 4 (some .boolean) :: pw) B.pre w (List.mem_cons_of_mem _ h)
  have hown : s.vm.findClass RX7 = some m.cls := findClass_of_methodNamed B.named
  have hlocks := B.notSynchronized
  subst hsz
  have hBB : 999 ≤ tm.2 ∧ tm.2 ≤ 6000000 := hI.2.2.2.2.1
  have hD := hD0
  obtain ⟨H, hHe⟩ : ∃ H : Heap, H = s.heap := ⟨_, rfl⟩
  have hS : va_S (fun _ => False) s.heap H [] := by rw [hHe]; exact va_S.rf
  rw [← hHe] at hP
  have hl := lv_entry ([.ref p0, .int p1, .int p2]) (n := 4) (Nat.le_of_ble_eq_true rfl)
  rw [lg_entry_eq]
  generalize (lg_sl ([.ref p0, .int p1, .int p2]) ++ List.replicate (4 - (lg_sl ([.ref p0, .int p1, .int p2])).length) Slot.unset).toArray = ls at hl ⊢
  have hl : lv_has ls 4 [(0, .ref p0), (1, .int p1), (2, .int p2)] := hl
  rw [← hHe]
  refine namedW (fun R Qz hR hQz => ?_)
  refine lv_iconst (v := 0) hx hb dX7_isOutside_0 (by decide +kernel) ?_
  refine lv_istore_n (lv' := [(3, .int 0), (0, .ref p0), (1, .int p1), (2, .int p2)]) hx hb dX7_isOutside_1 rfl hl (by decide) rfl (fun ls hl => ?_)
  have key2 := blocks (fun n => ∀ (v2_3 : Int32) (H : Heap) (lo : List Loc) (ls : Array Slot), (41 - v2_3.toInt).toNat = n → ((0) ≤ v2_3.toInt ∧ v2_3.toInt ≤ 40) → (∀ c : Fx, okF c → rI Q I p0 c → p1.toInt.toNat < (c.1 0).toInt.toNat → ∀ y : Int, 0 ≤ y → y < v2_3.toInt → ¬ (I (a0 Q p0 21) (100 * y + 0).toNat).toInt = p2.toInt ∧ ¬ (I (a0 Q p0 21) (100 * y + ((c.1 (3 + p1.toInt.toNat)).toInt - 1)).toNat).toInt = p2.toInt) → va_P (dC, dI) vwCl (Wd cs L K I J Q) H → va_S (fun _ => False) s.heap H lo → lv_has ls 4 [(0, .ref p0), (1, .int p1), (2, .int p2), (3, .int v2_3)] → W p l e R s m (([.ref p0, .int p1, .int p2] : List Value).toArray) below meth c H lo 0 0 Qz (F0 m 2 ls [])) (by
    intro n ih2
    intro v2_3 H lo ls hmu2 bv2_3 g2 hP hS hl
    refine lv_iload_n hx hb dX7_isOutside_2 rfl (lv_at hl 3 rfl) ?_
    refine lv_aload_n hx hb dX7_isOutside_3 rfl (lv_at hl 0 rfl) ?_
    refine lv_iload_n hx hb dX7_isOutside_4 rfl (lv_at hl 1 rfl) ?_
    refine ro_i (va_runV (As := [.int p1]) (rest := [.int v2_3]) ⟨hx, hb, hml, hown, hts⟩ (s_X7_high l dC dI cs L K G Q hQ x0 m0 tx tm H.size I J hI p0 hLp0 hKp0 p1 ⟨by omega, by omega⟩) (cwV 1 hts (gV pq1372 pq1374 pq33 pq81 pq1375) rfl rfl rfl (by decide +kernel) ⟨(by rw [hR]; exact (Nat.le_of_ble_eq_true rfl)), (by rw [hR]; exact (Nat.le_of_ble_eq_true rfl))⟩) (sP_V hP hD hK hN hLp0 hKp0 rfl rfl) rfl rfl hl.1 rfl (lv_room (Nat.le_of_ble_eq_true rfl)) dX7_isOutside_5 ⟨(by rw [hR]; exact (Nat.le_of_ble_eq_true rfl)), (by rw [hR]; exact (Nat.le_of_ble_eq_true rfl))⟩) hS hP (fun z5 H locs hz5 hP hS => ?_)
    obtain ⟨bz5, fez5⟩ := hz5
    refine lv_icmp_ge (tgt := 53) hx hb dX7_isOutside_8 (by decide) (fun c8 => ?_) (fun c8 => ?_)
    · have t8 := tq_le (k := z5.toInt) (q := v2_3.toInt) c8 rfl rfl
      refine lv_iconst (v := 0) hx hb dX7_isOutside_53 (by decide +kernel) ?_
      refine lv_istore_n (lv' := [(3, .int 0), (0, .ref p0), (1, .int p1), (2, .int p2)]) hx hb dX7_isOutside_54 rfl hl (by decide) rfl (fun ls hl => ?_)
      have key55 := blocks (fun n => ∀ (v55_3 : Int32) (H : Heap) (lo : List Loc) (ls : Array Slot), (101 - v55_3.toInt).toNat = n → ((0) ≤ v55_3.toInt ∧ v55_3.toInt ≤ 100) → (∀ c : Fx, okF c → rI Q I p0 c → p1.toInt.toNat < (c.1 0).toInt.toNat → ∀ x : Int, 0 ≤ x → x < v55_3.toInt → ¬ (I (a0 Q p0 21) (100 * 0 + x).toNat).toInt = p2.toInt ∧ ¬ (I (a0 Q p0 21) (100 * ((c.1 (11 + p1.toInt.toNat)).toInt - 1) + x).toNat).toInt = p2.toInt) → va_P (dC, dI) vwCl (Wd cs L K I J Q) H → va_S (fun _ => False) s.heap H lo → lv_has ls 4 [(0, .ref p0), (1, .int p1), (2, .int p2), (3, .int v55_3)] → W p l e R s m (([.ref p0, .int p1, .int p2] : List Value).toArray) below meth c H lo 0 0 Qz (F0 m 55 ls [])) (by
        intro n ih55
        intro v55_3 H lo ls hmu55 bv55_3 g55 hP hS hl
        refine lv_iload_n hx hb dX7_isOutside_55 rfl (lv_at hl 3 rfl) ?_
        refine lv_aload_n hx hb dX7_isOutside_56 rfl (lv_at hl 0 rfl) ?_
        refine lv_iload_n hx hb dX7_isOutside_57 rfl (lv_at hl 1 rfl) ?_
        refine ro_i (va_runV (As := [.int p1]) (rest := [.int v55_3]) ⟨hx, hb, hml, hown, hts⟩ (s_X7_wide l dC dI cs L K G Q hQ x0 m0 tx tm H.size I J hI p0 hLp0 hKp0 p1 ⟨by omega, by omega⟩) (cwV 1 hts (gV pq1368 pq1370 pq32 pq81 pq1371) rfl rfl rfl (by decide +kernel) ⟨(by rw [hR]; exact (Nat.le_of_ble_eq_true rfl)), (by rw [hR]; exact (Nat.le_of_ble_eq_true rfl))⟩) (sP_V hP hD hK hN hLp0 hKp0 rfl rfl) rfl rfl hl.1 rfl (lv_room (Nat.le_of_ble_eq_true rfl)) dX7_isOutside_58 ⟨(by rw [hR]; exact (Nat.le_of_ble_eq_true rfl)), (by rw [hR]; exact (Nat.le_of_ble_eq_true rfl))⟩) hS hP (fun z58 H locs hz58 hP hS => ?_)
        obtain ⟨bz58, fez58⟩ := hz58
        refine lv_icmp_ge (tgt := 103) hx hb dX7_isOutside_61 (by decide) (fun c61 => ?_) (fun c61 => ?_)
        · have t61 := tq_le (k := z58.toInt) (q := v55_3.toInt) c61 rfl rfl
          refine lv_iconst (v := 0) hx hb dX7_isOutside_103 (by decide +kernel) ?_
          subst hR; subst hQz
          exact W.zret (v := 0) hx hb hr (by decide +kernel) (fun t ht hW => ⟨⟨0, (), rfl, ⟨⟨by decide +kernel, by decide +kernel⟩, (fun c ok h hm => by have okm_ := ok.2.2.1 _ hm; have o1 := okm_.1; have o2 := okm_.2.1; have e5 := congrArg Int32.toInt ((show z5 = I (a0 Q p0 0) (11 + p1.toInt.toNat) from fez5).trans (h _ (by omega))); have e58 := congrArg Int32.toInt ((show z58 = I (a0 Q p0 0) (3 + p1.toInt.toNat) from fez58).trans (h _ (by omega))); refine ⟨fun q => absurd (by decide +kernel) q, fun w => ?_⟩; exfalso; obtain ⟨x, y, ⟨hx, hy⟩, e, a⟩ := w; rcases e with (e | e) | e | e; (rw [e] at a; exact (g2 c ok h hm y hy.1 (by omega)).1 a); (rw [e] at a; exact (g2 c ok h hm y hy.1 (by omega)).2 a); (rw [e] at a; exact (g55 c ok h hm x hx.1 (by omega)).1 a); (rw [e] at a; exact (g55 c ok h hm x hx.1 (by omega)).2 a))⟩, trivial⟩, hS.F ht⟩) hS.2.2 dX7_isOutside_104
        · have t61 := tq_nle (k := z58.toInt) (q := v55_3.toInt) c61 rfl rfl
          refine lv_aload_n hx hb dX7_isOutside_64 rfl (lv_at hl 0 rfl) ?_
          obtain ⟨y65, ey65, hLy65, hKy65⟩ := oQ_7_21 (Sv_at hQ hLp0 hKp0)
          refine p_get (v := .ref y65) hx hb hts inX7 hown hK hP hLp0 hKp0 rfl rfl 21 (by decide) (hts _ pq1136) (congrArg (fun q => some (va_rf q)) ey65) dX7_isOutside_65 ?_
          refine lv_iload_n hx hb dX7_isOutside_68 rfl (lv_at hl 3 rfl) ?_
          refine p_iald hx hb hK hP 17 hLy65 hKy65 rfl rfl (in_of (by omega) (by omega)) dX7_isOutside_69 ?_
          refine lv_topi (fun z69 ez69 => ?_)
          refine lv_iload_n hx hb dX7_isOutside_70 rfl (lv_at hl 2 rfl) ?_
          refine lv_icmp_eq (tgt := 95) hx hb dX7_isOutside_71 (by decide) (fun c71 => ?_) (fun c71 => ?_)
          · have t71 := tq_eq (k := z69.toInt) (q := p2.toInt) c71 rfl rfl
            refine lv_iconst (v := 1) hx hb dX7_isOutside_95 (by decide +kernel) ?_
            subst hR; subst hQz
            exact W.zret (v := 1) hx hb hr (by decide +kernel) (fun t ht hW => ⟨⟨1, (), rfl, ⟨⟨by decide +kernel, by decide +kernel⟩, (fun c ok h hm => by have okm_ := ok.2.2.1 _ hm; have o1 := okm_.1; have o2 := okm_.2.1; have e5 := congrArg Int32.toInt ((show z5 = I (a0 Q p0 0) (11 + p1.toInt.toNat) from fez5).trans (h _ (by omega))); refine ⟨fun _ => ?_, fun _ => by decide +kernel⟩; first | exact ⟨0, v2_3.toInt, ⟨⟨by omega, by omega⟩, by omega, by omega⟩, Or.inl (Or.inl rfl), by rw [show a0 Q p0 21 = y12 from gd_of ey12, show (100 * v2_3.toInt + 0).toNat = z18.toNatClampNeg from (by show _ = z18.toInt.toNat; omega), ← ez19]; exact t21⟩ | (have e34 := congrArg Int32.toInt ((show z34 = I (a0 Q p0 0) (3 + p1.toInt.toNat) from fez34).trans (h _ (by omega))); exact ⟨(c.1 (3 + p1.toInt.toNat)).toInt - 1, v2_3.toInt, ⟨⟨by omega, by omega⟩, by omega, by omega⟩, Or.inl (Or.inr rfl), by rw [show a0 Q p0 21 = y12 from gd_of ey12, show (100 * v2_3.toInt + ((c.1 (3 + p1.toInt.toNat)).toInt - 1)).toNat = z39.toNatClampNeg from (by show _ = z39.toInt.toNat; omega), ← ez40]; exact t42⟩) | (have e58 := congrArg Int32.toInt ((show z58 = I (a0 Q p0 0) (3 + p1.toInt.toNat) from fez58).trans (h _ (by omega))); have x55 : (100 * (0 : Int) + v55_3.toInt).toNat = v55_3.toNatClampNeg := (by show _ = v55_3.toInt.toNat; omega); exact ⟨v55_3.toInt, 0, ⟨⟨by omega, by omega⟩, by omega, by omega⟩, Or.inr (Or.inl rfl), by rw [x55, show a0 Q p0 21 = y65 from gd_of ey65, ← ez69]; exact t71⟩) | (have e58 := congrArg Int32.toInt ((show z58 = I (a0 Q p0 0) (3 + p1.toInt.toNat) from fez58).trans (h _ (by omega))); exact ⟨v55_3.toInt, (c.1 (11 + p1.toInt.toNat)).toInt - 1, ⟨⟨by omega, by omega⟩, by omega, by omega⟩, Or.inr (Or.inr rfl), by rw [show a0 Q p0 21 = y65 from gd_of ey65, show (100 * ((c.1 (11 + p1.toInt.toNat)).toInt - 1) + v55_3.toInt).toNat = z89.toNatClampNeg from (by show _ = z89.toInt.toNat; omega), ← ez90]; exact t92⟩))⟩, trivial⟩, hS.F ht⟩) hS.2.2 dX7_isOutside_96
          · have t71 := tq_ne (k := z69.toInt) (q := p2.toInt) c71 rfl rfl
            refine lv_aload_n hx hb dX7_isOutside_74 rfl (lv_at hl 0 rfl) ?_
            refine p_get (v := .ref y65) hx hb hts inX7 hown hK hP hLp0 hKp0 rfl rfl 21 (by decide) (hts _ pq1136) (congrArg (fun q => some (va_rf q)) ey65) dX7_isOutside_75 ?_
            refine lv_bipush (v := 100) hx hb dX7_isOutside_78 (by decide +kernel) ?_
            refine lv_aload_n hx hb dX7_isOutside_80 rfl (lv_at hl 0 rfl) ?_
            refine lv_iload_n hx hb dX7_isOutside_81 rfl (lv_at hl 1 rfl) ?_
            refine ro_i (va_runV (As := [.int p1]) (rest := [.int 100, .ref y65]) ⟨hx, hb, hml, hown, hts⟩ (s_X7_high l dC dI cs L K G Q hQ x0 m0 tx tm H.size I J hI p0 hLp0 hKp0 p1 ⟨by omega, by omega⟩) (cwV 1 hts (gV pq1372 pq1374 pq33 pq81 pq1375) rfl rfl rfl (by decide +kernel) ⟨(by rw [hR]; exact (Nat.le_of_ble_eq_true rfl)), (by rw [hR]; exact (Nat.le_of_ble_eq_true rfl))⟩) (sP_V hP hD hK hN hLp0 hKp0 rfl rfl) rfl rfl hl.1 rfl (lv_room (Nat.le_of_ble_eq_true rfl)) dX7_isOutside_82 ⟨(by rw [hR]; exact (Nat.le_of_ble_eq_true rfl)), (by rw [hR]; exact (Nat.le_of_ble_eq_true rfl))⟩) hS hP (fun z82 H locs hz82 hP hS => ?_)
            obtain ⟨bz82, fez82⟩ := hz82
            obtain rfl : z5 = z82 := fez5.trans fez82.symm
            have c82 := congrArg Int32.toInt fez82
            refine lv_iconst (v := 1) hx hb dX7_isOutside_85 (by decide +kernel) ?_
            refine lv_isub hx hb dX7_isOutside_86 ?_
            refine lv_topi (fun z86 ez86 => ?_)
            have bz86 := tq_sub (k := z5.toInt) (q := (1)) ez86 rfl (by decide +kernel) (by omega) (by omega)
            refine lv_imul hx hb dX7_isOutside_87 ?_
            refine lv_topi (fun z87 ez87 => ?_)
            have bz87 := tq_mul (k := (100)) (q := z86.toInt) ez87 (by decide +kernel) rfl (by omega) (by omega)
            refine lv_iload_n hx hb dX7_isOutside_88 rfl (lv_at hl 3 rfl) ?_
            refine lv_iadd hx hb dX7_isOutside_89 ?_
            refine lv_topi (fun z89 ez89 => ?_)
            have bz89 := tq_add (k := z87.toInt) (q := v55_3.toInt) ez89 rfl rfl (by omega) (by omega)
            refine p_iald hx hb hK hP 17 hLy65 hKy65 rfl rfl (in_of (by omega) (by omega)) dX7_isOutside_90 ?_
            refine lv_topi (fun z90 ez90 => ?_)
            refine lv_iload_n hx hb dX7_isOutside_91 rfl (lv_at hl 2 rfl) ?_
            refine lv_icmp_ne (tgt := 97) hx hb dX7_isOutside_92 (by decide) (fun c92 => ?_) (fun c92 => ?_)
            · have t92 := tq_ne (k := z90.toInt) (q := p2.toInt) c92 rfl rfl
              obtain ⟨z97, ez97⟩ : ∃ y : Int32, y = v55_3 + 1 := ⟨_, rfl⟩
              refine lv_iinc (v := z97) (lv' := [(3, .int z97), (0, .ref p0), (1, .int p1), (2, .int p2)]) hx hb dX7_isOutside_97 hl (k := 3) rfl (by rw [ez97]; rfl) (by decide) rfl (fun ls hl => ?_)
              have bz97 := tq_add (k := v55_3.toInt) (q := 1) ez97 rfl (by decide +kernel) (by omega) (by omega)
              refine lv_goto (tgt := 55) hx hb dX7_isOutside_100 (by decide) ?_
              exact ih55 _ (by omega) z97 _ _ _ rfl ⟨by omega, by omega⟩ (fun c ok h hm => by have okm_ := ok.2.2.1 _ hm; have o1 := okm_.1; have o2 := okm_.2.1; have e5 := congrArg Int32.toInt ((show z5 = I (a0 Q p0 0) (11 + p1.toInt.toNat) from fez5).trans (h _ (by omega))); have e58 := congrArg Int32.toInt ((show z58 = I (a0 Q p0 0) (3 + p1.toInt.toNat) from fez58).trans (h _ (by omega))); have x55 : (100 * (0 : Int) + v55_3.toInt).toNat = v55_3.toNatClampNeg := (by show _ = v55_3.toInt.toNat; omega); intro x a b; rcases Int.lt_or_le x v55_3.toInt with w | w; (exact g55 c ok h hm x a w); (obtain rfl : x = v55_3.toInt := (by omega); exact ⟨by rw [x55, show a0 Q p0 21 = y65 from gd_of ey65, ← ez69]; exact t71, by rw [show a0 Q p0 21 = y65 from gd_of ey65, show (100 * ((c.1 (11 + p1.toInt.toNat)).toInt - 1) + v55_3.toInt).toNat = z89.toNatClampNeg from (by show _ = z89.toInt.toNat; omega), ← ez90]; exact t92⟩)) hP hS (lv_sub hl [1, 2, 3, 0] rfl)
            · have t92 := tq_eq (k := z90.toInt) (q := p2.toInt) c92 rfl rfl
              refine lv_iconst (v := 1) hx hb dX7_isOutside_95 (by decide +kernel) ?_
              subst hR; subst hQz
              exact W.zret (v := 1) hx hb hr (by decide +kernel) (fun t ht hW => ⟨⟨1, (), rfl, ⟨⟨by decide +kernel, by decide +kernel⟩, (fun c ok h hm => by have okm_ := ok.2.2.1 _ hm; have o1 := okm_.1; have o2 := okm_.2.1; have e5 := congrArg Int32.toInt ((show z5 = I (a0 Q p0 0) (11 + p1.toInt.toNat) from fez5).trans (h _ (by omega))); refine ⟨fun _ => ?_, fun _ => by decide +kernel⟩; first | exact ⟨0, v2_3.toInt, ⟨⟨by omega, by omega⟩, by omega, by omega⟩, Or.inl (Or.inl rfl), by rw [show a0 Q p0 21 = y12 from gd_of ey12, show (100 * v2_3.toInt + 0).toNat = z18.toNatClampNeg from (by show _ = z18.toInt.toNat; omega), ← ez19]; exact t21⟩ | (have e34 := congrArg Int32.toInt ((show z34 = I (a0 Q p0 0) (3 + p1.toInt.toNat) from fez34).trans (h _ (by omega))); exact ⟨(c.1 (3 + p1.toInt.toNat)).toInt - 1, v2_3.toInt, ⟨⟨by omega, by omega⟩, by omega, by omega⟩, Or.inl (Or.inr rfl), by rw [show a0 Q p0 21 = y12 from gd_of ey12, show (100 * v2_3.toInt + ((c.1 (3 + p1.toInt.toNat)).toInt - 1)).toNat = z39.toNatClampNeg from (by show _ = z39.toInt.toNat; omega), ← ez40]; exact t42⟩) | (have e58 := congrArg Int32.toInt ((show z58 = I (a0 Q p0 0) (3 + p1.toInt.toNat) from fez58).trans (h _ (by omega))); have x55 : (100 * (0 : Int) + v55_3.toInt).toNat = v55_3.toNatClampNeg := (by show _ = v55_3.toInt.toNat; omega); exact ⟨v55_3.toInt, 0, ⟨⟨by omega, by omega⟩, by omega, by omega⟩, Or.inr (Or.inl rfl), by rw [x55, show a0 Q p0 21 = y65 from gd_of ey65, ← ez69]; exact t71⟩) | (have e58 := congrArg Int32.toInt ((show z58 = I (a0 Q p0 0) (3 + p1.toInt.toNat) from fez58).trans (h _ (by omega))); exact ⟨v55_3.toInt, (c.1 (11 + p1.toInt.toNat)).toInt - 1, ⟨⟨by omega, by omega⟩, by omega, by omega⟩, Or.inr (Or.inr rfl), by rw [show a0 Q p0 21 = y65 from gd_of ey65, show (100 * ((c.1 (11 + p1.toInt.toNat)).toInt - 1) + v55_3.toInt).toNat = z89.toNatClampNeg from (by show _ = z89.toInt.toNat; omega), ← ez90]; exact t92⟩))⟩, trivial⟩, hS.F ht⟩) hS.2.2 dX7_isOutside_96)
      exact key55 _ 0 _ _ _ rfl ⟨by decide +kernel, by decide +kernel⟩ (fun c ok h hm x a b => absurd b (by rw [show (0 : Int32).toInt = 0 from by decide +kernel]; omega)) hP hS (lv_sub hl [1, 2, 3, 0] rfl)
    · have t8 := tq_nle (k := z5.toInt) (q := v2_3.toInt) c8 rfl rfl
      refine lv_aload_n hx hb dX7_isOutside_11 rfl (lv_at hl 0 rfl) ?_
      obtain ⟨y12, ey12, hLy12, hKy12⟩ := oQ_7_21 (Sv_at hQ hLp0 hKp0)
      refine p_get (v := .ref y12) hx hb hts inX7 hown hK hP hLp0 hKp0 rfl rfl 21 (by decide) (hts _ pq1136) (congrArg (fun q => some (va_rf q)) ey12) dX7_isOutside_12 ?_
      refine lv_bipush (v := 100) hx hb dX7_isOutside_15 (by decide +kernel) ?_
      refine lv_iload_n hx hb dX7_isOutside_17 rfl (lv_at hl 3 rfl) ?_
      refine lv_imul hx hb dX7_isOutside_18 ?_
      refine lv_topi (fun z18 ez18 => ?_)
      have bz18 := tq_mul (k := (100)) (q := v2_3.toInt) ez18 (by decide +kernel) rfl (by omega) (by omega)
      refine p_iald hx hb hK hP 17 hLy12 hKy12 rfl rfl (in_of (by omega) (by omega)) dX7_isOutside_19 ?_
      refine lv_topi (fun z19 ez19 => ?_)
      refine lv_iload_n hx hb dX7_isOutside_20 rfl (lv_at hl 2 rfl) ?_
      refine lv_icmp_eq (tgt := 45) hx hb dX7_isOutside_21 (by decide) (fun c21 => ?_) (fun c21 => ?_)
      · have t21 := tq_eq (k := z19.toInt) (q := p2.toInt) c21 rfl rfl
        refine lv_iconst (v := 1) hx hb dX7_isOutside_45 (by decide +kernel) ?_
        subst hR; subst hQz
        exact W.zret (v := 1) hx hb hr (by decide +kernel) (fun t ht hW => ⟨⟨1, (), rfl, ⟨⟨by decide +kernel, by decide +kernel⟩, (fun c ok h hm => by have okm_ := ok.2.2.1 _ hm; have o1 := okm_.1; have o2 := okm_.2.1; have e5 := congrArg Int32.toInt ((show z5 = I (a0 Q p0 0) (11 + p1.toInt.toNat) from fez5).trans (h _ (by omega))); refine ⟨fun _ => ?_, fun _ => by decide +kernel⟩; first | exact ⟨0, v2_3.toInt, ⟨⟨by omega, by omega⟩, by omega, by omega⟩, Or.inl (Or.inl rfl), by rw [show a0 Q p0 21 = y12 from gd_of ey12, show (100 * v2_3.toInt + 0).toNat = z18.toNatClampNeg from (by show _ = z18.toInt.toNat; omega), ← ez19]; exact t21⟩ | (have e34 := congrArg Int32.toInt ((show z34 = I (a0 Q p0 0) (3 + p1.toInt.toNat) from fez34).trans (h _ (by omega))); exact ⟨(c.1 (3 + p1.toInt.toNat)).toInt - 1, v2_3.toInt, ⟨⟨by omega, by omega⟩, by omega, by omega⟩, Or.inl (Or.inr rfl), by rw [show a0 Q p0 21 = y12 from gd_of ey12, show (100 * v2_3.toInt + ((c.1 (3 + p1.toInt.toNat)).toInt - 1)).toNat = z39.toNatClampNeg from (by show _ = z39.toInt.toNat; omega), ← ez40]; exact t42⟩) | (have e58 := congrArg Int32.toInt ((show z58 = I (a0 Q p0 0) (3 + p1.toInt.toNat) from fez58).trans (h _ (by omega))); have x55 : (100 * (0 : Int) + v55_3.toInt).toNat = v55_3.toNatClampNeg := (by show _ = v55_3.toInt.toNat; omega); exact ⟨v55_3.toInt, 0, ⟨⟨by omega, by omega⟩, by omega, by omega⟩, Or.inr (Or.inl rfl), by rw [x55, show a0 Q p0 21 = y65 from gd_of ey65, ← ez69]; exact t71⟩) | (have e58 := congrArg Int32.toInt ((show z58 = I (a0 Q p0 0) (3 + p1.toInt.toNat) from fez58).trans (h _ (by omega))); exact ⟨v55_3.toInt, (c.1 (11 + p1.toInt.toNat)).toInt - 1, ⟨⟨by omega, by omega⟩, by omega, by omega⟩, Or.inr (Or.inr rfl), by rw [show a0 Q p0 21 = y65 from gd_of ey65, show (100 * ((c.1 (11 + p1.toInt.toNat)).toInt - 1) + v55_3.toInt).toNat = z89.toNatClampNeg from (by show _ = z89.toInt.toNat; omega), ← ez90]; exact t92⟩))⟩, trivial⟩, hS.F ht⟩) hS.2.2 dX7_isOutside_46
      · have t21 := tq_ne (k := z19.toInt) (q := p2.toInt) c21 rfl rfl
        refine lv_aload_n hx hb dX7_isOutside_24 rfl (lv_at hl 0 rfl) ?_
        refine p_get (v := .ref y12) hx hb hts inX7 hown hK hP hLp0 hKp0 rfl rfl 21 (by decide) (hts _ pq1136) (congrArg (fun q => some (va_rf q)) ey12) dX7_isOutside_25 ?_
        refine lv_bipush (v := 100) hx hb dX7_isOutside_28 (by decide +kernel) ?_
        refine lv_iload_n hx hb dX7_isOutside_30 rfl (lv_at hl 3 rfl) ?_
        refine lv_imul hx hb dX7_isOutside_31 ?_
        refine lv_topi (fun z31 ez31 => ?_)
        have bz31 := tq_mul (k := (100)) (q := v2_3.toInt) ez31 (by decide +kernel) rfl (by omega) (by omega)
        refine lv_aload_n hx hb dX7_isOutside_32 rfl (lv_at hl 0 rfl) ?_
        refine lv_iload_n hx hb dX7_isOutside_33 rfl (lv_at hl 1 rfl) ?_
        refine ro_i (va_runV (As := [.int p1]) (rest := [.int z31, .ref y12]) ⟨hx, hb, hml, hown, hts⟩ (s_X7_wide l dC dI cs L K G Q hQ x0 m0 tx tm H.size I J hI p0 hLp0 hKp0 p1 ⟨by omega, by omega⟩) (cwV 1 hts (gV pq1368 pq1370 pq32 pq81 pq1371) rfl rfl rfl (by decide +kernel) ⟨(by rw [hR]; exact (Nat.le_of_ble_eq_true rfl)), (by rw [hR]; exact (Nat.le_of_ble_eq_true rfl))⟩) (sP_V hP hD hK hN hLp0 hKp0 rfl rfl) rfl rfl hl.1 rfl (lv_room (Nat.le_of_ble_eq_true rfl)) dX7_isOutside_34 ⟨(by rw [hR]; exact (Nat.le_of_ble_eq_true rfl)), (by rw [hR]; exact (Nat.le_of_ble_eq_true rfl))⟩) hS hP (fun z34 H locs hz34 hP hS => ?_)
        obtain ⟨bz34, fez34⟩ := hz34
        have c34 := congrArg Int32.toInt fez34
        refine lv_iadd hx hb dX7_isOutside_37 ?_
        refine lv_topi (fun z37 ez37 => ?_)
        have bz37 := tq_add (k := z31.toInt) (q := z34.toInt) ez37 rfl rfl (by omega) (by omega)
        refine lv_iconst (v := 1) hx hb dX7_isOutside_38 (by decide +kernel) ?_
        refine lv_isub hx hb dX7_isOutside_39 ?_
        refine lv_topi (fun z39 ez39 => ?_)
        have bz39 := tq_sub (k := z37.toInt) (q := (1)) ez39 rfl (by decide +kernel) (by omega) (by omega)
        refine p_iald hx hb hK hP 17 hLy12 hKy12 rfl rfl (in_of (by omega) (by omega)) dX7_isOutside_40 ?_
        refine lv_topi (fun z40 ez40 => ?_)
        refine lv_iload_n hx hb dX7_isOutside_41 rfl (lv_at hl 2 rfl) ?_
        refine lv_icmp_ne (tgt := 47) hx hb dX7_isOutside_42 (by decide) (fun c42 => ?_) (fun c42 => ?_)
        · have t42 := tq_ne (k := z40.toInt) (q := p2.toInt) c42 rfl rfl
          obtain ⟨z47, ez47⟩ : ∃ y : Int32, y = v2_3 + 1 := ⟨_, rfl⟩
          refine lv_iinc (v := z47) (lv' := [(3, .int z47), (0, .ref p0), (1, .int p1), (2, .int p2)]) hx hb dX7_isOutside_47 hl (k := 3) rfl (by rw [ez47]; rfl) (by decide) rfl (fun ls hl => ?_)
          have bz47 := tq_add (k := v2_3.toInt) (q := 1) ez47 rfl (by decide +kernel) (by omega) (by omega)
          refine lv_goto (tgt := 2) hx hb dX7_isOutside_50 (by decide) ?_
          exact ih2 _ (by omega) z47 _ _ _ rfl ⟨by omega, by omega⟩ (fun c ok h hm => by have okm_ := ok.2.2.1 _ hm; have o1 := okm_.1; have o2 := okm_.2.1; have e5 := congrArg Int32.toInt ((show z5 = I (a0 Q p0 0) (11 + p1.toInt.toNat) from fez5).trans (h _ (by omega))); have e34 := congrArg Int32.toInt ((show z34 = I (a0 Q p0 0) (3 + p1.toInt.toNat) from fez34).trans (h _ (by omega))); intro y a b; rcases Int.lt_or_le y v2_3.toInt with w | w; (exact g2 c ok h hm y a w); (obtain rfl : y = v2_3.toInt := (by omega); exact ⟨by rw [show a0 Q p0 21 = y12 from gd_of ey12, show (100 * v2_3.toInt + 0).toNat = z18.toNatClampNeg from (by show _ = z18.toInt.toNat; omega), ← ez19]; exact t21, by rw [show a0 Q p0 21 = y12 from gd_of ey12, show (100 * v2_3.toInt + ((c.1 (3 + p1.toInt.toNat)).toInt - 1)).toNat = z39.toNatClampNeg from (by show _ = z39.toInt.toNat; omega), ← ez40]; exact t42⟩)) hP hS (lv_sub hl [1, 2, 3, 0] rfl)
        · have t42 := tq_eq (k := z40.toInt) (q := p2.toInt) c42 rfl rfl
          refine lv_iconst (v := 1) hx hb dX7_isOutside_45 (by decide +kernel) ?_
          subst hR; subst hQz
          exact W.zret (v := 1) hx hb hr (by decide +kernel) (fun t ht hW => ⟨⟨1, (), rfl, ⟨⟨by decide +kernel, by decide +kernel⟩, (fun c ok h hm => by have okm_ := ok.2.2.1 _ hm; have o1 := okm_.1; have o2 := okm_.2.1; have e5 := congrArg Int32.toInt ((show z5 = I (a0 Q p0 0) (11 + p1.toInt.toNat) from fez5).trans (h _ (by omega))); refine ⟨fun _ => ?_, fun _ => by decide +kernel⟩; first | exact ⟨0, v2_3.toInt, ⟨⟨by omega, by omega⟩, by omega, by omega⟩, Or.inl (Or.inl rfl), by rw [show a0 Q p0 21 = y12 from gd_of ey12, show (100 * v2_3.toInt + 0).toNat = z18.toNatClampNeg from (by show _ = z18.toInt.toNat; omega), ← ez19]; exact t21⟩ | (have e34 := congrArg Int32.toInt ((show z34 = I (a0 Q p0 0) (3 + p1.toInt.toNat) from fez34).trans (h _ (by omega))); exact ⟨(c.1 (3 + p1.toInt.toNat)).toInt - 1, v2_3.toInt, ⟨⟨by omega, by omega⟩, by omega, by omega⟩, Or.inl (Or.inr rfl), by rw [show a0 Q p0 21 = y12 from gd_of ey12, show (100 * v2_3.toInt + ((c.1 (3 + p1.toInt.toNat)).toInt - 1)).toNat = z39.toNatClampNeg from (by show _ = z39.toInt.toNat; omega), ← ez40]; exact t42⟩) | (have e58 := congrArg Int32.toInt ((show z58 = I (a0 Q p0 0) (3 + p1.toInt.toNat) from fez58).trans (h _ (by omega))); have x55 : (100 * (0 : Int) + v55_3.toInt).toNat = v55_3.toNatClampNeg := (by show _ = v55_3.toInt.toNat; omega); exact ⟨v55_3.toInt, 0, ⟨⟨by omega, by omega⟩, by omega, by omega⟩, Or.inr (Or.inl rfl), by rw [x55, show a0 Q p0 21 = y65 from gd_of ey65, ← ez69]; exact t71⟩) | (have e58 := congrArg Int32.toInt ((show z58 = I (a0 Q p0 0) (3 + p1.toInt.toNat) from fez58).trans (h _ (by omega))); exact ⟨v55_3.toInt, (c.1 (11 + p1.toInt.toNat)).toInt - 1, ⟨⟨by omega, by omega⟩, by omega, by omega⟩, Or.inr (Or.inr rfl), by rw [show a0 Q p0 21 = y65 from gd_of ey65, show (100 * ((c.1 (11 + p1.toInt.toNat)).toInt - 1) + v55_3.toInt).toNat = z89.toNatClampNeg from (by show _ = z89.toInt.toNat; omega), ← ez90]; exact t92⟩))⟩, trivial⟩, hS.F ht⟩) hS.2.2 dX7_isOutside_46)
  exact key2 _ 0 _ _ _ rfl ⟨by decide +kernel, by decide +kernel⟩ (fun c ok h hm y a b => absurd b (by rw [show (0 : Int32).toInt = 0 from by decide +kernel]; omega)) hP hS (lv_sub hl [1, 2, 3, 0] rfl)

set_option maxHeartbeats 4000000 in
set_option maxRecDepth 100000 in
theorem s_X7_holesOf (l : Launch) (dC : Nat → ClassId) (dI : Nat → Nat → Nat) (cs : Nat → ClassId) (L : List Nat) (K G : Nat → Nat) (Q : Nat → Nat → Option Nat) (hQ : Sv L K G Q) (x0 m0 : Nat) (tx : GT) (tm : GT × Int) (sz : Nat) (I : Nat → Nat → Int32) (J : Nat → Nat → Int64) (hI : Iv L K x0 m0 tx tm I) (p0 : Nat) (hLp0 : p0 ∈ L) (hKp0 : K p0 = 7) (p1 : Int32) (bp1 : (0) ≤ p1.toInt ∧ p1.toInt ≤ 7) : Met l yX7_holesOf (.code yX7_holesOf cX7_holesOf 4 (some .int) :: pw) ({ frames := 4, cells := 0, slots := 0, locals := 99 }) (sP (dC, dI) cs [.ref p0, .int p1] sz L K I J Q) (va_Qi (fun (r : Int32) (_ : Unit) => (∀ c : Fx, okF c → rI Q I p0 c → rJ Q J p0 c → p1.toInt.toNat < (c.1 0).toInt.toNat → r.toInt = hoN (B2P (dsD (c.1 (3 + p1.toInt.toNat)).toInt (c.1 (11 + p1.toInt.toNat)).toInt (mo c.2 p1.toInt.toNat) 0)) (c.1 (3 + p1.toInt.toNat)).toInt (c.1 (11 + p1.toInt.toNat)).toInt 40 0)) (fun _ t => sB (dC, dI) cs L K Q (fun I1 J1 => Iv L K x0 m0 tx tm I1 ∧ (∀ b, ¬ (K b = 7 ∨ K b = 11 ∨ K b = 27) → I1 b = I b) ∧ I1 p0 11 = I p0 11 ∧ (∀ b, K b = 0 ∨ K b = 1 ∨ K b = 3 ∨ K b = 6 → I1 b = I b) ∧ (∀ σ : Sx, cmA Q I J p0 σ → cmA Q I1 J1 p0 σ) ∧ J1 = J) t) (fun q => q ∈ L ∨ sz ≤ q)) 0 0 (fun q => q ∈ L ∨ sz ≤ q) := by
  refine Met.ofW (cc := cX7_holesOf) (maxL := 4) (ret := (some .int)) (by decide +kernel) rfl ?_
  intro p e s m args below meth c s₁ B hml hv
  obtain ⟨rfl, hsz, hP, hK, hD0, hN⟩ := hv
  have hx := B.exec
  have hb := B.bytes
  have hr := B.returns
  have hts := fun w (h : w ∈ pw) => atoms_spec (ws := Cond.code yX7_holesOf cX7_holesOf 4 (some .int) :: pw) B.pre w (List.mem_cons_of_mem _ h)
  have hown : s.vm.findClass RX7 = some m.cls := findClass_of_methodNamed B.named
  have hlocks := B.notSynchronized
  subst hsz
  have hBB : 999 ≤ tm.2 ∧ tm.2 ≤ 6000000 := hI.2.2.2.2.1
  have dn_I : (∀ b, K b = 0 ∨ K b = 1 ∨ K b = 3 ∨ K b = 6 → I b = I b) := fun _ _ => rfl
  have dj_J : J = J := rfl
  have kp0_11_I : I p0 11 = I p0 11 := rfl
  have fr_I : ∀ b, ¬ (K b = 7 ∨ K b = 11 ∨ K b = 27) → I b = I b := fun _ _ => rfl
  obtain ⟨A, hAe⟩ : ∃ A : Nat → Prop, A = (fun q => q ∈ L ∨ s.heap.size ≤ q) := ⟨_, rfl⟩
  rw [← hAe]
  have hAL : ∀ q, q ∈ L → A q := fun q h => by rw [hAe]; exact Or.inl h
  have hA : ∀ q, s.heap.size ≤ q → A q := fun q h => by rw [hAe]; exact Or.inr h
  have hD : ∀ F, va_D A (va_pl L F) := fun F => (hD0 F).weaken (fun k q hk _ => hAL _ (pl_mem hk))
  obtain ⟨H, hHe⟩ : ∃ H : Heap, H = s.heap := ⟨_, rfl⟩
  have hS : va_S A s.heap H [] := by rw [hHe]; exact va_S.rf
  rw [← hHe] at hP
  have hl := lv_entry ([.ref p0, .int p1]) (n := 4) (Nat.le_of_ble_eq_true rfl)
  rw [lg_entry_eq]
  generalize (lg_sl ([.ref p0, .int p1]) ++ List.replicate (4 - (lg_sl ([.ref p0, .int p1])).length) Slot.unset).toArray = ls at hl ⊢
  have hl : lv_has ls 4 [(0, .ref p0), (1, .int p1)] := hl
  rw [← hHe]
  refine namedW (fun R Qz hR hQz => ?_)
  refine lv_aload_n hx hb dX7_holesOf_0 rfl (lv_at hl 0 rfl) ?_
  refine lv_iload_n hx hb dX7_holesOf_1 rfl (lv_at hl 1 rfl) ?_
  refine lv_iconst (v := 0) hx hb dX7_holesOf_2 (by decide +kernel) ?_
  refine sw_v (Z := (fun I1 J1 => Iv L K x0 m0 tx tm I1 ∧ (∀ b, ¬ (K b = 7 ∨ K b = 11 ∨ K b = 27) → I1 b = I b) ∧ I1 p0 11 = I p0 11 ∧ ((0 ≤ (I1 p0 23).toInt ∧ (I1 p0 23).toInt ≤ 4000 ∧ (0 < (I1 p0 23).toInt → 1 ≤ (I ((Q p0 0).getD 0) (3 + p1.toInt.toNat)).toInt ∧ 1 ≤ (I ((Q p0 0).getD 0) (11 + p1.toInt.toNat)).toInt))) ∧ (∀ b, K b = 0 ∨ K b = 1 ∨ K b = 3 ∨ K b = 6 → I1 b = I b) ∧ (∀ c : Fx, okF c → rI Q I p0 c → rJ Q J p0 c → p1.toInt.toNat < (c.1 0).toInt.toNat → lyR (I1 (a0 Q p0 21)) (I1 p0 23) (dsD (c.1 (3 + p1.toInt.toNat)).toInt (c.1 (11 + p1.toInt.toNat)).toInt (mo c.2 p1.toInt.toNat) (0 : Int32).toInt)) ∧ J1 = J)) (va_runV (As := [.int p1, .int 0]) (rest := []) ⟨hx, hb, hml, hown, hts⟩ (s_X7_laysIslands l dC dI cs L K G Q hQ x0 m0 tx tm H.size I J hI p0 hLp0 hKp0 p1 ⟨by omega, by omega⟩ 0) (cwV 2 hts (gV pq1534 pq1536 pq57 pq81 pq1537) rfl rfl rfl (by decide +kernel) ⟨(by rw [hR]; exact (Nat.le_of_ble_eq_true rfl)), (by rw [hR]; exact (Nat.le_of_ble_eq_true rfl))⟩) (sP_V hP hD hK hN hLp0 hKp0 rfl rfl) rfl rfl hl.1 rfl (lv_room (Nat.le_of_ble_eq_true rfl)) dX7_holesOf_3 ⟨(by rw [hR]; exact (Nat.le_of_ble_eq_true rfl)), (by rw [hR]; exact (Nat.le_of_ble_eq_true rfl))⟩) hS hAL hA (fun Iz3 Jz3 H locs hz3 hIz3 hP hS => ?_)
  obtain ⟨hIz3, frc3, kc3_0_11, zp3, dnc3, jz3, djc3⟩ := hIz3
  obtain rfl : J = Jz3 := djc3.symm
  have dn_Iz3 : (∀ b, K b = 0 ∨ K b = 1 ∨ K b = 3 ∨ K b = 6 → Iz3 b = I b) := fun b hc => (dnc3 b (by omega)).trans (dn_I b hc)
  have kp0_11_Iz3 : Iz3 p0 11 = I p0 11 := kc3_0_11.trans kp0_11_I
  have fr_Iz3 : ∀ b, ¬ (K b = 7 ∨ K b = 11 ∨ K b = 27) → Iz3 b = I b := fun b q => (frc3 b (fun z => q (by omega))).trans (fr_I b q)
  refine lv_iconst (v := 0) hx hb dX7_holesOf_6 (by decide +kernel) ?_
  refine lv_istore_n (lv' := [(2, .int 0), (0, .ref p0), (1, .int p1)]) hx hb dX7_holesOf_7 rfl hl (by decide) rfl (fun ls hl => ?_)
  refine lv_iconst (v := 0) hx hb dX7_holesOf_8 (by decide +kernel) ?_
  refine lv_istore_n (lv' := [(3, .int 0), (2, .int 0), (0, .ref p0), (1, .int p1)]) hx hb dX7_holesOf_9 rfl hl (by decide) rfl (fun ls hl => ?_)
  have key10 := blocks (fun n => ∀ (v10_2 : Int32) (v10_3 : Int32) (H : Heap) (lo : List Loc) (ls : Array Slot), (4002 - v10_3.toInt).toNat = n → ((0) ≤ v10_3.toInt ∧ v10_3.toInt ≤ 4001) → 0 ≤ v10_3.toInt ∧ v10_3.toInt ≤ (Iz3 p0 23).toInt → (∀ c : Fx, okF c → rI Q I p0 c → rJ Q J p0 c → p1.toInt.toNat < (c.1 0).toInt.toNat → v10_2.toInt = nK (fun k => ¬ outR (Iz3 (a0 Q p0 21)) (c.1 (3 + p1.toInt.toNat)).toInt (c.1 (11 + p1.toInt.toNat)).toInt k) v10_3.toInt.toNat) → va_P (dC, dI) vwCl (Wd cs L K Iz3 J Q) H → va_S A s.heap H lo → lv_has ls 4 [(0, .ref p0), (1, .int p1), (2, .int v10_2), (3, .int v10_3)] → W p l e R s m (([.ref p0, .int p1] : List Value).toArray) below meth c H lo 0 0 Qz (F0 m 10 ls [])) (by
    intro n ih10
    intro v10_2 v10_3 H lo ls hmu10 bv10_3 hk10 g10 hP hS hl
    refine lv_iload_n hx hb dX7_holesOf_10 rfl (lv_at hl 3 rfl) ?_
    refine lv_aload_n hx hb dX7_holesOf_11 rfl (lv_at hl 0 rfl) ?_
    refine p_get hx hb hts inX7 hown hK hP hLp0 hKp0 rfl rfl 23 (by decide) (hts _ pq1138) rfl dX7_holesOf_12 ?_
    refine lv_topi (fun z12 ez12 => ?_)
    have cgz12 := congrArg Int32.toInt ez12
    refine lv_icmp_ge (tgt := 44) hx hb dX7_holesOf_15 (by decide) (fun c15 => ?_) (fun c15 => ?_)
    · have t15 := tq_le (k := z12.toInt) (q := v10_3.toInt) c15 rfl rfl
      refine lv_iload_n hx hb dX7_holesOf_44 rfl (lv_at hl 2 rfl) ?_
      subst hR; subst hQz
      exact W.iret (v := v10_2) hx hb hr (fun t ht hW => ⟨⟨v10_2, (), rfl, (fun c ok h hj hm => by have okm_ := ok.2.2.1 _ hm; have o1 := okm_.1; have o2 := okm_.2.1; have L := jz3 c ok h hj hm; rw [show (0 : Int32).toInt = 0 from by decide +kernel] at L; have e12 : z12.toInt = (Iz3 p0 23).toInt := congrArg Int32.toInt ez12; have q := ho_ref (fun X Y d => (dsD_t.mp d).1) (by omega) (by omega) L; rw [g10 c ok h hj hm, ← q, show v10_3.toInt.toNat = (Iz3 p0 23).toInt.toNat by omega]), ⟨Iz3, J, ⟨hIz3, fr_Iz3, kp0_11_Iz3, dn_Iz3, (fun σ A => cmA_fr hQ hLp0 hKp0 (fun b hb => fr_Iz3 b (by omega)) (fun _ _ => rfl) kp0_11_Iz3 A), dj_J⟩, by rw [ht]; exact hP⟩⟩, hS.F ht⟩) hS.2.2 dX7_holesOf_45
    · have t15 := tq_nle (k := z12.toInt) (q := v10_3.toInt) c15 rfl rfl
      have rg15z12 := fb_rng z12
      refine lv_iload_n hx hb dX7_holesOf_18 rfl (lv_at hl 2 rfl) ?_
      refine lv_aload_n hx hb dX7_holesOf_19 rfl (lv_at hl 0 rfl) ?_
      refine lv_iload_n hx hb dX7_holesOf_20 rfl (lv_at hl 1 rfl) ?_
      refine lv_iload_n hx hb dX7_holesOf_21 rfl (lv_at hl 3 rfl) ?_
      refine ro_i (va_runV (As := [.int p1, .int v10_3]) (rest := [.int v10_2]) ⟨hx, hb, hml, hown, hts⟩ (s_X7_isOutside l dC dI cs L K G Q hQ x0 m0 tx tm H.size Iz3 J hIz3 p0 hLp0 hKp0 p1 ⟨by omega, by omega⟩ v10_3 (by rw [frc3 _ (by have := (nw_of hQ hLp0 hKp0).2; omega)]; exact zp3.2.2 (by omega))) (cwV 2 hts (gV pq1546 pq1548 pq60 pq81 pq1549) rfl rfl rfl (by decide +kernel) ⟨(by rw [hR]; exact (Nat.le_of_ble_eq_true rfl)), (by rw [hR]; exact (Nat.le_of_ble_eq_true rfl))⟩) (sP_V hP hD hK hN hLp0 hKp0 rfl rfl) rfl rfl hl.1 rfl (lv_room (Nat.le_of_ble_eq_true rfl)) dX7_holesOf_22 ⟨(by rw [hR]; exact (Nat.le_of_ble_eq_true rfl)), (by rw [hR]; exact (Nat.le_of_ble_eq_true rfl))⟩) hS hP (fun z22 H locs hz22 hP hS => ?_)
      obtain ⟨bz22, xpz22⟩ := hz22
      have j33 : ∀ (w33_1 : Int32) (H : Heap) (lo : List Loc) (ls : Array Slot), ((0) ≤ w33_1.toInt ∧ w33_1.toInt ≤ 1) → (w33_1.toInt = 0 ↔ ¬ z22.toInt = 0) → va_P (dC, dI) vwCl (Wd cs L K Iz3 J Q) H → va_S A s.heap H lo → lv_has ls 4 [(0, .ref p0), (1, .int p1), (2, .int v10_2), (3, .int v10_3)] → W p l e R s m (([.ref p0, .int p1] : List Value).toArray) below meth c H lo 0 0 Qz (F0 m 33 ls [.int w33_1, .int v10_2]) := by
        intro w33_1 H lo ls bw33_1 h33 hP hS hl
        refine ro_i (va_runS (As := [.int w33_1]) (rest := [.int v10_2]) ⟨hx, hb, hml, hown, hts⟩ (s_X7_truth l dC dI cs L K Q H.size Iz3 J w33_1) (va_cwS 1 hts (gS pq1257 pq1258 pq81 pq1259) rfl rfl rfl (by decide +kernel) ⟨(by rw [hR]; exact (Nat.le_of_ble_eq_true rfl)), (by rw [hR]; exact (Nat.le_of_ble_eq_true rfl))⟩) (sP_S hP hD hK hN) rfl rfl hl.1 rfl (lv_room (Nat.le_of_ble_eq_true rfl)) dX7_holesOf_33 ⟨(by rw [hR]; exact (Nat.le_of_ble_eq_true rfl)), (by rw [hR]; exact (Nat.le_of_ble_eq_true rfl))⟩) hS hP (fun z33 H locs hz33 hP hS => ?_)
        obtain ⟨bz33, xpz33⟩ := hz33
        refine lv_iadd hx hb dX7_holesOf_36 ?_
        refine lv_topi (fun z36 ez36 => ?_)
        refine lv_istore_n (lv' := [(2, .int z36), (0, .ref p0), (1, .int p1), (3, .int v10_3)]) hx hb dX7_holesOf_37 rfl hl (by decide) rfl (fun ls hl => ?_)
        obtain ⟨z38, ez38⟩ : ∃ y : Int32, y = v10_3 + 1 := ⟨_, rfl⟩
        refine lv_iinc (v := z38) (lv' := [(3, .int z38), (2, .int z36), (0, .ref p0), (1, .int p1)]) hx hb dX7_holesOf_38 hl (k := 3) rfl (by rw [ez38]; rfl) (by decide) rfl (fun ls hl => ?_)
        have bz38 := tq_add (k := v10_3.toInt) (q := 1) ez38 rfl (by decide +kernel) (by omega) (by omega)
        refine lv_goto (tgt := 10) hx hb dX7_holesOf_41 (by decide) ?_
        exact ih10 _ (by omega) z36 z38 _ _ _ rfl ⟨by omega, by omega⟩ (by have e12 : z12.toInt = (Iz3 p0 23).toInt := congrArg Int32.toInt ez12; omega) (fun c ok h hj hm => by have okm_ := ok.2.2.1 _ hm; have o1 := okm_.1; have o2 := okm_.2.1; have L := jz3 c ok h hj hm; rw [show (0 : Int32).toInt = 0 from by decide +kernel] at L; have e12 : z12.toInt = (Iz3 p0 23).toInt := congrArg Int32.toInt ez12; have r3 := rI_fr (I1 := Iz3) hQ hLp0 hKp0 (fun b q => fr_Iz3 b (by omega)) h; have w := xpz22 c ok r3 hm; have g := g10 c ok h hj hm; have b := nK_b (fun k => ¬ outR (Iz3 (a0 Q p0 21)) (c.1 (3 + p1.toInt.toNat)).toInt (c.1 (11 + p1.toInt.toNat)).toInt k) v10_3.toInt.toNat; by_cases k : w33_1.toInt = 0; (have z0 := xpz33.1 k; have a := tq_add (k := v10_2.toInt) (q := z33.toInt) ez36 rfl rfl (by omega) (by omega); rw [a, z0, Int.add_zero, g]; exact (nK_no (P := (fun k => ¬ outR (Iz3 (a0 Q p0 21)) (c.1 (3 + p1.toInt.toNat)).toInt (c.1 (11 + p1.toInt.toNat)).toInt k)) (by omega) bz38 (fun p => p (w.mp (h33.mp k)))).symm); (have z1 := xpz33.2 k; have a := tq_add (k := v10_2.toInt) (q := z33.toInt) ez36 rfl rfl (by omega) (by omega); rw [a, z1, g]; exact (nK_yes (P := (fun k => ¬ outR (Iz3 (a0 Q p0 21)) (c.1 (3 + p1.toInt.toNat)).toInt (c.1 (11 + p1.toInt.toNat)).toInt k)) (by omega) bz38 (fun p => k (h33.mpr (w.mpr p)))).symm)) hP hS (lv_sub hl [2, 3, 1, 0] rfl)
      refine lv_if_ne (tgt := 32) hx hb dX7_holesOf_25 (by decide) (fun c25 => ?_) (fun c25 => ?_)
      · have t25 := tq_ne (k := z22.toInt) (q := (0)) c25 rfl (by decide +kernel)
        refine lv_iconst (v := 0) hx hb dX7_holesOf_32 (by decide +kernel) ?_
        exact j33 0 _ _ _ ⟨by decide +kernel, by decide +kernel⟩ ⟨fun _ => t25, fun _ => by decide +kernel⟩ hP hS (lv_sub hl [0, 1, 2, 3] rfl)
      · have t25 := tq_eq (k := z22.toInt) (q := (0)) c25 rfl (by decide +kernel)
        refine lv_iconst (v := 1) hx hb dX7_holesOf_28 (by decide +kernel) ?_
        refine lv_goto (tgt := 33) hx hb dX7_holesOf_29 (by decide) ?_
        exact j33 1 _ _ _ ⟨by decide +kernel, by decide +kernel⟩ ⟨fun q => absurd q (by decide +kernel), fun q => absurd t25 q⟩ hP hS (lv_sub hl [0, 1, 2, 3] rfl))
  exact key10 _ 0 0 _ _ _ rfl ⟨by decide +kernel, by decide +kernel⟩ ⟨by decide +kernel, by rw [show (0 : Int32).toInt = 0 from by decide +kernel]; exact zp3.1⟩ (fun c ok h hj hm => (show (0 : Int32).toInt = 0 by decide +kernel).trans (nK_0 (by decide +kernel)).symm) hP hS (lv_sub hl [2, 3, 1, 0] rfl)

set_option maxHeartbeats 4000000 in
set_option maxRecDepth 100000 in
theorem s_X7_mask (l : Launch) (dC : Nat → ClassId) (dI : Nat → Nat → Nat) (cs : Nat → ClassId) (L : List Nat) (K G : Nat → Nat) (Q : Nat → Nat → Option Nat) (hQ : Sv L K G Q) (x0 m0 : Nat) (tx : GT) (tm : GT × Int) (sz : Nat) (I : Nat → Nat → Int32) (J : Nat → Nat → Int64) (hI : Iv L K x0 m0 tx tm I) (p0 : Nat) (hLp0 : p0 ∈ L) (hKp0 : K p0 = 7) (p1 : Int32) (p2 : Int32) : Met l yX7_mask (.code yX7_mask cX7_mask 3 (some .int) :: pw) ({ frames := 5, cells := 0, slots := 0, locals := 122 }) (sP (dC, dI) cs [.ref p0, .int p1, .int p2] sz L K I J Q) (va_Qi (fun (r : Int32) (_ : Unit) => (∀ σ : Sx, okF σ.1 → cmA Q I J p0 σ → maR σ p1 p2 r)) (fun _ t => sB (dC, dI) cs L K Q (fun I1 J1 => Iv L K x0 m0 tx tm I1 ∧ (∀ b, ¬ (K b = 7 ∨ K b = 11 ∨ K b = 26 ∨ K b = 27) → I1 b = I b) ∧ I1 p0 11 = I p0 11 ∧ (∀ b, K b = 0 ∨ K b = 1 ∨ K b = 3 ∨ K b = 6 → I1 b = I b) ∧ (∀ σ : Sx, cmA Q I J p0 σ → cmA Q I1 J1 p0 σ) ∧ J1 = J) t) (fun q => q ∈ L ∨ sz ≤ q)) 0 0 (fun q => q ∈ L ∨ sz ≤ q) := by
  refine Met.ofW (cc := cX7_mask) (maxL := 3) (ret := (some .int)) (by decide +kernel) rfl ?_
  intro p e s m args below meth c s₁ B hml hv
  obtain ⟨rfl, hsz, hP, hK, hD0, hN⟩ := hv
  have hx := B.exec
  have hb := B.bytes
  have hr := B.returns
  have hts := fun w (h : w ∈ pw) => atoms_spec (ws := Cond.code yX7_mask cX7_mask 3 (some .int) :: pw) B.pre w (List.mem_cons_of_mem _ h)
  have hown : s.vm.findClass RX7 = some m.cls := findClass_of_methodNamed B.named
  have hlocks := B.notSynchronized
  subst hsz
  have hBB : 999 ≤ tm.2 ∧ tm.2 ≤ 6000000 := hI.2.2.2.2.1
  have dn_I : (∀ b, K b = 0 ∨ K b = 1 ∨ K b = 3 ∨ K b = 6 → I b = I b) := fun _ _ => rfl
  have dj_J : J = J := rfl
  have kp0_11_I : I p0 11 = I p0 11 := rfl
  have fr_I : ∀ b, ¬ (K b = 7 ∨ K b = 11 ∨ K b = 26 ∨ K b = 27) → I b = I b := fun _ _ => rfl
  obtain ⟨A, hAe⟩ : ∃ A : Nat → Prop, A = (fun q => q ∈ L ∨ s.heap.size ≤ q) := ⟨_, rfl⟩
  rw [← hAe]
  have hAL : ∀ q, q ∈ L → A q := fun q h => by rw [hAe]; exact Or.inl h
  have hA : ∀ q, s.heap.size ≤ q → A q := fun q h => by rw [hAe]; exact Or.inr h
  have hD : ∀ F, va_D A (va_pl L F) := fun F => (hD0 F).weaken (fun k q hk _ => hAL _ (pl_mem hk))
  obtain ⟨H, hHe⟩ : ∃ H : Heap, H = s.heap := ⟨_, rfl⟩
  have hS : va_S A s.heap H [] := by rw [hHe]; exact va_S.rf
  rw [← hHe] at hP
  have hl := lv_entry ([.ref p0, .int p1, .int p2]) (n := 3) (Nat.le_of_ble_eq_true rfl)
  rw [lg_entry_eq]
  generalize (lg_sl ([.ref p0, .int p1, .int p2]) ++ List.replicate (3 - (lg_sl ([.ref p0, .int p1, .int p2])).length) Slot.unset).toArray = ls at hl ⊢
  have hl : lv_has ls 3 [(0, .ref p0), (1, .int p1), (2, .int p2)] := hl
  rw [← hHe]
  refine namedW (fun R Qz hR hQz => ?_)
  refine lv_aload_n hx hb dX7_mask_0 rfl (lv_at hl 0 rfl) ?_
  refine lv_iload_n hx hb dX7_mask_1 rfl (lv_at hl 1 rfl) ?_
  refine ro_i (va_runV (As := [.int p1]) (rest := []) ⟨hx, hb, hml, hown, hts⟩ (s_X7_isMask l dC dI cs L K G Q hQ x0 m0 tx tm H.size I J hI p0 hLp0 hKp0 p1) (cwV 1 hts (gV pq1364 pq1366 pq31 pq81 pq1367) rfl rfl rfl (by decide +kernel) ⟨(by rw [hR]; exact (Nat.le_of_ble_eq_true rfl)), (by rw [hR]; exact (Nat.le_of_ble_eq_true rfl))⟩) (sP_V hP hD hK hN hLp0 hKp0 rfl rfl) rfl rfl hl.1 rfl (lv_room (Nat.le_of_ble_eq_true rfl)) dX7_mask_2 ⟨(by rw [hR]; exact (Nat.le_of_ble_eq_true rfl)), (by rw [hR]; exact (Nat.le_of_ble_eq_true rfl))⟩) hS hP (fun z2 H locs hz2 hP hS => ?_)
  obtain ⟨bz2, imz2, xpz2⟩ := hz2
  refine lv_if_ne (tgt := 10) hx hb dX7_mask_5 (by decide) (fun c5 => ?_) (fun c5 => ?_)
  · have t5 := tq_ne (k := z2.toInt) (q := (0)) c5 rfl (by decide +kernel)
    have i5 := imz2 t5
    refine lv_iload_n hx hb dX7_mask_10 rfl (lv_at hl 2 rfl) ?_
    have j82 : ∀ (H : Heap) (lo : List Loc) (ls : Array Slot), (3 ≤ p2.toInt ∧ p2.toInt ≤ 6) → va_P (dC, dI) vwCl (Wd cs L K I J Q) H → va_S A s.heap H lo → lv_has ls 3 [(0, .ref p0), (1, .int p1), (2, .int p2)] → W p l e R s m (([.ref p0, .int p1, .int p2] : List Value).toArray) below meth c H lo 0 0 Qz (F0 m 82 ls []) := by
      intro H lo ls h82 hP hS hl
      refine lv_aload_n hx hb dX7_mask_82 rfl (lv_at hl 0 rfl) ?_
      refine lv_iload_n hx hb dX7_mask_83 rfl (lv_at hl 1 rfl) ?_
      refine sw_ir (Z := (fun u => (fun I1 J1 => Iv L K x0 m0 tx tm I1 ∧ (∀ b, ¬ (K b = 26) → I1 b = I b) ∧ rcI (hs (rW Q I p0 p1.toInt.toNat) (rH Q I p0 p1.toInt.toNat) (rF Q J p0 p1.toInt.toNat)) u.toInt ((I1 (a0 Q p0 20) 0).toInt, (I1 (a0 Q p0 20) 1).toInt, (I1 (a0 Q p0 20) 2).toInt, (I1 (a0 Q p0 20) 3).toInt) ∧ (∀ b, K b = 0 ∨ K b = 1 ∨ K b = 3 ∨ K b = 6 → I1 b = I b) ∧ J1 = J))) (va_runV (As := [.int p1]) (rest := []) ⟨hx, hb, hml, hown, hts⟩ (s_X7_reaches l dC dI cs L K G Q hQ x0 m0 tx tm H.size I J hI p0 hLp0 hKp0 p1 ⟨by omega, by omega⟩) (cwV 1 hts (gV pq1506 pq1508 pq53 pq81 pq1509) rfl rfl rfl (by decide +kernel) ⟨(by rw [hR]; exact (Nat.le_of_ble_eq_true rfl)), (by rw [hR]; exact (Nat.le_of_ble_eq_true rfl))⟩) (sP_V hP hD hK hN hLp0 hKp0 rfl rfl) rfl rfl hl.1 rfl (lv_room (Nat.le_of_ble_eq_true rfl)) dX7_mask_84 ⟨(by rw [hR]; exact (Nat.le_of_ble_eq_true rfl)), (by rw [hR]; exact (Nat.le_of_ble_eq_true rfl))⟩) hS hAL hA (fun z84 Iz84 Jz84 H locs hz84 hIz84 hP hS => ?_)
      obtain ⟨hIz84, frc84, fz84, dnc84, djc84⟩ := hIz84
      obtain rfl : J = Jz84 := djc84.symm
      have dn_Iz84 : (∀ b, K b = 0 ∨ K b = 1 ∨ K b = 3 ∨ K b = 6 → Iz84 b = I b) := fun b hc => (dnc84 b (by omega)).trans (dn_I b hc)
      have kp0_11_Iz84 : Iz84 p0 11 = I p0 11 := (congrFun (frc84 p0 (by omega)) 11).trans kp0_11_I
      have fr_Iz84 : ∀ b, ¬ (K b = 7 ∨ K b = 11 ∨ K b = 26 ∨ K b = 27) → Iz84 b = I b := fun b q => (frc84 b (fun z => q (by omega))).trans (fr_I b q)
      have bz84 := hz84
      refine lv_if_eq (tgt := 101) hx hb dX7_mask_87 (by decide) (fun c87 => ?_) (fun c87 => ?_)
      · have t87 := tq_eq (k := z84.toInt) (q := (0)) c87 rfl (by decide +kernel)
        refine lv_bipush (v := (-2)) hx hb dX7_mask_101 (by decide +kernel) ?_
        subst hR; subst hQz
        exact W.iret (v := (-2)) hx hb hr (fun t ht hW => ⟨⟨(-2), (), rfl, (fun σ ok h => by have q := xpz2.1 t5; rw [cm_0 h] at q; have o := ok.2.2.1 p1.toInt.toNat (by omega); have o1 := o.1; have o2 := o.2.1; have eW_ : (mW σ p1).toInt = (σ.1.1 (3 + p1.toInt.toNat)).toInt := rfl; have eH_ : (mH σ p1).toInt = (σ.1.1 (11 + p1.toInt.toNat)).toInt := rfl; have eD : (hs (rW Q I p0 p1.toInt.toNat) (rH Q I p0 p1.toInt.toNat) (rF Q J p0 p1.toInt.toNat)) = md (mF σ p1) := (funext fun x => funext fun y => by rw [hs_congr (f := rF Q J p0 p1.toInt.toNat) (g := mF σ p1) (w2 := (mW σ p1).toInt) (h2 := (mH σ p1).toInt) (congrArg Int32.toInt (cmA_n h (k := 3 + p1.toInt.toNat) (by omega))) (congrArg Int32.toInt (cmA_n h (k := 11 + p1.toInt.toNat) (by omega))) (fun k hk => (cmA_rJ h) (80 * p1.toInt.toNat + k) (by omega)), hs_of o.2.2]); have RC := fz84; rw [eD] at RC; exact ⟨fun _ => mk3 ⟨by omega, by omega⟩ (Or.inl ⟨RC.1 t87, by decide +kernel⟩), fun w => absurd q w⟩), ⟨Iz84, J, ⟨hIz84, fr_Iz84, kp0_11_Iz84, dn_Iz84, (fun σ A => cmA_fr hQ hLp0 hKp0 (fun b hb => fr_Iz84 b (by omega)) (fun _ _ => rfl) kp0_11_Iz84 A), dj_J⟩, by rw [ht]; exact hP⟩⟩, hS.F ht⟩) hS.2.2 dX7_mask_103
      · have t87 := tq_ne (k := z84.toInt) (q := (0)) c87 rfl (by decide +kernel)
        refine lv_aload_n hx hb dX7_mask_90 rfl (lv_at hl 0 rfl) ?_
        obtain ⟨y91, ey91, hLy91, hKy91⟩ := oQ_7_20 (Sv_at hQ hLp0 hKp0)
        refine p_get (v := .ref y91) hx hb hts inX7 hown hK hP hLp0 hKp0 rfl rfl 20 (by decide) (hts _ pq1135) (congrArg (fun q => some (va_rf q)) ey91) dX7_mask_91 ?_
        refine lv_iload_n hx hb dX7_mask_94 rfl (lv_at hl 2 rfl) ?_
        refine lv_iconst (v := 3) hx hb dX7_mask_95 (by decide +kernel) ?_
        refine lv_isub hx hb dX7_mask_96 ?_
        refine lv_topi (fun z96 ez96 => ?_)
        have bz96 := tq_sub (k := p2.toInt) (q := 3) ez96 rfl (by decide +kernel) (by omega) (by omega)
        refine p_iald hx hb hK hP 16 hLy91 hKy91 rfl rfl (in_of (by omega) (by omega)) dX7_mask_97 ?_
        refine lv_topi (fun z97 ez97 => ?_)
        have bz97 := oR_26 (i := z96) (k := z96.toInt) rfl (Iv_at hIz84 hLy91 hKy91)
        rw [← ez97] at bz97
        refine lv_goto (tgt := 103) hx hb dX7_mask_98 (by decide) ?_
        subst hR; subst hQz
        exact W.iret (v := z97) hx hb hr (fun t ht hW => ⟨⟨z97, (), rfl, (fun σ ok h => by have q := xpz2.1 t5; rw [cm_0 h] at q; have o := ok.2.2.1 p1.toInt.toNat (by omega); have o1 := o.1; have o2 := o.2.1; have eW_ : (mW σ p1).toInt = (σ.1.1 (3 + p1.toInt.toNat)).toInt := rfl; have eH_ : (mH σ p1).toInt = (σ.1.1 (11 + p1.toInt.toNat)).toInt := rfl; have eD : (hs (rW Q I p0 p1.toInt.toNat) (rH Q I p0 p1.toInt.toNat) (rF Q J p0 p1.toInt.toNat)) = md (mF σ p1) := (funext fun x => funext fun y => by rw [hs_congr (f := rF Q J p0 p1.toInt.toNat) (g := mF σ p1) (w2 := (mW σ p1).toInt) (h2 := (mH σ p1).toInt) (congrArg Int32.toInt (cmA_n h (k := 3 + p1.toInt.toNat) (by omega))) (congrArg Int32.toInt (cmA_n h (k := 11 + p1.toInt.toNat) (by omega))) (fun k hk => (cmA_rJ h) (80 * p1.toInt.toNat + k) (by omega)), hs_of o.2.2]); have RC := fz84; rw [eD] at RC; have EX := RC.2 t87; rw [show a0 Q p0 20 = y91 from gd_of ey91] at EX; have ix : ∀ n : Nat, p2.toInt = 3 + (n : Int) → z97.toInt = (Iz84 y91 n).toInt := (fun n e => congrArg Int32.toInt (ez97.trans (by rw [show z96.toNatClampNeg = n from (by show z96.toInt.toNat = n; omega)]))); exact ⟨fun _ => mk3 ⟨by omega, by omega⟩ (Or.inr ⟨_, EX, by rcases (show p2.toInt = 3 ∨ p2.toInt = 4 ∨ p2.toInt = 5 ∨ p2.toInt = 6 by omega) with e | e | e | e; (rw [ix 0 (by omega), e]; rfl); (rw [ix 1 (by omega), e]; rfl); (rw [ix 2 (by omega), e]; rfl); (rw [ix 3 (by omega), e]; rfl)⟩), fun w => absurd q w⟩), ⟨Iz84, J, ⟨hIz84, fr_Iz84, kp0_11_Iz84, dn_Iz84, (fun σ A => cmA_fr hQ hLp0 hKp0 (fun b hb => fr_Iz84 b (by omega)) (fun _ _ => rfl) kp0_11_Iz84 A), dj_J⟩, by rw [ht]; exact hP⟩⟩, hS.F ht⟩) hS.2.2 dX7_mask_103
    refine lv_topi (fun z11 ez11 => ?_)
    rcases sw10 z11 with rfl | rfl | rfl | rfl | rfl | rfl | rfl | rfl | rfl | rfl | hsw11
    · refine lv_tableIn (off := 53) (tgt := 64) hx hb dX7_mask_11 (by decide +kernel) (by decide +kernel) (by decide +kernel) (by decide) ?_
      have sv11 : p2.toInt = 0 := by rw [← ez11]; decide +kernel
      refine lv_aload_n hx hb dX7_mask_64 rfl (lv_at hl 0 rfl) ?_
      refine lv_iload_n hx hb dX7_mask_65 rfl (lv_at hl 1 rfl) ?_
      refine ro_i (va_runV (As := [.int p1]) (rest := []) ⟨hx, hb, hml, hown, hts⟩ (s_X7_wide l dC dI cs L K G Q hQ x0 m0 tx tm H.size I J hI p0 hLp0 hKp0 p1 ⟨by omega, by omega⟩) (cwV 1 hts (gV pq1368 pq1370 pq32 pq81 pq1371) rfl rfl rfl (by decide +kernel) ⟨(by rw [hR]; exact (Nat.le_of_ble_eq_true rfl)), (by rw [hR]; exact (Nat.le_of_ble_eq_true rfl))⟩) (sP_V hP hD hK hN hLp0 hKp0 rfl rfl) rfl rfl hl.1 rfl (lv_room (Nat.le_of_ble_eq_true rfl)) dX7_mask_66 ⟨(by rw [hR]; exact (Nat.le_of_ble_eq_true rfl)), (by rw [hR]; exact (Nat.le_of_ble_eq_true rfl))⟩) hS hP (fun z66 H locs hz66 hP hS => ?_)
      obtain ⟨bz66, fez66⟩ := hz66
      subst hR; subst hQz
      exact W.iret (v := z66) hx hb hr (fun t ht hW => ⟨⟨z66, (), rfl, (fun σ ok h => by have q := xpz2.1 t5; rw [cm_0 h] at q; have o := ok.2.2.1 p1.toInt.toNat (by omega); have o1 := o.1; have o2 := o.2.1; have eW_ : (mW σ p1).toInt = (σ.1.1 (3 + p1.toInt.toNat)).toInt := rfl; have eH_ : (mH σ p1).toInt = (σ.1.1 (11 + p1.toInt.toNat)).toInt := rfl; have e11 := congrArg Int32.toInt ez11; (try rw [show (0 : Int32).toInt = 0 from by decide +kernel] at e11); exact ⟨fun _ => mk0 (by omega) (congrArg Int32.toInt ((show z66 = I (a0 Q p0 0) (3 + p1.toInt.toNat) from fez66).trans (cmA_n h (by omega)))), fun w => absurd q w⟩), ⟨I, J, ⟨hI, fr_I, kp0_11_I, dn_I, (fun σ A => cmA_fr hQ hLp0 hKp0 (fun _ _ => rfl) (fun _ _ => rfl) rfl A), dj_J⟩, by rw [ht]; exact hP⟩⟩, hS.F ht⟩) hS.2.2 dX7_mask_69
    · refine lv_tableIn (off := 59) (tgt := 70) hx hb dX7_mask_11 (by decide +kernel) (by decide +kernel) (by decide +kernel) (by decide) ?_
      have sv11 : p2.toInt = 1 := by rw [← ez11]; decide +kernel
      refine lv_aload_n hx hb dX7_mask_70 rfl (lv_at hl 0 rfl) ?_
      refine lv_iload_n hx hb dX7_mask_71 rfl (lv_at hl 1 rfl) ?_
      refine ro_i (va_runV (As := [.int p1]) (rest := []) ⟨hx, hb, hml, hown, hts⟩ (s_X7_high l dC dI cs L K G Q hQ x0 m0 tx tm H.size I J hI p0 hLp0 hKp0 p1 ⟨by omega, by omega⟩) (cwV 1 hts (gV pq1372 pq1374 pq33 pq81 pq1375) rfl rfl rfl (by decide +kernel) ⟨(by rw [hR]; exact (Nat.le_of_ble_eq_true rfl)), (by rw [hR]; exact (Nat.le_of_ble_eq_true rfl))⟩) (sP_V hP hD hK hN hLp0 hKp0 rfl rfl) rfl rfl hl.1 rfl (lv_room (Nat.le_of_ble_eq_true rfl)) dX7_mask_72 ⟨(by rw [hR]; exact (Nat.le_of_ble_eq_true rfl)), (by rw [hR]; exact (Nat.le_of_ble_eq_true rfl))⟩) hS hP (fun z72 H locs hz72 hP hS => ?_)
      obtain ⟨bz72, fez72⟩ := hz72
      subst hR; subst hQz
      exact W.iret (v := z72) hx hb hr (fun t ht hW => ⟨⟨z72, (), rfl, (fun σ ok h => by have q := xpz2.1 t5; rw [cm_0 h] at q; have o := ok.2.2.1 p1.toInt.toNat (by omega); have o1 := o.1; have o2 := o.2.1; have eW_ : (mW σ p1).toInt = (σ.1.1 (3 + p1.toInt.toNat)).toInt := rfl; have eH_ : (mH σ p1).toInt = (σ.1.1 (11 + p1.toInt.toNat)).toInt := rfl; have e11 := congrArg Int32.toInt ez11; (try rw [show (1 : Int32).toInt = 1 from by decide +kernel] at e11); exact ⟨fun _ => mk1 (by omega) (congrArg Int32.toInt ((show z72 = I (a0 Q p0 0) (11 + p1.toInt.toNat) from fez72).trans (cmA_n h (by omega)))), fun w => absurd q w⟩), ⟨I, J, ⟨hI, fr_I, kp0_11_I, dn_I, (fun σ A => cmA_fr hQ hLp0 hKp0 (fun _ _ => rfl) (fun _ _ => rfl) rfl A), dj_J⟩, by rw [ht]; exact hP⟩⟩, hS.F ht⟩) hS.2.2 dX7_mask_75
    · refine lv_tableIn (off := 65) (tgt := 76) hx hb dX7_mask_11 (by decide +kernel) (by decide +kernel) (by decide +kernel) (by decide) ?_
      have sv11 : p2.toInt = 2 := by rw [← ez11]; decide +kernel
      refine lv_aload_n hx hb dX7_mask_76 rfl (lv_at hl 0 rfl) ?_
      refine lv_iload_n hx hb dX7_mask_77 rfl (lv_at hl 1 rfl) ?_
      refine ro_i (va_runV (As := [.int p1]) (rest := []) ⟨hx, hb, hml, hown, hts⟩ (s_X7_dotsOf l dC dI cs L K G Q hQ x0 m0 tx tm H.size I J hI p0 hLp0 hKp0 p1 ⟨by omega, by omega⟩) (cwV 1 hts (gV pq1413 pq1415 pq39 pq81 pq1416) rfl rfl rfl (by decide +kernel) ⟨(by rw [hR]; exact (Nat.le_of_ble_eq_true rfl)), (by rw [hR]; exact (Nat.le_of_ble_eq_true rfl))⟩) (sP_V hP hD hK hN hLp0 hKp0 rfl rfl) rfl rfl hl.1 rfl (lv_room (Nat.le_of_ble_eq_true rfl)) dX7_mask_78 ⟨(by rw [hR]; exact (Nat.le_of_ble_eq_true rfl)), (by rw [hR]; exact (Nat.le_of_ble_eq_true rfl))⟩) hS hP (fun z78 H locs hz78 hP hS => ?_)
      obtain ⟨bz78, xpz78⟩ := hz78
      subst hR; subst hQz
      exact W.iret (v := z78) hx hb hr (fun t ht hW => ⟨⟨z78, (), rfl, (fun σ ok h => by have q := xpz2.1 t5; rw [cm_0 h] at q; have o := ok.2.2.1 p1.toInt.toNat (by omega); have o1 := o.1; have o2 := o.2.1; have eW_ : (mW σ p1).toInt = (σ.1.1 (3 + p1.toInt.toNat)).toInt := rfl; have eH_ : (mH σ p1).toInt = (σ.1.1 (11 + p1.toInt.toNat)).toInt := rfl; have e11 := congrArg Int32.toInt ez11; (try rw [show (2 : Int32).toInt = 2 from by decide +kernel] at e11); exact ⟨fun _ => mk2 (by omega) (by rw [xpz78, totr_congr (f := (rF Q J p0 p1.toInt.toNat)) (g := mF σ p1) (fun k hk => (cmA_rJ h) (80 * p1.toInt.toNat + k) (by omega))]), fun w => absurd q w⟩), ⟨I, J, ⟨hI, fr_I, kp0_11_I, dn_I, (fun σ A => cmA_fr hQ hLp0 hKp0 (fun _ _ => rfl) (fun _ _ => rfl) rfl A), dj_J⟩, by rw [ht]; exact hP⟩⟩, hS.F ht⟩) hS.2.2 dX7_mask_81
    · refine lv_tableIn (off := 71) (tgt := 82) hx hb dX7_mask_11 (by decide +kernel) (by decide +kernel) (by decide +kernel) (by decide) ?_
      have sv11 : p2.toInt = 3 := by rw [← ez11]; decide +kernel
      exact j82  _ _ _ ⟨by omega, by omega⟩ hP hS (lv_sub hl [0, 1, 2] rfl)
    · refine lv_tableIn (off := 71) (tgt := 82) hx hb dX7_mask_11 (by decide +kernel) (by decide +kernel) (by decide +kernel) (by decide) ?_
      have sv11 : p2.toInt = 4 := by rw [← ez11]; decide +kernel
      exact j82  _ _ _ ⟨by omega, by omega⟩ hP hS (lv_sub hl [0, 1, 2] rfl)
    · refine lv_tableIn (off := 71) (tgt := 82) hx hb dX7_mask_11 (by decide +kernel) (by decide +kernel) (by decide +kernel) (by decide) ?_
      have sv11 : p2.toInt = 5 := by rw [← ez11]; decide +kernel
      exact j82  _ _ _ ⟨by omega, by omega⟩ hP hS (lv_sub hl [0, 1, 2] rfl)
    · refine lv_tableIn (off := 71) (tgt := 82) hx hb dX7_mask_11 (by decide +kernel) (by decide +kernel) (by decide +kernel) (by decide) ?_
      have sv11 : p2.toInt = 6 := by rw [← ez11]; decide +kernel
      exact j82  _ _ _ ⟨by omega, by omega⟩ hP hS (lv_sub hl [0, 1, 2] rfl)
    · refine lv_tableIn (off := 93) (tgt := 104) hx hb dX7_mask_11 (by decide +kernel) (by decide +kernel) (by decide +kernel) (by decide) ?_
      have sv11 : p2.toInt = 7 := by rw [← ez11]; decide +kernel
      refine lv_aload_n hx hb dX7_mask_104 rfl (lv_at hl 0 rfl) ?_
      refine lv_iload_n hx hb dX7_mask_105 rfl (lv_at hl 1 rfl) ?_
      refine sw_i (Z := (fun I1 J1 => Iv L K x0 m0 tx tm I1 ∧ (∀ b, ¬ (K b = 7 ∨ K b = 11 ∨ K b = 27) → I1 b = I b) ∧ I1 p0 11 = I p0 11 ∧ (∀ b, K b = 0 ∨ K b = 1 ∨ K b = 3 ∨ K b = 6 → I1 b = I b) ∧ (∀ σ : Sx, cmA Q I J p0 σ → cmA Q I1 J1 p0 σ) ∧ J1 = J)) (va_runV (As := [.int p1]) (rest := []) ⟨hx, hb, hml, hown, hts⟩ (s_X7_islandsOf l dC dI cs L K G Q hQ x0 m0 tx tm H.size I J hI p0 hLp0 hKp0 p1 ⟨by omega, by omega⟩) (cwV 1 hts (gV pq1530 pq1532 pq56 pq81 pq1533) rfl rfl rfl (by decide +kernel) ⟨(by rw [hR]; exact (Nat.le_of_ble_eq_true rfl)), (by rw [hR]; exact (Nat.le_of_ble_eq_true rfl))⟩) (sP_V hP hD hK hN hLp0 hKp0 rfl rfl) rfl rfl hl.1 rfl (lv_room (Nat.le_of_ble_eq_true rfl)) dX7_mask_106 ⟨(by rw [hR]; exact (Nat.le_of_ble_eq_true rfl)), (by rw [hR]; exact (Nat.le_of_ble_eq_true rfl))⟩) hS hAL hA (fun z106 Iz106 Jz106 H locs hz106 hIz106 hP hS => ?_)
      obtain ⟨hIz106, frc106, kc106_0_11, dnc106, jz106, djc106⟩ := hIz106
      obtain rfl : J = Jz106 := djc106.symm
      have dn_Iz106 : (∀ b, K b = 0 ∨ K b = 1 ∨ K b = 3 ∨ K b = 6 → Iz106 b = I b) := fun b hc => (dnc106 b (by omega)).trans (dn_I b hc)
      have kp0_11_Iz106 : Iz106 p0 11 = I p0 11 := kc106_0_11.trans kp0_11_I
      have fr_Iz106 : ∀ b, ¬ (K b = 7 ∨ K b = 11 ∨ K b = 26 ∨ K b = 27) → Iz106 b = I b := fun b q => (frc106 b (fun z => q (by omega))).trans (fr_I b q)
      have xpz106 := hz106
      subst hR; subst hQz
      exact W.iret (v := z106) hx hb hr (fun t ht hW => ⟨⟨z106, (), rfl, (fun σ ok h => by have q := xpz2.1 t5; rw [cm_0 h] at q; have o := ok.2.2.1 p1.toInt.toNat (by omega); have o1 := o.1; have o2 := o.2.1; have eW_ : (mW σ p1).toInt = (σ.1.1 (3 + p1.toInt.toNat)).toInt := rfl; have eH_ : (mH σ p1).toInt = (σ.1.1 (11 + p1.toInt.toNat)).toInt := rfl; have e11 := congrArg Int32.toInt ez11; (try rw [show (7 : Int32).toInt = 7 from by decide +kernel] at e11); exact ⟨fun _ => mk7 (by omega) (xpz106 σ.1 ok (cmA_rI h) (cmA_rJ h) (show p1.toInt.toNat < _ by omega)), fun w => absurd q w⟩), ⟨Iz106, J, ⟨hIz106, fr_Iz106, kp0_11_Iz106, dn_Iz106, (fun σ A => cmA_fr hQ hLp0 hKp0 (fun b hb => fr_Iz106 b (by omega)) (fun _ _ => rfl) kp0_11_Iz106 A), dj_J⟩, by rw [ht]; exact hP⟩⟩, hS.F ht⟩) hS.2.2 dX7_mask_109
    · refine lv_tableIn (off := 99) (tgt := 110) hx hb dX7_mask_11 (by decide +kernel) (by decide +kernel) (by decide +kernel) (by decide) ?_
      have sv11 : p2.toInt = 8 := by rw [← ez11]; decide +kernel
      refine lv_aload_n hx hb dX7_mask_110 rfl (lv_at hl 0 rfl) ?_
      refine lv_iload_n hx hb dX7_mask_111 rfl (lv_at hl 1 rfl) ?_
      refine sw_i (Z := (fun I1 J1 => Iv L K x0 m0 tx tm I1 ∧ (∀ b, ¬ (K b = 7 ∨ K b = 11 ∨ K b = 27) → I1 b = I b) ∧ I1 p0 11 = I p0 11 ∧ (∀ b, K b = 0 ∨ K b = 1 ∨ K b = 3 ∨ K b = 6 → I1 b = I b) ∧ (∀ σ : Sx, cmA Q I J p0 σ → cmA Q I1 J1 p0 σ) ∧ J1 = J)) (va_runV (As := [.int p1]) (rest := []) ⟨hx, hb, hml, hown, hts⟩ (s_X7_holesOf l dC dI cs L K G Q hQ x0 m0 tx tm H.size I J hI p0 hLp0 hKp0 p1 ⟨by omega, by omega⟩) (cwV 1 hts (gV pq1542 pq1544 pq59 pq81 pq1545) rfl rfl rfl (by decide +kernel) ⟨(by rw [hR]; exact (Nat.le_of_ble_eq_true rfl)), (by rw [hR]; exact (Nat.le_of_ble_eq_true rfl))⟩) (sP_V hP hD hK hN hLp0 hKp0 rfl rfl) rfl rfl hl.1 rfl (lv_room (Nat.le_of_ble_eq_true rfl)) dX7_mask_112 ⟨(by rw [hR]; exact (Nat.le_of_ble_eq_true rfl)), (by rw [hR]; exact (Nat.le_of_ble_eq_true rfl))⟩) hS hAL hA (fun z112 Iz112 Jz112 H locs hz112 hIz112 hP hS => ?_)
      obtain ⟨hIz112, frc112, kc112_0_11, dnc112, jz112, djc112⟩ := hIz112
      obtain rfl : J = Jz112 := djc112.symm
      have dn_Iz112 : (∀ b, K b = 0 ∨ K b = 1 ∨ K b = 3 ∨ K b = 6 → Iz112 b = I b) := fun b hc => (dnc112 b (by omega)).trans (dn_I b hc)
      have kp0_11_Iz112 : Iz112 p0 11 = I p0 11 := kc112_0_11.trans kp0_11_I
      have fr_Iz112 : ∀ b, ¬ (K b = 7 ∨ K b = 11 ∨ K b = 26 ∨ K b = 27) → Iz112 b = I b := fun b q => (frc112 b (fun z => q (by omega))).trans (fr_I b q)
      have xpz112 := hz112
      subst hR; subst hQz
      exact W.iret (v := z112) hx hb hr (fun t ht hW => ⟨⟨z112, (), rfl, (fun σ ok h => by have q := xpz2.1 t5; rw [cm_0 h] at q; have o := ok.2.2.1 p1.toInt.toNat (by omega); have o1 := o.1; have o2 := o.2.1; have eW_ : (mW σ p1).toInt = (σ.1.1 (3 + p1.toInt.toNat)).toInt := rfl; have eH_ : (mH σ p1).toInt = (σ.1.1 (11 + p1.toInt.toNat)).toInt := rfl; have e11 := congrArg Int32.toInt ez11; (try rw [show (8 : Int32).toInt = 8 from by decide +kernel] at e11); exact ⟨fun _ => mk8 (by omega) (xpz112 σ.1 ok (cmA_rI h) (cmA_rJ h) (show p1.toInt.toNat < _ by omega)), fun w => absurd q w⟩), ⟨Iz112, J, ⟨hIz112, fr_Iz112, kp0_11_Iz112, dn_Iz112, (fun σ A => cmA_fr hQ hLp0 hKp0 (fun b hb => fr_Iz112 b (by omega)) (fun _ _ => rfl) kp0_11_Iz112 A), dj_J⟩, by rw [ht]; exact hP⟩⟩, hS.F ht⟩) hS.2.2 dX7_mask_115
    · refine lv_tableIn (off := 105) (tgt := 116) hx hb dX7_mask_11 (by decide +kernel) (by decide +kernel) (by decide +kernel) (by decide) ?_
      have sv11 : p2.toInt = 9 := by rw [← ez11]; decide +kernel
      refine lv_aload_n hx hb dX7_mask_116 rfl (lv_at hl 0 rfl) ?_
      refine lv_iload_n hx hb dX7_mask_117 rfl (lv_at hl 1 rfl) ?_
      refine ro_i (va_runV (As := [.int p1]) (rest := []) ⟨hx, hb, hml, hown, hts⟩ (s_X7_edgeOf l dC dI cs L K G Q hQ x0 m0 tx tm H.size I J hI p0 hLp0 hKp0 p1 ⟨by omega, by omega⟩) (cwV 1 hts (gV pq1550 pq1552 pq61 pq81 pq1553) rfl rfl rfl (by decide +kernel) ⟨(by rw [hR]; exact (Nat.le_of_ble_eq_true rfl)), (by rw [hR]; exact (Nat.le_of_ble_eq_true rfl))⟩) (sP_V hP hD hK hN hLp0 hKp0 rfl rfl) rfl rfl hl.1 rfl (lv_room (Nat.le_of_ble_eq_true rfl)) dX7_mask_118 ⟨(by rw [hR]; exact (Nat.le_of_ble_eq_true rfl)), (by rw [hR]; exact (Nat.le_of_ble_eq_true rfl))⟩) hS hP (fun z118 H locs hz118 hP hS => ?_)
      have xpz118 := hz118
      subst hR; subst hQz
      exact W.iret (v := z118) hx hb hr (fun t ht hW => ⟨⟨z118, (), rfl, (fun σ ok h => by have q := xpz2.1 t5; rw [cm_0 h] at q; have o := ok.2.2.1 p1.toInt.toNat (by omega); have o1 := o.1; have o2 := o.2.1; have eW_ : (mW σ p1).toInt = (σ.1.1 (3 + p1.toInt.toNat)).toInt := rfl; have eH_ : (mH σ p1).toInt = (σ.1.1 (11 + p1.toInt.toNat)).toInt := rfl; have e11 := congrArg Int32.toInt ez11; (try rw [show (9 : Int32).toInt = 9 from by decide +kernel] at e11); exact ⟨fun _ => mk9 (by omega) (xpz118 σ.1 ok (cmA_rI h) (cmA_rJ h) (show p1.toInt.toNat < _ by omega)), fun w => absurd q w⟩), ⟨I, J, ⟨hI, fr_I, kp0_11_I, dn_I, (fun σ A => cmA_fr hQ hLp0 hKp0 (fun _ _ => rfl) (fun _ _ => rfl) rfl A), dj_J⟩, by rw [ht]; exact hP⟩⟩, hS.F ht⟩) hS.2.2 dX7_mask_121
    · refine lv_tableOut (tgt := 122) hx hb dX7_mask_11 hsw11 (by decide) ?_
      refine lv_iconst (v := (-1)) hx hb dX7_mask_122 (by decide +kernel) ?_
      subst hR; subst hQz
      exact W.iret (v := (-1)) hx hb hr (fun t ht hW => ⟨⟨(-1), (), rfl, (fun σ ok h => by refine ⟨fun w => ?_, fun _ => by decide +kernel⟩; first | (exfalso; exact xpz2.2 t5 (by rw [cm_0 h]; exact w)) | (have e11 := congrArg Int32.toInt ez11; exact mkout (by omega) (by decide +kernel))), ⟨I, J, ⟨hI, fr_I, kp0_11_I, dn_I, (fun σ A => cmA_fr hQ hLp0 hKp0 (fun _ _ => rfl) (fun _ _ => rfl) rfl A), dj_J⟩, by rw [ht]; exact hP⟩⟩, hS.F ht⟩) hS.2.2 dX7_mask_123
  · have t5 := tq_eq (k := z2.toInt) (q := (0)) c5 rfl (by decide +kernel)
    refine lv_iconst (v := (-1)) hx hb dX7_mask_8 (by decide +kernel) ?_
    subst hR; subst hQz
    exact W.iret (v := (-1)) hx hb hr (fun t ht hW => ⟨⟨(-1), (), rfl, (fun σ ok h => by refine ⟨fun w => ?_, fun _ => by decide +kernel⟩; first | (exfalso; exact xpz2.2 t5 (by rw [cm_0 h]; exact w)) | (have e11 := congrArg Int32.toInt ez11; exact mkout (by omega) (by decide +kernel))), ⟨I, J, ⟨hI, fr_I, kp0_11_I, dn_I, (fun σ A => cmA_fr hQ hLp0 hKp0 (fun _ _ => rfl) (fun _ _ => rfl) rfl A), dj_J⟩, by rw [ht]; exact hP⟩⟩, hS.F ht⟩) hS.2.2 dX7_mask_9

set_option maxHeartbeats 4000000 in
set_option maxRecDepth 100000 in
theorem s_X7_island (l : Launch) (dC : Nat → ClassId) (dI : Nat → Nat → Nat) (cs : Nat → ClassId) (L : List Nat) (K G : Nat → Nat) (Q : Nat → Nat → Option Nat) (hQ : Sv L K G Q) (x0 m0 : Nat) (tx : GT) (tm : GT × Int) (sz : Nat) (I : Nat → Nat → Int32) (J : Nat → Nat → Int64) (hI : Iv L K x0 m0 tx tm I) (p0 : Nat) (hLp0 : p0 ∈ L) (hKp0 : K p0 = 7) (p1 : Int32) (p2 : Int32) (p3 : Int32) : Met l yX7_island (.code yX7_island cX7_island 11 (some .int) :: pw) ({ frames := 4, cells := 0, slots := 0, locals := 99 }) (sP (dC, dI) cs [.ref p0, .int p1, .int p2, .int p3] sz L K I J Q) (va_Qi (fun (r : Int32) (_ : Unit) => (∀ σ : Sx, okF σ.1 → cmA Q I J p0 σ → ilR σ p1 p2 p3 r)) (fun _ t => sB (dC, dI) cs L K Q (fun I1 J1 => Iv L K x0 m0 tx tm I1 ∧ (∀ b, ¬ (K b = 7 ∨ K b = 11 ∨ K b = 27) → I1 b = I b) ∧ I1 p0 11 = I p0 11 ∧ (∀ b, K b = 0 ∨ K b = 1 ∨ K b = 3 ∨ K b = 6 → I1 b = I b) ∧ (∀ σ : Sx, cmA Q I J p0 σ → cmA Q I1 J1 p0 σ) ∧ J1 = J) t) (fun q => q ∈ L ∨ sz ≤ q)) 0 0 (fun q => q ∈ L ∨ sz ≤ q) := by
  refine Met.ofW (cc := cX7_island) (maxL := 11) (ret := (some .int)) (by decide +kernel) rfl ?_
  intro p e s m args below meth c s₁ B hml hv
  obtain ⟨rfl, hsz, hP, hK, hD0, hN⟩ := hv
  have hx := B.exec
  have hb := B.bytes
  have hr := B.returns
  have hts := fun w (h : w ∈ pw) => atoms_spec (ws := Cond.code yX7_island cX7_island 11 (some .int) :: pw) B.pre w (List.mem_cons_of_mem _ h)
  have hown : s.vm.findClass RX7 = some m.cls := findClass_of_methodNamed B.named
  have hlocks := B.notSynchronized
  subst hsz
  have hBB : 999 ≤ tm.2 ∧ tm.2 ≤ 6000000 := hI.2.2.2.2.1
  have dn_I : (∀ b, K b = 0 ∨ K b = 1 ∨ K b = 3 ∨ K b = 6 → I b = I b) := fun _ _ => rfl
  have dj_J : J = J := rfl
  have kp0_11_I : I p0 11 = I p0 11 := rfl
  have fr_I : ∀ b, ¬ (K b = 7 ∨ K b = 11 ∨ K b = 27) → I b = I b := fun _ _ => rfl
  obtain ⟨A, hAe⟩ : ∃ A : Nat → Prop, A = (fun q => q ∈ L ∨ s.heap.size ≤ q) := ⟨_, rfl⟩
  rw [← hAe]
  have hAL : ∀ q, q ∈ L → A q := fun q h => by rw [hAe]; exact Or.inl h
  have hA : ∀ q, s.heap.size ≤ q → A q := fun q h => by rw [hAe]; exact Or.inr h
  have hD : ∀ F, va_D A (va_pl L F) := fun F => (hD0 F).weaken (fun k q hk _ => hAL _ (pl_mem hk))
  obtain ⟨H, hHe⟩ : ∃ H : Heap, H = s.heap := ⟨_, rfl⟩
  have hS : va_S A s.heap H [] := by rw [hHe]; exact va_S.rf
  rw [← hHe] at hP
  have hl := lv_entry ([.ref p0, .int p1, .int p2, .int p3]) (n := 11) (Nat.le_of_ble_eq_true rfl)
  rw [lg_entry_eq]
  generalize (lg_sl ([.ref p0, .int p1, .int p2, .int p3]) ++ List.replicate (11 - (lg_sl ([.ref p0, .int p1, .int p2, .int p3])).length) Slot.unset).toArray = ls at hl ⊢
  have hl : lv_has ls 11 [(0, .ref p0), (1, .int p1), (2, .int p2), (3, .int p3)] := hl
  rw [← hHe]
  refine namedW (fun R Qz hR hQz => ?_)
  refine lv_aload_n hx hb dX7_island_0 rfl (lv_at hl 0 rfl) ?_
  refine lv_iload_n hx hb dX7_island_1 rfl (lv_at hl 1 rfl) ?_
  refine ro_i (va_runV (As := [.int p1]) (rest := []) ⟨hx, hb, hml, hown, hts⟩ (s_X7_isMask l dC dI cs L K G Q hQ x0 m0 tx tm H.size I J hI p0 hLp0 hKp0 p1) (cwV 1 hts (gV pq1364 pq1366 pq31 pq81 pq1367) rfl rfl rfl (by decide +kernel) ⟨(by rw [hR]; exact (Nat.le_of_ble_eq_true rfl)), (by rw [hR]; exact (Nat.le_of_ble_eq_true rfl))⟩) (sP_V hP hD hK hN hLp0 hKp0 rfl rfl) rfl rfl hl.1 rfl (lv_room (Nat.le_of_ble_eq_true rfl)) dX7_island_2 ⟨(by rw [hR]; exact (Nat.le_of_ble_eq_true rfl)), (by rw [hR]; exact (Nat.le_of_ble_eq_true rfl))⟩) hS hP (fun z2 H locs hz2 hP hS => ?_)
  obtain ⟨bz2, imz2, xpz2⟩ := hz2
  refine lv_if_ne (tgt := 10) hx hb dX7_island_5 (by decide) (fun c5 => ?_) (fun c5 => ?_)
  · have t5 := tq_ne (k := z2.toInt) (q := (0)) c5 rfl (by decide +kernel)
    have i5 := imz2 t5
    refine lv_aload_n hx hb dX7_island_10 rfl (lv_at hl 0 rfl) ?_
    refine lv_iload_n hx hb dX7_island_11 rfl (lv_at hl 1 rfl) ?_
    refine lv_iconst (v := 1) hx hb dX7_island_12 (by decide +kernel) ?_
    refine sw_v (Z := (fun I1 J1 => Iv L K x0 m0 tx tm I1 ∧ (∀ b, ¬ (K b = 7 ∨ K b = 11 ∨ K b = 27) → I1 b = I b) ∧ I1 p0 11 = I p0 11 ∧ ((0 ≤ (I1 p0 23).toInt ∧ (I1 p0 23).toInt ≤ 4000 ∧ (0 < (I1 p0 23).toInt → 1 ≤ (I ((Q p0 0).getD 0) (3 + p1.toInt.toNat)).toInt ∧ 1 ≤ (I ((Q p0 0).getD 0) (11 + p1.toInt.toNat)).toInt))) ∧ (∀ b, K b = 0 ∨ K b = 1 ∨ K b = 3 ∨ K b = 6 → I1 b = I b) ∧ (∀ c : Fx, okF c → rI Q I p0 c → rJ Q J p0 c → p1.toInt.toNat < (c.1 0).toInt.toNat → lyR (I1 (a0 Q p0 21)) (I1 p0 23) (dsD (c.1 (3 + p1.toInt.toNat)).toInt (c.1 (11 + p1.toInt.toNat)).toInt (mo c.2 p1.toInt.toNat) (1 : Int32).toInt)) ∧ J1 = J)) (va_runV (As := [.int p1, .int 1]) (rest := []) ⟨hx, hb, hml, hown, hts⟩ (s_X7_laysIslands l dC dI cs L K G Q hQ x0 m0 tx tm H.size I J hI p0 hLp0 hKp0 p1 ⟨by omega, by omega⟩ 1) (cwV 2 hts (gV pq1534 pq1536 pq57 pq81 pq1537) rfl rfl rfl (by decide +kernel) ⟨(by rw [hR]; exact (Nat.le_of_ble_eq_true rfl)), (by rw [hR]; exact (Nat.le_of_ble_eq_true rfl))⟩) (sP_V hP hD hK hN hLp0 hKp0 rfl rfl) rfl rfl hl.1 rfl (lv_room (Nat.le_of_ble_eq_true rfl)) dX7_island_13 ⟨(by rw [hR]; exact (Nat.le_of_ble_eq_true rfl)), (by rw [hR]; exact (Nat.le_of_ble_eq_true rfl))⟩) hS hAL hA (fun Iz13 Jz13 H locs hz13 hIz13 hP hS => ?_)
    obtain ⟨hIz13, frc13, kc13_0_11, zp13, dnc13, jz13, djc13⟩ := hIz13
    obtain rfl : J = Jz13 := djc13.symm
    have dn_Iz13 : (∀ b, K b = 0 ∨ K b = 1 ∨ K b = 3 ∨ K b = 6 → Iz13 b = I b) := fun b hc => (dnc13 b (by omega)).trans (dn_I b hc)
    have kp0_11_Iz13 : Iz13 p0 11 = I p0 11 := kc13_0_11.trans kp0_11_I
    have fr_Iz13 : ∀ b, ¬ (K b = 7 ∨ K b = 11 ∨ K b = 27) → Iz13 b = I b := fun b q => (frc13 b (fun z => q (by omega))).trans (fr_I b q)
    refine lv_iload_n hx hb dX7_island_16 rfl (lv_at hl 2 rfl) ?_
    refine lv_iconst (v := (-1)) hx hb dX7_island_17 (by decide +kernel) ?_
    refine lv_icmp_ne (tgt := 34) hx hb dX7_island_18 (by decide) (fun c18 => ?_) (fun c18 => ?_)
    · have t18 := tq_ne (k := p2.toInt) (q := (-1)) c18 rfl (by decide +kernel)
      refine lv_iload_n hx hb dX7_island_34 rfl (lv_at hl 2 rfl) ?_
      refine lv_i2l hx hb dX7_island_35 rfl ?_
      refine lv_topl (fun z35 ez35 => ?_)
      have bz35 := tq_i2l (k := p2.toInt) ez35 rfl
      refine lv_lconst (v := 0) hx hb dX7_island_36 (by decide +kernel) ?_
      refine lv_aload_n hx hb dX7_island_37 rfl (lv_at hl 0 rfl) ?_
      refine p_get hx hb hts inX7 hown hK hP hLp0 hKp0 rfl rfl 23 (by decide) (hts _ pq1138) rfl dX7_island_38 ?_
      refine lv_topi (fun z38 ez38 => ?_)
      have cgz38 := congrArg Int32.toInt ez38
      refine lv_iconst (v := 1) hx hb dX7_island_41 (by decide +kernel) ?_
      refine lv_isub hx hb dX7_island_42 ?_
      refine lv_topi (fun z42 ez42 => ?_)
      refine lv_i2l hx hb dX7_island_43 rfl ?_
      refine lv_topl (fun z43 ez43 => ?_)
      have bz43 := tq_i2l (k := z42.toInt) ez43 rfl
      refine ro_i (va_runS (As := [.long z35, .long 0, .long z43]) (rest := []) ⟨hx, hb, hml, hown, hts⟩ (s_X7_in l dC dI cs L K Q H.size Iz13 J z35 0 z43) (va_cwS 3 hts (gS pq1234 pq1235 pq81 pq1236) rfl rfl rfl (by decide +kernel) ⟨(by rw [hR]; exact (Nat.le_of_ble_eq_true rfl)), (by rw [hR]; exact (Nat.le_of_ble_eq_true rfl))⟩) (sP_S hP hD hK hN) rfl rfl hl.1 rfl (lv_room (Nat.le_of_ble_eq_true rfl)) dX7_island_44 ⟨(by rw [hR]; exact (Nat.le_of_ble_eq_true rfl)), (by rw [hR]; exact (Nat.le_of_ble_eq_true rfl))⟩) hS hP (fun z44 H locs hz44 hP hS => ?_)
      have csl44_0 : (0 : Int64).toInt = 0 := by decide +kernel
      obtain ⟨bz44, imz44, xpz44⟩ := hz44
      refine lv_if_eq (tgt := 62) hx hb dX7_island_47 (by decide) (fun c47 => ?_) (fun c47 => ?_)
      · have t47 := tq_eq (k := z44.toInt) (q := (0)) c47 rfl (by decide +kernel)
        refine lv_iconst (v := (-1)) hx hb dX7_island_62 (by decide +kernel) ?_
        subst hR; subst hQz
        exact W.iret (v := (-1)) hx hb hr (fun t ht hW => ⟨⟨(-1), (), rfl, (fun σ ok h => by refine ⟨fun w => ?_, fun _ => by decide +kernel⟩; have w2 := w.2; first | (exfalso; exact xpz2.2 t5 (by rw [cm_0 h]; exact w.1)) | (have n22 := t22; have q := xpz2.1 t5; rw [cm_0 h] at q; have o := ok.2.2.1 p1.toInt.toNat (by omega); have o1 := o.1; have o2 := o.2.1; have eW_ : (mW σ p1).toInt = (σ.1.1 (3 + p1.toInt.toNat)).toInt := rfl; have eH_ : (mH σ p1).toInt = (σ.1.1 (11 + p1.toInt.toNat)).toInt := rfl; have L := jz13 σ.1 ok (cmA_rI h) (cmA_rJ h) (show p1.toInt.toNat < _ by omega); rw [show (1 : Int32).toInt = 1 from by decide +kernel, dsD_1 o.2.2] at L; have rg : rgD (md (mF σ p1)) := (fun X Y k => md_R (f := mF σ p1) o (X, Y) k); exact ⟨⟨fun _ => by unfold ilN; rw [if_neg t22]; decide +kernel, fun a => absurd a (by omega), fun a => absurd a (by omega)⟩, o⟩) | (exfalso; exact xpz56 t59 ⟨by omega, by omega⟩) | (have q := xpz2.1 t5; rw [cm_0 h] at q; have o := ok.2.2.1 p1.toInt.toNat (by omega); have o1 := o.1; have o2 := o.2.1; have eW_ : (mW σ p1).toInt = (σ.1.1 (3 + p1.toInt.toNat)).toInt := rfl; have eH_ : (mH σ p1).toInt = (σ.1.1 (11 + p1.toInt.toNat)).toInt := rfl; have L := jz13 σ.1 ok (cmA_rI h) (cmA_rJ h) (show p1.toInt.toNat < _ by omega); rw [show (1 : Int32).toInt = 1 from by decide +kernel, dsD_1 o.2.2] at L; have rg : rgD (md (mF σ p1)) := (fun X Y k => md_R (f := mF σ p1) o (X, Y) k); have e38 : z38.toInt = isT (B2P (md (mF σ p1))) := (congrArg Int32.toInt ez38).trans L.1; have tb := isN_b (B2P (md (mF σ p1))) 40 0; have tb2 : isT (B2P (md (mF σ p1))) = isN (B2P (md (mF σ p1))) 40 0 := rfl; have a42 := tq_sub (k := z38.toInt) (q := 1) ez42 rfl (by decide +kernel) (by omega) (by omega); exact ⟨⟨fun a => absurd a t18, fun _ _ => by decide +kernel, fun a b => absurd ⟨by omega, by omega⟩ (xpz44 t47)⟩, o⟩)), ⟨Iz13, J, ⟨hIz13, fr_Iz13, kp0_11_Iz13, dn_Iz13, (fun σ A => cmA_fr hQ hLp0 hKp0 (fun b hb => fr_Iz13 b (by omega)) (fun _ _ => rfl) kp0_11_Iz13 A), dj_J⟩, by rw [ht]; exact hP⟩⟩, hS.F ht⟩) hS.2.2 dX7_island_63
      · have t47 := tq_ne (k := z44.toInt) (q := (0)) c47 rfl (by decide +kernel)
        have i47 := imz44 t47
        refine lv_iload_n hx hb dX7_island_50 rfl (lv_at hl 3 rfl) ?_
        refine lv_i2l hx hb dX7_island_51 rfl ?_
        refine lv_topl (fun z51 ez51 => ?_)
        have bz51 := tq_i2l (k := p3.toInt) ez51 rfl
        refine lv_lconst (v := 0) hx hb dX7_island_52 (by decide +kernel) ?_
        refine lv_ldc2 hx hb hown (hts _ pq1657) dX7_island_53 ?_
        refine ro_i (va_runS (As := [.long z51, .long 0, .long 4]) (rest := []) ⟨hx, hb, hml, hown, hts⟩ (s_X7_in l dC dI cs L K Q H.size Iz13 J z51 0 4) (va_cwS 3 hts (gS pq1234 pq1235 pq81 pq1236) rfl rfl rfl (by decide +kernel) ⟨(by rw [hR]; exact (Nat.le_of_ble_eq_true rfl)), (by rw [hR]; exact (Nat.le_of_ble_eq_true rfl))⟩) (sP_S hP hD hK hN) rfl rfl hl.1 rfl (lv_room (Nat.le_of_ble_eq_true rfl)) dX7_island_56 ⟨(by rw [hR]; exact (Nat.le_of_ble_eq_true rfl)), (by rw [hR]; exact (Nat.le_of_ble_eq_true rfl))⟩) hS hP (fun z56 H locs hz56 hP hS => ?_)
        have csl56_0 : (0 : Int64).toInt = 0 := by decide +kernel
        have csl56_4 : (4 : Int64).toInt = 4 := by decide +kernel
        obtain ⟨bz56, imz56, xpz56⟩ := hz56
        refine lv_if_ne (tgt := 64) hx hb dX7_island_59 (by decide) (fun c59 => ?_) (fun c59 => ?_)
        · have t59 := tq_ne (k := z56.toInt) (q := (0)) c59 rfl (by decide +kernel)
          have i59 := imz56 t59
          refine lv_iconst (v := 0) hx hb dX7_island_64 (by decide +kernel) ?_
          refine lv_istore (lv' := [(4, .int 0), (0, .ref p0), (1, .int p1), (2, .int p2), (3, .int p3)]) hx hb dX7_island_65 hl (by decide) rfl (fun ls hl => ?_)
          refine lv_bipush (v := 100) hx hb dX7_island_67 (by decide +kernel) ?_
          refine lv_istore (lv' := [(5, .int 100), (4, .int 0), (0, .ref p0), (1, .int p1), (2, .int p2), (3, .int p3)]) hx hb dX7_island_69 hl (by decide) rfl (fun ls hl => ?_)
          refine lv_bipush (v := 40) hx hb dX7_island_71 (by decide +kernel) ?_
          refine lv_istore (lv' := [(6, .int 40), (5, .int 100), (4, .int 0), (0, .ref p0), (1, .int p1), (2, .int p2), (3, .int p3)]) hx hb dX7_island_73 hl (by decide) rfl (fun ls hl => ?_)
          refine lv_iconst (v := 0) hx hb dX7_island_75 (by decide +kernel) ?_
          refine lv_istore (lv' := [(7, .int 0), (6, .int 40), (5, .int 100), (4, .int 0), (0, .ref p0), (1, .int p1), (2, .int p2), (3, .int p3)]) hx hb dX7_island_76 hl (by decide) rfl (fun ls hl => ?_)
          refine lv_iconst (v := 0) hx hb dX7_island_78 (by decide +kernel) ?_
          refine lv_istore (lv' := [(8, .int 0), (7, .int 0), (6, .int 40), (5, .int 100), (4, .int 0), (0, .ref p0), (1, .int p1), (2, .int p2), (3, .int p3)]) hx hb dX7_island_79 hl (by decide) rfl (fun ls hl => ?_)
          refine lv_iconst (v := 0) hx hb dX7_island_81 (by decide +kernel) ?_
          refine lv_istore (lv' := [(9, .int 0), (8, .int 0), (7, .int 0), (6, .int 40), (5, .int 100), (4, .int 0), (0, .ref p0), (1, .int p1), (2, .int p2), (3, .int p3)]) hx hb dX7_island_82 hl (by decide) rfl (fun ls hl => ?_)
          have key84 := blocks (fun n => ∀ (v84_4 : Int32) (v84_5 : Int32) (v84_6 : Int32) (v84_7 : Int32) (v84_8 : Int32) (v84_9 : Int32) (H : Heap) (lo : List Loc) (ls : Array Slot), (41 - v84_9.toInt).toNat = n → ((0) ≤ v84_5.toInt ∧ v84_5.toInt ≤ 100) → ((0) ≤ v84_6.toInt ∧ v84_6.toInt ≤ 40) → ((0) ≤ v84_7.toInt ∧ v84_7.toInt ≤ 99) → ((0) ≤ v84_8.toInt ∧ v84_8.toInt ≤ 39) → ((0) ≤ v84_9.toInt ∧ v84_9.toInt ≤ 40) → (∀ σ : Sx, okF σ.1 → cmA Q I J p0 σ → ∀ p : Int × Int, fstP (B2P (md (mF σ p1))) p → isN (B2P (md (mF σ p1))) p.2 p.1 = p2.toInt → exI (cpB (B2P (md (mF σ p1))) p) v84_9.toInt 0 v84_4.toInt v84_5.toInt v84_6.toInt v84_7.toInt v84_8.toInt) → va_P (dC, dI) vwCl (Wd cs L K Iz13 J Q) H → va_S A s.heap H lo → lv_has ls 11 [(0, .ref p0), (1, .int p1), (2, .int p2), (3, .int p3), (4, .int v84_4), (5, .int v84_5), (6, .int v84_6), (7, .int v84_7), (8, .int v84_8), (9, .int v84_9)] → W p l e R s m (([.ref p0, .int p1, .int p2, .int p3] : List Value).toArray) below meth c H lo 0 0 Qz (F0 m 84 ls [])) (by
            intro n ih84
            intro v84_4 v84_5 v84_6 v84_7 v84_8 v84_9 H lo ls hmu84 bv84_5 bv84_6 bv84_7 bv84_8 bv84_9 g84 hP hS hl
            refine lv_iload hx hb dX7_island_84 (lv_at hl 9 rfl) ?_
            refine lv_aload_n hx hb dX7_island_86 rfl (lv_at hl 0 rfl) ?_
            refine lv_iload_n hx hb dX7_island_87 rfl (lv_at hl 1 rfl) ?_
            refine ro_i (va_runV (As := [.int p1]) (rest := [.int v84_9]) ⟨hx, hb, hml, hown, hts⟩ (s_X7_high l dC dI cs L K G Q hQ x0 m0 tx tm H.size Iz13 J hIz13 p0 hLp0 hKp0 p1 ⟨by omega, by omega⟩) (cwV 1 hts (gV pq1372 pq1374 pq33 pq81 pq1375) rfl rfl rfl (by decide +kernel) ⟨(by rw [hR]; exact (Nat.le_of_ble_eq_true rfl)), (by rw [hR]; exact (Nat.le_of_ble_eq_true rfl))⟩) (sP_V hP hD hK hN hLp0 hKp0 rfl rfl) rfl rfl hl.1 rfl (lv_room (Nat.le_of_ble_eq_true rfl)) dX7_island_88 ⟨(by rw [hR]; exact (Nat.le_of_ble_eq_true rfl)), (by rw [hR]; exact (Nat.le_of_ble_eq_true rfl))⟩) hS hP (fun z88 H locs hz88 hP hS => ?_)
            obtain ⟨bz88, fez88⟩ := hz88
            refine lv_icmp_ge (tgt := 178) hx hb dX7_island_91 (by decide) (fun c91 => ?_) (fun c91 => ?_)
            · have t91 := tq_le (k := z88.toInt) (q := v84_9.toInt) c91 rfl rfl
              refine lv_iload_n hx hb dX7_island_178 rfl (lv_at hl 3 rfl) ?_
              refine lv_if_ne (tgt := 187) hx hb dX7_island_179 (by decide) (fun c179 => ?_) (fun c179 => ?_)
              · have t179 := tq_ne (k := p3.toInt) (q := (0)) c179 rfl (by decide +kernel)
                refine lv_iload_n hx hb dX7_island_187 rfl (lv_at hl 3 rfl) ?_
                refine lv_iconst (v := 1) hx hb dX7_island_188 (by decide +kernel) ?_
                refine lv_icmp_ne (tgt := 197) hx hb dX7_island_189 (by decide) (fun c189 => ?_) (fun c189 => ?_)
                · have t189 := tq_ne (k := p3.toInt) (q := (1)) c189 rfl (by decide +kernel)
                  refine lv_iload_n hx hb dX7_island_197 rfl (lv_at hl 3 rfl) ?_
                  refine lv_iconst (v := 2) hx hb dX7_island_198 (by decide +kernel) ?_
                  refine lv_icmp_ne (tgt := 207) hx hb dX7_island_199 (by decide) (fun c199 => ?_) (fun c199 => ?_)
                  · have t199 := tq_ne (k := p3.toInt) (q := (2)) c199 rfl (by decide +kernel)
                    refine lv_iload_n hx hb dX7_island_207 rfl (lv_at hl 3 rfl) ?_
                    refine lv_iconst (v := 3) hx hb dX7_island_208 (by decide +kernel) ?_
                    refine lv_icmp_ne (tgt := 217) hx hb dX7_island_209 (by decide) (fun c209 => ?_) (fun c209 => ?_)
                    · have t209 := tq_ne (k := p3.toInt) (q := (3)) c209 rfl (by decide +kernel)
                      refine lv_iload hx hb dX7_island_217 (lv_at hl 8 rfl) ?_
                      subst hR; subst hQz
                      exact W.iret (v := v84_8) hx hb hr (fun t ht hW => ⟨⟨v84_8, (), rfl, (fun σ ok h => by have q := xpz2.1 t5; rw [cm_0 h] at q; have o := ok.2.2.1 p1.toInt.toNat (by omega); have o1 := o.1; have o2 := o.2.1; have eW_ : (mW σ p1).toInt = (σ.1.1 (3 + p1.toInt.toNat)).toInt := rfl; have eH_ : (mH σ p1).toInt = (σ.1.1 (11 + p1.toInt.toNat)).toInt := rfl; have L := jz13 σ.1 ok (cmA_rI h) (cmA_rJ h) (show p1.toInt.toNat < _ by omega); rw [show (1 : Int32).toInt = 1 from by decide +kernel, dsD_1 o.2.2] at L; have rg : rgD (md (mF σ p1)) := (fun X Y k => md_R (f := mF σ p1) o (X, Y) k); have h13 := cmA_fr (I1 := Iz13) (J1 := J) hQ hLp0 hKp0 (fun b hb => fr_Iz13 b (by omega)) (fun _ _ => rfl) kp0_11_Iz13 h; have e88 : z88.toInt = (σ.1.1 (11 + p1.toInt.toNat)).toInt := congrArg Int32.toInt ((show z88 = Iz13 (a0 Q p0 0) (11 + p1.toInt.toNat) from fez88).trans (cmA_n h13 (by omega))); have e38 : z38.toInt = isT (B2P (md (mF σ p1))) := (congrArg Int32.toInt ez38).trans L.1; have tb := isN_b (B2P (md (mF σ p1))) 40 0; have tb2 : isT (B2P (md (mF σ p1))) = isN (B2P (md (mF σ p1))) 40 0 := rfl; have a42 := tq_sub (k := z38.toInt) (q := 1) ez42 rfl (by decide +kernel) (by omega) (by omega); have k0 : 0 ≤ p2.toInt ∧ p2.toInt < isT (B2P (md (mF σ p1))) := ⟨by omega, by omega⟩; obtain ⟨p, fp, ip⟩ := ly_ex rg k0.1 k0.2; have E := exI_end (g84 σ ok h p fp ip) (fun X Y => ah_hi (fun a b k => by have := md_b o.2.2 _ _ (cpB_t.mp k).1; omega) X Y) ⟨p.1, p.2, cpB_t.mpr ⟨fp.1, con_refl p⟩⟩; exact ⟨fun _ => ⟨⟨fun a => absurd a t18, fun a b => absurd b (by omega), fun _ _ => ⟨p, _, fp, ip, E.2, by unfold ilA; rw [if_neg (by omega), if_neg (by omega), if_neg (by omega), if_neg (by omega)]; (try rfl)⟩⟩, o⟩, fun n => absurd ⟨q, by omega, by omega, by omega⟩ n⟩), ⟨Iz13, J, ⟨hIz13, fr_Iz13, kp0_11_Iz13, dn_Iz13, (fun σ A => cmA_fr hQ hLp0 hKp0 (fun b hb => fr_Iz13 b (by omega)) (fun _ _ => rfl) kp0_11_Iz13 A), dj_J⟩, by rw [ht]; exact hP⟩⟩, hS.F ht⟩) hS.2.2 dX7_island_219
                    · have t209 := tq_eq (k := p3.toInt) (q := (3)) c209 rfl (by decide +kernel)
                      refine lv_iload hx hb dX7_island_212 (lv_at hl 7 rfl) ?_
                      refine lv_goto (tgt := 219) hx hb dX7_island_214 (by decide) ?_
                      subst hR; subst hQz
                      exact W.iret (v := v84_7) hx hb hr (fun t ht hW => ⟨⟨v84_7, (), rfl, (fun σ ok h => by have q := xpz2.1 t5; rw [cm_0 h] at q; have o := ok.2.2.1 p1.toInt.toNat (by omega); have o1 := o.1; have o2 := o.2.1; have eW_ : (mW σ p1).toInt = (σ.1.1 (3 + p1.toInt.toNat)).toInt := rfl; have eH_ : (mH σ p1).toInt = (σ.1.1 (11 + p1.toInt.toNat)).toInt := rfl; have L := jz13 σ.1 ok (cmA_rI h) (cmA_rJ h) (show p1.toInt.toNat < _ by omega); rw [show (1 : Int32).toInt = 1 from by decide +kernel, dsD_1 o.2.2] at L; have rg : rgD (md (mF σ p1)) := (fun X Y k => md_R (f := mF σ p1) o (X, Y) k); have h13 := cmA_fr (I1 := Iz13) (J1 := J) hQ hLp0 hKp0 (fun b hb => fr_Iz13 b (by omega)) (fun _ _ => rfl) kp0_11_Iz13 h; have e88 : z88.toInt = (σ.1.1 (11 + p1.toInt.toNat)).toInt := congrArg Int32.toInt ((show z88 = Iz13 (a0 Q p0 0) (11 + p1.toInt.toNat) from fez88).trans (cmA_n h13 (by omega))); have e38 : z38.toInt = isT (B2P (md (mF σ p1))) := (congrArg Int32.toInt ez38).trans L.1; have tb := isN_b (B2P (md (mF σ p1))) 40 0; have tb2 : isT (B2P (md (mF σ p1))) = isN (B2P (md (mF σ p1))) 40 0 := rfl; have a42 := tq_sub (k := z38.toInt) (q := 1) ez42 rfl (by decide +kernel) (by omega) (by omega); have k0 : 0 ≤ p2.toInt ∧ p2.toInt < isT (B2P (md (mF σ p1))) := ⟨by omega, by omega⟩; obtain ⟨p, fp, ip⟩ := ly_ex rg k0.1 k0.2; have E := exI_end (g84 σ ok h p fp ip) (fun X Y => ah_hi (fun a b k => by have := md_b o.2.2 _ _ (cpB_t.mp k).1; omega) X Y) ⟨p.1, p.2, cpB_t.mpr ⟨fp.1, con_refl p⟩⟩; exact ⟨fun _ => ⟨⟨fun a => absurd a t18, fun a b => absurd b (by omega), fun _ _ => ⟨p, _, fp, ip, E.2, by unfold ilA; rw [if_neg (by omega), if_neg (by omega), if_neg (by omega), if_pos (by omega)]; (try rfl)⟩⟩, o⟩, fun n => absurd ⟨q, by omega, by omega, by omega⟩ n⟩), ⟨Iz13, J, ⟨hIz13, fr_Iz13, kp0_11_Iz13, dn_Iz13, (fun σ A => cmA_fr hQ hLp0 hKp0 (fun b hb => fr_Iz13 b (by omega)) (fun _ _ => rfl) kp0_11_Iz13 A), dj_J⟩, by rw [ht]; exact hP⟩⟩, hS.F ht⟩) hS.2.2 dX7_island_219
                  · have t199 := tq_eq (k := p3.toInt) (q := (2)) c199 rfl (by decide +kernel)
                    refine lv_iload hx hb dX7_island_202 (lv_at hl 6 rfl) ?_
                    refine lv_goto (tgt := 219) hx hb dX7_island_204 (by decide) ?_
                    subst hR; subst hQz
                    exact W.iret (v := v84_6) hx hb hr (fun t ht hW => ⟨⟨v84_6, (), rfl, (fun σ ok h => by have q := xpz2.1 t5; rw [cm_0 h] at q; have o := ok.2.2.1 p1.toInt.toNat (by omega); have o1 := o.1; have o2 := o.2.1; have eW_ : (mW σ p1).toInt = (σ.1.1 (3 + p1.toInt.toNat)).toInt := rfl; have eH_ : (mH σ p1).toInt = (σ.1.1 (11 + p1.toInt.toNat)).toInt := rfl; have L := jz13 σ.1 ok (cmA_rI h) (cmA_rJ h) (show p1.toInt.toNat < _ by omega); rw [show (1 : Int32).toInt = 1 from by decide +kernel, dsD_1 o.2.2] at L; have rg : rgD (md (mF σ p1)) := (fun X Y k => md_R (f := mF σ p1) o (X, Y) k); have h13 := cmA_fr (I1 := Iz13) (J1 := J) hQ hLp0 hKp0 (fun b hb => fr_Iz13 b (by omega)) (fun _ _ => rfl) kp0_11_Iz13 h; have e88 : z88.toInt = (σ.1.1 (11 + p1.toInt.toNat)).toInt := congrArg Int32.toInt ((show z88 = Iz13 (a0 Q p0 0) (11 + p1.toInt.toNat) from fez88).trans (cmA_n h13 (by omega))); have e38 : z38.toInt = isT (B2P (md (mF σ p1))) := (congrArg Int32.toInt ez38).trans L.1; have tb := isN_b (B2P (md (mF σ p1))) 40 0; have tb2 : isT (B2P (md (mF σ p1))) = isN (B2P (md (mF σ p1))) 40 0 := rfl; have a42 := tq_sub (k := z38.toInt) (q := 1) ez42 rfl (by decide +kernel) (by omega) (by omega); have k0 : 0 ≤ p2.toInt ∧ p2.toInt < isT (B2P (md (mF σ p1))) := ⟨by omega, by omega⟩; obtain ⟨p, fp, ip⟩ := ly_ex rg k0.1 k0.2; have E := exI_end (g84 σ ok h p fp ip) (fun X Y => ah_hi (fun a b k => by have := md_b o.2.2 _ _ (cpB_t.mp k).1; omega) X Y) ⟨p.1, p.2, cpB_t.mpr ⟨fp.1, con_refl p⟩⟩; exact ⟨fun _ => ⟨⟨fun a => absurd a t18, fun a b => absurd b (by omega), fun _ _ => ⟨p, _, fp, ip, E.2, by unfold ilA; rw [if_neg (by omega), if_neg (by omega), if_pos (by omega)]; (try rfl)⟩⟩, o⟩, fun n => absurd ⟨q, by omega, by omega, by omega⟩ n⟩), ⟨Iz13, J, ⟨hIz13, fr_Iz13, kp0_11_Iz13, dn_Iz13, (fun σ A => cmA_fr hQ hLp0 hKp0 (fun b hb => fr_Iz13 b (by omega)) (fun _ _ => rfl) kp0_11_Iz13 A), dj_J⟩, by rw [ht]; exact hP⟩⟩, hS.F ht⟩) hS.2.2 dX7_island_219
                · have t189 := tq_eq (k := p3.toInt) (q := (1)) c189 rfl (by decide +kernel)
                  refine lv_iload hx hb dX7_island_192 (lv_at hl 5 rfl) ?_
                  refine lv_goto (tgt := 219) hx hb dX7_island_194 (by decide) ?_
                  subst hR; subst hQz
                  exact W.iret (v := v84_5) hx hb hr (fun t ht hW => ⟨⟨v84_5, (), rfl, (fun σ ok h => by have q := xpz2.1 t5; rw [cm_0 h] at q; have o := ok.2.2.1 p1.toInt.toNat (by omega); have o1 := o.1; have o2 := o.2.1; have eW_ : (mW σ p1).toInt = (σ.1.1 (3 + p1.toInt.toNat)).toInt := rfl; have eH_ : (mH σ p1).toInt = (σ.1.1 (11 + p1.toInt.toNat)).toInt := rfl; have L := jz13 σ.1 ok (cmA_rI h) (cmA_rJ h) (show p1.toInt.toNat < _ by omega); rw [show (1 : Int32).toInt = 1 from by decide +kernel, dsD_1 o.2.2] at L; have rg : rgD (md (mF σ p1)) := (fun X Y k => md_R (f := mF σ p1) o (X, Y) k); have h13 := cmA_fr (I1 := Iz13) (J1 := J) hQ hLp0 hKp0 (fun b hb => fr_Iz13 b (by omega)) (fun _ _ => rfl) kp0_11_Iz13 h; have e88 : z88.toInt = (σ.1.1 (11 + p1.toInt.toNat)).toInt := congrArg Int32.toInt ((show z88 = Iz13 (a0 Q p0 0) (11 + p1.toInt.toNat) from fez88).trans (cmA_n h13 (by omega))); have e38 : z38.toInt = isT (B2P (md (mF σ p1))) := (congrArg Int32.toInt ez38).trans L.1; have tb := isN_b (B2P (md (mF σ p1))) 40 0; have tb2 : isT (B2P (md (mF σ p1))) = isN (B2P (md (mF σ p1))) 40 0 := rfl; have a42 := tq_sub (k := z38.toInt) (q := 1) ez42 rfl (by decide +kernel) (by omega) (by omega); have k0 : 0 ≤ p2.toInt ∧ p2.toInt < isT (B2P (md (mF σ p1))) := ⟨by omega, by omega⟩; obtain ⟨p, fp, ip⟩ := ly_ex rg k0.1 k0.2; have E := exI_end (g84 σ ok h p fp ip) (fun X Y => ah_hi (fun a b k => by have := md_b o.2.2 _ _ (cpB_t.mp k).1; omega) X Y) ⟨p.1, p.2, cpB_t.mpr ⟨fp.1, con_refl p⟩⟩; exact ⟨fun _ => ⟨⟨fun a => absurd a t18, fun a b => absurd b (by omega), fun _ _ => ⟨p, _, fp, ip, E.2, by unfold ilA; rw [if_neg (by omega), if_pos (by omega)]; (try rfl)⟩⟩, o⟩, fun n => absurd ⟨q, by omega, by omega, by omega⟩ n⟩), ⟨Iz13, J, ⟨hIz13, fr_Iz13, kp0_11_Iz13, dn_Iz13, (fun σ A => cmA_fr hQ hLp0 hKp0 (fun b hb => fr_Iz13 b (by omega)) (fun _ _ => rfl) kp0_11_Iz13 A), dj_J⟩, by rw [ht]; exact hP⟩⟩, hS.F ht⟩) hS.2.2 dX7_island_219
              · have t179 := tq_eq (k := p3.toInt) (q := (0)) c179 rfl (by decide +kernel)
                refine lv_iload hx hb dX7_island_182 (lv_at hl 4 rfl) ?_
                refine lv_goto (tgt := 219) hx hb dX7_island_184 (by decide) ?_
                subst hR; subst hQz
                exact W.iret (v := v84_4) hx hb hr (fun t ht hW => ⟨⟨v84_4, (), rfl, (fun σ ok h => by have q := xpz2.1 t5; rw [cm_0 h] at q; have o := ok.2.2.1 p1.toInt.toNat (by omega); have o1 := o.1; have o2 := o.2.1; have eW_ : (mW σ p1).toInt = (σ.1.1 (3 + p1.toInt.toNat)).toInt := rfl; have eH_ : (mH σ p1).toInt = (σ.1.1 (11 + p1.toInt.toNat)).toInt := rfl; have L := jz13 σ.1 ok (cmA_rI h) (cmA_rJ h) (show p1.toInt.toNat < _ by omega); rw [show (1 : Int32).toInt = 1 from by decide +kernel, dsD_1 o.2.2] at L; have rg : rgD (md (mF σ p1)) := (fun X Y k => md_R (f := mF σ p1) o (X, Y) k); have h13 := cmA_fr (I1 := Iz13) (J1 := J) hQ hLp0 hKp0 (fun b hb => fr_Iz13 b (by omega)) (fun _ _ => rfl) kp0_11_Iz13 h; have e88 : z88.toInt = (σ.1.1 (11 + p1.toInt.toNat)).toInt := congrArg Int32.toInt ((show z88 = Iz13 (a0 Q p0 0) (11 + p1.toInt.toNat) from fez88).trans (cmA_n h13 (by omega))); have e38 : z38.toInt = isT (B2P (md (mF σ p1))) := (congrArg Int32.toInt ez38).trans L.1; have tb := isN_b (B2P (md (mF σ p1))) 40 0; have tb2 : isT (B2P (md (mF σ p1))) = isN (B2P (md (mF σ p1))) 40 0 := rfl; have a42 := tq_sub (k := z38.toInt) (q := 1) ez42 rfl (by decide +kernel) (by omega) (by omega); have k0 : 0 ≤ p2.toInt ∧ p2.toInt < isT (B2P (md (mF σ p1))) := ⟨by omega, by omega⟩; obtain ⟨p, fp, ip⟩ := ly_ex rg k0.1 k0.2; have E := exI_end (g84 σ ok h p fp ip) (fun X Y => ah_hi (fun a b k => by have := md_b o.2.2 _ _ (cpB_t.mp k).1; omega) X Y) ⟨p.1, p.2, cpB_t.mpr ⟨fp.1, con_refl p⟩⟩; exact ⟨fun _ => ⟨⟨fun a => absurd a t18, fun a b => absurd b (by omega), fun _ _ => ⟨p, _, fp, ip, E.2, by unfold ilA; rw [if_pos (by omega)]; exact E.1⟩⟩, o⟩, fun n => absurd ⟨q, by omega, by omega, by omega⟩ n⟩), ⟨Iz13, J, ⟨hIz13, fr_Iz13, kp0_11_Iz13, dn_Iz13, (fun σ A => cmA_fr hQ hLp0 hKp0 (fun b hb => fr_Iz13 b (by omega)) (fun _ _ => rfl) kp0_11_Iz13 A), dj_J⟩, by rw [ht]; exact hP⟩⟩, hS.F ht⟩) hS.2.2 dX7_island_219
            · have t91 := tq_nle (k := z88.toInt) (q := v84_9.toInt) c91 rfl rfl
              refine lv_iconst (v := 0) hx hb dX7_island_94 (by decide +kernel) ?_
              refine lv_istore (lv' := [(10, .int 0), (0, .ref p0), (1, .int p1), (2, .int p2), (3, .int p3), (4, .int v84_4), (5, .int v84_5), (6, .int v84_6), (7, .int v84_7), (8, .int v84_8), (9, .int v84_9)]) hx hb dX7_island_95 hl (by decide) rfl (fun ls hl => ?_)
              have key97 := blocks (fun n => ∀ (v97_10 : Int32) (v97_4 : Int32) (v97_5 : Int32) (v97_6 : Int32) (v97_7 : Int32) (v97_8 : Int32) (H : Heap) (lo : List Loc) (ls : Array Slot), (101 - v97_10.toInt).toNat = n → ((0) ≤ v97_10.toInt ∧ v97_10.toInt ≤ 100) → ((0) ≤ v97_5.toInt ∧ v97_5.toInt ≤ 100) → ((0) ≤ v97_6.toInt ∧ v97_6.toInt ≤ 40) → ((0) ≤ v97_7.toInt ∧ v97_7.toInt ≤ 99) → ((0) ≤ v97_8.toInt ∧ v97_8.toInt ≤ 39) → (∀ σ : Sx, okF σ.1 → cmA Q I J p0 σ → ∀ p : Int × Int, fstP (B2P (md (mF σ p1))) p → isN (B2P (md (mF σ p1))) p.2 p.1 = p2.toInt → exI (cpB (B2P (md (mF σ p1))) p) v84_9.toInt v97_10.toInt v97_4.toInt v97_5.toInt v97_6.toInt v97_7.toInt v97_8.toInt) → va_P (dC, dI) vwCl (Wd cs L K Iz13 J Q) H → va_S A s.heap H lo → lv_has ls 11 [(0, .ref p0), (1, .int p1), (2, .int p2), (3, .int p3), (4, .int v97_4), (5, .int v97_5), (6, .int v97_6), (7, .int v97_7), (8, .int v97_8), (9, .int v84_9), (10, .int v97_10)] → W p l e R s m (([.ref p0, .int p1, .int p2, .int p3] : List Value).toArray) below meth c H lo 0 0 Qz (F0 m 97 ls [])) (by
                intro n ih97
                intro v97_10 v97_4 v97_5 v97_6 v97_7 v97_8 H lo ls hmu97 bv97_10 bv97_5 bv97_6 bv97_7 bv97_8 g97 hP hS hl
                refine lv_iload hx hb dX7_island_97 (lv_at hl 10 rfl) ?_
                refine lv_aload_n hx hb dX7_island_99 rfl (lv_at hl 0 rfl) ?_
                refine lv_iload_n hx hb dX7_island_100 rfl (lv_at hl 1 rfl) ?_
                refine ro_i (va_runV (As := [.int p1]) (rest := [.int v97_10]) ⟨hx, hb, hml, hown, hts⟩ (s_X7_wide l dC dI cs L K G Q hQ x0 m0 tx tm H.size Iz13 J hIz13 p0 hLp0 hKp0 p1 ⟨by omega, by omega⟩) (cwV 1 hts (gV pq1368 pq1370 pq32 pq81 pq1371) rfl rfl rfl (by decide +kernel) ⟨(by rw [hR]; exact (Nat.le_of_ble_eq_true rfl)), (by rw [hR]; exact (Nat.le_of_ble_eq_true rfl))⟩) (sP_V hP hD hK hN hLp0 hKp0 rfl rfl) rfl rfl hl.1 rfl (lv_room (Nat.le_of_ble_eq_true rfl)) dX7_island_101 ⟨(by rw [hR]; exact (Nat.le_of_ble_eq_true rfl)), (by rw [hR]; exact (Nat.le_of_ble_eq_true rfl))⟩) hS hP (fun z101 H locs hz101 hP hS => ?_)
                obtain ⟨bz101, fez101⟩ := hz101
                refine lv_icmp_ge (tgt := 172) hx hb dX7_island_104 (by decide) (fun c104 => ?_) (fun c104 => ?_)
                · have t104 := tq_le (k := z101.toInt) (q := v97_10.toInt) c104 rfl rfl
                  obtain ⟨z172, ez172⟩ : ∃ y : Int32, y = v84_9 + 1 := ⟨_, rfl⟩
                  refine lv_iinc (v := z172) (lv' := [(9, .int z172), (0, .ref p0), (1, .int p1), (2, .int p2), (3, .int p3), (4, .int v97_4), (5, .int v97_5), (6, .int v97_6), (7, .int v97_7), (8, .int v97_8), (10, .int v97_10)]) hx hb dX7_island_172 hl (k := 9) rfl (by rw [ez172]; rfl) (by decide) rfl (fun ls hl => ?_)
                  have bz172 := tq_add (k := v84_9.toInt) (q := 1) ez172 rfl (by decide +kernel) (by omega) (by omega)
                  refine lv_goto (tgt := 84) hx hb dX7_island_175 (by decide) ?_
                  exact ih84 _ (by omega) v97_4 v97_5 v97_6 v97_7 v97_8 z172 _ _ _ rfl ⟨by omega, by omega⟩ ⟨by omega, by omega⟩ ⟨by omega, by omega⟩ ⟨by omega, by omega⟩ ⟨by omega, by omega⟩ (fun σ ok h p fp ip => by have q := xpz2.1 t5; rw [cm_0 h] at q; have o := ok.2.2.1 p1.toInt.toNat (by omega); have o1 := o.1; have o2 := o.2.1; have eW_ : (mW σ p1).toInt = (σ.1.1 (3 + p1.toInt.toNat)).toInt := rfl; have eH_ : (mH σ p1).toInt = (σ.1.1 (11 + p1.toInt.toNat)).toInt := rfl; have L := jz13 σ.1 ok (cmA_rI h) (cmA_rJ h) (show p1.toInt.toNat < _ by omega); rw [show (1 : Int32).toInt = 1 from by decide +kernel, dsD_1 o.2.2] at L; have rg : rgD (md (mF σ p1)) := (fun X Y k => md_R (f := mF σ p1) o (X, Y) k); have h13 := cmA_fr (I1 := Iz13) (J1 := J) hQ hLp0 hKp0 (fun b hb => fr_Iz13 b (by omega)) (fun _ _ => rfl) kp0_11_Iz13 h; have e101 : z101.toInt = (σ.1.1 (3 + p1.toInt.toNat)).toInt := congrArg Int32.toInt ((show z101 = Iz13 (a0 Q p0 0) (3 + p1.toInt.toNat) from fez101).trans (cmA_n h13 (by omega))); exact exI_mv (g97 σ ok h p fp ip) (fun X Y => ah_mv (fun a b k => by have := md_b o.2.2 _ _ (cpB_t.mp k).1; omega) X Y)) hP hS (lv_sub hl [1, 2, 3, 4, 5, 6, 7, 8, 9, 0] rfl)
                · have t104 := tq_nle (k := z101.toInt) (q := v97_10.toInt) c104 rfl rfl
                  refine lv_aload_n hx hb dX7_island_107 rfl (lv_at hl 0 rfl) ?_
                  obtain ⟨y108, ey108, hLy108, hKy108⟩ := oQ_7_21 (Sv_at hQ hLp0 hKp0)
                  refine p_get (v := .ref y108) hx hb hts inX7 hown hK hP hLp0 hKp0 rfl rfl 21 (by decide) (hts _ pq1136) (congrArg (fun q => some (va_rf q)) ey108) dX7_island_108 ?_
                  refine lv_bipush (v := 100) hx hb dX7_island_111 (by decide +kernel) ?_
                  refine lv_iload hx hb dX7_island_113 (lv_at hl 9 rfl) ?_
                  refine lv_imul hx hb dX7_island_115 ?_
                  refine lv_topi (fun z115 ez115 => ?_)
                  have bz115 := tq_mul (k := (100)) (q := v84_9.toInt) ez115 (by decide +kernel) rfl (by omega) (by omega)
                  refine lv_iload hx hb dX7_island_116 (lv_at hl 10 rfl) ?_
                  refine lv_iadd hx hb dX7_island_118 ?_
                  refine lv_topi (fun z118 ez118 => ?_)
                  have bz118 := tq_add (k := z115.toInt) (q := v97_10.toInt) ez118 rfl rfl (by omega) (by omega)
                  refine p_iald hx hb hK hP 17 hLy108 hKy108 rfl rfl (in_of (by omega) (by omega)) dX7_island_119 ?_
                  refine lv_topi (fun z119 ez119 => ?_)
                  refine lv_iload_n hx hb dX7_island_120 rfl (lv_at hl 2 rfl) ?_
                  have j166 : ∀ (v166_4 : Int32) (v166_5 : Int32) (v166_6 : Int32) (v166_7 : Int32) (v166_8 : Int32) (H : Heap) (lo : List Loc) (ls : Array Slot), ((0) ≤ v166_5.toInt ∧ v166_5.toInt ≤ 100) → ((0) ≤ v166_6.toInt ∧ v166_6.toInt ≤ 40) → ((0) ≤ v166_7.toInt ∧ v166_7.toInt ≤ 99) → ((0) ≤ v166_8.toInt ∧ v166_8.toInt ≤ 39) → (∀ σ : Sx, okF σ.1 → cmA Q I J p0 σ → ∀ p : Int × Int, fstP (B2P (md (mF σ p1))) p → isN (B2P (md (mF σ p1))) p.2 p.1 = p2.toInt → exI (cpB (B2P (md (mF σ p1))) p) v84_9.toInt (v97_10.toInt + 1) v166_4.toInt v166_5.toInt v166_6.toInt v166_7.toInt v166_8.toInt) → va_P (dC, dI) vwCl (Wd cs L K Iz13 J Q) H → va_S A s.heap H lo → lv_has ls 11 [(0, .ref p0), (1, .int p1), (2, .int p2), (3, .int p3), (4, .int v166_4), (5, .int v166_5), (6, .int v166_6), (7, .int v166_7), (8, .int v166_8), (9, .int v84_9), (10, .int v97_10)] → W p l e R s m (([.ref p0, .int p1, .int p2, .int p3] : List Value).toArray) below meth c H lo 0 0 Qz (F0 m 166 ls []) := by
                    intro v166_4 v166_5 v166_6 v166_7 v166_8 H lo ls bv166_5 bv166_6 bv166_7 bv166_8 g166 hP hS hl
                    obtain ⟨z166, ez166⟩ : ∃ y : Int32, y = v97_10 + 1 := ⟨_, rfl⟩
                    refine lv_iinc (v := z166) (lv' := [(10, .int z166), (0, .ref p0), (1, .int p1), (2, .int p2), (3, .int p3), (4, .int v166_4), (5, .int v166_5), (6, .int v166_6), (7, .int v166_7), (8, .int v166_8), (9, .int v84_9)]) hx hb dX7_island_166 hl (k := 10) rfl (by rw [ez166]; rfl) (by decide) rfl (fun ls hl => ?_)
                    have bz166 := tq_add (k := v97_10.toInt) (q := 1) ez166 rfl (by decide +kernel) (by omega) (by omega)
                    refine lv_goto (tgt := 97) hx hb dX7_island_169 (by decide) ?_
                    exact ih97 _ (by omega) z166 v166_4 v166_5 v166_6 v166_7 v166_8 _ _ _ rfl ⟨by omega, by omega⟩ ⟨by omega, by omega⟩ ⟨by omega, by omega⟩ ⟨by omega, by omega⟩ ⟨by omega, by omega⟩ (fun σ ok h p fp ip => by rw [show z166.toInt = v97_10.toInt + 1 by omega]; exact g166 σ ok h p fp ip) hP hS (lv_sub hl [1, 2, 3, 4, 5, 6, 7, 8, 9, 10, 0] rfl)
                  refine lv_icmp_eq (tgt := 127) hx hb dX7_island_121 (by decide) (fun c121 => ?_) (fun c121 => ?_)
                  · have t121 := tq_eq (k := z119.toInt) (q := p2.toInt) c121 rfl rfl
                    obtain ⟨z127, ez127⟩ : ∃ y : Int32, y = v97_4 + 1 := ⟨_, rfl⟩
                    refine lv_iinc (v := z127) (lv' := [(4, .int z127), (0, .ref p0), (1, .int p1), (2, .int p2), (3, .int p3), (5, .int v97_5), (6, .int v97_6), (7, .int v97_7), (8, .int v97_8), (9, .int v84_9), (10, .int v97_10)]) hx hb dX7_island_127 hl (k := 4) rfl (by rw [ez127]; rfl) (by decide) rfl (fun ls hl => ?_)
                    refine lv_iload hx hb dX7_island_130 (lv_at hl 5 rfl) ?_
                    refine lv_iload hx hb dX7_island_132 (lv_at hl 10 rfl) ?_
                    refine va_mmin hx hb (hml.trans hl.1.symm) hown (hts _ pq1269) (hts _ pq407) (hts _ pq82) (hts _ pq408) (by rw [hR]; exact (Nat.le_of_ble_eq_true rfl)) (by rw [hR]; exact (Nat.le_of_ble_eq_true rfl)) (by rw [hR]; exact (Nat.le_of_ble_eq_true rfl)) (by rw [hR]; exact (Nat.le_of_ble_eq_true rfl)) dX7_island_134 ?_
                    refine lv_topi (fun z134 ez134 => ?_)
                    have bz134 := tq_min ez134
                    refine lv_istore (lv' := [(5, .int z134), (4, .int z127), (0, .ref p0), (1, .int p1), (2, .int p2), (3, .int p3), (6, .int v97_6), (7, .int v97_7), (8, .int v97_8), (9, .int v84_9), (10, .int v97_10)]) hx hb dX7_island_137 hl (by decide) rfl (fun ls hl => ?_)
                    refine lv_iload hx hb dX7_island_139 (lv_at hl 6 rfl) ?_
                    refine lv_iload hx hb dX7_island_141 (lv_at hl 9 rfl) ?_
                    refine va_mmin hx hb (hml.trans hl.1.symm) hown (hts _ pq1269) (hts _ pq407) (hts _ pq82) (hts _ pq408) (by rw [hR]; exact (Nat.le_of_ble_eq_true rfl)) (by rw [hR]; exact (Nat.le_of_ble_eq_true rfl)) (by rw [hR]; exact (Nat.le_of_ble_eq_true rfl)) (by rw [hR]; exact (Nat.le_of_ble_eq_true rfl)) dX7_island_143 ?_
                    refine lv_topi (fun z143 ez143 => ?_)
                    have bz143 := tq_min ez143
                    refine lv_istore (lv' := [(6, .int z143), (5, .int z134), (4, .int z127), (0, .ref p0), (1, .int p1), (2, .int p2), (3, .int p3), (7, .int v97_7), (8, .int v97_8), (9, .int v84_9), (10, .int v97_10)]) hx hb dX7_island_146 hl (by decide) rfl (fun ls hl => ?_)
                    refine lv_iload hx hb dX7_island_148 (lv_at hl 7 rfl) ?_
                    refine lv_iload hx hb dX7_island_150 (lv_at hl 10 rfl) ?_
                    refine va_mmax hx hb (hml.trans hl.1.symm) hown (hts _ pq1443) (hts _ pq750) (hts _ pq82) (hts _ pq751) (by rw [hR]; exact (Nat.le_of_ble_eq_true rfl)) (by rw [hR]; exact (Nat.le_of_ble_eq_true rfl)) (by rw [hR]; exact (Nat.le_of_ble_eq_true rfl)) (by rw [hR]; exact (Nat.le_of_ble_eq_true rfl)) dX7_island_152 ?_
                    refine lv_topi (fun z152 ez152 => ?_)
                    have bz152 := tq_max ez152
                    refine lv_istore (lv' := [(7, .int z152), (6, .int z143), (5, .int z134), (4, .int z127), (0, .ref p0), (1, .int p1), (2, .int p2), (3, .int p3), (8, .int v97_8), (9, .int v84_9), (10, .int v97_10)]) hx hb dX7_island_155 hl (by decide) rfl (fun ls hl => ?_)
                    refine lv_iload hx hb dX7_island_157 (lv_at hl 8 rfl) ?_
                    refine lv_iload hx hb dX7_island_159 (lv_at hl 9 rfl) ?_
                    refine va_mmax hx hb (hml.trans hl.1.symm) hown (hts _ pq1443) (hts _ pq750) (hts _ pq82) (hts _ pq751) (by rw [hR]; exact (Nat.le_of_ble_eq_true rfl)) (by rw [hR]; exact (Nat.le_of_ble_eq_true rfl)) (by rw [hR]; exact (Nat.le_of_ble_eq_true rfl)) (by rw [hR]; exact (Nat.le_of_ble_eq_true rfl)) dX7_island_161 ?_
                    refine lv_topi (fun z161 ez161 => ?_)
                    have bz161 := tq_max ez161
                    refine lv_istore (lv' := [(8, .int z161), (7, .int z152), (6, .int z143), (5, .int z134), (4, .int z127), (0, .ref p0), (1, .int p1), (2, .int p2), (3, .int p3), (9, .int v84_9), (10, .int v97_10)]) hx hb dX7_island_164 hl (by decide) rfl (fun ls hl => ?_)
                    exact j166 z127 z134 z143 z152 z161 _ _ _ ⟨by omega, by omega⟩ ⟨by omega, by omega⟩ ⟨by omega, by omega⟩ ⟨by omega, by omega⟩ (fun σ ok h p fp ip => by have q := xpz2.1 t5; rw [cm_0 h] at q; have o := ok.2.2.1 p1.toInt.toNat (by omega); have o1 := o.1; have o2 := o.2.1; have eW_ : (mW σ p1).toInt = (σ.1.1 (3 + p1.toInt.toNat)).toInt := rfl; have eH_ : (mH σ p1).toInt = (σ.1.1 (11 + p1.toInt.toNat)).toInt := rfl; have L := jz13 σ.1 ok (cmA_rI h) (cmA_rJ h) (show p1.toInt.toNat < _ by omega); rw [show (1 : Int32).toInt = 1 from by decide +kernel, dsD_1 o.2.2] at L; have rg : rgD (md (mF σ p1)) := (fun X Y k => md_R (f := mF σ p1) o (X, Y) k); have w := ly_cp rg L fp (x := v97_10.toInt) (y := v84_9.toInt) ⟨by omega, by omega⟩ ⟨by omega, by omega⟩; rw [ip, show a0 Q p0 21 = y108 from gd_of ey108, show (100 * v84_9.toInt + v97_10.toInt).toNat = z118.toNatClampNeg from (by show _ = z118.toInt.toNat; omega), ← ez119] at w; have g := g97 σ ok h p fp ip; have b0 := cnt_le (ahD (cpB (B2P (md (mF σ p1))) p) v84_9.toInt v97_10.toInt); have g1 := g.1; have a127 := tq_add (k := v97_4.toInt) (q := 1) ez127 rfl (by decide +kernel) (by omega) (by omega); exact exI_yes g (cpB_rg rg) (w.mp t121) rfl a127 (by omega) (by omega) (by omega) (by omega)) hP hS (lv_sub hl [5, 6, 7, 8, 4, 3, 2, 1, 0, 9, 10] rfl)
                  · have t121 := tq_ne (k := z119.toInt) (q := p2.toInt) c121 rfl rfl
                    refine lv_goto (tgt := 166) hx hb dX7_island_124 (by decide) ?_
                    exact j166 v97_4 v97_5 v97_6 v97_7 v97_8 _ _ _ ⟨by omega, by omega⟩ ⟨by omega, by omega⟩ ⟨by omega, by omega⟩ ⟨by omega, by omega⟩ (fun σ ok h p fp ip => by have q := xpz2.1 t5; rw [cm_0 h] at q; have o := ok.2.2.1 p1.toInt.toNat (by omega); have o1 := o.1; have o2 := o.2.1; have eW_ : (mW σ p1).toInt = (σ.1.1 (3 + p1.toInt.toNat)).toInt := rfl; have eH_ : (mH σ p1).toInt = (σ.1.1 (11 + p1.toInt.toNat)).toInt := rfl; have L := jz13 σ.1 ok (cmA_rI h) (cmA_rJ h) (show p1.toInt.toNat < _ by omega); rw [show (1 : Int32).toInt = 1 from by decide +kernel, dsD_1 o.2.2] at L; have rg : rgD (md (mF σ p1)) := (fun X Y k => md_R (f := mF σ p1) o (X, Y) k); have w := ly_cp rg L fp (x := v97_10.toInt) (y := v84_9.toInt) ⟨by omega, by omega⟩ ⟨by omega, by omega⟩; rw [ip, show a0 Q p0 21 = y108 from gd_of ey108, show (100 * v84_9.toInt + v97_10.toInt).toNat = z118.toNatClampNeg from (by show _ = z118.toInt.toNat; omega), ← ez119] at w; exact exI_mv (g97 σ ok h p fp ip) (fun X Y => ah_no rfl (Bool.eq_false_iff.mpr (fun k => t121 (w.mpr k))) X Y)) hP hS (lv_sub hl [0, 1, 2, 3, 4, 5, 6, 7, 8, 9, 10] rfl))
              exact key97 _ 0 v84_4 v84_5 v84_6 v84_7 v84_8 _ _ _ rfl ⟨by decide +kernel, by decide +kernel⟩ ⟨by omega, by omega⟩ ⟨by omega, by omega⟩ ⟨by omega, by omega⟩ ⟨by omega, by omega⟩ (fun σ ok h p fp ip => by rw [show (0 : Int32).toInt = 0 from by decide +kernel]; exact g84 σ ok h p fp ip) hP hS (lv_sub hl [1, 2, 3, 4, 5, 6, 7, 8, 9, 10, 0] rfl))
          exact key84 _ 0 100 40 0 0 0 _ _ _ rfl ⟨by decide +kernel, by decide +kernel⟩ ⟨by decide +kernel, by decide +kernel⟩ ⟨by decide +kernel, by decide +kernel⟩ ⟨by decide +kernel, by decide +kernel⟩ ⟨by decide +kernel, by decide +kernel⟩ (fun σ ok h p fp ip => by have q := xpz2.1 t5; rw [cm_0 h] at q; have o := ok.2.2.1 p1.toInt.toNat (by omega); have o1 := o.1; have o2 := o.2.1; have eW_ : (mW σ p1).toInt = (σ.1.1 (3 + p1.toInt.toNat)).toInt := rfl; have eH_ : (mH σ p1).toInt = (σ.1.1 (11 + p1.toInt.toNat)).toInt := rfl; have L := jz13 σ.1 ok (cmA_rI h) (cmA_rJ h) (show p1.toInt.toNat < _ by omega); rw [show (1 : Int32).toInt = 1 from by decide +kernel, dsD_1 o.2.2] at L; have rg : rgD (md (mF σ p1)) := (fun X Y k => md_R (f := mF σ p1) o (X, Y) k); rw [show (0 : Int32).toInt = 0 from by decide +kernel]; exact exI_0 (cpB_rg rg)) hP hS (lv_sub hl [6, 7, 8, 9, 5, 4, 3, 2, 1, 0] rfl)
        · have t59 := tq_eq (k := z56.toInt) (q := (0)) c59 rfl (by decide +kernel)
          refine lv_iconst (v := (-1)) hx hb dX7_island_62 (by decide +kernel) ?_
          subst hR; subst hQz
          exact W.iret (v := (-1)) hx hb hr (fun t ht hW => ⟨⟨(-1), (), rfl, (fun σ ok h => by refine ⟨fun w => ?_, fun _ => by decide +kernel⟩; have w2 := w.2; first | (exfalso; exact xpz2.2 t5 (by rw [cm_0 h]; exact w.1)) | (have n22 := t22; have q := xpz2.1 t5; rw [cm_0 h] at q; have o := ok.2.2.1 p1.toInt.toNat (by omega); have o1 := o.1; have o2 := o.2.1; have eW_ : (mW σ p1).toInt = (σ.1.1 (3 + p1.toInt.toNat)).toInt := rfl; have eH_ : (mH σ p1).toInt = (σ.1.1 (11 + p1.toInt.toNat)).toInt := rfl; have L := jz13 σ.1 ok (cmA_rI h) (cmA_rJ h) (show p1.toInt.toNat < _ by omega); rw [show (1 : Int32).toInt = 1 from by decide +kernel, dsD_1 o.2.2] at L; have rg : rgD (md (mF σ p1)) := (fun X Y k => md_R (f := mF σ p1) o (X, Y) k); exact ⟨⟨fun _ => by unfold ilN; rw [if_neg t22]; decide +kernel, fun a => absurd a (by omega), fun a => absurd a (by omega)⟩, o⟩) | (exfalso; exact xpz56 t59 ⟨by omega, by omega⟩) | (have q := xpz2.1 t5; rw [cm_0 h] at q; have o := ok.2.2.1 p1.toInt.toNat (by omega); have o1 := o.1; have o2 := o.2.1; have eW_ : (mW σ p1).toInt = (σ.1.1 (3 + p1.toInt.toNat)).toInt := rfl; have eH_ : (mH σ p1).toInt = (σ.1.1 (11 + p1.toInt.toNat)).toInt := rfl; have L := jz13 σ.1 ok (cmA_rI h) (cmA_rJ h) (show p1.toInt.toNat < _ by omega); rw [show (1 : Int32).toInt = 1 from by decide +kernel, dsD_1 o.2.2] at L; have rg : rgD (md (mF σ p1)) := (fun X Y k => md_R (f := mF σ p1) o (X, Y) k); have e38 : z38.toInt = isT (B2P (md (mF σ p1))) := (congrArg Int32.toInt ez38).trans L.1; have tb := isN_b (B2P (md (mF σ p1))) 40 0; have tb2 : isT (B2P (md (mF σ p1))) = isN (B2P (md (mF σ p1))) 40 0 := rfl; have a42 := tq_sub (k := z38.toInt) (q := 1) ez42 rfl (by decide +kernel) (by omega) (by omega); exact ⟨⟨fun a => absurd a t18, fun _ _ => by decide +kernel, fun a b => absurd ⟨by omega, by omega⟩ (xpz44 t47)⟩, o⟩)), ⟨Iz13, J, ⟨hIz13, fr_Iz13, kp0_11_Iz13, dn_Iz13, (fun σ A => cmA_fr hQ hLp0 hKp0 (fun b hb => fr_Iz13 b (by omega)) (fun _ _ => rfl) kp0_11_Iz13 A), dj_J⟩, by rw [ht]; exact hP⟩⟩, hS.F ht⟩) hS.2.2 dX7_island_63
    · have t18 := tq_eq (k := p2.toInt) (q := (-1)) c18 rfl (by decide +kernel)
      refine lv_iload_n hx hb dX7_island_21 rfl (lv_at hl 3 rfl) ?_
      refine lv_if_ne (tgt := 32) hx hb dX7_island_22 (by decide) (fun c22 => ?_) (fun c22 => ?_)
      · have t22 := tq_ne (k := p3.toInt) (q := (0)) c22 rfl (by decide +kernel)
        refine lv_iconst (v := (-1)) hx hb dX7_island_32 (by decide +kernel) ?_
        subst hR; subst hQz
        exact W.iret (v := (-1)) hx hb hr (fun t ht hW => ⟨⟨(-1), (), rfl, (fun σ ok h => by refine ⟨fun w => ?_, fun _ => by decide +kernel⟩; have w2 := w.2; first | (exfalso; exact xpz2.2 t5 (by rw [cm_0 h]; exact w.1)) | (have n22 := t22; have q := xpz2.1 t5; rw [cm_0 h] at q; have o := ok.2.2.1 p1.toInt.toNat (by omega); have o1 := o.1; have o2 := o.2.1; have eW_ : (mW σ p1).toInt = (σ.1.1 (3 + p1.toInt.toNat)).toInt := rfl; have eH_ : (mH σ p1).toInt = (σ.1.1 (11 + p1.toInt.toNat)).toInt := rfl; have L := jz13 σ.1 ok (cmA_rI h) (cmA_rJ h) (show p1.toInt.toNat < _ by omega); rw [show (1 : Int32).toInt = 1 from by decide +kernel, dsD_1 o.2.2] at L; have rg : rgD (md (mF σ p1)) := (fun X Y k => md_R (f := mF σ p1) o (X, Y) k); exact ⟨⟨fun _ => by unfold ilN; rw [if_neg t22]; decide +kernel, fun a => absurd a (by omega), fun a => absurd a (by omega)⟩, o⟩) | (exfalso; exact xpz56 t59 ⟨by omega, by omega⟩) | (have q := xpz2.1 t5; rw [cm_0 h] at q; have o := ok.2.2.1 p1.toInt.toNat (by omega); have o1 := o.1; have o2 := o.2.1; have eW_ : (mW σ p1).toInt = (σ.1.1 (3 + p1.toInt.toNat)).toInt := rfl; have eH_ : (mH σ p1).toInt = (σ.1.1 (11 + p1.toInt.toNat)).toInt := rfl; have L := jz13 σ.1 ok (cmA_rI h) (cmA_rJ h) (show p1.toInt.toNat < _ by omega); rw [show (1 : Int32).toInt = 1 from by decide +kernel, dsD_1 o.2.2] at L; have rg : rgD (md (mF σ p1)) := (fun X Y k => md_R (f := mF σ p1) o (X, Y) k); have e38 : z38.toInt = isT (B2P (md (mF σ p1))) := (congrArg Int32.toInt ez38).trans L.1; have tb := isN_b (B2P (md (mF σ p1))) 40 0; have tb2 : isT (B2P (md (mF σ p1))) = isN (B2P (md (mF σ p1))) 40 0 := rfl; have a42 := tq_sub (k := z38.toInt) (q := 1) ez42 rfl (by decide +kernel) (by omega) (by omega); exact ⟨⟨fun a => absurd a t18, fun _ _ => by decide +kernel, fun a b => absurd ⟨by omega, by omega⟩ (xpz44 t47)⟩, o⟩)), ⟨Iz13, J, ⟨hIz13, fr_Iz13, kp0_11_Iz13, dn_Iz13, (fun σ A => cmA_fr hQ hLp0 hKp0 (fun b hb => fr_Iz13 b (by omega)) (fun _ _ => rfl) kp0_11_Iz13 A), dj_J⟩, by rw [ht]; exact hP⟩⟩, hS.F ht⟩) hS.2.2 dX7_island_33
      · have t22 := tq_eq (k := p3.toInt) (q := (0)) c22 rfl (by decide +kernel)
        refine lv_aload_n hx hb dX7_island_25 rfl (lv_at hl 0 rfl) ?_
        refine p_get hx hb hts inX7 hown hK hP hLp0 hKp0 rfl rfl 23 (by decide) (hts _ pq1138) rfl dX7_island_26 ?_
        refine lv_topi (fun z26 ez26 => ?_)
        have cgz26 := congrArg Int32.toInt ez26
        refine lv_goto (tgt := 33) hx hb dX7_island_29 (by decide) ?_
        subst hR; subst hQz
        exact W.iret (v := z26) hx hb hr (fun t ht hW => ⟨⟨z26, (), rfl, (fun σ ok h => by have q := xpz2.1 t5; rw [cm_0 h] at q; have o := ok.2.2.1 p1.toInt.toNat (by omega); have o1 := o.1; have o2 := o.2.1; have eW_ : (mW σ p1).toInt = (σ.1.1 (3 + p1.toInt.toNat)).toInt := rfl; have eH_ : (mH σ p1).toInt = (σ.1.1 (11 + p1.toInt.toNat)).toInt := rfl; have L := jz13 σ.1 ok (cmA_rI h) (cmA_rJ h) (show p1.toInt.toNat < _ by omega); rw [show (1 : Int32).toInt = 1 from by decide +kernel, dsD_1 o.2.2] at L; have rg : rgD (md (mF σ p1)) := (fun X Y k => md_R (f := mF σ p1) o (X, Y) k); exact ⟨fun _ => ⟨⟨fun _ => by unfold ilN; rw [if_pos t22]; exact (congrArg Int32.toInt ez26).trans L.1, fun a => absurd a (by omega), fun a => absurd a (by omega)⟩, o⟩, fun n => absurd ⟨q, by omega, by omega, by omega⟩ n⟩), ⟨Iz13, J, ⟨hIz13, fr_Iz13, kp0_11_Iz13, dn_Iz13, (fun σ A => cmA_fr hQ hLp0 hKp0 (fun b hb => fr_Iz13 b (by omega)) (fun _ _ => rfl) kp0_11_Iz13 A), dj_J⟩, by rw [ht]; exact hP⟩⟩, hS.F ht⟩) hS.2.2 dX7_island_33
  · have t5 := tq_eq (k := z2.toInt) (q := (0)) c5 rfl (by decide +kernel)
    refine lv_iconst (v := (-1)) hx hb dX7_island_8 (by decide +kernel) ?_
    subst hR; subst hQz
    exact W.iret (v := (-1)) hx hb hr (fun t ht hW => ⟨⟨(-1), (), rfl, (fun σ ok h => by refine ⟨fun w => ?_, fun _ => by decide +kernel⟩; have w2 := w.2; first | (exfalso; exact xpz2.2 t5 (by rw [cm_0 h]; exact w.1)) | (have n22 := t22; have q := xpz2.1 t5; rw [cm_0 h] at q; have o := ok.2.2.1 p1.toInt.toNat (by omega); have o1 := o.1; have o2 := o.2.1; have eW_ : (mW σ p1).toInt = (σ.1.1 (3 + p1.toInt.toNat)).toInt := rfl; have eH_ : (mH σ p1).toInt = (σ.1.1 (11 + p1.toInt.toNat)).toInt := rfl; have L := jz13 σ.1 ok (cmA_rI h) (cmA_rJ h) (show p1.toInt.toNat < _ by omega); rw [show (1 : Int32).toInt = 1 from by decide +kernel, dsD_1 o.2.2] at L; have rg : rgD (md (mF σ p1)) := (fun X Y k => md_R (f := mF σ p1) o (X, Y) k); exact ⟨⟨fun _ => by unfold ilN; rw [if_neg t22]; decide +kernel, fun a => absurd a (by omega), fun a => absurd a (by omega)⟩, o⟩) | (exfalso; exact xpz56 t59 ⟨by omega, by omega⟩) | (have q := xpz2.1 t5; rw [cm_0 h] at q; have o := ok.2.2.1 p1.toInt.toNat (by omega); have o1 := o.1; have o2 := o.2.1; have eW_ : (mW σ p1).toInt = (σ.1.1 (3 + p1.toInt.toNat)).toInt := rfl; have eH_ : (mH σ p1).toInt = (σ.1.1 (11 + p1.toInt.toNat)).toInt := rfl; have L := jz13 σ.1 ok (cmA_rI h) (cmA_rJ h) (show p1.toInt.toNat < _ by omega); rw [show (1 : Int32).toInt = 1 from by decide +kernel, dsD_1 o.2.2] at L; have rg : rgD (md (mF σ p1)) := (fun X Y k => md_R (f := mF σ p1) o (X, Y) k); have e38 : z38.toInt = isT (B2P (md (mF σ p1))) := (congrArg Int32.toInt ez38).trans L.1; have tb := isN_b (B2P (md (mF σ p1))) 40 0; have tb2 : isT (B2P (md (mF σ p1))) = isN (B2P (md (mF σ p1))) 40 0 := rfl; have a42 := tq_sub (k := z38.toInt) (q := 1) ez42 rfl (by decide +kernel) (by omega) (by omega); exact ⟨⟨fun a => absurd a t18, fun _ _ => by decide +kernel, fun a b => absurd ⟨by omega, by omega⟩ (xpz44 t47)⟩, o⟩)), ⟨I, J, ⟨hI, fr_I, kp0_11_I, dn_I, (fun σ A => cmA_fr hQ hLp0 hKp0 (fun _ _ => rfl) (fun _ _ => rfl) rfl A), dj_J⟩, by rw [ht]; exact hP⟩⟩, hS.F ht⟩) hS.2.2 dX7_island_9
