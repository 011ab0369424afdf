def yX7_islandsOf : MethodName := ⟨RX7, "islandsOf", "(I)I"⟩
def yX7_laysIslands : MethodName := ⟨RX7, "laysIslands", "(IZ)V"⟩
def yX7_joinsIsland : MethodName := ⟨RX7, "joinsIsland", "(IIIZ)V"⟩
def yX7_holesOf : MethodName := ⟨RX7, "holesOf", "(I)I"⟩
def yX7_isOutside : MethodName := ⟨RX7, "isOutside", "(II)Z"⟩
abbrev cX7_islandsOf : ByteArray := prog_9_method_85_code
abbrev cX7_laysIslands : ByteArray := prog_9_method_84_code
abbrev cX7_joinsIsland : ByteArray := prog_9_method_83_code
abbrev cX7_holesOf : ByteArray := prog_9_method_87_code
abbrev cX7_isOutside : ByteArray := prog_9_method_86_code
abbrev cX7_island : ByteArray := prog_9_method_110_code
abbrev cX7_mask : ByteArray := prog_9_method_89_code
def yX7_island : MethodName := ⟨RX7, "island", "(III)I"⟩
def yX7_mask : MethodName := ⟨RX7, "mask", "(II)I"⟩
theorem dX7_holesOf_0 : decode cX7_holesOf 0 = .ok (.aload_n 0, 1) := by decide +kernel
theorem dX7_holesOf_1 : decode cX7_holesOf 1 = .ok (.iload_n 1, 1) := by decide +kernel
theorem dX7_holesOf_2 : decode cX7_holesOf 2 = .ok (.iconst 0, 1) := by decide +kernel
theorem dX7_holesOf_3 : decode cX7_holesOf 3 = .ok (.invokevirtual 364, 3) := by decide +kernel
theorem dX7_holesOf_6 : decode cX7_holesOf 6 = .ok (.iconst 0, 1) := by decide +kernel
theorem dX7_holesOf_7 : decode cX7_holesOf 7 = .ok (.istore_n 2, 1) := by decide +kernel
theorem dX7_holesOf_8 : decode cX7_holesOf 8 = .ok (.iconst 0, 1) := by decide +kernel
theorem dX7_holesOf_9 : decode cX7_holesOf 9 = .ok (.istore_n 3, 1) := by decide +kernel
theorem dX7_holesOf_10 : decode cX7_holesOf 10 = .ok (.iload_n 3, 1) := by decide +kernel
theorem dX7_holesOf_11 : decode cX7_holesOf 11 = .ok (.aload_n 0, 1) := by decide +kernel
theorem dX7_holesOf_12 : decode cX7_holesOf 12 = .ok (.getfield 355, 3) := by decide +kernel
theorem dX7_holesOf_15 : decode cX7_holesOf 15 = .ok (.if_icmp .ge 29, 3) := by decide +kernel
theorem dX7_holesOf_18 : decode cX7_holesOf 18 = .ok (.iload_n 2, 1) := by decide +kernel
theorem dX7_holesOf_19 : decode cX7_holesOf 19 = .ok (.aload_n 0, 1) := by decide +kernel
theorem dX7_holesOf_20 : decode cX7_holesOf 20 = .ok (.iload_n 1, 1) := by decide +kernel
theorem dX7_holesOf_21 : decode cX7_holesOf 21 = .ok (.iload_n 3, 1) := by decide +kernel
theorem dX7_holesOf_22 : decode cX7_holesOf 22 = .ok (.invokevirtual 368, 3) := by decide +kernel
theorem dX7_holesOf_25 : decode cX7_holesOf 25 = .ok (.ifCond .ne 7, 3) := by decide +kernel
theorem dX7_holesOf_28 : decode cX7_holesOf 28 = .ok (.iconst 1, 1) := by decide +kernel
theorem dX7_holesOf_29 : decode cX7_holesOf 29 = .ok (.goto 4, 3) := by decide +kernel
theorem dX7_holesOf_32 : decode cX7_holesOf 32 = .ok (.iconst 0, 1) := by decide +kernel
theorem dX7_holesOf_33 : decode cX7_holesOf 33 = .ok (.invokestatic 127, 3) := by decide +kernel
theorem dX7_holesOf_36 : decode cX7_holesOf 36 = .ok (.iadd, 1) := by decide +kernel
theorem dX7_holesOf_37 : decode cX7_holesOf 37 = .ok (.istore_n 2, 1) := by decide +kernel
theorem dX7_holesOf_38 : decode cX7_holesOf 38 = .ok (.iinc 3 1, 3) := by decide +kernel
theorem dX7_holesOf_41 : decode cX7_holesOf 41 = .ok (.goto (-31), 3) := by decide +kernel
theorem dX7_holesOf_44 : decode cX7_holesOf 44 = .ok (.iload_n 2, 1) := by decide +kernel
theorem dX7_holesOf_45 : decode cX7_holesOf 45 = .ok (.ireturn, 1) := by decide +kernel
theorem dX7_isOutside_0 : decode cX7_isOutside 0 = .ok (.iconst 0, 1) := by decide +kernel
theorem dX7_isOutside_1 : decode cX7_isOutside 1 = .ok (.istore_n 3, 1) := by decide +kernel
theorem dX7_isOutside_2 : decode cX7_isOutside 2 = .ok (.iload_n 3, 1) := by decide +kernel
theorem dX7_isOutside_3 : decode cX7_isOutside 3 = .ok (.aload_n 0, 1) := by decide +kernel
theorem dX7_isOutside_4 : decode cX7_isOutside 4 = .ok (.iload_n 1, 1) := by decide +kernel
theorem dX7_isOutside_5 : decode cX7_isOutside 5 = .ok (.invokevirtual 205, 3) := by decide +kernel
theorem dX7_isOutside_8 : decode cX7_isOutside 8 = .ok (.if_icmp .ge 45, 3) := by decide +kernel
theorem dX7_isOutside_11 : decode cX7_isOutside 11 = .ok (.aload_n 0, 1) := by decide +kernel
theorem dX7_isOutside_12 : decode cX7_isOutside 12 = .ok (.getfield 58, 3) := by decide +kernel
theorem dX7_isOutside_15 : decode cX7_isOutside 15 = .ok (.bipush 100, 2) := by decide +kernel
theorem dX7_isOutside_17 : decode cX7_isOutside 17 = .ok (.iload_n 3, 1) := by decide +kernel
theorem dX7_isOutside_18 : decode cX7_isOutside 18 = .ok (.imul, 1) := by decide +kernel
theorem dX7_isOutside_19 : decode cX7_isOutside 19 = .ok (.iaload, 1) := by decide +kernel
theorem dX7_isOutside_20 : decode cX7_isOutside 20 = .ok (.iload_n 2, 1) := by decide +kernel
theorem dX7_isOutside_21 : decode cX7_isOutside 21 = .ok (.if_icmp .eq 24, 3) := by decide +kernel
theorem dX7_isOutside_24 : decode cX7_isOutside 24 = .ok (.aload_n 0, 1) := by decide +kernel
theorem dX7_isOutside_25 : decode cX7_isOutside 25 = .ok (.getfield 58, 3) := by decide +kernel
theorem dX7_isOutside_28 : decode cX7_isOutside 28 = .ok (.bipush 100, 2) := by decide +kernel
theorem dX7_isOutside_30 : decode cX7_isOutside 30 = .ok (.iload_n 3, 1) := by decide +kernel
theorem dX7_isOutside_31 : decode cX7_isOutside 31 = .ok (.imul, 1) := by decide +kernel
theorem dX7_isOutside_32 : decode cX7_isOutside 32 = .ok (.aload_n 0, 1) := by decide +kernel
theorem dX7_isOutside_33 : decode cX7_isOutside 33 = .ok (.iload_n 1, 1) := by decide +kernel
theorem dX7_isOutside_34 : decode cX7_isOutside 34 = .ok (.invokevirtual 202, 3) := by decide +kernel
theorem dX7_isOutside_37 : decode cX7_isOutside 37 = .ok (.iadd, 1) := by decide +kernel
theorem dX7_isOutside_38 : decode cX7_isOutside 38 = .ok (.iconst 1, 1) := by decide +kernel
theorem dX7_isOutside_39 : decode cX7_isOutside 39 = .ok (.isub, 1) := by decide +kernel
theorem dX7_isOutside_40 : decode cX7_isOutside 40 = .ok (.iaload, 1) := by decide +kernel
theorem dX7_isOutside_41 : decode cX7_isOutside 41 = .ok (.iload_n 2, 1) := by decide +kernel
theorem dX7_isOutside_42 : decode cX7_isOutside 42 = .ok (.if_icmp .ne 5, 3) := by decide +kernel
theorem dX7_isOutside_45 : decode cX7_isOutside 45 = .ok (.iconst 1, 1) := by decide +kernel
theorem dX7_isOutside_46 : decode cX7_isOutside 46 = .ok (.ireturn, 1) := by decide +kernel
theorem dX7_isOutside_47 : decode cX7_isOutside 47 = .ok (.iinc 3 1, 3) := by decide +kernel
theorem dX7_isOutside_50 : decode cX7_isOutside 50 = .ok (.goto (-48), 3) := by decide +kernel
theorem dX7_isOutside_53 : decode cX7_isOutside 53 = .ok (.iconst 0, 1) := by decide +kernel
theorem dX7_isOutside_54 : decode cX7_isOutside 54 = .ok (.istore_n 3, 1) := by decide +kernel
theorem dX7_isOutside_55 : decode cX7_isOutside 55 = .ok (.iload_n 3, 1) := by decide +kernel
theorem dX7_isOutside_56 : decode cX7_isOutside 56 = .ok (.aload_n 0, 1) := by decide +kernel
theorem dX7_isOutside_57 : decode cX7_isOutside 57 = .ok (.iload_n 1, 1) := by decide +kernel
theorem dX7_isOutside_58 : decode cX7_isOutside 58 = .ok (.invokevirtual 202, 3) := by decide +kernel
theorem dX7_isOutside_61 : decode cX7_isOutside 61 = .ok (.if_icmp .ge 42, 3) := by decide +kernel
theorem dX7_isOutside_64 : decode cX7_isOutside 64 = .ok (.aload_n 0, 1) := by decide +kernel
theorem dX7_isOutside_65 : decode cX7_isOutside 65 = .ok (.getfield 58, 3) := by decide +kernel
theorem dX7_isOutside_68 : decode cX7_isOutside 68 = .ok (.iload_n 3, 1) := by decide +kernel
theorem dX7_isOutside_69 : decode cX7_isOutside 69 = .ok (.iaload, 1) := by decide +kernel
theorem dX7_isOutside_70 : decode cX7_isOutside 70 = .ok (.iload_n 2, 1) := by decide +kernel
theorem dX7_isOutside_71 : decode cX7_isOutside 71 = .ok (.if_icmp .eq 24, 3) := by decide +kernel
theorem dX7_isOutside_74 : decode cX7_isOutside 74 = .ok (.aload_n 0, 1) := by decide +kernel
theorem dX7_isOutside_75 : decode cX7_isOutside 75 = .ok (.getfield 58, 3) := by decide +kernel
theorem dX7_isOutside_78 : decode cX7_isOutside 78 = .ok (.bipush 100, 2) := by decide +kernel
theorem dX7_isOutside_80 : decode cX7_isOutside 80 = .ok (.aload_n 0, 1) := by decide +kernel
theorem dX7_isOutside_81 : decode cX7_isOutside 81 = .ok (.iload_n 1, 1) := by decide +kernel
theorem dX7_isOutside_82 : decode cX7_isOutside 82 = .ok (.invokevirtual 205, 3) := by decide +kernel
theorem dX7_isOutside_85 : decode cX7_isOutside 85 = .ok (.iconst 1, 1) := by decide +kernel
theorem dX7_isOutside_86 : decode cX7_isOutside 86 = .ok (.isub, 1) := by decide +kernel
theorem dX7_isOutside_87 : decode cX7_isOutside 87 = .ok (.imul, 1) := by decide +kernel
theorem dX7_isOutside_88 : decode cX7_isOutside 88 = .ok (.iload_n 3, 1) := by decide +kernel
theorem dX7_isOutside_89 : decode cX7_isOutside 89 = .ok (.iadd, 1) := by decide +kernel
theorem dX7_isOutside_90 : decode cX7_isOutside 90 = .ok (.iaload, 1) := by decide +kernel
theorem dX7_isOutside_91 : decode cX7_isOutside 91 = .ok (.iload_n 2, 1) := by decide +kernel
theorem dX7_isOutside_92 : decode cX7_isOutside 92 = .ok (.if_icmp .ne 5, 3) := by decide +kernel
theorem dX7_isOutside_95 : decode cX7_isOutside 95 = .ok (.iconst 1, 1) := by decide +kernel
theorem dX7_isOutside_96 : decode cX7_isOutside 96 = .ok (.ireturn, 1) := by decide +kernel
theorem dX7_isOutside_97 : decode cX7_isOutside 97 = .ok (.iinc 3 1, 3) := by decide +kernel
theorem dX7_isOutside_100 : decode cX7_isOutside 100 = .ok (.goto (-45), 3) := by decide +kernel
theorem dX7_isOutside_103 : decode cX7_isOutside 103 = .ok (.iconst 0, 1) := by decide +kernel
theorem dX7_isOutside_104 : decode cX7_isOutside 104 = .ok (.ireturn, 1) := by decide +kernel
theorem dX7_island_0 : decode cX7_island 0 = .ok (.aload_n 0, 1) := by decide +kernel
theorem dX7_island_1 : decode cX7_island 1 = .ok (.iload_n 1, 1) := by decide +kernel
theorem dX7_island_2 : decode cX7_island 2 = .ok (.invokevirtual 301, 3) := by decide +kernel
theorem dX7_island_5 : decode cX7_island 5 = .ok (.ifCond .ne 5, 3) := by decide +kernel
theorem dX7_island_8 : decode cX7_island 8 = .ok (.iconst (-1), 1) := by decide +kernel
theorem dX7_island_9 : decode cX7_island 9 = .ok (.ireturn, 1) := by decide +kernel
theorem dX7_island_10 : decode cX7_island 10 = .ok (.aload_n 0, 1) := by decide +kernel
theorem dX7_island_11 : decode cX7_island 11 = .ok (.iload_n 1, 1) := by decide +kernel
theorem dX7_island_12 : decode cX7_island 12 = .ok (.iconst 1, 1) := by decide +kernel
theorem dX7_island_13 : decode cX7_island 13 = .ok (.invokevirtual 364, 3) := by decide +kernel
theorem dX7_island_16 : decode cX7_island 16 = .ok (.iload_n 2, 1) := by decide +kernel
theorem dX7_island_17 : decode cX7_island 17 = .ok (.iconst (-1), 1) := by decide +kernel
theorem dX7_island_18 : decode cX7_island 18 = .ok (.if_icmp .ne 16, 3) := by decide +kernel
theorem dX7_island_21 : decode cX7_island 21 = .ok (.iload_n 3, 1) := by decide +kernel
theorem dX7_island_22 : decode cX7_island 22 = .ok (.ifCond .ne 10, 3) := by decide +kernel
theorem dX7_island_25 : decode cX7_island 25 = .ok (.aload_n 0, 1) := by decide +kernel
theorem dX7_island_26 : decode cX7_island 26 = .ok (.getfield 355, 3) := by decide +kernel
theorem dX7_island_29 : decode cX7_island 29 = .ok (.goto 4, 3) := by decide +kernel
theorem dX7_island_32 : decode cX7_island 32 = .ok (.iconst (-1), 1) := by decide +kernel
theorem dX7_island_33 : decode cX7_island 33 = .ok (.ireturn, 1) := by decide +kernel
theorem dX7_island_34 : decode cX7_island 34 = .ok (.iload_n 2, 1) := by decide +kernel
theorem dX7_island_35 : decode cX7_island 35 = .ok (.i2l, 1) := by decide +kernel
theorem dX7_island_36 : decode cX7_island 36 = .ok (.lconst 0, 1) := by decide +kernel
theorem dX7_island_37 : decode cX7_island 37 = .ok (.aload_n 0, 1) := by decide +kernel
theorem dX7_island_38 : decode cX7_island 38 = .ok (.getfield 355, 3) := by decide +kernel
theorem dX7_island_41 : decode cX7_island 41 = .ok (.iconst 1, 1) := by decide +kernel
theorem dX7_island_42 : decode cX7_island 42 = .ok (.isub, 1) := by decide +kernel
theorem dX7_island_43 : decode cX7_island 43 = .ok (.i2l, 1) := by decide +kernel
theorem dX7_island_44 : decode cX7_island 44 = .ok (.invokestatic 96, 3) := by decide +kernel
theorem dX7_island_47 : decode cX7_island 47 = .ok (.ifCond .eq 15, 3) := by decide +kernel
theorem dX7_island_50 : decode cX7_island 50 = .ok (.iload_n 3, 1) := by decide +kernel
theorem dX7_island_51 : decode cX7_island 51 = .ok (.i2l, 1) := by decide +kernel
theorem dX7_island_52 : decode cX7_island 52 = .ok (.lconst 0, 1) := by decide +kernel
theorem dX7_island_53 : decode cX7_island 53 = .ok (.ldc2_w 411, 3) := by decide +kernel
theorem dX7_island_56 : decode cX7_island 56 = .ok (.invokestatic 96, 3) := by decide +kernel
theorem dX7_island_59 : decode cX7_island 59 = .ok (.ifCond .ne 5, 3) := by decide +kernel
theorem dX7_island_62 : decode cX7_island 62 = .ok (.iconst (-1), 1) := by decide +kernel
theorem dX7_island_63 : decode cX7_island 63 = .ok (.ireturn, 1) := by decide +kernel
theorem dX7_island_64 : decode cX7_island 64 = .ok (.iconst 0, 1) := by decide +kernel
theorem dX7_island_65 : decode cX7_island 65 = .ok (.istore 4, 2) := by decide +kernel
theorem dX7_island_67 : decode cX7_island 67 = .ok (.bipush 100, 2) := by decide +kernel
theorem dX7_island_69 : decode cX7_island 69 = .ok (.istore 5, 2) := by decide +kernel
theorem dX7_island_71 : decode cX7_island 71 = .ok (.bipush 40, 2) := by decide +kernel
theorem dX7_island_73 : decode cX7_island 73 = .ok (.istore 6, 2) := by decide +kernel
theorem dX7_island_75 : decode cX7_island 75 = .ok (.iconst 0, 1) := by decide +kernel
theorem dX7_island_76 : decode cX7_island 76 = .ok (.istore 7, 2) := by decide +kernel
theorem dX7_island_78 : decode cX7_island 78 = .ok (.iconst 0, 1) := by decide +kernel
theorem dX7_island_79 : decode cX7_island 79 = .ok (.istore 8, 2) := by decide +kernel
theorem dX7_island_81 : decode cX7_island 81 = .ok (.iconst 0, 1) := by decide +kernel
theorem dX7_island_82 : decode cX7_island 82 = .ok (.istore 9, 2) := by decide +kernel
theorem dX7_island_84 : decode cX7_island 84 = .ok (.iload 9, 2) := by decide +kernel
theorem dX7_island_86 : decode cX7_island 86 = .ok (.aload_n 0, 1) := by decide +kernel
theorem dX7_island_87 : decode cX7_island 87 = .ok (.iload_n 1, 1) := by decide +kernel
theorem dX7_island_88 : decode cX7_island 88 = .ok (.invokevirtual 205, 3) := by decide +kernel
theorem dX7_island_91 : decode cX7_island 91 = .ok (.if_icmp .ge 87, 3) := by decide +kernel
theorem dX7_island_94 : decode cX7_island 94 = .ok (.iconst 0, 1) := by decide +kernel
theorem dX7_island_95 : decode cX7_island 95 = .ok (.istore 10, 2) := by decide +kernel
theorem dX7_island_97 : decode cX7_island 97 = .ok (.iload 10, 2) := by decide +kernel
theorem dX7_island_99 : decode cX7_island 99 = .ok (.aload_n 0, 1) := by decide +kernel
theorem dX7_island_100 : decode cX7_island 100 = .ok (.iload_n 1, 1) := by decide +kernel
theorem dX7_island_101 : decode cX7_island 101 = .ok (.invokevirtual 202, 3) := by decide +kernel
theorem dX7_island_104 : decode cX7_island 104 = .ok (.if_icmp .ge 68, 3) := by decide +kernel
theorem dX7_island_107 : decode cX7_island 107 = .ok (.aload_n 0, 1) := by decide +kernel
theorem dX7_island_108 : decode cX7_island 108 = .ok (.getfield 58, 3) := by decide +kernel
theorem dX7_island_111 : decode cX7_island 111 = .ok (.bipush 100, 2) := by decide +kernel
theorem dX7_island_113 : decode cX7_island 113 = .ok (.iload 9, 2) := by decide +kernel
theorem dX7_island_115 : decode cX7_island 115 = .ok (.imul, 1) := by decide +kernel
theorem dX7_island_116 : decode cX7_island 116 = .ok (.iload 10, 2) := by decide +kernel
theorem dX7_island_118 : decode cX7_island 118 = .ok (.iadd, 1) := by decide +kernel
theorem dX7_island_119 : decode cX7_island 119 = .ok (.iaload, 1) := by decide +kernel
theorem dX7_island_120 : decode cX7_island 120 = .ok (.iload_n 2, 1) := by decide +kernel
theorem dX7_island_121 : decode cX7_island 121 = .ok (.if_icmp .eq 6, 3) := by decide +kernel
theorem dX7_island_124 : decode cX7_island 124 = .ok (.goto 42, 3) := by decide +kernel
theorem dX7_island_127 : decode cX7_island 127 = .ok (.iinc 4 1, 3) := by decide +kernel
theorem dX7_island_130 : decode cX7_island 130 = .ok (.iload 5, 2) := by decide +kernel
theorem dX7_island_132 : decode cX7_island 132 = .ok (.iload 10, 2) := by decide +kernel
theorem dX7_island_134 : decode cX7_island 134 = .ok (.invokestatic 121, 3) := by decide +kernel
theorem dX7_island_137 : decode cX7_island 137 = .ok (.istore 5, 2) := by decide +kernel
theorem dX7_island_139 : decode cX7_island 139 = .ok (.iload 6, 2) := by decide +kernel
theorem dX7_island_141 : decode cX7_island 141 = .ok (.iload 9, 2) := by decide +kernel
theorem dX7_island_143 : decode cX7_island 143 = .ok (.invokestatic 121, 3) := by decide +kernel
theorem dX7_island_146 : decode cX7_island 146 = .ok (.istore 6, 2) := by decide +kernel
theorem dX7_island_148 : decode cX7_island 148 = .ok (.iload 7, 2) := by decide +kernel
theorem dX7_island_150 : decode cX7_island 150 = .ok (.iload 10, 2) := by decide +kernel
theorem dX7_island_152 : decode cX7_island 152 = .ok (.invokestatic 219, 3) := by decide +kernel
theorem dX7_island_155 : decode cX7_island 155 = .ok (.istore 7, 2) := by decide +kernel
theorem dX7_island_157 : decode cX7_island 157 = .ok (.iload 8, 2) := by decide +kernel
theorem dX7_island_159 : decode cX7_island 159 = .ok (.iload 9, 2) := by decide +kernel
theorem dX7_island_161 : decode cX7_island 161 = .ok (.invokestatic 219, 3) := by decide +kernel
theorem dX7_island_164 : decode cX7_island 164 = .ok (.istore 8, 2) := by decide +kernel
theorem dX7_island_166 : decode cX7_island 166 = .ok (.iinc 10 1, 3) := by decide +kernel
theorem dX7_island_169 : decode cX7_island 169 = .ok (.goto (-72), 3) := by decide +kernel
theorem dX7_island_172 : decode cX7_island 172 = .ok (.iinc 9 1, 3) := by decide +kernel
theorem dX7_island_175 : decode cX7_island 175 = .ok (.goto (-91), 3) := by decide +kernel
theorem dX7_island_178 : decode cX7_island 178 = .ok (.iload_n 3, 1) := by decide +kernel
theorem dX7_island_179 : decode cX7_island 179 = .ok (.ifCond .ne 8, 3) := by decide +kernel
theorem dX7_island_182 : decode cX7_island 182 = .ok (.iload 4, 2) := by decide +kernel
theorem dX7_island_184 : decode cX7_island 184 = .ok (.goto 35, 3) := by decide +kernel
theorem dX7_island_187 : decode cX7_island 187 = .ok (.iload_n 3, 1) := by decide +kernel
theorem dX7_island_188 : decode cX7_island 188 = .ok (.iconst 1, 1) := by decide +kernel
theorem dX7_island_189 : decode cX7_island 189 = .ok (.if_icmp .ne 8, 3) := by decide +kernel
theorem dX7_island_192 : decode cX7_island 192 = .ok (.iload 5, 2) := by decide +kernel
theorem dX7_island_194 : decode cX7_island 194 = .ok (.goto 25, 3) := by decide +kernel
theorem dX7_island_197 : decode cX7_island 197 = .ok (.iload_n 3, 1) := by decide +kernel
theorem dX7_island_198 : decode cX7_island 198 = .ok (.iconst 2, 1) := by decide +kernel
theorem dX7_island_199 : decode cX7_island 199 = .ok (.if_icmp .ne 8, 3) := by decide +kernel
theorem dX7_island_202 : decode cX7_island 202 = .ok (.iload 6, 2) := by decide +kernel
theorem dX7_island_204 : decode cX7_island 204 = .ok (.goto 15, 3) := by decide +kernel
theorem dX7_island_207 : decode cX7_island 207 = .ok (.iload_n 3, 1) := by decide +kernel
theorem dX7_island_208 : decode cX7_island 208 = .ok (.iconst 3, 1) := by decide +kernel
theorem dX7_island_209 : decode cX7_island 209 = .ok (.if_icmp .ne 8, 3) := by decide +kernel
theorem dX7_island_212 : decode cX7_island 212 = .ok (.iload 7, 2) := by decide +kernel
theorem dX7_island_214 : decode cX7_island 214 = .ok (.goto 5, 3) := by decide +kernel
theorem dX7_island_217 : decode cX7_island 217 = .ok (.iload 8, 2) := by decide +kernel
theorem dX7_island_219 : decode cX7_island 219 = .ok (.ireturn, 1) := by decide +kernel
theorem dX7_islandsOf_0 : decode cX7_islandsOf 0 = .ok (.aload_n 0, 1) := by decide +kernel
theorem dX7_islandsOf_1 : decode cX7_islandsOf 1 = .ok (.iload_n 1, 1) := by decide +kernel
theorem dX7_islandsOf_2 : decode cX7_islandsOf 2 = .ok (.iconst 1, 1) := by decide +kernel
theorem dX7_islandsOf_3 : decode cX7_islandsOf 3 = .ok (.invokevirtual 364, 3) := by decide +kernel
theorem dX7_islandsOf_6 : decode cX7_islandsOf 6 = .ok (.aload_n 0, 1) := by decide +kernel
theorem dX7_islandsOf_7 : decode cX7_islandsOf 7 = .ok (.getfield 355, 3) := by decide +kernel
theorem dX7_islandsOf_10 : decode cX7_islandsOf 10 = .ok (.ireturn, 1) := by decide +kernel
theorem dX7_joinsIsland_0 : decode cX7_joinsIsland 0 = .ok (.iload_n 2, 1) := by decide +kernel
theorem dX7_joinsIsland_1 : decode cX7_joinsIsland 1 = .ok (.i2l, 1) := by decide +kernel
theorem dX7_joinsIsland_2 : decode cX7_joinsIsland 2 = .ok (.lconst 0, 1) := by decide +kernel
theorem dX7_joinsIsland_3 : decode cX7_joinsIsland 3 = .ok (.aload_n 0, 1) := by decide +kernel
theorem dX7_joinsIsland_4 : decode cX7_joinsIsland 4 = .ok (.iload_n 1, 1) := by decide +kernel
theorem dX7_joinsIsland_5 : decode cX7_joinsIsland 5 = .ok (.invokevirtual 202, 3) := by decide +kernel
theorem dX7_joinsIsland_8 : decode cX7_joinsIsland 8 = .ok (.iconst 1, 1) := by decide +kernel
theorem dX7_joinsIsland_9 : decode cX7_joinsIsland 9 = .ok (.isub, 1) := by decide +kernel
theorem dX7_joinsIsland_10 : decode cX7_joinsIsland 10 = .ok (.i2l, 1) := by decide +kernel
theorem dX7_joinsIsland_11 : decode cX7_joinsIsland 11 = .ok (.invokestatic 96, 3) := by decide +kernel
theorem dX7_joinsIsland_14 : decode cX7_joinsIsland 14 = .ok (.ifCond .eq 47, 3) := by decide +kernel
theorem dX7_joinsIsland_17 : decode cX7_joinsIsland 17 = .ok (.iload_n 3, 1) := by decide +kernel
theorem dX7_joinsIsland_18 : decode cX7_joinsIsland 18 = .ok (.i2l, 1) := by decide +kernel
theorem dX7_joinsIsland_19 : decode cX7_joinsIsland 19 = .ok (.lconst 0, 1) := by decide +kernel
theorem dX7_joinsIsland_20 : decode cX7_joinsIsland 20 = .ok (.aload_n 0, 1) := by decide +kernel
theorem dX7_joinsIsland_21 : decode cX7_joinsIsland 21 = .ok (.iload_n 1, 1) := by decide +kernel
theorem dX7_joinsIsland_22 : decode cX7_joinsIsland 22 = .ok (.invokevirtual 205, 3) := by decide +kernel
theorem dX7_joinsIsland_25 : decode cX7_joinsIsland 25 = .ok (.iconst 1, 1) := by decide +kernel
theorem dX7_joinsIsland_26 : decode cX7_joinsIsland 26 = .ok (.isub, 1) := by decide +kernel
theorem dX7_joinsIsland_27 : decode cX7_joinsIsland 27 = .ok (.i2l, 1) := by decide +kernel
theorem dX7_joinsIsland_28 : decode cX7_joinsIsland 28 = .ok (.invokestatic 96, 3) := by decide +kernel
theorem dX7_joinsIsland_31 : decode cX7_joinsIsland 31 = .ok (.ifCond .eq 30, 3) := by decide +kernel
theorem dX7_joinsIsland_34 : decode cX7_joinsIsland 34 = .ok (.aload_n 0, 1) := by decide +kernel
theorem dX7_joinsIsland_35 : decode cX7_joinsIsland 35 = .ok (.getfield 58, 3) := by decide +kernel
theorem dX7_joinsIsland_38 : decode cX7_joinsIsland 38 = .ok (.bipush 100, 2) := by decide +kernel
theorem dX7_joinsIsland_40 : decode cX7_joinsIsland 40 = .ok (.iload_n 3, 1) := by decide +kernel
theorem dX7_joinsIsland_41 : decode cX7_joinsIsland 41 = .ok (.imul, 1) := by decide +kernel
theorem dX7_joinsIsland_42 : decode cX7_joinsIsland 42 = .ok (.iload_n 2, 1) := by decide +kernel
theorem dX7_joinsIsland_43 : decode cX7_joinsIsland 43 = .ok (.iadd, 1) := by decide +kernel
theorem dX7_joinsIsland_44 : decode cX7_joinsIsland 44 = .ok (.iaload, 1) := by decide +kernel
theorem dX7_joinsIsland_45 : decode cX7_joinsIsland 45 = .ok (.iconst (-1), 1) := by decide +kernel
theorem dX7_joinsIsland_46 : decode cX7_joinsIsland 46 = .ok (.if_icmp .ne 15, 3) := by decide +kernel
theorem dX7_joinsIsland_49 : decode cX7_joinsIsland 49 = .ok (.aload_n 0, 1) := by decide +kernel
theorem dX7_joinsIsland_50 : decode cX7_joinsIsland 50 = .ok (.iload_n 1, 1) := by decide +kernel
theorem dX7_joinsIsland_51 : decode cX7_joinsIsland 51 = .ok (.iload_n 2, 1) := by decide +kernel
theorem dX7_joinsIsland_52 : decode cX7_joinsIsland 52 = .ok (.iload_n 3, 1) := by decide +kernel
theorem dX7_joinsIsland_53 : decode cX7_joinsIsland 53 = .ok (.invokevirtual 215, 3) := by decide +kernel
theorem dX7_joinsIsland_56 : decode cX7_joinsIsland 56 = .ok (.iload 4, 2) := by decide +kernel
theorem dX7_joinsIsland_58 : decode cX7_joinsIsland 58 = .ok (.if_icmp .eq 4, 3) := by decide +kernel
theorem dX7_joinsIsland_61 : decode cX7_joinsIsland 61 = .ok (.return_, 1) := by decide +kernel
theorem dX7_joinsIsland_62 : decode cX7_joinsIsland 62 = .ok (.aload_n 0, 1) := by decide +kernel
theorem dX7_joinsIsland_63 : decode cX7_joinsIsland 63 = .ok (.getfield 58, 3) := by decide +kernel
theorem dX7_joinsIsland_66 : decode cX7_joinsIsland 66 = .ok (.bipush 100, 2) := by decide +kernel
theorem dX7_joinsIsland_68 : decode cX7_joinsIsland 68 = .ok (.iload_n 3, 1) := by decide +kernel
theorem dX7_joinsIsland_69 : decode cX7_joinsIsland 69 = .ok (.imul, 1) := by decide +kernel
theorem dX7_joinsIsland_70 : decode cX7_joinsIsland 70 = .ok (.iload_n 2, 1) := by decide +kernel
theorem dX7_joinsIsland_71 : decode cX7_joinsIsland 71 = .ok (.iadd, 1) := by decide +kernel
theorem dX7_joinsIsland_72 : decode cX7_joinsIsland 72 = .ok (.aload_n 0, 1) := by decide +kernel
theorem dX7_joinsIsland_73 : decode cX7_joinsIsland 73 = .ok (.getfield 355, 3) := by decide +kernel
theorem dX7_joinsIsland_76 : decode cX7_joinsIsland 76 = .ok (.iastore, 1) := by decide +kernel
theorem dX7_joinsIsland_77 : decode cX7_joinsIsland 77 = .ok (.aload_n 0, 1) := by decide +kernel
theorem dX7_joinsIsland_78 : decode cX7_joinsIsland 78 = .ok (.getfield 61, 3) := by decide +kernel
theorem dX7_joinsIsland_81 : decode cX7_joinsIsland 81 = .ok (.aload_n 0, 1) := by decide +kernel
theorem dX7_joinsIsland_82 : decode cX7_joinsIsland 82 = .ok (.getfield 358, 3) := by decide +kernel
theorem dX7_joinsIsland_85 : decode cX7_joinsIsland 85 = .ok (.bipush 100, 2) := by decide +kernel
theorem dX7_joinsIsland_87 : decode cX7_joinsIsland 87 = .ok (.iload_n 3, 1) := by decide +kernel
theorem dX7_joinsIsland_88 : decode cX7_joinsIsland 88 = .ok (.imul, 1) := by decide +kernel
theorem dX7_joinsIsland_89 : decode cX7_joinsIsland 89 = .ok (.iload_n 2, 1) := by decide +kernel
theorem dX7_joinsIsland_90 : decode cX7_joinsIsland 90 = .ok (.iadd, 1) := by decide +kernel
theorem dX7_joinsIsland_91 : decode cX7_joinsIsland 91 = .ok (.iastore, 1) := by decide +kernel
theorem dX7_joinsIsland_92 : decode cX7_joinsIsland 92 = .ok (.aload_n 0, 1) := by decide +kernel
theorem dX7_joinsIsland_93 : decode cX7_joinsIsland 93 = .ok (.dup, 1) := by decide +kernel
theorem dX7_joinsIsland_94 : decode cX7_joinsIsland 94 = .ok (.getfield 358, 3) := by decide +kernel
theorem dX7_joinsIsland_97 : decode cX7_joinsIsland 97 = .ok (.iconst 1, 1) := by decide +kernel
theorem dX7_joinsIsland_98 : decode cX7_joinsIsland 98 = .ok (.iadd, 1) := by decide +kernel
theorem dX7_joinsIsland_99 : decode cX7_joinsIsland 99 = .ok (.putfield 358, 3) := by decide +kernel
theorem dX7_joinsIsland_102 : decode cX7_joinsIsland 102 = .ok (.return_, 1) := by decide +kernel
theorem dX7_laysIslands_0 : decode cX7_laysIslands 0 = .ok (.iconst 0, 1) := by decide +kernel
theorem dX7_laysIslands_1 : decode cX7_laysIslands 1 = .ok (.istore_n 3, 1) := by decide +kernel
theorem dX7_laysIslands_2 : decode cX7_laysIslands 2 = .ok (.iload_n 3, 1) := by decide +kernel
theorem dX7_laysIslands_3 : decode cX7_laysIslands 3 = .ok (.sipush 4000, 3) := by decide +kernel
theorem dX7_laysIslands_6 : decode cX7_laysIslands 6 = .ok (.if_icmp .ge 16, 3) := by decide +kernel
theorem dX7_laysIslands_9 : decode cX7_laysIslands 9 = .ok (.aload_n 0, 1) := by decide +kernel
theorem dX7_laysIslands_10 : decode cX7_laysIslands 10 = .ok (.getfield 58, 3) := by decide +kernel
theorem dX7_laysIslands_13 : decode cX7_laysIslands 13 = .ok (.iload_n 3, 1) := by decide +kernel
theorem dX7_laysIslands_14 : decode cX7_laysIslands 14 = .ok (.iconst (-1), 1) := by decide +kernel
theorem dX7_laysIslands_15 : decode cX7_laysIslands 15 = .ok (.iastore, 1) := by decide +kernel
theorem dX7_laysIslands_16 : decode cX7_laysIslands 16 = .ok (.iinc 3 1, 3) := by decide +kernel
theorem dX7_laysIslands_19 : decode cX7_laysIslands 19 = .ok (.goto (-17), 3) := by decide +kernel
theorem dX7_laysIslands_22 : decode cX7_laysIslands 22 = .ok (.aload_n 0, 1) := by decide +kernel
theorem dX7_laysIslands_23 : decode cX7_laysIslands 23 = .ok (.iconst 0, 1) := by decide +kernel
theorem dX7_laysIslands_24 : decode cX7_laysIslands 24 = .ok (.putfield 355, 3) := by decide +kernel
theorem dX7_laysIslands_27 : decode cX7_laysIslands 27 = .ok (.iconst 0, 1) := by decide +kernel
theorem dX7_laysIslands_28 : decode cX7_laysIslands 28 = .ok (.istore_n 3, 1) := by decide +kernel
theorem dX7_laysIslands_29 : decode cX7_laysIslands 29 = .ok (.iload_n 3, 1) := by decide +kernel
theorem dX7_laysIslands_30 : decode cX7_laysIslands 30 = .ok (.aload_n 0, 1) := by decide +kernel
theorem dX7_laysIslands_31 : decode cX7_laysIslands 31 = .ok (.iload_n 1, 1) := by decide +kernel
theorem dX7_laysIslands_32 : decode cX7_laysIslands 32 = .ok (.invokevirtual 205, 3) := by decide +kernel
theorem dX7_laysIslands_35 : decode cX7_laysIslands 35 = .ok (.if_icmp .ge 156, 3) := by decide +kernel
theorem dX7_laysIslands_38 : decode cX7_laysIslands 38 = .ok (.iconst 0, 1) := by decide +kernel
theorem dX7_laysIslands_39 : decode cX7_laysIslands 39 = .ok (.istore 4, 2) := by decide +kernel
theorem dX7_laysIslands_41 : decode cX7_laysIslands 41 = .ok (.iload 4, 2) := by decide +kernel
theorem dX7_laysIslands_43 : decode cX7_laysIslands 43 = .ok (.aload_n 0, 1) := by decide +kernel
theorem dX7_laysIslands_44 : decode cX7_laysIslands 44 = .ok (.iload_n 1, 1) := by decide +kernel
theorem dX7_laysIslands_45 : decode cX7_laysIslands 45 = .ok (.invokevirtual 202, 3) := by decide +kernel
theorem dX7_laysIslands_48 : decode cX7_laysIslands 48 = .ok (.if_icmp .ge 137, 3) := by decide +kernel
theorem dX7_laysIslands_51 : decode cX7_laysIslands 51 = .ok (.aload_n 0, 1) := by decide +kernel
theorem dX7_laysIslands_52 : decode cX7_laysIslands 52 = .ok (.iconst 0, 1) := by decide +kernel
theorem dX7_laysIslands_53 : decode cX7_laysIslands 53 = .ok (.putfield 358, 3) := by decide +kernel
theorem dX7_laysIslands_56 : decode cX7_laysIslands 56 = .ok (.aload_n 0, 1) := by decide +kernel
theorem dX7_laysIslands_57 : decode cX7_laysIslands 57 = .ok (.iload_n 1, 1) := by decide +kernel
theorem dX7_laysIslands_58 : decode cX7_laysIslands 58 = .ok (.iload 4, 2) := by decide +kernel
theorem dX7_laysIslands_60 : decode cX7_laysIslands 60 = .ok (.iload_n 3, 1) := by decide +kernel
theorem dX7_laysIslands_61 : decode cX7_laysIslands 61 = .ok (.iload_n 2, 1) := by decide +kernel
theorem dX7_laysIslands_62 : decode cX7_laysIslands 62 = .ok (.invokevirtual 361, 3) := by decide +kernel
theorem dX7_laysIslands_65 : decode cX7_laysIslands 65 = .ok (.iconst 0, 1) := by decide +kernel
theorem dX7_laysIslands_66 : decode cX7_laysIslands 66 = .ok (.istore 5, 2) := by decide +kernel
theorem dX7_laysIslands_68 : decode cX7_laysIslands 68 = .ok (.iload 5, 2) := by decide +kernel
theorem dX7_laysIslands_70 : decode cX7_laysIslands 70 = .ok (.aload_n 0, 1) := by decide +kernel
theorem dX7_laysIslands_71 : decode cX7_laysIslands 71 = .ok (.getfield 358, 3) := by decide +kernel
theorem dX7_laysIslands_74 : decode cX7_laysIslands 74 = .ok (.if_icmp .ge 81, 3) := by decide +kernel
theorem dX7_laysIslands_77 : decode cX7_laysIslands 77 = .ok (.aload_n 0, 1) := by decide +kernel
theorem dX7_laysIslands_78 : decode cX7_laysIslands 78 = .ok (.getfield 61, 3) := by decide +kernel
theorem dX7_laysIslands_81 : decode cX7_laysIslands 81 = .ok (.iload 5, 2) := by decide +kernel
theorem dX7_laysIslands_83 : decode cX7_laysIslands 83 = .ok (.iaload, 1) := by decide +kernel
theorem dX7_laysIslands_84 : decode cX7_laysIslands 84 = .ok (.bipush 100, 2) := by decide +kernel
theorem dX7_laysIslands_86 : decode cX7_laysIslands 86 = .ok (.irem, 1) := by decide +kernel
theorem dX7_laysIslands_87 : decode cX7_laysIslands 87 = .ok (.istore 6, 2) := by decide +kernel
theorem dX7_laysIslands_89 : decode cX7_laysIslands 89 = .ok (.aload_n 0, 1) := by decide +kernel
theorem dX7_laysIslands_90 : decode cX7_laysIslands 90 = .ok (.getfield 61, 3) := by decide +kernel
theorem dX7_laysIslands_93 : decode cX7_laysIslands 93 = .ok (.iload 5, 2) := by decide +kernel
theorem dX7_laysIslands_95 : decode cX7_laysIslands 95 = .ok (.iaload, 1) := by decide +kernel
theorem dX7_laysIslands_96 : decode cX7_laysIslands 96 = .ok (.bipush 100, 2) := by decide +kernel
theorem dX7_laysIslands_98 : decode cX7_laysIslands 98 = .ok (.idiv, 1) := by decide +kernel
theorem dX7_laysIslands_99 : decode cX7_laysIslands 99 = .ok (.istore 7, 2) := by decide +kernel
theorem dX7_laysIslands_101 : decode cX7_laysIslands 101 = .ok (.aload_n 0, 1) := by decide +kernel
theorem dX7_laysIslands_102 : decode cX7_laysIslands 102 = .ok (.iload_n 1, 1) := by decide +kernel
theorem dX7_laysIslands_103 : decode cX7_laysIslands 103 = .ok (.iload 6, 2) := by decide +kernel
theorem dX7_laysIslands_105 : decode cX7_laysIslands 105 = .ok (.iconst 1, 1) := by decide +kernel
theorem dX7_laysIslands_106 : decode cX7_laysIslands 106 = .ok (.isub, 1) := by decide +kernel
theorem dX7_laysIslands_107 : decode cX7_laysIslands 107 = .ok (.iload 7, 2) := by decide +kernel
theorem dX7_laysIslands_109 : decode cX7_laysIslands 109 = .ok (.iload_n 2, 1) := by decide +kernel
theorem dX7_laysIslands_110 : decode cX7_laysIslands 110 = .ok (.invokevirtual 361, 3) := by decide +kernel
theorem dX7_laysIslands_113 : decode cX7_laysIslands 113 = .ok (.aload_n 0, 1) := by decide +kernel
theorem dX7_laysIslands_114 : decode cX7_laysIslands 114 = .ok (.iload_n 1, 1) := by decide +kernel
theorem dX7_laysIslands_115 : decode cX7_laysIslands 115 = .ok (.iload 6, 2) := by decide +kernel
theorem dX7_laysIslands_117 : decode cX7_laysIslands 117 = .ok (.iconst 1, 1) := by decide +kernel
theorem dX7_laysIslands_118 : decode cX7_laysIslands 118 = .ok (.iadd, 1) := by decide +kernel
theorem dX7_laysIslands_119 : decode cX7_laysIslands 119 = .ok (.iload 7, 2) := by decide +kernel
theorem dX7_laysIslands_121 : decode cX7_laysIslands 121 = .ok (.iload_n 2, 1) := by decide +kernel
theorem dX7_laysIslands_122 : decode cX7_laysIslands 122 = .ok (.invokevirtual 361, 3) := by decide +kernel
theorem dX7_laysIslands_125 : decode cX7_laysIslands 125 = .ok (.aload_n 0, 1) := by decide +kernel
theorem dX7_laysIslands_126 : decode cX7_laysIslands 126 = .ok (.iload_n 1, 1) := by decide +kernel
theorem dX7_laysIslands_127 : decode cX7_laysIslands 127 = .ok (.iload 6, 2) := by decide +kernel
theorem dX7_laysIslands_129 : decode cX7_laysIslands 129 = .ok (.iload 7, 2) := by decide +kernel
theorem dX7_laysIslands_131 : decode cX7_laysIslands 131 = .ok (.iconst 1, 1) := by decide +kernel
theorem dX7_laysIslands_132 : decode cX7_laysIslands 132 = .ok (.isub, 1) := by decide +kernel
theorem dX7_laysIslands_133 : decode cX7_laysIslands 133 = .ok (.iload_n 2, 1) := by decide +kernel
theorem dX7_laysIslands_134 : decode cX7_laysIslands 134 = .ok (.invokevirtual 361, 3) := by decide +kernel
theorem dX7_laysIslands_137 : decode cX7_laysIslands 137 = .ok (.aload_n 0, 1) := by decide +kernel
theorem dX7_laysIslands_138 : decode cX7_laysIslands 138 = .ok (.iload_n 1, 1) := by decide +kernel
theorem dX7_laysIslands_139 : decode cX7_laysIslands 139 = .ok (.iload 6, 2) := by decide +kernel
theorem dX7_laysIslands_141 : decode cX7_laysIslands 141 = .ok (.iload 7, 2) := by decide +kernel
theorem dX7_laysIslands_143 : decode cX7_laysIslands 143 = .ok (.iconst 1, 1) := by decide +kernel
theorem dX7_laysIslands_144 : decode cX7_laysIslands 144 = .ok (.iadd, 1) := by decide +kernel
theorem dX7_laysIslands_145 : decode cX7_laysIslands 145 = .ok (.iload_n 2, 1) := by decide +kernel
theorem dX7_laysIslands_146 : decode cX7_laysIslands 146 = .ok (.invokevirtual 361, 3) := by decide +kernel
theorem dX7_laysIslands_149 : decode cX7_laysIslands 149 = .ok (.iinc 5 1, 3) := by decide +kernel
theorem dX7_laysIslands_152 : decode cX7_laysIslands 152 = .ok (.goto (-84), 3) := by decide +kernel
theorem dX7_laysIslands_155 : decode cX7_laysIslands 155 = .ok (.aload_n 0, 1) := by decide +kernel
theorem dX7_laysIslands_156 : decode cX7_laysIslands 156 = .ok (.dup, 1) := by decide +kernel
theorem dX7_laysIslands_157 : decode cX7_laysIslands 157 = .ok (.getfield 355, 3) := by decide +kernel
theorem dX7_laysIslands_160 : decode cX7_laysIslands 160 = .ok (.aload_n 0, 1) := by decide +kernel
theorem dX7_laysIslands_161 : decode cX7_laysIslands 161 = .ok (.getfield 358, 3) := by decide +kernel
theorem dX7_laysIslands_164 : decode cX7_laysIslands 164 = .ok (.ifCond .le 7, 3) := by decide +kernel
theorem dX7_laysIslands_167 : decode cX7_laysIslands 167 = .ok (.iconst 1, 1) := by decide +kernel
theorem dX7_laysIslands_168 : decode cX7_laysIslands 168 = .ok (.goto 4, 3) := by decide +kernel
theorem dX7_laysIslands_171 : decode cX7_laysIslands 171 = .ok (.iconst 0, 1) := by decide +kernel
theorem dX7_laysIslands_172 : decode cX7_laysIslands 172 = .ok (.invokestatic 127, 3) := by decide +kernel
theorem dX7_laysIslands_175 : decode cX7_laysIslands 175 = .ok (.iadd, 1) := by decide +kernel
theorem dX7_laysIslands_176 : decode cX7_laysIslands 176 = .ok (.putfield 355, 3) := by decide +kernel
theorem dX7_laysIslands_179 : decode cX7_laysIslands 179 = .ok (.iinc 4 1, 3) := by decide +kernel
theorem dX7_laysIslands_182 : decode cX7_laysIslands 182 = .ok (.goto (-141), 3) := by decide +kernel
theorem dX7_laysIslands_185 : decode cX7_laysIslands 185 = .ok (.iinc 3 1, 3) := by decide +kernel
theorem dX7_laysIslands_188 : decode cX7_laysIslands 188 = .ok (.goto (-159), 3) := by decide +kernel
theorem dX7_laysIslands_191 : decode cX7_laysIslands 191 = .ok (.return_, 1) := by decide +kernel
theorem dX7_mask_0 : decode cX7_mask 0 = .ok (.aload_n 0, 1) := by decide +kernel
theorem dX7_mask_1 : decode cX7_mask 1 = .ok (.iload_n 1, 1) := by decide +kernel
theorem dX7_mask_2 : decode cX7_mask 2 = .ok (.invokevirtual 301, 3) := by decide +kernel
theorem dX7_mask_5 : decode cX7_mask 5 = .ok (.ifCond .ne 5, 3) := by decide +kernel
theorem dX7_mask_8 : decode cX7_mask 8 = .ok (.iconst (-1), 1) := by decide +kernel
theorem dX7_mask_9 : decode cX7_mask 9 = .ok (.ireturn, 1) := by decide +kernel
theorem dX7_mask_10 : decode cX7_mask 10 = .ok (.iload_n 2, 1) := by decide +kernel
theorem dX7_mask_11 : decode cX7_mask 11 = .ok (.tableswitch 111 0 9 #[53, 59, 65, 71, 71, 71, 71, 93, 99, 105], 53) := by decide +kernel
theorem dX7_mask_64 : decode cX7_mask 64 = .ok (.aload_n 0, 1) := by decide +kernel
theorem dX7_mask_65 : decode cX7_mask 65 = .ok (.iload_n 1, 1) := by decide +kernel
theorem dX7_mask_66 : decode cX7_mask 66 = .ok (.invokevirtual 202, 3) := by decide +kernel
theorem dX7_mask_69 : decode cX7_mask 69 = .ok (.ireturn, 1) := by decide +kernel
theorem dX7_mask_70 : decode cX7_mask 70 = .ok (.aload_n 0, 1) := by decide +kernel
theorem dX7_mask_71 : decode cX7_mask 71 = .ok (.iload_n 1, 1) := by decide +kernel
theorem dX7_mask_72 : decode cX7_mask 72 = .ok (.invokevirtual 205, 3) := by decide +kernel
theorem dX7_mask_75 : decode cX7_mask 75 = .ok (.ireturn, 1) := by decide +kernel
theorem dX7_mask_76 : decode cX7_mask 76 = .ok (.aload_n 0, 1) := by decide +kernel
theorem dX7_mask_77 : decode cX7_mask 77 = .ok (.iload_n 1, 1) := by decide +kernel
theorem dX7_mask_78 : decode cX7_mask 78 = .ok (.invokevirtual 321, 3) := by decide +kernel
theorem dX7_mask_81 : decode cX7_mask 81 = .ok (.ireturn, 1) := by decide +kernel
theorem dX7_mask_82 : decode cX7_mask 82 = .ok (.aload_n 0, 1) := by decide +kernel
theorem dX7_mask_83 : decode cX7_mask 83 = .ok (.iload_n 1, 1) := by decide +kernel
theorem dX7_mask_84 : decode cX7_mask 84 = .ok (.invokevirtual 346, 3) := by decide +kernel
theorem dX7_mask_87 : decode cX7_mask 87 = .ok (.ifCond .eq 14, 3) := by decide +kernel
theorem dX7_mask_90 : decode cX7_mask 90 = .ok (.aload_n 0, 1) := by decide +kernel
theorem dX7_mask_91 : decode cX7_mask 91 = .ok (.getfield 55, 3) := by decide +kernel
theorem dX7_mask_94 : decode cX7_mask 94 = .ok (.iload_n 2, 1) := by decide +kernel
theorem dX7_mask_95 : decode cX7_mask 95 = .ok (.iconst 3, 1) := by decide +kernel
theorem dX7_mask_96 : decode cX7_mask 96 = .ok (.isub, 1) := by decide +kernel
theorem dX7_mask_97 : decode cX7_mask 97 = .ok (.iaload, 1) := by decide +kernel
theorem dX7_mask_98 : decode cX7_mask 98 = .ok (.goto 5, 3) := by decide +kernel
theorem dX7_mask_101 : decode cX7_mask 101 = .ok (.bipush (-2), 2) := by decide +kernel
theorem dX7_mask_103 : decode cX7_mask 103 = .ok (.ireturn, 1) := by decide +kernel
theorem dX7_mask_104 : decode cX7_mask 104 = .ok (.aload_n 0, 1) := by decide +kernel
theorem dX7_mask_105 : decode cX7_mask 105 = .ok (.iload_n 1, 1) := by decide +kernel
theorem dX7_mask_106 : decode cX7_mask 106 = .ok (.invokevirtual 371, 3) := by decide +kernel
theorem dX7_mask_109 : decode cX7_mask 109 = .ok (.ireturn, 1) := by decide +kernel
theorem dX7_mask_110 : decode cX7_mask 110 = .ok (.aload_n 0, 1) := by decide +kernel
theorem dX7_mask_111 : decode cX7_mask 111 = .ok (.iload_n 1, 1) := by decide +kernel
theorem dX7_mask_112 : decode cX7_mask 112 = .ok (.invokevirtual 374, 3) := by decide +kernel
theorem dX7_mask_115 : decode cX7_mask 115 = .ok (.ireturn, 1) := by decide +kernel
theorem dX7_mask_116 : decode cX7_mask 116 = .ok (.aload_n 0, 1) := by decide +kernel
theorem dX7_mask_117 : decode cX7_mask 117 = .ok (.iload_n 1, 1) := by decide +kernel
theorem dX7_mask_118 : decode cX7_mask 118 = .ok (.invokevirtual 377, 3) := by decide +kernel
theorem dX7_mask_121 : decode cX7_mask 121 = .ok (.ireturn, 1) := by decide +kernel
theorem dX7_mask_122 : decode cX7_mask 122 = .ok (.iconst (-1), 1) := by decide +kernel
theorem dX7_mask_123 : decode cX7_mask 123 = .ok (.ireturn, 1) := by decide +kernel
set_option maxRecDepth 100000 in
theorem pq56 : Cond.selects RX7 yX7_islandsOf yX7_islandsOf ∈ pw := pw_mem (i := 56) (by decide +kernel) rfl
set_option maxRecDepth 100000 in
theorem pq57 : Cond.selects RX7 yX7_laysIslands yX7_laysIslands ∈ pw := pw_mem (i := 57) (by decide +kernel) rfl
set_option maxRecDepth 100000 in
theorem pq58 : Cond.selects RX7 yX7_joinsIsland yX7_joinsIsland ∈ pw := pw_mem (i := 58) (by decide +kernel) rfl
set_option maxRecDepth 100000 in
theorem pq59 : Cond.selects RX7 yX7_holesOf yX7_holesOf ∈ pw := pw_mem (i := 59) (by decide +kernel) rfl
set_option maxRecDepth 100000 in
theorem pq60 : Cond.selects RX7 yX7_isOutside yX7_isOutside ∈ pw := pw_mem (i := 60) (by decide +kernel) rfl
set_option maxRecDepth 100000 in
theorem pq61 : Cond.selects RX7 yX7_edgeOf yX7_edgeOf ∈ pw := pw_mem (i := 61) (by decide +kernel) rfl
set_option maxRecDepth 100000 in
theorem pq1136 : Cond.fieldLink RX7 58 "MaskTouchModel" "island" "[I" ∈ pw := pw_mem (i := 1136) (by decide +kernel) rfl
set_option maxRecDepth 100000 in
theorem pq1137 : Cond.fieldLink RX7 61 "MaskTouchModel" "queue" "[I" ∈ pw := pw_mem (i := 1137) (by decide +kernel) rfl
set_option maxRecDepth 100000 in
theorem pq1138 : Cond.fieldLink RX7 355 "MaskTouchModel" "islands" "I" ∈ pw := pw_mem (i := 1138) (by decide +kernel) rfl
set_option maxRecDepth 100000 in
theorem pq1139 : Cond.fieldLink RX7 358 "MaskTouchModel" "queued" "I" ∈ pw := pw_mem (i := 1139) (by decide +kernel) rfl
set_option maxRecDepth 100000 in
theorem pq1530 : Cond.methodLink RX7 371 yX7_islandsOf ∈ pw := pw_mem (i := 1530) (by decide +kernel) rfl
set_option maxRecDepth 100000 in
theorem pq1532 : Cond.instanceMethod yX7_islandsOf ∈ pw := pw_mem (i := 1532) (by decide +kernel) rfl
set_option maxRecDepth 100000 in
theorem pq1533 : Cond.code yX7_islandsOf cX7_islandsOf 2 (some .int) ∈ pw := pw_mem (i := 1533) (by rfl) rfl
set_option maxRecDepth 100000 in
theorem pq1534 : Cond.methodLink RX7 364 yX7_laysIslands ∈ pw := pw_mem (i := 1534) (by decide +kernel) rfl
set_option maxRecDepth 100000 in
theorem pq1536 : Cond.instanceMethod yX7_laysIslands ∈ pw := pw_mem (i := 1536) (by decide +kernel) rfl
set_option maxRecDepth 100000 in
theorem pq1537 : Cond.code yX7_laysIslands cX7_laysIslands 8 none ∈ pw := pw_mem (i := 1537) (by rfl) rfl
set_option maxRecDepth 100000 in
theorem pq1538 : Cond.methodLink RX7 361 yX7_joinsIsland ∈ pw := pw_mem (i := 1538) (by decide +kernel) rfl
set_option maxRecDepth 100000 in
theorem pq1540 : Cond.instanceMethod yX7_joinsIsland ∈ pw := pw_mem (i := 1540) (by decide +kernel) rfl
set_option maxRecDepth 100000 in
theorem pq1541 : Cond.code yX7_joinsIsland cX7_joinsIsland 5 none ∈ pw := pw_mem (i := 1541) (by rfl) rfl
set_option maxRecDepth 100000 in
theorem pq1542 : Cond.methodLink RX7 374 yX7_holesOf ∈ pw := pw_mem (i := 1542) (by decide +kernel) rfl
set_option maxRecDepth 100000 in
theorem pq1544 : Cond.instanceMethod yX7_holesOf ∈ pw := pw_mem (i := 1544) (by decide +kernel) rfl
set_option maxRecDepth 100000 in
theorem pq1545 : Cond.code yX7_holesOf cX7_holesOf 4 (some .int) ∈ pw := pw_mem (i := 1545) (by rfl) rfl
set_option maxRecDepth 100000 in
theorem pq1546 : Cond.methodLink RX7 368 yX7_isOutside ∈ pw := pw_mem (i := 1546) (by decide +kernel) rfl
set_option maxRecDepth 100000 in
theorem pq1548 : Cond.instanceMethod yX7_isOutside ∈ pw := pw_mem (i := 1548) (by decide +kernel) rfl
set_option maxRecDepth 100000 in
theorem pq1549 : Cond.code yX7_isOutside cX7_isOutside 4 (some .boolean) ∈ pw := pw_mem (i := 1549) (by rfl) rfl
set_option maxRecDepth 100000 in
theorem pq1550 : Cond.methodLink RX7 377 yX7_edgeOf ∈ pw := pw_mem (i := 1550) (by decide +kernel) rfl
set_option maxRecDepth 100000 in
theorem pq1552 : Cond.instanceMethod yX7_edgeOf ∈ pw := pw_mem (i := 1552) (by decide +kernel) rfl
set_option maxRecDepth 100000 in
theorem pq1553 : Cond.code yX7_edgeOf cX7_edgeOf 5 (some .int) ∈ pw := pw_mem (i := 1553) (by rfl) rfl
set_option maxRecDepth 100000 in
theorem pq1657 : Cond.constantLong RX7 411 (4) ∈ pw := pw_mem (i := 1657) (by decide +kernel) rfl
set_option maxHeartbeats 4000000 in
set_option maxRecDepth 100000 in
theorem s_X7_joinsIsland (l : Launch) (dC : Nat → ClassId) (dI : Nat → Nat → Nat) (cs : Nat → ClassId) (L : List Nat) (K G : Nat → Nat) (Q : Nat → Nat → Option Nat) (hQ : Sv L K G Q) (x0 m0 : Nat) (tx : GT) (tm : GT × Int) (sz : Nat) (I : Nat → Nat → Int32) (J : Nat → Nat → Int64) (hI : Iv L K x0 m0 tx tm I) (p0 : Nat) (hLp0 : p0 ∈ L) (hKp0 : K p0 = 7) (p1 : Int32) (bp1 : (0) ≤ p1.toInt ∧ p1.toInt ≤ 7) (p2 : Int32) (p3 : Int32) (p4 : Int32) (hq : (I p0 24).toInt ≤ (cn (I ((Q p0 21).getD 0)) 4000 : Int)) (hs : ¬ (I p0 23).toInt = -1) : Met l yX7_joinsIsland (.code yX7_joinsIsland cX7_joinsIsland 5 none :: pw) ({ frames := 2, cells := 0, slots := 0, locals := 48 }) (sP (dC, dI) cs [.ref p0, .int p1, .int p2, .int p3, .int p4] sz L K I J Q) (va_Qv (fun (_ : Unit) => True) (fun _ t => sB (dC, dI) cs L K Q (fun I1 J1 => Iv L K x0 m0 tx tm I1 ∧ (∀ b, ¬ (K b = 7 ∨ K b = 11 ∨ K b = 27) → I1 b = I b) ∧ I1 p0 11 = I p0 11 ∧ (((I1 p0 24).toInt ≤ (cn (I1 ((Q p0 21).getD 0)) 4000 : Int) ∧ (∀ k, ¬ k = 24 → I1 p0 k = I p0 k))) ∧ (∀ b, K b = 0 ∨ K b = 1 ∨ K b = 3 ∨ K b = 6 → I1 b = I b) ∧ J1 = J) t) (fun q => q ∈ L ∨ sz ≤ q)) 0 0 (fun q => q ∈ L ∨ sz ≤ q) := by
  refine Met.ofW (cc := cX7_joinsIsland) (maxL := 5) (ret := none) (by decide +kernel) rfl ?_
  intro p e s m args below meth c s₁ B hml hv
  obtain ⟨rfl, hsz, hP, hK, hD0, hN⟩ := hv
  have hx := B.exec
  have hb := B.bytes
  have hr := B.returns
  have hts := fun w (h : w ∈ pw) => atoms_spec (ws := Cond.code yX7_joinsIsland cX7_joinsIsland 5 none :: pw) B.pre w (List.mem_cons_of_mem _ h)
  have hown : s.vm.findClass RX7 = some m.cls := findClass_of_methodNamed B.named
  have hlocks := B.notSynchronized
  subst hsz
  have hBB : 999 ≤ tm.2 ∧ tm.2 ≤ 6000000 := hI.2.2.2.2.1
  have dn_I : (∀ b, K b = 0 ∨ K b = 1 ∨ K b = 3 ∨ K b = 6 → I b = I b) := fun _ _ => rfl
  have dj_J : J = J := rfl
  have kp0_11_I : I p0 11 = I p0 11 := rfl
  have fr_I : ∀ b, ¬ (K b = 7 ∨ K b = 11 ∨ K b = 27) → I b = I b := fun _ _ => rfl
  obtain ⟨A, hAe⟩ : ∃ A : Nat → Prop, A = (fun q => q ∈ L ∨ s.heap.size ≤ q) := ⟨_, rfl⟩
  rw [← hAe]
  have hAL : ∀ q, q ∈ L → A q := fun q h => by rw [hAe]; exact Or.inl h
  have hA : ∀ q, s.heap.size ≤ q → A q := fun q h => by rw [hAe]; exact Or.inr h
  have hD : ∀ F, va_D A (va_pl L F) := fun F => (hD0 F).weaken (fun k q hk _ => hAL _ (pl_mem hk))
  obtain ⟨H, hHe⟩ : ∃ H : Heap, H = s.heap := ⟨_, rfl⟩
  have hS : va_S A s.heap H [] := by rw [hHe]; exact va_S.rf
  rw [← hHe] at hP
  have hl := lv_entry ([.ref p0, .int p1, .int p2, .int p3, .int p4]) (n := 5) (Nat.le_of_ble_eq_true rfl)
  rw [lg_entry_eq]
  generalize (lg_sl ([.ref p0, .int p1, .int p2, .int p3, .int p4]) ++ List.replicate (5 - (lg_sl ([.ref p0, .int p1, .int p2, .int p3, .int p4])).length) Slot.unset).toArray = ls at hl ⊢
  have hl : lv_has ls 5 [(0, .ref p0), (1, .int p1), (2, .int p2), (3, .int p3), (4, .int p4)] := hl
  rw [← hHe]
  refine namedW (fun R Qz hR hQz => ?_)
  refine lv_iload_n hx hb dX7_joinsIsland_0 rfl (lv_at hl 2 rfl) ?_
  refine lv_i2l hx hb dX7_joinsIsland_1 rfl ?_
  refine lv_topl (fun z1 ez1 => ?_)
  have bz1 := tq_i2l (k := p2.toInt) ez1 rfl
  refine lv_lconst (v := 0) hx hb dX7_joinsIsland_2 (by decide +kernel) ?_
  refine lv_aload_n hx hb dX7_joinsIsland_3 rfl (lv_at hl 0 rfl) ?_
  refine lv_iload_n hx hb dX7_joinsIsland_4 rfl (lv_at hl 1 rfl) ?_
  refine ro_i (va_runV (As := [.int p1]) (rest := [.long 0, .long z1]) ⟨hx, hb, hml, hown, hts⟩ (s_X7_wide l dC dI cs L K G Q hQ x0 m0 tx tm H.size I J hI p0 hLp0 hKp0 p1 ⟨by omega, by omega⟩) (cwV 1 hts (gV pq1368 pq1370 pq32 pq81 pq1371) rfl rfl rfl (by decide +kernel) ⟨(by rw [hR]; exact (Nat.le_of_ble_eq_true rfl)), (by rw [hR]; exact (Nat.le_of_ble_eq_true rfl))⟩) (sP_V hP hD hK hN hLp0 hKp0 rfl rfl) rfl rfl hl.1 rfl (lv_room (Nat.le_of_ble_eq_true rfl)) dX7_joinsIsland_5 ⟨(by rw [hR]; exact (Nat.le_of_ble_eq_true rfl)), (by rw [hR]; exact (Nat.le_of_ble_eq_true rfl))⟩) hS hP (fun z5 H locs hz5 hP hS => ?_)
  obtain ⟨bz5, fez5⟩ := hz5
  refine lv_iconst (v := 1) hx hb dX7_joinsIsland_8 (by decide +kernel) ?_
  refine lv_isub hx hb dX7_joinsIsland_9 ?_
  refine lv_topi (fun z9 ez9 => ?_)
  have bz9 := tq_sub (k := z5.toInt) (q := (1)) ez9 rfl (by decide +kernel) (by omega) (by omega)
  refine lv_i2l hx hb dX7_joinsIsland_10 rfl ?_
  refine lv_topl (fun z10 ez10 => ?_)
  have bz10 := tq_i2l (k := z9.toInt) ez10 rfl
  refine ro_i (va_runS (As := [.long z1, .long 0, .long z10]) (rest := []) ⟨hx, hb, hml, hown, hts⟩ (s_X7_in l dC dI cs L K Q H.size I J z1 0 z10) (va_cwS 3 hts (gS pq1234 pq1235 pq81 pq1236) rfl rfl rfl (by decide +kernel) ⟨(by rw [hR]; exact (Nat.le_of_ble_eq_true rfl)), (by rw [hR]; exact (Nat.le_of_ble_eq_true rfl))⟩) (sP_S hP hD hK hN) rfl rfl hl.1 rfl (lv_room (Nat.le_of_ble_eq_true rfl)) dX7_joinsIsland_11 ⟨(by rw [hR]; exact (Nat.le_of_ble_eq_true rfl)), (by rw [hR]; exact (Nat.le_of_ble_eq_true rfl))⟩) hS hP (fun z11 H locs hz11 hP hS => ?_)
  have csl11_0 : (0 : Int64).toInt = 0 := by decide +kernel
  obtain ⟨bz11, imz11, xpz11⟩ := hz11
  refine lv_if_eq (tgt := 61) hx hb dX7_joinsIsland_14 (by decide) (fun c14 => ?_) (fun c14 => ?_)
  · have t14 := tq_eq (k := z11.toInt) (q := (0)) c14 rfl (by decide +kernel)
    subst hR; subst hQz
    exact W.vret hx hb hr (fun t ht hW => ⟨⟨(), rfl, trivial, ⟨I, J, ⟨hI, fr_I, kp0_11_I, ⟨hq, fun _ _ => rfl⟩, dn_I, dj_J⟩, by rw [ht]; exact hP⟩⟩, hS.F ht⟩) hS.2.2 dX7_joinsIsland_61
  · have t14 := tq_ne (k := z11.toInt) (q := (0)) c14 rfl (by decide +kernel)
    have i14 := imz11 t14
    refine lv_iload_n hx hb dX7_joinsIsland_17 rfl (lv_at hl 3 rfl) ?_
    refine lv_i2l hx hb dX7_joinsIsland_18 rfl ?_
    refine lv_topl (fun z18 ez18 => ?_)
    have bz18 := tq_i2l (k := p3.toInt) ez18 rfl
    refine lv_lconst (v := 0) hx hb dX7_joinsIsland_19 (by decide +kernel) ?_
    refine lv_aload_n hx hb dX7_joinsIsland_20 rfl (lv_at hl 0 rfl) ?_
    refine lv_iload_n hx hb dX7_joinsIsland_21 rfl (lv_at hl 1 rfl) ?_
    refine ro_i (va_runV (As := [.int p1]) (rest := [.long 0, .long z18]) ⟨hx, hb, hml, hown, hts⟩ (s_X7_high l dC dI cs L K G Q hQ x0 m0 tx tm H.size I J hI p0 hLp0 hKp0 p1 ⟨by omega, by omega⟩) (cwV 1 hts (gV pq1372 pq1374 pq33 pq81 pq1375) rfl rfl rfl (by decide +kernel) ⟨(by rw [hR]; exact (Nat.le_of_ble_eq_true rfl)), (by rw [hR]; exact (Nat.le_of_ble_eq_true rfl))⟩) (sP_V hP hD hK hN hLp0 hKp0 rfl rfl) rfl rfl hl.1 rfl (lv_room (Nat.le_of_ble_eq_true rfl)) dX7_joinsIsland_22 ⟨(by rw [hR]; exact (Nat.le_of_ble_eq_true rfl)), (by rw [hR]; exact (Nat.le_of_ble_eq_true rfl))⟩) hS hP (fun z22 H locs hz22 hP hS => ?_)
    obtain ⟨bz22, fez22⟩ := hz22
    refine lv_iconst (v := 1) hx hb dX7_joinsIsland_25 (by decide +kernel) ?_
    refine lv_isub hx hb dX7_joinsIsland_26 ?_
    refine lv_topi (fun z26 ez26 => ?_)
    have bz26 := tq_sub (k := z22.toInt) (q := (1)) ez26 rfl (by decide +kernel) (by omega) (by omega)
    refine lv_i2l hx hb dX7_joinsIsland_27 rfl ?_
    refine lv_topl (fun z27 ez27 => ?_)
    have bz27 := tq_i2l (k := z26.toInt) ez27 rfl
    refine ro_i (va_runS (As := [.long z18, .long 0, .long z27]) (rest := []) ⟨hx, hb, hml, hown, hts⟩ (s_X7_in l dC dI cs L K Q H.size I J z18 0 z27) (va_cwS 3 hts (gS pq1234 pq1235 pq81 pq1236) rfl rfl rfl (by decide +kernel) ⟨(by rw [hR]; exact (Nat.le_of_ble_eq_true rfl)), (by rw [hR]; exact (Nat.le_of_ble_eq_true rfl))⟩) (sP_S hP hD hK hN) rfl rfl hl.1 rfl (lv_room (Nat.le_of_ble_eq_true rfl)) dX7_joinsIsland_28 ⟨(by rw [hR]; exact (Nat.le_of_ble_eq_true rfl)), (by rw [hR]; exact (Nat.le_of_ble_eq_true rfl))⟩) hS hP (fun z28 H locs hz28 hP hS => ?_)
    have csl28_0 : (0 : Int64).toInt = 0 := by decide +kernel
    obtain ⟨bz28, imz28, xpz28⟩ := hz28
    refine lv_if_eq (tgt := 61) hx hb dX7_joinsIsland_31 (by decide) (fun c31 => ?_) (fun c31 => ?_)
    · have t31 := tq_eq (k := z28.toInt) (q := (0)) c31 rfl (by decide +kernel)
      subst hR; subst hQz
      exact W.vret hx hb hr (fun t ht hW => ⟨⟨(), rfl, trivial, ⟨I, J, ⟨hI, fr_I, kp0_11_I, ⟨hq, fun _ _ => rfl⟩, dn_I, dj_J⟩, by rw [ht]; exact hP⟩⟩, hS.F ht⟩) hS.2.2 dX7_joinsIsland_61
    · have t31 := tq_ne (k := z28.toInt) (q := (0)) c31 rfl (by decide +kernel)
      have i31 := imz28 t31
      refine lv_aload_n hx hb dX7_joinsIsland_34 rfl (lv_at hl 0 rfl) ?_
      obtain ⟨y35, ey35, hLy35, hKy35⟩ := oQ_7_21 (Sv_at hQ hLp0 hKp0)
      refine p_get (v := .ref y35) hx hb hts inX7 hown hK hP hLp0 hKp0 rfl rfl 21 (by decide) (hts _ pq1136) (congrArg (fun q => some (va_rf q)) ey35) dX7_joinsIsland_35 ?_
      refine lv_bipush (v := 100) hx hb dX7_joinsIsland_38 (by decide +kernel) ?_
      refine lv_iload_n hx hb dX7_joinsIsland_40 rfl (lv_at hl 3 rfl) ?_
      refine lv_imul hx hb dX7_joinsIsland_41 ?_
      refine lv_topi (fun z41 ez41 => ?_)
      have bz41 := tq_mul (k := (100)) (q := p3.toInt) ez41 (by decide +kernel) rfl (by omega) (by omega)
      refine lv_iload_n hx hb dX7_joinsIsland_42 rfl (lv_at hl 2 rfl) ?_
      refine lv_iadd hx hb dX7_joinsIsland_43 ?_
      refine lv_topi (fun z43 ez43 => ?_)
      have bz43 := tq_add (k := z41.toInt) (q := p2.toInt) ez43 rfl rfl (by omega) (by omega)
      refine p_iald hx hb hK hP 17 hLy35 hKy35 rfl rfl (in_of (by omega) (by omega)) dX7_joinsIsland_44 ?_
      refine lv_topi (fun z44 ez44 => ?_)
      refine lv_iconst (v := (-1)) hx hb dX7_joinsIsland_45 (by decide +kernel) ?_
      refine lv_icmp_ne (tgt := 61) hx hb dX7_joinsIsland_46 (by decide) (fun c46 => ?_) (fun c46 => ?_)
      · have t46 := tq_ne (k := z44.toInt) (q := (-1)) c46 rfl (by decide +kernel)
        subst hR; subst hQz
        exact W.vret hx hb hr (fun t ht hW => ⟨⟨(), rfl, trivial, ⟨I, J, ⟨hI, fr_I, kp0_11_I, ⟨hq, fun _ _ => rfl⟩, dn_I, dj_J⟩, by rw [ht]; exact hP⟩⟩, hS.F ht⟩) hS.2.2 dX7_joinsIsland_61
      · have t46 := tq_eq (k := z44.toInt) (q := (-1)) c46 rfl (by decide +kernel)
        refine lv_aload_n hx hb dX7_joinsIsland_49 rfl (lv_at hl 0 rfl) ?_
        refine lv_iload_n hx hb dX7_joinsIsland_50 rfl (lv_at hl 1 rfl) ?_
        refine lv_iload_n hx hb dX7_joinsIsland_51 rfl (lv_at hl 2 rfl) ?_
        refine lv_iload_n hx hb dX7_joinsIsland_52 rfl (lv_at hl 3 rfl) ?_
        refine ro_i (va_runV (As := [.int p1, .int p2, .int p3]) (rest := []) ⟨hx, hb, hml, hown, hts⟩ (s_X7_has l dC dI cs L K G Q hQ x0 m0 tx tm H.size I J hI p0 hLp0 hKp0 p1 ⟨by omega, by omega⟩ p2 p3) (cwV 3 hts (gV pq1376 pq1378 pq34 pq81 pq1379) rfl rfl rfl (by decide +kernel) ⟨(by rw [hR]; exact (Nat.le_of_ble_eq_true rfl)), (by rw [hR]; exact (Nat.le_of_ble_eq_true rfl))⟩) (sP_V hP hD hK hN hLp0 hKp0 rfl rfl) rfl rfl hl.1 rfl (lv_room (Nat.le_of_ble_eq_true rfl)) dX7_joinsIsland_53 ⟨(by rw [hR]; exact (Nat.le_of_ble_eq_true rfl)), (by rw [hR]; exact (Nat.le_of_ble_eq_true rfl))⟩) hS hP (fun z53 H locs hz53 hP hS => ?_)
        obtain ⟨bz53, imz53, xpz53⟩ := hz53
        refine lv_iload hx hb dX7_joinsIsland_56 (lv_at hl 4 rfl) ?_
        refine lv_icmp_eq (tgt := 62) hx hb dX7_joinsIsland_58 (by decide) (fun c58 => ?_) (fun c58 => ?_)
        · have t58 := tq_eq (k := z53.toInt) (q := p4.toInt) c58 rfl rfl
          have hm1 : I y35 z43.toNatClampNeg = -1 := by rw [← ez44]; exact Int32.toInt_inj.mp (t46.trans (by decide +kernel))
          have hq2 : (I p0 24).toInt ≤ (cn (I y35) 4000 : Int) := by have := hq; rw [ey35] at this; exact this
          have hlt := cn_lt (n := 4000) (by show z43.toInt.toNat < 4000; omega) hm1
          refine lv_aload_n hx hb dX7_joinsIsland_62 rfl (lv_at hl 0 rfl) ?_
          refine p_get (v := .ref y35) hx hb hts inX7 hown hK hP hLp0 hKp0 rfl rfl 21 (by decide) (hts _ pq1136) (congrArg (fun q => some (va_rf q)) ey35) dX7_joinsIsland_63 ?_
          refine lv_bipush (v := 100) hx hb dX7_joinsIsland_66 (by decide +kernel) ?_
          refine lv_iload_n hx hb dX7_joinsIsland_68 rfl (lv_at hl 3 rfl) ?_
          refine lv_imul hx hb dX7_joinsIsland_69 ?_
          refine lv_topi (fun z69 ez69 => ?_)
          have bz69 := tq_mul (k := (100)) (q := p3.toInt) ez69 (by decide +kernel) rfl (by omega) (by omega)
          refine lv_iload_n hx hb dX7_joinsIsland_70 rfl (lv_at hl 2 rfl) ?_
          refine lv_iadd hx hb dX7_joinsIsland_71 ?_
          refine lv_topi (fun z71 ez71 => ?_)
          have bz71 := tq_add (k := z69.toInt) (q := p2.toInt) ez71 rfl rfl (by omega) (by omega)
          refine lv_aload_n hx hb dX7_joinsIsland_72 rfl (lv_at hl 0 rfl) ?_
          refine p_get hx hb hts inX7 hown hK hP hLp0 hKp0 rfl rfl 23 (by decide) (hts _ pq1138) rfl dX7_joinsIsland_73 ?_
          refine lv_topi (fun z73 ez73 => ?_)
          have cgz73 := congrArg Int32.toInt ez73
          have ez73b : z73 = I p0 23 := ez73
          refine p_iast hx hb hK hP hD hS 17 hLy35 hKy35 rfl (fun _ => rfl) rfl (in_of (by omega) (by omega)) dX7_joinsIsland_76 (fun H locs hP hS => ?_)
          obtain ⟨Iz76, hP, hIz76, qIz76⟩ : ∃ Iz76, va_P (dC, dI) vwCl (Wd cs L K Iz76 J Q) H ∧ Iv L K x0 m0 tx tm Iz76 ∧ Iz76 = va_up I y35 (upd (I y35) z71.toNatClampNeg z73) := ⟨_, hP, Iv_put hI hKy35 (show okI _ 27 _ from trivial) (Or.inl (by decide)) (Or.inl (by decide)), rfl⟩
          have dn_Iz76 : (∀ b, K b = 0 ∨ K b = 1 ∨ K b = 3 ∨ K b = 6 → Iz76 b = I b) := fun b hc => (congrFun qIz76 b).trans ((va_up_ne _ _ (fun z => by have q := hKy35; rw [← z] at q; omega)).trans (dn_I b hc))
          have kp0_11_Iz76 : Iz76 p0 11 = I p0 11 := (congrFun (congrFun qIz76 p0) 11).trans ((congrFun (va_up_ne _ _ (fun z => by have q1 := hKp0; have q2 := hKy35; rw [z] at q1; omega)) 11).trans kp0_11_I)
          have fr_Iz76 : ∀ b, ¬ (K b = 7 ∨ K b = 11 ∨ K b = 27) → Iz76 b = I b := fun b q => (congrFun qIz76 b).trans ((va_up_ne _ _ (fun z => q (by rw [z]; have := hKy35; omega))).trans (fr_I b q))
          refine lv_aload_n hx hb dX7_joinsIsland_77 rfl (lv_at hl 0 rfl) ?_
          obtain ⟨y78, ey78, hLy78, hKy78⟩ := oQ_7_22 (Sv_at hQ hLp0 hKp0)
          refine p_get (v := .ref y78) hx hb hts inX7 hown hK hP hLp0 hKp0 rfl rfl 22 (by decide) (hts _ pq1137) (congrArg (fun q => some (va_rf q)) ey78) dX7_joinsIsland_78 ?_
          refine lv_aload_n hx hb dX7_joinsIsland_81 rfl (lv_at hl 0 rfl) ?_
          refine p_get hx hb hts inX7 hown hK hP hLp0 hKp0 rfl rfl 24 (by decide) (hts _ pq1139) rfl dX7_joinsIsland_82 ?_
          refine lv_topi (fun z82 ez82 => ?_)
          have cgz82 := congrArg Int32.toInt ez82
          have bz82 := oI_7_24 (Iv_at hIz76 hLp0 hKp0)
          rw [← ez82] at bz82
          have c82 := congrArg Int32.toInt (ez82.trans (show Iz76 p0 24 = I p0 24 by rw [qIz76, va_up_ne _ _ (ne_k hKp0 hKy35 (by decide))]))
          refine lv_bipush (v := 100) hx hb dX7_joinsIsland_85 (by decide +kernel) ?_
          refine lv_iload_n hx hb dX7_joinsIsland_87 rfl (lv_at hl 3 rfl) ?_
          refine lv_imul hx hb dX7_joinsIsland_88 ?_
          refine lv_topi (fun z88 ez88 => ?_)
          have bz88 := tq_mul (k := (100)) (q := p3.toInt) ez88 (by decide +kernel) rfl (by omega) (by omega)
          refine lv_iload_n hx hb dX7_joinsIsland_89 rfl (lv_at hl 2 rfl) ?_
          refine lv_iadd hx hb dX7_joinsIsland_90 ?_
          refine lv_topi (fun z90 ez90 => ?_)
          have bz90 := tq_add (k := z88.toInt) (q := p2.toInt) ez90 rfl rfl (by omega) (by omega)
          refine p_iast hx hb hK hP hD hS 1 hLy78 hKy78 rfl (fun _ => rfl) rfl (in_of (by omega) (by omega)) dX7_joinsIsland_91 (fun H locs hP hS => ?_)
          obtain ⟨Iz91, hP, hIz91, qIz91⟩ : ∃ Iz91, va_P (dC, dI) vwCl (Wd cs L K Iz91 J Q) H ∧ Iv L K x0 m0 tx tm Iz91 ∧ Iz91 = va_up Iz76 y78 (upd (Iz76 y78) z82.toNatClampNeg z90) := ⟨_, hP, Iv_put hIz76 hKy78 (show okI _ 11 _ from trivial) (Or.inl (by decide)) (Or.inl (by decide)), rfl⟩
          have dn_Iz91 : (∀ b, K b = 0 ∨ K b = 1 ∨ K b = 3 ∨ K b = 6 → Iz91 b = I b) := fun b hc => (congrFun qIz91 b).trans ((va_up_ne _ _ (fun z => by have q := hKy78; rw [← z] at q; omega)).trans (dn_Iz76 b hc))
          have kp0_11_Iz91 : Iz91 p0 11 = I p0 11 := (congrFun (congrFun qIz91 p0) 11).trans ((congrFun (va_up_ne _ _ (fun z => by have q1 := hKp0; have q2 := hKy78; rw [z] at q1; omega)) 11).trans kp0_11_Iz76)
          have fr_Iz91 : ∀ b, ¬ (K b = 7 ∨ K b = 11 ∨ K b = 27) → Iz91 b = I b := fun b q => (congrFun qIz91 b).trans ((va_up_ne _ _ (fun z => q (by rw [z]; have := hKy78; omega))).trans (fr_Iz76 b q))
          refine lv_aload_n hx hb dX7_joinsIsland_92 rfl (lv_at hl 0 rfl) ?_
          refine lv_dup hx hb dX7_joinsIsland_93 rfl ?_
          refine p_get hx hb hts inX7 hown hK hP hLp0 hKp0 rfl rfl 24 (by decide) (hts _ pq1139) rfl dX7_joinsIsland_94 ?_
          refine lv_topi (fun z94 ez94 => ?_)
          obtain rfl : z82 = z94 := by rw [ez94, qIz91, va_up_ne _ _ (ne_k hKp0 hKy78 (by decide))]; exact ez82
          have ez82x94 := ez94
          refine lv_iconst (v := 1) hx hb dX7_joinsIsland_97 (by decide +kernel) ?_
          refine lv_iadd hx hb dX7_joinsIsland_98 ?_
          refine lv_topi (fun z98 ez98 => ?_)
          have bz98 := tq_add (k := z82.toInt) (q := (1)) ez98 rfl (by decide +kernel) (by omega) (by omega)
          refine p_put hx hb hts inX7 tyX7 tyX7_ok nmX7 hown hK hP hD hS hLp0 hKp0 rfl rfl 24 (by decide) (hts _ pq1139) rfl (by decide +kernel) (Nat.le_of_ble_eq_true rfl) (oS_7_24 cs _ _ _ _) dX7_joinsIsland_99 (fun H locs hP hS => ?_)
          obtain ⟨Iz99, hP, hIz99, qIz99⟩ : ∃ Iz99, va_P (dC, dI) vwCl (Wd cs L K Iz99 J Q) H ∧ Iv L K x0 m0 tx tm Iz99 ∧ Iz99 = va_up Iz91 p0 (upd (Iz91 p0) 24 z98) := ⟨_, hP, Iv_put hIz91 hKp0 (oP_7_24 (Iv_at hIz91 hLp0 hKp0) ⟨by omega, by omega⟩) (by decide) (by decide), rfl⟩
          have dn_Iz99 : (∀ b, K b = 0 ∨ K b = 1 ∨ K b = 3 ∨ K b = 6 → Iz99 b = I b) := fun b hc => (congrFun qIz99 b).trans ((va_up_ne _ _ (fun z => by have q := hKp0; rw [← z] at q; omega)).trans (dn_Iz91 b hc))
          have kp0_11_Iz99 : Iz99 p0 11 = I p0 11 := (congrFun (congrFun qIz99 p0) 11).trans ((rz_fr _ _ _ _ (by decide)).trans kp0_11_Iz91)
          have fr_Iz99 : ∀ b, ¬ (K b = 7 ∨ K b = 11 ∨ K b = 27) → Iz99 b = I b := fun b q => (congrFun qIz99 b).trans ((va_up_ne _ _ (fun z => q (by rw [z]; have := hKp0; omega))).trans (fr_Iz91 b q))
          subst hR; subst hQz
          exact W.vret hx hb hr (fun t ht hW => ⟨⟨(), rfl, trivial, ⟨Iz99, J, ⟨hIz99, fr_Iz99, kp0_11_Iz99, ⟨by rw [(show Iz99 ((Q p0 21).getD 0) = upd (I y35) z43.toNatClampNeg z73 by rw [ey35]; show Iz99 y35 = _; rw [qIz99, va_up_ne _ _ (ne_k hKy35 hKp0 (by decide)), qIz91, va_up_ne _ _ (ne_k hKy35 hKy78 (by decide)), qIz76, va_up_self]; congr 1; show z71.toInt.toNat = z43.toInt.toNat; omega), cn_upd 4000 (by show z43.toInt.toNat < 4000; omega) hm1 (fun q => hs (by rw [← ez73b, q]; decide +kernel)), qIz99, rz_at]; omega, fun k hk => by rw [qIz99, rz_fr _ _ _ _ hk, qIz91, va_up_ne _ _ (ne_k hKp0 hKy78 (by decide)), qIz76, va_up_ne _ _ (ne_k hKp0 hKy35 (by decide))]⟩, dn_Iz99, dj_J⟩, by rw [ht]; exact hP⟩⟩, hS.F ht⟩) hS.2.2 dX7_joinsIsland_102
        · have t58 := tq_ne (k := z53.toInt) (q := p4.toInt) c58 rfl rfl
          subst hR; subst hQz
          exact W.vret hx hb hr (fun t ht hW => ⟨⟨(), rfl, trivial, ⟨I, J, ⟨hI, fr_I, kp0_11_I, ⟨hq, fun _ _ => rfl⟩, dn_I, dj_J⟩, by rw [ht]; exact hP⟩⟩, hS.F ht⟩) hS.2.2 dX7_joinsIsland_61

set_option maxHeartbeats 4000000 in
set_option maxRecDepth 100000 in
theorem s_X7_laysIslands (l : Launch) (dC : Nat → ClassId) (dI : Nat → Nat → Nat) (cs : Nat → ClassId) (L : List Nat) (K G : Nat → Nat) (Q : Nat → Nat → Option Nat) (hQ : Sv L K G Q) (x0 m0 : Nat) (tx : GT) (tm : GT × Int) (sz : Nat) (I : Nat → Nat → Int32) (J : Nat → Nat → Int64) (hI : Iv L K x0 m0 tx tm I) (p0 : Nat) (hLp0 : p0 ∈ L) (hKp0 : K p0 = 7) (p1 : Int32) (bp1 : (0) ≤ p1.toInt ∧ p1.toInt ≤ 7) (p2 : Int32) : Met l yX7_laysIslands (.code yX7_laysIslands cX7_laysIslands 8 none :: pw) ({ frames := 3, cells := 0, slots := 0, locals := 72 }) (sP (dC, dI) cs [.ref p0, .int p1, .int p2] sz L K I J Q) (va_Qv (fun (_ : Unit) => True) (fun _ t => sB (dC, dI) cs L K Q (fun I1 J1 => Iv L K x0 m0 tx tm I1 ∧ (∀ b, ¬ (K b = 7 ∨ K b = 11 ∨ K b = 27) → I1 b = I b) ∧ I1 p0 11 = I p0 11 ∧ ((0 ≤ (I1 p0 23).toInt ∧ (I1 p0 23).toInt ≤ 4000 ∧ (0 < (I1 p0 23).toInt → 1 ≤ (I ((Q p0 0).getD 0) (3 + p1.toInt.toNat)).toInt ∧ 1 ≤ (I ((Q p0 0).getD 0) (11 + p1.toInt.toNat)).toInt))) ∧ (∀ b, K b = 0 ∨ K b = 1 ∨ K b = 3 ∨ K b = 6 → I1 b = I b) ∧ J1 = J) t) (fun q => q ∈ L ∨ sz ≤ q)) 0 0 (fun q => q ∈ L ∨ sz ≤ q) := by
  refine Met.ofW (cc := cX7_laysIslands) (maxL := 8) (ret := none) (by decide +kernel) rfl ?_
  intro p e s m args below meth c s₁ B hml hv
  obtain ⟨rfl, hsz, hP, hK, hD0, hN⟩ := hv
  have hx := B.exec
  have hb := B.bytes
  have hr := B.returns
  have hts := fun w (h : w ∈ pw) => atoms_spec (ws := Cond.code yX7_laysIslands cX7_laysIslands 8 none :: pw) B.pre w (List.mem_cons_of_mem _ h)
  have hown : s.vm.findClass RX7 = some m.cls := findClass_of_methodNamed B.named
  have hlocks := B.notSynchronized
  subst hsz
  have hBB : 999 ≤ tm.2 ∧ tm.2 ≤ 6000000 := hI.2.2.2.2.1
  have dn_I : (∀ b, K b = 0 ∨ K b = 1 ∨ K b = 3 ∨ K b = 6 → I b = I b) := fun _ _ => rfl
  have dj_J : J = J := rfl
  have kp0_11_I : I p0 11 = I p0 11 := rfl
  have fr_I : ∀ b, ¬ (K b = 7 ∨ K b = 11 ∨ K b = 27) → I b = I b := fun _ _ => rfl
  obtain ⟨A, hAe⟩ : ∃ A : Nat → Prop, A = (fun q => q ∈ L ∨ s.heap.size ≤ q) := ⟨_, rfl⟩
  rw [← hAe]
  have hAL : ∀ q, q ∈ L → A q := fun q h => by rw [hAe]; exact Or.inl h
  have hA : ∀ q, s.heap.size ≤ q → A q := fun q h => by rw [hAe]; exact Or.inr h
  have hD : ∀ F, va_D A (va_pl L F) := fun F => (hD0 F).weaken (fun k q hk _ => hAL _ (pl_mem hk))
  obtain ⟨H, hHe⟩ : ∃ H : Heap, H = s.heap := ⟨_, rfl⟩
  have hS : va_S A s.heap H [] := by rw [hHe]; exact va_S.rf
  rw [← hHe] at hP
  have hl := lv_entry ([.ref p0, .int p1, .int p2]) (n := 8) (Nat.le_of_ble_eq_true rfl)
  rw [lg_entry_eq]
  generalize (lg_sl ([.ref p0, .int p1, .int p2]) ++ List.replicate (8 - (lg_sl ([.ref p0, .int p1, .int p2])).length) Slot.unset).toArray = ls at hl ⊢
  have hl : lv_has ls 8 [(0, .ref p0), (1, .int p1), (2, .int p2)] := hl
  rw [← hHe]
  refine namedW (fun R Qz hR hQz => ?_)
  refine lv_iconst (v := 0) hx hb dX7_laysIslands_0 (by decide +kernel) ?_
  refine lv_istore_n (lv' := [(3, .int 0), (0, .ref p0), (1, .int p1), (2, .int p2)]) hx hb dX7_laysIslands_1 rfl hl (by decide) rfl (fun ls hl => ?_)
  have key2 := blocks (fun n => ∀ (v2_3 : Int32) (I2 : Nat → Nat → Int32) (H : Heap) (lo : List Loc) (ls : Array Slot), (4001 - v2_3.toInt).toNat = n → ((0) ≤ v2_3.toInt ∧ v2_3.toInt ≤ 4000) → Iv L K x0 m0 tx tm I2 → I2 p0 11 = I p0 11 → (∀ b, ¬ (K b = 7 ∨ K b = 11 ∨ K b = 27) → I2 b = I b) → (∀ b, K b = 0 ∨ K b = 1 ∨ K b = 3 ∨ K b = 6 → I2 b = I b) → va_P (dC, dI) vwCl (Wd cs L K I2 J Q) H → va_S A s.heap H lo → lv_has ls 8 [(0, .ref p0), (1, .int p1), (2, .int p2), (3, .int v2_3)] → W p l e R s m (([.ref p0, .int p1, .int p2] : List Value).toArray) below meth c H lo 0 0 Qz (F0 m 2 ls [])) (by
    intro n ih2
    intro v2_3 I2 H lo ls hmu2 bv2_3 hI2 kp0_11_I2 fr_I2 dn_I2 hP hS hl
    refine lv_iload_n hx hb dX7_laysIslands_2 rfl (lv_at hl 3 rfl) ?_
    refine lv_sipush (v := 4000) hx hb dX7_laysIslands_3 (by decide +kernel) ?_
    refine lv_icmp_ge (tgt := 22) hx hb dX7_laysIslands_6 (by decide) (fun c6 => ?_) (fun c6 => ?_)
    · have t6 := tq_le (k := (4000)) (q := v2_3.toInt) c6 (by decide +kernel) rfl
      refine lv_aload_n hx hb dX7_laysIslands_22 rfl (lv_at hl 0 rfl) ?_
      refine lv_iconst (v := 0) hx hb dX7_laysIslands_23 (by decide +kernel) ?_
      refine p_put hx hb hts inX7 tyX7 tyX7_ok nmX7 hown hK hP hD hS hLp0 hKp0 rfl rfl 23 (by decide) (hts _ pq1138) rfl (by decide +kernel) (Nat.le_of_ble_eq_true rfl) (oS_7_23 cs _ _ _ _) dX7_laysIslands_24 (fun H locs hP hS => ?_)
      obtain ⟨Iz24, hP, hIz24, qIz24⟩ : ∃ Iz24, va_P (dC, dI) vwCl (Wd cs L K Iz24 J Q) H ∧ Iv L K x0 m0 tx tm Iz24 ∧ Iz24 = va_up I2 p0 (upd (I2 p0) 23 (0 : Int32)) := ⟨_, hP, Iv_put hI2 hKp0 (oP_7_23 (Iv_at hI2 hLp0 hKp0)) (by decide) (by decide), rfl⟩
      have dn_Iz24 : (∀ b, K b = 0 ∨ K b = 1 ∨ K b = 3 ∨ K b = 6 → Iz24 b = I b) := fun b hc => (congrFun qIz24 b).trans ((va_up_ne _ _ (fun z => by have q := hKp0; rw [← z] at q; omega)).trans (dn_I2 b hc))
      have kp0_11_Iz24 : Iz24 p0 11 = I p0 11 := (congrFun (congrFun qIz24 p0) 11).trans ((rz_fr _ _ _ _ (by decide)).trans kp0_11_I2)
      have fr_Iz24 : ∀ b, ¬ (K b = 7 ∨ K b = 11 ∨ K b = 27) → Iz24 b = I b := fun b q => (congrFun qIz24 b).trans ((va_up_ne _ _ (fun z => q (by rw [z]; have := hKp0; omega))).trans (fr_I2 b q))
      refine lv_iconst (v := 0) hx hb dX7_laysIslands_27 (by decide +kernel) ?_
      refine lv_istore_n (lv' := [(3, .int 0), (0, .ref p0), (1, .int p1), (2, .int p2)]) hx hb dX7_laysIslands_28 rfl hl (by decide) rfl (fun ls hl => ?_)
      have key29 := blocks (fun n => ∀ (v29_3 : Int32) (I29 : Nat → Nat → Int32) (H : Heap) (lo : List Loc) (ls : Array Slot), (41 - v29_3.toInt).toNat = n → ((0) ≤ v29_3.toInt ∧ v29_3.toInt ≤ 40) → Iv L K x0 m0 tx tm I29 → I29 p0 11 = I p0 11 → (∀ b, ¬ (K b = 7 ∨ K b = 11 ∨ K b = 27) → I29 b = I b) → (∀ b, K b = 0 ∨ K b = 1 ∨ K b = 3 ∨ K b = 6 → I29 b = I b) → (0 ≤ (I29 p0 23).toInt ∧ (I29 p0 23).toInt ≤ 100 * v29_3.toInt ∧ (0 < (I29 p0 23).toInt → 1 ≤ (I ((Q p0 0).getD 0) (3 + p1.toInt.toNat)).toInt ∧ 1 ≤ (I ((Q p0 0).getD 0) (11 + p1.toInt.toNat)).toInt)) → va_P (dC, dI) vwCl (Wd cs L K I29 J Q) H → va_S A s.heap H lo → lv_has ls 8 [(0, .ref p0), (1, .int p1), (2, .int p2), (3, .int v29_3)] → W p l e R s m (([.ref p0, .int p1, .int p2] : List Value).toArray) below meth c H lo 0 0 Qz (F0 m 29 ls [])) (by
        intro n ih29
        intro v29_3 I29 H lo ls hmu29 bv29_3 hI29 kp0_11_I29 fr_I29 dn_I29 h29 hP hS hl
        refine lv_iload_n hx hb dX7_laysIslands_29 rfl (lv_at hl 3 rfl) ?_
        refine lv_aload_n hx hb dX7_laysIslands_30 rfl (lv_at hl 0 rfl) ?_
        refine lv_iload_n hx hb dX7_laysIslands_31 rfl (lv_at hl 1 rfl) ?_
        refine ro_i (va_runV (As := [.int p1]) (rest := [.int v29_3]) ⟨hx, hb, hml, hown, hts⟩ (s_X7_high l dC dI cs L K G Q hQ x0 m0 tx tm H.size I29 J hI29 p0 hLp0 hKp0 p1 ⟨by omega, by omega⟩) (cwV 1 hts (gV pq1372 pq1374 pq33 pq81 pq1375) rfl rfl rfl (by decide +kernel) ⟨(by rw [hR]; exact (Nat.le_of_ble_eq_true rfl)), (by rw [hR]; exact (Nat.le_of_ble_eq_true rfl))⟩) (sP_V hP hD hK hN hLp0 hKp0 rfl rfl) rfl rfl hl.1 rfl (lv_room (Nat.le_of_ble_eq_true rfl)) dX7_laysIslands_32 ⟨(by rw [hR]; exact (Nat.le_of_ble_eq_true rfl)), (by rw [hR]; exact (Nat.le_of_ble_eq_true rfl))⟩) hS hP (fun z32 H locs hz32 hP hS => ?_)
        obtain ⟨bz32, fez32⟩ := hz32
        refine lv_icmp_ge (tgt := 191) hx hb dX7_laysIslands_35 (by decide) (fun c35 => ?_) (fun c35 => ?_)
        · have t35 := tq_le (k := z32.toInt) (q := v29_3.toInt) c35 rfl rfl
          subst hR; subst hQz
          exact W.vret hx hb hr (fun t ht hW => ⟨⟨(), rfl, trivial, ⟨I29, J, ⟨hI29, fr_I29, kp0_11_I29, ⟨h29.1, by omega, h29.2.2⟩, dn_I29, dj_J⟩, by rw [ht]; exact hP⟩⟩, hS.F ht⟩) hS.2.2 dX7_laysIslands_191
        · have t35 := tq_nle (k := z32.toInt) (q := v29_3.toInt) c35 rfl rfl
          refine lv_iconst (v := 0) hx hb dX7_laysIslands_38 (by decide +kernel) ?_
          refine lv_istore (lv' := [(4, .int 0), (0, .ref p0), (1, .int p1), (2, .int p2), (3, .int v29_3)]) hx hb dX7_laysIslands_39 hl (by decide) rfl (fun ls hl => ?_)
          have key41 := blocks (fun n => ∀ (v41_4 : Int32) (I41 : Nat → Nat → Int32) (H : Heap) (lo : List Loc) (ls : Array Slot), (101 - v41_4.toInt).toNat = n → ((0) ≤ v41_4.toInt ∧ v41_4.toInt ≤ 100) → Iv L K x0 m0 tx tm I41 → I41 p0 11 = I p0 11 → (∀ b, ¬ (K b = 7 ∨ K b = 11 ∨ K b = 27) → I41 b = I b) → (∀ b, K b = 0 ∨ K b = 1 ∨ K b = 3 ∨ K b = 6 → I41 b = I b) → (0 ≤ (I41 p0 23).toInt ∧ (I41 p0 23).toInt ≤ 100 * v29_3.toInt + v41_4.toInt ∧ (0 < (I41 p0 23).toInt → 1 ≤ (I ((Q p0 0).getD 0) (3 + p1.toInt.toNat)).toInt ∧ 1 ≤ (I ((Q p0 0).getD 0) (11 + p1.toInt.toNat)).toInt)) → va_P (dC, dI) vwCl (Wd cs L K I41 J Q) H → va_S A s.heap H lo → lv_has ls 8 [(0, .ref p0), (1, .int p1), (2, .int p2), (3, .int v29_3), (4, .int v41_4)] → W p l e R s m (([.ref p0, .int p1, .int p2] : List Value).toArray) below meth c H lo 0 0 Qz (F0 m 41 ls [])) (by
            intro n ih41
            intro v41_4 I41 H lo ls hmu41 bv41_4 hI41 kp0_11_I41 fr_I41 dn_I41 h41 hP hS hl
            refine lv_iload hx hb dX7_laysIslands_41 (lv_at hl 4 rfl) ?_
            refine lv_aload_n hx hb dX7_laysIslands_43 rfl (lv_at hl 0 rfl) ?_
            refine lv_iload_n hx hb dX7_laysIslands_44 rfl (lv_at hl 1 rfl) ?_
            refine ro_i (va_runV (As := [.int p1]) (rest := [.int v41_4]) ⟨hx, hb, hml, hown, hts⟩ (s_X7_wide l dC dI cs L K G Q hQ x0 m0 tx tm H.size I41 J hI41 p0 hLp0 hKp0 p1 ⟨by omega, by omega⟩) (cwV 1 hts (gV pq1368 pq1370 pq32 pq81 pq1371) rfl rfl rfl (by decide +kernel) ⟨(by rw [hR]; exact (Nat.le_of_ble_eq_true rfl)), (by rw [hR]; exact (Nat.le_of_ble_eq_true rfl))⟩) (sP_V hP hD hK hN hLp0 hKp0 rfl rfl) rfl rfl hl.1 rfl (lv_room (Nat.le_of_ble_eq_true rfl)) dX7_laysIslands_45 ⟨(by rw [hR]; exact (Nat.le_of_ble_eq_true rfl)), (by rw [hR]; exact (Nat.le_of_ble_eq_true rfl))⟩) hS hP (fun z45 H locs hz45 hP hS => ?_)
            obtain ⟨bz45, fez45⟩ := hz45
            refine lv_icmp_ge (tgt := 185) hx hb dX7_laysIslands_48 (by decide) (fun c48 => ?_) (fun c48 => ?_)
            · have t48 := tq_le (k := z45.toInt) (q := v41_4.toInt) c48 rfl rfl
              obtain ⟨z185, ez185⟩ : ∃ y : Int32, y = v29_3 + 1 := ⟨_, rfl⟩
              refine lv_iinc (v := z185) (lv' := [(3, .int z185), (0, .ref p0), (1, .int p1), (2, .int p2), (4, .int v41_4)]) hx hb dX7_laysIslands_185 hl (k := 3) rfl (by rw [ez185]; rfl) (by decide) rfl (fun ls hl => ?_)
              have bz185 := tq_add (k := v29_3.toInt) (q := 1) ez185 rfl (by decide +kernel) (by omega) (by omega)
              refine lv_goto (tgt := 29) hx hb dX7_laysIslands_188 (by decide) ?_
              exact ih29 _ (by omega) z185 I41 _ _ _ rfl ⟨by omega, by omega⟩ hI41 kp0_11_I41 fr_I41 dn_I41 ⟨h41.1, by omega, h41.2.2⟩ hP hS (lv_sub hl [1, 2, 3, 0] rfl)
            · have t48 := tq_nle (k := z45.toInt) (q := v41_4.toInt) c48 rfl rfl
              refine lv_aload_n hx hb dX7_laysIslands_51 rfl (lv_at hl 0 rfl) ?_
              refine lv_iconst (v := 0) hx hb dX7_laysIslands_52 (by decide +kernel) ?_
              refine p_put hx hb hts inX7 tyX7 tyX7_ok nmX7 hown hK hP hD hS hLp0 hKp0 rfl rfl 24 (by decide) (hts _ pq1139) rfl (by decide +kernel) (Nat.le_of_ble_eq_true rfl) (oS_7_24 cs _ _ _ _) dX7_laysIslands_53 (fun H locs hP hS => ?_)
              obtain ⟨Iz53, hP, hIz53, qIz53⟩ : ∃ Iz53, va_P (dC, dI) vwCl (Wd cs L K Iz53 J Q) H ∧ Iv L K x0 m0 tx tm Iz53 ∧ Iz53 = va_up I41 p0 (upd (I41 p0) 24 (0 : Int32)) := ⟨_, hP, Iv_put hI41 hKp0 (oP_7_24 (Iv_at hI41 hLp0 hKp0) ⟨by decide +kernel, by decide +kernel⟩) (by decide) (by decide), rfl⟩
              have dn_Iz53 : (∀ b, K b = 0 ∨ K b = 1 ∨ K b = 3 ∨ K b = 6 → Iz53 b = I b) := fun b hc => (congrFun qIz53 b).trans ((va_up_ne _ _ (fun z => by have q := hKp0; rw [← z] at q; omega)).trans (dn_I41 b hc))
              have kp0_11_Iz53 : Iz53 p0 11 = I p0 11 := (congrFun (congrFun qIz53 p0) 11).trans ((rz_fr _ _ _ _ (by decide)).trans kp0_11_I41)
              have fr_Iz53 : ∀ b, ¬ (K b = 7 ∨ K b = 11 ∨ K b = 27) → Iz53 b = I b := fun b q => (congrFun qIz53 b).trans ((va_up_ne _ _ (fun z => q (by rw [z]; have := hKp0; omega))).trans (fr_I41 b q))
              refine lv_aload_n hx hb dX7_laysIslands_56 rfl (lv_at hl 0 rfl) ?_
              refine lv_iload_n hx hb dX7_laysIslands_57 rfl (lv_at hl 1 rfl) ?_
              refine lv_iload hx hb dX7_laysIslands_58 (lv_at hl 4 rfl) ?_
              refine lv_iload_n hx hb dX7_laysIslands_60 rfl (lv_at hl 3 rfl) ?_
              refine lv_iload_n hx hb dX7_laysIslands_61 rfl (lv_at hl 2 rfl) ?_
              refine sw_v (Z := (fun I1 J1 => Iv L K x0 m0 tx tm I1 ∧ (∀ b, ¬ (K b = 7 ∨ K b = 11 ∨ K b = 27) → I1 b = Iz53 b) ∧ I1 p0 11 = Iz53 p0 11 ∧ (((I1 p0 24).toInt ≤ (cn (I1 ((Q p0 21).getD 0)) 4000 : Int) ∧ (∀ k, ¬ k = 24 → I1 p0 k = Iz53 p0 k))) ∧ (∀ b, K b = 0 ∨ K b = 1 ∨ K b = 3 ∨ K b = 6 → I1 b = Iz53 b) ∧ J1 = J)) (va_runV (As := [.int p1, .int v41_4, .int v29_3, .int p2]) (rest := []) ⟨hx, hb, hml, hown, hts⟩ (s_X7_joinsIsland l dC dI cs L K G Q hQ x0 m0 tx tm H.size Iz53 J hIz53 p0 hLp0 hKp0 p1 ⟨by omega, by omega⟩ v41_4 v29_3 p2 (by rw [qIz53, rz_at]; rw [show (0 : Int32).toInt = 0 from by decide +kernel]; omega) (by rw [qIz53, rz_fr _ _ _ _ (by decide)]; have := h41.1; omega)) (cwV 4 hts (gV pq1538 pq1540 pq58 pq81 pq1541) rfl rfl rfl (by decide +kernel) ⟨(by rw [hR]; exact (Nat.le_of_ble_eq_true rfl)), (by rw [hR]; exact (Nat.le_of_ble_eq_true rfl))⟩) (sP_V hP hD hK hN hLp0 hKp0 rfl rfl) rfl rfl hl.1 rfl (lv_room (Nat.le_of_ble_eq_true rfl)) dX7_laysIslands_62 ⟨(by rw [hR]; exact (Nat.le_of_ble_eq_true rfl)), (by rw [hR]; exact (Nat.le_of_ble_eq_true rfl))⟩) hS hAL hA (fun Iz62 Jz62 H locs hz62 hIz62 hP hS => ?_)
              obtain ⟨hIz62, frc62, kc62_0_11, zp62, dnc62, djc62⟩ := hIz62
              obtain rfl : J = Jz62 := djc62.symm
              have dn_Iz62 : (∀ b, K b = 0 ∨ K b = 1 ∨ K b = 3 ∨ K b = 6 → Iz62 b = I b) := fun b hc => (dnc62 b (by omega)).trans (dn_Iz53 b hc)
              have kp0_11_Iz62 : Iz62 p0 11 = I p0 11 := kc62_0_11.trans kp0_11_Iz53
              have fr_Iz62 : ∀ b, ¬ (K b = 7 ∨ K b = 11 ∨ K b = 27) → Iz62 b = I b := fun b q => (frc62 b (fun z => q (by omega))).trans (fr_Iz53 b q)
              refine lv_iconst (v := 0) hx hb dX7_laysIslands_65 (by decide +kernel) ?_
              refine lv_istore (lv' := [(5, .int 0), (0, .ref p0), (1, .int p1), (2, .int p2), (3, .int v29_3), (4, .int v41_4)]) hx hb dX7_laysIslands_66 hl (by decide) rfl (fun ls hl => ?_)
              have key68 := blocks (fun n => ∀ (v68_5 : Int32) (I68 : Nat → Nat → Int32) (H : Heap) (lo : List Loc) (ls : Array Slot), (4001 - v68_5.toInt).toNat = n → ((0) ≤ v68_5.toInt ∧ v68_5.toInt ≤ 4000) → Iv L K x0 m0 tx tm I68 → I68 p0 11 = I p0 11 → (∀ b, ¬ (K b = 7 ∨ K b = 11 ∨ K b = 27) → I68 b = I b) → (∀ b, K b = 0 ∨ K b = 1 ∨ K b = 3 ∨ K b = 6 → I68 b = I b) → ((I68 p0 24).toInt ≤ (cn (I68 ((Q p0 21).getD 0)) 4000 : Int) ∧ I68 p0 23 = I41 p0 23) → va_P (dC, dI) vwCl (Wd cs L K I68 J Q) H → va_S A s.heap H lo → lv_has ls 8 [(0, .ref p0), (1, .int p1), (2, .int p2), (3, .int v29_3), (4, .int v41_4), (5, .int v68_5)] → W p l e R s m (([.ref p0, .int p1, .int p2] : List Value).toArray) below meth c H lo 0 0 Qz (F0 m 68 ls [])) (by
                intro n ih68
                intro v68_5 I68 H lo ls hmu68 bv68_5 hI68 kp0_11_I68 fr_I68 dn_I68 h68 hP hS hl
                refine lv_iload hx hb dX7_laysIslands_68 (lv_at hl 5 rfl) ?_
                refine lv_aload_n hx hb dX7_laysIslands_70 rfl (lv_at hl 0 rfl) ?_
                refine p_get hx hb hts inX7 hown hK hP hLp0 hKp0 rfl rfl 24 (by decide) (hts _ pq1139) rfl dX7_laysIslands_71 ?_
                refine lv_topi (fun z71 ez71 => ?_)
                have cgz71 := congrArg Int32.toInt ez71
                have bz71 := oI_7_24 (Iv_at hI68 hLp0 hKp0)
                rw [← ez71] at bz71
                refine lv_icmp_ge (tgt := 155) hx hb dX7_laysIslands_74 (by decide) (fun c74 => ?_) (fun c74 => ?_)
                · have t74 := tq_le (k := z71.toInt) (q := v68_5.toInt) c74 rfl rfl
                  refine lv_aload_n hx hb dX7_laysIslands_155 rfl (lv_at hl 0 rfl) ?_
                  refine lv_dup hx hb dX7_laysIslands_156 rfl ?_
                  refine p_get hx hb hts inX7 hown hK hP hLp0 hKp0 rfl rfl 23 (by decide) (hts _ pq1138) rfl dX7_laysIslands_157 ?_
                  refine lv_topi (fun z157 ez157 => ?_)
                  have cgz157 := congrArg Int32.toInt ez157
                  have c157 := congrArg Int32.toInt (ez157.trans h68.2)
                  refine lv_aload_n hx hb dX7_laysIslands_160 rfl (lv_at hl 0 rfl) ?_
                  refine p_get hx hb hts inX7 hown hK hP hLp0 hKp0 rfl rfl 24 (by decide) (hts _ pq1139) rfl dX7_laysIslands_161 ?_
                  refine lv_topi (fun z161 ez161 => ?_)
                  obtain rfl : z71 = z161 := ez71.trans ez161.symm
                  have j172 : ∀ (w172_2 : Int32) (H : Heap) (lo : List Loc) (ls : Array Slot), ((0) ≤ w172_2.toInt ∧ w172_2.toInt ≤ 1) → va_P (dC, dI) vwCl (Wd cs L K I68 J Q) H → va_S A s.heap H lo → lv_has ls 8 [(0, .ref p0), (1, .int p1), (2, .int p2), (3, .int v29_3), (4, .int v41_4), (5, .int v68_5)] → W p l e R s m (([.ref p0, .int p1, .int p2] : List Value).toArray) below meth c H lo 0 0 Qz (F0 m 172 ls [.int w172_2, .int z157, .ref p0]) := by
                    intro w172_2 H lo ls bw172_2 hP hS hl
                    refine ro_i (va_runS (As := [.int w172_2]) (rest := [.int z157, .ref p0]) ⟨hx, hb, hml, hown, hts⟩ (s_X7_truth l dC dI cs L K Q H.size I68 J w172_2) (va_cwS 1 hts (gS pq1257 pq1258 pq81 pq1259) rfl rfl rfl (by decide +kernel) ⟨(by rw [hR]; exact (Nat.le_of_ble_eq_true rfl)), (by rw [hR]; exact (Nat.le_of_ble_eq_true rfl))⟩) (sP_S hP hD hK hN) rfl rfl hl.1 rfl (lv_room (Nat.le_of_ble_eq_true rfl)) dX7_laysIslands_172 ⟨(by rw [hR]; exact (Nat.le_of_ble_eq_true rfl)), (by rw [hR]; exact (Nat.le_of_ble_eq_true rfl))⟩) hS hP (fun z172 H locs hz172 hP hS => ?_)
                    obtain ⟨bz172, xpz172⟩ := hz172
                    refine lv_iadd hx hb dX7_laysIslands_175 ?_
                    refine lv_topi (fun z175 ez175 => ?_)
                    have bz175 := tq_add (k := z157.toInt) (q := z172.toInt) ez175 rfl rfl (by omega) (by omega)
                    refine p_put hx hb hts inX7 tyX7 tyX7_ok nmX7 hown hK hP hD hS hLp0 hKp0 rfl rfl 23 (by decide) (hts _ pq1138) rfl (by decide +kernel) (Nat.le_of_ble_eq_true rfl) (oS_7_23 cs _ _ _ _) dX7_laysIslands_176 (fun H locs hP hS => ?_)
                    obtain ⟨Iz176, hP, hIz176, qIz176⟩ : ∃ Iz176, va_P (dC, dI) vwCl (Wd cs L K Iz176 J Q) H ∧ Iv L K x0 m0 tx tm Iz176 ∧ Iz176 = va_up I68 p0 (upd (I68 p0) 23 z175) := ⟨_, hP, Iv_put hI68 hKp0 (oP_7_23 (Iv_at hI68 hLp0 hKp0)) (by decide) (by decide), rfl⟩
                    have dn_Iz176 : (∀ b, K b = 0 ∨ K b = 1 ∨ K b = 3 ∨ K b = 6 → Iz176 b = I b) := fun b hc => (congrFun qIz176 b).trans ((va_up_ne _ _ (fun z => by have q := hKp0; rw [← z] at q; omega)).trans (dn_I68 b hc))
                    have kp0_11_Iz176 : Iz176 p0 11 = I p0 11 := (congrFun (congrFun qIz176 p0) 11).trans ((rz_fr _ _ _ _ (by decide)).trans kp0_11_I68)
                    have fr_Iz176 : ∀ b, ¬ (K b = 7 ∨ K b = 11 ∨ K b = 27) → Iz176 b = I b := fun b q => (congrFun qIz176 b).trans ((va_up_ne _ _ (fun z => q (by rw [z]; have := hKp0; omega))).trans (fr_I68 b q))
                    obtain ⟨z179, ez179⟩ : ∃ y : Int32, y = v41_4 + 1 := ⟨_, rfl⟩
                    refine lv_iinc (v := z179) (lv' := [(4, .int z179), (0, .ref p0), (1, .int p1), (2, .int p2), (3, .int v29_3), (5, .int v68_5)]) hx hb dX7_laysIslands_179 hl (k := 4) rfl (by rw [ez179]; rfl) (by decide) rfl (fun ls hl => ?_)
                    have bz179 := tq_add (k := v41_4.toInt) (q := 1) ez179 rfl (by decide +kernel) (by omega) (by omega)
                    refine lv_goto (tgt := 41) hx hb dX7_laysIslands_182 (by decide) ?_
                    exact ih41 _ (by omega) z179 Iz176 _ _ _ rfl ⟨by omega, by omega⟩ hIz176 kp0_11_Iz176 fr_Iz176 dn_Iz176 ⟨by rw [qIz176, rz_at]; omega, by rw [qIz176, rz_at]; omega, fun _ => ⟨by have c := congrArg Int32.toInt (fez45.trans (congrFun (fr_I41 _ (by have := (nw_of hQ hLp0 hKp0).2; omega)) _)); omega, by have c := congrArg Int32.toInt (fez32.trans (congrFun (fr_I29 _ (by have := (nw_of hQ hLp0 hKp0).2; omega)) _)); omega⟩⟩ hP hS (lv_sub hl [1, 2, 3, 4, 0] rfl)
                  refine lv_if_le (tgt := 171) hx hb dX7_laysIslands_164 (by decide) (fun c164 => ?_) (fun c164 => ?_)
                  · have t164 := tq_le (k := z71.toInt) (q := (0)) c164 rfl (by decide +kernel)
                    refine lv_iconst (v := 0) hx hb dX7_laysIslands_171 (by decide +kernel) ?_
                    exact j172 0 _ _ _ ⟨by decide +kernel, by decide +kernel⟩ hP hS (lv_sub hl [0, 1, 2, 3, 4, 5] rfl)
                  · have t164 := tq_nle (k := z71.toInt) (q := (0)) c164 rfl (by decide +kernel)
                    refine lv_iconst (v := 1) hx hb dX7_laysIslands_167 (by decide +kernel) ?_
                    refine lv_goto (tgt := 172) hx hb dX7_laysIslands_168 (by decide) ?_
                    exact j172 1 _ _ _ ⟨by decide +kernel, by decide +kernel⟩ hP hS (lv_sub hl [0, 1, 2, 3, 4, 5] rfl)
                · have t74 := tq_nle (k := z71.toInt) (q := v68_5.toInt) c74 rfl rfl
                  refine lv_aload_n hx hb dX7_laysIslands_77 rfl (lv_at hl 0 rfl) ?_
                  obtain ⟨y78, ey78, hLy78, hKy78⟩ := oQ_7_22 (Sv_at hQ hLp0 hKp0)
                  refine p_get (v := .ref y78) hx hb hts inX7 hown hK hP hLp0 hKp0 rfl rfl 22 (by decide) (hts _ pq1137) (congrArg (fun q => some (va_rf q)) ey78) dX7_laysIslands_78 ?_
                  refine lv_iload hx hb dX7_laysIslands_81 (lv_at hl 5 rfl) ?_
                  refine p_iald hx hb hK hP 1 hLy78 hKy78 rfl rfl (in_of (by omega) (by omega)) dX7_laysIslands_83 ?_
                  refine lv_topi (fun z83 ez83 => ?_)
                  refine lv_bipush (v := 100) hx hb dX7_laysIslands_84 (by decide +kernel) ?_
                  refine lv_irem hx hb dX7_laysIslands_86 (by decide +kernel) ?_
                  refine lv_topi (fun z86 ez86 => ?_)
                  refine lv_istore (lv' := [(6, .int z86), (0, .ref p0), (1, .int p1), (2, .int p2), (3, .int v29_3), (4, .int v41_4), (5, .int v68_5)]) hx hb dX7_laysIslands_87 hl (by decide) rfl (fun ls hl => ?_)
                  refine lv_aload_n hx hb dX7_laysIslands_89 rfl (lv_at hl 1 rfl) ?_
                  refine p_get (v := .ref y78) hx hb hts inX7 hown hK hP hLp0 hKp0 rfl rfl 22 (by decide) (hts _ pq1137) (congrArg (fun q => some (va_rf q)) ey78) dX7_laysIslands_90 ?_
                  refine lv_iload hx hb dX7_laysIslands_93 (lv_at hl 6 rfl) ?_
                  refine p_iald hx hb hK hP 1 hLy78 hKy78 rfl rfl (in_of (by omega) (by omega)) dX7_laysIslands_95 ?_
                  refine lv_topi (fun z95 ez95 => ?_)
                  obtain rfl : z83 = z95 := ez83.trans ez95.symm
                  refine lv_bipush (v := 100) hx hb dX7_laysIslands_96 (by decide +kernel) ?_
                  refine lv_idiv hx hb dX7_laysIslands_98 (by decide +kernel) ?_
                  refine lv_topi (fun z98 ez98 => ?_)
                  refine lv_istore (lv' := [(7, .int z98), (6, .int z86), (0, .ref p0), (1, .int p1), (2, .int p2), (3, .int v29_3), (4, .int v41_4), (5, .int v68_5)]) hx hb dX7_laysIslands_99 hl (by decide) rfl (fun ls hl => ?_)
                  refine lv_aload_n hx hb dX7_laysIslands_101 rfl (lv_at hl 2 rfl) ?_
                  refine lv_iload_n hx hb dX7_laysIslands_102 rfl (lv_at hl 3 rfl) ?_
                  refine lv_iload hx hb dX7_laysIslands_103 (lv_at hl 1 rfl) ?_
                  refine lv_iconst (v := 1) hx hb dX7_laysIslands_105 (by decide +kernel) ?_
                  refine lv_isub hx hb dX7_laysIslands_106 ?_
                  refine lv_topi (fun z106 ez106 => ?_)
                  refine lv_iload hx hb dX7_laysIslands_107 (lv_at hl 0 rfl) ?_
                  refine lv_iload_n hx hb dX7_laysIslands_109 rfl (lv_at hl 4 rfl) ?_
                  refine sw_v (Z := (fun I1 J1 => Iv L K x0 m0 tx tm I1 ∧ (∀ b, ¬ (K b = 7 ∨ K b = 11 ∨ K b = 27) → I1 b = I68 b) ∧ I1 p0 11 = I68 p0 11 ∧ (((I1 p0 24).toInt ≤ (cn (I1 ((Q p0 21).getD 0)) 4000 : Int) ∧ (∀ k, ¬ k = 24 → I1 p0 k = I68 p0 k))) ∧ (∀ b, K b = 0 ∨ K b = 1 ∨ K b = 3 ∨ K b = 6 → I1 b = I68 b) ∧ J1 = J)) (va_runV (As := [.int p1, .int z106, .int z98, .int p2]) (rest := []) ⟨hx, hb, hml, hown, hts⟩ (s_X7_joinsIsland l dC dI cs L K G Q hQ x0 m0 tx tm H.size I68 J hI68 p0 hLp0 hKp0 p1 ⟨by omega, by omega⟩ z106 z98 p2 h68.1 (by rw [h68.2]; have := h41.1; omega)) (cwV 4 hts (gV pq1538 pq1540 pq58 pq81 pq1541) rfl rfl rfl (by decide +kernel) ⟨(by rw [hR]; exact (Nat.le_of_ble_eq_true rfl)), (by rw [hR]; exact (Nat.le_of_ble_eq_true rfl))⟩) (sP_V hP hD hK hN hLp0 hKp0 rfl rfl) rfl rfl hl.1 rfl (lv_room (Nat.le_of_ble_eq_true rfl)) dX7_laysIslands_110 ⟨(by rw [hR]; exact (Nat.le_of_ble_eq_true rfl)), (by rw [hR]; exact (Nat.le_of_ble_eq_true rfl))⟩) hS hAL hA (fun Iz110 Jz110 H locs hz110 hIz110 hP hS => ?_)
                  obtain ⟨hIz110, frc110, kc110_0_11, zp110, dnc110, djc110⟩ := hIz110
                  obtain rfl : J = Jz110 := djc110.symm
                  have dn_Iz110 : (∀ b, K b = 0 ∨ K b = 1 ∨ K b = 3 ∨ K b = 6 → Iz110 b = I b) := fun b hc => (dnc110 b (by omega)).trans (dn_I68 b hc)
                  have kp0_11_Iz110 : Iz110 p0 11 = I p0 11 := kc110_0_11.trans kp0_11_I68
                  have fr_Iz110 : ∀ b, ¬ (K b = 7 ∨ K b = 11 ∨ K b = 27) → Iz110 b = I b := fun b q => (frc110 b (fun z => q (by omega))).trans (fr_I68 b q)
                  refine lv_aload_n hx hb dX7_laysIslands_113 rfl (lv_at hl 2 rfl) ?_
                  refine lv_iload_n hx hb dX7_laysIslands_114 rfl (lv_at hl 3 rfl) ?_
                  refine lv_iload hx hb dX7_laysIslands_115 (lv_at hl 1 rfl) ?_
                  refine lv_iconst (v := 1) hx hb dX7_laysIslands_117 (by decide +kernel) ?_
                  refine lv_iadd hx hb dX7_laysIslands_118 ?_
                  refine lv_topi (fun z118 ez118 => ?_)
                  refine lv_iload hx hb dX7_laysIslands_119 (lv_at hl 0 rfl) ?_
                  refine lv_iload_n hx hb dX7_laysIslands_121 rfl (lv_at hl 4 rfl) ?_
                  refine sw_v (Z := (fun I1 J1 => Iv L K x0 m0 tx tm I1 ∧ (∀ b, ¬ (K b = 7 ∨ K b = 11 ∨ K b = 27) → I1 b = Iz110 b) ∧ I1 p0 11 = Iz110 p0 11 ∧ (((I1 p0 24).toInt ≤ (cn (I1 ((Q p0 21).getD 0)) 4000 : Int) ∧ (∀ k, ¬ k = 24 → I1 p0 k = Iz110 p0 k))) ∧ (∀ b, K b = 0 ∨ K b = 1 ∨ K b = 3 ∨ K b = 6 → I1 b = Iz110 b) ∧ J1 = J)) (va_runV (As := [.int p1, .int z118, .int z98, .int p2]) (rest := []) ⟨hx, hb, hml, hown, hts⟩ (s_X7_joinsIsland l dC dI cs L K G Q hQ x0 m0 tx tm H.size Iz110 J hIz110 p0 hLp0 hKp0 p1 ⟨by omega, by omega⟩ z118 z98 p2 zp110.1 (by rw [(zp110.2 23 (by decide)).trans h68.2]; have := h41.1; omega)) (cwV 4 hts (gV pq1538 pq1540 pq58 pq81 pq1541) rfl rfl rfl (by decide +kernel) ⟨(by rw [hR]; exact (Nat.le_of_ble_eq_true rfl)), (by rw [hR]; exact (Nat.le_of_ble_eq_true rfl))⟩) (sP_V hP hD hK hN hLp0 hKp0 rfl rfl) rfl rfl hl.1 rfl (lv_room (Nat.le_of_ble_eq_true rfl)) dX7_laysIslands_122 ⟨(by rw [hR]; exact (Nat.le_of_ble_eq_true rfl)), (by rw [hR]; exact (Nat.le_of_ble_eq_true rfl))⟩) hS hAL hA (fun Iz122 Jz122 H locs hz122 hIz122 hP hS => ?_)
                  obtain ⟨hIz122, frc122, kc122_0_11, zp122, dnc122, djc122⟩ := hIz122
                  obtain rfl : J = Jz122 := djc122.symm
                  have dn_Iz122 : (∀ b, K b = 0 ∨ K b = 1 ∨ K b = 3 ∨ K b = 6 → Iz122 b = I b) := fun b hc => (dnc122 b (by omega)).trans (dn_Iz110 b hc)
                  have kp0_11_Iz122 : Iz122 p0 11 = I p0 11 := kc122_0_11.trans kp0_11_Iz110
                  have fr_Iz122 : ∀ b, ¬ (K b = 7 ∨ K b = 11 ∨ K b = 27) → Iz122 b = I b := fun b q => (frc122 b (fun z => q (by omega))).trans (fr_Iz110 b q)
                  refine lv_aload_n hx hb dX7_laysIslands_125 rfl (lv_at hl 2 rfl) ?_
                  refine lv_iload_n hx hb dX7_laysIslands_126 rfl (lv_at hl 3 rfl) ?_
                  refine lv_iload hx hb dX7_laysIslands_127 (lv_at hl 1 rfl) ?_
                  refine lv_iload hx hb dX7_laysIslands_129 (lv_at hl 0 rfl) ?_
                  refine lv_iconst (v := 1) hx hb dX7_laysIslands_131 (by decide +kernel) ?_
                  refine lv_isub hx hb dX7_laysIslands_132 ?_
                  refine lv_topi (fun z132 ez132 => ?_)
                  refine lv_iload_n hx hb dX7_laysIslands_133 rfl (lv_at hl 4 rfl) ?_
                  refine sw_v (Z := (fun I1 J1 => Iv L K x0 m0 tx tm I1 ∧ (∀ b, ¬ (K b = 7 ∨ K b = 11 ∨ K b = 27) → I1 b = Iz122 b) ∧ I1 p0 11 = Iz122 p0 11 ∧ (((I1 p0 24).toInt ≤ (cn (I1 ((Q p0 21).getD 0)) 4000 : Int) ∧ (∀ k, ¬ k = 24 → I1 p0 k = Iz122 p0 k))) ∧ (∀ b, K b = 0 ∨ K b = 1 ∨ K b = 3 ∨ K b = 6 → I1 b = Iz122 b) ∧ J1 = J)) (va_runV (As := [.int p1, .int z86, .int z132, .int p2]) (rest := []) ⟨hx, hb, hml, hown, hts⟩ (s_X7_joinsIsland l dC dI cs L K G Q hQ x0 m0 tx tm H.size Iz122 J hIz122 p0 hLp0 hKp0 p1 ⟨by omega, by omega⟩ z86 z132 p2 zp122.1 (by rw [(zp122.2 23 (by decide)).trans ((zp110.2 23 (by decide)).trans h68.2)]; have := h41.1; omega)) (cwV 4 hts (gV pq1538 pq1540 pq58 pq81 pq1541) rfl rfl rfl (by decide +kernel) ⟨(by rw [hR]; exact (Nat.le_of_ble_eq_true rfl)), (by rw [hR]; exact (Nat.le_of_ble_eq_true rfl))⟩) (sP_V hP hD hK hN hLp0 hKp0 rfl rfl) rfl rfl hl.1 rfl (lv_room (Nat.le_of_ble_eq_true rfl)) dX7_laysIslands_134 ⟨(by rw [hR]; exact (Nat.le_of_ble_eq_true rfl)), (by rw [hR]; exact (Nat.le_of_ble_eq_true rfl))⟩) hS hAL hA (fun Iz134 Jz134 H locs hz134 hIz134 hP hS => ?_)
                  obtain ⟨hIz134, frc134, kc134_0_11, zp134, dnc134, djc134⟩ := hIz134
                  obtain rfl : J = Jz134 := djc134.symm
                  have dn_Iz134 : (∀ b, K b = 0 ∨ K b = 1 ∨ K b = 3 ∨ K b = 6 → Iz134 b = I b) := fun b hc => (dnc134 b (by omega)).trans (dn_Iz122 b hc)
                  have kp0_11_Iz134 : Iz134 p0 11 = I p0 11 := kc134_0_11.trans kp0_11_Iz122
                  have fr_Iz134 : ∀ b, ¬ (K b = 7 ∨ K b = 11 ∨ K b = 27) → Iz134 b = I b := fun b q => (frc134 b (fun z => q (by omega))).trans (fr_Iz122 b q)
                  refine lv_aload_n hx hb dX7_laysIslands_137 rfl (lv_at hl 2 rfl) ?_
                  refine lv_iload_n hx hb dX7_laysIslands_138 rfl (lv_at hl 3 rfl) ?_
                  refine lv_iload hx hb dX7_laysIslands_139 (lv_at hl 1 rfl) ?_
                  refine lv_iload hx hb dX7_laysIslands_141 (lv_at hl 0 rfl) ?_
                  refine lv_iconst (v := 1) hx hb dX7_laysIslands_143 (by decide +kernel) ?_
                  refine lv_iadd hx hb dX7_laysIslands_144 ?_
                  refine lv_topi (fun z144 ez144 => ?_)
                  refine lv_iload_n hx hb dX7_laysIslands_145 rfl (lv_at hl 4 rfl) ?_
                  refine sw_v (Z := (fun I1 J1 => Iv L K x0 m0 tx tm I1 ∧ (∀ b, ¬ (K b = 7 ∨ K b = 11 ∨ K b = 27) → I1 b = Iz134 b) ∧ I1 p0 11 = Iz134 p0 11 ∧ (((I1 p0 24).toInt ≤ (cn (I1 ((Q p0 21).getD 0)) 4000 : Int) ∧ (∀ k, ¬ k = 24 → I1 p0 k = Iz134 p0 k))) ∧ (∀ b, K b = 0 ∨ K b = 1 ∨ K b = 3 ∨ K b = 6 → I1 b = Iz134 b) ∧ J1 = J)) (va_runV (As := [.int p1, .int z86, .int z144, .int p2]) (rest := []) ⟨hx, hb, hml, hown, hts⟩ (s_X7_joinsIsland l dC dI cs L K G Q hQ x0 m0 tx tm H.size Iz134 J hIz134 p0 hLp0 hKp0 p1 ⟨by omega, by omega⟩ z86 z144 p2 zp134.1 (by rw [(zp134.2 23 (by decide)).trans ((zp122.2 23 (by decide)).trans ((zp110.2 23 (by decide)).trans h68.2))]; have := h41.1; omega)) (cwV 4 hts (gV pq1538 pq1540 pq58 pq81 pq1541) rfl rfl rfl (by decide +kernel) ⟨(by rw [hR]; exact (Nat.le_of_ble_eq_true rfl)), (by rw [hR]; exact (Nat.le_of_ble_eq_true rfl))⟩) (sP_V hP hD hK hN hLp0 hKp0 rfl rfl) rfl rfl hl.1 rfl (lv_room (Nat.le_of_ble_eq_true rfl)) dX7_laysIslands_146 ⟨(by rw [hR]; exact (Nat.le_of_ble_eq_true rfl)), (by rw [hR]; exact (Nat.le_of_ble_eq_true rfl))⟩) hS hAL hA (fun Iz146 Jz146 H locs hz146 hIz146 hP hS => ?_)
                  obtain ⟨hIz146, frc146, kc146_0_11, zp146, dnc146, djc146⟩ := hIz146
                  obtain rfl : J = Jz146 := djc146.symm
                  have dn_Iz146 : (∀ b, K b = 0 ∨ K b = 1 ∨ K b = 3 ∨ K b = 6 → Iz146 b = I b) := fun b hc => (dnc146 b (by omega)).trans (dn_Iz134 b hc)
                  have kp0_11_Iz146 : Iz146 p0 11 = I p0 11 := kc146_0_11.trans kp0_11_Iz134
                  have fr_Iz146 : ∀ b, ¬ (K b = 7 ∨ K b = 11 ∨ K b = 27) → Iz146 b = I b := fun b q => (frc146 b (fun z => q (by omega))).trans (fr_Iz134 b q)
                  obtain ⟨z149, ez149⟩ : ∃ y : Int32, y = v68_5 + 1 := ⟨_, rfl⟩
                  refine lv_iinc (v := z149) (lv' := [(5, .int z149), (7, .int z98), (6, .int z86), (0, .ref p0), (1, .int p1), (2, .int p2), (3, .int v29_3), (4, .int v41_4)]) hx hb dX7_laysIslands_149 hl (k := 7) rfl (by rw [ez149]; rfl) (by decide) rfl (fun ls hl => ?_)
                  have bz149 := tq_add (k := v68_5.toInt) (q := 1) ez149 rfl (by decide +kernel) (by omega) (by omega)
                  refine lv_goto (tgt := 68) hx hb dX7_laysIslands_152 (by decide) ?_
                  exact ih68 _ (by omega) z149 Iz146 _ _ _ rfl ⟨by omega, by omega⟩ hIz146 kp0_11_Iz146 fr_Iz146 dn_Iz146 ⟨zp146.1, by rw [zp146.2 23 (by decide), zp134.2 23 (by decide), zp122.2 23 (by decide), zp110.2 23 (by decide)]; exact h68.2⟩ hP hS (lv_sub hl [3, 4, 5, 6, 7, 0] rfl))
              exact key68 _ 0 Iz62 _ _ _ rfl ⟨by decide +kernel, by decide +kernel⟩ hIz62 kp0_11_Iz62 fr_Iz62 dn_Iz62 ⟨zp62.1, by rw [zp62.2 23 (by decide), qIz53, rz_fr _ _ _ _ (by decide)]⟩ hP hS (lv_sub hl [1, 2, 3, 4, 5, 0] rfl))
          exact key41 _ 0 I29 _ _ _ rfl ⟨by decide +kernel, by decide +kernel⟩ hI29 kp0_11_I29 fr_I29 dn_I29 ⟨h29.1, by rw [show (0 : Int32).toInt = 0 from by decide +kernel]; omega, h29.2.2⟩ hP hS (lv_sub hl [1, 2, 3, 4, 0] rfl))
      exact key29 _ 0 Iz24 _ _ _ rfl ⟨by decide +kernel, by decide +kernel⟩ hIz24 kp0_11_Iz24 fr_Iz24 dn_Iz24 ⟨by rw [qIz24, rz_at]; decide +kernel, by rw [qIz24, rz_at]; decide +kernel, fun h => absurd h (by rw [qIz24, rz_at]; decide +kernel)⟩ hP hS (lv_sub hl [1, 2, 3, 0] rfl)
    · have t6 := tq_nle (k := (4000)) (q := v2_3.toInt) c6 (by decide +kernel) rfl
      refine lv_aload_n hx hb dX7_laysIslands_9 rfl (lv_at hl 0 rfl) ?_
      obtain ⟨y10, ey10, hLy10, hKy10⟩ := oQ_7_21 (Sv_at hQ hLp0 hKp0)
      refine p_get (v := .ref y10) hx hb hts inX7 hown hK hP hLp0 hKp0 rfl rfl 21 (by decide) (hts _ pq1136) (congrArg (fun q => some (va_rf q)) ey10) dX7_laysIslands_10 ?_
      refine lv_iload_n hx hb dX7_laysIslands_13 rfl (lv_at hl 3 rfl) ?_
      refine lv_iconst (v := (-1)) hx hb dX7_laysIslands_14 (by decide +kernel) ?_
      refine p_iast hx hb hK hP hD hS 17 hLy10 hKy10 rfl (fun _ => rfl) rfl (in_of (by omega) (by omega)) dX7_laysIslands_15 (fun H locs hP hS => ?_)
      obtain ⟨Iz15, hP, hIz15, qIz15⟩ : ∃ Iz15, va_P (dC, dI) vwCl (Wd cs L K Iz15 J Q) H ∧ Iv L K x0 m0 tx tm Iz15 ∧ Iz15 = va_up I2 y10 (upd (I2 y10) v2_3.toNatClampNeg ((-1) : Int32)) := ⟨_, hP, Iv_put hI2 hKy10 (show okI _ 27 _ from trivial) (Or.inl (by decide)) (Or.inl (by decide)), rfl⟩
      have dn_Iz15 : (∀ b, K b = 0 ∨ K b = 1 ∨ K b = 3 ∨ K b = 6 → Iz15 b = I b) := fun b hc => (congrFun qIz15 b).trans ((va_up_ne _ _ (fun z => by have q := hKy10; rw [← z] at q; omega)).trans (dn_I2 b hc))
      have kp0_11_Iz15 : Iz15 p0 11 = I p0 11 := (congrFun (congrFun qIz15 p0) 11).trans ((congrFun (va_up_ne _ _ (fun z => by have q1 := hKp0; have q2 := hKy10; rw [z] at q1; omega)) 11).trans kp0_11_I2)
      have fr_Iz15 : ∀ b, ¬ (K b = 7 ∨ K b = 11 ∨ K b = 27) → Iz15 b = I b := fun b q => (congrFun qIz15 b).trans ((va_up_ne _ _ (fun z => q (by rw [z]; have := hKy10; omega))).trans (fr_I2 b q))
      obtain ⟨z16, ez16⟩ : ∃ y : Int32, y = v2_3 + 1 := ⟨_, rfl⟩
      refine lv_iinc (v := z16) (lv' := [(3, .int z16), (0, .ref p0), (1, .int p1), (2, .int p2)]) hx hb dX7_laysIslands_16 hl (k := 3) rfl (by rw [ez16]; rfl) (by decide) rfl (fun ls hl => ?_)
      have bz16 := tq_add (k := v2_3.toInt) (q := 1) ez16 rfl (by decide +kernel) (by omega) (by omega)
      refine lv_goto (tgt := 2) hx hb dX7_laysIslands_19 (by decide) ?_
      exact ih2 _ (by omega) z16 Iz15 _ _ _ rfl ⟨by omega, by omega⟩ hIz15 kp0_11_Iz15 fr_Iz15 dn_Iz15 hP hS (lv_sub hl [1, 2, 3, 0] rfl))
  exact key2 _ 0 I _ _ _ rfl ⟨by decide +kernel, by decide +kernel⟩ hI kp0_11_I fr_I dn_I hP hS (lv_sub hl [1, 2, 3, 0] rfl)

set_option maxHeartbeats 4000000 in
set_option maxRecDepth 100000 in
theorem s_X7_islandsOf (l : Launch) (dC : Nat → ClassId) (dI : Nat → Nat → Nat) (cs : Nat → ClassId) (L : List Nat) (K G : Nat → Nat) (Q : Nat → Nat → Option Nat) (hQ : Sv L K G Q) (x0 m0 : Nat) (tx : GT) (tm : GT × Int) (sz : Nat) (I : Nat → Nat → Int32) (J : Nat → Nat → Int64) (hI : Iv L K x0 m0 tx tm I) (p0 : Nat) (hLp0 : p0 ∈ L) (hKp0 : K p0 = 7) (p1 : Int32) (bp1 : (0) ≤ p1.toInt ∧ p1.toInt ≤ 7) : Met l yX7_islandsOf (.code yX7_islandsOf cX7_islandsOf 2 (some .int) :: pw) ({ frames := 4, cells := 0, slots := 0, locals := 99 }) (sP (dC, dI) cs [.ref p0, .int p1] sz L K I J Q) (va_Qi (fun (r : Int32) (_ : Unit) => True) (fun _ t => sB (dC, dI) cs L K Q (fun I1 J1 => Iv L K x0 m0 tx tm I1 ∧ (∀ b, ¬ (K b = 7 ∨ K b = 11 ∨ K b = 27) → I1 b = I b) ∧ I1 p0 11 = I p0 11 ∧ (∀ b, K b = 0 ∨ K b = 1 ∨ K b = 3 ∨ K b = 6 → I1 b = I b) ∧ (∀ σ : Sx, cmA Q I J p0 σ → cmA Q I1 J1 p0 σ) ∧ J1 = J) t) (fun q => q ∈ L ∨ sz ≤ q)) 0 0 (fun q => q ∈ L ∨ sz ≤ q) := by
  refine Met.ofW (cc := cX7_islandsOf) (maxL := 2) (ret := (some .int)) (by decide +kernel) rfl ?_
  intro p e s m args below meth c s₁ B hml hv
  obtain ⟨rfl, hsz, hP, hK, hD0, hN⟩ := hv
  have hx := B.exec
  have hb := B.bytes
  have hr := B.returns
  have hts := fun w (h : w ∈ pw) => atoms_spec (ws := Cond.code yX7_islandsOf cX7_islandsOf 2 (some .int) :: pw) B.pre w (List.mem_cons_of_mem _ h)
  have hown : s.vm.findClass RX7 = some m.cls := findClass_of_methodNamed B.named
  have hlocks := B.notSynchronized
  subst hsz
  have hBB : 999 ≤ tm.2 ∧ tm.2 ≤ 6000000 := hI.2.2.2.2.1
  have dn_I : (∀ b, K b = 0 ∨ K b = 1 ∨ K b = 3 ∨ K b = 6 → I b = I b) := fun _ _ => rfl
  have dj_J : J = J := rfl
  have kp0_11_I : I p0 11 = I p0 11 := rfl
  have fr_I : ∀ b, ¬ (K b = 7 ∨ K b = 11 ∨ K b = 27) → I b = I b := fun _ _ => rfl
  obtain ⟨A, hAe⟩ : ∃ A : Nat → Prop, A = (fun q => q ∈ L ∨ s.heap.size ≤ q) := ⟨_, rfl⟩
  rw [← hAe]
  have hAL : ∀ q, q ∈ L → A q := fun q h => by rw [hAe]; exact Or.inl h
  have hA : ∀ q, s.heap.size ≤ q → A q := fun q h => by rw [hAe]; exact Or.inr h
  have hD : ∀ F, va_D A (va_pl L F) := fun F => (hD0 F).weaken (fun k q hk _ => hAL _ (pl_mem hk))
  obtain ⟨H, hHe⟩ : ∃ H : Heap, H = s.heap := ⟨_, rfl⟩
  have hS : va_S A s.heap H [] := by rw [hHe]; exact va_S.rf
  rw [← hHe] at hP
  have hl := lv_entry ([.ref p0, .int p1]) (n := 2) (Nat.le_of_ble_eq_true rfl)
  rw [lg_entry_eq]
  generalize (lg_sl ([.ref p0, .int p1]) ++ List.replicate (2 - (lg_sl ([.ref p0, .int p1])).length) Slot.unset).toArray = ls at hl ⊢
  have hl : lv_has ls 2 [(0, .ref p0), (1, .int p1)] := hl
  rw [← hHe]
  refine namedW (fun R Qz hR hQz => ?_)
  refine lv_aload_n hx hb dX7_islandsOf_0 rfl (lv_at hl 0 rfl) ?_
  refine lv_iload_n hx hb dX7_islandsOf_1 rfl (lv_at hl 1 rfl) ?_
  refine lv_iconst (v := 1) hx hb dX7_islandsOf_2 (by decide +kernel) ?_
  refine sw_v (Z := (fun I1 J1 => Iv L K x0 m0 tx tm I1 ∧ (∀ b, ¬ (K b = 7 ∨ K b = 11 ∨ K b = 27) → I1 b = I b) ∧ I1 p0 11 = I p0 11 ∧ ((0 ≤ (I1 p0 23).toInt ∧ (I1 p0 23).toInt ≤ 4000 ∧ (0 < (I1 p0 23).toInt → 1 ≤ (I ((Q p0 0).getD 0) (3 + p1.toInt.toNat)).toInt ∧ 1 ≤ (I ((Q p0 0).getD 0) (11 + p1.toInt.toNat)).toInt))) ∧ (∀ b, K b = 0 ∨ K b = 1 ∨ K b = 3 ∨ K b = 6 → I1 b = I b) ∧ J1 = J)) (va_runV (As := [.int p1, .int 1]) (rest := []) ⟨hx, hb, hml, hown, hts⟩ (s_X7_laysIslands l dC dI cs L K G Q hQ x0 m0 tx tm H.size I J hI p0 hLp0 hKp0 p1 ⟨by omega, by omega⟩ 1) (cwV 2 hts (gV pq1534 pq1536 pq57 pq81 pq1537) rfl rfl rfl (by decide +kernel) ⟨(by rw [hR]; exact (Nat.le_of_ble_eq_true rfl)), (by rw [hR]; exact (Nat.le_of_ble_eq_true rfl))⟩) (sP_V hP hD hK hN hLp0 hKp0 rfl rfl) rfl rfl hl.1 rfl (lv_room (Nat.le_of_ble_eq_true rfl)) dX7_islandsOf_3 ⟨(by rw [hR]; exact (Nat.le_of_ble_eq_true rfl)), (by rw [hR]; exact (Nat.le_of_ble_eq_true rfl))⟩) hS hAL hA (fun Iz3 Jz3 H locs hz3 hIz3 hP hS => ?_)
  obtain ⟨hIz3, frc3, kc3_0_11, zp3, dnc3, djc3⟩ := hIz3
  obtain rfl : J = Jz3 := djc3.symm
  have dn_Iz3 : (∀ b, K b = 0 ∨ K b = 1 ∨ K b = 3 ∨ K b = 6 → Iz3 b = I b) := fun b hc => (dnc3 b (by omega)).trans (dn_I b hc)
  have kp0_11_Iz3 : Iz3 p0 11 = I p0 11 := kc3_0_11.trans kp0_11_I
  have fr_Iz3 : ∀ b, ¬ (K b = 7 ∨ K b = 11 ∨ K b = 27) → Iz3 b = I b := fun b q => (frc3 b (fun z => q (by omega))).trans (fr_I b q)
  refine lv_aload_n hx hb dX7_islandsOf_6 rfl (lv_at hl 0 rfl) ?_
  refine p_get hx hb hts inX7 hown hK hP hLp0 hKp0 rfl rfl 23 (by decide) (hts _ pq1138) rfl dX7_islandsOf_7 ?_
  refine lv_topi (fun z7 ez7 => ?_)
  have cgz7 := congrArg Int32.toInt ez7
  subst hR; subst hQz
  exact W.iret (v := z7) hx hb hr (fun t ht hW => ⟨⟨z7, (), rfl, trivial, ⟨Iz3, J, ⟨hIz3, fr_Iz3, kp0_11_Iz3, dn_Iz3, (fun σ A => cmA_fr hQ hLp0 hKp0 (fun b hb => fr_Iz3 b (by omega)) (fun _ _ => rfl) kp0_11_Iz3 A), dj_J⟩, by rw [ht]; exact hP⟩⟩, hS.F ht⟩) hS.2.2 dX7_islandsOf_10

set_option maxHeartbeats 4000000 in
set_option maxRecDepth 100000 in
theorem s_X7_isOutside (l : Launch) (dC : Nat → ClassId) (dI : Nat → Nat → Nat) (cs : Nat → ClassId) (L : List Nat) (K G : Nat → Nat) (Q : Nat → Nat → Option Nat) (hQ : Sv L K G Q) (x0 m0 : Nat) (tx : GT) (tm : GT × Int) (sz : Nat) (I : Nat → Nat → Int32) (J : Nat → Nat → Int64) (hI : Iv L K x0 m0 tx tm I) (p0 : Nat) (hLp0 : p0 ∈ L) (hKp0 : K p0 = 7) (p1 : Int32) (bp1 : (0) ≤ p1.toInt ∧ p1.toInt ≤ 7) (p2 : Int32) (hw : 1 ≤ (I ((Q p0 0).getD 0) (3 + p1.toInt.toNat)).toInt ∧ 1 ≤ (I ((Q p0 0).getD 0) (11 + p1.toInt.toNat)).toInt) : Met l yX7_isOutside (.code yX7_isOutside cX7_isOutside 4 (some .boolean) :: pw) ({ frames := 1, cells := 0, slots := 0, locals := 21 }) (sP (dC, dI) cs [.ref p0, .int p1, .int p2] sz L K I J Q) (va_Qi (fun (r : Int32) (_ : Unit) => ((0) ≤ r.toInt ∧ r.toInt ≤ 1)) (fun _ _ => True) (fun _ => False)) 0 0 (fun _ => False) := by
  refine Met.ofW (cc := cX7_isOutside) (maxL := 4) (ret := (some .boolean)) (by decide +kernel) rfl ?_
  intro p e s m args below meth c s₁ B hml hv
  obtain ⟨rfl, hsz, hP, hK, hD0, hN⟩ := hv
  have hx := B.exec
  have hb := B.bytes
  have hr := B.returns
  have hts := fun w (h : w ∈ pw) => atoms_spec (ws := Cond.code yX7_isOutside cX7_isOutside 4 (some .boolean) :: pw) B.pre w (List.mem_cons_of_mem _ h)
  have hown : s.vm.findClass RX7 = some m.cls := findClass_of_methodNamed B.named
  have hlocks := B.notSynchronized
  subst hsz
  have hBB : 999 ≤ tm.2 ∧ tm.2 ≤ 6000000 := hI.2.2.2.2.1
  have hD := hD0
  obtain ⟨H, hHe⟩ : ∃ H : Heap, H = s.heap := ⟨_, rfl⟩
  have hS : va_S (fun _ => False) s.heap H [] := by rw [hHe]; exact va_S.rf
  rw [← hHe] at hP
  have hl := lv_entry ([.ref p0, .int p1, .int p2]) (n := 4) (Nat.le_of_ble_eq_true rfl)
  rw [lg_entry_eq]
  generalize (lg_sl ([.ref p0, .int p1, .int p2]) ++ List.replicate (4 - (lg_sl ([.ref p0, .int p1, .int p2])).length) Slot.unset).toArray = ls at hl ⊢
  have hl : lv_has ls 4 [(0, .ref p0), (1, .int p1), (2, .int p2)] := hl
  rw [← hHe]
  refine namedW (fun R Qz hR hQz => ?_)
  refine lv_iconst (v := 0) hx hb dX7_isOutside_0 (by decide +kernel) ?_
  refine lv_istore_n (lv' := [(3, .int 0), (0, .ref p0), (1, .int p1), (2, .int p2)]) hx hb dX7_isOutside_1 rfl hl (by decide) rfl (fun ls hl => ?_)
  have key2 := blocks (fun n => ∀ (v2_3 : Int32) (H : Heap) (lo : List Loc) (ls : Array Slot), (41 - v2_3.toInt).toNat = n → ((0) ≤ v2_3.toInt ∧ v2_3.toInt ≤ 40) → va_P (dC, dI) vwCl (Wd cs L K I J Q) H → va_S (fun _ => False) s.heap H lo → lv_has ls 4 [(0, .ref p0), (1, .int p1), (2, .int p2), (3, .int v2_3)] → W p l e R s m (([.ref p0, .int p1, .int p2] : List Value).toArray) below meth c H lo 0 0 Qz (F0 m 2 ls [])) (by
    intro n ih2
    intro v2_3 H lo ls hmu2 bv2_3 hP hS hl
    refine lv_iload_n hx hb dX7_isOutside_2 rfl (lv_at hl 3 rfl) ?_
    refine lv_aload_n hx hb dX7_isOutside_3 rfl (lv_at hl 0 rfl) ?_
    refine lv_iload_n hx hb dX7_isOutside_4 rfl (lv_at hl 1 rfl) ?_
    refine ro_i (va_runV (As := [.int p1]) (rest := [.int v2_3]) ⟨hx, hb, hml, hown, hts⟩ (s_X7_high l dC dI cs L K G Q hQ x0 m0 tx tm H.size I J hI p0 hLp0 hKp0 p1 ⟨by omega, by omega⟩) (cwV 1 hts (gV pq1372 pq1374 pq33 pq81 pq1375) rfl rfl rfl (by decide +kernel) ⟨(by rw [hR]; exact (Nat.le_of_ble_eq_true rfl)), (by rw [hR]; exact (Nat.le_of_ble_eq_true rfl))⟩) (sP_V hP hD hK hN hLp0 hKp0 rfl rfl) rfl rfl hl.1 rfl (lv_room (Nat.le_of_ble_eq_true rfl)) dX7_isOutside_5 ⟨(by rw [hR]; exact (Nat.le_of_ble_eq_true rfl)), (by rw [hR]; exact (Nat.le_of_ble_eq_true rfl))⟩) hS hP (fun z5 H locs hz5 hP hS => ?_)
    obtain ⟨bz5, fez5⟩ := hz5
    refine lv_icmp_ge (tgt := 53) hx hb dX7_isOutside_8 (by decide) (fun c8 => ?_) (fun c8 => ?_)
    · have t8 := tq_le (k := z5.toInt) (q := v2_3.toInt) c8 rfl rfl
      refine lv_iconst (v := 0) hx hb dX7_isOutside_53 (by decide +kernel) ?_
      refine lv_istore_n (lv' := [(3, .int 0), (0, .ref p0), (1, .int p1), (2, .int p2)]) hx hb dX7_isOutside_54 rfl hl (by decide) rfl (fun ls hl => ?_)
      have key55 := blocks (fun n => ∀ (v55_3 : Int32) (H : Heap) (lo : List Loc) (ls : Array Slot), (101 - v55_3.toInt).toNat = n → ((0) ≤ v55_3.toInt ∧ v55_3.toInt ≤ 100) → va_P (dC, dI) vwCl (Wd cs L K I J Q) H → va_S (fun _ => False) s.heap H lo → lv_has ls 4 [(0, .ref p0), (1, .int p1), (2, .int p2), (3, .int v55_3)] → W p l e R s m (([.ref p0, .int p1, .int p2] : List Value).toArray) below meth c H lo 0 0 Qz (F0 m 55 ls [])) (by
        intro n ih55
        intro v55_3 H lo ls hmu55 bv55_3 hP hS hl
        refine lv_iload_n hx hb dX7_isOutside_55 rfl (lv_at hl 3 rfl) ?_
        refine lv_aload_n hx hb dX7_isOutside_56 rfl (lv_at hl 0 rfl) ?_
        refine lv_iload_n hx hb dX7_isOutside_57 rfl (lv_at hl 1 rfl) ?_
        refine ro_i (va_runV (As := [.int p1]) (rest := [.int v55_3]) ⟨hx, hb, hml, hown, hts⟩ (s_X7_wide l dC dI cs L K G Q hQ x0 m0 tx tm H.size I J hI p0 hLp0 hKp0 p1 ⟨by omega, by omega⟩) (cwV 1 hts (gV pq1368 pq1370 pq32 pq81 pq1371) rfl rfl rfl (by decide +kernel) ⟨(by rw [hR]; exact (Nat.le_of_ble_eq_true rfl)), (by rw [hR]; exact (Nat.le_of_ble_eq_true rfl))⟩) (sP_V hP hD hK hN hLp0 hKp0 rfl rfl) rfl rfl hl.1 rfl (lv_room (Nat.le_of_ble_eq_true rfl)) dX7_isOutside_58 ⟨(by rw [hR]; exact (Nat.le_of_ble_eq_true rfl)), (by rw [hR]; exact (Nat.le_of_ble_eq_true rfl))⟩) hS hP (fun z58 H locs hz58 hP hS => ?_)
        obtain ⟨bz58, fez58⟩ := hz58
        refine lv_icmp_ge (tgt := 103) hx hb dX7_isOutside_61 (by decide) (fun c61 => ?_) (fun c61 => ?_)
        · have t61 := tq_le (k := z58.toInt) (q := v55_3.toInt) c61 rfl rfl
          refine lv_iconst (v := 0) hx hb dX7_isOutside_103 (by decide +kernel) ?_
          subst hR; subst hQz
          exact W.zret (v := 0) hx hb hr (by decide +kernel) (fun t ht hW => ⟨⟨0, (), rfl, ⟨by decide +kernel, by decide +kernel⟩, trivial⟩, hS.F ht⟩) hS.2.2 dX7_isOutside_104
        · have t61 := tq_nle (k := z58.toInt) (q := v55_3.toInt) c61 rfl rfl
          refine lv_aload_n hx hb dX7_isOutside_64 rfl (lv_at hl 0 rfl) ?_
          obtain ⟨y65, ey65, hLy65, hKy65⟩ := oQ_7_21 (Sv_at hQ hLp0 hKp0)
          refine p_get (v := .ref y65) hx hb hts inX7 hown hK hP hLp0 hKp0 rfl rfl 21 (by decide) (hts _ pq1136) (congrArg (fun q => some (va_rf q)) ey65) dX7_isOutside_65 ?_
          refine lv_iload_n hx hb dX7_isOutside_68 rfl (lv_at hl 3 rfl) ?_
          refine p_iald hx hb hK hP 17 hLy65 hKy65 rfl rfl (in_of (by omega) (by omega)) dX7_isOutside_69 ?_
          refine lv_topi (fun z69 ez69 => ?_)
          refine lv_iload_n hx hb dX7_isOutside_70 rfl (lv_at hl 2 rfl) ?_
          refine lv_icmp_eq (tgt := 95) hx hb dX7_isOutside_71 (by decide) (fun c71 => ?_) (fun c71 => ?_)
          · have t71 := tq_eq (k := z69.toInt) (q := p2.toInt) c71 rfl rfl
            refine lv_iconst (v := 1) hx hb dX7_isOutside_95 (by decide +kernel) ?_
            subst hR; subst hQz
            exact W.zret (v := 1) hx hb hr (by decide +kernel) (fun t ht hW => ⟨⟨1, (), rfl, ⟨by decide +kernel, by decide +kernel⟩, trivial⟩, hS.F ht⟩) hS.2.2 dX7_isOutside_96
          · have t71 := tq_ne (k := z69.toInt) (q := p2.toInt) c71 rfl rfl
            refine lv_aload_n hx hb dX7_isOutside_74 rfl (lv_at hl 0 rfl) ?_
            refine p_get (v := .ref y65) hx hb hts inX7 hown hK hP hLp0 hKp0 rfl rfl 21 (by decide) (hts _ pq1136) (congrArg (fun q => some (va_rf q)) ey65) dX7_isOutside_75 ?_
            refine lv_bipush (v := 100) hx hb dX7_isOutside_78 (by decide +kernel) ?_
            refine lv_aload_n hx hb dX7_isOutside_80 rfl (lv_at hl 0 rfl) ?_
            refine lv_iload_n hx hb dX7_isOutside_81 rfl (lv_at hl 1 rfl) ?_
            refine ro_i (va_runV (As := [.int p1]) (rest := [.int 100, .ref y65]) ⟨hx, hb, hml, hown, hts⟩ (s_X7_high l dC dI cs L K G Q hQ x0 m0 tx tm H.size I J hI p0 hLp0 hKp0 p1 ⟨by omega, by omega⟩) (cwV 1 hts (gV pq1372 pq1374 pq33 pq81 pq1375) rfl rfl rfl (by decide +kernel) ⟨(by rw [hR]; exact (Nat.le_of_ble_eq_true rfl)), (by rw [hR]; exact (Nat.le_of_ble_eq_true rfl))⟩) (sP_V hP hD hK hN hLp0 hKp0 rfl rfl) rfl rfl hl.1 rfl (lv_room (Nat.le_of_ble_eq_true rfl)) dX7_isOutside_82 ⟨(by rw [hR]; exact (Nat.le_of_ble_eq_true rfl)), (by rw [hR]; exact (Nat.le_of_ble_eq_true rfl))⟩) hS hP (fun z82 H locs hz82 hP hS => ?_)
            obtain ⟨bz82, fez82⟩ := hz82
            obtain rfl : z5 = z82 := fez5.trans fez82.symm
            have c82 := congrArg Int32.toInt fez82
            refine lv_iconst (v := 1) hx hb dX7_isOutside_85 (by decide +kernel) ?_
            refine lv_isub hx hb dX7_isOutside_86 ?_
            refine lv_topi (fun z86 ez86 => ?_)
            have bz86 := tq_sub (k := z5.toInt) (q := (1)) ez86 rfl (by decide +kernel) (by omega) (by omega)
            refine lv_imul hx hb dX7_isOutside_87 ?_
            refine lv_topi (fun z87 ez87 => ?_)
            have bz87 := tq_mul (k := (100)) (q := z86.toInt) ez87 (by decide +kernel) rfl (by omega) (by omega)
            refine lv_iload_n hx hb dX7_isOutside_88 rfl (lv_at hl 3 rfl) ?_
            refine lv_iadd hx hb dX7_isOutside_89 ?_
            refine lv_topi (fun z89 ez89 => ?_)
            have bz89 := tq_add (k := z87.toInt) (q := v55_3.toInt) ez89 rfl rfl (by omega) (by omega)
            refine p_iald hx hb hK hP 17 hLy65 hKy65 rfl rfl (in_of (by omega) (by omega)) dX7_isOutside_90 ?_
            refine lv_topi (fun z90 ez90 => ?_)
            refine lv_iload_n hx hb dX7_isOutside_91 rfl (lv_at hl 2 rfl) ?_
            refine lv_icmp_ne (tgt := 97) hx hb dX7_isOutside_92 (by decide) (fun c92 => ?_) (fun c92 => ?_)
            · have t92 := tq_ne (k := z90.toInt) (q := p2.toInt) c92 rfl rfl
              obtain ⟨z97, ez97⟩ : ∃ y : Int32, y = v55_3 + 1 := ⟨_, rfl⟩
              refine lv_iinc (v := z97) (lv' := [(3, .int z97), (0, .ref p0), (1, .int p1), (2, .int p2)]) hx hb dX7_isOutside_97 hl (k := 3) rfl (by rw [ez97]; rfl) (by decide) rfl (fun ls hl => ?_)
              have bz97 := tq_add (k := v55_3.toInt) (q := 1) ez97 rfl (by decide +kernel) (by omega) (by omega)
              refine lv_goto (tgt := 55) hx hb dX7_isOutside_100 (by decide) ?_
              exact ih55 _ (by omega) z97 _ _ _ rfl ⟨by omega, by omega⟩ hP hS (lv_sub hl [1, 2, 3, 0] rfl)
            · have t92 := tq_eq (k := z90.toInt) (q := p2.toInt) c92 rfl rfl
              refine lv_iconst (v := 1) hx hb dX7_isOutside_95 (by decide +kernel) ?_
              subst hR; subst hQz
              exact W.zret (v := 1) hx hb hr (by decide +kernel) (fun t ht hW => ⟨⟨1, (), rfl, ⟨by decide +kernel, by decide +kernel⟩, trivial⟩, hS.F ht⟩) hS.2.2 dX7_isOutside_96)
      exact key55 _ 0 _ _ _ rfl ⟨by decide +kernel, by decide +kernel⟩ hP hS (lv_sub hl [1, 2, 3, 0] rfl)
    · have t8 := tq_nle (k := z5.toInt) (q := v2_3.toInt) c8 rfl rfl
      refine lv_aload_n hx hb dX7_isOutside_11 rfl (lv_at hl 0 rfl) ?_
      obtain ⟨y12, ey12, hLy12, hKy12⟩ := oQ_7_21 (Sv_at hQ hLp0 hKp0)
      refine p_get (v := .ref y12) hx hb hts inX7 hown hK hP hLp0 hKp0 rfl rfl 21 (by decide) (hts _ pq1136) (congrArg (fun q => some (va_rf q)) ey12) dX7_isOutside_12 ?_
      refine lv_bipush (v := 100) hx hb dX7_isOutside_15 (by decide +kernel) ?_
      refine lv_iload_n hx hb dX7_isOutside_17 rfl (lv_at hl 3 rfl) ?_
      refine lv_imul hx hb dX7_isOutside_18 ?_
      refine lv_topi (fun z18 ez18 => ?_)
      have bz18 := tq_mul (k := (100)) (q := v2_3.toInt) ez18 (by decide +kernel) rfl (by omega) (by omega)
      refine p_iald hx hb hK hP 17 hLy12 hKy12 rfl rfl (in_of (by omega) (by omega)) dX7_isOutside_19 ?_
      refine lv_topi (fun z19 ez19 => ?_)
      refine lv_iload_n hx hb dX7_isOutside_20 rfl (lv_at hl 2 rfl) ?_
      refine lv_icmp_eq (tgt := 45) hx hb dX7_isOutside_21 (by decide) (fun c21 => ?_) (fun c21 => ?_)
      · have t21 := tq_eq (k := z19.toInt) (q := p2.toInt) c21 rfl rfl
        refine lv_iconst (v := 1) hx hb dX7_isOutside_45 (by decide +kernel) ?_
        subst hR; subst hQz
        exact W.zret (v := 1) hx hb hr (by decide +kernel) (fun t ht hW => ⟨⟨1, (), rfl, ⟨by decide +kernel, by decide +kernel⟩, trivial⟩, hS.F ht⟩) hS.2.2 dX7_isOutside_46
      · have t21 := tq_ne (k := z19.toInt) (q := p2.toInt) c21 rfl rfl
        refine lv_aload_n hx hb dX7_isOutside_24 rfl (lv_at hl 0 rfl) ?_
        refine p_get (v := .ref y12) hx hb hts inX7 hown hK hP hLp0 hKp0 rfl rfl 21 (by decide) (hts _ pq1136) (congrArg (fun q => some (va_rf q)) ey12) dX7_isOutside_25 ?_
        refine lv_bipush (v := 100) hx hb dX7_isOutside_28 (by decide +kernel) ?_
        refine lv_iload_n hx hb dX7_isOutside_30 rfl (lv_at hl 3 rfl) ?_
        refine lv_imul hx hb dX7_isOutside_31 ?_
        refine lv_topi (fun z31 ez31 => ?_)
        have bz31 := tq_mul (k := (100)) (q := v2_3.toInt) ez31 (by decide +kernel) rfl (by omega) (by omega)
        refine lv_aload_n hx hb dX7_isOutside_32 rfl (lv_at hl 0 rfl) ?_
        refine lv_iload_n hx hb dX7_isOutside_33 rfl (lv_at hl 1 rfl) ?_
        refine ro_i (va_runV (As := [.int p1]) (rest := [.int z31, .ref y12]) ⟨hx, hb, hml, hown, hts⟩ (s_X7_wide l dC dI cs L K G Q hQ x0 m0 tx tm H.size I J hI p0 hLp0 hKp0 p1 ⟨by omega, by omega⟩) (cwV 1 hts (gV pq1368 pq1370 pq32 pq81 pq1371) rfl rfl rfl (by decide +kernel) ⟨(by rw [hR]; exact (Nat.le_of_ble_eq_true rfl)), (by rw [hR]; exact (Nat.le_of_ble_eq_true rfl))⟩) (sP_V hP hD hK hN hLp0 hKp0 rfl rfl) rfl rfl hl.1 rfl (lv_room (Nat.le_of_ble_eq_true rfl)) dX7_isOutside_34 ⟨(by rw [hR]; exact (Nat.le_of_ble_eq_true rfl)), (by rw [hR]; exact (Nat.le_of_ble_eq_true rfl))⟩) hS hP (fun z34 H locs hz34 hP hS => ?_)
        obtain ⟨bz34, fez34⟩ := hz34
        have c34 := congrArg Int32.toInt fez34
        refine lv_iadd hx hb dX7_isOutside_37 ?_
        refine lv_topi (fun z37 ez37 => ?_)
        have bz37 := tq_add (k := z31.toInt) (q := z34.toInt) ez37 rfl rfl (by omega) (by omega)
        refine lv_iconst (v := 1) hx hb dX7_isOutside_38 (by decide +kernel) ?_
        refine lv_isub hx hb dX7_isOutside_39 ?_
        refine lv_topi (fun z39 ez39 => ?_)
        have bz39 := tq_sub (k := z37.toInt) (q := (1)) ez39 rfl (by decide +kernel) (by omega) (by omega)
        refine p_iald hx hb hK hP 17 hLy12 hKy12 rfl rfl (in_of (by omega) (by omega)) dX7_isOutside_40 ?_
        refine lv_topi (fun z40 ez40 => ?_)
        refine lv_iload_n hx hb dX7_isOutside_41 rfl (lv_at hl 2 rfl) ?_
        refine lv_icmp_ne (tgt := 47) hx hb dX7_isOutside_42 (by decide) (fun c42 => ?_) (fun c42 => ?_)
        · have t42 := tq_ne (k := z40.toInt) (q := p2.toInt) c42 rfl rfl
          obtain ⟨z47, ez47⟩ : ∃ y : Int32, y = v2_3 + 1 := ⟨_, rfl⟩
          refine lv_iinc (v := z47) (lv' := [(3, .int z47), (0, .ref p0), (1, .int p1), (2, .int p2)]) hx hb dX7_isOutside_47 hl (k := 3) rfl (by rw [ez47]; rfl) (by decide) rfl (fun ls hl => ?_)
          have bz47 := tq_add (k := v2_3.toInt) (q := 1) ez47 rfl (by decide +kernel) (by omega) (by omega)
          refine lv_goto (tgt := 2) hx hb dX7_isOutside_50 (by decide) ?_
          exact ih2 _ (by omega) z47 _ _ _ rfl ⟨by omega, by omega⟩ hP hS (lv_sub hl [1, 2, 3, 0] rfl)
        · have t42 := tq_eq (k := z40.toInt) (q := p2.toInt) c42 rfl rfl
          refine lv_iconst (v := 1) hx hb dX7_isOutside_45 (by decide +kernel) ?_
          subst hR; subst hQz
          exact W.zret (v := 1) hx hb hr (by decide +kernel) (fun t ht hW => ⟨⟨1, (), rfl, ⟨by decide +kernel, by decide +kernel⟩, trivial⟩, hS.F ht⟩) hS.2.2 dX7_isOutside_46)
  exact key2 _ 0 _ _ _ rfl ⟨by decide +kernel, by decide +kernel⟩ hP hS (lv_sub hl [1, 2, 3, 0] rfl)

set_option maxHeartbeats 4000000 in
set_option maxRecDepth 100000 in
theorem s_X7_holesOf (l : Launch) (dC : Nat → ClassId) (dI : Nat → Nat → Nat) (cs : Nat → ClassId) (L : List Nat) (K G : Nat → Nat) (Q : Nat → Nat → Option Nat) (hQ : Sv L K G Q) (x0 m0 : Nat) (tx : GT) (tm : GT × Int) (sz : Nat) (I : Nat → Nat → Int32) (J : Nat → Nat → Int64) (hI : Iv L K x0 m0 tx tm I) (p0 : Nat) (hLp0 : p0 ∈ L) (hKp0 : K p0 = 7) (p1 : Int32) (bp1 : (0) ≤ p1.toInt ∧ p1.toInt ≤ 7) : Met l yX7_holesOf (.code yX7_holesOf cX7_holesOf 4 (some .int) :: pw) ({ frames := 4, cells := 0, slots := 0, locals := 99 }) (sP (dC, dI) cs [.ref p0, .int p1] sz L K I J Q) (va_Qi (fun (r : Int32) (_ : Unit) => True) (fun _ t => sB (dC, dI) cs L K Q (fun I1 J1 => Iv L K x0 m0 tx tm I1 ∧ (∀ b, ¬ (K b = 7 ∨ K b = 11 ∨ K b = 27) → I1 b = I b) ∧ I1 p0 11 = I p0 11 ∧ (∀ b, K b = 0 ∨ K b = 1 ∨ K b = 3 ∨ K b = 6 → I1 b = I b) ∧ (∀ σ : Sx, cmA Q I J p0 σ → cmA Q I1 J1 p0 σ) ∧ J1 = J) t) (fun q => q ∈ L ∨ sz ≤ q)) 0 0 (fun q => q ∈ L ∨ sz ≤ q) := by
  refine Met.ofW (cc := cX7_holesOf) (maxL := 4) (ret := (some .int)) (by decide +kernel) rfl ?_
  intro p e s m args below meth c s₁ B hml hv
  obtain ⟨rfl, hsz, hP, hK, hD0, hN⟩ := hv
  have hx := B.exec
  have hb := B.bytes
  have hr := B.returns
  have hts := fun w (h : w ∈ pw) => atoms_spec (ws := Cond.code yX7_holesOf cX7_holesOf 4 (some .int) :: pw) B.pre w (List.mem_cons_of_mem _ h)
  have hown : s.vm.findClass RX7 = some m.cls := findClass_of_methodNamed B.named
  have hlocks := B.notSynchronized
  subst hsz
  have hBB : 999 ≤ tm.2 ∧ tm.2 ≤ 6000000 := hI.2.2.2.2.1
  have dn_I : (∀ b, K b = 0 ∨ K b = 1 ∨ K b = 3 ∨ K b = 6 → I b = I b) := fun _ _ => rfl
  have dj_J : J = J := rfl
  have kp0_11_I : I p0 11 = I p0 11 := rfl
  have fr_I : ∀ b, ¬ (K b = 7 ∨ K b = 11 ∨ K b = 27) → I b = I b := fun _ _ => rfl
  obtain ⟨A, hAe⟩ : ∃ A : Nat → Prop, A = (fun q => q ∈ L ∨ s.heap.size ≤ q) := ⟨_, rfl⟩
  rw [← hAe]
  have hAL : ∀ q, q ∈ L → A q := fun q h => by rw [hAe]; exact Or.inl h
  have hA : ∀ q, s.heap.size ≤ q → A q := fun q h => by rw [hAe]; exact Or.inr h
  have hD : ∀ F, va_D A (va_pl L F) := fun F => (hD0 F).weaken (fun k q hk _ => hAL _ (pl_mem hk))
  obtain ⟨H, hHe⟩ : ∃ H : Heap, H = s.heap := ⟨_, rfl⟩
  have hS : va_S A s.heap H [] := by rw [hHe]; exact va_S.rf
  rw [← hHe] at hP
  have hl := lv_entry ([.ref p0, .int p1]) (n := 4) (Nat.le_of_ble_eq_true rfl)
  rw [lg_entry_eq]
  generalize (lg_sl ([.ref p0, .int p1]) ++ List.replicate (4 - (lg_sl ([.ref p0, .int p1])).length) Slot.unset).toArray = ls at hl ⊢
  have hl : lv_has ls 4 [(0, .ref p0), (1, .int p1)] := hl
  rw [← hHe]
  refine namedW (fun R Qz hR hQz => ?_)
  refine lv_aload_n hx hb dX7_holesOf_0 rfl (lv_at hl 0 rfl) ?_
  refine lv_iload_n hx hb dX7_holesOf_1 rfl (lv_at hl 1 rfl) ?_
  refine lv_iconst (v := 0) hx hb dX7_holesOf_2 (by decide +kernel) ?_
  refine sw_v (Z := (fun I1 J1 => Iv L K x0 m0 tx tm I1 ∧ (∀ b, ¬ (K b = 7 ∨ K b = 11 ∨ K b = 27) → I1 b = I b) ∧ I1 p0 11 = I p0 11 ∧ ((0 ≤ (I1 p0 23).toInt ∧ (I1 p0 23).toInt ≤ 4000 ∧ (0 < (I1 p0 23).toInt → 1 ≤ (I ((Q p0 0).getD 0) (3 + p1.toInt.toNat)).toInt ∧ 1 ≤ (I ((Q p0 0).getD 0) (11 + p1.toInt.toNat)).toInt))) ∧ (∀ b, K b = 0 ∨ K b = 1 ∨ K b = 3 ∨ K b = 6 → I1 b = I b) ∧ J1 = J)) (va_runV (As := [.int p1, .int 0]) (rest := []) ⟨hx, hb, hml, hown, hts⟩ (s_X7_laysIslands l dC dI cs L K G Q hQ x0 m0 tx tm H.size I J hI p0 hLp0 hKp0 p1 ⟨by omega, by omega⟩ 0) (cwV 2 hts (gV pq1534 pq1536 pq57 pq81 pq1537) rfl rfl rfl (by decide +kernel) ⟨(by rw [hR]; exact (Nat.le_of_ble_eq_true rfl)), (by rw [hR]; exact (Nat.le_of_ble_eq_true rfl))⟩) (sP_V hP hD hK hN hLp0 hKp0 rfl rfl) rfl rfl hl.1 rfl (lv_room (Nat.le_of_ble_eq_true rfl)) dX7_holesOf_3 ⟨(by rw [hR]; exact (Nat.le_of_ble_eq_true rfl)), (by rw [hR]; exact (Nat.le_of_ble_eq_true rfl))⟩) hS hAL hA (fun Iz3 Jz3 H locs hz3 hIz3 hP hS => ?_)
  obtain ⟨hIz3, frc3, kc3_0_11, zp3, dnc3, djc3⟩ := hIz3
  obtain rfl : J = Jz3 := djc3.symm
  have dn_Iz3 : (∀ b, K b = 0 ∨ K b = 1 ∨ K b = 3 ∨ K b = 6 → Iz3 b = I b) := fun b hc => (dnc3 b (by omega)).trans (dn_I b hc)
  have kp0_11_Iz3 : Iz3 p0 11 = I p0 11 := kc3_0_11.trans kp0_11_I
  have fr_Iz3 : ∀ b, ¬ (K b = 7 ∨ K b = 11 ∨ K b = 27) → Iz3 b = I b := fun b q => (frc3 b (fun z => q (by omega))).trans (fr_I b q)
  refine lv_iconst (v := 0) hx hb dX7_holesOf_6 (by decide +kernel) ?_
  refine lv_istore_n (lv' := [(2, .int 0), (0, .ref p0), (1, .int p1)]) hx hb dX7_holesOf_7 rfl hl (by decide) rfl (fun ls hl => ?_)
  refine lv_iconst (v := 0) hx hb dX7_holesOf_8 (by decide +kernel) ?_
  refine lv_istore_n (lv' := [(3, .int 0), (2, .int 0), (0, .ref p0), (1, .int p1)]) hx hb dX7_holesOf_9 rfl hl (by decide) rfl (fun ls hl => ?_)
  have key10 := blocks (fun n => ∀ (v10_2 : Int32) (v10_3 : Int32) (H : Heap) (lo : List Loc) (ls : Array Slot), (4002 - v10_3.toInt).toNat = n → ((0) ≤ v10_3.toInt ∧ v10_3.toInt ≤ 4001) → va_P (dC, dI) vwCl (Wd cs L K Iz3 J Q) H → va_S A s.heap H lo → lv_has ls 4 [(0, .ref p0), (1, .int p1), (2, .int v10_2), (3, .int v10_3)] → W p l e R s m (([.ref p0, .int p1] : List Value).toArray) below meth c H lo 0 0 Qz (F0 m 10 ls [])) (by
    intro n ih10
    intro v10_2 v10_3 H lo ls hmu10 bv10_3 hP hS hl
    refine lv_iload_n hx hb dX7_holesOf_10 rfl (lv_at hl 3 rfl) ?_
    refine lv_aload_n hx hb dX7_holesOf_11 rfl (lv_at hl 0 rfl) ?_
    refine p_get hx hb hts inX7 hown hK hP hLp0 hKp0 rfl rfl 23 (by decide) (hts _ pq1138) rfl dX7_holesOf_12 ?_
    refine lv_topi (fun z12 ez12 => ?_)
    have cgz12 := congrArg Int32.toInt ez12
    refine lv_icmp_ge (tgt := 44) hx hb dX7_holesOf_15 (by decide) (fun c15 => ?_) (fun c15 => ?_)
    · have t15 := tq_le (k := z12.toInt) (q := v10_3.toInt) c15 rfl rfl
      refine lv_iload_n hx hb dX7_holesOf_44 rfl (lv_at hl 2 rfl) ?_
      subst hR; subst hQz
      exact W.iret (v := v10_2) hx hb hr (fun t ht hW => ⟨⟨v10_2, (), rfl, trivial, ⟨Iz3, J, ⟨hIz3, fr_Iz3, kp0_11_Iz3, dn_Iz3, (fun σ A => cmA_fr hQ hLp0 hKp0 (fun b hb => fr_Iz3 b (by omega)) (fun _ _ => rfl) kp0_11_Iz3 A), dj_J⟩, by rw [ht]; exact hP⟩⟩, hS.F ht⟩) hS.2.2 dX7_holesOf_45
    · have t15 := tq_nle (k := z12.toInt) (q := v10_3.toInt) c15 rfl rfl
      have rg15z12 := fb_rng z12
      refine lv_iload_n hx hb dX7_holesOf_18 rfl (lv_at hl 2 rfl) ?_
      refine lv_aload_n hx hb dX7_holesOf_19 rfl (lv_at hl 0 rfl) ?_
      refine lv_iload_n hx hb dX7_holesOf_20 rfl (lv_at hl 1 rfl) ?_
      refine lv_iload_n hx hb dX7_holesOf_21 rfl (lv_at hl 3 rfl) ?_
      refine ro_i (va_runV (As := [.int p1, .int v10_3]) (rest := [.int v10_2]) ⟨hx, hb, hml, hown, hts⟩ (s_X7_isOutside l dC dI cs L K G Q hQ x0 m0 tx tm H.size Iz3 J hIz3 p0 hLp0 hKp0 p1 ⟨by omega, by omega⟩ v10_3 (by rw [frc3 _ (by have := (nw_of hQ hLp0 hKp0).2; omega)]; exact zp3.2.2 (by omega))) (cwV 2 hts (gV pq1546 pq1548 pq60 pq81 pq1549) rfl rfl rfl (by decide +kernel) ⟨(by rw [hR]; exact (Nat.le_of_ble_eq_true rfl)), (by rw [hR]; exact (Nat.le_of_ble_eq_true rfl))⟩) (sP_V hP hD hK hN hLp0 hKp0 rfl rfl) rfl rfl hl.1 rfl (lv_room (Nat.le_of_ble_eq_true rfl)) dX7_holesOf_22 ⟨(by rw [hR]; exact (Nat.le_of_ble_eq_true rfl)), (by rw [hR]; exact (Nat.le_of_ble_eq_true rfl))⟩) hS hP (fun z22 H locs hz22 hP hS => ?_)
      have bz22 := hz22
      have j33 : ∀ (w33_1 : Int32) (H : Heap) (lo : List Loc) (ls : Array Slot), ((0) ≤ w33_1.toInt ∧ w33_1.toInt ≤ 1) → va_P (dC, dI) vwCl (Wd cs L K Iz3 J Q) H → va_S A s.heap H lo → lv_has ls 4 [(0, .ref p0), (1, .int p1), (2, .int v10_2), (3, .int v10_3)] → W p l e R s m (([.ref p0, .int p1] : List Value).toArray) below meth c H lo 0 0 Qz (F0 m 33 ls [.int w33_1, .int v10_2]) := by
        intro w33_1 H lo ls bw33_1 hP hS hl
        refine ro_i (va_runS (As := [.int w33_1]) (rest := [.int v10_2]) ⟨hx, hb, hml, hown, hts⟩ (s_X7_truth l dC dI cs L K Q H.size Iz3 J w33_1) (va_cwS 1 hts (gS pq1257 pq1258 pq81 pq1259) rfl rfl rfl (by decide +kernel) ⟨(by rw [hR]; exact (Nat.le_of_ble_eq_true rfl)), (by rw [hR]; exact (Nat.le_of_ble_eq_true rfl))⟩) (sP_S hP hD hK hN) rfl rfl hl.1 rfl (lv_room (Nat.le_of_ble_eq_true rfl)) dX7_holesOf_33 ⟨(by rw [hR]; exact (Nat.le_of_ble_eq_true rfl)), (by rw [hR]; exact (Nat.le_of_ble_eq_true rfl))⟩) hS hP (fun z33 H locs hz33 hP hS => ?_)
        obtain ⟨bz33, xpz33⟩ := hz33
        refine lv_iadd hx hb dX7_holesOf_36 ?_
        refine lv_topi (fun z36 ez36 => ?_)
        refine lv_istore_n (lv' := [(2, .int z36), (0, .ref p0), (1, .int p1), (3, .int v10_3)]) hx hb dX7_holesOf_37 rfl hl (by decide) rfl (fun ls hl => ?_)
        obtain ⟨z38, ez38⟩ : ∃ y : Int32, y = v10_3 + 1 := ⟨_, rfl⟩
        refine lv_iinc (v := z38) (lv' := [(3, .int z38), (2, .int z36), (0, .ref p0), (1, .int p1)]) hx hb dX7_holesOf_38 hl (k := 3) rfl (by rw [ez38]; rfl) (by decide) rfl (fun ls hl => ?_)
        have bz38 := tq_add (k := v10_3.toInt) (q := 1) ez38 rfl (by decide +kernel) (by omega) (by omega)
        refine lv_goto (tgt := 10) hx hb dX7_holesOf_41 (by decide) ?_
        exact ih10 _ (by omega) z36 z38 _ _ _ rfl ⟨by omega, by omega⟩ hP hS (lv_sub hl [2, 3, 1, 0] rfl)
      refine lv_if_ne (tgt := 32) hx hb dX7_holesOf_25 (by decide) (fun c25 => ?_) (fun c25 => ?_)
      · have t25 := tq_ne (k := z22.toInt) (q := (0)) c25 rfl (by decide +kernel)
        refine lv_iconst (v := 0) hx hb dX7_holesOf_32 (by decide +kernel) ?_
        exact j33 0 _ _ _ ⟨by decide +kernel, by decide +kernel⟩ hP hS (lv_sub hl [0, 1, 2, 3] rfl)
      · have t25 := tq_eq (k := z22.toInt) (q := (0)) c25 rfl (by decide +kernel)
        refine lv_iconst (v := 1) hx hb dX7_holesOf_28 (by decide +kernel) ?_
        refine lv_goto (tgt := 33) hx hb dX7_holesOf_29 (by decide) ?_
        exact j33 1 _ _ _ ⟨by decide +kernel, by decide +kernel⟩ hP hS (lv_sub hl [0, 1, 2, 3] rfl))
  exact key10 _ 0 0 _ _ _ rfl ⟨by decide +kernel, by decide +kernel⟩ hP hS (lv_sub hl [2, 3, 1, 0] rfl)

set_option maxHeartbeats 4000000 in
set_option maxRecDepth 100000 in
theorem s_X7_mask (l : Launch) (dC : Nat → ClassId) (dI : Nat → Nat → Nat) (cs : Nat → ClassId) (L : List Nat) (K G : Nat → Nat) (Q : Nat → Nat → Option Nat) (hQ : Sv L K G Q) (x0 m0 : Nat) (tx : GT) (tm : GT × Int) (sz : Nat) (I : Nat → Nat → Int32) (J : Nat → Nat → Int64) (hI : Iv L K x0 m0 tx tm I) (p0 : Nat) (hLp0 : p0 ∈ L) (hKp0 : K p0 = 7) (p1 : Int32) (p2 : Int32) : Met l yX7_mask (.code yX7_mask cX7_mask 3 (some .int) :: pw) ({ frames := 5, cells := 0, slots := 0, locals := 122 }) (sP (dC, dI) cs [.ref p0, .int p1, .int p2] sz L K I J Q) (va_Qi (fun (r : Int32) (_ : Unit) => True) (fun _ t => sB (dC, dI) cs L K Q (fun I1 J1 => Iv L K x0 m0 tx tm I1 ∧ (∀ b, ¬ (K b = 7 ∨ K b = 11 ∨ K b = 26 ∨ K b = 27) → I1 b = I b) ∧ I1 p0 11 = I p0 11 ∧ (∀ b, K b = 0 ∨ K b = 1 ∨ K b = 3 ∨ K b = 6 → I1 b = I b) ∧ (∀ σ : Sx, cmA Q I J p0 σ → cmA Q I1 J1 p0 σ) ∧ J1 = J) t) (fun q => q ∈ L ∨ sz ≤ q)) 0 0 (fun q => q ∈ L ∨ sz ≤ q) := by
  refine Met.ofW (cc := cX7_mask) (maxL := 3) (ret := (some .int)) (by decide +kernel) rfl ?_
  intro p e s m args below meth c s₁ B hml hv
  obtain ⟨rfl, hsz, hP, hK, hD0, hN⟩ := hv
  have hx := B.exec
  have hb := B.bytes
  have hr := B.returns
  have hts := fun w (h : w ∈ pw) => atoms_spec (ws := Cond.code yX7_mask cX7_mask 3 (some .int) :: pw) B.pre w (List.mem_cons_of_mem _ h)
  have hown : s.vm.findClass RX7 = some m.cls := findClass_of_methodNamed B.named
  have hlocks := B.notSynchronized
  subst hsz
  have hBB : 999 ≤ tm.2 ∧ tm.2 ≤ 6000000 := hI.2.2.2.2.1
  have dn_I : (∀ b, K b = 0 ∨ K b = 1 ∨ K b = 3 ∨ K b = 6 → I b = I b) := fun _ _ => rfl
  have dj_J : J = J := rfl
  have kp0_11_I : I p0 11 = I p0 11 := rfl
  have fr_I : ∀ b, ¬ (K b = 7 ∨ K b = 11 ∨ K b = 26 ∨ K b = 27) → I b = I b := fun _ _ => rfl
  obtain ⟨A, hAe⟩ : ∃ A : Nat → Prop, A = (fun q => q ∈ L ∨ s.heap.size ≤ q) := ⟨_, rfl⟩
  rw [← hAe]
  have hAL : ∀ q, q ∈ L → A q := fun q h => by rw [hAe]; exact Or.inl h
  have hA : ∀ q, s.heap.size ≤ q → A q := fun q h => by rw [hAe]; exact Or.inr h
  have hD : ∀ F, va_D A (va_pl L F) := fun F => (hD0 F).weaken (fun k q hk _ => hAL _ (pl_mem hk))
  obtain ⟨H, hHe⟩ : ∃ H : Heap, H = s.heap := ⟨_, rfl⟩
  have hS : va_S A s.heap H [] := by rw [hHe]; exact va_S.rf
  rw [← hHe] at hP
  have hl := lv_entry ([.ref p0, .int p1, .int p2]) (n := 3) (Nat.le_of_ble_eq_true rfl)
  rw [lg_entry_eq]
  generalize (lg_sl ([.ref p0, .int p1, .int p2]) ++ List.replicate (3 - (lg_sl ([.ref p0, .int p1, .int p2])).length) Slot.unset).toArray = ls at hl ⊢
  have hl : lv_has ls 3 [(0, .ref p0), (1, .int p1), (2, .int p2)] := hl
  rw [← hHe]
  refine namedW (fun R Qz hR hQz => ?_)
  refine lv_aload_n hx hb dX7_mask_0 rfl (lv_at hl 0 rfl) ?_
  refine lv_iload_n hx hb dX7_mask_1 rfl (lv_at hl 1 rfl) ?_
  refine ro_i (va_runV (As := [.int p1]) (rest := []) ⟨hx, hb, hml, hown, hts⟩ (s_X7_isMask l dC dI cs L K G Q hQ x0 m0 tx tm H.size I J hI p0 hLp0 hKp0 p1) (cwV 1 hts (gV pq1364 pq1366 pq31 pq81 pq1367) rfl rfl rfl (by decide +kernel) ⟨(by rw [hR]; exact (Nat.le_of_ble_eq_true rfl)), (by rw [hR]; exact (Nat.le_of_ble_eq_true rfl))⟩) (sP_V hP hD hK hN hLp0 hKp0 rfl rfl) rfl rfl hl.1 rfl (lv_room (Nat.le_of_ble_eq_true rfl)) dX7_mask_2 ⟨(by rw [hR]; exact (Nat.le_of_ble_eq_true rfl)), (by rw [hR]; exact (Nat.le_of_ble_eq_true rfl))⟩) hS hP (fun z2 H locs hz2 hP hS => ?_)
  obtain ⟨bz2, imz2, xpz2⟩ := hz2
  refine lv_if_ne (tgt := 10) hx hb dX7_mask_5 (by decide) (fun c5 => ?_) (fun c5 => ?_)
  · have t5 := tq_ne (k := z2.toInt) (q := (0)) c5 rfl (by decide +kernel)
    have i5 := imz2 t5
    refine lv_iload_n hx hb dX7_mask_10 rfl (lv_at hl 2 rfl) ?_
    have j82 : ∀ (H : Heap) (lo : List Loc) (ls : Array Slot), (3 ≤ p2.toInt ∧ p2.toInt ≤ 6) → va_P (dC, dI) vwCl (Wd cs L K I J Q) H → va_S A s.heap H lo → lv_has ls 3 [(0, .ref p0), (1, .int p1), (2, .int p2)] → W p l e R s m (([.ref p0, .int p1, .int p2] : List Value).toArray) below meth c H lo 0 0 Qz (F0 m 82 ls []) := by
      intro H lo ls h82 hP hS hl
      refine lv_aload_n hx hb dX7_mask_82 rfl (lv_at hl 0 rfl) ?_
      refine lv_iload_n hx hb dX7_mask_83 rfl (lv_at hl 1 rfl) ?_
      refine sw_ir (Z := (fun u => (fun I1 J1 => Iv L K x0 m0 tx tm I1 ∧ (∀ b, ¬ (K b = 26) → I1 b = I b) ∧ rcI (hs (rW Q I p0 p1.toInt.toNat) (rH Q I p0 p1.toInt.toNat) (rF Q J p0 p1.toInt.toNat)) u.toInt ((I1 (a0 Q p0 20) 0).toInt, (I1 (a0 Q p0 20) 1).toInt, (I1 (a0 Q p0 20) 2).toInt, (I1 (a0 Q p0 20) 3).toInt) ∧ (∀ b, K b = 0 ∨ K b = 1 ∨ K b = 3 ∨ K b = 6 → I1 b = I b) ∧ J1 = J))) (va_runV (As := [.int p1]) (rest := []) ⟨hx, hb, hml, hown, hts⟩ (s_X7_reaches l dC dI cs L K G Q hQ x0 m0 tx tm H.size I J hI p0 hLp0 hKp0 p1 ⟨by omega, by omega⟩) (cwV 1 hts (gV pq1506 pq1508 pq53 pq81 pq1509) rfl rfl rfl (by decide +kernel) ⟨(by rw [hR]; exact (Nat.le_of_ble_eq_true rfl)), (by rw [hR]; exact (Nat.le_of_ble_eq_true rfl))⟩) (sP_V hP hD hK hN hLp0 hKp0 rfl rfl) rfl rfl hl.1 rfl (lv_room (Nat.le_of_ble_eq_true rfl)) dX7_mask_84 ⟨(by rw [hR]; exact (Nat.le_of_ble_eq_true rfl)), (by rw [hR]; exact (Nat.le_of_ble_eq_true rfl))⟩) hS hAL hA (fun z84 Iz84 Jz84 H locs hz84 hIz84 hP hS => ?_)
      obtain ⟨hIz84, frc84, fz84, dnc84, djc84⟩ := hIz84
      obtain rfl : J = Jz84 := djc84.symm
      have dn_Iz84 : (∀ b, K b = 0 ∨ K b = 1 ∨ K b = 3 ∨ K b = 6 → Iz84 b = I b) := fun b hc => (dnc84 b (by omega)).trans (dn_I b hc)
      have kp0_11_Iz84 : Iz84 p0 11 = I p0 11 := (congrFun (frc84 p0 (by omega)) 11).trans kp0_11_I
      have fr_Iz84 : ∀ b, ¬ (K b = 7 ∨ K b = 11 ∨ K b = 26 ∨ K b = 27) → Iz84 b = I b := fun b q => (frc84 b (fun z => q (by omega))).trans (fr_I b q)
      have bz84 := hz84
      refine lv_if_eq (tgt := 101) hx hb dX7_mask_87 (by decide) (fun c87 => ?_) (fun c87 => ?_)
      · have t87 := tq_eq (k := z84.toInt) (q := (0)) c87 rfl (by decide +kernel)
        refine lv_bipush (v := (-2)) hx hb dX7_mask_101 (by decide +kernel) ?_
        subst hR; subst hQz
        exact W.iret (v := (-2)) hx hb hr (fun t ht hW => ⟨⟨(-2), (), rfl, trivial, ⟨Iz84, J, ⟨hIz84, fr_Iz84, kp0_11_Iz84, dn_Iz84, (fun σ A => cmA_fr hQ hLp0 hKp0 (fun b hb => fr_Iz84 b (by omega)) (fun _ _ => rfl) kp0_11_Iz84 A), dj_J⟩, by rw [ht]; exact hP⟩⟩, hS.F ht⟩) hS.2.2 dX7_mask_103
      · have t87 := tq_ne (k := z84.toInt) (q := (0)) c87 rfl (by decide +kernel)
        refine lv_aload_n hx hb dX7_mask_90 rfl (lv_at hl 0 rfl) ?_
        obtain ⟨y91, ey91, hLy91, hKy91⟩ := oQ_7_20 (Sv_at hQ hLp0 hKp0)
        refine p_get (v := .ref y91) hx hb hts inX7 hown hK hP hLp0 hKp0 rfl rfl 20 (by decide) (hts _ pq1135) (congrArg (fun q => some (va_rf q)) ey91) dX7_mask_91 ?_
        refine lv_iload_n hx hb dX7_mask_94 rfl (lv_at hl 2 rfl) ?_
        refine lv_iconst (v := 3) hx hb dX7_mask_95 (by decide +kernel) ?_
        refine lv_isub hx hb dX7_mask_96 ?_
        refine lv_topi (fun z96 ez96 => ?_)
        have bz96 := tq_sub (k := p2.toInt) (q := 3) ez96 rfl (by decide +kernel) (by omega) (by omega)
        refine p_iald hx hb hK hP 16 hLy91 hKy91 rfl rfl (in_of (by omega) (by omega)) dX7_mask_97 ?_
        refine lv_topi (fun z97 ez97 => ?_)
        have bz97 := oR_26 (i := z96) (k := z96.toInt) rfl (Iv_at hIz84 hLy91 hKy91)
        rw [← ez97] at bz97
        refine lv_goto (tgt := 103) hx hb dX7_mask_98 (by decide) ?_
        subst hR; subst hQz
        exact W.iret (v := z97) hx hb hr (fun t ht hW => ⟨⟨z97, (), rfl, trivial, ⟨Iz84, J, ⟨hIz84, fr_Iz84, kp0_11_Iz84, dn_Iz84, (fun σ A => cmA_fr hQ hLp0 hKp0 (fun b hb => fr_Iz84 b (by omega)) (fun _ _ => rfl) kp0_11_Iz84 A), dj_J⟩, by rw [ht]; exact hP⟩⟩, hS.F ht⟩) hS.2.2 dX7_mask_103
    refine lv_topi (fun z11 ez11 => ?_)
    rcases sw10 z11 with rfl | rfl | rfl | rfl | rfl | rfl | rfl | rfl | rfl | rfl | hsw11
    · refine lv_tableIn (off := 53) (tgt := 64) hx hb dX7_mask_11 (by decide +kernel) (by decide +kernel) (by decide +kernel) (by decide) ?_
      have sv11 : p2.toInt = 0 := by rw [← ez11]; decide +kernel
      refine lv_aload_n hx hb dX7_mask_64 rfl (lv_at hl 0 rfl) ?_
      refine lv_iload_n hx hb dX7_mask_65 rfl (lv_at hl 1 rfl) ?_
      refine ro_i (va_runV (As := [.int p1]) (rest := []) ⟨hx, hb, hml, hown, hts⟩ (s_X7_wide l dC dI cs L K G Q hQ x0 m0 tx tm H.size I J hI p0 hLp0 hKp0 p1 ⟨by omega, by omega⟩) (cwV 1 hts (gV pq1368 pq1370 pq32 pq81 pq1371) rfl rfl rfl (by decide +kernel) ⟨(by rw [hR]; exact (Nat.le_of_ble_eq_true rfl)), (by rw [hR]; exact (Nat.le_of_ble_eq_true rfl))⟩) (sP_V hP hD hK hN hLp0 hKp0 rfl rfl) rfl rfl hl.1 rfl (lv_room (Nat.le_of_ble_eq_true rfl)) dX7_mask_66 ⟨(by rw [hR]; exact (Nat.le_of_ble_eq_true rfl)), (by rw [hR]; exact (Nat.le_of_ble_eq_true rfl))⟩) hS hP (fun z66 H locs hz66 hP hS => ?_)
      obtain ⟨bz66, fez66⟩ := hz66
      subst hR; subst hQz
      exact W.iret (v := z66) hx hb hr (fun t ht hW => ⟨⟨z66, (), rfl, trivial, ⟨I, J, ⟨hI, fr_I, kp0_11_I, dn_I, (fun σ A => cmA_fr hQ hLp0 hKp0 (fun _ _ => rfl) (fun _ _ => rfl) rfl A), dj_J⟩, by rw [ht]; exact hP⟩⟩, hS.F ht⟩) hS.2.2 dX7_mask_69
    · refine lv_tableIn (off := 59) (tgt := 70) hx hb dX7_mask_11 (by decide +kernel) (by decide +kernel) (by decide +kernel) (by decide) ?_
      have sv11 : p2.toInt = 1 := by rw [← ez11]; decide +kernel
      refine lv_aload_n hx hb dX7_mask_70 rfl (lv_at hl 0 rfl) ?_
      refine lv_iload_n hx hb dX7_mask_71 rfl (lv_at hl 1 rfl) ?_
      refine ro_i (va_runV (As := [.int p1]) (rest := []) ⟨hx, hb, hml, hown, hts⟩ (s_X7_high l dC dI cs L K G Q hQ x0 m0 tx tm H.size I J hI p0 hLp0 hKp0 p1 ⟨by omega, by omega⟩) (cwV 1 hts (gV pq1372 pq1374 pq33 pq81 pq1375) rfl rfl rfl (by decide +kernel) ⟨(by rw [hR]; exact (Nat.le_of_ble_eq_true rfl)), (by rw [hR]; exact (Nat.le_of_ble_eq_true rfl))⟩) (sP_V hP hD hK hN hLp0 hKp0 rfl rfl) rfl rfl hl.1 rfl (lv_room (Nat.le_of_ble_eq_true rfl)) dX7_mask_72 ⟨(by rw [hR]; exact (Nat.le_of_ble_eq_true rfl)), (by rw [hR]; exact (Nat.le_of_ble_eq_true rfl))⟩) hS hP (fun z72 H locs hz72 hP hS => ?_)
      obtain ⟨bz72, fez72⟩ := hz72
      subst hR; subst hQz
      exact W.iret (v := z72) hx hb hr (fun t ht hW => ⟨⟨z72, (), rfl, trivial, ⟨I, J, ⟨hI, fr_I, kp0_11_I, dn_I, (fun σ A => cmA_fr hQ hLp0 hKp0 (fun _ _ => rfl) (fun _ _ => rfl) rfl A), dj_J⟩, by rw [ht]; exact hP⟩⟩, hS.F ht⟩) hS.2.2 dX7_mask_75
    · refine lv_tableIn (off := 65) (tgt := 76) hx hb dX7_mask_11 (by decide +kernel) (by decide +kernel) (by decide +kernel) (by decide) ?_
      have sv11 : p2.toInt = 2 := by rw [← ez11]; decide +kernel
      refine lv_aload_n hx hb dX7_mask_76 rfl (lv_at hl 0 rfl) ?_
      refine lv_iload_n hx hb dX7_mask_77 rfl (lv_at hl 1 rfl) ?_
      refine ro_i (va_runV (As := [.int p1]) (rest := []) ⟨hx, hb, hml, hown, hts⟩ (s_X7_dotsOf l dC dI cs L K G Q hQ x0 m0 tx tm H.size I J hI p0 hLp0 hKp0 p1 ⟨by omega, by omega⟩) (cwV 1 hts (gV pq1413 pq1415 pq39 pq81 pq1416) rfl rfl rfl (by decide +kernel) ⟨(by rw [hR]; exact (Nat.le_of_ble_eq_true rfl)), (by rw [hR]; exact (Nat.le_of_ble_eq_true rfl))⟩) (sP_V hP hD hK hN hLp0 hKp0 rfl rfl) rfl rfl hl.1 rfl (lv_room (Nat.le_of_ble_eq_true rfl)) dX7_mask_78 ⟨(by rw [hR]; exact (Nat.le_of_ble_eq_true rfl)), (by rw [hR]; exact (Nat.le_of_ble_eq_true rfl))⟩) hS hP (fun z78 H locs hz78 hP hS => ?_)
      obtain ⟨bz78, xpz78⟩ := hz78
      subst hR; subst hQz
      exact W.iret (v := z78) hx hb hr (fun t ht hW => ⟨⟨z78, (), rfl, trivial, ⟨I, J, ⟨hI, fr_I, kp0_11_I, dn_I, (fun σ A => cmA_fr hQ hLp0 hKp0 (fun _ _ => rfl) (fun _ _ => rfl) rfl A), dj_J⟩, by rw [ht]; exact hP⟩⟩, hS.F ht⟩) hS.2.2 dX7_mask_81
    · refine lv_tableIn (off := 71) (tgt := 82) hx hb dX7_mask_11 (by decide +kernel) (by decide +kernel) (by decide +kernel) (by decide) ?_
      have sv11 : p2.toInt = 3 := by rw [← ez11]; decide +kernel
      exact j82  _ _ _ ⟨by omega, by omega⟩ hP hS (lv_sub hl [0, 1, 2] rfl)
    · refine lv_tableIn (off := 71) (tgt := 82) hx hb dX7_mask_11 (by decide +kernel) (by decide +kernel) (by decide +kernel) (by decide) ?_
      have sv11 : p2.toInt = 4 := by rw [← ez11]; decide +kernel
      exact j82  _ _ _ ⟨by omega, by omega⟩ hP hS (lv_sub hl [0, 1, 2] rfl)
    · refine lv_tableIn (off := 71) (tgt := 82) hx hb dX7_mask_11 (by decide +kernel) (by decide +kernel) (by decide +kernel) (by decide) ?_
      have sv11 : p2.toInt = 5 := by rw [← ez11]; decide +kernel
      exact j82  _ _ _ ⟨by omega, by omega⟩ hP hS (lv_sub hl [0, 1, 2] rfl)
    · refine lv_tableIn (off := 71) (tgt := 82) hx hb dX7_mask_11 (by decide +kernel) (by decide +kernel) (by decide +kernel) (by decide) ?_
      have sv11 : p2.toInt = 6 := by rw [← ez11]; decide +kernel
      exact j82  _ _ _ ⟨by omega, by omega⟩ hP hS (lv_sub hl [0, 1, 2] rfl)
    · refine lv_tableIn (off := 93) (tgt := 104) hx hb dX7_mask_11 (by decide +kernel) (by decide +kernel) (by decide +kernel) (by decide) ?_
      have sv11 : p2.toInt = 7 := by rw [← ez11]; decide +kernel
      refine lv_aload_n hx hb dX7_mask_104 rfl (lv_at hl 0 rfl) ?_
      refine lv_iload_n hx hb dX7_mask_105 rfl (lv_at hl 1 rfl) ?_
      refine sw_i (Z := (fun I1 J1 => Iv L K x0 m0 tx tm I1 ∧ (∀ b, ¬ (K b = 7 ∨ K b = 11 ∨ K b = 27) → I1 b = I b) ∧ I1 p0 11 = I p0 11 ∧ (∀ b, K b = 0 ∨ K b = 1 ∨ K b = 3 ∨ K b = 6 → I1 b = I b) ∧ (∀ σ : Sx, cmA Q I J p0 σ → cmA Q I1 J1 p0 σ) ∧ J1 = J)) (va_runV (As := [.int p1]) (rest := []) ⟨hx, hb, hml, hown, hts⟩ (s_X7_islandsOf l dC dI cs L K G Q hQ x0 m0 tx tm H.size I J hI p0 hLp0 hKp0 p1 ⟨by omega, by omega⟩) (cwV 1 hts (gV pq1530 pq1532 pq56 pq81 pq1533) rfl rfl rfl (by decide +kernel) ⟨(by rw [hR]; exact (Nat.le_of_ble_eq_true rfl)), (by rw [hR]; exact (Nat.le_of_ble_eq_true rfl))⟩) (sP_V hP hD hK hN hLp0 hKp0 rfl rfl) rfl rfl hl.1 rfl (lv_room (Nat.le_of_ble_eq_true rfl)) dX7_mask_106 ⟨(by rw [hR]; exact (Nat.le_of_ble_eq_true rfl)), (by rw [hR]; exact (Nat.le_of_ble_eq_true rfl))⟩) hS hAL hA (fun z106 Iz106 Jz106 H locs hz106 hIz106 hP hS => ?_)
      obtain ⟨hIz106, frc106, kc106_0_11, dnc106, jz106, djc106⟩ := hIz106
      obtain rfl : J = Jz106 := djc106.symm
      have dn_Iz106 : (∀ b, K b = 0 ∨ K b = 1 ∨ K b = 3 ∨ K b = 6 → Iz106 b = I b) := fun b hc => (dnc106 b (by omega)).trans (dn_I b hc)
      have kp0_11_Iz106 : Iz106 p0 11 = I p0 11 := kc106_0_11.trans kp0_11_I
      have fr_Iz106 : ∀ b, ¬ (K b = 7 ∨ K b = 11 ∨ K b = 26 ∨ K b = 27) → Iz106 b = I b := fun b q => (frc106 b (fun z => q (by omega))).trans (fr_I b q)
      subst hR; subst hQz
      exact W.iret (v := z106) hx hb hr (fun t ht hW => ⟨⟨z106, (), rfl, trivial, ⟨Iz106, J, ⟨hIz106, fr_Iz106, kp0_11_Iz106, dn_Iz106, (fun σ A => cmA_fr hQ hLp0 hKp0 (fun b hb => fr_Iz106 b (by omega)) (fun _ _ => rfl) kp0_11_Iz106 A), dj_J⟩, by rw [ht]; exact hP⟩⟩, hS.F ht⟩) hS.2.2 dX7_mask_109
    · refine lv_tableIn (off := 99) (tgt := 110) hx hb dX7_mask_11 (by decide +kernel) (by decide +kernel) (by decide +kernel) (by decide) ?_
      have sv11 : p2.toInt = 8 := by rw [← ez11]; decide +kernel
      refine lv_aload_n hx hb dX7_mask_110 rfl (lv_at hl 0 rfl) ?_
      refine lv_iload_n hx hb dX7_mask_111 rfl (lv_at hl 1 rfl) ?_
      refine sw_i (Z := (fun I1 J1 => Iv L K x0 m0 tx tm I1 ∧ (∀ b, ¬ (K b = 7 ∨ K b = 11 ∨ K b = 27) → I1 b = I b) ∧ I1 p0 11 = I p0 11 ∧ (∀ b, K b = 0 ∨ K b = 1 ∨ K b = 3 ∨ K b = 6 → I1 b = I b) ∧ (∀ σ : Sx, cmA Q I J p0 σ → cmA Q I1 J1 p0 σ) ∧ J1 = J)) (va_runV (As := [.int p1]) (rest := []) ⟨hx, hb, hml, hown, hts⟩ (s_X7_holesOf l dC dI cs L K G Q hQ x0 m0 tx tm H.size I J hI p0 hLp0 hKp0 p1 ⟨by omega, by omega⟩) (cwV 1 hts (gV pq1542 pq1544 pq59 pq81 pq1545) rfl rfl rfl (by decide +kernel) ⟨(by rw [hR]; exact (Nat.le_of_ble_eq_true rfl)), (by rw [hR]; exact (Nat.le_of_ble_eq_true rfl))⟩) (sP_V hP hD hK hN hLp0 hKp0 rfl rfl) rfl rfl hl.1 rfl (lv_room (Nat.le_of_ble_eq_true rfl)) dX7_mask_112 ⟨(by rw [hR]; exact (Nat.le_of_ble_eq_true rfl)), (by rw [hR]; exact (Nat.le_of_ble_eq_true rfl))⟩) hS hAL hA (fun z112 Iz112 Jz112 H locs hz112 hIz112 hP hS => ?_)
      obtain ⟨hIz112, frc112, kc112_0_11, dnc112, jz112, djc112⟩ := hIz112
      obtain rfl : J = Jz112 := djc112.symm
      have dn_Iz112 : (∀ b, K b = 0 ∨ K b = 1 ∨ K b = 3 ∨ K b = 6 → Iz112 b = I b) := fun b hc => (dnc112 b (by omega)).trans (dn_I b hc)
      have kp0_11_Iz112 : Iz112 p0 11 = I p0 11 := kc112_0_11.trans kp0_11_I
      have fr_Iz112 : ∀ b, ¬ (K b = 7 ∨ K b = 11 ∨ K b = 26 ∨ K b = 27) → Iz112 b = I b := fun b q => (frc112 b (fun z => q (by omega))).trans (fr_I b q)
      subst hR; subst hQz
      exact W.iret (v := z112) hx hb hr (fun t ht hW => ⟨⟨z112, (), rfl, trivial, ⟨Iz112, J, ⟨hIz112, fr_Iz112, kp0_11_Iz112, dn_Iz112, (fun σ A => cmA_fr hQ hLp0 hKp0 (fun b hb => fr_Iz112 b (by omega)) (fun _ _ => rfl) kp0_11_Iz112 A), dj_J⟩, by rw [ht]; exact hP⟩⟩, hS.F ht⟩) hS.2.2 dX7_mask_115
    · refine lv_tableIn (off := 105) (tgt := 116) hx hb dX7_mask_11 (by decide +kernel) (by decide +kernel) (by decide +kernel) (by decide) ?_
      have sv11 : p2.toInt = 9 := by rw [← ez11]; decide +kernel
      refine lv_aload_n hx hb dX7_mask_116 rfl (lv_at hl 0 rfl) ?_
      refine lv_iload_n hx hb dX7_mask_117 rfl (lv_at hl 1 rfl) ?_
      refine ro_i (va_runV (As := [.int p1]) (rest := []) ⟨hx, hb, hml, hown, hts⟩ (s_X7_edgeOf l dC dI cs L K G Q hQ x0 m0 tx tm H.size I J hI p0 hLp0 hKp0 p1 ⟨by omega, by omega⟩) (cwV 1 hts (gV pq1550 pq1552 pq61 pq81 pq1553) rfl rfl rfl (by decide +kernel) ⟨(by rw [hR]; exact (Nat.le_of_ble_eq_true rfl)), (by rw [hR]; exact (Nat.le_of_ble_eq_true rfl))⟩) (sP_V hP hD hK hN hLp0 hKp0 rfl rfl) rfl rfl hl.1 rfl (lv_room (Nat.le_of_ble_eq_true rfl)) dX7_mask_118 ⟨(by rw [hR]; exact (Nat.le_of_ble_eq_true rfl)), (by rw [hR]; exact (Nat.le_of_ble_eq_true rfl))⟩) hS hP (fun z118 H locs hz118 hP hS => ?_)
      subst hR; subst hQz
      exact W.iret (v := z118) hx hb hr (fun t ht hW => ⟨⟨z118, (), rfl, trivial, ⟨I, J, ⟨hI, fr_I, kp0_11_I, dn_I, (fun σ A => cmA_fr hQ hLp0 hKp0 (fun _ _ => rfl) (fun _ _ => rfl) rfl A), dj_J⟩, by rw [ht]; exact hP⟩⟩, hS.F ht⟩) hS.2.2 dX7_mask_121
    · refine lv_tableOut (tgt := 122) hx hb dX7_mask_11 hsw11 (by decide) ?_
      refine lv_iconst (v := (-1)) hx hb dX7_mask_122 (by decide +kernel) ?_
      subst hR; subst hQz
      exact W.iret (v := (-1)) hx hb hr (fun t ht hW => ⟨⟨(-1), (), rfl, trivial, ⟨I, J, ⟨hI, fr_I, kp0_11_I, dn_I, (fun σ A => cmA_fr hQ hLp0 hKp0 (fun _ _ => rfl) (fun _ _ => rfl) rfl A), dj_J⟩, by rw [ht]; exact hP⟩⟩, hS.F ht⟩) hS.2.2 dX7_mask_123
  · have t5 := tq_eq (k := z2.toInt) (q := (0)) c5 rfl (by decide +kernel)
    refine lv_iconst (v := (-1)) hx hb dX7_mask_8 (by decide +kernel) ?_
    subst hR; subst hQz
    exact W.iret (v := (-1)) hx hb hr (fun t ht hW => ⟨⟨(-1), (), rfl, trivial, ⟨I, J, ⟨hI, fr_I, kp0_11_I, dn_I, (fun σ A => cmA_fr hQ hLp0 hKp0 (fun _ _ => rfl) (fun _ _ => rfl) rfl A), dj_J⟩, by rw [ht]; exact hP⟩⟩, hS.F ht⟩) hS.2.2 dX7_mask_9

set_option maxHeartbeats 4000000 in
set_option maxRecDepth 100000 in
theorem s_X7_island (l : Launch) (dC : Nat → ClassId) (dI : Nat → Nat → Nat) (cs : Nat → ClassId) (L : List Nat) (K G : Nat → Nat) (Q : Nat → Nat → Option Nat) (hQ : Sv L K G Q) (x0 m0 : Nat) (tx : GT) (tm : GT × Int) (sz : Nat) (I : Nat → Nat → Int32) (J : Nat → Nat → Int64) (hI : Iv L K x0 m0 tx tm I) (p0 : Nat) (hLp0 : p0 ∈ L) (hKp0 : K p0 = 7) (p1 : Int32) (p2 : Int32) (p3 : Int32) : Met l yX7_island (.code yX7_island cX7_island 11 (some .int) :: pw) ({ frames := 4, cells := 0, slots := 0, locals := 99 }) (sP (dC, dI) cs [.ref p0, .int p1, .int p2, .int p3] sz L K I J Q) (va_Qi (fun (r : Int32) (_ : Unit) => True) (fun _ t => sB (dC, dI) cs L K Q (fun I1 J1 => Iv L K x0 m0 tx tm I1 ∧ (∀ b, ¬ (K b = 7 ∨ K b = 11 ∨ K b = 27) → I1 b = I b) ∧ I1 p0 11 = I p0 11 ∧ (∀ b, K b = 0 ∨ K b = 1 ∨ K b = 3 ∨ K b = 6 → I1 b = I b) ∧ (∀ σ : Sx, cmA Q I J p0 σ → cmA Q I1 J1 p0 σ) ∧ J1 = J) t) (fun q => q ∈ L ∨ sz ≤ q)) 0 0 (fun q => q ∈ L ∨ sz ≤ q) := by
  refine Met.ofW (cc := cX7_island) (maxL := 11) (ret := (some .int)) (by decide +kernel) rfl ?_
  intro p e s m args below meth c s₁ B hml hv
  obtain ⟨rfl, hsz, hP, hK, hD0, hN⟩ := hv
  have hx := B.exec
  have hb := B.bytes
  have hr := B.returns
  have hts := fun w (h : w ∈ pw) => atoms_spec (ws := Cond.code yX7_island cX7_island 11 (some .int) :: pw) B.pre w (List.mem_cons_of_mem _ h)
  have hown : s.vm.findClass RX7 = some m.cls := findClass_of_methodNamed B.named
  have hlocks := B.notSynchronized
  subst hsz
  have hBB : 999 ≤ tm.2 ∧ tm.2 ≤ 6000000 := hI.2.2.2.2.1
  have dn_I : (∀ b, K b = 0 ∨ K b = 1 ∨ K b = 3 ∨ K b = 6 → I b = I b) := fun _ _ => rfl
  have dj_J : J = J := rfl
  have kp0_11_I : I p0 11 = I p0 11 := rfl
  have fr_I : ∀ b, ¬ (K b = 7 ∨ K b = 11 ∨ K b = 27) → I b = I b := fun _ _ => rfl
  obtain ⟨A, hAe⟩ : ∃ A : Nat → Prop, A = (fun q => q ∈ L ∨ s.heap.size ≤ q) := ⟨_, rfl⟩
  rw [← hAe]
  have hAL : ∀ q, q ∈ L → A q := fun q h => by rw [hAe]; exact Or.inl h
  have hA : ∀ q, s.heap.size ≤ q → A q := fun q h => by rw [hAe]; exact Or.inr h
  have hD : ∀ F, va_D A (va_pl L F) := fun F => (hD0 F).weaken (fun k q hk _ => hAL _ (pl_mem hk))
  obtain ⟨H, hHe⟩ : ∃ H : Heap, H = s.heap := ⟨_, rfl⟩
  have hS : va_S A s.heap H [] := by rw [hHe]; exact va_S.rf
  rw [← hHe] at hP
  have hl := lv_entry ([.ref p0, .int p1, .int p2, .int p3]) (n := 11) (Nat.le_of_ble_eq_true rfl)
  rw [lg_entry_eq]
  generalize (lg_sl ([.ref p0, .int p1, .int p2, .int p3]) ++ List.replicate (11 - (lg_sl ([.ref p0, .int p1, .int p2, .int p3])).length) Slot.unset).toArray = ls at hl ⊢
  have hl : lv_has ls 11 [(0, .ref p0), (1, .int p1), (2, .int p2), (3, .int p3)] := hl
  rw [← hHe]
  refine namedW (fun R Qz hR hQz => ?_)
  refine lv_aload_n hx hb dX7_island_0 rfl (lv_at hl 0 rfl) ?_
  refine lv_iload_n hx hb dX7_island_1 rfl (lv_at hl 1 rfl) ?_
  refine ro_i (va_runV (As := [.int p1]) (rest := []) ⟨hx, hb, hml, hown, hts⟩ (s_X7_isMask l dC dI cs L K G Q hQ x0 m0 tx tm H.size I J hI p0 hLp0 hKp0 p1) (cwV 1 hts (gV pq1364 pq1366 pq31 pq81 pq1367) rfl rfl rfl (by decide +kernel) ⟨(by rw [hR]; exact (Nat.le_of_ble_eq_true rfl)), (by rw [hR]; exact (Nat.le_of_ble_eq_true rfl))⟩) (sP_V hP hD hK hN hLp0 hKp0 rfl rfl) rfl rfl hl.1 rfl (lv_room (Nat.le_of_ble_eq_true rfl)) dX7_island_2 ⟨(by rw [hR]; exact (Nat.le_of_ble_eq_true rfl)), (by rw [hR]; exact (Nat.le_of_ble_eq_true rfl))⟩) hS hP (fun z2 H locs hz2 hP hS => ?_)
  obtain ⟨bz2, imz2, xpz2⟩ := hz2
  refine lv_if_ne (tgt := 10) hx hb dX7_island_5 (by decide) (fun c5 => ?_) (fun c5 => ?_)
  · have t5 := tq_ne (k := z2.toInt) (q := (0)) c5 rfl (by decide +kernel)
    have i5 := imz2 t5
    refine lv_aload_n hx hb dX7_island_10 rfl (lv_at hl 0 rfl) ?_
    refine lv_iload_n hx hb dX7_island_11 rfl (lv_at hl 1 rfl) ?_
    refine lv_iconst (v := 1) hx hb dX7_island_12 (by decide +kernel) ?_
    refine sw_v (Z := (fun I1 J1 => Iv L K x0 m0 tx tm I1 ∧ (∀ b, ¬ (K b = 7 ∨ K b = 11 ∨ K b = 27) → I1 b = I b) ∧ I1 p0 11 = I p0 11 ∧ ((0 ≤ (I1 p0 23).toInt ∧ (I1 p0 23).toInt ≤ 4000 ∧ (0 < (I1 p0 23).toInt → 1 ≤ (I ((Q p0 0).getD 0) (3 + p1.toInt.toNat)).toInt ∧ 1 ≤ (I ((Q p0 0).getD 0) (11 + p1.toInt.toNat)).toInt))) ∧ (∀ b, K b = 0 ∨ K b = 1 ∨ K b = 3 ∨ K b = 6 → I1 b = I b) ∧ J1 = J)) (va_runV (As := [.int p1, .int 1]) (rest := []) ⟨hx, hb, hml, hown, hts⟩ (s_X7_laysIslands l dC dI cs L K G Q hQ x0 m0 tx tm H.size I J hI p0 hLp0 hKp0 p1 ⟨by omega, by omega⟩ 1) (cwV 2 hts (gV pq1534 pq1536 pq57 pq81 pq1537) rfl rfl rfl (by decide +kernel) ⟨(by rw [hR]; exact (Nat.le_of_ble_eq_true rfl)), (by rw [hR]; exact (Nat.le_of_ble_eq_true rfl))⟩) (sP_V hP hD hK hN hLp0 hKp0 rfl rfl) rfl rfl hl.1 rfl (lv_room (Nat.le_of_ble_eq_true rfl)) dX7_island_13 ⟨(by rw [hR]; exact (Nat.le_of_ble_eq_true rfl)), (by rw [hR]; exact (Nat.le_of_ble_eq_true rfl))⟩) hS hAL hA (fun Iz13 Jz13 H locs hz13 hIz13 hP hS => ?_)
    obtain ⟨hIz13, frc13, kc13_0_11, zp13, dnc13, djc13⟩ := hIz13
    obtain rfl : J = Jz13 := djc13.symm
    have dn_Iz13 : (∀ b, K b = 0 ∨ K b = 1 ∨ K b = 3 ∨ K b = 6 → Iz13 b = I b) := fun b hc => (dnc13 b (by omega)).trans (dn_I b hc)
    have kp0_11_Iz13 : Iz13 p0 11 = I p0 11 := kc13_0_11.trans kp0_11_I
    have fr_Iz13 : ∀ b, ¬ (K b = 7 ∨ K b = 11 ∨ K b = 27) → Iz13 b = I b := fun b q => (frc13 b (fun z => q (by omega))).trans (fr_I b q)
    refine lv_iload_n hx hb dX7_island_16 rfl (lv_at hl 2 rfl) ?_
    refine lv_iconst (v := (-1)) hx hb dX7_island_17 (by decide +kernel) ?_
    refine lv_icmp_ne (tgt := 34) hx hb dX7_island_18 (by decide) (fun c18 => ?_) (fun c18 => ?_)
    · have t18 := tq_ne (k := p2.toInt) (q := (-1)) c18 rfl (by decide +kernel)
      refine lv_iload_n hx hb dX7_island_34 rfl (lv_at hl 2 rfl) ?_
      refine lv_i2l hx hb dX7_island_35 rfl ?_
      refine lv_topl (fun z35 ez35 => ?_)
      have bz35 := tq_i2l (k := p2.toInt) ez35 rfl
      refine lv_lconst (v := 0) hx hb dX7_island_36 (by decide +kernel) ?_
      refine lv_aload_n hx hb dX7_island_37 rfl (lv_at hl 0 rfl) ?_
      refine p_get hx hb hts inX7 hown hK hP hLp0 hKp0 rfl rfl 23 (by decide) (hts _ pq1138) rfl dX7_island_38 ?_
      refine lv_topi (fun z38 ez38 => ?_)
      have cgz38 := congrArg Int32.toInt ez38
      refine lv_iconst (v := 1) hx hb dX7_island_41 (by decide +kernel) ?_
      refine lv_isub hx hb dX7_island_42 ?_
      refine lv_topi (fun z42 ez42 => ?_)
      refine lv_i2l hx hb dX7_island_43 rfl ?_
      refine lv_topl (fun z43 ez43 => ?_)
      have bz43 := tq_i2l (k := z42.toInt) ez43 rfl
      refine ro_i (va_runS (As := [.long z35, .long 0, .long z43]) (rest := []) ⟨hx, hb, hml, hown, hts⟩ (s_X7_in l dC dI cs L K Q H.size Iz13 J z35 0 z43) (va_cwS 3 hts (gS pq1234 pq1235 pq81 pq1236) rfl rfl rfl (by decide +kernel) ⟨(by rw [hR]; exact (Nat.le_of_ble_eq_true rfl)), (by rw [hR]; exact (Nat.le_of_ble_eq_true rfl))⟩) (sP_S hP hD hK hN) rfl rfl hl.1 rfl (lv_room (Nat.le_of_ble_eq_true rfl)) dX7_island_44 ⟨(by rw [hR]; exact (Nat.le_of_ble_eq_true rfl)), (by rw [hR]; exact (Nat.le_of_ble_eq_true rfl))⟩) hS hP (fun z44 H locs hz44 hP hS => ?_)
      have csl44_0 : (0 : Int64).toInt = 0 := by decide +kernel
      obtain ⟨bz44, imz44, xpz44⟩ := hz44
      refine lv_if_eq (tgt := 62) hx hb dX7_island_47 (by decide) (fun c47 => ?_) (fun c47 => ?_)
      · have t47 := tq_eq (k := z44.toInt) (q := (0)) c47 rfl (by decide +kernel)
        refine lv_iconst (v := (-1)) hx hb dX7_island_62 (by decide +kernel) ?_
        subst hR; subst hQz
        exact W.iret (v := (-1)) hx hb hr (fun t ht hW => ⟨⟨(-1), (), rfl, trivial, ⟨Iz13, J, ⟨hIz13, fr_Iz13, kp0_11_Iz13, dn_Iz13, (fun σ A => cmA_fr hQ hLp0 hKp0 (fun b hb => fr_Iz13 b (by omega)) (fun _ _ => rfl) kp0_11_Iz13 A), dj_J⟩, by rw [ht]; exact hP⟩⟩, hS.F ht⟩) hS.2.2 dX7_island_63
      · have t47 := tq_ne (k := z44.toInt) (q := (0)) c47 rfl (by decide +kernel)
        have i47 := imz44 t47
        refine lv_iload_n hx hb dX7_island_50 rfl (lv_at hl 3 rfl) ?_
        refine lv_i2l hx hb dX7_island_51 rfl ?_
        refine lv_topl (fun z51 ez51 => ?_)
        have bz51 := tq_i2l (k := p3.toInt) ez51 rfl
        refine lv_lconst (v := 0) hx hb dX7_island_52 (by decide +kernel) ?_
        refine lv_ldc2 hx hb hown (hts _ pq1657) dX7_island_53 ?_
        refine ro_i (va_runS (As := [.long z51, .long 0, .long 4]) (rest := []) ⟨hx, hb, hml, hown, hts⟩ (s_X7_in l dC dI cs L K Q H.size Iz13 J z51 0 4) (va_cwS 3 hts (gS pq1234 pq1235 pq81 pq1236) rfl rfl rfl (by decide +kernel) ⟨(by rw [hR]; exact (Nat.le_of_ble_eq_true rfl)), (by rw [hR]; exact (Nat.le_of_ble_eq_true rfl))⟩) (sP_S hP hD hK hN) rfl rfl hl.1 rfl (lv_room (Nat.le_of_ble_eq_true rfl)) dX7_island_56 ⟨(by rw [hR]; exact (Nat.le_of_ble_eq_true rfl)), (by rw [hR]; exact (Nat.le_of_ble_eq_true rfl))⟩) hS hP (fun z56 H locs hz56 hP hS => ?_)
        have csl56_0 : (0 : Int64).toInt = 0 := by decide +kernel
        have csl56_4 : (4 : Int64).toInt = 4 := by decide +kernel
        obtain ⟨bz56, imz56, xpz56⟩ := hz56
        refine lv_if_ne (tgt := 64) hx hb dX7_island_59 (by decide) (fun c59 => ?_) (fun c59 => ?_)
        · have t59 := tq_ne (k := z56.toInt) (q := (0)) c59 rfl (by decide +kernel)
          have i59 := imz56 t59
          refine lv_iconst (v := 0) hx hb dX7_island_64 (by decide +kernel) ?_
          refine lv_istore (lv' := [(4, .int 0), (0, .ref p0), (1, .int p1), (2, .int p2), (3, .int p3)]) hx hb dX7_island_65 hl (by decide) rfl (fun ls hl => ?_)
          refine lv_bipush (v := 100) hx hb dX7_island_67 (by decide +kernel) ?_
          refine lv_istore (lv' := [(5, .int 100), (4, .int 0), (0, .ref p0), (1, .int p1), (2, .int p2), (3, .int p3)]) hx hb dX7_island_69 hl (by decide) rfl (fun ls hl => ?_)
          refine lv_bipush (v := 40) hx hb dX7_island_71 (by decide +kernel) ?_
          refine lv_istore (lv' := [(6, .int 40), (5, .int 100), (4, .int 0), (0, .ref p0), (1, .int p1), (2, .int p2), (3, .int p3)]) hx hb dX7_island_73 hl (by decide) rfl (fun ls hl => ?_)
          refine lv_iconst (v := 0) hx hb dX7_island_75 (by decide +kernel) ?_
          refine lv_istore (lv' := [(7, .int 0), (6, .int 40), (5, .int 100), (4, .int 0), (0, .ref p0), (1, .int p1), (2, .int p2), (3, .int p3)]) hx hb dX7_island_76 hl (by decide) rfl (fun ls hl => ?_)
          refine lv_iconst (v := 0) hx hb dX7_island_78 (by decide +kernel) ?_
          refine lv_istore (lv' := [(8, .int 0), (7, .int 0), (6, .int 40), (5, .int 100), (4, .int 0), (0, .ref p0), (1, .int p1), (2, .int p2), (3, .int p3)]) hx hb dX7_island_79 hl (by decide) rfl (fun ls hl => ?_)
          refine lv_iconst (v := 0) hx hb dX7_island_81 (by decide +kernel) ?_
          refine lv_istore (lv' := [(9, .int 0), (8, .int 0), (7, .int 0), (6, .int 40), (5, .int 100), (4, .int 0), (0, .ref p0), (1, .int p1), (2, .int p2), (3, .int p3)]) hx hb dX7_island_82 hl (by decide) rfl (fun ls hl => ?_)
          have key84 := blocks (fun n => ∀ (v84_4 : Int32) (v84_5 : Int32) (v84_6 : Int32) (v84_7 : Int32) (v84_8 : Int32) (v84_9 : Int32) (H : Heap) (lo : List Loc) (ls : Array Slot), (41 - v84_9.toInt).toNat = n → ((0) ≤ v84_5.toInt ∧ v84_5.toInt ≤ 100) → ((0) ≤ v84_6.toInt ∧ v84_6.toInt ≤ 40) → ((0) ≤ v84_7.toInt ∧ v84_7.toInt ≤ 99) → ((0) ≤ v84_8.toInt ∧ v84_8.toInt ≤ 39) → ((0) ≤ v84_9.toInt ∧ v84_9.toInt ≤ 40) → va_P (dC, dI) vwCl (Wd cs L K Iz13 J Q) H → va_S A s.heap H lo → lv_has ls 11 [(0, .ref p0), (1, .int p1), (2, .int p2), (3, .int p3), (4, .int v84_4), (5, .int v84_5), (6, .int v84_6), (7, .int v84_7), (8, .int v84_8), (9, .int v84_9)] → W p l e R s m (([.ref p0, .int p1, .int p2, .int p3] : List Value).toArray) below meth c H lo 0 0 Qz (F0 m 84 ls [])) (by
            intro n ih84
            intro v84_4 v84_5 v84_6 v84_7 v84_8 v84_9 H lo ls hmu84 bv84_5 bv84_6 bv84_7 bv84_8 bv84_9 hP hS hl
            refine lv_iload hx hb dX7_island_84 (lv_at hl 9 rfl) ?_
            refine lv_aload_n hx hb dX7_island_86 rfl (lv_at hl 0 rfl) ?_
            refine lv_iload_n hx hb dX7_island_87 rfl (lv_at hl 1 rfl) ?_
            refine ro_i (va_runV (As := [.int p1]) (rest := [.int v84_9]) ⟨hx, hb, hml, hown, hts⟩ (s_X7_high l dC dI cs L K G Q hQ x0 m0 tx tm H.size Iz13 J hIz13 p0 hLp0 hKp0 p1 ⟨by omega, by omega⟩) (cwV 1 hts (gV pq1372 pq1374 pq33 pq81 pq1375) rfl rfl rfl (by decide +kernel) ⟨(by rw [hR]; exact (Nat.le_of_ble_eq_true rfl)), (by rw [hR]; exact (Nat.le_of_ble_eq_true rfl))⟩) (sP_V hP hD hK hN hLp0 hKp0 rfl rfl) rfl rfl hl.1 rfl (lv_room (Nat.le_of_ble_eq_true rfl)) dX7_island_88 ⟨(by rw [hR]; exact (Nat.le_of_ble_eq_true rfl)), (by rw [hR]; exact (Nat.le_of_ble_eq_true rfl))⟩) hS hP (fun z88 H locs hz88 hP hS => ?_)
            obtain ⟨bz88, fez88⟩ := hz88
            refine lv_icmp_ge (tgt := 178) hx hb dX7_island_91 (by decide) (fun c91 => ?_) (fun c91 => ?_)
            · have t91 := tq_le (k := z88.toInt) (q := v84_9.toInt) c91 rfl rfl
              refine lv_iload_n hx hb dX7_island_178 rfl (lv_at hl 3 rfl) ?_
              refine lv_if_ne (tgt := 187) hx hb dX7_island_179 (by decide) (fun c179 => ?_) (fun c179 => ?_)
              · have t179 := tq_ne (k := p3.toInt) (q := (0)) c179 rfl (by decide +kernel)
                refine lv_iload_n hx hb dX7_island_187 rfl (lv_at hl 3 rfl) ?_
                refine lv_iconst (v := 1) hx hb dX7_island_188 (by decide +kernel) ?_
                refine lv_icmp_ne (tgt := 197) hx hb dX7_island_189 (by decide) (fun c189 => ?_) (fun c189 => ?_)
                · have t189 := tq_ne (k := p3.toInt) (q := (1)) c189 rfl (by decide +kernel)
                  refine lv_iload_n hx hb dX7_island_197 rfl (lv_at hl 3 rfl) ?_
                  refine lv_iconst (v := 2) hx hb dX7_island_198 (by decide +kernel) ?_
                  refine lv_icmp_ne (tgt := 207) hx hb dX7_island_199 (by decide) (fun c199 => ?_) (fun c199 => ?_)
                  · have t199 := tq_ne (k := p3.toInt) (q := (2)) c199 rfl (by decide +kernel)
                    refine lv_iload_n hx hb dX7_island_207 rfl (lv_at hl 3 rfl) ?_
                    refine lv_iconst (v := 3) hx hb dX7_island_208 (by decide +kernel) ?_
                    refine lv_icmp_ne (tgt := 217) hx hb dX7_island_209 (by decide) (fun c209 => ?_) (fun c209 => ?_)
                    · have t209 := tq_ne (k := p3.toInt) (q := (3)) c209 rfl (by decide +kernel)
                      refine lv_iload hx hb dX7_island_217 (lv_at hl 8 rfl) ?_
                      subst hR; subst hQz
                      exact W.iret (v := v84_8) hx hb hr (fun t ht hW => ⟨⟨v84_8, (), rfl, trivial, ⟨Iz13, J, ⟨hIz13, fr_Iz13, kp0_11_Iz13, dn_Iz13, (fun σ A => cmA_fr hQ hLp0 hKp0 (fun b hb => fr_Iz13 b (by omega)) (fun _ _ => rfl) kp0_11_Iz13 A), dj_J⟩, by rw [ht]; exact hP⟩⟩, hS.F ht⟩) hS.2.2 dX7_island_219
                    · have t209 := tq_eq (k := p3.toInt) (q := (3)) c209 rfl (by decide +kernel)
                      refine lv_iload hx hb dX7_island_212 (lv_at hl 7 rfl) ?_
                      refine lv_goto (tgt := 219) hx hb dX7_island_214 (by decide) ?_
                      subst hR; subst hQz
                      exact W.iret (v := v84_7) hx hb hr (fun t ht hW => ⟨⟨v84_7, (), rfl, trivial, ⟨Iz13, J, ⟨hIz13, fr_Iz13, kp0_11_Iz13, dn_Iz13, (fun σ A => cmA_fr hQ hLp0 hKp0 (fun b hb => fr_Iz13 b (by omega)) (fun _ _ => rfl) kp0_11_Iz13 A), dj_J⟩, by rw [ht]; exact hP⟩⟩, hS.F ht⟩) hS.2.2 dX7_island_219
                  · have t199 := tq_eq (k := p3.toInt) (q := (2)) c199 rfl (by decide +kernel)
                    refine lv_iload hx hb dX7_island_202 (lv_at hl 6 rfl) ?_
                    refine lv_goto (tgt := 219) hx hb dX7_island_204 (by decide) ?_
                    subst hR; subst hQz
                    exact W.iret (v := v84_6) hx hb hr (fun t ht hW => ⟨⟨v84_6, (), rfl, trivial, ⟨Iz13, J, ⟨hIz13, fr_Iz13, kp0_11_Iz13, dn_Iz13, (fun σ A => cmA_fr hQ hLp0 hKp0 (fun b hb => fr_Iz13 b (by omega)) (fun _ _ => rfl) kp0_11_Iz13 A), dj_J⟩, by rw [ht]; exact hP⟩⟩, hS.F ht⟩) hS.2.2 dX7_island_219
                · have t189 := tq_eq (k := p3.toInt) (q := (1)) c189 rfl (by decide +kernel)
                  refine lv_iload hx hb dX7_island_192 (lv_at hl 5 rfl) ?_
                  refine lv_goto (tgt := 219) hx hb dX7_island_194 (by decide) ?_
                  subst hR; subst hQz
                  exact W.iret (v := v84_5) hx hb hr (fun t ht hW => ⟨⟨v84_5, (), rfl, trivial, ⟨Iz13, J, ⟨hIz13, fr_Iz13, kp0_11_Iz13, dn_Iz13, (fun σ A => cmA_fr hQ hLp0 hKp0 (fun b hb => fr_Iz13 b (by omega)) (fun _ _ => rfl) kp0_11_Iz13 A), dj_J⟩, by rw [ht]; exact hP⟩⟩, hS.F ht⟩) hS.2.2 dX7_island_219
              · have t179 := tq_eq (k := p3.toInt) (q := (0)) c179 rfl (by decide +kernel)
                refine lv_iload hx hb dX7_island_182 (lv_at hl 4 rfl) ?_
                refine lv_goto (tgt := 219) hx hb dX7_island_184 (by decide) ?_
                subst hR; subst hQz
                exact W.iret (v := v84_4) hx hb hr (fun t ht hW => ⟨⟨v84_4, (), rfl, trivial, ⟨Iz13, J, ⟨hIz13, fr_Iz13, kp0_11_Iz13, dn_Iz13, (fun σ A => cmA_fr hQ hLp0 hKp0 (fun b hb => fr_Iz13 b (by omega)) (fun _ _ => rfl) kp0_11_Iz13 A), dj_J⟩, by rw [ht]; exact hP⟩⟩, hS.F ht⟩) hS.2.2 dX7_island_219
            · have t91 := tq_nle (k := z88.toInt) (q := v84_9.toInt) c91 rfl rfl
              refine lv_iconst (v := 0) hx hb dX7_island_94 (by decide +kernel) ?_
              refine lv_istore (lv' := [(10, .int 0), (0, .ref p0), (1, .int p1), (2, .int p2), (3, .int p3), (4, .int v84_4), (5, .int v84_5), (6, .int v84_6), (7, .int v84_7), (8, .int v84_8), (9, .int v84_9)]) hx hb dX7_island_95 hl (by decide) rfl (fun ls hl => ?_)
              have key97 := blocks (fun n => ∀ (v97_10 : Int32) (v97_4 : Int32) (v97_5 : Int32) (v97_6 : Int32) (v97_7 : Int32) (v97_8 : Int32) (H : Heap) (lo : List Loc) (ls : Array Slot), (101 - v97_10.toInt).toNat = n → ((0) ≤ v97_10.toInt ∧ v97_10.toInt ≤ 100) → ((0) ≤ v97_5.toInt ∧ v97_5.toInt ≤ 100) → ((0) ≤ v97_6.toInt ∧ v97_6.toInt ≤ 40) → ((0) ≤ v97_7.toInt ∧ v97_7.toInt ≤ 99) → ((0) ≤ v97_8.toInt ∧ v97_8.toInt ≤ 39) → va_P (dC, dI) vwCl (Wd cs L K Iz13 J Q) H → va_S A s.heap H lo → lv_has ls 11 [(0, .ref p0), (1, .int p1), (2, .int p2), (3, .int p3), (4, .int v97_4), (5, .int v97_5), (6, .int v97_6), (7, .int v97_7), (8, .int v97_8), (9, .int v84_9), (10, .int v97_10)] → W p l e R s m (([.ref p0, .int p1, .int p2, .int p3] : List Value).toArray) below meth c H lo 0 0 Qz (F0 m 97 ls [])) (by
                intro n ih97
                intro v97_10 v97_4 v97_5 v97_6 v97_7 v97_8 H lo ls hmu97 bv97_10 bv97_5 bv97_6 bv97_7 bv97_8 hP hS hl
                refine lv_iload hx hb dX7_island_97 (lv_at hl 10 rfl) ?_
                refine lv_aload_n hx hb dX7_island_99 rfl (lv_at hl 0 rfl) ?_
                refine lv_iload_n hx hb dX7_island_100 rfl (lv_at hl 1 rfl) ?_
                refine ro_i (va_runV (As := [.int p1]) (rest := [.int v97_10]) ⟨hx, hb, hml, hown, hts⟩ (s_X7_wide l dC dI cs L K G Q hQ x0 m0 tx tm H.size Iz13 J hIz13 p0 hLp0 hKp0 p1 ⟨by omega, by omega⟩) (cwV 1 hts (gV pq1368 pq1370 pq32 pq81 pq1371) rfl rfl rfl (by decide +kernel) ⟨(by rw [hR]; exact (Nat.le_of_ble_eq_true rfl)), (by rw [hR]; exact (Nat.le_of_ble_eq_true rfl))⟩) (sP_V hP hD hK hN hLp0 hKp0 rfl rfl) rfl rfl hl.1 rfl (lv_room (Nat.le_of_ble_eq_true rfl)) dX7_island_101 ⟨(by rw [hR]; exact (Nat.le_of_ble_eq_true rfl)), (by rw [hR]; exact (Nat.le_of_ble_eq_true rfl))⟩) hS hP (fun z101 H locs hz101 hP hS => ?_)
                obtain ⟨bz101, fez101⟩ := hz101
                refine lv_icmp_ge (tgt := 172) hx hb dX7_island_104 (by decide) (fun c104 => ?_) (fun c104 => ?_)
                · have t104 := tq_le (k := z101.toInt) (q := v97_10.toInt) c104 rfl rfl
                  obtain ⟨z172, ez172⟩ : ∃ y : Int32, y = v84_9 + 1 := ⟨_, rfl⟩
                  refine lv_iinc (v := z172) (lv' := [(9, .int z172), (0, .ref p0), (1, .int p1), (2, .int p2), (3, .int p3), (4, .int v97_4), (5, .int v97_5), (6, .int v97_6), (7, .int v97_7), (8, .int v97_8), (10, .int v97_10)]) hx hb dX7_island_172 hl (k := 9) rfl (by rw [ez172]; rfl) (by decide) rfl (fun ls hl => ?_)
                  have bz172 := tq_add (k := v84_9.toInt) (q := 1) ez172 rfl (by decide +kernel) (by omega) (by omega)
                  refine lv_goto (tgt := 84) hx hb dX7_island_175 (by decide) ?_
                  exact ih84 _ (by omega) v97_4 v97_5 v97_6 v97_7 v97_8 z172 _ _ _ rfl ⟨by omega, by omega⟩ ⟨by omega, by omega⟩ ⟨by omega, by omega⟩ ⟨by omega, by omega⟩ ⟨by omega, by omega⟩ hP hS (lv_sub hl [1, 2, 3, 4, 5, 6, 7, 8, 9, 0] rfl)
                · have t104 := tq_nle (k := z101.toInt) (q := v97_10.toInt) c104 rfl rfl
                  refine lv_aload_n hx hb dX7_island_107 rfl (lv_at hl 0 rfl) ?_
                  obtain ⟨y108, ey108, hLy108, hKy108⟩ := oQ_7_21 (Sv_at hQ hLp0 hKp0)
                  refine p_get (v := .ref y108) hx hb hts inX7 hown hK hP hLp0 hKp0 rfl rfl 21 (by decide) (hts _ pq1136) (congrArg (fun q => some (va_rf q)) ey108) dX7_island_108 ?_
                  refine lv_bipush (v := 100) hx hb dX7_island_111 (by decide +kernel) ?_
                  refine lv_iload hx hb dX7_island_113 (lv_at hl 9 rfl) ?_
                  refine lv_imul hx hb dX7_island_115 ?_
                  refine lv_topi (fun z115 ez115 => ?_)
                  have bz115 := tq_mul (k := (100)) (q := v84_9.toInt) ez115 (by decide +kernel) rfl (by omega) (by omega)
                  refine lv_iload hx hb dX7_island_116 (lv_at hl 10 rfl) ?_
                  refine lv_iadd hx hb dX7_island_118 ?_
                  refine lv_topi (fun z118 ez118 => ?_)
                  have bz118 := tq_add (k := z115.toInt) (q := v97_10.toInt) ez118 rfl rfl (by omega) (by omega)
                  refine p_iald hx hb hK hP 17 hLy108 hKy108 rfl rfl (in_of (by omega) (by omega)) dX7_island_119 ?_
                  refine lv_topi (fun z119 ez119 => ?_)
                  refine lv_iload_n hx hb dX7_island_120 rfl (lv_at hl 2 rfl) ?_
                  have j166 : ∀ (v166_4 : Int32) (v166_5 : Int32) (v166_6 : Int32) (v166_7 : Int32) (v166_8 : Int32) (H : Heap) (lo : List Loc) (ls : Array Slot), ((0) ≤ v166_5.toInt ∧ v166_5.toInt ≤ 100) → ((0) ≤ v166_6.toInt ∧ v166_6.toInt ≤ 40) → ((0) ≤ v166_7.toInt ∧ v166_7.toInt ≤ 99) → ((0) ≤ v166_8.toInt ∧ v166_8.toInt ≤ 39) → va_P (dC, dI) vwCl (Wd cs L K Iz13 J Q) H → va_S A s.heap H lo → lv_has ls 11 [(0, .ref p0), (1, .int p1), (2, .int p2), (3, .int p3), (4, .int v166_4), (5, .int v166_5), (6, .int v166_6), (7, .int v166_7), (8, .int v166_8), (9, .int v84_9), (10, .int v97_10)] → W p l e R s m (([.ref p0, .int p1, .int p2, .int p3] : List Value).toArray) below meth c H lo 0 0 Qz (F0 m 166 ls []) := by
                    intro v166_4 v166_5 v166_6 v166_7 v166_8 H lo ls bv166_5 bv166_6 bv166_7 bv166_8 hP hS hl
                    obtain ⟨z166, ez166⟩ : ∃ y : Int32, y = v97_10 + 1 := ⟨_, rfl⟩
                    refine lv_iinc (v := z166) (lv' := [(10, .int z166), (0, .ref p0), (1, .int p1), (2, .int p2), (3, .int p3), (4, .int v166_4), (5, .int v166_5), (6, .int v166_6), (7, .int v166_7), (8, .int v166_8), (9, .int v84_9)]) hx hb dX7_island_166 hl (k := 10) rfl (by rw [ez166]; rfl) (by decide) rfl (fun ls hl => ?_)
                    have bz166 := tq_add (k := v97_10.toInt) (q := 1) ez166 rfl (by decide +kernel) (by omega) (by omega)
                    refine lv_goto (tgt := 97) hx hb dX7_island_169 (by decide) ?_
                    exact ih97 _ (by omega) z166 v166_4 v166_5 v166_6 v166_7 v166_8 _ _ _ rfl ⟨by omega, by omega⟩ ⟨by omega, by omega⟩ ⟨by omega, by omega⟩ ⟨by omega, by omega⟩ ⟨by omega, by omega⟩ hP hS (lv_sub hl [1, 2, 3, 4, 5, 6, 7, 8, 9, 10, 0] rfl)
                  refine lv_icmp_eq (tgt := 127) hx hb dX7_island_121 (by decide) (fun c121 => ?_) (fun c121 => ?_)
                  · have t121 := tq_eq (k := z119.toInt) (q := p2.toInt) c121 rfl rfl
                    obtain ⟨z127, ez127⟩ : ∃ y : Int32, y = v97_4 + 1 := ⟨_, rfl⟩
                    refine lv_iinc (v := z127) (lv' := [(4, .int z127), (0, .ref p0), (1, .int p1), (2, .int p2), (3, .int p3), (5, .int v97_5), (6, .int v97_6), (7, .int v97_7), (8, .int v97_8), (9, .int v84_9), (10, .int v97_10)]) hx hb dX7_island_127 hl (k := 4) rfl (by rw [ez127]; rfl) (by decide) rfl (fun ls hl => ?_)
                    refine lv_iload hx hb dX7_island_130 (lv_at hl 5 rfl) ?_
                    refine lv_iload hx hb dX7_island_132 (lv_at hl 10 rfl) ?_
                    refine va_mmin hx hb (hml.trans hl.1.symm) hown (hts _ pq1269) (hts _ pq407) (hts _ pq82) (hts _ pq408) (by rw [hR]; exact (Nat.le_of_ble_eq_true rfl)) (by rw [hR]; exact (Nat.le_of_ble_eq_true rfl)) (by rw [hR]; exact (Nat.le_of_ble_eq_true rfl)) (by rw [hR]; exact (Nat.le_of_ble_eq_true rfl)) dX7_island_134 ?_
                    refine lv_topi (fun z134 ez134 => ?_)
                    have bz134 := tq_min ez134
                    refine lv_istore (lv' := [(5, .int z134), (4, .int z127), (0, .ref p0), (1, .int p1), (2, .int p2), (3, .int p3), (6, .int v97_6), (7, .int v97_7), (8, .int v97_8), (9, .int v84_9), (10, .int v97_10)]) hx hb dX7_island_137 hl (by decide) rfl (fun ls hl => ?_)
                    refine lv_iload hx hb dX7_island_139 (lv_at hl 6 rfl) ?_
                    refine lv_iload hx hb dX7_island_141 (lv_at hl 9 rfl) ?_
                    refine va_mmin hx hb (hml.trans hl.1.symm) hown (hts _ pq1269) (hts _ pq407) (hts _ pq82) (hts _ pq408) (by rw [hR]; exact (Nat.le_of_ble_eq_true rfl)) (by rw [hR]; exact (Nat.le_of_ble_eq_true rfl)) (by rw [hR]; exact (Nat.le_of_ble_eq_true rfl)) (by rw [hR]; exact (Nat.le_of_ble_eq_true rfl)) dX7_island_143 ?_
                    refine lv_topi (fun z143 ez143 => ?_)
                    have bz143 := tq_min ez143
                    refine lv_istore (lv' := [(6, .int z143), (5, .int z134), (4, .int z127), (0, .ref p0), (1, .int p1), (2, .int p2), (3, .int p3), (7, .int v97_7), (8, .int v97_8), (9, .int v84_9), (10, .int v97_10)]) hx hb dX7_island_146 hl (by decide) rfl (fun ls hl => ?_)
                    refine lv_iload hx hb dX7_island_148 (lv_at hl 7 rfl) ?_
                    refine lv_iload hx hb dX7_island_150 (lv_at hl 10 rfl) ?_
                    refine va_mmax hx hb (hml.trans hl.1.symm) hown (hts _ pq1443) (hts _ pq750) (hts _ pq82) (hts _ pq751) (by rw [hR]; exact (Nat.le_of_ble_eq_true rfl)) (by rw [hR]; exact (Nat.le_of_ble_eq_true rfl)) (by rw [hR]; exact (Nat.le_of_ble_eq_true rfl)) (by rw [hR]; exact (Nat.le_of_ble_eq_true rfl)) dX7_island_152 ?_
                    refine lv_topi (fun z152 ez152 => ?_)
                    have bz152 := tq_max ez152
                    refine lv_istore (lv' := [(7, .int z152), (6, .int z143), (5, .int z134), (4, .int z127), (0, .ref p0), (1, .int p1), (2, .int p2), (3, .int p3), (8, .int v97_8), (9, .int v84_9), (10, .int v97_10)]) hx hb dX7_island_155 hl (by decide) rfl (fun ls hl => ?_)
                    refine lv_iload hx hb dX7_island_157 (lv_at hl 8 rfl) ?_
                    refine lv_iload hx hb dX7_island_159 (lv_at hl 9 rfl) ?_
                    refine va_mmax hx hb (hml.trans hl.1.symm) hown (hts _ pq1443) (hts _ pq750) (hts _ pq82) (hts _ pq751) (by rw [hR]; exact (Nat.le_of_ble_eq_true rfl)) (by rw [hR]; exact (Nat.le_of_ble_eq_true rfl)) (by rw [hR]; exact (Nat.le_of_ble_eq_true rfl)) (by rw [hR]; exact (Nat.le_of_ble_eq_true rfl)) dX7_island_161 ?_
                    refine lv_topi (fun z161 ez161 => ?_)
                    have bz161 := tq_max ez161
                    refine lv_istore (lv' := [(8, .int z161), (7, .int z152), (6, .int z143), (5, .int z134), (4, .int z127), (0, .ref p0), (1, .int p1), (2, .int p2), (3, .int p3), (9, .int v84_9), (10, .int v97_10)]) hx hb dX7_island_164 hl (by decide) rfl (fun ls hl => ?_)
                    exact j166 z127 z134 z143 z152 z161 _ _ _ ⟨by omega, by omega⟩ ⟨by omega, by omega⟩ ⟨by omega, by omega⟩ ⟨by omega, by omega⟩ hP hS (lv_sub hl [5, 6, 7, 8, 4, 3, 2, 1, 0, 9, 10] rfl)
                  · have t121 := tq_ne (k := z119.toInt) (q := p2.toInt) c121 rfl rfl
                    refine lv_goto (tgt := 166) hx hb dX7_island_124 (by decide) ?_
                    exact j166 v97_4 v97_5 v97_6 v97_7 v97_8 _ _ _ ⟨by omega, by omega⟩ ⟨by omega, by omega⟩ ⟨by omega, by omega⟩ ⟨by omega, by omega⟩ hP hS (lv_sub hl [0, 1, 2, 3, 4, 5, 6, 7, 8, 9, 10] rfl))
              exact key97 _ 0 v84_4 v84_5 v84_6 v84_7 v84_8 _ _ _ rfl ⟨by decide +kernel, by decide +kernel⟩ ⟨by omega, by omega⟩ ⟨by omega, by omega⟩ ⟨by omega, by omega⟩ ⟨by omega, by omega⟩ hP hS (lv_sub hl [1, 2, 3, 4, 5, 6, 7, 8, 9, 10, 0] rfl))
          exact key84 _ 0 100 40 0 0 0 _ _ _ rfl ⟨by decide +kernel, by decide +kernel⟩ ⟨by decide +kernel, by decide +kernel⟩ ⟨by decide +kernel, by decide +kernel⟩ ⟨by decide +kernel, by decide +kernel⟩ ⟨by decide +kernel, by decide +kernel⟩ hP hS (lv_sub hl [6, 7, 8, 9, 5, 4, 3, 2, 1, 0] rfl)
        · have t59 := tq_eq (k := z56.toInt) (q := (0)) c59 rfl (by decide +kernel)
          refine lv_iconst (v := (-1)) hx hb dX7_island_62 (by decide +kernel) ?_
          subst hR; subst hQz
          exact W.iret (v := (-1)) hx hb hr (fun t ht hW => ⟨⟨(-1), (), rfl, trivial, ⟨Iz13, J, ⟨hIz13, fr_Iz13, kp0_11_Iz13, dn_Iz13, (fun σ A => cmA_fr hQ hLp0 hKp0 (fun b hb => fr_Iz13 b (by omega)) (fun _ _ => rfl) kp0_11_Iz13 A), dj_J⟩, by rw [ht]; exact hP⟩⟩, hS.F ht⟩) hS.2.2 dX7_island_63
    · have t18 := tq_eq (k := p2.toInt) (q := (-1)) c18 rfl (by decide +kernel)
      refine lv_iload_n hx hb dX7_island_21 rfl (lv_at hl 3 rfl) ?_
      refine lv_if_ne (tgt := 32) hx hb dX7_island_22 (by decide) (fun c22 => ?_) (fun c22 => ?_)
      · have t22 := tq_ne (k := p3.toInt) (q := (0)) c22 rfl (by decide +kernel)
        refine lv_iconst (v := (-1)) hx hb dX7_island_32 (by decide +kernel) ?_
        subst hR; subst hQz
        exact W.iret (v := (-1)) hx hb hr (fun t ht hW => ⟨⟨(-1), (), rfl, trivial, ⟨Iz13, J, ⟨hIz13, fr_Iz13, kp0_11_Iz13, dn_Iz13, (fun σ A => cmA_fr hQ hLp0 hKp0 (fun b hb => fr_Iz13 b (by omega)) (fun _ _ => rfl) kp0_11_Iz13 A), dj_J⟩, by rw [ht]; exact hP⟩⟩, hS.F ht⟩) hS.2.2 dX7_island_33
      · have t22 := tq_eq (k := p3.toInt) (q := (0)) c22 rfl (by decide +kernel)
        refine lv_aload_n hx hb dX7_island_25 rfl (lv_at hl 0 rfl) ?_
        refine p_get hx hb hts inX7 hown hK hP hLp0 hKp0 rfl rfl 23 (by decide) (hts _ pq1138) rfl dX7_island_26 ?_
        refine lv_topi (fun z26 ez26 => ?_)
        have cgz26 := congrArg Int32.toInt ez26
        refine lv_goto (tgt := 33) hx hb dX7_island_29 (by decide) ?_
        subst hR; subst hQz
        exact W.iret (v := z26) hx hb hr (fun t ht hW => ⟨⟨z26, (), rfl, trivial, ⟨Iz13, J, ⟨hIz13, fr_Iz13, kp0_11_Iz13, dn_Iz13, (fun σ A => cmA_fr hQ hLp0 hKp0 (fun b hb => fr_Iz13 b (by omega)) (fun _ _ => rfl) kp0_11_Iz13 A), dj_J⟩, by rw [ht]; exact hP⟩⟩, hS.F ht⟩) hS.2.2 dX7_island_33
  · have t5 := tq_eq (k := z2.toInt) (q := (0)) c5 rfl (by decide +kernel)
    refine lv_iconst (v := (-1)) hx hb dX7_island_8 (by decide +kernel) ?_
    subst hR; subst hQz
    exact W.iret (v := (-1)) hx hb hr (fun t ht hW => ⟨⟨(-1), (), rfl, trivial, ⟨I, J, ⟨hI, fr_I, kp0_11_I, dn_I, (fun σ A => cmA_fr hQ hLp0 hKp0 (fun _ _ => rfl) (fun _ _ => rfl) rfl A), dj_J⟩, by rw [ht]; exact hP⟩⟩, hS.F ht⟩) hS.2.2 dX7_island_9
