abbrev cX7_aboveOf : ByteArray := prog_9_method_80_code
abbrev cX7_falls : ByteArray := prog_9_method_76_code
abbrev cX7_leftOf : ByteArray := prog_9_method_79_code
abbrev cX7_push : ByteArray := prog_9_method_75_code
abbrev cX7_reaches : ByteArray := prog_9_method_77_code
abbrev cX7_slide : ByteArray := prog_9_method_71_code
def yX7_aboveOf : MethodName := ⟨RX7, "aboveOf", "(II)I"⟩
def yX7_falls : MethodName := ⟨RX7, "falls", "()I"⟩
def yX7_leftOf : MethodName := ⟨RX7, "leftOf", "(II)I"⟩
def yX7_push : MethodName := ⟨RX7, "push", "(III)I"⟩
def yX7_reaches : MethodName := ⟨RX7, "reaches", "(I)Z"⟩
def yX7_slide : MethodName := ⟨RX7, "slide", "(III)I"⟩
theorem dX7_aboveOf_0 : decode cX7_aboveOf 0 = .ok (.aload_n 0, 1) := by decide +kernel
theorem dX7_aboveOf_1 : decode cX7_aboveOf 1 = .ok (.iload_n 2, 1) := by decide +kernel
theorem dX7_aboveOf_2 : decode cX7_aboveOf 2 = .ok (.iconst 3, 1) := by decide +kernel
theorem dX7_aboveOf_3 : decode cX7_aboveOf 3 = .ok (.invokevirtual 199, 3) := by decide +kernel
theorem dX7_aboveOf_6 : decode cX7_aboveOf 6 = .ok (.iconst 1, 1) := by decide +kernel
theorem dX7_aboveOf_7 : decode cX7_aboveOf 7 = .ok (.if_icmp .le 20, 3) := by decide +kernel
theorem dX7_aboveOf_10 : decode cX7_aboveOf 10 = .ok (.aload_n 0, 1) := by decide +kernel
theorem dX7_aboveOf_11 : decode cX7_aboveOf 11 = .ok (.iload_n 1, 1) := by decide +kernel
theorem dX7_aboveOf_12 : decode cX7_aboveOf 12 = .ok (.invokevirtual 205, 3) := by decide +kernel
theorem dX7_aboveOf_15 : decode cX7_aboveOf 15 = .ok (.iconst 1, 1) := by decide +kernel
theorem dX7_aboveOf_16 : decode cX7_aboveOf 16 = .ok (.isub, 1) := by decide +kernel
theorem dX7_aboveOf_17 : decode cX7_aboveOf 17 = .ok (.aload_n 0, 1) := by decide +kernel
theorem dX7_aboveOf_18 : decode cX7_aboveOf 18 = .ok (.getfield 55, 3) := by decide +kernel
theorem dX7_aboveOf_21 : decode cX7_aboveOf 21 = .ok (.iconst 3, 1) := by decide +kernel
theorem dX7_aboveOf_22 : decode cX7_aboveOf 22 = .ok (.iaload, 1) := by decide +kernel
theorem dX7_aboveOf_23 : decode cX7_aboveOf 23 = .ok (.isub, 1) := by decide +kernel
theorem dX7_aboveOf_24 : decode cX7_aboveOf 24 = .ok (.goto 9, 3) := by decide +kernel
theorem dX7_aboveOf_27 : decode cX7_aboveOf 27 = .ok (.aload_n 0, 1) := by decide +kernel
theorem dX7_aboveOf_28 : decode cX7_aboveOf 28 = .ok (.getfield 55, 3) := by decide +kernel
theorem dX7_aboveOf_31 : decode cX7_aboveOf 31 = .ok (.iconst 1, 1) := by decide +kernel
theorem dX7_aboveOf_32 : decode cX7_aboveOf 32 = .ok (.iaload, 1) := by decide +kernel
theorem dX7_aboveOf_33 : decode cX7_aboveOf 33 = .ok (.ireturn, 1) := by decide +kernel
theorem dX7_falls_0 : decode cX7_falls 0 = .ok (.aload_n 0, 1) := by decide +kernel
theorem dX7_falls_1 : decode cX7_falls 1 = .ok (.getfield 9, 3) := by decide +kernel
theorem dX7_falls_4 : decode cX7_falls 4 = .ok (.iconst 1, 1) := by decide +kernel
theorem dX7_falls_5 : decode cX7_falls 5 = .ok (.iaload, 1) := by decide +kernel
theorem dX7_falls_6 : decode cX7_falls 6 = .ok (.ifCond .ne 5, 3) := by decide +kernel
theorem dX7_falls_9 : decode cX7_falls 9 = .ok (.iconst (-1), 1) := by decide +kernel
theorem dX7_falls_10 : decode cX7_falls 10 = .ok (.ireturn, 1) := by decide +kernel
theorem dX7_falls_11 : decode cX7_falls 11 = .ok (.aload_n 0, 1) := by decide +kernel
theorem dX7_falls_12 : decode cX7_falls 12 = .ok (.invokevirtual 331, 3) := by decide +kernel
theorem dX7_falls_15 : decode cX7_falls 15 = .ok (.aload_n 0, 1) := by decide +kernel
theorem dX7_falls_16 : decode cX7_falls 16 = .ok (.invokevirtual 190, 3) := by decide +kernel
theorem dX7_falls_19 : decode cX7_falls 19 = .ok (.iconst 0, 1) := by decide +kernel
theorem dX7_falls_20 : decode cX7_falls 20 = .ok (.istore_n 1, 1) := by decide +kernel
theorem dX7_falls_21 : decode cX7_falls 21 = .ok (.iconst 1, 1) := by decide +kernel
theorem dX7_falls_22 : decode cX7_falls 22 = .ok (.istore_n 2, 1) := by decide +kernel
theorem dX7_falls_23 : decode cX7_falls 23 = .ok (.iload_n 2, 1) := by decide +kernel
theorem dX7_falls_24 : decode cX7_falls 24 = .ok (.ifCond .le 42, 3) := by decide +kernel
theorem dX7_falls_27 : decode cX7_falls 27 = .ok (.iconst 0, 1) := by decide +kernel
theorem dX7_falls_28 : decode cX7_falls 28 = .ok (.istore_n 2, 1) := by decide +kernel
theorem dX7_falls_29 : decode cX7_falls 29 = .ok (.iconst 0, 1) := by decide +kernel
theorem dX7_falls_30 : decode cX7_falls 30 = .ok (.istore_n 3, 1) := by decide +kernel
theorem dX7_falls_31 : decode cX7_falls 31 = .ok (.iload_n 3, 1) := by decide +kernel
theorem dX7_falls_32 : decode cX7_falls 32 = .ok (.aload_n 0, 1) := by decide +kernel
theorem dX7_falls_33 : decode cX7_falls 33 = .ok (.getfield 9, 3) := by decide +kernel
theorem dX7_falls_36 : decode cX7_falls 36 = .ok (.iconst 1, 1) := by decide +kernel
theorem dX7_falls_37 : decode cX7_falls 37 = .ok (.iaload, 1) := by decide +kernel
theorem dX7_falls_38 : decode cX7_falls 38 = .ok (.if_icmp .ge 21, 3) := by decide +kernel
theorem dX7_falls_41 : decode cX7_falls 41 = .ok (.iload_n 2, 1) := by decide +kernel
theorem dX7_falls_42 : decode cX7_falls 42 = .ok (.aload_n 0, 1) := by decide +kernel
theorem dX7_falls_43 : decode cX7_falls 43 = .ok (.iload_n 3, 1) := by decide +kernel
theorem dX7_falls_44 : decode cX7_falls 44 = .ok (.iconst 0, 1) := by decide +kernel
theorem dX7_falls_45 : decode cX7_falls 45 = .ok (.sipush 200, 3) := by decide +kernel
theorem dX7_falls_48 : decode cX7_falls 48 = .ok (.invokevirtual 343, 3) := by decide +kernel
theorem dX7_falls_51 : decode cX7_falls 51 = .ok (.iadd, 1) := by decide +kernel
theorem dX7_falls_52 : decode cX7_falls 52 = .ok (.istore_n 2, 1) := by decide +kernel
theorem dX7_falls_53 : decode cX7_falls 53 = .ok (.iinc 3 1, 3) := by decide +kernel
theorem dX7_falls_56 : decode cX7_falls 56 = .ok (.goto (-25), 3) := by decide +kernel
theorem dX7_falls_59 : decode cX7_falls 59 = .ok (.iload_n 1, 1) := by decide +kernel
theorem dX7_falls_60 : decode cX7_falls 60 = .ok (.iload_n 2, 1) := by decide +kernel
theorem dX7_falls_61 : decode cX7_falls 61 = .ok (.iadd, 1) := by decide +kernel
theorem dX7_falls_62 : decode cX7_falls 62 = .ok (.istore_n 1, 1) := by decide +kernel
theorem dX7_falls_63 : decode cX7_falls 63 = .ok (.goto (-40), 3) := by decide +kernel
theorem dX7_falls_66 : decode cX7_falls 66 = .ok (.iload_n 1, 1) := by decide +kernel
theorem dX7_falls_67 : decode cX7_falls 67 = .ok (.ifCond .ne 6, 3) := by decide +kernel
theorem dX7_falls_70 : decode cX7_falls 70 = .ok (.bipush (-2), 2) := by decide +kernel
theorem dX7_falls_72 : decode cX7_falls 72 = .ok (.ireturn, 1) := by decide +kernel
theorem dX7_falls_73 : decode cX7_falls 73 = .ok (.aload_n 0, 1) := by decide +kernel
theorem dX7_falls_74 : decode cX7_falls 74 = .ok (.invokevirtual 193, 3) := by decide +kernel
theorem dX7_falls_77 : decode cX7_falls 77 = .ok (.iload_n 1, 1) := by decide +kernel
theorem dX7_falls_78 : decode cX7_falls 78 = .ok (.ireturn, 1) := by decide +kernel
theorem dX7_leftOf_0 : decode cX7_leftOf 0 = .ok (.aload_n 0, 1) := by decide +kernel
theorem dX7_leftOf_1 : decode cX7_leftOf 1 = .ok (.iload_n 2, 1) := by decide +kernel
theorem dX7_leftOf_2 : decode cX7_leftOf 2 = .ok (.iconst 3, 1) := by decide +kernel
theorem dX7_leftOf_3 : decode cX7_leftOf 3 = .ok (.invokevirtual 199, 3) := by decide +kernel
theorem dX7_leftOf_6 : decode cX7_leftOf 6 = .ok (.iconst 2, 1) := by decide +kernel
theorem dX7_leftOf_7 : decode cX7_leftOf 7 = .ok (.irem, 1) := by decide +kernel
theorem dX7_leftOf_8 : decode cX7_leftOf 8 = .ok (.iconst 1, 1) := by decide +kernel
theorem dX7_leftOf_9 : decode cX7_leftOf 9 = .ok (.if_icmp .ne 20, 3) := by decide +kernel
theorem dX7_leftOf_12 : decode cX7_leftOf 12 = .ok (.aload_n 0, 1) := by decide +kernel
theorem dX7_leftOf_13 : decode cX7_leftOf 13 = .ok (.iload_n 1, 1) := by decide +kernel
theorem dX7_leftOf_14 : decode cX7_leftOf 14 = .ok (.invokevirtual 202, 3) := by decide +kernel
theorem dX7_leftOf_17 : decode cX7_leftOf 17 = .ok (.iconst 1, 1) := by decide +kernel
theorem dX7_leftOf_18 : decode cX7_leftOf 18 = .ok (.isub, 1) := by decide +kernel
theorem dX7_leftOf_19 : decode cX7_leftOf 19 = .ok (.aload_n 0, 1) := by decide +kernel
theorem dX7_leftOf_20 : decode cX7_leftOf 20 = .ok (.getfield 55, 3) := by decide +kernel
theorem dX7_leftOf_23 : decode cX7_leftOf 23 = .ok (.iconst 2, 1) := by decide +kernel
theorem dX7_leftOf_24 : decode cX7_leftOf 24 = .ok (.iaload, 1) := by decide +kernel
theorem dX7_leftOf_25 : decode cX7_leftOf 25 = .ok (.isub, 1) := by decide +kernel
theorem dX7_leftOf_26 : decode cX7_leftOf 26 = .ok (.goto 9, 3) := by decide +kernel
theorem dX7_leftOf_29 : decode cX7_leftOf 29 = .ok (.aload_n 0, 1) := by decide +kernel
theorem dX7_leftOf_30 : decode cX7_leftOf 30 = .ok (.getfield 55, 3) := by decide +kernel
theorem dX7_leftOf_33 : decode cX7_leftOf 33 = .ok (.iconst 0, 1) := by decide +kernel
theorem dX7_leftOf_34 : decode cX7_leftOf 34 = .ok (.iaload, 1) := by decide +kernel
theorem dX7_leftOf_35 : decode cX7_leftOf 35 = .ok (.ireturn, 1) := by decide +kernel
theorem dX7_push_0 : decode cX7_push 0 = .ok (.aload_n 0, 1) := by decide +kernel
theorem dX7_push_1 : decode cX7_push 1 = .ok (.iload_n 1, 1) := by decide +kernel
theorem dX7_push_2 : decode cX7_push 2 = .ok (.invokevirtual 196, 3) := by decide +kernel
theorem dX7_push_5 : decode cX7_push 5 = .ok (.ifCond .eq 11, 3) := by decide +kernel
theorem dX7_push_8 : decode cX7_push 8 = .ok (.iload_n 2, 1) := by decide +kernel
theorem dX7_push_9 : decode cX7_push 9 = .ok (.iload_n 3, 1) := by decide +kernel
theorem dX7_push_10 : decode cX7_push 10 = .ok (.invokestatic 328, 3) := by decide +kernel
theorem dX7_push_13 : decode cX7_push 13 = .ok (.ifCond .ne 5, 3) := by decide +kernel
theorem dX7_push_16 : decode cX7_push 16 = .ok (.iconst (-1), 1) := by decide +kernel
theorem dX7_push_17 : decode cX7_push 17 = .ok (.ireturn, 1) := by decide +kernel
theorem dX7_push_18 : decode cX7_push 18 = .ok (.aload_n 0, 1) := by decide +kernel
theorem dX7_push_19 : decode cX7_push 19 = .ok (.invokevirtual 331, 3) := by decide +kernel
theorem dX7_push_22 : decode cX7_push 22 = .ok (.iload_n 2, 1) := by decide +kernel
theorem dX7_push_23 : decode cX7_push 23 = .ok (.iload_n 3, 1) := by decide +kernel
theorem dX7_push_24 : decode cX7_push 24 = .ok (.invokestatic 260, 3) := by decide +kernel
theorem dX7_push_27 : decode cX7_push 27 = .ok (.istore 4, 2) := by decide +kernel
theorem dX7_push_29 : decode cX7_push 29 = .ok (.iconst 0, 1) := by decide +kernel
theorem dX7_push_30 : decode cX7_push 30 = .ok (.istore 5, 2) := by decide +kernel
theorem dX7_push_32 : decode cX7_push 32 = .ok (.iconst 1, 1) := by decide +kernel
theorem dX7_push_33 : decode cX7_push 33 = .ok (.istore 6, 2) := by decide +kernel
theorem dX7_push_35 : decode cX7_push 35 = .ok (.aload_n 0, 1) := by decide +kernel
theorem dX7_push_36 : decode cX7_push 36 = .ok (.invokevirtual 190, 3) := by decide +kernel
theorem dX7_push_39 : decode cX7_push 39 = .ok (.iconst 1, 1) := by decide +kernel
theorem dX7_push_40 : decode cX7_push 40 = .ok (.istore 7, 2) := by decide +kernel
theorem dX7_push_42 : decode cX7_push 42 = .ok (.iload 7, 2) := by decide +kernel
theorem dX7_push_44 : decode cX7_push 44 = .ok (.iload 4, 2) := by decide +kernel
theorem dX7_push_46 : decode cX7_push 46 = .ok (.if_icmp .gt 135, 3) := by decide +kernel
theorem dX7_push_49 : decode cX7_push 49 = .ok (.iload 6, 2) := by decide +kernel
theorem dX7_push_51 : decode cX7_push 51 = .ok (.ifCond .eq 130, 3) := by decide +kernel
theorem dX7_push_54 : decode cX7_push 54 = .ok (.iload 7, 2) := by decide +kernel
theorem dX7_push_56 : decode cX7_push 56 = .ok (.iload_n 2, 1) := by decide +kernel
theorem dX7_push_57 : decode cX7_push 57 = .ok (.iload 4, 2) := by decide +kernel
theorem dX7_push_59 : decode cX7_push 59 = .ok (.invokestatic 269, 3) := by decide +kernel
theorem dX7_push_62 : decode cX7_push 62 = .ok (.iload 7, 2) := by decide +kernel
theorem dX7_push_64 : decode cX7_push 64 = .ok (.iconst 1, 1) := by decide +kernel
theorem dX7_push_65 : decode cX7_push 65 = .ok (.isub, 1) := by decide +kernel
theorem dX7_push_66 : decode cX7_push 66 = .ok (.iload_n 2, 1) := by decide +kernel
theorem dX7_push_67 : decode cX7_push 67 = .ok (.iload 4, 2) := by decide +kernel
theorem dX7_push_69 : decode cX7_push 69 = .ok (.invokestatic 269, 3) := by decide +kernel
theorem dX7_push_72 : decode cX7_push 72 = .ok (.isub, 1) := by decide +kernel
theorem dX7_push_73 : decode cX7_push 73 = .ok (.istore 8, 2) := by decide +kernel
theorem dX7_push_75 : decode cX7_push 75 = .ok (.iload 7, 2) := by decide +kernel
theorem dX7_push_77 : decode cX7_push 77 = .ok (.iload_n 3, 1) := by decide +kernel
theorem dX7_push_78 : decode cX7_push 78 = .ok (.iload 4, 2) := by decide +kernel
theorem dX7_push_80 : decode cX7_push 80 = .ok (.invokestatic 269, 3) := by decide +kernel
theorem dX7_push_83 : decode cX7_push 83 = .ok (.iload 7, 2) := by decide +kernel
theorem dX7_push_85 : decode cX7_push 85 = .ok (.iconst 1, 1) := by decide +kernel
theorem dX7_push_86 : decode cX7_push 86 = .ok (.isub, 1) := by decide +kernel
theorem dX7_push_87 : decode cX7_push 87 = .ok (.iload_n 3, 1) := by decide +kernel
theorem dX7_push_88 : decode cX7_push 88 = .ok (.iload 4, 2) := by decide +kernel
theorem dX7_push_90 : decode cX7_push 90 = .ok (.invokestatic 269, 3) := by decide +kernel
theorem dX7_push_93 : decode cX7_push 93 = .ok (.isub, 1) := by decide +kernel
theorem dX7_push_94 : decode cX7_push 94 = .ok (.istore 9, 2) := by decide +kernel
theorem dX7_push_96 : decode cX7_push 96 = .ok (.aload_n 0, 1) := by decide +kernel
theorem dX7_push_97 : decode cX7_push 97 = .ok (.iload_n 1, 1) := by decide +kernel
theorem dX7_push_98 : decode cX7_push 98 = .ok (.iload 8, 2) := by decide +kernel
theorem dX7_push_100 : decode cX7_push 100 = .ok (.iload 9, 2) := by decide +kernel
theorem dX7_push_102 : decode cX7_push 102 = .ok (.invokevirtual 337, 3) := by decide +kernel
theorem dX7_push_105 : decode cX7_push 105 = .ok (.istore 10, 2) := by decide +kernel
theorem dX7_push_107 : decode cX7_push 107 = .ok (.aload_n 0, 1) := by decide +kernel
theorem dX7_push_108 : decode cX7_push 108 = .ok (.iload 10, 2) := by decide +kernel
theorem dX7_push_110 : decode cX7_push 110 = .ok (.iload 8, 2) := by decide +kernel
theorem dX7_push_112 : decode cX7_push 112 = .ok (.iload 9, 2) := by decide +kernel
theorem dX7_push_114 : decode cX7_push 114 = .ok (.invokevirtual 340, 3) := by decide +kernel
theorem dX7_push_117 : decode cX7_push 117 = .ok (.istore 6, 2) := by decide +kernel
theorem dX7_push_119 : decode cX7_push 119 = .ok (.iconst 0, 1) := by decide +kernel
theorem dX7_push_120 : decode cX7_push 120 = .ok (.istore 11, 2) := by decide +kernel
theorem dX7_push_122 : decode cX7_push 122 = .ok (.iload 11, 2) := by decide +kernel
theorem dX7_push_124 : decode cX7_push 124 = .ok (.aload_n 0, 1) := by decide +kernel
theorem dX7_push_125 : decode cX7_push 125 = .ok (.getfield 9, 3) := by decide +kernel
theorem dX7_push_128 : decode cX7_push 128 = .ok (.iconst 1, 1) := by decide +kernel
theorem dX7_push_129 : decode cX7_push 129 = .ok (.iaload, 1) := by decide +kernel
theorem dX7_push_130 : decode cX7_push 130 = .ok (.if_icmp .ge 35, 3) := by decide +kernel
theorem dX7_push_133 : decode cX7_push 133 = .ok (.iload 6, 2) := by decide +kernel
theorem dX7_push_135 : decode cX7_push 135 = .ok (.ifCond .eq 30, 3) := by decide +kernel
theorem dX7_push_138 : decode cX7_push 138 = .ok (.iload 10, 2) := by decide +kernel
theorem dX7_push_140 : decode cX7_push 140 = .ok (.iload 11, 2) := by decide +kernel
theorem dX7_push_142 : decode cX7_push 142 = .ok (.ishr, 1) := by decide +kernel
theorem dX7_push_143 : decode cX7_push 143 = .ok (.iconst 1, 1) := by decide +kernel
theorem dX7_push_144 : decode cX7_push 144 = .ok (.iand, 1) := by decide +kernel
theorem dX7_push_145 : decode cX7_push 145 = .ok (.iconst 1, 1) := by decide +kernel
theorem dX7_push_146 : decode cX7_push 146 = .ok (.if_icmp .ne 13, 3) := by decide +kernel
theorem dX7_push_149 : decode cX7_push 149 = .ok (.aload_n 0, 1) := by decide +kernel
theorem dX7_push_150 : decode cX7_push 150 = .ok (.iload 11, 2) := by decide +kernel
theorem dX7_push_152 : decode cX7_push 152 = .ok (.iload 8, 2) := by decide +kernel
theorem dX7_push_154 : decode cX7_push 154 = .ok (.iload 9, 2) := by decide +kernel
theorem dX7_push_156 : decode cX7_push 156 = .ok (.invokevirtual 283, 3) := by decide +kernel
theorem dX7_push_159 : decode cX7_push 159 = .ok (.iinc 11 1, 3) := by decide +kernel
theorem dX7_push_162 : decode cX7_push 162 = .ok (.goto (-40), 3) := by decide +kernel
theorem dX7_push_165 : decode cX7_push 165 = .ok (.iload 5, 2) := by decide +kernel
theorem dX7_push_167 : decode cX7_push 167 = .ok (.iload 6, 2) := by decide +kernel
theorem dX7_push_169 : decode cX7_push 169 = .ok (.invokestatic 127, 3) := by decide +kernel
theorem dX7_push_172 : decode cX7_push 172 = .ok (.iadd, 1) := by decide +kernel
theorem dX7_push_173 : decode cX7_push 173 = .ok (.istore 5, 2) := by decide +kernel
theorem dX7_push_175 : decode cX7_push 175 = .ok (.iinc 7 1, 3) := by decide +kernel
theorem dX7_push_178 : decode cX7_push 178 = .ok (.goto (-136), 3) := by decide +kernel
theorem dX7_push_181 : decode cX7_push 181 = .ok (.iload 5, 2) := by decide +kernel
theorem dX7_push_183 : decode cX7_push 183 = .ok (.ifCond .ne 6, 3) := by decide +kernel
theorem dX7_push_186 : decode cX7_push 186 = .ok (.bipush (-2), 2) := by decide +kernel
theorem dX7_push_188 : decode cX7_push 188 = .ok (.ireturn, 1) := by decide +kernel
theorem dX7_push_189 : decode cX7_push 189 = .ok (.aload_n 0, 1) := by decide +kernel
theorem dX7_push_190 : decode cX7_push 190 = .ok (.invokevirtual 193, 3) := by decide +kernel
theorem dX7_push_193 : decode cX7_push 193 = .ok (.iload 5, 2) := by decide +kernel
theorem dX7_push_195 : decode cX7_push 195 = .ok (.ireturn, 1) := by decide +kernel
theorem dX7_reaches_0 : decode cX7_reaches 0 = .ok (.iconst 0, 1) := by decide +kernel
theorem dX7_reaches_1 : decode cX7_reaches 1 = .ok (.istore_n 2, 1) := by decide +kernel
theorem dX7_reaches_2 : decode cX7_reaches 2 = .ok (.iconst 0, 1) := by decide +kernel
theorem dX7_reaches_3 : decode cX7_reaches 3 = .ok (.istore_n 3, 1) := by decide +kernel
theorem dX7_reaches_4 : decode cX7_reaches 4 = .ok (.iload_n 3, 1) := by decide +kernel
theorem dX7_reaches_5 : decode cX7_reaches 5 = .ok (.aload_n 0, 1) := by decide +kernel
theorem dX7_reaches_6 : decode cX7_reaches 6 = .ok (.iload_n 1, 1) := by decide +kernel
theorem dX7_reaches_7 : decode cX7_reaches 7 = .ok (.invokevirtual 205, 3) := by decide +kernel
theorem dX7_reaches_10 : decode cX7_reaches 10 = .ok (.if_icmp .ge 123, 3) := by decide +kernel
theorem dX7_reaches_13 : decode cX7_reaches 13 = .ok (.iconst 0, 1) := by decide +kernel
theorem dX7_reaches_14 : decode cX7_reaches 14 = .ok (.istore 4, 2) := by decide +kernel
theorem dX7_reaches_16 : decode cX7_reaches 16 = .ok (.iload 4, 2) := by decide +kernel
theorem dX7_reaches_18 : decode cX7_reaches 18 = .ok (.aload_n 0, 1) := by decide +kernel
theorem dX7_reaches_19 : decode cX7_reaches 19 = .ok (.iload_n 1, 1) := by decide +kernel
theorem dX7_reaches_20 : decode cX7_reaches 20 = .ok (.invokevirtual 202, 3) := by decide +kernel
theorem dX7_reaches_23 : decode cX7_reaches 23 = .ok (.if_icmp .ge 104, 3) := by decide +kernel
theorem dX7_reaches_26 : decode cX7_reaches 26 = .ok (.aload_n 0, 1) := by decide +kernel
theorem dX7_reaches_27 : decode cX7_reaches 27 = .ok (.iload_n 1, 1) := by decide +kernel
theorem dX7_reaches_28 : decode cX7_reaches 28 = .ok (.iload 4, 2) := by decide +kernel
theorem dX7_reaches_30 : decode cX7_reaches 30 = .ok (.iload_n 3, 1) := by decide +kernel
theorem dX7_reaches_31 : decode cX7_reaches 31 = .ok (.invokevirtual 215, 3) := by decide +kernel
theorem dX7_reaches_34 : decode cX7_reaches 34 = .ok (.ifCond .ne 6, 3) := by decide +kernel
theorem dX7_reaches_37 : decode cX7_reaches 37 = .ok (.goto 84, 3) := by decide +kernel
theorem dX7_reaches_40 : decode cX7_reaches 40 = .ok (.aload_n 0, 1) := by decide +kernel
theorem dX7_reaches_41 : decode cX7_reaches 41 = .ok (.getfield 55, 3) := by decide +kernel
theorem dX7_reaches_44 : decode cX7_reaches 44 = .ok (.iconst 0, 1) := by decide +kernel
theorem dX7_reaches_45 : decode cX7_reaches 45 = .ok (.iload_n 2, 1) := by decide +kernel
theorem dX7_reaches_46 : decode cX7_reaches 46 = .ok (.ifCond .eq 17, 3) := by decide +kernel
theorem dX7_reaches_49 : decode cX7_reaches 49 = .ok (.aload_n 0, 1) := by decide +kernel
theorem dX7_reaches_50 : decode cX7_reaches 50 = .ok (.getfield 55, 3) := by decide +kernel
theorem dX7_reaches_53 : decode cX7_reaches 53 = .ok (.iconst 0, 1) := by decide +kernel
theorem dX7_reaches_54 : decode cX7_reaches 54 = .ok (.iaload, 1) := by decide +kernel
theorem dX7_reaches_55 : decode cX7_reaches 55 = .ok (.iload 4, 2) := by decide +kernel
theorem dX7_reaches_57 : decode cX7_reaches 57 = .ok (.invokestatic 121, 3) := by decide +kernel
theorem dX7_reaches_60 : decode cX7_reaches 60 = .ok (.goto 5, 3) := by decide +kernel
theorem dX7_reaches_63 : decode cX7_reaches 63 = .ok (.iload 4, 2) := by decide +kernel
theorem dX7_reaches_65 : decode cX7_reaches 65 = .ok (.iastore, 1) := by decide +kernel
theorem dX7_reaches_66 : decode cX7_reaches 66 = .ok (.aload_n 0, 1) := by decide +kernel
theorem dX7_reaches_67 : decode cX7_reaches 67 = .ok (.getfield 55, 3) := by decide +kernel
theorem dX7_reaches_70 : decode cX7_reaches 70 = .ok (.iconst 1, 1) := by decide +kernel
theorem dX7_reaches_71 : decode cX7_reaches 71 = .ok (.iload_n 2, 1) := by decide +kernel
theorem dX7_reaches_72 : decode cX7_reaches 72 = .ok (.ifCond .eq 12, 3) := by decide +kernel
theorem dX7_reaches_75 : decode cX7_reaches 75 = .ok (.aload_n 0, 1) := by decide +kernel
theorem dX7_reaches_76 : decode cX7_reaches 76 = .ok (.getfield 55, 3) := by decide +kernel
theorem dX7_reaches_79 : decode cX7_reaches 79 = .ok (.iconst 1, 1) := by decide +kernel
theorem dX7_reaches_80 : decode cX7_reaches 80 = .ok (.iaload, 1) := by decide +kernel
theorem dX7_reaches_81 : decode cX7_reaches 81 = .ok (.goto 4, 3) := by decide +kernel
theorem dX7_reaches_84 : decode cX7_reaches 84 = .ok (.iload_n 3, 1) := by decide +kernel
theorem dX7_reaches_85 : decode cX7_reaches 85 = .ok (.iastore, 1) := by decide +kernel
theorem dX7_reaches_86 : decode cX7_reaches 86 = .ok (.aload_n 0, 1) := by decide +kernel
theorem dX7_reaches_87 : decode cX7_reaches 87 = .ok (.getfield 55, 3) := by decide +kernel
theorem dX7_reaches_90 : decode cX7_reaches 90 = .ok (.iconst 2, 1) := by decide +kernel
theorem dX7_reaches_91 : decode cX7_reaches 91 = .ok (.iload_n 2, 1) := by decide +kernel
theorem dX7_reaches_92 : decode cX7_reaches 92 = .ok (.ifCond .eq 17, 3) := by decide +kernel
theorem dX7_reaches_95 : decode cX7_reaches 95 = .ok (.aload_n 0, 1) := by decide +kernel
theorem dX7_reaches_96 : decode cX7_reaches 96 = .ok (.getfield 55, 3) := by decide +kernel
theorem dX7_reaches_99 : decode cX7_reaches 99 = .ok (.iconst 2, 1) := by decide +kernel
theorem dX7_reaches_100 : decode cX7_reaches 100 = .ok (.iaload, 1) := by decide +kernel
theorem dX7_reaches_101 : decode cX7_reaches 101 = .ok (.iload 4, 2) := by decide +kernel
theorem dX7_reaches_103 : decode cX7_reaches 103 = .ok (.invokestatic 219, 3) := by decide +kernel
theorem dX7_reaches_106 : decode cX7_reaches 106 = .ok (.goto 5, 3) := by decide +kernel
theorem dX7_reaches_109 : decode cX7_reaches 109 = .ok (.iload 4, 2) := by decide +kernel
theorem dX7_reaches_111 : decode cX7_reaches 111 = .ok (.iastore, 1) := by decide +kernel
theorem dX7_reaches_112 : decode cX7_reaches 112 = .ok (.aload_n 0, 1) := by decide +kernel
theorem dX7_reaches_113 : decode cX7_reaches 113 = .ok (.getfield 55, 3) := by decide +kernel
theorem dX7_reaches_116 : decode cX7_reaches 116 = .ok (.iconst 3, 1) := by decide +kernel
theorem dX7_reaches_117 : decode cX7_reaches 117 = .ok (.iload_n 3, 1) := by decide +kernel
theorem dX7_reaches_118 : decode cX7_reaches 118 = .ok (.iastore, 1) := by decide +kernel
theorem dX7_reaches_119 : decode cX7_reaches 119 = .ok (.iconst 1, 1) := by decide +kernel
theorem dX7_reaches_120 : decode cX7_reaches 120 = .ok (.istore_n 2, 1) := by decide +kernel
theorem dX7_reaches_121 : decode cX7_reaches 121 = .ok (.iinc 4 1, 3) := by decide +kernel
theorem dX7_reaches_124 : decode cX7_reaches 124 = .ok (.goto (-108), 3) := by decide +kernel
theorem dX7_reaches_127 : decode cX7_reaches 127 = .ok (.iinc 3 1, 3) := by decide +kernel
theorem dX7_reaches_130 : decode cX7_reaches 130 = .ok (.goto (-126), 3) := by decide +kernel
theorem dX7_reaches_133 : decode cX7_reaches 133 = .ok (.iload_n 2, 1) := by decide +kernel
theorem dX7_reaches_134 : decode cX7_reaches 134 = .ok (.ireturn, 1) := by decide +kernel
theorem dX7_slide_0 : decode cX7_slide 0 = .ok (.aload_n 0, 1) := by decide +kernel
theorem dX7_slide_1 : decode cX7_slide 1 = .ok (.iload_n 1, 1) := by decide +kernel
theorem dX7_slide_2 : decode cX7_slide 2 = .ok (.invokevirtual 196, 3) := by decide +kernel
theorem dX7_slide_5 : decode cX7_slide 5 = .ok (.ifCond .eq 11, 3) := by decide +kernel
theorem dX7_slide_8 : decode cX7_slide 8 = .ok (.iload_n 2, 1) := by decide +kernel
theorem dX7_slide_9 : decode cX7_slide 9 = .ok (.iload_n 3, 1) := by decide +kernel
theorem dX7_slide_10 : decode cX7_slide 10 = .ok (.invokestatic 328, 3) := by decide +kernel
theorem dX7_slide_13 : decode cX7_slide 13 = .ok (.ifCond .ne 5, 3) := by decide +kernel
theorem dX7_slide_16 : decode cX7_slide 16 = .ok (.iconst (-1), 1) := by decide +kernel
theorem dX7_slide_17 : decode cX7_slide 17 = .ok (.ireturn, 1) := by decide +kernel
theorem dX7_slide_18 : decode cX7_slide 18 = .ok (.aload_n 0, 1) := by decide +kernel
theorem dX7_slide_19 : decode cX7_slide 19 = .ok (.invokevirtual 331, 3) := by decide +kernel
theorem dX7_slide_22 : decode cX7_slide 22 = .ok (.aload_n 0, 1) := by decide +kernel
theorem dX7_slide_23 : decode cX7_slide 23 = .ok (.iload_n 1, 1) := by decide +kernel
theorem dX7_slide_24 : decode cX7_slide 24 = .ok (.iload_n 2, 1) := by decide +kernel
theorem dX7_slide_25 : decode cX7_slide 25 = .ok (.iload_n 3, 1) := by decide +kernel
theorem dX7_slide_26 : decode cX7_slide 26 = .ok (.invokevirtual 280, 3) := by decide +kernel
theorem dX7_slide_29 : decode cX7_slide 29 = .ok (.istore 4, 2) := by decide +kernel
theorem dX7_slide_31 : decode cX7_slide 31 = .ok (.iload 4, 2) := by decide +kernel
theorem dX7_slide_33 : decode cX7_slide 33 = .ok (.ifCond .ne 6, 3) := by decide +kernel
theorem dX7_slide_36 : decode cX7_slide 36 = .ok (.bipush (-2), 2) := by decide +kernel
theorem dX7_slide_38 : decode cX7_slide 38 = .ok (.ireturn, 1) := by decide +kernel
theorem dX7_slide_39 : decode cX7_slide 39 = .ok (.aload_n 0, 1) := by decide +kernel
theorem dX7_slide_40 : decode cX7_slide 40 = .ok (.invokevirtual 286, 3) := by decide +kernel
theorem dX7_slide_43 : decode cX7_slide 43 = .ok (.iload_n 2, 1) := by decide +kernel
theorem dX7_slide_44 : decode cX7_slide 44 = .ok (.iload_n 3, 1) := by decide +kernel
theorem dX7_slide_45 : decode cX7_slide 45 = .ok (.invokestatic 260, 3) := by decide +kernel
theorem dX7_slide_48 : decode cX7_slide 48 = .ok (.istore 5, 2) := by decide +kernel
theorem dX7_slide_50 : decode cX7_slide 50 = .ok (.aload_n 0, 1) := by decide +kernel
theorem dX7_slide_51 : decode cX7_slide 51 = .ok (.iload_n 1, 1) := by decide +kernel
theorem dX7_slide_52 : decode cX7_slide 52 = .ok (.iload 4, 2) := by decide +kernel
theorem dX7_slide_54 : decode cX7_slide 54 = .ok (.iload_n 2, 1) := by decide +kernel
theorem dX7_slide_55 : decode cX7_slide 55 = .ok (.iload 5, 2) := by decide +kernel
theorem dX7_slide_57 : decode cX7_slide 57 = .ok (.invokestatic 269, 3) := by decide +kernel
theorem dX7_slide_60 : decode cX7_slide 60 = .ok (.iload 4, 2) := by decide +kernel
theorem dX7_slide_62 : decode cX7_slide 62 = .ok (.iload_n 3, 1) := by decide +kernel
theorem dX7_slide_63 : decode cX7_slide 63 = .ok (.iload 5, 2) := by decide +kernel
theorem dX7_slide_65 : decode cX7_slide 65 = .ok (.invokestatic 269, 3) := by decide +kernel
theorem dX7_slide_68 : decode cX7_slide 68 = .ok (.invokevirtual 283, 3) := by decide +kernel
theorem dX7_slide_71 : decode cX7_slide 71 = .ok (.iload 4, 2) := by decide +kernel
theorem dX7_slide_73 : decode cX7_slide 73 = .ok (.ireturn, 1) := by decide +kernel
set_option maxRecDepth 100000 in
theorem pq49 : Cond.selects RX7 yX7_goers yX7_goers ∈ pw := pw_mem (i := 49) (by decide +kernel) rfl
set_option maxRecDepth 100000 in
theorem pq51 : Cond.selects RX7 yX7_canGo yX7_canGo ∈ pw := pw_mem (i := 51) (by decide +kernel) rfl
set_option maxRecDepth 100000 in
theorem pq52 : Cond.selects RX7 yX7_slidesNow yX7_slidesNow ∈ pw := pw_mem (i := 52) (by decide +kernel) rfl
set_option maxRecDepth 100000 in
theorem pq1135 : Cond.fieldLink RX7 55 "MaskTouchModel" "ends" "[I" ∈ pw := pw_mem (i := 1135) (by decide +kernel) rfl
set_option maxRecDepth 100000 in
theorem pq1422 : Cond.methodLink RX7 328 yX7_areSteps ∈ pw := pw_mem (i := 1422) (by decide +kernel) rfl
set_option maxRecDepth 100000 in
theorem pq1423 : Cond.static yX7_areSteps ∈ pw := pw_mem (i := 1423) (by decide +kernel) rfl
set_option maxRecDepth 100000 in
theorem pq1424 : Cond.code yX7_areSteps cX7_areSteps 2 (some .boolean) ∈ pw := pw_mem (i := 1424) (by rfl) rfl
set_option maxRecDepth 100000 in
theorem pq1482 : Cond.methodLink RX7 337 yX7_goers ∈ pw := pw_mem (i := 1482) (by decide +kernel) rfl
set_option maxRecDepth 100000 in
theorem pq1484 : Cond.instanceMethod yX7_goers ∈ pw := pw_mem (i := 1484) (by decide +kernel) rfl
set_option maxRecDepth 100000 in
theorem pq1485 : Cond.code yX7_goers cX7_goers 7 (some .int) ∈ pw := pw_mem (i := 1485) (by rfl) rfl
set_option maxRecDepth 100000 in
theorem pq1490 : Cond.methodLink RX7 340 yX7_canGo ∈ pw := pw_mem (i := 1490) (by decide +kernel) rfl
set_option maxRecDepth 100000 in
theorem pq1492 : Cond.instanceMethod yX7_canGo ∈ pw := pw_mem (i := 1492) (by decide +kernel) rfl
set_option maxRecDepth 100000 in
theorem pq1493 : Cond.code yX7_canGo cX7_canGo 6 (some .boolean) ∈ pw := pw_mem (i := 1493) (by rfl) rfl
set_option maxRecDepth 100000 in
theorem pq1498 : Cond.methodLink RX7 343 yX7_slidesNow ∈ pw := pw_mem (i := 1498) (by decide +kernel) rfl
set_option maxRecDepth 100000 in
theorem pq1500 : Cond.instanceMethod yX7_slidesNow ∈ pw := pw_mem (i := 1500) (by decide +kernel) rfl
set_option maxRecDepth 100000 in
theorem pq1501 : Cond.code yX7_slidesNow cX7_slidesNow 6 (some .int) ∈ pw := pw_mem (i := 1501) (by rfl) rfl
theorem gB_mono {B C : Int} {f : Nat → Int32} {b : Nat} {dx dy : Int32} (h : gB B f b dx dy) (hBC : B ≤ C) : gB C f b dx dy := by
  unfold gB inR at h ⊢
  omega
def crM (f : Nat → Int32) (c : Int) : Prop := ∀ b, inR c (f (19 + 8 * b + 1)) ∧ inR c (f (19 + 8 * b + 2))
theorem crM_mono {f : Nat → Int32} {c d : Int} (h : crM f c) (hc : c ≤ d) : crM f d := fun b => by
  have := h b
  unfold inR at this ⊢
  omega
theorem crM_sum {f : Nat → Int32} {c : Int} {b : Nat} {dx dy : Int32} (h : crM f c) (hx : -500 ≤ dx.toInt ∧ dx.toInt ≤ 500) (hy : -500 ≤ dy.toInt ∧ dy.toInt ≤ 500) (hc : c ≤ 1000000000) : gB (c + 500) f b dx dy := by
  have h1 := h b
  unfold gB inR at *
  have a1 : (f (19 + 8 * b + 1) + dx).toInt = (f (19 + 8 * b + 1)).toInt + dx.toInt := tq_add rfl rfl rfl (by omega) (by omega)
  have a2 : (f (19 + 8 * b + 2) + dy).toInt = (f (19 + 8 * b + 2)).toInt + dy.toInt := tq_add rfl rfl rfl (by omega) (by omega)
  omega
theorem crM_go {f g : Nat → Int32} {c d : Int} {b : Nat} {dx dy : Int32} (h : crM f c) (hx : -500 ≤ dx.toInt ∧ dx.toInt ≤ 500) (hy : -500 ≤ dy.toInt ∧ dy.toInt ≤ 500) (hc : c ≤ 1000000000) (hd : d = c + 500) (e : g = gU f b dx dy) : crM g d := by
  subst hd
  have h2 := crM_sum (b := b) h hx hy hc
  intro j
  by_cases q : j = b
  · rw [q, e, gU_x, gU_y]; exact h2
  · rw [e, gU_ne (by omega) (by omega), gU_ne (by omega) (by omega)]
    exact crM_mono h (by omega) j

set_option maxHeartbeats 4000000 in
set_option maxRecDepth 100000 in
theorem s_X7_slide (l : Launch) (dC : Nat → ClassId) (dI : Nat → Nat → Nat) (cs : Nat → ClassId) (L : List Nat) (K G : Nat → Nat) (Q : Nat → Nat → Option Nat) (hQ : Sv L K G Q) (x0 m0 : Nat) (tx : GT) (tm : GT × Int) (sz : Nat) (I : Nat → Nat → Int32) (J : Nat → Nat → Int64) (hI : Iv L K x0 m0 tx tm I) (p0 : Nat) (hLp0 : p0 ∈ L) (hKp0 : K p0 = 7) (p1 : Int32) (p2 : Int32) (p3 : Int32) : Met l yX7_slide (.code yX7_slide cX7_slide 6 (some .int) :: pw) ({ frames := 7, cells := 0, slots := 0, locals := 174 }) (sP (dC, dI) cs [.ref p0, .int p1, .int p2, .int p3] sz L K I J Q) (va_Qi (fun (r : Int32) (_ : Unit) => (∀ σ : Sx, okF σ.1 → cmA Q I J p0 σ → r.toInt = (slA σ p1 p2 p3).1)) (fun _ t => sB (dC, dI) cs L K Q (fun I1 J1 => Iv L K x0 m0 tx tm I1 ∧ (∀ b, K b = 0 ∨ K b = 1 ∨ K b = 3 ∨ K b = 6 → I1 b = I b) ∧ (∀ σ : Sx, okF σ.1 → cmA Q I J p0 σ → cmA Q I1 J1 p0 (slA σ p1 p2 p3).2) ∧ (∀ b, ¬ (K b = 22 ∨ K b = 25 ∨ K b = 33) → J1 b = J b)) t) (fun q => q ∈ L ∨ sz ≤ q)) 0 0 (fun q => q ∈ L ∨ sz ≤ q) := by
  refine Met.ofW (cc := cX7_slide) (maxL := 6) (ret := (some .int)) (by decide +kernel) rfl ?_
  intro p e s m args below meth c s₁ B hml hv
  obtain ⟨rfl, hsz, hP, hK, hD0, hN⟩ := hv
  have hx := B.exec
  have hb := B.bytes
  have hr := B.returns
  have hts := fun w (h : w ∈ pw) => atoms_spec (ws := Cond.code yX7_slide cX7_slide 6 (some .int) :: pw) B.pre w (List.mem_cons_of_mem _ h)
  have hown : s.vm.findClass RX7 = some m.cls := findClass_of_methodNamed B.named
  have hlocks := B.notSynchronized
  subst hsz
  have hBB : 999 ≤ tm.2 ∧ tm.2 ≤ 6000000 := hI.2.2.2.2.1
  have dn_I : (∀ b, K b = 0 ∨ K b = 1 ∨ K b = 3 ∨ K b = 6 → I b = I b) := fun _ _ => rfl
  have dj_J : (∀ b, ¬ (K b = 22 ∨ K b = 25 ∨ K b = 33) → J b = J b) := fun _ _ => rfl
  obtain ⟨A, hAe⟩ : ∃ A : Nat → Prop, A = (fun q => q ∈ L ∨ s.heap.size ≤ q) := ⟨_, rfl⟩
  rw [← hAe]
  have hAL : ∀ q, q ∈ L → A q := fun q h => by rw [hAe]; exact Or.inl h
  have hA : ∀ q, s.heap.size ≤ q → A q := fun q h => by rw [hAe]; exact Or.inr h
  have hD : ∀ F, va_D A (va_pl L F) := fun F => (hD0 F).weaken (fun k q hk _ => hAL _ (pl_mem hk))
  obtain ⟨H, hHe⟩ : ∃ H : Heap, H = s.heap := ⟨_, rfl⟩
  have hS : va_S A s.heap H [] := by rw [hHe]; exact va_S.rf
  rw [← hHe] at hP
  have hl := lv_entry ([.ref p0, .int p1, .int p2, .int p3]) (n := 6) (Nat.le_of_ble_eq_true rfl)
  rw [lg_entry_eq]
  generalize (lg_sl ([.ref p0, .int p1, .int p2, .int p3]) ++ List.replicate (6 - (lg_sl ([.ref p0, .int p1, .int p2, .int p3])).length) Slot.unset).toArray = ls at hl ⊢
  have hl : lv_has ls 6 [(0, .ref p0), (1, .int p1), (2, .int p2), (3, .int p3)] := hl
  rw [← hHe]
  refine namedW (fun R Qz hR hQz => ?_)
  refine lv_aload_n hx hb dX7_slide_0 rfl (lv_at hl 0 rfl) ?_
  refine lv_iload_n hx hb dX7_slide_1 rfl (lv_at hl 1 rfl) ?_
  refine ro_i (va_runV (As := [.int p1]) (rest := []) ⟨hx, hb, hml, hown, hts⟩ (s_X7_isBody l dC dI cs L K G Q hQ x0 m0 tx tm H.size I J hI p0 hLp0 hKp0 p1) (cwV 1 hts (gV pq1310 pq1312 pq23 pq81 pq1313) rfl rfl rfl (by decide +kernel) ⟨(by rw [hR]; exact (Nat.le_of_ble_eq_true rfl)), (by rw [hR]; exact (Nat.le_of_ble_eq_true rfl))⟩) (sP_V hP hD hK hN hLp0 hKp0 rfl rfl) rfl rfl hl.1 rfl (lv_room (Nat.le_of_ble_eq_true rfl)) dX7_slide_2 ⟨(by rw [hR]; exact (Nat.le_of_ble_eq_true rfl)), (by rw [hR]; exact (Nat.le_of_ble_eq_true rfl))⟩) hS hP (fun z2 H locs hz2 hP hS => ?_)
  obtain ⟨bz2, imz2, xpz2⟩ := hz2
  refine lv_if_eq (tgt := 16) hx hb dX7_slide_5 (by decide) (fun c5 => ?_) (fun c5 => ?_)
  · have t5 := tq_eq (k := z2.toInt) (q := (0)) c5 rfl (by decide +kernel)
    refine lv_iconst (v := (-1)) hx hb dX7_slide_16 (by decide +kernel) ?_
    subst hR; subst hQz
    exact W.iret (v := (-1)) hx hb hr (fun t ht hW => ⟨⟨(-1), (), rfl, (fun σ ok A => by have ec : I (a0 Q p0 0) 1 = σ.1.1 1 := cmA_n A (by decide); rw [sl_n (fun q => by unfold twC at q; rw [← ec] at q; first | exact xpz2.2 t5 q.1 | exact xpz10 t13 ⟨q.2.1, q.2.2⟩)]; show (-1 : Int32).toInt = -1; decide +kernel), ⟨I, J, ⟨hI, dn_I, (fun σ ok A => by have ec : I (a0 Q p0 0) 1 = σ.1.1 1 := cmA_n A (by decide); rw [sl_n (fun q => by unfold twC at q; rw [← ec] at q; first | exact xpz2.2 t5 q.1 | exact xpz10 t13 ⟨q.2.1, q.2.2⟩)]; exact A), dj_J⟩, by rw [ht]; exact hP⟩⟩, hS.F ht⟩) hS.2.2 dX7_slide_17
  · have t5 := tq_ne (k := z2.toInt) (q := (0)) c5 rfl (by decide +kernel)
    have i5 := imz2 t5
    refine lv_iload_n hx hb dX7_slide_8 rfl (lv_at hl 2 rfl) ?_
    refine lv_iload_n hx hb dX7_slide_9 rfl (lv_at hl 3 rfl) ?_
    refine ro_i (va_runS (As := [.int p2, .int p3]) (rest := []) ⟨hx, hb, hml, hown, hts⟩ (s_X7_areSteps l dC dI cs L K G Q hQ x0 m0 tx tm H.size I J hI p2 p3) (va_cwS 2 hts (gS pq1422 pq1423 pq81 pq1424) rfl rfl rfl (by decide +kernel) ⟨(by rw [hR]; exact (Nat.le_of_ble_eq_true rfl)), (by rw [hR]; exact (Nat.le_of_ble_eq_true rfl))⟩) (sP_S hP hD hK hN) rfl rfl hl.1 rfl (lv_room (Nat.le_of_ble_eq_true rfl)) dX7_slide_10 ⟨(by rw [hR]; exact (Nat.le_of_ble_eq_true rfl)), (by rw [hR]; exact (Nat.le_of_ble_eq_true rfl))⟩) hS hP (fun z10 H locs hz10 hP hS => ?_)
    obtain ⟨bz10, imz10, xpz10⟩ := hz10
    refine lv_if_ne (tgt := 18) hx hb dX7_slide_13 (by decide) (fun c13 => ?_) (fun c13 => ?_)
    · have t13 := tq_ne (k := z10.toInt) (q := (0)) c13 rfl (by decide +kernel)
      have i13 := imz10 t13
      refine lv_aload_n hx hb dX7_slide_18 rfl (lv_at hl 0 rfl) ?_
      refine sw_v (Z := (fun I1 J1 => Iv L K x0 m0 tx tm I1 ∧ I1 = I ∧ (∀ c : Fx, okF c → rI Q I p0 c → rJ Q J p0 c → ldA Q J1 p0 c) ∧ (∀ b, ¬ (K b = 25) → J1 b = J b))) (va_runV (As := []) (rest := []) ⟨hx, hb, hml, hown, hts⟩ (s_X7_laysAll l dC dI cs L K G Q hQ x0 m0 tx tm H.size I J hI p0 hLp0 hKp0) (cwV 0 hts (gV pq1427 pq1429 pq40 pq81 pq1430) rfl rfl rfl (by decide +kernel) ⟨(by rw [hR]; exact (Nat.le_of_ble_eq_true rfl)), (by rw [hR]; exact (Nat.le_of_ble_eq_true rfl))⟩) (sP_V hP hD hK hN hLp0 hKp0 rfl rfl) rfl rfl hl.1 rfl (lv_room (Nat.le_of_ble_eq_true rfl)) dX7_slide_19 ⟨(by rw [hR]; exact (Nat.le_of_ble_eq_true rfl)), (by rw [hR]; exact (Nat.le_of_ble_eq_true rfl))⟩) hS hAL hA (fun Iz19 Jz19 H locs hz19 hIz19 hP hS => ?_)
      obtain ⟨hIz19, sm19, jz19, djc19⟩ := hIz19
      have dj_Jz19 : (∀ b, ¬ (K b = 22 ∨ K b = 25 ∨ K b = 33) → Jz19 b = J b) := fun b hc => (djc19 b (fun z => hc (by omega))).trans (dj_J b hc)
      obtain rfl : I = Iz19 := sm19.symm
      refine lv_aload_n hx hb dX7_slide_22 rfl (lv_at hl 0 rfl) ?_
      refine lv_iload_n hx hb dX7_slide_23 rfl (lv_at hl 1 rfl) ?_
      refine lv_iload_n hx hb dX7_slide_24 rfl (lv_at hl 2 rfl) ?_
      refine lv_iload_n hx hb dX7_slide_25 rfl (lv_at hl 3 rfl) ?_
      refine sw_ir (Z := (fun u => (fun I1 J1 => Iv L K x0 m0 tx tm I1 ∧ (∀ b, ¬ (K b = 7) → I1 b = I b) ∧ I1 p0 11 = I p0 11 ∧ slR (I ((Q p0 0).getD 0)) p1.toInt.toNat u p2 p3 ∧ (∀ b, K b = 0 ∨ K b = 1 ∨ K b = 3 ∨ K b = 6 → I1 b = I b) ∧ J1 = Jz19))) (va_runV (As := [.int p1, .int p2, .int p3]) (rest := []) ⟨hx, hb, hml, hown, hts⟩ (s_X7_slides l dC dI cs L K G Q hQ x0 m0 tx tm H.size I Jz19 hI p0 hLp0 hKp0 p1 ⟨by omega, by omega⟩ p2 ⟨by omega, by omega⟩ p3 ⟨by omega, by omega⟩) (cwV 3 hts (gV pq1435 pq1437 pq42 pq81 pq1438) rfl rfl rfl (by decide +kernel) ⟨(by rw [hR]; exact (Nat.le_of_ble_eq_true rfl)), (by rw [hR]; exact (Nat.le_of_ble_eq_true rfl))⟩) (sP_V hP hD hK hN hLp0 hKp0 rfl rfl) rfl rfl hl.1 rfl (lv_room (Nat.le_of_ble_eq_true rfl)) dX7_slide_26 ⟨(by rw [hR]; exact (Nat.le_of_ble_eq_true rfl)), (by rw [hR]; exact (Nat.le_of_ble_eq_true rfl))⟩) hS hAL hA (fun z26 Iz26 Jz26 H locs hz26 hIz26 hP hS => ?_)
      obtain ⟨hIz26, frc26, kc26_0_11, zr26, dnc26, djc26⟩ := hIz26
      obtain rfl : Jz19 = Jz26 := djc26.symm
      have dn_Iz26 : (∀ b, K b = 0 ∨ K b = 1 ∨ K b = 3 ∨ K b = 6 → Iz26 b = I b) := fun b hc => (dnc26 b (by omega)).trans (dn_I b hc)
      obtain ⟨bz26, xpz26⟩ := hz26
      refine lv_istore (lv' := [(4, .int z26), (0, .ref p0), (1, .int p1), (2, .int p2), (3, .int p3)]) hx hb dX7_slide_29 hl (by decide) rfl (fun ls hl => ?_)
      refine lv_iload hx hb dX7_slide_31 (lv_at hl 0 rfl) ?_
      have hs26 : ∀ σ : Sx, okF σ.1 → cmA Q I J p0 σ → twC σ p1 p2 p3 (-200) 200 ∧ z26.toInt = slN σ.1 p1.toInt.toNat p2.toInt p3.toInt ∧ cmA Q Iz26 Jz19 p0 σ := fun σ ok A => by have ec : I (a0 Q p0 0) 1 = σ.1.1 1 := cmA_n A (by decide); have hC : twC σ p1 p2 p3 (-200) 200 := ⟨by rw [← ec]; exact xpz2.1 t5, ⟨by omega, by omega⟩, ⟨by omega, by omega⟩⟩; have l := jz19 σ.1 ok (cmA_rI A) (cmA_rJ A); have A1 := cmA_fr (I1 := Iz26) (J1 := Jz19) hQ hLp0 hKp0 (fun b hb => frc26 b (by omega)) (fun b hb => djc19 b (by omega)) kc26_0_11 A; exact ⟨hC, xpz26 σ.1 ok (cmA_rI A) l (by have := hC.1; omega), A1⟩
      refine lv_if_ne (tgt := 39) hx hb dX7_slide_33 (by decide) (fun c33 => ?_) (fun c33 => ?_)
      · have t33 := tq_ne (k := z26.toInt) (q := (0)) c33 rfl (by decide +kernel)
        refine lv_aload_n hx hb dX7_slide_39 rfl (lv_at hl 1 rfl) ?_
        refine sw_v (Z := (fun I1 J1 => Iv L K x0 m0 tx tm I1 ∧ (∀ b, ¬ (K b = 7 ∨ K b = 19 ∨ K b = 30) → I1 b = Iz26 b) ∧ (∀ b, K b = 0 ∨ K b = 1 ∨ K b = 3 ∨ K b = 6 → I1 b = Iz26 b) ∧ (∀ σ : Sx, cmA Q Iz26 Jz19 p0 σ → cmA Q I1 J1 p0 (rem σ)) ∧ (∀ b, ¬ (K b = 22 ∨ K b = 33) → J1 b = Jz19 b))) (va_runV (As := []) (rest := []) ⟨hx, hb, hml, hown, hts⟩ (s_X7_keepsPast l dC dI cs L K G Q hQ x0 m0 tx tm H.size Iz26 Jz19 hIz26 p0 hLp0 hKp0) (cwV 0 hts (gV pq1324 pq1326 pq26 pq81 pq1327) rfl rfl rfl (by decide +kernel) ⟨(by rw [hR]; exact (Nat.le_of_ble_eq_true rfl)), (by rw [hR]; exact (Nat.le_of_ble_eq_true rfl))⟩) (sP_V hP hD hK hN hLp0 hKp0 rfl rfl) rfl rfl hl.1 rfl (lv_room (Nat.le_of_ble_eq_true rfl)) dX7_slide_40 ⟨(by rw [hR]; exact (Nat.le_of_ble_eq_true rfl)), (by rw [hR]; exact (Nat.le_of_ble_eq_true rfl))⟩) hS hAL hA (fun Iz40 Jz40 H locs hz40 hIz40 hP hS => ?_)
        obtain ⟨hIz40, frc40, dnc40, jz40, djc40⟩ := hIz40
        have dj_Jz40 : (∀ b, ¬ (K b = 22 ∨ K b = 25 ∨ K b = 33) → Jz40 b = J b) := fun b hc => (djc40 b (fun z => hc (by omega))).trans (dj_Jz19 b hc)
        have dn_Iz40 : (∀ b, K b = 0 ∨ K b = 1 ∨ K b = 3 ∨ K b = 6 → Iz40 b = I b) := fun b hc => (dnc40 b (by omega)).trans (dn_Iz26 b hc)
        refine lv_iload_n hx hb dX7_slide_43 rfl (lv_at hl 3 rfl) ?_
        refine lv_iload_n hx hb dX7_slide_44 rfl (lv_at hl 4 rfl) ?_
        refine ro_i (va_runS (As := [.int p2, .int p3]) (rest := []) ⟨hx, hb, hml, hown, hts⟩ (s_X7_steps l dC dI cs L K G Q hQ x0 m0 tx tm H.size Iz40 Jz40 hIz40 p2 ⟨by omega, by omega⟩ p3 ⟨by omega, by omega⟩) (va_cwS 2 hts (gS pq1439 pq1440 pq81 pq1441) rfl rfl rfl (by decide +kernel) ⟨(by rw [hR]; exact (Nat.le_of_ble_eq_true rfl)), (by rw [hR]; exact (Nat.le_of_ble_eq_true rfl))⟩) (sP_S hP hD hK hN) rfl rfl hl.1 rfl (lv_room (Nat.le_of_ble_eq_true rfl)) dX7_slide_45 ⟨(by rw [hR]; exact (Nat.le_of_ble_eq_true rfl)), (by rw [hR]; exact (Nat.le_of_ble_eq_true rfl))⟩) hS hP (fun z45 H locs hz45 hP hS => ?_)
        obtain ⟨bz45, fez45⟩ := hz45
        refine lv_istore (lv' := [(5, .int z45), (4, .int z26), (0, .ref p0), (1, .int p1), (2, .int p2), (3, .int p3)]) hx hb dX7_slide_48 hl (by decide) rfl (fun ls hl => ?_)
        refine lv_aload_n hx hb dX7_slide_50 rfl (lv_at hl 2 rfl) ?_
        refine lv_iload_n hx hb dX7_slide_51 rfl (lv_at hl 3 rfl) ?_
        refine lv_iload hx hb dX7_slide_52 (lv_at hl 1 rfl) ?_
        refine lv_iload_n hx hb dX7_slide_54 rfl (lv_at hl 4 rfl) ?_
        refine lv_iload hx hb dX7_slide_55 (lv_at hl 0 rfl) ?_
        refine ro_i (va_runS (As := [.int z26, .int p2, .int z45]) (rest := [.int p1, .ref p0]) ⟨hx, hb, hml, hown, hts⟩ (s_X7_by l dC dI cs L K G Q hQ x0 m0 tx tm H.size Iz40 Jz40 hIz40 z26 p2 z45 ⟨by omega, by omega⟩) (va_cwS 3 hts (gS pq1470 pq1471 pq81 pq1472) rfl rfl rfl (by decide +kernel) ⟨(by rw [hR]; exact (Nat.le_of_ble_eq_true rfl)), (by rw [hR]; exact (Nat.le_of_ble_eq_true rfl))⟩) (sP_S hP hD hK hN) rfl rfl hl.1 rfl (lv_room (Nat.le_of_ble_eq_true rfl)) dX7_slide_57 ⟨(by rw [hR]; exact (Nat.le_of_ble_eq_true rfl)), (by rw [hR]; exact (Nat.le_of_ble_eq_true rfl))⟩) hS hP (fun z57 H locs hz57 hP hS => ?_)
        obtain ⟨bz57, fez57⟩ := hz57
        refine lv_iload hx hb dX7_slide_60 (lv_at hl 1 rfl) ?_
        refine lv_iload_n hx hb dX7_slide_62 rfl (lv_at hl 5 rfl) ?_
        refine lv_iload hx hb dX7_slide_63 (lv_at hl 0 rfl) ?_
        refine ro_i (va_runS (As := [.int z26, .int p3, .int z45]) (rest := [.int z57, .int p1, .ref p0]) ⟨hx, hb, hml, hown, hts⟩ (s_X7_by l dC dI cs L K G Q hQ x0 m0 tx tm H.size Iz40 Jz40 hIz40 z26 p3 z45 ⟨by omega, by omega⟩) (va_cwS 3 hts (gS pq1470 pq1471 pq81 pq1472) rfl rfl rfl (by decide +kernel) ⟨(by rw [hR]; exact (Nat.le_of_ble_eq_true rfl)), (by rw [hR]; exact (Nat.le_of_ble_eq_true rfl))⟩) (sP_S hP hD hK hN) rfl rfl hl.1 rfl (lv_room (Nat.le_of_ble_eq_true rfl)) dX7_slide_65 ⟨(by rw [hR]; exact (Nat.le_of_ble_eq_true rfl)), (by rw [hR]; exact (Nat.le_of_ble_eq_true rfl))⟩) hS hP (fun z65 H locs hz65 hP hS => ?_)
        obtain ⟨bz65, fez65⟩ := hz65
        refine sw_v (Z := (fun I1 J1 => Iv L K x0 m0 tx tm I1 ∧ (∀ b, ¬ (K b = 18) → I1 b = Iz40 b) ∧ (I1 ((Q p0 0).getD 0) = gU (Iz40 ((Q p0 0).getD 0)) p1.toInt.toNat z57 z65) ∧ (∀ b, K b = 0 ∨ K b = 1 ∨ K b = 3 ∨ K b = 6 → I1 b = Iz40 b) ∧ (∀ σ : Sx, cmA Q Iz40 Jz40 p0 σ → cmA Q I1 J1 p0 (gC σ.1 p1.toInt.toNat z57 z65, σ.2)) ∧ J1 = Jz40)) (va_runV (As := [.int p1, .int z57, .int z65]) (rest := []) ⟨hx, hb, hml, hown, hts⟩ (s_X7_goes l dC dI cs L K G Q hQ x0 m0 tx tm H.size Iz40 Jz40 hIz40 p0 hLp0 hKp0 p1 ⟨by omega, by omega⟩ z57 z65 (by have e1 := fez57; have e2 := fez65; rw [fez45] at e1 e2; rw [e1, e2, frc40 _ (by have := (nw_of hQ hLp0 hKp0).2; omega), frc26 _ (by have := (nw_of hQ hLp0 hKp0).2; omega)]; exact slR_gB zr26 (by rw [← fez45]; omega) (nwB (Iv_at hI (nw_of hQ hLp0 hKp0).1 (nw_of hQ hLp0 hKp0).2)) hBB.1)) (cwV 3 hts (gV pq1474 pq1476 pq48 pq81 pq1477) rfl rfl rfl (by decide +kernel) ⟨(by rw [hR]; exact (Nat.le_of_ble_eq_true rfl)), (by rw [hR]; exact (Nat.le_of_ble_eq_true rfl))⟩) (sP_V hP hD hK hN hLp0 hKp0 rfl rfl) rfl rfl hl.1 rfl (lv_room (Nat.le_of_ble_eq_true rfl)) dX7_slide_68 ⟨(by rw [hR]; exact (Nat.le_of_ble_eq_true rfl)), (by rw [hR]; exact (Nat.le_of_ble_eq_true rfl))⟩) hS hAL hA (fun Iz68 Jz68 H locs hz68 hIz68 hP hS => ?_)
        obtain ⟨hIz68, frc68, zp68, dnc68, jz68, djc68⟩ := hIz68
        obtain rfl : Jz40 = Jz68 := djc68.symm
        have dn_Iz68 : (∀ b, K b = 0 ∨ K b = 1 ∨ K b = 3 ∨ K b = 6 → Iz68 b = I b) := fun b hc => (dnc68 b (by omega)).trans (dn_Iz40 b hc)
        refine lv_iload hx hb dX7_slide_71 (lv_at hl 1 rfl) ?_
        subst hR; subst hQz
        exact W.iret (v := z26) hx hb hr (fun t ht hW => ⟨⟨z26, (), rfl, (fun σ ok A => by obtain ⟨hC, e, A1⟩ := hs26 σ ok A; rw [sl_y hC (by rw [← e]; omega)]; exact e), ⟨Iz68, Jz40, ⟨hIz68, dn_Iz68, (fun σ ok A => by obtain ⟨hC, e, A1⟩ := hs26 σ ok A; rw [sl_y hC (by rw [← e]; omega)]; have B := jz68 _ (jz40 σ A1); rw [rem_1] at B; have s45 : z45.toInt = stI p2.toInt p3.toInt := (by rw [show z45 = stF p2 p3 from fez45]; exact stF_i ⟨by omega, by omega⟩ ⟨by omega, by omega⟩); have x57 : slX σ.1 p1.toInt.toNat p2.toInt p3.toInt = z57 := (by unfold slX; rw [← e, ← s45, ← byF_i (k := z26) (d := p2) (n := z45) ⟨by omega, by omega⟩ ⟨by omega, by omega⟩ ⟨by omega, by omega⟩, Int32.ofInt_toInt]; exact fez57.symm); have x65 : slY σ.1 p1.toInt.toNat p2.toInt p3.toInt = z65 := (by unfold slY; rw [← e, ← s45, ← byF_i (k := z26) (d := p3) (n := z45) ⟨by omega, by omega⟩ ⟨by omega, by omega⟩ ⟨by omega, by omega⟩, Int32.ofInt_toInt]; exact fez65.symm); unfold slC; rw [x57, x65]; exact B), dj_Jz40⟩, by rw [ht]; exact hP⟩⟩, hS.F ht⟩) hS.2.2 dX7_slide_73
      · have t33 := tq_eq (k := z26.toInt) (q := (0)) c33 rfl (by decide +kernel)
        refine lv_bipush (v := (-2)) hx hb dX7_slide_36 (by decide +kernel) ?_
        subst hR; subst hQz
        exact W.iret (v := (-2)) hx hb hr (fun t ht hW => ⟨⟨(-2), (), rfl, (fun σ ok A => by obtain ⟨hC, e, A1⟩ := hs26 σ ok A; rw [sl_e hC (by rw [← e]; omega)]; show (-2 : Int32).toInt = -2; decide +kernel), ⟨Iz26, Jz19, ⟨hIz26, dn_Iz26, (fun σ ok A => by obtain ⟨hC, e, A1⟩ := hs26 σ ok A; rw [sl_e hC (by rw [← e]; omega)]; exact A1), dj_Jz19⟩, by rw [ht]; exact hP⟩⟩, hS.F ht⟩) hS.2.2 dX7_slide_38
    · have t13 := tq_eq (k := z10.toInt) (q := (0)) c13 rfl (by decide +kernel)
      refine lv_iconst (v := (-1)) hx hb dX7_slide_16 (by decide +kernel) ?_
      subst hR; subst hQz
      exact W.iret (v := (-1)) hx hb hr (fun t ht hW => ⟨⟨(-1), (), rfl, (fun σ ok A => by have ec : I (a0 Q p0 0) 1 = σ.1.1 1 := cmA_n A (by decide); rw [sl_n (fun q => by unfold twC at q; rw [← ec] at q; first | exact xpz2.2 t5 q.1 | exact xpz10 t13 ⟨q.2.1, q.2.2⟩)]; show (-1 : Int32).toInt = -1; decide +kernel), ⟨I, J, ⟨hI, dn_I, (fun σ ok A => by have ec : I (a0 Q p0 0) 1 = σ.1.1 1 := cmA_n A (by decide); rw [sl_n (fun q => by unfold twC at q; rw [← ec] at q; first | exact xpz2.2 t5 q.1 | exact xpz10 t13 ⟨q.2.1, q.2.2⟩)]; exact A), dj_J⟩, by rw [ht]; exact hP⟩⟩, hS.F ht⟩) hS.2.2 dX7_slide_17

set_option maxHeartbeats 4000000 in
set_option maxRecDepth 100000 in
theorem s_X7_push (l : Launch) (dC : Nat → ClassId) (dI : Nat → Nat → Nat) (cs : Nat → ClassId) (L : List Nat) (K G : Nat → Nat) (Q : Nat → Nat → Option Nat) (hQ : Sv L K G Q) (x0 m0 : Nat) (tx : GT) (tm : GT × Int) (sz : Nat) (I : Nat → Nat → Int32) (J : Nat → Nat → Int64) (hI : Iv L K x0 m0 tx tm I) (p0 : Nat) (hLp0 : p0 ∈ L) (hKp0 : K p0 = 7) (p1 : Int32) (p2 : Int32) (p3 : Int32) : Met l yX7_push (.code yX7_push cX7_push 12 (some .int) :: pw) ({ frames := 7, cells := 0, slots := 0, locals := 173 }) (sP (dC, dI) cs [.ref p0, .int p1, .int p2, .int p3] sz L K I J Q) (va_Qi (fun (r : Int32) (_ : Unit) => (∀ σ : Sx, okF σ.1 → cmA Q I J p0 σ → r.toInt = (psA σ p1 p2 p3).1)) (fun _ t => sB (dC, dI) cs L K Q (fun I1 J1 => Iv L K x0 m0 tx tm I1 ∧ (∀ b, K b = 0 ∨ K b = 1 ∨ K b = 3 ∨ K b = 6 → I1 b = I b) ∧ (∀ σ : Sx, okF σ.1 → cmA Q I J p0 σ → cmA Q I1 J1 p0 (psA σ p1 p2 p3).2) ∧ (∀ b, ¬ (K b = 22 ∨ K b = 25 ∨ K b = 33) → J1 b = J b)) t) (fun q => q ∈ L ∨ sz ≤ q)) 0 0 (fun q => q ∈ L ∨ sz ≤ q) := by
  refine Met.ofW (cc := cX7_push) (maxL := 12) (ret := (some .int)) (by decide +kernel) rfl ?_
  intro p e s m args below meth c s₁ B hml hv
  obtain ⟨rfl, hsz, hP, hK, hD0, hN⟩ := hv
  have hx := B.exec
  have hb := B.bytes
  have hr := B.returns
  have hts := fun w (h : w ∈ pw) => atoms_spec (ws := Cond.code yX7_push cX7_push 12 (some .int) :: pw) B.pre w (List.mem_cons_of_mem _ h)
  have hown : s.vm.findClass RX7 = some m.cls := findClass_of_methodNamed B.named
  have hlocks := B.notSynchronized
  subst hsz
  have hBB : 999 ≤ tm.2 ∧ tm.2 ≤ 6000000 := hI.2.2.2.2.1
  have dn_I : (∀ b, K b = 0 ∨ K b = 1 ∨ K b = 3 ∨ K b = 6 → I b = I b) := fun _ _ => rfl
  have dj_J : (∀ b, ¬ (K b = 22 ∨ K b = 25 ∨ K b = 33) → J b = J b) := fun _ _ => rfl
  obtain ⟨A, hAe⟩ : ∃ A : Nat → Prop, A = (fun q => q ∈ L ∨ s.heap.size ≤ q) := ⟨_, rfl⟩
  rw [← hAe]
  have hAL : ∀ q, q ∈ L → A q := fun q h => by rw [hAe]; exact Or.inl h
  have hA : ∀ q, s.heap.size ≤ q → A q := fun q h => by rw [hAe]; exact Or.inr h
  have hD : ∀ F, va_D A (va_pl L F) := fun F => (hD0 F).weaken (fun k q hk _ => hAL _ (pl_mem hk))
  obtain ⟨H, hHe⟩ : ∃ H : Heap, H = s.heap := ⟨_, rfl⟩
  have hS : va_S A s.heap H [] := by rw [hHe]; exact va_S.rf
  rw [← hHe] at hP
  have hl := lv_entry ([.ref p0, .int p1, .int p2, .int p3]) (n := 12) (Nat.le_of_ble_eq_true rfl)
  rw [lg_entry_eq]
  generalize (lg_sl ([.ref p0, .int p1, .int p2, .int p3]) ++ List.replicate (12 - (lg_sl ([.ref p0, .int p1, .int p2, .int p3])).length) Slot.unset).toArray = ls at hl ⊢
  have hl : lv_has ls 12 [(0, .ref p0), (1, .int p1), (2, .int p2), (3, .int p3)] := hl
  rw [← hHe]
  refine namedW (fun R Qz hR hQz => ?_)
  refine lv_aload_n hx hb dX7_push_0 rfl (lv_at hl 0 rfl) ?_
  refine lv_iload_n hx hb dX7_push_1 rfl (lv_at hl 1 rfl) ?_
  refine ro_i (va_runV (As := [.int p1]) (rest := []) ⟨hx, hb, hml, hown, hts⟩ (s_X7_isBody l dC dI cs L K G Q hQ x0 m0 tx tm H.size I J hI p0 hLp0 hKp0 p1) (cwV 1 hts (gV pq1310 pq1312 pq23 pq81 pq1313) rfl rfl rfl (by decide +kernel) ⟨(by rw [hR]; exact (Nat.le_of_ble_eq_true rfl)), (by rw [hR]; exact (Nat.le_of_ble_eq_true rfl))⟩) (sP_V hP hD hK hN hLp0 hKp0 rfl rfl) rfl rfl hl.1 rfl (lv_room (Nat.le_of_ble_eq_true rfl)) dX7_push_2 ⟨(by rw [hR]; exact (Nat.le_of_ble_eq_true rfl)), (by rw [hR]; exact (Nat.le_of_ble_eq_true rfl))⟩) hS hP (fun z2 H locs hz2 hP hS => ?_)
  obtain ⟨bz2, imz2, xpz2⟩ := hz2
  refine lv_if_eq (tgt := 16) hx hb dX7_push_5 (by decide) (fun c5 => ?_) (fun c5 => ?_)
  · have t5 := tq_eq (k := z2.toInt) (q := (0)) c5 rfl (by decide +kernel)
    refine lv_iconst (v := (-1)) hx hb dX7_push_16 (by decide +kernel) ?_
    subst hR; subst hQz
    exact W.iret (v := (-1)) hx hb hr (fun t ht hW => ⟨⟨(-1), (), rfl, (fun σ ok A => by have ec : I (a0 Q p0 0) 1 = σ.1.1 1 := cmA_n A (by decide); rw [ps_n (fun q => by unfold twC at q; rw [← ec] at q; first | exact xpz2.2 t5 q.1 | exact xpz10 t13 ⟨q.2.1, q.2.2⟩)]; show (-1 : Int32).toInt = -1; decide +kernel), ⟨I, J, ⟨hI, dn_I, (fun σ ok A => by have ec : I (a0 Q p0 0) 1 = σ.1.1 1 := cmA_n A (by decide); rw [ps_n (fun q => by unfold twC at q; rw [← ec] at q; first | exact xpz2.2 t5 q.1 | exact xpz10 t13 ⟨q.2.1, q.2.2⟩)]; exact A), dj_J⟩, by rw [ht]; exact hP⟩⟩, hS.F ht⟩) hS.2.2 dX7_push_17
  · have t5 := tq_ne (k := z2.toInt) (q := (0)) c5 rfl (by decide +kernel)
    have i5 := imz2 t5
    refine lv_iload_n hx hb dX7_push_8 rfl (lv_at hl 2 rfl) ?_
    refine lv_iload_n hx hb dX7_push_9 rfl (lv_at hl 3 rfl) ?_
    refine ro_i (va_runS (As := [.int p2, .int p3]) (rest := []) ⟨hx, hb, hml, hown, hts⟩ (s_X7_areSteps l dC dI cs L K G Q hQ x0 m0 tx tm H.size I J hI p2 p3) (va_cwS 2 hts (gS pq1422 pq1423 pq81 pq1424) rfl rfl rfl (by decide +kernel) ⟨(by rw [hR]; exact (Nat.le_of_ble_eq_true rfl)), (by rw [hR]; exact (Nat.le_of_ble_eq_true rfl))⟩) (sP_S hP hD hK hN) rfl rfl hl.1 rfl (lv_room (Nat.le_of_ble_eq_true rfl)) dX7_push_10 ⟨(by rw [hR]; exact (Nat.le_of_ble_eq_true rfl)), (by rw [hR]; exact (Nat.le_of_ble_eq_true rfl))⟩) hS hP (fun z10 H locs hz10 hP hS => ?_)
    obtain ⟨bz10, imz10, xpz10⟩ := hz10
    refine lv_if_ne (tgt := 18) hx hb dX7_push_13 (by decide) (fun c13 => ?_) (fun c13 => ?_)
    · have t13 := tq_ne (k := z10.toInt) (q := (0)) c13 rfl (by decide +kernel)
      have i13 := imz10 t13
      refine lv_aload_n hx hb dX7_push_18 rfl (lv_at hl 0 rfl) ?_
      refine sw_v (Z := (fun I1 J1 => Iv L K x0 m0 tx tm I1 ∧ I1 = I ∧ (∀ c : Fx, okF c → rI Q I p0 c → rJ Q J p0 c → ldA Q J1 p0 c) ∧ (∀ b, ¬ (K b = 25) → J1 b = J b))) (va_runV (As := []) (rest := []) ⟨hx, hb, hml, hown, hts⟩ (s_X7_laysAll l dC dI cs L K G Q hQ x0 m0 tx tm H.size I J hI p0 hLp0 hKp0) (cwV 0 hts (gV pq1427 pq1429 pq40 pq81 pq1430) rfl rfl rfl (by decide +kernel) ⟨(by rw [hR]; exact (Nat.le_of_ble_eq_true rfl)), (by rw [hR]; exact (Nat.le_of_ble_eq_true rfl))⟩) (sP_V hP hD hK hN hLp0 hKp0 rfl rfl) rfl rfl hl.1 rfl (lv_room (Nat.le_of_ble_eq_true rfl)) dX7_push_19 ⟨(by rw [hR]; exact (Nat.le_of_ble_eq_true rfl)), (by rw [hR]; exact (Nat.le_of_ble_eq_true rfl))⟩) hS hAL hA (fun Iz19 Jz19 H locs hz19 hIz19 hP hS => ?_)
      obtain ⟨hIz19, sm19, jz19, djc19⟩ := hIz19
      have dj_Jz19 : (∀ b, ¬ (K b = 22 ∨ K b = 25 ∨ K b = 33) → Jz19 b = J b) := fun b hc => (djc19 b (fun z => hc (by omega))).trans (dj_J b hc)
      obtain rfl : I = Iz19 := sm19.symm
      refine lv_iload_n hx hb dX7_push_22 rfl (lv_at hl 2 rfl) ?_
      refine lv_iload_n hx hb dX7_push_23 rfl (lv_at hl 3 rfl) ?_
      refine ro_i (va_runS (As := [.int p2, .int p3]) (rest := []) ⟨hx, hb, hml, hown, hts⟩ (s_X7_steps l dC dI cs L K G Q hQ x0 m0 tx tm H.size I Jz19 hI p2 ⟨by omega, by omega⟩ p3 ⟨by omega, by omega⟩) (va_cwS 2 hts (gS pq1439 pq1440 pq81 pq1441) rfl rfl rfl (by decide +kernel) ⟨(by rw [hR]; exact (Nat.le_of_ble_eq_true rfl)), (by rw [hR]; exact (Nat.le_of_ble_eq_true rfl))⟩) (sP_S hP hD hK hN) rfl rfl hl.1 rfl (lv_room (Nat.le_of_ble_eq_true rfl)) dX7_push_24 ⟨(by rw [hR]; exact (Nat.le_of_ble_eq_true rfl)), (by rw [hR]; exact (Nat.le_of_ble_eq_true rfl))⟩) hS hP (fun z24 H locs hz24 hP hS => ?_)
      obtain ⟨bz24, fez24⟩ := hz24
      refine lv_istore (lv' := [(4, .int z24), (0, .ref p0), (1, .int p1), (2, .int p2), (3, .int p3)]) hx hb dX7_push_27 hl (by decide) rfl (fun ls hl => ?_)
      refine lv_iconst (v := 0) hx hb dX7_push_29 (by decide +kernel) ?_
      refine lv_istore (lv' := [(5, .int 0), (4, .int z24), (0, .ref p0), (1, .int p1), (2, .int p2), (3, .int p3)]) hx hb dX7_push_30 hl (by decide) rfl (fun ls hl => ?_)
      refine lv_iconst (v := 1) hx hb dX7_push_32 (by decide +kernel) ?_
      refine lv_istore (lv' := [(6, .int 1), (5, .int 0), (4, .int z24), (0, .ref p0), (1, .int p1), (2, .int p2), (3, .int p3)]) hx hb dX7_push_33 hl (by decide) rfl (fun ls hl => ?_)
      refine lv_aload_n hx hb dX7_push_35 rfl (lv_at hl 3 rfl) ?_
      refine sw_v (Z := (fun I1 J1 => Iv L K x0 m0 tx tm I1 ∧ (∀ b, ¬ (K b = 30) → I1 b = I b) ∧ (∀ b, K b = 0 ∨ K b = 1 ∨ K b = 3 ∨ K b = 6 → I1 b = I b) ∧ (∀ c : Fx, isF I Jz19 (a0 Q p0 0) (a0 Q p0 5) 0 c → isF I1 J1 (a0 Q p0 2) (a0 Q p0 7) 0 c) ∧ (∀ b, ¬ (K b = 33) → J1 b = Jz19 b))) (va_runV (As := []) (rest := []) ⟨hx, hb, hml, hown, hts⟩ (s_X7_laysAside l dC dI cs L K G Q hQ x0 m0 tx tm H.size I Jz19 hI p0 hLp0 hKp0) (cwV 0 hts (gV pq1328 pq1330 pq27 pq81 pq1331) rfl rfl rfl (by decide +kernel) ⟨(by rw [hR]; exact (Nat.le_of_ble_eq_true rfl)), (by rw [hR]; exact (Nat.le_of_ble_eq_true rfl))⟩) (sP_V hP hD hK hN hLp0 hKp0 rfl rfl) rfl rfl hl.1 rfl (lv_room (Nat.le_of_ble_eq_true rfl)) dX7_push_36 ⟨(by rw [hR]; exact (Nat.le_of_ble_eq_true rfl)), (by rw [hR]; exact (Nat.le_of_ble_eq_true rfl))⟩) hS hAL hA (fun Iz36 Jz36 H locs hz36 hIz36 hP hS => ?_)
      obtain ⟨hIz36, frc36, dnc36, jz36, djc36⟩ := hIz36
      have dj_Jz36 : (∀ b, ¬ (K b = 22 ∨ K b = 25 ∨ K b = 33) → Jz36 b = J b) := fun b hc => (djc36 b (fun z => hc (by omega))).trans (dj_Jz19 b hc)
      have dn_Iz36 : (∀ b, K b = 0 ∨ K b = 1 ∨ K b = 3 ∨ K b = 6 → Iz36 b = I b) := fun b hc => (dnc36 b (by omega)).trans (dn_I b hc)
      have h39 : ∀ σ : Sx, okF σ.1 → cmA Q I J p0 σ → twC σ p1 p2 p3 (-200) 200 ∧ cmA Q Iz36 Jz36 p0 σ ∧ ldA Q Jz36 p0 σ.1 ∧ isF Iz36 Jz36 (a0 Q p0 2) (a0 Q p0 7) 0 σ.1 := fun σ ok A => by have ec : I (a0 Q p0 0) 1 = σ.1.1 1 := cmA_n A (by decide); have hC : twC σ p1 p2 p3 (-200) 200 := ⟨by rw [← ec]; exact xpz2.1 t5, ⟨by omega, by omega⟩, ⟨by omega, by omega⟩⟩; have l := jz19 σ.1 ok (cmA_rI A) (cmA_rJ A); have A1 := cmA_fr (I1 := I) (J1 := Jz19) hQ hLp0 hKp0 (fun _ _ => rfl) (fun b hb => djc19 b (by omega)) rfl A; have A2 := cmA_fr (I1 := Iz36) (J1 := Jz36) hQ hLp0 hKp0 (fun b hb => frc36 b (by omega)) (fun b hb => djc36 b (by omega)) (congrFun (frc36 p0 (by omega)) 11) A1; exact ⟨hC, A2, ldA_fr (djc36 _ (by rw [ld_k hQ hLp0 hKp0]; decide)) l, jz36 σ.1 A1.1⟩
      have s24 : z24.toInt = stI p2.toInt p3.toInt := by rw [show z24 = stF p2 p3 from fez24]; exact stF_i ⟨by omega, by omega⟩ ⟨by omega, by omega⟩
      refine lv_iconst (v := 1) hx hb dX7_push_39 (by decide +kernel) ?_
      refine lv_istore (lv' := [(7, .int 1), (6, .int 1), (5, .int 0), (4, .int z24), (0, .ref p0), (1, .int p1), (2, .int p2), (3, .int p3)]) hx hb dX7_push_40 hl (by decide) rfl (fun ls hl => ?_)
      have key42 := blocks (fun n => ∀ (v42_5 : Int32) (v42_6 : Int32) (v42_7 : Int32) (I42 : Nat → Nat → Int32) (H : Heap) (lo : List Loc) (ls : Array Slot), (302 - v42_7.toInt).toNat = n → ((0) ≤ v42_5.toInt ∧ v42_5.toInt ≤ 300) → ((0) ≤ v42_6.toInt ∧ v42_6.toInt ≤ 1) → ((1) ≤ v42_7.toInt ∧ v42_7.toInt ≤ 301) → Iv L K x0 m0 tx tm I42 → (∀ b, K b = 0 ∨ K b = 1 ∨ K b = 3 ∨ K b = 6 → I42 b = I b) → (0 ≤ v42_5.toInt ∧ v42_5.toInt < v42_7.toInt) → (∀ σ : Sx, okF σ.1 → cmA Q I J p0 σ → (0 ≤ v42_5.toInt ∧ v42_5.toInt ≤ stI p2.toInt p3.toInt) ∧ (∀ i : Nat, (i : Int) < v42_5.toInt → psG σ.1 p1.toInt.toNat p2.toInt p3.toInt i) ∧ cmA Q I42 Jz36 p0 ((psC σ.1 p1.toInt.toNat p2.toInt p3.toInt v42_5.toInt.toNat), σ.2) ∧ isF I42 Jz36 (a0 Q p0 2) (a0 Q p0 7) 0 σ.1 ∧ ((¬ v42_6.toInt = 0 ∧ v42_7.toInt = v42_5.toInt + 1) ∨ (v42_6.toInt = 0 ∧ ¬ psG σ.1 p1.toInt.toNat p2.toInt p3.toInt v42_5.toInt.toNat))) → va_P (dC, dI) vwCl (Wd cs L K I42 Jz36 Q) H → va_S A s.heap H lo → lv_has ls 12 [(0, .ref p0), (1, .int p1), (2, .int p2), (3, .int p3), (4, .int z24), (5, .int v42_5), (6, .int v42_6), (7, .int v42_7)] → W p l e R s m (([.ref p0, .int p1, .int p2, .int p3] : List Value).toArray) below meth c H lo 0 0 Qz (F0 m 42 ls [])) (by
        intro n ih42
        intro v42_5 v42_6 v42_7 I42 H lo ls hmu42 bv42_5 bv42_6 bv42_7 hI42 dn_I42 hd42 ht42 hP hS hl
        refine lv_iload hx hb dX7_push_42 (lv_at hl 7 rfl) ?_
        refine lv_iload hx hb dX7_push_44 (lv_at hl 4 rfl) ?_
        have j181 : ∀ (H : Heap) (lo : List Loc) (ls : Array Slot), (∀ σ : Sx, okF σ.1 → cmA Q I J p0 σ → psN σ.1 p1.toInt.toNat p2.toInt p3.toInt = v42_5.toInt) → va_P (dC, dI) vwCl (Wd cs L K I42 Jz36 Q) H → va_S A s.heap H lo → lv_has ls 12 [(0, .ref p0), (1, .int p1), (2, .int p2), (3, .int p3), (4, .int z24), (5, .int v42_5), (6, .int v42_6), (7, .int v42_7)] → W p l e R s m (([.ref p0, .int p1, .int p2, .int p3] : List Value).toArray) below meth c H lo 0 0 Qz (F0 m 181 ls []) := by
          intro H lo ls hq181 hP hS hl
          refine lv_iload hx hb dX7_push_181 (lv_at hl 5 rfl) ?_
          refine lv_if_ne (tgt := 189) hx hb dX7_push_183 (by decide) (fun c183 => ?_) (fun c183 => ?_)
          · have t183 := tq_ne (k := v42_5.toInt) (q := (0)) c183 rfl (by decide +kernel)
            refine lv_aload_n hx hb dX7_push_189 rfl (lv_at hl 0 rfl) ?_
            refine sw_v (Z := (fun I1 J1 => Iv L K x0 m0 tx tm I1 ∧ (∀ b, ¬ (K b = 7 ∨ K b = 19) → I1 b = I42 b) ∧ (∀ b, K b = 0 ∨ K b = 1 ∨ K b = 3 ∨ K b = 6 → I1 b = I42 b) ∧ (∀ (σ : Sx) (c : Fx), cmA Q I42 Jz36 p0 σ → isF I42 Jz36 (a0 Q p0 2) (a0 Q p0 7) 0 c → cmA Q I1 J1 p0 (morc (shf σ) c)) ∧ (∀ b, ¬ (K b = 22) → J1 b = Jz36 b))) (va_runV (As := []) (rest := []) ⟨hx, hb, hml, hown, hts⟩ (s_X7_remembersAside l dC dI cs L K G Q hQ x0 m0 tx tm H.size I42 Jz36 hI42 p0 hLp0 hKp0) (cwV 0 hts (gV pq1332 pq1334 pq28 pq81 pq1335) rfl rfl rfl (by decide +kernel) ⟨(by rw [hR]; exact (Nat.le_of_ble_eq_true rfl)), (by rw [hR]; exact (Nat.le_of_ble_eq_true rfl))⟩) (sP_V hP hD hK hN hLp0 hKp0 rfl rfl) rfl rfl hl.1 rfl (lv_room (Nat.le_of_ble_eq_true rfl)) dX7_push_190 ⟨(by rw [hR]; exact (Nat.le_of_ble_eq_true rfl)), (by rw [hR]; exact (Nat.le_of_ble_eq_true rfl))⟩) hS hAL hA (fun Iz190 Jz190 H locs hz190 hIz190 hP hS => ?_)
            obtain ⟨hIz190, frc190, dnc190, jz190, djc190⟩ := hIz190
            have dj_Jz190 : (∀ b, ¬ (K b = 22 ∨ K b = 25 ∨ K b = 33) → Jz190 b = J b) := fun b hc => (djc190 b (fun z => hc (by omega))).trans (dj_Jz36 b hc)
            have dn_Iz190 : (∀ b, K b = 0 ∨ K b = 1 ∨ K b = 3 ∨ K b = 6 → Iz190 b = I b) := fun b hc => (dnc190 b (by omega)).trans (dn_I42 b hc)
            refine lv_iload hx hb dX7_push_193 (lv_at hl 5 rfl) ?_
            subst hR; subst hQz
            exact W.iret (v := v42_5) hx hb hr (fun t ht hW => ⟨⟨v42_5, (), rfl, (fun σ ok A => by rw [ps_y (h39 σ ok A).1 (by rw [hq181 σ ok A]; omega)]; exact (hq181 σ ok A).symm), ⟨Iz190, Jz190, ⟨hIz190, dn_Iz190, (fun σ ok A => by obtain ⟨bd, gg, B, aF, o⟩ := ht42 σ ok A; rw [ps_y (h39 σ ok A).1 (by rw [hq181 σ ok A]; omega), hq181 σ ok A]; have D := jz190 _ _ B aF; rw [rem_as] at D; exact D), dj_Jz190⟩, by rw [ht]; exact hP⟩⟩, hS.F ht⟩) hS.2.2 dX7_push_195
          · have t183 := tq_eq (k := v42_5.toInt) (q := (0)) c183 rfl (by decide +kernel)
            refine lv_bipush (v := (-2)) hx hb dX7_push_186 (by decide +kernel) ?_
            subst hR; subst hQz
            exact W.iret (v := (-2)) hx hb hr (fun t ht hW => ⟨⟨(-2), (), rfl, (fun σ ok A => by rw [ps_e (h39 σ ok A).1 (by rw [hq181 σ ok A]; omega)]; show (-2 : Int32).toInt = -2; decide +kernel), ⟨I42, Jz36, ⟨hI42, dn_I42, (fun σ ok A => by obtain ⟨bd, gg, B, aF, o⟩ := ht42 σ ok A; rw [ps_e (h39 σ ok A).1 (by rw [hq181 σ ok A]; omega)]; rw [show v42_5.toInt.toNat = 0 by omega, psC_0] at B; exact B), dj_Jz36⟩, by rw [ht]; exact hP⟩⟩, hS.F ht⟩) hS.2.2 dX7_push_188
        refine lv_icmp_gt (tgt := 181) hx hb dX7_push_46 (by decide) (fun c46 => ?_) (fun c46 => ?_)
        · have t46 := tq_lt (k := z24.toInt) (q := v42_7.toInt) c46 rfl rfl
          exact j181  _ _ _ (fun σ ok A0 => by obtain ⟨bd, gg, A, aF, o⟩ := ht42 σ ok A0; refine psN_of ⟨bd, gg, ?_⟩; rcases o with ⟨o1, o2⟩ | ⟨o1, o2⟩; (exact Or.inl (by rw [← s24]; rw [← s24] at bd; omega)); (exact Or.inr o2)) hP hS (lv_sub hl [0, 1, 2, 3, 4, 5, 6, 7] rfl)
        · have t46 := tq_nlt (k := z24.toInt) (q := v42_7.toInt) c46 rfl rfl
          refine lv_iload hx hb dX7_push_49 (lv_at hl 6 rfl) ?_
          refine lv_if_eq (tgt := 181) hx hb dX7_push_51 (by decide) (fun c51 => ?_) (fun c51 => ?_)
          · have t51 := tq_eq (k := v42_6.toInt) (q := (0)) c51 rfl (by decide +kernel)
            exact j181  _ _ _ (fun σ ok A0 => by obtain ⟨bd, gg, A, aF, o⟩ := ht42 σ ok A0; refine psN_of ⟨bd, gg, ?_⟩; rcases o with ⟨o1, o2⟩ | ⟨o1, o2⟩; (exact absurd t51 o1); (exact Or.inr o2)) hP hS (lv_sub hl [0, 1, 2, 3, 4, 5, 6, 7] rfl)
          · have t51 := tq_ne (k := v42_6.toInt) (q := (0)) c51 rfl (by decide +kernel)
            refine lv_iload hx hb dX7_push_54 (lv_at hl 7 rfl) ?_
            refine lv_iload_n hx hb dX7_push_56 rfl (lv_at hl 2 rfl) ?_
            refine lv_iload hx hb dX7_push_57 (lv_at hl 4 rfl) ?_
            refine ro_i (va_runS (As := [.int v42_7, .int p2, .int z24]) (rest := []) ⟨hx, hb, hml, hown, hts⟩ (s_X7_byS l dC dI cs L K G Q hQ x0 m0 tx tm H.size I42 Jz36 hI42 v42_7 ⟨by omega, by omega⟩ p2 ⟨by omega, by omega⟩ z24 ⟨by omega, by omega⟩ (by omega)) (va_cwS 3 hts (gS pq1470 pq1471 pq81 pq1472) rfl rfl rfl (by decide +kernel) ⟨(by rw [hR]; exact (Nat.le_of_ble_eq_true rfl)), (by rw [hR]; exact (Nat.le_of_ble_eq_true rfl))⟩) (sP_S hP hD hK hN) rfl rfl hl.1 rfl (lv_room (Nat.le_of_ble_eq_true rfl)) dX7_push_59 ⟨(by rw [hR]; exact (Nat.le_of_ble_eq_true rfl)), (by rw [hR]; exact (Nat.le_of_ble_eq_true rfl))⟩) hS hP (fun z59 H locs hz59 hP hS => ?_)
            obtain ⟨bz59, fez59⟩ := hz59
            refine lv_iload hx hb dX7_push_62 (lv_at hl 7 rfl) ?_
            refine lv_iconst (v := 1) hx hb dX7_push_64 (by decide +kernel) ?_
            refine lv_isub hx hb dX7_push_65 ?_
            refine lv_topi (fun z65 ez65 => ?_)
            have bz65 := tq_sub (k := v42_7.toInt) (q := (1)) ez65 rfl (by decide +kernel) (by omega) (by omega)
            refine lv_iload_n hx hb dX7_push_66 rfl (lv_at hl 2 rfl) ?_
            refine lv_iload hx hb dX7_push_67 (lv_at hl 4 rfl) ?_
            refine ro_i (va_runS (As := [.int z65, .int p2, .int z24]) (rest := [.int z59]) ⟨hx, hb, hml, hown, hts⟩ (s_X7_byS l dC dI cs L K G Q hQ x0 m0 tx tm H.size I42 Jz36 hI42 z65 ⟨by omega, by omega⟩ p2 ⟨by omega, by omega⟩ z24 ⟨by omega, by omega⟩ (by omega)) (va_cwS 3 hts (gS pq1470 pq1471 pq81 pq1472) rfl rfl rfl (by decide +kernel) ⟨(by rw [hR]; exact (Nat.le_of_ble_eq_true rfl)), (by rw [hR]; exact (Nat.le_of_ble_eq_true rfl))⟩) (sP_S hP hD hK hN) rfl rfl hl.1 rfl (lv_room (Nat.le_of_ble_eq_true rfl)) dX7_push_69 ⟨(by rw [hR]; exact (Nat.le_of_ble_eq_true rfl)), (by rw [hR]; exact (Nat.le_of_ble_eq_true rfl))⟩) hS hP (fun z69 H locs hz69 hP hS => ?_)
            obtain ⟨bz69, fez69⟩ := hz69
            refine lv_isub hx hb dX7_push_72 ?_
            refine lv_topi (fun z72 ez72 => ?_)
            have bz72 := tq_sub (k := z59.toInt) (q := z69.toInt) ez72 rfl rfl (by omega) (by omega)
            refine lv_istore (lv' := [(8, .int z72), (0, .ref p0), (1, .int p1), (2, .int p2), (3, .int p3), (4, .int z24), (5, .int v42_5), (6, .int v42_6), (7, .int v42_7)]) hx hb dX7_push_73 hl (by decide) rfl (fun ls hl => ?_)
            refine lv_iload hx hb dX7_push_75 (lv_at hl 8 rfl) ?_
            refine lv_iload_n hx hb dX7_push_77 rfl (lv_at hl 4 rfl) ?_
            refine lv_iload hx hb dX7_push_78 (lv_at hl 5 rfl) ?_
            refine ro_i (va_runS (As := [.int v42_7, .int p3, .int z24]) (rest := []) ⟨hx, hb, hml, hown, hts⟩ (s_X7_byS l dC dI cs L K G Q hQ x0 m0 tx tm H.size I42 Jz36 hI42 v42_7 ⟨by omega, by omega⟩ p3 ⟨by omega, by omega⟩ z24 ⟨by omega, by omega⟩ (by omega)) (va_cwS 3 hts (gS pq1470 pq1471 pq81 pq1472) rfl rfl rfl (by decide +kernel) ⟨(by rw [hR]; exact (Nat.le_of_ble_eq_true rfl)), (by rw [hR]; exact (Nat.le_of_ble_eq_true rfl))⟩) (sP_S hP hD hK hN) rfl rfl hl.1 rfl (lv_room (Nat.le_of_ble_eq_true rfl)) dX7_push_80 ⟨(by rw [hR]; exact (Nat.le_of_ble_eq_true rfl)), (by rw [hR]; exact (Nat.le_of_ble_eq_true rfl))⟩) hS hP (fun z80 H locs hz80 hP hS => ?_)
            obtain ⟨bz80, fez80⟩ := hz80
            refine lv_iload hx hb dX7_push_83 (lv_at hl 8 rfl) ?_
            refine lv_iconst (v := 1) hx hb dX7_push_85 (by decide +kernel) ?_
            refine lv_isub hx hb dX7_push_86 ?_
            refine lv_topi (fun z86 ez86 => ?_)
            have bz86 := tq_sub (k := v42_7.toInt) (q := (1)) ez86 rfl (by decide +kernel) (by omega) (by omega)
            refine lv_iload_n hx hb dX7_push_87 rfl (lv_at hl 4 rfl) ?_
            refine lv_iload hx hb dX7_push_88 (lv_at hl 5 rfl) ?_
            refine ro_i (va_runS (As := [.int z86, .int p3, .int z24]) (rest := [.int z80]) ⟨hx, hb, hml, hown, hts⟩ (s_X7_byS l dC dI cs L K G Q hQ x0 m0 tx tm H.size I42 Jz36 hI42 z86 ⟨by omega, by omega⟩ p3 ⟨by omega, by omega⟩ z24 ⟨by omega, by omega⟩ (by omega)) (va_cwS 3 hts (gS pq1470 pq1471 pq81 pq1472) rfl rfl rfl (by decide +kernel) ⟨(by rw [hR]; exact (Nat.le_of_ble_eq_true rfl)), (by rw [hR]; exact (Nat.le_of_ble_eq_true rfl))⟩) (sP_S hP hD hK hN) rfl rfl hl.1 rfl (lv_room (Nat.le_of_ble_eq_true rfl)) dX7_push_90 ⟨(by rw [hR]; exact (Nat.le_of_ble_eq_true rfl)), (by rw [hR]; exact (Nat.le_of_ble_eq_true rfl))⟩) hS hP (fun z90 H locs hz90 hP hS => ?_)
            obtain ⟨bz90, fez90⟩ := hz90
            refine lv_isub hx hb dX7_push_93 ?_
            refine lv_topi (fun z93 ez93 => ?_)
            have bz93 := tq_sub (k := z80.toInt) (q := z90.toInt) ez93 rfl rfl (by omega) (by omega)
            refine lv_istore (lv' := [(9, .int z93), (8, .int z72), (0, .ref p0), (1, .int p1), (2, .int p2), (3, .int p3), (4, .int z24), (5, .int v42_5), (6, .int v42_6), (7, .int v42_7)]) hx hb dX7_push_94 hl (by decide) rfl (fun ls hl => ?_)
            refine lv_aload_n hx hb dX7_push_96 rfl (lv_at hl 2 rfl) ?_
            refine lv_iload_n hx hb dX7_push_97 rfl (lv_at hl 3 rfl) ?_
            refine lv_iload hx hb dX7_push_98 (lv_at hl 1 rfl) ?_
            refine lv_iload hx hb dX7_push_100 (lv_at hl 0 rfl) ?_
            refine ro_i (va_runV (As := [.int p1, .int z72, .int z93]) (rest := []) ⟨hx, hb, hml, hown, hts⟩ (s_X7_goers l dC dI cs L K G Q hQ x0 m0 tx tm H.size I42 Jz36 hI42 p0 hLp0 hKp0 p1 ⟨by omega, by omega⟩ z72 z93 ⟨by omega, by omega⟩) (cwV 3 hts (gV pq1482 pq1484 pq49 pq81 pq1485) rfl rfl rfl (by decide +kernel) ⟨(by rw [hR]; exact (Nat.le_of_ble_eq_true rfl)), (by rw [hR]; exact (Nat.le_of_ble_eq_true rfl))⟩) (sP_V hP hD hK hN hLp0 hKp0 rfl rfl) rfl rfl hl.1 rfl (lv_room (Nat.le_of_ble_eq_true rfl)) dX7_push_102 ⟨(by rw [hR]; exact (Nat.le_of_ble_eq_true rfl)), (by rw [hR]; exact (Nat.le_of_ble_eq_true rfl))⟩) hS hP (fun z102 H locs hz102 hP hS => ?_)
            obtain ⟨bz102, xpz102⟩ := hz102
            refine lv_istore (lv' := [(10, .int z102), (9, .int z93), (8, .int z72), (0, .ref p0), (1, .int p1), (2, .int p2), (3, .int p3), (4, .int z24), (5, .int v42_5), (6, .int v42_6), (7, .int v42_7)]) hx hb dX7_push_105 hl (by decide) rfl (fun ls hl => ?_)
            refine lv_aload_n hx hb dX7_push_107 rfl (lv_at hl 3 rfl) ?_
            refine lv_iload hx hb dX7_push_108 (lv_at hl 0 rfl) ?_
            refine lv_iload hx hb dX7_push_110 (lv_at hl 2 rfl) ?_
            refine lv_iload hx hb dX7_push_112 (lv_at hl 1 rfl) ?_
            refine ro_i (va_runV (As := [.int z102, .int z72, .int z93]) (rest := []) ⟨hx, hb, hml, hown, hts⟩ (s_X7_canGo l dC dI cs L K G Q hQ x0 m0 tx tm H.size I42 Jz36 hI42 p0 hLp0 hKp0 z102 z72 z93) (cwV 3 hts (gV pq1490 pq1492 pq51 pq81 pq1493) rfl rfl rfl (by decide +kernel) ⟨(by rw [hR]; exact (Nat.le_of_ble_eq_true rfl)), (by rw [hR]; exact (Nat.le_of_ble_eq_true rfl))⟩) (sP_V hP hD hK hN hLp0 hKp0 rfl rfl) rfl rfl hl.1 rfl (lv_room (Nat.le_of_ble_eq_true rfl)) dX7_push_114 ⟨(by rw [hR]; exact (Nat.le_of_ble_eq_true rfl)), (by rw [hR]; exact (Nat.le_of_ble_eq_true rfl))⟩) hS hP (fun z114 H locs hz114 hP hS => ?_)
            obtain ⟨bz114, xpz114⟩ := hz114
            refine lv_istore (lv' := [(6, .int z114), (10, .int z102), (9, .int z93), (8, .int z72), (0, .ref p0), (1, .int p1), (2, .int p2), (3, .int p3), (4, .int z24), (5, .int v42_5), (7, .int v42_7)]) hx hb dX7_push_117 hl (by decide) rfl (fun ls hl => ?_)
            have h119 : ∀ σ : Sx, okF σ.1 → cmA Q I J p0 σ → z72.toInt = psX p2.toInt (stI p2.toInt p3.toInt) v42_5.toInt.toNat ∧ z93.toInt = psX p3.toInt (stI p2.toInt p3.toInt) v42_5.toInt.toNat ∧ (∀ o, hbt z102 o = true ↔ (gR (psC σ.1 p1.toInt.toNat p2.toInt p3.toInt v42_5.toInt.toNat) p1.toInt.toNat (psX p2.toInt (stI p2.toInt p3.toInt) v42_5.toInt.toNat) (psX p3.toInt (stI p2.toInt p3.toInt) v42_5.toInt.toNat)) o) ∧ (¬ z114.toInt = 0 ↔ psG σ.1 p1.toInt.toNat p2.toInt p3.toInt v42_5.toInt.toNat) := fun σ ok A0 => by obtain ⟨bd, gg, A, aF, o⟩ := ht42 σ ok A0; obtain ⟨hC, -, l, -⟩ := h39 σ ok A0; have hb : p1.toInt.toNat < (σ.1.1 1).toInt.toNat := (by have := hC.1; omega); have e7 : v42_7.toInt = v42_5.toInt + 1 := (by omega); have ek : ((v42_5.toInt.toNat : Nat) : Int) = v42_5.toInt := (by omega); have a := byF_i (k := v42_7) (d := p2) (n := z24) ⟨by omega, by omega⟩ ⟨by omega, by omega⟩ ⟨by omega, by omega⟩; have b := byF_i (k := z65) (d := p2) (n := z24) ⟨by omega, by omega⟩ ⟨by omega, by omega⟩ ⟨by omega, by omega⟩; have a2 := byF_i (k := v42_7) (d := p3) (n := z24) ⟨by omega, by omega⟩ ⟨by omega, by omega⟩ ⟨by omega, by omega⟩; have b2 := byF_i (k := z86) (d := p3) (n := z24) ⟨by omega, by omega⟩ ⟨by omega, by omega⟩ ⟨by omega, by omega⟩; rw [← show z59 = byF v42_7 p2 z24 from fez59, s24, e7] at a; rw [← show z69 = byF z65 p2 z24 from fez69, s24, show z65.toInt = v42_5.toInt by omega] at b; rw [← show z80 = byF v42_7 p3 z24 from fez80, s24, e7] at a2; rw [← show z90 = byF z86 p3 z24 from fez90, s24, show z86.toInt = v42_5.toInt by omega] at b2; have x72 : z72.toInt = psX p2.toInt (stI p2.toInt p3.toInt) v42_5.toInt.toNat := (by unfold psX; rw [ek, ← a, ← b]; omega); have x93 : z93.toInt = psX p3.toInt (stI p2.toInt p3.toInt) v42_5.toInt.toNat := (by unfold psX; rw [ek, ← a2, ← b2]; omega); have pk := psC_ok (b := p1.toInt.toNat) ok hC.2.1 hC.2.2 v42_5.toInt.toNat (by omega) (fun i hi => gg i (by omega)); have lp := ldA_sh pk.2 l; have S := xpz102 _ pk.1 (cmA_rI A) lp (psC_n hb) ⟨⟨by omega, by omega⟩, by omega, by omega⟩; have r := ps_116 x72 x93 S (xpz114.2 _ pk.1 (cmA_rI A) ⟨⟨by omega, by omega⟩, by omega, by omega⟩); exact ⟨x72, x93, r.1, r.2⟩
            refine lv_iconst (v := 0) hx hb dX7_push_119 (by decide +kernel) ?_
            refine lv_istore (lv' := [(11, .int 0), (6, .int z114), (10, .int z102), (9, .int z93), (8, .int z72), (0, .ref p0), (1, .int p1), (2, .int p2), (3, .int p3), (4, .int z24), (5, .int v42_5), (7, .int v42_7)]) hx hb dX7_push_120 hl (by decide) rfl (fun ls hl => ?_)
            have key122 := blocks (fun n => ∀ (v122_11 : Int32) (I122 : Nat → Nat → Int32) (H : Heap) (lo : List Loc) (ls : Array Slot), (11 - v122_11.toInt).toNat = n → ((0) ≤ v122_11.toInt ∧ v122_11.toInt ≤ 10) → Iv L K x0 m0 tx tm I122 → (∀ b, K b = 0 ∨ K b = 1 ∨ K b = 3 ∨ K b = 6 → I122 b = I b) → (¬ z114.toInt = 0 → cgO (I122 ((Q p0 0).getD 0)) (I42 ((Q p0 0).getD 0) 1).toInt z102 z72 z93 v122_11.toInt (I42 ((Q p0 0).getD 0) 1).toInt ∧ I122 ((Q p0 0).getD 0) 1 = I42 ((Q p0 0).getD 0) 1) → (∀ σ : Sx, okF σ.1 → cmA Q I J p0 σ → (¬ z114.toInt = 0 → v122_11.toInt.toNat ≤ (σ.1.1 1).toInt.toNat ∧ cmA Q I122 Jz36 p0 (mvJ (psC σ.1 p1.toInt.toNat p2.toInt p3.toInt v42_5.toInt.toNat) (gR (psC σ.1 p1.toInt.toNat p2.toInt p3.toInt v42_5.toInt.toNat) p1.toInt.toNat (psX p2.toInt (stI p2.toInt p3.toInt) v42_5.toInt.toNat) (psX p3.toInt (stI p2.toInt p3.toInt) v42_5.toInt.toNat)) z72 z93 (v122_11.toInt.toNat), σ.2)) ∧ (z114.toInt = 0 → cmA Q I122 Jz36 p0 ((psC σ.1 p1.toInt.toNat p2.toInt p3.toInt v42_5.toInt.toNat), σ.2)) ∧ isF I122 Jz36 (a0 Q p0 2) (a0 Q p0 7) 0 σ.1) → va_P (dC, dI) vwCl (Wd cs L K I122 Jz36 Q) H → va_S A s.heap H lo → lv_has ls 12 [(0, .ref p0), (1, .int p1), (2, .int p2), (3, .int p3), (4, .int z24), (5, .int v42_5), (6, .int z114), (7, .int v42_7), (8, .int z72), (9, .int z93), (10, .int z102), (11, .int v122_11)] → W p l e R s m (([.ref p0, .int p1, .int p2, .int p3] : List Value).toArray) below meth c H lo 0 0 Qz (F0 m 122 ls [])) (by
              intro n ih122
              intro v122_11 I122 H lo ls hmu122 bv122_11 hI122 dn_I122 h122 hq122 hP hS hl
              refine lv_iload hx hb dX7_push_122 (lv_at hl 11 rfl) ?_
              refine lv_aload_n hx hb dX7_push_124 rfl (lv_at hl 0 rfl) ?_
              obtain ⟨y125, ey125, hLy125, hKy125⟩ := oQ_7_0 (Sv_at hQ hLp0 hKp0)
              refine p_get (v := .ref y125) hx hb hts inX7 hown hK hP hLp0 hKp0 rfl rfl 0 (by decide) (hts _ pq1115) (congrArg (fun q => some (va_rf q)) ey125) dX7_push_125 ?_
              refine lv_iconst (v := 1) hx hb dX7_push_128 (by decide +kernel) ?_
              refine p_iald hx hb hK hP 8 hLy125 hKy125 rfl rfl (in_d (by decide +kernel)) dX7_push_129 ?_
              refine lv_topi (fun z129 ez129 => ?_)
              have bz129 := rng1 (oR_18 (i := (1 : Int32)) (k := (1)) (by decide +kernel) (Iv_at hI122 hLy125 hKy125))
              rw [← ez129] at bz129
              have j165 : ∀ (H : Heap) (lo : List Loc) (ls : Array Slot), (∀ σ : Sx, okF σ.1 → cmA Q I J p0 σ → (¬ z114.toInt = 0 → cmA Q I122 Jz36 p0 (psC σ.1 p1.toInt.toNat p2.toInt p3.toInt (v42_5.toInt.toNat + 1), σ.2)) ∧ (z114.toInt = 0 → cmA Q I122 Jz36 p0 ((psC σ.1 p1.toInt.toNat p2.toInt p3.toInt v42_5.toInt.toNat), σ.2))) → va_P (dC, dI) vwCl (Wd cs L K I122 Jz36 Q) H → va_S A s.heap H lo → lv_has ls 12 [(0, .ref p0), (1, .int p1), (2, .int p2), (3, .int p3), (4, .int z24), (5, .int v42_5), (6, .int z114), (7, .int v42_7), (8, .int z72), (9, .int z93), (10, .int z102), (11, .int v122_11)] → W p l e R s m (([.ref p0, .int p1, .int p2, .int p3] : List Value).toArray) below meth c H lo 0 0 Qz (F0 m 165 ls []) := by
                intro H lo ls hq165 hP hS hl
                refine lv_iload hx hb dX7_push_165 (lv_at hl 5 rfl) ?_
                refine lv_iload hx hb dX7_push_167 (lv_at hl 6 rfl) ?_
                refine ro_i (va_runS (As := [.int z114]) (rest := [.int v42_5]) ⟨hx, hb, hml, hown, hts⟩ (s_X7_truth l dC dI cs L K Q H.size I122 Jz36 z114) (va_cwS 1 hts (gS pq1257 pq1258 pq81 pq1259) rfl rfl rfl (by decide +kernel) ⟨(by rw [hR]; exact (Nat.le_of_ble_eq_true rfl)), (by rw [hR]; exact (Nat.le_of_ble_eq_true rfl))⟩) (sP_S hP hD hK hN) rfl rfl hl.1 rfl (lv_room (Nat.le_of_ble_eq_true rfl)) dX7_push_169 ⟨(by rw [hR]; exact (Nat.le_of_ble_eq_true rfl)), (by rw [hR]; exact (Nat.le_of_ble_eq_true rfl))⟩) hS hP (fun z169 H locs hz169 hP hS => ?_)
                obtain ⟨bz169, xpz169⟩ := hz169
                refine lv_iadd hx hb dX7_push_172 ?_
                refine lv_topi (fun z172 ez172 => ?_)
                have bz172 := tq_add (k := v42_5.toInt) (q := z169.toInt) ez172 rfl rfl (by omega) (by omega)
                refine lv_istore (lv' := [(5, .int z172), (0, .ref p0), (1, .int p1), (2, .int p2), (3, .int p3), (4, .int z24), (6, .int z114), (7, .int v42_7), (8, .int z72), (9, .int z93), (10, .int z102), (11, .int v122_11)]) hx hb dX7_push_173 hl (by decide) rfl (fun ls hl => ?_)
                obtain ⟨z175, ez175⟩ : ∃ y : Int32, y = v42_7 + 1 := ⟨_, rfl⟩
                refine lv_iinc (v := z175) (lv' := [(7, .int z175), (5, .int z172), (0, .ref p0), (1, .int p1), (2, .int p2), (3, .int p3), (4, .int z24), (6, .int z114), (8, .int z72), (9, .int z93), (10, .int z102), (11, .int v122_11)]) hx hb dX7_push_175 hl (k := 7) rfl (by rw [ez175]; rfl) (by decide) rfl (fun ls hl => ?_)
                have bz175 := tq_add (k := v42_7.toInt) (q := 1) ez175 rfl (by decide +kernel) (by omega) (by omega)
                refine lv_goto (tgt := 42) hx hb dX7_push_178 (by decide) ?_
                exact ih42 _ (by omega) z172 z114 z175 I122 _ _ _ rfl ⟨by omega, by omega⟩ ⟨by omega, by omega⟩ ⟨by omega, by omega⟩ hI122 dn_I122 ⟨by omega, by omega⟩ (fun σ ok A0 => by obtain ⟨bd, gg, -, -, o⟩ := ht42 σ ok A0; obtain ⟨x72, x93, S, cg⟩ := h119 σ ok A0; obtain ⟨q1, q2⟩ := hq165 σ ok A0; have aF := (hq122 σ ok A0).2.2; by_cases w : z114.toInt = 0; (have z0 := xpz169.1 w; rw [show z172.toInt.toNat = v42_5.toInt.toNat by omega]; exact ⟨⟨by omega, by omega⟩, fun i hi => gg i (by omega), q2 w, aF, Or.inr ⟨w, fun pg => cg.mpr pg w⟩⟩); (have z1 := xpz169.2 w; rw [show z172.toInt.toNat = v42_5.toInt.toNat + 1 by omega]; exact ⟨⟨by omega, by omega⟩, fun i hi => (by by_cases q : (i : Int) < v42_5.toInt; (exact gg i q); (rw [show i = v42_5.toInt.toNat by omega]; exact cg.mp w)), q1 w, aF, Or.inl ⟨w, by omega⟩⟩)) hP hS (lv_sub hl [2, 3, 4, 5, 6, 1, 7, 0] rfl)
              refine lv_icmp_ge (tgt := 165) hx hb dX7_push_130 (by decide) (fun c130 => ?_) (fun c130 => ?_)
              · have t130 := tq_le (k := z129.toInt) (q := v122_11.toInt) c130 rfl rfl
                exact j165  _ _ _ (fun σ ok A0 => by obtain ⟨q1, q2, q3⟩ := hq122 σ ok A0; refine ⟨fun w => ?_, q2⟩; obtain ⟨l, A⟩ := q1 w; obtain ⟨x72, x93, S, cg⟩ := h119 σ ok A0; have en := ps7_en A (z := z129) (by rw [ez129, show a0 Q p0 0 = y125 from gd_of ey125]; rfl); have ej : v122_11.toInt.toNat = (σ.1.1 1).toInt.toNat := (by rw [← en] at l ⊢; omega); rw [ej] at A; exact ps7_in x72 x93 A) hP hS (lv_sub hl [0, 1, 2, 3, 4, 5, 6, 7, 8, 9, 10, 11] rfl)
              · have t130 := tq_nle (k := z129.toInt) (q := v122_11.toInt) c130 rfl rfl
                refine lv_iload hx hb dX7_push_133 (lv_at hl 6 rfl) ?_
                refine lv_if_eq (tgt := 165) hx hb dX7_push_135 (by decide) (fun c135 => ?_) (fun c135 => ?_)
                · have t135 := tq_eq (k := z114.toInt) (q := (0)) c135 rfl (by decide +kernel)
                  exact j165  _ _ _ (fun σ ok A0 => by obtain ⟨q1, q2, q3⟩ := hq122 σ ok A0; exact ⟨fun w => absurd t135 w, q2⟩) hP hS (lv_sub hl [0, 1, 2, 3, 4, 5, 6, 7, 8, 9, 10, 11] rfl)
                · have t135 := tq_ne (k := z114.toInt) (q := (0)) c135 rfl (by decide +kernel)
                  refine lv_iload hx hb dX7_push_138 (lv_at hl 10 rfl) ?_
                  refine lv_iload hx hb dX7_push_140 (lv_at hl 11 rfl) ?_
                  refine lv_ishr hx hb dX7_push_142 ?_
                  refine lv_topi (fun z142 ez142 => ?_)
                  refine lv_iconst (v := 1) hx hb dX7_push_143 (by decide +kernel) ?_
                  refine lv_iand hx hb dX7_push_144 ?_
                  refine lv_topi (fun z144 ez144 => ?_)
                  have bz144 := tq_and 1 ez144 (by decide +kernel) (by decide)
                  refine lv_iconst (v := 1) hx hb dX7_push_145 (by decide +kernel) ?_
                  have j159 : ∀ (I159 : Nat → Nat → Int32) (H : Heap) (lo : List Loc) (ls : Array Slot), Iv L K x0 m0 tx tm I159 → (∀ b, K b = 0 ∨ K b = 1 ∨ K b = 3 ∨ K b = 6 → I159 b = I b) → (¬ z114.toInt = 0 → cgO (I159 ((Q p0 0).getD 0)) (I42 ((Q p0 0).getD 0) 1).toInt z102 z72 z93 (v122_11.toInt + 1) (I42 ((Q p0 0).getD 0) 1).toInt ∧ I159 ((Q p0 0).getD 0) 1 = I42 ((Q p0 0).getD 0) 1) → (∀ σ : Sx, okF σ.1 → cmA Q I J p0 σ → v122_11.toInt.toNat < (σ.1.1 1).toInt.toNat ∧ cmA Q I159 Jz36 p0 (mvJ (psC σ.1 p1.toInt.toNat p2.toInt p3.toInt v42_5.toInt.toNat) (gR (psC σ.1 p1.toInt.toNat p2.toInt p3.toInt v42_5.toInt.toNat) p1.toInt.toNat (psX p2.toInt (stI p2.toInt p3.toInt) v42_5.toInt.toNat) (psX p3.toInt (stI p2.toInt p3.toInt) v42_5.toInt.toNat)) z72 z93 (v122_11.toInt.toNat + 1), σ.2) ∧ isF I159 Jz36 (a0 Q p0 2) (a0 Q p0 7) 0 σ.1) → va_P (dC, dI) vwCl (Wd cs L K I159 Jz36 Q) H → va_S A s.heap H lo → lv_has ls 12 [(0, .ref p0), (1, .int p1), (2, .int p2), (3, .int p3), (4, .int z24), (5, .int v42_5), (6, .int z114), (7, .int v42_7), (8, .int z72), (9, .int z93), (10, .int z102), (11, .int v122_11)] → W p l e R s m (([.ref p0, .int p1, .int p2, .int p3] : List Value).toArray) below meth c H lo 0 0 Qz (F0 m 159 ls []) := by
                    intro I159 H lo ls hI159 dn_I159 h159 hq159 hP hS hl
                    obtain ⟨z159, ez159⟩ : ∃ y : Int32, y = v122_11 + 1 := ⟨_, rfl⟩
                    refine lv_iinc (v := z159) (lv' := [(11, .int z159), (0, .ref p0), (1, .int p1), (2, .int p2), (3, .int p3), (4, .int z24), (5, .int v42_5), (6, .int z114), (7, .int v42_7), (8, .int z72), (9, .int z93), (10, .int z102)]) hx hb dX7_push_159 hl (k := 11) rfl (by rw [ez159]; rfl) (by decide) rfl (fun ls hl => ?_)
                    have bz159 := tq_add (k := v122_11.toInt) (q := 1) ez159 rfl (by decide +kernel) (by omega) (by omega)
                    refine lv_goto (tgt := 122) hx hb dX7_push_162 (by decide) ?_
                    exact ih122 _ (by omega) z159 I159 _ _ _ rfl ⟨by omega, by omega⟩ hI159 dn_I159 (fun h => ⟨by rw [bz159]; exact (h159 h).1, (h159 h).2⟩) (fun σ ok A0 => by obtain ⟨q1, q2, q3⟩ := hq159 σ ok A0; rw [show z159.toInt.toNat = v122_11.toInt.toNat + 1 by omega]; exact ⟨fun _ => ⟨by omega, q2⟩, fun q => absurd q t135, q3⟩) hP hS (lv_sub hl [1, 2, 3, 4, 5, 6, 7, 8, 9, 10, 11, 0] rfl)
                  refine lv_icmp_ne (tgt := 159) hx hb dX7_push_146 (by decide) (fun c146 => ?_) (fun c146 => ?_)
                  · have t146 := tq_ne (k := z144.toInt) (q := (1)) c146 rfl (by decide +kernel)
                    exact j159 I122 _ _ _ hI122 dn_I122 (fun h => ⟨cgO_sk (h122 h).1 rfl, (h122 h).2⟩) (fun σ ok A0 => by obtain ⟨q1, -, q3⟩ := hq122 σ ok A0; obtain ⟨l, A⟩ := q1 t135; obtain ⟨x72, x93, S, cg⟩ := h119 σ ok A0; have en := ps7_en A (z := z129) (by rw [ez129, show a0 Q p0 0 = y125 from gd_of ey125]; rfl); have hN : v122_11.toInt.toNat < (σ.1.1 1).toInt.toNat := (by rw [← en]; omega); rw [mvJ_n (fun q => t146 ((hb_shr ez142 ez144 ⟨by omega, by omega⟩).1.mpr ((S _).mpr q)))]; exact ⟨hN, A, q3⟩) hP hS (lv_sub hl [0, 1, 2, 3, 4, 5, 6, 7, 8, 9, 10, 11] rfl)
                  · have t146 := tq_eq (k := z144.toInt) (q := (1)) c146 rfl (by decide +kernel)
                    refine lv_aload_n hx hb dX7_push_149 rfl (lv_at hl 0 rfl) ?_
                    refine lv_iload hx hb dX7_push_150 (lv_at hl 11 rfl) ?_
                    refine lv_iload hx hb dX7_push_152 (lv_at hl 8 rfl) ?_
                    refine lv_iload hx hb dX7_push_154 (lv_at hl 9 rfl) ?_
                    refine sw_v (Z := (fun I1 J1 => Iv L K x0 m0 tx tm I1 ∧ (∀ b, ¬ (K b = 18) → I1 b = I122 b) ∧ (I1 ((Q p0 0).getD 0) = gU (I122 ((Q p0 0).getD 0)) v122_11.toInt.toNat z72 z93) ∧ (∀ b, K b = 0 ∨ K b = 1 ∨ K b = 3 ∨ K b = 6 → I1 b = I122 b) ∧ (∀ σ : Sx, cmA Q I122 Jz36 p0 σ → cmA Q I1 J1 p0 (gC σ.1 v122_11.toInt.toNat z72 z93, σ.2)) ∧ J1 = Jz36)) (va_runV (As := [.int v122_11, .int z72, .int z93]) (rest := []) ⟨hx, hb, hml, hown, hts⟩ (s_X7_goes l dC dI cs L K G Q hQ x0 m0 tx tm H.size I122 Jz36 hI122 p0 hLp0 hKp0 v122_11 ⟨by omega, by omega⟩ z72 z93 (by have c := congrArg Int32.toInt ((show z129 = I122 ((Q p0 0).getD 0) 1 from by rw [ez129, ey125]; rfl).trans (h122 t135).2); exact gB_mono ((h122 t135).1 v122_11 (Int.le_refl _) (by omega) (by omega) (by rw [← ez142, ← ez144]; exact Int32.toInt_inj.mp (t146.trans (by decide +kernel)))) hBB.1)) (cwV 3 hts (gV pq1474 pq1476 pq48 pq81 pq1477) rfl rfl rfl (by decide +kernel) ⟨(by rw [hR]; exact (Nat.le_of_ble_eq_true rfl)), (by rw [hR]; exact (Nat.le_of_ble_eq_true rfl))⟩) (sP_V hP hD hK hN hLp0 hKp0 rfl rfl) rfl rfl hl.1 rfl (lv_room (Nat.le_of_ble_eq_true rfl)) dX7_push_156 ⟨(by rw [hR]; exact (Nat.le_of_ble_eq_true rfl)), (by rw [hR]; exact (Nat.le_of_ble_eq_true rfl))⟩) hS hAL hA (fun Iz156 Jz156 H locs hz156 hIz156 hP hS => ?_)
                    obtain ⟨hIz156, frc156, zp156, dnc156, jz156, djc156⟩ := hIz156
                    obtain rfl : Jz36 = Jz156 := djc156.symm
                    have dn_Iz156 : (∀ b, K b = 0 ∨ K b = 1 ∨ K b = 3 ∨ K b = 6 → Iz156 b = I b) := fun b hc => (dnc156 b (by omega)).trans (dn_I122 b hc)
                    exact j159 Iz156 _ _ _ hIz156 dn_Iz156 (fun h => ⟨cgO_go (h122 h).1 (by omega) rfl zp156, by rw [zp156, gU_ne (by omega) (by omega)]; exact (h122 h).2⟩) (fun σ ok A0 => by obtain ⟨q1, -, q3⟩ := hq122 σ ok A0; obtain ⟨l, A⟩ := q1 t135; obtain ⟨x72, x93, S, cg⟩ := h119 σ ok A0; have en := ps7_en A (z := z129) (by rw [ez129, show a0 Q p0 0 = y125 from gd_of ey125]; rfl); have hN : v122_11.toInt.toNat < (σ.1.1 1).toInt.toNat := (by rw [← en]; omega); rw [mvJ_y ((S _).mp ((hb_shr ez142 ez144 ⟨by omega, by omega⟩).1.mp t146))]; exact ⟨hN, jz156 _ A, isF_fr (frc156 _ (by have := (a_g hQ hLp0 hKp0).2.2.2.2.1; omega)) rfl q3⟩) hP hS (lv_sub hl [0, 1, 2, 3, 4, 5, 6, 7, 8, 9, 10, 11] rfl))
            exact key122 _ 0 I42 _ _ _ rfl ⟨by decide +kernel, by decide +kernel⟩ hI42 dn_I42 (fun h => ⟨by rw [show (0 : Int32).toInt = 0 from by decide +kernel]; exact xpz114.1 h, rfl⟩) (fun σ ok A0 => by obtain ⟨bd, gg, A, aF, o⟩ := ht42 σ ok A0; rw [show (0 : Int32).toInt.toNat = 0 from by decide +kernel, mvJ_0]; exact ⟨fun _ => ⟨Nat.zero_le _, A⟩, fun _ => A, aF⟩) hP hS (lv_sub hl [5, 6, 7, 8, 9, 10, 1, 11, 4, 3, 2, 0] rfl))
      exact key42 _ 0 1 1 Iz36 _ _ _ rfl ⟨by decide +kernel, by decide +kernel⟩ ⟨by decide +kernel, by decide +kernel⟩ ⟨by decide +kernel, by decide +kernel⟩ hIz36 dn_Iz36 ⟨by decide +kernel, by decide +kernel⟩ (fun σ ok A => by obtain ⟨hC, A2, l, aF⟩ := h39 σ ok A; rw [show (0 : Int32).toInt.toNat = 0 from by decide +kernel, psC_0]; exact ⟨⟨by decide +kernel, by rw [show (0 : Int32).toInt = 0 from by decide +kernel]; unfold stI; omega⟩, fun i hi => absurd hi (by rw [show (0 : Int32).toInt = 0 from by decide +kernel]; omega), A2, aF, Or.inl ⟨by decide +kernel, by decide +kernel⟩⟩) hP hS (lv_sub hl [4, 5, 6, 7, 3, 2, 1, 0] rfl)
    · have t13 := tq_eq (k := z10.toInt) (q := (0)) c13 rfl (by decide +kernel)
      refine lv_iconst (v := (-1)) hx hb dX7_push_16 (by decide +kernel) ?_
      subst hR; subst hQz
      exact W.iret (v := (-1)) hx hb hr (fun t ht hW => ⟨⟨(-1), (), rfl, (fun σ ok A => by have ec : I (a0 Q p0 0) 1 = σ.1.1 1 := cmA_n A (by decide); rw [ps_n (fun q => by unfold twC at q; rw [← ec] at q; first | exact xpz2.2 t5 q.1 | exact xpz10 t13 ⟨q.2.1, q.2.2⟩)]; show (-1 : Int32).toInt = -1; decide +kernel), ⟨I, J, ⟨hI, dn_I, (fun σ ok A => by have ec : I (a0 Q p0 0) 1 = σ.1.1 1 := cmA_n A (by decide); rw [ps_n (fun q => by unfold twC at q; rw [← ec] at q; first | exact xpz2.2 t5 q.1 | exact xpz10 t13 ⟨q.2.1, q.2.2⟩)]; exact A), dj_J⟩, by rw [ht]; exact hP⟩⟩, hS.F ht⟩) hS.2.2 dX7_push_17

set_option maxHeartbeats 4000000 in
set_option maxRecDepth 100000 in
theorem s_X7_falls (l : Launch) (dC : Nat → ClassId) (dI : Nat → Nat → Nat) (cs : Nat → ClassId) (L : List Nat) (K G : Nat → Nat) (Q : Nat → Nat → Option Nat) (hQ : Sv L K G Q) (x0 m0 : Nat) (tx : GT) (tm : GT × Int) (sz : Nat) (I : Nat → Nat → Int32) (J : Nat → Nat → Int64) (hI : Iv L K x0 m0 tx tm I) (p0 : Nat) (hLp0 : p0 ∈ L) (hKp0 : K p0 = 7) : Met l yX7_falls (.code yX7_falls cX7_falls 4 (some .int) :: pw) ({ frames := 8, cells := 0, slots := 0, locals := 199 }) (sP (dC, dI) cs [.ref p0] sz L K I J Q) (va_Qi (fun (r : Int32) (_ : Unit) => (∀ σ : Sx, okF σ.1 → cmA Q I J p0 σ → r.toInt = (faA σ).1)) (fun _ t => sB (dC, dI) cs L K Q (fun I1 J1 => Iv L K x0 m0 tx tm I1 ∧ (∀ b, K b = 0 ∨ K b = 1 ∨ K b = 3 ∨ K b = 6 → I1 b = I b) ∧ (∀ σ : Sx, okF σ.1 → cmA Q I J p0 σ → cmA Q I1 J1 p0 (faA σ).2) ∧ (∀ b, ¬ (K b = 22 ∨ K b = 25 ∨ K b = 33) → J1 b = J b)) t) (fun q => q ∈ L ∨ sz ≤ q)) 0 0 (fun q => q ∈ L ∨ sz ≤ q) := by
  refine Met.ofW (cc := cX7_falls) (maxL := 4) (ret := (some .int)) (by decide +kernel) rfl ?_
  intro p e s m args below meth c s₁ B hml hv
  obtain ⟨rfl, hsz, hP, hK, hD0, hN⟩ := hv
  have hx := B.exec
  have hb := B.bytes
  have hr := B.returns
  have hts := fun w (h : w ∈ pw) => atoms_spec (ws := Cond.code yX7_falls cX7_falls 4 (some .int) :: pw) B.pre w (List.mem_cons_of_mem _ h)
  have hown : s.vm.findClass RX7 = some m.cls := findClass_of_methodNamed B.named
  have hlocks := B.notSynchronized
  subst hsz
  have hBB : 999 ≤ tm.2 ∧ tm.2 ≤ 6000000 := hI.2.2.2.2.1
  have dn_I : (∀ b, K b = 0 ∨ K b = 1 ∨ K b = 3 ∨ K b = 6 → I b = I b) := fun _ _ => rfl
  have dj_J : (∀ b, ¬ (K b = 22 ∨ K b = 25 ∨ K b = 33) → J b = J b) := fun _ _ => rfl
  obtain ⟨A, hAe⟩ : ∃ A : Nat → Prop, A = (fun q => q ∈ L ∨ s.heap.size ≤ q) := ⟨_, rfl⟩
  rw [← hAe]
  have hAL : ∀ q, q ∈ L → A q := fun q h => by rw [hAe]; exact Or.inl h
  have hA : ∀ q, s.heap.size ≤ q → A q := fun q h => by rw [hAe]; exact Or.inr h
  have hD : ∀ F, va_D A (va_pl L F) := fun F => (hD0 F).weaken (fun k q hk _ => hAL _ (pl_mem hk))
  obtain ⟨H, hHe⟩ : ∃ H : Heap, H = s.heap := ⟨_, rfl⟩
  have hS : va_S A s.heap H [] := by rw [hHe]; exact va_S.rf
  rw [← hHe] at hP
  have hl := lv_entry ([.ref p0]) (n := 4) (Nat.le_of_ble_eq_true rfl)
  rw [lg_entry_eq]
  generalize (lg_sl ([.ref p0]) ++ List.replicate (4 - (lg_sl ([.ref p0])).length) Slot.unset).toArray = ls at hl ⊢
  have hl : lv_has ls 4 [(0, .ref p0)] := hl
  rw [← hHe]
  refine namedW (fun R Qz hR hQz => ?_)
  refine lv_aload_n hx hb dX7_falls_0 rfl (lv_at hl 0 rfl) ?_
  obtain ⟨y1, ey1, hLy1, hKy1⟩ := oQ_7_0 (Sv_at hQ hLp0 hKp0)
  refine p_get (v := .ref y1) hx hb hts inX7 hown hK hP hLp0 hKp0 rfl rfl 0 (by decide) (hts _ pq1115) (congrArg (fun q => some (va_rf q)) ey1) dX7_falls_1 ?_
  refine lv_iconst (v := 1) hx hb dX7_falls_4 (by decide +kernel) ?_
  refine p_iald hx hb hK hP 8 hLy1 hKy1 rfl rfl (in_d (by decide +kernel)) dX7_falls_5 ?_
  refine lv_topi (fun z5 ez5 => ?_)
  have bz5 := rng1 (oR_18 (i := (1 : Int32)) (k := (1)) (by decide +kernel) (Iv_at hI hLy1 hKy1))
  rw [← ez5] at bz5
  refine lv_if_ne (tgt := 11) hx hb dX7_falls_6 (by decide) (fun c6 => ?_) (fun c6 => ?_)
  · have t6 := tq_ne (k := z5.toInt) (q := (0)) c6 rfl (by decide +kernel)
    refine lv_aload_n hx hb dX7_falls_11 rfl (lv_at hl 0 rfl) ?_
    refine sw_v (Z := (fun I1 J1 => Iv L K x0 m0 tx tm I1 ∧ I1 = I ∧ (∀ c : Fx, okF c → rI Q I p0 c → rJ Q J p0 c → ldA Q J1 p0 c) ∧ (∀ b, ¬ (K b = 25) → J1 b = J b))) (va_runV (As := []) (rest := []) ⟨hx, hb, hml, hown, hts⟩ (s_X7_laysAll l dC dI cs L K G Q hQ x0 m0 tx tm H.size I J hI p0 hLp0 hKp0) (cwV 0 hts (gV pq1427 pq1429 pq40 pq81 pq1430) rfl rfl rfl (by decide +kernel) ⟨(by rw [hR]; exact (Nat.le_of_ble_eq_true rfl)), (by rw [hR]; exact (Nat.le_of_ble_eq_true rfl))⟩) (sP_V hP hD hK hN hLp0 hKp0 rfl rfl) rfl rfl hl.1 rfl (lv_room (Nat.le_of_ble_eq_true rfl)) dX7_falls_12 ⟨(by rw [hR]; exact (Nat.le_of_ble_eq_true rfl)), (by rw [hR]; exact (Nat.le_of_ble_eq_true rfl))⟩) hS hAL hA (fun Iz12 Jz12 H locs hz12 hIz12 hP hS => ?_)
    obtain ⟨hIz12, sm12, jz12, djc12⟩ := hIz12
    have dj_Jz12 : (∀ b, ¬ (K b = 22 ∨ K b = 25 ∨ K b = 33) → Jz12 b = J b) := fun b hc => (djc12 b (fun z => hc (by omega))).trans (dj_J b hc)
    obtain rfl : I = Iz12 := sm12.symm
    refine lv_aload_n hx hb dX7_falls_15 rfl (lv_at hl 0 rfl) ?_
    refine sw_v (Z := (fun I1 J1 => Iv L K x0 m0 tx tm I1 ∧ (∀ b, ¬ (K b = 30) → I1 b = I b) ∧ (∀ b, K b = 0 ∨ K b = 1 ∨ K b = 3 ∨ K b = 6 → I1 b = I b) ∧ (∀ c : Fx, isF I Jz12 (a0 Q p0 0) (a0 Q p0 5) 0 c → isF I1 J1 (a0 Q p0 2) (a0 Q p0 7) 0 c) ∧ (∀ b, ¬ (K b = 33) → J1 b = Jz12 b))) (va_runV (As := []) (rest := []) ⟨hx, hb, hml, hown, hts⟩ (s_X7_laysAside l dC dI cs L K G Q hQ x0 m0 tx tm H.size I Jz12 hI p0 hLp0 hKp0) (cwV 0 hts (gV pq1328 pq1330 pq27 pq81 pq1331) rfl rfl rfl (by decide +kernel) ⟨(by rw [hR]; exact (Nat.le_of_ble_eq_true rfl)), (by rw [hR]; exact (Nat.le_of_ble_eq_true rfl))⟩) (sP_V hP hD hK hN hLp0 hKp0 rfl rfl) rfl rfl hl.1 rfl (lv_room (Nat.le_of_ble_eq_true rfl)) dX7_falls_16 ⟨(by rw [hR]; exact (Nat.le_of_ble_eq_true rfl)), (by rw [hR]; exact (Nat.le_of_ble_eq_true rfl))⟩) hS hAL hA (fun Iz16 Jz16 H locs hz16 hIz16 hP hS => ?_)
    obtain ⟨hIz16, frc16, dnc16, jz16, djc16⟩ := hIz16
    have dj_Jz16 : (∀ b, ¬ (K b = 22 ∨ K b = 25 ∨ K b = 33) → Jz16 b = J b) := fun b hc => (djc16 b (fun z => hc (by omega))).trans (dj_Jz12 b hc)
    have dn_Iz16 : (∀ b, K b = 0 ∨ K b = 1 ∨ K b = 3 ∨ K b = 6 → Iz16 b = I b) := fun b hc => (dnc16 b (by omega)).trans (dn_I b hc)
    have h19 : ∀ σ : Sx, okF σ.1 → cmA Q I J p0 σ → cmA Q Iz16 Jz16 p0 σ ∧ ldA Q Jz16 p0 σ.1 ∧ isF Iz16 Jz16 (a0 Q p0 2) (a0 Q p0 7) 0 σ.1 ∧ ¬ (σ.1.1 1).toInt = 0 := fun σ ok A => by have l := jz12 σ.1 ok (cmA_rI A) (cmA_rJ A); have A1 := cmA_fr (I1 := I) (J1 := Jz12) hQ hLp0 hKp0 (fun _ _ => rfl) (fun b hb => djc12 b (by omega)) rfl A; have A2 := cmA_fr (I1 := Iz16) (J1 := Jz16) hQ hLp0 hKp0 (fun b hb => frc16 b (by omega)) (fun b hb => djc16 b (by omega)) (congrFun (frc16 p0 (by omega)) 11) A1; exact ⟨A2, ldA_fr (djc16 _ (by rw [ld_k hQ hLp0 hKp0]; decide)) l, jz16 σ.1 A1.1, by rw [← show z5 = σ.1.1 1 from (show z5 = I (a0 Q p0 0) 1 from by rw [ez5, show a0 Q p0 0 = y1 from gd_of ey1]; rfl).trans (cmA_n A (by decide))]; exact t6⟩
    refine lv_iconst (v := 0) hx hb dX7_falls_19 (by decide +kernel) ?_
    refine lv_istore_n (lv' := [(1, .int 0), (0, .ref p0)]) hx hb dX7_falls_20 rfl hl (by decide) rfl (fun ls hl => ?_)
    refine lv_iconst (v := 1) hx hb dX7_falls_21 (by decide +kernel) ?_
    refine lv_istore_n (lv' := [(2, .int 1), (1, .int 0), (0, .ref p0)]) hx hb dX7_falls_22 rfl hl (by decide) rfl (fun ls hl => ?_)
    have key23 := blocks (fun n => ∀ (v23_1 : Int32) (v23_2 : Int32) (I23 : Nat → Nat → Int32) (H : Heap) (lo : List Loc) (ls : Array Slot), 2 * (fM tm.2 (I23 ((Q p0 0).getD 0))).toNat + v23_2.toInt.toNat = n → ((0) ≤ v23_2.toInt ∧ v23_2.toInt ≤ 3000) → Iv L K x0 m0 tx tm I23 → (∀ b, K b = 0 ∨ K b = 1 ∨ K b = 3 ∨ K b = 6 → I23 b = I b) → (∀ σ : Sx, okF σ.1 → cmA Q I J p0 σ → ∃ k : Nat, v23_1.toInt = (fK (σ.1.1 1).toInt.toNat k (σ.1, 0)).2 ∧ cmA Q I23 Jz16 p0 ((fK (σ.1.1 1).toInt.toNat k (σ.1, 0)).1, σ.2) ∧ ((k = 0 ∧ v23_2.toInt = 1) ∨ ∃ i : Nat, k = i + 1 ∧ fGo σ.1 i ∧ v23_2.toInt + (fK (σ.1.1 1).toInt.toNat i (σ.1, 0)).2 = (fK (σ.1.1 1).toInt.toNat k (σ.1, 0)).2)) → (∀ σ : Sx, okF σ.1 → cmA Q I J p0 σ → isF I23 Jz16 (a0 Q p0 2) (a0 Q p0 7) 0 σ.1) → va_P (dC, dI) vwCl (Wd cs L K I23 Jz16 Q) H → va_S A s.heap H lo → lv_has ls 4 [(0, .ref p0), (1, .int v23_1), (2, .int v23_2)] → W p l e R s m (([.ref p0] : List Value).toArray) below meth c H lo 0 0 Qz (F0 m 23 ls [])) (by
      intro n ih23
      intro v23_1 v23_2 I23 H lo ls hmu23 bv23_2 hI23 dn_I23 ht23 ha23 hP hS hl
      have n23 := fM_nn (Iv_at hI23 (nw_of hQ hLp0 hKp0).1 (nw_of hQ hLp0 hKp0).2)
      refine lv_iload_n hx hb dX7_falls_23 rfl (lv_at hl 2 rfl) ?_
      refine lv_if_le (tgt := 66) hx hb dX7_falls_24 (by decide) (fun c24 => ?_) (fun c24 => ?_)
      · have t24 := tq_le (k := v23_2.toInt) (q := (0)) c24 rfl (by decide +kernel)
        have h66 : ∀ σ : Sx, okF σ.1 → cmA Q I J p0 σ → v23_1.toInt = (faE σ.1).2 ∧ cmA Q I23 Jz16 p0 ((faE σ.1).1, σ.2) := fun σ ok A0 => by obtain ⟨k, e, A, o⟩ := ht23 σ ok A0; rw [fa7_e o (by omega)]; exact ⟨e, A⟩
        refine lv_iload_n hx hb dX7_falls_66 rfl (lv_at hl 1 rfl) ?_
        refine lv_if_ne (tgt := 73) hx hb dX7_falls_67 (by decide) (fun c67 => ?_) (fun c67 => ?_)
        · have t67 := tq_ne (k := v23_1.toInt) (q := (0)) c67 rfl (by decide +kernel)
          refine lv_aload_n hx hb dX7_falls_73 rfl (lv_at hl 0 rfl) ?_
          refine sw_v (Z := (fun I1 J1 => Iv L K x0 m0 tx tm I1 ∧ (∀ b, ¬ (K b = 7 ∨ K b = 19) → I1 b = I23 b) ∧ (∀ b, K b = 0 ∨ K b = 1 ∨ K b = 3 ∨ K b = 6 → I1 b = I23 b) ∧ (∀ (σ : Sx) (c : Fx), cmA Q I23 Jz16 p0 σ → isF I23 Jz16 (a0 Q p0 2) (a0 Q p0 7) 0 c → cmA Q I1 J1 p0 (morc (shf σ) c)) ∧ (∀ b, ¬ (K b = 22) → J1 b = Jz16 b))) (va_runV (As := []) (rest := []) ⟨hx, hb, hml, hown, hts⟩ (s_X7_remembersAside l dC dI cs L K G Q hQ x0 m0 tx tm H.size I23 Jz16 hI23 p0 hLp0 hKp0) (cwV 0 hts (gV pq1332 pq1334 pq28 pq81 pq1335) rfl rfl rfl (by decide +kernel) ⟨(by rw [hR]; exact (Nat.le_of_ble_eq_true rfl)), (by rw [hR]; exact (Nat.le_of_ble_eq_true rfl))⟩) (sP_V hP hD hK hN hLp0 hKp0 rfl rfl) rfl rfl hl.1 rfl (lv_room (Nat.le_of_ble_eq_true rfl)) dX7_falls_74 ⟨(by rw [hR]; exact (Nat.le_of_ble_eq_true rfl)), (by rw [hR]; exact (Nat.le_of_ble_eq_true rfl))⟩) hS hAL hA (fun Iz74 Jz74 H locs hz74 hIz74 hP hS => ?_)
          obtain ⟨hIz74, frc74, dnc74, jz74, djc74⟩ := hIz74
          have dj_Jz74 : (∀ b, ¬ (K b = 22 ∨ K b = 25 ∨ K b = 33) → Jz74 b = J b) := fun b hc => (djc74 b (fun z => hc (by omega))).trans (dj_Jz16 b hc)
          have dn_Iz74 : (∀ b, K b = 0 ∨ K b = 1 ∨ K b = 3 ∨ K b = 6 → Iz74 b = I b) := fun b hc => (dnc74 b (by omega)).trans (dn_I23 b hc)
          refine lv_iload_n hx hb dX7_falls_77 rfl (lv_at hl 1 rfl) ?_
          subst hR; subst hQz
          exact W.iret (v := v23_1) hx hb hr (fun t ht hW => ⟨⟨v23_1, (), rfl, (fun σ ok A => by have w := h66 σ ok A; rw [fa_y (h19 σ ok A).2.2.2 (by rw [← w.1]; omega)]; exact w.1), ⟨Iz74, Jz74, ⟨hIz74, dn_Iz74, (fun σ ok A => by have w := h66 σ ok A; rw [fa_y (h19 σ ok A).2.2.2 (by rw [← w.1]; omega)]; have B := jz74 _ _ w.2 (ha23 σ ok A); rw [rem_as] at B; exact B), dj_Jz74⟩, by rw [ht]; exact hP⟩⟩, hS.F ht⟩) hS.2.2 dX7_falls_78
        · have t67 := tq_eq (k := v23_1.toInt) (q := (0)) c67 rfl (by decide +kernel)
          refine lv_bipush (v := (-2)) hx hb dX7_falls_70 (by decide +kernel) ?_
          subst hR; subst hQz
          exact W.iret (v := (-2)) hx hb hr (fun t ht hW => ⟨⟨(-2), (), rfl, (fun σ ok A => by have w := h66 σ ok A; rw [fa_e (h19 σ ok A).2.2.2 (by rw [← w.1]; omega)]; show (-2 : Int32).toInt = -2; decide +kernel), ⟨I23, Jz16, ⟨hI23, dn_I23, (fun σ ok A => by have w := h66 σ ok A; have z0 : (faE σ.1).2 = 0 := (by rw [← w.1]; omega); rw [fa_e (h19 σ ok A).2.2.2 z0]; have B := w.2; rw [faE_0 z0] at B; exact B), dj_Jz16⟩, by rw [ht]; exact hP⟩⟩, hS.F ht⟩) hS.2.2 dX7_falls_72
      · have t24 := tq_nle (k := v23_2.toInt) (q := (0)) c24 rfl (by decide +kernel)
        refine lv_iconst (v := 0) hx hb dX7_falls_27 (by decide +kernel) ?_
        refine lv_istore_n (lv' := [(2, .int 0), (0, .ref p0), (1, .int v23_1)]) hx hb dX7_falls_28 rfl hl (by decide) rfl (fun ls hl => ?_)
        refine lv_iconst (v := 0) hx hb dX7_falls_29 (by decide +kernel) ?_
        refine lv_istore_n (lv' := [(3, .int 0), (2, .int 0), (0, .ref p0), (1, .int v23_1)]) hx hb dX7_falls_30 rfl hl (by decide) rfl (fun ls hl => ?_)
        have key31 := blocks (fun n => ∀ (v31_2 : Int32) (v31_3 : Int32) (I31 : Nat → Nat → Int32) (H : Heap) (lo : List Loc) (ls : Array Slot), (11 - v31_3.toInt).toNat = n → ((0) ≤ v31_2.toInt ∧ v31_2.toInt ≤ 3000) → ((0) ≤ v31_3.toInt ∧ v31_3.toInt ≤ 10) → Iv L K x0 m0 tx tm I31 → (∀ b, K b = 0 ∨ K b = 1 ∨ K b = 3 ∨ K b = 6 → I31 b = I b) → (fM tm.2 (I31 ((Q p0 0).getD 0)) + v31_2.toInt = fM tm.2 (I23 ((Q p0 0).getD 0)) ∧ v31_2.toInt ≤ 300 * v31_3.toInt) → (∀ σ : Sx, okF σ.1 → cmA Q I J p0 σ → ∃ k : Nat, fGo σ.1 k ∧ v31_3.toInt.toNat ≤ (σ.1.1 1).toInt.toNat ∧ v23_1.toInt = (fK (σ.1.1 1).toInt.toNat k (σ.1, 0)).2 ∧ v31_2.toInt + v23_1.toInt = (fR v31_3.toInt.toNat (fK (σ.1.1 1).toInt.toNat k (σ.1, 0))).2 ∧ cmA Q I31 Jz16 p0 ((fR v31_3.toInt.toNat (fK (σ.1.1 1).toInt.toNat k (σ.1, 0))).1, σ.2)) → (∀ σ : Sx, okF σ.1 → cmA Q I J p0 σ → isF I31 Jz16 (a0 Q p0 2) (a0 Q p0 7) 0 σ.1) → va_P (dC, dI) vwCl (Wd cs L K I31 Jz16 Q) H → va_S A s.heap H lo → lv_has ls 4 [(0, .ref p0), (1, .int v23_1), (2, .int v31_2), (3, .int v31_3)] → W p l e R s m (([.ref p0] : List Value).toArray) below meth c H lo 0 0 Qz (F0 m 31 ls [])) (by
          intro n ih31
          intro v31_2 v31_3 I31 H lo ls hmu31 bv31_2 bv31_3 hI31 dn_I31 h31 ht31 ha31 hP hS hl
          refine lv_iload_n hx hb dX7_falls_31 rfl (lv_at hl 3 rfl) ?_
          refine lv_aload_n hx hb dX7_falls_32 rfl (lv_at hl 0 rfl) ?_
          refine p_get (v := .ref y1) hx hb hts inX7 hown hK hP hLp0 hKp0 rfl rfl 0 (by decide) (hts _ pq1115) (congrArg (fun q => some (va_rf q)) ey1) dX7_falls_33 ?_
          refine lv_iconst (v := 1) hx hb dX7_falls_36 (by decide +kernel) ?_
          refine p_iald hx hb hK hP 8 hLy1 hKy1 rfl rfl (in_d (by decide +kernel)) dX7_falls_37 ?_
          refine lv_topi (fun z37 ez37 => ?_)
          have bz37 := rng1 (oR_18 (i := (1 : Int32)) (k := (1)) (by decide +kernel) (Iv_at hI31 hLy1 hKy1))
          rw [← ez37] at bz37
          refine lv_icmp_ge (tgt := 59) hx hb dX7_falls_38 (by decide) (fun c38 => ?_) (fun c38 => ?_)
          · have t38 := tq_le (k := z37.toInt) (q := v31_3.toInt) c38 rfl rfl
            have n31 := fM_nn (Iv_at hI31 (nw_of hQ hLp0 hKp0).1 (nw_of hQ hLp0 hKp0).2)
            refine lv_iload_n hx hb dX7_falls_59 rfl (lv_at hl 1 rfl) ?_
            refine lv_iload_n hx hb dX7_falls_60 rfl (lv_at hl 2 rfl) ?_
            refine lv_iadd hx hb dX7_falls_61 ?_
            refine lv_topi (fun z61 ez61 => ?_)
            refine lv_istore_n (lv' := [(1, .int z61), (0, .ref p0), (2, .int v31_2), (3, .int v31_3)]) hx hb dX7_falls_62 rfl hl (by decide) rfl (fun ls hl => ?_)
            refine lv_goto (tgt := 23) hx hb dX7_falls_63 (by decide) ?_
            exact ih23 _ (by omega) z61 v31_2 I31 _ _ _ rfl ⟨by omega, by omega⟩ hI31 dn_I31 (fun σ ok A0 => by obtain ⟨k, g, l, e1, e2, A⟩ := ht31 σ ok A0; have en := fa7_en A (z := z37) (by rw [ez37, show a0 Q p0 0 = y1 from gd_of ey1]; rfl); have ej : v31_3.toInt.toNat = (σ.1.1 1).toInt.toNat := (by rw [← en] at l ⊢; omega); rw [ej] at e2 A; have b1 := fK_bd ok k; have b2 := fK_nn (c := σ.1) (N := (σ.1.1 1).toInt.toNat) (k := k); have s := tq_add (k := v23_1.toInt) (q := v31_2.toInt) ez61 rfl rfl (by omega) (by omega); exact ⟨k + 1, by rw [s, fK_s]; omega, by rw [fK_s]; exact A, Or.inr ⟨k, rfl, g, by rw [fK_s]; omega⟩⟩) ha31 hP hS (lv_sub hl [1, 0, 2] rfl)
          · have t38 := tq_nle (k := z37.toInt) (q := v31_3.toInt) c38 rfl rfl
            refine lv_iload_n hx hb dX7_falls_41 rfl (lv_at hl 2 rfl) ?_
            refine lv_aload_n hx hb dX7_falls_42 rfl (lv_at hl 0 rfl) ?_
            refine lv_iload_n hx hb dX7_falls_43 rfl (lv_at hl 3 rfl) ?_
            refine lv_iconst (v := 0) hx hb dX7_falls_44 (by decide +kernel) ?_
            refine lv_sipush (v := 200) hx hb dX7_falls_45 (by decide +kernel) ?_
            refine sw_ir (Z := (fun u => (fun I1 J1 => Iv L K x0 m0 tx tm I1 ∧ (∀ b, ¬ (K b = 7 ∨ K b = 18) → I1 b = I31 b) ∧ I1 p0 11 = I31 p0 11 ∧ (fM tm.2 (I1 ((Q p0 0).getD 0)) + u.toInt = fM tm.2 (I31 ((Q p0 0).getD 0))) ∧ (∀ b, K b = 0 ∨ K b = 1 ∨ K b = 3 ∨ K b = 6 → I1 b = I31 b) ∧ (∀ σ : Sx, okF σ.1 → cmA Q I31 Jz16 p0 σ → ldA Q Jz16 p0 σ.1 → v31_3.toInt.toNat < (σ.1.1 1).toInt.toNat → cmA Q I1 J1 p0 (slC σ.1 v31_3.toInt.toNat (0 : Int32).toInt (200 : Int32).toInt, σ.2)) ∧ J1 = Jz16))) (va_runV (As := [.int v31_3, .int 0, .int 200]) (rest := [.int v31_2]) ⟨hx, hb, hml, hown, hts⟩ (s_X7_slidesNowF l dC dI cs L K G Q hQ x0 m0 tx tm H.size I31 Jz16 hI31 p0 hLp0 hKp0 v31_3 ⟨by omega, by omega⟩ 0 ⟨by decide +kernel, by decide +kernel⟩ 200 ⟨by decide +kernel, by decide +kernel⟩) (cwV 3 hts (gV pq1498 pq1500 pq52 pq81 pq1501) rfl rfl rfl (by decide +kernel) ⟨(by rw [hR]; exact (Nat.le_of_ble_eq_true rfl)), (by rw [hR]; exact (Nat.le_of_ble_eq_true rfl))⟩) (sP_V hP hD hK hN hLp0 hKp0 rfl rfl) rfl rfl hl.1 rfl (lv_room (Nat.le_of_ble_eq_true rfl)) dX7_falls_48 ⟨(by rw [hR]; exact (Nat.le_of_ble_eq_true rfl)), (by rw [hR]; exact (Nat.le_of_ble_eq_true rfl))⟩) hS hAL hA (fun z48 Iz48 Jz48 H locs hz48 hIz48 hP hS => ?_)
            obtain ⟨hIz48, frc48, kc48_0_11, zr48, dnc48, jz48, djc48⟩ := hIz48
            obtain rfl : Jz16 = Jz48 := djc48.symm
            have dn_Iz48 : (∀ b, K b = 0 ∨ K b = 1 ∨ K b = 3 ∨ K b = 6 → Iz48 b = I b) := fun b hc => (dnc48 b (by omega)).trans (dn_I31 b hc)
            have cst48_0 : (0 : Int32).toInt = 0 := by decide +kernel
            have cst48_200 : (200 : Int32).toInt = 200 := by decide +kernel
            obtain ⟨bz48, xpz48⟩ := hz48
            try rw [cst48_0] at xpz48
            try rw [cst48_200] at xpz48
            refine lv_iadd hx hb dX7_falls_51 ?_
            refine lv_topi (fun z51 ez51 => ?_)
            have bz51 := tq_add (k := v31_2.toInt) (q := z48.toInt) ez51 rfl rfl (by omega) (by omega)
            refine lv_istore_n (lv' := [(2, .int z51), (0, .ref p0), (1, .int v23_1), (3, .int v31_3)]) hx hb dX7_falls_52 rfl hl (by decide) rfl (fun ls hl => ?_)
            obtain ⟨z53, ez53⟩ : ∃ y : Int32, y = v31_3 + 1 := ⟨_, rfl⟩
            refine lv_iinc (v := z53) (lv' := [(3, .int z53), (2, .int z51), (0, .ref p0), (1, .int v23_1)]) hx hb dX7_falls_53 hl (k := 3) rfl (by rw [ez53]; rfl) (by decide) rfl (fun ls hl => ?_)
            have bz53 := tq_add (k := v31_3.toInt) (q := 1) ez53 rfl (by decide +kernel) (by omega) (by omega)
            refine lv_goto (tgt := 31) hx hb dX7_falls_56 (by decide) ?_
            exact ih31 _ (by omega) z51 z53 Iz48 _ _ _ rfl ⟨by omega, by omega⟩ ⟨by omega, by omega⟩ hIz48 dn_Iz48 ⟨by omega, by omega⟩ (fun σ ok A0 => by obtain ⟨k, g, l, e1, e2, A⟩ := ht31 σ ok A0; have en := fa7_en A (z := z37) (by rw [ez37, show a0 Q p0 0 = y1 from gd_of ey1]; rfl); have hj : v31_3.toInt.toNat < (σ.1.1 1).toInt.toNat := (by rw [← en]; omega); have o := fP_ok ok (k := k) (j := v31_3.toInt.toNat) (by omega); have W := fa_48 o.1 (fP_n hj) A (ldA_sh o.2 (h19 σ ok A0).2.1) xpz48 jz48; rw [show z53.toInt.toNat = v31_3.toInt.toNat + 1 by omega]; exact ⟨k, g, by omega, e1, by rw [W.1, ← e2]; omega, W.2⟩) (fun σ ok A => isF_fr (frc48 _ (by have := (a_g hQ hLp0 hKp0).2.2.2.2.1; omega)) rfl (ha31 σ ok A)) hP hS (lv_sub hl [2, 3, 1, 0] rfl))
        exact key31 _ 0 0 I23 _ _ _ rfl ⟨by decide +kernel, by decide +kernel⟩ ⟨by decide +kernel, by decide +kernel⟩ hI23 dn_I23 ⟨by rw [show (0 : Int32).toInt = 0 from by decide +kernel]; omega, by rw [show (0 : Int32).toInt = 0 from by decide +kernel]; omega⟩ (fun σ ok A0 => by obtain ⟨k, e, A, o⟩ := ht23 σ ok A0; rw [show (0 : Int32).toInt.toNat = 0 from by decide +kernel, show (0 : Int32).toInt = 0 from by decide +kernel]; exact ⟨k, fa7_k o (by omega), Nat.zero_le _, e, by rw [fR_0, e]; omega, by rw [fR_0]; exact A⟩) ha23 hP hS (lv_sub hl [2, 3, 1, 0] rfl))
    exact key23 _ 0 1 Iz16 _ _ _ rfl ⟨by decide +kernel, by decide +kernel⟩ hIz16 dn_Iz16 (fun σ ok A => ⟨0, by rw [fK_0, show (0 : Int32).toInt = 0 from by decide +kernel], by rw [fK_0]; exact (h19 σ ok A).1, Or.inl ⟨rfl, by decide +kernel⟩⟩) (fun σ ok A => (h19 σ ok A).2.2.1) hP hS (lv_sub hl [2, 1, 0] rfl)
  · have t6 := tq_eq (k := z5.toInt) (q := (0)) c6 rfl (by decide +kernel)
    refine lv_iconst (v := (-1)) hx hb dX7_falls_9 (by decide +kernel) ?_
    subst hR; subst hQz
    exact W.iret (v := (-1)) hx hb hr (fun t ht hW => ⟨⟨(-1), (), rfl, (fun σ ok A => by have ec : z5 = σ.1.1 1 := (show z5 = I (a0 Q p0 0) 1 from by rw [ez5, show a0 Q p0 0 = y1 from gd_of ey1]; rfl).trans (cmA_n A (by decide)); rw [fa_n (by rw [← ec]; exact t6)]; show (-1 : Int32).toInt = -1; decide +kernel), ⟨I, J, ⟨hI, dn_I, (fun σ ok A => by have ec : z5 = σ.1.1 1 := (show z5 = I (a0 Q p0 0) 1 from by rw [ez5, show a0 Q p0 0 = y1 from gd_of ey1]; rfl).trans (cmA_n A (by decide)); rw [fa_n (by rw [← ec]; exact t6)]; exact A), dj_J⟩, by rw [ht]; exact hP⟩⟩, hS.F ht⟩) hS.2.2 dX7_falls_10

set_option maxHeartbeats 4000000 in
set_option maxRecDepth 100000 in
theorem s_X7_reaches (l : Launch) (dC : Nat → ClassId) (dI : Nat → Nat → Nat) (cs : Nat → ClassId) (L : List Nat) (K G : Nat → Nat) (Q : Nat → Nat → Option Nat) (hQ : Sv L K G Q) (x0 m0 : Nat) (tx : GT) (tm : GT × Int) (sz : Nat) (I : Nat → Nat → Int32) (J : Nat → Nat → Int64) (hI : Iv L K x0 m0 tx tm I) (p0 : Nat) (hLp0 : p0 ∈ L) (hKp0 : K p0 = 7) (p1 : Int32) (bp1 : (0) ≤ p1.toInt ∧ p1.toInt ≤ 7) : Met l yX7_reaches (.code yX7_reaches cX7_reaches 5 (some .boolean) :: pw) ({ frames := 2, cells := 0, slots := 0, locals := 48 }) (sP (dC, dI) cs [.ref p0, .int p1] sz L K I J Q) (va_Qi (fun (r : Int32) (u : Int32) => u = r ∧ ((0) ≤ r.toInt ∧ r.toInt ≤ 1)) (fun u t => sB (dC, dI) cs L K Q (fun I1 J1 => Iv L K x0 m0 tx tm I1 ∧ (∀ b, ¬ (K b = 26) → I1 b = I b) ∧ rcI (hs (rW Q I p0 p1.toInt.toNat) (rH Q I p0 p1.toInt.toNat) (rF Q J p0 p1.toInt.toNat)) u.toInt ((I1 (a0 Q p0 20) 0).toInt, (I1 (a0 Q p0 20) 1).toInt, (I1 (a0 Q p0 20) 2).toInt, (I1 (a0 Q p0 20) 3).toInt) ∧ (∀ b, K b = 0 ∨ K b = 1 ∨ K b = 3 ∨ K b = 6 → I1 b = I b) ∧ J1 = J) t) (fun q => q ∈ L ∨ sz ≤ q)) 0 0 (fun q => q ∈ L ∨ sz ≤ q) := by
  refine Met.ofW (cc := cX7_reaches) (maxL := 5) (ret := (some .boolean)) (by decide +kernel) rfl ?_
  intro p e s m args below meth c s₁ B hml hv
  obtain ⟨rfl, hsz, hP, hK, hD0, hN⟩ := hv
  have hx := B.exec
  have hb := B.bytes
  have hr := B.returns
  have hts := fun w (h : w ∈ pw) => atoms_spec (ws := Cond.code yX7_reaches cX7_reaches 5 (some .boolean) :: pw) B.pre w (List.mem_cons_of_mem _ h)
  have hown : s.vm.findClass RX7 = some m.cls := findClass_of_methodNamed B.named
  have hlocks := B.notSynchronized
  subst hsz
  have hBB : 999 ≤ tm.2 ∧ tm.2 ≤ 6000000 := hI.2.2.2.2.1
  have dn_I : (∀ b, K b = 0 ∨ K b = 1 ∨ K b = 3 ∨ K b = 6 → I b = I b) := fun _ _ => rfl
  have dj_J : J = J := rfl
  have fr_I : ∀ b, ¬ (K b = 26) → I b = I b := fun _ _ => rfl
  obtain ⟨A, hAe⟩ : ∃ A : Nat → Prop, A = (fun q => q ∈ L ∨ s.heap.size ≤ q) := ⟨_, rfl⟩
  rw [← hAe]
  have hAL : ∀ q, q ∈ L → A q := fun q h => by rw [hAe]; exact Or.inl h
  have hA : ∀ q, s.heap.size ≤ q → A q := fun q h => by rw [hAe]; exact Or.inr h
  have hD : ∀ F, va_D A (va_pl L F) := fun F => (hD0 F).weaken (fun k q hk _ => hAL _ (pl_mem hk))
  obtain ⟨H, hHe⟩ : ∃ H : Heap, H = s.heap := ⟨_, rfl⟩
  have hS : va_S A s.heap H [] := by rw [hHe]; exact va_S.rf
  rw [← hHe] at hP
  have hl := lv_entry ([.ref p0, .int p1]) (n := 5) (Nat.le_of_ble_eq_true rfl)
  rw [lg_entry_eq]
  generalize (lg_sl ([.ref p0, .int p1]) ++ List.replicate (5 - (lg_sl ([.ref p0, .int p1])).length) Slot.unset).toArray = ls at hl ⊢
  have hl : lv_has ls 5 [(0, .ref p0), (1, .int p1)] := hl
  rw [← hHe]
  refine namedW (fun R Qz hR hQz => ?_)
  have n16 : ∀ I2 : Nat → Nat → Int32, (∀ b, ¬ (K b = 26) → I2 b = I b) → ∀ k, I2 (a0 Q p0 0) k = I (a0 Q p0 0) k := fun I2 f k => by rw [f _ (by have := (a_g hQ hLp0 hKp0).1.1; omega)]
  refine lv_iconst (v := 0) hx hb dX7_reaches_0 (by decide +kernel) ?_
  refine lv_istore_n (lv' := [(2, .int 0), (0, .ref p0), (1, .int p1)]) hx hb dX7_reaches_1 rfl hl (by decide) rfl (fun ls hl => ?_)
  refine lv_iconst (v := 0) hx hb dX7_reaches_2 (by decide +kernel) ?_
  refine lv_istore_n (lv' := [(3, .int 0), (2, .int 0), (0, .ref p0), (1, .int p1)]) hx hb dX7_reaches_3 rfl hl (by decide) rfl (fun ls hl => ?_)
  have key4 := blocks (fun n => ∀ (v4_2 : Int32) (v4_3 : Int32) (I4 : Nat → Nat → Int32) (H : Heap) (lo : List Loc) (ls : Array Slot), (41 - v4_3.toInt).toNat = n → ((0) ≤ v4_2.toInt ∧ v4_2.toInt ≤ 1) → ((0) ≤ v4_3.toInt ∧ v4_3.toInt ≤ 40) → Iv L K x0 m0 tx tm I4 → (∀ b, ¬ (K b = 26) → I4 b = I b) → (∀ b, K b = 0 ∨ K b = 1 ∨ K b = 3 ∨ K b = 6 → I4 b = I b) → rcI (ahD (hs (rW Q I p0 p1.toInt.toNat) (rH Q I p0 p1.toInt.toNat) (rF Q J p0 p1.toInt.toNat)) v4_3.toInt 0) v4_2.toInt ((I4 (a0 Q p0 20) 0).toInt, (I4 (a0 Q p0 20) 1).toInt, (I4 (a0 Q p0 20) 2).toInt, (I4 (a0 Q p0 20) 3).toInt) → va_P (dC, dI) vwCl (Wd cs L K I4 J Q) H → va_S A s.heap H lo → lv_has ls 5 [(0, .ref p0), (1, .int p1), (2, .int v4_2), (3, .int v4_3)] → W p l e R s m (([.ref p0, .int p1] : List Value).toArray) below meth c H lo 0 0 Qz (F0 m 4 ls [])) (by
    intro n ih4
    intro v4_2 v4_3 I4 H lo ls hmu4 bv4_2 bv4_3 hI4 fr_I4 dn_I4 hr4 hP hS hl
    refine lv_iload_n hx hb dX7_reaches_4 rfl (lv_at hl 3 rfl) ?_
    refine lv_aload_n hx hb dX7_reaches_5 rfl (lv_at hl 0 rfl) ?_
    refine lv_iload_n hx hb dX7_reaches_6 rfl (lv_at hl 1 rfl) ?_
    refine ro_i (va_runV (As := [.int p1]) (rest := [.int v4_3]) ⟨hx, hb, hml, hown, hts⟩ (s_X7_high l dC dI cs L K G Q hQ x0 m0 tx tm H.size I4 J hI4 p0 hLp0 hKp0 p1 ⟨by omega, by omega⟩) (cwV 1 hts (gV pq1372 pq1374 pq33 pq81 pq1375) rfl rfl rfl (by decide +kernel) ⟨(by rw [hR]; exact (Nat.le_of_ble_eq_true rfl)), (by rw [hR]; exact (Nat.le_of_ble_eq_true rfl))⟩) (sP_V hP hD hK hN hLp0 hKp0 rfl rfl) rfl rfl hl.1 rfl (lv_room (Nat.le_of_ble_eq_true rfl)) dX7_reaches_7 ⟨(by rw [hR]; exact (Nat.le_of_ble_eq_true rfl)), (by rw [hR]; exact (Nat.le_of_ble_eq_true rfl))⟩) hS hP (fun z7 H locs hz7 hP hS => ?_)
    obtain ⟨bz7, fez7⟩ := hz7
    refine lv_icmp_ge (tgt := 133) hx hb dX7_reaches_10 (by decide) (fun c10 => ?_) (fun c10 => ?_)
    · have t10 := tq_le (k := z7.toInt) (q := v4_3.toInt) c10 rfl rfl
      refine lv_iload_n hx hb dX7_reaches_133 rfl (lv_at hl 2 rfl) ?_
      subst hR; subst hQz
      exact W.zret (v := v4_2) hx hb hr (nar01 (by omega) (by omega)) (fun t ht hW => ⟨⟨v4_2, v4_2, rfl, ⟨rfl, ⟨by omega, by omega⟩⟩, ⟨I4, J, ⟨hI4, fr_I4, (by have eH := congrArg Int32.toInt (show z7 = I4 (a0 Q p0 0) (11 + p1.toInt.toNat) from fez7); rw [n16 I4 fr_I4] at eH; exact rcI_e (h := rH Q I p0 p1.toInt.toNat) (fun X Y q => (hs_b X Y q).2.2) (by have q : z7.toInt = rH Q I p0 p1.toInt.toNat := eH; omega) hr4), dn_I4, dj_J⟩, by rw [ht]; exact hP⟩⟩, hS.F ht⟩) hS.2.2 dX7_reaches_134
    · have t10 := tq_nle (k := z7.toInt) (q := v4_3.toInt) c10 rfl rfl
      refine lv_iconst (v := 0) hx hb dX7_reaches_13 (by decide +kernel) ?_
      refine lv_istore (lv' := [(4, .int 0), (0, .ref p0), (1, .int p1), (2, .int v4_2), (3, .int v4_3)]) hx hb dX7_reaches_14 hl (by decide) rfl (fun ls hl => ?_)
      have key16 := blocks (fun n => ∀ (v16_2 : Int32) (v16_4 : Int32) (I16 : Nat → Nat → Int32) (H : Heap) (lo : List Loc) (ls : Array Slot), (101 - v16_4.toInt).toNat = n → ((0) ≤ v16_2.toInt ∧ v16_2.toInt ≤ 1) → ((0) ≤ v16_4.toInt ∧ v16_4.toInt ≤ 100) → Iv L K x0 m0 tx tm I16 → (∀ b, ¬ (K b = 26) → I16 b = I b) → (∀ b, K b = 0 ∨ K b = 1 ∨ K b = 3 ∨ K b = 6 → I16 b = I b) → rcI (ahD (hs (rW Q I p0 p1.toInt.toNat) (rH Q I p0 p1.toInt.toNat) (rF Q J p0 p1.toInt.toNat)) v4_3.toInt v16_4.toInt) v16_2.toInt ((I16 (a0 Q p0 20) 0).toInt, (I16 (a0 Q p0 20) 1).toInt, (I16 (a0 Q p0 20) 2).toInt, (I16 (a0 Q p0 20) 3).toInt) → va_P (dC, dI) vwCl (Wd cs L K I16 J Q) H → va_S A s.heap H lo → lv_has ls 5 [(0, .ref p0), (1, .int p1), (2, .int v16_2), (3, .int v4_3), (4, .int v16_4)] → W p l e R s m (([.ref p0, .int p1] : List Value).toArray) below meth c H lo 0 0 Qz (F0 m 16 ls [])) (by
        intro n ih16
        intro v16_2 v16_4 I16 H lo ls hmu16 bv16_2 bv16_4 hI16 fr_I16 dn_I16 hr16 hP hS hl
        refine lv_iload hx hb dX7_reaches_16 (lv_at hl 4 rfl) ?_
        refine lv_aload_n hx hb dX7_reaches_18 rfl (lv_at hl 0 rfl) ?_
        refine lv_iload_n hx hb dX7_reaches_19 rfl (lv_at hl 1 rfl) ?_
        refine ro_i (va_runV (As := [.int p1]) (rest := [.int v16_4]) ⟨hx, hb, hml, hown, hts⟩ (s_X7_wide l dC dI cs L K G Q hQ x0 m0 tx tm H.size I16 J hI16 p0 hLp0 hKp0 p1 ⟨by omega, by omega⟩) (cwV 1 hts (gV pq1368 pq1370 pq32 pq81 pq1371) rfl rfl rfl (by decide +kernel) ⟨(by rw [hR]; exact (Nat.le_of_ble_eq_true rfl)), (by rw [hR]; exact (Nat.le_of_ble_eq_true rfl))⟩) (sP_V hP hD hK hN hLp0 hKp0 rfl rfl) rfl rfl hl.1 rfl (lv_room (Nat.le_of_ble_eq_true rfl)) dX7_reaches_20 ⟨(by rw [hR]; exact (Nat.le_of_ble_eq_true rfl)), (by rw [hR]; exact (Nat.le_of_ble_eq_true rfl))⟩) hS hP (fun z20 H locs hz20 hP hS => ?_)
        obtain ⟨bz20, fez20⟩ := hz20
        refine lv_icmp_ge (tgt := 127) hx hb dX7_reaches_23 (by decide) (fun c23 => ?_) (fun c23 => ?_)
        · have t23 := tq_le (k := z20.toInt) (q := v16_4.toInt) c23 rfl rfl
          obtain ⟨z127, ez127⟩ : ∃ y : Int32, y = v4_3 + 1 := ⟨_, rfl⟩
          refine lv_iinc (v := z127) (lv' := [(3, .int z127), (0, .ref p0), (1, .int p1), (2, .int v16_2), (4, .int v16_4)]) hx hb dX7_reaches_127 hl (k := 3) rfl (by rw [ez127]; rfl) (by decide) rfl (fun ls hl => ?_)
          have bz127 := tq_add (k := v4_3.toInt) (q := 1) ez127 rfl (by decide +kernel) (by omega) (by omega)
          refine lv_goto (tgt := 4) hx hb dX7_reaches_130 (by decide) ?_
          exact ih4 _ (by omega) v16_2 z127 I16 _ _ _ rfl ⟨by omega, by omega⟩ ⟨by omega, by omega⟩ hI16 fr_I16 dn_I16 (by have eW := congrArg Int32.toInt (show z20 = I16 (a0 Q p0 0) (3 + p1.toInt.toNat) from fez20); rw [n16 I16 fr_I16] at eW; exact rcI_nl (w := rW Q I p0 p1.toInt.toNat) (fun X Y q => (hs_b X Y q).1) (by have q : z20.toInt = rW Q I p0 p1.toInt.toNat := eW; omega) (by omega) hr16) hP hS (lv_sub hl [1, 2, 3, 0] rfl)
        · have t23 := tq_nle (k := z20.toInt) (q := v16_4.toInt) c23 rfl rfl
          refine lv_aload_n hx hb dX7_reaches_26 rfl (lv_at hl 0 rfl) ?_
          refine lv_iload_n hx hb dX7_reaches_27 rfl (lv_at hl 1 rfl) ?_
          refine lv_iload hx hb dX7_reaches_28 (lv_at hl 4 rfl) ?_
          refine lv_iload_n hx hb dX7_reaches_30 rfl (lv_at hl 3 rfl) ?_
          refine ro_i (va_runV (As := [.int p1, .int v16_4, .int v4_3]) (rest := []) ⟨hx, hb, hml, hown, hts⟩ (s_X7_has l dC dI cs L K G Q hQ x0 m0 tx tm H.size I16 J hI16 p0 hLp0 hKp0 p1 ⟨by omega, by omega⟩ v16_4 v4_3) (cwV 3 hts (gV pq1376 pq1378 pq34 pq81 pq1379) rfl rfl rfl (by decide +kernel) ⟨(by rw [hR]; exact (Nat.le_of_ble_eq_true rfl)), (by rw [hR]; exact (Nat.le_of_ble_eq_true rfl))⟩) (sP_V hP hD hK hN hLp0 hKp0 rfl rfl) rfl rfl hl.1 rfl (lv_room (Nat.le_of_ble_eq_true rfl)) dX7_reaches_31 ⟨(by rw [hR]; exact (Nat.le_of_ble_eq_true rfl)), (by rw [hR]; exact (Nat.le_of_ble_eq_true rfl))⟩) hS hP (fun z31 H locs hz31 hP hS => ?_)
          obtain ⟨bz31, imz31, xpz31⟩ := hz31
          have xh : z31.toInt = bi ((hs (rW Q I p0 p1.toInt.toNat) (rH Q I p0 p1.toInt.toNat) (rF Q J p0 p1.toInt.toNat)) v16_4.toInt v4_3.toInt) := by have q := xpz31; rw [show rW Q I16 p0 p1.toInt.toNat = rW Q I p0 p1.toInt.toNat from congrArg Int32.toInt (n16 I16 fr_I16 _), show rH Q I16 p0 p1.toInt.toNat = rH Q I p0 p1.toInt.toNat from congrArg Int32.toInt (n16 I16 fr_I16 _)] at q; exact q
          have j121 : ∀ (v121_2 : Int32) (I121 : Nat → Nat → Int32) (H : Heap) (lo : List Loc) (ls : Array Slot), ((0) ≤ v121_2.toInt ∧ v121_2.toInt ≤ 1) → Iv L K x0 m0 tx tm I121 → (∀ b, ¬ (K b = 26) → I121 b = I b) → (∀ b, K b = 0 ∨ K b = 1 ∨ K b = 3 ∨ K b = 6 → I121 b = I b) → rcI (ahD (hs (rW Q I p0 p1.toInt.toNat) (rH Q I p0 p1.toInt.toNat) (rF Q J p0 p1.toInt.toNat)) v4_3.toInt (v16_4.toInt + 1)) v121_2.toInt ((I121 (a0 Q p0 20) 0).toInt, (I121 (a0 Q p0 20) 1).toInt, (I121 (a0 Q p0 20) 2).toInt, (I121 (a0 Q p0 20) 3).toInt) → va_P (dC, dI) vwCl (Wd cs L K I121 J Q) H → va_S A s.heap H lo → lv_has ls 5 [(0, .ref p0), (1, .int p1), (2, .int v121_2), (3, .int v4_3), (4, .int v16_4)] → W p l e R s m (([.ref p0, .int p1] : List Value).toArray) below meth c H lo 0 0 Qz (F0 m 121 ls []) := by
            intro v121_2 I121 H lo ls bv121_2 hI121 fr_I121 dn_I121 hr121 hP hS hl
            obtain ⟨z121, ez121⟩ : ∃ y : Int32, y = v16_4 + 1 := ⟨_, rfl⟩
            refine lv_iinc (v := z121) (lv' := [(4, .int z121), (0, .ref p0), (1, .int p1), (2, .int v121_2), (3, .int v4_3)]) hx hb dX7_reaches_121 hl (k := 4) rfl (by rw [ez121]; rfl) (by decide) rfl (fun ls hl => ?_)
            have bz121 := tq_add (k := v16_4.toInt) (q := 1) ez121 rfl (by decide +kernel) (by omega) (by omega)
            refine lv_goto (tgt := 16) hx hb dX7_reaches_124 (by decide) ?_
            exact ih16 _ (by omega) v121_2 z121 I121 _ _ _ rfl ⟨by omega, by omega⟩ ⟨by omega, by omega⟩ hI121 fr_I121 dn_I121 (by rw [show z121.toInt = v16_4.toInt + 1 by omega]; exact hr121) hP hS (lv_sub hl [1, 2, 3, 4, 0] rfl)
          refine lv_if_ne (tgt := 40) hx hb dX7_reaches_34 (by decide) (fun c34 => ?_) (fun c34 => ?_)
          · have t34 := tq_ne (k := z31.toInt) (q := (0)) c34 rfl (by decide +kernel)
            have i34 := imz31 t34
            refine lv_aload_n hx hb dX7_reaches_40 rfl (lv_at hl 0 rfl) ?_
            obtain ⟨y41, ey41, hLy41, hKy41⟩ := oQ_7_20 (Sv_at hQ hLp0 hKp0)
            refine p_get (v := .ref y41) hx hb hts inX7 hown hK hP hLp0 hKp0 rfl rfl 20 (by decide) (hts _ pq1135) (congrArg (fun q => some (va_rf q)) ey41) dX7_reaches_41 ?_
            refine lv_iconst (v := 0) hx hb dX7_reaches_44 (by decide +kernel) ?_
            have ea : a0 Q p0 20 = y41 := gd_of ey41
            refine lv_iload_n hx hb dX7_reaches_45 rfl (lv_at hl 2 rfl) ?_
            have j65 : ∀ (w65_2 : Int32) (H : Heap) (lo : List Loc) (ls : Array Slot), ((0) ≤ w65_2.toInt ∧ w65_2.toInt ≤ 99) → ((v16_2.toInt = 0 → w65_2.toInt = v16_4.toInt) ∧ (¬ v16_2.toInt = 0 → w65_2.toInt = min (I16 y41 0).toInt v16_4.toInt)) → va_P (dC, dI) vwCl (Wd cs L K I16 J Q) H → va_S A s.heap H lo → lv_has ls 5 [(0, .ref p0), (1, .int p1), (2, .int v16_2), (3, .int v4_3), (4, .int v16_4)] → W p l e R s m (([.ref p0, .int p1] : List Value).toArray) below meth c H lo 0 0 Qz (F0 m 65 ls [.int w65_2, .int 0, .ref y41]) := by
              intro w65_2 H lo ls bw65_2 k65 hP hS hl
              refine p_iast hx hb hK hP hD hS 16 hLy41 hKy41 rfl (fun _ => rfl) rfl (in_d (by decide +kernel)) dX7_reaches_65 (fun H locs hP hS => ?_)
              obtain ⟨Iz65, hP, hIz65, qIz65⟩ : ∃ Iz65, va_P (dC, dI) vwCl (Wd cs L K Iz65 J Q) H ∧ Iv L K x0 m0 tx tm Iz65 ∧ Iz65 = va_up I16 y41 (upd (I16 y41) (0 : Int32).toNatClampNeg w65_2) := ⟨_, hP, Iv_put hI16 hKy41 (oP_26 (Iv_at hI16 hLy41 hKy41) ⟨by omega, by omega, fun h => absurd h (by decide +kernel)⟩) (Or.inl (by decide)) (Or.inl (by decide)), rfl⟩
              have dn_Iz65 : (∀ b, K b = 0 ∨ K b = 1 ∨ K b = 3 ∨ K b = 6 → Iz65 b = I b) := fun b hc => (congrFun qIz65 b).trans ((va_up_ne _ _ (fun z => by have q := hKy41; rw [← z] at q; omega)).trans (dn_I16 b hc))
              have fr_Iz65 : ∀ b, ¬ (K b = 26) → Iz65 b = I b := fun b q => (congrFun qIz65 b).trans ((va_up_ne _ _ (fun z => q (by rw [z]; have := hKy41; omega))).trans (fr_I16 b q))
              refine lv_aload_n hx hb dX7_reaches_66 rfl (lv_at hl 0 rfl) ?_
              refine p_get (v := .ref y41) hx hb hts inX7 hown hK hP hLp0 hKp0 rfl rfl 20 (by decide) (hts _ pq1135) (congrArg (fun q => some (va_rf q)) ey41) dX7_reaches_67 ?_
              refine lv_iconst (v := 1) hx hb dX7_reaches_70 (by decide +kernel) ?_
              refine lv_iload_n hx hb dX7_reaches_71 rfl (lv_at hl 2 rfl) ?_
              have j85 : ∀ (w85_2 : Int32) (H : Heap) (lo : List Loc) (ls : Array Slot), ((0) ≤ w85_2.toInt ∧ w85_2.toInt ≤ 39) → ((v16_2.toInt = 0 → w85_2.toInt = v4_3.toInt) ∧ (¬ v16_2.toInt = 0 → w85_2.toInt = (I16 y41 1).toInt)) → va_P (dC, dI) vwCl (Wd cs L K Iz65 J Q) H → va_S A s.heap H lo → lv_has ls 5 [(0, .ref p0), (1, .int p1), (2, .int v16_2), (3, .int v4_3), (4, .int v16_4)] → W p l e R s m (([.ref p0, .int p1] : List Value).toArray) below meth c H lo 0 0 Qz (F0 m 85 ls [.int w85_2, .int 1, .ref y41]) := by
                intro w85_2 H lo ls bw85_2 k85 hP hS hl
                refine p_iast hx hb hK hP hD hS 16 hLy41 hKy41 rfl (fun _ => rfl) rfl (in_d (by decide +kernel)) dX7_reaches_85 (fun H locs hP hS => ?_)
                obtain ⟨Iz85, hP, hIz85, qIz85⟩ : ∃ Iz85, va_P (dC, dI) vwCl (Wd cs L K Iz85 J Q) H ∧ Iv L K x0 m0 tx tm Iz85 ∧ Iz85 = va_up Iz65 y41 (upd (Iz65 y41) (1 : Int32).toNatClampNeg w85_2) := ⟨_, hP, Iv_put hIz65 hKy41 (oP_26 (Iv_at hIz65 hLy41 hKy41) ⟨by omega, by omega, fun _ => by omega⟩) (Or.inl (by decide)) (Or.inl (by decide)), rfl⟩
                have dn_Iz85 : (∀ b, K b = 0 ∨ K b = 1 ∨ K b = 3 ∨ K b = 6 → Iz85 b = I b) := fun b hc => (congrFun qIz85 b).trans ((va_up_ne _ _ (fun z => by have q := hKy41; rw [← z] at q; omega)).trans (dn_Iz65 b hc))
                have fr_Iz85 : ∀ b, ¬ (K b = 26) → Iz85 b = I b := fun b q => (congrFun qIz85 b).trans ((va_up_ne _ _ (fun z => q (by rw [z]; have := hKy41; omega))).trans (fr_Iz65 b q))
                refine lv_aload_n hx hb dX7_reaches_86 rfl (lv_at hl 0 rfl) ?_
                refine p_get (v := .ref y41) hx hb hts inX7 hown hK hP hLp0 hKp0 rfl rfl 20 (by decide) (hts _ pq1135) (congrArg (fun q => some (va_rf q)) ey41) dX7_reaches_87 ?_
                refine lv_iconst (v := 2) hx hb dX7_reaches_90 (by decide +kernel) ?_
                refine lv_iload_n hx hb dX7_reaches_91 rfl (lv_at hl 2 rfl) ?_
                have j111 : ∀ (w111_2 : Int32) (H : Heap) (lo : List Loc) (ls : Array Slot), ((0) ≤ w111_2.toInt ∧ w111_2.toInt ≤ 99) → ((v16_2.toInt = 0 → w111_2.toInt = v16_4.toInt) ∧ (¬ v16_2.toInt = 0 → w111_2.toInt = max (I16 y41 2).toInt v16_4.toInt)) → va_P (dC, dI) vwCl (Wd cs L K Iz85 J Q) H → va_S A s.heap H lo → lv_has ls 5 [(0, .ref p0), (1, .int p1), (2, .int v16_2), (3, .int v4_3), (4, .int v16_4)] → W p l e R s m (([.ref p0, .int p1] : List Value).toArray) below meth c H lo 0 0 Qz (F0 m 111 ls [.int w111_2, .int 2, .ref y41]) := by
                  intro w111_2 H lo ls bw111_2 k111 hP hS hl
                  refine p_iast hx hb hK hP hD hS 16 hLy41 hKy41 rfl (fun _ => rfl) rfl (in_d (by decide +kernel)) dX7_reaches_111 (fun H locs hP hS => ?_)
                  obtain ⟨Iz111, hP, hIz111, qIz111⟩ : ∃ Iz111, va_P (dC, dI) vwCl (Wd cs L K Iz111 J Q) H ∧ Iv L K x0 m0 tx tm Iz111 ∧ Iz111 = va_up Iz85 y41 (upd (Iz85 y41) (2 : Int32).toNatClampNeg w111_2) := ⟨_, hP, Iv_put hIz85 hKy41 (oP_26 (Iv_at hIz85 hLy41 hKy41) ⟨by omega, by omega, fun h => absurd h (by decide +kernel)⟩) (Or.inl (by decide)) (Or.inl (by decide)), rfl⟩
                  have dn_Iz111 : (∀ b, K b = 0 ∨ K b = 1 ∨ K b = 3 ∨ K b = 6 → Iz111 b = I b) := fun b hc => (congrFun qIz111 b).trans ((va_up_ne _ _ (fun z => by have q := hKy41; rw [← z] at q; omega)).trans (dn_Iz85 b hc))
                  have fr_Iz111 : ∀ b, ¬ (K b = 26) → Iz111 b = I b := fun b q => (congrFun qIz111 b).trans ((va_up_ne _ _ (fun z => q (by rw [z]; have := hKy41; omega))).trans (fr_Iz85 b q))
                  refine lv_aload_n hx hb dX7_reaches_112 rfl (lv_at hl 0 rfl) ?_
                  refine p_get (v := .ref y41) hx hb hts inX7 hown hK hP hLp0 hKp0 rfl rfl 20 (by decide) (hts _ pq1135) (congrArg (fun q => some (va_rf q)) ey41) dX7_reaches_113 ?_
                  refine lv_iconst (v := 3) hx hb dX7_reaches_116 (by decide +kernel) ?_
                  refine lv_iload_n hx hb dX7_reaches_117 rfl (lv_at hl 3 rfl) ?_
                  refine p_iast hx hb hK hP hD hS 16 hLy41 hKy41 rfl (fun _ => rfl) rfl (in_d (by decide +kernel)) dX7_reaches_118 (fun H locs hP hS => ?_)
                  obtain ⟨Iz118, hP, hIz118, qIz118⟩ : ∃ Iz118, va_P (dC, dI) vwCl (Wd cs L K Iz118 J Q) H ∧ Iv L K x0 m0 tx tm Iz118 ∧ Iz118 = va_up Iz111 y41 (upd (Iz111 y41) (3 : Int32).toNatClampNeg v4_3) := ⟨_, hP, Iv_put hIz111 hKy41 (oP_26 (Iv_at hIz111 hLy41 hKy41) ⟨by omega, by omega, fun _ => by omega⟩) (Or.inl (by decide)) (Or.inl (by decide)), rfl⟩
                  have dn_Iz118 : (∀ b, K b = 0 ∨ K b = 1 ∨ K b = 3 ∨ K b = 6 → Iz118 b = I b) := fun b hc => (congrFun qIz118 b).trans ((va_up_ne _ _ (fun z => by have q := hKy41; rw [← z] at q; omega)).trans (dn_Iz111 b hc))
                  have fr_Iz118 : ∀ b, ¬ (K b = 26) → Iz118 b = I b := fun b q => (congrFun qIz118 b).trans ((va_up_ne _ _ (fun z => q (by rw [z]; have := hKy41; omega))).trans (fr_Iz111 b q))
                  refine lv_iconst (v := 1) hx hb dX7_reaches_119 (by decide +kernel) ?_
                  refine lv_istore_n (lv' := [(2, .int 1), (0, .ref p0), (1, .int p1), (3, .int v4_3), (4, .int v16_4)]) hx hb dX7_reaches_120 rfl hl (by decide) rfl (fun ls hl => ?_)
                  exact j121 1 Iz118 _ _ _ ⟨by decide +kernel, by decide +kernel⟩ hIz118 fr_Iz118 dn_Iz118 (by rw [ea]; refine rcI_yes rfl (bi_t xh t34) (by decide +kernel) ?_ ?_ (by rw [ea] at hr16; exact hr16); (have c0 : Iz118 y41 0 = w65_2 := (by rw [qIz118, va_up_self, qIz111, va_up_self, qIz85, va_up_self, qIz65, va_up_self]; rfl); have c1 : Iz118 y41 1 = w85_2 := (by rw [qIz118, va_up_self, qIz111, va_up_self, qIz85, va_up_self]; rfl); have c2 : Iz118 y41 2 = w111_2 := (by rw [qIz118, va_up_self, qIz111, va_up_self]; rfl); rw [c0, c1, c2]; exact ⟨fun q => ⟨k65.1 q, k85.1 q, k111.1 q⟩, fun q => ⟨k65.2 q, k85.2 q, k111.2 q⟩⟩); (rw [qIz118, va_up_self]; rfl)) hP hS (lv_sub hl [1, 2, 0, 3, 4] rfl)
                refine lv_if_eq (tgt := 109) hx hb dX7_reaches_92 (by decide) (fun c92 => ?_) (fun c92 => ?_)
                · have t92 := tq_eq (k := v16_2.toInt) (q := (0)) c92 rfl (by decide +kernel)
                  refine lv_iload hx hb dX7_reaches_109 (lv_at hl 4 rfl) ?_
                  exact j111 v16_4 _ _ _ ⟨by omega, by omega⟩ ⟨fun _ => rfl, fun q => absurd t92 q⟩ hP hS (lv_sub hl [0, 1, 2, 3, 4] rfl)
                · have t92 := tq_ne (k := v16_2.toInt) (q := (0)) c92 rfl (by decide +kernel)
                  refine lv_aload_n hx hb dX7_reaches_95 rfl (lv_at hl 0 rfl) ?_
                  refine p_get (v := .ref y41) hx hb hts inX7 hown hK hP hLp0 hKp0 rfl rfl 20 (by decide) (hts _ pq1135) (congrArg (fun q => some (va_rf q)) ey41) dX7_reaches_96 ?_
                  refine lv_iconst (v := 2) hx hb dX7_reaches_99 (by decide +kernel) ?_
                  refine p_iald hx hb hK hP 16 hLy41 hKy41 rfl rfl (in_d (by decide +kernel)) dX7_reaches_100 ?_
                  refine lv_topi (fun z100 ez100 => ?_)
                  have bz100 := oR_26 (i := (2 : Int32)) (k := (2)) (by decide +kernel) (Iv_at hIz85 hLy41 hKy41)
                  rw [← ez100] at bz100
                  refine lv_iload hx hb dX7_reaches_101 (lv_at hl 4 rfl) ?_
                  refine va_mmax hx hb (hml.trans hl.1.symm) hown (hts _ pq1443) (hts _ pq750) (hts _ pq82) (hts _ pq751) (by rw [hR]; exact (Nat.le_of_ble_eq_true rfl)) (by rw [hR]; exact (Nat.le_of_ble_eq_true rfl)) (by rw [hR]; exact (Nat.le_of_ble_eq_true rfl)) (by rw [hR]; exact (Nat.le_of_ble_eq_true rfl)) dX7_reaches_103 ?_
                  refine lv_topi (fun z103 ez103 => ?_)
                  have bz103 := tq_max ez103
                  refine lv_goto (tgt := 111) hx hb dX7_reaches_106 (by decide) ?_
                  exact j111 z103 _ _ _ ⟨by omega, by omega⟩ ⟨fun q => absurd q t92, fun _ => by have c100 : z100 = I16 y41 2 := ez100.trans (by rw [qIz85, va_up_self, qIz65, va_up_self]; rfl); rw [← c100]; omega⟩ hP hS (lv_sub hl [0, 1, 2, 3, 4] rfl)
              refine lv_if_eq (tgt := 84) hx hb dX7_reaches_72 (by decide) (fun c72 => ?_) (fun c72 => ?_)
              · have t72 := tq_eq (k := v16_2.toInt) (q := (0)) c72 rfl (by decide +kernel)
                refine lv_iload_n hx hb dX7_reaches_84 rfl (lv_at hl 3 rfl) ?_
                exact j85 v4_3 _ _ _ ⟨by omega, by omega⟩ ⟨fun _ => rfl, fun q => absurd t72 q⟩ hP hS (lv_sub hl [0, 1, 2, 3, 4] rfl)
              · have t72 := tq_ne (k := v16_2.toInt) (q := (0)) c72 rfl (by decide +kernel)
                refine lv_aload_n hx hb dX7_reaches_75 rfl (lv_at hl 0 rfl) ?_
                refine p_get (v := .ref y41) hx hb hts inX7 hown hK hP hLp0 hKp0 rfl rfl 20 (by decide) (hts _ pq1135) (congrArg (fun q => some (va_rf q)) ey41) dX7_reaches_76 ?_
                refine lv_iconst (v := 1) hx hb dX7_reaches_79 (by decide +kernel) ?_
                refine p_iald hx hb hK hP 16 hLy41 hKy41 rfl rfl (in_d (by decide +kernel)) dX7_reaches_80 ?_
                refine lv_topi (fun z80 ez80 => ?_)
                have bz80 := oR_26 (i := (1 : Int32)) (k := (1)) (by decide +kernel) (Iv_at hIz65 hLy41 hKy41)
                rw [← ez80] at bz80
                refine lv_goto (tgt := 85) hx hb dX7_reaches_81 (by decide) ?_
                exact j85 z80 _ _ _ ⟨by omega, by omega⟩ ⟨fun q => absurd q t72, fun _ => congrArg Int32.toInt (ez80.trans (by rw [qIz65, va_up_self]; rfl))⟩ hP hS (lv_sub hl [0, 1, 2, 3, 4] rfl)
            refine lv_if_eq (tgt := 63) hx hb dX7_reaches_46 (by decide) (fun c46 => ?_) (fun c46 => ?_)
            · have t46 := tq_eq (k := v16_2.toInt) (q := (0)) c46 rfl (by decide +kernel)
              refine lv_iload hx hb dX7_reaches_63 (lv_at hl 4 rfl) ?_
              exact j65 v16_4 _ _ _ ⟨by omega, by omega⟩ ⟨fun _ => rfl, fun q => absurd t46 q⟩ hP hS (lv_sub hl [0, 1, 2, 3, 4] rfl)
            · have t46 := tq_ne (k := v16_2.toInt) (q := (0)) c46 rfl (by decide +kernel)
              refine lv_aload_n hx hb dX7_reaches_49 rfl (lv_at hl 0 rfl) ?_
              refine p_get (v := .ref y41) hx hb hts inX7 hown hK hP hLp0 hKp0 rfl rfl 20 (by decide) (hts _ pq1135) (congrArg (fun q => some (va_rf q)) ey41) dX7_reaches_50 ?_
              refine lv_iconst (v := 0) hx hb dX7_reaches_53 (by decide +kernel) ?_
              refine p_iald hx hb hK hP 16 hLy41 hKy41 rfl rfl (in_d (by decide +kernel)) dX7_reaches_54 ?_
              refine lv_topi (fun z54 ez54 => ?_)
              have bz54 := oR_26 (i := (0 : Int32)) (k := (0)) (by decide +kernel) (Iv_at hI16 hLy41 hKy41)
              rw [← ez54] at bz54
              refine lv_iload hx hb dX7_reaches_55 (lv_at hl 4 rfl) ?_
              refine va_mmin hx hb (hml.trans hl.1.symm) hown (hts _ pq1269) (hts _ pq407) (hts _ pq82) (hts _ pq408) (by rw [hR]; exact (Nat.le_of_ble_eq_true rfl)) (by rw [hR]; exact (Nat.le_of_ble_eq_true rfl)) (by rw [hR]; exact (Nat.le_of_ble_eq_true rfl)) (by rw [hR]; exact (Nat.le_of_ble_eq_true rfl)) dX7_reaches_57 ?_
              refine lv_topi (fun z57 ez57 => ?_)
              have bz57 := tq_min ez57
              refine lv_goto (tgt := 65) hx hb dX7_reaches_60 (by decide) ?_
              exact j65 z57 _ _ _ ⟨by omega, by omega⟩ ⟨fun q => absurd q t46, fun _ => by have c54 : z54 = I16 y41 0 := ez54; rw [← c54]; omega⟩ hP hS (lv_sub hl [0, 1, 2, 3, 4] rfl)
          · have t34 := tq_eq (k := z31.toInt) (q := (0)) c34 rfl (by decide +kernel)
            refine lv_goto (tgt := 121) hx hb dX7_reaches_37 (by decide) ?_
            exact j121 v16_2 I16 _ _ _ ⟨by omega, by omega⟩ hI16 fr_I16 dn_I16 (rcI_no rfl (bi_f xh t34) hr16) hP hS (lv_sub hl [0, 1, 2, 3, 4] rfl))
      exact key16 _ v4_2 0 I4 _ _ _ rfl ⟨by omega, by omega⟩ ⟨by decide +kernel, by decide +kernel⟩ hI4 fr_I4 dn_I4 (by rw [show (0 : Int32).toInt = 0 from by decide +kernel]; exact hr4) hP hS (lv_sub hl [1, 2, 3, 4, 0] rfl))
  exact key4 _ 0 0 I _ _ _ rfl ⟨by decide +kernel, by decide +kernel⟩ ⟨by decide +kernel, by decide +kernel⟩ hI fr_I dn_I (by rw [show (0 : Int32).toInt = 0 from by decide +kernel]; exact rcI_0 (fun X Y q => by have b := hs_b X Y q; omega)) hP hS (lv_sub hl [2, 3, 1, 0] rfl)

set_option maxHeartbeats 4000000 in
set_option maxRecDepth 100000 in
theorem s_X7_leftOf (l : Launch) (dC : Nat → ClassId) (dI : Nat → Nat → Nat) (cs : Nat → ClassId) (L : List Nat) (K G : Nat → Nat) (Q : Nat → Nat → Option Nat) (hQ : Sv L K G Q) (x0 m0 : Nat) (tx : GT) (tm : GT × Int) (sz : Nat) (I : Nat → Nat → Int32) (J : Nat → Nat → Int64) (hI : Iv L K x0 m0 tx tm I) (p0 : Nat) (hLp0 : p0 ∈ L) (hKp0 : K p0 = 7) (p1 : Int32) (bp1 : (0) ≤ p1.toInt ∧ p1.toInt ≤ 7) (p2 : Int32) (bp2 : (0) ≤ p2.toInt ∧ p2.toInt ≤ 9) : Met l yX7_leftOf (.code yX7_leftOf cX7_leftOf 3 (some .int) :: pw) ({ frames := 1, cells := 0, slots := 0, locals := 22 }) (sP (dC, dI) cs [.ref p0, .int p1, .int p2] sz L K I J Q) (va_Qi (fun (r : Int32) (_ : Unit) => ((-500) ≤ r.toInt ∧ r.toInt ≤ 500) ∧ (∀ c : Fx, okF c → rI Q I p0 c → p2.toInt.toNat < (c.1 1).toInt.toNat → r.toInt = cutL (c.1 (19 + 8 * p2.toInt.toNat + 3)).toInt (c.1 (3 + p1.toInt.toNat)).toInt (I (a0 Q p0 20) 0).toInt (I (a0 Q p0 20) 2).toInt)) (fun _ _ => True) (fun _ => False)) 0 0 (fun _ => False) := by
  refine Met.ofW (cc := cX7_leftOf) (maxL := 3) (ret := (some .int)) (by decide +kernel) rfl ?_
  intro p e s m args below meth c s₁ B hml hv
  obtain ⟨rfl, hsz, hP, hK, hD0, hN⟩ := hv
  have hx := B.exec
  have hb := B.bytes
  have hr := B.returns
  have hts := fun w (h : w ∈ pw) => atoms_spec (ws := Cond.code yX7_leftOf cX7_leftOf 3 (some .int) :: pw) B.pre w (List.mem_cons_of_mem _ h)
  have hown : s.vm.findClass RX7 = some m.cls := findClass_of_methodNamed B.named
  have hlocks := B.notSynchronized
  subst hsz
  have hBB : 999 ≤ tm.2 ∧ tm.2 ≤ 6000000 := hI.2.2.2.2.1
  have hD := hD0
  obtain ⟨H, hHe⟩ : ∃ H : Heap, H = s.heap := ⟨_, rfl⟩
  have hS : va_S (fun _ => False) s.heap H [] := by rw [hHe]; exact va_S.rf
  rw [← hHe] at hP
  have hl := lv_entry ([.ref p0, .int p1, .int p2]) (n := 3) (Nat.le_of_ble_eq_true rfl)
  rw [lg_entry_eq]
  generalize (lg_sl ([.ref p0, .int p1, .int p2]) ++ List.replicate (3 - (lg_sl ([.ref p0, .int p1, .int p2])).length) Slot.unset).toArray = ls at hl ⊢
  have hl : lv_has ls 3 [(0, .ref p0), (1, .int p1), (2, .int p2)] := hl
  rw [← hHe]
  refine namedW (fun R Qz hR hQz => ?_)
  refine lv_aload_n hx hb dX7_leftOf_0 rfl (lv_at hl 0 rfl) ?_
  refine lv_iload_n hx hb dX7_leftOf_1 rfl (lv_at hl 2 rfl) ?_
  refine lv_iconst (v := 3) hx hb dX7_leftOf_2 (by decide +kernel) ?_
  refine ro_i (va_runV (As := [.int p2, .int 3]) (rest := []) ⟨hx, hb, hml, hown, hts⟩ (s_X7_of l dC dI cs L K G Q hQ x0 m0 tx tm H.size I J hI p0 hLp0 hKp0 p2 ⟨by omega, by omega⟩ 3 ⟨by decide +kernel, by decide +kernel⟩) (cwV 2 hts (gV pq1320 pq1322 pq25 pq81 pq1323) rfl rfl rfl (by decide +kernel) ⟨(by rw [hR]; exact (Nat.le_of_ble_eq_true rfl)), (by rw [hR]; exact (Nat.le_of_ble_eq_true rfl))⟩) (sP_V hP hD hK hN hLp0 hKp0 rfl rfl) rfl rfl hl.1 rfl (lv_room (Nat.le_of_ble_eq_true rfl)) dX7_leftOf_3 ⟨(by rw [hR]; exact (Nat.le_of_ble_eq_true rfl)), (by rw [hR]; exact (Nat.le_of_ble_eq_true rfl))⟩) hS hP (fun z3 H locs hz3 hP hS => ?_)
  have cst3_3 : (3 : Int32).toInt = 3 := by decide +kernel
  obtain ⟨fez3, xpz3⟩ := hz3
  refine lv_iconst (v := 2) hx hb dX7_leftOf_6 (by decide +kernel) ?_
  refine lv_irem hx hb dX7_leftOf_7 (by decide +kernel) ?_
  refine lv_topi (fun z7 ez7 => ?_)
  refine lv_iconst (v := 1) hx hb dX7_leftOf_8 (by decide +kernel) ?_
  refine lv_icmp_ne (tgt := 29) hx hb dX7_leftOf_9 (by decide) (fun c9 => ?_) (fun c9 => ?_)
  · have t9 := tq_ne (k := z7.toInt) (q := (1)) c9 rfl (by decide +kernel)
    refine lv_aload_n hx hb dX7_leftOf_29 rfl (lv_at hl 0 rfl) ?_
    obtain ⟨y30, ey30, hLy30, hKy30⟩ := oQ_7_20 (Sv_at hQ hLp0 hKp0)
    refine p_get (v := .ref y30) hx hb hts inX7 hown hK hP hLp0 hKp0 rfl rfl 20 (by decide) (hts _ pq1135) (congrArg (fun q => some (va_rf q)) ey30) dX7_leftOf_30 ?_
    refine lv_iconst (v := 0) hx hb dX7_leftOf_33 (by decide +kernel) ?_
    refine p_iald hx hb hK hP 16 hLy30 hKy30 rfl rfl (in_d (by decide +kernel)) dX7_leftOf_34 ?_
    refine lv_topi (fun z34 ez34 => ?_)
    have bz34 := oR_26 (i := (0 : Int32)) (k := (0)) (by decide +kernel) (Iv_at hI hLy30 hKy30)
    rw [← ez34] at bz34
    subst hR; subst hQz
    exact W.iret (v := z34) hx hb hr (fun t ht hW => ⟨⟨z34, (), rfl, ⟨⟨by omega, by omega⟩, (fun c ok h hN => by have e3 : z3 = c.1 (19 + 8 * p2.toInt.toNat + 3) := (show z3 = I (a0 Q p0 0) (19 + 8 * p2.toInt.toNat + 3) from fez3).trans (h _ (by omega)); have bf := (ok.2.2.2 _ hN).2.2.2.1; rw [← e3] at bf ⊢; have er : z7.toInt = z3.toInt % 2 := tq_rem ez7 (by decide +kernel) (by decide) bf.1; unfold cutL; rw [if_neg (by omega), show a0 Q p0 20 = y30 from gd_of ey30]; exact congrArg Int32.toInt ez34)⟩, trivial⟩, hS.F ht⟩) hS.2.2 dX7_leftOf_35
  · have t9 := tq_eq (k := z7.toInt) (q := (1)) c9 rfl (by decide +kernel)
    refine lv_aload_n hx hb dX7_leftOf_12 rfl (lv_at hl 0 rfl) ?_
    refine lv_iload_n hx hb dX7_leftOf_13 rfl (lv_at hl 1 rfl) ?_
    refine ro_i (va_runV (As := [.int p1]) (rest := []) ⟨hx, hb, hml, hown, hts⟩ (s_X7_wide l dC dI cs L K G Q hQ x0 m0 tx tm H.size I J hI p0 hLp0 hKp0 p1 ⟨by omega, by omega⟩) (cwV 1 hts (gV pq1368 pq1370 pq32 pq81 pq1371) rfl rfl rfl (by decide +kernel) ⟨(by rw [hR]; exact (Nat.le_of_ble_eq_true rfl)), (by rw [hR]; exact (Nat.le_of_ble_eq_true rfl))⟩) (sP_V hP hD hK hN hLp0 hKp0 rfl rfl) rfl rfl hl.1 rfl (lv_room (Nat.le_of_ble_eq_true rfl)) dX7_leftOf_14 ⟨(by rw [hR]; exact (Nat.le_of_ble_eq_true rfl)), (by rw [hR]; exact (Nat.le_of_ble_eq_true rfl))⟩) hS hP (fun z14 H locs hz14 hP hS => ?_)
    obtain ⟨bz14, fez14⟩ := hz14
    refine lv_iconst (v := 1) hx hb dX7_leftOf_17 (by decide +kernel) ?_
    refine lv_isub hx hb dX7_leftOf_18 ?_
    refine lv_topi (fun z18 ez18 => ?_)
    have bz18 := tq_sub (k := z14.toInt) (q := (1)) ez18 rfl (by decide +kernel) (by omega) (by omega)
    refine lv_aload_n hx hb dX7_leftOf_19 rfl (lv_at hl 0 rfl) ?_
    obtain ⟨y20, ey20, hLy20, hKy20⟩ := oQ_7_20 (Sv_at hQ hLp0 hKp0)
    refine p_get (v := .ref y20) hx hb hts inX7 hown hK hP hLp0 hKp0 rfl rfl 20 (by decide) (hts _ pq1135) (congrArg (fun q => some (va_rf q)) ey20) dX7_leftOf_20 ?_
    refine lv_iconst (v := 2) hx hb dX7_leftOf_23 (by decide +kernel) ?_
    refine p_iald hx hb hK hP 16 hLy20 hKy20 rfl rfl (in_d (by decide +kernel)) dX7_leftOf_24 ?_
    refine lv_topi (fun z24 ez24 => ?_)
    have bz24 := oR_26 (i := (2 : Int32)) (k := (2)) (by decide +kernel) (Iv_at hI hLy20 hKy20)
    rw [← ez24] at bz24
    refine lv_isub hx hb dX7_leftOf_25 ?_
    refine lv_topi (fun z25 ez25 => ?_)
    have bz25 := tq_sub (k := z18.toInt) (q := z24.toInt) ez25 rfl rfl (by omega) (by omega)
    refine lv_goto (tgt := 35) hx hb dX7_leftOf_26 (by decide) ?_
    subst hR; subst hQz
    exact W.iret (v := z25) hx hb hr (fun t ht hW => ⟨⟨z25, (), rfl, ⟨⟨by omega, by omega⟩, (fun c ok h hN => by have e3 : z3 = c.1 (19 + 8 * p2.toInt.toNat + 3) := (show z3 = I (a0 Q p0 0) (19 + 8 * p2.toInt.toNat + 3) from fez3).trans (h _ (by omega)); have bf := (ok.2.2.2 _ hN).2.2.2.1; rw [← e3] at bf ⊢; have er : z7.toInt = z3.toInt % 2 := tq_rem ez7 (by decide +kernel) (by decide) bf.1; unfold cutL; have e14 : z14 = c.1 (3 + p1.toInt.toNat) := (show z14 = I (a0 Q p0 0) (3 + p1.toInt.toNat) from fez14).trans (h _ (by omega)); rw [if_pos (by omega), show a0 Q p0 20 = y20 from gd_of ey20, ← e14]; have e24 : z24 = I y20 2 := ez24; rw [← e24]; omega)⟩, trivial⟩, hS.F ht⟩) hS.2.2 dX7_leftOf_35

set_option maxHeartbeats 4000000 in
set_option maxRecDepth 100000 in
theorem s_X7_aboveOf (l : Launch) (dC : Nat → ClassId) (dI : Nat → Nat → Nat) (cs : Nat → ClassId) (L : List Nat) (K G : Nat → Nat) (Q : Nat → Nat → Option Nat) (hQ : Sv L K G Q) (x0 m0 : Nat) (tx : GT) (tm : GT × Int) (sz : Nat) (I : Nat → Nat → Int32) (J : Nat → Nat → Int64) (hI : Iv L K x0 m0 tx tm I) (p0 : Nat) (hLp0 : p0 ∈ L) (hKp0 : K p0 = 7) (p1 : Int32) (bp1 : (0) ≤ p1.toInt ∧ p1.toInt ≤ 7) (p2 : Int32) (bp2 : (0) ≤ p2.toInt ∧ p2.toInt ≤ 9) : Met l yX7_aboveOf (.code yX7_aboveOf cX7_aboveOf 3 (some .int) :: pw) ({ frames := 1, cells := 0, slots := 0, locals := 22 }) (sP (dC, dI) cs [.ref p0, .int p1, .int p2] sz L K I J Q) (va_Qi (fun (r : Int32) (_ : Unit) => ((-500) ≤ r.toInt ∧ r.toInt ≤ 500) ∧ (∀ c : Fx, okF c → rI Q I p0 c → p2.toInt.toNat < (c.1 1).toInt.toNat → r.toInt = cutA (c.1 (19 + 8 * p2.toInt.toNat + 3)).toInt (c.1 (11 + p1.toInt.toNat)).toInt (I (a0 Q p0 20) 1).toInt (I (a0 Q p0 20) 3).toInt)) (fun _ _ => True) (fun _ => False)) 0 0 (fun _ => False) := by
  refine Met.ofW (cc := cX7_aboveOf) (maxL := 3) (ret := (some .int)) (by decide +kernel) rfl ?_
  intro p e s m args below meth c s₁ B hml hv
  obtain ⟨rfl, hsz, hP, hK, hD0, hN⟩ := hv
  have hx := B.exec
  have hb := B.bytes
  have hr := B.returns
  have hts := fun w (h : w ∈ pw) => atoms_spec (ws := Cond.code yX7_aboveOf cX7_aboveOf 3 (some .int) :: pw) B.pre w (List.mem_cons_of_mem _ h)
  have hown : s.vm.findClass RX7 = some m.cls := findClass_of_methodNamed B.named
  have hlocks := B.notSynchronized
  subst hsz
  have hBB : 999 ≤ tm.2 ∧ tm.2 ≤ 6000000 := hI.2.2.2.2.1
  have hD := hD0
  obtain ⟨H, hHe⟩ : ∃ H : Heap, H = s.heap := ⟨_, rfl⟩
  have hS : va_S (fun _ => False) s.heap H [] := by rw [hHe]; exact va_S.rf
  rw [← hHe] at hP
  have hl := lv_entry ([.ref p0, .int p1, .int p2]) (n := 3) (Nat.le_of_ble_eq_true rfl)
  rw [lg_entry_eq]
  generalize (lg_sl ([.ref p0, .int p1, .int p2]) ++ List.replicate (3 - (lg_sl ([.ref p0, .int p1, .int p2])).length) Slot.unset).toArray = ls at hl ⊢
  have hl : lv_has ls 3 [(0, .ref p0), (1, .int p1), (2, .int p2)] := hl
  rw [← hHe]
  refine namedW (fun R Qz hR hQz => ?_)
  refine lv_aload_n hx hb dX7_aboveOf_0 rfl (lv_at hl 0 rfl) ?_
  refine lv_iload_n hx hb dX7_aboveOf_1 rfl (lv_at hl 2 rfl) ?_
  refine lv_iconst (v := 3) hx hb dX7_aboveOf_2 (by decide +kernel) ?_
  refine ro_i (va_runV (As := [.int p2, .int 3]) (rest := []) ⟨hx, hb, hml, hown, hts⟩ (s_X7_of l dC dI cs L K G Q hQ x0 m0 tx tm H.size I J hI p0 hLp0 hKp0 p2 ⟨by omega, by omega⟩ 3 ⟨by decide +kernel, by decide +kernel⟩) (cwV 2 hts (gV pq1320 pq1322 pq25 pq81 pq1323) rfl rfl rfl (by decide +kernel) ⟨(by rw [hR]; exact (Nat.le_of_ble_eq_true rfl)), (by rw [hR]; exact (Nat.le_of_ble_eq_true rfl))⟩) (sP_V hP hD hK hN hLp0 hKp0 rfl rfl) rfl rfl hl.1 rfl (lv_room (Nat.le_of_ble_eq_true rfl)) dX7_aboveOf_3 ⟨(by rw [hR]; exact (Nat.le_of_ble_eq_true rfl)), (by rw [hR]; exact (Nat.le_of_ble_eq_true rfl))⟩) hS hP (fun z3 H locs hz3 hP hS => ?_)
  have cst3_3 : (3 : Int32).toInt = 3 := by decide +kernel
  obtain ⟨fez3, xpz3⟩ := hz3
  refine lv_iconst (v := 1) hx hb dX7_aboveOf_6 (by decide +kernel) ?_
  refine lv_icmp_le (tgt := 27) hx hb dX7_aboveOf_7 (by decide) (fun c7 => ?_) (fun c7 => ?_)
  · have t7 := tq_le (k := z3.toInt) (q := (1)) c7 rfl (by decide +kernel)
    refine lv_aload_n hx hb dX7_aboveOf_27 rfl (lv_at hl 0 rfl) ?_
    obtain ⟨y28, ey28, hLy28, hKy28⟩ := oQ_7_20 (Sv_at hQ hLp0 hKp0)
    refine p_get (v := .ref y28) hx hb hts inX7 hown hK hP hLp0 hKp0 rfl rfl 20 (by decide) (hts _ pq1135) (congrArg (fun q => some (va_rf q)) ey28) dX7_aboveOf_28 ?_
    refine lv_iconst (v := 1) hx hb dX7_aboveOf_31 (by decide +kernel) ?_
    refine p_iald hx hb hK hP 16 hLy28 hKy28 rfl rfl (in_d (by decide +kernel)) dX7_aboveOf_32 ?_
    refine lv_topi (fun z32 ez32 => ?_)
    have bz32 := oR_26 (i := (1 : Int32)) (k := (1)) (by decide +kernel) (Iv_at hI hLy28 hKy28)
    rw [← ez32] at bz32
    subst hR; subst hQz
    exact W.iret (v := z32) hx hb hr (fun t ht hW => ⟨⟨z32, (), rfl, ⟨⟨by omega, by omega⟩, (fun c ok h hN => by have e3 : z3 = c.1 (19 + 8 * p2.toInt.toNat + 3) := (show z3 = I (a0 Q p0 0) (19 + 8 * p2.toInt.toNat + 3) from fez3).trans (h _ (by omega)); rw [← e3]; unfold cutA; rw [if_neg (by omega), show a0 Q p0 20 = y28 from gd_of ey28]; exact congrArg Int32.toInt ez32)⟩, trivial⟩, hS.F ht⟩) hS.2.2 dX7_aboveOf_33
  · have t7 := tq_nle (k := z3.toInt) (q := (1)) c7 rfl (by decide +kernel)
    have rg7z3 := fb_rng z3
    refine lv_aload_n hx hb dX7_aboveOf_10 rfl (lv_at hl 0 rfl) ?_
    refine lv_iload_n hx hb dX7_aboveOf_11 rfl (lv_at hl 1 rfl) ?_
    refine ro_i (va_runV (As := [.int p1]) (rest := []) ⟨hx, hb, hml, hown, hts⟩ (s_X7_high l dC dI cs L K G Q hQ x0 m0 tx tm H.size I J hI p0 hLp0 hKp0 p1 ⟨by omega, by omega⟩) (cwV 1 hts (gV pq1372 pq1374 pq33 pq81 pq1375) rfl rfl rfl (by decide +kernel) ⟨(by rw [hR]; exact (Nat.le_of_ble_eq_true rfl)), (by rw [hR]; exact (Nat.le_of_ble_eq_true rfl))⟩) (sP_V hP hD hK hN hLp0 hKp0 rfl rfl) rfl rfl hl.1 rfl (lv_room (Nat.le_of_ble_eq_true rfl)) dX7_aboveOf_12 ⟨(by rw [hR]; exact (Nat.le_of_ble_eq_true rfl)), (by rw [hR]; exact (Nat.le_of_ble_eq_true rfl))⟩) hS hP (fun z12 H locs hz12 hP hS => ?_)
    obtain ⟨bz12, fez12⟩ := hz12
    refine lv_iconst (v := 1) hx hb dX7_aboveOf_15 (by decide +kernel) ?_
    refine lv_isub hx hb dX7_aboveOf_16 ?_
    refine lv_topi (fun z16 ez16 => ?_)
    have bz16 := tq_sub (k := z12.toInt) (q := (1)) ez16 rfl (by decide +kernel) (by omega) (by omega)
    refine lv_aload_n hx hb dX7_aboveOf_17 rfl (lv_at hl 0 rfl) ?_
    obtain ⟨y18, ey18, hLy18, hKy18⟩ := oQ_7_20 (Sv_at hQ hLp0 hKp0)
    refine p_get (v := .ref y18) hx hb hts inX7 hown hK hP hLp0 hKp0 rfl rfl 20 (by decide) (hts _ pq1135) (congrArg (fun q => some (va_rf q)) ey18) dX7_aboveOf_18 ?_
    refine lv_iconst (v := 3) hx hb dX7_aboveOf_21 (by decide +kernel) ?_
    refine p_iald hx hb hK hP 16 hLy18 hKy18 rfl rfl (in_d (by decide +kernel)) dX7_aboveOf_22 ?_
    refine lv_topi (fun z22 ez22 => ?_)
    have bz22 := oR_26 (i := (3 : Int32)) (k := (3)) (by decide +kernel) (Iv_at hI hLy18 hKy18)
    rw [← ez22] at bz22
    refine lv_isub hx hb dX7_aboveOf_23 ?_
    refine lv_topi (fun z23 ez23 => ?_)
    have bz23 := tq_sub (k := z16.toInt) (q := z22.toInt) ez23 rfl rfl (by omega) (by omega)
    refine lv_goto (tgt := 33) hx hb dX7_aboveOf_24 (by decide) ?_
    subst hR; subst hQz
    exact W.iret (v := z23) hx hb hr (fun t ht hW => ⟨⟨z23, (), rfl, ⟨⟨by omega, by omega⟩, (fun c ok h hN => by have e3 : z3 = c.1 (19 + 8 * p2.toInt.toNat + 3) := (show z3 = I (a0 Q p0 0) (19 + 8 * p2.toInt.toNat + 3) from fez3).trans (h _ (by omega)); rw [← e3]; unfold cutA; have e12 : z12 = c.1 (11 + p1.toInt.toNat) := (show z12 = I (a0 Q p0 0) (11 + p1.toInt.toNat) from fez12).trans (h _ (by omega)); rw [if_pos (by omega), show a0 Q p0 20 = y18 from gd_of ey18, ← e12]; have e22 : z22 = I y18 3 := ez22; rw [← e22]; omega)⟩, trivial⟩, hS.F ht⟩) hS.2.2 dX7_aboveOf_33
