def yX7_readsRows : MethodName := ⟨RX7, "readsRows", "(I)V"⟩
abbrev cX7_readsRows : ByteArray := prog_9_method_21_code
abbrev cX7_readsForm : ByteArray := prog_9_method_18_code
def yX7_readsForm : MethodName := ⟨RX7, "readsForm", "()V"⟩
theorem dX7_readsForm_0 : decode cX7_readsForm 0 = .ok (.aload_n 0, 1) := by decide +kernel
theorem dX7_readsForm_1 : decode cX7_readsForm 1 = .ok (.getfield 13, 3) := by decide +kernel
theorem dX7_readsForm_4 : decode cX7_readsForm 4 = .ok (.iconst 0, 1) := by decide +kernel
theorem dX7_readsForm_5 : decode cX7_readsForm 5 = .ok (.iaload, 1) := by decide +kernel
theorem dX7_readsForm_6 : decode cX7_readsForm 6 = .ok (.istore_n 1, 1) := by decide +kernel
theorem dX7_readsForm_7 : decode cX7_readsForm 7 = .ok (.aload_n 0, 1) := by decide +kernel
theorem dX7_readsForm_8 : decode cX7_readsForm 8 = .ok (.invokevirtual 89, 3) := by decide +kernel
theorem dX7_readsForm_11 : decode cX7_readsForm 11 = .ok (.invokestatic 134, 3) := by decide +kernel
theorem dX7_readsForm_14 : decode cX7_readsForm 14 = .ok (.ifCond .eq 11, 3) := by decide +kernel
theorem dX7_readsForm_17 : decode cX7_readsForm 17 = .ok (.aload_n 0, 1) := by decide +kernel
theorem dX7_readsForm_18 : decode cX7_readsForm 18 = .ok (.iload_n 1, 1) := by decide +kernel
theorem dX7_readsForm_19 : decode cX7_readsForm 19 = .ok (.invokevirtual 138, 3) := by decide +kernel
theorem dX7_readsForm_22 : decode cX7_readsForm 22 = .ok (.goto 121, 3) := by decide +kernel
theorem dX7_readsForm_25 : decode cX7_readsForm 25 = .ok (.aload_n 0, 1) := by decide +kernel
theorem dX7_readsForm_26 : decode cX7_readsForm 26 = .ok (.ldc 141, 2) := by decide +kernel
theorem dX7_readsForm_28 : decode cX7_readsForm 28 = .ok (.invokevirtual 142, 3) := by decide +kernel
theorem dX7_readsForm_31 : decode cX7_readsForm 31 = .ok (.ifCond .ne 12, 3) := by decide +kernel
theorem dX7_readsForm_34 : decode cX7_readsForm 34 = .ok (.aload_n 0, 1) := by decide +kernel
theorem dX7_readsForm_35 : decode cX7_readsForm 35 = .ok (.ldc 146, 2) := by decide +kernel
theorem dX7_readsForm_37 : decode cX7_readsForm 37 = .ok (.invokevirtual 142, 3) := by decide +kernel
theorem dX7_readsForm_40 : decode cX7_readsForm 40 = .ok (.ifCond .eq 61, 3) := by decide +kernel
theorem dX7_readsForm_43 : decode cX7_readsForm 43 = .ok (.aload_n 0, 1) := by decide +kernel
theorem dX7_readsForm_44 : decode cX7_readsForm 44 = .ok (.getfield 45, 3) := by decide +kernel
theorem dX7_readsForm_47 : decode cX7_readsForm 47 = .ok (.aload_n 0, 1) := by decide +kernel
theorem dX7_readsForm_48 : decode cX7_readsForm 48 = .ok (.getfield 75, 3) := by decide +kernel
theorem dX7_readsForm_51 : decode cX7_readsForm 51 = .ok (.iconst 1, 1) := by decide +kernel
theorem dX7_readsForm_52 : decode cX7_readsForm 52 = .ok (.isub, 1) := by decide +kernel
theorem dX7_readsForm_53 : decode cX7_readsForm 53 = .ok (.baload, 1) := by decide +kernel
theorem dX7_readsForm_54 : decode cX7_readsForm 54 = .ok (.bipush 120, 2) := by decide +kernel
theorem dX7_readsForm_56 : decode cX7_readsForm 56 = .ok (.if_icmp .ne 7, 3) := by decide +kernel
theorem dX7_readsForm_59 : decode cX7_readsForm 59 = .ok (.iconst 1, 1) := by decide +kernel
theorem dX7_readsForm_60 : decode cX7_readsForm 60 = .ok (.goto 4, 3) := by decide +kernel
theorem dX7_readsForm_63 : decode cX7_readsForm 63 = .ok (.iconst 0, 1) := by decide +kernel
theorem dX7_readsForm_64 : decode cX7_readsForm 64 = .ok (.istore_n 2, 1) := by decide +kernel
theorem dX7_readsForm_65 : decode cX7_readsForm 65 = .ok (.aload_n 0, 1) := by decide +kernel
theorem dX7_readsForm_66 : decode cX7_readsForm 66 = .ok (.iconst 1, 1) := by decide +kernel
theorem dX7_readsForm_67 : decode cX7_readsForm 67 = .ok (.bipush 100, 2) := by decide +kernel
theorem dX7_readsForm_69 : decode cX7_readsForm 69 = .ok (.invokevirtual 131, 3) := by decide +kernel
theorem dX7_readsForm_72 : decode cX7_readsForm 72 = .ok (.istore_n 3, 1) := by decide +kernel
theorem dX7_readsForm_73 : decode cX7_readsForm 73 = .ok (.aload_n 0, 1) := by decide +kernel
theorem dX7_readsForm_74 : decode cX7_readsForm 74 = .ok (.iconst 1, 1) := by decide +kernel
theorem dX7_readsForm_75 : decode cX7_readsForm 75 = .ok (.bipush 40, 2) := by decide +kernel
theorem dX7_readsForm_77 : decode cX7_readsForm 77 = .ok (.invokevirtual 131, 3) := by decide +kernel
theorem dX7_readsForm_80 : decode cX7_readsForm 80 = .ok (.istore 4, 2) := by decide +kernel
theorem dX7_readsForm_82 : decode cX7_readsForm 82 = .ok (.aload_n 0, 1) := by decide +kernel
theorem dX7_readsForm_83 : decode cX7_readsForm 83 = .ok (.invokevirtual 85, 3) := by decide +kernel
theorem dX7_readsForm_86 : decode cX7_readsForm 86 = .ok (.ifCond .eq 12, 3) := by decide +kernel
theorem dX7_readsForm_89 : decode cX7_readsForm 89 = .ok (.aload_n 0, 1) := by decide +kernel
theorem dX7_readsForm_90 : decode cX7_readsForm 90 = .ok (.iload_n 1, 1) := by decide +kernel
theorem dX7_readsForm_91 : decode cX7_readsForm 91 = .ok (.iload_n 3, 1) := by decide +kernel
theorem dX7_readsForm_92 : decode cX7_readsForm 92 = .ok (.iload 4, 2) := by decide +kernel
theorem dX7_readsForm_94 : decode cX7_readsForm 94 = .ok (.iload_n 2, 1) := by decide +kernel
theorem dX7_readsForm_95 : decode cX7_readsForm 95 = .ok (.invokevirtual 148, 3) := by decide +kernel
theorem dX7_readsForm_98 : decode cX7_readsForm 98 = .ok (.goto 45, 3) := by decide +kernel
theorem dX7_readsForm_101 : decode cX7_readsForm 101 = .ok (.aload_n 0, 1) := by decide +kernel
theorem dX7_readsForm_102 : decode cX7_readsForm 102 = .ok (.ldc 152, 2) := by decide +kernel
theorem dX7_readsForm_104 : decode cX7_readsForm 104 = .ok (.invokevirtual 142, 3) := by decide +kernel
theorem dX7_readsForm_107 : decode cX7_readsForm 107 = .ok (.ifCond .eq 27, 3) := by decide +kernel
theorem dX7_readsForm_110 : decode cX7_readsForm 110 = .ok (.aload_n 0, 1) := by decide +kernel
theorem dX7_readsForm_111 : decode cX7_readsForm 111 = .ok (.iconst 0, 1) := by decide +kernel
theorem dX7_readsForm_112 : decode cX7_readsForm 112 = .ok (.bipush 19, 2) := by decide +kernel
theorem dX7_readsForm_114 : decode cX7_readsForm 114 = .ok (.invokevirtual 131, 3) := by decide +kernel
theorem dX7_readsForm_117 : decode cX7_readsForm 117 = .ok (.istore_n 2, 1) := by decide +kernel
theorem dX7_readsForm_118 : decode cX7_readsForm 118 = .ok (.aload_n 0, 1) := by decide +kernel
theorem dX7_readsForm_119 : decode cX7_readsForm 119 = .ok (.invokevirtual 85, 3) := by decide +kernel
theorem dX7_readsForm_122 : decode cX7_readsForm 122 = .ok (.ifCond .eq 9, 3) := by decide +kernel
theorem dX7_readsForm_125 : decode cX7_readsForm 125 = .ok (.aload_n 0, 1) := by decide +kernel
theorem dX7_readsForm_126 : decode cX7_readsForm 126 = .ok (.iload_n 1, 1) := by decide +kernel
theorem dX7_readsForm_127 : decode cX7_readsForm 127 = .ok (.iload_n 2, 1) := by decide +kernel
theorem dX7_readsForm_128 : decode cX7_readsForm 128 = .ok (.invokevirtual 154, 3) := by decide +kernel
theorem dX7_readsForm_131 : decode cX7_readsForm 131 = .ok (.goto 12, 3) := by decide +kernel
theorem dX7_readsForm_134 : decode cX7_readsForm 134 = .ok (.aload_n 0, 1) := by decide +kernel
theorem dX7_readsForm_135 : decode cX7_readsForm 135 = .ok (.iconst 1, 1) := by decide +kernel
theorem dX7_readsForm_136 : decode cX7_readsForm 136 = .ok (.aload_n 0, 1) := by decide +kernel
theorem dX7_readsForm_137 : decode cX7_readsForm 137 = .ok (.getfield 75, 3) := by decide +kernel
theorem dX7_readsForm_140 : decode cX7_readsForm 140 = .ok (.invokevirtual 113, 3) := by decide +kernel
theorem dX7_readsForm_143 : decode cX7_readsForm 143 = .ok (.aload_n 0, 1) := by decide +kernel
theorem dX7_readsForm_144 : decode cX7_readsForm 144 = .ok (.getfield 13, 3) := by decide +kernel
theorem dX7_readsForm_147 : decode cX7_readsForm 147 = .ok (.iconst 0, 1) := by decide +kernel
theorem dX7_readsForm_148 : decode cX7_readsForm 148 = .ok (.dup2, 1) := by decide +kernel
theorem dX7_readsForm_149 : decode cX7_readsForm 149 = .ok (.iaload, 1) := by decide +kernel
theorem dX7_readsForm_150 : decode cX7_readsForm 150 = .ok (.aload_n 0, 1) := by decide +kernel
theorem dX7_readsForm_151 : decode cX7_readsForm 151 = .ok (.invokevirtual 85, 3) := by decide +kernel
theorem dX7_readsForm_154 : decode cX7_readsForm 154 = .ok (.invokestatic 127, 3) := by decide +kernel
theorem dX7_readsForm_157 : decode cX7_readsForm 157 = .ok (.iadd, 1) := by decide +kernel
theorem dX7_readsForm_158 : decode cX7_readsForm 158 = .ok (.iastore, 1) := by decide +kernel
theorem dX7_readsForm_159 : decode cX7_readsForm 159 = .ok (.return_, 1) := by decide +kernel
theorem dX7_readsRows_0 : decode cX7_readsRows 0 = .ok (.iconst 0, 1) := by decide +kernel
theorem dX7_readsRows_1 : decode cX7_readsRows 1 = .ok (.istore_n 2, 1) := by decide +kernel
theorem dX7_readsRows_2 : decode cX7_readsRows 2 = .ok (.iconst 1, 1) := by decide +kernel
theorem dX7_readsRows_3 : decode cX7_readsRows 3 = .ok (.istore_n 3, 1) := by decide +kernel
theorem dX7_readsRows_4 : decode cX7_readsRows 4 = .ok (.iload_n 3, 1) := by decide +kernel
theorem dX7_readsRows_5 : decode cX7_readsRows 5 = .ok (.ifCond .eq 233, 3) := by decide +kernel
theorem dX7_readsRows_8 : decode cX7_readsRows 8 = .ok (.aload_n 0, 1) := by decide +kernel
theorem dX7_readsRows_9 : decode cX7_readsRows 9 = .ok (.invokevirtual 85, 3) := by decide +kernel
theorem dX7_readsRows_12 : decode cX7_readsRows 12 = .ok (.ifCond .eq 226, 3) := by decide +kernel
theorem dX7_readsRows_15 : decode cX7_readsRows 15 = .ok (.aload_n 0, 1) := by decide +kernel
theorem dX7_readsRows_16 : decode cX7_readsRows 16 = .ok (.invokevirtual 89, 3) := by decide +kernel
theorem dX7_readsRows_19 : decode cX7_readsRows 19 = .ok (.pop, 1) := by decide +kernel
theorem dX7_readsRows_20 : decode cX7_readsRows 20 = .ok (.aload_n 0, 1) := by decide +kernel
theorem dX7_readsRows_21 : decode cX7_readsRows 21 = .ok (.getfield 75, 3) := by decide +kernel
theorem dX7_readsRows_24 : decode cX7_readsRows 24 = .ok (.istore 4, 2) := by decide +kernel
theorem dX7_readsRows_26 : decode cX7_readsRows 26 = .ok (.iconst 0, 1) := by decide +kernel
theorem dX7_readsRows_27 : decode cX7_readsRows 27 = .ok (.istore 5, 2) := by decide +kernel
theorem dX7_readsRows_29 : decode cX7_readsRows 29 = .ok (.aload_n 0, 1) := by decide +kernel
theorem dX7_readsRows_30 : decode cX7_readsRows 30 = .ok (.invokevirtual 78, 3) := by decide +kernel
theorem dX7_readsRows_33 : decode cX7_readsRows 33 = .ok (.invokestatic 134, 3) := by decide +kernel
theorem dX7_readsRows_36 : decode cX7_readsRows 36 = .ok (.ifCond .eq 19, 3) := by decide +kernel
theorem dX7_readsRows_39 : decode cX7_readsRows 39 = .ok (.iinc 5 1, 3) := by decide +kernel
theorem dX7_readsRows_42 : decode cX7_readsRows 42 = .ok (.aload_n 0, 1) := by decide +kernel
theorem dX7_readsRows_43 : decode cX7_readsRows 43 = .ok (.dup, 1) := by decide +kernel
theorem dX7_readsRows_44 : decode cX7_readsRows 44 = .ok (.getfield 75, 3) := by decide +kernel
theorem dX7_readsRows_47 : decode cX7_readsRows 47 = .ok (.iconst 1, 1) := by decide +kernel
theorem dX7_readsRows_48 : decode cX7_readsRows 48 = .ok (.iadd, 1) := by decide +kernel
theorem dX7_readsRows_49 : decode cX7_readsRows 49 = .ok (.putfield 75, 3) := by decide +kernel
theorem dX7_readsRows_52 : decode cX7_readsRows 52 = .ok (.goto (-23), 3) := by decide +kernel
theorem dX7_readsRows_55 : decode cX7_readsRows 55 = .ok (.iload 5, 2) := by decide +kernel
theorem dX7_readsRows_57 : decode cX7_readsRows 57 = .ok (.ifCond .ne 12, 3) := by decide +kernel
theorem dX7_readsRows_60 : decode cX7_readsRows 60 = .ok (.aload_n 0, 1) := by decide +kernel
theorem dX7_readsRows_61 : decode cX7_readsRows 61 = .ok (.iconst 1, 1) := by decide +kernel
theorem dX7_readsRows_62 : decode cX7_readsRows 62 = .ok (.aload_n 0, 1) := by decide +kernel
theorem dX7_readsRows_63 : decode cX7_readsRows 63 = .ok (.getfield 75, 3) := by decide +kernel
theorem dX7_readsRows_66 : decode cX7_readsRows 66 = .ok (.invokevirtual 113, 3) := by decide +kernel
theorem dX7_readsRows_69 : decode cX7_readsRows 69 = .ok (.iload_n 2, 1) := by decide +kernel
theorem dX7_readsRows_70 : decode cX7_readsRows 70 = .ok (.bipush 40, 2) := by decide +kernel
theorem dX7_readsRows_72 : decode cX7_readsRows 72 = .ok (.if_icmp .ne 10, 3) := by decide +kernel
theorem dX7_readsRows_75 : decode cX7_readsRows 75 = .ok (.aload_n 0, 1) := by decide +kernel
theorem dX7_readsRows_76 : decode cX7_readsRows 76 = .ok (.iconst 3, 1) := by decide +kernel
theorem dX7_readsRows_77 : decode cX7_readsRows 77 = .ok (.iload 4, 2) := by decide +kernel
theorem dX7_readsRows_79 : decode cX7_readsRows 79 = .ok (.invokevirtual 113, 3) := by decide +kernel
theorem dX7_readsRows_82 : decode cX7_readsRows 82 = .ok (.iload_n 2, 1) := by decide +kernel
theorem dX7_readsRows_83 : decode cX7_readsRows 83 = .ok (.ifCond .ne 20, 3) := by decide +kernel
theorem dX7_readsRows_86 : decode cX7_readsRows 86 = .ok (.iload 5, 2) := by decide +kernel
theorem dX7_readsRows_88 : decode cX7_readsRows 88 = .ok (.bipush 100, 2) := by decide +kernel
theorem dX7_readsRows_90 : decode cX7_readsRows 90 = .ok (.if_icmp .le 13, 3) := by decide +kernel
theorem dX7_readsRows_93 : decode cX7_readsRows 93 = .ok (.aload_n 0, 1) := by decide +kernel
theorem dX7_readsRows_94 : decode cX7_readsRows 94 = .ok (.iconst 4, 1) := by decide +kernel
theorem dX7_readsRows_95 : decode cX7_readsRows 95 = .ok (.iload 4, 2) := by decide +kernel
theorem dX7_readsRows_97 : decode cX7_readsRows 97 = .ok (.bipush 100, 2) := by decide +kernel
theorem dX7_readsRows_99 : decode cX7_readsRows 99 = .ok (.iadd, 1) := by decide +kernel
theorem dX7_readsRows_100 : decode cX7_readsRows 100 = .ok (.invokevirtual 113, 3) := by decide +kernel
theorem dX7_readsRows_103 : decode cX7_readsRows 103 = .ok (.iload_n 2, 1) := by decide +kernel
theorem dX7_readsRows_104 : decode cX7_readsRows 104 = .ok (.ifCond .le 23, 3) := by decide +kernel
theorem dX7_readsRows_107 : decode cX7_readsRows 107 = .ok (.iload 5, 2) := by decide +kernel
theorem dX7_readsRows_109 : decode cX7_readsRows 109 = .ok (.aload_n 0, 1) := by decide +kernel
theorem dX7_readsRows_110 : decode cX7_readsRows 110 = .ok (.getfield 13, 3) := by decide +kernel
theorem dX7_readsRows_113 : decode cX7_readsRows 113 = .ok (.iconst 3, 1) := by decide +kernel
theorem dX7_readsRows_114 : decode cX7_readsRows 114 = .ok (.iload_n 1, 1) := by decide +kernel
theorem dX7_readsRows_115 : decode cX7_readsRows 115 = .ok (.iadd, 1) := by decide +kernel
theorem dX7_readsRows_116 : decode cX7_readsRows 116 = .ok (.iaload, 1) := by decide +kernel
theorem dX7_readsRows_117 : decode cX7_readsRows 117 = .ok (.if_icmp .eq 10, 3) := by decide +kernel
theorem dX7_readsRows_120 : decode cX7_readsRows 120 = .ok (.aload_n 0, 1) := by decide +kernel
theorem dX7_readsRows_121 : decode cX7_readsRows 121 = .ok (.iconst 4, 1) := by decide +kernel
theorem dX7_readsRows_122 : decode cX7_readsRows 122 = .ok (.iload 4, 2) := by decide +kernel
theorem dX7_readsRows_124 : decode cX7_readsRows 124 = .ok (.invokevirtual 113, 3) := by decide +kernel
theorem dX7_readsRows_127 : decode cX7_readsRows 127 = .ok (.aload_n 0, 1) := by decide +kernel
theorem dX7_readsRows_128 : decode cX7_readsRows 128 = .ok (.getfield 13, 3) := by decide +kernel
theorem dX7_readsRows_131 : decode cX7_readsRows 131 = .ok (.iconst 3, 1) := by decide +kernel
theorem dX7_readsRows_132 : decode cX7_readsRows 132 = .ok (.iload_n 1, 1) := by decide +kernel
theorem dX7_readsRows_133 : decode cX7_readsRows 133 = .ok (.iadd, 1) := by decide +kernel
theorem dX7_readsRows_134 : decode cX7_readsRows 134 = .ok (.aload_n 0, 1) := by decide +kernel
theorem dX7_readsRows_135 : decode cX7_readsRows 135 = .ok (.invokevirtual 85, 3) := by decide +kernel
theorem dX7_readsRows_138 : decode cX7_readsRows 138 = .ok (.ifCond .eq 8, 3) := by decide +kernel
theorem dX7_readsRows_141 : decode cX7_readsRows 141 = .ok (.iload 5, 2) := by decide +kernel
theorem dX7_readsRows_143 : decode cX7_readsRows 143 = .ok (.goto 4, 3) := by decide +kernel
theorem dX7_readsRows_146 : decode cX7_readsRows 146 = .ok (.iconst 0, 1) := by decide +kernel
theorem dX7_readsRows_147 : decode cX7_readsRows 147 = .ok (.iastore, 1) := by decide +kernel
theorem dX7_readsRows_148 : decode cX7_readsRows 148 = .ok (.iconst 0, 1) := by decide +kernel
theorem dX7_readsRows_149 : decode cX7_readsRows 149 = .ok (.istore 6, 2) := by decide +kernel
theorem dX7_readsRows_151 : decode cX7_readsRows 151 = .ok (.iload 6, 2) := by decide +kernel
theorem dX7_readsRows_153 : decode cX7_readsRows 153 = .ok (.iload 5, 2) := by decide +kernel
theorem dX7_readsRows_155 : decode cX7_readsRows 155 = .ok (.if_icmp .ge 42, 3) := by decide +kernel
theorem dX7_readsRows_158 : decode cX7_readsRows 158 = .ok (.aload_n 0, 1) := by decide +kernel
theorem dX7_readsRows_159 : decode cX7_readsRows 159 = .ok (.invokevirtual 85, 3) := by decide +kernel
theorem dX7_readsRows_162 : decode cX7_readsRows 162 = .ok (.ifCond .eq 35, 3) := by decide +kernel
theorem dX7_readsRows_165 : decode cX7_readsRows 165 = .ok (.aload_n 0, 1) := by decide +kernel
theorem dX7_readsRows_166 : decode cX7_readsRows 166 = .ok (.getfield 45, 3) := by decide +kernel
theorem dX7_readsRows_169 : decode cX7_readsRows 169 = .ok (.iload 4, 2) := by decide +kernel
theorem dX7_readsRows_171 : decode cX7_readsRows 171 = .ok (.iload 6, 2) := by decide +kernel
theorem dX7_readsRows_173 : decode cX7_readsRows 173 = .ok (.iadd, 1) := by decide +kernel
theorem dX7_readsRows_174 : decode cX7_readsRows 174 = .ok (.baload, 1) := by decide +kernel
theorem dX7_readsRows_175 : decode cX7_readsRows 175 = .ok (.bipush 35, 2) := by decide +kernel
theorem dX7_readsRows_177 : decode cX7_readsRows 177 = .ok (.if_icmp .ne 14, 3) := by decide +kernel
theorem dX7_readsRows_180 : decode cX7_readsRows 180 = .ok (.aload_n 0, 1) := by decide +kernel
theorem dX7_readsRows_181 : decode cX7_readsRows 181 = .ok (.getfield 29, 3) := by decide +kernel
theorem dX7_readsRows_184 : decode cX7_readsRows 184 = .ok (.iload_n 1, 1) := by decide +kernel
theorem dX7_readsRows_185 : decode cX7_readsRows 185 = .ok (.iload 6, 2) := by decide +kernel
theorem dX7_readsRows_187 : decode cX7_readsRows 187 = .ok (.iload_n 2, 1) := by decide +kernel
theorem dX7_readsRows_188 : decode cX7_readsRows 188 = .ok (.invokestatic 157, 3) := by decide +kernel
theorem dX7_readsRows_191 : decode cX7_readsRows 191 = .ok (.iinc 6 1, 3) := by decide +kernel
theorem dX7_readsRows_194 : decode cX7_readsRows 194 = .ok (.goto (-43), 3) := by decide +kernel
theorem dX7_readsRows_197 : decode cX7_readsRows 197 = .ok (.iinc 2 1, 3) := by decide +kernel
theorem dX7_readsRows_200 : decode cX7_readsRows 200 = .ok (.aload_n 0, 1) := by decide +kernel
theorem dX7_readsRows_201 : decode cX7_readsRows 201 = .ok (.invokevirtual 85, 3) := by decide +kernel
theorem dX7_readsRows_204 : decode cX7_readsRows 204 = .ok (.ifCond .eq 16, 3) := by decide +kernel
theorem dX7_readsRows_207 : decode cX7_readsRows 207 = .ok (.aload_n 0, 1) := by decide +kernel
theorem dX7_readsRows_208 : decode cX7_readsRows 208 = .ok (.invokevirtual 89, 3) := by decide +kernel
theorem dX7_readsRows_211 : decode cX7_readsRows 211 = .ok (.bipush 47, 2) := by decide +kernel
theorem dX7_readsRows_213 : decode cX7_readsRows 213 = .ok (.if_icmp .ne 7, 3) := by decide +kernel
theorem dX7_readsRows_216 : decode cX7_readsRows 216 = .ok (.iconst 1, 1) := by decide +kernel
theorem dX7_readsRows_217 : decode cX7_readsRows 217 = .ok (.goto 4, 3) := by decide +kernel
theorem dX7_readsRows_220 : decode cX7_readsRows 220 = .ok (.iconst 0, 1) := by decide +kernel
theorem dX7_readsRows_221 : decode cX7_readsRows 221 = .ok (.istore_n 3, 1) := by decide +kernel
theorem dX7_readsRows_222 : decode cX7_readsRows 222 = .ok (.aload_n 0, 1) := by decide +kernel
theorem dX7_readsRows_223 : decode cX7_readsRows 223 = .ok (.dup, 1) := by decide +kernel
theorem dX7_readsRows_224 : decode cX7_readsRows 224 = .ok (.getfield 75, 3) := by decide +kernel
theorem dX7_readsRows_227 : decode cX7_readsRows 227 = .ok (.iload_n 3, 1) := by decide +kernel
theorem dX7_readsRows_228 : decode cX7_readsRows 228 = .ok (.invokestatic 127, 3) := by decide +kernel
theorem dX7_readsRows_231 : decode cX7_readsRows 231 = .ok (.iadd, 1) := by decide +kernel
theorem dX7_readsRows_232 : decode cX7_readsRows 232 = .ok (.putfield 75, 3) := by decide +kernel
theorem dX7_readsRows_235 : decode cX7_readsRows 235 = .ok (.goto (-231), 3) := by decide +kernel
theorem dX7_readsRows_238 : decode cX7_readsRows 238 = .ok (.aload_n 0, 1) := by decide +kernel
theorem dX7_readsRows_239 : decode cX7_readsRows 239 = .ok (.getfield 13, 3) := by decide +kernel
theorem dX7_readsRows_242 : decode cX7_readsRows 242 = .ok (.bipush 11, 2) := by decide +kernel
theorem dX7_readsRows_244 : decode cX7_readsRows 244 = .ok (.iload_n 1, 1) := by decide +kernel
theorem dX7_readsRows_245 : decode cX7_readsRows 245 = .ok (.iadd, 1) := by decide +kernel
theorem dX7_readsRows_246 : decode cX7_readsRows 246 = .ok (.iload_n 2, 1) := by decide +kernel
theorem dX7_readsRows_247 : decode cX7_readsRows 247 = .ok (.iastore, 1) := by decide +kernel
theorem dX7_readsRows_248 : decode cX7_readsRows 248 = .ok (.return_, 1) := by decide +kernel
set_option maxRecDepth 100000 in
theorem pq14 : Cond.selects RX7 yX7_takes yX7_takes ∈ pw := pw_mem (i := 14) (by decide +kernel) rfl
set_option maxRecDepth 100000 in
theorem pq17 : Cond.selects RX7 yX7_readsRows yX7_readsRows ∈ pw := pw_mem (i := 17) (by decide +kernel) rfl
set_option maxRecDepth 100000 in
theorem pq19 : Cond.selects RX7 yX7_laysBox yX7_laysBox ∈ pw := pw_mem (i := 19) (by decide +kernel) rfl
set_option maxRecDepth 100000 in
theorem pq20 : Cond.selects RX7 yX7_laysDisk yX7_laysDisk ∈ pw := pw_mem (i := 20) (by decide +kernel) rfl
set_option maxRecDepth 100000 in
theorem pq1228 : Cond.methodLink RX7 142 yX7_takes ∈ pw := pw_mem (i := 1228) (by decide +kernel) rfl
set_option maxRecDepth 100000 in
theorem pq1230 : Cond.instanceMethod yX7_takes ∈ pw := pw_mem (i := 1230) (by decide +kernel) rfl
set_option maxRecDepth 100000 in
theorem pq1231 : Cond.code yX7_takes cX7_takes 5 (some .boolean) ∈ pw := pw_mem (i := 1231) (by rfl) rfl
set_option maxRecDepth 100000 in
theorem pq1247 : Cond.methodLink RX7 134 yX7_isSign ∈ pw := pw_mem (i := 1247) (by decide +kernel) rfl
set_option maxRecDepth 100000 in
theorem pq1248 : Cond.static yX7_isSign ∈ pw := pw_mem (i := 1248) (by decide +kernel) rfl
set_option maxRecDepth 100000 in
theorem pq1249 : Cond.code yX7_isSign cX7_isSign 1 (some .boolean) ∈ pw := pw_mem (i := 1249) (by rfl) rfl
set_option maxRecDepth 100000 in
theorem pq1250 : Cond.methodLink RX7 138 yX7_readsRows ∈ pw := pw_mem (i := 1250) (by decide +kernel) rfl
set_option maxRecDepth 100000 in
theorem pq1252 : Cond.instanceMethod yX7_readsRows ∈ pw := pw_mem (i := 1252) (by decide +kernel) rfl
set_option maxRecDepth 100000 in
theorem pq1253 : Cond.code yX7_readsRows cX7_readsRows 7 none ∈ pw := pw_mem (i := 1253) (by rfl) rfl
set_option maxRecDepth 100000 in
theorem pq1270 : Cond.methodLink RX7 148 yX7_laysBox ∈ pw := pw_mem (i := 1270) (by decide +kernel) rfl
set_option maxRecDepth 100000 in
theorem pq1272 : Cond.instanceMethod yX7_laysBox ∈ pw := pw_mem (i := 1272) (by decide +kernel) rfl
set_option maxRecDepth 100000 in
theorem pq1273 : Cond.code yX7_laysBox cX7_laysBox 7 none ∈ pw := pw_mem (i := 1273) (by rfl) rfl
set_option maxRecDepth 100000 in
theorem pq1275 : Cond.methodLink RX7 154 yX7_laysDisk ∈ pw := pw_mem (i := 1275) (by decide +kernel) rfl
set_option maxRecDepth 100000 in
theorem pq1277 : Cond.instanceMethod yX7_laysDisk ∈ pw := pw_mem (i := 1277) (by decide +kernel) rfl
set_option maxRecDepth 100000 in
theorem pq1278 : Cond.code yX7_laysDisk cX7_laysDisk 5 none ∈ pw := pw_mem (i := 1278) (by rfl) rfl
set_option maxHeartbeats 4000000 in
set_option maxRecDepth 100000 in
theorem s_X7_readsRows (l : Launch) (dC : Nat → ClassId) (dI : Nat → Nat → Nat) (cs : Nat → ClassId) (L : List Nat) (K G : Nat → Nat) (Q : Nat → Nat → Option Nat) (hQ : Sv L K G Q) (x0 m0 : Nat) (tx : GT) (tm : GT × Int) (sz : Nat) (I : Nat → Nat → Int32) (J : Nat → Nat → Int64) (hI : Iv L K x0 m0 tx tm I) (p0 : Nat) (hLp0 : p0 ∈ L) (hKp0 : K p0 = 7) (p1 : Int32) (bp1 : (0) ≤ p1.toInt ∧ p1.toInt ≤ 7) (ho : hOK Q I p0) (hf : (I p0 15).toInt = -1) : Met l yX7_readsRows (.code yX7_readsRows cX7_readsRows 7 none :: pw) ({ frames := 2, cells := 0, slots := 0, locals := 42 }) (sP (dC, dI) cs [.ref p0, .int p1] sz L K I J Q) (va_Qv (fun (_ : Unit) => True) (fun _ t => sB (dC, dI) cs L K Q (fun I1 J1 => Iv L K x0 m0 tx tm I1 ∧ (∀ b, ¬ (K b = 7 ∨ K b = 28) → I1 b = I b) ∧ I1 p0 11 = I p0 11 ∧ (hHK Q I I1 p0) ∧ mdQ I I1 p0 (prw (tb tm.1.2.2 (I p0 13).toInt) 41 0 0 (I p0 14).toInt) ∧ (∀ b, K b = 0 ∨ K b = 1 ∨ K b = 3 ∨ K b = 6 → I1 b = I b) ∧ (((I1 p0 15).toInt = -1 → (∀ k, k < 80 → mo (J (a0 Q p0 6)) p1.toInt.toNat k = 0) → hdM Q I I1 J1 p0 p1.toInt.toNat (rwT (tb tm.1.2.2 (I p0 13).toInt) (I p0 14).toInt)) ∧ (∀ k, (k < 80 * p1.toInt.toNat ∨ 80 * p1.toInt.toNat + 80 ≤ k) → J1 (a0 Q p0 6) k = J (a0 Q p0 6) k)) ∧ (∀ b, ¬ (K b = 32) → J1 b = J b)) t) (fun q => q ∈ L ∨ sz ≤ q)) 0 0 (fun q => q ∈ L ∨ sz ≤ q) := by
  refine Met.ofW (cc := cX7_readsRows) (maxL := 7) (ret := none) (by decide +kernel) rfl ?_
  intro p e s m args below meth c s₁ B hml hv
  obtain ⟨rfl, hsz, hP, hK, hD0, hN⟩ := hv
  have hx := B.exec
  have hb := B.bytes
  have hr := B.returns
  have hts := fun w (h : w ∈ pw) => atoms_spec (ws := Cond.code yX7_readsRows cX7_readsRows 7 none :: pw) B.pre w (List.mem_cons_of_mem _ h)
  have hown : s.vm.findClass RX7 = some m.cls := findClass_of_methodNamed B.named
  have hlocks := B.notSynchronized
  subst hsz
  have hBB : 999 ≤ tm.2 ∧ tm.2 ≤ 6000000 := hI.2.2.2.2.1
  have hk_I : hHK Q I I p0 := hK_refl ho
  have dn_I : (∀ b, K b = 0 ∨ K b = 1 ∨ K b = 3 ∨ K b = 6 → I b = I b) := fun _ _ => rfl
  have dj_J : (∀ b, ¬ (K b = 32) → J b = J b) := fun _ _ => rfl
  have kp0_11_I : I p0 11 = I p0 11 := rfl
  have fr_I : ∀ b, ¬ (K b = 7 ∨ K b = 28) → I b = I b := fun _ _ => rfl
  obtain ⟨A, hAe⟩ : ∃ A : Nat → Prop, A = (fun q => q ∈ L ∨ s.heap.size ≤ q) := ⟨_, rfl⟩
  rw [← hAe]
  have hAL : ∀ q, q ∈ L → A q := fun q h => by rw [hAe]; exact Or.inl h
  have hA : ∀ q, s.heap.size ≤ q → A q := fun q h => by rw [hAe]; exact Or.inr h
  have hD : ∀ F, va_D A (va_pl L F) := fun F => (hD0 F).weaken (fun k q hk _ => hAL _ (pl_mem hk))
  obtain ⟨H, hHe⟩ : ∃ H : Heap, H = s.heap := ⟨_, rfl⟩
  have hS : va_S A s.heap H [] := by rw [hHe]; exact va_S.rf
  rw [← hHe] at hP
  have hl := lv_entry ([.ref p0, .int p1]) (n := 7) (Nat.le_of_ble_eq_true rfl)
  rw [lg_entry_eq]
  generalize (lg_sl ([.ref p0, .int p1]) ++ List.replicate (7 - (lg_sl ([.ref p0, .int p1])).length) Slot.unset).toArray = ls at hl ⊢
  have hl : lv_has ls 7 [(0, .ref p0), (1, .int p1)] := hl
  rw [← hHe]
  refine namedW (fun R Qz hR hQz => ?_)
  obtain ⟨yh0, eyh0, hLyh, hKyh⟩ := oQ_7_1 (Sv_at hQ hLp0 hKp0)
  have eYH : ((Q p0 1).getD 0) = yh0 := by rw [eyh0]; rfl
  have nyh : ¬ ((Q p0 1).getD 0) = p0 := by rw [eYH]; exact ne_k hKyh hKp0 (by decide)
  have hby := tpB hQ hI hLp0 hKp0
  refine lv_iconst (v := 0) hx hb dX7_readsRows_0 (by decide +kernel) ?_
  refine lv_istore_n (lv' := [(2, .int 0), (0, .ref p0), (1, .int p1)]) hx hb dX7_readsRows_1 rfl hl (by decide) rfl (fun ls hl => ?_)
  refine lv_iconst (v := 1) hx hb dX7_readsRows_2 (by decide +kernel) ?_
  refine lv_istore_n (lv' := [(3, .int 1), (2, .int 0), (0, .ref p0), (1, .int p1)]) hx hb dX7_readsRows_3 rfl hl (by decide) rfl (fun ls hl => ?_)
  have key4 := blocks (fun n => ∀ (v4_2 : Int32) (v4_3 : Int32) (I4 : Nat → Nat → Int32) (J4 : Nat → Nat → Int64) (H : Heap) (lo : List Loc) (ls : Array Slot), 2 * (401 - (I4 p0 14).toInt).toNat + v4_3.toInt.toNat = n → ((0) ≤ v4_2.toInt ∧ v4_2.toInt ≤ 41) → ((0) ≤ v4_3.toInt ∧ v4_3.toInt ≤ 1) → Iv L K x0 m0 tx tm I4 → I4 p0 11 = I p0 11 → (∀ b, ¬ (K b = 7 ∨ K b = 28) → I4 b = I b) → hHK Q I I4 p0 → (∀ b, K b = 0 ∨ K b = 1 ∨ K b = 3 ∨ K b = 6 → I4 b = I b) → (∀ b, ¬ (K b = 32) → J4 b = J b) → Hid ((((∀ k, k < 80 → mo (J (a0 Q p0 6)) p1.toInt.toNat k = 0) → (I4 p0 15).toInt = -1 → (v4_3.toInt = 1 → rrI (tb tm.1.2.2 (I p0 13).toInt) (I p0 14).toInt (mo (J4 (a0 Q p0 6)) p1.toInt.toNat) v4_2.toInt (I4 ((Q p0 1).getD 0) (3 + p1.toInt.toNat)).toInt (I4 p0 14).toInt) ∧ (v4_3.toInt = 0 → (v4_2.toInt = nrw (tb tm.1.2.2 (I p0 13).toInt) 41 (I p0 14).toInt ∧ (I4 ((Q p0 1).getD 0) (3 + p1.toInt.toNat)).toInt = nwd (tb tm.1.2.2 (I p0 13).toInt) (I p0 14).toInt ∧ ∀ a b : Int, md (mo (J4 (a0 Q p0 6)) p1.toInt.toNat) a b = rwD (tb tm.1.2.2 (I p0 13).toInt) (nwd (tb tm.1.2.2 (I p0 13).toInt) (I p0 14).toInt) (nrw (tb tm.1.2.2 (I p0 13).toInt) 41 (I p0 14).toInt) (I p0 14).toInt a b))) ∧ (∀ k, ¬ k = (3 + p1.toInt.toNat) → I4 ((Q p0 1).getD 0) k = I ((Q p0 1).getD 0) k) ∧ (∀ k, (k < 80 * p1.toInt.toNat ∨ 80 * p1.toInt.toNat + 80 ≤ k) → J4 (a0 Q p0 6) k = J (a0 Q p0 6) k))) → Hid (((I4 p0 15).toInt = -1 → v4_2.toInt ≤ 40)) → rwL (tb tm.1.2.2 (I p0 13).toInt) I I4 p0 ((Q p0 1).getD 0) (3 + p1.toInt.toNat) v4_3.toInt v4_2.toInt (I4 p0 14).toInt (prw (tb tm.1.2.2 (I p0 13).toInt) 41 0 0 (I p0 14).toInt) → va_P (dC, dI) vwCl (Wd cs L K I4 J4 Q) H → va_S A s.heap H lo → lv_has ls 7 [(0, .ref p0), (1, .int p1), (2, .int v4_2), (3, .int v4_3)] → W p l e R s m (([.ref p0, .int p1] : List Value).toArray) below meth c H lo 0 0 Qz (F0 m 4 ls [])) (by
    intro n ih4
    intro v4_2 v4_3 I4 J4 H lo ls hmu4 bv4_2 bv4_3 hI4 kp0_11_I4 fr_I4 hk_I4 dn_I4 dj_J4 g4 h4 hc4 hP hS hl
    refine lv_iload_n hx hb dX7_readsRows_4 rfl (lv_at hl 3 rfl) ?_
    have j238 : ∀ (H : Heap) (lo : List Loc) (ls : Array Slot), Hid (((∀ k, k < 80 → mo (J (a0 Q p0 6)) p1.toInt.toNat k = 0) → (I4 p0 15).toInt = -1 → v4_3.toInt = 0)) → mdQ I I4 p0 (prw (tb tm.1.2.2 (I p0 13).toInt) 41 0 0 (I p0 14).toInt) → va_P (dC, dI) vwCl (Wd cs L K I4 J4 Q) H → va_S A s.heap H lo → lv_has ls 7 [(0, .ref p0), (1, .int p1), (2, .int v4_2), (3, .int v4_3)] → W p l e R s m (([.ref p0, .int p1] : List Value).toArray) below meth c H lo 0 0 Qz (F0 m 238 ls []) := by
      intro H lo ls g238 hc238 hP hS hl
      refine lv_aload_n hx hb dX7_readsRows_238 rfl (lv_at hl 0 rfl) ?_
      obtain ⟨y239, ey239, hLy239, hKy239⟩ := oQ_7_1 (Sv_at hQ hLp0 hKp0)
      refine p_get (v := .ref y239) hx hb hts inX7 hown hK hP hLp0 hKp0 rfl rfl 1 (by decide) (hts _ pq1116) (congrArg (fun q => some (va_rf q)) ey239) dX7_readsRows_239 ?_
      refine lv_bipush (v := 11) hx hb dX7_readsRows_242 (by decide +kernel) ?_
      refine lv_iload_n hx hb dX7_readsRows_244 rfl (lv_at hl 1 rfl) ?_
      refine lv_iadd hx hb dX7_readsRows_245 ?_
      refine lv_topi (fun z245 ez245 => ?_)
      have bz245 := tq_add (k := (11)) (q := p1.toInt) ez245 (by decide +kernel) rfl (by omega) (by omega)
      refine lv_iload_n hx hb dX7_readsRows_246 rfl (lv_at hl 2 rfl) ?_
      refine p_iast hx hb hK hP hD hS 18 hLy239 hKy239 rfl (fun _ => rfl) rfl (in_of (by omega) (by omega)) dX7_readsRows_247 (fun H locs hP hS => ?_)
      obtain ⟨Iz247, hP, hIz247, qIz247⟩ : ∃ Iz247, va_P (dC, dI) vwCl (Wd cs L K Iz247 J4 Q) H ∧ Iv L K x0 m0 tx tm Iz247 ∧ Iz247 = va_up I4 y239 (upd (I4 y239) z245.toNatClampNeg v4_2) := ⟨_, hP, Iv_put hI4 hKy239 (show okI _ 28 _ from trivial) (Or.inl (by decide)) (Or.inl (by decide)), rfl⟩
      have dn_Iz247 : (∀ b, K b = 0 ∨ K b = 1 ∨ K b = 3 ∨ K b = 6 → Iz247 b = I b) := fun b hc => (congrFun qIz247 b).trans ((va_up_ne _ _ (fun z => by have q := hKy239; rw [← z] at q; omega)).trans (dn_I4 b hc))
      have hk_Iz247 := hK_put hQ hLp0 hKp0 ey239 qIz247 ⟨by omega, fun h => by have := h4 h; unfold rng; omega⟩ hk_I4
      have kp0_11_Iz247 : Iz247 p0 11 = I p0 11 := (congrFun (congrFun qIz247 p0) 11).trans ((congrFun (va_up_ne _ _ (fun z => by have q1 := hKp0; have q2 := hKy239; rw [z] at q1; omega)) 11).trans kp0_11_I4)
      have fr_Iz247 : ∀ b, ¬ (K b = 7 ∨ K b = 28) → Iz247 b = I b := fun b q => (congrFun qIz247 b).trans ((va_up_ne _ _ (fun z => q (by rw [z]; have := hKy239; omega))).trans (fr_I4 b q))
      subst hR; subst hQz
      exact W.vret hx hb hr (fun t ht hW => ⟨⟨(), rfl, trivial, ⟨Iz247, J4, ⟨hIz247, fr_Iz247, kp0_11_Iz247, hk_Iz247, (mdQ_S hc238 (md_fr (by rw [qIz247, va_up_ne _ _ (ne_k hKp0 hKy239 (by decide))]))), dn_Iz247, ⟨fun hF hz => by rw [qIz247, va_up_ne _ _ (ne_k hKp0 hKy239 (by decide))] at hF; have q := (g4.1 hz hF).2 (g238 hz hF); exact ⟨by rw [show a0 Q p0 1 = y239 from gd_of ey239, qIz247, va_up_self, show z245.toNatClampNeg = 11 + p1.toInt.toNat from (by show z245.toInt.toNat = _; omega)]; have e : ((Q p0 1).getD 0) = y239 := gd_of ey239; have w := q.2.1; have f := g4.2.1; rw [e] at w f; exact hd_upd w f q.1, q.2.2⟩, g4.2.2⟩, dj_J4⟩, by rw [ht]; exact hP⟩⟩, hS.F ht⟩) hS.2.2 dX7_readsRows_248
    refine lv_if_eq (tgt := 238) hx hb dX7_readsRows_5 (by decide) (fun c5 => ?_) (fun c5 => ?_)
    · have t5 := tq_eq (k := v4_3.toInt) (q := (0)) c5 rfl (by decide +kernel)
      exact j238  _ _ _ (fun _ _ => t5) (rwL_end hc4 t5 hf) hP hS (lv_sub hl [0, 1, 2, 3] rfl)
    · have t5 := tq_ne (k := v4_3.toInt) (q := (0)) c5 rfl (by decide +kernel)
      refine lv_aload_n hx hb dX7_readsRows_8 rfl (lv_at hl 0 rfl) ?_
      refine ro_i (va_runV (As := []) (rest := []) ⟨hx, hb, hml, hown, hts⟩ (s_X7_isRight l dC dI cs L K G Q hQ x0 m0 tx tm H.size I4 J4 hI4 p0 hLp0 hKp0) (cwV 0 hts (gV pq1219 pq1221 pq12 pq81 pq1222) rfl rfl rfl (by decide +kernel) ⟨(by rw [hR]; exact (Nat.le_of_ble_eq_true rfl)), (by rw [hR]; exact (Nat.le_of_ble_eq_true rfl))⟩) (sP_V hP hD hK hN hLp0 hKp0 rfl rfl) rfl rfl hl.1 rfl (lv_room (Nat.le_of_ble_eq_true rfl)) dX7_readsRows_9 ⟨(by rw [hR]; exact (Nat.le_of_ble_eq_true rfl)), (by rw [hR]; exact (Nat.le_of_ble_eq_true rfl))⟩) hS hP (fun z9 H locs hz9 hP hS => ?_)
      obtain ⟨bz9, xpz9⟩ := hz9
      replace xpz9 : Hid _ := xpz9
      refine lv_if_eq (tgt := 238) hx hb dX7_readsRows_12 (by decide) (fun c12 => ?_) (fun c12 => ?_)
      · have t12 := tq_eq (k := z9.toInt) (q := (0)) c12 rfl (by decide +kernel)
        exact j238  _ _ _ (fun _ h => absurd h (xpz9.2 t12)) (rwL_bad hc4 (xpz9.2 t12) hf) hP hS (lv_sub hl [0, 1, 2, 3] rfl)
      · have t12 := tq_ne (k := z9.toInt) (q := (0)) c12 rfl (by decide +kernel)
        have r4 := h4 (xpz9.1 t12)
        have L4 := rwL_go hc4 t5
        have G4 : (∀ k, k < 80 → mo (J (a0 Q p0 6)) p1.toInt.toNat k = 0) → rrI (tb tm.1.2.2 (I p0 13).toInt) (I p0 14).toInt (mo (J4 (a0 Q p0 6)) p1.toInt.toNat) v4_2.toInt (I4 ((Q p0 1).getD 0) (3 + p1.toInt.toNat)).toInt (I4 p0 14).toInt := fun hz => (g4.1 hz L4.2.1).1 (by omega)
        refine lv_aload_n hx hb dX7_readsRows_15 rfl (lv_at hl 0 rfl) ?_
        refine sw_ir (Z := (fun u => (fun I1 J1 => Iv L K x0 m0 tx tm I1 ∧ (∀ b, ¬ (b = p0) → I1 b = I4 b) ∧ I1 p0 11 = I4 p0 11 ∧ ((I4 p0 14).toInt ≤ (I1 p0 14).toInt ∧ ((I1 p0 15).toInt = -1 → (I4 p0 15).toInt = -1) ∧ (∀ k, ¬ k = 14 → I1 p0 k = I4 p0 k) ∧ (¬ u.toInt = -1 → (I1 p0 14).toInt < (I1 p0 13).toInt)) ∧ (u.toInt = sgB ((tb tm.1.2.2 (I4 p0 13).toInt) (sk (tb tm.1.2.2 (I4 p0 13).toInt) (I4 p0 14).toInt)) ∧ (I1 p0 14).toInt = (sk (tb tm.1.2.2 (I4 p0 13).toInt) (I4 p0 14).toInt)) ∧ (∀ b, K b = 0 ∨ K b = 1 ∨ K b = 3 ∨ K b = 6 → I1 b = I4 b) ∧ J1 = J4))) (va_runV (As := []) (rest := []) ⟨hx, hb, hml, hown, hts⟩ (s_X7_next l dC dI cs L K G Q hQ x0 m0 tx tm H.size I4 J4 hI4 p0 hLp0 hKp0) (cwV 0 hts (gV pq1211 pq1213 pq10 pq81 pq1214) rfl rfl rfl (by decide +kernel) ⟨(by rw [hR]; exact (Nat.le_of_ble_eq_true rfl)), (by rw [hR]; exact (Nat.le_of_ble_eq_true rfl))⟩) (sP_V hP hD hK hN hLp0 hKp0 rfl rfl) rfl rfl hl.1 rfl (lv_room (Nat.le_of_ble_eq_true rfl)) dX7_readsRows_16 ⟨(by rw [hR]; exact (Nat.le_of_ble_eq_true rfl)), (by rw [hR]; exact (Nat.le_of_ble_eq_true rfl))⟩) hS hAL hA (fun z16 Iz16 Jz16 H locs hz16 hIz16 hP hS => ?_)
        obtain ⟨hIz16, frc16, kc16_0_11, zr16, fz16, dnc16, djc16⟩ := hIz16
        obtain rfl : J4 = Jz16 := djc16.symm
        replace zr16 : Hid _ := zr16
        replace fz16 : Hid _ := fz16
        have hk_Iz16 := hK_call hQ hLp0 hKp0 frc16 zr16.1 zr16.2.1 hk_I4
        have dn_Iz16 : (∀ b, K b = 0 ∨ K b = 1 ∨ K b = 3 ∨ K b = 6 → Iz16 b = I b) := fun b hc => (dnc16 b (by omega)).trans (dn_I4 b hc)
        have kp0_11_Iz16 : Iz16 p0 11 = I p0 11 := kc16_0_11.trans kp0_11_I4
        have fr_Iz16 : ∀ b, ¬ (K b = 7 ∨ K b = 28) → Iz16 b = I b := fun b q => (frc16 b (fun z => q (by rw [z]; have := hKp0; omega))).trans (fr_I4 b q)
        have bz16 := hz16
        refine lv_pop hx hb dX7_readsRows_19 rfl ?_
        refine lv_aload_n hx hb dX7_readsRows_20 rfl (lv_at hl 0 rfl) ?_
        refine p_get hx hb hts inX7 hown hK hP hLp0 hKp0 rfl rfl 14 (by decide) (hts _ pq1129) rfl dX7_readsRows_21 ?_
        refine lv_topi (fun z21 ez21 => ?_)
        have cgz21 := congrArg Int32.toInt ez21
        have bz21 := oI_7_14 (Iv_at hIz16 hLp0 hKp0)
        rw [← ez21] at bz21
        have e21 : z21.toInt = (sk (tb tm.1.2.2 (I p0 13).toInt) (I4 p0 14).toInt) := by have q := fz16.2; rw [L4.1] at q; exact cgz21.trans q
        have s0 : 0 ≤ (sk (tb tm.1.2.2 (I p0 13).toInt) (I4 p0 14).toInt) := by rw [← e21]; omega
        refine lv_istore (lv' := [(4, .int z21), (0, .ref p0), (1, .int p1), (2, .int v4_2), (3, .int v4_3)]) hx hb dX7_readsRows_24 hl (by decide) rfl (fun ls hl => ?_)
        refine lv_iconst (v := 0) hx hb dX7_readsRows_26 (by decide +kernel) ?_
        refine lv_istore (lv' := [(5, .int 0), (4, .int z21), (0, .ref p0), (1, .int p1), (2, .int v4_2), (3, .int v4_3)]) hx hb dX7_readsRows_27 hl (by decide) rfl (fun ls hl => ?_)
        have key29 := blocks (fun n => ∀ (v29_5 : Int32) (I29 : Nat → Nat → Int32) (H : Heap) (lo : List Loc) (ls : Array Slot), (401 - (I29 p0 14).toInt).toNat = n → ((0) ≤ v29_5.toInt ∧ v29_5.toInt ≤ 400) → Iv L K x0 m0 tx tm I29 → I29 p0 11 = I p0 11 → (∀ b, ¬ (K b = 7 ∨ K b = 28) → I29 b = I b) → hHK Q I I29 p0 → (∀ b, K b = 0 ∨ K b = 1 ∨ K b = 3 ∨ K b = 6 → I29 b = I b) → ((I29 p0 14).toInt = z21.toInt + v29_5.toInt ∧ z21.toInt ≤ (I29 p0 14).toInt) → Hid (((∀ k, z21.toInt ≤ k → k < (I29 p0 14).toInt → pS ((tb tm.1.2.2 (I p0 13).toInt) k) = true) ∧ (I29 p0 13 = I p0 13 ∧ (I29 p0 15).toInt = -1 ∧ I29 ((Q p0 1).getD 0) = I4 ((Q p0 1).getD 0)))) → va_P (dC, dI) vwCl (Wd cs L K I29 J4 Q) H → va_S A s.heap H lo → lv_has ls 7 [(0, .ref p0), (1, .int p1), (2, .int v4_2), (3, .int v4_3), (4, .int z21), (5, .int v29_5)] → W p l e R s m (([.ref p0, .int p1] : List Value).toArray) below meth c H lo 0 0 Qz (F0 m 29 ls [])) (by
          intro n ih29
          intro v29_5 I29 H lo ls hmu29 bv29_5 hI29 kp0_11_I29 fr_I29 hk_I29 dn_I29 h29 hc29 hP hS hl
          have b13 := oI_7_13 (Iv_at hI29 hLp0 hKp0)
          have b14 := oI_7_14 (Iv_at hI29 hLp0 hKp0)
          refine lv_aload_n hx hb dX7_readsRows_29 rfl (lv_at hl 0 rfl) ?_
          refine ro_i (va_runV (As := []) (rest := []) ⟨hx, hb, hml, hown, hts⟩ (s_X7_sign l dC dI cs L K G Q hQ x0 m0 tx tm H.size I29 J4 hI29 p0 hLp0 hKp0) (cwV 0 hts (gV pq1215 pq1217 pq11 pq81 pq1218) rfl rfl rfl (by decide +kernel) ⟨(by rw [hR]; exact (Nat.le_of_ble_eq_true rfl)), (by rw [hR]; exact (Nat.le_of_ble_eq_true rfl))⟩) (sP_V hP hD hK hN hLp0 hKp0 rfl rfl) rfl rfl hl.1 rfl (lv_room (Nat.le_of_ble_eq_true rfl)) dX7_readsRows_30 ⟨(by rw [hR]; exact (Nat.le_of_ble_eq_true rfl)), (by rw [hR]; exact (Nat.le_of_ble_eq_true rfl))⟩) hS hP (fun z30 H locs hz30 hP hS => ?_)
          obtain ⟨bz30, fez30, xpz30⟩ := hz30
          replace xpz30 : Hid _ := xpz30
          refine ro_i (va_runS (As := [.int z30]) (rest := []) ⟨hx, hb, hml, hown, hts⟩ (s_X7_isSign l dC dI cs L K G Q hQ x0 m0 tx tm H.size I29 J4 hI29 z30) (va_cwS 1 hts (gS pq1247 pq1248 pq81 pq1249) rfl rfl rfl (by decide +kernel) ⟨(by rw [hR]; exact (Nat.le_of_ble_eq_true rfl)), (by rw [hR]; exact (Nat.le_of_ble_eq_true rfl))⟩) (sP_S hP hD hK hN) rfl rfl hl.1 rfl (lv_room (Nat.le_of_ble_eq_true rfl)) dX7_readsRows_33 ⟨(by rw [hR]; exact (Nat.le_of_ble_eq_true rfl)), (by rw [hR]; exact (Nat.le_of_ble_eq_true rfl))⟩) hS hP (fun z33 H locs hz33 hP hS => ?_)
          obtain ⟨bz33, imz33, xpz33⟩ := hz33
          replace xpz33 : Hid _ := xpz33
          refine lv_if_eq (tgt := 55) hx hb dX7_readsRows_36 (by decide) (fun c36 => ?_) (fun c36 => ?_)
          · have t36 := tq_eq (k := z33.toInt) (q := (0)) c36 rfl (by decide +kernel)
            have hpn : z21.toInt + v29_5.toInt ≤ 400 := by have := oI_7_14 (Iv_at hI29 hLp0 hKp0); omega
            have h55 : (I29 p0 14).toInt = sr (tb tm.1.2.2 (I p0 13).toInt) z21.toInt := rn_eq h29.2 (by omega) hc29.1 (decide_eq_false (fun h => xpz33.2 t36 (by have w := xpz30.2; rw [hc29.2.1] at w; exact h.elim (fun e => Or.inl (w.trans (by rw [e]; exact sg_c (by decide)))) (fun e => Or.inr (w.trans (by rw [e]; exact sg_c (by decide)))))))
            have g55 : v29_5.toInt = (sr (tb tm.1.2.2 (I p0 13).toInt) (sk (tb tm.1.2.2 (I p0 13).toInt) (I4 p0 14).toInt)) - (sk (tb tm.1.2.2 (I p0 13).toInt) (I4 p0 14).toInt) := by rw [← e21, ← h55]; omega
            have h55b : (I29 p0 14).toInt = (sr (tb tm.1.2.2 (I p0 13).toInt) (sk (tb tm.1.2.2 (I p0 13).toInt) (I4 p0 14).toInt)) := by rw [h55, e21]
            have hC29 : rwC I I4 I29 p0 ((Q p0 1).getD 0) (sr (tb tm.1.2.2 (I p0 13).toInt) (sk (tb tm.1.2.2 (I p0 13).toInt) (I4 p0 14).toInt)) := ⟨hc29.2.1, h55b, hc29.2.2.2⟩
            refine lv_iload hx hb dX7_readsRows_55 (lv_at hl 5 rfl) ?_
            have j69 : ∀ (I69 : Nat → Nat → Int32) (H : Heap) (lo : List Loc) (ls : Array Slot), Iv L K x0 m0 tx tm I69 → I69 p0 11 = I p0 11 → (∀ b, ¬ (K b = 7 ∨ K b = 28) → I69 b = I b) → hHK Q I I69 p0 → (∀ b, K b = 0 ∨ K b = 1 ∨ K b = 3 ∨ K b = 6 → I69 b = I b) → z21.toInt ≤ (I69 p0 14).toInt → (rwP (¬ v29_5.toInt = 0) (prw (tb tm.1.2.2 (I p0 13).toInt) 41 0 0 (I p0 14).toInt) (I69 p0 15).toInt ∧ rwC I I4 I69 p0 ((Q p0 1).getD 0) (sr (tb tm.1.2.2 (I p0 13).toInt) (sk (tb tm.1.2.2 (I p0 13).toInt) (I4 p0 14).toInt))) → va_P (dC, dI) vwCl (Wd cs L K I69 J4 Q) H → va_S A s.heap H lo → lv_has ls 7 [(0, .ref p0), (1, .int p1), (2, .int v4_2), (3, .int v4_3), (4, .int z21), (5, .int v29_5)] → W p l e R s m (([.ref p0, .int p1] : List Value).toArray) below meth c H lo 0 0 Qz (F0 m 69 ls []) := by
              intro I69 H lo ls hI69 kp0_11_I69 fr_I69 hk_I69 dn_I69 h69 hc69 hP hS hl
              refine lv_iload_n hx hb dX7_readsRows_69 rfl (lv_at hl 2 rfl) ?_
              refine lv_bipush (v := 40) hx hb dX7_readsRows_70 (by decide +kernel) ?_
              have j82 : ∀ (I82 : Nat → Nat → Int32) (H : Heap) (lo : List Loc) (ls : Array Slot), Iv L K x0 m0 tx tm I82 → I82 p0 11 = I p0 11 → (∀ b, ¬ (K b = 7 ∨ K b = 28) → I82 b = I b) → hHK Q I I82 p0 → (∀ b, K b = 0 ∨ K b = 1 ∨ K b = 3 ∨ K b = 6 → I82 b = I b) → Hid ((z21.toInt ≤ (I82 p0 14).toInt ∧ ((I82 p0 15).toInt = -1 → v4_2.toInt ≤ 39))) → (rwP (¬ v29_5.toInt = 0 ∧ ¬ v4_2.toInt = 40) (prw (tb tm.1.2.2 (I p0 13).toInt) 41 0 0 (I p0 14).toInt) (I82 p0 15).toInt ∧ rwC I I4 I82 p0 ((Q p0 1).getD 0) (sr (tb tm.1.2.2 (I p0 13).toInt) (sk (tb tm.1.2.2 (I p0 13).toInt) (I4 p0 14).toInt))) → va_P (dC, dI) vwCl (Wd cs L K I82 J4 Q) H → va_S A s.heap H lo → lv_has ls 7 [(0, .ref p0), (1, .int p1), (2, .int v4_2), (3, .int v4_3), (4, .int z21), (5, .int v29_5)] → W p l e R s m (([.ref p0, .int p1] : List Value).toArray) below meth c H lo 0 0 Qz (F0 m 82 ls []) := by
                intro I82 H lo ls hI82 kp0_11_I82 fr_I82 hk_I82 dn_I82 h82 hc82 hP hS hl
                refine lv_iload_n hx hb dX7_readsRows_82 rfl (lv_at hl 2 rfl) ?_
                have j103 : ∀ (I103 : Nat → Nat → Int32) (H : Heap) (lo : List Loc) (ls : Array Slot), Iv L K x0 m0 tx tm I103 → I103 p0 11 = I p0 11 → (∀ b, ¬ (K b = 7 ∨ K b = 28) → I103 b = I b) → hHK Q I I103 p0 → (∀ b, K b = 0 ∨ K b = 1 ∨ K b = 3 ∨ K b = 6 → I103 b = I b) → Hid ((z21.toInt ≤ (I103 p0 14).toInt ∧ ((I103 p0 15).toInt = -1 → v4_2.toInt ≤ 39 ∧ (v4_2.toInt = 0 → v29_5.toInt ≤ 100)))) → Hid ((rwP (¬ v29_5.toInt = 0 ∧ ¬ v4_2.toInt = 40 ∧ (v4_2.toInt = 0 → v29_5.toInt ≤ 100)) (prw (tb tm.1.2.2 (I p0 13).toInt) 41 0 0 (I p0 14).toInt) (I103 p0 15).toInt ∧ rwC I I4 I103 p0 ((Q p0 1).getD 0) (sr (tb tm.1.2.2 (I p0 13).toInt) (sk (tb tm.1.2.2 (I p0 13).toInt) (I4 p0 14).toInt)))) → va_P (dC, dI) vwCl (Wd cs L K I103 J4 Q) H → va_S A s.heap H lo → lv_has ls 7 [(0, .ref p0), (1, .int p1), (2, .int v4_2), (3, .int v4_3), (4, .int z21), (5, .int v29_5)] → W p l e R s m (([.ref p0, .int p1] : List Value).toArray) below meth c H lo 0 0 Qz (F0 m 103 ls []) := by
                  intro I103 H lo ls hI103 kp0_11_I103 fr_I103 hk_I103 dn_I103 h103 hc103 hP hS hl
                  refine lv_iload_n hx hb dX7_readsRows_103 rfl (lv_at hl 2 rfl) ?_
                  have j127 : ∀ (I127 : Nat → Nat → Int32) (H : Heap) (lo : List Loc) (ls : Array Slot), Iv L K x0 m0 tx tm I127 → I127 p0 11 = I p0 11 → (∀ b, ¬ (K b = 7 ∨ K b = 28) → I127 b = I b) → hHK Q I I127 p0 → (∀ b, K b = 0 ∨ K b = 1 ∨ K b = 3 ∨ K b = 6 → I127 b = I b) → Hid ((z21.toInt ≤ (I127 p0 14).toInt ∧ ((I127 p0 15).toInt = -1 → v4_2.toInt ≤ 39 ∧ v29_5.toInt ≤ 100))) → Hid ((rwP (¬ v29_5.toInt = 0 ∧ ¬ v4_2.toInt = 40 ∧ (v4_2.toInt = 0 → v29_5.toInt ≤ 100) ∧ (0 < v4_2.toInt → v29_5.toInt = (I4 ((Q p0 1).getD 0) (3 + p1.toInt.toNat)).toInt)) (prw (tb tm.1.2.2 (I p0 13).toInt) 41 0 0 (I p0 14).toInt) (I127 p0 15).toInt ∧ rwC I I4 I127 p0 ((Q p0 1).getD 0) (sr (tb tm.1.2.2 (I p0 13).toInt) (sk (tb tm.1.2.2 (I p0 13).toInt) (I4 p0 14).toInt)))) → va_P (dC, dI) vwCl (Wd cs L K I127 J4 Q) H → va_S A s.heap H lo → lv_has ls 7 [(0, .ref p0), (1, .int p1), (2, .int v4_2), (3, .int v4_3), (4, .int z21), (5, .int v29_5)] → W p l e R s m (([.ref p0, .int p1] : List Value).toArray) below meth c H lo 0 0 Qz (F0 m 127 ls []) := by
                    intro I127 H lo ls hI127 kp0_11_I127 fr_I127 hk_I127 dn_I127 h127 hc127 hP hS hl
                    refine lv_aload_n hx hb dX7_readsRows_127 rfl (lv_at hl 0 rfl) ?_
                    obtain ⟨y128, ey128, hLy128, hKy128⟩ := oQ_7_1 (Sv_at hQ hLp0 hKp0)
                    refine p_get (v := .ref y128) hx hb hts inX7 hown hK hP hLp0 hKp0 rfl rfl 1 (by decide) (hts _ pq1116) (congrArg (fun q => some (va_rf q)) ey128) dX7_readsRows_128 ?_
                    refine lv_iconst (v := 3) hx hb dX7_readsRows_131 (by decide +kernel) ?_
                    refine lv_iload_n hx hb dX7_readsRows_132 rfl (lv_at hl 1 rfl) ?_
                    refine lv_iadd hx hb dX7_readsRows_133 ?_
                    refine lv_topi (fun z133 ez133 => ?_)
                    have bz133 := tq_add (k := (3)) (q := p1.toInt) ez133 (by decide +kernel) rfl (by omega) (by omega)
                    refine lv_aload_n hx hb dX7_readsRows_134 rfl (lv_at hl 0 rfl) ?_
                    refine ro_i (va_runV (As := []) (rest := [.int z133, .ref y128]) ⟨hx, hb, hml, hown, hts⟩ (s_X7_isRight l dC dI cs L K G Q hQ x0 m0 tx tm H.size I127 J4 hI127 p0 hLp0 hKp0) (cwV 0 hts (gV pq1219 pq1221 pq12 pq81 pq1222) rfl rfl rfl (by decide +kernel) ⟨(by rw [hR]; exact (Nat.le_of_ble_eq_true rfl)), (by rw [hR]; exact (Nat.le_of_ble_eq_true rfl))⟩) (sP_V hP hD hK hN hLp0 hKp0 rfl rfl) rfl rfl hl.1 rfl (lv_room (Nat.le_of_ble_eq_true rfl)) dX7_readsRows_135 ⟨(by rw [hR]; exact (Nat.le_of_ble_eq_true rfl)), (by rw [hR]; exact (Nat.le_of_ble_eq_true rfl))⟩) hS hP (fun z135 H locs hz135 hP hS => ?_)
                    obtain ⟨bz135, xpz135⟩ := hz135
                    replace xpz135 : Hid _ := xpz135
                    have j147 : ∀ (w147_2 : Int32) (H : Heap) (lo : List Loc) (ls : Array Slot), ((0) ≤ w147_2.toInt ∧ w147_2.toInt ≤ 400) → Hid (((I127 p0 15).toInt = -1 → 0 ≤ w147_2.toInt ∧ w147_2.toInt ≤ 100)) → Hid (((I127 p0 15).toInt = -1 → w147_2.toInt = v29_5.toInt)) → va_P (dC, dI) vwCl (Wd cs L K I127 J4 Q) H → va_S A s.heap H lo → lv_has ls 7 [(0, .ref p0), (1, .int p1), (2, .int v4_2), (3, .int v4_3), (4, .int z21), (5, .int v29_5)] → W p l e R s m (([.ref p0, .int p1] : List Value).toArray) below meth c H lo 0 0 Qz (F0 m 147 ls [.int w147_2, .int z133, .ref y128]) := by
                      intro w147_2 H lo ls bw147_2 h147 hc147 hP hS hl
                      refine p_iast hx hb hK hP hD hS 18 hLy128 hKy128 rfl (fun _ => rfl) rfl (in_of (by omega) (by omega)) dX7_readsRows_147 (fun H locs hP hS => ?_)
                      obtain ⟨Iz147, hP, hIz147, qIz147⟩ : ∃ Iz147, va_P (dC, dI) vwCl (Wd cs L K Iz147 J4 Q) H ∧ Iv L K x0 m0 tx tm Iz147 ∧ Iz147 = va_up I127 y128 (upd (I127 y128) z133.toNatClampNeg w147_2) := ⟨_, hP, Iv_put hI127 hKy128 (show okI _ 28 _ from trivial) (Or.inl (by decide)) (Or.inl (by decide)), rfl⟩
                      have dn_Iz147 : (∀ b, K b = 0 ∨ K b = 1 ∨ K b = 3 ∨ K b = 6 → Iz147 b = I b) := fun b hc => (congrFun qIz147 b).trans ((va_up_ne _ _ (fun z => by have q := hKy128; rw [← z] at q; omega)).trans (dn_I127 b hc))
                      have hk_Iz147 := hK_put hQ hLp0 hKp0 ey128 qIz147 ⟨by omega, fun h => by have := h147 h; unfold rng; omega⟩ hk_I127
                      have kp0_11_Iz147 : Iz147 p0 11 = I p0 11 := (congrFun (congrFun qIz147 p0) 11).trans ((congrFun (va_up_ne _ _ (fun z => by have q1 := hKp0; have q2 := hKy128; rw [z] at q1; omega)) 11).trans kp0_11_I127)
                      have fr_Iz147 : ∀ b, ¬ (K b = 7 ∨ K b = 28) → Iz147 b = I b := fun b q => (congrFun qIz147 b).trans ((va_up_ne _ _ (fun z => q (by rw [z]; have := hKy128; omega))).trans (fr_I127 b q))
                      have K147 : (∀ k, ¬ k = (3 + p1.toInt.toNat) → Iz147 ((Q p0 1).getD 0) k = I ((Q p0 1).getD 0) k) := fun k hk => by rw [qIz147, show ((Q p0 1).getD 0) = y128 from (by rw [ey128]; rfl), va_up_self]; unfold upd; rw [if_neg (by rw [show z133.toNatClampNeg = (3 + p1.toInt.toNat) by show z133.toInt.toNat = _; omega]; exact hk)]; have a := congrFun hc127.2.2.2 k; have b := g4.2.1 k hk; rw [show ((Q p0 1).getD 0) = y128 from (by rw [ey128]; rfl)] at a b; exact a.trans b
                      refine lv_iconst (v := 0) hx hb dX7_readsRows_148 (by decide +kernel) ?_
                      refine lv_istore (lv' := [(6, .int 0), (0, .ref p0), (1, .int p1), (2, .int v4_2), (3, .int v4_3), (4, .int z21), (5, .int v29_5)]) hx hb dX7_readsRows_149 hl (by decide) rfl (fun ls hl => ?_)
                      have key151 := blocks (fun n => ∀ (v151_6 : Int32) (J151 : Nat → Nat → Int64) (H : Heap) (lo : List Loc) (ls : Array Slot), (402 - v151_6.toInt).toNat = n → ((0) ≤ v151_6.toInt ∧ v151_6.toInt ≤ 401) → (∀ b, ¬ (K b = 32) → J151 b = J b) → Hid ((((∀ k, k < 80 → mo (J (a0 Q p0 6)) p1.toInt.toNat k = 0) → (I127 p0 15).toInt = -1 → rowI (rD (tb tm.1.2.2 (I p0 13).toInt) v29_5.toInt (I p0 14).toInt) (mo (J151 (a0 Q p0 6)) p1.toInt.toNat) v4_2.toInt v151_6.toInt) ∧ v151_6.toInt ≤ v29_5.toInt ∧ (∀ k, (k < 80 * p1.toInt.toNat ∨ 80 * p1.toInt.toNat + 80 ≤ k) → J151 (a0 Q p0 6) k = J (a0 Q p0 6) k))) → va_P (dC, dI) vwCl (Wd cs L K Iz147 J151 Q) H → va_S A s.heap H lo → lv_has ls 7 [(0, .ref p0), (1, .int p1), (2, .int v4_2), (3, .int v4_3), (4, .int z21), (5, .int v29_5), (6, .int v151_6)] → W p l e R s m (([.ref p0, .int p1] : List Value).toArray) below meth c H lo 0 0 Qz (F0 m 151 ls [])) (by
                        intro n ih151
                        intro v151_6 J151 H lo ls hmu151 bv151_6 dj_J151 g151 hP hS hl
                        refine lv_iload hx hb dX7_readsRows_151 (lv_at hl 6 rfl) ?_
                        refine lv_iload hx hb dX7_readsRows_153 (lv_at hl 5 rfl) ?_
                        have j197 : ∀ (H : Heap) (lo : List Loc) (ls : Array Slot), Hid (((∀ k, k < 80 → mo (J (a0 Q p0 6)) p1.toInt.toNat k = 0) → (I127 p0 15).toInt = -1 → rowI (rD (tb tm.1.2.2 (I p0 13).toInt) v29_5.toInt (I p0 14).toInt) (mo (J151 (a0 Q p0 6)) p1.toInt.toNat) v4_2.toInt v29_5.toInt)) → va_P (dC, dI) vwCl (Wd cs L K Iz147 J151 Q) H → va_S A s.heap H lo → lv_has ls 7 [(0, .ref p0), (1, .int p1), (2, .int v4_2), (3, .int v4_3), (4, .int z21), (5, .int v29_5), (6, .int v151_6)] → W p l e R s m (([.ref p0, .int p1] : List Value).toArray) below meth c H lo 0 0 Qz (F0 m 197 ls []) := by
                          intro H lo ls g197 hP hS hl
                          obtain ⟨z197, ez197⟩ : ∃ y : Int32, y = v4_2 + 1 := ⟨_, rfl⟩
                          refine lv_iinc (v := z197) (lv' := [(2, .int z197), (0, .ref p0), (1, .int p1), (3, .int v4_3), (4, .int z21), (5, .int v29_5), (6, .int v151_6)]) hx hb dX7_readsRows_197 hl (k := 2) rfl (by rw [ez197]; rfl) (by decide) rfl (fun ls hl => ?_)
                          have bz197 := tq_add (k := v4_2.toInt) (q := 1) ez197 rfl (by decide +kernel) (by omega) (by omega)
                          refine lv_aload_n hx hb dX7_readsRows_200 rfl (lv_at hl 1 rfl) ?_
                          refine ro_i (va_runV (As := []) (rest := []) ⟨hx, hb, hml, hown, hts⟩ (s_X7_isRight l dC dI cs L K G Q hQ x0 m0 tx tm H.size Iz147 J151 hIz147 p0 hLp0 hKp0) (cwV 0 hts (gV pq1219 pq1221 pq12 pq81 pq1222) rfl rfl rfl (by decide +kernel) ⟨(by rw [hR]; exact (Nat.le_of_ble_eq_true rfl)), (by rw [hR]; exact (Nat.le_of_ble_eq_true rfl))⟩) (sP_V hP hD hK hN hLp0 hKp0 rfl rfl) rfl rfl hl.1 rfl (lv_room (Nat.le_of_ble_eq_true rfl)) dX7_readsRows_201 ⟨(by rw [hR]; exact (Nat.le_of_ble_eq_true rfl)), (by rw [hR]; exact (Nat.le_of_ble_eq_true rfl))⟩) hS hP (fun z201 H locs hz201 hP hS => ?_)
                          obtain ⟨bz201, xpz201⟩ := hz201
                          replace xpz201 : Hid _ := xpz201
                          have j221 : ∀ (w221_0 : Int32) (I221 : Nat → Nat → Int32) (H : Heap) (lo : List Loc) (ls : Array Slot), ((0) ≤ w221_0.toInt ∧ w221_0.toInt ≤ 1) → Iv L K x0 m0 tx tm I221 → I221 p0 11 = I p0 11 → (∀ b, ¬ (K b = 7 ∨ K b = 28) → I221 b = I b) → hHK Q I I221 p0 → (∀ b, K b = 0 ∨ K b = 1 ∨ K b = 3 ∨ K b = 6 → I221 b = I b) → Hid ((((∀ k, k < 80 → mo (J (a0 Q p0 6)) p1.toInt.toNat k = 0) → (I221 p0 15).toInt = -1 → (w221_0.toInt = 1 → rrI (tb tm.1.2.2 (I p0 13).toInt) (I p0 14).toInt (mo (J151 (a0 Q p0 6)) p1.toInt.toNat) z197.toInt (I221 ((Q p0 1).getD 0) (3 + p1.toInt.toNat)).toInt ((I221 p0 14).toInt + w221_0.toInt)) ∧ (w221_0.toInt = 0 → (z197.toInt = nrw (tb tm.1.2.2 (I p0 13).toInt) 41 (I p0 14).toInt ∧ (I221 ((Q p0 1).getD 0) (3 + p1.toInt.toNat)).toInt = nwd (tb tm.1.2.2 (I p0 13).toInt) (I p0 14).toInt ∧ ∀ a b : Int, md (mo (J151 (a0 Q p0 6)) p1.toInt.toNat) a b = rwD (tb tm.1.2.2 (I p0 13).toInt) (nwd (tb tm.1.2.2 (I p0 13).toInt) (I p0 14).toInt) (nrw (tb tm.1.2.2 (I p0 13).toInt) 41 (I p0 14).toInt) (I p0 14).toInt a b))) ∧ (∀ k, ¬ k = (3 + p1.toInt.toNat) → I221 ((Q p0 1).getD 0) k = I ((Q p0 1).getD 0) k))) → Hid ((((I221 p0 15).toInt = -1 → v4_2.toInt ≤ 39) ∧ z21.toInt ≤ (I221 p0 14).toInt ∧ (¬ w221_0.toInt = 0 → (I221 p0 14).toInt ≤ 399))) → rwL (tb tm.1.2.2 (I p0 13).toInt) I I221 p0 ((Q p0 1).getD 0) (3 + p1.toInt.toNat) w221_0.toInt z197.toInt ((I221 p0 14).toInt + w221_0.toInt) (prw (tb tm.1.2.2 (I p0 13).toInt) 41 0 0 (I p0 14).toInt) → va_P (dC, dI) vwCl (Wd cs L K I221 J151 Q) H → va_S A s.heap H lo → lv_has ls 7 [(0, .ref p0), (1, .int p1), (2, .int z197), (3, .int v4_3), (4, .int z21), (5, .int v29_5), (6, .int v151_6)] → W p l e R s m (([.ref p0, .int p1] : List Value).toArray) below meth c H lo 0 0 Qz (F0 m 221 ls [.int w221_0]) := by
                            intro w221_0 I221 H lo ls bw221_0 hI221 kp0_11_I221 fr_I221 hk_I221 dn_I221 g221 h221 hc221 hP hS hl
                            refine lv_istore_n (lv' := [(3, .int w221_0), (0, .ref p0), (1, .int p1), (2, .int z197), (4, .int z21), (5, .int v29_5), (6, .int v151_6)]) hx hb dX7_readsRows_221 rfl hl (by decide) rfl (fun ls hl => ?_)
                            refine lv_aload_n hx hb dX7_readsRows_222 rfl (lv_at hl 1 rfl) ?_
                            refine lv_dup hx hb dX7_readsRows_223 rfl ?_
                            refine p_get hx hb hts inX7 hown hK hP hLp0 hKp0 rfl rfl 14 (by decide) (hts _ pq1129) rfl dX7_readsRows_224 ?_
                            refine lv_topi (fun z224 ez224 => ?_)
                            have cgz224 := congrArg Int32.toInt ez224
                            have bz224 := oI_7_14 (Iv_at hI221 hLp0 hKp0)
                            rw [← ez224] at bz224
                            refine lv_iload_n hx hb dX7_readsRows_227 rfl (lv_at hl 0 rfl) ?_
                            refine ro_i (va_runS (As := [.int w221_0]) (rest := [.int z224, .ref p0]) ⟨hx, hb, hml, hown, hts⟩ (s_X7_truth l dC dI cs L K Q H.size I221 J151 w221_0) (va_cwS 1 hts (gS pq1257 pq1258 pq81 pq1259) rfl rfl rfl (by decide +kernel) ⟨(by rw [hR]; exact (Nat.le_of_ble_eq_true rfl)), (by rw [hR]; exact (Nat.le_of_ble_eq_true rfl))⟩) (sP_S hP hD hK hN) rfl rfl hl.1 rfl (lv_room (Nat.le_of_ble_eq_true rfl)) dX7_readsRows_228 ⟨(by rw [hR]; exact (Nat.le_of_ble_eq_true rfl)), (by rw [hR]; exact (Nat.le_of_ble_eq_true rfl))⟩) hS hP (fun z228 H locs hz228 hP hS => ?_)
                            obtain ⟨bz228, xpz228⟩ := hz228
                            refine lv_iadd hx hb dX7_readsRows_231 ?_
                            refine lv_topi (fun z231 ez231 => ?_)
                            have bz231 := tq_add (k := z224.toInt) (q := z228.toInt) ez231 rfl rfl (by omega) (by omega)
                            have q1 := h221.2.2
                            have q2 := xpz228.1
                            have q3 := xpz228.2
                            refine p_put hx hb hts inX7 tyX7 tyX7_ok nmX7 hown hK hP hD hS hLp0 hKp0 rfl rfl 14 (by decide) (hts _ pq1129) rfl (by decide +kernel) (Nat.le_of_ble_eq_true rfl) (oS_7_14 cs _ _ _ _) dX7_readsRows_232 (fun H locs hP hS => ?_)
                            obtain ⟨Iz232, hP, hIz232, qIz232⟩ : ∃ Iz232, va_P (dC, dI) vwCl (Wd cs L K Iz232 J151 Q) H ∧ Iv L K x0 m0 tx tm Iz232 ∧ Iz232 = va_up I221 p0 (upd (I221 p0) 14 z231) := ⟨_, hP, Iv_put hI221 hKp0 (oP_7_14 (Iv_at hI221 hLp0 hKp0) ⟨by omega, by omega⟩) (by decide) (by decide), rfl⟩
                            have dn_Iz232 : (∀ b, K b = 0 ∨ K b = 1 ∨ K b = 3 ∨ K b = 6 → Iz232 b = I b) := fun b hc => (congrFun qIz232 b).trans ((va_up_ne _ _ (fun z => by have q := hKp0; rw [← z] at q; omega)).trans (dn_I221 b hc))
                            have hk_Iz232 := hK_at hQ hLp0 hKp0 qIz232 (by omega) hk_I221
                            have kp0_11_Iz232 : Iz232 p0 11 = I p0 11 := (congrFun (congrFun qIz232 p0) 11).trans ((rz_fr _ _ _ _ (by decide)).trans kp0_11_I221)
                            have fr_Iz232 : ∀ b, ¬ (K b = 7 ∨ K b = 28) → Iz232 b = I b := fun b q => (congrFun qIz232 b).trans ((va_up_ne _ _ (fun z => q (by rw [z]; have := hKp0; omega))).trans (fr_I221 b q))
                            refine lv_goto (tgt := 4) hx hb dX7_readsRows_235 (by decide) ?_
                            exact ih4 _ (by rw [qIz232, rz_at]; have q0 := zr16.1; have q1 := h221.2.1; have q2 := xpz228.2; omega) z197 w221_0 Iz232 J151 _ _ _ rfl ⟨by omega, by omega⟩ ⟨by omega, by omega⟩ hIz232 kp0_11_Iz232 fr_Iz232 hk_Iz232 dn_Iz232 dj_J151 ⟨fun hz hF => by rw [qIz232, rz_fr _ _ _ _ (by decide)] at hF; have q := g221.1 hz hF; rw [show Iz232 ((Q p0 1).getD 0) = I221 ((Q p0 1).getD 0) by rw [qIz232, va_up_ne _ _ nyh], show (Iz232 p0 14).toInt = (I221 p0 14).toInt + w221_0.toInt by rw [qIz232, rz_at]; omega]; exact q, fun k hk => by rw [qIz232, va_up_ne _ _ nyh]; exact g221.2 k hk, g151.2.2⟩ (fun h => by have := h221.1 (by rw [qIz232, rz_fr _ _ _ _ (by decide)] at h; exact h); omega) (rwL_put hc221 (by rw [qIz232, rz_fr _ _ _ _ (by decide)]) (by rw [qIz232, rz_fr _ _ _ _ (by decide)]) (by rw [qIz232, va_up_ne _ _ nyh]) (by rw [qIz232, rz_at]; omega)) hP hS (lv_sub hl [1, 2, 3, 0] rfl)
                          have j220 : ∀ (I220 : Nat → Nat → Int32) (H : Heap) (lo : List Loc) (ls : Array Slot), Iv L K x0 m0 tx tm I220 → I220 p0 11 = I p0 11 → (∀ b, ¬ (K b = 7 ∨ K b = 28) → I220 b = I b) → hHK Q I I220 p0 → (∀ b, K b = 0 ∨ K b = 1 ∨ K b = 3 ∨ K b = 6 → I220 b = I b) → Hid ((((∀ k, k < 80 → mo (J (a0 Q p0 6)) p1.toInt.toNat k = 0) → (I220 p0 15).toInt = -1 → (z197.toInt = nrw (tb tm.1.2.2 (I p0 13).toInt) 41 (I p0 14).toInt ∧ (I220 ((Q p0 1).getD 0) (3 + p1.toInt.toNat)).toInt = nwd (tb tm.1.2.2 (I p0 13).toInt) (I p0 14).toInt ∧ ∀ a b : Int, md (mo (J151 (a0 Q p0 6)) p1.toInt.toNat) a b = rwD (tb tm.1.2.2 (I p0 13).toInt) (nwd (tb tm.1.2.2 (I p0 13).toInt) (I p0 14).toInt) (nrw (tb tm.1.2.2 (I p0 13).toInt) 41 (I p0 14).toInt) (I p0 14).toInt a b)) ∧ (∀ k, ¬ k = (3 + p1.toInt.toNat) → I220 ((Q p0 1).getD 0) k = I ((Q p0 1).getD 0) k))) → Hid ((((I220 p0 15).toInt = -1 → v4_2.toInt ≤ 39) ∧ z21.toInt ≤ (I220 p0 14).toInt)) → (I220 p0 13 = I p0 13 ∧ rwP ((prw (tb tm.1.2.2 (I p0 13).toInt) 41 0 0 (I p0 14).toInt) = (0, (I220 p0 14).toInt)) (prw (tb tm.1.2.2 (I p0 13).toInt) 41 0 0 (I p0 14).toInt) (I220 p0 15).toInt) → va_P (dC, dI) vwCl (Wd cs L K I220 J151 Q) H → va_S A s.heap H lo → lv_has ls 7 [(0, .ref p0), (1, .int p1), (2, .int z197), (3, .int v4_3), (4, .int z21), (5, .int v29_5), (6, .int v151_6)] → W p l e R s m (([.ref p0, .int p1] : List Value).toArray) below meth c H lo 0 0 Qz (F0 m 220 ls []) := by
                            intro I220 H lo ls hI220 kp0_11_I220 fr_I220 hk_I220 dn_I220 g220 h220 hc220 hP hS hl
                            refine lv_iconst (v := 0) hx hb dX7_readsRows_220 (by decide +kernel) ?_
                            exact j221 0 I220 _ _ _ ⟨by decide +kernel, by decide +kernel⟩ hI220 kp0_11_I220 fr_I220 hk_I220 dn_I220 ⟨fun hz hF => ⟨fun q => absurd q (by decide +kernel), fun _ => g220.1 hz hF⟩, g220.2⟩ ⟨h220.1, h220.2, fun h => absurd (by decide +kernel) h⟩ ⟨hc220.1, Or.inr ⟨by decide +kernel, by rw [show (0 : Int32).toInt = 0 from by decide +kernel, Int.add_zero]; exact hc220.2⟩⟩ hP hS (lv_sub hl [0, 1, 2, 3, 4, 5, 6] rfl)
                          refine lv_if_eq (tgt := 220) hx hb dX7_readsRows_204 (by decide) (fun c204 => ?_) (fun c204 => ?_)
                          · have t204 := tq_eq (k := z201.toInt) (q := (0)) c204 rfl (by decide +kernel)
                            exact j220 Iz147 _ _ _ hIz147 kp0_11_Iz147 fr_Iz147 hk_Iz147 dn_Iz147 ⟨fun _ h => absurd h (xpz201.2 t204), K147⟩ ⟨fun h => (h127.2 (by rw [qIz147, va_up_ne _ _ (ne_k hKp0 hKy128 (by decide))] at h; exact h)).1, by rw [qIz147, va_up_ne _ _ (ne_k hKp0 hKy128 (by decide))]; exact h127.1⟩ ⟨by rw [(show Iz147 p0 = I127 p0 by rw [qIz147, va_up_ne _ _ (ne_k hKp0 hKy128 (by decide))])]; exact hc127.2.1, rwP_bd (by rw [(show Iz147 p0 = I127 p0 by rw [qIz147, va_up_ne _ _ (ne_k hKp0 hKy128 (by decide))])]; exact hc127.1) (xpz201.2 t204)⟩ hP hS (lv_sub hl [1, 2, 0, 3, 4, 5, 6] rfl)
                          · have t204 := tq_ne (k := z201.toInt) (q := (0)) c204 rfl (by decide +kernel)
                            have r201 := xpz201.1 t204
                            have P4 := rwP_good hc127.1 (by rw [(show Iz147 p0 = I127 p0 by rw [qIz147, va_up_ne _ _ (ne_k hKp0 hKy128 (by decide))])] at r201; exact r201)
                            refine lv_aload_n hx hb dX7_readsRows_207 rfl (lv_at hl 1 rfl) ?_
                            refine sw_ir (Z := (fun u => (fun I1 J1 => Iv L K x0 m0 tx tm I1 ∧ (∀ b, ¬ (b = p0) → I1 b = Iz147 b) ∧ I1 p0 11 = Iz147 p0 11 ∧ ((Iz147 p0 14).toInt ≤ (I1 p0 14).toInt ∧ ((I1 p0 15).toInt = -1 → (Iz147 p0 15).toInt = -1) ∧ (∀ k, ¬ k = 14 → I1 p0 k = Iz147 p0 k) ∧ (¬ u.toInt = -1 → (I1 p0 14).toInt < (I1 p0 13).toInt)) ∧ (u.toInt = sgB ((tb tm.1.2.2 (Iz147 p0 13).toInt) (sk (tb tm.1.2.2 (Iz147 p0 13).toInt) (Iz147 p0 14).toInt)) ∧ (I1 p0 14).toInt = (sk (tb tm.1.2.2 (Iz147 p0 13).toInt) (Iz147 p0 14).toInt)) ∧ (∀ b, K b = 0 ∨ K b = 1 ∨ K b = 3 ∨ K b = 6 → I1 b = Iz147 b) ∧ J1 = J151))) (va_runV (As := []) (rest := []) ⟨hx, hb, hml, hown, hts⟩ (s_X7_next l dC dI cs L K G Q hQ x0 m0 tx tm H.size Iz147 J151 hIz147 p0 hLp0 hKp0) (cwV 0 hts (gV pq1211 pq1213 pq10 pq81 pq1214) rfl rfl rfl (by decide +kernel) ⟨(by rw [hR]; exact (Nat.le_of_ble_eq_true rfl)), (by rw [hR]; exact (Nat.le_of_ble_eq_true rfl))⟩) (sP_V hP hD hK hN hLp0 hKp0 rfl rfl) rfl rfl hl.1 rfl (lv_room (Nat.le_of_ble_eq_true rfl)) dX7_readsRows_208 ⟨(by rw [hR]; exact (Nat.le_of_ble_eq_true rfl)), (by rw [hR]; exact (Nat.le_of_ble_eq_true rfl))⟩) hS hAL hA (fun z208 Iz208 Jz208 H locs hz208 hIz208 hP hS => ?_)
                            obtain ⟨hIz208, frc208, kc208_0_11, zr208, fz208, dnc208, djc208⟩ := hIz208
                            obtain rfl : J151 = Jz208 := djc208.symm
                            replace zr208 : Hid _ := zr208
                            replace fz208 : Hid _ := fz208
                            have hk_Iz208 := hK_call hQ hLp0 hKp0 frc208 zr208.1 zr208.2.1 hk_Iz147
                            have dn_Iz208 : (∀ b, K b = 0 ∨ K b = 1 ∨ K b = 3 ∨ K b = 6 → Iz208 b = I b) := fun b hc => (dnc208 b (by omega)).trans (dn_Iz147 b hc)
                            have kp0_11_Iz208 : Iz208 p0 11 = I p0 11 := kc208_0_11.trans kp0_11_Iz147
                            have fr_Iz208 : ∀ b, ¬ (K b = 7 ∨ K b = 28) → Iz208 b = I b := fun b q => (frc208 b (fun z => q (by rw [z]; have := hKp0; omega))).trans (fr_Iz147 b q)
                            have bz208 := hz208
                            have a208 : (Iz208 p0 14).toInt = sk (tb tm.1.2.2 (I p0 13).toInt) (sr (tb tm.1.2.2 (I p0 13).toInt) (sk (tb tm.1.2.2 (I p0 13).toInt) (I4 p0 14).toInt)) := by have q := fz208.2; rw [(show Iz147 p0 = I127 p0 by rw [qIz147, va_up_ne _ _ (ne_k hKp0 hKy128 (by decide))]), hc127.2.1, hc127.2.2.1] at q; exact q
                            have z8 : z208.toInt = sgB ((tb tm.1.2.2 (I p0 13).toInt) (sk (tb tm.1.2.2 (I p0 13).toInt) (sr (tb tm.1.2.2 (I p0 13).toInt) (sk (tb tm.1.2.2 (I p0 13).toInt) (I4 p0 14).toInt)))) := by have q := fz208.1; rw [(show Iz147 p0 = I127 p0 by rw [qIz147, va_up_ne _ _ (ne_k hKp0 hKy128 (by decide))]), hc127.2.1, hc127.2.2.1] at q; exact q
                            have w208 : (Iz208 ((Q p0 1).getD 0) (3 + p1.toInt.toNat)).toInt = v29_5.toInt := by rw [frc208 _ nyh, qIz147, show ((Q p0 1).getD 0) = y128 from by rw [ey128]; rfl, va_up_self, show z133.toNatClampNeg = (3 + p1.toInt.toNat) by show z133.toInt.toNat = _; omega]; unfold upd; rw [if_pos rfl]; exact hc147 (by rw [(show Iz147 p0 = I127 p0 by rw [qIz147, va_up_ne _ _ (ne_k hKp0 hKy128 (by decide))])] at r201; exact r201)
                            refine lv_bipush (v := 47) hx hb dX7_readsRows_211 (by decide +kernel) ?_
                            refine lv_icmp_ne (tgt := 220) hx hb dX7_readsRows_213 (by decide) (fun c213 => ?_) (fun c213 => ?_)
                            · have t213 := tq_ne (k := z208.toInt) (q := (47)) c213 rfl (by decide +kernel)
                              exact j220 Iz208 _ _ _ hIz208 kp0_11_Iz208 fr_Iz208 hk_Iz208 dn_Iz208 ⟨fun hz _ => by have nd := (rr_w (G4 hz) g55 (fun q => P4.2.2.2 q) (by omega)); have e := rr_end (G4 hz) nd (g197 hz (by have q := r201; rw [(show Iz147 p0 = I127 p0 by rw [qIz147, va_up_ne _ _ (ne_k hKp0 hKy128 (by decide))])] at q; exact q)) ⟨by omega, by have := P4.2.1; omega⟩ (fun h => t213 (z8.trans (by rw [h]; exact sg_c (by decide)))) bz197; exact ⟨e.1, w208.trans nd, e.2⟩, (fun k hk => by rw [frc208 _ nyh]; exact K147 k hk)⟩ ⟨fun h => (h127.2 (by have := zr208.2.1 h; rw [qIz147, va_up_ne _ _ (ne_k hKp0 hKy128 (by decide))] at this; exact this)).1, by have := zr208.1; rw [qIz147, va_up_ne _ _ (ne_k hKp0 hKy128 (by decide))] at this; exact Int.le_trans h127.1 this⟩ ⟨(zr208.2.2.1 13 (by decide)).trans (by rw [(show Iz147 p0 = I127 p0 by rw [qIz147, va_up_ne _ _ (ne_k hKp0 hKy128 (by decide))])]; exact hc127.2.1), Or.inl ⟨by rw [L4.2.2, prw_end ⟨by omega, by have := P4.2.1; omega⟩ (by rw [← g55]; exact P4.1) (fun h => by rw [← g55]; exact P4.2.2.1 h) (fun h => by rw [← g55]; exact P4.2.2.2 h) (fun h => t213 (z8.trans (by rw [h]; exact sg_c (by decide)))), a208], by rw [zr208.2.2.1 15 (by decide)]; exact r201⟩⟩ hP hS (lv_sub hl [1, 2, 0, 3, 4, 5, 6] rfl)
                            · have t213 := tq_eq (k := z208.toInt) (q := (47)) c213 rfl (by decide +kernel)
                              refine lv_iconst (v := 1) hx hb dX7_readsRows_216 (by decide +kernel) ?_
                              refine lv_goto (tgt := 221) hx hb dX7_readsRows_217 (by decide) ?_
                              exact j221 1 Iz208 _ _ _ ⟨by decide +kernel, by decide +kernel⟩ hIz208 kp0_11_Iz208 fr_Iz208 hk_Iz208 dn_Iz208 ⟨fun hz _ => ⟨fun _ => by rw [w208]; exact rr_go (G4 hz) (rr_w (G4 hz) g55 (fun q => P4.2.2.2 q) (by omega)) (g197 hz (by have q := r201; rw [(show Iz147 p0 = I127 p0 by rw [qIz147, va_up_ne _ _ (ne_k hKp0 hKy128 (by decide))])] at q; exact q)) ⟨by omega, by have := P4.2.1; omega⟩ (sg_t (tb_rng hby) (by decide) (z8.symm.trans t213)) (by rw [a208, show (1 : Int32).toInt = 1 from by decide +kernel]) bz197, fun q => absurd q (by decide +kernel)⟩, (fun k hk => by rw [frc208 _ nyh]; exact K147 k hk)⟩ ⟨(show ((Iz208 p0 15).toInt = -1 → v4_2.toInt ≤ 39) ∧ z21.toInt ≤ (Iz208 p0 14).toInt from ⟨fun h => (h127.2 (by have := zr208.2.1 h; rw [qIz147, va_up_ne _ _ (ne_k hKp0 hKy128 (by decide))] at this; exact this)).1, by have := zr208.1; rw [qIz147, va_up_ne _ _ (ne_k hKp0 hKy128 (by decide))] at this; exact Int.le_trans h127.1 this⟩).1, (show ((Iz208 p0 15).toInt = -1 → v4_2.toInt ≤ 39) ∧ z21.toInt ≤ (Iz208 p0 14).toInt from ⟨fun h => (h127.2 (by have := zr208.2.1 h; rw [qIz147, va_up_ne _ _ (ne_k hKp0 hKy128 (by decide))] at this; exact this)).1, by have := zr208.1; rw [qIz147, va_up_ne _ _ (ne_k hKp0 hKy128 (by decide))] at this; exact Int.le_trans h127.1 this⟩).2, fun _ => by have := zr208.2.2.2 (by omega); have := oI_7_13 (Iv_at hIz208 hLp0 hKp0); omega⟩ ⟨(zr208.2.2.1 13 (by decide)).trans (by rw [(show Iz147 p0 = I127 p0 by rw [qIz147, va_up_ne _ _ (ne_k hKp0 hKy128 (by decide))])]; exact hc127.2.1), Or.inl ⟨by decide +kernel, by rw [zr208.2.2.1 15 (by decide)]; exact r201, by rw [L4.2.2, prw_go ⟨by omega, by have := P4.2.1; omega⟩ (by rw [← g55]; exact P4.1) (fun h => by rw [← g55]; exact P4.2.2.1 h) (fun h => by rw [← g55]; exact P4.2.2.2 h) (sg_t (tb_rng hby) (by decide) (z8.symm.trans t213)), a208, ← bz197, ← g55, w208]; rfl⟩⟩ hP hS (lv_sub hl [1, 2, 0, 3, 4, 5, 6] rfl)
                        refine lv_icmp_ge (tgt := 197) hx hb dX7_readsRows_155 (by decide) (fun c155 => ?_) (fun c155 => ?_)
                        · have t155 := tq_le (k := v29_5.toInt) (q := v151_6.toInt) c155 rfl rfl
                          exact j197  _ _ _ (fun hz hF => ri_eq (g151.1 hz hF) rfl rfl (by have := g151.2.1; omega)) hP hS (lv_sub hl [0, 1, 2, 3, 4, 5, 6] rfl)
                        · have t155 := tq_nle (k := v29_5.toInt) (q := v151_6.toInt) c155 rfl rfl
                          refine lv_aload_n hx hb dX7_readsRows_158 rfl (lv_at hl 0 rfl) ?_
                          refine ro_i (va_runV (As := []) (rest := []) ⟨hx, hb, hml, hown, hts⟩ (s_X7_isRight l dC dI cs L K G Q hQ x0 m0 tx tm H.size Iz147 J151 hIz147 p0 hLp0 hKp0) (cwV 0 hts (gV pq1219 pq1221 pq12 pq81 pq1222) rfl rfl rfl (by decide +kernel) ⟨(by rw [hR]; exact (Nat.le_of_ble_eq_true rfl)), (by rw [hR]; exact (Nat.le_of_ble_eq_true rfl))⟩) (sP_V hP hD hK hN hLp0 hKp0 rfl rfl) rfl rfl hl.1 rfl (lv_room (Nat.le_of_ble_eq_true rfl)) dX7_readsRows_159 ⟨(by rw [hR]; exact (Nat.le_of_ble_eq_true rfl)), (by rw [hR]; exact (Nat.le_of_ble_eq_true rfl))⟩) hS hP (fun z159 H locs hz159 hP hS => ?_)
                          obtain ⟨bz159, xpz159⟩ := hz159
                          replace xpz159 : Hid _ := xpz159
                          refine lv_if_eq (tgt := 197) hx hb dX7_readsRows_162 (by decide) (fun c162 => ?_) (fun c162 => ?_)
                          · have t162 := tq_eq (k := z159.toInt) (q := (0)) c162 rfl (by decide +kernel)
                            exact j197  _ _ _ (fun _ hF => absurd (by rw [(show Iz147 p0 = I127 p0 by rw [qIz147, va_up_ne _ _ (ne_k hKp0 hKy128 (by decide))])]; exact hF) (xpz159.2 t162)) hP hS (lv_sub hl [0, 1, 2, 3, 4, 5, 6] rfl)
                          · have t162 := tq_ne (k := z159.toInt) (q := (0)) c162 rfl (by decide +kernel)
                            have hr := h127.2 (by have := xpz159.1 t162; rw [qIz147, va_up_ne _ _ (ne_k hKp0 hKy128 (by decide))] at this; exact this)
                            refine lv_aload_n hx hb dX7_readsRows_165 rfl (lv_at hl 0 rfl) ?_
                            obtain ⟨y166, ey166, hLy166, hKy166⟩ := oQ_7_12 (Sv_at hQ hLp0 hKp0)
                            refine p_get (v := .ref y166) hx hb hts inX7 hown hK hP hLp0 hKp0 rfl rfl 12 (by decide) (hts _ pq1127) (congrArg (fun q => some (va_rf q)) ey166) dX7_readsRows_166 ?_
                            refine lv_iload hx hb dX7_readsRows_169 (lv_at hl 4 rfl) ?_
                            refine lv_iload hx hb dX7_readsRows_171 (lv_at hl 6 rfl) ?_
                            refine lv_iadd hx hb dX7_readsRows_173 ?_
                            refine lv_topi (fun z173 ez173 => ?_)
                            have bz173 := tq_add (k := z21.toInt) (q := v151_6.toInt) ez173 rfl rfl (by omega) (by omega)
                            refine p_bald hx hb hK hP 21 hLy166 hKy166 rfl rfl (in_of (by omega) (by omega)) dX7_readsRows_174 ?_
                            refine lv_topi (fun z174 ez174 => ?_)
                            have tz174 : z174 = tm.1.2.2 (z173).toInt.toNat := ez174.trans (congrFun (hIz147.2.2.2.2.2.2 y166 hLy166 hKy166).2.1 _)
                            have c174 : (tb tm.1.2.2 (I p0 13).toInt) (z21.toInt + v151_6.toInt) = z174.toInt := rr_c (hc29.1 _ (by omega) (by omega)) (by rw [← bz173]; exact tz174)
                            refine lv_bipush (v := 35) hx hb dX7_readsRows_175 (by decide +kernel) ?_
                            have j191 : ∀ (J191 : Nat → Nat → Int64) (H : Heap) (lo : List Loc) (ls : Array Slot), (∀ b, ¬ (K b = 32) → J191 b = J b) → Hid ((((∀ k, k < 80 → mo (J (a0 Q p0 6)) p1.toInt.toNat k = 0) → (I127 p0 15).toInt = -1 → rowI (rD (tb tm.1.2.2 (I p0 13).toInt) v29_5.toInt (I p0 14).toInt) (mo (J191 (a0 Q p0 6)) p1.toInt.toNat) v4_2.toInt (v151_6.toInt + 1)) ∧ (∀ k, (k < 80 * p1.toInt.toNat ∨ 80 * p1.toInt.toNat + 80 ≤ k) → J191 (a0 Q p0 6) k = J (a0 Q p0 6) k))) → va_P (dC, dI) vwCl (Wd cs L K Iz147 J191 Q) H → va_S A s.heap H lo → lv_has ls 7 [(0, .ref p0), (1, .int p1), (2, .int v4_2), (3, .int v4_3), (4, .int z21), (5, .int v29_5), (6, .int v151_6)] → W p l e R s m (([.ref p0, .int p1] : List Value).toArray) below meth c H lo 0 0 Qz (F0 m 191 ls []) := by
                              intro J191 H lo ls dj_J191 g191 hP hS hl
                              obtain ⟨z191, ez191⟩ : ∃ y : Int32, y = v151_6 + 1 := ⟨_, rfl⟩
                              refine lv_iinc (v := z191) (lv' := [(6, .int z191), (0, .ref p0), (1, .int p1), (2, .int v4_2), (3, .int v4_3), (4, .int z21), (5, .int v29_5)]) hx hb dX7_readsRows_191 hl (k := 6) rfl (by rw [ez191]; rfl) (by decide) rfl (fun ls hl => ?_)
                              have bz191 := tq_add (k := v151_6.toInt) (q := 1) ez191 rfl (by decide +kernel) (by omega) (by omega)
                              refine lv_goto (tgt := 151) hx hb dX7_readsRows_194 (by decide) ?_
                              exact ih151 _ (by omega) z191 J191 _ _ _ rfl ⟨by omega, by omega⟩ dj_J191 ⟨fun hz hF => ri_eq (g191.1 hz hF) rfl rfl (by omega), by omega, g191.2⟩ hP hS (lv_sub hl [1, 2, 3, 4, 5, 6, 0] rfl)
                            refine lv_icmp_ne (tgt := 191) hx hb dX7_readsRows_177 (by decide) (fun c177 => ?_) (fun c177 => ?_)
                            · have t177 := tq_ne (k := z174.toInt) (q := (35)) c177 rfl (by decide +kernel)
                              exact j191 J151 _ _ _ dj_J151 ⟨fun hz hF => ri_skip (g151.1 hz hF) ((rD_at (s := z21.toInt) (by omega) (by omega) (by omega) (by rw [e21, (G4 hz).1])).trans (decide_eq_false (by rw [c174]; exact t177))) rfl, g151.2.2⟩ hP hS (lv_sub hl [0, 1, 2, 3, 4, 5, 6] rfl)
                            · have t177 := tq_eq (k := z174.toInt) (q := (35)) c177 rfl (by decide +kernel)
                              refine lv_aload_n hx hb dX7_readsRows_180 rfl (lv_at hl 0 rfl) ?_
                              obtain ⟨y181, ey181, hLy181, hKy181⟩ := oQ_7_6 (Sv_at hQ hLp0 hKp0)
                              refine p_get (v := .ref y181) hx hb hts inX7 hown hK hP hLp0 hKp0 rfl rfl 6 (by decide) (hts _ pq1121) (congrArg (fun q => some (va_rf q)) ey181) dX7_readsRows_181 ?_
                              refine lv_iload_n hx hb dX7_readsRows_184 rfl (lv_at hl 1 rfl) ?_
                              refine lv_iload hx hb dX7_readsRows_185 (lv_at hl 6 rfl) ?_
                              refine lv_iload_n hx hb dX7_readsRows_187 rfl (lv_at hl 2 rfl) ?_
                              refine sw_v (Z := (fun I1 J1 => Iv L K x0 m0 tx tm I1 ∧ I1 = Iz147 ∧ ((∀ x y : Int, md (mo (J1 y181) p1.toInt.toNat) x y = (md (mo (J151 y181) p1.toInt.toNat) x y || decide (x = v151_6.toInt ∧ y = v4_2.toInt))) ∧ ∀ k, (k < 80 * p1.toInt.toNat ∨ 80 * p1.toInt.toNat + 80 ≤ k) → J1 y181 k = J151 y181 k) ∧ (∀ b, ¬ (K b = 32) → J1 b = J151 b))) (va_runS (As := [.ref y181, .int p1, .int v151_6, .int v4_2]) (rest := []) ⟨hx, hb, hml, hown, hts⟩ (s_X7_setsDot l dC dI cs L K G Q hQ x0 m0 tx tm H.size Iz147 J151 hIz147 y181 hLy181 hKy181 p1 ⟨by omega, by omega⟩ v151_6 ⟨by omega, by omega⟩ v4_2 ⟨by omega, by omega⟩) (va_cwS 4 hts (gS pq1254 pq1255 pq81 pq1256) rfl rfl rfl (by decide +kernel) ⟨(by rw [hR]; exact (Nat.le_of_ble_eq_true rfl)), (by rw [hR]; exact (Nat.le_of_ble_eq_true rfl))⟩) (sP_S hP hD hK hN) rfl rfl hl.1 rfl (lv_room (Nat.le_of_ble_eq_true rfl)) dX7_readsRows_188 ⟨(by rw [hR]; exact (Nat.le_of_ble_eq_true rfl)), (by rw [hR]; exact (Nat.le_of_ble_eq_true rfl))⟩) hS hAL hA (fun Iz188 Jz188 H locs hz188 hIz188 hP hS => ?_)
                              obtain ⟨hIz188, sm188, jz188, djc188⟩ := hIz188
                              have dj_Jz188 : (∀ b, ¬ (K b = 32) → Jz188 b = J b) := fun b hc => (djc188 b (fun z => hc (by omega))).trans (dj_J151 b hc)
                              obtain rfl : Iz147 = Iz188 := sm188.symm
                              exact j191 Jz188 _ _ _ dj_Jz188 ⟨fun hz hF => ri_or (g151.1 hz hF) ((rD_at (s := z21.toInt) (by omega) (by omega) (by omega) (by rw [e21, (G4 hz).1])).trans (decide_eq_true (by rw [c174]; exact t177))) (by rw [(show (a0 Q p0 6) = y181 from gd_of ey181)]; exact jz188.1) rfl rfl rfl, fun k hk => by have q := jz188.2 k hk; have q2 := g151.2.2 k hk; rw [(show (a0 Q p0 6) = y181 from gd_of ey181)] at q2 ⊢; exact q.trans q2⟩ hP hS (lv_sub hl [0, 1, 2, 3, 4, 5, 6] rfl))
                      exact key151 _ 0 J4 _ _ _ rfl ⟨by decide +kernel, by decide +kernel⟩ dj_J4 ⟨fun hz hF => ri_eq ((G4 hz).2.2.2 v29_5.toInt (fun q => ((rwP_good hc127.1 hF).2.2.2 q).trans ((G4 hz).2.2.1 q))) rfl rfl (by decide +kernel), by rw [show (0 : Int32).toInt = 0 from by decide +kernel]; omega, g4.2.2⟩ hP hS (lv_sub hl [1, 2, 3, 4, 5, 6, 0] rfl)
                    refine lv_if_eq (tgt := 146) hx hb dX7_readsRows_138 (by decide) (fun c138 => ?_) (fun c138 => ?_)
                    · have t138 := tq_eq (k := z135.toInt) (q := (0)) c138 rfl (by decide +kernel)
                      refine lv_iconst (v := 0) hx hb dX7_readsRows_146 (by decide +kernel) ?_
                      exact j147 0 _ _ _ ⟨by decide +kernel, by decide +kernel⟩ (fun _ => ⟨by decide +kernel, by decide +kernel⟩) (fun h => absurd h (xpz135.2 t138)) hP hS (lv_sub hl [0, 1, 2, 3, 4, 5] rfl)
                    · have t138 := tq_ne (k := z135.toInt) (q := (0)) c138 rfl (by decide +kernel)
                      refine lv_iload hx hb dX7_readsRows_141 (lv_at hl 5 rfl) ?_
                      refine lv_goto (tgt := 147) hx hb dX7_readsRows_143 (by decide) ?_
                      exact j147 v29_5 _ _ _ ⟨by omega, by omega⟩ (fun h => ⟨by omega, (h127.2 h).2⟩) (fun _ => rfl) hP hS (lv_sub hl [0, 1, 2, 3, 4, 5] rfl)
                  refine lv_if_le (tgt := 127) hx hb dX7_readsRows_104 (by decide) (fun c104 => ?_) (fun c104 => ?_)
                  · have t104 := tq_le (k := v4_2.toInt) (q := (0)) c104 rfl (by decide +kernel)
                    exact j127 I103 _ _ _ hI103 kp0_11_I103 fr_I103 hk_I103 dn_I103 ⟨h103.1, fun h => ⟨(h103.2 h).1, (h103.2 h).2 (by omega)⟩⟩ ⟨rwP_imp hc103.1 (fun q => ⟨q.1, q.2.1, q.2.2, fun h => by omega⟩), hc103.2⟩ hP hS (lv_sub hl [0, 1, 2, 3, 4, 5] rfl)
                  · have t104 := tq_nle (k := v4_2.toInt) (q := (0)) c104 rfl (by decide +kernel)
                    refine lv_iload hx hb dX7_readsRows_107 (lv_at hl 5 rfl) ?_
                    refine lv_aload_n hx hb dX7_readsRows_109 rfl (lv_at hl 0 rfl) ?_
                    obtain ⟨y110, ey110, hLy110, hKy110⟩ := oQ_7_1 (Sv_at hQ hLp0 hKp0)
                    refine p_get (v := .ref y110) hx hb hts inX7 hown hK hP hLp0 hKp0 rfl rfl 1 (by decide) (hts _ pq1116) (congrArg (fun q => some (va_rf q)) ey110) dX7_readsRows_110 ?_
                    refine lv_iconst (v := 3) hx hb dX7_readsRows_113 (by decide +kernel) ?_
                    refine lv_iload_n hx hb dX7_readsRows_114 rfl (lv_at hl 1 rfl) ?_
                    refine lv_iadd hx hb dX7_readsRows_115 ?_
                    refine lv_topi (fun z115 ez115 => ?_)
                    have bz115 := tq_add (k := (3)) (q := p1.toInt) ez115 (by decide +kernel) rfl (by omega) (by omega)
                    refine p_iald hx hb hK hP 18 hLy110 hKy110 rfl rfl (in_of (by omega) (by omega)) dX7_readsRows_116 ?_
                    refine lv_topi (fun z116 ez116 => ?_)
                    have w116 : z116.toInt = (I4 ((Q p0 1).getD 0) (3 + p1.toInt.toNat)).toInt := by rw [ez116, show z115.toNatClampNeg = (3 + p1.toInt.toNat) by (show z115.toInt.toNat = _; omega), show y110 = ((Q p0 1).getD 0) from by rw [ey110]; rfl, hc103.2.2.2]
                    refine lv_icmp_eq (tgt := 127) hx hb dX7_readsRows_117 (by decide) (fun c117 => ?_) (fun c117 => ?_)
                    · have t117 := tq_eq (k := v29_5.toInt) (q := z116.toInt) c117 rfl rfl
                      exact j127 I103 _ _ _ hI103 kp0_11_I103 fr_I103 hk_I103 dn_I103 ⟨h103.1, fun h => ⟨(h103.2 h).1, by have q := hk_I103.2.1 h y110 ey110 z115.toInt.toNat (by omega); unfold rng at q; have c := congrArg Int32.toInt (show z116 = I103 y110 z115.toInt.toNat from ez116); omega⟩⟩ ⟨rwP_imp hc103.1 (fun q => ⟨q.1, q.2.1, q.2.2, fun _ => t117.trans w116⟩), hc103.2⟩ hP hS (lv_sub hl [0, 1, 2, 3, 4, 5] rfl)
                    · have t117 := tq_ne (k := v29_5.toInt) (q := z116.toInt) c117 rfl rfl
                      refine lv_aload_n hx hb dX7_readsRows_120 rfl (lv_at hl 0 rfl) ?_
                      refine lv_iconst (v := 4) hx hb dX7_readsRows_121 (by decide +kernel) ?_
                      refine lv_iload hx hb dX7_readsRows_122 (lv_at hl 4 rfl) ?_
                      refine sw_v (Z := (fun I1 J1 => Iv L K x0 m0 tx tm I1 ∧ (∀ b, ¬ (b = p0) → I1 b = I103 b) ∧ I1 p0 11 = I103 p0 11 ∧ (((I103 p0 14).toInt ≤ (I1 p0 14).toInt ∧ ((I1 p0 15).toInt = -1 → (I103 p0 15).toInt = -1) ∧ (∀ k, ¬ k = 15 → I1 p0 k = I103 p0 k) ∧ ¬ (I1 p0 15).toInt = -1)) ∧ (((I103 p0 15).toInt = -1 → (I1 p0 15).toInt = 8 * z21.toInt + (4 : Int32).toInt) ∧ (¬ (I103 p0 15).toInt = -1 → I1 p0 15 = I103 p0 15)) ∧ (∀ b, K b = 0 ∨ K b = 1 ∨ K b = 3 ∨ K b = 6 → I1 b = I103 b) ∧ J1 = J4)) (va_runV (As := [.int 4, .int z21]) (rest := []) ⟨hx, hb, hml, hown, hts⟩ (s_X7_fails l dC dI cs L K G Q hQ x0 m0 tx tm H.size I103 J4 hI103 p0 hLp0 hKp0 4 ⟨by decide +kernel, by decide +kernel⟩ z21 ⟨by omega, by omega⟩) (cwV 2 hts (gV pq1239 pq1241 pq15 pq81 pq1242) rfl rfl rfl (by decide +kernel) ⟨(by rw [hR]; exact (Nat.le_of_ble_eq_true rfl)), (by rw [hR]; exact (Nat.le_of_ble_eq_true rfl))⟩) (sP_V hP hD hK hN hLp0 hKp0 rfl rfl) rfl rfl hl.1 rfl (lv_room (Nat.le_of_ble_eq_true rfl)) dX7_readsRows_124 ⟨(by rw [hR]; exact (Nat.le_of_ble_eq_true rfl)), (by rw [hR]; exact (Nat.le_of_ble_eq_true rfl))⟩) hS hAL hA (fun Iz124 Jz124 H locs hz124 hIz124 hP hS => ?_)
                      obtain ⟨hIz124, frc124, kc124_0_11, zp124, fz124, dnc124, djc124⟩ := hIz124
                      obtain rfl : J4 = Jz124 := djc124.symm
                      replace zp124 : Hid _ := zp124
                      replace fz124 : Hid _ := fz124
                      have hk_Iz124 := hK_call hQ hLp0 hKp0 frc124 zp124.1 zp124.2.1 hk_I103
                      have dn_Iz124 : (∀ b, K b = 0 ∨ K b = 1 ∨ K b = 3 ∨ K b = 6 → Iz124 b = I b) := fun b hc => (dnc124 b (by omega)).trans (dn_I103 b hc)
                      have kp0_11_Iz124 : Iz124 p0 11 = I p0 11 := kc124_0_11.trans kp0_11_I103
                      have fr_Iz124 : ∀ b, ¬ (K b = 7 ∨ K b = 28) → Iz124 b = I b := fun b q => (frc124 b (fun z => q (by rw [z]; have := hKp0; omega))).trans (fr_I103 b q)
                      have cst124_4 : (4 : Int32).toInt = 4 := by decide +kernel
                      exact j127 Iz124 _ _ _ hIz124 kp0_11_Iz124 fr_Iz124 hk_Iz124 dn_Iz124 ⟨Int.le_trans h103.1 zp124.1, fun h => absurd h zp124.2.2.2⟩ ⟨rwP_fail (V := 8 * (sk (tb tm.1.2.2 (I p0 13).toInt) (I4 p0 14).toInt) + 4) hc103.1 (fun q => by rw [L4.2.2, prw_4b ⟨by omega, by have := q.2.1; omega⟩ (by rw [← g55]; exact q.1) (by rw [← g55, ← w116]; exact t117)]) (by omega) ⟨fun q => (fz124.1 q).trans (by rw [cst124_4]; rw [e21]), fun q => congrArg Int32.toInt (fz124.2 q)⟩, rwC_step hc103.2 zp124.2.2.1 (frc124 _ nyh)⟩ hP hS (lv_sub hl [0, 1, 2, 3, 4, 5] rfl)
                refine lv_if_ne (tgt := 103) hx hb dX7_readsRows_83 (by decide) (fun c83 => ?_) (fun c83 => ?_)
                · have t83 := tq_ne (k := v4_2.toInt) (q := (0)) c83 rfl (by decide +kernel)
                  exact j103 I82 _ _ _ hI82 kp0_11_I82 fr_I82 hk_I82 dn_I82 ⟨h82.1, fun h => ⟨h82.2 h, fun _ => by omega⟩⟩ ⟨rwP_imp hc82.1 (fun q => ⟨q.1, q.2, fun h => by omega⟩), hc82.2⟩ hP hS (lv_sub hl [0, 1, 2, 3, 4, 5] rfl)
                · have t83 := tq_eq (k := v4_2.toInt) (q := (0)) c83 rfl (by decide +kernel)
                  refine lv_iload hx hb dX7_readsRows_86 (lv_at hl 5 rfl) ?_
                  refine lv_bipush (v := 100) hx hb dX7_readsRows_88 (by decide +kernel) ?_
                  refine lv_icmp_le (tgt := 103) hx hb dX7_readsRows_90 (by decide) (fun c90 => ?_) (fun c90 => ?_)
                  · have t90 := tq_le (k := v29_5.toInt) (q := (100)) c90 rfl (by decide +kernel)
                    exact j103 I82 _ _ _ hI82 kp0_11_I82 fr_I82 hk_I82 dn_I82 ⟨h82.1, fun h => ⟨h82.2 h, fun _ => by omega⟩⟩ ⟨rwP_imp hc82.1 (fun q => ⟨q.1, q.2, fun h => by omega⟩), hc82.2⟩ hP hS (lv_sub hl [0, 1, 2, 3, 4, 5] rfl)
                  · have t90 := tq_nle (k := v29_5.toInt) (q := (100)) c90 rfl (by decide +kernel)
                    refine lv_aload_n hx hb dX7_readsRows_93 rfl (lv_at hl 0 rfl) ?_
                    refine lv_iconst (v := 4) hx hb dX7_readsRows_94 (by decide +kernel) ?_
                    refine lv_iload hx hb dX7_readsRows_95 (lv_at hl 4 rfl) ?_
                    refine lv_bipush (v := 100) hx hb dX7_readsRows_97 (by decide +kernel) ?_
                    refine lv_iadd hx hb dX7_readsRows_99 ?_
                    refine lv_topi (fun z99 ez99 => ?_)
                    have bz99 := tq_add (k := z21.toInt) (q := (100)) ez99 rfl (by decide +kernel) (by omega) (by omega)
                    refine sw_v (Z := (fun I1 J1 => Iv L K x0 m0 tx tm I1 ∧ (∀ b, ¬ (b = p0) → I1 b = I82 b) ∧ I1 p0 11 = I82 p0 11 ∧ (((I82 p0 14).toInt ≤ (I1 p0 14).toInt ∧ ((I1 p0 15).toInt = -1 → (I82 p0 15).toInt = -1) ∧ (∀ k, ¬ k = 15 → I1 p0 k = I82 p0 k) ∧ ¬ (I1 p0 15).toInt = -1)) ∧ (((I82 p0 15).toInt = -1 → (I1 p0 15).toInt = 8 * z99.toInt + (4 : Int32).toInt) ∧ (¬ (I82 p0 15).toInt = -1 → I1 p0 15 = I82 p0 15)) ∧ (∀ b, K b = 0 ∨ K b = 1 ∨ K b = 3 ∨ K b = 6 → I1 b = I82 b) ∧ J1 = J4)) (va_runV (As := [.int 4, .int z99]) (rest := []) ⟨hx, hb, hml, hown, hts⟩ (s_X7_fails l dC dI cs L K G Q hQ x0 m0 tx tm H.size I82 J4 hI82 p0 hLp0 hKp0 4 ⟨by decide +kernel, by decide +kernel⟩ z99 ⟨by omega, by omega⟩) (cwV 2 hts (gV pq1239 pq1241 pq15 pq81 pq1242) rfl rfl rfl (by decide +kernel) ⟨(by rw [hR]; exact (Nat.le_of_ble_eq_true rfl)), (by rw [hR]; exact (Nat.le_of_ble_eq_true rfl))⟩) (sP_V hP hD hK hN hLp0 hKp0 rfl rfl) rfl rfl hl.1 rfl (lv_room (Nat.le_of_ble_eq_true rfl)) dX7_readsRows_100 ⟨(by rw [hR]; exact (Nat.le_of_ble_eq_true rfl)), (by rw [hR]; exact (Nat.le_of_ble_eq_true rfl))⟩) hS hAL hA (fun Iz100 Jz100 H locs hz100 hIz100 hP hS => ?_)
                    obtain ⟨hIz100, frc100, kc100_0_11, zp100, fz100, dnc100, djc100⟩ := hIz100
                    obtain rfl : J4 = Jz100 := djc100.symm
                    replace zp100 : Hid _ := zp100
                    replace fz100 : Hid _ := fz100
                    have hk_Iz100 := hK_call hQ hLp0 hKp0 frc100 zp100.1 zp100.2.1 hk_I82
                    have dn_Iz100 : (∀ b, K b = 0 ∨ K b = 1 ∨ K b = 3 ∨ K b = 6 → Iz100 b = I b) := fun b hc => (dnc100 b (by omega)).trans (dn_I82 b hc)
                    have kp0_11_Iz100 : Iz100 p0 11 = I p0 11 := kc100_0_11.trans kp0_11_I82
                    have fr_Iz100 : ∀ b, ¬ (K b = 7 ∨ K b = 28) → Iz100 b = I b := fun b q => (frc100 b (fun z => q (by rw [z]; have := hKp0; omega))).trans (fr_I82 b q)
                    have cst100_4 : (4 : Int32).toInt = 4 := by decide +kernel
                    exact j103 Iz100 _ _ _ hIz100 kp0_11_Iz100 fr_Iz100 hk_Iz100 dn_Iz100 ⟨Int.le_trans h82.1 zp100.1, fun h => absurd h zp100.2.2.2⟩ ⟨rwP_fail (V := 8 * ((sk (tb tm.1.2.2 (I p0 13).toInt) (I4 p0 14).toInt) + 100) + 4) hc82.1 (fun q => by rw [L4.2.2, prw_4a (by omega) (by rw [← g55]; exact q.1) (by rw [← g55]; omega)]) (by omega) ⟨fun q => (fz100.1 q).trans (by rw [cst100_4]; rw [bz99, e21]), fun q => congrArg Int32.toInt (fz100.2 q)⟩, rwC_step hc82.2 zp100.2.2.1 (frc100 _ nyh)⟩ hP hS (lv_sub hl [0, 1, 2, 3, 4, 5] rfl)
              refine lv_icmp_ne (tgt := 82) hx hb dX7_readsRows_72 (by decide) (fun c72 => ?_) (fun c72 => ?_)
              · have t72 := tq_ne (k := v4_2.toInt) (q := (40)) c72 rfl (by decide +kernel)
                exact j82 I69 _ _ _ hI69 kp0_11_I69 fr_I69 hk_I69 dn_I69 ⟨h69, fun _ => by omega⟩ ⟨rwP_imp hc69.1 (fun q => ⟨q, t72⟩), hc69.2⟩ hP hS (lv_sub hl [0, 1, 2, 3, 4, 5] rfl)
              · have t72 := tq_eq (k := v4_2.toInt) (q := (40)) c72 rfl (by decide +kernel)
                refine lv_aload_n hx hb dX7_readsRows_75 rfl (lv_at hl 0 rfl) ?_
                refine lv_iconst (v := 3) hx hb dX7_readsRows_76 (by decide +kernel) ?_
                refine lv_iload hx hb dX7_readsRows_77 (lv_at hl 4 rfl) ?_
                refine sw_v (Z := (fun I1 J1 => Iv L K x0 m0 tx tm I1 ∧ (∀ b, ¬ (b = p0) → I1 b = I69 b) ∧ I1 p0 11 = I69 p0 11 ∧ (((I69 p0 14).toInt ≤ (I1 p0 14).toInt ∧ ((I1 p0 15).toInt = -1 → (I69 p0 15).toInt = -1) ∧ (∀ k, ¬ k = 15 → I1 p0 k = I69 p0 k) ∧ ¬ (I1 p0 15).toInt = -1)) ∧ (((I69 p0 15).toInt = -1 → (I1 p0 15).toInt = 8 * z21.toInt + (3 : Int32).toInt) ∧ (¬ (I69 p0 15).toInt = -1 → I1 p0 15 = I69 p0 15)) ∧ (∀ b, K b = 0 ∨ K b = 1 ∨ K b = 3 ∨ K b = 6 → I1 b = I69 b) ∧ J1 = J4)) (va_runV (As := [.int 3, .int z21]) (rest := []) ⟨hx, hb, hml, hown, hts⟩ (s_X7_fails l dC dI cs L K G Q hQ x0 m0 tx tm H.size I69 J4 hI69 p0 hLp0 hKp0 3 ⟨by decide +kernel, by decide +kernel⟩ z21 ⟨by omega, by omega⟩) (cwV 2 hts (gV pq1239 pq1241 pq15 pq81 pq1242) rfl rfl rfl (by decide +kernel) ⟨(by rw [hR]; exact (Nat.le_of_ble_eq_true rfl)), (by rw [hR]; exact (Nat.le_of_ble_eq_true rfl))⟩) (sP_V hP hD hK hN hLp0 hKp0 rfl rfl) rfl rfl hl.1 rfl (lv_room (Nat.le_of_ble_eq_true rfl)) dX7_readsRows_79 ⟨(by rw [hR]; exact (Nat.le_of_ble_eq_true rfl)), (by rw [hR]; exact (Nat.le_of_ble_eq_true rfl))⟩) hS hAL hA (fun Iz79 Jz79 H locs hz79 hIz79 hP hS => ?_)
                obtain ⟨hIz79, frc79, kc79_0_11, zp79, fz79, dnc79, djc79⟩ := hIz79
                obtain rfl : J4 = Jz79 := djc79.symm
                replace zp79 : Hid _ := zp79
                replace fz79 : Hid _ := fz79
                have hk_Iz79 := hK_call hQ hLp0 hKp0 frc79 zp79.1 zp79.2.1 hk_I69
                have dn_Iz79 : (∀ b, K b = 0 ∨ K b = 1 ∨ K b = 3 ∨ K b = 6 → Iz79 b = I b) := fun b hc => (dnc79 b (by omega)).trans (dn_I69 b hc)
                have kp0_11_Iz79 : Iz79 p0 11 = I p0 11 := kc79_0_11.trans kp0_11_I69
                have fr_Iz79 : ∀ b, ¬ (K b = 7 ∨ K b = 28) → Iz79 b = I b := fun b q => (frc79 b (fun z => q (by rw [z]; have := hKp0; omega))).trans (fr_I69 b q)
                have cst79_3 : (3 : Int32).toInt = 3 := by decide +kernel
                exact j82 Iz79 _ _ _ hIz79 kp0_11_Iz79 fr_Iz79 hk_Iz79 dn_Iz79 ⟨Int.le_trans h69 zp79.1, fun h => absurd h zp79.2.2.2⟩ ⟨rwP_fail (V := 8 * (sk (tb tm.1.2.2 (I p0 13).toInt) (I4 p0 14).toInt) + 3) hc69.1 (fun q => by rw [L4.2.2, prw_3 (by omega) (by rw [← g55]; exact q)]) (by omega) ⟨fun q => (fz79.1 q).trans (by rw [cst79_3]; rw [e21]), fun q => congrArg Int32.toInt (fz79.2 q)⟩, rwC_step hc69.2 zp79.2.2.1 (frc79 _ nyh)⟩ hP hS (lv_sub hl [0, 1, 2, 3, 4, 5] rfl)
            refine lv_if_ne (tgt := 69) hx hb dX7_readsRows_57 (by decide) (fun c57 => ?_) (fun c57 => ?_)
            · have t57 := tq_ne (k := v29_5.toInt) (q := (0)) c57 rfl (by decide +kernel)
              exact j69 I29 _ _ _ hI29 kp0_11_I29 fr_I29 hk_I29 dn_I29 h29.2 ⟨Or.inl ⟨t57, hc29.2.2.1⟩, hC29⟩ hP hS (lv_sub hl [0, 1, 2, 3, 4, 5] rfl)
            · have t57 := tq_eq (k := v29_5.toInt) (q := (0)) c57 rfl (by decide +kernel)
              refine lv_aload_n hx hb dX7_readsRows_60 rfl (lv_at hl 0 rfl) ?_
              refine lv_iconst (v := 1) hx hb dX7_readsRows_61 (by decide +kernel) ?_
              refine lv_aload_n hx hb dX7_readsRows_62 rfl (lv_at hl 0 rfl) ?_
              refine p_get hx hb hts inX7 hown hK hP hLp0 hKp0 rfl rfl 14 (by decide) (hts _ pq1129) rfl dX7_readsRows_63 ?_
              refine lv_topi (fun z63 ez63 => ?_)
              have cgz63 := congrArg Int32.toInt ez63
              have bz63 := oI_7_14 (Iv_at hI29 hLp0 hKp0)
              rw [← ez63] at bz63
              refine sw_v (Z := (fun I1 J1 => Iv L K x0 m0 tx tm I1 ∧ (∀ b, ¬ (b = p0) → I1 b = I29 b) ∧ I1 p0 11 = I29 p0 11 ∧ (((I29 p0 14).toInt ≤ (I1 p0 14).toInt ∧ ((I1 p0 15).toInt = -1 → (I29 p0 15).toInt = -1) ∧ (∀ k, ¬ k = 15 → I1 p0 k = I29 p0 k) ∧ ¬ (I1 p0 15).toInt = -1)) ∧ (((I29 p0 15).toInt = -1 → (I1 p0 15).toInt = 8 * z63.toInt + (1 : Int32).toInt) ∧ (¬ (I29 p0 15).toInt = -1 → I1 p0 15 = I29 p0 15)) ∧ (∀ b, K b = 0 ∨ K b = 1 ∨ K b = 3 ∨ K b = 6 → I1 b = I29 b) ∧ J1 = J4)) (va_runV (As := [.int 1, .int z63]) (rest := []) ⟨hx, hb, hml, hown, hts⟩ (s_X7_fails l dC dI cs L K G Q hQ x0 m0 tx tm H.size I29 J4 hI29 p0 hLp0 hKp0 1 ⟨by decide +kernel, by decide +kernel⟩ z63 ⟨by omega, by omega⟩) (cwV 2 hts (gV pq1239 pq1241 pq15 pq81 pq1242) rfl rfl rfl (by decide +kernel) ⟨(by rw [hR]; exact (Nat.le_of_ble_eq_true rfl)), (by rw [hR]; exact (Nat.le_of_ble_eq_true rfl))⟩) (sP_V hP hD hK hN hLp0 hKp0 rfl rfl) rfl rfl hl.1 rfl (lv_room (Nat.le_of_ble_eq_true rfl)) dX7_readsRows_66 ⟨(by rw [hR]; exact (Nat.le_of_ble_eq_true rfl)), (by rw [hR]; exact (Nat.le_of_ble_eq_true rfl))⟩) hS hAL hA (fun Iz66 Jz66 H locs hz66 hIz66 hP hS => ?_)
              obtain ⟨hIz66, frc66, kc66_0_11, zp66, fz66, dnc66, djc66⟩ := hIz66
              obtain rfl : J4 = Jz66 := djc66.symm
              replace zp66 : Hid _ := zp66
              replace fz66 : Hid _ := fz66
              have hk_Iz66 := hK_call hQ hLp0 hKp0 frc66 zp66.1 zp66.2.1 hk_I29
              have dn_Iz66 : (∀ b, K b = 0 ∨ K b = 1 ∨ K b = 3 ∨ K b = 6 → Iz66 b = I b) := fun b hc => (dnc66 b (by omega)).trans (dn_I29 b hc)
              have kp0_11_Iz66 : Iz66 p0 11 = I p0 11 := kc66_0_11.trans kp0_11_I29
              have fr_Iz66 : ∀ b, ¬ (K b = 7 ∨ K b = 28) → Iz66 b = I b := fun b q => (frc66 b (fun z => q (by rw [z]; have := hKp0; omega))).trans (fr_I29 b q)
              have cst66_1 : (1 : Int32).toInt = 1 := by decide +kernel
              exact j69 Iz66 _ _ _ hIz66 kp0_11_Iz66 fr_Iz66 hk_Iz66 dn_Iz66 (Int.le_trans h29.2 zp66.1) ⟨rwP_fail (P := True) (V := 8 * (sk (tb tm.1.2.2 (I p0 13).toInt) (I4 p0 14).toInt) + 1) (Or.inl ⟨trivial, hc29.2.2.1⟩) (fun _ => by rw [L4.2.2, prw_1 ⟨by omega, by omega⟩ (by rw [← g55]; omega)]) (by omega) ⟨fun q => (fz66.1 q).trans (by rw [cst66_1]; rw [cgz63, h55b]; omega), fun q => congrArg Int32.toInt (fz66.2 q)⟩, rwC_step hC29 zp66.2.2.1 (frc66 _ nyh)⟩ hP hS (lv_sub hl [0, 1, 2, 3, 4, 5] rfl)
          · have t36 := tq_ne (k := z33.toInt) (q := (0)) c36 rfl (by decide +kernel)
            have i36 := imz33 t36
            have q30 := xpz30.1 (by omega)
            obtain ⟨z39, ez39⟩ : ∃ y : Int32, y = v29_5 + 1 := ⟨_, rfl⟩
            refine lv_iinc (v := z39) (lv' := [(5, .int z39), (0, .ref p0), (1, .int p1), (2, .int v4_2), (3, .int v4_3), (4, .int z21)]) hx hb dX7_readsRows_39 hl (k := 5) rfl (by rw [ez39]; rfl) (by decide) rfl (fun ls hl => ?_)
            have bz39 := tq_add (k := v29_5.toInt) (q := 1) ez39 rfl (by decide +kernel) (by omega) (by omega)
            refine lv_aload_n hx hb dX7_readsRows_42 rfl (lv_at hl 1 rfl) ?_
            refine lv_dup hx hb dX7_readsRows_43 rfl ?_
            refine p_get hx hb hts inX7 hown hK hP hLp0 hKp0 rfl rfl 14 (by decide) (hts _ pq1129) rfl dX7_readsRows_44 ?_
            refine lv_topi (fun z44 ez44 => ?_)
            have cgz44 := congrArg Int32.toInt ez44
            have bz44 := oI_7_14 (Iv_at hI29 hLp0 hKp0)
            rw [← ez44] at bz44
            refine lv_iconst (v := 1) hx hb dX7_readsRows_47 (by decide +kernel) ?_
            refine lv_iadd hx hb dX7_readsRows_48 ?_
            refine lv_topi (fun z48 ez48 => ?_)
            have bz48 := tq_add (k := z44.toInt) (q := (1)) ez48 rfl (by decide +kernel) (by omega) (by omega)
            refine p_put hx hb hts inX7 tyX7 tyX7_ok nmX7 hown hK hP hD hS hLp0 hKp0 rfl rfl 14 (by decide) (hts _ pq1129) rfl (by decide +kernel) (Nat.le_of_ble_eq_true rfl) (oS_7_14 cs _ _ _ _) dX7_readsRows_49 (fun H locs hP hS => ?_)
            obtain ⟨Iz49, hP, hIz49, qIz49⟩ : ∃ Iz49, va_P (dC, dI) vwCl (Wd cs L K Iz49 J4 Q) H ∧ Iv L K x0 m0 tx tm Iz49 ∧ Iz49 = va_up I29 p0 (upd (I29 p0) 14 z48) := ⟨_, hP, Iv_put hI29 hKp0 (oP_7_14 (Iv_at hI29 hLp0 hKp0) ⟨by omega, by omega⟩) (by decide) (by decide), rfl⟩
            have dn_Iz49 : (∀ b, K b = 0 ∨ K b = 1 ∨ K b = 3 ∨ K b = 6 → Iz49 b = I b) := fun b hc => (congrFun qIz49 b).trans ((va_up_ne _ _ (fun z => by have q := hKp0; rw [← z] at q; omega)).trans (dn_I29 b hc))
            have hk_Iz49 := hK_at hQ hLp0 hKp0 qIz49 (by omega) hk_I29
            have kp0_11_Iz49 : Iz49 p0 11 = I p0 11 := (congrFun (congrFun qIz49 p0) 11).trans ((rz_fr _ _ _ _ (by decide)).trans kp0_11_I29)
            have fr_Iz49 : ∀ b, ¬ (K b = 7 ∨ K b = 28) → Iz49 b = I b := fun b q => (congrFun qIz49 b).trans ((va_up_ne _ _ (fun z => q (by rw [z]; have := hKp0; omega))).trans (fr_I29 b q))
            refine lv_goto (tgt := 29) hx hb dX7_readsRows_52 (by decide) ?_
            exact ih29 _ (by rw [qIz49, rz_at]; omega) z39 Iz49 _ _ _ rfl ⟨by omega, by omega⟩ hIz49 kp0_11_Iz49 fr_Iz49 hk_Iz49 dn_Iz49 ⟨by rw [qIz49, rz_at]; omega, by rw [qIz49, rz_at]; omega⟩ ⟨(fun k a b => by rw [qIz49, rz_at, bz48, cgz44] at b; rcases Int.lt_or_le k (I29 p0 14).toInt with q | q; exact hc29.1 k a q; obtain rfl : k = (I29 p0 14).toInt := (by omega); have w := xpz30.2; rw [hc29.2.1] at w; exact decide_eq_true ((xpz33.1 t36).elim (fun e => Or.inl (sg_t (tb_rng hby) (by decide) (w.symm.trans e))) (fun e => Or.inr (sg_t (tb_rng hby) (by decide) (w.symm.trans e))))), by rw [qIz49, rz_fr _ _ _ _ (by decide)]; exact hc29.2.1, by rw [qIz49, rz_fr _ _ _ _ (by decide)]; exact hc29.2.2.1, by rw [qIz49, va_up_ne _ _ nyh]; exact hc29.2.2.2⟩ hP hS (lv_sub hl [1, 2, 3, 4, 5, 0] rfl))
        exact key29 _ 0 Iz16 _ _ _ rfl ⟨by decide +kernel, by decide +kernel⟩ hIz16 kp0_11_Iz16 fr_Iz16 hk_Iz16 dn_Iz16 ⟨by rw [← ez21, show (0 : Int32).toInt = 0 from by decide +kernel]; omega, by rw [← ez21]; exact Int.le_refl _⟩ ⟨rn_nil (by omega), (zr16.2.2.1 13 (by decide)).trans L4.1, by rw [zr16.2.2.1 15 (by decide)]; exact L4.2.1, frc16 _ nyh⟩ hP hS (lv_sub hl [2, 3, 4, 5, 1, 0] rfl))
  exact key4 _ 0 1 I J _ _ _ rfl ⟨by decide +kernel, by decide +kernel⟩ ⟨by decide +kernel, by decide +kernel⟩ hI kp0_11_I fr_I hk_I dn_I dj_J ⟨fun hz _ => ⟨fun _ => rr_0 hz (by decide +kernel) rfl, fun q => absurd q (by decide +kernel)⟩, fun _ _ => rfl, fun _ _ => rfl⟩ (fun _ => by decide +kernel) ⟨rfl, Or.inl ⟨by decide +kernel, hf, by rw [show (0 : Int32).toInt = 0 from by decide +kernel]; exact prw_w0⟩⟩ hP hS (lv_sub hl [2, 3, 1, 0] rfl)

set_option maxHeartbeats 4000000 in
set_option maxRecDepth 100000 in
theorem s_X7_readsForm (l : Launch) (dC : Nat → ClassId) (dI : Nat → Nat → Nat) (cs : Nat → ClassId) (L : List Nat) (K G : Nat → Nat) (Q : Nat → Nat → Option Nat) (hQ : Sv L K G Q) (x0 m0 : Nat) (tx : GT) (tm : GT × Int) (sz : Nat) (I : Nat → Nat → Int32) (J : Nat → Nat → Int64) (hI : Iv L K x0 m0 tx tm I) (p0 : Nat) (hLp0 : p0 ∈ L) (hKp0 : K p0 = 7) (ho : hOK Q I p0) (hf : (I p0 15).toInt = -1) (hm : (∀ yh, Q p0 1 = some yh → (I yh 0).toInt ≤ 7)) : Met l yX7_readsForm (.code yX7_readsForm cX7_readsForm 5 none :: pw) ({ frames := 5, cells := 0, slots := 0, locals := 109 }) (sPX (dC, dI) cs [.ref p0] sz L K I J Q (fun q => q ∈ L ∨ sz ≤ q) (fun A U H => xS A U H)) (va_Qv (fun (_ : Unit) => True) (fun _ t => sB (dC, dI) cs L K Q (fun I1 J1 => Iv L K x0 m0 tx tm I1 ∧ (∀ b, ¬ (K b = 7 ∨ K b = 28) → I1 b = I b) ∧ I1 p0 11 = I p0 11 ∧ (hJ Q I I1 p0) ∧ (mdQ I I1 p0 (pfm (tb tm.1.2.2 (I p0 13).toInt) (I p0 14).toInt) ∧ ((pfm (tb tm.1.2.2 (I p0 13).toInt) (I p0 14).toInt).1 = 0 → (I1 ((Q p0 1).getD 0) 0).toInt = (I ((Q p0 1).getD 0) 0).toInt + 1) ∧ I1 ((Q p0 1).getD 0) 1 = I ((Q p0 1).getD 0) 1) ∧ (∀ b, K b = 0 ∨ K b = 1 ∨ K b = 3 ∨ K b = 6 → I1 b = I b) ∧ (∀ c : Fx, okF c → isF I J (a0 Q p0 1) (a0 Q p0 6) 0 c → zF c → (I1 p0 15).toInt = -1 → isF I1 J1 (a0 Q p0 1) (a0 Q p0 6) 0 (adM c (fmT (tb tm.1.2.2 (I p0 13).toInt) (I p0 14).toInt))) ∧ (∀ b, ¬ (K b = 32) → J1 b = J b)) t) (fun q => q ∈ L ∨ sz ≤ q)) 0 0 (fun q => q ∈ L ∨ sz ≤ q) := by
  refine Met.ofW (cc := cX7_readsForm) (maxL := 5) (ret := none) (by decide +kernel) rfl ?_
  intro p e s m args below meth c s₁ B hml hv
  obtain ⟨rfl, ⟨hsz, hP, hK, hD0, hN⟩, hXs⟩ := hv
  have hx := B.exec
  have hb := B.bytes
  have hr := B.returns
  have hts := fun w (h : w ∈ pw) => atoms_spec (ws := Cond.code yX7_readsForm cX7_readsForm 5 none :: pw) B.pre w (List.mem_cons_of_mem _ h)
  have hown : s.vm.findClass RX7 = some m.cls := findClass_of_methodNamed B.named
  have hlocks := B.notSynchronized
  subst hsz
  have hBB : 999 ≤ tm.2 ∧ tm.2 ≤ 6000000 := hI.2.2.2.2.1
  have hk_I : hHK Q I I p0 := hK_refl ho
  have dn_I : (∀ b, K b = 0 ∨ K b = 1 ∨ K b = 3 ∨ K b = 6 → I b = I b) := fun _ _ => rfl
  have dj_J : (∀ b, ¬ (K b = 32) → J b = J b) := fun _ _ => rfl
  have kp0_11_I : I p0 11 = I p0 11 := rfl
  have fr_I : ∀ b, ¬ (K b = 7 ∨ K b = 28) → I b = I b := fun _ _ => rfl
  obtain ⟨A, hAe⟩ : ∃ A : Nat → Prop, A = (fun q => q ∈ L ∨ s.heap.size ≤ q) := ⟨_, rfl⟩
  rw [← hAe]
  have hAL : ∀ q, q ∈ L → A q := fun q h => by rw [hAe]; exact Or.inl h
  have hA : ∀ q, s.heap.size ≤ q → A q := fun q h => by rw [hAe]; exact Or.inr h
  have hD : ∀ F, va_D A (va_pl L F) := fun F => (hD0 F).weaken (fun k q hk _ => hAL _ (pl_mem hk))
  rw [← hAe] at hXs
  have hxx := hXs
  have hxt := hxx.1
  obtain ⟨H, hHe⟩ : ∃ H : Heap, H = s.heap := ⟨_, rfl⟩
  have hS : va_S A s.heap H [] := by rw [hHe]; exact va_S.rf
  rw [← hHe] at hP
  have hl := lv_entry ([.ref p0]) (n := 5) (Nat.le_of_ble_eq_true rfl)
  rw [lg_entry_eq]
  generalize (lg_sl ([.ref p0]) ++ List.replicate (5 - (lg_sl ([.ref p0])).length) Slot.unset).toArray = ls at hl ⊢
  have hl : lv_has ls 5 [(0, .ref p0)] := hl
  rw [← hHe]
  refine namedW (fun R Qz hR hQz => ?_)
  obtain ⟨yh0, eyh0, hLyh, hKyh⟩ := oQ_7_1 (Sv_at hQ hLp0 hKp0)
  have eYH : ((Q p0 1).getD 0) = yh0 := by rw [eyh0]; rfl
  have nyh : ¬ ((Q p0 1).getD 0) = p0 := by rw [eYH]; exact ne_k hKyh hKp0 (by decide)
  have a14 := (oI_7_14 (Iv_at hI hLp0 hKp0)).1
  have a13 := (oI_7_13 (Iv_at hI hLp0 hKp0)).2
  have hby := tpB hQ hI hLp0 hKp0
  refine lv_aload_n hx hb dX7_readsForm_0 rfl (lv_at hl 0 rfl) ?_
  obtain ⟨y1, ey1, hLy1, hKy1⟩ := oQ_7_1 (Sv_at hQ hLp0 hKp0)
  refine p_get (v := .ref y1) hx hb hts inX7 hown hK hP hLp0 hKp0 rfl rfl 1 (by decide) (hts _ pq1116) (congrArg (fun q => some (va_rf q)) ey1) dX7_readsForm_1 ?_
  refine lv_iconst (v := 0) hx hb dX7_readsForm_4 (by decide +kernel) ?_
  refine p_iald hx hb hK hP 18 hLy1 hKy1 rfl rfl (in_d (by decide +kernel)) dX7_readsForm_5 ?_
  refine lv_topi (fun z5 ez5 => ?_)
  have b5 := ho hf y1 ey1 0 (by decide)
  unfold rng at b5
  have c5 := congrArg Int32.toInt (show z5 = I y1 0 from ez5)
  have m5 := hm y1 ey1
  have m6 : 0 ≤ z5.toInt ∧ z5.toInt ≤ 7 := ⟨by omega, by omega⟩
  replace b5 : Hid _ := b5
  refine lv_istore_n (lv' := [(1, .int z5), (0, .ref p0)]) hx hb dX7_readsForm_6 rfl hl (by decide) rfl (fun ls hl => ?_)
  refine lv_aload_n hx hb dX7_readsForm_7 rfl (lv_at hl 1 rfl) ?_
  refine sw_ir (Z := (fun u => (fun I1 J1 => Iv L K x0 m0 tx tm I1 ∧ (∀ b, ¬ (b = p0) → I1 b = I b) ∧ I1 p0 11 = I p0 11 ∧ ((I p0 14).toInt ≤ (I1 p0 14).toInt ∧ ((I1 p0 15).toInt = -1 → (I p0 15).toInt = -1) ∧ (∀ k, ¬ k = 14 → I1 p0 k = I p0 k) ∧ (¬ u.toInt = -1 → (I1 p0 14).toInt < (I1 p0 13).toInt)) ∧ (u.toInt = sgB ((tb tm.1.2.2 (I p0 13).toInt) (sk (tb tm.1.2.2 (I p0 13).toInt) (I p0 14).toInt)) ∧ (I1 p0 14).toInt = (sk (tb tm.1.2.2 (I p0 13).toInt) (I p0 14).toInt)) ∧ (∀ b, K b = 0 ∨ K b = 1 ∨ K b = 3 ∨ K b = 6 → I1 b = I b) ∧ J1 = J))) (va_runV (As := []) (rest := []) ⟨hx, hb, hml, hown, hts⟩ (s_X7_next l dC dI cs L K G Q hQ x0 m0 tx tm H.size I J hI p0 hLp0 hKp0) (cwV 0 hts (gV pq1211 pq1213 pq10 pq81 pq1214) rfl rfl rfl (by decide +kernel) ⟨(by rw [hR]; exact (Nat.le_of_ble_eq_true rfl)), (by rw [hR]; exact (Nat.le_of_ble_eq_true rfl))⟩) (sP_V hP hD hK hN hLp0 hKp0 rfl rfl) rfl rfl hl.1 rfl (lv_room (Nat.le_of_ble_eq_true rfl)) dX7_readsForm_8 ⟨(by rw [hR]; exact (Nat.le_of_ble_eq_true rfl)), (by rw [hR]; exact (Nat.le_of_ble_eq_true rfl))⟩) hS hAL hA (fun z8 Iz8 Jz8 H locs hz8 hIz8 hP hS => ?_)
  obtain ⟨hIz8, frc8, kc8_0_11, zr8, fz8, dnc8, djc8⟩ := hIz8
  obtain rfl : J = Jz8 := djc8.symm
  replace zr8 : Hid _ := zr8
  replace fz8 : Hid _ := fz8
  have hk_Iz8 := hK_call hQ hLp0 hKp0 frc8 zr8.1 zr8.2.1 hk_I
  have dn_Iz8 : (∀ b, K b = 0 ∨ K b = 1 ∨ K b = 3 ∨ K b = 6 → Iz8 b = I b) := fun b hc => (dnc8 b (by omega)).trans (dn_I b hc)
  have kp0_11_Iz8 : Iz8 p0 11 = I p0 11 := kc8_0_11.trans kp0_11_I
  have fr_Iz8 : ∀ b, ¬ (K b = 7 ∨ K b = 28) → Iz8 b = I b := fun b q => (frc8 b (fun z => q (by rw [z]; have := hKp0; omega))).trans (fr_I b q)
  have bz8 := hz8
  have A8 : mdA I Iz8 p0 (sk (tb tm.1.2.2 (I p0 13).toInt) (I p0 14).toInt) := ⟨zr8.2.2.1 13 (by decide), zr8.2.2.1 15 (by decide), fz8.2⟩
  refine ro_i (va_runS (As := [.int z8]) (rest := []) ⟨hx, hb, hml, hown, hts⟩ (s_X7_isSign l dC dI cs L K G Q hQ x0 m0 tx tm H.size Iz8 J hIz8 z8) (va_cwS 1 hts (gS pq1247 pq1248 pq81 pq1249) rfl rfl rfl (by decide +kernel) ⟨(by rw [hR]; exact (Nat.le_of_ble_eq_true rfl)), (by rw [hR]; exact (Nat.le_of_ble_eq_true rfl))⟩) (sP_S hP hD hK hN) rfl rfl hl.1 rfl (lv_room (Nat.le_of_ble_eq_true rfl)) dX7_readsForm_11 ⟨(by rw [hR]; exact (Nat.le_of_ble_eq_true rfl)), (by rw [hR]; exact (Nat.le_of_ble_eq_true rfl))⟩) hS hP (fun z11 H locs hz11 hP hS => ?_)
  obtain ⟨bz11, imz11, xpz11⟩ := hz11
  replace xpz11 : Hid _ := xpz11
  have j143 : ∀ (I143 : Nat → Nat → Int32) (J143 : Nat → Nat → Int64) (H : Heap) (lo : List Loc) (ls : Array Slot), Iv L K x0 m0 tx tm I143 → I143 p0 11 = I p0 11 → (∀ b, ¬ (K b = 7 ∨ K b = 28) → I143 b = I b) → hHK Q I I143 p0 → (∀ b, K b = 0 ∨ K b = 1 ∨ K b = 3 ∨ K b = 6 → I143 b = I b) → (∀ b, ¬ (K b = 32) → J143 b = J b) → Hid ((((I143 p0 15).toInt = -1 → (∀ k, k < 80 → mo (J (a0 Q p0 6)) z5.toInt.toNat k = 0) → hdM Q I I143 J143 p0 z5.toInt.toNat (fmT (tb tm.1.2.2 (I p0 13).toInt) (I p0 14).toInt)) ∧ (∀ k, (k < 80 * z5.toInt.toNat ∨ 80 * z5.toInt.toNat + 80 ≤ k) → J143 (a0 Q p0 6) k = J (a0 Q p0 6) k))) → mdQ I I143 p0 (pfm (tb tm.1.2.2 (I p0 13).toInt) (I p0 14).toInt) → va_P (dC, dI) vwCl (Wd cs L K I143 J143 Q) H → va_S A s.heap H lo → lv_has ls 5 [(0, .ref p0), (1, .int z5)] → W p l e R s m (([.ref p0] : List Value).toArray) below meth c H lo 0 0 Qz (F0 m 143 ls []) := by
    intro I143 J143 H lo ls hI143 kp0_11_I143 fr_I143 hk_I143 dn_I143 dj_J143 g143 hc143 hP hS hl
    refine lv_aload_n hx hb dX7_readsForm_143 rfl (lv_at hl 0 rfl) ?_
    refine p_get (v := .ref y1) hx hb hts inX7 hown hK hP hLp0 hKp0 rfl rfl 1 (by decide) (hts _ pq1116) (congrArg (fun q => some (va_rf q)) ey1) dX7_readsForm_144 ?_
    refine lv_iconst (v := 0) hx hb dX7_readsForm_147 (by decide +kernel) ?_
    refine lv_dup2_11 hx hb dX7_readsForm_148 rfl rfl ?_
    refine p_iald hx hb hK hP 18 hLy1 hKy1 rfl rfl (in_d (by decide +kernel)) dX7_readsForm_149 ?_
    refine lv_topi (fun z149 ez149 => ?_)
    refine lv_aload_n hx hb dX7_readsForm_150 rfl (lv_at hl 0 rfl) ?_
    refine ro_i (va_runV (As := []) (rest := [.int z149, .int 0, .ref y1]) ⟨hx, hb, hml, hown, hts⟩ (s_X7_isRight l dC dI cs L K G Q hQ x0 m0 tx tm H.size I143 J143 hI143 p0 hLp0 hKp0) (cwV 0 hts (gV pq1219 pq1221 pq12 pq81 pq1222) rfl rfl rfl (by decide +kernel) ⟨(by rw [hR]; exact (Nat.le_of_ble_eq_true rfl)), (by rw [hR]; exact (Nat.le_of_ble_eq_true rfl))⟩) (sP_V hP hD hK hN hLp0 hKp0 rfl rfl) rfl rfl hl.1 rfl (lv_room (Nat.le_of_ble_eq_true rfl)) dX7_readsForm_151 ⟨(by rw [hR]; exact (Nat.le_of_ble_eq_true rfl)), (by rw [hR]; exact (Nat.le_of_ble_eq_true rfl))⟩) hS hP (fun z151 H locs hz151 hP hS => ?_)
    obtain ⟨bz151, xpz151⟩ := hz151
    replace xpz151 : Hid _ := xpz151
    refine ro_i (va_runS (As := [.int z151]) (rest := [.int z149, .int 0, .ref y1]) ⟨hx, hb, hml, hown, hts⟩ (s_X7_truth l dC dI cs L K Q H.size I143 J143 z151) (va_cwS 1 hts (gS pq1257 pq1258 pq81 pq1259) rfl rfl rfl (by decide +kernel) ⟨(by rw [hR]; exact (Nat.le_of_ble_eq_true rfl)), (by rw [hR]; exact (Nat.le_of_ble_eq_true rfl))⟩) (sP_S hP hD hK hN) rfl rfl hl.1 rfl (lv_room (Nat.le_of_ble_eq_true rfl)) dX7_readsForm_154 ⟨(by rw [hR]; exact (Nat.le_of_ble_eq_true rfl)), (by rw [hR]; exact (Nat.le_of_ble_eq_true rfl))⟩) hS hP (fun z154 H locs hz154 hP hS => ?_)
    obtain ⟨bz154, xpz154⟩ := hz154
    have c149 := congrArg Int32.toInt ((show z149 = I143 y1 0 from ez149).trans (hk_I143.2.2.1 y1 ey1).1)
    have b149 := ho hf y1 ey1 0 (by decide)
    unfold rng at b149
    have c149b : 0 ≤ z149.toInt ∧ z149.toInt ≤ 7 := ⟨by have := hm y1 ey1; omega, by have := hm y1 ey1; omega⟩
    replace b149 : Hid _ := b149
    refine lv_iadd hx hb dX7_readsForm_157 ?_
    refine lv_topi (fun z157 ez157 => ?_)
    have bz157 := tq_add (k := z149.toInt) (q := z154.toInt) ez157 rfl rfl (by omega) (by omega)
    refine p_iast hx hb hK hP hD hS 18 hLy1 hKy1 rfl (fun _ => rfl) rfl (in_d (by decide +kernel)) dX7_readsForm_158 (fun H locs hP hS => ?_)
    obtain ⟨Iz158, hP, hIz158, qIz158⟩ : ∃ Iz158, va_P (dC, dI) vwCl (Wd cs L K Iz158 J143 Q) H ∧ Iv L K x0 m0 tx tm Iz158 ∧ Iz158 = va_up I143 y1 (upd (I143 y1) (0 : Int32).toNatClampNeg z157) := ⟨_, hP, Iv_put hI143 hKy1 (show okI _ 28 _ from trivial) (Or.inl (by decide)) (Or.inl (by decide)), rfl⟩
    have dn_Iz158 : (∀ b, K b = 0 ∨ K b = 1 ∨ K b = 3 ∨ K b = 6 → Iz158 b = I b) := fun b hc => (congrFun qIz158 b).trans ((va_up_ne _ _ (fun z => by have q := hKy1; rw [← z] at q; omega)).trans (dn_I143 b hc))
    have kp0_11_Iz158 : Iz158 p0 11 = I p0 11 := (congrFun (congrFun qIz158 p0) 11).trans ((congrFun (va_up_ne _ _ (fun z => by have q1 := hKp0; have q2 := hKy1; rw [z] at q1; omega)) 11).trans kp0_11_I143)
    have fr_Iz158 : ∀ b, ¬ (K b = 7 ∨ K b = 28) → Iz158 b = I b := fun b q => (congrFun qIz158 b).trans ((va_up_ne _ _ (fun z => q (by rw [z]; have := hKy1; omega))).trans (fr_I143 b q))
    subst hR; subst hQz
    exact W.vret hx hb hr (fun t ht hW => ⟨⟨(), rfl, trivial, ⟨Iz158, J143, ⟨hIz158, fr_Iz158, kp0_11_Iz158, (hJ_put hQ hLp0 hKp0 ey1 qIz158 (fun _ => by rw [show (0 : Int32).toInt.toNat = 0 from rfl]; unfold rng; omega) hk_I143), (by have hh := (hk_I143.2.2.1 y1 ey1); have eY : ((Q p0 1).getD 0) = y1 := (by rw [ey1]; rfl); exact ⟨mdQ_S hc143 (md_fr (by rw [qIz158, va_up_ne _ _ (ne_k hKp0 hKy1 (by decide))])), fun q => (by have F := ((hc143.2.1 hf).1 q).1; have r : ¬ z151.toInt = 0 := (fun h => xpz151.2 h F); have v2 := xpz154.2 r; rw [eY, qIz158, va_up_self]; unfold upd; rw [if_pos (by rfl)]; have := congrArg Int32.toInt hh.1; omega), (by rw [eY, qIz158, va_up_self]; unfold upd; rw [if_neg (by decide)]; exact hh.2)⟩), dn_Iz158, (fun c ok h zc F => by have m5 := hm y1 ey1; have eY : a0 Q p0 1 = y1 := gd_of ey1; have e0 : I y1 0 = c.1 0 := (by have q := h.1 0 (by decide); rw [eY] at q; exact q); have h0 : 0 ≤ (c.1 0).toInt ∧ (c.1 0).toInt ≤ 7 := (by have o := ok.1; rw [← e0] at o ⊢; exact ⟨o.1, m5⟩); have em : z5.toInt.toNat = (c.1 0).toInt.toNat := (by rw [← e0]; exact congrArg Int.toNat c5); have F3 : (I143 p0 15).toInt = -1 := (by rw [← F, qIz158, va_up_ne _ _ (ne_k hKp0 hKy1 (by decide))]); have hz := isF_z h zc h0; rw [← em] at hz; have r : ¬ z151.toInt = 0 := (fun q => xpz151.2 q F3); have v2 := xpz154.2 r; exact isF_adM h h0 em (g143.1 F3 hz) g143.2 (by rw [eY, qIz158, va_up_self]; rfl) (by rw [← e0, ez157, ez149, show I143 y1 (0 : Int32).toNatClampNeg = I y1 0 from (hk_I143.2.2.1 y1 ey1).1, show z154 = 1 from Int32.toInt_inj.mp (by rw [v2]; decide +kernel)])), dj_J143⟩, by rw [ht]; exact hP⟩⟩, hS.F ht⟩) hS.2.2 dX7_readsForm_159
  refine lv_if_eq (tgt := 25) hx hb dX7_readsForm_14 (by decide) (fun c14 => ?_) (fun c14 => ?_)
  · have t14 := tq_eq (k := z11.toInt) (q := (0)) c14 rfl (by decide +kernel)
    refine lv_aload_n hx hb dX7_readsForm_25 rfl (lv_at hl 1 rfl) ?_
    obtain ⟨y26, hv26, hx_y26⟩ := hxx.2 (RX7, 141, "box", wBox) (by simp [lits])
    dsimp only at hv26 hx_y26
    refine va_ldcS hx hb hown hv26 dX7_readsForm_26 ?_
    refine sw_ir (Z := (fun u => (fun I1 J1 => Iv L K x0 m0 tx tm I1 ∧ (∀ b, ¬ (b = p0) → I1 b = Iz8 b) ∧ I1 p0 11 = Iz8 p0 11 ∧ ((Iz8 p0 14).toInt ≤ (I1 p0 14).toInt ∧ ((I1 p0 15).toInt = -1 → (Iz8 p0 15).toInt = -1) ∧ (∀ k, ¬ k = 14 → I1 p0 k = Iz8 p0 k) ∧ (¬ u.toInt = 0 → (wBox.length : Int) ≤ (I1 p0 14).toInt)) ∧ ((tw (tb tm.1.2.2 (Iz8 p0 13).toInt) wBox (Iz8 p0 14).toInt → u.toInt = 1 ∧ (I1 p0 14).toInt = wr (tb tm.1.2.2 (Iz8 p0 13).toInt) (sk (tb tm.1.2.2 (Iz8 p0 13).toInt) (Iz8 p0 14).toInt)) ∧ (¬ tw (tb tm.1.2.2 (Iz8 p0 13).toInt) wBox (Iz8 p0 14).toInt → u.toInt = 0 ∧ (I1 p0 14).toInt = (sk (tb tm.1.2.2 (Iz8 p0 13).toInt) (Iz8 p0 14).toInt))) ∧ (∀ b, K b = 0 ∨ K b = 1 ∨ K b = 3 ∨ K b = 6 → I1 b = Iz8 b) ∧ J1 = J))) (va_runV (As := [.ref y26]) (rest := []) ⟨hx, hb, hml, hown, hts⟩ (s_X7_takes l dC dI cs L K G Q hQ x0 m0 tx tm H.size Iz8 J hIz8 p0 hLp0 hKp0 y26 wBox) (cwV 1 hts (gV pq1228 pq1230 pq14 pq81 pq1231) rfl rfl rfl (by decide +kernel) ⟨(by rw [hR]; exact (Nat.le_of_ble_eq_true rfl)), (by rw [hR]; exact (Nat.le_of_ble_eq_true rfl))⟩) (sPX_V hP hD hK hN hLp0 hKp0 rfl rfl (gX_and (gX_s _ _) gX_t) hS ⟨hx_y26, hxt⟩ (fun q h => h.elim (hAL q) (fun h => hA q (Nat.le_trans hS.1 h)))) rfl rfl hl.1 rfl (lv_room (Nat.le_of_ble_eq_true rfl)) dX7_readsForm_28 ⟨(by rw [hR]; exact (Nat.le_of_ble_eq_true rfl)), (by rw [hR]; exact (Nat.le_of_ble_eq_true rfl))⟩) hS hAL hA (fun z28 Iz28 Jz28 H locs hz28 hIz28 hP hS => ?_)
    obtain ⟨hIz28, frc28, kc28_0_11, zr28, fz28, dnc28, djc28⟩ := hIz28
    obtain rfl : J = Jz28 := djc28.symm
    replace zr28 : Hid _ := zr28
    replace fz28 : Hid _ := fz28
    have hk_Iz28 := hK_call hQ hLp0 hKp0 frc28 zr28.1 zr28.2.1 hk_Iz8
    have dn_Iz28 : (∀ b, K b = 0 ∨ K b = 1 ∨ K b = 3 ∨ K b = 6 → Iz28 b = I b) := fun b hc => (dnc28 b (by omega)).trans (dn_Iz8 b hc)
    have kp0_11_Iz28 : Iz28 p0 11 = I p0 11 := kc28_0_11.trans kp0_11_Iz8
    have fr_Iz28 : ∀ b, ¬ (K b = 7 ∨ K b = 28) → Iz28 b = I b := fun b q => (frc28 b (fun z => q (by rw [z]; have := hKp0; omega))).trans (fr_Iz8 b q)
    have bz28 := hz28
    have j43 : ∀ (I43 : Nat → Nat → Int32) (H : Heap) (lo : List Loc) (ls : Array Slot), Iv L K x0 m0 tx tm I43 → I43 p0 11 = I p0 11 → (∀ b, ¬ (K b = 7 ∨ K b = 28) → I43 b = I b) → hHK Q I I43 p0 → (∀ b, K b = 0 ∨ K b = 1 ∨ K b = 3 ∨ K b = 6 → I43 b = I b) → 1 ≤ (I43 p0 14).toInt → ((tw (tb tm.1.2.2 (I p0 13).toInt) wBox (I p0 14).toInt ∨ (¬ tw (tb tm.1.2.2 (I p0 13).toInt) wBox (I p0 14).toInt ∧ tw (tb tm.1.2.2 (I p0 13).toInt) wFrame (I p0 14).toInt)) ∧ I43 ((Q p0 1).getD 0) = I ((Q p0 1).getD 0)) → (mdA I I43 p0 (wr (tb tm.1.2.2 (I p0 13).toInt) (sk (tb tm.1.2.2 (I p0 13).toInt) (I p0 14).toInt)) ∧ (pfm (tb tm.1.2.2 (I p0 13).toInt) (I p0 14).toInt) = psz (tb tm.1.2.2 (I p0 13).toInt) (wr (tb tm.1.2.2 (I p0 13).toInt) (sk (tb tm.1.2.2 (I p0 13).toInt) (I p0 14).toInt))) → va_P (dC, dI) vwCl (Wd cs L K I43 J Q) H → va_S A s.heap H lo → lv_has ls 5 [(0, .ref p0), (1, .int z5)] → W p l e R s m (([.ref p0] : List Value).toArray) below meth c H lo 0 0 Qz (F0 m 43 ls []) := by
      intro I43 H lo ls hI43 kp0_11_I43 fr_I43 hk_I43 dn_I43 h43 g43 hc43 hP hS hl
      refine lv_aload_n hx hb dX7_readsForm_43 rfl (lv_at hl 0 rfl) ?_
      obtain ⟨y44, ey44, hLy44, hKy44⟩ := oQ_7_12 (Sv_at hQ hLp0 hKp0)
      refine p_get (v := .ref y44) hx hb hts inX7 hown hK hP hLp0 hKp0 rfl rfl 12 (by decide) (hts _ pq1127) (congrArg (fun q => some (va_rf q)) ey44) dX7_readsForm_44 ?_
      refine lv_aload_n hx hb dX7_readsForm_47 rfl (lv_at hl 0 rfl) ?_
      refine p_get hx hb hts inX7 hown hK hP hLp0 hKp0 rfl rfl 14 (by decide) (hts _ pq1129) rfl dX7_readsForm_48 ?_
      refine lv_topi (fun z48 ez48 => ?_)
      have cgz48 := congrArg Int32.toInt ez48
      have bz48 := oI_7_14 (Iv_at hI43 hLp0 hKp0)
      rw [← ez48] at bz48
      refine lv_iconst (v := 1) hx hb dX7_readsForm_51 (by decide +kernel) ?_
      refine lv_isub hx hb dX7_readsForm_52 ?_
      refine lv_topi (fun z52 ez52 => ?_)
      have bz52 := tq_sub (k := z48.toInt) (q := (1)) ez52 rfl (by decide +kernel) (by omega) (by omega)
      refine p_bald hx hb hK hP 21 hLy44 hKy44 rfl rfl (in_of (by omega) (by omega)) dX7_readsForm_53 ?_
      refine lv_topi (fun z53 ez53 => ?_)
      have tz53 : z53 = tm.1.2.2 (z52).toInt.toNat := ez53.trans (congrFun (hI43.2.2.2.2.2.2 y44 hLy44 hKy44).2.1 _)
      have c53 : ∀ v : Int, (tb tm.1.2.2 (I p0 13).toInt) (wr (tb tm.1.2.2 (I p0 13).toInt) (sk (tb tm.1.2.2 (I p0 13).toInt) (I p0 14).toInt) - 1) = v → ¬ v = -1000 → z53.toInt = v := fun v h h2 => tb_c h h2 (by rw [tz53]; exact congrArg (fun q => tm.1.2.2 q) (by have q := hc43.1.2.2; rw [bz52, cgz48, q]))
      refine lv_bipush (v := 120) hx hb dX7_readsForm_54 (by decide +kernel) ?_
      have j64 : ∀ (w64_0 : Int32) (H : Heap) (lo : List Loc) (ls : Array Slot), ((0) ≤ w64_0.toInt ∧ w64_0.toInt ≤ 1) → ((¬ w64_0.toInt = 0 ∧ tw (tb tm.1.2.2 (I p0 13).toInt) wBox (I p0 14).toInt) ∨ (w64_0.toInt = 0 ∧ ¬ tw (tb tm.1.2.2 (I p0 13).toInt) wBox (I p0 14).toInt ∧ tw (tb tm.1.2.2 (I p0 13).toInt) wFrame (I p0 14).toInt)) → va_P (dC, dI) vwCl (Wd cs L K I43 J Q) H → va_S A s.heap H lo → lv_has ls 5 [(0, .ref p0), (1, .int z5)] → W p l e R s m (([.ref p0] : List Value).toArray) below meth c H lo 0 0 Qz (F0 m 64 ls [.int w64_0]) := by
        intro w64_0 H lo ls bw64_0 g64 hP hS hl
        refine lv_istore_n (lv' := [(2, .int w64_0), (0, .ref p0), (1, .int z5)]) hx hb dX7_readsForm_64 rfl hl (by decide) rfl (fun ls hl => ?_)
        refine lv_aload_n hx hb dX7_readsForm_65 rfl (lv_at hl 1 rfl) ?_
        refine lv_iconst (v := 1) hx hb dX7_readsForm_66 (by decide +kernel) ?_
        refine lv_bipush (v := 100) hx hb dX7_readsForm_67 (by decide +kernel) ?_
        refine sw_ir (Z := (fun u => (fun I1 J1 => Iv L K x0 m0 tx tm I1 ∧ (∀ b, ¬ (b = p0) → I1 b = I43 b) ∧ I1 p0 11 = I43 p0 11 ∧ ((I43 p0 14).toInt ≤ (I1 p0 14).toInt ∧ ((I1 p0 15).toInt = -1 → (I43 p0 15).toInt = -1) ∧ ((I1 p0 15).toInt = -1 → (1 : Int32).toInt ≤ u.toInt ∧ u.toInt ≤ (100 : Int32).toInt)) ∧ mdQ I43 I1 p0 (pn (tb tm.1.2.2 (I43 p0 13).toInt) (1 : Int32).toInt (100 : Int32).toInt (I43 p0 14).toInt) ∧ (∀ b, K b = 0 ∨ K b = 1 ∨ K b = 3 ∨ K b = 6 → I1 b = I43 b) ∧ ((I1 p0 15).toInt = -1 → u.toInt = nv (tb tm.1.2.2 (I43 p0 13).toInt) (I43 p0 14).toInt) ∧ J1 = J))) (va_runV (As := [.int 1, .int 100]) (rest := []) ⟨hx, hb, hml, hown, hts⟩ (s_X7_number l dC dI cs L K G Q hQ x0 m0 tx tm H.size I43 J hI43 p0 hLp0 hKp0 1 ⟨by decide +kernel, by decide +kernel⟩ 100 ⟨by decide +kernel, by decide +kernel⟩) (cwV 2 hts (gV pq1262 pq1264 pq18 pq81 pq1265) rfl rfl rfl (by decide +kernel) ⟨(by rw [hR]; exact (Nat.le_of_ble_eq_true rfl)), (by rw [hR]; exact (Nat.le_of_ble_eq_true rfl))⟩) (sP_V hP hD hK hN hLp0 hKp0 rfl rfl) rfl rfl hl.1 rfl (lv_room (Nat.le_of_ble_eq_true rfl)) dX7_readsForm_69 ⟨(by rw [hR]; exact (Nat.le_of_ble_eq_true rfl)), (by rw [hR]; exact (Nat.le_of_ble_eq_true rfl))⟩) hS hAL hA (fun z69 Iz69 Jz69 H locs hz69 hIz69 hP hS => ?_)
        obtain ⟨hIz69, frc69, kc69_0_11, zr69, fz69, dnc69, jz69, djc69⟩ := hIz69
        obtain rfl : J = Jz69 := djc69.symm
        replace zr69 : Hid _ := zr69
        replace fz69 : Hid _ := fz69
        have hk_Iz69 := hK_call hQ hLp0 hKp0 frc69 zr69.1 zr69.2.1 hk_I43
        have dn_Iz69 : (∀ b, K b = 0 ∨ K b = 1 ∨ K b = 3 ∨ K b = 6 → Iz69 b = I b) := fun b hc => (dnc69 b (by omega)).trans (dn_I43 b hc)
        have kp0_11_Iz69 : Iz69 p0 11 = I p0 11 := kc69_0_11.trans kp0_11_I43
        have fr_Iz69 : ∀ b, ¬ (K b = 7 ∨ K b = 28) → Iz69 b = I b := fun b q => (frc69 b (fun z => q (by rw [z]; have := hKp0; omega))).trans (fr_I43 b q)
        have cst69_1 : (1 : Int32).toInt = 1 := by decide +kernel
        have cst69_100 : (100 : Int32).toInt = 100 := by decide +kernel
        have bz69 := hz69
        refine lv_istore_n (lv' := [(3, .int z69), (2, .int w64_0), (0, .ref p0), (1, .int z5)]) hx hb dX7_readsForm_72 rfl hl (by decide) rfl (fun ls hl => ?_)
        refine lv_aload_n hx hb dX7_readsForm_73 rfl (lv_at hl 2 rfl) ?_
        refine lv_iconst (v := 1) hx hb dX7_readsForm_74 (by decide +kernel) ?_
        refine lv_bipush (v := 40) hx hb dX7_readsForm_75 (by decide +kernel) ?_
        refine sw_ir (Z := (fun u => (fun I1 J1 => Iv L K x0 m0 tx tm I1 ∧ (∀ b, ¬ (b = p0) → I1 b = Iz69 b) ∧ I1 p0 11 = Iz69 p0 11 ∧ ((Iz69 p0 14).toInt ≤ (I1 p0 14).toInt ∧ ((I1 p0 15).toInt = -1 → (Iz69 p0 15).toInt = -1) ∧ ((I1 p0 15).toInt = -1 → (1 : Int32).toInt ≤ u.toInt ∧ u.toInt ≤ (40 : Int32).toInt)) ∧ mdQ Iz69 I1 p0 (pn (tb tm.1.2.2 (Iz69 p0 13).toInt) (1 : Int32).toInt (40 : Int32).toInt (Iz69 p0 14).toInt) ∧ (∀ b, K b = 0 ∨ K b = 1 ∨ K b = 3 ∨ K b = 6 → I1 b = Iz69 b) ∧ ((I1 p0 15).toInt = -1 → u.toInt = nv (tb tm.1.2.2 (Iz69 p0 13).toInt) (Iz69 p0 14).toInt) ∧ J1 = J))) (va_runV (As := [.int 1, .int 40]) (rest := []) ⟨hx, hb, hml, hown, hts⟩ (s_X7_number l dC dI cs L K G Q hQ x0 m0 tx tm H.size Iz69 J hIz69 p0 hLp0 hKp0 1 ⟨by decide +kernel, by decide +kernel⟩ 40 ⟨by decide +kernel, by decide +kernel⟩) (cwV 2 hts (gV pq1262 pq1264 pq18 pq81 pq1265) rfl rfl rfl (by decide +kernel) ⟨(by rw [hR]; exact (Nat.le_of_ble_eq_true rfl)), (by rw [hR]; exact (Nat.le_of_ble_eq_true rfl))⟩) (sP_V hP hD hK hN hLp0 hKp0 rfl rfl) rfl rfl hl.1 rfl (lv_room (Nat.le_of_ble_eq_true rfl)) dX7_readsForm_77 ⟨(by rw [hR]; exact (Nat.le_of_ble_eq_true rfl)), (by rw [hR]; exact (Nat.le_of_ble_eq_true rfl))⟩) hS hAL hA (fun z77 Iz77 Jz77 H locs hz77 hIz77 hP hS => ?_)
        obtain ⟨hIz77, frc77, kc77_0_11, zr77, fz77, dnc77, jz77, djc77⟩ := hIz77
        obtain rfl : J = Jz77 := djc77.symm
        replace zr77 : Hid _ := zr77
        replace fz77 : Hid _ := fz77
        have hk_Iz77 := hK_call hQ hLp0 hKp0 frc77 zr77.1 zr77.2.1 hk_Iz69
        have dn_Iz77 : (∀ b, K b = 0 ∨ K b = 1 ∨ K b = 3 ∨ K b = 6 → Iz77 b = I b) := fun b hc => (dnc77 b (by omega)).trans (dn_Iz69 b hc)
        have kp0_11_Iz77 : Iz77 p0 11 = I p0 11 := kc77_0_11.trans kp0_11_Iz69
        have fr_Iz77 : ∀ b, ¬ (K b = 7 ∨ K b = 28) → Iz77 b = I b := fun b q => (frc77 b (fun z => q (by rw [z]; have := hKp0; omega))).trans (fr_Iz69 b q)
        have cst77_1 : (1 : Int32).toInt = 1 := by decide +kernel
        have cst77_40 : (40 : Int32).toInt = 40 := by decide +kernel
        have bz77 := hz77
        refine lv_istore (lv' := [(4, .int z77), (3, .int z69), (2, .int w64_0), (0, .ref p0), (1, .int z5)]) hx hb dX7_readsForm_80 hl (by decide) rfl (fun ls hl => ?_)
        refine lv_aload_n hx hb dX7_readsForm_82 rfl (lv_at hl 3 rfl) ?_
        refine ro_i (va_runV (As := []) (rest := []) ⟨hx, hb, hml, hown, hts⟩ (s_X7_isRight l dC dI cs L K G Q hQ x0 m0 tx tm H.size Iz77 J hIz77 p0 hLp0 hKp0) (cwV 0 hts (gV pq1219 pq1221 pq12 pq81 pq1222) rfl rfl rfl (by decide +kernel) ⟨(by rw [hR]; exact (Nat.le_of_ble_eq_true rfl)), (by rw [hR]; exact (Nat.le_of_ble_eq_true rfl))⟩) (sP_V hP hD hK hN hLp0 hKp0 rfl rfl) rfl rfl hl.1 rfl (lv_room (Nat.le_of_ble_eq_true rfl)) dX7_readsForm_83 ⟨(by rw [hR]; exact (Nat.le_of_ble_eq_true rfl)), (by rw [hR]; exact (Nat.le_of_ble_eq_true rfl))⟩) hS hP (fun z83 H locs hz83 hP hS => ?_)
        obtain ⟨bz83, xpz83⟩ := hz83
        replace xpz83 : Hid _ := xpz83
        have j98 : ∀ (I98 : Nat → Nat → Int32) (J98 : Nat → Nat → Int64) (H : Heap) (lo : List Loc) (ls : Array Slot), Iv L K x0 m0 tx tm I98 → I98 p0 11 = I p0 11 → (∀ b, ¬ (K b = 7 ∨ K b = 28) → I98 b = I b) → hHK Q I I98 p0 → (∀ b, K b = 0 ∨ K b = 1 ∨ K b = 3 ∨ K b = 6 → I98 b = I b) → (∀ b, ¬ (K b = 32) → J98 b = J b) → Hid ((((I98 p0 15).toInt = -1 → (∀ k, k < 80 → mo (J (a0 Q p0 6)) z5.toInt.toNat k = 0) → hdM Q I I98 J98 p0 z5.toInt.toNat (fmT (tb tm.1.2.2 (I p0 13).toInt) (I p0 14).toInt)) ∧ (∀ k, (k < 80 * z5.toInt.toNat ∨ 80 * z5.toInt.toNat + 80 ≤ k) → J98 (a0 Q p0 6) k = J (a0 Q p0 6) k))) → mdQ I I98 p0 (pfm (tb tm.1.2.2 (I p0 13).toInt) (I p0 14).toInt) → va_P (dC, dI) vwCl (Wd cs L K I98 J98 Q) H → va_S A s.heap H lo → lv_has ls 5 [(0, .ref p0), (1, .int z5), (2, .int w64_0), (3, .int z69), (4, .int z77)] → W p l e R s m (([.ref p0] : List Value).toArray) below meth c H lo 0 0 Qz (F0 m 98 ls []) := by
          intro I98 J98 H lo ls hI98 kp0_11_I98 fr_I98 hk_I98 dn_I98 dj_J98 g98 hc98 hP hS hl
          refine lv_goto (tgt := 143) hx hb dX7_readsForm_98 (by decide) ?_
          exact j143 I98 J98 _ _ _ hI98 kp0_11_I98 fr_I98 hk_I98 dn_I98 dj_J98 g98 hc98 hP hS (lv_sub hl [0, 1] rfl)
        refine lv_if_eq (tgt := 98) hx hb dX7_readsForm_86 (by decide) (fun c86 => ?_) (fun c86 => ?_)
        · have t86 := tq_eq (k := z83.toInt) (q := (0)) c86 rfl (by decide +kernel)
          exact j98 Iz77 J _ _ _ hIz77 kp0_11_Iz77 fr_Iz77 hk_Iz77 dn_Iz77 dj_J ⟨fun h => absurd h (xpz83.2 t86), fun _ _ => rfl⟩ (by rw [hc43.2]; exact mdQ_A (g := psz) hc43.1 (mdQ_bind (g := fun t => pn t 1 40) fz69 fz77)) hP hS (lv_sub hl [3, 4, 2, 1, 0] rfl)
        · have t86 := tq_ne (k := z83.toInt) (q := (0)) c86 rfl (by decide +kernel)
          refine lv_aload_n hx hb dX7_readsForm_89 rfl (lv_at hl 3 rfl) ?_
          refine lv_iload_n hx hb dX7_readsForm_90 rfl (lv_at hl 4 rfl) ?_
          refine lv_iload_n hx hb dX7_readsForm_91 rfl (lv_at hl 1 rfl) ?_
          refine lv_iload hx hb dX7_readsForm_92 (lv_at hl 0 rfl) ?_
          refine lv_iload_n hx hb dX7_readsForm_94 rfl (lv_at hl 2 rfl) ?_
          have f77 := xpz83.1 t86
          have q77 := zr77.2.2 f77
          have q69 := zr69.2.2 (zr77.2.1 f77)
          refine sw_v (Z := (fun I1 J1 => Iv L K x0 m0 tx tm I1 ∧ (∀ b, ¬ (K b = 28) → I1 b = Iz77 b) ∧ (hHK Q Iz77 I1 p0) ∧ (∀ b, K b = 0 ∨ K b = 1 ∨ K b = 3 ∨ K b = 6 → I1 b = Iz77 b) ∧ ((I1 (a0 Q p0 1) = upd (upd (Iz77 (a0 Q p0 1)) (3 + z5.toInt.toNat) z69) (11 + z5.toInt.toNat) z77) ∧ ((∀ k, k < 80 → mo (J (a0 Q p0 6)) z5.toInt.toNat k = 0) → ∀ x y : Int, md (mo (J1 (a0 Q p0 6)) z5.toInt.toNat) x y = lbxD z69.toInt z77.toInt w64_0.toInt x y) ∧ (∀ k, (k < 80 * z5.toInt.toNat ∨ 80 * z5.toInt.toNat + 80 ≤ k) → J1 (a0 Q p0 6) k = J (a0 Q p0 6) k)) ∧ (∀ b, ¬ (K b = 32) → J1 b = J b))) (va_runV (As := [.int z5, .int z69, .int z77, .int w64_0]) (rest := []) ⟨hx, hb, hml, hown, hts⟩ (s_X7_laysBox l dC dI cs L K G Q hQ x0 m0 tx tm H.size Iz77 J hIz77 p0 hLp0 hKp0 z5 ⟨by omega, by omega⟩ z69 ⟨by omega, by omega⟩ z77 ⟨by omega, by omega⟩ w64_0 hk_Iz77.2.1) (cwV 4 hts (gV pq1270 pq1272 pq19 pq81 pq1273) rfl rfl rfl (by decide +kernel) ⟨(by rw [hR]; exact (Nat.le_of_ble_eq_true rfl)), (by rw [hR]; exact (Nat.le_of_ble_eq_true rfl))⟩) (sP_V hP hD hK hN hLp0 hKp0 rfl rfl) rfl rfl hl.1 rfl (lv_room (Nat.le_of_ble_eq_true rfl)) dX7_readsForm_95 ⟨(by rw [hR]; exact (Nat.le_of_ble_eq_true rfl)), (by rw [hR]; exact (Nat.le_of_ble_eq_true rfl))⟩) hS hAL hA (fun Iz95 Jz95 H locs hz95 hIz95 hP hS => ?_)
          obtain ⟨hIz95, frc95, zp95, dnc95, jz95, djc95⟩ := hIz95
          have dj_Jz95 : (∀ b, ¬ (K b = 32) → Jz95 b = J b) := fun b hc => (djc95 b (fun z => hc (by omega))).trans (dj_J b hc)
          replace zp95 : Hid _ := zp95
          have hk_Iz95 := hK_tr hk_Iz77 zp95
          have dn_Iz95 : (∀ b, K b = 0 ∨ K b = 1 ∨ K b = 3 ∨ K b = 6 → Iz95 b = I b) := fun b hc => (dnc95 b (by omega)).trans (dn_Iz77 b hc)
          have kp0_11_Iz95 : Iz95 p0 11 = I p0 11 := (congrFun (frc95 p0 (by omega)) 11).trans kp0_11_Iz77
          have fr_Iz95 : ∀ b, ¬ (K b = 7 ∨ K b = 28) → Iz95 b = I b := fun b q => (frc95 b (fun z => q (by omega))).trans (fr_Iz77 b q)
          exact j98 Iz95 Jz95 _ _ _ hIz95 kp0_11_Iz95 fr_Iz95 hk_Iz95 dn_Iz95 dj_Jz95 ⟨fun _ hz => by have f69 := zr77.2.1 f77; have ea : Iz77 (a0 Q p0 1) = I (a0 Q p0 1) := (frc77 _ nyh).trans ((frc69 _ nyh).trans g43.2); exact g64.elim (fun w => by have k := hf_sz (D := boxD) hc43.1 hf (jz69 f69) fz69 f69 (jz77 f77); have eT : fmT (tb tm.1.2.2 (I p0 13).toInt) (I p0 14).toInt = szT boxD (tb tm.1.2.2 (I p0 13).toInt) (wr (tb tm.1.2.2 (I p0 13).toInt) (sk (tb tm.1.2.2 (I p0 13).toInt) (I p0 14).toInt)) := (by unfold fmT; rw [if_pos w.2]); rw [eT]; exact hd_mk jz95.1 ea k.1 k.2.1 k.2.2 (fun x y => (jz95.2.1 hz x y).trans (lbxD_1 w.1))) (fun w => by have k := hf_sz (D := frmD) hc43.1 hf (jz69 f69) fz69 f69 (jz77 f77); have eT : fmT (tb tm.1.2.2 (I p0 13).toInt) (I p0 14).toInt = szT frmD (tb tm.1.2.2 (I p0 13).toInt) (wr (tb tm.1.2.2 (I p0 13).toInt) (sk (tb tm.1.2.2 (I p0 13).toInt) (I p0 14).toInt)) := (by unfold fmT; rw [if_neg w.2.1, if_pos w.2.2]); rw [eT]; exact hd_mk jz95.1 ea k.1 k.2.1 k.2.2 (fun x y => (jz95.2.1 hz x y).trans (lbxD_0 w.1))), jz95.2.2⟩ (mdQ_S (by rw [hc43.2]; exact mdQ_A (g := psz) hc43.1 (mdQ_bind (g := fun t => pn t 1 40) fz69 fz77)) (md_fr (frc95 p0 (by omega)))) hP hS (lv_sub hl [3, 4, 2, 1, 0] rfl)
      refine lv_icmp_ne (tgt := 63) hx hb dX7_readsForm_56 (by decide) (fun c56 => ?_) (fun c56 => ?_)
      · have t56 := tq_ne (k := z53.toInt) (q := (120)) c56 rfl (by decide +kernel)
        refine lv_iconst (v := 0) hx hb dX7_readsForm_63 (by decide +kernel) ?_
        exact j64 0 _ _ _ ⟨by decide +kernel, by decide +kernel⟩ (g43.1.elim (fun h => absurd (c53 _ (box_x h) (by decide)) t56) (fun h => Or.inr ⟨by decide +kernel, h⟩)) hP hS (lv_sub hl [0, 1] rfl)
      · have t56 := tq_eq (k := z53.toInt) (q := (120)) c56 rfl (by decide +kernel)
        refine lv_iconst (v := 1) hx hb dX7_readsForm_59 (by decide +kernel) ?_
        refine lv_goto (tgt := 64) hx hb dX7_readsForm_60 (by decide) ?_
        exact j64 1 _ _ _ ⟨by decide +kernel, by decide +kernel⟩ (g43.1.elim (fun h => Or.inl ⟨by decide +kernel, h⟩) (fun h => absurd ((c53 _ (frm_e h.2) (by decide)).symm.trans t56) (by decide))) hP hS (lv_sub hl [0, 1] rfl)
    refine lv_if_ne (tgt := 43) hx hb dX7_readsForm_31 (by decide) (fun c31 => ?_) (fun c31 => ?_)
    · have t31 := tq_ne (k := z28.toInt) (q := (0)) c31 rfl (by decide +kernel)
      exact j43 Iz28 _ _ _ hIz28 kp0_11_Iz28 fr_Iz28 hk_Iz28 dn_Iz28 (by have := zr28.2.2.2 t31; have e : (wBox.length : Int) = 3 := rfl; omega) ⟨Or.inl (mdW_yes (mdW_next A8 a14 a13 (mdW_of zr28.2.2.1 fz28)) t31).1, by rw [frc28 _ nyh, frc8 _ nyh]⟩ ⟨(mdW_yes (mdW_next A8 a14 a13 (mdW_of zr28.2.2.1 fz28)) t31).2, by unfold pfm; rw [if_pos (mdW_yes (mdW_next A8 a14 a13 (mdW_of zr28.2.2.1 fz28)) t31).1]⟩ hP hS (lv_sub hl [1, 0] rfl)
    · have t31 := tq_eq (k := z28.toInt) (q := (0)) c31 rfl (by decide +kernel)
      refine lv_aload_n hx hb dX7_readsForm_34 rfl (lv_at hl 1 rfl) ?_
      obtain ⟨y35, hv35, hx_y35⟩ := hxx.2 (RX7, 146, "frame", wFrame) (by simp [lits])
      dsimp only at hv35 hx_y35
      refine va_ldcS hx hb hown hv35 dX7_readsForm_35 ?_
      refine sw_ir (Z := (fun u => (fun I1 J1 => Iv L K x0 m0 tx tm I1 ∧ (∀ b, ¬ (b = p0) → I1 b = Iz28 b) ∧ I1 p0 11 = Iz28 p0 11 ∧ ((Iz28 p0 14).toInt ≤ (I1 p0 14).toInt ∧ ((I1 p0 15).toInt = -1 → (Iz28 p0 15).toInt = -1) ∧ (∀ k, ¬ k = 14 → I1 p0 k = Iz28 p0 k) ∧ (¬ u.toInt = 0 → (wFrame.length : Int) ≤ (I1 p0 14).toInt)) ∧ ((tw (tb tm.1.2.2 (Iz28 p0 13).toInt) wFrame (Iz28 p0 14).toInt → u.toInt = 1 ∧ (I1 p0 14).toInt = wr (tb tm.1.2.2 (Iz28 p0 13).toInt) (sk (tb tm.1.2.2 (Iz28 p0 13).toInt) (Iz28 p0 14).toInt)) ∧ (¬ tw (tb tm.1.2.2 (Iz28 p0 13).toInt) wFrame (Iz28 p0 14).toInt → u.toInt = 0 ∧ (I1 p0 14).toInt = (sk (tb tm.1.2.2 (Iz28 p0 13).toInt) (Iz28 p0 14).toInt))) ∧ (∀ b, K b = 0 ∨ K b = 1 ∨ K b = 3 ∨ K b = 6 → I1 b = Iz28 b) ∧ J1 = J))) (va_runV (As := [.ref y35]) (rest := []) ⟨hx, hb, hml, hown, hts⟩ (s_X7_takes l dC dI cs L K G Q hQ x0 m0 tx tm H.size Iz28 J hIz28 p0 hLp0 hKp0 y35 wFrame) (cwV 1 hts (gV pq1228 pq1230 pq14 pq81 pq1231) rfl rfl rfl (by decide +kernel) ⟨(by rw [hR]; exact (Nat.le_of_ble_eq_true rfl)), (by rw [hR]; exact (Nat.le_of_ble_eq_true rfl))⟩) (sPX_V hP hD hK hN hLp0 hKp0 rfl rfl (gX_and (gX_s _ _) gX_t) hS ⟨hx_y35, hxt⟩ (fun q h => h.elim (hAL q) (fun h => hA q (Nat.le_trans hS.1 h)))) rfl rfl hl.1 rfl (lv_room (Nat.le_of_ble_eq_true rfl)) dX7_readsForm_37 ⟨(by rw [hR]; exact (Nat.le_of_ble_eq_true rfl)), (by rw [hR]; exact (Nat.le_of_ble_eq_true rfl))⟩) hS hAL hA (fun z37 Iz37 Jz37 H locs hz37 hIz37 hP hS => ?_)
      obtain ⟨hIz37, frc37, kc37_0_11, zr37, fz37, dnc37, djc37⟩ := hIz37
      obtain rfl : J = Jz37 := djc37.symm
      replace zr37 : Hid _ := zr37
      replace fz37 : Hid _ := fz37
      have hk_Iz37 := hK_call hQ hLp0 hKp0 frc37 zr37.1 zr37.2.1 hk_Iz28
      have dn_Iz37 : (∀ b, K b = 0 ∨ K b = 1 ∨ K b = 3 ∨ K b = 6 → Iz37 b = I b) := fun b hc => (dnc37 b (by omega)).trans (dn_Iz28 b hc)
      have kp0_11_Iz37 : Iz37 p0 11 = I p0 11 := kc37_0_11.trans kp0_11_Iz28
      have fr_Iz37 : ∀ b, ¬ (K b = 7 ∨ K b = 28) → Iz37 b = I b := fun b q => (frc37 b (fun z => q (by rw [z]; have := hKp0; omega))).trans (fr_Iz28 b q)
      have bz37 := hz37
      refine lv_if_eq (tgt := 101) hx hb dX7_readsForm_40 (by decide) (fun c40 => ?_) (fun c40 => ?_)
      · have t40 := tq_eq (k := z37.toInt) (q := (0)) c40 rfl (by decide +kernel)
        refine lv_aload_n hx hb dX7_readsForm_101 rfl (lv_at hl 1 rfl) ?_
        obtain ⟨y102, hv102, hx_y102⟩ := hxx.2 (RX7, 152, "disk", wDisk) (by simp [lits])
        dsimp only at hv102 hx_y102
        refine va_ldcS hx hb hown hv102 dX7_readsForm_102 ?_
        refine sw_ir (Z := (fun u => (fun I1 J1 => Iv L K x0 m0 tx tm I1 ∧ (∀ b, ¬ (b = p0) → I1 b = Iz37 b) ∧ I1 p0 11 = Iz37 p0 11 ∧ ((Iz37 p0 14).toInt ≤ (I1 p0 14).toInt ∧ ((I1 p0 15).toInt = -1 → (Iz37 p0 15).toInt = -1) ∧ (∀ k, ¬ k = 14 → I1 p0 k = Iz37 p0 k) ∧ (¬ u.toInt = 0 → (wDisk.length : Int) ≤ (I1 p0 14).toInt)) ∧ ((tw (tb tm.1.2.2 (Iz37 p0 13).toInt) wDisk (Iz37 p0 14).toInt → u.toInt = 1 ∧ (I1 p0 14).toInt = wr (tb tm.1.2.2 (Iz37 p0 13).toInt) (sk (tb tm.1.2.2 (Iz37 p0 13).toInt) (Iz37 p0 14).toInt)) ∧ (¬ tw (tb tm.1.2.2 (Iz37 p0 13).toInt) wDisk (Iz37 p0 14).toInt → u.toInt = 0 ∧ (I1 p0 14).toInt = (sk (tb tm.1.2.2 (Iz37 p0 13).toInt) (Iz37 p0 14).toInt))) ∧ (∀ b, K b = 0 ∨ K b = 1 ∨ K b = 3 ∨ K b = 6 → I1 b = Iz37 b) ∧ J1 = J))) (va_runV (As := [.ref y102]) (rest := []) ⟨hx, hb, hml, hown, hts⟩ (s_X7_takes l dC dI cs L K G Q hQ x0 m0 tx tm H.size Iz37 J hIz37 p0 hLp0 hKp0 y102 wDisk) (cwV 1 hts (gV pq1228 pq1230 pq14 pq81 pq1231) rfl rfl rfl (by decide +kernel) ⟨(by rw [hR]; exact (Nat.le_of_ble_eq_true rfl)), (by rw [hR]; exact (Nat.le_of_ble_eq_true rfl))⟩) (sPX_V hP hD hK hN hLp0 hKp0 rfl rfl (gX_and (gX_s _ _) gX_t) hS ⟨hx_y102, hxt⟩ (fun q h => h.elim (hAL q) (fun h => hA q (Nat.le_trans hS.1 h)))) rfl rfl hl.1 rfl (lv_room (Nat.le_of_ble_eq_true rfl)) dX7_readsForm_104 ⟨(by rw [hR]; exact (Nat.le_of_ble_eq_true rfl)), (by rw [hR]; exact (Nat.le_of_ble_eq_true rfl))⟩) hS hAL hA (fun z104 Iz104 Jz104 H locs hz104 hIz104 hP hS => ?_)
        obtain ⟨hIz104, frc104, kc104_0_11, zr104, fz104, dnc104, djc104⟩ := hIz104
        obtain rfl : J = Jz104 := djc104.symm
        replace zr104 : Hid _ := zr104
        replace fz104 : Hid _ := fz104
        have hk_Iz104 := hK_call hQ hLp0 hKp0 frc104 zr104.1 zr104.2.1 hk_Iz37
        have dn_Iz104 : (∀ b, K b = 0 ∨ K b = 1 ∨ K b = 3 ∨ K b = 6 → Iz104 b = I b) := fun b hc => (dnc104 b (by omega)).trans (dn_Iz37 b hc)
        have kp0_11_Iz104 : Iz104 p0 11 = I p0 11 := kc104_0_11.trans kp0_11_Iz37
        have fr_Iz104 : ∀ b, ¬ (K b = 7 ∨ K b = 28) → Iz104 b = I b := fun b q => (frc104 b (fun z => q (by rw [z]; have := hKp0; omega))).trans (fr_Iz37 b q)
        have bz104 := hz104
        refine lv_if_eq (tgt := 134) hx hb dX7_readsForm_107 (by decide) (fun c107 => ?_) (fun c107 => ?_)
        · have t107 := tq_eq (k := z104.toInt) (q := (0)) c107 rfl (by decide +kernel)
          refine lv_aload_n hx hb dX7_readsForm_134 rfl (lv_at hl 1 rfl) ?_
          refine lv_iconst (v := 1) hx hb dX7_readsForm_135 (by decide +kernel) ?_
          refine lv_aload_n hx hb dX7_readsForm_136 rfl (lv_at hl 1 rfl) ?_
          refine p_get hx hb hts inX7 hown hK hP hLp0 hKp0 rfl rfl 14 (by decide) (hts _ pq1129) rfl dX7_readsForm_137 ?_
          refine lv_topi (fun z137 ez137 => ?_)
          have cgz137 := congrArg Int32.toInt ez137
          have bz137 := oI_7_14 (Iv_at hIz104 hLp0 hKp0)
          rw [← ez137] at bz137
          refine sw_v (Z := (fun I1 J1 => Iv L K x0 m0 tx tm I1 ∧ (∀ b, ¬ (b = p0) → I1 b = Iz104 b) ∧ I1 p0 11 = Iz104 p0 11 ∧ (((Iz104 p0 14).toInt ≤ (I1 p0 14).toInt ∧ ((I1 p0 15).toInt = -1 → (Iz104 p0 15).toInt = -1) ∧ (∀ k, ¬ k = 15 → I1 p0 k = Iz104 p0 k) ∧ ¬ (I1 p0 15).toInt = -1)) ∧ (((Iz104 p0 15).toInt = -1 → (I1 p0 15).toInt = 8 * z137.toInt + (1 : Int32).toInt) ∧ (¬ (Iz104 p0 15).toInt = -1 → I1 p0 15 = Iz104 p0 15)) ∧ (∀ b, K b = 0 ∨ K b = 1 ∨ K b = 3 ∨ K b = 6 → I1 b = Iz104 b) ∧ J1 = J)) (va_runV (As := [.int 1, .int z137]) (rest := []) ⟨hx, hb, hml, hown, hts⟩ (s_X7_fails l dC dI cs L K G Q hQ x0 m0 tx tm H.size Iz104 J hIz104 p0 hLp0 hKp0 1 ⟨by decide +kernel, by decide +kernel⟩ z137 ⟨by omega, by omega⟩) (cwV 2 hts (gV pq1239 pq1241 pq15 pq81 pq1242) rfl rfl rfl (by decide +kernel) ⟨(by rw [hR]; exact (Nat.le_of_ble_eq_true rfl)), (by rw [hR]; exact (Nat.le_of_ble_eq_true rfl))⟩) (sP_V hP hD hK hN hLp0 hKp0 rfl rfl) rfl rfl hl.1 rfl (lv_room (Nat.le_of_ble_eq_true rfl)) dX7_readsForm_140 ⟨(by rw [hR]; exact (Nat.le_of_ble_eq_true rfl)), (by rw [hR]; exact (Nat.le_of_ble_eq_true rfl))⟩) hS hAL hA (fun Iz140 Jz140 H locs hz140 hIz140 hP hS => ?_)
          obtain ⟨hIz140, frc140, kc140_0_11, zp140, fz140, dnc140, djc140⟩ := hIz140
          obtain rfl : J = Jz140 := djc140.symm
          replace zp140 : Hid _ := zp140
          replace fz140 : Hid _ := fz140
          have hk_Iz140 := hK_call hQ hLp0 hKp0 frc140 zp140.1 zp140.2.1 hk_Iz104
          have dn_Iz140 : (∀ b, K b = 0 ∨ K b = 1 ∨ K b = 3 ∨ K b = 6 → Iz140 b = I b) := fun b hc => (dnc140 b (by omega)).trans (dn_Iz104 b hc)
          have kp0_11_Iz140 : Iz140 p0 11 = I p0 11 := kc140_0_11.trans kp0_11_Iz104
          have fr_Iz140 : ∀ b, ¬ (K b = 7 ∨ K b = 28) → Iz140 b = I b := fun b q => (frc140 b (fun z => q (by rw [z]; have := hKp0; omega))).trans (fr_Iz104 b q)
          have cst140_1 : (1 : Int32).toInt = 1 := by decide +kernel
          exact j143 Iz140 J _ _ _ hIz140 kp0_11_Iz140 fr_Iz140 hk_Iz140 dn_Iz140 dj_J ⟨fun h => absurd h zp140.2.2.2, fun _ _ => rfl⟩ (by have k := mdW_no (mdW_next (mdW_no (mdW_next (mdW_no (mdW_next A8 a14 a13 (mdW_of zr28.2.2.1 fz28)) t31).2 a14 a13 (mdW_of zr37.2.2.1 fz37)) t40).2 a14 a13 (mdW_of zr104.2.2.1 fz104)) t107; rw [pfm_no (fun h => xpz11.2 t14 ((of_decide_eq_true h).elim (fun e => Or.inl (fz8.1.trans (by rw [e]; exact sg_c (by decide)))) (fun e => Or.inr (fz8.1.trans (by rw [e]; exact sg_c (by decide)))))) (mdW_no (mdW_next A8 a14 a13 (mdW_of zr28.2.2.1 fz28)) t31).1 (mdW_no (mdW_next (mdW_no (mdW_next A8 a14 a13 (mdW_of zr28.2.2.1 fz28)) t31).2 a14 a13 (mdW_of zr37.2.2.1 fz37)) t40).1 k.1]; have h0 := (oI_7_14 (Iv_at hIz104 hLp0 hKp0)).1; rw [k.2.2.2] at h0; exact mdQ_no ((zp140.2.2.1 13 (by decide)).trans k.2.1) hf (by omega) ((fz140.1 (by rw [k.2.2.1]; exact hf)).trans (by rw [cst140_1, cgz137, k.2.2.2]))) hP hS (lv_sub hl [1, 0] rfl)
        · have t107 := tq_ne (k := z104.toInt) (q := (0)) c107 rfl (by decide +kernel)
          refine lv_aload_n hx hb dX7_readsForm_110 rfl (lv_at hl 1 rfl) ?_
          refine lv_iconst (v := 0) hx hb dX7_readsForm_111 (by decide +kernel) ?_
          refine lv_bipush (v := 19) hx hb dX7_readsForm_112 (by decide +kernel) ?_
          refine sw_ir (Z := (fun u => (fun I1 J1 => Iv L K x0 m0 tx tm I1 ∧ (∀ b, ¬ (b = p0) → I1 b = Iz104 b) ∧ I1 p0 11 = Iz104 p0 11 ∧ ((Iz104 p0 14).toInt ≤ (I1 p0 14).toInt ∧ ((I1 p0 15).toInt = -1 → (Iz104 p0 15).toInt = -1) ∧ ((I1 p0 15).toInt = -1 → (0 : Int32).toInt ≤ u.toInt ∧ u.toInt ≤ (19 : Int32).toInt)) ∧ mdQ Iz104 I1 p0 (pn (tb tm.1.2.2 (Iz104 p0 13).toInt) (0 : Int32).toInt (19 : Int32).toInt (Iz104 p0 14).toInt) ∧ (∀ b, K b = 0 ∨ K b = 1 ∨ K b = 3 ∨ K b = 6 → I1 b = Iz104 b) ∧ ((I1 p0 15).toInt = -1 → u.toInt = nv (tb tm.1.2.2 (Iz104 p0 13).toInt) (Iz104 p0 14).toInt) ∧ J1 = J))) (va_runV (As := [.int 0, .int 19]) (rest := []) ⟨hx, hb, hml, hown, hts⟩ (s_X7_number l dC dI cs L K G Q hQ x0 m0 tx tm H.size Iz104 J hIz104 p0 hLp0 hKp0 0 ⟨by decide +kernel, by decide +kernel⟩ 19 ⟨by decide +kernel, by decide +kernel⟩) (cwV 2 hts (gV pq1262 pq1264 pq18 pq81 pq1265) rfl rfl rfl (by decide +kernel) ⟨(by rw [hR]; exact (Nat.le_of_ble_eq_true rfl)), (by rw [hR]; exact (Nat.le_of_ble_eq_true rfl))⟩) (sP_V hP hD hK hN hLp0 hKp0 rfl rfl) rfl rfl hl.1 rfl (lv_room (Nat.le_of_ble_eq_true rfl)) dX7_readsForm_114 ⟨(by rw [hR]; exact (Nat.le_of_ble_eq_true rfl)), (by rw [hR]; exact (Nat.le_of_ble_eq_true rfl))⟩) hS hAL hA (fun z114 Iz114 Jz114 H locs hz114 hIz114 hP hS => ?_)
          obtain ⟨hIz114, frc114, kc114_0_11, zr114, fz114, dnc114, jz114, djc114⟩ := hIz114
          obtain rfl : J = Jz114 := djc114.symm
          replace zr114 : Hid _ := zr114
          replace fz114 : Hid _ := fz114
          have hk_Iz114 := hK_call hQ hLp0 hKp0 frc114 zr114.1 zr114.2.1 hk_Iz104
          have dn_Iz114 : (∀ b, K b = 0 ∨ K b = 1 ∨ K b = 3 ∨ K b = 6 → Iz114 b = I b) := fun b hc => (dnc114 b (by omega)).trans (dn_Iz104 b hc)
          have kp0_11_Iz114 : Iz114 p0 11 = I p0 11 := kc114_0_11.trans kp0_11_Iz104
          have fr_Iz114 : ∀ b, ¬ (K b = 7 ∨ K b = 28) → Iz114 b = I b := fun b q => (frc114 b (fun z => q (by rw [z]; have := hKp0; omega))).trans (fr_Iz104 b q)
          have cst114_0 : (0 : Int32).toInt = 0 := by decide +kernel
          have cst114_19 : (19 : Int32).toInt = 19 := by decide +kernel
          have bz114 := hz114
          refine lv_istore_n (lv' := [(2, .int z114), (1, .int z5), (0, .ref p0)]) hx hb dX7_readsForm_117 rfl hl (by decide) rfl (fun ls hl => ?_)
          refine lv_aload_n hx hb dX7_readsForm_118 rfl (lv_at hl 2 rfl) ?_
          refine ro_i (va_runV (As := []) (rest := []) ⟨hx, hb, hml, hown, hts⟩ (s_X7_isRight l dC dI cs L K G Q hQ x0 m0 tx tm H.size Iz114 J hIz114 p0 hLp0 hKp0) (cwV 0 hts (gV pq1219 pq1221 pq12 pq81 pq1222) rfl rfl rfl (by decide +kernel) ⟨(by rw [hR]; exact (Nat.le_of_ble_eq_true rfl)), (by rw [hR]; exact (Nat.le_of_ble_eq_true rfl))⟩) (sP_V hP hD hK hN hLp0 hKp0 rfl rfl) rfl rfl hl.1 rfl (lv_room (Nat.le_of_ble_eq_true rfl)) dX7_readsForm_119 ⟨(by rw [hR]; exact (Nat.le_of_ble_eq_true rfl)), (by rw [hR]; exact (Nat.le_of_ble_eq_true rfl))⟩) hS hP (fun z119 H locs hz119 hP hS => ?_)
          obtain ⟨bz119, xpz119⟩ := hz119
          replace xpz119 : Hid _ := xpz119
          have j131 : ∀ (I131 : Nat → Nat → Int32) (J131 : Nat → Nat → Int64) (H : Heap) (lo : List Loc) (ls : Array Slot), Iv L K x0 m0 tx tm I131 → I131 p0 11 = I p0 11 → (∀ b, ¬ (K b = 7 ∨ K b = 28) → I131 b = I b) → hHK Q I I131 p0 → (∀ b, K b = 0 ∨ K b = 1 ∨ K b = 3 ∨ K b = 6 → I131 b = I b) → (∀ b, ¬ (K b = 32) → J131 b = J b) → Hid ((((I131 p0 15).toInt = -1 → (∀ k, k < 80 → mo (J (a0 Q p0 6)) z5.toInt.toNat k = 0) → hdM Q I I131 J131 p0 z5.toInt.toNat (fmT (tb tm.1.2.2 (I p0 13).toInt) (I p0 14).toInt)) ∧ (∀ k, (k < 80 * z5.toInt.toNat ∨ 80 * z5.toInt.toNat + 80 ≤ k) → J131 (a0 Q p0 6) k = J (a0 Q p0 6) k))) → mdQ I I131 p0 (pfm (tb tm.1.2.2 (I p0 13).toInt) (I p0 14).toInt) → va_P (dC, dI) vwCl (Wd cs L K I131 J131 Q) H → va_S A s.heap H lo → lv_has ls 5 [(0, .ref p0), (1, .int z5), (2, .int z114)] → W p l e R s m (([.ref p0] : List Value).toArray) below meth c H lo 0 0 Qz (F0 m 131 ls []) := by
            intro I131 J131 H lo ls hI131 kp0_11_I131 fr_I131 hk_I131 dn_I131 dj_J131 g131 hc131 hP hS hl
            refine lv_goto (tgt := 143) hx hb dX7_readsForm_131 (by decide) ?_
            exact j143 I131 J131 _ _ _ hI131 kp0_11_I131 fr_I131 hk_I131 dn_I131 dj_J131 g131 hc131 hP hS (lv_sub hl [0, 1] rfl)
          refine lv_if_eq (tgt := 131) hx hb dX7_readsForm_122 (by decide) (fun c122 => ?_) (fun c122 => ?_)
          · have t122 := tq_eq (k := z119.toInt) (q := (0)) c122 rfl (by decide +kernel)
            exact j131 Iz114 J _ _ _ hIz114 kp0_11_Iz114 fr_Iz114 hk_Iz114 dn_Iz114 dj_J ⟨fun h => absurd h (xpz119.2 t122), fun _ _ => rfl⟩ (by unfold pfm; rw [if_neg (mdW_no (mdW_next A8 a14 a13 (mdW_of zr28.2.2.1 fz28)) t31).1, if_neg (mdW_no (mdW_next (mdW_no (mdW_next A8 a14 a13 (mdW_of zr28.2.2.1 fz28)) t31).2 a14 a13 (mdW_of zr37.2.2.1 fz37)) t40).1, if_pos (mdW_yes (mdW_next (mdW_no (mdW_next (mdW_no (mdW_next A8 a14 a13 (mdW_of zr28.2.2.1 fz28)) t31).2 a14 a13 (mdW_of zr37.2.2.1 fz37)) t40).2 a14 a13 (mdW_of zr104.2.2.1 fz104)) t107).1]; exact mdQ_A (g := fun t => pn t 0 19) (mdW_yes (mdW_next (mdW_no (mdW_next (mdW_no (mdW_next A8 a14 a13 (mdW_of zr28.2.2.1 fz28)) t31).2 a14 a13 (mdW_of zr37.2.2.1 fz37)) t40).2 a14 a13 (mdW_of zr104.2.2.1 fz104)) t107).2 fz114) hP hS (lv_sub hl [2, 1, 0] rfl)
          · have t122 := tq_ne (k := z119.toInt) (q := (0)) c122 rfl (by decide +kernel)
            refine lv_aload_n hx hb dX7_readsForm_125 rfl (lv_at hl 2 rfl) ?_
            refine lv_iload_n hx hb dX7_readsForm_126 rfl (lv_at hl 1 rfl) ?_
            refine lv_iload_n hx hb dX7_readsForm_127 rfl (lv_at hl 0 rfl) ?_
            have q114 := zr114.2.2 (xpz119.1 t122)
            refine sw_v (Z := (fun I1 J1 => Iv L K x0 m0 tx tm I1 ∧ (∀ b, ¬ (K b = 28) → I1 b = Iz114 b) ∧ (hHK Q Iz114 I1 p0) ∧ (∀ b, K b = 0 ∨ K b = 1 ∨ K b = 3 ∨ K b = 6 → I1 b = Iz114 b) ∧ ((I1 (a0 Q p0 1) = upd (upd (Iz114 (a0 Q p0 1)) (3 + z5.toInt.toNat) (2 * z114 + 1)) (11 + z5.toInt.toNat) (2 * z114 + 1)) ∧ ((∀ k, k < 80 → mo (J (a0 Q p0 6)) z5.toInt.toNat k = 0) → ∀ x y : Int, md (mo (J1 (a0 Q p0 6)) z5.toInt.toNat) x y = dskD z114.toInt x y) ∧ (∀ k, (k < 80 * z5.toInt.toNat ∨ 80 * z5.toInt.toNat + 80 ≤ k) → J1 (a0 Q p0 6) k = J (a0 Q p0 6) k)) ∧ (∀ b, ¬ (K b = 32) → J1 b = J b))) (va_runV (As := [.int z5, .int z114]) (rest := []) ⟨hx, hb, hml, hown, hts⟩ (s_X7_laysDisk l dC dI cs L K G Q hQ x0 m0 tx tm H.size Iz114 J hIz114 p0 hLp0 hKp0 z5 ⟨by omega, by omega⟩ z114 ⟨by omega, by omega⟩ hk_Iz114.2.1) (cwV 2 hts (gV pq1275 pq1277 pq20 pq81 pq1278) rfl rfl rfl (by decide +kernel) ⟨(by rw [hR]; exact (Nat.le_of_ble_eq_true rfl)), (by rw [hR]; exact (Nat.le_of_ble_eq_true rfl))⟩) (sP_V hP hD hK hN hLp0 hKp0 rfl rfl) rfl rfl hl.1 rfl (lv_room (Nat.le_of_ble_eq_true rfl)) dX7_readsForm_128 ⟨(by rw [hR]; exact (Nat.le_of_ble_eq_true rfl)), (by rw [hR]; exact (Nat.le_of_ble_eq_true rfl))⟩) hS hAL hA (fun Iz128 Jz128 H locs hz128 hIz128 hP hS => ?_)
            obtain ⟨hIz128, frc128, zp128, dnc128, jz128, djc128⟩ := hIz128
            have dj_Jz128 : (∀ b, ¬ (K b = 32) → Jz128 b = J b) := fun b hc => (djc128 b (fun z => hc (by omega))).trans (dj_J b hc)
            replace zp128 : Hid _ := zp128
            have hk_Iz128 := hK_tr hk_Iz114 zp128
            have dn_Iz128 : (∀ b, K b = 0 ∨ K b = 1 ∨ K b = 3 ∨ K b = 6 → Iz128 b = I b) := fun b hc => (dnc128 b (by omega)).trans (dn_Iz114 b hc)
            have kp0_11_Iz128 : Iz128 p0 11 = I p0 11 := (congrFun (frc128 p0 (by omega)) 11).trans kp0_11_Iz114
            have fr_Iz128 : ∀ b, ¬ (K b = 7 ∨ K b = 28) → Iz128 b = I b := fun b q => (frc128 b (fun z => q (by omega))).trans (fr_Iz114 b q)
            exact j131 Iz128 Jz128 _ _ _ hIz128 kp0_11_Iz128 fr_Iz128 hk_Iz128 dn_Iz128 dj_Jz128 ⟨fun _ hz => by have f114 := xpz119.1 t122; have ea : Iz114 (a0 Q p0 1) = I (a0 Q p0 1) := (frc114 _ nyh).trans ((frc104 _ nyh).trans ((frc37 _ nyh).trans ((frc28 _ nyh).trans (frc8 _ nyh)))); have k := hf_dk (mdW_yes (mdW_next (mdW_no (mdW_next (mdW_no (mdW_next A8 a14 a13 (mdW_of zr28.2.2.1 fz28)) t31).2 a14 a13 (mdW_of zr37.2.2.1 fz37)) t40).2 a14 a13 (mdW_of zr104.2.2.1 fz104)) t107).2 (by have q := zr114.2.2 f114; rw [show (0 : Int32).toInt = 0 from by decide +kernel, show (19 : Int32).toInt = 19 from by decide +kernel] at q; exact q) (jz114 f114); have eT : fmT (tb tm.1.2.2 (I p0 13).toInt) (I p0 14).toInt = dkT (tb tm.1.2.2 (I p0 13).toInt) (wr (tb tm.1.2.2 (I p0 13).toInt) (sk (tb tm.1.2.2 (I p0 13).toInt) (I p0 14).toInt)) := (by unfold fmT; rw [if_neg (mdW_no (mdW_next A8 a14 a13 (mdW_of zr28.2.2.1 fz28)) t31).1, if_neg (mdW_no (mdW_next (mdW_no (mdW_next A8 a14 a13 (mdW_of zr28.2.2.1 fz28)) t31).2 a14 a13 (mdW_of zr37.2.2.1 fz37)) t40).1, if_pos (mdW_yes (mdW_next (mdW_no (mdW_next (mdW_no (mdW_next A8 a14 a13 (mdW_of zr28.2.2.1 fz28)) t31).2 a14 a13 (mdW_of zr37.2.2.1 fz37)) t40).2 a14 a13 (mdW_of zr104.2.2.1 fz104)) t107).1]); rw [eT]; exact hd_mk jz128.1 ea k.1 k.2.1 k.2.2 (jz128.2.1 hz), jz128.2.2⟩ (mdQ_S (by unfold pfm; rw [if_neg (mdW_no (mdW_next A8 a14 a13 (mdW_of zr28.2.2.1 fz28)) t31).1, if_neg (mdW_no (mdW_next (mdW_no (mdW_next A8 a14 a13 (mdW_of zr28.2.2.1 fz28)) t31).2 a14 a13 (mdW_of zr37.2.2.1 fz37)) t40).1, if_pos (mdW_yes (mdW_next (mdW_no (mdW_next (mdW_no (mdW_next A8 a14 a13 (mdW_of zr28.2.2.1 fz28)) t31).2 a14 a13 (mdW_of zr37.2.2.1 fz37)) t40).2 a14 a13 (mdW_of zr104.2.2.1 fz104)) t107).1]; exact mdQ_A (g := fun t => pn t 0 19) (mdW_yes (mdW_next (mdW_no (mdW_next (mdW_no (mdW_next A8 a14 a13 (mdW_of zr28.2.2.1 fz28)) t31).2 a14 a13 (mdW_of zr37.2.2.1 fz37)) t40).2 a14 a13 (mdW_of zr104.2.2.1 fz104)) t107).2 fz114) (md_fr (frc128 p0 (by omega)))) hP hS (lv_sub hl [2, 1, 0] rfl)
      · have t40 := tq_ne (k := z37.toInt) (q := (0)) c40 rfl (by decide +kernel)
        exact j43 Iz37 _ _ _ hIz37 kp0_11_Iz37 fr_Iz37 hk_Iz37 dn_Iz37 (by have := zr37.2.2.2 t40; have e : (wFrame.length : Int) = 5 := rfl; omega) ⟨Or.inr ⟨(mdW_no (mdW_next A8 a14 a13 (mdW_of zr28.2.2.1 fz28)) t31).1, (mdW_yes (mdW_next (mdW_no (mdW_next A8 a14 a13 (mdW_of zr28.2.2.1 fz28)) t31).2 a14 a13 (mdW_of zr37.2.2.1 fz37)) t40).1⟩, by rw [frc37 _ nyh, frc28 _ nyh, frc8 _ nyh]⟩ ⟨(mdW_yes (mdW_next (mdW_no (mdW_next A8 a14 a13 (mdW_of zr28.2.2.1 fz28)) t31).2 a14 a13 (mdW_of zr37.2.2.1 fz37)) t40).2, by unfold pfm; rw [if_neg (mdW_no (mdW_next A8 a14 a13 (mdW_of zr28.2.2.1 fz28)) t31).1, if_pos (mdW_yes (mdW_next (mdW_no (mdW_next A8 a14 a13 (mdW_of zr28.2.2.1 fz28)) t31).2 a14 a13 (mdW_of zr37.2.2.1 fz37)) t40).1]⟩ hP hS (lv_sub hl [1, 0] rfl)
  · have t14 := tq_ne (k := z11.toInt) (q := (0)) c14 rfl (by decide +kernel)
    have i14 := imz11 t14
    refine lv_aload_n hx hb dX7_readsForm_17 rfl (lv_at hl 1 rfl) ?_
    refine lv_iload_n hx hb dX7_readsForm_18 rfl (lv_at hl 0 rfl) ?_
    refine sw_v (Z := (fun I1 J1 => Iv L K x0 m0 tx tm I1 ∧ (∀ b, ¬ (K b = 7 ∨ K b = 28) → I1 b = Iz8 b) ∧ I1 p0 11 = Iz8 p0 11 ∧ (hHK Q Iz8 I1 p0) ∧ mdQ Iz8 I1 p0 (prw (tb tm.1.2.2 (Iz8 p0 13).toInt) 41 0 0 (Iz8 p0 14).toInt) ∧ (∀ b, K b = 0 ∨ K b = 1 ∨ K b = 3 ∨ K b = 6 → I1 b = Iz8 b) ∧ (((I1 p0 15).toInt = -1 → (∀ k, k < 80 → mo (J (a0 Q p0 6)) z5.toInt.toNat k = 0) → hdM Q Iz8 I1 J1 p0 z5.toInt.toNat (rwT (tb tm.1.2.2 (Iz8 p0 13).toInt) (Iz8 p0 14).toInt)) ∧ (∀ k, (k < 80 * z5.toInt.toNat ∨ 80 * z5.toInt.toNat + 80 ≤ k) → J1 (a0 Q p0 6) k = J (a0 Q p0 6) k)) ∧ (∀ b, ¬ (K b = 32) → J1 b = J b))) (va_runV (As := [.int z5]) (rest := []) ⟨hx, hb, hml, hown, hts⟩ (s_X7_readsRows l dC dI cs L K G Q hQ x0 m0 tx tm H.size Iz8 J hIz8 p0 hLp0 hKp0 z5 ⟨by omega, by omega⟩ hk_Iz8.2.1 (by rw [zr8.2.2.1 15 (by decide)]; exact hf)) (cwV 1 hts (gV pq1250 pq1252 pq17 pq81 pq1253) rfl rfl rfl (by decide +kernel) ⟨(by rw [hR]; exact (Nat.le_of_ble_eq_true rfl)), (by rw [hR]; exact (Nat.le_of_ble_eq_true rfl))⟩) (sP_V hP hD hK hN hLp0 hKp0 rfl rfl) rfl rfl hl.1 rfl (lv_room (Nat.le_of_ble_eq_true rfl)) dX7_readsForm_19 ⟨(by rw [hR]; exact (Nat.le_of_ble_eq_true rfl)), (by rw [hR]; exact (Nat.le_of_ble_eq_true rfl))⟩) hS hAL hA (fun Iz19 Jz19 H locs hz19 hIz19 hP hS => ?_)
    obtain ⟨hIz19, frc19, kc19_0_11, zp19, fz19, dnc19, jz19, djc19⟩ := hIz19
    have dj_Jz19 : (∀ b, ¬ (K b = 32) → Jz19 b = J b) := fun b hc => (djc19 b (fun z => hc (by omega))).trans (dj_J b hc)
    replace zp19 : Hid _ := zp19
    replace fz19 : Hid _ := fz19
    have hk_Iz19 := hK_tr hk_Iz8 zp19
    have dn_Iz19 : (∀ b, K b = 0 ∨ K b = 1 ∨ K b = 3 ∨ K b = 6 → Iz19 b = I b) := fun b hc => (dnc19 b (by omega)).trans (dn_Iz8 b hc)
    have kp0_11_Iz19 : Iz19 p0 11 = I p0 11 := kc19_0_11.trans kp0_11_Iz8
    have fr_Iz19 : ∀ b, ¬ (K b = 7 ∨ K b = 28) → Iz19 b = I b := fun b q => (frc19 b (fun z => q (by omega))).trans (fr_Iz8 b q)
    refine lv_goto (tgt := 143) hx hb dX7_readsForm_22 (by decide) ?_
    exact j143 Iz19 Jz19 _ _ _ hIz19 kp0_11_Iz19 fr_Iz19 hk_Iz19 dn_Iz19 dj_Jz19 ⟨fun h hz => by have q := jz19.1 h hz; rw [fmT_sign (decide_eq_true ((xpz11.1 t14).elim (fun e => Or.inl (sg_t (tb_rng hby) (by decide) (fz8.1.symm.trans e))) (fun e => Or.inr (sg_t (tb_rng hby) (by decide) (fz8.1.symm.trans e))))), ← rwT_sk (sk_idem a14 a13)]; rw [A8.1, A8.2.2] at q; exact ⟨q.1.trans (by rw [show Iz8 (a0 Q p0 1) = I (a0 Q p0 1) from frc8 _ nyh]), q.2⟩, jz19.2⟩ (by rw [pfm_sign (decide_eq_true ((xpz11.1 t14).elim (fun e => Or.inl (sg_t (tb_rng hby) (by decide) (fz8.1.symm.trans e))) (fun e => Or.inr (sg_t (tb_rng hby) (by decide) (fz8.1.symm.trans e))))), ← prw_skM (sk_idem a14 a13)]; exact mdQ_A (g := fun t => prw t 41 0 0) A8 fz19) hP hS (lv_sub hl [1, 0] rfl)
