abbrev cX5_findApart : ByteArray := prog_7_method_23_code
abbrev cX5_findMeeting : ByteArray := prog_7_method_22_code
abbrev cX5_finishGlide : ByteArray := prog_7_method_18_code
abbrev cX5_goingBy : ByteArray := prog_7_method_19_code
abbrev cX5_moveAll : ByteArray := prog_7_method_21_code
abbrev cX5_redraw : ByteArray := prog_7_method_2_code
abbrev cX5_tryGlide : ByteArray := prog_7_method_14_code
def yX5_findApart : MethodName := ⟨RX5, "findApart", "(II)V"⟩
def yX5_findMeeting : MethodName := ⟨RX5, "findMeeting", "(II)Z"⟩
def yX5_finishGlide : MethodName := ⟨RX5, "finishGlide", "(I)V"⟩
def yX5_goingBy : MethodName := ⟨RX5, "goingBy", "(III)I"⟩
def yX5_moveAll : MethodName := ⟨RX5, "moveAll", "(III)V"⟩
def yX5_redraw : MethodName := ⟨RX5, "redraw", "()V"⟩
def yX5_tryGlide : MethodName := ⟨RX5, "tryGlide", "(III)V"⟩
theorem dX5_findApart_0 : decode cX5_findApart 0 = .ok (.iconst 0, 1) := by decide +kernel
theorem dX5_findApart_1 : decode cX5_findApart 1 = .ok (.istore_n 3, 1) := by decide +kernel
theorem dX5_findApart_2 : decode cX5_findApart 2 = .ok (.iload_n 3, 1) := by decide +kernel
theorem dX5_findApart_3 : decode cX5_findApart 3 = .ok (.bipush 40, 2) := by decide +kernel
theorem dX5_findApart_5 : decode cX5_findApart 5 = .ok (.if_icmp .gt 102, 3) := by decide +kernel
theorem dX5_findApart_8 : decode cX5_findApart 8 = .ok (.iload_n 3, 1) := by decide +kernel
theorem dX5_findApart_9 : decode cX5_findApart 9 = .ok (.ineg, 1) := by decide +kernel
theorem dX5_findApart_10 : decode cX5_findApart 10 = .ok (.istore 4, 2) := by decide +kernel
theorem dX5_findApart_12 : decode cX5_findApart 12 = .ok (.iload 4, 2) := by decide +kernel
theorem dX5_findApart_14 : decode cX5_findApart 14 = .ok (.iload_n 3, 1) := by decide +kernel
theorem dX5_findApart_15 : decode cX5_findApart 15 = .ok (.if_icmp .gt 86, 3) := by decide +kernel
theorem dX5_findApart_18 : decode cX5_findApart 18 = .ok (.iload_n 3, 1) := by decide +kernel
theorem dX5_findApart_19 : decode cX5_findApart 19 = .ok (.iload 4, 2) := by decide +kernel
theorem dX5_findApart_21 : decode cX5_findApart 21 = .ok (.invokestatic 177, 3) := by decide +kernel
theorem dX5_findApart_24 : decode cX5_findApart 24 = .ok (.isub, 1) := by decide +kernel
theorem dX5_findApart_25 : decode cX5_findApart 25 = .ok (.istore 5, 2) := by decide +kernel
theorem dX5_findApart_27 : decode cX5_findApart 27 = .ok (.aload_n 0, 1) := by decide +kernel
theorem dX5_findApart_28 : decode cX5_findApart 28 = .ok (.iload_n 1, 1) := by decide +kernel
theorem dX5_findApart_29 : decode cX5_findApart 29 = .ok (.iload_n 2, 1) := by decide +kernel
theorem dX5_findApart_30 : decode cX5_findApart 30 = .ok (.iload 5, 2) := by decide +kernel
theorem dX5_findApart_32 : decode cX5_findApart 32 = .ok (.ineg, 1) := by decide +kernel
theorem dX5_findApart_33 : decode cX5_findApart 33 = .ok (.iload 4, 2) := by decide +kernel
theorem dX5_findApart_35 : decode cX5_findApart 35 = .ok (.invokevirtual 123, 3) := by decide +kernel
theorem dX5_findApart_38 : decode cX5_findApart 38 = .ok (.ifCond .ne 7, 3) := by decide +kernel
theorem dX5_findApart_41 : decode cX5_findApart 41 = .ok (.iconst 1, 1) := by decide +kernel
theorem dX5_findApart_42 : decode cX5_findApart 42 = .ok (.goto 4, 3) := by decide +kernel
theorem dX5_findApart_45 : decode cX5_findApart 45 = .ok (.iconst 0, 1) := by decide +kernel
theorem dX5_findApart_46 : decode cX5_findApart 46 = .ok (.istore 6, 2) := by decide +kernel
theorem dX5_findApart_48 : decode cX5_findApart 48 = .ok (.iload 6, 2) := by decide +kernel
theorem dX5_findApart_50 : decode cX5_findApart 50 = .ok (.ifCond .ne 16, 3) := by decide +kernel
theorem dX5_findApart_53 : decode cX5_findApart 53 = .ok (.aload_n 0, 1) := by decide +kernel
theorem dX5_findApart_54 : decode cX5_findApart 54 = .ok (.iload_n 1, 1) := by decide +kernel
theorem dX5_findApart_55 : decode cX5_findApart 55 = .ok (.iload_n 2, 1) := by decide +kernel
theorem dX5_findApart_56 : decode cX5_findApart 56 = .ok (.iload 5, 2) := by decide +kernel
theorem dX5_findApart_58 : decode cX5_findApart 58 = .ok (.iload 4, 2) := by decide +kernel
theorem dX5_findApart_60 : decode cX5_findApart 60 = .ok (.invokevirtual 123, 3) := by decide +kernel
theorem dX5_findApart_63 : decode cX5_findApart 63 = .ok (.ifCond .ne 32, 3) := by decide +kernel
theorem dX5_findApart_66 : decode cX5_findApart 66 = .ok (.aload_n 0, 1) := by decide +kernel
theorem dX5_findApart_67 : decode cX5_findApart 67 = .ok (.iload_n 3, 1) := by decide +kernel
theorem dX5_findApart_68 : decode cX5_findApart 68 = .ok (.putfield 30, 3) := by decide +kernel
theorem dX5_findApart_71 : decode cX5_findApart 71 = .ok (.aload_n 0, 1) := by decide +kernel
theorem dX5_findApart_72 : decode cX5_findApart 72 = .ok (.iload 6, 2) := by decide +kernel
theorem dX5_findApart_74 : decode cX5_findApart 74 = .ok (.ifCond .eq 9, 3) := by decide +kernel
theorem dX5_findApart_77 : decode cX5_findApart 77 = .ok (.iload 5, 2) := by decide +kernel
theorem dX5_findApart_79 : decode cX5_findApart 79 = .ok (.ineg, 1) := by decide +kernel
theorem dX5_findApart_80 : decode cX5_findApart 80 = .ok (.goto 5, 3) := by decide +kernel
theorem dX5_findApart_83 : decode cX5_findApart 83 = .ok (.iload 5, 2) := by decide +kernel
theorem dX5_findApart_85 : decode cX5_findApart 85 = .ok (.putfield 33, 3) := by decide +kernel
theorem dX5_findApart_88 : decode cX5_findApart 88 = .ok (.aload_n 0, 1) := by decide +kernel
theorem dX5_findApart_89 : decode cX5_findApart 89 = .ok (.iload 4, 2) := by decide +kernel
theorem dX5_findApart_91 : decode cX5_findApart 91 = .ok (.putfield 36, 3) := by decide +kernel
theorem dX5_findApart_94 : decode cX5_findApart 94 = .ok (.return_, 1) := by decide +kernel
theorem dX5_findApart_95 : decode cX5_findApart 95 = .ok (.iinc 4 1, 3) := by decide +kernel
theorem dX5_findApart_98 : decode cX5_findApart 98 = .ok (.goto (-86), 3) := by decide +kernel
theorem dX5_findApart_101 : decode cX5_findApart 101 = .ok (.iinc 3 1, 3) := by decide +kernel
theorem dX5_findApart_104 : decode cX5_findApart 104 = .ok (.goto (-102), 3) := by decide +kernel
theorem dX5_findApart_107 : decode cX5_findApart 107 = .ok (.return_, 1) := by decide +kernel
theorem dX5_findMeeting_0 : decode cX5_findMeeting 0 = .ok (.aload_n 0, 1) := by decide +kernel
theorem dX5_findMeeting_1 : decode cX5_findMeeting 1 = .ok (.getfield 11, 3) := by decide +kernel
theorem dX5_findMeeting_4 : decode cX5_findMeeting 4 = .ok (.iload_n 1, 1) := by decide +kernel
theorem dX5_findMeeting_5 : decode cX5_findMeeting 5 = .ok (.aaload, 1) := by decide +kernel
theorem dX5_findMeeting_6 : decode cX5_findMeeting 6 = .ok (.astore_n 3, 1) := by decide +kernel
theorem dX5_findMeeting_7 : decode cX5_findMeeting 7 = .ok (.aload_n 0, 1) := by decide +kernel
theorem dX5_findMeeting_8 : decode cX5_findMeeting 8 = .ok (.getfield 11, 3) := by decide +kernel
theorem dX5_findMeeting_11 : decode cX5_findMeeting 11 = .ok (.iload_n 2, 1) := by decide +kernel
theorem dX5_findMeeting_12 : decode cX5_findMeeting 12 = .ok (.aaload, 1) := by decide +kernel
theorem dX5_findMeeting_13 : decode cX5_findMeeting 13 = .ok (.astore 4, 2) := by decide +kernel
theorem dX5_findMeeting_15 : decode cX5_findMeeting 15 = .ok (.aload_n 0, 1) := by decide +kernel
theorem dX5_findMeeting_16 : decode cX5_findMeeting 16 = .ok (.getfield 39, 3) := by decide +kernel
theorem dX5_findMeeting_19 : decode cX5_findMeeting 19 = .ok (.getfield 49, 3) := by decide +kernel
theorem dX5_findMeeting_22 : decode cX5_findMeeting 22 = .ok (.iload_n 2, 1) := by decide +kernel
theorem dX5_findMeeting_23 : decode cX5_findMeeting 23 = .ok (.aaload, 1) := by decide +kernel
theorem dX5_findMeeting_24 : decode cX5_findMeeting 24 = .ok (.getfield 71, 3) := by decide +kernel
theorem dX5_findMeeting_27 : decode cX5_findMeeting 27 = .ok (.aload_n 0, 1) := by decide +kernel
theorem dX5_findMeeting_28 : decode cX5_findMeeting 28 = .ok (.getfield 39, 3) := by decide +kernel
theorem dX5_findMeeting_31 : decode cX5_findMeeting 31 = .ok (.getfield 49, 3) := by decide +kernel
theorem dX5_findMeeting_34 : decode cX5_findMeeting 34 = .ok (.iload_n 1, 1) := by decide +kernel
theorem dX5_findMeeting_35 : decode cX5_findMeeting 35 = .ok (.aaload, 1) := by decide +kernel
theorem dX5_findMeeting_36 : decode cX5_findMeeting 36 = .ok (.getfield 71, 3) := by decide +kernel
theorem dX5_findMeeting_39 : decode cX5_findMeeting 39 = .ok (.isub, 1) := by decide +kernel
theorem dX5_findMeeting_40 : decode cX5_findMeeting 40 = .ok (.istore 5, 2) := by decide +kernel
theorem dX5_findMeeting_42 : decode cX5_findMeeting 42 = .ok (.aload_n 0, 1) := by decide +kernel
theorem dX5_findMeeting_43 : decode cX5_findMeeting 43 = .ok (.getfield 39, 3) := by decide +kernel
theorem dX5_findMeeting_46 : decode cX5_findMeeting 46 = .ok (.getfield 49, 3) := by decide +kernel
theorem dX5_findMeeting_49 : decode cX5_findMeeting 49 = .ok (.iload_n 2, 1) := by decide +kernel
theorem dX5_findMeeting_50 : decode cX5_findMeeting 50 = .ok (.aaload, 1) := by decide +kernel
theorem dX5_findMeeting_51 : decode cX5_findMeeting 51 = .ok (.getfield 86, 3) := by decide +kernel
theorem dX5_findMeeting_54 : decode cX5_findMeeting 54 = .ok (.aload_n 0, 1) := by decide +kernel
theorem dX5_findMeeting_55 : decode cX5_findMeeting 55 = .ok (.getfield 39, 3) := by decide +kernel
theorem dX5_findMeeting_58 : decode cX5_findMeeting 58 = .ok (.getfield 49, 3) := by decide +kernel
theorem dX5_findMeeting_61 : decode cX5_findMeeting 61 = .ok (.iload_n 1, 1) := by decide +kernel
theorem dX5_findMeeting_62 : decode cX5_findMeeting 62 = .ok (.aaload, 1) := by decide +kernel
theorem dX5_findMeeting_63 : decode cX5_findMeeting 63 = .ok (.getfield 86, 3) := by decide +kernel
theorem dX5_findMeeting_66 : decode cX5_findMeeting 66 = .ok (.isub, 1) := by decide +kernel
theorem dX5_findMeeting_67 : decode cX5_findMeeting 67 = .ok (.istore 6, 2) := by decide +kernel
theorem dX5_findMeeting_69 : decode cX5_findMeeting 69 = .ok (.aload_n 3, 1) := by decide +kernel
theorem dX5_findMeeting_70 : decode cX5_findMeeting 70 = .ok (.aload 4, 2) := by decide +kernel
theorem dX5_findMeeting_72 : decode cX5_findMeeting 72 = .ok (.iload 5, 2) := by decide +kernel
theorem dX5_findMeeting_74 : decode cX5_findMeeting 74 = .ok (.iload 6, 2) := by decide +kernel
theorem dX5_findMeeting_76 : decode cX5_findMeeting 76 = .ok (.invokestatic 109, 3) := by decide +kernel
theorem dX5_findMeeting_79 : decode cX5_findMeeting 79 = .ok (.ifCond .ne 5, 3) := by decide +kernel
theorem dX5_findMeeting_82 : decode cX5_findMeeting 82 = .ok (.iconst 0, 1) := by decide +kernel
theorem dX5_findMeeting_83 : decode cX5_findMeeting 83 = .ok (.ireturn, 1) := by decide +kernel
theorem dX5_findMeeting_84 : decode cX5_findMeeting 84 = .ok (.aload_n 3, 1) := by decide +kernel
theorem dX5_findMeeting_85 : decode cX5_findMeeting 85 = .ok (.getfield 92, 3) := by decide +kernel
theorem dX5_findMeeting_88 : decode cX5_findMeeting 88 = .ok (.aload 4, 2) := by decide +kernel
theorem dX5_findMeeting_90 : decode cX5_findMeeting 90 = .ok (.getfield 92, 3) := by decide +kernel
theorem dX5_findMeeting_93 : decode cX5_findMeeting 93 = .ok (.iload 6, 2) := by decide +kernel
theorem dX5_findMeeting_95 : decode cX5_findMeeting 95 = .ok (.iadd, 1) := by decide +kernel
theorem dX5_findMeeting_96 : decode cX5_findMeeting 96 = .ok (.invokestatic 147, 3) := by decide +kernel
theorem dX5_findMeeting_99 : decode cX5_findMeeting 99 = .ok (.istore 7, 2) := by decide +kernel
theorem dX5_findMeeting_101 : decode cX5_findMeeting 101 = .ok (.aload_n 3, 1) := by decide +kernel
theorem dX5_findMeeting_102 : decode cX5_findMeeting 102 = .ok (.getfield 89, 3) := by decide +kernel
theorem dX5_findMeeting_105 : decode cX5_findMeeting 105 = .ok (.aload 4, 2) := by decide +kernel
theorem dX5_findMeeting_107 : decode cX5_findMeeting 107 = .ok (.getfield 89, 3) := by decide +kernel
theorem dX5_findMeeting_110 : decode cX5_findMeeting 110 = .ok (.iload 6, 2) := by decide +kernel
theorem dX5_findMeeting_112 : decode cX5_findMeeting 112 = .ok (.iadd, 1) := by decide +kernel
theorem dX5_findMeeting_113 : decode cX5_findMeeting 113 = .ok (.invokestatic 150, 3) := by decide +kernel
theorem dX5_findMeeting_116 : decode cX5_findMeeting 116 = .ok (.istore 8, 2) := by decide +kernel
theorem dX5_findMeeting_118 : decode cX5_findMeeting 118 = .ok (.iload 8, 2) := by decide +kernel
theorem dX5_findMeeting_120 : decode cX5_findMeeting 120 = .ok (.iload 7, 2) := by decide +kernel
theorem dX5_findMeeting_122 : decode cX5_findMeeting 122 = .ok (.if_icmp .gt 145, 3) := by decide +kernel
theorem dX5_findMeeting_125 : decode cX5_findMeeting 125 = .ok (.iconst 2, 1) := by decide +kernel
theorem dX5_findMeeting_126 : decode cX5_findMeeting 126 = .ok (.iload 8, 2) := by decide +kernel
theorem dX5_findMeeting_128 : decode cX5_findMeeting 128 = .ok (.iload 6, 2) := by decide +kernel
theorem dX5_findMeeting_130 : decode cX5_findMeeting 130 = .ok (.isub, 1) := by decide +kernel
theorem dX5_findMeeting_131 : decode cX5_findMeeting 131 = .ok (.imul, 1) := by decide +kernel
theorem dX5_findMeeting_132 : decode cX5_findMeeting 132 = .ok (.istore 9, 2) := by decide +kernel
theorem dX5_findMeeting_134 : decode cX5_findMeeting 134 = .ok (.aload_n 3, 1) := by decide +kernel
theorem dX5_findMeeting_135 : decode cX5_findMeeting 135 = .ok (.getfield 162, 3) := by decide +kernel
theorem dX5_findMeeting_138 : decode cX5_findMeeting 138 = .ok (.iconst 2, 1) := by decide +kernel
theorem dX5_findMeeting_139 : decode cX5_findMeeting 139 = .ok (.iload 8, 2) := by decide +kernel
theorem dX5_findMeeting_141 : decode cX5_findMeeting 141 = .ok (.imul, 1) := by decide +kernel
theorem dX5_findMeeting_142 : decode cX5_findMeeting 142 = .ok (.laload, 1) := by decide +kernel
theorem dX5_findMeeting_143 : decode cX5_findMeeting 143 = .ok (.aload 4, 2) := by decide +kernel
theorem dX5_findMeeting_145 : decode cX5_findMeeting 145 = .ok (.getfield 162, 3) := by decide +kernel
theorem dX5_findMeeting_148 : decode cX5_findMeeting 148 = .ok (.iload 9, 2) := by decide +kernel
theorem dX5_findMeeting_150 : decode cX5_findMeeting 150 = .ok (.laload, 1) := by decide +kernel
theorem dX5_findMeeting_151 : decode cX5_findMeeting 151 = .ok (.aload 4, 2) := by decide +kernel
theorem dX5_findMeeting_153 : decode cX5_findMeeting 153 = .ok (.getfield 162, 3) := by decide +kernel
theorem dX5_findMeeting_156 : decode cX5_findMeeting 156 = .ok (.iload 9, 2) := by decide +kernel
theorem dX5_findMeeting_158 : decode cX5_findMeeting 158 = .ok (.iconst 1, 1) := by decide +kernel
theorem dX5_findMeeting_159 : decode cX5_findMeeting 159 = .ok (.iadd, 1) := by decide +kernel
theorem dX5_findMeeting_160 : decode cX5_findMeeting 160 = .ok (.laload, 1) := by decide +kernel
theorem dX5_findMeeting_161 : decode cX5_findMeeting 161 = .ok (.iload 5, 2) := by decide +kernel
theorem dX5_findMeeting_163 : decode cX5_findMeeting 163 = .ok (.invokestatic 166, 3) := by decide +kernel
theorem dX5_findMeeting_166 : decode cX5_findMeeting 166 = .ok (.land, 1) := by decide +kernel
theorem dX5_findMeeting_167 : decode cX5_findMeeting 167 = .ok (.lstore 10, 2) := by decide +kernel
theorem dX5_findMeeting_169 : decode cX5_findMeeting 169 = .ok (.aload_n 3, 1) := by decide +kernel
theorem dX5_findMeeting_170 : decode cX5_findMeeting 170 = .ok (.getfield 162, 3) := by decide +kernel
theorem dX5_findMeeting_173 : decode cX5_findMeeting 173 = .ok (.iconst 2, 1) := by decide +kernel
theorem dX5_findMeeting_174 : decode cX5_findMeeting 174 = .ok (.iload 8, 2) := by decide +kernel
theorem dX5_findMeeting_176 : decode cX5_findMeeting 176 = .ok (.imul, 1) := by decide +kernel
theorem dX5_findMeeting_177 : decode cX5_findMeeting 177 = .ok (.iconst 1, 1) := by decide +kernel
theorem dX5_findMeeting_178 : decode cX5_findMeeting 178 = .ok (.iadd, 1) := by decide +kernel
theorem dX5_findMeeting_179 : decode cX5_findMeeting 179 = .ok (.laload, 1) := by decide +kernel
theorem dX5_findMeeting_180 : decode cX5_findMeeting 180 = .ok (.aload 4, 2) := by decide +kernel
theorem dX5_findMeeting_182 : decode cX5_findMeeting 182 = .ok (.getfield 162, 3) := by decide +kernel
theorem dX5_findMeeting_185 : decode cX5_findMeeting 185 = .ok (.iload 9, 2) := by decide +kernel
theorem dX5_findMeeting_187 : decode cX5_findMeeting 187 = .ok (.laload, 1) := by decide +kernel
theorem dX5_findMeeting_188 : decode cX5_findMeeting 188 = .ok (.aload 4, 2) := by decide +kernel
theorem dX5_findMeeting_190 : decode cX5_findMeeting 190 = .ok (.getfield 162, 3) := by decide +kernel
theorem dX5_findMeeting_193 : decode cX5_findMeeting 193 = .ok (.iload 9, 2) := by decide +kernel
theorem dX5_findMeeting_195 : decode cX5_findMeeting 195 = .ok (.iconst 1, 1) := by decide +kernel
theorem dX5_findMeeting_196 : decode cX5_findMeeting 196 = .ok (.iadd, 1) := by decide +kernel
theorem dX5_findMeeting_197 : decode cX5_findMeeting 197 = .ok (.laload, 1) := by decide +kernel
theorem dX5_findMeeting_198 : decode cX5_findMeeting 198 = .ok (.iload 5, 2) := by decide +kernel
theorem dX5_findMeeting_200 : decode cX5_findMeeting 200 = .ok (.invokestatic 170, 3) := by decide +kernel
theorem dX5_findMeeting_203 : decode cX5_findMeeting 203 = .ok (.land, 1) := by decide +kernel
theorem dX5_findMeeting_204 : decode cX5_findMeeting 204 = .ok (.lstore 12, 2) := by decide +kernel
theorem dX5_findMeeting_206 : decode cX5_findMeeting 206 = .ok (.lload 10, 2) := by decide +kernel
theorem dX5_findMeeting_208 : decode cX5_findMeeting 208 = .ok (.lload 12, 2) := by decide +kernel
theorem dX5_findMeeting_210 : decode cX5_findMeeting 210 = .ok (.lor, 1) := by decide +kernel
theorem dX5_findMeeting_211 : decode cX5_findMeeting 211 = .ok (.lconst 0, 1) := by decide +kernel
theorem dX5_findMeeting_212 : decode cX5_findMeeting 212 = .ok (.lcmp, 1) := by decide +kernel
theorem dX5_findMeeting_213 : decode cX5_findMeeting 213 = .ok (.ifCond .eq 48, 3) := by decide +kernel
theorem dX5_findMeeting_216 : decode cX5_findMeeting 216 = .ok (.aload_n 0, 1) := by decide +kernel
theorem dX5_findMeeting_217 : decode cX5_findMeeting 217 = .ok (.aload_n 0, 1) := by decide +kernel
theorem dX5_findMeeting_218 : decode cX5_findMeeting 218 = .ok (.getfield 39, 3) := by decide +kernel
theorem dX5_findMeeting_221 : decode cX5_findMeeting 221 = .ok (.getfield 49, 3) := by decide +kernel
theorem dX5_findMeeting_224 : decode cX5_findMeeting 224 = .ok (.iload_n 1, 1) := by decide +kernel
theorem dX5_findMeeting_225 : decode cX5_findMeeting 225 = .ok (.aaload, 1) := by decide +kernel
theorem dX5_findMeeting_226 : decode cX5_findMeeting 226 = .ok (.getfield 71, 3) := by decide +kernel
theorem dX5_findMeeting_229 : decode cX5_findMeeting 229 = .ok (.lload 10, 2) := by decide +kernel
theorem dX5_findMeeting_231 : decode cX5_findMeeting 231 = .ok (.lload 12, 2) := by decide +kernel
theorem dX5_findMeeting_233 : decode cX5_findMeeting 233 = .ok (.invokestatic 173, 3) := by decide +kernel
theorem dX5_findMeeting_236 : decode cX5_findMeeting 236 = .ok (.iadd, 1) := by decide +kernel
theorem dX5_findMeeting_237 : decode cX5_findMeeting 237 = .ok (.putfield 33, 3) := by decide +kernel
theorem dX5_findMeeting_240 : decode cX5_findMeeting 240 = .ok (.aload_n 0, 1) := by decide +kernel
theorem dX5_findMeeting_241 : decode cX5_findMeeting 241 = .ok (.aload_n 0, 1) := by decide +kernel
theorem dX5_findMeeting_242 : decode cX5_findMeeting 242 = .ok (.getfield 39, 3) := by decide +kernel
theorem dX5_findMeeting_245 : decode cX5_findMeeting 245 = .ok (.getfield 49, 3) := by decide +kernel
theorem dX5_findMeeting_248 : decode cX5_findMeeting 248 = .ok (.iload_n 1, 1) := by decide +kernel
theorem dX5_findMeeting_249 : decode cX5_findMeeting 249 = .ok (.aaload, 1) := by decide +kernel
theorem dX5_findMeeting_250 : decode cX5_findMeeting 250 = .ok (.getfield 86, 3) := by decide +kernel
theorem dX5_findMeeting_253 : decode cX5_findMeeting 253 = .ok (.iload 8, 2) := by decide +kernel
theorem dX5_findMeeting_255 : decode cX5_findMeeting 255 = .ok (.iadd, 1) := by decide +kernel
theorem dX5_findMeeting_256 : decode cX5_findMeeting 256 = .ok (.putfield 36, 3) := by decide +kernel
theorem dX5_findMeeting_259 : decode cX5_findMeeting 259 = .ok (.iconst 1, 1) := by decide +kernel
theorem dX5_findMeeting_260 : decode cX5_findMeeting 260 = .ok (.ireturn, 1) := by decide +kernel
theorem dX5_findMeeting_261 : decode cX5_findMeeting 261 = .ok (.iinc 8 1, 3) := by decide +kernel
theorem dX5_findMeeting_264 : decode cX5_findMeeting 264 = .ok (.goto (-146), 3) := by decide +kernel
theorem dX5_findMeeting_267 : decode cX5_findMeeting 267 = .ok (.iconst 0, 1) := by decide +kernel
theorem dX5_findMeeting_268 : decode cX5_findMeeting 268 = .ok (.ireturn, 1) := by decide +kernel
theorem dX5_finishGlide_0 : decode cX5_finishGlide 0 = .ok (.aload_n 0, 1) := by decide +kernel
theorem dX5_finishGlide_1 : decode cX5_finishGlide 1 = .ok (.getfield 39, 3) := by decide +kernel
theorem dX5_finishGlide_4 : decode cX5_finishGlide 4 = .ok (.getfield 49, 3) := by decide +kernel
theorem dX5_finishGlide_7 : decode cX5_finishGlide 7 = .ok (.iload_n 1, 1) := by decide +kernel
theorem dX5_finishGlide_8 : decode cX5_finishGlide 8 = .ok (.aaload, 1) := by decide +kernel
theorem dX5_finishGlide_9 : decode cX5_finishGlide 9 = .ok (.dup, 1) := by decide +kernel
theorem dX5_finishGlide_10 : decode cX5_finishGlide 10 = .ok (.getfield 71, 3) := by decide +kernel
theorem dX5_finishGlide_13 : decode cX5_finishGlide 13 = .ok (.aload_n 0, 1) := by decide +kernel
theorem dX5_finishGlide_14 : decode cX5_finishGlide 14 = .ok (.getfield 24, 3) := by decide +kernel
theorem dX5_finishGlide_17 : decode cX5_finishGlide 17 = .ok (.iadd, 1) := by decide +kernel
theorem dX5_finishGlide_18 : decode cX5_finishGlide 18 = .ok (.putfield 71, 3) := by decide +kernel
theorem dX5_finishGlide_21 : decode cX5_finishGlide 21 = .ok (.aload_n 0, 1) := by decide +kernel
theorem dX5_finishGlide_22 : decode cX5_finishGlide 22 = .ok (.getfield 39, 3) := by decide +kernel
theorem dX5_finishGlide_25 : decode cX5_finishGlide 25 = .ok (.getfield 49, 3) := by decide +kernel
theorem dX5_finishGlide_28 : decode cX5_finishGlide 28 = .ok (.iload_n 1, 1) := by decide +kernel
theorem dX5_finishGlide_29 : decode cX5_finishGlide 29 = .ok (.aaload, 1) := by decide +kernel
theorem dX5_finishGlide_30 : decode cX5_finishGlide 30 = .ok (.dup, 1) := by decide +kernel
theorem dX5_finishGlide_31 : decode cX5_finishGlide 31 = .ok (.getfield 86, 3) := by decide +kernel
theorem dX5_finishGlide_34 : decode cX5_finishGlide 34 = .ok (.aload_n 0, 1) := by decide +kernel
theorem dX5_finishGlide_35 : decode cX5_finishGlide 35 = .ok (.getfield 27, 3) := by decide +kernel
theorem dX5_finishGlide_38 : decode cX5_finishGlide 38 = .ok (.iadd, 1) := by decide +kernel
theorem dX5_finishGlide_39 : decode cX5_finishGlide 39 = .ok (.putfield 86, 3) := by decide +kernel
theorem dX5_finishGlide_42 : decode cX5_finishGlide 42 = .ok (.return_, 1) := by decide +kernel
theorem dX5_goingBy_0 : decode cX5_goingBy 0 = .ok (.iconst 1, 1) := by decide +kernel
theorem dX5_goingBy_1 : decode cX5_goingBy 1 = .ok (.iload_n 1, 1) := by decide +kernel
theorem dX5_goingBy_2 : decode cX5_goingBy 2 = .ok (.ishl, 1) := by decide +kernel
theorem dX5_goingBy_3 : decode cX5_goingBy 3 = .ok (.istore 4, 2) := by decide +kernel
theorem dX5_goingBy_5 : decode cX5_goingBy 5 = .ok (.iconst 0, 1) := by decide +kernel
theorem dX5_goingBy_6 : decode cX5_goingBy 6 = .ok (.istore 5, 2) := by decide +kernel
theorem dX5_goingBy_8 : decode cX5_goingBy 8 = .ok (.iconst 0, 1) := by decide +kernel
theorem dX5_goingBy_9 : decode cX5_goingBy 9 = .ok (.istore 6, 2) := by decide +kernel
theorem dX5_goingBy_11 : decode cX5_goingBy 11 = .ok (.iload 6, 2) := by decide +kernel
theorem dX5_goingBy_13 : decode cX5_goingBy 13 = .ok (.aload_n 0, 1) := by decide +kernel
theorem dX5_goingBy_14 : decode cX5_goingBy 14 = .ok (.getfield 39, 3) := by decide +kernel
theorem dX5_goingBy_17 : decode cX5_goingBy 17 = .ok (.getfield 44, 3) := by decide +kernel
theorem dX5_goingBy_20 : decode cX5_goingBy 20 = .ok (.if_icmp .ge 113, 3) := by decide +kernel
theorem dX5_goingBy_23 : decode cX5_goingBy 23 = .ok (.iload 5, 2) := by decide +kernel
theorem dX5_goingBy_25 : decode cX5_goingBy 25 = .ok (.iload 4, 2) := by decide +kernel
theorem dX5_goingBy_27 : decode cX5_goingBy 27 = .ok (.if_icmp .eq 106, 3) := by decide +kernel
theorem dX5_goingBy_30 : decode cX5_goingBy 30 = .ok (.iload 4, 2) := by decide +kernel
theorem dX5_goingBy_32 : decode cX5_goingBy 32 = .ok (.iload 5, 2) := by decide +kernel
theorem dX5_goingBy_34 : decode cX5_goingBy 34 = .ok (.iconst (-1), 1) := by decide +kernel
theorem dX5_goingBy_35 : decode cX5_goingBy 35 = .ok (.ixor, 1) := by decide +kernel
theorem dX5_goingBy_36 : decode cX5_goingBy 36 = .ok (.iand, 1) := by decide +kernel
theorem dX5_goingBy_37 : decode cX5_goingBy 37 = .ok (.istore 7, 2) := by decide +kernel
theorem dX5_goingBy_39 : decode cX5_goingBy 39 = .ok (.iload 7, 2) := by decide +kernel
theorem dX5_goingBy_41 : decode cX5_goingBy 41 = .ok (.iload 7, 2) := by decide +kernel
theorem dX5_goingBy_43 : decode cX5_goingBy 43 = .ok (.ineg, 1) := by decide +kernel
theorem dX5_goingBy_44 : decode cX5_goingBy 44 = .ok (.iand, 1) := by decide +kernel
theorem dX5_goingBy_45 : decode cX5_goingBy 45 = .ok (.iconst 1, 1) := by decide +kernel
theorem dX5_goingBy_46 : decode cX5_goingBy 46 = .ok (.isub, 1) := by decide +kernel
theorem dX5_goingBy_47 : decode cX5_goingBy 47 = .ok (.invokestatic 153, 3) := by decide +kernel
theorem dX5_goingBy_50 : decode cX5_goingBy 50 = .ok (.istore 8, 2) := by decide +kernel
theorem dX5_goingBy_52 : decode cX5_goingBy 52 = .ok (.iload 5, 2) := by decide +kernel
theorem dX5_goingBy_54 : decode cX5_goingBy 54 = .ok (.iconst 1, 1) := by decide +kernel
theorem dX5_goingBy_55 : decode cX5_goingBy 55 = .ok (.iload 8, 2) := by decide +kernel
theorem dX5_goingBy_57 : decode cX5_goingBy 57 = .ok (.ishl, 1) := by decide +kernel
theorem dX5_goingBy_58 : decode cX5_goingBy 58 = .ok (.ior, 1) := by decide +kernel
theorem dX5_goingBy_59 : decode cX5_goingBy 59 = .ok (.istore 5, 2) := by decide +kernel
theorem dX5_goingBy_61 : decode cX5_goingBy 61 = .ok (.iconst 0, 1) := by decide +kernel
theorem dX5_goingBy_62 : decode cX5_goingBy 62 = .ok (.istore 9, 2) := by decide +kernel
theorem dX5_goingBy_64 : decode cX5_goingBy 64 = .ok (.iload 9, 2) := by decide +kernel
theorem dX5_goingBy_66 : decode cX5_goingBy 66 = .ok (.aload_n 0, 1) := by decide +kernel
theorem dX5_goingBy_67 : decode cX5_goingBy 67 = .ok (.getfield 39, 3) := by decide +kernel
theorem dX5_goingBy_70 : decode cX5_goingBy 70 = .ok (.getfield 44, 3) := by decide +kernel
theorem dX5_goingBy_73 : decode cX5_goingBy 73 = .ok (.if_icmp .ge 54, 3) := by decide +kernel
theorem dX5_goingBy_76 : decode cX5_goingBy 76 = .ok (.iload 4, 2) := by decide +kernel
theorem dX5_goingBy_78 : decode cX5_goingBy 78 = .ok (.iload 9, 2) := by decide +kernel
theorem dX5_goingBy_80 : decode cX5_goingBy 80 = .ok (.ishr, 1) := by decide +kernel
theorem dX5_goingBy_81 : decode cX5_goingBy 81 = .ok (.iconst 1, 1) := by decide +kernel
theorem dX5_goingBy_82 : decode cX5_goingBy 82 = .ok (.iand, 1) := by decide +kernel
theorem dX5_goingBy_83 : decode cX5_goingBy 83 = .ok (.ifCond .ne 38, 3) := by decide +kernel
theorem dX5_goingBy_86 : decode cX5_goingBy 86 = .ok (.aload_n 0, 1) := by decide +kernel
theorem dX5_goingBy_87 : decode cX5_goingBy 87 = .ok (.iload 8, 2) := by decide +kernel
theorem dX5_goingBy_89 : decode cX5_goingBy 89 = .ok (.iload 9, 2) := by decide +kernel
theorem dX5_goingBy_91 : decode cX5_goingBy 91 = .ok (.iload_n 2, 1) := by decide +kernel
theorem dX5_goingBy_92 : decode cX5_goingBy 92 = .ok (.iload_n 3, 1) := by decide +kernel
theorem dX5_goingBy_93 : decode cX5_goingBy 93 = .ok (.invokevirtual 159, 3) := by decide +kernel
theorem dX5_goingBy_96 : decode cX5_goingBy 96 = .ok (.ifCond .eq 25, 3) := by decide +kernel
theorem dX5_goingBy_99 : decode cX5_goingBy 99 = .ok (.aload_n 0, 1) := by decide +kernel
theorem dX5_goingBy_100 : decode cX5_goingBy 100 = .ok (.iload 8, 2) := by decide +kernel
theorem dX5_goingBy_102 : decode cX5_goingBy 102 = .ok (.iload 9, 2) := by decide +kernel
theorem dX5_goingBy_104 : decode cX5_goingBy 104 = .ok (.iconst 0, 1) := by decide +kernel
theorem dX5_goingBy_105 : decode cX5_goingBy 105 = .ok (.iconst 0, 1) := by decide +kernel
theorem dX5_goingBy_106 : decode cX5_goingBy 106 = .ok (.invokevirtual 123, 3) := by decide +kernel
theorem dX5_goingBy_109 : decode cX5_goingBy 109 = .ok (.ifCond .ne 12, 3) := by decide +kernel
theorem dX5_goingBy_112 : decode cX5_goingBy 112 = .ok (.iload 4, 2) := by decide +kernel
theorem dX5_goingBy_114 : decode cX5_goingBy 114 = .ok (.iconst 1, 1) := by decide +kernel
theorem dX5_goingBy_115 : decode cX5_goingBy 115 = .ok (.iload 9, 2) := by decide +kernel
theorem dX5_goingBy_117 : decode cX5_goingBy 117 = .ok (.ishl, 1) := by decide +kernel
theorem dX5_goingBy_118 : decode cX5_goingBy 118 = .ok (.ior, 1) := by decide +kernel
theorem dX5_goingBy_119 : decode cX5_goingBy 119 = .ok (.istore 4, 2) := by decide +kernel
theorem dX5_goingBy_121 : decode cX5_goingBy 121 = .ok (.iinc 9 1, 3) := by decide +kernel
theorem dX5_goingBy_124 : decode cX5_goingBy 124 = .ok (.goto (-60), 3) := by decide +kernel
theorem dX5_goingBy_127 : decode cX5_goingBy 127 = .ok (.iinc 6 1, 3) := by decide +kernel
theorem dX5_goingBy_130 : decode cX5_goingBy 130 = .ok (.goto (-119), 3) := by decide +kernel
theorem dX5_goingBy_133 : decode cX5_goingBy 133 = .ok (.iload 4, 2) := by decide +kernel
theorem dX5_goingBy_135 : decode cX5_goingBy 135 = .ok (.ireturn, 1) := by decide +kernel
theorem dX5_moveAll_0 : decode cX5_moveAll 0 = .ok (.iconst 0, 1) := by decide +kernel
theorem dX5_moveAll_1 : decode cX5_moveAll 1 = .ok (.istore 4, 2) := by decide +kernel
theorem dX5_moveAll_3 : decode cX5_moveAll 3 = .ok (.iload 4, 2) := by decide +kernel
theorem dX5_moveAll_5 : decode cX5_moveAll 5 = .ok (.aload_n 0, 1) := by decide +kernel
theorem dX5_moveAll_6 : decode cX5_moveAll 6 = .ok (.getfield 39, 3) := by decide +kernel
theorem dX5_moveAll_9 : decode cX5_moveAll 9 = .ok (.getfield 44, 3) := by decide +kernel
theorem dX5_moveAll_12 : decode cX5_moveAll 12 = .ok (.if_icmp .ge 57, 3) := by decide +kernel
theorem dX5_moveAll_15 : decode cX5_moveAll 15 = .ok (.iload_n 1, 1) := by decide +kernel
theorem dX5_moveAll_16 : decode cX5_moveAll 16 = .ok (.iload 4, 2) := by decide +kernel
theorem dX5_moveAll_18 : decode cX5_moveAll 18 = .ok (.ishr, 1) := by decide +kernel
theorem dX5_moveAll_19 : decode cX5_moveAll 19 = .ok (.iconst 1, 1) := by decide +kernel
theorem dX5_moveAll_20 : decode cX5_moveAll 20 = .ok (.iand, 1) := by decide +kernel
theorem dX5_moveAll_21 : decode cX5_moveAll 21 = .ok (.iconst 1, 1) := by decide +kernel
theorem dX5_moveAll_22 : decode cX5_moveAll 22 = .ok (.if_icmp .ne 41, 3) := by decide +kernel
theorem dX5_moveAll_25 : decode cX5_moveAll 25 = .ok (.aload_n 0, 1) := by decide +kernel
theorem dX5_moveAll_26 : decode cX5_moveAll 26 = .ok (.getfield 39, 3) := by decide +kernel
theorem dX5_moveAll_29 : decode cX5_moveAll 29 = .ok (.getfield 49, 3) := by decide +kernel
theorem dX5_moveAll_32 : decode cX5_moveAll 32 = .ok (.iload 4, 2) := by decide +kernel
theorem dX5_moveAll_34 : decode cX5_moveAll 34 = .ok (.aaload, 1) := by decide +kernel
theorem dX5_moveAll_35 : decode cX5_moveAll 35 = .ok (.dup, 1) := by decide +kernel
theorem dX5_moveAll_36 : decode cX5_moveAll 36 = .ok (.getfield 71, 3) := by decide +kernel
theorem dX5_moveAll_39 : decode cX5_moveAll 39 = .ok (.iload_n 2, 1) := by decide +kernel
theorem dX5_moveAll_40 : decode cX5_moveAll 40 = .ok (.iadd, 1) := by decide +kernel
theorem dX5_moveAll_41 : decode cX5_moveAll 41 = .ok (.putfield 71, 3) := by decide +kernel
theorem dX5_moveAll_44 : decode cX5_moveAll 44 = .ok (.aload_n 0, 1) := by decide +kernel
theorem dX5_moveAll_45 : decode cX5_moveAll 45 = .ok (.getfield 39, 3) := by decide +kernel
theorem dX5_moveAll_48 : decode cX5_moveAll 48 = .ok (.getfield 49, 3) := by decide +kernel
theorem dX5_moveAll_51 : decode cX5_moveAll 51 = .ok (.iload 4, 2) := by decide +kernel
theorem dX5_moveAll_53 : decode cX5_moveAll 53 = .ok (.aaload, 1) := by decide +kernel
theorem dX5_moveAll_54 : decode cX5_moveAll 54 = .ok (.dup, 1) := by decide +kernel
theorem dX5_moveAll_55 : decode cX5_moveAll 55 = .ok (.getfield 86, 3) := by decide +kernel
theorem dX5_moveAll_58 : decode cX5_moveAll 58 = .ok (.iload_n 3, 1) := by decide +kernel
theorem dX5_moveAll_59 : decode cX5_moveAll 59 = .ok (.iadd, 1) := by decide +kernel
theorem dX5_moveAll_60 : decode cX5_moveAll 60 = .ok (.putfield 86, 3) := by decide +kernel
theorem dX5_moveAll_63 : decode cX5_moveAll 63 = .ok (.iinc 4 1, 3) := by decide +kernel
theorem dX5_moveAll_66 : decode cX5_moveAll 66 = .ok (.goto (-63), 3) := by decide +kernel
theorem dX5_moveAll_69 : decode cX5_moveAll 69 = .ok (.return_, 1) := by decide +kernel
theorem dX5_redraw_0 : decode cX5_redraw 0 = .ok (.iconst 0, 1) := by decide +kernel
theorem dX5_redraw_1 : decode cX5_redraw 1 = .ok (.istore_n 1, 1) := by decide +kernel
theorem dX5_redraw_2 : decode cX5_redraw 2 = .ok (.iload_n 1, 1) := by decide +kernel
theorem dX5_redraw_3 : decode cX5_redraw 3 = .ok (.aload_n 0, 1) := by decide +kernel
theorem dX5_redraw_4 : decode cX5_redraw 4 = .ok (.getfield 39, 3) := by decide +kernel
theorem dX5_redraw_7 : decode cX5_redraw 7 = .ok (.getfield 44, 3) := by decide +kernel
theorem dX5_redraw_10 : decode cX5_redraw 10 = .ok (.if_icmp .ge 44, 3) := by decide +kernel
theorem dX5_redraw_13 : decode cX5_redraw 13 = .ok (.aload_n 0, 1) := by decide +kernel
theorem dX5_redraw_14 : decode cX5_redraw 14 = .ok (.getfield 39, 3) := by decide +kernel
theorem dX5_redraw_17 : decode cX5_redraw 17 = .ok (.getfield 49, 3) := by decide +kernel
theorem dX5_redraw_20 : decode cX5_redraw 20 = .ok (.iload_n 1, 1) := by decide +kernel
theorem dX5_redraw_21 : decode cX5_redraw 21 = .ok (.aaload, 1) := by decide +kernel
theorem dX5_redraw_22 : decode cX5_redraw 22 = .ok (.astore_n 2, 1) := by decide +kernel
theorem dX5_redraw_23 : decode cX5_redraw 23 = .ok (.aload_n 0, 1) := by decide +kernel
theorem dX5_redraw_24 : decode cX5_redraw 24 = .ok (.getfield 11, 3) := by decide +kernel
theorem dX5_redraw_27 : decode cX5_redraw 27 = .ok (.iload_n 1, 1) := by decide +kernel
theorem dX5_redraw_28 : decode cX5_redraw 28 = .ok (.aaload, 1) := by decide +kernel
theorem dX5_redraw_29 : decode cX5_redraw 29 = .ok (.aload_n 0, 1) := by decide +kernel
theorem dX5_redraw_30 : decode cX5_redraw 30 = .ok (.getfield 39, 3) := by decide +kernel
theorem dX5_redraw_33 : decode cX5_redraw 33 = .ok (.getfield 53, 3) := by decide +kernel
theorem dX5_redraw_36 : decode cX5_redraw 36 = .ok (.aload_n 2, 1) := by decide +kernel
theorem dX5_redraw_37 : decode cX5_redraw 37 = .ok (.getfield 56, 3) := by decide +kernel
theorem dX5_redraw_40 : decode cX5_redraw 40 = .ok (.aaload, 1) := by decide +kernel
theorem dX5_redraw_41 : decode cX5_redraw 41 = .ok (.aload_n 2, 1) := by decide +kernel
theorem dX5_redraw_42 : decode cX5_redraw 42 = .ok (.getfield 61, 3) := by decide +kernel
theorem dX5_redraw_45 : decode cX5_redraw 45 = .ok (.invokevirtual 64, 3) := by decide +kernel
theorem dX5_redraw_48 : decode cX5_redraw 48 = .ok (.iinc 1 1, 3) := by decide +kernel
theorem dX5_redraw_51 : decode cX5_redraw 51 = .ok (.goto (-49), 3) := by decide +kernel
theorem dX5_redraw_54 : decode cX5_redraw 54 = .ok (.return_, 1) := by decide +kernel
theorem dX5_tryGlide_0 : decode cX5_tryGlide 0 = .ok (.aload_n 0, 1) := by decide +kernel
theorem dX5_tryGlide_1 : decode cX5_tryGlide 1 = .ok (.getfield 39, 3) := by decide +kernel
theorem dX5_tryGlide_4 : decode cX5_tryGlide 4 = .ok (.getfield 49, 3) := by decide +kernel
theorem dX5_tryGlide_7 : decode cX5_tryGlide 7 = .ok (.iload_n 1, 1) := by decide +kernel
theorem dX5_tryGlide_8 : decode cX5_tryGlide 8 = .ok (.aaload, 1) := by decide +kernel
theorem dX5_tryGlide_9 : decode cX5_tryGlide 9 = .ok (.astore 4, 2) := by decide +kernel
theorem dX5_tryGlide_11 : decode cX5_tryGlide 11 = .ok (.iload_n 2, 1) := by decide +kernel
theorem dX5_tryGlide_12 : decode cX5_tryGlide 12 = .ok (.iload_n 3, 1) := by decide +kernel
theorem dX5_tryGlide_13 : decode cX5_tryGlide 13 = .ok (.invokestatic 127, 3) := by decide +kernel
theorem dX5_tryGlide_16 : decode cX5_tryGlide 16 = .ok (.istore 5, 2) := by decide +kernel
theorem dX5_tryGlide_18 : decode cX5_tryGlide 18 = .ok (.aload_n 0, 1) := by decide +kernel
theorem dX5_tryGlide_19 : decode cX5_tryGlide 19 = .ok (.iload_n 1, 1) := by decide +kernel
theorem dX5_tryGlide_20 : decode cX5_tryGlide 20 = .ok (.iload_n 2, 1) := by decide +kernel
theorem dX5_tryGlide_21 : decode cX5_tryGlide 21 = .ok (.iload_n 3, 1) := by decide +kernel
theorem dX5_tryGlide_22 : decode cX5_tryGlide 22 = .ok (.invokevirtual 130, 3) := by decide +kernel
theorem dX5_tryGlide_25 : decode cX5_tryGlide 25 = .ok (.istore 6, 2) := by decide +kernel
theorem dX5_tryGlide_27 : decode cX5_tryGlide 27 = .ok (.aload_n 0, 1) := by decide +kernel
theorem dX5_tryGlide_28 : decode cX5_tryGlide 28 = .ok (.iconst 0, 1) := by decide +kernel
theorem dX5_tryGlide_29 : decode cX5_tryGlide 29 = .ok (.putfield 17, 3) := by decide +kernel
theorem dX5_tryGlide_32 : decode cX5_tryGlide 32 = .ok (.aload_n 0, 1) := by decide +kernel
theorem dX5_tryGlide_33 : decode cX5_tryGlide 33 = .ok (.iconst (-1), 1) := by decide +kernel
theorem dX5_tryGlide_34 : decode cX5_tryGlide 34 = .ok (.putfield 21, 3) := by decide +kernel
theorem dX5_tryGlide_37 : decode cX5_tryGlide 37 = .ok (.aload_n 0, 1) := by decide +kernel
theorem dX5_tryGlide_38 : decode cX5_tryGlide 38 = .ok (.iconst 0, 1) := by decide +kernel
theorem dX5_tryGlide_39 : decode cX5_tryGlide 39 = .ok (.putfield 24, 3) := by decide +kernel
theorem dX5_tryGlide_42 : decode cX5_tryGlide 42 = .ok (.aload_n 0, 1) := by decide +kernel
theorem dX5_tryGlide_43 : decode cX5_tryGlide 43 = .ok (.iconst 0, 1) := by decide +kernel
theorem dX5_tryGlide_44 : decode cX5_tryGlide 44 = .ok (.putfield 27, 3) := by decide +kernel
theorem dX5_tryGlide_47 : decode cX5_tryGlide 47 = .ok (.iconst 1, 1) := by decide +kernel
theorem dX5_tryGlide_48 : decode cX5_tryGlide 48 = .ok (.istore 7, 2) := by decide +kernel
theorem dX5_tryGlide_50 : decode cX5_tryGlide 50 = .ok (.iload 7, 2) := by decide +kernel
theorem dX5_tryGlide_52 : decode cX5_tryGlide 52 = .ok (.iload 5, 2) := by decide +kernel
theorem dX5_tryGlide_54 : decode cX5_tryGlide 54 = .ok (.if_icmp .gt 105, 3) := by decide +kernel
theorem dX5_tryGlide_57 : decode cX5_tryGlide 57 = .ok (.iload 7, 2) := by decide +kernel
theorem dX5_tryGlide_59 : decode cX5_tryGlide 59 = .ok (.iload_n 2, 1) := by decide +kernel
theorem dX5_tryGlide_60 : decode cX5_tryGlide 60 = .ok (.iload 5, 2) := by decide +kernel
theorem dX5_tryGlide_62 : decode cX5_tryGlide 62 = .ok (.invokestatic 134, 3) := by decide +kernel
theorem dX5_tryGlide_65 : decode cX5_tryGlide 65 = .ok (.istore 8, 2) := by decide +kernel
theorem dX5_tryGlide_67 : decode cX5_tryGlide 67 = .ok (.iload 7, 2) := by decide +kernel
theorem dX5_tryGlide_69 : decode cX5_tryGlide 69 = .ok (.iload_n 3, 1) := by decide +kernel
theorem dX5_tryGlide_70 : decode cX5_tryGlide 70 = .ok (.iload 5, 2) := by decide +kernel
theorem dX5_tryGlide_72 : decode cX5_tryGlide 72 = .ok (.invokestatic 134, 3) := by decide +kernel
theorem dX5_tryGlide_75 : decode cX5_tryGlide 75 = .ok (.istore 9, 2) := by decide +kernel
theorem dX5_tryGlide_77 : decode cX5_tryGlide 77 = .ok (.aload_n 0, 1) := by decide +kernel
theorem dX5_tryGlide_78 : decode cX5_tryGlide 78 = .ok (.aload_n 0, 1) := by decide +kernel
theorem dX5_tryGlide_79 : decode cX5_tryGlide 79 = .ok (.iload_n 1, 1) := by decide +kernel
theorem dX5_tryGlide_80 : decode cX5_tryGlide 80 = .ok (.iload 6, 2) := by decide +kernel
theorem dX5_tryGlide_82 : decode cX5_tryGlide 82 = .ok (.iload 8, 2) := by decide +kernel
theorem dX5_tryGlide_84 : decode cX5_tryGlide 84 = .ok (.iload 9, 2) := by decide +kernel
theorem dX5_tryGlide_86 : decode cX5_tryGlide 86 = .ok (.invokevirtual 137, 3) := by decide +kernel
theorem dX5_tryGlide_89 : decode cX5_tryGlide 89 = .ok (.putfield 21, 3) := by decide +kernel
theorem dX5_tryGlide_92 : decode cX5_tryGlide 92 = .ok (.aload_n 0, 1) := by decide +kernel
theorem dX5_tryGlide_93 : decode cX5_tryGlide 93 = .ok (.getfield 21, 3) := by decide +kernel
theorem dX5_tryGlide_96 : decode cX5_tryGlide 96 = .ok (.iconst (-1), 1) := by decide +kernel
theorem dX5_tryGlide_97 : decode cX5_tryGlide 97 = .ok (.if_icmp .ne 37, 3) := by decide +kernel
theorem dX5_tryGlide_100 : decode cX5_tryGlide 100 = .ok (.aload 4, 2) := by decide +kernel
theorem dX5_tryGlide_102 : decode cX5_tryGlide 102 = .ok (.getfield 71, 3) := by decide +kernel
theorem dX5_tryGlide_105 : decode cX5_tryGlide 105 = .ok (.iload 8, 2) := by decide +kernel
theorem dX5_tryGlide_107 : decode cX5_tryGlide 107 = .ok (.iadd, 1) := by decide +kernel
theorem dX5_tryGlide_108 : decode cX5_tryGlide 108 = .ok (.sipush 999, 3) := by decide +kernel
theorem dX5_tryGlide_111 : decode cX5_tryGlide 111 = .ok (.invokestatic 141, 3) := by decide +kernel
theorem dX5_tryGlide_114 : decode cX5_tryGlide 114 = .ok (.ifCond .eq 20, 3) := by decide +kernel
theorem dX5_tryGlide_117 : decode cX5_tryGlide 117 = .ok (.aload 4, 2) := by decide +kernel
theorem dX5_tryGlide_119 : decode cX5_tryGlide 119 = .ok (.getfield 86, 3) := by decide +kernel
theorem dX5_tryGlide_122 : decode cX5_tryGlide 122 = .ok (.iload 9, 2) := by decide +kernel
theorem dX5_tryGlide_124 : decode cX5_tryGlide 124 = .ok (.iadd, 1) := by decide +kernel
theorem dX5_tryGlide_125 : decode cX5_tryGlide 125 = .ok (.sipush 999, 3) := by decide +kernel
theorem dX5_tryGlide_128 : decode cX5_tryGlide 128 = .ok (.invokestatic 141, 3) := by decide +kernel
theorem dX5_tryGlide_131 : decode cX5_tryGlide 131 = .ok (.ifCond .ne 4, 3) := by decide +kernel
theorem dX5_tryGlide_134 : decode cX5_tryGlide 134 = .ok (.return_, 1) := by decide +kernel
theorem dX5_tryGlide_135 : decode cX5_tryGlide 135 = .ok (.aload_n 0, 1) := by decide +kernel
theorem dX5_tryGlide_136 : decode cX5_tryGlide 136 = .ok (.iload 7, 2) := by decide +kernel
theorem dX5_tryGlide_138 : decode cX5_tryGlide 138 = .ok (.putfield 17, 3) := by decide +kernel
theorem dX5_tryGlide_141 : decode cX5_tryGlide 141 = .ok (.aload_n 0, 1) := by decide +kernel
theorem dX5_tryGlide_142 : decode cX5_tryGlide 142 = .ok (.iload 8, 2) := by decide +kernel
theorem dX5_tryGlide_144 : decode cX5_tryGlide 144 = .ok (.putfield 24, 3) := by decide +kernel
theorem dX5_tryGlide_147 : decode cX5_tryGlide 147 = .ok (.aload_n 0, 1) := by decide +kernel
theorem dX5_tryGlide_148 : decode cX5_tryGlide 148 = .ok (.iload 9, 2) := by decide +kernel
theorem dX5_tryGlide_150 : decode cX5_tryGlide 150 = .ok (.putfield 27, 3) := by decide +kernel
theorem dX5_tryGlide_153 : decode cX5_tryGlide 153 = .ok (.iinc 7 1, 3) := by decide +kernel
theorem dX5_tryGlide_156 : decode cX5_tryGlide 156 = .ok (.goto (-106), 3) := by decide +kernel
theorem dX5_tryGlide_159 : decode cX5_tryGlide 159 = .ok (.return_, 1) := by decide +kernel
set_option maxRecDepth 100000 in
theorem pq91 : Cond.initialized RJ6 ∈ pw := pw_mem (i := 91) (by decide +kernel) rfl
set_option maxRecDepth 100000 in
theorem pq127 : Cond.fieldLink RX5 162 "MaskTouch$Mask" "words" "[J" ∈ pw := pw_mem (i := 127) (by decide +kernel) rfl
set_option maxRecDepth 100000 in
theorem pq170 : Cond.fieldLink RX5 56 "MaskTouch$Body" "mask" "I" ∈ pw := pw_mem (i := 170) (by decide +kernel) rfl
set_option maxRecDepth 100000 in
theorem pq179 : Cond.fieldLink RX5 61 "MaskTouch$Body" "flip" "I" ∈ pw := pw_mem (i := 179) (by decide +kernel) rfl
set_option maxRecDepth 100000 in
theorem pq214 : Cond.fieldLink RX5 53 "MaskTouch$Field" "masks" "[LMaskTouch$Mask;" ∈ pw := pw_mem (i := 214) (by decide +kernel) rfl
set_option maxRecDepth 100000 in
theorem pq276 : Cond.fieldLink RX5 17 "MaskTouch$Scene" "steps" "I" ∈ pw := pw_mem (i := 276) (by decide +kernel) rfl
set_option maxRecDepth 100000 in
theorem pq278 : Cond.fieldLink RX5 21 "MaskTouch$Scene" "stopper" "I" ∈ pw := pw_mem (i := 278) (by decide +kernel) rfl
set_option maxRecDepth 100000 in
theorem pq280 : Cond.fieldLink RX5 24 "MaskTouch$Scene" "goneX" "I" ∈ pw := pw_mem (i := 280) (by decide +kernel) rfl
set_option maxRecDepth 100000 in
theorem pq281 : Cond.fieldLink RX5 27 "MaskTouch$Scene" "goneY" "I" ∈ pw := pw_mem (i := 281) (by decide +kernel) rfl
set_option maxRecDepth 100000 in
theorem pq282 : Cond.fieldLink RX5 30 "MaskTouch$Scene" "found" "I" ∈ pw := pw_mem (i := 282) (by decide +kernel) rfl
set_option maxRecDepth 100000 in
theorem pq284 : Cond.fieldLink RX5 33 "MaskTouch$Scene" "foundX" "I" ∈ pw := pw_mem (i := 284) (by decide +kernel) rfl
set_option maxRecDepth 100000 in
theorem pq286 : Cond.fieldLink RX5 36 "MaskTouch$Scene" "foundY" "I" ∈ pw := pw_mem (i := 286) (by decide +kernel) rfl
set_option maxRecDepth 100000 in
theorem pq608 : Cond.methodLink RX5 64 yX3_becomeFlipped ∈ pw := pw_mem (i := 608) (by decide +kernel) rfl
set_option maxRecDepth 100000 in
theorem pq609 : Cond.instanceMethod yX3_becomeFlipped ∈ pw := pw_mem (i := 609) (by decide +kernel) rfl
set_option maxRecDepth 100000 in
theorem pq610 : Cond.selects RX3 yX3_becomeFlipped yX3_becomeFlipped ∈ pw := pw_mem (i := 610) (by decide +kernel) rfl
set_option maxRecDepth 100000 in
theorem pq611 : Cond.code yX3_becomeFlipped cX3_becomeFlipped 9 none ∈ pw := pw_mem (i := 611) (by rfl) rfl
set_option maxRecDepth 100000 in
theorem pq744 : Cond.static yX6_wayLength ∈ pw := pw_mem (i := 744) (by decide +kernel) rfl
set_option maxRecDepth 100000 in
theorem pq745 : Cond.code yX6_wayLength cX6_wayLength 2 (some .int) ∈ pw := pw_mem (i := 745) (by rfl) rfl
set_option maxRecDepth 100000 in
theorem pq752 : Cond.methodLink RX5 130 yX5_stoppersAhead ∈ pw := pw_mem (i := 752) (by decide +kernel) rfl
set_option maxRecDepth 100000 in
theorem pq753 : Cond.instanceMethod yX5_stoppersAhead ∈ pw := pw_mem (i := 753) (by decide +kernel) rfl
set_option maxRecDepth 100000 in
theorem pq754 : Cond.selects RX5 yX5_stoppersAhead yX5_stoppersAhead ∈ pw := pw_mem (i := 754) (by decide +kernel) rfl
set_option maxRecDepth 100000 in
theorem pq755 : Cond.code yX5_stoppersAhead cX5_stoppersAhead 6 (some .int) ∈ pw := pw_mem (i := 755) (by rfl) rfl
set_option maxRecDepth 100000 in
theorem pq779 : Cond.static yX6_wayPart ∈ pw := pw_mem (i := 779) (by decide +kernel) rfl
set_option maxRecDepth 100000 in
theorem pq780 : Cond.code yX6_wayPart cX6_wayPart 3 (some .int) ∈ pw := pw_mem (i := 780) (by rfl) rfl
set_option maxRecDepth 100000 in
theorem pq784 : Cond.methodLink RX5 137 yX5_leastTouched ∈ pw := pw_mem (i := 784) (by decide +kernel) rfl
set_option maxRecDepth 100000 in
theorem pq785 : Cond.instanceMethod yX5_leastTouched ∈ pw := pw_mem (i := 785) (by decide +kernel) rfl
set_option maxRecDepth 100000 in
theorem pq786 : Cond.selects RX5 yX5_leastTouched yX5_leastTouched ∈ pw := pw_mem (i := 786) (by decide +kernel) rfl
set_option maxRecDepth 100000 in
theorem pq787 : Cond.code yX5_leastTouched cX5_leastTouched 6 (some .int) ∈ pw := pw_mem (i := 787) (by rfl) rfl
set_option maxRecDepth 100000 in
theorem pq803 : Cond.methodLink RX5 153 yJ6_bitCount_0f7a4 ∈ pw := pw_mem (i := 803) (by decide +kernel) rfl
set_option maxRecDepth 100000 in
theorem pq804 : Cond.static yJ6_bitCount_0f7a4 ∈ pw := pw_mem (i := 804) (by decide +kernel) rfl
set_option maxRecDepth 100000 in
theorem pq805 : Cond.code yJ6_bitCount_0f7a4 cJ6_bitCount_0f7a4 1 (some .int) ∈ pw := pw_mem (i := 805) (by rfl) rfl
set_option maxRecDepth 100000 in
theorem pq809 : Cond.methodLink RX5 159 yX5_touchesIfMoved ∈ pw := pw_mem (i := 809) (by decide +kernel) rfl
set_option maxRecDepth 100000 in
theorem pq810 : Cond.instanceMethod yX5_touchesIfMoved ∈ pw := pw_mem (i := 810) (by decide +kernel) rfl
set_option maxRecDepth 100000 in
theorem pq811 : Cond.selects RX5 yX5_touchesIfMoved yX5_touchesIfMoved ∈ pw := pw_mem (i := 811) (by decide +kernel) rfl
set_option maxRecDepth 100000 in
theorem pq812 : Cond.code yX5_touchesIfMoved cX5_touchesIfMoved 5 (some .boolean) ∈ pw := pw_mem (i := 812) (by rfl) rfl
set_option maxRecDepth 100000 in
theorem pq990 : Cond.methodLink RX5 166 yX3_shiftedLow ∈ pw := pw_mem (i := 990) (by decide +kernel) rfl
set_option maxRecDepth 100000 in
theorem pq991 : Cond.methodLink RX5 170 yX3_shiftedHigh ∈ pw := pw_mem (i := 991) (by decide +kernel) rfl
set_option maxRecDepth 100000 in
theorem pq992 : Cond.methodLink RX5 173 yX3_lowestBit ∈ pw := pw_mem (i := 992) (by decide +kernel) rfl
set_option maxRecDepth 100000 in
theorem pq1048 : Cond.methodLink RX5 177 Lib.Math.abs.name ∈ pw := pw_mem (i := 1048) (by decide +kernel) rfl
set_option maxHeartbeats 4000000 in
set_option maxRecDepth 100000 in
theorem s_X5_redraw (l : Launch) (dC : Nat → ClassId) (dI : Nat → Nat → Nat) (cs : Nat → ClassId) (L : List Nat) (K G : Nat → Nat) (Q : Nat → Nat → Option Nat) (hQ : Sv L K G Q) (x0 m0 : Nat) (tx : GT) (tm : GT × Int) (sz : Nat) (I : Nat → Nat → Int32) (J : Nat → Nat → Int64) (hI : Iv L K x0 m0 tx tm I) (p0 : Nat) (hLp0 : p0 ∈ L) (hKp0 : K p0 = 5) : Met l yX5_redraw (.code yX5_redraw cX5_redraw 3 none :: pw) ({ frames := 4, cells := 0, slots := 0, locals := 109 }) (sP (dC, dI) cs [.ref p0] sz L K I J Q) (va_Qv (fun (_ : Unit) => True) (fun _ t => sB (dC, dI) cs L K Q (fun I1 J1 => Iv L K x0 m0 tx tm I1 ∧ (∀ b, ¬ ((K b = 3) ∧ G b / 100 = 2) → I1 b = I b) ∧ (∀ c : Fx, okF c → cxF Q I J (nf Q p0) c → cxS Q I1 J1 p0 c) ∧ (∀ b, ¬ (K b = 12 ∧ (G b / 100 = 2)) → J1 b = J b)) t) (fun q => q ∈ L ∨ sz ≤ q)) 0 0 (fun q => q ∈ L ∨ sz ≤ q) := by
  refine Met.ofW (cc := cX5_redraw) (maxL := 3) (ret := none) (by decide +kernel) rfl ?_
  intro p e s m args below meth c s₁ B hml hv
  obtain ⟨rfl, hsz, hP, hK, hD0, hN⟩ := hv
  have hx := B.exec
  have hb := B.bytes
  have hr := B.returns
  have hts := fun w (h : w ∈ pw) => atoms_spec (ws := Cond.code yX5_redraw cX5_redraw 3 none :: pw) B.pre w (List.mem_cons_of_mem _ h)
  have hown : s.vm.findClass RX5 = some m.cls := findClass_of_methodNamed B.named
  have hlocks := B.notSynchronized
  subst hsz
  have hBB : 999 ≤ tm.2 ∧ tm.2 ≤ 6000000 := hI.2.2.2.2.1
  have dj_J : (∀ b, ¬ (K b = 12 ∧ (G b / 100 = 2)) → J b = J b) := fun _ _ => rfl
  have fr_I : ∀ b, ¬ ((K b = 3) ∧ G b / 100 = 2) → I b = I b := fun _ _ => rfl
  obtain ⟨A, hAe⟩ : ∃ A : Nat → Prop, A = (fun q => q ∈ L ∨ s.heap.size ≤ q) := ⟨_, rfl⟩
  rw [← hAe]
  have hAL : ∀ q, q ∈ L → A q := fun q h => by rw [hAe]; exact Or.inl h
  have hA : ∀ q, s.heap.size ≤ q → A q := fun q h => by rw [hAe]; exact Or.inr h
  have hD : ∀ F, va_D A (va_pl L F) := fun F => (hD0 F).weaken (fun k q hk _ => hAL _ (pl_mem hk))
  obtain ⟨H, hHe⟩ : ∃ H : Heap, H = s.heap := ⟨_, rfl⟩
  have hS : va_S A s.heap H [] := by rw [hHe]; exact va_S.rf
  rw [← hHe] at hP
  have hl := lv_entry ([.ref p0]) (n := 3) (Nat.le_of_ble_eq_true rfl)
  rw [lg_entry_eq]
  generalize (lg_sl ([.ref p0]) ++ List.replicate (3 - (lg_sl ([.ref p0])).length) Slot.unset).toArray = ls at hl ⊢
  have hl : lv_has ls 3 [(0, .ref p0)] := hl
  rw [← hHe]
  refine namedW (fun R Qz hR hQz => ?_)
  refine lv_iconst (v := 0) hx hb dX5_redraw_0 (by decide +kernel) ?_
  refine lv_istore_n (lv' := [(1, .int 0), (0, .ref p0)]) hx hb dX5_redraw_1 rfl hl (by decide) rfl (fun ls hl => ?_)
  have key2 := blocks (fun n => ∀ (v2_1 : Int32) (I2 : Nat → Nat → Int32) (J2 : Nat → Nat → Int64) (H : Heap) (lo : List Loc) (ls : Array Slot), (11 - v2_1.toInt).toNat = n → ((0) ≤ v2_1.toInt ∧ v2_1.toInt ≤ 10) → Iv L K x0 m0 tx tm I2 → (∀ b, ¬ ((K b = 3) ∧ G b / 100 = 2) → I2 b = I b) → (∀ b, ¬ (K b = 12 ∧ (G b / 100 = 2)) → J2 b = J b) → (∀ c : Fx, okF c → cxF Q I J (nf Q p0) c → ∀ j : Nat, j < v2_1.toInt.toNat → j < (c.1 1).toInt.toNat → cxM Q I2 J2 (sm Q p0 j) (bw_ c j) (bh_ c j) (mkw (shp c j))) → va_P (dC, dI) vwCl (Wd cs L K I2 J2 Q) H → va_S A s.heap H lo → lv_has ls 3 [(0, .ref p0), (1, .int v2_1)] → W p l e R s m (([.ref p0] : List Value).toArray) below meth c H lo 0 0 Qz (F0 m 2 ls [])) (by
    intro n ih2
    intro v2_1 I2 J2 H lo ls hmu2 bv2_1 hI2 fr_I2 dj_J2 h2 hP hS hl
    refine lv_iload_n hx hb dX5_redraw_2 rfl (lv_at hl 1 rfl) ?_
    refine lv_aload_n hx hb dX5_redraw_3 rfl (lv_at hl 0 rfl) ?_
    obtain ⟨y4, ey4, hLy4, hKy4, hGy4⟩ := oQ_5_0 (Sv_at hQ hLp0 hKp0)
    refine p_get (v := .ref y4) hx hb hts inX5 hown hK hP hLp0 hKp0 rfl rfl 0 (by decide) (hts _ pq274) (congrArg (fun q => some (va_rf q)) ey4) dX5_redraw_4 ?_
    refine p_get hx hb hts inX1 hown hK hP hLy4 hKy4 rfl rfl 3 (by decide) (hts _ pq225) rfl dX5_redraw_7 ?_
    refine lv_topi (fun z7 ez7 => ?_)
    have cgz7 := congrArg Int32.toInt ez7
    have bz7 := oI_1_3 (Iv_at hI2 hLy4 hKy4)
    rw [← ez7] at bz7
    refine lv_icmp_ge (tgt := 54) hx hb dX5_redraw_10 (by decide) (fun c10 => ?_) (fun c10 => ?_)
    · have t10 := tq_le (k := z7.toInt) (q := v2_1.toInt) c10 rfl rfl
      subst hR; subst hQz
      exact W.vret hx hb hr (fun t ht hW => ⟨⟨(), rfl, trivial, ⟨I2, J2, ⟨hI2, fr_I2, (fun c ok h j hj => h2 c ok h j (by rw [nf_of ey4] at h; have en : z7 = c.1 1 := (ez7.trans (congrFun (fr_I2 y4 (fun z => by have q := hKy4; omega)) 3)).trans h.2.1; rw [← en] at hj; omega) hj), dj_J2⟩, by rw [ht]; exact hP⟩⟩, hS.F ht⟩) hS.2.2 dX5_redraw_54
    · have t10 := tq_nle (k := z7.toInt) (q := v2_1.toInt) c10 rfl rfl
      refine lv_aload_n hx hb dX5_redraw_13 rfl (lv_at hl 0 rfl) ?_
      refine p_get (v := .ref y4) hx hb hts inX5 hown hK hP hLp0 hKp0 rfl rfl 0 (by decide) (hts _ pq274) (congrArg (fun q => some (va_rf q)) ey4) dX5_redraw_14 ?_
      obtain ⟨y17, ey17, hLy17, hKy17, hGy17⟩ := oQ_1_1 (Sv_at hQ hLy4 hKy4)
      refine p_get (v := .ref y17) hx hb hts inX1 hown hK hP hLy4 hKy4 rfl rfl 1 (by decide) (hts _ pq218) (congrArg (fun q => some (va_rf q)) ey17) dX5_redraw_17 ?_
      refine lv_iload_n hx hb dX5_redraw_20 rfl (lv_at hl 1 rfl) ?_
      obtain ⟨y21, ey21, hLy21, hKy21, hGy21⟩ := (Sv_at hQ hLy17 hKy17).1 v2_1.toNatClampNeg (clamp_lt (n := 10) (in_of (by omega) (by omega)))
      refine p_aaldR hx hb hK hP 4 hLy17 hKy17 rfl rfl (in_of (by omega) (by omega)) ey21 dX5_redraw_21 ?_
      refine lv_astore_n (lv' := [(2, .ref y21), (0, .ref p0), (1, .int v2_1)]) hx hb dX5_redraw_22 rfl hl (by decide) rfl (fun ls hl => ?_)
      refine lv_aload_n hx hb dX5_redraw_23 rfl (lv_at hl 1 rfl) ?_
      obtain ⟨y24, ey24, hLy24, hKy24, hGy24⟩ := oQ_5_1 (Sv_at hQ hLp0 hKp0)
      refine p_get (v := .ref y24) hx hb hts inX5 hown hK hP hLp0 hKp0 rfl rfl 1 (by decide) (hts _ pq275) (congrArg (fun q => some (va_rf q)) ey24) dX5_redraw_24 ?_
      refine lv_iload_n hx hb dX5_redraw_27 rfl (lv_at hl 2 rfl) ?_
      obtain ⟨y28, ey28, hLy28, hKy28, hGy28⟩ := (Sv_at hQ hLy24 hKy24).1 v2_1.toNatClampNeg (clamp_lt (n := 10) (in_of (by omega) (by omega)))
      have hjy28 : v2_1.toNatClampNeg < 10 := clamp_lt (i := v2_1) (n := 10) (in_of (by omega) (by omega))
      refine p_aaldR hx hb hK hP 5 hLy24 hKy24 rfl rfl (in_of (by omega) (by omega)) ey28 dX5_redraw_28 ?_
      refine lv_aload_n hx hb dX5_redraw_29 rfl (lv_at hl 1 rfl) ?_
      refine p_get (v := .ref y4) hx hb hts inX5 hown hK hP hLp0 hKp0 rfl rfl 0 (by decide) (hts _ pq274) (congrArg (fun q => some (va_rf q)) ey4) dX5_redraw_30 ?_
      obtain ⟨y33, ey33, hLy33, hKy33, hGy33⟩ := oQ_1_0 (Sv_at hQ hLy4 hKy4)
      refine p_get (v := .ref y33) hx hb hts inX1 hown hK hP hLy4 hKy4 rfl rfl 0 (by decide) (hts _ pq214) (congrArg (fun q => some (va_rf q)) ey33) dX5_redraw_33 ?_
      refine lv_aload_n hx hb dX5_redraw_36 rfl (lv_at hl 0 rfl) ?_
      refine p_get hx hb hts inX0 hown hK hP hLy21 hKy21 rfl rfl 0 (by decide) (hts _ pq170) rfl dX5_redraw_37 ?_
      refine lv_topi (fun z37 ez37 => ?_)
      have bz37 := oI_0_0 (Iv_at hI2 hLy21 hKy21)
      rw [← ez37] at bz37
      obtain ⟨y40, ey40, hLy40, hKy40, hGy40⟩ := (Sv_at hQ hLy33 hKy33).1 z37.toNatClampNeg (clamp_lt (n := 8) (in_of (by omega) (by omega)))
      have hjy40 : z37.toNatClampNeg < 8 := clamp_lt (i := z37) (n := 8) (in_of (by omega) (by omega))
      refine p_aaldR hx hb hK hP 3 hLy33 hKy33 rfl rfl (in_of (by omega) (by omega)) ey40 dX5_redraw_40 ?_
      refine lv_aload_n hx hb dX5_redraw_41 rfl (lv_at hl 0 rfl) ?_
      refine p_get hx hb hts inX0 hown hK hP hLy21 hKy21 rfl rfl 3 (by decide) (hts _ pq179) rfl dX5_redraw_42 ?_
      refine lv_topi (fun z42 ez42 => ?_)
      have bz42 := oI_0_3 (Iv_at hI2 hLy21 hKy21)
      rw [← ez42] at bz42
      refine sw_v (Z := (fun I1 J1 => Iv L K x0 m0 tx tm I1 ∧ (∀ b, ¬ (b = y28) → I1 b = I2 b) ∧ (okm (I2 y40 0).toInt (I2 y40 1).toInt (J2 (wo Q y40)) → msr (J2 (wo Q y40)) (I2 y40 3).toInt (I2 y40 4).toInt (I2 y40 5).toInt (I2 y40 6).toInt (I2 y40 7).toInt → mkd Q I1 J1 y28 (I2 y40 0) (I2 y40 1) (flipD (I2 y40 0).toInt (I2 y40 1).toInt z42.toInt (J2 (wo Q y40)))) ∧ (∀ b, ¬ (K b = 12 ∧ (G b = G y28)) → J1 b = J2 b))) (va_runV (As := [.ref y40, .int z42]) (rest := []) ⟨hx, hb, hml, hown, hts⟩ (s_X3_becomeFlipped l dC dI cs L K G Q hQ x0 m0 tx tm H.size I2 J2 hI2 y28 hLy28 hKy28 y40 hLy40 hKy40 z42 ⟨by omega, by omega⟩ (by omega)) (cwV 2 hts (gV pq608 pq609 pq610 pq76 pq611) rfl rfl rfl (by decide +kernel) ⟨(by rw [hR]; exact (Nat.le_of_ble_eq_true rfl)), (by rw [hR]; exact (Nat.le_of_ble_eq_true rfl))⟩) (sP_V hP hD hK hN hLy28 hKy28 rfl rfl) rfl rfl hl.1 rfl (lv_room (Nat.le_of_ble_eq_true rfl)) dX5_redraw_45 ⟨(by rw [hR]; exact (Nat.le_of_ble_eq_true rfl)), (by rw [hR]; exact (Nat.le_of_ble_eq_true rfl))⟩) hS hAL hA (fun Iz45 Jz45 H locs hz45 hIz45 hP hS => ?_)
      obtain ⟨hIz45, frc45, jz45, djc45⟩ := hIz45
      have dj_Jz45 : (∀ b, ¬ (K b = 12 ∧ (G b / 100 = 2)) → Jz45 b = J b) := fun b hc => (djc45 b (fun z => hc (by exact ⟨z.1, by have z2 := z.2; omega⟩))).trans (dj_J2 b hc)
      have fr_Iz45 : ∀ b, ¬ ((K b = 3) ∧ G b / 100 = 2) → Iz45 b = I b := fun b q => (frc45 b (fun z => q (by rw [z]; exact ⟨by have := hKy28; omega, by omega⟩))).trans (fr_I2 b q)
      obtain ⟨z48, ez48⟩ : ∃ y : Int32, y = v2_1 + 1 := ⟨_, rfl⟩
      refine lv_iinc (v := z48) (lv' := [(1, .int z48), (2, .ref y21), (0, .ref p0)]) hx hb dX5_redraw_48 hl (k := 2) rfl (by rw [ez48]; rfl) (by decide) rfl (fun ls hl => ?_)
      have bz48 := tq_add (k := v2_1.toInt) (q := 1) ez48 rfl (by decide +kernel) (by omega) (by omega)
      refine lv_goto (tgt := 2) hx hb dX5_redraw_51 (by decide) ?_
      exact ih2 _ (by omega) z48 Iz45 Jz45 _ _ _ rfl ⟨by omega, by omega⟩ hIz45 fr_Iz45 dj_Jz45 (fun c ok h j hj hN => by have eS : sm Q p0 v2_1.toInt.toNat = y28 := sm_of ey24 ey28; have eB : fb Q y4 v2_1.toInt.toNat = y21 := fb_of ey17 ey21; have eM : fm Q y4 z37.toInt.toNat = y40 := fm_of ey33 ey40; rw [nf_of ey4] at h; have en : z7 = c.1 1 := (ez7.trans (congrFun (fr_I2 y4 (fun z => by have q := hKy4; omega)) 3)).trans h.2.1; rw [← en] at hN; refine rd_step hQ hLp0 hKp0 hLy4 hKy4 hGy4 (i := v2_1.toInt.toNat) (by omega) ok h (by rw [← en]; omega) (fun j hj => h2 c ok (by rw [nf_of ey4]; exact h) j hj (by rw [← en]; omega)) fr_I2 dj_J2 (zm := z37) (zf := z42) (by rw [eB]; exact ez37) (by rw [eB]; exact ez42) (by rw [eS]; exact frc45) (by rw [eS, eM]; exact jz45) (by rw [eS]; exact djc45) j (by omega)) hP hS (lv_sub hl [2, 0] rfl))
  exact key2 _ 0 I J _ _ _ rfl ⟨by decide +kernel, by decide +kernel⟩ hI fr_I dj_J (fun c ok h j hj => absurd hj (by rw [show (0 : Int32).toInt.toNat = 0 from by decide +kernel]; omega)) hP hS (lv_sub hl [1, 0] rfl)

set_option maxHeartbeats 4000000 in
set_option maxRecDepth 100000 in
theorem s_X5_finishGlide (l : Launch) (dC : Nat → ClassId) (dI : Nat → Nat → Nat) (cs : Nat → ClassId) (L : List Nat) (K G : Nat → Nat) (Q : Nat → Nat → Option Nat) (hQ : Sv L K G Q) (x0 m0 : Nat) (tx : GT) (tm : GT × Int) (sz : Nat) (I : Nat → Nat → Int32) (J : Nat → Nat → Int64) (hI : Iv L K x0 m0 tx tm I) (p0 : Nat) (hLp0 : p0 ∈ L) (hKp0 : K p0 = 5) (p1 : Int32) (bp1 : (0) ≤ p1.toInt ∧ p1.toInt ≤ 9) (hg : glOK tm.2 Q I p0 p1) : Met l yX5_finishGlide (.code yX5_finishGlide cX5_finishGlide 2 none :: pw) ({ frames := 0, cells := 0, slots := 0, locals := 0 }) (sP (dC, dI) cs [.ref p0, .int p1] sz L K I J Q) (va_Qv (fun (_ : Unit) => True) (fun _ t => sB (dC, dI) cs L K Q (fun I1 J1 => Iv L K x0 m0 tx tm I1 ∧ (∀ b, ¬ (K b = 0) → I1 b = I b) ∧ (∃ Im, Im = va_up I (fb Q (nf Q p0) p1.toInt.toNat) (upd (I (fb Q (nf Q p0) p1.toInt.toNat)) 1 (I (fb Q (nf Q p0) p1.toInt.toNat) 1 + I p0 4)) ∧ I1 = va_up Im (fb Q (nf Q p0) p1.toInt.toNat) (upd (Im (fb Q (nf Q p0) p1.toInt.toNat)) 2 (I (fb Q (nf Q p0) p1.toInt.toNat) 2 + I p0 5))) ∧ J1 = J) t) (fun q => q ∈ L ∨ sz ≤ q)) 0 0 (fun q => q ∈ L ∨ sz ≤ q) := by
  refine Met.ofW (cc := cX5_finishGlide) (maxL := 2) (ret := none) (by decide +kernel) rfl ?_
  intro p e s m args below meth c s₁ B hml hv
  obtain ⟨rfl, hsz, hP, hK, hD0, hN⟩ := hv
  have hx := B.exec
  have hb := B.bytes
  have hr := B.returns
  have hts := fun w (h : w ∈ pw) => atoms_spec (ws := Cond.code yX5_finishGlide cX5_finishGlide 2 none :: pw) B.pre w (List.mem_cons_of_mem _ h)
  have hown : s.vm.findClass RX5 = some m.cls := findClass_of_methodNamed B.named
  have hlocks := B.notSynchronized
  subst hsz
  have hBB : 999 ≤ tm.2 ∧ tm.2 ≤ 6000000 := hI.2.2.2.2.1
  have dj_J : J = J := rfl
  have fr_I : ∀ b, ¬ (K b = 0) → I b = I b := fun _ _ => rfl
  obtain ⟨A, hAe⟩ : ∃ A : Nat → Prop, A = (fun q => q ∈ L ∨ s.heap.size ≤ q) := ⟨_, rfl⟩
  rw [← hAe]
  have hAL : ∀ q, q ∈ L → A q := fun q h => by rw [hAe]; exact Or.inl h
  have hA : ∀ q, s.heap.size ≤ q → A q := fun q h => by rw [hAe]; exact Or.inr h
  have hD : ∀ F, va_D A (va_pl L F) := fun F => (hD0 F).weaken (fun k q hk _ => hAL _ (pl_mem hk))
  obtain ⟨H, hHe⟩ : ∃ H : Heap, H = s.heap := ⟨_, rfl⟩
  have hS : va_S A s.heap H [] := by rw [hHe]; exact va_S.rf
  rw [← hHe] at hP
  have hl := lv_entry ([.ref p0, .int p1]) (n := 2) (Nat.le_of_ble_eq_true rfl)
  rw [lg_entry_eq]
  generalize (lg_sl ([.ref p0, .int p1]) ++ List.replicate (2 - (lg_sl ([.ref p0, .int p1])).length) Slot.unset).toArray = ls at hl ⊢
  have hl : lv_has ls 2 [(0, .ref p0), (1, .int p1)] := hl
  rw [← hHe]
  refine namedW (fun R Qz hR hQz => ?_)
  refine lv_aload_n hx hb dX5_finishGlide_0 rfl (lv_at hl 0 rfl) ?_
  obtain ⟨y1, ey1, hLy1, hKy1, hGy1⟩ := oQ_5_0 (Sv_at hQ hLp0 hKp0)
  refine p_get (v := .ref y1) hx hb hts inX5 hown hK hP hLp0 hKp0 rfl rfl 0 (by decide) (hts _ pq274) (congrArg (fun q => some (va_rf q)) ey1) dX5_finishGlide_1 ?_
  obtain ⟨y4, ey4, hLy4, hKy4, hGy4⟩ := oQ_1_1 (Sv_at hQ hLy1 hKy1)
  refine p_get (v := .ref y4) hx hb hts inX1 hown hK hP hLy1 hKy1 rfl rfl 1 (by decide) (hts _ pq218) (congrArg (fun q => some (va_rf q)) ey4) dX5_finishGlide_4 ?_
  refine lv_iload_n hx hb dX5_finishGlide_7 rfl (lv_at hl 1 rfl) ?_
  obtain ⟨y8, ey8, hLy8, hKy8, hGy8⟩ := (Sv_at hQ hLy4 hKy4).1 p1.toNatClampNeg (clamp_lt (n := 10) (in_of (by omega) (by omega)))
  refine p_aaldR hx hb hK hP 4 hLy4 hKy4 rfl rfl (in_of (by omega) (by omega)) ey8 dX5_finishGlide_8 ?_
  have gg := hg y1 y4 y8 ey1 ey4 ey8
  unfold bnd at gg
  refine lv_dup hx hb dX5_finishGlide_9 rfl ?_
  refine p_get hx hb hts inX0 hown hK hP hLy8 hKy8 rfl rfl 1 (by decide) (hts _ pq173) rfl dX5_finishGlide_10 ?_
  refine lv_topi (fun z10 ez10 => ?_)
  have cgz10 := congrArg Int32.toInt ez10
  have bz10 := oI_0_1 (Iv_at hI hLy8 hKy8)
  rw [← ez10] at bz10
  refine lv_aload_n hx hb dX5_finishGlide_13 rfl (lv_at hl 0 rfl) ?_
  refine p_get hx hb hts inX5 hown hK hP hLp0 hKp0 rfl rfl 4 (by decide) (hts _ pq280) rfl dX5_finishGlide_14 ?_
  refine lv_topi (fun z14 ez14 => ?_)
  have cgz14 := congrArg Int32.toInt ez14
  refine lv_iadd hx hb dX5_finishGlide_17 ?_
  refine lv_topi (fun z17 ez17 => ?_)
  have rg17z14 := fb_rng z14
  have bz17 := tq_addw (k := z10.toInt) (q := z14.toInt) ez17 rfl rfl
  have rgz17 := fb_rng z17
  have cg14 := congrArg Int32.toInt ez14
  refine p_put hx hb hts inX0 tyX0 tyX0_ok nmX0 hown hK hP hD hS hLy8 hKy8 rfl rfl 1 (by decide) (hts _ pq173) rfl (by decide +kernel) (Nat.le_of_ble_eq_true rfl) (oS_0_1 cs _ _ _ _) dX5_finishGlide_18 (fun H locs hP hS => ?_)
  obtain ⟨Iz18, hP, hIz18, qIz18⟩ : ∃ Iz18, va_P (dC, dI) vwCl (Wd cs L K Iz18 J Q) H ∧ Iv L K x0 m0 tx tm Iz18 ∧ Iz18 = va_up I y8 (upd (I y8) 1 z17) := ⟨_, hP, Iv_put hI hKy8 (oP_0_1 (Iv_at hI hLy8 hKy8) ⟨by omega, by omega⟩) (by decide) (by decide), rfl⟩
  have fr_Iz18 : ∀ b, ¬ (K b = 0) → Iz18 b = I b := fun b q => (congrFun qIz18 b).trans ((va_up_ne _ _ (fun z => q (by rw [z]; have := hKy8; omega))).trans (fr_I b q))
  refine lv_aload_n hx hb dX5_finishGlide_21 rfl (lv_at hl 0 rfl) ?_
  refine p_get (v := .ref y1) hx hb hts inX5 hown hK hP hLp0 hKp0 rfl rfl 0 (by decide) (hts _ pq274) (congrArg (fun q => some (va_rf q)) ey1) dX5_finishGlide_22 ?_
  refine p_get (v := .ref y4) hx hb hts inX1 hown hK hP hLy1 hKy1 rfl rfl 1 (by decide) (hts _ pq218) (congrArg (fun q => some (va_rf q)) ey4) dX5_finishGlide_25 ?_
  refine lv_iload_n hx hb dX5_finishGlide_28 rfl (lv_at hl 1 rfl) ?_
  refine p_aaldR hx hb hK hP 4 hLy4 hKy4 rfl rfl (in_of (by omega) (by omega)) ey8 dX5_finishGlide_29 ?_
  refine lv_dup hx hb dX5_finishGlide_30 rfl ?_
  refine p_get hx hb hts inX0 hown hK hP hLy8 hKy8 rfl rfl 2 (by decide) (hts _ pq176) rfl dX5_finishGlide_31 ?_
  refine lv_topi (fun z31 ez31 => ?_)
  have cgz31 := congrArg Int32.toInt ez31
  have bz31 := oI_0_2 (Iv_at hIz18 hLy8 hKy8)
  rw [← ez31] at bz31
  have c31 := congrArg Int32.toInt (ez31.trans (by rw [qIz18, rz_fr _ _ _ _ (by decide)]))
  refine lv_aload_n hx hb dX5_finishGlide_34 rfl (lv_at hl 0 rfl) ?_
  refine p_get hx hb hts inX5 hown hK hP hLp0 hKp0 rfl rfl 5 (by decide) (hts _ pq281) rfl dX5_finishGlide_35 ?_
  refine lv_topi (fun z35 ez35 => ?_)
  have cgz35 := congrArg Int32.toInt ez35
  have c35 := congrArg Int32.toInt (ez35.trans (by rw [qIz18, va_up_ne _ _ (ne_k hKp0 hKy8 (by decide))]))
  refine lv_iadd hx hb dX5_finishGlide_38 ?_
  refine lv_topi (fun z38 ez38 => ?_)
  have rg38z35 := fb_rng z35
  have bz38 := tq_addw (k := z31.toInt) (q := z35.toInt) ez38 rfl rfl
  have rgz38 := fb_rng z38
  refine p_put hx hb hts inX0 tyX0 tyX0_ok nmX0 hown hK hP hD hS hLy8 hKy8 rfl rfl 2 (by decide) (hts _ pq176) rfl (by decide +kernel) (Nat.le_of_ble_eq_true rfl) (oS_0_2 cs _ _ _ _) dX5_finishGlide_39 (fun H locs hP hS => ?_)
  obtain ⟨Iz39, hP, hIz39, qIz39⟩ : ∃ Iz39, va_P (dC, dI) vwCl (Wd cs L K Iz39 J Q) H ∧ Iv L K x0 m0 tx tm Iz39 ∧ Iz39 = va_up Iz18 y8 (upd (Iz18 y8) 2 z38) := ⟨_, hP, Iv_put hIz18 hKy8 (oP_0_2 (Iv_at hIz18 hLy8 hKy8) ⟨by omega, by omega⟩) (by decide) (by decide), rfl⟩
  have fr_Iz39 : ∀ b, ¬ (K b = 0) → Iz39 b = I b := fun b q => (congrFun qIz39 b).trans ((va_up_ne _ _ (fun z => q (by rw [z]; have := hKy8; omega))).trans (fr_Iz18 b q))
  subst hR; subst hQz
  exact W.vret hx hb hr (fun t ht hW => ⟨⟨(), rfl, trivial, ⟨Iz39, J, ⟨hIz39, fr_Iz39, (by rw [nf_of ey1, show fb Q y1 p1.toInt.toNat = y8 from fb_of ey4 ey8]; exact ⟨Iz18, by rw [qIz18, ez17, ez10, ez14], by rw [qIz39, ez38, ez31, ez35, show Iz18 y8 2 = I y8 2 by rw [qIz18, rz_fr _ _ _ _ (by decide)], show Iz18 p0 5 = I p0 5 by rw [qIz18, va_up_ne _ _ (ne_k hKp0 hKy8 (by decide))]]⟩), dj_J⟩, by rw [ht]; exact hP⟩⟩, hS.F ht⟩) hS.2.2 dX5_finishGlide_42

set_option maxHeartbeats 4000000 in
set_option maxRecDepth 100000 in
theorem s_X5_tryGlide (l : Launch) (dC : Nat → ClassId) (dI : Nat → Nat → Nat) (cs : Nat → ClassId) (L : List Nat) (K G : Nat → Nat) (Q : Nat → Nat → Option Nat) (hQ : Sv L K G Q) (x0 m0 : Nat) (tx : GT) (tm : GT × Int) (sz : Nat) (I : Nat → Nat → Int32) (J : Nat → Nat → Int64) (hI : Iv L K x0 m0 tx tm I) (p0 : Nat) (hLp0 : p0 ∈ L) (hKp0 : K p0 = 5) (p1 : Int32) (bp1 : (0) ≤ p1.toInt ∧ p1.toInt ≤ 9) (p2 : Int32) (bp2 : (-200) ≤ p2.toInt ∧ p2.toInt ≤ 200) (p3 : Int32) (bp3 : (-200) ≤ p3.toInt ∧ p3.toInt ≤ 200) : Met l yX5_tryGlide (.code yX5_tryGlide cX5_tryGlide 10 none :: pw) ({ frames := 4, cells := 0, slots := 0, locals := 107 }) (sP (dC, dI) cs [.ref p0, .int p1, .int p2, .int p3] sz L K I J Q) (va_Qv (fun (_ : Unit) => True) (fun _ t => sB (dC, dI) cs L K Q (fun I1 J1 => Iv L K x0 m0 tx tm I1 ∧ (∀ b, ¬ (b = p0) → I1 b = I b) ∧ (glOK tm.2 Q I1 p0 p1) ∧ (∀ c : Fx, okF c → cxF Q I J (nf Q p0) c → cxS Q I J p0 c → p1.toInt.toNat < (c.1 1).toInt.toNat → gLR c p1.toInt.toNat p2.toInt p3.toInt (I1 p0 2).toInt (I1 p0 4).toInt (I1 p0 5).toInt) ∧ J1 = J) t) (fun q => q ∈ L ∨ sz ≤ q)) 0 0 (fun q => q ∈ L ∨ sz ≤ q) := by
  refine Met.ofW (cc := cX5_tryGlide) (maxL := 10) (ret := none) (by decide +kernel) rfl ?_
  intro p e s m args below meth c s₁ B hml hv
  obtain ⟨rfl, hsz, hP, hK, hD0, hN⟩ := hv
  have hx := B.exec
  have hb := B.bytes
  have hr := B.returns
  have hts := fun w (h : w ∈ pw) => atoms_spec (ws := Cond.code yX5_tryGlide cX5_tryGlide 10 none :: pw) B.pre w (List.mem_cons_of_mem _ h)
  have hown : s.vm.findClass RX5 = some m.cls := findClass_of_methodNamed B.named
  have hlocks := B.notSynchronized
  subst hsz
  have hBB : 999 ≤ tm.2 ∧ tm.2 ≤ 6000000 := hI.2.2.2.2.1
  have dj_J : J = J := rfl
  have fr_I : ∀ b, ¬ (b = p0) → I b = I b := fun _ _ => rfl
  obtain ⟨A, hAe⟩ : ∃ A : Nat → Prop, A = (fun q => q ∈ L ∨ s.heap.size ≤ q) := ⟨_, rfl⟩
  rw [← hAe]
  have hAL : ∀ q, q ∈ L → A q := fun q h => by rw [hAe]; exact Or.inl h
  have hA : ∀ q, s.heap.size ≤ q → A q := fun q h => by rw [hAe]; exact Or.inr h
  have hD : ∀ F, va_D A (va_pl L F) := fun F => (hD0 F).weaken (fun k q hk _ => hAL _ (pl_mem hk))
  obtain ⟨H, hHe⟩ : ∃ H : Heap, H = s.heap := ⟨_, rfl⟩
  have hS : va_S A s.heap H [] := by rw [hHe]; exact va_S.rf
  rw [← hHe] at hP
  have hl := lv_entry ([.ref p0, .int p1, .int p2, .int p3]) (n := 10) (Nat.le_of_ble_eq_true rfl)
  rw [lg_entry_eq]
  generalize (lg_sl ([.ref p0, .int p1, .int p2, .int p3]) ++ List.replicate (10 - (lg_sl ([.ref p0, .int p1, .int p2, .int p3])).length) Slot.unset).toArray = ls at hl ⊢
  have hl : lv_has ls 10 [(0, .ref p0), (1, .int p1), (2, .int p2), (3, .int p3)] := hl
  rw [← hHe]
  refine namedW (fun R Qz hR hQz => ?_)
  refine lv_aload_n hx hb dX5_tryGlide_0 rfl (lv_at hl 0 rfl) ?_
  obtain ⟨y1, ey1, hLy1, hKy1, hGy1⟩ := oQ_5_0 (Sv_at hQ hLp0 hKp0)
  refine p_get (v := .ref y1) hx hb hts inX5 hown hK hP hLp0 hKp0 rfl rfl 0 (by decide) (hts _ pq274) (congrArg (fun q => some (va_rf q)) ey1) dX5_tryGlide_1 ?_
  obtain ⟨y4, ey4, hLy4, hKy4, hGy4⟩ := oQ_1_1 (Sv_at hQ hLy1 hKy1)
  refine p_get (v := .ref y4) hx hb hts inX1 hown hK hP hLy1 hKy1 rfl rfl 1 (by decide) (hts _ pq218) (congrArg (fun q => some (va_rf q)) ey4) dX5_tryGlide_4 ?_
  refine lv_iload_n hx hb dX5_tryGlide_7 rfl (lv_at hl 1 rfl) ?_
  obtain ⟨y8, ey8, hLy8, hKy8, hGy8⟩ := (Sv_at hQ hLy4 hKy4).1 p1.toNatClampNeg (clamp_lt (n := 10) (in_of (by omega) (by omega)))
  refine p_aaldR hx hb hK hP 4 hLy4 hKy4 rfl rfl (in_of (by omega) (by omega)) ey8 dX5_tryGlide_8 ?_
  refine lv_astore (lv' := [(4, .ref y8), (0, .ref p0), (1, .int p1), (2, .int p2), (3, .int p3)]) hx hb dX5_tryGlide_9 hl (by decide) rfl (fun ls hl => ?_)
  refine lv_iload_n hx hb dX5_tryGlide_11 rfl (lv_at hl 3 rfl) ?_
  refine lv_iload_n hx hb dX5_tryGlide_12 rfl (lv_at hl 4 rfl) ?_
  refine ro_i (va_runSN (As := [.int p2, .int p3]) (rest := []) ⟨hx, hb, hml, hown, hts⟩ (s_X6_wayLength l dC dI cs L K G Q hQ x0 m0 tx tm H.size I J hI p2 ⟨by omega, by omega⟩ p3 ⟨by omega, by omega⟩) ⟨va_cnB 2 hts (gI pq745) rfl rfl rfl (xN_X5_127 hN) (hts _ pq74) (by decide +kernel) ⟨(by rw [hR]; exact (Nat.le_of_ble_eq_true rfl)), (by rw [hR]; exact (Nat.le_of_ble_eq_true rfl))⟩, hts _ pq744, trivial⟩ (sP_S hP hD hK hN) rfl rfl hl.1 rfl (lv_room (Nat.le_of_ble_eq_true rfl)) dX5_tryGlide_13 ⟨(by rw [hR]; exact (Nat.le_of_ble_eq_true rfl)), (by rw [hR]; exact (Nat.le_of_ble_eq_true rfl))⟩) hS hP (fun z13 H locs hz13 hP hS => ?_)
  obtain ⟨bz13, xpz13⟩ := hz13
  refine lv_istore (lv' := [(5, .int z13), (4, .ref y8), (0, .ref p0), (1, .int p1), (2, .int p2), (3, .int p3)]) hx hb dX5_tryGlide_16 hl (by decide) rfl (fun ls hl => ?_)
  refine lv_aload_n hx hb dX5_tryGlide_18 rfl (lv_at hl 2 rfl) ?_
  refine lv_iload_n hx hb dX5_tryGlide_19 rfl (lv_at hl 3 rfl) ?_
  refine lv_iload_n hx hb dX5_tryGlide_20 rfl (lv_at hl 4 rfl) ?_
  refine lv_iload_n hx hb dX5_tryGlide_21 rfl (lv_at hl 5 rfl) ?_
  refine ro_i (va_runV (As := [.int p1, .int p2, .int p3]) (rest := []) ⟨hx, hb, hml, hown, hts⟩ (s_X5_stoppersAhead l dC dI cs L K G Q hQ x0 m0 tx tm H.size I J hI p0 hLp0 hKp0 p1 ⟨by omega, by omega⟩ p2 p3) (cwV 3 hts (gV pq752 pq753 pq754 pq79 pq755) rfl rfl rfl (by decide +kernel) ⟨(by rw [hR]; exact (Nat.le_of_ble_eq_true rfl)), (by rw [hR]; exact (Nat.le_of_ble_eq_true rfl))⟩) (sP_V hP hD hK hN hLp0 hKp0 rfl rfl) rfl rfl hl.1 rfl (lv_room (Nat.le_of_ble_eq_true rfl)) dX5_tryGlide_22 ⟨(by rw [hR]; exact (Nat.le_of_ble_eq_true rfl)), (by rw [hR]; exact (Nat.le_of_ble_eq_true rfl))⟩) hS hP (fun z22 H locs hz22 hP hS => ?_)
  have xpz22 := hz22
  refine lv_istore (lv' := [(6, .int z22), (5, .int z13), (4, .ref y8), (0, .ref p0), (1, .int p1), (2, .int p2), (3, .int p3)]) hx hb dX5_tryGlide_25 hl (by decide) rfl (fun ls hl => ?_)
  refine lv_aload_n hx hb dX5_tryGlide_27 rfl (lv_at hl 3 rfl) ?_
  refine lv_iconst (v := 0) hx hb dX5_tryGlide_28 (by decide +kernel) ?_
  refine p_put hx hb hts inX5 tyX5 tyX5_ok nmX5 hown hK hP hD hS hLp0 hKp0 rfl rfl 2 (by decide) (hts _ pq276) rfl (by decide +kernel) (Nat.le_of_ble_eq_true rfl) (oS_5_2 cs _ _ _ _) dX5_tryGlide_29 (fun H locs hP hS => ?_)
  obtain ⟨Iz29, hP, hIz29, qIz29⟩ : ∃ Iz29, va_P (dC, dI) vwCl (Wd cs L K Iz29 J Q) H ∧ Iv L K x0 m0 tx tm Iz29 ∧ Iz29 = va_up I p0 (upd (I p0) 2 (0 : Int32)) := ⟨_, hP, Iv_put hI hKp0 (oP_5_2 (Iv_at hI hLp0 hKp0) ⟨by decide +kernel, by decide +kernel⟩) (by decide) (by decide), rfl⟩
  have fr_Iz29 : ∀ b, ¬ (b = p0) → Iz29 b = I b := fun b q => (congrFun qIz29 b).trans ((va_up_ne _ _ (fun z => q z)).trans (fr_I b q))
  refine lv_aload_n hx hb dX5_tryGlide_32 rfl (lv_at hl 3 rfl) ?_
  refine lv_iconst (v := (-1)) hx hb dX5_tryGlide_33 (by decide +kernel) ?_
  refine p_put hx hb hts inX5 tyX5 tyX5_ok nmX5 hown hK hP hD hS hLp0 hKp0 rfl rfl 3 (by decide) (hts _ pq278) rfl (by decide +kernel) (Nat.le_of_ble_eq_true rfl) (oS_5_3 cs _ _ _ _) dX5_tryGlide_34 (fun H locs hP hS => ?_)
  obtain ⟨Iz34, hP, hIz34, qIz34⟩ : ∃ Iz34, va_P (dC, dI) vwCl (Wd cs L K Iz34 J Q) H ∧ Iv L K x0 m0 tx tm Iz34 ∧ Iz34 = va_up Iz29 p0 (upd (Iz29 p0) 3 ((-1) : Int32)) := ⟨_, hP, Iv_put hIz29 hKp0 (oP_5_3 (Iv_at hIz29 hLp0 hKp0)) (by decide) (by decide), rfl⟩
  have fr_Iz34 : ∀ b, ¬ (b = p0) → Iz34 b = I b := fun b q => (congrFun qIz34 b).trans ((va_up_ne _ _ (fun z => q z)).trans (fr_Iz29 b q))
  refine lv_aload_n hx hb dX5_tryGlide_37 rfl (lv_at hl 3 rfl) ?_
  refine lv_iconst (v := 0) hx hb dX5_tryGlide_38 (by decide +kernel) ?_
  refine p_put hx hb hts inX5 tyX5 tyX5_ok nmX5 hown hK hP hD hS hLp0 hKp0 rfl rfl 4 (by decide) (hts _ pq280) rfl (by decide +kernel) (Nat.le_of_ble_eq_true rfl) (oS_5_4 cs _ _ _ _) dX5_tryGlide_39 (fun H locs hP hS => ?_)
  obtain ⟨Iz39, hP, hIz39, qIz39⟩ : ∃ Iz39, va_P (dC, dI) vwCl (Wd cs L K Iz39 J Q) H ∧ Iv L K x0 m0 tx tm Iz39 ∧ Iz39 = va_up Iz34 p0 (upd (Iz34 p0) 4 (0 : Int32)) := ⟨_, hP, Iv_put hIz34 hKp0 (oP_5_4 (Iv_at hIz34 hLp0 hKp0)) (by decide) (by decide), rfl⟩
  have fr_Iz39 : ∀ b, ¬ (b = p0) → Iz39 b = I b := fun b q => (congrFun qIz39 b).trans ((va_up_ne _ _ (fun z => q z)).trans (fr_Iz34 b q))
  refine lv_aload_n hx hb dX5_tryGlide_42 rfl (lv_at hl 3 rfl) ?_
  refine lv_iconst (v := 0) hx hb dX5_tryGlide_43 (by decide +kernel) ?_
  refine p_put hx hb hts inX5 tyX5 tyX5_ok nmX5 hown hK hP hD hS hLp0 hKp0 rfl rfl 5 (by decide) (hts _ pq281) rfl (by decide +kernel) (Nat.le_of_ble_eq_true rfl) (oS_5_5 cs _ _ _ _) dX5_tryGlide_44 (fun H locs hP hS => ?_)
  obtain ⟨Iz44, hP, hIz44, qIz44⟩ : ∃ Iz44, va_P (dC, dI) vwCl (Wd cs L K Iz44 J Q) H ∧ Iv L K x0 m0 tx tm Iz44 ∧ Iz44 = va_up Iz39 p0 (upd (Iz39 p0) 5 (0 : Int32)) := ⟨_, hP, Iv_put hIz39 hKp0 (oP_5_5 (Iv_at hIz39 hLp0 hKp0)) (by decide) (by decide), rfl⟩
  have fr_Iz44 : ∀ b, ¬ (b = p0) → Iz44 b = I b := fun b q => (congrFun qIz44 b).trans ((va_up_ne _ _ (fun z => q z)).trans (fr_Iz39 b q))
  refine lv_iconst (v := 1) hx hb dX5_tryGlide_47 (by decide +kernel) ?_
  refine lv_istore (lv' := [(7, .int 1), (6, .int z22), (5, .int z13), (4, .ref y8), (0, .ref p0), (1, .int p1), (2, .int p2), (3, .int p3)]) hx hb dX5_tryGlide_48 hl (by decide) rfl (fun ls hl => ?_)
  have key50 := blocks (fun n => ∀ (v50_7 : Int32) (I50 : Nat → Nat → Int32) (H : Heap) (lo : List Loc) (ls : Array Slot), (302 - v50_7.toInt).toNat = n → ((1) ≤ v50_7.toInt ∧ v50_7.toInt ≤ 301) → Iv L K x0 m0 tx tm I50 → (∀ b, ¬ (b = p0) → I50 b = I b) → ((-tm.2 ≤ (I y8 1).toInt + (I50 p0 4).toInt ∧ (I y8 1).toInt + (I50 p0 4).toInt ≤ tm.2) ∧ (-tm.2 ≤ (I y8 2).toInt + (I50 p0 5).toInt ∧ (I y8 2).toInt + (I50 p0 5).toInt ≤ tm.2)) → (∀ c : Fx, okF c → cxF Q I J (nf Q p0) c → cxS Q I J p0 c → p1.toInt.toNat < (c.1 1).toInt.toNat → gLI c p1.toInt.toNat p2.toInt p3.toInt v50_7.toInt (I50 p0 2).toInt (I50 p0 4).toInt (I50 p0 5).toInt) → va_P (dC, dI) vwCl (Wd cs L K I50 J Q) H → va_S A s.heap H lo → lv_has ls 10 [(0, .ref p0), (1, .int p1), (2, .int p2), (3, .int p3), (4, .ref y8), (5, .int z13), (6, .int z22), (7, .int v50_7)] → W p l e R s m (([.ref p0, .int p1, .int p2, .int p3] : List Value).toArray) below meth c H lo 0 0 Qz (F0 m 50 ls [])) (by
    intro n ih50
    intro v50_7 I50 H lo ls hmu50 bv50_7 hI50 fr_I50 hgl hgi hP hS hl
    refine lv_iload hx hb dX5_tryGlide_50 (lv_at hl 7 rfl) ?_
    refine lv_iload hx hb dX5_tryGlide_52 (lv_at hl 5 rfl) ?_
    refine lv_icmp_gt (tgt := 159) hx hb dX5_tryGlide_54 (by decide) (fun c54 => ?_) (fun c54 => ?_)
    · have t54 := tq_lt (k := z13.toInt) (q := v50_7.toInt) c54 rfl rfl
      subst hR; subst hQz
      exact W.vret hx hb hr (fun t ht hW => ⟨⟨(), rfl, trivial, ⟨I50, J, ⟨hI50, fr_I50, (glOK_of ey1 ey4 ey8 (by unfold bnd; rw [(fr_I50 y8 (ne_k hKy8 hKp0 (by decide)))]; exact hgl)), (fun c ok h hs ha => gLI_e (hgi c ok h hs ha) (Or.inl (by rw [← xpz13]; omega))), dj_J⟩, by rw [ht]; exact hP⟩⟩, hS.F ht⟩) hS.2.2 dX5_tryGlide_159
    · have t54 := tq_nlt (k := z13.toInt) (q := v50_7.toInt) c54 rfl rfl
      refine lv_iload hx hb dX5_tryGlide_57 (lv_at hl 7 rfl) ?_
      refine lv_iload_n hx hb dX5_tryGlide_59 rfl (lv_at hl 2 rfl) ?_
      refine lv_iload hx hb dX5_tryGlide_60 (lv_at hl 5 rfl) ?_
      refine ro_i (va_runSN (As := [.int v50_7, .int p2, .int z13]) (rest := []) ⟨hx, hb, hml, hown, hts⟩ (s_X6_wayPartS l dC dI cs L K G Q hQ x0 m0 tx tm H.size I50 J hI50 v50_7 ⟨by omega, by omega⟩ p2 ⟨by omega, by omega⟩ z13 ⟨by omega, by omega⟩ (by omega)) ⟨va_cnB 3 hts (gI pq780) rfl rfl rfl (xN_X5_134 hN) (hts _ pq74) (by decide +kernel) ⟨(by rw [hR]; exact (Nat.le_of_ble_eq_true rfl)), (by rw [hR]; exact (Nat.le_of_ble_eq_true rfl))⟩, hts _ pq779, trivial⟩ (sP_S hP hD hK hN) rfl rfl hl.1 rfl (lv_room (Nat.le_of_ble_eq_true rfl)) dX5_tryGlide_62 ⟨(by rw [hR]; exact (Nat.le_of_ble_eq_true rfl)), (by rw [hR]; exact (Nat.le_of_ble_eq_true rfl))⟩) hS hP (fun z62 H locs hz62 hP hS => ?_)
      obtain ⟨bz62, xpz62⟩ := hz62
      refine lv_istore (lv' := [(8, .int z62), (0, .ref p0), (1, .int p1), (2, .int p2), (3, .int p3), (4, .ref y8), (5, .int z13), (6, .int z22), (7, .int v50_7)]) hx hb dX5_tryGlide_65 hl (by decide) rfl (fun ls hl => ?_)
      refine lv_iload hx hb dX5_tryGlide_67 (lv_at hl 8 rfl) ?_
      refine lv_iload_n hx hb dX5_tryGlide_69 rfl (lv_at hl 4 rfl) ?_
      refine lv_iload hx hb dX5_tryGlide_70 (lv_at hl 6 rfl) ?_
      refine ro_i (va_runSN (As := [.int v50_7, .int p3, .int z13]) (rest := []) ⟨hx, hb, hml, hown, hts⟩ (s_X6_wayPartS l dC dI cs L K G Q hQ x0 m0 tx tm H.size I50 J hI50 v50_7 ⟨by omega, by omega⟩ p3 ⟨by omega, by omega⟩ z13 ⟨by omega, by omega⟩ (by omega)) ⟨va_cnB 3 hts (gI pq780) rfl rfl rfl (xN_X5_134 hN) (hts _ pq74) (by decide +kernel) ⟨(by rw [hR]; exact (Nat.le_of_ble_eq_true rfl)), (by rw [hR]; exact (Nat.le_of_ble_eq_true rfl))⟩, hts _ pq779, trivial⟩ (sP_S hP hD hK hN) rfl rfl hl.1 rfl (lv_room (Nat.le_of_ble_eq_true rfl)) dX5_tryGlide_72 ⟨(by rw [hR]; exact (Nat.le_of_ble_eq_true rfl)), (by rw [hR]; exact (Nat.le_of_ble_eq_true rfl))⟩) hS hP (fun z72 H locs hz72 hP hS => ?_)
      obtain ⟨bz72, xpz72⟩ := hz72
      refine lv_istore (lv' := [(9, .int z72), (8, .int z62), (0, .ref p0), (1, .int p1), (2, .int p2), (3, .int p3), (4, .ref y8), (5, .int z13), (6, .int z22), (7, .int v50_7)]) hx hb dX5_tryGlide_75 hl (by decide) rfl (fun ls hl => ?_)
      refine lv_aload_n hx hb dX5_tryGlide_77 rfl (lv_at hl 2 rfl) ?_
      refine lv_aload_n hx hb dX5_tryGlide_78 rfl (lv_at hl 2 rfl) ?_
      refine lv_iload_n hx hb dX5_tryGlide_79 rfl (lv_at hl 3 rfl) ?_
      refine lv_iload hx hb dX5_tryGlide_80 (lv_at hl 8 rfl) ?_
      refine lv_iload hx hb dX5_tryGlide_82 (lv_at hl 1 rfl) ?_
      refine lv_iload hx hb dX5_tryGlide_84 (lv_at hl 0 rfl) ?_
      refine ro_i (va_runV (As := [.int p1, .int z22, .int z62, .int z72]) (rest := [.ref p0]) ⟨hx, hb, hml, hown, hts⟩ (s_X5_leastTouched l dC dI cs L K G Q hQ x0 m0 tx tm H.size I50 J hI50 p0 hLp0 hKp0 p1 ⟨by omega, by omega⟩ z22 z62 z72) (cwV 4 hts (gV pq784 pq785 pq786 pq79 pq787) rfl rfl rfl (by decide +kernel) ⟨(by rw [hR]; exact (Nat.le_of_ble_eq_true rfl)), (by rw [hR]; exact (Nat.le_of_ble_eq_true rfl))⟩) (sP_V hP hD hK hN hLp0 hKp0 rfl rfl) rfl rfl hl.1 rfl (lv_room (Nat.le_of_ble_eq_true rfl)) dX5_tryGlide_86 ⟨(by rw [hR]; exact (Nat.le_of_ble_eq_true rfl)), (by rw [hR]; exact (Nat.le_of_ble_eq_true rfl))⟩) hS hP (fun z86 H locs hz86 hP hS => ?_)
      obtain ⟨bz86, xpz86⟩ := hz86
      have X62 : z62.toInt = byI v50_7.toInt p2.toInt (stI p2.toInt p3.toInt) := by rw [← xpz13]; exact xpz62
      have X72 : z72.toInt = byI v50_7.toInt p3.toInt (stI p2.toInt p3.toInt) := by rw [← xpz13]; exact xpz72
      refine p_put hx hb hts inX5 tyX5 tyX5_ok nmX5 hown hK hP hD hS hLp0 hKp0 rfl rfl 3 (by decide) (hts _ pq278) rfl (by decide +kernel) (Nat.le_of_ble_eq_true rfl) (oS_5_3 cs _ _ _ _) dX5_tryGlide_89 (fun H locs hP hS => ?_)
      obtain ⟨Iz89, hP, hIz89, qIz89⟩ : ∃ Iz89, va_P (dC, dI) vwCl (Wd cs L K Iz89 J Q) H ∧ Iv L K x0 m0 tx tm Iz89 ∧ Iz89 = va_up I50 p0 (upd (I50 p0) 3 z86) := ⟨_, hP, Iv_put hI50 hKp0 (oP_5_3 (Iv_at hI50 hLp0 hKp0)) (by decide) (by decide), rfl⟩
      have fr_Iz89 : ∀ b, ¬ (b = p0) → Iz89 b = I b := fun b q => (congrFun qIz89 b).trans ((va_up_ne _ _ (fun z => q z)).trans (fr_I50 b q))
      refine lv_aload_n hx hb dX5_tryGlide_92 rfl (lv_at hl 2 rfl) ?_
      refine p_get hx hb hts inX5 hown hK hP hLp0 hKp0 rfl rfl 3 (by decide) (hts _ pq278) rfl dX5_tryGlide_93 ?_
      refine lv_topi (fun z93 ez93 => ?_)
      refine lv_iconst (v := (-1)) hx hb dX5_tryGlide_96 (by decide +kernel) ?_
      have e93 : z93.toInt = z86.toInt := by rw [ez93, qIz89, rz_at]
      have h97 : ∀ c : Fx, okF c → cxF Q I J (nf Q p0) c → cxS Q I J p0 c → p1.toInt.toNat < (c.1 1).toInt.toNat → gST c p1.toInt.toNat p2.toInt p3.toInt z22 (c.1 1).toInt.toNat ∧ lto c p1.toInt.toNat z22 z86 z62.toInt z72.toInt ∧ (min p2.toInt 0 ≤ z62.toInt ∧ z62.toInt ≤ max p2.toInt 0) ∧ (min p3.toInt 0 ≤ z72.toInt ∧ z72.toInt ≤ max p3.toInt 0) ∧ (I y8 1).toInt = bX c p1.toInt.toNat ∧ (I y8 2).toInt = bY c p1.toInt.toNat := fun c ok h hs ha => by have w := cx_sc (I1 := I50) hQ hLp0 hKp0 ok fr_I50 h hs; have va := fun k (hk : k < 8) => h.2.2.2.2 p1.toInt.toNat ha k hk; rw [nf_of ey1, show fb Q y1 p1.toInt.toNat = y8 from fb_of ey4 ey8] at va; exact ⟨xpz22 c ok h hs ha (by omega), xpz86 c ok w.1 w.2 ha (by omega), by rw [X62]; exact byI_bt2 (by rw [← xpz13]; omega) (by rw [← xpz13]; omega), by rw [X72]; exact byI_bt2 (by rw [← xpz13]; omega) (by rw [← xpz13]; omega), by rw [va 1 (by decide)]; rfl, by rw [va 2 (by decide)]; rfl⟩
      refine lv_icmp_ne (tgt := 134) hx hb dX5_tryGlide_97 (by decide) (fun c97 => ?_) (fun c97 => ?_)
      · have t97 := tq_ne (k := z93.toInt) (q := (-1)) c97 rfl (by decide +kernel)
        subst hR; subst hQz
        exact W.vret hx hb hr (fun t ht hW => ⟨⟨(), rfl, trivial, ⟨Iz89, J, ⟨hIz89, fr_Iz89, (glOK_of ey1 ey4 ey8 (by unfold bnd; rw [(fr_Iz89 y8 (ne_k hKy8 hKp0 (by decide))), qIz89, rz_fr _ _ _ _ (by decide), rz_fr _ _ _ _ (by decide)]; exact hgl)), (fun c ok h hs ha => by rw [qIz89, rz_fr _ _ _ _ (by decide), rz_fr _ _ _ _ (by decide), rz_fr _ _ _ _ (by decide)]; refine gLI_e (hgi c ok h hs ha) (Or.inr ?_); obtain ⟨g, l, b1, b2, ex, ey⟩ := h97 c ok h hs ha; rw [← X62, ← X72]; exact blk_y g l (by rw [← e93]; omega)), dj_J⟩, by rw [ht]; exact hP⟩⟩, hS.F ht⟩) hS.2.2 dX5_tryGlide_134
      · have t97 := tq_eq (k := z93.toInt) (q := (-1)) c97 rfl (by decide +kernel)
        refine lv_aload hx hb dX5_tryGlide_100 (lv_at hl 6 rfl) ?_
        refine p_get hx hb hts inX0 hown hK hP hLy8 hKy8 rfl rfl 1 (by decide) (hts _ pq173) rfl dX5_tryGlide_102 ?_
        refine lv_topi (fun z102 ez102 => ?_)
        have cgz102 := congrArg Int32.toInt ez102
        have bz102 := oI_0_1 (Iv_at hIz89 hLy8 hKy8)
        rw [← ez102] at bz102
        have f102 := congrArg Int32.toInt (congrFun (fr_Iz89 y8 (ne_k hKy8 hKp0 (by decide))) 1)
        refine lv_iload hx hb dX5_tryGlide_105 (lv_at hl 1 rfl) ?_
        refine lv_iadd hx hb dX5_tryGlide_107 ?_
        refine lv_topi (fun z107 ez107 => ?_)
        have bz107 := tq_add (k := z102.toInt) (q := z62.toInt) ez107 rfl rfl (by omega) (by omega)
        refine lv_sipush (v := 999) hx hb dX5_tryGlide_108 (by decide +kernel) ?_
        refine ro_i (va_runSN (As := [.int z107, .int 999]) (rest := []) ⟨hx, hb, hml, hown, hts⟩ (s_X6_isWithin l dC dI cs L K G Q hQ x0 m0 tx tm H.size Iz89 J hIz89 z107 999 ⟨by decide +kernel, by decide +kernel⟩) ⟨va_cnB 2 hts (gI pq642) rfl rfl rfl (xN_X5_141 hN) (hts _ pq74) (by decide +kernel) ⟨(by rw [hR]; exact (Nat.le_of_ble_eq_true rfl)), (by rw [hR]; exact (Nat.le_of_ble_eq_true rfl))⟩, hts _ pq641, trivial⟩ (sP_S hP hD hK hN) rfl rfl hl.1 rfl (lv_room (Nat.le_of_ble_eq_true rfl)) dX5_tryGlide_111 ⟨(by rw [hR]; exact (Nat.le_of_ble_eq_true rfl)), (by rw [hR]; exact (Nat.le_of_ble_eq_true rfl))⟩) hS hP (fun z111 H locs hz111 hP hS => ?_)
        have cst111_999 : (999 : Int32).toInt = 999 := by decide +kernel
        obtain ⟨bz111, imz111, xpz111⟩ := hz111
        try rw [cst111_999] at xpz111
        refine lv_if_eq (tgt := 134) hx hb dX5_tryGlide_114 (by decide) (fun c114 => ?_) (fun c114 => ?_)
        · have t114 := tq_eq (k := z111.toInt) (q := (0)) c114 rfl (by decide +kernel)
          subst hR; subst hQz
          exact W.vret hx hb hr (fun t ht hW => ⟨⟨(), rfl, trivial, ⟨Iz89, J, ⟨hIz89, fr_Iz89, (glOK_of ey1 ey4 ey8 (by unfold bnd; rw [(fr_Iz89 y8 (ne_k hKy8 hKp0 (by decide))), qIz89, rz_fr _ _ _ _ (by decide), rz_fr _ _ _ _ (by decide)]; exact hgl)), (fun c ok h hs ha => by rw [qIz89, rz_fr _ _ _ _ (by decide), rz_fr _ _ _ _ (by decide), rz_fr _ _ _ _ (by decide)]; refine gLI_e (hgi c ok h hs ha) (Or.inr ?_); obtain ⟨g, l, b1, b2, ex, ey⟩ := h97 c ok h hs ha; rw [← X62, ← X72]; exact Or.inl (fun q => xpz111 t114 (by rw [← ex, ← ey] at q; omega))), dj_J⟩, by rw [ht]; exact hP⟩⟩, hS.F ht⟩) hS.2.2 dX5_tryGlide_134
        · have t114 := tq_ne (k := z111.toInt) (q := (0)) c114 rfl (by decide +kernel)
          have i114 := imz111 t114
          refine lv_aload hx hb dX5_tryGlide_117 (lv_at hl 6 rfl) ?_
          refine p_get hx hb hts inX0 hown hK hP hLy8 hKy8 rfl rfl 2 (by decide) (hts _ pq176) rfl dX5_tryGlide_119 ?_
          refine lv_topi (fun z119 ez119 => ?_)
          have cgz119 := congrArg Int32.toInt ez119
          have bz119 := oI_0_2 (Iv_at hIz89 hLy8 hKy8)
          rw [← ez119] at bz119
          have f119 := congrArg Int32.toInt (congrFun (fr_Iz89 y8 (ne_k hKy8 hKp0 (by decide))) 2)
          refine lv_iload hx hb dX5_tryGlide_122 (lv_at hl 0 rfl) ?_
          refine lv_iadd hx hb dX5_tryGlide_124 ?_
          refine lv_topi (fun z124 ez124 => ?_)
          have bz124 := tq_add (k := z119.toInt) (q := z72.toInt) ez124 rfl rfl (by omega) (by omega)
          refine lv_sipush (v := 999) hx hb dX5_tryGlide_125 (by decide +kernel) ?_
          refine ro_i (va_runSN (As := [.int z124, .int 999]) (rest := []) ⟨hx, hb, hml, hown, hts⟩ (s_X6_isWithin l dC dI cs L K G Q hQ x0 m0 tx tm H.size Iz89 J hIz89 z124 999 ⟨by decide +kernel, by decide +kernel⟩) ⟨va_cnB 2 hts (gI pq642) rfl rfl rfl (xN_X5_141 hN) (hts _ pq74) (by decide +kernel) ⟨(by rw [hR]; exact (Nat.le_of_ble_eq_true rfl)), (by rw [hR]; exact (Nat.le_of_ble_eq_true rfl))⟩, hts _ pq641, trivial⟩ (sP_S hP hD hK hN) rfl rfl hl.1 rfl (lv_room (Nat.le_of_ble_eq_true rfl)) dX5_tryGlide_128 ⟨(by rw [hR]; exact (Nat.le_of_ble_eq_true rfl)), (by rw [hR]; exact (Nat.le_of_ble_eq_true rfl))⟩) hS hP (fun z128 H locs hz128 hP hS => ?_)
          have cst128_999 : (999 : Int32).toInt = 999 := by decide +kernel
          obtain ⟨bz128, imz128, xpz128⟩ := hz128
          try rw [cst128_999] at xpz128
          refine lv_if_ne (tgt := 135) hx hb dX5_tryGlide_131 (by decide) (fun c131 => ?_) (fun c131 => ?_)
          · have t131 := tq_ne (k := z128.toInt) (q := (0)) c131 rfl (by decide +kernel)
            have i131 := imz128 t131
            refine lv_aload_n hx hb dX5_tryGlide_135 rfl (lv_at hl 2 rfl) ?_
            refine lv_iload hx hb dX5_tryGlide_136 (lv_at hl 9 rfl) ?_
            refine p_put hx hb hts inX5 tyX5 tyX5_ok nmX5 hown hK hP hD hS hLp0 hKp0 rfl rfl 2 (by decide) (hts _ pq276) rfl (by decide +kernel) (Nat.le_of_ble_eq_true rfl) (oS_5_2 cs _ _ _ _) dX5_tryGlide_138 (fun H locs hP hS => ?_)
            obtain ⟨Iz138, hP, hIz138, qIz138⟩ : ∃ Iz138, va_P (dC, dI) vwCl (Wd cs L K Iz138 J Q) H ∧ Iv L K x0 m0 tx tm Iz138 ∧ Iz138 = va_up Iz89 p0 (upd (Iz89 p0) 2 v50_7) := ⟨_, hP, Iv_put hIz89 hKp0 (oP_5_2 (Iv_at hIz89 hLp0 hKp0) ⟨by omega, by omega⟩) (by decide) (by decide), rfl⟩
            have fr_Iz138 : ∀ b, ¬ (b = p0) → Iz138 b = I b := fun b q => (congrFun qIz138 b).trans ((va_up_ne _ _ (fun z => q z)).trans (fr_Iz89 b q))
            refine lv_aload_n hx hb dX5_tryGlide_141 rfl (lv_at hl 2 rfl) ?_
            refine lv_iload hx hb dX5_tryGlide_142 (lv_at hl 1 rfl) ?_
            refine p_put hx hb hts inX5 tyX5 tyX5_ok nmX5 hown hK hP hD hS hLp0 hKp0 rfl rfl 4 (by decide) (hts _ pq280) rfl (by decide +kernel) (Nat.le_of_ble_eq_true rfl) (oS_5_4 cs _ _ _ _) dX5_tryGlide_144 (fun H locs hP hS => ?_)
            obtain ⟨Iz144, hP, hIz144, qIz144⟩ : ∃ Iz144, va_P (dC, dI) vwCl (Wd cs L K Iz144 J Q) H ∧ Iv L K x0 m0 tx tm Iz144 ∧ Iz144 = va_up Iz138 p0 (upd (Iz138 p0) 4 z62) := ⟨_, hP, Iv_put hIz138 hKp0 (oP_5_4 (Iv_at hIz138 hLp0 hKp0)) (by decide) (by decide), rfl⟩
            have fr_Iz144 : ∀ b, ¬ (b = p0) → Iz144 b = I b := fun b q => (congrFun qIz144 b).trans ((va_up_ne _ _ (fun z => q z)).trans (fr_Iz138 b q))
            refine lv_aload_n hx hb dX5_tryGlide_147 rfl (lv_at hl 2 rfl) ?_
            refine lv_iload hx hb dX5_tryGlide_148 (lv_at hl 0 rfl) ?_
            refine p_put hx hb hts inX5 tyX5 tyX5_ok nmX5 hown hK hP hD hS hLp0 hKp0 rfl rfl 5 (by decide) (hts _ pq281) rfl (by decide +kernel) (Nat.le_of_ble_eq_true rfl) (oS_5_5 cs _ _ _ _) dX5_tryGlide_150 (fun H locs hP hS => ?_)
            obtain ⟨Iz150, hP, hIz150, qIz150⟩ : ∃ Iz150, va_P (dC, dI) vwCl (Wd cs L K Iz150 J Q) H ∧ Iv L K x0 m0 tx tm Iz150 ∧ Iz150 = va_up Iz144 p0 (upd (Iz144 p0) 5 z72) := ⟨_, hP, Iv_put hIz144 hKp0 (oP_5_5 (Iv_at hIz144 hLp0 hKp0)) (by decide) (by decide), rfl⟩
            have fr_Iz150 : ∀ b, ¬ (b = p0) → Iz150 b = I b := fun b q => (congrFun qIz150 b).trans ((va_up_ne _ _ (fun z => q z)).trans (fr_Iz144 b q))
            obtain ⟨z153, ez153⟩ : ∃ y : Int32, y = v50_7 + 1 := ⟨_, rfl⟩
            refine lv_iinc (v := z153) (lv' := [(7, .int z153), (9, .int z72), (8, .int z62), (0, .ref p0), (1, .int p1), (2, .int p2), (3, .int p3), (4, .ref y8), (5, .int z13), (6, .int z22)]) hx hb dX5_tryGlide_153 hl (k := 9) rfl (by rw [ez153]; rfl) (by decide) rfl (fun ls hl => ?_)
            have bz153 := tq_add (k := v50_7.toInt) (q := 1) ez153 rfl (by decide +kernel) (by omega) (by omega)
            refine lv_goto (tgt := 50) hx hb dX5_tryGlide_156 (by decide) ?_
            exact ih50 _ (by omega) z153 Iz150 _ _ _ rfl ⟨by omega, by omega⟩ hIz150 fr_Iz150 (by rw [qIz150, rz_at, rz_fr _ _ _ _ (by decide), qIz144, rz_at]; omega) (fun c ok h hs ha => gLI_s (hgi c ok h hs ha) (by rw [← xpz13]; omega) (by omega) (by rw [qIz150, rz_fr _ _ _ _ (by decide), qIz144, rz_fr _ _ _ _ (by decide), qIz138, rz_at]) (by rw [qIz150, rz_fr _ _ _ _ (by decide), qIz144, rz_at]; exact X62) (by rw [qIz150, rz_at]; exact X72) (by obtain ⟨g, l, b1, b2, ex, ey⟩ := h97 c ok h hs ha; rw [← X62, ← X72]; exact blk_n g b1 b2 l (by rw [← e93]; omega) (fun q => q (by rw [← ex, ← ey]; omega)))) hP hS (lv_sub hl [3, 4, 5, 6, 7, 8, 9, 0] rfl)
          · have t131 := tq_eq (k := z128.toInt) (q := (0)) c131 rfl (by decide +kernel)
            subst hR; subst hQz
            exact W.vret hx hb hr (fun t ht hW => ⟨⟨(), rfl, trivial, ⟨Iz89, J, ⟨hIz89, fr_Iz89, (glOK_of ey1 ey4 ey8 (by unfold bnd; rw [(fr_Iz89 y8 (ne_k hKy8 hKp0 (by decide))), qIz89, rz_fr _ _ _ _ (by decide), rz_fr _ _ _ _ (by decide)]; exact hgl)), (fun c ok h hs ha => by rw [qIz89, rz_fr _ _ _ _ (by decide), rz_fr _ _ _ _ (by decide), rz_fr _ _ _ _ (by decide)]; refine gLI_e (hgi c ok h hs ha) (Or.inr ?_); obtain ⟨g, l, b1, b2, ex, ey⟩ := h97 c ok h hs ha; rw [← X62, ← X72]; exact Or.inl (fun q => xpz128 t131 (by rw [← ex, ← ey] at q; omega))), dj_J⟩, by rw [ht]; exact hP⟩⟩, hS.F ht⟩) hS.2.2 dX5_tryGlide_134)
  exact key50 _ 1 Iz44 _ _ _ rfl ⟨by decide +kernel, by decide +kernel⟩ hIz44 fr_Iz44 (by have q1 := oI_0_1 (Iv_at hI hLy8 hKy8); have q2 := oI_0_2 (Iv_at hI hLy8 hKy8); rw [qIz44, rz_at, rz_fr _ _ _ _ (by decide), qIz39, rz_at, show (0 : Int32).toInt = 0 from by decide +kernel]; omega) (fun c ok h hs ha => by rw [show (1 : Int32).toInt = 1 from by decide +kernel]; exact gLI_0 (by rw [qIz44, rz_fr _ _ _ _ (by decide), qIz39, rz_fr _ _ _ _ (by decide), qIz34, rz_fr _ _ _ _ (by decide), qIz29, rz_at]; decide +kernel) (by rw [qIz44, rz_fr _ _ _ _ (by decide), qIz39, rz_at]; decide +kernel) (by rw [qIz44, rz_at]; decide +kernel)) hP hS (lv_sub hl [4, 5, 6, 7, 3, 2, 1, 0] rfl)

set_option maxHeartbeats 4000000 in
set_option maxRecDepth 100000 in
theorem s_X5_goingBy (l : Launch) (dC : Nat → ClassId) (dI : Nat → Nat → Nat) (cs : Nat → ClassId) (L : List Nat) (K G : Nat → Nat) (Q : Nat → Nat → Option Nat) (hQ : Sv L K G Q) (x0 m0 : Nat) (tx : GT) (tm : GT × Int) (sz : Nat) (I : Nat → Nat → Int32) (J : Nat → Nat → Int64) (hI : Iv L K x0 m0 tx tm I) (p0 : Nat) (hLp0 : p0 ∈ L) (hKp0 : K p0 = 5) (p1 : Int32) (bp1 : (0) ≤ p1.toInt ∧ p1.toInt ≤ 9) (p2 : Int32) (p3 : Int32) : Met l yX5_goingBy (.code yX5_goingBy cX5_goingBy 10 (some .int) :: pw) ({ frames := 4, cells := 0, slots := 0, locals := 106 }) (sP (dC, dI) cs [.ref p0, .int p1, .int p2, .int p3] sz L K I J Q) (va_Qi (fun (r : Int32) (_ : Unit) => (∀ c : Fx, okF c → cxF Q I J (nf Q p0) c → cxS Q I J p0 c → p1.toInt.toNat < (c.1 1).toInt.toNat → ((-2000 ≤ p2.toInt ∧ p2.toInt ≤ 2000) ∧ (-2000 ≤ p3.toInt ∧ p3.toInt ≤ 2000)) → ∀ o : Nat, hbt r o = true ↔ gR c p1.toInt.toNat p2.toInt p3.toInt o)) (fun _ _ => True) (fun _ => False)) 0 0 (fun _ => False) := by
  refine Met.ofW (cc := cX5_goingBy) (maxL := 10) (ret := (some .int)) (by decide +kernel) rfl ?_
  intro p e s m args below meth c s₁ B hml hv
  obtain ⟨rfl, hsz, hP, hK, hD0, hN⟩ := hv
  have hx := B.exec
  have hb := B.bytes
  have hr := B.returns
  have hts := fun w (h : w ∈ pw) => atoms_spec (ws := Cond.code yX5_goingBy cX5_goingBy 10 (some .int) :: pw) B.pre w (List.mem_cons_of_mem _ h)
  have hown : s.vm.findClass RX5 = some m.cls := findClass_of_methodNamed B.named
  have hlocks := B.notSynchronized
  subst hsz
  have hBB : 999 ≤ tm.2 ∧ tm.2 ≤ 6000000 := hI.2.2.2.2.1
  have hD := hD0
  obtain ⟨H, hHe⟩ : ∃ H : Heap, H = s.heap := ⟨_, rfl⟩
  have hS : va_S (fun _ => False) s.heap H [] := by rw [hHe]; exact va_S.rf
  rw [← hHe] at hP
  have hl := lv_entry ([.ref p0, .int p1, .int p2, .int p3]) (n := 10) (Nat.le_of_ble_eq_true rfl)
  rw [lg_entry_eq]
  generalize (lg_sl ([.ref p0, .int p1, .int p2, .int p3]) ++ List.replicate (10 - (lg_sl ([.ref p0, .int p1, .int p2, .int p3])).length) Slot.unset).toArray = ls at hl ⊢
  have hl : lv_has ls 10 [(0, .ref p0), (1, .int p1), (2, .int p2), (3, .int p3)] := hl
  rw [← hHe]
  refine namedW (fun R Qz hR hQz => ?_)
  refine lv_iconst (v := 1) hx hb dX5_goingBy_0 (by decide +kernel) ?_
  refine lv_iload_n hx hb dX5_goingBy_1 rfl (lv_at hl 1 rfl) ?_
  refine lv_ishl hx hb dX5_goingBy_2 ?_
  refine lv_topi (fun z2 ez2 => ?_)
  have bz2 := shl10 ez2 bp1
  refine lv_istore (lv' := [(4, .int z2), (0, .ref p0), (1, .int p1), (2, .int p2), (3, .int p3)]) hx hb dX5_goingBy_3 hl (by decide) rfl (fun ls hl => ?_)
  refine lv_iconst (v := 0) hx hb dX5_goingBy_5 (by decide +kernel) ?_
  refine lv_istore (lv' := [(5, .int 0), (4, .int z2), (0, .ref p0), (1, .int p1), (2, .int p2), (3, .int p3)]) hx hb dX5_goingBy_6 hl (by decide) rfl (fun ls hl => ?_)
  refine lv_iconst (v := 0) hx hb dX5_goingBy_8 (by decide +kernel) ?_
  refine lv_istore (lv' := [(6, .int 0), (5, .int 0), (4, .int z2), (0, .ref p0), (1, .int p1), (2, .int p2), (3, .int p3)]) hx hb dX5_goingBy_9 hl (by decide) rfl (fun ls hl => ?_)
  have key11 := blocks (fun n => ∀ (v11_4 : Int32) (v11_5 : Int32) (v11_6 : Int32) (H : Heap) (lo : List Loc) (ls : Array Slot), (11 - v11_6.toInt).toNat = n → ((0) ≤ v11_4.toInt ∧ v11_4.toInt ≤ 1023) → ((0) ≤ v11_5.toInt ∧ v11_5.toInt ≤ 1023) → ((0) ≤ v11_6.toInt ∧ v11_6.toInt ≤ 10) → v11_5 &&& v11_4 = v11_5 → (∀ c : Fx, okF c → cxF Q I J (nf Q p0) c → cxS Q I J p0 c → p1.toInt.toNat < (c.1 1).toInt.toNat → ((-2000 ≤ p2.toInt ∧ p2.toInt ≤ 2000) ∧ (-2000 ≤ p3.toInt ∧ p3.toInt ≤ 2000)) → goI c p1.toInt.toNat p2.toInt p3.toInt v11_4 v11_5 ∧ CB (hbt v11_5) (c.1 1).toInt.toNat = v11_6.toInt.toNat) → va_P (dC, dI) vwCl (Wd cs L K I J Q) H → va_S (fun _ => False) s.heap H lo → lv_has ls 10 [(0, .ref p0), (1, .int p1), (2, .int p2), (3, .int p3), (4, .int v11_4), (5, .int v11_5), (6, .int v11_6)] → W p l e R s m (([.ref p0, .int p1, .int p2, .int p3] : List Value).toArray) below meth c H lo 0 0 Qz (F0 m 11 ls [])) (by
    intro n ih11
    intro v11_4 v11_5 v11_6 H lo ls hmu11 bv11_4 bv11_5 bv11_6 hsub hg11 hP hS hl
    refine lv_iload hx hb dX5_goingBy_11 (lv_at hl 6 rfl) ?_
    refine lv_aload_n hx hb dX5_goingBy_13 rfl (lv_at hl 0 rfl) ?_
    obtain ⟨y14, ey14, hLy14, hKy14, hGy14⟩ := oQ_5_0 (Sv_at hQ hLp0 hKp0)
    refine p_get (v := .ref y14) hx hb hts inX5 hown hK hP hLp0 hKp0 rfl rfl 0 (by decide) (hts _ pq274) (congrArg (fun q => some (va_rf q)) ey14) dX5_goingBy_14 ?_
    refine p_get hx hb hts inX1 hown hK hP hLy14 hKy14 rfl rfl 3 (by decide) (hts _ pq225) rfl dX5_goingBy_17 ?_
    refine lv_topi (fun z17 ez17 => ?_)
    have cgz17 := congrArg Int32.toInt ez17
    have bz17 := oI_1_3 (Iv_at hI hLy14 hKy14)
    rw [← ez17] at bz17
    refine lv_icmp_ge (tgt := 133) hx hb dX5_goingBy_20 (by decide) (fun c20 => ?_) (fun c20 => ?_)
    · have t20 := tq_le (k := z17.toInt) (q := v11_6.toInt) c20 rfl rfl
      refine lv_iload hx hb dX5_goingBy_133 (lv_at hl 4 rfl) ?_
      subst hR; subst hQz
      exact W.iret (v := v11_4) hx hb hr (fun t ht hW => ⟨⟨v11_4, (), rfl, (fun c ok h hs ha bd => by obtain ⟨g, cb⟩ := hg11 c ok h hs ha bd; have n := h.2.1; rw [nf_of ey14, ← ez17] at n; first | exact goI_full ha g (by rw [cb, ← n]; omega) | exact goI_e g (fun o ho => by rw [show v11_5 = v11_4 from Int32.toInt_inj.mp t27]; exact ho)), trivial⟩, hS.F ht⟩) hS.2.2 dX5_goingBy_135
    · have t20 := tq_nle (k := z17.toInt) (q := v11_6.toInt) c20 rfl rfl
      refine lv_iload hx hb dX5_goingBy_23 (lv_at hl 5 rfl) ?_
      refine lv_iload hx hb dX5_goingBy_25 (lv_at hl 4 rfl) ?_
      refine lv_icmp_eq (tgt := 133) hx hb dX5_goingBy_27 (by decide) (fun c27 => ?_) (fun c27 => ?_)
      · have t27 := tq_eq (k := v11_5.toInt) (q := v11_4.toInt) c27 rfl rfl
        refine lv_iload hx hb dX5_goingBy_133 (lv_at hl 4 rfl) ?_
        subst hR; subst hQz
        exact W.iret (v := v11_4) hx hb hr (fun t ht hW => ⟨⟨v11_4, (), rfl, (fun c ok h hs ha bd => by obtain ⟨g, cb⟩ := hg11 c ok h hs ha bd; have n := h.2.1; rw [nf_of ey14, ← ez17] at n; first | exact goI_full ha g (by rw [cb, ← n]; omega) | exact goI_e g (fun o ho => by rw [show v11_5 = v11_4 from Int32.toInt_inj.mp t27]; exact ho)), trivial⟩, hS.F ht⟩) hS.2.2 dX5_goingBy_135
      · have t27 := tq_ne (k := v11_5.toInt) (q := v11_4.toInt) c27 rfl rfl
        refine lv_iload hx hb dX5_goingBy_30 (lv_at hl 4 rfl) ?_
        refine lv_iload hx hb dX5_goingBy_32 (lv_at hl 5 rfl) ?_
        refine lv_iconst (v := (-1)) hx hb dX5_goingBy_34 (by decide +kernel) ?_
        refine lv_ixor hx hb dX5_goingBy_35 ?_
        refine lv_topi (fun z35 ez35 => ?_)
        refine lv_iand hx hb dX5_goingBy_36 ?_
        refine lv_topi (fun z36 ez36 => ?_)
        have bz36 := nx10 ez36 ez35 hsub bv11_4 t27
        refine lv_istore (lv' := [(7, .int z36), (0, .ref p0), (1, .int p1), (2, .int p2), (3, .int p3), (4, .int v11_4), (5, .int v11_5), (6, .int v11_6)]) hx hb dX5_goingBy_37 hl (by decide) rfl (fun ls hl => ?_)
        refine lv_iload hx hb dX5_goingBy_39 (lv_at hl 0 rfl) ?_
        refine lv_iload hx hb dX5_goingBy_41 (lv_at hl 0 rfl) ?_
        refine lv_ineg hx hb dX5_goingBy_43 ?_
        refine lv_topi (fun z43 ez43 => ?_)
        have bz43 := tq_neg (k := z36.toInt) ez43 rfl (by omega) (by omega)
        refine lv_iand hx hb dX5_goingBy_44 ?_
        refine lv_topi (fun z44 ez44 => ?_)
        refine lv_iconst (v := 1) hx hb dX5_goingBy_45 (by decide +kernel) ?_
        refine lv_isub hx hb dX5_goingBy_46 ?_
        refine lv_topi (fun z46 ez46 => ?_)
        refine ro_i (va_runS (As := [.int z46]) (rest := []) ⟨hx, hb, hml, hown, hts⟩ (s_J6_bitCount l dC dI cs L K Q H.size I J z46) (va_cwS 1 hts (gS pq803 pq804 pq91 pq805) rfl rfl rfl (by decide +kernel) ⟨(by rw [hR]; exact (Nat.le_of_ble_eq_true rfl)), (by rw [hR]; exact (Nat.le_of_ble_eq_true rfl))⟩) (sP_S hP hD hK hN) rfl rfl hl.1 rfl (lv_room (Nat.le_of_ble_eq_true rfl)) dX5_goingBy_47 ⟨(by rw [hR]; exact (Nat.le_of_ble_eq_true rfl)), (by rw [hR]; exact (Nat.le_of_ble_eq_true rfl))⟩) hS hP (fun z47 H locs hz47 hP hS => ?_)
        have xpz47 := hz47
        have bz47 := lo10 ez43 ez44 ez46 xpz47 bz36
        refine lv_istore (lv' := [(8, .int z47), (7, .int z36), (0, .ref p0), (1, .int p1), (2, .int p2), (3, .int p3), (4, .int v11_4), (5, .int v11_5), (6, .int v11_6)]) hx hb dX5_goingBy_50 hl (by decide) rfl (fun ls hl => ?_)
        refine lv_iload hx hb dX5_goingBy_52 (lv_at hl 7 rfl) ?_
        refine lv_iconst (v := 1) hx hb dX5_goingBy_54 (by decide +kernel) ?_
        refine lv_iload hx hb dX5_goingBy_55 (lv_at hl 0 rfl) ?_
        refine lv_ishl hx hb dX5_goingBy_57 ?_
        refine lv_topi (fun z57 ez57 => ?_)
        have bz57 := shl10 ez57 bz47
        refine lv_ior hx hb dX5_goingBy_58 ?_
        refine lv_topi (fun z58 ez58 => ?_)
        have bz58 := or10 ez58 bv11_5 bz57
        refine lv_istore (lv' := [(5, .int z58), (8, .int z47), (7, .int z36), (0, .ref p0), (1, .int p1), (2, .int p2), (3, .int p3), (4, .int v11_4), (6, .int v11_6)]) hx hb dX5_goingBy_59 hl (by decide) rfl (fun ls hl => ?_)
        have b58 : ∀ i, hbt z58 i = (hbt v11_5 i || decide (i = z47.toInt.toNat)) := hb_set ez57 ez58 bz47
        have l58 : hbt v11_4 z47.toInt.toNat = true ∧ hbt v11_5 z47.toInt.toNat = false := lo_bit ez36 ez35 ez43 ez44 ez46 xpz47 bz36 bz47
        refine lv_iconst (v := 0) hx hb dX5_goingBy_61 (by decide +kernel) ?_
        refine lv_istore (lv' := [(9, .int 0), (5, .int z58), (8, .int z47), (7, .int z36), (0, .ref p0), (1, .int p1), (2, .int p2), (3, .int p3), (4, .int v11_4), (6, .int v11_6)]) hx hb dX5_goingBy_62 hl (by decide) rfl (fun ls hl => ?_)
        have key64 := blocks (fun n => ∀ (v64_4 : Int32) (v64_9 : Int32) (H : Heap) (lo : List Loc) (ls : Array Slot), (11 - v64_9.toInt).toNat = n → ((0) ≤ v64_4.toInt ∧ v64_4.toInt ≤ 1023) → ((0) ≤ v64_9.toInt ∧ v64_9.toInt ≤ 10) → z58 &&& v64_4 = z58 → (∀ c : Fx, okF c → cxF Q I J (nf Q p0) c → cxS Q I J p0 c → p1.toInt.toNat < (c.1 1).toInt.toNat → ((-2000 ≤ p2.toInt ∧ p2.toInt ≤ 2000) ∧ (-2000 ≤ p3.toInt ∧ p3.toInt ≤ 2000)) → goN c p1.toInt.toNat p2.toInt p3.toInt v64_4 z58 z47.toInt.toNat v64_9.toInt.toNat) → va_P (dC, dI) vwCl (Wd cs L K I J Q) H → va_S (fun _ => False) s.heap H lo → lv_has ls 10 [(0, .ref p0), (1, .int p1), (2, .int p2), (3, .int p3), (4, .int v64_4), (5, .int z58), (6, .int v11_6), (7, .int z36), (8, .int z47), (9, .int v64_9)] → W p l e R s m (([.ref p0, .int p1, .int p2, .int p3] : List Value).toArray) below meth c H lo 0 0 Qz (F0 m 64 ls [])) (by
          intro n ih64
          intro v64_4 v64_9 H lo ls hmu64 bv64_4 bv64_9 hsub64 hg64 hP hS hl
          refine lv_iload hx hb dX5_goingBy_64 (lv_at hl 9 rfl) ?_
          refine lv_aload_n hx hb dX5_goingBy_66 rfl (lv_at hl 0 rfl) ?_
          refine p_get (v := .ref y14) hx hb hts inX5 hown hK hP hLp0 hKp0 rfl rfl 0 (by decide) (hts _ pq274) (congrArg (fun q => some (va_rf q)) ey14) dX5_goingBy_67 ?_
          refine p_get hx hb hts inX1 hown hK hP hLy14 hKy14 rfl rfl 3 (by decide) (hts _ pq225) rfl dX5_goingBy_70 ?_
          refine lv_topi (fun z70 ez70 => ?_)
          obtain rfl : z17 = z70 := ez17.trans ez70.symm
          refine lv_icmp_ge (tgt := 127) hx hb dX5_goingBy_73 (by decide) (fun c73 => ?_) (fun c73 => ?_)
          · have t73 := tq_le (k := z17.toInt) (q := v64_9.toInt) c73 rfl rfl
            obtain ⟨z127, ez127⟩ : ∃ y : Int32, y = v11_6 + 1 := ⟨_, rfl⟩
            refine lv_iinc (v := z127) (lv' := [(6, .int z127), (0, .ref p0), (1, .int p1), (2, .int p2), (3, .int p3), (4, .int v64_4), (5, .int z58), (7, .int z36), (8, .int z47), (9, .int v64_9)]) hx hb dX5_goingBy_127 hl (k := 6) rfl (by rw [ez127]; rfl) (by decide) rfl (fun ls hl => ?_)
            have bz127 := tq_add (k := v11_6.toInt) (q := 1) ez127 rfl (by decide +kernel) (by omega) (by omega)
            refine lv_goto (tgt := 11) hx hb dX5_goingBy_130 (by decide) ?_
            exact ih11 _ (by omega) v64_4 z58 z127 _ _ _ rfl ⟨by omega, by omega⟩ ⟨by omega, by omega⟩ ⟨by omega, by omega⟩ hsub64 (fun c ok h hs ha bd => by obtain ⟨g, cb⟩ := hg11 c ok h hs ha bd; have q := hg64 c ok h hs ha bd; have n := h.2.1; rw [nf_of ey14, ← ez17] at n; have cc := CB_add (gR_lt ha (g.2.1 _ l58.1)) l58.2 b58; exact ⟨goN_e q (by rw [← n]; omega), by rw [cc, cb]; omega⟩) hP hS (lv_sub hl [1, 2, 3, 4, 5, 6, 0] rfl)
          · have t73 := tq_nle (k := z17.toInt) (q := v64_9.toInt) c73 rfl rfl
            refine lv_iload hx hb dX5_goingBy_76 (lv_at hl 4 rfl) ?_
            refine lv_iload hx hb dX5_goingBy_78 (lv_at hl 9 rfl) ?_
            refine lv_ishr hx hb dX5_goingBy_80 ?_
            refine lv_topi (fun z80 ez80 => ?_)
            refine lv_iconst (v := 1) hx hb dX5_goingBy_81 (by decide +kernel) ?_
            refine lv_iand hx hb dX5_goingBy_82 ?_
            refine lv_topi (fun z82 ez82 => ?_)
            have bz82 := tq_and 1 ez82 (by decide +kernel) (by decide)
            have j121 : ∀ (v121_4 : Int32) (H : Heap) (lo : List Loc) (ls : Array Slot), ((0) ≤ v121_4.toInt ∧ v121_4.toInt ≤ 1023) → z58 &&& v121_4 = z58 → (∀ c : Fx, okF c → cxF Q I J (nf Q p0) c → cxS Q I J p0 c → p1.toInt.toNat < (c.1 1).toInt.toNat → ((-2000 ≤ p2.toInt ∧ p2.toInt ≤ 2000) ∧ (-2000 ≤ p3.toInt ∧ p3.toInt ≤ 2000)) → goN c p1.toInt.toNat p2.toInt p3.toInt v121_4 z58 z47.toInt.toNat (v64_9.toInt.toNat + 1)) → va_P (dC, dI) vwCl (Wd cs L K I J Q) H → va_S (fun _ => False) s.heap H lo → lv_has ls 10 [(0, .ref p0), (1, .int p1), (2, .int p2), (3, .int p3), (4, .int v121_4), (5, .int z58), (6, .int v11_6), (7, .int z36), (8, .int z47), (9, .int v64_9)] → W p l e R s m (([.ref p0, .int p1, .int p2, .int p3] : List Value).toArray) below meth c H lo 0 0 Qz (F0 m 121 ls []) := by
              intro v121_4 H lo ls bv121_4 hsub121 hg121 hP hS hl
              obtain ⟨z121, ez121⟩ : ∃ y : Int32, y = v64_9 + 1 := ⟨_, rfl⟩
              refine lv_iinc (v := z121) (lv' := [(9, .int z121), (0, .ref p0), (1, .int p1), (2, .int p2), (3, .int p3), (4, .int v121_4), (5, .int z58), (6, .int v11_6), (7, .int z36), (8, .int z47)]) hx hb dX5_goingBy_121 hl (k := 9) rfl (by rw [ez121]; rfl) (by decide) rfl (fun ls hl => ?_)
              have bz121 := tq_add (k := v64_9.toInt) (q := 1) ez121 rfl (by decide +kernel) (by omega) (by omega)
              refine lv_goto (tgt := 64) hx hb dX5_goingBy_124 (by decide) ?_
              exact ih64 _ (by omega) v121_4 z121 _ _ _ rfl ⟨by omega, by omega⟩ ⟨by omega, by omega⟩ hsub121 (fun c ok h hs ha bd => by rw [show z121.toInt.toNat = v64_9.toInt.toNat + 1 by omega]; exact hg121 c ok h hs ha bd) hP hS (lv_sub hl [1, 2, 3, 4, 5, 6, 7, 8, 9, 0] rfl)
            refine lv_if_ne (tgt := 121) hx hb dX5_goingBy_83 (by decide) (fun c83 => ?_) (fun c83 => ?_)
            · have t83 := tq_ne (k := z82.toInt) (q := (0)) c83 rfl (by decide +kernel)
              exact j121 v64_4 _ _ _ ⟨by omega, by omega⟩ hsub64 (fun c ok h hs ha bd => by have q := hg64 c ok h hs ha bd; have n := h.2.1; rw [nf_of ey14, ← ez17] at n; have hN : v64_9.toInt.toNat < (c.1 1).toInt.toNat := (by rw [← n]; omega); have h1 := gR_lt ha (q.2.1 _ (q.2.2.1 _ q.2.2.2.2.1)); refine goN_no q rfl ?_; exact Or.inl (Classical.byContradiction (fun w => t83 ((hb_shr ez80 ez82 ⟨by omega, by omega⟩).2.mpr (eq_false_of_ne_true w))))) hP hS (lv_sub hl [0, 1, 2, 3, 4, 5, 6, 7, 8, 9] rfl)
            · have t83 := tq_eq (k := z82.toInt) (q := (0)) c83 rfl (by decide +kernel)
              refine lv_aload_n hx hb dX5_goingBy_86 rfl (lv_at hl 0 rfl) ?_
              refine lv_iload hx hb dX5_goingBy_87 (lv_at hl 8 rfl) ?_
              refine lv_iload hx hb dX5_goingBy_89 (lv_at hl 9 rfl) ?_
              refine lv_iload_n hx hb dX5_goingBy_91 rfl (lv_at hl 2 rfl) ?_
              refine lv_iload_n hx hb dX5_goingBy_92 rfl (lv_at hl 3 rfl) ?_
              refine ro_i (va_runV (As := [.int z47, .int v64_9, .int p2, .int p3]) (rest := []) ⟨hx, hb, hml, hown, hts⟩ (s_X5_touchesIfMoved l dC dI cs L K G Q hQ x0 m0 tx tm H.size I J hI p0 hLp0 hKp0 z47 ⟨by omega, by omega⟩ v64_9 ⟨by omega, by omega⟩ p2 p3) (cwV 4 hts (gV pq809 pq810 pq811 pq79 pq812) rfl rfl rfl (by decide +kernel) ⟨(by rw [hR]; exact (Nat.le_of_ble_eq_true rfl)), (by rw [hR]; exact (Nat.le_of_ble_eq_true rfl))⟩) (sP_V hP hD hK hN hLp0 hKp0 rfl rfl) rfl rfl hl.1 rfl (lv_room (Nat.le_of_ble_eq_true rfl)) dX5_goingBy_93 ⟨(by rw [hR]; exact (Nat.le_of_ble_eq_true rfl)), (by rw [hR]; exact (Nat.le_of_ble_eq_true rfl))⟩) hS hP (fun z93 H locs hz93 hP hS => ?_)
              obtain ⟨bz93, xpz93⟩ := hz93
              refine lv_if_eq (tgt := 121) hx hb dX5_goingBy_96 (by decide) (fun c96 => ?_) (fun c96 => ?_)
              · have t96 := tq_eq (k := z93.toInt) (q := (0)) c96 rfl (by decide +kernel)
                exact j121 v64_4 _ _ _ ⟨by omega, by omega⟩ hsub64 (fun c ok h hs ha bd => by have q := hg64 c ok h hs ha bd; have n := h.2.1; rw [nf_of ey14, ← ez17] at n; have hN : v64_9.toInt.toNat < (c.1 1).toInt.toNat := (by rw [← n]; omega); have h1 := gR_lt ha (q.2.1 _ (q.2.2.1 _ q.2.2.2.2.1)); refine goN_no q rfl ?_; exact Or.inr (fun p => (xpz93 c ok h hs h1 hN (bd20 bd)).mpr ⟨p.2.1, p.2.2.1⟩ t96)) hP hS (lv_sub hl [0, 1, 2, 3, 4, 5, 6, 7, 8, 9] rfl)
              · have t96 := tq_ne (k := z93.toInt) (q := (0)) c96 rfl (by decide +kernel)
                refine lv_aload_n hx hb dX5_goingBy_99 rfl (lv_at hl 0 rfl) ?_
                refine lv_iload hx hb dX5_goingBy_100 (lv_at hl 8 rfl) ?_
                refine lv_iload hx hb dX5_goingBy_102 (lv_at hl 9 rfl) ?_
                refine lv_iconst (v := 0) hx hb dX5_goingBy_104 (by decide +kernel) ?_
                refine lv_iconst (v := 0) hx hb dX5_goingBy_105 (by decide +kernel) ?_
                refine ro_i (va_runV (As := [.int z47, .int v64_9, .int 0, .int 0]) (rest := []) ⟨hx, hb, hml, hown, hts⟩ (s_X5_shareIfMoved l dC dI cs L K G Q hQ x0 m0 tx tm H.size I J hI p0 hLp0 hKp0 z47 ⟨by omega, by omega⟩ v64_9 ⟨by omega, by omega⟩ 0 0) (cwV 4 hts (gV pq766 pq767 pq768 pq79 pq769) rfl rfl rfl (by decide +kernel) ⟨(by rw [hR]; exact (Nat.le_of_ble_eq_true rfl)), (by rw [hR]; exact (Nat.le_of_ble_eq_true rfl))⟩) (sP_V hP hD hK hN hLp0 hKp0 rfl rfl) rfl rfl hl.1 rfl (lv_room (Nat.le_of_ble_eq_true rfl)) dX5_goingBy_106 ⟨(by rw [hR]; exact (Nat.le_of_ble_eq_true rfl)), (by rw [hR]; exact (Nat.le_of_ble_eq_true rfl))⟩) hS hP (fun z106 H locs hz106 hP hS => ?_)
                have cst106_0 : (0 : Int32).toInt = 0 := by decide +kernel
                obtain ⟨bz106, xpz106⟩ := hz106
                try rw [cst106_0] at xpz106
                refine lv_if_ne (tgt := 121) hx hb dX5_goingBy_109 (by decide) (fun c109 => ?_) (fun c109 => ?_)
                · have t109 := tq_ne (k := z106.toInt) (q := (0)) c109 rfl (by decide +kernel)
                  exact j121 v64_4 _ _ _ ⟨by omega, by omega⟩ hsub64 (fun c ok h hs ha bd => by have q := hg64 c ok h hs ha bd; have n := h.2.1; rw [nf_of ey14, ← ez17] at n; have hN : v64_9.toInt.toNat < (c.1 1).toInt.toNat := (by rw [← n]; omega); have h1 := gR_lt ha (q.2.1 _ (q.2.2.1 _ q.2.2.2.2.1)); refine goN_no q rfl ?_; exact Or.inr (fun p => p.2.2.2 ((xpz106 c ok h hs h1 hN (by decide +kernel)).mp t109))) hP hS (lv_sub hl [0, 1, 2, 3, 4, 5, 6, 7, 8, 9] rfl)
                · have t109 := tq_eq (k := z106.toInt) (q := (0)) c109 rfl (by decide +kernel)
                  refine lv_iload hx hb dX5_goingBy_112 (lv_at hl 4 rfl) ?_
                  refine lv_iconst (v := 1) hx hb dX5_goingBy_114 (by decide +kernel) ?_
                  refine lv_iload hx hb dX5_goingBy_115 (lv_at hl 9 rfl) ?_
                  refine lv_ishl hx hb dX5_goingBy_117 ?_
                  refine lv_topi (fun z117 ez117 => ?_)
                  have bz117 := shl10 ez117 ⟨by omega, by omega⟩
                  refine lv_ior hx hb dX5_goingBy_118 ?_
                  refine lv_topi (fun z118 ez118 => ?_)
                  have bz118 := or10 ez118 bv64_4 bz117
                  refine lv_istore (lv' := [(4, .int z118), (0, .ref p0), (1, .int p1), (2, .int p2), (3, .int p3), (5, .int z58), (6, .int v11_6), (7, .int z36), (8, .int z47), (9, .int v64_9)]) hx hb dX5_goingBy_119 hl (by decide) rfl (fun ls hl => ?_)
                  exact j121 z118 _ _ _ ⟨by omega, by omega⟩ (sub_or hsub64 ez118) (fun c ok h hs ha bd => by have q := hg64 c ok h hs ha bd; have n := h.2.1; rw [nf_of ey14, ← ez17] at n; have hN : v64_9.toInt.toNat < (c.1 1).toInt.toNat := (by rw [← n]; omega); have h1 := gR_lt ha (q.2.1 _ (q.2.2.1 _ q.2.2.2.2.1)); exact goN_yes q rfl hN ((hb_shr ez80 ez82 ⟨by omega, by omega⟩).2.mp t83) ⟨((xpz93 c ok h hs h1 hN (bd20 bd)).mp t96).1, ((xpz93 c ok h hs h1 hN (bd20 bd)).mp t96).2, fun m => (xpz106 c ok h hs h1 hN (by decide +kernel)).mpr m t109⟩ (hb_set ez117 ez118 ⟨by omega, by omega⟩)) hP hS (lv_sub hl [1, 2, 3, 4, 0, 5, 6, 7, 8, 9] rfl))
        exact key64 _ v11_4 0 _ _ _ rfl ⟨by omega, by omega⟩ ⟨by decide +kernel, by decide +kernel⟩ (as10 ez36 ez43 ez44 ez46 xpz47 ez57 ez58 bz36 hsub) (fun c ok h hs ha bd => by rw [show (0 : Int32).toInt.toNat = 0 from by decide +kernel]; exact goN_0 (hg11 c ok h hs ha bd).1 l58.1 b58) hP hS (lv_sub hl [4, 5, 6, 7, 8, 1, 9, 3, 2, 0] rfl))
  exact key11 _ z2 0 0 _ _ _ rfl ⟨by omega, by omega⟩ ⟨by decide +kernel, by decide +kernel⟩ ⟨by decide +kernel, by decide +kernel⟩ (by rw [Int32.zero_and]) (fun c ok h hs ha bd => ⟨goI_0 (hb_one ez2 bp1), by rw [CB_0]; decide +kernel⟩) hP hS (lv_sub hl [3, 4, 5, 6, 2, 1, 0] rfl)

set_option maxHeartbeats 4000000 in
set_option maxRecDepth 100000 in
theorem s_X5_moveAll (l : Launch) (dC : Nat → ClassId) (dI : Nat → Nat → Nat) (cs : Nat → ClassId) (L : List Nat) (K G : Nat → Nat) (Q : Nat → Nat → Option Nat) (hQ : Sv L K G Q) (x0 m0 : Nat) (tx : GT) (tm : GT × Int) (sz : Nat) (I : Nat → Nat → Int32) (J : Nat → Nat → Int64) (hI : Iv L K x0 m0 tx tm I) (p0 : Nat) (hLp0 : p0 ∈ L) (hKp0 : K p0 = 5) (p1 : Int32) (p2 : Int32) (bp2 : (-400) ≤ p2.toInt ∧ p2.toInt ≤ 400) (p3 : Int32) (bp3 : (-400) ≤ p3.toInt ∧ p3.toInt ≤ 400) (hg : goAll tm.2 Q I p0 p1 p2 p3) : Met l yX5_moveAll (.code yX5_moveAll cX5_moveAll 5 none :: pw) ({ frames := 0, cells := 0, slots := 0, locals := 0 }) (sP (dC, dI) cs [.ref p0, .int p1, .int p2, .int p3] sz L K I J Q) (va_Qv (fun (_ : Unit) => True) (fun _ t => sB (dC, dI) cs L K Q (fun I1 J1 => Iv L K x0 m0 tx tm I1 ∧ (∀ b, ¬ (K b = 0) → I1 b = I b) ∧ (∃ n : Nat, (I (nf Q p0) 3).toInt ≤ (n : Int) ∧ mvI Q I I1 (nf Q p0) p1 p2 p3 n) ∧ J1 = J) t) (fun q => q ∈ L ∨ sz ≤ q)) 0 0 (fun q => q ∈ L ∨ sz ≤ q) := by
  refine Met.ofW (cc := cX5_moveAll) (maxL := 5) (ret := none) (by decide +kernel) rfl ?_
  intro p e s m args below meth c s₁ B hml hv
  obtain ⟨rfl, hsz, hP, hK, hD0, hN⟩ := hv
  have hx := B.exec
  have hb := B.bytes
  have hr := B.returns
  have hts := fun w (h : w ∈ pw) => atoms_spec (ws := Cond.code yX5_moveAll cX5_moveAll 5 none :: pw) B.pre w (List.mem_cons_of_mem _ h)
  have hown : s.vm.findClass RX5 = some m.cls := findClass_of_methodNamed B.named
  have hlocks := B.notSynchronized
  subst hsz
  have hBB : 999 ≤ tm.2 ∧ tm.2 ≤ 6000000 := hI.2.2.2.2.1
  have dj_J : J = J := rfl
  have fr_I : ∀ b, ¬ (K b = 0) → I b = I b := fun _ _ => rfl
  obtain ⟨A, hAe⟩ : ∃ A : Nat → Prop, A = (fun q => q ∈ L ∨ s.heap.size ≤ q) := ⟨_, rfl⟩
  rw [← hAe]
  have hAL : ∀ q, q ∈ L → A q := fun q h => by rw [hAe]; exact Or.inl h
  have hA : ∀ q, s.heap.size ≤ q → A q := fun q h => by rw [hAe]; exact Or.inr h
  have hD : ∀ F, va_D A (va_pl L F) := fun F => (hD0 F).weaken (fun k q hk _ => hAL _ (pl_mem hk))
  obtain ⟨H, hHe⟩ : ∃ H : Heap, H = s.heap := ⟨_, rfl⟩
  have hS : va_S A s.heap H [] := by rw [hHe]; exact va_S.rf
  rw [← hHe] at hP
  have hl := lv_entry ([.ref p0, .int p1, .int p2, .int p3]) (n := 5) (Nat.le_of_ble_eq_true rfl)
  rw [lg_entry_eq]
  generalize (lg_sl ([.ref p0, .int p1, .int p2, .int p3]) ++ List.replicate (5 - (lg_sl ([.ref p0, .int p1, .int p2, .int p3])).length) Slot.unset).toArray = ls at hl ⊢
  have hl : lv_has ls 5 [(0, .ref p0), (1, .int p1), (2, .int p2), (3, .int p3)] := hl
  rw [← hHe]
  refine namedW (fun R Qz hR hQz => ?_)
  refine lv_iconst (v := 0) hx hb dX5_moveAll_0 (by decide +kernel) ?_
  refine lv_istore (lv' := [(4, .int 0), (0, .ref p0), (1, .int p1), (2, .int p2), (3, .int p3)]) hx hb dX5_moveAll_1 hl (by decide) rfl (fun ls hl => ?_)
  have key3 := blocks (fun n => ∀ (v3_4 : Int32) (I3 : Nat → Nat → Int32) (H : Heap) (lo : List Loc) (ls : Array Slot), (11 - v3_4.toInt).toNat = n → ((0) ≤ v3_4.toInt ∧ v3_4.toInt ≤ 10) → Iv L K x0 m0 tx tm I3 → (∀ b, ¬ (K b = 0) → I3 b = I b) → (∀ yf, Q p0 0 = some yf → goOK tm.2 Q I3 p0 p1 p2 p3 v3_4.toInt (I yf 3).toInt) → mvI Q I I3 (nf Q p0) p1 p2 p3 v3_4.toInt.toNat → va_P (dC, dI) vwCl (Wd cs L K I3 J Q) H → va_S A s.heap H lo → lv_has ls 5 [(0, .ref p0), (1, .int p1), (2, .int p2), (3, .int p3), (4, .int v3_4)] → W p l e R s m (([.ref p0, .int p1, .int p2, .int p3] : List Value).toArray) below meth c H lo 0 0 Qz (F0 m 3 ls [])) (by
    intro n ih3
    intro v3_4 I3 H lo ls hmu3 bv3_4 hI3 fr_I3 hgo hmv hP hS hl
    refine lv_iload hx hb dX5_moveAll_3 (lv_at hl 4 rfl) ?_
    refine lv_aload_n hx hb dX5_moveAll_5 rfl (lv_at hl 0 rfl) ?_
    obtain ⟨y6, ey6, hLy6, hKy6, hGy6⟩ := oQ_5_0 (Sv_at hQ hLp0 hKp0)
    refine p_get (v := .ref y6) hx hb hts inX5 hown hK hP hLp0 hKp0 rfl rfl 0 (by decide) (hts _ pq274) (congrArg (fun q => some (va_rf q)) ey6) dX5_moveAll_6 ?_
    refine p_get hx hb hts inX1 hown hK hP hLy6 hKy6 rfl rfl 3 (by decide) (hts _ pq225) rfl dX5_moveAll_9 ?_
    refine lv_topi (fun z9 ez9 => ?_)
    have cgz9 := congrArg Int32.toInt ez9
    have bz9 := oI_1_3 (Iv_at hI3 hLy6 hKy6)
    rw [← ez9] at bz9
    have f9 := congrArg Int32.toInt (ez9.trans (congrFun (fr_I3 y6 (by have := hKy6; omega)) 3))
    refine lv_icmp_ge (tgt := 69) hx hb dX5_moveAll_12 (by decide) (fun c12 => ?_) (fun c12 => ?_)
    · have t12 := tq_le (k := z9.toInt) (q := v3_4.toInt) c12 rfl rfl
      subst hR; subst hQz
      exact W.vret hx hb hr (fun t ht hW => ⟨⟨(), rfl, trivial, ⟨I3, J, ⟨hI3, fr_I3, ⟨v3_4.toInt.toNat, by rw [nf_of ey6]; omega, hmv⟩, dj_J⟩, by rw [ht]; exact hP⟩⟩, hS.F ht⟩) hS.2.2 dX5_moveAll_69
    · have t12 := tq_nle (k := z9.toInt) (q := v3_4.toInt) c12 rfl rfl
      refine lv_iload_n hx hb dX5_moveAll_15 rfl (lv_at hl 1 rfl) ?_
      refine lv_iload hx hb dX5_moveAll_16 (lv_at hl 4 rfl) ?_
      refine lv_ishr hx hb dX5_moveAll_18 ?_
      refine lv_topi (fun z18 ez18 => ?_)
      refine lv_iconst (v := 1) hx hb dX5_moveAll_19 (by decide +kernel) ?_
      refine lv_iand hx hb dX5_moveAll_20 ?_
      refine lv_topi (fun z20 ez20 => ?_)
      have bz20 := tq_and 1 ez20 (by decide +kernel) (by decide)
      refine lv_iconst (v := 1) hx hb dX5_moveAll_21 (by decide +kernel) ?_
      have j63 : ∀ (I63 : Nat → Nat → Int32) (H : Heap) (lo : List Loc) (ls : Array Slot), Iv L K x0 m0 tx tm I63 → (∀ b, ¬ (K b = 0) → I63 b = I b) → (∀ yf, Q p0 0 = some yf → goOK tm.2 Q I63 p0 p1 p2 p3 (v3_4.toInt + 1) (I yf 3).toInt) → mvI Q I I63 (nf Q p0) p1 p2 p3 (v3_4.toInt.toNat + 1) → va_P (dC, dI) vwCl (Wd cs L K I63 J Q) H → va_S A s.heap H lo → lv_has ls 5 [(0, .ref p0), (1, .int p1), (2, .int p2), (3, .int p3), (4, .int v3_4)] → W p l e R s m (([.ref p0, .int p1, .int p2, .int p3] : List Value).toArray) below meth c H lo 0 0 Qz (F0 m 63 ls []) := by
        intro I63 H lo ls hI63 fr_I63 hgo63 hm63 hP hS hl
        obtain ⟨z63, ez63⟩ : ∃ y : Int32, y = v3_4 + 1 := ⟨_, rfl⟩
        refine lv_iinc (v := z63) (lv' := [(4, .int z63), (0, .ref p0), (1, .int p1), (2, .int p2), (3, .int p3)]) hx hb dX5_moveAll_63 hl (k := 4) rfl (by rw [ez63]; rfl) (by decide) rfl (fun ls hl => ?_)
        have bz63 := tq_add (k := v3_4.toInt) (q := 1) ez63 rfl (by decide +kernel) (by omega) (by omega)
        refine lv_goto (tgt := 3) hx hb dX5_moveAll_66 (by decide) ?_
        exact ih3 _ (by omega) z63 I63 _ _ _ rfl ⟨by omega, by omega⟩ hI63 fr_I63 (fun yf e => by rw [bz63]; exact hgo63 yf e) (by rw [show z63.toInt.toNat = v3_4.toInt.toNat + 1 by omega]; exact hm63) hP hS (lv_sub hl [1, 2, 3, 4, 0] rfl)
      refine lv_icmp_ne (tgt := 63) hx hb dX5_moveAll_22 (by decide) (fun c22 => ?_) (fun c22 => ?_)
      · have t22 := tq_ne (k := z20.toInt) (q := (1)) c22 rfl (by decide +kernel)
        exact j63 I3 _ _ _ hI3 fr_I3 (fun yf e => goF_skip (hgo yf e) rfl) (mvI_n hmv rfl (eq_false_of_ne_true (fun w => t22 ((hb_shr ez18 ez20 ⟨by omega, by omega⟩).1.mpr w)))) hP hS (lv_sub hl [0, 1, 2, 3, 4] rfl)
      · have t22 := tq_eq (k := z20.toInt) (q := (1)) c22 rfl (by decide +kernel)
        refine lv_aload_n hx hb dX5_moveAll_25 rfl (lv_at hl 0 rfl) ?_
        refine p_get (v := .ref y6) hx hb hts inX5 hown hK hP hLp0 hKp0 rfl rfl 0 (by decide) (hts _ pq274) (congrArg (fun q => some (va_rf q)) ey6) dX5_moveAll_26 ?_
        obtain ⟨y29, ey29, hLy29, hKy29, hGy29⟩ := oQ_1_1 (Sv_at hQ hLy6 hKy6)
        refine p_get (v := .ref y29) hx hb hts inX1 hown hK hP hLy6 hKy6 rfl rfl 1 (by decide) (hts _ pq218) (congrArg (fun q => some (va_rf q)) ey29) dX5_moveAll_29 ?_
        refine lv_iload hx hb dX5_moveAll_32 (lv_at hl 4 rfl) ?_
        obtain ⟨y34, ey34, hLy34, hKy34, hGy34⟩ := (Sv_at hQ hLy29 hKy29).1 v3_4.toNatClampNeg (clamp_lt (n := 10) (in_of (by omega) (by omega)))
        refine p_aaldR hx hb hK hP 4 hLy29 hKy29 rfl rfl (in_of (by omega) (by omega)) ey34 dX5_moveAll_34 ?_
        refine lv_dup hx hb dX5_moveAll_35 rfl ?_
        refine p_get hx hb hts inX0 hown hK hP hLy34 hKy34 rfl rfl 1 (by decide) (hts _ pq173) rfl dX5_moveAll_36 ?_
        refine lv_topi (fun z36 ez36 => ?_)
        have cgz36 := congrArg Int32.toInt ez36
        have bz36 := oI_0_1 (Iv_at hI3 hLy34 hKy34)
        rw [← ez36] at bz36
        have gg := hgo y6 ey6 y6 y29 y34 v3_4 ey6 ey29 (by omega) (by omega) ey34 (by rw [← ez18, ← ez20]; exact Int32.toInt_inj.mp (t22.trans (by decide +kernel)))
        unfold bnd at gg
        refine lv_iload_n hx hb dX5_moveAll_39 rfl (lv_at hl 2 rfl) ?_
        refine lv_iadd hx hb dX5_moveAll_40 ?_
        refine lv_topi (fun z40 ez40 => ?_)
        have bz40 := tq_add (k := z36.toInt) (q := p2.toInt) ez40 rfl rfl (by omega) (by omega)
        refine p_put hx hb hts inX0 tyX0 tyX0_ok nmX0 hown hK hP hD hS hLy34 hKy34 rfl rfl 1 (by decide) (hts _ pq173) rfl (by decide +kernel) (Nat.le_of_ble_eq_true rfl) (oS_0_1 cs _ _ _ _) dX5_moveAll_41 (fun H locs hP hS => ?_)
        obtain ⟨Iz41, hP, hIz41, qIz41⟩ : ∃ Iz41, va_P (dC, dI) vwCl (Wd cs L K Iz41 J Q) H ∧ Iv L K x0 m0 tx tm Iz41 ∧ Iz41 = va_up I3 y34 (upd (I3 y34) 1 z40) := ⟨_, hP, Iv_put hI3 hKy34 (oP_0_1 (Iv_at hI3 hLy34 hKy34) ⟨by omega, by omega⟩) (by decide) (by decide), rfl⟩
        have fr_Iz41 : ∀ b, ¬ (K b = 0) → Iz41 b = I b := fun b q => (congrFun qIz41 b).trans ((va_up_ne _ _ (fun z => q (by rw [z]; have := hKy34; omega))).trans (fr_I3 b q))
        refine lv_aload_n hx hb dX5_moveAll_44 rfl (lv_at hl 0 rfl) ?_
        refine p_get (v := .ref y6) hx hb hts inX5 hown hK hP hLp0 hKp0 rfl rfl 0 (by decide) (hts _ pq274) (congrArg (fun q => some (va_rf q)) ey6) dX5_moveAll_45 ?_
        refine p_get (v := .ref y29) hx hb hts inX1 hown hK hP hLy6 hKy6 rfl rfl 1 (by decide) (hts _ pq218) (congrArg (fun q => some (va_rf q)) ey29) dX5_moveAll_48 ?_
        refine lv_iload hx hb dX5_moveAll_51 (lv_at hl 4 rfl) ?_
        refine p_aaldR hx hb hK hP 4 hLy29 hKy29 rfl rfl (in_of (by omega) (by omega)) ey34 dX5_moveAll_53 ?_
        refine lv_dup hx hb dX5_moveAll_54 rfl ?_
        refine p_get hx hb hts inX0 hown hK hP hLy34 hKy34 rfl rfl 2 (by decide) (hts _ pq176) rfl dX5_moveAll_55 ?_
        refine lv_topi (fun z55 ez55 => ?_)
        have cgz55 := congrArg Int32.toInt ez55
        have bz55 := oI_0_2 (Iv_at hIz41 hLy34 hKy34)
        rw [← ez55] at bz55
        have c55 := congrArg Int32.toInt (ez55.trans (by rw [qIz41, rz_fr _ _ _ _ (by decide)]))
        refine lv_iload_n hx hb dX5_moveAll_58 rfl (lv_at hl 3 rfl) ?_
        refine lv_iadd hx hb dX5_moveAll_59 ?_
        refine lv_topi (fun z59 ez59 => ?_)
        have bz59 := tq_add (k := z55.toInt) (q := p3.toInt) ez59 rfl rfl (by omega) (by omega)
        refine p_put hx hb hts inX0 tyX0 tyX0_ok nmX0 hown hK hP hD hS hLy34 hKy34 rfl rfl 2 (by decide) (hts _ pq176) rfl (by decide +kernel) (Nat.le_of_ble_eq_true rfl) (oS_0_2 cs _ _ _ _) dX5_moveAll_60 (fun H locs hP hS => ?_)
        obtain ⟨Iz60, hP, hIz60, qIz60⟩ : ∃ Iz60, va_P (dC, dI) vwCl (Wd cs L K Iz60 J Q) H ∧ Iv L K x0 m0 tx tm Iz60 ∧ Iz60 = va_up Iz41 y34 (upd (Iz41 y34) 2 z59) := ⟨_, hP, Iv_put hIz41 hKy34 (oP_0_2 (Iv_at hIz41 hLy34 hKy34) ⟨by omega, by omega⟩) (by decide) (by decide), rfl⟩
        have fr_Iz60 : ∀ b, ¬ (K b = 0) → Iz60 b = I b := fun b q => (congrFun qIz60 b).trans ((va_up_ne _ _ (fun z => q (by rw [z]; have := hKy34; omega))).trans (fr_Iz41 b q))
        exact j63 Iz60 _ _ _ hIz60 fr_Iz60 (fun yf e => goF_step (hgo yf e) rfl (by omega) (by obtain rfl : y6 = yf := Option.some.inj (ey6.symm.trans e); have q := oI_1_3 (Iv_at hI hLy6 hKy6); omega) ey6 ey29 ey34 (Sv_at hQ hLy29 hKy29).2 (fun b q => by rw [qIz60, va_up_ne _ _ q, qIz41, va_up_ne _ _ q])) (by rw [nf_of ey6] at hmv ⊢; have eB : fb Q y6 v3_4.toInt.toNat = y34 := fb_of ey29 ey34; exact mvI_y (I1 := I3) (I2 := Iz41) (I3 := Iz60) hQ hLy6 hKy6 hmv rfl (by omega) ((hb_shr ez18 ez20 ⟨by omega, by omega⟩).1.mp t22) (by rw [eB]; exact qIz41) (by rw [eB, ez40, ez36]) (by rw [eB]; exact qIz60) (by rw [eB, ez59, ez55])) hP hS (lv_sub hl [0, 1, 2, 3, 4] rfl))
  exact key3 _ 0 I _ _ _ rfl ⟨by decide +kernel, by decide +kernel⟩ hI fr_I (fun yf e => (hg yf e)) (by rw [show (0 : Int32).toInt.toNat = 0 from by decide +kernel]; exact mvI_0) hP hS (lv_sub hl [1, 2, 3, 4, 0] rfl)

set_option maxHeartbeats 4000000 in
set_option maxRecDepth 100000 in
theorem s_X5_findMeeting (l : Launch) (dC : Nat → ClassId) (dI : Nat → Nat → Nat) (cs : Nat → ClassId) (L : List Nat) (K G : Nat → Nat) (Q : Nat → Nat → Option Nat) (hQ : Sv L K G Q) (x0 m0 : Nat) (tx : GT) (tm : GT × Int) (sz : Nat) (I : Nat → Nat → Int32) (J : Nat → Nat → Int64) (hI : Iv L K x0 m0 tx tm I) (p0 : Nat) (hLp0 : p0 ∈ L) (hKp0 : K p0 = 5) (p1 : Int32) (bp1 : (0) ≤ p1.toInt ∧ p1.toInt ≤ 9) (p2 : Int32) (bp2 : (0) ≤ p2.toInt ∧ p2.toInt ≤ 9) : Met l yX5_findMeeting (.code yX5_findMeeting cX5_findMeeting 14 (some .boolean) :: pw) ({ frames := 2, cells := 0, slots := 0, locals := 48 }) (sP (dC, dI) cs [.ref p0, .int p1, .int p2] sz L K I J Q) (va_Qi (fun (r : Int32) (u : Int32) => u = r ∧ ((0) ≤ r.toInt ∧ r.toInt ≤ 1)) (fun u t => sB (dC, dI) cs L K Q (fun I1 J1 => Iv L K x0 m0 tx tm I1 ∧ (∀ b, ¬ (b = p0) → I1 b = I b) ∧ (∀ c : Fx, okF c → cxF Q I J (nf Q p0) c → cxS Q I J p0 c → p1.toInt.toNat < (c.1 1).toInt.toNat → p2.toInt.toNat < (c.1 1).toInt.toNat → (u.toInt = 0 → ∀ x y, ¬ inC c p1.toInt.toNat p2.toInt.toNat x y) ∧ (¬ u.toInt = 0 → ∃ x y, mtF (inC c p1.toInt.toNat p2.toInt.toNat) x y ∧ (I1 p0 7).toInt = x ∧ (I1 p0 8).toInt = y)) ∧ J1 = J) t) (fun q => q ∈ L ∨ sz ≤ q)) 0 0 (fun q => q ∈ L ∨ sz ≤ q) := by
  refine Met.ofW (cc := cX5_findMeeting) (maxL := 14) (ret := (some .boolean)) (by decide +kernel) rfl ?_
  intro p e s m args below meth c s₁ B hml hv
  obtain ⟨rfl, hsz, hP, hK, hD0, hN⟩ := hv
  have hx := B.exec
  have hb := B.bytes
  have hr := B.returns
  have hts := fun w (h : w ∈ pw) => atoms_spec (ws := Cond.code yX5_findMeeting cX5_findMeeting 14 (some .boolean) :: pw) B.pre w (List.mem_cons_of_mem _ h)
  have hown : s.vm.findClass RX5 = some m.cls := findClass_of_methodNamed B.named
  have hlocks := B.notSynchronized
  subst hsz
  have hBB : 999 ≤ tm.2 ∧ tm.2 ≤ 6000000 := hI.2.2.2.2.1
  have dj_J : J = J := rfl
  have fr_I : ∀ b, ¬ (b = p0) → I b = I b := fun _ _ => rfl
  obtain ⟨A, hAe⟩ : ∃ A : Nat → Prop, A = (fun q => q ∈ L ∨ s.heap.size ≤ q) := ⟨_, rfl⟩
  rw [← hAe]
  have hAL : ∀ q, q ∈ L → A q := fun q h => by rw [hAe]; exact Or.inl h
  have hA : ∀ q, s.heap.size ≤ q → A q := fun q h => by rw [hAe]; exact Or.inr h
  have hD : ∀ F, va_D A (va_pl L F) := fun F => (hD0 F).weaken (fun k q hk _ => hAL _ (pl_mem hk))
  obtain ⟨H, hHe⟩ : ∃ H : Heap, H = s.heap := ⟨_, rfl⟩
  have hS : va_S A s.heap H [] := by rw [hHe]; exact va_S.rf
  rw [← hHe] at hP
  have hl := lv_entry ([.ref p0, .int p1, .int p2]) (n := 14) (Nat.le_of_ble_eq_true rfl)
  rw [lg_entry_eq]
  generalize (lg_sl ([.ref p0, .int p1, .int p2]) ++ List.replicate (14 - (lg_sl ([.ref p0, .int p1, .int p2])).length) Slot.unset).toArray = ls at hl ⊢
  have hl : lv_has ls 14 [(0, .ref p0), (1, .int p1), (2, .int p2)] := hl
  rw [← hHe]
  refine namedW (fun R Qz hR hQz => ?_)
  refine lv_aload_n hx hb dX5_findMeeting_0 rfl (lv_at hl 0 rfl) ?_
  obtain ⟨y1, ey1, hLy1, hKy1, hGy1⟩ := oQ_5_1 (Sv_at hQ hLp0 hKp0)
  refine p_get (v := .ref y1) hx hb hts inX5 hown hK hP hLp0 hKp0 rfl rfl 1 (by decide) (hts _ pq275) (congrArg (fun q => some (va_rf q)) ey1) dX5_findMeeting_1 ?_
  refine lv_iload_n hx hb dX5_findMeeting_4 rfl (lv_at hl 1 rfl) ?_
  obtain ⟨y5, ey5, hLy5, hKy5, hGy5⟩ := (Sv_at hQ hLy1 hKy1).1 p1.toNatClampNeg (clamp_lt (n := 10) (in_of (by omega) (by omega)))
  have hjy5 : p1.toNatClampNeg < 10 := clamp_lt (i := p1) (n := 10) (in_of (by omega) (by omega))
  refine p_aaldR hx hb hK hP 5 hLy1 hKy1 rfl rfl (in_of (by omega) (by omega)) ey5 dX5_findMeeting_5 ?_
  refine lv_astore_n (lv' := [(3, .ref y5), (0, .ref p0), (1, .int p1), (2, .int p2)]) hx hb dX5_findMeeting_6 rfl hl (by decide) rfl (fun ls hl => ?_)
  refine lv_aload_n hx hb dX5_findMeeting_7 rfl (lv_at hl 1 rfl) ?_
  refine p_get (v := .ref y1) hx hb hts inX5 hown hK hP hLp0 hKp0 rfl rfl 1 (by decide) (hts _ pq275) (congrArg (fun q => some (va_rf q)) ey1) dX5_findMeeting_8 ?_
  refine lv_iload_n hx hb dX5_findMeeting_11 rfl (lv_at hl 3 rfl) ?_
  obtain ⟨y12, ey12, hLy12, hKy12, hGy12⟩ := (Sv_at hQ hLy1 hKy1).1 p2.toNatClampNeg (clamp_lt (n := 10) (in_of (by omega) (by omega)))
  have hjy12 : p2.toNatClampNeg < 10 := clamp_lt (i := p2) (n := 10) (in_of (by omega) (by omega))
  refine p_aaldR hx hb hK hP 5 hLy1 hKy1 rfl rfl (in_of (by omega) (by omega)) ey12 dX5_findMeeting_12 ?_
  refine lv_astore (lv' := [(4, .ref y12), (3, .ref y5), (0, .ref p0), (1, .int p1), (2, .int p2)]) hx hb dX5_findMeeting_13 hl (by decide) rfl (fun ls hl => ?_)
  refine lv_aload_n hx hb dX5_findMeeting_15 rfl (lv_at hl 2 rfl) ?_
  obtain ⟨y16, ey16, hLy16, hKy16, hGy16⟩ := oQ_5_0 (Sv_at hQ hLp0 hKp0)
  refine p_get (v := .ref y16) hx hb hts inX5 hown hK hP hLp0 hKp0 rfl rfl 0 (by decide) (hts _ pq274) (congrArg (fun q => some (va_rf q)) ey16) dX5_findMeeting_16 ?_
  obtain ⟨y19, ey19, hLy19, hKy19, hGy19⟩ := oQ_1_1 (Sv_at hQ hLy16 hKy16)
  refine p_get (v := .ref y19) hx hb hts inX1 hown hK hP hLy16 hKy16 rfl rfl 1 (by decide) (hts _ pq218) (congrArg (fun q => some (va_rf q)) ey19) dX5_findMeeting_19 ?_
  refine lv_iload_n hx hb dX5_findMeeting_22 rfl (lv_at hl 4 rfl) ?_
  obtain ⟨y23, ey23, hLy23, hKy23, hGy23⟩ := (Sv_at hQ hLy19 hKy19).1 p2.toNatClampNeg (clamp_lt (n := 10) (in_of (by omega) (by omega)))
  refine p_aaldR hx hb hK hP 4 hLy19 hKy19 rfl rfl (in_of (by omega) (by omega)) ey23 dX5_findMeeting_23 ?_
  refine p_get hx hb hts inX0 hown hK hP hLy23 hKy23 rfl rfl 1 (by decide) (hts _ pq173) rfl dX5_findMeeting_24 ?_
  refine lv_topi (fun z24 ez24 => ?_)
  have cgz24 := congrArg Int32.toInt ez24
  have bz24 := oI_0_1 (Iv_at hI hLy23 hKy23)
  rw [← ez24] at bz24
  refine lv_aload_n hx hb dX5_findMeeting_27 rfl (lv_at hl 2 rfl) ?_
  refine p_get (v := .ref y16) hx hb hts inX5 hown hK hP hLp0 hKp0 rfl rfl 0 (by decide) (hts _ pq274) (congrArg (fun q => some (va_rf q)) ey16) dX5_findMeeting_28 ?_
  refine p_get (v := .ref y19) hx hb hts inX1 hown hK hP hLy16 hKy16 rfl rfl 1 (by decide) (hts _ pq218) (congrArg (fun q => some (va_rf q)) ey19) dX5_findMeeting_31 ?_
  refine lv_iload_n hx hb dX5_findMeeting_34 rfl (lv_at hl 3 rfl) ?_
  obtain ⟨y35, ey35, hLy35, hKy35, hGy35⟩ := (Sv_at hQ hLy19 hKy19).1 p1.toNatClampNeg (clamp_lt (n := 10) (in_of (by omega) (by omega)))
  refine p_aaldR hx hb hK hP 4 hLy19 hKy19 rfl rfl (in_of (by omega) (by omega)) ey35 dX5_findMeeting_35 ?_
  refine p_get hx hb hts inX0 hown hK hP hLy35 hKy35 rfl rfl 1 (by decide) (hts _ pq173) rfl dX5_findMeeting_36 ?_
  refine lv_topi (fun z36 ez36 => ?_)
  have cgz36 := congrArg Int32.toInt ez36
  have bz36 := oI_0_1 (Iv_at hI hLy35 hKy35)
  rw [← ez36] at bz36
  refine lv_isub hx hb dX5_findMeeting_39 ?_
  refine lv_topi (fun z39 ez39 => ?_)
  have bz39 := tq_sub (k := z24.toInt) (q := z36.toInt) ez39 rfl rfl (by omega) (by omega)
  refine lv_istore (lv' := [(5, .int z39), (4, .ref y12), (3, .ref y5), (0, .ref p0), (1, .int p1), (2, .int p2)]) hx hb dX5_findMeeting_40 hl (by decide) rfl (fun ls hl => ?_)
  refine lv_aload_n hx hb dX5_findMeeting_42 rfl (lv_at hl 3 rfl) ?_
  refine p_get (v := .ref y16) hx hb hts inX5 hown hK hP hLp0 hKp0 rfl rfl 0 (by decide) (hts _ pq274) (congrArg (fun q => some (va_rf q)) ey16) dX5_findMeeting_43 ?_
  refine p_get (v := .ref y19) hx hb hts inX1 hown hK hP hLy16 hKy16 rfl rfl 1 (by decide) (hts _ pq218) (congrArg (fun q => some (va_rf q)) ey19) dX5_findMeeting_46 ?_
  refine lv_iload_n hx hb dX5_findMeeting_49 rfl (lv_at hl 5 rfl) ?_
  refine p_aaldR hx hb hK hP 4 hLy19 hKy19 rfl rfl (in_of (by omega) (by omega)) ey23 dX5_findMeeting_50 ?_
  refine p_get hx hb hts inX0 hown hK hP hLy23 hKy23 rfl rfl 2 (by decide) (hts _ pq176) rfl dX5_findMeeting_51 ?_
  refine lv_topi (fun z51 ez51 => ?_)
  have cgz51 := congrArg Int32.toInt ez51
  have bz51 := oI_0_2 (Iv_at hI hLy23 hKy23)
  rw [← ez51] at bz51
  refine lv_aload_n hx hb dX5_findMeeting_54 rfl (lv_at hl 3 rfl) ?_
  refine p_get (v := .ref y16) hx hb hts inX5 hown hK hP hLp0 hKp0 rfl rfl 0 (by decide) (hts _ pq274) (congrArg (fun q => some (va_rf q)) ey16) dX5_findMeeting_55 ?_
  refine p_get (v := .ref y19) hx hb hts inX1 hown hK hP hLy16 hKy16 rfl rfl 1 (by decide) (hts _ pq218) (congrArg (fun q => some (va_rf q)) ey19) dX5_findMeeting_58 ?_
  refine lv_iload_n hx hb dX5_findMeeting_61 rfl (lv_at hl 4 rfl) ?_
  refine p_aaldR hx hb hK hP 4 hLy19 hKy19 rfl rfl (in_of (by omega) (by omega)) ey35 dX5_findMeeting_62 ?_
  refine p_get hx hb hts inX0 hown hK hP hLy35 hKy35 rfl rfl 2 (by decide) (hts _ pq176) rfl dX5_findMeeting_63 ?_
  refine lv_topi (fun z63 ez63 => ?_)
  have cgz63 := congrArg Int32.toInt ez63
  have bz63 := oI_0_2 (Iv_at hI hLy35 hKy35)
  rw [← ez63] at bz63
  refine lv_isub hx hb dX5_findMeeting_66 ?_
  refine lv_topi (fun z66 ez66 => ?_)
  have bz66 := tq_sub (k := z51.toInt) (q := z63.toInt) ez66 rfl rfl (by omega) (by omega)
  refine lv_istore (lv' := [(6, .int z66), (5, .int z39), (4, .ref y12), (3, .ref y5), (0, .ref p0), (1, .int p1), (2, .int p2)]) hx hb dX5_findMeeting_67 hl (by decide) rfl (fun ls hl => ?_)
  refine lv_aload_n hx hb dX5_findMeeting_69 rfl (lv_at hl 3 rfl) ?_
  refine lv_aload hx hb dX5_findMeeting_70 (lv_at hl 2 rfl) ?_
  refine lv_iload hx hb dX5_findMeeting_72 (lv_at hl 1 rfl) ?_
  refine lv_iload hx hb dX5_findMeeting_74 (lv_at hl 0 rfl) ?_
  refine ro_i (va_runS (As := [.ref y5, .ref y12, .int z39, .int z66]) (rest := []) ⟨hx, hb, hml, hown, hts⟩ (s_X3_boxesShare l dC dI cs L K G Q hQ x0 m0 tx tm H.size I J hI y5 hLy5 hKy5 y12 hLy12 hKy12 z39 z66) (va_cwS 4 hts (gS pq989 pq774 pq76 pq775) rfl rfl rfl (by decide +kernel) ⟨(by rw [hR]; exact (Nat.le_of_ble_eq_true rfl)), (by rw [hR]; exact (Nat.le_of_ble_eq_true rfl))⟩) (sP_S hP hD hK hN) rfl rfl hl.1 rfl (lv_room (Nat.le_of_ble_eq_true rfl)) dX5_findMeeting_76 ⟨(by rw [hR]; exact (Nat.le_of_ble_eq_true rfl)), (by rw [hR]; exact (Nat.le_of_ble_eq_true rfl))⟩) hS hP (fun z76 H locs hz76 hP hS => ?_)
  obtain ⟨bz76, imz76, xpz76⟩ := hz76
  refine lv_if_ne (tgt := 84) hx hb dX5_findMeeting_79 (by decide) (fun c79 => ?_) (fun c79 => ?_)
  · have t79 := tq_ne (k := z76.toInt) (q := (0)) c79 rfl (by decide +kernel)
    have i79 := imz76 t79
    refine lv_aload_n hx hb dX5_findMeeting_84 rfl (lv_at hl 3 rfl) ?_
    refine p_get hx hb hts inX3 hown hK hP hLy5 hKy5 rfl rfl 7 (by decide) (hts _ pq142) rfl dX5_findMeeting_85 ?_
    refine lv_topi (fun z85 ez85 => ?_)
    have bz85 := oI_3_7 (Iv_at hI hLy5 hKy5)
    rw [← ez85] at bz85
    refine lv_aload hx hb dX5_findMeeting_88 (lv_at hl 2 rfl) ?_
    refine p_get hx hb hts inX3 hown hK hP hLy12 hKy12 rfl rfl 7 (by decide) (hts _ pq142) rfl dX5_findMeeting_90 ?_
    refine lv_topi (fun z90 ez90 => ?_)
    have bz90 := oI_3_7 (Iv_at hI hLy12 hKy12)
    rw [← ez90] at bz90
    refine lv_iload hx hb dX5_findMeeting_93 (lv_at hl 0 rfl) ?_
    refine lv_iadd hx hb dX5_findMeeting_95 ?_
    refine lv_topi (fun z95 ez95 => ?_)
    have bz95 := tq_add (k := z90.toInt) (q := z66.toInt) ez95 rfl rfl (by omega) (by omega)
    refine va_mmin hx hb (hml.trans hl.1.symm) hown (hts _ pq764) (hts _ pq407) (hts _ pq82) (hts _ pq408) (by rw [hR]; exact (Nat.le_of_ble_eq_true rfl)) (by rw [hR]; exact (Nat.le_of_ble_eq_true rfl)) (by rw [hR]; exact (Nat.le_of_ble_eq_true rfl)) (by rw [hR]; exact (Nat.le_of_ble_eq_true rfl)) dX5_findMeeting_96 ?_
    refine lv_topi (fun z96 ez96 => ?_)
    have bz96 := tq_min ez96
    refine lv_istore (lv' := [(7, .int z96), (6, .int z66), (5, .int z39), (4, .ref y12), (3, .ref y5), (0, .ref p0), (1, .int p1), (2, .int p2)]) hx hb dX5_findMeeting_99 hl (by decide) rfl (fun ls hl => ?_)
    refine lv_aload_n hx hb dX5_findMeeting_101 rfl (lv_at hl 4 rfl) ?_
    refine p_get hx hb hts inX3 hown hK hP hLy5 hKy5 rfl rfl 5 (by decide) (hts _ pq136) rfl dX5_findMeeting_102 ?_
    refine lv_topi (fun z102 ez102 => ?_)
    have bz102 := oI_3_5 (Iv_at hI hLy5 hKy5)
    rw [← ez102] at bz102
    refine lv_aload hx hb dX5_findMeeting_105 (lv_at hl 3 rfl) ?_
    refine p_get hx hb hts inX3 hown hK hP hLy12 hKy12 rfl rfl 5 (by decide) (hts _ pq136) rfl dX5_findMeeting_107 ?_
    refine lv_topi (fun z107 ez107 => ?_)
    have bz107 := oI_3_5 (Iv_at hI hLy12 hKy12)
    rw [← ez107] at bz107
    refine lv_iload hx hb dX5_findMeeting_110 (lv_at hl 1 rfl) ?_
    refine lv_iadd hx hb dX5_findMeeting_112 ?_
    refine lv_topi (fun z112 ez112 => ?_)
    have bz112 := tq_add (k := z107.toInt) (q := z66.toInt) ez112 rfl rfl (by omega) (by omega)
    have nt := xpz76.1 t79
    have ra := oI_3_t (Iv_at hI hLy5 hKy5)
    rw [← ez102] at ra
    have rb := oI_3_t (Iv_at hI hLy12 hKy12)
    rw [← ez107] at rb
    refine va_mmax hx hb (hml.trans hl.1.symm) hown (hts _ pq765) (hts _ pq750) (hts _ pq82) (hts _ pq751) (by rw [hR]; exact (Nat.le_of_ble_eq_true rfl)) (by rw [hR]; exact (Nat.le_of_ble_eq_true rfl)) (by rw [hR]; exact (Nat.le_of_ble_eq_true rfl)) (by rw [hR]; exact (Nat.le_of_ble_eq_true rfl)) dX5_findMeeting_113 ?_
    refine lv_topi (fun z113 ez113 => ?_)
    have bz113 := tq_max ez113
    refine lv_istore (lv' := [(8, .int z113), (7, .int z96), (6, .int z66), (5, .int z39), (4, .ref y12), (3, .ref y5), (0, .ref p0), (1, .int p1), (2, .int p2)]) hx hb dX5_findMeeting_116 hl (by decide) rfl (fun ls hl => ?_)
    have key118 := blocks (fun n => ∀ (v118_8 : Int32) (H : Heap) (lo : List Loc) (ls : Array Slot), (79 - v118_8.toInt).toNat = n → ((-1) ≤ v118_8.toInt ∧ v118_8.toInt ≤ 78) → (∀ c : Fx, okF c → cxF Q I J (nf Q p0) c → cxS Q I J p0 c → p1.toInt.toNat < (c.1 1).toInt.toNat → p2.toInt.toNat < (c.1 1).toInt.toNat → ∀ u v, v < bY c p1.toInt.toNat + v118_8.toInt → ¬ inC c p1.toInt.toNat p2.toInt.toNat u v) → z102.toInt ≤ v118_8.toInt → z112.toInt ≤ v118_8.toInt → va_P (dC, dI) vwCl (Wd cs L K I J Q) H → va_S A s.heap H lo → lv_has ls 14 [(0, .ref p0), (1, .int p1), (2, .int p2), (3, .ref y5), (4, .ref y12), (5, .int z39), (6, .int z66), (7, .int z96), (8, .int v118_8)] → W p l e R s m (([.ref p0, .int p1, .int p2] : List Value).toArray) below meth c H lo 0 0 Qz (F0 m 118 ls [])) (by
      intro n ih118
      intro v118_8 H lo ls hmu118 bv118_8 g118 hy4 hy5 hP hS hl
      refine lv_iload hx hb dX5_findMeeting_118 (lv_at hl 8 rfl) ?_
      refine lv_iload hx hb dX5_findMeeting_120 (lv_at hl 7 rfl) ?_
      refine lv_icmp_gt (tgt := 267) hx hb dX5_findMeeting_122 (by decide) (fun c122 => ?_) (fun c122 => ?_)
      · have t122 := tq_lt (k := z96.toInt) (q := v118_8.toInt) c122 rfl rfl
        refine lv_iconst (v := 0) hx hb dX5_findMeeting_267 (by decide +kernel) ?_
        subst hR; subst hQz
        exact W.zret (v := 0) hx hb hr (by decide +kernel) (fun t ht hW => ⟨⟨0, 0, rfl, ⟨rfl, ⟨by decide +kernel, by decide +kernel⟩⟩, ⟨I, J, ⟨hI, fr_I, (fun c ok h hs ha hb => by have va := fun k (hk : k < 8) => h.2.2.2.2 p1.toInt.toNat ha k hk; have vb := fun k (hk : k < 8) => h.2.2.2.2 p2.toInt.toNat hb k hk; rw [nf_of ey16, show fb Q y16 p1.toInt.toNat = y35 from fb_of ey19 ey35] at va; rw [nf_of ey16, show fb Q y16 p2.toInt.toNat = y23 from fb_of ey19 ey23] at vb; have pb := ok.2.2.2 _ hb; have pb1 := pb.2.1; have pb2 := pb.2.2.1; have pa := ok.2.2.2 _ ha; have pa1 := pa.2.1; have pa2 := pa.2.2.1; have eXb : bX c p2.toInt.toNat = (c.1 (19 + 8 * p2.toInt.toNat + 1)).toInt := rfl; have eYb : bY c p2.toInt.toNat = (c.1 (19 + 8 * p2.toInt.toNat + 2)).toInt := rfl; have eXa : bX c p1.toInt.toNat = (c.1 (19 + 8 * p1.toInt.toNat + 1)).toInt := rfl; have eYa : bY c p1.toInt.toNat = (c.1 (19 + 8 * p1.toInt.toNat + 2)).toInt := rfl; have xa : z36.toInt = bX c p1.toInt.toNat := (by rw [ez36, va 1 (by decide)]; rfl); have xb : z24.toInt = bX c p2.toInt.toNat := (by rw [ez24, vb 1 (by decide)]; rfl); have ya : z63.toInt = bY c p1.toInt.toNat := (by rw [ez63, va 2 (by decide)]; rfl); have yb : z51.toInt = bY c p2.toInt.toNat := (by rw [ez51, vb 2 (by decide)]; rfl); have Sa := hs p1.toInt.toNat ha; have Sb := hs p2.toInt.toNat hb; rw [show sm Q p0 p1.toInt.toNat = y5 from sm_of ey1 ey5] at Sa; rw [show sm Q p0 p2.toInt.toNat = y12 from sm_of ey1 ey12] at Sb; have m0 := Sa.2.2.2; have m1 := Sb.2.2.2; have R := in_rel ok ha hb (dx := z39.toInt) (dy := z66.toInt) (by omega) (by omega); refine ⟨fun _ u v P => ?_, fun q => absurd (by decide +kernel) q⟩; have q := (R u v).mp P; have k0 := msr_pos m0 q.1; have k1 := msr_pos m1 q.2; first | (exact absurd (((xpz76.2 ⟨⟨by omega, by omega⟩, by omega, by omega⟩).trans (bxs_P m0 m1)).mpr (ovl_boxP ⟨_, _, q.1, q.2⟩)) (fun f => f t79)) | (have e3 := congrArg Int32.toInt ez85; have e4 := congrArg Int32.toInt ez90; rcases Int.lt_or_le v (bY c p1.toInt.toNat + v118_8.toInt) with w | w; (exact g118 c ok h hs ha hb u v w P); omega)), dj_J⟩, by rw [ht]; exact hP⟩⟩, hS.F ht⟩) hS.2.2 dX5_findMeeting_268
      · have t122 := tq_nlt (k := z96.toInt) (q := v118_8.toInt) c122 rfl rfl
        refine lv_iconst (v := 2) hx hb dX5_findMeeting_125 (by decide +kernel) ?_
        refine lv_iload hx hb dX5_findMeeting_126 (lv_at hl 8 rfl) ?_
        refine lv_iload hx hb dX5_findMeeting_128 (lv_at hl 6 rfl) ?_
        refine lv_isub hx hb dX5_findMeeting_130 ?_
        refine lv_topi (fun z130 ez130 => ?_)
        have bz130 := tq_sub (k := v118_8.toInt) (q := z66.toInt) ez130 rfl rfl (by omega) (by omega)
        refine lv_imul hx hb dX5_findMeeting_131 ?_
        refine lv_topi (fun z131 ez131 => ?_)
        have bz131 := tq_mul (k := (2)) (q := z130.toInt) ez131 (by decide +kernel) rfl (by omega) (by omega)
        refine lv_istore (lv' := [(9, .int z131), (0, .ref p0), (1, .int p1), (2, .int p2), (3, .ref y5), (4, .ref y12), (5, .int z39), (6, .int z66), (7, .int z96), (8, .int v118_8)]) hx hb dX5_findMeeting_132 hl (by decide) rfl (fun ls hl => ?_)
        refine lv_aload_n hx hb dX5_findMeeting_134 rfl (lv_at hl 4 rfl) ?_
        obtain ⟨y135, ey135, hLy135, hKy135, hGy135⟩ := oQ_3_2 (Sv_at hQ hLy5 hKy5)
        refine p_get (v := .ref y135) hx hb hts inX3 hown hK hP hLy5 hKy5 rfl rfl 2 (by decide) (hts _ pq127) (congrArg (fun q => some (va_rf q)) ey135) dX5_findMeeting_135 ?_
        refine lv_iconst (v := 2) hx hb dX5_findMeeting_138 (by decide +kernel) ?_
        refine lv_iload hx hb dX5_findMeeting_139 (lv_at hl 9 rfl) ?_
        refine lv_imul hx hb dX5_findMeeting_141 ?_
        refine lv_topi (fun z141 ez141 => ?_)
        have bz141 := tq_mul (k := (2)) (q := v118_8.toInt) ez141 (by decide +kernel) rfl (by omega) (by omega)
        refine p_lald hx hb hK hP 2 hLy135 hKy135 rfl rfl (in_of (by omega) (by omega)) dX5_findMeeting_142 ?_
        refine lv_topl (fun z142 ez142 => ?_)
        refine lv_aload hx hb dX5_findMeeting_143 (lv_at hl 5 rfl) ?_
        obtain ⟨y145, ey145, hLy145, hKy145, hGy145⟩ := oQ_3_2 (Sv_at hQ hLy12 hKy12)
        refine p_get (v := .ref y145) hx hb hts inX3 hown hK hP hLy12 hKy12 rfl rfl 2 (by decide) (hts _ pq127) (congrArg (fun q => some (va_rf q)) ey145) dX5_findMeeting_145 ?_
        refine lv_iload hx hb dX5_findMeeting_148 (lv_at hl 0 rfl) ?_
        refine p_lald hx hb hK hP 2 hLy145 hKy145 rfl rfl (in_of (by omega) (by omega)) dX5_findMeeting_150 ?_
        refine lv_topl (fun z150 ez150 => ?_)
        refine lv_aload hx hb dX5_findMeeting_151 (lv_at hl 5 rfl) ?_
        refine p_get (v := .ref y145) hx hb hts inX3 hown hK hP hLy12 hKy12 rfl rfl 2 (by decide) (hts _ pq127) (congrArg (fun q => some (va_rf q)) ey145) dX5_findMeeting_153 ?_
        refine lv_iload hx hb dX5_findMeeting_156 (lv_at hl 0 rfl) ?_
        refine lv_iconst (v := 1) hx hb dX5_findMeeting_158 (by decide +kernel) ?_
        refine lv_iadd hx hb dX5_findMeeting_159 ?_
        refine lv_topi (fun z159 ez159 => ?_)
        have bz159 := tq_add (k := z131.toInt) (q := (1)) ez159 rfl (by decide +kernel) (by omega) (by omega)
        refine p_lald hx hb hK hP 2 hLy145 hKy145 rfl rfl (in_of (by omega) (by omega)) dX5_findMeeting_160 ?_
        refine lv_topl (fun z160 ez160 => ?_)
        refine lv_iload hx hb dX5_findMeeting_161 (lv_at hl 6 rfl) ?_
        refine ro_l (va_runS (As := [.long z150, .long z160, .int z39]) (rest := [.long z142]) ⟨hx, hb, hml, hown, hts⟩ (s_X3_shiftedLow l dC dI cs L K G Q hQ x0 m0 tx tm H.size I J hI z150 z160 z39) (va_cwS 3 hts (gS pq990 pq623 pq76 pq624) rfl rfl rfl (by decide +kernel) ⟨(by rw [hR]; exact (Nat.le_of_ble_eq_true rfl)), (by rw [hR]; exact (Nat.le_of_ble_eq_true rfl))⟩) (sP_S hP hD hK hN) rfl rfl hl.1 rfl (lv_room (Nat.le_of_ble_eq_true rfl)) dX5_findMeeting_163 ⟨(by rw [hR]; exact (Nat.le_of_ble_eq_true rfl)), (by rw [hR]; exact (Nat.le_of_ble_eq_true rfl))⟩) hS hP (fun z163 H locs hz163 hP hS => ?_)
        have xpz163 := hz163
        refine lv_land hx hb dX5_findMeeting_166 ?_
        refine lv_topl (fun z166 ez166 => ?_)
        refine lv_lstore (lv' := [(10, .long z166), (9, .int z131), (0, .ref p0), (1, .int p1), (2, .int p2), (3, .ref y5), (4, .ref y12), (5, .int z39), (6, .int z66), (7, .int z96), (8, .int v118_8)]) hx hb dX5_findMeeting_167 hl (by decide) rfl (fun ls hl => ?_)
        refine lv_aload_n hx hb dX5_findMeeting_169 rfl (lv_at hl 5 rfl) ?_
        refine p_get (v := .ref y135) hx hb hts inX3 hown hK hP hLy5 hKy5 rfl rfl 2 (by decide) (hts _ pq127) (congrArg (fun q => some (va_rf q)) ey135) dX5_findMeeting_170 ?_
        refine lv_iconst (v := 2) hx hb dX5_findMeeting_173 (by decide +kernel) ?_
        refine lv_iload hx hb dX5_findMeeting_174 (lv_at hl 10 rfl) ?_
        refine lv_imul hx hb dX5_findMeeting_176 ?_
        refine lv_topi (fun z176 ez176 => ?_)
        have bz176 := tq_mul (k := (2)) (q := v118_8.toInt) ez176 (by decide +kernel) rfl (by omega) (by omega)
        refine lv_iconst (v := 1) hx hb dX5_findMeeting_177 (by decide +kernel) ?_
        refine lv_iadd hx hb dX5_findMeeting_178 ?_
        refine lv_topi (fun z178 ez178 => ?_)
        have bz178 := tq_add (k := z176.toInt) (q := (1)) ez178 rfl (by decide +kernel) (by omega) (by omega)
        refine p_lald hx hb hK hP 2 hLy135 hKy135 rfl rfl (in_of (by omega) (by omega)) dX5_findMeeting_179 ?_
        refine lv_topl (fun z179 ez179 => ?_)
        refine lv_aload hx hb dX5_findMeeting_180 (lv_at hl 6 rfl) ?_
        refine p_get (v := .ref y145) hx hb hts inX3 hown hK hP hLy12 hKy12 rfl rfl 2 (by decide) (hts _ pq127) (congrArg (fun q => some (va_rf q)) ey145) dX5_findMeeting_182 ?_
        refine lv_iload hx hb dX5_findMeeting_185 (lv_at hl 1 rfl) ?_
        refine p_lald hx hb hK hP 2 hLy145 hKy145 rfl rfl (in_of (by omega) (by omega)) dX5_findMeeting_187 ?_
        refine lv_topl (fun z187 ez187 => ?_)
        obtain rfl : z150 = z187 := ez150.trans ez187.symm
        refine lv_aload hx hb dX5_findMeeting_188 (lv_at hl 6 rfl) ?_
        refine p_get (v := .ref y145) hx hb hts inX3 hown hK hP hLy12 hKy12 rfl rfl 2 (by decide) (hts _ pq127) (congrArg (fun q => some (va_rf q)) ey145) dX5_findMeeting_190 ?_
        refine lv_iload hx hb dX5_findMeeting_193 (lv_at hl 1 rfl) ?_
        refine lv_iconst (v := 1) hx hb dX5_findMeeting_195 (by decide +kernel) ?_
        refine lv_iadd hx hb dX5_findMeeting_196 ?_
        refine lv_topi (fun z196 ez196 => ?_)
        have bz196 := tq_add (k := z131.toInt) (q := (1)) ez196 rfl (by decide +kernel) (by omega) (by omega)
        refine p_lald hx hb hK hP 2 hLy145 hKy145 rfl rfl (in_of (by omega) (by omega)) dX5_findMeeting_197 ?_
        refine lv_topl (fun z197 ez197 => ?_)
        refine lv_iload hx hb dX5_findMeeting_198 (lv_at hl 7 rfl) ?_
        refine ro_l (va_runS (As := [.long z150, .long z197, .int z39]) (rest := [.long z179]) ⟨hx, hb, hml, hown, hts⟩ (s_X3_shiftedHigh l dC dI cs L K G Q hQ x0 m0 tx tm H.size I J hI z150 z197 z39) (va_cwS 3 hts (gS pq991 pq626 pq76 pq627) rfl rfl rfl (by decide +kernel) ⟨(by rw [hR]; exact (Nat.le_of_ble_eq_true rfl)), (by rw [hR]; exact (Nat.le_of_ble_eq_true rfl))⟩) (sP_S hP hD hK hN) rfl rfl hl.1 rfl (lv_room (Nat.le_of_ble_eq_true rfl)) dX5_findMeeting_200 ⟨(by rw [hR]; exact (Nat.le_of_ble_eq_true rfl)), (by rw [hR]; exact (Nat.le_of_ble_eq_true rfl))⟩) hS hP (fun z200 H locs hz200 hP hS => ?_)
        have xpz200 := hz200
        refine lv_land hx hb dX5_findMeeting_203 ?_
        refine lv_topl (fun z203 ez203 => ?_)
        refine lv_lstore (lv' := [(12, .long z203), (10, .long z166), (9, .int z131), (0, .ref p0), (1, .int p1), (2, .int p2), (3, .ref y5), (4, .ref y12), (5, .int z39), (6, .int z66), (7, .int z96), (8, .int v118_8)]) hx hb dX5_findMeeting_204 hl (by decide) rfl (fun ls hl => ?_)
        refine lv_lload hx hb dX5_findMeeting_206 (lv_at hl 1 rfl) ?_
        refine lv_lload hx hb dX5_findMeeting_208 (lv_at hl 0 rfl) ?_
        refine lv_lor hx hb dX5_findMeeting_210 ?_
        refine lv_topl (fun z210 ez210 => ?_)
        refine lv_lconst (v := 0) hx hb dX5_findMeeting_211 (by decide +kernel) ?_
        refine W.lcmp hx hb dX5_findMeeting_212 ?_
        refine lv_topi (fun z212 ez212 => ?_)
        refine lv_if_eq (tgt := 261) hx hb dX5_findMeeting_213 (by decide) (fun c213 => ?_) (fun c213 => ?_)
        · have t213 := tq_eq (k := z212.toInt) (q := (0)) c213 rfl (by decide +kernel)
          obtain ⟨z261, ez261⟩ : ∃ y : Int32, y = v118_8 + 1 := ⟨_, rfl⟩
          refine lv_iinc (v := z261) (lv' := [(8, .int z261), (12, .long z203), (10, .long z166), (9, .int z131), (0, .ref p0), (1, .int p1), (2, .int p2), (3, .ref y5), (4, .ref y12), (5, .int z39), (6, .int z66), (7, .int z96)]) hx hb dX5_findMeeting_261 hl (k := 11) rfl (by rw [ez261]; rfl) (by decide) rfl (fun ls hl => ?_)
          have bz261 := tq_add (k := v118_8.toInt) (q := 1) ez261 rfl (by decide +kernel) (by omega) (by omega)
          refine lv_goto (tgt := 118) hx hb dX5_findMeeting_264 (by decide) ?_
          exact ih118 _ (by omega) z261 _ _ _ rfl ⟨by omega, by omega⟩ (fun c ok h hs ha hb u v hv P => by have va := fun k (hk : k < 8) => h.2.2.2.2 p1.toInt.toNat ha k hk; have vb := fun k (hk : k < 8) => h.2.2.2.2 p2.toInt.toNat hb k hk; rw [nf_of ey16, show fb Q y16 p1.toInt.toNat = y35 from fb_of ey19 ey35] at va; rw [nf_of ey16, show fb Q y16 p2.toInt.toNat = y23 from fb_of ey19 ey23] at vb; have pb := ok.2.2.2 _ hb; have pb1 := pb.2.1; have pb2 := pb.2.2.1; have pa := ok.2.2.2 _ ha; have pa1 := pa.2.1; have pa2 := pa.2.2.1; have eXb : bX c p2.toInt.toNat = (c.1 (19 + 8 * p2.toInt.toNat + 1)).toInt := rfl; have eYb : bY c p2.toInt.toNat = (c.1 (19 + 8 * p2.toInt.toNat + 2)).toInt := rfl; have eXa : bX c p1.toInt.toNat = (c.1 (19 + 8 * p1.toInt.toNat + 1)).toInt := rfl; have eYa : bY c p1.toInt.toNat = (c.1 (19 + 8 * p1.toInt.toNat + 2)).toInt := rfl; have xa : z36.toInt = bX c p1.toInt.toNat := (by rw [ez36, va 1 (by decide)]; rfl); have xb : z24.toInt = bX c p2.toInt.toNat := (by rw [ez24, vb 1 (by decide)]; rfl); have ya : z63.toInt = bY c p1.toInt.toNat := (by rw [ez63, va 2 (by decide)]; rfl); have yb : z51.toInt = bY c p2.toInt.toNat := (by rw [ez51, vb 2 (by decide)]; rfl); have Sa := hs p1.toInt.toNat ha; have Sb := hs p2.toInt.toNat hb; rw [show sm Q p0 p1.toInt.toNat = y5 from sm_of ey1 ey5] at Sa; rw [show sm Q p0 p2.toInt.toNat = y12 from sm_of ey1 ey12] at Sb; have m0 := Sa.2.2.2; have m1 := Sb.2.2.2; have R := in_rel ok ha hb (dx := z39.toInt) (dy := z66.toInt) (by omega) (by omega); have e197 : z197 = z160 := (by rw [ez197, ez160, show z196 = z159 from Int32.toInt_inj.mp (by omega)]); have w200 := xpz200; rw [e197] at w200; have hA : ∀ x, md (mkw (shp c p1.toInt.toNat)) x v118_8.toInt = dt z142 z179 x := (fun x => by have q := md_row (f := mkw (shp c p1.toInt.toNat)) (r := v118_8.toInt.toNat) (a := z142) (b := z179) (by omega) (by rw [ez142, show y135 = wo Q y5 from (wo_of ey135).symm, show z141.toNatClampNeg = 2 * v118_8.toInt.toNat from (by show z141.toInt.toNat = _; omega)]; exact Sa.2.2.1 _ (by omega)) (by rw [ez179, show y135 = wo Q y5 from (wo_of ey135).symm, show z178.toNatClampNeg = 2 * v118_8.toInt.toNat + 1 from (by show z178.toInt.toNat = _; omega)]; exact Sa.2.2.1 _ (by omega)) x; rw [show ((v118_8.toInt.toNat : Nat) : Int) = v118_8.toInt by omega] at q; exact q); have hB : ∀ x, md (mkw (shp c p2.toInt.toNat)) x (v118_8.toInt - z66.toInt) = dt z150 z160 x := (fun x => by have q := md_row (f := mkw (shp c p2.toInt.toNat)) (r := z130.toInt.toNat) (a := z150) (b := z160) (by omega) (by rw [ez150, show y145 = wo Q y12 from (wo_of ey145).symm, show z131.toNatClampNeg = 2 * z130.toInt.toNat from (by show z131.toInt.toNat = _; omega)]; exact Sb.2.2.1 _ (by omega)) (by rw [ez160, show y145 = wo Q y12 from (wo_of ey145).symm, show z159.toNatClampNeg = 2 * z130.toInt.toNat + 1 from (by show z159.toInt.toNat = _; omega)]; exact Sb.2.2.1 _ (by omega)) x; rw [show ((z130.toInt.toNat : Nat) : Int) = v118_8.toInt - z66.toInt by omega] at q; exact q); have D : ∀ x, 0 ≤ x → x < 128 → dt z166 z203 x = (md (mkw (shp c p1.toInt.toNat)) x v118_8.toInt && md (mkw (shp c p2.toInt.toNat)) (x - z39.toInt) (v118_8.toInt - z66.toInt)) := (fun x h0 h1 => by rw [dt_and ez166 ez203, sh_row xpz163 w200 h0 h1, hA, hB]); rcases Int.lt_or_le v (bY c p1.toInt.toNat + v118_8.toInt) with w | w; (exact g118 c ok h hs ha hb u v w P); (have q := (R u v).mp P; have k0 := msr_pos m0 q.1; have k1 := msr_pos m1 q.2; have r0 := md_rng q.1; have ev : v - bY c p1.toInt.toNat = v118_8.toInt := (by omega); rw [ev] at q; have d := D (u - bX c p1.toInt.toNat) r0.1.1 r0.1.2; rw [q.1, q.2] at d; have n := (or_0 ez210).mp ((lc0 ez212).mp t213); rw [n.1, n.2, dt_z] at d; cases d)) (by omega) (by omega) hP hS (lv_sub hl [4, 5, 6, 7, 8, 9, 10, 11, 0] rfl)
        · have t213 := tq_ne (k := z212.toInt) (q := (0)) c213 rfl (by decide +kernel)
          refine lv_aload_n hx hb dX5_findMeeting_216 rfl (lv_at hl 3 rfl) ?_
          refine lv_aload_n hx hb dX5_findMeeting_217 rfl (lv_at hl 3 rfl) ?_
          refine p_get (v := .ref y16) hx hb hts inX5 hown hK hP hLp0 hKp0 rfl rfl 0 (by decide) (hts _ pq274) (congrArg (fun q => some (va_rf q)) ey16) dX5_findMeeting_218 ?_
          refine p_get (v := .ref y19) hx hb hts inX1 hown hK hP hLy16 hKy16 rfl rfl 1 (by decide) (hts _ pq218) (congrArg (fun q => some (va_rf q)) ey19) dX5_findMeeting_221 ?_
          refine lv_iload_n hx hb dX5_findMeeting_224 rfl (lv_at hl 4 rfl) ?_
          refine p_aaldR hx hb hK hP 4 hLy19 hKy19 rfl rfl (in_of (by omega) (by omega)) ey35 dX5_findMeeting_225 ?_
          refine p_get hx hb hts inX0 hown hK hP hLy35 hKy35 rfl rfl 1 (by decide) (hts _ pq173) rfl dX5_findMeeting_226 ?_
          refine lv_topi (fun z226 ez226 => ?_)
          obtain rfl : z36 = z226 := ez36.trans ez226.symm
          refine lv_lload hx hb dX5_findMeeting_229 (lv_at hl 1 rfl) ?_
          refine lv_lload hx hb dX5_findMeeting_231 (lv_at hl 0 rfl) ?_
          refine ro_i (va_runS (As := [.long z166, .long z203]) (rest := [.int z36, .ref p0]) ⟨hx, hb, hml, hown, hts⟩ (s_X3_lowestBit l dC dI cs L K Q H.size I J z166 z203) (va_cwS 2 hts (gS pq992 pq552 pq76 pq553) rfl rfl rfl (by decide +kernel) ⟨(by rw [hR]; exact (Nat.le_of_ble_eq_true rfl)), (by rw [hR]; exact (Nat.le_of_ble_eq_true rfl))⟩) (sP_S hP hD hK hN) rfl rfl hl.1 rfl (lv_room (Nat.le_of_ble_eq_true rfl)) dX5_findMeeting_233 ⟨(by rw [hR]; exact (Nat.le_of_ble_eq_true rfl)), (by rw [hR]; exact (Nat.le_of_ble_eq_true rfl))⟩) hS hP (fun z233 H locs hz233 hP hS => ?_)
          obtain ⟨bz233, xpz233⟩ := hz233
          refine lv_iadd hx hb dX5_findMeeting_236 ?_
          refine lv_topi (fun z236 ez236 => ?_)
          have bz236 := tq_add (k := z36.toInt) (q := z233.toInt) ez236 rfl rfl (by omega) (by omega)
          refine p_put hx hb hts inX5 tyX5 tyX5_ok nmX5 hown hK hP hD hS hLp0 hKp0 rfl rfl 7 (by decide) (hts _ pq284) rfl (by decide +kernel) (Nat.le_of_ble_eq_true rfl) (oS_5_7 cs _ _ _ _) dX5_findMeeting_237 (fun H locs hP hS => ?_)
          obtain ⟨Iz237, hP, hIz237, qIz237⟩ : ∃ Iz237, va_P (dC, dI) vwCl (Wd cs L K Iz237 J Q) H ∧ Iv L K x0 m0 tx tm Iz237 ∧ Iz237 = va_up I p0 (upd (I p0) 7 z236) := ⟨_, hP, Iv_put hI hKp0 (oP_5_7 (Iv_at hI hLp0 hKp0)) (by decide) (by decide), rfl⟩
          have fr_Iz237 : ∀ b, ¬ (b = p0) → Iz237 b = I b := fun b q => (congrFun qIz237 b).trans ((va_up_ne _ _ (fun z => q z)).trans (fr_I b q))
          refine lv_aload_n hx hb dX5_findMeeting_240 rfl (lv_at hl 3 rfl) ?_
          refine lv_aload_n hx hb dX5_findMeeting_241 rfl (lv_at hl 3 rfl) ?_
          refine p_get (v := .ref y16) hx hb hts inX5 hown hK hP hLp0 hKp0 rfl rfl 0 (by decide) (hts _ pq274) (congrArg (fun q => some (va_rf q)) ey16) dX5_findMeeting_242 ?_
          refine p_get (v := .ref y19) hx hb hts inX1 hown hK hP hLy16 hKy16 rfl rfl 1 (by decide) (hts _ pq218) (congrArg (fun q => some (va_rf q)) ey19) dX5_findMeeting_245 ?_
          refine lv_iload_n hx hb dX5_findMeeting_248 rfl (lv_at hl 4 rfl) ?_
          refine p_aaldR hx hb hK hP 4 hLy19 hKy19 rfl rfl (in_of (by omega) (by omega)) ey35 dX5_findMeeting_249 ?_
          refine p_get hx hb hts inX0 hown hK hP hLy35 hKy35 rfl rfl 2 (by decide) (hts _ pq176) rfl dX5_findMeeting_250 ?_
          refine lv_topi (fun z250 ez250 => ?_)
          obtain rfl : z63 = z250 := by rw [ez250, qIz237, rz_fr _ _ _ _ (by decide)]; exact ez63
          have ez63x250 := ez250
          refine lv_iload hx hb dX5_findMeeting_253 (lv_at hl 11 rfl) ?_
          refine lv_iadd hx hb dX5_findMeeting_255 ?_
          refine lv_topi (fun z255 ez255 => ?_)
          have bz255 := tq_add (k := z63.toInt) (q := v118_8.toInt) ez255 rfl rfl (by omega) (by omega)
          refine p_put hx hb hts inX5 tyX5 tyX5_ok nmX5 hown hK hP hD hS hLp0 hKp0 rfl rfl 8 (by decide) (hts _ pq286) rfl (by decide +kernel) (Nat.le_of_ble_eq_true rfl) (oS_5_8 cs _ _ _ _) dX5_findMeeting_256 (fun H locs hP hS => ?_)
          obtain ⟨Iz256, hP, hIz256, qIz256⟩ : ∃ Iz256, va_P (dC, dI) vwCl (Wd cs L K Iz256 J Q) H ∧ Iv L K x0 m0 tx tm Iz256 ∧ Iz256 = va_up Iz237 p0 (upd (Iz237 p0) 8 z255) := ⟨_, hP, Iv_put hIz237 hKp0 (oP_5_8 (Iv_at hIz237 hLp0 hKp0)) (by decide) (by decide), rfl⟩
          have fr_Iz256 : ∀ b, ¬ (b = p0) → Iz256 b = I b := fun b q => (congrFun qIz256 b).trans ((va_up_ne _ _ (fun z => q z)).trans (fr_Iz237 b q))
          refine lv_iconst (v := 1) hx hb dX5_findMeeting_259 (by decide +kernel) ?_
          subst hR; subst hQz
          exact W.zret (v := 1) hx hb hr (by decide +kernel) (fun t ht hW => ⟨⟨1, 1, rfl, ⟨rfl, ⟨by decide +kernel, by decide +kernel⟩⟩, ⟨Iz256, J, ⟨hIz256, fr_Iz256, (fun c ok h hs ha hb => by have va := fun k (hk : k < 8) => h.2.2.2.2 p1.toInt.toNat ha k hk; have vb := fun k (hk : k < 8) => h.2.2.2.2 p2.toInt.toNat hb k hk; rw [nf_of ey16, show fb Q y16 p1.toInt.toNat = y35 from fb_of ey19 ey35] at va; rw [nf_of ey16, show fb Q y16 p2.toInt.toNat = y23 from fb_of ey19 ey23] at vb; have pb := ok.2.2.2 _ hb; have pb1 := pb.2.1; have pb2 := pb.2.2.1; have pa := ok.2.2.2 _ ha; have pa1 := pa.2.1; have pa2 := pa.2.2.1; have eXb : bX c p2.toInt.toNat = (c.1 (19 + 8 * p2.toInt.toNat + 1)).toInt := rfl; have eYb : bY c p2.toInt.toNat = (c.1 (19 + 8 * p2.toInt.toNat + 2)).toInt := rfl; have eXa : bX c p1.toInt.toNat = (c.1 (19 + 8 * p1.toInt.toNat + 1)).toInt := rfl; have eYa : bY c p1.toInt.toNat = (c.1 (19 + 8 * p1.toInt.toNat + 2)).toInt := rfl; have xa : z36.toInt = bX c p1.toInt.toNat := (by rw [ez36, va 1 (by decide)]; rfl); have xb : z24.toInt = bX c p2.toInt.toNat := (by rw [ez24, vb 1 (by decide)]; rfl); have ya : z63.toInt = bY c p1.toInt.toNat := (by rw [ez63, va 2 (by decide)]; rfl); have yb : z51.toInt = bY c p2.toInt.toNat := (by rw [ez51, vb 2 (by decide)]; rfl); have Sa := hs p1.toInt.toNat ha; have Sb := hs p2.toInt.toNat hb; rw [show sm Q p0 p1.toInt.toNat = y5 from sm_of ey1 ey5] at Sa; rw [show sm Q p0 p2.toInt.toNat = y12 from sm_of ey1 ey12] at Sb; have m0 := Sa.2.2.2; have m1 := Sb.2.2.2; have R := in_rel ok ha hb (dx := z39.toInt) (dy := z66.toInt) (by omega) (by omega); have e197 : z197 = z160 := (by rw [ez197, ez160, show z196 = z159 from Int32.toInt_inj.mp (by omega)]); have w200 := xpz200; rw [e197] at w200; have hA : ∀ x, md (mkw (shp c p1.toInt.toNat)) x v118_8.toInt = dt z142 z179 x := (fun x => by have q := md_row (f := mkw (shp c p1.toInt.toNat)) (r := v118_8.toInt.toNat) (a := z142) (b := z179) (by omega) (by rw [ez142, show y135 = wo Q y5 from (wo_of ey135).symm, show z141.toNatClampNeg = 2 * v118_8.toInt.toNat from (by show z141.toInt.toNat = _; omega)]; exact Sa.2.2.1 _ (by omega)) (by rw [ez179, show y135 = wo Q y5 from (wo_of ey135).symm, show z178.toNatClampNeg = 2 * v118_8.toInt.toNat + 1 from (by show z178.toInt.toNat = _; omega)]; exact Sa.2.2.1 _ (by omega)) x; rw [show ((v118_8.toInt.toNat : Nat) : Int) = v118_8.toInt by omega] at q; exact q); have hB : ∀ x, md (mkw (shp c p2.toInt.toNat)) x (v118_8.toInt - z66.toInt) = dt z150 z160 x := (fun x => by have q := md_row (f := mkw (shp c p2.toInt.toNat)) (r := z130.toInt.toNat) (a := z150) (b := z160) (by omega) (by rw [ez150, show y145 = wo Q y12 from (wo_of ey145).symm, show z131.toNatClampNeg = 2 * z130.toInt.toNat from (by show z131.toInt.toNat = _; omega)]; exact Sb.2.2.1 _ (by omega)) (by rw [ez160, show y145 = wo Q y12 from (wo_of ey145).symm, show z159.toNatClampNeg = 2 * z130.toInt.toNat + 1 from (by show z159.toInt.toNat = _; omega)]; exact Sb.2.2.1 _ (by omega)) x; rw [show ((z130.toInt.toNat : Nat) : Int) = v118_8.toInt - z66.toInt by omega] at q; exact q); have D : ∀ x, 0 ≤ x → x < 128 → dt z166 z203 x = (md (mkw (shp c p1.toInt.toNat)) x v118_8.toInt && md (mkw (shp c p2.toInt.toNat)) (x - z39.toInt) (v118_8.toInt - z66.toInt)) := (fun x h0 h1 => by rw [dt_and ez166 ez203, sh_row xpz163 w200 h0 h1, hA, hB]); have LB := low_dt xpz233 (fun n => t213 ((lc0 ez212).mpr ((or_0 ez210).mpr n))); have d := D _ LB.1.1 LB.1.2; rw [LB.2.1] at d; have d2 := (Bool.and_eq_true _ _).mp d.symm; refine ⟨fun q => absurd q (by decide +kernel), fun _ => ⟨bX c p1.toInt.toNat + z233.toInt, bY c p1.toInt.toNat + v118_8.toInt, ⟨(R _ _).mpr (by rw [show bX c p1.toInt.toNat + z233.toInt - bX c p1.toInt.toNat = z233.toInt by omega, show bY c p1.toInt.toNat + v118_8.toInt - bY c p1.toInt.toNat = v118_8.toInt by omega]; exact d2), fun u v hv => g118 c ok h hs ha hb u v hv, fun u hu P => ?_⟩, ?_, ?_⟩⟩; (have q := (R _ _).mp P; rw [show bY c p1.toInt.toNat + v118_8.toInt - bY c p1.toInt.toNat = v118_8.toInt by omega] at q; have r0 := md_rng q.1; have d3 := D _ r0.1.1 r0.1.2; rw [q.1, q.2, LB.2.2 _ (by omega)] at d3; cases d3); (rw [qIz256, rz_fr _ _ _ _ (by decide), qIz237, rz_at, bz236, xa]); (rw [qIz256, rz_at, bz255, ya])), dj_J⟩, by rw [ht]; exact hP⟩⟩, hS.F ht⟩) hS.2.2 dX5_findMeeting_260)
    exact key118 _ z113 _ _ _ rfl ⟨by omega, by omega⟩ (fun c ok h hs ha hb u v hv P => by have va := fun k (hk : k < 8) => h.2.2.2.2 p1.toInt.toNat ha k hk; have vb := fun k (hk : k < 8) => h.2.2.2.2 p2.toInt.toNat hb k hk; rw [nf_of ey16, show fb Q y16 p1.toInt.toNat = y35 from fb_of ey19 ey35] at va; rw [nf_of ey16, show fb Q y16 p2.toInt.toNat = y23 from fb_of ey19 ey23] at vb; have pb := ok.2.2.2 _ hb; have pb1 := pb.2.1; have pb2 := pb.2.2.1; have pa := ok.2.2.2 _ ha; have pa1 := pa.2.1; have pa2 := pa.2.2.1; have eXb : bX c p2.toInt.toNat = (c.1 (19 + 8 * p2.toInt.toNat + 1)).toInt := rfl; have eYb : bY c p2.toInt.toNat = (c.1 (19 + 8 * p2.toInt.toNat + 2)).toInt := rfl; have eXa : bX c p1.toInt.toNat = (c.1 (19 + 8 * p1.toInt.toNat + 1)).toInt := rfl; have eYa : bY c p1.toInt.toNat = (c.1 (19 + 8 * p1.toInt.toNat + 2)).toInt := rfl; have xa : z36.toInt = bX c p1.toInt.toNat := (by rw [ez36, va 1 (by decide)]; rfl); have xb : z24.toInt = bX c p2.toInt.toNat := (by rw [ez24, vb 1 (by decide)]; rfl); have ya : z63.toInt = bY c p1.toInt.toNat := (by rw [ez63, va 2 (by decide)]; rfl); have yb : z51.toInt = bY c p2.toInt.toNat := (by rw [ez51, vb 2 (by decide)]; rfl); have Sa := hs p1.toInt.toNat ha; have Sb := hs p2.toInt.toNat hb; rw [show sm Q p0 p1.toInt.toNat = y5 from sm_of ey1 ey5] at Sa; rw [show sm Q p0 p2.toInt.toNat = y12 from sm_of ey1 ey12] at Sb; have m0 := Sa.2.2.2; have m1 := Sb.2.2.2; have R := in_rel ok ha hb (dx := z39.toInt) (dy := z66.toInt) (by omega) (by omega); have q := (R u v).mp P; have k0 := msr_pos m0 q.1; have k1 := msr_pos m1 q.2; have e1 := congrArg Int32.toInt ez102; have e2 := congrArg Int32.toInt ez107; omega) (by omega) (by omega) hP hS (lv_sub hl [6, 7, 8, 5, 4, 3, 2, 1, 0] rfl)
  · have t79 := tq_eq (k := z76.toInt) (q := (0)) c79 rfl (by decide +kernel)
    refine lv_iconst (v := 0) hx hb dX5_findMeeting_82 (by decide +kernel) ?_
    subst hR; subst hQz
    exact W.zret (v := 0) hx hb hr (by decide +kernel) (fun t ht hW => ⟨⟨0, 0, rfl, ⟨rfl, ⟨by decide +kernel, by decide +kernel⟩⟩, ⟨I, J, ⟨hI, fr_I, (fun c ok h hs ha hb => by have va := fun k (hk : k < 8) => h.2.2.2.2 p1.toInt.toNat ha k hk; have vb := fun k (hk : k < 8) => h.2.2.2.2 p2.toInt.toNat hb k hk; rw [nf_of ey16, show fb Q y16 p1.toInt.toNat = y35 from fb_of ey19 ey35] at va; rw [nf_of ey16, show fb Q y16 p2.toInt.toNat = y23 from fb_of ey19 ey23] at vb; have pb := ok.2.2.2 _ hb; have pb1 := pb.2.1; have pb2 := pb.2.2.1; have pa := ok.2.2.2 _ ha; have pa1 := pa.2.1; have pa2 := pa.2.2.1; have eXb : bX c p2.toInt.toNat = (c.1 (19 + 8 * p2.toInt.toNat + 1)).toInt := rfl; have eYb : bY c p2.toInt.toNat = (c.1 (19 + 8 * p2.toInt.toNat + 2)).toInt := rfl; have eXa : bX c p1.toInt.toNat = (c.1 (19 + 8 * p1.toInt.toNat + 1)).toInt := rfl; have eYa : bY c p1.toInt.toNat = (c.1 (19 + 8 * p1.toInt.toNat + 2)).toInt := rfl; have xa : z36.toInt = bX c p1.toInt.toNat := (by rw [ez36, va 1 (by decide)]; rfl); have xb : z24.toInt = bX c p2.toInt.toNat := (by rw [ez24, vb 1 (by decide)]; rfl); have ya : z63.toInt = bY c p1.toInt.toNat := (by rw [ez63, va 2 (by decide)]; rfl); have yb : z51.toInt = bY c p2.toInt.toNat := (by rw [ez51, vb 2 (by decide)]; rfl); have Sa := hs p1.toInt.toNat ha; have Sb := hs p2.toInt.toNat hb; rw [show sm Q p0 p1.toInt.toNat = y5 from sm_of ey1 ey5] at Sa; rw [show sm Q p0 p2.toInt.toNat = y12 from sm_of ey1 ey12] at Sb; have m0 := Sa.2.2.2; have m1 := Sb.2.2.2; have R := in_rel ok ha hb (dx := z39.toInt) (dy := z66.toInt) (by omega) (by omega); refine ⟨fun _ u v P => ?_, fun q => absurd (by decide +kernel) q⟩; have q := (R u v).mp P; have k0 := msr_pos m0 q.1; have k1 := msr_pos m1 q.2; first | (exact absurd (((xpz76.2 ⟨⟨by omega, by omega⟩, by omega, by omega⟩).trans (bxs_P m0 m1)).mpr (ovl_boxP ⟨_, _, q.1, q.2⟩)) (fun f => f t79)) | (have e3 := congrArg Int32.toInt ez85; have e4 := congrArg Int32.toInt ez90; rcases Int.lt_or_le v (bY c p1.toInt.toNat + v118_8.toInt) with w | w; (exact g118 c ok h hs ha hb u v w P); omega)), dj_J⟩, by rw [ht]; exact hP⟩⟩, hS.F ht⟩) hS.2.2 dX5_findMeeting_83

set_option maxHeartbeats 4000000 in
set_option maxRecDepth 100000 in
theorem s_X5_findApart (l : Launch) (dC : Nat → ClassId) (dI : Nat → Nat → Nat) (cs : Nat → ClassId) (L : List Nat) (K G : Nat → Nat) (Q : Nat → Nat → Option Nat) (hQ : Sv L K G Q) (x0 m0 : Nat) (tx : GT) (tm : GT × Int) (sz : Nat) (I : Nat → Nat → Int32) (J : Nat → Nat → Int64) (hI : Iv L K x0 m0 tx tm I) (p0 : Nat) (hLp0 : p0 ∈ L) (hKp0 : K p0 = 5) (p1 : Int32) (bp1 : (0) ≤ p1.toInt ∧ p1.toInt ≤ 9) (p2 : Int32) (bp2 : (0) ≤ p2.toInt ∧ p2.toInt ≤ 9) : Met l yX5_findApart (.code yX5_findApart cX5_findApart 7 none :: pw) ({ frames := 3, cells := 0, slots := 0, locals := 82 }) (sP (dC, dI) cs [.ref p0, .int p1, .int p2] sz L K I J Q) (va_Qv (fun (_ : Unit) => True) (fun _ t => sB (dC, dI) cs L K Q (fun I1 J1 => Iv L K x0 m0 tx tm I1 ∧ (∀ b, ¬ (b = p0) → I1 b = I b) ∧ (∀ c : Fx, okF c → cxF Q I J (nf Q p0) c → cxS Q I J p0 c → p1.toInt.toNat < (c.1 1).toInt.toNat → p2.toInt.toNat < (c.1 1).toInt.toNat → ∃ d y t : Int, apF (apP c p1.toInt.toNat p2.toInt.toNat) d y t ∧ (I1 p0 6).toInt = d ∧ (I1 p0 7).toInt = apS d y t ∧ (I1 p0 8).toInt = y) ∧ J1 = J) t) (fun q => q ∈ L ∨ sz ≤ q)) 0 0 (fun q => q ∈ L ∨ sz ≤ q) := by
  refine Met.ofW (cc := cX5_findApart) (maxL := 7) (ret := none) (by decide +kernel) rfl ?_
  intro p e s m args below meth c s₁ B hml hv
  obtain ⟨rfl, hsz, hP, hK, hD0, hN⟩ := hv
  have hx := B.exec
  have hb := B.bytes
  have hr := B.returns
  have hts := fun w (h : w ∈ pw) => atoms_spec (ws := Cond.code yX5_findApart cX5_findApart 7 none :: pw) B.pre w (List.mem_cons_of_mem _ h)
  have hown : s.vm.findClass RX5 = some m.cls := findClass_of_methodNamed B.named
  have hlocks := B.notSynchronized
  subst hsz
  have hBB : 999 ≤ tm.2 ∧ tm.2 ≤ 6000000 := hI.2.2.2.2.1
  have dj_J : J = J := rfl
  have fr_I : ∀ b, ¬ (b = p0) → I b = I b := fun _ _ => rfl
  obtain ⟨A, hAe⟩ : ∃ A : Nat → Prop, A = (fun q => q ∈ L ∨ s.heap.size ≤ q) := ⟨_, rfl⟩
  rw [← hAe]
  have hAL : ∀ q, q ∈ L → A q := fun q h => by rw [hAe]; exact Or.inl h
  have hA : ∀ q, s.heap.size ≤ q → A q := fun q h => by rw [hAe]; exact Or.inr h
  have hD : ∀ F, va_D A (va_pl L F) := fun F => (hD0 F).weaken (fun k q hk _ => hAL _ (pl_mem hk))
  obtain ⟨H, hHe⟩ : ∃ H : Heap, H = s.heap := ⟨_, rfl⟩
  have hS : va_S A s.heap H [] := by rw [hHe]; exact va_S.rf
  rw [← hHe] at hP
  have hl := lv_entry ([.ref p0, .int p1, .int p2]) (n := 7) (Nat.le_of_ble_eq_true rfl)
  rw [lg_entry_eq]
  generalize (lg_sl ([.ref p0, .int p1, .int p2]) ++ List.replicate (7 - (lg_sl ([.ref p0, .int p1, .int p2])).length) Slot.unset).toArray = ls at hl ⊢
  have hl : lv_has ls 7 [(0, .ref p0), (1, .int p1), (2, .int p2)] := hl
  rw [← hHe]
  refine namedW (fun R Qz hR hQz => ?_)
  refine lv_iconst (v := 0) hx hb dX5_findApart_0 (by decide +kernel) ?_
  refine lv_istore_n (lv' := [(3, .int 0), (0, .ref p0), (1, .int p1), (2, .int p2)]) hx hb dX5_findApart_1 rfl hl (by decide) rfl (fun ls hl => ?_)
  have key2 := blocks (fun n => ∀ (v2_3 : Int32) (H : Heap) (lo : List Loc) (ls : Array Slot), (42 - v2_3.toInt).toNat = n → ((0) ≤ v2_3.toInt ∧ v2_3.toInt ≤ 41) → (∀ c : Fx, okF c → cxF Q I J (nf Q p0) c → cxS Q I J p0 c → p1.toInt.toNat < (c.1 1).toInt.toNat → p2.toInt.toNat < (c.1 1).toInt.toNat → apB (apP c p1.toInt.toNat p2.toInt.toNat) v2_3.toInt (-v2_3.toInt)) → va_P (dC, dI) vwCl (Wd cs L K I J Q) H → va_S A s.heap H lo → lv_has ls 7 [(0, .ref p0), (1, .int p1), (2, .int p2), (3, .int v2_3)] → W p l e R s m (([.ref p0, .int p1, .int p2] : List Value).toArray) below meth c H lo 0 0 Qz (F0 m 2 ls [])) (by
    intro n ih2
    intro v2_3 H lo ls hmu2 bv2_3 g2 hP hS hl
    refine lv_iload_n hx hb dX5_findApart_2 rfl (lv_at hl 3 rfl) ?_
    refine lv_bipush (v := 40) hx hb dX5_findApart_3 (by decide +kernel) ?_
    refine lv_icmp_gt (tgt := 107) hx hb dX5_findApart_5 (by decide) (fun c5 => ?_) (fun c5 => ?_)
    · have t5 := tq_lt (k := (40)) (q := v2_3.toInt) c5 (by decide +kernel) rfl
      subst hR; subst hQz
      exact W.vret hx hb hr (fun t ht hW => ⟨⟨(), rfl, trivial, ⟨I, J, ⟨hI, fr_I, (fun c ok h hs ha hb => absurd (g2 c ok h hs ha hb) (fun q => ap_end q (by omega))), dj_J⟩, by rw [ht]; exact hP⟩⟩, hS.F ht⟩) hS.2.2 dX5_findApart_107
    · have t5 := tq_nlt (k := (40)) (q := v2_3.toInt) c5 (by decide +kernel) rfl
      refine lv_iload_n hx hb dX5_findApart_8 rfl (lv_at hl 3 rfl) ?_
      refine lv_ineg hx hb dX5_findApart_9 ?_
      refine lv_topi (fun z9 ez9 => ?_)
      have bz9 := tq_neg (k := v2_3.toInt) ez9 rfl (by omega) (by omega)
      refine lv_istore (lv' := [(4, .int z9), (0, .ref p0), (1, .int p1), (2, .int p2), (3, .int v2_3)]) hx hb dX5_findApart_10 hl (by decide) rfl (fun ls hl => ?_)
      have key12 := blocks (fun n => ∀ (v12_4 : Int32) (H : Heap) (lo : List Loc) (ls : Array Slot), (42 - v12_4.toInt).toNat = n → ((-40) ≤ v12_4.toInt ∧ v12_4.toInt ≤ 41) → -v2_3.toInt ≤ v12_4.toInt → (∀ c : Fx, okF c → cxF Q I J (nf Q p0) c → cxS Q I J p0 c → p1.toInt.toNat < (c.1 1).toInt.toNat → p2.toInt.toNat < (c.1 1).toInt.toNat → apB (apP c p1.toInt.toNat p2.toInt.toNat) v2_3.toInt v12_4.toInt) → va_P (dC, dI) vwCl (Wd cs L K I J Q) H → va_S A s.heap H lo → lv_has ls 7 [(0, .ref p0), (1, .int p1), (2, .int p2), (3, .int v2_3), (4, .int v12_4)] → W p l e R s m (([.ref p0, .int p1, .int p2] : List Value).toArray) below meth c H lo 0 0 Qz (F0 m 12 ls [])) (by
        intro n ih12
        intro v12_4 H lo ls hmu12 bv12_4 hy12 g12 hP hS hl
        refine lv_iload hx hb dX5_findApart_12 (lv_at hl 4 rfl) ?_
        refine lv_iload_n hx hb dX5_findApart_14 rfl (lv_at hl 3 rfl) ?_
        refine lv_icmp_gt (tgt := 101) hx hb dX5_findApart_15 (by decide) (fun c15 => ?_) (fun c15 => ?_)
        · have t15 := tq_lt (k := v2_3.toInt) (q := v12_4.toInt) c15 rfl rfl
          obtain ⟨z101, ez101⟩ : ∃ y : Int32, y = v2_3 + 1 := ⟨_, rfl⟩
          refine lv_iinc (v := z101) (lv' := [(3, .int z101), (0, .ref p0), (1, .int p1), (2, .int p2), (4, .int v12_4)]) hx hb dX5_findApart_101 hl (k := 3) rfl (by rw [ez101]; rfl) (by decide) rfl (fun ls hl => ?_)
          have bz101 := tq_add (k := v2_3.toInt) (q := 1) ez101 rfl (by decide +kernel) (by omega) (by omega)
          refine lv_goto (tgt := 2) hx hb dX5_findApart_104 (by decide) ?_
          exact ih2 _ (by omega) z101 _ _ _ rfl ⟨by omega, by omega⟩ (fun c ok h hs ha hb => ap_nd (g12 c ok h hs ha hb) (by omega) (by omega) (by omega)) hP hS (lv_sub hl [1, 2, 3, 0] rfl)
        · have t15 := tq_nlt (k := v2_3.toInt) (q := v12_4.toInt) c15 rfl rfl
          refine lv_iload_n hx hb dX5_findApart_18 rfl (lv_at hl 3 rfl) ?_
          refine lv_iload hx hb dX5_findApart_19 (lv_at hl 4 rfl) ?_
          refine va_mabs hx hb (hml.trans hl.1.symm) hown (hts _ pq1048) (hts _ pq747) (hts _ pq82) (hts _ pq748) (by rw [hR]; exact (Nat.le_of_ble_eq_true rfl)) (by rw [hR]; exact (Nat.le_of_ble_eq_true rfl)) (by rw [hR]; exact (Nat.le_of_ble_eq_true rfl)) (by rw [hR]; exact (Nat.le_of_ble_eq_true rfl)) dX5_findApart_21 ?_
          refine lv_topi (fun z21 ez21 => ?_)
          have bz21 := tq_abs ez21 (by omega)
          refine lv_isub hx hb dX5_findApart_24 ?_
          refine lv_topi (fun z24 ez24 => ?_)
          have bz24 := tq_sub (k := v2_3.toInt) (q := z21.toInt) ez24 rfl rfl (by omega) (by omega)
          refine lv_istore (lv' := [(5, .int z24), (0, .ref p0), (1, .int p1), (2, .int p2), (3, .int v2_3), (4, .int v12_4)]) hx hb dX5_findApart_25 hl (by decide) rfl (fun ls hl => ?_)
          refine lv_aload_n hx hb dX5_findApart_27 rfl (lv_at hl 1 rfl) ?_
          refine lv_iload_n hx hb dX5_findApart_28 rfl (lv_at hl 2 rfl) ?_
          refine lv_iload_n hx hb dX5_findApart_29 rfl (lv_at hl 3 rfl) ?_
          refine lv_iload hx hb dX5_findApart_30 (lv_at hl 0 rfl) ?_
          refine lv_ineg hx hb dX5_findApart_32 ?_
          refine lv_topi (fun z32 ez32 => ?_)
          have bz32 := tq_neg (k := z24.toInt) ez32 rfl (by omega) (by omega)
          refine lv_iload hx hb dX5_findApart_33 (lv_at hl 5 rfl) ?_
          refine ro_i (va_runV (As := [.int p1, .int p2, .int z32, .int v12_4]) (rest := []) ⟨hx, hb, hml, hown, hts⟩ (s_X5_shareIfMoved l dC dI cs L K G Q hQ x0 m0 tx tm H.size I J hI p0 hLp0 hKp0 p1 ⟨by omega, by omega⟩ p2 ⟨by omega, by omega⟩ z32 v12_4) (cwV 4 hts (gV pq766 pq767 pq768 pq79 pq769) rfl rfl rfl (by decide +kernel) ⟨(by rw [hR]; exact (Nat.le_of_ble_eq_true rfl)), (by rw [hR]; exact (Nat.le_of_ble_eq_true rfl))⟩) (sP_V hP hD hK hN hLp0 hKp0 rfl rfl) rfl rfl hl.1 rfl (lv_room (Nat.le_of_ble_eq_true rfl)) dX5_findApart_35 ⟨(by rw [hR]; exact (Nat.le_of_ble_eq_true rfl)), (by rw [hR]; exact (Nat.le_of_ble_eq_true rfl))⟩) hS hP (fun z35 H locs hz35 hP hS => ?_)
          obtain ⟨bz35, xpz35⟩ := hz35
          have j46 : ∀ (w46_0 : Int32) (H : Heap) (lo : List Loc) (ls : Array Slot), ((0) ≤ w46_0.toInt ∧ w46_0.toInt ≤ 1) → (∀ c : Fx, okF c → cxF Q I J (nf Q p0) c → cxS Q I J p0 c → p1.toInt.toNat < (c.1 1).toInt.toNat → p2.toInt.toNat < (c.1 1).toInt.toNat → (¬ w46_0.toInt = 0 ↔ apP c p1.toInt.toNat p2.toInt.toNat v2_3.toInt v12_4.toInt (-1))) → va_P (dC, dI) vwCl (Wd cs L K I J Q) H → va_S A s.heap H lo → lv_has ls 7 [(0, .ref p0), (1, .int p1), (2, .int p2), (3, .int v2_3), (4, .int v12_4), (5, .int z24)] → W p l e R s m (([.ref p0, .int p1, .int p2] : List Value).toArray) below meth c H lo 0 0 Qz (F0 m 46 ls [.int w46_0]) := by
            intro w46_0 H lo ls bw46_0 g46 hP hS hl
            refine lv_istore (lv' := [(6, .int w46_0), (0, .ref p0), (1, .int p1), (2, .int p2), (3, .int v2_3), (4, .int v12_4), (5, .int z24)]) hx hb dX5_findApart_46 hl (by decide) rfl (fun ls hl => ?_)
            refine lv_iload hx hb dX5_findApart_48 (lv_at hl 0 rfl) ?_
            have j66 : ∀ (H : Heap) (lo : List Loc) (ls : Array Slot), (∀ c : Fx, okF c → cxF Q I J (nf Q p0) c → cxS Q I J p0 c → p1.toInt.toNat < (c.1 1).toInt.toNat → p2.toInt.toNat < (c.1 1).toInt.toNat → ((¬ w46_0.toInt = 0 ∧ apP c p1.toInt.toNat p2.toInt.toNat v2_3.toInt v12_4.toInt (-1)) ∨ (w46_0.toInt = 0 ∧ ¬ apP c p1.toInt.toNat p2.toInt.toNat v2_3.toInt v12_4.toInt (-1) ∧ apP c p1.toInt.toNat p2.toInt.toNat v2_3.toInt v12_4.toInt 1))) → va_P (dC, dI) vwCl (Wd cs L K I J Q) H → va_S A s.heap H lo → lv_has ls 7 [(0, .ref p0), (1, .int p1), (2, .int p2), (3, .int v2_3), (4, .int v12_4), (5, .int z24), (6, .int w46_0)] → W p l e R s m (([.ref p0, .int p1, .int p2] : List Value).toArray) below meth c H lo 0 0 Qz (F0 m 66 ls []) := by
              intro H lo ls g66 hP hS hl
              refine lv_aload_n hx hb dX5_findApart_66 rfl (lv_at hl 0 rfl) ?_
              refine lv_iload_n hx hb dX5_findApart_67 rfl (lv_at hl 3 rfl) ?_
              refine p_put hx hb hts inX5 tyX5 tyX5_ok nmX5 hown hK hP hD hS hLp0 hKp0 rfl rfl 6 (by decide) (hts _ pq282) rfl (by decide +kernel) (Nat.le_of_ble_eq_true rfl) (oS_5_6 cs _ _ _ _) dX5_findApart_68 (fun H locs hP hS => ?_)
              obtain ⟨Iz68, hP, hIz68, qIz68⟩ : ∃ Iz68, va_P (dC, dI) vwCl (Wd cs L K Iz68 J Q) H ∧ Iv L K x0 m0 tx tm Iz68 ∧ Iz68 = va_up I p0 (upd (I p0) 6 v2_3) := ⟨_, hP, Iv_put hI hKp0 (oP_5_6 (Iv_at hI hLp0 hKp0)) (by decide) (by decide), rfl⟩
              have fr_Iz68 : ∀ b, ¬ (b = p0) → Iz68 b = I b := fun b q => (congrFun qIz68 b).trans ((va_up_ne _ _ (fun z => q z)).trans (fr_I b q))
              refine lv_aload_n hx hb dX5_findApart_71 rfl (lv_at hl 0 rfl) ?_
              refine lv_iload hx hb dX5_findApart_72 (lv_at hl 6 rfl) ?_
              refine lv_if_eq (tgt := 83) hx hb dX5_findApart_74 (by decide) (fun c74 => ?_) (fun c74 => ?_)
              · have t74 := tq_eq (k := w46_0.toInt) (q := (0)) c74 rfl (by decide +kernel)
                refine lv_iload hx hb dX5_findApart_83 (lv_at hl 5 rfl) ?_
                refine p_put hx hb hts inX5 tyX5 tyX5_ok nmX5 hown hK hP hD hS hLp0 hKp0 rfl rfl 7 (by decide) (hts _ pq284) rfl (by decide +kernel) (Nat.le_of_ble_eq_true rfl) (oS_5_7 cs _ _ _ _) dX5_findApart_85 (fun H locs hP hS => ?_)
                obtain ⟨Iz85, hP, hIz85, qIz85⟩ : ∃ Iz85, va_P (dC, dI) vwCl (Wd cs L K Iz85 J Q) H ∧ Iv L K x0 m0 tx tm Iz85 ∧ Iz85 = va_up Iz68 p0 (upd (Iz68 p0) 7 z24) := ⟨_, hP, Iv_put hIz68 hKp0 (oP_5_7 (Iv_at hIz68 hLp0 hKp0)) (by decide) (by decide), rfl⟩
                have fr_Iz85 : ∀ b, ¬ (b = p0) → Iz85 b = I b := fun b q => (congrFun qIz85 b).trans ((va_up_ne _ _ (fun z => q z)).trans (fr_Iz68 b q))
                refine lv_aload_n hx hb dX5_findApart_88 rfl (lv_at hl 0 rfl) ?_
                refine lv_iload hx hb dX5_findApart_89 (lv_at hl 4 rfl) ?_
                refine p_put hx hb hts inX5 tyX5 tyX5_ok nmX5 hown hK hP hD hS hLp0 hKp0 rfl rfl 8 (by decide) (hts _ pq286) rfl (by decide +kernel) (Nat.le_of_ble_eq_true rfl) (oS_5_8 cs _ _ _ _) dX5_findApart_91 (fun H locs hP hS => ?_)
                obtain ⟨Iz91, hP, hIz91, qIz91⟩ : ∃ Iz91, va_P (dC, dI) vwCl (Wd cs L K Iz91 J Q) H ∧ Iv L K x0 m0 tx tm Iz91 ∧ Iz91 = va_up Iz85 p0 (upd (Iz85 p0) 8 v12_4) := ⟨_, hP, Iv_put hIz85 hKp0 (oP_5_8 (Iv_at hIz85 hLp0 hKp0)) (by decide) (by decide), rfl⟩
                have fr_Iz91 : ∀ b, ¬ (b = p0) → Iz91 b = I b := fun b q => (congrFun qIz91 b).trans ((va_up_ne _ _ (fun z => q z)).trans (fr_Iz85 b q))
                subst hR; subst hQz
                exact W.vret hx hb hr (fun t ht hW => ⟨⟨(), rfl, trivial, ⟨Iz91, J, ⟨hIz91, fr_Iz91, (fun c ok h hs ha hb => by rcases g66 c ok h hs ha hb with ⟨q, k⟩ | ⟨q, k, k2⟩; (exact absurd t74 q); (exact ⟨v2_3.toInt, v12_4.toInt, 1, ⟨⟨⟨by omega, by omega, by omega⟩, Or.inr rfl⟩, k2, g12 c ok h hs ha hb, fun _ => k⟩, by rw [qIz91, rz_fr _ _ _ _ (by decide), qIz85, rz_fr _ _ _ _ (by decide), qIz68, rz_at], by rw [qIz91, rz_fr _ _ _ _ (by decide), qIz85, rz_at]; unfold apS; omega, by rw [qIz91, rz_at]⟩)), dj_J⟩, by rw [ht]; exact hP⟩⟩, hS.F ht⟩) hS.2.2 dX5_findApart_94
              · have t74 := tq_ne (k := w46_0.toInt) (q := (0)) c74 rfl (by decide +kernel)
                refine lv_iload hx hb dX5_findApart_77 (lv_at hl 5 rfl) ?_
                refine lv_ineg hx hb dX5_findApart_79 ?_
                refine lv_topi (fun z79 ez79 => ?_)
                have bz79 := tq_neg (k := z24.toInt) ez79 rfl (by omega) (by omega)
                refine lv_goto (tgt := 85) hx hb dX5_findApart_80 (by decide) ?_
                refine p_put hx hb hts inX5 tyX5 tyX5_ok nmX5 hown hK hP hD hS hLp0 hKp0 rfl rfl 7 (by decide) (hts _ pq284) rfl (by decide +kernel) (Nat.le_of_ble_eq_true rfl) (oS_5_7 cs _ _ _ _) dX5_findApart_85 (fun H locs hP hS => ?_)
                obtain ⟨Iz85, hP, hIz85, qIz85⟩ : ∃ Iz85, va_P (dC, dI) vwCl (Wd cs L K Iz85 J Q) H ∧ Iv L K x0 m0 tx tm Iz85 ∧ Iz85 = va_up Iz68 p0 (upd (Iz68 p0) 7 z79) := ⟨_, hP, Iv_put hIz68 hKp0 (oP_5_7 (Iv_at hIz68 hLp0 hKp0)) (by decide) (by decide), rfl⟩
                have fr_Iz85 : ∀ b, ¬ (b = p0) → Iz85 b = I b := fun b q => (congrFun qIz85 b).trans ((va_up_ne _ _ (fun z => q z)).trans (fr_Iz68 b q))
                refine lv_aload_n hx hb dX5_findApart_88 rfl (lv_at hl 0 rfl) ?_
                refine lv_iload hx hb dX5_findApart_89 (lv_at hl 4 rfl) ?_
                refine p_put hx hb hts inX5 tyX5 tyX5_ok nmX5 hown hK hP hD hS hLp0 hKp0 rfl rfl 8 (by decide) (hts _ pq286) rfl (by decide +kernel) (Nat.le_of_ble_eq_true rfl) (oS_5_8 cs _ _ _ _) dX5_findApart_91 (fun H locs hP hS => ?_)
                obtain ⟨Iz91, hP, hIz91, qIz91⟩ : ∃ Iz91, va_P (dC, dI) vwCl (Wd cs L K Iz91 J Q) H ∧ Iv L K x0 m0 tx tm Iz91 ∧ Iz91 = va_up Iz85 p0 (upd (Iz85 p0) 8 v12_4) := ⟨_, hP, Iv_put hIz85 hKp0 (oP_5_8 (Iv_at hIz85 hLp0 hKp0)) (by decide) (by decide), rfl⟩
                have fr_Iz91 : ∀ b, ¬ (b = p0) → Iz91 b = I b := fun b q => (congrFun qIz91 b).trans ((va_up_ne _ _ (fun z => q z)).trans (fr_Iz85 b q))
                subst hR; subst hQz
                exact W.vret hx hb hr (fun t ht hW => ⟨⟨(), rfl, trivial, ⟨Iz91, J, ⟨hIz91, fr_Iz91, (fun c ok h hs ha hb => by rcases g66 c ok h hs ha hb with ⟨q, k⟩ | ⟨q, k, k2⟩; (exact ⟨v2_3.toInt, v12_4.toInt, -1, ⟨⟨⟨by omega, by omega, by omega⟩, Or.inl rfl⟩, k, g12 c ok h hs ha hb, fun e => absurd e (by decide)⟩, by rw [qIz91, rz_fr _ _ _ _ (by decide), qIz85, rz_fr _ _ _ _ (by decide), qIz68, rz_at], by rw [qIz91, rz_fr _ _ _ _ (by decide), qIz85, rz_at]; unfold apS; omega, by rw [qIz91, rz_at]⟩); (exact absurd q t74)), dj_J⟩, by rw [ht]; exact hP⟩⟩, hS.F ht⟩) hS.2.2 dX5_findApart_94
            refine lv_if_ne (tgt := 66) hx hb dX5_findApart_50 (by decide) (fun c50 => ?_) (fun c50 => ?_)
            · have t50 := tq_ne (k := w46_0.toInt) (q := (0)) c50 rfl (by decide +kernel)
              exact j66  _ _ _ (fun c ok h hs ha hb => Or.inl ⟨t50, (g46 c ok h hs ha hb).mp t50⟩) hP hS (lv_sub hl [1, 2, 3, 4, 5, 6, 0] rfl)
            · have t50 := tq_eq (k := w46_0.toInt) (q := (0)) c50 rfl (by decide +kernel)
              refine lv_aload_n hx hb dX5_findApart_53 rfl (lv_at hl 1 rfl) ?_
              refine lv_iload_n hx hb dX5_findApart_54 rfl (lv_at hl 2 rfl) ?_
              refine lv_iload_n hx hb dX5_findApart_55 rfl (lv_at hl 3 rfl) ?_
              refine lv_iload hx hb dX5_findApart_56 (lv_at hl 6 rfl) ?_
              refine lv_iload hx hb dX5_findApart_58 (lv_at hl 5 rfl) ?_
              refine ro_i (va_runV (As := [.int p1, .int p2, .int z24, .int v12_4]) (rest := []) ⟨hx, hb, hml, hown, hts⟩ (s_X5_shareIfMoved l dC dI cs L K G Q hQ x0 m0 tx tm H.size I J hI p0 hLp0 hKp0 p1 ⟨by omega, by omega⟩ p2 ⟨by omega, by omega⟩ z24 v12_4) (cwV 4 hts (gV pq766 pq767 pq768 pq79 pq769) rfl rfl rfl (by decide +kernel) ⟨(by rw [hR]; exact (Nat.le_of_ble_eq_true rfl)), (by rw [hR]; exact (Nat.le_of_ble_eq_true rfl))⟩) (sP_V hP hD hK hN hLp0 hKp0 rfl rfl) rfl rfl hl.1 rfl (lv_room (Nat.le_of_ble_eq_true rfl)) dX5_findApart_60 ⟨(by rw [hR]; exact (Nat.le_of_ble_eq_true rfl)), (by rw [hR]; exact (Nat.le_of_ble_eq_true rfl))⟩) hS hP (fun z60 H locs hz60 hP hS => ?_)
              obtain ⟨bz60, xpz60⟩ := hz60
              refine lv_if_ne (tgt := 95) hx hb dX5_findApart_63 (by decide) (fun c63 => ?_) (fun c63 => ?_)
              · have t63 := tq_ne (k := z60.toInt) (q := (0)) c63 rfl (by decide +kernel)
                obtain ⟨z95, ez95⟩ : ∃ y : Int32, y = v12_4 + 1 := ⟨_, rfl⟩
                refine lv_iinc (v := z95) (lv' := [(4, .int z95), (6, .int w46_0), (0, .ref p0), (1, .int p1), (2, .int p2), (3, .int v2_3), (5, .int z24)]) hx hb dX5_findApart_95 hl (k := 5) rfl (by rw [ez95]; rfl) (by decide) rfl (fun ls hl => ?_)
                have bz95 := tq_add (k := v12_4.toInt) (q := 1) ez95 rfl (by decide +kernel) (by omega) (by omega)
                refine lv_goto (tgt := 12) hx hb dX5_findApart_98 (by decide) ?_
                exact ih12 _ (by omega) z95 _ _ _ rfl ⟨by omega, by omega⟩ (by omega) (fun c ok h hs ha hb => by have w := xpz60 c ok h hs ha hb ⟨⟨by omega, by omega⟩, by omega, by omega⟩; have k := ap_e (c := c) (a := p1.toInt.toNat) (b := p2.toInt.toNat) (d := v2_3.toInt) (y := v12_4.toInt) (t := 1) (s := z24.toInt) (by unfold apS; omega); exact ap_ny (g12 c ok h hs ha hb) (fun q => (g46 c ok h hs ha hb).mpr q t50) (fun q => k.mp q (w.mp t63)) (by omega)) hP hS (lv_sub hl [2, 3, 4, 5, 0] rfl)
              · have t63 := tq_eq (k := z60.toInt) (q := (0)) c63 rfl (by decide +kernel)
                exact j66  _ _ _ (fun c ok h hs ha hb => by have w := xpz60 c ok h hs ha hb ⟨⟨by omega, by omega⟩, by omega, by omega⟩; have k := ap_e (c := c) (a := p1.toInt.toNat) (b := p2.toInt.toNat) (d := v2_3.toInt) (y := v12_4.toInt) (t := 1) (s := z24.toInt) (by unfold apS; omega); exact Or.inr ⟨t50, fun q => (g46 c ok h hs ha hb).mpr q t50, k.mpr (fun m => (w.mpr m) t63)⟩) hP hS (lv_sub hl [1, 2, 3, 4, 5, 6, 0] rfl)
          refine lv_if_ne (tgt := 45) hx hb dX5_findApart_38 (by decide) (fun c38 => ?_) (fun c38 => ?_)
          · have t38 := tq_ne (k := z35.toInt) (q := (0)) c38 rfl (by decide +kernel)
            refine lv_iconst (v := 0) hx hb dX5_findApart_45 (by decide +kernel) ?_
            exact j46 0 _ _ _ ⟨by decide +kernel, by decide +kernel⟩ (fun c ok h hs ha hb => by have w := xpz35 c ok h hs ha hb ⟨⟨by omega, by omega⟩, by omega, by omega⟩; have k := ap_e (c := c) (a := p1.toInt.toNat) (b := p2.toInt.toNat) (d := v2_3.toInt) (y := v12_4.toInt) (t := -1) (s := z32.toInt) (by unfold apS; omega); exact ⟨fun q => absurd (by decide +kernel) q, fun q => absurd (w.mp t38) (k.mp q)⟩) hP hS (lv_sub hl [1, 2, 3, 4, 5, 0] rfl)
          · have t38 := tq_eq (k := z35.toInt) (q := (0)) c38 rfl (by decide +kernel)
            refine lv_iconst (v := 1) hx hb dX5_findApart_41 (by decide +kernel) ?_
            refine lv_goto (tgt := 46) hx hb dX5_findApart_42 (by decide) ?_
            exact j46 1 _ _ _ ⟨by decide +kernel, by decide +kernel⟩ (fun c ok h hs ha hb => by have w := xpz35 c ok h hs ha hb ⟨⟨by omega, by omega⟩, by omega, by omega⟩; have k := ap_e (c := c) (a := p1.toInt.toNat) (b := p2.toInt.toNat) (d := v2_3.toInt) (y := v12_4.toInt) (t := -1) (s := z32.toInt) (by unfold apS; omega); exact ⟨fun _ => k.mpr (fun m => (w.mpr m) t38), fun _ => by decide +kernel⟩) hP hS (lv_sub hl [1, 2, 3, 4, 5, 0] rfl))
      exact key12 _ z9 _ _ _ rfl ⟨by omega, by omega⟩ (by omega) (fun c ok h hs ha hb => by rw [show z9.toInt = -v2_3.toInt by omega]; exact g2 c ok h hs ha hb) hP hS (lv_sub hl [1, 2, 3, 4, 0] rfl))
  exact key2 _ 0 _ _ _ rfl ⟨by decide +kernel, by decide +kernel⟩ (fun c ok h hs ha hb => by rw [show (0 : Int32).toInt = 0 from by decide +kernel]; exact ap_0 (by decide)) hP hS (lv_sub hl [1, 2, 3, 0] rfl)
