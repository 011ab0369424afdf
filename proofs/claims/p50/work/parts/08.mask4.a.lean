def yX3_dotsWithin : MethodName := ⟨RX3, "dotsWithin", "(IIII)I"⟩
abbrev cX3_dotsWithin : ByteArray := prog_5_method_17_code
def yX3_dotsOfRow : MethodName := ⟨RX3, "dotsOfRow", "(I)I"⟩
abbrev cX3_dotsOfRow : ByteArray := prog_5_method_18_code
abbrev cX3_becomeFlipped : ByteArray := prog_5_method_14_code
abbrev cX3_becomeQuartered : ByteArray := prog_5_method_13_code
abbrev cX3_boxesShare : ByteArray := prog_5_method_22_code
abbrev cX3_farthestApart : ByteArray := prog_5_method_21_code
abbrev cX3_openSides : ByteArray := prog_5_method_16_code
abbrev cX3_sumOfX : ByteArray := prog_5_method_19_code
abbrev cX3_sumOfY : ByteArray := prog_5_method_20_code
def yX3_becomeFlipped : MethodName := ⟨RX3, "becomeFlipped", "(LMaskTouch$Mask;I)V"⟩
def yX3_becomeQuartered : MethodName := ⟨RX3, "becomeQuartered", "(LMaskTouch$Mask;)V"⟩
def yX3_boxesShare : MethodName := ⟨RX3, "boxesShare", "(LMaskTouch$Mask;LMaskTouch$Mask;II)Z"⟩
def yX3_farthestApart : MethodName := ⟨RX3, "farthestApart", "()I"⟩
def yX3_openSides : MethodName := ⟨RX3, "openSides", "()I"⟩
def yX3_sumOfX : MethodName := ⟨RX3, "sumOfX", "()I"⟩
def yX3_sumOfY : MethodName := ⟨RX3, "sumOfY", "()I"⟩
theorem dX3_becomeFlipped_0 : decode cX3_becomeFlipped 0 = .ok (.iload_n 2, 1) := by decide +kernel
theorem dX3_becomeFlipped_1 : decode cX3_becomeFlipped 1 = .ok (.ifCond .ne 9, 3) := by decide +kernel
theorem dX3_becomeFlipped_4 : decode cX3_becomeFlipped 4 = .ok (.aload_n 0, 1) := by decide +kernel
theorem dX3_becomeFlipped_5 : decode cX3_becomeFlipped 5 = .ok (.aload_n 1, 1) := by decide +kernel
theorem dX3_becomeFlipped_6 : decode cX3_becomeFlipped 6 = .ok (.invokevirtual 92, 3) := by decide +kernel
theorem dX3_becomeFlipped_9 : decode cX3_becomeFlipped 9 = .ok (.return_, 1) := by decide +kernel
theorem dX3_becomeFlipped_10 : decode cX3_becomeFlipped 10 = .ok (.aload_n 0, 1) := by decide +kernel
theorem dX3_becomeFlipped_11 : decode cX3_becomeFlipped 11 = .ok (.aload_n 1, 1) := by decide +kernel
theorem dX3_becomeFlipped_12 : decode cX3_becomeFlipped 12 = .ok (.getfield 15, 3) := by decide +kernel
theorem dX3_becomeFlipped_15 : decode cX3_becomeFlipped 15 = .ok (.aload_n 1, 1) := by decide +kernel
theorem dX3_becomeFlipped_16 : decode cX3_becomeFlipped 16 = .ok (.getfield 19, 3) := by decide +kernel
theorem dX3_becomeFlipped_19 : decode cX3_becomeFlipped 19 = .ok (.invokevirtual 66, 3) := by decide +kernel
theorem dX3_becomeFlipped_22 : decode cX3_becomeFlipped 22 = .ok (.iconst 0, 1) := by decide +kernel
theorem dX3_becomeFlipped_23 : decode cX3_becomeFlipped 23 = .ok (.istore_n 3, 1) := by decide +kernel
theorem dX3_becomeFlipped_24 : decode cX3_becomeFlipped 24 = .ok (.iload_n 3, 1) := by decide +kernel
theorem dX3_becomeFlipped_25 : decode cX3_becomeFlipped 25 = .ok (.aload_n 0, 1) := by decide +kernel
theorem dX3_becomeFlipped_26 : decode cX3_becomeFlipped 26 = .ok (.getfield 19, 3) := by decide +kernel
theorem dX3_becomeFlipped_29 : decode cX3_becomeFlipped 29 = .ok (.if_icmp .ge 142, 3) := by decide +kernel
theorem dX3_becomeFlipped_32 : decode cX3_becomeFlipped 32 = .ok (.iconst 2, 1) := by decide +kernel
theorem dX3_becomeFlipped_33 : decode cX3_becomeFlipped 33 = .ok (.iload_n 2, 1) := by decide +kernel
theorem dX3_becomeFlipped_34 : decode cX3_becomeFlipped 34 = .ok (.iconst 2, 1) := by decide +kernel
theorem dX3_becomeFlipped_35 : decode cX3_becomeFlipped 35 = .ok (.iand, 1) := by decide +kernel
theorem dX3_becomeFlipped_36 : decode cX3_becomeFlipped 36 = .ok (.ifCond .ne 7, 3) := by decide +kernel
theorem dX3_becomeFlipped_39 : decode cX3_becomeFlipped 39 = .ok (.iload_n 3, 1) := by decide +kernel
theorem dX3_becomeFlipped_40 : decode cX3_becomeFlipped 40 = .ok (.goto 11, 3) := by decide +kernel
theorem dX3_becomeFlipped_43 : decode cX3_becomeFlipped 43 = .ok (.aload_n 0, 1) := by decide +kernel
theorem dX3_becomeFlipped_44 : decode cX3_becomeFlipped 44 = .ok (.getfield 19, 3) := by decide +kernel
theorem dX3_becomeFlipped_47 : decode cX3_becomeFlipped 47 = .ok (.iconst 1, 1) := by decide +kernel
theorem dX3_becomeFlipped_48 : decode cX3_becomeFlipped 48 = .ok (.isub, 1) := by decide +kernel
theorem dX3_becomeFlipped_49 : decode cX3_becomeFlipped 49 = .ok (.iload_n 3, 1) := by decide +kernel
theorem dX3_becomeFlipped_50 : decode cX3_becomeFlipped 50 = .ok (.isub, 1) := by decide +kernel
theorem dX3_becomeFlipped_51 : decode cX3_becomeFlipped 51 = .ok (.imul, 1) := by decide +kernel
theorem dX3_becomeFlipped_52 : decode cX3_becomeFlipped 52 = .ok (.istore 4, 2) := by decide +kernel
theorem dX3_becomeFlipped_54 : decode cX3_becomeFlipped 54 = .ok (.aload_n 1, 1) := by decide +kernel
theorem dX3_becomeFlipped_55 : decode cX3_becomeFlipped 55 = .ok (.getfield 9, 3) := by decide +kernel
theorem dX3_becomeFlipped_58 : decode cX3_becomeFlipped 58 = .ok (.iload 4, 2) := by decide +kernel
theorem dX3_becomeFlipped_60 : decode cX3_becomeFlipped 60 = .ok (.laload, 1) := by decide +kernel
theorem dX3_becomeFlipped_61 : decode cX3_becomeFlipped 61 = .ok (.lstore 5, 2) := by decide +kernel
theorem dX3_becomeFlipped_63 : decode cX3_becomeFlipped 63 = .ok (.aload_n 1, 1) := by decide +kernel
theorem dX3_becomeFlipped_64 : decode cX3_becomeFlipped 64 = .ok (.getfield 9, 3) := by decide +kernel
theorem dX3_becomeFlipped_67 : decode cX3_becomeFlipped 67 = .ok (.iload 4, 2) := by decide +kernel
theorem dX3_becomeFlipped_69 : decode cX3_becomeFlipped 69 = .ok (.iconst 1, 1) := by decide +kernel
theorem dX3_becomeFlipped_70 : decode cX3_becomeFlipped 70 = .ok (.iadd, 1) := by decide +kernel
theorem dX3_becomeFlipped_71 : decode cX3_becomeFlipped 71 = .ok (.laload, 1) := by decide +kernel
theorem dX3_becomeFlipped_72 : decode cX3_becomeFlipped 72 = .ok (.lstore 7, 2) := by decide +kernel
theorem dX3_becomeFlipped_74 : decode cX3_becomeFlipped 74 = .ok (.iload_n 2, 1) := by decide +kernel
theorem dX3_becomeFlipped_75 : decode cX3_becomeFlipped 75 = .ok (.iconst 1, 1) := by decide +kernel
theorem dX3_becomeFlipped_76 : decode cX3_becomeFlipped 76 = .ok (.iand, 1) := by decide +kernel
theorem dX3_becomeFlipped_77 : decode cX3_becomeFlipped 77 = .ok (.ifCond .ne 28, 3) := by decide +kernel
theorem dX3_becomeFlipped_80 : decode cX3_becomeFlipped 80 = .ok (.aload_n 0, 1) := by decide +kernel
theorem dX3_becomeFlipped_81 : decode cX3_becomeFlipped 81 = .ok (.getfield 9, 3) := by decide +kernel
theorem dX3_becomeFlipped_84 : decode cX3_becomeFlipped 84 = .ok (.iconst 2, 1) := by decide +kernel
theorem dX3_becomeFlipped_85 : decode cX3_becomeFlipped 85 = .ok (.iload_n 3, 1) := by decide +kernel
theorem dX3_becomeFlipped_86 : decode cX3_becomeFlipped 86 = .ok (.imul, 1) := by decide +kernel
theorem dX3_becomeFlipped_87 : decode cX3_becomeFlipped 87 = .ok (.lload 5, 2) := by decide +kernel
theorem dX3_becomeFlipped_89 : decode cX3_becomeFlipped 89 = .ok (.lastore, 1) := by decide +kernel
theorem dX3_becomeFlipped_90 : decode cX3_becomeFlipped 90 = .ok (.aload_n 0, 1) := by decide +kernel
theorem dX3_becomeFlipped_91 : decode cX3_becomeFlipped 91 = .ok (.getfield 9, 3) := by decide +kernel
theorem dX3_becomeFlipped_94 : decode cX3_becomeFlipped 94 = .ok (.iconst 2, 1) := by decide +kernel
theorem dX3_becomeFlipped_95 : decode cX3_becomeFlipped 95 = .ok (.iload_n 3, 1) := by decide +kernel
theorem dX3_becomeFlipped_96 : decode cX3_becomeFlipped 96 = .ok (.imul, 1) := by decide +kernel
theorem dX3_becomeFlipped_97 : decode cX3_becomeFlipped 97 = .ok (.iconst 1, 1) := by decide +kernel
theorem dX3_becomeFlipped_98 : decode cX3_becomeFlipped 98 = .ok (.iadd, 1) := by decide +kernel
theorem dX3_becomeFlipped_99 : decode cX3_becomeFlipped 99 = .ok (.lload 7, 2) := by decide +kernel
theorem dX3_becomeFlipped_101 : decode cX3_becomeFlipped 101 = .ok (.lastore, 1) := by decide +kernel
theorem dX3_becomeFlipped_102 : decode cX3_becomeFlipped 102 = .ok (.goto 63, 3) := by decide +kernel
theorem dX3_becomeFlipped_105 : decode cX3_becomeFlipped 105 = .ok (.aload_n 0, 1) := by decide +kernel
theorem dX3_becomeFlipped_106 : decode cX3_becomeFlipped 106 = .ok (.getfield 9, 3) := by decide +kernel
theorem dX3_becomeFlipped_109 : decode cX3_becomeFlipped 109 = .ok (.iconst 2, 1) := by decide +kernel
theorem dX3_becomeFlipped_110 : decode cX3_becomeFlipped 110 = .ok (.iload_n 3, 1) := by decide +kernel
theorem dX3_becomeFlipped_111 : decode cX3_becomeFlipped 111 = .ok (.imul, 1) := by decide +kernel
theorem dX3_becomeFlipped_112 : decode cX3_becomeFlipped 112 = .ok (.lload 7, 2) := by decide +kernel
theorem dX3_becomeFlipped_114 : decode cX3_becomeFlipped 114 = .ok (.invokestatic 102, 3) := by decide +kernel
theorem dX3_becomeFlipped_117 : decode cX3_becomeFlipped 117 = .ok (.lload 5, 2) := by decide +kernel
theorem dX3_becomeFlipped_119 : decode cX3_becomeFlipped 119 = .ok (.invokestatic 102, 3) := by decide +kernel
theorem dX3_becomeFlipped_122 : decode cX3_becomeFlipped 122 = .ok (.aload_n 0, 1) := by decide +kernel
theorem dX3_becomeFlipped_123 : decode cX3_becomeFlipped 123 = .ok (.getfield 15, 3) := by decide +kernel
theorem dX3_becomeFlipped_126 : decode cX3_becomeFlipped 126 = .ok (.sipush 128, 3) := by decide +kernel
theorem dX3_becomeFlipped_129 : decode cX3_becomeFlipped 129 = .ok (.isub, 1) := by decide +kernel
theorem dX3_becomeFlipped_130 : decode cX3_becomeFlipped 130 = .ok (.invokestatic 80, 3) := by decide +kernel
theorem dX3_becomeFlipped_133 : decode cX3_becomeFlipped 133 = .ok (.lastore, 1) := by decide +kernel
theorem dX3_becomeFlipped_134 : decode cX3_becomeFlipped 134 = .ok (.aload_n 0, 1) := by decide +kernel
theorem dX3_becomeFlipped_135 : decode cX3_becomeFlipped 135 = .ok (.getfield 9, 3) := by decide +kernel
theorem dX3_becomeFlipped_138 : decode cX3_becomeFlipped 138 = .ok (.iconst 2, 1) := by decide +kernel
theorem dX3_becomeFlipped_139 : decode cX3_becomeFlipped 139 = .ok (.iload_n 3, 1) := by decide +kernel
theorem dX3_becomeFlipped_140 : decode cX3_becomeFlipped 140 = .ok (.imul, 1) := by decide +kernel
theorem dX3_becomeFlipped_141 : decode cX3_becomeFlipped 141 = .ok (.iconst 1, 1) := by decide +kernel
theorem dX3_becomeFlipped_142 : decode cX3_becomeFlipped 142 = .ok (.iadd, 1) := by decide +kernel
theorem dX3_becomeFlipped_143 : decode cX3_becomeFlipped 143 = .ok (.lload 7, 2) := by decide +kernel
theorem dX3_becomeFlipped_145 : decode cX3_becomeFlipped 145 = .ok (.invokestatic 102, 3) := by decide +kernel
theorem dX3_becomeFlipped_148 : decode cX3_becomeFlipped 148 = .ok (.lload 5, 2) := by decide +kernel
theorem dX3_becomeFlipped_150 : decode cX3_becomeFlipped 150 = .ok (.invokestatic 102, 3) := by decide +kernel
theorem dX3_becomeFlipped_153 : decode cX3_becomeFlipped 153 = .ok (.aload_n 0, 1) := by decide +kernel
theorem dX3_becomeFlipped_154 : decode cX3_becomeFlipped 154 = .ok (.getfield 15, 3) := by decide +kernel
theorem dX3_becomeFlipped_157 : decode cX3_becomeFlipped 157 = .ok (.sipush 128, 3) := by decide +kernel
theorem dX3_becomeFlipped_160 : decode cX3_becomeFlipped 160 = .ok (.isub, 1) := by decide +kernel
theorem dX3_becomeFlipped_161 : decode cX3_becomeFlipped 161 = .ok (.invokestatic 84, 3) := by decide +kernel
theorem dX3_becomeFlipped_164 : decode cX3_becomeFlipped 164 = .ok (.lastore, 1) := by decide +kernel
theorem dX3_becomeFlipped_165 : decode cX3_becomeFlipped 165 = .ok (.iinc 3 1, 3) := by decide +kernel
theorem dX3_becomeFlipped_168 : decode cX3_becomeFlipped 168 = .ok (.goto (-144), 3) := by decide +kernel
theorem dX3_becomeFlipped_171 : decode cX3_becomeFlipped 171 = .ok (.aload_n 0, 1) := by decide +kernel
theorem dX3_becomeFlipped_172 : decode cX3_becomeFlipped 172 = .ok (.invokevirtual 77, 3) := by decide +kernel
theorem dX3_becomeFlipped_175 : decode cX3_becomeFlipped 175 = .ok (.return_, 1) := by decide +kernel
theorem dX3_becomeQuartered_0 : decode cX3_becomeQuartered 0 = .ok (.aload_n 0, 1) := by decide +kernel
theorem dX3_becomeQuartered_1 : decode cX3_becomeQuartered 1 = .ok (.aload_n 1, 1) := by decide +kernel
theorem dX3_becomeQuartered_2 : decode cX3_becomeQuartered 2 = .ok (.getfield 19, 3) := by decide +kernel
theorem dX3_becomeQuartered_5 : decode cX3_becomeQuartered 5 = .ok (.aload_n 1, 1) := by decide +kernel
theorem dX3_becomeQuartered_6 : decode cX3_becomeQuartered 6 = .ok (.getfield 15, 3) := by decide +kernel
theorem dX3_becomeQuartered_9 : decode cX3_becomeQuartered 9 = .ok (.invokevirtual 66, 3) := by decide +kernel
theorem dX3_becomeQuartered_12 : decode cX3_becomeQuartered 12 = .ok (.iconst 0, 1) := by decide +kernel
theorem dX3_becomeQuartered_13 : decode cX3_becomeQuartered 13 = .ok (.istore_n 2, 1) := by decide +kernel
theorem dX3_becomeQuartered_14 : decode cX3_becomeQuartered 14 = .ok (.iload_n 2, 1) := by decide +kernel
theorem dX3_becomeQuartered_15 : decode cX3_becomeQuartered 15 = .ok (.aload_n 1, 1) := by decide +kernel
theorem dX3_becomeQuartered_16 : decode cX3_becomeQuartered 16 = .ok (.getfield 19, 3) := by decide +kernel
theorem dX3_becomeQuartered_19 : decode cX3_becomeQuartered 19 = .ok (.if_icmp .ge 47, 3) := by decide +kernel
theorem dX3_becomeQuartered_22 : decode cX3_becomeQuartered 22 = .ok (.iconst 0, 1) := by decide +kernel
theorem dX3_becomeQuartered_23 : decode cX3_becomeQuartered 23 = .ok (.istore_n 3, 1) := by decide +kernel
theorem dX3_becomeQuartered_24 : decode cX3_becomeQuartered 24 = .ok (.iload_n 3, 1) := by decide +kernel
theorem dX3_becomeQuartered_25 : decode cX3_becomeQuartered 25 = .ok (.aload_n 1, 1) := by decide +kernel
theorem dX3_becomeQuartered_26 : decode cX3_becomeQuartered 26 = .ok (.getfield 15, 3) := by decide +kernel
theorem dX3_becomeQuartered_29 : decode cX3_becomeQuartered 29 = .ok (.if_icmp .ge 31, 3) := by decide +kernel
theorem dX3_becomeQuartered_32 : decode cX3_becomeQuartered 32 = .ok (.aload_n 1, 1) := by decide +kernel
theorem dX3_becomeQuartered_33 : decode cX3_becomeQuartered 33 = .ok (.iload_n 3, 1) := by decide +kernel
theorem dX3_becomeQuartered_34 : decode cX3_becomeQuartered 34 = .ok (.iload_n 2, 1) := by decide +kernel
theorem dX3_becomeQuartered_35 : decode cX3_becomeQuartered 35 = .ok (.invokevirtual 96, 3) := by decide +kernel
theorem dX3_becomeQuartered_38 : decode cX3_becomeQuartered 38 = .ok (.ifCond .eq 16, 3) := by decide +kernel
theorem dX3_becomeQuartered_41 : decode cX3_becomeQuartered 41 = .ok (.aload_n 0, 1) := by decide +kernel
theorem dX3_becomeQuartered_42 : decode cX3_becomeQuartered 42 = .ok (.aload_n 1, 1) := by decide +kernel
theorem dX3_becomeQuartered_43 : decode cX3_becomeQuartered 43 = .ok (.getfield 19, 3) := by decide +kernel
theorem dX3_becomeQuartered_46 : decode cX3_becomeQuartered 46 = .ok (.iconst 1, 1) := by decide +kernel
theorem dX3_becomeQuartered_47 : decode cX3_becomeQuartered 47 = .ok (.isub, 1) := by decide +kernel
theorem dX3_becomeQuartered_48 : decode cX3_becomeQuartered 48 = .ok (.iload_n 2, 1) := by decide +kernel
theorem dX3_becomeQuartered_49 : decode cX3_becomeQuartered 49 = .ok (.isub, 1) := by decide +kernel
theorem dX3_becomeQuartered_50 : decode cX3_becomeQuartered 50 = .ok (.iload_n 3, 1) := by decide +kernel
theorem dX3_becomeQuartered_51 : decode cX3_becomeQuartered 51 = .ok (.invokevirtual 99, 3) := by decide +kernel
theorem dX3_becomeQuartered_54 : decode cX3_becomeQuartered 54 = .ok (.iinc 3 1, 3) := by decide +kernel
theorem dX3_becomeQuartered_57 : decode cX3_becomeQuartered 57 = .ok (.goto (-33), 3) := by decide +kernel
theorem dX3_becomeQuartered_60 : decode cX3_becomeQuartered 60 = .ok (.iinc 2 1, 3) := by decide +kernel
theorem dX3_becomeQuartered_63 : decode cX3_becomeQuartered 63 = .ok (.goto (-49), 3) := by decide +kernel
theorem dX3_becomeQuartered_66 : decode cX3_becomeQuartered 66 = .ok (.aload_n 0, 1) := by decide +kernel
theorem dX3_becomeQuartered_67 : decode cX3_becomeQuartered 67 = .ok (.invokevirtual 77, 3) := by decide +kernel
theorem dX3_becomeQuartered_70 : decode cX3_becomeQuartered 70 = .ok (.return_, 1) := by decide +kernel
theorem dX3_boxesShare_0 : decode cX3_boxesShare 0 = .ok (.aload_n 0, 1) := by decide +kernel
theorem dX3_boxesShare_1 : decode cX3_boxesShare 1 = .ok (.getfield 22, 3) := by decide +kernel
theorem dX3_boxesShare_4 : decode cX3_boxesShare 4 = .ok (.ifCond .le 66, 3) := by decide +kernel
theorem dX3_boxesShare_7 : decode cX3_boxesShare 7 = .ok (.aload_n 1, 1) := by decide +kernel
theorem dX3_boxesShare_8 : decode cX3_boxesShare 8 = .ok (.getfield 22, 3) := by decide +kernel
theorem dX3_boxesShare_11 : decode cX3_boxesShare 11 = .ok (.ifCond .le 59, 3) := by decide +kernel
theorem dX3_boxesShare_14 : decode cX3_boxesShare 14 = .ok (.aload_n 0, 1) := by decide +kernel
theorem dX3_boxesShare_15 : decode cX3_boxesShare 15 = .ok (.getfield 51, 3) := by decide +kernel
theorem dX3_boxesShare_18 : decode cX3_boxesShare 18 = .ok (.aload_n 1, 1) := by decide +kernel
theorem dX3_boxesShare_19 : decode cX3_boxesShare 19 = .ok (.getfield 57, 3) := by decide +kernel
theorem dX3_boxesShare_22 : decode cX3_boxesShare 22 = .ok (.iload_n 2, 1) := by decide +kernel
theorem dX3_boxesShare_23 : decode cX3_boxesShare 23 = .ok (.iadd, 1) := by decide +kernel
theorem dX3_boxesShare_24 : decode cX3_boxesShare 24 = .ok (.if_icmp .gt 46, 3) := by decide +kernel
theorem dX3_boxesShare_27 : decode cX3_boxesShare 27 = .ok (.aload_n 1, 1) := by decide +kernel
theorem dX3_boxesShare_28 : decode cX3_boxesShare 28 = .ok (.getfield 51, 3) := by decide +kernel
theorem dX3_boxesShare_31 : decode cX3_boxesShare 31 = .ok (.iload_n 2, 1) := by decide +kernel
theorem dX3_boxesShare_32 : decode cX3_boxesShare 32 = .ok (.iadd, 1) := by decide +kernel
theorem dX3_boxesShare_33 : decode cX3_boxesShare 33 = .ok (.aload_n 0, 1) := by decide +kernel
theorem dX3_boxesShare_34 : decode cX3_boxesShare 34 = .ok (.getfield 57, 3) := by decide +kernel
theorem dX3_boxesShare_37 : decode cX3_boxesShare 37 = .ok (.if_icmp .gt 33, 3) := by decide +kernel
theorem dX3_boxesShare_40 : decode cX3_boxesShare 40 = .ok (.aload_n 0, 1) := by decide +kernel
theorem dX3_boxesShare_41 : decode cX3_boxesShare 41 = .ok (.getfield 35, 3) := by decide +kernel
theorem dX3_boxesShare_44 : decode cX3_boxesShare 44 = .ok (.aload_n 1, 1) := by decide +kernel
theorem dX3_boxesShare_45 : decode cX3_boxesShare 45 = .ok (.getfield 38, 3) := by decide +kernel
theorem dX3_boxesShare_48 : decode cX3_boxesShare 48 = .ok (.iload_n 3, 1) := by decide +kernel
theorem dX3_boxesShare_49 : decode cX3_boxesShare 49 = .ok (.iadd, 1) := by decide +kernel
theorem dX3_boxesShare_50 : decode cX3_boxesShare 50 = .ok (.if_icmp .gt 20, 3) := by decide +kernel
theorem dX3_boxesShare_53 : decode cX3_boxesShare 53 = .ok (.aload_n 1, 1) := by decide +kernel
theorem dX3_boxesShare_54 : decode cX3_boxesShare 54 = .ok (.getfield 35, 3) := by decide +kernel
theorem dX3_boxesShare_57 : decode cX3_boxesShare 57 = .ok (.iload_n 3, 1) := by decide +kernel
theorem dX3_boxesShare_58 : decode cX3_boxesShare 58 = .ok (.iadd, 1) := by decide +kernel
theorem dX3_boxesShare_59 : decode cX3_boxesShare 59 = .ok (.aload_n 0, 1) := by decide +kernel
theorem dX3_boxesShare_60 : decode cX3_boxesShare 60 = .ok (.getfield 38, 3) := by decide +kernel
theorem dX3_boxesShare_63 : decode cX3_boxesShare 63 = .ok (.if_icmp .gt 7, 3) := by decide +kernel
theorem dX3_boxesShare_66 : decode cX3_boxesShare 66 = .ok (.iconst 1, 1) := by decide +kernel
theorem dX3_boxesShare_67 : decode cX3_boxesShare 67 = .ok (.goto 4, 3) := by decide +kernel
theorem dX3_boxesShare_70 : decode cX3_boxesShare 70 = .ok (.iconst 0, 1) := by decide +kernel
theorem dX3_boxesShare_71 : decode cX3_boxesShare 71 = .ok (.ireturn, 1) := by decide +kernel
theorem dX3_dotsOfRow_0 : decode cX3_dotsOfRow 0 = .ok (.iload_n 1, 1) := by decide +kernel
theorem dX3_dotsOfRow_1 : decode cX3_dotsOfRow 1 = .ok (.ifCond .lt 11, 3) := by decide +kernel
theorem dX3_dotsOfRow_4 : decode cX3_dotsOfRow 4 = .ok (.iload_n 1, 1) := by decide +kernel
theorem dX3_dotsOfRow_5 : decode cX3_dotsOfRow 5 = .ok (.aload_n 0, 1) := by decide +kernel
theorem dX3_dotsOfRow_6 : decode cX3_dotsOfRow 6 = .ok (.getfield 19, 3) := by decide +kernel
theorem dX3_dotsOfRow_9 : decode cX3_dotsOfRow 9 = .ok (.if_icmp .lt 5, 3) := by decide +kernel
theorem dX3_dotsOfRow_12 : decode cX3_dotsOfRow 12 = .ok (.iconst 0, 1) := by decide +kernel
theorem dX3_dotsOfRow_13 : decode cX3_dotsOfRow 13 = .ok (.ireturn, 1) := by decide +kernel
theorem dX3_dotsOfRow_14 : decode cX3_dotsOfRow 14 = .ok (.aload_n 0, 1) := by decide +kernel
theorem dX3_dotsOfRow_15 : decode cX3_dotsOfRow 15 = .ok (.getfield 9, 3) := by decide +kernel
theorem dX3_dotsOfRow_18 : decode cX3_dotsOfRow 18 = .ok (.iconst 2, 1) := by decide +kernel
theorem dX3_dotsOfRow_19 : decode cX3_dotsOfRow 19 = .ok (.iload_n 1, 1) := by decide +kernel
theorem dX3_dotsOfRow_20 : decode cX3_dotsOfRow 20 = .ok (.imul, 1) := by decide +kernel
theorem dX3_dotsOfRow_21 : decode cX3_dotsOfRow 21 = .ok (.laload, 1) := by decide +kernel
theorem dX3_dotsOfRow_22 : decode cX3_dotsOfRow 22 = .ok (.invokestatic 41, 3) := by decide +kernel
theorem dX3_dotsOfRow_25 : decode cX3_dotsOfRow 25 = .ok (.aload_n 0, 1) := by decide +kernel
theorem dX3_dotsOfRow_26 : decode cX3_dotsOfRow 26 = .ok (.getfield 9, 3) := by decide +kernel
theorem dX3_dotsOfRow_29 : decode cX3_dotsOfRow 29 = .ok (.iconst 2, 1) := by decide +kernel
theorem dX3_dotsOfRow_30 : decode cX3_dotsOfRow 30 = .ok (.iload_n 1, 1) := by decide +kernel
theorem dX3_dotsOfRow_31 : decode cX3_dotsOfRow 31 = .ok (.imul, 1) := by decide +kernel
theorem dX3_dotsOfRow_32 : decode cX3_dotsOfRow 32 = .ok (.iconst 1, 1) := by decide +kernel
theorem dX3_dotsOfRow_33 : decode cX3_dotsOfRow 33 = .ok (.iadd, 1) := by decide +kernel
theorem dX3_dotsOfRow_34 : decode cX3_dotsOfRow 34 = .ok (.laload, 1) := by decide +kernel
theorem dX3_dotsOfRow_35 : decode cX3_dotsOfRow 35 = .ok (.invokestatic 41, 3) := by decide +kernel
theorem dX3_dotsOfRow_38 : decode cX3_dotsOfRow 38 = .ok (.iadd, 1) := by decide +kernel
theorem dX3_dotsOfRow_39 : decode cX3_dotsOfRow 39 = .ok (.ireturn, 1) := by decide +kernel
theorem dX3_dotsWithin_0 : decode cX3_dotsWithin 0 = .ok (.iload_n 3, 1) := by decide +kernel
theorem dX3_dotsWithin_1 : decode cX3_dotsWithin 1 = .ok (.invokestatic 70, 3) := by decide +kernel
theorem dX3_dotsWithin_4 : decode cX3_dotsWithin 4 = .ok (.iload_n 3, 1) := by decide +kernel
theorem dX3_dotsWithin_5 : decode cX3_dotsWithin 5 = .ok (.invokestatic 74, 3) := by decide +kernel
theorem dX3_dotsWithin_8 : decode cX3_dotsWithin 8 = .ok (.iload_n 1, 1) := by decide +kernel
theorem dX3_dotsWithin_9 : decode cX3_dotsWithin 9 = .ok (.invokestatic 80, 3) := by decide +kernel
theorem dX3_dotsWithin_12 : decode cX3_dotsWithin 12 = .ok (.lstore 5, 2) := by decide +kernel
theorem dX3_dotsWithin_14 : decode cX3_dotsWithin 14 = .ok (.iload_n 3, 1) := by decide +kernel
theorem dX3_dotsWithin_15 : decode cX3_dotsWithin 15 = .ok (.invokestatic 70, 3) := by decide +kernel
theorem dX3_dotsWithin_18 : decode cX3_dotsWithin 18 = .ok (.iload_n 3, 1) := by decide +kernel
theorem dX3_dotsWithin_19 : decode cX3_dotsWithin 19 = .ok (.invokestatic 74, 3) := by decide +kernel
theorem dX3_dotsWithin_22 : decode cX3_dotsWithin 22 = .ok (.iload_n 1, 1) := by decide +kernel
theorem dX3_dotsWithin_23 : decode cX3_dotsWithin 23 = .ok (.invokestatic 84, 3) := by decide +kernel
theorem dX3_dotsWithin_26 : decode cX3_dotsWithin 26 = .ok (.lstore 7, 2) := by decide +kernel
theorem dX3_dotsWithin_28 : decode cX3_dotsWithin 28 = .ok (.iconst 0, 1) := by decide +kernel
theorem dX3_dotsWithin_29 : decode cX3_dotsWithin 29 = .ok (.istore 9, 2) := by decide +kernel
theorem dX3_dotsWithin_31 : decode cX3_dotsWithin 31 = .ok (.iload_n 2, 1) := by decide +kernel
theorem dX3_dotsWithin_32 : decode cX3_dotsWithin 32 = .ok (.iload 4, 2) := by decide +kernel
theorem dX3_dotsWithin_34 : decode cX3_dotsWithin 34 = .ok (.iadd, 1) := by decide +kernel
theorem dX3_dotsWithin_35 : decode cX3_dotsWithin 35 = .ok (.aload_n 0, 1) := by decide +kernel
theorem dX3_dotsWithin_36 : decode cX3_dotsWithin 36 = .ok (.getfield 19, 3) := by decide +kernel
theorem dX3_dotsWithin_39 : decode cX3_dotsWithin 39 = .ok (.invokestatic 106, 3) := by decide +kernel
theorem dX3_dotsWithin_42 : decode cX3_dotsWithin 42 = .ok (.istore 10, 2) := by decide +kernel
theorem dX3_dotsWithin_44 : decode cX3_dotsWithin 44 = .ok (.iload_n 2, 1) := by decide +kernel
theorem dX3_dotsWithin_45 : decode cX3_dotsWithin 45 = .ok (.iconst 0, 1) := by decide +kernel
theorem dX3_dotsWithin_46 : decode cX3_dotsWithin 46 = .ok (.invokestatic 112, 3) := by decide +kernel
theorem dX3_dotsWithin_49 : decode cX3_dotsWithin 49 = .ok (.istore 11, 2) := by decide +kernel
theorem dX3_dotsWithin_51 : decode cX3_dotsWithin 51 = .ok (.iload 11, 2) := by decide +kernel
theorem dX3_dotsWithin_53 : decode cX3_dotsWithin 53 = .ok (.iload 10, 2) := by decide +kernel
theorem dX3_dotsWithin_55 : decode cX3_dotsWithin 55 = .ok (.if_icmp .ge 47, 3) := by decide +kernel
theorem dX3_dotsWithin_58 : decode cX3_dotsWithin 58 = .ok (.iload 9, 2) := by decide +kernel
theorem dX3_dotsWithin_60 : decode cX3_dotsWithin 60 = .ok (.aload_n 0, 1) := by decide +kernel
theorem dX3_dotsWithin_61 : decode cX3_dotsWithin 61 = .ok (.getfield 9, 3) := by decide +kernel
theorem dX3_dotsWithin_64 : decode cX3_dotsWithin 64 = .ok (.iconst 2, 1) := by decide +kernel
theorem dX3_dotsWithin_65 : decode cX3_dotsWithin 65 = .ok (.iload 11, 2) := by decide +kernel
theorem dX3_dotsWithin_67 : decode cX3_dotsWithin 67 = .ok (.imul, 1) := by decide +kernel
theorem dX3_dotsWithin_68 : decode cX3_dotsWithin 68 = .ok (.laload, 1) := by decide +kernel
theorem dX3_dotsWithin_69 : decode cX3_dotsWithin 69 = .ok (.lload 5, 2) := by decide +kernel
theorem dX3_dotsWithin_71 : decode cX3_dotsWithin 71 = .ok (.land, 1) := by decide +kernel
theorem dX3_dotsWithin_72 : decode cX3_dotsWithin 72 = .ok (.invokestatic 41, 3) := by decide +kernel
theorem dX3_dotsWithin_75 : decode cX3_dotsWithin 75 = .ok (.aload_n 0, 1) := by decide +kernel
theorem dX3_dotsWithin_76 : decode cX3_dotsWithin 76 = .ok (.getfield 9, 3) := by decide +kernel
theorem dX3_dotsWithin_79 : decode cX3_dotsWithin 79 = .ok (.iconst 2, 1) := by decide +kernel
theorem dX3_dotsWithin_80 : decode cX3_dotsWithin 80 = .ok (.iload 11, 2) := by decide +kernel
theorem dX3_dotsWithin_82 : decode cX3_dotsWithin 82 = .ok (.imul, 1) := by decide +kernel
theorem dX3_dotsWithin_83 : decode cX3_dotsWithin 83 = .ok (.iconst 1, 1) := by decide +kernel
theorem dX3_dotsWithin_84 : decode cX3_dotsWithin 84 = .ok (.iadd, 1) := by decide +kernel
theorem dX3_dotsWithin_85 : decode cX3_dotsWithin 85 = .ok (.laload, 1) := by decide +kernel
theorem dX3_dotsWithin_86 : decode cX3_dotsWithin 86 = .ok (.lload 7, 2) := by decide +kernel
theorem dX3_dotsWithin_88 : decode cX3_dotsWithin 88 = .ok (.land, 1) := by decide +kernel
theorem dX3_dotsWithin_89 : decode cX3_dotsWithin 89 = .ok (.invokestatic 41, 3) := by decide +kernel
theorem dX3_dotsWithin_92 : decode cX3_dotsWithin 92 = .ok (.iadd, 1) := by decide +kernel
theorem dX3_dotsWithin_93 : decode cX3_dotsWithin 93 = .ok (.iadd, 1) := by decide +kernel
theorem dX3_dotsWithin_94 : decode cX3_dotsWithin 94 = .ok (.istore 9, 2) := by decide +kernel
theorem dX3_dotsWithin_96 : decode cX3_dotsWithin 96 = .ok (.iinc 11 1, 3) := by decide +kernel
theorem dX3_dotsWithin_99 : decode cX3_dotsWithin 99 = .ok (.goto (-48), 3) := by decide +kernel
theorem dX3_dotsWithin_102 : decode cX3_dotsWithin 102 = .ok (.iload 9, 2) := by decide +kernel
theorem dX3_dotsWithin_104 : decode cX3_dotsWithin 104 = .ok (.ireturn, 1) := by decide +kernel
theorem dX3_farthestApart_0 : decode cX3_farthestApart 0 = .ok (.sipush 140, 3) := by decide +kernel
theorem dX3_farthestApart_3 : decode cX3_farthestApart 3 = .ok (.istore_n 1, 1) := by decide +kernel
theorem dX3_farthestApart_4 : decode cX3_farthestApart 4 = .ok (.bipush (-40), 2) := by decide +kernel
theorem dX3_farthestApart_6 : decode cX3_farthestApart 6 = .ok (.istore_n 2, 1) := by decide +kernel
theorem dX3_farthestApart_7 : decode cX3_farthestApart 7 = .ok (.sipush 140, 3) := by decide +kernel
theorem dX3_farthestApart_10 : decode cX3_farthestApart 10 = .ok (.istore_n 3, 1) := by decide +kernel
theorem dX3_farthestApart_11 : decode cX3_farthestApart 11 = .ok (.bipush (-40), 2) := by decide +kernel
theorem dX3_farthestApart_13 : decode cX3_farthestApart 13 = .ok (.istore 4, 2) := by decide +kernel
theorem dX3_farthestApart_15 : decode cX3_farthestApart 15 = .ok (.iconst 0, 1) := by decide +kernel
theorem dX3_farthestApart_16 : decode cX3_farthestApart 16 = .ok (.istore 5, 2) := by decide +kernel
theorem dX3_farthestApart_18 : decode cX3_farthestApart 18 = .ok (.iload 5, 2) := by decide +kernel
theorem dX3_farthestApart_20 : decode cX3_farthestApart 20 = .ok (.aload_n 0, 1) := by decide +kernel
theorem dX3_farthestApart_21 : decode cX3_farthestApart 21 = .ok (.getfield 19, 3) := by decide +kernel
theorem dX3_farthestApart_24 : decode cX3_farthestApart 24 = .ok (.if_icmp .ge 110, 3) := by decide +kernel
theorem dX3_farthestApart_27 : decode cX3_farthestApart 27 = .ok (.aload_n 0, 1) := by decide +kernel
theorem dX3_farthestApart_28 : decode cX3_farthestApart 28 = .ok (.iload 5, 2) := by decide +kernel
theorem dX3_farthestApart_30 : decode cX3_farthestApart 30 = .ok (.invokevirtual 119, 3) := by decide +kernel
theorem dX3_farthestApart_33 : decode cX3_farthestApart 33 = .ok (.ifCond .le 95, 3) := by decide +kernel
theorem dX3_farthestApart_36 : decode cX3_farthestApart 36 = .ok (.aload_n 0, 1) := by decide +kernel
theorem dX3_farthestApart_37 : decode cX3_farthestApart 37 = .ok (.getfield 9, 3) := by decide +kernel
theorem dX3_farthestApart_40 : decode cX3_farthestApart 40 = .ok (.iconst 2, 1) := by decide +kernel
theorem dX3_farthestApart_41 : decode cX3_farthestApart 41 = .ok (.iload 5, 2) := by decide +kernel
theorem dX3_farthestApart_43 : decode cX3_farthestApart 43 = .ok (.imul, 1) := by decide +kernel
theorem dX3_farthestApart_44 : decode cX3_farthestApart 44 = .ok (.laload, 1) := by decide +kernel
theorem dX3_farthestApart_45 : decode cX3_farthestApart 45 = .ok (.aload_n 0, 1) := by decide +kernel
theorem dX3_farthestApart_46 : decode cX3_farthestApart 46 = .ok (.getfield 9, 3) := by decide +kernel
theorem dX3_farthestApart_49 : decode cX3_farthestApart 49 = .ok (.iconst 2, 1) := by decide +kernel
theorem dX3_farthestApart_50 : decode cX3_farthestApart 50 = .ok (.iload 5, 2) := by decide +kernel
theorem dX3_farthestApart_52 : decode cX3_farthestApart 52 = .ok (.imul, 1) := by decide +kernel
theorem dX3_farthestApart_53 : decode cX3_farthestApart 53 = .ok (.iconst 1, 1) := by decide +kernel
theorem dX3_farthestApart_54 : decode cX3_farthestApart 54 = .ok (.iadd, 1) := by decide +kernel
theorem dX3_farthestApart_55 : decode cX3_farthestApart 55 = .ok (.laload, 1) := by decide +kernel
theorem dX3_farthestApart_56 : decode cX3_farthestApart 56 = .ok (.invokestatic 47, 3) := by decide +kernel
theorem dX3_farthestApart_59 : decode cX3_farthestApart 59 = .ok (.istore 6, 2) := by decide +kernel
theorem dX3_farthestApart_61 : decode cX3_farthestApart 61 = .ok (.aload_n 0, 1) := by decide +kernel
theorem dX3_farthestApart_62 : decode cX3_farthestApart 62 = .ok (.getfield 9, 3) := by decide +kernel
theorem dX3_farthestApart_65 : decode cX3_farthestApart 65 = .ok (.iconst 2, 1) := by decide +kernel
theorem dX3_farthestApart_66 : decode cX3_farthestApart 66 = .ok (.iload 5, 2) := by decide +kernel
theorem dX3_farthestApart_68 : decode cX3_farthestApart 68 = .ok (.imul, 1) := by decide +kernel
theorem dX3_farthestApart_69 : decode cX3_farthestApart 69 = .ok (.laload, 1) := by decide +kernel
theorem dX3_farthestApart_70 : decode cX3_farthestApart 70 = .ok (.aload_n 0, 1) := by decide +kernel
theorem dX3_farthestApart_71 : decode cX3_farthestApart 71 = .ok (.getfield 9, 3) := by decide +kernel
theorem dX3_farthestApart_74 : decode cX3_farthestApart 74 = .ok (.iconst 2, 1) := by decide +kernel
theorem dX3_farthestApart_75 : decode cX3_farthestApart 75 = .ok (.iload 5, 2) := by decide +kernel
theorem dX3_farthestApart_77 : decode cX3_farthestApart 77 = .ok (.imul, 1) := by decide +kernel
theorem dX3_farthestApart_78 : decode cX3_farthestApart 78 = .ok (.iconst 1, 1) := by decide +kernel
theorem dX3_farthestApart_79 : decode cX3_farthestApart 79 = .ok (.iadd, 1) := by decide +kernel
theorem dX3_farthestApart_80 : decode cX3_farthestApart 80 = .ok (.laload, 1) := by decide +kernel
theorem dX3_farthestApart_81 : decode cX3_farthestApart 81 = .ok (.invokestatic 54, 3) := by decide +kernel
theorem dX3_farthestApart_84 : decode cX3_farthestApart 84 = .ok (.istore 7, 2) := by decide +kernel
theorem dX3_farthestApart_86 : decode cX3_farthestApart 86 = .ok (.iload_n 1, 1) := by decide +kernel
theorem dX3_farthestApart_87 : decode cX3_farthestApart 87 = .ok (.iload 6, 2) := by decide +kernel
theorem dX3_farthestApart_89 : decode cX3_farthestApart 89 = .ok (.iload 5, 2) := by decide +kernel
theorem dX3_farthestApart_91 : decode cX3_farthestApart 91 = .ok (.iadd, 1) := by decide +kernel
theorem dX3_farthestApart_92 : decode cX3_farthestApart 92 = .ok (.invokestatic 106, 3) := by decide +kernel
theorem dX3_farthestApart_95 : decode cX3_farthestApart 95 = .ok (.istore_n 1, 1) := by decide +kernel
theorem dX3_farthestApart_96 : decode cX3_farthestApart 96 = .ok (.iload_n 2, 1) := by decide +kernel
theorem dX3_farthestApart_97 : decode cX3_farthestApart 97 = .ok (.iload 7, 2) := by decide +kernel
theorem dX3_farthestApart_99 : decode cX3_farthestApart 99 = .ok (.iload 5, 2) := by decide +kernel
theorem dX3_farthestApart_101 : decode cX3_farthestApart 101 = .ok (.iadd, 1) := by decide +kernel
theorem dX3_farthestApart_102 : decode cX3_farthestApart 102 = .ok (.invokestatic 112, 3) := by decide +kernel
theorem dX3_farthestApart_105 : decode cX3_farthestApart 105 = .ok (.istore_n 2, 1) := by decide +kernel
theorem dX3_farthestApart_106 : decode cX3_farthestApart 106 = .ok (.iload_n 3, 1) := by decide +kernel
theorem dX3_farthestApart_107 : decode cX3_farthestApart 107 = .ok (.iload 6, 2) := by decide +kernel
theorem dX3_farthestApart_109 : decode cX3_farthestApart 109 = .ok (.iload 5, 2) := by decide +kernel
theorem dX3_farthestApart_111 : decode cX3_farthestApart 111 = .ok (.isub, 1) := by decide +kernel
theorem dX3_farthestApart_112 : decode cX3_farthestApart 112 = .ok (.invokestatic 106, 3) := by decide +kernel
theorem dX3_farthestApart_115 : decode cX3_farthestApart 115 = .ok (.istore_n 3, 1) := by decide +kernel
theorem dX3_farthestApart_116 : decode cX3_farthestApart 116 = .ok (.iload 4, 2) := by decide +kernel
theorem dX3_farthestApart_118 : decode cX3_farthestApart 118 = .ok (.iload 7, 2) := by decide +kernel
theorem dX3_farthestApart_120 : decode cX3_farthestApart 120 = .ok (.iload 5, 2) := by decide +kernel
theorem dX3_farthestApart_122 : decode cX3_farthestApart 122 = .ok (.isub, 1) := by decide +kernel
theorem dX3_farthestApart_123 : decode cX3_farthestApart 123 = .ok (.invokestatic 112, 3) := by decide +kernel
theorem dX3_farthestApart_126 : decode cX3_farthestApart 126 = .ok (.istore 4, 2) := by decide +kernel
theorem dX3_farthestApart_128 : decode cX3_farthestApart 128 = .ok (.iinc 5 1, 3) := by decide +kernel
theorem dX3_farthestApart_131 : decode cX3_farthestApart 131 = .ok (.goto (-113), 3) := by decide +kernel
theorem dX3_farthestApart_134 : decode cX3_farthestApart 134 = .ok (.aload_n 0, 1) := by decide +kernel
theorem dX3_farthestApart_135 : decode cX3_farthestApart 135 = .ok (.getfield 22, 3) := by decide +kernel
theorem dX3_farthestApart_138 : decode cX3_farthestApart 138 = .ok (.ifCond .ne 7, 3) := by decide +kernel
theorem dX3_farthestApart_141 : decode cX3_farthestApart 141 = .ok (.iconst 0, 1) := by decide +kernel
theorem dX3_farthestApart_142 : decode cX3_farthestApart 142 = .ok (.goto 13, 3) := by decide +kernel
theorem dX3_farthestApart_145 : decode cX3_farthestApart 145 = .ok (.iload_n 2, 1) := by decide +kernel
theorem dX3_farthestApart_146 : decode cX3_farthestApart 146 = .ok (.iload_n 1, 1) := by decide +kernel
theorem dX3_farthestApart_147 : decode cX3_farthestApart 147 = .ok (.isub, 1) := by decide +kernel
theorem dX3_farthestApart_148 : decode cX3_farthestApart 148 = .ok (.iload 4, 2) := by decide +kernel
theorem dX3_farthestApart_150 : decode cX3_farthestApart 150 = .ok (.iload_n 3, 1) := by decide +kernel
theorem dX3_farthestApart_151 : decode cX3_farthestApart 151 = .ok (.isub, 1) := by decide +kernel
theorem dX3_farthestApart_152 : decode cX3_farthestApart 152 = .ok (.invokestatic 112, 3) := by decide +kernel
theorem dX3_farthestApart_155 : decode cX3_farthestApart 155 = .ok (.ireturn, 1) := by decide +kernel
theorem dX3_openSides_0 : decode cX3_openSides 0 = .ok (.iconst 0, 1) := by decide +kernel
theorem dX3_openSides_1 : decode cX3_openSides 1 = .ok (.istore_n 1, 1) := by decide +kernel
theorem dX3_openSides_2 : decode cX3_openSides 2 = .ok (.iconst 0, 1) := by decide +kernel
theorem dX3_openSides_3 : decode cX3_openSides 3 = .ok (.istore_n 2, 1) := by decide +kernel
theorem dX3_openSides_4 : decode cX3_openSides 4 = .ok (.iload_n 2, 1) := by decide +kernel
theorem dX3_openSides_5 : decode cX3_openSides 5 = .ok (.iconst 2, 1) := by decide +kernel
theorem dX3_openSides_6 : decode cX3_openSides 6 = .ok (.aload_n 0, 1) := by decide +kernel
theorem dX3_openSides_7 : decode cX3_openSides 7 = .ok (.getfield 19, 3) := by decide +kernel
theorem dX3_openSides_10 : decode cX3_openSides 10 = .ok (.imul, 1) := by decide +kernel
theorem dX3_openSides_11 : decode cX3_openSides 11 = .ok (.if_icmp .ge 97, 3) := by decide +kernel
theorem dX3_openSides_14 : decode cX3_openSides 14 = .ok (.aload_n 0, 1) := by decide +kernel
theorem dX3_openSides_15 : decode cX3_openSides 15 = .ok (.getfield 9, 3) := by decide +kernel
theorem dX3_openSides_18 : decode cX3_openSides 18 = .ok (.iload_n 2, 1) := by decide +kernel
theorem dX3_openSides_19 : decode cX3_openSides 19 = .ok (.laload, 1) := by decide +kernel
theorem dX3_openSides_20 : decode cX3_openSides 20 = .ok (.lstore_n 3, 1) := by decide +kernel
theorem dX3_openSides_21 : decode cX3_openSides 21 = .ok (.aload_n 0, 1) := by decide +kernel
theorem dX3_openSides_22 : decode cX3_openSides 22 = .ok (.getfield 9, 3) := by decide +kernel
theorem dX3_openSides_25 : decode cX3_openSides 25 = .ok (.iload_n 2, 1) := by decide +kernel
theorem dX3_openSides_26 : decode cX3_openSides 26 = .ok (.iconst 1, 1) := by decide +kernel
theorem dX3_openSides_27 : decode cX3_openSides 27 = .ok (.iadd, 1) := by decide +kernel
theorem dX3_openSides_28 : decode cX3_openSides 28 = .ok (.laload, 1) := by decide +kernel
theorem dX3_openSides_29 : decode cX3_openSides 29 = .ok (.lstore 5, 2) := by decide +kernel
theorem dX3_openSides_31 : decode cX3_openSides 31 = .ok (.iload_n 1, 1) := by decide +kernel
theorem dX3_openSides_32 : decode cX3_openSides 32 = .ok (.lload_n 3, 1) := by decide +kernel
theorem dX3_openSides_33 : decode cX3_openSides 33 = .ok (.lload_n 3, 1) := by decide +kernel
theorem dX3_openSides_34 : decode cX3_openSides 34 = .ok (.iconst 1, 1) := by decide +kernel
theorem dX3_openSides_35 : decode cX3_openSides 35 = .ok (.lushr, 1) := by decide +kernel
theorem dX3_openSides_36 : decode cX3_openSides 36 = .ok (.lload 5, 2) := by decide +kernel
theorem dX3_openSides_38 : decode cX3_openSides 38 = .ok (.bipush 63, 2) := by decide +kernel
theorem dX3_openSides_40 : decode cX3_openSides 40 = .ok (.lshl, 1) := by decide +kernel
theorem dX3_openSides_41 : decode cX3_openSides 41 = .ok (.lor, 1) := by decide +kernel
theorem dX3_openSides_42 : decode cX3_openSides 42 = .ok (.land, 1) := by decide +kernel
theorem dX3_openSides_43 : decode cX3_openSides 43 = .ok (.invokestatic 41, 3) := by decide +kernel
theorem dX3_openSides_46 : decode cX3_openSides 46 = .ok (.lload 5, 2) := by decide +kernel
theorem dX3_openSides_48 : decode cX3_openSides 48 = .ok (.lload 5, 2) := by decide +kernel
theorem dX3_openSides_50 : decode cX3_openSides 50 = .ok (.iconst 1, 1) := by decide +kernel
theorem dX3_openSides_51 : decode cX3_openSides 51 = .ok (.lushr, 1) := by decide +kernel
theorem dX3_openSides_52 : decode cX3_openSides 52 = .ok (.land, 1) := by decide +kernel
theorem dX3_openSides_53 : decode cX3_openSides 53 = .ok (.invokestatic 41, 3) := by decide +kernel
theorem dX3_openSides_56 : decode cX3_openSides 56 = .ok (.iadd, 1) := by decide +kernel
theorem dX3_openSides_57 : decode cX3_openSides 57 = .ok (.iadd, 1) := by decide +kernel
theorem dX3_openSides_58 : decode cX3_openSides 58 = .ok (.istore_n 1, 1) := by decide +kernel
theorem dX3_openSides_59 : decode cX3_openSides 59 = .ok (.iload_n 2, 1) := by decide +kernel
theorem dX3_openSides_60 : decode cX3_openSides 60 = .ok (.iconst 3, 1) := by decide +kernel
theorem dX3_openSides_61 : decode cX3_openSides 61 = .ok (.iadd, 1) := by decide +kernel
theorem dX3_openSides_62 : decode cX3_openSides 62 = .ok (.iconst 2, 1) := by decide +kernel
theorem dX3_openSides_63 : decode cX3_openSides 63 = .ok (.aload_n 0, 1) := by decide +kernel
theorem dX3_openSides_64 : decode cX3_openSides 64 = .ok (.getfield 19, 3) := by decide +kernel
theorem dX3_openSides_67 : decode cX3_openSides 67 = .ok (.imul, 1) := by decide +kernel
theorem dX3_openSides_68 : decode cX3_openSides 68 = .ok (.if_icmp .ge 34, 3) := by decide +kernel
theorem dX3_openSides_71 : decode cX3_openSides 71 = .ok (.iload_n 1, 1) := by decide +kernel
theorem dX3_openSides_72 : decode cX3_openSides 72 = .ok (.lload_n 3, 1) := by decide +kernel
theorem dX3_openSides_73 : decode cX3_openSides 73 = .ok (.aload_n 0, 1) := by decide +kernel
theorem dX3_openSides_74 : decode cX3_openSides 74 = .ok (.getfield 9, 3) := by decide +kernel
theorem dX3_openSides_77 : decode cX3_openSides 77 = .ok (.iload_n 2, 1) := by decide +kernel
theorem dX3_openSides_78 : decode cX3_openSides 78 = .ok (.iconst 2, 1) := by decide +kernel
theorem dX3_openSides_79 : decode cX3_openSides 79 = .ok (.iadd, 1) := by decide +kernel
theorem dX3_openSides_80 : decode cX3_openSides 80 = .ok (.laload, 1) := by decide +kernel
theorem dX3_openSides_81 : decode cX3_openSides 81 = .ok (.land, 1) := by decide +kernel
theorem dX3_openSides_82 : decode cX3_openSides 82 = .ok (.invokestatic 41, 3) := by decide +kernel
theorem dX3_openSides_85 : decode cX3_openSides 85 = .ok (.lload 5, 2) := by decide +kernel
theorem dX3_openSides_87 : decode cX3_openSides 87 = .ok (.aload_n 0, 1) := by decide +kernel
theorem dX3_openSides_88 : decode cX3_openSides 88 = .ok (.getfield 9, 3) := by decide +kernel
theorem dX3_openSides_91 : decode cX3_openSides 91 = .ok (.iload_n 2, 1) := by decide +kernel
theorem dX3_openSides_92 : decode cX3_openSides 92 = .ok (.iconst 3, 1) := by decide +kernel
theorem dX3_openSides_93 : decode cX3_openSides 93 = .ok (.iadd, 1) := by decide +kernel
theorem dX3_openSides_94 : decode cX3_openSides 94 = .ok (.laload, 1) := by decide +kernel
theorem dX3_openSides_95 : decode cX3_openSides 95 = .ok (.land, 1) := by decide +kernel
theorem dX3_openSides_96 : decode cX3_openSides 96 = .ok (.invokestatic 41, 3) := by decide +kernel
theorem dX3_openSides_99 : decode cX3_openSides 99 = .ok (.iadd, 1) := by decide +kernel
theorem dX3_openSides_100 : decode cX3_openSides 100 = .ok (.iadd, 1) := by decide +kernel
theorem dX3_openSides_101 : decode cX3_openSides 101 = .ok (.istore_n 1, 1) := by decide +kernel
theorem dX3_openSides_102 : decode cX3_openSides 102 = .ok (.iinc 2 2, 3) := by decide +kernel
theorem dX3_openSides_105 : decode cX3_openSides 105 = .ok (.goto (-101), 3) := by decide +kernel
theorem dX3_openSides_108 : decode cX3_openSides 108 = .ok (.iconst 4, 1) := by decide +kernel
theorem dX3_openSides_109 : decode cX3_openSides 109 = .ok (.aload_n 0, 1) := by decide +kernel
theorem dX3_openSides_110 : decode cX3_openSides 110 = .ok (.getfield 22, 3) := by decide +kernel
theorem dX3_openSides_113 : decode cX3_openSides 113 = .ok (.imul, 1) := by decide +kernel
theorem dX3_openSides_114 : decode cX3_openSides 114 = .ok (.iconst 2, 1) := by decide +kernel
theorem dX3_openSides_115 : decode cX3_openSides 115 = .ok (.iload_n 1, 1) := by decide +kernel
theorem dX3_openSides_116 : decode cX3_openSides 116 = .ok (.imul, 1) := by decide +kernel
theorem dX3_openSides_117 : decode cX3_openSides 117 = .ok (.isub, 1) := by decide +kernel
theorem dX3_openSides_118 : decode cX3_openSides 118 = .ok (.ireturn, 1) := by decide +kernel
theorem dX3_sumOfX_0 : decode cX3_sumOfX 0 = .ok (.iconst 0, 1) := by decide +kernel
theorem dX3_sumOfX_1 : decode cX3_sumOfX 1 = .ok (.istore_n 1, 1) := by decide +kernel
theorem dX3_sumOfX_2 : decode cX3_sumOfX 2 = .ok (.iconst 1, 1) := by decide +kernel
theorem dX3_sumOfX_3 : decode cX3_sumOfX 3 = .ok (.istore_n 2, 1) := by decide +kernel
theorem dX3_sumOfX_4 : decode cX3_sumOfX 4 = .ok (.iload_n 2, 1) := by decide +kernel
theorem dX3_sumOfX_5 : decode cX3_sumOfX 5 = .ok (.aload_n 0, 1) := by decide +kernel
theorem dX3_sumOfX_6 : decode cX3_sumOfX 6 = .ok (.getfield 15, 3) := by decide +kernel
theorem dX3_sumOfX_9 : decode cX3_sumOfX 9 = .ok (.if_icmp .ge 25, 3) := by decide +kernel
theorem dX3_sumOfX_12 : decode cX3_sumOfX 12 = .ok (.iload_n 1, 1) := by decide +kernel
theorem dX3_sumOfX_13 : decode cX3_sumOfX 13 = .ok (.iload_n 2, 1) := by decide +kernel
theorem dX3_sumOfX_14 : decode cX3_sumOfX 14 = .ok (.aload_n 0, 1) := by decide +kernel
theorem dX3_sumOfX_15 : decode cX3_sumOfX 15 = .ok (.iload_n 2, 1) := by decide +kernel
theorem dX3_sumOfX_16 : decode cX3_sumOfX 16 = .ok (.iconst 0, 1) := by decide +kernel
theorem dX3_sumOfX_17 : decode cX3_sumOfX 17 = .ok (.iconst 1, 1) := by decide +kernel
theorem dX3_sumOfX_18 : decode cX3_sumOfX 18 = .ok (.aload_n 0, 1) := by decide +kernel
theorem dX3_sumOfX_19 : decode cX3_sumOfX 19 = .ok (.getfield 19, 3) := by decide +kernel
theorem dX3_sumOfX_22 : decode cX3_sumOfX 22 = .ok (.invokevirtual 115, 3) := by decide +kernel
theorem dX3_sumOfX_25 : decode cX3_sumOfX 25 = .ok (.imul, 1) := by decide +kernel
theorem dX3_sumOfX_26 : decode cX3_sumOfX 26 = .ok (.iadd, 1) := by decide +kernel
theorem dX3_sumOfX_27 : decode cX3_sumOfX 27 = .ok (.istore_n 1, 1) := by decide +kernel
theorem dX3_sumOfX_28 : decode cX3_sumOfX 28 = .ok (.iinc 2 1, 3) := by decide +kernel
theorem dX3_sumOfX_31 : decode cX3_sumOfX 31 = .ok (.goto (-27), 3) := by decide +kernel
theorem dX3_sumOfX_34 : decode cX3_sumOfX 34 = .ok (.iload_n 1, 1) := by decide +kernel
theorem dX3_sumOfX_35 : decode cX3_sumOfX 35 = .ok (.ireturn, 1) := by decide +kernel
theorem dX3_sumOfY_0 : decode cX3_sumOfY 0 = .ok (.iconst 0, 1) := by decide +kernel
theorem dX3_sumOfY_1 : decode cX3_sumOfY 1 = .ok (.istore_n 1, 1) := by decide +kernel
theorem dX3_sumOfY_2 : decode cX3_sumOfY 2 = .ok (.iconst 1, 1) := by decide +kernel
theorem dX3_sumOfY_3 : decode cX3_sumOfY 3 = .ok (.istore_n 2, 1) := by decide +kernel
theorem dX3_sumOfY_4 : decode cX3_sumOfY 4 = .ok (.iload_n 2, 1) := by decide +kernel
theorem dX3_sumOfY_5 : decode cX3_sumOfY 5 = .ok (.aload_n 0, 1) := by decide +kernel
theorem dX3_sumOfY_6 : decode cX3_sumOfY 6 = .ok (.getfield 19, 3) := by decide +kernel
theorem dX3_sumOfY_9 : decode cX3_sumOfY 9 = .ok (.if_icmp .ge 19, 3) := by decide +kernel
theorem dX3_sumOfY_12 : decode cX3_sumOfY 12 = .ok (.iload_n 1, 1) := by decide +kernel
theorem dX3_sumOfY_13 : decode cX3_sumOfY 13 = .ok (.iload_n 2, 1) := by decide +kernel
theorem dX3_sumOfY_14 : decode cX3_sumOfY 14 = .ok (.aload_n 0, 1) := by decide +kernel
theorem dX3_sumOfY_15 : decode cX3_sumOfY 15 = .ok (.iload_n 2, 1) := by decide +kernel
theorem dX3_sumOfY_16 : decode cX3_sumOfY 16 = .ok (.invokevirtual 119, 3) := by decide +kernel
theorem dX3_sumOfY_19 : decode cX3_sumOfY 19 = .ok (.imul, 1) := by decide +kernel
theorem dX3_sumOfY_20 : decode cX3_sumOfY 20 = .ok (.iadd, 1) := by decide +kernel
theorem dX3_sumOfY_21 : decode cX3_sumOfY 21 = .ok (.istore_n 1, 1) := by decide +kernel
theorem dX3_sumOfY_22 : decode cX3_sumOfY 22 = .ok (.iinc 2 1, 3) := by decide +kernel
theorem dX3_sumOfY_25 : decode cX3_sumOfY 25 = .ok (.goto (-21), 3) := by decide +kernel
theorem dX3_sumOfY_28 : decode cX3_sumOfY 28 = .ok (.iload_n 1, 1) := by decide +kernel
theorem dX3_sumOfY_29 : decode cX3_sumOfY 29 = .ok (.ireturn, 1) := by decide +kernel
set_option maxRecDepth 100000 in
theorem pq82 : Cond.initialized RJ9 ∈ pw := pw_mem (i := 82) (by decide +kernel) rfl
set_option maxRecDepth 100000 in
theorem pq407 : Cond.static Lib.Math.min.name ∈ pw := pw_mem (i := 407) (by decide +kernel) rfl
set_option maxRecDepth 100000 in
theorem pq408 : Cond.code Lib.Math.min.name Lib.Math.min.code 2 (some .int) ∈ pw := pw_mem (i := 408) (by rfl) rfl
set_option maxRecDepth 100000 in
theorem pq514 : Cond.instanceMethod yX3_toggle ∈ pw := pw_mem (i := 514) (by decide +kernel) rfl
set_option maxRecDepth 100000 in
theorem pq515 : Cond.selects RX3 yX3_toggle yX3_toggle ∈ pw := pw_mem (i := 515) (by decide +kernel) rfl
set_option maxRecDepth 100000 in
theorem pq516 : Cond.code yX3_toggle cX3_toggle 3 none ∈ pw := pw_mem (i := 516) (by rfl) rfl
set_option maxRecDepth 100000 in
theorem pq614 : Cond.methodLink RX3 102 yX3_reversed ∈ pw := pw_mem (i := 614) (by decide +kernel) rfl
set_option maxRecDepth 100000 in
theorem pq615 : Cond.static yX3_reversed ∈ pw := pw_mem (i := 615) (by decide +kernel) rfl
set_option maxRecDepth 100000 in
theorem pq616 : Cond.code yX3_reversed cX3_reversed 4 (some .long) ∈ pw := pw_mem (i := 616) (by rfl) rfl
set_option maxRecDepth 100000 in
theorem pq674 : Cond.instanceMethod yX3_holds ∈ pw := pw_mem (i := 674) (by decide +kernel) rfl
set_option maxRecDepth 100000 in
theorem pq675 : Cond.selects RX3 yX3_holds yX3_holds ∈ pw := pw_mem (i := 675) (by decide +kernel) rfl
set_option maxRecDepth 100000 in
theorem pq676 : Cond.code yX3_holds cX3_holds 3 (some .boolean) ∈ pw := pw_mem (i := 676) (by rfl) rfl
set_option maxRecDepth 100000 in
theorem pq733 : Cond.methodLink RX3 96 yX3_holds ∈ pw := pw_mem (i := 733) (by decide +kernel) rfl
set_option maxRecDepth 100000 in
theorem pq734 : Cond.methodLink RX3 99 yX3_toggle ∈ pw := pw_mem (i := 734) (by decide +kernel) rfl
set_option maxRecDepth 100000 in
theorem pq750 : Cond.static Lib.Math.max.name ∈ pw := pw_mem (i := 750) (by decide +kernel) rfl
set_option maxRecDepth 100000 in
theorem pq751 : Cond.code Lib.Math.max.name Lib.Math.max.code 2 (some .int) ∈ pw := pw_mem (i := 751) (by rfl) rfl
set_option maxRecDepth 100000 in
theorem pq776 : Cond.methodLink RX3 106 Lib.Math.min.name ∈ pw := pw_mem (i := 776) (by decide +kernel) rfl
set_option maxRecDepth 100000 in
theorem pq777 : Cond.methodLink RX3 112 Lib.Math.max.name ∈ pw := pw_mem (i := 777) (by decide +kernel) rfl
set_option maxRecDepth 100000 in
theorem pq917 : Cond.instanceMethod yX3_dotsWithin ∈ pw := pw_mem (i := 917) (by decide +kernel) rfl
set_option maxRecDepth 100000 in
theorem pq918 : Cond.selects RX3 yX3_dotsWithin yX3_dotsWithin ∈ pw := pw_mem (i := 918) (by decide +kernel) rfl
set_option maxRecDepth 100000 in
theorem pq919 : Cond.code yX3_dotsWithin cX3_dotsWithin 12 (some .int) ∈ pw := pw_mem (i := 919) (by rfl) rfl
set_option maxRecDepth 100000 in
theorem pq932 : Cond.methodLink RX3 115 yX3_dotsWithin ∈ pw := pw_mem (i := 932) (by decide +kernel) rfl
set_option maxRecDepth 100000 in
theorem pq937 : Cond.methodLink RX3 119 yX3_dotsOfRow ∈ pw := pw_mem (i := 937) (by decide +kernel) rfl
set_option maxRecDepth 100000 in
theorem pq938 : Cond.instanceMethod yX3_dotsOfRow ∈ pw := pw_mem (i := 938) (by decide +kernel) rfl
set_option maxRecDepth 100000 in
theorem pq939 : Cond.selects RX3 yX3_dotsOfRow yX3_dotsOfRow ∈ pw := pw_mem (i := 939) (by decide +kernel) rfl
set_option maxRecDepth 100000 in
theorem pq940 : Cond.code yX3_dotsOfRow cX3_dotsOfRow 2 (some .int) ∈ pw := pw_mem (i := 940) (by rfl) rfl
set_option maxHeartbeats 4000000 in
set_option maxRecDepth 100000 in
theorem s_X3_becomeQuartered (l : Launch) (dC : Nat → ClassId) (dI : Nat → Nat → Nat) (cs : Nat → ClassId) (L : List Nat) (K G : Nat → Nat) (Q : Nat → Nat → Option Nat) (hQ : Sv L K G Q) (x0 m0 : Nat) (tx : GT) (tm : GT × Int) (sz : Nat) (I : Nat → Nat → Int32) (J : Nat → Nat → Int64) (hI : Iv L K x0 m0 tx tm I) (p0 : Nat) (hLp0 : p0 ∈ L) (hKp0 : K p0 = 3) (p1 : Nat) (hLp1 : p1 ∈ L) (hKp1 : K p1 = 3) (gq : (I p1 0).toInt ≤ 40) (hne : ¬ G p0 = G p1) : Met l yX3_becomeQuartered (.code yX3_becomeQuartered cX3_becomeQuartered 4 none :: pw) ({ frames := 3, cells := 0, slots := 0, locals := 75 }) (sP (dC, dI) cs [.ref p0, .ref p1] sz L K I J Q) (va_Qv (fun (_ : Unit) => True) (fun _ t => sB (dC, dI) cs L K Q (fun I1 J1 => Iv L K x0 m0 tx tm I1 ∧ (∀ b, ¬ (b = p0) → I1 b = I b) ∧ (okm (I p1 0).toInt (I p1 1).toInt (J (wo Q p1)) → mkd Q I1 J1 p0 (I p1 1) (I p1 0) (quarD (I p1 1).toInt (J (wo Q p1)))) ∧ (∀ b, ¬ (K b = 12 ∧ (G b = G p0)) → J1 b = J b)) t) (fun q => q ∈ L ∨ sz ≤ q)) 0 0 (fun q => q ∈ L ∨ sz ≤ q) := by
  refine Met.ofW (cc := cX3_becomeQuartered) (maxL := 4) (ret := none) (by decide +kernel) rfl ?_
  intro p e s m args below meth c s₁ B hml hv
  obtain ⟨rfl, hsz, hP, hK, hD0, hN⟩ := hv
  have hx := B.exec
  have hb := B.bytes
  have hr := B.returns
  have hts := fun w (h : w ∈ pw) => atoms_spec (ws := Cond.code yX3_becomeQuartered cX3_becomeQuartered 4 none :: pw) B.pre w (List.mem_cons_of_mem _ h)
  have hown : s.vm.findClass RX3 = some m.cls := findClass_of_methodNamed B.named
  have hlocks := B.notSynchronized
  subst hsz
  have hBB : 999 ≤ tm.2 ∧ tm.2 ≤ 6000000 := hI.2.2.2.2.1
  have dj_J : (∀ b, ¬ (K b = 12 ∧ (G b = G p0)) → J b = J b) := fun _ _ => rfl
  have fr_I : ∀ b, ¬ (b = p0) → I b = I b := fun _ _ => rfl
  obtain ⟨A, hAe⟩ : ∃ A : Nat → Prop, A = (fun q => q ∈ L ∨ s.heap.size ≤ q) := ⟨_, rfl⟩
  rw [← hAe]
  have hAL : ∀ q, q ∈ L → A q := fun q h => by rw [hAe]; exact Or.inl h
  have hA : ∀ q, s.heap.size ≤ q → A q := fun q h => by rw [hAe]; exact Or.inr h
  have hD : ∀ F, va_D A (va_pl L F) := fun F => (hD0 F).weaken (fun k q hk _ => hAL _ (pl_mem hk))
  obtain ⟨H, hHe⟩ : ∃ H : Heap, H = s.heap := ⟨_, rfl⟩
  have hS : va_S A s.heap H [] := by rw [hHe]; exact va_S.rf
  rw [← hHe] at hP
  have hl := lv_entry ([.ref p0, .ref p1]) (n := 4) (Nat.le_of_ble_eq_true rfl)
  rw [lg_entry_eq]
  generalize (lg_sl ([.ref p0, .ref p1]) ++ List.replicate (4 - (lg_sl ([.ref p0, .ref p1])).length) Slot.unset).toArray = ls at hl ⊢
  have hl : lv_has ls 4 [(0, .ref p0), (1, .ref p1)] := hl
  rw [← hHe]
  refine namedW (fun R Qz hR hQz => ?_)
  refine lv_aload_n hx hb dX3_becomeQuartered_0 rfl (lv_at hl 0 rfl) ?_
  refine lv_aload_n hx hb dX3_becomeQuartered_1 rfl (lv_at hl 1 rfl) ?_
  refine p_get hx hb hts inX3 hown hK hP hLp1 hKp1 rfl rfl 1 (by decide) (hts _ pq120) rfl dX3_becomeQuartered_2 ?_
  refine lv_topi (fun z2 ez2 => ?_)
  have bz2 := oI_3_1 (Iv_at hI hLp1 hKp1)
  rw [← ez2] at bz2
  refine lv_aload_n hx hb dX3_becomeQuartered_5 rfl (lv_at hl 1 rfl) ?_
  refine p_get hx hb hts inX3 hown hK hP hLp1 hKp1 rfl rfl 0 (by decide) (hts _ pq116) rfl dX3_becomeQuartered_6 ?_
  refine lv_topi (fun z6 ez6 => ?_)
  have bz6 := oI_3_0 (Iv_at hI hLp1 hKp1)
  rw [← ez6] at bz6
  rw [← ez6] at gq
  refine sw_v (Z := (fun I1 J1 => Iv L K x0 m0 tx tm I1 ∧ (∀ b, ¬ (b = p0) → I1 b = I b) ∧ ((I1 p0 1 = z6 ∧ I1 p0 0 = z2 ∧ ∀ b k, ¬ k = 0 → ¬ k = 1 → ¬ k = 3 → I1 b k = I b k)) ∧ (∀ k, k < 80 → J1 (wo Q p0) k = 0) ∧ (∀ b, ¬ (K b = 12 ∧ (G b = G p0)) → J1 b = J b))) (va_runV (As := [.int z2, .int z6]) (rest := []) ⟨hx, hb, hml, hown, hts⟩ (s_X3_resize l dC dI cs L K G Q hQ x0 m0 tx tm H.size I J hI p0 hLp0 hKp0 z2 ⟨by omega, by omega⟩ z6 ⟨by omega, by omega⟩) (cwV 2 hts (gV pq613 pq493 pq494 pq76 pq495) rfl rfl rfl (by decide +kernel) ⟨(by rw [hR]; exact (Nat.le_of_ble_eq_true rfl)), (by rw [hR]; exact (Nat.le_of_ble_eq_true rfl))⟩) (sP_V hP hD hK hN hLp0 hKp0 rfl rfl) rfl rfl hl.1 rfl (lv_room (Nat.le_of_ble_eq_true rfl)) dX3_becomeQuartered_9 ⟨(by rw [hR]; exact (Nat.le_of_ble_eq_true rfl)), (by rw [hR]; exact (Nat.le_of_ble_eq_true rfl))⟩) hS hAL hA (fun Iz9 Jz9 H locs hz9 hIz9 hP hS => ?_)
  obtain ⟨hIz9, frc9, zp9, jz9, djc9⟩ := hIz9
  have dj_Jz9 : (∀ b, ¬ (K b = 12 ∧ (G b = G p0)) → Jz9 b = J b) := fun b hc => (djc9 b (fun z => hc (by exact ⟨z.1, by have z2 := z.2; omega⟩))).trans (dj_J b hc)
  have fr_Iz9 : ∀ b, ¬ (b = p0) → Iz9 b = I b := fun b q => (frc9 b (fun z => q (z))).trans (fr_I b q)
  refine lv_iconst (v := 0) hx hb dX3_becomeQuartered_12 (by decide +kernel) ?_
  refine lv_istore_n (lv' := [(2, .int 0), (0, .ref p0), (1, .ref p1)]) hx hb dX3_becomeQuartered_13 rfl hl (by decide) rfl (fun ls hl => ?_)
  have key14 := blocks (fun n => ∀ (v14_2 : Int32) (J14 : Nat → Nat → Int64) (H : Heap) (lo : List Loc) (ls : Array Slot), (41 - v14_2.toInt).toNat = n → ((0) ≤ v14_2.toInt ∧ v14_2.toInt ≤ 40) → (∀ b, ¬ (K b = 12 ∧ (G b = G p0)) → J14 b = J b) → (okm (I p1 0).toInt (I p1 1).toInt (J (wo Q p1)) → qrI (I p1 1).toInt (J (wo Q p1)) (J14 (wo Q p0)) v14_2.toInt 0) → va_P (dC, dI) vwCl (Wd cs L K Iz9 J14 Q) H → va_S A s.heap H lo → lv_has ls 4 [(0, .ref p0), (1, .ref p1), (2, .int v14_2)] → W p l e R s m (([.ref p0, .ref p1] : List Value).toArray) below meth c H lo 0 0 Qz (F0 m 14 ls [])) (by
    intro n ih14
    intro v14_2 J14 H lo ls hmu14 bv14_2 dj_J14 h14 hP hS hl
    refine lv_iload_n hx hb dX3_becomeQuartered_14 rfl (lv_at hl 2 rfl) ?_
    refine lv_aload_n hx hb dX3_becomeQuartered_15 rfl (lv_at hl 1 rfl) ?_
    refine p_get hx hb hts inX3 hown hK hP hLp1 hKp1 rfl rfl 1 (by decide) (hts _ pq120) rfl dX3_becomeQuartered_16 ?_
    refine lv_topi (fun z16 ez16 => ?_)
    have bz16 := oI_3_1 (Iv_at hIz9 hLp1 hKp1)
    rw [← ez16] at bz16
    have w16 : z16.toInt = (I p1 1).toInt := by rw [ez16, frc9 p1 (fun z => hne (by rw [z]))]
    refine lv_icmp_ge (tgt := 66) hx hb dX3_becomeQuartered_19 (by decide) (fun c19 => ?_) (fun c19 => ?_)
    · have t19 := tq_le (k := z16.toInt) (q := v14_2.toInt) c19 rfl rfl
      refine lv_aload_n hx hb dX3_becomeQuartered_66 rfl (lv_at hl 0 rfl) ?_
      refine sw_v (Z := (fun I1 J1 => Iv L K x0 m0 tx tm I1 ∧ (∀ b, ¬ (b = p0) → I1 b = Iz9 b) ∧ I1 p0 0 = Iz9 p0 0 ∧ I1 p0 1 = Iz9 p0 1 ∧ (mcl (Iz9 p0 0).toInt (Iz9 p0 1).toInt (J14 (wo Q p0)) → msr (J14 (wo Q p0)) (I1 p0 3).toInt (I1 p0 4).toInt (I1 p0 5).toInt (I1 p0 6).toInt (I1 p0 7).toInt) ∧ J1 = J14)) (va_runV (As := []) (rest := []) ⟨hx, hb, hml, hown, hts⟩ (s_X3_measure l dC dI cs L K G Q hQ x0 m0 tx tm H.size Iz9 J14 hIz9 p0 hLp0 hKp0) (cwV 0 hts (gV pq631 pq542 pq543 pq76 pq544) rfl rfl rfl (by decide +kernel) ⟨(by rw [hR]; exact (Nat.le_of_ble_eq_true rfl)), (by rw [hR]; exact (Nat.le_of_ble_eq_true rfl))⟩) (sP_V hP hD hK hN hLp0 hKp0 rfl rfl) rfl rfl hl.1 rfl (lv_room (Nat.le_of_ble_eq_true rfl)) dX3_becomeQuartered_67 ⟨(by rw [hR]; exact (Nat.le_of_ble_eq_true rfl)), (by rw [hR]; exact (Nat.le_of_ble_eq_true rfl))⟩) hS hAL hA (fun Iz67 Jz67 H locs hz67 hIz67 hP hS => ?_)
      obtain ⟨hIz67, frc67, kc67_0_0, kc67_0_1, fz67, djc67⟩ := hIz67
      obtain rfl : J14 = Jz67 := djc67.symm
      have fr_Iz67 : ∀ b, ¬ (b = p0) → Iz67 b = I b := fun b q => (frc67 b (fun z => q (z))).trans (fr_Iz9 b q)
      subst hR; subst hQz
      exact W.vret hx hb hr (fun t ht hW => ⟨⟨(), rfl, trivial, ⟨Iz67, J14, ⟨hIz67, fr_Iz67, (fun ok => mk_fin (Ia := Iz9) kc67_0_0 kc67_0_1 (zp9.2.1.trans ez2) (zp9.1.trans ez6) (rws_of (qr_fin ok.2.2 (h14 ok) (by rw [← w16]; omega))) (rws_oz (qr_fin ok.2.2 (h14 ok) (by rw [← w16]; omega))) (fun x y q => by have a := quarD_in ok.2.2 x y q; exact ⟨a.1.2, a.2.2⟩) fz67), dj_J14⟩, by rw [ht]; exact hP⟩⟩, hS.F ht⟩) hS.2.2 dX3_becomeQuartered_70
    · have t19 := tq_nle (k := z16.toInt) (q := v14_2.toInt) c19 rfl rfl
      refine lv_iconst (v := 0) hx hb dX3_becomeQuartered_22 (by decide +kernel) ?_
      refine lv_istore_n (lv' := [(3, .int 0), (0, .ref p0), (1, .ref p1), (2, .int v14_2)]) hx hb dX3_becomeQuartered_23 rfl hl (by decide) rfl (fun ls hl => ?_)
      have key24 := blocks (fun n => ∀ (v24_3 : Int32) (J24 : Nat → Nat → Int64) (H : Heap) (lo : List Loc) (ls : Array Slot), (129 - v24_3.toInt).toNat = n → ((0) ≤ v24_3.toInt ∧ v24_3.toInt ≤ 128) → (∀ b, ¬ (K b = 12 ∧ (G b = G p0)) → J24 b = J b) → (okm (I p1 0).toInt (I p1 1).toInt (J (wo Q p1)) → qrI (I p1 1).toInt (J (wo Q p1)) (J24 (wo Q p0)) v14_2.toInt v24_3.toInt) → va_P (dC, dI) vwCl (Wd cs L K Iz9 J24 Q) H → va_S A s.heap H lo → lv_has ls 4 [(0, .ref p0), (1, .ref p1), (2, .int v14_2), (3, .int v24_3)] → W p l e R s m (([.ref p0, .ref p1] : List Value).toArray) below meth c H lo 0 0 Qz (F0 m 24 ls [])) (by
        intro n ih24
        intro v24_3 J24 H lo ls hmu24 bv24_3 dj_J24 h24 hP hS hl
        refine lv_iload_n hx hb dX3_becomeQuartered_24 rfl (lv_at hl 3 rfl) ?_
        refine lv_aload_n hx hb dX3_becomeQuartered_25 rfl (lv_at hl 1 rfl) ?_
        refine p_get hx hb hts inX3 hown hK hP hLp1 hKp1 rfl rfl 0 (by decide) (hts _ pq116) rfl dX3_becomeQuartered_26 ?_
        refine lv_topi (fun z26 ez26 => ?_)
        have bz26 := oI_3_0 (Iv_at hIz9 hLp1 hKp1)
        rw [← ez26] at bz26
        have w25 : z26.toInt = (I p1 0).toInt := by rw [ez26, frc9 p1 (fun z => hne (by rw [z]))]
        have s1 : J24 (wo Q p1) = J (wo Q p1) := dj_J24 _ (fun z => hne (by have w := z.2; have g := (wo_g hQ hLp1 hKp1).2.2; omega))
        refine lv_icmp_ge (tgt := 60) hx hb dX3_becomeQuartered_29 (by decide) (fun c29 => ?_) (fun c29 => ?_)
        · have t29 := tq_le (k := z26.toInt) (q := v24_3.toInt) c29 rfl rfl
          obtain ⟨z60, ez60⟩ : ∃ y : Int32, y = v14_2 + 1 := ⟨_, rfl⟩
          refine lv_iinc (v := z60) (lv' := [(2, .int z60), (0, .ref p0), (1, .ref p1), (3, .int v24_3)]) hx hb dX3_becomeQuartered_60 hl (k := 2) rfl (by rw [ez60]; rfl) (by decide) rfl (fun ls hl => ?_)
          have bz60 := tq_add (k := v14_2.toInt) (q := 1) ez60 rfl (by decide +kernel) (by omega) (by omega)
          refine lv_goto (tgt := 14) hx hb dX3_becomeQuartered_63 (by decide) ?_
          exact ih14 _ (by omega) z60 J24 _ _ _ rfl ⟨by omega, by omega⟩ dj_J24 (fun ok => qr_nl ok.2.2 (h24 ok) (by rw [← w25]; omega) (by omega)) hP hS (lv_sub hl [1, 2, 0] rfl)
        · have t29 := tq_nle (k := z26.toInt) (q := v24_3.toInt) c29 rfl rfl
          refine lv_aload_n hx hb dX3_becomeQuartered_32 rfl (lv_at hl 1 rfl) ?_
          refine lv_iload_n hx hb dX3_becomeQuartered_33 rfl (lv_at hl 3 rfl) ?_
          refine lv_iload_n hx hb dX3_becomeQuartered_34 rfl (lv_at hl 2 rfl) ?_
          refine ro_i (va_runV (As := [.int v24_3, .int v14_2]) (rest := []) ⟨hx, hb, hml, hown, hts⟩ (s_X3_holds l dC dI cs L K G Q hQ x0 m0 tx tm H.size Iz9 J24 hIz9 p1 hLp1 hKp1 v24_3 v14_2) (cwV 2 hts (gV pq733 pq674 pq675 pq76 pq676) rfl rfl rfl (by decide +kernel) ⟨(by rw [hR]; exact (Nat.le_of_ble_eq_true rfl)), (by rw [hR]; exact (Nat.le_of_ble_eq_true rfl))⟩) (sP_V hP hD hK hN hLp1 hKp1 rfl rfl) rfl rfl hl.1 rfl (lv_room (Nat.le_of_ble_eq_true rfl)) dX3_becomeQuartered_35 ⟨(by rw [hR]; exact (Nat.le_of_ble_eq_true rfl)), (by rw [hR]; exact (Nat.le_of_ble_eq_true rfl))⟩) hS hP (fun z35 H locs hz35 hP hS => ?_)
          obtain ⟨bz35, xpz35⟩ := hz35
          have hx35 : okm (I p1 0).toInt (I p1 1).toInt (J (wo Q p1)) → z35.toInt = bi (md (J (wo Q p1)) v24_3.toInt v14_2.toInt) := fun ok => by have q := xpz35; rw [frc9 p1 (fun z => hne (by rw [z])), s1, hs_of ok.2.2] at q; exact q
          have j54 : ∀ (J54 : Nat → Nat → Int64) (H : Heap) (lo : List Loc) (ls : Array Slot), (∀ b, ¬ (K b = 12 ∧ (G b = G p0)) → J54 b = J b) → (okm (I p1 0).toInt (I p1 1).toInt (J (wo Q p1)) → qrI (I p1 1).toInt (J (wo Q p1)) (J54 (wo Q p0)) v14_2.toInt (v24_3.toInt + 1)) → va_P (dC, dI) vwCl (Wd cs L K Iz9 J54 Q) H → va_S A s.heap H lo → lv_has ls 4 [(0, .ref p0), (1, .ref p1), (2, .int v14_2), (3, .int v24_3)] → W p l e R s m (([.ref p0, .ref p1] : List Value).toArray) below meth c H lo 0 0 Qz (F0 m 54 ls []) := by
            intro J54 H lo ls dj_J54 h54 hP hS hl
            obtain ⟨z54, ez54⟩ : ∃ y : Int32, y = v24_3 + 1 := ⟨_, rfl⟩
            refine lv_iinc (v := z54) (lv' := [(3, .int z54), (0, .ref p0), (1, .ref p1), (2, .int v14_2)]) hx hb dX3_becomeQuartered_54 hl (k := 3) rfl (by rw [ez54]; rfl) (by decide) rfl (fun ls hl => ?_)
            have bz54 := tq_add (k := v24_3.toInt) (q := 1) ez54 rfl (by decide +kernel) (by omega) (by omega)
            refine lv_goto (tgt := 24) hx hb dX3_becomeQuartered_57 (by decide) ?_
            exact ih24 _ (by omega) z54 J54 _ _ _ rfl ⟨by omega, by omega⟩ dj_J54 (fun ok => by rw [bz54]; exact h54 ok) hP hS (lv_sub hl [1, 2, 3, 0] rfl)
          refine lv_if_eq (tgt := 54) hx hb dX3_becomeQuartered_38 (by decide) (fun c38 => ?_) (fun c38 => ?_)
          · have t38 := tq_eq (k := z35.toInt) (q := (0)) c38 rfl (by decide +kernel)
            exact j54 J24 _ _ _ dj_J24 (fun ok => qr_skip (h24 ok) rfl (bi_f (hx35 ok) t38)) hP hS (lv_sub hl [0, 1, 2, 3] rfl)
          · have t38 := tq_ne (k := z35.toInt) (q := (0)) c38 rfl (by decide +kernel)
            refine lv_aload_n hx hb dX3_becomeQuartered_41 rfl (lv_at hl 0 rfl) ?_
            refine lv_aload_n hx hb dX3_becomeQuartered_42 rfl (lv_at hl 1 rfl) ?_
            refine p_get hx hb hts inX3 hown hK hP hLp1 hKp1 rfl rfl 1 (by decide) (hts _ pq120) rfl dX3_becomeQuartered_43 ?_
            refine lv_topi (fun z43 ez43 => ?_)
            obtain rfl : z16 = z43 := ez16.trans ez43.symm
            refine lv_iconst (v := 1) hx hb dX3_becomeQuartered_46 (by decide +kernel) ?_
            refine lv_isub hx hb dX3_becomeQuartered_47 ?_
            refine lv_topi (fun z47 ez47 => ?_)
            have bz47 := tq_sub (k := z16.toInt) (q := (1)) ez47 rfl (by decide +kernel) (by omega) (by omega)
            refine lv_iload_n hx hb dX3_becomeQuartered_48 rfl (lv_at hl 2 rfl) ?_
            refine lv_isub hx hb dX3_becomeQuartered_49 ?_
            refine lv_topi (fun z49 ez49 => ?_)
            have bz49 := tq_sub (k := z47.toInt) (q := v14_2.toInt) ez49 rfl rfl (by omega) (by omega)
            refine lv_iload_n hx hb dX3_becomeQuartered_50 rfl (lv_at hl 3 rfl) ?_
            refine sw_v (Z := (fun I1 J1 => Iv L K x0 m0 tx tm I1 ∧ I1 = Iz9 ∧ (∀ x y : Int, md (J1 (wo Q p0)) x y = (md (J24 (wo Q p0)) x y ^^ decide ((0 ≤ z49.toInt ∧ z49.toInt < (Iz9 p0 0).toInt ∧ 0 ≤ v24_3.toInt ∧ v24_3.toInt < (Iz9 p0 1).toInt) ∧ x = z49.toInt ∧ y = v24_3.toInt))) ∧ (∀ b, ¬ (K b = 12 ∧ (G b = G p0)) → J1 b = J24 b))) (va_runV (As := [.int z49, .int v24_3]) (rest := []) ⟨hx, hb, hml, hown, hts⟩ (s_X3_toggle l dC dI cs L K G Q hQ x0 m0 tx tm H.size Iz9 J24 hIz9 p0 hLp0 hKp0 z49 v24_3) (cwV 2 hts (gV pq734 pq514 pq515 pq76 pq516) rfl rfl rfl (by decide +kernel) ⟨(by rw [hR]; exact (Nat.le_of_ble_eq_true rfl)), (by rw [hR]; exact (Nat.le_of_ble_eq_true rfl))⟩) (sP_V hP hD hK hN hLp0 hKp0 rfl rfl) rfl rfl hl.1 rfl (lv_room (Nat.le_of_ble_eq_true rfl)) dX3_becomeQuartered_51 ⟨(by rw [hR]; exact (Nat.le_of_ble_eq_true rfl)), (by rw [hR]; exact (Nat.le_of_ble_eq_true rfl))⟩) hS hAL hA (fun Iz51 Jz51 H locs hz51 hIz51 hP hS => ?_)
            obtain ⟨hIz51, sm51, jz51, djc51⟩ := hIz51
            have dj_Jz51 : (∀ b, ¬ (K b = 12 ∧ (G b = G p0)) → Jz51 b = J b) := fun b hc => (djc51 b (fun z => hc (by exact ⟨z.1, by have z2 := z.2; omega⟩))).trans (dj_J24 b hc)
            obtain rfl : Iz9 = Iz51 := sm51.symm
            exact j54 Jz51 _ _ _ dj_Jz51 (fun ok => qr_put (h24 ok) rfl (bi_t (hx35 ok) t38) jz51 (by have e2 := congrArg Int32.toInt ez2; have e6 := congrArg Int32.toInt ez6; rw [zp9.1, zp9.2.1]; exact ⟨by omega, by omega, by omega, by omega⟩) (by omega) rfl) hP hS (lv_sub hl [0, 1, 2, 3] rfl))
      exact key24 _ 0 J14 _ _ _ rfl ⟨by decide +kernel, by decide +kernel⟩ dj_J14 h14 hP hS (lv_sub hl [1, 2, 3, 0] rfl))
  exact key14 _ 0 Jz9 _ _ _ rfl ⟨by decide +kernel, by decide +kernel⟩ dj_Jz9 (fun ok => qr_0 ok.2.2 jz9) hP hS (lv_sub hl [1, 2, 0] rfl)

set_option maxHeartbeats 4000000 in
set_option maxRecDepth 100000 in
theorem s_X3_becomeFlipped (l : Launch) (dC : Nat → ClassId) (dI : Nat → Nat → Nat) (cs : Nat → ClassId) (L : List Nat) (K G : Nat → Nat) (Q : Nat → Nat → Option Nat) (hQ : Sv L K G Q) (x0 m0 : Nat) (tx : GT) (tm : GT × Int) (sz : Nat) (I : Nat → Nat → Int32) (J : Nat → Nat → Int64) (hI : Iv L K x0 m0 tx tm I) (p0 : Nat) (hLp0 : p0 ∈ L) (hKp0 : K p0 = 3) (p1 : Nat) (hLp1 : p1 ∈ L) (hKp1 : K p1 = 3) (p2 : Int32) (bp2 : (0) ≤ p2.toInt ∧ p2.toInt ≤ 3) (hne : ¬ G p0 = G p1) : Met l yX3_becomeFlipped (.code yX3_becomeFlipped cX3_becomeFlipped 9 none :: pw) ({ frames := 3, cells := 0, slots := 0, locals := 81 }) (sP (dC, dI) cs [.ref p0, .ref p1, .int p2] sz L K I J Q) (va_Qv (fun (_ : Unit) => True) (fun _ t => sB (dC, dI) cs L K Q (fun I1 J1 => Iv L K x0 m0 tx tm I1 ∧ (∀ b, ¬ (b = p0) → I1 b = I b) ∧ (okm (I p1 0).toInt (I p1 1).toInt (J (wo Q p1)) → msr (J (wo Q p1)) (I p1 3).toInt (I p1 4).toInt (I p1 5).toInt (I p1 6).toInt (I p1 7).toInt → mkd Q I1 J1 p0 (I p1 0) (I p1 1) (flipD (I p1 0).toInt (I p1 1).toInt p2.toInt (J (wo Q p1)))) ∧ (∀ b, ¬ (K b = 12 ∧ (G b = G p0)) → J1 b = J b)) t) (fun q => q ∈ L ∨ sz ≤ q)) 0 0 (fun q => q ∈ L ∨ sz ≤ q) := by
  refine Met.ofW (cc := cX3_becomeFlipped) (maxL := 9) (ret := none) (by decide +kernel) rfl ?_
  intro p e s m args below meth c s₁ B hml hv
  obtain ⟨rfl, hsz, hP, hK, hD0, hN⟩ := hv
  have hx := B.exec
  have hb := B.bytes
  have hr := B.returns
  have hts := fun w (h : w ∈ pw) => atoms_spec (ws := Cond.code yX3_becomeFlipped cX3_becomeFlipped 9 none :: pw) B.pre w (List.mem_cons_of_mem _ h)
  have hown : s.vm.findClass RX3 = some m.cls := findClass_of_methodNamed B.named
  have hlocks := B.notSynchronized
  subst hsz
  have hBB : 999 ≤ tm.2 ∧ tm.2 ≤ 6000000 := hI.2.2.2.2.1
  have dj_J : (∀ b, ¬ (K b = 12 ∧ (G b = G p0)) → J b = J b) := fun _ _ => rfl
  have fr_I : ∀ b, ¬ (b = p0) → I b = I b := fun _ _ => rfl
  obtain ⟨A, hAe⟩ : ∃ A : Nat → Prop, A = (fun q => q ∈ L ∨ s.heap.size ≤ q) := ⟨_, rfl⟩
  rw [← hAe]
  have hAL : ∀ q, q ∈ L → A q := fun q h => by rw [hAe]; exact Or.inl h
  have hA : ∀ q, s.heap.size ≤ q → A q := fun q h => by rw [hAe]; exact Or.inr h
  have hD : ∀ F, va_D A (va_pl L F) := fun F => (hD0 F).weaken (fun k q hk _ => hAL _ (pl_mem hk))
  obtain ⟨H, hHe⟩ : ∃ H : Heap, H = s.heap := ⟨_, rfl⟩
  have hS : va_S A s.heap H [] := by rw [hHe]; exact va_S.rf
  rw [← hHe] at hP
  have hl := lv_entry ([.ref p0, .ref p1, .int p2]) (n := 9) (Nat.le_of_ble_eq_true rfl)
  rw [lg_entry_eq]
  generalize (lg_sl ([.ref p0, .ref p1, .int p2]) ++ List.replicate (9 - (lg_sl ([.ref p0, .ref p1, .int p2])).length) Slot.unset).toArray = ls at hl ⊢
  have hl : lv_has ls 9 [(0, .ref p0), (1, .ref p1), (2, .int p2)] := hl
  rw [← hHe]
  refine namedW (fun R Qz hR hQz => ?_)
  refine lv_iload_n hx hb dX3_becomeFlipped_0 rfl (lv_at hl 2 rfl) ?_
  refine lv_if_ne (tgt := 10) hx hb dX3_becomeFlipped_1 (by decide) (fun c1 => ?_) (fun c1 => ?_)
  · have t1 := tq_ne (k := p2.toInt) (q := (0)) c1 rfl (by decide +kernel)
    refine lv_aload_n hx hb dX3_becomeFlipped_10 rfl (lv_at hl 0 rfl) ?_
    refine lv_aload_n hx hb dX3_becomeFlipped_11 rfl (lv_at hl 1 rfl) ?_
    refine p_get hx hb hts inX3 hown hK hP hLp1 hKp1 rfl rfl 0 (by decide) (hts _ pq116) rfl dX3_becomeFlipped_12 ?_
    refine lv_topi (fun z12 ez12 => ?_)
    have bz12 := oI_3_0 (Iv_at hI hLp1 hKp1)
    rw [← ez12] at bz12
    refine lv_aload_n hx hb dX3_becomeFlipped_15 rfl (lv_at hl 1 rfl) ?_
    refine p_get hx hb hts inX3 hown hK hP hLp1 hKp1 rfl rfl 1 (by decide) (hts _ pq120) rfl dX3_becomeFlipped_16 ?_
    refine lv_topi (fun z16 ez16 => ?_)
    have bz16 := oI_3_1 (Iv_at hI hLp1 hKp1)
    rw [← ez16] at bz16
    refine sw_v (Z := (fun I1 J1 => Iv L K x0 m0 tx tm I1 ∧ (∀ b, ¬ (b = p0) → I1 b = I b) ∧ ((I1 p0 1 = z16 ∧ I1 p0 0 = z12 ∧ ∀ b k, ¬ k = 0 → ¬ k = 1 → ¬ k = 3 → I1 b k = I b k)) ∧ (∀ k, k < 80 → J1 (wo Q p0) k = 0) ∧ (∀ b, ¬ (K b = 12 ∧ (G b = G p0)) → J1 b = J b))) (va_runV (As := [.int z12, .int z16]) (rest := []) ⟨hx, hb, hml, hown, hts⟩ (s_X3_resize l dC dI cs L K G Q hQ x0 m0 tx tm H.size I J hI p0 hLp0 hKp0 z12 ⟨by omega, by omega⟩ z16 ⟨by omega, by omega⟩) (cwV 2 hts (gV pq613 pq493 pq494 pq76 pq495) rfl rfl rfl (by decide +kernel) ⟨(by rw [hR]; exact (Nat.le_of_ble_eq_true rfl)), (by rw [hR]; exact (Nat.le_of_ble_eq_true rfl))⟩) (sP_V hP hD hK hN hLp0 hKp0 rfl rfl) rfl rfl hl.1 rfl (lv_room (Nat.le_of_ble_eq_true rfl)) dX3_becomeFlipped_19 ⟨(by rw [hR]; exact (Nat.le_of_ble_eq_true rfl)), (by rw [hR]; exact (Nat.le_of_ble_eq_true rfl))⟩) hS hAL hA (fun Iz19 Jz19 H locs hz19 hIz19 hP hS => ?_)
    obtain ⟨hIz19, frc19, zp19, jz19, djc19⟩ := hIz19
    have dj_Jz19 : (∀ b, ¬ (K b = 12 ∧ (G b = G p0)) → Jz19 b = J b) := fun b hc => (djc19 b (fun z => hc (by exact ⟨z.1, by have z2 := z.2; omega⟩))).trans (dj_J b hc)
    have fr_Iz19 : ∀ b, ¬ (b = p0) → Iz19 b = I b := fun b q => (frc19 b (fun z => q (z))).trans (fr_I b q)
    refine lv_iconst (v := 0) hx hb dX3_becomeFlipped_22 (by decide +kernel) ?_
    refine lv_istore_n (lv' := [(3, .int 0), (0, .ref p0), (1, .ref p1), (2, .int p2)]) hx hb dX3_becomeFlipped_23 rfl hl (by decide) rfl (fun ls hl => ?_)
    have key24 := blocks (fun n => ∀ (v24_3 : Int32) (J24 : Nat → Nat → Int64) (H : Heap) (lo : List Loc) (ls : Array Slot), (41 - v24_3.toInt).toNat = n → ((0) ≤ v24_3.toInt ∧ v24_3.toInt ≤ 40) → (∀ b, ¬ (K b = 12 ∧ (G b = G p0)) → J24 b = J b) → (okm (I p1 0).toInt (I p1 1).toInt (J (wo Q p1)) → rws (J24 (wo Q p0)) (flipD (I p1 0).toInt (I p1 1).toInt p2.toInt (J (wo Q p1))) v24_3.toInt) → va_P (dC, dI) vwCl (Wd cs L K Iz19 J24 Q) H → va_S A s.heap H lo → lv_has ls 9 [(0, .ref p0), (1, .ref p1), (2, .int p2), (3, .int v24_3)] → W p l e R s m (([.ref p0, .ref p1, .int p2] : List Value).toArray) below meth c H lo 0 0 Qz (F0 m 24 ls [])) (by
      intro n ih24
      intro v24_3 J24 H lo ls hmu24 bv24_3 dj_J24 hrw hP hS hl
      refine lv_iload_n hx hb dX3_becomeFlipped_24 rfl (lv_at hl 3 rfl) ?_
      refine lv_aload_n hx hb dX3_becomeFlipped_25 rfl (lv_at hl 0 rfl) ?_
      refine p_get hx hb hts inX3 hown hK hP hLp0 hKp0 rfl rfl 1 (by decide) (hts _ pq120) rfl dX3_becomeFlipped_26 ?_
      refine lv_topi (fun z26 ez26 => ?_)
      have bz26 := oI_3_1 (Iv_at hIz19 hLp0 hKp0)
      rw [← ez26] at bz26
      have w26 : z26.toInt = (I p1 1).toInt := by rw [ez26, zp19.1, ez16]
      have s1 : J24 (wo Q p1) = J (wo Q p1) := dj_J24 _ (fun z => hne (by have w := z.2; have g := (wo_g hQ hLp1 hKp1).2.2; omega))
      refine lv_icmp_ge (tgt := 171) hx hb dX3_becomeFlipped_29 (by decide) (fun c29 => ?_) (fun c29 => ?_)
      · have t29 := tq_le (k := z26.toInt) (q := v24_3.toInt) c29 rfl rfl
        refine lv_aload_n hx hb dX3_becomeFlipped_171 rfl (lv_at hl 0 rfl) ?_
        refine sw_v (Z := (fun I1 J1 => Iv L K x0 m0 tx tm I1 ∧ (∀ b, ¬ (b = p0) → I1 b = Iz19 b) ∧ I1 p0 0 = Iz19 p0 0 ∧ I1 p0 1 = Iz19 p0 1 ∧ (mcl (Iz19 p0 0).toInt (Iz19 p0 1).toInt (J24 (wo Q p0)) → msr (J24 (wo Q p0)) (I1 p0 3).toInt (I1 p0 4).toInt (I1 p0 5).toInt (I1 p0 6).toInt (I1 p0 7).toInt) ∧ J1 = J24)) (va_runV (As := []) (rest := []) ⟨hx, hb, hml, hown, hts⟩ (s_X3_measure l dC dI cs L K G Q hQ x0 m0 tx tm H.size Iz19 J24 hIz19 p0 hLp0 hKp0) (cwV 0 hts (gV pq631 pq542 pq543 pq76 pq544) rfl rfl rfl (by decide +kernel) ⟨(by rw [hR]; exact (Nat.le_of_ble_eq_true rfl)), (by rw [hR]; exact (Nat.le_of_ble_eq_true rfl))⟩) (sP_V hP hD hK hN hLp0 hKp0 rfl rfl) rfl rfl hl.1 rfl (lv_room (Nat.le_of_ble_eq_true rfl)) dX3_becomeFlipped_172 ⟨(by rw [hR]; exact (Nat.le_of_ble_eq_true rfl)), (by rw [hR]; exact (Nat.le_of_ble_eq_true rfl))⟩) hS hAL hA (fun Iz172 Jz172 H locs hz172 hIz172 hP hS => ?_)
        obtain ⟨hIz172, frc172, kc172_0_0, kc172_0_1, fz172, djc172⟩ := hIz172
        obtain rfl : J24 = Jz172 := djc172.symm
        have fr_Iz172 : ∀ b, ¬ (b = p0) → Iz172 b = I b := fun b q => (frc172 b (fun z => q (z))).trans (fr_Iz19 b q)
        subst hR; subst hQz
        exact W.vret hx hb hr (fun t ht hW => ⟨⟨(), rfl, trivial, ⟨Iz172, J24, ⟨hIz172, fr_Iz172, (fun ok ms => mk_fin (Ia := Iz19) kc172_0_0 kc172_0_1 (zp19.2.1.trans ez12) (zp19.1.trans ez16) (hrw ok) (flipD_hi (by rw [← w26]; omega)) flipD_in fz172), dj_J24⟩, by rw [ht]; exact hP⟩⟩, hS.F ht⟩) hS.2.2 dX3_becomeFlipped_175
      · have t29 := tq_nle (k := z26.toInt) (q := v24_3.toInt) c29 rfl rfl
        refine lv_iconst (v := 2) hx hb dX3_becomeFlipped_32 (by decide +kernel) ?_
        refine lv_iload_n hx hb dX3_becomeFlipped_33 rfl (lv_at hl 2 rfl) ?_
        refine lv_iconst (v := 2) hx hb dX3_becomeFlipped_34 (by decide +kernel) ?_
        refine lv_iand hx hb dX3_becomeFlipped_35 ?_
        refine lv_topi (fun z35 ez35 => ?_)
        have j51 : ∀ (w51_1 : Int32) (H : Heap) (lo : List Loc) (ls : Array Slot), ((0) ≤ w51_1.toInt ∧ w51_1.toInt ≤ 39) → (w51_1.toInt = fly (I p1 1).toInt p2.toInt v24_3.toInt) → va_P (dC, dI) vwCl (Wd cs L K Iz19 J24 Q) H → va_S A s.heap H lo → lv_has ls 9 [(0, .ref p0), (1, .ref p1), (2, .int p2), (3, .int v24_3)] → W p l e R s m (([.ref p0, .ref p1, .int p2] : List Value).toArray) below meth c H lo 0 0 Qz (F0 m 51 ls [.int w51_1, .int 2]) := by
          intro w51_1 H lo ls bw51_1 h51 hP hS hl
          refine lv_imul hx hb dX3_becomeFlipped_51 ?_
          refine lv_topi (fun z51 ez51 => ?_)
          have bz51 := tq_mul (k := (2)) (q := w51_1.toInt) ez51 (by decide +kernel) rfl (by omega) (by omega)
          refine lv_istore (lv' := [(4, .int z51), (0, .ref p0), (1, .ref p1), (2, .int p2), (3, .int v24_3)]) hx hb dX3_becomeFlipped_52 hl (by decide) rfl (fun ls hl => ?_)
          refine lv_aload_n hx hb dX3_becomeFlipped_54 rfl (lv_at hl 2 rfl) ?_
          obtain ⟨y55, ey55, hLy55, hKy55, hGy55⟩ := oQ_3_2 (Sv_at hQ hLp1 hKp1)
          refine p_get (v := .ref y55) hx hb hts inX3 hown hK hP hLp1 hKp1 rfl rfl 2 (by decide) (hts _ pq124) (congrArg (fun q => some (va_rf q)) ey55) dX3_becomeFlipped_55 ?_
          refine lv_iload hx hb dX3_becomeFlipped_58 (lv_at hl 0 rfl) ?_
          refine p_lald hx hb hK hP 2 hLy55 hKy55 rfl rfl (in_of (by omega) (by omega)) dX3_becomeFlipped_60 ?_
          refine lv_topl (fun z60 ez60 => ?_)
          refine lv_lstore (lv' := [(5, .long z60), (4, .int z51), (0, .ref p0), (1, .ref p1), (2, .int p2), (3, .int v24_3)]) hx hb dX3_becomeFlipped_61 hl (by decide) rfl (fun ls hl => ?_)
          refine lv_aload_n hx hb dX3_becomeFlipped_63 rfl (lv_at hl 3 rfl) ?_
          refine p_get (v := .ref y55) hx hb hts inX3 hown hK hP hLp1 hKp1 rfl rfl 2 (by decide) (hts _ pq124) (congrArg (fun q => some (va_rf q)) ey55) dX3_becomeFlipped_64 ?_
          refine lv_iload hx hb dX3_becomeFlipped_67 (lv_at hl 1 rfl) ?_
          refine lv_iconst (v := 1) hx hb dX3_becomeFlipped_69 (by decide +kernel) ?_
          refine lv_iadd hx hb dX3_becomeFlipped_70 ?_
          refine lv_topi (fun z70 ez70 => ?_)
          have bz70 := tq_add (k := z51.toInt) (q := (1)) ez70 rfl (by decide +kernel) (by omega) (by omega)
          refine p_lald hx hb hK hP 2 hLy55 hKy55 rfl rfl (in_of (by omega) (by omega)) dX3_becomeFlipped_71 ?_
          refine lv_topl (fun z71 ez71 => ?_)
          refine lv_lstore (lv' := [(7, .long z71), (5, .long z60), (4, .int z51), (0, .ref p0), (1, .ref p1), (2, .int p2), (3, .int v24_3)]) hx hb dX3_becomeFlipped_72 hl (by decide) rfl (fun ls hl => ?_)
          have f60 : z60 = (J (wo Q p1)) (2 * w51_1.toInt.toNat) := by rw [ez60, ← s1, wo_of ey55]; congr 1; show z51.toInt.toNat = _; omega
          have f71 : z71 = (J (wo Q p1)) (2 * w51_1.toInt.toNat + 1) := by rw [ez71, ← s1, wo_of ey55]; congr 1; show z70.toInt.toNat = _; omega
          refine lv_iload_n hx hb dX3_becomeFlipped_74 rfl (lv_at hl 5 rfl) ?_
          refine lv_iconst (v := 1) hx hb dX3_becomeFlipped_75 (by decide +kernel) ?_
          refine lv_iand hx hb dX3_becomeFlipped_76 ?_
          refine lv_topi (fun z76 ez76 => ?_)
          have bz76 := tq_and 1 ez76 (by decide +kernel) (by decide)
          have j165 : ∀ (J165 : Nat → Nat → Int64) (H : Heap) (lo : List Loc) (ls : Array Slot), (∀ b, ¬ (K b = 12 ∧ (G b = G p0)) → J165 b = J b) → (okm (I p1 0).toInt (I p1 1).toInt (J (wo Q p1)) → rws (J165 (wo Q p0)) (flipD (I p1 0).toInt (I p1 1).toInt p2.toInt (J (wo Q p1))) (v24_3.toInt + 1)) → va_P (dC, dI) vwCl (Wd cs L K Iz19 J165 Q) H → va_S A s.heap H lo → lv_has ls 9 [(0, .ref p0), (1, .ref p1), (2, .int p2), (3, .int v24_3), (4, .int z51), (5, .long z60), (7, .long z71)] → W p l e R s m (([.ref p0, .ref p1, .int p2] : List Value).toArray) below meth c H lo 0 0 Qz (F0 m 165 ls []) := by
            intro J165 H lo ls dj_J165 h165 hP hS hl
            obtain ⟨z165, ez165⟩ : ∃ y : Int32, y = v24_3 + 1 := ⟨_, rfl⟩
            refine lv_iinc (v := z165) (lv' := [(3, .int z165), (0, .ref p0), (1, .ref p1), (2, .int p2), (4, .int z51), (5, .long z60), (7, .long z71)]) hx hb dX3_becomeFlipped_165 hl (k := 3) rfl (by rw [ez165]; rfl) (by decide) rfl (fun ls hl => ?_)
            have bz165 := tq_add (k := v24_3.toInt) (q := 1) ez165 rfl (by decide +kernel) (by omega) (by omega)
            refine lv_goto (tgt := 24) hx hb dX3_becomeFlipped_168 (by decide) ?_
            exact ih24 _ (by omega) z165 J165 _ _ _ rfl ⟨by omega, by omega⟩ dj_J165 (fun ok => by rw [bz165]; exact h165 ok) hP hS (lv_sub hl [1, 2, 3, 0] rfl)
          refine lv_if_ne (tgt := 105) hx hb dX3_becomeFlipped_77 (by decide) (fun c77 => ?_) (fun c77 => ?_)
          · have t77 := tq_ne (k := z76.toInt) (q := (0)) c77 rfl (by decide +kernel)
            refine lv_aload_n hx hb dX3_becomeFlipped_105 rfl (lv_at hl 3 rfl) ?_
            obtain ⟨y106, ey106, hLy106, hKy106, hGy106⟩ := oQ_3_2 (Sv_at hQ hLp0 hKp0)
            refine p_get (v := .ref y106) hx hb hts inX3 hown hK hP hLp0 hKp0 rfl rfl 2 (by decide) (hts _ pq124) (congrArg (fun q => some (va_rf q)) ey106) dX3_becomeFlipped_106 ?_
            refine lv_iconst (v := 2) hx hb dX3_becomeFlipped_109 (by decide +kernel) ?_
            refine lv_iload_n hx hb dX3_becomeFlipped_110 rfl (lv_at hl 6 rfl) ?_
            refine lv_imul hx hb dX3_becomeFlipped_111 ?_
            refine lv_topi (fun z111 ez111 => ?_)
            have bz111 := tq_mul (k := (2)) (q := v24_3.toInt) ez111 (by decide +kernel) rfl (by omega) (by omega)
            refine lv_lload hx hb dX3_becomeFlipped_112 (lv_at hl 0 rfl) ?_
            refine ro_l (va_runS (As := [.long z71]) (rest := [.int z111, .ref y106]) ⟨hx, hb, hml, hown, hts⟩ (s_X3_reversed l dC dI cs L K G Q hQ x0 m0 tx tm H.size Iz19 J24 hIz19 z71) (va_cwS 1 hts (gS pq614 pq615 pq76 pq616) rfl rfl rfl (by decide +kernel) ⟨(by rw [hR]; exact (Nat.le_of_ble_eq_true rfl)), (by rw [hR]; exact (Nat.le_of_ble_eq_true rfl))⟩) (sP_S hP hD hK hN) rfl rfl hl.1 rfl (lv_room (Nat.le_of_ble_eq_true rfl)) dX3_becomeFlipped_114 ⟨(by rw [hR]; exact (Nat.le_of_ble_eq_true rfl)), (by rw [hR]; exact (Nat.le_of_ble_eq_true rfl))⟩) hS hP (fun z114 H locs hz114 hP hS => ?_)
            have xpz114 := hz114
            refine lv_lload hx hb dX3_becomeFlipped_117 (lv_at hl 1 rfl) ?_
            refine ro_l (va_runS (As := [.long z60]) (rest := [.long z114, .int z111, .ref y106]) ⟨hx, hb, hml, hown, hts⟩ (s_X3_reversed l dC dI cs L K G Q hQ x0 m0 tx tm H.size Iz19 J24 hIz19 z60) (va_cwS 1 hts (gS pq614 pq615 pq76 pq616) rfl rfl rfl (by decide +kernel) ⟨(by rw [hR]; exact (Nat.le_of_ble_eq_true rfl)), (by rw [hR]; exact (Nat.le_of_ble_eq_true rfl))⟩) (sP_S hP hD hK hN) rfl rfl hl.1 rfl (lv_room (Nat.le_of_ble_eq_true rfl)) dX3_becomeFlipped_119 ⟨(by rw [hR]; exact (Nat.le_of_ble_eq_true rfl)), (by rw [hR]; exact (Nat.le_of_ble_eq_true rfl))⟩) hS hP (fun z119 H locs hz119 hP hS => ?_)
            have xpz119 := hz119
            refine lv_aload_n hx hb dX3_becomeFlipped_122 rfl (lv_at hl 3 rfl) ?_
            refine p_get hx hb hts inX3 hown hK hP hLp0 hKp0 rfl rfl 0 (by decide) (hts _ pq116) rfl dX3_becomeFlipped_123 ?_
            refine lv_topi (fun z123 ez123 => ?_)
            have bz123 := oI_3_0 (Iv_at hIz19 hLp0 hKp0)
            rw [← ez123] at bz123
            refine lv_sipush (v := 128) hx hb dX3_becomeFlipped_126 (by decide +kernel) ?_
            refine lv_isub hx hb dX3_becomeFlipped_129 ?_
            refine lv_topi (fun z129 ez129 => ?_)
            have bz129 := tq_sub (k := z123.toInt) (q := (128)) ez129 rfl (by decide +kernel) (by omega) (by omega)
            refine ro_l (va_runS (As := [.long z114, .long z119, .int z129]) (rest := [.int z111, .ref y106]) ⟨hx, hb, hml, hown, hts⟩ (s_X3_shiftedLow l dC dI cs L K G Q hQ x0 m0 tx tm H.size Iz19 J24 hIz19 z114 z119 z129) (va_cwS 3 hts (gS pq622 pq623 pq76 pq624) rfl rfl rfl (by decide +kernel) ⟨(by rw [hR]; exact (Nat.le_of_ble_eq_true rfl)), (by rw [hR]; exact (Nat.le_of_ble_eq_true rfl))⟩) (sP_S hP hD hK hN) rfl rfl hl.1 rfl (lv_room (Nat.le_of_ble_eq_true rfl)) dX3_becomeFlipped_130 ⟨(by rw [hR]; exact (Nat.le_of_ble_eq_true rfl)), (by rw [hR]; exact (Nat.le_of_ble_eq_true rfl))⟩) hS hP (fun z130 H locs hz130 hP hS => ?_)
            have xpz130 := hz130
            refine p_last hx hb hK hP hD hS 2 hLy106 hKy106 rfl (fun _ => rfl) rfl (in_of (by omega) (by omega)) dX3_becomeFlipped_133 (fun H locs hP hS => ?_)
            obtain ⟨Jz133, hP, qJz133⟩ : ∃ Jz133, va_P (dC, dI) vwCl (Wd cs L K Iz19 Jz133 Q) H ∧ Jz133 = va_up J24 y106 (vp_updL (J24 y106) z111.toNatClampNeg z130) := ⟨_, hP, rfl⟩
            have dj_Jz133 : (∀ b, ¬ (K b = 12 ∧ (G b = G p0)) → Jz133 b = J b) := fun b hc => (congrFun qJz133 b).trans ((va_up_ne _ _ (fun z => hc (by rw [z]; exact ⟨hKy106, by omega⟩))).trans (dj_J24 b hc))
            refine lv_aload_n hx hb dX3_becomeFlipped_134 rfl (lv_at hl 3 rfl) ?_
            refine p_get (v := .ref y106) hx hb hts inX3 hown hK hP hLp0 hKp0 rfl rfl 2 (by decide) (hts _ pq124) (congrArg (fun q => some (va_rf q)) ey106) dX3_becomeFlipped_135 ?_
            refine lv_iconst (v := 2) hx hb dX3_becomeFlipped_138 (by decide +kernel) ?_
            refine lv_iload_n hx hb dX3_becomeFlipped_139 rfl (lv_at hl 6 rfl) ?_
            refine lv_imul hx hb dX3_becomeFlipped_140 ?_
            refine lv_topi (fun z140 ez140 => ?_)
            have bz140 := tq_mul (k := (2)) (q := v24_3.toInt) ez140 (by decide +kernel) rfl (by omega) (by omega)
            refine lv_iconst (v := 1) hx hb dX3_becomeFlipped_141 (by decide +kernel) ?_
            refine lv_iadd hx hb dX3_becomeFlipped_142 ?_
            refine lv_topi (fun z142 ez142 => ?_)
            have bz142 := tq_add (k := z140.toInt) (q := (1)) ez142 rfl (by decide +kernel) (by omega) (by omega)
            refine lv_lload hx hb dX3_becomeFlipped_143 (lv_at hl 0 rfl) ?_
            refine ro_l (va_runS (As := [.long z71]) (rest := [.int z142, .ref y106]) ⟨hx, hb, hml, hown, hts⟩ (s_X3_reversed l dC dI cs L K G Q hQ x0 m0 tx tm H.size Iz19 Jz133 hIz19 z71) (va_cwS 1 hts (gS pq614 pq615 pq76 pq616) rfl rfl rfl (by decide +kernel) ⟨(by rw [hR]; exact (Nat.le_of_ble_eq_true rfl)), (by rw [hR]; exact (Nat.le_of_ble_eq_true rfl))⟩) (sP_S hP hD hK hN) rfl rfl hl.1 rfl (lv_room (Nat.le_of_ble_eq_true rfl)) dX3_becomeFlipped_145 ⟨(by rw [hR]; exact (Nat.le_of_ble_eq_true rfl)), (by rw [hR]; exact (Nat.le_of_ble_eq_true rfl))⟩) hS hP (fun z145 H locs hz145 hP hS => ?_)
            have xpz145 := hz145
            refine lv_lload hx hb dX3_becomeFlipped_148 (lv_at hl 1 rfl) ?_
            refine ro_l (va_runS (As := [.long z60]) (rest := [.long z145, .int z142, .ref y106]) ⟨hx, hb, hml, hown, hts⟩ (s_X3_reversed l dC dI cs L K G Q hQ x0 m0 tx tm H.size Iz19 Jz133 hIz19 z60) (va_cwS 1 hts (gS pq614 pq615 pq76 pq616) rfl rfl rfl (by decide +kernel) ⟨(by rw [hR]; exact (Nat.le_of_ble_eq_true rfl)), (by rw [hR]; exact (Nat.le_of_ble_eq_true rfl))⟩) (sP_S hP hD hK hN) rfl rfl hl.1 rfl (lv_room (Nat.le_of_ble_eq_true rfl)) dX3_becomeFlipped_150 ⟨(by rw [hR]; exact (Nat.le_of_ble_eq_true rfl)), (by rw [hR]; exact (Nat.le_of_ble_eq_true rfl))⟩) hS hP (fun z150 H locs hz150 hP hS => ?_)
            have xpz150 := hz150
            refine lv_aload_n hx hb dX3_becomeFlipped_153 rfl (lv_at hl 3 rfl) ?_
            refine p_get hx hb hts inX3 hown hK hP hLp0 hKp0 rfl rfl 0 (by decide) (hts _ pq116) rfl dX3_becomeFlipped_154 ?_
            refine lv_topi (fun z154 ez154 => ?_)
            obtain rfl : z123 = z154 := ez123.trans ez154.symm
            refine lv_sipush (v := 128) hx hb dX3_becomeFlipped_157 (by decide +kernel) ?_
            refine lv_isub hx hb dX3_becomeFlipped_160 ?_
            refine lv_topi (fun z160 ez160 => ?_)
            have bz160 := tq_sub (k := z123.toInt) (q := (128)) ez160 rfl (by decide +kernel) (by omega) (by omega)
            refine ro_l (va_runS (As := [.long z145, .long z150, .int z160]) (rest := [.int z142, .ref y106]) ⟨hx, hb, hml, hown, hts⟩ (s_X3_shiftedHigh l dC dI cs L K G Q hQ x0 m0 tx tm H.size Iz19 Jz133 hIz19 z145 z150 z160) (va_cwS 3 hts (gS pq625 pq626 pq76 pq627) rfl rfl rfl (by decide +kernel) ⟨(by rw [hR]; exact (Nat.le_of_ble_eq_true rfl)), (by rw [hR]; exact (Nat.le_of_ble_eq_true rfl))⟩) (sP_S hP hD hK hN) rfl rfl hl.1 rfl (lv_room (Nat.le_of_ble_eq_true rfl)) dX3_becomeFlipped_161 ⟨(by rw [hR]; exact (Nat.le_of_ble_eq_true rfl)), (by rw [hR]; exact (Nat.le_of_ble_eq_true rfl))⟩) hS hP (fun z161 H locs hz161 hP hS => ?_)
            have xpz161 := hz161
            refine p_last hx hb hK hP hD hS 2 hLy106 hKy106 rfl (fun _ => rfl) rfl (in_of (by omega) (by omega)) dX3_becomeFlipped_164 (fun H locs hP hS => ?_)
            obtain ⟨Jz164, hP, qJz164⟩ : ∃ Jz164, va_P (dC, dI) vwCl (Wd cs L K Iz19 Jz164 Q) H ∧ Jz164 = va_up Jz133 y106 (vp_updL (Jz133 y106) z142.toNatClampNeg z161) := ⟨_, hP, rfl⟩
            have dj_Jz164 : (∀ b, ¬ (K b = 12 ∧ (G b = G p0)) → Jz164 b = J b) := fun b hc => (congrFun qJz164 b).trans ((va_up_ne _ _ (fun z => hc (by rw [z]; exact ⟨hKy106, by omega⟩))).trans (dj_Jz133 b hc))
            exact j165 Jz164 _ _ _ dj_Jz164 (fun ok => rws_step (r := v24_3.toInt.toNat) (hrw ok) (f1 := Jz133 (wo Q p0)) (a := z130) (b := z161) (fun j => by rw [qJz133, wo_of ey106, va_up_self]; unfold vp_updL; rw [show z111.toNatClampNeg = 2 * v24_3.toInt.toNat from (by show z111.toInt.toNat = _; omega)]) (fun j => by rw [qJz164, wo_of ey106, va_up_self]; unfold vp_updL; rw [show z142.toNatClampNeg = 2 * v24_3.toInt.toNat + 1 from (by show z142.toInt.toNat = _; omega)]) (by omega) (by omega) rfl (fl_row1 (s := z129.toInt) (by have o := ok.1; omega) (by omega) (by rw [← w26]; omega) f60 f71 (by rw [show ((w51_1.toInt.toNat : Nat) : Int) = w51_1.toInt by omega, show ((v24_3.toInt.toNat : Nat) : Int) = v24_3.toInt by omega]; exact h51) (by have q := and1 ez76 bp2; omega) xpz119 xpz114 (by have e : z123.toInt = (I p1 0).toInt := (by rw [ez123, zp19.2.1, ez12]); omega) xpz130 (fun i hi => by have q := xpz161 i hi; rw [b64_ext (fun j hj => (xpz145 j hj).trans (xpz114 j hj).symm), b64_ext (fun j hj => (xpz150 j hj).trans (xpz119 j hj).symm), show z160.toInt = z129.toInt from (by omega)] at q; exact q))) hP hS (lv_sub hl [3, 4, 5, 6, 2, 1, 0] rfl)
          · have t77 := tq_eq (k := z76.toInt) (q := (0)) c77 rfl (by decide +kernel)
            refine lv_aload_n hx hb dX3_becomeFlipped_80 rfl (lv_at hl 3 rfl) ?_
            obtain ⟨y81, ey81, hLy81, hKy81, hGy81⟩ := oQ_3_2 (Sv_at hQ hLp0 hKp0)
            refine p_get (v := .ref y81) hx hb hts inX3 hown hK hP hLp0 hKp0 rfl rfl 2 (by decide) (hts _ pq124) (congrArg (fun q => some (va_rf q)) ey81) dX3_becomeFlipped_81 ?_
            refine lv_iconst (v := 2) hx hb dX3_becomeFlipped_84 (by decide +kernel) ?_
            refine lv_iload_n hx hb dX3_becomeFlipped_85 rfl (lv_at hl 6 rfl) ?_
            refine lv_imul hx hb dX3_becomeFlipped_86 ?_
            refine lv_topi (fun z86 ez86 => ?_)
            have bz86 := tq_mul (k := (2)) (q := v24_3.toInt) ez86 (by decide +kernel) rfl (by omega) (by omega)
            refine lv_lload hx hb dX3_becomeFlipped_87 (lv_at hl 1 rfl) ?_
            refine p_last hx hb hK hP hD hS 2 hLy81 hKy81 rfl (fun _ => rfl) rfl (in_of (by omega) (by omega)) dX3_becomeFlipped_89 (fun H locs hP hS => ?_)
            obtain ⟨Jz89, hP, qJz89⟩ : ∃ Jz89, va_P (dC, dI) vwCl (Wd cs L K Iz19 Jz89 Q) H ∧ Jz89 = va_up J24 y81 (vp_updL (J24 y81) z86.toNatClampNeg z60) := ⟨_, hP, rfl⟩
            have dj_Jz89 : (∀ b, ¬ (K b = 12 ∧ (G b = G p0)) → Jz89 b = J b) := fun b hc => (congrFun qJz89 b).trans ((va_up_ne _ _ (fun z => hc (by rw [z]; exact ⟨hKy81, by omega⟩))).trans (dj_J24 b hc))
            refine lv_aload_n hx hb dX3_becomeFlipped_90 rfl (lv_at hl 3 rfl) ?_
            refine p_get (v := .ref y81) hx hb hts inX3 hown hK hP hLp0 hKp0 rfl rfl 2 (by decide) (hts _ pq124) (congrArg (fun q => some (va_rf q)) ey81) dX3_becomeFlipped_91 ?_
            refine lv_iconst (v := 2) hx hb dX3_becomeFlipped_94 (by decide +kernel) ?_
            refine lv_iload_n hx hb dX3_becomeFlipped_95 rfl (lv_at hl 6 rfl) ?_
            refine lv_imul hx hb dX3_becomeFlipped_96 ?_
            refine lv_topi (fun z96 ez96 => ?_)
            have bz96 := tq_mul (k := (2)) (q := v24_3.toInt) ez96 (by decide +kernel) rfl (by omega) (by omega)
            refine lv_iconst (v := 1) hx hb dX3_becomeFlipped_97 (by decide +kernel) ?_
            refine lv_iadd hx hb dX3_becomeFlipped_98 ?_
            refine lv_topi (fun z98 ez98 => ?_)
            have bz98 := tq_add (k := z96.toInt) (q := (1)) ez98 rfl (by decide +kernel) (by omega) (by omega)
            refine lv_lload hx hb dX3_becomeFlipped_99 (lv_at hl 0 rfl) ?_
            refine p_last hx hb hK hP hD hS 2 hLy81 hKy81 rfl (fun _ => rfl) rfl (in_of (by omega) (by omega)) dX3_becomeFlipped_101 (fun H locs hP hS => ?_)
            obtain ⟨Jz101, hP, qJz101⟩ : ∃ Jz101, va_P (dC, dI) vwCl (Wd cs L K Iz19 Jz101 Q) H ∧ Jz101 = va_up Jz89 y81 (vp_updL (Jz89 y81) z98.toNatClampNeg z71) := ⟨_, hP, rfl⟩
            have dj_Jz101 : (∀ b, ¬ (K b = 12 ∧ (G b = G p0)) → Jz101 b = J b) := fun b hc => (congrFun qJz101 b).trans ((va_up_ne _ _ (fun z => hc (by rw [z]; exact ⟨hKy81, by omega⟩))).trans (dj_Jz89 b hc))
            refine lv_goto (tgt := 165) hx hb dX3_becomeFlipped_102 (by decide) ?_
            exact j165 Jz101 _ _ _ dj_Jz101 (fun ok => rws_step (r := v24_3.toInt.toNat) (hrw ok) (f1 := Jz89 (wo Q p0)) (a := z60) (b := z71) (fun j => by rw [qJz89, wo_of ey81, va_up_self]; unfold vp_updL; rw [show z86.toNatClampNeg = 2 * v24_3.toInt.toNat from (by show z86.toInt.toNat = _; omega)]) (fun j => by rw [qJz101, wo_of ey81, va_up_self]; unfold vp_updL; rw [show z98.toNatClampNeg = 2 * v24_3.toInt.toNat + 1 from (by show z98.toInt.toNat = _; omega)]) (by omega) (by omega) rfl (fl_row0 ok.2.2 (by omega) (by rw [← w26]; omega) f60 f71 (by rw [show ((w51_1.toInt.toNat : Nat) : Int) = w51_1.toInt by omega, show ((v24_3.toInt.toNat : Nat) : Int) = v24_3.toInt by omega]; exact h51) (by have q := and1 ez76 bp2; omega))) hP hS (lv_sub hl [3, 4, 5, 6, 2, 1, 0] rfl)
        refine lv_if_ne (tgt := 43) hx hb dX3_becomeFlipped_36 (by decide) (fun c36 => ?_) (fun c36 => ?_)
        · have t36 := tq_ne (k := z35.toInt) (q := (0)) c36 rfl (by decide +kernel)
          refine lv_aload_n hx hb dX3_becomeFlipped_43 rfl (lv_at hl 0 rfl) ?_
          refine p_get hx hb hts inX3 hown hK hP hLp0 hKp0 rfl rfl 1 (by decide) (hts _ pq120) rfl dX3_becomeFlipped_44 ?_
          refine lv_topi (fun z44 ez44 => ?_)
          obtain rfl : z26 = z44 := ez26.trans ez44.symm
          refine lv_iconst (v := 1) hx hb dX3_becomeFlipped_47 (by decide +kernel) ?_
          refine lv_isub hx hb dX3_becomeFlipped_48 ?_
          refine lv_topi (fun z48 ez48 => ?_)
          have bz48 := tq_sub (k := z26.toInt) (q := (1)) ez48 rfl (by decide +kernel) (by omega) (by omega)
          refine lv_iload_n hx hb dX3_becomeFlipped_49 rfl (lv_at hl 3 rfl) ?_
          refine lv_isub hx hb dX3_becomeFlipped_50 ?_
          refine lv_topi (fun z50 ez50 => ?_)
          have bz50 := tq_sub (k := z48.toInt) (q := v24_3.toInt) ez50 rfl rfl (by omega) (by omega)
          exact j51 z50 _ _ _ ⟨by omega, by omega⟩ (by unfold fly; rw [if_pos (by have q : ¬ p2.toInt < 2 := (fun h => t36 ((and2 ez35 bp2).mpr h)); omega)]; omega) hP hS (lv_sub hl [0, 1, 2, 3] rfl)
        · have t36 := tq_eq (k := z35.toInt) (q := (0)) c36 rfl (by decide +kernel)
          refine lv_iload_n hx hb dX3_becomeFlipped_39 rfl (lv_at hl 3 rfl) ?_
          refine lv_goto (tgt := 51) hx hb dX3_becomeFlipped_40 (by decide) ?_
          exact j51 v24_3 _ _ _ ⟨by omega, by omega⟩ (by unfold fly; rw [if_neg (by have q := (and2 ez35 bp2).mp t36; omega)]) hP hS (lv_sub hl [0, 1, 2, 3] rfl))
    exact key24 _ 0 Jz19 _ _ _ rfl ⟨by decide +kernel, by decide +kernel⟩ dj_Jz19 (fun ok => rws_0 jz19 (fun x y a b => absurd b (by rw [show (0 : Int32).toInt = 0 from by decide +kernel]; omega))) hP hS (lv_sub hl [1, 2, 3, 0] rfl)
  · have t1 := tq_eq (k := p2.toInt) (q := (0)) c1 rfl (by decide +kernel)
    refine lv_aload_n hx hb dX3_becomeFlipped_4 rfl (lv_at hl 0 rfl) ?_
    refine lv_aload_n hx hb dX3_becomeFlipped_5 rfl (lv_at hl 1 rfl) ?_
    refine sw_v (Z := (fun I1 J1 => Iv L K x0 m0 tx tm I1 ∧ (∀ b, ¬ (b = p0) → I1 b = I b) ∧ (¬ p1 = p0 → ∀ k, k < 8 → ¬ k = 2 → I1 p0 k = I p1 k) ∧ (∀ k, k < 80 → J1 (wo Q p0) k = J (wo Q p1) k) ∧ (∀ b, ¬ (K b = 12 ∧ (G b = G p0)) → J1 b = J b))) (va_runV (As := [.ref p1]) (rest := []) ⟨hx, hb, hml, hown, hts⟩ (s_X3_become l dC dI cs L K G Q hQ x0 m0 tx tm H.size I J hI p0 hLp0 hKp0 p1 hLp1 hKp1) (cwV 1 hts (gV pq612 pq594 pq595 pq76 pq596) rfl rfl rfl (by decide +kernel) ⟨(by rw [hR]; exact (Nat.le_of_ble_eq_true rfl)), (by rw [hR]; exact (Nat.le_of_ble_eq_true rfl))⟩) (sP_V hP hD hK hN hLp0 hKp0 rfl rfl) rfl rfl hl.1 rfl (lv_room (Nat.le_of_ble_eq_true rfl)) dX3_becomeFlipped_6 ⟨(by rw [hR]; exact (Nat.le_of_ble_eq_true rfl)), (by rw [hR]; exact (Nat.le_of_ble_eq_true rfl))⟩) hS hAL hA (fun Iz6 Jz6 H locs hz6 hIz6 hP hS => ?_)
    obtain ⟨hIz6, frc6, fz6, jz6, djc6⟩ := hIz6
    have dj_Jz6 : (∀ b, ¬ (K b = 12 ∧ (G b = G p0)) → Jz6 b = J b) := fun b hc => (djc6 b (fun z => hc (by exact ⟨z.1, by have z2 := z.2; omega⟩))).trans (dj_J b hc)
    have fr_Iz6 : ∀ b, ¬ (b = p0) → Iz6 b = I b := fun b q => (frc6 b (fun z => q (z))).trans (fr_I b q)
    subst hR; subst hQz
    exact W.vret hx hb hr (fun t ht hW => ⟨⟨(), rfl, trivial, ⟨Iz6, Jz6, ⟨hIz6, fr_Iz6, (fun ok ms => mk_cpy (fz6 (fun z => hne (by rw [z]))) jz6 (fun x y hx hy => by rw [t1]; exact flipD_0 ok.2.2 x y hx hy) ms), dj_Jz6⟩, by rw [ht]; exact hP⟩⟩, hS.F ht⟩) hS.2.2 dX3_becomeFlipped_9

set_option maxHeartbeats 4000000 in
set_option maxRecDepth 100000 in
theorem s_X3_openSides (l : Launch) (dC : Nat → ClassId) (dI : Nat → Nat → Nat) (cs : Nat → ClassId) (L : List Nat) (K G : Nat → Nat) (Q : Nat → Nat → Option Nat) (hQ : Sv L K G Q) (x0 m0 : Nat) (tx : GT) (tm : GT × Int) (sz : Nat) (I : Nat → Nat → Int32) (J : Nat → Nat → Int64) (hI : Iv L K x0 m0 tx tm I) (p0 : Nat) (hLp0 : p0 ∈ L) (hKp0 : K p0 = 3) : Met l yX3_openSides (.code yX3_openSides cX3_openSides 7 (some .int) :: pw) ({ frames := 1, cells := 0, slots := 0, locals := 21 }) (sP (dC, dI) cs [.ref p0] sz L K I J Q) (va_Qi (fun (r : Int32) (_ : Unit) => (okm (I p0 0).toInt (I p0 1).toInt (J (wo Q p0)) → msr (J (wo Q p0)) (I p0 3).toInt (I p0 4).toInt (I p0 5).toInt (I p0 6).toInt (I p0 7).toInt → r.toInt = edN (J (wo Q p0)))) (fun _ _ => True) (fun _ => False)) 0 0 (fun _ => False) := by
  refine Met.ofW (cc := cX3_openSides) (maxL := 7) (ret := (some .int)) (by decide +kernel) rfl ?_
  intro p e s m args below meth c s₁ B hml hv
  obtain ⟨rfl, hsz, hP, hK, hD0, hN⟩ := hv
  have hx := B.exec
  have hb := B.bytes
  have hr := B.returns
  have hts := fun w (h : w ∈ pw) => atoms_spec (ws := Cond.code yX3_openSides cX3_openSides 7 (some .int) :: pw) B.pre w (List.mem_cons_of_mem _ h)
  have hown : s.vm.findClass RX3 = some m.cls := findClass_of_methodNamed B.named
  have hlocks := B.notSynchronized
  subst hsz
  have hBB : 999 ≤ tm.2 ∧ tm.2 ≤ 6000000 := hI.2.2.2.2.1
  have hD := hD0
  obtain ⟨H, hHe⟩ : ∃ H : Heap, H = s.heap := ⟨_, rfl⟩
  have hS : va_S (fun _ => False) s.heap H [] := by rw [hHe]; exact va_S.rf
  rw [← hHe] at hP
  have hl := lv_entry ([.ref p0]) (n := 7) (Nat.le_of_ble_eq_true rfl)
  rw [lg_entry_eq]
  generalize (lg_sl ([.ref p0]) ++ List.replicate (7 - (lg_sl ([.ref p0])).length) Slot.unset).toArray = ls at hl ⊢
  have hl : lv_has ls 7 [(0, .ref p0)] := hl
  rw [← hHe]
  refine namedW (fun R Qz hR hQz => ?_)
  refine lv_iconst (v := 0) hx hb dX3_openSides_0 (by decide +kernel) ?_
  refine lv_istore_n (lv' := [(1, .int 0), (0, .ref p0)]) hx hb dX3_openSides_1 rfl hl (by decide) rfl (fun ls hl => ?_)
  refine lv_iconst (v := 0) hx hb dX3_openSides_2 (by decide +kernel) ?_
  refine lv_istore_n (lv' := [(2, .int 0), (1, .int 0), (0, .ref p0)]) hx hb dX3_openSides_3 rfl hl (by decide) rfl (fun ls hl => ?_)
  have key4 := blocks (fun n => ∀ (v4_1 : Int32) (v4_2 : Int32) (H : Heap) (lo : List Loc) (ls : Array Slot), (82 - v4_2.toInt).toNat = n → ((0) ≤ v4_2.toInt ∧ v4_2.toInt ≤ 81) → v4_2.toInt % 2 = 0 → (okm (I p0 0).toInt (I p0 1).toInt (J (wo Q p0)) → v4_1.toInt = (cntD (ahD (cmD (J (wo Q p0)) (J (wo Q p0)) (-1) 0) (v4_2.toInt / 2) 0) : Int) + (cntD (ahD (cmD (J (wo Q p0)) (J (wo Q p0)) 0 (-1)) (v4_2.toInt / 2) 0) : Int)) → va_P (dC, dI) vwCl (Wd cs L K I J Q) H → va_S (fun _ => False) s.heap H lo → lv_has ls 7 [(0, .ref p0), (1, .int v4_1), (2, .int v4_2)] → W p l e R s m (([.ref p0] : List Value).toArray) below meth c H lo 0 0 Qz (F0 m 4 ls [])) (by
    intro n ih4
    intro v4_1 v4_2 H lo ls hmu4 bv4_2 hev g4 hP hS hl
    refine lv_iload_n hx hb dX3_openSides_4 rfl (lv_at hl 2 rfl) ?_
    refine lv_iconst (v := 2) hx hb dX3_openSides_5 (by decide +kernel) ?_
    refine lv_aload_n hx hb dX3_openSides_6 rfl (lv_at hl 0 rfl) ?_
    refine p_get hx hb hts inX3 hown hK hP hLp0 hKp0 rfl rfl 1 (by decide) (hts _ pq120) rfl dX3_openSides_7 ?_
    refine lv_topi (fun z7 ez7 => ?_)
    have bz7 := oI_3_1 (Iv_at hI hLp0 hKp0)
    rw [← ez7] at bz7
    refine lv_imul hx hb dX3_openSides_10 ?_
    refine lv_topi (fun z10 ez10 => ?_)
    have bz10 := tq_mul (k := (2)) (q := z7.toInt) ez10 (by decide +kernel) rfl (by omega) (by omega)
    refine lv_icmp_ge (tgt := 108) hx hb dX3_openSides_11 (by decide) (fun c11 => ?_) (fun c11 => ?_)
    · have t11 := tq_le (k := z10.toInt) (q := v4_2.toInt) c11 rfl rfl
      refine lv_iconst (v := 4) hx hb dX3_openSides_108 (by decide +kernel) ?_
      refine lv_aload_n hx hb dX3_openSides_109 rfl (lv_at hl 0 rfl) ?_
      refine p_get hx hb hts inX3 hown hK hP hLp0 hKp0 rfl rfl 3 (by decide) (hts _ pq129) rfl dX3_openSides_110 ?_
      refine lv_topi (fun z110 ez110 => ?_)
      refine lv_imul hx hb dX3_openSides_113 ?_
      refine lv_topi (fun z113 ez113 => ?_)
      refine lv_iconst (v := 2) hx hb dX3_openSides_114 (by decide +kernel) ?_
      refine lv_iload_n hx hb dX3_openSides_115 rfl (lv_at hl 1 rfl) ?_
      refine lv_imul hx hb dX3_openSides_116 ?_
      refine lv_topi (fun z116 ez116 => ?_)
      refine lv_isub hx hb dX3_openSides_117 ?_
      refine lv_topi (fun z117 ez117 => ?_)
      subst hR; subst hQz
      exact W.iret (v := z117) hx hb hr (fun t ht hW => ⟨⟨z117, (), rfl, (fun ok ms => by have g := g4 ok; have e7 : z7.toInt = (I p0 1).toInt := congrArg Int32.toInt ez7; have hi : ∀ dx dy, cntD (ahD (cmD (J (wo Q p0)) (J (wo Q p0)) dx dy) (v4_2.toInt / 2) 0) = cntD (cmD (J (wo Q p0)) (J (wo Q p0)) dx dy) := (fun dx dy => cnt_congr (fun x y _ _ _ _ => ah_hi (fun X Y q => by have := md_b ok.2.2 _ _ (cm_t.mp q).1; omega) x y)); rw [hi, hi] at g; have b1 := cnt_le (cmD (J (wo Q p0)) (J (wo Q p0)) (-1) 0); have b2 := cnt_le (cmD (J (wo Q p0)) (J (wo Q p0)) 0 (-1)); have T := ms.1; have T2 := totr_le (J (wo Q p0)) 40; have e110 : z110.toInt = (I p0 3).toInt := congrArg Int32.toInt ez110; have a113 := tq_mul (k := 4) (q := z110.toInt) ez113 (by decide +kernel) rfl (by omega) (by omega); have a116 := tq_mul (k := 2) (q := v4_1.toInt) ez116 (by decide +kernel) rfl (by omega) (by omega); have a117 := tq_sub (k := z113.toInt) (q := z116.toInt) ez117 rfl rfl (by omega) (by omega); rw [edN_2]; unfold cmN; omega), trivial⟩, hS.F ht⟩) hS.2.2 dX3_openSides_118
    · have t11 := tq_nle (k := z10.toInt) (q := v4_2.toInt) c11 rfl rfl
      refine lv_aload_n hx hb dX3_openSides_14 rfl (lv_at hl 0 rfl) ?_
      obtain ⟨y15, ey15, hLy15, hKy15, hGy15⟩ := oQ_3_2 (Sv_at hQ hLp0 hKp0)
      refine p_get (v := .ref y15) hx hb hts inX3 hown hK hP hLp0 hKp0 rfl rfl 2 (by decide) (hts _ pq124) (congrArg (fun q => some (va_rf q)) ey15) dX3_openSides_15 ?_
      refine lv_iload_n hx hb dX3_openSides_18 rfl (lv_at hl 2 rfl) ?_
      refine p_lald hx hb hK hP 2 hLy15 hKy15 rfl rfl (in_of (by omega) (by omega)) dX3_openSides_19 ?_
      refine lv_topl (fun z19 ez19 => ?_)
      refine lv_lstore_n (lv' := [(3, .long z19), (0, .ref p0), (1, .int v4_1), (2, .int v4_2)]) hx hb dX3_openSides_20 rfl hl (by decide) rfl (fun ls hl => ?_)
      refine lv_aload_n hx hb dX3_openSides_21 rfl (lv_at hl 1 rfl) ?_
      refine p_get (v := .ref y15) hx hb hts inX3 hown hK hP hLp0 hKp0 rfl rfl 2 (by decide) (hts _ pq124) (congrArg (fun q => some (va_rf q)) ey15) dX3_openSides_22 ?_
      refine lv_iload_n hx hb dX3_openSides_25 rfl (lv_at hl 3 rfl) ?_
      refine lv_iconst (v := 1) hx hb dX3_openSides_26 (by decide +kernel) ?_
      refine lv_iadd hx hb dX3_openSides_27 ?_
      refine lv_topi (fun z27 ez27 => ?_)
      have bz27 := tq_add (k := v4_2.toInt) (q := (1)) ez27 rfl (by decide +kernel) (by omega) (by omega)
      refine p_lald hx hb hK hP 2 hLy15 hKy15 rfl rfl (in_of (by omega) (by omega)) dX3_openSides_28 ?_
      refine lv_topl (fun z28 ez28 => ?_)
      refine lv_lstore (lv' := [(5, .long z28), (3, .long z19), (0, .ref p0), (1, .int v4_1), (2, .int v4_2)]) hx hb dX3_openSides_29 hl (by decide) rfl (fun ls hl => ?_)
      refine lv_iload_n hx hb dX3_openSides_31 rfl (lv_at hl 3 rfl) ?_
      refine lv_lload_n hx hb dX3_openSides_32 rfl (lv_at hl 1 rfl) ?_
      refine lv_lload_n hx hb dX3_openSides_33 rfl (lv_at hl 1 rfl) ?_
      refine lv_iconst (v := 1) hx hb dX3_openSides_34 (by decide +kernel) ?_
      refine lv_lushr hx hb dX3_openSides_35 rfl ?_
      refine lv_topl (fun z35 ez35 => ?_)
      refine lv_lload hx hb dX3_openSides_36 (lv_at hl 0 rfl) ?_
      refine lv_bipush (v := 63) hx hb dX3_openSides_38 (by decide +kernel) ?_
      refine lv_lshl hx hb dX3_openSides_40 rfl ?_
      refine lv_topl (fun z40 ez40 => ?_)
      refine lv_lor hx hb dX3_openSides_41 ?_
      refine lv_topl (fun z41 ez41 => ?_)
      refine lv_land hx hb dX3_openSides_42 ?_
      refine lv_topl (fun z42 ez42 => ?_)
      refine ro_i (va_runS (As := [.long z42]) (rest := [.int v4_1]) ⟨hx, hb, hml, hown, hts⟩ (s_J13_bitCount l dC dI cs L K Q H.size I J z42) (va_cwS 1 hts (gS pq545 pq546 pq89 pq547) rfl rfl rfl (by decide +kernel) ⟨(by rw [hR]; exact (Nat.le_of_ble_eq_true rfl)), (by rw [hR]; exact (Nat.le_of_ble_eq_true rfl))⟩) (sP_S hP hD hK hN) rfl rfl hl.1 rfl (lv_room (Nat.le_of_ble_eq_true rfl)) dX3_openSides_43 ⟨(by rw [hR]; exact (Nat.le_of_ble_eq_true rfl)), (by rw [hR]; exact (Nat.le_of_ble_eq_true rfl))⟩) hS hP (fun z43 H locs hz43 hP hS => ?_)
      obtain ⟨bz43, xpz43⟩ := hz43
      refine lv_lload hx hb dX3_openSides_46 (lv_at hl 0 rfl) ?_
      refine lv_lload hx hb dX3_openSides_48 (lv_at hl 0 rfl) ?_
      refine lv_iconst (v := 1) hx hb dX3_openSides_50 (by decide +kernel) ?_
      refine lv_lushr hx hb dX3_openSides_51 rfl ?_
      refine lv_topl (fun z51 ez51 => ?_)
      refine lv_land hx hb dX3_openSides_52 ?_
      refine lv_topl (fun z52 ez52 => ?_)
      refine ro_i (va_runS (As := [.long z52]) (rest := [.int z43, .int v4_1]) ⟨hx, hb, hml, hown, hts⟩ (s_J13_bitCount l dC dI cs L K Q H.size I J z52) (va_cwS 1 hts (gS pq545 pq546 pq89 pq547) rfl rfl rfl (by decide +kernel) ⟨(by rw [hR]; exact (Nat.le_of_ble_eq_true rfl)), (by rw [hR]; exact (Nat.le_of_ble_eq_true rfl))⟩) (sP_S hP hD hK hN) rfl rfl hl.1 rfl (lv_room (Nat.le_of_ble_eq_true rfl)) dX3_openSides_53 ⟨(by rw [hR]; exact (Nat.le_of_ble_eq_true rfl)), (by rw [hR]; exact (Nat.le_of_ble_eq_true rfl))⟩) hS hP (fun z53 H locs hz53 hP hS => ?_)
      obtain ⟨bz53, xpz53⟩ := hz53
      refine lv_iadd hx hb dX3_openSides_56 ?_
      refine lv_topi (fun z56 ez56 => ?_)
      have bz56 := tq_add (k := z43.toInt) (q := z53.toInt) ez56 rfl rfl (by omega) (by omega)
      refine lv_iadd hx hb dX3_openSides_57 ?_
      refine lv_topi (fun z57 ez57 => ?_)
      refine lv_istore_n (lv' := [(1, .int z57), (5, .long z28), (3, .long z19), (0, .ref p0), (2, .int v4_2)]) hx hb dX3_openSides_58 rfl hl (by decide) rfl (fun ls hl => ?_)
      refine lv_iload_n hx hb dX3_openSides_59 rfl (lv_at hl 4 rfl) ?_
      refine lv_iconst (v := 3) hx hb dX3_openSides_60 (by decide +kernel) ?_
      refine lv_iadd hx hb dX3_openSides_61 ?_
      refine lv_topi (fun z61 ez61 => ?_)
      have bz61 := tq_add (k := v4_2.toInt) (q := (3)) ez61 rfl (by decide +kernel) (by omega) (by omega)
      refine lv_iconst (v := 2) hx hb dX3_openSides_62 (by decide +kernel) ?_
      refine lv_aload_n hx hb dX3_openSides_63 rfl (lv_at hl 3 rfl) ?_
      refine p_get hx hb hts inX3 hown hK hP hLp0 hKp0 rfl rfl 1 (by decide) (hts _ pq120) rfl dX3_openSides_64 ?_
      refine lv_topi (fun z64 ez64 => ?_)
      obtain rfl : z7 = z64 := ez7.trans ez64.symm
      refine lv_imul hx hb dX3_openSides_67 ?_
      refine lv_topi (fun z67 ez67 => ?_)
      have bz67 := tq_mul (k := (2)) (q := z7.toInt) ez67 (by decide +kernel) rfl (by omega) (by omega)
      have j102 : ∀ (v102_1 : Int32) (H : Heap) (lo : List Loc) (ls : Array Slot), (okm (I p0 0).toInt (I p0 1).toInt (J (wo Q p0)) → v102_1.toInt = (cntD (ahD (cmD (J (wo Q p0)) (J (wo Q p0)) (-1) 0) (v4_2.toInt / 2 + 1) 0) : Int) + (cntD (ahD (cmD (J (wo Q p0)) (J (wo Q p0)) 0 (-1)) (v4_2.toInt / 2 + 1) 0) : Int)) → va_P (dC, dI) vwCl (Wd cs L K I J Q) H → va_S (fun _ => False) s.heap H lo → lv_has ls 7 [(0, .ref p0), (1, .int v102_1), (2, .int v4_2), (3, .long z19), (5, .long z28)] → W p l e R s m (([.ref p0] : List Value).toArray) below meth c H lo 0 0 Qz (F0 m 102 ls []) := by
        intro v102_1 H lo ls g102 hP hS hl
        obtain ⟨z102, ez102⟩ : ∃ y : Int32, y = v4_2 + 2 := ⟨_, rfl⟩
        refine lv_iinc (v := z102) (lv' := [(2, .int z102), (0, .ref p0), (1, .int v102_1), (3, .long z19), (5, .long z28)]) hx hb dX3_openSides_102 hl (k := 2) rfl (by rw [ez102]; rfl) (by decide) rfl (fun ls hl => ?_)
        have bz102 := tq_add (k := v4_2.toInt) (q := 2) ez102 rfl (by decide +kernel) (by omega) (by omega)
        refine lv_goto (tgt := 4) hx hb dX3_openSides_105 (by decide) ?_
        exact ih4 _ (by omega) v102_1 z102 _ _ _ rfl ⟨by omega, by omega⟩ (by omega) (fun ok => by rw [show z102.toInt / 2 = v4_2.toInt / 2 + 1 by omega]; exact g102 ok) hP hS (lv_sub hl [1, 2, 0] rfl)
      refine lv_icmp_ge (tgt := 102) hx hb dX3_openSides_68 (by decide) (fun c68 => ?_) (fun c68 => ?_)
      · have t68 := tq_le (k := z67.toInt) (q := z61.toInt) c68 rfl rfl
        exact j102 z57 _ _ _ (fun ok => by have g := g4 ok; have o1 := ok.1; have o2 := ok.2.1; have e7 : z7.toInt = (I p0 1).toInt := congrArg Int32.toInt ez7; have hr : (v4_2.toInt.toNat / 2) < 40 := (by omega); have eR : (((v4_2.toInt.toNat / 2) : Nat) : Int) = v4_2.toInt / 2 := (by omega); have M : ∀ x, md (J (wo Q p0)) x (v4_2.toInt / 2) = dt z19 z28 x := (fun x => by have q := md_row (f := J (wo Q p0)) (r := (v4_2.toInt.toNat / 2)) (a := z19) (b := z28) hr (by rw [ez19, show y15 = wo Q p0 from (wo_of ey15).symm, show v4_2.toNatClampNeg = 2 * (v4_2.toInt.toNat / 2) from (by show v4_2.toInt.toNat = _; omega)]) (by rw [ez28, show y15 = wo Q p0 from (wo_of ey15).symm, show z27.toNatClampNeg = 2 * (v4_2.toInt.toNat / 2) + 1 from (by show z27.toInt.toNat = _; omega)]) x; rw [eR] at q; exact q); have H := ln_gen (D := cmD (J (wo Q p0)) (J (wo Q p0)) (-1) 0) (a := z42) (b := z52) hr (fun x h0 h1 => by rw [ed_h ez35 (by decide +kernel) ez40 (by decide +kernel) ez41 ez42 ez51 (by decide +kernel) ez52 h0 h1]; unfold cmD; rw [eR, Int.sub_zero, show x - -1 = x + 1 by omega, M, M]); unfold nb at H; have L1 := ah_line (D := cmD (J (wo Q p0)) (J (wo Q p0)) (-1) 0) (Y := v4_2.toInt / 2) (Y1 := v4_2.toInt / 2 + 1) (fun x y q => (cm_r q).1.1) (by omega) rfl; have L2 := ah_line (D := cmD (J (wo Q p0)) (J (wo Q p0)) 0 (-1)) (Y := v4_2.toInt / 2) (Y1 := v4_2.toInt / 2 + 1) (fun x y q => (cm_r q).1.1) (by omega) rfl; rw [show (v4_2.toInt / 2).toNat = (v4_2.toInt.toNat / 2) by omega] at L1 L2; have b1 := cnt_le (ahD (cmD (J (wo Q p0)) (J (wo Q p0)) (-1) 0) (v4_2.toInt / 2) 0); have b2 := cnt_le (ahD (cmD (J (wo Q p0)) (J (wo Q p0)) 0 (-1)) (v4_2.toInt / 2) 0); have a57 := tq_add (k := v4_1.toInt) (q := z56.toInt) ez57 rfl rfl (by omega) (by omega); have V : cntD (roD (cmD (J (wo Q p0)) (J (wo Q p0)) 0 (-1)) (v4_2.toInt.toNat / 2)) = 0 := cnt_z.mpr (fun X Y _ _ _ _ => Bool.eq_false_iff.mpr (fun q => by unfold roD at q; rw [Bool.and_eq_true, decide_eq_true_iff] at q; have k := md_b ok.2.2 _ _ (cm_t.mp q.2).2; omega)); omega) hP hS (lv_sub hl [3, 0, 4, 2, 1] rfl)
      · have t68 := tq_nle (k := z67.toInt) (q := z61.toInt) c68 rfl rfl
        refine lv_iload_n hx hb dX3_openSides_71 rfl (lv_at hl 0 rfl) ?_
        refine lv_lload_n hx hb dX3_openSides_72 rfl (lv_at hl 2 rfl) ?_
        refine lv_aload_n hx hb dX3_openSides_73 rfl (lv_at hl 3 rfl) ?_
        refine p_get (v := .ref y15) hx hb hts inX3 hown hK hP hLp0 hKp0 rfl rfl 2 (by decide) (hts _ pq124) (congrArg (fun q => some (va_rf q)) ey15) dX3_openSides_74 ?_
        refine lv_iload_n hx hb dX3_openSides_77 rfl (lv_at hl 4 rfl) ?_
        refine lv_iconst (v := 2) hx hb dX3_openSides_78 (by decide +kernel) ?_
        refine lv_iadd hx hb dX3_openSides_79 ?_
        refine lv_topi (fun z79 ez79 => ?_)
        have bz79 := tq_add (k := v4_2.toInt) (q := (2)) ez79 rfl (by decide +kernel) (by omega) (by omega)
        refine p_lald hx hb hK hP 2 hLy15 hKy15 rfl rfl (in_of (by omega) (by omega)) dX3_openSides_80 ?_
        refine lv_topl (fun z80 ez80 => ?_)
        refine lv_land hx hb dX3_openSides_81 ?_
        refine lv_topl (fun z81 ez81 => ?_)
        refine ro_i (va_runS (As := [.long z81]) (rest := [.int z57]) ⟨hx, hb, hml, hown, hts⟩ (s_J13_bitCount l dC dI cs L K Q H.size I J z81) (va_cwS 1 hts (gS pq545 pq546 pq89 pq547) rfl rfl rfl (by decide +kernel) ⟨(by rw [hR]; exact (Nat.le_of_ble_eq_true rfl)), (by rw [hR]; exact (Nat.le_of_ble_eq_true rfl))⟩) (sP_S hP hD hK hN) rfl rfl hl.1 rfl (lv_room (Nat.le_of_ble_eq_true rfl)) dX3_openSides_82 ⟨(by rw [hR]; exact (Nat.le_of_ble_eq_true rfl)), (by rw [hR]; exact (Nat.le_of_ble_eq_true rfl))⟩) hS hP (fun z82 H locs hz82 hP hS => ?_)
        obtain ⟨bz82, xpz82⟩ := hz82
        refine lv_lload hx hb dX3_openSides_85 (lv_at hl 1 rfl) ?_
        refine lv_aload_n hx hb dX3_openSides_87 rfl (lv_at hl 3 rfl) ?_
        refine p_get (v := .ref y15) hx hb hts inX3 hown hK hP hLp0 hKp0 rfl rfl 2 (by decide) (hts _ pq124) (congrArg (fun q => some (va_rf q)) ey15) dX3_openSides_88 ?_
        refine lv_iload_n hx hb dX3_openSides_91 rfl (lv_at hl 4 rfl) ?_
        refine lv_iconst (v := 3) hx hb dX3_openSides_92 (by decide +kernel) ?_
        refine lv_iadd hx hb dX3_openSides_93 ?_
        refine lv_topi (fun z93 ez93 => ?_)
        have bz93 := tq_add (k := v4_2.toInt) (q := (3)) ez93 rfl (by decide +kernel) (by omega) (by omega)
        refine p_lald hx hb hK hP 2 hLy15 hKy15 rfl rfl (in_of (by omega) (by omega)) dX3_openSides_94 ?_
        refine lv_topl (fun z94 ez94 => ?_)
        refine lv_land hx hb dX3_openSides_95 ?_
        refine lv_topl (fun z95 ez95 => ?_)
        refine ro_i (va_runS (As := [.long z95]) (rest := [.int z82, .int z57]) ⟨hx, hb, hml, hown, hts⟩ (s_J13_bitCount l dC dI cs L K Q H.size I J z95) (va_cwS 1 hts (gS pq545 pq546 pq89 pq547) rfl rfl rfl (by decide +kernel) ⟨(by rw [hR]; exact (Nat.le_of_ble_eq_true rfl)), (by rw [hR]; exact (Nat.le_of_ble_eq_true rfl))⟩) (sP_S hP hD hK hN) rfl rfl hl.1 rfl (lv_room (Nat.le_of_ble_eq_true rfl)) dX3_openSides_96 ⟨(by rw [hR]; exact (Nat.le_of_ble_eq_true rfl)), (by rw [hR]; exact (Nat.le_of_ble_eq_true rfl))⟩) hS hP (fun z96 H locs hz96 hP hS => ?_)
        obtain ⟨bz96, xpz96⟩ := hz96
        refine lv_iadd hx hb dX3_openSides_99 ?_
        refine lv_topi (fun z99 ez99 => ?_)
        have bz99 := tq_add (k := z82.toInt) (q := z96.toInt) ez99 rfl rfl (by omega) (by omega)
        refine lv_iadd hx hb dX3_openSides_100 ?_
        refine lv_topi (fun z100 ez100 => ?_)
        refine lv_istore_n (lv' := [(1, .int z100), (5, .long z28), (3, .long z19), (0, .ref p0), (2, .int v4_2)]) hx hb dX3_openSides_101 rfl hl (by decide) rfl (fun ls hl => ?_)
        exact j102 z100 _ _ _ (fun ok => by have g := g4 ok; have o1 := ok.1; have o2 := ok.2.1; have e7 : z7.toInt = (I p0 1).toInt := congrArg Int32.toInt ez7; have hr : (v4_2.toInt.toNat / 2) < 40 := (by omega); have eR : (((v4_2.toInt.toNat / 2) : Nat) : Int) = v4_2.toInt / 2 := (by omega); have M : ∀ x, md (J (wo Q p0)) x (v4_2.toInt / 2) = dt z19 z28 x := (fun x => by have q := md_row (f := J (wo Q p0)) (r := (v4_2.toInt.toNat / 2)) (a := z19) (b := z28) hr (by rw [ez19, show y15 = wo Q p0 from (wo_of ey15).symm, show v4_2.toNatClampNeg = 2 * (v4_2.toInt.toNat / 2) from (by show v4_2.toInt.toNat = _; omega)]) (by rw [ez28, show y15 = wo Q p0 from (wo_of ey15).symm, show z27.toNatClampNeg = 2 * (v4_2.toInt.toNat / 2) + 1 from (by show z27.toInt.toNat = _; omega)]) x; rw [eR] at q; exact q); have H := ln_gen (D := cmD (J (wo Q p0)) (J (wo Q p0)) (-1) 0) (a := z42) (b := z52) hr (fun x h0 h1 => by rw [ed_h ez35 (by decide +kernel) ez40 (by decide +kernel) ez41 ez42 ez51 (by decide +kernel) ez52 h0 h1]; unfold cmD; rw [eR, Int.sub_zero, show x - -1 = x + 1 by omega, M, M]); unfold nb at H; have L1 := ah_line (D := cmD (J (wo Q p0)) (J (wo Q p0)) (-1) 0) (Y := v4_2.toInt / 2) (Y1 := v4_2.toInt / 2 + 1) (fun x y q => (cm_r q).1.1) (by omega) rfl; have L2 := ah_line (D := cmD (J (wo Q p0)) (J (wo Q p0)) 0 (-1)) (Y := v4_2.toInt / 2) (Y1 := v4_2.toInt / 2 + 1) (fun x y q => (cm_r q).1.1) (by omega) rfl; rw [show (v4_2.toInt / 2).toNat = (v4_2.toInt.toNat / 2) by omega] at L1 L2; have b1 := cnt_le (ahD (cmD (J (wo Q p0)) (J (wo Q p0)) (-1) 0) (v4_2.toInt / 2) 0); have b2 := cnt_le (ahD (cmD (J (wo Q p0)) (J (wo Q p0)) 0 (-1)) (v4_2.toInt / 2) 0); have a57 := tq_add (k := v4_1.toInt) (q := z56.toInt) ez57 rfl rfl (by omega) (by omega); have M2 : ∀ x, md (J (wo Q p0)) x (v4_2.toInt / 2 + 1) = dt z80 z94 x := (fun x => by have q := md_row (f := J (wo Q p0)) (r := (v4_2.toInt.toNat / 2) + 1) (a := z80) (b := z94) (by omega) (by rw [ez80, show y15 = wo Q p0 from (wo_of ey15).symm, show z79.toNatClampNeg = 2 * ((v4_2.toInt.toNat / 2) + 1) from (by show z79.toInt.toNat = _; omega)]) (by rw [ez94, show y15 = wo Q p0 from (wo_of ey15).symm, show z93.toNatClampNeg = 2 * ((v4_2.toInt.toNat / 2) + 1) + 1 from (by show z93.toInt.toNat = _; omega)]) x; rw [show (((v4_2.toInt.toNat / 2) + 1 : Nat) : Int) = v4_2.toInt / 2 + 1 by omega] at q; exact q); have V := ln_gen (D := cmD (J (wo Q p0)) (J (wo Q p0)) 0 (-1)) (a := z81) (b := z95) hr (fun x h0 h1 => by rw [dt_and ez81 ez95, ← M, ← M2]; unfold cmD; rw [eR, Int.sub_zero, show v4_2.toInt / 2 - -1 = v4_2.toInt / 2 + 1 by omega]); unfold nb at V; have a100 := tq_add (k := z57.toInt) (q := z99.toInt) ez100 rfl rfl (by omega) (by omega); omega) hP hS (lv_sub hl [3, 0, 4, 2, 1] rfl))
  exact key4 _ 0 0 _ _ _ rfl ⟨by decide +kernel, by decide +kernel⟩ (by decide +kernel) (fun ok => by rw [show (0 : Int32).toInt = 0 from by decide +kernel, cnt_z.mpr (fun x y _ _ _ _ => ah_lo (fun X Y q => by have := cm_r q; omega) x y), cnt_z.mpr (fun x y _ _ _ _ => ah_lo (fun X Y q => by have := cm_r q; omega) x y)]; rfl) hP hS (lv_sub hl [2, 1, 0] rfl)

set_option maxHeartbeats 4000000 in
set_option maxRecDepth 100000 in
theorem s_X3_dotsWithin (l : Launch) (dC : Nat → ClassId) (dI : Nat → Nat → Nat) (cs : Nat → ClassId) (L : List Nat) (K G : Nat → Nat) (Q : Nat → Nat → Option Nat) (hQ : Sv L K G Q) (x0 m0 : Nat) (tx : GT) (tm : GT × Int) (sz : Nat) (I : Nat → Nat → Int32) (J : Nat → Nat → Int64) (hI : Iv L K x0 m0 tx tm I) (p0 : Nat) (hLp0 : p0 ∈ L) (hKp0 : K p0 = 3) (p1 : Int32) (p2 : Int32) (p3 : Int32) (p4 : Int32) : Met l yX3_dotsWithin (.code yX3_dotsWithin cX3_dotsWithin 12 (some .int) :: pw) ({ frames := 2, cells := 0, slots := 0, locals := 48 }) (sP (dC, dI) cs [.ref p0, .int p1, .int p2, .int p3, .int p4] sz L K I J Q) (va_Qi (fun (r : Int32) (_ : Unit) => (okm (I p0 0).toInt (I p0 1).toInt (J (wo Q p0)) → ((0 ≤ p1.toInt ∧ p1.toInt ≤ 127) ∧ (0 ≤ p2.toInt ∧ p2.toInt ≤ 40) ∧ (0 ≤ p3.toInt ∧ p3.toInt ≤ 127) ∧ (0 ≤ p4.toInt ∧ p4.toInt ≤ 40)) → r.toInt = rcN (J (wo Q p0)) p1.toInt p2.toInt p3.toInt p4.toInt)) (fun _ _ => True) (fun _ => False)) 0 0 (fun _ => False) := by
  refine Met.ofW (cc := cX3_dotsWithin) (maxL := 12) (ret := (some .int)) (by decide +kernel) rfl ?_
  intro p e s m args below meth c s₁ B hml hv
  obtain ⟨rfl, hsz, hP, hK, hD0, hN⟩ := hv
  have hx := B.exec
  have hb := B.bytes
  have hr := B.returns
  have hts := fun w (h : w ∈ pw) => atoms_spec (ws := Cond.code yX3_dotsWithin cX3_dotsWithin 12 (some .int) :: pw) B.pre w (List.mem_cons_of_mem _ h)
  have hown : s.vm.findClass RX3 = some m.cls := findClass_of_methodNamed B.named
  have hlocks := B.notSynchronized
  subst hsz
  have hBB : 999 ≤ tm.2 ∧ tm.2 ≤ 6000000 := hI.2.2.2.2.1
  have hD := hD0
  obtain ⟨H, hHe⟩ : ∃ H : Heap, H = s.heap := ⟨_, rfl⟩
  have hS : va_S (fun _ => False) s.heap H [] := by rw [hHe]; exact va_S.rf
  rw [← hHe] at hP
  have hl := lv_entry ([.ref p0, .int p1, .int p2, .int p3, .int p4]) (n := 12) (Nat.le_of_ble_eq_true rfl)
  rw [lg_entry_eq]
  generalize (lg_sl ([.ref p0, .int p1, .int p2, .int p3, .int p4]) ++ List.replicate (12 - (lg_sl ([.ref p0, .int p1, .int p2, .int p3, .int p4])).length) Slot.unset).toArray = ls at hl ⊢
  have hl : lv_has ls 12 [(0, .ref p0), (1, .int p1), (2, .int p2), (3, .int p3), (4, .int p4)] := hl
  rw [← hHe]
  refine namedW (fun R Qz hR hQz => ?_)
  refine lv_iload_n hx hb dX3_dotsWithin_0 rfl (lv_at hl 3 rfl) ?_
  refine ro_l (va_runS (As := [.int p3]) (rest := []) ⟨hx, hb, hml, hown, hts⟩ (s_X3_lowOnes l dC dI cs L K G Q hQ x0 m0 tx tm H.size I J hI p3) (va_cwS 1 hts (gS pq685 pq503 pq76 pq504) rfl rfl rfl (by decide +kernel) ⟨(by rw [hR]; exact (Nat.le_of_ble_eq_true rfl)), (by rw [hR]; exact (Nat.le_of_ble_eq_true rfl))⟩) (sP_S hP hD hK hN) rfl rfl hl.1 rfl (lv_room (Nat.le_of_ble_eq_true rfl)) dX3_dotsWithin_1 ⟨(by rw [hR]; exact (Nat.le_of_ble_eq_true rfl)), (by rw [hR]; exact (Nat.le_of_ble_eq_true rfl))⟩) hS hP (fun z1 H locs hz1 hP hS => ?_)
  have xpz1 := hz1
  refine lv_iload_n hx hb dX3_dotsWithin_4 rfl (lv_at hl 3 rfl) ?_
  refine ro_l (va_runS (As := [.int p3]) (rest := [.long z1]) ⟨hx, hb, hml, hown, hts⟩ (s_X3_highOnes l dC dI cs L K G Q hQ x0 m0 tx tm H.size I J hI p3) (va_cwS 1 hts (gS pq686 pq507 pq76 pq508) rfl rfl rfl (by decide +kernel) ⟨(by rw [hR]; exact (Nat.le_of_ble_eq_true rfl)), (by rw [hR]; exact (Nat.le_of_ble_eq_true rfl))⟩) (sP_S hP hD hK hN) rfl rfl hl.1 rfl (lv_room (Nat.le_of_ble_eq_true rfl)) dX3_dotsWithin_5 ⟨(by rw [hR]; exact (Nat.le_of_ble_eq_true rfl)), (by rw [hR]; exact (Nat.le_of_ble_eq_true rfl))⟩) hS hP (fun z5 H locs hz5 hP hS => ?_)
  have xpz5 := hz5
  refine lv_iload_n hx hb dX3_dotsWithin_8 rfl (lv_at hl 1 rfl) ?_
  refine ro_l (va_runS (As := [.long z1, .long z5, .int p1]) (rest := []) ⟨hx, hb, hml, hown, hts⟩ (s_X3_shiftedLow l dC dI cs L K G Q hQ x0 m0 tx tm H.size I J hI z1 z5 p1) (va_cwS 3 hts (gS pq622 pq623 pq76 pq624) rfl rfl rfl (by decide +kernel) ⟨(by rw [hR]; exact (Nat.le_of_ble_eq_true rfl)), (by rw [hR]; exact (Nat.le_of_ble_eq_true rfl))⟩) (sP_S hP hD hK hN) rfl rfl hl.1 rfl (lv_room (Nat.le_of_ble_eq_true rfl)) dX3_dotsWithin_9 ⟨(by rw [hR]; exact (Nat.le_of_ble_eq_true rfl)), (by rw [hR]; exact (Nat.le_of_ble_eq_true rfl))⟩) hS hP (fun z9 H locs hz9 hP hS => ?_)
  have xpz9 := hz9
  refine lv_lstore (lv' := [(5, .long z9), (0, .ref p0), (1, .int p1), (2, .int p2), (3, .int p3), (4, .int p4)]) hx hb dX3_dotsWithin_12 hl (by decide) rfl (fun ls hl => ?_)
  refine lv_iload_n hx hb dX3_dotsWithin_14 rfl (lv_at hl 4 rfl) ?_
  refine ro_l (va_runS (As := [.int p3]) (rest := []) ⟨hx, hb, hml, hown, hts⟩ (s_X3_lowOnes l dC dI cs L K G Q hQ x0 m0 tx tm H.size I J hI p3) (va_cwS 1 hts (gS pq685 pq503 pq76 pq504) rfl rfl rfl (by decide +kernel) ⟨(by rw [hR]; exact (Nat.le_of_ble_eq_true rfl)), (by rw [hR]; exact (Nat.le_of_ble_eq_true rfl))⟩) (sP_S hP hD hK hN) rfl rfl hl.1 rfl (lv_room (Nat.le_of_ble_eq_true rfl)) dX3_dotsWithin_15 ⟨(by rw [hR]; exact (Nat.le_of_ble_eq_true rfl)), (by rw [hR]; exact (Nat.le_of_ble_eq_true rfl))⟩) hS hP (fun z15 H locs hz15 hP hS => ?_)
  have xpz15 := hz15
  refine lv_iload_n hx hb dX3_dotsWithin_18 rfl (lv_at hl 4 rfl) ?_
  refine ro_l (va_runS (As := [.int p3]) (rest := [.long z15]) ⟨hx, hb, hml, hown, hts⟩ (s_X3_highOnes l dC dI cs L K G Q hQ x0 m0 tx tm H.size I J hI p3) (va_cwS 1 hts (gS pq686 pq507 pq76 pq508) rfl rfl rfl (by decide +kernel) ⟨(by rw [hR]; exact (Nat.le_of_ble_eq_true rfl)), (by rw [hR]; exact (Nat.le_of_ble_eq_true rfl))⟩) (sP_S hP hD hK hN) rfl rfl hl.1 rfl (lv_room (Nat.le_of_ble_eq_true rfl)) dX3_dotsWithin_19 ⟨(by rw [hR]; exact (Nat.le_of_ble_eq_true rfl)), (by rw [hR]; exact (Nat.le_of_ble_eq_true rfl))⟩) hS hP (fun z19 H locs hz19 hP hS => ?_)
  have xpz19 := hz19
  refine lv_iload_n hx hb dX3_dotsWithin_22 rfl (lv_at hl 2 rfl) ?_
  refine ro_l (va_runS (As := [.long z15, .long z19, .int p1]) (rest := []) ⟨hx, hb, hml, hown, hts⟩ (s_X3_shiftedHigh l dC dI cs L K G Q hQ x0 m0 tx tm H.size I J hI z15 z19 p1) (va_cwS 3 hts (gS pq625 pq626 pq76 pq627) rfl rfl rfl (by decide +kernel) ⟨(by rw [hR]; exact (Nat.le_of_ble_eq_true rfl)), (by rw [hR]; exact (Nat.le_of_ble_eq_true rfl))⟩) (sP_S hP hD hK hN) rfl rfl hl.1 rfl (lv_room (Nat.le_of_ble_eq_true rfl)) dX3_dotsWithin_23 ⟨(by rw [hR]; exact (Nat.le_of_ble_eq_true rfl)), (by rw [hR]; exact (Nat.le_of_ble_eq_true rfl))⟩) hS hP (fun z23 H locs hz23 hP hS => ?_)
  have xpz23 := hz23
  refine lv_lstore (lv' := [(7, .long z23), (5, .long z9), (0, .ref p0), (1, .int p1), (2, .int p2), (3, .int p3), (4, .int p4)]) hx hb dX3_dotsWithin_26 hl (by decide) rfl (fun ls hl => ?_)
  refine lv_iconst (v := 0) hx hb dX3_dotsWithin_28 (by decide +kernel) ?_
  refine lv_istore (lv' := [(9, .int 0), (7, .long z23), (5, .long z9), (0, .ref p0), (1, .int p1), (2, .int p2), (3, .int p3), (4, .int p4)]) hx hb dX3_dotsWithin_29 hl (by decide) rfl (fun ls hl => ?_)
  refine lv_iload_n hx hb dX3_dotsWithin_31 rfl (lv_at hl 5 rfl) ?_
  refine lv_iload hx hb dX3_dotsWithin_32 (lv_at hl 7 rfl) ?_
  refine lv_iadd hx hb dX3_dotsWithin_34 ?_
  refine lv_topi (fun z34 ez34 => ?_)
  refine lv_aload_n hx hb dX3_dotsWithin_35 rfl (lv_at hl 3 rfl) ?_
  refine p_get hx hb hts inX3 hown hK hP hLp0 hKp0 rfl rfl 1 (by decide) (hts _ pq120) rfl dX3_dotsWithin_36 ?_
  refine lv_topi (fun z36 ez36 => ?_)
  have bz36 := oI_3_1 (Iv_at hI hLp0 hKp0)
  rw [← ez36] at bz36
  refine va_mmin hx hb (hml.trans hl.1.symm) hown (hts _ pq776) (hts _ pq407) (hts _ pq82) (hts _ pq408) (by rw [hR]; exact (Nat.le_of_ble_eq_true rfl)) (by rw [hR]; exact (Nat.le_of_ble_eq_true rfl)) (by rw [hR]; exact (Nat.le_of_ble_eq_true rfl)) (by rw [hR]; exact (Nat.le_of_ble_eq_true rfl)) dX3_dotsWithin_39 ?_
  refine lv_topi (fun z39 ez39 => ?_)
  have bz39 := tq_min ez39
  refine lv_istore (lv' := [(10, .int z39), (9, .int 0), (7, .long z23), (5, .long z9), (0, .ref p0), (1, .int p1), (2, .int p2), (3, .int p3), (4, .int p4)]) hx hb dX3_dotsWithin_42 hl (by decide) rfl (fun ls hl => ?_)
  refine lv_iload_n hx hb dX3_dotsWithin_44 rfl (lv_at hl 6 rfl) ?_
  refine lv_iconst (v := 0) hx hb dX3_dotsWithin_45 (by decide +kernel) ?_
  refine va_mmax hx hb (hml.trans hl.1.symm) hown (hts _ pq777) (hts _ pq750) (hts _ pq82) (hts _ pq751) (by rw [hR]; exact (Nat.le_of_ble_eq_true rfl)) (by rw [hR]; exact (Nat.le_of_ble_eq_true rfl)) (by rw [hR]; exact (Nat.le_of_ble_eq_true rfl)) (by rw [hR]; exact (Nat.le_of_ble_eq_true rfl)) dX3_dotsWithin_46 ?_
  refine lv_topi (fun z46 ez46 => ?_)
  have bz46 := tq_max ez46
  have bz46y : (0 : Int32).toInt = 0 := by decide +kernel
  refine lv_istore (lv' := [(11, .int z46), (10, .int z39), (9, .int 0), (7, .long z23), (5, .long z9), (0, .ref p0), (1, .int p1), (2, .int p2), (3, .int p3), (4, .int p4)]) hx hb dX3_dotsWithin_49 hl (by decide) rfl (fun ls hl => ?_)
  have key51 := blocks (fun n => ∀ (v51_11 : Int32) (v51_9 : Int32) (H : Heap) (lo : List Loc) (ls : Array Slot), (2147483648 - v51_11.toInt).toNat = n → ((0) ≤ v51_11.toInt ∧ v51_11.toInt ≤ 2147483647) → (okm (I p0 0).toInt (I p0 1).toInt (J (wo Q p0)) → ((0 ≤ p1.toInt ∧ p1.toInt ≤ 127) ∧ (0 ≤ p2.toInt ∧ p2.toInt ≤ 40) ∧ (0 ≤ p3.toInt ∧ p3.toInt ≤ 127) ∧ (0 ≤ p4.toInt ∧ p4.toInt ≤ 40)) → v51_9.toInt = (totr (mkw (rcD (J (wo Q p0)) p1.toInt p2.toInt p3.toInt p4.toInt)) v51_11.toInt.toNat : Int) ∧ p2.toInt ≤ v51_11.toInt ∧ v51_11.toInt ≤ 40 ∧ (v51_11.toInt ≤ z39.toInt ∨ v51_11.toInt = p2.toInt)) → va_P (dC, dI) vwCl (Wd cs L K I J Q) H → va_S (fun _ => False) s.heap H lo → lv_has ls 12 [(0, .ref p0), (1, .int p1), (2, .int p2), (3, .int p3), (4, .int p4), (5, .long z9), (7, .long z23), (9, .int v51_9), (10, .int z39), (11, .int v51_11)] → W p l e R s m (([.ref p0, .int p1, .int p2, .int p3, .int p4] : List Value).toArray) below meth c H lo 0 0 Qz (F0 m 51 ls [])) (by
    intro n ih51
    intro v51_11 v51_9 H lo ls hmu51 bv51_11 g51 hP hS hl
    refine lv_iload hx hb dX3_dotsWithin_51 (lv_at hl 9 rfl) ?_
    refine lv_iload hx hb dX3_dotsWithin_53 (lv_at hl 8 rfl) ?_
    refine lv_icmp_ge (tgt := 102) hx hb dX3_dotsWithin_55 (by decide) (fun c55 => ?_) (fun c55 => ?_)
    · have t55 := tq_le (k := z39.toInt) (q := v51_11.toInt) c55 rfl rfl
      refine lv_iload hx hb dX3_dotsWithin_102 (lv_at hl 7 rfl) ?_
      subst hR; subst hQz
      exact W.iret (v := v51_9) hx hb hr (fun t ht hW => ⟨⟨v51_9, (), rfl, (fun ok b => by obtain ⟨g, l1, l2, l3⟩ := g51 ok b; have q34 := tq_add (k := p2.toInt) (q := p4.toInt) ez34 rfl rfl (by omega) (by omega); rw [g, tr_hi (r := v51_11.toInt.toNat) (by omega) (fun x y q => by have k := rc_t.mp q; have m := md_b ok.2.2 x y k.2; have e36 := congrArg Int32.toInt ez36; omega)]; rfl), trivial⟩, hS.F ht⟩) hS.2.2 dX3_dotsWithin_104
    · have t55 := tq_nle (k := z39.toInt) (q := v51_11.toInt) c55 rfl rfl
      refine lv_iload hx hb dX3_dotsWithin_58 (lv_at hl 7 rfl) ?_
      refine lv_aload_n hx hb dX3_dotsWithin_60 rfl (lv_at hl 0 rfl) ?_
      obtain ⟨y61, ey61, hLy61, hKy61, hGy61⟩ := oQ_3_2 (Sv_at hQ hLp0 hKp0)
      refine p_get (v := .ref y61) hx hb hts inX3 hown hK hP hLp0 hKp0 rfl rfl 2 (by decide) (hts _ pq124) (congrArg (fun q => some (va_rf q)) ey61) dX3_dotsWithin_61 ?_
      refine lv_iconst (v := 2) hx hb dX3_dotsWithin_64 (by decide +kernel) ?_
      refine lv_iload hx hb dX3_dotsWithin_65 (lv_at hl 9 rfl) ?_
      refine lv_imul hx hb dX3_dotsWithin_67 ?_
      refine lv_topi (fun z67 ez67 => ?_)
      have bz67 := tq_mul (k := (2)) (q := v51_11.toInt) ez67 (by decide +kernel) rfl (by omega) (by omega)
      refine p_lald hx hb hK hP 2 hLy61 hKy61 rfl rfl (in_of (by omega) (by omega)) dX3_dotsWithin_68 ?_
      refine lv_topl (fun z68 ez68 => ?_)
      refine lv_lload hx hb dX3_dotsWithin_69 (lv_at hl 5 rfl) ?_
      refine lv_land hx hb dX3_dotsWithin_71 ?_
      refine lv_topl (fun z71 ez71 => ?_)
      refine ro_i (va_runS (As := [.long z71]) (rest := [.int v51_9]) ⟨hx, hb, hml, hown, hts⟩ (s_J13_bitCount l dC dI cs L K Q H.size I J z71) (va_cwS 1 hts (gS pq545 pq546 pq89 pq547) rfl rfl rfl (by decide +kernel) ⟨(by rw [hR]; exact (Nat.le_of_ble_eq_true rfl)), (by rw [hR]; exact (Nat.le_of_ble_eq_true rfl))⟩) (sP_S hP hD hK hN) rfl rfl hl.1 rfl (lv_room (Nat.le_of_ble_eq_true rfl)) dX3_dotsWithin_72 ⟨(by rw [hR]; exact (Nat.le_of_ble_eq_true rfl)), (by rw [hR]; exact (Nat.le_of_ble_eq_true rfl))⟩) hS hP (fun z72 H locs hz72 hP hS => ?_)
      obtain ⟨bz72, xpz72⟩ := hz72
      refine lv_aload_n hx hb dX3_dotsWithin_75 rfl (lv_at hl 0 rfl) ?_
      refine p_get (v := .ref y61) hx hb hts inX3 hown hK hP hLp0 hKp0 rfl rfl 2 (by decide) (hts _ pq124) (congrArg (fun q => some (va_rf q)) ey61) dX3_dotsWithin_76 ?_
      refine lv_iconst (v := 2) hx hb dX3_dotsWithin_79 (by decide +kernel) ?_
      refine lv_iload hx hb dX3_dotsWithin_80 (lv_at hl 9 rfl) ?_
      refine lv_imul hx hb dX3_dotsWithin_82 ?_
      refine lv_topi (fun z82 ez82 => ?_)
      have bz82 := tq_mul (k := (2)) (q := v51_11.toInt) ez82 (by decide +kernel) rfl (by omega) (by omega)
      refine lv_iconst (v := 1) hx hb dX3_dotsWithin_83 (by decide +kernel) ?_
      refine lv_iadd hx hb dX3_dotsWithin_84 ?_
      refine lv_topi (fun z84 ez84 => ?_)
      have bz84 := tq_add (k := z82.toInt) (q := (1)) ez84 rfl (by decide +kernel) (by omega) (by omega)
      refine p_lald hx hb hK hP 2 hLy61 hKy61 rfl rfl (in_of (by omega) (by omega)) dX3_dotsWithin_85 ?_
      refine lv_topl (fun z85 ez85 => ?_)
      refine lv_lload hx hb dX3_dotsWithin_86 (lv_at hl 6 rfl) ?_
      refine lv_land hx hb dX3_dotsWithin_88 ?_
      refine lv_topl (fun z88 ez88 => ?_)
      refine ro_i (va_runS (As := [.long z88]) (rest := [.int z72, .int v51_9]) ⟨hx, hb, hml, hown, hts⟩ (s_J13_bitCount l dC dI cs L K Q H.size I J z88) (va_cwS 1 hts (gS pq545 pq546 pq89 pq547) rfl rfl rfl (by decide +kernel) ⟨(by rw [hR]; exact (Nat.le_of_ble_eq_true rfl)), (by rw [hR]; exact (Nat.le_of_ble_eq_true rfl))⟩) (sP_S hP hD hK hN) rfl rfl hl.1 rfl (lv_room (Nat.le_of_ble_eq_true rfl)) dX3_dotsWithin_89 ⟨(by rw [hR]; exact (Nat.le_of_ble_eq_true rfl)), (by rw [hR]; exact (Nat.le_of_ble_eq_true rfl))⟩) hS hP (fun z89 H locs hz89 hP hS => ?_)
      obtain ⟨bz89, xpz89⟩ := hz89
      refine lv_iadd hx hb dX3_dotsWithin_92 ?_
      refine lv_topi (fun z92 ez92 => ?_)
      have bz92 := tq_add (k := z72.toInt) (q := z89.toInt) ez92 rfl rfl (by omega) (by omega)
      refine lv_iadd hx hb dX3_dotsWithin_93 ?_
      refine lv_topi (fun z93 ez93 => ?_)
      refine lv_istore (lv' := [(9, .int z93), (0, .ref p0), (1, .int p1), (2, .int p2), (3, .int p3), (4, .int p4), (5, .long z9), (7, .long z23), (10, .int z39), (11, .int v51_11)]) hx hb dX3_dotsWithin_94 hl (by decide) rfl (fun ls hl => ?_)
      obtain ⟨z96, ez96⟩ : ∃ y : Int32, y = v51_11 + 1 := ⟨_, rfl⟩
      refine lv_iinc (v := z96) (lv' := [(11, .int z96), (9, .int z93), (0, .ref p0), (1, .int p1), (2, .int p2), (3, .int p3), (4, .int p4), (5, .long z9), (7, .long z23), (10, .int z39)]) hx hb dX3_dotsWithin_96 hl (k := 9) rfl (by rw [ez96]; rfl) (by decide) rfl (fun ls hl => ?_)
      have bz96 := tq_add (k := v51_11.toInt) (q := 1) ez96 rfl (by decide +kernel) (by omega) (by omega)
      refine lv_goto (tgt := 51) hx hb dX3_dotsWithin_99 (by decide) ?_
      exact ih51 _ (by omega) z96 z93 _ _ _ rfl ⟨by omega, by have := fb_rng z96; omega⟩ (fun ok b => by obtain ⟨g, l1, l2, l3⟩ := g51 ok b; have q34 := tq_add (k := p2.toInt) (q := p4.toInt) ez34 rfl rfl (by omega) (by omega); have hr : v51_11.toInt.toNat < 40 := (by omega); have e15 : z15 = z1 := b64_ext (fun i hi => (xpz15 (by omega) i hi).trans (xpz1 (by omega) i hi).symm); have e19 : z19 = z5 := b64_ext (fun i hi => (xpz19 (by omega) i hi).trans (xpz5 (by omega) i hi).symm); have w23 := xpz23; rw [e15, e19] at w23; have T := tr_row (D := rcD (J (wo Q p0)) p1.toInt p2.toInt p3.toInt p4.toInt) (a := z71) (b := z88) (r := v51_11.toInt.toNat) (r1 := z96.toInt.toNat) hr (by omega) (fun t h0 h1 => rc_row (a := z68) (b := z85) v51_11.toInt.toNat ez71 ez88 hr (by rw [ez68, show y61 = wo Q p0 from (wo_of ey61).symm, show z67.toNatClampNeg = 2 * v51_11.toInt.toNat from (by show z67.toInt.toNat = _; omega)]) (by rw [ez85, show y61 = wo Q p0 from (wo_of ey61).symm, show z84.toNatClampNeg = 2 * v51_11.toInt.toNat + 1 from (by show z84.toInt.toNat = _; omega)]) (xpz1 (by omega)) (xpz5 (by omega)) xpz9 w23 (by omega) ⟨by omega, by omega⟩ h0 h1); have tl := totr_le (mkw (rcD (J (wo Q p0)) p1.toInt p2.toInt p3.toInt p4.toInt)) v51_11.toInt.toNat; have a93 := tq_add (k := v51_9.toInt) (q := z92.toInt) ez93 rfl rfl (by omega) (by omega); unfold nb at T; exact ⟨by rw [T]; omega, by omega, by omega, Or.inl (by omega)⟩) hP hS (lv_sub hl [2, 3, 4, 5, 6, 7, 8, 1, 9, 0] rfl))
  exact key51 _ z46 0 _ _ _ rfl ⟨by omega, by have := fb_rng z46; omega⟩ (fun ok b => by have q34 := tq_add (k := p2.toInt) (q := p4.toInt) ez34 rfl rfl (by omega) (by omega); exact ⟨by rw [tr_lo (r := z46.toInt.toNat) (by omega) (fun x y q => by have := (rc_t.mp q).1; omega)]; show (0 : Int32).toInt = 0; decide +kernel, by omega, by omega, Or.inr (by omega)⟩) hP hS (lv_sub hl [5, 6, 7, 8, 9, 4, 3, 2, 1, 0] rfl)

set_option maxHeartbeats 4000000 in
set_option maxRecDepth 100000 in
theorem s_X3_dotsOfRow (l : Launch) (dC : Nat → ClassId) (dI : Nat → Nat → Nat) (cs : Nat → ClassId) (L : List Nat) (K G : Nat → Nat) (Q : Nat → Nat → Option Nat) (hQ : Sv L K G Q) (x0 m0 : Nat) (tx : GT) (tm : GT × Int) (sz : Nat) (I : Nat → Nat → Int32) (J : Nat → Nat → Int64) (hI : Iv L K x0 m0 tx tm I) (p0 : Nat) (hLp0 : p0 ∈ L) (hKp0 : K p0 = 3) (p1 : Int32) : Met l yX3_dotsOfRow (.code yX3_dotsOfRow cX3_dotsOfRow 2 (some .int) :: pw) ({ frames := 1, cells := 0, slots := 0, locals := 21 }) (sP (dC, dI) cs [.ref p0, .int p1] sz L K I J Q) (va_Qi (fun (r : Int32) (_ : Unit) => ((0) ≤ r.toInt ∧ r.toInt ≤ 128) ∧ (okm (I p0 0).toInt (I p0 1).toInt (J (wo Q p0)) → 0 ≤ p1.toInt → p1.toInt < (I p0 1).toInt → r.toInt = (cntD (roD (md (J (wo Q p0))) p1.toInt.toNat) : Int))) (fun _ _ => True) (fun _ => False)) 0 0 (fun _ => False) := by
  refine Met.ofW (cc := cX3_dotsOfRow) (maxL := 2) (ret := (some .int)) (by decide +kernel) rfl ?_
  intro p e s m args below meth c s₁ B hml hv
  obtain ⟨rfl, hsz, hP, hK, hD0, hN⟩ := hv
  have hx := B.exec
  have hb := B.bytes
  have hr := B.returns
  have hts := fun w (h : w ∈ pw) => atoms_spec (ws := Cond.code yX3_dotsOfRow cX3_dotsOfRow 2 (some .int) :: pw) B.pre w (List.mem_cons_of_mem _ h)
  have hown : s.vm.findClass RX3 = some m.cls := findClass_of_methodNamed B.named
  have hlocks := B.notSynchronized
  subst hsz
  have hBB : 999 ≤ tm.2 ∧ tm.2 ≤ 6000000 := hI.2.2.2.2.1
  have hD := hD0
  obtain ⟨H, hHe⟩ : ∃ H : Heap, H = s.heap := ⟨_, rfl⟩
  have hS : va_S (fun _ => False) s.heap H [] := by rw [hHe]; exact va_S.rf
  rw [← hHe] at hP
  have hl := lv_entry ([.ref p0, .int p1]) (n := 2) (Nat.le_of_ble_eq_true rfl)
  rw [lg_entry_eq]
  generalize (lg_sl ([.ref p0, .int p1]) ++ List.replicate (2 - (lg_sl ([.ref p0, .int p1])).length) Slot.unset).toArray = ls at hl ⊢
  have hl : lv_has ls 2 [(0, .ref p0), (1, .int p1)] := hl
  rw [← hHe]
  refine namedW (fun R Qz hR hQz => ?_)
  refine lv_iload_n hx hb dX3_dotsOfRow_0 rfl (lv_at hl 1 rfl) ?_
  refine lv_if_lt (tgt := 12) hx hb dX3_dotsOfRow_1 (by decide) (fun c1 => ?_) (fun c1 => ?_)
  · have t1 := tq_lt (k := p1.toInt) (q := (0)) c1 rfl (by decide +kernel)
    refine lv_iconst (v := 0) hx hb dX3_dotsOfRow_12 (by decide +kernel) ?_
    subst hR; subst hQz
    exact W.iret (v := 0) hx hb hr (fun t ht hW => ⟨⟨0, (), rfl, ⟨⟨by decide +kernel, by decide +kernel⟩, (fun ok a b => by exfalso; first | omega | (have e6 : z6.toInt = (I p0 1).toInt := congrArg Int32.toInt ez6; omega))⟩, trivial⟩, hS.F ht⟩) hS.2.2 dX3_dotsOfRow_13
  · have t1 := tq_nlt (k := p1.toInt) (q := (0)) c1 rfl (by decide +kernel)
    refine lv_iload_n hx hb dX3_dotsOfRow_4 rfl (lv_at hl 1 rfl) ?_
    refine lv_aload_n hx hb dX3_dotsOfRow_5 rfl (lv_at hl 0 rfl) ?_
    refine p_get hx hb hts inX3 hown hK hP hLp0 hKp0 rfl rfl 1 (by decide) (hts _ pq120) rfl dX3_dotsOfRow_6 ?_
    refine lv_topi (fun z6 ez6 => ?_)
    have bz6 := oI_3_1 (Iv_at hI hLp0 hKp0)
    rw [← ez6] at bz6
    refine lv_icmp_lt (tgt := 14) hx hb dX3_dotsOfRow_9 (by decide) (fun c9 => ?_) (fun c9 => ?_)
    · have t9 := tq_lt (k := p1.toInt) (q := z6.toInt) c9 rfl rfl
      refine lv_aload_n hx hb dX3_dotsOfRow_14 rfl (lv_at hl 0 rfl) ?_
      obtain ⟨y15, ey15, hLy15, hKy15, hGy15⟩ := oQ_3_2 (Sv_at hQ hLp0 hKp0)
      refine p_get (v := .ref y15) hx hb hts inX3 hown hK hP hLp0 hKp0 rfl rfl 2 (by decide) (hts _ pq124) (congrArg (fun q => some (va_rf q)) ey15) dX3_dotsOfRow_15 ?_
      refine lv_iconst (v := 2) hx hb dX3_dotsOfRow_18 (by decide +kernel) ?_
      refine lv_iload_n hx hb dX3_dotsOfRow_19 rfl (lv_at hl 1 rfl) ?_
      refine lv_imul hx hb dX3_dotsOfRow_20 ?_
      refine lv_topi (fun z20 ez20 => ?_)
      have bz20 := tq_mul (k := (2)) (q := p1.toInt) ez20 (by decide +kernel) rfl (by omega) (by omega)
      refine p_lald hx hb hK hP 2 hLy15 hKy15 rfl rfl (in_of (by omega) (by omega)) dX3_dotsOfRow_21 ?_
      refine lv_topl (fun z21 ez21 => ?_)
      refine ro_i (va_runS (As := [.long z21]) (rest := []) ⟨hx, hb, hml, hown, hts⟩ (s_J13_bitCount l dC dI cs L K Q H.size I J z21) (va_cwS 1 hts (gS pq545 pq546 pq89 pq547) rfl rfl rfl (by decide +kernel) ⟨(by rw [hR]; exact (Nat.le_of_ble_eq_true rfl)), (by rw [hR]; exact (Nat.le_of_ble_eq_true rfl))⟩) (sP_S hP hD hK hN) rfl rfl hl.1 rfl (lv_room (Nat.le_of_ble_eq_true rfl)) dX3_dotsOfRow_22 ⟨(by rw [hR]; exact (Nat.le_of_ble_eq_true rfl)), (by rw [hR]; exact (Nat.le_of_ble_eq_true rfl))⟩) hS hP (fun z22 H locs hz22 hP hS => ?_)
      obtain ⟨bz22, xpz22⟩ := hz22
      refine lv_aload_n hx hb dX3_dotsOfRow_25 rfl (lv_at hl 0 rfl) ?_
      refine p_get (v := .ref y15) hx hb hts inX3 hown hK hP hLp0 hKp0 rfl rfl 2 (by decide) (hts _ pq124) (congrArg (fun q => some (va_rf q)) ey15) dX3_dotsOfRow_26 ?_
      refine lv_iconst (v := 2) hx hb dX3_dotsOfRow_29 (by decide +kernel) ?_
      refine lv_iload_n hx hb dX3_dotsOfRow_30 rfl (lv_at hl 1 rfl) ?_
      refine lv_imul hx hb dX3_dotsOfRow_31 ?_
      refine lv_topi (fun z31 ez31 => ?_)
      have bz31 := tq_mul (k := (2)) (q := p1.toInt) ez31 (by decide +kernel) rfl (by omega) (by omega)
      refine lv_iconst (v := 1) hx hb dX3_dotsOfRow_32 (by decide +kernel) ?_
      refine lv_iadd hx hb dX3_dotsOfRow_33 ?_
      refine lv_topi (fun z33 ez33 => ?_)
      have bz33 := tq_add (k := z31.toInt) (q := (1)) ez33 rfl (by decide +kernel) (by omega) (by omega)
      refine p_lald hx hb hK hP 2 hLy15 hKy15 rfl rfl (in_of (by omega) (by omega)) dX3_dotsOfRow_34 ?_
      refine lv_topl (fun z34 ez34 => ?_)
      refine ro_i (va_runS (As := [.long z34]) (rest := [.int z22]) ⟨hx, hb, hml, hown, hts⟩ (s_J13_bitCount l dC dI cs L K Q H.size I J z34) (va_cwS 1 hts (gS pq545 pq546 pq89 pq547) rfl rfl rfl (by decide +kernel) ⟨(by rw [hR]; exact (Nat.le_of_ble_eq_true rfl)), (by rw [hR]; exact (Nat.le_of_ble_eq_true rfl))⟩) (sP_S hP hD hK hN) rfl rfl hl.1 rfl (lv_room (Nat.le_of_ble_eq_true rfl)) dX3_dotsOfRow_35 ⟨(by rw [hR]; exact (Nat.le_of_ble_eq_true rfl)), (by rw [hR]; exact (Nat.le_of_ble_eq_true rfl))⟩) hS hP (fun z35 H locs hz35 hP hS => ?_)
      obtain ⟨bz35, xpz35⟩ := hz35
      refine lv_iadd hx hb dX3_dotsOfRow_38 ?_
      refine lv_topi (fun z38 ez38 => ?_)
      have bz38 := tq_add (k := z22.toInt) (q := z35.toInt) ez38 rfl rfl (by omega) (by omega)
      subst hR; subst hQz
      exact W.iret (v := z38) hx hb hr (fun t ht hW => ⟨⟨z38, (), rfl, ⟨⟨by omega, by omega⟩, (fun ok a b => by have hr : p1.toInt.toNat < 40 := (by have := ok.2.1; omega); have w := ln_row (f := J (wo Q p0)) (a := z21) (b := z34) (r := p1.toInt.toNat) hr (by rw [ez21, show y15 = wo Q p0 from (wo_of ey15).symm, show z20.toNatClampNeg = 2 * p1.toInt.toNat from (by show z20.toInt.toNat = _; omega)]) (by rw [ez34, show y15 = wo Q p0 from (wo_of ey15).symm, show z33.toNatClampNeg = 2 * p1.toInt.toNat + 1 from (by show z33.toInt.toNat = _; omega)]); unfold nb at w; omega)⟩, trivial⟩, hS.F ht⟩) hS.2.2 dX3_dotsOfRow_39
    · have t9 := tq_nlt (k := p1.toInt) (q := z6.toInt) c9 rfl rfl
      refine lv_iconst (v := 0) hx hb dX3_dotsOfRow_12 (by decide +kernel) ?_
      subst hR; subst hQz
      exact W.iret (v := 0) hx hb hr (fun t ht hW => ⟨⟨0, (), rfl, ⟨⟨by decide +kernel, by decide +kernel⟩, (fun ok a b => by exfalso; first | omega | (have e6 : z6.toInt = (I p0 1).toInt := congrArg Int32.toInt ez6; omega))⟩, trivial⟩, hS.F ht⟩) hS.2.2 dX3_dotsOfRow_13

set_option maxHeartbeats 4000000 in
set_option maxRecDepth 100000 in
theorem s_X3_sumOfX (l : Launch) (dC : Nat → ClassId) (dI : Nat → Nat → Nat) (cs : Nat → ClassId) (L : List Nat) (K G : Nat → Nat) (Q : Nat → Nat → Option Nat) (hQ : Sv L K G Q) (x0 m0 : Nat) (tx : GT) (tm : GT × Int) (sz : Nat) (I : Nat → Nat → Int32) (J : Nat → Nat → Int64) (hI : Iv L K x0 m0 tx tm I) (p0 : Nat) (hLp0 : p0 ∈ L) (hKp0 : K p0 = 3) : Met l yX3_sumOfX (.code yX3_sumOfX cX3_sumOfX 3 (some .int) :: pw) ({ frames := 3, cells := 0, slots := 0, locals := 79 }) (sP (dC, dI) cs [.ref p0] sz L K I J Q) (va_Qi (fun (r : Int32) (_ : Unit) => (okm (I p0 0).toInt (I p0 1).toInt (J (wo Q p0)) → r.toInt = wZ 0 (md (J (wo Q p0))))) (fun _ _ => True) (fun _ => False)) 0 0 (fun _ => False) := by
  refine Met.ofW (cc := cX3_sumOfX) (maxL := 3) (ret := (some .int)) (by decide +kernel) rfl ?_
  intro p e s m args below meth c s₁ B hml hv
  obtain ⟨rfl, hsz, hP, hK, hD0, hN⟩ := hv
  have hx := B.exec
  have hb := B.bytes
  have hr := B.returns
  have hts := fun w (h : w ∈ pw) => atoms_spec (ws := Cond.code yX3_sumOfX cX3_sumOfX 3 (some .int) :: pw) B.pre w (List.mem_cons_of_mem _ h)
  have hown : s.vm.findClass RX3 = some m.cls := findClass_of_methodNamed B.named
  have hlocks := B.notSynchronized
  subst hsz
  have hBB : 999 ≤ tm.2 ∧ tm.2 ≤ 6000000 := hI.2.2.2.2.1
  have hD := hD0
  obtain ⟨H, hHe⟩ : ∃ H : Heap, H = s.heap := ⟨_, rfl⟩
  have hS : va_S (fun _ => False) s.heap H [] := by rw [hHe]; exact va_S.rf
  rw [← hHe] at hP
  have hl := lv_entry ([.ref p0]) (n := 3) (Nat.le_of_ble_eq_true rfl)
  rw [lg_entry_eq]
  generalize (lg_sl ([.ref p0]) ++ List.replicate (3 - (lg_sl ([.ref p0])).length) Slot.unset).toArray = ls at hl ⊢
  have hl : lv_has ls 3 [(0, .ref p0)] := hl
  rw [← hHe]
  refine namedW (fun R Qz hR hQz => ?_)
  refine lv_iconst (v := 0) hx hb dX3_sumOfX_0 (by decide +kernel) ?_
  refine lv_istore_n (lv' := [(1, .int 0), (0, .ref p0)]) hx hb dX3_sumOfX_1 rfl hl (by decide) rfl (fun ls hl => ?_)
  refine lv_iconst (v := 1) hx hb dX3_sumOfX_2 (by decide +kernel) ?_
  refine lv_istore_n (lv' := [(2, .int 1), (1, .int 0), (0, .ref p0)]) hx hb dX3_sumOfX_3 rfl hl (by decide) rfl (fun ls hl => ?_)
  have key4 := blocks (fun n => ∀ (v4_1 : Int32) (v4_2 : Int32) (H : Heap) (lo : List Loc) (ls : Array Slot), (129 - v4_2.toInt).toNat = n → ((1) ≤ v4_2.toInt ∧ v4_2.toInt ≤ 128) → (okm (I p0 0).toInt (I p0 1).toInt (J (wo Q p0)) → v4_1.toInt = wS (lnD 0 (md (J (wo Q p0)))) v4_2.toInt.toNat) → va_P (dC, dI) vwCl (Wd cs L K I J Q) H → va_S (fun _ => False) s.heap H lo → lv_has ls 3 [(0, .ref p0), (1, .int v4_1), (2, .int v4_2)] → W p l e R s m (([.ref p0] : List Value).toArray) below meth c H lo 0 0 Qz (F0 m 4 ls [])) (by
    intro n ih4
    intro v4_1 v4_2 H lo ls hmu4 bv4_2 g4 hP hS hl
    refine lv_iload_n hx hb dX3_sumOfX_4 rfl (lv_at hl 2 rfl) ?_
    refine lv_aload_n hx hb dX3_sumOfX_5 rfl (lv_at hl 0 rfl) ?_
    refine p_get hx hb hts inX3 hown hK hP hLp0 hKp0 rfl rfl 0 (by decide) (hts _ pq116) rfl dX3_sumOfX_6 ?_
    refine lv_topi (fun z6 ez6 => ?_)
    have bz6 := oI_3_0 (Iv_at hI hLp0 hKp0)
    rw [← ez6] at bz6
    refine lv_icmp_ge (tgt := 34) hx hb dX3_sumOfX_9 (by decide) (fun c9 => ?_) (fun c9 => ?_)
    · have t9 := tq_le (k := z6.toInt) (q := v4_2.toInt) c9 rfl rfl
      refine lv_iload_n hx hb dX3_sumOfX_34 rfl (lv_at hl 1 rfl) ?_
      subst hR; subst hQz
      exact W.iret (v := v4_1) hx hb hr (fun t ht hW => ⟨⟨v4_1, (), rfl, (fun ok => (g4 ok).trans (wZ_end ok.2.2 (by rw [if_pos rfl]; have e6 := congrArg Int32.toInt ez6; omega) (by omega)).symm), trivial⟩, hS.F ht⟩) hS.2.2 dX3_sumOfX_35
    · have t9 := tq_nle (k := z6.toInt) (q := v4_2.toInt) c9 rfl rfl
      refine lv_iload_n hx hb dX3_sumOfX_12 rfl (lv_at hl 1 rfl) ?_
      refine lv_iload_n hx hb dX3_sumOfX_13 rfl (lv_at hl 2 rfl) ?_
      refine lv_aload_n hx hb dX3_sumOfX_14 rfl (lv_at hl 0 rfl) ?_
      refine lv_iload_n hx hb dX3_sumOfX_15 rfl (lv_at hl 2 rfl) ?_
      refine lv_iconst (v := 0) hx hb dX3_sumOfX_16 (by decide +kernel) ?_
      refine lv_iconst (v := 1) hx hb dX3_sumOfX_17 (by decide +kernel) ?_
      refine lv_aload_n hx hb dX3_sumOfX_18 rfl (lv_at hl 0 rfl) ?_
      refine p_get hx hb hts inX3 hown hK hP hLp0 hKp0 rfl rfl 1 (by decide) (hts _ pq120) rfl dX3_sumOfX_19 ?_
      refine lv_topi (fun z19 ez19 => ?_)
      have bz19 := oI_3_1 (Iv_at hI hLp0 hKp0)
      rw [← ez19] at bz19
      refine ro_i (va_runV (As := [.int v4_2, .int 0, .int 1, .int z19]) (rest := [.int v4_2, .int v4_1]) ⟨hx, hb, hml, hown, hts⟩ (s_X3_dotsWithin l dC dI cs L K G Q hQ x0 m0 tx tm H.size I J hI p0 hLp0 hKp0 v4_2 0 1 z19) (cwV 4 hts (gV pq932 pq917 pq918 pq76 pq919) rfl rfl rfl (by decide +kernel) ⟨(by rw [hR]; exact (Nat.le_of_ble_eq_true rfl)), (by rw [hR]; exact (Nat.le_of_ble_eq_true rfl))⟩) (sP_V hP hD hK hN hLp0 hKp0 rfl rfl) rfl rfl hl.1 rfl (lv_room (Nat.le_of_ble_eq_true rfl)) dX3_sumOfX_22 ⟨(by rw [hR]; exact (Nat.le_of_ble_eq_true rfl)), (by rw [hR]; exact (Nat.le_of_ble_eq_true rfl))⟩) hS hP (fun z22 H locs hz22 hP hS => ?_)
      have cst22_0 : (0 : Int32).toInt = 0 := by decide +kernel
      have cst22_1 : (1 : Int32).toInt = 1 := by decide +kernel
      have xpz22 := hz22
      try rw [cst22_0] at xpz22
      try rw [cst22_1] at xpz22
      refine lv_imul hx hb dX3_sumOfX_25 ?_
      refine lv_topi (fun z25 ez25 => ?_)
      refine lv_iadd hx hb dX3_sumOfX_26 ?_
      refine lv_topi (fun z26 ez26 => ?_)
      refine lv_istore_n (lv' := [(1, .int z26), (0, .ref p0), (2, .int v4_2)]) hx hb dX3_sumOfX_27 rfl hl (by decide) rfl (fun ls hl => ?_)
      obtain ⟨z28, ez28⟩ : ∃ y : Int32, y = v4_2 + 1 := ⟨_, rfl⟩
      refine lv_iinc (v := z28) (lv' := [(2, .int z28), (1, .int z26), (0, .ref p0)]) hx hb dX3_sumOfX_28 hl (k := 2) rfl (by rw [ez28]; rfl) (by decide) rfl (fun ls hl => ?_)
      have bz28 := tq_add (k := v4_2.toInt) (q := 1) ez28 rfl (by decide +kernel) (by omega) (by omega)
      refine lv_goto (tgt := 4) hx hb dX3_sumOfX_31 (by decide) ?_
      exact ih4 _ (by omega) z26 z28 _ _ _ rfl ⟨by omega, by omega⟩ (fun ok => by have g := g4 ok; have e6 := congrArg Int32.toInt ez6; have o1 := ok.1; have o2 := ok.2.1; have e19 := congrArg Int32.toInt ez19; have w : lnD 0 (md (J (wo Q p0))) v4_2.toInt.toNat = z22.toInt := (by unfold lnD; rw [if_pos rfl, ln_col ok.2.2, show ((v4_2.toInt.toNat : Nat) : Int) = v4_2.toInt by omega, xpz22 ok ⟨⟨by omega, by omega⟩, ⟨by omega, by omega⟩, ⟨by omega, by omega⟩, by omega, by omega⟩, e19]); have s := wS_s (c := lnD 0 (md (J (wo Q p0)))) (k := v4_2.toInt) (k1 := z28.toInt) (by omega) (by omega) w; have b := wS_b (lnD_b 0 (md (J (wo Q p0)))) v4_2.toInt.toNat (by omega); have b2 := wS_b (lnD_b 0 (md (J (wo Q p0)))) z28.toInt.toNat (by omega); have am := tq_mul (k := v4_2.toInt) (q := z22.toInt) ez25 rfl rfl (by omega) (by omega); have as := tq_add (k := v4_1.toInt) (q := z25.toInt) ez26 rfl rfl (by omega) (by omega); rw [s]; omega) hP hS (lv_sub hl [2, 1, 0] rfl))
  exact key4 _ 0 1 _ _ _ rfl ⟨by decide +kernel, by decide +kernel⟩ (fun ok => (show (0 : Int32).toInt = 0 by decide +kernel).trans (by rw [show (1 : Int32).toInt.toNat = 1 from by decide +kernel]; exact wS_1.symm)) hP hS (lv_sub hl [2, 1, 0] rfl)

set_option maxHeartbeats 4000000 in
set_option maxRecDepth 100000 in
theorem s_X3_sumOfY (l : Launch) (dC : Nat → ClassId) (dI : Nat → Nat → Nat) (cs : Nat → ClassId) (L : List Nat) (K G : Nat → Nat) (Q : Nat → Nat → Option Nat) (hQ : Sv L K G Q) (x0 m0 : Nat) (tx : GT) (tm : GT × Int) (sz : Nat) (I : Nat → Nat → Int32) (J : Nat → Nat → Int64) (hI : Iv L K x0 m0 tx tm I) (p0 : Nat) (hLp0 : p0 ∈ L) (hKp0 : K p0 = 3) : Met l yX3_sumOfY (.code yX3_sumOfY cX3_sumOfY 3 (some .int) :: pw) ({ frames := 2, cells := 0, slots := 0, locals := 42 }) (sP (dC, dI) cs [.ref p0] sz L K I J Q) (va_Qi (fun (r : Int32) (_ : Unit) => (okm (I p0 0).toInt (I p0 1).toInt (J (wo Q p0)) → r.toInt = wZ 1 (md (J (wo Q p0))))) (fun _ _ => True) (fun _ => False)) 0 0 (fun _ => False) := by
  refine Met.ofW (cc := cX3_sumOfY) (maxL := 3) (ret := (some .int)) (by decide +kernel) rfl ?_
  intro p e s m args below meth c s₁ B hml hv
  obtain ⟨rfl, hsz, hP, hK, hD0, hN⟩ := hv
  have hx := B.exec
  have hb := B.bytes
  have hr := B.returns
  have hts := fun w (h : w ∈ pw) => atoms_spec (ws := Cond.code yX3_sumOfY cX3_sumOfY 3 (some .int) :: pw) B.pre w (List.mem_cons_of_mem _ h)
  have hown : s.vm.findClass RX3 = some m.cls := findClass_of_methodNamed B.named
  have hlocks := B.notSynchronized
  subst hsz
  have hBB : 999 ≤ tm.2 ∧ tm.2 ≤ 6000000 := hI.2.2.2.2.1
  have hD := hD0
  obtain ⟨H, hHe⟩ : ∃ H : Heap, H = s.heap := ⟨_, rfl⟩
  have hS : va_S (fun _ => False) s.heap H [] := by rw [hHe]; exact va_S.rf
  rw [← hHe] at hP
  have hl := lv_entry ([.ref p0]) (n := 3) (Nat.le_of_ble_eq_true rfl)
  rw [lg_entry_eq]
  generalize (lg_sl ([.ref p0]) ++ List.replicate (3 - (lg_sl ([.ref p0])).length) Slot.unset).toArray = ls at hl ⊢
  have hl : lv_has ls 3 [(0, .ref p0)] := hl
  rw [← hHe]
  refine namedW (fun R Qz hR hQz => ?_)
  refine lv_iconst (v := 0) hx hb dX3_sumOfY_0 (by decide +kernel) ?_
  refine lv_istore_n (lv' := [(1, .int 0), (0, .ref p0)]) hx hb dX3_sumOfY_1 rfl hl (by decide) rfl (fun ls hl => ?_)
  refine lv_iconst (v := 1) hx hb dX3_sumOfY_2 (by decide +kernel) ?_
  refine lv_istore_n (lv' := [(2, .int 1), (1, .int 0), (0, .ref p0)]) hx hb dX3_sumOfY_3 rfl hl (by decide) rfl (fun ls hl => ?_)
  have key4 := blocks (fun n => ∀ (v4_1 : Int32) (v4_2 : Int32) (H : Heap) (lo : List Loc) (ls : Array Slot), (41 - v4_2.toInt).toNat = n → ((1) ≤ v4_2.toInt ∧ v4_2.toInt ≤ 40) → (okm (I p0 0).toInt (I p0 1).toInt (J (wo Q p0)) → v4_1.toInt = wS (lnD 1 (md (J (wo Q p0)))) v4_2.toInt.toNat) → va_P (dC, dI) vwCl (Wd cs L K I J Q) H → va_S (fun _ => False) s.heap H lo → lv_has ls 3 [(0, .ref p0), (1, .int v4_1), (2, .int v4_2)] → W p l e R s m (([.ref p0] : List Value).toArray) below meth c H lo 0 0 Qz (F0 m 4 ls [])) (by
    intro n ih4
    intro v4_1 v4_2 H lo ls hmu4 bv4_2 g4 hP hS hl
    refine lv_iload_n hx hb dX3_sumOfY_4 rfl (lv_at hl 2 rfl) ?_
    refine lv_aload_n hx hb dX3_sumOfY_5 rfl (lv_at hl 0 rfl) ?_
    refine p_get hx hb hts inX3 hown hK hP hLp0 hKp0 rfl rfl 1 (by decide) (hts _ pq120) rfl dX3_sumOfY_6 ?_
    refine lv_topi (fun z6 ez6 => ?_)
    have bz6 := oI_3_1 (Iv_at hI hLp0 hKp0)
    rw [← ez6] at bz6
    refine lv_icmp_ge (tgt := 28) hx hb dX3_sumOfY_9 (by decide) (fun c9 => ?_) (fun c9 => ?_)
    · have t9 := tq_le (k := z6.toInt) (q := v4_2.toInt) c9 rfl rfl
      refine lv_iload_n hx hb dX3_sumOfY_28 rfl (lv_at hl 1 rfl) ?_
      subst hR; subst hQz
      exact W.iret (v := v4_1) hx hb hr (fun t ht hW => ⟨⟨v4_1, (), rfl, (fun ok => (g4 ok).trans (wZ_end ok.2.2 (by rw [if_neg (by decide)]; have e6 := congrArg Int32.toInt ez6; omega) (by omega)).symm), trivial⟩, hS.F ht⟩) hS.2.2 dX3_sumOfY_29
    · have t9 := tq_nle (k := z6.toInt) (q := v4_2.toInt) c9 rfl rfl
      refine lv_iload_n hx hb dX3_sumOfY_12 rfl (lv_at hl 1 rfl) ?_
      refine lv_iload_n hx hb dX3_sumOfY_13 rfl (lv_at hl 2 rfl) ?_
      refine lv_aload_n hx hb dX3_sumOfY_14 rfl (lv_at hl 0 rfl) ?_
      refine lv_iload_n hx hb dX3_sumOfY_15 rfl (lv_at hl 2 rfl) ?_
      refine ro_i (va_runV (As := [.int v4_2]) (rest := [.int v4_2, .int v4_1]) ⟨hx, hb, hml, hown, hts⟩ (s_X3_dotsOfRow l dC dI cs L K G Q hQ x0 m0 tx tm H.size I J hI p0 hLp0 hKp0 v4_2) (cwV 1 hts (gV pq937 pq938 pq939 pq76 pq940) rfl rfl rfl (by decide +kernel) ⟨(by rw [hR]; exact (Nat.le_of_ble_eq_true rfl)), (by rw [hR]; exact (Nat.le_of_ble_eq_true rfl))⟩) (sP_V hP hD hK hN hLp0 hKp0 rfl rfl) rfl rfl hl.1 rfl (lv_room (Nat.le_of_ble_eq_true rfl)) dX3_sumOfY_16 ⟨(by rw [hR]; exact (Nat.le_of_ble_eq_true rfl)), (by rw [hR]; exact (Nat.le_of_ble_eq_true rfl))⟩) hS hP (fun z16 H locs hz16 hP hS => ?_)
      obtain ⟨bz16, xpz16⟩ := hz16
      refine lv_imul hx hb dX3_sumOfY_19 ?_
      refine lv_topi (fun z19 ez19 => ?_)
      refine lv_iadd hx hb dX3_sumOfY_20 ?_
      refine lv_topi (fun z20 ez20 => ?_)
      refine lv_istore_n (lv' := [(1, .int z20), (0, .ref p0), (2, .int v4_2)]) hx hb dX3_sumOfY_21 rfl hl (by decide) rfl (fun ls hl => ?_)
      obtain ⟨z22, ez22⟩ : ∃ y : Int32, y = v4_2 + 1 := ⟨_, rfl⟩
      refine lv_iinc (v := z22) (lv' := [(2, .int z22), (1, .int z20), (0, .ref p0)]) hx hb dX3_sumOfY_22 hl (k := 2) rfl (by rw [ez22]; rfl) (by decide) rfl (fun ls hl => ?_)
      have bz22 := tq_add (k := v4_2.toInt) (q := 1) ez22 rfl (by decide +kernel) (by omega) (by omega)
      refine lv_goto (tgt := 4) hx hb dX3_sumOfY_25 (by decide) ?_
      exact ih4 _ (by omega) z20 z22 _ _ _ rfl ⟨by omega, by omega⟩ (fun ok => by have g := g4 ok; have e6 := congrArg Int32.toInt ez6; have o1 := ok.1; have o2 := ok.2.1; have w : lnD 1 (md (J (wo Q p0))) v4_2.toInt.toNat = z16.toInt := (by unfold lnD; rw [if_neg (by decide), xpz16 ok (by omega) (by omega)]); have s := wS_s (c := lnD 1 (md (J (wo Q p0)))) (k := v4_2.toInt) (k1 := z22.toInt) (by omega) (by omega) w; have b := wS_b (lnD_b 1 (md (J (wo Q p0)))) v4_2.toInt.toNat (by omega); have b2 := wS_b (lnD_b 1 (md (J (wo Q p0)))) z22.toInt.toNat (by omega); have am := tq_mul (k := v4_2.toInt) (q := z16.toInt) ez19 rfl rfl (by omega) (by omega); have as := tq_add (k := v4_1.toInt) (q := z19.toInt) ez20 rfl rfl (by omega) (by omega); rw [s]; omega) hP hS (lv_sub hl [2, 1, 0] rfl))
  exact key4 _ 0 1 _ _ _ rfl ⟨by decide +kernel, by decide +kernel⟩ (fun ok => (show (0 : Int32).toInt = 0 by decide +kernel).trans (by rw [show (1 : Int32).toInt.toNat = 1 from by decide +kernel]; exact wS_1.symm)) hP hS (lv_sub hl [2, 1, 0] rfl)

set_option maxHeartbeats 4000000 in
set_option maxRecDepth 100000 in
theorem s_X3_farthestApart (l : Launch) (dC : Nat → ClassId) (dI : Nat → Nat → Nat) (cs : Nat → ClassId) (L : List Nat) (K G : Nat → Nat) (Q : Nat → Nat → Option Nat) (hQ : Sv L K G Q) (x0 m0 : Nat) (tx : GT) (tm : GT × Int) (sz : Nat) (I : Nat → Nat → Int32) (J : Nat → Nat → Int64) (hI : Iv L K x0 m0 tx tm I) (p0 : Nat) (hLp0 : p0 ∈ L) (hKp0 : K p0 = 3) : Met l yX3_farthestApart (.code yX3_farthestApart cX3_farthestApart 8 (some .int) :: pw) ({ frames := 2, cells := 0, slots := 0, locals := 46 }) (sP (dC, dI) cs [.ref p0] sz L K I J Q) (va_Qi (fun (r : Int32) (_ : Unit) => (okm (I p0 0).toInt (I p0 1).toInt (J (wo Q p0)) → msr (J (wo Q p0)) (I p0 3).toInt (I p0 4).toInt (I p0 5).toInt (I p0 6).toInt (I p0 7).toInt → frM (md (J (wo Q p0))) r.toInt)) (fun _ _ => True) (fun _ => False)) 0 0 (fun _ => False) := by
  refine Met.ofW (cc := cX3_farthestApart) (maxL := 8) (ret := (some .int)) (by decide +kernel) rfl ?_
  intro p e s m args below meth c s₁ B hml hv
  obtain ⟨rfl, hsz, hP, hK, hD0, hN⟩ := hv
  have hx := B.exec
  have hb := B.bytes
  have hr := B.returns
  have hts := fun w (h : w ∈ pw) => atoms_spec (ws := Cond.code yX3_farthestApart cX3_farthestApart 8 (some .int) :: pw) B.pre w (List.mem_cons_of_mem _ h)
  have hown : s.vm.findClass RX3 = some m.cls := findClass_of_methodNamed B.named
  have hlocks := B.notSynchronized
  subst hsz
  have hBB : 999 ≤ tm.2 ∧ tm.2 ≤ 6000000 := hI.2.2.2.2.1
  have hD := hD0
  obtain ⟨H, hHe⟩ : ∃ H : Heap, H = s.heap := ⟨_, rfl⟩
  have hS : va_S (fun _ => False) s.heap H [] := by rw [hHe]; exact va_S.rf
  rw [← hHe] at hP
  have hl := lv_entry ([.ref p0]) (n := 8) (Nat.le_of_ble_eq_true rfl)
  rw [lg_entry_eq]
  generalize (lg_sl ([.ref p0]) ++ List.replicate (8 - (lg_sl ([.ref p0])).length) Slot.unset).toArray = ls at hl ⊢
  have hl : lv_has ls 8 [(0, .ref p0)] := hl
  rw [← hHe]
  refine namedW (fun R Qz hR hQz => ?_)
  refine lv_sipush (v := 140) hx hb dX3_farthestApart_0 (by decide +kernel) ?_
  refine lv_istore_n (lv' := [(1, .int 140), (0, .ref p0)]) hx hb dX3_farthestApart_3 rfl hl (by decide) rfl (fun ls hl => ?_)
  refine lv_bipush (v := (-40)) hx hb dX3_farthestApart_4 (by decide +kernel) ?_
  refine lv_istore_n (lv' := [(2, .int (-40)), (1, .int 140), (0, .ref p0)]) hx hb dX3_farthestApart_6 rfl hl (by decide) rfl (fun ls hl => ?_)
  refine lv_sipush (v := 140) hx hb dX3_farthestApart_7 (by decide +kernel) ?_
  refine lv_istore_n (lv' := [(3, .int 140), (2, .int (-40)), (1, .int 140), (0, .ref p0)]) hx hb dX3_farthestApart_10 rfl hl (by decide) rfl (fun ls hl => ?_)
  refine lv_bipush (v := (-40)) hx hb dX3_farthestApart_11 (by decide +kernel) ?_
  refine lv_istore (lv' := [(4, .int (-40)), (3, .int 140), (2, .int (-40)), (1, .int 140), (0, .ref p0)]) hx hb dX3_farthestApart_13 hl (by decide) rfl (fun ls hl => ?_)
  refine lv_iconst (v := 0) hx hb dX3_farthestApart_15 (by decide +kernel) ?_
  refine lv_istore (lv' := [(5, .int 0), (4, .int (-40)), (3, .int 140), (2, .int (-40)), (1, .int 140), (0, .ref p0)]) hx hb dX3_farthestApart_16 hl (by decide) rfl (fun ls hl => ?_)
  have key18 := blocks (fun n => ∀ (v18_1 : Int32) (v18_2 : Int32) (v18_3 : Int32) (v18_4 : Int32) (v18_5 : Int32) (H : Heap) (lo : List Loc) (ls : Array Slot), (41 - v18_5.toInt).toNat = n → ((0) ≤ v18_1.toInt ∧ v18_1.toInt ≤ 140) → ((-40) ≤ v18_2.toInt ∧ v18_2.toInt ≤ 200) → ((-40) ≤ v18_3.toInt ∧ v18_3.toInt ≤ 140) → ((-40) ≤ v18_4.toInt ∧ v18_4.toInt ≤ 127) → ((0) ≤ v18_5.toInt ∧ v18_5.toInt ≤ 40) → (okm (I p0 0).toInt (I p0 1).toInt (J (wo Q p0)) → xC (ahD (md (J (wo Q p0))) v18_5.toInt 0) v18_1.toInt v18_2.toInt v18_3.toInt v18_4.toInt) → va_P (dC, dI) vwCl (Wd cs L K I J Q) H → va_S (fun _ => False) s.heap H lo → lv_has ls 8 [(0, .ref p0), (1, .int v18_1), (2, .int v18_2), (3, .int v18_3), (4, .int v18_4), (5, .int v18_5)] → W p l e R s m (([.ref p0] : List Value).toArray) below meth c H lo 0 0 Qz (F0 m 18 ls [])) (by
    intro n ih18
    intro v18_1 v18_2 v18_3 v18_4 v18_5 H lo ls hmu18 bv18_1 bv18_2 bv18_3 bv18_4 bv18_5 g18 hP hS hl
    refine lv_iload hx hb dX3_farthestApart_18 (lv_at hl 5 rfl) ?_
    refine lv_aload_n hx hb dX3_farthestApart_20 rfl (lv_at hl 0 rfl) ?_
    refine p_get hx hb hts inX3 hown hK hP hLp0 hKp0 rfl rfl 1 (by decide) (hts _ pq120) rfl dX3_farthestApart_21 ?_
    refine lv_topi (fun z21 ez21 => ?_)
    have bz21 := oI_3_1 (Iv_at hI hLp0 hKp0)
    rw [← ez21] at bz21
    refine lv_icmp_ge (tgt := 134) hx hb dX3_farthestApart_24 (by decide) (fun c24 => ?_) (fun c24 => ?_)
    · have t24 := tq_le (k := z21.toInt) (q := v18_5.toInt) c24 rfl rfl
      refine lv_aload_n hx hb dX3_farthestApart_134 rfl (lv_at hl 0 rfl) ?_
      refine p_get hx hb hts inX3 hown hK hP hLp0 hKp0 rfl rfl 3 (by decide) (hts _ pq129) rfl dX3_farthestApart_135 ?_
      refine lv_topi (fun z135 ez135 => ?_)
      refine lv_if_ne (tgt := 145) hx hb dX3_farthestApart_138 (by decide) (fun c138 => ?_) (fun c138 => ?_)
      · have t138 := tq_ne (k := z135.toInt) (q := (0)) c138 rfl (by decide +kernel)
        refine lv_iload_n hx hb dX3_farthestApart_145 rfl (lv_at hl 2 rfl) ?_
        refine lv_iload_n hx hb dX3_farthestApart_146 rfl (lv_at hl 1 rfl) ?_
        refine lv_isub hx hb dX3_farthestApart_147 ?_
        refine lv_topi (fun z147 ez147 => ?_)
        have bz147 := tq_sub (k := v18_2.toInt) (q := v18_1.toInt) ez147 rfl rfl (by omega) (by omega)
        refine lv_iload hx hb dX3_farthestApart_148 (lv_at hl 4 rfl) ?_
        refine lv_iload_n hx hb dX3_farthestApart_150 rfl (lv_at hl 3 rfl) ?_
        refine lv_isub hx hb dX3_farthestApart_151 ?_
        refine lv_topi (fun z151 ez151 => ?_)
        have bz151 := tq_sub (k := v18_4.toInt) (q := v18_3.toInt) ez151 rfl rfl (by omega) (by omega)
        refine va_mmax hx hb (hml.trans hl.1.symm) hown (hts _ pq777) (hts _ pq750) (hts _ pq82) (hts _ pq751) (by rw [hR]; exact (Nat.le_of_ble_eq_true rfl)) (by rw [hR]; exact (Nat.le_of_ble_eq_true rfl)) (by rw [hR]; exact (Nat.le_of_ble_eq_true rfl)) (by rw [hR]; exact (Nat.le_of_ble_eq_true rfl)) dX3_farthestApart_152 ?_
        refine lv_topi (fun z152 ez152 => ?_)
        have bz152 := tq_max ez152
        subst hR; subst hQz
        exact W.iret (v := z152) hx hb hr (fun t ht hW => ⟨⟨z152, (), rfl, (fun ok ms => by have e := congrArg Int32.toInt ez135; have e21 := congrArg Int32.toInt ez21; have H : ∀ X Y, md (J (wo Q p0)) X Y = true → Y < v18_5.toInt ∨ (Y = v18_5.toInt ∧ X < 0) := (fun X Y q => by have := md_b ok.2.2 _ _ q; omega); rcases g18 ok with z | z; (obtain ⟨⟨y, a⟩, -⟩ := ms.2.1 (by omega); have k := z.1 (I p0 4).toInt y; rw [ah_hi H, a] at k; cases k); (have f := xE_far (xE_congr (fun x y => (ah_hi H x y).symm) z); rw [show z152.toInt = max (v18_2.toInt - v18_1.toInt) (v18_4.toInt - v18_3.toInt) by omega]; exact f)), trivial⟩, hS.F ht⟩) hS.2.2 dX3_farthestApart_155
      · have t138 := tq_eq (k := z135.toInt) (q := (0)) c138 rfl (by decide +kernel)
        refine lv_iconst (v := 0) hx hb dX3_farthestApart_141 (by decide +kernel) ?_
        refine lv_goto (tgt := 155) hx hb dX3_farthestApart_142 (by decide) ?_
        subst hR; subst hQz
        exact W.iret (v := 0) hx hb hr (fun t ht hW => ⟨⟨0, (), rfl, (fun ok ms => Or.inl ⟨fun x y => Bool.eq_false_iff.mpr (fun q => by have k := msr_pos ms q; have e := congrArg Int32.toInt ez135; omega), by decide +kernel⟩), trivial⟩, hS.F ht⟩) hS.2.2 dX3_farthestApart_155
    · have t24 := tq_nle (k := z21.toInt) (q := v18_5.toInt) c24 rfl rfl
      refine lv_aload_n hx hb dX3_farthestApart_27 rfl (lv_at hl 0 rfl) ?_
      refine lv_iload hx hb dX3_farthestApart_28 (lv_at hl 5 rfl) ?_
      refine ro_i (va_runV (As := [.int v18_5]) (rest := []) ⟨hx, hb, hml, hown, hts⟩ (s_X3_dotsOfRow l dC dI cs L K G Q hQ x0 m0 tx tm H.size I J hI p0 hLp0 hKp0 v18_5) (cwV 1 hts (gV pq937 pq938 pq939 pq76 pq940) rfl rfl rfl (by decide +kernel) ⟨(by rw [hR]; exact (Nat.le_of_ble_eq_true rfl)), (by rw [hR]; exact (Nat.le_of_ble_eq_true rfl))⟩) (sP_V hP hD hK hN hLp0 hKp0 rfl rfl) rfl rfl hl.1 rfl (lv_room (Nat.le_of_ble_eq_true rfl)) dX3_farthestApart_30 ⟨(by rw [hR]; exact (Nat.le_of_ble_eq_true rfl)), (by rw [hR]; exact (Nat.le_of_ble_eq_true rfl))⟩) hS hP (fun z30 H locs hz30 hP hS => ?_)
      obtain ⟨bz30, xpz30⟩ := hz30
      have j128 : ∀ (v128_1 : Int32) (v128_2 : Int32) (v128_3 : Int32) (v128_4 : Int32) (H : Heap) (lo : List Loc) (ls : Array Slot), ((0) ≤ v128_1.toInt ∧ v128_1.toInt ≤ 140) → ((-40) ≤ v128_2.toInt ∧ v128_2.toInt ≤ 200) → ((-40) ≤ v128_3.toInt ∧ v128_3.toInt ≤ 140) → ((-40) ≤ v128_4.toInt ∧ v128_4.toInt ≤ 127) → (okm (I p0 0).toInt (I p0 1).toInt (J (wo Q p0)) → xC (ahD (md (J (wo Q p0))) (v18_5.toInt + 1) 0) v128_1.toInt v128_2.toInt v128_3.toInt v128_4.toInt) → va_P (dC, dI) vwCl (Wd cs L K I J Q) H → va_S (fun _ => False) s.heap H lo → lv_has ls 8 [(0, .ref p0), (1, .int v128_1), (2, .int v128_2), (3, .int v128_3), (4, .int v128_4), (5, .int v18_5)] → W p l e R s m (([.ref p0] : List Value).toArray) below meth c H lo 0 0 Qz (F0 m 128 ls []) := by
        intro v128_1 v128_2 v128_3 v128_4 H lo ls bv128_1 bv128_2 bv128_3 bv128_4 g128 hP hS hl
        obtain ⟨z128, ez128⟩ : ∃ y : Int32, y = v18_5 + 1 := ⟨_, rfl⟩
        refine lv_iinc (v := z128) (lv' := [(5, .int z128), (0, .ref p0), (1, .int v128_1), (2, .int v128_2), (3, .int v128_3), (4, .int v128_4)]) hx hb dX3_farthestApart_128 hl (k := 5) rfl (by rw [ez128]; rfl) (by decide) rfl (fun ls hl => ?_)
        have bz128 := tq_add (k := v18_5.toInt) (q := 1) ez128 rfl (by decide +kernel) (by omega) (by omega)
        refine lv_goto (tgt := 18) hx hb dX3_farthestApart_131 (by decide) ?_
        exact ih18 _ (by omega) v128_1 v128_2 v128_3 v128_4 z128 _ _ _ rfl ⟨by omega, by omega⟩ ⟨by omega, by omega⟩ ⟨by omega, by omega⟩ ⟨by omega, by omega⟩ ⟨by omega, by omega⟩ (fun ok => by rw [show z128.toInt = v18_5.toInt + 1 by omega]; exact g128 ok) hP hS (lv_sub hl [1, 2, 3, 4, 5, 0] rfl)
      refine lv_if_le (tgt := 128) hx hb dX3_farthestApart_33 (by decide) (fun c33 => ?_) (fun c33 => ?_)
      · have t33 := tq_le (k := z30.toInt) (q := (0)) c33 rfl (by decide +kernel)
        exact j128 v18_1 v18_2 v18_3 v18_4 _ _ _ ⟨by omega, by omega⟩ ⟨by omega, by omega⟩ ⟨by omega, by omega⟩ ⟨by omega, by omega⟩ (fun ok => by have e21 := congrArg Int32.toInt ez21; have o1 := ok.1; have o2 := ok.2.1; have w := xpz30 ok (by omega) (by omega); have c0 := cnt_z.mp (show cntD (roD (md (J (wo Q p0))) v18_5.toInt.toNat) = 0 by omega); exact xC_congr (fun x y => ah_mv (fun X Y q => by have m := md_rng q; have k : ¬ Y = v18_5.toInt := (fun e => by have z := c0 X Y (by omega) (by omega) (by omega) (by omega); unfold roD at z; rw [q, decide_eq_true (by omega)] at z; cases z); omega) x y) (g18 ok)) hP hS (lv_sub hl [0, 1, 2, 3, 4, 5] rfl)
      · have t33 := tq_nle (k := z30.toInt) (q := (0)) c33 rfl (by decide +kernel)
        refine lv_aload_n hx hb dX3_farthestApart_36 rfl (lv_at hl 0 rfl) ?_
        obtain ⟨y37, ey37, hLy37, hKy37, hGy37⟩ := oQ_3_2 (Sv_at hQ hLp0 hKp0)
        refine p_get (v := .ref y37) hx hb hts inX3 hown hK hP hLp0 hKp0 rfl rfl 2 (by decide) (hts _ pq124) (congrArg (fun q => some (va_rf q)) ey37) dX3_farthestApart_37 ?_
        refine lv_iconst (v := 2) hx hb dX3_farthestApart_40 (by decide +kernel) ?_
        refine lv_iload hx hb dX3_farthestApart_41 (lv_at hl 5 rfl) ?_
        refine lv_imul hx hb dX3_farthestApart_43 ?_
        refine lv_topi (fun z43 ez43 => ?_)
        have bz43 := tq_mul (k := (2)) (q := v18_5.toInt) ez43 (by decide +kernel) rfl (by omega) (by omega)
        refine p_lald hx hb hK hP 2 hLy37 hKy37 rfl rfl (in_of (by omega) (by omega)) dX3_farthestApart_44 ?_
        refine lv_topl (fun z44 ez44 => ?_)
        refine lv_aload_n hx hb dX3_farthestApart_45 rfl (lv_at hl 0 rfl) ?_
        refine p_get (v := .ref y37) hx hb hts inX3 hown hK hP hLp0 hKp0 rfl rfl 2 (by decide) (hts _ pq124) (congrArg (fun q => some (va_rf q)) ey37) dX3_farthestApart_46 ?_
        refine lv_iconst (v := 2) hx hb dX3_farthestApart_49 (by decide +kernel) ?_
        refine lv_iload hx hb dX3_farthestApart_50 (lv_at hl 5 rfl) ?_
        refine lv_imul hx hb dX3_farthestApart_52 ?_
        refine lv_topi (fun z52 ez52 => ?_)
        have bz52 := tq_mul (k := (2)) (q := v18_5.toInt) ez52 (by decide +kernel) rfl (by omega) (by omega)
        refine lv_iconst (v := 1) hx hb dX3_farthestApart_53 (by decide +kernel) ?_
        refine lv_iadd hx hb dX3_farthestApart_54 ?_
        refine lv_topi (fun z54 ez54 => ?_)
        have bz54 := tq_add (k := z52.toInt) (q := (1)) ez54 rfl (by decide +kernel) (by omega) (by omega)
        refine p_lald hx hb hK hP 2 hLy37 hKy37 rfl rfl (in_of (by omega) (by omega)) dX3_farthestApart_55 ?_
        refine lv_topl (fun z55 ez55 => ?_)
        refine ro_i (va_runS (As := [.long z44, .long z55]) (rest := []) ⟨hx, hb, hml, hown, hts⟩ (s_X3_lowestBit l dC dI cs L K Q H.size I J z44 z55) (va_cwS 2 hts (gS pq551 pq552 pq76 pq553) rfl rfl rfl (by decide +kernel) ⟨(by rw [hR]; exact (Nat.le_of_ble_eq_true rfl)), (by rw [hR]; exact (Nat.le_of_ble_eq_true rfl))⟩) (sP_S hP hD hK hN) rfl rfl hl.1 rfl (lv_room (Nat.le_of_ble_eq_true rfl)) dX3_farthestApart_56 ⟨(by rw [hR]; exact (Nat.le_of_ble_eq_true rfl)), (by rw [hR]; exact (Nat.le_of_ble_eq_true rfl))⟩) hS hP (fun z56 H locs hz56 hP hS => ?_)
        obtain ⟨bz56, xpz56⟩ := hz56
        refine lv_istore (lv' := [(6, .int z56), (0, .ref p0), (1, .int v18_1), (2, .int v18_2), (3, .int v18_3), (4, .int v18_4), (5, .int v18_5)]) hx hb dX3_farthestApart_59 hl (by decide) rfl (fun ls hl => ?_)
        refine lv_aload_n hx hb dX3_farthestApart_61 rfl (lv_at hl 1 rfl) ?_
        refine p_get (v := .ref y37) hx hb hts inX3 hown hK hP hLp0 hKp0 rfl rfl 2 (by decide) (hts _ pq124) (congrArg (fun q => some (va_rf q)) ey37) dX3_farthestApart_62 ?_
        refine lv_iconst (v := 2) hx hb dX3_farthestApart_65 (by decide +kernel) ?_
        refine lv_iload hx hb dX3_farthestApart_66 (lv_at hl 6 rfl) ?_
        refine lv_imul hx hb dX3_farthestApart_68 ?_
        refine lv_topi (fun z68 ez68 => ?_)
        have bz68 := tq_mul (k := (2)) (q := v18_5.toInt) ez68 (by decide +kernel) rfl (by omega) (by omega)
        refine p_lald hx hb hK hP 2 hLy37 hKy37 rfl rfl (in_of (by omega) (by omega)) dX3_farthestApart_69 ?_
        refine lv_topl (fun z69 ez69 => ?_)
        refine lv_aload_n hx hb dX3_farthestApart_70 rfl (lv_at hl 1 rfl) ?_
        refine p_get (v := .ref y37) hx hb hts inX3 hown hK hP hLp0 hKp0 rfl rfl 2 (by decide) (hts _ pq124) (congrArg (fun q => some (va_rf q)) ey37) dX3_farthestApart_71 ?_
        refine lv_iconst (v := 2) hx hb dX3_farthestApart_74 (by decide +kernel) ?_
        refine lv_iload hx hb dX3_farthestApart_75 (lv_at hl 6 rfl) ?_
        refine lv_imul hx hb dX3_farthestApart_77 ?_
        refine lv_topi (fun z77 ez77 => ?_)
        have bz77 := tq_mul (k := (2)) (q := v18_5.toInt) ez77 (by decide +kernel) rfl (by omega) (by omega)
        refine lv_iconst (v := 1) hx hb dX3_farthestApart_78 (by decide +kernel) ?_
        refine lv_iadd hx hb dX3_farthestApart_79 ?_
        refine lv_topi (fun z79 ez79 => ?_)
        have bz79 := tq_add (k := z77.toInt) (q := (1)) ez79 rfl (by decide +kernel) (by omega) (by omega)
        refine p_lald hx hb hK hP 2 hLy37 hKy37 rfl rfl (in_of (by omega) (by omega)) dX3_farthestApart_80 ?_
        refine lv_topl (fun z80 ez80 => ?_)
        refine ro_i (va_runS (As := [.long z69, .long z80]) (rest := []) ⟨hx, hb, hml, hown, hts⟩ (s_X3_highestBit l dC dI cs L K Q H.size I J z69 z80) (va_cwS 2 hts (gS pq554 pq555 pq76 pq556) rfl rfl rfl (by decide +kernel) ⟨(by rw [hR]; exact (Nat.le_of_ble_eq_true rfl)), (by rw [hR]; exact (Nat.le_of_ble_eq_true rfl))⟩) (sP_S hP hD hK hN) rfl rfl hl.1 rfl (lv_room (Nat.le_of_ble_eq_true rfl)) dX3_farthestApart_81 ⟨(by rw [hR]; exact (Nat.le_of_ble_eq_true rfl)), (by rw [hR]; exact (Nat.le_of_ble_eq_true rfl))⟩) hS hP (fun z81 H locs hz81 hP hS => ?_)
        obtain ⟨bz81, xpz81⟩ := hz81
        refine lv_istore (lv' := [(7, .int z81), (6, .int z56), (0, .ref p0), (1, .int v18_1), (2, .int v18_2), (3, .int v18_3), (4, .int v18_4), (5, .int v18_5)]) hx hb dX3_farthestApart_84 hl (by decide) rfl (fun ls hl => ?_)
        refine lv_iload_n hx hb dX3_farthestApart_86 rfl (lv_at hl 3 rfl) ?_
        refine lv_iload hx hb dX3_farthestApart_87 (lv_at hl 1 rfl) ?_
        refine lv_iload hx hb dX3_farthestApart_89 (lv_at hl 7 rfl) ?_
        refine lv_iadd hx hb dX3_farthestApart_91 ?_
        refine lv_topi (fun z91 ez91 => ?_)
        have bz91 := tq_add (k := z56.toInt) (q := v18_5.toInt) ez91 rfl rfl (by omega) (by omega)
        refine va_mmin hx hb (hml.trans hl.1.symm) hown (hts _ pq776) (hts _ pq407) (hts _ pq82) (hts _ pq408) (by rw [hR]; exact (Nat.le_of_ble_eq_true rfl)) (by rw [hR]; exact (Nat.le_of_ble_eq_true rfl)) (by rw [hR]; exact (Nat.le_of_ble_eq_true rfl)) (by rw [hR]; exact (Nat.le_of_ble_eq_true rfl)) dX3_farthestApart_92 ?_
        refine lv_topi (fun z92 ez92 => ?_)
        have bz92 := tq_min ez92
        refine lv_istore_n (lv' := [(1, .int z92), (7, .int z81), (6, .int z56), (0, .ref p0), (2, .int v18_2), (3, .int v18_3), (4, .int v18_4), (5, .int v18_5)]) hx hb dX3_farthestApart_95 rfl hl (by decide) rfl (fun ls hl => ?_)
        refine lv_iload_n hx hb dX3_farthestApart_96 rfl (lv_at hl 4 rfl) ?_
        refine lv_iload hx hb dX3_farthestApart_97 (lv_at hl 1 rfl) ?_
        refine lv_iload hx hb dX3_farthestApart_99 (lv_at hl 7 rfl) ?_
        refine lv_iadd hx hb dX3_farthestApart_101 ?_
        refine lv_topi (fun z101 ez101 => ?_)
        have bz101 := tq_add (k := z81.toInt) (q := v18_5.toInt) ez101 rfl rfl (by omega) (by omega)
        refine va_mmax hx hb (hml.trans hl.1.symm) hown (hts _ pq777) (hts _ pq750) (hts _ pq82) (hts _ pq751) (by rw [hR]; exact (Nat.le_of_ble_eq_true rfl)) (by rw [hR]; exact (Nat.le_of_ble_eq_true rfl)) (by rw [hR]; exact (Nat.le_of_ble_eq_true rfl)) (by rw [hR]; exact (Nat.le_of_ble_eq_true rfl)) dX3_farthestApart_102 ?_
        refine lv_topi (fun z102 ez102 => ?_)
        have bz102 := tq_max ez102
        refine lv_istore_n (lv' := [(2, .int z102), (1, .int z92), (7, .int z81), (6, .int z56), (0, .ref p0), (3, .int v18_3), (4, .int v18_4), (5, .int v18_5)]) hx hb dX3_farthestApart_105 rfl hl (by decide) rfl (fun ls hl => ?_)
        refine lv_iload_n hx hb dX3_farthestApart_106 rfl (lv_at hl 5 rfl) ?_
        refine lv_iload hx hb dX3_farthestApart_107 (lv_at hl 3 rfl) ?_
        refine lv_iload hx hb dX3_farthestApart_109 (lv_at hl 7 rfl) ?_
        refine lv_isub hx hb dX3_farthestApart_111 ?_
        refine lv_topi (fun z111 ez111 => ?_)
        have bz111 := tq_sub (k := z56.toInt) (q := v18_5.toInt) ez111 rfl rfl (by omega) (by omega)
        refine va_mmin hx hb (hml.trans hl.1.symm) hown (hts _ pq776) (hts _ pq407) (hts _ pq82) (hts _ pq408) (by rw [hR]; exact (Nat.le_of_ble_eq_true rfl)) (by rw [hR]; exact (Nat.le_of_ble_eq_true rfl)) (by rw [hR]; exact (Nat.le_of_ble_eq_true rfl)) (by rw [hR]; exact (Nat.le_of_ble_eq_true rfl)) dX3_farthestApart_112 ?_
        refine lv_topi (fun z112 ez112 => ?_)
        have bz112 := tq_min ez112
        refine lv_istore_n (lv' := [(3, .int z112), (2, .int z102), (1, .int z92), (7, .int z81), (6, .int z56), (0, .ref p0), (4, .int v18_4), (5, .int v18_5)]) hx hb dX3_farthestApart_115 rfl hl (by decide) rfl (fun ls hl => ?_)
        refine lv_iload hx hb dX3_farthestApart_116 (lv_at hl 6 rfl) ?_
        refine lv_iload hx hb dX3_farthestApart_118 (lv_at hl 3 rfl) ?_
        refine lv_iload hx hb dX3_farthestApart_120 (lv_at hl 7 rfl) ?_
        refine lv_isub hx hb dX3_farthestApart_122 ?_
        refine lv_topi (fun z122 ez122 => ?_)
        have bz122 := tq_sub (k := z81.toInt) (q := v18_5.toInt) ez122 rfl rfl (by omega) (by omega)
        refine va_mmax hx hb (hml.trans hl.1.symm) hown (hts _ pq777) (hts _ pq750) (hts _ pq82) (hts _ pq751) (by rw [hR]; exact (Nat.le_of_ble_eq_true rfl)) (by rw [hR]; exact (Nat.le_of_ble_eq_true rfl)) (by rw [hR]; exact (Nat.le_of_ble_eq_true rfl)) (by rw [hR]; exact (Nat.le_of_ble_eq_true rfl)) dX3_farthestApart_123 ?_
        refine lv_topi (fun z123 ez123 => ?_)
        have bz123 := tq_max ez123
        refine lv_istore (lv' := [(4, .int z123), (3, .int z112), (2, .int z102), (1, .int z92), (7, .int z81), (6, .int z56), (0, .ref p0), (5, .int v18_5)]) hx hb dX3_farthestApart_126 hl (by decide) rfl (fun ls hl => ?_)
        exact j128 z92 z102 z112 z123 _ _ _ ⟨by omega, by omega⟩ ⟨by omega, by omega⟩ ⟨by omega, by omega⟩ ⟨by omega, by omega⟩ (fun ok => by have e21 := congrArg Int32.toInt ez21; have o1 := ok.1; have o2 := ok.2.1; have w := xpz30 ok (by omega) (by omega); have R : ∀ x, md (J (wo Q p0)) x v18_5.toInt = dt z44 z55 x := (fun x => by have q := md_row (f := J (wo Q p0)) (r := v18_5.toInt.toNat) (a := z44) (b := z55) (by omega) (by rw [ez44, show y37 = wo Q p0 from (wo_of ey37).symm, show z43.toNatClampNeg = 2 * v18_5.toInt.toNat from (by show z43.toInt.toNat = _; omega)]) (by rw [ez55, show y37 = wo Q p0 from (wo_of ey37).symm, show z54.toNatClampNeg = 2 * v18_5.toInt.toNat + 1 from (by show z54.toInt.toNat = _; omega)]) x; rw [show ((v18_5.toInt.toNat : Nat) : Int) = v18_5.toInt by omega] at q; exact q); have ne : ∃ x, dt z44 z55 x = true := Classical.byContradiction (fun n => by have z : cntD (roD (md (J (wo Q p0))) v18_5.toInt.toNat) = 0 := cnt_z.mpr (fun X Y _ _ _ _ => Bool.eq_false_iff.mpr (fun q => by unfold roD at q; rw [Bool.and_eq_true, decide_eq_true_iff] at q; exact n ⟨X, by rw [← R, show v18_5.toInt = Y by omega]; exact q.2⟩)); omega); have e69 : z69 = z44 := (by rw [ez69, ez44, show z68 = z43 from Int32.toInt_inj.mp (by omega)]); have e80 : z80 = z55 := (by rw [ez80, ez55, show z79 = z54 from Int32.toInt_inj.mp (by omega)]); have L1 := lowX xpz56 ne; have U0 := xpz81; rw [e69, e80] at U0; have U1 := highX U0 ne; exact xC_row (D := (md (J (wo Q p0)))) (Y := v18_5.toInt) (l := z56.toInt) (u := z81.toInt) (g18 ok) (fun x y q => by have := md_b ok.2.2 _ _ q; omega) (by rw [R]; exact L1.1) (by rw [R]; exact U1.1) (fun x q => by rw [R] at q; exact ⟨L1.2 x q, U1.2 x q⟩) rfl (by omega) (by omega) (by omega) (by omega)) hP hS (lv_sub hl [6, 3, 2, 1, 0, 7] rfl))
  exact key18 _ 140 (-40) 140 (-40) 0 _ _ _ rfl ⟨by decide +kernel, by decide +kernel⟩ ⟨by decide +kernel, by decide +kernel⟩ ⟨by decide +kernel, by decide +kernel⟩ ⟨by decide +kernel, by decide +kernel⟩ ⟨by decide +kernel, by decide +kernel⟩ (fun ok => Or.inl ⟨fun x y => ah_lo (fun X Y q => by rw [show (0 : Int32).toInt = 0 from by decide +kernel]; have := md_rng q; omega) x y, ⟨by decide +kernel, by decide +kernel⟩, by decide +kernel, by decide +kernel⟩) hP hS (lv_sub hl [5, 4, 3, 2, 1, 0] rfl)

set_option maxHeartbeats 4000000 in
set_option maxRecDepth 100000 in
theorem s_X3_boxesShare (l : Launch) (dC : Nat → ClassId) (dI : Nat → Nat → Nat) (cs : Nat → ClassId) (L : List Nat) (K G : Nat → Nat) (Q : Nat → Nat → Option Nat) (hQ : Sv L K G Q) (x0 m0 : Nat) (tx : GT) (tm : GT × Int) (sz : Nat) (I : Nat → Nat → Int32) (J : Nat → Nat → Int64) (hI : Iv L K x0 m0 tx tm I) (p0 : Nat) (hLp0 : p0 ∈ L) (hKp0 : K p0 = 3) (p1 : Nat) (hLp1 : p1 ∈ L) (hKp1 : K p1 = 3) (p2 : Int32) (p3 : Int32) : Met l yX3_boxesShare (.code yX3_boxesShare cX3_boxesShare 4 (some .boolean) :: pw) ({ frames := 0, cells := 0, slots := 0, locals := 0 }) (sP (dC, dI) cs [.ref p0, .ref p1, .int p2, .int p3] sz L K I J Q) (va_Qi (fun (r : Int32) (_ : Unit) => ((0) ≤ r.toInt ∧ r.toInt ≤ 1) ∧ (¬ r.toInt = 0 → ((-39) ≤ p3.toInt ∧ p3.toInt ≤ (39))) ∧ ((¬ r.toInt = 0 → ¬ (I p0 3).toInt = 0 ∧ ¬ (I p1 3).toInt = 0) ∧ (((-1000000 ≤ p2.toInt ∧ p2.toInt ≤ 1000000) ∧ (-1000000 ≤ p3.toInt ∧ p3.toInt ≤ 1000000)) → (¬ r.toInt = 0 ↔ bxs (I p0 3).toInt (I p0 4).toInt (I p0 5).toInt (I p0 6).toInt (I p0 7).toInt (I p1 3).toInt (I p1 4).toInt (I p1 5).toInt (I p1 6).toInt (I p1 7).toInt p2.toInt p3.toInt)))) (fun _ _ => True) (fun _ => False)) 0 0 (fun _ => False) := by
  refine Met.ofW (cc := cX3_boxesShare) (maxL := 4) (ret := (some .boolean)) (by decide +kernel) rfl ?_
  intro p e s m args below meth c s₁ B hml hv
  obtain ⟨rfl, hsz, hP, hK, hD0, hN⟩ := hv
  have hx := B.exec
  have hb := B.bytes
  have hr := B.returns
  have hts := fun w (h : w ∈ pw) => atoms_spec (ws := Cond.code yX3_boxesShare cX3_boxesShare 4 (some .boolean) :: pw) B.pre w (List.mem_cons_of_mem _ h)
  have hown : s.vm.findClass RX3 = some m.cls := findClass_of_methodNamed B.named
  have hlocks := B.notSynchronized
  subst hsz
  have hBB : 999 ≤ tm.2 ∧ tm.2 ≤ 6000000 := hI.2.2.2.2.1
  have hD := hD0
  obtain ⟨H, hHe⟩ : ∃ H : Heap, H = s.heap := ⟨_, rfl⟩
  have hS : va_S (fun _ => False) s.heap H [] := by rw [hHe]; exact va_S.rf
  rw [← hHe] at hP
  have hl := lv_entry ([.ref p0, .ref p1, .int p2, .int p3]) (n := 4) (Nat.le_of_ble_eq_true rfl)
  rw [lg_entry_eq]
  generalize (lg_sl ([.ref p0, .ref p1, .int p2, .int p3]) ++ List.replicate (4 - (lg_sl ([.ref p0, .ref p1, .int p2, .int p3])).length) Slot.unset).toArray = ls at hl ⊢
  have hl : lv_has ls 4 [(0, .ref p0), (1, .ref p1), (2, .int p2), (3, .int p3)] := hl
  rw [← hHe]
  refine namedW (fun R Qz hR hQz => ?_)
  refine lv_aload_n hx hb dX3_boxesShare_0 rfl (lv_at hl 0 rfl) ?_
  refine p_get hx hb hts inX3 hown hK hP hLp0 hKp0 rfl rfl 3 (by decide) (hts _ pq129) rfl dX3_boxesShare_1 ?_
  refine lv_topi (fun z1 ez1 => ?_)
  refine lv_if_le (tgt := 70) hx hb dX3_boxesShare_4 (by decide) (fun c4 => ?_) (fun c4 => ?_)
  · have t4 := tq_le (k := z1.toInt) (q := (0)) c4 rfl (by decide +kernel)
    refine lv_iconst (v := 0) hx hb dX3_boxesShare_70 (by decide +kernel) ?_
    subst hR; subst hQz
    exact W.zret (v := 0) hx hb hr (by decide +kernel) (fun t ht hW => ⟨⟨0, (), rfl, ⟨⟨by decide +kernel, by decide +kernel⟩, fun h => absurd (by decide +kernel) h, ⟨fun h => absurd (by decide +kernel) h, fun bd => ⟨fun h => absurd (by decide +kernel) h, fun b => by exfalso; unfold bxs at b; first | (rw [← ez1, ← ez8, ← ez15, ← ez19, ← ez28, ← ez34, ← ez41, ← ez45, ← ez54, ← ez60] at b; omega) | (rw [← ez1, ← ez8, ← ez15, ← ez19, ← ez28, ← ez34, ← ez41, ← ez45] at b; omega) | (rw [← ez1, ← ez8, ← ez15, ← ez19, ← ez28, ← ez34] at b; omega) | (rw [← ez1, ← ez8, ← ez15, ← ez19] at b; omega) | (rw [← ez1, ← ez8] at b; omega) | (rw [← ez1] at b; omega)⟩⟩⟩, trivial⟩, hS.F ht⟩) hS.2.2 dX3_boxesShare_71
  · have t4 := tq_nle (k := z1.toInt) (q := (0)) c4 rfl (by decide +kernel)
    refine lv_aload_n hx hb dX3_boxesShare_7 rfl (lv_at hl 1 rfl) ?_
    refine p_get hx hb hts inX3 hown hK hP hLp1 hKp1 rfl rfl 3 (by decide) (hts _ pq129) rfl dX3_boxesShare_8 ?_
    refine lv_topi (fun z8 ez8 => ?_)
    refine lv_if_le (tgt := 70) hx hb dX3_boxesShare_11 (by decide) (fun c11 => ?_) (fun c11 => ?_)
    · have t11 := tq_le (k := z8.toInt) (q := (0)) c11 rfl (by decide +kernel)
      refine lv_iconst (v := 0) hx hb dX3_boxesShare_70 (by decide +kernel) ?_
      subst hR; subst hQz
      exact W.zret (v := 0) hx hb hr (by decide +kernel) (fun t ht hW => ⟨⟨0, (), rfl, ⟨⟨by decide +kernel, by decide +kernel⟩, fun h => absurd (by decide +kernel) h, ⟨fun h => absurd (by decide +kernel) h, fun bd => ⟨fun h => absurd (by decide +kernel) h, fun b => by exfalso; unfold bxs at b; first | (rw [← ez1, ← ez8, ← ez15, ← ez19, ← ez28, ← ez34, ← ez41, ← ez45, ← ez54, ← ez60] at b; omega) | (rw [← ez1, ← ez8, ← ez15, ← ez19, ← ez28, ← ez34, ← ez41, ← ez45] at b; omega) | (rw [← ez1, ← ez8, ← ez15, ← ez19, ← ez28, ← ez34] at b; omega) | (rw [← ez1, ← ez8, ← ez15, ← ez19] at b; omega) | (rw [← ez1, ← ez8] at b; omega) | (rw [← ez1] at b; omega)⟩⟩⟩, trivial⟩, hS.F ht⟩) hS.2.2 dX3_boxesShare_71
    · have t11 := tq_nle (k := z8.toInt) (q := (0)) c11 rfl (by decide +kernel)
      refine lv_aload_n hx hb dX3_boxesShare_14 rfl (lv_at hl 0 rfl) ?_
      refine p_get hx hb hts inX3 hown hK hP hLp0 hKp0 rfl rfl 4 (by decide) (hts _ pq134) rfl dX3_boxesShare_15 ?_
      refine lv_topi (fun z15 ez15 => ?_)
      have bz15 := oI_3_4 (Iv_at hI hLp0 hKp0)
      rw [← ez15] at bz15
      refine lv_aload_n hx hb dX3_boxesShare_18 rfl (lv_at hl 1 rfl) ?_
      refine p_get hx hb hts inX3 hown hK hP hLp1 hKp1 rfl rfl 6 (by decide) (hts _ pq140) rfl dX3_boxesShare_19 ?_
      refine lv_topi (fun z19 ez19 => ?_)
      have bz19 := oI_3_6 (Iv_at hI hLp1 hKp1)
      rw [← ez19] at bz19
      refine lv_iload_n hx hb dX3_boxesShare_22 rfl (lv_at hl 2 rfl) ?_
      refine lv_iadd hx hb dX3_boxesShare_23 ?_
      refine lv_topi (fun z23 ez23 => ?_)
      have rg23p2 := fb_rng p2
      have bz23 := tq_addw (k := z19.toInt) (q := p2.toInt) ez23 rfl rfl
      have rgz23 := fb_rng z23
      refine lv_icmp_gt (tgt := 70) hx hb dX3_boxesShare_24 (by decide) (fun c24 => ?_) (fun c24 => ?_)
      · have t24 := tq_lt (k := z23.toInt) (q := z15.toInt) c24 rfl rfl
        refine lv_iconst (v := 0) hx hb dX3_boxesShare_70 (by decide +kernel) ?_
        subst hR; subst hQz
        exact W.zret (v := 0) hx hb hr (by decide +kernel) (fun t ht hW => ⟨⟨0, (), rfl, ⟨⟨by decide +kernel, by decide +kernel⟩, fun h => absurd (by decide +kernel) h, ⟨fun h => absurd (by decide +kernel) h, fun bd => ⟨fun h => absurd (by decide +kernel) h, fun b => by exfalso; unfold bxs at b; first | (rw [← ez1, ← ez8, ← ez15, ← ez19, ← ez28, ← ez34, ← ez41, ← ez45, ← ez54, ← ez60] at b; omega) | (rw [← ez1, ← ez8, ← ez15, ← ez19, ← ez28, ← ez34, ← ez41, ← ez45] at b; omega) | (rw [← ez1, ← ez8, ← ez15, ← ez19, ← ez28, ← ez34] at b; omega) | (rw [← ez1, ← ez8, ← ez15, ← ez19] at b; omega) | (rw [← ez1, ← ez8] at b; omega) | (rw [← ez1] at b; omega)⟩⟩⟩, trivial⟩, hS.F ht⟩) hS.2.2 dX3_boxesShare_71
      · have t24 := tq_nlt (k := z23.toInt) (q := z15.toInt) c24 rfl rfl
        refine lv_aload_n hx hb dX3_boxesShare_27 rfl (lv_at hl 1 rfl) ?_
        refine p_get hx hb hts inX3 hown hK hP hLp1 hKp1 rfl rfl 4 (by decide) (hts _ pq134) rfl dX3_boxesShare_28 ?_
        refine lv_topi (fun z28 ez28 => ?_)
        have bz28 := oI_3_4 (Iv_at hI hLp1 hKp1)
        rw [← ez28] at bz28
        refine lv_iload_n hx hb dX3_boxesShare_31 rfl (lv_at hl 2 rfl) ?_
        refine lv_iadd hx hb dX3_boxesShare_32 ?_
        refine lv_topi (fun z32 ez32 => ?_)
        have rg32p2 := fb_rng p2
        have bz32 := tq_addw (k := z28.toInt) (q := p2.toInt) ez32 rfl rfl
        have rgz32 := fb_rng z32
        refine lv_aload_n hx hb dX3_boxesShare_33 rfl (lv_at hl 0 rfl) ?_
        refine p_get hx hb hts inX3 hown hK hP hLp0 hKp0 rfl rfl 6 (by decide) (hts _ pq140) rfl dX3_boxesShare_34 ?_
        refine lv_topi (fun z34 ez34 => ?_)
        have bz34 := oI_3_6 (Iv_at hI hLp0 hKp0)
        rw [← ez34] at bz34
        refine lv_icmp_gt (tgt := 70) hx hb dX3_boxesShare_37 (by decide) (fun c37 => ?_) (fun c37 => ?_)
        · have t37 := tq_lt (k := z34.toInt) (q := z32.toInt) c37 rfl rfl
          refine lv_iconst (v := 0) hx hb dX3_boxesShare_70 (by decide +kernel) ?_
          subst hR; subst hQz
          exact W.zret (v := 0) hx hb hr (by decide +kernel) (fun t ht hW => ⟨⟨0, (), rfl, ⟨⟨by decide +kernel, by decide +kernel⟩, fun h => absurd (by decide +kernel) h, ⟨fun h => absurd (by decide +kernel) h, fun bd => ⟨fun h => absurd (by decide +kernel) h, fun b => by exfalso; unfold bxs at b; first | (rw [← ez1, ← ez8, ← ez15, ← ez19, ← ez28, ← ez34, ← ez41, ← ez45, ← ez54, ← ez60] at b; omega) | (rw [← ez1, ← ez8, ← ez15, ← ez19, ← ez28, ← ez34, ← ez41, ← ez45] at b; omega) | (rw [← ez1, ← ez8, ← ez15, ← ez19, ← ez28, ← ez34] at b; omega) | (rw [← ez1, ← ez8, ← ez15, ← ez19] at b; omega) | (rw [← ez1, ← ez8] at b; omega) | (rw [← ez1] at b; omega)⟩⟩⟩, trivial⟩, hS.F ht⟩) hS.2.2 dX3_boxesShare_71
        · have t37 := tq_nlt (k := z34.toInt) (q := z32.toInt) c37 rfl rfl
          refine lv_aload_n hx hb dX3_boxesShare_40 rfl (lv_at hl 0 rfl) ?_
          refine p_get hx hb hts inX3 hown hK hP hLp0 hKp0 rfl rfl 5 (by decide) (hts _ pq137) rfl dX3_boxesShare_41 ?_
          refine lv_topi (fun z41 ez41 => ?_)
          have bz41 := oI_3_5 (Iv_at hI hLp0 hKp0)
          rw [← ez41] at bz41
          refine lv_aload_n hx hb dX3_boxesShare_44 rfl (lv_at hl 1 rfl) ?_
          refine p_get hx hb hts inX3 hown hK hP hLp1 hKp1 rfl rfl 7 (by decide) (hts _ pq143) rfl dX3_boxesShare_45 ?_
          refine lv_topi (fun z45 ez45 => ?_)
          have bz45 := oI_3_7 (Iv_at hI hLp1 hKp1)
          rw [← ez45] at bz45
          refine lv_iload_n hx hb dX3_boxesShare_48 rfl (lv_at hl 3 rfl) ?_
          refine lv_iadd hx hb dX3_boxesShare_49 ?_
          refine lv_topi (fun z49 ez49 => ?_)
          have rg49p3 := fb_rng p3
          have bz49 := tq_addw (k := z45.toInt) (q := p3.toInt) ez49 rfl rfl
          have rgz49 := fb_rng z49
          refine lv_icmp_gt (tgt := 70) hx hb dX3_boxesShare_50 (by decide) (fun c50 => ?_) (fun c50 => ?_)
          · have t50 := tq_lt (k := z49.toInt) (q := z41.toInt) c50 rfl rfl
            refine lv_iconst (v := 0) hx hb dX3_boxesShare_70 (by decide +kernel) ?_
            subst hR; subst hQz
            exact W.zret (v := 0) hx hb hr (by decide +kernel) (fun t ht hW => ⟨⟨0, (), rfl, ⟨⟨by decide +kernel, by decide +kernel⟩, fun h => absurd (by decide +kernel) h, ⟨fun h => absurd (by decide +kernel) h, fun bd => ⟨fun h => absurd (by decide +kernel) h, fun b => by exfalso; unfold bxs at b; first | (rw [← ez1, ← ez8, ← ez15, ← ez19, ← ez28, ← ez34, ← ez41, ← ez45, ← ez54, ← ez60] at b; omega) | (rw [← ez1, ← ez8, ← ez15, ← ez19, ← ez28, ← ez34, ← ez41, ← ez45] at b; omega) | (rw [← ez1, ← ez8, ← ez15, ← ez19, ← ez28, ← ez34] at b; omega) | (rw [← ez1, ← ez8, ← ez15, ← ez19] at b; omega) | (rw [← ez1, ← ez8] at b; omega) | (rw [← ez1] at b; omega)⟩⟩⟩, trivial⟩, hS.F ht⟩) hS.2.2 dX3_boxesShare_71
          · have t50 := tq_nlt (k := z49.toInt) (q := z41.toInt) c50 rfl rfl
            refine lv_aload_n hx hb dX3_boxesShare_53 rfl (lv_at hl 1 rfl) ?_
            refine p_get hx hb hts inX3 hown hK hP hLp1 hKp1 rfl rfl 5 (by decide) (hts _ pq137) rfl dX3_boxesShare_54 ?_
            refine lv_topi (fun z54 ez54 => ?_)
            have bz54 := oI_3_5 (Iv_at hI hLp1 hKp1)
            rw [← ez54] at bz54
            refine lv_iload_n hx hb dX3_boxesShare_57 rfl (lv_at hl 3 rfl) ?_
            refine lv_iadd hx hb dX3_boxesShare_58 ?_
            refine lv_topi (fun z58 ez58 => ?_)
            have rg58p3 := fb_rng p3
            have bz58 := tq_addw (k := z54.toInt) (q := p3.toInt) ez58 rfl rfl
            have rgz58 := fb_rng z58
            refine lv_aload_n hx hb dX3_boxesShare_59 rfl (lv_at hl 0 rfl) ?_
            refine p_get hx hb hts inX3 hown hK hP hLp0 hKp0 rfl rfl 7 (by decide) (hts _ pq143) rfl dX3_boxesShare_60 ?_
            refine lv_topi (fun z60 ez60 => ?_)
            have bz60 := oI_3_7 (Iv_at hI hLp0 hKp0)
            rw [← ez60] at bz60
            refine lv_icmp_gt (tgt := 70) hx hb dX3_boxesShare_63 (by decide) (fun c63 => ?_) (fun c63 => ?_)
            · have t63 := tq_lt (k := z60.toInt) (q := z58.toInt) c63 rfl rfl
              refine lv_iconst (v := 0) hx hb dX3_boxesShare_70 (by decide +kernel) ?_
              subst hR; subst hQz
              exact W.zret (v := 0) hx hb hr (by decide +kernel) (fun t ht hW => ⟨⟨0, (), rfl, ⟨⟨by decide +kernel, by decide +kernel⟩, fun h => absurd (by decide +kernel) h, ⟨fun h => absurd (by decide +kernel) h, fun bd => ⟨fun h => absurd (by decide +kernel) h, fun b => by exfalso; unfold bxs at b; first | (rw [← ez1, ← ez8, ← ez15, ← ez19, ← ez28, ← ez34, ← ez41, ← ez45, ← ez54, ← ez60] at b; omega) | (rw [← ez1, ← ez8, ← ez15, ← ez19, ← ez28, ← ez34, ← ez41, ← ez45] at b; omega) | (rw [← ez1, ← ez8, ← ez15, ← ez19, ← ez28, ← ez34] at b; omega) | (rw [← ez1, ← ez8, ← ez15, ← ez19] at b; omega) | (rw [← ez1, ← ez8] at b; omega) | (rw [← ez1] at b; omega)⟩⟩⟩, trivial⟩, hS.F ht⟩) hS.2.2 dX3_boxesShare_71
            · have t63 := tq_nlt (k := z60.toInt) (q := z58.toInt) c63 rfl rfl
              have ra := oI_3_t (Iv_at hI hLp0 hKp0)
              rw [← ez1, ← ez41] at ra
              have rb := oI_3_t (Iv_at hI hLp1 hKp1)
              rw [← ez8, ← ez54, ← ez45] at rb
              refine lv_iconst (v := 1) hx hb dX3_boxesShare_66 (by decide +kernel) ?_
              refine lv_goto (tgt := 71) hx hb dX3_boxesShare_67 (by decide) ?_
              subst hR; subst hQz
              exact W.zret (v := 1) hx hb hr (by decide +kernel) (fun t ht hW => ⟨⟨1, (), rfl, ⟨⟨by decide +kernel, by decide +kernel⟩, fun _ => ⟨by omega, by omega⟩, ⟨fun _ => ⟨by rw [← ez1]; omega, by rw [← ez8]; omega⟩, fun bd => ⟨fun _ => by unfold bxs; rw [← ez1, ← ez8, ← ez15, ← ez19, ← ez28, ← ez34, ← ez41, ← ez45, ← ez54, ← ez60]; omega, fun _ => by decide +kernel⟩⟩⟩, trivial⟩, hS.F ht⟩) hS.2.2 dX3_boxesShare_71
