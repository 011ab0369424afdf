abbrev cX6_falls : ByteArray := prog_1_method_21_code
abbrev cX6_push : ByteArray := prog_1_method_20_code
abbrev cX6_slide : ByteArray := prog_1_method_19_code
abbrev cX6_ticks : ByteArray := prog_1_method_22_code
def yX6_falls : MethodName := ⟨RX6, "falls", "()I"⟩
def yX6_push : MethodName := ⟨RX6, "push", "(III)I"⟩
def yX6_slide : MethodName := ⟨RX6, "slide", "(III)I"⟩
def yX6_ticks : MethodName := ⟨RX6, "ticks", "(I)I"⟩
theorem dX6_falls_0 : decode cX6_falls 0 = .ok (.aload_n 0, 1) := by decide +kernel
theorem dX6_falls_1 : decode cX6_falls 1 = .ok (.getfield 20, 3) := by decide +kernel
theorem dX6_falls_4 : decode cX6_falls 4 = .ok (.getfield 83, 3) := by decide +kernel
theorem dX6_falls_7 : decode cX6_falls 7 = .ok (.ifCond .ne 5, 3) := by decide +kernel
theorem dX6_falls_10 : decode cX6_falls 10 = .ok (.iconst (-1), 1) := by decide +kernel
theorem dX6_falls_11 : decode cX6_falls 11 = .ok (.ireturn, 1) := by decide +kernel
theorem dX6_falls_12 : decode cX6_falls 12 = .ok (.iconst 0, 1) := by decide +kernel
theorem dX6_falls_13 : decode cX6_falls 13 = .ok (.istore_n 1, 1) := by decide +kernel
theorem dX6_falls_14 : decode cX6_falls 14 = .ok (.sipush 19981, 3) := by decide +kernel
theorem dX6_falls_17 : decode cX6_falls 17 = .ok (.istore_n 2, 1) := by decide +kernel
theorem dX6_falls_18 : decode cX6_falls 18 = .ok (.iconst 0, 1) := by decide +kernel
theorem dX6_falls_19 : decode cX6_falls 19 = .ok (.istore_n 3, 1) := by decide +kernel
theorem dX6_falls_20 : decode cX6_falls 20 = .ok (.iload_n 3, 1) := by decide +kernel
theorem dX6_falls_21 : decode cX6_falls 21 = .ok (.iload_n 2, 1) := by decide +kernel
theorem dX6_falls_22 : decode cX6_falls 22 = .ok (.if_icmp .ge 92, 3) := by decide +kernel
theorem dX6_falls_25 : decode cX6_falls 25 = .ok (.iload_n 1, 1) := by decide +kernel
theorem dX6_falls_26 : decode cX6_falls 26 = .ok (.istore 4, 2) := by decide +kernel
theorem dX6_falls_28 : decode cX6_falls 28 = .ok (.iconst 0, 1) := by decide +kernel
theorem dX6_falls_29 : decode cX6_falls 29 = .ok (.istore 5, 2) := by decide +kernel
theorem dX6_falls_31 : decode cX6_falls 31 = .ok (.iload 5, 2) := by decide +kernel
theorem dX6_falls_33 : decode cX6_falls 33 = .ok (.aload_n 0, 1) := by decide +kernel
theorem dX6_falls_34 : decode cX6_falls 34 = .ok (.getfield 20, 3) := by decide +kernel
theorem dX6_falls_37 : decode cX6_falls 37 = .ok (.getfield 83, 3) := by decide +kernel
theorem dX6_falls_40 : decode cX6_falls 40 = .ok (.if_icmp .ge 59, 3) := by decide +kernel
theorem dX6_falls_43 : decode cX6_falls 43 = .ok (.aload_n 0, 1) := by decide +kernel
theorem dX6_falls_44 : decode cX6_falls 44 = .ok (.getfield 41, 3) := by decide +kernel
theorem dX6_falls_47 : decode cX6_falls 47 = .ok (.iload 5, 2) := by decide +kernel
theorem dX6_falls_49 : decode cX6_falls 49 = .ok (.iconst 0, 1) := by decide +kernel
theorem dX6_falls_50 : decode cX6_falls 50 = .ok (.sipush 200, 3) := by decide +kernel
theorem dX6_falls_53 : decode cX6_falls 53 = .ok (.invokevirtual 204, 3) := by decide +kernel
theorem dX6_falls_56 : decode cX6_falls 56 = .ok (.aload_n 0, 1) := by decide +kernel
theorem dX6_falls_57 : decode cX6_falls 57 = .ok (.getfield 41, 3) := by decide +kernel
theorem dX6_falls_60 : decode cX6_falls 60 = .ok (.getfield 208, 3) := by decide +kernel
theorem dX6_falls_63 : decode cX6_falls 63 = .ok (.ifCond .le 30, 3) := by decide +kernel
theorem dX6_falls_66 : decode cX6_falls 66 = .ok (.iload_n 1, 1) := by decide +kernel
theorem dX6_falls_67 : decode cX6_falls 67 = .ok (.ifCond .ne 7, 3) := by decide +kernel
theorem dX6_falls_70 : decode cX6_falls 70 = .ok (.aload_n 0, 1) := by decide +kernel
theorem dX6_falls_71 : decode cX6_falls 71 = .ok (.invokevirtual 106, 3) := by decide +kernel
theorem dX6_falls_74 : decode cX6_falls 74 = .ok (.aload_n 0, 1) := by decide +kernel
theorem dX6_falls_75 : decode cX6_falls 75 = .ok (.getfield 41, 3) := by decide +kernel
theorem dX6_falls_78 : decode cX6_falls 78 = .ok (.iload 5, 2) := by decide +kernel
theorem dX6_falls_80 : decode cX6_falls 80 = .ok (.invokevirtual 211, 3) := by decide +kernel
theorem dX6_falls_83 : decode cX6_falls 83 = .ok (.iload_n 1, 1) := by decide +kernel
theorem dX6_falls_84 : decode cX6_falls 84 = .ok (.aload_n 0, 1) := by decide +kernel
theorem dX6_falls_85 : decode cX6_falls 85 = .ok (.getfield 41, 3) := by decide +kernel
theorem dX6_falls_88 : decode cX6_falls 88 = .ok (.getfield 208, 3) := by decide +kernel
theorem dX6_falls_91 : decode cX6_falls 91 = .ok (.iadd, 1) := by decide +kernel
theorem dX6_falls_92 : decode cX6_falls 92 = .ok (.istore_n 1, 1) := by decide +kernel
theorem dX6_falls_93 : decode cX6_falls 93 = .ok (.iinc 5 1, 3) := by decide +kernel
theorem dX6_falls_96 : decode cX6_falls 96 = .ok (.goto (-65), 3) := by decide +kernel
theorem dX6_falls_99 : decode cX6_falls 99 = .ok (.iload_n 1, 1) := by decide +kernel
theorem dX6_falls_100 : decode cX6_falls 100 = .ok (.iload 4, 2) := by decide +kernel
theorem dX6_falls_102 : decode cX6_falls 102 = .ok (.if_icmp .ne 6, 3) := by decide +kernel
theorem dX6_falls_105 : decode cX6_falls 105 = .ok (.goto 9, 3) := by decide +kernel
theorem dX6_falls_108 : decode cX6_falls 108 = .ok (.iinc 3 1, 3) := by decide +kernel
theorem dX6_falls_111 : decode cX6_falls 111 = .ok (.goto (-91), 3) := by decide +kernel
theorem dX6_falls_114 : decode cX6_falls 114 = .ok (.iload_n 1, 1) := by decide +kernel
theorem dX6_falls_115 : decode cX6_falls 115 = .ok (.ifCond .ne 8, 3) := by decide +kernel
theorem dX6_falls_118 : decode cX6_falls 118 = .ok (.bipush (-2), 2) := by decide +kernel
theorem dX6_falls_120 : decode cX6_falls 120 = .ok (.goto 4, 3) := by decide +kernel
theorem dX6_falls_123 : decode cX6_falls 123 = .ok (.iload_n 1, 1) := by decide +kernel
theorem dX6_falls_124 : decode cX6_falls 124 = .ok (.ireturn, 1) := by decide +kernel
theorem dX6_push_0 : decode cX6_push 0 = .ok (.aload_n 0, 1) := by decide +kernel
theorem dX6_push_1 : decode cX6_push 1 = .ok (.iload_n 1, 1) := by decide +kernel
theorem dX6_push_2 : decode cX6_push 2 = .ok (.invokevirtual 86, 3) := by decide +kernel
theorem dX6_push_5 : decode cX6_push 5 = .ok (.ifCond .eq 23, 3) := by decide +kernel
theorem dX6_push_8 : decode cX6_push 8 = .ok (.iload_n 2, 1) := by decide +kernel
theorem dX6_push_9 : decode cX6_push 9 = .ok (.sipush 200, 3) := by decide +kernel
theorem dX6_push_12 : decode cX6_push 12 = .ok (.invokestatic 90, 3) := by decide +kernel
theorem dX6_push_15 : decode cX6_push 15 = .ok (.ifCond .eq 13, 3) := by decide +kernel
theorem dX6_push_18 : decode cX6_push 18 = .ok (.iload_n 3, 1) := by decide +kernel
theorem dX6_push_19 : decode cX6_push 19 = .ok (.sipush 200, 3) := by decide +kernel
theorem dX6_push_22 : decode cX6_push 22 = .ok (.invokestatic 90, 3) := by decide +kernel
theorem dX6_push_25 : decode cX6_push 25 = .ok (.ifCond .ne 5, 3) := by decide +kernel
theorem dX6_push_28 : decode cX6_push 28 = .ok (.iconst (-1), 1) := by decide +kernel
theorem dX6_push_29 : decode cX6_push 29 = .ok (.ireturn, 1) := by decide +kernel
theorem dX6_push_30 : decode cX6_push 30 = .ok (.iload_n 2, 1) := by decide +kernel
theorem dX6_push_31 : decode cX6_push 31 = .ok (.iload_n 3, 1) := by decide +kernel
theorem dX6_push_32 : decode cX6_push 32 = .ok (.invokestatic 214, 3) := by decide +kernel
theorem dX6_push_35 : decode cX6_push 35 = .ok (.istore 4, 2) := by decide +kernel
theorem dX6_push_37 : decode cX6_push 37 = .ok (.iconst 0, 1) := by decide +kernel
theorem dX6_push_38 : decode cX6_push 38 = .ok (.istore 5, 2) := by decide +kernel
theorem dX6_push_40 : decode cX6_push 40 = .ok (.iconst 1, 1) := by decide +kernel
theorem dX6_push_41 : decode cX6_push 41 = .ok (.istore 6, 2) := by decide +kernel
theorem dX6_push_43 : decode cX6_push 43 = .ok (.iload 6, 2) := by decide +kernel
theorem dX6_push_45 : decode cX6_push 45 = .ok (.iload 4, 2) := by decide +kernel
theorem dX6_push_47 : decode cX6_push 47 = .ok (.if_icmp .gt 110, 3) := by decide +kernel
theorem dX6_push_50 : decode cX6_push 50 = .ok (.iload 6, 2) := by decide +kernel
theorem dX6_push_52 : decode cX6_push 52 = .ok (.iload_n 2, 1) := by decide +kernel
theorem dX6_push_53 : decode cX6_push 53 = .ok (.iload 4, 2) := by decide +kernel
theorem dX6_push_55 : decode cX6_push 55 = .ok (.invokestatic 218, 3) := by decide +kernel
theorem dX6_push_58 : decode cX6_push 58 = .ok (.iload 6, 2) := by decide +kernel
theorem dX6_push_60 : decode cX6_push 60 = .ok (.iconst 1, 1) := by decide +kernel
theorem dX6_push_61 : decode cX6_push 61 = .ok (.isub, 1) := by decide +kernel
theorem dX6_push_62 : decode cX6_push 62 = .ok (.iload_n 2, 1) := by decide +kernel
theorem dX6_push_63 : decode cX6_push 63 = .ok (.iload 4, 2) := by decide +kernel
theorem dX6_push_65 : decode cX6_push 65 = .ok (.invokestatic 218, 3) := by decide +kernel
theorem dX6_push_68 : decode cX6_push 68 = .ok (.isub, 1) := by decide +kernel
theorem dX6_push_69 : decode cX6_push 69 = .ok (.istore 7, 2) := by decide +kernel
theorem dX6_push_71 : decode cX6_push 71 = .ok (.iload 6, 2) := by decide +kernel
theorem dX6_push_73 : decode cX6_push 73 = .ok (.iload_n 3, 1) := by decide +kernel
theorem dX6_push_74 : decode cX6_push 74 = .ok (.iload 4, 2) := by decide +kernel
theorem dX6_push_76 : decode cX6_push 76 = .ok (.invokestatic 218, 3) := by decide +kernel
theorem dX6_push_79 : decode cX6_push 79 = .ok (.iload 6, 2) := by decide +kernel
theorem dX6_push_81 : decode cX6_push 81 = .ok (.iconst 1, 1) := by decide +kernel
theorem dX6_push_82 : decode cX6_push 82 = .ok (.isub, 1) := by decide +kernel
theorem dX6_push_83 : decode cX6_push 83 = .ok (.iload_n 3, 1) := by decide +kernel
theorem dX6_push_84 : decode cX6_push 84 = .ok (.iload 4, 2) := by decide +kernel
theorem dX6_push_86 : decode cX6_push 86 = .ok (.invokestatic 218, 3) := by decide +kernel
theorem dX6_push_89 : decode cX6_push 89 = .ok (.isub, 1) := by decide +kernel
theorem dX6_push_90 : decode cX6_push 90 = .ok (.istore 8, 2) := by decide +kernel
theorem dX6_push_92 : decode cX6_push 92 = .ok (.aload_n 0, 1) := by decide +kernel
theorem dX6_push_93 : decode cX6_push 93 = .ok (.getfield 41, 3) := by decide +kernel
theorem dX6_push_96 : decode cX6_push 96 = .ok (.iload_n 1, 1) := by decide +kernel
theorem dX6_push_97 : decode cX6_push 97 = .ok (.iload 7, 2) := by decide +kernel
theorem dX6_push_99 : decode cX6_push 99 = .ok (.iload 8, 2) := by decide +kernel
theorem dX6_push_101 : decode cX6_push 101 = .ok (.invokevirtual 222, 3) := by decide +kernel
theorem dX6_push_104 : decode cX6_push 104 = .ok (.istore 9, 2) := by decide +kernel
theorem dX6_push_106 : decode cX6_push 106 = .ok (.aload_n 0, 1) := by decide +kernel
theorem dX6_push_107 : decode cX6_push 107 = .ok (.getfield 41, 3) := by decide +kernel
theorem dX6_push_110 : decode cX6_push 110 = .ok (.iload 9, 2) := by decide +kernel
theorem dX6_push_112 : decode cX6_push 112 = .ok (.iload 7, 2) := by decide +kernel
theorem dX6_push_114 : decode cX6_push 114 = .ok (.iload 8, 2) := by decide +kernel
theorem dX6_push_116 : decode cX6_push 116 = .ok (.invokevirtual 225, 3) := by decide +kernel
theorem dX6_push_119 : decode cX6_push 119 = .ok (.ifCond .ne 6, 3) := by decide +kernel
theorem dX6_push_122 : decode cX6_push 122 = .ok (.goto 35, 3) := by decide +kernel
theorem dX6_push_125 : decode cX6_push 125 = .ok (.iload 5, 2) := by decide +kernel
theorem dX6_push_127 : decode cX6_push 127 = .ok (.ifCond .ne 7, 3) := by decide +kernel
theorem dX6_push_130 : decode cX6_push 130 = .ok (.aload_n 0, 1) := by decide +kernel
theorem dX6_push_131 : decode cX6_push 131 = .ok (.invokevirtual 106, 3) := by decide +kernel
theorem dX6_push_134 : decode cX6_push 134 = .ok (.aload_n 0, 1) := by decide +kernel
theorem dX6_push_135 : decode cX6_push 135 = .ok (.getfield 41, 3) := by decide +kernel
theorem dX6_push_138 : decode cX6_push 138 = .ok (.iload 9, 2) := by decide +kernel
theorem dX6_push_140 : decode cX6_push 140 = .ok (.iload 7, 2) := by decide +kernel
theorem dX6_push_142 : decode cX6_push 142 = .ok (.iload 8, 2) := by decide +kernel
theorem dX6_push_144 : decode cX6_push 144 = .ok (.invokevirtual 229, 3) := by decide +kernel
theorem dX6_push_147 : decode cX6_push 147 = .ok (.iload 6, 2) := by decide +kernel
theorem dX6_push_149 : decode cX6_push 149 = .ok (.istore 5, 2) := by decide +kernel
theorem dX6_push_151 : decode cX6_push 151 = .ok (.iinc 6 1, 3) := by decide +kernel
theorem dX6_push_154 : decode cX6_push 154 = .ok (.goto (-111), 3) := by decide +kernel
theorem dX6_push_157 : decode cX6_push 157 = .ok (.iload 5, 2) := by decide +kernel
theorem dX6_push_159 : decode cX6_push 159 = .ok (.ifCond .ne 8, 3) := by decide +kernel
theorem dX6_push_162 : decode cX6_push 162 = .ok (.bipush (-2), 2) := by decide +kernel
theorem dX6_push_164 : decode cX6_push 164 = .ok (.goto 5, 3) := by decide +kernel
theorem dX6_push_167 : decode cX6_push 167 = .ok (.iload 5, 2) := by decide +kernel
theorem dX6_push_169 : decode cX6_push 169 = .ok (.ireturn, 1) := by decide +kernel
theorem dX6_slide_0 : decode cX6_slide 0 = .ok (.aload_n 0, 1) := by decide +kernel
theorem dX6_slide_1 : decode cX6_slide 1 = .ok (.iload_n 1, 1) := by decide +kernel
theorem dX6_slide_2 : decode cX6_slide 2 = .ok (.invokevirtual 86, 3) := by decide +kernel
theorem dX6_slide_5 : decode cX6_slide 5 = .ok (.ifCond .eq 23, 3) := by decide +kernel
theorem dX6_slide_8 : decode cX6_slide 8 = .ok (.iload_n 2, 1) := by decide +kernel
theorem dX6_slide_9 : decode cX6_slide 9 = .ok (.sipush 200, 3) := by decide +kernel
theorem dX6_slide_12 : decode cX6_slide 12 = .ok (.invokestatic 90, 3) := by decide +kernel
theorem dX6_slide_15 : decode cX6_slide 15 = .ok (.ifCond .eq 13, 3) := by decide +kernel
theorem dX6_slide_18 : decode cX6_slide 18 = .ok (.iload_n 3, 1) := by decide +kernel
theorem dX6_slide_19 : decode cX6_slide 19 = .ok (.sipush 200, 3) := by decide +kernel
theorem dX6_slide_22 : decode cX6_slide 22 = .ok (.invokestatic 90, 3) := by decide +kernel
theorem dX6_slide_25 : decode cX6_slide 25 = .ok (.ifCond .ne 5, 3) := by decide +kernel
theorem dX6_slide_28 : decode cX6_slide 28 = .ok (.iconst (-1), 1) := by decide +kernel
theorem dX6_slide_29 : decode cX6_slide 29 = .ok (.ireturn, 1) := by decide +kernel
theorem dX6_slide_30 : decode cX6_slide 30 = .ok (.aload_n 0, 1) := by decide +kernel
theorem dX6_slide_31 : decode cX6_slide 31 = .ok (.getfield 41, 3) := by decide +kernel
theorem dX6_slide_34 : decode cX6_slide 34 = .ok (.iload_n 1, 1) := by decide +kernel
theorem dX6_slide_35 : decode cX6_slide 35 = .ok (.iload_n 2, 1) := by decide +kernel
theorem dX6_slide_36 : decode cX6_slide 36 = .ok (.iload_n 3, 1) := by decide +kernel
theorem dX6_slide_37 : decode cX6_slide 37 = .ok (.invokevirtual 204, 3) := by decide +kernel
theorem dX6_slide_40 : decode cX6_slide 40 = .ok (.aload_n 0, 1) := by decide +kernel
theorem dX6_slide_41 : decode cX6_slide 41 = .ok (.getfield 41, 3) := by decide +kernel
theorem dX6_slide_44 : decode cX6_slide 44 = .ok (.getfield 208, 3) := by decide +kernel
theorem dX6_slide_47 : decode cX6_slide 47 = .ok (.ifCond .ne 6, 3) := by decide +kernel
theorem dX6_slide_50 : decode cX6_slide 50 = .ok (.bipush (-2), 2) := by decide +kernel
theorem dX6_slide_52 : decode cX6_slide 52 = .ok (.ireturn, 1) := by decide +kernel
theorem dX6_slide_53 : decode cX6_slide 53 = .ok (.aload_n 0, 1) := by decide +kernel
theorem dX6_slide_54 : decode cX6_slide 54 = .ok (.invokevirtual 106, 3) := by decide +kernel
theorem dX6_slide_57 : decode cX6_slide 57 = .ok (.aload_n 0, 1) := by decide +kernel
theorem dX6_slide_58 : decode cX6_slide 58 = .ok (.getfield 41, 3) := by decide +kernel
theorem dX6_slide_61 : decode cX6_slide 61 = .ok (.iload_n 1, 1) := by decide +kernel
theorem dX6_slide_62 : decode cX6_slide 62 = .ok (.invokevirtual 211, 3) := by decide +kernel
theorem dX6_slide_65 : decode cX6_slide 65 = .ok (.aload_n 0, 1) := by decide +kernel
theorem dX6_slide_66 : decode cX6_slide 66 = .ok (.getfield 41, 3) := by decide +kernel
theorem dX6_slide_69 : decode cX6_slide 69 = .ok (.getfield 208, 3) := by decide +kernel
theorem dX6_slide_72 : decode cX6_slide 72 = .ok (.ireturn, 1) := by decide +kernel
theorem dX6_ticks_0 : decode cX6_ticks 0 = .ok (.iload_n 1, 1) := by decide +kernel
theorem dX6_ticks_1 : decode cX6_ticks 1 = .ok (.iconst 1, 1) := by decide +kernel
theorem dX6_ticks_2 : decode cX6_ticks 2 = .ok (.if_icmp .lt 9, 3) := by decide +kernel
theorem dX6_ticks_5 : decode cX6_ticks 5 = .ok (.iload_n 1, 1) := by decide +kernel
theorem dX6_ticks_6 : decode cX6_ticks 6 = .ok (.bipush 20, 2) := by decide +kernel
theorem dX6_ticks_8 : decode cX6_ticks 8 = .ok (.if_icmp .le 5, 3) := by decide +kernel
theorem dX6_ticks_11 : decode cX6_ticks 11 = .ok (.iconst (-1), 1) := by decide +kernel
theorem dX6_ticks_12 : decode cX6_ticks 12 = .ok (.ireturn, 1) := by decide +kernel
theorem dX6_ticks_13 : decode cX6_ticks 13 = .ok (.aload_n 0, 1) := by decide +kernel
theorem dX6_ticks_14 : decode cX6_ticks 14 = .ok (.invokevirtual 106, 3) := by decide +kernel
theorem dX6_ticks_17 : decode cX6_ticks 17 = .ok (.iconst 0, 1) := by decide +kernel
theorem dX6_ticks_18 : decode cX6_ticks 18 = .ok (.istore_n 2, 1) := by decide +kernel
theorem dX6_ticks_19 : decode cX6_ticks 19 = .ok (.iconst 0, 1) := by decide +kernel
theorem dX6_ticks_20 : decode cX6_ticks 20 = .ok (.istore_n 3, 1) := by decide +kernel
theorem dX6_ticks_21 : decode cX6_ticks 21 = .ok (.iload_n 3, 1) := by decide +kernel
theorem dX6_ticks_22 : decode cX6_ticks 22 = .ok (.iload_n 1, 1) := by decide +kernel
theorem dX6_ticks_23 : decode cX6_ticks 23 = .ok (.if_icmp .ge 42, 3) := by decide +kernel
theorem dX6_ticks_26 : decode cX6_ticks 26 = .ok (.iconst 0, 1) := by decide +kernel
theorem dX6_ticks_27 : decode cX6_ticks 27 = .ok (.istore 4, 2) := by decide +kernel
theorem dX6_ticks_29 : decode cX6_ticks 29 = .ok (.iload 4, 2) := by decide +kernel
theorem dX6_ticks_31 : decode cX6_ticks 31 = .ok (.aload_n 0, 1) := by decide +kernel
theorem dX6_ticks_32 : decode cX6_ticks 32 = .ok (.getfield 20, 3) := by decide +kernel
theorem dX6_ticks_35 : decode cX6_ticks 35 = .ok (.getfield 83, 3) := by decide +kernel
theorem dX6_ticks_38 : decode cX6_ticks 38 = .ok (.if_icmp .ge 21, 3) := by decide +kernel
theorem dX6_ticks_41 : decode cX6_ticks 41 = .ok (.aload_n 0, 1) := by decide +kernel
theorem dX6_ticks_42 : decode cX6_ticks 42 = .ok (.iload 4, 2) := by decide +kernel
theorem dX6_ticks_44 : decode cX6_ticks 44 = .ok (.invokevirtual 232, 3) := by decide +kernel
theorem dX6_ticks_47 : decode cX6_ticks 47 = .ok (.ifCond .eq 6, 3) := by decide +kernel
theorem dX6_ticks_50 : decode cX6_ticks 50 = .ok (.iinc 2 1, 3) := by decide +kernel
theorem dX6_ticks_53 : decode cX6_ticks 53 = .ok (.iinc 4 1, 3) := by decide +kernel
theorem dX6_ticks_56 : decode cX6_ticks 56 = .ok (.goto (-27), 3) := by decide +kernel
theorem dX6_ticks_59 : decode cX6_ticks 59 = .ok (.iinc 3 1, 3) := by decide +kernel
theorem dX6_ticks_62 : decode cX6_ticks 62 = .ok (.goto (-41), 3) := by decide +kernel
theorem dX6_ticks_65 : decode cX6_ticks 65 = .ok (.aload_n 0, 1) := by decide +kernel
theorem dX6_ticks_66 : decode cX6_ticks 66 = .ok (.getfield 20, 3) := by decide +kernel
theorem dX6_ticks_69 : decode cX6_ticks 69 = .ok (.dup, 1) := by decide +kernel
theorem dX6_ticks_70 : decode cX6_ticks 70 = .ok (.getfield 235, 3) := by decide +kernel
theorem dX6_ticks_73 : decode cX6_ticks 73 = .ok (.iload_n 1, 1) := by decide +kernel
theorem dX6_ticks_74 : decode cX6_ticks 74 = .ok (.iadd, 1) := by decide +kernel
theorem dX6_ticks_75 : decode cX6_ticks 75 = .ok (.putfield 235, 3) := by decide +kernel
theorem dX6_ticks_78 : decode cX6_ticks 78 = .ok (.iload_n 2, 1) := by decide +kernel
theorem dX6_ticks_79 : decode cX6_ticks 79 = .ok (.ireturn, 1) := by decide +kernel
set_option maxRecDepth 100000 in
theorem pq6 : Cond.selects RX6 yX6_stopsInTick yX6_stopsInTick ∈ pw := pw_mem (i := 6) (by decide +kernel) rfl
set_option maxRecDepth 100000 in
theorem pq799 : Cond.methodLink RX6 222 yX5_goingBy ∈ pw := pw_mem (i := 799) (by decide +kernel) rfl
set_option maxRecDepth 100000 in
theorem pq800 : Cond.instanceMethod yX5_goingBy ∈ pw := pw_mem (i := 800) (by decide +kernel) rfl
set_option maxRecDepth 100000 in
theorem pq801 : Cond.selects RX5 yX5_goingBy yX5_goingBy ∈ pw := pw_mem (i := 801) (by decide +kernel) rfl
set_option maxRecDepth 100000 in
theorem pq802 : Cond.code yX5_goingBy cX5_goingBy 10 (some .int) ∈ pw := pw_mem (i := 802) (by rfl) rfl
set_option maxRecDepth 100000 in
theorem pq813 : Cond.methodLink RX6 225 yX5_canAllGo ∈ pw := pw_mem (i := 813) (by decide +kernel) rfl
set_option maxRecDepth 100000 in
theorem pq814 : Cond.instanceMethod yX5_canAllGo ∈ pw := pw_mem (i := 814) (by decide +kernel) rfl
set_option maxRecDepth 100000 in
theorem pq815 : Cond.selects RX5 yX5_canAllGo yX5_canAllGo ∈ pw := pw_mem (i := 815) (by decide +kernel) rfl
set_option maxRecDepth 100000 in
theorem pq816 : Cond.code yX5_canAllGo cX5_canAllGo 6 (some .boolean) ∈ pw := pw_mem (i := 816) (by rfl) rfl
set_option maxRecDepth 100000 in
theorem pq817 : Cond.methodLink RX6 229 yX5_moveAll ∈ pw := pw_mem (i := 817) (by decide +kernel) rfl
set_option maxRecDepth 100000 in
theorem pq818 : Cond.instanceMethod yX5_moveAll ∈ pw := pw_mem (i := 818) (by decide +kernel) rfl
set_option maxRecDepth 100000 in
theorem pq819 : Cond.selects RX5 yX5_moveAll yX5_moveAll ∈ pw := pw_mem (i := 819) (by decide +kernel) rfl
set_option maxRecDepth 100000 in
theorem pq820 : Cond.code yX5_moveAll cX5_moveAll 5 none ∈ pw := pw_mem (i := 820) (by rfl) rfl
set_option maxRecDepth 100000 in
theorem pq829 : Cond.methodLink RX6 232 yX6_stopsInTick ∈ pw := pw_mem (i := 829) (by decide +kernel) rfl
set_option maxRecDepth 100000 in
theorem pq831 : Cond.instanceMethod yX6_stopsInTick ∈ pw := pw_mem (i := 831) (by decide +kernel) rfl
set_option maxRecDepth 100000 in
theorem pq832 : Cond.code yX6_stopsInTick cX6_stopsInTick 3 (some .boolean) ∈ pw := pw_mem (i := 832) (by rfl) rfl
set_option maxHeartbeats 4000000 in
set_option maxRecDepth 100000 in
theorem s_X6_slide (l : Launch) (dC : Nat → ClassId) (dI : Nat → Nat → Nat) (cs : Nat → ClassId) (L0 : List Nat) (K0 G0 : Nat → Nat) (Q0 : Nat → Nat → Option Nat) (hQ : Sv L0 K0 G0 Q0) (x0 m0 : Nat) (tx : GT) (tm : GT × Int) (hx0 : x0 ∈ L0) (hm0 : m0 ∈ L0) (sz : Nat) (I : Nat → Nat → Int32) (J : Nat → Nat → Int64) (hI : Iv L0 K0 x0 m0 tx tm I) (p0 : Nat) (hLp0 : p0 ∈ L0) (hKp0 : K0 p0 = 6) (p1 : Int32) (p2 : Int32) (p3 : Int32) : Met l yX6_slide (.code yX6_slide cX6_slide 4 (some .int) :: pw) ({ frames := 5, cells := 29, slots := 807, locals := 136 }) (sP (dC, dI) cs [.ref p0, .int p1, .int p2, .int p3] sz L0 K0 I J Q0) (va_Qi (fun (r : Int32) (_ : Unit) => (∀ σ : Sx, cxA Q0 I J p0 σ → r.toInt = (slA σ p1 p2 p3).1)) (fun _ t => sA (dC, dI) cs L0 K0 G0 Q0 x0 m0 tx tm sz (fun L K G Q I1 J1 => (∀ σ : Sx, cxA Q0 I J p0 σ → cxA Q I1 J1 p0 (slA σ p1 p2 p3).2) ∧ (∀ b, b ∈ L0 → (K0 b = 7 ∨ K0 b = 18 ∨ K0 b = 19 ∨ K0 b = 20 ∨ K0 b = 24) → I1 b = I b) ∧ (∀ b, b ∈ L0 → ¬ (K0 b = 12) → J1 b = J b)) t) (fun q => q ∈ L0 ∨ sz ≤ q)) 29 807 (fun q => q ∈ L0 ∨ sz ≤ q) := by
  refine Met.ofW (cc := cX6_slide) (maxL := 4) (ret := (some .int)) (by decide +kernel) rfl ?_
  intro p e s m args below meth c s₁ B hml hv
  obtain ⟨rfl, hsz, hP, hK, hD0, hN⟩ := hv
  have hx := B.exec
  have hb := B.bytes
  have hr := B.returns
  have hts := fun w (h : w ∈ pw) => atoms_spec (ws := Cond.code yX6_slide cX6_slide 4 (some .int) :: pw) B.pre w (List.mem_cons_of_mem _ h)
  have hown : s.vm.findClass RX6 = some m.cls := findClass_of_methodNamed B.named
  have hlocks := B.notSynchronized
  subst hsz
  have hBB : 999 ≤ tm.2 ∧ tm.2 ≤ 6000000 := hI.2.2.2.2.1
  have dn_I : (∀ b, b ∈ L0 → (K0 b = 7 ∨ K0 b = 18 ∨ K0 b = 19 ∨ K0 b = 20 ∨ K0 b = 24) → I b = I b) := fun _ _ _ => rfl
  have dj_J : (∀ b, b ∈ L0 → ¬ (K0 b = 12) → J b = J b) := fun _ _ _ => rfl
  obtain ⟨A, hAe⟩ : ∃ A : Nat → Prop, A = (fun q => q ∈ L0 ∨ s.heap.size ≤ q) := ⟨_, rfl⟩
  rw [← hAe]
  have hAL : ∀ q, q ∈ L0 → A q := fun q h => by rw [hAe]; exact Or.inl h
  have hA : ∀ q, s.heap.size ≤ q → A q := fun q h => by rw [hAe]; exact Or.inr h
  have hD : ∀ F, va_D A (va_pl L0 F) := fun F => (hD0 F).weaken (fun k q hk _ => hAL _ (pl_mem hk))
  obtain ⟨H, hHe⟩ : ∃ H : Heap, H = s.heap := ⟨_, rfl⟩
  have hS : va_S A s.heap H [] := by rw [hHe]; exact va_S.rf
  rw [← hHe] at hP
  have hl := lv_entry ([.ref p0, .int p1, .int p2, .int p3]) (n := 4) (Nat.le_of_ble_eq_true rfl)
  rw [lg_entry_eq]
  generalize (lg_sl ([.ref p0, .int p1, .int p2, .int p3]) ++ List.replicate (4 - (lg_sl ([.ref p0, .int p1, .int p2, .int p3])).length) Slot.unset).toArray = ls at hl ⊢
  have hl : lv_has ls 4 [(0, .ref p0), (1, .int p1), (2, .int p2), (3, .int p3)] := hl
  rw [← hHe]
  refine namedW (fun R Qz hR hQz => ?_)
  have hAe2 : ∀ q, A q → q ∈ L0 ∨ H.size ≤ q := fun q h => by rw [hHe]; rw [hAe] at h; exact h
  have hQ0 := hQ
  have hK0p0 := hKp0
  have hL0p0 := hLp0
  obtain ⟨L, K, G, Q, hX, hQ, hI, hP, hD, hAL, hx0, hm0, hLp0, hKp0, rx0⟩ : ∃ L K G Q, extW L0 K0 G0 Q0 L K G Q ∧ Sv L K G Q ∧ Iv L K x0 m0 tx tm I ∧ va_P (dC, dI) vwCl (Wd cs L K I J Q) H ∧ (∀ F, va_D A (va_pl L F)) ∧ (∀ q, q ∈ L → A q) ∧ x0 ∈ L ∧ m0 ∈ L ∧ p0 ∈ L ∧ K p0 = 6 ∧ (∀ σ : Sx, cxA Q0 I J p0 σ → cxA Q I J p0 σ) := ⟨L0, K0, G0, Q0, extW_refl, hQ, hI, hP, hD, hAL, hx0, hm0, hLp0, hKp0, fun _ h => h⟩
  refine lv_aload_n hx hb dX6_slide_0 rfl (lv_at hl 0 rfl) ?_
  refine lv_iload_n hx hb dX6_slide_1 rfl (lv_at hl 1 rfl) ?_
  refine ro_i (va_runV (As := [.int p1]) (rest := []) ⟨hx, hb, hml, hown, hts⟩ (s_X6_isBody l dC dI cs L K G Q hQ x0 m0 tx tm H.size I J hI p0 hLp0 hKp0 p1) (cwV 1 hts (gV pq636 pq638 pq2 pq74 pq639) rfl rfl rfl (by decide +kernel) ⟨(by rw [hR]; exact (Nat.le_of_ble_eq_true rfl)), (by rw [hR]; exact (Nat.le_of_ble_eq_true rfl))⟩) (sP_V hP hD hK hN hLp0 hKp0 rfl rfl) rfl rfl hl.1 rfl (lv_room (Nat.le_of_ble_eq_true rfl)) dX6_slide_2 ⟨(by rw [hR]; exact (Nat.le_of_ble_eq_true rfl)), (by rw [hR]; exact (Nat.le_of_ble_eq_true rfl))⟩) hS hP (fun z2 H locs hz2 hP hS => ?_)
  obtain ⟨bz2, imz2, xpz2⟩ := hz2
  refine lv_if_eq (tgt := 28) hx hb dX6_slide_5 (by decide) (fun c5 => ?_) (fun c5 => ?_)
  · have t5 := tq_eq (k := z2.toInt) (q := (0)) c5 rfl (by decide +kernel)
    refine lv_iconst (v := (-1)) hx hb dX6_slide_28 (by decide +kernel) ?_
    subst hR; subst hQz
    refine W.widen (k := 29) (n := 807) (Nat.le_of_ble_eq_true rfl) (Nat.le_of_ble_eq_true rfl) ?_
    exact W.iret (v := (-1)) hx hb hr (fun t ht hW => ⟨⟨(-1), (), rfl, (fun σ h => by have A0 := rx0 σ h; have ec := A0.1.1.2.2.1; rw [sl_n (fun q => by unfold twC at q; rw [← ec] at q; first | exact xpz2.2 t5 q.1 | exact xpz12 t15 q.2.1 | exact xpz22 t25 q.2.2)]; show (-1 : Int32).toInt = -1; decide +kernel), ⟨L, K, G, Q, I, J, hX, hQ, hI, fun F => (hD F).weaken (fun _ _ _ _ => trivial), fun q h => hAe2 q (hAL q h), by rw [ht]; exact hP, ⟨(fun σ h => by have A0 := rx0 σ h; have ec := A0.1.1.2.2.1; rw [sl_n (fun q => by unfold twC at q; rw [← ec] at q; first | exact xpz2.2 t5 q.1 | exact xpz12 t15 q.2.1 | exact xpz22 t25 q.2.2)]; exact A0), dn_I, dj_J⟩⟩⟩, hS.F ht⟩) hS.2.2 dX6_slide_29
  · have t5 := tq_ne (k := z2.toInt) (q := (0)) c5 rfl (by decide +kernel)
    have i5 := imz2 t5
    refine lv_iload_n hx hb dX6_slide_8 rfl (lv_at hl 2 rfl) ?_
    refine lv_sipush (v := 200) hx hb dX6_slide_9 (by decide +kernel) ?_
    refine ro_i (va_runS (As := [.int p2, .int 200]) (rest := []) ⟨hx, hb, hml, hown, hts⟩ (s_X6_isWithin l dC dI cs L K G Q hQ x0 m0 tx tm H.size I J hI p2 200 ⟨by decide +kernel, by decide +kernel⟩) (va_cwS 2 hts (gS pq640 pq641 pq74 pq642) rfl rfl rfl (by decide +kernel) ⟨(by rw [hR]; exact (Nat.le_of_ble_eq_true rfl)), (by rw [hR]; exact (Nat.le_of_ble_eq_true rfl))⟩) (sP_S hP hD hK hN) rfl rfl hl.1 rfl (lv_room (Nat.le_of_ble_eq_true rfl)) dX6_slide_12 ⟨(by rw [hR]; exact (Nat.le_of_ble_eq_true rfl)), (by rw [hR]; exact (Nat.le_of_ble_eq_true rfl))⟩) hS hP (fun z12 H locs hz12 hP hS => ?_)
    have cst12_200 : (200 : Int32).toInt = 200 := by decide +kernel
    obtain ⟨bz12, imz12, xpz12⟩ := hz12
    try rw [cst12_200] at xpz12
    refine lv_if_eq (tgt := 28) hx hb dX6_slide_15 (by decide) (fun c15 => ?_) (fun c15 => ?_)
    · have t15 := tq_eq (k := z12.toInt) (q := (0)) c15 rfl (by decide +kernel)
      refine lv_iconst (v := (-1)) hx hb dX6_slide_28 (by decide +kernel) ?_
      subst hR; subst hQz
      refine W.widen (k := 29) (n := 807) (Nat.le_of_ble_eq_true rfl) (Nat.le_of_ble_eq_true rfl) ?_
      exact W.iret (v := (-1)) hx hb hr (fun t ht hW => ⟨⟨(-1), (), rfl, (fun σ h => by have A0 := rx0 σ h; have ec := A0.1.1.2.2.1; rw [sl_n (fun q => by unfold twC at q; rw [← ec] at q; first | exact xpz2.2 t5 q.1 | exact xpz12 t15 q.2.1 | exact xpz22 t25 q.2.2)]; show (-1 : Int32).toInt = -1; decide +kernel), ⟨L, K, G, Q, I, J, hX, hQ, hI, fun F => (hD F).weaken (fun _ _ _ _ => trivial), fun q h => hAe2 q (hAL q h), by rw [ht]; exact hP, ⟨(fun σ h => by have A0 := rx0 σ h; have ec := A0.1.1.2.2.1; rw [sl_n (fun q => by unfold twC at q; rw [← ec] at q; first | exact xpz2.2 t5 q.1 | exact xpz12 t15 q.2.1 | exact xpz22 t25 q.2.2)]; exact A0), dn_I, dj_J⟩⟩⟩, hS.F ht⟩) hS.2.2 dX6_slide_29
    · have t15 := tq_ne (k := z12.toInt) (q := (0)) c15 rfl (by decide +kernel)
      have i15 := imz12 t15
      refine lv_iload_n hx hb dX6_slide_18 rfl (lv_at hl 3 rfl) ?_
      refine lv_sipush (v := 200) hx hb dX6_slide_19 (by decide +kernel) ?_
      refine ro_i (va_runS (As := [.int p3, .int 200]) (rest := []) ⟨hx, hb, hml, hown, hts⟩ (s_X6_isWithin l dC dI cs L K G Q hQ x0 m0 tx tm H.size I J hI p3 200 ⟨by decide +kernel, by decide +kernel⟩) (va_cwS 2 hts (gS pq640 pq641 pq74 pq642) rfl rfl rfl (by decide +kernel) ⟨(by rw [hR]; exact (Nat.le_of_ble_eq_true rfl)), (by rw [hR]; exact (Nat.le_of_ble_eq_true rfl))⟩) (sP_S hP hD hK hN) rfl rfl hl.1 rfl (lv_room (Nat.le_of_ble_eq_true rfl)) dX6_slide_22 ⟨(by rw [hR]; exact (Nat.le_of_ble_eq_true rfl)), (by rw [hR]; exact (Nat.le_of_ble_eq_true rfl))⟩) hS hP (fun z22 H locs hz22 hP hS => ?_)
      have cst22_200 : (200 : Int32).toInt = 200 := by decide +kernel
      obtain ⟨bz22, imz22, xpz22⟩ := hz22
      try rw [cst22_200] at xpz22
      refine lv_if_ne (tgt := 30) hx hb dX6_slide_25 (by decide) (fun c25 => ?_) (fun c25 => ?_)
      · have t25 := tq_ne (k := z22.toInt) (q := (0)) c25 rfl (by decide +kernel)
        have i25 := imz22 t25
        refine lv_aload_n hx hb dX6_slide_30 rfl (lv_at hl 0 rfl) ?_
        obtain ⟨y31, ey31, hLy31, hKy31, hGy31⟩ := oQ_6_5 (Sv_at hQ hLp0 hKp0)
        refine p_get (v := .ref y31) hx hb hts inX6 hown hK hP hLp0 hKp0 rfl rfl 5 (by decide) (hts _ pq354) (congrArg (fun q => some (va_rf q)) ey31) dX6_slide_31 ?_
        refine lv_iload_n hx hb dX6_slide_34 rfl (lv_at hl 1 rfl) ?_
        refine lv_iload_n hx hb dX6_slide_35 rfl (lv_at hl 2 rfl) ?_
        refine lv_iload_n hx hb dX6_slide_36 rfl (lv_at hl 3 rfl) ?_
        refine sw_v (Z := (fun I1 J1 => Iv L K x0 m0 tx tm I1 ∧ (∀ b, ¬ (b = y31) → I1 b = I b) ∧ (glOK tm.2 Q I1 y31 p1) ∧ (∀ c : Fx, okF c → cxF Q I J (nf Q y31) c → cxS Q I J y31 c → p1.toInt.toNat < (c.1 1).toInt.toNat → gLR c p1.toInt.toNat p2.toInt p3.toInt (I1 y31 2).toInt (I1 y31 4).toInt (I1 y31 5).toInt) ∧ J1 = J)) (va_runV (As := [.int p1, .int p2, .int p3]) (rest := []) ⟨hx, hb, hml, hown, hts⟩ (s_X5_tryGlide l dC dI cs L K G Q hQ x0 m0 tx tm H.size I J hI y31 hLy31 hKy31 p1 ⟨by omega, by omega⟩ p2 ⟨by omega, by omega⟩ p3 ⟨by omega, by omega⟩) (cwV 3 hts (gV pq739 pq740 pq741 pq79 pq742) rfl rfl rfl (by decide +kernel) ⟨(by rw [hR]; exact (Nat.le_of_ble_eq_true rfl)), (by rw [hR]; exact (Nat.le_of_ble_eq_true rfl))⟩) (sP_V hP hD hK hN hLy31 hKy31 rfl rfl) rfl rfl hl.1 rfl (lv_room (Nat.le_of_ble_eq_true rfl)) dX6_slide_37 ⟨(by rw [hR]; exact (Nat.le_of_ble_eq_true rfl)), (by rw [hR]; exact (Nat.le_of_ble_eq_true rfl))⟩) hS hAL hA (fun Iz37 Jz37 H locs hz37 hIz37 hP hS => ?_)
        obtain ⟨hIz37, frc37, zp37, jz37, djc37⟩ := hIz37
        obtain rfl : J = Jz37 := djc37.symm
        have dn_Iz37 : (∀ b, b ∈ L0 → (K0 b = 7 ∨ K0 b = 18 ∨ K0 b = 19 ∨ K0 b = 20 ∨ K0 b = 24) → Iz37 b = I b) := fun b hb hc => (frc37 b (fun z => by have w := (hX b hb).2.1; have q := hKy31; rw [← z] at q; omega)).trans (dn_I b hb hc)
        refine lv_aload_n hx hb dX6_slide_40 rfl (lv_at hl 0 rfl) ?_
        refine p_get (v := .ref y31) hx hb hts inX6 hown hK hP hLp0 hKp0 rfl rfl 5 (by decide) (hts _ pq354) (congrArg (fun q => some (va_rf q)) ey31) dX6_slide_41 ?_
        have hs37 : ∀ σ : Sx, cxA Q0 I J p0 σ → twC σ p1 p2 p3 (-200) 200 ∧ cxA Q Iz37 J p0 σ ∧ gLR σ.1 p1.toInt.toNat p2.toInt p3.toInt (Iz37 y31 2).toInt (Iz37 y31 4).toInt (Iz37 y31 5).toInt := fun σ h => by have A0 := rx0 σ h; have ec := A0.1.1.2.2.1; have hC : twC σ p1 p2 p3 (-200) 200 := ⟨by rw [← ec]; exact xpz2.1 t5, ⟨by omega, by omega⟩, ⟨by omega, by omega⟩⟩; have T := cxA_tg A0; rw [show se Q p0 = y31 from gd_of ey31] at T; exact ⟨hC, cxA_sc hQ hLp0 hKp0 hKy31 frc37 A0, jz37 σ.1 T.1 T.2.1 T.2.2 (by have := hC.1; omega)⟩
        refine p_get hx hb hts inX5 hown hK hP hLy31 hKy31 rfl rfl 2 (by decide) (hts _ pq277) rfl dX6_slide_44 ?_
        refine lv_topi (fun z44 ez44 => ?_)
        have bz44 := oI_5_2 (Iv_at hIz37 hLy31 hKy31)
        rw [← ez44] at bz44
        refine lv_if_ne (tgt := 53) hx hb dX6_slide_47 (by decide) (fun c47 => ?_) (fun c47 => ?_)
        · have t47 := tq_ne (k := z44.toInt) (q := (0)) c47 rfl (by decide +kernel)
          refine lv_aload_n hx hb dX6_slide_53 rfl (lv_at hl 0 rfl) ?_
          have ne37 : ¬ (Iz37 y31 2).toInt = 0 := by rw [← ez44]; exact t47
          refine sa_v (va_runV (As := []) (rest := []) ⟨hx, hb, hml, hown, hts⟩ (s_X6_remember l dC dI cs L K G Q hQ x0 m0 tx tm hx0 hm0 H.size Iz37 J hIz37 p0 hLp0 hKp0) (cwV 0 hts (gV pq643 pq645 pq3 pq74 pq646) rfl rfl rfl (by decide +kernel) ⟨(by rw [hR]; exact (Nat.le_of_ble_eq_true rfl)), (by rw [hR]; exact (Nat.le_of_ble_eq_true rfl))⟩) (sP_V hP hD hK hN hLp0 hKp0 rfl rfl) rfl rfl hl.1 rfl (lv_room (Nat.le_of_ble_eq_true rfl)) dX6_slide_54 ⟨(by rw [hR]; exact (Nat.le_of_ble_eq_true rfl)), (by rw [hR]; exact (Nat.le_of_ble_eq_true rfl))⟩) hS hAL hA (fun L K G Q Iz54 Jz54 H locs hz54 hE hQn hIz54 hDn hALn hP zp54 hS => ?_)
          obtain ⟨zp54, rz54, dnc54, djc54⟩ := zp54
          have dn_Iz54 : (∀ b, b ∈ L0 → (K0 b = 7 ∨ K0 b = 18 ∨ K0 b = 19 ∨ K0 b = 20 ∨ K0 b = 24) → Iz54 b = I b) := fun b hb hc => (dnc54 b (hX b hb).1 (by have w := (hX b hb).2.1; omega)).trans (dn_Iz37 b hb hc)
          have dj_Jz54 : (∀ b, b ∈ L0 → ¬ (K0 b = 12) → Jz54 b = J b) := fun b hb hc => (djc54 b (hX b hb).1 (fun z => hc (by have w1 := (hX b hb).2.1; have w2 := (hX b hb).2.2.1; rw [w1] at z; first | exact z | exact z.1))).trans (dj_J b hb hc)
          have gl54 := glOK_al hQ hE zp54 hLy31 hKy31 hGy31 i5 zp37
          have es54 := (congrFun ((hE p0 hLp0).2.2.2 (by rw [hKp0]; decide) (by rw [hKp0]; decide)) 5).trans ey31
          have st54 : Iz54 y31 = Iz37 y31 := zp54 y31 hLy31 (by rw [hGy31]; decide) (by rw [hKy31]; decide)
          have hKp0 := (hE p0 hLp0).2.1.trans hKp0
          have hKy31 := (hE y31 hLy31).2.1.trans hKy31
          have hGy31 := (hE y31 hLy31).2.2.1.trans hGy31
          have hLp0 := (hE p0 hLp0).1
          have hLy31 := (hE y31 hLy31).1
          have hx0 := (hE x0 hx0).1
          have hm0 := (hE m0 hm0).1
          have hX := extW_trans hX hE
          have hQ := hQn
          have hD := hDn
          have hAL := hALn
          refine W.widen (k := 29) (n := 807) (Nat.le_of_ble_eq_true rfl) (Nat.le_of_ble_eq_true rfl) ?_
          refine lv_aload_n hx hb dX6_slide_57 rfl (lv_at hl 0 rfl) ?_
          obtain ⟨y58, ey58, hLy58, hKy58, hGy58⟩ := oQ_6_5 (Sv_at hQ hLp0 hKp0)
          refine p_get (v := .ref y58) hx hb hts inX6 hown hK hP hLp0 hKp0 rfl rfl 5 (by decide) (hts _ pq354) (congrArg (fun q => some (va_rf q)) ey58) dX6_slide_58 ?_
          refine lv_iload_n hx hb dX6_slide_61 rfl (lv_at hl 1 rfl) ?_
          have ey : y58 = y31 := Option.some.inj (ey58.symm.trans es54)
          refine sw_v (Z := (fun I1 J1 => Iv L K x0 m0 tx tm I1 ∧ (∀ b, ¬ (K b = 0) → I1 b = Iz54 b) ∧ (∃ Im, Im = va_up Iz54 (fb Q (nf Q y58) p1.toInt.toNat) (upd (Iz54 (fb Q (nf Q y58) p1.toInt.toNat)) 1 (Iz54 (fb Q (nf Q y58) p1.toInt.toNat) 1 + Iz54 y58 4)) ∧ I1 = va_up Im (fb Q (nf Q y58) p1.toInt.toNat) (upd (Im (fb Q (nf Q y58) p1.toInt.toNat)) 2 (Iz54 (fb Q (nf Q y58) p1.toInt.toNat) 2 + Iz54 y58 5))) ∧ J1 = Jz54)) (va_runV (As := [.int p1]) (rest := []) ⟨hx, hb, hml, hown, hts⟩ (s_X5_finishGlide l dC dI cs L K G Q hQ x0 m0 tx tm H.size Iz54 Jz54 hIz54 y58 hLy58 hKy58 p1 ⟨by omega, by omega⟩ (by obtain rfl : y31 = y58 := Option.some.inj (es54.symm.trans ey58); exact gl54)) (cwV 1 hts (gV pq789 pq790 pq791 pq79 pq792) rfl rfl rfl (by decide +kernel) ⟨(by rw [hR]; exact (Nat.le_of_ble_eq_true rfl)), (by rw [hR]; exact (Nat.le_of_ble_eq_true rfl))⟩) (sP_V hP hD hK hN hLy58 hKy58 rfl rfl) rfl rfl hl.1 rfl (lv_room (Nat.le_of_ble_eq_true rfl)) dX6_slide_62 ⟨(by rw [hR]; exact (Nat.le_of_ble_eq_true rfl)), (by rw [hR]; exact (Nat.le_of_ble_eq_true rfl))⟩) hS hAL hA (fun Iz62 Jz62 H locs hz62 hIz62 hP hS => ?_)
          obtain ⟨hIz62, frc62, fz62, djc62⟩ := hIz62
          obtain rfl : Jz54 = Jz62 := djc62.symm
          have dn_Iz62 : (∀ b, b ∈ L0 → (K0 b = 7 ∨ K0 b = 18 ∨ K0 b = 19 ∨ K0 b = 20 ∨ K0 b = 24) → Iz62 b = I b) := fun b hb hc => (frc62 b (by have w := (hX b hb).2.1; omega)).trans (dn_Iz54 b hb hc)
          refine lv_aload_n hx hb dX6_slide_65 rfl (lv_at hl 0 rfl) ?_
          refine p_get (v := .ref y58) hx hb hts inX6 hown hK hP hLp0 hKp0 rfl rfl 5 (by decide) (hts _ pq354) (congrArg (fun q => some (va_rf q)) ey58) dX6_slide_66 ?_
          refine p_get hx hb hts inX5 hown hK hP hLy58 hKy58 rfl rfl 2 (by decide) (hts _ pq277) rfl dX6_slide_69 ?_
          refine lv_topi (fun z69 ez69 => ?_)
          have bz69 := oI_5_2 (Iv_at hIz62 hLy58 hKy58)
          rw [← ez69] at bz69
          subst hR; subst hQz
          exact W.iret (v := z69) hx hb hr (fun t ht hW => ⟨⟨z69, (), rfl, (fun σ h => by obtain ⟨hC, A, g⟩ := hs37 σ h; have en := gLR_slN g; rw [sl_y hC (by rw [en]; exact ne37)]; show z69.toInt = _; rw [en, ez69, frc62 y58 (by have := hKy58; omega), ey, st54]), ⟨L, K, G, Q, Iz62, Jz54, hX, hQ, hIz62, fun F => (hD F).weaken (fun _ _ _ _ => trivial), fun q h => hAe2 q (hAL q h), by rw [ht]; exact hP, ⟨(fun σ h => by obtain ⟨hC, A, g⟩ := hs37 σ h; have en := gLR_slN g; rw [sl_y hC (by rw [en]; exact ne37)]; have A2 := rz54 σ A; have hN : p1.toInt.toNat < (σ.1.1 1).toInt.toNat := (by have := hC.1; omega); have ok := A.1.1.1; have w := gl_in ok hN g; have nf58 := cxA_nf A2; rw [show se Q p0 = y58 from gd_of ey58] at nf58; have f := fz62; rw [nf58, ey, st54] at f; have R := cxA_go (σ := rem σ) (u := Iz37 y31 4) (v := Iz37 y31 5) hQ hLp0 hKp0 A2 (by rw [rem_1]; exact hN) (by rw [rem_1]; exact w.2.1) (by rw [rem_1]; exact w.2.2) rfl f; rw [rem_1, w.1.1, w.1.2] at R; exact R), dn_Iz62, dj_Jz54⟩⟩⟩, hS.F ht⟩) hS.2.2 dX6_slide_72
        · have t47 := tq_eq (k := z44.toInt) (q := (0)) c47 rfl (by decide +kernel)
          refine lv_bipush (v := (-2)) hx hb dX6_slide_50 (by decide +kernel) ?_
          subst hR; subst hQz
          refine W.widen (k := 29) (n := 807) (Nat.le_of_ble_eq_true rfl) (Nat.le_of_ble_eq_true rfl) ?_
          exact W.iret (v := (-2)) hx hb hr (fun t ht hW => ⟨⟨(-2), (), rfl, (fun σ h => by obtain ⟨hC, A, g⟩ := hs37 σ h; have en := gLR_slN g; rw [sl_e hC (by rw [en, ← ez44]; omega)]; show (-2 : Int32).toInt = -2; decide +kernel), ⟨L, K, G, Q, Iz37, J, hX, hQ, hIz37, fun F => (hD F).weaken (fun _ _ _ _ => trivial), fun q h => hAe2 q (hAL q h), by rw [ht]; exact hP, ⟨(fun σ h => by obtain ⟨hC, A, g⟩ := hs37 σ h; have en := gLR_slN g; rw [sl_e hC (by rw [en, ← ez44]; omega)]; exact A), dn_Iz37, dj_J⟩⟩⟩, hS.F ht⟩) hS.2.2 dX6_slide_52
      · have t25 := tq_eq (k := z22.toInt) (q := (0)) c25 rfl (by decide +kernel)
        refine lv_iconst (v := (-1)) hx hb dX6_slide_28 (by decide +kernel) ?_
        subst hR; subst hQz
        refine W.widen (k := 29) (n := 807) (Nat.le_of_ble_eq_true rfl) (Nat.le_of_ble_eq_true rfl) ?_
        exact W.iret (v := (-1)) hx hb hr (fun t ht hW => ⟨⟨(-1), (), rfl, (fun σ h => by have A0 := rx0 σ h; have ec := A0.1.1.2.2.1; rw [sl_n (fun q => by unfold twC at q; rw [← ec] at q; first | exact xpz2.2 t5 q.1 | exact xpz12 t15 q.2.1 | exact xpz22 t25 q.2.2)]; show (-1 : Int32).toInt = -1; decide +kernel), ⟨L, K, G, Q, I, J, hX, hQ, hI, fun F => (hD F).weaken (fun _ _ _ _ => trivial), fun q h => hAe2 q (hAL q h), by rw [ht]; exact hP, ⟨(fun σ h => by have A0 := rx0 σ h; have ec := A0.1.1.2.2.1; rw [sl_n (fun q => by unfold twC at q; rw [← ec] at q; first | exact xpz2.2 t5 q.1 | exact xpz12 t15 q.2.1 | exact xpz22 t25 q.2.2)]; exact A0), dn_I, dj_J⟩⟩⟩, hS.F ht⟩) hS.2.2 dX6_slide_29

set_option maxHeartbeats 4000000 in
set_option maxRecDepth 100000 in
theorem s_X6_ticks (l : Launch) (dC : Nat → ClassId) (dI : Nat → Nat → Nat) (cs : Nat → ClassId) (L0 : List Nat) (K0 G0 : Nat → Nat) (Q0 : Nat → Nat → Option Nat) (hQ : Sv L0 K0 G0 Q0) (x0 m0 : Nat) (tx : GT) (tm : GT × Int) (hx0 : x0 ∈ L0) (hm0 : m0 ∈ L0) (sz : Nat) (I : Nat → Nat → Int32) (J : Nat → Nat → Int64) (hI : Iv L0 K0 x0 m0 tx tm I) (p0 : Nat) (hLp0 : p0 ∈ L0) (hKp0 : K0 p0 = 6) (p1 : Int32) : Met l yX6_ticks (.code yX6_ticks cX6_ticks 5 (some .int) :: pw) ({ frames := 6, cells := 29, slots := 807, locals := 158 }) (sP (dC, dI) cs [.ref p0, .int p1] sz L0 K0 I J Q0) (va_Qi (fun (r : Int32) (_ : Unit) => (∀ σ : Sx, cxA Q0 I J p0 σ → r.toInt = (tkA σ p1).1)) (fun _ t => sA (dC, dI) cs L0 K0 G0 Q0 x0 m0 tx tm sz (fun L K G Q I1 J1 => (∀ σ : Sx, cxA Q0 I J p0 σ → cxA Q I1 J1 p0 (tkA σ p1).2) ∧ (∀ b, b ∈ L0 → (K0 b = 7 ∨ K0 b = 18 ∨ K0 b = 19 ∨ K0 b = 20 ∨ K0 b = 24) → I1 b = I b) ∧ (∀ b, b ∈ L0 → ¬ (K0 b = 12) → J1 b = J b)) t) (fun q => q ∈ L0 ∨ sz ≤ q)) 29 807 (fun q => q ∈ L0 ∨ sz ≤ q) := by
  refine Met.ofW (cc := cX6_ticks) (maxL := 5) (ret := (some .int)) (by decide +kernel) rfl ?_
  intro p e s m args below meth c s₁ B hml hv
  obtain ⟨rfl, hsz, hP, hK, hD0, hN⟩ := hv
  have hx := B.exec
  have hb := B.bytes
  have hr := B.returns
  have hts := fun w (h : w ∈ pw) => atoms_spec (ws := Cond.code yX6_ticks cX6_ticks 5 (some .int) :: pw) B.pre w (List.mem_cons_of_mem _ h)
  have hown : s.vm.findClass RX6 = some m.cls := findClass_of_methodNamed B.named
  have hlocks := B.notSynchronized
  subst hsz
  have hBB : 999 ≤ tm.2 ∧ tm.2 ≤ 6000000 := hI.2.2.2.2.1
  have dn_I : (∀ b, b ∈ L0 → (K0 b = 7 ∨ K0 b = 18 ∨ K0 b = 19 ∨ K0 b = 20 ∨ K0 b = 24) → I b = I b) := fun _ _ _ => rfl
  have dj_J : (∀ b, b ∈ L0 → ¬ (K0 b = 12) → J b = J b) := fun _ _ _ => rfl
  obtain ⟨A, hAe⟩ : ∃ A : Nat → Prop, A = (fun q => q ∈ L0 ∨ s.heap.size ≤ q) := ⟨_, rfl⟩
  rw [← hAe]
  have hAL : ∀ q, q ∈ L0 → A q := fun q h => by rw [hAe]; exact Or.inl h
  have hA : ∀ q, s.heap.size ≤ q → A q := fun q h => by rw [hAe]; exact Or.inr h
  have hD : ∀ F, va_D A (va_pl L0 F) := fun F => (hD0 F).weaken (fun k q hk _ => hAL _ (pl_mem hk))
  obtain ⟨H, hHe⟩ : ∃ H : Heap, H = s.heap := ⟨_, rfl⟩
  have hS : va_S A s.heap H [] := by rw [hHe]; exact va_S.rf
  rw [← hHe] at hP
  have hl := lv_entry ([.ref p0, .int p1]) (n := 5) (Nat.le_of_ble_eq_true rfl)
  rw [lg_entry_eq]
  generalize (lg_sl ([.ref p0, .int p1]) ++ List.replicate (5 - (lg_sl ([.ref p0, .int p1])).length) Slot.unset).toArray = ls at hl ⊢
  have hl : lv_has ls 5 [(0, .ref p0), (1, .int p1)] := hl
  rw [← hHe]
  refine namedW (fun R Qz hR hQz => ?_)
  have hAe2 : ∀ q, A q → q ∈ L0 ∨ H.size ≤ q := fun q h => by rw [hHe]; rw [hAe] at h; exact h
  have hQ0 := hQ
  have hK0p0 := hKp0
  have hL0p0 := hLp0
  obtain ⟨L, K, G, Q, hX, hQ, hI, hP, hD, hAL, hx0, hm0, hLp0, hKp0, rx0⟩ : ∃ L K G Q, extW L0 K0 G0 Q0 L K G Q ∧ Sv L K G Q ∧ Iv L K x0 m0 tx tm I ∧ va_P (dC, dI) vwCl (Wd cs L K I J Q) H ∧ (∀ F, va_D A (va_pl L F)) ∧ (∀ q, q ∈ L → A q) ∧ x0 ∈ L ∧ m0 ∈ L ∧ p0 ∈ L ∧ K p0 = 6 ∧ (∀ σ : Sx, cxA Q0 I J p0 σ → cxA Q I J p0 σ) := ⟨L0, K0, G0, Q0, extW_refl, hQ, hI, hP, hD, hAL, hx0, hm0, hLp0, hKp0, fun _ h => h⟩
  refine lv_iload_n hx hb dX6_ticks_0 rfl (lv_at hl 1 rfl) ?_
  refine lv_iconst (v := 1) hx hb dX6_ticks_1 (by decide +kernel) ?_
  refine lv_icmp_lt (tgt := 11) hx hb dX6_ticks_2 (by decide) (fun c2 => ?_) (fun c2 => ?_)
  · have t2 := tq_lt (k := p1.toInt) (q := (1)) c2 rfl (by decide +kernel)
    refine lv_iconst (v := (-1)) hx hb dX6_ticks_11 (by decide +kernel) ?_
    subst hR; subst hQz
    refine W.widen (k := 29) (n := 807) (Nat.le_of_ble_eq_true rfl) (Nat.le_of_ble_eq_true rfl) ?_
    exact W.iret (v := (-1)) hx hb hr (fun t ht hW => ⟨⟨(-1), (), rfl, (fun σ h => by rw [tk_n (by omega)]; show (-1 : Int32).toInt = -1; decide +kernel), ⟨L, K, G, Q, I, J, hX, hQ, hI, fun F => (hD F).weaken (fun _ _ _ _ => trivial), fun q h => hAe2 q (hAL q h), by rw [ht]; exact hP, ⟨(fun σ h => by rw [tk_n (by omega)]; exact rx0 σ h), dn_I, dj_J⟩⟩⟩, hS.F ht⟩) hS.2.2 dX6_ticks_12
  · have t2 := tq_nlt (k := p1.toInt) (q := (1)) c2 rfl (by decide +kernel)
    refine lv_iload_n hx hb dX6_ticks_5 rfl (lv_at hl 1 rfl) ?_
    refine lv_bipush (v := 20) hx hb dX6_ticks_6 (by decide +kernel) ?_
    refine lv_icmp_le (tgt := 13) hx hb dX6_ticks_8 (by decide) (fun c8 => ?_) (fun c8 => ?_)
    · have t8 := tq_le (k := p1.toInt) (q := (20)) c8 rfl (by decide +kernel)
      refine lv_aload_n hx hb dX6_ticks_13 rfl (lv_at hl 0 rfl) ?_
      refine sa_v (va_runV (As := []) (rest := []) ⟨hx, hb, hml, hown, hts⟩ (s_X6_remember l dC dI cs L K G Q hQ x0 m0 tx tm hx0 hm0 H.size I J hI p0 hLp0 hKp0) (cwV 0 hts (gV pq643 pq645 pq3 pq74 pq646) rfl rfl rfl (by decide +kernel) ⟨(by rw [hR]; exact (Nat.le_of_ble_eq_true rfl)), (by rw [hR]; exact (Nat.le_of_ble_eq_true rfl))⟩) (sP_V hP hD hK hN hLp0 hKp0 rfl rfl) rfl rfl hl.1 rfl (lv_room (Nat.le_of_ble_eq_true rfl)) dX6_ticks_14 ⟨(by rw [hR]; exact (Nat.le_of_ble_eq_true rfl)), (by rw [hR]; exact (Nat.le_of_ble_eq_true rfl))⟩) hS hAL hA (fun L K G Q Iz14 Jz14 H locs hz14 hE hQn hIz14 hDn hALn hP zp14 hS => ?_)
      obtain ⟨zp14, rz14, dnc14, djc14⟩ := zp14
      have dn_Iz14 : (∀ b, b ∈ L0 → (K0 b = 7 ∨ K0 b = 18 ∨ K0 b = 19 ∨ K0 b = 20 ∨ K0 b = 24) → Iz14 b = I b) := fun b hb hc => (dnc14 b (hX b hb).1 (by have w := (hX b hb).2.1; omega)).trans (dn_I b hb hc)
      have dj_Jz14 : (∀ b, b ∈ L0 → ¬ (K0 b = 12) → Jz14 b = J b) := fun b hb hc => (djc14 b (hX b hb).1 (fun z => hc (by have w1 := (hX b hb).2.1; have w2 := (hX b hb).2.2.1; rw [w1] at z; first | exact z | exact z.1))).trans (dj_J b hb hc)
      have hKp0 := (hE p0 hLp0).2.1.trans hKp0
      have hLp0 := (hE p0 hLp0).1
      have hx0 := (hE x0 hx0).1
      have hm0 := (hE m0 hm0).1
      have hX := extW_trans hX hE
      have hQ := hQn
      have hD := hDn
      have hAL := hALn
      refine W.widen (k := 29) (n := 807) (Nat.le_of_ble_eq_true rfl) (Nat.le_of_ble_eq_true rfl) ?_
      refine lv_iconst (v := 0) hx hb dX6_ticks_17 (by decide +kernel) ?_
      refine lv_istore_n (lv' := [(2, .int 0), (0, .ref p0), (1, .int p1)]) hx hb dX6_ticks_18 rfl hl (by decide) rfl (fun ls hl => ?_)
      refine lv_iconst (v := 0) hx hb dX6_ticks_19 (by decide +kernel) ?_
      refine lv_istore_n (lv' := [(3, .int 0), (2, .int 0), (0, .ref p0), (1, .int p1)]) hx hb dX6_ticks_20 rfl hl (by decide) rfl (fun ls hl => ?_)
      have key21 := blocks (fun n => ∀ (v21_2 : Int32) (v21_3 : Int32) (I21 : Nat → Nat → Int32) (H : Heap) (lo : List Loc) (ls : Array Slot), (21 - v21_3.toInt).toNat = n → ((0) ≤ v21_2.toInt ∧ v21_2.toInt ≤ 2000) → ((0) ≤ v21_3.toInt ∧ v21_3.toInt ≤ 20) → Iv L K x0 m0 tx tm I21 → (∀ b, b ∈ L0 → (K0 b = 7 ∨ K0 b = 18 ∨ K0 b = 19 ∨ K0 b = 20 ∨ K0 b = 24) → I21 b = I b) → (0 ≤ v21_2.toInt ∧ v21_2.toInt ≤ 10 * v21_3.toInt ∧ v21_3.toInt ≤ p1.toInt) → (∀ σ : Sx, cxA Q0 I J p0 σ → v21_2.toInt = ((tkT (σ.1.1 1).toInt.toNat v21_3.toInt.toNat (σ.1, 0))).2 ∧ cxA Q I21 Jz14 p0 (((tkT (σ.1.1 1).toInt.toNat v21_3.toInt.toNat (σ.1, 0))).1, (rem σ).2)) → va_P (dC, dI) vwCl (Wd cs L K I21 Jz14 Q) H → va_S A s.heap H lo → lv_has ls 5 [(0, .ref p0), (1, .int p1), (2, .int v21_2), (3, .int v21_3)] → W p l e R s m (([.ref p0, .int p1] : List Value).toArray) below meth c H lo 29 807 Qz (F0 m 21 ls [])) (by
        intro n ih21
        intro v21_2 v21_3 I21 H lo ls hmu21 bv21_2 bv21_3 hI21 dn_I21 hb21 ht21 hP hS hl
        refine lv_iload_n hx hb dX6_ticks_21 rfl (lv_at hl 3 rfl) ?_
        refine lv_iload_n hx hb dX6_ticks_22 rfl (lv_at hl 1 rfl) ?_
        refine lv_icmp_ge (tgt := 65) hx hb dX6_ticks_23 (by decide) (fun c23 => ?_) (fun c23 => ?_)
        · have t23 := tq_le (k := p1.toInt) (q := v21_3.toInt) c23 rfl rfl
          refine lv_aload_n hx hb dX6_ticks_65 rfl (lv_at hl 0 rfl) ?_
          obtain ⟨y66, ey66, hLy66, hKy66, hGy66⟩ := oQ_6_2 (Sv_at hQ hLp0 hKp0)
          refine p_get (v := .ref y66) hx hb hts inX6 hown hK hP hLp0 hKp0 rfl rfl 2 (by decide) (hts _ pq351) (congrArg (fun q => some (va_rf q)) ey66) dX6_ticks_66 ?_
          refine lv_dup hx hb dX6_ticks_69 rfl ?_
          refine p_get hx hb hts inX1 hown hK hP hLy66 hKy66 rfl rfl 4 (by decide) (hts _ pq229) rfl dX6_ticks_70 ?_
          refine lv_topi (fun z70 ez70 => ?_)
          refine lv_iload_n hx hb dX6_ticks_73 rfl (lv_at hl 1 rfl) ?_
          refine lv_iadd hx hb dX6_ticks_74 ?_
          refine lv_topi (fun z74 ez74 => ?_)
          refine p_put hx hb hts inX1 tyX1 tyX1_ok nmX1 hown hK hP hD hS hLy66 hKy66 rfl rfl 4 (by decide) (hts _ pq229) rfl (by decide +kernel) (Nat.le_of_ble_eq_true rfl) (oS_1_4 cs _ _ _ _) dX6_ticks_75 (fun H locs hP hS => ?_)
          obtain ⟨Iz75, hP, hIz75, qIz75⟩ : ∃ Iz75, va_P (dC, dI) vwCl (Wd cs L K Iz75 Jz14 Q) H ∧ Iv L K x0 m0 tx tm Iz75 ∧ Iz75 = va_up I21 y66 (upd (I21 y66) 4 z74) := ⟨_, hP, Iv_put hI21 hKy66 (oP_1_4 (Iv_at hI21 hLy66 hKy66)) (by decide) (by decide), rfl⟩
          have dn_Iz75 : (∀ b, b ∈ L0 → (K0 b = 7 ∨ K0 b = 18 ∨ K0 b = 19 ∨ K0 b = 20 ∨ K0 b = 24) → Iz75 b = I b) := fun b hb hc => (congrFun qIz75 b).trans ((va_up_ne _ _ (fun z => by have q := hKy66; rw [← z, (hX b hb).2.1] at q; omega)).trans (dn_I21 b hb hc))
          refine lv_iload_n hx hb dX6_ticks_78 rfl (lv_at hl 2 rfl) ?_
          subst hR; subst hQz
          exact W.iret (v := v21_2) hx hb hr (fun t ht hW => ⟨⟨v21_2, (), rfl, (fun σ h => by rw [tk_y ⟨by omega, by omega⟩]; have e := (ht21 σ h).1; rw [show v21_3.toInt.toNat = p1.toInt.toNat by omega] at e; exact e), ⟨L, K, G, Q, Iz75, Jz14, hX, hQ, hIz75, fun F => (hD F).weaken (fun _ _ _ _ => trivial), fun q h => hAe2 q (hAL q h), by rw [ht]; exact hP, ⟨(fun σ h => by rw [tk_y ⟨by omega, by omega⟩]; have A := (ht21 σ h).2; rw [show v21_3.toInt.toNat = p1.toInt.toNat by omega] at A; have ea : an Q p0 = y66 := gd_of ey66; have e2 : z70 = σ.1.1 2 := tk_2 A (by rw [ez70, ← ea]); have R := cxA_tick (v := σ.1.1 2 + p1) (I1 := Iz75) hQ hLp0 hKp0 (by rw [qIz75, ea, ez74, e2]) A; exact R), dn_Iz75, dj_Jz14⟩⟩⟩, hS.F ht⟩) hS.2.2 dX6_ticks_79
        · have t23 := tq_nle (k := p1.toInt) (q := v21_3.toInt) c23 rfl rfl
          refine lv_iconst (v := 0) hx hb dX6_ticks_26 (by decide +kernel) ?_
          refine lv_istore (lv' := [(4, .int 0), (0, .ref p0), (1, .int p1), (2, .int v21_2), (3, .int v21_3)]) hx hb dX6_ticks_27 hl (by decide) rfl (fun ls hl => ?_)
          have key29 := blocks (fun n => ∀ (v29_2 : Int32) (v29_4 : Int32) (I29 : Nat → Nat → Int32) (H : Heap) (lo : List Loc) (ls : Array Slot), (11 - v29_4.toInt).toNat = n → ((0) ≤ v29_2.toInt ∧ v29_2.toInt ≤ 2000) → ((0) ≤ v29_4.toInt ∧ v29_4.toInt ≤ 10) → Iv L K x0 m0 tx tm I29 → (∀ b, b ∈ L0 → (K0 b = 7 ∨ K0 b = 18 ∨ K0 b = 19 ∨ K0 b = 20 ∨ K0 b = 24) → I29 b = I b) → (0 ≤ v29_2.toInt ∧ v29_2.toInt ≤ 10 * v21_3.toInt + v29_4.toInt) → (∀ σ : Sx, cxA Q0 I J p0 σ → v29_4.toInt.toNat ≤ (σ.1.1 1).toInt.toNat ∧ v29_2.toInt = (tkR v29_4.toInt.toNat (tkT (σ.1.1 1).toInt.toNat v21_3.toInt.toNat (σ.1, 0))).2 ∧ cxA Q I29 Jz14 p0 ((tkR v29_4.toInt.toNat (tkT (σ.1.1 1).toInt.toNat v21_3.toInt.toNat (σ.1, 0))).1, (rem σ).2)) → va_P (dC, dI) vwCl (Wd cs L K I29 Jz14 Q) H → va_S A s.heap H lo → lv_has ls 5 [(0, .ref p0), (1, .int p1), (2, .int v29_2), (3, .int v21_3), (4, .int v29_4)] → W p l e R s m (([.ref p0, .int p1] : List Value).toArray) below meth c H lo 29 807 Qz (F0 m 29 ls [])) (by
            intro n ih29
            intro v29_2 v29_4 I29 H lo ls hmu29 bv29_2 bv29_4 hI29 dn_I29 hb29 ht29 hP hS hl
            refine lv_iload hx hb dX6_ticks_29 (lv_at hl 4 rfl) ?_
            refine lv_aload_n hx hb dX6_ticks_31 rfl (lv_at hl 0 rfl) ?_
            obtain ⟨y32, ey32, hLy32, hKy32, hGy32⟩ := oQ_6_2 (Sv_at hQ hLp0 hKp0)
            refine p_get (v := .ref y32) hx hb hts inX6 hown hK hP hLp0 hKp0 rfl rfl 2 (by decide) (hts _ pq351) (congrArg (fun q => some (va_rf q)) ey32) dX6_ticks_32 ?_
            refine p_get hx hb hts inX1 hown hK hP hLy32 hKy32 rfl rfl 3 (by decide) (hts _ pq226) rfl dX6_ticks_35 ?_
            refine lv_topi (fun z35 ez35 => ?_)
            have cgz35 := congrArg Int32.toInt ez35
            have bz35 := oI_1_3 (Iv_at hI29 hLy32 hKy32)
            rw [← ez35] at bz35
            refine lv_icmp_ge (tgt := 59) hx hb dX6_ticks_38 (by decide) (fun c38 => ?_) (fun c38 => ?_)
            · have t38 := tq_le (k := z35.toInt) (q := v29_4.toInt) c38 rfl rfl
              obtain ⟨z59, ez59⟩ : ∃ y : Int32, y = v21_3 + 1 := ⟨_, rfl⟩
              refine lv_iinc (v := z59) (lv' := [(3, .int z59), (0, .ref p0), (1, .int p1), (2, .int v29_2), (4, .int v29_4)]) hx hb dX6_ticks_59 hl (k := 3) rfl (by rw [ez59]; rfl) (by decide) rfl (fun ls hl => ?_)
              have bz59 := tq_add (k := v21_3.toInt) (q := 1) ez59 rfl (by decide +kernel) (by omega) (by omega)
              refine lv_goto (tgt := 21) hx hb dX6_ticks_62 (by decide) ?_
              exact ih21 _ (by omega) v29_2 z59 I29 _ _ _ rfl ⟨by omega, by omega⟩ ⟨by omega, by omega⟩ hI29 dn_I29 (by omega) (fun σ h => by obtain ⟨l, e, A⟩ := ht29 σ h; have en := tk_en A (z := z35) (by rw [ez35, show y32 = an Q p0 from (gd_of ey32).symm]); have ek : v29_4.toInt.toNat = (σ.1.1 1).toInt.toNat := (by omega); rw [show z59.toInt.toNat = v21_3.toInt.toNat + 1 by omega, tkT_s]; rw [ek] at e A; exact ⟨e, A⟩) hP hS (lv_sub hl [1, 2, 3, 0] rfl)
            · have t38 := tq_nle (k := z35.toInt) (q := v29_4.toInt) c38 rfl rfl
              refine lv_aload_n hx hb dX6_ticks_41 rfl (lv_at hl 0 rfl) ?_
              refine lv_iload hx hb dX6_ticks_42 (lv_at hl 4 rfl) ?_
              refine sw_i (Z := (fun I1 J1 => Iv L K x0 m0 tx tm I1 ∧ (∀ b, K b = 7 ∨ K b = 18 ∨ K b = 19 ∨ K b = 20 ∨ K b = 24 → I1 b = I29 b) ∧ (∀ σ : Sx, cxA Q I29 Jz14 p0 σ → v29_4.toInt.toNat < (σ.1.1 1).toInt.toNat → cxA Q I1 J1 p0 ((tkB σ.1 v29_4.toInt.toNat).1, σ.2)) ∧ J1 = Jz14)) (va_runV (As := [.int v29_4]) (rest := []) ⟨hx, hb, hml, hown, hts⟩ (s_X6_stopsInTick l dC dI cs L K G Q hQ x0 m0 tx tm H.size I29 Jz14 hI29 p0 hLp0 hKp0 v29_4 ⟨by omega, by omega⟩) (cwV 1 hts (gV pq829 pq831 pq6 pq74 pq832) rfl rfl rfl (by decide +kernel) ⟨(by rw [hR]; exact (Nat.le_of_ble_eq_true rfl)), (by rw [hR]; exact (Nat.le_of_ble_eq_true rfl))⟩) (sP_V hP hD hK hN hLp0 hKp0 rfl rfl) rfl rfl hl.1 rfl (lv_room (Nat.le_of_ble_eq_true rfl)) dX6_ticks_44 ⟨(by rw [hR]; exact (Nat.le_of_ble_eq_true rfl)), (by rw [hR]; exact (Nat.le_of_ble_eq_true rfl))⟩) hS hAL hA (fun z44 Iz44 Jz44 H locs hz44 hIz44 hP hS => ?_)
              obtain ⟨hIz44, dnc44, jz44, djc44⟩ := hIz44
              obtain rfl : Jz14 = Jz44 := djc44.symm
              have dn_Iz44 : (∀ b, b ∈ L0 → (K0 b = 7 ∨ K0 b = 18 ∨ K0 b = 19 ∨ K0 b = 20 ∨ K0 b = 24) → Iz44 b = I b) := fun b hb hc => (dnc44 b (by have w := (hX b hb).2.1; omega)).trans (dn_I29 b hb hc)
              obtain ⟨bz44, xpz44⟩ := hz44
              have h44 : ∀ σ : Sx, cxA Q0 I J p0 σ → v29_4.toInt.toNat < (σ.1.1 1).toInt.toNat ∧ z44.toInt = (tkB (tkR v29_4.toInt.toNat (tkT (σ.1.1 1).toInt.toNat v21_3.toInt.toNat (σ.1, 0))).1 v29_4.toInt.toNat).2 ∧ cxA Q Iz44 Jz14 p0 ((tkB (tkR v29_4.toInt.toNat (tkT (σ.1.1 1).toInt.toNat v21_3.toInt.toNat (σ.1, 0))).1 v29_4.toInt.toNat).1, (rem σ).2) := fun σ h => by obtain ⟨l, e, A⟩ := ht29 σ h; have en := tk_en A (z := z35) (by rw [ez35, show y32 = an Q p0 from (gd_of ey32).symm]); have hn : v29_4.toInt.toNat < (σ.1.1 1).toInt.toNat := (by omega); exact ⟨hn, tk_44 A hn xpz44 jz44⟩
              have j53 : ∀ (v53_2 : Int32) (H : Heap) (lo : List Loc) (ls : Array Slot), ((0) ≤ v53_2.toInt ∧ v53_2.toInt ≤ 2000) → (0 ≤ v53_2.toInt ∧ v53_2.toInt ≤ 10 * v21_3.toInt + v29_4.toInt + 1) → (∀ σ : Sx, cxA Q0 I J p0 σ → v29_4.toInt.toNat < (σ.1.1 1).toInt.toNat ∧ v53_2.toInt = (tkR (v29_4.toInt.toNat + 1) (tkT (σ.1.1 1).toInt.toNat v21_3.toInt.toNat (σ.1, 0))).2 ∧ cxA Q Iz44 Jz14 p0 ((tkR (v29_4.toInt.toNat + 1) (tkT (σ.1.1 1).toInt.toNat v21_3.toInt.toNat (σ.1, 0))).1, (rem σ).2)) → va_P (dC, dI) vwCl (Wd cs L K Iz44 Jz14 Q) H → va_S A s.heap H lo → lv_has ls 5 [(0, .ref p0), (1, .int p1), (2, .int v53_2), (3, .int v21_3), (4, .int v29_4)] → W p l e R s m (([.ref p0, .int p1] : List Value).toArray) below meth c H lo 29 807 Qz (F0 m 53 ls []) := by
                intro v53_2 H lo ls bv53_2 hb53 ht53 hP hS hl
                obtain ⟨z53, ez53⟩ : ∃ y : Int32, y = v29_4 + 1 := ⟨_, rfl⟩
                refine lv_iinc (v := z53) (lv' := [(4, .int z53), (0, .ref p0), (1, .int p1), (2, .int v53_2), (3, .int v21_3)]) hx hb dX6_ticks_53 hl (k := 4) rfl (by rw [ez53]; rfl) (by decide) rfl (fun ls hl => ?_)
                have bz53 := tq_add (k := v29_4.toInt) (q := 1) ez53 rfl (by decide +kernel) (by omega) (by omega)
                refine lv_goto (tgt := 29) hx hb dX6_ticks_56 (by decide) ?_
                exact ih29 _ (by omega) v53_2 z53 Iz44 _ _ _ rfl ⟨by omega, by omega⟩ ⟨by omega, by omega⟩ hIz44 dn_Iz44 (by omega) (fun σ h => by obtain ⟨l, e, A⟩ := ht53 σ h; rw [show z53.toInt.toNat = v29_4.toInt.toNat + 1 by omega]; exact ⟨by omega, e, A⟩) hP hS (lv_sub hl [1, 2, 3, 4, 0] rfl)
              refine lv_if_eq (tgt := 53) hx hb dX6_ticks_47 (by decide) (fun c47 => ?_) (fun c47 => ?_)
              · have t47 := tq_eq (k := z44.toInt) (q := (0)) c47 rfl (by decide +kernel)
                exact j53 v29_2 _ _ _ ⟨by omega, by omega⟩ (by omega) (fun σ h => by obtain ⟨l, e, A⟩ := ht29 σ h; obtain ⟨hn, r1, A1⟩ := h44 σ h; exact ⟨hn, tkR_st e r1 (by omega), by rw [tkR_s]; exact A1⟩) hP hS (lv_sub hl [0, 1, 2, 3, 4] rfl)
              · have t47 := tq_ne (k := z44.toInt) (q := (0)) c47 rfl (by decide +kernel)
                obtain ⟨z50, ez50⟩ : ∃ y : Int32, y = v29_2 + 1 := ⟨_, rfl⟩
                refine lv_iinc (v := z50) (lv' := [(2, .int z50), (0, .ref p0), (1, .int p1), (3, .int v21_3), (4, .int v29_4)]) hx hb dX6_ticks_50 hl (k := 2) rfl (by rw [ez50]; rfl) (by decide) rfl (fun ls hl => ?_)
                have bz50 := tq_add (k := v29_2.toInt) (q := 1) ez50 rfl (by decide +kernel) (by omega) (by omega)
                exact j53 z50 _ _ _ ⟨by omega, by omega⟩ (by omega) (fun σ h => by obtain ⟨l, e, A⟩ := ht29 σ h; obtain ⟨hn, r1, A1⟩ := h44 σ h; exact ⟨hn, tkR_st e r1 (by omega), by rw [tkR_s]; exact A1⟩) hP hS (lv_sub hl [1, 2, 0, 3, 4] rfl))
          exact key29 _ v21_2 0 I21 _ _ _ rfl ⟨by omega, by omega⟩ ⟨by decide +kernel, by decide +kernel⟩ hI21 dn_I21 (by rw [show (0 : Int32).toInt = 0 from by decide +kernel]; omega) (fun σ h => by rw [show (0 : Int32).toInt.toNat = 0 from by decide +kernel, tkR_0]; exact ⟨Nat.zero_le _, ht21 σ h⟩) hP hS (lv_sub hl [1, 2, 3, 4, 0] rfl))
      exact key21 _ 0 0 Iz14 _ _ _ rfl ⟨by decide +kernel, by decide +kernel⟩ ⟨by decide +kernel, by decide +kernel⟩ hIz14 dn_Iz14 (by rw [show (0 : Int32).toInt = 0 from by decide +kernel]; omega) (fun σ h => by rw [show (0 : Int32).toInt.toNat = 0 from by decide +kernel, tkT_0]; have A := rz14 σ (rx0 σ h); rw [rem_e] at A; exact ⟨by show (0 : Int32).toInt = 0; decide +kernel, A⟩) hP hS (lv_sub hl [2, 3, 1, 0] rfl)
    · have t8 := tq_nle (k := p1.toInt) (q := (20)) c8 rfl (by decide +kernel)
      refine lv_iconst (v := (-1)) hx hb dX6_ticks_11 (by decide +kernel) ?_
      subst hR; subst hQz
      refine W.widen (k := 29) (n := 807) (Nat.le_of_ble_eq_true rfl) (Nat.le_of_ble_eq_true rfl) ?_
      exact W.iret (v := (-1)) hx hb hr (fun t ht hW => ⟨⟨(-1), (), rfl, (fun σ h => by rw [tk_n (by omega)]; show (-1 : Int32).toInt = -1; decide +kernel), ⟨L, K, G, Q, I, J, hX, hQ, hI, fun F => (hD F).weaken (fun _ _ _ _ => trivial), fun q h => hAe2 q (hAL q h), by rw [ht]; exact hP, ⟨(fun σ h => by rw [tk_n (by omega)]; exact rx0 σ h), dn_I, dj_J⟩⟩⟩, hS.F ht⟩) hS.2.2 dX6_ticks_12

set_option maxHeartbeats 4000000 in
set_option maxRecDepth 100000 in
theorem s_X6_push (l : Launch) (dC : Nat → ClassId) (dI : Nat → Nat → Nat) (cs : Nat → ClassId) (L0 : List Nat) (K0 G0 : Nat → Nat) (Q0 : Nat → Nat → Option Nat) (hQ : Sv L0 K0 G0 Q0) (x0 m0 : Nat) (tx : GT) (tm : GT × Int) (hx0 : x0 ∈ L0) (hm0 : m0 ∈ L0) (sz : Nat) (I : Nat → Nat → Int32) (J : Nat → Nat → Int64) (hI : Iv L0 K0 x0 m0 tx tm I) (p0 : Nat) (hLp0 : p0 ∈ L0) (hKp0 : K0 p0 = 6) (p1 : Int32) (p2 : Int32) (p3 : Int32) : Met l yX6_push (.code yX6_push cX6_push 10 (some .int) :: pw) ({ frames := 5, cells := 29, slots := 807, locals := 135 }) (sP (dC, dI) cs [.ref p0, .int p1, .int p2, .int p3] sz L0 K0 I J Q0) (va_Qi (fun (r : Int32) (_ : Unit) => (∀ σ : Sx, cxA Q0 I J p0 σ → r.toInt = (psA σ p1 p2 p3).1)) (fun _ t => sA (dC, dI) cs L0 K0 G0 Q0 x0 m0 tx tm sz (fun L K G Q I1 J1 => (∀ σ : Sx, cxA Q0 I J p0 σ → cxA Q I1 J1 p0 (psA σ p1 p2 p3).2) ∧ (∀ b, b ∈ L0 → (K0 b = 7 ∨ K0 b = 18 ∨ K0 b = 19 ∨ K0 b = 20 ∨ K0 b = 24) → I1 b = I b) ∧ (∀ b, b ∈ L0 → ¬ (K0 b = 12) → J1 b = J b)) t) (fun q => q ∈ L0 ∨ sz ≤ q)) 29 807 (fun q => q ∈ L0 ∨ sz ≤ q) := by
  refine Met.ofW (cc := cX6_push) (maxL := 10) (ret := (some .int)) (by decide +kernel) rfl ?_
  intro p e s m args below meth c s₁ B hml hv
  obtain ⟨rfl, hsz, hP, hK, hD0, hN⟩ := hv
  have hx := B.exec
  have hb := B.bytes
  have hr := B.returns
  have hts := fun w (h : w ∈ pw) => atoms_spec (ws := Cond.code yX6_push cX6_push 10 (some .int) :: pw) B.pre w (List.mem_cons_of_mem _ h)
  have hown : s.vm.findClass RX6 = some m.cls := findClass_of_methodNamed B.named
  have hlocks := B.notSynchronized
  subst hsz
  have hBB : 999 ≤ tm.2 ∧ tm.2 ≤ 6000000 := hI.2.2.2.2.1
  have dn_I : (∀ b, b ∈ L0 → (K0 b = 7 ∨ K0 b = 18 ∨ K0 b = 19 ∨ K0 b = 20 ∨ K0 b = 24) → I b = I b) := fun _ _ _ => rfl
  have dj_J : (∀ b, b ∈ L0 → ¬ (K0 b = 12) → J b = J b) := fun _ _ _ => rfl
  obtain ⟨A, hAe⟩ : ∃ A : Nat → Prop, A = (fun q => q ∈ L0 ∨ s.heap.size ≤ q) := ⟨_, rfl⟩
  rw [← hAe]
  have hAL : ∀ q, q ∈ L0 → A q := fun q h => by rw [hAe]; exact Or.inl h
  have hA : ∀ q, s.heap.size ≤ q → A q := fun q h => by rw [hAe]; exact Or.inr h
  have hD : ∀ F, va_D A (va_pl L0 F) := fun F => (hD0 F).weaken (fun k q hk _ => hAL _ (pl_mem hk))
  obtain ⟨H, hHe⟩ : ∃ H : Heap, H = s.heap := ⟨_, rfl⟩
  have hS : va_S A s.heap H [] := by rw [hHe]; exact va_S.rf
  rw [← hHe] at hP
  have hl := lv_entry ([.ref p0, .int p1, .int p2, .int p3]) (n := 10) (Nat.le_of_ble_eq_true rfl)
  rw [lg_entry_eq]
  generalize (lg_sl ([.ref p0, .int p1, .int p2, .int p3]) ++ List.replicate (10 - (lg_sl ([.ref p0, .int p1, .int p2, .int p3])).length) Slot.unset).toArray = ls at hl ⊢
  have hl : lv_has ls 10 [(0, .ref p0), (1, .int p1), (2, .int p2), (3, .int p3)] := hl
  rw [← hHe]
  refine namedW (fun R Qz hR hQz => ?_)
  have hAe2 : ∀ q, A q → q ∈ L0 ∨ H.size ≤ q := fun q h => by rw [hHe]; rw [hAe] at h; exact h
  have hQ0 := hQ
  have hK0p0 := hKp0
  have hL0p0 := hLp0
  obtain ⟨L, K, G, Q, hX, hQ, hI, hP, hD, hAL, hx0, hm0, hLp0, hKp0, rx0⟩ : ∃ L K G Q, extW L0 K0 G0 Q0 L K G Q ∧ Sv L K G Q ∧ Iv L K x0 m0 tx tm I ∧ va_P (dC, dI) vwCl (Wd cs L K I J Q) H ∧ (∀ F, va_D A (va_pl L F)) ∧ (∀ q, q ∈ L → A q) ∧ x0 ∈ L ∧ m0 ∈ L ∧ p0 ∈ L ∧ K p0 = 6 ∧ (∀ σ : Sx, cxA Q0 I J p0 σ → cxA Q I J p0 σ) := ⟨L0, K0, G0, Q0, extW_refl, hQ, hI, hP, hD, hAL, hx0, hm0, hLp0, hKp0, fun _ h => h⟩
  refine lv_aload_n hx hb dX6_push_0 rfl (lv_at hl 0 rfl) ?_
  refine lv_iload_n hx hb dX6_push_1 rfl (lv_at hl 1 rfl) ?_
  refine ro_i (va_runV (As := [.int p1]) (rest := []) ⟨hx, hb, hml, hown, hts⟩ (s_X6_isBody l dC dI cs L K G Q hQ x0 m0 tx tm H.size I J hI p0 hLp0 hKp0 p1) (cwV 1 hts (gV pq636 pq638 pq2 pq74 pq639) rfl rfl rfl (by decide +kernel) ⟨(by rw [hR]; exact (Nat.le_of_ble_eq_true rfl)), (by rw [hR]; exact (Nat.le_of_ble_eq_true rfl))⟩) (sP_V hP hD hK hN hLp0 hKp0 rfl rfl) rfl rfl hl.1 rfl (lv_room (Nat.le_of_ble_eq_true rfl)) dX6_push_2 ⟨(by rw [hR]; exact (Nat.le_of_ble_eq_true rfl)), (by rw [hR]; exact (Nat.le_of_ble_eq_true rfl))⟩) hS hP (fun z2 H locs hz2 hP hS => ?_)
  obtain ⟨bz2, imz2, xpz2⟩ := hz2
  refine lv_if_eq (tgt := 28) hx hb dX6_push_5 (by decide) (fun c5 => ?_) (fun c5 => ?_)
  · have t5 := tq_eq (k := z2.toInt) (q := (0)) c5 rfl (by decide +kernel)
    refine lv_iconst (v := (-1)) hx hb dX6_push_28 (by decide +kernel) ?_
    subst hR; subst hQz
    refine W.widen (k := 29) (n := 807) (Nat.le_of_ble_eq_true rfl) (Nat.le_of_ble_eq_true rfl) ?_
    exact W.iret (v := (-1)) hx hb hr (fun t ht hW => ⟨⟨(-1), (), rfl, (fun σ h => by have A0 := rx0 σ h; have ec := A0.1.1.2.2.1; rw [ps_n (fun q => by unfold twC at q; rw [← ec] at q; first | exact xpz2.2 t5 q.1 | exact xpz12 t15 q.2.1 | exact xpz22 t25 q.2.2)]; show (-1 : Int32).toInt = -1; decide +kernel), ⟨L, K, G, Q, I, J, hX, hQ, hI, fun F => (hD F).weaken (fun _ _ _ _ => trivial), fun q h => hAe2 q (hAL q h), by rw [ht]; exact hP, ⟨(fun σ h => by have A0 := rx0 σ h; have ec := A0.1.1.2.2.1; rw [ps_n (fun q => by unfold twC at q; rw [← ec] at q; first | exact xpz2.2 t5 q.1 | exact xpz12 t15 q.2.1 | exact xpz22 t25 q.2.2)]; exact A0), dn_I, dj_J⟩⟩⟩, hS.F ht⟩) hS.2.2 dX6_push_29
  · have t5 := tq_ne (k := z2.toInt) (q := (0)) c5 rfl (by decide +kernel)
    have i5 := imz2 t5
    refine lv_iload_n hx hb dX6_push_8 rfl (lv_at hl 2 rfl) ?_
    refine lv_sipush (v := 200) hx hb dX6_push_9 (by decide +kernel) ?_
    refine ro_i (va_runS (As := [.int p2, .int 200]) (rest := []) ⟨hx, hb, hml, hown, hts⟩ (s_X6_isWithin l dC dI cs L K G Q hQ x0 m0 tx tm H.size I J hI p2 200 ⟨by decide +kernel, by decide +kernel⟩) (va_cwS 2 hts (gS pq640 pq641 pq74 pq642) rfl rfl rfl (by decide +kernel) ⟨(by rw [hR]; exact (Nat.le_of_ble_eq_true rfl)), (by rw [hR]; exact (Nat.le_of_ble_eq_true rfl))⟩) (sP_S hP hD hK hN) rfl rfl hl.1 rfl (lv_room (Nat.le_of_ble_eq_true rfl)) dX6_push_12 ⟨(by rw [hR]; exact (Nat.le_of_ble_eq_true rfl)), (by rw [hR]; exact (Nat.le_of_ble_eq_true rfl))⟩) hS hP (fun z12 H locs hz12 hP hS => ?_)
    have cst12_200 : (200 : Int32).toInt = 200 := by decide +kernel
    obtain ⟨bz12, imz12, xpz12⟩ := hz12
    try rw [cst12_200] at xpz12
    refine lv_if_eq (tgt := 28) hx hb dX6_push_15 (by decide) (fun c15 => ?_) (fun c15 => ?_)
    · have t15 := tq_eq (k := z12.toInt) (q := (0)) c15 rfl (by decide +kernel)
      refine lv_iconst (v := (-1)) hx hb dX6_push_28 (by decide +kernel) ?_
      subst hR; subst hQz
      refine W.widen (k := 29) (n := 807) (Nat.le_of_ble_eq_true rfl) (Nat.le_of_ble_eq_true rfl) ?_
      exact W.iret (v := (-1)) hx hb hr (fun t ht hW => ⟨⟨(-1), (), rfl, (fun σ h => by have A0 := rx0 σ h; have ec := A0.1.1.2.2.1; rw [ps_n (fun q => by unfold twC at q; rw [← ec] at q; first | exact xpz2.2 t5 q.1 | exact xpz12 t15 q.2.1 | exact xpz22 t25 q.2.2)]; show (-1 : Int32).toInt = -1; decide +kernel), ⟨L, K, G, Q, I, J, hX, hQ, hI, fun F => (hD F).weaken (fun _ _ _ _ => trivial), fun q h => hAe2 q (hAL q h), by rw [ht]; exact hP, ⟨(fun σ h => by have A0 := rx0 σ h; have ec := A0.1.1.2.2.1; rw [ps_n (fun q => by unfold twC at q; rw [← ec] at q; first | exact xpz2.2 t5 q.1 | exact xpz12 t15 q.2.1 | exact xpz22 t25 q.2.2)]; exact A0), dn_I, dj_J⟩⟩⟩, hS.F ht⟩) hS.2.2 dX6_push_29
    · have t15 := tq_ne (k := z12.toInt) (q := (0)) c15 rfl (by decide +kernel)
      have i15 := imz12 t15
      refine lv_iload_n hx hb dX6_push_18 rfl (lv_at hl 3 rfl) ?_
      refine lv_sipush (v := 200) hx hb dX6_push_19 (by decide +kernel) ?_
      refine ro_i (va_runS (As := [.int p3, .int 200]) (rest := []) ⟨hx, hb, hml, hown, hts⟩ (s_X6_isWithin l dC dI cs L K G Q hQ x0 m0 tx tm H.size I J hI p3 200 ⟨by decide +kernel, by decide +kernel⟩) (va_cwS 2 hts (gS pq640 pq641 pq74 pq642) rfl rfl rfl (by decide +kernel) ⟨(by rw [hR]; exact (Nat.le_of_ble_eq_true rfl)), (by rw [hR]; exact (Nat.le_of_ble_eq_true rfl))⟩) (sP_S hP hD hK hN) rfl rfl hl.1 rfl (lv_room (Nat.le_of_ble_eq_true rfl)) dX6_push_22 ⟨(by rw [hR]; exact (Nat.le_of_ble_eq_true rfl)), (by rw [hR]; exact (Nat.le_of_ble_eq_true rfl))⟩) hS hP (fun z22 H locs hz22 hP hS => ?_)
      have cst22_200 : (200 : Int32).toInt = 200 := by decide +kernel
      obtain ⟨bz22, imz22, xpz22⟩ := hz22
      try rw [cst22_200] at xpz22
      refine lv_if_ne (tgt := 30) hx hb dX6_push_25 (by decide) (fun c25 => ?_) (fun c25 => ?_)
      · have t25 := tq_ne (k := z22.toInt) (q := (0)) c25 rfl (by decide +kernel)
        have i25 := imz22 t25
        have hC : ∀ σ : Sx, cxA Q0 I J p0 σ → twC σ p1 p2 p3 (-200) 200 := fun σ h => by have A0 := rx0 σ h; have ec := A0.1.1.2.2.1; exact ⟨by rw [← ec]; exact xpz2.1 t5, ⟨by omega, by omega⟩, ⟨by omega, by omega⟩⟩
        refine lv_iload_n hx hb dX6_push_30 rfl (lv_at hl 2 rfl) ?_
        refine lv_iload_n hx hb dX6_push_31 rfl (lv_at hl 3 rfl) ?_
        refine ro_i (va_runS (As := [.int p2, .int p3]) (rest := []) ⟨hx, hb, hml, hown, hts⟩ (s_X6_wayLength l dC dI cs L K G Q hQ x0 m0 tx tm H.size I J hI p2 ⟨by omega, by omega⟩ p3 ⟨by omega, by omega⟩) (va_cwS 2 hts (gS pq797 pq744 pq74 pq745) rfl rfl rfl (by decide +kernel) ⟨(by rw [hR]; exact (Nat.le_of_ble_eq_true rfl)), (by rw [hR]; exact (Nat.le_of_ble_eq_true rfl))⟩) (sP_S hP hD hK hN) rfl rfl hl.1 rfl (lv_room (Nat.le_of_ble_eq_true rfl)) dX6_push_32 ⟨(by rw [hR]; exact (Nat.le_of_ble_eq_true rfl)), (by rw [hR]; exact (Nat.le_of_ble_eq_true rfl))⟩) hS hP (fun z32 H locs hz32 hP hS => ?_)
        obtain ⟨bz32, xpz32⟩ := hz32
        refine lv_istore (lv' := [(4, .int z32), (0, .ref p0), (1, .int p1), (2, .int p2), (3, .int p3)]) hx hb dX6_push_35 hl (by decide) rfl (fun ls hl => ?_)
        refine lv_iconst (v := 0) hx hb dX6_push_37 (by decide +kernel) ?_
        refine lv_istore (lv' := [(5, .int 0), (4, .int z32), (0, .ref p0), (1, .int p1), (2, .int p2), (3, .int p3)]) hx hb dX6_push_38 hl (by decide) rfl (fun ls hl => ?_)
        refine lv_iconst (v := 1) hx hb dX6_push_40 (by decide +kernel) ?_
        refine lv_istore (lv' := [(6, .int 1), (5, .int 0), (4, .int z32), (0, .ref p0), (1, .int p1), (2, .int p2), (3, .int p3)]) hx hb dX6_push_41 hl (by decide) rfl (fun ls hl => ?_)
        have key43 := blocks (fun n => ∀ (L : List Nat) (K : Nat → Nat) (G : Nat → Nat) (Q : Nat → Nat → Option Nat) (v43_5 : Int32) (v43_6 : Int32) (I43 : Nat → Nat → Int32) (J43 : Nat → Nat → Int64) (nc43 : Nat) (ns43 : Nat) (H : Heap) (lo : List Loc) (ls : Array Slot), (302 - v43_6.toInt).toNat = n → extW L0 K0 G0 Q0 L K G Q → Sv L K G Q → (∀ F, va_D A (va_pl L F)) → (∀ q, q ∈ L → A q) → x0 ∈ L → m0 ∈ L → p0 ∈ L → K p0 = 6 → (nc43 ≤ 29 ∧ ns43 ≤ 807) → ((0) ≤ v43_5.toInt ∧ v43_5.toInt ≤ 300) → ((1) ≤ v43_6.toInt ∧ v43_6.toInt ≤ 301) → Iv L K x0 m0 tx tm I43 → (∀ b, b ∈ L0 → (K0 b = 7 ∨ K0 b = 18 ∨ K0 b = 19 ∨ K0 b = 20 ∨ K0 b = 24) → I43 b = I b) → (∀ b, b ∈ L0 → ¬ (K0 b = 12) → J43 b = J b) → (v43_5.toInt = 0 → nc43 = 0 ∧ ns43 = 0) → (∀ σ : Sx, cxA Q0 I J p0 σ → twC σ p1 p2 p3 (-200) 200 ∧ v43_6.toInt = v43_5.toInt + 1 ∧ v43_5.toInt ≤ stI p2.toInt p3.toInt ∧ (∀ i : Nat, (i : Int) < v43_5.toInt → psG σ.1 p1.toInt.toNat p2.toInt p3.toInt i) ∧ cxA Q I43 J43 p0 (psS σ p1.toInt.toNat p2.toInt p3.toInt v43_5.toInt.toNat)) → va_P (dC, dI) vwCl (Wd cs L K I43 J43 Q) H → va_S A s.heap H lo → lv_has ls 10 [(0, .ref p0), (1, .int p1), (2, .int p2), (3, .int p3), (4, .int z32), (5, .int v43_5), (6, .int v43_6)] → W p l e R s m (([.ref p0, .int p1, .int p2, .int p3] : List Value).toArray) below meth c H lo nc43 ns43 Qz (F0 m 43 ls [])) (by
          intro n ih43
          intro L K G Q v43_5 v43_6 I43 J43 nc43 ns43 H lo ls hmu43 hX hQ hD hAL hx0 hm0 hLp0 hKp0 hnc43 bv43_5 bv43_6 hI43 dn_I43 dj_J43 hnz ht43 hP hS hl
          refine lv_iload hx hb dX6_push_43 (lv_at hl 6 rfl) ?_
          refine lv_iload hx hb dX6_push_45 (lv_at hl 4 rfl) ?_
          have j157 : ∀ (H : Heap) (lo : List Loc) (ls : Array Slot), (∀ σ : Sx, cxA Q0 I J p0 σ → psN σ.1 p1.toInt.toNat p2.toInt p3.toInt = v43_5.toInt) → va_P (dC, dI) vwCl (Wd cs L K I43 J43 Q) H → va_S A s.heap H lo → lv_has ls 10 [(0, .ref p0), (1, .int p1), (2, .int p2), (3, .int p3), (4, .int z32), (5, .int v43_5), (6, .int v43_6)] → W p l e R s m (([.ref p0, .int p1, .int p2, .int p3] : List Value).toArray) below meth c H lo nc43 ns43 Qz (F0 m 157 ls []) := by
            intro H lo ls ht157 hP hS hl
            refine lv_iload hx hb dX6_push_157 (lv_at hl 5 rfl) ?_
            refine lv_if_ne (tgt := 167) hx hb dX6_push_159 (by decide) (fun c159 => ?_) (fun c159 => ?_)
            · have t159 := tq_ne (k := v43_5.toInt) (q := (0)) c159 rfl (by decide +kernel)
              refine lv_iload hx hb dX6_push_167 (lv_at hl 5 rfl) ?_
              subst hR; subst hQz
              refine W.widen (k := 29) (n := 807) (by omega) (by omega) ?_
              exact W.iret (v := v43_5) hx hb hr (fun t ht hW => ⟨⟨v43_5, (), rfl, (fun σ h => by rw [ps_y (hC σ h) (by rw [ht157 σ h]; omega)]; exact (ht157 σ h).symm), ⟨L, K, G, Q, I43, J43, hX, hQ, hI43, fun F => (hD F).weaken (fun _ _ _ _ => trivial), fun q h => hAe2 q (hAL q h), by rw [ht]; exact hP, ⟨(fun σ h => by obtain ⟨hC2, e6, le, gg, A⟩ := ht43 σ h; first | (rw [ps_e hC2 (by rw [ht157 σ h]; omega)]; rw [show v43_5.toInt.toNat = 0 by omega, psS_0] at A; exact A) | (rw [ps_y hC2 (by rw [ht157 σ h]; omega), ht157 σ h]; rw [psS_y (by omega)] at A; exact A)), dn_I43, dj_J43⟩⟩⟩, hS.F ht⟩) hS.2.2 dX6_push_169
            · have t159 := tq_eq (k := v43_5.toInt) (q := (0)) c159 rfl (by decide +kernel)
              refine lv_bipush (v := (-2)) hx hb dX6_push_162 (by decide +kernel) ?_
              refine lv_goto (tgt := 169) hx hb dX6_push_164 (by decide) ?_
              subst hR; subst hQz
              refine W.widen (k := 29) (n := 807) (by omega) (by omega) ?_
              exact W.iret (v := (-2)) hx hb hr (fun t ht hW => ⟨⟨(-2), (), rfl, (fun σ h => by rw [ps_e (hC σ h) (by rw [ht157 σ h]; omega)]; show (-2 : Int32).toInt = -2; decide +kernel), ⟨L, K, G, Q, I43, J43, hX, hQ, hI43, fun F => (hD F).weaken (fun _ _ _ _ => trivial), fun q h => hAe2 q (hAL q h), by rw [ht]; exact hP, ⟨(fun σ h => by obtain ⟨hC2, e6, le, gg, A⟩ := ht43 σ h; first | (rw [ps_e hC2 (by rw [ht157 σ h]; omega)]; rw [show v43_5.toInt.toNat = 0 by omega, psS_0] at A; exact A) | (rw [ps_y hC2 (by rw [ht157 σ h]; omega), ht157 σ h]; rw [psS_y (by omega)] at A; exact A)), dn_I43, dj_J43⟩⟩⟩, hS.F ht⟩) hS.2.2 dX6_push_169
          refine lv_icmp_gt (tgt := 157) hx hb dX6_push_47 (by decide) (fun c47 => ?_) (fun c47 => ?_)
          · have t47 := tq_lt (k := z32.toInt) (q := v43_6.toInt) c47 rfl rfl
            exact j157  _ _ _ (fun σ h => by obtain ⟨hC2, e6, le, gg, A⟩ := ht43 σ h; exact psN_of ⟨⟨by omega, le⟩, gg, Or.inl (by rw [← xpz32] at le ⊢; omega)⟩) hP hS (lv_sub hl [0, 1, 2, 3, 4, 5, 6] rfl)
          · have t47 := tq_nlt (k := z32.toInt) (q := v43_6.toInt) c47 rfl rfl
            refine lv_iload hx hb dX6_push_50 (lv_at hl 6 rfl) ?_
            refine lv_iload_n hx hb dX6_push_52 rfl (lv_at hl 2 rfl) ?_
            refine lv_iload hx hb dX6_push_53 (lv_at hl 4 rfl) ?_
            refine ro_i (va_runS (As := [.int v43_6, .int p2, .int z32]) (rest := []) ⟨hx, hb, hml, hown, hts⟩ (s_X6_wayPartS l dC dI cs L K G Q hQ x0 m0 tx tm H.size I43 J43 hI43 v43_6 ⟨by omega, by omega⟩ p2 ⟨by omega, by omega⟩ z32 ⟨by omega, by omega⟩ (by omega)) (va_cwS 3 hts (gS pq798 pq779 pq74 pq780) rfl rfl rfl (by decide +kernel) ⟨(by rw [hR]; exact (Nat.le_of_ble_eq_true rfl)), (by rw [hR]; exact (Nat.le_of_ble_eq_true rfl))⟩) (sP_S hP hD hK hN) rfl rfl hl.1 rfl (lv_room (Nat.le_of_ble_eq_true rfl)) dX6_push_55 ⟨(by rw [hR]; exact (show nc43 + 0 ≤ 29 by omega)), (by rw [hR]; exact (show ns43 + 0 ≤ 807 by omega))⟩) hS hP (fun z55 H locs hz55 hP hS => ?_)
            obtain ⟨bz55, xpz55⟩ := hz55
            refine lv_iload hx hb dX6_push_58 (lv_at hl 6 rfl) ?_
            refine lv_iconst (v := 1) hx hb dX6_push_60 (by decide +kernel) ?_
            refine lv_isub hx hb dX6_push_61 ?_
            refine lv_topi (fun z61 ez61 => ?_)
            have bz61 := tq_sub (k := v43_6.toInt) (q := (1)) ez61 rfl (by decide +kernel) (by omega) (by omega)
            refine lv_iload_n hx hb dX6_push_62 rfl (lv_at hl 2 rfl) ?_
            refine lv_iload hx hb dX6_push_63 (lv_at hl 4 rfl) ?_
            refine ro_i (va_runS (As := [.int z61, .int p2, .int z32]) (rest := [.int z55]) ⟨hx, hb, hml, hown, hts⟩ (s_X6_wayPartS l dC dI cs L K G Q hQ x0 m0 tx tm H.size I43 J43 hI43 z61 ⟨by omega, by omega⟩ p2 ⟨by omega, by omega⟩ z32 ⟨by omega, by omega⟩ (by omega)) (va_cwS 3 hts (gS pq798 pq779 pq74 pq780) rfl rfl rfl (by decide +kernel) ⟨(by rw [hR]; exact (Nat.le_of_ble_eq_true rfl)), (by rw [hR]; exact (Nat.le_of_ble_eq_true rfl))⟩) (sP_S hP hD hK hN) rfl rfl hl.1 rfl (lv_room (Nat.le_of_ble_eq_true rfl)) dX6_push_65 ⟨(by rw [hR]; exact (show nc43 + 0 ≤ 29 by omega)), (by rw [hR]; exact (show ns43 + 0 ≤ 807 by omega))⟩) hS hP (fun z65 H locs hz65 hP hS => ?_)
            obtain ⟨bz65, xpz65⟩ := hz65
            refine lv_isub hx hb dX6_push_68 ?_
            refine lv_topi (fun z68 ez68 => ?_)
            have bz68 := tq_sub (k := z55.toInt) (q := z65.toInt) ez68 rfl rfl (by omega) (by omega)
            refine lv_istore (lv' := [(7, .int z68), (0, .ref p0), (1, .int p1), (2, .int p2), (3, .int p3), (4, .int z32), (5, .int v43_5), (6, .int v43_6)]) hx hb dX6_push_69 hl (by decide) rfl (fun ls hl => ?_)
            refine lv_iload hx hb dX6_push_71 (lv_at hl 7 rfl) ?_
            refine lv_iload_n hx hb dX6_push_73 rfl (lv_at hl 4 rfl) ?_
            refine lv_iload hx hb dX6_push_74 (lv_at hl 5 rfl) ?_
            refine ro_i (va_runS (As := [.int v43_6, .int p3, .int z32]) (rest := []) ⟨hx, hb, hml, hown, hts⟩ (s_X6_wayPartS l dC dI cs L K G Q hQ x0 m0 tx tm H.size I43 J43 hI43 v43_6 ⟨by omega, by omega⟩ p3 ⟨by omega, by omega⟩ z32 ⟨by omega, by omega⟩ (by omega)) (va_cwS 3 hts (gS pq798 pq779 pq74 pq780) rfl rfl rfl (by decide +kernel) ⟨(by rw [hR]; exact (Nat.le_of_ble_eq_true rfl)), (by rw [hR]; exact (Nat.le_of_ble_eq_true rfl))⟩) (sP_S hP hD hK hN) rfl rfl hl.1 rfl (lv_room (Nat.le_of_ble_eq_true rfl)) dX6_push_76 ⟨(by rw [hR]; exact (show nc43 + 0 ≤ 29 by omega)), (by rw [hR]; exact (show ns43 + 0 ≤ 807 by omega))⟩) hS hP (fun z76 H locs hz76 hP hS => ?_)
            obtain ⟨bz76, xpz76⟩ := hz76
            refine lv_iload hx hb dX6_push_79 (lv_at hl 7 rfl) ?_
            refine lv_iconst (v := 1) hx hb dX6_push_81 (by decide +kernel) ?_
            refine lv_isub hx hb dX6_push_82 ?_
            refine lv_topi (fun z82 ez82 => ?_)
            have bz82 := tq_sub (k := v43_6.toInt) (q := (1)) ez82 rfl (by decide +kernel) (by omega) (by omega)
            refine lv_iload_n hx hb dX6_push_83 rfl (lv_at hl 4 rfl) ?_
            refine lv_iload hx hb dX6_push_84 (lv_at hl 5 rfl) ?_
            refine ro_i (va_runS (As := [.int z82, .int p3, .int z32]) (rest := [.int z76]) ⟨hx, hb, hml, hown, hts⟩ (s_X6_wayPartS l dC dI cs L K G Q hQ x0 m0 tx tm H.size I43 J43 hI43 z82 ⟨by omega, by omega⟩ p3 ⟨by omega, by omega⟩ z32 ⟨by omega, by omega⟩ (by omega)) (va_cwS 3 hts (gS pq798 pq779 pq74 pq780) rfl rfl rfl (by decide +kernel) ⟨(by rw [hR]; exact (Nat.le_of_ble_eq_true rfl)), (by rw [hR]; exact (Nat.le_of_ble_eq_true rfl))⟩) (sP_S hP hD hK hN) rfl rfl hl.1 rfl (lv_room (Nat.le_of_ble_eq_true rfl)) dX6_push_86 ⟨(by rw [hR]; exact (show nc43 + 0 ≤ 29 by omega)), (by rw [hR]; exact (show ns43 + 0 ≤ 807 by omega))⟩) hS hP (fun z86 H locs hz86 hP hS => ?_)
            obtain ⟨bz86, xpz86⟩ := hz86
            refine lv_isub hx hb dX6_push_89 ?_
            refine lv_topi (fun z89 ez89 => ?_)
            have bz89 := tq_sub (k := z76.toInt) (q := z86.toInt) ez89 rfl rfl (by omega) (by omega)
            refine lv_istore (lv' := [(8, .int z89), (7, .int z68), (0, .ref p0), (1, .int p1), (2, .int p2), (3, .int p3), (4, .int z32), (5, .int v43_5), (6, .int v43_6)]) hx hb dX6_push_90 hl (by decide) rfl (fun ls hl => ?_)
            refine lv_aload_n hx hb dX6_push_92 rfl (lv_at hl 2 rfl) ?_
            obtain ⟨y93, ey93, hLy93, hKy93, hGy93⟩ := oQ_6_5 (Sv_at hQ hLp0 hKp0)
            refine p_get (v := .ref y93) hx hb hts inX6 hown hK hP hLp0 hKp0 rfl rfl 5 (by decide) (hts _ pq354) (congrArg (fun q => some (va_rf q)) ey93) dX6_push_93 ?_
            refine lv_iload_n hx hb dX6_push_96 rfl (lv_at hl 3 rfl) ?_
            refine lv_iload hx hb dX6_push_97 (lv_at hl 1 rfl) ?_
            refine lv_iload hx hb dX6_push_99 (lv_at hl 0 rfl) ?_
            refine ro_i (va_runV (As := [.int p1, .int z68, .int z89]) (rest := []) ⟨hx, hb, hml, hown, hts⟩ (s_X5_goingBy l dC dI cs L K G Q hQ x0 m0 tx tm H.size I43 J43 hI43 y93 hLy93 hKy93 p1 ⟨by omega, by omega⟩ z68 z89) (cwV 3 hts (gV pq799 pq800 pq801 pq79 pq802) rfl rfl rfl (by decide +kernel) ⟨(by rw [hR]; exact (Nat.le_of_ble_eq_true rfl)), (by rw [hR]; exact (Nat.le_of_ble_eq_true rfl))⟩) (sP_V hP hD hK hN hLy93 hKy93 rfl rfl) rfl rfl hl.1 rfl (lv_room (Nat.le_of_ble_eq_true rfl)) dX6_push_101 ⟨(by rw [hR]; exact (show nc43 + 0 ≤ 29 by omega)), (by rw [hR]; exact (show ns43 + 0 ≤ 807 by omega))⟩) hS hP (fun z101 H locs hz101 hP hS => ?_)
            have xpz101 := hz101
            refine lv_istore (lv' := [(9, .int z101), (8, .int z89), (7, .int z68), (0, .ref p0), (1, .int p1), (2, .int p2), (3, .int p3), (4, .int z32), (5, .int v43_5), (6, .int v43_6)]) hx hb dX6_push_104 hl (by decide) rfl (fun ls hl => ?_)
            refine lv_aload_n hx hb dX6_push_106 rfl (lv_at hl 3 rfl) ?_
            refine p_get (v := .ref y93) hx hb hts inX6 hown hK hP hLp0 hKp0 rfl rfl 5 (by decide) (hts _ pq354) (congrArg (fun q => some (va_rf q)) ey93) dX6_push_107 ?_
            refine lv_iload hx hb dX6_push_110 (lv_at hl 0 rfl) ?_
            refine lv_iload hx hb dX6_push_112 (lv_at hl 2 rfl) ?_
            refine lv_iload hx hb dX6_push_114 (lv_at hl 1 rfl) ?_
            refine ro_i (va_runV (As := [.int z101, .int z68, .int z89]) (rest := []) ⟨hx, hb, hml, hown, hts⟩ (s_X5_canAllGo l dC dI cs L K G Q hQ x0 m0 tx tm H.size I43 J43 hI43 y93 hLy93 hKy93 z101 z68 ⟨by omega, by omega⟩ z89 ⟨by omega, by omega⟩) (cwV 3 hts (gV pq813 pq814 pq815 pq79 pq816) rfl rfl rfl (by decide +kernel) ⟨(by rw [hR]; exact (Nat.le_of_ble_eq_true rfl)), (by rw [hR]; exact (Nat.le_of_ble_eq_true rfl))⟩) (sP_V hP hD hK hN hLy93 hKy93 rfl rfl) rfl rfl hl.1 rfl (lv_room (Nat.le_of_ble_eq_true rfl)) dX6_push_116 ⟨(by rw [hR]; exact (show nc43 + 0 ≤ 29 by omega)), (by rw [hR]; exact (show ns43 + 0 ≤ 807 by omega))⟩) hS hP (fun z116 H locs hz116 hP hS => ?_)
            obtain ⟨bz116, xpz116⟩ := hz116
            have h119 : ∀ σ : Sx, cxA Q0 I J p0 σ → z68.toInt = psX p2.toInt (stI p2.toInt p3.toInt) v43_5.toInt.toNat ∧ z89.toInt = psX p3.toInt (stI p2.toInt p3.toInt) v43_5.toInt.toNat ∧ (∀ o, hbt z101 o = true ↔ gR (psC σ.1 p1.toInt.toNat p2.toInt p3.toInt v43_5.toInt.toNat) p1.toInt.toNat (psX p2.toInt (stI p2.toInt p3.toInt) v43_5.toInt.toNat) (psX p3.toInt (stI p2.toInt p3.toInt) v43_5.toInt.toNat) o) ∧ (¬ z116.toInt = 0 ↔ psG σ.1 p1.toInt.toNat p2.toInt p3.toInt v43_5.toInt.toNat) := fun σ h => by obtain ⟨hC, e6, le, gg, A⟩ := ht43 σ h; have hb : p1.toInt.toNat < (σ.1.1 1).toInt.toNat := (by have := hC.1; omega); have a := xpz55; rw [e6, xpz32] at a; have b := xpz65; rw [show z61.toInt = v43_5.toInt by omega, xpz32] at b; have a2 := xpz76; rw [e6, xpz32] at a2; have b2 := xpz86; rw [show z82.toInt = v43_5.toInt by omega, xpz32] at b2; have ek : ((v43_5.toInt.toNat : Nat) : Int) = v43_5.toInt := (by omega); have x68 : z68.toInt = psX p2.toInt (stI p2.toInt p3.toInt) v43_5.toInt.toNat := (by unfold psX; rw [ek, ← a, ← b]; omega); have x89 : z89.toInt = psX p3.toInt (stI p2.toInt p3.toInt) v43_5.toInt.toNat := (by unfold psX; rw [ek, ← a2, ← b2]; omega); have T := ps_tg (gd_of ey93) A; have S := xpz101 _ T.1 T.2.1 T.2.2 (psC_n hb) ⟨⟨by omega, by omega⟩, by omega, by omega⟩; have r := ps_116 x68 x89 S (xpz116.2 _ T.1 T.2.1); exact ⟨x68, x89, r.1, r.2⟩
            refine lv_if_ne (tgt := 125) hx hb dX6_push_119 (by decide) (fun c119 => ?_) (fun c119 => ?_)
            · have t119 := tq_ne (k := z116.toInt) (q := (0)) c119 rfl (by decide +kernel)
              refine lv_iload hx hb dX6_push_125 (lv_at hl 8 rfl) ?_
              have j134 : ∀ (L : List Nat) (K : Nat → Nat) (G : Nat → Nat) (Q : Nat → Nat → Option Nat) (I134 : Nat → Nat → Int32) (J134 : Nat → Nat → Int64) (nc134 : Nat) (ns134 : Nat) (H : Heap) (lo : List Loc) (ls : Array Slot), extW L0 K0 G0 Q0 L K G Q → Sv L K G Q → (∀ F, va_D A (va_pl L F)) → (∀ q, q ∈ L → A q) → x0 ∈ L → m0 ∈ L → p0 ∈ L → K p0 = 6 → (nc134 ≤ 29 ∧ ns134 ≤ 807) → Iv L K x0 m0 tx tm I134 → (∀ b, b ∈ L0 → (K0 b = 7 ∨ K0 b = 18 ∨ K0 b = 19 ∨ K0 b = 20 ∨ K0 b = 24) → I134 b = I b) → (∀ b, b ∈ L0 → ¬ (K0 b = 12) → J134 b = J b) → (∀ ys, Q p0 5 = some ys → goAll tm.2 Q I134 ys z101 z68 z89) → (∀ σ : Sx, cxA Q0 I J p0 σ → cxA Q I134 J134 p0 (psC σ.1 p1.toInt.toNat p2.toInt p3.toInt v43_5.toInt.toNat, (rem σ).2)) → va_P (dC, dI) vwCl (Wd cs L K I134 J134 Q) H → va_S A s.heap H lo → lv_has ls 10 [(0, .ref p0), (1, .int p1), (2, .int p2), (3, .int p3), (4, .int z32), (5, .int v43_5), (6, .int v43_6), (7, .int z68), (8, .int z89), (9, .int z101)] → W p l e R s m (([.ref p0, .int p1, .int p2, .int p3] : List Value).toArray) below meth c H lo nc134 ns134 Qz (F0 m 134 ls []) := by
                intro L K G Q I134 J134 nc134 ns134 H lo ls hX hQ hD hAL hx0 hm0 hLp0 hKp0 hnc134 hI134 dn_I134 dj_J134 hga ht134 hP hS hl
                refine lv_aload_n hx hb dX6_push_134 rfl (lv_at hl 0 rfl) ?_
                obtain ⟨y135, ey135, hLy135, hKy135, hGy135⟩ := oQ_6_5 (Sv_at hQ hLp0 hKp0)
                refine p_get (v := .ref y135) hx hb hts inX6 hown hK hP hLp0 hKp0 rfl rfl 5 (by decide) (hts _ pq354) (congrArg (fun q => some (va_rf q)) ey135) dX6_push_135 ?_
                refine lv_iload hx hb dX6_push_138 (lv_at hl 9 rfl) ?_
                refine lv_iload hx hb dX6_push_140 (lv_at hl 7 rfl) ?_
                refine lv_iload hx hb dX6_push_142 (lv_at hl 8 rfl) ?_
                refine sw_v (Z := (fun I1 J1 => Iv L K x0 m0 tx tm I1 ∧ (∀ b, ¬ (K b = 0) → I1 b = I134 b) ∧ (∃ n : Nat, (I134 (nf Q y135) 3).toInt ≤ (n : Int) ∧ mvI Q I134 I1 (nf Q y135) z101 z68 z89 n) ∧ J1 = J134)) (va_runV (As := [.int z101, .int z68, .int z89]) (rest := []) ⟨hx, hb, hml, hown, hts⟩ (s_X5_moveAll l dC dI cs L K G Q hQ x0 m0 tx tm H.size I134 J134 hI134 y135 hLy135 hKy135 z101 z68 ⟨by omega, by omega⟩ z89 ⟨by omega, by omega⟩ (hga y135 ey135)) (cwV 3 hts (gV pq817 pq818 pq819 pq79 pq820) rfl rfl rfl (by decide +kernel) ⟨(by rw [hR]; exact (Nat.le_of_ble_eq_true rfl)), (by rw [hR]; exact (Nat.le_of_ble_eq_true rfl))⟩) (sP_V hP hD hK hN hLy135 hKy135 rfl rfl) rfl rfl hl.1 rfl (lv_room (Nat.le_of_ble_eq_true rfl)) dX6_push_144 ⟨(by rw [hR]; exact (show nc134 + 0 ≤ 29 by omega)), (by rw [hR]; exact (show ns134 + 0 ≤ 807 by omega))⟩) hS hAL hA (fun Iz144 Jz144 H locs hz144 hIz144 hP hS => ?_)
                obtain ⟨hIz144, frc144, fz144, djc144⟩ := hIz144
                obtain rfl : J134 = Jz144 := djc144.symm
                have dn_Iz144 : (∀ b, b ∈ L0 → (K0 b = 7 ∨ K0 b = 18 ∨ K0 b = 19 ∨ K0 b = 20 ∨ K0 b = 24) → Iz144 b = I b) := fun b hb hc => (frc144 b (by have w := (hX b hb).2.1; omega)).trans (dn_I134 b hb hc)
                refine lv_iload hx hb dX6_push_147 (lv_at hl 6 rfl) ?_
                refine lv_istore (lv' := [(5, .int v43_6), (0, .ref p0), (1, .int p1), (2, .int p2), (3, .int p3), (4, .int z32), (6, .int v43_6), (7, .int z68), (8, .int z89), (9, .int z101)]) hx hb dX6_push_149 hl (by decide) rfl (fun ls hl => ?_)
                obtain ⟨z151, ez151⟩ : ∃ y : Int32, y = v43_6 + 1 := ⟨_, rfl⟩
                refine lv_iinc (v := z151) (lv' := [(6, .int z151), (5, .int v43_6), (0, .ref p0), (1, .int p1), (2, .int p2), (3, .int p3), (4, .int z32), (7, .int z68), (8, .int z89), (9, .int z101)]) hx hb dX6_push_151 hl (k := 6) rfl (by rw [ez151]; rfl) (by decide) rfl (fun ls hl => ?_)
                have bz151 := tq_add (k := v43_6.toInt) (q := 1) ez151 rfl (by decide +kernel) (by omega) (by omega)
                refine lv_goto (tgt := 43) hx hb dX6_push_154 (by decide) ?_
                exact ih43 _ (by omega) L K G Q v43_6 z151 Iz144 J134 nc134 ns134 _ _ _ rfl hX hQ hD hAL hx0 hm0 hLp0 hKp0 ⟨by omega, by omega⟩ ⟨by omega, by omega⟩ ⟨by omega, by omega⟩ hIz144 dn_Iz144 dj_J134 (fun h => absurd h (by omega)) (fun σ h => by obtain ⟨hC2, e6, le, gg, -⟩ := ht43 σ h; obtain ⟨x68, x89, S, cg⟩ := h119 σ h; have A := ht134 σ h; have pg := cg.mp t119; obtain ⟨n, hn, m⟩ := fz144; have W := ps_mv hQ hLp0 hKp0 (gd_of ey135) A (by have := hC2.1; omega) S pg x68 x89 ⟨⟨by omega, by omega⟩, by omega, by omega⟩ hn m; have ek : v43_6.toInt.toNat = v43_5.toInt.toNat + 1 := (by omega); rw [psS_y (by omega), ek]; exact ⟨hC2, by omega, by rw [← xpz32]; omega, fun i hi => (by by_cases q : (i : Int) < v43_5.toInt; (exact gg i q); (rw [show i = v43_5.toInt.toNat by omega]; exact pg)), W⟩) hP hS (lv_sub hl [2, 3, 4, 5, 6, 1, 0] rfl)
              refine lv_if_ne (tgt := 134) hx hb dX6_push_127 (by decide) (fun c127 => ?_) (fun c127 => ?_)
              · have t127 := tq_ne (k := v43_5.toInt) (q := (0)) c127 rfl (by decide +kernel)
                exact j134 L K G Q I43 J43 nc43 ns43 _ _ _ hX hQ hD hAL hx0 hm0 hLp0 hKp0 ⟨by omega, by omega⟩ hI43 dn_I43 dj_J43 (fun ys e => by obtain rfl : y93 = ys := Option.some.inj (ey93.symm.trans e); exact xpz116.1 t119) (fun σ h => by obtain ⟨hC2, e6, le, gg, A⟩ := ht43 σ h; rw [psS_y (by omega)] at A; exact A) hP hS (lv_sub hl [3, 4, 5, 6, 7, 8, 9, 2, 1, 0] rfl)
              · have t127 := tq_eq (k := v43_5.toInt) (q := (0)) c127 rfl (by decide +kernel)
                refine lv_aload_n hx hb dX6_push_130 rfl (lv_at hl 3 rfl) ?_
                obtain ⟨rfl, rfl⟩ : nc43 = 0 ∧ ns43 = 0 := hnz t127
                refine sa_v (va_runV (As := []) (rest := []) ⟨hx, hb, hml, hown, hts⟩ (s_X6_remember l dC dI cs L K G Q hQ x0 m0 tx tm hx0 hm0 H.size I43 J43 hI43 p0 hLp0 hKp0) (cwV 0 hts (gV pq643 pq645 pq3 pq74 pq646) rfl rfl rfl (by decide +kernel) ⟨(by rw [hR]; exact (Nat.le_of_ble_eq_true rfl)), (by rw [hR]; exact (Nat.le_of_ble_eq_true rfl))⟩) (sP_V hP hD hK hN hLp0 hKp0 rfl rfl) rfl rfl hl.1 rfl (lv_room (Nat.le_of_ble_eq_true rfl)) dX6_push_131 ⟨(by rw [hR]; exact (Nat.le_of_ble_eq_true rfl)), (by rw [hR]; exact (Nat.le_of_ble_eq_true rfl))⟩) hS hAL hA (fun L K G Q Iz131 Jz131 H locs hz131 hE hQn hIz131 hDn hALn hP zp131 hS => ?_)
                obtain ⟨zp131, rz131, dnc131, djc131⟩ := zp131
                have dn_Iz131 : (∀ b, b ∈ L0 → (K0 b = 7 ∨ K0 b = 18 ∨ K0 b = 19 ∨ K0 b = 20 ∨ K0 b = 24) → Iz131 b = I b) := fun b hb hc => (dnc131 b (hX b hb).1 (by have w := (hX b hb).2.1; omega)).trans (dn_I43 b hb hc)
                have dj_Jz131 : (∀ b, b ∈ L0 → ¬ (K0 b = 12) → Jz131 b = J b) := fun b hb hc => (djc131 b (hX b hb).1 (fun z => hc (by have w1 := (hX b hb).2.1; have w2 := (hX b hb).2.2.1; rw [w1] at z; first | exact z | exact z.1))).trans (dj_J43 b hb hc)
                have ga131 := goAll_al hQ hI43 hE zp131 hLy93 hKy93 hGy93 (xpz116.1 t119)
                have es131 := (congrFun ((hE p0 hLp0).2.2.2 (by rw [hKp0]; decide) (by rw [hKp0]; decide)) 5).trans ey93
                have hKp0 := (hE p0 hLp0).2.1.trans hKp0
                have hKy93 := (hE y93 hLy93).2.1.trans hKy93
                have hGy93 := (hE y93 hLy93).2.2.1.trans hGy93
                have hLp0 := (hE p0 hLp0).1
                have hLy93 := (hE y93 hLy93).1
                have hx0 := (hE x0 hx0).1
                have hm0 := (hE m0 hm0).1
                have hX := extW_trans hX hE
                have hQ := hQn
                have hD := hDn
                have hAL := hALn
                refine W.widen (k := 29) (n := 807) (Nat.le_of_ble_eq_true rfl) (Nat.le_of_ble_eq_true rfl) ?_
                exact j134 L K G Q Iz131 Jz131 29 807 _ _ _ hX hQ hD hAL hx0 hm0 hLp0 hKp0 ⟨by omega, by omega⟩ hIz131 dn_Iz131 dj_Jz131 (fun ys e => by obtain rfl : y93 = ys := Option.some.inj (es131.symm.trans e); exact ga131) (fun σ h => by obtain ⟨hC2, e6, le, gg, A⟩ := ht43 σ h; rw [show v43_5.toInt.toNat = 0 by omega] at A ⊢; rw [psS_0] at A; have B := rz131 σ A; rw [rem_e] at B; rw [psC_0]; exact B) hP hS (lv_sub hl [3, 4, 5, 6, 7, 8, 9, 2, 1, 0] rfl)
            · have t119 := tq_eq (k := z116.toInt) (q := (0)) c119 rfl (by decide +kernel)
              refine lv_goto (tgt := 157) hx hb dX6_push_122 (by decide) ?_
              exact j157  _ _ _ (fun σ h => by obtain ⟨hC2, e6, le, gg, A⟩ := ht43 σ h; exact psN_of ⟨⟨by omega, le⟩, gg, Or.inr (fun pg => (h119 σ h).2.2.2.mpr pg t119)⟩) hP hS (lv_sub hl [3, 4, 5, 6, 7, 8, 9] rfl))
        exact key43 _ L K G Q 0 1 I J 0 0 _ _ _ rfl hX hQ hD hAL hx0 hm0 hLp0 hKp0 ⟨by omega, by omega⟩ ⟨by decide +kernel, by decide +kernel⟩ ⟨by decide +kernel, by decide +kernel⟩ hI dn_I dj_J (fun _ => ⟨rfl, rfl⟩) (fun σ h => by rw [show (0 : Int32).toInt.toNat = 0 from by decide +kernel, psS_0]; exact ⟨hC σ h, by decide +kernel, by rw [show (0 : Int32).toInt = 0 from by decide +kernel]; unfold stI; omega, fun i hi => absurd hi (by rw [show (0 : Int32).toInt = 0 from by decide +kernel]; omega), rx0 σ h⟩) hP hS (lv_sub hl [3, 4, 5, 6, 2, 1, 0] rfl)
      · have t25 := tq_eq (k := z22.toInt) (q := (0)) c25 rfl (by decide +kernel)
        refine lv_iconst (v := (-1)) hx hb dX6_push_28 (by decide +kernel) ?_
        subst hR; subst hQz
        refine W.widen (k := 29) (n := 807) (Nat.le_of_ble_eq_true rfl) (Nat.le_of_ble_eq_true rfl) ?_
        exact W.iret (v := (-1)) hx hb hr (fun t ht hW => ⟨⟨(-1), (), rfl, (fun σ h => by have A0 := rx0 σ h; have ec := A0.1.1.2.2.1; rw [ps_n (fun q => by unfold twC at q; rw [← ec] at q; first | exact xpz2.2 t5 q.1 | exact xpz12 t15 q.2.1 | exact xpz22 t25 q.2.2)]; show (-1 : Int32).toInt = -1; decide +kernel), ⟨L, K, G, Q, I, J, hX, hQ, hI, fun F => (hD F).weaken (fun _ _ _ _ => trivial), fun q h => hAe2 q (hAL q h), by rw [ht]; exact hP, ⟨(fun σ h => by have A0 := rx0 σ h; have ec := A0.1.1.2.2.1; rw [ps_n (fun q => by unfold twC at q; rw [← ec] at q; first | exact xpz2.2 t5 q.1 | exact xpz12 t15 q.2.1 | exact xpz22 t25 q.2.2)]; exact A0), dn_I, dj_J⟩⟩⟩, hS.F ht⟩) hS.2.2 dX6_push_29

set_option maxHeartbeats 4000000 in
set_option maxRecDepth 100000 in
theorem s_X6_falls (l : Launch) (dC : Nat → ClassId) (dI : Nat → Nat → Nat) (cs : Nat → ClassId) (L0 : List Nat) (K0 G0 : Nat → Nat) (Q0 : Nat → Nat → Option Nat) (hQ : Sv L0 K0 G0 Q0) (x0 m0 : Nat) (tx : GT) (tm : GT × Int) (hx0 : x0 ∈ L0) (hm0 : m0 ∈ L0) (sz : Nat) (I : Nat → Nat → Int32) (J : Nat → Nat → Int64) (hI : Iv L0 K0 x0 m0 tx tm I) (p0 : Nat) (hLp0 : p0 ∈ L0) (hKp0 : K0 p0 = 6) : Met l yX6_falls (.code yX6_falls cX6_falls 6 (some .int) :: pw) ({ frames := 5, cells := 29, slots := 807, locals := 136 }) (sP (dC, dI) cs [.ref p0] sz L0 K0 I J Q0) (va_Qi (fun (r : Int32) (_ : Unit) => (∀ σ : Sx, cxA Q0 I J p0 σ → r.toInt = (faA σ).1)) (fun _ t => sA (dC, dI) cs L0 K0 G0 Q0 x0 m0 tx tm sz (fun L K G Q I1 J1 => (∀ σ : Sx, cxA Q0 I J p0 σ → cxA Q I1 J1 p0 (faA σ).2) ∧ (∀ b, b ∈ L0 → (K0 b = 7 ∨ K0 b = 18 ∨ K0 b = 19 ∨ K0 b = 20 ∨ K0 b = 24) → I1 b = I b) ∧ (∀ b, b ∈ L0 → ¬ (K0 b = 12) → J1 b = J b)) t) (fun q => q ∈ L0 ∨ sz ≤ q)) 29 807 (fun q => q ∈ L0 ∨ sz ≤ q) := by
  refine Met.ofW (cc := cX6_falls) (maxL := 6) (ret := (some .int)) (by decide +kernel) rfl ?_
  intro p e s m args below meth c s₁ B hml hv
  obtain ⟨rfl, hsz, hP, hK, hD0, hN⟩ := hv
  have hx := B.exec
  have hb := B.bytes
  have hr := B.returns
  have hts := fun w (h : w ∈ pw) => atoms_spec (ws := Cond.code yX6_falls cX6_falls 6 (some .int) :: pw) B.pre w (List.mem_cons_of_mem _ h)
  have hown : s.vm.findClass RX6 = some m.cls := findClass_of_methodNamed B.named
  have hlocks := B.notSynchronized
  subst hsz
  have hBB : 999 ≤ tm.2 ∧ tm.2 ≤ 6000000 := hI.2.2.2.2.1
  have dn_I : (∀ b, b ∈ L0 → (K0 b = 7 ∨ K0 b = 18 ∨ K0 b = 19 ∨ K0 b = 20 ∨ K0 b = 24) → I b = I b) := fun _ _ _ => rfl
  have dj_J : (∀ b, b ∈ L0 → ¬ (K0 b = 12) → J b = J b) := fun _ _ _ => rfl
  obtain ⟨A, hAe⟩ : ∃ A : Nat → Prop, A = (fun q => q ∈ L0 ∨ s.heap.size ≤ q) := ⟨_, rfl⟩
  rw [← hAe]
  have hAL : ∀ q, q ∈ L0 → A q := fun q h => by rw [hAe]; exact Or.inl h
  have hA : ∀ q, s.heap.size ≤ q → A q := fun q h => by rw [hAe]; exact Or.inr h
  have hD : ∀ F, va_D A (va_pl L0 F) := fun F => (hD0 F).weaken (fun k q hk _ => hAL _ (pl_mem hk))
  obtain ⟨H, hHe⟩ : ∃ H : Heap, H = s.heap := ⟨_, rfl⟩
  have hS : va_S A s.heap H [] := by rw [hHe]; exact va_S.rf
  rw [← hHe] at hP
  have hl := lv_entry ([.ref p0]) (n := 6) (Nat.le_of_ble_eq_true rfl)
  rw [lg_entry_eq]
  generalize (lg_sl ([.ref p0]) ++ List.replicate (6 - (lg_sl ([.ref p0])).length) Slot.unset).toArray = ls at hl ⊢
  have hl : lv_has ls 6 [(0, .ref p0)] := hl
  rw [← hHe]
  refine namedW (fun R Qz hR hQz => ?_)
  have hAe2 : ∀ q, A q → q ∈ L0 ∨ H.size ≤ q := fun q h => by rw [hHe]; rw [hAe] at h; exact h
  have hQ0 := hQ
  have hK0p0 := hKp0
  have hL0p0 := hLp0
  obtain ⟨L, K, G, Q, hX, hQ, hI, hP, hD, hAL, hx0, hm0, hLp0, hKp0, rx0⟩ : ∃ L K G Q, extW L0 K0 G0 Q0 L K G Q ∧ Sv L K G Q ∧ Iv L K x0 m0 tx tm I ∧ va_P (dC, dI) vwCl (Wd cs L K I J Q) H ∧ (∀ F, va_D A (va_pl L F)) ∧ (∀ q, q ∈ L → A q) ∧ x0 ∈ L ∧ m0 ∈ L ∧ p0 ∈ L ∧ K p0 = 6 ∧ (∀ σ : Sx, cxA Q0 I J p0 σ → cxA Q I J p0 σ) := ⟨L0, K0, G0, Q0, extW_refl, hQ, hI, hP, hD, hAL, hx0, hm0, hLp0, hKp0, fun _ h => h⟩
  refine lv_aload_n hx hb dX6_falls_0 rfl (lv_at hl 0 rfl) ?_
  obtain ⟨y1, ey1, hLy1, hKy1, hGy1⟩ := oQ_6_2 (Sv_at hQ hLp0 hKp0)
  refine p_get (v := .ref y1) hx hb hts inX6 hown hK hP hLp0 hKp0 rfl rfl 2 (by decide) (hts _ pq351) (congrArg (fun q => some (va_rf q)) ey1) dX6_falls_1 ?_
  refine p_get hx hb hts inX1 hown hK hP hLy1 hKy1 rfl rfl 3 (by decide) (hts _ pq226) rfl dX6_falls_4 ?_
  refine lv_topi (fun z4 ez4 => ?_)
  have cgz4 := congrArg Int32.toInt ez4
  have bz4 := oI_1_3 (Iv_at hI hLy1 hKy1)
  rw [← ez4] at bz4
  refine lv_if_ne (tgt := 12) hx hb dX6_falls_7 (by decide) (fun c7 => ?_) (fun c7 => ?_)
  · have t7 := tq_ne (k := z4.toInt) (q := (0)) c7 rfl (by decide +kernel)
    have z00 : (0 : Int32).toInt = 0 := by decide +kernel
    have hn0 : ∀ σ : Sx, cxA Q0 I J p0 σ → ¬ (σ.1.1 1).toInt = 0 := fun σ h => by have ec := (rx0 σ h).1.1.2.2.1; rw [show an Q p0 = y1 from gd_of ey1, ← ez4] at ec; rw [← ec]; omega
    refine lv_iconst (v := 0) hx hb dX6_falls_12 (by decide +kernel) ?_
    refine lv_istore_n (lv' := [(1, .int 0), (0, .ref p0)]) hx hb dX6_falls_13 rfl hl (by decide) rfl (fun ls hl => ?_)
    refine lv_sipush (v := 19981) hx hb dX6_falls_14 (by decide +kernel) ?_
    refine lv_istore_n (lv' := [(2, .int 19981), (1, .int 0), (0, .ref p0)]) hx hb dX6_falls_17 rfl hl (by decide) rfl (fun ls hl => ?_)
    refine lv_iconst (v := 0) hx hb dX6_falls_18 (by decide +kernel) ?_
    refine lv_istore_n (lv' := [(3, .int 0), (2, .int 19981), (1, .int 0), (0, .ref p0)]) hx hb dX6_falls_19 rfl hl (by decide) rfl (fun ls hl => ?_)
    have key20 := blocks (fun n => ∀ (L : List Nat) (K : Nat → Nat) (G : Nat → Nat) (Q : Nat → Nat → Option Nat) (v20_1 : Int32) (v20_3 : Int32) (I20 : Nat → Nat → Int32) (J20 : Nat → Nat → Int64) (nc20 : Nat) (ns20 : Nat) (H : Heap) (lo : List Loc) (ls : Array Slot), (100001 - v20_3.toInt).toNat = n → extW L0 K0 G0 Q0 L K G Q → Sv L K G Q → (∀ F, va_D A (va_pl L F)) → (∀ q, q ∈ L → A q) → x0 ∈ L → m0 ∈ L → p0 ∈ L → K p0 = 6 → (nc20 ≤ 29 ∧ ns20 ≤ 807) → ((0) ≤ v20_1.toInt ∧ v20_1.toInt ≤ 2000000000) → ((0) ≤ v20_3.toInt ∧ v20_3.toInt ≤ 100000) → Iv L K x0 m0 tx tm I20 → (∀ b, b ∈ L0 → (K0 b = 7 ∨ K0 b = 18 ∨ K0 b = 19 ∨ K0 b = 20 ∨ K0 b = 24) → I20 b = I b) → (∀ b, b ∈ L0 → ¬ (K0 b = 12) → J20 b = J b) → (v20_1.toInt = 0 → nc20 = 0 ∧ ns20 = 0) → (0 ≤ v20_1.toInt ∧ v20_1.toInt ≤ 3000 * v20_3.toInt) → (∀ σ : Sx, cxA Q0 I J p0 σ → fGo σ.1 v20_3.toInt.toNat ∧ v20_1.toInt = (fK (σ.1.1 1).toInt.toNat v20_3.toInt.toNat (σ.1, 0)).2 ∧ cxA Q I20 J20 p0 (faS σ (fK (σ.1.1 1).toInt.toNat v20_3.toInt.toNat (σ.1, 0)))) → va_P (dC, dI) vwCl (Wd cs L K I20 J20 Q) H → va_S A s.heap H lo → lv_has ls 6 [(0, .ref p0), (1, .int v20_1), (2, .int 19981), (3, .int v20_3)] → W p l e R s m (([.ref p0] : List Value).toArray) below meth c H lo nc20 ns20 Qz (F0 m 20 ls [])) (by
      intro n ih20
      intro L K G Q v20_1 v20_3 I20 J20 nc20 ns20 H lo ls hmu20 hX hQ hD hAL hx0 hm0 hLp0 hKp0 hnc20 bv20_1 bv20_3 hI20 dn_I20 dj_J20 hnz20 hto20 ht20 hP hS hl
      refine lv_iload_n hx hb dX6_falls_20 rfl (lv_at hl 3 rfl) ?_
      refine lv_iload_n hx hb dX6_falls_21 rfl (lv_at hl 2 rfl) ?_
      have j114 : ∀ (L : List Nat) (K : Nat → Nat) (G : Nat → Nat) (Q : Nat → Nat → Option Nat) (v114_1 : Int32) (I114 : Nat → Nat → Int32) (J114 : Nat → Nat → Int64) (nc114 : Nat) (ns114 : Nat) (H : Heap) (lo : List Loc) (ls : Array Slot), extW L0 K0 G0 Q0 L K G Q → Sv L K G Q → (∀ F, va_D A (va_pl L F)) → (∀ q, q ∈ L → A q) → x0 ∈ L → m0 ∈ L → p0 ∈ L → K p0 = 6 → (nc114 ≤ 29 ∧ ns114 ≤ 807) → ((0) ≤ v114_1.toInt ∧ v114_1.toInt ≤ 2000000000) → Iv L K x0 m0 tx tm I114 → (∀ b, b ∈ L0 → (K0 b = 7 ∨ K0 b = 18 ∨ K0 b = 19 ∨ K0 b = 20 ∨ K0 b = 24) → I114 b = I b) → (∀ b, b ∈ L0 → ¬ (K0 b = 12) → J114 b = J b) → (∀ σ : Sx, cxA Q0 I J p0 σ → v114_1.toInt = (faE σ.1).2 ∧ cxA Q I114 J114 p0 (faS σ (faE σ.1))) → va_P (dC, dI) vwCl (Wd cs L K I114 J114 Q) H → va_S A s.heap H lo → lv_has ls 6 [(0, .ref p0), (1, .int v114_1), (2, .int 19981), (3, .int v20_3)] → W p l e R s m (([.ref p0] : List Value).toArray) below meth c H lo nc114 ns114 Qz (F0 m 114 ls []) := by
        intro L K G Q v114_1 I114 J114 nc114 ns114 H lo ls hX hQ hD hAL hx0 hm0 hLp0 hKp0 hnc114 bv114_1 hI114 dn_I114 dj_J114 ht114 hP hS hl
        refine lv_iload_n hx hb dX6_falls_114 rfl (lv_at hl 1 rfl) ?_
        refine lv_if_ne (tgt := 123) hx hb dX6_falls_115 (by decide) (fun c115 => ?_) (fun c115 => ?_)
        · have t115 := tq_ne (k := v114_1.toInt) (q := (0)) c115 rfl (by decide +kernel)
          refine lv_iload_n hx hb dX6_falls_123 rfl (lv_at hl 1 rfl) ?_
          subst hR; subst hQz
          refine W.widen (k := 29) (n := 807) (by omega) (by omega) ?_
          exact W.iret (v := v114_1) hx hb hr (fun t ht hW => ⟨⟨v114_1, (), rfl, (fun σ h => by obtain ⟨e, A⟩ := ht114 σ h; rw [fa_y (hn0 σ h) (by rw [← e]; omega)]; exact e), ⟨L, K, G, Q, I114, J114, hX, hQ, hI114, fun F => (hD F).weaken (fun _ _ _ _ => trivial), fun q h => hAe2 q (hAL q h), by rw [ht]; exact hP, ⟨(fun σ h => by obtain ⟨e, A⟩ := ht114 σ h; first | (have z0 : (faE σ.1).2 = 0 := (by rw [← e]; omega); rw [fa_e (hn0 σ h) z0]; rw [fa_sig0 z0] at A; exact A) | (have z0 : ¬ (faE σ.1).2 = 0 := (by rw [← e]; omega); rw [fa_y (hn0 σ h) z0]; rw [faS_y z0] at A; exact A)), dn_I114, dj_J114⟩⟩⟩, hS.F ht⟩) hS.2.2 dX6_falls_124
        · have t115 := tq_eq (k := v114_1.toInt) (q := (0)) c115 rfl (by decide +kernel)
          refine lv_bipush (v := (-2)) hx hb dX6_falls_118 (by decide +kernel) ?_
          refine lv_goto (tgt := 124) hx hb dX6_falls_120 (by decide) ?_
          subst hR; subst hQz
          refine W.widen (k := 29) (n := 807) (by omega) (by omega) ?_
          exact W.iret (v := (-2)) hx hb hr (fun t ht hW => ⟨⟨(-2), (), rfl, (fun σ h => by obtain ⟨e, A⟩ := ht114 σ h; rw [fa_e (hn0 σ h) (by rw [← e]; omega)]; show (-2 : Int32).toInt = -2; decide +kernel), ⟨L, K, G, Q, I114, J114, hX, hQ, hI114, fun F => (hD F).weaken (fun _ _ _ _ => trivial), fun q h => hAe2 q (hAL q h), by rw [ht]; exact hP, ⟨(fun σ h => by obtain ⟨e, A⟩ := ht114 σ h; first | (have z0 : (faE σ.1).2 = 0 := (by rw [← e]; omega); rw [fa_e (hn0 σ h) z0]; rw [fa_sig0 z0] at A; exact A) | (have z0 : ¬ (faE σ.1).2 = 0 := (by rw [← e]; omega); rw [fa_y (hn0 σ h) z0]; rw [faS_y z0] at A; exact A)), dn_I114, dj_J114⟩⟩⟩, hS.F ht⟩) hS.2.2 dX6_falls_124
      refine lv_icmp_ge (tgt := 114) hx hb dX6_falls_22 (by decide) (fun c22 => ?_) (fun c22 => ?_)
      · have t22 := tq_le (k := (19981)) (q := v20_3.toInt) c22 (by decide +kernel) rfl
        exact j114 L K G Q v20_1 I20 J20 nc20 ns20 _ _ _ hX hQ hD hAL hx0 hm0 hLp0 hKp0 ⟨by omega, by omega⟩ ⟨by omega, by omega⟩ hI20 dn_I20 dj_J20 (fun σ h => by obtain ⟨gg, e, A⟩ := ht20 σ h; have b := fGo_le gg; have d := fK_bd h.1.1.1 v20_3.toInt.toNat; exfalso; omega) hP hS (lv_sub hl [0, 1, 2, 3] rfl)
      · have t22 := tq_nle (k := (19981)) (q := v20_3.toInt) c22 (by decide +kernel) rfl
        refine lv_iload_n hx hb dX6_falls_25 rfl (lv_at hl 1 rfl) ?_
        refine lv_istore (lv' := [(4, .int v20_1), (0, .ref p0), (1, .int v20_1), (2, .int 19981), (3, .int v20_3)]) hx hb dX6_falls_26 hl (by decide) rfl (fun ls hl => ?_)
        refine lv_iconst (v := 0) hx hb dX6_falls_28 (by decide +kernel) ?_
        refine lv_istore (lv' := [(5, .int 0), (4, .int v20_1), (0, .ref p0), (1, .int v20_1), (2, .int 19981), (3, .int v20_3)]) hx hb dX6_falls_29 hl (by decide) rfl (fun ls hl => ?_)
        have key31 := blocks (fun n => ∀ (L : List Nat) (K : Nat → Nat) (G : Nat → Nat) (Q : Nat → Nat → Option Nat) (v31_1 : Int32) (v31_5 : Int32) (I31 : Nat → Nat → Int32) (J31 : Nat → Nat → Int64) (nc31 : Nat) (ns31 : Nat) (H : Heap) (lo : List Loc) (ls : Array Slot), (11 - v31_5.toInt).toNat = n → extW L0 K0 G0 Q0 L K G Q → Sv L K G Q → (∀ F, va_D A (va_pl L F)) → (∀ q, q ∈ L → A q) → x0 ∈ L → m0 ∈ L → p0 ∈ L → K p0 = 6 → (nc31 ≤ 29 ∧ ns31 ≤ 807) → ((0) ≤ v31_1.toInt ∧ v31_1.toInt ≤ 2000000000) → ((0) ≤ v31_5.toInt ∧ v31_5.toInt ≤ 10) → Iv L K x0 m0 tx tm I31 → (∀ b, b ∈ L0 → (K0 b = 7 ∨ K0 b = 18 ∨ K0 b = 19 ∨ K0 b = 20 ∨ K0 b = 24) → I31 b = I b) → (∀ b, b ∈ L0 → ¬ (K0 b = 12) → J31 b = J b) → (v31_1.toInt = 0 → nc31 = 0 ∧ ns31 = 0) → (0 ≤ v31_1.toInt ∧ v31_1.toInt ≤ 3000 * v20_3.toInt + 300 * v31_5.toInt) → (∀ σ : Sx, cxA Q0 I J p0 σ → v31_5.toInt.toNat ≤ (σ.1.1 1).toInt.toNat ∧ v31_1.toInt = (fR v31_5.toInt.toNat (fK (σ.1.1 1).toInt.toNat v20_3.toInt.toNat (σ.1, 0))).2 ∧ cxA Q I31 J31 p0 (faS σ (fR v31_5.toInt.toNat (fK (σ.1.1 1).toInt.toNat v20_3.toInt.toNat (σ.1, 0))))) → va_P (dC, dI) vwCl (Wd cs L K I31 J31 Q) H → va_S A s.heap H lo → lv_has ls 6 [(0, .ref p0), (1, .int v31_1), (2, .int 19981), (3, .int v20_3), (4, .int v20_1), (5, .int v31_5)] → W p l e R s m (([.ref p0] : List Value).toArray) below meth c H lo nc31 ns31 Qz (F0 m 31 ls [])) (by
          intro n ih31
          intro L K G Q v31_1 v31_5 I31 J31 nc31 ns31 H lo ls hmu31 hX hQ hD hAL hx0 hm0 hLp0 hKp0 hnc31 bv31_1 bv31_5 hI31 dn_I31 dj_J31 hnz31 hto31 ht31 hP hS hl
          refine lv_iload hx hb dX6_falls_31 (lv_at hl 5 rfl) ?_
          refine lv_aload_n hx hb dX6_falls_33 rfl (lv_at hl 0 rfl) ?_
          obtain ⟨y34, ey34, hLy34, hKy34, hGy34⟩ := oQ_6_2 (Sv_at hQ hLp0 hKp0)
          refine p_get (v := .ref y34) hx hb hts inX6 hown hK hP hLp0 hKp0 rfl rfl 2 (by decide) (hts _ pq351) (congrArg (fun q => some (va_rf q)) ey34) dX6_falls_34 ?_
          refine p_get hx hb hts inX1 hown hK hP hLy34 hKy34 rfl rfl 3 (by decide) (hts _ pq226) rfl dX6_falls_37 ?_
          refine lv_topi (fun z37 ez37 => ?_)
          have cgz37 := congrArg Int32.toInt ez37
          have bz37 := oI_1_3 (Iv_at hI31 hLy34 hKy34)
          rw [← ez37] at bz37
          refine lv_icmp_ge (tgt := 99) hx hb dX6_falls_40 (by decide) (fun c40 => ?_) (fun c40 => ?_)
          · have t40 := tq_le (k := z37.toInt) (q := v31_5.toInt) c40 rfl rfl
            refine lv_iload_n hx hb dX6_falls_99 rfl (lv_at hl 1 rfl) ?_
            refine lv_iload hx hb dX6_falls_100 (lv_at hl 4 rfl) ?_
            refine lv_icmp_ne (tgt := 108) hx hb dX6_falls_102 (by decide) (fun c102 => ?_) (fun c102 => ?_)
            · have t102 := tq_ne (k := v31_1.toInt) (q := v20_1.toInt) c102 rfl rfl
              obtain ⟨z108, ez108⟩ : ∃ y : Int32, y = v20_3 + 1 := ⟨_, rfl⟩
              refine lv_iinc (v := z108) (lv' := [(3, .int z108), (0, .ref p0), (1, .int v31_1), (2, .int 19981), (4, .int v20_1), (5, .int v31_5)]) hx hb dX6_falls_108 hl (k := 3) rfl (by rw [ez108]; rfl) (by decide) rfl (fun ls hl => ?_)
              have bz108 := tq_add (k := v20_3.toInt) (q := 1) ez108 rfl (by decide +kernel) (by omega) (by omega)
              refine lv_goto (tgt := 20) hx hb dX6_falls_111 (by decide) ?_
              exact ih20 _ (by omega) L K G Q v31_1 z108 I31 J31 nc31 ns31 _ _ _ rfl hX hQ hD hAL hx0 hm0 hLp0 hKp0 ⟨by omega, by omega⟩ ⟨by omega, by omega⟩ ⟨by omega, by omega⟩ hI31 dn_I31 dj_J31 hnz31 ⟨by omega, by omega⟩ (fun σ h => by obtain ⟨gg, e0, -⟩ := ht20 σ h; obtain ⟨l, e, A⟩ := ht31 σ h; have en := fa_en A (z := z37) (by rw [ez37, show y34 = an Q p0 from (gd_of ey34).symm]); have ej : v31_5.toInt.toNat = (σ.1.1 1).toInt.toNat := (by omega); rw [show z108.toInt.toNat = v20_3.toInt.toNat + 1 by omega, fK_s]; rw [ej] at e A; exact ⟨fGo_s gg (by rw [fK_s, ← e, ← e0]; omega), e, A⟩) hP hS (lv_sub hl [1, 2, 3, 0] rfl)
            · have t102 := tq_eq (k := v31_1.toInt) (q := v20_1.toInt) c102 rfl rfl
              refine lv_goto (tgt := 114) hx hb dX6_falls_105 (by decide) ?_
              exact j114 L K G Q v31_1 I31 J31 nc31 ns31 _ _ _ hX hQ hD hAL hx0 hm0 hLp0 hKp0 ⟨by omega, by omega⟩ ⟨by omega, by omega⟩ hI31 dn_I31 dj_J31 (fun σ h => by obtain ⟨gg, e0, -⟩ := ht20 σ h; obtain ⟨l, e, A⟩ := ht31 σ h; have en := fa_en A (z := z37) (by rw [ez37, show y34 = an Q p0 from (gd_of ey34).symm]); have r := fa_end (j := v31_5.toInt.toNat) gg (by omega) (by rw [← e, ← e0]; omega); exact ⟨by rw [r]; exact e, by rw [r]; exact A⟩) hP hS (lv_sub hl [0, 1, 2, 3] rfl)
          · have t40 := tq_nle (k := z37.toInt) (q := v31_5.toInt) c40 rfl rfl
            refine lv_aload_n hx hb dX6_falls_43 rfl (lv_at hl 0 rfl) ?_
            obtain ⟨y44, ey44, hLy44, hKy44, hGy44⟩ := oQ_6_5 (Sv_at hQ hLp0 hKp0)
            refine p_get (v := .ref y44) hx hb hts inX6 hown hK hP hLp0 hKp0 rfl rfl 5 (by decide) (hts _ pq354) (congrArg (fun q => some (va_rf q)) ey44) dX6_falls_44 ?_
            refine lv_iload hx hb dX6_falls_47 (lv_at hl 5 rfl) ?_
            refine lv_iconst (v := 0) hx hb dX6_falls_49 (by decide +kernel) ?_
            refine lv_sipush (v := 200) hx hb dX6_falls_50 (by decide +kernel) ?_
            refine sw_v (Z := (fun I1 J1 => Iv L K x0 m0 tx tm I1 ∧ (∀ b, ¬ (b = y44) → I1 b = I31 b) ∧ (glOK tm.2 Q I1 y44 v31_5) ∧ (∀ c : Fx, okF c → cxF Q I31 J31 (nf Q y44) c → cxS Q I31 J31 y44 c → v31_5.toInt.toNat < (c.1 1).toInt.toNat → gLR c v31_5.toInt.toNat (0 : Int32).toInt (200 : Int32).toInt (I1 y44 2).toInt (I1 y44 4).toInt (I1 y44 5).toInt) ∧ J1 = J31)) (va_runV (As := [.int v31_5, .int 0, .int 200]) (rest := []) ⟨hx, hb, hml, hown, hts⟩ (s_X5_tryGlide l dC dI cs L K G Q hQ x0 m0 tx tm H.size I31 J31 hI31 y44 hLy44 hKy44 v31_5 ⟨by omega, by omega⟩ 0 ⟨by decide +kernel, by decide +kernel⟩ 200 ⟨by decide +kernel, by decide +kernel⟩) (cwV 3 hts (gV pq739 pq740 pq741 pq79 pq742) rfl rfl rfl (by decide +kernel) ⟨(by rw [hR]; exact (Nat.le_of_ble_eq_true rfl)), (by rw [hR]; exact (Nat.le_of_ble_eq_true rfl))⟩) (sP_V hP hD hK hN hLy44 hKy44 rfl rfl) rfl rfl hl.1 rfl (lv_room (Nat.le_of_ble_eq_true rfl)) dX6_falls_53 ⟨(by rw [hR]; exact (show nc31 + 0 ≤ 29 by omega)), (by rw [hR]; exact (show ns31 + 0 ≤ 807 by omega))⟩) hS hAL hA (fun Iz53 Jz53 H locs hz53 hIz53 hP hS => ?_)
            obtain ⟨hIz53, frc53, zp53, jz53, djc53⟩ := hIz53
            obtain rfl : J31 = Jz53 := djc53.symm
            have dn_Iz53 : (∀ b, b ∈ L0 → (K0 b = 7 ∨ K0 b = 18 ∨ K0 b = 19 ∨ K0 b = 20 ∨ K0 b = 24) → Iz53 b = I b) := fun b hb hc => (frc53 b (fun z => by have w := (hX b hb).2.1; have q := hKy44; rw [← z] at q; omega)).trans (dn_I31 b hb hc)
            have h56 : ∀ σ : Sx, cxA Q0 I J p0 σ → v31_5.toInt.toNat < (σ.1.1 1).toInt.toNat ∧ v31_1.toInt = (fR v31_5.toInt.toNat (fK (σ.1.1 1).toInt.toNat v20_3.toInt.toNat (σ.1, 0))).2 ∧ cxA Q Iz53 J31 p0 (faS σ (fR v31_5.toInt.toNat (fK (σ.1.1 1).toInt.toNat v20_3.toInt.toNat (σ.1, 0)))) ∧ gLR (fR v31_5.toInt.toNat (fK (σ.1.1 1).toInt.toNat v20_3.toInt.toNat (σ.1, 0))).1 v31_5.toInt.toNat 0 200 (Iz53 y44 2).toInt (Iz53 y44 4).toInt (Iz53 y44 5).toInt := fun σ h => by obtain ⟨l, e, A⟩ := ht31 σ h; have en := fa_en A (z := z37) (by rw [ez37, show y34 = an Q p0 from (gd_of ey34).symm]); have hj : v31_5.toInt.toNat < (σ.1.1 1).toInt.toNat := (by omega); have r := fa_try hQ hLp0 hKp0 hKy44 (gd_of ey44) frc53 A (fP_n hj) jz53; exact ⟨hj, e, r.1, r.2⟩
            refine lv_aload_n hx hb dX6_falls_56 rfl (lv_at hl 0 rfl) ?_
            refine p_get (v := .ref y44) hx hb hts inX6 hown hK hP hLp0 hKp0 rfl rfl 5 (by decide) (hts _ pq354) (congrArg (fun q => some (va_rf q)) ey44) dX6_falls_57 ?_
            refine p_get hx hb hts inX5 hown hK hP hLy44 hKy44 rfl rfl 2 (by decide) (hts _ pq277) rfl dX6_falls_60 ?_
            refine lv_topi (fun z60 ez60 => ?_)
            have bz60 := oI_5_2 (Iv_at hIz53 hLy44 hKy44)
            rw [← ez60] at bz60
            have j93 : ∀ (L : List Nat) (K : Nat → Nat) (G : Nat → Nat) (Q : Nat → Nat → Option Nat) (v93_1 : Int32) (I93 : Nat → Nat → Int32) (J93 : Nat → Nat → Int64) (nc93 : Nat) (ns93 : Nat) (H : Heap) (lo : List Loc) (ls : Array Slot), extW L0 K0 G0 Q0 L K G Q → Sv L K G Q → (∀ F, va_D A (va_pl L F)) → (∀ q, q ∈ L → A q) → x0 ∈ L → m0 ∈ L → p0 ∈ L → K p0 = 6 → (nc93 ≤ 29 ∧ ns93 ≤ 807) → ((0) ≤ v93_1.toInt ∧ v93_1.toInt ≤ 2000000000) → Iv L K x0 m0 tx tm I93 → (∀ b, b ∈ L0 → (K0 b = 7 ∨ K0 b = 18 ∨ K0 b = 19 ∨ K0 b = 20 ∨ K0 b = 24) → I93 b = I b) → (∀ b, b ∈ L0 → ¬ (K0 b = 12) → J93 b = J b) → (v93_1.toInt = 0 → nc93 = 0 ∧ ns93 = 0) → (0 ≤ v93_1.toInt ∧ v93_1.toInt ≤ 3000 * v20_3.toInt + 300 * v31_5.toInt + 300) → (∀ σ : Sx, cxA Q0 I J p0 σ → v31_5.toInt.toNat < (σ.1.1 1).toInt.toNat ∧ v93_1.toInt = (fR (v31_5.toInt.toNat + 1) (fK (σ.1.1 1).toInt.toNat v20_3.toInt.toNat (σ.1, 0))).2 ∧ cxA Q I93 J93 p0 (faS σ (fR (v31_5.toInt.toNat + 1) (fK (σ.1.1 1).toInt.toNat v20_3.toInt.toNat (σ.1, 0))))) → va_P (dC, dI) vwCl (Wd cs L K I93 J93 Q) H → va_S A s.heap H lo → lv_has ls 6 [(0, .ref p0), (1, .int v93_1), (2, .int 19981), (3, .int v20_3), (4, .int v20_1), (5, .int v31_5)] → W p l e R s m (([.ref p0] : List Value).toArray) below meth c H lo nc93 ns93 Qz (F0 m 93 ls []) := by
              intro L K G Q v93_1 I93 J93 nc93 ns93 H lo ls hX hQ hD hAL hx0 hm0 hLp0 hKp0 hnc93 bv93_1 hI93 dn_I93 dj_J93 hnz93 hto93 ht93 hP hS hl
              obtain ⟨z93, ez93⟩ : ∃ y : Int32, y = v31_5 + 1 := ⟨_, rfl⟩
              refine lv_iinc (v := z93) (lv' := [(5, .int z93), (0, .ref p0), (1, .int v93_1), (2, .int 19981), (3, .int v20_3), (4, .int v20_1)]) hx hb dX6_falls_93 hl (k := 5) rfl (by rw [ez93]; rfl) (by decide) rfl (fun ls hl => ?_)
              have bz93 := tq_add (k := v31_5.toInt) (q := 1) ez93 rfl (by decide +kernel) (by omega) (by omega)
              refine lv_goto (tgt := 31) hx hb dX6_falls_96 (by decide) ?_
              exact ih31 _ (by omega) L K G Q v93_1 z93 I93 J93 nc93 ns93 _ _ _ rfl hX hQ hD hAL hx0 hm0 hLp0 hKp0 ⟨by omega, by omega⟩ ⟨by omega, by omega⟩ ⟨by omega, by omega⟩ hI93 dn_I93 dj_J93 hnz93 ⟨by omega, by omega⟩ (fun σ h => by obtain ⟨l, e, A⟩ := ht93 σ h; rw [show z93.toInt.toNat = v31_5.toInt.toNat + 1 by omega]; exact ⟨by omega, e, A⟩) hP hS (lv_sub hl [1, 2, 3, 4, 5, 0] rfl)
            refine lv_if_le (tgt := 93) hx hb dX6_falls_63 (by decide) (fun c63 => ?_) (fun c63 => ?_)
            · have t63 := tq_le (k := z60.toInt) (q := (0)) c63 rfl (by decide +kernel)
              exact j93 L K G Q v31_1 Iz53 J31 nc31 ns31 _ _ _ hX hQ hD hAL hx0 hm0 hLp0 hKp0 ⟨by omega, by omega⟩ ⟨by omega, by omega⟩ hIz53 dn_Iz53 dj_J31 hnz31 ⟨by omega, by omega⟩ (fun σ h => by obtain ⟨l, e, A, g⟩ := h56 σ h; have r := fa_skip A g (by rw [← ez60]; omega) e; exact ⟨l, r.1, r.2⟩) hP hS (lv_sub hl [0, 1, 2, 3, 4, 5] rfl)
            · have t63 := tq_nle (k := z60.toInt) (q := (0)) c63 rfl (by decide +kernel)
              refine lv_iload_n hx hb dX6_falls_66 rfl (lv_at hl 1 rfl) ?_
              have j74 : ∀ (L : List Nat) (K : Nat → Nat) (G : Nat → Nat) (Q : Nat → Nat → Option Nat) (I74 : Nat → Nat → Int32) (J74 : Nat → Nat → Int64) (nc74 : Nat) (ns74 : Nat) (H : Heap) (lo : List Loc) (ls : Array Slot), extW L0 K0 G0 Q0 L K G Q → Sv L K G Q → (∀ F, va_D A (va_pl L F)) → (∀ q, q ∈ L → A q) → x0 ∈ L → m0 ∈ L → p0 ∈ L → K p0 = 6 → (nc74 ≤ 29 ∧ ns74 ≤ 807) → Iv L K x0 m0 tx tm I74 → (∀ b, b ∈ L0 → (K0 b = 7 ∨ K0 b = 18 ∨ K0 b = 19 ∨ K0 b = 20 ∨ K0 b = 24) → I74 b = I b) → (∀ b, b ∈ L0 → ¬ (K0 b = 12) → J74 b = J b) → (∀ ys, Q p0 5 = some ys → glOK tm.2 Q I74 ys v31_5 ∧ 0 < (I74 ys 2).toInt) → (∀ σ : Sx, cxA Q0 I J p0 σ → v31_5.toInt.toNat < (σ.1.1 1).toInt.toNat ∧ v31_1.toInt = (fR v31_5.toInt.toNat (fK (σ.1.1 1).toInt.toNat v20_3.toInt.toNat (σ.1, 0))).2 ∧ cxA Q I74 J74 p0 ((fR v31_5.toInt.toNat (fK (σ.1.1 1).toInt.toNat v20_3.toInt.toNat (σ.1, 0))).1, (rem σ).2) ∧ ∀ ys, Q p0 5 = some ys → gLR (fR v31_5.toInt.toNat (fK (σ.1.1 1).toInt.toNat v20_3.toInt.toNat (σ.1, 0))).1 v31_5.toInt.toNat 0 200 (I74 ys 2).toInt (I74 ys 4).toInt (I74 ys 5).toInt) → va_P (dC, dI) vwCl (Wd cs L K I74 J74 Q) H → va_S A s.heap H lo → lv_has ls 6 [(0, .ref p0), (1, .int v31_1), (2, .int 19981), (3, .int v20_3), (4, .int v20_1), (5, .int v31_5)] → W p l e R s m (([.ref p0] : List Value).toArray) below meth c H lo nc74 ns74 Qz (F0 m 74 ls []) := by
                intro L K G Q I74 J74 nc74 ns74 H lo ls hX hQ hD hAL hx0 hm0 hLp0 hKp0 hnc74 hI74 dn_I74 dj_J74 hgl ht74 hP hS hl
                refine lv_aload_n hx hb dX6_falls_74 rfl (lv_at hl 0 rfl) ?_
                obtain ⟨y75, ey75, hLy75, hKy75, hGy75⟩ := oQ_6_5 (Sv_at hQ hLp0 hKp0)
                refine p_get (v := .ref y75) hx hb hts inX6 hown hK hP hLp0 hKp0 rfl rfl 5 (by decide) (hts _ pq354) (congrArg (fun q => some (va_rf q)) ey75) dX6_falls_75 ?_
                refine lv_iload hx hb dX6_falls_78 (lv_at hl 5 rfl) ?_
                refine sw_v (Z := (fun I1 J1 => Iv L K x0 m0 tx tm I1 ∧ (∀ b, ¬ (K b = 0) → I1 b = I74 b) ∧ (∃ Im, Im = va_up I74 (fb Q (nf Q y75) v31_5.toInt.toNat) (upd (I74 (fb Q (nf Q y75) v31_5.toInt.toNat)) 1 (I74 (fb Q (nf Q y75) v31_5.toInt.toNat) 1 + I74 y75 4)) ∧ I1 = va_up Im (fb Q (nf Q y75) v31_5.toInt.toNat) (upd (Im (fb Q (nf Q y75) v31_5.toInt.toNat)) 2 (I74 (fb Q (nf Q y75) v31_5.toInt.toNat) 2 + I74 y75 5))) ∧ J1 = J74)) (va_runV (As := [.int v31_5]) (rest := []) ⟨hx, hb, hml, hown, hts⟩ (s_X5_finishGlide l dC dI cs L K G Q hQ x0 m0 tx tm H.size I74 J74 hI74 y75 hLy75 hKy75 v31_5 ⟨by omega, by omega⟩ (hgl y75 ey75).1) (cwV 1 hts (gV pq789 pq790 pq791 pq79 pq792) rfl rfl rfl (by decide +kernel) ⟨(by rw [hR]; exact (Nat.le_of_ble_eq_true rfl)), (by rw [hR]; exact (Nat.le_of_ble_eq_true rfl))⟩) (sP_V hP hD hK hN hLy75 hKy75 rfl rfl) rfl rfl hl.1 rfl (lv_room (Nat.le_of_ble_eq_true rfl)) dX6_falls_80 ⟨(by rw [hR]; exact (show nc74 + 0 ≤ 29 by omega)), (by rw [hR]; exact (show ns74 + 0 ≤ 807 by omega))⟩) hS hAL hA (fun Iz80 Jz80 H locs hz80 hIz80 hP hS => ?_)
                obtain ⟨hIz80, frc80, fz80, djc80⟩ := hIz80
                obtain rfl : J74 = Jz80 := djc80.symm
                have dn_Iz80 : (∀ b, b ∈ L0 → (K0 b = 7 ∨ K0 b = 18 ∨ K0 b = 19 ∨ K0 b = 20 ∨ K0 b = 24) → Iz80 b = I b) := fun b hb hc => (frc80 b (by have w := (hX b hb).2.1; omega)).trans (dn_I74 b hb hc)
                refine lv_iload_n hx hb dX6_falls_83 rfl (lv_at hl 1 rfl) ?_
                refine lv_aload_n hx hb dX6_falls_84 rfl (lv_at hl 0 rfl) ?_
                refine p_get (v := .ref y75) hx hb hts inX6 hown hK hP hLp0 hKp0 rfl rfl 5 (by decide) (hts _ pq354) (congrArg (fun q => some (va_rf q)) ey75) dX6_falls_85 ?_
                refine p_get hx hb hts inX5 hown hK hP hLy75 hKy75 rfl rfl 2 (by decide) (hts _ pq277) rfl dX6_falls_88 ?_
                refine lv_topi (fun z88 ez88 => ?_)
                have bz88 := oI_5_2 (Iv_at hIz80 hLy75 hKy75)
                rw [← ez88] at bz88
                have c88 := congrArg Int32.toInt (ez88.trans (congrFun (frc80 y75 (by have := hKy75; omega)) 2))
                have g88 := (hgl y75 ey75).2
                refine lv_iadd hx hb dX6_falls_91 ?_
                refine lv_topi (fun z91 ez91 => ?_)
                have bz91 := tq_add (k := v31_1.toInt) (q := z88.toInt) ez91 rfl rfl (by omega) (by omega)
                refine lv_istore_n (lv' := [(1, .int z91), (0, .ref p0), (2, .int 19981), (3, .int v20_3), (4, .int v20_1), (5, .int v31_5)]) hx hb dX6_falls_92 rfl hl (by decide) rfl (fun ls hl => ?_)
                exact j93 L K G Q z91 Iz80 J74 nc74 ns74 _ _ _ hX hQ hD hAL hx0 hm0 hLp0 hKp0 ⟨by omega, by omega⟩ ⟨by omega, by omega⟩ hIz80 dn_Iz80 dj_J74 (fun h => absurd h (by omega)) ⟨by omega, by omega⟩ (fun σ h => by obtain ⟨l, e, A, g⟩ := ht74 σ h; have W := fa_go hQ hLp0 hKp0 (gd_of ey75) A (fP_n l) (g y75 ey75) fz80; have s := fR_sum (g y75 ey75) e (v1 := z91.toInt) (by omega); have q := fP_nn (j := v31_5.toInt.toNat) (N := (σ.1.1 1).toInt.toNat) (k := v20_3.toInt.toNat) (c := σ.1); exact ⟨l, s, fa_st W (by rw [← s]; omega)⟩) hP hS (lv_sub hl [1, 0, 2, 3, 4, 5] rfl)
              refine lv_if_ne (tgt := 74) hx hb dX6_falls_67 (by decide) (fun c67 => ?_) (fun c67 => ?_)
              · have t67 := tq_ne (k := v31_1.toInt) (q := (0)) c67 rfl (by decide +kernel)
                exact j74 L K G Q Iz53 J31 nc31 ns31 _ _ _ hX hQ hD hAL hx0 hm0 hLp0 hKp0 ⟨by omega, by omega⟩ hIz53 dn_Iz53 dj_J31 (fun ys e => by obtain rfl : y44 = ys := Option.some.inj (ey44.symm.trans e); exact ⟨zp53, by rw [← ez60]; omega⟩) (fun σ h => by obtain ⟨l, e, A, g⟩ := h56 σ h; rw [faS_y (by rw [← e]; omega)] at A; exact ⟨l, e, A, fun ys ey => by obtain rfl : y44 = ys := Option.some.inj (ey44.symm.trans ey); exact g⟩) hP hS (lv_sub hl [0, 1, 2, 3, 4, 5] rfl)
              · have t67 := tq_eq (k := v31_1.toInt) (q := (0)) c67 rfl (by decide +kernel)
                refine lv_aload_n hx hb dX6_falls_70 rfl (lv_at hl 0 rfl) ?_
                obtain ⟨rfl, rfl⟩ : nc31 = 0 ∧ ns31 = 0 := hnz31 t67
                refine sa_v (va_runV (As := []) (rest := []) ⟨hx, hb, hml, hown, hts⟩ (s_X6_remember l dC dI cs L K G Q hQ x0 m0 tx tm hx0 hm0 H.size Iz53 J31 hIz53 p0 hLp0 hKp0) (cwV 0 hts (gV pq643 pq645 pq3 pq74 pq646) rfl rfl rfl (by decide +kernel) ⟨(by rw [hR]; exact (Nat.le_of_ble_eq_true rfl)), (by rw [hR]; exact (Nat.le_of_ble_eq_true rfl))⟩) (sP_V hP hD hK hN hLp0 hKp0 rfl rfl) rfl rfl hl.1 rfl (lv_room (Nat.le_of_ble_eq_true rfl)) dX6_falls_71 ⟨(by rw [hR]; exact (Nat.le_of_ble_eq_true rfl)), (by rw [hR]; exact (Nat.le_of_ble_eq_true rfl))⟩) hS hAL hA (fun L K G Q Iz71 Jz71 H locs hz71 hE hQn hIz71 hDn hALn hP zp71 hS => ?_)
                obtain ⟨zp71, rz71, dnc71, djc71⟩ := zp71
                have dn_Iz71 : (∀ b, b ∈ L0 → (K0 b = 7 ∨ K0 b = 18 ∨ K0 b = 19 ∨ K0 b = 20 ∨ K0 b = 24) → Iz71 b = I b) := fun b hb hc => (dnc71 b (hX b hb).1 (by have w := (hX b hb).2.1; omega)).trans (dn_Iz53 b hb hc)
                have dj_Jz71 : (∀ b, b ∈ L0 → ¬ (K0 b = 12) → Jz71 b = J b) := fun b hb hc => (djc71 b (hX b hb).1 (fun z => hc (by have w1 := (hX b hb).2.1; have w2 := (hX b hb).2.2.1; rw [w1] at z; first | exact z | exact z.1))).trans (dj_J31 b hb hc)
                have gl71 := glOK_al hQ hE zp71 hLy44 hKy44 hGy44 ⟨by omega, by omega⟩ zp53
                have es71 := (congrFun ((hE p0 hLp0).2.2.2 (by rw [hKp0]; decide) (by rw [hKp0]; decide)) 5).trans ey44
                have e71 : Iz71 y44 = Iz53 y44 := zp71 y44 hLy44 (by rw [hGy44]; decide) (by rw [hKy44]; decide)
                have st71 : 0 < (Iz71 y44 2).toInt := by rw [e71, ← ez60]; omega
                have hKp0 := (hE p0 hLp0).2.1.trans hKp0
                have hKy44 := (hE y44 hLy44).2.1.trans hKy44
                have hGy44 := (hE y44 hLy44).2.2.1.trans hGy44
                have hLp0 := (hE p0 hLp0).1
                have hLy44 := (hE y44 hLy44).1
                have hx0 := (hE x0 hx0).1
                have hm0 := (hE m0 hm0).1
                have hX := extW_trans hX hE
                have hQ := hQn
                have hD := hDn
                have hAL := hALn
                refine W.widen (k := 29) (n := 807) (Nat.le_of_ble_eq_true rfl) (Nat.le_of_ble_eq_true rfl) ?_
                exact j74 L K G Q Iz71 Jz71 29 807 _ _ _ hX hQ hD hAL hx0 hm0 hLp0 hKp0 ⟨by omega, by omega⟩ hIz71 dn_Iz71 dj_Jz71 (fun ys e => by obtain rfl : y44 = ys := Option.some.inj (es71.symm.trans e); exact ⟨gl71, st71⟩) (fun σ h => by obtain ⟨l, e, A, g⟩ := h56 σ h; have z0 : (fR v31_5.toInt.toNat (fK (σ.1.1 1).toInt.toNat v20_3.toInt.toNat (σ.1, 0))).2 = 0 := (by rw [← e]; omega); have B := rz71 σ (fa_rem A z0); rw [rem_e] at B; exact ⟨l, e, by rw [fP_0 z0]; exact B, fun ys ey => by obtain rfl : y44 = ys := Option.some.inj (es71.symm.trans ey); rw [e71]; exact g⟩) hP hS (lv_sub hl [0, 1, 2, 3, 4, 5] rfl))
        exact key31 _ L K G Q v20_1 0 I20 J20 nc20 ns20 _ _ _ rfl hX hQ hD hAL hx0 hm0 hLp0 hKp0 ⟨by omega, by omega⟩ ⟨by omega, by omega⟩ ⟨by decide +kernel, by decide +kernel⟩ hI20 dn_I20 dj_J20 hnz20 ⟨by omega, by omega⟩ (fun σ h => by rw [show (0 : Int32).toInt.toNat = 0 from by decide +kernel, fR_0]; exact ⟨Nat.zero_le _, (ht20 σ h).2.1, (ht20 σ h).2.2⟩) hP hS (lv_sub hl [2, 3, 4, 5, 1, 0] rfl))
    exact key20 _ L K G Q 0 0 I J 0 0 _ _ _ rfl hX hQ hD hAL hx0 hm0 hLp0 hKp0 ⟨by omega, by omega⟩ ⟨by decide +kernel, by decide +kernel⟩ ⟨by decide +kernel, by decide +kernel⟩ hI dn_I dj_J (fun _ => ⟨rfl, rfl⟩) ⟨by omega, by omega⟩ (fun σ h => by rw [show (0 : Int32).toInt.toNat = 0 from by decide +kernel, fK_0, faS_0 rfl]; exact ⟨fGo_0, by show (0 : Int32).toInt = 0; decide +kernel, rx0 σ h⟩) hP hS (lv_sub hl [3, 2, 1, 0] rfl)
  · have t7 := tq_eq (k := z4.toInt) (q := (0)) c7 rfl (by decide +kernel)
    refine lv_iconst (v := (-1)) hx hb dX6_falls_10 (by decide +kernel) ?_
    subst hR; subst hQz
    refine W.widen (k := 29) (n := 807) (Nat.le_of_ble_eq_true rfl) (Nat.le_of_ble_eq_true rfl) ?_
    exact W.iret (v := (-1)) hx hb hr (fun t ht hW => ⟨⟨(-1), (), rfl, (fun σ h => by have ec := (rx0 σ h).1.1.2.2.1; rw [show an Q p0 = y1 from gd_of ey1, ← ez4] at ec; rw [fa_n (by rw [← ec]; omega)]; show (-1 : Int32).toInt = -1; decide +kernel), ⟨L, K, G, Q, I, J, hX, hQ, hI, fun F => (hD F).weaken (fun _ _ _ _ => trivial), fun q h => hAe2 q (hAL q h), by rw [ht]; exact hP, ⟨(fun σ h => by have A0 := rx0 σ h; have ec := A0.1.1.2.2.1; rw [show an Q p0 = y1 from gd_of ey1, ← ez4] at ec; rw [fa_n (by rw [← ec]; omega)]; exact A0), dn_I, dj_J⟩⟩⟩, hS.F ht⟩) hS.2.2 dX6_falls_11
