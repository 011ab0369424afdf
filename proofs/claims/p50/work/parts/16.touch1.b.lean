def yX6_bitsOfShare : MethodName := ⟨RX6, "bitsOfShare", "(II)J"⟩
abbrev cX6_bitsOfShare : ByteArray := prog_1_method_40_code
abbrev cX6_dense : ByteArray := prog_1_method_36_code
abbrev cX6_dots : ByteArray := prog_1_method_37_code
abbrev cX6_letter : ByteArray := prog_1_method_35_code
abbrev cX6_like : ByteArray := prog_1_method_34_code
abbrev cX6_share : ByteArray := prog_1_method_39_code
abbrev cX6_shifts : ByteArray := prog_1_method_33_code
abbrev cX6_spread : ByteArray := prog_1_method_38_code
def yX6_dense : MethodName := ⟨RX6, "dense", "(IIII)I"⟩
def yX6_dots : MethodName := ⟨RX6, "dots", "(IZI)I"⟩
def yX6_letter : MethodName := ⟨RX6, "letter", "(II)I"⟩
def yX6_like : MethodName := ⟨RX6, "like", "(I)I"⟩
def yX6_share : MethodName := ⟨RX6, "share", "(I)J"⟩
def yX6_shifts : MethodName := ⟨RX6, "shifts", "(II)I"⟩
def yX6_spread : MethodName := ⟨RX6, "spread", "(II)I"⟩
theorem dX6_bitsOfShare_0 : decode cX6_bitsOfShare 0 = .ok (.iload_n 0, 1) := by decide +kernel
theorem dX6_bitsOfShare_1 : decode cX6_bitsOfShare 1 = .ok (.ifCond .le 8, 3) := by decide +kernel
theorem dX6_bitsOfShare_4 : decode cX6_bitsOfShare 4 = .ok (.iload_n 0, 1) := by decide +kernel
theorem dX6_bitsOfShare_5 : decode cX6_bitsOfShare 5 = .ok (.iload_n 1, 1) := by decide +kernel
theorem dX6_bitsOfShare_6 : decode cX6_bitsOfShare 6 = .ok (.if_icmp .le 5, 3) := by decide +kernel
theorem dX6_bitsOfShare_9 : decode cX6_bitsOfShare 9 = .ok (.lconst 0, 1) := by decide +kernel
theorem dX6_bitsOfShare_10 : decode cX6_bitsOfShare 10 = .ok (.lreturn, 1) := by decide +kernel
theorem dX6_bitsOfShare_11 : decode cX6_bitsOfShare 11 = .ok (.iload_n 0, 1) := by decide +kernel
theorem dX6_bitsOfShare_12 : decode cX6_bitsOfShare 12 = .ok (.istore_n 2, 1) := by decide +kernel
theorem dX6_bitsOfShare_13 : decode cX6_bitsOfShare 13 = .ok (.iconst 0, 1) := by decide +kernel
theorem dX6_bitsOfShare_14 : decode cX6_bitsOfShare 14 = .ok (.istore_n 3, 1) := by decide +kernel
theorem dX6_bitsOfShare_15 : decode cX6_bitsOfShare 15 = .ok (.iload_n 2, 1) := by decide +kernel
theorem dX6_bitsOfShare_16 : decode cX6_bitsOfShare 16 = .ok (.iload_n 1, 1) := by decide +kernel
theorem dX6_bitsOfShare_17 : decode cX6_bitsOfShare 17 = .ok (.if_icmp .ge 19, 3) := by decide +kernel
theorem dX6_bitsOfShare_20 : decode cX6_bitsOfShare 20 = .ok (.iload_n 3, 1) := by decide +kernel
theorem dX6_bitsOfShare_21 : decode cX6_bitsOfShare 21 = .ok (.bipush (-64), 2) := by decide +kernel
theorem dX6_bitsOfShare_23 : decode cX6_bitsOfShare 23 = .ok (.if_icmp .le 13, 3) := by decide +kernel
theorem dX6_bitsOfShare_26 : decode cX6_bitsOfShare 26 = .ok (.iload_n 2, 1) := by decide +kernel
theorem dX6_bitsOfShare_27 : decode cX6_bitsOfShare 27 = .ok (.iconst 2, 1) := by decide +kernel
theorem dX6_bitsOfShare_28 : decode cX6_bitsOfShare 28 = .ok (.imul, 1) := by decide +kernel
theorem dX6_bitsOfShare_29 : decode cX6_bitsOfShare 29 = .ok (.istore_n 2, 1) := by decide +kernel
theorem dX6_bitsOfShare_30 : decode cX6_bitsOfShare 30 = .ok (.iinc 3 (-1), 3) := by decide +kernel
theorem dX6_bitsOfShare_33 : decode cX6_bitsOfShare 33 = .ok (.goto (-18), 3) := by decide +kernel
theorem dX6_bitsOfShare_36 : decode cX6_bitsOfShare 36 = .ok (.lconst 0, 1) := by decide +kernel
theorem dX6_bitsOfShare_37 : decode cX6_bitsOfShare 37 = .ok (.lstore 4, 2) := by decide +kernel
theorem dX6_bitsOfShare_39 : decode cX6_bitsOfShare 39 = .ok (.iconst 0, 1) := by decide +kernel
theorem dX6_bitsOfShare_40 : decode cX6_bitsOfShare 40 = .ok (.istore 6, 2) := by decide +kernel
theorem dX6_bitsOfShare_42 : decode cX6_bitsOfShare 42 = .ok (.iload 6, 2) := by decide +kernel
theorem dX6_bitsOfShare_44 : decode cX6_bitsOfShare 44 = .ok (.bipush 53, 2) := by decide +kernel
theorem dX6_bitsOfShare_46 : decode cX6_bitsOfShare 46 = .ok (.if_icmp .ge 36, 3) := by decide +kernel
theorem dX6_bitsOfShare_49 : decode cX6_bitsOfShare 49 = .ok (.lload 4, 2) := by decide +kernel
theorem dX6_bitsOfShare_51 : decode cX6_bitsOfShare 51 = .ok (.ldc2_w 297, 3) := by decide +kernel
theorem dX6_bitsOfShare_54 : decode cX6_bitsOfShare 54 = .ok (.lmul, 1) := by decide +kernel
theorem dX6_bitsOfShare_55 : decode cX6_bitsOfShare 55 = .ok (.lstore 4, 2) := by decide +kernel
theorem dX6_bitsOfShare_57 : decode cX6_bitsOfShare 57 = .ok (.iload_n 2, 1) := by decide +kernel
theorem dX6_bitsOfShare_58 : decode cX6_bitsOfShare 58 = .ok (.iload_n 1, 1) := by decide +kernel
theorem dX6_bitsOfShare_59 : decode cX6_bitsOfShare 59 = .ok (.if_icmp .lt 13, 3) := by decide +kernel
theorem dX6_bitsOfShare_62 : decode cX6_bitsOfShare 62 = .ok (.lload 4, 2) := by decide +kernel
theorem dX6_bitsOfShare_64 : decode cX6_bitsOfShare 64 = .ok (.lconst 1, 1) := by decide +kernel
theorem dX6_bitsOfShare_65 : decode cX6_bitsOfShare 65 = .ok (.ladd, 1) := by decide +kernel
theorem dX6_bitsOfShare_66 : decode cX6_bitsOfShare 66 = .ok (.lstore 4, 2) := by decide +kernel
theorem dX6_bitsOfShare_68 : decode cX6_bitsOfShare 68 = .ok (.iload_n 2, 1) := by decide +kernel
theorem dX6_bitsOfShare_69 : decode cX6_bitsOfShare 69 = .ok (.iload_n 1, 1) := by decide +kernel
theorem dX6_bitsOfShare_70 : decode cX6_bitsOfShare 70 = .ok (.isub, 1) := by decide +kernel
theorem dX6_bitsOfShare_71 : decode cX6_bitsOfShare 71 = .ok (.istore_n 2, 1) := by decide +kernel
theorem dX6_bitsOfShare_72 : decode cX6_bitsOfShare 72 = .ok (.iload_n 2, 1) := by decide +kernel
theorem dX6_bitsOfShare_73 : decode cX6_bitsOfShare 73 = .ok (.iconst 2, 1) := by decide +kernel
theorem dX6_bitsOfShare_74 : decode cX6_bitsOfShare 74 = .ok (.imul, 1) := by decide +kernel
theorem dX6_bitsOfShare_75 : decode cX6_bitsOfShare 75 = .ok (.istore_n 2, 1) := by decide +kernel
theorem dX6_bitsOfShare_76 : decode cX6_bitsOfShare 76 = .ok (.iinc 6 1, 3) := by decide +kernel
theorem dX6_bitsOfShare_79 : decode cX6_bitsOfShare 79 = .ok (.goto (-37), 3) := by decide +kernel
theorem dX6_bitsOfShare_82 : decode cX6_bitsOfShare 82 = .ok (.iload_n 2, 1) := by decide +kernel
theorem dX6_bitsOfShare_83 : decode cX6_bitsOfShare 83 = .ok (.iload_n 1, 1) := by decide +kernel
theorem dX6_bitsOfShare_84 : decode cX6_bitsOfShare 84 = .ok (.if_icmp .gt 17, 3) := by decide +kernel
theorem dX6_bitsOfShare_87 : decode cX6_bitsOfShare 87 = .ok (.iload_n 2, 1) := by decide +kernel
theorem dX6_bitsOfShare_88 : decode cX6_bitsOfShare 88 = .ok (.iload_n 1, 1) := by decide +kernel
theorem dX6_bitsOfShare_89 : decode cX6_bitsOfShare 89 = .ok (.if_icmp .ne 18, 3) := by decide +kernel
theorem dX6_bitsOfShare_92 : decode cX6_bitsOfShare 92 = .ok (.lload 4, 2) := by decide +kernel
theorem dX6_bitsOfShare_94 : decode cX6_bitsOfShare 94 = .ok (.lconst 1, 1) := by decide +kernel
theorem dX6_bitsOfShare_95 : decode cX6_bitsOfShare 95 = .ok (.land, 1) := by decide +kernel
theorem dX6_bitsOfShare_96 : decode cX6_bitsOfShare 96 = .ok (.lconst 1, 1) := by decide +kernel
theorem dX6_bitsOfShare_97 : decode cX6_bitsOfShare 97 = .ok (.lcmp, 1) := by decide +kernel
theorem dX6_bitsOfShare_98 : decode cX6_bitsOfShare 98 = .ok (.ifCond .ne 9, 3) := by decide +kernel
theorem dX6_bitsOfShare_101 : decode cX6_bitsOfShare 101 = .ok (.lload 4, 2) := by decide +kernel
theorem dX6_bitsOfShare_103 : decode cX6_bitsOfShare 103 = .ok (.lconst 1, 1) := by decide +kernel
theorem dX6_bitsOfShare_104 : decode cX6_bitsOfShare 104 = .ok (.ladd, 1) := by decide +kernel
theorem dX6_bitsOfShare_105 : decode cX6_bitsOfShare 105 = .ok (.lstore 4, 2) := by decide +kernel
theorem dX6_bitsOfShare_107 : decode cX6_bitsOfShare 107 = .ok (.iload_n 3, 1) := by decide +kernel
theorem dX6_bitsOfShare_108 : decode cX6_bitsOfShare 108 = .ok (.sipush 1022, 3) := by decide +kernel
theorem dX6_bitsOfShare_111 : decode cX6_bitsOfShare 111 = .ok (.iadd, 1) := by decide +kernel
theorem dX6_bitsOfShare_112 : decode cX6_bitsOfShare 112 = .ok (.i2l, 1) := by decide +kernel
theorem dX6_bitsOfShare_113 : decode cX6_bitsOfShare 113 = .ok (.bipush 52, 2) := by decide +kernel
theorem dX6_bitsOfShare_115 : decode cX6_bitsOfShare 115 = .ok (.lshl, 1) := by decide +kernel
theorem dX6_bitsOfShare_116 : decode cX6_bitsOfShare 116 = .ok (.lload 4, 2) := by decide +kernel
theorem dX6_bitsOfShare_118 : decode cX6_bitsOfShare 118 = .ok (.ladd, 1) := by decide +kernel
theorem dX6_bitsOfShare_119 : decode cX6_bitsOfShare 119 = .ok (.lreturn, 1) := by decide +kernel
theorem dX6_dense_0 : decode cX6_dense 0 = .ok (.aload_n 0, 1) := by decide +kernel
theorem dX6_dense_1 : decode cX6_dense 1 = .ok (.iload_n 1, 1) := by decide +kernel
theorem dX6_dense_2 : decode cX6_dense 2 = .ok (.invokevirtual 130, 3) := by decide +kernel
theorem dX6_dense_5 : decode cX6_dense 5 = .ok (.ifCond .eq 12, 3) := by decide +kernel
theorem dX6_dense_8 : decode cX6_dense 8 = .ok (.iload 4, 2) := by decide +kernel
theorem dX6_dense_10 : decode cX6_dense 10 = .ok (.iconst 2, 1) := by decide +kernel
theorem dX6_dense_11 : decode cX6_dense 11 = .ok (.invokestatic 109, 3) := by decide +kernel
theorem dX6_dense_14 : decode cX6_dense 14 = .ok (.ifCond .ne 5, 3) := by decide +kernel
theorem dX6_dense_17 : decode cX6_dense 17 = .ok (.iconst (-1), 1) := by decide +kernel
theorem dX6_dense_18 : decode cX6_dense 18 = .ok (.ireturn, 1) := by decide +kernel
theorem dX6_dense_19 : decode cX6_dense 19 = .ok (.aload_n 0, 1) := by decide +kernel
theorem dX6_dense_20 : decode cX6_dense 20 = .ok (.getfield 20, 3) := by decide +kernel
theorem dX6_dense_23 : decode cX6_dense 23 = .ok (.getfield 133, 3) := by decide +kernel
theorem dX6_dense_26 : decode cX6_dense 26 = .ok (.iload_n 1, 1) := by decide +kernel
theorem dX6_dense_27 : decode cX6_dense 27 = .ok (.aaload, 1) := by decide +kernel
theorem dX6_dense_28 : decode cX6_dense 28 = .ok (.astore 5, 2) := by decide +kernel
theorem dX6_dense_30 : decode cX6_dense 30 = .ok (.iload_n 2, 1) := by decide +kernel
theorem dX6_dense_31 : decode cX6_dense 31 = .ok (.iconst 1, 1) := by decide +kernel
theorem dX6_dense_32 : decode cX6_dense 32 = .ok (.if_icmp .lt 26, 3) := by decide +kernel
theorem dX6_dense_35 : decode cX6_dense 35 = .ok (.iload_n 2, 1) := by decide +kernel
theorem dX6_dense_36 : decode cX6_dense 36 = .ok (.aload 5, 2) := by decide +kernel
theorem dX6_dense_38 : decode cX6_dense 38 = .ok (.getfield 170, 3) := by decide +kernel
theorem dX6_dense_41 : decode cX6_dense 41 = .ok (.if_icmp .gt 17, 3) := by decide +kernel
theorem dX6_dense_44 : decode cX6_dense 44 = .ok (.iload_n 3, 1) := by decide +kernel
theorem dX6_dense_45 : decode cX6_dense 45 = .ok (.iconst 1, 1) := by decide +kernel
theorem dX6_dense_46 : decode cX6_dense 46 = .ok (.if_icmp .lt 12, 3) := by decide +kernel
theorem dX6_dense_49 : decode cX6_dense 49 = .ok (.iload_n 3, 1) := by decide +kernel
theorem dX6_dense_50 : decode cX6_dense 50 = .ok (.aload 5, 2) := by decide +kernel
theorem dX6_dense_52 : decode cX6_dense 52 = .ok (.getfield 173, 3) := by decide +kernel
theorem dX6_dense_55 : decode cX6_dense 55 = .ok (.if_icmp .le 5, 3) := by decide +kernel
theorem dX6_dense_58 : decode cX6_dense 58 = .ok (.iconst (-1), 1) := by decide +kernel
theorem dX6_dense_59 : decode cX6_dense 59 = .ok (.ireturn, 1) := by decide +kernel
theorem dX6_dense_60 : decode cX6_dense 60 = .ok (.iconst (-1), 1) := by decide +kernel
theorem dX6_dense_61 : decode cX6_dense 61 = .ok (.istore 6, 2) := by decide +kernel
theorem dX6_dense_63 : decode cX6_dense 63 = .ok (.iconst 0, 1) := by decide +kernel
theorem dX6_dense_64 : decode cX6_dense 64 = .ok (.istore 7, 2) := by decide +kernel
theorem dX6_dense_66 : decode cX6_dense 66 = .ok (.iconst 0, 1) := by decide +kernel
theorem dX6_dense_67 : decode cX6_dense 67 = .ok (.istore 8, 2) := by decide +kernel
theorem dX6_dense_69 : decode cX6_dense 69 = .ok (.iconst 0, 1) := by decide +kernel
theorem dX6_dense_70 : decode cX6_dense 70 = .ok (.istore 9, 2) := by decide +kernel
theorem dX6_dense_72 : decode cX6_dense 72 = .ok (.iload 9, 2) := by decide +kernel
theorem dX6_dense_74 : decode cX6_dense 74 = .ok (.aload 5, 2) := by decide +kernel
theorem dX6_dense_76 : decode cX6_dense 76 = .ok (.getfield 173, 3) := by decide +kernel
theorem dX6_dense_79 : decode cX6_dense 79 = .ok (.iload_n 3, 1) := by decide +kernel
theorem dX6_dense_80 : decode cX6_dense 80 = .ok (.isub, 1) := by decide +kernel
theorem dX6_dense_81 : decode cX6_dense 81 = .ok (.if_icmp .gt 62, 3) := by decide +kernel
theorem dX6_dense_84 : decode cX6_dense 84 = .ok (.iconst 0, 1) := by decide +kernel
theorem dX6_dense_85 : decode cX6_dense 85 = .ok (.istore 10, 2) := by decide +kernel
theorem dX6_dense_87 : decode cX6_dense 87 = .ok (.iload 10, 2) := by decide +kernel
theorem dX6_dense_89 : decode cX6_dense 89 = .ok (.aload 5, 2) := by decide +kernel
theorem dX6_dense_91 : decode cX6_dense 91 = .ok (.getfield 170, 3) := by decide +kernel
theorem dX6_dense_94 : decode cX6_dense 94 = .ok (.iload_n 2, 1) := by decide +kernel
theorem dX6_dense_95 : decode cX6_dense 95 = .ok (.isub, 1) := by decide +kernel
theorem dX6_dense_96 : decode cX6_dense 96 = .ok (.if_icmp .gt 41, 3) := by decide +kernel
theorem dX6_dense_99 : decode cX6_dense 99 = .ok (.aload 5, 2) := by decide +kernel
theorem dX6_dense_101 : decode cX6_dense 101 = .ok (.iload 10, 2) := by decide +kernel
theorem dX6_dense_103 : decode cX6_dense 103 = .ok (.iload 9, 2) := by decide +kernel
theorem dX6_dense_105 : decode cX6_dense 105 = .ok (.iload_n 2, 1) := by decide +kernel
theorem dX6_dense_106 : decode cX6_dense 106 = .ok (.iload_n 3, 1) := by decide +kernel
theorem dX6_dense_107 : decode cX6_dense 107 = .ok (.invokevirtual 278, 3) := by decide +kernel
theorem dX6_dense_110 : decode cX6_dense 110 = .ok (.istore 11, 2) := by decide +kernel
theorem dX6_dense_112 : decode cX6_dense 112 = .ok (.iload 11, 2) := by decide +kernel
theorem dX6_dense_114 : decode cX6_dense 114 = .ok (.iload 6, 2) := by decide +kernel
theorem dX6_dense_116 : decode cX6_dense 116 = .ok (.if_icmp .le 15, 3) := by decide +kernel
theorem dX6_dense_119 : decode cX6_dense 119 = .ok (.iload 11, 2) := by decide +kernel
theorem dX6_dense_121 : decode cX6_dense 121 = .ok (.istore 6, 2) := by decide +kernel
theorem dX6_dense_123 : decode cX6_dense 123 = .ok (.iload 10, 2) := by decide +kernel
theorem dX6_dense_125 : decode cX6_dense 125 = .ok (.istore 7, 2) := by decide +kernel
theorem dX6_dense_127 : decode cX6_dense 127 = .ok (.iload 9, 2) := by decide +kernel
theorem dX6_dense_129 : decode cX6_dense 129 = .ok (.istore 8, 2) := by decide +kernel
theorem dX6_dense_131 : decode cX6_dense 131 = .ok (.iinc 10 1, 3) := by decide +kernel
theorem dX6_dense_134 : decode cX6_dense 134 = .ok (.goto (-47), 3) := by decide +kernel
theorem dX6_dense_137 : decode cX6_dense 137 = .ok (.iinc 9 1, 3) := by decide +kernel
theorem dX6_dense_140 : decode cX6_dense 140 = .ok (.goto (-68), 3) := by decide +kernel
theorem dX6_dense_143 : decode cX6_dense 143 = .ok (.iload 4, 2) := by decide +kernel
theorem dX6_dense_145 : decode cX6_dense 145 = .ok (.ifCond .ne 8, 3) := by decide +kernel
theorem dX6_dense_148 : decode cX6_dense 148 = .ok (.iload 6, 2) := by decide +kernel
theorem dX6_dense_150 : decode cX6_dense 150 = .ok (.goto 16, 3) := by decide +kernel
theorem dX6_dense_153 : decode cX6_dense 153 = .ok (.iload 4, 2) := by decide +kernel
theorem dX6_dense_155 : decode cX6_dense 155 = .ok (.iconst 1, 1) := by decide +kernel
theorem dX6_dense_156 : decode cX6_dense 156 = .ok (.if_icmp .ne 8, 3) := by decide +kernel
theorem dX6_dense_159 : decode cX6_dense 159 = .ok (.iload 7, 2) := by decide +kernel
theorem dX6_dense_161 : decode cX6_dense 161 = .ok (.goto 5, 3) := by decide +kernel
theorem dX6_dense_164 : decode cX6_dense 164 = .ok (.iload 8, 2) := by decide +kernel
theorem dX6_dense_166 : decode cX6_dense 166 = .ok (.ireturn, 1) := by decide +kernel
theorem dX6_dots_0 : decode cX6_dots 0 = .ok (.aload_n 0, 1) := by decide +kernel
theorem dX6_dots_1 : decode cX6_dots 1 = .ok (.iload_n 1, 1) := by decide +kernel
theorem dX6_dots_2 : decode cX6_dots 2 = .ok (.invokevirtual 130, 3) := by decide +kernel
theorem dX6_dots_5 : decode cX6_dots 5 = .ok (.ifCond .eq 7, 3) := by decide +kernel
theorem dX6_dots_8 : decode cX6_dots 8 = .ok (.iload_n 3, 1) := by decide +kernel
theorem dX6_dots_9 : decode cX6_dots 9 = .ok (.ifCond .ge 5, 3) := by decide +kernel
theorem dX6_dots_12 : decode cX6_dots 12 = .ok (.iconst (-1), 1) := by decide +kernel
theorem dX6_dots_13 : decode cX6_dots 13 = .ok (.ireturn, 1) := by decide +kernel
theorem dX6_dots_14 : decode cX6_dots 14 = .ok (.aload_n 0, 1) := by decide +kernel
theorem dX6_dots_15 : decode cX6_dots 15 = .ok (.getfield 20, 3) := by decide +kernel
theorem dX6_dots_18 : decode cX6_dots 18 = .ok (.getfield 133, 3) := by decide +kernel
theorem dX6_dots_21 : decode cX6_dots 21 = .ok (.iload_n 1, 1) := by decide +kernel
theorem dX6_dots_22 : decode cX6_dots 22 = .ok (.aaload, 1) := by decide +kernel
theorem dX6_dots_23 : decode cX6_dots 23 = .ok (.astore 4, 2) := by decide +kernel
theorem dX6_dots_25 : decode cX6_dots 25 = .ok (.iload_n 3, 1) := by decide +kernel
theorem dX6_dots_26 : decode cX6_dots 26 = .ok (.iload_n 2, 1) := by decide +kernel
theorem dX6_dots_27 : decode cX6_dots 27 = .ok (.ifCond .eq 11, 3) := by decide +kernel
theorem dX6_dots_30 : decode cX6_dots 30 = .ok (.aload 4, 2) := by decide +kernel
theorem dX6_dots_32 : decode cX6_dots 32 = .ok (.getfield 170, 3) := by decide +kernel
theorem dX6_dots_35 : decode cX6_dots 35 = .ok (.goto 8, 3) := by decide +kernel
theorem dX6_dots_38 : decode cX6_dots 38 = .ok (.aload 4, 2) := by decide +kernel
theorem dX6_dots_40 : decode cX6_dots 40 = .ok (.getfield 173, 3) := by decide +kernel
theorem dX6_dots_43 : decode cX6_dots 43 = .ok (.if_icmp .lt 5, 3) := by decide +kernel
theorem dX6_dots_46 : decode cX6_dots 46 = .ok (.iconst (-1), 1) := by decide +kernel
theorem dX6_dots_47 : decode cX6_dots 47 = .ok (.ireturn, 1) := by decide +kernel
theorem dX6_dots_48 : decode cX6_dots 48 = .ok (.iload_n 2, 1) := by decide +kernel
theorem dX6_dots_49 : decode cX6_dots 49 = .ok (.ifCond .eq 19, 3) := by decide +kernel
theorem dX6_dots_52 : decode cX6_dots 52 = .ok (.aload 4, 2) := by decide +kernel
theorem dX6_dots_54 : decode cX6_dots 54 = .ok (.iload_n 3, 1) := by decide +kernel
theorem dX6_dots_55 : decode cX6_dots 55 = .ok (.iconst 0, 1) := by decide +kernel
theorem dX6_dots_56 : decode cX6_dots 56 = .ok (.iconst 1, 1) := by decide +kernel
theorem dX6_dots_57 : decode cX6_dots 57 = .ok (.aload 4, 2) := by decide +kernel
theorem dX6_dots_59 : decode cX6_dots 59 = .ok (.getfield 173, 3) := by decide +kernel
theorem dX6_dots_62 : decode cX6_dots 62 = .ok (.invokevirtual 278, 3) := by decide +kernel
theorem dX6_dots_65 : decode cX6_dots 65 = .ok (.goto 16, 3) := by decide +kernel
theorem dX6_dots_68 : decode cX6_dots 68 = .ok (.aload 4, 2) := by decide +kernel
theorem dX6_dots_70 : decode cX6_dots 70 = .ok (.iconst 0, 1) := by decide +kernel
theorem dX6_dots_71 : decode cX6_dots 71 = .ok (.iload_n 3, 1) := by decide +kernel
theorem dX6_dots_72 : decode cX6_dots 72 = .ok (.aload 4, 2) := by decide +kernel
theorem dX6_dots_74 : decode cX6_dots 74 = .ok (.getfield 170, 3) := by decide +kernel
theorem dX6_dots_77 : decode cX6_dots 77 = .ok (.iconst 1, 1) := by decide +kernel
theorem dX6_dots_78 : decode cX6_dots 78 = .ok (.invokevirtual 278, 3) := by decide +kernel
theorem dX6_dots_81 : decode cX6_dots 81 = .ok (.ireturn, 1) := by decide +kernel
theorem dX6_letter_0 : decode cX6_letter 0 = .ok (.aload_n 0, 1) := by decide +kernel
theorem dX6_letter_1 : decode cX6_letter 1 = .ok (.iload_n 1, 1) := by decide +kernel
theorem dX6_letter_2 : decode cX6_letter 2 = .ok (.invokevirtual 130, 3) := by decide +kernel
theorem dX6_letter_5 : decode cX6_letter 5 = .ok (.ifCond .eq 8, 3) := by decide +kernel
theorem dX6_letter_8 : decode cX6_letter 8 = .ok (.iload_n 2, 1) := by decide +kernel
theorem dX6_letter_9 : decode cX6_letter 9 = .ok (.iconst (-1), 1) := by decide +kernel
theorem dX6_letter_10 : decode cX6_letter 10 = .ok (.if_icmp .ge 5, 3) := by decide +kernel
theorem dX6_letter_13 : decode cX6_letter 13 = .ok (.iconst (-1), 1) := by decide +kernel
theorem dX6_letter_14 : decode cX6_letter 14 = .ok (.ireturn, 1) := by decide +kernel
theorem dX6_letter_15 : decode cX6_letter 15 = .ok (.aload_n 0, 1) := by decide +kernel
theorem dX6_letter_16 : decode cX6_letter 16 = .ok (.getfield 20, 3) := by decide +kernel
theorem dX6_letter_19 : decode cX6_letter 19 = .ok (.getfield 133, 3) := by decide +kernel
theorem dX6_letter_22 : decode cX6_letter 22 = .ok (.iload_n 1, 1) := by decide +kernel
theorem dX6_letter_23 : decode cX6_letter 23 = .ok (.aaload, 1) := by decide +kernel
theorem dX6_letter_24 : decode cX6_letter 24 = .ok (.astore_n 3, 1) := by decide +kernel
theorem dX6_letter_25 : decode cX6_letter 25 = .ok (.aload_n 3, 1) := by decide +kernel
theorem dX6_letter_26 : decode cX6_letter 26 = .ok (.getfield 170, 3) := by decide +kernel
theorem dX6_letter_29 : decode cX6_letter 29 = .ok (.iconst 1, 1) := by decide +kernel
theorem dX6_letter_30 : decode cX6_letter 30 = .ok (.iadd, 1) := by decide +kernel
theorem dX6_letter_31 : decode cX6_letter 31 = .ok (.istore 4, 2) := by decide +kernel
theorem dX6_letter_33 : decode cX6_letter 33 = .ok (.iload 4, 2) := by decide +kernel
theorem dX6_letter_35 : decode cX6_letter 35 = .ok (.aload_n 3, 1) := by decide +kernel
theorem dX6_letter_36 : decode cX6_letter 36 = .ok (.getfield 173, 3) := by decide +kernel
theorem dX6_letter_39 : decode cX6_letter 39 = .ok (.imul, 1) := by decide +kernel
theorem dX6_letter_40 : decode cX6_letter 40 = .ok (.iconst 1, 1) := by decide +kernel
theorem dX6_letter_41 : decode cX6_letter 41 = .ok (.isub, 1) := by decide +kernel
theorem dX6_letter_42 : decode cX6_letter 42 = .ok (.istore 5, 2) := by decide +kernel
theorem dX6_letter_44 : decode cX6_letter 44 = .ok (.iload_n 2, 1) := by decide +kernel
theorem dX6_letter_45 : decode cX6_letter 45 = .ok (.iconst (-1), 1) := by decide +kernel
theorem dX6_letter_46 : decode cX6_letter 46 = .ok (.if_icmp .ne 6, 3) := by decide +kernel
theorem dX6_letter_49 : decode cX6_letter 49 = .ok (.iload 5, 2) := by decide +kernel
theorem dX6_letter_51 : decode cX6_letter 51 = .ok (.ireturn, 1) := by decide +kernel
theorem dX6_letter_52 : decode cX6_letter 52 = .ok (.iload_n 2, 1) := by decide +kernel
theorem dX6_letter_53 : decode cX6_letter 53 = .ok (.iload 5, 2) := by decide +kernel
theorem dX6_letter_55 : decode cX6_letter 55 = .ok (.if_icmp .lt 6, 3) := by decide +kernel
theorem dX6_letter_58 : decode cX6_letter 58 = .ok (.bipush (-2), 2) := by decide +kernel
theorem dX6_letter_60 : decode cX6_letter 60 = .ok (.ireturn, 1) := by decide +kernel
theorem dX6_letter_61 : decode cX6_letter 61 = .ok (.iload_n 2, 1) := by decide +kernel
theorem dX6_letter_62 : decode cX6_letter 62 = .ok (.iload 4, 2) := by decide +kernel
theorem dX6_letter_64 : decode cX6_letter 64 = .ok (.irem, 1) := by decide +kernel
theorem dX6_letter_65 : decode cX6_letter 65 = .ok (.istore 6, 2) := by decide +kernel
theorem dX6_letter_67 : decode cX6_letter 67 = .ok (.iload 6, 2) := by decide +kernel
theorem dX6_letter_69 : decode cX6_letter 69 = .ok (.aload_n 3, 1) := by decide +kernel
theorem dX6_letter_70 : decode cX6_letter 70 = .ok (.getfield 170, 3) := by decide +kernel
theorem dX6_letter_73 : decode cX6_letter 73 = .ok (.if_icmp .ne 6, 3) := by decide +kernel
theorem dX6_letter_76 : decode cX6_letter 76 = .ok (.bipush 47, 2) := by decide +kernel
theorem dX6_letter_78 : decode cX6_letter 78 = .ok (.ireturn, 1) := by decide +kernel
theorem dX6_letter_79 : decode cX6_letter 79 = .ok (.aload_n 3, 1) := by decide +kernel
theorem dX6_letter_80 : decode cX6_letter 80 = .ok (.iload 6, 2) := by decide +kernel
theorem dX6_letter_82 : decode cX6_letter 82 = .ok (.iload_n 2, 1) := by decide +kernel
theorem dX6_letter_83 : decode cX6_letter 83 = .ok (.iload 4, 2) := by decide +kernel
theorem dX6_letter_85 : decode cX6_letter 85 = .ok (.idiv, 1) := by decide +kernel
theorem dX6_letter_86 : decode cX6_letter 86 = .ok (.invokevirtual 147, 3) := by decide +kernel
theorem dX6_letter_89 : decode cX6_letter 89 = .ok (.ifCond .eq 8, 3) := by decide +kernel
theorem dX6_letter_92 : decode cX6_letter 92 = .ok (.bipush 35, 2) := by decide +kernel
theorem dX6_letter_94 : decode cX6_letter 94 = .ok (.goto 5, 3) := by decide +kernel
theorem dX6_letter_97 : decode cX6_letter 97 = .ok (.bipush 46, 2) := by decide +kernel
theorem dX6_letter_99 : decode cX6_letter 99 = .ok (.ireturn, 1) := by decide +kernel
theorem dX6_like_0 : decode cX6_like 0 = .ok (.aload_n 0, 1) := by decide +kernel
theorem dX6_like_1 : decode cX6_like 1 = .ok (.iload_n 1, 1) := by decide +kernel
theorem dX6_like_2 : decode cX6_like 2 = .ok (.invokevirtual 130, 3) := by decide +kernel
theorem dX6_like_5 : decode cX6_like 5 = .ok (.ifCond .ne 5, 3) := by decide +kernel
theorem dX6_like_8 : decode cX6_like 8 = .ok (.iconst (-1), 1) := by decide +kernel
theorem dX6_like_9 : decode cX6_like 9 = .ok (.ireturn, 1) := by decide +kernel
theorem dX6_like_10 : decode cX6_like 10 = .ok (.iconst 0, 1) := by decide +kernel
theorem dX6_like_11 : decode cX6_like 11 = .ok (.istore_n 2, 1) := by decide +kernel
theorem dX6_like_12 : decode cX6_like 12 = .ok (.iconst 0, 1) := by decide +kernel
theorem dX6_like_13 : decode cX6_like 13 = .ok (.istore_n 3, 1) := by decide +kernel
theorem dX6_like_14 : decode cX6_like 14 = .ok (.iload_n 3, 1) := by decide +kernel
theorem dX6_like_15 : decode cX6_like 15 = .ok (.iconst 3, 1) := by decide +kernel
theorem dX6_like_16 : decode cX6_like 16 = .ok (.if_icmp .gt 51, 3) := by decide +kernel
theorem dX6_like_19 : decode cX6_like 19 = .ok (.aload_n 0, 1) := by decide +kernel
theorem dX6_like_20 : decode cX6_like 20 = .ok (.getfield 48, 3) := by decide +kernel
theorem dX6_like_23 : decode cX6_like 23 = .ok (.aload_n 0, 1) := by decide +kernel
theorem dX6_like_24 : decode cX6_like 24 = .ok (.getfield 20, 3) := by decide +kernel
theorem dX6_like_27 : decode cX6_like 27 = .ok (.getfield 133, 3) := by decide +kernel
theorem dX6_like_30 : decode cX6_like 30 = .ok (.iload_n 1, 1) := by decide +kernel
theorem dX6_like_31 : decode cX6_like 31 = .ok (.aaload, 1) := by decide +kernel
theorem dX6_like_32 : decode cX6_like 32 = .ok (.iload_n 3, 1) := by decide +kernel
theorem dX6_like_33 : decode cX6_like 33 = .ok (.invokevirtual 270, 3) := by decide +kernel
theorem dX6_like_36 : decode cX6_like 36 = .ok (.aload_n 0, 1) := by decide +kernel
theorem dX6_like_37 : decode cX6_like 37 = .ok (.getfield 48, 3) := by decide +kernel
theorem dX6_like_40 : decode cX6_like 40 = .ok (.aload_n 0, 1) := by decide +kernel
theorem dX6_like_41 : decode cX6_like 41 = .ok (.getfield 20, 3) := by decide +kernel
theorem dX6_like_44 : decode cX6_like 44 = .ok (.getfield 133, 3) := by decide +kernel
theorem dX6_like_47 : decode cX6_like 47 = .ok (.iload_n 1, 1) := by decide +kernel
theorem dX6_like_48 : decode cX6_like 48 = .ok (.aaload, 1) := by decide +kernel
theorem dX6_like_49 : decode cX6_like 49 = .ok (.invokevirtual 274, 3) := by decide +kernel
theorem dX6_like_52 : decode cX6_like 52 = .ok (.ifCond .eq 9, 3) := by decide +kernel
theorem dX6_like_55 : decode cX6_like 55 = .ok (.iload_n 2, 1) := by decide +kernel
theorem dX6_like_56 : decode cX6_like 56 = .ok (.iconst 1, 1) := by decide +kernel
theorem dX6_like_57 : decode cX6_like 57 = .ok (.iload_n 3, 1) := by decide +kernel
theorem dX6_like_58 : decode cX6_like 58 = .ok (.ishl, 1) := by decide +kernel
theorem dX6_like_59 : decode cX6_like 59 = .ok (.ior, 1) := by decide +kernel
theorem dX6_like_60 : decode cX6_like 60 = .ok (.istore_n 2, 1) := by decide +kernel
theorem dX6_like_61 : decode cX6_like 61 = .ok (.iinc 3 1, 3) := by decide +kernel
theorem dX6_like_64 : decode cX6_like 64 = .ok (.goto (-50), 3) := by decide +kernel
theorem dX6_like_67 : decode cX6_like 67 = .ok (.iload_n 2, 1) := by decide +kernel
theorem dX6_like_68 : decode cX6_like 68 = .ok (.ireturn, 1) := by decide +kernel
theorem dX6_share_0 : decode cX6_share 0 = .ok (.aload_n 0, 1) := by decide +kernel
theorem dX6_share_1 : decode cX6_share 1 = .ok (.iload_n 1, 1) := by decide +kernel
theorem dX6_share_2 : decode cX6_share 2 = .ok (.invokevirtual 130, 3) := by decide +kernel
theorem dX6_share_5 : decode cX6_share 5 = .ok (.ifCond .ne 7, 3) := by decide +kernel
theorem dX6_share_8 : decode cX6_share 8 = .ok (.ldc2_w 291, 3) := by decide +kernel
theorem dX6_share_11 : decode cX6_share 11 = .ok (.lreturn, 1) := by decide +kernel
theorem dX6_share_12 : decode cX6_share 12 = .ok (.aload_n 0, 1) := by decide +kernel
theorem dX6_share_13 : decode cX6_share 13 = .ok (.getfield 20, 3) := by decide +kernel
theorem dX6_share_16 : decode cX6_share 16 = .ok (.getfield 133, 3) := by decide +kernel
theorem dX6_share_19 : decode cX6_share 19 = .ok (.iload_n 1, 1) := by decide +kernel
theorem dX6_share_20 : decode cX6_share 20 = .ok (.aaload, 1) := by decide +kernel
theorem dX6_share_21 : decode cX6_share 21 = .ok (.astore_n 2, 1) := by decide +kernel
theorem dX6_share_22 : decode cX6_share 22 = .ok (.aload_n 2, 1) := by decide +kernel
theorem dX6_share_23 : decode cX6_share 23 = .ok (.getfield 150, 3) := by decide +kernel
theorem dX6_share_26 : decode cX6_share 26 = .ok (.aload_n 2, 1) := by decide +kernel
theorem dX6_share_27 : decode cX6_share 27 = .ok (.getfield 170, 3) := by decide +kernel
theorem dX6_share_30 : decode cX6_share 30 = .ok (.aload_n 2, 1) := by decide +kernel
theorem dX6_share_31 : decode cX6_share 31 = .ok (.getfield 173, 3) := by decide +kernel
theorem dX6_share_34 : decode cX6_share 34 = .ok (.imul, 1) := by decide +kernel
theorem dX6_share_35 : decode cX6_share 35 = .ok (.invokestatic 293, 3) := by decide +kernel
theorem dX6_share_38 : decode cX6_share 38 = .ok (.lreturn, 1) := by decide +kernel
theorem dX6_shifts_0 : decode cX6_shifts 0 = .ok (.aload_n 0, 1) := by decide +kernel
theorem dX6_shifts_1 : decode cX6_shifts 1 = .ok (.iload_n 1, 1) := by decide +kernel
theorem dX6_shifts_2 : decode cX6_shifts 2 = .ok (.invokevirtual 130, 3) := by decide +kernel
theorem dX6_shifts_5 : decode cX6_shifts 5 = .ok (.ifCond .eq 11, 3) := by decide +kernel
theorem dX6_shifts_8 : decode cX6_shifts 8 = .ok (.aload_n 0, 1) := by decide +kernel
theorem dX6_shifts_9 : decode cX6_shifts 9 = .ok (.iload_n 2, 1) := by decide +kernel
theorem dX6_shifts_10 : decode cX6_shifts 10 = .ok (.invokevirtual 130, 3) := by decide +kernel
theorem dX6_shifts_13 : decode cX6_shifts 13 = .ok (.ifCond .ne 5, 3) := by decide +kernel
theorem dX6_shifts_16 : decode cX6_shifts 16 = .ok (.iconst (-1), 1) := by decide +kernel
theorem dX6_shifts_17 : decode cX6_shifts 17 = .ok (.ireturn, 1) := by decide +kernel
theorem dX6_shifts_18 : decode cX6_shifts 18 = .ok (.aload_n 0, 1) := by decide +kernel
theorem dX6_shifts_19 : decode cX6_shifts 19 = .ok (.getfield 20, 3) := by decide +kernel
theorem dX6_shifts_22 : decode cX6_shifts 22 = .ok (.getfield 133, 3) := by decide +kernel
theorem dX6_shifts_25 : decode cX6_shifts 25 = .ok (.iload_n 1, 1) := by decide +kernel
theorem dX6_shifts_26 : decode cX6_shifts 26 = .ok (.aaload, 1) := by decide +kernel
theorem dX6_shifts_27 : decode cX6_shifts 27 = .ok (.astore_n 3, 1) := by decide +kernel
theorem dX6_shifts_28 : decode cX6_shifts 28 = .ok (.aload_n 0, 1) := by decide +kernel
theorem dX6_shifts_29 : decode cX6_shifts 29 = .ok (.getfield 20, 3) := by decide +kernel
theorem dX6_shifts_32 : decode cX6_shifts 32 = .ok (.getfield 133, 3) := by decide +kernel
theorem dX6_shifts_35 : decode cX6_shifts 35 = .ok (.iload_n 2, 1) := by decide +kernel
theorem dX6_shifts_36 : decode cX6_shifts 36 = .ok (.aaload, 1) := by decide +kernel
theorem dX6_shifts_37 : decode cX6_shifts 37 = .ok (.astore 4, 2) := by decide +kernel
theorem dX6_shifts_39 : decode cX6_shifts 39 = .ok (.aload_n 3, 1) := by decide +kernel
theorem dX6_shifts_40 : decode cX6_shifts 40 = .ok (.getfield 150, 3) := by decide +kernel
theorem dX6_shifts_43 : decode cX6_shifts 43 = .ok (.ifCond .eq 11, 3) := by decide +kernel
theorem dX6_shifts_46 : decode cX6_shifts 46 = .ok (.aload 4, 2) := by decide +kernel
theorem dX6_shifts_48 : decode cX6_shifts 48 = .ok (.getfield 150, 3) := by decide +kernel
theorem dX6_shifts_51 : decode cX6_shifts 51 = .ok (.ifCond .ne 5, 3) := by decide +kernel
theorem dX6_shifts_54 : decode cX6_shifts 54 = .ok (.iconst 0, 1) := by decide +kernel
theorem dX6_shifts_55 : decode cX6_shifts 55 = .ok (.ireturn, 1) := by decide +kernel
theorem dX6_shifts_56 : decode cX6_shifts 56 = .ok (.iconst 0, 1) := by decide +kernel
theorem dX6_shifts_57 : decode cX6_shifts 57 = .ok (.istore 5, 2) := by decide +kernel
theorem dX6_shifts_59 : decode cX6_shifts 59 = .ok (.aload 4, 2) := by decide +kernel
theorem dX6_shifts_61 : decode cX6_shifts 61 = .ok (.getfield 195, 3) := by decide +kernel
theorem dX6_shifts_64 : decode cX6_shifts 64 = .ok (.aload_n 3, 1) := by decide +kernel
theorem dX6_shifts_65 : decode cX6_shifts 65 = .ok (.getfield 198, 3) := by decide +kernel
theorem dX6_shifts_68 : decode cX6_shifts 68 = .ok (.isub, 1) := by decide +kernel
theorem dX6_shifts_69 : decode cX6_shifts 69 = .ok (.istore 6, 2) := by decide +kernel
theorem dX6_shifts_71 : decode cX6_shifts 71 = .ok (.iload 6, 2) := by decide +kernel
theorem dX6_shifts_73 : decode cX6_shifts 73 = .ok (.aload 4, 2) := by decide +kernel
theorem dX6_shifts_75 : decode cX6_shifts 75 = .ok (.getfield 198, 3) := by decide +kernel
theorem dX6_shifts_78 : decode cX6_shifts 78 = .ok (.aload_n 3, 1) := by decide +kernel
theorem dX6_shifts_79 : decode cX6_shifts 79 = .ok (.getfield 195, 3) := by decide +kernel
theorem dX6_shifts_82 : decode cX6_shifts 82 = .ok (.isub, 1) := by decide +kernel
theorem dX6_shifts_83 : decode cX6_shifts 83 = .ok (.if_icmp .gt 60, 3) := by decide +kernel
theorem dX6_shifts_86 : decode cX6_shifts 86 = .ok (.aload 4, 2) := by decide +kernel
theorem dX6_shifts_88 : decode cX6_shifts 88 = .ok (.getfield 189, 3) := by decide +kernel
theorem dX6_shifts_91 : decode cX6_shifts 91 = .ok (.aload_n 3, 1) := by decide +kernel
theorem dX6_shifts_92 : decode cX6_shifts 92 = .ok (.getfield 192, 3) := by decide +kernel
theorem dX6_shifts_95 : decode cX6_shifts 95 = .ok (.isub, 1) := by decide +kernel
theorem dX6_shifts_96 : decode cX6_shifts 96 = .ok (.istore 7, 2) := by decide +kernel
theorem dX6_shifts_98 : decode cX6_shifts 98 = .ok (.iload 7, 2) := by decide +kernel
theorem dX6_shifts_100 : decode cX6_shifts 100 = .ok (.aload 4, 2) := by decide +kernel
theorem dX6_shifts_102 : decode cX6_shifts 102 = .ok (.getfield 192, 3) := by decide +kernel
theorem dX6_shifts_105 : decode cX6_shifts 105 = .ok (.aload_n 3, 1) := by decide +kernel
theorem dX6_shifts_106 : decode cX6_shifts 106 = .ok (.getfield 189, 3) := by decide +kernel
theorem dX6_shifts_109 : decode cX6_shifts 109 = .ok (.isub, 1) := by decide +kernel
theorem dX6_shifts_110 : decode cX6_shifts 110 = .ok (.if_icmp .gt 27, 3) := by decide +kernel
theorem dX6_shifts_113 : decode cX6_shifts 113 = .ok (.aload_n 3, 1) := by decide +kernel
theorem dX6_shifts_114 : decode cX6_shifts 114 = .ok (.aload 4, 2) := by decide +kernel
theorem dX6_shifts_116 : decode cX6_shifts 116 = .ok (.iload 7, 2) := by decide +kernel
theorem dX6_shifts_118 : decode cX6_shifts 118 = .ok (.ineg, 1) := by decide +kernel
theorem dX6_shifts_119 : decode cX6_shifts 119 = .ok (.iload 6, 2) := by decide +kernel
theorem dX6_shifts_121 : decode cX6_shifts 121 = .ok (.ineg, 1) := by decide +kernel
theorem dX6_shifts_122 : decode cX6_shifts 122 = .ok (.invokestatic 266, 3) := by decide +kernel
theorem dX6_shifts_125 : decode cX6_shifts 125 = .ok (.ifCond .eq 6, 3) := by decide +kernel
theorem dX6_shifts_128 : decode cX6_shifts 128 = .ok (.iinc 5 1, 3) := by decide +kernel
theorem dX6_shifts_131 : decode cX6_shifts 131 = .ok (.iinc 7 1, 3) := by decide +kernel
theorem dX6_shifts_134 : decode cX6_shifts 134 = .ok (.goto (-36), 3) := by decide +kernel
theorem dX6_shifts_137 : decode cX6_shifts 137 = .ok (.iinc 6 1, 3) := by decide +kernel
theorem dX6_shifts_140 : decode cX6_shifts 140 = .ok (.goto (-69), 3) := by decide +kernel
theorem dX6_shifts_143 : decode cX6_shifts 143 = .ok (.iload 5, 2) := by decide +kernel
theorem dX6_shifts_145 : decode cX6_shifts 145 = .ok (.ireturn, 1) := by decide +kernel
theorem dX6_spread_0 : decode cX6_spread 0 = .ok (.aload_n 0, 1) := by decide +kernel
theorem dX6_spread_1 : decode cX6_spread 1 = .ok (.iload_n 1, 1) := by decide +kernel
theorem dX6_spread_2 : decode cX6_spread 2 = .ok (.invokevirtual 130, 3) := by decide +kernel
theorem dX6_spread_5 : decode cX6_spread 5 = .ok (.ifCond .ne 5, 3) := by decide +kernel
theorem dX6_spread_8 : decode cX6_spread 8 = .ok (.iconst (-1), 1) := by decide +kernel
theorem dX6_spread_9 : decode cX6_spread 9 = .ok (.ireturn, 1) := by decide +kernel
theorem dX6_spread_10 : decode cX6_spread 10 = .ok (.iload_n 2, 1) := by decide +kernel
theorem dX6_spread_11 : decode cX6_spread 11 = .ok (.tableswitch 64 0 2 #[25, 38, 51], 25) := by decide +kernel
theorem dX6_spread_36 : decode cX6_spread 36 = .ok (.aload_n 0, 1) := by decide +kernel
theorem dX6_spread_37 : decode cX6_spread 37 = .ok (.getfield 20, 3) := by decide +kernel
theorem dX6_spread_40 : decode cX6_spread 40 = .ok (.getfield 133, 3) := by decide +kernel
theorem dX6_spread_43 : decode cX6_spread 43 = .ok (.iload_n 1, 1) := by decide +kernel
theorem dX6_spread_44 : decode cX6_spread 44 = .ok (.aaload, 1) := by decide +kernel
theorem dX6_spread_45 : decode cX6_spread 45 = .ok (.invokevirtual 282, 3) := by decide +kernel
theorem dX6_spread_48 : decode cX6_spread 48 = .ok (.ireturn, 1) := by decide +kernel
theorem dX6_spread_49 : decode cX6_spread 49 = .ok (.aload_n 0, 1) := by decide +kernel
theorem dX6_spread_50 : decode cX6_spread 50 = .ok (.getfield 20, 3) := by decide +kernel
theorem dX6_spread_53 : decode cX6_spread 53 = .ok (.getfield 133, 3) := by decide +kernel
theorem dX6_spread_56 : decode cX6_spread 56 = .ok (.iload_n 1, 1) := by decide +kernel
theorem dX6_spread_57 : decode cX6_spread 57 = .ok (.aaload, 1) := by decide +kernel
theorem dX6_spread_58 : decode cX6_spread 58 = .ok (.invokevirtual 285, 3) := by decide +kernel
theorem dX6_spread_61 : decode cX6_spread 61 = .ok (.ireturn, 1) := by decide +kernel
theorem dX6_spread_62 : decode cX6_spread 62 = .ok (.aload_n 0, 1) := by decide +kernel
theorem dX6_spread_63 : decode cX6_spread 63 = .ok (.getfield 20, 3) := by decide +kernel
theorem dX6_spread_66 : decode cX6_spread 66 = .ok (.getfield 133, 3) := by decide +kernel
theorem dX6_spread_69 : decode cX6_spread 69 = .ok (.iload_n 1, 1) := by decide +kernel
theorem dX6_spread_70 : decode cX6_spread 70 = .ok (.aaload, 1) := by decide +kernel
theorem dX6_spread_71 : decode cX6_spread 71 = .ok (.invokevirtual 288, 3) := by decide +kernel
theorem dX6_spread_74 : decode cX6_spread 74 = .ok (.ireturn, 1) := by decide +kernel
theorem dX6_spread_75 : decode cX6_spread 75 = .ok (.iconst (-1), 1) := by decide +kernel
theorem dX6_spread_76 : decode cX6_spread 76 = .ok (.ireturn, 1) := by decide +kernel
set_option maxRecDepth 100000 in
theorem pq355 : Cond.fieldLink RX6 48 "MaskTouch" "sketch" "LMaskTouch$Mask;" ∈ pw := pw_mem (i := 355) (by decide +kernel) rfl
set_option maxRecDepth 100000 in
theorem pq898 : Cond.methodLink RX6 266 yX3_shareAny ∈ pw := pw_mem (i := 898) (by decide +kernel) rfl
set_option maxRecDepth 100000 in
theorem pq903 : Cond.methodLink RX6 270 yX3_becomeFlipped ∈ pw := pw_mem (i := 903) (by decide +kernel) rfl
set_option maxRecDepth 100000 in
theorem pq904 : Cond.methodLink RX6 274 yX3_isSameAs ∈ pw := pw_mem (i := 904) (by decide +kernel) rfl
set_option maxRecDepth 100000 in
theorem pq905 : Cond.instanceMethod yX3_isSameAs ∈ pw := pw_mem (i := 905) (by decide +kernel) rfl
set_option maxRecDepth 100000 in
theorem pq906 : Cond.selects RX3 yX3_isSameAs yX3_isSameAs ∈ pw := pw_mem (i := 906) (by decide +kernel) rfl
set_option maxRecDepth 100000 in
theorem pq907 : Cond.code yX3_isSameAs cX3_isSameAs 3 (some .boolean) ∈ pw := pw_mem (i := 907) (by rfl) rfl
set_option maxRecDepth 100000 in
theorem pq916 : Cond.methodLink RX6 278 yX3_dotsWithin ∈ pw := pw_mem (i := 916) (by decide +kernel) rfl
set_option maxRecDepth 100000 in
theorem pq928 : Cond.methodLink RX6 282 yX3_sumOfX ∈ pw := pw_mem (i := 928) (by decide +kernel) rfl
set_option maxRecDepth 100000 in
theorem pq929 : Cond.instanceMethod yX3_sumOfX ∈ pw := pw_mem (i := 929) (by decide +kernel) rfl
set_option maxRecDepth 100000 in
theorem pq930 : Cond.selects RX3 yX3_sumOfX yX3_sumOfX ∈ pw := pw_mem (i := 930) (by decide +kernel) rfl
set_option maxRecDepth 100000 in
theorem pq931 : Cond.code yX3_sumOfX cX3_sumOfX 3 (some .int) ∈ pw := pw_mem (i := 931) (by rfl) rfl
set_option maxRecDepth 100000 in
theorem pq933 : Cond.methodLink RX6 285 yX3_sumOfY ∈ pw := pw_mem (i := 933) (by decide +kernel) rfl
set_option maxRecDepth 100000 in
theorem pq934 : Cond.instanceMethod yX3_sumOfY ∈ pw := pw_mem (i := 934) (by decide +kernel) rfl
set_option maxRecDepth 100000 in
theorem pq935 : Cond.selects RX3 yX3_sumOfY yX3_sumOfY ∈ pw := pw_mem (i := 935) (by decide +kernel) rfl
set_option maxRecDepth 100000 in
theorem pq936 : Cond.code yX3_sumOfY cX3_sumOfY 3 (some .int) ∈ pw := pw_mem (i := 936) (by rfl) rfl
set_option maxRecDepth 100000 in
theorem pq941 : Cond.methodLink RX6 288 yX3_farthestApart ∈ pw := pw_mem (i := 941) (by decide +kernel) rfl
set_option maxRecDepth 100000 in
theorem pq942 : Cond.instanceMethod yX3_farthestApart ∈ pw := pw_mem (i := 942) (by decide +kernel) rfl
set_option maxRecDepth 100000 in
theorem pq943 : Cond.selects RX3 yX3_farthestApart yX3_farthestApart ∈ pw := pw_mem (i := 943) (by decide +kernel) rfl
set_option maxRecDepth 100000 in
theorem pq944 : Cond.code yX3_farthestApart cX3_farthestApart 8 (some .int) ∈ pw := pw_mem (i := 944) (by rfl) rfl
set_option maxRecDepth 100000 in
theorem pq949 : Cond.constantLong RX6 291 (-1) ∈ pw := pw_mem (i := 949) (by decide +kernel) rfl
set_option maxRecDepth 100000 in
theorem pq950 : Cond.methodLink RX6 293 yX6_bitsOfShare ∈ pw := pw_mem (i := 950) (by decide +kernel) rfl
set_option maxRecDepth 100000 in
theorem pq951 : Cond.static yX6_bitsOfShare ∈ pw := pw_mem (i := 951) (by decide +kernel) rfl
set_option maxRecDepth 100000 in
theorem pq952 : Cond.code yX6_bitsOfShare cX6_bitsOfShare 7 (some .long) ∈ pw := pw_mem (i := 952) (by rfl) rfl
set_option maxRecDepth 100000 in
theorem pq953 : Cond.constantLong RX6 297 (2) ∈ pw := pw_mem (i := 953) (by decide +kernel) rfl
set_option maxHeartbeats 4000000 in
set_option maxRecDepth 100000 in
theorem s_X6_shifts (l : Launch) (dC : Nat → ClassId) (dI : Nat → Nat → Nat) (cs : Nat → ClassId) (L : List Nat) (K G : Nat → Nat) (Q : Nat → Nat → Option Nat) (hQ : Sv L K G Q) (x0 m0 : Nat) (tx : GT) (tm : GT × Int) (sz : Nat) (I : Nat → Nat → Int32) (J : Nat → Nat → Int64) (hI : Iv L K x0 m0 tx tm I) (p0 : Nat) (hLp0 : p0 ∈ L) (hKp0 : K p0 = 6) (p1 : Int32) (p2 : Int32) : Met l yX6_shifts (.code yX6_shifts cX6_shifts 8 (some .int) :: pw) ({ frames := 2, cells := 0, slots := 0, locals := 56 }) (sP (dC, dI) cs [.ref p0, .int p1, .int p2] sz L K I J Q) (va_Qi (fun (r : Int32) (_ : Unit) => (∀ σ : Sx, cxA Q I J p0 σ → r.toInt = shiR σ p1 p2)) (fun _ _ => True) (fun _ => False)) 0 0 (fun _ => False) := by
  refine Met.ofW (cc := cX6_shifts) (maxL := 8) (ret := (some .int)) (by decide +kernel) rfl ?_
  intro p e s m args below meth c s₁ B hml hv
  obtain ⟨rfl, hsz, hP, hK, hD0, hN⟩ := hv
  have hx := B.exec
  have hb := B.bytes
  have hr := B.returns
  have hts := fun w (h : w ∈ pw) => atoms_spec (ws := Cond.code yX6_shifts cX6_shifts 8 (some .int) :: pw) B.pre w (List.mem_cons_of_mem _ h)
  have hown : s.vm.findClass RX6 = some m.cls := findClass_of_methodNamed B.named
  have hlocks := B.notSynchronized
  subst hsz
  have hBB : 999 ≤ tm.2 ∧ tm.2 ≤ 6000000 := hI.2.2.2.2.1
  have hD := hD0
  obtain ⟨H, hHe⟩ : ∃ H : Heap, H = s.heap := ⟨_, rfl⟩
  have hS : va_S (fun _ => False) s.heap H [] := by rw [hHe]; exact va_S.rf
  rw [← hHe] at hP
  have hl := lv_entry ([.ref p0, .int p1, .int p2]) (n := 8) (Nat.le_of_ble_eq_true rfl)
  rw [lg_entry_eq]
  generalize (lg_sl ([.ref p0, .int p1, .int p2]) ++ List.replicate (8 - (lg_sl ([.ref p0, .int p1, .int p2])).length) Slot.unset).toArray = ls at hl ⊢
  have hl : lv_has ls 8 [(0, .ref p0), (1, .int p1), (2, .int p2)] := hl
  rw [← hHe]
  refine namedW (fun R Qz hR hQz => ?_)
  refine lv_aload_n hx hb dX6_shifts_0 rfl (lv_at hl 0 rfl) ?_
  refine lv_iload_n hx hb dX6_shifts_1 rfl (lv_at hl 1 rfl) ?_
  refine ro_i (va_runV (As := [.int p1]) (rest := []) ⟨hx, hb, hml, hown, hts⟩ (s_X6_isMask l dC dI cs L K G Q hQ x0 m0 tx tm H.size I J hI p0 hLp0 hKp0 p1) (cwV 1 hts (gV pq666 pq668 pq4 pq74 pq669) rfl rfl rfl (by decide +kernel) ⟨(by rw [hR]; exact (Nat.le_of_ble_eq_true rfl)), (by rw [hR]; exact (Nat.le_of_ble_eq_true rfl))⟩) (sP_V hP hD hK hN hLp0 hKp0 rfl rfl) rfl rfl hl.1 rfl (lv_room (Nat.le_of_ble_eq_true rfl)) dX6_shifts_2 ⟨(by rw [hR]; exact (Nat.le_of_ble_eq_true rfl)), (by rw [hR]; exact (Nat.le_of_ble_eq_true rfl))⟩) hS hP (fun z2 H locs hz2 hP hS => ?_)
  obtain ⟨bz2, imz2, xpz2⟩ := hz2
  refine lv_if_eq (tgt := 16) hx hb dX6_shifts_5 (by decide) (fun c5 => ?_) (fun c5 => ?_)
  · have t5 := tq_eq (k := z2.toInt) (q := (0)) c5 rfl (by decide +kernel)
    refine lv_iconst (v := (-1)) hx hb dX6_shifts_16 (by decide +kernel) ?_
    subst hR; subst hQz
    exact W.iret (v := (-1)) hx hb hr (fun t ht hW => ⟨⟨(-1), (), rfl, (fun σ h => by rw [shi_n (fun w => by first | exact xpz2.2 t5 (by rw [cx_0 h]; exact w.1) | exact xpz10.2 t13 (by rw [cx_0 h]; exact w.2))]; decide +kernel), trivial⟩, hS.F ht⟩) hS.2.2 dX6_shifts_17
  · have t5 := tq_ne (k := z2.toInt) (q := (0)) c5 rfl (by decide +kernel)
    have i5 := imz2 t5
    refine lv_aload_n hx hb dX6_shifts_8 rfl (lv_at hl 0 rfl) ?_
    refine lv_iload_n hx hb dX6_shifts_9 rfl (lv_at hl 2 rfl) ?_
    refine ro_i (va_runV (As := [.int p2]) (rest := []) ⟨hx, hb, hml, hown, hts⟩ (s_X6_isMask l dC dI cs L K G Q hQ x0 m0 tx tm H.size I J hI p0 hLp0 hKp0 p2) (cwV 1 hts (gV pq666 pq668 pq4 pq74 pq669) rfl rfl rfl (by decide +kernel) ⟨(by rw [hR]; exact (Nat.le_of_ble_eq_true rfl)), (by rw [hR]; exact (Nat.le_of_ble_eq_true rfl))⟩) (sP_V hP hD hK hN hLp0 hKp0 rfl rfl) rfl rfl hl.1 rfl (lv_room (Nat.le_of_ble_eq_true rfl)) dX6_shifts_10 ⟨(by rw [hR]; exact (Nat.le_of_ble_eq_true rfl)), (by rw [hR]; exact (Nat.le_of_ble_eq_true rfl))⟩) hS hP (fun z10 H locs hz10 hP hS => ?_)
    obtain ⟨bz10, imz10, xpz10⟩ := hz10
    refine lv_if_ne (tgt := 18) hx hb dX6_shifts_13 (by decide) (fun c13 => ?_) (fun c13 => ?_)
    · have t13 := tq_ne (k := z10.toInt) (q := (0)) c13 rfl (by decide +kernel)
      have i13 := imz10 t13
      refine lv_aload_n hx hb dX6_shifts_18 rfl (lv_at hl 0 rfl) ?_
      obtain ⟨y19, ey19, hLy19, hKy19, hGy19⟩ := oQ_6_2 (Sv_at hQ hLp0 hKp0)
      refine p_get (v := .ref y19) hx hb hts inX6 hown hK hP hLp0 hKp0 rfl rfl 2 (by decide) (hts _ pq351) (congrArg (fun q => some (va_rf q)) ey19) dX6_shifts_19 ?_
      obtain ⟨y22, ey22, hLy22, hKy22, hGy22⟩ := oQ_1_0 (Sv_at hQ hLy19 hKy19)
      refine p_get (v := .ref y22) hx hb hts inX1 hown hK hP hLy19 hKy19 rfl rfl 0 (by decide) (hts _ pq216) (congrArg (fun q => some (va_rf q)) ey22) dX6_shifts_22 ?_
      refine lv_iload_n hx hb dX6_shifts_25 rfl (lv_at hl 1 rfl) ?_
      obtain ⟨y26, ey26, hLy26, hKy26, hGy26⟩ := (Sv_at hQ hLy22 hKy22).1 p1.toNatClampNeg (clamp_lt (n := 8) (in_of (by omega) (by omega)))
      have hjy26 : p1.toNatClampNeg < 8 := clamp_lt (i := p1) (n := 8) (in_of (by omega) (by omega))
      refine p_aaldR hx hb hK hP 3 hLy22 hKy22 rfl rfl (in_of (by omega) (by omega)) ey26 dX6_shifts_26 ?_
      refine lv_astore_n (lv' := [(3, .ref y26), (0, .ref p0), (1, .int p1), (2, .int p2)]) hx hb dX6_shifts_27 rfl hl (by decide) rfl (fun ls hl => ?_)
      refine lv_aload_n hx hb dX6_shifts_28 rfl (lv_at hl 1 rfl) ?_
      refine p_get (v := .ref y19) hx hb hts inX6 hown hK hP hLp0 hKp0 rfl rfl 2 (by decide) (hts _ pq351) (congrArg (fun q => some (va_rf q)) ey19) dX6_shifts_29 ?_
      refine p_get (v := .ref y22) hx hb hts inX1 hown hK hP hLy19 hKy19 rfl rfl 0 (by decide) (hts _ pq216) (congrArg (fun q => some (va_rf q)) ey22) dX6_shifts_32 ?_
      refine lv_iload_n hx hb dX6_shifts_35 rfl (lv_at hl 3 rfl) ?_
      obtain ⟨y36, ey36, hLy36, hKy36, hGy36⟩ := (Sv_at hQ hLy22 hKy22).1 p2.toNatClampNeg (clamp_lt (n := 8) (in_of (by omega) (by omega)))
      have hjy36 : p2.toNatClampNeg < 8 := clamp_lt (i := p2) (n := 8) (in_of (by omega) (by omega))
      refine p_aaldR hx hb hK hP 3 hLy22 hKy22 rfl rfl (in_of (by omega) (by omega)) ey36 dX6_shifts_36 ?_
      refine lv_astore (lv' := [(4, .ref y36), (3, .ref y26), (0, .ref p0), (1, .int p1), (2, .int p2)]) hx hb dX6_shifts_37 hl (by decide) rfl (fun ls hl => ?_)
      refine lv_aload_n hx hb dX6_shifts_39 rfl (lv_at hl 1 rfl) ?_
      refine p_get hx hb hts inX3 hown hK hP hLy26 hKy26 rfl rfl 3 (by decide) (hts _ pq132) rfl dX6_shifts_40 ?_
      refine lv_topi (fun z40 ez40 => ?_)
      refine lv_if_eq (tgt := 54) hx hb dX6_shifts_43 (by decide) (fun c43 => ?_) (fun c43 => ?_)
      · have t43 := tq_eq (k := z40.toInt) (q := (0)) c43 rfl (by decide +kernel)
        refine lv_iconst (v := 0) hx hb dX6_shifts_54 (by decide +kernel) ?_
        subst hR; subst hQz
        exact W.iret (v := 0) hx hb hr (fun t ht hW => ⟨⟨0, (), rfl, (fun σ h => by have q1 := xpz2.1 t5; have q2 := xpz10.1 t13; rw [cx_0 h] at q1 q2; have ca := cxA_m (m := p1) h q1; have cb := cxA_m (m := p2) h q2; rw [show fm Q (an Q p0) p1.toInt.toNat = y26 from (by rw [show an Q p0 = y19 from gd_of ey19]; exact fm_of ey22 ey26)] at ca; rw [show fm Q (an Q p0) p2.toInt.toNat = y36 from (by rw [show an Q p0 = y19 from gd_of ey19]; exact fm_of ey22 ey36)] at cb; have ma := ca.1.2.2.2; have mb := cb.1.2.2.2; have HB : ∀ x y, shiP σ p1 p2 x y → ((I y36 4).toInt - (I y26 6).toInt ≤ x ∧ x ≤ (I y36 6).toInt - (I y26 4).toInt) ∧ ((I y36 5).toInt - (I y26 7).toInt ≤ y ∧ y ≤ (I y36 7).toInt - (I y26 5).toInt) := (fun x y o => by obtain ⟨u, v, p, q⟩ := o; have k := msr_pos mb p; have l := msr_pos ma q; omega); rw [shi_y ⟨q1, q2⟩, nSh_lo (fun x y o a b => by exfalso; obtain ⟨u, v, p, q⟩ := o; have k := msr_pos mb p; have l := msr_pos ma q; first | (have e := congrArg Int32.toInt (show z40 = I y26 3 from ez40); omega) | (have e := congrArg Int32.toInt (show z48 = I y36 3 from ez48); omega))]; show (0 : Int32).toInt = 0; decide +kernel), trivial⟩, hS.F ht⟩) hS.2.2 dX6_shifts_55
      · have t43 := tq_ne (k := z40.toInt) (q := (0)) c43 rfl (by decide +kernel)
        refine lv_aload hx hb dX6_shifts_46 (lv_at hl 0 rfl) ?_
        refine p_get hx hb hts inX3 hown hK hP hLy36 hKy36 rfl rfl 3 (by decide) (hts _ pq132) rfl dX6_shifts_48 ?_
        refine lv_topi (fun z48 ez48 => ?_)
        refine lv_if_ne (tgt := 56) hx hb dX6_shifts_51 (by decide) (fun c51 => ?_) (fun c51 => ?_)
        · have t51 := tq_ne (k := z48.toInt) (q := (0)) c51 rfl (by decide +kernel)
          refine lv_iconst (v := 0) hx hb dX6_shifts_56 (by decide +kernel) ?_
          refine lv_istore (lv' := [(5, .int 0), (4, .ref y36), (3, .ref y26), (0, .ref p0), (1, .int p1), (2, .int p2)]) hx hb dX6_shifts_57 hl (by decide) rfl (fun ls hl => ?_)
          refine lv_aload hx hb dX6_shifts_59 (lv_at hl 1 rfl) ?_
          refine p_get hx hb hts inX3 hown hK hP hLy36 hKy36 rfl rfl 5 (by decide) (hts _ pq138) rfl dX6_shifts_61 ?_
          refine lv_topi (fun z61 ez61 => ?_)
          have bz61 := oI_3_5 (Iv_at hI hLy36 hKy36)
          rw [← ez61] at bz61
          refine lv_aload_n hx hb dX6_shifts_64 rfl (lv_at hl 2 rfl) ?_
          refine p_get hx hb hts inX3 hown hK hP hLy26 hKy26 rfl rfl 7 (by decide) (hts _ pq144) rfl dX6_shifts_65 ?_
          refine lv_topi (fun z65 ez65 => ?_)
          have bz65 := oI_3_7 (Iv_at hI hLy26 hKy26)
          rw [← ez65] at bz65
          refine lv_isub hx hb dX6_shifts_68 ?_
          refine lv_topi (fun z68 ez68 => ?_)
          have bz68 := tq_sub (k := z61.toInt) (q := z65.toInt) ez68 rfl rfl (by omega) (by omega)
          refine lv_istore (lv' := [(6, .int z68), (5, .int 0), (4, .ref y36), (3, .ref y26), (0, .ref p0), (1, .int p1), (2, .int p2)]) hx hb dX6_shifts_69 hl (by decide) rfl (fun ls hl => ?_)
          have key71 := blocks (fun n => ∀ (v71_5 : Int32) (v71_6 : Int32) (H : Heap) (lo : List Loc) (ls : Array Slot), (42 - v71_6.toInt).toNat = n → ((-40) ≤ v71_6.toInt ∧ v71_6.toInt ≤ 41) → (∀ σ : Sx, cxA Q I J p0 σ → v71_5.toInt = nSh (shiP σ p1 p2) (ix_ v71_6.toInt (-150))) → va_P (dC, dI) vwCl (Wd cs L K I J Q) H → va_S (fun _ => False) s.heap H lo → lv_has ls 8 [(0, .ref p0), (1, .int p1), (2, .int p2), (3, .ref y26), (4, .ref y36), (5, .int v71_5), (6, .int v71_6)] → W p l e R s m (([.ref p0, .int p1, .int p2] : List Value).toArray) below meth c H lo 0 0 Qz (F0 m 71 ls [])) (by
            intro n ih71
            intro v71_5 v71_6 H lo ls hmu71 bv71_6 g71 hP hS hl
            refine lv_iload hx hb dX6_shifts_71 (lv_at hl 6 rfl) ?_
            refine lv_aload hx hb dX6_shifts_73 (lv_at hl 4 rfl) ?_
            refine p_get hx hb hts inX3 hown hK hP hLy36 hKy36 rfl rfl 7 (by decide) (hts _ pq144) rfl dX6_shifts_75 ?_
            refine lv_topi (fun z75 ez75 => ?_)
            have bz75 := oI_3_7 (Iv_at hI hLy36 hKy36)
            rw [← ez75] at bz75
            refine lv_aload_n hx hb dX6_shifts_78 rfl (lv_at hl 3 rfl) ?_
            refine p_get hx hb hts inX3 hown hK hP hLy26 hKy26 rfl rfl 5 (by decide) (hts _ pq138) rfl dX6_shifts_79 ?_
            refine lv_topi (fun z79 ez79 => ?_)
            have bz79 := oI_3_5 (Iv_at hI hLy26 hKy26)
            rw [← ez79] at bz79
            refine lv_isub hx hb dX6_shifts_82 ?_
            refine lv_topi (fun z82 ez82 => ?_)
            have bz82 := tq_sub (k := z75.toInt) (q := z79.toInt) ez82 rfl rfl (by omega) (by omega)
            refine lv_icmp_gt (tgt := 143) hx hb dX6_shifts_83 (by decide) (fun c83 => ?_) (fun c83 => ?_)
            · have t83 := tq_lt (k := z82.toInt) (q := v71_6.toInt) c83 rfl rfl
              refine lv_iload hx hb dX6_shifts_143 (lv_at hl 5 rfl) ?_
              subst hR; subst hQz
              exact W.iret (v := v71_5) hx hb hr (fun t ht hW => ⟨⟨v71_5, (), rfl, (fun σ h => by have q1 := xpz2.1 t5; have q2 := xpz10.1 t13; rw [cx_0 h] at q1 q2; have ca := cxA_m (m := p1) h q1; have cb := cxA_m (m := p2) h q2; rw [show fm Q (an Q p0) p1.toInt.toNat = y26 from (by rw [show an Q p0 = y19 from gd_of ey19]; exact fm_of ey22 ey26)] at ca; rw [show fm Q (an Q p0) p2.toInt.toNat = y36 from (by rw [show an Q p0 = y19 from gd_of ey19]; exact fm_of ey22 ey36)] at cb; have ma := ca.1.2.2.2; have mb := cb.1.2.2.2; have HB : ∀ x y, shiP σ p1 p2 x y → ((I y36 4).toInt - (I y26 6).toInt ≤ x ∧ x ≤ (I y36 6).toInt - (I y26 4).toInt) ∧ ((I y36 5).toInt - (I y26 7).toInt ≤ y ∧ y ≤ (I y36 7).toInt - (I y26 5).toInt) := (fun x y o => by obtain ⟨u, v, p, q⟩ := o; have k := msr_pos mb p; have l := msr_pos ma q; omega); have i75 := congrArg Int32.toInt (show z75 = I y36 7 from ez75); have i79 := congrArg Int32.toInt (show z79 = I y26 5 from ez79); rw [shi_y ⟨q1, q2⟩, g71 σ h]; exact (nSh_mv (by unfold ix_; omega) (fun x y o a b => by have := HB x y o; unfold ix_; omega)).symm), trivial⟩, hS.F ht⟩) hS.2.2 dX6_shifts_145
            · have t83 := tq_nlt (k := z82.toInt) (q := v71_6.toInt) c83 rfl rfl
              refine lv_aload hx hb dX6_shifts_86 (lv_at hl 4 rfl) ?_
              refine p_get hx hb hts inX3 hown hK hP hLy36 hKy36 rfl rfl 4 (by decide) (hts _ pq135) rfl dX6_shifts_88 ?_
              refine lv_topi (fun z88 ez88 => ?_)
              have bz88 := oI_3_4 (Iv_at hI hLy36 hKy36)
              rw [← ez88] at bz88
              refine lv_aload_n hx hb dX6_shifts_91 rfl (lv_at hl 3 rfl) ?_
              refine p_get hx hb hts inX3 hown hK hP hLy26 hKy26 rfl rfl 6 (by decide) (hts _ pq141) rfl dX6_shifts_92 ?_
              refine lv_topi (fun z92 ez92 => ?_)
              have bz92 := oI_3_6 (Iv_at hI hLy26 hKy26)
              rw [← ez92] at bz92
              refine lv_isub hx hb dX6_shifts_95 ?_
              refine lv_topi (fun z95 ez95 => ?_)
              have bz95 := tq_sub (k := z88.toInt) (q := z92.toInt) ez95 rfl rfl (by omega) (by omega)
              refine lv_istore (lv' := [(7, .int z95), (0, .ref p0), (1, .int p1), (2, .int p2), (3, .ref y26), (4, .ref y36), (5, .int v71_5), (6, .int v71_6)]) hx hb dX6_shifts_96 hl (by decide) rfl (fun ls hl => ?_)
              have key98 := blocks (fun n => ∀ (v98_5 : Int32) (v98_7 : Int32) (H : Heap) (lo : List Loc) (ls : Array Slot), (130 - v98_7.toInt).toNat = n → ((-128) ≤ v98_7.toInt ∧ v98_7.toInt ≤ 129) → (∀ σ : Sx, cxA Q I J p0 σ → v98_5.toInt = nSh (shiP σ p1 p2) (ix_ v71_6.toInt v98_7.toInt)) → va_P (dC, dI) vwCl (Wd cs L K I J Q) H → va_S (fun _ => False) s.heap H lo → lv_has ls 8 [(0, .ref p0), (1, .int p1), (2, .int p2), (3, .ref y26), (4, .ref y36), (5, .int v98_5), (6, .int v71_6), (7, .int v98_7)] → W p l e R s m (([.ref p0, .int p1, .int p2] : List Value).toArray) below meth c H lo 0 0 Qz (F0 m 98 ls [])) (by
                intro n ih98
                intro v98_5 v98_7 H lo ls hmu98 bv98_7 g98 hP hS hl
                refine lv_iload hx hb dX6_shifts_98 (lv_at hl 7 rfl) ?_
                refine lv_aload hx hb dX6_shifts_100 (lv_at hl 4 rfl) ?_
                refine p_get hx hb hts inX3 hown hK hP hLy36 hKy36 rfl rfl 6 (by decide) (hts _ pq141) rfl dX6_shifts_102 ?_
                refine lv_topi (fun z102 ez102 => ?_)
                have bz102 := oI_3_6 (Iv_at hI hLy36 hKy36)
                rw [← ez102] at bz102
                refine lv_aload_n hx hb dX6_shifts_105 rfl (lv_at hl 3 rfl) ?_
                refine p_get hx hb hts inX3 hown hK hP hLy26 hKy26 rfl rfl 4 (by decide) (hts _ pq135) rfl dX6_shifts_106 ?_
                refine lv_topi (fun z106 ez106 => ?_)
                have bz106 := oI_3_4 (Iv_at hI hLy26 hKy26)
                rw [← ez106] at bz106
                refine lv_isub hx hb dX6_shifts_109 ?_
                refine lv_topi (fun z109 ez109 => ?_)
                have bz109 := tq_sub (k := z102.toInt) (q := z106.toInt) ez109 rfl rfl (by omega) (by omega)
                refine lv_icmp_gt (tgt := 137) hx hb dX6_shifts_110 (by decide) (fun c110 => ?_) (fun c110 => ?_)
                · have t110 := tq_lt (k := z109.toInt) (q := v98_7.toInt) c110 rfl rfl
                  obtain ⟨z137, ez137⟩ : ∃ y : Int32, y = v71_6 + 1 := ⟨_, rfl⟩
                  refine lv_iinc (v := z137) (lv' := [(6, .int z137), (0, .ref p0), (1, .int p1), (2, .int p2), (3, .ref y26), (4, .ref y36), (5, .int v98_5), (7, .int v98_7)]) hx hb dX6_shifts_137 hl (k := 6) rfl (by rw [ez137]; rfl) (by decide) rfl (fun ls hl => ?_)
                  have bz137 := tq_add (k := v71_6.toInt) (q := 1) ez137 rfl (by decide +kernel) (by omega) (by omega)
                  refine lv_goto (tgt := 71) hx hb dX6_shifts_140 (by decide) ?_
                  exact ih71 _ (by omega) v98_5 z137 _ _ _ rfl ⟨by omega, by omega⟩ (fun σ h => by have q1 := xpz2.1 t5; have q2 := xpz10.1 t13; rw [cx_0 h] at q1 q2; have ca := cxA_m (m := p1) h q1; have cb := cxA_m (m := p2) h q2; rw [show fm Q (an Q p0) p1.toInt.toNat = y26 from (by rw [show an Q p0 = y19 from gd_of ey19]; exact fm_of ey22 ey26)] at ca; rw [show fm Q (an Q p0) p2.toInt.toNat = y36 from (by rw [show an Q p0 = y19 from gd_of ey19]; exact fm_of ey22 ey36)] at cb; have ma := ca.1.2.2.2; have mb := cb.1.2.2.2; have HB : ∀ x y, shiP σ p1 p2 x y → ((I y36 4).toInt - (I y26 6).toInt ≤ x ∧ x ≤ (I y36 6).toInt - (I y26 4).toInt) ∧ ((I y36 5).toInt - (I y26 7).toInt ≤ y ∧ y ≤ (I y36 7).toInt - (I y26 5).toInt) := (fun x y o => by obtain ⟨u, v, p, q⟩ := o; have k := msr_pos mb p; have l := msr_pos ma q; omega); have i102 := congrArg Int32.toInt (show z102 = I y36 6 from ez102); have i106 := congrArg Int32.toInt (show z106 = I y26 4 from ez106); rw [g98 σ h]; exact (nSh_mv (by unfold ix_; omega) (fun x y o a b => by have := HB x y o; unfold ix_; omega)).symm) hP hS (lv_sub hl [1, 2, 3, 4, 5, 6, 0] rfl)
                · have t110 := tq_nlt (k := z109.toInt) (q := v98_7.toInt) c110 rfl rfl
                  refine lv_aload_n hx hb dX6_shifts_113 rfl (lv_at hl 3 rfl) ?_
                  refine lv_aload hx hb dX6_shifts_114 (lv_at hl 4 rfl) ?_
                  refine lv_iload hx hb dX6_shifts_116 (lv_at hl 7 rfl) ?_
                  refine lv_ineg hx hb dX6_shifts_118 ?_
                  refine lv_topi (fun z118 ez118 => ?_)
                  have bz118 := tq_neg (k := v98_7.toInt) ez118 rfl (by omega) (by omega)
                  refine lv_iload hx hb dX6_shifts_119 (lv_at hl 6 rfl) ?_
                  refine lv_ineg hx hb dX6_shifts_121 ?_
                  refine lv_topi (fun z121 ez121 => ?_)
                  have bz121 := tq_neg (k := v71_6.toInt) ez121 rfl (by omega) (by omega)
                  refine ro_i (va_runS (As := [.ref y26, .ref y36, .int z118, .int z121]) (rest := []) ⟨hx, hb, hml, hown, hts⟩ (s_X3_shareAny l dC dI cs L K G Q hQ x0 m0 tx tm H.size I J hI y26 hLy26 hKy26 y36 hLy36 hKy36 z118 z121) (va_cwS 4 hts (gS pq898 pq771 pq76 pq772) rfl rfl rfl (by decide +kernel) ⟨(by rw [hR]; exact (Nat.le_of_ble_eq_true rfl)), (by rw [hR]; exact (Nat.le_of_ble_eq_true rfl))⟩) (sP_S hP hD hK hN) rfl rfl hl.1 rfl (lv_room (Nat.le_of_ble_eq_true rfl)) dX6_shifts_122 ⟨(by rw [hR]; exact (Nat.le_of_ble_eq_true rfl)), (by rw [hR]; exact (Nat.le_of_ble_eq_true rfl))⟩) hS hP (fun z122 H locs hz122 hP hS => ?_)
                  obtain ⟨bz122, xpz122⟩ := hz122
                  have j131 : ∀ (v131_5 : Int32) (H : Heap) (lo : List Loc) (ls : Array Slot), (∀ σ : Sx, cxA Q I J p0 σ → v131_5.toInt = nSh (shiP σ p1 p2) (ix_ v71_6.toInt (v98_7.toInt + 1))) → va_P (dC, dI) vwCl (Wd cs L K I J Q) H → va_S (fun _ => False) s.heap H lo → lv_has ls 8 [(0, .ref p0), (1, .int p1), (2, .int p2), (3, .ref y26), (4, .ref y36), (5, .int v131_5), (6, .int v71_6), (7, .int v98_7)] → W p l e R s m (([.ref p0, .int p1, .int p2] : List Value).toArray) below meth c H lo 0 0 Qz (F0 m 131 ls []) := by
                    intro v131_5 H lo ls g131 hP hS hl
                    obtain ⟨z131, ez131⟩ : ∃ y : Int32, y = v98_7 + 1 := ⟨_, rfl⟩
                    refine lv_iinc (v := z131) (lv' := [(7, .int z131), (0, .ref p0), (1, .int p1), (2, .int p2), (3, .ref y26), (4, .ref y36), (5, .int v131_5), (6, .int v71_6)]) hx hb dX6_shifts_131 hl (k := 7) rfl (by rw [ez131]; rfl) (by decide) rfl (fun ls hl => ?_)
                    have bz131 := tq_add (k := v98_7.toInt) (q := 1) ez131 rfl (by decide +kernel) (by omega) (by omega)
                    refine lv_goto (tgt := 98) hx hb dX6_shifts_134 (by decide) ?_
                    exact ih98 _ (by omega) v131_5 z131 _ _ _ rfl ⟨by omega, by omega⟩ (fun σ h => by have q1 := xpz2.1 t5; have q2 := xpz10.1 t13; rw [cx_0 h] at q1 q2; have ca := cxA_m (m := p1) h q1; have cb := cxA_m (m := p2) h q2; rw [show fm Q (an Q p0) p1.toInt.toNat = y26 from (by rw [show an Q p0 = y19 from gd_of ey19]; exact fm_of ey22 ey26)] at ca; rw [show fm Q (an Q p0) p2.toInt.toNat = y36 from (by rw [show an Q p0 = y19 from gd_of ey19]; exact fm_of ey22 ey36)] at cb; have ma := ca.1.2.2.2; have mb := cb.1.2.2.2; have HB : ∀ x y, shiP σ p1 p2 x y → ((I y36 4).toInt - (I y26 6).toInt ≤ x ∧ x ≤ (I y36 6).toInt - (I y26 4).toInt) ∧ ((I y36 5).toInt - (I y26 7).toInt ≤ y ∧ y ≤ (I y36 7).toInt - (I y26 5).toInt) := (fun x y o => by obtain ⟨u, v, p, q⟩ := o; have k := msr_pos mb p; have l := msr_pos ma q; omega); rw [show z131.toInt = v98_7.toInt + 1 by omega]; exact g131 σ h) hP hS (lv_sub hl [1, 2, 3, 4, 5, 6, 7, 0] rfl)
                  refine lv_if_eq (tgt := 131) hx hb dX6_shifts_125 (by decide) (fun c125 => ?_) (fun c125 => ?_)
                  · have t125 := tq_eq (k := z122.toInt) (q := (0)) c125 rfl (by decide +kernel)
                    exact j131 v98_5 _ _ _ (fun σ h => by have q1 := xpz2.1 t5; have q2 := xpz10.1 t13; rw [cx_0 h] at q1 q2; have ca := cxA_m (m := p1) h q1; have cb := cxA_m (m := p2) h q2; rw [show fm Q (an Q p0) p1.toInt.toNat = y26 from (by rw [show an Q p0 = y19 from gd_of ey19]; exact fm_of ey22 ey26)] at ca; rw [show fm Q (an Q p0) p2.toInt.toNat = y36 from (by rw [show an Q p0 = y19 from gd_of ey19]; exact fm_of ey22 ey36)] at cb; have ma := ca.1.2.2.2; have mb := cb.1.2.2.2; have HB : ∀ x y, shiP σ p1 p2 x y → ((I y36 4).toInt - (I y26 6).toInt ≤ x ∧ x ≤ (I y36 6).toInt - (I y26 4).toInt) ∧ ((I y36 5).toInt - (I y26 7).toInt ≤ y ∧ y ≤ (I y36 7).toInt - (I y26 5).toInt) := (fun x y o => by obtain ⟨u, v, p, q⟩ := o; have k := msr_pos mb p; have l := msr_pos ma q; omega); have w := (xpz122 ⟨⟨by omega, by omega⟩, by omega, by omega⟩ (cxM_ok ca.1 ca.2) (cxM_ok cb.1 cb.2)).trans (ovl_congr ca.1.2.2.1 cb.1.2.2.1); rw [bz118, bz121] at w; have w2 : ¬ z122.toInt = 0 ↔ shiP σ p1 p2 v98_7.toInt v71_6.toInt := w.trans ovl_swap.symm; rw [g98 σ h]; exact (nSh_no (by omega) (by omega) rfl (fun p => (w2.mpr p) t125)).symm) hP hS (lv_sub hl [0, 1, 2, 3, 4, 5, 6, 7] rfl)
                  · have t125 := tq_ne (k := z122.toInt) (q := (0)) c125 rfl (by decide +kernel)
                    obtain ⟨z128, ez128⟩ : ∃ y : Int32, y = v98_5 + 1 := ⟨_, rfl⟩
                    refine lv_iinc (v := z128) (lv' := [(5, .int z128), (0, .ref p0), (1, .int p1), (2, .int p2), (3, .ref y26), (4, .ref y36), (6, .int v71_6), (7, .int v98_7)]) hx hb dX6_shifts_128 hl (k := 5) rfl (by rw [ez128]; rfl) (by decide) rfl (fun ls hl => ?_)
                    exact j131 z128 _ _ _ (fun σ h => by have q1 := xpz2.1 t5; have q2 := xpz10.1 t13; rw [cx_0 h] at q1 q2; have ca := cxA_m (m := p1) h q1; have cb := cxA_m (m := p2) h q2; rw [show fm Q (an Q p0) p1.toInt.toNat = y26 from (by rw [show an Q p0 = y19 from gd_of ey19]; exact fm_of ey22 ey26)] at ca; rw [show fm Q (an Q p0) p2.toInt.toNat = y36 from (by rw [show an Q p0 = y19 from gd_of ey19]; exact fm_of ey22 ey36)] at cb; have ma := ca.1.2.2.2; have mb := cb.1.2.2.2; have HB : ∀ x y, shiP σ p1 p2 x y → ((I y36 4).toInt - (I y26 6).toInt ≤ x ∧ x ≤ (I y36 6).toInt - (I y26 4).toInt) ∧ ((I y36 5).toInt - (I y26 7).toInt ≤ y ∧ y ≤ (I y36 7).toInt - (I y26 5).toInt) := (fun x y o => by obtain ⟨u, v, p, q⟩ := o; have k := msr_pos mb p; have l := msr_pos ma q; omega); have w := (xpz122 ⟨⟨by omega, by omega⟩, by omega, by omega⟩ (cxM_ok ca.1 ca.2) (cxM_ok cb.1 cb.2)).trans (ovl_congr ca.1.2.2.1 cb.1.2.2.1); rw [bz118, bz121] at w; have w2 : ¬ z122.toInt = 0 ↔ shiP σ p1 p2 v98_7.toInt v71_6.toInt := w.trans ovl_swap.symm; have b := nSh_b (shiP σ p1 p2) (ix_ v71_6.toInt v98_7.toInt); have g := g98 σ h; have a := tq_add (k := v98_5.toInt) (q := 1) ez128 rfl (by decide +kernel) (by omega) (by rw [g]; unfold ix_ at b ⊢; omega); rw [a, g]; exact (nSh_yes (by omega) (by omega) rfl (w2.mp t125)).symm) hP hS (lv_sub hl [1, 2, 3, 4, 5, 0, 6, 7] rfl))
              exact key98 _ v71_5 z95 _ _ _ rfl ⟨by omega, by omega⟩ (fun σ h => by have q1 := xpz2.1 t5; have q2 := xpz10.1 t13; rw [cx_0 h] at q1 q2; have ca := cxA_m (m := p1) h q1; have cb := cxA_m (m := p2) h q2; rw [show fm Q (an Q p0) p1.toInt.toNat = y26 from (by rw [show an Q p0 = y19 from gd_of ey19]; exact fm_of ey22 ey26)] at ca; rw [show fm Q (an Q p0) p2.toInt.toNat = y36 from (by rw [show an Q p0 = y19 from gd_of ey19]; exact fm_of ey22 ey36)] at cb; have ma := ca.1.2.2.2; have mb := cb.1.2.2.2; have HB : ∀ x y, shiP σ p1 p2 x y → ((I y36 4).toInt - (I y26 6).toInt ≤ x ∧ x ≤ (I y36 6).toInt - (I y26 4).toInt) ∧ ((I y36 5).toInt - (I y26 7).toInt ≤ y ∧ y ≤ (I y36 7).toInt - (I y26 5).toInt) := (fun x y o => by obtain ⟨u, v, p, q⟩ := o; have k := msr_pos mb p; have l := msr_pos ma q; omega); have i88 := congrArg Int32.toInt (show z88 = I y36 4 from ez88); have i92 := congrArg Int32.toInt (show z92 = I y26 6 from ez92); rw [g71 σ h]; exact (nSh_mv (by unfold ix_; omega) (fun x y o a b => by have := HB x y o; unfold ix_; omega)).symm) hP hS (lv_sub hl [1, 2, 3, 4, 5, 6, 7, 0] rfl))
          exact key71 _ 0 z68 _ _ _ rfl ⟨by omega, by omega⟩ (fun σ h => by have q1 := xpz2.1 t5; have q2 := xpz10.1 t13; rw [cx_0 h] at q1 q2; have ca := cxA_m (m := p1) h q1; have cb := cxA_m (m := p2) h q2; rw [show fm Q (an Q p0) p1.toInt.toNat = y26 from (by rw [show an Q p0 = y19 from gd_of ey19]; exact fm_of ey22 ey26)] at ca; rw [show fm Q (an Q p0) p2.toInt.toNat = y36 from (by rw [show an Q p0 = y19 from gd_of ey19]; exact fm_of ey22 ey36)] at cb; have ma := ca.1.2.2.2; have mb := cb.1.2.2.2; have HB : ∀ x y, shiP σ p1 p2 x y → ((I y36 4).toInt - (I y26 6).toInt ≤ x ∧ x ≤ (I y36 6).toInt - (I y26 4).toInt) ∧ ((I y36 5).toInt - (I y26 7).toInt ≤ y ∧ y ≤ (I y36 7).toInt - (I y26 5).toInt) := (fun x y o => by obtain ⟨u, v, p, q⟩ := o; have k := msr_pos mb p; have l := msr_pos ma q; omega); have i61 := congrArg Int32.toInt (show z61 = I y36 5 from ez61); have i65 := congrArg Int32.toInt (show z65 = I y26 7 from ez65); rw [nSh_lo (fun x y o a b => by have := HB x y o; unfold ix_; omega)]; show (0 : Int32).toInt = 0; decide +kernel) hP hS (lv_sub hl [4, 5, 6, 3, 2, 1, 0] rfl)
        · have t51 := tq_eq (k := z48.toInt) (q := (0)) c51 rfl (by decide +kernel)
          refine lv_iconst (v := 0) hx hb dX6_shifts_54 (by decide +kernel) ?_
          subst hR; subst hQz
          exact W.iret (v := 0) hx hb hr (fun t ht hW => ⟨⟨0, (), rfl, (fun σ h => by have q1 := xpz2.1 t5; have q2 := xpz10.1 t13; rw [cx_0 h] at q1 q2; have ca := cxA_m (m := p1) h q1; have cb := cxA_m (m := p2) h q2; rw [show fm Q (an Q p0) p1.toInt.toNat = y26 from (by rw [show an Q p0 = y19 from gd_of ey19]; exact fm_of ey22 ey26)] at ca; rw [show fm Q (an Q p0) p2.toInt.toNat = y36 from (by rw [show an Q p0 = y19 from gd_of ey19]; exact fm_of ey22 ey36)] at cb; have ma := ca.1.2.2.2; have mb := cb.1.2.2.2; have HB : ∀ x y, shiP σ p1 p2 x y → ((I y36 4).toInt - (I y26 6).toInt ≤ x ∧ x ≤ (I y36 6).toInt - (I y26 4).toInt) ∧ ((I y36 5).toInt - (I y26 7).toInt ≤ y ∧ y ≤ (I y36 7).toInt - (I y26 5).toInt) := (fun x y o => by obtain ⟨u, v, p, q⟩ := o; have k := msr_pos mb p; have l := msr_pos ma q; omega); rw [shi_y ⟨q1, q2⟩, nSh_lo (fun x y o a b => by exfalso; obtain ⟨u, v, p, q⟩ := o; have k := msr_pos mb p; have l := msr_pos ma q; first | (have e := congrArg Int32.toInt (show z40 = I y26 3 from ez40); omega) | (have e := congrArg Int32.toInt (show z48 = I y36 3 from ez48); omega))]; show (0 : Int32).toInt = 0; decide +kernel), trivial⟩, hS.F ht⟩) hS.2.2 dX6_shifts_55
    · have t13 := tq_eq (k := z10.toInt) (q := (0)) c13 rfl (by decide +kernel)
      refine lv_iconst (v := (-1)) hx hb dX6_shifts_16 (by decide +kernel) ?_
      subst hR; subst hQz
      exact W.iret (v := (-1)) hx hb hr (fun t ht hW => ⟨⟨(-1), (), rfl, (fun σ h => by rw [shi_n (fun w => by first | exact xpz2.2 t5 (by rw [cx_0 h]; exact w.1) | exact xpz10.2 t13 (by rw [cx_0 h]; exact w.2))]; decide +kernel), trivial⟩, hS.F ht⟩) hS.2.2 dX6_shifts_17

set_option maxHeartbeats 4000000 in
set_option maxRecDepth 100000 in
theorem s_X6_like (l : Launch) (dC : Nat → ClassId) (dI : Nat → Nat → Nat) (cs : Nat → ClassId) (L : List Nat) (K G : Nat → Nat) (Q : Nat → Nat → Option Nat) (hQ : Sv L K G Q) (x0 m0 : Nat) (tx : GT) (tm : GT × Int) (sz : Nat) (I : Nat → Nat → Int32) (J : Nat → Nat → Int64) (hI : Iv L K x0 m0 tx tm I) (p0 : Nat) (hLp0 : p0 ∈ L) (hKp0 : K p0 = 6) (p1 : Int32) : Met l yX6_like (.code yX6_like cX6_like 4 (some .int) :: pw) ({ frames := 4, cells := 0, slots := 0, locals := 109 }) (sP (dC, dI) cs [.ref p0, .int p1] sz L K I J Q) (va_Qi (fun (r : Int32) (_ : Unit) => (∀ σ : Sx, cxA Q I J p0 σ → lkR σ p1 r)) (fun _ t => sB (dC, dI) cs L K Q (fun I1 J1 => Iv L K x0 m0 tx tm I1 ∧ (∀ b, ¬ (K b = 2 ∨ K b = 5 ∨ K b = 11 ∨ (K b = 3 ∧ G b / 100 = 4)) → I1 b = I b) ∧ (∀ b, K b = 7 ∨ K b = 18 ∨ K b = 19 ∨ K b = 20 ∨ K b = 24 → I1 b = I b) ∧ (∀ σ : Sx, cxA Q I J p0 σ → cxA Q I1 J1 p0 σ) ∧ (∀ b, ¬ (K b = 12 ∧ (G b = 400)) → J1 b = J b)) t) (fun q => q ∈ L ∨ sz ≤ q)) 0 0 (fun q => q ∈ L ∨ sz ≤ q) := by
  refine Met.ofW (cc := cX6_like) (maxL := 4) (ret := (some .int)) (by decide +kernel) rfl ?_
  intro p e s m args below meth c s₁ B hml hv
  obtain ⟨rfl, hsz, hP, hK, hD0, hN⟩ := hv
  have hx := B.exec
  have hb := B.bytes
  have hr := B.returns
  have hts := fun w (h : w ∈ pw) => atoms_spec (ws := Cond.code yX6_like cX6_like 4 (some .int) :: pw) B.pre w (List.mem_cons_of_mem _ h)
  have hown : s.vm.findClass RX6 = some m.cls := findClass_of_methodNamed B.named
  have hlocks := B.notSynchronized
  subst hsz
  have hBB : 999 ≤ tm.2 ∧ tm.2 ≤ 6000000 := hI.2.2.2.2.1
  have dn_I : (∀ b, K b = 7 ∨ K b = 18 ∨ K b = 19 ∨ K b = 20 ∨ K b = 24 → I b = I b) := fun _ _ => rfl
  have dj_J : (∀ b, ¬ (K b = 12 ∧ (G b = 400)) → J b = J b) := fun _ _ => rfl
  have fr_I : ∀ b, ¬ (K b = 2 ∨ K b = 5 ∨ K b = 11 ∨ (K b = 3 ∧ G b / 100 = 4)) → I b = I b := fun _ _ => rfl
  obtain ⟨A, hAe⟩ : ∃ A : Nat → Prop, A = (fun q => q ∈ L ∨ s.heap.size ≤ q) := ⟨_, rfl⟩
  rw [← hAe]
  have hAL : ∀ q, q ∈ L → A q := fun q h => by rw [hAe]; exact Or.inl h
  have hA : ∀ q, s.heap.size ≤ q → A q := fun q h => by rw [hAe]; exact Or.inr h
  have hD : ∀ F, va_D A (va_pl L F) := fun F => (hD0 F).weaken (fun k q hk _ => hAL _ (pl_mem hk))
  obtain ⟨H, hHe⟩ : ∃ H : Heap, H = s.heap := ⟨_, rfl⟩
  have hS : va_S A s.heap H [] := by rw [hHe]; exact va_S.rf
  rw [← hHe] at hP
  have hl := lv_entry ([.ref p0, .int p1]) (n := 4) (Nat.le_of_ble_eq_true rfl)
  rw [lg_entry_eq]
  generalize (lg_sl ([.ref p0, .int p1]) ++ List.replicate (4 - (lg_sl ([.ref p0, .int p1])).length) Slot.unset).toArray = ls at hl ⊢
  have hl : lv_has ls 4 [(0, .ref p0), (1, .int p1)] := hl
  rw [← hHe]
  refine namedW (fun R Qz hR hQz => ?_)
  refine lv_aload_n hx hb dX6_like_0 rfl (lv_at hl 0 rfl) ?_
  refine lv_iload_n hx hb dX6_like_1 rfl (lv_at hl 1 rfl) ?_
  refine ro_i (va_runV (As := [.int p1]) (rest := []) ⟨hx, hb, hml, hown, hts⟩ (s_X6_isMask l dC dI cs L K G Q hQ x0 m0 tx tm H.size I J hI p0 hLp0 hKp0 p1) (cwV 1 hts (gV pq666 pq668 pq4 pq74 pq669) rfl rfl rfl (by decide +kernel) ⟨(by rw [hR]; exact (Nat.le_of_ble_eq_true rfl)), (by rw [hR]; exact (Nat.le_of_ble_eq_true rfl))⟩) (sP_V hP hD hK hN hLp0 hKp0 rfl rfl) rfl rfl hl.1 rfl (lv_room (Nat.le_of_ble_eq_true rfl)) dX6_like_2 ⟨(by rw [hR]; exact (Nat.le_of_ble_eq_true rfl)), (by rw [hR]; exact (Nat.le_of_ble_eq_true rfl))⟩) hS hP (fun z2 H locs hz2 hP hS => ?_)
  obtain ⟨bz2, imz2, xpz2⟩ := hz2
  refine lv_if_ne (tgt := 10) hx hb dX6_like_5 (by decide) (fun c5 => ?_) (fun c5 => ?_)
  · have t5 := tq_ne (k := z2.toInt) (q := (0)) c5 rfl (by decide +kernel)
    have i5 := imz2 t5
    refine lv_iconst (v := 0) hx hb dX6_like_10 (by decide +kernel) ?_
    refine lv_istore_n (lv' := [(2, .int 0), (0, .ref p0), (1, .int p1)]) hx hb dX6_like_11 rfl hl (by decide) rfl (fun ls hl => ?_)
    refine lv_iconst (v := 0) hx hb dX6_like_12 (by decide +kernel) ?_
    refine lv_istore_n (lv' := [(3, .int 0), (2, .int 0), (0, .ref p0), (1, .int p1)]) hx hb dX6_like_13 rfl hl (by decide) rfl (fun ls hl => ?_)
    have key14 := blocks (fun n => ∀ (v14_2 : Int32) (v14_3 : Int32) (I14 : Nat → Nat → Int32) (J14 : Nat → Nat → Int64) (H : Heap) (lo : List Loc) (ls : Array Slot), (5 - v14_3.toInt).toNat = n → ((0) ≤ v14_3.toInt ∧ v14_3.toInt ≤ 4) → Iv L K x0 m0 tx tm I14 → (∀ b, ¬ (K b = 2 ∨ K b = 5 ∨ K b = 11 ∨ (K b = 3 ∧ G b / 100 = 4)) → I14 b = I b) → (∀ b, K b = 7 ∨ K b = 18 ∨ K b = 19 ∨ K b = 20 ∨ K b = 24 → I14 b = I b) → (∀ b, ¬ (K b = 12 ∧ (G b = 400)) → J14 b = J b) → (∀ σ : Sx, cxA Q I J p0 σ → ∀ o : Nat, hbt v14_2 o = true ↔ o < v14_3.toInt.toNat ∧ alM σ.1 p1.toInt.toNat p1.toInt.toNat (o : Int)) → va_P (dC, dI) vwCl (Wd cs L K I14 J14 Q) H → va_S A s.heap H lo → lv_has ls 4 [(0, .ref p0), (1, .int p1), (2, .int v14_2), (3, .int v14_3)] → W p l e R s m (([.ref p0, .int p1] : List Value).toArray) below meth c H lo 0 0 Qz (F0 m 14 ls [])) (by
      intro n ih14
      intro v14_2 v14_3 I14 J14 H lo ls hmu14 bv14_3 hI14 fr_I14 dn_I14 dj_J14 g14 hP hS hl
      refine lv_iload_n hx hb dX6_like_14 rfl (lv_at hl 3 rfl) ?_
      refine lv_iconst (v := 3) hx hb dX6_like_15 (by decide +kernel) ?_
      refine lv_icmp_gt (tgt := 67) hx hb dX6_like_16 (by decide) (fun c16 => ?_) (fun c16 => ?_)
      · have t16 := tq_lt (k := (3)) (q := v14_3.toInt) c16 (by decide +kernel) rfl
        refine lv_iload_n hx hb dX6_like_67 rfl (lv_at hl 2 rfl) ?_
        subst hR; subst hQz
        exact W.iret (v := v14_2) hx hb hr (fun t ht hW => ⟨⟨v14_2, (), rfl, (fun σ h => by have q := xpz2.1 t5; rw [cx_0 h] at q; exact ⟨fun _ o => (by have e : v14_3.toInt.toNat = 4 := (by omega); have g := g14 σ h o; rw [e] at g; exact g), fun w => absurd q w⟩), ⟨I14, J14, ⟨hI14, fr_I14, dn_I14, (fun σ A => cxA_scr hQ hLp0 hKp0 fr_I14 (fun b h1 h2 => dj_J14 b (fun z => h2 (by omega))) A), dj_J14⟩, by rw [ht]; exact hP⟩⟩, hS.F ht⟩) hS.2.2 dX6_like_68
      · have t16 := tq_nlt (k := (3)) (q := v14_3.toInt) c16 (by decide +kernel) rfl
        refine lv_aload_n hx hb dX6_like_19 rfl (lv_at hl 0 rfl) ?_
        obtain ⟨y20, ey20, hLy20, hKy20, hGy20⟩ := oQ_6_6 (Sv_at hQ hLp0 hKp0)
        refine p_get (v := .ref y20) hx hb hts inX6 hown hK hP hLp0 hKp0 rfl rfl 6 (by decide) (hts _ pq355) (congrArg (fun q => some (va_rf q)) ey20) dX6_like_20 ?_
        refine lv_aload_n hx hb dX6_like_23 rfl (lv_at hl 0 rfl) ?_
        obtain ⟨y24, ey24, hLy24, hKy24, hGy24⟩ := oQ_6_2 (Sv_at hQ hLp0 hKp0)
        refine p_get (v := .ref y24) hx hb hts inX6 hown hK hP hLp0 hKp0 rfl rfl 2 (by decide) (hts _ pq351) (congrArg (fun q => some (va_rf q)) ey24) dX6_like_24 ?_
        obtain ⟨y27, ey27, hLy27, hKy27, hGy27⟩ := oQ_1_0 (Sv_at hQ hLy24 hKy24)
        refine p_get (v := .ref y27) hx hb hts inX1 hown hK hP hLy24 hKy24 rfl rfl 0 (by decide) (hts _ pq216) (congrArg (fun q => some (va_rf q)) ey27) dX6_like_27 ?_
        refine lv_iload_n hx hb dX6_like_30 rfl (lv_at hl 1 rfl) ?_
        obtain ⟨y31, ey31, hLy31, hKy31, hGy31⟩ := (Sv_at hQ hLy27 hKy27).1 p1.toNatClampNeg (clamp_lt (n := 8) (in_of (by omega) (by omega)))
        have hjy31 : p1.toNatClampNeg < 8 := clamp_lt (i := p1) (n := 8) (in_of (by omega) (by omega))
        refine p_aaldR hx hb hK hP 3 hLy27 hKy27 rfl rfl (in_of (by omega) (by omega)) ey31 dX6_like_31 ?_
        refine lv_iload_n hx hb dX6_like_32 rfl (lv_at hl 3 rfl) ?_
        refine sw_v (Z := (fun I1 J1 => Iv L K x0 m0 tx tm I1 ∧ (∀ b, ¬ (b = y20) → I1 b = I14 b) ∧ (okm (I14 y31 0).toInt (I14 y31 1).toInt (J14 (wo Q y31)) → msr (J14 (wo Q y31)) (I14 y31 3).toInt (I14 y31 4).toInt (I14 y31 5).toInt (I14 y31 6).toInt (I14 y31 7).toInt → mkd Q I1 J1 y20 (I14 y31 0) (I14 y31 1) (flipD (I14 y31 0).toInt (I14 y31 1).toInt v14_3.toInt (J14 (wo Q y31)))) ∧ (∀ b, ¬ (K b = 12 ∧ (G b = G y20)) → J1 b = J14 b))) (va_runV (As := [.ref y31, .int v14_3]) (rest := []) ⟨hx, hb, hml, hown, hts⟩ (s_X3_becomeFlipped l dC dI cs L K G Q hQ x0 m0 tx tm H.size I14 J14 hI14 y20 hLy20 hKy20 y31 hLy31 hKy31 v14_3 ⟨by omega, by omega⟩ (by omega)) (cwV 2 hts (gV pq903 pq609 pq610 pq76 pq611) rfl rfl rfl (by decide +kernel) ⟨(by rw [hR]; exact (Nat.le_of_ble_eq_true rfl)), (by rw [hR]; exact (Nat.le_of_ble_eq_true rfl))⟩) (sP_V hP hD hK hN hLy20 hKy20 rfl rfl) rfl rfl hl.1 rfl (lv_room (Nat.le_of_ble_eq_true rfl)) dX6_like_33 ⟨(by rw [hR]; exact (Nat.le_of_ble_eq_true rfl)), (by rw [hR]; exact (Nat.le_of_ble_eq_true rfl))⟩) hS hAL hA (fun Iz33 Jz33 H locs hz33 hIz33 hP hS => ?_)
        obtain ⟨hIz33, frc33, jz33, djc33⟩ := hIz33
        have dj_Jz33 : (∀ b, ¬ (K b = 12 ∧ (G b = 400)) → Jz33 b = J b) := fun b hc => (djc33 b (fun z => hc (by exact ⟨z.1, by have z2 := z.2; omega⟩))).trans (dj_J14 b hc)
        have dn_Iz33 : (∀ b, K b = 7 ∨ K b = 18 ∨ K b = 19 ∨ K b = 20 ∨ K b = 24 → Iz33 b = I b) := fun b hc => (frc33 b (fun z => by have q := hKy20; rw [← z] at q; omega)).trans (dn_I14 b hc)
        have fr_Iz33 : ∀ b, ¬ (K b = 2 ∨ K b = 5 ∨ K b = 11 ∨ (K b = 3 ∧ G b / 100 = 4)) → Iz33 b = I b := fun b q => (frc33 b (fun z => q (by rw [z]; have := hKy20; omega))).trans (fr_I14 b q)
        refine lv_aload_n hx hb dX6_like_36 rfl (lv_at hl 0 rfl) ?_
        refine p_get (v := .ref y20) hx hb hts inX6 hown hK hP hLp0 hKp0 rfl rfl 6 (by decide) (hts _ pq355) (congrArg (fun q => some (va_rf q)) ey20) dX6_like_37 ?_
        refine lv_aload_n hx hb dX6_like_40 rfl (lv_at hl 0 rfl) ?_
        refine p_get (v := .ref y24) hx hb hts inX6 hown hK hP hLp0 hKp0 rfl rfl 2 (by decide) (hts _ pq351) (congrArg (fun q => some (va_rf q)) ey24) dX6_like_41 ?_
        refine p_get (v := .ref y27) hx hb hts inX1 hown hK hP hLy24 hKy24 rfl rfl 0 (by decide) (hts _ pq216) (congrArg (fun q => some (va_rf q)) ey27) dX6_like_44 ?_
        refine lv_iload_n hx hb dX6_like_47 rfl (lv_at hl 1 rfl) ?_
        refine p_aaldR hx hb hK hP 3 hLy27 hKy27 rfl rfl (in_of (by omega) (by omega)) ey31 dX6_like_48 ?_
        refine ro_i (va_runV (As := [.ref y31]) (rest := []) ⟨hx, hb, hml, hown, hts⟩ (s_X3_isSameAs l dC dI cs L K G Q hQ x0 m0 tx tm H.size Iz33 Jz33 hIz33 y20 hLy20 hKy20 y31 hLy31 hKy31) (cwV 1 hts (gV pq904 pq905 pq906 pq76 pq907) rfl rfl rfl (by decide +kernel) ⟨(by rw [hR]; exact (Nat.le_of_ble_eq_true rfl)), (by rw [hR]; exact (Nat.le_of_ble_eq_true rfl))⟩) (sP_V hP hD hK hN hLy20 hKy20 rfl rfl) rfl rfl hl.1 rfl (lv_room (Nat.le_of_ble_eq_true rfl)) dX6_like_49 ⟨(by rw [hR]; exact (Nat.le_of_ble_eq_true rfl)), (by rw [hR]; exact (Nat.le_of_ble_eq_true rfl))⟩) hS hP (fun z49 H locs hz49 hP hS => ?_)
        obtain ⟨bz49, xpz49⟩ := hz49
        have j61 : ∀ (v61_2 : Int32) (H : Heap) (lo : List Loc) (ls : Array Slot), (∀ σ : Sx, cxA Q I J p0 σ → ∀ o : Nat, hbt v61_2 o = true ↔ o < v14_3.toInt.toNat + 1 ∧ alM σ.1 p1.toInt.toNat p1.toInt.toNat (o : Int)) → va_P (dC, dI) vwCl (Wd cs L K Iz33 Jz33 Q) H → va_S A s.heap H lo → lv_has ls 4 [(0, .ref p0), (1, .int p1), (2, .int v61_2), (3, .int v14_3)] → W p l e R s m (([.ref p0, .int p1] : List Value).toArray) below meth c H lo 0 0 Qz (F0 m 61 ls []) := by
          intro v61_2 H lo ls g61 hP hS hl
          obtain ⟨z61, ez61⟩ : ∃ y : Int32, y = v14_3 + 1 := ⟨_, rfl⟩
          refine lv_iinc (v := z61) (lv' := [(3, .int z61), (0, .ref p0), (1, .int p1), (2, .int v61_2)]) hx hb dX6_like_61 hl (k := 3) rfl (by rw [ez61]; rfl) (by decide) rfl (fun ls hl => ?_)
          have bz61 := tq_add (k := v14_3.toInt) (q := 1) ez61 rfl (by decide +kernel) (by omega) (by omega)
          refine lv_goto (tgt := 14) hx hb dX6_like_64 (by decide) ?_
          exact ih14 _ (by omega) v61_2 z61 Iz33 Jz33 _ _ _ rfl ⟨by omega, by omega⟩ hIz33 fr_Iz33 dn_Iz33 dj_Jz33 (fun σ h => by rw [show z61.toInt.toNat = v14_3.toInt.toNat + 1 by omega]; exact g61 σ h) hP hS (lv_sub hl [1, 2, 3, 0] rfl)
        refine lv_if_eq (tgt := 61) hx hb dX6_like_52 (by decide) (fun c52 => ?_) (fun c52 => ?_)
        · have t52 := tq_eq (k := z49.toInt) (q := (0)) c52 rfl (by decide +kernel)
          exact j61 v14_2 _ _ _ (fun σ h => by have q := xpz2.1 t5; rw [cx_0 h] at q; have w := al_of (fl := v14_3.toInt) (z := z49) (cxA_scr hQ hLp0 hKp0 fr_I14 (fun b h1 h2 => dj_J14 b (fun z => h2 (by omega))) h) (cxA_scr hQ hLp0 hKp0 fr_Iz33 (fun b h1 h2 => dj_Jz33 b (fun z => h2 (by omega))) h) q q (show fm Q (an Q p0) p1.toInt.toNat = y31 from (by rw [show an Q p0 = y24 from gd_of ey24]; exact fm_of ey27 ey31)) (show fm Q (an Q p0) p1.toInt.toNat = y31 from (by rw [show an Q p0 = y24 from gd_of ey24]; exact fm_of ey27 ey31)) jz33 xpz49; rw [show v14_3.toInt = ((v14_3.toInt.toNat : Nat) : Int) by omega] at w; exact bt_no (P := fun o : Nat => alM σ.1 p1.toInt.toNat p1.toInt.toNat (o : Int)) (g14 σ h) rfl (fun r => (w.mpr r) t52)) hP hS (lv_sub hl [0, 1, 2, 3] rfl)
        · have t52 := tq_ne (k := z49.toInt) (q := (0)) c52 rfl (by decide +kernel)
          refine lv_iload_n hx hb dX6_like_55 rfl (lv_at hl 2 rfl) ?_
          refine lv_iconst (v := 1) hx hb dX6_like_56 (by decide +kernel) ?_
          refine lv_iload_n hx hb dX6_like_57 rfl (lv_at hl 3 rfl) ?_
          refine lv_ishl hx hb dX6_like_58 ?_
          refine lv_topi (fun z58 ez58 => ?_)
          refine lv_ior hx hb dX6_like_59 ?_
          refine lv_topi (fun z59 ez59 => ?_)
          refine lv_istore_n (lv' := [(2, .int z59), (0, .ref p0), (1, .int p1), (3, .int v14_3)]) hx hb dX6_like_60 rfl hl (by decide) rfl (fun ls hl => ?_)
          exact j61 z59 _ _ _ (fun σ h => by have q := xpz2.1 t5; rw [cx_0 h] at q; have w := al_of (fl := v14_3.toInt) (z := z49) (cxA_scr hQ hLp0 hKp0 fr_I14 (fun b h1 h2 => dj_J14 b (fun z => h2 (by omega))) h) (cxA_scr hQ hLp0 hKp0 fr_Iz33 (fun b h1 h2 => dj_Jz33 b (fun z => h2 (by omega))) h) q q (show fm Q (an Q p0) p1.toInt.toNat = y31 from (by rw [show an Q p0 = y24 from gd_of ey24]; exact fm_of ey27 ey31)) (show fm Q (an Q p0) p1.toInt.toNat = y31 from (by rw [show an Q p0 = y24 from gd_of ey24]; exact fm_of ey27 ey31)) jz33 xpz49; rw [show v14_3.toInt = ((v14_3.toInt.toNat : Nat) : Int) by omega] at w; exact bt_yes (P := fun o : Nat => alM σ.1 p1.toInt.toNat p1.toInt.toNat (o : Int)) (g14 σ h) rfl (hb_set ez58 ez59 ⟨by omega, by omega⟩) (w.mp t52)) hP hS (lv_sub hl [1, 2, 0, 3] rfl))
    exact key14 _ 0 0 I J _ _ _ rfl ⟨by decide +kernel, by decide +kernel⟩ hI fr_I dn_I dj_J (fun σ h o => by rw [hb_0, show (0 : Int32).toInt.toNat = 0 from by decide +kernel]; exact ⟨fun w => (by cases w), fun w => absurd w.1 (Nat.not_lt_zero _)⟩) hP hS (lv_sub hl [2, 3, 1, 0] rfl)
  · have t5 := tq_eq (k := z2.toInt) (q := (0)) c5 rfl (by decide +kernel)
    refine lv_iconst (v := (-1)) hx hb dX6_like_8 (by decide +kernel) ?_
    subst hR; subst hQz
    exact W.iret (v := (-1)) hx hb hr (fun t ht hW => ⟨⟨(-1), (), rfl, (fun σ h => by have q := xpz2.2 t5; rw [cx_0 h] at q; exact ⟨fun w => absurd w q, fun _ => by decide +kernel⟩), ⟨I, J, ⟨hI, fr_I, dn_I, (fun σ A => cxA_scr hQ hLp0 hKp0 fr_I (fun _ _ _ => rfl) A), dj_J⟩, by rw [ht]; exact hP⟩⟩, hS.F ht⟩) hS.2.2 dX6_like_9

set_option maxHeartbeats 4000000 in
set_option maxRecDepth 100000 in
theorem s_X6_letter (l : Launch) (dC : Nat → ClassId) (dI : Nat → Nat → Nat) (cs : Nat → ClassId) (L : List Nat) (K G : Nat → Nat) (Q : Nat → Nat → Option Nat) (hQ : Sv L K G Q) (x0 m0 : Nat) (tx : GT) (tm : GT × Int) (sz : Nat) (I : Nat → Nat → Int32) (J : Nat → Nat → Int64) (hI : Iv L K x0 m0 tx tm I) (p0 : Nat) (hLp0 : p0 ∈ L) (hKp0 : K p0 = 6) (p1 : Int32) (p2 : Int32) : Met l yX6_letter (.code yX6_letter cX6_letter 7 (some .int) :: pw) ({ frames := 2, cells := 0, slots := 0, locals := 44 }) (sP (dC, dI) cs [.ref p0, .int p1, .int p2] sz L K I J Q) (va_Qi (fun (r : Int32) (_ : Unit) => (∀ σ : Sx, cxA Q I J p0 σ → r.toInt = ltR σ p1 p2)) (fun _ _ => True) (fun _ => False)) 0 0 (fun _ => False) := by
  refine Met.ofW (cc := cX6_letter) (maxL := 7) (ret := (some .int)) (by decide +kernel) rfl ?_
  intro p e s m args below meth c s₁ B hml hv
  obtain ⟨rfl, hsz, hP, hK, hD0, hN⟩ := hv
  have hx := B.exec
  have hb := B.bytes
  have hr := B.returns
  have hts := fun w (h : w ∈ pw) => atoms_spec (ws := Cond.code yX6_letter cX6_letter 7 (some .int) :: pw) B.pre w (List.mem_cons_of_mem _ h)
  have hown : s.vm.findClass RX6 = some m.cls := findClass_of_methodNamed B.named
  have hlocks := B.notSynchronized
  subst hsz
  have hBB : 999 ≤ tm.2 ∧ tm.2 ≤ 6000000 := hI.2.2.2.2.1
  have hD := hD0
  obtain ⟨H, hHe⟩ : ∃ H : Heap, H = s.heap := ⟨_, rfl⟩
  have hS : va_S (fun _ => False) s.heap H [] := by rw [hHe]; exact va_S.rf
  rw [← hHe] at hP
  have hl := lv_entry ([.ref p0, .int p1, .int p2]) (n := 7) (Nat.le_of_ble_eq_true rfl)
  rw [lg_entry_eq]
  generalize (lg_sl ([.ref p0, .int p1, .int p2]) ++ List.replicate (7 - (lg_sl ([.ref p0, .int p1, .int p2])).length) Slot.unset).toArray = ls at hl ⊢
  have hl : lv_has ls 7 [(0, .ref p0), (1, .int p1), (2, .int p2)] := hl
  rw [← hHe]
  refine namedW (fun R Qz hR hQz => ?_)
  refine lv_aload_n hx hb dX6_letter_0 rfl (lv_at hl 0 rfl) ?_
  refine lv_iload_n hx hb dX6_letter_1 rfl (lv_at hl 1 rfl) ?_
  refine ro_i (va_runV (As := [.int p1]) (rest := []) ⟨hx, hb, hml, hown, hts⟩ (s_X6_isMask l dC dI cs L K G Q hQ x0 m0 tx tm H.size I J hI p0 hLp0 hKp0 p1) (cwV 1 hts (gV pq666 pq668 pq4 pq74 pq669) rfl rfl rfl (by decide +kernel) ⟨(by rw [hR]; exact (Nat.le_of_ble_eq_true rfl)), (by rw [hR]; exact (Nat.le_of_ble_eq_true rfl))⟩) (sP_V hP hD hK hN hLp0 hKp0 rfl rfl) rfl rfl hl.1 rfl (lv_room (Nat.le_of_ble_eq_true rfl)) dX6_letter_2 ⟨(by rw [hR]; exact (Nat.le_of_ble_eq_true rfl)), (by rw [hR]; exact (Nat.le_of_ble_eq_true rfl))⟩) hS hP (fun z2 H locs hz2 hP hS => ?_)
  obtain ⟨bz2, imz2, xpz2⟩ := hz2
  refine lv_if_eq (tgt := 13) hx hb dX6_letter_5 (by decide) (fun c5 => ?_) (fun c5 => ?_)
  · have t5 := tq_eq (k := z2.toInt) (q := (0)) c5 rfl (by decide +kernel)
    refine lv_iconst (v := (-1)) hx hb dX6_letter_13 (by decide +kernel) ?_
    subst hR; subst hQz
    exact W.iret (v := (-1)) hx hb hr (fun t ht hW => ⟨⟨(-1), (), rfl, (fun σ h => by rw [ltr0 (fun w => by first | exact (xpz2.2 t5) (by rw [cx_0 h]; exact w.1) | (have a := w.2; omega))]; decide +kernel), trivial⟩, hS.F ht⟩) hS.2.2 dX6_letter_14
  · have t5 := tq_ne (k := z2.toInt) (q := (0)) c5 rfl (by decide +kernel)
    have i5 := imz2 t5
    refine lv_iload_n hx hb dX6_letter_8 rfl (lv_at hl 2 rfl) ?_
    refine lv_iconst (v := (-1)) hx hb dX6_letter_9 (by decide +kernel) ?_
    refine lv_icmp_ge (tgt := 15) hx hb dX6_letter_10 (by decide) (fun c10 => ?_) (fun c10 => ?_)
    · have t10 := tq_le (k := (-1)) (q := p2.toInt) c10 (by decide +kernel) rfl
      refine lv_aload_n hx hb dX6_letter_15 rfl (lv_at hl 0 rfl) ?_
      obtain ⟨y16, ey16, hLy16, hKy16, hGy16⟩ := oQ_6_2 (Sv_at hQ hLp0 hKp0)
      refine p_get (v := .ref y16) hx hb hts inX6 hown hK hP hLp0 hKp0 rfl rfl 2 (by decide) (hts _ pq351) (congrArg (fun q => some (va_rf q)) ey16) dX6_letter_16 ?_
      obtain ⟨y19, ey19, hLy19, hKy19, hGy19⟩ := oQ_1_0 (Sv_at hQ hLy16 hKy16)
      refine p_get (v := .ref y19) hx hb hts inX1 hown hK hP hLy16 hKy16 rfl rfl 0 (by decide) (hts _ pq216) (congrArg (fun q => some (va_rf q)) ey19) dX6_letter_19 ?_
      refine lv_iload_n hx hb dX6_letter_22 rfl (lv_at hl 1 rfl) ?_
      obtain ⟨y23, ey23, hLy23, hKy23, hGy23⟩ := (Sv_at hQ hLy19 hKy19).1 p1.toNatClampNeg (clamp_lt (n := 8) (in_of (by omega) (by omega)))
      have hjy23 : p1.toNatClampNeg < 8 := clamp_lt (i := p1) (n := 8) (in_of (by omega) (by omega))
      refine p_aaldR hx hb hK hP 3 hLy19 hKy19 rfl rfl (in_of (by omega) (by omega)) ey23 dX6_letter_23 ?_
      refine lv_astore_n (lv' := [(3, .ref y23), (0, .ref p0), (1, .int p1), (2, .int p2)]) hx hb dX6_letter_24 rfl hl (by decide) rfl (fun ls hl => ?_)
      refine lv_aload_n hx hb dX6_letter_25 rfl (lv_at hl 0 rfl) ?_
      refine p_get hx hb hts inX3 hown hK hP hLy23 hKy23 rfl rfl 0 (by decide) (hts _ pq119) rfl dX6_letter_26 ?_
      refine lv_topi (fun z26 ez26 => ?_)
      have bz26 := oI_3_0 (Iv_at hI hLy23 hKy23)
      rw [← ez26] at bz26
      refine lv_iconst (v := 1) hx hb dX6_letter_29 (by decide +kernel) ?_
      refine lv_iadd hx hb dX6_letter_30 ?_
      refine lv_topi (fun z30 ez30 => ?_)
      have bz30 := tq_add (k := z26.toInt) (q := (1)) ez30 rfl (by decide +kernel) (by omega) (by omega)
      refine lv_istore (lv' := [(4, .int z30), (3, .ref y23), (0, .ref p0), (1, .int p1), (2, .int p2)]) hx hb dX6_letter_31 hl (by decide) rfl (fun ls hl => ?_)
      refine lv_iload hx hb dX6_letter_33 (lv_at hl 0 rfl) ?_
      refine lv_aload_n hx hb dX6_letter_35 rfl (lv_at hl 1 rfl) ?_
      refine p_get hx hb hts inX3 hown hK hP hLy23 hKy23 rfl rfl 1 (by decide) (hts _ pq123) rfl dX6_letter_36 ?_
      refine lv_topi (fun z36 ez36 => ?_)
      have bz36 := oI_3_1 (Iv_at hI hLy23 hKy23)
      rw [← ez36] at bz36
      refine lv_imul hx hb dX6_letter_39 ?_
      refine lv_topi (fun z39 ez39 => ?_)
      refine lv_iconst (v := 1) hx hb dX6_letter_40 (by decide +kernel) ?_
      refine lv_isub hx hb dX6_letter_41 ?_
      refine lv_topi (fun z41 ez41 => ?_)
      refine lv_istore (lv' := [(5, .int z41), (4, .int z30), (3, .ref y23), (0, .ref p0), (1, .int p1), (2, .int p2)]) hx hb dX6_letter_42 hl (by decide) rfl (fun ls hl => ?_)
      refine lv_iload_n hx hb dX6_letter_44 rfl (lv_at hl 5 rfl) ?_
      refine lv_iconst (v := (-1)) hx hb dX6_letter_45 (by decide +kernel) ?_
      refine lv_icmp_ne (tgt := 52) hx hb dX6_letter_46 (by decide) (fun c46 => ?_) (fun c46 => ?_)
      · have t46 := tq_ne (k := p2.toInt) (q := (-1)) c46 rfl (by decide +kernel)
        refine lv_iload_n hx hb dX6_letter_52 rfl (lv_at hl 5 rfl) ?_
        refine lv_iload hx hb dX6_letter_53 (lv_at hl 0 rfl) ?_
        refine lv_icmp_lt (tgt := 61) hx hb dX6_letter_55 (by decide) (fun c55 => ?_) (fun c55 => ?_)
        · have t55 := tq_lt (k := p2.toInt) (q := z41.toInt) c55 rfl rfl
          refine lv_iload_n hx hb dX6_letter_61 rfl (lv_at hl 5 rfl) ?_
          refine lv_iload hx hb dX6_letter_62 (lv_at hl 1 rfl) ?_
          refine lv_irem hx hb dX6_letter_64 (letn ez39 ez41 (by omega) t55) ?_
          refine lv_topi (fun z64 ez64 => ?_)
          refine lv_istore (lv' := [(6, .int z64), (5, .int z41), (4, .int z30), (3, .ref y23), (0, .ref p0), (1, .int p1), (2, .int p2)]) hx hb dX6_letter_65 hl (by decide) rfl (fun ls hl => ?_)
          refine lv_iload hx hb dX6_letter_67 (lv_at hl 0 rfl) ?_
          refine lv_aload_n hx hb dX6_letter_69 rfl (lv_at hl 3 rfl) ?_
          refine p_get hx hb hts inX3 hown hK hP hLy23 hKy23 rfl rfl 0 (by decide) (hts _ pq119) rfl dX6_letter_70 ?_
          refine lv_topi (fun z70 ez70 => ?_)
          obtain rfl : z26 = z70 := ez26.trans ez70.symm
          refine lv_icmp_ne (tgt := 79) hx hb dX6_letter_73 (by decide) (fun c73 => ?_) (fun c73 => ?_)
          · have t73 := tq_ne (k := z64.toInt) (q := z26.toInt) c73 rfl rfl
            refine lv_aload_n hx hb dX6_letter_79 rfl (lv_at hl 3 rfl) ?_
            refine lv_iload hx hb dX6_letter_80 (lv_at hl 0 rfl) ?_
            refine lv_iload_n hx hb dX6_letter_82 rfl (lv_at hl 6 rfl) ?_
            refine lv_iload hx hb dX6_letter_83 (lv_at hl 2 rfl) ?_
            refine lv_idiv hx hb dX6_letter_85 (letn ez39 ez41 (by omega) t55) ?_
            refine lv_topi (fun z85 ez85 => ?_)
            refine ro_i (va_runV (As := [.int z64, .int z85]) (rest := []) ⟨hx, hb, hml, hown, hts⟩ (s_X3_holds l dC dI cs L K G Q hQ x0 m0 tx tm H.size I J hI y23 hLy23 hKy23 z64 z85) (cwV 2 hts (gV pq673 pq674 pq675 pq76 pq676) rfl rfl rfl (by decide +kernel) ⟨(by rw [hR]; exact (Nat.le_of_ble_eq_true rfl)), (by rw [hR]; exact (Nat.le_of_ble_eq_true rfl))⟩) (sP_V hP hD hK hN hLy23 hKy23 rfl rfl) rfl rfl hl.1 rfl (lv_room (Nat.le_of_ble_eq_true rfl)) dX6_letter_86 ⟨(by rw [hR]; exact (Nat.le_of_ble_eq_true rfl)), (by rw [hR]; exact (Nat.le_of_ble_eq_true rfl))⟩) hS hP (fun z86 H locs hz86 hP hS => ?_)
            obtain ⟨bz86, xpz86⟩ := hz86
            refine lv_if_eq (tgt := 97) hx hb dX6_letter_89 (by decide) (fun c89 => ?_) (fun c89 => ?_)
            · have t89 := tq_eq (k := z86.toInt) (q := (0)) c89 rfl (by decide +kernel)
              refine lv_bipush (v := 46) hx hb dX6_letter_97 (by decide +kernel) ?_
              subst hR; subst hQz
              exact W.iret (v := 46) hx hb hr (fun t ht hW => ⟨⟨46, (), rfl, (fun σ h => by have q := xpz2.1 t5; rw [cx_0 h] at q; have c := (cxA_m (m := p1) h q).1; rw [show fm Q (an Q p0) p1.toInt.toNat = y23 from (by rw [show an Q p0 = y16 from gd_of ey16]; exact fm_of ey19 ey23)] at c; have e26 : z26 = mW σ p1 := ez26.trans c.1; have e36 : z36 = mH σ p1 := ez36.trans c.2.1; have eM : z41 = ltM (mW σ p1) (mH σ p1) := (by rw [ez41, ez39, ez30, e26, e36]; rfl); have H : mK σ p1 ∧ -1 ≤ p2.toInt := ⟨q, by omega⟩; have eX : z64 = ltX (mW σ p1) p2 := (by rw [ez64, ez30, e26]; rfl); have r : ¬ (ltM (mW σ p1) (mH σ p1)).toInt ≤ p2.toInt := (by rw [← eM]; omega); rw [ltr4 (b := z86.toInt) H t46 r (by rw [← eX, ← e26]; exact t73) (by rw [xpz86, hs_congr (congrArg Int32.toInt c.1) (congrArg Int32.toInt c.2.1) c.2.2.1, eX, ez85, ez30, e26]), show (46 : Int32).toInt = 46 from by decide +kernel]; omega), trivial⟩, hS.F ht⟩) hS.2.2 dX6_letter_99
            · have t89 := tq_ne (k := z86.toInt) (q := (0)) c89 rfl (by decide +kernel)
              refine lv_bipush (v := 35) hx hb dX6_letter_92 (by decide +kernel) ?_
              refine lv_goto (tgt := 99) hx hb dX6_letter_94 (by decide) ?_
              subst hR; subst hQz
              exact W.iret (v := 35) hx hb hr (fun t ht hW => ⟨⟨35, (), rfl, (fun σ h => by have q := xpz2.1 t5; rw [cx_0 h] at q; have c := (cxA_m (m := p1) h q).1; rw [show fm Q (an Q p0) p1.toInt.toNat = y23 from (by rw [show an Q p0 = y16 from gd_of ey16]; exact fm_of ey19 ey23)] at c; have e26 : z26 = mW σ p1 := ez26.trans c.1; have e36 : z36 = mH σ p1 := ez36.trans c.2.1; have eM : z41 = ltM (mW σ p1) (mH σ p1) := (by rw [ez41, ez39, ez30, e26, e36]; rfl); have H : mK σ p1 ∧ -1 ≤ p2.toInt := ⟨q, by omega⟩; have eX : z64 = ltX (mW σ p1) p2 := (by rw [ez64, ez30, e26]; rfl); have r : ¬ (ltM (mW σ p1) (mH σ p1)).toInt ≤ p2.toInt := (by rw [← eM]; omega); rw [ltr4 (b := z86.toInt) H t46 r (by rw [← eX, ← e26]; exact t73) (by rw [xpz86, hs_congr (congrArg Int32.toInt c.1) (congrArg Int32.toInt c.2.1) c.2.2.1, eX, ez85, ez30, e26]), show (35 : Int32).toInt = 35 from by decide +kernel]; omega), trivial⟩, hS.F ht⟩) hS.2.2 dX6_letter_99
          · have t73 := tq_eq (k := z64.toInt) (q := z26.toInt) c73 rfl rfl
            refine lv_bipush (v := 47) hx hb dX6_letter_76 (by decide +kernel) ?_
            subst hR; subst hQz
            exact W.iret (v := 47) hx hb hr (fun t ht hW => ⟨⟨47, (), rfl, (fun σ h => by have q := xpz2.1 t5; rw [cx_0 h] at q; have c := (cxA_m (m := p1) h q).1; rw [show fm Q (an Q p0) p1.toInt.toNat = y23 from (by rw [show an Q p0 = y16 from gd_of ey16]; exact fm_of ey19 ey23)] at c; have e26 : z26 = mW σ p1 := ez26.trans c.1; have e36 : z36 = mH σ p1 := ez36.trans c.2.1; have eM : z41 = ltM (mW σ p1) (mH σ p1) := (by rw [ez41, ez39, ez30, e26, e36]; rfl); have H : mK σ p1 ∧ -1 ≤ p2.toInt := ⟨q, by omega⟩; have eX : z64 = ltX (mW σ p1) p2 := (by rw [ez64, ez30, e26]; rfl); have r : ¬ (ltM (mW σ p1) (mH σ p1)).toInt ≤ p2.toInt := (by rw [← eM]; omega); rw [ltr3 H t46 r (by rw [← eX, ← e26]; exact t73)]; decide +kernel), trivial⟩, hS.F ht⟩) hS.2.2 dX6_letter_78
        · have t55 := tq_nlt (k := p2.toInt) (q := z41.toInt) c55 rfl rfl
          refine lv_bipush (v := (-2)) hx hb dX6_letter_58 (by decide +kernel) ?_
          subst hR; subst hQz
          exact W.iret (v := (-2)) hx hb hr (fun t ht hW => ⟨⟨(-2), (), rfl, (fun σ h => by have q := xpz2.1 t5; rw [cx_0 h] at q; have c := (cxA_m (m := p1) h q).1; rw [show fm Q (an Q p0) p1.toInt.toNat = y23 from (by rw [show an Q p0 = y16 from gd_of ey16]; exact fm_of ey19 ey23)] at c; have e26 : z26 = mW σ p1 := ez26.trans c.1; have e36 : z36 = mH σ p1 := ez36.trans c.2.1; have eM : z41 = ltM (mW σ p1) (mH σ p1) := (by rw [ez41, ez39, ez30, e26, e36]; rfl); have H : mK σ p1 ∧ -1 ≤ p2.toInt := ⟨q, by omega⟩; rw [ltr2 H t46 (by rw [← eM]; exact t55)]; decide +kernel), trivial⟩, hS.F ht⟩) hS.2.2 dX6_letter_60
      · have t46 := tq_eq (k := p2.toInt) (q := (-1)) c46 rfl (by decide +kernel)
        refine lv_iload hx hb dX6_letter_49 (lv_at hl 0 rfl) ?_
        subst hR; subst hQz
        exact W.iret (v := z41) hx hb hr (fun t ht hW => ⟨⟨z41, (), rfl, (fun σ h => by have q := xpz2.1 t5; rw [cx_0 h] at q; have c := (cxA_m (m := p1) h q).1; rw [show fm Q (an Q p0) p1.toInt.toNat = y23 from (by rw [show an Q p0 = y16 from gd_of ey16]; exact fm_of ey19 ey23)] at c; have e26 : z26 = mW σ p1 := ez26.trans c.1; have e36 : z36 = mH σ p1 := ez36.trans c.2.1; have eM : z41 = ltM (mW σ p1) (mH σ p1) := (by rw [ez41, ez39, ez30, e26, e36]; rfl); have H : mK σ p1 ∧ -1 ≤ p2.toInt := ⟨q, by omega⟩; rw [ltr1 H t46, ← eM]), trivial⟩, hS.F ht⟩) hS.2.2 dX6_letter_51
    · have t10 := tq_nle (k := (-1)) (q := p2.toInt) c10 (by decide +kernel) rfl
      refine lv_iconst (v := (-1)) hx hb dX6_letter_13 (by decide +kernel) ?_
      subst hR; subst hQz
      exact W.iret (v := (-1)) hx hb hr (fun t ht hW => ⟨⟨(-1), (), rfl, (fun σ h => by rw [ltr0 (fun w => by first | exact (xpz2.2 t5) (by rw [cx_0 h]; exact w.1) | (have a := w.2; omega))]; decide +kernel), trivial⟩, hS.F ht⟩) hS.2.2 dX6_letter_14

set_option maxHeartbeats 4000000 in
set_option maxRecDepth 100000 in
theorem s_X6_dense (l : Launch) (dC : Nat → ClassId) (dI : Nat → Nat → Nat) (cs : Nat → ClassId) (L : List Nat) (K G : Nat → Nat) (Q : Nat → Nat → Option Nat) (hQ : Sv L K G Q) (x0 m0 : Nat) (tx : GT) (tm : GT × Int) (sz : Nat) (I : Nat → Nat → Int32) (J : Nat → Nat → Int64) (hI : Iv L K x0 m0 tx tm I) (p0 : Nat) (hLp0 : p0 ∈ L) (hKp0 : K p0 = 6) (p1 : Int32) (p2 : Int32) (p3 : Int32) (p4 : Int32) : Met l yX6_dense (.code yX6_dense cX6_dense 12 (some .int) :: pw) ({ frames := 3, cells := 0, slots := 0, locals := 79 }) (sP (dC, dI) cs [.ref p0, .int p1, .int p2, .int p3, .int p4] sz L K I J Q) (va_Qi (fun (r : Int32) (_ : Unit) => (∀ σ : Sx, cxA Q I J p0 σ → dnR σ p1 p2 p3 p4 r)) (fun _ _ => True) (fun _ => False)) 0 0 (fun _ => False) := by
  refine Met.ofW (cc := cX6_dense) (maxL := 12) (ret := (some .int)) (by decide +kernel) rfl ?_
  intro p e s m args below meth c s₁ B hml hv
  obtain ⟨rfl, hsz, hP, hK, hD0, hN⟩ := hv
  have hx := B.exec
  have hb := B.bytes
  have hr := B.returns
  have hts := fun w (h : w ∈ pw) => atoms_spec (ws := Cond.code yX6_dense cX6_dense 12 (some .int) :: pw) B.pre w (List.mem_cons_of_mem _ h)
  have hown : s.vm.findClass RX6 = some m.cls := findClass_of_methodNamed B.named
  have hlocks := B.notSynchronized
  subst hsz
  have hBB : 999 ≤ tm.2 ∧ tm.2 ≤ 6000000 := hI.2.2.2.2.1
  have hD := hD0
  obtain ⟨H, hHe⟩ : ∃ H : Heap, H = s.heap := ⟨_, rfl⟩
  have hS : va_S (fun _ => False) s.heap H [] := by rw [hHe]; exact va_S.rf
  rw [← hHe] at hP
  have hl := lv_entry ([.ref p0, .int p1, .int p2, .int p3, .int p4]) (n := 12) (Nat.le_of_ble_eq_true rfl)
  rw [lg_entry_eq]
  generalize (lg_sl ([.ref p0, .int p1, .int p2, .int p3, .int p4]) ++ List.replicate (12 - (lg_sl ([.ref p0, .int p1, .int p2, .int p3, .int p4])).length) Slot.unset).toArray = ls at hl ⊢
  have hl : lv_has ls 12 [(0, .ref p0), (1, .int p1), (2, .int p2), (3, .int p3), (4, .int p4)] := hl
  rw [← hHe]
  refine namedW (fun R Qz hR hQz => ?_)
  refine lv_aload_n hx hb dX6_dense_0 rfl (lv_at hl 0 rfl) ?_
  refine lv_iload_n hx hb dX6_dense_1 rfl (lv_at hl 1 rfl) ?_
  refine ro_i (va_runV (As := [.int p1]) (rest := []) ⟨hx, hb, hml, hown, hts⟩ (s_X6_isMask l dC dI cs L K G Q hQ x0 m0 tx tm H.size I J hI p0 hLp0 hKp0 p1) (cwV 1 hts (gV pq666 pq668 pq4 pq74 pq669) rfl rfl rfl (by decide +kernel) ⟨(by rw [hR]; exact (Nat.le_of_ble_eq_true rfl)), (by rw [hR]; exact (Nat.le_of_ble_eq_true rfl))⟩) (sP_V hP hD hK hN hLp0 hKp0 rfl rfl) rfl rfl hl.1 rfl (lv_room (Nat.le_of_ble_eq_true rfl)) dX6_dense_2 ⟨(by rw [hR]; exact (Nat.le_of_ble_eq_true rfl)), (by rw [hR]; exact (Nat.le_of_ble_eq_true rfl))⟩) hS hP (fun z2 H locs hz2 hP hS => ?_)
  obtain ⟨bz2, imz2, xpz2⟩ := hz2
  refine lv_if_eq (tgt := 17) hx hb dX6_dense_5 (by decide) (fun c5 => ?_) (fun c5 => ?_)
  · have t5 := tq_eq (k := z2.toInt) (q := (0)) c5 rfl (by decide +kernel)
    refine lv_iconst (v := (-1)) hx hb dX6_dense_17 (by decide +kernel) ?_
    subst hR; subst hQz
    exact W.iret (v := (-1)) hx hb hr (fun t ht hW => ⟨⟨(-1), (), rfl, (fun σ h => by refine ⟨fun w => absurd w (fun w => ?_), fun _ => by decide +kernel⟩; first | exact xpz2.2 t5 (by rw [cx_0 h]; exact w.1) | exact xpz11 t14 w.2.2.2 | (have a := w.2.1; have b := w.2.2.1; omega) | (have q := w.1; have c := cxA_m (m := p1) h q; rw [show fm Q (an Q p0) p1.toInt.toNat = y27 from (by rw [show an Q p0 = y20 from gd_of ey20]; exact fm_of ey23 ey27)] at c; have eW := congrArg Int32.toInt (ez38.trans c.1.1); have a := w.2.1; omega) | (have q := w.1; have c := cxA_m (m := p1) h q; rw [show fm Q (an Q p0) p1.toInt.toNat = y27 from (by rw [show an Q p0 = y20 from gd_of ey20]; exact fm_of ey23 ey27)] at c; have eH := congrArg Int32.toInt (ez52.trans c.1.2.1); have a := w.2.2.1; omega)), trivial⟩, hS.F ht⟩) hS.2.2 dX6_dense_18
  · have t5 := tq_ne (k := z2.toInt) (q := (0)) c5 rfl (by decide +kernel)
    have i5 := imz2 t5
    refine lv_iload hx hb dX6_dense_8 (lv_at hl 4 rfl) ?_
    refine lv_iconst (v := 2) hx hb dX6_dense_10 (by decide +kernel) ?_
    refine ro_i (va_runS (As := [.int p4, .int 2]) (rest := []) ⟨hx, hb, hml, hown, hts⟩ (s_X6_isFrom0To l dC dI cs L K G Q hQ x0 m0 tx tm H.size I J hI p4 2) (va_cwS 2 hts (gS pq651 pq652 pq74 pq653) rfl rfl rfl (by decide +kernel) ⟨(by rw [hR]; exact (Nat.le_of_ble_eq_true rfl)), (by rw [hR]; exact (Nat.le_of_ble_eq_true rfl))⟩) (sP_S hP hD hK hN) rfl rfl hl.1 rfl (lv_room (Nat.le_of_ble_eq_true rfl)) dX6_dense_11 ⟨(by rw [hR]; exact (Nat.le_of_ble_eq_true rfl)), (by rw [hR]; exact (Nat.le_of_ble_eq_true rfl))⟩) hS hP (fun z11 H locs hz11 hP hS => ?_)
    have cst11_2 : (2 : Int32).toInt = 2 := by decide +kernel
    obtain ⟨bz11, imz11, xpz11⟩ := hz11
    try rw [cst11_2] at xpz11
    refine lv_if_ne (tgt := 19) hx hb dX6_dense_14 (by decide) (fun c14 => ?_) (fun c14 => ?_)
    · have t14 := tq_ne (k := z11.toInt) (q := (0)) c14 rfl (by decide +kernel)
      have i14 := imz11 t14
      refine lv_aload_n hx hb dX6_dense_19 rfl (lv_at hl 0 rfl) ?_
      obtain ⟨y20, ey20, hLy20, hKy20, hGy20⟩ := oQ_6_2 (Sv_at hQ hLp0 hKp0)
      refine p_get (v := .ref y20) hx hb hts inX6 hown hK hP hLp0 hKp0 rfl rfl 2 (by decide) (hts _ pq351) (congrArg (fun q => some (va_rf q)) ey20) dX6_dense_20 ?_
      obtain ⟨y23, ey23, hLy23, hKy23, hGy23⟩ := oQ_1_0 (Sv_at hQ hLy20 hKy20)
      refine p_get (v := .ref y23) hx hb hts inX1 hown hK hP hLy20 hKy20 rfl rfl 0 (by decide) (hts _ pq216) (congrArg (fun q => some (va_rf q)) ey23) dX6_dense_23 ?_
      refine lv_iload_n hx hb dX6_dense_26 rfl (lv_at hl 1 rfl) ?_
      obtain ⟨y27, ey27, hLy27, hKy27, hGy27⟩ := (Sv_at hQ hLy23 hKy23).1 p1.toNatClampNeg (clamp_lt (n := 8) (in_of (by omega) (by omega)))
      have hjy27 : p1.toNatClampNeg < 8 := clamp_lt (i := p1) (n := 8) (in_of (by omega) (by omega))
      refine p_aaldR hx hb hK hP 3 hLy23 hKy23 rfl rfl (in_of (by omega) (by omega)) ey27 dX6_dense_27 ?_
      refine lv_astore (lv' := [(5, .ref y27), (0, .ref p0), (1, .int p1), (2, .int p2), (3, .int p3), (4, .int p4)]) hx hb dX6_dense_28 hl (by decide) rfl (fun ls hl => ?_)
      refine lv_iload_n hx hb dX6_dense_30 rfl (lv_at hl 3 rfl) ?_
      refine lv_iconst (v := 1) hx hb dX6_dense_31 (by decide +kernel) ?_
      refine lv_icmp_lt (tgt := 58) hx hb dX6_dense_32 (by decide) (fun c32 => ?_) (fun c32 => ?_)
      · have t32 := tq_lt (k := p2.toInt) (q := (1)) c32 rfl (by decide +kernel)
        refine lv_iconst (v := (-1)) hx hb dX6_dense_58 (by decide +kernel) ?_
        subst hR; subst hQz
        exact W.iret (v := (-1)) hx hb hr (fun t ht hW => ⟨⟨(-1), (), rfl, (fun σ h => by refine ⟨fun w => absurd w (fun w => ?_), fun _ => by decide +kernel⟩; first | exact xpz2.2 t5 (by rw [cx_0 h]; exact w.1) | exact xpz11 t14 w.2.2.2 | (have a := w.2.1; have b := w.2.2.1; omega) | (have q := w.1; have c := cxA_m (m := p1) h q; rw [show fm Q (an Q p0) p1.toInt.toNat = y27 from (by rw [show an Q p0 = y20 from gd_of ey20]; exact fm_of ey23 ey27)] at c; have eW := congrArg Int32.toInt (ez38.trans c.1.1); have a := w.2.1; omega) | (have q := w.1; have c := cxA_m (m := p1) h q; rw [show fm Q (an Q p0) p1.toInt.toNat = y27 from (by rw [show an Q p0 = y20 from gd_of ey20]; exact fm_of ey23 ey27)] at c; have eH := congrArg Int32.toInt (ez52.trans c.1.2.1); have a := w.2.2.1; omega)), trivial⟩, hS.F ht⟩) hS.2.2 dX6_dense_59
      · have t32 := tq_nlt (k := p2.toInt) (q := (1)) c32 rfl (by decide +kernel)
        refine lv_iload_n hx hb dX6_dense_35 rfl (lv_at hl 3 rfl) ?_
        refine lv_aload hx hb dX6_dense_36 (lv_at hl 0 rfl) ?_
        refine p_get hx hb hts inX3 hown hK hP hLy27 hKy27 rfl rfl 0 (by decide) (hts _ pq119) rfl dX6_dense_38 ?_
        refine lv_topi (fun z38 ez38 => ?_)
        have bz38 := oI_3_0 (Iv_at hI hLy27 hKy27)
        rw [← ez38] at bz38
        refine lv_icmp_gt (tgt := 58) hx hb dX6_dense_41 (by decide) (fun c41 => ?_) (fun c41 => ?_)
        · have t41 := tq_lt (k := z38.toInt) (q := p2.toInt) c41 rfl rfl
          refine lv_iconst (v := (-1)) hx hb dX6_dense_58 (by decide +kernel) ?_
          subst hR; subst hQz
          exact W.iret (v := (-1)) hx hb hr (fun t ht hW => ⟨⟨(-1), (), rfl, (fun σ h => by refine ⟨fun w => absurd w (fun w => ?_), fun _ => by decide +kernel⟩; first | exact xpz2.2 t5 (by rw [cx_0 h]; exact w.1) | exact xpz11 t14 w.2.2.2 | (have a := w.2.1; have b := w.2.2.1; omega) | (have q := w.1; have c := cxA_m (m := p1) h q; rw [show fm Q (an Q p0) p1.toInt.toNat = y27 from (by rw [show an Q p0 = y20 from gd_of ey20]; exact fm_of ey23 ey27)] at c; have eW := congrArg Int32.toInt (ez38.trans c.1.1); have a := w.2.1; omega) | (have q := w.1; have c := cxA_m (m := p1) h q; rw [show fm Q (an Q p0) p1.toInt.toNat = y27 from (by rw [show an Q p0 = y20 from gd_of ey20]; exact fm_of ey23 ey27)] at c; have eH := congrArg Int32.toInt (ez52.trans c.1.2.1); have a := w.2.2.1; omega)), trivial⟩, hS.F ht⟩) hS.2.2 dX6_dense_59
        · have t41 := tq_nlt (k := z38.toInt) (q := p2.toInt) c41 rfl rfl
          refine lv_iload_n hx hb dX6_dense_44 rfl (lv_at hl 4 rfl) ?_
          refine lv_iconst (v := 1) hx hb dX6_dense_45 (by decide +kernel) ?_
          refine lv_icmp_lt (tgt := 58) hx hb dX6_dense_46 (by decide) (fun c46 => ?_) (fun c46 => ?_)
          · have t46 := tq_lt (k := p3.toInt) (q := (1)) c46 rfl (by decide +kernel)
            refine lv_iconst (v := (-1)) hx hb dX6_dense_58 (by decide +kernel) ?_
            subst hR; subst hQz
            exact W.iret (v := (-1)) hx hb hr (fun t ht hW => ⟨⟨(-1), (), rfl, (fun σ h => by refine ⟨fun w => absurd w (fun w => ?_), fun _ => by decide +kernel⟩; first | exact xpz2.2 t5 (by rw [cx_0 h]; exact w.1) | exact xpz11 t14 w.2.2.2 | (have a := w.2.1; have b := w.2.2.1; omega) | (have q := w.1; have c := cxA_m (m := p1) h q; rw [show fm Q (an Q p0) p1.toInt.toNat = y27 from (by rw [show an Q p0 = y20 from gd_of ey20]; exact fm_of ey23 ey27)] at c; have eW := congrArg Int32.toInt (ez38.trans c.1.1); have a := w.2.1; omega) | (have q := w.1; have c := cxA_m (m := p1) h q; rw [show fm Q (an Q p0) p1.toInt.toNat = y27 from (by rw [show an Q p0 = y20 from gd_of ey20]; exact fm_of ey23 ey27)] at c; have eH := congrArg Int32.toInt (ez52.trans c.1.2.1); have a := w.2.2.1; omega)), trivial⟩, hS.F ht⟩) hS.2.2 dX6_dense_59
          · have t46 := tq_nlt (k := p3.toInt) (q := (1)) c46 rfl (by decide +kernel)
            refine lv_iload_n hx hb dX6_dense_49 rfl (lv_at hl 4 rfl) ?_
            refine lv_aload hx hb dX6_dense_50 (lv_at hl 0 rfl) ?_
            refine p_get hx hb hts inX3 hown hK hP hLy27 hKy27 rfl rfl 1 (by decide) (hts _ pq123) rfl dX6_dense_52 ?_
            refine lv_topi (fun z52 ez52 => ?_)
            have bz52 := oI_3_1 (Iv_at hI hLy27 hKy27)
            rw [← ez52] at bz52
            refine lv_icmp_le (tgt := 60) hx hb dX6_dense_55 (by decide) (fun c55 => ?_) (fun c55 => ?_)
            · have t55 := tq_le (k := p3.toInt) (q := z52.toInt) c55 rfl rfl
              refine lv_iconst (v := (-1)) hx hb dX6_dense_60 (by decide +kernel) ?_
              refine lv_istore (lv' := [(6, .int (-1)), (5, .ref y27), (0, .ref p0), (1, .int p1), (2, .int p2), (3, .int p3), (4, .int p4)]) hx hb dX6_dense_61 hl (by decide) rfl (fun ls hl => ?_)
              refine lv_iconst (v := 0) hx hb dX6_dense_63 (by decide +kernel) ?_
              refine lv_istore (lv' := [(7, .int 0), (6, .int (-1)), (5, .ref y27), (0, .ref p0), (1, .int p1), (2, .int p2), (3, .int p3), (4, .int p4)]) hx hb dX6_dense_64 hl (by decide) rfl (fun ls hl => ?_)
              refine lv_iconst (v := 0) hx hb dX6_dense_66 (by decide +kernel) ?_
              refine lv_istore (lv' := [(8, .int 0), (7, .int 0), (6, .int (-1)), (5, .ref y27), (0, .ref p0), (1, .int p1), (2, .int p2), (3, .int p3), (4, .int p4)]) hx hb dX6_dense_67 hl (by decide) rfl (fun ls hl => ?_)
              refine lv_iconst (v := 0) hx hb dX6_dense_69 (by decide +kernel) ?_
              refine lv_istore (lv' := [(9, .int 0), (8, .int 0), (7, .int 0), (6, .int (-1)), (5, .ref y27), (0, .ref p0), (1, .int p1), (2, .int p2), (3, .int p3), (4, .int p4)]) hx hb dX6_dense_70 hl (by decide) rfl (fun ls hl => ?_)
              have key72 := blocks (fun n => ∀ (v72_6 : Int32) (v72_7 : Int32) (v72_8 : Int32) (v72_9 : Int32) (H : Heap) (lo : List Loc) (ls : Array Slot), (41 - v72_9.toInt).toNat = n → ((-1) ≤ v72_6.toInt ∧ v72_6.toInt ≤ 2147483647) → ((0) ≤ v72_7.toInt ∧ v72_7.toInt ≤ 127) → ((0) ≤ v72_8.toInt ∧ v72_8.toInt ≤ 39) → ((0) ≤ v72_9.toInt ∧ v72_9.toInt ≤ 40) → (∀ σ : Sx, cxA Q I J p0 σ → mxI (dnN σ p1 p2 p3) ((mW σ p1).toInt - p2.toInt) ((mH σ p1).toInt - p3.toInt) v72_9.toInt 0 v72_6.toInt v72_7.toInt v72_8.toInt) → va_P (dC, dI) vwCl (Wd cs L K I J Q) H → va_S (fun _ => False) s.heap H lo → lv_has ls 12 [(0, .ref p0), (1, .int p1), (2, .int p2), (3, .int p3), (4, .int p4), (5, .ref y27), (6, .int v72_6), (7, .int v72_7), (8, .int v72_8), (9, .int v72_9)] → W p l e R s m (([.ref p0, .int p1, .int p2, .int p3, .int p4] : List Value).toArray) below meth c H lo 0 0 Qz (F0 m 72 ls [])) (by
                intro n ih72
                intro v72_6 v72_7 v72_8 v72_9 H lo ls hmu72 bv72_6 bv72_7 bv72_8 bv72_9 g72 hP hS hl
                refine lv_iload hx hb dX6_dense_72 (lv_at hl 9 rfl) ?_
                refine lv_aload hx hb dX6_dense_74 (lv_at hl 5 rfl) ?_
                refine p_get hx hb hts inX3 hown hK hP hLy27 hKy27 rfl rfl 1 (by decide) (hts _ pq123) rfl dX6_dense_76 ?_
                refine lv_topi (fun z76 ez76 => ?_)
                obtain rfl : z52 = z76 := ez52.trans ez76.symm
                refine lv_iload_n hx hb dX6_dense_79 rfl (lv_at hl 3 rfl) ?_
                refine lv_isub hx hb dX6_dense_80 ?_
                refine lv_topi (fun z80 ez80 => ?_)
                have bz80 := tq_sub (k := z52.toInt) (q := p3.toInt) ez80 rfl rfl (by omega) (by omega)
                refine lv_icmp_gt (tgt := 143) hx hb dX6_dense_81 (by decide) (fun c81 => ?_) (fun c81 => ?_)
                · have t81 := tq_lt (k := z80.toInt) (q := v72_9.toInt) c81 rfl rfl
                  refine lv_iload hx hb dX6_dense_143 (lv_at hl 4 rfl) ?_
                  refine lv_if_ne (tgt := 153) hx hb dX6_dense_145 (by decide) (fun c145 => ?_) (fun c145 => ?_)
                  · have t145 := tq_ne (k := p4.toInt) (q := (0)) c145 rfl (by decide +kernel)
                    refine lv_iload hx hb dX6_dense_153 (lv_at hl 4 rfl) ?_
                    refine lv_iconst (v := 1) hx hb dX6_dense_155 (by decide +kernel) ?_
                    refine lv_icmp_ne (tgt := 164) hx hb dX6_dense_156 (by decide) (fun c156 => ?_) (fun c156 => ?_)
                    · have t156 := tq_ne (k := p4.toInt) (q := (1)) c156 rfl (by decide +kernel)
                      refine lv_iload hx hb dX6_dense_164 (lv_at hl 8 rfl) ?_
                      subst hR; subst hQz
                      exact W.iret (v := v72_8) hx hb hr (fun t ht hW => ⟨⟨v72_8, (), rfl, (fun σ h => by have q := xpz2.1 t5; rw [cx_0 h] at q; have c := cxA_m (m := p1) h q; rw [show fm Q (an Q p0) p1.toInt.toNat = y27 from (by rw [show an Q p0 = y20 from gd_of ey20]; exact fm_of ey23 ey27)] at c; have k := cxM_ok c.1 c.2; have o1 := c.2.1; have o2 := c.2.2.1; have eW := congrArg Int32.toInt c.1.1; have eH := congrArg Int32.toInt c.1.2.1; have iW := (congrArg Int32.toInt ez38).trans eW; have iH := (congrArg Int32.toInt ez52).trans eH; exact ⟨fun _ => ⟨_, _, _, mx_end (g72 σ h) (by omega) (by omega) (by omega), by rw [if_neg t145, if_neg t156]⟩, fun w => absurd ⟨q, ⟨by omega, by omega⟩, ⟨by omega, by omega⟩, by omega, by omega⟩ w⟩), trivial⟩, hS.F ht⟩) hS.2.2 dX6_dense_166
                    · have t156 := tq_eq (k := p4.toInt) (q := (1)) c156 rfl (by decide +kernel)
                      refine lv_iload hx hb dX6_dense_159 (lv_at hl 7 rfl) ?_
                      refine lv_goto (tgt := 166) hx hb dX6_dense_161 (by decide) ?_
                      subst hR; subst hQz
                      exact W.iret (v := v72_7) hx hb hr (fun t ht hW => ⟨⟨v72_7, (), rfl, (fun σ h => by have q := xpz2.1 t5; rw [cx_0 h] at q; have c := cxA_m (m := p1) h q; rw [show fm Q (an Q p0) p1.toInt.toNat = y27 from (by rw [show an Q p0 = y20 from gd_of ey20]; exact fm_of ey23 ey27)] at c; have k := cxM_ok c.1 c.2; have o1 := c.2.1; have o2 := c.2.2.1; have eW := congrArg Int32.toInt c.1.1; have eH := congrArg Int32.toInt c.1.2.1; have iW := (congrArg Int32.toInt ez38).trans eW; have iH := (congrArg Int32.toInt ez52).trans eH; exact ⟨fun _ => ⟨_, _, _, mx_end (g72 σ h) (by omega) (by omega) (by omega), by rw [if_neg t145, if_pos t156]⟩, fun w => absurd ⟨q, ⟨by omega, by omega⟩, ⟨by omega, by omega⟩, by omega, by omega⟩ w⟩), trivial⟩, hS.F ht⟩) hS.2.2 dX6_dense_166
                  · have t145 := tq_eq (k := p4.toInt) (q := (0)) c145 rfl (by decide +kernel)
                    refine lv_iload hx hb dX6_dense_148 (lv_at hl 6 rfl) ?_
                    refine lv_goto (tgt := 166) hx hb dX6_dense_150 (by decide) ?_
                    subst hR; subst hQz
                    exact W.iret (v := v72_6) hx hb hr (fun t ht hW => ⟨⟨v72_6, (), rfl, (fun σ h => by have q := xpz2.1 t5; rw [cx_0 h] at q; have c := cxA_m (m := p1) h q; rw [show fm Q (an Q p0) p1.toInt.toNat = y27 from (by rw [show an Q p0 = y20 from gd_of ey20]; exact fm_of ey23 ey27)] at c; have k := cxM_ok c.1 c.2; have o1 := c.2.1; have o2 := c.2.2.1; have eW := congrArg Int32.toInt c.1.1; have eH := congrArg Int32.toInt c.1.2.1; have iW := (congrArg Int32.toInt ez38).trans eW; have iH := (congrArg Int32.toInt ez52).trans eH; exact ⟨fun _ => ⟨_, _, _, mx_end (g72 σ h) (by omega) (by omega) (by omega), by rw [if_pos t145]⟩, fun w => absurd ⟨q, ⟨by omega, by omega⟩, ⟨by omega, by omega⟩, by omega, by omega⟩ w⟩), trivial⟩, hS.F ht⟩) hS.2.2 dX6_dense_166
                · have t81 := tq_nlt (k := z80.toInt) (q := v72_9.toInt) c81 rfl rfl
                  refine lv_iconst (v := 0) hx hb dX6_dense_84 (by decide +kernel) ?_
                  refine lv_istore (lv' := [(10, .int 0), (0, .ref p0), (1, .int p1), (2, .int p2), (3, .int p3), (4, .int p4), (5, .ref y27), (6, .int v72_6), (7, .int v72_7), (8, .int v72_8), (9, .int v72_9)]) hx hb dX6_dense_85 hl (by decide) rfl (fun ls hl => ?_)
                  have key87 := blocks (fun n => ∀ (v87_10 : Int32) (v87_6 : Int32) (v87_7 : Int32) (v87_8 : Int32) (H : Heap) (lo : List Loc) (ls : Array Slot), (129 - v87_10.toInt).toNat = n → ((0) ≤ v87_10.toInt ∧ v87_10.toInt ≤ 128) → ((-1) ≤ v87_6.toInt ∧ v87_6.toInt ≤ 2147483647) → ((0) ≤ v87_7.toInt ∧ v87_7.toInt ≤ 127) → ((0) ≤ v87_8.toInt ∧ v87_8.toInt ≤ 39) → (∀ σ : Sx, cxA Q I J p0 σ → mxI (dnN σ p1 p2 p3) ((mW σ p1).toInt - p2.toInt) ((mH σ p1).toInt - p3.toInt) v72_9.toInt v87_10.toInt v87_6.toInt v87_7.toInt v87_8.toInt) → va_P (dC, dI) vwCl (Wd cs L K I J Q) H → va_S (fun _ => False) s.heap H lo → lv_has ls 12 [(0, .ref p0), (1, .int p1), (2, .int p2), (3, .int p3), (4, .int p4), (5, .ref y27), (6, .int v87_6), (7, .int v87_7), (8, .int v87_8), (9, .int v72_9), (10, .int v87_10)] → W p l e R s m (([.ref p0, .int p1, .int p2, .int p3, .int p4] : List Value).toArray) below meth c H lo 0 0 Qz (F0 m 87 ls [])) (by
                    intro n ih87
                    intro v87_10 v87_6 v87_7 v87_8 H lo ls hmu87 bv87_10 bv87_6 bv87_7 bv87_8 g87 hP hS hl
                    refine lv_iload hx hb dX6_dense_87 (lv_at hl 10 rfl) ?_
                    refine lv_aload hx hb dX6_dense_89 (lv_at hl 5 rfl) ?_
                    refine p_get hx hb hts inX3 hown hK hP hLy27 hKy27 rfl rfl 0 (by decide) (hts _ pq119) rfl dX6_dense_91 ?_
                    refine lv_topi (fun z91 ez91 => ?_)
                    obtain rfl : z38 = z91 := ez38.trans ez91.symm
                    refine lv_iload_n hx hb dX6_dense_94 rfl (lv_at hl 2 rfl) ?_
                    refine lv_isub hx hb dX6_dense_95 ?_
                    refine lv_topi (fun z95 ez95 => ?_)
                    have bz95 := tq_sub (k := z38.toInt) (q := p2.toInt) ez95 rfl rfl (by omega) (by omega)
                    refine lv_icmp_gt (tgt := 137) hx hb dX6_dense_96 (by decide) (fun c96 => ?_) (fun c96 => ?_)
                    · have t96 := tq_lt (k := z95.toInt) (q := v87_10.toInt) c96 rfl rfl
                      obtain ⟨z137, ez137⟩ : ∃ y : Int32, y = v72_9 + 1 := ⟨_, rfl⟩
                      refine lv_iinc (v := z137) (lv' := [(9, .int z137), (0, .ref p0), (1, .int p1), (2, .int p2), (3, .int p3), (4, .int p4), (5, .ref y27), (6, .int v87_6), (7, .int v87_7), (8, .int v87_8), (10, .int v87_10)]) hx hb dX6_dense_137 hl (k := 9) rfl (by rw [ez137]; rfl) (by decide) rfl (fun ls hl => ?_)
                      have bz137 := tq_add (k := v72_9.toInt) (q := 1) ez137 rfl (by decide +kernel) (by omega) (by omega)
                      refine lv_goto (tgt := 72) hx hb dX6_dense_140 (by decide) ?_
                      exact ih72 _ (by omega) v87_6 v87_7 v87_8 z137 _ _ _ rfl ⟨by omega, by have := fb_rng v87_6; omega⟩ ⟨by omega, by omega⟩ ⟨by omega, by omega⟩ ⟨by omega, by omega⟩ (fun σ h => by have q := xpz2.1 t5; rw [cx_0 h] at q; have c := cxA_m (m := p1) h q; rw [show fm Q (an Q p0) p1.toInt.toNat = y27 from (by rw [show an Q p0 = y20 from gd_of ey20]; exact fm_of ey23 ey27)] at c; have k := cxM_ok c.1 c.2; have o1 := c.2.1; have o2 := c.2.2.1; have eW := congrArg Int32.toInt c.1.1; have eH := congrArg Int32.toInt c.1.2.1; have iW := (congrArg Int32.toInt ez38).trans eW; have iH := (congrArg Int32.toInt ez52).trans eH; exact mx_nl (g87 σ h) (by omega) (by omega)) hP hS (lv_sub hl [1, 2, 3, 4, 5, 6, 7, 8, 9, 0] rfl)
                    · have t96 := tq_nlt (k := z95.toInt) (q := v87_10.toInt) c96 rfl rfl
                      refine lv_aload hx hb dX6_dense_99 (lv_at hl 5 rfl) ?_
                      refine lv_iload hx hb dX6_dense_101 (lv_at hl 10 rfl) ?_
                      refine lv_iload hx hb dX6_dense_103 (lv_at hl 9 rfl) ?_
                      refine lv_iload_n hx hb dX6_dense_105 rfl (lv_at hl 2 rfl) ?_
                      refine lv_iload_n hx hb dX6_dense_106 rfl (lv_at hl 3 rfl) ?_
                      refine ro_i (va_runV (As := [.int v87_10, .int v72_9, .int p2, .int p3]) (rest := []) ⟨hx, hb, hml, hown, hts⟩ (s_X3_dotsWithin l dC dI cs L K G Q hQ x0 m0 tx tm H.size I J hI y27 hLy27 hKy27 v87_10 v72_9 p2 p3) (cwV 4 hts (gV pq916 pq917 pq918 pq76 pq919) rfl rfl rfl (by decide +kernel) ⟨(by rw [hR]; exact (Nat.le_of_ble_eq_true rfl)), (by rw [hR]; exact (Nat.le_of_ble_eq_true rfl))⟩) (sP_V hP hD hK hN hLy27 hKy27 rfl rfl) rfl rfl hl.1 rfl (lv_room (Nat.le_of_ble_eq_true rfl)) dX6_dense_107 ⟨(by rw [hR]; exact (Nat.le_of_ble_eq_true rfl)), (by rw [hR]; exact (Nat.le_of_ble_eq_true rfl))⟩) hS hP (fun z107 H locs hz107 hP hS => ?_)
                      have xpz107 := hz107
                      refine lv_istore (lv' := [(11, .int z107), (0, .ref p0), (1, .int p1), (2, .int p2), (3, .int p3), (4, .int p4), (5, .ref y27), (6, .int v87_6), (7, .int v87_7), (8, .int v87_8), (9, .int v72_9), (10, .int v87_10)]) hx hb dX6_dense_110 hl (by decide) rfl (fun ls hl => ?_)
                      refine lv_iload hx hb dX6_dense_112 (lv_at hl 0 rfl) ?_
                      refine lv_iload hx hb dX6_dense_114 (lv_at hl 7 rfl) ?_
                      have j131 : ∀ (v131_6 : Int32) (v131_7 : Int32) (v131_8 : Int32) (H : Heap) (lo : List Loc) (ls : Array Slot), ((-1) ≤ v131_6.toInt ∧ v131_6.toInt ≤ 2147483647) → ((0) ≤ v131_7.toInt ∧ v131_7.toInt ≤ 127) → ((0) ≤ v131_8.toInt ∧ v131_8.toInt ≤ 39) → (∀ σ : Sx, cxA Q I J p0 σ → mxI (dnN σ p1 p2 p3) ((mW σ p1).toInt - p2.toInt) ((mH σ p1).toInt - p3.toInt) v72_9.toInt (v87_10.toInt + 1) v131_6.toInt v131_7.toInt v131_8.toInt) → va_P (dC, dI) vwCl (Wd cs L K I J Q) H → va_S (fun _ => False) s.heap H lo → lv_has ls 12 [(0, .ref p0), (1, .int p1), (2, .int p2), (3, .int p3), (4, .int p4), (5, .ref y27), (6, .int v131_6), (7, .int v131_7), (8, .int v131_8), (9, .int v72_9), (10, .int v87_10), (11, .int z107)] → W p l e R s m (([.ref p0, .int p1, .int p2, .int p3, .int p4] : List Value).toArray) below meth c H lo 0 0 Qz (F0 m 131 ls []) := by
                        intro v131_6 v131_7 v131_8 H lo ls bv131_6 bv131_7 bv131_8 g131 hP hS hl
                        obtain ⟨z131, ez131⟩ : ∃ y : Int32, y = v87_10 + 1 := ⟨_, rfl⟩
                        refine lv_iinc (v := z131) (lv' := [(10, .int z131), (0, .ref p0), (1, .int p1), (2, .int p2), (3, .int p3), (4, .int p4), (5, .ref y27), (6, .int v131_6), (7, .int v131_7), (8, .int v131_8), (9, .int v72_9), (11, .int z107)]) hx hb dX6_dense_131 hl (k := 10) rfl (by rw [ez131]; rfl) (by decide) rfl (fun ls hl => ?_)
                        have bz131 := tq_add (k := v87_10.toInt) (q := 1) ez131 rfl (by decide +kernel) (by omega) (by omega)
                        refine lv_goto (tgt := 87) hx hb dX6_dense_134 (by decide) ?_
                        exact ih87 _ (by omega) z131 v131_6 v131_7 v131_8 _ _ _ rfl ⟨by omega, by omega⟩ ⟨by omega, by have := fb_rng v131_6; omega⟩ ⟨by omega, by omega⟩ ⟨by omega, by omega⟩ (fun σ h => by rw [show z131.toInt = v87_10.toInt + 1 by omega]; exact g131 σ h) hP hS (lv_sub hl [1, 2, 3, 4, 5, 6, 7, 8, 9, 10, 0] rfl)
                      refine lv_icmp_le (tgt := 131) hx hb dX6_dense_116 (by decide) (fun c116 => ?_) (fun c116 => ?_)
                      · have t116 := tq_le (k := z107.toInt) (q := v87_6.toInt) c116 rfl rfl
                        exact j131 v87_6 v87_7 v87_8 _ _ _ ⟨by omega, by have := fb_rng v87_6; omega⟩ ⟨by omega, by omega⟩ ⟨by omega, by omega⟩ (fun σ h => by have q := xpz2.1 t5; rw [cx_0 h] at q; have c := cxA_m (m := p1) h q; rw [show fm Q (an Q p0) p1.toInt.toNat = y27 from (by rw [show an Q p0 = y20 from gd_of ey20]; exact fm_of ey23 ey27)] at c; have k := cxM_ok c.1 c.2; have o1 := c.2.1; have o2 := c.2.2.1; have eW := congrArg Int32.toInt c.1.1; have eH := congrArg Int32.toInt c.1.2.1; have iW := (congrArg Int32.toInt ez38).trans eW; have iH := (congrArg Int32.toInt ez52).trans eH; have w := xpz107 k.1 ⟨⟨by omega, by omega⟩, ⟨by omega, by omega⟩, ⟨by omega, by omega⟩, by omega, by omega⟩; rw [rc_congr c.1.2.2.1] at w; have v0 := rc_b (mF σ p1) v87_10.toInt v72_9.toInt p2.toInt p3.toInt; exact mx_old (g87 σ h) w (by omega) (by omega) rfl) hP hS (lv_sub hl [1, 2, 3, 4, 5, 6, 7, 8, 9, 10, 11, 0] rfl)
                      · have t116 := tq_nle (k := z107.toInt) (q := v87_6.toInt) c116 rfl rfl
                        refine lv_iload hx hb dX6_dense_119 (lv_at hl 0 rfl) ?_
                        refine lv_istore (lv' := [(6, .int z107), (11, .int z107), (0, .ref p0), (1, .int p1), (2, .int p2), (3, .int p3), (4, .int p4), (5, .ref y27), (7, .int v87_7), (8, .int v87_8), (9, .int v72_9), (10, .int v87_10)]) hx hb dX6_dense_121 hl (by decide) rfl (fun ls hl => ?_)
                        refine lv_iload hx hb dX6_dense_123 (lv_at hl 11 rfl) ?_
                        refine lv_istore (lv' := [(7, .int v87_10), (6, .int z107), (11, .int z107), (0, .ref p0), (1, .int p1), (2, .int p2), (3, .int p3), (4, .int p4), (5, .ref y27), (8, .int v87_8), (9, .int v72_9), (10, .int v87_10)]) hx hb dX6_dense_125 hl (by decide) rfl (fun ls hl => ?_)
                        refine lv_iload hx hb dX6_dense_127 (lv_at hl 10 rfl) ?_
                        refine lv_istore (lv' := [(8, .int v72_9), (7, .int v87_10), (6, .int z107), (11, .int z107), (0, .ref p0), (1, .int p1), (2, .int p2), (3, .int p3), (4, .int p4), (5, .ref y27), (9, .int v72_9), (10, .int v87_10)]) hx hb dX6_dense_129 hl (by decide) rfl (fun ls hl => ?_)
                        exact j131 z107 v87_10 v72_9 _ _ _ ⟨by omega, by have := fb_rng z107; omega⟩ ⟨by omega, by omega⟩ ⟨by omega, by omega⟩ (fun σ h => by have q := xpz2.1 t5; rw [cx_0 h] at q; have c := cxA_m (m := p1) h q; rw [show fm Q (an Q p0) p1.toInt.toNat = y27 from (by rw [show an Q p0 = y20 from gd_of ey20]; exact fm_of ey23 ey27)] at c; have k := cxM_ok c.1 c.2; have o1 := c.2.1; have o2 := c.2.2.1; have eW := congrArg Int32.toInt c.1.1; have eH := congrArg Int32.toInt c.1.2.1; have iW := (congrArg Int32.toInt ez38).trans eW; have iH := (congrArg Int32.toInt ez52).trans eH; have w := xpz107 k.1 ⟨⟨by omega, by omega⟩, ⟨by omega, by omega⟩, ⟨by omega, by omega⟩, by omega, by omega⟩; rw [rc_congr c.1.2.2.1] at w; have v0 := rc_b (mF σ p1) v87_10.toInt v72_9.toInt p2.toInt p3.toInt; exact mx_new (g87 σ h) w (by omega) ⟨by omega, by omega⟩ ⟨by omega, by omega⟩ rfl) hP hS (lv_sub hl [4, 5, 6, 7, 8, 9, 2, 1, 0, 10, 11, 3] rfl))
                  exact key87 _ 0 v72_6 v72_7 v72_8 _ _ _ rfl ⟨by decide +kernel, by decide +kernel⟩ ⟨by omega, by have := fb_rng v72_6; omega⟩ ⟨by omega, by omega⟩ ⟨by omega, by omega⟩ (fun σ h => by rw [show (0 : Int32).toInt = 0 from by decide +kernel]; exact g72 σ h) hP hS (lv_sub hl [1, 2, 3, 4, 5, 6, 7, 8, 9, 10, 0] rfl))
              exact key72 _ (-1) 0 0 0 _ _ _ rfl ⟨by decide +kernel, by decide +kernel⟩ ⟨by decide +kernel, by decide +kernel⟩ ⟨by decide +kernel, by decide +kernel⟩ ⟨by decide +kernel, by decide +kernel⟩ (fun σ h => by rw [show (0 : Int32).toInt = 0 from by decide +kernel, show (-1 : Int32).toInt = -1 from by decide +kernel]; exact mx_0) hP hS (lv_sub hl [5, 6, 7, 8, 9, 4, 3, 2, 1, 0] rfl)
            · have t55 := tq_nle (k := p3.toInt) (q := z52.toInt) c55 rfl rfl
              refine lv_iconst (v := (-1)) hx hb dX6_dense_58 (by decide +kernel) ?_
              subst hR; subst hQz
              exact W.iret (v := (-1)) hx hb hr (fun t ht hW => ⟨⟨(-1), (), rfl, (fun σ h => by refine ⟨fun w => absurd w (fun w => ?_), fun _ => by decide +kernel⟩; first | exact xpz2.2 t5 (by rw [cx_0 h]; exact w.1) | exact xpz11 t14 w.2.2.2 | (have a := w.2.1; have b := w.2.2.1; omega) | (have q := w.1; have c := cxA_m (m := p1) h q; rw [show fm Q (an Q p0) p1.toInt.toNat = y27 from (by rw [show an Q p0 = y20 from gd_of ey20]; exact fm_of ey23 ey27)] at c; have eW := congrArg Int32.toInt (ez38.trans c.1.1); have a := w.2.1; omega) | (have q := w.1; have c := cxA_m (m := p1) h q; rw [show fm Q (an Q p0) p1.toInt.toNat = y27 from (by rw [show an Q p0 = y20 from gd_of ey20]; exact fm_of ey23 ey27)] at c; have eH := congrArg Int32.toInt (ez52.trans c.1.2.1); have a := w.2.2.1; omega)), trivial⟩, hS.F ht⟩) hS.2.2 dX6_dense_59
    · have t14 := tq_eq (k := z11.toInt) (q := (0)) c14 rfl (by decide +kernel)
      refine lv_iconst (v := (-1)) hx hb dX6_dense_17 (by decide +kernel) ?_
      subst hR; subst hQz
      exact W.iret (v := (-1)) hx hb hr (fun t ht hW => ⟨⟨(-1), (), rfl, (fun σ h => by refine ⟨fun w => absurd w (fun w => ?_), fun _ => by decide +kernel⟩; first | exact xpz2.2 t5 (by rw [cx_0 h]; exact w.1) | exact xpz11 t14 w.2.2.2 | (have a := w.2.1; have b := w.2.2.1; omega) | (have q := w.1; have c := cxA_m (m := p1) h q; rw [show fm Q (an Q p0) p1.toInt.toNat = y27 from (by rw [show an Q p0 = y20 from gd_of ey20]; exact fm_of ey23 ey27)] at c; have eW := congrArg Int32.toInt (ez38.trans c.1.1); have a := w.2.1; omega) | (have q := w.1; have c := cxA_m (m := p1) h q; rw [show fm Q (an Q p0) p1.toInt.toNat = y27 from (by rw [show an Q p0 = y20 from gd_of ey20]; exact fm_of ey23 ey27)] at c; have eH := congrArg Int32.toInt (ez52.trans c.1.2.1); have a := w.2.2.1; omega)), trivial⟩, hS.F ht⟩) hS.2.2 dX6_dense_18

set_option maxHeartbeats 4000000 in
set_option maxRecDepth 100000 in
theorem s_X6_dots (l : Launch) (dC : Nat → ClassId) (dI : Nat → Nat → Nat) (cs : Nat → ClassId) (L : List Nat) (K G : Nat → Nat) (Q : Nat → Nat → Option Nat) (hQ : Sv L K G Q) (x0 m0 : Nat) (tx : GT) (tm : GT × Int) (sz : Nat) (I : Nat → Nat → Int32) (J : Nat → Nat → Int64) (hI : Iv L K x0 m0 tx tm I) (p0 : Nat) (hLp0 : p0 ∈ L) (hKp0 : K p0 = 6) (p1 : Int32) (p2 : Int32) (p3 : Int32) : Met l yX6_dots (.code yX6_dots cX6_dots 5 (some .int) :: pw) ({ frames := 3, cells := 0, slots := 0, locals := 79 }) (sP (dC, dI) cs [.ref p0, .int p1, .int p2, .int p3] sz L K I J Q) (va_Qi (fun (r : Int32) (_ : Unit) => (∀ σ : Sx, cxA Q I J p0 σ → r.toInt = dtsR σ p1 p2 p3)) (fun _ _ => True) (fun _ => False)) 0 0 (fun _ => False) := by
  refine Met.ofW (cc := cX6_dots) (maxL := 5) (ret := (some .int)) (by decide +kernel) rfl ?_
  intro p e s m args below meth c s₁ B hml hv
  obtain ⟨rfl, hsz, hP, hK, hD0, hN⟩ := hv
  have hx := B.exec
  have hb := B.bytes
  have hr := B.returns
  have hts := fun w (h : w ∈ pw) => atoms_spec (ws := Cond.code yX6_dots cX6_dots 5 (some .int) :: pw) B.pre w (List.mem_cons_of_mem _ h)
  have hown : s.vm.findClass RX6 = some m.cls := findClass_of_methodNamed B.named
  have hlocks := B.notSynchronized
  subst hsz
  have hBB : 999 ≤ tm.2 ∧ tm.2 ≤ 6000000 := hI.2.2.2.2.1
  have hD := hD0
  obtain ⟨H, hHe⟩ : ∃ H : Heap, H = s.heap := ⟨_, rfl⟩
  have hS : va_S (fun _ => False) s.heap H [] := by rw [hHe]; exact va_S.rf
  rw [← hHe] at hP
  have hl := lv_entry ([.ref p0, .int p1, .int p2, .int p3]) (n := 5) (Nat.le_of_ble_eq_true rfl)
  rw [lg_entry_eq]
  generalize (lg_sl ([.ref p0, .int p1, .int p2, .int p3]) ++ List.replicate (5 - (lg_sl ([.ref p0, .int p1, .int p2, .int p3])).length) Slot.unset).toArray = ls at hl ⊢
  have hl : lv_has ls 5 [(0, .ref p0), (1, .int p1), (2, .int p2), (3, .int p3)] := hl
  rw [← hHe]
  refine namedW (fun R Qz hR hQz => ?_)
  refine lv_aload_n hx hb dX6_dots_0 rfl (lv_at hl 0 rfl) ?_
  refine lv_iload_n hx hb dX6_dots_1 rfl (lv_at hl 1 rfl) ?_
  refine ro_i (va_runV (As := [.int p1]) (rest := []) ⟨hx, hb, hml, hown, hts⟩ (s_X6_isMask l dC dI cs L K G Q hQ x0 m0 tx tm H.size I J hI p0 hLp0 hKp0 p1) (cwV 1 hts (gV pq666 pq668 pq4 pq74 pq669) rfl rfl rfl (by decide +kernel) ⟨(by rw [hR]; exact (Nat.le_of_ble_eq_true rfl)), (by rw [hR]; exact (Nat.le_of_ble_eq_true rfl))⟩) (sP_V hP hD hK hN hLp0 hKp0 rfl rfl) rfl rfl hl.1 rfl (lv_room (Nat.le_of_ble_eq_true rfl)) dX6_dots_2 ⟨(by rw [hR]; exact (Nat.le_of_ble_eq_true rfl)), (by rw [hR]; exact (Nat.le_of_ble_eq_true rfl))⟩) hS hP (fun z2 H locs hz2 hP hS => ?_)
  obtain ⟨bz2, imz2, xpz2⟩ := hz2
  refine lv_if_eq (tgt := 12) hx hb dX6_dots_5 (by decide) (fun c5 => ?_) (fun c5 => ?_)
  · have t5 := tq_eq (k := z2.toInt) (q := (0)) c5 rfl (by decide +kernel)
    refine lv_iconst (v := (-1)) hx hb dX6_dots_12 (by decide +kernel) ?_
    subst hR; subst hQz
    exact W.iret (v := (-1)) hx hb hr (fun t ht hW => ⟨⟨(-1), (), rfl, (fun σ h => by rw [dts_n (fun w => by first | exact xpz2.2 t5 (by rw [cx_0 h]; exact w.1) | (have a := w.2; omega) | (have a := w.2; have g := g43 σ h; rw [← g] at a; omega))]; decide +kernel), trivial⟩, hS.F ht⟩) hS.2.2 dX6_dots_13
  · have t5 := tq_ne (k := z2.toInt) (q := (0)) c5 rfl (by decide +kernel)
    have i5 := imz2 t5
    refine lv_iload_n hx hb dX6_dots_8 rfl (lv_at hl 3 rfl) ?_
    refine lv_if_ge (tgt := 14) hx hb dX6_dots_9 (by decide) (fun c9 => ?_) (fun c9 => ?_)
    · have t9 := tq_le (k := (0)) (q := p3.toInt) c9 (by decide +kernel) rfl
      refine lv_aload_n hx hb dX6_dots_14 rfl (lv_at hl 0 rfl) ?_
      obtain ⟨y15, ey15, hLy15, hKy15, hGy15⟩ := oQ_6_2 (Sv_at hQ hLp0 hKp0)
      refine p_get (v := .ref y15) hx hb hts inX6 hown hK hP hLp0 hKp0 rfl rfl 2 (by decide) (hts _ pq351) (congrArg (fun q => some (va_rf q)) ey15) dX6_dots_15 ?_
      obtain ⟨y18, ey18, hLy18, hKy18, hGy18⟩ := oQ_1_0 (Sv_at hQ hLy15 hKy15)
      refine p_get (v := .ref y18) hx hb hts inX1 hown hK hP hLy15 hKy15 rfl rfl 0 (by decide) (hts _ pq216) (congrArg (fun q => some (va_rf q)) ey18) dX6_dots_18 ?_
      refine lv_iload_n hx hb dX6_dots_21 rfl (lv_at hl 1 rfl) ?_
      obtain ⟨y22, ey22, hLy22, hKy22, hGy22⟩ := (Sv_at hQ hLy18 hKy18).1 p1.toNatClampNeg (clamp_lt (n := 8) (in_of (by omega) (by omega)))
      have hjy22 : p1.toNatClampNeg < 8 := clamp_lt (i := p1) (n := 8) (in_of (by omega) (by omega))
      refine p_aaldR hx hb hK hP 3 hLy18 hKy18 rfl rfl (in_of (by omega) (by omega)) ey22 dX6_dots_22 ?_
      refine lv_astore (lv' := [(4, .ref y22), (0, .ref p0), (1, .int p1), (2, .int p2), (3, .int p3)]) hx hb dX6_dots_23 hl (by decide) rfl (fun ls hl => ?_)
      refine lv_iload_n hx hb dX6_dots_25 rfl (lv_at hl 4 rfl) ?_
      refine lv_iload_n hx hb dX6_dots_26 rfl (lv_at hl 3 rfl) ?_
      have j43 : ∀ (w43_1 : Int32) (H : Heap) (lo : List Loc) (ls : Array Slot), ((-300) ≤ w43_1.toInt ∧ w43_1.toInt ≤ 128) → (∀ σ : Sx, cxA Q I J p0 σ → w43_1.toInt = (if p2.toInt = 0 then (mH σ p1).toInt else (mW σ p1).toInt)) → va_P (dC, dI) vwCl (Wd cs L K I J Q) H → va_S (fun _ => False) s.heap H lo → lv_has ls 5 [(0, .ref p0), (1, .int p1), (2, .int p2), (3, .int p3), (4, .ref y22)] → W p l e R s m (([.ref p0, .int p1, .int p2, .int p3] : List Value).toArray) below meth c H lo 0 0 Qz (F0 m 43 ls [.int w43_1, .int p3]) := by
        intro w43_1 H lo ls bw43_1 g43 hP hS hl
        refine lv_icmp_lt (tgt := 48) hx hb dX6_dots_43 (by decide) (fun c43 => ?_) (fun c43 => ?_)
        · have t43 := tq_lt (k := p3.toInt) (q := w43_1.toInt) c43 rfl rfl
          refine lv_iload_n hx hb dX6_dots_48 rfl (lv_at hl 2 rfl) ?_
          refine lv_if_eq (tgt := 68) hx hb dX6_dots_49 (by decide) (fun c49 => ?_) (fun c49 => ?_)
          · have t49 := tq_eq (k := p2.toInt) (q := (0)) c49 rfl (by decide +kernel)
            refine lv_aload hx hb dX6_dots_68 (lv_at hl 4 rfl) ?_
            refine lv_iconst (v := 0) hx hb dX6_dots_70 (by decide +kernel) ?_
            refine lv_iload_n hx hb dX6_dots_71 rfl (lv_at hl 3 rfl) ?_
            refine lv_aload hx hb dX6_dots_72 (lv_at hl 4 rfl) ?_
            refine p_get hx hb hts inX3 hown hK hP hLy22 hKy22 rfl rfl 0 (by decide) (hts _ pq119) rfl dX6_dots_74 ?_
            refine lv_topi (fun z74 ez74 => ?_)
            have bz74 := oI_3_0 (Iv_at hI hLy22 hKy22)
            rw [← ez74] at bz74
            refine lv_iconst (v := 1) hx hb dX6_dots_77 (by decide +kernel) ?_
            refine ro_i (va_runV (As := [.int 0, .int p3, .int z74, .int 1]) (rest := []) ⟨hx, hb, hml, hown, hts⟩ (s_X3_dotsWithin l dC dI cs L K G Q hQ x0 m0 tx tm H.size I J hI y22 hLy22 hKy22 0 p3 z74 1) (cwV 4 hts (gV pq916 pq917 pq918 pq76 pq919) rfl rfl rfl (by decide +kernel) ⟨(by rw [hR]; exact (Nat.le_of_ble_eq_true rfl)), (by rw [hR]; exact (Nat.le_of_ble_eq_true rfl))⟩) (sP_V hP hD hK hN hLy22 hKy22 rfl rfl) rfl rfl hl.1 rfl (lv_room (Nat.le_of_ble_eq_true rfl)) dX6_dots_78 ⟨(by rw [hR]; exact (Nat.le_of_ble_eq_true rfl)), (by rw [hR]; exact (Nat.le_of_ble_eq_true rfl))⟩) hS hP (fun z78 H locs hz78 hP hS => ?_)
            have cst78_0 : (0 : Int32).toInt = 0 := by decide +kernel
            have cst78_1 : (1 : Int32).toInt = 1 := by decide +kernel
            have xpz78 := hz78
            try rw [cst78_0] at xpz78
            try rw [cst78_1] at xpz78
            subst hR; subst hQz
            exact W.iret (v := z78) hx hb hr (fun t ht hW => ⟨⟨z78, (), rfl, (fun σ h => by have q := xpz2.1 t5; rw [cx_0 h] at q; have c := cxA_m (m := p1) h q; rw [show fm Q (an Q p0) p1.toInt.toNat = y22 from (by rw [show an Q p0 = y15 from gd_of ey15]; exact fm_of ey18 ey22)] at c; have k := cxM_ok c.1 c.2; have o1 := c.2.1; have o2 := c.2.2.1; have eW := congrArg Int32.toInt c.1.1; have eH := congrArg Int32.toInt c.1.2.1; have g := g43 σ h; have V : dtsV σ p1 p2 p3 := ⟨q, by omega, by rw [← g]; exact t43⟩; rw [dts_y V]; unfold dtsN; rw [if_pos t49]; rw [if_pos t49] at g; have e74 := (congrArg Int32.toInt ez74).trans eW; have w := xpz78 k.1 ⟨⟨by decide +kernel, by decide +kernel⟩, ⟨by omega, by omega⟩, ⟨by omega, by omega⟩, by decide +kernel, by decide +kernel⟩; (try rw [show (0 : Int32).toInt = 0 from by decide +kernel] at w); (try rw [show (1 : Int32).toInt = 1 from by decide +kernel] at w); rw [w, rc_congr c.1.2.2.1, e74]), trivial⟩, hS.F ht⟩) hS.2.2 dX6_dots_81
          · have t49 := tq_ne (k := p2.toInt) (q := (0)) c49 rfl (by decide +kernel)
            refine lv_aload hx hb dX6_dots_52 (lv_at hl 4 rfl) ?_
            refine lv_iload_n hx hb dX6_dots_54 rfl (lv_at hl 3 rfl) ?_
            refine lv_iconst (v := 0) hx hb dX6_dots_55 (by decide +kernel) ?_
            refine lv_iconst (v := 1) hx hb dX6_dots_56 (by decide +kernel) ?_
            refine lv_aload hx hb dX6_dots_57 (lv_at hl 4 rfl) ?_
            refine p_get hx hb hts inX3 hown hK hP hLy22 hKy22 rfl rfl 1 (by decide) (hts _ pq123) rfl dX6_dots_59 ?_
            refine lv_topi (fun z59 ez59 => ?_)
            have bz59 := oI_3_1 (Iv_at hI hLy22 hKy22)
            rw [← ez59] at bz59
            refine ro_i (va_runV (As := [.int p3, .int 0, .int 1, .int z59]) (rest := []) ⟨hx, hb, hml, hown, hts⟩ (s_X3_dotsWithin l dC dI cs L K G Q hQ x0 m0 tx tm H.size I J hI y22 hLy22 hKy22 p3 0 1 z59) (cwV 4 hts (gV pq916 pq917 pq918 pq76 pq919) rfl rfl rfl (by decide +kernel) ⟨(by rw [hR]; exact (Nat.le_of_ble_eq_true rfl)), (by rw [hR]; exact (Nat.le_of_ble_eq_true rfl))⟩) (sP_V hP hD hK hN hLy22 hKy22 rfl rfl) rfl rfl hl.1 rfl (lv_room (Nat.le_of_ble_eq_true rfl)) dX6_dots_62 ⟨(by rw [hR]; exact (Nat.le_of_ble_eq_true rfl)), (by rw [hR]; exact (Nat.le_of_ble_eq_true rfl))⟩) hS hP (fun z62 H locs hz62 hP hS => ?_)
            have cst62_0 : (0 : Int32).toInt = 0 := by decide +kernel
            have cst62_1 : (1 : Int32).toInt = 1 := by decide +kernel
            have xpz62 := hz62
            try rw [cst62_0] at xpz62
            try rw [cst62_1] at xpz62
            refine lv_goto (tgt := 81) hx hb dX6_dots_65 (by decide) ?_
            subst hR; subst hQz
            exact W.iret (v := z62) hx hb hr (fun t ht hW => ⟨⟨z62, (), rfl, (fun σ h => by have q := xpz2.1 t5; rw [cx_0 h] at q; have c := cxA_m (m := p1) h q; rw [show fm Q (an Q p0) p1.toInt.toNat = y22 from (by rw [show an Q p0 = y15 from gd_of ey15]; exact fm_of ey18 ey22)] at c; have k := cxM_ok c.1 c.2; have o1 := c.2.1; have o2 := c.2.2.1; have eW := congrArg Int32.toInt c.1.1; have eH := congrArg Int32.toInt c.1.2.1; have g := g43 σ h; have V : dtsV σ p1 p2 p3 := ⟨q, by omega, by rw [← g]; exact t43⟩; rw [dts_y V]; unfold dtsN; rw [if_neg t49]; rw [if_neg t49] at g; have e59 := (congrArg Int32.toInt ez59).trans eH; have w := xpz62 k.1 ⟨⟨by omega, by omega⟩, ⟨by decide +kernel, by decide +kernel⟩, ⟨by decide +kernel, by decide +kernel⟩, by omega, by omega⟩; (try rw [show (0 : Int32).toInt = 0 from by decide +kernel] at w); (try rw [show (1 : Int32).toInt = 1 from by decide +kernel] at w); rw [w, rc_congr c.1.2.2.1, e59]), trivial⟩, hS.F ht⟩) hS.2.2 dX6_dots_81
        · have t43 := tq_nlt (k := p3.toInt) (q := w43_1.toInt) c43 rfl rfl
          refine lv_iconst (v := (-1)) hx hb dX6_dots_46 (by decide +kernel) ?_
          subst hR; subst hQz
          exact W.iret (v := (-1)) hx hb hr (fun t ht hW => ⟨⟨(-1), (), rfl, (fun σ h => by rw [dts_n (fun w => by first | exact xpz2.2 t5 (by rw [cx_0 h]; exact w.1) | (have a := w.2; omega) | (have a := w.2; have g := g43 σ h; rw [← g] at a; omega))]; decide +kernel), trivial⟩, hS.F ht⟩) hS.2.2 dX6_dots_47
      refine lv_if_eq (tgt := 38) hx hb dX6_dots_27 (by decide) (fun c27 => ?_) (fun c27 => ?_)
      · have t27 := tq_eq (k := p2.toInt) (q := (0)) c27 rfl (by decide +kernel)
        refine lv_aload hx hb dX6_dots_38 (lv_at hl 0 rfl) ?_
        refine p_get hx hb hts inX3 hown hK hP hLy22 hKy22 rfl rfl 1 (by decide) (hts _ pq123) rfl dX6_dots_40 ?_
        refine lv_topi (fun z40 ez40 => ?_)
        have bz40 := oI_3_1 (Iv_at hI hLy22 hKy22)
        rw [← ez40] at bz40
        exact j43 z40 _ _ _ ⟨by omega, by omega⟩ (fun σ h => by have q := xpz2.1 t5; rw [cx_0 h] at q; have c := cxA_m (m := p1) h q; rw [show fm Q (an Q p0) p1.toInt.toNat = y22 from (by rw [show an Q p0 = y15 from gd_of ey15]; exact fm_of ey18 ey22)] at c; have k := cxM_ok c.1 c.2; have o1 := c.2.1; have o2 := c.2.2.1; have eW := congrArg Int32.toInt c.1.1; have eH := congrArg Int32.toInt c.1.2.1; rw [if_pos t27, congrArg Int32.toInt ez40]; exact eH) hP hS (lv_sub hl [1, 2, 3, 4, 0] rfl)
      · have t27 := tq_ne (k := p2.toInt) (q := (0)) c27 rfl (by decide +kernel)
        refine lv_aload hx hb dX6_dots_30 (lv_at hl 0 rfl) ?_
        refine p_get hx hb hts inX3 hown hK hP hLy22 hKy22 rfl rfl 0 (by decide) (hts _ pq119) rfl dX6_dots_32 ?_
        refine lv_topi (fun z32 ez32 => ?_)
        have bz32 := oI_3_0 (Iv_at hI hLy22 hKy22)
        rw [← ez32] at bz32
        refine lv_goto (tgt := 43) hx hb dX6_dots_35 (by decide) ?_
        exact j43 z32 _ _ _ ⟨by omega, by omega⟩ (fun σ h => by have q := xpz2.1 t5; rw [cx_0 h] at q; have c := cxA_m (m := p1) h q; rw [show fm Q (an Q p0) p1.toInt.toNat = y22 from (by rw [show an Q p0 = y15 from gd_of ey15]; exact fm_of ey18 ey22)] at c; have k := cxM_ok c.1 c.2; have o1 := c.2.1; have o2 := c.2.2.1; have eW := congrArg Int32.toInt c.1.1; have eH := congrArg Int32.toInt c.1.2.1; rw [if_neg t27, congrArg Int32.toInt ez32]; exact eW) hP hS (lv_sub hl [1, 2, 3, 4, 0] rfl)
    · have t9 := tq_nle (k := (0)) (q := p3.toInt) c9 (by decide +kernel) rfl
      refine lv_iconst (v := (-1)) hx hb dX6_dots_12 (by decide +kernel) ?_
      subst hR; subst hQz
      exact W.iret (v := (-1)) hx hb hr (fun t ht hW => ⟨⟨(-1), (), rfl, (fun σ h => by rw [dts_n (fun w => by first | exact xpz2.2 t5 (by rw [cx_0 h]; exact w.1) | (have a := w.2; omega) | (have a := w.2; have g := g43 σ h; rw [← g] at a; omega))]; decide +kernel), trivial⟩, hS.F ht⟩) hS.2.2 dX6_dots_13

set_option maxHeartbeats 4000000 in
set_option maxRecDepth 100000 in
theorem s_X6_spread (l : Launch) (dC : Nat → ClassId) (dI : Nat → Nat → Nat) (cs : Nat → ClassId) (L : List Nat) (K G : Nat → Nat) (Q : Nat → Nat → Option Nat) (hQ : Sv L K G Q) (x0 m0 : Nat) (tx : GT) (tm : GT × Int) (sz : Nat) (I : Nat → Nat → Int32) (J : Nat → Nat → Int64) (hI : Iv L K x0 m0 tx tm I) (p0 : Nat) (hLp0 : p0 ∈ L) (hKp0 : K p0 = 6) (p1 : Int32) (p2 : Int32) : Met l yX6_spread (.code yX6_spread cX6_spread 3 (some .int) :: pw) ({ frames := 4, cells := 0, slots := 0, locals := 101 }) (sP (dC, dI) cs [.ref p0, .int p1, .int p2] sz L K I J Q) (va_Qi (fun (r : Int32) (_ : Unit) => (∀ σ : Sx, cxA Q I J p0 σ → spR σ p1 p2 r)) (fun _ _ => True) (fun _ => False)) 0 0 (fun _ => False) := by
  refine Met.ofW (cc := cX6_spread) (maxL := 3) (ret := (some .int)) (by decide +kernel) rfl ?_
  intro p e s m args below meth c s₁ B hml hv
  obtain ⟨rfl, hsz, hP, hK, hD0, hN⟩ := hv
  have hx := B.exec
  have hb := B.bytes
  have hr := B.returns
  have hts := fun w (h : w ∈ pw) => atoms_spec (ws := Cond.code yX6_spread cX6_spread 3 (some .int) :: pw) B.pre w (List.mem_cons_of_mem _ h)
  have hown : s.vm.findClass RX6 = some m.cls := findClass_of_methodNamed B.named
  have hlocks := B.notSynchronized
  subst hsz
  have hBB : 999 ≤ tm.2 ∧ tm.2 ≤ 6000000 := hI.2.2.2.2.1
  have hD := hD0
  obtain ⟨H, hHe⟩ : ∃ H : Heap, H = s.heap := ⟨_, rfl⟩
  have hS : va_S (fun _ => False) s.heap H [] := by rw [hHe]; exact va_S.rf
  rw [← hHe] at hP
  have hl := lv_entry ([.ref p0, .int p1, .int p2]) (n := 3) (Nat.le_of_ble_eq_true rfl)
  rw [lg_entry_eq]
  generalize (lg_sl ([.ref p0, .int p1, .int p2]) ++ List.replicate (3 - (lg_sl ([.ref p0, .int p1, .int p2])).length) Slot.unset).toArray = ls at hl ⊢
  have hl : lv_has ls 3 [(0, .ref p0), (1, .int p1), (2, .int p2)] := hl
  rw [← hHe]
  refine namedW (fun R Qz hR hQz => ?_)
  refine lv_aload_n hx hb dX6_spread_0 rfl (lv_at hl 0 rfl) ?_
  refine lv_iload_n hx hb dX6_spread_1 rfl (lv_at hl 1 rfl) ?_
  refine ro_i (va_runV (As := [.int p1]) (rest := []) ⟨hx, hb, hml, hown, hts⟩ (s_X6_isMask l dC dI cs L K G Q hQ x0 m0 tx tm H.size I J hI p0 hLp0 hKp0 p1) (cwV 1 hts (gV pq666 pq668 pq4 pq74 pq669) rfl rfl rfl (by decide +kernel) ⟨(by rw [hR]; exact (Nat.le_of_ble_eq_true rfl)), (by rw [hR]; exact (Nat.le_of_ble_eq_true rfl))⟩) (sP_V hP hD hK hN hLp0 hKp0 rfl rfl) rfl rfl hl.1 rfl (lv_room (Nat.le_of_ble_eq_true rfl)) dX6_spread_2 ⟨(by rw [hR]; exact (Nat.le_of_ble_eq_true rfl)), (by rw [hR]; exact (Nat.le_of_ble_eq_true rfl))⟩) hS hP (fun z2 H locs hz2 hP hS => ?_)
  obtain ⟨bz2, imz2, xpz2⟩ := hz2
  refine lv_if_ne (tgt := 10) hx hb dX6_spread_5 (by decide) (fun c5 => ?_) (fun c5 => ?_)
  · have t5 := tq_ne (k := z2.toInt) (q := (0)) c5 rfl (by decide +kernel)
    have i5 := imz2 t5
    refine lv_iload_n hx hb dX6_spread_10 rfl (lv_at hl 2 rfl) ?_
    refine lv_topi (fun z11 ez11 => ?_)
    rcases sw3 z11 with rfl | rfl | rfl | hsw11
    · refine lv_tableIn (off := 25) (tgt := 36) hx hb dX6_spread_11 (by decide +kernel) (by decide +kernel) (by decide +kernel) (by decide) ?_
      have sv11 : p2.toInt = 0 := by rw [← ez11]; decide +kernel
      refine lv_aload_n hx hb dX6_spread_36 rfl (lv_at hl 0 rfl) ?_
      obtain ⟨y37, ey37, hLy37, hKy37, hGy37⟩ := oQ_6_2 (Sv_at hQ hLp0 hKp0)
      refine p_get (v := .ref y37) hx hb hts inX6 hown hK hP hLp0 hKp0 rfl rfl 2 (by decide) (hts _ pq351) (congrArg (fun q => some (va_rf q)) ey37) dX6_spread_37 ?_
      obtain ⟨y40, ey40, hLy40, hKy40, hGy40⟩ := oQ_1_0 (Sv_at hQ hLy37 hKy37)
      refine p_get (v := .ref y40) hx hb hts inX1 hown hK hP hLy37 hKy37 rfl rfl 0 (by decide) (hts _ pq216) (congrArg (fun q => some (va_rf q)) ey40) dX6_spread_40 ?_
      refine lv_iload_n hx hb dX6_spread_43 rfl (lv_at hl 1 rfl) ?_
      obtain ⟨y44, ey44, hLy44, hKy44, hGy44⟩ := (Sv_at hQ hLy40 hKy40).1 p1.toNatClampNeg (clamp_lt (n := 8) (in_of (by omega) (by omega)))
      have hjy44 : p1.toNatClampNeg < 8 := clamp_lt (i := p1) (n := 8) (in_of (by omega) (by omega))
      refine p_aaldR hx hb hK hP 3 hLy40 hKy40 rfl rfl (in_of (by omega) (by omega)) ey44 dX6_spread_44 ?_
      refine ro_i (va_runV (As := []) (rest := []) ⟨hx, hb, hml, hown, hts⟩ (s_X3_sumOfX l dC dI cs L K G Q hQ x0 m0 tx tm H.size I J hI y44 hLy44 hKy44) (cwV 0 hts (gV pq928 pq929 pq930 pq76 pq931) rfl rfl rfl (by decide +kernel) ⟨(by rw [hR]; exact (Nat.le_of_ble_eq_true rfl)), (by rw [hR]; exact (Nat.le_of_ble_eq_true rfl))⟩) (sP_V hP hD hK hN hLy44 hKy44 rfl rfl) rfl rfl hl.1 rfl (lv_room (Nat.le_of_ble_eq_true rfl)) dX6_spread_45 ⟨(by rw [hR]; exact (Nat.le_of_ble_eq_true rfl)), (by rw [hR]; exact (Nat.le_of_ble_eq_true rfl))⟩) hS hP (fun z45 H locs hz45 hP hS => ?_)
      have xpz45 := hz45
      subst hR; subst hQz
      exact W.iret (v := z45) hx hb hr (fun t ht hW => ⟨⟨z45, (), rfl, (fun σ h => by have e11 := congrArg Int32.toInt ez11; have q := xpz2.1 t5; rw [cx_0 h] at q; have c := cxA_m (m := p1) h q; rw [show fm Q (an Q p0) p1.toInt.toNat = y44 from (by rw [show an Q p0 = y37 from gd_of ey37]; exact fm_of ey40 ey44)] at c; have k := cxM_ok c.1 c.2; have o1 := c.2.1; have o2 := c.2.2.1; have eW := congrArg Int32.toInt c.1.1; have eH := congrArg Int32.toInt c.1.2.1; have w := xpz45 k.1; exact ⟨fun _ => ⟨fun w => absurd w (by omega), fun _ => by rw [w, show p2.toInt = 0 by omega]; exact wZ_congr (fun x y _ _ _ _ => md_congr c.1.2.2.1 x y)⟩, fun w => absurd ⟨q, by omega, by omega⟩ w⟩), trivial⟩, hS.F ht⟩) hS.2.2 dX6_spread_48
    · refine lv_tableIn (off := 38) (tgt := 49) hx hb dX6_spread_11 (by decide +kernel) (by decide +kernel) (by decide +kernel) (by decide) ?_
      have sv11 : p2.toInt = 1 := by rw [← ez11]; decide +kernel
      refine lv_aload_n hx hb dX6_spread_49 rfl (lv_at hl 0 rfl) ?_
      obtain ⟨y50, ey50, hLy50, hKy50, hGy50⟩ := oQ_6_2 (Sv_at hQ hLp0 hKp0)
      refine p_get (v := .ref y50) hx hb hts inX6 hown hK hP hLp0 hKp0 rfl rfl 2 (by decide) (hts _ pq351) (congrArg (fun q => some (va_rf q)) ey50) dX6_spread_50 ?_
      obtain ⟨y53, ey53, hLy53, hKy53, hGy53⟩ := oQ_1_0 (Sv_at hQ hLy50 hKy50)
      refine p_get (v := .ref y53) hx hb hts inX1 hown hK hP hLy50 hKy50 rfl rfl 0 (by decide) (hts _ pq216) (congrArg (fun q => some (va_rf q)) ey53) dX6_spread_53 ?_
      refine lv_iload_n hx hb dX6_spread_56 rfl (lv_at hl 1 rfl) ?_
      obtain ⟨y57, ey57, hLy57, hKy57, hGy57⟩ := (Sv_at hQ hLy53 hKy53).1 p1.toNatClampNeg (clamp_lt (n := 8) (in_of (by omega) (by omega)))
      have hjy57 : p1.toNatClampNeg < 8 := clamp_lt (i := p1) (n := 8) (in_of (by omega) (by omega))
      refine p_aaldR hx hb hK hP 3 hLy53 hKy53 rfl rfl (in_of (by omega) (by omega)) ey57 dX6_spread_57 ?_
      refine ro_i (va_runV (As := []) (rest := []) ⟨hx, hb, hml, hown, hts⟩ (s_X3_sumOfY l dC dI cs L K G Q hQ x0 m0 tx tm H.size I J hI y57 hLy57 hKy57) (cwV 0 hts (gV pq933 pq934 pq935 pq76 pq936) rfl rfl rfl (by decide +kernel) ⟨(by rw [hR]; exact (Nat.le_of_ble_eq_true rfl)), (by rw [hR]; exact (Nat.le_of_ble_eq_true rfl))⟩) (sP_V hP hD hK hN hLy57 hKy57 rfl rfl) rfl rfl hl.1 rfl (lv_room (Nat.le_of_ble_eq_true rfl)) dX6_spread_58 ⟨(by rw [hR]; exact (Nat.le_of_ble_eq_true rfl)), (by rw [hR]; exact (Nat.le_of_ble_eq_true rfl))⟩) hS hP (fun z58 H locs hz58 hP hS => ?_)
      have xpz58 := hz58
      subst hR; subst hQz
      exact W.iret (v := z58) hx hb hr (fun t ht hW => ⟨⟨z58, (), rfl, (fun σ h => by have e11 := congrArg Int32.toInt ez11; have q := xpz2.1 t5; rw [cx_0 h] at q; have c := cxA_m (m := p1) h q; rw [show fm Q (an Q p0) p1.toInt.toNat = y57 from (by rw [show an Q p0 = y50 from gd_of ey50]; exact fm_of ey53 ey57)] at c; have k := cxM_ok c.1 c.2; have o1 := c.2.1; have o2 := c.2.2.1; have eW := congrArg Int32.toInt c.1.1; have eH := congrArg Int32.toInt c.1.2.1; have w := xpz58 k.1; exact ⟨fun _ => ⟨fun w => absurd w (by omega), fun _ => by rw [w, show p2.toInt = 1 by omega]; exact wZ_congr (fun x y _ _ _ _ => md_congr c.1.2.2.1 x y)⟩, fun w => absurd ⟨q, by omega, by omega⟩ w⟩), trivial⟩, hS.F ht⟩) hS.2.2 dX6_spread_61
    · refine lv_tableIn (off := 51) (tgt := 62) hx hb dX6_spread_11 (by decide +kernel) (by decide +kernel) (by decide +kernel) (by decide) ?_
      have sv11 : p2.toInt = 2 := by rw [← ez11]; decide +kernel
      refine lv_aload_n hx hb dX6_spread_62 rfl (lv_at hl 0 rfl) ?_
      obtain ⟨y63, ey63, hLy63, hKy63, hGy63⟩ := oQ_6_2 (Sv_at hQ hLp0 hKp0)
      refine p_get (v := .ref y63) hx hb hts inX6 hown hK hP hLp0 hKp0 rfl rfl 2 (by decide) (hts _ pq351) (congrArg (fun q => some (va_rf q)) ey63) dX6_spread_63 ?_
      obtain ⟨y66, ey66, hLy66, hKy66, hGy66⟩ := oQ_1_0 (Sv_at hQ hLy63 hKy63)
      refine p_get (v := .ref y66) hx hb hts inX1 hown hK hP hLy63 hKy63 rfl rfl 0 (by decide) (hts _ pq216) (congrArg (fun q => some (va_rf q)) ey66) dX6_spread_66 ?_
      refine lv_iload_n hx hb dX6_spread_69 rfl (lv_at hl 1 rfl) ?_
      obtain ⟨y70, ey70, hLy70, hKy70, hGy70⟩ := (Sv_at hQ hLy66 hKy66).1 p1.toNatClampNeg (clamp_lt (n := 8) (in_of (by omega) (by omega)))
      have hjy70 : p1.toNatClampNeg < 8 := clamp_lt (i := p1) (n := 8) (in_of (by omega) (by omega))
      refine p_aaldR hx hb hK hP 3 hLy66 hKy66 rfl rfl (in_of (by omega) (by omega)) ey70 dX6_spread_70 ?_
      refine ro_i (va_runV (As := []) (rest := []) ⟨hx, hb, hml, hown, hts⟩ (s_X3_farthestApart l dC dI cs L K G Q hQ x0 m0 tx tm H.size I J hI y70 hLy70 hKy70) (cwV 0 hts (gV pq941 pq942 pq943 pq76 pq944) rfl rfl rfl (by decide +kernel) ⟨(by rw [hR]; exact (Nat.le_of_ble_eq_true rfl)), (by rw [hR]; exact (Nat.le_of_ble_eq_true rfl))⟩) (sP_V hP hD hK hN hLy70 hKy70 rfl rfl) rfl rfl hl.1 rfl (lv_room (Nat.le_of_ble_eq_true rfl)) dX6_spread_71 ⟨(by rw [hR]; exact (Nat.le_of_ble_eq_true rfl)), (by rw [hR]; exact (Nat.le_of_ble_eq_true rfl))⟩) hS hP (fun z71 H locs hz71 hP hS => ?_)
      have xpz71 := hz71
      subst hR; subst hQz
      exact W.iret (v := z71) hx hb hr (fun t ht hW => ⟨⟨z71, (), rfl, (fun σ h => by have e11 := congrArg Int32.toInt ez11; have q := xpz2.1 t5; rw [cx_0 h] at q; have c := cxA_m (m := p1) h q; rw [show fm Q (an Q p0) p1.toInt.toNat = y70 from (by rw [show an Q p0 = y63 from gd_of ey63]; exact fm_of ey66 ey70)] at c; have k := cxM_ok c.1 c.2; have o1 := c.2.1; have o2 := c.2.2.1; have eW := congrArg Int32.toInt c.1.1; have eH := congrArg Int32.toInt c.1.2.1; exact ⟨fun _ => ⟨fun _ => fr_congr (fun x y => md_congr c.1.2.2.1 x y) (xpz71 k.1 k.2), fun w => absurd (show p2.toInt = 2 by omega) w⟩, fun w => absurd ⟨q, by omega, by omega⟩ w⟩), trivial⟩, hS.F ht⟩) hS.2.2 dX6_spread_74
    · refine lv_tableOut (tgt := 75) hx hb dX6_spread_11 hsw11 (by decide) ?_
      refine lv_iconst (v := (-1)) hx hb dX6_spread_75 (by decide +kernel) ?_
      subst hR; subst hQz
      exact W.iret (v := (-1)) hx hb hr (fun t ht hW => ⟨⟨(-1), (), rfl, (fun σ h => by refine ⟨fun w => ?_, fun _ => by decide +kernel⟩; exfalso; have w2 := w.2; first | exact xpz2.2 t5 (by rw [cx_0 h]; exact w.1) | omega | (have e := congrArg Int32.toInt ez11; omega)), trivial⟩, hS.F ht⟩) hS.2.2 dX6_spread_76
  · have t5 := tq_eq (k := z2.toInt) (q := (0)) c5 rfl (by decide +kernel)
    refine lv_iconst (v := (-1)) hx hb dX6_spread_8 (by decide +kernel) ?_
    subst hR; subst hQz
    exact W.iret (v := (-1)) hx hb hr (fun t ht hW => ⟨⟨(-1), (), rfl, (fun σ h => by refine ⟨fun w => ?_, fun _ => by decide +kernel⟩; exfalso; have w2 := w.2; first | exact xpz2.2 t5 (by rw [cx_0 h]; exact w.1) | omega | (have e := congrArg Int32.toInt ez11; omega)), trivial⟩, hS.F ht⟩) hS.2.2 dX6_spread_9

set_option maxHeartbeats 4000000 in
set_option maxRecDepth 100000 in
theorem s_X6_bitsOfShare (l : Launch) (dC : Nat → ClassId) (dI : Nat → Nat → Nat) (cs : Nat → ClassId) (L : List Nat) (K G : Nat → Nat) (Q : Nat → Nat → Option Nat) (hQ : Sv L K G Q) (x0 m0 : Nat) (tx : GT) (tm : GT × Int) (sz : Nat) (I : Nat → Nat → Int32) (J : Nat → Nat → Int64) (hI : Iv L K x0 m0 tx tm I) (p0 : Int32) (p1 : Int32) : Met l yX6_bitsOfShare (.code yX6_bitsOfShare cX6_bitsOfShare 7 (some .long) :: pw) ({ frames := 0, cells := 0, slots := 0, locals := 0 }) (sP (dC, dI) cs [.int p0, .int p1] sz L K I J Q) (va_Ql (fun (r : Int64) (_ : Unit) => (0 ≤ p0.toInt → p0.toInt ≤ p1.toInt → 1 ≤ p1.toInt → p1.toInt ≤ 4000 → r.toInt = (shF p0.toInt.toNat p1.toInt.toNat : Int))) (fun _ _ => True) (fun _ => False)) 0 0 (fun _ => False) := by
  refine Met.ofW (cc := cX6_bitsOfShare) (maxL := 7) (ret := (some .long)) (by decide +kernel) rfl ?_
  intro p e s m args below meth c s₁ B hml hv
  obtain ⟨rfl, hsz, hP, hK, hD0, hN⟩ := hv
  have hx := B.exec
  have hb := B.bytes
  have hr := B.returns
  have hts := fun w (h : w ∈ pw) => atoms_spec (ws := Cond.code yX6_bitsOfShare cX6_bitsOfShare 7 (some .long) :: pw) B.pre w (List.mem_cons_of_mem _ h)
  have hown : s.vm.findClass RX6 = some m.cls := findClass_of_methodNamed B.named
  have hlocks := B.notSynchronized
  subst hsz
  have hBB : 999 ≤ tm.2 ∧ tm.2 ≤ 6000000 := hI.2.2.2.2.1
  have hD := hD0
  obtain ⟨H, hHe⟩ : ∃ H : Heap, H = s.heap := ⟨_, rfl⟩
  have hS : va_S (fun _ => False) s.heap H [] := by rw [hHe]; exact va_S.rf
  rw [← hHe] at hP
  have hl := lv_entry ([.int p0, .int p1]) (n := 7) (Nat.le_of_ble_eq_true rfl)
  rw [lg_entry_eq]
  generalize (lg_sl ([.int p0, .int p1]) ++ List.replicate (7 - (lg_sl ([.int p0, .int p1])).length) Slot.unset).toArray = ls at hl ⊢
  have hl : lv_has ls 7 [(0, .int p0), (1, .int p1)] := hl
  rw [← hHe]
  refine namedW (fun R Qz hR hQz => ?_)
  refine lv_iload_n hx hb dX6_bitsOfShare_0 rfl (lv_at hl 0 rfl) ?_
  refine lv_if_le (tgt := 9) hx hb dX6_bitsOfShare_1 (by decide) (fun c1 => ?_) (fun c1 => ?_)
  · have t1 := tq_le (k := p0.toInt) (q := (0)) c1 rfl (by decide +kernel)
    refine lv_lconst (v := 0) hx hb dX6_bitsOfShare_9 (by decide +kernel) ?_
    subst hR; subst hQz
    exact W.lret (v := 0) hx hb hr (fun t ht hW => ⟨⟨0, (), rfl, (fun h0 h1 h2 hd => by first | (rw [show p0.toInt.toNat = 0 by omega, sh_z (by omega) (by omega)]; decide +kernel) | (exfalso; omega)), trivial⟩, hS.F ht⟩) hS.2.2 dX6_bitsOfShare_10
  · have t1 := tq_nle (k := p0.toInt) (q := (0)) c1 rfl (by decide +kernel)
    refine lv_iload_n hx hb dX6_bitsOfShare_4 rfl (lv_at hl 0 rfl) ?_
    refine lv_iload_n hx hb dX6_bitsOfShare_5 rfl (lv_at hl 1 rfl) ?_
    refine lv_icmp_le (tgt := 11) hx hb dX6_bitsOfShare_6 (by decide) (fun c6 => ?_) (fun c6 => ?_)
    · have t6 := tq_le (k := p0.toInt) (q := p1.toInt) c6 rfl rfl
      refine lv_iload_n hx hb dX6_bitsOfShare_11 rfl (lv_at hl 0 rfl) ?_
      refine lv_istore_n (lv' := [(2, .int p0), (0, .int p0), (1, .int p1)]) hx hb dX6_bitsOfShare_12 rfl hl (by decide) rfl (fun ls hl => ?_)
      refine lv_iconst (v := 0) hx hb dX6_bitsOfShare_13 (by decide +kernel) ?_
      refine lv_istore_n (lv' := [(3, .int 0), (2, .int p0), (0, .int p0), (1, .int p1)]) hx hb dX6_bitsOfShare_14 rfl hl (by decide) rfl (fun ls hl => ?_)
      have key15 := blocks (fun n => ∀ (v15_2 : Int32) (v15_3 : Int32) (H : Heap) (lo : List Loc) (ls : Array Slot), (v15_3.toInt - (-65)).toNat = n → ((-64) ≤ v15_3.toInt ∧ v15_3.toInt ≤ 0) → (p1.toInt ≤ 4000 → v15_2.toInt = p0.toInt * 2 ^ (-v15_3.toInt).toNat ∧ 1 ≤ v15_2.toInt ∧ v15_2.toInt < 2 * p1.toInt) → va_P (dC, dI) vwCl (Wd cs L K I J Q) H → va_S (fun _ => False) s.heap H lo → lv_has ls 7 [(0, .int p0), (1, .int p1), (2, .int v15_2), (3, .int v15_3)] → W p l e R s m (([.int p0, .int p1] : List Value).toArray) below meth c H lo 0 0 Qz (F0 m 15 ls [])) (by
        intro n ih15
        intro v15_2 v15_3 H lo ls hmu15 bv15_3 g15 hP hS hl
        refine lv_iload_n hx hb dX6_bitsOfShare_15 rfl (lv_at hl 2 rfl) ?_
        refine lv_iload_n hx hb dX6_bitsOfShare_16 rfl (lv_at hl 1 rfl) ?_
        have j36 : ∀ (H : Heap) (lo : List Loc) (ls : Array Slot), (p1.toInt ≤ 4000 → p1.toInt ≤ v15_2.toInt) → va_P (dC, dI) vwCl (Wd cs L K I J Q) H → va_S (fun _ => False) s.heap H lo → lv_has ls 7 [(0, .int p0), (1, .int p1), (2, .int v15_2), (3, .int v15_3)] → W p l e R s m (([.int p0, .int p1] : List Value).toArray) below meth c H lo 0 0 Qz (F0 m 36 ls []) := by
          intro H lo ls g36 hP hS hl
          refine lv_lconst (v := 0) hx hb dX6_bitsOfShare_36 (by decide +kernel) ?_
          refine lv_lstore (lv' := [(4, .long 0), (0, .int p0), (1, .int p1), (2, .int v15_2), (3, .int v15_3)]) hx hb dX6_bitsOfShare_37 hl (by decide) rfl (fun ls hl => ?_)
          refine lv_iconst (v := 0) hx hb dX6_bitsOfShare_39 (by decide +kernel) ?_
          refine lv_istore (lv' := [(6, .int 0), (4, .long 0), (0, .int p0), (1, .int p1), (2, .int v15_2), (3, .int v15_3)]) hx hb dX6_bitsOfShare_40 hl (by decide) rfl (fun ls hl => ?_)
          have key42 := blocks (fun n => ∀ (v42_2 : Int32) (v42_4 : Int64) (v42_6 : Int32) (H : Heap) (lo : List Loc) (ls : Array Slot), (79 - v42_6.toInt).toNat = n → ((0) ≤ v42_6.toInt ∧ v42_6.toInt ≤ 78) → v42_6.toInt ≤ 53 → (p1.toInt ≤ 4000 → shL v15_2.toInt p1.toInt v42_6.toInt.toNat v42_4.toInt v42_2.toInt) → va_P (dC, dI) vwCl (Wd cs L K I J Q) H → va_S (fun _ => False) s.heap H lo → lv_has ls 7 [(0, .int p0), (1, .int p1), (2, .int v42_2), (3, .int v15_3), (4, .long v42_4), (6, .int v42_6)] → W p l e R s m (([.int p0, .int p1] : List Value).toArray) below meth c H lo 0 0 Qz (F0 m 42 ls [])) (by
            intro n ih42
            intro v42_2 v42_4 v42_6 H lo ls hmu42 bv42_6 hk42 g42 hP hS hl
            refine lv_iload hx hb dX6_bitsOfShare_42 (lv_at hl 5 rfl) ?_
            refine lv_bipush (v := 53) hx hb dX6_bitsOfShare_44 (by decide +kernel) ?_
            refine lv_icmp_ge (tgt := 82) hx hb dX6_bitsOfShare_46 (by decide) (fun c46 => ?_) (fun c46 => ?_)
            · have t46 := tq_le (k := (53)) (q := v42_6.toInt) c46 (by decide +kernel) rfl
              refine lv_iload_n hx hb dX6_bitsOfShare_82 rfl (lv_at hl 2 rfl) ?_
              refine lv_iload_n hx hb dX6_bitsOfShare_83 rfl (lv_at hl 1 rfl) ?_
              have j107 : ∀ (v107_4 : Int64) (H : Heap) (lo : List Loc) (ls : Array Slot), (p1.toInt ≤ 4000 → v107_4.toInt = (FP.Core.nearest (v15_2.toInt.toNat * 4503599627370496) p1.toInt.toNat : Int)) → va_P (dC, dI) vwCl (Wd cs L K I J Q) H → va_S (fun _ => False) s.heap H lo → lv_has ls 7 [(0, .int p0), (1, .int p1), (2, .int v42_2), (3, .int v15_3), (4, .long v107_4), (6, .int v42_6)] → W p l e R s m (([.int p0, .int p1] : List Value).toArray) below meth c H lo 0 0 Qz (F0 m 107 ls []) := by
                intro v107_4 H lo ls g107 hP hS hl
                refine lv_iload_n hx hb dX6_bitsOfShare_107 rfl (lv_at hl 3 rfl) ?_
                refine lv_sipush (v := 1022) hx hb dX6_bitsOfShare_108 (by decide +kernel) ?_
                refine lv_iadd hx hb dX6_bitsOfShare_111 ?_
                refine lv_topi (fun z111 ez111 => ?_)
                have bz111 := tq_add (k := v15_3.toInt) (q := (1022)) ez111 rfl (by decide +kernel) (by omega) (by omega)
                refine lv_i2l hx hb dX6_bitsOfShare_112 rfl ?_
                refine lv_topl (fun z112 ez112 => ?_)
                refine lv_bipush (v := 52) hx hb dX6_bitsOfShare_113 (by decide +kernel) ?_
                refine lv_lshl hx hb dX6_bitsOfShare_115 rfl ?_
                refine lv_topl (fun z115 ez115 => ?_)
                refine lv_lload hx hb dX6_bitsOfShare_116 (lv_at hl 4 rfl) ?_
                refine lv_ladd hx hb dX6_bitsOfShare_118 ?_
                refine lv_topl (fun z118 ez118 => ?_)
                subst hR; subst hQz
                exact W.lret (v := z118) hx hb hr (fun t ht hW => ⟨⟨z118, (), rfl, (fun h0 h1 h2 hd => by obtain ⟨a, b0, b⟩ := g15 hd; have c := g36 hd; have N := g107 hd; have cN : v15_2.toInt.toNat = p0.toInt.toNat * 2 ^ (-v15_3.toInt).toNat := (by have e : ((p0.toInt.toNat * 2 ^ (-v15_3.toInt).toNat : Nat) : Int) = p0.toInt * 2 ^ (-v15_3.toInt).toNat := (by rw [Int.natCast_mul, Int.natCast_pow, show ((p0.toInt.toNat : Nat) : Int) = p0.toInt by omega]; rfl); omega); obtain ⟨V, nb⟩ := sh_v (c := p0.toInt.toNat) (d := p1.toInt.toNat) (j := (-v15_3.toInt).toNat) (by omega) (by omega) (by omega) (by omega) (by omega); rw [← cN] at V nb; have s115 := l_sh52 ez112 ez115 ⟨by omega, by omega⟩; have a118 := l_add (k := z115.toInt) (q := v107_4.toInt) ez118 rfl rfl (by omega) (by omega); rw [V]; omega), trivial⟩, hS.F ht⟩) hS.2.2 dX6_bitsOfShare_119
              have j101 : ∀ (H : Heap) (lo : List Loc) (ls : Array Slot), (p1.toInt ≤ 4000 → (p1.toInt < v42_2.toInt ∨ (v42_2.toInt = p1.toInt ∧ v42_4.toInt % 2 = 1))) → va_P (dC, dI) vwCl (Wd cs L K I J Q) H → va_S (fun _ => False) s.heap H lo → lv_has ls 7 [(0, .int p0), (1, .int p1), (2, .int v42_2), (3, .int v15_3), (4, .long v42_4), (6, .int v42_6)] → W p l e R s m (([.int p0, .int p1] : List Value).toArray) below meth c H lo 0 0 Qz (F0 m 101 ls []) := by
                intro H lo ls g101 hP hS hl
                refine lv_lload hx hb dX6_bitsOfShare_101 (lv_at hl 4 rfl) ?_
                refine lv_lconst (v := 1) hx hb dX6_bitsOfShare_103 (by decide +kernel) ?_
                refine lv_ladd hx hb dX6_bitsOfShare_104 ?_
                refine lv_topl (fun z104 ez104 => ?_)
                refine lv_lstore (lv' := [(4, .long z104), (0, .int p0), (1, .int p1), (2, .int v42_2), (3, .int v15_3), (6, .int v42_6)]) hx hb dX6_bitsOfShare_105 hl (by decide) rfl (fun ls hl => ?_)
                exact j107 z104 _ _ _ (fun hd => by have S := g42 hd; obtain ⟨a, b0, b⟩ := g15 hd; have i53 : v42_6.toInt.toNat = 53 := (by omega); rw [i53] at S; have S2 := S.2.1; have S3 := S.2.2; rw [show (2 : Int) ^ 53 = 9007199254740992 from by decide] at S3; have c := g101 hd; have a104 := l_add (k := v42_4.toInt) (q := 1) ez104 rfl (by decide +kernel) (by omega) (by omega); exact shL_end S (by have := g36 hd; omega) (by omega) (Or.inl ⟨c, a104⟩)) hP hS (lv_sub hl [1, 2, 3, 4, 0, 5] rfl)
              refine lv_icmp_gt (tgt := 101) hx hb dX6_bitsOfShare_84 (by decide) (fun c84 => ?_) (fun c84 => ?_)
              · have t84 := tq_lt (k := p1.toInt) (q := v42_2.toInt) c84 rfl rfl
                exact j101  _ _ _ (fun hd => by have S := g42 hd; obtain ⟨a, b0, b⟩ := g15 hd; have i53 : v42_6.toInt.toNat = 53 := (by omega); rw [i53] at S; have S2 := S.2.1; have S3 := S.2.2; rw [show (2 : Int) ^ 53 = 9007199254740992 from by decide] at S3; first | exact Or.inl t84 | (have x95 := l_and1 ez95 S3.1; have c97 := tq_lcmp (k := z95.toInt) (q := 1) ez97 rfl (by decide +kernel); exact Or.inr ⟨t89, by omega⟩)) hP hS (lv_sub hl [0, 1, 2, 3, 4, 5] rfl)
              · have t84 := tq_nlt (k := p1.toInt) (q := v42_2.toInt) c84 rfl rfl
                refine lv_iload_n hx hb dX6_bitsOfShare_87 rfl (lv_at hl 2 rfl) ?_
                refine lv_iload_n hx hb dX6_bitsOfShare_88 rfl (lv_at hl 1 rfl) ?_
                refine lv_icmp_ne (tgt := 107) hx hb dX6_bitsOfShare_89 (by decide) (fun c89 => ?_) (fun c89 => ?_)
                · have t89 := tq_ne (k := v42_2.toInt) (q := p1.toInt) c89 rfl rfl
                  exact j107 v42_4 _ _ _ (fun hd => by have S := g42 hd; obtain ⟨a, b0, b⟩ := g15 hd; have i53 : v42_6.toInt.toNat = 53 := (by omega); rw [i53] at S; have S2 := S.2.1; have S3 := S.2.2; rw [show (2 : Int) ^ 53 = 9007199254740992 from by decide] at S3; exact shL_end S (by have := g36 hd; omega) (by omega) (Or.inr ⟨by first | (have x95 := l_and1 ez95 S3.1; have c97 := tq_lcmp (k := z95.toInt) (q := 1) ez97 rfl (by decide +kernel); exact Or.inr ⟨t89, by omega⟩) | exact Or.inl (by omega), rfl⟩)) hP hS (lv_sub hl [0, 1, 2, 3, 4, 5] rfl)
                · have t89 := tq_eq (k := v42_2.toInt) (q := p1.toInt) c89 rfl rfl
                  refine lv_lload hx hb dX6_bitsOfShare_92 (lv_at hl 4 rfl) ?_
                  refine lv_lconst (v := 1) hx hb dX6_bitsOfShare_94 (by decide +kernel) ?_
                  refine lv_land hx hb dX6_bitsOfShare_95 ?_
                  refine lv_topl (fun z95 ez95 => ?_)
                  refine lv_lconst (v := 1) hx hb dX6_bitsOfShare_96 (by decide +kernel) ?_
                  refine W.lcmp hx hb dX6_bitsOfShare_97 ?_
                  refine lv_topi (fun z97 ez97 => ?_)
                  refine lv_if_ne (tgt := 107) hx hb dX6_bitsOfShare_98 (by decide) (fun c98 => ?_) (fun c98 => ?_)
                  · have t98 := tq_ne (k := z97.toInt) (q := (0)) c98 rfl (by decide +kernel)
                    exact j107 v42_4 _ _ _ (fun hd => by have S := g42 hd; obtain ⟨a, b0, b⟩ := g15 hd; have i53 : v42_6.toInt.toNat = 53 := (by omega); rw [i53] at S; have S2 := S.2.1; have S3 := S.2.2; rw [show (2 : Int) ^ 53 = 9007199254740992 from by decide] at S3; exact shL_end S (by have := g36 hd; omega) (by omega) (Or.inr ⟨by first | (have x95 := l_and1 ez95 S3.1; have c97 := tq_lcmp (k := z95.toInt) (q := 1) ez97 rfl (by decide +kernel); exact Or.inr ⟨t89, by omega⟩) | exact Or.inl (by omega), rfl⟩)) hP hS (lv_sub hl [0, 1, 2, 3, 4, 5] rfl)
                  · have t98 := tq_eq (k := z97.toInt) (q := (0)) c98 rfl (by decide +kernel)
                    exact j101  _ _ _ (fun hd => by have S := g42 hd; obtain ⟨a, b0, b⟩ := g15 hd; have i53 : v42_6.toInt.toNat = 53 := (by omega); rw [i53] at S; have S2 := S.2.1; have S3 := S.2.2; rw [show (2 : Int) ^ 53 = 9007199254740992 from by decide] at S3; first | exact Or.inl t84 | (have x95 := l_and1 ez95 S3.1; have c97 := tq_lcmp (k := z95.toInt) (q := 1) ez97 rfl (by decide +kernel); exact Or.inr ⟨t89, by omega⟩)) hP hS (lv_sub hl [0, 1, 2, 3, 4, 5] rfl)
            · have t46 := tq_nle (k := (53)) (q := v42_6.toInt) c46 (by decide +kernel) rfl
              refine lv_lload hx hb dX6_bitsOfShare_49 (lv_at hl 4 rfl) ?_
              refine lv_ldc2 hx hb hown (hts _ pq953) dX6_bitsOfShare_51 ?_
              refine lv_lmul hx hb dX6_bitsOfShare_54 ?_
              refine lv_topl (fun z54 ez54 => ?_)
              refine lv_lstore (lv' := [(4, .long z54), (0, .int p0), (1, .int p1), (2, .int v42_2), (3, .int v15_3), (6, .int v42_6)]) hx hb dX6_bitsOfShare_55 hl (by decide) rfl (fun ls hl => ?_)
              refine lv_iload_n hx hb dX6_bitsOfShare_57 rfl (lv_at hl 3 rfl) ?_
              refine lv_iload_n hx hb dX6_bitsOfShare_58 rfl (lv_at hl 2 rfl) ?_
              have j72 : ∀ (v72_2 : Int32) (v72_4 : Int64) (H : Heap) (lo : List Loc) (ls : Array Slot), (p1.toInt ≤ 4000 → ((v42_2.toInt < p1.toInt ∧ v72_4.toInt = 2 * v42_4.toInt ∧ v72_2.toInt = v42_2.toInt) ∨ (p1.toInt ≤ v42_2.toInt ∧ v72_4.toInt = 2 * v42_4.toInt + 1 ∧ v72_2.toInt = v42_2.toInt - p1.toInt)) ∧ 0 ≤ v72_2.toInt) → va_P (dC, dI) vwCl (Wd cs L K I J Q) H → va_S (fun _ => False) s.heap H lo → lv_has ls 7 [(0, .int p0), (1, .int p1), (2, .int v72_2), (3, .int v15_3), (4, .long v72_4), (6, .int v42_6)] → W p l e R s m (([.int p0, .int p1] : List Value).toArray) below meth c H lo 0 0 Qz (F0 m 72 ls []) := by
                intro v72_2 v72_4 H lo ls h72 hP hS hl
                refine lv_iload_n hx hb dX6_bitsOfShare_72 rfl (lv_at hl 2 rfl) ?_
                refine lv_iconst (v := 2) hx hb dX6_bitsOfShare_73 (by decide +kernel) ?_
                refine lv_imul hx hb dX6_bitsOfShare_74 ?_
                refine lv_topi (fun z74 ez74 => ?_)
                refine lv_istore_n (lv' := [(2, .int z74), (0, .int p0), (1, .int p1), (3, .int v15_3), (4, .long v72_4), (6, .int v42_6)]) hx hb dX6_bitsOfShare_75 rfl hl (by decide) rfl (fun ls hl => ?_)
                obtain ⟨z76, ez76⟩ : ∃ y : Int32, y = v42_6 + 1 := ⟨_, rfl⟩
                refine lv_iinc (v := z76) (lv' := [(6, .int z76), (2, .int z74), (0, .int p0), (1, .int p1), (3, .int v15_3), (4, .long v72_4)]) hx hb dX6_bitsOfShare_76 hl (k := 5) rfl (by rw [ez76]; rfl) (by decide) rfl (fun ls hl => ?_)
                have bz76 := tq_add (k := v42_6.toInt) (q := 1) ez76 rfl (by decide +kernel) (by omega) (by omega)
                refine lv_goto (tgt := 42) hx hb dX6_bitsOfShare_79 (by decide) ?_
                exact ih42 _ (by omega) z74 v72_4 z76 _ _ _ rfl ⟨by omega, by omega⟩ (by omega) (fun hd => by have S := g42 hd; obtain ⟨c1, c2⟩ := h72 hd; have S2 := S.2.1; have a74 := tq_mul (k := v72_2.toInt) (q := 2) ez74 rfl (by decide +kernel) (by omega) (by omega); exact shL_s S (i1 := z76.toInt.toNat) (by omega) (by rcases c1 with ⟨x, y, z⟩ | ⟨x, y, z⟩; (exact Or.inl ⟨x, y, by omega⟩); (exact Or.inr ⟨x, y, by omega⟩))) hP hS (lv_sub hl [2, 3, 1, 4, 5, 0] rfl)
              refine lv_icmp_lt (tgt := 72) hx hb dX6_bitsOfShare_59 (by decide) (fun c59 => ?_) (fun c59 => ?_)
              · have t59 := tq_lt (k := v42_2.toInt) (q := p1.toInt) c59 rfl rfl
                exact j72 v42_2 z54 _ _ _ (fun hd => by have S := g42 hd; have S2 := S.2.1; have S3 := S.2.2; have pb : (2 : Int) ^ v42_6.toInt.toNat ≤ 9007199254740992 := p2_53 (by omega); have a54 := l_mul (k := v42_4.toInt) (q := 2) ez54 rfl (by decide +kernel) (by omega) (by omega); exact ⟨Or.inl ⟨t59, by omega, rfl⟩, by omega⟩) hP hS (lv_sub hl [1, 2, 3, 4, 0, 5] rfl)
              · have t59 := tq_nlt (k := v42_2.toInt) (q := p1.toInt) c59 rfl rfl
                refine lv_lload hx hb dX6_bitsOfShare_62 (lv_at hl 0 rfl) ?_
                refine lv_lconst (v := 1) hx hb dX6_bitsOfShare_64 (by decide +kernel) ?_
                refine lv_ladd hx hb dX6_bitsOfShare_65 ?_
                refine lv_topl (fun z65 ez65 => ?_)
                refine lv_lstore (lv' := [(4, .long z65), (0, .int p0), (1, .int p1), (2, .int v42_2), (3, .int v15_3), (6, .int v42_6)]) hx hb dX6_bitsOfShare_66 hl (by decide) rfl (fun ls hl => ?_)
                refine lv_iload_n hx hb dX6_bitsOfShare_68 rfl (lv_at hl 3 rfl) ?_
                refine lv_iload_n hx hb dX6_bitsOfShare_69 rfl (lv_at hl 2 rfl) ?_
                refine lv_isub hx hb dX6_bitsOfShare_70 ?_
                refine lv_topi (fun z70 ez70 => ?_)
                have rg70v42_2 := fb_rng v42_2
                have rg70p1 := fb_rng p1
                have bz70 := tq_sub (k := v42_2.toInt) (q := p1.toInt) ez70 rfl rfl (by omega) (by omega)
                refine lv_istore_n (lv' := [(2, .int z70), (4, .long z65), (0, .int p0), (1, .int p1), (3, .int v15_3), (6, .int v42_6)]) hx hb dX6_bitsOfShare_71 rfl hl (by decide) rfl (fun ls hl => ?_)
                exact j72 z70 z65 _ _ _ (fun hd => by have S := g42 hd; have S2 := S.2.1; have S3 := S.2.2; have pb : (2 : Int) ^ v42_6.toInt.toNat ≤ 9007199254740992 := p2_53 (by omega); have a54 := l_mul (k := v42_4.toInt) (q := 2) ez54 rfl (by decide +kernel) (by omega) (by omega); have a65 := l_add (k := z54.toInt) (q := 1) ez65 rfl (by decide +kernel) (by omega) (by omega); exact ⟨Or.inr ⟨by omega, by omega, by omega⟩, by omega⟩) hP hS (lv_sub hl [2, 3, 0, 4, 1, 5] rfl))
          exact key42 _ v15_2 0 0 _ _ _ rfl ⟨by decide +kernel, by decide +kernel⟩ (by rw [show (0 : Int32).toInt = 0 from by decide +kernel]; omega) (fun hd => by obtain ⟨a, b0, b⟩ := g15 hd; have c := g36 hd; rw [show (0 : Int32).toInt = 0 from by decide +kernel, show (0 : Int64).toInt = 0 from by decide +kernel]; exact shL_0 (by omega) b) hP hS (lv_sub hl [2, 3, 4, 5, 1, 0] rfl)
        refine lv_icmp_ge (tgt := 36) hx hb dX6_bitsOfShare_17 (by decide) (fun c17 => ?_) (fun c17 => ?_)
        · have t17 := tq_le (k := p1.toInt) (q := v15_2.toInt) c17 rfl rfl
          exact j36  _ _ _ (fun hd => by obtain ⟨a, b0, b⟩ := g15 hd; first | exact t17 | (exfalso; rw [show (-v15_3.toInt).toNat = 64 by omega, show (2 : Int) ^ 64 = 18446744073709551616 from by decide] at a; omega)) hP hS (lv_sub hl [0, 1, 2, 3] rfl)
        · have t17 := tq_nle (k := p1.toInt) (q := v15_2.toInt) c17 rfl rfl
          refine lv_iload_n hx hb dX6_bitsOfShare_20 rfl (lv_at hl 3 rfl) ?_
          refine lv_bipush (v := (-64)) hx hb dX6_bitsOfShare_21 (by decide +kernel) ?_
          refine lv_icmp_le (tgt := 36) hx hb dX6_bitsOfShare_23 (by decide) (fun c23 => ?_) (fun c23 => ?_)
          · have t23 := tq_le (k := v15_3.toInt) (q := (-64)) c23 rfl (by decide +kernel)
            exact j36  _ _ _ (fun hd => by obtain ⟨a, b0, b⟩ := g15 hd; first | exact t17 | (exfalso; rw [show (-v15_3.toInt).toNat = 64 by omega, show (2 : Int) ^ 64 = 18446744073709551616 from by decide] at a; omega)) hP hS (lv_sub hl [0, 1, 2, 3] rfl)
          · have t23 := tq_nle (k := v15_3.toInt) (q := (-64)) c23 rfl (by decide +kernel)
            refine lv_iload_n hx hb dX6_bitsOfShare_26 rfl (lv_at hl 2 rfl) ?_
            refine lv_iconst (v := 2) hx hb dX6_bitsOfShare_27 (by decide +kernel) ?_
            refine lv_imul hx hb dX6_bitsOfShare_28 ?_
            refine lv_topi (fun z28 ez28 => ?_)
            refine lv_istore_n (lv' := [(2, .int z28), (0, .int p0), (1, .int p1), (3, .int v15_3)]) hx hb dX6_bitsOfShare_29 rfl hl (by decide) rfl (fun ls hl => ?_)
            obtain ⟨z30, ez30⟩ : ∃ y : Int32, y = v15_3 + (-1) := ⟨_, rfl⟩
            refine lv_iinc (v := z30) (lv' := [(3, .int z30), (2, .int z28), (0, .int p0), (1, .int p1)]) hx hb dX6_bitsOfShare_30 hl (k := 3) rfl (by rw [ez30]; rfl) (by decide) rfl (fun ls hl => ?_)
            have bz30 := tq_add (k := v15_3.toInt) (q := (-1)) ez30 rfl (by decide +kernel) (by omega) (by omega)
            refine lv_goto (tgt := 15) hx hb dX6_bitsOfShare_33 (by decide) ?_
            exact ih15 _ (by omega) z28 z30 _ _ _ rfl ⟨by omega, by omega⟩ (fun hd => by obtain ⟨a, b0, b⟩ := g15 hd; have a28 := tq_mul (k := v15_2.toInt) (q := 2) ez28 rfl (by decide +kernel) (by omega) (by omega); refine ⟨?_, by omega, by omega⟩; rw [show (-z30.toInt).toNat = (-v15_3.toInt).toNat + 1 by omega, Int.pow_succ, ← Int.mul_assoc, ← a]; exact a28) hP hS (lv_sub hl [2, 3, 1, 0] rfl))
      exact key15 _ p0 0 _ _ _ rfl ⟨by decide +kernel, by decide +kernel⟩ (fun hd => ⟨by rw [show (0 : Int32).toInt = 0 from by decide +kernel, show (-(0 : Int)).toNat = 0 from rfl, Int.pow_zero, Int.mul_one], by omega, by omega⟩) hP hS (lv_sub hl [2, 3, 1, 0] rfl)
    · have t6 := tq_nle (k := p0.toInt) (q := p1.toInt) c6 rfl rfl
      refine lv_lconst (v := 0) hx hb dX6_bitsOfShare_9 (by decide +kernel) ?_
      subst hR; subst hQz
      exact W.lret (v := 0) hx hb hr (fun t ht hW => ⟨⟨0, (), rfl, (fun h0 h1 h2 hd => by first | (rw [show p0.toInt.toNat = 0 by omega, sh_z (by omega) (by omega)]; decide +kernel) | (exfalso; omega)), trivial⟩, hS.F ht⟩) hS.2.2 dX6_bitsOfShare_10

set_option maxHeartbeats 4000000 in
set_option maxRecDepth 100000 in
theorem s_X6_share (l : Launch) (dC : Nat → ClassId) (dI : Nat → Nat → Nat) (cs : Nat → ClassId) (L : List Nat) (K G : Nat → Nat) (Q : Nat → Nat → Option Nat) (hQ : Sv L K G Q) (x0 m0 : Nat) (tx : GT) (tm : GT × Int) (sz : Nat) (I : Nat → Nat → Int32) (J : Nat → Nat → Int64) (hI : Iv L K x0 m0 tx tm I) (p0 : Nat) (hLp0 : p0 ∈ L) (hKp0 : K p0 = 6) (p1 : Int32) : Met l yX6_share (.code yX6_share cX6_share 3 (some .long) :: pw) ({ frames := 1, cells := 0, slots := 0, locals := 26 }) (sP (dC, dI) cs [.ref p0, .int p1] sz L K I J Q) (va_Ql (fun (r : Int64) (_ : Unit) => (∀ σ : Sx, cxA Q I J p0 σ → shR σ p1 r)) (fun _ _ => True) (fun _ => False)) 0 0 (fun _ => False) := by
  refine Met.ofW (cc := cX6_share) (maxL := 3) (ret := (some .long)) (by decide +kernel) rfl ?_
  intro p e s m args below meth c s₁ B hml hv
  obtain ⟨rfl, hsz, hP, hK, hD0, hN⟩ := hv
  have hx := B.exec
  have hb := B.bytes
  have hr := B.returns
  have hts := fun w (h : w ∈ pw) => atoms_spec (ws := Cond.code yX6_share cX6_share 3 (some .long) :: pw) B.pre w (List.mem_cons_of_mem _ h)
  have hown : s.vm.findClass RX6 = some m.cls := findClass_of_methodNamed B.named
  have hlocks := B.notSynchronized
  subst hsz
  have hBB : 999 ≤ tm.2 ∧ tm.2 ≤ 6000000 := hI.2.2.2.2.1
  have hD := hD0
  obtain ⟨H, hHe⟩ : ∃ H : Heap, H = s.heap := ⟨_, rfl⟩
  have hS : va_S (fun _ => False) s.heap H [] := by rw [hHe]; exact va_S.rf
  rw [← hHe] at hP
  have hl := lv_entry ([.ref p0, .int p1]) (n := 3) (Nat.le_of_ble_eq_true rfl)
  rw [lg_entry_eq]
  generalize (lg_sl ([.ref p0, .int p1]) ++ List.replicate (3 - (lg_sl ([.ref p0, .int p1])).length) Slot.unset).toArray = ls at hl ⊢
  have hl : lv_has ls 3 [(0, .ref p0), (1, .int p1)] := hl
  rw [← hHe]
  refine namedW (fun R Qz hR hQz => ?_)
  refine lv_aload_n hx hb dX6_share_0 rfl (lv_at hl 0 rfl) ?_
  refine lv_iload_n hx hb dX6_share_1 rfl (lv_at hl 1 rfl) ?_
  refine ro_i (va_runV (As := [.int p1]) (rest := []) ⟨hx, hb, hml, hown, hts⟩ (s_X6_isMask l dC dI cs L K G Q hQ x0 m0 tx tm H.size I J hI p0 hLp0 hKp0 p1) (cwV 1 hts (gV pq666 pq668 pq4 pq74 pq669) rfl rfl rfl (by decide +kernel) ⟨(by rw [hR]; exact (Nat.le_of_ble_eq_true rfl)), (by rw [hR]; exact (Nat.le_of_ble_eq_true rfl))⟩) (sP_V hP hD hK hN hLp0 hKp0 rfl rfl) rfl rfl hl.1 rfl (lv_room (Nat.le_of_ble_eq_true rfl)) dX6_share_2 ⟨(by rw [hR]; exact (Nat.le_of_ble_eq_true rfl)), (by rw [hR]; exact (Nat.le_of_ble_eq_true rfl))⟩) hS hP (fun z2 H locs hz2 hP hS => ?_)
  obtain ⟨bz2, imz2, xpz2⟩ := hz2
  refine lv_if_ne (tgt := 12) hx hb dX6_share_5 (by decide) (fun c5 => ?_) (fun c5 => ?_)
  · have t5 := tq_ne (k := z2.toInt) (q := (0)) c5 rfl (by decide +kernel)
    have i5 := imz2 t5
    refine lv_aload_n hx hb dX6_share_12 rfl (lv_at hl 0 rfl) ?_
    obtain ⟨y13, ey13, hLy13, hKy13, hGy13⟩ := oQ_6_2 (Sv_at hQ hLp0 hKp0)
    refine p_get (v := .ref y13) hx hb hts inX6 hown hK hP hLp0 hKp0 rfl rfl 2 (by decide) (hts _ pq351) (congrArg (fun q => some (va_rf q)) ey13) dX6_share_13 ?_
    obtain ⟨y16, ey16, hLy16, hKy16, hGy16⟩ := oQ_1_0 (Sv_at hQ hLy13 hKy13)
    refine p_get (v := .ref y16) hx hb hts inX1 hown hK hP hLy13 hKy13 rfl rfl 0 (by decide) (hts _ pq216) (congrArg (fun q => some (va_rf q)) ey16) dX6_share_16 ?_
    refine lv_iload_n hx hb dX6_share_19 rfl (lv_at hl 1 rfl) ?_
    obtain ⟨y20, ey20, hLy20, hKy20, hGy20⟩ := (Sv_at hQ hLy16 hKy16).1 p1.toNatClampNeg (clamp_lt (n := 8) (in_of (by omega) (by omega)))
    have hjy20 : p1.toNatClampNeg < 8 := clamp_lt (i := p1) (n := 8) (in_of (by omega) (by omega))
    refine p_aaldR hx hb hK hP 3 hLy16 hKy16 rfl rfl (in_of (by omega) (by omega)) ey20 dX6_share_20 ?_
    refine lv_astore_n (lv' := [(2, .ref y20), (0, .ref p0), (1, .int p1)]) hx hb dX6_share_21 rfl hl (by decide) rfl (fun ls hl => ?_)
    refine lv_aload_n hx hb dX6_share_22 rfl (lv_at hl 0 rfl) ?_
    refine p_get hx hb hts inX3 hown hK hP hLy20 hKy20 rfl rfl 3 (by decide) (hts _ pq132) rfl dX6_share_23 ?_
    refine lv_topi (fun z23 ez23 => ?_)
    refine lv_aload_n hx hb dX6_share_26 rfl (lv_at hl 0 rfl) ?_
    refine p_get hx hb hts inX3 hown hK hP hLy20 hKy20 rfl rfl 0 (by decide) (hts _ pq119) rfl dX6_share_27 ?_
    refine lv_topi (fun z27 ez27 => ?_)
    have bz27 := oI_3_0 (Iv_at hI hLy20 hKy20)
    rw [← ez27] at bz27
    refine lv_aload_n hx hb dX6_share_30 rfl (lv_at hl 0 rfl) ?_
    refine p_get hx hb hts inX3 hown hK hP hLy20 hKy20 rfl rfl 1 (by decide) (hts _ pq123) rfl dX6_share_31 ?_
    refine lv_topi (fun z31 ez31 => ?_)
    have bz31 := oI_3_1 (Iv_at hI hLy20 hKy20)
    rw [← ez31] at bz31
    refine lv_imul hx hb dX6_share_34 ?_
    refine lv_topi (fun z34 ez34 => ?_)
    refine ro_l (va_runS (As := [.int z23, .int z34]) (rest := []) ⟨hx, hb, hml, hown, hts⟩ (s_X6_bitsOfShare l dC dI cs L K G Q hQ x0 m0 tx tm H.size I J hI z23 z34) (va_cwS 2 hts (gS pq950 pq951 pq74 pq952) rfl rfl rfl (by decide +kernel) ⟨(by rw [hR]; exact (Nat.le_of_ble_eq_true rfl)), (by rw [hR]; exact (Nat.le_of_ble_eq_true rfl))⟩) (sP_S hP hD hK hN) rfl rfl hl.1 rfl (lv_room (Nat.le_of_ble_eq_true rfl)) dX6_share_35 ⟨(by rw [hR]; exact (Nat.le_of_ble_eq_true rfl)), (by rw [hR]; exact (Nat.le_of_ble_eq_true rfl))⟩) hS hP (fun z35 H locs hz35 hP hS => ?_)
    have xpz35 := hz35
    subst hR; subst hQz
    exact W.lret (v := z35) hx hb hr (fun t ht hW => ⟨⟨z35, (), rfl, (fun σ h => by have q := xpz2.1 t5; rw [cx_0 h] at q; have c := cxA_m (m := p1) h q; rw [show fm Q (an Q p0) p1.toInt.toNat = y20 from (by rw [show an Q p0 = y13 from gd_of ey13]; exact fm_of ey16 ey20)] at c; have k := cxM_ok c.1 c.2; have o1 := c.2.1; have o2 := c.2.2.1; have eW := congrArg Int32.toInt c.1.1; have eH := congrArg Int32.toInt c.1.2.1; have e23 : z23.toInt = (totr (mF σ p1) 40 : Int) := (congrArg Int32.toInt ez23).trans c.1.2.2.2.1; have e27 := (congrArg Int32.toInt ez27).trans eW; have e31 := (congrArg Int32.toInt ez31).trans eH; have S := sh_wh (w := (mW σ p1).toInt) (h := (mH σ p1).toInt) (f := mF σ p1) c.2; have a34 := tq_mul (k := (mW σ p1).toInt) (q := (mH σ p1).toInt) ez34 e27 e31 (by omega) (by omega); have w := xpz35 (by omega) (by omega) (by omega) (by omega); exact ⟨fun _ => by rw [w, a34, show z23.toInt.toNat = totr (mF σ p1) 40 by omega], fun n => absurd q n⟩), trivial⟩, hS.F ht⟩) hS.2.2 dX6_share_38
  · have t5 := tq_eq (k := z2.toInt) (q := (0)) c5 rfl (by decide +kernel)
    refine lv_ldc2 hx hb hown (hts _ pq949) dX6_share_8 ?_
    subst hR; subst hQz
    exact W.lret (v := (-1)) hx hb hr (fun t ht hW => ⟨⟨(-1), (), rfl, (fun σ h => by exact ⟨fun w => by (exfalso; exact xpz2.2 t5 (by rw [cx_0 h]; exact w)), fun _ => by decide +kernel⟩), trivial⟩, hS.F ht⟩) hS.2.2 dX6_share_11
