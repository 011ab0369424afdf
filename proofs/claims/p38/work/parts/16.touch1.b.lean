def yX6_bitsOfShare : MethodName := ⟨RX6, "bitsOfShare", "(II)J"⟩
abbrev cX6_bitsOfShare : ByteArray := prog_1_method_40_code
abbrev cX6_alike : ByteArray := prog_1_method_41_code
abbrev cX6_dense : ByteArray := prog_1_method_36_code
abbrev cX6_dots : ByteArray := prog_1_method_37_code
abbrev cX6_letter : ByteArray := prog_1_method_35_code
abbrev cX6_share : ByteArray := prog_1_method_39_code
abbrev cX6_spread : ByteArray := prog_1_method_38_code
def yX6_alike : MethodName := ⟨RX6, "alike", "(III)I"⟩
def yX6_dense : MethodName := ⟨RX6, "dense", "(IIII)I"⟩
def yX6_dots : MethodName := ⟨RX6, "dots", "(IZI)I"⟩
def yX6_letter : MethodName := ⟨RX6, "letter", "(II)I"⟩
def yX6_share : MethodName := ⟨RX6, "share", "(I)J"⟩
def yX6_spread : MethodName := ⟨RX6, "spread", "(II)I"⟩
theorem dX6_alike_0 : decode cX6_alike 0 = .ok (.aload_n 0, 1) := by decide +kernel
theorem dX6_alike_1 : decode cX6_alike 1 = .ok (.iload_n 1, 1) := by decide +kernel
theorem dX6_alike_2 : decode cX6_alike 2 = .ok (.invokevirtual 130, 3) := by decide +kernel
theorem dX6_alike_5 : decode cX6_alike 5 = .ok (.ifCond .eq 19, 3) := by decide +kernel
theorem dX6_alike_8 : decode cX6_alike 8 = .ok (.aload_n 0, 1) := by decide +kernel
theorem dX6_alike_9 : decode cX6_alike 9 = .ok (.iload_n 2, 1) := by decide +kernel
theorem dX6_alike_10 : decode cX6_alike 10 = .ok (.invokevirtual 130, 3) := by decide +kernel
theorem dX6_alike_13 : decode cX6_alike 13 = .ok (.ifCond .eq 11, 3) := by decide +kernel
theorem dX6_alike_16 : decode cX6_alike 16 = .ok (.iload_n 3, 1) := by decide +kernel
theorem dX6_alike_17 : decode cX6_alike 17 = .ok (.iconst 3, 1) := by decide +kernel
theorem dX6_alike_18 : decode cX6_alike 18 = .ok (.invokestatic 109, 3) := by decide +kernel
theorem dX6_alike_21 : decode cX6_alike 21 = .ok (.ifCond .ne 5, 3) := by decide +kernel
theorem dX6_alike_24 : decode cX6_alike 24 = .ok (.iconst (-1), 1) := by decide +kernel
theorem dX6_alike_25 : decode cX6_alike 25 = .ok (.ireturn, 1) := by decide +kernel
theorem dX6_alike_26 : decode cX6_alike 26 = .ok (.aload_n 0, 1) := by decide +kernel
theorem dX6_alike_27 : decode cX6_alike 27 = .ok (.getfield 48, 3) := by decide +kernel
theorem dX6_alike_30 : decode cX6_alike 30 = .ok (.aload_n 0, 1) := by decide +kernel
theorem dX6_alike_31 : decode cX6_alike 31 = .ok (.getfield 20, 3) := by decide +kernel
theorem dX6_alike_34 : decode cX6_alike 34 = .ok (.getfield 133, 3) := by decide +kernel
theorem dX6_alike_37 : decode cX6_alike 37 = .ok (.iload_n 2, 1) := by decide +kernel
theorem dX6_alike_38 : decode cX6_alike 38 = .ok (.aaload, 1) := by decide +kernel
theorem dX6_alike_39 : decode cX6_alike 39 = .ok (.iload_n 3, 1) := by decide +kernel
theorem dX6_alike_40 : decode cX6_alike 40 = .ok (.invokevirtual 270, 3) := by decide +kernel
theorem dX6_alike_43 : decode cX6_alike 43 = .ok (.aload_n 0, 1) := by decide +kernel
theorem dX6_alike_44 : decode cX6_alike 44 = .ok (.getfield 48, 3) := by decide +kernel
theorem dX6_alike_47 : decode cX6_alike 47 = .ok (.aload_n 0, 1) := by decide +kernel
theorem dX6_alike_48 : decode cX6_alike 48 = .ok (.getfield 20, 3) := by decide +kernel
theorem dX6_alike_51 : decode cX6_alike 51 = .ok (.getfield 133, 3) := by decide +kernel
theorem dX6_alike_54 : decode cX6_alike 54 = .ok (.iload_n 1, 1) := by decide +kernel
theorem dX6_alike_55 : decode cX6_alike 55 = .ok (.aaload, 1) := by decide +kernel
theorem dX6_alike_56 : decode cX6_alike 56 = .ok (.invokevirtual 274, 3) := by decide +kernel
theorem dX6_alike_59 : decode cX6_alike 59 = .ok (.ifCond .eq 7, 3) := by decide +kernel
theorem dX6_alike_62 : decode cX6_alike 62 = .ok (.iconst 1, 1) := by decide +kernel
theorem dX6_alike_63 : decode cX6_alike 63 = .ok (.goto 4, 3) := by decide +kernel
theorem dX6_alike_66 : decode cX6_alike 66 = .ok (.iconst 0, 1) := by decide +kernel
theorem dX6_alike_67 : decode cX6_alike 67 = .ok (.ireturn, 1) := by decide +kernel
theorem dX6_bitsOfShare_0 : decode cX6_bitsOfShare 0 = .ok (.iload_n 0, 1) := by decide +kernel
theorem dX6_bitsOfShare_1 : decode cX6_bitsOfShare 1 = .ok (.ifCond .le 8, 3) := by decide +kernel
theorem dX6_bitsOfShare_4 : decode cX6_bitsOfShare 4 = .ok (.iload_n 0, 1) := by decide +kernel
theorem dX6_bitsOfShare_5 : decode cX6_bitsOfShare 5 = .ok (.iload_n 1, 1) := by decide +kernel
theorem dX6_bitsOfShare_6 : decode cX6_bitsOfShare 6 = .ok (.if_icmp .le 5, 3) := by decide +kernel
theorem dX6_bitsOfShare_9 : decode cX6_bitsOfShare 9 = .ok (.lconst 0, 1) := by decide +kernel
theorem dX6_bitsOfShare_10 : decode cX6_bitsOfShare 10 = .ok (.lreturn, 1) := by decide +kernel
theorem dX6_bitsOfShare_11 : decode cX6_bitsOfShare 11 = .ok (.iload_n 0, 1) := by decide +kernel
theorem dX6_bitsOfShare_12 : decode cX6_bitsOfShare 12 = .ok (.istore_n 2, 1) := by decide +kernel
theorem dX6_bitsOfShare_13 : decode cX6_bitsOfShare 13 = .ok (.iconst 0, 1) := by decide +kernel
theorem dX6_bitsOfShare_14 : decode cX6_bitsOfShare 14 = .ok (.istore_n 3, 1) := by decide +kernel
theorem dX6_bitsOfShare_15 : decode cX6_bitsOfShare 15 = .ok (.iload_n 2, 1) := by decide +kernel
theorem dX6_bitsOfShare_16 : decode cX6_bitsOfShare 16 = .ok (.iload_n 1, 1) := by decide +kernel
theorem dX6_bitsOfShare_17 : decode cX6_bitsOfShare 17 = .ok (.if_icmp .ge 19, 3) := by decide +kernel
theorem dX6_bitsOfShare_20 : decode cX6_bitsOfShare 20 = .ok (.iload_n 3, 1) := by decide +kernel
theorem dX6_bitsOfShare_21 : decode cX6_bitsOfShare 21 = .ok (.bipush (-64), 2) := by decide +kernel
theorem dX6_bitsOfShare_23 : decode cX6_bitsOfShare 23 = .ok (.if_icmp .le 13, 3) := by decide +kernel
theorem dX6_bitsOfShare_26 : decode cX6_bitsOfShare 26 = .ok (.iload_n 2, 1) := by decide +kernel
theorem dX6_bitsOfShare_27 : decode cX6_bitsOfShare 27 = .ok (.iconst 2, 1) := by decide +kernel
theorem dX6_bitsOfShare_28 : decode cX6_bitsOfShare 28 = .ok (.imul, 1) := by decide +kernel
theorem dX6_bitsOfShare_29 : decode cX6_bitsOfShare 29 = .ok (.istore_n 2, 1) := by decide +kernel
theorem dX6_bitsOfShare_30 : decode cX6_bitsOfShare 30 = .ok (.iinc 3 (-1), 3) := by decide +kernel
theorem dX6_bitsOfShare_33 : decode cX6_bitsOfShare 33 = .ok (.goto (-18), 3) := by decide +kernel
theorem dX6_bitsOfShare_36 : decode cX6_bitsOfShare 36 = .ok (.lconst 0, 1) := by decide +kernel
theorem dX6_bitsOfShare_37 : decode cX6_bitsOfShare 37 = .ok (.lstore 4, 2) := by decide +kernel
theorem dX6_bitsOfShare_39 : decode cX6_bitsOfShare 39 = .ok (.iconst 0, 1) := by decide +kernel
theorem dX6_bitsOfShare_40 : decode cX6_bitsOfShare 40 = .ok (.istore 6, 2) := by decide +kernel
theorem dX6_bitsOfShare_42 : decode cX6_bitsOfShare 42 = .ok (.iload 6, 2) := by decide +kernel
theorem dX6_bitsOfShare_44 : decode cX6_bitsOfShare 44 = .ok (.bipush 53, 2) := by decide +kernel
theorem dX6_bitsOfShare_46 : decode cX6_bitsOfShare 46 = .ok (.if_icmp .ge 36, 3) := by decide +kernel
theorem dX6_bitsOfShare_49 : decode cX6_bitsOfShare 49 = .ok (.lload 4, 2) := by decide +kernel
theorem dX6_bitsOfShare_51 : decode cX6_bitsOfShare 51 = .ok (.ldc2_w 297, 3) := by decide +kernel
theorem dX6_bitsOfShare_54 : decode cX6_bitsOfShare 54 = .ok (.lmul, 1) := by decide +kernel
theorem dX6_bitsOfShare_55 : decode cX6_bitsOfShare 55 = .ok (.lstore 4, 2) := by decide +kernel
theorem dX6_bitsOfShare_57 : decode cX6_bitsOfShare 57 = .ok (.iload_n 2, 1) := by decide +kernel
theorem dX6_bitsOfShare_58 : decode cX6_bitsOfShare 58 = .ok (.iload_n 1, 1) := by decide +kernel
theorem dX6_bitsOfShare_59 : decode cX6_bitsOfShare 59 = .ok (.if_icmp .lt 13, 3) := by decide +kernel
theorem dX6_bitsOfShare_62 : decode cX6_bitsOfShare 62 = .ok (.lload 4, 2) := by decide +kernel
theorem dX6_bitsOfShare_64 : decode cX6_bitsOfShare 64 = .ok (.lconst 1, 1) := by decide +kernel
theorem dX6_bitsOfShare_65 : decode cX6_bitsOfShare 65 = .ok (.ladd, 1) := by decide +kernel
theorem dX6_bitsOfShare_66 : decode cX6_bitsOfShare 66 = .ok (.lstore 4, 2) := by decide +kernel
theorem dX6_bitsOfShare_68 : decode cX6_bitsOfShare 68 = .ok (.iload_n 2, 1) := by decide +kernel
theorem dX6_bitsOfShare_69 : decode cX6_bitsOfShare 69 = .ok (.iload_n 1, 1) := by decide +kernel
theorem dX6_bitsOfShare_70 : decode cX6_bitsOfShare 70 = .ok (.isub, 1) := by decide +kernel
theorem dX6_bitsOfShare_71 : decode cX6_bitsOfShare 71 = .ok (.istore_n 2, 1) := by decide +kernel
theorem dX6_bitsOfShare_72 : decode cX6_bitsOfShare 72 = .ok (.iload_n 2, 1) := by decide +kernel
theorem dX6_bitsOfShare_73 : decode cX6_bitsOfShare 73 = .ok (.iconst 2, 1) := by decide +kernel
theorem dX6_bitsOfShare_74 : decode cX6_bitsOfShare 74 = .ok (.imul, 1) := by decide +kernel
theorem dX6_bitsOfShare_75 : decode cX6_bitsOfShare 75 = .ok (.istore_n 2, 1) := by decide +kernel
theorem dX6_bitsOfShare_76 : decode cX6_bitsOfShare 76 = .ok (.iinc 6 1, 3) := by decide +kernel
theorem dX6_bitsOfShare_79 : decode cX6_bitsOfShare 79 = .ok (.goto (-37), 3) := by decide +kernel
theorem dX6_bitsOfShare_82 : decode cX6_bitsOfShare 82 = .ok (.iload_n 2, 1) := by decide +kernel
theorem dX6_bitsOfShare_83 : decode cX6_bitsOfShare 83 = .ok (.iload_n 1, 1) := by decide +kernel
theorem dX6_bitsOfShare_84 : decode cX6_bitsOfShare 84 = .ok (.if_icmp .gt 17, 3) := by decide +kernel
theorem dX6_bitsOfShare_87 : decode cX6_bitsOfShare 87 = .ok (.iload_n 2, 1) := by decide +kernel
theorem dX6_bitsOfShare_88 : decode cX6_bitsOfShare 88 = .ok (.iload_n 1, 1) := by decide +kernel
theorem dX6_bitsOfShare_89 : decode cX6_bitsOfShare 89 = .ok (.if_icmp .ne 18, 3) := by decide +kernel
theorem dX6_bitsOfShare_92 : decode cX6_bitsOfShare 92 = .ok (.lload 4, 2) := by decide +kernel
theorem dX6_bitsOfShare_94 : decode cX6_bitsOfShare 94 = .ok (.lconst 1, 1) := by decide +kernel
theorem dX6_bitsOfShare_95 : decode cX6_bitsOfShare 95 = .ok (.land, 1) := by decide +kernel
theorem dX6_bitsOfShare_96 : decode cX6_bitsOfShare 96 = .ok (.lconst 1, 1) := by decide +kernel
theorem dX6_bitsOfShare_97 : decode cX6_bitsOfShare 97 = .ok (.lcmp, 1) := by decide +kernel
theorem dX6_bitsOfShare_98 : decode cX6_bitsOfShare 98 = .ok (.ifCond .ne 9, 3) := by decide +kernel
theorem dX6_bitsOfShare_101 : decode cX6_bitsOfShare 101 = .ok (.lload 4, 2) := by decide +kernel
theorem dX6_bitsOfShare_103 : decode cX6_bitsOfShare 103 = .ok (.lconst 1, 1) := by decide +kernel
theorem dX6_bitsOfShare_104 : decode cX6_bitsOfShare 104 = .ok (.ladd, 1) := by decide +kernel
theorem dX6_bitsOfShare_105 : decode cX6_bitsOfShare 105 = .ok (.lstore 4, 2) := by decide +kernel
theorem dX6_bitsOfShare_107 : decode cX6_bitsOfShare 107 = .ok (.iload_n 3, 1) := by decide +kernel
theorem dX6_bitsOfShare_108 : decode cX6_bitsOfShare 108 = .ok (.sipush 1022, 3) := by decide +kernel
theorem dX6_bitsOfShare_111 : decode cX6_bitsOfShare 111 = .ok (.iadd, 1) := by decide +kernel
theorem dX6_bitsOfShare_112 : decode cX6_bitsOfShare 112 = .ok (.i2l, 1) := by decide +kernel
theorem dX6_bitsOfShare_113 : decode cX6_bitsOfShare 113 = .ok (.bipush 52, 2) := by decide +kernel
theorem dX6_bitsOfShare_115 : decode cX6_bitsOfShare 115 = .ok (.lshl, 1) := by decide +kernel
theorem dX6_bitsOfShare_116 : decode cX6_bitsOfShare 116 = .ok (.lload 4, 2) := by decide +kernel
theorem dX6_bitsOfShare_118 : decode cX6_bitsOfShare 118 = .ok (.ladd, 1) := by decide +kernel
theorem dX6_bitsOfShare_119 : decode cX6_bitsOfShare 119 = .ok (.lreturn, 1) := by decide +kernel
theorem dX6_dense_0 : decode cX6_dense 0 = .ok (.aload_n 0, 1) := by decide +kernel
theorem dX6_dense_1 : decode cX6_dense 1 = .ok (.iload_n 1, 1) := by decide +kernel
theorem dX6_dense_2 : decode cX6_dense 2 = .ok (.invokevirtual 130, 3) := by decide +kernel
theorem dX6_dense_5 : decode cX6_dense 5 = .ok (.ifCond .eq 12, 3) := by decide +kernel
theorem dX6_dense_8 : decode cX6_dense 8 = .ok (.iload 4, 2) := by decide +kernel
theorem dX6_dense_10 : decode cX6_dense 10 = .ok (.iconst 2, 1) := by decide +kernel
theorem dX6_dense_11 : decode cX6_dense 11 = .ok (.invokestatic 109, 3) := by decide +kernel
theorem dX6_dense_14 : decode cX6_dense 14 = .ok (.ifCond .ne 5, 3) := by decide +kernel
theorem dX6_dense_17 : decode cX6_dense 17 = .ok (.iconst (-1), 1) := by decide +kernel
theorem dX6_dense_18 : decode cX6_dense 18 = .ok (.ireturn, 1) := by decide +kernel
theorem dX6_dense_19 : decode cX6_dense 19 = .ok (.aload_n 0, 1) := by decide +kernel
theorem dX6_dense_20 : decode cX6_dense 20 = .ok (.getfield 20, 3) := by decide +kernel
theorem dX6_dense_23 : decode cX6_dense 23 = .ok (.getfield 133, 3) := by decide +kernel
theorem dX6_dense_26 : decode cX6_dense 26 = .ok (.iload_n 1, 1) := by decide +kernel
theorem dX6_dense_27 : decode cX6_dense 27 = .ok (.aaload, 1) := by decide +kernel
theorem dX6_dense_28 : decode cX6_dense 28 = .ok (.astore 5, 2) := by decide +kernel
theorem dX6_dense_30 : decode cX6_dense 30 = .ok (.iload_n 2, 1) := by decide +kernel
theorem dX6_dense_31 : decode cX6_dense 31 = .ok (.iconst 1, 1) := by decide +kernel
theorem dX6_dense_32 : decode cX6_dense 32 = .ok (.if_icmp .lt 26, 3) := by decide +kernel
theorem dX6_dense_35 : decode cX6_dense 35 = .ok (.iload_n 2, 1) := by decide +kernel
theorem dX6_dense_36 : decode cX6_dense 36 = .ok (.aload 5, 2) := by decide +kernel
theorem dX6_dense_38 : decode cX6_dense 38 = .ok (.getfield 170, 3) := by decide +kernel
theorem dX6_dense_41 : decode cX6_dense 41 = .ok (.if_icmp .gt 17, 3) := by decide +kernel
theorem dX6_dense_44 : decode cX6_dense 44 = .ok (.iload_n 3, 1) := by decide +kernel
theorem dX6_dense_45 : decode cX6_dense 45 = .ok (.iconst 1, 1) := by decide +kernel
theorem dX6_dense_46 : decode cX6_dense 46 = .ok (.if_icmp .lt 12, 3) := by decide +kernel
theorem dX6_dense_49 : decode cX6_dense 49 = .ok (.iload_n 3, 1) := by decide +kernel
theorem dX6_dense_50 : decode cX6_dense 50 = .ok (.aload 5, 2) := by decide +kernel
theorem dX6_dense_52 : decode cX6_dense 52 = .ok (.getfield 173, 3) := by decide +kernel
theorem dX6_dense_55 : decode cX6_dense 55 = .ok (.if_icmp .le 5, 3) := by decide +kernel
theorem dX6_dense_58 : decode cX6_dense 58 = .ok (.iconst (-1), 1) := by decide +kernel
theorem dX6_dense_59 : decode cX6_dense 59 = .ok (.ireturn, 1) := by decide +kernel
theorem dX6_dense_60 : decode cX6_dense 60 = .ok (.iconst (-1), 1) := by decide +kernel
theorem dX6_dense_61 : decode cX6_dense 61 = .ok (.istore 6, 2) := by decide +kernel
theorem dX6_dense_63 : decode cX6_dense 63 = .ok (.iconst 0, 1) := by decide +kernel
theorem dX6_dense_64 : decode cX6_dense 64 = .ok (.istore 7, 2) := by decide +kernel
theorem dX6_dense_66 : decode cX6_dense 66 = .ok (.iconst 0, 1) := by decide +kernel
theorem dX6_dense_67 : decode cX6_dense 67 = .ok (.istore 8, 2) := by decide +kernel
theorem dX6_dense_69 : decode cX6_dense 69 = .ok (.iconst 0, 1) := by decide +kernel
theorem dX6_dense_70 : decode cX6_dense 70 = .ok (.istore 9, 2) := by decide +kernel
theorem dX6_dense_72 : decode cX6_dense 72 = .ok (.iload 9, 2) := by decide +kernel
theorem dX6_dense_74 : decode cX6_dense 74 = .ok (.aload 5, 2) := by decide +kernel
theorem dX6_dense_76 : decode cX6_dense 76 = .ok (.getfield 173, 3) := by decide +kernel
theorem dX6_dense_79 : decode cX6_dense 79 = .ok (.iload_n 3, 1) := by decide +kernel
theorem dX6_dense_80 : decode cX6_dense 80 = .ok (.isub, 1) := by decide +kernel
theorem dX6_dense_81 : decode cX6_dense 81 = .ok (.if_icmp .gt 62, 3) := by decide +kernel
theorem dX6_dense_84 : decode cX6_dense 84 = .ok (.iconst 0, 1) := by decide +kernel
theorem dX6_dense_85 : decode cX6_dense 85 = .ok (.istore 10, 2) := by decide +kernel
theorem dX6_dense_87 : decode cX6_dense 87 = .ok (.iload 10, 2) := by decide +kernel
theorem dX6_dense_89 : decode cX6_dense 89 = .ok (.aload 5, 2) := by decide +kernel
theorem dX6_dense_91 : decode cX6_dense 91 = .ok (.getfield 170, 3) := by decide +kernel
theorem dX6_dense_94 : decode cX6_dense 94 = .ok (.iload_n 2, 1) := by decide +kernel
theorem dX6_dense_95 : decode cX6_dense 95 = .ok (.isub, 1) := by decide +kernel
theorem dX6_dense_96 : decode cX6_dense 96 = .ok (.if_icmp .gt 41, 3) := by decide +kernel
theorem dX6_dense_99 : decode cX6_dense 99 = .ok (.aload 5, 2) := by decide +kernel
theorem dX6_dense_101 : decode cX6_dense 101 = .ok (.iload 10, 2) := by decide +kernel
theorem dX6_dense_103 : decode cX6_dense 103 = .ok (.iload 9, 2) := by decide +kernel
theorem dX6_dense_105 : decode cX6_dense 105 = .ok (.iload_n 2, 1) := by decide +kernel
theorem dX6_dense_106 : decode cX6_dense 106 = .ok (.iload_n 3, 1) := by decide +kernel
theorem dX6_dense_107 : decode cX6_dense 107 = .ok (.invokevirtual 278, 3) := by decide +kernel
theorem dX6_dense_110 : decode cX6_dense 110 = .ok (.istore 11, 2) := by decide +kernel
theorem dX6_dense_112 : decode cX6_dense 112 = .ok (.iload 11, 2) := by decide +kernel
theorem dX6_dense_114 : decode cX6_dense 114 = .ok (.iload 6, 2) := by decide +kernel
theorem dX6_dense_116 : decode cX6_dense 116 = .ok (.if_icmp .le 15, 3) := by decide +kernel
theorem dX6_dense_119 : decode cX6_dense 119 = .ok (.iload 11, 2) := by decide +kernel
theorem dX6_dense_121 : decode cX6_dense 121 = .ok (.istore 6, 2) := by decide +kernel
theorem dX6_dense_123 : decode cX6_dense 123 = .ok (.iload 10, 2) := by decide +kernel
theorem dX6_dense_125 : decode cX6_dense 125 = .ok (.istore 7, 2) := by decide +kernel
theorem dX6_dense_127 : decode cX6_dense 127 = .ok (.iload 9, 2) := by decide +kernel
theorem dX6_dense_129 : decode cX6_dense 129 = .ok (.istore 8, 2) := by decide +kernel
theorem dX6_dense_131 : decode cX6_dense 131 = .ok (.iinc 10 1, 3) := by decide +kernel
theorem dX6_dense_134 : decode cX6_dense 134 = .ok (.goto (-47), 3) := by decide +kernel
theorem dX6_dense_137 : decode cX6_dense 137 = .ok (.iinc 9 1, 3) := by decide +kernel
theorem dX6_dense_140 : decode cX6_dense 140 = .ok (.goto (-68), 3) := by decide +kernel
theorem dX6_dense_143 : decode cX6_dense 143 = .ok (.iload 4, 2) := by decide +kernel
theorem dX6_dense_145 : decode cX6_dense 145 = .ok (.ifCond .ne 8, 3) := by decide +kernel
theorem dX6_dense_148 : decode cX6_dense 148 = .ok (.iload 6, 2) := by decide +kernel
theorem dX6_dense_150 : decode cX6_dense 150 = .ok (.goto 16, 3) := by decide +kernel
theorem dX6_dense_153 : decode cX6_dense 153 = .ok (.iload 4, 2) := by decide +kernel
theorem dX6_dense_155 : decode cX6_dense 155 = .ok (.iconst 1, 1) := by decide +kernel
theorem dX6_dense_156 : decode cX6_dense 156 = .ok (.if_icmp .ne 8, 3) := by decide +kernel
theorem dX6_dense_159 : decode cX6_dense 159 = .ok (.iload 7, 2) := by decide +kernel
theorem dX6_dense_161 : decode cX6_dense 161 = .ok (.goto 5, 3) := by decide +kernel
theorem dX6_dense_164 : decode cX6_dense 164 = .ok (.iload 8, 2) := by decide +kernel
theorem dX6_dense_166 : decode cX6_dense 166 = .ok (.ireturn, 1) := by decide +kernel
theorem dX6_dots_0 : decode cX6_dots 0 = .ok (.aload_n 0, 1) := by decide +kernel
theorem dX6_dots_1 : decode cX6_dots 1 = .ok (.iload_n 1, 1) := by decide +kernel
theorem dX6_dots_2 : decode cX6_dots 2 = .ok (.invokevirtual 130, 3) := by decide +kernel
theorem dX6_dots_5 : decode cX6_dots 5 = .ok (.ifCond .eq 7, 3) := by decide +kernel
theorem dX6_dots_8 : decode cX6_dots 8 = .ok (.iload_n 3, 1) := by decide +kernel
theorem dX6_dots_9 : decode cX6_dots 9 = .ok (.ifCond .ge 5, 3) := by decide +kernel
theorem dX6_dots_12 : decode cX6_dots 12 = .ok (.iconst (-1), 1) := by decide +kernel
theorem dX6_dots_13 : decode cX6_dots 13 = .ok (.ireturn, 1) := by decide +kernel
theorem dX6_dots_14 : decode cX6_dots 14 = .ok (.aload_n 0, 1) := by decide +kernel
theorem dX6_dots_15 : decode cX6_dots 15 = .ok (.getfield 20, 3) := by decide +kernel
theorem dX6_dots_18 : decode cX6_dots 18 = .ok (.getfield 133, 3) := by decide +kernel
theorem dX6_dots_21 : decode cX6_dots 21 = .ok (.iload_n 1, 1) := by decide +kernel
theorem dX6_dots_22 : decode cX6_dots 22 = .ok (.aaload, 1) := by decide +kernel
theorem dX6_dots_23 : decode cX6_dots 23 = .ok (.astore 4, 2) := by decide +kernel
theorem dX6_dots_25 : decode cX6_dots 25 = .ok (.iload_n 3, 1) := by decide +kernel
theorem dX6_dots_26 : decode cX6_dots 26 = .ok (.iload_n 2, 1) := by decide +kernel
theorem dX6_dots_27 : decode cX6_dots 27 = .ok (.ifCond .eq 11, 3) := by decide +kernel
theorem dX6_dots_30 : decode cX6_dots 30 = .ok (.aload 4, 2) := by decide +kernel
theorem dX6_dots_32 : decode cX6_dots 32 = .ok (.getfield 170, 3) := by decide +kernel
theorem dX6_dots_35 : decode cX6_dots 35 = .ok (.goto 8, 3) := by decide +kernel
theorem dX6_dots_38 : decode cX6_dots 38 = .ok (.aload 4, 2) := by decide +kernel
theorem dX6_dots_40 : decode cX6_dots 40 = .ok (.getfield 173, 3) := by decide +kernel
theorem dX6_dots_43 : decode cX6_dots 43 = .ok (.if_icmp .lt 5, 3) := by decide +kernel
theorem dX6_dots_46 : decode cX6_dots 46 = .ok (.iconst (-1), 1) := by decide +kernel
theorem dX6_dots_47 : decode cX6_dots 47 = .ok (.ireturn, 1) := by decide +kernel
theorem dX6_dots_48 : decode cX6_dots 48 = .ok (.iload_n 2, 1) := by decide +kernel
theorem dX6_dots_49 : decode cX6_dots 49 = .ok (.ifCond .eq 19, 3) := by decide +kernel
theorem dX6_dots_52 : decode cX6_dots 52 = .ok (.aload 4, 2) := by decide +kernel
theorem dX6_dots_54 : decode cX6_dots 54 = .ok (.iload_n 3, 1) := by decide +kernel
theorem dX6_dots_55 : decode cX6_dots 55 = .ok (.iconst 0, 1) := by decide +kernel
theorem dX6_dots_56 : decode cX6_dots 56 = .ok (.iconst 1, 1) := by decide +kernel
theorem dX6_dots_57 : decode cX6_dots 57 = .ok (.aload 4, 2) := by decide +kernel
theorem dX6_dots_59 : decode cX6_dots 59 = .ok (.getfield 173, 3) := by decide +kernel
theorem dX6_dots_62 : decode cX6_dots 62 = .ok (.invokevirtual 278, 3) := by decide +kernel
theorem dX6_dots_65 : decode cX6_dots 65 = .ok (.goto 16, 3) := by decide +kernel
theorem dX6_dots_68 : decode cX6_dots 68 = .ok (.aload 4, 2) := by decide +kernel
theorem dX6_dots_70 : decode cX6_dots 70 = .ok (.iconst 0, 1) := by decide +kernel
theorem dX6_dots_71 : decode cX6_dots 71 = .ok (.iload_n 3, 1) := by decide +kernel
theorem dX6_dots_72 : decode cX6_dots 72 = .ok (.aload 4, 2) := by decide +kernel
theorem dX6_dots_74 : decode cX6_dots 74 = .ok (.getfield 170, 3) := by decide +kernel
theorem dX6_dots_77 : decode cX6_dots 77 = .ok (.iconst 1, 1) := by decide +kernel
theorem dX6_dots_78 : decode cX6_dots 78 = .ok (.invokevirtual 278, 3) := by decide +kernel
theorem dX6_dots_81 : decode cX6_dots 81 = .ok (.ireturn, 1) := by decide +kernel
theorem dX6_letter_0 : decode cX6_letter 0 = .ok (.aload_n 0, 1) := by decide +kernel
theorem dX6_letter_1 : decode cX6_letter 1 = .ok (.iload_n 1, 1) := by decide +kernel
theorem dX6_letter_2 : decode cX6_letter 2 = .ok (.invokevirtual 130, 3) := by decide +kernel
theorem dX6_letter_5 : decode cX6_letter 5 = .ok (.ifCond .eq 8, 3) := by decide +kernel
theorem dX6_letter_8 : decode cX6_letter 8 = .ok (.iload_n 2, 1) := by decide +kernel
theorem dX6_letter_9 : decode cX6_letter 9 = .ok (.iconst (-1), 1) := by decide +kernel
theorem dX6_letter_10 : decode cX6_letter 10 = .ok (.if_icmp .ge 5, 3) := by decide +kernel
theorem dX6_letter_13 : decode cX6_letter 13 = .ok (.iconst (-1), 1) := by decide +kernel
theorem dX6_letter_14 : decode cX6_letter 14 = .ok (.ireturn, 1) := by decide +kernel
theorem dX6_letter_15 : decode cX6_letter 15 = .ok (.aload_n 0, 1) := by decide +kernel
theorem dX6_letter_16 : decode cX6_letter 16 = .ok (.getfield 20, 3) := by decide +kernel
theorem dX6_letter_19 : decode cX6_letter 19 = .ok (.getfield 133, 3) := by decide +kernel
theorem dX6_letter_22 : decode cX6_letter 22 = .ok (.iload_n 1, 1) := by decide +kernel
theorem dX6_letter_23 : decode cX6_letter 23 = .ok (.aaload, 1) := by decide +kernel
theorem dX6_letter_24 : decode cX6_letter 24 = .ok (.astore_n 3, 1) := by decide +kernel
theorem dX6_letter_25 : decode cX6_letter 25 = .ok (.aload_n 3, 1) := by decide +kernel
theorem dX6_letter_26 : decode cX6_letter 26 = .ok (.getfield 170, 3) := by decide +kernel
theorem dX6_letter_29 : decode cX6_letter 29 = .ok (.iconst 1, 1) := by decide +kernel
theorem dX6_letter_30 : decode cX6_letter 30 = .ok (.iadd, 1) := by decide +kernel
theorem dX6_letter_31 : decode cX6_letter 31 = .ok (.istore 4, 2) := by decide +kernel
theorem dX6_letter_33 : decode cX6_letter 33 = .ok (.iload 4, 2) := by decide +kernel
theorem dX6_letter_35 : decode cX6_letter 35 = .ok (.aload_n 3, 1) := by decide +kernel
theorem dX6_letter_36 : decode cX6_letter 36 = .ok (.getfield 173, 3) := by decide +kernel
theorem dX6_letter_39 : decode cX6_letter 39 = .ok (.imul, 1) := by decide +kernel
theorem dX6_letter_40 : decode cX6_letter 40 = .ok (.iconst 1, 1) := by decide +kernel
theorem dX6_letter_41 : decode cX6_letter 41 = .ok (.isub, 1) := by decide +kernel
theorem dX6_letter_42 : decode cX6_letter 42 = .ok (.istore 5, 2) := by decide +kernel
theorem dX6_letter_44 : decode cX6_letter 44 = .ok (.iload_n 2, 1) := by decide +kernel
theorem dX6_letter_45 : decode cX6_letter 45 = .ok (.iconst (-1), 1) := by decide +kernel
theorem dX6_letter_46 : decode cX6_letter 46 = .ok (.if_icmp .ne 6, 3) := by decide +kernel
theorem dX6_letter_49 : decode cX6_letter 49 = .ok (.iload 5, 2) := by decide +kernel
theorem dX6_letter_51 : decode cX6_letter 51 = .ok (.ireturn, 1) := by decide +kernel
theorem dX6_letter_52 : decode cX6_letter 52 = .ok (.iload_n 2, 1) := by decide +kernel
theorem dX6_letter_53 : decode cX6_letter 53 = .ok (.iload 5, 2) := by decide +kernel
theorem dX6_letter_55 : decode cX6_letter 55 = .ok (.if_icmp .lt 6, 3) := by decide +kernel
theorem dX6_letter_58 : decode cX6_letter 58 = .ok (.bipush (-2), 2) := by decide +kernel
theorem dX6_letter_60 : decode cX6_letter 60 = .ok (.ireturn, 1) := by decide +kernel
theorem dX6_letter_61 : decode cX6_letter 61 = .ok (.iload_n 2, 1) := by decide +kernel
theorem dX6_letter_62 : decode cX6_letter 62 = .ok (.iload 4, 2) := by decide +kernel
theorem dX6_letter_64 : decode cX6_letter 64 = .ok (.irem, 1) := by decide +kernel
theorem dX6_letter_65 : decode cX6_letter 65 = .ok (.istore 6, 2) := by decide +kernel
theorem dX6_letter_67 : decode cX6_letter 67 = .ok (.iload 6, 2) := by decide +kernel
theorem dX6_letter_69 : decode cX6_letter 69 = .ok (.aload_n 3, 1) := by decide +kernel
theorem dX6_letter_70 : decode cX6_letter 70 = .ok (.getfield 170, 3) := by decide +kernel
theorem dX6_letter_73 : decode cX6_letter 73 = .ok (.if_icmp .ne 6, 3) := by decide +kernel
theorem dX6_letter_76 : decode cX6_letter 76 = .ok (.bipush 47, 2) := by decide +kernel
theorem dX6_letter_78 : decode cX6_letter 78 = .ok (.ireturn, 1) := by decide +kernel
theorem dX6_letter_79 : decode cX6_letter 79 = .ok (.aload_n 3, 1) := by decide +kernel
theorem dX6_letter_80 : decode cX6_letter 80 = .ok (.iload 6, 2) := by decide +kernel
theorem dX6_letter_82 : decode cX6_letter 82 = .ok (.iload_n 2, 1) := by decide +kernel
theorem dX6_letter_83 : decode cX6_letter 83 = .ok (.iload 4, 2) := by decide +kernel
theorem dX6_letter_85 : decode cX6_letter 85 = .ok (.idiv, 1) := by decide +kernel
theorem dX6_letter_86 : decode cX6_letter 86 = .ok (.invokevirtual 147, 3) := by decide +kernel
theorem dX6_letter_89 : decode cX6_letter 89 = .ok (.ifCond .eq 8, 3) := by decide +kernel
theorem dX6_letter_92 : decode cX6_letter 92 = .ok (.bipush 35, 2) := by decide +kernel
theorem dX6_letter_94 : decode cX6_letter 94 = .ok (.goto 5, 3) := by decide +kernel
theorem dX6_letter_97 : decode cX6_letter 97 = .ok (.bipush 46, 2) := by decide +kernel
theorem dX6_letter_99 : decode cX6_letter 99 = .ok (.ireturn, 1) := by decide +kernel
theorem dX6_share_0 : decode cX6_share 0 = .ok (.aload_n 0, 1) := by decide +kernel
theorem dX6_share_1 : decode cX6_share 1 = .ok (.iload_n 1, 1) := by decide +kernel
theorem dX6_share_2 : decode cX6_share 2 = .ok (.invokevirtual 130, 3) := by decide +kernel
theorem dX6_share_5 : decode cX6_share 5 = .ok (.ifCond .ne 7, 3) := by decide +kernel
theorem dX6_share_8 : decode cX6_share 8 = .ok (.ldc2_w 291, 3) := by decide +kernel
theorem dX6_share_11 : decode cX6_share 11 = .ok (.lreturn, 1) := by decide +kernel
theorem dX6_share_12 : decode cX6_share 12 = .ok (.aload_n 0, 1) := by decide +kernel
theorem dX6_share_13 : decode cX6_share 13 = .ok (.getfield 20, 3) := by decide +kernel
theorem dX6_share_16 : decode cX6_share 16 = .ok (.getfield 133, 3) := by decide +kernel
theorem dX6_share_19 : decode cX6_share 19 = .ok (.iload_n 1, 1) := by decide +kernel
theorem dX6_share_20 : decode cX6_share 20 = .ok (.aaload, 1) := by decide +kernel
theorem dX6_share_21 : decode cX6_share 21 = .ok (.astore_n 2, 1) := by decide +kernel
theorem dX6_share_22 : decode cX6_share 22 = .ok (.aload_n 2, 1) := by decide +kernel
theorem dX6_share_23 : decode cX6_share 23 = .ok (.getfield 150, 3) := by decide +kernel
theorem dX6_share_26 : decode cX6_share 26 = .ok (.aload_n 2, 1) := by decide +kernel
theorem dX6_share_27 : decode cX6_share 27 = .ok (.getfield 170, 3) := by decide +kernel
theorem dX6_share_30 : decode cX6_share 30 = .ok (.aload_n 2, 1) := by decide +kernel
theorem dX6_share_31 : decode cX6_share 31 = .ok (.getfield 173, 3) := by decide +kernel
theorem dX6_share_34 : decode cX6_share 34 = .ok (.imul, 1) := by decide +kernel
theorem dX6_share_35 : decode cX6_share 35 = .ok (.invokestatic 293, 3) := by decide +kernel
theorem dX6_share_38 : decode cX6_share 38 = .ok (.lreturn, 1) := by decide +kernel
theorem dX6_spread_0 : decode cX6_spread 0 = .ok (.aload_n 0, 1) := by decide +kernel
theorem dX6_spread_1 : decode cX6_spread 1 = .ok (.iload_n 1, 1) := by decide +kernel
theorem dX6_spread_2 : decode cX6_spread 2 = .ok (.invokevirtual 130, 3) := by decide +kernel
theorem dX6_spread_5 : decode cX6_spread 5 = .ok (.ifCond .ne 5, 3) := by decide +kernel
theorem dX6_spread_8 : decode cX6_spread 8 = .ok (.iconst (-1), 1) := by decide +kernel
theorem dX6_spread_9 : decode cX6_spread 9 = .ok (.ireturn, 1) := by decide +kernel
theorem dX6_spread_10 : decode cX6_spread 10 = .ok (.iload_n 2, 1) := by decide +kernel
theorem dX6_spread_11 : decode cX6_spread 11 = .ok (.tableswitch 64 0 2 #[25, 38, 51], 25) := by decide +kernel
theorem dX6_spread_36 : decode cX6_spread 36 = .ok (.aload_n 0, 1) := by decide +kernel
theorem dX6_spread_37 : decode cX6_spread 37 = .ok (.getfield 20, 3) := by decide +kernel
theorem dX6_spread_40 : decode cX6_spread 40 = .ok (.getfield 133, 3) := by decide +kernel
theorem dX6_spread_43 : decode cX6_spread 43 = .ok (.iload_n 1, 1) := by decide +kernel
theorem dX6_spread_44 : decode cX6_spread 44 = .ok (.aaload, 1) := by decide +kernel
theorem dX6_spread_45 : decode cX6_spread 45 = .ok (.invokevirtual 282, 3) := by decide +kernel
theorem dX6_spread_48 : decode cX6_spread 48 = .ok (.ireturn, 1) := by decide +kernel
theorem dX6_spread_49 : decode cX6_spread 49 = .ok (.aload_n 0, 1) := by decide +kernel
theorem dX6_spread_50 : decode cX6_spread 50 = .ok (.getfield 20, 3) := by decide +kernel
theorem dX6_spread_53 : decode cX6_spread 53 = .ok (.getfield 133, 3) := by decide +kernel
theorem dX6_spread_56 : decode cX6_spread 56 = .ok (.iload_n 1, 1) := by decide +kernel
theorem dX6_spread_57 : decode cX6_spread 57 = .ok (.aaload, 1) := by decide +kernel
theorem dX6_spread_58 : decode cX6_spread 58 = .ok (.invokevirtual 285, 3) := by decide +kernel
theorem dX6_spread_61 : decode cX6_spread 61 = .ok (.ireturn, 1) := by decide +kernel
theorem dX6_spread_62 : decode cX6_spread 62 = .ok (.aload_n 0, 1) := by decide +kernel
theorem dX6_spread_63 : decode cX6_spread 63 = .ok (.getfield 20, 3) := by decide +kernel
theorem dX6_spread_66 : decode cX6_spread 66 = .ok (.getfield 133, 3) := by decide +kernel
theorem dX6_spread_69 : decode cX6_spread 69 = .ok (.iload_n 1, 1) := by decide +kernel
theorem dX6_spread_70 : decode cX6_spread 70 = .ok (.aaload, 1) := by decide +kernel
theorem dX6_spread_71 : decode cX6_spread 71 = .ok (.invokevirtual 288, 3) := by decide +kernel
theorem dX6_spread_74 : decode cX6_spread 74 = .ok (.ireturn, 1) := by decide +kernel
theorem dX6_spread_75 : decode cX6_spread 75 = .ok (.iconst (-1), 1) := by decide +kernel
theorem dX6_spread_76 : decode cX6_spread 76 = .ok (.ireturn, 1) := by decide +kernel
set_option maxRecDepth 100000 in
theorem pq916 : Cond.methodLink RX6 278 yX3_dotsWithin ∈ pw := pw_mem (i := 916) (by decide +kernel) rfl
set_option maxRecDepth 100000 in
theorem pq928 : Cond.methodLink RX6 282 yX3_sumOfX ∈ pw := pw_mem (i := 928) (by decide +kernel) rfl
set_option maxRecDepth 100000 in
theorem pq929 : Cond.instanceMethod yX3_sumOfX ∈ pw := pw_mem (i := 929) (by decide +kernel) rfl
set_option maxRecDepth 100000 in
theorem pq930 : Cond.selects RX3 yX3_sumOfX yX3_sumOfX ∈ pw := pw_mem (i := 930) (by decide +kernel) rfl
set_option maxRecDepth 100000 in
theorem pq931 : Cond.code yX3_sumOfX cX3_sumOfX 3 (some .int) ∈ pw := pw_mem (i := 931) (by rfl) rfl
set_option maxRecDepth 100000 in
theorem pq933 : Cond.methodLink RX6 285 yX3_sumOfY ∈ pw := pw_mem (i := 933) (by decide +kernel) rfl
set_option maxRecDepth 100000 in
theorem pq934 : Cond.instanceMethod yX3_sumOfY ∈ pw := pw_mem (i := 934) (by decide +kernel) rfl
set_option maxRecDepth 100000 in
theorem pq935 : Cond.selects RX3 yX3_sumOfY yX3_sumOfY ∈ pw := pw_mem (i := 935) (by decide +kernel) rfl
set_option maxRecDepth 100000 in
theorem pq936 : Cond.code yX3_sumOfY cX3_sumOfY 3 (some .int) ∈ pw := pw_mem (i := 936) (by rfl) rfl
set_option maxRecDepth 100000 in
theorem pq941 : Cond.methodLink RX6 288 yX3_farthestApart ∈ pw := pw_mem (i := 941) (by decide +kernel) rfl
set_option maxRecDepth 100000 in
theorem pq942 : Cond.instanceMethod yX3_farthestApart ∈ pw := pw_mem (i := 942) (by decide +kernel) rfl
set_option maxRecDepth 100000 in
theorem pq943 : Cond.selects RX3 yX3_farthestApart yX3_farthestApart ∈ pw := pw_mem (i := 943) (by decide +kernel) rfl
set_option maxRecDepth 100000 in
theorem pq944 : Cond.code yX3_farthestApart cX3_farthestApart 8 (some .int) ∈ pw := pw_mem (i := 944) (by rfl) rfl
set_option maxRecDepth 100000 in
theorem pq949 : Cond.constantLong RX6 291 (-1) ∈ pw := pw_mem (i := 949) (by decide +kernel) rfl
set_option maxRecDepth 100000 in
theorem pq950 : Cond.methodLink RX6 293 yX6_bitsOfShare ∈ pw := pw_mem (i := 950) (by decide +kernel) rfl
set_option maxRecDepth 100000 in
theorem pq951 : Cond.static yX6_bitsOfShare ∈ pw := pw_mem (i := 951) (by decide +kernel) rfl
set_option maxRecDepth 100000 in
theorem pq952 : Cond.code yX6_bitsOfShare cX6_bitsOfShare 7 (some .long) ∈ pw := pw_mem (i := 952) (by rfl) rfl
set_option maxRecDepth 100000 in
theorem pq953 : Cond.constantLong RX6 297 (2) ∈ pw := pw_mem (i := 953) (by decide +kernel) rfl
set_option maxHeartbeats 4000000 in
set_option maxRecDepth 100000 in
theorem s_X6_letter (l : Launch) (dC : Nat → ClassId) (dI : Nat → Nat → Nat) (cs : Nat → ClassId) (L : List Nat) (K G : Nat → Nat) (Q : Nat → Nat → Option Nat) (hQ : Sv L K G Q) (x0 m0 : Nat) (tx : GT) (tm : GT × Int) (sz : Nat) (I : Nat → Nat → Int32) (J : Nat → Nat → Int64) (hI : Iv L K x0 m0 tx tm I) (p0 : Nat) (hLp0 : p0 ∈ L) (hKp0 : K p0 = 6) (p1 : Int32) (p2 : Int32) : Met l yX6_letter (.code yX6_letter cX6_letter 7 (some .int) :: pw) ({ frames := 2, cells := 0, slots := 0, locals := 44 }) (sP (dC, dI) cs [.ref p0, .int p1, .int p2] sz L K I J Q) (va_Qi (fun (r : Int32) (_ : Unit) => (∀ σ : Sx, cxA Q I J p0 σ → r.toInt = ltR σ p1 p2)) (fun _ _ => True) (fun _ => False)) 0 0 (fun _ => False) := by
  refine Met.ofW (cc := cX6_letter) (maxL := 7) (ret := (some .int)) (by decide +kernel) rfl ?_
  intro p e s m args below meth c s₁ B hml hv
  obtain ⟨rfl, hsz, hP, hK, hD0, hN⟩ := hv
  have hx := B.exec
  have hb := B.bytes
  have hr := B.returns
  have hts := fun w (h : w ∈ pw) => atoms_spec (ws := Cond.code yX6_letter cX6_letter 7 (some .int) :: pw) B.pre w (List.mem_cons_of_mem _ h)
  have hown : s.vm.findClass RX6 = some m.cls := findClass_of_methodNamed B.named
  have hlocks := B.notSynchronized
  subst hsz
  have hBB : 999 ≤ tm.2 ∧ tm.2 ≤ 6000000 := hI.2.2.2.2.1
  have hD := hD0
  obtain ⟨H, hHe⟩ : ∃ H : Heap, H = s.heap := ⟨_, rfl⟩
  have hS : va_S (fun _ => False) s.heap H [] := by rw [hHe]; exact va_S.rf
  rw [← hHe] at hP
  have hl := lv_entry ([.ref p0, .int p1, .int p2]) (n := 7) (Nat.le_of_ble_eq_true rfl)
  rw [lg_entry_eq]
  generalize (lg_sl ([.ref p0, .int p1, .int p2]) ++ List.replicate (7 - (lg_sl ([.ref p0, .int p1, .int p2])).length) Slot.unset).toArray = ls at hl ⊢
  have hl : lv_has ls 7 [(0, .ref p0), (1, .int p1), (2, .int p2)] := hl
  rw [← hHe]
  refine namedW (fun R Qz hR hQz => ?_)
  refine lv_aload_n hx hb dX6_letter_0 rfl (lv_at hl 0 rfl) ?_
  refine lv_iload_n hx hb dX6_letter_1 rfl (lv_at hl 1 rfl) ?_
  refine ro_i (va_runV (As := [.int p1]) (rest := []) ⟨hx, hb, hml, hown, hts⟩ (s_X6_isMask l dC dI cs L K G Q hQ x0 m0 tx tm H.size I J hI p0 hLp0 hKp0 p1) (cwV 1 hts (gV pq666 pq668 pq4 pq74 pq669) rfl rfl rfl (by decide +kernel) ⟨(by rw [hR]; exact (Nat.le_of_ble_eq_true rfl)), (by rw [hR]; exact (Nat.le_of_ble_eq_true rfl))⟩) (sP_V hP hD hK hN hLp0 hKp0 rfl rfl) rfl rfl hl.1 rfl (lv_room (Nat.le_of_ble_eq_true rfl)) dX6_letter_2 ⟨(by rw [hR]; exact (Nat.le_of_ble_eq_true rfl)), (by rw [hR]; exact (Nat.le_of_ble_eq_true rfl))⟩) hS hP (fun z2 H locs hz2 hP hS => ?_)
  obtain ⟨bz2, imz2, xpz2⟩ := hz2
  refine lv_if_eq (tgt := 13) hx hb dX6_letter_5 (by decide) (fun c5 => ?_) (fun c5 => ?_)
  · have t5 := tq_eq (k := z2.toInt) (q := (0)) c5 rfl (by decide +kernel)
    refine lv_iconst (v := (-1)) hx hb dX6_letter_13 (by decide +kernel) ?_
    subst hR; subst hQz
    exact W.iret (v := (-1)) hx hb hr (fun t ht hW => ⟨⟨(-1), (), rfl, (fun σ h => by rw [ltr0 (fun w => by first | exact (xpz2.2 t5) (by rw [cx_0 h]; exact w.1) | (have a := w.2; omega))]; decide +kernel), trivial⟩, hS.F ht⟩) hS.2.2 dX6_letter_14
  · have t5 := tq_ne (k := z2.toInt) (q := (0)) c5 rfl (by decide +kernel)
    have i5 := imz2 t5
    refine lv_iload_n hx hb dX6_letter_8 rfl (lv_at hl 2 rfl) ?_
    refine lv_iconst (v := (-1)) hx hb dX6_letter_9 (by decide +kernel) ?_
    refine lv_icmp_ge (tgt := 15) hx hb dX6_letter_10 (by decide) (fun c10 => ?_) (fun c10 => ?_)
    · have t10 := tq_le (k := (-1)) (q := p2.toInt) c10 (by decide +kernel) rfl
      refine lv_aload_n hx hb dX6_letter_15 rfl (lv_at hl 0 rfl) ?_
      obtain ⟨y16, ey16, hLy16, hKy16, hGy16⟩ := oQ_6_2 (Sv_at hQ hLp0 hKp0)
      refine p_get (v := .ref y16) hx hb hts inX6 hown hK hP hLp0 hKp0 rfl rfl 2 (by decide) (hts _ pq351) (congrArg (fun q => some (va_rf q)) ey16) dX6_letter_16 ?_
      obtain ⟨y19, ey19, hLy19, hKy19, hGy19⟩ := oQ_1_0 (Sv_at hQ hLy16 hKy16)
      refine p_get (v := .ref y19) hx hb hts inX1 hown hK hP hLy16 hKy16 rfl rfl 0 (by decide) (hts _ pq216) (congrArg (fun q => some (va_rf q)) ey19) dX6_letter_19 ?_
      refine lv_iload_n hx hb dX6_letter_22 rfl (lv_at hl 1 rfl) ?_
      obtain ⟨y23, ey23, hLy23, hKy23, hGy23⟩ := (Sv_at hQ hLy19 hKy19).1 p1.toNatClampNeg (clamp_lt (n := 8) (in_of (by omega) (by omega)))
      have hjy23 : p1.toNatClampNeg < 8 := clamp_lt (i := p1) (n := 8) (in_of (by omega) (by omega))
      refine p_aaldR hx hb hK hP 3 hLy19 hKy19 rfl rfl (in_of (by omega) (by omega)) ey23 dX6_letter_23 ?_
      refine lv_astore_n (lv' := [(3, .ref y23), (0, .ref p0), (1, .int p1), (2, .int p2)]) hx hb dX6_letter_24 rfl hl (by decide) rfl (fun ls hl => ?_)
      refine lv_aload_n hx hb dX6_letter_25 rfl (lv_at hl 0 rfl) ?_
      refine p_get hx hb hts inX3 hown hK hP hLy23 hKy23 rfl rfl 0 (by decide) (hts _ pq119) rfl dX6_letter_26 ?_
      refine lv_topi (fun z26 ez26 => ?_)
      have bz26 := oI_3_0 (Iv_at hI hLy23 hKy23)
      rw [← ez26] at bz26
      refine lv_iconst (v := 1) hx hb dX6_letter_29 (by decide +kernel) ?_
      refine lv_iadd hx hb dX6_letter_30 ?_
      refine lv_topi (fun z30 ez30 => ?_)
      have bz30 := tq_add (k := z26.toInt) (q := (1)) ez30 rfl (by decide +kernel) (by omega) (by omega)
      refine lv_istore (lv' := [(4, .int z30), (3, .ref y23), (0, .ref p0), (1, .int p1), (2, .int p2)]) hx hb dX6_letter_31 hl (by decide) rfl (fun ls hl => ?_)
      refine lv_iload hx hb dX6_letter_33 (lv_at hl 0 rfl) ?_
      refine lv_aload_n hx hb dX6_letter_35 rfl (lv_at hl 1 rfl) ?_
      refine p_get hx hb hts inX3 hown hK hP hLy23 hKy23 rfl rfl 1 (by decide) (hts _ pq123) rfl dX6_letter_36 ?_
      refine lv_topi (fun z36 ez36 => ?_)
      have bz36 := oI_3_1 (Iv_at hI hLy23 hKy23)
      rw [← ez36] at bz36
      refine lv_imul hx hb dX6_letter_39 ?_
      refine lv_topi (fun z39 ez39 => ?_)
      refine lv_iconst (v := 1) hx hb dX6_letter_40 (by decide +kernel) ?_
      refine lv_isub hx hb dX6_letter_41 ?_
      refine lv_topi (fun z41 ez41 => ?_)
      refine lv_istore (lv' := [(5, .int z41), (4, .int z30), (3, .ref y23), (0, .ref p0), (1, .int p1), (2, .int p2)]) hx hb dX6_letter_42 hl (by decide) rfl (fun ls hl => ?_)
      refine lv_iload_n hx hb dX6_letter_44 rfl (lv_at hl 5 rfl) ?_
      refine lv_iconst (v := (-1)) hx hb dX6_letter_45 (by decide +kernel) ?_
      refine lv_icmp_ne (tgt := 52) hx hb dX6_letter_46 (by decide) (fun c46 => ?_) (fun c46 => ?_)
      · have t46 := tq_ne (k := p2.toInt) (q := (-1)) c46 rfl (by decide +kernel)
        refine lv_iload_n hx hb dX6_letter_52 rfl (lv_at hl 5 rfl) ?_
        refine lv_iload hx hb dX6_letter_53 (lv_at hl 0 rfl) ?_
        refine lv_icmp_lt (tgt := 61) hx hb dX6_letter_55 (by decide) (fun c55 => ?_) (fun c55 => ?_)
        · have t55 := tq_lt (k := p2.toInt) (q := z41.toInt) c55 rfl rfl
          refine lv_iload_n hx hb dX6_letter_61 rfl (lv_at hl 5 rfl) ?_
          refine lv_iload hx hb dX6_letter_62 (lv_at hl 1 rfl) ?_
          refine lv_irem hx hb dX6_letter_64 (letn ez39 ez41 (by omega) t55) ?_
          refine lv_topi (fun z64 ez64 => ?_)
          refine lv_istore (lv' := [(6, .int z64), (5, .int z41), (4, .int z30), (3, .ref y23), (0, .ref p0), (1, .int p1), (2, .int p2)]) hx hb dX6_letter_65 hl (by decide) rfl (fun ls hl => ?_)
          refine lv_iload hx hb dX6_letter_67 (lv_at hl 0 rfl) ?_
          refine lv_aload_n hx hb dX6_letter_69 rfl (lv_at hl 3 rfl) ?_
          refine p_get hx hb hts inX3 hown hK hP hLy23 hKy23 rfl rfl 0 (by decide) (hts _ pq119) rfl dX6_letter_70 ?_
          refine lv_topi (fun z70 ez70 => ?_)
          obtain rfl : z26 = z70 := ez26.trans ez70.symm
          refine lv_icmp_ne (tgt := 79) hx hb dX6_letter_73 (by decide) (fun c73 => ?_) (fun c73 => ?_)
          · have t73 := tq_ne (k := z64.toInt) (q := z26.toInt) c73 rfl rfl
            refine lv_aload_n hx hb dX6_letter_79 rfl (lv_at hl 3 rfl) ?_
            refine lv_iload hx hb dX6_letter_80 (lv_at hl 0 rfl) ?_
            refine lv_iload_n hx hb dX6_letter_82 rfl (lv_at hl 6 rfl) ?_
            refine lv_iload hx hb dX6_letter_83 (lv_at hl 2 rfl) ?_
            refine lv_idiv hx hb dX6_letter_85 (letn ez39 ez41 (by omega) t55) ?_
            refine lv_topi (fun z85 ez85 => ?_)
            refine ro_i (va_runV (As := [.int z64, .int z85]) (rest := []) ⟨hx, hb, hml, hown, hts⟩ (s_X3_holds l dC dI cs L K G Q hQ x0 m0 tx tm H.size I J hI y23 hLy23 hKy23 z64 z85) (cwV 2 hts (gV pq673 pq674 pq675 pq76 pq676) rfl rfl rfl (by decide +kernel) ⟨(by rw [hR]; exact (Nat.le_of_ble_eq_true rfl)), (by rw [hR]; exact (Nat.le_of_ble_eq_true rfl))⟩) (sP_V hP hD hK hN hLy23 hKy23 rfl rfl) rfl rfl hl.1 rfl (lv_room (Nat.le_of_ble_eq_true rfl)) dX6_letter_86 ⟨(by rw [hR]; exact (Nat.le_of_ble_eq_true rfl)), (by rw [hR]; exact (Nat.le_of_ble_eq_true rfl))⟩) hS hP (fun z86 H locs hz86 hP hS => ?_)
            obtain ⟨bz86, xpz86⟩ := hz86
            refine lv_if_eq (tgt := 97) hx hb dX6_letter_89 (by decide) (fun c89 => ?_) (fun c89 => ?_)
            · have t89 := tq_eq (k := z86.toInt) (q := (0)) c89 rfl (by decide +kernel)
              refine lv_bipush (v := 46) hx hb dX6_letter_97 (by decide +kernel) ?_
              subst hR; subst hQz
              exact W.iret (v := 46) hx hb hr (fun t ht hW => ⟨⟨46, (), rfl, (fun σ h => by have q := xpz2.1 t5; rw [cx_0 h] at q; have c := (cxA_m (m := p1) h q).1; rw [show fm Q (an Q p0) p1.toInt.toNat = y23 from (by rw [show an Q p0 = y16 from gd_of ey16]; exact fm_of ey19 ey23)] at c; have e26 : z26 = mW σ p1 := ez26.trans c.1; have e36 : z36 = mH σ p1 := ez36.trans c.2.1; have eM : z41 = ltM (mW σ p1) (mH σ p1) := (by rw [ez41, ez39, ez30, e26, e36]; rfl); have H : mK σ p1 ∧ -1 ≤ p2.toInt := ⟨q, by omega⟩; have eX : z64 = ltX (mW σ p1) p2 := (by rw [ez64, ez30, e26]; rfl); have r : ¬ (ltM (mW σ p1) (mH σ p1)).toInt ≤ p2.toInt := (by rw [← eM]; omega); rw [ltr4 (b := z86.toInt) H t46 r (by rw [← eX, ← e26]; exact t73) (by rw [xpz86, hs_congr (congrArg Int32.toInt c.1) (congrArg Int32.toInt c.2.1) c.2.2.1, eX, ez85, ez30, e26]), show (46 : Int32).toInt = 46 from by decide +kernel]; omega), trivial⟩, hS.F ht⟩) hS.2.2 dX6_letter_99
            · have t89 := tq_ne (k := z86.toInt) (q := (0)) c89 rfl (by decide +kernel)
              refine lv_bipush (v := 35) hx hb dX6_letter_92 (by decide +kernel) ?_
              refine lv_goto (tgt := 99) hx hb dX6_letter_94 (by decide) ?_
              subst hR; subst hQz
              exact W.iret (v := 35) hx hb hr (fun t ht hW => ⟨⟨35, (), rfl, (fun σ h => by have q := xpz2.1 t5; rw [cx_0 h] at q; have c := (cxA_m (m := p1) h q).1; rw [show fm Q (an Q p0) p1.toInt.toNat = y23 from (by rw [show an Q p0 = y16 from gd_of ey16]; exact fm_of ey19 ey23)] at c; have e26 : z26 = mW σ p1 := ez26.trans c.1; have e36 : z36 = mH σ p1 := ez36.trans c.2.1; have eM : z41 = ltM (mW σ p1) (mH σ p1) := (by rw [ez41, ez39, ez30, e26, e36]; rfl); have H : mK σ p1 ∧ -1 ≤ p2.toInt := ⟨q, by omega⟩; have eX : z64 = ltX (mW σ p1) p2 := (by rw [ez64, ez30, e26]; rfl); have r : ¬ (ltM (mW σ p1) (mH σ p1)).toInt ≤ p2.toInt := (by rw [← eM]; omega); rw [ltr4 (b := z86.toInt) H t46 r (by rw [← eX, ← e26]; exact t73) (by rw [xpz86, hs_congr (congrArg Int32.toInt c.1) (congrArg Int32.toInt c.2.1) c.2.2.1, eX, ez85, ez30, e26]), show (35 : Int32).toInt = 35 from by decide +kernel]; omega), trivial⟩, hS.F ht⟩) hS.2.2 dX6_letter_99
          · have t73 := tq_eq (k := z64.toInt) (q := z26.toInt) c73 rfl rfl
            refine lv_bipush (v := 47) hx hb dX6_letter_76 (by decide +kernel) ?_
            subst hR; subst hQz
            exact W.iret (v := 47) hx hb hr (fun t ht hW => ⟨⟨47, (), rfl, (fun σ h => by have q := xpz2.1 t5; rw [cx_0 h] at q; have c := (cxA_m (m := p1) h q).1; rw [show fm Q (an Q p0) p1.toInt.toNat = y23 from (by rw [show an Q p0 = y16 from gd_of ey16]; exact fm_of ey19 ey23)] at c; have e26 : z26 = mW σ p1 := ez26.trans c.1; have e36 : z36 = mH σ p1 := ez36.trans c.2.1; have eM : z41 = ltM (mW σ p1) (mH σ p1) := (by rw [ez41, ez39, ez30, e26, e36]; rfl); have H : mK σ p1 ∧ -1 ≤ p2.toInt := ⟨q, by omega⟩; have eX : z64 = ltX (mW σ p1) p2 := (by rw [ez64, ez30, e26]; rfl); have r : ¬ (ltM (mW σ p1) (mH σ p1)).toInt ≤ p2.toInt := (by rw [← eM]; omega); rw [ltr3 H t46 r (by rw [← eX, ← e26]; exact t73)]; decide +kernel), trivial⟩, hS.F ht⟩) hS.2.2 dX6_letter_78
        · have t55 := tq_nlt (k := p2.toInt) (q := z41.toInt) c55 rfl rfl
          refine lv_bipush (v := (-2)) hx hb dX6_letter_58 (by decide +kernel) ?_
          subst hR; subst hQz
          exact W.iret (v := (-2)) hx hb hr (fun t ht hW => ⟨⟨(-2), (), rfl, (fun σ h => by have q := xpz2.1 t5; rw [cx_0 h] at q; have c := (cxA_m (m := p1) h q).1; rw [show fm Q (an Q p0) p1.toInt.toNat = y23 from (by rw [show an Q p0 = y16 from gd_of ey16]; exact fm_of ey19 ey23)] at c; have e26 : z26 = mW σ p1 := ez26.trans c.1; have e36 : z36 = mH σ p1 := ez36.trans c.2.1; have eM : z41 = ltM (mW σ p1) (mH σ p1) := (by rw [ez41, ez39, ez30, e26, e36]; rfl); have H : mK σ p1 ∧ -1 ≤ p2.toInt := ⟨q, by omega⟩; rw [ltr2 H t46 (by rw [← eM]; exact t55)]; decide +kernel), trivial⟩, hS.F ht⟩) hS.2.2 dX6_letter_60
      · have t46 := tq_eq (k := p2.toInt) (q := (-1)) c46 rfl (by decide +kernel)
        refine lv_iload hx hb dX6_letter_49 (lv_at hl 0 rfl) ?_
        subst hR; subst hQz
        exact W.iret (v := z41) hx hb hr (fun t ht hW => ⟨⟨z41, (), rfl, (fun σ h => by have q := xpz2.1 t5; rw [cx_0 h] at q; have c := (cxA_m (m := p1) h q).1; rw [show fm Q (an Q p0) p1.toInt.toNat = y23 from (by rw [show an Q p0 = y16 from gd_of ey16]; exact fm_of ey19 ey23)] at c; have e26 : z26 = mW σ p1 := ez26.trans c.1; have e36 : z36 = mH σ p1 := ez36.trans c.2.1; have eM : z41 = ltM (mW σ p1) (mH σ p1) := (by rw [ez41, ez39, ez30, e26, e36]; rfl); have H : mK σ p1 ∧ -1 ≤ p2.toInt := ⟨q, by omega⟩; rw [ltr1 H t46, ← eM]), trivial⟩, hS.F ht⟩) hS.2.2 dX6_letter_51
    · have t10 := tq_nle (k := (-1)) (q := p2.toInt) c10 (by decide +kernel) rfl
      refine lv_iconst (v := (-1)) hx hb dX6_letter_13 (by decide +kernel) ?_
      subst hR; subst hQz
      exact W.iret (v := (-1)) hx hb hr (fun t ht hW => ⟨⟨(-1), (), rfl, (fun σ h => by rw [ltr0 (fun w => by first | exact (xpz2.2 t5) (by rw [cx_0 h]; exact w.1) | (have a := w.2; omega))]; decide +kernel), trivial⟩, hS.F ht⟩) hS.2.2 dX6_letter_14

set_option maxHeartbeats 4000000 in
set_option maxRecDepth 100000 in
theorem s_X6_dense (l : Launch) (dC : Nat → ClassId) (dI : Nat → Nat → Nat) (cs : Nat → ClassId) (L : List Nat) (K G : Nat → Nat) (Q : Nat → Nat → Option Nat) (hQ : Sv L K G Q) (x0 m0 : Nat) (tx : GT) (tm : GT × Int) (sz : Nat) (I : Nat → Nat → Int32) (J : Nat → Nat → Int64) (hI : Iv L K x0 m0 tx tm I) (p0 : Nat) (hLp0 : p0 ∈ L) (hKp0 : K p0 = 6) (p1 : Int32) (p2 : Int32) (p3 : Int32) (p4 : Int32) : Met l yX6_dense (.code yX6_dense cX6_dense 12 (some .int) :: pw) ({ frames := 3, cells := 0, slots := 0, locals := 79 }) (sP (dC, dI) cs [.ref p0, .int p1, .int p2, .int p3, .int p4] sz L K I J Q) (va_Qi (fun (r : Int32) (_ : Unit) => True) (fun _ _ => True) (fun _ => False)) 0 0 (fun _ => False) := by
  refine Met.ofW (cc := cX6_dense) (maxL := 12) (ret := (some .int)) (by decide +kernel) rfl ?_
  intro p e s m args below meth c s₁ B hml hv
  obtain ⟨rfl, hsz, hP, hK, hD0, hN⟩ := hv
  have hx := B.exec
  have hb := B.bytes
  have hr := B.returns
  have hts := fun w (h : w ∈ pw) => atoms_spec (ws := Cond.code yX6_dense cX6_dense 12 (some .int) :: pw) B.pre w (List.mem_cons_of_mem _ h)
  have hown : s.vm.findClass RX6 = some m.cls := findClass_of_methodNamed B.named
  have hlocks := B.notSynchronized
  subst hsz
  have hBB : 999 ≤ tm.2 ∧ tm.2 ≤ 6000000 := hI.2.2.2.2.1
  have hD := hD0
  obtain ⟨H, hHe⟩ : ∃ H : Heap, H = s.heap := ⟨_, rfl⟩
  have hS : va_S (fun _ => False) s.heap H [] := by rw [hHe]; exact va_S.rf
  rw [← hHe] at hP
  have hl := lv_entry ([.ref p0, .int p1, .int p2, .int p3, .int p4]) (n := 12) (Nat.le_of_ble_eq_true rfl)
  rw [lg_entry_eq]
  generalize (lg_sl ([.ref p0, .int p1, .int p2, .int p3, .int p4]) ++ List.replicate (12 - (lg_sl ([.ref p0, .int p1, .int p2, .int p3, .int p4])).length) Slot.unset).toArray = ls at hl ⊢
  have hl : lv_has ls 12 [(0, .ref p0), (1, .int p1), (2, .int p2), (3, .int p3), (4, .int p4)] := hl
  rw [← hHe]
  refine namedW (fun R Qz hR hQz => ?_)
  refine lv_aload_n hx hb dX6_dense_0 rfl (lv_at hl 0 rfl) ?_
  refine lv_iload_n hx hb dX6_dense_1 rfl (lv_at hl 1 rfl) ?_
  refine ro_i (va_runV (As := [.int p1]) (rest := []) ⟨hx, hb, hml, hown, hts⟩ (s_X6_isMask l dC dI cs L K G Q hQ x0 m0 tx tm H.size I J hI p0 hLp0 hKp0 p1) (cwV 1 hts (gV pq666 pq668 pq4 pq74 pq669) rfl rfl rfl (by decide +kernel) ⟨(by rw [hR]; exact (Nat.le_of_ble_eq_true rfl)), (by rw [hR]; exact (Nat.le_of_ble_eq_true rfl))⟩) (sP_V hP hD hK hN hLp0 hKp0 rfl rfl) rfl rfl hl.1 rfl (lv_room (Nat.le_of_ble_eq_true rfl)) dX6_dense_2 ⟨(by rw [hR]; exact (Nat.le_of_ble_eq_true rfl)), (by rw [hR]; exact (Nat.le_of_ble_eq_true rfl))⟩) hS hP (fun z2 H locs hz2 hP hS => ?_)
  obtain ⟨bz2, imz2, xpz2⟩ := hz2
  refine lv_if_eq (tgt := 17) hx hb dX6_dense_5 (by decide) (fun c5 => ?_) (fun c5 => ?_)
  · have t5 := tq_eq (k := z2.toInt) (q := (0)) c5 rfl (by decide +kernel)
    refine lv_iconst (v := (-1)) hx hb dX6_dense_17 (by decide +kernel) ?_
    subst hR; subst hQz
    exact W.iret (v := (-1)) hx hb hr (fun t ht hW => ⟨⟨(-1), (), rfl, trivial, trivial⟩, hS.F ht⟩) hS.2.2 dX6_dense_18
  · have t5 := tq_ne (k := z2.toInt) (q := (0)) c5 rfl (by decide +kernel)
    have i5 := imz2 t5
    refine lv_iload hx hb dX6_dense_8 (lv_at hl 4 rfl) ?_
    refine lv_iconst (v := 2) hx hb dX6_dense_10 (by decide +kernel) ?_
    refine ro_i (va_runS (As := [.int p4, .int 2]) (rest := []) ⟨hx, hb, hml, hown, hts⟩ (s_X6_isFrom0To l dC dI cs L K G Q hQ x0 m0 tx tm H.size I J hI p4 2) (va_cwS 2 hts (gS pq651 pq652 pq74 pq653) rfl rfl rfl (by decide +kernel) ⟨(by rw [hR]; exact (Nat.le_of_ble_eq_true rfl)), (by rw [hR]; exact (Nat.le_of_ble_eq_true rfl))⟩) (sP_S hP hD hK hN) rfl rfl hl.1 rfl (lv_room (Nat.le_of_ble_eq_true rfl)) dX6_dense_11 ⟨(by rw [hR]; exact (Nat.le_of_ble_eq_true rfl)), (by rw [hR]; exact (Nat.le_of_ble_eq_true rfl))⟩) hS hP (fun z11 H locs hz11 hP hS => ?_)
    have cst11_2 : (2 : Int32).toInt = 2 := by decide +kernel
    obtain ⟨bz11, imz11, xpz11⟩ := hz11
    try rw [cst11_2] at xpz11
    refine lv_if_ne (tgt := 19) hx hb dX6_dense_14 (by decide) (fun c14 => ?_) (fun c14 => ?_)
    · have t14 := tq_ne (k := z11.toInt) (q := (0)) c14 rfl (by decide +kernel)
      have i14 := imz11 t14
      refine lv_aload_n hx hb dX6_dense_19 rfl (lv_at hl 0 rfl) ?_
      obtain ⟨y20, ey20, hLy20, hKy20, hGy20⟩ := oQ_6_2 (Sv_at hQ hLp0 hKp0)
      refine p_get (v := .ref y20) hx hb hts inX6 hown hK hP hLp0 hKp0 rfl rfl 2 (by decide) (hts _ pq351) (congrArg (fun q => some (va_rf q)) ey20) dX6_dense_20 ?_
      obtain ⟨y23, ey23, hLy23, hKy23, hGy23⟩ := oQ_1_0 (Sv_at hQ hLy20 hKy20)
      refine p_get (v := .ref y23) hx hb hts inX1 hown hK hP hLy20 hKy20 rfl rfl 0 (by decide) (hts _ pq216) (congrArg (fun q => some (va_rf q)) ey23) dX6_dense_23 ?_
      refine lv_iload_n hx hb dX6_dense_26 rfl (lv_at hl 1 rfl) ?_
      obtain ⟨y27, ey27, hLy27, hKy27, hGy27⟩ := (Sv_at hQ hLy23 hKy23).1 p1.toNatClampNeg (clamp_lt (n := 8) (in_of (by omega) (by omega)))
      have hjy27 : p1.toNatClampNeg < 8 := clamp_lt (i := p1) (n := 8) (in_of (by omega) (by omega))
      refine p_aaldR hx hb hK hP 3 hLy23 hKy23 rfl rfl (in_of (by omega) (by omega)) ey27 dX6_dense_27 ?_
      refine lv_astore (lv' := [(5, .ref y27), (0, .ref p0), (1, .int p1), (2, .int p2), (3, .int p3), (4, .int p4)]) hx hb dX6_dense_28 hl (by decide) rfl (fun ls hl => ?_)
      refine lv_iload_n hx hb dX6_dense_30 rfl (lv_at hl 3 rfl) ?_
      refine lv_iconst (v := 1) hx hb dX6_dense_31 (by decide +kernel) ?_
      refine lv_icmp_lt (tgt := 58) hx hb dX6_dense_32 (by decide) (fun c32 => ?_) (fun c32 => ?_)
      · have t32 := tq_lt (k := p2.toInt) (q := (1)) c32 rfl (by decide +kernel)
        refine lv_iconst (v := (-1)) hx hb dX6_dense_58 (by decide +kernel) ?_
        subst hR; subst hQz
        exact W.iret (v := (-1)) hx hb hr (fun t ht hW => ⟨⟨(-1), (), rfl, trivial, trivial⟩, hS.F ht⟩) hS.2.2 dX6_dense_59
      · have t32 := tq_nlt (k := p2.toInt) (q := (1)) c32 rfl (by decide +kernel)
        refine lv_iload_n hx hb dX6_dense_35 rfl (lv_at hl 3 rfl) ?_
        refine lv_aload hx hb dX6_dense_36 (lv_at hl 0 rfl) ?_
        refine p_get hx hb hts inX3 hown hK hP hLy27 hKy27 rfl rfl 0 (by decide) (hts _ pq119) rfl dX6_dense_38 ?_
        refine lv_topi (fun z38 ez38 => ?_)
        have bz38 := oI_3_0 (Iv_at hI hLy27 hKy27)
        rw [← ez38] at bz38
        refine lv_icmp_gt (tgt := 58) hx hb dX6_dense_41 (by decide) (fun c41 => ?_) (fun c41 => ?_)
        · have t41 := tq_lt (k := z38.toInt) (q := p2.toInt) c41 rfl rfl
          refine lv_iconst (v := (-1)) hx hb dX6_dense_58 (by decide +kernel) ?_
          subst hR; subst hQz
          exact W.iret (v := (-1)) hx hb hr (fun t ht hW => ⟨⟨(-1), (), rfl, trivial, trivial⟩, hS.F ht⟩) hS.2.2 dX6_dense_59
        · have t41 := tq_nlt (k := z38.toInt) (q := p2.toInt) c41 rfl rfl
          refine lv_iload_n hx hb dX6_dense_44 rfl (lv_at hl 4 rfl) ?_
          refine lv_iconst (v := 1) hx hb dX6_dense_45 (by decide +kernel) ?_
          refine lv_icmp_lt (tgt := 58) hx hb dX6_dense_46 (by decide) (fun c46 => ?_) (fun c46 => ?_)
          · have t46 := tq_lt (k := p3.toInt) (q := (1)) c46 rfl (by decide +kernel)
            refine lv_iconst (v := (-1)) hx hb dX6_dense_58 (by decide +kernel) ?_
            subst hR; subst hQz
            exact W.iret (v := (-1)) hx hb hr (fun t ht hW => ⟨⟨(-1), (), rfl, trivial, trivial⟩, hS.F ht⟩) hS.2.2 dX6_dense_59
          · have t46 := tq_nlt (k := p3.toInt) (q := (1)) c46 rfl (by decide +kernel)
            refine lv_iload_n hx hb dX6_dense_49 rfl (lv_at hl 4 rfl) ?_
            refine lv_aload hx hb dX6_dense_50 (lv_at hl 0 rfl) ?_
            refine p_get hx hb hts inX3 hown hK hP hLy27 hKy27 rfl rfl 1 (by decide) (hts _ pq123) rfl dX6_dense_52 ?_
            refine lv_topi (fun z52 ez52 => ?_)
            have bz52 := oI_3_1 (Iv_at hI hLy27 hKy27)
            rw [← ez52] at bz52
            refine lv_icmp_le (tgt := 60) hx hb dX6_dense_55 (by decide) (fun c55 => ?_) (fun c55 => ?_)
            · have t55 := tq_le (k := p3.toInt) (q := z52.toInt) c55 rfl rfl
              refine lv_iconst (v := (-1)) hx hb dX6_dense_60 (by decide +kernel) ?_
              refine lv_istore (lv' := [(6, .int (-1)), (5, .ref y27), (0, .ref p0), (1, .int p1), (2, .int p2), (3, .int p3), (4, .int p4)]) hx hb dX6_dense_61 hl (by decide) rfl (fun ls hl => ?_)
              refine lv_iconst (v := 0) hx hb dX6_dense_63 (by decide +kernel) ?_
              refine lv_istore (lv' := [(7, .int 0), (6, .int (-1)), (5, .ref y27), (0, .ref p0), (1, .int p1), (2, .int p2), (3, .int p3), (4, .int p4)]) hx hb dX6_dense_64 hl (by decide) rfl (fun ls hl => ?_)
              refine lv_iconst (v := 0) hx hb dX6_dense_66 (by decide +kernel) ?_
              refine lv_istore (lv' := [(8, .int 0), (7, .int 0), (6, .int (-1)), (5, .ref y27), (0, .ref p0), (1, .int p1), (2, .int p2), (3, .int p3), (4, .int p4)]) hx hb dX6_dense_67 hl (by decide) rfl (fun ls hl => ?_)
              refine lv_iconst (v := 0) hx hb dX6_dense_69 (by decide +kernel) ?_
              refine lv_istore (lv' := [(9, .int 0), (8, .int 0), (7, .int 0), (6, .int (-1)), (5, .ref y27), (0, .ref p0), (1, .int p1), (2, .int p2), (3, .int p3), (4, .int p4)]) hx hb dX6_dense_70 hl (by decide) rfl (fun ls hl => ?_)
              have key72 := blocks (fun n => ∀ (v72_6 : Int32) (v72_7 : Int32) (v72_8 : Int32) (v72_9 : Int32) (H : Heap) (lo : List Loc) (ls : Array Slot), (41 - v72_9.toInt).toNat = n → ((-1) ≤ v72_6.toInt ∧ v72_6.toInt ≤ 2147483647) → ((0) ≤ v72_7.toInt ∧ v72_7.toInt ≤ 127) → ((0) ≤ v72_8.toInt ∧ v72_8.toInt ≤ 39) → ((0) ≤ v72_9.toInt ∧ v72_9.toInt ≤ 40) → va_P (dC, dI) vwCl (Wd cs L K I J Q) H → va_S (fun _ => False) s.heap H lo → lv_has ls 12 [(0, .ref p0), (1, .int p1), (2, .int p2), (3, .int p3), (4, .int p4), (5, .ref y27), (6, .int v72_6), (7, .int v72_7), (8, .int v72_8), (9, .int v72_9)] → W p l e R s m (([.ref p0, .int p1, .int p2, .int p3, .int p4] : List Value).toArray) below meth c H lo 0 0 Qz (F0 m 72 ls [])) (by
                intro n ih72
                intro v72_6 v72_7 v72_8 v72_9 H lo ls hmu72 bv72_6 bv72_7 bv72_8 bv72_9 hP hS hl
                refine lv_iload hx hb dX6_dense_72 (lv_at hl 9 rfl) ?_
                refine lv_aload hx hb dX6_dense_74 (lv_at hl 5 rfl) ?_
                refine p_get hx hb hts inX3 hown hK hP hLy27 hKy27 rfl rfl 1 (by decide) (hts _ pq123) rfl dX6_dense_76 ?_
                refine lv_topi (fun z76 ez76 => ?_)
                obtain rfl : z52 = z76 := ez52.trans ez76.symm
                refine lv_iload_n hx hb dX6_dense_79 rfl (lv_at hl 3 rfl) ?_
                refine lv_isub hx hb dX6_dense_80 ?_
                refine lv_topi (fun z80 ez80 => ?_)
                have bz80 := tq_sub (k := z52.toInt) (q := p3.toInt) ez80 rfl rfl (by omega) (by omega)
                refine lv_icmp_gt (tgt := 143) hx hb dX6_dense_81 (by decide) (fun c81 => ?_) (fun c81 => ?_)
                · have t81 := tq_lt (k := z80.toInt) (q := v72_9.toInt) c81 rfl rfl
                  refine lv_iload hx hb dX6_dense_143 (lv_at hl 4 rfl) ?_
                  refine lv_if_ne (tgt := 153) hx hb dX6_dense_145 (by decide) (fun c145 => ?_) (fun c145 => ?_)
                  · have t145 := tq_ne (k := p4.toInt) (q := (0)) c145 rfl (by decide +kernel)
                    refine lv_iload hx hb dX6_dense_153 (lv_at hl 4 rfl) ?_
                    refine lv_iconst (v := 1) hx hb dX6_dense_155 (by decide +kernel) ?_
                    refine lv_icmp_ne (tgt := 164) hx hb dX6_dense_156 (by decide) (fun c156 => ?_) (fun c156 => ?_)
                    · have t156 := tq_ne (k := p4.toInt) (q := (1)) c156 rfl (by decide +kernel)
                      refine lv_iload hx hb dX6_dense_164 (lv_at hl 8 rfl) ?_
                      subst hR; subst hQz
                      exact W.iret (v := v72_8) hx hb hr (fun t ht hW => ⟨⟨v72_8, (), rfl, trivial, trivial⟩, hS.F ht⟩) hS.2.2 dX6_dense_166
                    · have t156 := tq_eq (k := p4.toInt) (q := (1)) c156 rfl (by decide +kernel)
                      refine lv_iload hx hb dX6_dense_159 (lv_at hl 7 rfl) ?_
                      refine lv_goto (tgt := 166) hx hb dX6_dense_161 (by decide) ?_
                      subst hR; subst hQz
                      exact W.iret (v := v72_7) hx hb hr (fun t ht hW => ⟨⟨v72_7, (), rfl, trivial, trivial⟩, hS.F ht⟩) hS.2.2 dX6_dense_166
                  · have t145 := tq_eq (k := p4.toInt) (q := (0)) c145 rfl (by decide +kernel)
                    refine lv_iload hx hb dX6_dense_148 (lv_at hl 6 rfl) ?_
                    refine lv_goto (tgt := 166) hx hb dX6_dense_150 (by decide) ?_
                    subst hR; subst hQz
                    exact W.iret (v := v72_6) hx hb hr (fun t ht hW => ⟨⟨v72_6, (), rfl, trivial, trivial⟩, hS.F ht⟩) hS.2.2 dX6_dense_166
                · have t81 := tq_nlt (k := z80.toInt) (q := v72_9.toInt) c81 rfl rfl
                  refine lv_iconst (v := 0) hx hb dX6_dense_84 (by decide +kernel) ?_
                  refine lv_istore (lv' := [(10, .int 0), (0, .ref p0), (1, .int p1), (2, .int p2), (3, .int p3), (4, .int p4), (5, .ref y27), (6, .int v72_6), (7, .int v72_7), (8, .int v72_8), (9, .int v72_9)]) hx hb dX6_dense_85 hl (by decide) rfl (fun ls hl => ?_)
                  have key87 := blocks (fun n => ∀ (v87_10 : Int32) (v87_6 : Int32) (v87_7 : Int32) (v87_8 : Int32) (H : Heap) (lo : List Loc) (ls : Array Slot), (129 - v87_10.toInt).toNat = n → ((0) ≤ v87_10.toInt ∧ v87_10.toInt ≤ 128) → ((-1) ≤ v87_6.toInt ∧ v87_6.toInt ≤ 2147483647) → ((0) ≤ v87_7.toInt ∧ v87_7.toInt ≤ 127) → ((0) ≤ v87_8.toInt ∧ v87_8.toInt ≤ 39) → va_P (dC, dI) vwCl (Wd cs L K I J Q) H → va_S (fun _ => False) s.heap H lo → lv_has ls 12 [(0, .ref p0), (1, .int p1), (2, .int p2), (3, .int p3), (4, .int p4), (5, .ref y27), (6, .int v87_6), (7, .int v87_7), (8, .int v87_8), (9, .int v72_9), (10, .int v87_10)] → W p l e R s m (([.ref p0, .int p1, .int p2, .int p3, .int p4] : List Value).toArray) below meth c H lo 0 0 Qz (F0 m 87 ls [])) (by
                    intro n ih87
                    intro v87_10 v87_6 v87_7 v87_8 H lo ls hmu87 bv87_10 bv87_6 bv87_7 bv87_8 hP hS hl
                    refine lv_iload hx hb dX6_dense_87 (lv_at hl 10 rfl) ?_
                    refine lv_aload hx hb dX6_dense_89 (lv_at hl 5 rfl) ?_
                    refine p_get hx hb hts inX3 hown hK hP hLy27 hKy27 rfl rfl 0 (by decide) (hts _ pq119) rfl dX6_dense_91 ?_
                    refine lv_topi (fun z91 ez91 => ?_)
                    obtain rfl : z38 = z91 := ez38.trans ez91.symm
                    refine lv_iload_n hx hb dX6_dense_94 rfl (lv_at hl 2 rfl) ?_
                    refine lv_isub hx hb dX6_dense_95 ?_
                    refine lv_topi (fun z95 ez95 => ?_)
                    have bz95 := tq_sub (k := z38.toInt) (q := p2.toInt) ez95 rfl rfl (by omega) (by omega)
                    refine lv_icmp_gt (tgt := 137) hx hb dX6_dense_96 (by decide) (fun c96 => ?_) (fun c96 => ?_)
                    · have t96 := tq_lt (k := z95.toInt) (q := v87_10.toInt) c96 rfl rfl
                      obtain ⟨z137, ez137⟩ : ∃ y : Int32, y = v72_9 + 1 := ⟨_, rfl⟩
                      refine lv_iinc (v := z137) (lv' := [(9, .int z137), (0, .ref p0), (1, .int p1), (2, .int p2), (3, .int p3), (4, .int p4), (5, .ref y27), (6, .int v87_6), (7, .int v87_7), (8, .int v87_8), (10, .int v87_10)]) hx hb dX6_dense_137 hl (k := 9) rfl (by rw [ez137]; rfl) (by decide) rfl (fun ls hl => ?_)
                      have bz137 := tq_add (k := v72_9.toInt) (q := 1) ez137 rfl (by decide +kernel) (by omega) (by omega)
                      refine lv_goto (tgt := 72) hx hb dX6_dense_140 (by decide) ?_
                      exact ih72 _ (by omega) v87_6 v87_7 v87_8 z137 _ _ _ rfl ⟨by omega, by have := fb_rng v87_6; omega⟩ ⟨by omega, by omega⟩ ⟨by omega, by omega⟩ ⟨by omega, by omega⟩ hP hS (lv_sub hl [1, 2, 3, 4, 5, 6, 7, 8, 9, 0] rfl)
                    · have t96 := tq_nlt (k := z95.toInt) (q := v87_10.toInt) c96 rfl rfl
                      refine lv_aload hx hb dX6_dense_99 (lv_at hl 5 rfl) ?_
                      refine lv_iload hx hb dX6_dense_101 (lv_at hl 10 rfl) ?_
                      refine lv_iload hx hb dX6_dense_103 (lv_at hl 9 rfl) ?_
                      refine lv_iload_n hx hb dX6_dense_105 rfl (lv_at hl 2 rfl) ?_
                      refine lv_iload_n hx hb dX6_dense_106 rfl (lv_at hl 3 rfl) ?_
                      refine ro_i (va_runV (As := [.int v87_10, .int v72_9, .int p2, .int p3]) (rest := []) ⟨hx, hb, hml, hown, hts⟩ (s_X3_dotsWithin l dC dI cs L K G Q hQ x0 m0 tx tm H.size I J hI y27 hLy27 hKy27 v87_10 v72_9 p2 p3) (cwV 4 hts (gV pq916 pq917 pq918 pq76 pq919) rfl rfl rfl (by decide +kernel) ⟨(by rw [hR]; exact (Nat.le_of_ble_eq_true rfl)), (by rw [hR]; exact (Nat.le_of_ble_eq_true rfl))⟩) (sP_V hP hD hK hN hLy27 hKy27 rfl rfl) rfl rfl hl.1 rfl (lv_room (Nat.le_of_ble_eq_true rfl)) dX6_dense_107 ⟨(by rw [hR]; exact (Nat.le_of_ble_eq_true rfl)), (by rw [hR]; exact (Nat.le_of_ble_eq_true rfl))⟩) hS hP (fun z107 H locs hz107 hP hS => ?_)
                      refine lv_istore (lv' := [(11, .int z107), (0, .ref p0), (1, .int p1), (2, .int p2), (3, .int p3), (4, .int p4), (5, .ref y27), (6, .int v87_6), (7, .int v87_7), (8, .int v87_8), (9, .int v72_9), (10, .int v87_10)]) hx hb dX6_dense_110 hl (by decide) rfl (fun ls hl => ?_)
                      refine lv_iload hx hb dX6_dense_112 (lv_at hl 0 rfl) ?_
                      refine lv_iload hx hb dX6_dense_114 (lv_at hl 7 rfl) ?_
                      have j131 : ∀ (v131_6 : Int32) (v131_7 : Int32) (v131_8 : Int32) (H : Heap) (lo : List Loc) (ls : Array Slot), ((-1) ≤ v131_6.toInt ∧ v131_6.toInt ≤ 2147483647) → ((0) ≤ v131_7.toInt ∧ v131_7.toInt ≤ 127) → ((0) ≤ v131_8.toInt ∧ v131_8.toInt ≤ 39) → va_P (dC, dI) vwCl (Wd cs L K I J Q) H → va_S (fun _ => False) s.heap H lo → lv_has ls 12 [(0, .ref p0), (1, .int p1), (2, .int p2), (3, .int p3), (4, .int p4), (5, .ref y27), (6, .int v131_6), (7, .int v131_7), (8, .int v131_8), (9, .int v72_9), (10, .int v87_10), (11, .int z107)] → W p l e R s m (([.ref p0, .int p1, .int p2, .int p3, .int p4] : List Value).toArray) below meth c H lo 0 0 Qz (F0 m 131 ls []) := by
                        intro v131_6 v131_7 v131_8 H lo ls bv131_6 bv131_7 bv131_8 hP hS hl
                        obtain ⟨z131, ez131⟩ : ∃ y : Int32, y = v87_10 + 1 := ⟨_, rfl⟩
                        refine lv_iinc (v := z131) (lv' := [(10, .int z131), (0, .ref p0), (1, .int p1), (2, .int p2), (3, .int p3), (4, .int p4), (5, .ref y27), (6, .int v131_6), (7, .int v131_7), (8, .int v131_8), (9, .int v72_9), (11, .int z107)]) hx hb dX6_dense_131 hl (k := 10) rfl (by rw [ez131]; rfl) (by decide) rfl (fun ls hl => ?_)
                        have bz131 := tq_add (k := v87_10.toInt) (q := 1) ez131 rfl (by decide +kernel) (by omega) (by omega)
                        refine lv_goto (tgt := 87) hx hb dX6_dense_134 (by decide) ?_
                        exact ih87 _ (by omega) z131 v131_6 v131_7 v131_8 _ _ _ rfl ⟨by omega, by omega⟩ ⟨by omega, by have := fb_rng v131_6; omega⟩ ⟨by omega, by omega⟩ ⟨by omega, by omega⟩ hP hS (lv_sub hl [1, 2, 3, 4, 5, 6, 7, 8, 9, 10, 0] rfl)
                      refine lv_icmp_le (tgt := 131) hx hb dX6_dense_116 (by decide) (fun c116 => ?_) (fun c116 => ?_)
                      · have t116 := tq_le (k := z107.toInt) (q := v87_6.toInt) c116 rfl rfl
                        exact j131 v87_6 v87_7 v87_8 _ _ _ ⟨by omega, by have := fb_rng v87_6; omega⟩ ⟨by omega, by omega⟩ ⟨by omega, by omega⟩ hP hS (lv_sub hl [1, 2, 3, 4, 5, 6, 7, 8, 9, 10, 11, 0] rfl)
                      · have t116 := tq_nle (k := z107.toInt) (q := v87_6.toInt) c116 rfl rfl
                        refine lv_iload hx hb dX6_dense_119 (lv_at hl 0 rfl) ?_
                        refine lv_istore (lv' := [(6, .int z107), (11, .int z107), (0, .ref p0), (1, .int p1), (2, .int p2), (3, .int p3), (4, .int p4), (5, .ref y27), (7, .int v87_7), (8, .int v87_8), (9, .int v72_9), (10, .int v87_10)]) hx hb dX6_dense_121 hl (by decide) rfl (fun ls hl => ?_)
                        refine lv_iload hx hb dX6_dense_123 (lv_at hl 11 rfl) ?_
                        refine lv_istore (lv' := [(7, .int v87_10), (6, .int z107), (11, .int z107), (0, .ref p0), (1, .int p1), (2, .int p2), (3, .int p3), (4, .int p4), (5, .ref y27), (8, .int v87_8), (9, .int v72_9), (10, .int v87_10)]) hx hb dX6_dense_125 hl (by decide) rfl (fun ls hl => ?_)
                        refine lv_iload hx hb dX6_dense_127 (lv_at hl 10 rfl) ?_
                        refine lv_istore (lv' := [(8, .int v72_9), (7, .int v87_10), (6, .int z107), (11, .int z107), (0, .ref p0), (1, .int p1), (2, .int p2), (3, .int p3), (4, .int p4), (5, .ref y27), (9, .int v72_9), (10, .int v87_10)]) hx hb dX6_dense_129 hl (by decide) rfl (fun ls hl => ?_)
                        exact j131 z107 v87_10 v72_9 _ _ _ ⟨by omega, by have := fb_rng z107; omega⟩ ⟨by omega, by omega⟩ ⟨by omega, by omega⟩ hP hS (lv_sub hl [4, 5, 6, 7, 8, 9, 2, 1, 0, 10, 11, 3] rfl))
                  exact key87 _ 0 v72_6 v72_7 v72_8 _ _ _ rfl ⟨by decide +kernel, by decide +kernel⟩ ⟨by omega, by have := fb_rng v72_6; omega⟩ ⟨by omega, by omega⟩ ⟨by omega, by omega⟩ hP hS (lv_sub hl [1, 2, 3, 4, 5, 6, 7, 8, 9, 10, 0] rfl))
              exact key72 _ (-1) 0 0 0 _ _ _ rfl ⟨by decide +kernel, by decide +kernel⟩ ⟨by decide +kernel, by decide +kernel⟩ ⟨by decide +kernel, by decide +kernel⟩ ⟨by decide +kernel, by decide +kernel⟩ hP hS (lv_sub hl [5, 6, 7, 8, 9, 4, 3, 2, 1, 0] rfl)
            · have t55 := tq_nle (k := p3.toInt) (q := z52.toInt) c55 rfl rfl
              refine lv_iconst (v := (-1)) hx hb dX6_dense_58 (by decide +kernel) ?_
              subst hR; subst hQz
              exact W.iret (v := (-1)) hx hb hr (fun t ht hW => ⟨⟨(-1), (), rfl, trivial, trivial⟩, hS.F ht⟩) hS.2.2 dX6_dense_59
    · have t14 := tq_eq (k := z11.toInt) (q := (0)) c14 rfl (by decide +kernel)
      refine lv_iconst (v := (-1)) hx hb dX6_dense_17 (by decide +kernel) ?_
      subst hR; subst hQz
      exact W.iret (v := (-1)) hx hb hr (fun t ht hW => ⟨⟨(-1), (), rfl, trivial, trivial⟩, hS.F ht⟩) hS.2.2 dX6_dense_18

set_option maxHeartbeats 4000000 in
set_option maxRecDepth 100000 in
theorem s_X6_dots (l : Launch) (dC : Nat → ClassId) (dI : Nat → Nat → Nat) (cs : Nat → ClassId) (L : List Nat) (K G : Nat → Nat) (Q : Nat → Nat → Option Nat) (hQ : Sv L K G Q) (x0 m0 : Nat) (tx : GT) (tm : GT × Int) (sz : Nat) (I : Nat → Nat → Int32) (J : Nat → Nat → Int64) (hI : Iv L K x0 m0 tx tm I) (p0 : Nat) (hLp0 : p0 ∈ L) (hKp0 : K p0 = 6) (p1 : Int32) (p2 : Int32) (p3 : Int32) : Met l yX6_dots (.code yX6_dots cX6_dots 5 (some .int) :: pw) ({ frames := 3, cells := 0, slots := 0, locals := 79 }) (sP (dC, dI) cs [.ref p0, .int p1, .int p2, .int p3] sz L K I J Q) (va_Qi (fun (r : Int32) (_ : Unit) => True) (fun _ _ => True) (fun _ => False)) 0 0 (fun _ => False) := by
  refine Met.ofW (cc := cX6_dots) (maxL := 5) (ret := (some .int)) (by decide +kernel) rfl ?_
  intro p e s m args below meth c s₁ B hml hv
  obtain ⟨rfl, hsz, hP, hK, hD0, hN⟩ := hv
  have hx := B.exec
  have hb := B.bytes
  have hr := B.returns
  have hts := fun w (h : w ∈ pw) => atoms_spec (ws := Cond.code yX6_dots cX6_dots 5 (some .int) :: pw) B.pre w (List.mem_cons_of_mem _ h)
  have hown : s.vm.findClass RX6 = some m.cls := findClass_of_methodNamed B.named
  have hlocks := B.notSynchronized
  subst hsz
  have hBB : 999 ≤ tm.2 ∧ tm.2 ≤ 6000000 := hI.2.2.2.2.1
  have hD := hD0
  obtain ⟨H, hHe⟩ : ∃ H : Heap, H = s.heap := ⟨_, rfl⟩
  have hS : va_S (fun _ => False) s.heap H [] := by rw [hHe]; exact va_S.rf
  rw [← hHe] at hP
  have hl := lv_entry ([.ref p0, .int p1, .int p2, .int p3]) (n := 5) (Nat.le_of_ble_eq_true rfl)
  rw [lg_entry_eq]
  generalize (lg_sl ([.ref p0, .int p1, .int p2, .int p3]) ++ List.replicate (5 - (lg_sl ([.ref p0, .int p1, .int p2, .int p3])).length) Slot.unset).toArray = ls at hl ⊢
  have hl : lv_has ls 5 [(0, .ref p0), (1, .int p1), (2, .int p2), (3, .int p3)] := hl
  rw [← hHe]
  refine namedW (fun R Qz hR hQz => ?_)
  refine lv_aload_n hx hb dX6_dots_0 rfl (lv_at hl 0 rfl) ?_
  refine lv_iload_n hx hb dX6_dots_1 rfl (lv_at hl 1 rfl) ?_
  refine ro_i (va_runV (As := [.int p1]) (rest := []) ⟨hx, hb, hml, hown, hts⟩ (s_X6_isMask l dC dI cs L K G Q hQ x0 m0 tx tm H.size I J hI p0 hLp0 hKp0 p1) (cwV 1 hts (gV pq666 pq668 pq4 pq74 pq669) rfl rfl rfl (by decide +kernel) ⟨(by rw [hR]; exact (Nat.le_of_ble_eq_true rfl)), (by rw [hR]; exact (Nat.le_of_ble_eq_true rfl))⟩) (sP_V hP hD hK hN hLp0 hKp0 rfl rfl) rfl rfl hl.1 rfl (lv_room (Nat.le_of_ble_eq_true rfl)) dX6_dots_2 ⟨(by rw [hR]; exact (Nat.le_of_ble_eq_true rfl)), (by rw [hR]; exact (Nat.le_of_ble_eq_true rfl))⟩) hS hP (fun z2 H locs hz2 hP hS => ?_)
  obtain ⟨bz2, imz2, xpz2⟩ := hz2
  refine lv_if_eq (tgt := 12) hx hb dX6_dots_5 (by decide) (fun c5 => ?_) (fun c5 => ?_)
  · have t5 := tq_eq (k := z2.toInt) (q := (0)) c5 rfl (by decide +kernel)
    refine lv_iconst (v := (-1)) hx hb dX6_dots_12 (by decide +kernel) ?_
    subst hR; subst hQz
    exact W.iret (v := (-1)) hx hb hr (fun t ht hW => ⟨⟨(-1), (), rfl, trivial, trivial⟩, hS.F ht⟩) hS.2.2 dX6_dots_13
  · have t5 := tq_ne (k := z2.toInt) (q := (0)) c5 rfl (by decide +kernel)
    have i5 := imz2 t5
    refine lv_iload_n hx hb dX6_dots_8 rfl (lv_at hl 3 rfl) ?_
    refine lv_if_ge (tgt := 14) hx hb dX6_dots_9 (by decide) (fun c9 => ?_) (fun c9 => ?_)
    · have t9 := tq_le (k := (0)) (q := p3.toInt) c9 (by decide +kernel) rfl
      refine lv_aload_n hx hb dX6_dots_14 rfl (lv_at hl 0 rfl) ?_
      obtain ⟨y15, ey15, hLy15, hKy15, hGy15⟩ := oQ_6_2 (Sv_at hQ hLp0 hKp0)
      refine p_get (v := .ref y15) hx hb hts inX6 hown hK hP hLp0 hKp0 rfl rfl 2 (by decide) (hts _ pq351) (congrArg (fun q => some (va_rf q)) ey15) dX6_dots_15 ?_
      obtain ⟨y18, ey18, hLy18, hKy18, hGy18⟩ := oQ_1_0 (Sv_at hQ hLy15 hKy15)
      refine p_get (v := .ref y18) hx hb hts inX1 hown hK hP hLy15 hKy15 rfl rfl 0 (by decide) (hts _ pq216) (congrArg (fun q => some (va_rf q)) ey18) dX6_dots_18 ?_
      refine lv_iload_n hx hb dX6_dots_21 rfl (lv_at hl 1 rfl) ?_
      obtain ⟨y22, ey22, hLy22, hKy22, hGy22⟩ := (Sv_at hQ hLy18 hKy18).1 p1.toNatClampNeg (clamp_lt (n := 8) (in_of (by omega) (by omega)))
      have hjy22 : p1.toNatClampNeg < 8 := clamp_lt (i := p1) (n := 8) (in_of (by omega) (by omega))
      refine p_aaldR hx hb hK hP 3 hLy18 hKy18 rfl rfl (in_of (by omega) (by omega)) ey22 dX6_dots_22 ?_
      refine lv_astore (lv' := [(4, .ref y22), (0, .ref p0), (1, .int p1), (2, .int p2), (3, .int p3)]) hx hb dX6_dots_23 hl (by decide) rfl (fun ls hl => ?_)
      refine lv_iload_n hx hb dX6_dots_25 rfl (lv_at hl 4 rfl) ?_
      refine lv_iload_n hx hb dX6_dots_26 rfl (lv_at hl 3 rfl) ?_
      have j43 : ∀ (w43_1 : Int32) (H : Heap) (lo : List Loc) (ls : Array Slot), ((-300) ≤ w43_1.toInt ∧ w43_1.toInt ≤ 128) → va_P (dC, dI) vwCl (Wd cs L K I J Q) H → va_S (fun _ => False) s.heap H lo → lv_has ls 5 [(0, .ref p0), (1, .int p1), (2, .int p2), (3, .int p3), (4, .ref y22)] → W p l e R s m (([.ref p0, .int p1, .int p2, .int p3] : List Value).toArray) below meth c H lo 0 0 Qz (F0 m 43 ls [.int w43_1, .int p3]) := by
        intro w43_1 H lo ls bw43_1 hP hS hl
        refine lv_icmp_lt (tgt := 48) hx hb dX6_dots_43 (by decide) (fun c43 => ?_) (fun c43 => ?_)
        · have t43 := tq_lt (k := p3.toInt) (q := w43_1.toInt) c43 rfl rfl
          refine lv_iload_n hx hb dX6_dots_48 rfl (lv_at hl 2 rfl) ?_
          refine lv_if_eq (tgt := 68) hx hb dX6_dots_49 (by decide) (fun c49 => ?_) (fun c49 => ?_)
          · have t49 := tq_eq (k := p2.toInt) (q := (0)) c49 rfl (by decide +kernel)
            refine lv_aload hx hb dX6_dots_68 (lv_at hl 4 rfl) ?_
            refine lv_iconst (v := 0) hx hb dX6_dots_70 (by decide +kernel) ?_
            refine lv_iload_n hx hb dX6_dots_71 rfl (lv_at hl 3 rfl) ?_
            refine lv_aload hx hb dX6_dots_72 (lv_at hl 4 rfl) ?_
            refine p_get hx hb hts inX3 hown hK hP hLy22 hKy22 rfl rfl 0 (by decide) (hts _ pq119) rfl dX6_dots_74 ?_
            refine lv_topi (fun z74 ez74 => ?_)
            have bz74 := oI_3_0 (Iv_at hI hLy22 hKy22)
            rw [← ez74] at bz74
            refine lv_iconst (v := 1) hx hb dX6_dots_77 (by decide +kernel) ?_
            refine ro_i (va_runV (As := [.int 0, .int p3, .int z74, .int 1]) (rest := []) ⟨hx, hb, hml, hown, hts⟩ (s_X3_dotsWithin l dC dI cs L K G Q hQ x0 m0 tx tm H.size I J hI y22 hLy22 hKy22 0 p3 z74 1) (cwV 4 hts (gV pq916 pq917 pq918 pq76 pq919) rfl rfl rfl (by decide +kernel) ⟨(by rw [hR]; exact (Nat.le_of_ble_eq_true rfl)), (by rw [hR]; exact (Nat.le_of_ble_eq_true rfl))⟩) (sP_V hP hD hK hN hLy22 hKy22 rfl rfl) rfl rfl hl.1 rfl (lv_room (Nat.le_of_ble_eq_true rfl)) dX6_dots_78 ⟨(by rw [hR]; exact (Nat.le_of_ble_eq_true rfl)), (by rw [hR]; exact (Nat.le_of_ble_eq_true rfl))⟩) hS hP (fun z78 H locs hz78 hP hS => ?_)
            subst hR; subst hQz
            exact W.iret (v := z78) hx hb hr (fun t ht hW => ⟨⟨z78, (), rfl, trivial, trivial⟩, hS.F ht⟩) hS.2.2 dX6_dots_81
          · have t49 := tq_ne (k := p2.toInt) (q := (0)) c49 rfl (by decide +kernel)
            refine lv_aload hx hb dX6_dots_52 (lv_at hl 4 rfl) ?_
            refine lv_iload_n hx hb dX6_dots_54 rfl (lv_at hl 3 rfl) ?_
            refine lv_iconst (v := 0) hx hb dX6_dots_55 (by decide +kernel) ?_
            refine lv_iconst (v := 1) hx hb dX6_dots_56 (by decide +kernel) ?_
            refine lv_aload hx hb dX6_dots_57 (lv_at hl 4 rfl) ?_
            refine p_get hx hb hts inX3 hown hK hP hLy22 hKy22 rfl rfl 1 (by decide) (hts _ pq123) rfl dX6_dots_59 ?_
            refine lv_topi (fun z59 ez59 => ?_)
            have bz59 := oI_3_1 (Iv_at hI hLy22 hKy22)
            rw [← ez59] at bz59
            refine ro_i (va_runV (As := [.int p3, .int 0, .int 1, .int z59]) (rest := []) ⟨hx, hb, hml, hown, hts⟩ (s_X3_dotsWithin l dC dI cs L K G Q hQ x0 m0 tx tm H.size I J hI y22 hLy22 hKy22 p3 0 1 z59) (cwV 4 hts (gV pq916 pq917 pq918 pq76 pq919) rfl rfl rfl (by decide +kernel) ⟨(by rw [hR]; exact (Nat.le_of_ble_eq_true rfl)), (by rw [hR]; exact (Nat.le_of_ble_eq_true rfl))⟩) (sP_V hP hD hK hN hLy22 hKy22 rfl rfl) rfl rfl hl.1 rfl (lv_room (Nat.le_of_ble_eq_true rfl)) dX6_dots_62 ⟨(by rw [hR]; exact (Nat.le_of_ble_eq_true rfl)), (by rw [hR]; exact (Nat.le_of_ble_eq_true rfl))⟩) hS hP (fun z62 H locs hz62 hP hS => ?_)
            refine lv_goto (tgt := 81) hx hb dX6_dots_65 (by decide) ?_
            subst hR; subst hQz
            exact W.iret (v := z62) hx hb hr (fun t ht hW => ⟨⟨z62, (), rfl, trivial, trivial⟩, hS.F ht⟩) hS.2.2 dX6_dots_81
        · have t43 := tq_nlt (k := p3.toInt) (q := w43_1.toInt) c43 rfl rfl
          refine lv_iconst (v := (-1)) hx hb dX6_dots_46 (by decide +kernel) ?_
          subst hR; subst hQz
          exact W.iret (v := (-1)) hx hb hr (fun t ht hW => ⟨⟨(-1), (), rfl, trivial, trivial⟩, hS.F ht⟩) hS.2.2 dX6_dots_47
      refine lv_if_eq (tgt := 38) hx hb dX6_dots_27 (by decide) (fun c27 => ?_) (fun c27 => ?_)
      · have t27 := tq_eq (k := p2.toInt) (q := (0)) c27 rfl (by decide +kernel)
        refine lv_aload hx hb dX6_dots_38 (lv_at hl 0 rfl) ?_
        refine p_get hx hb hts inX3 hown hK hP hLy22 hKy22 rfl rfl 1 (by decide) (hts _ pq123) rfl dX6_dots_40 ?_
        refine lv_topi (fun z40 ez40 => ?_)
        have bz40 := oI_3_1 (Iv_at hI hLy22 hKy22)
        rw [← ez40] at bz40
        exact j43 z40 _ _ _ ⟨by omega, by omega⟩ hP hS (lv_sub hl [1, 2, 3, 4, 0] rfl)
      · have t27 := tq_ne (k := p2.toInt) (q := (0)) c27 rfl (by decide +kernel)
        refine lv_aload hx hb dX6_dots_30 (lv_at hl 0 rfl) ?_
        refine p_get hx hb hts inX3 hown hK hP hLy22 hKy22 rfl rfl 0 (by decide) (hts _ pq119) rfl dX6_dots_32 ?_
        refine lv_topi (fun z32 ez32 => ?_)
        have bz32 := oI_3_0 (Iv_at hI hLy22 hKy22)
        rw [← ez32] at bz32
        refine lv_goto (tgt := 43) hx hb dX6_dots_35 (by decide) ?_
        exact j43 z32 _ _ _ ⟨by omega, by omega⟩ hP hS (lv_sub hl [1, 2, 3, 4, 0] rfl)
    · have t9 := tq_nle (k := (0)) (q := p3.toInt) c9 (by decide +kernel) rfl
      refine lv_iconst (v := (-1)) hx hb dX6_dots_12 (by decide +kernel) ?_
      subst hR; subst hQz
      exact W.iret (v := (-1)) hx hb hr (fun t ht hW => ⟨⟨(-1), (), rfl, trivial, trivial⟩, hS.F ht⟩) hS.2.2 dX6_dots_13

set_option maxHeartbeats 4000000 in
set_option maxRecDepth 100000 in
theorem s_X6_spread (l : Launch) (dC : Nat → ClassId) (dI : Nat → Nat → Nat) (cs : Nat → ClassId) (L : List Nat) (K G : Nat → Nat) (Q : Nat → Nat → Option Nat) (hQ : Sv L K G Q) (x0 m0 : Nat) (tx : GT) (tm : GT × Int) (sz : Nat) (I : Nat → Nat → Int32) (J : Nat → Nat → Int64) (hI : Iv L K x0 m0 tx tm I) (p0 : Nat) (hLp0 : p0 ∈ L) (hKp0 : K p0 = 6) (p1 : Int32) (p2 : Int32) : Met l yX6_spread (.code yX6_spread cX6_spread 3 (some .int) :: pw) ({ frames := 4, cells := 0, slots := 0, locals := 101 }) (sP (dC, dI) cs [.ref p0, .int p1, .int p2] sz L K I J Q) (va_Qi (fun (r : Int32) (_ : Unit) => True) (fun _ _ => True) (fun _ => False)) 0 0 (fun _ => False) := by
  refine Met.ofW (cc := cX6_spread) (maxL := 3) (ret := (some .int)) (by decide +kernel) rfl ?_
  intro p e s m args below meth c s₁ B hml hv
  obtain ⟨rfl, hsz, hP, hK, hD0, hN⟩ := hv
  have hx := B.exec
  have hb := B.bytes
  have hr := B.returns
  have hts := fun w (h : w ∈ pw) => atoms_spec (ws := Cond.code yX6_spread cX6_spread 3 (some .int) :: pw) B.pre w (List.mem_cons_of_mem _ h)
  have hown : s.vm.findClass RX6 = some m.cls := findClass_of_methodNamed B.named
  have hlocks := B.notSynchronized
  subst hsz
  have hBB : 999 ≤ tm.2 ∧ tm.2 ≤ 6000000 := hI.2.2.2.2.1
  have hD := hD0
  obtain ⟨H, hHe⟩ : ∃ H : Heap, H = s.heap := ⟨_, rfl⟩
  have hS : va_S (fun _ => False) s.heap H [] := by rw [hHe]; exact va_S.rf
  rw [← hHe] at hP
  have hl := lv_entry ([.ref p0, .int p1, .int p2]) (n := 3) (Nat.le_of_ble_eq_true rfl)
  rw [lg_entry_eq]
  generalize (lg_sl ([.ref p0, .int p1, .int p2]) ++ List.replicate (3 - (lg_sl ([.ref p0, .int p1, .int p2])).length) Slot.unset).toArray = ls at hl ⊢
  have hl : lv_has ls 3 [(0, .ref p0), (1, .int p1), (2, .int p2)] := hl
  rw [← hHe]
  refine namedW (fun R Qz hR hQz => ?_)
  refine lv_aload_n hx hb dX6_spread_0 rfl (lv_at hl 0 rfl) ?_
  refine lv_iload_n hx hb dX6_spread_1 rfl (lv_at hl 1 rfl) ?_
  refine ro_i (va_runV (As := [.int p1]) (rest := []) ⟨hx, hb, hml, hown, hts⟩ (s_X6_isMask l dC dI cs L K G Q hQ x0 m0 tx tm H.size I J hI p0 hLp0 hKp0 p1) (cwV 1 hts (gV pq666 pq668 pq4 pq74 pq669) rfl rfl rfl (by decide +kernel) ⟨(by rw [hR]; exact (Nat.le_of_ble_eq_true rfl)), (by rw [hR]; exact (Nat.le_of_ble_eq_true rfl))⟩) (sP_V hP hD hK hN hLp0 hKp0 rfl rfl) rfl rfl hl.1 rfl (lv_room (Nat.le_of_ble_eq_true rfl)) dX6_spread_2 ⟨(by rw [hR]; exact (Nat.le_of_ble_eq_true rfl)), (by rw [hR]; exact (Nat.le_of_ble_eq_true rfl))⟩) hS hP (fun z2 H locs hz2 hP hS => ?_)
  obtain ⟨bz2, imz2, xpz2⟩ := hz2
  refine lv_if_ne (tgt := 10) hx hb dX6_spread_5 (by decide) (fun c5 => ?_) (fun c5 => ?_)
  · have t5 := tq_ne (k := z2.toInt) (q := (0)) c5 rfl (by decide +kernel)
    have i5 := imz2 t5
    refine lv_iload_n hx hb dX6_spread_10 rfl (lv_at hl 2 rfl) ?_
    refine lv_topi (fun z11 ez11 => ?_)
    rcases sw3 z11 with rfl | rfl | rfl | hsw11
    · refine lv_tableIn (off := 25) (tgt := 36) hx hb dX6_spread_11 (by decide +kernel) (by decide +kernel) (by decide +kernel) (by decide) ?_
      have sv11 : p2.toInt = 0 := by rw [← ez11]; decide +kernel
      refine lv_aload_n hx hb dX6_spread_36 rfl (lv_at hl 0 rfl) ?_
      obtain ⟨y37, ey37, hLy37, hKy37, hGy37⟩ := oQ_6_2 (Sv_at hQ hLp0 hKp0)
      refine p_get (v := .ref y37) hx hb hts inX6 hown hK hP hLp0 hKp0 rfl rfl 2 (by decide) (hts _ pq351) (congrArg (fun q => some (va_rf q)) ey37) dX6_spread_37 ?_
      obtain ⟨y40, ey40, hLy40, hKy40, hGy40⟩ := oQ_1_0 (Sv_at hQ hLy37 hKy37)
      refine p_get (v := .ref y40) hx hb hts inX1 hown hK hP hLy37 hKy37 rfl rfl 0 (by decide) (hts _ pq216) (congrArg (fun q => some (va_rf q)) ey40) dX6_spread_40 ?_
      refine lv_iload_n hx hb dX6_spread_43 rfl (lv_at hl 1 rfl) ?_
      obtain ⟨y44, ey44, hLy44, hKy44, hGy44⟩ := (Sv_at hQ hLy40 hKy40).1 p1.toNatClampNeg (clamp_lt (n := 8) (in_of (by omega) (by omega)))
      have hjy44 : p1.toNatClampNeg < 8 := clamp_lt (i := p1) (n := 8) (in_of (by omega) (by omega))
      refine p_aaldR hx hb hK hP 3 hLy40 hKy40 rfl rfl (in_of (by omega) (by omega)) ey44 dX6_spread_44 ?_
      refine ro_i (va_runV (As := []) (rest := []) ⟨hx, hb, hml, hown, hts⟩ (s_X3_sumOfX l dC dI cs L K G Q hQ x0 m0 tx tm H.size I J hI y44 hLy44 hKy44) (cwV 0 hts (gV pq928 pq929 pq930 pq76 pq931) rfl rfl rfl (by decide +kernel) ⟨(by rw [hR]; exact (Nat.le_of_ble_eq_true rfl)), (by rw [hR]; exact (Nat.le_of_ble_eq_true rfl))⟩) (sP_V hP hD hK hN hLy44 hKy44 rfl rfl) rfl rfl hl.1 rfl (lv_room (Nat.le_of_ble_eq_true rfl)) dX6_spread_45 ⟨(by rw [hR]; exact (Nat.le_of_ble_eq_true rfl)), (by rw [hR]; exact (Nat.le_of_ble_eq_true rfl))⟩) hS hP (fun z45 H locs hz45 hP hS => ?_)
      subst hR; subst hQz
      exact W.iret (v := z45) hx hb hr (fun t ht hW => ⟨⟨z45, (), rfl, trivial, trivial⟩, hS.F ht⟩) hS.2.2 dX6_spread_48
    · refine lv_tableIn (off := 38) (tgt := 49) hx hb dX6_spread_11 (by decide +kernel) (by decide +kernel) (by decide +kernel) (by decide) ?_
      have sv11 : p2.toInt = 1 := by rw [← ez11]; decide +kernel
      refine lv_aload_n hx hb dX6_spread_49 rfl (lv_at hl 0 rfl) ?_
      obtain ⟨y50, ey50, hLy50, hKy50, hGy50⟩ := oQ_6_2 (Sv_at hQ hLp0 hKp0)
      refine p_get (v := .ref y50) hx hb hts inX6 hown hK hP hLp0 hKp0 rfl rfl 2 (by decide) (hts _ pq351) (congrArg (fun q => some (va_rf q)) ey50) dX6_spread_50 ?_
      obtain ⟨y53, ey53, hLy53, hKy53, hGy53⟩ := oQ_1_0 (Sv_at hQ hLy50 hKy50)
      refine p_get (v := .ref y53) hx hb hts inX1 hown hK hP hLy50 hKy50 rfl rfl 0 (by decide) (hts _ pq216) (congrArg (fun q => some (va_rf q)) ey53) dX6_spread_53 ?_
      refine lv_iload_n hx hb dX6_spread_56 rfl (lv_at hl 1 rfl) ?_
      obtain ⟨y57, ey57, hLy57, hKy57, hGy57⟩ := (Sv_at hQ hLy53 hKy53).1 p1.toNatClampNeg (clamp_lt (n := 8) (in_of (by omega) (by omega)))
      have hjy57 : p1.toNatClampNeg < 8 := clamp_lt (i := p1) (n := 8) (in_of (by omega) (by omega))
      refine p_aaldR hx hb hK hP 3 hLy53 hKy53 rfl rfl (in_of (by omega) (by omega)) ey57 dX6_spread_57 ?_
      refine ro_i (va_runV (As := []) (rest := []) ⟨hx, hb, hml, hown, hts⟩ (s_X3_sumOfY l dC dI cs L K G Q hQ x0 m0 tx tm H.size I J hI y57 hLy57 hKy57) (cwV 0 hts (gV pq933 pq934 pq935 pq76 pq936) rfl rfl rfl (by decide +kernel) ⟨(by rw [hR]; exact (Nat.le_of_ble_eq_true rfl)), (by rw [hR]; exact (Nat.le_of_ble_eq_true rfl))⟩) (sP_V hP hD hK hN hLy57 hKy57 rfl rfl) rfl rfl hl.1 rfl (lv_room (Nat.le_of_ble_eq_true rfl)) dX6_spread_58 ⟨(by rw [hR]; exact (Nat.le_of_ble_eq_true rfl)), (by rw [hR]; exact (Nat.le_of_ble_eq_true rfl))⟩) hS hP (fun z58 H locs hz58 hP hS => ?_)
      subst hR; subst hQz
      exact W.iret (v := z58) hx hb hr (fun t ht hW => ⟨⟨z58, (), rfl, trivial, trivial⟩, hS.F ht⟩) hS.2.2 dX6_spread_61
    · refine lv_tableIn (off := 51) (tgt := 62) hx hb dX6_spread_11 (by decide +kernel) (by decide +kernel) (by decide +kernel) (by decide) ?_
      have sv11 : p2.toInt = 2 := by rw [← ez11]; decide +kernel
      refine lv_aload_n hx hb dX6_spread_62 rfl (lv_at hl 0 rfl) ?_
      obtain ⟨y63, ey63, hLy63, hKy63, hGy63⟩ := oQ_6_2 (Sv_at hQ hLp0 hKp0)
      refine p_get (v := .ref y63) hx hb hts inX6 hown hK hP hLp0 hKp0 rfl rfl 2 (by decide) (hts _ pq351) (congrArg (fun q => some (va_rf q)) ey63) dX6_spread_63 ?_
      obtain ⟨y66, ey66, hLy66, hKy66, hGy66⟩ := oQ_1_0 (Sv_at hQ hLy63 hKy63)
      refine p_get (v := .ref y66) hx hb hts inX1 hown hK hP hLy63 hKy63 rfl rfl 0 (by decide) (hts _ pq216) (congrArg (fun q => some (va_rf q)) ey66) dX6_spread_66 ?_
      refine lv_iload_n hx hb dX6_spread_69 rfl (lv_at hl 1 rfl) ?_
      obtain ⟨y70, ey70, hLy70, hKy70, hGy70⟩ := (Sv_at hQ hLy66 hKy66).1 p1.toNatClampNeg (clamp_lt (n := 8) (in_of (by omega) (by omega)))
      have hjy70 : p1.toNatClampNeg < 8 := clamp_lt (i := p1) (n := 8) (in_of (by omega) (by omega))
      refine p_aaldR hx hb hK hP 3 hLy66 hKy66 rfl rfl (in_of (by omega) (by omega)) ey70 dX6_spread_70 ?_
      refine ro_i (va_runV (As := []) (rest := []) ⟨hx, hb, hml, hown, hts⟩ (s_X3_farthestApart l dC dI cs L K G Q hQ x0 m0 tx tm H.size I J hI y70 hLy70 hKy70) (cwV 0 hts (gV pq941 pq942 pq943 pq76 pq944) rfl rfl rfl (by decide +kernel) ⟨(by rw [hR]; exact (Nat.le_of_ble_eq_true rfl)), (by rw [hR]; exact (Nat.le_of_ble_eq_true rfl))⟩) (sP_V hP hD hK hN hLy70 hKy70 rfl rfl) rfl rfl hl.1 rfl (lv_room (Nat.le_of_ble_eq_true rfl)) dX6_spread_71 ⟨(by rw [hR]; exact (Nat.le_of_ble_eq_true rfl)), (by rw [hR]; exact (Nat.le_of_ble_eq_true rfl))⟩) hS hP (fun z71 H locs hz71 hP hS => ?_)
      subst hR; subst hQz
      exact W.iret (v := z71) hx hb hr (fun t ht hW => ⟨⟨z71, (), rfl, trivial, trivial⟩, hS.F ht⟩) hS.2.2 dX6_spread_74
    · refine lv_tableOut (tgt := 75) hx hb dX6_spread_11 hsw11 (by decide) ?_
      refine lv_iconst (v := (-1)) hx hb dX6_spread_75 (by decide +kernel) ?_
      subst hR; subst hQz
      exact W.iret (v := (-1)) hx hb hr (fun t ht hW => ⟨⟨(-1), (), rfl, trivial, trivial⟩, hS.F ht⟩) hS.2.2 dX6_spread_76
  · have t5 := tq_eq (k := z2.toInt) (q := (0)) c5 rfl (by decide +kernel)
    refine lv_iconst (v := (-1)) hx hb dX6_spread_8 (by decide +kernel) ?_
    subst hR; subst hQz
    exact W.iret (v := (-1)) hx hb hr (fun t ht hW => ⟨⟨(-1), (), rfl, trivial, trivial⟩, hS.F ht⟩) hS.2.2 dX6_spread_9

set_option maxHeartbeats 4000000 in
set_option maxRecDepth 100000 in
theorem s_X6_bitsOfShare (l : Launch) (dC : Nat → ClassId) (dI : Nat → Nat → Nat) (cs : Nat → ClassId) (L : List Nat) (K G : Nat → Nat) (Q : Nat → Nat → Option Nat) (hQ : Sv L K G Q) (x0 m0 : Nat) (tx : GT) (tm : GT × Int) (sz : Nat) (I : Nat → Nat → Int32) (J : Nat → Nat → Int64) (hI : Iv L K x0 m0 tx tm I) (p0 : Int32) (p1 : Int32) : Met l yX6_bitsOfShare (.code yX6_bitsOfShare cX6_bitsOfShare 7 (some .long) :: pw) ({ frames := 0, cells := 0, slots := 0, locals := 0 }) (sP (dC, dI) cs [.int p0, .int p1] sz L K I J Q) (va_Ql (fun (r : Int64) (_ : Unit) => True) (fun _ _ => True) (fun _ => False)) 0 0 (fun _ => False) := by
  refine Met.ofW (cc := cX6_bitsOfShare) (maxL := 7) (ret := (some .long)) (by decide +kernel) rfl ?_
  intro p e s m args below meth c s₁ B hml hv
  obtain ⟨rfl, hsz, hP, hK, hD0, hN⟩ := hv
  have hx := B.exec
  have hb := B.bytes
  have hr := B.returns
  have hts := fun w (h : w ∈ pw) => atoms_spec (ws := Cond.code yX6_bitsOfShare cX6_bitsOfShare 7 (some .long) :: pw) B.pre w (List.mem_cons_of_mem _ h)
  have hown : s.vm.findClass RX6 = some m.cls := findClass_of_methodNamed B.named
  have hlocks := B.notSynchronized
  subst hsz
  have hBB : 999 ≤ tm.2 ∧ tm.2 ≤ 6000000 := hI.2.2.2.2.1
  have hD := hD0
  obtain ⟨H, hHe⟩ : ∃ H : Heap, H = s.heap := ⟨_, rfl⟩
  have hS : va_S (fun _ => False) s.heap H [] := by rw [hHe]; exact va_S.rf
  rw [← hHe] at hP
  have hl := lv_entry ([.int p0, .int p1]) (n := 7) (Nat.le_of_ble_eq_true rfl)
  rw [lg_entry_eq]
  generalize (lg_sl ([.int p0, .int p1]) ++ List.replicate (7 - (lg_sl ([.int p0, .int p1])).length) Slot.unset).toArray = ls at hl ⊢
  have hl : lv_has ls 7 [(0, .int p0), (1, .int p1)] := hl
  rw [← hHe]
  refine namedW (fun R Qz hR hQz => ?_)
  refine lv_iload_n hx hb dX6_bitsOfShare_0 rfl (lv_at hl 0 rfl) ?_
  refine lv_if_le (tgt := 9) hx hb dX6_bitsOfShare_1 (by decide) (fun c1 => ?_) (fun c1 => ?_)
  · have t1 := tq_le (k := p0.toInt) (q := (0)) c1 rfl (by decide +kernel)
    refine lv_lconst (v := 0) hx hb dX6_bitsOfShare_9 (by decide +kernel) ?_
    subst hR; subst hQz
    exact W.lret (v := 0) hx hb hr (fun t ht hW => ⟨⟨0, (), rfl, trivial, trivial⟩, hS.F ht⟩) hS.2.2 dX6_bitsOfShare_10
  · have t1 := tq_nle (k := p0.toInt) (q := (0)) c1 rfl (by decide +kernel)
    refine lv_iload_n hx hb dX6_bitsOfShare_4 rfl (lv_at hl 0 rfl) ?_
    refine lv_iload_n hx hb dX6_bitsOfShare_5 rfl (lv_at hl 1 rfl) ?_
    refine lv_icmp_le (tgt := 11) hx hb dX6_bitsOfShare_6 (by decide) (fun c6 => ?_) (fun c6 => ?_)
    · have t6 := tq_le (k := p0.toInt) (q := p1.toInt) c6 rfl rfl
      refine lv_iload_n hx hb dX6_bitsOfShare_11 rfl (lv_at hl 0 rfl) ?_
      refine lv_istore_n (lv' := [(2, .int p0), (0, .int p0), (1, .int p1)]) hx hb dX6_bitsOfShare_12 rfl hl (by decide) rfl (fun ls hl => ?_)
      refine lv_iconst (v := 0) hx hb dX6_bitsOfShare_13 (by decide +kernel) ?_
      refine lv_istore_n (lv' := [(3, .int 0), (2, .int p0), (0, .int p0), (1, .int p1)]) hx hb dX6_bitsOfShare_14 rfl hl (by decide) rfl (fun ls hl => ?_)
      have key15 := blocks (fun n => ∀ (v15_2 : Int32) (v15_3 : Int32) (H : Heap) (lo : List Loc) (ls : Array Slot), (v15_3.toInt - (-65)).toNat = n → ((-64) ≤ v15_3.toInt ∧ v15_3.toInt ≤ 0) → va_P (dC, dI) vwCl (Wd cs L K I J Q) H → va_S (fun _ => False) s.heap H lo → lv_has ls 7 [(0, .int p0), (1, .int p1), (2, .int v15_2), (3, .int v15_3)] → W p l e R s m (([.int p0, .int p1] : List Value).toArray) below meth c H lo 0 0 Qz (F0 m 15 ls [])) (by
        intro n ih15
        intro v15_2 v15_3 H lo ls hmu15 bv15_3 hP hS hl
        refine lv_iload_n hx hb dX6_bitsOfShare_15 rfl (lv_at hl 2 rfl) ?_
        refine lv_iload_n hx hb dX6_bitsOfShare_16 rfl (lv_at hl 1 rfl) ?_
        have j36 : ∀ (H : Heap) (lo : List Loc) (ls : Array Slot), va_P (dC, dI) vwCl (Wd cs L K I J Q) H → va_S (fun _ => False) s.heap H lo → lv_has ls 7 [(0, .int p0), (1, .int p1), (2, .int v15_2), (3, .int v15_3)] → W p l e R s m (([.int p0, .int p1] : List Value).toArray) below meth c H lo 0 0 Qz (F0 m 36 ls []) := by
          intro H lo ls hP hS hl
          refine lv_lconst (v := 0) hx hb dX6_bitsOfShare_36 (by decide +kernel) ?_
          refine lv_lstore (lv' := [(4, .long 0), (0, .int p0), (1, .int p1), (2, .int v15_2), (3, .int v15_3)]) hx hb dX6_bitsOfShare_37 hl (by decide) rfl (fun ls hl => ?_)
          refine lv_iconst (v := 0) hx hb dX6_bitsOfShare_39 (by decide +kernel) ?_
          refine lv_istore (lv' := [(6, .int 0), (4, .long 0), (0, .int p0), (1, .int p1), (2, .int v15_2), (3, .int v15_3)]) hx hb dX6_bitsOfShare_40 hl (by decide) rfl (fun ls hl => ?_)
          have key42 := blocks (fun n => ∀ (v42_2 : Int32) (v42_4 : Int64) (v42_6 : Int32) (H : Heap) (lo : List Loc) (ls : Array Slot), (79 - v42_6.toInt).toNat = n → ((0) ≤ v42_6.toInt ∧ v42_6.toInt ≤ 78) → va_P (dC, dI) vwCl (Wd cs L K I J Q) H → va_S (fun _ => False) s.heap H lo → lv_has ls 7 [(0, .int p0), (1, .int p1), (2, .int v42_2), (3, .int v15_3), (4, .long v42_4), (6, .int v42_6)] → W p l e R s m (([.int p0, .int p1] : List Value).toArray) below meth c H lo 0 0 Qz (F0 m 42 ls [])) (by
            intro n ih42
            intro v42_2 v42_4 v42_6 H lo ls hmu42 bv42_6 hP hS hl
            refine lv_iload hx hb dX6_bitsOfShare_42 (lv_at hl 5 rfl) ?_
            refine lv_bipush (v := 53) hx hb dX6_bitsOfShare_44 (by decide +kernel) ?_
            refine lv_icmp_ge (tgt := 82) hx hb dX6_bitsOfShare_46 (by decide) (fun c46 => ?_) (fun c46 => ?_)
            · have t46 := tq_le (k := (53)) (q := v42_6.toInt) c46 (by decide +kernel) rfl
              refine lv_iload_n hx hb dX6_bitsOfShare_82 rfl (lv_at hl 2 rfl) ?_
              refine lv_iload_n hx hb dX6_bitsOfShare_83 rfl (lv_at hl 1 rfl) ?_
              have j107 : ∀ (v107_4 : Int64) (H : Heap) (lo : List Loc) (ls : Array Slot), va_P (dC, dI) vwCl (Wd cs L K I J Q) H → va_S (fun _ => False) s.heap H lo → lv_has ls 7 [(0, .int p0), (1, .int p1), (2, .int v42_2), (3, .int v15_3), (4, .long v107_4), (6, .int v42_6)] → W p l e R s m (([.int p0, .int p1] : List Value).toArray) below meth c H lo 0 0 Qz (F0 m 107 ls []) := by
                intro v107_4 H lo ls hP hS hl
                refine lv_iload_n hx hb dX6_bitsOfShare_107 rfl (lv_at hl 3 rfl) ?_
                refine lv_sipush (v := 1022) hx hb dX6_bitsOfShare_108 (by decide +kernel) ?_
                refine lv_iadd hx hb dX6_bitsOfShare_111 ?_
                refine lv_topi (fun z111 ez111 => ?_)
                have bz111 := tq_add (k := v15_3.toInt) (q := (1022)) ez111 rfl (by decide +kernel) (by omega) (by omega)
                refine lv_i2l hx hb dX6_bitsOfShare_112 rfl ?_
                refine lv_topl (fun z112 ez112 => ?_)
                refine lv_bipush (v := 52) hx hb dX6_bitsOfShare_113 (by decide +kernel) ?_
                refine lv_lshl hx hb dX6_bitsOfShare_115 rfl ?_
                refine lv_topl (fun z115 ez115 => ?_)
                refine lv_lload hx hb dX6_bitsOfShare_116 (lv_at hl 4 rfl) ?_
                refine lv_ladd hx hb dX6_bitsOfShare_118 ?_
                refine lv_topl (fun z118 ez118 => ?_)
                subst hR; subst hQz
                exact W.lret (v := z118) hx hb hr (fun t ht hW => ⟨⟨z118, (), rfl, trivial, trivial⟩, hS.F ht⟩) hS.2.2 dX6_bitsOfShare_119
              have j101 : ∀ (H : Heap) (lo : List Loc) (ls : Array Slot), va_P (dC, dI) vwCl (Wd cs L K I J Q) H → va_S (fun _ => False) s.heap H lo → lv_has ls 7 [(0, .int p0), (1, .int p1), (2, .int v42_2), (3, .int v15_3), (4, .long v42_4), (6, .int v42_6)] → W p l e R s m (([.int p0, .int p1] : List Value).toArray) below meth c H lo 0 0 Qz (F0 m 101 ls []) := by
                intro H lo ls hP hS hl
                refine lv_lload hx hb dX6_bitsOfShare_101 (lv_at hl 4 rfl) ?_
                refine lv_lconst (v := 1) hx hb dX6_bitsOfShare_103 (by decide +kernel) ?_
                refine lv_ladd hx hb dX6_bitsOfShare_104 ?_
                refine lv_topl (fun z104 ez104 => ?_)
                refine lv_lstore (lv' := [(4, .long z104), (0, .int p0), (1, .int p1), (2, .int v42_2), (3, .int v15_3), (6, .int v42_6)]) hx hb dX6_bitsOfShare_105 hl (by decide) rfl (fun ls hl => ?_)
                exact j107 z104 _ _ _ hP hS (lv_sub hl [1, 2, 3, 4, 0, 5] rfl)
              refine lv_icmp_gt (tgt := 101) hx hb dX6_bitsOfShare_84 (by decide) (fun c84 => ?_) (fun c84 => ?_)
              · have t84 := tq_lt (k := p1.toInt) (q := v42_2.toInt) c84 rfl rfl
                exact j101  _ _ _ hP hS (lv_sub hl [0, 1, 2, 3, 4, 5] rfl)
              · have t84 := tq_nlt (k := p1.toInt) (q := v42_2.toInt) c84 rfl rfl
                refine lv_iload_n hx hb dX6_bitsOfShare_87 rfl (lv_at hl 2 rfl) ?_
                refine lv_iload_n hx hb dX6_bitsOfShare_88 rfl (lv_at hl 1 rfl) ?_
                refine lv_icmp_ne (tgt := 107) hx hb dX6_bitsOfShare_89 (by decide) (fun c89 => ?_) (fun c89 => ?_)
                · have t89 := tq_ne (k := v42_2.toInt) (q := p1.toInt) c89 rfl rfl
                  exact j107 v42_4 _ _ _ hP hS (lv_sub hl [0, 1, 2, 3, 4, 5] rfl)
                · have t89 := tq_eq (k := v42_2.toInt) (q := p1.toInt) c89 rfl rfl
                  refine lv_lload hx hb dX6_bitsOfShare_92 (lv_at hl 4 rfl) ?_
                  refine lv_lconst (v := 1) hx hb dX6_bitsOfShare_94 (by decide +kernel) ?_
                  refine lv_land hx hb dX6_bitsOfShare_95 ?_
                  refine lv_topl (fun z95 ez95 => ?_)
                  refine lv_lconst (v := 1) hx hb dX6_bitsOfShare_96 (by decide +kernel) ?_
                  refine W.lcmp hx hb dX6_bitsOfShare_97 ?_
                  refine lv_topi (fun z97 ez97 => ?_)
                  refine lv_if_ne (tgt := 107) hx hb dX6_bitsOfShare_98 (by decide) (fun c98 => ?_) (fun c98 => ?_)
                  · have t98 := tq_ne (k := z97.toInt) (q := (0)) c98 rfl (by decide +kernel)
                    exact j107 v42_4 _ _ _ hP hS (lv_sub hl [0, 1, 2, 3, 4, 5] rfl)
                  · have t98 := tq_eq (k := z97.toInt) (q := (0)) c98 rfl (by decide +kernel)
                    exact j101  _ _ _ hP hS (lv_sub hl [0, 1, 2, 3, 4, 5] rfl)
            · have t46 := tq_nle (k := (53)) (q := v42_6.toInt) c46 (by decide +kernel) rfl
              refine lv_lload hx hb dX6_bitsOfShare_49 (lv_at hl 4 rfl) ?_
              refine lv_ldc2 hx hb hown (hts _ pq953) dX6_bitsOfShare_51 ?_
              refine lv_lmul hx hb dX6_bitsOfShare_54 ?_
              refine lv_topl (fun z54 ez54 => ?_)
              refine lv_lstore (lv' := [(4, .long z54), (0, .int p0), (1, .int p1), (2, .int v42_2), (3, .int v15_3), (6, .int v42_6)]) hx hb dX6_bitsOfShare_55 hl (by decide) rfl (fun ls hl => ?_)
              refine lv_iload_n hx hb dX6_bitsOfShare_57 rfl (lv_at hl 3 rfl) ?_
              refine lv_iload_n hx hb dX6_bitsOfShare_58 rfl (lv_at hl 2 rfl) ?_
              have j72 : ∀ (v72_2 : Int32) (v72_4 : Int64) (H : Heap) (lo : List Loc) (ls : Array Slot), va_P (dC, dI) vwCl (Wd cs L K I J Q) H → va_S (fun _ => False) s.heap H lo → lv_has ls 7 [(0, .int p0), (1, .int p1), (2, .int v72_2), (3, .int v15_3), (4, .long v72_4), (6, .int v42_6)] → W p l e R s m (([.int p0, .int p1] : List Value).toArray) below meth c H lo 0 0 Qz (F0 m 72 ls []) := by
                intro v72_2 v72_4 H lo ls hP hS hl
                refine lv_iload_n hx hb dX6_bitsOfShare_72 rfl (lv_at hl 2 rfl) ?_
                refine lv_iconst (v := 2) hx hb dX6_bitsOfShare_73 (by decide +kernel) ?_
                refine lv_imul hx hb dX6_bitsOfShare_74 ?_
                refine lv_topi (fun z74 ez74 => ?_)
                refine lv_istore_n (lv' := [(2, .int z74), (0, .int p0), (1, .int p1), (3, .int v15_3), (4, .long v72_4), (6, .int v42_6)]) hx hb dX6_bitsOfShare_75 rfl hl (by decide) rfl (fun ls hl => ?_)
                obtain ⟨z76, ez76⟩ : ∃ y : Int32, y = v42_6 + 1 := ⟨_, rfl⟩
                refine lv_iinc (v := z76) (lv' := [(6, .int z76), (2, .int z74), (0, .int p0), (1, .int p1), (3, .int v15_3), (4, .long v72_4)]) hx hb dX6_bitsOfShare_76 hl (k := 5) rfl (by rw [ez76]; rfl) (by decide) rfl (fun ls hl => ?_)
                have bz76 := tq_add (k := v42_6.toInt) (q := 1) ez76 rfl (by decide +kernel) (by omega) (by omega)
                refine lv_goto (tgt := 42) hx hb dX6_bitsOfShare_79 (by decide) ?_
                exact ih42 _ (by omega) z74 v72_4 z76 _ _ _ rfl ⟨by omega, by omega⟩ hP hS (lv_sub hl [2, 3, 1, 4, 5, 0] rfl)
              refine lv_icmp_lt (tgt := 72) hx hb dX6_bitsOfShare_59 (by decide) (fun c59 => ?_) (fun c59 => ?_)
              · have t59 := tq_lt (k := v42_2.toInt) (q := p1.toInt) c59 rfl rfl
                exact j72 v42_2 z54 _ _ _ hP hS (lv_sub hl [1, 2, 3, 4, 0, 5] rfl)
              · have t59 := tq_nlt (k := v42_2.toInt) (q := p1.toInt) c59 rfl rfl
                refine lv_lload hx hb dX6_bitsOfShare_62 (lv_at hl 0 rfl) ?_
                refine lv_lconst (v := 1) hx hb dX6_bitsOfShare_64 (by decide +kernel) ?_
                refine lv_ladd hx hb dX6_bitsOfShare_65 ?_
                refine lv_topl (fun z65 ez65 => ?_)
                refine lv_lstore (lv' := [(4, .long z65), (0, .int p0), (1, .int p1), (2, .int v42_2), (3, .int v15_3), (6, .int v42_6)]) hx hb dX6_bitsOfShare_66 hl (by decide) rfl (fun ls hl => ?_)
                refine lv_iload_n hx hb dX6_bitsOfShare_68 rfl (lv_at hl 3 rfl) ?_
                refine lv_iload_n hx hb dX6_bitsOfShare_69 rfl (lv_at hl 2 rfl) ?_
                refine lv_isub hx hb dX6_bitsOfShare_70 ?_
                refine lv_topi (fun z70 ez70 => ?_)
                have rg70v42_2 := fb_rng v42_2
                have rg70p1 := fb_rng p1
                have bz70 := tq_sub (k := v42_2.toInt) (q := p1.toInt) ez70 rfl rfl (by omega) (by omega)
                refine lv_istore_n (lv' := [(2, .int z70), (4, .long z65), (0, .int p0), (1, .int p1), (3, .int v15_3), (6, .int v42_6)]) hx hb dX6_bitsOfShare_71 rfl hl (by decide) rfl (fun ls hl => ?_)
                exact j72 z70 z65 _ _ _ hP hS (lv_sub hl [2, 3, 0, 4, 1, 5] rfl))
          exact key42 _ v15_2 0 0 _ _ _ rfl ⟨by decide +kernel, by decide +kernel⟩ hP hS (lv_sub hl [2, 3, 4, 5, 1, 0] rfl)
        refine lv_icmp_ge (tgt := 36) hx hb dX6_bitsOfShare_17 (by decide) (fun c17 => ?_) (fun c17 => ?_)
        · have t17 := tq_le (k := p1.toInt) (q := v15_2.toInt) c17 rfl rfl
          exact j36  _ _ _ hP hS (lv_sub hl [0, 1, 2, 3] rfl)
        · have t17 := tq_nle (k := p1.toInt) (q := v15_2.toInt) c17 rfl rfl
          refine lv_iload_n hx hb dX6_bitsOfShare_20 rfl (lv_at hl 3 rfl) ?_
          refine lv_bipush (v := (-64)) hx hb dX6_bitsOfShare_21 (by decide +kernel) ?_
          refine lv_icmp_le (tgt := 36) hx hb dX6_bitsOfShare_23 (by decide) (fun c23 => ?_) (fun c23 => ?_)
          · have t23 := tq_le (k := v15_3.toInt) (q := (-64)) c23 rfl (by decide +kernel)
            exact j36  _ _ _ hP hS (lv_sub hl [0, 1, 2, 3] rfl)
          · have t23 := tq_nle (k := v15_3.toInt) (q := (-64)) c23 rfl (by decide +kernel)
            refine lv_iload_n hx hb dX6_bitsOfShare_26 rfl (lv_at hl 2 rfl) ?_
            refine lv_iconst (v := 2) hx hb dX6_bitsOfShare_27 (by decide +kernel) ?_
            refine lv_imul hx hb dX6_bitsOfShare_28 ?_
            refine lv_topi (fun z28 ez28 => ?_)
            refine lv_istore_n (lv' := [(2, .int z28), (0, .int p0), (1, .int p1), (3, .int v15_3)]) hx hb dX6_bitsOfShare_29 rfl hl (by decide) rfl (fun ls hl => ?_)
            obtain ⟨z30, ez30⟩ : ∃ y : Int32, y = v15_3 + (-1) := ⟨_, rfl⟩
            refine lv_iinc (v := z30) (lv' := [(3, .int z30), (2, .int z28), (0, .int p0), (1, .int p1)]) hx hb dX6_bitsOfShare_30 hl (k := 3) rfl (by rw [ez30]; rfl) (by decide) rfl (fun ls hl => ?_)
            have bz30 := tq_add (k := v15_3.toInt) (q := (-1)) ez30 rfl (by decide +kernel) (by omega) (by omega)
            refine lv_goto (tgt := 15) hx hb dX6_bitsOfShare_33 (by decide) ?_
            exact ih15 _ (by omega) z28 z30 _ _ _ rfl ⟨by omega, by omega⟩ hP hS (lv_sub hl [2, 3, 1, 0] rfl))
      exact key15 _ p0 0 _ _ _ rfl ⟨by decide +kernel, by decide +kernel⟩ hP hS (lv_sub hl [2, 3, 1, 0] rfl)
    · have t6 := tq_nle (k := p0.toInt) (q := p1.toInt) c6 rfl rfl
      refine lv_lconst (v := 0) hx hb dX6_bitsOfShare_9 (by decide +kernel) ?_
      subst hR; subst hQz
      exact W.lret (v := 0) hx hb hr (fun t ht hW => ⟨⟨0, (), rfl, trivial, trivial⟩, hS.F ht⟩) hS.2.2 dX6_bitsOfShare_10

set_option maxHeartbeats 4000000 in
set_option maxRecDepth 100000 in
theorem s_X6_share (l : Launch) (dC : Nat → ClassId) (dI : Nat → Nat → Nat) (cs : Nat → ClassId) (L : List Nat) (K G : Nat → Nat) (Q : Nat → Nat → Option Nat) (hQ : Sv L K G Q) (x0 m0 : Nat) (tx : GT) (tm : GT × Int) (sz : Nat) (I : Nat → Nat → Int32) (J : Nat → Nat → Int64) (hI : Iv L K x0 m0 tx tm I) (p0 : Nat) (hLp0 : p0 ∈ L) (hKp0 : K p0 = 6) (p1 : Int32) : Met l yX6_share (.code yX6_share cX6_share 3 (some .long) :: pw) ({ frames := 1, cells := 0, slots := 0, locals := 26 }) (sP (dC, dI) cs [.ref p0, .int p1] sz L K I J Q) (va_Ql (fun (r : Int64) (_ : Unit) => True) (fun _ _ => True) (fun _ => False)) 0 0 (fun _ => False) := by
  refine Met.ofW (cc := cX6_share) (maxL := 3) (ret := (some .long)) (by decide +kernel) rfl ?_
  intro p e s m args below meth c s₁ B hml hv
  obtain ⟨rfl, hsz, hP, hK, hD0, hN⟩ := hv
  have hx := B.exec
  have hb := B.bytes
  have hr := B.returns
  have hts := fun w (h : w ∈ pw) => atoms_spec (ws := Cond.code yX6_share cX6_share 3 (some .long) :: pw) B.pre w (List.mem_cons_of_mem _ h)
  have hown : s.vm.findClass RX6 = some m.cls := findClass_of_methodNamed B.named
  have hlocks := B.notSynchronized
  subst hsz
  have hBB : 999 ≤ tm.2 ∧ tm.2 ≤ 6000000 := hI.2.2.2.2.1
  have hD := hD0
  obtain ⟨H, hHe⟩ : ∃ H : Heap, H = s.heap := ⟨_, rfl⟩
  have hS : va_S (fun _ => False) s.heap H [] := by rw [hHe]; exact va_S.rf
  rw [← hHe] at hP
  have hl := lv_entry ([.ref p0, .int p1]) (n := 3) (Nat.le_of_ble_eq_true rfl)
  rw [lg_entry_eq]
  generalize (lg_sl ([.ref p0, .int p1]) ++ List.replicate (3 - (lg_sl ([.ref p0, .int p1])).length) Slot.unset).toArray = ls at hl ⊢
  have hl : lv_has ls 3 [(0, .ref p0), (1, .int p1)] := hl
  rw [← hHe]
  refine namedW (fun R Qz hR hQz => ?_)
  refine lv_aload_n hx hb dX6_share_0 rfl (lv_at hl 0 rfl) ?_
  refine lv_iload_n hx hb dX6_share_1 rfl (lv_at hl 1 rfl) ?_
  refine ro_i (va_runV (As := [.int p1]) (rest := []) ⟨hx, hb, hml, hown, hts⟩ (s_X6_isMask l dC dI cs L K G Q hQ x0 m0 tx tm H.size I J hI p0 hLp0 hKp0 p1) (cwV 1 hts (gV pq666 pq668 pq4 pq74 pq669) rfl rfl rfl (by decide +kernel) ⟨(by rw [hR]; exact (Nat.le_of_ble_eq_true rfl)), (by rw [hR]; exact (Nat.le_of_ble_eq_true rfl))⟩) (sP_V hP hD hK hN hLp0 hKp0 rfl rfl) rfl rfl hl.1 rfl (lv_room (Nat.le_of_ble_eq_true rfl)) dX6_share_2 ⟨(by rw [hR]; exact (Nat.le_of_ble_eq_true rfl)), (by rw [hR]; exact (Nat.le_of_ble_eq_true rfl))⟩) hS hP (fun z2 H locs hz2 hP hS => ?_)
  obtain ⟨bz2, imz2, xpz2⟩ := hz2
  refine lv_if_ne (tgt := 12) hx hb dX6_share_5 (by decide) (fun c5 => ?_) (fun c5 => ?_)
  · have t5 := tq_ne (k := z2.toInt) (q := (0)) c5 rfl (by decide +kernel)
    have i5 := imz2 t5
    refine lv_aload_n hx hb dX6_share_12 rfl (lv_at hl 0 rfl) ?_
    obtain ⟨y13, ey13, hLy13, hKy13, hGy13⟩ := oQ_6_2 (Sv_at hQ hLp0 hKp0)
    refine p_get (v := .ref y13) hx hb hts inX6 hown hK hP hLp0 hKp0 rfl rfl 2 (by decide) (hts _ pq351) (congrArg (fun q => some (va_rf q)) ey13) dX6_share_13 ?_
    obtain ⟨y16, ey16, hLy16, hKy16, hGy16⟩ := oQ_1_0 (Sv_at hQ hLy13 hKy13)
    refine p_get (v := .ref y16) hx hb hts inX1 hown hK hP hLy13 hKy13 rfl rfl 0 (by decide) (hts _ pq216) (congrArg (fun q => some (va_rf q)) ey16) dX6_share_16 ?_
    refine lv_iload_n hx hb dX6_share_19 rfl (lv_at hl 1 rfl) ?_
    obtain ⟨y20, ey20, hLy20, hKy20, hGy20⟩ := (Sv_at hQ hLy16 hKy16).1 p1.toNatClampNeg (clamp_lt (n := 8) (in_of (by omega) (by omega)))
    have hjy20 : p1.toNatClampNeg < 8 := clamp_lt (i := p1) (n := 8) (in_of (by omega) (by omega))
    refine p_aaldR hx hb hK hP 3 hLy16 hKy16 rfl rfl (in_of (by omega) (by omega)) ey20 dX6_share_20 ?_
    refine lv_astore_n (lv' := [(2, .ref y20), (0, .ref p0), (1, .int p1)]) hx hb dX6_share_21 rfl hl (by decide) rfl (fun ls hl => ?_)
    refine lv_aload_n hx hb dX6_share_22 rfl (lv_at hl 0 rfl) ?_
    refine p_get hx hb hts inX3 hown hK hP hLy20 hKy20 rfl rfl 3 (by decide) (hts _ pq132) rfl dX6_share_23 ?_
    refine lv_topi (fun z23 ez23 => ?_)
    refine lv_aload_n hx hb dX6_share_26 rfl (lv_at hl 0 rfl) ?_
    refine p_get hx hb hts inX3 hown hK hP hLy20 hKy20 rfl rfl 0 (by decide) (hts _ pq119) rfl dX6_share_27 ?_
    refine lv_topi (fun z27 ez27 => ?_)
    have bz27 := oI_3_0 (Iv_at hI hLy20 hKy20)
    rw [← ez27] at bz27
    refine lv_aload_n hx hb dX6_share_30 rfl (lv_at hl 0 rfl) ?_
    refine p_get hx hb hts inX3 hown hK hP hLy20 hKy20 rfl rfl 1 (by decide) (hts _ pq123) rfl dX6_share_31 ?_
    refine lv_topi (fun z31 ez31 => ?_)
    have bz31 := oI_3_1 (Iv_at hI hLy20 hKy20)
    rw [← ez31] at bz31
    refine lv_imul hx hb dX6_share_34 ?_
    refine lv_topi (fun z34 ez34 => ?_)
    refine ro_l (va_runS (As := [.int z23, .int z34]) (rest := []) ⟨hx, hb, hml, hown, hts⟩ (s_X6_bitsOfShare l dC dI cs L K G Q hQ x0 m0 tx tm H.size I J hI z23 z34) (va_cwS 2 hts (gS pq950 pq951 pq74 pq952) rfl rfl rfl (by decide +kernel) ⟨(by rw [hR]; exact (Nat.le_of_ble_eq_true rfl)), (by rw [hR]; exact (Nat.le_of_ble_eq_true rfl))⟩) (sP_S hP hD hK hN) rfl rfl hl.1 rfl (lv_room (Nat.le_of_ble_eq_true rfl)) dX6_share_35 ⟨(by rw [hR]; exact (Nat.le_of_ble_eq_true rfl)), (by rw [hR]; exact (Nat.le_of_ble_eq_true rfl))⟩) hS hP (fun z35 H locs hz35 hP hS => ?_)
    subst hR; subst hQz
    exact W.lret (v := z35) hx hb hr (fun t ht hW => ⟨⟨z35, (), rfl, trivial, trivial⟩, hS.F ht⟩) hS.2.2 dX6_share_38
  · have t5 := tq_eq (k := z2.toInt) (q := (0)) c5 rfl (by decide +kernel)
    refine lv_ldc2 hx hb hown (hts _ pq949) dX6_share_8 ?_
    subst hR; subst hQz
    exact W.lret (v := (-1)) hx hb hr (fun t ht hW => ⟨⟨(-1), (), rfl, trivial, trivial⟩, hS.F ht⟩) hS.2.2 dX6_share_11

set_option maxHeartbeats 4000000 in
set_option maxRecDepth 100000 in
theorem s_X6_alike (l : Launch) (dC : Nat → ClassId) (dI : Nat → Nat → Nat) (cs : Nat → ClassId) (L : List Nat) (K G : Nat → Nat) (Q : Nat → Nat → Option Nat) (hQ : Sv L K G Q) (x0 m0 : Nat) (tx : GT) (tm : GT × Int) (sz : Nat) (I : Nat → Nat → Int32) (J : Nat → Nat → Int64) (hI : Iv L K x0 m0 tx tm I) (p0 : Nat) (hLp0 : p0 ∈ L) (hKp0 : K p0 = 6) (p1 : Int32) (p2 : Int32) (p3 : Int32) : Met l yX6_alike (.code yX6_alike cX6_alike 4 (some .int) :: pw) ({ frames := 4, cells := 0, slots := 0, locals := 109 }) (sP (dC, dI) cs [.ref p0, .int p1, .int p2, .int p3] sz L K I J Q) (va_Qi (fun (r : Int32) (_ : Unit) => True) (fun _ t => sB (dC, dI) cs L K Q (fun I1 J1 => Iv L K x0 m0 tx tm I1 ∧ (∀ b, ¬ (K b = 2 ∨ K b = 5 ∨ K b = 11 ∨ (K b = 3 ∧ G b / 100 = 4)) → I1 b = I b) ∧ (∀ b, K b = 7 ∨ K b = 18 ∨ K b = 19 ∨ K b = 20 ∨ K b = 24 → I1 b = I b) ∧ (∀ σ : Sx, cxA Q I J p0 σ → cxA Q I1 J1 p0 σ) ∧ (∀ b, ¬ (K b = 12 ∧ (G b = 400)) → J1 b = J b)) t) (fun q => q ∈ L ∨ sz ≤ q)) 0 0 (fun q => q ∈ L ∨ sz ≤ q) := by
  refine Met.ofW (cc := cX6_alike) (maxL := 4) (ret := (some .int)) (by decide +kernel) rfl ?_
  intro p e s m args below meth c s₁ B hml hv
  obtain ⟨rfl, hsz, hP, hK, hD0, hN⟩ := hv
  have hx := B.exec
  have hb := B.bytes
  have hr := B.returns
  have hts := fun w (h : w ∈ pw) => atoms_spec (ws := Cond.code yX6_alike cX6_alike 4 (some .int) :: pw) B.pre w (List.mem_cons_of_mem _ h)
  have hown : s.vm.findClass RX6 = some m.cls := findClass_of_methodNamed B.named
  have hlocks := B.notSynchronized
  subst hsz
  have hBB : 999 ≤ tm.2 ∧ tm.2 ≤ 6000000 := hI.2.2.2.2.1
  have dn_I : (∀ b, K b = 7 ∨ K b = 18 ∨ K b = 19 ∨ K b = 20 ∨ K b = 24 → I b = I b) := fun _ _ => rfl
  have dj_J : (∀ b, ¬ (K b = 12 ∧ (G b = 400)) → J b = J b) := fun _ _ => rfl
  have fr_I : ∀ b, ¬ (K b = 2 ∨ K b = 5 ∨ K b = 11 ∨ (K b = 3 ∧ G b / 100 = 4)) → I b = I b := fun _ _ => rfl
  obtain ⟨A, hAe⟩ : ∃ A : Nat → Prop, A = (fun q => q ∈ L ∨ s.heap.size ≤ q) := ⟨_, rfl⟩
  rw [← hAe]
  have hAL : ∀ q, q ∈ L → A q := fun q h => by rw [hAe]; exact Or.inl h
  have hA : ∀ q, s.heap.size ≤ q → A q := fun q h => by rw [hAe]; exact Or.inr h
  have hD : ∀ F, va_D A (va_pl L F) := fun F => (hD0 F).weaken (fun k q hk _ => hAL _ (pl_mem hk))
  obtain ⟨H, hHe⟩ : ∃ H : Heap, H = s.heap := ⟨_, rfl⟩
  have hS : va_S A s.heap H [] := by rw [hHe]; exact va_S.rf
  rw [← hHe] at hP
  have hl := lv_entry ([.ref p0, .int p1, .int p2, .int p3]) (n := 4) (Nat.le_of_ble_eq_true rfl)
  rw [lg_entry_eq]
  generalize (lg_sl ([.ref p0, .int p1, .int p2, .int p3]) ++ List.replicate (4 - (lg_sl ([.ref p0, .int p1, .int p2, .int p3])).length) Slot.unset).toArray = ls at hl ⊢
  have hl : lv_has ls 4 [(0, .ref p0), (1, .int p1), (2, .int p2), (3, .int p3)] := hl
  rw [← hHe]
  refine namedW (fun R Qz hR hQz => ?_)
  refine lv_aload_n hx hb dX6_alike_0 rfl (lv_at hl 0 rfl) ?_
  refine lv_iload_n hx hb dX6_alike_1 rfl (lv_at hl 1 rfl) ?_
  refine ro_i (va_runV (As := [.int p1]) (rest := []) ⟨hx, hb, hml, hown, hts⟩ (s_X6_isMask l dC dI cs L K G Q hQ x0 m0 tx tm H.size I J hI p0 hLp0 hKp0 p1) (cwV 1 hts (gV pq666 pq668 pq4 pq74 pq669) rfl rfl rfl (by decide +kernel) ⟨(by rw [hR]; exact (Nat.le_of_ble_eq_true rfl)), (by rw [hR]; exact (Nat.le_of_ble_eq_true rfl))⟩) (sP_V hP hD hK hN hLp0 hKp0 rfl rfl) rfl rfl hl.1 rfl (lv_room (Nat.le_of_ble_eq_true rfl)) dX6_alike_2 ⟨(by rw [hR]; exact (Nat.le_of_ble_eq_true rfl)), (by rw [hR]; exact (Nat.le_of_ble_eq_true rfl))⟩) hS hP (fun z2 H locs hz2 hP hS => ?_)
  obtain ⟨bz2, imz2, xpz2⟩ := hz2
  refine lv_if_eq (tgt := 24) hx hb dX6_alike_5 (by decide) (fun c5 => ?_) (fun c5 => ?_)
  · have t5 := tq_eq (k := z2.toInt) (q := (0)) c5 rfl (by decide +kernel)
    refine lv_iconst (v := (-1)) hx hb dX6_alike_24 (by decide +kernel) ?_
    subst hR; subst hQz
    exact W.iret (v := (-1)) hx hb hr (fun t ht hW => ⟨⟨(-1), (), rfl, trivial, ⟨I, J, ⟨hI, fr_I, dn_I, (fun σ A => cxA_scr hQ hLp0 hKp0 fr_I (fun _ _ _ => rfl) A), dj_J⟩, by rw [ht]; exact hP⟩⟩, hS.F ht⟩) hS.2.2 dX6_alike_25
  · have t5 := tq_ne (k := z2.toInt) (q := (0)) c5 rfl (by decide +kernel)
    have i5 := imz2 t5
    refine lv_aload_n hx hb dX6_alike_8 rfl (lv_at hl 0 rfl) ?_
    refine lv_iload_n hx hb dX6_alike_9 rfl (lv_at hl 2 rfl) ?_
    refine ro_i (va_runV (As := [.int p2]) (rest := []) ⟨hx, hb, hml, hown, hts⟩ (s_X6_isMask l dC dI cs L K G Q hQ x0 m0 tx tm H.size I J hI p0 hLp0 hKp0 p2) (cwV 1 hts (gV pq666 pq668 pq4 pq74 pq669) rfl rfl rfl (by decide +kernel) ⟨(by rw [hR]; exact (Nat.le_of_ble_eq_true rfl)), (by rw [hR]; exact (Nat.le_of_ble_eq_true rfl))⟩) (sP_V hP hD hK hN hLp0 hKp0 rfl rfl) rfl rfl hl.1 rfl (lv_room (Nat.le_of_ble_eq_true rfl)) dX6_alike_10 ⟨(by rw [hR]; exact (Nat.le_of_ble_eq_true rfl)), (by rw [hR]; exact (Nat.le_of_ble_eq_true rfl))⟩) hS hP (fun z10 H locs hz10 hP hS => ?_)
    obtain ⟨bz10, imz10, xpz10⟩ := hz10
    refine lv_if_eq (tgt := 24) hx hb dX6_alike_13 (by decide) (fun c13 => ?_) (fun c13 => ?_)
    · have t13 := tq_eq (k := z10.toInt) (q := (0)) c13 rfl (by decide +kernel)
      refine lv_iconst (v := (-1)) hx hb dX6_alike_24 (by decide +kernel) ?_
      subst hR; subst hQz
      exact W.iret (v := (-1)) hx hb hr (fun t ht hW => ⟨⟨(-1), (), rfl, trivial, ⟨I, J, ⟨hI, fr_I, dn_I, (fun σ A => cxA_scr hQ hLp0 hKp0 fr_I (fun _ _ _ => rfl) A), dj_J⟩, by rw [ht]; exact hP⟩⟩, hS.F ht⟩) hS.2.2 dX6_alike_25
    · have t13 := tq_ne (k := z10.toInt) (q := (0)) c13 rfl (by decide +kernel)
      have i13 := imz10 t13
      refine lv_iload_n hx hb dX6_alike_16 rfl (lv_at hl 3 rfl) ?_
      refine lv_iconst (v := 3) hx hb dX6_alike_17 (by decide +kernel) ?_
      refine ro_i (va_runS (As := [.int p3, .int 3]) (rest := []) ⟨hx, hb, hml, hown, hts⟩ (s_X6_isFrom0To l dC dI cs L K G Q hQ x0 m0 tx tm H.size I J hI p3 3) (va_cwS 2 hts (gS pq651 pq652 pq74 pq653) rfl rfl rfl (by decide +kernel) ⟨(by rw [hR]; exact (Nat.le_of_ble_eq_true rfl)), (by rw [hR]; exact (Nat.le_of_ble_eq_true rfl))⟩) (sP_S hP hD hK hN) rfl rfl hl.1 rfl (lv_room (Nat.le_of_ble_eq_true rfl)) dX6_alike_18 ⟨(by rw [hR]; exact (Nat.le_of_ble_eq_true rfl)), (by rw [hR]; exact (Nat.le_of_ble_eq_true rfl))⟩) hS hP (fun z18 H locs hz18 hP hS => ?_)
      have cst18_3 : (3 : Int32).toInt = 3 := by decide +kernel
      obtain ⟨bz18, imz18, xpz18⟩ := hz18
      try rw [cst18_3] at xpz18
      refine lv_if_ne (tgt := 26) hx hb dX6_alike_21 (by decide) (fun c21 => ?_) (fun c21 => ?_)
      · have t21 := tq_ne (k := z18.toInt) (q := (0)) c21 rfl (by decide +kernel)
        have i21 := imz18 t21
        refine lv_aload_n hx hb dX6_alike_26 rfl (lv_at hl 0 rfl) ?_
        obtain ⟨y27, ey27, hLy27, hKy27, hGy27⟩ := oQ_6_6 (Sv_at hQ hLp0 hKp0)
        refine p_get (v := .ref y27) hx hb hts inX6 hown hK hP hLp0 hKp0 rfl rfl 6 (by decide) (hts _ pq355) (congrArg (fun q => some (va_rf q)) ey27) dX6_alike_27 ?_
        refine lv_aload_n hx hb dX6_alike_30 rfl (lv_at hl 0 rfl) ?_
        obtain ⟨y31, ey31, hLy31, hKy31, hGy31⟩ := oQ_6_2 (Sv_at hQ hLp0 hKp0)
        refine p_get (v := .ref y31) hx hb hts inX6 hown hK hP hLp0 hKp0 rfl rfl 2 (by decide) (hts _ pq351) (congrArg (fun q => some (va_rf q)) ey31) dX6_alike_31 ?_
        obtain ⟨y34, ey34, hLy34, hKy34, hGy34⟩ := oQ_1_0 (Sv_at hQ hLy31 hKy31)
        refine p_get (v := .ref y34) hx hb hts inX1 hown hK hP hLy31 hKy31 rfl rfl 0 (by decide) (hts _ pq216) (congrArg (fun q => some (va_rf q)) ey34) dX6_alike_34 ?_
        refine lv_iload_n hx hb dX6_alike_37 rfl (lv_at hl 2 rfl) ?_
        obtain ⟨y38, ey38, hLy38, hKy38, hGy38⟩ := (Sv_at hQ hLy34 hKy34).1 p2.toNatClampNeg (clamp_lt (n := 8) (in_of (by omega) (by omega)))
        have hjy38 : p2.toNatClampNeg < 8 := clamp_lt (i := p2) (n := 8) (in_of (by omega) (by omega))
        refine p_aaldR hx hb hK hP 3 hLy34 hKy34 rfl rfl (in_of (by omega) (by omega)) ey38 dX6_alike_38 ?_
        refine lv_iload_n hx hb dX6_alike_39 rfl (lv_at hl 3 rfl) ?_
        refine sw_v (Z := (fun I1 J1 => Iv L K x0 m0 tx tm I1 ∧ (∀ b, ¬ (b = y27) → I1 b = I b) ∧ (okm (I y38 0).toInt (I y38 1).toInt (J (wo Q y38)) → msr (J (wo Q y38)) (I y38 3).toInt (I y38 4).toInt (I y38 5).toInt (I y38 6).toInt (I y38 7).toInt → mkd Q I1 J1 y27 (I y38 0) (I y38 1) (flipD (I y38 0).toInt (I y38 1).toInt p3.toInt (J (wo Q y38)))) ∧ (∀ b, ¬ (K b = 12 ∧ (G b = G y27)) → J1 b = J b))) (va_runV (As := [.ref y38, .int p3]) (rest := []) ⟨hx, hb, hml, hown, hts⟩ (s_X3_becomeFlipped l dC dI cs L K G Q hQ x0 m0 tx tm H.size I J hI y27 hLy27 hKy27 y38 hLy38 hKy38 p3 ⟨by omega, by omega⟩ (by omega)) (cwV 2 hts (gV pq903 pq609 pq610 pq76 pq611) rfl rfl rfl (by decide +kernel) ⟨(by rw [hR]; exact (Nat.le_of_ble_eq_true rfl)), (by rw [hR]; exact (Nat.le_of_ble_eq_true rfl))⟩) (sP_V hP hD hK hN hLy27 hKy27 rfl rfl) rfl rfl hl.1 rfl (lv_room (Nat.le_of_ble_eq_true rfl)) dX6_alike_40 ⟨(by rw [hR]; exact (Nat.le_of_ble_eq_true rfl)), (by rw [hR]; exact (Nat.le_of_ble_eq_true rfl))⟩) hS hAL hA (fun Iz40 Jz40 H locs hz40 hIz40 hP hS => ?_)
        obtain ⟨hIz40, frc40, jz40, djc40⟩ := hIz40
        have dj_Jz40 : (∀ b, ¬ (K b = 12 ∧ (G b = 400)) → Jz40 b = J b) := fun b hc => (djc40 b (fun z => hc (by exact ⟨z.1, by have z2 := z.2; omega⟩))).trans (dj_J b hc)
        have dn_Iz40 : (∀ b, K b = 7 ∨ K b = 18 ∨ K b = 19 ∨ K b = 20 ∨ K b = 24 → Iz40 b = I b) := fun b hc => (frc40 b (fun z => by have q := hKy27; rw [← z] at q; omega)).trans (dn_I b hc)
        have fr_Iz40 : ∀ b, ¬ (K b = 2 ∨ K b = 5 ∨ K b = 11 ∨ (K b = 3 ∧ G b / 100 = 4)) → Iz40 b = I b := fun b q => (frc40 b (fun z => q (by rw [z]; have := hKy27; omega))).trans (fr_I b q)
        refine lv_aload_n hx hb dX6_alike_43 rfl (lv_at hl 0 rfl) ?_
        refine p_get (v := .ref y27) hx hb hts inX6 hown hK hP hLp0 hKp0 rfl rfl 6 (by decide) (hts _ pq355) (congrArg (fun q => some (va_rf q)) ey27) dX6_alike_44 ?_
        refine lv_aload_n hx hb dX6_alike_47 rfl (lv_at hl 0 rfl) ?_
        refine p_get (v := .ref y31) hx hb hts inX6 hown hK hP hLp0 hKp0 rfl rfl 2 (by decide) (hts _ pq351) (congrArg (fun q => some (va_rf q)) ey31) dX6_alike_48 ?_
        refine p_get (v := .ref y34) hx hb hts inX1 hown hK hP hLy31 hKy31 rfl rfl 0 (by decide) (hts _ pq216) (congrArg (fun q => some (va_rf q)) ey34) dX6_alike_51 ?_
        refine lv_iload_n hx hb dX6_alike_54 rfl (lv_at hl 1 rfl) ?_
        obtain ⟨y55, ey55, hLy55, hKy55, hGy55⟩ := (Sv_at hQ hLy34 hKy34).1 p1.toNatClampNeg (clamp_lt (n := 8) (in_of (by omega) (by omega)))
        have hjy55 : p1.toNatClampNeg < 8 := clamp_lt (i := p1) (n := 8) (in_of (by omega) (by omega))
        refine p_aaldR hx hb hK hP 3 hLy34 hKy34 rfl rfl (in_of (by omega) (by omega)) ey55 dX6_alike_55 ?_
        refine ro_i (va_runV (As := [.ref y55]) (rest := []) ⟨hx, hb, hml, hown, hts⟩ (s_X3_isSameAs l dC dI cs L K G Q hQ x0 m0 tx tm H.size Iz40 Jz40 hIz40 y27 hLy27 hKy27 y55 hLy55 hKy55) (cwV 1 hts (gV pq904 pq905 pq906 pq76 pq907) rfl rfl rfl (by decide +kernel) ⟨(by rw [hR]; exact (Nat.le_of_ble_eq_true rfl)), (by rw [hR]; exact (Nat.le_of_ble_eq_true rfl))⟩) (sP_V hP hD hK hN hLy27 hKy27 rfl rfl) rfl rfl hl.1 rfl (lv_room (Nat.le_of_ble_eq_true rfl)) dX6_alike_56 ⟨(by rw [hR]; exact (Nat.le_of_ble_eq_true rfl)), (by rw [hR]; exact (Nat.le_of_ble_eq_true rfl))⟩) hS hP (fun z56 H locs hz56 hP hS => ?_)
        have bz56 := hz56
        refine lv_if_eq (tgt := 66) hx hb dX6_alike_59 (by decide) (fun c59 => ?_) (fun c59 => ?_)
        · have t59 := tq_eq (k := z56.toInt) (q := (0)) c59 rfl (by decide +kernel)
          refine lv_iconst (v := 0) hx hb dX6_alike_66 (by decide +kernel) ?_
          subst hR; subst hQz
          exact W.iret (v := 0) hx hb hr (fun t ht hW => ⟨⟨0, (), rfl, trivial, ⟨Iz40, Jz40, ⟨hIz40, fr_Iz40, dn_Iz40, (fun σ A => cxA_scr hQ hLp0 hKp0 fr_Iz40 (fun b h1 h2 => dj_Jz40 b (fun z => h2 (by omega))) A), dj_Jz40⟩, by rw [ht]; exact hP⟩⟩, hS.F ht⟩) hS.2.2 dX6_alike_67
        · have t59 := tq_ne (k := z56.toInt) (q := (0)) c59 rfl (by decide +kernel)
          refine lv_iconst (v := 1) hx hb dX6_alike_62 (by decide +kernel) ?_
          refine lv_goto (tgt := 67) hx hb dX6_alike_63 (by decide) ?_
          subst hR; subst hQz
          exact W.iret (v := 1) hx hb hr (fun t ht hW => ⟨⟨1, (), rfl, trivial, ⟨Iz40, Jz40, ⟨hIz40, fr_Iz40, dn_Iz40, (fun σ A => cxA_scr hQ hLp0 hKp0 fr_Iz40 (fun b h1 h2 => dj_Jz40 b (fun z => h2 (by omega))) A), dj_Jz40⟩, by rw [ht]; exact hP⟩⟩, hS.F ht⟩) hS.2.2 dX6_alike_67
      · have t21 := tq_eq (k := z18.toInt) (q := (0)) c21 rfl (by decide +kernel)
        refine lv_iconst (v := (-1)) hx hb dX6_alike_24 (by decide +kernel) ?_
        subst hR; subst hQz
        exact W.iret (v := (-1)) hx hb hr (fun t ht hW => ⟨⟨(-1), (), rfl, trivial, ⟨I, J, ⟨hI, fr_I, dn_I, (fun σ A => cxA_scr hQ hLp0 hKp0 fr_I (fun _ _ _ => rfl) A), dj_J⟩, by rw [ht]; exact hP⟩⟩, hS.F ht⟩) hS.2.2 dX6_alike_25
