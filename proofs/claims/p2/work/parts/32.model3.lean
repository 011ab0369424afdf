def yX7_bodiesAt : MethodName := ⟨RX7, "bodiesAt", "(II)I"⟩
def yX7_masksMeet : MethodName := ⟨RX7, "masksMeet", "(IIII)Z"⟩
def yX7_areLike : MethodName := ⟨RX7, "areLike", "(III)Z"⟩
def yX7_within : MethodName := ⟨RX7, "within", "(IIIII)I"⟩
def yX7_farthest : MethodName := ⟨RX7, "farthest", "(I)I"⟩
def yX7_dotsOfAll : MethodName := ⟨RX7, "dotsOfAll", "()I"⟩
def yX7_row : MethodName := ⟨RX7, "row", "(III)J"⟩
abbrev cX7_row : ByteArray := prog_9_method_91_code
abbrev cX7_bodiesAt : ByteArray := prog_9_method_100_code
abbrev cX7_masksMeet : ByteArray := prog_9_method_111_code
abbrev cX7_areLike : ByteArray := prog_9_method_113_code
abbrev cX7_within : ByteArray := prog_9_method_116_code
abbrev cX7_farthest : ByteArray := prog_9_method_119_code
abbrev cX7_dotsOfAll : ByteArray := prog_9_method_124_code
abbrev cX7_alike : ByteArray := prog_9_method_123_code
abbrev cX7_at : ByteArray := prog_9_method_101_code
abbrev cX7_best : ByteArray := prog_9_method_106_code
abbrev cX7_body : ByteArray := prog_9_method_92_code
abbrev cX7_common : ByteArray := prog_9_method_93_code
abbrev cX7_contact : ByteArray := prog_9_method_95_code
abbrev cX7_count : ByteArray := prog_9_method_125_code
abbrev cX7_dense : ByteArray := prog_9_method_117_code
abbrev cX7_digest : ByteArray := prog_9_method_122_code
abbrev cX7_dot : ByteArray := prog_9_method_90_code
abbrev cX7_dots : ByteArray := prog_9_method_118_code
abbrev cX7_edgeOf : ByteArray := prog_9_method_88_code
abbrev cX7_first : ByteArray := prog_9_method_102_code
abbrev cX7_gap : ByteArray := prog_9_method_104_code
abbrev cX7_letter : ByteArray := prog_9_method_115_code
abbrev cX7_like : ByteArray := prog_9_method_114_code
abbrev cX7_meet : ByteArray := prog_9_method_94_code
abbrev cX7_shifts : ByteArray := prog_9_method_112_code
abbrev cX7_slope : ByteArray := prog_9_method_107_code
abbrev cX7_spread : ByteArray := prog_9_method_120_code
abbrev cX7_touching : ByteArray := prog_9_method_99_code
def yX7_alike : MethodName := ⟨RX7, "alike", "(III)I"⟩
def yX7_at : MethodName := ⟨RX7, "at", "(II)I"⟩
def yX7_best : MethodName := ⟨RX7, "best", "(III)I"⟩
def yX7_body : MethodName := ⟨RX7, "body", "(II)I"⟩
def yX7_common : MethodName := ⟨RX7, "common", "(II)I"⟩
def yX7_contact : MethodName := ⟨RX7, "contact", "(I)I"⟩
def yX7_count : MethodName := ⟨RX7, "count", "(I)I"⟩
def yX7_dense : MethodName := ⟨RX7, "dense", "(IIII)I"⟩
def yX7_digest : MethodName := ⟨RX7, "digest", "()J"⟩
def yX7_dot : MethodName := ⟨RX7, "dot", "(III)I"⟩
def yX7_dots : MethodName := ⟨RX7, "dots", "(IZI)I"⟩
def yX7_edgeOf : MethodName := ⟨RX7, "edgeOf", "(I)I"⟩
def yX7_first : MethodName := ⟨RX7, "first", "(III)I"⟩
def yX7_gap : MethodName := ⟨RX7, "gap", "(III)I"⟩
def yX7_letter : MethodName := ⟨RX7, "letter", "(II)I"⟩
def yX7_like : MethodName := ⟨RX7, "like", "(I)I"⟩
def yX7_meet : MethodName := ⟨RX7, "meet", "(III)I"⟩
def yX7_shifts : MethodName := ⟨RX7, "shifts", "(II)I"⟩
def yX7_slope : MethodName := ⟨RX7, "slope", "(III)I"⟩
def yX7_spread : MethodName := ⟨RX7, "spread", "(II)I"⟩
def yX7_touching : MethodName := ⟨RX7, "touching", "(I)I"⟩
theorem dX7_alike_0 : decode cX7_alike 0 = .ok (.aload_n 0, 1) := by decide +kernel
theorem dX7_alike_1 : decode cX7_alike 1 = .ok (.iload_n 1, 1) := by decide +kernel
theorem dX7_alike_2 : decode cX7_alike 2 = .ok (.invokevirtual 301, 3) := by decide +kernel
theorem dX7_alike_5 : decode cX7_alike 5 = .ok (.ifCond .eq 36, 3) := by decide +kernel
theorem dX7_alike_8 : decode cX7_alike 8 = .ok (.aload_n 0, 1) := by decide +kernel
theorem dX7_alike_9 : decode cX7_alike 9 = .ok (.iload_n 2, 1) := by decide +kernel
theorem dX7_alike_10 : decode cX7_alike 10 = .ok (.invokevirtual 301, 3) := by decide +kernel
theorem dX7_alike_13 : decode cX7_alike 13 = .ok (.ifCond .eq 28, 3) := by decide +kernel
theorem dX7_alike_16 : decode cX7_alike 16 = .ok (.iload_n 3, 1) := by decide +kernel
theorem dX7_alike_17 : decode cX7_alike 17 = .ok (.i2l, 1) := by decide +kernel
theorem dX7_alike_18 : decode cX7_alike 18 = .ok (.lconst 0, 1) := by decide +kernel
theorem dX7_alike_19 : decode cX7_alike 19 = .ok (.ldc2_w 289, 3) := by decide +kernel
theorem dX7_alike_22 : decode cX7_alike 22 = .ok (.invokestatic 96, 3) := by decide +kernel
theorem dX7_alike_25 : decode cX7_alike 25 = .ok (.ifCond .eq 16, 3) := by decide +kernel
theorem dX7_alike_28 : decode cX7_alike 28 = .ok (.aload_n 0, 1) := by decide +kernel
theorem dX7_alike_29 : decode cX7_alike 29 = .ok (.iload_n 1, 1) := by decide +kernel
theorem dX7_alike_30 : decode cX7_alike 30 = .ok (.iload_n 2, 1) := by decide +kernel
theorem dX7_alike_31 : decode cX7_alike 31 = .ok (.iload_n 3, 1) := by decide +kernel
theorem dX7_alike_32 : decode cX7_alike 32 = .ok (.invokevirtual 416, 3) := by decide +kernel
theorem dX7_alike_35 : decode cX7_alike 35 = .ok (.invokestatic 127, 3) := by decide +kernel
theorem dX7_alike_38 : decode cX7_alike 38 = .ok (.goto 4, 3) := by decide +kernel
theorem dX7_alike_41 : decode cX7_alike 41 = .ok (.iconst (-1), 1) := by decide +kernel
theorem dX7_alike_42 : decode cX7_alike 42 = .ok (.ireturn, 1) := by decide +kernel
theorem dX7_areLike_0 : decode cX7_areLike 0 = .ok (.aload_n 0, 1) := by decide +kernel
theorem dX7_areLike_1 : decode cX7_areLike 1 = .ok (.iload_n 1, 1) := by decide +kernel
theorem dX7_areLike_2 : decode cX7_areLike 2 = .ok (.invokevirtual 202, 3) := by decide +kernel
theorem dX7_areLike_5 : decode cX7_areLike 5 = .ok (.aload_n 0, 1) := by decide +kernel
theorem dX7_areLike_6 : decode cX7_areLike 6 = .ok (.iload_n 2, 1) := by decide +kernel
theorem dX7_areLike_7 : decode cX7_areLike 7 = .ok (.invokevirtual 202, 3) := by decide +kernel
theorem dX7_areLike_10 : decode cX7_areLike 10 = .ok (.if_icmp .ne 16, 3) := by decide +kernel
theorem dX7_areLike_13 : decode cX7_areLike 13 = .ok (.aload_n 0, 1) := by decide +kernel
theorem dX7_areLike_14 : decode cX7_areLike 14 = .ok (.iload_n 1, 1) := by decide +kernel
theorem dX7_areLike_15 : decode cX7_areLike 15 = .ok (.invokevirtual 205, 3) := by decide +kernel
theorem dX7_areLike_18 : decode cX7_areLike 18 = .ok (.aload_n 0, 1) := by decide +kernel
theorem dX7_areLike_19 : decode cX7_areLike 19 = .ok (.iload_n 2, 1) := by decide +kernel
theorem dX7_areLike_20 : decode cX7_areLike 20 = .ok (.invokevirtual 205, 3) := by decide +kernel
theorem dX7_areLike_23 : decode cX7_areLike 23 = .ok (.if_icmp .eq 5, 3) := by decide +kernel
theorem dX7_areLike_26 : decode cX7_areLike 26 = .ok (.iconst 0, 1) := by decide +kernel
theorem dX7_areLike_27 : decode cX7_areLike 27 = .ok (.ireturn, 1) := by decide +kernel
theorem dX7_areLike_28 : decode cX7_areLike 28 = .ok (.iconst 0, 1) := by decide +kernel
theorem dX7_areLike_29 : decode cX7_areLike 29 = .ok (.istore 4, 2) := by decide +kernel
theorem dX7_areLike_31 : decode cX7_areLike 31 = .ok (.iload 4, 2) := by decide +kernel
theorem dX7_areLike_33 : decode cX7_areLike 33 = .ok (.aload_n 0, 1) := by decide +kernel
theorem dX7_areLike_34 : decode cX7_areLike 34 = .ok (.iload_n 1, 1) := by decide +kernel
theorem dX7_areLike_35 : decode cX7_areLike 35 = .ok (.invokevirtual 205, 3) := by decide +kernel
theorem dX7_areLike_38 : decode cX7_areLike 38 = .ok (.if_icmp .ge 89, 3) := by decide +kernel
theorem dX7_areLike_41 : decode cX7_areLike 41 = .ok (.iconst 0, 1) := by decide +kernel
theorem dX7_areLike_42 : decode cX7_areLike 42 = .ok (.istore 5, 2) := by decide +kernel
theorem dX7_areLike_44 : decode cX7_areLike 44 = .ok (.iload 5, 2) := by decide +kernel
theorem dX7_areLike_46 : decode cX7_areLike 46 = .ok (.aload_n 0, 1) := by decide +kernel
theorem dX7_areLike_47 : decode cX7_areLike 47 = .ok (.iload_n 1, 1) := by decide +kernel
theorem dX7_areLike_48 : decode cX7_areLike 48 = .ok (.invokevirtual 202, 3) := by decide +kernel
theorem dX7_areLike_51 : decode cX7_areLike 51 = .ok (.if_icmp .ge 70, 3) := by decide +kernel
theorem dX7_areLike_54 : decode cX7_areLike 54 = .ok (.aload_n 0, 1) := by decide +kernel
theorem dX7_areLike_55 : decode cX7_areLike 55 = .ok (.iload_n 1, 1) := by decide +kernel
theorem dX7_areLike_56 : decode cX7_areLike 56 = .ok (.iload 5, 2) := by decide +kernel
theorem dX7_areLike_58 : decode cX7_areLike 58 = .ok (.iload 4, 2) := by decide +kernel
theorem dX7_areLike_60 : decode cX7_areLike 60 = .ok (.invokevirtual 215, 3) := by decide +kernel
theorem dX7_areLike_63 : decode cX7_areLike 63 = .ok (.aload_n 0, 1) := by decide +kernel
theorem dX7_areLike_64 : decode cX7_areLike 64 = .ok (.iload_n 2, 1) := by decide +kernel
theorem dX7_areLike_65 : decode cX7_areLike 65 = .ok (.iload_n 3, 1) := by decide +kernel
theorem dX7_areLike_66 : decode cX7_areLike 66 = .ok (.iconst 2, 1) := by decide +kernel
theorem dX7_areLike_67 : decode cX7_areLike 67 = .ok (.irem, 1) := by decide +kernel
theorem dX7_areLike_68 : decode cX7_areLike 68 = .ok (.iconst 1, 1) := by decide +kernel
theorem dX7_areLike_69 : decode cX7_areLike 69 = .ok (.if_icmp .ne 16, 3) := by decide +kernel
theorem dX7_areLike_72 : decode cX7_areLike 72 = .ok (.aload_n 0, 1) := by decide +kernel
theorem dX7_areLike_73 : decode cX7_areLike 73 = .ok (.iload_n 1, 1) := by decide +kernel
theorem dX7_areLike_74 : decode cX7_areLike 74 = .ok (.invokevirtual 202, 3) := by decide +kernel
theorem dX7_areLike_77 : decode cX7_areLike 77 = .ok (.iconst 1, 1) := by decide +kernel
theorem dX7_areLike_78 : decode cX7_areLike 78 = .ok (.isub, 1) := by decide +kernel
theorem dX7_areLike_79 : decode cX7_areLike 79 = .ok (.iload 5, 2) := by decide +kernel
theorem dX7_areLike_81 : decode cX7_areLike 81 = .ok (.isub, 1) := by decide +kernel
theorem dX7_areLike_82 : decode cX7_areLike 82 = .ok (.goto 5, 3) := by decide +kernel
theorem dX7_areLike_85 : decode cX7_areLike 85 = .ok (.iload 5, 2) := by decide +kernel
theorem dX7_areLike_87 : decode cX7_areLike 87 = .ok (.iload_n 3, 1) := by decide +kernel
theorem dX7_areLike_88 : decode cX7_areLike 88 = .ok (.iconst 1, 1) := by decide +kernel
theorem dX7_areLike_89 : decode cX7_areLike 89 = .ok (.if_icmp .le 16, 3) := by decide +kernel
theorem dX7_areLike_92 : decode cX7_areLike 92 = .ok (.aload_n 0, 1) := by decide +kernel
theorem dX7_areLike_93 : decode cX7_areLike 93 = .ok (.iload_n 1, 1) := by decide +kernel
theorem dX7_areLike_94 : decode cX7_areLike 94 = .ok (.invokevirtual 205, 3) := by decide +kernel
theorem dX7_areLike_97 : decode cX7_areLike 97 = .ok (.iconst 1, 1) := by decide +kernel
theorem dX7_areLike_98 : decode cX7_areLike 98 = .ok (.isub, 1) := by decide +kernel
theorem dX7_areLike_99 : decode cX7_areLike 99 = .ok (.iload 4, 2) := by decide +kernel
theorem dX7_areLike_101 : decode cX7_areLike 101 = .ok (.isub, 1) := by decide +kernel
theorem dX7_areLike_102 : decode cX7_areLike 102 = .ok (.goto 5, 3) := by decide +kernel
theorem dX7_areLike_105 : decode cX7_areLike 105 = .ok (.iload 4, 2) := by decide +kernel
theorem dX7_areLike_107 : decode cX7_areLike 107 = .ok (.invokevirtual 215, 3) := by decide +kernel
theorem dX7_areLike_110 : decode cX7_areLike 110 = .ok (.if_icmp .eq 5, 3) := by decide +kernel
theorem dX7_areLike_113 : decode cX7_areLike 113 = .ok (.iconst 0, 1) := by decide +kernel
theorem dX7_areLike_114 : decode cX7_areLike 114 = .ok (.ireturn, 1) := by decide +kernel
theorem dX7_areLike_115 : decode cX7_areLike 115 = .ok (.iinc 5 1, 3) := by decide +kernel
theorem dX7_areLike_118 : decode cX7_areLike 118 = .ok (.goto (-74), 3) := by decide +kernel
theorem dX7_areLike_121 : decode cX7_areLike 121 = .ok (.iinc 4 1, 3) := by decide +kernel
theorem dX7_areLike_124 : decode cX7_areLike 124 = .ok (.goto (-93), 3) := by decide +kernel
theorem dX7_areLike_127 : decode cX7_areLike 127 = .ok (.iconst 1, 1) := by decide +kernel
theorem dX7_areLike_128 : decode cX7_areLike 128 = .ok (.ireturn, 1) := by decide +kernel
theorem dX7_at_0 : decode cX7_at 0 = .ok (.aload_n 0, 1) := by decide +kernel
theorem dX7_at_1 : decode cX7_at 1 = .ok (.iload_n 1, 1) := by decide +kernel
theorem dX7_at_2 : decode cX7_at 2 = .ok (.iload_n 2, 1) := by decide +kernel
theorem dX7_at_3 : decode cX7_at 3 = .ok (.invokevirtual 399, 3) := by decide +kernel
theorem dX7_at_6 : decode cX7_at 6 = .ok (.ireturn, 1) := by decide +kernel
theorem dX7_best_0 : decode cX7_best 0 = .ok (.aload_n 0, 1) := by decide +kernel
theorem dX7_best_1 : decode cX7_best 1 = .ok (.iload_n 1, 1) := by decide +kernel
theorem dX7_best_2 : decode cX7_best 2 = .ok (.iload_n 2, 1) := by decide +kernel
theorem dX7_best_3 : decode cX7_best 3 = .ok (.invokevirtual 382, 3) := by decide +kernel
theorem dX7_best_6 : decode cX7_best 6 = .ok (.ifCond .eq 15, 3) := by decide +kernel
theorem dX7_best_9 : decode cX7_best 9 = .ok (.iload_n 3, 1) := by decide +kernel
theorem dX7_best_10 : decode cX7_best 10 = .ok (.i2l, 1) := by decide +kernel
theorem dX7_best_11 : decode cX7_best 11 = .ok (.lconst 0, 1) := by decide +kernel
theorem dX7_best_12 : decode cX7_best 12 = .ok (.ldc2_w 394, 3) := by decide +kernel
theorem dX7_best_15 : decode cX7_best 15 = .ok (.invokestatic 96, 3) := by decide +kernel
theorem dX7_best_18 : decode cX7_best 18 = .ok (.ifCond .ne 7, 3) := by decide +kernel
theorem dX7_best_21 : decode cX7_best 21 = .ok (.sipush (-2000), 3) := by decide +kernel
theorem dX7_best_24 : decode cX7_best 24 = .ok (.ireturn, 1) := by decide +kernel
theorem dX7_best_25 : decode cX7_best 25 = .ok (.aload_n 0, 1) := by decide +kernel
theorem dX7_best_26 : decode cX7_best 26 = .ok (.invokevirtual 331, 3) := by decide +kernel
theorem dX7_best_29 : decode cX7_best 29 = .ok (.iconst 0, 1) := by decide +kernel
theorem dX7_best_30 : decode cX7_best 30 = .ok (.istore 4, 2) := by decide +kernel
theorem dX7_best_32 : decode cX7_best 32 = .ok (.aload_n 0, 1) := by decide +kernel
theorem dX7_best_33 : decode cX7_best 33 = .ok (.iload_n 1, 1) := by decide +kernel
theorem dX7_best_34 : decode cX7_best 34 = .ok (.iconst 1, 1) := by decide +kernel
theorem dX7_best_35 : decode cX7_best 35 = .ok (.invokevirtual 199, 3) := by decide +kernel
theorem dX7_best_38 : decode cX7_best 38 = .ok (.istore 5, 2) := by decide +kernel
theorem dX7_best_40 : decode cX7_best 40 = .ok (.aload_n 0, 1) := by decide +kernel
theorem dX7_best_41 : decode cX7_best 41 = .ok (.iload_n 1, 1) := by decide +kernel
theorem dX7_best_42 : decode cX7_best 42 = .ok (.iconst 2, 1) := by decide +kernel
theorem dX7_best_43 : decode cX7_best 43 = .ok (.invokevirtual 199, 3) := by decide +kernel
theorem dX7_best_46 : decode cX7_best 46 = .ok (.istore 6, 2) := by decide +kernel
theorem dX7_best_48 : decode cX7_best 48 = .ok (.aload_n 0, 1) := by decide +kernel
theorem dX7_best_49 : decode cX7_best 49 = .ok (.iload_n 2, 1) := by decide +kernel
theorem dX7_best_50 : decode cX7_best 50 = .ok (.iconst 2, 1) := by decide +kernel
theorem dX7_best_51 : decode cX7_best 51 = .ok (.invokevirtual 199, 3) := by decide +kernel
theorem dX7_best_54 : decode cX7_best 54 = .ok (.aload_n 0, 1) := by decide +kernel
theorem dX7_best_55 : decode cX7_best 55 = .ok (.aload_n 0, 1) := by decide +kernel
theorem dX7_best_56 : decode cX7_best 56 = .ok (.iload_n 1, 1) := by decide +kernel
theorem dX7_best_57 : decode cX7_best 57 = .ok (.invokevirtual 212, 3) := by decide +kernel
theorem dX7_best_60 : decode cX7_best 60 = .ok (.invokevirtual 205, 3) := by decide +kernel
theorem dX7_best_63 : decode cX7_best 63 = .ok (.isub, 1) := by decide +kernel
theorem dX7_best_64 : decode cX7_best 64 = .ok (.iconst 1, 1) := by decide +kernel
theorem dX7_best_65 : decode cX7_best 65 = .ok (.iadd, 1) := by decide +kernel
theorem dX7_best_66 : decode cX7_best 66 = .ok (.istore 7, 2) := by decide +kernel
theorem dX7_best_68 : decode cX7_best 68 = .ok (.iload 7, 2) := by decide +kernel
theorem dX7_best_70 : decode cX7_best 70 = .ok (.aload_n 0, 1) := by decide +kernel
theorem dX7_best_71 : decode cX7_best 71 = .ok (.iload_n 2, 1) := by decide +kernel
theorem dX7_best_72 : decode cX7_best 72 = .ok (.iconst 2, 1) := by decide +kernel
theorem dX7_best_73 : decode cX7_best 73 = .ok (.invokevirtual 199, 3) := by decide +kernel
theorem dX7_best_76 : decode cX7_best 76 = .ok (.aload_n 0, 1) := by decide +kernel
theorem dX7_best_77 : decode cX7_best 77 = .ok (.aload_n 0, 1) := by decide +kernel
theorem dX7_best_78 : decode cX7_best 78 = .ok (.iload_n 2, 1) := by decide +kernel
theorem dX7_best_79 : decode cX7_best 79 = .ok (.invokevirtual 212, 3) := by decide +kernel
theorem dX7_best_82 : decode cX7_best 82 = .ok (.invokevirtual 205, 3) := by decide +kernel
theorem dX7_best_85 : decode cX7_best 85 = .ok (.iadd, 1) := by decide +kernel
theorem dX7_best_86 : decode cX7_best 86 = .ok (.if_icmp .ge 101, 3) := by decide +kernel
theorem dX7_best_89 : decode cX7_best 89 = .ok (.aload_n 0, 1) := by decide +kernel
theorem dX7_best_90 : decode cX7_best 90 = .ok (.iload_n 2, 1) := by decide +kernel
theorem dX7_best_91 : decode cX7_best 91 = .ok (.iconst 1, 1) := by decide +kernel
theorem dX7_best_92 : decode cX7_best 92 = .ok (.invokevirtual 199, 3) := by decide +kernel
theorem dX7_best_95 : decode cX7_best 95 = .ok (.aload_n 0, 1) := by decide +kernel
theorem dX7_best_96 : decode cX7_best 96 = .ok (.aload_n 0, 1) := by decide +kernel
theorem dX7_best_97 : decode cX7_best 97 = .ok (.iload_n 1, 1) := by decide +kernel
theorem dX7_best_98 : decode cX7_best 98 = .ok (.invokevirtual 212, 3) := by decide +kernel
theorem dX7_best_101 : decode cX7_best 101 = .ok (.invokevirtual 202, 3) := by decide +kernel
theorem dX7_best_104 : decode cX7_best 104 = .ok (.isub, 1) := by decide +kernel
theorem dX7_best_105 : decode cX7_best 105 = .ok (.iconst 1, 1) := by decide +kernel
theorem dX7_best_106 : decode cX7_best 106 = .ok (.iadd, 1) := by decide +kernel
theorem dX7_best_107 : decode cX7_best 107 = .ok (.istore 8, 2) := by decide +kernel
theorem dX7_best_109 : decode cX7_best 109 = .ok (.iload 8, 2) := by decide +kernel
theorem dX7_best_111 : decode cX7_best 111 = .ok (.aload_n 0, 1) := by decide +kernel
theorem dX7_best_112 : decode cX7_best 112 = .ok (.iload_n 2, 1) := by decide +kernel
theorem dX7_best_113 : decode cX7_best 113 = .ok (.iconst 1, 1) := by decide +kernel
theorem dX7_best_114 : decode cX7_best 114 = .ok (.invokevirtual 199, 3) := by decide +kernel
theorem dX7_best_117 : decode cX7_best 117 = .ok (.aload_n 0, 1) := by decide +kernel
theorem dX7_best_118 : decode cX7_best 118 = .ok (.aload_n 0, 1) := by decide +kernel
theorem dX7_best_119 : decode cX7_best 119 = .ok (.iload_n 2, 1) := by decide +kernel
theorem dX7_best_120 : decode cX7_best 120 = .ok (.invokevirtual 212, 3) := by decide +kernel
theorem dX7_best_123 : decode cX7_best 123 = .ok (.invokevirtual 202, 3) := by decide +kernel
theorem dX7_best_126 : decode cX7_best 126 = .ok (.iadd, 1) := by decide +kernel
theorem dX7_best_127 : decode cX7_best 127 = .ok (.if_icmp .ge 54, 3) := by decide +kernel
theorem dX7_best_130 : decode cX7_best 130 = .ok (.aload_n 0, 1) := by decide +kernel
theorem dX7_best_131 : decode cX7_best 131 = .ok (.iload_n 1, 1) := by decide +kernel
theorem dX7_best_132 : decode cX7_best 132 = .ok (.iload_n 2, 1) := by decide +kernel
theorem dX7_best_133 : decode cX7_best 133 = .ok (.iload 8, 2) := by decide +kernel
theorem dX7_best_135 : decode cX7_best 135 = .ok (.aload_n 0, 1) := by decide +kernel
theorem dX7_best_136 : decode cX7_best 136 = .ok (.iload_n 1, 1) := by decide +kernel
theorem dX7_best_137 : decode cX7_best 137 = .ok (.iconst 1, 1) := by decide +kernel
theorem dX7_best_138 : decode cX7_best 138 = .ok (.invokevirtual 199, 3) := by decide +kernel
theorem dX7_best_141 : decode cX7_best 141 = .ok (.isub, 1) := by decide +kernel
theorem dX7_best_142 : decode cX7_best 142 = .ok (.iload 7, 2) := by decide +kernel
theorem dX7_best_144 : decode cX7_best 144 = .ok (.aload_n 0, 1) := by decide +kernel
theorem dX7_best_145 : decode cX7_best 145 = .ok (.iload_n 1, 1) := by decide +kernel
theorem dX7_best_146 : decode cX7_best 146 = .ok (.iconst 2, 1) := by decide +kernel
theorem dX7_best_147 : decode cX7_best 147 = .ok (.invokevirtual 199, 3) := by decide +kernel
theorem dX7_best_150 : decode cX7_best 150 = .ok (.isub, 1) := by decide +kernel
theorem dX7_best_151 : decode cX7_best 151 = .ok (.invokevirtual 385, 3) := by decide +kernel
theorem dX7_best_154 : decode cX7_best 154 = .ok (.istore 9, 2) := by decide +kernel
theorem dX7_best_156 : decode cX7_best 156 = .ok (.iload 9, 2) := by decide +kernel
theorem dX7_best_158 : decode cX7_best 158 = .ok (.iload 4, 2) := by decide +kernel
theorem dX7_best_160 : decode cX7_best 160 = .ok (.if_icmp .le 15, 3) := by decide +kernel
theorem dX7_best_163 : decode cX7_best 163 = .ok (.iload 9, 2) := by decide +kernel
theorem dX7_best_165 : decode cX7_best 165 = .ok (.istore 4, 2) := by decide +kernel
theorem dX7_best_167 : decode cX7_best 167 = .ok (.iload 8, 2) := by decide +kernel
theorem dX7_best_169 : decode cX7_best 169 = .ok (.istore 5, 2) := by decide +kernel
theorem dX7_best_171 : decode cX7_best 171 = .ok (.iload 7, 2) := by decide +kernel
theorem dX7_best_173 : decode cX7_best 173 = .ok (.istore 6, 2) := by decide +kernel
theorem dX7_best_175 : decode cX7_best 175 = .ok (.iinc 8 1, 3) := by decide +kernel
theorem dX7_best_178 : decode cX7_best 178 = .ok (.goto (-69), 3) := by decide +kernel
theorem dX7_best_181 : decode cX7_best 181 = .ok (.iinc 7 1, 3) := by decide +kernel
theorem dX7_best_184 : decode cX7_best 184 = .ok (.goto (-116), 3) := by decide +kernel
theorem dX7_best_187 : decode cX7_best 187 = .ok (.iload_n 3, 1) := by decide +kernel
theorem dX7_best_188 : decode cX7_best 188 = .ok (.ifCond .ne 8, 3) := by decide +kernel
theorem dX7_best_191 : decode cX7_best 191 = .ok (.iload 4, 2) := by decide +kernel
theorem dX7_best_193 : decode cX7_best 193 = .ok (.goto 15, 3) := by decide +kernel
theorem dX7_best_196 : decode cX7_best 196 = .ok (.iload_n 3, 1) := by decide +kernel
theorem dX7_best_197 : decode cX7_best 197 = .ok (.iconst 1, 1) := by decide +kernel
theorem dX7_best_198 : decode cX7_best 198 = .ok (.if_icmp .ne 8, 3) := by decide +kernel
theorem dX7_best_201 : decode cX7_best 201 = .ok (.iload 5, 2) := by decide +kernel
theorem dX7_best_203 : decode cX7_best 203 = .ok (.goto 5, 3) := by decide +kernel
theorem dX7_best_206 : decode cX7_best 206 = .ok (.iload 6, 2) := by decide +kernel
theorem dX7_best_208 : decode cX7_best 208 = .ok (.ireturn, 1) := by decide +kernel
theorem dX7_bodiesAt_0 : decode cX7_bodiesAt 0 = .ok (.iconst 0, 1) := by decide +kernel
theorem dX7_bodiesAt_1 : decode cX7_bodiesAt 1 = .ok (.istore_n 3, 1) := by decide +kernel
theorem dX7_bodiesAt_2 : decode cX7_bodiesAt 2 = .ok (.iconst 0, 1) := by decide +kernel
theorem dX7_bodiesAt_3 : decode cX7_bodiesAt 3 = .ok (.istore 4, 2) := by decide +kernel
theorem dX7_bodiesAt_5 : decode cX7_bodiesAt 5 = .ok (.iload 4, 2) := by decide +kernel
theorem dX7_bodiesAt_7 : decode cX7_bodiesAt 7 = .ok (.aload_n 0, 1) := by decide +kernel
theorem dX7_bodiesAt_8 : decode cX7_bodiesAt 8 = .ok (.getfield 9, 3) := by decide +kernel
theorem dX7_bodiesAt_11 : decode cX7_bodiesAt 11 = .ok (.iconst 1, 1) := by decide +kernel
theorem dX7_bodiesAt_12 : decode cX7_bodiesAt 12 = .ok (.iaload, 1) := by decide +kernel
theorem dX7_bodiesAt_13 : decode cX7_bodiesAt 13 = .ok (.if_icmp .ge 31, 3) := by decide +kernel
theorem dX7_bodiesAt_16 : decode cX7_bodiesAt 16 = .ok (.iload_n 3, 1) := by decide +kernel
theorem dX7_bodiesAt_17 : decode cX7_bodiesAt 17 = .ok (.aload_n 0, 1) := by decide +kernel
theorem dX7_bodiesAt_18 : decode cX7_bodiesAt 18 = .ok (.iload 4, 2) := by decide +kernel
theorem dX7_bodiesAt_20 : decode cX7_bodiesAt 20 = .ok (.iload_n 1, 1) := by decide +kernel
theorem dX7_bodiesAt_21 : decode cX7_bodiesAt 21 = .ok (.iload_n 2, 1) := by decide +kernel
theorem dX7_bodiesAt_22 : decode cX7_bodiesAt 22 = .ok (.invokevirtual 388, 3) := by decide +kernel
theorem dX7_bodiesAt_25 : decode cX7_bodiesAt 25 = .ok (.ifCond .eq 10, 3) := by decide +kernel
theorem dX7_bodiesAt_28 : decode cX7_bodiesAt 28 = .ok (.iconst 1, 1) := by decide +kernel
theorem dX7_bodiesAt_29 : decode cX7_bodiesAt 29 = .ok (.iload 4, 2) := by decide +kernel
theorem dX7_bodiesAt_31 : decode cX7_bodiesAt 31 = .ok (.ishl, 1) := by decide +kernel
theorem dX7_bodiesAt_32 : decode cX7_bodiesAt 32 = .ok (.goto 4, 3) := by decide +kernel
theorem dX7_bodiesAt_35 : decode cX7_bodiesAt 35 = .ok (.iconst 0, 1) := by decide +kernel
theorem dX7_bodiesAt_36 : decode cX7_bodiesAt 36 = .ok (.ior, 1) := by decide +kernel
theorem dX7_bodiesAt_37 : decode cX7_bodiesAt 37 = .ok (.istore_n 3, 1) := by decide +kernel
theorem dX7_bodiesAt_38 : decode cX7_bodiesAt 38 = .ok (.iinc 4 1, 3) := by decide +kernel
theorem dX7_bodiesAt_41 : decode cX7_bodiesAt 41 = .ok (.goto (-36), 3) := by decide +kernel
theorem dX7_bodiesAt_44 : decode cX7_bodiesAt 44 = .ok (.iload_n 3, 1) := by decide +kernel
theorem dX7_bodiesAt_45 : decode cX7_bodiesAt 45 = .ok (.ireturn, 1) := by decide +kernel
theorem dX7_body_0 : decode cX7_body 0 = .ok (.aload_n 0, 1) := by decide +kernel
theorem dX7_body_1 : decode cX7_body 1 = .ok (.iload_n 1, 1) := by decide +kernel
theorem dX7_body_2 : decode cX7_body 2 = .ok (.invokevirtual 196, 3) := by decide +kernel
theorem dX7_body_5 : decode cX7_body 5 = .ok (.ifCond .eq 24, 3) := by decide +kernel
theorem dX7_body_8 : decode cX7_body 8 = .ok (.iload_n 2, 1) := by decide +kernel
theorem dX7_body_9 : decode cX7_body 9 = .ok (.i2l, 1) := by decide +kernel
theorem dX7_body_10 : decode cX7_body 10 = .ok (.lconst 0, 1) := by decide +kernel
theorem dX7_body_11 : decode cX7_body 11 = .ok (.ldc2_w 380, 3) := by decide +kernel
theorem dX7_body_14 : decode cX7_body 14 = .ok (.invokestatic 96, 3) := by decide +kernel
theorem dX7_body_17 : decode cX7_body 17 = .ok (.ifCond .eq 12, 3) := by decide +kernel
theorem dX7_body_20 : decode cX7_body 20 = .ok (.aload_n 0, 1) := by decide +kernel
theorem dX7_body_21 : decode cX7_body 21 = .ok (.iload_n 1, 1) := by decide +kernel
theorem dX7_body_22 : decode cX7_body 22 = .ok (.iload_n 2, 1) := by decide +kernel
theorem dX7_body_23 : decode cX7_body 23 = .ok (.invokevirtual 199, 3) := by decide +kernel
theorem dX7_body_26 : decode cX7_body 26 = .ok (.goto 6, 3) := by decide +kernel
theorem dX7_body_29 : decode cX7_body 29 = .ok (.sipush (-2000), 3) := by decide +kernel
theorem dX7_body_32 : decode cX7_body 32 = .ok (.ireturn, 1) := by decide +kernel
theorem dX7_common_0 : decode cX7_common 0 = .ok (.aload_n 0, 1) := by decide +kernel
theorem dX7_common_1 : decode cX7_common 1 = .ok (.iload_n 1, 1) := by decide +kernel
theorem dX7_common_2 : decode cX7_common 2 = .ok (.iload_n 2, 1) := by decide +kernel
theorem dX7_common_3 : decode cX7_common 3 = .ok (.invokevirtual 382, 3) := by decide +kernel
theorem dX7_common_6 : decode cX7_common 6 = .ok (.ifCond .ne 5, 3) := by decide +kernel
theorem dX7_common_9 : decode cX7_common 9 = .ok (.iconst (-1), 1) := by decide +kernel
theorem dX7_common_10 : decode cX7_common 10 = .ok (.ireturn, 1) := by decide +kernel
theorem dX7_common_11 : decode cX7_common 11 = .ok (.aload_n 0, 1) := by decide +kernel
theorem dX7_common_12 : decode cX7_common 12 = .ok (.invokevirtual 331, 3) := by decide +kernel
theorem dX7_common_15 : decode cX7_common 15 = .ok (.aload_n 0, 1) := by decide +kernel
theorem dX7_common_16 : decode cX7_common 16 = .ok (.iload_n 1, 1) := by decide +kernel
theorem dX7_common_17 : decode cX7_common 17 = .ok (.iload_n 2, 1) := by decide +kernel
theorem dX7_common_18 : decode cX7_common 18 = .ok (.iconst 0, 1) := by decide +kernel
theorem dX7_common_19 : decode cX7_common 19 = .ok (.iconst 0, 1) := by decide +kernel
theorem dX7_common_20 : decode cX7_common 20 = .ok (.invokevirtual 385, 3) := by decide +kernel
theorem dX7_common_23 : decode cX7_common 23 = .ok (.ireturn, 1) := by decide +kernel
theorem dX7_contact_0 : decode cX7_contact 0 = .ok (.iload_n 1, 1) := by decide +kernel
theorem dX7_contact_1 : decode cX7_contact 1 = .ok (.iconst (-1), 1) := by decide +kernel
theorem dX7_contact_2 : decode cX7_contact 2 = .ok (.if_icmp .ge 5, 3) := by decide +kernel
theorem dX7_contact_5 : decode cX7_contact 5 = .ok (.iconst (-1), 1) := by decide +kernel
theorem dX7_contact_6 : decode cX7_contact 6 = .ok (.ireturn, 1) := by decide +kernel
theorem dX7_contact_7 : decode cX7_contact 7 = .ok (.aload_n 0, 1) := by decide +kernel
theorem dX7_contact_8 : decode cX7_contact 8 = .ok (.invokevirtual 331, 3) := by decide +kernel
theorem dX7_contact_11 : decode cX7_contact 11 = .ok (.iconst 0, 1) := by decide +kernel
theorem dX7_contact_12 : decode cX7_contact 12 = .ok (.istore_n 2, 1) := by decide +kernel
theorem dX7_contact_13 : decode cX7_contact 13 = .ok (.iconst 0, 1) := by decide +kernel
theorem dX7_contact_14 : decode cX7_contact 14 = .ok (.istore_n 3, 1) := by decide +kernel
theorem dX7_contact_15 : decode cX7_contact 15 = .ok (.iload_n 3, 1) := by decide +kernel
theorem dX7_contact_16 : decode cX7_contact 16 = .ok (.aload_n 0, 1) := by decide +kernel
theorem dX7_contact_17 : decode cX7_contact 17 = .ok (.getfield 9, 3) := by decide +kernel
theorem dX7_contact_20 : decode cX7_contact 20 = .ok (.iconst 1, 1) := by decide +kernel
theorem dX7_contact_21 : decode cX7_contact 21 = .ok (.iaload, 1) := by decide +kernel
theorem dX7_contact_22 : decode cX7_contact 22 = .ok (.if_icmp .ge 62, 3) := by decide +kernel
theorem dX7_contact_25 : decode cX7_contact 25 = .ok (.iload_n 3, 1) := by decide +kernel
theorem dX7_contact_26 : decode cX7_contact 26 = .ok (.iconst 1, 1) := by decide +kernel
theorem dX7_contact_27 : decode cX7_contact 27 = .ok (.iadd, 1) := by decide +kernel
theorem dX7_contact_28 : decode cX7_contact 28 = .ok (.istore 4, 2) := by decide +kernel
theorem dX7_contact_30 : decode cX7_contact 30 = .ok (.iload 4, 2) := by decide +kernel
theorem dX7_contact_32 : decode cX7_contact 32 = .ok (.aload_n 0, 1) := by decide +kernel
theorem dX7_contact_33 : decode cX7_contact 33 = .ok (.getfield 9, 3) := by decide +kernel
theorem dX7_contact_36 : decode cX7_contact 36 = .ok (.iconst 1, 1) := by decide +kernel
theorem dX7_contact_37 : decode cX7_contact 37 = .ok (.iaload, 1) := by decide +kernel
theorem dX7_contact_38 : decode cX7_contact 38 = .ok (.if_icmp .ge 40, 3) := by decide +kernel
theorem dX7_contact_41 : decode cX7_contact 41 = .ok (.aload_n 0, 1) := by decide +kernel
theorem dX7_contact_42 : decode cX7_contact 42 = .ok (.iload_n 3, 1) := by decide +kernel
theorem dX7_contact_43 : decode cX7_contact 43 = .ok (.iload 4, 2) := by decide +kernel
theorem dX7_contact_45 : decode cX7_contact 45 = .ok (.iconst 0, 1) := by decide +kernel
theorem dX7_contact_46 : decode cX7_contact 46 = .ok (.iconst 0, 1) := by decide +kernel
theorem dX7_contact_47 : decode cX7_contact 47 = .ok (.invokevirtual 247, 3) := by decide +kernel
theorem dX7_contact_50 : decode cX7_contact 50 = .ok (.ifCond .ne 6, 3) := by decide +kernel
theorem dX7_contact_53 : decode cX7_contact 53 = .ok (.goto 19, 3) := by decide +kernel
theorem dX7_contact_56 : decode cX7_contact 56 = .ok (.iload_n 2, 1) := by decide +kernel
theorem dX7_contact_57 : decode cX7_contact 57 = .ok (.iload_n 1, 1) := by decide +kernel
theorem dX7_contact_58 : decode cX7_contact 58 = .ok (.if_icmp .ne 11, 3) := by decide +kernel
theorem dX7_contact_61 : decode cX7_contact 61 = .ok (.bipush 100, 2) := by decide +kernel
theorem dX7_contact_63 : decode cX7_contact 63 = .ok (.iload_n 3, 1) := by decide +kernel
theorem dX7_contact_64 : decode cX7_contact 64 = .ok (.imul, 1) := by decide +kernel
theorem dX7_contact_65 : decode cX7_contact 65 = .ok (.iload 4, 2) := by decide +kernel
theorem dX7_contact_67 : decode cX7_contact 67 = .ok (.iadd, 1) := by decide +kernel
theorem dX7_contact_68 : decode cX7_contact 68 = .ok (.ireturn, 1) := by decide +kernel
theorem dX7_contact_69 : decode cX7_contact 69 = .ok (.iinc 2 1, 3) := by decide +kernel
theorem dX7_contact_72 : decode cX7_contact 72 = .ok (.iinc 4 1, 3) := by decide +kernel
theorem dX7_contact_75 : decode cX7_contact 75 = .ok (.goto (-45), 3) := by decide +kernel
theorem dX7_contact_78 : decode cX7_contact 78 = .ok (.iinc 3 1, 3) := by decide +kernel
theorem dX7_contact_81 : decode cX7_contact 81 = .ok (.goto (-66), 3) := by decide +kernel
theorem dX7_contact_84 : decode cX7_contact 84 = .ok (.iload_n 1, 1) := by decide +kernel
theorem dX7_contact_85 : decode cX7_contact 85 = .ok (.iconst (-1), 1) := by decide +kernel
theorem dX7_contact_86 : decode cX7_contact 86 = .ok (.if_icmp .ne 7, 3) := by decide +kernel
theorem dX7_contact_89 : decode cX7_contact 89 = .ok (.iload_n 2, 1) := by decide +kernel
theorem dX7_contact_90 : decode cX7_contact 90 = .ok (.goto 5, 3) := by decide +kernel
theorem dX7_contact_93 : decode cX7_contact 93 = .ok (.bipush (-2), 2) := by decide +kernel
theorem dX7_contact_95 : decode cX7_contact 95 = .ok (.ireturn, 1) := by decide +kernel
theorem dX7_count_0 : decode cX7_count 0 = .ok (.iload_n 1, 1) := by decide +kernel
theorem dX7_count_1 : decode cX7_count 1 = .ok (.tableswitch 101 0 6 #[43, 50, 57, 62, 67, 72, 94], 43) := by decide +kernel
theorem dX7_count_44 : decode cX7_count 44 = .ok (.aload_n 0, 1) := by decide +kernel
theorem dX7_count_45 : decode cX7_count 45 = .ok (.getfield 9, 3) := by decide +kernel
theorem dX7_count_48 : decode cX7_count 48 = .ok (.iconst 0, 1) := by decide +kernel
theorem dX7_count_49 : decode cX7_count 49 = .ok (.iaload, 1) := by decide +kernel
theorem dX7_count_50 : decode cX7_count 50 = .ok (.ireturn, 1) := by decide +kernel
theorem dX7_count_51 : decode cX7_count 51 = .ok (.aload_n 0, 1) := by decide +kernel
theorem dX7_count_52 : decode cX7_count 52 = .ok (.getfield 9, 3) := by decide +kernel
theorem dX7_count_55 : decode cX7_count 55 = .ok (.iconst 1, 1) := by decide +kernel
theorem dX7_count_56 : decode cX7_count 56 = .ok (.iaload, 1) := by decide +kernel
theorem dX7_count_57 : decode cX7_count 57 = .ok (.ireturn, 1) := by decide +kernel
theorem dX7_count_58 : decode cX7_count 58 = .ok (.aload_n 0, 1) := by decide +kernel
theorem dX7_count_59 : decode cX7_count 59 = .ok (.invokevirtual 442, 3) := by decide +kernel
theorem dX7_count_62 : decode cX7_count 62 = .ok (.ireturn, 1) := by decide +kernel
theorem dX7_count_63 : decode cX7_count 63 = .ok (.aload_n 0, 1) := by decide +kernel
theorem dX7_count_64 : decode cX7_count 64 = .ok (.getfield 187, 3) := by decide +kernel
theorem dX7_count_67 : decode cX7_count 67 = .ok (.ireturn, 1) := by decide +kernel
theorem dX7_count_68 : decode cX7_count 68 = .ok (.aload_n 0, 1) := by decide +kernel
theorem dX7_count_69 : decode cX7_count 69 = .ok (.getfield 67, 3) := by decide +kernel
theorem dX7_count_72 : decode cX7_count 72 = .ok (.ireturn, 1) := by decide +kernel
theorem dX7_count_73 : decode cX7_count 73 = .ok (.aload_n 0, 1) := by decide +kernel
theorem dX7_count_74 : decode cX7_count 74 = .ok (.getfield 41, 3) := by decide +kernel
theorem dX7_count_77 : decode cX7_count 77 = .ok (.iconst 0, 1) := by decide +kernel
theorem dX7_count_78 : decode cX7_count 78 = .ok (.baload, 1) := by decide +kernel
theorem dX7_count_79 : decode cX7_count 79 = .ok (.invokestatic 127, 3) := by decide +kernel
theorem dX7_count_82 : decode cX7_count 82 = .ok (.aload_n 0, 1) := by decide +kernel
theorem dX7_count_83 : decode cX7_count 83 = .ok (.getfield 41, 3) := by decide +kernel
theorem dX7_count_86 : decode cX7_count 86 = .ok (.iconst 1, 1) := by decide +kernel
theorem dX7_count_87 : decode cX7_count 87 = .ok (.baload, 1) := by decide +kernel
theorem dX7_count_88 : decode cX7_count 88 = .ok (.invokestatic 127, 3) := by decide +kernel
theorem dX7_count_91 : decode cX7_count 91 = .ok (.iconst 1, 1) := by decide +kernel
theorem dX7_count_92 : decode cX7_count 92 = .ok (.ishl, 1) := by decide +kernel
theorem dX7_count_93 : decode cX7_count 93 = .ok (.ior, 1) := by decide +kernel
theorem dX7_count_94 : decode cX7_count 94 = .ok (.ireturn, 1) := by decide +kernel
theorem dX7_count_95 : decode cX7_count 95 = .ok (.aload_n 0, 1) := by decide +kernel
theorem dX7_count_96 : decode cX7_count 96 = .ok (.getfield 9, 3) := by decide +kernel
theorem dX7_count_99 : decode cX7_count 99 = .ok (.iconst 2, 1) := by decide +kernel
theorem dX7_count_100 : decode cX7_count 100 = .ok (.iaload, 1) := by decide +kernel
theorem dX7_count_101 : decode cX7_count 101 = .ok (.ireturn, 1) := by decide +kernel
theorem dX7_count_102 : decode cX7_count 102 = .ok (.iconst (-1), 1) := by decide +kernel
theorem dX7_count_103 : decode cX7_count 103 = .ok (.ireturn, 1) := by decide +kernel
theorem dX7_dense_0 : decode cX7_dense 0 = .ok (.aload_n 0, 1) := by decide +kernel
theorem dX7_dense_1 : decode cX7_dense 1 = .ok (.iload_n 1, 1) := by decide +kernel
theorem dX7_dense_2 : decode cX7_dense 2 = .ok (.invokevirtual 301, 3) := by decide +kernel
theorem dX7_dense_5 : decode cX7_dense 5 = .ok (.ifCond .eq 46, 3) := by decide +kernel
theorem dX7_dense_8 : decode cX7_dense 8 = .ok (.iload_n 2, 1) := by decide +kernel
theorem dX7_dense_9 : decode cX7_dense 9 = .ok (.i2l, 1) := by decide +kernel
theorem dX7_dense_10 : decode cX7_dense 10 = .ok (.lconst 1, 1) := by decide +kernel
theorem dX7_dense_11 : decode cX7_dense 11 = .ok (.aload_n 0, 1) := by decide +kernel
theorem dX7_dense_12 : decode cX7_dense 12 = .ok (.iload_n 1, 1) := by decide +kernel
theorem dX7_dense_13 : decode cX7_dense 13 = .ok (.invokevirtual 202, 3) := by decide +kernel
theorem dX7_dense_16 : decode cX7_dense 16 = .ok (.i2l, 1) := by decide +kernel
theorem dX7_dense_17 : decode cX7_dense 17 = .ok (.invokestatic 96, 3) := by decide +kernel
theorem dX7_dense_20 : decode cX7_dense 20 = .ok (.ifCond .eq 31, 3) := by decide +kernel
theorem dX7_dense_23 : decode cX7_dense 23 = .ok (.iload_n 3, 1) := by decide +kernel
theorem dX7_dense_24 : decode cX7_dense 24 = .ok (.i2l, 1) := by decide +kernel
theorem dX7_dense_25 : decode cX7_dense 25 = .ok (.lconst 1, 1) := by decide +kernel
theorem dX7_dense_26 : decode cX7_dense 26 = .ok (.aload_n 0, 1) := by decide +kernel
theorem dX7_dense_27 : decode cX7_dense 27 = .ok (.iload_n 1, 1) := by decide +kernel
theorem dX7_dense_28 : decode cX7_dense 28 = .ok (.invokevirtual 205, 3) := by decide +kernel
theorem dX7_dense_31 : decode cX7_dense 31 = .ok (.i2l, 1) := by decide +kernel
theorem dX7_dense_32 : decode cX7_dense 32 = .ok (.invokestatic 96, 3) := by decide +kernel
theorem dX7_dense_35 : decode cX7_dense 35 = .ok (.ifCond .eq 16, 3) := by decide +kernel
theorem dX7_dense_38 : decode cX7_dense 38 = .ok (.iload 4, 2) := by decide +kernel
theorem dX7_dense_40 : decode cX7_dense 40 = .ok (.i2l, 1) := by decide +kernel
theorem dX7_dense_41 : decode cX7_dense 41 = .ok (.lconst 0, 1) := by decide +kernel
theorem dX7_dense_42 : decode cX7_dense 42 = .ok (.ldc2_w 394, 3) := by decide +kernel
theorem dX7_dense_45 : decode cX7_dense 45 = .ok (.invokestatic 96, 3) := by decide +kernel
theorem dX7_dense_48 : decode cX7_dense 48 = .ok (.ifCond .ne 5, 3) := by decide +kernel
theorem dX7_dense_51 : decode cX7_dense 51 = .ok (.iconst (-1), 1) := by decide +kernel
theorem dX7_dense_52 : decode cX7_dense 52 = .ok (.ireturn, 1) := by decide +kernel
theorem dX7_dense_53 : decode cX7_dense 53 = .ok (.iconst (-1), 1) := by decide +kernel
theorem dX7_dense_54 : decode cX7_dense 54 = .ok (.istore 5, 2) := by decide +kernel
theorem dX7_dense_56 : decode cX7_dense 56 = .ok (.iconst 0, 1) := by decide +kernel
theorem dX7_dense_57 : decode cX7_dense 57 = .ok (.istore 6, 2) := by decide +kernel
theorem dX7_dense_59 : decode cX7_dense 59 = .ok (.iconst 0, 1) := by decide +kernel
theorem dX7_dense_60 : decode cX7_dense 60 = .ok (.istore 7, 2) := by decide +kernel
theorem dX7_dense_62 : decode cX7_dense 62 = .ok (.iconst 0, 1) := by decide +kernel
theorem dX7_dense_63 : decode cX7_dense 63 = .ok (.istore 8, 2) := by decide +kernel
theorem dX7_dense_65 : decode cX7_dense 65 = .ok (.iload 8, 2) := by decide +kernel
theorem dX7_dense_67 : decode cX7_dense 67 = .ok (.iload_n 3, 1) := by decide +kernel
theorem dX7_dense_68 : decode cX7_dense 68 = .ok (.iadd, 1) := by decide +kernel
theorem dX7_dense_69 : decode cX7_dense 69 = .ok (.aload_n 0, 1) := by decide +kernel
theorem dX7_dense_70 : decode cX7_dense 70 = .ok (.iload_n 1, 1) := by decide +kernel
theorem dX7_dense_71 : decode cX7_dense 71 = .ok (.invokevirtual 205, 3) := by decide +kernel
theorem dX7_dense_74 : decode cX7_dense 74 = .ok (.if_icmp .gt 91, 3) := by decide +kernel
theorem dX7_dense_77 : decode cX7_dense 77 = .ok (.aload_n 0, 1) := by decide +kernel
theorem dX7_dense_78 : decode cX7_dense 78 = .ok (.iload_n 1, 1) := by decide +kernel
theorem dX7_dense_79 : decode cX7_dense 79 = .ok (.iconst 0, 1) := by decide +kernel
theorem dX7_dense_80 : decode cX7_dense 80 = .ok (.iload 8, 2) := by decide +kernel
theorem dX7_dense_82 : decode cX7_dense 82 = .ok (.iload_n 2, 1) := by decide +kernel
theorem dX7_dense_83 : decode cX7_dense 83 = .ok (.iload_n 3, 1) := by decide +kernel
theorem dX7_dense_84 : decode cX7_dense 84 = .ok (.invokevirtual 419, 3) := by decide +kernel
theorem dX7_dense_87 : decode cX7_dense 87 = .ok (.istore 9, 2) := by decide +kernel
theorem dX7_dense_89 : decode cX7_dense 89 = .ok (.iconst 0, 1) := by decide +kernel
theorem dX7_dense_90 : decode cX7_dense 90 = .ok (.istore 10, 2) := by decide +kernel
theorem dX7_dense_92 : decode cX7_dense 92 = .ok (.iload 10, 2) := by decide +kernel
theorem dX7_dense_94 : decode cX7_dense 94 = .ok (.iload_n 2, 1) := by decide +kernel
theorem dX7_dense_95 : decode cX7_dense 95 = .ok (.iadd, 1) := by decide +kernel
theorem dX7_dense_96 : decode cX7_dense 96 = .ok (.aload_n 0, 1) := by decide +kernel
theorem dX7_dense_97 : decode cX7_dense 97 = .ok (.iload_n 1, 1) := by decide +kernel
theorem dX7_dense_98 : decode cX7_dense 98 = .ok (.invokevirtual 202, 3) := by decide +kernel
theorem dX7_dense_101 : decode cX7_dense 101 = .ok (.if_icmp .gt 58, 3) := by decide +kernel
theorem dX7_dense_104 : decode cX7_dense 104 = .ok (.iload 9, 2) := by decide +kernel
theorem dX7_dense_106 : decode cX7_dense 106 = .ok (.iload 5, 2) := by decide +kernel
theorem dX7_dense_108 : decode cX7_dense 108 = .ok (.if_icmp .le 15, 3) := by decide +kernel
theorem dX7_dense_111 : decode cX7_dense 111 = .ok (.iload 9, 2) := by decide +kernel
theorem dX7_dense_113 : decode cX7_dense 113 = .ok (.istore 5, 2) := by decide +kernel
theorem dX7_dense_115 : decode cX7_dense 115 = .ok (.iload 10, 2) := by decide +kernel
theorem dX7_dense_117 : decode cX7_dense 117 = .ok (.istore 6, 2) := by decide +kernel
theorem dX7_dense_119 : decode cX7_dense 119 = .ok (.iload 8, 2) := by decide +kernel
theorem dX7_dense_121 : decode cX7_dense 121 = .ok (.istore 7, 2) := by decide +kernel
theorem dX7_dense_123 : decode cX7_dense 123 = .ok (.iload 9, 2) := by decide +kernel
theorem dX7_dense_125 : decode cX7_dense 125 = .ok (.aload_n 0, 1) := by decide +kernel
theorem dX7_dense_126 : decode cX7_dense 126 = .ok (.iload_n 1, 1) := by decide +kernel
theorem dX7_dense_127 : decode cX7_dense 127 = .ok (.iload 10, 2) := by decide +kernel
theorem dX7_dense_129 : decode cX7_dense 129 = .ok (.iload_n 2, 1) := by decide +kernel
theorem dX7_dense_130 : decode cX7_dense 130 = .ok (.iadd, 1) := by decide +kernel
theorem dX7_dense_131 : decode cX7_dense 131 = .ok (.iload 8, 2) := by decide +kernel
theorem dX7_dense_133 : decode cX7_dense 133 = .ok (.iconst 1, 1) := by decide +kernel
theorem dX7_dense_134 : decode cX7_dense 134 = .ok (.iload_n 3, 1) := by decide +kernel
theorem dX7_dense_135 : decode cX7_dense 135 = .ok (.invokevirtual 419, 3) := by decide +kernel
theorem dX7_dense_138 : decode cX7_dense 138 = .ok (.aload_n 0, 1) := by decide +kernel
theorem dX7_dense_139 : decode cX7_dense 139 = .ok (.iload_n 1, 1) := by decide +kernel
theorem dX7_dense_140 : decode cX7_dense 140 = .ok (.iload 10, 2) := by decide +kernel
theorem dX7_dense_142 : decode cX7_dense 142 = .ok (.iload 8, 2) := by decide +kernel
theorem dX7_dense_144 : decode cX7_dense 144 = .ok (.iconst 1, 1) := by decide +kernel
theorem dX7_dense_145 : decode cX7_dense 145 = .ok (.iload_n 3, 1) := by decide +kernel
theorem dX7_dense_146 : decode cX7_dense 146 = .ok (.invokevirtual 419, 3) := by decide +kernel
theorem dX7_dense_149 : decode cX7_dense 149 = .ok (.isub, 1) := by decide +kernel
theorem dX7_dense_150 : decode cX7_dense 150 = .ok (.iadd, 1) := by decide +kernel
theorem dX7_dense_151 : decode cX7_dense 151 = .ok (.istore 9, 2) := by decide +kernel
theorem dX7_dense_153 : decode cX7_dense 153 = .ok (.iinc 10 1, 3) := by decide +kernel
theorem dX7_dense_156 : decode cX7_dense 156 = .ok (.goto (-64), 3) := by decide +kernel
theorem dX7_dense_159 : decode cX7_dense 159 = .ok (.iinc 8 1, 3) := by decide +kernel
theorem dX7_dense_162 : decode cX7_dense 162 = .ok (.goto (-97), 3) := by decide +kernel
theorem dX7_dense_165 : decode cX7_dense 165 = .ok (.iload 4, 2) := by decide +kernel
theorem dX7_dense_167 : decode cX7_dense 167 = .ok (.ifCond .ne 8, 3) := by decide +kernel
theorem dX7_dense_170 : decode cX7_dense 170 = .ok (.iload 5, 2) := by decide +kernel
theorem dX7_dense_172 : decode cX7_dense 172 = .ok (.goto 16, 3) := by decide +kernel
theorem dX7_dense_175 : decode cX7_dense 175 = .ok (.iload 4, 2) := by decide +kernel
theorem dX7_dense_177 : decode cX7_dense 177 = .ok (.iconst 1, 1) := by decide +kernel
theorem dX7_dense_178 : decode cX7_dense 178 = .ok (.if_icmp .ne 8, 3) := by decide +kernel
theorem dX7_dense_181 : decode cX7_dense 181 = .ok (.iload 6, 2) := by decide +kernel
theorem dX7_dense_183 : decode cX7_dense 183 = .ok (.goto 5, 3) := by decide +kernel
theorem dX7_dense_186 : decode cX7_dense 186 = .ok (.iload 7, 2) := by decide +kernel
theorem dX7_dense_188 : decode cX7_dense 188 = .ok (.ireturn, 1) := by decide +kernel
theorem dX7_digest_0 : decode cX7_digest 0 = .ok (.ldc2_w 434, 3) := by decide +kernel
theorem dX7_digest_3 : decode cX7_digest 3 = .ok (.lstore_n 1, 1) := by decide +kernel
theorem dX7_digest_4 : decode cX7_digest 4 = .ok (.iconst 0, 1) := by decide +kernel
theorem dX7_digest_5 : decode cX7_digest 5 = .ok (.istore_n 3, 1) := by decide +kernel
theorem dX7_digest_6 : decode cX7_digest 6 = .ok (.iload_n 3, 1) := by decide +kernel
theorem dX7_digest_7 : decode cX7_digest 7 = .ok (.aload_n 0, 1) := by decide +kernel
theorem dX7_digest_8 : decode cX7_digest 8 = .ok (.getfield 9, 3) := by decide +kernel
theorem dX7_digest_11 : decode cX7_digest 11 = .ok (.iconst 1, 1) := by decide +kernel
theorem dX7_digest_12 : decode cX7_digest 12 = .ok (.iaload, 1) := by decide +kernel
theorem dX7_digest_13 : decode cX7_digest 13 = .ok (.if_icmp .ge 40, 3) := by decide +kernel
theorem dX7_digest_16 : decode cX7_digest 16 = .ok (.iconst 0, 1) := by decide +kernel
theorem dX7_digest_17 : decode cX7_digest 17 = .ok (.istore 4, 2) := by decide +kernel
theorem dX7_digest_19 : decode cX7_digest 19 = .ok (.iload 4, 2) := by decide +kernel
theorem dX7_digest_21 : decode cX7_digest 21 = .ok (.bipush 8, 2) := by decide +kernel
theorem dX7_digest_23 : decode cX7_digest 23 = .ok (.if_icmp .ge 24, 3) := by decide +kernel
theorem dX7_digest_26 : decode cX7_digest 26 = .ok (.ldc2_w 436, 3) := by decide +kernel
theorem dX7_digest_29 : decode cX7_digest 29 = .ok (.lload_n 1, 1) := by decide +kernel
theorem dX7_digest_30 : decode cX7_digest 30 = .ok (.lmul, 1) := by decide +kernel
theorem dX7_digest_31 : decode cX7_digest 31 = .ok (.aload_n 0, 1) := by decide +kernel
theorem dX7_digest_32 : decode cX7_digest 32 = .ok (.iload_n 3, 1) := by decide +kernel
theorem dX7_digest_33 : decode cX7_digest 33 = .ok (.iload 4, 2) := by decide +kernel
theorem dX7_digest_35 : decode cX7_digest 35 = .ok (.invokevirtual 199, 3) := by decide +kernel
theorem dX7_digest_38 : decode cX7_digest 38 = .ok (.i2l, 1) := by decide +kernel
theorem dX7_digest_39 : decode cX7_digest 39 = .ok (.ladd, 1) := by decide +kernel
theorem dX7_digest_40 : decode cX7_digest 40 = .ok (.lstore_n 1, 1) := by decide +kernel
theorem dX7_digest_41 : decode cX7_digest 41 = .ok (.iinc 4 1, 3) := by decide +kernel
theorem dX7_digest_44 : decode cX7_digest 44 = .ok (.goto (-25), 3) := by decide +kernel
theorem dX7_digest_47 : decode cX7_digest 47 = .ok (.iinc 3 1, 3) := by decide +kernel
theorem dX7_digest_50 : decode cX7_digest 50 = .ok (.goto (-44), 3) := by decide +kernel
theorem dX7_digest_53 : decode cX7_digest 53 = .ok (.iconst 0, 1) := by decide +kernel
theorem dX7_digest_54 : decode cX7_digest 54 = .ok (.istore_n 3, 1) := by decide +kernel
theorem dX7_digest_55 : decode cX7_digest 55 = .ok (.iload_n 3, 1) := by decide +kernel
theorem dX7_digest_56 : decode cX7_digest 56 = .ok (.aload_n 0, 1) := by decide +kernel
theorem dX7_digest_57 : decode cX7_digest 57 = .ok (.getfield 9, 3) := by decide +kernel
theorem dX7_digest_60 : decode cX7_digest 60 = .ok (.iconst 0, 1) := by decide +kernel
theorem dX7_digest_61 : decode cX7_digest 61 = .ok (.iaload, 1) := by decide +kernel
theorem dX7_digest_62 : decode cX7_digest 62 = .ok (.if_icmp .ge 58, 3) := by decide +kernel
theorem dX7_digest_65 : decode cX7_digest 65 = .ok (.iconst 0, 1) := by decide +kernel
theorem dX7_digest_66 : decode cX7_digest 66 = .ok (.istore 4, 2) := by decide +kernel
theorem dX7_digest_68 : decode cX7_digest 68 = .ok (.iload 4, 2) := by decide +kernel
theorem dX7_digest_70 : decode cX7_digest 70 = .ok (.aload_n 0, 1) := by decide +kernel
theorem dX7_digest_71 : decode cX7_digest 71 = .ok (.iload_n 3, 1) := by decide +kernel
theorem dX7_digest_72 : decode cX7_digest 72 = .ok (.invokevirtual 205, 3) := by decide +kernel
theorem dX7_digest_75 : decode cX7_digest 75 = .ok (.if_icmp .ge 39, 3) := by decide +kernel
theorem dX7_digest_78 : decode cX7_digest 78 = .ok (.ldc2_w 436, 3) := by decide +kernel
theorem dX7_digest_81 : decode cX7_digest 81 = .ok (.lload_n 1, 1) := by decide +kernel
theorem dX7_digest_82 : decode cX7_digest 82 = .ok (.lmul, 1) := by decide +kernel
theorem dX7_digest_83 : decode cX7_digest 83 = .ok (.aload_n 0, 1) := by decide +kernel
theorem dX7_digest_84 : decode cX7_digest 84 = .ok (.iload_n 3, 1) := by decide +kernel
theorem dX7_digest_85 : decode cX7_digest 85 = .ok (.iload 4, 2) := by decide +kernel
theorem dX7_digest_87 : decode cX7_digest 87 = .ok (.iconst 0, 1) := by decide +kernel
theorem dX7_digest_88 : decode cX7_digest 88 = .ok (.invokevirtual 438, 3) := by decide +kernel
theorem dX7_digest_91 : decode cX7_digest 91 = .ok (.ladd, 1) := by decide +kernel
theorem dX7_digest_92 : decode cX7_digest 92 = .ok (.lstore_n 1, 1) := by decide +kernel
theorem dX7_digest_93 : decode cX7_digest 93 = .ok (.ldc2_w 436, 3) := by decide +kernel
theorem dX7_digest_96 : decode cX7_digest 96 = .ok (.lload_n 1, 1) := by decide +kernel
theorem dX7_digest_97 : decode cX7_digest 97 = .ok (.lmul, 1) := by decide +kernel
theorem dX7_digest_98 : decode cX7_digest 98 = .ok (.aload_n 0, 1) := by decide +kernel
theorem dX7_digest_99 : decode cX7_digest 99 = .ok (.iload_n 3, 1) := by decide +kernel
theorem dX7_digest_100 : decode cX7_digest 100 = .ok (.iload 4, 2) := by decide +kernel
theorem dX7_digest_102 : decode cX7_digest 102 = .ok (.iconst 1, 1) := by decide +kernel
theorem dX7_digest_103 : decode cX7_digest 103 = .ok (.invokevirtual 438, 3) := by decide +kernel
theorem dX7_digest_106 : decode cX7_digest 106 = .ok (.ladd, 1) := by decide +kernel
theorem dX7_digest_107 : decode cX7_digest 107 = .ok (.lstore_n 1, 1) := by decide +kernel
theorem dX7_digest_108 : decode cX7_digest 108 = .ok (.iinc 4 1, 3) := by decide +kernel
theorem dX7_digest_111 : decode cX7_digest 111 = .ok (.goto (-43), 3) := by decide +kernel
theorem dX7_digest_114 : decode cX7_digest 114 = .ok (.iinc 3 1, 3) := by decide +kernel
theorem dX7_digest_117 : decode cX7_digest 117 = .ok (.goto (-62), 3) := by decide +kernel
theorem dX7_digest_120 : decode cX7_digest 120 = .ok (.lload_n 1, 1) := by decide +kernel
theorem dX7_digest_121 : decode cX7_digest 121 = .ok (.lreturn, 1) := by decide +kernel
theorem dX7_dot_0 : decode cX7_dot 0 = .ok (.aload_n 0, 1) := by decide +kernel
theorem dX7_dot_1 : decode cX7_dot 1 = .ok (.iload_n 1, 1) := by decide +kernel
theorem dX7_dot_2 : decode cX7_dot 2 = .ok (.invokevirtual 301, 3) := by decide +kernel
theorem dX7_dot_5 : decode cX7_dot 5 = .ok (.ifCond .eq 16, 3) := by decide +kernel
theorem dX7_dot_8 : decode cX7_dot 8 = .ok (.aload_n 0, 1) := by decide +kernel
theorem dX7_dot_9 : decode cX7_dot 9 = .ok (.iload_n 1, 1) := by decide +kernel
theorem dX7_dot_10 : decode cX7_dot 10 = .ok (.iload_n 2, 1) := by decide +kernel
theorem dX7_dot_11 : decode cX7_dot 11 = .ok (.iload_n 3, 1) := by decide +kernel
theorem dX7_dot_12 : decode cX7_dot 12 = .ok (.invokevirtual 215, 3) := by decide +kernel
theorem dX7_dot_15 : decode cX7_dot 15 = .ok (.invokestatic 127, 3) := by decide +kernel
theorem dX7_dot_18 : decode cX7_dot 18 = .ok (.goto 4, 3) := by decide +kernel
theorem dX7_dot_21 : decode cX7_dot 21 = .ok (.iconst (-1), 1) := by decide +kernel
theorem dX7_dot_22 : decode cX7_dot 22 = .ok (.ireturn, 1) := by decide +kernel
theorem dX7_dots_0 : decode cX7_dots 0 = .ok (.aload_n 0, 1) := by decide +kernel
theorem dX7_dots_1 : decode cX7_dots 1 = .ok (.iload_n 1, 1) := by decide +kernel
theorem dX7_dots_2 : decode cX7_dots 2 = .ok (.invokevirtual 301, 3) := by decide +kernel
theorem dX7_dots_5 : decode cX7_dots 5 = .ok (.ifCond .eq 32, 3) := by decide +kernel
theorem dX7_dots_8 : decode cX7_dots 8 = .ok (.iload_n 3, 1) := by decide +kernel
theorem dX7_dots_9 : decode cX7_dots 9 = .ok (.i2l, 1) := by decide +kernel
theorem dX7_dots_10 : decode cX7_dots 10 = .ok (.lconst 0, 1) := by decide +kernel
theorem dX7_dots_11 : decode cX7_dots 11 = .ok (.iload_n 2, 1) := by decide +kernel
theorem dX7_dots_12 : decode cX7_dots 12 = .ok (.ifCond .eq 11, 3) := by decide +kernel
theorem dX7_dots_15 : decode cX7_dots 15 = .ok (.aload_n 0, 1) := by decide +kernel
theorem dX7_dots_16 : decode cX7_dots 16 = .ok (.iload_n 1, 1) := by decide +kernel
theorem dX7_dots_17 : decode cX7_dots 17 = .ok (.invokevirtual 202, 3) := by decide +kernel
theorem dX7_dots_20 : decode cX7_dots 20 = .ok (.goto 8, 3) := by decide +kernel
theorem dX7_dots_23 : decode cX7_dots 23 = .ok (.aload_n 0, 1) := by decide +kernel
theorem dX7_dots_24 : decode cX7_dots 24 = .ok (.iload_n 1, 1) := by decide +kernel
theorem dX7_dots_25 : decode cX7_dots 25 = .ok (.invokevirtual 205, 3) := by decide +kernel
theorem dX7_dots_28 : decode cX7_dots 28 = .ok (.iconst 1, 1) := by decide +kernel
theorem dX7_dots_29 : decode cX7_dots 29 = .ok (.isub, 1) := by decide +kernel
theorem dX7_dots_30 : decode cX7_dots 30 = .ok (.i2l, 1) := by decide +kernel
theorem dX7_dots_31 : decode cX7_dots 31 = .ok (.invokestatic 96, 3) := by decide +kernel
theorem dX7_dots_34 : decode cX7_dots 34 = .ok (.ifCond .ne 5, 3) := by decide +kernel
theorem dX7_dots_37 : decode cX7_dots 37 = .ok (.iconst (-1), 1) := by decide +kernel
theorem dX7_dots_38 : decode cX7_dots 38 = .ok (.ireturn, 1) := by decide +kernel
theorem dX7_dots_39 : decode cX7_dots 39 = .ok (.iload_n 2, 1) := by decide +kernel
theorem dX7_dots_40 : decode cX7_dots 40 = .ok (.ifCond .eq 19, 3) := by decide +kernel
theorem dX7_dots_43 : decode cX7_dots 43 = .ok (.aload_n 0, 1) := by decide +kernel
theorem dX7_dots_44 : decode cX7_dots 44 = .ok (.iload_n 1, 1) := by decide +kernel
theorem dX7_dots_45 : decode cX7_dots 45 = .ok (.iload_n 3, 1) := by decide +kernel
theorem dX7_dots_46 : decode cX7_dots 46 = .ok (.iconst 0, 1) := by decide +kernel
theorem dX7_dots_47 : decode cX7_dots 47 = .ok (.iconst 1, 1) := by decide +kernel
theorem dX7_dots_48 : decode cX7_dots 48 = .ok (.aload_n 0, 1) := by decide +kernel
theorem dX7_dots_49 : decode cX7_dots 49 = .ok (.iload_n 1, 1) := by decide +kernel
theorem dX7_dots_50 : decode cX7_dots 50 = .ok (.invokevirtual 205, 3) := by decide +kernel
theorem dX7_dots_53 : decode cX7_dots 53 = .ok (.invokevirtual 419, 3) := by decide +kernel
theorem dX7_dots_56 : decode cX7_dots 56 = .ok (.goto 16, 3) := by decide +kernel
theorem dX7_dots_59 : decode cX7_dots 59 = .ok (.aload_n 0, 1) := by decide +kernel
theorem dX7_dots_60 : decode cX7_dots 60 = .ok (.iload_n 1, 1) := by decide +kernel
theorem dX7_dots_61 : decode cX7_dots 61 = .ok (.iconst 0, 1) := by decide +kernel
theorem dX7_dots_62 : decode cX7_dots 62 = .ok (.iload_n 3, 1) := by decide +kernel
theorem dX7_dots_63 : decode cX7_dots 63 = .ok (.aload_n 0, 1) := by decide +kernel
theorem dX7_dots_64 : decode cX7_dots 64 = .ok (.iload_n 1, 1) := by decide +kernel
theorem dX7_dots_65 : decode cX7_dots 65 = .ok (.invokevirtual 202, 3) := by decide +kernel
theorem dX7_dots_68 : decode cX7_dots 68 = .ok (.iconst 1, 1) := by decide +kernel
theorem dX7_dots_69 : decode cX7_dots 69 = .ok (.invokevirtual 419, 3) := by decide +kernel
theorem dX7_dots_72 : decode cX7_dots 72 = .ok (.ireturn, 1) := by decide +kernel
theorem dX7_dotsOfAll_0 : decode cX7_dotsOfAll 0 = .ok (.iconst 0, 1) := by decide +kernel
theorem dX7_dotsOfAll_1 : decode cX7_dotsOfAll 1 = .ok (.istore_n 1, 1) := by decide +kernel
theorem dX7_dotsOfAll_2 : decode cX7_dotsOfAll 2 = .ok (.iconst 0, 1) := by decide +kernel
theorem dX7_dotsOfAll_3 : decode cX7_dotsOfAll 3 = .ok (.istore_n 2, 1) := by decide +kernel
theorem dX7_dotsOfAll_4 : decode cX7_dotsOfAll 4 = .ok (.iload_n 2, 1) := by decide +kernel
theorem dX7_dotsOfAll_5 : decode cX7_dotsOfAll 5 = .ok (.aload_n 0, 1) := by decide +kernel
theorem dX7_dotsOfAll_6 : decode cX7_dotsOfAll 6 = .ok (.getfield 9, 3) := by decide +kernel
theorem dX7_dotsOfAll_9 : decode cX7_dotsOfAll 9 = .ok (.iconst 0, 1) := by decide +kernel
theorem dX7_dotsOfAll_10 : decode cX7_dotsOfAll 10 = .ok (.iaload, 1) := by decide +kernel
theorem dX7_dotsOfAll_11 : decode cX7_dotsOfAll 11 = .ok (.if_icmp .ge 17, 3) := by decide +kernel
theorem dX7_dotsOfAll_14 : decode cX7_dotsOfAll 14 = .ok (.iload_n 1, 1) := by decide +kernel
theorem dX7_dotsOfAll_15 : decode cX7_dotsOfAll 15 = .ok (.aload_n 0, 1) := by decide +kernel
theorem dX7_dotsOfAll_16 : decode cX7_dotsOfAll 16 = .ok (.iload_n 2, 1) := by decide +kernel
theorem dX7_dotsOfAll_17 : decode cX7_dotsOfAll 17 = .ok (.invokevirtual 321, 3) := by decide +kernel
theorem dX7_dotsOfAll_20 : decode cX7_dotsOfAll 20 = .ok (.iadd, 1) := by decide +kernel
theorem dX7_dotsOfAll_21 : decode cX7_dotsOfAll 21 = .ok (.istore_n 1, 1) := by decide +kernel
theorem dX7_dotsOfAll_22 : decode cX7_dotsOfAll 22 = .ok (.iinc 2 1, 3) := by decide +kernel
theorem dX7_dotsOfAll_25 : decode cX7_dotsOfAll 25 = .ok (.goto (-21), 3) := by decide +kernel
theorem dX7_dotsOfAll_28 : decode cX7_dotsOfAll 28 = .ok (.iload_n 1, 1) := by decide +kernel
theorem dX7_dotsOfAll_29 : decode cX7_dotsOfAll 29 = .ok (.ireturn, 1) := by decide +kernel
theorem dX7_edgeOf_0 : decode cX7_edgeOf 0 = .ok (.iconst 0, 1) := by decide +kernel
theorem dX7_edgeOf_1 : decode cX7_edgeOf 1 = .ok (.istore_n 2, 1) := by decide +kernel
theorem dX7_edgeOf_2 : decode cX7_edgeOf 2 = .ok (.iconst 0, 1) := by decide +kernel
theorem dX7_edgeOf_3 : decode cX7_edgeOf 3 = .ok (.istore_n 3, 1) := by decide +kernel
theorem dX7_edgeOf_4 : decode cX7_edgeOf 4 = .ok (.iload_n 3, 1) := by decide +kernel
theorem dX7_edgeOf_5 : decode cX7_edgeOf 5 = .ok (.aload_n 0, 1) := by decide +kernel
theorem dX7_edgeOf_6 : decode cX7_edgeOf 6 = .ok (.iload_n 1, 1) := by decide +kernel
theorem dX7_edgeOf_7 : decode cX7_edgeOf 7 = .ok (.invokevirtual 205, 3) := by decide +kernel
theorem dX7_edgeOf_10 : decode cX7_edgeOf 10 = .ok (.if_icmp .ge 56, 3) := by decide +kernel
theorem dX7_edgeOf_13 : decode cX7_edgeOf 13 = .ok (.iconst 0, 1) := by decide +kernel
theorem dX7_edgeOf_14 : decode cX7_edgeOf 14 = .ok (.istore 4, 2) := by decide +kernel
theorem dX7_edgeOf_16 : decode cX7_edgeOf 16 = .ok (.iload 4, 2) := by decide +kernel
theorem dX7_edgeOf_18 : decode cX7_edgeOf 18 = .ok (.aload_n 0, 1) := by decide +kernel
theorem dX7_edgeOf_19 : decode cX7_edgeOf 19 = .ok (.iload_n 1, 1) := by decide +kernel
theorem dX7_edgeOf_20 : decode cX7_edgeOf 20 = .ok (.invokevirtual 202, 3) := by decide +kernel
theorem dX7_edgeOf_23 : decode cX7_edgeOf 23 = .ok (.if_icmp .ge 37, 3) := by decide +kernel
theorem dX7_edgeOf_26 : decode cX7_edgeOf 26 = .ok (.iload_n 2, 1) := by decide +kernel
theorem dX7_edgeOf_27 : decode cX7_edgeOf 27 = .ok (.aload_n 0, 1) := by decide +kernel
theorem dX7_edgeOf_28 : decode cX7_edgeOf 28 = .ok (.iload_n 1, 1) := by decide +kernel
theorem dX7_edgeOf_29 : decode cX7_edgeOf 29 = .ok (.iload 4, 2) := by decide +kernel
theorem dX7_edgeOf_31 : decode cX7_edgeOf 31 = .ok (.iload_n 3, 1) := by decide +kernel
theorem dX7_edgeOf_32 : decode cX7_edgeOf 32 = .ok (.invokevirtual 215, 3) := by decide +kernel
theorem dX7_edgeOf_35 : decode cX7_edgeOf 35 = .ok (.ifCond .eq 16, 3) := by decide +kernel
theorem dX7_edgeOf_38 : decode cX7_edgeOf 38 = .ok (.iconst 4, 1) := by decide +kernel
theorem dX7_edgeOf_39 : decode cX7_edgeOf 39 = .ok (.aload_n 0, 1) := by decide +kernel
theorem dX7_edgeOf_40 : decode cX7_edgeOf 40 = .ok (.iload_n 1, 1) := by decide +kernel
theorem dX7_edgeOf_41 : decode cX7_edgeOf 41 = .ok (.iload 4, 2) := by decide +kernel
theorem dX7_edgeOf_43 : decode cX7_edgeOf 43 = .ok (.iload_n 3, 1) := by decide +kernel
theorem dX7_edgeOf_44 : decode cX7_edgeOf 44 = .ok (.invokevirtual 307, 3) := by decide +kernel
theorem dX7_edgeOf_47 : decode cX7_edgeOf 47 = .ok (.isub, 1) := by decide +kernel
theorem dX7_edgeOf_48 : decode cX7_edgeOf 48 = .ok (.goto 4, 3) := by decide +kernel
theorem dX7_edgeOf_51 : decode cX7_edgeOf 51 = .ok (.iconst 0, 1) := by decide +kernel
theorem dX7_edgeOf_52 : decode cX7_edgeOf 52 = .ok (.iadd, 1) := by decide +kernel
theorem dX7_edgeOf_53 : decode cX7_edgeOf 53 = .ok (.istore_n 2, 1) := by decide +kernel
theorem dX7_edgeOf_54 : decode cX7_edgeOf 54 = .ok (.iinc 4 1, 3) := by decide +kernel
theorem dX7_edgeOf_57 : decode cX7_edgeOf 57 = .ok (.goto (-41), 3) := by decide +kernel
theorem dX7_edgeOf_60 : decode cX7_edgeOf 60 = .ok (.iinc 3 1, 3) := by decide +kernel
theorem dX7_edgeOf_63 : decode cX7_edgeOf 63 = .ok (.goto (-59), 3) := by decide +kernel
theorem dX7_edgeOf_66 : decode cX7_edgeOf 66 = .ok (.iload_n 2, 1) := by decide +kernel
theorem dX7_edgeOf_67 : decode cX7_edgeOf 67 = .ok (.ireturn, 1) := by decide +kernel
theorem dX7_farthest_0 : decode cX7_farthest 0 = .ok (.iconst 0, 1) := by decide +kernel
theorem dX7_farthest_1 : decode cX7_farthest 1 = .ok (.istore_n 2, 1) := by decide +kernel
theorem dX7_farthest_2 : decode cX7_farthest 2 = .ok (.iconst 0, 1) := by decide +kernel
theorem dX7_farthest_3 : decode cX7_farthest 3 = .ok (.istore_n 3, 1) := by decide +kernel
theorem dX7_farthest_4 : decode cX7_farthest 4 = .ok (.iconst 0, 1) := by decide +kernel
theorem dX7_farthest_5 : decode cX7_farthest 5 = .ok (.istore 4, 2) := by decide +kernel
theorem dX7_farthest_7 : decode cX7_farthest 7 = .ok (.iconst 0, 1) := by decide +kernel
theorem dX7_farthest_8 : decode cX7_farthest 8 = .ok (.istore 5, 2) := by decide +kernel
theorem dX7_farthest_10 : decode cX7_farthest 10 = .ok (.iconst 0, 1) := by decide +kernel
theorem dX7_farthest_11 : decode cX7_farthest 11 = .ok (.istore 6, 2) := by decide +kernel
theorem dX7_farthest_13 : decode cX7_farthest 13 = .ok (.iconst 0, 1) := by decide +kernel
theorem dX7_farthest_14 : decode cX7_farthest 14 = .ok (.istore 7, 2) := by decide +kernel
theorem dX7_farthest_16 : decode cX7_farthest 16 = .ok (.iload 7, 2) := by decide +kernel
theorem dX7_farthest_18 : decode cX7_farthest 18 = .ok (.aload_n 0, 1) := by decide +kernel
theorem dX7_farthest_19 : decode cX7_farthest 19 = .ok (.iload_n 1, 1) := by decide +kernel
theorem dX7_farthest_20 : decode cX7_farthest 20 = .ok (.invokevirtual 205, 3) := by decide +kernel
theorem dX7_farthest_23 : decode cX7_farthest 23 = .ok (.if_icmp .ge 140, 3) := by decide +kernel
theorem dX7_farthest_26 : decode cX7_farthest 26 = .ok (.iconst 0, 1) := by decide +kernel
theorem dX7_farthest_27 : decode cX7_farthest 27 = .ok (.istore 8, 2) := by decide +kernel
theorem dX7_farthest_29 : decode cX7_farthest 29 = .ok (.iload 8, 2) := by decide +kernel
theorem dX7_farthest_31 : decode cX7_farthest 31 = .ok (.aload_n 0, 1) := by decide +kernel
theorem dX7_farthest_32 : decode cX7_farthest 32 = .ok (.iload_n 1, 1) := by decide +kernel
theorem dX7_farthest_33 : decode cX7_farthest 33 = .ok (.invokevirtual 202, 3) := by decide +kernel
theorem dX7_farthest_36 : decode cX7_farthest 36 = .ok (.if_icmp .ge 121, 3) := by decide +kernel
theorem dX7_farthest_39 : decode cX7_farthest 39 = .ok (.aload_n 0, 1) := by decide +kernel
theorem dX7_farthest_40 : decode cX7_farthest 40 = .ok (.iload_n 1, 1) := by decide +kernel
theorem dX7_farthest_41 : decode cX7_farthest 41 = .ok (.iload 8, 2) := by decide +kernel
theorem dX7_farthest_43 : decode cX7_farthest 43 = .ok (.iload 7, 2) := by decide +kernel
theorem dX7_farthest_45 : decode cX7_farthest 45 = .ok (.invokevirtual 215, 3) := by decide +kernel
theorem dX7_farthest_48 : decode cX7_farthest 48 = .ok (.ifCond .ne 6, 3) := by decide +kernel
theorem dX7_farthest_51 : decode cX7_farthest 51 = .ok (.goto 100, 3) := by decide +kernel
theorem dX7_farthest_54 : decode cX7_farthest 54 = .ok (.iload_n 2, 1) := by decide +kernel
theorem dX7_farthest_55 : decode cX7_farthest 55 = .ok (.ifCond .ne 11, 3) := by decide +kernel
theorem dX7_farthest_58 : decode cX7_farthest 58 = .ok (.iload 8, 2) := by decide +kernel
theorem dX7_farthest_60 : decode cX7_farthest 60 = .ok (.iload 7, 2) := by decide +kernel
theorem dX7_farthest_62 : decode cX7_farthest 62 = .ok (.iadd, 1) := by decide +kernel
theorem dX7_farthest_63 : decode cX7_farthest 63 = .ok (.goto 12, 3) := by decide +kernel
theorem dX7_farthest_66 : decode cX7_farthest 66 = .ok (.iload_n 3, 1) := by decide +kernel
theorem dX7_farthest_67 : decode cX7_farthest 67 = .ok (.iload 8, 2) := by decide +kernel
theorem dX7_farthest_69 : decode cX7_farthest 69 = .ok (.iload 7, 2) := by decide +kernel
theorem dX7_farthest_71 : decode cX7_farthest 71 = .ok (.iadd, 1) := by decide +kernel
theorem dX7_farthest_72 : decode cX7_farthest 72 = .ok (.invokestatic 121, 3) := by decide +kernel
theorem dX7_farthest_75 : decode cX7_farthest 75 = .ok (.istore_n 3, 1) := by decide +kernel
theorem dX7_farthest_76 : decode cX7_farthest 76 = .ok (.iload_n 2, 1) := by decide +kernel
theorem dX7_farthest_77 : decode cX7_farthest 77 = .ok (.ifCond .ne 11, 3) := by decide +kernel
theorem dX7_farthest_80 : decode cX7_farthest 80 = .ok (.iload 8, 2) := by decide +kernel
theorem dX7_farthest_82 : decode cX7_farthest 82 = .ok (.iload 7, 2) := by decide +kernel
theorem dX7_farthest_84 : decode cX7_farthest 84 = .ok (.iadd, 1) := by decide +kernel
theorem dX7_farthest_85 : decode cX7_farthest 85 = .ok (.goto 13, 3) := by decide +kernel
theorem dX7_farthest_88 : decode cX7_farthest 88 = .ok (.iload 4, 2) := by decide +kernel
theorem dX7_farthest_90 : decode cX7_farthest 90 = .ok (.iload 8, 2) := by decide +kernel
theorem dX7_farthest_92 : decode cX7_farthest 92 = .ok (.iload 7, 2) := by decide +kernel
theorem dX7_farthest_94 : decode cX7_farthest 94 = .ok (.iadd, 1) := by decide +kernel
theorem dX7_farthest_95 : decode cX7_farthest 95 = .ok (.invokestatic 219, 3) := by decide +kernel
theorem dX7_farthest_98 : decode cX7_farthest 98 = .ok (.istore 4, 2) := by decide +kernel
theorem dX7_farthest_100 : decode cX7_farthest 100 = .ok (.iload_n 2, 1) := by decide +kernel
theorem dX7_farthest_101 : decode cX7_farthest 101 = .ok (.ifCond .ne 11, 3) := by decide +kernel
theorem dX7_farthest_104 : decode cX7_farthest 104 = .ok (.iload 8, 2) := by decide +kernel
theorem dX7_farthest_106 : decode cX7_farthest 106 = .ok (.iload 7, 2) := by decide +kernel
theorem dX7_farthest_108 : decode cX7_farthest 108 = .ok (.isub, 1) := by decide +kernel
theorem dX7_farthest_109 : decode cX7_farthest 109 = .ok (.goto 13, 3) := by decide +kernel
theorem dX7_farthest_112 : decode cX7_farthest 112 = .ok (.iload 5, 2) := by decide +kernel
theorem dX7_farthest_114 : decode cX7_farthest 114 = .ok (.iload 8, 2) := by decide +kernel
theorem dX7_farthest_116 : decode cX7_farthest 116 = .ok (.iload 7, 2) := by decide +kernel
theorem dX7_farthest_118 : decode cX7_farthest 118 = .ok (.isub, 1) := by decide +kernel
theorem dX7_farthest_119 : decode cX7_farthest 119 = .ok (.invokestatic 121, 3) := by decide +kernel
theorem dX7_farthest_122 : decode cX7_farthest 122 = .ok (.istore 5, 2) := by decide +kernel
theorem dX7_farthest_124 : decode cX7_farthest 124 = .ok (.iload_n 2, 1) := by decide +kernel
theorem dX7_farthest_125 : decode cX7_farthest 125 = .ok (.ifCond .ne 11, 3) := by decide +kernel
theorem dX7_farthest_128 : decode cX7_farthest 128 = .ok (.iload 8, 2) := by decide +kernel
theorem dX7_farthest_130 : decode cX7_farthest 130 = .ok (.iload 7, 2) := by decide +kernel
theorem dX7_farthest_132 : decode cX7_farthest 132 = .ok (.isub, 1) := by decide +kernel
theorem dX7_farthest_133 : decode cX7_farthest 133 = .ok (.goto 13, 3) := by decide +kernel
theorem dX7_farthest_136 : decode cX7_farthest 136 = .ok (.iload 6, 2) := by decide +kernel
theorem dX7_farthest_138 : decode cX7_farthest 138 = .ok (.iload 8, 2) := by decide +kernel
theorem dX7_farthest_140 : decode cX7_farthest 140 = .ok (.iload 7, 2) := by decide +kernel
theorem dX7_farthest_142 : decode cX7_farthest 142 = .ok (.isub, 1) := by decide +kernel
theorem dX7_farthest_143 : decode cX7_farthest 143 = .ok (.invokestatic 219, 3) := by decide +kernel
theorem dX7_farthest_146 : decode cX7_farthest 146 = .ok (.istore 6, 2) := by decide +kernel
theorem dX7_farthest_148 : decode cX7_farthest 148 = .ok (.iinc 2 1, 3) := by decide +kernel
theorem dX7_farthest_151 : decode cX7_farthest 151 = .ok (.iinc 8 1, 3) := by decide +kernel
theorem dX7_farthest_154 : decode cX7_farthest 154 = .ok (.goto (-125), 3) := by decide +kernel
theorem dX7_farthest_157 : decode cX7_farthest 157 = .ok (.iinc 7 1, 3) := by decide +kernel
theorem dX7_farthest_160 : decode cX7_farthest 160 = .ok (.goto (-144), 3) := by decide +kernel
theorem dX7_farthest_163 : decode cX7_farthest 163 = .ok (.iload 4, 2) := by decide +kernel
theorem dX7_farthest_165 : decode cX7_farthest 165 = .ok (.iload_n 3, 1) := by decide +kernel
theorem dX7_farthest_166 : decode cX7_farthest 166 = .ok (.isub, 1) := by decide +kernel
theorem dX7_farthest_167 : decode cX7_farthest 167 = .ok (.iload 6, 2) := by decide +kernel
theorem dX7_farthest_169 : decode cX7_farthest 169 = .ok (.iload 5, 2) := by decide +kernel
theorem dX7_farthest_171 : decode cX7_farthest 171 = .ok (.isub, 1) := by decide +kernel
theorem dX7_farthest_172 : decode cX7_farthest 172 = .ok (.invokestatic 219, 3) := by decide +kernel
theorem dX7_farthest_175 : decode cX7_farthest 175 = .ok (.ireturn, 1) := by decide +kernel
theorem dX7_first_0 : decode cX7_first 0 = .ok (.aload_n 0, 1) := by decide +kernel
theorem dX7_first_1 : decode cX7_first 1 = .ok (.iload_n 1, 1) := by decide +kernel
theorem dX7_first_2 : decode cX7_first 2 = .ok (.iload_n 2, 1) := by decide +kernel
theorem dX7_first_3 : decode cX7_first 3 = .ok (.invokevirtual 382, 3) := by decide +kernel
theorem dX7_first_6 : decode cX7_first 6 = .ok (.ifCond .eq 15, 3) := by decide +kernel
theorem dX7_first_9 : decode cX7_first 9 = .ok (.iload_n 3, 1) := by decide +kernel
theorem dX7_first_10 : decode cX7_first 10 = .ok (.i2l, 1) := by decide +kernel
theorem dX7_first_11 : decode cX7_first 11 = .ok (.lconst 0, 1) := by decide +kernel
theorem dX7_first_12 : decode cX7_first 12 = .ok (.ldc2_w 402, 3) := by decide +kernel
theorem dX7_first_15 : decode cX7_first 15 = .ok (.invokestatic 96, 3) := by decide +kernel
theorem dX7_first_18 : decode cX7_first 18 = .ok (.ifCond .ne 5, 3) := by decide +kernel
theorem dX7_first_21 : decode cX7_first 21 = .ok (.iconst (-1), 1) := by decide +kernel
theorem dX7_first_22 : decode cX7_first 22 = .ok (.ireturn, 1) := by decide +kernel
theorem dX7_first_23 : decode cX7_first 23 = .ok (.aload_n 0, 1) := by decide +kernel
theorem dX7_first_24 : decode cX7_first 24 = .ok (.invokevirtual 331, 3) := by decide +kernel
theorem dX7_first_27 : decode cX7_first 27 = .ok (.aload_n 0, 1) := by decide +kernel
theorem dX7_first_28 : decode cX7_first 28 = .ok (.iload_n 1, 1) := by decide +kernel
theorem dX7_first_29 : decode cX7_first 29 = .ok (.bipush 6, 2) := by decide +kernel
theorem dX7_first_31 : decode cX7_first 31 = .ok (.invokevirtual 199, 3) := by decide +kernel
theorem dX7_first_34 : decode cX7_first 34 = .ok (.aload_n 0, 1) := by decide +kernel
theorem dX7_first_35 : decode cX7_first 35 = .ok (.iload_n 2, 1) := by decide +kernel
theorem dX7_first_36 : decode cX7_first 36 = .ok (.bipush 6, 2) := by decide +kernel
theorem dX7_first_38 : decode cX7_first 38 = .ok (.invokevirtual 199, 3) := by decide +kernel
theorem dX7_first_41 : decode cX7_first 41 = .ok (.isub, 1) := by decide +kernel
theorem dX7_first_42 : decode cX7_first 42 = .ok (.istore 4, 2) := by decide +kernel
theorem dX7_first_44 : decode cX7_first 44 = .ok (.aload_n 0, 1) := by decide +kernel
theorem dX7_first_45 : decode cX7_first 45 = .ok (.iload_n 1, 1) := by decide +kernel
theorem dX7_first_46 : decode cX7_first 46 = .ok (.bipush 7, 2) := by decide +kernel
theorem dX7_first_48 : decode cX7_first 48 = .ok (.invokevirtual 199, 3) := by decide +kernel
theorem dX7_first_51 : decode cX7_first 51 = .ok (.aload_n 0, 1) := by decide +kernel
theorem dX7_first_52 : decode cX7_first 52 = .ok (.iload_n 2, 1) := by decide +kernel
theorem dX7_first_53 : decode cX7_first 53 = .ok (.bipush 7, 2) := by decide +kernel
theorem dX7_first_55 : decode cX7_first 55 = .ok (.invokevirtual 199, 3) := by decide +kernel
theorem dX7_first_58 : decode cX7_first 58 = .ok (.isub, 1) := by decide +kernel
theorem dX7_first_59 : decode cX7_first 59 = .ok (.istore 5, 2) := by decide +kernel
theorem dX7_first_61 : decode cX7_first 61 = .ok (.iconst 0, 1) := by decide +kernel
theorem dX7_first_62 : decode cX7_first 62 = .ok (.istore 6, 2) := by decide +kernel
theorem dX7_first_64 : decode cX7_first 64 = .ok (.iload 6, 2) := by decide +kernel
theorem dX7_first_66 : decode cX7_first 66 = .ok (.iload_n 3, 1) := by decide +kernel
theorem dX7_first_67 : decode cX7_first 67 = .ok (.if_icmp .gt 31, 3) := by decide +kernel
theorem dX7_first_70 : decode cX7_first 70 = .ok (.aload_n 0, 1) := by decide +kernel
theorem dX7_first_71 : decode cX7_first 71 = .ok (.iload_n 1, 1) := by decide +kernel
theorem dX7_first_72 : decode cX7_first 72 = .ok (.iload_n 2, 1) := by decide +kernel
theorem dX7_first_73 : decode cX7_first 73 = .ok (.iload 6, 2) := by decide +kernel
theorem dX7_first_75 : decode cX7_first 75 = .ok (.iload 4, 2) := by decide +kernel
theorem dX7_first_77 : decode cX7_first 77 = .ok (.imul, 1) := by decide +kernel
theorem dX7_first_78 : decode cX7_first 78 = .ok (.iload 6, 2) := by decide +kernel
theorem dX7_first_80 : decode cX7_first 80 = .ok (.iload 5, 2) := by decide +kernel
theorem dX7_first_82 : decode cX7_first 82 = .ok (.imul, 1) := by decide +kernel
theorem dX7_first_83 : decode cX7_first 83 = .ok (.invokevirtual 247, 3) := by decide +kernel
theorem dX7_first_86 : decode cX7_first 86 = .ok (.ifCond .eq 6, 3) := by decide +kernel
theorem dX7_first_89 : decode cX7_first 89 = .ok (.iload 6, 2) := by decide +kernel
theorem dX7_first_91 : decode cX7_first 91 = .ok (.ireturn, 1) := by decide +kernel
theorem dX7_first_92 : decode cX7_first 92 = .ok (.iinc 6 1, 3) := by decide +kernel
theorem dX7_first_95 : decode cX7_first 95 = .ok (.goto (-31), 3) := by decide +kernel
theorem dX7_first_98 : decode cX7_first 98 = .ok (.bipush (-2), 2) := by decide +kernel
theorem dX7_first_100 : decode cX7_first 100 = .ok (.ireturn, 1) := by decide +kernel
theorem dX7_gap_0 : decode cX7_gap 0 = .ok (.aload_n 0, 1) := by decide +kernel
theorem dX7_gap_1 : decode cX7_gap 1 = .ok (.iload_n 1, 1) := by decide +kernel
theorem dX7_gap_2 : decode cX7_gap 2 = .ok (.iload_n 2, 1) := by decide +kernel
theorem dX7_gap_3 : decode cX7_gap 3 = .ok (.invokevirtual 382, 3) := by decide +kernel
theorem dX7_gap_6 : decode cX7_gap 6 = .ok (.ifCond .eq 15, 3) := by decide +kernel
theorem dX7_gap_9 : decode cX7_gap 9 = .ok (.iload_n 3, 1) := by decide +kernel
theorem dX7_gap_10 : decode cX7_gap 10 = .ok (.i2l, 1) := by decide +kernel
theorem dX7_gap_11 : decode cX7_gap 11 = .ok (.lconst 0, 1) := by decide +kernel
theorem dX7_gap_12 : decode cX7_gap 12 = .ok (.ldc2_w 289, 3) := by decide +kernel
theorem dX7_gap_15 : decode cX7_gap 15 = .ok (.invokestatic 96, 3) := by decide +kernel
theorem dX7_gap_18 : decode cX7_gap 18 = .ok (.ifCond .ne 5, 3) := by decide +kernel
theorem dX7_gap_21 : decode cX7_gap 21 = .ok (.iconst (-1), 1) := by decide +kernel
theorem dX7_gap_22 : decode cX7_gap 22 = .ok (.ireturn, 1) := by decide +kernel
theorem dX7_gap_23 : decode cX7_gap 23 = .ok (.aload_n 0, 1) := by decide +kernel
theorem dX7_gap_24 : decode cX7_gap 24 = .ok (.invokevirtual 331, 3) := by decide +kernel
theorem dX7_gap_27 : decode cX7_gap 27 = .ok (.iconst 0, 1) := by decide +kernel
theorem dX7_gap_28 : decode cX7_gap 28 = .ok (.istore 4, 2) := by decide +kernel
theorem dX7_gap_30 : decode cX7_gap 30 = .ok (.iload 4, 2) := by decide +kernel
theorem dX7_gap_32 : decode cX7_gap 32 = .ok (.sipush 500, 3) := by decide +kernel
theorem dX7_gap_35 : decode cX7_gap 35 = .ok (.if_icmp .gt 64, 3) := by decide +kernel
theorem dX7_gap_38 : decode cX7_gap 38 = .ok (.aload_n 0, 1) := by decide +kernel
theorem dX7_gap_39 : decode cX7_gap 39 = .ok (.iload_n 1, 1) := by decide +kernel
theorem dX7_gap_40 : decode cX7_gap 40 = .ok (.iload_n 2, 1) := by decide +kernel
theorem dX7_gap_41 : decode cX7_gap 41 = .ok (.iload_n 3, 1) := by decide +kernel
theorem dX7_gap_42 : decode cX7_gap 42 = .ok (.ifCond .ne 8, 3) := by decide +kernel
theorem dX7_gap_45 : decode cX7_gap 45 = .ok (.iload 4, 2) := by decide +kernel
theorem dX7_gap_47 : decode cX7_gap 47 = .ok (.goto 15, 3) := by decide +kernel
theorem dX7_gap_50 : decode cX7_gap 50 = .ok (.iload_n 3, 1) := by decide +kernel
theorem dX7_gap_51 : decode cX7_gap 51 = .ok (.iconst 1, 1) := by decide +kernel
theorem dX7_gap_52 : decode cX7_gap 52 = .ok (.if_icmp .ne 9, 3) := by decide +kernel
theorem dX7_gap_55 : decode cX7_gap 55 = .ok (.iload 4, 2) := by decide +kernel
theorem dX7_gap_57 : decode cX7_gap 57 = .ok (.ineg, 1) := by decide +kernel
theorem dX7_gap_58 : decode cX7_gap 58 = .ok (.goto 4, 3) := by decide +kernel
theorem dX7_gap_61 : decode cX7_gap 61 = .ok (.iconst 0, 1) := by decide +kernel
theorem dX7_gap_62 : decode cX7_gap 62 = .ok (.iload_n 3, 1) := by decide +kernel
theorem dX7_gap_63 : decode cX7_gap 63 = .ok (.iconst 2, 1) := by decide +kernel
theorem dX7_gap_64 : decode cX7_gap 64 = .ok (.if_icmp .ne 8, 3) := by decide +kernel
theorem dX7_gap_67 : decode cX7_gap 67 = .ok (.iload 4, 2) := by decide +kernel
theorem dX7_gap_69 : decode cX7_gap 69 = .ok (.goto 15, 3) := by decide +kernel
theorem dX7_gap_72 : decode cX7_gap 72 = .ok (.iload_n 3, 1) := by decide +kernel
theorem dX7_gap_73 : decode cX7_gap 73 = .ok (.iconst 3, 1) := by decide +kernel
theorem dX7_gap_74 : decode cX7_gap 74 = .ok (.if_icmp .ne 9, 3) := by decide +kernel
theorem dX7_gap_77 : decode cX7_gap 77 = .ok (.iload 4, 2) := by decide +kernel
theorem dX7_gap_79 : decode cX7_gap 79 = .ok (.ineg, 1) := by decide +kernel
theorem dX7_gap_80 : decode cX7_gap 80 = .ok (.goto 4, 3) := by decide +kernel
theorem dX7_gap_83 : decode cX7_gap 83 = .ok (.iconst 0, 1) := by decide +kernel
theorem dX7_gap_84 : decode cX7_gap 84 = .ok (.invokevirtual 247, 3) := by decide +kernel
theorem dX7_gap_87 : decode cX7_gap 87 = .ok (.ifCond .eq 6, 3) := by decide +kernel
theorem dX7_gap_90 : decode cX7_gap 90 = .ok (.iload 4, 2) := by decide +kernel
theorem dX7_gap_92 : decode cX7_gap 92 = .ok (.ireturn, 1) := by decide +kernel
theorem dX7_gap_93 : decode cX7_gap 93 = .ok (.iinc 4 1, 3) := by decide +kernel
theorem dX7_gap_96 : decode cX7_gap 96 = .ok (.goto (-66), 3) := by decide +kernel
theorem dX7_gap_99 : decode cX7_gap 99 = .ok (.bipush (-2), 2) := by decide +kernel
theorem dX7_gap_101 : decode cX7_gap 101 = .ok (.ireturn, 1) := by decide +kernel
theorem dX7_letter_0 : decode cX7_letter 0 = .ok (.aload_n 0, 1) := by decide +kernel
theorem dX7_letter_1 : decode cX7_letter 1 = .ok (.iload_n 1, 1) := by decide +kernel
theorem dX7_letter_2 : decode cX7_letter 2 = .ok (.invokevirtual 301, 3) := by decide +kernel
theorem dX7_letter_5 : decode cX7_letter 5 = .ok (.ifCond .eq 8, 3) := by decide +kernel
theorem dX7_letter_8 : decode cX7_letter 8 = .ok (.iload_n 2, 1) := by decide +kernel
theorem dX7_letter_9 : decode cX7_letter 9 = .ok (.iconst (-1), 1) := by decide +kernel
theorem dX7_letter_10 : decode cX7_letter 10 = .ok (.if_icmp .ge 5, 3) := by decide +kernel
theorem dX7_letter_13 : decode cX7_letter 13 = .ok (.iconst (-1), 1) := by decide +kernel
theorem dX7_letter_14 : decode cX7_letter 14 = .ok (.ireturn, 1) := by decide +kernel
theorem dX7_letter_15 : decode cX7_letter 15 = .ok (.aload_n 0, 1) := by decide +kernel
theorem dX7_letter_16 : decode cX7_letter 16 = .ok (.iload_n 1, 1) := by decide +kernel
theorem dX7_letter_17 : decode cX7_letter 17 = .ok (.invokevirtual 202, 3) := by decide +kernel
theorem dX7_letter_20 : decode cX7_letter 20 = .ok (.iconst 1, 1) := by decide +kernel
theorem dX7_letter_21 : decode cX7_letter 21 = .ok (.iadd, 1) := by decide +kernel
theorem dX7_letter_22 : decode cX7_letter 22 = .ok (.istore_n 3, 1) := by decide +kernel
theorem dX7_letter_23 : decode cX7_letter 23 = .ok (.iload_n 3, 1) := by decide +kernel
theorem dX7_letter_24 : decode cX7_letter 24 = .ok (.aload_n 0, 1) := by decide +kernel
theorem dX7_letter_25 : decode cX7_letter 25 = .ok (.iload_n 1, 1) := by decide +kernel
theorem dX7_letter_26 : decode cX7_letter 26 = .ok (.invokevirtual 205, 3) := by decide +kernel
theorem dX7_letter_29 : decode cX7_letter 29 = .ok (.imul, 1) := by decide +kernel
theorem dX7_letter_30 : decode cX7_letter 30 = .ok (.iconst 1, 1) := by decide +kernel
theorem dX7_letter_31 : decode cX7_letter 31 = .ok (.isub, 1) := by decide +kernel
theorem dX7_letter_32 : decode cX7_letter 32 = .ok (.istore 4, 2) := by decide +kernel
theorem dX7_letter_34 : decode cX7_letter 34 = .ok (.iload_n 2, 1) := by decide +kernel
theorem dX7_letter_35 : decode cX7_letter 35 = .ok (.iconst (-1), 1) := by decide +kernel
theorem dX7_letter_36 : decode cX7_letter 36 = .ok (.if_icmp .ne 6, 3) := by decide +kernel
theorem dX7_letter_39 : decode cX7_letter 39 = .ok (.iload 4, 2) := by decide +kernel
theorem dX7_letter_41 : decode cX7_letter 41 = .ok (.ireturn, 1) := by decide +kernel
theorem dX7_letter_42 : decode cX7_letter 42 = .ok (.iload_n 2, 1) := by decide +kernel
theorem dX7_letter_43 : decode cX7_letter 43 = .ok (.iload 4, 2) := by decide +kernel
theorem dX7_letter_45 : decode cX7_letter 45 = .ok (.if_icmp .lt 8, 3) := by decide +kernel
theorem dX7_letter_48 : decode cX7_letter 48 = .ok (.bipush (-2), 2) := by decide +kernel
theorem dX7_letter_50 : decode cX7_letter 50 = .ok (.goto 40, 3) := by decide +kernel
theorem dX7_letter_53 : decode cX7_letter 53 = .ok (.iload_n 2, 1) := by decide +kernel
theorem dX7_letter_54 : decode cX7_letter 54 = .ok (.iload_n 3, 1) := by decide +kernel
theorem dX7_letter_55 : decode cX7_letter 55 = .ok (.irem, 1) := by decide +kernel
theorem dX7_letter_56 : decode cX7_letter 56 = .ok (.aload_n 0, 1) := by decide +kernel
theorem dX7_letter_57 : decode cX7_letter 57 = .ok (.iload_n 1, 1) := by decide +kernel
theorem dX7_letter_58 : decode cX7_letter 58 = .ok (.invokevirtual 202, 3) := by decide +kernel
theorem dX7_letter_61 : decode cX7_letter 61 = .ok (.if_icmp .ne 8, 3) := by decide +kernel
theorem dX7_letter_64 : decode cX7_letter 64 = .ok (.bipush 47, 2) := by decide +kernel
theorem dX7_letter_66 : decode cX7_letter 66 = .ok (.goto 24, 3) := by decide +kernel
theorem dX7_letter_69 : decode cX7_letter 69 = .ok (.aload_n 0, 1) := by decide +kernel
theorem dX7_letter_70 : decode cX7_letter 70 = .ok (.iload_n 1, 1) := by decide +kernel
theorem dX7_letter_71 : decode cX7_letter 71 = .ok (.iload_n 2, 1) := by decide +kernel
theorem dX7_letter_72 : decode cX7_letter 72 = .ok (.iload_n 3, 1) := by decide +kernel
theorem dX7_letter_73 : decode cX7_letter 73 = .ok (.irem, 1) := by decide +kernel
theorem dX7_letter_74 : decode cX7_letter 74 = .ok (.iload_n 2, 1) := by decide +kernel
theorem dX7_letter_75 : decode cX7_letter 75 = .ok (.iload_n 3, 1) := by decide +kernel
theorem dX7_letter_76 : decode cX7_letter 76 = .ok (.idiv, 1) := by decide +kernel
theorem dX7_letter_77 : decode cX7_letter 77 = .ok (.invokevirtual 215, 3) := by decide +kernel
theorem dX7_letter_80 : decode cX7_letter 80 = .ok (.ifCond .eq 8, 3) := by decide +kernel
theorem dX7_letter_83 : decode cX7_letter 83 = .ok (.bipush 35, 2) := by decide +kernel
theorem dX7_letter_85 : decode cX7_letter 85 = .ok (.goto 5, 3) := by decide +kernel
theorem dX7_letter_88 : decode cX7_letter 88 = .ok (.bipush 46, 2) := by decide +kernel
theorem dX7_letter_90 : decode cX7_letter 90 = .ok (.ireturn, 1) := by decide +kernel
theorem dX7_like_0 : decode cX7_like 0 = .ok (.aload_n 0, 1) := by decide +kernel
theorem dX7_like_1 : decode cX7_like 1 = .ok (.iload_n 1, 1) := by decide +kernel
theorem dX7_like_2 : decode cX7_like 2 = .ok (.invokevirtual 301, 3) := by decide +kernel
theorem dX7_like_5 : decode cX7_like 5 = .ok (.ifCond .ne 5, 3) := by decide +kernel
theorem dX7_like_8 : decode cX7_like 8 = .ok (.iconst (-1), 1) := by decide +kernel
theorem dX7_like_9 : decode cX7_like 9 = .ok (.ireturn, 1) := by decide +kernel
theorem dX7_like_10 : decode cX7_like 10 = .ok (.iconst 0, 1) := by decide +kernel
theorem dX7_like_11 : decode cX7_like 11 = .ok (.istore_n 2, 1) := by decide +kernel
theorem dX7_like_12 : decode cX7_like 12 = .ok (.iconst 0, 1) := by decide +kernel
theorem dX7_like_13 : decode cX7_like 13 = .ok (.istore_n 3, 1) := by decide +kernel
theorem dX7_like_14 : decode cX7_like 14 = .ok (.iload_n 3, 1) := by decide +kernel
theorem dX7_like_15 : decode cX7_like 15 = .ok (.iconst 4, 1) := by decide +kernel
theorem dX7_like_16 : decode cX7_like 16 = .ok (.if_icmp .ge 29, 3) := by decide +kernel
theorem dX7_like_19 : decode cX7_like 19 = .ok (.iload_n 2, 1) := by decide +kernel
theorem dX7_like_20 : decode cX7_like 20 = .ok (.aload_n 0, 1) := by decide +kernel
theorem dX7_like_21 : decode cX7_like 21 = .ok (.iload_n 1, 1) := by decide +kernel
theorem dX7_like_22 : decode cX7_like 22 = .ok (.iload_n 1, 1) := by decide +kernel
theorem dX7_like_23 : decode cX7_like 23 = .ok (.iload_n 3, 1) := by decide +kernel
theorem dX7_like_24 : decode cX7_like 24 = .ok (.invokevirtual 416, 3) := by decide +kernel
theorem dX7_like_27 : decode cX7_like 27 = .ok (.ifCond .eq 9, 3) := by decide +kernel
theorem dX7_like_30 : decode cX7_like 30 = .ok (.iconst 1, 1) := by decide +kernel
theorem dX7_like_31 : decode cX7_like 31 = .ok (.iload_n 3, 1) := by decide +kernel
theorem dX7_like_32 : decode cX7_like 32 = .ok (.ishl, 1) := by decide +kernel
theorem dX7_like_33 : decode cX7_like 33 = .ok (.goto 4, 3) := by decide +kernel
theorem dX7_like_36 : decode cX7_like 36 = .ok (.iconst 0, 1) := by decide +kernel
theorem dX7_like_37 : decode cX7_like 37 = .ok (.ior, 1) := by decide +kernel
theorem dX7_like_38 : decode cX7_like 38 = .ok (.istore_n 2, 1) := by decide +kernel
theorem dX7_like_39 : decode cX7_like 39 = .ok (.iinc 3 1, 3) := by decide +kernel
theorem dX7_like_42 : decode cX7_like 42 = .ok (.goto (-28), 3) := by decide +kernel
theorem dX7_like_45 : decode cX7_like 45 = .ok (.iload_n 2, 1) := by decide +kernel
theorem dX7_like_46 : decode cX7_like 46 = .ok (.ireturn, 1) := by decide +kernel
theorem dX7_masksMeet_0 : decode cX7_masksMeet 0 = .ok (.iconst 0, 1) := by decide +kernel
theorem dX7_masksMeet_1 : decode cX7_masksMeet 1 = .ok (.iload 4, 2) := by decide +kernel
theorem dX7_masksMeet_3 : decode cX7_masksMeet 3 = .ok (.ineg, 1) := by decide +kernel
theorem dX7_masksMeet_4 : decode cX7_masksMeet 4 = .ok (.invokestatic 219, 3) := by decide +kernel
theorem dX7_masksMeet_7 : decode cX7_masksMeet 7 = .ok (.istore 5, 2) := by decide +kernel
theorem dX7_masksMeet_9 : decode cX7_masksMeet 9 = .ok (.iload 5, 2) := by decide +kernel
theorem dX7_masksMeet_11 : decode cX7_masksMeet 11 = .ok (.aload_n 0, 1) := by decide +kernel
theorem dX7_masksMeet_12 : decode cX7_masksMeet 12 = .ok (.iload_n 1, 1) := by decide +kernel
theorem dX7_masksMeet_13 : decode cX7_masksMeet 13 = .ok (.invokevirtual 205, 3) := by decide +kernel
theorem dX7_masksMeet_16 : decode cX7_masksMeet 16 = .ok (.if_icmp .ge 117, 3) := by decide +kernel
theorem dX7_masksMeet_19 : decode cX7_masksMeet 19 = .ok (.iload 5, 2) := by decide +kernel
theorem dX7_masksMeet_21 : decode cX7_masksMeet 21 = .ok (.iload 4, 2) := by decide +kernel
theorem dX7_masksMeet_23 : decode cX7_masksMeet 23 = .ok (.iadd, 1) := by decide +kernel
theorem dX7_masksMeet_24 : decode cX7_masksMeet 24 = .ok (.aload_n 0, 1) := by decide +kernel
theorem dX7_masksMeet_25 : decode cX7_masksMeet 25 = .ok (.iload_n 2, 1) := by decide +kernel
theorem dX7_masksMeet_26 : decode cX7_masksMeet 26 = .ok (.invokevirtual 205, 3) := by decide +kernel
theorem dX7_masksMeet_29 : decode cX7_masksMeet 29 = .ok (.if_icmp .ge 104, 3) := by decide +kernel
theorem dX7_masksMeet_32 : decode cX7_masksMeet 32 = .ok (.bipush 80, 2) := by decide +kernel
theorem dX7_masksMeet_34 : decode cX7_masksMeet 34 = .ok (.iload_n 1, 1) := by decide +kernel
theorem dX7_masksMeet_35 : decode cX7_masksMeet 35 = .ok (.imul, 1) := by decide +kernel
theorem dX7_masksMeet_36 : decode cX7_masksMeet 36 = .ok (.iconst 2, 1) := by decide +kernel
theorem dX7_masksMeet_37 : decode cX7_masksMeet 37 = .ok (.iload 5, 2) := by decide +kernel
theorem dX7_masksMeet_39 : decode cX7_masksMeet 39 = .ok (.imul, 1) := by decide +kernel
theorem dX7_masksMeet_40 : decode cX7_masksMeet 40 = .ok (.iadd, 1) := by decide +kernel
theorem dX7_masksMeet_41 : decode cX7_masksMeet 41 = .ok (.istore 6, 2) := by decide +kernel
theorem dX7_masksMeet_43 : decode cX7_masksMeet 43 = .ok (.bipush 80, 2) := by decide +kernel
theorem dX7_masksMeet_45 : decode cX7_masksMeet 45 = .ok (.iload_n 2, 1) := by decide +kernel
theorem dX7_masksMeet_46 : decode cX7_masksMeet 46 = .ok (.imul, 1) := by decide +kernel
theorem dX7_masksMeet_47 : decode cX7_masksMeet 47 = .ok (.iconst 2, 1) := by decide +kernel
theorem dX7_masksMeet_48 : decode cX7_masksMeet 48 = .ok (.iload 5, 2) := by decide +kernel
theorem dX7_masksMeet_50 : decode cX7_masksMeet 50 = .ok (.iload 4, 2) := by decide +kernel
theorem dX7_masksMeet_52 : decode cX7_masksMeet 52 = .ok (.iadd, 1) := by decide +kernel
theorem dX7_masksMeet_53 : decode cX7_masksMeet 53 = .ok (.imul, 1) := by decide +kernel
theorem dX7_masksMeet_54 : decode cX7_masksMeet 54 = .ok (.iadd, 1) := by decide +kernel
theorem dX7_masksMeet_55 : decode cX7_masksMeet 55 = .ok (.istore 7, 2) := by decide +kernel
theorem dX7_masksMeet_57 : decode cX7_masksMeet 57 = .ok (.aload_n 0, 1) := by decide +kernel
theorem dX7_masksMeet_58 : decode cX7_masksMeet 58 = .ok (.getfield 25, 3) := by decide +kernel
theorem dX7_masksMeet_61 : decode cX7_masksMeet 61 = .ok (.iload 6, 2) := by decide +kernel
theorem dX7_masksMeet_63 : decode cX7_masksMeet 63 = .ok (.laload, 1) := by decide +kernel
theorem dX7_masksMeet_64 : decode cX7_masksMeet 64 = .ok (.aload_n 0, 1) := by decide +kernel
theorem dX7_masksMeet_65 : decode cX7_masksMeet 65 = .ok (.getfield 25, 3) := by decide +kernel
theorem dX7_masksMeet_68 : decode cX7_masksMeet 68 = .ok (.iload 6, 2) := by decide +kernel
theorem dX7_masksMeet_70 : decode cX7_masksMeet 70 = .ok (.iconst 1, 1) := by decide +kernel
theorem dX7_masksMeet_71 : decode cX7_masksMeet 71 = .ok (.iadd, 1) := by decide +kernel
theorem dX7_masksMeet_72 : decode cX7_masksMeet 72 = .ok (.laload, 1) := by decide +kernel
theorem dX7_masksMeet_73 : decode cX7_masksMeet 73 = .ok (.iload_n 3, 1) := by decide +kernel
theorem dX7_masksMeet_74 : decode cX7_masksMeet 74 = .ok (.invokestatic 222, 3) := by decide +kernel
theorem dX7_masksMeet_77 : decode cX7_masksMeet 77 = .ok (.aload_n 0, 1) := by decide +kernel
theorem dX7_masksMeet_78 : decode cX7_masksMeet 78 = .ok (.getfield 25, 3) := by decide +kernel
theorem dX7_masksMeet_81 : decode cX7_masksMeet 81 = .ok (.iload 7, 2) := by decide +kernel
theorem dX7_masksMeet_83 : decode cX7_masksMeet 83 = .ok (.laload, 1) := by decide +kernel
theorem dX7_masksMeet_84 : decode cX7_masksMeet 84 = .ok (.land, 1) := by decide +kernel
theorem dX7_masksMeet_85 : decode cX7_masksMeet 85 = .ok (.lconst 0, 1) := by decide +kernel
theorem dX7_masksMeet_86 : decode cX7_masksMeet 86 = .ok (.lcmp, 1) := by decide +kernel
theorem dX7_masksMeet_87 : decode cX7_masksMeet 87 = .ok (.ifCond .ne 38, 3) := by decide +kernel
theorem dX7_masksMeet_90 : decode cX7_masksMeet 90 = .ok (.aload_n 0, 1) := by decide +kernel
theorem dX7_masksMeet_91 : decode cX7_masksMeet 91 = .ok (.getfield 25, 3) := by decide +kernel
theorem dX7_masksMeet_94 : decode cX7_masksMeet 94 = .ok (.iload 6, 2) := by decide +kernel
theorem dX7_masksMeet_96 : decode cX7_masksMeet 96 = .ok (.laload, 1) := by decide +kernel
theorem dX7_masksMeet_97 : decode cX7_masksMeet 97 = .ok (.aload_n 0, 1) := by decide +kernel
theorem dX7_masksMeet_98 : decode cX7_masksMeet 98 = .ok (.getfield 25, 3) := by decide +kernel
theorem dX7_masksMeet_101 : decode cX7_masksMeet 101 = .ok (.iload 6, 2) := by decide +kernel
theorem dX7_masksMeet_103 : decode cX7_masksMeet 103 = .ok (.iconst 1, 1) := by decide +kernel
theorem dX7_masksMeet_104 : decode cX7_masksMeet 104 = .ok (.iadd, 1) := by decide +kernel
theorem dX7_masksMeet_105 : decode cX7_masksMeet 105 = .ok (.laload, 1) := by decide +kernel
theorem dX7_masksMeet_106 : decode cX7_masksMeet 106 = .ok (.iload_n 3, 1) := by decide +kernel
theorem dX7_masksMeet_107 : decode cX7_masksMeet 107 = .ok (.invokestatic 232, 3) := by decide +kernel
theorem dX7_masksMeet_110 : decode cX7_masksMeet 110 = .ok (.aload_n 0, 1) := by decide +kernel
theorem dX7_masksMeet_111 : decode cX7_masksMeet 111 = .ok (.getfield 25, 3) := by decide +kernel
theorem dX7_masksMeet_114 : decode cX7_masksMeet 114 = .ok (.iload 7, 2) := by decide +kernel
theorem dX7_masksMeet_116 : decode cX7_masksMeet 116 = .ok (.iconst 1, 1) := by decide +kernel
theorem dX7_masksMeet_117 : decode cX7_masksMeet 117 = .ok (.iadd, 1) := by decide +kernel
theorem dX7_masksMeet_118 : decode cX7_masksMeet 118 = .ok (.laload, 1) := by decide +kernel
theorem dX7_masksMeet_119 : decode cX7_masksMeet 119 = .ok (.land, 1) := by decide +kernel
theorem dX7_masksMeet_120 : decode cX7_masksMeet 120 = .ok (.lconst 0, 1) := by decide +kernel
theorem dX7_masksMeet_121 : decode cX7_masksMeet 121 = .ok (.lcmp, 1) := by decide +kernel
theorem dX7_masksMeet_122 : decode cX7_masksMeet 122 = .ok (.ifCond .eq 5, 3) := by decide +kernel
theorem dX7_masksMeet_125 : decode cX7_masksMeet 125 = .ok (.iconst 1, 1) := by decide +kernel
theorem dX7_masksMeet_126 : decode cX7_masksMeet 126 = .ok (.ireturn, 1) := by decide +kernel
theorem dX7_masksMeet_127 : decode cX7_masksMeet 127 = .ok (.iinc 5 1, 3) := by decide +kernel
theorem dX7_masksMeet_130 : decode cX7_masksMeet 130 = .ok (.goto (-121), 3) := by decide +kernel
theorem dX7_masksMeet_133 : decode cX7_masksMeet 133 = .ok (.iconst 0, 1) := by decide +kernel
theorem dX7_masksMeet_134 : decode cX7_masksMeet 134 = .ok (.ireturn, 1) := by decide +kernel
theorem dX7_meet_0 : decode cX7_meet 0 = .ok (.aload_n 0, 1) := by decide +kernel
theorem dX7_meet_1 : decode cX7_meet 1 = .ok (.iload_n 1, 1) := by decide +kernel
theorem dX7_meet_2 : decode cX7_meet 2 = .ok (.iload_n 2, 1) := by decide +kernel
theorem dX7_meet_3 : decode cX7_meet 3 = .ok (.invokevirtual 382, 3) := by decide +kernel
theorem dX7_meet_6 : decode cX7_meet 6 = .ok (.ifCond .eq 13, 3) := by decide +kernel
theorem dX7_meet_9 : decode cX7_meet 9 = .ok (.iload_n 3, 1) := by decide +kernel
theorem dX7_meet_10 : decode cX7_meet 10 = .ok (.i2l, 1) := by decide +kernel
theorem dX7_meet_11 : decode cX7_meet 11 = .ok (.lconst 0, 1) := by decide +kernel
theorem dX7_meet_12 : decode cX7_meet 12 = .ok (.lconst 1, 1) := by decide +kernel
theorem dX7_meet_13 : decode cX7_meet 13 = .ok (.invokestatic 96, 3) := by decide +kernel
theorem dX7_meet_16 : decode cX7_meet 16 = .ok (.ifCond .ne 7, 3) := by decide +kernel
theorem dX7_meet_19 : decode cX7_meet 19 = .ok (.sipush (-2000), 3) := by decide +kernel
theorem dX7_meet_22 : decode cX7_meet 22 = .ok (.ireturn, 1) := by decide +kernel
theorem dX7_meet_23 : decode cX7_meet 23 = .ok (.aload_n 0, 1) := by decide +kernel
theorem dX7_meet_24 : decode cX7_meet 24 = .ok (.iload_n 1, 1) := by decide +kernel
theorem dX7_meet_25 : decode cX7_meet 25 = .ok (.iconst 2, 1) := by decide +kernel
theorem dX7_meet_26 : decode cX7_meet 26 = .ok (.invokevirtual 199, 3) := by decide +kernel
theorem dX7_meet_29 : decode cX7_meet 29 = .ok (.istore 4, 2) := by decide +kernel
theorem dX7_meet_31 : decode cX7_meet 31 = .ok (.iload 4, 2) := by decide +kernel
theorem dX7_meet_33 : decode cX7_meet 33 = .ok (.aload_n 0, 1) := by decide +kernel
theorem dX7_meet_34 : decode cX7_meet 34 = .ok (.iload_n 1, 1) := by decide +kernel
theorem dX7_meet_35 : decode cX7_meet 35 = .ok (.iconst 2, 1) := by decide +kernel
theorem dX7_meet_36 : decode cX7_meet 36 = .ok (.invokevirtual 199, 3) := by decide +kernel
theorem dX7_meet_39 : decode cX7_meet 39 = .ok (.aload_n 0, 1) := by decide +kernel
theorem dX7_meet_40 : decode cX7_meet 40 = .ok (.aload_n 0, 1) := by decide +kernel
theorem dX7_meet_41 : decode cX7_meet 41 = .ok (.iload_n 1, 1) := by decide +kernel
theorem dX7_meet_42 : decode cX7_meet 42 = .ok (.invokevirtual 212, 3) := by decide +kernel
theorem dX7_meet_45 : decode cX7_meet 45 = .ok (.invokevirtual 205, 3) := by decide +kernel
theorem dX7_meet_48 : decode cX7_meet 48 = .ok (.iadd, 1) := by decide +kernel
theorem dX7_meet_49 : decode cX7_meet 49 = .ok (.if_icmp .ge 80, 3) := by decide +kernel
theorem dX7_meet_52 : decode cX7_meet 52 = .ok (.aload_n 0, 1) := by decide +kernel
theorem dX7_meet_53 : decode cX7_meet 53 = .ok (.iload_n 1, 1) := by decide +kernel
theorem dX7_meet_54 : decode cX7_meet 54 = .ok (.iconst 1, 1) := by decide +kernel
theorem dX7_meet_55 : decode cX7_meet 55 = .ok (.invokevirtual 199, 3) := by decide +kernel
theorem dX7_meet_58 : decode cX7_meet 58 = .ok (.istore 5, 2) := by decide +kernel
theorem dX7_meet_60 : decode cX7_meet 60 = .ok (.iload 5, 2) := by decide +kernel
theorem dX7_meet_62 : decode cX7_meet 62 = .ok (.aload_n 0, 1) := by decide +kernel
theorem dX7_meet_63 : decode cX7_meet 63 = .ok (.iload_n 1, 1) := by decide +kernel
theorem dX7_meet_64 : decode cX7_meet 64 = .ok (.iconst 1, 1) := by decide +kernel
theorem dX7_meet_65 : decode cX7_meet 65 = .ok (.invokevirtual 199, 3) := by decide +kernel
theorem dX7_meet_68 : decode cX7_meet 68 = .ok (.aload_n 0, 1) := by decide +kernel
theorem dX7_meet_69 : decode cX7_meet 69 = .ok (.aload_n 0, 1) := by decide +kernel
theorem dX7_meet_70 : decode cX7_meet 70 = .ok (.iload_n 1, 1) := by decide +kernel
theorem dX7_meet_71 : decode cX7_meet 71 = .ok (.invokevirtual 212, 3) := by decide +kernel
theorem dX7_meet_74 : decode cX7_meet 74 = .ok (.invokevirtual 202, 3) := by decide +kernel
theorem dX7_meet_77 : decode cX7_meet 77 = .ok (.iadd, 1) := by decide +kernel
theorem dX7_meet_78 : decode cX7_meet 78 = .ok (.if_icmp .ge 45, 3) := by decide +kernel
theorem dX7_meet_81 : decode cX7_meet 81 = .ok (.aload_n 0, 1) := by decide +kernel
theorem dX7_meet_82 : decode cX7_meet 82 = .ok (.iload_n 1, 1) := by decide +kernel
theorem dX7_meet_83 : decode cX7_meet 83 = .ok (.iload 5, 2) := by decide +kernel
theorem dX7_meet_85 : decode cX7_meet 85 = .ok (.iload 4, 2) := by decide +kernel
theorem dX7_meet_87 : decode cX7_meet 87 = .ok (.invokevirtual 388, 3) := by decide +kernel
theorem dX7_meet_90 : decode cX7_meet 90 = .ok (.ifCond .eq 27, 3) := by decide +kernel
theorem dX7_meet_93 : decode cX7_meet 93 = .ok (.aload_n 0, 1) := by decide +kernel
theorem dX7_meet_94 : decode cX7_meet 94 = .ok (.iload_n 2, 1) := by decide +kernel
theorem dX7_meet_95 : decode cX7_meet 95 = .ok (.iload 5, 2) := by decide +kernel
theorem dX7_meet_97 : decode cX7_meet 97 = .ok (.iload 4, 2) := by decide +kernel
theorem dX7_meet_99 : decode cX7_meet 99 = .ok (.invokevirtual 388, 3) := by decide +kernel
theorem dX7_meet_102 : decode cX7_meet 102 = .ok (.ifCond .eq 15, 3) := by decide +kernel
theorem dX7_meet_105 : decode cX7_meet 105 = .ok (.iload_n 3, 1) := by decide +kernel
theorem dX7_meet_106 : decode cX7_meet 106 = .ok (.ifCond .ne 8, 3) := by decide +kernel
theorem dX7_meet_109 : decode cX7_meet 109 = .ok (.iload 5, 2) := by decide +kernel
theorem dX7_meet_111 : decode cX7_meet 111 = .ok (.goto 5, 3) := by decide +kernel
theorem dX7_meet_114 : decode cX7_meet 114 = .ok (.iload 4, 2) := by decide +kernel
theorem dX7_meet_116 : decode cX7_meet 116 = .ok (.ireturn, 1) := by decide +kernel
theorem dX7_meet_117 : decode cX7_meet 117 = .ok (.iinc 5 1, 3) := by decide +kernel
theorem dX7_meet_120 : decode cX7_meet 120 = .ok (.goto (-60), 3) := by decide +kernel
theorem dX7_meet_123 : decode cX7_meet 123 = .ok (.iinc 4 1, 3) := by decide +kernel
theorem dX7_meet_126 : decode cX7_meet 126 = .ok (.goto (-95), 3) := by decide +kernel
theorem dX7_meet_129 : decode cX7_meet 129 = .ok (.sipush (-2000), 3) := by decide +kernel
theorem dX7_meet_132 : decode cX7_meet 132 = .ok (.ireturn, 1) := by decide +kernel
theorem dX7_row_0 : decode cX7_row 0 = .ok (.aload_n 0, 1) := by decide +kernel
theorem dX7_row_1 : decode cX7_row 1 = .ok (.iload_n 1, 1) := by decide +kernel
theorem dX7_row_2 : decode cX7_row 2 = .ok (.invokevirtual 301, 3) := by decide +kernel
theorem dX7_row_5 : decode cX7_row 5 = .ok (.ifCond .eq 48, 3) := by decide +kernel
theorem dX7_row_8 : decode cX7_row 8 = .ok (.iload_n 2, 1) := by decide +kernel
theorem dX7_row_9 : decode cX7_row 9 = .ok (.i2l, 1) := by decide +kernel
theorem dX7_row_10 : decode cX7_row 10 = .ok (.lconst 0, 1) := by decide +kernel
theorem dX7_row_11 : decode cX7_row 11 = .ok (.aload_n 0, 1) := by decide +kernel
theorem dX7_row_12 : decode cX7_row 12 = .ok (.iload_n 1, 1) := by decide +kernel
theorem dX7_row_13 : decode cX7_row 13 = .ok (.invokevirtual 205, 3) := by decide +kernel
theorem dX7_row_16 : decode cX7_row 16 = .ok (.iconst 1, 1) := by decide +kernel
theorem dX7_row_17 : decode cX7_row 17 = .ok (.isub, 1) := by decide +kernel
theorem dX7_row_18 : decode cX7_row 18 = .ok (.i2l, 1) := by decide +kernel
theorem dX7_row_19 : decode cX7_row 19 = .ok (.invokestatic 96, 3) := by decide +kernel
theorem dX7_row_22 : decode cX7_row 22 = .ok (.ifCond .eq 31, 3) := by decide +kernel
theorem dX7_row_25 : decode cX7_row 25 = .ok (.iload_n 3, 1) := by decide +kernel
theorem dX7_row_26 : decode cX7_row 26 = .ok (.i2l, 1) := by decide +kernel
theorem dX7_row_27 : decode cX7_row 27 = .ok (.lconst 0, 1) := by decide +kernel
theorem dX7_row_28 : decode cX7_row 28 = .ok (.lconst 1, 1) := by decide +kernel
theorem dX7_row_29 : decode cX7_row 29 = .ok (.invokestatic 96, 3) := by decide +kernel
theorem dX7_row_32 : decode cX7_row 32 = .ok (.ifCond .eq 21, 3) := by decide +kernel
theorem dX7_row_35 : decode cX7_row 35 = .ok (.aload_n 0, 1) := by decide +kernel
theorem dX7_row_36 : decode cX7_row 36 = .ok (.getfield 25, 3) := by decide +kernel
theorem dX7_row_39 : decode cX7_row 39 = .ok (.bipush 80, 2) := by decide +kernel
theorem dX7_row_41 : decode cX7_row 41 = .ok (.iload_n 1, 1) := by decide +kernel
theorem dX7_row_42 : decode cX7_row 42 = .ok (.imul, 1) := by decide +kernel
theorem dX7_row_43 : decode cX7_row 43 = .ok (.iconst 2, 1) := by decide +kernel
theorem dX7_row_44 : decode cX7_row 44 = .ok (.iload_n 2, 1) := by decide +kernel
theorem dX7_row_45 : decode cX7_row 45 = .ok (.imul, 1) := by decide +kernel
theorem dX7_row_46 : decode cX7_row 46 = .ok (.iadd, 1) := by decide +kernel
theorem dX7_row_47 : decode cX7_row 47 = .ok (.iload_n 3, 1) := by decide +kernel
theorem dX7_row_48 : decode cX7_row 48 = .ok (.iadd, 1) := by decide +kernel
theorem dX7_row_49 : decode cX7_row 49 = .ok (.laload, 1) := by decide +kernel
theorem dX7_row_50 : decode cX7_row 50 = .ok (.goto 4, 3) := by decide +kernel
theorem dX7_row_53 : decode cX7_row 53 = .ok (.lconst 0, 1) := by decide +kernel
theorem dX7_row_54 : decode cX7_row 54 = .ok (.lreturn, 1) := by decide +kernel
theorem dX7_shifts_0 : decode cX7_shifts 0 = .ok (.aload_n 0, 1) := by decide +kernel
theorem dX7_shifts_1 : decode cX7_shifts 1 = .ok (.iload_n 1, 1) := by decide +kernel
theorem dX7_shifts_2 : decode cX7_shifts 2 = .ok (.invokevirtual 301, 3) := by decide +kernel
theorem dX7_shifts_5 : decode cX7_shifts 5 = .ok (.ifCond .eq 11, 3) := by decide +kernel
theorem dX7_shifts_8 : decode cX7_shifts 8 = .ok (.aload_n 0, 1) := by decide +kernel
theorem dX7_shifts_9 : decode cX7_shifts 9 = .ok (.iload_n 2, 1) := by decide +kernel
theorem dX7_shifts_10 : decode cX7_shifts 10 = .ok (.invokevirtual 301, 3) := by decide +kernel
theorem dX7_shifts_13 : decode cX7_shifts 13 = .ok (.ifCond .ne 5, 3) := by decide +kernel
theorem dX7_shifts_16 : decode cX7_shifts 16 = .ok (.iconst (-1), 1) := by decide +kernel
theorem dX7_shifts_17 : decode cX7_shifts 17 = .ok (.ireturn, 1) := by decide +kernel
theorem dX7_shifts_18 : decode cX7_shifts 18 = .ok (.iconst 0, 1) := by decide +kernel
theorem dX7_shifts_19 : decode cX7_shifts 19 = .ok (.istore_n 3, 1) := by decide +kernel
theorem dX7_shifts_20 : decode cX7_shifts 20 = .ok (.iconst 1, 1) := by decide +kernel
theorem dX7_shifts_21 : decode cX7_shifts 21 = .ok (.aload_n 0, 1) := by decide +kernel
theorem dX7_shifts_22 : decode cX7_shifts 22 = .ok (.iload_n 1, 1) := by decide +kernel
theorem dX7_shifts_23 : decode cX7_shifts 23 = .ok (.invokevirtual 205, 3) := by decide +kernel
theorem dX7_shifts_26 : decode cX7_shifts 26 = .ok (.isub, 1) := by decide +kernel
theorem dX7_shifts_27 : decode cX7_shifts 27 = .ok (.istore 4, 2) := by decide +kernel
theorem dX7_shifts_29 : decode cX7_shifts 29 = .ok (.iload 4, 2) := by decide +kernel
theorem dX7_shifts_31 : decode cX7_shifts 31 = .ok (.aload_n 0, 1) := by decide +kernel
theorem dX7_shifts_32 : decode cX7_shifts 32 = .ok (.iload_n 2, 1) := by decide +kernel
theorem dX7_shifts_33 : decode cX7_shifts 33 = .ok (.invokevirtual 205, 3) := by decide +kernel
theorem dX7_shifts_36 : decode cX7_shifts 36 = .ok (.if_icmp .ge 50, 3) := by decide +kernel
theorem dX7_shifts_39 : decode cX7_shifts 39 = .ok (.iconst 1, 1) := by decide +kernel
theorem dX7_shifts_40 : decode cX7_shifts 40 = .ok (.aload_n 0, 1) := by decide +kernel
theorem dX7_shifts_41 : decode cX7_shifts 41 = .ok (.iload_n 1, 1) := by decide +kernel
theorem dX7_shifts_42 : decode cX7_shifts 42 = .ok (.invokevirtual 202, 3) := by decide +kernel
theorem dX7_shifts_45 : decode cX7_shifts 45 = .ok (.isub, 1) := by decide +kernel
theorem dX7_shifts_46 : decode cX7_shifts 46 = .ok (.istore 5, 2) := by decide +kernel
theorem dX7_shifts_48 : decode cX7_shifts 48 = .ok (.iload 5, 2) := by decide +kernel
theorem dX7_shifts_50 : decode cX7_shifts 50 = .ok (.aload_n 0, 1) := by decide +kernel
theorem dX7_shifts_51 : decode cX7_shifts 51 = .ok (.iload_n 2, 1) := by decide +kernel
theorem dX7_shifts_52 : decode cX7_shifts 52 = .ok (.invokevirtual 202, 3) := by decide +kernel
theorem dX7_shifts_55 : decode cX7_shifts 55 = .ok (.if_icmp .ge 25, 3) := by decide +kernel
theorem dX7_shifts_58 : decode cX7_shifts 58 = .ok (.iload_n 3, 1) := by decide +kernel
theorem dX7_shifts_59 : decode cX7_shifts 59 = .ok (.aload_n 0, 1) := by decide +kernel
theorem dX7_shifts_60 : decode cX7_shifts 60 = .ok (.iload_n 1, 1) := by decide +kernel
theorem dX7_shifts_61 : decode cX7_shifts 61 = .ok (.iload_n 2, 1) := by decide +kernel
theorem dX7_shifts_62 : decode cX7_shifts 62 = .ok (.iload 5, 2) := by decide +kernel
theorem dX7_shifts_64 : decode cX7_shifts 64 = .ok (.iload 4, 2) := by decide +kernel
theorem dX7_shifts_66 : decode cX7_shifts 66 = .ok (.invokevirtual 413, 3) := by decide +kernel
theorem dX7_shifts_69 : decode cX7_shifts 69 = .ok (.invokestatic 127, 3) := by decide +kernel
theorem dX7_shifts_72 : decode cX7_shifts 72 = .ok (.iadd, 1) := by decide +kernel
theorem dX7_shifts_73 : decode cX7_shifts 73 = .ok (.istore_n 3, 1) := by decide +kernel
theorem dX7_shifts_74 : decode cX7_shifts 74 = .ok (.iinc 5 1, 3) := by decide +kernel
theorem dX7_shifts_77 : decode cX7_shifts 77 = .ok (.goto (-29), 3) := by decide +kernel
theorem dX7_shifts_80 : decode cX7_shifts 80 = .ok (.iinc 4 1, 3) := by decide +kernel
theorem dX7_shifts_83 : decode cX7_shifts 83 = .ok (.goto (-54), 3) := by decide +kernel
theorem dX7_shifts_86 : decode cX7_shifts 86 = .ok (.iload_n 3, 1) := by decide +kernel
theorem dX7_shifts_87 : decode cX7_shifts 87 = .ok (.ireturn, 1) := by decide +kernel
theorem dX7_slope_0 : decode cX7_slope 0 = .ok (.aload_n 0, 1) := by decide +kernel
theorem dX7_slope_1 : decode cX7_slope 1 = .ok (.iload_n 1, 1) := by decide +kernel
theorem dX7_slope_2 : decode cX7_slope 2 = .ok (.iload_n 2, 1) := by decide +kernel
theorem dX7_slope_3 : decode cX7_slope 3 = .ok (.invokevirtual 382, 3) := by decide +kernel
theorem dX7_slope_6 : decode cX7_slope 6 = .ok (.ifCond .eq 13, 3) := by decide +kernel
theorem dX7_slope_9 : decode cX7_slope 9 = .ok (.iload_n 3, 1) := by decide +kernel
theorem dX7_slope_10 : decode cX7_slope 10 = .ok (.i2l, 1) := by decide +kernel
theorem dX7_slope_11 : decode cX7_slope 11 = .ok (.lconst 0, 1) := by decide +kernel
theorem dX7_slope_12 : decode cX7_slope 12 = .ok (.lconst 1, 1) := by decide +kernel
theorem dX7_slope_13 : decode cX7_slope 13 = .ok (.invokestatic 96, 3) := by decide +kernel
theorem dX7_slope_16 : decode cX7_slope 16 = .ok (.ifCond .ne 7, 3) := by decide +kernel
theorem dX7_slope_19 : decode cX7_slope 19 = .ok (.ldc_w 404, 3) := by decide +kernel
theorem dX7_slope_22 : decode cX7_slope 22 = .ok (.ireturn, 1) := by decide +kernel
theorem dX7_slope_23 : decode cX7_slope 23 = .ok (.aload_n 0, 1) := by decide +kernel
theorem dX7_slope_24 : decode cX7_slope 24 = .ok (.invokevirtual 331, 3) := by decide +kernel
theorem dX7_slope_27 : decode cX7_slope 27 = .ok (.iload_n 3, 1) := by decide +kernel
theorem dX7_slope_28 : decode cX7_slope 28 = .ok (.ifCond .ne 23, 3) := by decide +kernel
theorem dX7_slope_31 : decode cX7_slope 31 = .ok (.aload_n 0, 1) := by decide +kernel
theorem dX7_slope_32 : decode cX7_slope 32 = .ok (.iload_n 1, 1) := by decide +kernel
theorem dX7_slope_33 : decode cX7_slope 33 = .ok (.iload_n 2, 1) := by decide +kernel
theorem dX7_slope_34 : decode cX7_slope 34 = .ok (.iconst 1, 1) := by decide +kernel
theorem dX7_slope_35 : decode cX7_slope 35 = .ok (.iconst 0, 1) := by decide +kernel
theorem dX7_slope_36 : decode cX7_slope 36 = .ok (.invokevirtual 385, 3) := by decide +kernel
theorem dX7_slope_39 : decode cX7_slope 39 = .ok (.aload_n 0, 1) := by decide +kernel
theorem dX7_slope_40 : decode cX7_slope 40 = .ok (.iload_n 1, 1) := by decide +kernel
theorem dX7_slope_41 : decode cX7_slope 41 = .ok (.iload_n 2, 1) := by decide +kernel
theorem dX7_slope_42 : decode cX7_slope 42 = .ok (.iconst (-1), 1) := by decide +kernel
theorem dX7_slope_43 : decode cX7_slope 43 = .ok (.iconst 0, 1) := by decide +kernel
theorem dX7_slope_44 : decode cX7_slope 44 = .ok (.invokevirtual 385, 3) := by decide +kernel
theorem dX7_slope_47 : decode cX7_slope 47 = .ok (.isub, 1) := by decide +kernel
theorem dX7_slope_48 : decode cX7_slope 48 = .ok (.goto 20, 3) := by decide +kernel
theorem dX7_slope_51 : decode cX7_slope 51 = .ok (.aload_n 0, 1) := by decide +kernel
theorem dX7_slope_52 : decode cX7_slope 52 = .ok (.iload_n 1, 1) := by decide +kernel
theorem dX7_slope_53 : decode cX7_slope 53 = .ok (.iload_n 2, 1) := by decide +kernel
theorem dX7_slope_54 : decode cX7_slope 54 = .ok (.iconst 0, 1) := by decide +kernel
theorem dX7_slope_55 : decode cX7_slope 55 = .ok (.iconst 1, 1) := by decide +kernel
theorem dX7_slope_56 : decode cX7_slope 56 = .ok (.invokevirtual 385, 3) := by decide +kernel
theorem dX7_slope_59 : decode cX7_slope 59 = .ok (.aload_n 0, 1) := by decide +kernel
theorem dX7_slope_60 : decode cX7_slope 60 = .ok (.iload_n 1, 1) := by decide +kernel
theorem dX7_slope_61 : decode cX7_slope 61 = .ok (.iload_n 2, 1) := by decide +kernel
theorem dX7_slope_62 : decode cX7_slope 62 = .ok (.iconst 0, 1) := by decide +kernel
theorem dX7_slope_63 : decode cX7_slope 63 = .ok (.iconst (-1), 1) := by decide +kernel
theorem dX7_slope_64 : decode cX7_slope 64 = .ok (.invokevirtual 385, 3) := by decide +kernel
theorem dX7_slope_67 : decode cX7_slope 67 = .ok (.isub, 1) := by decide +kernel
theorem dX7_slope_68 : decode cX7_slope 68 = .ok (.ireturn, 1) := by decide +kernel
theorem dX7_spread_0 : decode cX7_spread 0 = .ok (.aload_n 0, 1) := by decide +kernel
theorem dX7_spread_1 : decode cX7_spread 1 = .ok (.iload_n 1, 1) := by decide +kernel
theorem dX7_spread_2 : decode cX7_spread 2 = .ok (.invokevirtual 301, 3) := by decide +kernel
theorem dX7_spread_5 : decode cX7_spread 5 = .ok (.ifCond .eq 15, 3) := by decide +kernel
theorem dX7_spread_8 : decode cX7_spread 8 = .ok (.iload_n 2, 1) := by decide +kernel
theorem dX7_spread_9 : decode cX7_spread 9 = .ok (.i2l, 1) := by decide +kernel
theorem dX7_spread_10 : decode cX7_spread 10 = .ok (.lconst 0, 1) := by decide +kernel
theorem dX7_spread_11 : decode cX7_spread 11 = .ok (.ldc2_w 394, 3) := by decide +kernel
theorem dX7_spread_14 : decode cX7_spread 14 = .ok (.invokestatic 96, 3) := by decide +kernel
theorem dX7_spread_17 : decode cX7_spread 17 = .ok (.ifCond .ne 5, 3) := by decide +kernel
theorem dX7_spread_20 : decode cX7_spread 20 = .ok (.iconst (-1), 1) := by decide +kernel
theorem dX7_spread_21 : decode cX7_spread 21 = .ok (.ireturn, 1) := by decide +kernel
theorem dX7_spread_22 : decode cX7_spread 22 = .ok (.iload_n 2, 1) := by decide +kernel
theorem dX7_spread_23 : decode cX7_spread 23 = .ok (.iconst 2, 1) := by decide +kernel
theorem dX7_spread_24 : decode cX7_spread 24 = .ok (.if_icmp .ne 9, 3) := by decide +kernel
theorem dX7_spread_27 : decode cX7_spread 27 = .ok (.aload_n 0, 1) := by decide +kernel
theorem dX7_spread_28 : decode cX7_spread 28 = .ok (.iload_n 1, 1) := by decide +kernel
theorem dX7_spread_29 : decode cX7_spread 29 = .ok (.invokevirtual 423, 3) := by decide +kernel
theorem dX7_spread_32 : decode cX7_spread 32 = .ok (.ireturn, 1) := by decide +kernel
theorem dX7_spread_33 : decode cX7_spread 33 = .ok (.iconst 0, 1) := by decide +kernel
theorem dX7_spread_34 : decode cX7_spread 34 = .ok (.istore_n 3, 1) := by decide +kernel
theorem dX7_spread_35 : decode cX7_spread 35 = .ok (.iconst 0, 1) := by decide +kernel
theorem dX7_spread_36 : decode cX7_spread 36 = .ok (.istore 4, 2) := by decide +kernel
theorem dX7_spread_38 : decode cX7_spread 38 = .ok (.iload 4, 2) := by decide +kernel
theorem dX7_spread_40 : decode cX7_spread 40 = .ok (.aload_n 0, 1) := by decide +kernel
theorem dX7_spread_41 : decode cX7_spread 41 = .ok (.iload_n 1, 1) := by decide +kernel
theorem dX7_spread_42 : decode cX7_spread 42 = .ok (.invokevirtual 205, 3) := by decide +kernel
theorem dX7_spread_45 : decode cX7_spread 45 = .ok (.if_icmp .ge 58, 3) := by decide +kernel
theorem dX7_spread_48 : decode cX7_spread 48 = .ok (.iconst 0, 1) := by decide +kernel
theorem dX7_spread_49 : decode cX7_spread 49 = .ok (.istore 5, 2) := by decide +kernel
theorem dX7_spread_51 : decode cX7_spread 51 = .ok (.iload 5, 2) := by decide +kernel
theorem dX7_spread_53 : decode cX7_spread 53 = .ok (.aload_n 0, 1) := by decide +kernel
theorem dX7_spread_54 : decode cX7_spread 54 = .ok (.iload_n 1, 1) := by decide +kernel
theorem dX7_spread_55 : decode cX7_spread 55 = .ok (.invokevirtual 202, 3) := by decide +kernel
theorem dX7_spread_58 : decode cX7_spread 58 = .ok (.if_icmp .ge 39, 3) := by decide +kernel
theorem dX7_spread_61 : decode cX7_spread 61 = .ok (.iload_n 3, 1) := by decide +kernel
theorem dX7_spread_62 : decode cX7_spread 62 = .ok (.aload_n 0, 1) := by decide +kernel
theorem dX7_spread_63 : decode cX7_spread 63 = .ok (.iload_n 1, 1) := by decide +kernel
theorem dX7_spread_64 : decode cX7_spread 64 = .ok (.iload 5, 2) := by decide +kernel
theorem dX7_spread_66 : decode cX7_spread 66 = .ok (.iload 4, 2) := by decide +kernel
theorem dX7_spread_68 : decode cX7_spread 68 = .ok (.invokevirtual 215, 3) := by decide +kernel
theorem dX7_spread_71 : decode cX7_spread 71 = .ok (.ifCond .eq 17, 3) := by decide +kernel
theorem dX7_spread_74 : decode cX7_spread 74 = .ok (.iload_n 2, 1) := by decide +kernel
theorem dX7_spread_75 : decode cX7_spread 75 = .ok (.ifCond .ne 8, 3) := by decide +kernel
theorem dX7_spread_78 : decode cX7_spread 78 = .ok (.iload 5, 2) := by decide +kernel
theorem dX7_spread_80 : decode cX7_spread 80 = .ok (.goto 9, 3) := by decide +kernel
theorem dX7_spread_83 : decode cX7_spread 83 = .ok (.iload 4, 2) := by decide +kernel
theorem dX7_spread_85 : decode cX7_spread 85 = .ok (.goto 4, 3) := by decide +kernel
theorem dX7_spread_88 : decode cX7_spread 88 = .ok (.iconst 0, 1) := by decide +kernel
theorem dX7_spread_89 : decode cX7_spread 89 = .ok (.iadd, 1) := by decide +kernel
theorem dX7_spread_90 : decode cX7_spread 90 = .ok (.istore_n 3, 1) := by decide +kernel
theorem dX7_spread_91 : decode cX7_spread 91 = .ok (.iinc 5 1, 3) := by decide +kernel
theorem dX7_spread_94 : decode cX7_spread 94 = .ok (.goto (-43), 3) := by decide +kernel
theorem dX7_spread_97 : decode cX7_spread 97 = .ok (.iinc 4 1, 3) := by decide +kernel
theorem dX7_spread_100 : decode cX7_spread 100 = .ok (.goto (-62), 3) := by decide +kernel
theorem dX7_spread_103 : decode cX7_spread 103 = .ok (.iload_n 3, 1) := by decide +kernel
theorem dX7_spread_104 : decode cX7_spread 104 = .ok (.ireturn, 1) := by decide +kernel
theorem dX7_touching_0 : decode cX7_touching 0 = .ok (.aload_n 0, 1) := by decide +kernel
theorem dX7_touching_1 : decode cX7_touching 1 = .ok (.iload_n 1, 1) := by decide +kernel
theorem dX7_touching_2 : decode cX7_touching 2 = .ok (.invokevirtual 196, 3) := by decide +kernel
theorem dX7_touching_5 : decode cX7_touching 5 = .ok (.ifCond .ne 5, 3) := by decide +kernel
theorem dX7_touching_8 : decode cX7_touching 8 = .ok (.iconst (-1), 1) := by decide +kernel
theorem dX7_touching_9 : decode cX7_touching 9 = .ok (.ireturn, 1) := by decide +kernel
theorem dX7_touching_10 : decode cX7_touching 10 = .ok (.aload_n 0, 1) := by decide +kernel
theorem dX7_touching_11 : decode cX7_touching 11 = .ok (.invokevirtual 331, 3) := by decide +kernel
theorem dX7_touching_14 : decode cX7_touching 14 = .ok (.aload_n 0, 1) := by decide +kernel
theorem dX7_touching_15 : decode cX7_touching 15 = .ok (.iload_n 1, 1) := by decide +kernel
theorem dX7_touching_16 : decode cX7_touching 16 = .ok (.invokevirtual 263, 3) := by decide +kernel
theorem dX7_touching_19 : decode cX7_touching 19 = .ok (.ireturn, 1) := by decide +kernel
theorem dX7_within_0 : decode cX7_within 0 = .ok (.iconst 0, 1) := by decide +kernel
theorem dX7_within_1 : decode cX7_within 1 = .ok (.istore 6, 2) := by decide +kernel
theorem dX7_within_3 : decode cX7_within 3 = .ok (.iload_n 3, 1) := by decide +kernel
theorem dX7_within_4 : decode cX7_within 4 = .ok (.istore 7, 2) := by decide +kernel
theorem dX7_within_6 : decode cX7_within 6 = .ok (.iload 7, 2) := by decide +kernel
theorem dX7_within_8 : decode cX7_within 8 = .ok (.iload_n 3, 1) := by decide +kernel
theorem dX7_within_9 : decode cX7_within 9 = .ok (.iload 5, 2) := by decide +kernel
theorem dX7_within_11 : decode cX7_within 11 = .ok (.iadd, 1) := by decide +kernel
theorem dX7_within_12 : decode cX7_within 12 = .ok (.if_icmp .ge 44, 3) := by decide +kernel
theorem dX7_within_15 : decode cX7_within 15 = .ok (.iload_n 2, 1) := by decide +kernel
theorem dX7_within_16 : decode cX7_within 16 = .ok (.istore 8, 2) := by decide +kernel
theorem dX7_within_18 : decode cX7_within 18 = .ok (.iload 8, 2) := by decide +kernel
theorem dX7_within_20 : decode cX7_within 20 = .ok (.iload_n 2, 1) := by decide +kernel
theorem dX7_within_21 : decode cX7_within 21 = .ok (.iload 4, 2) := by decide +kernel
theorem dX7_within_23 : decode cX7_within 23 = .ok (.iadd, 1) := by decide +kernel
theorem dX7_within_24 : decode cX7_within 24 = .ok (.if_icmp .ge 26, 3) := by decide +kernel
theorem dX7_within_27 : decode cX7_within 27 = .ok (.iload 6, 2) := by decide +kernel
theorem dX7_within_29 : decode cX7_within 29 = .ok (.aload_n 0, 1) := by decide +kernel
theorem dX7_within_30 : decode cX7_within 30 = .ok (.iload_n 1, 1) := by decide +kernel
theorem dX7_within_31 : decode cX7_within 31 = .ok (.iload 8, 2) := by decide +kernel
theorem dX7_within_33 : decode cX7_within 33 = .ok (.iload 7, 2) := by decide +kernel
theorem dX7_within_35 : decode cX7_within 35 = .ok (.invokevirtual 215, 3) := by decide +kernel
theorem dX7_within_38 : decode cX7_within 38 = .ok (.invokestatic 127, 3) := by decide +kernel
theorem dX7_within_41 : decode cX7_within 41 = .ok (.iadd, 1) := by decide +kernel
theorem dX7_within_42 : decode cX7_within 42 = .ok (.istore 6, 2) := by decide +kernel
theorem dX7_within_44 : decode cX7_within 44 = .ok (.iinc 8 1, 3) := by decide +kernel
theorem dX7_within_47 : decode cX7_within 47 = .ok (.goto (-29), 3) := by decide +kernel
theorem dX7_within_50 : decode cX7_within 50 = .ok (.iinc 7 1, 3) := by decide +kernel
theorem dX7_within_53 : decode cX7_within 53 = .ok (.goto (-47), 3) := by decide +kernel
theorem dX7_within_56 : decode cX7_within 56 = .ok (.iload 6, 2) := by decide +kernel
theorem dX7_within_58 : decode cX7_within 58 = .ok (.ireturn, 1) := by decide +kernel
set_option maxRecDepth 100000 in
theorem pq40 : Cond.selects RX7 yX7_laysAll yX7_laysAll ∈ pw := pw_mem (i := 40) (by decide +kernel) rfl
set_option maxRecDepth 100000 in
theorem pq43 : Cond.selects RX7 yX7_touchingOf yX7_touchingOf ∈ pw := pw_mem (i := 43) (by decide +kernel) rfl
set_option maxRecDepth 100000 in
theorem pq62 : Cond.selects RX7 yX7_areTwo yX7_areTwo ∈ pw := pw_mem (i := 62) (by decide +kernel) rfl
set_option maxRecDepth 100000 in
theorem pq63 : Cond.selects RX7 yX7_commonBy yX7_commonBy ∈ pw := pw_mem (i := 63) (by decide +kernel) rfl
set_option maxRecDepth 100000 in
theorem pq64 : Cond.selects RX7 yX7_lies yX7_lies ∈ pw := pw_mem (i := 64) (by decide +kernel) rfl
set_option maxRecDepth 100000 in
theorem pq67 : Cond.selects RX7 yX7_bodiesAt yX7_bodiesAt ∈ pw := pw_mem (i := 67) (by decide +kernel) rfl
set_option maxRecDepth 100000 in
theorem pq68 : Cond.selects RX7 yX7_masksMeet yX7_masksMeet ∈ pw := pw_mem (i := 68) (by decide +kernel) rfl
set_option maxRecDepth 100000 in
theorem pq69 : Cond.selects RX7 yX7_areLike yX7_areLike ∈ pw := pw_mem (i := 69) (by decide +kernel) rfl
set_option maxRecDepth 100000 in
theorem pq70 : Cond.selects RX7 yX7_within yX7_within ∈ pw := pw_mem (i := 70) (by decide +kernel) rfl
set_option maxRecDepth 100000 in
theorem pq71 : Cond.selects RX7 yX7_farthest yX7_farthest ∈ pw := pw_mem (i := 71) (by decide +kernel) rfl
set_option maxRecDepth 100000 in
theorem pq72 : Cond.selects RX7 yX7_dotsOfAll yX7_dotsOfAll ∈ pw := pw_mem (i := 72) (by decide +kernel) rfl
set_option maxRecDepth 100000 in
theorem pq1128 : Cond.fieldLink RX7 67 "MaskTouchModel" "taped" "I" ∈ pw := pw_mem (i := 1128) (by decide +kernel) rfl
set_option maxRecDepth 100000 in
theorem pq1427 : Cond.methodLink RX7 331 yX7_laysAll ∈ pw := pw_mem (i := 1427) (by decide +kernel) rfl
set_option maxRecDepth 100000 in
theorem pq1429 : Cond.instanceMethod yX7_laysAll ∈ pw := pw_mem (i := 1429) (by decide +kernel) rfl
set_option maxRecDepth 100000 in
theorem pq1430 : Cond.code yX7_laysAll cX7_laysAll 14 none ∈ pw := pw_mem (i := 1430) (by rfl) rfl
set_option maxRecDepth 100000 in
theorem pq1444 : Cond.methodLink RX7 263 yX7_touchingOf ∈ pw := pw_mem (i := 1444) (by decide +kernel) rfl
set_option maxRecDepth 100000 in
theorem pq1446 : Cond.instanceMethod yX7_touchingOf ∈ pw := pw_mem (i := 1446) (by decide +kernel) rfl
set_option maxRecDepth 100000 in
theorem pq1447 : Cond.code yX7_touchingOf cX7_touchingOf 4 (some .int) ∈ pw := pw_mem (i := 1447) (by rfl) rfl
set_option maxRecDepth 100000 in
theorem pq1559 : Cond.instanceMethod yX7_row ∈ pw := pw_mem (i := 1559) (by decide +kernel) rfl
set_option maxRecDepth 100000 in
theorem pq1560 : Cond.selects RX7 yX7_row yX7_row ∈ pw := pw_mem (i := 1560) (by decide +kernel) rfl
set_option maxRecDepth 100000 in
theorem pq1561 : Cond.code yX7_row cX7_row 4 (some .long) ∈ pw := pw_mem (i := 1561) (by rfl) rfl
set_option maxRecDepth 100000 in
theorem pq1566 : Cond.constantLong RX7 380 (7) ∈ pw := pw_mem (i := 1566) (by decide +kernel) rfl
set_option maxRecDepth 100000 in
theorem pq1571 : Cond.methodLink RX7 382 yX7_areTwo ∈ pw := pw_mem (i := 1571) (by decide +kernel) rfl
set_option maxRecDepth 100000 in
theorem pq1573 : Cond.instanceMethod yX7_areTwo ∈ pw := pw_mem (i := 1573) (by decide +kernel) rfl
set_option maxRecDepth 100000 in
theorem pq1574 : Cond.code yX7_areTwo cX7_areTwo 3 (some .boolean) ∈ pw := pw_mem (i := 1574) (by rfl) rfl
set_option maxRecDepth 100000 in
theorem pq1575 : Cond.methodLink RX7 385 yX7_commonBy ∈ pw := pw_mem (i := 1575) (by decide +kernel) rfl
set_option maxRecDepth 100000 in
theorem pq1577 : Cond.instanceMethod yX7_commonBy ∈ pw := pw_mem (i := 1577) (by decide +kernel) rfl
set_option maxRecDepth 100000 in
theorem pq1578 : Cond.code yX7_commonBy cX7_commonBy 5 (some .int) ∈ pw := pw_mem (i := 1578) (by rfl) rfl
set_option maxRecDepth 100000 in
theorem pq1583 : Cond.methodLink RX7 388 yX7_lies ∈ pw := pw_mem (i := 1583) (by decide +kernel) rfl
set_option maxRecDepth 100000 in
theorem pq1585 : Cond.instanceMethod yX7_lies ∈ pw := pw_mem (i := 1585) (by decide +kernel) rfl
set_option maxRecDepth 100000 in
theorem pq1586 : Cond.code yX7_lies cX7_lies 8 (some .boolean) ∈ pw := pw_mem (i := 1586) (by rfl) rfl
set_option maxRecDepth 100000 in
theorem pq1595 : Cond.constantLong RX7 394 (2) ∈ pw := pw_mem (i := 1595) (by decide +kernel) rfl
set_option maxRecDepth 100000 in
theorem pq1612 : Cond.methodLink RX7 399 yX7_bodiesAt ∈ pw := pw_mem (i := 1612) (by decide +kernel) rfl
set_option maxRecDepth 100000 in
theorem pq1614 : Cond.instanceMethod yX7_bodiesAt ∈ pw := pw_mem (i := 1614) (by decide +kernel) rfl
set_option maxRecDepth 100000 in
theorem pq1615 : Cond.code yX7_bodiesAt cX7_bodiesAt 5 (some .int) ∈ pw := pw_mem (i := 1615) (by rfl) rfl
set_option maxRecDepth 100000 in
theorem pq1620 : Cond.constantLong RX7 402 (300) ∈ pw := pw_mem (i := 1620) (by decide +kernel) rfl
set_option maxRecDepth 100000 in
theorem pq1641 : Cond.constant RX7 404 (-2000000) ∈ pw := pw_mem (i := 1641) (by decide +kernel) rfl
set_option maxRecDepth 100000 in
theorem pq1662 : Cond.methodLink RX7 413 yX7_masksMeet ∈ pw := pw_mem (i := 1662) (by decide +kernel) rfl
set_option maxRecDepth 100000 in
theorem pq1664 : Cond.instanceMethod yX7_masksMeet ∈ pw := pw_mem (i := 1664) (by decide +kernel) rfl
set_option maxRecDepth 100000 in
theorem pq1665 : Cond.code yX7_masksMeet cX7_masksMeet 8 (some .boolean) ∈ pw := pw_mem (i := 1665) (by rfl) rfl
set_option maxRecDepth 100000 in
theorem pq1670 : Cond.methodLink RX7 416 yX7_areLike ∈ pw := pw_mem (i := 1670) (by decide +kernel) rfl
set_option maxRecDepth 100000 in
theorem pq1672 : Cond.instanceMethod yX7_areLike ∈ pw := pw_mem (i := 1672) (by decide +kernel) rfl
set_option maxRecDepth 100000 in
theorem pq1673 : Cond.code yX7_areLike cX7_areLike 6 (some .boolean) ∈ pw := pw_mem (i := 1673) (by rfl) rfl
set_option maxRecDepth 100000 in
theorem pq1682 : Cond.methodLink RX7 419 yX7_within ∈ pw := pw_mem (i := 1682) (by decide +kernel) rfl
set_option maxRecDepth 100000 in
theorem pq1684 : Cond.instanceMethod yX7_within ∈ pw := pw_mem (i := 1684) (by decide +kernel) rfl
set_option maxRecDepth 100000 in
theorem pq1685 : Cond.code yX7_within cX7_within 9 (some .int) ∈ pw := pw_mem (i := 1685) (by rfl) rfl
set_option maxRecDepth 100000 in
theorem pq1694 : Cond.methodLink RX7 423 yX7_farthest ∈ pw := pw_mem (i := 1694) (by decide +kernel) rfl
set_option maxRecDepth 100000 in
theorem pq1696 : Cond.instanceMethod yX7_farthest ∈ pw := pw_mem (i := 1696) (by decide +kernel) rfl
set_option maxRecDepth 100000 in
theorem pq1697 : Cond.code yX7_farthest cX7_farthest 9 (some .int) ∈ pw := pw_mem (i := 1697) (by rfl) rfl
set_option maxRecDepth 100000 in
theorem pq1717 : Cond.constantLong RX7 434 (17) ∈ pw := pw_mem (i := 1717) (by decide +kernel) rfl
set_option maxRecDepth 100000 in
theorem pq1718 : Cond.constantLong RX7 436 (31) ∈ pw := pw_mem (i := 1718) (by decide +kernel) rfl
set_option maxRecDepth 100000 in
theorem pq1719 : Cond.methodLink RX7 438 yX7_row ∈ pw := pw_mem (i := 1719) (by decide +kernel) rfl
set_option maxRecDepth 100000 in
theorem pq1728 : Cond.methodLink RX7 442 yX7_dotsOfAll ∈ pw := pw_mem (i := 1728) (by decide +kernel) rfl
set_option maxRecDepth 100000 in
theorem pq1730 : Cond.instanceMethod yX7_dotsOfAll ∈ pw := pw_mem (i := 1730) (by decide +kernel) rfl
set_option maxRecDepth 100000 in
theorem pq1731 : Cond.code yX7_dotsOfAll cX7_dotsOfAll 3 (some .int) ∈ pw := pw_mem (i := 1731) (by rfl) rfl
set_option maxHeartbeats 4000000 in
set_option maxRecDepth 100000 in
theorem s_X7_edgeOf (l : Launch) (dC : Nat → ClassId) (dI : Nat → Nat → Nat) (cs : Nat → ClassId) (L : List Nat) (K G : Nat → Nat) (Q : Nat → Nat → Option Nat) (hQ : Sv L K G Q) (x0 m0 : Nat) (tx : Int32) (tm : Int32 × Int) (sz : Nat) (I : Nat → Nat → Int32) (J : Nat → Nat → Int64) (hI : Iv L K x0 m0 tx tm I) (p0 : Nat) (hLp0 : p0 ∈ L) (hKp0 : K p0 = 7) (p1 : Int32) (bp1 : (0) ≤ p1.toInt ∧ p1.toInt ≤ 7) : Met l yX7_edgeOf (.code yX7_edgeOf cX7_edgeOf 5 (some .int) :: pw) ({ frames := 3, cells := 0, slots := 0, locals := 71 }) (sP (dC, dI) cs [.ref p0, .int p1] sz L K I J Q) (va_Qi (fun (r : Int32) (_ : Unit) => True) (fun _ _ => True) (fun _ => False)) 0 0 (fun _ => False) := by
  refine Met.ofW (cc := cX7_edgeOf) (maxL := 5) (ret := (some .int)) (by decide +kernel) rfl ?_
  intro p e s m args below meth c s₁ B hml hv
  obtain ⟨rfl, hsz, hP, hK, hD0, hN⟩ := hv
  have hx := B.exec
  have hb := B.bytes
  have hr := B.returns
  have hts := fun w (h : w ∈ pw) => atoms_spec (ws := Cond.code yX7_edgeOf cX7_edgeOf 5 (some .int) :: pw) B.pre w (List.mem_cons_of_mem _ h)
  have hown : s.vm.findClass RX7 = some m.cls := findClass_of_methodNamed B.named
  have hlocks := B.notSynchronized
  subst hsz
  have hBB : 999 ≤ tm.2 ∧ tm.2 ≤ 6000000 := hI.2.2.2.2
  have hD := hD0
  obtain ⟨H, hHe⟩ : ∃ H : Heap, H = s.heap := ⟨_, rfl⟩
  have hS : va_S (fun _ => False) s.heap H [] := by rw [hHe]; exact va_S.rf
  rw [← hHe] at hP
  have hl := lv_entry ([.ref p0, .int p1]) (n := 5) (Nat.le_of_ble_eq_true rfl)
  rw [lg_entry_eq]
  generalize (lg_sl ([.ref p0, .int p1]) ++ List.replicate (5 - (lg_sl ([.ref p0, .int p1])).length) Slot.unset).toArray = ls at hl ⊢
  have hl : lv_has ls 5 [(0, .ref p0), (1, .int p1)] := hl
  rw [← hHe]
  refine namedW (fun R Qz hR hQz => ?_)
  refine lv_iconst (v := 0) hx hb dX7_edgeOf_0 (by decide +kernel) ?_
  refine lv_istore_n (lv' := [(2, .int 0), (0, .ref p0), (1, .int p1)]) hx hb dX7_edgeOf_1 rfl hl (by decide) rfl (fun ls hl => ?_)
  refine lv_iconst (v := 0) hx hb dX7_edgeOf_2 (by decide +kernel) ?_
  refine lv_istore_n (lv' := [(3, .int 0), (2, .int 0), (0, .ref p0), (1, .int p1)]) hx hb dX7_edgeOf_3 rfl hl (by decide) rfl (fun ls hl => ?_)
  have key4 := blocks (fun n => ∀ (v4_2 : Int32) (v4_3 : Int32) (H : Heap) (lo : List Loc) (ls : Array Slot), (41 - v4_3.toInt).toNat = n → ((0) ≤ v4_3.toInt ∧ v4_3.toInt ≤ 40) → va_P (dC, dI) vwCl (Wd cs L K I J Q) H → va_S (fun _ => False) s.heap H lo → lv_has ls 5 [(0, .ref p0), (1, .int p1), (2, .int v4_2), (3, .int v4_3)] → W p l e R s m (([.ref p0, .int p1] : List Value).toArray) below meth c H lo 0 0 Qz (F0 m 4 ls [])) (by
    intro n ih4
    intro v4_2 v4_3 H lo ls hmu4 bv4_3 hP hS hl
    refine lv_iload_n hx hb dX7_edgeOf_4 rfl (lv_at hl 3 rfl) ?_
    refine lv_aload_n hx hb dX7_edgeOf_5 rfl (lv_at hl 0 rfl) ?_
    refine lv_iload_n hx hb dX7_edgeOf_6 rfl (lv_at hl 1 rfl) ?_
    refine ro_i (va_runV (As := [.int p1]) (rest := [.int v4_3]) ⟨hx, hb, hml, hown, hts⟩ (s_X7_high l dC dI cs L K G Q hQ x0 m0 tx tm H.size I J hI p0 hLp0 hKp0 p1 ⟨by omega, by omega⟩) (cwV 1 hts (gV pq1372 pq1374 pq33 pq81 pq1375) rfl rfl rfl (by decide +kernel) ⟨(by rw [hR]; exact (Nat.le_of_ble_eq_true rfl)), (by rw [hR]; exact (Nat.le_of_ble_eq_true rfl))⟩) (sP_V hP hD hK hN hLp0 hKp0 rfl rfl) rfl rfl hl.1 rfl (lv_room (Nat.le_of_ble_eq_true rfl)) dX7_edgeOf_7 ⟨(by rw [hR]; exact (Nat.le_of_ble_eq_true rfl)), (by rw [hR]; exact (Nat.le_of_ble_eq_true rfl))⟩) hS hP (fun z7 H locs hz7 hP hS => ?_)
    obtain ⟨bz7, fez7⟩ := hz7
    refine lv_icmp_ge (tgt := 66) hx hb dX7_edgeOf_10 (by decide) (fun c10 => ?_) (fun c10 => ?_)
    · have t10 := tq_le (k := z7.toInt) (q := v4_3.toInt) c10 rfl rfl
      refine lv_iload_n hx hb dX7_edgeOf_66 rfl (lv_at hl 2 rfl) ?_
      subst hR; subst hQz
      exact W.iret (v := v4_2) hx hb hr (fun t ht hW => ⟨⟨v4_2, (), rfl, trivial, trivial⟩, hS.F ht⟩) hS.2.2 dX7_edgeOf_67
    · have t10 := tq_nle (k := z7.toInt) (q := v4_3.toInt) c10 rfl rfl
      refine lv_iconst (v := 0) hx hb dX7_edgeOf_13 (by decide +kernel) ?_
      refine lv_istore (lv' := [(4, .int 0), (0, .ref p0), (1, .int p1), (2, .int v4_2), (3, .int v4_3)]) hx hb dX7_edgeOf_14 hl (by decide) rfl (fun ls hl => ?_)
      have key16 := blocks (fun n => ∀ (v16_2 : Int32) (v16_4 : Int32) (H : Heap) (lo : List Loc) (ls : Array Slot), (101 - v16_4.toInt).toNat = n → ((0) ≤ v16_4.toInt ∧ v16_4.toInt ≤ 100) → va_P (dC, dI) vwCl (Wd cs L K I J Q) H → va_S (fun _ => False) s.heap H lo → lv_has ls 5 [(0, .ref p0), (1, .int p1), (2, .int v16_2), (3, .int v4_3), (4, .int v16_4)] → W p l e R s m (([.ref p0, .int p1] : List Value).toArray) below meth c H lo 0 0 Qz (F0 m 16 ls [])) (by
        intro n ih16
        intro v16_2 v16_4 H lo ls hmu16 bv16_4 hP hS hl
        refine lv_iload hx hb dX7_edgeOf_16 (lv_at hl 4 rfl) ?_
        refine lv_aload_n hx hb dX7_edgeOf_18 rfl (lv_at hl 0 rfl) ?_
        refine lv_iload_n hx hb dX7_edgeOf_19 rfl (lv_at hl 1 rfl) ?_
        refine ro_i (va_runV (As := [.int p1]) (rest := [.int v16_4]) ⟨hx, hb, hml, hown, hts⟩ (s_X7_wide l dC dI cs L K G Q hQ x0 m0 tx tm H.size I J hI p0 hLp0 hKp0 p1 ⟨by omega, by omega⟩) (cwV 1 hts (gV pq1368 pq1370 pq32 pq81 pq1371) rfl rfl rfl (by decide +kernel) ⟨(by rw [hR]; exact (Nat.le_of_ble_eq_true rfl)), (by rw [hR]; exact (Nat.le_of_ble_eq_true rfl))⟩) (sP_V hP hD hK hN hLp0 hKp0 rfl rfl) rfl rfl hl.1 rfl (lv_room (Nat.le_of_ble_eq_true rfl)) dX7_edgeOf_20 ⟨(by rw [hR]; exact (Nat.le_of_ble_eq_true rfl)), (by rw [hR]; exact (Nat.le_of_ble_eq_true rfl))⟩) hS hP (fun z20 H locs hz20 hP hS => ?_)
        obtain ⟨bz20, fez20⟩ := hz20
        refine lv_icmp_ge (tgt := 60) hx hb dX7_edgeOf_23 (by decide) (fun c23 => ?_) (fun c23 => ?_)
        · have t23 := tq_le (k := z20.toInt) (q := v16_4.toInt) c23 rfl rfl
          obtain ⟨z60, ez60⟩ : ∃ y : Int32, y = v4_3 + 1 := ⟨_, rfl⟩
          refine lv_iinc (v := z60) (lv' := [(3, .int z60), (0, .ref p0), (1, .int p1), (2, .int v16_2), (4, .int v16_4)]) hx hb dX7_edgeOf_60 hl (k := 3) rfl (by rw [ez60]; rfl) (by decide) rfl (fun ls hl => ?_)
          have bz60 := tq_add (k := v4_3.toInt) (q := 1) ez60 rfl (by decide +kernel) (by omega) (by omega)
          refine lv_goto (tgt := 4) hx hb dX7_edgeOf_63 (by decide) ?_
          exact ih4 _ (by omega) v16_2 z60 _ _ _ rfl ⟨by omega, by omega⟩ hP hS (lv_sub hl [1, 2, 3, 0] rfl)
        · have t23 := tq_nle (k := z20.toInt) (q := v16_4.toInt) c23 rfl rfl
          refine lv_iload_n hx hb dX7_edgeOf_26 rfl (lv_at hl 2 rfl) ?_
          refine lv_aload_n hx hb dX7_edgeOf_27 rfl (lv_at hl 0 rfl) ?_
          refine lv_iload_n hx hb dX7_edgeOf_28 rfl (lv_at hl 1 rfl) ?_
          refine lv_iload hx hb dX7_edgeOf_29 (lv_at hl 4 rfl) ?_
          refine lv_iload_n hx hb dX7_edgeOf_31 rfl (lv_at hl 3 rfl) ?_
          refine ro_i (va_runV (As := [.int p1, .int v16_4, .int v4_3]) (rest := [.int v16_2]) ⟨hx, hb, hml, hown, hts⟩ (s_X7_has l dC dI cs L K G Q hQ x0 m0 tx tm H.size I J hI p0 hLp0 hKp0 p1 ⟨by omega, by omega⟩ v16_4 v4_3) (cwV 3 hts (gV pq1376 pq1378 pq34 pq81 pq1379) rfl rfl rfl (by decide +kernel) ⟨(by rw [hR]; exact (Nat.le_of_ble_eq_true rfl)), (by rw [hR]; exact (Nat.le_of_ble_eq_true rfl))⟩) (sP_V hP hD hK hN hLp0 hKp0 rfl rfl) rfl rfl hl.1 rfl (lv_room (Nat.le_of_ble_eq_true rfl)) dX7_edgeOf_32 ⟨(by rw [hR]; exact (Nat.le_of_ble_eq_true rfl)), (by rw [hR]; exact (Nat.le_of_ble_eq_true rfl))⟩) hS hP (fun z32 H locs hz32 hP hS => ?_)
          obtain ⟨bz32, imz32⟩ := hz32
          have j52 : ∀ (w52_1 : Int32) (H : Heap) (lo : List Loc) (ls : Array Slot), ((0) ≤ w52_1.toInt ∧ w52_1.toInt ≤ 4) → va_P (dC, dI) vwCl (Wd cs L K I J Q) H → va_S (fun _ => False) s.heap H lo → lv_has ls 5 [(0, .ref p0), (1, .int p1), (2, .int v16_2), (3, .int v4_3), (4, .int v16_4)] → W p l e R s m (([.ref p0, .int p1] : List Value).toArray) below meth c H lo 0 0 Qz (F0 m 52 ls [.int w52_1, .int v16_2]) := by
            intro w52_1 H lo ls bw52_1 hP hS hl
            refine lv_iadd hx hb dX7_edgeOf_52 ?_
            refine lv_topi (fun z52 ez52 => ?_)
            refine lv_istore_n (lv' := [(2, .int z52), (0, .ref p0), (1, .int p1), (3, .int v4_3), (4, .int v16_4)]) hx hb dX7_edgeOf_53 rfl hl (by decide) rfl (fun ls hl => ?_)
            obtain ⟨z54, ez54⟩ : ∃ y : Int32, y = v16_4 + 1 := ⟨_, rfl⟩
            refine lv_iinc (v := z54) (lv' := [(4, .int z54), (2, .int z52), (0, .ref p0), (1, .int p1), (3, .int v4_3)]) hx hb dX7_edgeOf_54 hl (k := 4) rfl (by rw [ez54]; rfl) (by decide) rfl (fun ls hl => ?_)
            have bz54 := tq_add (k := v16_4.toInt) (q := 1) ez54 rfl (by decide +kernel) (by omega) (by omega)
            refine lv_goto (tgt := 16) hx hb dX7_edgeOf_57 (by decide) ?_
            exact ih16 _ (by omega) z52 z54 _ _ _ rfl ⟨by omega, by omega⟩ hP hS (lv_sub hl [2, 3, 1, 4, 0] rfl)
          refine lv_if_eq (tgt := 51) hx hb dX7_edgeOf_35 (by decide) (fun c35 => ?_) (fun c35 => ?_)
          · have t35 := tq_eq (k := z32.toInt) (q := (0)) c35 rfl (by decide +kernel)
            refine lv_iconst (v := 0) hx hb dX7_edgeOf_51 (by decide +kernel) ?_
            exact j52 0 _ _ _ ⟨by decide +kernel, by decide +kernel⟩ hP hS (lv_sub hl [0, 1, 2, 3, 4] rfl)
          · have t35 := tq_ne (k := z32.toInt) (q := (0)) c35 rfl (by decide +kernel)
            have i35 := imz32 t35
            refine lv_iconst (v := 4) hx hb dX7_edgeOf_38 (by decide +kernel) ?_
            refine lv_aload_n hx hb dX7_edgeOf_39 rfl (lv_at hl 0 rfl) ?_
            refine lv_iload_n hx hb dX7_edgeOf_40 rfl (lv_at hl 1 rfl) ?_
            refine lv_iload hx hb dX7_edgeOf_41 (lv_at hl 4 rfl) ?_
            refine lv_iload_n hx hb dX7_edgeOf_43 rfl (lv_at hl 3 rfl) ?_
            refine ro_i (va_runV (As := [.int p1, .int v16_4, .int v4_3]) (rest := [.int 4, .int v16_2]) ⟨hx, hb, hml, hown, hts⟩ (s_X7_around l dC dI cs L K G Q hQ x0 m0 tx tm H.size I J hI p0 hLp0 hKp0 p1 ⟨by omega, by omega⟩ v16_4 v4_3) (cwV 3 hts (gV pq1395 pq1397 pq37 pq81 pq1398) rfl rfl rfl (by decide +kernel) ⟨(by rw [hR]; exact (Nat.le_of_ble_eq_true rfl)), (by rw [hR]; exact (Nat.le_of_ble_eq_true rfl))⟩) (sP_V hP hD hK hN hLp0 hKp0 rfl rfl) rfl rfl hl.1 rfl (lv_room (Nat.le_of_ble_eq_true rfl)) dX7_edgeOf_44 ⟨(by rw [hR]; exact (Nat.le_of_ble_eq_true rfl)), (by rw [hR]; exact (Nat.le_of_ble_eq_true rfl))⟩) hS hP (fun z44 H locs hz44 hP hS => ?_)
            have bz44 := hz44
            refine lv_isub hx hb dX7_edgeOf_47 ?_
            refine lv_topi (fun z47 ez47 => ?_)
            have bz47 := tq_sub (k := (4)) (q := z44.toInt) ez47 (by decide +kernel) rfl (by omega) (by omega)
            refine lv_goto (tgt := 52) hx hb dX7_edgeOf_48 (by decide) ?_
            exact j52 z47 _ _ _ ⟨by omega, by omega⟩ hP hS (lv_sub hl [0, 1, 2, 3, 4] rfl))
      exact key16 _ v4_2 0 _ _ _ rfl ⟨by decide +kernel, by decide +kernel⟩ hP hS (lv_sub hl [1, 2, 3, 4, 0] rfl))
  exact key4 _ 0 0 _ _ _ rfl ⟨by decide +kernel, by decide +kernel⟩ hP hS (lv_sub hl [2, 3, 1, 0] rfl)

set_option maxHeartbeats 4000000 in
set_option maxRecDepth 100000 in
theorem s_X7_dot (l : Launch) (dC : Nat → ClassId) (dI : Nat → Nat → Nat) (cs : Nat → ClassId) (L : List Nat) (K G : Nat → Nat) (Q : Nat → Nat → Option Nat) (hQ : Sv L K G Q) (x0 m0 : Nat) (tx : Int32) (tm : Int32 × Int) (sz : Nat) (I : Nat → Nat → Int32) (J : Nat → Nat → Int64) (hI : Iv L K x0 m0 tx tm I) (p0 : Nat) (hLp0 : p0 ∈ L) (hKp0 : K p0 = 7) (p1 : Int32) (p2 : Int32) (p3 : Int32) : Met l yX7_dot (.code yX7_dot cX7_dot 4 (some .int) :: pw) ({ frames := 2, cells := 0, slots := 0, locals := 48 }) (sP (dC, dI) cs [.ref p0, .int p1, .int p2, .int p3] sz L K I J Q) (va_Qi (fun (r : Int32) (_ : Unit) => True) (fun _ _ => True) (fun _ => False)) 0 0 (fun _ => False) := by
  refine Met.ofW (cc := cX7_dot) (maxL := 4) (ret := (some .int)) (by decide +kernel) rfl ?_
  intro p e s m args below meth c s₁ B hml hv
  obtain ⟨rfl, hsz, hP, hK, hD0, hN⟩ := hv
  have hx := B.exec
  have hb := B.bytes
  have hr := B.returns
  have hts := fun w (h : w ∈ pw) => atoms_spec (ws := Cond.code yX7_dot cX7_dot 4 (some .int) :: pw) B.pre w (List.mem_cons_of_mem _ h)
  have hown : s.vm.findClass RX7 = some m.cls := findClass_of_methodNamed B.named
  have hlocks := B.notSynchronized
  subst hsz
  have hBB : 999 ≤ tm.2 ∧ tm.2 ≤ 6000000 := hI.2.2.2.2
  have hD := hD0
  obtain ⟨H, hHe⟩ : ∃ H : Heap, H = s.heap := ⟨_, rfl⟩
  have hS : va_S (fun _ => False) s.heap H [] := by rw [hHe]; exact va_S.rf
  rw [← hHe] at hP
  have hl := lv_entry ([.ref p0, .int p1, .int p2, .int p3]) (n := 4) (Nat.le_of_ble_eq_true rfl)
  rw [lg_entry_eq]
  generalize (lg_sl ([.ref p0, .int p1, .int p2, .int p3]) ++ List.replicate (4 - (lg_sl ([.ref p0, .int p1, .int p2, .int p3])).length) Slot.unset).toArray = ls at hl ⊢
  have hl : lv_has ls 4 [(0, .ref p0), (1, .int p1), (2, .int p2), (3, .int p3)] := hl
  rw [← hHe]
  refine namedW (fun R Qz hR hQz => ?_)
  refine lv_aload_n hx hb dX7_dot_0 rfl (lv_at hl 0 rfl) ?_
  refine lv_iload_n hx hb dX7_dot_1 rfl (lv_at hl 1 rfl) ?_
  refine ro_i (va_runV (As := [.int p1]) (rest := []) ⟨hx, hb, hml, hown, hts⟩ (s_X7_isMask l dC dI cs L K G Q hQ x0 m0 tx tm H.size I J hI p0 hLp0 hKp0 p1) (cwV 1 hts (gV pq1364 pq1366 pq31 pq81 pq1367) rfl rfl rfl (by decide +kernel) ⟨(by rw [hR]; exact (Nat.le_of_ble_eq_true rfl)), (by rw [hR]; exact (Nat.le_of_ble_eq_true rfl))⟩) (sP_V hP hD hK hN hLp0 hKp0 rfl rfl) rfl rfl hl.1 rfl (lv_room (Nat.le_of_ble_eq_true rfl)) dX7_dot_2 ⟨(by rw [hR]; exact (Nat.le_of_ble_eq_true rfl)), (by rw [hR]; exact (Nat.le_of_ble_eq_true rfl))⟩) hS hP (fun z2 H locs hz2 hP hS => ?_)
  obtain ⟨bz2, imz2⟩ := hz2
  refine lv_if_eq (tgt := 21) hx hb dX7_dot_5 (by decide) (fun c5 => ?_) (fun c5 => ?_)
  · have t5 := tq_eq (k := z2.toInt) (q := (0)) c5 rfl (by decide +kernel)
    refine lv_iconst (v := (-1)) hx hb dX7_dot_21 (by decide +kernel) ?_
    subst hR; subst hQz
    exact W.iret (v := (-1)) hx hb hr (fun t ht hW => ⟨⟨(-1), (), rfl, trivial, trivial⟩, hS.F ht⟩) hS.2.2 dX7_dot_22
  · have t5 := tq_ne (k := z2.toInt) (q := (0)) c5 rfl (by decide +kernel)
    have i5 := imz2 t5
    refine lv_aload_n hx hb dX7_dot_8 rfl (lv_at hl 0 rfl) ?_
    refine lv_iload_n hx hb dX7_dot_9 rfl (lv_at hl 1 rfl) ?_
    refine lv_iload_n hx hb dX7_dot_10 rfl (lv_at hl 2 rfl) ?_
    refine lv_iload_n hx hb dX7_dot_11 rfl (lv_at hl 3 rfl) ?_
    refine ro_i (va_runV (As := [.int p1, .int p2, .int p3]) (rest := []) ⟨hx, hb, hml, hown, hts⟩ (s_X7_has l dC dI cs L K G Q hQ x0 m0 tx tm H.size I J hI p0 hLp0 hKp0 p1 ⟨by omega, by omega⟩ p2 p3) (cwV 3 hts (gV pq1376 pq1378 pq34 pq81 pq1379) rfl rfl rfl (by decide +kernel) ⟨(by rw [hR]; exact (Nat.le_of_ble_eq_true rfl)), (by rw [hR]; exact (Nat.le_of_ble_eq_true rfl))⟩) (sP_V hP hD hK hN hLp0 hKp0 rfl rfl) rfl rfl hl.1 rfl (lv_room (Nat.le_of_ble_eq_true rfl)) dX7_dot_12 ⟨(by rw [hR]; exact (Nat.le_of_ble_eq_true rfl)), (by rw [hR]; exact (Nat.le_of_ble_eq_true rfl))⟩) hS hP (fun z12 H locs hz12 hP hS => ?_)
    obtain ⟨bz12, imz12⟩ := hz12
    refine ro_i (va_runS (As := [.int z12]) (rest := []) ⟨hx, hb, hml, hown, hts⟩ (s_X7_truth l dC dI cs L K Q H.size I J z12) (va_cwS 1 hts (gS pq1257 pq1258 pq81 pq1259) rfl rfl rfl (by decide +kernel) ⟨(by rw [hR]; exact (Nat.le_of_ble_eq_true rfl)), (by rw [hR]; exact (Nat.le_of_ble_eq_true rfl))⟩) (sP_S hP hD hK hN) rfl rfl hl.1 rfl (lv_room (Nat.le_of_ble_eq_true rfl)) dX7_dot_15 ⟨(by rw [hR]; exact (Nat.le_of_ble_eq_true rfl)), (by rw [hR]; exact (Nat.le_of_ble_eq_true rfl))⟩) hS hP (fun z15 H locs hz15 hP hS => ?_)
    obtain ⟨bz15, xpz15⟩ := hz15
    refine lv_goto (tgt := 22) hx hb dX7_dot_18 (by decide) ?_
    subst hR; subst hQz
    exact W.iret (v := z15) hx hb hr (fun t ht hW => ⟨⟨z15, (), rfl, trivial, trivial⟩, hS.F ht⟩) hS.2.2 dX7_dot_22

set_option maxHeartbeats 4000000 in
set_option maxRecDepth 100000 in
theorem s_X7_row (l : Launch) (dC : Nat → ClassId) (dI : Nat → Nat → Nat) (cs : Nat → ClassId) (L : List Nat) (K G : Nat → Nat) (Q : Nat → Nat → Option Nat) (hQ : Sv L K G Q) (x0 m0 : Nat) (tx : Int32) (tm : Int32 × Int) (sz : Nat) (I : Nat → Nat → Int32) (J : Nat → Nat → Int64) (hI : Iv L K x0 m0 tx tm I) (p0 : Nat) (hLp0 : p0 ∈ L) (hKp0 : K p0 = 7) (p1 : Int32) (p2 : Int32) (p3 : Int32) : Met l yX7_row (.code yX7_row cX7_row 4 (some .long) :: pw) ({ frames := 2, cells := 0, slots := 0, locals := 46 }) (sP (dC, dI) cs [.ref p0, .int p1, .int p2, .int p3] sz L K I J Q) (va_Ql (fun (r : Int64) (_ : Unit) => True) (fun _ _ => True) (fun _ => False)) 0 0 (fun _ => False) := by
  refine Met.ofW (cc := cX7_row) (maxL := 4) (ret := (some .long)) (by decide +kernel) rfl ?_
  intro p e s m args below meth c s₁ B hml hv
  obtain ⟨rfl, hsz, hP, hK, hD0, hN⟩ := hv
  have hx := B.exec
  have hb := B.bytes
  have hr := B.returns
  have hts := fun w (h : w ∈ pw) => atoms_spec (ws := Cond.code yX7_row cX7_row 4 (some .long) :: pw) B.pre w (List.mem_cons_of_mem _ h)
  have hown : s.vm.findClass RX7 = some m.cls := findClass_of_methodNamed B.named
  have hlocks := B.notSynchronized
  subst hsz
  have hBB : 999 ≤ tm.2 ∧ tm.2 ≤ 6000000 := hI.2.2.2.2
  have hD := hD0
  obtain ⟨H, hHe⟩ : ∃ H : Heap, H = s.heap := ⟨_, rfl⟩
  have hS : va_S (fun _ => False) s.heap H [] := by rw [hHe]; exact va_S.rf
  rw [← hHe] at hP
  have hl := lv_entry ([.ref p0, .int p1, .int p2, .int p3]) (n := 4) (Nat.le_of_ble_eq_true rfl)
  rw [lg_entry_eq]
  generalize (lg_sl ([.ref p0, .int p1, .int p2, .int p3]) ++ List.replicate (4 - (lg_sl ([.ref p0, .int p1, .int p2, .int p3])).length) Slot.unset).toArray = ls at hl ⊢
  have hl : lv_has ls 4 [(0, .ref p0), (1, .int p1), (2, .int p2), (3, .int p3)] := hl
  rw [← hHe]
  refine namedW (fun R Qz hR hQz => ?_)
  refine lv_aload_n hx hb dX7_row_0 rfl (lv_at hl 0 rfl) ?_
  refine lv_iload_n hx hb dX7_row_1 rfl (lv_at hl 1 rfl) ?_
  refine ro_i (va_runV (As := [.int p1]) (rest := []) ⟨hx, hb, hml, hown, hts⟩ (s_X7_isMask l dC dI cs L K G Q hQ x0 m0 tx tm H.size I J hI p0 hLp0 hKp0 p1) (cwV 1 hts (gV pq1364 pq1366 pq31 pq81 pq1367) rfl rfl rfl (by decide +kernel) ⟨(by rw [hR]; exact (Nat.le_of_ble_eq_true rfl)), (by rw [hR]; exact (Nat.le_of_ble_eq_true rfl))⟩) (sP_V hP hD hK hN hLp0 hKp0 rfl rfl) rfl rfl hl.1 rfl (lv_room (Nat.le_of_ble_eq_true rfl)) dX7_row_2 ⟨(by rw [hR]; exact (Nat.le_of_ble_eq_true rfl)), (by rw [hR]; exact (Nat.le_of_ble_eq_true rfl))⟩) hS hP (fun z2 H locs hz2 hP hS => ?_)
  obtain ⟨bz2, imz2⟩ := hz2
  refine lv_if_eq (tgt := 53) hx hb dX7_row_5 (by decide) (fun c5 => ?_) (fun c5 => ?_)
  · have t5 := tq_eq (k := z2.toInt) (q := (0)) c5 rfl (by decide +kernel)
    refine lv_lconst (v := 0) hx hb dX7_row_53 (by decide +kernel) ?_
    subst hR; subst hQz
    exact W.lret (v := 0) hx hb hr (fun t ht hW => ⟨⟨0, (), rfl, trivial, trivial⟩, hS.F ht⟩) hS.2.2 dX7_row_54
  · have t5 := tq_ne (k := z2.toInt) (q := (0)) c5 rfl (by decide +kernel)
    have i5 := imz2 t5
    refine lv_iload_n hx hb dX7_row_8 rfl (lv_at hl 2 rfl) ?_
    refine lv_i2l hx hb dX7_row_9 rfl ?_
    refine lv_topl (fun z9 ez9 => ?_)
    have bz9 := tq_i2l (k := p2.toInt) ez9 rfl
    refine lv_lconst (v := 0) hx hb dX7_row_10 (by decide +kernel) ?_
    refine lv_aload_n hx hb dX7_row_11 rfl (lv_at hl 0 rfl) ?_
    refine lv_iload_n hx hb dX7_row_12 rfl (lv_at hl 1 rfl) ?_
    refine ro_i (va_runV (As := [.int p1]) (rest := [.long 0, .long z9]) ⟨hx, hb, hml, hown, hts⟩ (s_X7_high l dC dI cs L K G Q hQ x0 m0 tx tm H.size I J hI p0 hLp0 hKp0 p1 ⟨by omega, by omega⟩) (cwV 1 hts (gV pq1372 pq1374 pq33 pq81 pq1375) rfl rfl rfl (by decide +kernel) ⟨(by rw [hR]; exact (Nat.le_of_ble_eq_true rfl)), (by rw [hR]; exact (Nat.le_of_ble_eq_true rfl))⟩) (sP_V hP hD hK hN hLp0 hKp0 rfl rfl) rfl rfl hl.1 rfl (lv_room (Nat.le_of_ble_eq_true rfl)) dX7_row_13 ⟨(by rw [hR]; exact (Nat.le_of_ble_eq_true rfl)), (by rw [hR]; exact (Nat.le_of_ble_eq_true rfl))⟩) hS hP (fun z13 H locs hz13 hP hS => ?_)
    obtain ⟨bz13, fez13⟩ := hz13
    refine lv_iconst (v := 1) hx hb dX7_row_16 (by decide +kernel) ?_
    refine lv_isub hx hb dX7_row_17 ?_
    refine lv_topi (fun z17 ez17 => ?_)
    have bz17 := tq_sub (k := z13.toInt) (q := (1)) ez17 rfl (by decide +kernel) (by omega) (by omega)
    refine lv_i2l hx hb dX7_row_18 rfl ?_
    refine lv_topl (fun z18 ez18 => ?_)
    have bz18 := tq_i2l (k := z17.toInt) ez18 rfl
    refine ro_i (va_runS (As := [.long z9, .long 0, .long z18]) (rest := []) ⟨hx, hb, hml, hown, hts⟩ (s_X7_in l dC dI cs L K Q H.size I J z9 0 z18) (va_cwS 3 hts (gS pq1234 pq1235 pq81 pq1236) rfl rfl rfl (by decide +kernel) ⟨(by rw [hR]; exact (Nat.le_of_ble_eq_true rfl)), (by rw [hR]; exact (Nat.le_of_ble_eq_true rfl))⟩) (sP_S hP hD hK hN) rfl rfl hl.1 rfl (lv_room (Nat.le_of_ble_eq_true rfl)) dX7_row_19 ⟨(by rw [hR]; exact (Nat.le_of_ble_eq_true rfl)), (by rw [hR]; exact (Nat.le_of_ble_eq_true rfl))⟩) hS hP (fun z19 H locs hz19 hP hS => ?_)
    have csl19_0 : (0 : Int64).toInt = 0 := by decide +kernel
    obtain ⟨bz19, imz19⟩ := hz19
    refine lv_if_eq (tgt := 53) hx hb dX7_row_22 (by decide) (fun c22 => ?_) (fun c22 => ?_)
    · have t22 := tq_eq (k := z19.toInt) (q := (0)) c22 rfl (by decide +kernel)
      refine lv_lconst (v := 0) hx hb dX7_row_53 (by decide +kernel) ?_
      subst hR; subst hQz
      exact W.lret (v := 0) hx hb hr (fun t ht hW => ⟨⟨0, (), rfl, trivial, trivial⟩, hS.F ht⟩) hS.2.2 dX7_row_54
    · have t22 := tq_ne (k := z19.toInt) (q := (0)) c22 rfl (by decide +kernel)
      have i22 := imz19 t22
      refine lv_iload_n hx hb dX7_row_25 rfl (lv_at hl 3 rfl) ?_
      refine lv_i2l hx hb dX7_row_26 rfl ?_
      refine lv_topl (fun z26 ez26 => ?_)
      have bz26 := tq_i2l (k := p3.toInt) ez26 rfl
      refine lv_lconst (v := 0) hx hb dX7_row_27 (by decide +kernel) ?_
      refine lv_lconst (v := 1) hx hb dX7_row_28 (by decide +kernel) ?_
      refine ro_i (va_runS (As := [.long z26, .long 0, .long 1]) (rest := []) ⟨hx, hb, hml, hown, hts⟩ (s_X7_in l dC dI cs L K Q H.size I J z26 0 1) (va_cwS 3 hts (gS pq1234 pq1235 pq81 pq1236) rfl rfl rfl (by decide +kernel) ⟨(by rw [hR]; exact (Nat.le_of_ble_eq_true rfl)), (by rw [hR]; exact (Nat.le_of_ble_eq_true rfl))⟩) (sP_S hP hD hK hN) rfl rfl hl.1 rfl (lv_room (Nat.le_of_ble_eq_true rfl)) dX7_row_29 ⟨(by rw [hR]; exact (Nat.le_of_ble_eq_true rfl)), (by rw [hR]; exact (Nat.le_of_ble_eq_true rfl))⟩) hS hP (fun z29 H locs hz29 hP hS => ?_)
      have csl29_0 : (0 : Int64).toInt = 0 := by decide +kernel
      have csl29_1 : (1 : Int64).toInt = 1 := by decide +kernel
      obtain ⟨bz29, imz29⟩ := hz29
      refine lv_if_eq (tgt := 53) hx hb dX7_row_32 (by decide) (fun c32 => ?_) (fun c32 => ?_)
      · have t32 := tq_eq (k := z29.toInt) (q := (0)) c32 rfl (by decide +kernel)
        refine lv_lconst (v := 0) hx hb dX7_row_53 (by decide +kernel) ?_
        subst hR; subst hQz
        exact W.lret (v := 0) hx hb hr (fun t ht hW => ⟨⟨0, (), rfl, trivial, trivial⟩, hS.F ht⟩) hS.2.2 dX7_row_54
      · have t32 := tq_ne (k := z29.toInt) (q := (0)) c32 rfl (by decide +kernel)
        have i32 := imz29 t32
        refine lv_aload_n hx hb dX7_row_35 rfl (lv_at hl 0 rfl) ?_
        obtain ⟨y36, ey36, hLy36, hKy36⟩ := oQ_7_5 (Sv_at hQ hLp0 hKp0)
        refine p_get (v := .ref y36) hx hb hts inX7 hown hK hP hLp0 hKp0 rfl rfl 5 (by decide) (hts _ pq1120) (congrArg (fun q => some (va_rf q)) ey36) dX7_row_36 ?_
        refine lv_bipush (v := 80) hx hb dX7_row_39 (by decide +kernel) ?_
        refine lv_iload_n hx hb dX7_row_41 rfl (lv_at hl 1 rfl) ?_
        refine lv_imul hx hb dX7_row_42 ?_
        refine lv_topi (fun z42 ez42 => ?_)
        have bz42 := tq_mul (k := (80)) (q := p1.toInt) ez42 (by decide +kernel) rfl (by omega) (by omega)
        refine lv_iconst (v := 2) hx hb dX7_row_43 (by decide +kernel) ?_
        refine lv_iload_n hx hb dX7_row_44 rfl (lv_at hl 2 rfl) ?_
        refine lv_imul hx hb dX7_row_45 ?_
        refine lv_topi (fun z45 ez45 => ?_)
        have bz45 := tq_mul (k := (2)) (q := p2.toInt) ez45 (by decide +kernel) rfl (by omega) (by omega)
        refine lv_iadd hx hb dX7_row_46 ?_
        refine lv_topi (fun z46 ez46 => ?_)
        have bz46 := tq_add (k := z42.toInt) (q := z45.toInt) ez46 rfl rfl (by omega) (by omega)
        refine lv_iload_n hx hb dX7_row_47 rfl (lv_at hl 3 rfl) ?_
        refine lv_iadd hx hb dX7_row_48 ?_
        refine lv_topi (fun z48 ez48 => ?_)
        have bz48 := tq_add (k := z46.toInt) (q := p3.toInt) ez48 rfl rfl (by omega) (by omega)
        refine p_lald hx hb hK hP 11 hLy36 hKy36 rfl rfl (in_of (by omega) (by omega)) dX7_row_49 ?_
        refine lv_topl (fun z49 ez49 => ?_)
        refine lv_goto (tgt := 54) hx hb dX7_row_50 (by decide) ?_
        subst hR; subst hQz
        exact W.lret (v := z49) hx hb hr (fun t ht hW => ⟨⟨z49, (), rfl, trivial, trivial⟩, hS.F ht⟩) hS.2.2 dX7_row_54

set_option maxHeartbeats 4000000 in
set_option maxRecDepth 100000 in
theorem s_X7_body (l : Launch) (dC : Nat → ClassId) (dI : Nat → Nat → Nat) (cs : Nat → ClassId) (L : List Nat) (K G : Nat → Nat) (Q : Nat → Nat → Option Nat) (hQ : Sv L K G Q) (x0 m0 : Nat) (tx : Int32) (tm : Int32 × Int) (sz : Nat) (I : Nat → Nat → Int32) (J : Nat → Nat → Int64) (hI : Iv L K x0 m0 tx tm I) (p0 : Nat) (hLp0 : p0 ∈ L) (hKp0 : K p0 = 7) (p1 : Int32) (p2 : Int32) : Met l yX7_body (.code yX7_body cX7_body 3 (some .int) :: pw) ({ frames := 2, cells := 0, slots := 0, locals := 46 }) (sP (dC, dI) cs [.ref p0, .int p1, .int p2] sz L K I J Q) (va_Qi (fun (r : Int32) (_ : Unit) => True) (fun _ _ => True) (fun _ => False)) 0 0 (fun _ => False) := by
  refine Met.ofW (cc := cX7_body) (maxL := 3) (ret := (some .int)) (by decide +kernel) rfl ?_
  intro p e s m args below meth c s₁ B hml hv
  obtain ⟨rfl, hsz, hP, hK, hD0, hN⟩ := hv
  have hx := B.exec
  have hb := B.bytes
  have hr := B.returns
  have hts := fun w (h : w ∈ pw) => atoms_spec (ws := Cond.code yX7_body cX7_body 3 (some .int) :: pw) B.pre w (List.mem_cons_of_mem _ h)
  have hown : s.vm.findClass RX7 = some m.cls := findClass_of_methodNamed B.named
  have hlocks := B.notSynchronized
  subst hsz
  have hBB : 999 ≤ tm.2 ∧ tm.2 ≤ 6000000 := hI.2.2.2.2
  have hD := hD0
  obtain ⟨H, hHe⟩ : ∃ H : Heap, H = s.heap := ⟨_, rfl⟩
  have hS : va_S (fun _ => False) s.heap H [] := by rw [hHe]; exact va_S.rf
  rw [← hHe] at hP
  have hl := lv_entry ([.ref p0, .int p1, .int p2]) (n := 3) (Nat.le_of_ble_eq_true rfl)
  rw [lg_entry_eq]
  generalize (lg_sl ([.ref p0, .int p1, .int p2]) ++ List.replicate (3 - (lg_sl ([.ref p0, .int p1, .int p2])).length) Slot.unset).toArray = ls at hl ⊢
  have hl : lv_has ls 3 [(0, .ref p0), (1, .int p1), (2, .int p2)] := hl
  rw [← hHe]
  refine namedW (fun R Qz hR hQz => ?_)
  refine lv_aload_n hx hb dX7_body_0 rfl (lv_at hl 0 rfl) ?_
  refine lv_iload_n hx hb dX7_body_1 rfl (lv_at hl 1 rfl) ?_
  refine ro_i (va_runV (As := [.int p1]) (rest := []) ⟨hx, hb, hml, hown, hts⟩ (s_X7_isBody l dC dI cs L K G Q hQ x0 m0 tx tm H.size I J hI p0 hLp0 hKp0 p1) (cwV 1 hts (gV pq1310 pq1312 pq23 pq81 pq1313) rfl rfl rfl (by decide +kernel) ⟨(by rw [hR]; exact (Nat.le_of_ble_eq_true rfl)), (by rw [hR]; exact (Nat.le_of_ble_eq_true rfl))⟩) (sP_V hP hD hK hN hLp0 hKp0 rfl rfl) rfl rfl hl.1 rfl (lv_room (Nat.le_of_ble_eq_true rfl)) dX7_body_2 ⟨(by rw [hR]; exact (Nat.le_of_ble_eq_true rfl)), (by rw [hR]; exact (Nat.le_of_ble_eq_true rfl))⟩) hS hP (fun z2 H locs hz2 hP hS => ?_)
  obtain ⟨bz2, imz2⟩ := hz2
  refine lv_if_eq (tgt := 29) hx hb dX7_body_5 (by decide) (fun c5 => ?_) (fun c5 => ?_)
  · have t5 := tq_eq (k := z2.toInt) (q := (0)) c5 rfl (by decide +kernel)
    refine lv_sipush (v := (-2000)) hx hb dX7_body_29 (by decide +kernel) ?_
    subst hR; subst hQz
    exact W.iret (v := (-2000)) hx hb hr (fun t ht hW => ⟨⟨(-2000), (), rfl, trivial, trivial⟩, hS.F ht⟩) hS.2.2 dX7_body_32
  · have t5 := tq_ne (k := z2.toInt) (q := (0)) c5 rfl (by decide +kernel)
    have i5 := imz2 t5
    refine lv_iload_n hx hb dX7_body_8 rfl (lv_at hl 2 rfl) ?_
    refine lv_i2l hx hb dX7_body_9 rfl ?_
    refine lv_topl (fun z9 ez9 => ?_)
    have bz9 := tq_i2l (k := p2.toInt) ez9 rfl
    refine lv_lconst (v := 0) hx hb dX7_body_10 (by decide +kernel) ?_
    refine lv_ldc2 hx hb hown (hts _ pq1566) dX7_body_11 ?_
    refine ro_i (va_runS (As := [.long z9, .long 0, .long 7]) (rest := []) ⟨hx, hb, hml, hown, hts⟩ (s_X7_in l dC dI cs L K Q H.size I J z9 0 7) (va_cwS 3 hts (gS pq1234 pq1235 pq81 pq1236) rfl rfl rfl (by decide +kernel) ⟨(by rw [hR]; exact (Nat.le_of_ble_eq_true rfl)), (by rw [hR]; exact (Nat.le_of_ble_eq_true rfl))⟩) (sP_S hP hD hK hN) rfl rfl hl.1 rfl (lv_room (Nat.le_of_ble_eq_true rfl)) dX7_body_14 ⟨(by rw [hR]; exact (Nat.le_of_ble_eq_true rfl)), (by rw [hR]; exact (Nat.le_of_ble_eq_true rfl))⟩) hS hP (fun z14 H locs hz14 hP hS => ?_)
    have csl14_0 : (0 : Int64).toInt = 0 := by decide +kernel
    have csl14_7 : (7 : Int64).toInt = 7 := by decide +kernel
    obtain ⟨bz14, imz14⟩ := hz14
    refine lv_if_eq (tgt := 29) hx hb dX7_body_17 (by decide) (fun c17 => ?_) (fun c17 => ?_)
    · have t17 := tq_eq (k := z14.toInt) (q := (0)) c17 rfl (by decide +kernel)
      refine lv_sipush (v := (-2000)) hx hb dX7_body_29 (by decide +kernel) ?_
      subst hR; subst hQz
      exact W.iret (v := (-2000)) hx hb hr (fun t ht hW => ⟨⟨(-2000), (), rfl, trivial, trivial⟩, hS.F ht⟩) hS.2.2 dX7_body_32
    · have t17 := tq_ne (k := z14.toInt) (q := (0)) c17 rfl (by decide +kernel)
      have i17 := imz14 t17
      refine lv_aload_n hx hb dX7_body_20 rfl (lv_at hl 0 rfl) ?_
      refine lv_iload_n hx hb dX7_body_21 rfl (lv_at hl 1 rfl) ?_
      refine lv_iload_n hx hb dX7_body_22 rfl (lv_at hl 2 rfl) ?_
      refine ro_i (va_runV (As := [.int p1, .int p2]) (rest := []) ⟨hx, hb, hml, hown, hts⟩ (s_X7_of l dC dI cs L K G Q hQ x0 m0 tx tm H.size I J hI p0 hLp0 hKp0 p1 ⟨by omega, by omega⟩ p2 ⟨by omega, by omega⟩) (cwV 2 hts (gV pq1320 pq1322 pq25 pq81 pq1323) rfl rfl rfl (by decide +kernel) ⟨(by rw [hR]; exact (Nat.le_of_ble_eq_true rfl)), (by rw [hR]; exact (Nat.le_of_ble_eq_true rfl))⟩) (sP_V hP hD hK hN hLp0 hKp0 rfl rfl) rfl rfl hl.1 rfl (lv_room (Nat.le_of_ble_eq_true rfl)) dX7_body_23 ⟨(by rw [hR]; exact (Nat.le_of_ble_eq_true rfl)), (by rw [hR]; exact (Nat.le_of_ble_eq_true rfl))⟩) hS hP (fun z23 H locs hz23 hP hS => ?_)
      obtain ⟨fez23, xpz23⟩ := hz23
      refine lv_goto (tgt := 32) hx hb dX7_body_26 (by decide) ?_
      subst hR; subst hQz
      exact W.iret (v := z23) hx hb hr (fun t ht hW => ⟨⟨z23, (), rfl, trivial, trivial⟩, hS.F ht⟩) hS.2.2 dX7_body_32

set_option maxHeartbeats 4000000 in
set_option maxRecDepth 100000 in
theorem s_X7_common (l : Launch) (dC : Nat → ClassId) (dI : Nat → Nat → Nat) (cs : Nat → ClassId) (L : List Nat) (K G : Nat → Nat) (Q : Nat → Nat → Option Nat) (hQ : Sv L K G Q) (x0 m0 : Nat) (tx : Int32) (tm : Int32 × Int) (sz : Nat) (I : Nat → Nat → Int32) (J : Nat → Nat → Int64) (hI : Iv L K x0 m0 tx tm I) (p0 : Nat) (hLp0 : p0 ∈ L) (hKp0 : K p0 = 7) (p1 : Int32) (p2 : Int32) : Met l yX7_common (.code yX7_common cX7_common 3 (some .int) :: pw) ({ frames := 4, cells := 0, slots := 0, locals := 98 }) (sP (dC, dI) cs [.ref p0, .int p1, .int p2] sz L K I J Q) (va_Qi (fun (r : Int32) (_ : Unit) => True) (fun _ t => sB (dC, dI) cs L K Q (fun I1 => Iv L K x0 m0 tx tm I1 ∧ I1 = I) t) (fun q => q ∈ L ∨ sz ≤ q)) 0 0 (fun q => q ∈ L ∨ sz ≤ q) := by
  refine Met.ofW (cc := cX7_common) (maxL := 3) (ret := (some .int)) (by decide +kernel) rfl ?_
  intro p e s m args below meth c s₁ B hml hv
  obtain ⟨rfl, hsz, hP, hK, hD0, hN⟩ := hv
  have hx := B.exec
  have hb := B.bytes
  have hr := B.returns
  have hts := fun w (h : w ∈ pw) => atoms_spec (ws := Cond.code yX7_common cX7_common 3 (some .int) :: pw) B.pre w (List.mem_cons_of_mem _ h)
  have hown : s.vm.findClass RX7 = some m.cls := findClass_of_methodNamed B.named
  have hlocks := B.notSynchronized
  subst hsz
  have hBB : 999 ≤ tm.2 ∧ tm.2 ≤ 6000000 := hI.2.2.2.2
  obtain ⟨A, hAe⟩ : ∃ A : Nat → Prop, A = (fun q => q ∈ L ∨ s.heap.size ≤ q) := ⟨_, rfl⟩
  rw [← hAe]
  have hAL : ∀ q, q ∈ L → A q := fun q h => by rw [hAe]; exact Or.inl h
  have hA : ∀ q, s.heap.size ≤ q → A q := fun q h => by rw [hAe]; exact Or.inr h
  have hD : ∀ F, va_D A (va_pl L F) := fun F => (hD0 F).weaken (fun k q hk _ => hAL _ (pl_mem hk))
  obtain ⟨H, hHe⟩ : ∃ H : Heap, H = s.heap := ⟨_, rfl⟩
  have hS : va_S A s.heap H [] := by rw [hHe]; exact va_S.rf
  rw [← hHe] at hP
  have hl := lv_entry ([.ref p0, .int p1, .int p2]) (n := 3) (Nat.le_of_ble_eq_true rfl)
  rw [lg_entry_eq]
  generalize (lg_sl ([.ref p0, .int p1, .int p2]) ++ List.replicate (3 - (lg_sl ([.ref p0, .int p1, .int p2])).length) Slot.unset).toArray = ls at hl ⊢
  have hl : lv_has ls 3 [(0, .ref p0), (1, .int p1), (2, .int p2)] := hl
  rw [← hHe]
  refine namedW (fun R Qz hR hQz => ?_)
  refine lv_aload_n hx hb dX7_common_0 rfl (lv_at hl 0 rfl) ?_
  refine lv_iload_n hx hb dX7_common_1 rfl (lv_at hl 1 rfl) ?_
  refine lv_iload_n hx hb dX7_common_2 rfl (lv_at hl 2 rfl) ?_
  refine ro_i (va_runV (As := [.int p1, .int p2]) (rest := []) ⟨hx, hb, hml, hown, hts⟩ (s_X7_areTwo l dC dI cs L K G Q hQ x0 m0 tx tm H.size I J hI p0 hLp0 hKp0 p1 p2) (cwV 2 hts (gV pq1571 pq1573 pq62 pq81 pq1574) rfl rfl rfl (by decide +kernel) ⟨(by rw [hR]; exact (Nat.le_of_ble_eq_true rfl)), (by rw [hR]; exact (Nat.le_of_ble_eq_true rfl))⟩) (sP_V hP hD hK hN hLp0 hKp0 rfl rfl) rfl rfl hl.1 rfl (lv_room (Nat.le_of_ble_eq_true rfl)) dX7_common_3 ⟨(by rw [hR]; exact (Nat.le_of_ble_eq_true rfl)), (by rw [hR]; exact (Nat.le_of_ble_eq_true rfl))⟩) hS hP (fun z3 H locs hz3 hP hS => ?_)
  obtain ⟨bz3, imz3⟩ := hz3
  refine lv_if_ne (tgt := 11) hx hb dX7_common_6 (by decide) (fun c6 => ?_) (fun c6 => ?_)
  · have t6 := tq_ne (k := z3.toInt) (q := (0)) c6 rfl (by decide +kernel)
    have i6 := imz3 t6
    refine lv_aload_n hx hb dX7_common_11 rfl (lv_at hl 0 rfl) ?_
    refine sw_v (Z := (fun I1 => Iv L K x0 m0 tx tm I1 ∧ I1 = I)) (va_runV (As := []) (rest := []) ⟨hx, hb, hml, hown, hts⟩ (s_X7_laysAll l dC dI cs L K G Q hQ x0 m0 tx tm H.size I J hI p0 hLp0 hKp0) (cwV 0 hts (gV pq1427 pq1429 pq40 pq81 pq1430) rfl rfl rfl (by decide +kernel) ⟨(by rw [hR]; exact (Nat.le_of_ble_eq_true rfl)), (by rw [hR]; exact (Nat.le_of_ble_eq_true rfl))⟩) (sP_V hP hD hK hN hLp0 hKp0 rfl rfl) rfl rfl hl.1 rfl (lv_room (Nat.le_of_ble_eq_true rfl)) dX7_common_12 ⟨(by rw [hR]; exact (Nat.le_of_ble_eq_true rfl)), (by rw [hR]; exact (Nat.le_of_ble_eq_true rfl))⟩) hS hAL hA (fun Iz12 Jz12 H locs hz12 hIz12 hP hS => ?_)
    obtain ⟨hIz12x, rfl⟩ : Iv L K x0 m0 tx tm Iz12 ∧ I = Iz12 := ⟨hIz12.1, hIz12.2.symm⟩
    refine lv_aload_n hx hb dX7_common_15 rfl (lv_at hl 0 rfl) ?_
    refine lv_iload_n hx hb dX7_common_16 rfl (lv_at hl 1 rfl) ?_
    refine lv_iload_n hx hb dX7_common_17 rfl (lv_at hl 2 rfl) ?_
    refine lv_iconst (v := 0) hx hb dX7_common_18 (by decide +kernel) ?_
    refine lv_iconst (v := 0) hx hb dX7_common_19 (by decide +kernel) ?_
    refine ro_i (va_runV (As := [.int p1, .int p2, .int 0, .int 0]) (rest := []) ⟨hx, hb, hml, hown, hts⟩ (s_X7_commonBy l dC dI cs L K G Q hQ x0 m0 tx tm H.size I Jz12 hI p0 hLp0 hKp0 p1 ⟨by omega, by omega⟩ p2 ⟨by omega, by omega⟩ 0 0 ⟨by decide +kernel, by decide +kernel⟩) (cwV 4 hts (gV pq1575 pq1577 pq63 pq81 pq1578) rfl rfl rfl (by decide +kernel) ⟨(by rw [hR]; exact (Nat.le_of_ble_eq_true rfl)), (by rw [hR]; exact (Nat.le_of_ble_eq_true rfl))⟩) (sP_V hP hD hK hN hLp0 hKp0 rfl rfl) rfl rfl hl.1 rfl (lv_room (Nat.le_of_ble_eq_true rfl)) dX7_common_20 ⟨(by rw [hR]; exact (Nat.le_of_ble_eq_true rfl)), (by rw [hR]; exact (Nat.le_of_ble_eq_true rfl))⟩) hS hP (fun z20 H locs hz20 hP hS => ?_)
    subst hR; subst hQz
    exact W.iret (v := z20) hx hb hr (fun t ht hW => ⟨⟨z20, (), rfl, trivial, ⟨I, Jz12, ⟨hI, rfl⟩, by rw [ht]; exact hP⟩⟩, hS.F ht⟩) hS.2.2 dX7_common_23
  · have t6 := tq_eq (k := z3.toInt) (q := (0)) c6 rfl (by decide +kernel)
    refine lv_iconst (v := (-1)) hx hb dX7_common_9 (by decide +kernel) ?_
    subst hR; subst hQz
    exact W.iret (v := (-1)) hx hb hr (fun t ht hW => ⟨⟨(-1), (), rfl, trivial, ⟨I, J, ⟨hI, rfl⟩, by rw [ht]; exact hP⟩⟩, hS.F ht⟩) hS.2.2 dX7_common_10

set_option maxHeartbeats 4000000 in
set_option maxRecDepth 100000 in
theorem s_X7_meet (l : Launch) (dC : Nat → ClassId) (dI : Nat → Nat → Nat) (cs : Nat → ClassId) (L : List Nat) (K G : Nat → Nat) (Q : Nat → Nat → Option Nat) (hQ : Sv L K G Q) (x0 m0 : Nat) (tx : Int32) (tm : Int32 × Int) (sz : Nat) (I : Nat → Nat → Int32) (J : Nat → Nat → Int64) (hI : Iv L K x0 m0 tx tm I) (p0 : Nat) (hLp0 : p0 ∈ L) (hKp0 : K p0 = 7) (p1 : Int32) (p2 : Int32) (p3 : Int32) : Met l yX7_meet (.code yX7_meet cX7_meet 6 (some .int) :: pw) ({ frames := 3, cells := 0, slots := 0, locals := 75 }) (sP (dC, dI) cs [.ref p0, .int p1, .int p2, .int p3] sz L K I J Q) (va_Qi (fun (r : Int32) (_ : Unit) => True) (fun _ _ => True) (fun _ => False)) 0 0 (fun _ => False) := by
  refine Met.ofW (cc := cX7_meet) (maxL := 6) (ret := (some .int)) (by decide +kernel) rfl ?_
  intro p e s m args below meth c s₁ B hml hv
  obtain ⟨rfl, hsz, hP, hK, hD0, hN⟩ := hv
  have hx := B.exec
  have hb := B.bytes
  have hr := B.returns
  have hts := fun w (h : w ∈ pw) => atoms_spec (ws := Cond.code yX7_meet cX7_meet 6 (some .int) :: pw) B.pre w (List.mem_cons_of_mem _ h)
  have hown : s.vm.findClass RX7 = some m.cls := findClass_of_methodNamed B.named
  have hlocks := B.notSynchronized
  subst hsz
  have hBB : 999 ≤ tm.2 ∧ tm.2 ≤ 6000000 := hI.2.2.2.2
  have hD := hD0
  obtain ⟨H, hHe⟩ : ∃ H : Heap, H = s.heap := ⟨_, rfl⟩
  have hS : va_S (fun _ => False) s.heap H [] := by rw [hHe]; exact va_S.rf
  rw [← hHe] at hP
  have hl := lv_entry ([.ref p0, .int p1, .int p2, .int p3]) (n := 6) (Nat.le_of_ble_eq_true rfl)
  rw [lg_entry_eq]
  generalize (lg_sl ([.ref p0, .int p1, .int p2, .int p3]) ++ List.replicate (6 - (lg_sl ([.ref p0, .int p1, .int p2, .int p3])).length) Slot.unset).toArray = ls at hl ⊢
  have hl : lv_has ls 6 [(0, .ref p0), (1, .int p1), (2, .int p2), (3, .int p3)] := hl
  rw [← hHe]
  refine namedW (fun R Qz hR hQz => ?_)
  refine lv_aload_n hx hb dX7_meet_0 rfl (lv_at hl 0 rfl) ?_
  refine lv_iload_n hx hb dX7_meet_1 rfl (lv_at hl 1 rfl) ?_
  refine lv_iload_n hx hb dX7_meet_2 rfl (lv_at hl 2 rfl) ?_
  refine ro_i (va_runV (As := [.int p1, .int p2]) (rest := []) ⟨hx, hb, hml, hown, hts⟩ (s_X7_areTwo l dC dI cs L K G Q hQ x0 m0 tx tm H.size I J hI p0 hLp0 hKp0 p1 p2) (cwV 2 hts (gV pq1571 pq1573 pq62 pq81 pq1574) rfl rfl rfl (by decide +kernel) ⟨(by rw [hR]; exact (Nat.le_of_ble_eq_true rfl)), (by rw [hR]; exact (Nat.le_of_ble_eq_true rfl))⟩) (sP_V hP hD hK hN hLp0 hKp0 rfl rfl) rfl rfl hl.1 rfl (lv_room (Nat.le_of_ble_eq_true rfl)) dX7_meet_3 ⟨(by rw [hR]; exact (Nat.le_of_ble_eq_true rfl)), (by rw [hR]; exact (Nat.le_of_ble_eq_true rfl))⟩) hS hP (fun z3 H locs hz3 hP hS => ?_)
  obtain ⟨bz3, imz3⟩ := hz3
  refine lv_if_eq (tgt := 19) hx hb dX7_meet_6 (by decide) (fun c6 => ?_) (fun c6 => ?_)
  · have t6 := tq_eq (k := z3.toInt) (q := (0)) c6 rfl (by decide +kernel)
    refine lv_sipush (v := (-2000)) hx hb dX7_meet_19 (by decide +kernel) ?_
    subst hR; subst hQz
    exact W.iret (v := (-2000)) hx hb hr (fun t ht hW => ⟨⟨(-2000), (), rfl, trivial, trivial⟩, hS.F ht⟩) hS.2.2 dX7_meet_22
  · have t6 := tq_ne (k := z3.toInt) (q := (0)) c6 rfl (by decide +kernel)
    have i6 := imz3 t6
    refine lv_iload_n hx hb dX7_meet_9 rfl (lv_at hl 3 rfl) ?_
    refine lv_i2l hx hb dX7_meet_10 rfl ?_
    refine lv_topl (fun z10 ez10 => ?_)
    have bz10 := tq_i2l (k := p3.toInt) ez10 rfl
    refine lv_lconst (v := 0) hx hb dX7_meet_11 (by decide +kernel) ?_
    refine lv_lconst (v := 1) hx hb dX7_meet_12 (by decide +kernel) ?_
    refine ro_i (va_runS (As := [.long z10, .long 0, .long 1]) (rest := []) ⟨hx, hb, hml, hown, hts⟩ (s_X7_in l dC dI cs L K Q H.size I J z10 0 1) (va_cwS 3 hts (gS pq1234 pq1235 pq81 pq1236) rfl rfl rfl (by decide +kernel) ⟨(by rw [hR]; exact (Nat.le_of_ble_eq_true rfl)), (by rw [hR]; exact (Nat.le_of_ble_eq_true rfl))⟩) (sP_S hP hD hK hN) rfl rfl hl.1 rfl (lv_room (Nat.le_of_ble_eq_true rfl)) dX7_meet_13 ⟨(by rw [hR]; exact (Nat.le_of_ble_eq_true rfl)), (by rw [hR]; exact (Nat.le_of_ble_eq_true rfl))⟩) hS hP (fun z13 H locs hz13 hP hS => ?_)
    have csl13_0 : (0 : Int64).toInt = 0 := by decide +kernel
    have csl13_1 : (1 : Int64).toInt = 1 := by decide +kernel
    obtain ⟨bz13, imz13⟩ := hz13
    refine lv_if_ne (tgt := 23) hx hb dX7_meet_16 (by decide) (fun c16 => ?_) (fun c16 => ?_)
    · have t16 := tq_ne (k := z13.toInt) (q := (0)) c16 rfl (by decide +kernel)
      have i16 := imz13 t16
      refine lv_aload_n hx hb dX7_meet_23 rfl (lv_at hl 0 rfl) ?_
      refine lv_iload_n hx hb dX7_meet_24 rfl (lv_at hl 1 rfl) ?_
      refine lv_iconst (v := 2) hx hb dX7_meet_25 (by decide +kernel) ?_
      refine ro_i (va_runV (As := [.int p1, .int 2]) (rest := []) ⟨hx, hb, hml, hown, hts⟩ (s_X7_of l dC dI cs L K G Q hQ x0 m0 tx tm H.size I J hI p0 hLp0 hKp0 p1 ⟨by omega, by omega⟩ 2 ⟨by decide +kernel, by decide +kernel⟩) (cwV 2 hts (gV pq1320 pq1322 pq25 pq81 pq1323) rfl rfl rfl (by decide +kernel) ⟨(by rw [hR]; exact (Nat.le_of_ble_eq_true rfl)), (by rw [hR]; exact (Nat.le_of_ble_eq_true rfl))⟩) (sP_V hP hD hK hN hLp0 hKp0 rfl rfl) rfl rfl hl.1 rfl (lv_room (Nat.le_of_ble_eq_true rfl)) dX7_meet_26 ⟨(by rw [hR]; exact (Nat.le_of_ble_eq_true rfl)), (by rw [hR]; exact (Nat.le_of_ble_eq_true rfl))⟩) hS hP (fun z26 H locs hz26 hP hS => ?_)
      have cst26_2 : (2 : Int32).toInt = 2 := by decide +kernel
      obtain ⟨fez26, xpz26⟩ := hz26
      have bz26 := xpz26.2.2.1 rfl
      refine lv_istore (lv' := [(4, .int z26), (0, .ref p0), (1, .int p1), (2, .int p2), (3, .int p3)]) hx hb dX7_meet_29 hl (by decide) rfl (fun ls hl => ?_)
      have key31 := blocks (fun n => ∀ (v31_4 : Int32) (H : Heap) (lo : List Loc) (ls : Array Slot), (2147483648 - v31_4.toInt).toNat = n → va_P (dC, dI) vwCl (Wd cs L K I J Q) H → va_S (fun _ => False) s.heap H lo → lv_has ls 6 [(0, .ref p0), (1, .int p1), (2, .int p2), (3, .int p3), (4, .int v31_4)] → W p l e R s m (([.ref p0, .int p1, .int p2, .int p3] : List Value).toArray) below meth c H lo 0 0 Qz (F0 m 31 ls [])) (by
        intro n ih31
        intro v31_4 H lo ls hmu31 hP hS hl
        refine lv_iload hx hb dX7_meet_31 (lv_at hl 4 rfl) ?_
        refine lv_aload_n hx hb dX7_meet_33 rfl (lv_at hl 0 rfl) ?_
        refine lv_iload_n hx hb dX7_meet_34 rfl (lv_at hl 1 rfl) ?_
        refine lv_iconst (v := 2) hx hb dX7_meet_35 (by decide +kernel) ?_
        refine ro_i (va_runV (As := [.int p1, .int 2]) (rest := [.int v31_4]) ⟨hx, hb, hml, hown, hts⟩ (s_X7_of l dC dI cs L K G Q hQ x0 m0 tx tm H.size I J hI p0 hLp0 hKp0 p1 ⟨by omega, by omega⟩ 2 ⟨by decide +kernel, by decide +kernel⟩) (cwV 2 hts (gV pq1320 pq1322 pq25 pq81 pq1323) rfl rfl rfl (by decide +kernel) ⟨(by rw [hR]; exact (Nat.le_of_ble_eq_true rfl)), (by rw [hR]; exact (Nat.le_of_ble_eq_true rfl))⟩) (sP_V hP hD hK hN hLp0 hKp0 rfl rfl) rfl rfl hl.1 rfl (lv_room (Nat.le_of_ble_eq_true rfl)) dX7_meet_36 ⟨(by rw [hR]; exact (Nat.le_of_ble_eq_true rfl)), (by rw [hR]; exact (Nat.le_of_ble_eq_true rfl))⟩) hS hP (fun z36 H locs hz36 hP hS => ?_)
        have cst36_2 : (2 : Int32).toInt = 2 := by decide +kernel
        obtain ⟨fez36, xpz36⟩ := hz36
        have bz36 := xpz36.2.2.1 rfl
        obtain rfl : z26 = z36 := fez26.trans fez36.symm
        refine lv_aload_n hx hb dX7_meet_39 rfl (lv_at hl 0 rfl) ?_
        refine lv_aload_n hx hb dX7_meet_40 rfl (lv_at hl 0 rfl) ?_
        refine lv_iload_n hx hb dX7_meet_41 rfl (lv_at hl 1 rfl) ?_
        refine ro_i (va_runV (As := [.int p1]) (rest := [.ref p0, .int z26, .int v31_4]) ⟨hx, hb, hml, hown, hts⟩ (s_X7_maskOf l dC dI cs L K G Q hQ x0 m0 tx tm H.size I J hI p0 hLp0 hKp0 p1 ⟨by omega, by omega⟩) (cwV 1 hts (gV pq1431 pq1433 pq41 pq81 pq1434) rfl rfl rfl (by decide +kernel) ⟨(by rw [hR]; exact (Nat.le_of_ble_eq_true rfl)), (by rw [hR]; exact (Nat.le_of_ble_eq_true rfl))⟩) (sP_V hP hD hK hN hLp0 hKp0 rfl rfl) rfl rfl hl.1 rfl (lv_room (Nat.le_of_ble_eq_true rfl)) dX7_meet_42 ⟨(by rw [hR]; exact (Nat.le_of_ble_eq_true rfl)), (by rw [hR]; exact (Nat.le_of_ble_eq_true rfl))⟩) hS hP (fun z42 H locs hz42 hP hS => ?_)
        have bz42 := hz42
        refine ro_i (va_runV (As := [.int z42]) (rest := [.int z26, .int v31_4]) ⟨hx, hb, hml, hown, hts⟩ (s_X7_high l dC dI cs L K G Q hQ x0 m0 tx tm H.size I J hI p0 hLp0 hKp0 z42 ⟨by omega, by omega⟩) (cwV 1 hts (gV pq1372 pq1374 pq33 pq81 pq1375) rfl rfl rfl (by decide +kernel) ⟨(by rw [hR]; exact (Nat.le_of_ble_eq_true rfl)), (by rw [hR]; exact (Nat.le_of_ble_eq_true rfl))⟩) (sP_V hP hD hK hN hLp0 hKp0 rfl rfl) rfl rfl hl.1 rfl (lv_room (Nat.le_of_ble_eq_true rfl)) dX7_meet_45 ⟨(by rw [hR]; exact (Nat.le_of_ble_eq_true rfl)), (by rw [hR]; exact (Nat.le_of_ble_eq_true rfl))⟩) hS hP (fun z45 H locs hz45 hP hS => ?_)
        obtain ⟨bz45, fez45⟩ := hz45
        refine lv_iadd hx hb dX7_meet_48 ?_
        refine lv_topi (fun z48 ez48 => ?_)
        have bz48 := tq_add (k := z26.toInt) (q := z45.toInt) ez48 rfl rfl (by omega) (by omega)
        refine lv_icmp_ge (tgt := 129) hx hb dX7_meet_49 (by decide) (fun c49 => ?_) (fun c49 => ?_)
        · have t49 := tq_le (k := z48.toInt) (q := v31_4.toInt) c49 rfl rfl
          refine lv_sipush (v := (-2000)) hx hb dX7_meet_129 (by decide +kernel) ?_
          subst hR; subst hQz
          exact W.iret (v := (-2000)) hx hb hr (fun t ht hW => ⟨⟨(-2000), (), rfl, trivial, trivial⟩, hS.F ht⟩) hS.2.2 dX7_meet_132
        · have t49 := tq_nle (k := z48.toInt) (q := v31_4.toInt) c49 rfl rfl
          have rg49v31_4 := fb_rng v31_4
          refine lv_aload_n hx hb dX7_meet_52 rfl (lv_at hl 0 rfl) ?_
          refine lv_iload_n hx hb dX7_meet_53 rfl (lv_at hl 1 rfl) ?_
          refine lv_iconst (v := 1) hx hb dX7_meet_54 (by decide +kernel) ?_
          refine ro_i (va_runV (As := [.int p1, .int 1]) (rest := []) ⟨hx, hb, hml, hown, hts⟩ (s_X7_of l dC dI cs L K G Q hQ x0 m0 tx tm H.size I J hI p0 hLp0 hKp0 p1 ⟨by omega, by omega⟩ 1 ⟨by decide +kernel, by decide +kernel⟩) (cwV 2 hts (gV pq1320 pq1322 pq25 pq81 pq1323) rfl rfl rfl (by decide +kernel) ⟨(by rw [hR]; exact (Nat.le_of_ble_eq_true rfl)), (by rw [hR]; exact (Nat.le_of_ble_eq_true rfl))⟩) (sP_V hP hD hK hN hLp0 hKp0 rfl rfl) rfl rfl hl.1 rfl (lv_room (Nat.le_of_ble_eq_true rfl)) dX7_meet_55 ⟨(by rw [hR]; exact (Nat.le_of_ble_eq_true rfl)), (by rw [hR]; exact (Nat.le_of_ble_eq_true rfl))⟩) hS hP (fun z55 H locs hz55 hP hS => ?_)
          have cst55_1 : (1 : Int32).toInt = 1 := by decide +kernel
          obtain ⟨fez55, xpz55⟩ := hz55
          have bz55 := xpz55.2.1 rfl
          refine lv_istore (lv' := [(5, .int z55), (0, .ref p0), (1, .int p1), (2, .int p2), (3, .int p3), (4, .int v31_4)]) hx hb dX7_meet_58 hl (by decide) rfl (fun ls hl => ?_)
          have key60 := blocks (fun n => ∀ (v60_5 : Int32) (H : Heap) (lo : List Loc) (ls : Array Slot), (2147483648 - v60_5.toInt).toNat = n → va_P (dC, dI) vwCl (Wd cs L K I J Q) H → va_S (fun _ => False) s.heap H lo → lv_has ls 6 [(0, .ref p0), (1, .int p1), (2, .int p2), (3, .int p3), (4, .int v31_4), (5, .int v60_5)] → W p l e R s m (([.ref p0, .int p1, .int p2, .int p3] : List Value).toArray) below meth c H lo 0 0 Qz (F0 m 60 ls [])) (by
            intro n ih60
            intro v60_5 H lo ls hmu60 hP hS hl
            refine lv_iload hx hb dX7_meet_60 (lv_at hl 5 rfl) ?_
            refine lv_aload_n hx hb dX7_meet_62 rfl (lv_at hl 0 rfl) ?_
            refine lv_iload_n hx hb dX7_meet_63 rfl (lv_at hl 1 rfl) ?_
            refine lv_iconst (v := 1) hx hb dX7_meet_64 (by decide +kernel) ?_
            refine ro_i (va_runV (As := [.int p1, .int 1]) (rest := [.int v60_5]) ⟨hx, hb, hml, hown, hts⟩ (s_X7_of l dC dI cs L K G Q hQ x0 m0 tx tm H.size I J hI p0 hLp0 hKp0 p1 ⟨by omega, by omega⟩ 1 ⟨by decide +kernel, by decide +kernel⟩) (cwV 2 hts (gV pq1320 pq1322 pq25 pq81 pq1323) rfl rfl rfl (by decide +kernel) ⟨(by rw [hR]; exact (Nat.le_of_ble_eq_true rfl)), (by rw [hR]; exact (Nat.le_of_ble_eq_true rfl))⟩) (sP_V hP hD hK hN hLp0 hKp0 rfl rfl) rfl rfl hl.1 rfl (lv_room (Nat.le_of_ble_eq_true rfl)) dX7_meet_65 ⟨(by rw [hR]; exact (Nat.le_of_ble_eq_true rfl)), (by rw [hR]; exact (Nat.le_of_ble_eq_true rfl))⟩) hS hP (fun z65 H locs hz65 hP hS => ?_)
            have cst65_1 : (1 : Int32).toInt = 1 := by decide +kernel
            obtain ⟨fez65, xpz65⟩ := hz65
            have bz65 := xpz65.2.1 rfl
            obtain rfl : z55 = z65 := fez55.trans fez65.symm
            refine lv_aload_n hx hb dX7_meet_68 rfl (lv_at hl 0 rfl) ?_
            refine lv_aload_n hx hb dX7_meet_69 rfl (lv_at hl 0 rfl) ?_
            refine lv_iload_n hx hb dX7_meet_70 rfl (lv_at hl 1 rfl) ?_
            refine ro_i (va_runV (As := [.int p1]) (rest := [.ref p0, .int z55, .int v60_5]) ⟨hx, hb, hml, hown, hts⟩ (s_X7_maskOf l dC dI cs L K G Q hQ x0 m0 tx tm H.size I J hI p0 hLp0 hKp0 p1 ⟨by omega, by omega⟩) (cwV 1 hts (gV pq1431 pq1433 pq41 pq81 pq1434) rfl rfl rfl (by decide +kernel) ⟨(by rw [hR]; exact (Nat.le_of_ble_eq_true rfl)), (by rw [hR]; exact (Nat.le_of_ble_eq_true rfl))⟩) (sP_V hP hD hK hN hLp0 hKp0 rfl rfl) rfl rfl hl.1 rfl (lv_room (Nat.le_of_ble_eq_true rfl)) dX7_meet_71 ⟨(by rw [hR]; exact (Nat.le_of_ble_eq_true rfl)), (by rw [hR]; exact (Nat.le_of_ble_eq_true rfl))⟩) hS hP (fun z71 H locs hz71 hP hS => ?_)
            have bz71 := hz71
            refine ro_i (va_runV (As := [.int z71]) (rest := [.int z55, .int v60_5]) ⟨hx, hb, hml, hown, hts⟩ (s_X7_wide l dC dI cs L K G Q hQ x0 m0 tx tm H.size I J hI p0 hLp0 hKp0 z71 ⟨by omega, by omega⟩) (cwV 1 hts (gV pq1368 pq1370 pq32 pq81 pq1371) rfl rfl rfl (by decide +kernel) ⟨(by rw [hR]; exact (Nat.le_of_ble_eq_true rfl)), (by rw [hR]; exact (Nat.le_of_ble_eq_true rfl))⟩) (sP_V hP hD hK hN hLp0 hKp0 rfl rfl) rfl rfl hl.1 rfl (lv_room (Nat.le_of_ble_eq_true rfl)) dX7_meet_74 ⟨(by rw [hR]; exact (Nat.le_of_ble_eq_true rfl)), (by rw [hR]; exact (Nat.le_of_ble_eq_true rfl))⟩) hS hP (fun z74 H locs hz74 hP hS => ?_)
            obtain ⟨bz74, fez74⟩ := hz74
            refine lv_iadd hx hb dX7_meet_77 ?_
            refine lv_topi (fun z77 ez77 => ?_)
            have bz77 := tq_add (k := z55.toInt) (q := z74.toInt) ez77 rfl rfl (by omega) (by omega)
            refine lv_icmp_ge (tgt := 123) hx hb dX7_meet_78 (by decide) (fun c78 => ?_) (fun c78 => ?_)
            · have t78 := tq_le (k := z77.toInt) (q := v60_5.toInt) c78 rfl rfl
              obtain ⟨z123, ez123⟩ : ∃ y : Int32, y = v31_4 + 1 := ⟨_, rfl⟩
              refine lv_iinc (v := z123) (lv' := [(4, .int z123), (0, .ref p0), (1, .int p1), (2, .int p2), (3, .int p3), (5, .int v60_5)]) hx hb dX7_meet_123 hl (k := 4) rfl (by rw [ez123]; rfl) (by decide) rfl (fun ls hl => ?_)
              have rg123v31_4 := fb_rng v31_4
              have bz123 := tq_add (k := v31_4.toInt) (q := 1) ez123 rfl (by decide +kernel) (by omega) (by omega)
              refine lv_goto (tgt := 31) hx hb dX7_meet_126 (by decide) ?_
              exact ih31 _ (by omega) z123 _ _ _ rfl hP hS (lv_sub hl [1, 2, 3, 4, 0] rfl)
            · have t78 := tq_nle (k := z77.toInt) (q := v60_5.toInt) c78 rfl rfl
              have rg78v60_5 := fb_rng v60_5
              refine lv_aload_n hx hb dX7_meet_81 rfl (lv_at hl 0 rfl) ?_
              refine lv_iload_n hx hb dX7_meet_82 rfl (lv_at hl 1 rfl) ?_
              refine lv_iload hx hb dX7_meet_83 (lv_at hl 5 rfl) ?_
              refine lv_iload hx hb dX7_meet_85 (lv_at hl 4 rfl) ?_
              refine ro_i (va_runV (As := [.int p1, .int v60_5, .int v31_4]) (rest := []) ⟨hx, hb, hml, hown, hts⟩ (s_X7_lies l dC dI cs L K G Q hQ x0 m0 tx tm H.size I J hI p0 hLp0 hKp0 p1 ⟨by omega, by omega⟩ v60_5 v31_4) (cwV 3 hts (gV pq1583 pq1585 pq64 pq81 pq1586) rfl rfl rfl (by decide +kernel) ⟨(by rw [hR]; exact (Nat.le_of_ble_eq_true rfl)), (by rw [hR]; exact (Nat.le_of_ble_eq_true rfl))⟩) (sP_V hP hD hK hN hLp0 hKp0 rfl rfl) rfl rfl hl.1 rfl (lv_room (Nat.le_of_ble_eq_true rfl)) dX7_meet_87 ⟨(by rw [hR]; exact (Nat.le_of_ble_eq_true rfl)), (by rw [hR]; exact (Nat.le_of_ble_eq_true rfl))⟩) hS hP (fun z87 H locs hz87 hP hS => ?_)
              have bz87 := hz87
              have j117 : ∀ (H : Heap) (lo : List Loc) (ls : Array Slot), va_P (dC, dI) vwCl (Wd cs L K I J Q) H → va_S (fun _ => False) s.heap H lo → lv_has ls 6 [(0, .ref p0), (1, .int p1), (2, .int p2), (3, .int p3), (4, .int v31_4), (5, .int v60_5)] → W p l e R s m (([.ref p0, .int p1, .int p2, .int p3] : List Value).toArray) below meth c H lo 0 0 Qz (F0 m 117 ls []) := by
                intro H lo ls hP hS hl
                obtain ⟨z117, ez117⟩ : ∃ y : Int32, y = v60_5 + 1 := ⟨_, rfl⟩
                refine lv_iinc (v := z117) (lv' := [(5, .int z117), (0, .ref p0), (1, .int p1), (2, .int p2), (3, .int p3), (4, .int v31_4)]) hx hb dX7_meet_117 hl (k := 5) rfl (by rw [ez117]; rfl) (by decide) rfl (fun ls hl => ?_)
                have rg117v60_5 := fb_rng v60_5
                have bz117 := tq_add (k := v60_5.toInt) (q := 1) ez117 rfl (by decide +kernel) (by omega) (by omega)
                refine lv_goto (tgt := 60) hx hb dX7_meet_120 (by decide) ?_
                exact ih60 _ (by omega) z117 _ _ _ rfl hP hS (lv_sub hl [1, 2, 3, 4, 5, 0] rfl)
              refine lv_if_eq (tgt := 117) hx hb dX7_meet_90 (by decide) (fun c90 => ?_) (fun c90 => ?_)
              · have t90 := tq_eq (k := z87.toInt) (q := (0)) c90 rfl (by decide +kernel)
                exact j117  _ _ _ hP hS (lv_sub hl [0, 1, 2, 3, 4, 5] rfl)
              · have t90 := tq_ne (k := z87.toInt) (q := (0)) c90 rfl (by decide +kernel)
                refine lv_aload_n hx hb dX7_meet_93 rfl (lv_at hl 0 rfl) ?_
                refine lv_iload_n hx hb dX7_meet_94 rfl (lv_at hl 2 rfl) ?_
                refine lv_iload hx hb dX7_meet_95 (lv_at hl 5 rfl) ?_
                refine lv_iload hx hb dX7_meet_97 (lv_at hl 4 rfl) ?_
                refine ro_i (va_runV (As := [.int p2, .int v60_5, .int v31_4]) (rest := []) ⟨hx, hb, hml, hown, hts⟩ (s_X7_lies l dC dI cs L K G Q hQ x0 m0 tx tm H.size I J hI p0 hLp0 hKp0 p2 ⟨by omega, by omega⟩ v60_5 v31_4) (cwV 3 hts (gV pq1583 pq1585 pq64 pq81 pq1586) rfl rfl rfl (by decide +kernel) ⟨(by rw [hR]; exact (Nat.le_of_ble_eq_true rfl)), (by rw [hR]; exact (Nat.le_of_ble_eq_true rfl))⟩) (sP_V hP hD hK hN hLp0 hKp0 rfl rfl) rfl rfl hl.1 rfl (lv_room (Nat.le_of_ble_eq_true rfl)) dX7_meet_99 ⟨(by rw [hR]; exact (Nat.le_of_ble_eq_true rfl)), (by rw [hR]; exact (Nat.le_of_ble_eq_true rfl))⟩) hS hP (fun z99 H locs hz99 hP hS => ?_)
                have bz99 := hz99
                refine lv_if_eq (tgt := 117) hx hb dX7_meet_102 (by decide) (fun c102 => ?_) (fun c102 => ?_)
                · have t102 := tq_eq (k := z99.toInt) (q := (0)) c102 rfl (by decide +kernel)
                  exact j117  _ _ _ hP hS (lv_sub hl [0, 1, 2, 3, 4, 5] rfl)
                · have t102 := tq_ne (k := z99.toInt) (q := (0)) c102 rfl (by decide +kernel)
                  refine lv_iload_n hx hb dX7_meet_105 rfl (lv_at hl 3 rfl) ?_
                  refine lv_if_ne (tgt := 114) hx hb dX7_meet_106 (by decide) (fun c106 => ?_) (fun c106 => ?_)
                  · have t106 := tq_ne (k := p3.toInt) (q := (0)) c106 rfl (by decide +kernel)
                    refine lv_iload hx hb dX7_meet_114 (lv_at hl 4 rfl) ?_
                    subst hR; subst hQz
                    exact W.iret (v := v31_4) hx hb hr (fun t ht hW => ⟨⟨v31_4, (), rfl, trivial, trivial⟩, hS.F ht⟩) hS.2.2 dX7_meet_116
                  · have t106 := tq_eq (k := p3.toInt) (q := (0)) c106 rfl (by decide +kernel)
                    refine lv_iload hx hb dX7_meet_109 (lv_at hl 5 rfl) ?_
                    refine lv_goto (tgt := 116) hx hb dX7_meet_111 (by decide) ?_
                    subst hR; subst hQz
                    exact W.iret (v := v60_5) hx hb hr (fun t ht hW => ⟨⟨v60_5, (), rfl, trivial, trivial⟩, hS.F ht⟩) hS.2.2 dX7_meet_116)
          exact key60 _ z55 _ _ _ rfl  hP hS (lv_sub hl [1, 2, 3, 4, 5, 0] rfl))
      exact key31 _ z26 _ _ _ rfl  hP hS (lv_sub hl [1, 2, 3, 4, 0] rfl)
    · have t16 := tq_eq (k := z13.toInt) (q := (0)) c16 rfl (by decide +kernel)
      refine lv_sipush (v := (-2000)) hx hb dX7_meet_19 (by decide +kernel) ?_
      subst hR; subst hQz
      exact W.iret (v := (-2000)) hx hb hr (fun t ht hW => ⟨⟨(-2000), (), rfl, trivial, trivial⟩, hS.F ht⟩) hS.2.2 dX7_meet_22

set_option maxHeartbeats 4000000 in
set_option maxRecDepth 100000 in
theorem s_X7_contact (l : Launch) (dC : Nat → ClassId) (dI : Nat → Nat → Nat) (cs : Nat → ClassId) (L : List Nat) (K G : Nat → Nat) (Q : Nat → Nat → Option Nat) (hQ : Sv L K G Q) (x0 m0 : Nat) (tx : Int32) (tm : Int32 × Int) (sz : Nat) (I : Nat → Nat → Int32) (J : Nat → Nat → Int64) (hI : Iv L K x0 m0 tx tm I) (p0 : Nat) (hLp0 : p0 ∈ L) (hKp0 : K p0 = 7) (p1 : Int32) : Met l yX7_contact (.code yX7_contact cX7_contact 5 (some .int) :: pw) ({ frames := 5, cells := 0, slots := 0, locals := 122 }) (sP (dC, dI) cs [.ref p0, .int p1] sz L K I J Q) (va_Qi (fun (r : Int32) (_ : Unit) => True) (fun _ t => sB (dC, dI) cs L K Q (fun I1 => Iv L K x0 m0 tx tm I1 ∧ I1 = I) t) (fun q => q ∈ L ∨ sz ≤ q)) 0 0 (fun q => q ∈ L ∨ sz ≤ q) := by
  refine Met.ofW (cc := cX7_contact) (maxL := 5) (ret := (some .int)) (by decide +kernel) rfl ?_
  intro p e s m args below meth c s₁ B hml hv
  obtain ⟨rfl, hsz, hP, hK, hD0, hN⟩ := hv
  have hx := B.exec
  have hb := B.bytes
  have hr := B.returns
  have hts := fun w (h : w ∈ pw) => atoms_spec (ws := Cond.code yX7_contact cX7_contact 5 (some .int) :: pw) B.pre w (List.mem_cons_of_mem _ h)
  have hown : s.vm.findClass RX7 = some m.cls := findClass_of_methodNamed B.named
  have hlocks := B.notSynchronized
  subst hsz
  have hBB : 999 ≤ tm.2 ∧ tm.2 ≤ 6000000 := hI.2.2.2.2
  obtain ⟨A, hAe⟩ : ∃ A : Nat → Prop, A = (fun q => q ∈ L ∨ s.heap.size ≤ q) := ⟨_, rfl⟩
  rw [← hAe]
  have hAL : ∀ q, q ∈ L → A q := fun q h => by rw [hAe]; exact Or.inl h
  have hA : ∀ q, s.heap.size ≤ q → A q := fun q h => by rw [hAe]; exact Or.inr h
  have hD : ∀ F, va_D A (va_pl L F) := fun F => (hD0 F).weaken (fun k q hk _ => hAL _ (pl_mem hk))
  obtain ⟨H, hHe⟩ : ∃ H : Heap, H = s.heap := ⟨_, rfl⟩
  have hS : va_S A s.heap H [] := by rw [hHe]; exact va_S.rf
  rw [← hHe] at hP
  have hl := lv_entry ([.ref p0, .int p1]) (n := 5) (Nat.le_of_ble_eq_true rfl)
  rw [lg_entry_eq]
  generalize (lg_sl ([.ref p0, .int p1]) ++ List.replicate (5 - (lg_sl ([.ref p0, .int p1])).length) Slot.unset).toArray = ls at hl ⊢
  have hl : lv_has ls 5 [(0, .ref p0), (1, .int p1)] := hl
  rw [← hHe]
  refine namedW (fun R Qz hR hQz => ?_)
  refine lv_iload_n hx hb dX7_contact_0 rfl (lv_at hl 1 rfl) ?_
  refine lv_iconst (v := (-1)) hx hb dX7_contact_1 (by decide +kernel) ?_
  refine lv_icmp_ge (tgt := 7) hx hb dX7_contact_2 (by decide) (fun c2 => ?_) (fun c2 => ?_)
  · have t2 := tq_le (k := (-1)) (q := p1.toInt) c2 (by decide +kernel) rfl
    refine lv_aload_n hx hb dX7_contact_7 rfl (lv_at hl 0 rfl) ?_
    refine sw_v (Z := (fun I1 => Iv L K x0 m0 tx tm I1 ∧ I1 = I)) (va_runV (As := []) (rest := []) ⟨hx, hb, hml, hown, hts⟩ (s_X7_laysAll l dC dI cs L K G Q hQ x0 m0 tx tm H.size I J hI p0 hLp0 hKp0) (cwV 0 hts (gV pq1427 pq1429 pq40 pq81 pq1430) rfl rfl rfl (by decide +kernel) ⟨(by rw [hR]; exact (Nat.le_of_ble_eq_true rfl)), (by rw [hR]; exact (Nat.le_of_ble_eq_true rfl))⟩) (sP_V hP hD hK hN hLp0 hKp0 rfl rfl) rfl rfl hl.1 rfl (lv_room (Nat.le_of_ble_eq_true rfl)) dX7_contact_8 ⟨(by rw [hR]; exact (Nat.le_of_ble_eq_true rfl)), (by rw [hR]; exact (Nat.le_of_ble_eq_true rfl))⟩) hS hAL hA (fun Iz8 Jz8 H locs hz8 hIz8 hP hS => ?_)
    obtain ⟨hIz8x, rfl⟩ : Iv L K x0 m0 tx tm Iz8 ∧ I = Iz8 := ⟨hIz8.1, hIz8.2.symm⟩
    refine lv_iconst (v := 0) hx hb dX7_contact_11 (by decide +kernel) ?_
    refine lv_istore_n (lv' := [(2, .int 0), (0, .ref p0), (1, .int p1)]) hx hb dX7_contact_12 rfl hl (by decide) rfl (fun ls hl => ?_)
    refine lv_iconst (v := 0) hx hb dX7_contact_13 (by decide +kernel) ?_
    refine lv_istore_n (lv' := [(3, .int 0), (2, .int 0), (0, .ref p0), (1, .int p1)]) hx hb dX7_contact_14 rfl hl (by decide) rfl (fun ls hl => ?_)
    have key15 := blocks (fun n => ∀ (v15_2 : Int32) (v15_3 : Int32) (H : Heap) (lo : List Loc) (ls : Array Slot), (11 - v15_3.toInt).toNat = n → ((0) ≤ v15_3.toInt ∧ v15_3.toInt ≤ 10) → va_P (dC, dI) vwCl (Wd cs L K I Jz8 Q) H → va_S A s.heap H lo → lv_has ls 5 [(0, .ref p0), (1, .int p1), (2, .int v15_2), (3, .int v15_3)] → W p l e R s m (([.ref p0, .int p1] : List Value).toArray) below meth c H lo 0 0 Qz (F0 m 15 ls [])) (by
      intro n ih15
      intro v15_2 v15_3 H lo ls hmu15 bv15_3 hP hS hl
      refine lv_iload_n hx hb dX7_contact_15 rfl (lv_at hl 3 rfl) ?_
      refine lv_aload_n hx hb dX7_contact_16 rfl (lv_at hl 0 rfl) ?_
      obtain ⟨y17, ey17, hLy17, hKy17⟩ := oQ_7_0 (Sv_at hQ hLp0 hKp0)
      refine p_get (v := .ref y17) hx hb hts inX7 hown hK hP hLp0 hKp0 rfl rfl 0 (by decide) (hts _ pq1115) (congrArg (fun q => some (va_rf q)) ey17) dX7_contact_17 ?_
      refine lv_iconst (v := 1) hx hb dX7_contact_20 (by decide +kernel) ?_
      refine p_iald hx hb hK hP 8 hLy17 hKy17 rfl rfl (in_d (by decide +kernel)) dX7_contact_21 ?_
      refine lv_topi (fun z21 ez21 => ?_)
      have bz21 := rng1 (oR_18 (i := (1 : Int32)) (k := (1)) (by decide +kernel) (Iv_at hI hLy17 hKy17))
      rw [← ez21] at bz21
      refine lv_icmp_ge (tgt := 84) hx hb dX7_contact_22 (by decide) (fun c22 => ?_) (fun c22 => ?_)
      · have t22 := tq_le (k := z21.toInt) (q := v15_3.toInt) c22 rfl rfl
        refine lv_iload_n hx hb dX7_contact_84 rfl (lv_at hl 1 rfl) ?_
        refine lv_iconst (v := (-1)) hx hb dX7_contact_85 (by decide +kernel) ?_
        refine lv_icmp_ne (tgt := 93) hx hb dX7_contact_86 (by decide) (fun c86 => ?_) (fun c86 => ?_)
        · have t86 := tq_ne (k := p1.toInt) (q := (-1)) c86 rfl (by decide +kernel)
          refine lv_bipush (v := (-2)) hx hb dX7_contact_93 (by decide +kernel) ?_
          subst hR; subst hQz
          exact W.iret (v := (-2)) hx hb hr (fun t ht hW => ⟨⟨(-2), (), rfl, trivial, ⟨I, Jz8, ⟨hI, rfl⟩, by rw [ht]; exact hP⟩⟩, hS.F ht⟩) hS.2.2 dX7_contact_95
        · have t86 := tq_eq (k := p1.toInt) (q := (-1)) c86 rfl (by decide +kernel)
          refine lv_iload_n hx hb dX7_contact_89 rfl (lv_at hl 2 rfl) ?_
          refine lv_goto (tgt := 95) hx hb dX7_contact_90 (by decide) ?_
          subst hR; subst hQz
          exact W.iret (v := v15_2) hx hb hr (fun t ht hW => ⟨⟨v15_2, (), rfl, trivial, ⟨I, Jz8, ⟨hI, rfl⟩, by rw [ht]; exact hP⟩⟩, hS.F ht⟩) hS.2.2 dX7_contact_95
      · have t22 := tq_nle (k := z21.toInt) (q := v15_3.toInt) c22 rfl rfl
        refine lv_iload_n hx hb dX7_contact_25 rfl (lv_at hl 3 rfl) ?_
        refine lv_iconst (v := 1) hx hb dX7_contact_26 (by decide +kernel) ?_
        refine lv_iadd hx hb dX7_contact_27 ?_
        refine lv_topi (fun z27 ez27 => ?_)
        have bz27 := tq_add (k := v15_3.toInt) (q := (1)) ez27 rfl (by decide +kernel) (by omega) (by omega)
        refine lv_istore (lv' := [(4, .int z27), (0, .ref p0), (1, .int p1), (2, .int v15_2), (3, .int v15_3)]) hx hb dX7_contact_28 hl (by decide) rfl (fun ls hl => ?_)
        have key30 := blocks (fun n => ∀ (v30_2 : Int32) (v30_4 : Int32) (H : Heap) (lo : List Loc) (ls : Array Slot), (11 - v30_4.toInt).toNat = n → ((1) ≤ v30_4.toInt ∧ v30_4.toInt ≤ 10) → va_P (dC, dI) vwCl (Wd cs L K I Jz8 Q) H → va_S A s.heap H lo → lv_has ls 5 [(0, .ref p0), (1, .int p1), (2, .int v30_2), (3, .int v15_3), (4, .int v30_4)] → W p l e R s m (([.ref p0, .int p1] : List Value).toArray) below meth c H lo 0 0 Qz (F0 m 30 ls [])) (by
          intro n ih30
          intro v30_2 v30_4 H lo ls hmu30 bv30_4 hP hS hl
          refine lv_iload hx hb dX7_contact_30 (lv_at hl 4 rfl) ?_
          refine lv_aload_n hx hb dX7_contact_32 rfl (lv_at hl 0 rfl) ?_
          refine p_get (v := .ref y17) hx hb hts inX7 hown hK hP hLp0 hKp0 rfl rfl 0 (by decide) (hts _ pq1115) (congrArg (fun q => some (va_rf q)) ey17) dX7_contact_33 ?_
          refine lv_iconst (v := 1) hx hb dX7_contact_36 (by decide +kernel) ?_
          refine p_iald hx hb hK hP 8 hLy17 hKy17 rfl rfl (in_d (by decide +kernel)) dX7_contact_37 ?_
          refine lv_topi (fun z37 ez37 => ?_)
          obtain rfl : z21 = z37 := ez21.trans ez37.symm
          refine lv_icmp_ge (tgt := 78) hx hb dX7_contact_38 (by decide) (fun c38 => ?_) (fun c38 => ?_)
          · have t38 := tq_le (k := z21.toInt) (q := v30_4.toInt) c38 rfl rfl
            obtain ⟨z78, ez78⟩ : ∃ y : Int32, y = v15_3 + 1 := ⟨_, rfl⟩
            refine lv_iinc (v := z78) (lv' := [(3, .int z78), (0, .ref p0), (1, .int p1), (2, .int v30_2), (4, .int v30_4)]) hx hb dX7_contact_78 hl (k := 3) rfl (by rw [ez78]; rfl) (by decide) rfl (fun ls hl => ?_)
            have bz78 := tq_add (k := v15_3.toInt) (q := 1) ez78 rfl (by decide +kernel) (by omega) (by omega)
            refine lv_goto (tgt := 15) hx hb dX7_contact_81 (by decide) ?_
            exact ih15 _ (by omega) v30_2 z78 _ _ _ rfl ⟨by omega, by omega⟩ hP hS (lv_sub hl [1, 2, 3, 0] rfl)
          · have t38 := tq_nle (k := z21.toInt) (q := v30_4.toInt) c38 rfl rfl
            refine lv_aload_n hx hb dX7_contact_41 rfl (lv_at hl 0 rfl) ?_
            refine lv_iload_n hx hb dX7_contact_42 rfl (lv_at hl 3 rfl) ?_
            refine lv_iload hx hb dX7_contact_43 (lv_at hl 4 rfl) ?_
            refine lv_iconst (v := 0) hx hb dX7_contact_45 (by decide +kernel) ?_
            refine lv_iconst (v := 0) hx hb dX7_contact_46 (by decide +kernel) ?_
            refine ro_i (va_runV (As := [.int v15_3, .int v30_4, .int 0, .int 0]) (rest := []) ⟨hx, hb, hml, hown, hts⟩ (s_X7_touches l dC dI cs L K G Q hQ x0 m0 tx tm H.size I Jz8 hI p0 hLp0 hKp0 v15_3 ⟨by omega, by omega⟩ v30_4 ⟨by omega, by omega⟩ 0 0 ⟨by decide +kernel, by decide +kernel⟩) (cwV 4 hts (gV pq1448 pq1450 pq44 pq81 pq1451) rfl rfl rfl (by decide +kernel) ⟨(by rw [hR]; exact (Nat.le_of_ble_eq_true rfl)), (by rw [hR]; exact (Nat.le_of_ble_eq_true rfl))⟩) (sP_V hP hD hK hN hLp0 hKp0 rfl rfl) rfl rfl hl.1 rfl (lv_room (Nat.le_of_ble_eq_true rfl)) dX7_contact_47 ⟨(by rw [hR]; exact (Nat.le_of_ble_eq_true rfl)), (by rw [hR]; exact (Nat.le_of_ble_eq_true rfl))⟩) hS hP (fun z47 H locs hz47 hP hS => ?_)
            have bz47 := hz47
            have j72 : ∀ (v72_2 : Int32) (H : Heap) (lo : List Loc) (ls : Array Slot), va_P (dC, dI) vwCl (Wd cs L K I Jz8 Q) H → va_S A s.heap H lo → lv_has ls 5 [(0, .ref p0), (1, .int p1), (2, .int v72_2), (3, .int v15_3), (4, .int v30_4)] → W p l e R s m (([.ref p0, .int p1] : List Value).toArray) below meth c H lo 0 0 Qz (F0 m 72 ls []) := by
              intro v72_2 H lo ls hP hS hl
              obtain ⟨z72, ez72⟩ : ∃ y : Int32, y = v30_4 + 1 := ⟨_, rfl⟩
              refine lv_iinc (v := z72) (lv' := [(4, .int z72), (0, .ref p0), (1, .int p1), (2, .int v72_2), (3, .int v15_3)]) hx hb dX7_contact_72 hl (k := 4) rfl (by rw [ez72]; rfl) (by decide) rfl (fun ls hl => ?_)
              have bz72 := tq_add (k := v30_4.toInt) (q := 1) ez72 rfl (by decide +kernel) (by omega) (by omega)
              refine lv_goto (tgt := 30) hx hb dX7_contact_75 (by decide) ?_
              exact ih30 _ (by omega) v72_2 z72 _ _ _ rfl ⟨by omega, by omega⟩ hP hS (lv_sub hl [1, 2, 3, 4, 0] rfl)
            refine lv_if_ne (tgt := 56) hx hb dX7_contact_50 (by decide) (fun c50 => ?_) (fun c50 => ?_)
            · have t50 := tq_ne (k := z47.toInt) (q := (0)) c50 rfl (by decide +kernel)
              refine lv_iload_n hx hb dX7_contact_56 rfl (lv_at hl 2 rfl) ?_
              refine lv_iload_n hx hb dX7_contact_57 rfl (lv_at hl 1 rfl) ?_
              refine lv_icmp_ne (tgt := 69) hx hb dX7_contact_58 (by decide) (fun c58 => ?_) (fun c58 => ?_)
              · have t58 := tq_ne (k := v30_2.toInt) (q := p1.toInt) c58 rfl rfl
                obtain ⟨z69, ez69⟩ : ∃ y : Int32, y = v30_2 + 1 := ⟨_, rfl⟩
                refine lv_iinc (v := z69) (lv' := [(2, .int z69), (0, .ref p0), (1, .int p1), (3, .int v15_3), (4, .int v30_4)]) hx hb dX7_contact_69 hl (k := 2) rfl (by rw [ez69]; rfl) (by decide) rfl (fun ls hl => ?_)
                exact j72 z69 _ _ _ hP hS (lv_sub hl [1, 2, 0, 3, 4] rfl)
              · have t58 := tq_eq (k := v30_2.toInt) (q := p1.toInt) c58 rfl rfl
                refine lv_bipush (v := 100) hx hb dX7_contact_61 (by decide +kernel) ?_
                refine lv_iload_n hx hb dX7_contact_63 rfl (lv_at hl 3 rfl) ?_
                refine lv_imul hx hb dX7_contact_64 ?_
                refine lv_topi (fun z64 ez64 => ?_)
                have bz64 := tq_mul (k := (100)) (q := v15_3.toInt) ez64 (by decide +kernel) rfl (by omega) (by omega)
                refine lv_iload hx hb dX7_contact_65 (lv_at hl 4 rfl) ?_
                refine lv_iadd hx hb dX7_contact_67 ?_
                refine lv_topi (fun z67 ez67 => ?_)
                have bz67 := tq_add (k := z64.toInt) (q := v30_4.toInt) ez67 rfl rfl (by omega) (by omega)
                subst hR; subst hQz
                exact W.iret (v := z67) hx hb hr (fun t ht hW => ⟨⟨z67, (), rfl, trivial, ⟨I, Jz8, ⟨hI, rfl⟩, by rw [ht]; exact hP⟩⟩, hS.F ht⟩) hS.2.2 dX7_contact_68
            · have t50 := tq_eq (k := z47.toInt) (q := (0)) c50 rfl (by decide +kernel)
              refine lv_goto (tgt := 72) hx hb dX7_contact_53 (by decide) ?_
              exact j72 v30_2 _ _ _ hP hS (lv_sub hl [0, 1, 2, 3, 4] rfl))
        exact key30 _ v15_2 z27 _ _ _ rfl ⟨by omega, by omega⟩ hP hS (lv_sub hl [1, 2, 3, 4, 0] rfl))
    exact key15 _ 0 0 _ _ _ rfl ⟨by decide +kernel, by decide +kernel⟩ hP hS (lv_sub hl [2, 3, 1, 0] rfl)
  · have t2 := tq_nle (k := (-1)) (q := p1.toInt) c2 (by decide +kernel) rfl
    have rg2p1 := fb_rng p1
    refine lv_iconst (v := (-1)) hx hb dX7_contact_5 (by decide +kernel) ?_
    subst hR; subst hQz
    exact W.iret (v := (-1)) hx hb hr (fun t ht hW => ⟨⟨(-1), (), rfl, trivial, ⟨I, J, ⟨hI, rfl⟩, by rw [ht]; exact hP⟩⟩, hS.F ht⟩) hS.2.2 dX7_contact_6

set_option maxHeartbeats 4000000 in
set_option maxRecDepth 100000 in
theorem s_X7_touching (l : Launch) (dC : Nat → ClassId) (dI : Nat → Nat → Nat) (cs : Nat → ClassId) (L : List Nat) (K G : Nat → Nat) (Q : Nat → Nat → Option Nat) (hQ : Sv L K G Q) (x0 m0 : Nat) (tx : Int32) (tm : Int32 × Int) (sz : Nat) (I : Nat → Nat → Int32) (J : Nat → Nat → Int64) (hI : Iv L K x0 m0 tx tm I) (p0 : Nat) (hLp0 : p0 ∈ L) (hKp0 : K p0 = 7) (p1 : Int32) : Met l yX7_touching (.code yX7_touching cX7_touching 2 (some .int) :: pw) ({ frames := 6, cells := 0, slots := 0, locals := 145 }) (sP (dC, dI) cs [.ref p0, .int p1] sz L K I J Q) (va_Qi (fun (r : Int32) (_ : Unit) => True) (fun _ t => sB (dC, dI) cs L K Q (fun I1 => Iv L K x0 m0 tx tm I1 ∧ I1 = I) t) (fun q => q ∈ L ∨ sz ≤ q)) 0 0 (fun q => q ∈ L ∨ sz ≤ q) := by
  refine Met.ofW (cc := cX7_touching) (maxL := 2) (ret := (some .int)) (by decide +kernel) rfl ?_
  intro p e s m args below meth c s₁ B hml hv
  obtain ⟨rfl, hsz, hP, hK, hD0, hN⟩ := hv
  have hx := B.exec
  have hb := B.bytes
  have hr := B.returns
  have hts := fun w (h : w ∈ pw) => atoms_spec (ws := Cond.code yX7_touching cX7_touching 2 (some .int) :: pw) B.pre w (List.mem_cons_of_mem _ h)
  have hown : s.vm.findClass RX7 = some m.cls := findClass_of_methodNamed B.named
  have hlocks := B.notSynchronized
  subst hsz
  have hBB : 999 ≤ tm.2 ∧ tm.2 ≤ 6000000 := hI.2.2.2.2
  obtain ⟨A, hAe⟩ : ∃ A : Nat → Prop, A = (fun q => q ∈ L ∨ s.heap.size ≤ q) := ⟨_, rfl⟩
  rw [← hAe]
  have hAL : ∀ q, q ∈ L → A q := fun q h => by rw [hAe]; exact Or.inl h
  have hA : ∀ q, s.heap.size ≤ q → A q := fun q h => by rw [hAe]; exact Or.inr h
  have hD : ∀ F, va_D A (va_pl L F) := fun F => (hD0 F).weaken (fun k q hk _ => hAL _ (pl_mem hk))
  obtain ⟨H, hHe⟩ : ∃ H : Heap, H = s.heap := ⟨_, rfl⟩
  have hS : va_S A s.heap H [] := by rw [hHe]; exact va_S.rf
  rw [← hHe] at hP
  have hl := lv_entry ([.ref p0, .int p1]) (n := 2) (Nat.le_of_ble_eq_true rfl)
  rw [lg_entry_eq]
  generalize (lg_sl ([.ref p0, .int p1]) ++ List.replicate (2 - (lg_sl ([.ref p0, .int p1])).length) Slot.unset).toArray = ls at hl ⊢
  have hl : lv_has ls 2 [(0, .ref p0), (1, .int p1)] := hl
  rw [← hHe]
  refine namedW (fun R Qz hR hQz => ?_)
  refine lv_aload_n hx hb dX7_touching_0 rfl (lv_at hl 0 rfl) ?_
  refine lv_iload_n hx hb dX7_touching_1 rfl (lv_at hl 1 rfl) ?_
  refine ro_i (va_runV (As := [.int p1]) (rest := []) ⟨hx, hb, hml, hown, hts⟩ (s_X7_isBody l dC dI cs L K G Q hQ x0 m0 tx tm H.size I J hI p0 hLp0 hKp0 p1) (cwV 1 hts (gV pq1310 pq1312 pq23 pq81 pq1313) rfl rfl rfl (by decide +kernel) ⟨(by rw [hR]; exact (Nat.le_of_ble_eq_true rfl)), (by rw [hR]; exact (Nat.le_of_ble_eq_true rfl))⟩) (sP_V hP hD hK hN hLp0 hKp0 rfl rfl) rfl rfl hl.1 rfl (lv_room (Nat.le_of_ble_eq_true rfl)) dX7_touching_2 ⟨(by rw [hR]; exact (Nat.le_of_ble_eq_true rfl)), (by rw [hR]; exact (Nat.le_of_ble_eq_true rfl))⟩) hS hP (fun z2 H locs hz2 hP hS => ?_)
  obtain ⟨bz2, imz2⟩ := hz2
  refine lv_if_ne (tgt := 10) hx hb dX7_touching_5 (by decide) (fun c5 => ?_) (fun c5 => ?_)
  · have t5 := tq_ne (k := z2.toInt) (q := (0)) c5 rfl (by decide +kernel)
    have i5 := imz2 t5
    refine lv_aload_n hx hb dX7_touching_10 rfl (lv_at hl 0 rfl) ?_
    refine sw_v (Z := (fun I1 => Iv L K x0 m0 tx tm I1 ∧ I1 = I)) (va_runV (As := []) (rest := []) ⟨hx, hb, hml, hown, hts⟩ (s_X7_laysAll l dC dI cs L K G Q hQ x0 m0 tx tm H.size I J hI p0 hLp0 hKp0) (cwV 0 hts (gV pq1427 pq1429 pq40 pq81 pq1430) rfl rfl rfl (by decide +kernel) ⟨(by rw [hR]; exact (Nat.le_of_ble_eq_true rfl)), (by rw [hR]; exact (Nat.le_of_ble_eq_true rfl))⟩) (sP_V hP hD hK hN hLp0 hKp0 rfl rfl) rfl rfl hl.1 rfl (lv_room (Nat.le_of_ble_eq_true rfl)) dX7_touching_11 ⟨(by rw [hR]; exact (Nat.le_of_ble_eq_true rfl)), (by rw [hR]; exact (Nat.le_of_ble_eq_true rfl))⟩) hS hAL hA (fun Iz11 Jz11 H locs hz11 hIz11 hP hS => ?_)
    obtain ⟨hIz11x, rfl⟩ : Iv L K x0 m0 tx tm Iz11 ∧ I = Iz11 := ⟨hIz11.1, hIz11.2.symm⟩
    refine lv_aload_n hx hb dX7_touching_14 rfl (lv_at hl 0 rfl) ?_
    refine lv_iload_n hx hb dX7_touching_15 rfl (lv_at hl 1 rfl) ?_
    refine ro_i (va_runV (As := [.int p1]) (rest := []) ⟨hx, hb, hml, hown, hts⟩ (s_X7_touchingOf l dC dI cs L K G Q hQ x0 m0 tx tm H.size I Jz11 hI p0 hLp0 hKp0 p1 ⟨by omega, by omega⟩) (cwV 1 hts (gV pq1444 pq1446 pq43 pq81 pq1447) rfl rfl rfl (by decide +kernel) ⟨(by rw [hR]; exact (Nat.le_of_ble_eq_true rfl)), (by rw [hR]; exact (Nat.le_of_ble_eq_true rfl))⟩) (sP_V hP hD hK hN hLp0 hKp0 rfl rfl) rfl rfl hl.1 rfl (lv_room (Nat.le_of_ble_eq_true rfl)) dX7_touching_16 ⟨(by rw [hR]; exact (Nat.le_of_ble_eq_true rfl)), (by rw [hR]; exact (Nat.le_of_ble_eq_true rfl))⟩) hS hP (fun z16 H locs hz16 hP hS => ?_)
    subst hR; subst hQz
    exact W.iret (v := z16) hx hb hr (fun t ht hW => ⟨⟨z16, (), rfl, trivial, ⟨I, Jz11, ⟨hI, rfl⟩, by rw [ht]; exact hP⟩⟩, hS.F ht⟩) hS.2.2 dX7_touching_19
  · have t5 := tq_eq (k := z2.toInt) (q := (0)) c5 rfl (by decide +kernel)
    refine lv_iconst (v := (-1)) hx hb dX7_touching_8 (by decide +kernel) ?_
    subst hR; subst hQz
    exact W.iret (v := (-1)) hx hb hr (fun t ht hW => ⟨⟨(-1), (), rfl, trivial, ⟨I, J, ⟨hI, rfl⟩, by rw [ht]; exact hP⟩⟩, hS.F ht⟩) hS.2.2 dX7_touching_9

set_option maxHeartbeats 4000000 in
set_option maxRecDepth 100000 in
theorem s_X7_bodiesAt (l : Launch) (dC : Nat → ClassId) (dI : Nat → Nat → Nat) (cs : Nat → ClassId) (L : List Nat) (K G : Nat → Nat) (Q : Nat → Nat → Option Nat) (hQ : Sv L K G Q) (x0 m0 : Nat) (tx : Int32) (tm : Int32 × Int) (sz : Nat) (I : Nat → Nat → Int32) (J : Nat → Nat → Int64) (hI : Iv L K x0 m0 tx tm I) (p0 : Nat) (hLp0 : p0 ∈ L) (hKp0 : K p0 = 7) (p1 : Int32) (p2 : Int32) : Met l yX7_bodiesAt (.code yX7_bodiesAt cX7_bodiesAt 5 (some .int) :: pw) ({ frames := 3, cells := 0, slots := 0, locals := 75 }) (sP (dC, dI) cs [.ref p0, .int p1, .int p2] sz L K I J Q) (va_Qi (fun (r : Int32) (_ : Unit) => True) (fun _ _ => True) (fun _ => False)) 0 0 (fun _ => False) := by
  refine Met.ofW (cc := cX7_bodiesAt) (maxL := 5) (ret := (some .int)) (by decide +kernel) rfl ?_
  intro p e s m args below meth c s₁ B hml hv
  obtain ⟨rfl, hsz, hP, hK, hD0, hN⟩ := hv
  have hx := B.exec
  have hb := B.bytes
  have hr := B.returns
  have hts := fun w (h : w ∈ pw) => atoms_spec (ws := Cond.code yX7_bodiesAt cX7_bodiesAt 5 (some .int) :: pw) B.pre w (List.mem_cons_of_mem _ h)
  have hown : s.vm.findClass RX7 = some m.cls := findClass_of_methodNamed B.named
  have hlocks := B.notSynchronized
  subst hsz
  have hBB : 999 ≤ tm.2 ∧ tm.2 ≤ 6000000 := hI.2.2.2.2
  have hD := hD0
  obtain ⟨H, hHe⟩ : ∃ H : Heap, H = s.heap := ⟨_, rfl⟩
  have hS : va_S (fun _ => False) s.heap H [] := by rw [hHe]; exact va_S.rf
  rw [← hHe] at hP
  have hl := lv_entry ([.ref p0, .int p1, .int p2]) (n := 5) (Nat.le_of_ble_eq_true rfl)
  rw [lg_entry_eq]
  generalize (lg_sl ([.ref p0, .int p1, .int p2]) ++ List.replicate (5 - (lg_sl ([.ref p0, .int p1, .int p2])).length) Slot.unset).toArray = ls at hl ⊢
  have hl : lv_has ls 5 [(0, .ref p0), (1, .int p1), (2, .int p2)] := hl
  rw [← hHe]
  refine namedW (fun R Qz hR hQz => ?_)
  refine lv_iconst (v := 0) hx hb dX7_bodiesAt_0 (by decide +kernel) ?_
  refine lv_istore_n (lv' := [(3, .int 0), (0, .ref p0), (1, .int p1), (2, .int p2)]) hx hb dX7_bodiesAt_1 rfl hl (by decide) rfl (fun ls hl => ?_)
  refine lv_iconst (v := 0) hx hb dX7_bodiesAt_2 (by decide +kernel) ?_
  refine lv_istore (lv' := [(4, .int 0), (3, .int 0), (0, .ref p0), (1, .int p1), (2, .int p2)]) hx hb dX7_bodiesAt_3 hl (by decide) rfl (fun ls hl => ?_)
  have key5 := blocks (fun n => ∀ (v5_3 : Int32) (v5_4 : Int32) (H : Heap) (lo : List Loc) (ls : Array Slot), (11 - v5_4.toInt).toNat = n → ((0) ≤ v5_4.toInt ∧ v5_4.toInt ≤ 10) → va_P (dC, dI) vwCl (Wd cs L K I J Q) H → va_S (fun _ => False) s.heap H lo → lv_has ls 5 [(0, .ref p0), (1, .int p1), (2, .int p2), (3, .int v5_3), (4, .int v5_4)] → W p l e R s m (([.ref p0, .int p1, .int p2] : List Value).toArray) below meth c H lo 0 0 Qz (F0 m 5 ls [])) (by
    intro n ih5
    intro v5_3 v5_4 H lo ls hmu5 bv5_4 hP hS hl
    refine lv_iload hx hb dX7_bodiesAt_5 (lv_at hl 4 rfl) ?_
    refine lv_aload_n hx hb dX7_bodiesAt_7 rfl (lv_at hl 0 rfl) ?_
    obtain ⟨y8, ey8, hLy8, hKy8⟩ := oQ_7_0 (Sv_at hQ hLp0 hKp0)
    refine p_get (v := .ref y8) hx hb hts inX7 hown hK hP hLp0 hKp0 rfl rfl 0 (by decide) (hts _ pq1115) (congrArg (fun q => some (va_rf q)) ey8) dX7_bodiesAt_8 ?_
    refine lv_iconst (v := 1) hx hb dX7_bodiesAt_11 (by decide +kernel) ?_
    refine p_iald hx hb hK hP 8 hLy8 hKy8 rfl rfl (in_d (by decide +kernel)) dX7_bodiesAt_12 ?_
    refine lv_topi (fun z12 ez12 => ?_)
    have bz12 := rng1 (oR_18 (i := (1 : Int32)) (k := (1)) (by decide +kernel) (Iv_at hI hLy8 hKy8))
    rw [← ez12] at bz12
    refine lv_icmp_ge (tgt := 44) hx hb dX7_bodiesAt_13 (by decide) (fun c13 => ?_) (fun c13 => ?_)
    · have t13 := tq_le (k := z12.toInt) (q := v5_4.toInt) c13 rfl rfl
      refine lv_iload_n hx hb dX7_bodiesAt_44 rfl (lv_at hl 3 rfl) ?_
      subst hR; subst hQz
      exact W.iret (v := v5_3) hx hb hr (fun t ht hW => ⟨⟨v5_3, (), rfl, trivial, trivial⟩, hS.F ht⟩) hS.2.2 dX7_bodiesAt_45
    · have t13 := tq_nle (k := z12.toInt) (q := v5_4.toInt) c13 rfl rfl
      refine lv_iload_n hx hb dX7_bodiesAt_16 rfl (lv_at hl 3 rfl) ?_
      refine lv_aload_n hx hb dX7_bodiesAt_17 rfl (lv_at hl 0 rfl) ?_
      refine lv_iload hx hb dX7_bodiesAt_18 (lv_at hl 4 rfl) ?_
      refine lv_iload_n hx hb dX7_bodiesAt_20 rfl (lv_at hl 1 rfl) ?_
      refine lv_iload_n hx hb dX7_bodiesAt_21 rfl (lv_at hl 2 rfl) ?_
      refine ro_i (va_runV (As := [.int v5_4, .int p1, .int p2]) (rest := [.int v5_3]) ⟨hx, hb, hml, hown, hts⟩ (s_X7_lies l dC dI cs L K G Q hQ x0 m0 tx tm H.size I J hI p0 hLp0 hKp0 v5_4 ⟨by omega, by omega⟩ p1 p2) (cwV 3 hts (gV pq1583 pq1585 pq64 pq81 pq1586) rfl rfl rfl (by decide +kernel) ⟨(by rw [hR]; exact (Nat.le_of_ble_eq_true rfl)), (by rw [hR]; exact (Nat.le_of_ble_eq_true rfl))⟩) (sP_V hP hD hK hN hLp0 hKp0 rfl rfl) rfl rfl hl.1 rfl (lv_room (Nat.le_of_ble_eq_true rfl)) dX7_bodiesAt_22 ⟨(by rw [hR]; exact (Nat.le_of_ble_eq_true rfl)), (by rw [hR]; exact (Nat.le_of_ble_eq_true rfl))⟩) hS hP (fun z22 H locs hz22 hP hS => ?_)
      have bz22 := hz22
      have j36 : ∀ (w36_1 : Int32) (H : Heap) (lo : List Loc) (ls : Array Slot), va_P (dC, dI) vwCl (Wd cs L K I J Q) H → va_S (fun _ => False) s.heap H lo → lv_has ls 5 [(0, .ref p0), (1, .int p1), (2, .int p2), (3, .int v5_3), (4, .int v5_4)] → W p l e R s m (([.ref p0, .int p1, .int p2] : List Value).toArray) below meth c H lo 0 0 Qz (F0 m 36 ls [.int w36_1, .int v5_3]) := by
        intro w36_1 H lo ls hP hS hl
        refine lv_ior hx hb dX7_bodiesAt_36 ?_
        refine lv_topi (fun z36 ez36 => ?_)
        refine lv_istore_n (lv' := [(3, .int z36), (0, .ref p0), (1, .int p1), (2, .int p2), (4, .int v5_4)]) hx hb dX7_bodiesAt_37 rfl hl (by decide) rfl (fun ls hl => ?_)
        obtain ⟨z38, ez38⟩ : ∃ y : Int32, y = v5_4 + 1 := ⟨_, rfl⟩
        refine lv_iinc (v := z38) (lv' := [(4, .int z38), (3, .int z36), (0, .ref p0), (1, .int p1), (2, .int p2)]) hx hb dX7_bodiesAt_38 hl (k := 4) rfl (by rw [ez38]; rfl) (by decide) rfl (fun ls hl => ?_)
        have bz38 := tq_add (k := v5_4.toInt) (q := 1) ez38 rfl (by decide +kernel) (by omega) (by omega)
        refine lv_goto (tgt := 5) hx hb dX7_bodiesAt_41 (by decide) ?_
        exact ih5 _ (by omega) z36 z38 _ _ _ rfl ⟨by omega, by omega⟩ hP hS (lv_sub hl [2, 3, 4, 1, 0] rfl)
      refine lv_if_eq (tgt := 35) hx hb dX7_bodiesAt_25 (by decide) (fun c25 => ?_) (fun c25 => ?_)
      · have t25 := tq_eq (k := z22.toInt) (q := (0)) c25 rfl (by decide +kernel)
        refine lv_iconst (v := 0) hx hb dX7_bodiesAt_35 (by decide +kernel) ?_
        exact j36 0 _ _ _ hP hS (lv_sub hl [0, 1, 2, 3, 4] rfl)
      · have t25 := tq_ne (k := z22.toInt) (q := (0)) c25 rfl (by decide +kernel)
        refine lv_iconst (v := 1) hx hb dX7_bodiesAt_28 (by decide +kernel) ?_
        refine lv_iload hx hb dX7_bodiesAt_29 (lv_at hl 4 rfl) ?_
        refine lv_ishl hx hb dX7_bodiesAt_31 ?_
        refine lv_topi (fun z31 ez31 => ?_)
        refine lv_goto (tgt := 36) hx hb dX7_bodiesAt_32 (by decide) ?_
        exact j36 z31 _ _ _ hP hS (lv_sub hl [0, 1, 2, 3, 4] rfl))
  exact key5 _ 0 0 _ _ _ rfl ⟨by decide +kernel, by decide +kernel⟩ hP hS (lv_sub hl [2, 3, 4, 1, 0] rfl)

set_option maxHeartbeats 4000000 in
set_option maxRecDepth 100000 in
theorem s_X7_at (l : Launch) (dC : Nat → ClassId) (dI : Nat → Nat → Nat) (cs : Nat → ClassId) (L : List Nat) (K G : Nat → Nat) (Q : Nat → Nat → Option Nat) (hQ : Sv L K G Q) (x0 m0 : Nat) (tx : Int32) (tm : Int32 × Int) (sz : Nat) (I : Nat → Nat → Int32) (J : Nat → Nat → Int64) (hI : Iv L K x0 m0 tx tm I) (p0 : Nat) (hLp0 : p0 ∈ L) (hKp0 : K p0 = 7) (p1 : Int32) (p2 : Int32) : Met l yX7_at (.code yX7_at cX7_at 3 (some .int) :: pw) ({ frames := 4, cells := 0, slots := 0, locals := 99 }) (sP (dC, dI) cs [.ref p0, .int p1, .int p2] sz L K I J Q) (va_Qi (fun (r : Int32) (_ : Unit) => True) (fun _ _ => True) (fun _ => False)) 0 0 (fun _ => False) := by
  refine Met.ofW (cc := cX7_at) (maxL := 3) (ret := (some .int)) (by decide +kernel) rfl ?_
  intro p e s m args below meth c s₁ B hml hv
  obtain ⟨rfl, hsz, hP, hK, hD0, hN⟩ := hv
  have hx := B.exec
  have hb := B.bytes
  have hr := B.returns
  have hts := fun w (h : w ∈ pw) => atoms_spec (ws := Cond.code yX7_at cX7_at 3 (some .int) :: pw) B.pre w (List.mem_cons_of_mem _ h)
  have hown : s.vm.findClass RX7 = some m.cls := findClass_of_methodNamed B.named
  have hlocks := B.notSynchronized
  subst hsz
  have hBB : 999 ≤ tm.2 ∧ tm.2 ≤ 6000000 := hI.2.2.2.2
  have hD := hD0
  obtain ⟨H, hHe⟩ : ∃ H : Heap, H = s.heap := ⟨_, rfl⟩
  have hS : va_S (fun _ => False) s.heap H [] := by rw [hHe]; exact va_S.rf
  rw [← hHe] at hP
  have hl := lv_entry ([.ref p0, .int p1, .int p2]) (n := 3) (Nat.le_of_ble_eq_true rfl)
  rw [lg_entry_eq]
  generalize (lg_sl ([.ref p0, .int p1, .int p2]) ++ List.replicate (3 - (lg_sl ([.ref p0, .int p1, .int p2])).length) Slot.unset).toArray = ls at hl ⊢
  have hl : lv_has ls 3 [(0, .ref p0), (1, .int p1), (2, .int p2)] := hl
  rw [← hHe]
  refine namedW (fun R Qz hR hQz => ?_)
  refine lv_aload_n hx hb dX7_at_0 rfl (lv_at hl 0 rfl) ?_
  refine lv_iload_n hx hb dX7_at_1 rfl (lv_at hl 1 rfl) ?_
  refine lv_iload_n hx hb dX7_at_2 rfl (lv_at hl 2 rfl) ?_
  refine ro_i (va_runV (As := [.int p1, .int p2]) (rest := []) ⟨hx, hb, hml, hown, hts⟩ (s_X7_bodiesAt l dC dI cs L K G Q hQ x0 m0 tx tm H.size I J hI p0 hLp0 hKp0 p1 p2) (cwV 2 hts (gV pq1612 pq1614 pq67 pq81 pq1615) rfl rfl rfl (by decide +kernel) ⟨(by rw [hR]; exact (Nat.le_of_ble_eq_true rfl)), (by rw [hR]; exact (Nat.le_of_ble_eq_true rfl))⟩) (sP_V hP hD hK hN hLp0 hKp0 rfl rfl) rfl rfl hl.1 rfl (lv_room (Nat.le_of_ble_eq_true rfl)) dX7_at_3 ⟨(by rw [hR]; exact (Nat.le_of_ble_eq_true rfl)), (by rw [hR]; exact (Nat.le_of_ble_eq_true rfl))⟩) hS hP (fun z3 H locs hz3 hP hS => ?_)
  subst hR; subst hQz
  exact W.iret (v := z3) hx hb hr (fun t ht hW => ⟨⟨z3, (), rfl, trivial, trivial⟩, hS.F ht⟩) hS.2.2 dX7_at_6

set_option maxHeartbeats 4000000 in
set_option maxRecDepth 100000 in
theorem s_X7_first (l : Launch) (dC : Nat → ClassId) (dI : Nat → Nat → Nat) (cs : Nat → ClassId) (L : List Nat) (K G : Nat → Nat) (Q : Nat → Nat → Option Nat) (hQ : Sv L K G Q) (x0 m0 : Nat) (tx : Int32) (tm : Int32 × Int) (sz : Nat) (I : Nat → Nat → Int32) (J : Nat → Nat → Int64) (hI : Iv L K x0 m0 tx tm I) (p0 : Nat) (hLp0 : p0 ∈ L) (hKp0 : K p0 = 7) (p1 : Int32) (p2 : Int32) (p3 : Int32) : Met l yX7_first (.code yX7_first cX7_first 7 (some .int) :: pw) ({ frames := 5, cells := 0, slots := 0, locals := 122 }) (sP (dC, dI) cs [.ref p0, .int p1, .int p2, .int p3] sz L K I J Q) (va_Qi (fun (r : Int32) (_ : Unit) => True) (fun _ t => sB (dC, dI) cs L K Q (fun I1 => Iv L K x0 m0 tx tm I1 ∧ I1 = I) t) (fun q => q ∈ L ∨ sz ≤ q)) 0 0 (fun q => q ∈ L ∨ sz ≤ q) := by
  refine Met.ofW (cc := cX7_first) (maxL := 7) (ret := (some .int)) (by decide +kernel) rfl ?_
  intro p e s m args below meth c s₁ B hml hv
  obtain ⟨rfl, hsz, hP, hK, hD0, hN⟩ := hv
  have hx := B.exec
  have hb := B.bytes
  have hr := B.returns
  have hts := fun w (h : w ∈ pw) => atoms_spec (ws := Cond.code yX7_first cX7_first 7 (some .int) :: pw) B.pre w (List.mem_cons_of_mem _ h)
  have hown : s.vm.findClass RX7 = some m.cls := findClass_of_methodNamed B.named
  have hlocks := B.notSynchronized
  subst hsz
  have hBB : 999 ≤ tm.2 ∧ tm.2 ≤ 6000000 := hI.2.2.2.2
  obtain ⟨A, hAe⟩ : ∃ A : Nat → Prop, A = (fun q => q ∈ L ∨ s.heap.size ≤ q) := ⟨_, rfl⟩
  rw [← hAe]
  have hAL : ∀ q, q ∈ L → A q := fun q h => by rw [hAe]; exact Or.inl h
  have hA : ∀ q, s.heap.size ≤ q → A q := fun q h => by rw [hAe]; exact Or.inr h
  have hD : ∀ F, va_D A (va_pl L F) := fun F => (hD0 F).weaken (fun k q hk _ => hAL _ (pl_mem hk))
  obtain ⟨H, hHe⟩ : ∃ H : Heap, H = s.heap := ⟨_, rfl⟩
  have hS : va_S A s.heap H [] := by rw [hHe]; exact va_S.rf
  rw [← hHe] at hP
  have hl := lv_entry ([.ref p0, .int p1, .int p2, .int p3]) (n := 7) (Nat.le_of_ble_eq_true rfl)
  rw [lg_entry_eq]
  generalize (lg_sl ([.ref p0, .int p1, .int p2, .int p3]) ++ List.replicate (7 - (lg_sl ([.ref p0, .int p1, .int p2, .int p3])).length) Slot.unset).toArray = ls at hl ⊢
  have hl : lv_has ls 7 [(0, .ref p0), (1, .int p1), (2, .int p2), (3, .int p3)] := hl
  rw [← hHe]
  refine namedW (fun R Qz hR hQz => ?_)
  refine lv_aload_n hx hb dX7_first_0 rfl (lv_at hl 0 rfl) ?_
  refine lv_iload_n hx hb dX7_first_1 rfl (lv_at hl 1 rfl) ?_
  refine lv_iload_n hx hb dX7_first_2 rfl (lv_at hl 2 rfl) ?_
  refine ro_i (va_runV (As := [.int p1, .int p2]) (rest := []) ⟨hx, hb, hml, hown, hts⟩ (s_X7_areTwo l dC dI cs L K G Q hQ x0 m0 tx tm H.size I J hI p0 hLp0 hKp0 p1 p2) (cwV 2 hts (gV pq1571 pq1573 pq62 pq81 pq1574) rfl rfl rfl (by decide +kernel) ⟨(by rw [hR]; exact (Nat.le_of_ble_eq_true rfl)), (by rw [hR]; exact (Nat.le_of_ble_eq_true rfl))⟩) (sP_V hP hD hK hN hLp0 hKp0 rfl rfl) rfl rfl hl.1 rfl (lv_room (Nat.le_of_ble_eq_true rfl)) dX7_first_3 ⟨(by rw [hR]; exact (Nat.le_of_ble_eq_true rfl)), (by rw [hR]; exact (Nat.le_of_ble_eq_true rfl))⟩) hS hP (fun z3 H locs hz3 hP hS => ?_)
  obtain ⟨bz3, imz3⟩ := hz3
  refine lv_if_eq (tgt := 21) hx hb dX7_first_6 (by decide) (fun c6 => ?_) (fun c6 => ?_)
  · have t6 := tq_eq (k := z3.toInt) (q := (0)) c6 rfl (by decide +kernel)
    refine lv_iconst (v := (-1)) hx hb dX7_first_21 (by decide +kernel) ?_
    subst hR; subst hQz
    exact W.iret (v := (-1)) hx hb hr (fun t ht hW => ⟨⟨(-1), (), rfl, trivial, ⟨I, J, ⟨hI, rfl⟩, by rw [ht]; exact hP⟩⟩, hS.F ht⟩) hS.2.2 dX7_first_22
  · have t6 := tq_ne (k := z3.toInt) (q := (0)) c6 rfl (by decide +kernel)
    have i6 := imz3 t6
    refine lv_iload_n hx hb dX7_first_9 rfl (lv_at hl 3 rfl) ?_
    refine lv_i2l hx hb dX7_first_10 rfl ?_
    refine lv_topl (fun z10 ez10 => ?_)
    have bz10 := tq_i2l (k := p3.toInt) ez10 rfl
    refine lv_lconst (v := 0) hx hb dX7_first_11 (by decide +kernel) ?_
    refine lv_ldc2 hx hb hown (hts _ pq1620) dX7_first_12 ?_
    refine ro_i (va_runS (As := [.long z10, .long 0, .long 300]) (rest := []) ⟨hx, hb, hml, hown, hts⟩ (s_X7_in l dC dI cs L K Q H.size I J z10 0 300) (va_cwS 3 hts (gS pq1234 pq1235 pq81 pq1236) rfl rfl rfl (by decide +kernel) ⟨(by rw [hR]; exact (Nat.le_of_ble_eq_true rfl)), (by rw [hR]; exact (Nat.le_of_ble_eq_true rfl))⟩) (sP_S hP hD hK hN) rfl rfl hl.1 rfl (lv_room (Nat.le_of_ble_eq_true rfl)) dX7_first_15 ⟨(by rw [hR]; exact (Nat.le_of_ble_eq_true rfl)), (by rw [hR]; exact (Nat.le_of_ble_eq_true rfl))⟩) hS hP (fun z15 H locs hz15 hP hS => ?_)
    have csl15_0 : (0 : Int64).toInt = 0 := by decide +kernel
    have csl15_300 : (300 : Int64).toInt = 300 := by decide +kernel
    obtain ⟨bz15, imz15⟩ := hz15
    refine lv_if_ne (tgt := 23) hx hb dX7_first_18 (by decide) (fun c18 => ?_) (fun c18 => ?_)
    · have t18 := tq_ne (k := z15.toInt) (q := (0)) c18 rfl (by decide +kernel)
      have i18 := imz15 t18
      refine lv_aload_n hx hb dX7_first_23 rfl (lv_at hl 0 rfl) ?_
      refine sw_v (Z := (fun I1 => Iv L K x0 m0 tx tm I1 ∧ I1 = I)) (va_runV (As := []) (rest := []) ⟨hx, hb, hml, hown, hts⟩ (s_X7_laysAll l dC dI cs L K G Q hQ x0 m0 tx tm H.size I J hI p0 hLp0 hKp0) (cwV 0 hts (gV pq1427 pq1429 pq40 pq81 pq1430) rfl rfl rfl (by decide +kernel) ⟨(by rw [hR]; exact (Nat.le_of_ble_eq_true rfl)), (by rw [hR]; exact (Nat.le_of_ble_eq_true rfl))⟩) (sP_V hP hD hK hN hLp0 hKp0 rfl rfl) rfl rfl hl.1 rfl (lv_room (Nat.le_of_ble_eq_true rfl)) dX7_first_24 ⟨(by rw [hR]; exact (Nat.le_of_ble_eq_true rfl)), (by rw [hR]; exact (Nat.le_of_ble_eq_true rfl))⟩) hS hAL hA (fun Iz24 Jz24 H locs hz24 hIz24 hP hS => ?_)
      obtain ⟨hIz24x, rfl⟩ : Iv L K x0 m0 tx tm Iz24 ∧ I = Iz24 := ⟨hIz24.1, hIz24.2.symm⟩
      refine lv_aload_n hx hb dX7_first_27 rfl (lv_at hl 0 rfl) ?_
      refine lv_iload_n hx hb dX7_first_28 rfl (lv_at hl 1 rfl) ?_
      refine lv_bipush (v := 6) hx hb dX7_first_29 (by decide +kernel) ?_
      refine ro_i (va_runV (As := [.int p1, .int 6]) (rest := []) ⟨hx, hb, hml, hown, hts⟩ (s_X7_of l dC dI cs L K G Q hQ x0 m0 tx tm H.size I Jz24 hI p0 hLp0 hKp0 p1 ⟨by omega, by omega⟩ 6 ⟨by decide +kernel, by decide +kernel⟩) (cwV 2 hts (gV pq1320 pq1322 pq25 pq81 pq1323) rfl rfl rfl (by decide +kernel) ⟨(by rw [hR]; exact (Nat.le_of_ble_eq_true rfl)), (by rw [hR]; exact (Nat.le_of_ble_eq_true rfl))⟩) (sP_V hP hD hK hN hLp0 hKp0 rfl rfl) rfl rfl hl.1 rfl (lv_room (Nat.le_of_ble_eq_true rfl)) dX7_first_31 ⟨(by rw [hR]; exact (Nat.le_of_ble_eq_true rfl)), (by rw [hR]; exact (Nat.le_of_ble_eq_true rfl))⟩) hS hP (fun z31 H locs hz31 hP hS => ?_)
      have cst31_6 : (6 : Int32).toInt = 6 := by decide +kernel
      obtain ⟨fez31, xpz31⟩ := hz31
      have bz31 := xpz31.2.2.2.1 rfl
      refine lv_aload_n hx hb dX7_first_34 rfl (lv_at hl 0 rfl) ?_
      refine lv_iload_n hx hb dX7_first_35 rfl (lv_at hl 2 rfl) ?_
      refine lv_bipush (v := 6) hx hb dX7_first_36 (by decide +kernel) ?_
      refine ro_i (va_runV (As := [.int p2, .int 6]) (rest := [.int z31]) ⟨hx, hb, hml, hown, hts⟩ (s_X7_of l dC dI cs L K G Q hQ x0 m0 tx tm H.size I Jz24 hI p0 hLp0 hKp0 p2 ⟨by omega, by omega⟩ 6 ⟨by decide +kernel, by decide +kernel⟩) (cwV 2 hts (gV pq1320 pq1322 pq25 pq81 pq1323) rfl rfl rfl (by decide +kernel) ⟨(by rw [hR]; exact (Nat.le_of_ble_eq_true rfl)), (by rw [hR]; exact (Nat.le_of_ble_eq_true rfl))⟩) (sP_V hP hD hK hN hLp0 hKp0 rfl rfl) rfl rfl hl.1 rfl (lv_room (Nat.le_of_ble_eq_true rfl)) dX7_first_38 ⟨(by rw [hR]; exact (Nat.le_of_ble_eq_true rfl)), (by rw [hR]; exact (Nat.le_of_ble_eq_true rfl))⟩) hS hP (fun z38 H locs hz38 hP hS => ?_)
      have cst38_6 : (6 : Int32).toInt = 6 := by decide +kernel
      obtain ⟨fez38, xpz38⟩ := hz38
      have bz38 := xpz38.2.2.2.1 rfl
      refine lv_isub hx hb dX7_first_41 ?_
      refine lv_topi (fun z41 ez41 => ?_)
      have bz41 := tq_sub (k := z31.toInt) (q := z38.toInt) ez41 rfl rfl (by omega) (by omega)
      refine lv_istore (lv' := [(4, .int z41), (0, .ref p0), (1, .int p1), (2, .int p2), (3, .int p3)]) hx hb dX7_first_42 hl (by decide) rfl (fun ls hl => ?_)
      refine lv_aload_n hx hb dX7_first_44 rfl (lv_at hl 1 rfl) ?_
      refine lv_iload_n hx hb dX7_first_45 rfl (lv_at hl 2 rfl) ?_
      refine lv_bipush (v := 7) hx hb dX7_first_46 (by decide +kernel) ?_
      refine ro_i (va_runV (As := [.int p1, .int 7]) (rest := []) ⟨hx, hb, hml, hown, hts⟩ (s_X7_of l dC dI cs L K G Q hQ x0 m0 tx tm H.size I Jz24 hI p0 hLp0 hKp0 p1 ⟨by omega, by omega⟩ 7 ⟨by decide +kernel, by decide +kernel⟩) (cwV 2 hts (gV pq1320 pq1322 pq25 pq81 pq1323) rfl rfl rfl (by decide +kernel) ⟨(by rw [hR]; exact (Nat.le_of_ble_eq_true rfl)), (by rw [hR]; exact (Nat.le_of_ble_eq_true rfl))⟩) (sP_V hP hD hK hN hLp0 hKp0 rfl rfl) rfl rfl hl.1 rfl (lv_room (Nat.le_of_ble_eq_true rfl)) dX7_first_48 ⟨(by rw [hR]; exact (Nat.le_of_ble_eq_true rfl)), (by rw [hR]; exact (Nat.le_of_ble_eq_true rfl))⟩) hS hP (fun z48 H locs hz48 hP hS => ?_)
      have cst48_7 : (7 : Int32).toInt = 7 := by decide +kernel
      obtain ⟨fez48, xpz48⟩ := hz48
      have bz48 := xpz48.2.2.2.2 rfl
      refine lv_aload_n hx hb dX7_first_51 rfl (lv_at hl 1 rfl) ?_
      refine lv_iload_n hx hb dX7_first_52 rfl (lv_at hl 3 rfl) ?_
      refine lv_bipush (v := 7) hx hb dX7_first_53 (by decide +kernel) ?_
      refine ro_i (va_runV (As := [.int p2, .int 7]) (rest := [.int z48]) ⟨hx, hb, hml, hown, hts⟩ (s_X7_of l dC dI cs L K G Q hQ x0 m0 tx tm H.size I Jz24 hI p0 hLp0 hKp0 p2 ⟨by omega, by omega⟩ 7 ⟨by decide +kernel, by decide +kernel⟩) (cwV 2 hts (gV pq1320 pq1322 pq25 pq81 pq1323) rfl rfl rfl (by decide +kernel) ⟨(by rw [hR]; exact (Nat.le_of_ble_eq_true rfl)), (by rw [hR]; exact (Nat.le_of_ble_eq_true rfl))⟩) (sP_V hP hD hK hN hLp0 hKp0 rfl rfl) rfl rfl hl.1 rfl (lv_room (Nat.le_of_ble_eq_true rfl)) dX7_first_55 ⟨(by rw [hR]; exact (Nat.le_of_ble_eq_true rfl)), (by rw [hR]; exact (Nat.le_of_ble_eq_true rfl))⟩) hS hP (fun z55 H locs hz55 hP hS => ?_)
      have cst55_7 : (7 : Int32).toInt = 7 := by decide +kernel
      obtain ⟨fez55, xpz55⟩ := hz55
      have bz55 := xpz55.2.2.2.2 rfl
      refine lv_isub hx hb dX7_first_58 ?_
      refine lv_topi (fun z58 ez58 => ?_)
      have bz58 := tq_sub (k := z48.toInt) (q := z55.toInt) ez58 rfl rfl (by omega) (by omega)
      refine lv_istore (lv' := [(5, .int z58), (4, .int z41), (0, .ref p0), (1, .int p1), (2, .int p2), (3, .int p3)]) hx hb dX7_first_59 hl (by decide) rfl (fun ls hl => ?_)
      refine lv_iconst (v := 0) hx hb dX7_first_61 (by decide +kernel) ?_
      refine lv_istore (lv' := [(6, .int 0), (5, .int z58), (4, .int z41), (0, .ref p0), (1, .int p1), (2, .int p2), (3, .int p3)]) hx hb dX7_first_62 hl (by decide) rfl (fun ls hl => ?_)
      have key64 := blocks (fun n => ∀ (v64_6 : Int32) (H : Heap) (lo : List Loc) (ls : Array Slot), (302 - v64_6.toInt).toNat = n → ((0) ≤ v64_6.toInt ∧ v64_6.toInt ≤ 301) → va_P (dC, dI) vwCl (Wd cs L K I Jz24 Q) H → va_S A s.heap H lo → lv_has ls 7 [(0, .ref p0), (1, .int p1), (2, .int p2), (3, .int p3), (4, .int z41), (5, .int z58), (6, .int v64_6)] → W p l e R s m (([.ref p0, .int p1, .int p2, .int p3] : List Value).toArray) below meth c H lo 0 0 Qz (F0 m 64 ls [])) (by
        intro n ih64
        intro v64_6 H lo ls hmu64 bv64_6 hP hS hl
        refine lv_iload hx hb dX7_first_64 (lv_at hl 6 rfl) ?_
        refine lv_iload_n hx hb dX7_first_66 rfl (lv_at hl 3 rfl) ?_
        refine lv_icmp_gt (tgt := 98) hx hb dX7_first_67 (by decide) (fun c67 => ?_) (fun c67 => ?_)
        · have t67 := tq_lt (k := p3.toInt) (q := v64_6.toInt) c67 rfl rfl
          refine lv_bipush (v := (-2)) hx hb dX7_first_98 (by decide +kernel) ?_
          subst hR; subst hQz
          exact W.iret (v := (-2)) hx hb hr (fun t ht hW => ⟨⟨(-2), (), rfl, trivial, ⟨I, Jz24, ⟨hI, rfl⟩, by rw [ht]; exact hP⟩⟩, hS.F ht⟩) hS.2.2 dX7_first_100
        · have t67 := tq_nlt (k := p3.toInt) (q := v64_6.toInt) c67 rfl rfl
          refine lv_aload_n hx hb dX7_first_70 rfl (lv_at hl 0 rfl) ?_
          refine lv_iload_n hx hb dX7_first_71 rfl (lv_at hl 1 rfl) ?_
          refine lv_iload_n hx hb dX7_first_72 rfl (lv_at hl 2 rfl) ?_
          refine lv_iload hx hb dX7_first_73 (lv_at hl 6 rfl) ?_
          refine lv_iload hx hb dX7_first_75 (lv_at hl 4 rfl) ?_
          refine lv_imul hx hb dX7_first_77 ?_
          refine lv_topi (fun z77 ez77 => ?_)
          refine lv_iload hx hb dX7_first_78 (lv_at hl 6 rfl) ?_
          refine lv_iload hx hb dX7_first_80 (lv_at hl 5 rfl) ?_
          refine lv_imul hx hb dX7_first_82 ?_
          refine lv_topi (fun z82 ez82 => ?_)
          have bz82 := mul_bd (a := 301) (b := 40) ez82 ⟨by omega, by omega⟩ ⟨by omega, by omega⟩ (by decide)
          refine ro_i (va_runV (As := [.int p1, .int p2, .int z77, .int z82]) (rest := []) ⟨hx, hb, hml, hown, hts⟩ (s_X7_touches l dC dI cs L K G Q hQ x0 m0 tx tm H.size I Jz24 hI p0 hLp0 hKp0 p1 ⟨by omega, by omega⟩ p2 ⟨by omega, by omega⟩ z77 z82 ⟨by omega, by omega⟩) (cwV 4 hts (gV pq1448 pq1450 pq44 pq81 pq1451) rfl rfl rfl (by decide +kernel) ⟨(by rw [hR]; exact (Nat.le_of_ble_eq_true rfl)), (by rw [hR]; exact (Nat.le_of_ble_eq_true rfl))⟩) (sP_V hP hD hK hN hLp0 hKp0 rfl rfl) rfl rfl hl.1 rfl (lv_room (Nat.le_of_ble_eq_true rfl)) dX7_first_83 ⟨(by rw [hR]; exact (Nat.le_of_ble_eq_true rfl)), (by rw [hR]; exact (Nat.le_of_ble_eq_true rfl))⟩) hS hP (fun z83 H locs hz83 hP hS => ?_)
          have bz83 := hz83
          refine lv_if_eq (tgt := 92) hx hb dX7_first_86 (by decide) (fun c86 => ?_) (fun c86 => ?_)
          · have t86 := tq_eq (k := z83.toInt) (q := (0)) c86 rfl (by decide +kernel)
            obtain ⟨z92, ez92⟩ : ∃ y : Int32, y = v64_6 + 1 := ⟨_, rfl⟩
            refine lv_iinc (v := z92) (lv' := [(6, .int z92), (0, .ref p0), (1, .int p1), (2, .int p2), (3, .int p3), (4, .int z41), (5, .int z58)]) hx hb dX7_first_92 hl (k := 6) rfl (by rw [ez92]; rfl) (by decide) rfl (fun ls hl => ?_)
            have bz92 := tq_add (k := v64_6.toInt) (q := 1) ez92 rfl (by decide +kernel) (by omega) (by omega)
            refine lv_goto (tgt := 64) hx hb dX7_first_95 (by decide) ?_
            exact ih64 _ (by omega) z92 _ _ _ rfl ⟨by omega, by omega⟩ hP hS (lv_sub hl [1, 2, 3, 4, 5, 6, 0] rfl)
          · have t86 := tq_ne (k := z83.toInt) (q := (0)) c86 rfl (by decide +kernel)
            refine lv_iload hx hb dX7_first_89 (lv_at hl 6 rfl) ?_
            subst hR; subst hQz
            exact W.iret (v := v64_6) hx hb hr (fun t ht hW => ⟨⟨v64_6, (), rfl, trivial, ⟨I, Jz24, ⟨hI, rfl⟩, by rw [ht]; exact hP⟩⟩, hS.F ht⟩) hS.2.2 dX7_first_91)
      exact key64 _ 0 _ _ _ rfl ⟨by decide +kernel, by decide +kernel⟩ hP hS (lv_sub hl [3, 4, 5, 6, 2, 1, 0] rfl)
    · have t18 := tq_eq (k := z15.toInt) (q := (0)) c18 rfl (by decide +kernel)
      refine lv_iconst (v := (-1)) hx hb dX7_first_21 (by decide +kernel) ?_
      subst hR; subst hQz
      exact W.iret (v := (-1)) hx hb hr (fun t ht hW => ⟨⟨(-1), (), rfl, trivial, ⟨I, J, ⟨hI, rfl⟩, by rw [ht]; exact hP⟩⟩, hS.F ht⟩) hS.2.2 dX7_first_22

set_option maxHeartbeats 4000000 in
set_option maxRecDepth 100000 in
theorem s_X7_gap (l : Launch) (dC : Nat → ClassId) (dI : Nat → Nat → Nat) (cs : Nat → ClassId) (L : List Nat) (K G : Nat → Nat) (Q : Nat → Nat → Option Nat) (hQ : Sv L K G Q) (x0 m0 : Nat) (tx : Int32) (tm : Int32 × Int) (sz : Nat) (I : Nat → Nat → Int32) (J : Nat → Nat → Int64) (hI : Iv L K x0 m0 tx tm I) (p0 : Nat) (hLp0 : p0 ∈ L) (hKp0 : K p0 = 7) (p1 : Int32) (p2 : Int32) (p3 : Int32) : Met l yX7_gap (.code yX7_gap cX7_gap 5 (some .int) :: pw) ({ frames := 5, cells := 0, slots := 0, locals := 122 }) (sP (dC, dI) cs [.ref p0, .int p1, .int p2, .int p3] sz L K I J Q) (va_Qi (fun (r : Int32) (_ : Unit) => True) (fun _ t => sB (dC, dI) cs L K Q (fun I1 => Iv L K x0 m0 tx tm I1 ∧ I1 = I) t) (fun q => q ∈ L ∨ sz ≤ q)) 0 0 (fun q => q ∈ L ∨ sz ≤ q) := by
  refine Met.ofW (cc := cX7_gap) (maxL := 5) (ret := (some .int)) (by decide +kernel) rfl ?_
  intro p e s m args below meth c s₁ B hml hv
  obtain ⟨rfl, hsz, hP, hK, hD0, hN⟩ := hv
  have hx := B.exec
  have hb := B.bytes
  have hr := B.returns
  have hts := fun w (h : w ∈ pw) => atoms_spec (ws := Cond.code yX7_gap cX7_gap 5 (some .int) :: pw) B.pre w (List.mem_cons_of_mem _ h)
  have hown : s.vm.findClass RX7 = some m.cls := findClass_of_methodNamed B.named
  have hlocks := B.notSynchronized
  subst hsz
  have hBB : 999 ≤ tm.2 ∧ tm.2 ≤ 6000000 := hI.2.2.2.2
  obtain ⟨A, hAe⟩ : ∃ A : Nat → Prop, A = (fun q => q ∈ L ∨ s.heap.size ≤ q) := ⟨_, rfl⟩
  rw [← hAe]
  have hAL : ∀ q, q ∈ L → A q := fun q h => by rw [hAe]; exact Or.inl h
  have hA : ∀ q, s.heap.size ≤ q → A q := fun q h => by rw [hAe]; exact Or.inr h
  have hD : ∀ F, va_D A (va_pl L F) := fun F => (hD0 F).weaken (fun k q hk _ => hAL _ (pl_mem hk))
  obtain ⟨H, hHe⟩ : ∃ H : Heap, H = s.heap := ⟨_, rfl⟩
  have hS : va_S A s.heap H [] := by rw [hHe]; exact va_S.rf
  rw [← hHe] at hP
  have hl := lv_entry ([.ref p0, .int p1, .int p2, .int p3]) (n := 5) (Nat.le_of_ble_eq_true rfl)
  rw [lg_entry_eq]
  generalize (lg_sl ([.ref p0, .int p1, .int p2, .int p3]) ++ List.replicate (5 - (lg_sl ([.ref p0, .int p1, .int p2, .int p3])).length) Slot.unset).toArray = ls at hl ⊢
  have hl : lv_has ls 5 [(0, .ref p0), (1, .int p1), (2, .int p2), (3, .int p3)] := hl
  rw [← hHe]
  refine namedW (fun R Qz hR hQz => ?_)
  refine lv_aload_n hx hb dX7_gap_0 rfl (lv_at hl 0 rfl) ?_
  refine lv_iload_n hx hb dX7_gap_1 rfl (lv_at hl 1 rfl) ?_
  refine lv_iload_n hx hb dX7_gap_2 rfl (lv_at hl 2 rfl) ?_
  refine ro_i (va_runV (As := [.int p1, .int p2]) (rest := []) ⟨hx, hb, hml, hown, hts⟩ (s_X7_areTwo l dC dI cs L K G Q hQ x0 m0 tx tm H.size I J hI p0 hLp0 hKp0 p1 p2) (cwV 2 hts (gV pq1571 pq1573 pq62 pq81 pq1574) rfl rfl rfl (by decide +kernel) ⟨(by rw [hR]; exact (Nat.le_of_ble_eq_true rfl)), (by rw [hR]; exact (Nat.le_of_ble_eq_true rfl))⟩) (sP_V hP hD hK hN hLp0 hKp0 rfl rfl) rfl rfl hl.1 rfl (lv_room (Nat.le_of_ble_eq_true rfl)) dX7_gap_3 ⟨(by rw [hR]; exact (Nat.le_of_ble_eq_true rfl)), (by rw [hR]; exact (Nat.le_of_ble_eq_true rfl))⟩) hS hP (fun z3 H locs hz3 hP hS => ?_)
  obtain ⟨bz3, imz3⟩ := hz3
  refine lv_if_eq (tgt := 21) hx hb dX7_gap_6 (by decide) (fun c6 => ?_) (fun c6 => ?_)
  · have t6 := tq_eq (k := z3.toInt) (q := (0)) c6 rfl (by decide +kernel)
    refine lv_iconst (v := (-1)) hx hb dX7_gap_21 (by decide +kernel) ?_
    subst hR; subst hQz
    exact W.iret (v := (-1)) hx hb hr (fun t ht hW => ⟨⟨(-1), (), rfl, trivial, ⟨I, J, ⟨hI, rfl⟩, by rw [ht]; exact hP⟩⟩, hS.F ht⟩) hS.2.2 dX7_gap_22
  · have t6 := tq_ne (k := z3.toInt) (q := (0)) c6 rfl (by decide +kernel)
    have i6 := imz3 t6
    refine lv_iload_n hx hb dX7_gap_9 rfl (lv_at hl 3 rfl) ?_
    refine lv_i2l hx hb dX7_gap_10 rfl ?_
    refine lv_topl (fun z10 ez10 => ?_)
    have bz10 := tq_i2l (k := p3.toInt) ez10 rfl
    refine lv_lconst (v := 0) hx hb dX7_gap_11 (by decide +kernel) ?_
    refine lv_ldc2 hx hb hown (hts _ pq1344) dX7_gap_12 ?_
    refine ro_i (va_runS (As := [.long z10, .long 0, .long 3]) (rest := []) ⟨hx, hb, hml, hown, hts⟩ (s_X7_in l dC dI cs L K Q H.size I J z10 0 3) (va_cwS 3 hts (gS pq1234 pq1235 pq81 pq1236) rfl rfl rfl (by decide +kernel) ⟨(by rw [hR]; exact (Nat.le_of_ble_eq_true rfl)), (by rw [hR]; exact (Nat.le_of_ble_eq_true rfl))⟩) (sP_S hP hD hK hN) rfl rfl hl.1 rfl (lv_room (Nat.le_of_ble_eq_true rfl)) dX7_gap_15 ⟨(by rw [hR]; exact (Nat.le_of_ble_eq_true rfl)), (by rw [hR]; exact (Nat.le_of_ble_eq_true rfl))⟩) hS hP (fun z15 H locs hz15 hP hS => ?_)
    have csl15_0 : (0 : Int64).toInt = 0 := by decide +kernel
    have csl15_3 : (3 : Int64).toInt = 3 := by decide +kernel
    obtain ⟨bz15, imz15⟩ := hz15
    refine lv_if_ne (tgt := 23) hx hb dX7_gap_18 (by decide) (fun c18 => ?_) (fun c18 => ?_)
    · have t18 := tq_ne (k := z15.toInt) (q := (0)) c18 rfl (by decide +kernel)
      have i18 := imz15 t18
      refine lv_aload_n hx hb dX7_gap_23 rfl (lv_at hl 0 rfl) ?_
      refine sw_v (Z := (fun I1 => Iv L K x0 m0 tx tm I1 ∧ I1 = I)) (va_runV (As := []) (rest := []) ⟨hx, hb, hml, hown, hts⟩ (s_X7_laysAll l dC dI cs L K G Q hQ x0 m0 tx tm H.size I J hI p0 hLp0 hKp0) (cwV 0 hts (gV pq1427 pq1429 pq40 pq81 pq1430) rfl rfl rfl (by decide +kernel) ⟨(by rw [hR]; exact (Nat.le_of_ble_eq_true rfl)), (by rw [hR]; exact (Nat.le_of_ble_eq_true rfl))⟩) (sP_V hP hD hK hN hLp0 hKp0 rfl rfl) rfl rfl hl.1 rfl (lv_room (Nat.le_of_ble_eq_true rfl)) dX7_gap_24 ⟨(by rw [hR]; exact (Nat.le_of_ble_eq_true rfl)), (by rw [hR]; exact (Nat.le_of_ble_eq_true rfl))⟩) hS hAL hA (fun Iz24 Jz24 H locs hz24 hIz24 hP hS => ?_)
      obtain ⟨hIz24x, rfl⟩ : Iv L K x0 m0 tx tm Iz24 ∧ I = Iz24 := ⟨hIz24.1, hIz24.2.symm⟩
      refine lv_iconst (v := 0) hx hb dX7_gap_27 (by decide +kernel) ?_
      refine lv_istore (lv' := [(4, .int 0), (0, .ref p0), (1, .int p1), (2, .int p2), (3, .int p3)]) hx hb dX7_gap_28 hl (by decide) rfl (fun ls hl => ?_)
      have key30 := blocks (fun n => ∀ (v30_4 : Int32) (H : Heap) (lo : List Loc) (ls : Array Slot), (502 - v30_4.toInt).toNat = n → ((0) ≤ v30_4.toInt ∧ v30_4.toInt ≤ 501) → va_P (dC, dI) vwCl (Wd cs L K I Jz24 Q) H → va_S A s.heap H lo → lv_has ls 5 [(0, .ref p0), (1, .int p1), (2, .int p2), (3, .int p3), (4, .int v30_4)] → W p l e R s m (([.ref p0, .int p1, .int p2, .int p3] : List Value).toArray) below meth c H lo 0 0 Qz (F0 m 30 ls [])) (by
        intro n ih30
        intro v30_4 H lo ls hmu30 bv30_4 hP hS hl
        refine lv_iload hx hb dX7_gap_30 (lv_at hl 4 rfl) ?_
        refine lv_sipush (v := 500) hx hb dX7_gap_32 (by decide +kernel) ?_
        refine lv_icmp_gt (tgt := 99) hx hb dX7_gap_35 (by decide) (fun c35 => ?_) (fun c35 => ?_)
        · have t35 := tq_lt (k := (500)) (q := v30_4.toInt) c35 (by decide +kernel) rfl
          refine lv_bipush (v := (-2)) hx hb dX7_gap_99 (by decide +kernel) ?_
          subst hR; subst hQz
          exact W.iret (v := (-2)) hx hb hr (fun t ht hW => ⟨⟨(-2), (), rfl, trivial, ⟨I, Jz24, ⟨hI, rfl⟩, by rw [ht]; exact hP⟩⟩, hS.F ht⟩) hS.2.2 dX7_gap_101
        · have t35 := tq_nlt (k := (500)) (q := v30_4.toInt) c35 (by decide +kernel) rfl
          refine lv_aload_n hx hb dX7_gap_38 rfl (lv_at hl 0 rfl) ?_
          refine lv_iload_n hx hb dX7_gap_39 rfl (lv_at hl 1 rfl) ?_
          refine lv_iload_n hx hb dX7_gap_40 rfl (lv_at hl 2 rfl) ?_
          refine lv_iload_n hx hb dX7_gap_41 rfl (lv_at hl 3 rfl) ?_
          have j62 : ∀ (w62_3 : Int32) (H : Heap) (lo : List Loc) (ls : Array Slot), ((-500) ≤ w62_3.toInt ∧ w62_3.toInt ≤ 500) → va_P (dC, dI) vwCl (Wd cs L K I Jz24 Q) H → va_S A s.heap H lo → lv_has ls 5 [(0, .ref p0), (1, .int p1), (2, .int p2), (3, .int p3), (4, .int v30_4)] → W p l e R s m (([.ref p0, .int p1, .int p2, .int p3] : List Value).toArray) below meth c H lo 0 0 Qz (F0 m 62 ls [.int w62_3, .int p2, .int p1, .ref p0]) := by
            intro w62_3 H lo ls bw62_3 hP hS hl
            refine lv_iload_n hx hb dX7_gap_62 rfl (lv_at hl 3 rfl) ?_
            refine lv_iconst (v := 2) hx hb dX7_gap_63 (by decide +kernel) ?_
            have j84 : ∀ (w84_4 : Int32) (H : Heap) (lo : List Loc) (ls : Array Slot), ((-500) ≤ w84_4.toInt ∧ w84_4.toInt ≤ 500) → va_P (dC, dI) vwCl (Wd cs L K I Jz24 Q) H → va_S A s.heap H lo → lv_has ls 5 [(0, .ref p0), (1, .int p1), (2, .int p2), (3, .int p3), (4, .int v30_4)] → W p l e R s m (([.ref p0, .int p1, .int p2, .int p3] : List Value).toArray) below meth c H lo 0 0 Qz (F0 m 84 ls [.int w84_4, .int w62_3, .int p2, .int p1, .ref p0]) := by
              intro w84_4 H lo ls bw84_4 hP hS hl
              refine ro_i (va_runV (As := [.int p1, .int p2, .int w62_3, .int w84_4]) (rest := []) ⟨hx, hb, hml, hown, hts⟩ (s_X7_touches l dC dI cs L K G Q hQ x0 m0 tx tm H.size I Jz24 hI p0 hLp0 hKp0 p1 ⟨by omega, by omega⟩ p2 ⟨by omega, by omega⟩ w62_3 w84_4 ⟨by omega, by omega⟩) (cwV 4 hts (gV pq1448 pq1450 pq44 pq81 pq1451) rfl rfl rfl (by decide +kernel) ⟨(by rw [hR]; exact (Nat.le_of_ble_eq_true rfl)), (by rw [hR]; exact (Nat.le_of_ble_eq_true rfl))⟩) (sP_V hP hD hK hN hLp0 hKp0 rfl rfl) rfl rfl hl.1 rfl (lv_room (Nat.le_of_ble_eq_true rfl)) dX7_gap_84 ⟨(by rw [hR]; exact (Nat.le_of_ble_eq_true rfl)), (by rw [hR]; exact (Nat.le_of_ble_eq_true rfl))⟩) hS hP (fun z84 H locs hz84 hP hS => ?_)
              have bz84 := hz84
              refine lv_if_eq (tgt := 93) hx hb dX7_gap_87 (by decide) (fun c87 => ?_) (fun c87 => ?_)
              · have t87 := tq_eq (k := z84.toInt) (q := (0)) c87 rfl (by decide +kernel)
                obtain ⟨z93, ez93⟩ : ∃ y : Int32, y = v30_4 + 1 := ⟨_, rfl⟩
                refine lv_iinc (v := z93) (lv' := [(4, .int z93), (0, .ref p0), (1, .int p1), (2, .int p2), (3, .int p3)]) hx hb dX7_gap_93 hl (k := 4) rfl (by rw [ez93]; rfl) (by decide) rfl (fun ls hl => ?_)
                have bz93 := tq_add (k := v30_4.toInt) (q := 1) ez93 rfl (by decide +kernel) (by omega) (by omega)
                refine lv_goto (tgt := 30) hx hb dX7_gap_96 (by decide) ?_
                exact ih30 _ (by omega) z93 _ _ _ rfl ⟨by omega, by omega⟩ hP hS (lv_sub hl [1, 2, 3, 4, 0] rfl)
              · have t87 := tq_ne (k := z84.toInt) (q := (0)) c87 rfl (by decide +kernel)
                refine lv_iload hx hb dX7_gap_90 (lv_at hl 4 rfl) ?_
                subst hR; subst hQz
                exact W.iret (v := v30_4) hx hb hr (fun t ht hW => ⟨⟨v30_4, (), rfl, trivial, ⟨I, Jz24, ⟨hI, rfl⟩, by rw [ht]; exact hP⟩⟩, hS.F ht⟩) hS.2.2 dX7_gap_92
            refine lv_icmp_ne (tgt := 72) hx hb dX7_gap_64 (by decide) (fun c64 => ?_) (fun c64 => ?_)
            · have t64 := tq_ne (k := p3.toInt) (q := (2)) c64 rfl (by decide +kernel)
              refine lv_iload_n hx hb dX7_gap_72 rfl (lv_at hl 3 rfl) ?_
              refine lv_iconst (v := 3) hx hb dX7_gap_73 (by decide +kernel) ?_
              refine lv_icmp_ne (tgt := 83) hx hb dX7_gap_74 (by decide) (fun c74 => ?_) (fun c74 => ?_)
              · have t74 := tq_ne (k := p3.toInt) (q := (3)) c74 rfl (by decide +kernel)
                refine lv_iconst (v := 0) hx hb dX7_gap_83 (by decide +kernel) ?_
                exact j84 0 _ _ _ ⟨by decide +kernel, by decide +kernel⟩ hP hS (lv_sub hl [0, 1, 2, 3, 4] rfl)
              · have t74 := tq_eq (k := p3.toInt) (q := (3)) c74 rfl (by decide +kernel)
                refine lv_iload hx hb dX7_gap_77 (lv_at hl 4 rfl) ?_
                refine lv_ineg hx hb dX7_gap_79 ?_
                refine lv_topi (fun z79 ez79 => ?_)
                have bz79 := tq_neg (k := v30_4.toInt) ez79 rfl (by omega) (by omega)
                refine lv_goto (tgt := 84) hx hb dX7_gap_80 (by decide) ?_
                exact j84 z79 _ _ _ ⟨by omega, by omega⟩ hP hS (lv_sub hl [0, 1, 2, 3, 4] rfl)
            · have t64 := tq_eq (k := p3.toInt) (q := (2)) c64 rfl (by decide +kernel)
              refine lv_iload hx hb dX7_gap_67 (lv_at hl 4 rfl) ?_
              refine lv_goto (tgt := 84) hx hb dX7_gap_69 (by decide) ?_
              exact j84 v30_4 _ _ _ ⟨by omega, by omega⟩ hP hS (lv_sub hl [0, 1, 2, 3, 4] rfl)
          refine lv_if_ne (tgt := 50) hx hb dX7_gap_42 (by decide) (fun c42 => ?_) (fun c42 => ?_)
          · have t42 := tq_ne (k := p3.toInt) (q := (0)) c42 rfl (by decide +kernel)
            refine lv_iload_n hx hb dX7_gap_50 rfl (lv_at hl 3 rfl) ?_
            refine lv_iconst (v := 1) hx hb dX7_gap_51 (by decide +kernel) ?_
            refine lv_icmp_ne (tgt := 61) hx hb dX7_gap_52 (by decide) (fun c52 => ?_) (fun c52 => ?_)
            · have t52 := tq_ne (k := p3.toInt) (q := (1)) c52 rfl (by decide +kernel)
              refine lv_iconst (v := 0) hx hb dX7_gap_61 (by decide +kernel) ?_
              exact j62 0 _ _ _ ⟨by decide +kernel, by decide +kernel⟩ hP hS (lv_sub hl [0, 1, 2, 3, 4] rfl)
            · have t52 := tq_eq (k := p3.toInt) (q := (1)) c52 rfl (by decide +kernel)
              refine lv_iload hx hb dX7_gap_55 (lv_at hl 4 rfl) ?_
              refine lv_ineg hx hb dX7_gap_57 ?_
              refine lv_topi (fun z57 ez57 => ?_)
              have bz57 := tq_neg (k := v30_4.toInt) ez57 rfl (by omega) (by omega)
              refine lv_goto (tgt := 62) hx hb dX7_gap_58 (by decide) ?_
              exact j62 z57 _ _ _ ⟨by omega, by omega⟩ hP hS (lv_sub hl [0, 1, 2, 3, 4] rfl)
          · have t42 := tq_eq (k := p3.toInt) (q := (0)) c42 rfl (by decide +kernel)
            refine lv_iload hx hb dX7_gap_45 (lv_at hl 4 rfl) ?_
            refine lv_goto (tgt := 62) hx hb dX7_gap_47 (by decide) ?_
            exact j62 v30_4 _ _ _ ⟨by omega, by omega⟩ hP hS (lv_sub hl [0, 1, 2, 3, 4] rfl))
      exact key30 _ 0 _ _ _ rfl ⟨by decide +kernel, by decide +kernel⟩ hP hS (lv_sub hl [1, 2, 3, 4, 0] rfl)
    · have t18 := tq_eq (k := z15.toInt) (q := (0)) c18 rfl (by decide +kernel)
      refine lv_iconst (v := (-1)) hx hb dX7_gap_21 (by decide +kernel) ?_
      subst hR; subst hQz
      exact W.iret (v := (-1)) hx hb hr (fun t ht hW => ⟨⟨(-1), (), rfl, trivial, ⟨I, J, ⟨hI, rfl⟩, by rw [ht]; exact hP⟩⟩, hS.F ht⟩) hS.2.2 dX7_gap_22

set_option maxHeartbeats 4000000 in
set_option maxRecDepth 100000 in
theorem s_X7_slope (l : Launch) (dC : Nat → ClassId) (dI : Nat → Nat → Nat) (cs : Nat → ClassId) (L : List Nat) (K G : Nat → Nat) (Q : Nat → Nat → Option Nat) (hQ : Sv L K G Q) (x0 m0 : Nat) (tx : Int32) (tm : Int32 × Int) (sz : Nat) (I : Nat → Nat → Int32) (J : Nat → Nat → Int64) (hI : Iv L K x0 m0 tx tm I) (p0 : Nat) (hLp0 : p0 ∈ L) (hKp0 : K p0 = 7) (p1 : Int32) (p2 : Int32) (p3 : Int32) : Met l yX7_slope (.code yX7_slope cX7_slope 4 (some .int) :: pw) ({ frames := 4, cells := 0, slots := 0, locals := 98 }) (sP (dC, dI) cs [.ref p0, .int p1, .int p2, .int p3] sz L K I J Q) (va_Qi (fun (r : Int32) (_ : Unit) => True) (fun _ t => sB (dC, dI) cs L K Q (fun I1 => Iv L K x0 m0 tx tm I1 ∧ I1 = I) t) (fun q => q ∈ L ∨ sz ≤ q)) 0 0 (fun q => q ∈ L ∨ sz ≤ q) := by
  refine Met.ofW (cc := cX7_slope) (maxL := 4) (ret := (some .int)) (by decide +kernel) rfl ?_
  intro p e s m args below meth c s₁ B hml hv
  obtain ⟨rfl, hsz, hP, hK, hD0, hN⟩ := hv
  have hx := B.exec
  have hb := B.bytes
  have hr := B.returns
  have hts := fun w (h : w ∈ pw) => atoms_spec (ws := Cond.code yX7_slope cX7_slope 4 (some .int) :: pw) B.pre w (List.mem_cons_of_mem _ h)
  have hown : s.vm.findClass RX7 = some m.cls := findClass_of_methodNamed B.named
  have hlocks := B.notSynchronized
  subst hsz
  have hBB : 999 ≤ tm.2 ∧ tm.2 ≤ 6000000 := hI.2.2.2.2
  obtain ⟨A, hAe⟩ : ∃ A : Nat → Prop, A = (fun q => q ∈ L ∨ s.heap.size ≤ q) := ⟨_, rfl⟩
  rw [← hAe]
  have hAL : ∀ q, q ∈ L → A q := fun q h => by rw [hAe]; exact Or.inl h
  have hA : ∀ q, s.heap.size ≤ q → A q := fun q h => by rw [hAe]; exact Or.inr h
  have hD : ∀ F, va_D A (va_pl L F) := fun F => (hD0 F).weaken (fun k q hk _ => hAL _ (pl_mem hk))
  obtain ⟨H, hHe⟩ : ∃ H : Heap, H = s.heap := ⟨_, rfl⟩
  have hS : va_S A s.heap H [] := by rw [hHe]; exact va_S.rf
  rw [← hHe] at hP
  have hl := lv_entry ([.ref p0, .int p1, .int p2, .int p3]) (n := 4) (Nat.le_of_ble_eq_true rfl)
  rw [lg_entry_eq]
  generalize (lg_sl ([.ref p0, .int p1, .int p2, .int p3]) ++ List.replicate (4 - (lg_sl ([.ref p0, .int p1, .int p2, .int p3])).length) Slot.unset).toArray = ls at hl ⊢
  have hl : lv_has ls 4 [(0, .ref p0), (1, .int p1), (2, .int p2), (3, .int p3)] := hl
  rw [← hHe]
  refine namedW (fun R Qz hR hQz => ?_)
  refine lv_aload_n hx hb dX7_slope_0 rfl (lv_at hl 0 rfl) ?_
  refine lv_iload_n hx hb dX7_slope_1 rfl (lv_at hl 1 rfl) ?_
  refine lv_iload_n hx hb dX7_slope_2 rfl (lv_at hl 2 rfl) ?_
  refine ro_i (va_runV (As := [.int p1, .int p2]) (rest := []) ⟨hx, hb, hml, hown, hts⟩ (s_X7_areTwo l dC dI cs L K G Q hQ x0 m0 tx tm H.size I J hI p0 hLp0 hKp0 p1 p2) (cwV 2 hts (gV pq1571 pq1573 pq62 pq81 pq1574) rfl rfl rfl (by decide +kernel) ⟨(by rw [hR]; exact (Nat.le_of_ble_eq_true rfl)), (by rw [hR]; exact (Nat.le_of_ble_eq_true rfl))⟩) (sP_V hP hD hK hN hLp0 hKp0 rfl rfl) rfl rfl hl.1 rfl (lv_room (Nat.le_of_ble_eq_true rfl)) dX7_slope_3 ⟨(by rw [hR]; exact (Nat.le_of_ble_eq_true rfl)), (by rw [hR]; exact (Nat.le_of_ble_eq_true rfl))⟩) hS hP (fun z3 H locs hz3 hP hS => ?_)
  obtain ⟨bz3, imz3⟩ := hz3
  refine lv_if_eq (tgt := 19) hx hb dX7_slope_6 (by decide) (fun c6 => ?_) (fun c6 => ?_)
  · have t6 := tq_eq (k := z3.toInt) (q := (0)) c6 rfl (by decide +kernel)
    refine lv_ldcw hx hb hown (hts _ pq1641) dX7_slope_19 ?_
    subst hR; subst hQz
    exact W.iret (v := (-2000000)) hx hb hr (fun t ht hW => ⟨⟨(-2000000), (), rfl, trivial, ⟨I, J, ⟨hI, rfl⟩, by rw [ht]; exact hP⟩⟩, hS.F ht⟩) hS.2.2 dX7_slope_22
  · have t6 := tq_ne (k := z3.toInt) (q := (0)) c6 rfl (by decide +kernel)
    have i6 := imz3 t6
    refine lv_iload_n hx hb dX7_slope_9 rfl (lv_at hl 3 rfl) ?_
    refine lv_i2l hx hb dX7_slope_10 rfl ?_
    refine lv_topl (fun z10 ez10 => ?_)
    have bz10 := tq_i2l (k := p3.toInt) ez10 rfl
    refine lv_lconst (v := 0) hx hb dX7_slope_11 (by decide +kernel) ?_
    refine lv_lconst (v := 1) hx hb dX7_slope_12 (by decide +kernel) ?_
    refine ro_i (va_runS (As := [.long z10, .long 0, .long 1]) (rest := []) ⟨hx, hb, hml, hown, hts⟩ (s_X7_in l dC dI cs L K Q H.size I J z10 0 1) (va_cwS 3 hts (gS pq1234 pq1235 pq81 pq1236) rfl rfl rfl (by decide +kernel) ⟨(by rw [hR]; exact (Nat.le_of_ble_eq_true rfl)), (by rw [hR]; exact (Nat.le_of_ble_eq_true rfl))⟩) (sP_S hP hD hK hN) rfl rfl hl.1 rfl (lv_room (Nat.le_of_ble_eq_true rfl)) dX7_slope_13 ⟨(by rw [hR]; exact (Nat.le_of_ble_eq_true rfl)), (by rw [hR]; exact (Nat.le_of_ble_eq_true rfl))⟩) hS hP (fun z13 H locs hz13 hP hS => ?_)
    have csl13_0 : (0 : Int64).toInt = 0 := by decide +kernel
    have csl13_1 : (1 : Int64).toInt = 1 := by decide +kernel
    obtain ⟨bz13, imz13⟩ := hz13
    refine lv_if_ne (tgt := 23) hx hb dX7_slope_16 (by decide) (fun c16 => ?_) (fun c16 => ?_)
    · have t16 := tq_ne (k := z13.toInt) (q := (0)) c16 rfl (by decide +kernel)
      have i16 := imz13 t16
      refine lv_aload_n hx hb dX7_slope_23 rfl (lv_at hl 0 rfl) ?_
      refine sw_v (Z := (fun I1 => Iv L K x0 m0 tx tm I1 ∧ I1 = I)) (va_runV (As := []) (rest := []) ⟨hx, hb, hml, hown, hts⟩ (s_X7_laysAll l dC dI cs L K G Q hQ x0 m0 tx tm H.size I J hI p0 hLp0 hKp0) (cwV 0 hts (gV pq1427 pq1429 pq40 pq81 pq1430) rfl rfl rfl (by decide +kernel) ⟨(by rw [hR]; exact (Nat.le_of_ble_eq_true rfl)), (by rw [hR]; exact (Nat.le_of_ble_eq_true rfl))⟩) (sP_V hP hD hK hN hLp0 hKp0 rfl rfl) rfl rfl hl.1 rfl (lv_room (Nat.le_of_ble_eq_true rfl)) dX7_slope_24 ⟨(by rw [hR]; exact (Nat.le_of_ble_eq_true rfl)), (by rw [hR]; exact (Nat.le_of_ble_eq_true rfl))⟩) hS hAL hA (fun Iz24 Jz24 H locs hz24 hIz24 hP hS => ?_)
      obtain ⟨hIz24x, rfl⟩ : Iv L K x0 m0 tx tm Iz24 ∧ I = Iz24 := ⟨hIz24.1, hIz24.2.symm⟩
      refine lv_iload_n hx hb dX7_slope_27 rfl (lv_at hl 3 rfl) ?_
      refine lv_if_ne (tgt := 51) hx hb dX7_slope_28 (by decide) (fun c28 => ?_) (fun c28 => ?_)
      · have t28 := tq_ne (k := p3.toInt) (q := (0)) c28 rfl (by decide +kernel)
        refine lv_aload_n hx hb dX7_slope_51 rfl (lv_at hl 0 rfl) ?_
        refine lv_iload_n hx hb dX7_slope_52 rfl (lv_at hl 1 rfl) ?_
        refine lv_iload_n hx hb dX7_slope_53 rfl (lv_at hl 2 rfl) ?_
        refine lv_iconst (v := 0) hx hb dX7_slope_54 (by decide +kernel) ?_
        refine lv_iconst (v := 1) hx hb dX7_slope_55 (by decide +kernel) ?_
        refine ro_i (va_runV (As := [.int p1, .int p2, .int 0, .int 1]) (rest := []) ⟨hx, hb, hml, hown, hts⟩ (s_X7_commonBy l dC dI cs L K G Q hQ x0 m0 tx tm H.size I Jz24 hI p0 hLp0 hKp0 p1 ⟨by omega, by omega⟩ p2 ⟨by omega, by omega⟩ 0 1 ⟨by decide +kernel, by decide +kernel⟩) (cwV 4 hts (gV pq1575 pq1577 pq63 pq81 pq1578) rfl rfl rfl (by decide +kernel) ⟨(by rw [hR]; exact (Nat.le_of_ble_eq_true rfl)), (by rw [hR]; exact (Nat.le_of_ble_eq_true rfl))⟩) (sP_V hP hD hK hN hLp0 hKp0 rfl rfl) rfl rfl hl.1 rfl (lv_room (Nat.le_of_ble_eq_true rfl)) dX7_slope_56 ⟨(by rw [hR]; exact (Nat.le_of_ble_eq_true rfl)), (by rw [hR]; exact (Nat.le_of_ble_eq_true rfl))⟩) hS hP (fun z56 H locs hz56 hP hS => ?_)
        refine lv_aload_n hx hb dX7_slope_59 rfl (lv_at hl 0 rfl) ?_
        refine lv_iload_n hx hb dX7_slope_60 rfl (lv_at hl 1 rfl) ?_
        refine lv_iload_n hx hb dX7_slope_61 rfl (lv_at hl 2 rfl) ?_
        refine lv_iconst (v := 0) hx hb dX7_slope_62 (by decide +kernel) ?_
        refine lv_iconst (v := (-1)) hx hb dX7_slope_63 (by decide +kernel) ?_
        refine ro_i (va_runV (As := [.int p1, .int p2, .int 0, .int (-1)]) (rest := [.int z56]) ⟨hx, hb, hml, hown, hts⟩ (s_X7_commonBy l dC dI cs L K G Q hQ x0 m0 tx tm H.size I Jz24 hI p0 hLp0 hKp0 p1 ⟨by omega, by omega⟩ p2 ⟨by omega, by omega⟩ 0 (-1) ⟨by decide +kernel, by decide +kernel⟩) (cwV 4 hts (gV pq1575 pq1577 pq63 pq81 pq1578) rfl rfl rfl (by decide +kernel) ⟨(by rw [hR]; exact (Nat.le_of_ble_eq_true rfl)), (by rw [hR]; exact (Nat.le_of_ble_eq_true rfl))⟩) (sP_V hP hD hK hN hLp0 hKp0 rfl rfl) rfl rfl hl.1 rfl (lv_room (Nat.le_of_ble_eq_true rfl)) dX7_slope_64 ⟨(by rw [hR]; exact (Nat.le_of_ble_eq_true rfl)), (by rw [hR]; exact (Nat.le_of_ble_eq_true rfl))⟩) hS hP (fun z64 H locs hz64 hP hS => ?_)
        refine lv_isub hx hb dX7_slope_67 ?_
        refine lv_topi (fun z67 ez67 => ?_)
        subst hR; subst hQz
        exact W.iret (v := z67) hx hb hr (fun t ht hW => ⟨⟨z67, (), rfl, trivial, ⟨I, Jz24, ⟨hI, rfl⟩, by rw [ht]; exact hP⟩⟩, hS.F ht⟩) hS.2.2 dX7_slope_68
      · have t28 := tq_eq (k := p3.toInt) (q := (0)) c28 rfl (by decide +kernel)
        refine lv_aload_n hx hb dX7_slope_31 rfl (lv_at hl 0 rfl) ?_
        refine lv_iload_n hx hb dX7_slope_32 rfl (lv_at hl 1 rfl) ?_
        refine lv_iload_n hx hb dX7_slope_33 rfl (lv_at hl 2 rfl) ?_
        refine lv_iconst (v := 1) hx hb dX7_slope_34 (by decide +kernel) ?_
        refine lv_iconst (v := 0) hx hb dX7_slope_35 (by decide +kernel) ?_
        refine ro_i (va_runV (As := [.int p1, .int p2, .int 1, .int 0]) (rest := []) ⟨hx, hb, hml, hown, hts⟩ (s_X7_commonBy l dC dI cs L K G Q hQ x0 m0 tx tm H.size I Jz24 hI p0 hLp0 hKp0 p1 ⟨by omega, by omega⟩ p2 ⟨by omega, by omega⟩ 1 0 ⟨by decide +kernel, by decide +kernel⟩) (cwV 4 hts (gV pq1575 pq1577 pq63 pq81 pq1578) rfl rfl rfl (by decide +kernel) ⟨(by rw [hR]; exact (Nat.le_of_ble_eq_true rfl)), (by rw [hR]; exact (Nat.le_of_ble_eq_true rfl))⟩) (sP_V hP hD hK hN hLp0 hKp0 rfl rfl) rfl rfl hl.1 rfl (lv_room (Nat.le_of_ble_eq_true rfl)) dX7_slope_36 ⟨(by rw [hR]; exact (Nat.le_of_ble_eq_true rfl)), (by rw [hR]; exact (Nat.le_of_ble_eq_true rfl))⟩) hS hP (fun z36 H locs hz36 hP hS => ?_)
        refine lv_aload_n hx hb dX7_slope_39 rfl (lv_at hl 0 rfl) ?_
        refine lv_iload_n hx hb dX7_slope_40 rfl (lv_at hl 1 rfl) ?_
        refine lv_iload_n hx hb dX7_slope_41 rfl (lv_at hl 2 rfl) ?_
        refine lv_iconst (v := (-1)) hx hb dX7_slope_42 (by decide +kernel) ?_
        refine lv_iconst (v := 0) hx hb dX7_slope_43 (by decide +kernel) ?_
        refine ro_i (va_runV (As := [.int p1, .int p2, .int (-1), .int 0]) (rest := [.int z36]) ⟨hx, hb, hml, hown, hts⟩ (s_X7_commonBy l dC dI cs L K G Q hQ x0 m0 tx tm H.size I Jz24 hI p0 hLp0 hKp0 p1 ⟨by omega, by omega⟩ p2 ⟨by omega, by omega⟩ (-1) 0 ⟨by decide +kernel, by decide +kernel⟩) (cwV 4 hts (gV pq1575 pq1577 pq63 pq81 pq1578) rfl rfl rfl (by decide +kernel) ⟨(by rw [hR]; exact (Nat.le_of_ble_eq_true rfl)), (by rw [hR]; exact (Nat.le_of_ble_eq_true rfl))⟩) (sP_V hP hD hK hN hLp0 hKp0 rfl rfl) rfl rfl hl.1 rfl (lv_room (Nat.le_of_ble_eq_true rfl)) dX7_slope_44 ⟨(by rw [hR]; exact (Nat.le_of_ble_eq_true rfl)), (by rw [hR]; exact (Nat.le_of_ble_eq_true rfl))⟩) hS hP (fun z44 H locs hz44 hP hS => ?_)
        refine lv_isub hx hb dX7_slope_47 ?_
        refine lv_topi (fun z47 ez47 => ?_)
        refine lv_goto (tgt := 68) hx hb dX7_slope_48 (by decide) ?_
        subst hR; subst hQz
        exact W.iret (v := z47) hx hb hr (fun t ht hW => ⟨⟨z47, (), rfl, trivial, ⟨I, Jz24, ⟨hI, rfl⟩, by rw [ht]; exact hP⟩⟩, hS.F ht⟩) hS.2.2 dX7_slope_68
    · have t16 := tq_eq (k := z13.toInt) (q := (0)) c16 rfl (by decide +kernel)
      refine lv_ldcw hx hb hown (hts _ pq1641) dX7_slope_19 ?_
      subst hR; subst hQz
      exact W.iret (v := (-2000000)) hx hb hr (fun t ht hW => ⟨⟨(-2000000), (), rfl, trivial, ⟨I, J, ⟨hI, rfl⟩, by rw [ht]; exact hP⟩⟩, hS.F ht⟩) hS.2.2 dX7_slope_22

set_option maxHeartbeats 4000000 in
set_option maxRecDepth 100000 in
theorem s_X7_best (l : Launch) (dC : Nat → ClassId) (dI : Nat → Nat → Nat) (cs : Nat → ClassId) (L : List Nat) (K G : Nat → Nat) (Q : Nat → Nat → Option Nat) (hQ : Sv L K G Q) (x0 m0 : Nat) (tx : Int32) (tm : Int32 × Int) (sz : Nat) (I : Nat → Nat → Int32) (J : Nat → Nat → Int64) (hI : Iv L K x0 m0 tx tm I) (p0 : Nat) (hLp0 : p0 ∈ L) (hKp0 : K p0 = 7) (p1 : Int32) (p2 : Int32) (p3 : Int32) : Met l yX7_best (.code yX7_best cX7_best 10 (some .int) :: pw) ({ frames := 4, cells := 0, slots := 0, locals := 98 }) (sP (dC, dI) cs [.ref p0, .int p1, .int p2, .int p3] sz L K I J Q) (va_Qi (fun (r : Int32) (_ : Unit) => True) (fun _ t => sB (dC, dI) cs L K Q (fun I1 => Iv L K x0 m0 tx tm I1 ∧ I1 = I) t) (fun q => q ∈ L ∨ sz ≤ q)) 0 0 (fun q => q ∈ L ∨ sz ≤ q) := by
  refine Met.ofW (cc := cX7_best) (maxL := 10) (ret := (some .int)) (by decide +kernel) rfl ?_
  intro p e s m args below meth c s₁ B hml hv
  obtain ⟨rfl, hsz, hP, hK, hD0, hN⟩ := hv
  have hx := B.exec
  have hb := B.bytes
  have hr := B.returns
  have hts := fun w (h : w ∈ pw) => atoms_spec (ws := Cond.code yX7_best cX7_best 10 (some .int) :: pw) B.pre w (List.mem_cons_of_mem _ h)
  have hown : s.vm.findClass RX7 = some m.cls := findClass_of_methodNamed B.named
  have hlocks := B.notSynchronized
  subst hsz
  have hBB : 999 ≤ tm.2 ∧ tm.2 ≤ 6000000 := hI.2.2.2.2
  obtain ⟨A, hAe⟩ : ∃ A : Nat → Prop, A = (fun q => q ∈ L ∨ s.heap.size ≤ q) := ⟨_, rfl⟩
  rw [← hAe]
  have hAL : ∀ q, q ∈ L → A q := fun q h => by rw [hAe]; exact Or.inl h
  have hA : ∀ q, s.heap.size ≤ q → A q := fun q h => by rw [hAe]; exact Or.inr h
  have hD : ∀ F, va_D A (va_pl L F) := fun F => (hD0 F).weaken (fun k q hk _ => hAL _ (pl_mem hk))
  obtain ⟨H, hHe⟩ : ∃ H : Heap, H = s.heap := ⟨_, rfl⟩
  have hS : va_S A s.heap H [] := by rw [hHe]; exact va_S.rf
  rw [← hHe] at hP
  have hl := lv_entry ([.ref p0, .int p1, .int p2, .int p3]) (n := 10) (Nat.le_of_ble_eq_true rfl)
  rw [lg_entry_eq]
  generalize (lg_sl ([.ref p0, .int p1, .int p2, .int p3]) ++ List.replicate (10 - (lg_sl ([.ref p0, .int p1, .int p2, .int p3])).length) Slot.unset).toArray = ls at hl ⊢
  have hl : lv_has ls 10 [(0, .ref p0), (1, .int p1), (2, .int p2), (3, .int p3)] := hl
  rw [← hHe]
  refine namedW (fun R Qz hR hQz => ?_)
  refine lv_aload_n hx hb dX7_best_0 rfl (lv_at hl 0 rfl) ?_
  refine lv_iload_n hx hb dX7_best_1 rfl (lv_at hl 1 rfl) ?_
  refine lv_iload_n hx hb dX7_best_2 rfl (lv_at hl 2 rfl) ?_
  refine ro_i (va_runV (As := [.int p1, .int p2]) (rest := []) ⟨hx, hb, hml, hown, hts⟩ (s_X7_areTwo l dC dI cs L K G Q hQ x0 m0 tx tm H.size I J hI p0 hLp0 hKp0 p1 p2) (cwV 2 hts (gV pq1571 pq1573 pq62 pq81 pq1574) rfl rfl rfl (by decide +kernel) ⟨(by rw [hR]; exact (Nat.le_of_ble_eq_true rfl)), (by rw [hR]; exact (Nat.le_of_ble_eq_true rfl))⟩) (sP_V hP hD hK hN hLp0 hKp0 rfl rfl) rfl rfl hl.1 rfl (lv_room (Nat.le_of_ble_eq_true rfl)) dX7_best_3 ⟨(by rw [hR]; exact (Nat.le_of_ble_eq_true rfl)), (by rw [hR]; exact (Nat.le_of_ble_eq_true rfl))⟩) hS hP (fun z3 H locs hz3 hP hS => ?_)
  obtain ⟨bz3, imz3⟩ := hz3
  refine lv_if_eq (tgt := 21) hx hb dX7_best_6 (by decide) (fun c6 => ?_) (fun c6 => ?_)
  · have t6 := tq_eq (k := z3.toInt) (q := (0)) c6 rfl (by decide +kernel)
    refine lv_sipush (v := (-2000)) hx hb dX7_best_21 (by decide +kernel) ?_
    subst hR; subst hQz
    exact W.iret (v := (-2000)) hx hb hr (fun t ht hW => ⟨⟨(-2000), (), rfl, trivial, ⟨I, J, ⟨hI, rfl⟩, by rw [ht]; exact hP⟩⟩, hS.F ht⟩) hS.2.2 dX7_best_24
  · have t6 := tq_ne (k := z3.toInt) (q := (0)) c6 rfl (by decide +kernel)
    have i6 := imz3 t6
    refine lv_iload_n hx hb dX7_best_9 rfl (lv_at hl 3 rfl) ?_
    refine lv_i2l hx hb dX7_best_10 rfl ?_
    refine lv_topl (fun z10 ez10 => ?_)
    have bz10 := tq_i2l (k := p3.toInt) ez10 rfl
    refine lv_lconst (v := 0) hx hb dX7_best_11 (by decide +kernel) ?_
    refine lv_ldc2 hx hb hown (hts _ pq1595) dX7_best_12 ?_
    refine ro_i (va_runS (As := [.long z10, .long 0, .long 2]) (rest := []) ⟨hx, hb, hml, hown, hts⟩ (s_X7_in l dC dI cs L K Q H.size I J z10 0 2) (va_cwS 3 hts (gS pq1234 pq1235 pq81 pq1236) rfl rfl rfl (by decide +kernel) ⟨(by rw [hR]; exact (Nat.le_of_ble_eq_true rfl)), (by rw [hR]; exact (Nat.le_of_ble_eq_true rfl))⟩) (sP_S hP hD hK hN) rfl rfl hl.1 rfl (lv_room (Nat.le_of_ble_eq_true rfl)) dX7_best_15 ⟨(by rw [hR]; exact (Nat.le_of_ble_eq_true rfl)), (by rw [hR]; exact (Nat.le_of_ble_eq_true rfl))⟩) hS hP (fun z15 H locs hz15 hP hS => ?_)
    have csl15_0 : (0 : Int64).toInt = 0 := by decide +kernel
    have csl15_2 : (2 : Int64).toInt = 2 := by decide +kernel
    obtain ⟨bz15, imz15⟩ := hz15
    refine lv_if_ne (tgt := 25) hx hb dX7_best_18 (by decide) (fun c18 => ?_) (fun c18 => ?_)
    · have t18 := tq_ne (k := z15.toInt) (q := (0)) c18 rfl (by decide +kernel)
      have i18 := imz15 t18
      refine lv_aload_n hx hb dX7_best_25 rfl (lv_at hl 0 rfl) ?_
      refine sw_v (Z := (fun I1 => Iv L K x0 m0 tx tm I1 ∧ I1 = I)) (va_runV (As := []) (rest := []) ⟨hx, hb, hml, hown, hts⟩ (s_X7_laysAll l dC dI cs L K G Q hQ x0 m0 tx tm H.size I J hI p0 hLp0 hKp0) (cwV 0 hts (gV pq1427 pq1429 pq40 pq81 pq1430) rfl rfl rfl (by decide +kernel) ⟨(by rw [hR]; exact (Nat.le_of_ble_eq_true rfl)), (by rw [hR]; exact (Nat.le_of_ble_eq_true rfl))⟩) (sP_V hP hD hK hN hLp0 hKp0 rfl rfl) rfl rfl hl.1 rfl (lv_room (Nat.le_of_ble_eq_true rfl)) dX7_best_26 ⟨(by rw [hR]; exact (Nat.le_of_ble_eq_true rfl)), (by rw [hR]; exact (Nat.le_of_ble_eq_true rfl))⟩) hS hAL hA (fun Iz26 Jz26 H locs hz26 hIz26 hP hS => ?_)
      obtain ⟨hIz26x, rfl⟩ : Iv L K x0 m0 tx tm Iz26 ∧ I = Iz26 := ⟨hIz26.1, hIz26.2.symm⟩
      refine lv_iconst (v := 0) hx hb dX7_best_29 (by decide +kernel) ?_
      refine lv_istore (lv' := [(4, .int 0), (0, .ref p0), (1, .int p1), (2, .int p2), (3, .int p3)]) hx hb dX7_best_30 hl (by decide) rfl (fun ls hl => ?_)
      refine lv_aload_n hx hb dX7_best_32 rfl (lv_at hl 1 rfl) ?_
      refine lv_iload_n hx hb dX7_best_33 rfl (lv_at hl 2 rfl) ?_
      refine lv_iconst (v := 1) hx hb dX7_best_34 (by decide +kernel) ?_
      refine ro_i (va_runV (As := [.int p1, .int 1]) (rest := []) ⟨hx, hb, hml, hown, hts⟩ (s_X7_of l dC dI cs L K G Q hQ x0 m0 tx tm H.size I Jz26 hI p0 hLp0 hKp0 p1 ⟨by omega, by omega⟩ 1 ⟨by decide +kernel, by decide +kernel⟩) (cwV 2 hts (gV pq1320 pq1322 pq25 pq81 pq1323) rfl rfl rfl (by decide +kernel) ⟨(by rw [hR]; exact (Nat.le_of_ble_eq_true rfl)), (by rw [hR]; exact (Nat.le_of_ble_eq_true rfl))⟩) (sP_V hP hD hK hN hLp0 hKp0 rfl rfl) rfl rfl hl.1 rfl (lv_room (Nat.le_of_ble_eq_true rfl)) dX7_best_35 ⟨(by rw [hR]; exact (Nat.le_of_ble_eq_true rfl)), (by rw [hR]; exact (Nat.le_of_ble_eq_true rfl))⟩) hS hP (fun z35 H locs hz35 hP hS => ?_)
      have cst35_1 : (1 : Int32).toInt = 1 := by decide +kernel
      obtain ⟨fez35, xpz35⟩ := hz35
      have bz35 := xpz35.2.1 rfl
      refine lv_istore (lv' := [(5, .int z35), (4, .int 0), (0, .ref p0), (1, .int p1), (2, .int p2), (3, .int p3)]) hx hb dX7_best_38 hl (by decide) rfl (fun ls hl => ?_)
      refine lv_aload_n hx hb dX7_best_40 rfl (lv_at hl 2 rfl) ?_
      refine lv_iload_n hx hb dX7_best_41 rfl (lv_at hl 3 rfl) ?_
      refine lv_iconst (v := 2) hx hb dX7_best_42 (by decide +kernel) ?_
      refine ro_i (va_runV (As := [.int p1, .int 2]) (rest := []) ⟨hx, hb, hml, hown, hts⟩ (s_X7_of l dC dI cs L K G Q hQ x0 m0 tx tm H.size I Jz26 hI p0 hLp0 hKp0 p1 ⟨by omega, by omega⟩ 2 ⟨by decide +kernel, by decide +kernel⟩) (cwV 2 hts (gV pq1320 pq1322 pq25 pq81 pq1323) rfl rfl rfl (by decide +kernel) ⟨(by rw [hR]; exact (Nat.le_of_ble_eq_true rfl)), (by rw [hR]; exact (Nat.le_of_ble_eq_true rfl))⟩) (sP_V hP hD hK hN hLp0 hKp0 rfl rfl) rfl rfl hl.1 rfl (lv_room (Nat.le_of_ble_eq_true rfl)) dX7_best_43 ⟨(by rw [hR]; exact (Nat.le_of_ble_eq_true rfl)), (by rw [hR]; exact (Nat.le_of_ble_eq_true rfl))⟩) hS hP (fun z43 H locs hz43 hP hS => ?_)
      have cst43_2 : (2 : Int32).toInt = 2 := by decide +kernel
      obtain ⟨fez43, xpz43⟩ := hz43
      have bz43 := xpz43.2.2.1 rfl
      refine lv_istore (lv' := [(6, .int z43), (5, .int z35), (4, .int 0), (0, .ref p0), (1, .int p1), (2, .int p2), (3, .int p3)]) hx hb dX7_best_46 hl (by decide) rfl (fun ls hl => ?_)
      refine lv_aload_n hx hb dX7_best_48 rfl (lv_at hl 3 rfl) ?_
      refine lv_iload_n hx hb dX7_best_49 rfl (lv_at hl 5 rfl) ?_
      refine lv_iconst (v := 2) hx hb dX7_best_50 (by decide +kernel) ?_
      refine ro_i (va_runV (As := [.int p2, .int 2]) (rest := []) ⟨hx, hb, hml, hown, hts⟩ (s_X7_of l dC dI cs L K G Q hQ x0 m0 tx tm H.size I Jz26 hI p0 hLp0 hKp0 p2 ⟨by omega, by omega⟩ 2 ⟨by decide +kernel, by decide +kernel⟩) (cwV 2 hts (gV pq1320 pq1322 pq25 pq81 pq1323) rfl rfl rfl (by decide +kernel) ⟨(by rw [hR]; exact (Nat.le_of_ble_eq_true rfl)), (by rw [hR]; exact (Nat.le_of_ble_eq_true rfl))⟩) (sP_V hP hD hK hN hLp0 hKp0 rfl rfl) rfl rfl hl.1 rfl (lv_room (Nat.le_of_ble_eq_true rfl)) dX7_best_51 ⟨(by rw [hR]; exact (Nat.le_of_ble_eq_true rfl)), (by rw [hR]; exact (Nat.le_of_ble_eq_true rfl))⟩) hS hP (fun z51 H locs hz51 hP hS => ?_)
      have cst51_2 : (2 : Int32).toInt = 2 := by decide +kernel
      obtain ⟨fez51, xpz51⟩ := hz51
      have bz51 := xpz51.2.2.1 rfl
      refine lv_aload_n hx hb dX7_best_54 rfl (lv_at hl 3 rfl) ?_
      refine lv_aload_n hx hb dX7_best_55 rfl (lv_at hl 3 rfl) ?_
      refine lv_iload_n hx hb dX7_best_56 rfl (lv_at hl 4 rfl) ?_
      refine ro_i (va_runV (As := [.int p1]) (rest := [.ref p0, .int z51]) ⟨hx, hb, hml, hown, hts⟩ (s_X7_maskOf l dC dI cs L K G Q hQ x0 m0 tx tm H.size I Jz26 hI p0 hLp0 hKp0 p1 ⟨by omega, by omega⟩) (cwV 1 hts (gV pq1431 pq1433 pq41 pq81 pq1434) rfl rfl rfl (by decide +kernel) ⟨(by rw [hR]; exact (Nat.le_of_ble_eq_true rfl)), (by rw [hR]; exact (Nat.le_of_ble_eq_true rfl))⟩) (sP_V hP hD hK hN hLp0 hKp0 rfl rfl) rfl rfl hl.1 rfl (lv_room (Nat.le_of_ble_eq_true rfl)) dX7_best_57 ⟨(by rw [hR]; exact (Nat.le_of_ble_eq_true rfl)), (by rw [hR]; exact (Nat.le_of_ble_eq_true rfl))⟩) hS hP (fun z57 H locs hz57 hP hS => ?_)
      have bz57 := hz57
      refine ro_i (va_runV (As := [.int z57]) (rest := [.int z51]) ⟨hx, hb, hml, hown, hts⟩ (s_X7_high l dC dI cs L K G Q hQ x0 m0 tx tm H.size I Jz26 hI p0 hLp0 hKp0 z57 ⟨by omega, by omega⟩) (cwV 1 hts (gV pq1372 pq1374 pq33 pq81 pq1375) rfl rfl rfl (by decide +kernel) ⟨(by rw [hR]; exact (Nat.le_of_ble_eq_true rfl)), (by rw [hR]; exact (Nat.le_of_ble_eq_true rfl))⟩) (sP_V hP hD hK hN hLp0 hKp0 rfl rfl) rfl rfl hl.1 rfl (lv_room (Nat.le_of_ble_eq_true rfl)) dX7_best_60 ⟨(by rw [hR]; exact (Nat.le_of_ble_eq_true rfl)), (by rw [hR]; exact (Nat.le_of_ble_eq_true rfl))⟩) hS hP (fun z60 H locs hz60 hP hS => ?_)
      obtain ⟨bz60, fez60⟩ := hz60
      refine lv_isub hx hb dX7_best_63 ?_
      refine lv_topi (fun z63 ez63 => ?_)
      have bz63 := tq_sub (k := z51.toInt) (q := z60.toInt) ez63 rfl rfl (by omega) (by omega)
      refine lv_iconst (v := 1) hx hb dX7_best_64 (by decide +kernel) ?_
      refine lv_iadd hx hb dX7_best_65 ?_
      refine lv_topi (fun z65 ez65 => ?_)
      have bz65 := tq_add (k := z63.toInt) (q := (1)) ez65 rfl (by decide +kernel) (by omega) (by omega)
      refine lv_istore (lv' := [(7, .int z65), (6, .int z43), (5, .int z35), (4, .int 0), (0, .ref p0), (1, .int p1), (2, .int p2), (3, .int p3)]) hx hb dX7_best_66 hl (by decide) rfl (fun ls hl => ?_)
      have key68 := blocks (fun n => ∀ (v68_4 : Int32) (v68_5 : Int32) (v68_6 : Int32) (v68_7 : Int32) (H : Heap) (lo : List Loc) (ls : Array Slot), (6000302 - v68_7.toInt).toNat = n → ((0) ≤ v68_4.toInt ∧ v68_4.toInt ≤ 2147483647) → ((-6000099) ≤ v68_5.toInt ∧ v68_5.toInt ≤ 6000099) → ((-6000039) ≤ v68_6.toInt ∧ v68_6.toInt ≤ 6000039) → ((-6000039) ≤ v68_7.toInt ∧ v68_7.toInt ≤ 6000301) → va_P (dC, dI) vwCl (Wd cs L K I Jz26 Q) H → va_S A s.heap H lo → lv_has ls 10 [(0, .ref p0), (1, .int p1), (2, .int p2), (3, .int p3), (4, .int v68_4), (5, .int v68_5), (6, .int v68_6), (7, .int v68_7)] → W p l e R s m (([.ref p0, .int p1, .int p2, .int p3] : List Value).toArray) below meth c H lo 0 0 Qz (F0 m 68 ls [])) (by
        intro n ih68
        intro v68_4 v68_5 v68_6 v68_7 H lo ls hmu68 bv68_4 bv68_5 bv68_6 bv68_7 hP hS hl
        refine lv_iload hx hb dX7_best_68 (lv_at hl 7 rfl) ?_
        refine lv_aload_n hx hb dX7_best_70 rfl (lv_at hl 0 rfl) ?_
        refine lv_iload_n hx hb dX7_best_71 rfl (lv_at hl 2 rfl) ?_
        refine lv_iconst (v := 2) hx hb dX7_best_72 (by decide +kernel) ?_
        refine ro_i (va_runV (As := [.int p2, .int 2]) (rest := [.int v68_7]) ⟨hx, hb, hml, hown, hts⟩ (s_X7_of l dC dI cs L K G Q hQ x0 m0 tx tm H.size I Jz26 hI p0 hLp0 hKp0 p2 ⟨by omega, by omega⟩ 2 ⟨by decide +kernel, by decide +kernel⟩) (cwV 2 hts (gV pq1320 pq1322 pq25 pq81 pq1323) rfl rfl rfl (by decide +kernel) ⟨(by rw [hR]; exact (Nat.le_of_ble_eq_true rfl)), (by rw [hR]; exact (Nat.le_of_ble_eq_true rfl))⟩) (sP_V hP hD hK hN hLp0 hKp0 rfl rfl) rfl rfl hl.1 rfl (lv_room (Nat.le_of_ble_eq_true rfl)) dX7_best_73 ⟨(by rw [hR]; exact (Nat.le_of_ble_eq_true rfl)), (by rw [hR]; exact (Nat.le_of_ble_eq_true rfl))⟩) hS hP (fun z73 H locs hz73 hP hS => ?_)
        have cst73_2 : (2 : Int32).toInt = 2 := by decide +kernel
        obtain ⟨fez73, xpz73⟩ := hz73
        have bz73 := xpz73.2.2.1 rfl
        obtain rfl : z51 = z73 := fez51.trans fez73.symm
        refine lv_aload_n hx hb dX7_best_76 rfl (lv_at hl 0 rfl) ?_
        refine lv_aload_n hx hb dX7_best_77 rfl (lv_at hl 0 rfl) ?_
        refine lv_iload_n hx hb dX7_best_78 rfl (lv_at hl 2 rfl) ?_
        refine ro_i (va_runV (As := [.int p2]) (rest := [.ref p0, .int z51, .int v68_7]) ⟨hx, hb, hml, hown, hts⟩ (s_X7_maskOf l dC dI cs L K G Q hQ x0 m0 tx tm H.size I Jz26 hI p0 hLp0 hKp0 p2 ⟨by omega, by omega⟩) (cwV 1 hts (gV pq1431 pq1433 pq41 pq81 pq1434) rfl rfl rfl (by decide +kernel) ⟨(by rw [hR]; exact (Nat.le_of_ble_eq_true rfl)), (by rw [hR]; exact (Nat.le_of_ble_eq_true rfl))⟩) (sP_V hP hD hK hN hLp0 hKp0 rfl rfl) rfl rfl hl.1 rfl (lv_room (Nat.le_of_ble_eq_true rfl)) dX7_best_79 ⟨(by rw [hR]; exact (Nat.le_of_ble_eq_true rfl)), (by rw [hR]; exact (Nat.le_of_ble_eq_true rfl))⟩) hS hP (fun z79 H locs hz79 hP hS => ?_)
        have bz79 := hz79
        refine ro_i (va_runV (As := [.int z79]) (rest := [.int z51, .int v68_7]) ⟨hx, hb, hml, hown, hts⟩ (s_X7_high l dC dI cs L K G Q hQ x0 m0 tx tm H.size I Jz26 hI p0 hLp0 hKp0 z79 ⟨by omega, by omega⟩) (cwV 1 hts (gV pq1372 pq1374 pq33 pq81 pq1375) rfl rfl rfl (by decide +kernel) ⟨(by rw [hR]; exact (Nat.le_of_ble_eq_true rfl)), (by rw [hR]; exact (Nat.le_of_ble_eq_true rfl))⟩) (sP_V hP hD hK hN hLp0 hKp0 rfl rfl) rfl rfl hl.1 rfl (lv_room (Nat.le_of_ble_eq_true rfl)) dX7_best_82 ⟨(by rw [hR]; exact (Nat.le_of_ble_eq_true rfl)), (by rw [hR]; exact (Nat.le_of_ble_eq_true rfl))⟩) hS hP (fun z82 H locs hz82 hP hS => ?_)
        obtain ⟨bz82, fez82⟩ := hz82
        refine lv_iadd hx hb dX7_best_85 ?_
        refine lv_topi (fun z85 ez85 => ?_)
        have bz85 := tq_add (k := z51.toInt) (q := z82.toInt) ez85 rfl rfl (by omega) (by omega)
        refine lv_icmp_ge (tgt := 187) hx hb dX7_best_86 (by decide) (fun c86 => ?_) (fun c86 => ?_)
        · have t86 := tq_le (k := z85.toInt) (q := v68_7.toInt) c86 rfl rfl
          refine lv_iload_n hx hb dX7_best_187 rfl (lv_at hl 3 rfl) ?_
          refine lv_if_ne (tgt := 196) hx hb dX7_best_188 (by decide) (fun c188 => ?_) (fun c188 => ?_)
          · have t188 := tq_ne (k := p3.toInt) (q := (0)) c188 rfl (by decide +kernel)
            refine lv_iload_n hx hb dX7_best_196 rfl (lv_at hl 3 rfl) ?_
            refine lv_iconst (v := 1) hx hb dX7_best_197 (by decide +kernel) ?_
            refine lv_icmp_ne (tgt := 206) hx hb dX7_best_198 (by decide) (fun c198 => ?_) (fun c198 => ?_)
            · have t198 := tq_ne (k := p3.toInt) (q := (1)) c198 rfl (by decide +kernel)
              refine lv_iload hx hb dX7_best_206 (lv_at hl 6 rfl) ?_
              subst hR; subst hQz
              exact W.iret (v := v68_6) hx hb hr (fun t ht hW => ⟨⟨v68_6, (), rfl, trivial, ⟨I, Jz26, ⟨hI, rfl⟩, by rw [ht]; exact hP⟩⟩, hS.F ht⟩) hS.2.2 dX7_best_208
            · have t198 := tq_eq (k := p3.toInt) (q := (1)) c198 rfl (by decide +kernel)
              refine lv_iload hx hb dX7_best_201 (lv_at hl 5 rfl) ?_
              refine lv_goto (tgt := 208) hx hb dX7_best_203 (by decide) ?_
              subst hR; subst hQz
              exact W.iret (v := v68_5) hx hb hr (fun t ht hW => ⟨⟨v68_5, (), rfl, trivial, ⟨I, Jz26, ⟨hI, rfl⟩, by rw [ht]; exact hP⟩⟩, hS.F ht⟩) hS.2.2 dX7_best_208
          · have t188 := tq_eq (k := p3.toInt) (q := (0)) c188 rfl (by decide +kernel)
            refine lv_iload hx hb dX7_best_191 (lv_at hl 4 rfl) ?_
            refine lv_goto (tgt := 208) hx hb dX7_best_193 (by decide) ?_
            subst hR; subst hQz
            exact W.iret (v := v68_4) hx hb hr (fun t ht hW => ⟨⟨v68_4, (), rfl, trivial, ⟨I, Jz26, ⟨hI, rfl⟩, by rw [ht]; exact hP⟩⟩, hS.F ht⟩) hS.2.2 dX7_best_208
        · have t86 := tq_nle (k := z85.toInt) (q := v68_7.toInt) c86 rfl rfl
          refine lv_aload_n hx hb dX7_best_89 rfl (lv_at hl 0 rfl) ?_
          refine lv_iload_n hx hb dX7_best_90 rfl (lv_at hl 2 rfl) ?_
          refine lv_iconst (v := 1) hx hb dX7_best_91 (by decide +kernel) ?_
          refine ro_i (va_runV (As := [.int p2, .int 1]) (rest := []) ⟨hx, hb, hml, hown, hts⟩ (s_X7_of l dC dI cs L K G Q hQ x0 m0 tx tm H.size I Jz26 hI p0 hLp0 hKp0 p2 ⟨by omega, by omega⟩ 1 ⟨by decide +kernel, by decide +kernel⟩) (cwV 2 hts (gV pq1320 pq1322 pq25 pq81 pq1323) rfl rfl rfl (by decide +kernel) ⟨(by rw [hR]; exact (Nat.le_of_ble_eq_true rfl)), (by rw [hR]; exact (Nat.le_of_ble_eq_true rfl))⟩) (sP_V hP hD hK hN hLp0 hKp0 rfl rfl) rfl rfl hl.1 rfl (lv_room (Nat.le_of_ble_eq_true rfl)) dX7_best_92 ⟨(by rw [hR]; exact (Nat.le_of_ble_eq_true rfl)), (by rw [hR]; exact (Nat.le_of_ble_eq_true rfl))⟩) hS hP (fun z92 H locs hz92 hP hS => ?_)
          have cst92_1 : (1 : Int32).toInt = 1 := by decide +kernel
          obtain ⟨fez92, xpz92⟩ := hz92
          have bz92 := xpz92.2.1 rfl
          refine lv_aload_n hx hb dX7_best_95 rfl (lv_at hl 0 rfl) ?_
          refine lv_aload_n hx hb dX7_best_96 rfl (lv_at hl 0 rfl) ?_
          refine lv_iload_n hx hb dX7_best_97 rfl (lv_at hl 1 rfl) ?_
          refine ro_i (va_runV (As := [.int p1]) (rest := [.ref p0, .int z92]) ⟨hx, hb, hml, hown, hts⟩ (s_X7_maskOf l dC dI cs L K G Q hQ x0 m0 tx tm H.size I Jz26 hI p0 hLp0 hKp0 p1 ⟨by omega, by omega⟩) (cwV 1 hts (gV pq1431 pq1433 pq41 pq81 pq1434) rfl rfl rfl (by decide +kernel) ⟨(by rw [hR]; exact (Nat.le_of_ble_eq_true rfl)), (by rw [hR]; exact (Nat.le_of_ble_eq_true rfl))⟩) (sP_V hP hD hK hN hLp0 hKp0 rfl rfl) rfl rfl hl.1 rfl (lv_room (Nat.le_of_ble_eq_true rfl)) dX7_best_98 ⟨(by rw [hR]; exact (Nat.le_of_ble_eq_true rfl)), (by rw [hR]; exact (Nat.le_of_ble_eq_true rfl))⟩) hS hP (fun z98 H locs hz98 hP hS => ?_)
          have bz98 := hz98
          refine ro_i (va_runV (As := [.int z98]) (rest := [.int z92]) ⟨hx, hb, hml, hown, hts⟩ (s_X7_wide l dC dI cs L K G Q hQ x0 m0 tx tm H.size I Jz26 hI p0 hLp0 hKp0 z98 ⟨by omega, by omega⟩) (cwV 1 hts (gV pq1368 pq1370 pq32 pq81 pq1371) rfl rfl rfl (by decide +kernel) ⟨(by rw [hR]; exact (Nat.le_of_ble_eq_true rfl)), (by rw [hR]; exact (Nat.le_of_ble_eq_true rfl))⟩) (sP_V hP hD hK hN hLp0 hKp0 rfl rfl) rfl rfl hl.1 rfl (lv_room (Nat.le_of_ble_eq_true rfl)) dX7_best_101 ⟨(by rw [hR]; exact (Nat.le_of_ble_eq_true rfl)), (by rw [hR]; exact (Nat.le_of_ble_eq_true rfl))⟩) hS hP (fun z101 H locs hz101 hP hS => ?_)
          obtain ⟨bz101, fez101⟩ := hz101
          refine lv_isub hx hb dX7_best_104 ?_
          refine lv_topi (fun z104 ez104 => ?_)
          have bz104 := tq_sub (k := z92.toInt) (q := z101.toInt) ez104 rfl rfl (by omega) (by omega)
          refine lv_iconst (v := 1) hx hb dX7_best_105 (by decide +kernel) ?_
          refine lv_iadd hx hb dX7_best_106 ?_
          refine lv_topi (fun z106 ez106 => ?_)
          have bz106 := tq_add (k := z104.toInt) (q := (1)) ez106 rfl (by decide +kernel) (by omega) (by omega)
          refine lv_istore (lv' := [(8, .int z106), (0, .ref p0), (1, .int p1), (2, .int p2), (3, .int p3), (4, .int v68_4), (5, .int v68_5), (6, .int v68_6), (7, .int v68_7)]) hx hb dX7_best_107 hl (by decide) rfl (fun ls hl => ?_)
          have key109 := blocks (fun n => ∀ (v109_4 : Int32) (v109_5 : Int32) (v109_6 : Int32) (v109_8 : Int32) (H : Heap) (lo : List Loc) (ls : Array Slot), (6000302 - v109_8.toInt).toNat = n → ((0) ≤ v109_4.toInt ∧ v109_4.toInt ≤ 2147483647) → ((-6000099) ≤ v109_5.toInt ∧ v109_5.toInt ≤ 6000099) → ((-6000039) ≤ v109_6.toInt ∧ v109_6.toInt ≤ 6000039) → ((-6000099) ≤ v109_8.toInt ∧ v109_8.toInt ≤ 6000301) → va_P (dC, dI) vwCl (Wd cs L K I Jz26 Q) H → va_S A s.heap H lo → lv_has ls 10 [(0, .ref p0), (1, .int p1), (2, .int p2), (3, .int p3), (4, .int v109_4), (5, .int v109_5), (6, .int v109_6), (7, .int v68_7), (8, .int v109_8)] → W p l e R s m (([.ref p0, .int p1, .int p2, .int p3] : List Value).toArray) below meth c H lo 0 0 Qz (F0 m 109 ls [])) (by
            intro n ih109
            intro v109_4 v109_5 v109_6 v109_8 H lo ls hmu109 bv109_4 bv109_5 bv109_6 bv109_8 hP hS hl
            refine lv_iload hx hb dX7_best_109 (lv_at hl 8 rfl) ?_
            refine lv_aload_n hx hb dX7_best_111 rfl (lv_at hl 0 rfl) ?_
            refine lv_iload_n hx hb dX7_best_112 rfl (lv_at hl 2 rfl) ?_
            refine lv_iconst (v := 1) hx hb dX7_best_113 (by decide +kernel) ?_
            refine ro_i (va_runV (As := [.int p2, .int 1]) (rest := [.int v109_8]) ⟨hx, hb, hml, hown, hts⟩ (s_X7_of l dC dI cs L K G Q hQ x0 m0 tx tm H.size I Jz26 hI p0 hLp0 hKp0 p2 ⟨by omega, by omega⟩ 1 ⟨by decide +kernel, by decide +kernel⟩) (cwV 2 hts (gV pq1320 pq1322 pq25 pq81 pq1323) rfl rfl rfl (by decide +kernel) ⟨(by rw [hR]; exact (Nat.le_of_ble_eq_true rfl)), (by rw [hR]; exact (Nat.le_of_ble_eq_true rfl))⟩) (sP_V hP hD hK hN hLp0 hKp0 rfl rfl) rfl rfl hl.1 rfl (lv_room (Nat.le_of_ble_eq_true rfl)) dX7_best_114 ⟨(by rw [hR]; exact (Nat.le_of_ble_eq_true rfl)), (by rw [hR]; exact (Nat.le_of_ble_eq_true rfl))⟩) hS hP (fun z114 H locs hz114 hP hS => ?_)
            have cst114_1 : (1 : Int32).toInt = 1 := by decide +kernel
            obtain ⟨fez114, xpz114⟩ := hz114
            have bz114 := xpz114.2.1 rfl
            obtain rfl : z92 = z114 := fez92.trans fez114.symm
            refine lv_aload_n hx hb dX7_best_117 rfl (lv_at hl 0 rfl) ?_
            refine lv_aload_n hx hb dX7_best_118 rfl (lv_at hl 0 rfl) ?_
            refine lv_iload_n hx hb dX7_best_119 rfl (lv_at hl 2 rfl) ?_
            refine ro_i (va_runV (As := [.int p2]) (rest := [.ref p0, .int z92, .int v109_8]) ⟨hx, hb, hml, hown, hts⟩ (s_X7_maskOf l dC dI cs L K G Q hQ x0 m0 tx tm H.size I Jz26 hI p0 hLp0 hKp0 p2 ⟨by omega, by omega⟩) (cwV 1 hts (gV pq1431 pq1433 pq41 pq81 pq1434) rfl rfl rfl (by decide +kernel) ⟨(by rw [hR]; exact (Nat.le_of_ble_eq_true rfl)), (by rw [hR]; exact (Nat.le_of_ble_eq_true rfl))⟩) (sP_V hP hD hK hN hLp0 hKp0 rfl rfl) rfl rfl hl.1 rfl (lv_room (Nat.le_of_ble_eq_true rfl)) dX7_best_120 ⟨(by rw [hR]; exact (Nat.le_of_ble_eq_true rfl)), (by rw [hR]; exact (Nat.le_of_ble_eq_true rfl))⟩) hS hP (fun z120 H locs hz120 hP hS => ?_)
            have bz120 := hz120
            refine ro_i (va_runV (As := [.int z120]) (rest := [.int z92, .int v109_8]) ⟨hx, hb, hml, hown, hts⟩ (s_X7_wide l dC dI cs L K G Q hQ x0 m0 tx tm H.size I Jz26 hI p0 hLp0 hKp0 z120 ⟨by omega, by omega⟩) (cwV 1 hts (gV pq1368 pq1370 pq32 pq81 pq1371) rfl rfl rfl (by decide +kernel) ⟨(by rw [hR]; exact (Nat.le_of_ble_eq_true rfl)), (by rw [hR]; exact (Nat.le_of_ble_eq_true rfl))⟩) (sP_V hP hD hK hN hLp0 hKp0 rfl rfl) rfl rfl hl.1 rfl (lv_room (Nat.le_of_ble_eq_true rfl)) dX7_best_123 ⟨(by rw [hR]; exact (Nat.le_of_ble_eq_true rfl)), (by rw [hR]; exact (Nat.le_of_ble_eq_true rfl))⟩) hS hP (fun z123 H locs hz123 hP hS => ?_)
            obtain ⟨bz123, fez123⟩ := hz123
            refine lv_iadd hx hb dX7_best_126 ?_
            refine lv_topi (fun z126 ez126 => ?_)
            have bz126 := tq_add (k := z92.toInt) (q := z123.toInt) ez126 rfl rfl (by omega) (by omega)
            refine lv_icmp_ge (tgt := 181) hx hb dX7_best_127 (by decide) (fun c127 => ?_) (fun c127 => ?_)
            · have t127 := tq_le (k := z126.toInt) (q := v109_8.toInt) c127 rfl rfl
              obtain ⟨z181, ez181⟩ : ∃ y : Int32, y = v68_7 + 1 := ⟨_, rfl⟩
              refine lv_iinc (v := z181) (lv' := [(7, .int z181), (0, .ref p0), (1, .int p1), (2, .int p2), (3, .int p3), (4, .int v109_4), (5, .int v109_5), (6, .int v109_6), (8, .int v109_8)]) hx hb dX7_best_181 hl (k := 7) rfl (by rw [ez181]; rfl) (by decide) rfl (fun ls hl => ?_)
              have bz181 := tq_add (k := v68_7.toInt) (q := 1) ez181 rfl (by decide +kernel) (by omega) (by omega)
              refine lv_goto (tgt := 68) hx hb dX7_best_184 (by decide) ?_
              exact ih68 _ (by omega) v109_4 v109_5 v109_6 z181 _ _ _ rfl ⟨by omega, by have := fb_rng v109_4; omega⟩ ⟨by omega, by omega⟩ ⟨by omega, by omega⟩ ⟨by omega, by omega⟩ hP hS (lv_sub hl [1, 2, 3, 4, 5, 6, 7, 0] rfl)
            · have t127 := tq_nle (k := z126.toInt) (q := v109_8.toInt) c127 rfl rfl
              refine lv_aload_n hx hb dX7_best_130 rfl (lv_at hl 0 rfl) ?_
              refine lv_iload_n hx hb dX7_best_131 rfl (lv_at hl 1 rfl) ?_
              refine lv_iload_n hx hb dX7_best_132 rfl (lv_at hl 2 rfl) ?_
              refine lv_iload hx hb dX7_best_133 (lv_at hl 8 rfl) ?_
              refine lv_aload_n hx hb dX7_best_135 rfl (lv_at hl 0 rfl) ?_
              refine lv_iload_n hx hb dX7_best_136 rfl (lv_at hl 1 rfl) ?_
              refine lv_iconst (v := 1) hx hb dX7_best_137 (by decide +kernel) ?_
              refine ro_i (va_runV (As := [.int p1, .int 1]) (rest := [.int v109_8, .int p2, .int p1, .ref p0]) ⟨hx, hb, hml, hown, hts⟩ (s_X7_of l dC dI cs L K G Q hQ x0 m0 tx tm H.size I Jz26 hI p0 hLp0 hKp0 p1 ⟨by omega, by omega⟩ 1 ⟨by decide +kernel, by decide +kernel⟩) (cwV 2 hts (gV pq1320 pq1322 pq25 pq81 pq1323) rfl rfl rfl (by decide +kernel) ⟨(by rw [hR]; exact (Nat.le_of_ble_eq_true rfl)), (by rw [hR]; exact (Nat.le_of_ble_eq_true rfl))⟩) (sP_V hP hD hK hN hLp0 hKp0 rfl rfl) rfl rfl hl.1 rfl (lv_room (Nat.le_of_ble_eq_true rfl)) dX7_best_138 ⟨(by rw [hR]; exact (Nat.le_of_ble_eq_true rfl)), (by rw [hR]; exact (Nat.le_of_ble_eq_true rfl))⟩) hS hP (fun z138 H locs hz138 hP hS => ?_)
              have cst138_1 : (1 : Int32).toInt = 1 := by decide +kernel
              obtain ⟨fez138, xpz138⟩ := hz138
              have bz138 := xpz138.2.1 rfl
              obtain rfl : z35 = z138 := fez35.trans fez138.symm
              refine lv_isub hx hb dX7_best_141 ?_
              refine lv_topi (fun z141 ez141 => ?_)
              have bz141 := tq_sub (k := v109_8.toInt) (q := z35.toInt) ez141 rfl rfl (by omega) (by omega)
              refine lv_iload hx hb dX7_best_142 (lv_at hl 7 rfl) ?_
              refine lv_aload_n hx hb dX7_best_144 rfl (lv_at hl 0 rfl) ?_
              refine lv_iload_n hx hb dX7_best_145 rfl (lv_at hl 1 rfl) ?_
              refine lv_iconst (v := 2) hx hb dX7_best_146 (by decide +kernel) ?_
              refine ro_i (va_runV (As := [.int p1, .int 2]) (rest := [.int v68_7, .int z141, .int p2, .int p1, .ref p0]) ⟨hx, hb, hml, hown, hts⟩ (s_X7_of l dC dI cs L K G Q hQ x0 m0 tx tm H.size I Jz26 hI p0 hLp0 hKp0 p1 ⟨by omega, by omega⟩ 2 ⟨by decide +kernel, by decide +kernel⟩) (cwV 2 hts (gV pq1320 pq1322 pq25 pq81 pq1323) rfl rfl rfl (by decide +kernel) ⟨(by rw [hR]; exact (Nat.le_of_ble_eq_true rfl)), (by rw [hR]; exact (Nat.le_of_ble_eq_true rfl))⟩) (sP_V hP hD hK hN hLp0 hKp0 rfl rfl) rfl rfl hl.1 rfl (lv_room (Nat.le_of_ble_eq_true rfl)) dX7_best_147 ⟨(by rw [hR]; exact (Nat.le_of_ble_eq_true rfl)), (by rw [hR]; exact (Nat.le_of_ble_eq_true rfl))⟩) hS hP (fun z147 H locs hz147 hP hS => ?_)
              have cst147_2 : (2 : Int32).toInt = 2 := by decide +kernel
              obtain ⟨fez147, xpz147⟩ := hz147
              have bz147 := xpz147.2.2.1 rfl
              obtain rfl : z43 = z147 := fez43.trans fez147.symm
              refine lv_isub hx hb dX7_best_150 ?_
              refine lv_topi (fun z150 ez150 => ?_)
              have bz150 := tq_sub (k := v68_7.toInt) (q := z43.toInt) ez150 rfl rfl (by omega) (by omega)
              refine ro_i (va_runV (As := [.int p1, .int p2, .int z141, .int z150]) (rest := []) ⟨hx, hb, hml, hown, hts⟩ (s_X7_commonBy l dC dI cs L K G Q hQ x0 m0 tx tm H.size I Jz26 hI p0 hLp0 hKp0 p1 ⟨by omega, by omega⟩ p2 ⟨by omega, by omega⟩ z141 z150 ⟨by omega, by omega⟩) (cwV 4 hts (gV pq1575 pq1577 pq63 pq81 pq1578) rfl rfl rfl (by decide +kernel) ⟨(by rw [hR]; exact (Nat.le_of_ble_eq_true rfl)), (by rw [hR]; exact (Nat.le_of_ble_eq_true rfl))⟩) (sP_V hP hD hK hN hLp0 hKp0 rfl rfl) rfl rfl hl.1 rfl (lv_room (Nat.le_of_ble_eq_true rfl)) dX7_best_151 ⟨(by rw [hR]; exact (Nat.le_of_ble_eq_true rfl)), (by rw [hR]; exact (Nat.le_of_ble_eq_true rfl))⟩) hS hP (fun z151 H locs hz151 hP hS => ?_)
              refine lv_istore (lv' := [(9, .int z151), (0, .ref p0), (1, .int p1), (2, .int p2), (3, .int p3), (4, .int v109_4), (5, .int v109_5), (6, .int v109_6), (7, .int v68_7), (8, .int v109_8)]) hx hb dX7_best_154 hl (by decide) rfl (fun ls hl => ?_)
              refine lv_iload hx hb dX7_best_156 (lv_at hl 0 rfl) ?_
              refine lv_iload hx hb dX7_best_158 (lv_at hl 5 rfl) ?_
              have j175 : ∀ (v175_4 : Int32) (v175_5 : Int32) (v175_6 : Int32) (H : Heap) (lo : List Loc) (ls : Array Slot), ((0) ≤ v175_4.toInt ∧ v175_4.toInt ≤ 2147483647) → ((-6000099) ≤ v175_5.toInt ∧ v175_5.toInt ≤ 6000099) → ((-6000039) ≤ v175_6.toInt ∧ v175_6.toInt ≤ 6000039) → va_P (dC, dI) vwCl (Wd cs L K I Jz26 Q) H → va_S A s.heap H lo → lv_has ls 10 [(0, .ref p0), (1, .int p1), (2, .int p2), (3, .int p3), (4, .int v175_4), (5, .int v175_5), (6, .int v175_6), (7, .int v68_7), (8, .int v109_8), (9, .int z151)] → W p l e R s m (([.ref p0, .int p1, .int p2, .int p3] : List Value).toArray) below meth c H lo 0 0 Qz (F0 m 175 ls []) := by
                intro v175_4 v175_5 v175_6 H lo ls bv175_4 bv175_5 bv175_6 hP hS hl
                obtain ⟨z175, ez175⟩ : ∃ y : Int32, y = v109_8 + 1 := ⟨_, rfl⟩
                refine lv_iinc (v := z175) (lv' := [(8, .int z175), (0, .ref p0), (1, .int p1), (2, .int p2), (3, .int p3), (4, .int v175_4), (5, .int v175_5), (6, .int v175_6), (7, .int v68_7), (9, .int z151)]) hx hb dX7_best_175 hl (k := 8) rfl (by rw [ez175]; rfl) (by decide) rfl (fun ls hl => ?_)
                have bz175 := tq_add (k := v109_8.toInt) (q := 1) ez175 rfl (by decide +kernel) (by omega) (by omega)
                refine lv_goto (tgt := 109) hx hb dX7_best_178 (by decide) ?_
                exact ih109 _ (by omega) v175_4 v175_5 v175_6 z175 _ _ _ rfl ⟨by omega, by have := fb_rng v175_4; omega⟩ ⟨by omega, by omega⟩ ⟨by omega, by omega⟩ ⟨by omega, by omega⟩ hP hS (lv_sub hl [1, 2, 3, 4, 5, 6, 7, 8, 0] rfl)
              refine lv_icmp_le (tgt := 175) hx hb dX7_best_160 (by decide) (fun c160 => ?_) (fun c160 => ?_)
              · have t160 := tq_le (k := z151.toInt) (q := v109_4.toInt) c160 rfl rfl
                exact j175 v109_4 v109_5 v109_6 _ _ _ ⟨by omega, by have := fb_rng v109_4; omega⟩ ⟨by omega, by omega⟩ ⟨by omega, by omega⟩ hP hS (lv_sub hl [1, 2, 3, 4, 5, 6, 7, 8, 9, 0] rfl)
              · have t160 := tq_nle (k := z151.toInt) (q := v109_4.toInt) c160 rfl rfl
                have rg160z151 := fb_rng z151
                have rg160v109_4 := fb_rng v109_4
                refine lv_iload hx hb dX7_best_163 (lv_at hl 0 rfl) ?_
                refine lv_istore (lv' := [(4, .int z151), (9, .int z151), (0, .ref p0), (1, .int p1), (2, .int p2), (3, .int p3), (5, .int v109_5), (6, .int v109_6), (7, .int v68_7), (8, .int v109_8)]) hx hb dX7_best_165 hl (by decide) rfl (fun ls hl => ?_)
                refine lv_iload hx hb dX7_best_167 (lv_at hl 9 rfl) ?_
                refine lv_istore (lv' := [(5, .int v109_8), (4, .int z151), (9, .int z151), (0, .ref p0), (1, .int p1), (2, .int p2), (3, .int p3), (6, .int v109_6), (7, .int v68_7), (8, .int v109_8)]) hx hb dX7_best_169 hl (by decide) rfl (fun ls hl => ?_)
                refine lv_iload hx hb dX7_best_171 (lv_at hl 8 rfl) ?_
                refine lv_istore (lv' := [(6, .int v68_7), (5, .int v109_8), (4, .int z151), (9, .int z151), (0, .ref p0), (1, .int p1), (2, .int p2), (3, .int p3), (7, .int v68_7), (8, .int v109_8)]) hx hb dX7_best_173 hl (by decide) rfl (fun ls hl => ?_)
                exact j175 z151 v109_8 v68_7 _ _ _ ⟨by omega, by have := fb_rng z151; omega⟩ ⟨by omega, by omega⟩ ⟨by omega, by omega⟩ hP hS (lv_sub hl [4, 5, 6, 7, 2, 1, 0, 8, 9, 3] rfl))
          exact key109 _ v68_4 v68_5 v68_6 z106 _ _ _ rfl ⟨by omega, by have := fb_rng v68_4; omega⟩ ⟨by omega, by omega⟩ ⟨by omega, by omega⟩ ⟨by omega, by omega⟩ hP hS (lv_sub hl [1, 2, 3, 4, 5, 6, 7, 8, 0] rfl))
      exact key68 _ 0 z35 z43 z65 _ _ _ rfl ⟨by decide +kernel, by decide +kernel⟩ ⟨by omega, by omega⟩ ⟨by omega, by omega⟩ ⟨by omega, by omega⟩ hP hS (lv_sub hl [4, 5, 6, 7, 3, 2, 1, 0] rfl)
    · have t18 := tq_eq (k := z15.toInt) (q := (0)) c18 rfl (by decide +kernel)
      refine lv_sipush (v := (-2000)) hx hb dX7_best_21 (by decide +kernel) ?_
      subst hR; subst hQz
      exact W.iret (v := (-2000)) hx hb hr (fun t ht hW => ⟨⟨(-2000), (), rfl, trivial, ⟨I, J, ⟨hI, rfl⟩, by rw [ht]; exact hP⟩⟩, hS.F ht⟩) hS.2.2 dX7_best_24

set_option maxHeartbeats 4000000 in
set_option maxRecDepth 100000 in
theorem s_X7_masksMeet (l : Launch) (dC : Nat → ClassId) (dI : Nat → Nat → Nat) (cs : Nat → ClassId) (L : List Nat) (K G : Nat → Nat) (Q : Nat → Nat → Option Nat) (hQ : Sv L K G Q) (x0 m0 : Nat) (tx : Int32) (tm : Int32 × Int) (sz : Nat) (I : Nat → Nat → Int32) (J : Nat → Nat → Int64) (hI : Iv L K x0 m0 tx tm I) (p0 : Nat) (hLp0 : p0 ∈ L) (hKp0 : K p0 = 7) (p1 : Int32) (bp1 : (0) ≤ p1.toInt ∧ p1.toInt ≤ 7) (p2 : Int32) (bp2 : (0) ≤ p2.toInt ∧ p2.toInt ≤ 7) (p3 : Int32) (p4 : Int32) (bp4 : (-1000) ≤ p4.toInt ∧ p4.toInt ≤ 1000) : Met l yX7_masksMeet (.code yX7_masksMeet cX7_masksMeet 8 (some .boolean) :: pw) ({ frames := 1, cells := 0, slots := 0, locals := 25 }) (sP (dC, dI) cs [.ref p0, .int p1, .int p2, .int p3, .int p4] sz L K I J Q) (va_Qi (fun (r : Int32) (_ : Unit) => ((0) ≤ r.toInt ∧ r.toInt ≤ 1)) (fun _ _ => True) (fun _ => False)) 0 0 (fun _ => False) := by
  refine Met.ofW (cc := cX7_masksMeet) (maxL := 8) (ret := (some .boolean)) (by decide +kernel) rfl ?_
  intro p e s m args below meth c s₁ B hml hv
  obtain ⟨rfl, hsz, hP, hK, hD0, hN⟩ := hv
  have hx := B.exec
  have hb := B.bytes
  have hr := B.returns
  have hts := fun w (h : w ∈ pw) => atoms_spec (ws := Cond.code yX7_masksMeet cX7_masksMeet 8 (some .boolean) :: pw) B.pre w (List.mem_cons_of_mem _ h)
  have hown : s.vm.findClass RX7 = some m.cls := findClass_of_methodNamed B.named
  have hlocks := B.notSynchronized
  subst hsz
  have hBB : 999 ≤ tm.2 ∧ tm.2 ≤ 6000000 := hI.2.2.2.2
  have hD := hD0
  obtain ⟨H, hHe⟩ : ∃ H : Heap, H = s.heap := ⟨_, rfl⟩
  have hS : va_S (fun _ => False) s.heap H [] := by rw [hHe]; exact va_S.rf
  rw [← hHe] at hP
  have hl := lv_entry ([.ref p0, .int p1, .int p2, .int p3, .int p4]) (n := 8) (Nat.le_of_ble_eq_true rfl)
  rw [lg_entry_eq]
  generalize (lg_sl ([.ref p0, .int p1, .int p2, .int p3, .int p4]) ++ List.replicate (8 - (lg_sl ([.ref p0, .int p1, .int p2, .int p3, .int p4])).length) Slot.unset).toArray = ls at hl ⊢
  have hl : lv_has ls 8 [(0, .ref p0), (1, .int p1), (2, .int p2), (3, .int p3), (4, .int p4)] := hl
  rw [← hHe]
  refine namedW (fun R Qz hR hQz => ?_)
  refine lv_iconst (v := 0) hx hb dX7_masksMeet_0 (by decide +kernel) ?_
  refine lv_iload hx hb dX7_masksMeet_1 (lv_at hl 4 rfl) ?_
  refine lv_ineg hx hb dX7_masksMeet_3 ?_
  refine lv_topi (fun z3 ez3 => ?_)
  have bz3 := tq_neg (k := p4.toInt) ez3 rfl (by omega) (by omega)
  refine va_mmax hx hb (hml.trans hl.1.symm) hown (hts _ pq1443) (hts _ pq750) (hts _ pq82) (hts _ pq751) (by rw [hR]; exact (Nat.le_of_ble_eq_true rfl)) (by rw [hR]; exact (Nat.le_of_ble_eq_true rfl)) (by rw [hR]; exact (Nat.le_of_ble_eq_true rfl)) (by rw [hR]; exact (Nat.le_of_ble_eq_true rfl)) dX7_masksMeet_4 ?_
  refine lv_topi (fun z4 ez4 => ?_)
  have bz4 := tq_max ez4
  have bz4x : (0 : Int32).toInt = 0 := by decide +kernel
  refine lv_istore (lv' := [(5, .int z4), (0, .ref p0), (1, .int p1), (2, .int p2), (3, .int p3), (4, .int p4)]) hx hb dX7_masksMeet_7 hl (by decide) rfl (fun ls hl => ?_)
  have key9 := blocks (fun n => ∀ (v9_5 : Int32) (H : Heap) (lo : List Loc) (ls : Array Slot), (1001 - v9_5.toInt).toNat = n → ((0) ≤ v9_5.toInt ∧ v9_5.toInt ≤ 1000) → -p4.toInt ≤ v9_5.toInt → va_P (dC, dI) vwCl (Wd cs L K I J Q) H → va_S (fun _ => False) s.heap H lo → lv_has ls 8 [(0, .ref p0), (1, .int p1), (2, .int p2), (3, .int p3), (4, .int p4), (5, .int v9_5)] → W p l e R s m (([.ref p0, .int p1, .int p2, .int p3, .int p4] : List Value).toArray) below meth c H lo 0 0 Qz (F0 m 9 ls [])) (by
    intro n ih9
    intro v9_5 H lo ls hmu9 bv9_5 hmd hP hS hl
    refine lv_iload hx hb dX7_masksMeet_9 (lv_at hl 5 rfl) ?_
    refine lv_aload_n hx hb dX7_masksMeet_11 rfl (lv_at hl 0 rfl) ?_
    refine lv_iload_n hx hb dX7_masksMeet_12 rfl (lv_at hl 1 rfl) ?_
    refine ro_i (va_runV (As := [.int p1]) (rest := [.int v9_5]) ⟨hx, hb, hml, hown, hts⟩ (s_X7_high l dC dI cs L K G Q hQ x0 m0 tx tm H.size I J hI p0 hLp0 hKp0 p1 ⟨by omega, by omega⟩) (cwV 1 hts (gV pq1372 pq1374 pq33 pq81 pq1375) rfl rfl rfl (by decide +kernel) ⟨(by rw [hR]; exact (Nat.le_of_ble_eq_true rfl)), (by rw [hR]; exact (Nat.le_of_ble_eq_true rfl))⟩) (sP_V hP hD hK hN hLp0 hKp0 rfl rfl) rfl rfl hl.1 rfl (lv_room (Nat.le_of_ble_eq_true rfl)) dX7_masksMeet_13 ⟨(by rw [hR]; exact (Nat.le_of_ble_eq_true rfl)), (by rw [hR]; exact (Nat.le_of_ble_eq_true rfl))⟩) hS hP (fun z13 H locs hz13 hP hS => ?_)
    obtain ⟨bz13, fez13⟩ := hz13
    refine lv_icmp_ge (tgt := 133) hx hb dX7_masksMeet_16 (by decide) (fun c16 => ?_) (fun c16 => ?_)
    · have t16 := tq_le (k := z13.toInt) (q := v9_5.toInt) c16 rfl rfl
      refine lv_iconst (v := 0) hx hb dX7_masksMeet_133 (by decide +kernel) ?_
      subst hR; subst hQz
      exact W.zret (v := 0) hx hb hr (by decide +kernel) (fun t ht hW => ⟨⟨0, (), rfl, ⟨by decide +kernel, by decide +kernel⟩, trivial⟩, hS.F ht⟩) hS.2.2 dX7_masksMeet_134
    · have t16 := tq_nle (k := z13.toInt) (q := v9_5.toInt) c16 rfl rfl
      refine lv_iload hx hb dX7_masksMeet_19 (lv_at hl 5 rfl) ?_
      refine lv_iload hx hb dX7_masksMeet_21 (lv_at hl 4 rfl) ?_
      refine lv_iadd hx hb dX7_masksMeet_23 ?_
      refine lv_topi (fun z23 ez23 => ?_)
      have bz23 := tq_add (k := v9_5.toInt) (q := p4.toInt) ez23 rfl rfl (by omega) (by omega)
      refine lv_aload_n hx hb dX7_masksMeet_24 rfl (lv_at hl 0 rfl) ?_
      refine lv_iload_n hx hb dX7_masksMeet_25 rfl (lv_at hl 2 rfl) ?_
      refine ro_i (va_runV (As := [.int p2]) (rest := [.int z23]) ⟨hx, hb, hml, hown, hts⟩ (s_X7_high l dC dI cs L K G Q hQ x0 m0 tx tm H.size I J hI p0 hLp0 hKp0 p2 ⟨by omega, by omega⟩) (cwV 1 hts (gV pq1372 pq1374 pq33 pq81 pq1375) rfl rfl rfl (by decide +kernel) ⟨(by rw [hR]; exact (Nat.le_of_ble_eq_true rfl)), (by rw [hR]; exact (Nat.le_of_ble_eq_true rfl))⟩) (sP_V hP hD hK hN hLp0 hKp0 rfl rfl) rfl rfl hl.1 rfl (lv_room (Nat.le_of_ble_eq_true rfl)) dX7_masksMeet_26 ⟨(by rw [hR]; exact (Nat.le_of_ble_eq_true rfl)), (by rw [hR]; exact (Nat.le_of_ble_eq_true rfl))⟩) hS hP (fun z26 H locs hz26 hP hS => ?_)
      obtain ⟨bz26, fez26⟩ := hz26
      refine lv_icmp_ge (tgt := 133) hx hb dX7_masksMeet_29 (by decide) (fun c29 => ?_) (fun c29 => ?_)
      · have t29 := tq_le (k := z26.toInt) (q := z23.toInt) c29 rfl rfl
        refine lv_iconst (v := 0) hx hb dX7_masksMeet_133 (by decide +kernel) ?_
        subst hR; subst hQz
        exact W.zret (v := 0) hx hb hr (by decide +kernel) (fun t ht hW => ⟨⟨0, (), rfl, ⟨by decide +kernel, by decide +kernel⟩, trivial⟩, hS.F ht⟩) hS.2.2 dX7_masksMeet_134
      · have t29 := tq_nle (k := z26.toInt) (q := z23.toInt) c29 rfl rfl
        refine lv_bipush (v := 80) hx hb dX7_masksMeet_32 (by decide +kernel) ?_
        refine lv_iload_n hx hb dX7_masksMeet_34 rfl (lv_at hl 1 rfl) ?_
        refine lv_imul hx hb dX7_masksMeet_35 ?_
        refine lv_topi (fun z35 ez35 => ?_)
        have bz35 := tq_mul (k := (80)) (q := p1.toInt) ez35 (by decide +kernel) rfl (by omega) (by omega)
        refine lv_iconst (v := 2) hx hb dX7_masksMeet_36 (by decide +kernel) ?_
        refine lv_iload hx hb dX7_masksMeet_37 (lv_at hl 5 rfl) ?_
        refine lv_imul hx hb dX7_masksMeet_39 ?_
        refine lv_topi (fun z39 ez39 => ?_)
        have bz39 := tq_mul (k := (2)) (q := v9_5.toInt) ez39 (by decide +kernel) rfl (by omega) (by omega)
        refine lv_iadd hx hb dX7_masksMeet_40 ?_
        refine lv_topi (fun z40 ez40 => ?_)
        have bz40 := tq_add (k := z35.toInt) (q := z39.toInt) ez40 rfl rfl (by omega) (by omega)
        refine lv_istore (lv' := [(6, .int z40), (0, .ref p0), (1, .int p1), (2, .int p2), (3, .int p3), (4, .int p4), (5, .int v9_5)]) hx hb dX7_masksMeet_41 hl (by decide) rfl (fun ls hl => ?_)
        refine lv_bipush (v := 80) hx hb dX7_masksMeet_43 (by decide +kernel) ?_
        refine lv_iload_n hx hb dX7_masksMeet_45 rfl (lv_at hl 3 rfl) ?_
        refine lv_imul hx hb dX7_masksMeet_46 ?_
        refine lv_topi (fun z46 ez46 => ?_)
        have bz46 := tq_mul (k := (80)) (q := p2.toInt) ez46 (by decide +kernel) rfl (by omega) (by omega)
        refine lv_iconst (v := 2) hx hb dX7_masksMeet_47 (by decide +kernel) ?_
        refine lv_iload hx hb dX7_masksMeet_48 (lv_at hl 6 rfl) ?_
        refine lv_iload hx hb dX7_masksMeet_50 (lv_at hl 5 rfl) ?_
        refine lv_iadd hx hb dX7_masksMeet_52 ?_
        refine lv_topi (fun z52 ez52 => ?_)
        have bz52 := tq_add (k := v9_5.toInt) (q := p4.toInt) ez52 rfl rfl (by omega) (by omega)
        refine lv_imul hx hb dX7_masksMeet_53 ?_
        refine lv_topi (fun z53 ez53 => ?_)
        have bz53 := tq_mul (k := (2)) (q := z52.toInt) ez53 (by decide +kernel) rfl (by omega) (by omega)
        refine lv_iadd hx hb dX7_masksMeet_54 ?_
        refine lv_topi (fun z54 ez54 => ?_)
        have bz54 := tq_add (k := z46.toInt) (q := z53.toInt) ez54 rfl rfl (by omega) (by omega)
        refine lv_istore (lv' := [(7, .int z54), (6, .int z40), (0, .ref p0), (1, .int p1), (2, .int p2), (3, .int p3), (4, .int p4), (5, .int v9_5)]) hx hb dX7_masksMeet_55 hl (by decide) rfl (fun ls hl => ?_)
        refine lv_aload_n hx hb dX7_masksMeet_57 rfl (lv_at hl 2 rfl) ?_
        obtain ⟨y58, ey58, hLy58, hKy58⟩ := oQ_7_5 (Sv_at hQ hLp0 hKp0)
        refine p_get (v := .ref y58) hx hb hts inX7 hown hK hP hLp0 hKp0 rfl rfl 5 (by decide) (hts _ pq1120) (congrArg (fun q => some (va_rf q)) ey58) dX7_masksMeet_58 ?_
        refine lv_iload hx hb dX7_masksMeet_61 (lv_at hl 1 rfl) ?_
        refine p_lald hx hb hK hP 11 hLy58 hKy58 rfl rfl (in_of (by omega) (by omega)) dX7_masksMeet_63 ?_
        refine lv_topl (fun z63 ez63 => ?_)
        refine lv_aload_n hx hb dX7_masksMeet_64 rfl (lv_at hl 2 rfl) ?_
        refine p_get (v := .ref y58) hx hb hts inX7 hown hK hP hLp0 hKp0 rfl rfl 5 (by decide) (hts _ pq1120) (congrArg (fun q => some (va_rf q)) ey58) dX7_masksMeet_65 ?_
        refine lv_iload hx hb dX7_masksMeet_68 (lv_at hl 1 rfl) ?_
        refine lv_iconst (v := 1) hx hb dX7_masksMeet_70 (by decide +kernel) ?_
        refine lv_iadd hx hb dX7_masksMeet_71 ?_
        refine lv_topi (fun z71 ez71 => ?_)
        have bz71 := tq_add (k := z40.toInt) (q := (1)) ez71 rfl (by decide +kernel) (by omega) (by omega)
        refine p_lald hx hb hK hP 11 hLy58 hKy58 rfl rfl (in_of (by omega) (by omega)) dX7_masksMeet_72 ?_
        refine lv_topl (fun z72 ez72 => ?_)
        refine lv_iload_n hx hb dX7_masksMeet_73 rfl (lv_at hl 5 rfl) ?_
        refine ro_l (va_runS (As := [.long z63, .long z72, .int p3]) (rest := []) ⟨hx, hb, hml, hown, hts⟩ (s_X7_low l dC dI cs L K G Q hQ x0 m0 tx tm H.size I J hI z63 z72 p3) (va_cwS 3 hts (gS pq1464 pq1465 pq81 pq1466) rfl rfl rfl (by decide +kernel) ⟨(by rw [hR]; exact (Nat.le_of_ble_eq_true rfl)), (by rw [hR]; exact (Nat.le_of_ble_eq_true rfl))⟩) (sP_S hP hD hK hN) rfl rfl hl.1 rfl (lv_room (Nat.le_of_ble_eq_true rfl)) dX7_masksMeet_74 ⟨(by rw [hR]; exact (Nat.le_of_ble_eq_true rfl)), (by rw [hR]; exact (Nat.le_of_ble_eq_true rfl))⟩) hS hP (fun z74 H locs hz74 hP hS => ?_)
        refine lv_aload_n hx hb dX7_masksMeet_77 rfl (lv_at hl 2 rfl) ?_
        refine p_get (v := .ref y58) hx hb hts inX7 hown hK hP hLp0 hKp0 rfl rfl 5 (by decide) (hts _ pq1120) (congrArg (fun q => some (va_rf q)) ey58) dX7_masksMeet_78 ?_
        refine lv_iload hx hb dX7_masksMeet_81 (lv_at hl 0 rfl) ?_
        refine p_lald hx hb hK hP 11 hLy58 hKy58 rfl rfl (in_of (by omega) (by omega)) dX7_masksMeet_83 ?_
        refine lv_topl (fun z83 ez83 => ?_)
        refine lv_land hx hb dX7_masksMeet_84 ?_
        refine lv_topl (fun z84 ez84 => ?_)
        refine lv_lconst (v := 0) hx hb dX7_masksMeet_85 (by decide +kernel) ?_
        refine W.lcmp hx hb dX7_masksMeet_86 ?_
        refine lv_topi (fun z86 ez86 => ?_)
        have bz86 := tq_lcmp (k := z84.toInt) (q := (0)) ez86 rfl (by decide +kernel)
        refine lv_if_ne (tgt := 125) hx hb dX7_masksMeet_87 (by decide) (fun c87 => ?_) (fun c87 => ?_)
        · have t87 := tq_ne (k := z86.toInt) (q := (0)) c87 rfl (by decide +kernel)
          refine lv_iconst (v := 1) hx hb dX7_masksMeet_125 (by decide +kernel) ?_
          subst hR; subst hQz
          exact W.zret (v := 1) hx hb hr (by decide +kernel) (fun t ht hW => ⟨⟨1, (), rfl, ⟨by decide +kernel, by decide +kernel⟩, trivial⟩, hS.F ht⟩) hS.2.2 dX7_masksMeet_126
        · have t87 := tq_eq (k := z86.toInt) (q := (0)) c87 rfl (by decide +kernel)
          refine lv_aload_n hx hb dX7_masksMeet_90 rfl (lv_at hl 2 rfl) ?_
          refine p_get (v := .ref y58) hx hb hts inX7 hown hK hP hLp0 hKp0 rfl rfl 5 (by decide) (hts _ pq1120) (congrArg (fun q => some (va_rf q)) ey58) dX7_masksMeet_91 ?_
          refine lv_iload hx hb dX7_masksMeet_94 (lv_at hl 1 rfl) ?_
          refine p_lald hx hb hK hP 11 hLy58 hKy58 rfl rfl (in_of (by omega) (by omega)) dX7_masksMeet_96 ?_
          refine lv_topl (fun z96 ez96 => ?_)
          obtain rfl : z63 = z96 := ez63.trans ez96.symm
          refine lv_aload_n hx hb dX7_masksMeet_97 rfl (lv_at hl 2 rfl) ?_
          refine p_get (v := .ref y58) hx hb hts inX7 hown hK hP hLp0 hKp0 rfl rfl 5 (by decide) (hts _ pq1120) (congrArg (fun q => some (va_rf q)) ey58) dX7_masksMeet_98 ?_
          refine lv_iload hx hb dX7_masksMeet_101 (lv_at hl 1 rfl) ?_
          refine lv_iconst (v := 1) hx hb dX7_masksMeet_103 (by decide +kernel) ?_
          refine lv_iadd hx hb dX7_masksMeet_104 ?_
          refine lv_topi (fun z104 ez104 => ?_)
          have bz104 := tq_add (k := z40.toInt) (q := (1)) ez104 rfl (by decide +kernel) (by omega) (by omega)
          refine p_lald hx hb hK hP 11 hLy58 hKy58 rfl rfl (in_of (by omega) (by omega)) dX7_masksMeet_105 ?_
          refine lv_topl (fun z105 ez105 => ?_)
          refine lv_iload_n hx hb dX7_masksMeet_106 rfl (lv_at hl 5 rfl) ?_
          refine ro_l (va_runS (As := [.long z63, .long z105, .int p3]) (rest := []) ⟨hx, hb, hml, hown, hts⟩ (s_X7_top l dC dI cs L K G Q hQ x0 m0 tx tm H.size I J hI z63 z105 p3) (va_cwS 3 hts (gS pq1467 pq1468 pq81 pq1469) rfl rfl rfl (by decide +kernel) ⟨(by rw [hR]; exact (Nat.le_of_ble_eq_true rfl)), (by rw [hR]; exact (Nat.le_of_ble_eq_true rfl))⟩) (sP_S hP hD hK hN) rfl rfl hl.1 rfl (lv_room (Nat.le_of_ble_eq_true rfl)) dX7_masksMeet_107 ⟨(by rw [hR]; exact (Nat.le_of_ble_eq_true rfl)), (by rw [hR]; exact (Nat.le_of_ble_eq_true rfl))⟩) hS hP (fun z107 H locs hz107 hP hS => ?_)
          refine lv_aload_n hx hb dX7_masksMeet_110 rfl (lv_at hl 2 rfl) ?_
          refine p_get (v := .ref y58) hx hb hts inX7 hown hK hP hLp0 hKp0 rfl rfl 5 (by decide) (hts _ pq1120) (congrArg (fun q => some (va_rf q)) ey58) dX7_masksMeet_111 ?_
          refine lv_iload hx hb dX7_masksMeet_114 (lv_at hl 0 rfl) ?_
          refine lv_iconst (v := 1) hx hb dX7_masksMeet_116 (by decide +kernel) ?_
          refine lv_iadd hx hb dX7_masksMeet_117 ?_
          refine lv_topi (fun z117 ez117 => ?_)
          have bz117 := tq_add (k := z54.toInt) (q := (1)) ez117 rfl (by decide +kernel) (by omega) (by omega)
          refine p_lald hx hb hK hP 11 hLy58 hKy58 rfl rfl (in_of (by omega) (by omega)) dX7_masksMeet_118 ?_
          refine lv_topl (fun z118 ez118 => ?_)
          refine lv_land hx hb dX7_masksMeet_119 ?_
          refine lv_topl (fun z119 ez119 => ?_)
          refine lv_lconst (v := 0) hx hb dX7_masksMeet_120 (by decide +kernel) ?_
          refine W.lcmp hx hb dX7_masksMeet_121 ?_
          refine lv_topi (fun z121 ez121 => ?_)
          have bz121 := tq_lcmp (k := z119.toInt) (q := (0)) ez121 rfl (by decide +kernel)
          refine lv_if_eq (tgt := 127) hx hb dX7_masksMeet_122 (by decide) (fun c122 => ?_) (fun c122 => ?_)
          · have t122 := tq_eq (k := z121.toInt) (q := (0)) c122 rfl (by decide +kernel)
            obtain ⟨z127, ez127⟩ : ∃ y : Int32, y = v9_5 + 1 := ⟨_, rfl⟩
            refine lv_iinc (v := z127) (lv' := [(5, .int z127), (7, .int z54), (6, .int z40), (0, .ref p0), (1, .int p1), (2, .int p2), (3, .int p3), (4, .int p4)]) hx hb dX7_masksMeet_127 hl (k := 7) rfl (by rw [ez127]; rfl) (by decide) rfl (fun ls hl => ?_)
            have bz127 := tq_add (k := v9_5.toInt) (q := 1) ez127 rfl (by decide +kernel) (by omega) (by omega)
            refine lv_goto (tgt := 9) hx hb dX7_masksMeet_130 (by decide) ?_
            exact ih9 _ (by omega) z127 _ _ _ rfl ⟨by omega, by omega⟩ (by omega) hP hS (lv_sub hl [3, 4, 5, 6, 7, 0] rfl)
          · have t122 := tq_ne (k := z121.toInt) (q := (0)) c122 rfl (by decide +kernel)
            refine lv_iconst (v := 1) hx hb dX7_masksMeet_125 (by decide +kernel) ?_
            subst hR; subst hQz
            exact W.zret (v := 1) hx hb hr (by decide +kernel) (fun t ht hW => ⟨⟨1, (), rfl, ⟨by decide +kernel, by decide +kernel⟩, trivial⟩, hS.F ht⟩) hS.2.2 dX7_masksMeet_126)
  exact key9 _ z4 _ _ _ rfl ⟨by omega, by omega⟩ (by omega) hP hS (lv_sub hl [1, 2, 3, 4, 5, 0] rfl)

set_option maxHeartbeats 4000000 in
set_option maxRecDepth 100000 in
theorem s_X7_shifts (l : Launch) (dC : Nat → ClassId) (dI : Nat → Nat → Nat) (cs : Nat → ClassId) (L : List Nat) (K G : Nat → Nat) (Q : Nat → Nat → Option Nat) (hQ : Sv L K G Q) (x0 m0 : Nat) (tx : Int32) (tm : Int32 × Int) (sz : Nat) (I : Nat → Nat → Int32) (J : Nat → Nat → Int64) (hI : Iv L K x0 m0 tx tm I) (p0 : Nat) (hLp0 : p0 ∈ L) (hKp0 : K p0 = 7) (p1 : Int32) (p2 : Int32) : Met l yX7_shifts (.code yX7_shifts cX7_shifts 6 (some .int) :: pw) ({ frames := 2, cells := 0, slots := 0, locals := 52 }) (sP (dC, dI) cs [.ref p0, .int p1, .int p2] sz L K I J Q) (va_Qi (fun (r : Int32) (_ : Unit) => True) (fun _ _ => True) (fun _ => False)) 0 0 (fun _ => False) := by
  refine Met.ofW (cc := cX7_shifts) (maxL := 6) (ret := (some .int)) (by decide +kernel) rfl ?_
  intro p e s m args below meth c s₁ B hml hv
  obtain ⟨rfl, hsz, hP, hK, hD0, hN⟩ := hv
  have hx := B.exec
  have hb := B.bytes
  have hr := B.returns
  have hts := fun w (h : w ∈ pw) => atoms_spec (ws := Cond.code yX7_shifts cX7_shifts 6 (some .int) :: pw) B.pre w (List.mem_cons_of_mem _ h)
  have hown : s.vm.findClass RX7 = some m.cls := findClass_of_methodNamed B.named
  have hlocks := B.notSynchronized
  subst hsz
  have hBB : 999 ≤ tm.2 ∧ tm.2 ≤ 6000000 := hI.2.2.2.2
  have hD := hD0
  obtain ⟨H, hHe⟩ : ∃ H : Heap, H = s.heap := ⟨_, rfl⟩
  have hS : va_S (fun _ => False) s.heap H [] := by rw [hHe]; exact va_S.rf
  rw [← hHe] at hP
  have hl := lv_entry ([.ref p0, .int p1, .int p2]) (n := 6) (Nat.le_of_ble_eq_true rfl)
  rw [lg_entry_eq]
  generalize (lg_sl ([.ref p0, .int p1, .int p2]) ++ List.replicate (6 - (lg_sl ([.ref p0, .int p1, .int p2])).length) Slot.unset).toArray = ls at hl ⊢
  have hl : lv_has ls 6 [(0, .ref p0), (1, .int p1), (2, .int p2)] := hl
  rw [← hHe]
  refine namedW (fun R Qz hR hQz => ?_)
  refine lv_aload_n hx hb dX7_shifts_0 rfl (lv_at hl 0 rfl) ?_
  refine lv_iload_n hx hb dX7_shifts_1 rfl (lv_at hl 1 rfl) ?_
  refine ro_i (va_runV (As := [.int p1]) (rest := []) ⟨hx, hb, hml, hown, hts⟩ (s_X7_isMask l dC dI cs L K G Q hQ x0 m0 tx tm H.size I J hI p0 hLp0 hKp0 p1) (cwV 1 hts (gV pq1364 pq1366 pq31 pq81 pq1367) rfl rfl rfl (by decide +kernel) ⟨(by rw [hR]; exact (Nat.le_of_ble_eq_true rfl)), (by rw [hR]; exact (Nat.le_of_ble_eq_true rfl))⟩) (sP_V hP hD hK hN hLp0 hKp0 rfl rfl) rfl rfl hl.1 rfl (lv_room (Nat.le_of_ble_eq_true rfl)) dX7_shifts_2 ⟨(by rw [hR]; exact (Nat.le_of_ble_eq_true rfl)), (by rw [hR]; exact (Nat.le_of_ble_eq_true rfl))⟩) hS hP (fun z2 H locs hz2 hP hS => ?_)
  obtain ⟨bz2, imz2⟩ := hz2
  refine lv_if_eq (tgt := 16) hx hb dX7_shifts_5 (by decide) (fun c5 => ?_) (fun c5 => ?_)
  · have t5 := tq_eq (k := z2.toInt) (q := (0)) c5 rfl (by decide +kernel)
    refine lv_iconst (v := (-1)) hx hb dX7_shifts_16 (by decide +kernel) ?_
    subst hR; subst hQz
    exact W.iret (v := (-1)) hx hb hr (fun t ht hW => ⟨⟨(-1), (), rfl, trivial, trivial⟩, hS.F ht⟩) hS.2.2 dX7_shifts_17
  · have t5 := tq_ne (k := z2.toInt) (q := (0)) c5 rfl (by decide +kernel)
    have i5 := imz2 t5
    refine lv_aload_n hx hb dX7_shifts_8 rfl (lv_at hl 0 rfl) ?_
    refine lv_iload_n hx hb dX7_shifts_9 rfl (lv_at hl 2 rfl) ?_
    refine ro_i (va_runV (As := [.int p2]) (rest := []) ⟨hx, hb, hml, hown, hts⟩ (s_X7_isMask l dC dI cs L K G Q hQ x0 m0 tx tm H.size I J hI p0 hLp0 hKp0 p2) (cwV 1 hts (gV pq1364 pq1366 pq31 pq81 pq1367) rfl rfl rfl (by decide +kernel) ⟨(by rw [hR]; exact (Nat.le_of_ble_eq_true rfl)), (by rw [hR]; exact (Nat.le_of_ble_eq_true rfl))⟩) (sP_V hP hD hK hN hLp0 hKp0 rfl rfl) rfl rfl hl.1 rfl (lv_room (Nat.le_of_ble_eq_true rfl)) dX7_shifts_10 ⟨(by rw [hR]; exact (Nat.le_of_ble_eq_true rfl)), (by rw [hR]; exact (Nat.le_of_ble_eq_true rfl))⟩) hS hP (fun z10 H locs hz10 hP hS => ?_)
    obtain ⟨bz10, imz10⟩ := hz10
    refine lv_if_ne (tgt := 18) hx hb dX7_shifts_13 (by decide) (fun c13 => ?_) (fun c13 => ?_)
    · have t13 := tq_ne (k := z10.toInt) (q := (0)) c13 rfl (by decide +kernel)
      have i13 := imz10 t13
      refine lv_iconst (v := 0) hx hb dX7_shifts_18 (by decide +kernel) ?_
      refine lv_istore_n (lv' := [(3, .int 0), (0, .ref p0), (1, .int p1), (2, .int p2)]) hx hb dX7_shifts_19 rfl hl (by decide) rfl (fun ls hl => ?_)
      refine lv_iconst (v := 1) hx hb dX7_shifts_20 (by decide +kernel) ?_
      refine lv_aload_n hx hb dX7_shifts_21 rfl (lv_at hl 1 rfl) ?_
      refine lv_iload_n hx hb dX7_shifts_22 rfl (lv_at hl 2 rfl) ?_
      refine ro_i (va_runV (As := [.int p1]) (rest := [.int 1]) ⟨hx, hb, hml, hown, hts⟩ (s_X7_high l dC dI cs L K G Q hQ x0 m0 tx tm H.size I J hI p0 hLp0 hKp0 p1 ⟨by omega, by omega⟩) (cwV 1 hts (gV pq1372 pq1374 pq33 pq81 pq1375) rfl rfl rfl (by decide +kernel) ⟨(by rw [hR]; exact (Nat.le_of_ble_eq_true rfl)), (by rw [hR]; exact (Nat.le_of_ble_eq_true rfl))⟩) (sP_V hP hD hK hN hLp0 hKp0 rfl rfl) rfl rfl hl.1 rfl (lv_room (Nat.le_of_ble_eq_true rfl)) dX7_shifts_23 ⟨(by rw [hR]; exact (Nat.le_of_ble_eq_true rfl)), (by rw [hR]; exact (Nat.le_of_ble_eq_true rfl))⟩) hS hP (fun z23 H locs hz23 hP hS => ?_)
      obtain ⟨bz23, fez23⟩ := hz23
      refine lv_isub hx hb dX7_shifts_26 ?_
      refine lv_topi (fun z26 ez26 => ?_)
      have bz26 := tq_sub (k := (1)) (q := z23.toInt) ez26 (by decide +kernel) rfl (by omega) (by omega)
      refine lv_istore (lv' := [(4, .int z26), (3, .int 0), (0, .ref p0), (1, .int p1), (2, .int p2)]) hx hb dX7_shifts_27 hl (by decide) rfl (fun ls hl => ?_)
      have key29 := blocks (fun n => ∀ (v29_3 : Int32) (v29_4 : Int32) (H : Heap) (lo : List Loc) (ls : Array Slot), (302 - v29_4.toInt).toNat = n → ((-39) ≤ v29_4.toInt ∧ v29_4.toInt ≤ 301) → va_P (dC, dI) vwCl (Wd cs L K I J Q) H → va_S (fun _ => False) s.heap H lo → lv_has ls 6 [(0, .ref p0), (1, .int p1), (2, .int p2), (3, .int v29_3), (4, .int v29_4)] → W p l e R s m (([.ref p0, .int p1, .int p2] : List Value).toArray) below meth c H lo 0 0 Qz (F0 m 29 ls [])) (by
        intro n ih29
        intro v29_3 v29_4 H lo ls hmu29 bv29_4 hP hS hl
        refine lv_iload hx hb dX7_shifts_29 (lv_at hl 4 rfl) ?_
        refine lv_aload_n hx hb dX7_shifts_31 rfl (lv_at hl 0 rfl) ?_
        refine lv_iload_n hx hb dX7_shifts_32 rfl (lv_at hl 2 rfl) ?_
        refine ro_i (va_runV (As := [.int p2]) (rest := [.int v29_4]) ⟨hx, hb, hml, hown, hts⟩ (s_X7_high l dC dI cs L K G Q hQ x0 m0 tx tm H.size I J hI p0 hLp0 hKp0 p2 ⟨by omega, by omega⟩) (cwV 1 hts (gV pq1372 pq1374 pq33 pq81 pq1375) rfl rfl rfl (by decide +kernel) ⟨(by rw [hR]; exact (Nat.le_of_ble_eq_true rfl)), (by rw [hR]; exact (Nat.le_of_ble_eq_true rfl))⟩) (sP_V hP hD hK hN hLp0 hKp0 rfl rfl) rfl rfl hl.1 rfl (lv_room (Nat.le_of_ble_eq_true rfl)) dX7_shifts_33 ⟨(by rw [hR]; exact (Nat.le_of_ble_eq_true rfl)), (by rw [hR]; exact (Nat.le_of_ble_eq_true rfl))⟩) hS hP (fun z33 H locs hz33 hP hS => ?_)
        obtain ⟨bz33, fez33⟩ := hz33
        refine lv_icmp_ge (tgt := 86) hx hb dX7_shifts_36 (by decide) (fun c36 => ?_) (fun c36 => ?_)
        · have t36 := tq_le (k := z33.toInt) (q := v29_4.toInt) c36 rfl rfl
          refine lv_iload_n hx hb dX7_shifts_86 rfl (lv_at hl 3 rfl) ?_
          subst hR; subst hQz
          exact W.iret (v := v29_3) hx hb hr (fun t ht hW => ⟨⟨v29_3, (), rfl, trivial, trivial⟩, hS.F ht⟩) hS.2.2 dX7_shifts_87
        · have t36 := tq_nle (k := z33.toInt) (q := v29_4.toInt) c36 rfl rfl
          refine lv_iconst (v := 1) hx hb dX7_shifts_39 (by decide +kernel) ?_
          refine lv_aload_n hx hb dX7_shifts_40 rfl (lv_at hl 0 rfl) ?_
          refine lv_iload_n hx hb dX7_shifts_41 rfl (lv_at hl 1 rfl) ?_
          refine ro_i (va_runV (As := [.int p1]) (rest := [.int 1]) ⟨hx, hb, hml, hown, hts⟩ (s_X7_wide l dC dI cs L K G Q hQ x0 m0 tx tm H.size I J hI p0 hLp0 hKp0 p1 ⟨by omega, by omega⟩) (cwV 1 hts (gV pq1368 pq1370 pq32 pq81 pq1371) rfl rfl rfl (by decide +kernel) ⟨(by rw [hR]; exact (Nat.le_of_ble_eq_true rfl)), (by rw [hR]; exact (Nat.le_of_ble_eq_true rfl))⟩) (sP_V hP hD hK hN hLp0 hKp0 rfl rfl) rfl rfl hl.1 rfl (lv_room (Nat.le_of_ble_eq_true rfl)) dX7_shifts_42 ⟨(by rw [hR]; exact (Nat.le_of_ble_eq_true rfl)), (by rw [hR]; exact (Nat.le_of_ble_eq_true rfl))⟩) hS hP (fun z42 H locs hz42 hP hS => ?_)
          obtain ⟨bz42, fez42⟩ := hz42
          refine lv_isub hx hb dX7_shifts_45 ?_
          refine lv_topi (fun z45 ez45 => ?_)
          have bz45 := tq_sub (k := (1)) (q := z42.toInt) ez45 (by decide +kernel) rfl (by omega) (by omega)
          refine lv_istore (lv' := [(5, .int z45), (0, .ref p0), (1, .int p1), (2, .int p2), (3, .int v29_3), (4, .int v29_4)]) hx hb dX7_shifts_46 hl (by decide) rfl (fun ls hl => ?_)
          have key48 := blocks (fun n => ∀ (v48_3 : Int32) (v48_5 : Int32) (H : Heap) (lo : List Loc) (ls : Array Slot), (302 - v48_5.toInt).toNat = n → ((-99) ≤ v48_5.toInt ∧ v48_5.toInt ≤ 301) → va_P (dC, dI) vwCl (Wd cs L K I J Q) H → va_S (fun _ => False) s.heap H lo → lv_has ls 6 [(0, .ref p0), (1, .int p1), (2, .int p2), (3, .int v48_3), (4, .int v29_4), (5, .int v48_5)] → W p l e R s m (([.ref p0, .int p1, .int p2] : List Value).toArray) below meth c H lo 0 0 Qz (F0 m 48 ls [])) (by
            intro n ih48
            intro v48_3 v48_5 H lo ls hmu48 bv48_5 hP hS hl
            refine lv_iload hx hb dX7_shifts_48 (lv_at hl 5 rfl) ?_
            refine lv_aload_n hx hb dX7_shifts_50 rfl (lv_at hl 0 rfl) ?_
            refine lv_iload_n hx hb dX7_shifts_51 rfl (lv_at hl 2 rfl) ?_
            refine ro_i (va_runV (As := [.int p2]) (rest := [.int v48_5]) ⟨hx, hb, hml, hown, hts⟩ (s_X7_wide l dC dI cs L K G Q hQ x0 m0 tx tm H.size I J hI p0 hLp0 hKp0 p2 ⟨by omega, by omega⟩) (cwV 1 hts (gV pq1368 pq1370 pq32 pq81 pq1371) rfl rfl rfl (by decide +kernel) ⟨(by rw [hR]; exact (Nat.le_of_ble_eq_true rfl)), (by rw [hR]; exact (Nat.le_of_ble_eq_true rfl))⟩) (sP_V hP hD hK hN hLp0 hKp0 rfl rfl) rfl rfl hl.1 rfl (lv_room (Nat.le_of_ble_eq_true rfl)) dX7_shifts_52 ⟨(by rw [hR]; exact (Nat.le_of_ble_eq_true rfl)), (by rw [hR]; exact (Nat.le_of_ble_eq_true rfl))⟩) hS hP (fun z52 H locs hz52 hP hS => ?_)
            obtain ⟨bz52, fez52⟩ := hz52
            refine lv_icmp_ge (tgt := 80) hx hb dX7_shifts_55 (by decide) (fun c55 => ?_) (fun c55 => ?_)
            · have t55 := tq_le (k := z52.toInt) (q := v48_5.toInt) c55 rfl rfl
              obtain ⟨z80, ez80⟩ : ∃ y : Int32, y = v29_4 + 1 := ⟨_, rfl⟩
              refine lv_iinc (v := z80) (lv' := [(4, .int z80), (0, .ref p0), (1, .int p1), (2, .int p2), (3, .int v48_3), (5, .int v48_5)]) hx hb dX7_shifts_80 hl (k := 4) rfl (by rw [ez80]; rfl) (by decide) rfl (fun ls hl => ?_)
              have bz80 := tq_add (k := v29_4.toInt) (q := 1) ez80 rfl (by decide +kernel) (by omega) (by omega)
              refine lv_goto (tgt := 29) hx hb dX7_shifts_83 (by decide) ?_
              exact ih29 _ (by omega) v48_3 z80 _ _ _ rfl ⟨by omega, by omega⟩ hP hS (lv_sub hl [1, 2, 3, 4, 0] rfl)
            · have t55 := tq_nle (k := z52.toInt) (q := v48_5.toInt) c55 rfl rfl
              refine lv_iload_n hx hb dX7_shifts_58 rfl (lv_at hl 3 rfl) ?_
              refine lv_aload_n hx hb dX7_shifts_59 rfl (lv_at hl 0 rfl) ?_
              refine lv_iload_n hx hb dX7_shifts_60 rfl (lv_at hl 1 rfl) ?_
              refine lv_iload_n hx hb dX7_shifts_61 rfl (lv_at hl 2 rfl) ?_
              refine lv_iload hx hb dX7_shifts_62 (lv_at hl 5 rfl) ?_
              refine lv_iload hx hb dX7_shifts_64 (lv_at hl 4 rfl) ?_
              refine ro_i (va_runV (As := [.int p1, .int p2, .int v48_5, .int v29_4]) (rest := [.int v48_3]) ⟨hx, hb, hml, hown, hts⟩ (s_X7_masksMeet l dC dI cs L K G Q hQ x0 m0 tx tm H.size I J hI p0 hLp0 hKp0 p1 ⟨by omega, by omega⟩ p2 ⟨by omega, by omega⟩ v48_5 v29_4 ⟨by omega, by omega⟩) (cwV 4 hts (gV pq1662 pq1664 pq68 pq81 pq1665) rfl rfl rfl (by decide +kernel) ⟨(by rw [hR]; exact (Nat.le_of_ble_eq_true rfl)), (by rw [hR]; exact (Nat.le_of_ble_eq_true rfl))⟩) (sP_V hP hD hK hN hLp0 hKp0 rfl rfl) rfl rfl hl.1 rfl (lv_room (Nat.le_of_ble_eq_true rfl)) dX7_shifts_66 ⟨(by rw [hR]; exact (Nat.le_of_ble_eq_true rfl)), (by rw [hR]; exact (Nat.le_of_ble_eq_true rfl))⟩) hS hP (fun z66 H locs hz66 hP hS => ?_)
              have bz66 := hz66
              refine ro_i (va_runS (As := [.int z66]) (rest := [.int v48_3]) ⟨hx, hb, hml, hown, hts⟩ (s_X7_truth l dC dI cs L K Q H.size I J z66) (va_cwS 1 hts (gS pq1257 pq1258 pq81 pq1259) rfl rfl rfl (by decide +kernel) ⟨(by rw [hR]; exact (Nat.le_of_ble_eq_true rfl)), (by rw [hR]; exact (Nat.le_of_ble_eq_true rfl))⟩) (sP_S hP hD hK hN) rfl rfl hl.1 rfl (lv_room (Nat.le_of_ble_eq_true rfl)) dX7_shifts_69 ⟨(by rw [hR]; exact (Nat.le_of_ble_eq_true rfl)), (by rw [hR]; exact (Nat.le_of_ble_eq_true rfl))⟩) hS hP (fun z69 H locs hz69 hP hS => ?_)
              obtain ⟨bz69, xpz69⟩ := hz69
              refine lv_iadd hx hb dX7_shifts_72 ?_
              refine lv_topi (fun z72 ez72 => ?_)
              refine lv_istore_n (lv' := [(3, .int z72), (0, .ref p0), (1, .int p1), (2, .int p2), (4, .int v29_4), (5, .int v48_5)]) hx hb dX7_shifts_73 rfl hl (by decide) rfl (fun ls hl => ?_)
              obtain ⟨z74, ez74⟩ : ∃ y : Int32, y = v48_5 + 1 := ⟨_, rfl⟩
              refine lv_iinc (v := z74) (lv' := [(5, .int z74), (3, .int z72), (0, .ref p0), (1, .int p1), (2, .int p2), (4, .int v29_4)]) hx hb dX7_shifts_74 hl (k := 5) rfl (by rw [ez74]; rfl) (by decide) rfl (fun ls hl => ?_)
              have bz74 := tq_add (k := v48_5.toInt) (q := 1) ez74 rfl (by decide +kernel) (by omega) (by omega)
              refine lv_goto (tgt := 48) hx hb dX7_shifts_77 (by decide) ?_
              exact ih48 _ (by omega) z72 z74 _ _ _ rfl ⟨by omega, by omega⟩ hP hS (lv_sub hl [2, 3, 4, 1, 5, 0] rfl))
          exact key48 _ v29_3 z45 _ _ _ rfl ⟨by omega, by omega⟩ hP hS (lv_sub hl [1, 2, 3, 4, 5, 0] rfl))
      exact key29 _ 0 z26 _ _ _ rfl ⟨by omega, by omega⟩ hP hS (lv_sub hl [2, 3, 4, 1, 0] rfl)
    · have t13 := tq_eq (k := z10.toInt) (q := (0)) c13 rfl (by decide +kernel)
      refine lv_iconst (v := (-1)) hx hb dX7_shifts_16 (by decide +kernel) ?_
      subst hR; subst hQz
      exact W.iret (v := (-1)) hx hb hr (fun t ht hW => ⟨⟨(-1), (), rfl, trivial, trivial⟩, hS.F ht⟩) hS.2.2 dX7_shifts_17

set_option maxHeartbeats 4000000 in
set_option maxRecDepth 100000 in
theorem s_X7_areLike (l : Launch) (dC : Nat → ClassId) (dI : Nat → Nat → Nat) (cs : Nat → ClassId) (L : List Nat) (K G : Nat → Nat) (Q : Nat → Nat → Option Nat) (hQ : Sv L K G Q) (x0 m0 : Nat) (tx : Int32) (tm : Int32 × Int) (sz : Nat) (I : Nat → Nat → Int32) (J : Nat → Nat → Int64) (hI : Iv L K x0 m0 tx tm I) (p0 : Nat) (hLp0 : p0 ∈ L) (hKp0 : K p0 = 7) (p1 : Int32) (bp1 : (0) ≤ p1.toInt ∧ p1.toInt ≤ 7) (p2 : Int32) (bp2 : (0) ≤ p2.toInt ∧ p2.toInt ≤ 7) (p3 : Int32) : Met l yX7_areLike (.code yX7_areLike cX7_areLike 6 (some .boolean) :: pw) ({ frames := 2, cells := 0, slots := 0, locals := 48 }) (sP (dC, dI) cs [.ref p0, .int p1, .int p2, .int p3] sz L K I J Q) (va_Qi (fun (r : Int32) (_ : Unit) => ((0) ≤ r.toInt ∧ r.toInt ≤ 1)) (fun _ _ => True) (fun _ => False)) 0 0 (fun _ => False) := by
  refine Met.ofW (cc := cX7_areLike) (maxL := 6) (ret := (some .boolean)) (by decide +kernel) rfl ?_
  intro p e s m args below meth c s₁ B hml hv
  obtain ⟨rfl, hsz, hP, hK, hD0, hN⟩ := hv
  have hx := B.exec
  have hb := B.bytes
  have hr := B.returns
  have hts := fun w (h : w ∈ pw) => atoms_spec (ws := Cond.code yX7_areLike cX7_areLike 6 (some .boolean) :: pw) B.pre w (List.mem_cons_of_mem _ h)
  have hown : s.vm.findClass RX7 = some m.cls := findClass_of_methodNamed B.named
  have hlocks := B.notSynchronized
  subst hsz
  have hBB : 999 ≤ tm.2 ∧ tm.2 ≤ 6000000 := hI.2.2.2.2
  have hD := hD0
  obtain ⟨H, hHe⟩ : ∃ H : Heap, H = s.heap := ⟨_, rfl⟩
  have hS : va_S (fun _ => False) s.heap H [] := by rw [hHe]; exact va_S.rf
  rw [← hHe] at hP
  have hl := lv_entry ([.ref p0, .int p1, .int p2, .int p3]) (n := 6) (Nat.le_of_ble_eq_true rfl)
  rw [lg_entry_eq]
  generalize (lg_sl ([.ref p0, .int p1, .int p2, .int p3]) ++ List.replicate (6 - (lg_sl ([.ref p0, .int p1, .int p2, .int p3])).length) Slot.unset).toArray = ls at hl ⊢
  have hl : lv_has ls 6 [(0, .ref p0), (1, .int p1), (2, .int p2), (3, .int p3)] := hl
  rw [← hHe]
  refine namedW (fun R Qz hR hQz => ?_)
  refine lv_aload_n hx hb dX7_areLike_0 rfl (lv_at hl 0 rfl) ?_
  refine lv_iload_n hx hb dX7_areLike_1 rfl (lv_at hl 1 rfl) ?_
  refine ro_i (va_runV (As := [.int p1]) (rest := []) ⟨hx, hb, hml, hown, hts⟩ (s_X7_wide l dC dI cs L K G Q hQ x0 m0 tx tm H.size I J hI p0 hLp0 hKp0 p1 ⟨by omega, by omega⟩) (cwV 1 hts (gV pq1368 pq1370 pq32 pq81 pq1371) rfl rfl rfl (by decide +kernel) ⟨(by rw [hR]; exact (Nat.le_of_ble_eq_true rfl)), (by rw [hR]; exact (Nat.le_of_ble_eq_true rfl))⟩) (sP_V hP hD hK hN hLp0 hKp0 rfl rfl) rfl rfl hl.1 rfl (lv_room (Nat.le_of_ble_eq_true rfl)) dX7_areLike_2 ⟨(by rw [hR]; exact (Nat.le_of_ble_eq_true rfl)), (by rw [hR]; exact (Nat.le_of_ble_eq_true rfl))⟩) hS hP (fun z2 H locs hz2 hP hS => ?_)
  obtain ⟨bz2, fez2⟩ := hz2
  refine lv_aload_n hx hb dX7_areLike_5 rfl (lv_at hl 0 rfl) ?_
  refine lv_iload_n hx hb dX7_areLike_6 rfl (lv_at hl 2 rfl) ?_
  refine ro_i (va_runV (As := [.int p2]) (rest := [.int z2]) ⟨hx, hb, hml, hown, hts⟩ (s_X7_wide l dC dI cs L K G Q hQ x0 m0 tx tm H.size I J hI p0 hLp0 hKp0 p2 ⟨by omega, by omega⟩) (cwV 1 hts (gV pq1368 pq1370 pq32 pq81 pq1371) rfl rfl rfl (by decide +kernel) ⟨(by rw [hR]; exact (Nat.le_of_ble_eq_true rfl)), (by rw [hR]; exact (Nat.le_of_ble_eq_true rfl))⟩) (sP_V hP hD hK hN hLp0 hKp0 rfl rfl) rfl rfl hl.1 rfl (lv_room (Nat.le_of_ble_eq_true rfl)) dX7_areLike_7 ⟨(by rw [hR]; exact (Nat.le_of_ble_eq_true rfl)), (by rw [hR]; exact (Nat.le_of_ble_eq_true rfl))⟩) hS hP (fun z7 H locs hz7 hP hS => ?_)
  obtain ⟨bz7, fez7⟩ := hz7
  refine lv_icmp_ne (tgt := 26) hx hb dX7_areLike_10 (by decide) (fun c10 => ?_) (fun c10 => ?_)
  · have t10 := tq_ne (k := z2.toInt) (q := z7.toInt) c10 rfl rfl
    refine lv_iconst (v := 0) hx hb dX7_areLike_26 (by decide +kernel) ?_
    subst hR; subst hQz
    exact W.zret (v := 0) hx hb hr (by decide +kernel) (fun t ht hW => ⟨⟨0, (), rfl, ⟨by decide +kernel, by decide +kernel⟩, trivial⟩, hS.F ht⟩) hS.2.2 dX7_areLike_27
  · have t10 := tq_eq (k := z2.toInt) (q := z7.toInt) c10 rfl rfl
    refine lv_aload_n hx hb dX7_areLike_13 rfl (lv_at hl 0 rfl) ?_
    refine lv_iload_n hx hb dX7_areLike_14 rfl (lv_at hl 1 rfl) ?_
    refine ro_i (va_runV (As := [.int p1]) (rest := []) ⟨hx, hb, hml, hown, hts⟩ (s_X7_high l dC dI cs L K G Q hQ x0 m0 tx tm H.size I J hI p0 hLp0 hKp0 p1 ⟨by omega, by omega⟩) (cwV 1 hts (gV pq1372 pq1374 pq33 pq81 pq1375) rfl rfl rfl (by decide +kernel) ⟨(by rw [hR]; exact (Nat.le_of_ble_eq_true rfl)), (by rw [hR]; exact (Nat.le_of_ble_eq_true rfl))⟩) (sP_V hP hD hK hN hLp0 hKp0 rfl rfl) rfl rfl hl.1 rfl (lv_room (Nat.le_of_ble_eq_true rfl)) dX7_areLike_15 ⟨(by rw [hR]; exact (Nat.le_of_ble_eq_true rfl)), (by rw [hR]; exact (Nat.le_of_ble_eq_true rfl))⟩) hS hP (fun z15 H locs hz15 hP hS => ?_)
    obtain ⟨bz15, fez15⟩ := hz15
    refine lv_aload_n hx hb dX7_areLike_18 rfl (lv_at hl 0 rfl) ?_
    refine lv_iload_n hx hb dX7_areLike_19 rfl (lv_at hl 2 rfl) ?_
    refine ro_i (va_runV (As := [.int p2]) (rest := [.int z15]) ⟨hx, hb, hml, hown, hts⟩ (s_X7_high l dC dI cs L K G Q hQ x0 m0 tx tm H.size I J hI p0 hLp0 hKp0 p2 ⟨by omega, by omega⟩) (cwV 1 hts (gV pq1372 pq1374 pq33 pq81 pq1375) rfl rfl rfl (by decide +kernel) ⟨(by rw [hR]; exact (Nat.le_of_ble_eq_true rfl)), (by rw [hR]; exact (Nat.le_of_ble_eq_true rfl))⟩) (sP_V hP hD hK hN hLp0 hKp0 rfl rfl) rfl rfl hl.1 rfl (lv_room (Nat.le_of_ble_eq_true rfl)) dX7_areLike_20 ⟨(by rw [hR]; exact (Nat.le_of_ble_eq_true rfl)), (by rw [hR]; exact (Nat.le_of_ble_eq_true rfl))⟩) hS hP (fun z20 H locs hz20 hP hS => ?_)
    obtain ⟨bz20, fez20⟩ := hz20
    refine lv_icmp_eq (tgt := 28) hx hb dX7_areLike_23 (by decide) (fun c23 => ?_) (fun c23 => ?_)
    · have t23 := tq_eq (k := z15.toInt) (q := z20.toInt) c23 rfl rfl
      refine lv_iconst (v := 0) hx hb dX7_areLike_28 (by decide +kernel) ?_
      refine lv_istore (lv' := [(4, .int 0), (0, .ref p0), (1, .int p1), (2, .int p2), (3, .int p3)]) hx hb dX7_areLike_29 hl (by decide) rfl (fun ls hl => ?_)
      have key31 := blocks (fun n => ∀ (v31_4 : Int32) (H : Heap) (lo : List Loc) (ls : Array Slot), (41 - v31_4.toInt).toNat = n → ((0) ≤ v31_4.toInt ∧ v31_4.toInt ≤ 40) → va_P (dC, dI) vwCl (Wd cs L K I J Q) H → va_S (fun _ => False) s.heap H lo → lv_has ls 6 [(0, .ref p0), (1, .int p1), (2, .int p2), (3, .int p3), (4, .int v31_4)] → W p l e R s m (([.ref p0, .int p1, .int p2, .int p3] : List Value).toArray) below meth c H lo 0 0 Qz (F0 m 31 ls [])) (by
        intro n ih31
        intro v31_4 H lo ls hmu31 bv31_4 hP hS hl
        refine lv_iload hx hb dX7_areLike_31 (lv_at hl 4 rfl) ?_
        refine lv_aload_n hx hb dX7_areLike_33 rfl (lv_at hl 0 rfl) ?_
        refine lv_iload_n hx hb dX7_areLike_34 rfl (lv_at hl 1 rfl) ?_
        refine ro_i (va_runV (As := [.int p1]) (rest := [.int v31_4]) ⟨hx, hb, hml, hown, hts⟩ (s_X7_high l dC dI cs L K G Q hQ x0 m0 tx tm H.size I J hI p0 hLp0 hKp0 p1 ⟨by omega, by omega⟩) (cwV 1 hts (gV pq1372 pq1374 pq33 pq81 pq1375) rfl rfl rfl (by decide +kernel) ⟨(by rw [hR]; exact (Nat.le_of_ble_eq_true rfl)), (by rw [hR]; exact (Nat.le_of_ble_eq_true rfl))⟩) (sP_V hP hD hK hN hLp0 hKp0 rfl rfl) rfl rfl hl.1 rfl (lv_room (Nat.le_of_ble_eq_true rfl)) dX7_areLike_35 ⟨(by rw [hR]; exact (Nat.le_of_ble_eq_true rfl)), (by rw [hR]; exact (Nat.le_of_ble_eq_true rfl))⟩) hS hP (fun z35 H locs hz35 hP hS => ?_)
        obtain ⟨bz35, fez35⟩ := hz35
        obtain rfl : z15 = z35 := fez15.trans fez35.symm
        refine lv_icmp_ge (tgt := 127) hx hb dX7_areLike_38 (by decide) (fun c38 => ?_) (fun c38 => ?_)
        · have t38 := tq_le (k := z15.toInt) (q := v31_4.toInt) c38 rfl rfl
          refine lv_iconst (v := 1) hx hb dX7_areLike_127 (by decide +kernel) ?_
          subst hR; subst hQz
          exact W.zret (v := 1) hx hb hr (by decide +kernel) (fun t ht hW => ⟨⟨1, (), rfl, ⟨by decide +kernel, by decide +kernel⟩, trivial⟩, hS.F ht⟩) hS.2.2 dX7_areLike_128
        · have t38 := tq_nle (k := z15.toInt) (q := v31_4.toInt) c38 rfl rfl
          refine lv_iconst (v := 0) hx hb dX7_areLike_41 (by decide +kernel) ?_
          refine lv_istore (lv' := [(5, .int 0), (0, .ref p0), (1, .int p1), (2, .int p2), (3, .int p3), (4, .int v31_4)]) hx hb dX7_areLike_42 hl (by decide) rfl (fun ls hl => ?_)
          have key44 := blocks (fun n => ∀ (v44_5 : Int32) (H : Heap) (lo : List Loc) (ls : Array Slot), (101 - v44_5.toInt).toNat = n → ((0) ≤ v44_5.toInt ∧ v44_5.toInt ≤ 100) → va_P (dC, dI) vwCl (Wd cs L K I J Q) H → va_S (fun _ => False) s.heap H lo → lv_has ls 6 [(0, .ref p0), (1, .int p1), (2, .int p2), (3, .int p3), (4, .int v31_4), (5, .int v44_5)] → W p l e R s m (([.ref p0, .int p1, .int p2, .int p3] : List Value).toArray) below meth c H lo 0 0 Qz (F0 m 44 ls [])) (by
            intro n ih44
            intro v44_5 H lo ls hmu44 bv44_5 hP hS hl
            refine lv_iload hx hb dX7_areLike_44 (lv_at hl 5 rfl) ?_
            refine lv_aload_n hx hb dX7_areLike_46 rfl (lv_at hl 0 rfl) ?_
            refine lv_iload_n hx hb dX7_areLike_47 rfl (lv_at hl 1 rfl) ?_
            refine ro_i (va_runV (As := [.int p1]) (rest := [.int v44_5]) ⟨hx, hb, hml, hown, hts⟩ (s_X7_wide l dC dI cs L K G Q hQ x0 m0 tx tm H.size I J hI p0 hLp0 hKp0 p1 ⟨by omega, by omega⟩) (cwV 1 hts (gV pq1368 pq1370 pq32 pq81 pq1371) rfl rfl rfl (by decide +kernel) ⟨(by rw [hR]; exact (Nat.le_of_ble_eq_true rfl)), (by rw [hR]; exact (Nat.le_of_ble_eq_true rfl))⟩) (sP_V hP hD hK hN hLp0 hKp0 rfl rfl) rfl rfl hl.1 rfl (lv_room (Nat.le_of_ble_eq_true rfl)) dX7_areLike_48 ⟨(by rw [hR]; exact (Nat.le_of_ble_eq_true rfl)), (by rw [hR]; exact (Nat.le_of_ble_eq_true rfl))⟩) hS hP (fun z48 H locs hz48 hP hS => ?_)
            obtain ⟨bz48, fez48⟩ := hz48
            obtain rfl : z2 = z48 := fez2.trans fez48.symm
            refine lv_icmp_ge (tgt := 121) hx hb dX7_areLike_51 (by decide) (fun c51 => ?_) (fun c51 => ?_)
            · have t51 := tq_le (k := z2.toInt) (q := v44_5.toInt) c51 rfl rfl
              obtain ⟨z121, ez121⟩ : ∃ y : Int32, y = v31_4 + 1 := ⟨_, rfl⟩
              refine lv_iinc (v := z121) (lv' := [(4, .int z121), (0, .ref p0), (1, .int p1), (2, .int p2), (3, .int p3), (5, .int v44_5)]) hx hb dX7_areLike_121 hl (k := 4) rfl (by rw [ez121]; rfl) (by decide) rfl (fun ls hl => ?_)
              have bz121 := tq_add (k := v31_4.toInt) (q := 1) ez121 rfl (by decide +kernel) (by omega) (by omega)
              refine lv_goto (tgt := 31) hx hb dX7_areLike_124 (by decide) ?_
              exact ih31 _ (by omega) z121 _ _ _ rfl ⟨by omega, by omega⟩ hP hS (lv_sub hl [1, 2, 3, 4, 0] rfl)
            · have t51 := tq_nle (k := z2.toInt) (q := v44_5.toInt) c51 rfl rfl
              refine lv_aload_n hx hb dX7_areLike_54 rfl (lv_at hl 0 rfl) ?_
              refine lv_iload_n hx hb dX7_areLike_55 rfl (lv_at hl 1 rfl) ?_
              refine lv_iload hx hb dX7_areLike_56 (lv_at hl 5 rfl) ?_
              refine lv_iload hx hb dX7_areLike_58 (lv_at hl 4 rfl) ?_
              refine ro_i (va_runV (As := [.int p1, .int v44_5, .int v31_4]) (rest := []) ⟨hx, hb, hml, hown, hts⟩ (s_X7_has l dC dI cs L K G Q hQ x0 m0 tx tm H.size I J hI p0 hLp0 hKp0 p1 ⟨by omega, by omega⟩ v44_5 v31_4) (cwV 3 hts (gV pq1376 pq1378 pq34 pq81 pq1379) rfl rfl rfl (by decide +kernel) ⟨(by rw [hR]; exact (Nat.le_of_ble_eq_true rfl)), (by rw [hR]; exact (Nat.le_of_ble_eq_true rfl))⟩) (sP_V hP hD hK hN hLp0 hKp0 rfl rfl) rfl rfl hl.1 rfl (lv_room (Nat.le_of_ble_eq_true rfl)) dX7_areLike_60 ⟨(by rw [hR]; exact (Nat.le_of_ble_eq_true rfl)), (by rw [hR]; exact (Nat.le_of_ble_eq_true rfl))⟩) hS hP (fun z60 H locs hz60 hP hS => ?_)
              obtain ⟨bz60, imz60⟩ := hz60
              refine lv_aload_n hx hb dX7_areLike_63 rfl (lv_at hl 0 rfl) ?_
              refine lv_iload_n hx hb dX7_areLike_64 rfl (lv_at hl 2 rfl) ?_
              refine lv_iload_n hx hb dX7_areLike_65 rfl (lv_at hl 3 rfl) ?_
              refine lv_iconst (v := 2) hx hb dX7_areLike_66 (by decide +kernel) ?_
              refine lv_irem hx hb dX7_areLike_67 (by decide +kernel) ?_
              refine lv_topi (fun z67 ez67 => ?_)
              refine lv_iconst (v := 1) hx hb dX7_areLike_68 (by decide +kernel) ?_
              have j87 : ∀ (w87_3 : Int32) (H : Heap) (lo : List Loc) (ls : Array Slot), ((-99) ≤ w87_3.toInt ∧ w87_3.toInt ≤ 99) → va_P (dC, dI) vwCl (Wd cs L K I J Q) H → va_S (fun _ => False) s.heap H lo → lv_has ls 6 [(0, .ref p0), (1, .int p1), (2, .int p2), (3, .int p3), (4, .int v31_4), (5, .int v44_5)] → W p l e R s m (([.ref p0, .int p1, .int p2, .int p3] : List Value).toArray) below meth c H lo 0 0 Qz (F0 m 87 ls [.int w87_3, .int p2, .ref p0, .int z60]) := by
                intro w87_3 H lo ls bw87_3 hP hS hl
                refine lv_iload_n hx hb dX7_areLike_87 rfl (lv_at hl 3 rfl) ?_
                refine lv_iconst (v := 1) hx hb dX7_areLike_88 (by decide +kernel) ?_
                have j107 : ∀ (w107_4 : Int32) (H : Heap) (lo : List Loc) (ls : Array Slot), ((-39) ≤ w107_4.toInt ∧ w107_4.toInt ≤ 39) → va_P (dC, dI) vwCl (Wd cs L K I J Q) H → va_S (fun _ => False) s.heap H lo → lv_has ls 6 [(0, .ref p0), (1, .int p1), (2, .int p2), (3, .int p3), (4, .int v31_4), (5, .int v44_5)] → W p l e R s m (([.ref p0, .int p1, .int p2, .int p3] : List Value).toArray) below meth c H lo 0 0 Qz (F0 m 107 ls [.int w107_4, .int w87_3, .int p2, .ref p0, .int z60]) := by
                  intro w107_4 H lo ls bw107_4 hP hS hl
                  refine ro_i (va_runV (As := [.int p2, .int w87_3, .int w107_4]) (rest := [.int z60]) ⟨hx, hb, hml, hown, hts⟩ (s_X7_has l dC dI cs L K G Q hQ x0 m0 tx tm H.size I J hI p0 hLp0 hKp0 p2 ⟨by omega, by omega⟩ w87_3 w107_4) (cwV 3 hts (gV pq1376 pq1378 pq34 pq81 pq1379) rfl rfl rfl (by decide +kernel) ⟨(by rw [hR]; exact (Nat.le_of_ble_eq_true rfl)), (by rw [hR]; exact (Nat.le_of_ble_eq_true rfl))⟩) (sP_V hP hD hK hN hLp0 hKp0 rfl rfl) rfl rfl hl.1 rfl (lv_room (Nat.le_of_ble_eq_true rfl)) dX7_areLike_107 ⟨(by rw [hR]; exact (Nat.le_of_ble_eq_true rfl)), (by rw [hR]; exact (Nat.le_of_ble_eq_true rfl))⟩) hS hP (fun z107 H locs hz107 hP hS => ?_)
                  obtain ⟨bz107, imz107⟩ := hz107
                  refine lv_icmp_eq (tgt := 115) hx hb dX7_areLike_110 (by decide) (fun c110 => ?_) (fun c110 => ?_)
                  · have t110 := tq_eq (k := z60.toInt) (q := z107.toInt) c110 rfl rfl
                    obtain ⟨z115, ez115⟩ : ∃ y : Int32, y = v44_5 + 1 := ⟨_, rfl⟩
                    refine lv_iinc (v := z115) (lv' := [(5, .int z115), (0, .ref p0), (1, .int p1), (2, .int p2), (3, .int p3), (4, .int v31_4)]) hx hb dX7_areLike_115 hl (k := 5) rfl (by rw [ez115]; rfl) (by decide) rfl (fun ls hl => ?_)
                    have bz115 := tq_add (k := v44_5.toInt) (q := 1) ez115 rfl (by decide +kernel) (by omega) (by omega)
                    refine lv_goto (tgt := 44) hx hb dX7_areLike_118 (by decide) ?_
                    exact ih44 _ (by omega) z115 _ _ _ rfl ⟨by omega, by omega⟩ hP hS (lv_sub hl [1, 2, 3, 4, 5, 0] rfl)
                  · have t110 := tq_ne (k := z60.toInt) (q := z107.toInt) c110 rfl rfl
                    refine lv_iconst (v := 0) hx hb dX7_areLike_113 (by decide +kernel) ?_
                    subst hR; subst hQz
                    exact W.zret (v := 0) hx hb hr (by decide +kernel) (fun t ht hW => ⟨⟨0, (), rfl, ⟨by decide +kernel, by decide +kernel⟩, trivial⟩, hS.F ht⟩) hS.2.2 dX7_areLike_114
                refine lv_icmp_le (tgt := 105) hx hb dX7_areLike_89 (by decide) (fun c89 => ?_) (fun c89 => ?_)
                · have t89 := tq_le (k := p3.toInt) (q := (1)) c89 rfl (by decide +kernel)
                  refine lv_iload hx hb dX7_areLike_105 (lv_at hl 4 rfl) ?_
                  exact j107 v31_4 _ _ _ ⟨by omega, by omega⟩ hP hS (lv_sub hl [0, 1, 2, 3, 4, 5] rfl)
                · have t89 := tq_nle (k := p3.toInt) (q := (1)) c89 rfl (by decide +kernel)
                  have rg89p3 := fb_rng p3
                  refine lv_aload_n hx hb dX7_areLike_92 rfl (lv_at hl 0 rfl) ?_
                  refine lv_iload_n hx hb dX7_areLike_93 rfl (lv_at hl 1 rfl) ?_
                  refine ro_i (va_runV (As := [.int p1]) (rest := [.int w87_3, .int p2, .ref p0, .int z60]) ⟨hx, hb, hml, hown, hts⟩ (s_X7_high l dC dI cs L K G Q hQ x0 m0 tx tm H.size I J hI p0 hLp0 hKp0 p1 ⟨by omega, by omega⟩) (cwV 1 hts (gV pq1372 pq1374 pq33 pq81 pq1375) rfl rfl rfl (by decide +kernel) ⟨(by rw [hR]; exact (Nat.le_of_ble_eq_true rfl)), (by rw [hR]; exact (Nat.le_of_ble_eq_true rfl))⟩) (sP_V hP hD hK hN hLp0 hKp0 rfl rfl) rfl rfl hl.1 rfl (lv_room (Nat.le_of_ble_eq_true rfl)) dX7_areLike_94 ⟨(by rw [hR]; exact (Nat.le_of_ble_eq_true rfl)), (by rw [hR]; exact (Nat.le_of_ble_eq_true rfl))⟩) hS hP (fun z94 H locs hz94 hP hS => ?_)
                  obtain ⟨bz94, fez94⟩ := hz94
                  obtain rfl : z15 = z94 := fez15.trans fez94.symm
                  refine lv_iconst (v := 1) hx hb dX7_areLike_97 (by decide +kernel) ?_
                  refine lv_isub hx hb dX7_areLike_98 ?_
                  refine lv_topi (fun z98 ez98 => ?_)
                  have bz98 := tq_sub (k := z15.toInt) (q := (1)) ez98 rfl (by decide +kernel) (by omega) (by omega)
                  refine lv_iload hx hb dX7_areLike_99 (lv_at hl 4 rfl) ?_
                  refine lv_isub hx hb dX7_areLike_101 ?_
                  refine lv_topi (fun z101 ez101 => ?_)
                  have bz101 := tq_sub (k := z98.toInt) (q := v31_4.toInt) ez101 rfl rfl (by omega) (by omega)
                  refine lv_goto (tgt := 107) hx hb dX7_areLike_102 (by decide) ?_
                  exact j107 z101 _ _ _ ⟨by omega, by omega⟩ hP hS (lv_sub hl [0, 1, 2, 3, 4, 5] rfl)
              refine lv_icmp_ne (tgt := 85) hx hb dX7_areLike_69 (by decide) (fun c69 => ?_) (fun c69 => ?_)
              · have t69 := tq_ne (k := z67.toInt) (q := (1)) c69 rfl (by decide +kernel)
                refine lv_iload hx hb dX7_areLike_85 (lv_at hl 5 rfl) ?_
                exact j87 v44_5 _ _ _ ⟨by omega, by omega⟩ hP hS (lv_sub hl [0, 1, 2, 3, 4, 5] rfl)
              · have t69 := tq_eq (k := z67.toInt) (q := (1)) c69 rfl (by decide +kernel)
                refine lv_aload_n hx hb dX7_areLike_72 rfl (lv_at hl 0 rfl) ?_
                refine lv_iload_n hx hb dX7_areLike_73 rfl (lv_at hl 1 rfl) ?_
                refine ro_i (va_runV (As := [.int p1]) (rest := [.int p2, .ref p0, .int z60]) ⟨hx, hb, hml, hown, hts⟩ (s_X7_wide l dC dI cs L K G Q hQ x0 m0 tx tm H.size I J hI p0 hLp0 hKp0 p1 ⟨by omega, by omega⟩) (cwV 1 hts (gV pq1368 pq1370 pq32 pq81 pq1371) rfl rfl rfl (by decide +kernel) ⟨(by rw [hR]; exact (Nat.le_of_ble_eq_true rfl)), (by rw [hR]; exact (Nat.le_of_ble_eq_true rfl))⟩) (sP_V hP hD hK hN hLp0 hKp0 rfl rfl) rfl rfl hl.1 rfl (lv_room (Nat.le_of_ble_eq_true rfl)) dX7_areLike_74 ⟨(by rw [hR]; exact (Nat.le_of_ble_eq_true rfl)), (by rw [hR]; exact (Nat.le_of_ble_eq_true rfl))⟩) hS hP (fun z74 H locs hz74 hP hS => ?_)
                obtain ⟨bz74, fez74⟩ := hz74
                obtain rfl : z2 = z74 := fez2.trans fez74.symm
                refine lv_iconst (v := 1) hx hb dX7_areLike_77 (by decide +kernel) ?_
                refine lv_isub hx hb dX7_areLike_78 ?_
                refine lv_topi (fun z78 ez78 => ?_)
                have bz78 := tq_sub (k := z2.toInt) (q := (1)) ez78 rfl (by decide +kernel) (by omega) (by omega)
                refine lv_iload hx hb dX7_areLike_79 (lv_at hl 5 rfl) ?_
                refine lv_isub hx hb dX7_areLike_81 ?_
                refine lv_topi (fun z81 ez81 => ?_)
                have bz81 := tq_sub (k := z78.toInt) (q := v44_5.toInt) ez81 rfl rfl (by omega) (by omega)
                refine lv_goto (tgt := 87) hx hb dX7_areLike_82 (by decide) ?_
                exact j87 z81 _ _ _ ⟨by omega, by omega⟩ hP hS (lv_sub hl [0, 1, 2, 3, 4, 5] rfl))
          exact key44 _ 0 _ _ _ rfl ⟨by decide +kernel, by decide +kernel⟩ hP hS (lv_sub hl [1, 2, 3, 4, 5, 0] rfl))
      exact key31 _ 0 _ _ _ rfl ⟨by decide +kernel, by decide +kernel⟩ hP hS (lv_sub hl [1, 2, 3, 4, 0] rfl)
    · have t23 := tq_ne (k := z15.toInt) (q := z20.toInt) c23 rfl rfl
      refine lv_iconst (v := 0) hx hb dX7_areLike_26 (by decide +kernel) ?_
      subst hR; subst hQz
      exact W.zret (v := 0) hx hb hr (by decide +kernel) (fun t ht hW => ⟨⟨0, (), rfl, ⟨by decide +kernel, by decide +kernel⟩, trivial⟩, hS.F ht⟩) hS.2.2 dX7_areLike_27

set_option maxHeartbeats 4000000 in
set_option maxRecDepth 100000 in
theorem s_X7_like (l : Launch) (dC : Nat → ClassId) (dI : Nat → Nat → Nat) (cs : Nat → ClassId) (L : List Nat) (K G : Nat → Nat) (Q : Nat → Nat → Option Nat) (hQ : Sv L K G Q) (x0 m0 : Nat) (tx : Int32) (tm : Int32 × Int) (sz : Nat) (I : Nat → Nat → Int32) (J : Nat → Nat → Int64) (hI : Iv L K x0 m0 tx tm I) (p0 : Nat) (hLp0 : p0 ∈ L) (hKp0 : K p0 = 7) (p1 : Int32) : Met l yX7_like (.code yX7_like cX7_like 4 (some .int) :: pw) ({ frames := 3, cells := 0, slots := 0, locals := 73 }) (sP (dC, dI) cs [.ref p0, .int p1] sz L K I J Q) (va_Qi (fun (r : Int32) (_ : Unit) => True) (fun _ _ => True) (fun _ => False)) 0 0 (fun _ => False) := by
  refine Met.ofW (cc := cX7_like) (maxL := 4) (ret := (some .int)) (by decide +kernel) rfl ?_
  intro p e s m args below meth c s₁ B hml hv
  obtain ⟨rfl, hsz, hP, hK, hD0, hN⟩ := hv
  have hx := B.exec
  have hb := B.bytes
  have hr := B.returns
  have hts := fun w (h : w ∈ pw) => atoms_spec (ws := Cond.code yX7_like cX7_like 4 (some .int) :: pw) B.pre w (List.mem_cons_of_mem _ h)
  have hown : s.vm.findClass RX7 = some m.cls := findClass_of_methodNamed B.named
  have hlocks := B.notSynchronized
  subst hsz
  have hBB : 999 ≤ tm.2 ∧ tm.2 ≤ 6000000 := hI.2.2.2.2
  have hD := hD0
  obtain ⟨H, hHe⟩ : ∃ H : Heap, H = s.heap := ⟨_, rfl⟩
  have hS : va_S (fun _ => False) s.heap H [] := by rw [hHe]; exact va_S.rf
  rw [← hHe] at hP
  have hl := lv_entry ([.ref p0, .int p1]) (n := 4) (Nat.le_of_ble_eq_true rfl)
  rw [lg_entry_eq]
  generalize (lg_sl ([.ref p0, .int p1]) ++ List.replicate (4 - (lg_sl ([.ref p0, .int p1])).length) Slot.unset).toArray = ls at hl ⊢
  have hl : lv_has ls 4 [(0, .ref p0), (1, .int p1)] := hl
  rw [← hHe]
  refine namedW (fun R Qz hR hQz => ?_)
  refine lv_aload_n hx hb dX7_like_0 rfl (lv_at hl 0 rfl) ?_
  refine lv_iload_n hx hb dX7_like_1 rfl (lv_at hl 1 rfl) ?_
  refine ro_i (va_runV (As := [.int p1]) (rest := []) ⟨hx, hb, hml, hown, hts⟩ (s_X7_isMask l dC dI cs L K G Q hQ x0 m0 tx tm H.size I J hI p0 hLp0 hKp0 p1) (cwV 1 hts (gV pq1364 pq1366 pq31 pq81 pq1367) rfl rfl rfl (by decide +kernel) ⟨(by rw [hR]; exact (Nat.le_of_ble_eq_true rfl)), (by rw [hR]; exact (Nat.le_of_ble_eq_true rfl))⟩) (sP_V hP hD hK hN hLp0 hKp0 rfl rfl) rfl rfl hl.1 rfl (lv_room (Nat.le_of_ble_eq_true rfl)) dX7_like_2 ⟨(by rw [hR]; exact (Nat.le_of_ble_eq_true rfl)), (by rw [hR]; exact (Nat.le_of_ble_eq_true rfl))⟩) hS hP (fun z2 H locs hz2 hP hS => ?_)
  obtain ⟨bz2, imz2⟩ := hz2
  refine lv_if_ne (tgt := 10) hx hb dX7_like_5 (by decide) (fun c5 => ?_) (fun c5 => ?_)
  · have t5 := tq_ne (k := z2.toInt) (q := (0)) c5 rfl (by decide +kernel)
    have i5 := imz2 t5
    refine lv_iconst (v := 0) hx hb dX7_like_10 (by decide +kernel) ?_
    refine lv_istore_n (lv' := [(2, .int 0), (0, .ref p0), (1, .int p1)]) hx hb dX7_like_11 rfl hl (by decide) rfl (fun ls hl => ?_)
    refine lv_iconst (v := 0) hx hb dX7_like_12 (by decide +kernel) ?_
    refine lv_istore_n (lv' := [(3, .int 0), (2, .int 0), (0, .ref p0), (1, .int p1)]) hx hb dX7_like_13 rfl hl (by decide) rfl (fun ls hl => ?_)
    have key14 := blocks (fun n => ∀ (v14_2 : Int32) (v14_3 : Int32) (H : Heap) (lo : List Loc) (ls : Array Slot), (5 - v14_3.toInt).toNat = n → ((0) ≤ v14_3.toInt ∧ v14_3.toInt ≤ 4) → va_P (dC, dI) vwCl (Wd cs L K I J Q) H → va_S (fun _ => False) s.heap H lo → lv_has ls 4 [(0, .ref p0), (1, .int p1), (2, .int v14_2), (3, .int v14_3)] → W p l e R s m (([.ref p0, .int p1] : List Value).toArray) below meth c H lo 0 0 Qz (F0 m 14 ls [])) (by
      intro n ih14
      intro v14_2 v14_3 H lo ls hmu14 bv14_3 hP hS hl
      refine lv_iload_n hx hb dX7_like_14 rfl (lv_at hl 3 rfl) ?_
      refine lv_iconst (v := 4) hx hb dX7_like_15 (by decide +kernel) ?_
      refine lv_icmp_ge (tgt := 45) hx hb dX7_like_16 (by decide) (fun c16 => ?_) (fun c16 => ?_)
      · have t16 := tq_le (k := (4)) (q := v14_3.toInt) c16 (by decide +kernel) rfl
        refine lv_iload_n hx hb dX7_like_45 rfl (lv_at hl 2 rfl) ?_
        subst hR; subst hQz
        exact W.iret (v := v14_2) hx hb hr (fun t ht hW => ⟨⟨v14_2, (), rfl, trivial, trivial⟩, hS.F ht⟩) hS.2.2 dX7_like_46
      · have t16 := tq_nle (k := (4)) (q := v14_3.toInt) c16 (by decide +kernel) rfl
        refine lv_iload_n hx hb dX7_like_19 rfl (lv_at hl 2 rfl) ?_
        refine lv_aload_n hx hb dX7_like_20 rfl (lv_at hl 0 rfl) ?_
        refine lv_iload_n hx hb dX7_like_21 rfl (lv_at hl 1 rfl) ?_
        refine lv_iload_n hx hb dX7_like_22 rfl (lv_at hl 1 rfl) ?_
        refine lv_iload_n hx hb dX7_like_23 rfl (lv_at hl 3 rfl) ?_
        refine ro_i (va_runV (As := [.int p1, .int p1, .int v14_3]) (rest := [.int v14_2]) ⟨hx, hb, hml, hown, hts⟩ (s_X7_areLike l dC dI cs L K G Q hQ x0 m0 tx tm H.size I J hI p0 hLp0 hKp0 p1 ⟨by omega, by omega⟩ p1 ⟨by omega, by omega⟩ v14_3) (cwV 3 hts (gV pq1670 pq1672 pq69 pq81 pq1673) rfl rfl rfl (by decide +kernel) ⟨(by rw [hR]; exact (Nat.le_of_ble_eq_true rfl)), (by rw [hR]; exact (Nat.le_of_ble_eq_true rfl))⟩) (sP_V hP hD hK hN hLp0 hKp0 rfl rfl) rfl rfl hl.1 rfl (lv_room (Nat.le_of_ble_eq_true rfl)) dX7_like_24 ⟨(by rw [hR]; exact (Nat.le_of_ble_eq_true rfl)), (by rw [hR]; exact (Nat.le_of_ble_eq_true rfl))⟩) hS hP (fun z24 H locs hz24 hP hS => ?_)
        have bz24 := hz24
        have j37 : ∀ (w37_1 : Int32) (H : Heap) (lo : List Loc) (ls : Array Slot), va_P (dC, dI) vwCl (Wd cs L K I J Q) H → va_S (fun _ => False) s.heap H lo → lv_has ls 4 [(0, .ref p0), (1, .int p1), (2, .int v14_2), (3, .int v14_3)] → W p l e R s m (([.ref p0, .int p1] : List Value).toArray) below meth c H lo 0 0 Qz (F0 m 37 ls [.int w37_1, .int v14_2]) := by
          intro w37_1 H lo ls hP hS hl
          refine lv_ior hx hb dX7_like_37 ?_
          refine lv_topi (fun z37 ez37 => ?_)
          refine lv_istore_n (lv' := [(2, .int z37), (0, .ref p0), (1, .int p1), (3, .int v14_3)]) hx hb dX7_like_38 rfl hl (by decide) rfl (fun ls hl => ?_)
          obtain ⟨z39, ez39⟩ : ∃ y : Int32, y = v14_3 + 1 := ⟨_, rfl⟩
          refine lv_iinc (v := z39) (lv' := [(3, .int z39), (2, .int z37), (0, .ref p0), (1, .int p1)]) hx hb dX7_like_39 hl (k := 3) rfl (by rw [ez39]; rfl) (by decide) rfl (fun ls hl => ?_)
          have bz39 := tq_add (k := v14_3.toInt) (q := 1) ez39 rfl (by decide +kernel) (by omega) (by omega)
          refine lv_goto (tgt := 14) hx hb dX7_like_42 (by decide) ?_
          exact ih14 _ (by omega) z37 z39 _ _ _ rfl ⟨by omega, by omega⟩ hP hS (lv_sub hl [2, 3, 1, 0] rfl)
        refine lv_if_eq (tgt := 36) hx hb dX7_like_27 (by decide) (fun c27 => ?_) (fun c27 => ?_)
        · have t27 := tq_eq (k := z24.toInt) (q := (0)) c27 rfl (by decide +kernel)
          refine lv_iconst (v := 0) hx hb dX7_like_36 (by decide +kernel) ?_
          exact j37 0 _ _ _ hP hS (lv_sub hl [0, 1, 2, 3] rfl)
        · have t27 := tq_ne (k := z24.toInt) (q := (0)) c27 rfl (by decide +kernel)
          refine lv_iconst (v := 1) hx hb dX7_like_30 (by decide +kernel) ?_
          refine lv_iload_n hx hb dX7_like_31 rfl (lv_at hl 3 rfl) ?_
          refine lv_ishl hx hb dX7_like_32 ?_
          refine lv_topi (fun z32 ez32 => ?_)
          refine lv_goto (tgt := 37) hx hb dX7_like_33 (by decide) ?_
          exact j37 z32 _ _ _ hP hS (lv_sub hl [0, 1, 2, 3] rfl))
    exact key14 _ 0 0 _ _ _ rfl ⟨by decide +kernel, by decide +kernel⟩ hP hS (lv_sub hl [2, 3, 1, 0] rfl)
  · have t5 := tq_eq (k := z2.toInt) (q := (0)) c5 rfl (by decide +kernel)
    refine lv_iconst (v := (-1)) hx hb dX7_like_8 (by decide +kernel) ?_
    subst hR; subst hQz
    exact W.iret (v := (-1)) hx hb hr (fun t ht hW => ⟨⟨(-1), (), rfl, trivial, trivial⟩, hS.F ht⟩) hS.2.2 dX7_like_9

set_option maxHeartbeats 4000000 in
set_option maxRecDepth 100000 in
theorem s_X7_letter (l : Launch) (dC : Nat → ClassId) (dI : Nat → Nat → Nat) (cs : Nat → ClassId) (L : List Nat) (K G : Nat → Nat) (Q : Nat → Nat → Option Nat) (hQ : Sv L K G Q) (x0 m0 : Nat) (tx : Int32) (tm : Int32 × Int) (sz : Nat) (I : Nat → Nat → Int32) (J : Nat → Nat → Int64) (hI : Iv L K x0 m0 tx tm I) (p0 : Nat) (hLp0 : p0 ∈ L) (hKp0 : K p0 = 7) (p1 : Int32) (p2 : Int32) : Met l yX7_letter (.code yX7_letter cX7_letter 5 (some .int) :: pw) ({ frames := 2, cells := 0, slots := 0, locals := 48 }) (sP (dC, dI) cs [.ref p0, .int p1, .int p2] sz L K I J Q) (va_Qi (fun (r : Int32) (_ : Unit) => True) (fun _ _ => True) (fun _ => False)) 0 0 (fun _ => False) := by
  refine Met.ofW (cc := cX7_letter) (maxL := 5) (ret := (some .int)) (by decide +kernel) rfl ?_
  intro p e s m args below meth c s₁ B hml hv
  obtain ⟨rfl, hsz, hP, hK, hD0, hN⟩ := hv
  have hx := B.exec
  have hb := B.bytes
  have hr := B.returns
  have hts := fun w (h : w ∈ pw) => atoms_spec (ws := Cond.code yX7_letter cX7_letter 5 (some .int) :: pw) B.pre w (List.mem_cons_of_mem _ h)
  have hown : s.vm.findClass RX7 = some m.cls := findClass_of_methodNamed B.named
  have hlocks := B.notSynchronized
  subst hsz
  have hBB : 999 ≤ tm.2 ∧ tm.2 ≤ 6000000 := hI.2.2.2.2
  have hD := hD0
  obtain ⟨H, hHe⟩ : ∃ H : Heap, H = s.heap := ⟨_, rfl⟩
  have hS : va_S (fun _ => False) s.heap H [] := by rw [hHe]; exact va_S.rf
  rw [← hHe] at hP
  have hl := lv_entry ([.ref p0, .int p1, .int p2]) (n := 5) (Nat.le_of_ble_eq_true rfl)
  rw [lg_entry_eq]
  generalize (lg_sl ([.ref p0, .int p1, .int p2]) ++ List.replicate (5 - (lg_sl ([.ref p0, .int p1, .int p2])).length) Slot.unset).toArray = ls at hl ⊢
  have hl : lv_has ls 5 [(0, .ref p0), (1, .int p1), (2, .int p2)] := hl
  rw [← hHe]
  refine namedW (fun R Qz hR hQz => ?_)
  refine lv_aload_n hx hb dX7_letter_0 rfl (lv_at hl 0 rfl) ?_
  refine lv_iload_n hx hb dX7_letter_1 rfl (lv_at hl 1 rfl) ?_
  refine ro_i (va_runV (As := [.int p1]) (rest := []) ⟨hx, hb, hml, hown, hts⟩ (s_X7_isMask l dC dI cs L K G Q hQ x0 m0 tx tm H.size I J hI p0 hLp0 hKp0 p1) (cwV 1 hts (gV pq1364 pq1366 pq31 pq81 pq1367) rfl rfl rfl (by decide +kernel) ⟨(by rw [hR]; exact (Nat.le_of_ble_eq_true rfl)), (by rw [hR]; exact (Nat.le_of_ble_eq_true rfl))⟩) (sP_V hP hD hK hN hLp0 hKp0 rfl rfl) rfl rfl hl.1 rfl (lv_room (Nat.le_of_ble_eq_true rfl)) dX7_letter_2 ⟨(by rw [hR]; exact (Nat.le_of_ble_eq_true rfl)), (by rw [hR]; exact (Nat.le_of_ble_eq_true rfl))⟩) hS hP (fun z2 H locs hz2 hP hS => ?_)
  obtain ⟨bz2, imz2⟩ := hz2
  refine lv_if_eq (tgt := 13) hx hb dX7_letter_5 (by decide) (fun c5 => ?_) (fun c5 => ?_)
  · have t5 := tq_eq (k := z2.toInt) (q := (0)) c5 rfl (by decide +kernel)
    refine lv_iconst (v := (-1)) hx hb dX7_letter_13 (by decide +kernel) ?_
    subst hR; subst hQz
    exact W.iret (v := (-1)) hx hb hr (fun t ht hW => ⟨⟨(-1), (), rfl, trivial, trivial⟩, hS.F ht⟩) hS.2.2 dX7_letter_14
  · have t5 := tq_ne (k := z2.toInt) (q := (0)) c5 rfl (by decide +kernel)
    have i5 := imz2 t5
    refine lv_iload_n hx hb dX7_letter_8 rfl (lv_at hl 2 rfl) ?_
    refine lv_iconst (v := (-1)) hx hb dX7_letter_9 (by decide +kernel) ?_
    refine lv_icmp_ge (tgt := 15) hx hb dX7_letter_10 (by decide) (fun c10 => ?_) (fun c10 => ?_)
    · have t10 := tq_le (k := (-1)) (q := p2.toInt) c10 (by decide +kernel) rfl
      refine lv_aload_n hx hb dX7_letter_15 rfl (lv_at hl 0 rfl) ?_
      refine lv_iload_n hx hb dX7_letter_16 rfl (lv_at hl 1 rfl) ?_
      refine ro_i (va_runV (As := [.int p1]) (rest := []) ⟨hx, hb, hml, hown, hts⟩ (s_X7_wide l dC dI cs L K G Q hQ x0 m0 tx tm H.size I J hI p0 hLp0 hKp0 p1 ⟨by omega, by omega⟩) (cwV 1 hts (gV pq1368 pq1370 pq32 pq81 pq1371) rfl rfl rfl (by decide +kernel) ⟨(by rw [hR]; exact (Nat.le_of_ble_eq_true rfl)), (by rw [hR]; exact (Nat.le_of_ble_eq_true rfl))⟩) (sP_V hP hD hK hN hLp0 hKp0 rfl rfl) rfl rfl hl.1 rfl (lv_room (Nat.le_of_ble_eq_true rfl)) dX7_letter_17 ⟨(by rw [hR]; exact (Nat.le_of_ble_eq_true rfl)), (by rw [hR]; exact (Nat.le_of_ble_eq_true rfl))⟩) hS hP (fun z17 H locs hz17 hP hS => ?_)
      obtain ⟨bz17, fez17⟩ := hz17
      refine lv_iconst (v := 1) hx hb dX7_letter_20 (by decide +kernel) ?_
      refine lv_iadd hx hb dX7_letter_21 ?_
      refine lv_topi (fun z21 ez21 => ?_)
      have bz21 := tq_add (k := z17.toInt) (q := (1)) ez21 rfl (by decide +kernel) (by omega) (by omega)
      refine lv_istore_n (lv' := [(3, .int z21), (0, .ref p0), (1, .int p1), (2, .int p2)]) hx hb dX7_letter_22 rfl hl (by decide) rfl (fun ls hl => ?_)
      refine lv_iload_n hx hb dX7_letter_23 rfl (lv_at hl 0 rfl) ?_
      refine lv_aload_n hx hb dX7_letter_24 rfl (lv_at hl 1 rfl) ?_
      refine lv_iload_n hx hb dX7_letter_25 rfl (lv_at hl 2 rfl) ?_
      refine ro_i (va_runV (As := [.int p1]) (rest := [.int z21]) ⟨hx, hb, hml, hown, hts⟩ (s_X7_high l dC dI cs L K G Q hQ x0 m0 tx tm H.size I J hI p0 hLp0 hKp0 p1 ⟨by omega, by omega⟩) (cwV 1 hts (gV pq1372 pq1374 pq33 pq81 pq1375) rfl rfl rfl (by decide +kernel) ⟨(by rw [hR]; exact (Nat.le_of_ble_eq_true rfl)), (by rw [hR]; exact (Nat.le_of_ble_eq_true rfl))⟩) (sP_V hP hD hK hN hLp0 hKp0 rfl rfl) rfl rfl hl.1 rfl (lv_room (Nat.le_of_ble_eq_true rfl)) dX7_letter_26 ⟨(by rw [hR]; exact (Nat.le_of_ble_eq_true rfl)), (by rw [hR]; exact (Nat.le_of_ble_eq_true rfl))⟩) hS hP (fun z26 H locs hz26 hP hS => ?_)
      obtain ⟨bz26, fez26⟩ := hz26
      refine lv_imul hx hb dX7_letter_29 ?_
      refine lv_topi (fun z29 ez29 => ?_)
      refine lv_iconst (v := 1) hx hb dX7_letter_30 (by decide +kernel) ?_
      refine lv_isub hx hb dX7_letter_31 ?_
      refine lv_topi (fun z31 ez31 => ?_)
      refine lv_istore (lv' := [(4, .int z31), (3, .int z21), (0, .ref p0), (1, .int p1), (2, .int p2)]) hx hb dX7_letter_32 hl (by decide) rfl (fun ls hl => ?_)
      refine lv_iload_n hx hb dX7_letter_34 rfl (lv_at hl 4 rfl) ?_
      refine lv_iconst (v := (-1)) hx hb dX7_letter_35 (by decide +kernel) ?_
      refine lv_icmp_ne (tgt := 42) hx hb dX7_letter_36 (by decide) (fun c36 => ?_) (fun c36 => ?_)
      · have t36 := tq_ne (k := p2.toInt) (q := (-1)) c36 rfl (by decide +kernel)
        refine lv_iload_n hx hb dX7_letter_42 rfl (lv_at hl 4 rfl) ?_
        refine lv_iload hx hb dX7_letter_43 (lv_at hl 0 rfl) ?_
        refine lv_icmp_lt (tgt := 53) hx hb dX7_letter_45 (by decide) (fun c45 => ?_) (fun c45 => ?_)
        · have t45 := tq_lt (k := p2.toInt) (q := z31.toInt) c45 rfl rfl
          have rg45p2 := fb_rng p2
          have rg45z31 := fb_rng z31
          refine lv_iload_n hx hb dX7_letter_53 rfl (lv_at hl 4 rfl) ?_
          refine lv_iload_n hx hb dX7_letter_54 rfl (lv_at hl 1 rfl) ?_
          refine lv_irem hx hb dX7_letter_55 (letn ez29 ez31 (by omega) t45) ?_
          refine lv_topi (fun z55 ez55 => ?_)
          refine lv_aload_n hx hb dX7_letter_56 rfl (lv_at hl 2 rfl) ?_
          refine lv_iload_n hx hb dX7_letter_57 rfl (lv_at hl 3 rfl) ?_
          refine ro_i (va_runV (As := [.int p1]) (rest := [.int z55]) ⟨hx, hb, hml, hown, hts⟩ (s_X7_wide l dC dI cs L K G Q hQ x0 m0 tx tm H.size I J hI p0 hLp0 hKp0 p1 ⟨by omega, by omega⟩) (cwV 1 hts (gV pq1368 pq1370 pq32 pq81 pq1371) rfl rfl rfl (by decide +kernel) ⟨(by rw [hR]; exact (Nat.le_of_ble_eq_true rfl)), (by rw [hR]; exact (Nat.le_of_ble_eq_true rfl))⟩) (sP_V hP hD hK hN hLp0 hKp0 rfl rfl) rfl rfl hl.1 rfl (lv_room (Nat.le_of_ble_eq_true rfl)) dX7_letter_58 ⟨(by rw [hR]; exact (Nat.le_of_ble_eq_true rfl)), (by rw [hR]; exact (Nat.le_of_ble_eq_true rfl))⟩) hS hP (fun z58 H locs hz58 hP hS => ?_)
          obtain ⟨bz58, fez58⟩ := hz58
          obtain rfl : z17 = z58 := fez17.trans fez58.symm
          refine lv_icmp_ne (tgt := 69) hx hb dX7_letter_61 (by decide) (fun c61 => ?_) (fun c61 => ?_)
          · have t61 := tq_ne (k := z55.toInt) (q := z17.toInt) c61 rfl rfl
            refine lv_aload_n hx hb dX7_letter_69 rfl (lv_at hl 2 rfl) ?_
            refine lv_iload_n hx hb dX7_letter_70 rfl (lv_at hl 3 rfl) ?_
            refine lv_iload_n hx hb dX7_letter_71 rfl (lv_at hl 4 rfl) ?_
            refine lv_iload_n hx hb dX7_letter_72 rfl (lv_at hl 1 rfl) ?_
            refine lv_irem hx hb dX7_letter_73 (letn ez29 ez31 (by omega) t45) ?_
            refine lv_topi (fun z73 ez73 => ?_)
            refine lv_iload_n hx hb dX7_letter_74 rfl (lv_at hl 4 rfl) ?_
            refine lv_iload_n hx hb dX7_letter_75 rfl (lv_at hl 1 rfl) ?_
            refine lv_idiv hx hb dX7_letter_76 (letn ez29 ez31 (by omega) t45) ?_
            refine lv_topi (fun z76 ez76 => ?_)
            refine ro_i (va_runV (As := [.int p1, .int z73, .int z76]) (rest := []) ⟨hx, hb, hml, hown, hts⟩ (s_X7_has l dC dI cs L K G Q hQ x0 m0 tx tm H.size I J hI p0 hLp0 hKp0 p1 ⟨by omega, by omega⟩ z73 z76) (cwV 3 hts (gV pq1376 pq1378 pq34 pq81 pq1379) rfl rfl rfl (by decide +kernel) ⟨(by rw [hR]; exact (Nat.le_of_ble_eq_true rfl)), (by rw [hR]; exact (Nat.le_of_ble_eq_true rfl))⟩) (sP_V hP hD hK hN hLp0 hKp0 rfl rfl) rfl rfl hl.1 rfl (lv_room (Nat.le_of_ble_eq_true rfl)) dX7_letter_77 ⟨(by rw [hR]; exact (Nat.le_of_ble_eq_true rfl)), (by rw [hR]; exact (Nat.le_of_ble_eq_true rfl))⟩) hS hP (fun z77 H locs hz77 hP hS => ?_)
            obtain ⟨bz77, imz77⟩ := hz77
            refine lv_if_eq (tgt := 88) hx hb dX7_letter_80 (by decide) (fun c80 => ?_) (fun c80 => ?_)
            · have t80 := tq_eq (k := z77.toInt) (q := (0)) c80 rfl (by decide +kernel)
              refine lv_bipush (v := 46) hx hb dX7_letter_88 (by decide +kernel) ?_
              subst hR; subst hQz
              exact W.iret (v := 46) hx hb hr (fun t ht hW => ⟨⟨46, (), rfl, trivial, trivial⟩, hS.F ht⟩) hS.2.2 dX7_letter_90
            · have t80 := tq_ne (k := z77.toInt) (q := (0)) c80 rfl (by decide +kernel)
              have i80 := imz77 t80
              refine lv_bipush (v := 35) hx hb dX7_letter_83 (by decide +kernel) ?_
              refine lv_goto (tgt := 90) hx hb dX7_letter_85 (by decide) ?_
              subst hR; subst hQz
              exact W.iret (v := 35) hx hb hr (fun t ht hW => ⟨⟨35, (), rfl, trivial, trivial⟩, hS.F ht⟩) hS.2.2 dX7_letter_90
          · have t61 := tq_eq (k := z55.toInt) (q := z17.toInt) c61 rfl rfl
            refine lv_bipush (v := 47) hx hb dX7_letter_64 (by decide +kernel) ?_
            refine lv_goto (tgt := 90) hx hb dX7_letter_66 (by decide) ?_
            subst hR; subst hQz
            exact W.iret (v := 47) hx hb hr (fun t ht hW => ⟨⟨47, (), rfl, trivial, trivial⟩, hS.F ht⟩) hS.2.2 dX7_letter_90
        · have t45 := tq_nlt (k := p2.toInt) (q := z31.toInt) c45 rfl rfl
          refine lv_bipush (v := (-2)) hx hb dX7_letter_48 (by decide +kernel) ?_
          refine lv_goto (tgt := 90) hx hb dX7_letter_50 (by decide) ?_
          subst hR; subst hQz
          exact W.iret (v := (-2)) hx hb hr (fun t ht hW => ⟨⟨(-2), (), rfl, trivial, trivial⟩, hS.F ht⟩) hS.2.2 dX7_letter_90
      · have t36 := tq_eq (k := p2.toInt) (q := (-1)) c36 rfl (by decide +kernel)
        refine lv_iload hx hb dX7_letter_39 (lv_at hl 0 rfl) ?_
        subst hR; subst hQz
        exact W.iret (v := z31) hx hb hr (fun t ht hW => ⟨⟨z31, (), rfl, trivial, trivial⟩, hS.F ht⟩) hS.2.2 dX7_letter_41
    · have t10 := tq_nle (k := (-1)) (q := p2.toInt) c10 (by decide +kernel) rfl
      have rg10p2 := fb_rng p2
      refine lv_iconst (v := (-1)) hx hb dX7_letter_13 (by decide +kernel) ?_
      subst hR; subst hQz
      exact W.iret (v := (-1)) hx hb hr (fun t ht hW => ⟨⟨(-1), (), rfl, trivial, trivial⟩, hS.F ht⟩) hS.2.2 dX7_letter_14

set_option maxHeartbeats 4000000 in
set_option maxRecDepth 100000 in
theorem s_X7_within (l : Launch) (dC : Nat → ClassId) (dI : Nat → Nat → Nat) (cs : Nat → ClassId) (L : List Nat) (K G : Nat → Nat) (Q : Nat → Nat → Option Nat) (hQ : Sv L K G Q) (x0 m0 : Nat) (tx : Int32) (tm : Int32 × Int) (sz : Nat) (I : Nat → Nat → Int32) (J : Nat → Nat → Int64) (hI : Iv L K x0 m0 tx tm I) (p0 : Nat) (hLp0 : p0 ∈ L) (hKp0 : K p0 = 7) (p1 : Int32) (bp1 : (0) ≤ p1.toInt ∧ p1.toInt ≤ 7) (p2 : Int32) (p3 : Int32) (p4 : Int32) (p5 : Int32) : Met l yX7_within (.code yX7_within cX7_within 9 (some .int) :: pw) ({ frames := 2, cells := 0, slots := 0, locals := 48 }) (sP (dC, dI) cs [.ref p0, .int p1, .int p2, .int p3, .int p4, .int p5] sz L K I J Q) (va_Qi (fun (r : Int32) (_ : Unit) => True) (fun _ _ => True) (fun _ => False)) 0 0 (fun _ => False) := by
  refine Met.ofW (cc := cX7_within) (maxL := 9) (ret := (some .int)) (by decide +kernel) rfl ?_
  intro p e s m args below meth c s₁ B hml hv
  obtain ⟨rfl, hsz, hP, hK, hD0, hN⟩ := hv
  have hx := B.exec
  have hb := B.bytes
  have hr := B.returns
  have hts := fun w (h : w ∈ pw) => atoms_spec (ws := Cond.code yX7_within cX7_within 9 (some .int) :: pw) B.pre w (List.mem_cons_of_mem _ h)
  have hown : s.vm.findClass RX7 = some m.cls := findClass_of_methodNamed B.named
  have hlocks := B.notSynchronized
  subst hsz
  have hBB : 999 ≤ tm.2 ∧ tm.2 ≤ 6000000 := hI.2.2.2.2
  have hD := hD0
  obtain ⟨H, hHe⟩ : ∃ H : Heap, H = s.heap := ⟨_, rfl⟩
  have hS : va_S (fun _ => False) s.heap H [] := by rw [hHe]; exact va_S.rf
  rw [← hHe] at hP
  have hl := lv_entry ([.ref p0, .int p1, .int p2, .int p3, .int p4, .int p5]) (n := 9) (Nat.le_of_ble_eq_true rfl)
  rw [lg_entry_eq]
  generalize (lg_sl ([.ref p0, .int p1, .int p2, .int p3, .int p4, .int p5]) ++ List.replicate (9 - (lg_sl ([.ref p0, .int p1, .int p2, .int p3, .int p4, .int p5])).length) Slot.unset).toArray = ls at hl ⊢
  have hl : lv_has ls 9 [(0, .ref p0), (1, .int p1), (2, .int p2), (3, .int p3), (4, .int p4), (5, .int p5)] := hl
  rw [← hHe]
  refine namedW (fun R Qz hR hQz => ?_)
  refine lv_iconst (v := 0) hx hb dX7_within_0 (by decide +kernel) ?_
  refine lv_istore (lv' := [(6, .int 0), (0, .ref p0), (1, .int p1), (2, .int p2), (3, .int p3), (4, .int p4), (5, .int p5)]) hx hb dX7_within_1 hl (by decide) rfl (fun ls hl => ?_)
  refine lv_iload_n hx hb dX7_within_3 rfl (lv_at hl 4 rfl) ?_
  refine lv_istore (lv' := [(7, .int p3), (6, .int 0), (0, .ref p0), (1, .int p1), (2, .int p2), (3, .int p3), (4, .int p4), (5, .int p5)]) hx hb dX7_within_4 hl (by decide) rfl (fun ls hl => ?_)
  have key6 := blocks (fun n => ∀ (v6_6 : Int32) (v6_7 : Int32) (H : Heap) (lo : List Loc) (ls : Array Slot), (2147483648 - v6_7.toInt).toNat = n → va_P (dC, dI) vwCl (Wd cs L K I J Q) H → va_S (fun _ => False) s.heap H lo → lv_has ls 9 [(0, .ref p0), (1, .int p1), (2, .int p2), (3, .int p3), (4, .int p4), (5, .int p5), (6, .int v6_6), (7, .int v6_7)] → W p l e R s m (([.ref p0, .int p1, .int p2, .int p3, .int p4, .int p5] : List Value).toArray) below meth c H lo 0 0 Qz (F0 m 6 ls [])) (by
    intro n ih6
    intro v6_6 v6_7 H lo ls hmu6 hP hS hl
    refine lv_iload hx hb dX7_within_6 (lv_at hl 7 rfl) ?_
    refine lv_iload_n hx hb dX7_within_8 rfl (lv_at hl 3 rfl) ?_
    refine lv_iload hx hb dX7_within_9 (lv_at hl 5 rfl) ?_
    refine lv_iadd hx hb dX7_within_11 ?_
    refine lv_topi (fun z11 ez11 => ?_)
    refine lv_icmp_ge (tgt := 56) hx hb dX7_within_12 (by decide) (fun c12 => ?_) (fun c12 => ?_)
    · have t12 := tq_le (k := z11.toInt) (q := v6_7.toInt) c12 rfl rfl
      refine lv_iload hx hb dX7_within_56 (lv_at hl 6 rfl) ?_
      subst hR; subst hQz
      exact W.iret (v := v6_6) hx hb hr (fun t ht hW => ⟨⟨v6_6, (), rfl, trivial, trivial⟩, hS.F ht⟩) hS.2.2 dX7_within_58
    · have t12 := tq_nle (k := z11.toInt) (q := v6_7.toInt) c12 rfl rfl
      have rg12v6_7 := fb_rng v6_7
      have rg12z11 := fb_rng z11
      refine lv_iload_n hx hb dX7_within_15 rfl (lv_at hl 2 rfl) ?_
      refine lv_istore (lv' := [(8, .int p2), (0, .ref p0), (1, .int p1), (2, .int p2), (3, .int p3), (4, .int p4), (5, .int p5), (6, .int v6_6), (7, .int v6_7)]) hx hb dX7_within_16 hl (by decide) rfl (fun ls hl => ?_)
      have key18 := blocks (fun n => ∀ (v18_6 : Int32) (v18_8 : Int32) (H : Heap) (lo : List Loc) (ls : Array Slot), (2147483648 - v18_8.toInt).toNat = n → va_P (dC, dI) vwCl (Wd cs L K I J Q) H → va_S (fun _ => False) s.heap H lo → lv_has ls 9 [(0, .ref p0), (1, .int p1), (2, .int p2), (3, .int p3), (4, .int p4), (5, .int p5), (6, .int v18_6), (7, .int v6_7), (8, .int v18_8)] → W p l e R s m (([.ref p0, .int p1, .int p2, .int p3, .int p4, .int p5] : List Value).toArray) below meth c H lo 0 0 Qz (F0 m 18 ls [])) (by
        intro n ih18
        intro v18_6 v18_8 H lo ls hmu18 hP hS hl
        refine lv_iload hx hb dX7_within_18 (lv_at hl 8 rfl) ?_
        refine lv_iload_n hx hb dX7_within_20 rfl (lv_at hl 2 rfl) ?_
        refine lv_iload hx hb dX7_within_21 (lv_at hl 4 rfl) ?_
        refine lv_iadd hx hb dX7_within_23 ?_
        refine lv_topi (fun z23 ez23 => ?_)
        refine lv_icmp_ge (tgt := 50) hx hb dX7_within_24 (by decide) (fun c24 => ?_) (fun c24 => ?_)
        · have t24 := tq_le (k := z23.toInt) (q := v18_8.toInt) c24 rfl rfl
          obtain ⟨z50, ez50⟩ : ∃ y : Int32, y = v6_7 + 1 := ⟨_, rfl⟩
          refine lv_iinc (v := z50) (lv' := [(7, .int z50), (0, .ref p0), (1, .int p1), (2, .int p2), (3, .int p3), (4, .int p4), (5, .int p5), (6, .int v18_6), (8, .int v18_8)]) hx hb dX7_within_50 hl (k := 7) rfl (by rw [ez50]; rfl) (by decide) rfl (fun ls hl => ?_)
          have rg50v6_7 := fb_rng v6_7
          have bz50 := tq_add (k := v6_7.toInt) (q := 1) ez50 rfl (by decide +kernel) (by omega) (by omega)
          refine lv_goto (tgt := 6) hx hb dX7_within_53 (by decide) ?_
          exact ih6 _ (by omega) v18_6 z50 _ _ _ rfl hP hS (lv_sub hl [1, 2, 3, 4, 5, 6, 7, 0] rfl)
        · have t24 := tq_nle (k := z23.toInt) (q := v18_8.toInt) c24 rfl rfl
          have rg24v18_8 := fb_rng v18_8
          have rg24z23 := fb_rng z23
          refine lv_iload hx hb dX7_within_27 (lv_at hl 6 rfl) ?_
          refine lv_aload_n hx hb dX7_within_29 rfl (lv_at hl 0 rfl) ?_
          refine lv_iload_n hx hb dX7_within_30 rfl (lv_at hl 1 rfl) ?_
          refine lv_iload hx hb dX7_within_31 (lv_at hl 8 rfl) ?_
          refine lv_iload hx hb dX7_within_33 (lv_at hl 7 rfl) ?_
          refine ro_i (va_runV (As := [.int p1, .int v18_8, .int v6_7]) (rest := [.int v18_6]) ⟨hx, hb, hml, hown, hts⟩ (s_X7_has l dC dI cs L K G Q hQ x0 m0 tx tm H.size I J hI p0 hLp0 hKp0 p1 ⟨by omega, by omega⟩ v18_8 v6_7) (cwV 3 hts (gV pq1376 pq1378 pq34 pq81 pq1379) rfl rfl rfl (by decide +kernel) ⟨(by rw [hR]; exact (Nat.le_of_ble_eq_true rfl)), (by rw [hR]; exact (Nat.le_of_ble_eq_true rfl))⟩) (sP_V hP hD hK hN hLp0 hKp0 rfl rfl) rfl rfl hl.1 rfl (lv_room (Nat.le_of_ble_eq_true rfl)) dX7_within_35 ⟨(by rw [hR]; exact (Nat.le_of_ble_eq_true rfl)), (by rw [hR]; exact (Nat.le_of_ble_eq_true rfl))⟩) hS hP (fun z35 H locs hz35 hP hS => ?_)
          obtain ⟨bz35, imz35⟩ := hz35
          refine ro_i (va_runS (As := [.int z35]) (rest := [.int v18_6]) ⟨hx, hb, hml, hown, hts⟩ (s_X7_truth l dC dI cs L K Q H.size I J z35) (va_cwS 1 hts (gS pq1257 pq1258 pq81 pq1259) rfl rfl rfl (by decide +kernel) ⟨(by rw [hR]; exact (Nat.le_of_ble_eq_true rfl)), (by rw [hR]; exact (Nat.le_of_ble_eq_true rfl))⟩) (sP_S hP hD hK hN) rfl rfl hl.1 rfl (lv_room (Nat.le_of_ble_eq_true rfl)) dX7_within_38 ⟨(by rw [hR]; exact (Nat.le_of_ble_eq_true rfl)), (by rw [hR]; exact (Nat.le_of_ble_eq_true rfl))⟩) hS hP (fun z38 H locs hz38 hP hS => ?_)
          obtain ⟨bz38, xpz38⟩ := hz38
          refine lv_iadd hx hb dX7_within_41 ?_
          refine lv_topi (fun z41 ez41 => ?_)
          refine lv_istore (lv' := [(6, .int z41), (0, .ref p0), (1, .int p1), (2, .int p2), (3, .int p3), (4, .int p4), (5, .int p5), (7, .int v6_7), (8, .int v18_8)]) hx hb dX7_within_42 hl (by decide) rfl (fun ls hl => ?_)
          obtain ⟨z44, ez44⟩ : ∃ y : Int32, y = v18_8 + 1 := ⟨_, rfl⟩
          refine lv_iinc (v := z44) (lv' := [(8, .int z44), (6, .int z41), (0, .ref p0), (1, .int p1), (2, .int p2), (3, .int p3), (4, .int p4), (5, .int p5), (7, .int v6_7)]) hx hb dX7_within_44 hl (k := 8) rfl (by rw [ez44]; rfl) (by decide) rfl (fun ls hl => ?_)
          have rg44v18_8 := fb_rng v18_8
          have bz44 := tq_add (k := v18_8.toInt) (q := 1) ez44 rfl (by decide +kernel) (by omega) (by omega)
          refine lv_goto (tgt := 18) hx hb dX7_within_47 (by decide) ?_
          exact ih18 _ (by omega) z41 z44 _ _ _ rfl hP hS (lv_sub hl [2, 3, 4, 5, 6, 7, 1, 8, 0] rfl))
      exact key18 _ v6_6 p2 _ _ _ rfl  hP hS (lv_sub hl [1, 2, 3, 4, 5, 6, 7, 8, 0] rfl))
  exact key6 _ 0 p3 _ _ _ rfl  hP hS (lv_sub hl [2, 3, 4, 5, 6, 7, 1, 0] rfl)

set_option maxHeartbeats 4000000 in
set_option maxRecDepth 100000 in
theorem s_X7_dense (l : Launch) (dC : Nat → ClassId) (dI : Nat → Nat → Nat) (cs : Nat → ClassId) (L : List Nat) (K G : Nat → Nat) (Q : Nat → Nat → Option Nat) (hQ : Sv L K G Q) (x0 m0 : Nat) (tx : Int32) (tm : Int32 × Int) (sz : Nat) (I : Nat → Nat → Int32) (J : Nat → Nat → Int64) (hI : Iv L K x0 m0 tx tm I) (p0 : Nat) (hLp0 : p0 ∈ L) (hKp0 : K p0 = 7) (p1 : Int32) (p2 : Int32) (p3 : Int32) (p4 : Int32) : Met l yX7_dense (.code yX7_dense cX7_dense 11 (some .int) :: pw) ({ frames := 3, cells := 0, slots := 0, locals := 76 }) (sP (dC, dI) cs [.ref p0, .int p1, .int p2, .int p3, .int p4] sz L K I J Q) (va_Qi (fun (r : Int32) (_ : Unit) => True) (fun _ _ => True) (fun _ => False)) 0 0 (fun _ => False) := by
  refine Met.ofW (cc := cX7_dense) (maxL := 11) (ret := (some .int)) (by decide +kernel) rfl ?_
  intro p e s m args below meth c s₁ B hml hv
  obtain ⟨rfl, hsz, hP, hK, hD0, hN⟩ := hv
  have hx := B.exec
  have hb := B.bytes
  have hr := B.returns
  have hts := fun w (h : w ∈ pw) => atoms_spec (ws := Cond.code yX7_dense cX7_dense 11 (some .int) :: pw) B.pre w (List.mem_cons_of_mem _ h)
  have hown : s.vm.findClass RX7 = some m.cls := findClass_of_methodNamed B.named
  have hlocks := B.notSynchronized
  subst hsz
  have hBB : 999 ≤ tm.2 ∧ tm.2 ≤ 6000000 := hI.2.2.2.2
  have hD := hD0
  obtain ⟨H, hHe⟩ : ∃ H : Heap, H = s.heap := ⟨_, rfl⟩
  have hS : va_S (fun _ => False) s.heap H [] := by rw [hHe]; exact va_S.rf
  rw [← hHe] at hP
  have hl := lv_entry ([.ref p0, .int p1, .int p2, .int p3, .int p4]) (n := 11) (Nat.le_of_ble_eq_true rfl)
  rw [lg_entry_eq]
  generalize (lg_sl ([.ref p0, .int p1, .int p2, .int p3, .int p4]) ++ List.replicate (11 - (lg_sl ([.ref p0, .int p1, .int p2, .int p3, .int p4])).length) Slot.unset).toArray = ls at hl ⊢
  have hl : lv_has ls 11 [(0, .ref p0), (1, .int p1), (2, .int p2), (3, .int p3), (4, .int p4)] := hl
  rw [← hHe]
  refine namedW (fun R Qz hR hQz => ?_)
  refine lv_aload_n hx hb dX7_dense_0 rfl (lv_at hl 0 rfl) ?_
  refine lv_iload_n hx hb dX7_dense_1 rfl (lv_at hl 1 rfl) ?_
  refine ro_i (va_runV (As := [.int p1]) (rest := []) ⟨hx, hb, hml, hown, hts⟩ (s_X7_isMask l dC dI cs L K G Q hQ x0 m0 tx tm H.size I J hI p0 hLp0 hKp0 p1) (cwV 1 hts (gV pq1364 pq1366 pq31 pq81 pq1367) rfl rfl rfl (by decide +kernel) ⟨(by rw [hR]; exact (Nat.le_of_ble_eq_true rfl)), (by rw [hR]; exact (Nat.le_of_ble_eq_true rfl))⟩) (sP_V hP hD hK hN hLp0 hKp0 rfl rfl) rfl rfl hl.1 rfl (lv_room (Nat.le_of_ble_eq_true rfl)) dX7_dense_2 ⟨(by rw [hR]; exact (Nat.le_of_ble_eq_true rfl)), (by rw [hR]; exact (Nat.le_of_ble_eq_true rfl))⟩) hS hP (fun z2 H locs hz2 hP hS => ?_)
  obtain ⟨bz2, imz2⟩ := hz2
  refine lv_if_eq (tgt := 51) hx hb dX7_dense_5 (by decide) (fun c5 => ?_) (fun c5 => ?_)
  · have t5 := tq_eq (k := z2.toInt) (q := (0)) c5 rfl (by decide +kernel)
    refine lv_iconst (v := (-1)) hx hb dX7_dense_51 (by decide +kernel) ?_
    subst hR; subst hQz
    exact W.iret (v := (-1)) hx hb hr (fun t ht hW => ⟨⟨(-1), (), rfl, trivial, trivial⟩, hS.F ht⟩) hS.2.2 dX7_dense_52
  · have t5 := tq_ne (k := z2.toInt) (q := (0)) c5 rfl (by decide +kernel)
    have i5 := imz2 t5
    refine lv_iload_n hx hb dX7_dense_8 rfl (lv_at hl 2 rfl) ?_
    refine lv_i2l hx hb dX7_dense_9 rfl ?_
    refine lv_topl (fun z9 ez9 => ?_)
    have bz9 := tq_i2l (k := p2.toInt) ez9 rfl
    refine lv_lconst (v := 1) hx hb dX7_dense_10 (by decide +kernel) ?_
    refine lv_aload_n hx hb dX7_dense_11 rfl (lv_at hl 0 rfl) ?_
    refine lv_iload_n hx hb dX7_dense_12 rfl (lv_at hl 1 rfl) ?_
    refine ro_i (va_runV (As := [.int p1]) (rest := [.long 1, .long z9]) ⟨hx, hb, hml, hown, hts⟩ (s_X7_wide l dC dI cs L K G Q hQ x0 m0 tx tm H.size I J hI p0 hLp0 hKp0 p1 ⟨by omega, by omega⟩) (cwV 1 hts (gV pq1368 pq1370 pq32 pq81 pq1371) rfl rfl rfl (by decide +kernel) ⟨(by rw [hR]; exact (Nat.le_of_ble_eq_true rfl)), (by rw [hR]; exact (Nat.le_of_ble_eq_true rfl))⟩) (sP_V hP hD hK hN hLp0 hKp0 rfl rfl) rfl rfl hl.1 rfl (lv_room (Nat.le_of_ble_eq_true rfl)) dX7_dense_13 ⟨(by rw [hR]; exact (Nat.le_of_ble_eq_true rfl)), (by rw [hR]; exact (Nat.le_of_ble_eq_true rfl))⟩) hS hP (fun z13 H locs hz13 hP hS => ?_)
    obtain ⟨bz13, fez13⟩ := hz13
    refine lv_i2l hx hb dX7_dense_16 rfl ?_
    refine lv_topl (fun z16 ez16 => ?_)
    have bz16 := tq_i2l (k := z13.toInt) ez16 rfl
    refine ro_i (va_runS (As := [.long z9, .long 1, .long z16]) (rest := []) ⟨hx, hb, hml, hown, hts⟩ (s_X7_in l dC dI cs L K Q H.size I J z9 1 z16) (va_cwS 3 hts (gS pq1234 pq1235 pq81 pq1236) rfl rfl rfl (by decide +kernel) ⟨(by rw [hR]; exact (Nat.le_of_ble_eq_true rfl)), (by rw [hR]; exact (Nat.le_of_ble_eq_true rfl))⟩) (sP_S hP hD hK hN) rfl rfl hl.1 rfl (lv_room (Nat.le_of_ble_eq_true rfl)) dX7_dense_17 ⟨(by rw [hR]; exact (Nat.le_of_ble_eq_true rfl)), (by rw [hR]; exact (Nat.le_of_ble_eq_true rfl))⟩) hS hP (fun z17 H locs hz17 hP hS => ?_)
    have csl17_1 : (1 : Int64).toInt = 1 := by decide +kernel
    obtain ⟨bz17, imz17⟩ := hz17
    refine lv_if_eq (tgt := 51) hx hb dX7_dense_20 (by decide) (fun c20 => ?_) (fun c20 => ?_)
    · have t20 := tq_eq (k := z17.toInt) (q := (0)) c20 rfl (by decide +kernel)
      refine lv_iconst (v := (-1)) hx hb dX7_dense_51 (by decide +kernel) ?_
      subst hR; subst hQz
      exact W.iret (v := (-1)) hx hb hr (fun t ht hW => ⟨⟨(-1), (), rfl, trivial, trivial⟩, hS.F ht⟩) hS.2.2 dX7_dense_52
    · have t20 := tq_ne (k := z17.toInt) (q := (0)) c20 rfl (by decide +kernel)
      have i20 := imz17 t20
      refine lv_iload_n hx hb dX7_dense_23 rfl (lv_at hl 3 rfl) ?_
      refine lv_i2l hx hb dX7_dense_24 rfl ?_
      refine lv_topl (fun z24 ez24 => ?_)
      have bz24 := tq_i2l (k := p3.toInt) ez24 rfl
      refine lv_lconst (v := 1) hx hb dX7_dense_25 (by decide +kernel) ?_
      refine lv_aload_n hx hb dX7_dense_26 rfl (lv_at hl 0 rfl) ?_
      refine lv_iload_n hx hb dX7_dense_27 rfl (lv_at hl 1 rfl) ?_
      refine ro_i (va_runV (As := [.int p1]) (rest := [.long 1, .long z24]) ⟨hx, hb, hml, hown, hts⟩ (s_X7_high l dC dI cs L K G Q hQ x0 m0 tx tm H.size I J hI p0 hLp0 hKp0 p1 ⟨by omega, by omega⟩) (cwV 1 hts (gV pq1372 pq1374 pq33 pq81 pq1375) rfl rfl rfl (by decide +kernel) ⟨(by rw [hR]; exact (Nat.le_of_ble_eq_true rfl)), (by rw [hR]; exact (Nat.le_of_ble_eq_true rfl))⟩) (sP_V hP hD hK hN hLp0 hKp0 rfl rfl) rfl rfl hl.1 rfl (lv_room (Nat.le_of_ble_eq_true rfl)) dX7_dense_28 ⟨(by rw [hR]; exact (Nat.le_of_ble_eq_true rfl)), (by rw [hR]; exact (Nat.le_of_ble_eq_true rfl))⟩) hS hP (fun z28 H locs hz28 hP hS => ?_)
      obtain ⟨bz28, fez28⟩ := hz28
      refine lv_i2l hx hb dX7_dense_31 rfl ?_
      refine lv_topl (fun z31 ez31 => ?_)
      have bz31 := tq_i2l (k := z28.toInt) ez31 rfl
      refine ro_i (va_runS (As := [.long z24, .long 1, .long z31]) (rest := []) ⟨hx, hb, hml, hown, hts⟩ (s_X7_in l dC dI cs L K Q H.size I J z24 1 z31) (va_cwS 3 hts (gS pq1234 pq1235 pq81 pq1236) rfl rfl rfl (by decide +kernel) ⟨(by rw [hR]; exact (Nat.le_of_ble_eq_true rfl)), (by rw [hR]; exact (Nat.le_of_ble_eq_true rfl))⟩) (sP_S hP hD hK hN) rfl rfl hl.1 rfl (lv_room (Nat.le_of_ble_eq_true rfl)) dX7_dense_32 ⟨(by rw [hR]; exact (Nat.le_of_ble_eq_true rfl)), (by rw [hR]; exact (Nat.le_of_ble_eq_true rfl))⟩) hS hP (fun z32 H locs hz32 hP hS => ?_)
      have csl32_1 : (1 : Int64).toInt = 1 := by decide +kernel
      obtain ⟨bz32, imz32⟩ := hz32
      refine lv_if_eq (tgt := 51) hx hb dX7_dense_35 (by decide) (fun c35 => ?_) (fun c35 => ?_)
      · have t35 := tq_eq (k := z32.toInt) (q := (0)) c35 rfl (by decide +kernel)
        refine lv_iconst (v := (-1)) hx hb dX7_dense_51 (by decide +kernel) ?_
        subst hR; subst hQz
        exact W.iret (v := (-1)) hx hb hr (fun t ht hW => ⟨⟨(-1), (), rfl, trivial, trivial⟩, hS.F ht⟩) hS.2.2 dX7_dense_52
      · have t35 := tq_ne (k := z32.toInt) (q := (0)) c35 rfl (by decide +kernel)
        have i35 := imz32 t35
        refine lv_iload hx hb dX7_dense_38 (lv_at hl 4 rfl) ?_
        refine lv_i2l hx hb dX7_dense_40 rfl ?_
        refine lv_topl (fun z40 ez40 => ?_)
        have bz40 := tq_i2l (k := p4.toInt) ez40 rfl
        refine lv_lconst (v := 0) hx hb dX7_dense_41 (by decide +kernel) ?_
        refine lv_ldc2 hx hb hown (hts _ pq1595) dX7_dense_42 ?_
        refine ro_i (va_runS (As := [.long z40, .long 0, .long 2]) (rest := []) ⟨hx, hb, hml, hown, hts⟩ (s_X7_in l dC dI cs L K Q H.size I J z40 0 2) (va_cwS 3 hts (gS pq1234 pq1235 pq81 pq1236) rfl rfl rfl (by decide +kernel) ⟨(by rw [hR]; exact (Nat.le_of_ble_eq_true rfl)), (by rw [hR]; exact (Nat.le_of_ble_eq_true rfl))⟩) (sP_S hP hD hK hN) rfl rfl hl.1 rfl (lv_room (Nat.le_of_ble_eq_true rfl)) dX7_dense_45 ⟨(by rw [hR]; exact (Nat.le_of_ble_eq_true rfl)), (by rw [hR]; exact (Nat.le_of_ble_eq_true rfl))⟩) hS hP (fun z45 H locs hz45 hP hS => ?_)
        have csl45_0 : (0 : Int64).toInt = 0 := by decide +kernel
        have csl45_2 : (2 : Int64).toInt = 2 := by decide +kernel
        obtain ⟨bz45, imz45⟩ := hz45
        refine lv_if_ne (tgt := 53) hx hb dX7_dense_48 (by decide) (fun c48 => ?_) (fun c48 => ?_)
        · have t48 := tq_ne (k := z45.toInt) (q := (0)) c48 rfl (by decide +kernel)
          have i48 := imz45 t48
          refine lv_iconst (v := (-1)) hx hb dX7_dense_53 (by decide +kernel) ?_
          refine lv_istore (lv' := [(5, .int (-1)), (0, .ref p0), (1, .int p1), (2, .int p2), (3, .int p3), (4, .int p4)]) hx hb dX7_dense_54 hl (by decide) rfl (fun ls hl => ?_)
          refine lv_iconst (v := 0) hx hb dX7_dense_56 (by decide +kernel) ?_
          refine lv_istore (lv' := [(6, .int 0), (5, .int (-1)), (0, .ref p0), (1, .int p1), (2, .int p2), (3, .int p3), (4, .int p4)]) hx hb dX7_dense_57 hl (by decide) rfl (fun ls hl => ?_)
          refine lv_iconst (v := 0) hx hb dX7_dense_59 (by decide +kernel) ?_
          refine lv_istore (lv' := [(7, .int 0), (6, .int 0), (5, .int (-1)), (0, .ref p0), (1, .int p1), (2, .int p2), (3, .int p3), (4, .int p4)]) hx hb dX7_dense_60 hl (by decide) rfl (fun ls hl => ?_)
          refine lv_iconst (v := 0) hx hb dX7_dense_62 (by decide +kernel) ?_
          refine lv_istore (lv' := [(8, .int 0), (7, .int 0), (6, .int 0), (5, .int (-1)), (0, .ref p0), (1, .int p1), (2, .int p2), (3, .int p3), (4, .int p4)]) hx hb dX7_dense_63 hl (by decide) rfl (fun ls hl => ?_)
          have key65 := blocks (fun n => ∀ (v65_5 : Int32) (v65_6 : Int32) (v65_7 : Int32) (v65_8 : Int32) (H : Heap) (lo : List Loc) (ls : Array Slot), (42 - v65_8.toInt).toNat = n → ((-1) ≤ v65_5.toInt ∧ v65_5.toInt ≤ 2147483647) → ((0) ≤ v65_6.toInt ∧ v65_6.toInt ≤ 101) → ((0) ≤ v65_7.toInt ∧ v65_7.toInt ≤ 41) → ((0) ≤ v65_8.toInt ∧ v65_8.toInt ≤ 41) → va_P (dC, dI) vwCl (Wd cs L K I J Q) H → va_S (fun _ => False) s.heap H lo → lv_has ls 11 [(0, .ref p0), (1, .int p1), (2, .int p2), (3, .int p3), (4, .int p4), (5, .int v65_5), (6, .int v65_6), (7, .int v65_7), (8, .int v65_8)] → W p l e R s m (([.ref p0, .int p1, .int p2, .int p3, .int p4] : List Value).toArray) below meth c H lo 0 0 Qz (F0 m 65 ls [])) (by
            intro n ih65
            intro v65_5 v65_6 v65_7 v65_8 H lo ls hmu65 bv65_5 bv65_6 bv65_7 bv65_8 hP hS hl
            refine lv_iload hx hb dX7_dense_65 (lv_at hl 8 rfl) ?_
            refine lv_iload_n hx hb dX7_dense_67 rfl (lv_at hl 3 rfl) ?_
            refine lv_iadd hx hb dX7_dense_68 ?_
            refine lv_topi (fun z68 ez68 => ?_)
            have bz68 := tq_add (k := v65_8.toInt) (q := p3.toInt) ez68 rfl rfl (by omega) (by omega)
            refine lv_aload_n hx hb dX7_dense_69 rfl (lv_at hl 0 rfl) ?_
            refine lv_iload_n hx hb dX7_dense_70 rfl (lv_at hl 1 rfl) ?_
            refine ro_i (va_runV (As := [.int p1]) (rest := [.int z68]) ⟨hx, hb, hml, hown, hts⟩ (s_X7_high l dC dI cs L K G Q hQ x0 m0 tx tm H.size I J hI p0 hLp0 hKp0 p1 ⟨by omega, by omega⟩) (cwV 1 hts (gV pq1372 pq1374 pq33 pq81 pq1375) rfl rfl rfl (by decide +kernel) ⟨(by rw [hR]; exact (Nat.le_of_ble_eq_true rfl)), (by rw [hR]; exact (Nat.le_of_ble_eq_true rfl))⟩) (sP_V hP hD hK hN hLp0 hKp0 rfl rfl) rfl rfl hl.1 rfl (lv_room (Nat.le_of_ble_eq_true rfl)) dX7_dense_71 ⟨(by rw [hR]; exact (Nat.le_of_ble_eq_true rfl)), (by rw [hR]; exact (Nat.le_of_ble_eq_true rfl))⟩) hS hP (fun z71 H locs hz71 hP hS => ?_)
            obtain ⟨bz71, fez71⟩ := hz71
            obtain rfl : z28 = z71 := fez28.trans fez71.symm
            refine lv_icmp_gt (tgt := 165) hx hb dX7_dense_74 (by decide) (fun c74 => ?_) (fun c74 => ?_)
            · have t74 := tq_lt (k := z28.toInt) (q := z68.toInt) c74 rfl rfl
              refine lv_iload hx hb dX7_dense_165 (lv_at hl 4 rfl) ?_
              refine lv_if_ne (tgt := 175) hx hb dX7_dense_167 (by decide) (fun c167 => ?_) (fun c167 => ?_)
              · have t167 := tq_ne (k := p4.toInt) (q := (0)) c167 rfl (by decide +kernel)
                refine lv_iload hx hb dX7_dense_175 (lv_at hl 4 rfl) ?_
                refine lv_iconst (v := 1) hx hb dX7_dense_177 (by decide +kernel) ?_
                refine lv_icmp_ne (tgt := 186) hx hb dX7_dense_178 (by decide) (fun c178 => ?_) (fun c178 => ?_)
                · have t178 := tq_ne (k := p4.toInt) (q := (1)) c178 rfl (by decide +kernel)
                  refine lv_iload hx hb dX7_dense_186 (lv_at hl 7 rfl) ?_
                  subst hR; subst hQz
                  exact W.iret (v := v65_7) hx hb hr (fun t ht hW => ⟨⟨v65_7, (), rfl, trivial, trivial⟩, hS.F ht⟩) hS.2.2 dX7_dense_188
                · have t178 := tq_eq (k := p4.toInt) (q := (1)) c178 rfl (by decide +kernel)
                  refine lv_iload hx hb dX7_dense_181 (lv_at hl 6 rfl) ?_
                  refine lv_goto (tgt := 188) hx hb dX7_dense_183 (by decide) ?_
                  subst hR; subst hQz
                  exact W.iret (v := v65_6) hx hb hr (fun t ht hW => ⟨⟨v65_6, (), rfl, trivial, trivial⟩, hS.F ht⟩) hS.2.2 dX7_dense_188
              · have t167 := tq_eq (k := p4.toInt) (q := (0)) c167 rfl (by decide +kernel)
                refine lv_iload hx hb dX7_dense_170 (lv_at hl 5 rfl) ?_
                refine lv_goto (tgt := 188) hx hb dX7_dense_172 (by decide) ?_
                subst hR; subst hQz
                exact W.iret (v := v65_5) hx hb hr (fun t ht hW => ⟨⟨v65_5, (), rfl, trivial, trivial⟩, hS.F ht⟩) hS.2.2 dX7_dense_188
            · have t74 := tq_nlt (k := z28.toInt) (q := z68.toInt) c74 rfl rfl
              refine lv_aload_n hx hb dX7_dense_77 rfl (lv_at hl 0 rfl) ?_
              refine lv_iload_n hx hb dX7_dense_78 rfl (lv_at hl 1 rfl) ?_
              refine lv_iconst (v := 0) hx hb dX7_dense_79 (by decide +kernel) ?_
              refine lv_iload hx hb dX7_dense_80 (lv_at hl 8 rfl) ?_
              refine lv_iload_n hx hb dX7_dense_82 rfl (lv_at hl 2 rfl) ?_
              refine lv_iload_n hx hb dX7_dense_83 rfl (lv_at hl 3 rfl) ?_
              refine ro_i (va_runV (As := [.int p1, .int 0, .int v65_8, .int p2, .int p3]) (rest := []) ⟨hx, hb, hml, hown, hts⟩ (s_X7_within l dC dI cs L K G Q hQ x0 m0 tx tm H.size I J hI p0 hLp0 hKp0 p1 ⟨by omega, by omega⟩ 0 v65_8 p2 p3) (cwV 5 hts (gV pq1682 pq1684 pq70 pq81 pq1685) rfl rfl rfl (by decide +kernel) ⟨(by rw [hR]; exact (Nat.le_of_ble_eq_true rfl)), (by rw [hR]; exact (Nat.le_of_ble_eq_true rfl))⟩) (sP_V hP hD hK hN hLp0 hKp0 rfl rfl) rfl rfl hl.1 rfl (lv_room (Nat.le_of_ble_eq_true rfl)) dX7_dense_84 ⟨(by rw [hR]; exact (Nat.le_of_ble_eq_true rfl)), (by rw [hR]; exact (Nat.le_of_ble_eq_true rfl))⟩) hS hP (fun z84 H locs hz84 hP hS => ?_)
              refine lv_istore (lv' := [(9, .int z84), (0, .ref p0), (1, .int p1), (2, .int p2), (3, .int p3), (4, .int p4), (5, .int v65_5), (6, .int v65_6), (7, .int v65_7), (8, .int v65_8)]) hx hb dX7_dense_87 hl (by decide) rfl (fun ls hl => ?_)
              refine lv_iconst (v := 0) hx hb dX7_dense_89 (by decide +kernel) ?_
              refine lv_istore (lv' := [(10, .int 0), (9, .int z84), (0, .ref p0), (1, .int p1), (2, .int p2), (3, .int p3), (4, .int p4), (5, .int v65_5), (6, .int v65_6), (7, .int v65_7), (8, .int v65_8)]) hx hb dX7_dense_90 hl (by decide) rfl (fun ls hl => ?_)
              have key92 := blocks (fun n => ∀ (v92_10 : Int32) (v92_5 : Int32) (v92_6 : Int32) (v92_7 : Int32) (v92_9 : Int32) (H : Heap) (lo : List Loc) (ls : Array Slot), (102 - v92_10.toInt).toNat = n → ((0) ≤ v92_10.toInt ∧ v92_10.toInt ≤ 101) → ((-1) ≤ v92_5.toInt ∧ v92_5.toInt ≤ 2147483647) → ((0) ≤ v92_6.toInt ∧ v92_6.toInt ≤ 101) → ((0) ≤ v92_7.toInt ∧ v92_7.toInt ≤ 41) → va_P (dC, dI) vwCl (Wd cs L K I J Q) H → va_S (fun _ => False) s.heap H lo → lv_has ls 11 [(0, .ref p0), (1, .int p1), (2, .int p2), (3, .int p3), (4, .int p4), (5, .int v92_5), (6, .int v92_6), (7, .int v92_7), (8, .int v65_8), (9, .int v92_9), (10, .int v92_10)] → W p l e R s m (([.ref p0, .int p1, .int p2, .int p3, .int p4] : List Value).toArray) below meth c H lo 0 0 Qz (F0 m 92 ls [])) (by
                intro n ih92
                intro v92_10 v92_5 v92_6 v92_7 v92_9 H lo ls hmu92 bv92_10 bv92_5 bv92_6 bv92_7 hP hS hl
                refine lv_iload hx hb dX7_dense_92 (lv_at hl 10 rfl) ?_
                refine lv_iload_n hx hb dX7_dense_94 rfl (lv_at hl 2 rfl) ?_
                refine lv_iadd hx hb dX7_dense_95 ?_
                refine lv_topi (fun z95 ez95 => ?_)
                have bz95 := tq_add (k := v92_10.toInt) (q := p2.toInt) ez95 rfl rfl (by omega) (by omega)
                refine lv_aload_n hx hb dX7_dense_96 rfl (lv_at hl 0 rfl) ?_
                refine lv_iload_n hx hb dX7_dense_97 rfl (lv_at hl 1 rfl) ?_
                refine ro_i (va_runV (As := [.int p1]) (rest := [.int z95]) ⟨hx, hb, hml, hown, hts⟩ (s_X7_wide l dC dI cs L K G Q hQ x0 m0 tx tm H.size I J hI p0 hLp0 hKp0 p1 ⟨by omega, by omega⟩) (cwV 1 hts (gV pq1368 pq1370 pq32 pq81 pq1371) rfl rfl rfl (by decide +kernel) ⟨(by rw [hR]; exact (Nat.le_of_ble_eq_true rfl)), (by rw [hR]; exact (Nat.le_of_ble_eq_true rfl))⟩) (sP_V hP hD hK hN hLp0 hKp0 rfl rfl) rfl rfl hl.1 rfl (lv_room (Nat.le_of_ble_eq_true rfl)) dX7_dense_98 ⟨(by rw [hR]; exact (Nat.le_of_ble_eq_true rfl)), (by rw [hR]; exact (Nat.le_of_ble_eq_true rfl))⟩) hS hP (fun z98 H locs hz98 hP hS => ?_)
                obtain ⟨bz98, fez98⟩ := hz98
                obtain rfl : z13 = z98 := fez13.trans fez98.symm
                refine lv_icmp_gt (tgt := 159) hx hb dX7_dense_101 (by decide) (fun c101 => ?_) (fun c101 => ?_)
                · have t101 := tq_lt (k := z13.toInt) (q := z95.toInt) c101 rfl rfl
                  obtain ⟨z159, ez159⟩ : ∃ y : Int32, y = v65_8 + 1 := ⟨_, rfl⟩
                  refine lv_iinc (v := z159) (lv' := [(8, .int z159), (0, .ref p0), (1, .int p1), (2, .int p2), (3, .int p3), (4, .int p4), (5, .int v92_5), (6, .int v92_6), (7, .int v92_7), (9, .int v92_9), (10, .int v92_10)]) hx hb dX7_dense_159 hl (k := 8) rfl (by rw [ez159]; rfl) (by decide) rfl (fun ls hl => ?_)
                  have bz159 := tq_add (k := v65_8.toInt) (q := 1) ez159 rfl (by decide +kernel) (by omega) (by omega)
                  refine lv_goto (tgt := 65) hx hb dX7_dense_162 (by decide) ?_
                  exact ih65 _ (by omega) v92_5 v92_6 v92_7 z159 _ _ _ rfl ⟨by omega, by have := fb_rng v92_5; omega⟩ ⟨by omega, by omega⟩ ⟨by omega, by omega⟩ ⟨by omega, by omega⟩ hP hS (lv_sub hl [1, 2, 3, 4, 5, 6, 7, 8, 0] rfl)
                · have t101 := tq_nlt (k := z13.toInt) (q := z95.toInt) c101 rfl rfl
                  refine lv_iload hx hb dX7_dense_104 (lv_at hl 9 rfl) ?_
                  refine lv_iload hx hb dX7_dense_106 (lv_at hl 5 rfl) ?_
                  have j123 : ∀ (v123_5 : Int32) (v123_6 : Int32) (v123_7 : Int32) (H : Heap) (lo : List Loc) (ls : Array Slot), ((-1) ≤ v123_5.toInt ∧ v123_5.toInt ≤ 2147483647) → ((0) ≤ v123_6.toInt ∧ v123_6.toInt ≤ 101) → ((0) ≤ v123_7.toInt ∧ v123_7.toInt ≤ 41) → va_P (dC, dI) vwCl (Wd cs L K I J Q) H → va_S (fun _ => False) s.heap H lo → lv_has ls 11 [(0, .ref p0), (1, .int p1), (2, .int p2), (3, .int p3), (4, .int p4), (5, .int v123_5), (6, .int v123_6), (7, .int v123_7), (8, .int v65_8), (9, .int v92_9), (10, .int v92_10)] → W p l e R s m (([.ref p0, .int p1, .int p2, .int p3, .int p4] : List Value).toArray) below meth c H lo 0 0 Qz (F0 m 123 ls []) := by
                    intro v123_5 v123_6 v123_7 H lo ls bv123_5 bv123_6 bv123_7 hP hS hl
                    refine lv_iload hx hb dX7_dense_123 (lv_at hl 9 rfl) ?_
                    refine lv_aload_n hx hb dX7_dense_125 rfl (lv_at hl 0 rfl) ?_
                    refine lv_iload_n hx hb dX7_dense_126 rfl (lv_at hl 1 rfl) ?_
                    refine lv_iload hx hb dX7_dense_127 (lv_at hl 10 rfl) ?_
                    refine lv_iload_n hx hb dX7_dense_129 rfl (lv_at hl 2 rfl) ?_
                    refine lv_iadd hx hb dX7_dense_130 ?_
                    refine lv_topi (fun z130 ez130 => ?_)
                    have bz130 := tq_add (k := v92_10.toInt) (q := p2.toInt) ez130 rfl rfl (by omega) (by omega)
                    refine lv_iload hx hb dX7_dense_131 (lv_at hl 8 rfl) ?_
                    refine lv_iconst (v := 1) hx hb dX7_dense_133 (by decide +kernel) ?_
                    refine lv_iload_n hx hb dX7_dense_134 rfl (lv_at hl 3 rfl) ?_
                    refine ro_i (va_runV (As := [.int p1, .int z130, .int v65_8, .int 1, .int p3]) (rest := [.int v92_9]) ⟨hx, hb, hml, hown, hts⟩ (s_X7_within l dC dI cs L K G Q hQ x0 m0 tx tm H.size I J hI p0 hLp0 hKp0 p1 ⟨by omega, by omega⟩ z130 v65_8 1 p3) (cwV 5 hts (gV pq1682 pq1684 pq70 pq81 pq1685) rfl rfl rfl (by decide +kernel) ⟨(by rw [hR]; exact (Nat.le_of_ble_eq_true rfl)), (by rw [hR]; exact (Nat.le_of_ble_eq_true rfl))⟩) (sP_V hP hD hK hN hLp0 hKp0 rfl rfl) rfl rfl hl.1 rfl (lv_room (Nat.le_of_ble_eq_true rfl)) dX7_dense_135 ⟨(by rw [hR]; exact (Nat.le_of_ble_eq_true rfl)), (by rw [hR]; exact (Nat.le_of_ble_eq_true rfl))⟩) hS hP (fun z135 H locs hz135 hP hS => ?_)
                    refine lv_aload_n hx hb dX7_dense_138 rfl (lv_at hl 0 rfl) ?_
                    refine lv_iload_n hx hb dX7_dense_139 rfl (lv_at hl 1 rfl) ?_
                    refine lv_iload hx hb dX7_dense_140 (lv_at hl 10 rfl) ?_
                    refine lv_iload hx hb dX7_dense_142 (lv_at hl 8 rfl) ?_
                    refine lv_iconst (v := 1) hx hb dX7_dense_144 (by decide +kernel) ?_
                    refine lv_iload_n hx hb dX7_dense_145 rfl (lv_at hl 3 rfl) ?_
                    refine ro_i (va_runV (As := [.int p1, .int v92_10, .int v65_8, .int 1, .int p3]) (rest := [.int z135, .int v92_9]) ⟨hx, hb, hml, hown, hts⟩ (s_X7_within l dC dI cs L K G Q hQ x0 m0 tx tm H.size I J hI p0 hLp0 hKp0 p1 ⟨by omega, by omega⟩ v92_10 v65_8 1 p3) (cwV 5 hts (gV pq1682 pq1684 pq70 pq81 pq1685) rfl rfl rfl (by decide +kernel) ⟨(by rw [hR]; exact (Nat.le_of_ble_eq_true rfl)), (by rw [hR]; exact (Nat.le_of_ble_eq_true rfl))⟩) (sP_V hP hD hK hN hLp0 hKp0 rfl rfl) rfl rfl hl.1 rfl (lv_room (Nat.le_of_ble_eq_true rfl)) dX7_dense_146 ⟨(by rw [hR]; exact (Nat.le_of_ble_eq_true rfl)), (by rw [hR]; exact (Nat.le_of_ble_eq_true rfl))⟩) hS hP (fun z146 H locs hz146 hP hS => ?_)
                    refine lv_isub hx hb dX7_dense_149 ?_
                    refine lv_topi (fun z149 ez149 => ?_)
                    refine lv_iadd hx hb dX7_dense_150 ?_
                    refine lv_topi (fun z150 ez150 => ?_)
                    refine lv_istore (lv' := [(9, .int z150), (0, .ref p0), (1, .int p1), (2, .int p2), (3, .int p3), (4, .int p4), (5, .int v123_5), (6, .int v123_6), (7, .int v123_7), (8, .int v65_8), (10, .int v92_10)]) hx hb dX7_dense_151 hl (by decide) rfl (fun ls hl => ?_)
                    obtain ⟨z153, ez153⟩ : ∃ y : Int32, y = v92_10 + 1 := ⟨_, rfl⟩
                    refine lv_iinc (v := z153) (lv' := [(10, .int z153), (9, .int z150), (0, .ref p0), (1, .int p1), (2, .int p2), (3, .int p3), (4, .int p4), (5, .int v123_5), (6, .int v123_6), (7, .int v123_7), (8, .int v65_8)]) hx hb dX7_dense_153 hl (k := 10) rfl (by rw [ez153]; rfl) (by decide) rfl (fun ls hl => ?_)
                    have bz153 := tq_add (k := v92_10.toInt) (q := 1) ez153 rfl (by decide +kernel) (by omega) (by omega)
                    refine lv_goto (tgt := 92) hx hb dX7_dense_156 (by decide) ?_
                    exact ih92 _ (by omega) z153 v123_5 v123_6 v123_7 z150 _ _ _ rfl ⟨by omega, by omega⟩ ⟨by omega, by have := fb_rng v123_5; omega⟩ ⟨by omega, by omega⟩ ⟨by omega, by omega⟩ hP hS (lv_sub hl [2, 3, 4, 5, 6, 7, 8, 9, 10, 1, 0] rfl)
                  refine lv_icmp_le (tgt := 123) hx hb dX7_dense_108 (by decide) (fun c108 => ?_) (fun c108 => ?_)
                  · have t108 := tq_le (k := v92_9.toInt) (q := v92_5.toInt) c108 rfl rfl
                    exact j123 v92_5 v92_6 v92_7 _ _ _ ⟨by omega, by have := fb_rng v92_5; omega⟩ ⟨by omega, by omega⟩ ⟨by omega, by omega⟩ hP hS (lv_sub hl [0, 1, 2, 3, 4, 5, 6, 7, 8, 9, 10] rfl)
                  · have t108 := tq_nle (k := v92_9.toInt) (q := v92_5.toInt) c108 rfl rfl
                    have rg108v92_9 := fb_rng v92_9
                    have rg108v92_5 := fb_rng v92_5
                    refine lv_iload hx hb dX7_dense_111 (lv_at hl 9 rfl) ?_
                    refine lv_istore (lv' := [(5, .int v92_9), (0, .ref p0), (1, .int p1), (2, .int p2), (3, .int p3), (4, .int p4), (6, .int v92_6), (7, .int v92_7), (8, .int v65_8), (9, .int v92_9), (10, .int v92_10)]) hx hb dX7_dense_113 hl (by decide) rfl (fun ls hl => ?_)
                    refine lv_iload hx hb dX7_dense_115 (lv_at hl 10 rfl) ?_
                    refine lv_istore (lv' := [(6, .int v92_10), (5, .int v92_9), (0, .ref p0), (1, .int p1), (2, .int p2), (3, .int p3), (4, .int p4), (7, .int v92_7), (8, .int v65_8), (9, .int v92_9), (10, .int v92_10)]) hx hb dX7_dense_117 hl (by decide) rfl (fun ls hl => ?_)
                    refine lv_iload hx hb dX7_dense_119 (lv_at hl 8 rfl) ?_
                    refine lv_istore (lv' := [(7, .int v65_8), (6, .int v92_10), (5, .int v92_9), (0, .ref p0), (1, .int p1), (2, .int p2), (3, .int p3), (4, .int p4), (8, .int v65_8), (9, .int v92_9), (10, .int v92_10)]) hx hb dX7_dense_121 hl (by decide) rfl (fun ls hl => ?_)
                    exact j123 v92_9 v92_10 v65_8 _ _ _ ⟨by omega, by have := fb_rng v92_9; omega⟩ ⟨by omega, by omega⟩ ⟨by omega, by omega⟩ hP hS (lv_sub hl [3, 4, 5, 6, 7, 2, 1, 0, 8, 9, 10] rfl))
              exact key92 _ 0 v65_5 v65_6 v65_7 z84 _ _ _ rfl ⟨by decide +kernel, by decide +kernel⟩ ⟨by omega, by have := fb_rng v65_5; omega⟩ ⟨by omega, by omega⟩ ⟨by omega, by omega⟩ hP hS (lv_sub hl [2, 3, 4, 5, 6, 7, 8, 9, 10, 1, 0] rfl))
          exact key65 _ (-1) 0 0 0 _ _ _ rfl ⟨by decide +kernel, by decide +kernel⟩ ⟨by decide +kernel, by decide +kernel⟩ ⟨by decide +kernel, by decide +kernel⟩ ⟨by decide +kernel, by decide +kernel⟩ hP hS (lv_sub hl [4, 5, 6, 7, 8, 3, 2, 1, 0] rfl)
        · have t48 := tq_eq (k := z45.toInt) (q := (0)) c48 rfl (by decide +kernel)
          refine lv_iconst (v := (-1)) hx hb dX7_dense_51 (by decide +kernel) ?_
          subst hR; subst hQz
          exact W.iret (v := (-1)) hx hb hr (fun t ht hW => ⟨⟨(-1), (), rfl, trivial, trivial⟩, hS.F ht⟩) hS.2.2 dX7_dense_52

set_option maxHeartbeats 4000000 in
set_option maxRecDepth 100000 in
theorem s_X7_dots (l : Launch) (dC : Nat → ClassId) (dI : Nat → Nat → Nat) (cs : Nat → ClassId) (L : List Nat) (K G : Nat → Nat) (Q : Nat → Nat → Option Nat) (hQ : Sv L K G Q) (x0 m0 : Nat) (tx : Int32) (tm : Int32 × Int) (sz : Nat) (I : Nat → Nat → Int32) (J : Nat → Nat → Int64) (hI : Iv L K x0 m0 tx tm I) (p0 : Nat) (hLp0 : p0 ∈ L) (hKp0 : K p0 = 7) (p1 : Int32) (p2 : Int32) (bp2 : (0) ≤ p2.toInt ∧ p2.toInt ≤ 1) (p3 : Int32) : Met l yX7_dots (.code yX7_dots cX7_dots 4 (some .int) :: pw) ({ frames := 3, cells := 0, slots := 0, locals := 76 }) (sP (dC, dI) cs [.ref p0, .int p1, .int p2, .int p3] sz L K I J Q) (va_Qi (fun (r : Int32) (_ : Unit) => True) (fun _ _ => True) (fun _ => False)) 0 0 (fun _ => False) := by
  refine Met.ofW (cc := cX7_dots) (maxL := 4) (ret := (some .int)) (by decide +kernel) rfl ?_
  intro p e s m args below meth c s₁ B hml hv
  obtain ⟨rfl, hsz, hP, hK, hD0, hN⟩ := hv
  have hx := B.exec
  have hb := B.bytes
  have hr := B.returns
  have hts := fun w (h : w ∈ pw) => atoms_spec (ws := Cond.code yX7_dots cX7_dots 4 (some .int) :: pw) B.pre w (List.mem_cons_of_mem _ h)
  have hown : s.vm.findClass RX7 = some m.cls := findClass_of_methodNamed B.named
  have hlocks := B.notSynchronized
  subst hsz
  have hBB : 999 ≤ tm.2 ∧ tm.2 ≤ 6000000 := hI.2.2.2.2
  have hD := hD0
  obtain ⟨H, hHe⟩ : ∃ H : Heap, H = s.heap := ⟨_, rfl⟩
  have hS : va_S (fun _ => False) s.heap H [] := by rw [hHe]; exact va_S.rf
  rw [← hHe] at hP
  have hl := lv_entry ([.ref p0, .int p1, .int p2, .int p3]) (n := 4) (Nat.le_of_ble_eq_true rfl)
  rw [lg_entry_eq]
  generalize (lg_sl ([.ref p0, .int p1, .int p2, .int p3]) ++ List.replicate (4 - (lg_sl ([.ref p0, .int p1, .int p2, .int p3])).length) Slot.unset).toArray = ls at hl ⊢
  have hl : lv_has ls 4 [(0, .ref p0), (1, .int p1), (2, .int p2), (3, .int p3)] := hl
  rw [← hHe]
  refine namedW (fun R Qz hR hQz => ?_)
  refine lv_aload_n hx hb dX7_dots_0 rfl (lv_at hl 0 rfl) ?_
  refine lv_iload_n hx hb dX7_dots_1 rfl (lv_at hl 1 rfl) ?_
  refine ro_i (va_runV (As := [.int p1]) (rest := []) ⟨hx, hb, hml, hown, hts⟩ (s_X7_isMask l dC dI cs L K G Q hQ x0 m0 tx tm H.size I J hI p0 hLp0 hKp0 p1) (cwV 1 hts (gV pq1364 pq1366 pq31 pq81 pq1367) rfl rfl rfl (by decide +kernel) ⟨(by rw [hR]; exact (Nat.le_of_ble_eq_true rfl)), (by rw [hR]; exact (Nat.le_of_ble_eq_true rfl))⟩) (sP_V hP hD hK hN hLp0 hKp0 rfl rfl) rfl rfl hl.1 rfl (lv_room (Nat.le_of_ble_eq_true rfl)) dX7_dots_2 ⟨(by rw [hR]; exact (Nat.le_of_ble_eq_true rfl)), (by rw [hR]; exact (Nat.le_of_ble_eq_true rfl))⟩) hS hP (fun z2 H locs hz2 hP hS => ?_)
  obtain ⟨bz2, imz2⟩ := hz2
  refine lv_if_eq (tgt := 37) hx hb dX7_dots_5 (by decide) (fun c5 => ?_) (fun c5 => ?_)
  · have t5 := tq_eq (k := z2.toInt) (q := (0)) c5 rfl (by decide +kernel)
    refine lv_iconst (v := (-1)) hx hb dX7_dots_37 (by decide +kernel) ?_
    subst hR; subst hQz
    exact W.iret (v := (-1)) hx hb hr (fun t ht hW => ⟨⟨(-1), (), rfl, trivial, trivial⟩, hS.F ht⟩) hS.2.2 dX7_dots_38
  · have t5 := tq_ne (k := z2.toInt) (q := (0)) c5 rfl (by decide +kernel)
    have i5 := imz2 t5
    refine lv_iload_n hx hb dX7_dots_8 rfl (lv_at hl 3 rfl) ?_
    refine lv_i2l hx hb dX7_dots_9 rfl ?_
    refine lv_topl (fun z9 ez9 => ?_)
    have bz9 := tq_i2l (k := p3.toInt) ez9 rfl
    refine lv_lconst (v := 0) hx hb dX7_dots_10 (by decide +kernel) ?_
    refine lv_iload_n hx hb dX7_dots_11 rfl (lv_at hl 2 rfl) ?_
    have j28 : ∀ (w28_2 : Int32) (H : Heap) (lo : List Loc) (ls : Array Slot), ((-300) ≤ w28_2.toInt ∧ w28_2.toInt ≤ 100) → va_P (dC, dI) vwCl (Wd cs L K I J Q) H → va_S (fun _ => False) s.heap H lo → lv_has ls 4 [(0, .ref p0), (1, .int p1), (2, .int p2), (3, .int p3)] → W p l e R s m (([.ref p0, .int p1, .int p2, .int p3] : List Value).toArray) below meth c H lo 0 0 Qz (F0 m 28 ls [.int w28_2, .long 0, .long z9]) := by
      intro w28_2 H lo ls bw28_2 hP hS hl
      refine lv_iconst (v := 1) hx hb dX7_dots_28 (by decide +kernel) ?_
      refine lv_isub hx hb dX7_dots_29 ?_
      refine lv_topi (fun z29 ez29 => ?_)
      have bz29 := tq_sub (k := w28_2.toInt) (q := (1)) ez29 rfl (by decide +kernel) (by omega) (by omega)
      refine lv_i2l hx hb dX7_dots_30 rfl ?_
      refine lv_topl (fun z30 ez30 => ?_)
      have bz30 := tq_i2l (k := z29.toInt) ez30 rfl
      refine ro_i (va_runS (As := [.long z9, .long 0, .long z30]) (rest := []) ⟨hx, hb, hml, hown, hts⟩ (s_X7_in l dC dI cs L K Q H.size I J z9 0 z30) (va_cwS 3 hts (gS pq1234 pq1235 pq81 pq1236) rfl rfl rfl (by decide +kernel) ⟨(by rw [hR]; exact (Nat.le_of_ble_eq_true rfl)), (by rw [hR]; exact (Nat.le_of_ble_eq_true rfl))⟩) (sP_S hP hD hK hN) rfl rfl hl.1 rfl (lv_room (Nat.le_of_ble_eq_true rfl)) dX7_dots_31 ⟨(by rw [hR]; exact (Nat.le_of_ble_eq_true rfl)), (by rw [hR]; exact (Nat.le_of_ble_eq_true rfl))⟩) hS hP (fun z31 H locs hz31 hP hS => ?_)
      have csl31_0 : (0 : Int64).toInt = 0 := by decide +kernel
      obtain ⟨bz31, imz31⟩ := hz31
      refine lv_if_ne (tgt := 39) hx hb dX7_dots_34 (by decide) (fun c34 => ?_) (fun c34 => ?_)
      · have t34 := tq_ne (k := z31.toInt) (q := (0)) c34 rfl (by decide +kernel)
        have i34 := imz31 t34
        refine lv_iload_n hx hb dX7_dots_39 rfl (lv_at hl 2 rfl) ?_
        refine lv_if_eq (tgt := 59) hx hb dX7_dots_40 (by decide) (fun c40 => ?_) (fun c40 => ?_)
        · have t40 := tq_eq (k := p2.toInt) (q := (0)) c40 rfl (by decide +kernel)
          refine lv_aload_n hx hb dX7_dots_59 rfl (lv_at hl 0 rfl) ?_
          refine lv_iload_n hx hb dX7_dots_60 rfl (lv_at hl 1 rfl) ?_
          refine lv_iconst (v := 0) hx hb dX7_dots_61 (by decide +kernel) ?_
          refine lv_iload_n hx hb dX7_dots_62 rfl (lv_at hl 3 rfl) ?_
          refine lv_aload_n hx hb dX7_dots_63 rfl (lv_at hl 0 rfl) ?_
          refine lv_iload_n hx hb dX7_dots_64 rfl (lv_at hl 1 rfl) ?_
          refine ro_i (va_runV (As := [.int p1]) (rest := [.int p3, .int 0, .int p1, .ref p0]) ⟨hx, hb, hml, hown, hts⟩ (s_X7_wide l dC dI cs L K G Q hQ x0 m0 tx tm H.size I J hI p0 hLp0 hKp0 p1 ⟨by omega, by omega⟩) (cwV 1 hts (gV pq1368 pq1370 pq32 pq81 pq1371) rfl rfl rfl (by decide +kernel) ⟨(by rw [hR]; exact (Nat.le_of_ble_eq_true rfl)), (by rw [hR]; exact (Nat.le_of_ble_eq_true rfl))⟩) (sP_V hP hD hK hN hLp0 hKp0 rfl rfl) rfl rfl hl.1 rfl (lv_room (Nat.le_of_ble_eq_true rfl)) dX7_dots_65 ⟨(by rw [hR]; exact (Nat.le_of_ble_eq_true rfl)), (by rw [hR]; exact (Nat.le_of_ble_eq_true rfl))⟩) hS hP (fun z65 H locs hz65 hP hS => ?_)
          obtain ⟨bz65, fez65⟩ := hz65
          refine lv_iconst (v := 1) hx hb dX7_dots_68 (by decide +kernel) ?_
          refine ro_i (va_runV (As := [.int p1, .int 0, .int p3, .int z65, .int 1]) (rest := []) ⟨hx, hb, hml, hown, hts⟩ (s_X7_within l dC dI cs L K G Q hQ x0 m0 tx tm H.size I J hI p0 hLp0 hKp0 p1 ⟨by omega, by omega⟩ 0 p3 z65 1) (cwV 5 hts (gV pq1682 pq1684 pq70 pq81 pq1685) rfl rfl rfl (by decide +kernel) ⟨(by rw [hR]; exact (Nat.le_of_ble_eq_true rfl)), (by rw [hR]; exact (Nat.le_of_ble_eq_true rfl))⟩) (sP_V hP hD hK hN hLp0 hKp0 rfl rfl) rfl rfl hl.1 rfl (lv_room (Nat.le_of_ble_eq_true rfl)) dX7_dots_69 ⟨(by rw [hR]; exact (Nat.le_of_ble_eq_true rfl)), (by rw [hR]; exact (Nat.le_of_ble_eq_true rfl))⟩) hS hP (fun z69 H locs hz69 hP hS => ?_)
          subst hR; subst hQz
          exact W.iret (v := z69) hx hb hr (fun t ht hW => ⟨⟨z69, (), rfl, trivial, trivial⟩, hS.F ht⟩) hS.2.2 dX7_dots_72
        · have t40 := tq_ne (k := p2.toInt) (q := (0)) c40 rfl (by decide +kernel)
          refine lv_aload_n hx hb dX7_dots_43 rfl (lv_at hl 0 rfl) ?_
          refine lv_iload_n hx hb dX7_dots_44 rfl (lv_at hl 1 rfl) ?_
          refine lv_iload_n hx hb dX7_dots_45 rfl (lv_at hl 3 rfl) ?_
          refine lv_iconst (v := 0) hx hb dX7_dots_46 (by decide +kernel) ?_
          refine lv_iconst (v := 1) hx hb dX7_dots_47 (by decide +kernel) ?_
          refine lv_aload_n hx hb dX7_dots_48 rfl (lv_at hl 0 rfl) ?_
          refine lv_iload_n hx hb dX7_dots_49 rfl (lv_at hl 1 rfl) ?_
          refine ro_i (va_runV (As := [.int p1]) (rest := [.int 1, .int 0, .int p3, .int p1, .ref p0]) ⟨hx, hb, hml, hown, hts⟩ (s_X7_high l dC dI cs L K G Q hQ x0 m0 tx tm H.size I J hI p0 hLp0 hKp0 p1 ⟨by omega, by omega⟩) (cwV 1 hts (gV pq1372 pq1374 pq33 pq81 pq1375) rfl rfl rfl (by decide +kernel) ⟨(by rw [hR]; exact (Nat.le_of_ble_eq_true rfl)), (by rw [hR]; exact (Nat.le_of_ble_eq_true rfl))⟩) (sP_V hP hD hK hN hLp0 hKp0 rfl rfl) rfl rfl hl.1 rfl (lv_room (Nat.le_of_ble_eq_true rfl)) dX7_dots_50 ⟨(by rw [hR]; exact (Nat.le_of_ble_eq_true rfl)), (by rw [hR]; exact (Nat.le_of_ble_eq_true rfl))⟩) hS hP (fun z50 H locs hz50 hP hS => ?_)
          obtain ⟨bz50, fez50⟩ := hz50
          refine ro_i (va_runV (As := [.int p1, .int p3, .int 0, .int 1, .int z50]) (rest := []) ⟨hx, hb, hml, hown, hts⟩ (s_X7_within l dC dI cs L K G Q hQ x0 m0 tx tm H.size I J hI p0 hLp0 hKp0 p1 ⟨by omega, by omega⟩ p3 0 1 z50) (cwV 5 hts (gV pq1682 pq1684 pq70 pq81 pq1685) rfl rfl rfl (by decide +kernel) ⟨(by rw [hR]; exact (Nat.le_of_ble_eq_true rfl)), (by rw [hR]; exact (Nat.le_of_ble_eq_true rfl))⟩) (sP_V hP hD hK hN hLp0 hKp0 rfl rfl) rfl rfl hl.1 rfl (lv_room (Nat.le_of_ble_eq_true rfl)) dX7_dots_53 ⟨(by rw [hR]; exact (Nat.le_of_ble_eq_true rfl)), (by rw [hR]; exact (Nat.le_of_ble_eq_true rfl))⟩) hS hP (fun z53 H locs hz53 hP hS => ?_)
          refine lv_goto (tgt := 72) hx hb dX7_dots_56 (by decide) ?_
          subst hR; subst hQz
          exact W.iret (v := z53) hx hb hr (fun t ht hW => ⟨⟨z53, (), rfl, trivial, trivial⟩, hS.F ht⟩) hS.2.2 dX7_dots_72
      · have t34 := tq_eq (k := z31.toInt) (q := (0)) c34 rfl (by decide +kernel)
        refine lv_iconst (v := (-1)) hx hb dX7_dots_37 (by decide +kernel) ?_
        subst hR; subst hQz
        exact W.iret (v := (-1)) hx hb hr (fun t ht hW => ⟨⟨(-1), (), rfl, trivial, trivial⟩, hS.F ht⟩) hS.2.2 dX7_dots_38
    refine lv_if_eq (tgt := 23) hx hb dX7_dots_12 (by decide) (fun c12 => ?_) (fun c12 => ?_)
    · have t12 := tq_eq (k := p2.toInt) (q := (0)) c12 rfl (by decide +kernel)
      refine lv_aload_n hx hb dX7_dots_23 rfl (lv_at hl 0 rfl) ?_
      refine lv_iload_n hx hb dX7_dots_24 rfl (lv_at hl 1 rfl) ?_
      refine ro_i (va_runV (As := [.int p1]) (rest := [.long 0, .long z9]) ⟨hx, hb, hml, hown, hts⟩ (s_X7_high l dC dI cs L K G Q hQ x0 m0 tx tm H.size I J hI p0 hLp0 hKp0 p1 ⟨by omega, by omega⟩) (cwV 1 hts (gV pq1372 pq1374 pq33 pq81 pq1375) rfl rfl rfl (by decide +kernel) ⟨(by rw [hR]; exact (Nat.le_of_ble_eq_true rfl)), (by rw [hR]; exact (Nat.le_of_ble_eq_true rfl))⟩) (sP_V hP hD hK hN hLp0 hKp0 rfl rfl) rfl rfl hl.1 rfl (lv_room (Nat.le_of_ble_eq_true rfl)) dX7_dots_25 ⟨(by rw [hR]; exact (Nat.le_of_ble_eq_true rfl)), (by rw [hR]; exact (Nat.le_of_ble_eq_true rfl))⟩) hS hP (fun z25 H locs hz25 hP hS => ?_)
      obtain ⟨bz25, fez25⟩ := hz25
      exact j28 z25 _ _ _ ⟨by omega, by omega⟩ hP hS (lv_sub hl [0, 1, 2, 3] rfl)
    · have t12 := tq_ne (k := p2.toInt) (q := (0)) c12 rfl (by decide +kernel)
      refine lv_aload_n hx hb dX7_dots_15 rfl (lv_at hl 0 rfl) ?_
      refine lv_iload_n hx hb dX7_dots_16 rfl (lv_at hl 1 rfl) ?_
      refine ro_i (va_runV (As := [.int p1]) (rest := [.long 0, .long z9]) ⟨hx, hb, hml, hown, hts⟩ (s_X7_wide l dC dI cs L K G Q hQ x0 m0 tx tm H.size I J hI p0 hLp0 hKp0 p1 ⟨by omega, by omega⟩) (cwV 1 hts (gV pq1368 pq1370 pq32 pq81 pq1371) rfl rfl rfl (by decide +kernel) ⟨(by rw [hR]; exact (Nat.le_of_ble_eq_true rfl)), (by rw [hR]; exact (Nat.le_of_ble_eq_true rfl))⟩) (sP_V hP hD hK hN hLp0 hKp0 rfl rfl) rfl rfl hl.1 rfl (lv_room (Nat.le_of_ble_eq_true rfl)) dX7_dots_17 ⟨(by rw [hR]; exact (Nat.le_of_ble_eq_true rfl)), (by rw [hR]; exact (Nat.le_of_ble_eq_true rfl))⟩) hS hP (fun z17 H locs hz17 hP hS => ?_)
      obtain ⟨bz17, fez17⟩ := hz17
      refine lv_goto (tgt := 28) hx hb dX7_dots_20 (by decide) ?_
      exact j28 z17 _ _ _ ⟨by omega, by omega⟩ hP hS (lv_sub hl [0, 1, 2, 3] rfl)

set_option maxHeartbeats 4000000 in
set_option maxRecDepth 100000 in
theorem s_X7_farthest (l : Launch) (dC : Nat → ClassId) (dI : Nat → Nat → Nat) (cs : Nat → ClassId) (L : List Nat) (K G : Nat → Nat) (Q : Nat → Nat → Option Nat) (hQ : Sv L K G Q) (x0 m0 : Nat) (tx : Int32) (tm : Int32 × Int) (sz : Nat) (I : Nat → Nat → Int32) (J : Nat → Nat → Int64) (hI : Iv L K x0 m0 tx tm I) (p0 : Nat) (hLp0 : p0 ∈ L) (hKp0 : K p0 = 7) (p1 : Int32) (bp1 : (0) ≤ p1.toInt ∧ p1.toInt ≤ 7) : Met l yX7_farthest (.code yX7_farthest cX7_farthest 9 (some .int) :: pw) ({ frames := 2, cells := 0, slots := 0, locals := 48 }) (sP (dC, dI) cs [.ref p0, .int p1] sz L K I J Q) (va_Qi (fun (r : Int32) (_ : Unit) => True) (fun _ _ => True) (fun _ => False)) 0 0 (fun _ => False) := by
  refine Met.ofW (cc := cX7_farthest) (maxL := 9) (ret := (some .int)) (by decide +kernel) rfl ?_
  intro p e s m args below meth c s₁ B hml hv
  obtain ⟨rfl, hsz, hP, hK, hD0, hN⟩ := hv
  have hx := B.exec
  have hb := B.bytes
  have hr := B.returns
  have hts := fun w (h : w ∈ pw) => atoms_spec (ws := Cond.code yX7_farthest cX7_farthest 9 (some .int) :: pw) B.pre w (List.mem_cons_of_mem _ h)
  have hown : s.vm.findClass RX7 = some m.cls := findClass_of_methodNamed B.named
  have hlocks := B.notSynchronized
  subst hsz
  have hBB : 999 ≤ tm.2 ∧ tm.2 ≤ 6000000 := hI.2.2.2.2
  have hD := hD0
  obtain ⟨H, hHe⟩ : ∃ H : Heap, H = s.heap := ⟨_, rfl⟩
  have hS : va_S (fun _ => False) s.heap H [] := by rw [hHe]; exact va_S.rf
  rw [← hHe] at hP
  have hl := lv_entry ([.ref p0, .int p1]) (n := 9) (Nat.le_of_ble_eq_true rfl)
  rw [lg_entry_eq]
  generalize (lg_sl ([.ref p0, .int p1]) ++ List.replicate (9 - (lg_sl ([.ref p0, .int p1])).length) Slot.unset).toArray = ls at hl ⊢
  have hl : lv_has ls 9 [(0, .ref p0), (1, .int p1)] := hl
  rw [← hHe]
  refine namedW (fun R Qz hR hQz => ?_)
  refine lv_iconst (v := 0) hx hb dX7_farthest_0 (by decide +kernel) ?_
  refine lv_istore_n (lv' := [(2, .int 0), (0, .ref p0), (1, .int p1)]) hx hb dX7_farthest_1 rfl hl (by decide) rfl (fun ls hl => ?_)
  refine lv_iconst (v := 0) hx hb dX7_farthest_2 (by decide +kernel) ?_
  refine lv_istore_n (lv' := [(3, .int 0), (2, .int 0), (0, .ref p0), (1, .int p1)]) hx hb dX7_farthest_3 rfl hl (by decide) rfl (fun ls hl => ?_)
  refine lv_iconst (v := 0) hx hb dX7_farthest_4 (by decide +kernel) ?_
  refine lv_istore (lv' := [(4, .int 0), (3, .int 0), (2, .int 0), (0, .ref p0), (1, .int p1)]) hx hb dX7_farthest_5 hl (by decide) rfl (fun ls hl => ?_)
  refine lv_iconst (v := 0) hx hb dX7_farthest_7 (by decide +kernel) ?_
  refine lv_istore (lv' := [(5, .int 0), (4, .int 0), (3, .int 0), (2, .int 0), (0, .ref p0), (1, .int p1)]) hx hb dX7_farthest_8 hl (by decide) rfl (fun ls hl => ?_)
  refine lv_iconst (v := 0) hx hb dX7_farthest_10 (by decide +kernel) ?_
  refine lv_istore (lv' := [(6, .int 0), (5, .int 0), (4, .int 0), (3, .int 0), (2, .int 0), (0, .ref p0), (1, .int p1)]) hx hb dX7_farthest_11 hl (by decide) rfl (fun ls hl => ?_)
  refine lv_iconst (v := 0) hx hb dX7_farthest_13 (by decide +kernel) ?_
  refine lv_istore (lv' := [(7, .int 0), (6, .int 0), (5, .int 0), (4, .int 0), (3, .int 0), (2, .int 0), (0, .ref p0), (1, .int p1)]) hx hb dX7_farthest_14 hl (by decide) rfl (fun ls hl => ?_)
  have key16 := blocks (fun n => ∀ (v16_2 : Int32) (v16_3 : Int32) (v16_4 : Int32) (v16_5 : Int32) (v16_6 : Int32) (v16_7 : Int32) (H : Heap) (lo : List Loc) (ls : Array Slot), (41 - v16_7.toInt).toNat = n → ((0) ≤ v16_3.toInt ∧ v16_3.toInt ≤ 200) → ((0) ≤ v16_7.toInt ∧ v16_7.toInt ≤ 40) → va_P (dC, dI) vwCl (Wd cs L K I J Q) H → va_S (fun _ => False) s.heap H lo → lv_has ls 9 [(0, .ref p0), (1, .int p1), (2, .int v16_2), (3, .int v16_3), (4, .int v16_4), (5, .int v16_5), (6, .int v16_6), (7, .int v16_7)] → W p l e R s m (([.ref p0, .int p1] : List Value).toArray) below meth c H lo 0 0 Qz (F0 m 16 ls [])) (by
    intro n ih16
    intro v16_2 v16_3 v16_4 v16_5 v16_6 v16_7 H lo ls hmu16 bv16_3 bv16_7 hP hS hl
    refine lv_iload hx hb dX7_farthest_16 (lv_at hl 7 rfl) ?_
    refine lv_aload_n hx hb dX7_farthest_18 rfl (lv_at hl 0 rfl) ?_
    refine lv_iload_n hx hb dX7_farthest_19 rfl (lv_at hl 1 rfl) ?_
    refine ro_i (va_runV (As := [.int p1]) (rest := [.int v16_7]) ⟨hx, hb, hml, hown, hts⟩ (s_X7_high l dC dI cs L K G Q hQ x0 m0 tx tm H.size I J hI p0 hLp0 hKp0 p1 ⟨by omega, by omega⟩) (cwV 1 hts (gV pq1372 pq1374 pq33 pq81 pq1375) rfl rfl rfl (by decide +kernel) ⟨(by rw [hR]; exact (Nat.le_of_ble_eq_true rfl)), (by rw [hR]; exact (Nat.le_of_ble_eq_true rfl))⟩) (sP_V hP hD hK hN hLp0 hKp0 rfl rfl) rfl rfl hl.1 rfl (lv_room (Nat.le_of_ble_eq_true rfl)) dX7_farthest_20 ⟨(by rw [hR]; exact (Nat.le_of_ble_eq_true rfl)), (by rw [hR]; exact (Nat.le_of_ble_eq_true rfl))⟩) hS hP (fun z20 H locs hz20 hP hS => ?_)
    obtain ⟨bz20, fez20⟩ := hz20
    refine lv_icmp_ge (tgt := 163) hx hb dX7_farthest_23 (by decide) (fun c23 => ?_) (fun c23 => ?_)
    · have t23 := tq_le (k := z20.toInt) (q := v16_7.toInt) c23 rfl rfl
      refine lv_iload hx hb dX7_farthest_163 (lv_at hl 4 rfl) ?_
      refine lv_iload_n hx hb dX7_farthest_165 rfl (lv_at hl 3 rfl) ?_
      refine lv_isub hx hb dX7_farthest_166 ?_
      refine lv_topi (fun z166 ez166 => ?_)
      refine lv_iload hx hb dX7_farthest_167 (lv_at hl 6 rfl) ?_
      refine lv_iload hx hb dX7_farthest_169 (lv_at hl 5 rfl) ?_
      refine lv_isub hx hb dX7_farthest_171 ?_
      refine lv_topi (fun z171 ez171 => ?_)
      refine va_mmax hx hb (hml.trans hl.1.symm) hown (hts _ pq1443) (hts _ pq750) (hts _ pq82) (hts _ pq751) (by rw [hR]; exact (Nat.le_of_ble_eq_true rfl)) (by rw [hR]; exact (Nat.le_of_ble_eq_true rfl)) (by rw [hR]; exact (Nat.le_of_ble_eq_true rfl)) (by rw [hR]; exact (Nat.le_of_ble_eq_true rfl)) dX7_farthest_172 ?_
      refine lv_topi (fun z172 ez172 => ?_)
      have bz172 := tq_max ez172
      subst hR; subst hQz
      exact W.iret (v := z172) hx hb hr (fun t ht hW => ⟨⟨z172, (), rfl, trivial, trivial⟩, hS.F ht⟩) hS.2.2 dX7_farthest_175
    · have t23 := tq_nle (k := z20.toInt) (q := v16_7.toInt) c23 rfl rfl
      refine lv_iconst (v := 0) hx hb dX7_farthest_26 (by decide +kernel) ?_
      refine lv_istore (lv' := [(8, .int 0), (0, .ref p0), (1, .int p1), (2, .int v16_2), (3, .int v16_3), (4, .int v16_4), (5, .int v16_5), (6, .int v16_6), (7, .int v16_7)]) hx hb dX7_farthest_27 hl (by decide) rfl (fun ls hl => ?_)
      have key29 := blocks (fun n => ∀ (v29_2 : Int32) (v29_3 : Int32) (v29_4 : Int32) (v29_5 : Int32) (v29_6 : Int32) (v29_8 : Int32) (H : Heap) (lo : List Loc) (ls : Array Slot), (101 - v29_8.toInt).toNat = n → ((0) ≤ v29_3.toInt ∧ v29_3.toInt ≤ 200) → ((0) ≤ v29_8.toInt ∧ v29_8.toInt ≤ 100) → va_P (dC, dI) vwCl (Wd cs L K I J Q) H → va_S (fun _ => False) s.heap H lo → lv_has ls 9 [(0, .ref p0), (1, .int p1), (2, .int v29_2), (3, .int v29_3), (4, .int v29_4), (5, .int v29_5), (6, .int v29_6), (7, .int v16_7), (8, .int v29_8)] → W p l e R s m (([.ref p0, .int p1] : List Value).toArray) below meth c H lo 0 0 Qz (F0 m 29 ls [])) (by
        intro n ih29
        intro v29_2 v29_3 v29_4 v29_5 v29_6 v29_8 H lo ls hmu29 bv29_3 bv29_8 hP hS hl
        refine lv_iload hx hb dX7_farthest_29 (lv_at hl 8 rfl) ?_
        refine lv_aload_n hx hb dX7_farthest_31 rfl (lv_at hl 0 rfl) ?_
        refine lv_iload_n hx hb dX7_farthest_32 rfl (lv_at hl 1 rfl) ?_
        refine ro_i (va_runV (As := [.int p1]) (rest := [.int v29_8]) ⟨hx, hb, hml, hown, hts⟩ (s_X7_wide l dC dI cs L K G Q hQ x0 m0 tx tm H.size I J hI p0 hLp0 hKp0 p1 ⟨by omega, by omega⟩) (cwV 1 hts (gV pq1368 pq1370 pq32 pq81 pq1371) rfl rfl rfl (by decide +kernel) ⟨(by rw [hR]; exact (Nat.le_of_ble_eq_true rfl)), (by rw [hR]; exact (Nat.le_of_ble_eq_true rfl))⟩) (sP_V hP hD hK hN hLp0 hKp0 rfl rfl) rfl rfl hl.1 rfl (lv_room (Nat.le_of_ble_eq_true rfl)) dX7_farthest_33 ⟨(by rw [hR]; exact (Nat.le_of_ble_eq_true rfl)), (by rw [hR]; exact (Nat.le_of_ble_eq_true rfl))⟩) hS hP (fun z33 H locs hz33 hP hS => ?_)
        obtain ⟨bz33, fez33⟩ := hz33
        refine lv_icmp_ge (tgt := 157) hx hb dX7_farthest_36 (by decide) (fun c36 => ?_) (fun c36 => ?_)
        · have t36 := tq_le (k := z33.toInt) (q := v29_8.toInt) c36 rfl rfl
          obtain ⟨z157, ez157⟩ : ∃ y : Int32, y = v16_7 + 1 := ⟨_, rfl⟩
          refine lv_iinc (v := z157) (lv' := [(7, .int z157), (0, .ref p0), (1, .int p1), (2, .int v29_2), (3, .int v29_3), (4, .int v29_4), (5, .int v29_5), (6, .int v29_6), (8, .int v29_8)]) hx hb dX7_farthest_157 hl (k := 7) rfl (by rw [ez157]; rfl) (by decide) rfl (fun ls hl => ?_)
          have bz157 := tq_add (k := v16_7.toInt) (q := 1) ez157 rfl (by decide +kernel) (by omega) (by omega)
          refine lv_goto (tgt := 16) hx hb dX7_farthest_160 (by decide) ?_
          exact ih16 _ (by omega) v29_2 v29_3 v29_4 v29_5 v29_6 z157 _ _ _ rfl ⟨by omega, by omega⟩ ⟨by omega, by omega⟩ hP hS (lv_sub hl [1, 2, 3, 4, 5, 6, 7, 0] rfl)
        · have t36 := tq_nle (k := z33.toInt) (q := v29_8.toInt) c36 rfl rfl
          refine lv_aload_n hx hb dX7_farthest_39 rfl (lv_at hl 0 rfl) ?_
          refine lv_iload_n hx hb dX7_farthest_40 rfl (lv_at hl 1 rfl) ?_
          refine lv_iload hx hb dX7_farthest_41 (lv_at hl 8 rfl) ?_
          refine lv_iload hx hb dX7_farthest_43 (lv_at hl 7 rfl) ?_
          refine ro_i (va_runV (As := [.int p1, .int v29_8, .int v16_7]) (rest := []) ⟨hx, hb, hml, hown, hts⟩ (s_X7_has l dC dI cs L K G Q hQ x0 m0 tx tm H.size I J hI p0 hLp0 hKp0 p1 ⟨by omega, by omega⟩ v29_8 v16_7) (cwV 3 hts (gV pq1376 pq1378 pq34 pq81 pq1379) rfl rfl rfl (by decide +kernel) ⟨(by rw [hR]; exact (Nat.le_of_ble_eq_true rfl)), (by rw [hR]; exact (Nat.le_of_ble_eq_true rfl))⟩) (sP_V hP hD hK hN hLp0 hKp0 rfl rfl) rfl rfl hl.1 rfl (lv_room (Nat.le_of_ble_eq_true rfl)) dX7_farthest_45 ⟨(by rw [hR]; exact (Nat.le_of_ble_eq_true rfl)), (by rw [hR]; exact (Nat.le_of_ble_eq_true rfl))⟩) hS hP (fun z45 H locs hz45 hP hS => ?_)
          obtain ⟨bz45, imz45⟩ := hz45
          have j151 : ∀ (v151_2 : Int32) (v151_3 : Int32) (v151_4 : Int32) (v151_5 : Int32) (v151_6 : Int32) (H : Heap) (lo : List Loc) (ls : Array Slot), ((0) ≤ v151_3.toInt ∧ v151_3.toInt ≤ 200) → va_P (dC, dI) vwCl (Wd cs L K I J Q) H → va_S (fun _ => False) s.heap H lo → lv_has ls 9 [(0, .ref p0), (1, .int p1), (2, .int v151_2), (3, .int v151_3), (4, .int v151_4), (5, .int v151_5), (6, .int v151_6), (7, .int v16_7), (8, .int v29_8)] → W p l e R s m (([.ref p0, .int p1] : List Value).toArray) below meth c H lo 0 0 Qz (F0 m 151 ls []) := by
            intro v151_2 v151_3 v151_4 v151_5 v151_6 H lo ls bv151_3 hP hS hl
            obtain ⟨z151, ez151⟩ : ∃ y : Int32, y = v29_8 + 1 := ⟨_, rfl⟩
            refine lv_iinc (v := z151) (lv' := [(8, .int z151), (0, .ref p0), (1, .int p1), (2, .int v151_2), (3, .int v151_3), (4, .int v151_4), (5, .int v151_5), (6, .int v151_6), (7, .int v16_7)]) hx hb dX7_farthest_151 hl (k := 8) rfl (by rw [ez151]; rfl) (by decide) rfl (fun ls hl => ?_)
            have bz151 := tq_add (k := v29_8.toInt) (q := 1) ez151 rfl (by decide +kernel) (by omega) (by omega)
            refine lv_goto (tgt := 29) hx hb dX7_farthest_154 (by decide) ?_
            exact ih29 _ (by omega) v151_2 v151_3 v151_4 v151_5 v151_6 z151 _ _ _ rfl ⟨by omega, by omega⟩ ⟨by omega, by omega⟩ hP hS (lv_sub hl [1, 2, 3, 4, 5, 6, 7, 8, 0] rfl)
          refine lv_if_ne (tgt := 54) hx hb dX7_farthest_48 (by decide) (fun c48 => ?_) (fun c48 => ?_)
          · have t48 := tq_ne (k := z45.toInt) (q := (0)) c48 rfl (by decide +kernel)
            have i48 := imz45 t48
            refine lv_iload_n hx hb dX7_farthest_54 rfl (lv_at hl 2 rfl) ?_
            have j75 : ∀ (w75_0 : Int32) (H : Heap) (lo : List Loc) (ls : Array Slot), ((0) ≤ w75_0.toInt ∧ w75_0.toInt ≤ 138) → va_P (dC, dI) vwCl (Wd cs L K I J Q) H → va_S (fun _ => False) s.heap H lo → lv_has ls 9 [(0, .ref p0), (1, .int p1), (2, .int v29_2), (3, .int v29_3), (4, .int v29_4), (5, .int v29_5), (6, .int v29_6), (7, .int v16_7), (8, .int v29_8)] → W p l e R s m (([.ref p0, .int p1] : List Value).toArray) below meth c H lo 0 0 Qz (F0 m 75 ls [.int w75_0]) := by
              intro w75_0 H lo ls bw75_0 hP hS hl
              refine lv_istore_n (lv' := [(3, .int w75_0), (0, .ref p0), (1, .int p1), (2, .int v29_2), (4, .int v29_4), (5, .int v29_5), (6, .int v29_6), (7, .int v16_7), (8, .int v29_8)]) hx hb dX7_farthest_75 rfl hl (by decide) rfl (fun ls hl => ?_)
              refine lv_iload_n hx hb dX7_farthest_76 rfl (lv_at hl 3 rfl) ?_
              have j98 : ∀ (w98_0 : Int32) (H : Heap) (lo : List Loc) (ls : Array Slot), ((0) ≤ w98_0.toInt ∧ w98_0.toInt ≤ 2147483647) → va_P (dC, dI) vwCl (Wd cs L K I J Q) H → va_S (fun _ => False) s.heap H lo → lv_has ls 9 [(0, .ref p0), (1, .int p1), (2, .int v29_2), (3, .int w75_0), (4, .int v29_4), (5, .int v29_5), (6, .int v29_6), (7, .int v16_7), (8, .int v29_8)] → W p l e R s m (([.ref p0, .int p1] : List Value).toArray) below meth c H lo 0 0 Qz (F0 m 98 ls [.int w98_0]) := by
                intro w98_0 H lo ls bw98_0 hP hS hl
                refine lv_istore (lv' := [(4, .int w98_0), (0, .ref p0), (1, .int p1), (2, .int v29_2), (3, .int w75_0), (5, .int v29_5), (6, .int v29_6), (7, .int v16_7), (8, .int v29_8)]) hx hb dX7_farthest_98 hl (by decide) rfl (fun ls hl => ?_)
                refine lv_iload_n hx hb dX7_farthest_100 rfl (lv_at hl 3 rfl) ?_
                have j122 : ∀ (w122_0 : Int32) (H : Heap) (lo : List Loc) (ls : Array Slot), ((-2147483648) ≤ w122_0.toInt ∧ w122_0.toInt ≤ 99) → va_P (dC, dI) vwCl (Wd cs L K I J Q) H → va_S (fun _ => False) s.heap H lo → lv_has ls 9 [(0, .ref p0), (1, .int p1), (2, .int v29_2), (3, .int w75_0), (4, .int w98_0), (5, .int v29_5), (6, .int v29_6), (7, .int v16_7), (8, .int v29_8)] → W p l e R s m (([.ref p0, .int p1] : List Value).toArray) below meth c H lo 0 0 Qz (F0 m 122 ls [.int w122_0]) := by
                  intro w122_0 H lo ls bw122_0 hP hS hl
                  refine lv_istore (lv' := [(5, .int w122_0), (0, .ref p0), (1, .int p1), (2, .int v29_2), (3, .int w75_0), (4, .int w98_0), (6, .int v29_6), (7, .int v16_7), (8, .int v29_8)]) hx hb dX7_farthest_122 hl (by decide) rfl (fun ls hl => ?_)
                  refine lv_iload_n hx hb dX7_farthest_124 rfl (lv_at hl 3 rfl) ?_
                  have j146 : ∀ (w146_0 : Int32) (H : Heap) (lo : List Loc) (ls : Array Slot), ((-39) ≤ w146_0.toInt ∧ w146_0.toInt ≤ 2147483647) → va_P (dC, dI) vwCl (Wd cs L K I J Q) H → va_S (fun _ => False) s.heap H lo → lv_has ls 9 [(0, .ref p0), (1, .int p1), (2, .int v29_2), (3, .int w75_0), (4, .int w98_0), (5, .int w122_0), (6, .int v29_6), (7, .int v16_7), (8, .int v29_8)] → W p l e R s m (([.ref p0, .int p1] : List Value).toArray) below meth c H lo 0 0 Qz (F0 m 146 ls [.int w146_0]) := by
                    intro w146_0 H lo ls bw146_0 hP hS hl
                    refine lv_istore (lv' := [(6, .int w146_0), (0, .ref p0), (1, .int p1), (2, .int v29_2), (3, .int w75_0), (4, .int w98_0), (5, .int w122_0), (7, .int v16_7), (8, .int v29_8)]) hx hb dX7_farthest_146 hl (by decide) rfl (fun ls hl => ?_)
                    obtain ⟨z148, ez148⟩ : ∃ y : Int32, y = v29_2 + 1 := ⟨_, rfl⟩
                    refine lv_iinc (v := z148) (lv' := [(2, .int z148), (6, .int w146_0), (0, .ref p0), (1, .int p1), (3, .int w75_0), (4, .int w98_0), (5, .int w122_0), (7, .int v16_7), (8, .int v29_8)]) hx hb dX7_farthest_148 hl (k := 3) rfl (by rw [ez148]; rfl) (by decide) rfl (fun ls hl => ?_)
                    exact j151 z148 w75_0 w98_0 w122_0 w146_0 _ _ _ ⟨by omega, by omega⟩ hP hS (lv_sub hl [2, 3, 0, 4, 5, 6, 1, 7, 8] rfl)
                  refine lv_if_ne (tgt := 136) hx hb dX7_farthest_125 (by decide) (fun c125 => ?_) (fun c125 => ?_)
                  · have t125 := tq_ne (k := v29_2.toInt) (q := (0)) c125 rfl (by decide +kernel)
                    refine lv_iload hx hb dX7_farthest_136 (lv_at hl 6 rfl) ?_
                    refine lv_iload hx hb dX7_farthest_138 (lv_at hl 8 rfl) ?_
                    refine lv_iload hx hb dX7_farthest_140 (lv_at hl 7 rfl) ?_
                    refine lv_isub hx hb dX7_farthest_142 ?_
                    refine lv_topi (fun z142 ez142 => ?_)
                    have bz142 := tq_sub (k := v29_8.toInt) (q := v16_7.toInt) ez142 rfl rfl (by omega) (by omega)
                    refine va_mmax hx hb (hml.trans hl.1.symm) hown (hts _ pq1443) (hts _ pq750) (hts _ pq82) (hts _ pq751) (by rw [hR]; exact (Nat.le_of_ble_eq_true rfl)) (by rw [hR]; exact (Nat.le_of_ble_eq_true rfl)) (by rw [hR]; exact (Nat.le_of_ble_eq_true rfl)) (by rw [hR]; exact (Nat.le_of_ble_eq_true rfl)) dX7_farthest_143 ?_
                    refine lv_topi (fun z143 ez143 => ?_)
                    have bz143 := tq_max ez143
                    exact j146 z143 _ _ _ ⟨by omega, by have := fb_rng z143; omega⟩ hP hS (lv_sub hl [1, 2, 3, 4, 5, 0, 6, 7, 8] rfl)
                  · have t125 := tq_eq (k := v29_2.toInt) (q := (0)) c125 rfl (by decide +kernel)
                    refine lv_iload hx hb dX7_farthest_128 (lv_at hl 8 rfl) ?_
                    refine lv_iload hx hb dX7_farthest_130 (lv_at hl 7 rfl) ?_
                    refine lv_isub hx hb dX7_farthest_132 ?_
                    refine lv_topi (fun z132 ez132 => ?_)
                    have bz132 := tq_sub (k := v29_8.toInt) (q := v16_7.toInt) ez132 rfl rfl (by omega) (by omega)
                    refine lv_goto (tgt := 146) hx hb dX7_farthest_133 (by decide) ?_
                    exact j146 z132 _ _ _ ⟨by omega, by have := fb_rng z132; omega⟩ hP hS (lv_sub hl [1, 2, 3, 4, 5, 0, 6, 7, 8] rfl)
                refine lv_if_ne (tgt := 112) hx hb dX7_farthest_101 (by decide) (fun c101 => ?_) (fun c101 => ?_)
                · have t101 := tq_ne (k := v29_2.toInt) (q := (0)) c101 rfl (by decide +kernel)
                  refine lv_iload hx hb dX7_farthest_112 (lv_at hl 5 rfl) ?_
                  refine lv_iload hx hb dX7_farthest_114 (lv_at hl 8 rfl) ?_
                  refine lv_iload hx hb dX7_farthest_116 (lv_at hl 7 rfl) ?_
                  refine lv_isub hx hb dX7_farthest_118 ?_
                  refine lv_topi (fun z118 ez118 => ?_)
                  have bz118 := tq_sub (k := v29_8.toInt) (q := v16_7.toInt) ez118 rfl rfl (by omega) (by omega)
                  refine va_mmin hx hb (hml.trans hl.1.symm) hown (hts _ pq1269) (hts _ pq407) (hts _ pq82) (hts _ pq408) (by rw [hR]; exact (Nat.le_of_ble_eq_true rfl)) (by rw [hR]; exact (Nat.le_of_ble_eq_true rfl)) (by rw [hR]; exact (Nat.le_of_ble_eq_true rfl)) (by rw [hR]; exact (Nat.le_of_ble_eq_true rfl)) dX7_farthest_119 ?_
                  refine lv_topi (fun z119 ez119 => ?_)
                  have bz119 := tq_min ez119
                  exact j122 z119 _ _ _ ⟨by have := fb_rng z119; omega, by omega⟩ hP hS (lv_sub hl [1, 2, 3, 4, 0, 5, 6, 7, 8] rfl)
                · have t101 := tq_eq (k := v29_2.toInt) (q := (0)) c101 rfl (by decide +kernel)
                  refine lv_iload hx hb dX7_farthest_104 (lv_at hl 8 rfl) ?_
                  refine lv_iload hx hb dX7_farthest_106 (lv_at hl 7 rfl) ?_
                  refine lv_isub hx hb dX7_farthest_108 ?_
                  refine lv_topi (fun z108 ez108 => ?_)
                  have bz108 := tq_sub (k := v29_8.toInt) (q := v16_7.toInt) ez108 rfl rfl (by omega) (by omega)
                  refine lv_goto (tgt := 122) hx hb dX7_farthest_109 (by decide) ?_
                  exact j122 z108 _ _ _ ⟨by have := fb_rng z108; omega, by omega⟩ hP hS (lv_sub hl [1, 2, 3, 4, 0, 5, 6, 7, 8] rfl)
              refine lv_if_ne (tgt := 88) hx hb dX7_farthest_77 (by decide) (fun c77 => ?_) (fun c77 => ?_)
              · have t77 := tq_ne (k := v29_2.toInt) (q := (0)) c77 rfl (by decide +kernel)
                refine lv_iload hx hb dX7_farthest_88 (lv_at hl 4 rfl) ?_
                refine lv_iload hx hb dX7_farthest_90 (lv_at hl 8 rfl) ?_
                refine lv_iload hx hb dX7_farthest_92 (lv_at hl 7 rfl) ?_
                refine lv_iadd hx hb dX7_farthest_94 ?_
                refine lv_topi (fun z94 ez94 => ?_)
                have bz94 := tq_add (k := v29_8.toInt) (q := v16_7.toInt) ez94 rfl rfl (by omega) (by omega)
                refine va_mmax hx hb (hml.trans hl.1.symm) hown (hts _ pq1443) (hts _ pq750) (hts _ pq82) (hts _ pq751) (by rw [hR]; exact (Nat.le_of_ble_eq_true rfl)) (by rw [hR]; exact (Nat.le_of_ble_eq_true rfl)) (by rw [hR]; exact (Nat.le_of_ble_eq_true rfl)) (by rw [hR]; exact (Nat.le_of_ble_eq_true rfl)) dX7_farthest_95 ?_
                refine lv_topi (fun z95 ez95 => ?_)
                have bz95 := tq_max ez95
                exact j98 z95 _ _ _ ⟨by omega, by have := fb_rng z95; omega⟩ hP hS (lv_sub hl [1, 2, 3, 0, 4, 5, 6, 7, 8] rfl)
              · have t77 := tq_eq (k := v29_2.toInt) (q := (0)) c77 rfl (by decide +kernel)
                refine lv_iload hx hb dX7_farthest_80 (lv_at hl 8 rfl) ?_
                refine lv_iload hx hb dX7_farthest_82 (lv_at hl 7 rfl) ?_
                refine lv_iadd hx hb dX7_farthest_84 ?_
                refine lv_topi (fun z84 ez84 => ?_)
                have bz84 := tq_add (k := v29_8.toInt) (q := v16_7.toInt) ez84 rfl rfl (by omega) (by omega)
                refine lv_goto (tgt := 98) hx hb dX7_farthest_85 (by decide) ?_
                exact j98 z84 _ _ _ ⟨by omega, by have := fb_rng z84; omega⟩ hP hS (lv_sub hl [1, 2, 3, 0, 4, 5, 6, 7, 8] rfl)
            refine lv_if_ne (tgt := 66) hx hb dX7_farthest_55 (by decide) (fun c55 => ?_) (fun c55 => ?_)
            · have t55 := tq_ne (k := v29_2.toInt) (q := (0)) c55 rfl (by decide +kernel)
              refine lv_iload_n hx hb dX7_farthest_66 rfl (lv_at hl 3 rfl) ?_
              refine lv_iload hx hb dX7_farthest_67 (lv_at hl 8 rfl) ?_
              refine lv_iload hx hb dX7_farthest_69 (lv_at hl 7 rfl) ?_
              refine lv_iadd hx hb dX7_farthest_71 ?_
              refine lv_topi (fun z71 ez71 => ?_)
              have bz71 := tq_add (k := v29_8.toInt) (q := v16_7.toInt) ez71 rfl rfl (by omega) (by omega)
              refine va_mmin hx hb (hml.trans hl.1.symm) hown (hts _ pq1269) (hts _ pq407) (hts _ pq82) (hts _ pq408) (by rw [hR]; exact (Nat.le_of_ble_eq_true rfl)) (by rw [hR]; exact (Nat.le_of_ble_eq_true rfl)) (by rw [hR]; exact (Nat.le_of_ble_eq_true rfl)) (by rw [hR]; exact (Nat.le_of_ble_eq_true rfl)) dX7_farthest_72 ?_
              refine lv_topi (fun z72 ez72 => ?_)
              have bz72 := tq_min ez72
              exact j75 z72 _ _ _ ⟨by omega, by omega⟩ hP hS (lv_sub hl [0, 1, 2, 3, 4, 5, 6, 7, 8] rfl)
            · have t55 := tq_eq (k := v29_2.toInt) (q := (0)) c55 rfl (by decide +kernel)
              refine lv_iload hx hb dX7_farthest_58 (lv_at hl 8 rfl) ?_
              refine lv_iload hx hb dX7_farthest_60 (lv_at hl 7 rfl) ?_
              refine lv_iadd hx hb dX7_farthest_62 ?_
              refine lv_topi (fun z62 ez62 => ?_)
              have bz62 := tq_add (k := v29_8.toInt) (q := v16_7.toInt) ez62 rfl rfl (by omega) (by omega)
              refine lv_goto (tgt := 75) hx hb dX7_farthest_63 (by decide) ?_
              exact j75 z62 _ _ _ ⟨by omega, by omega⟩ hP hS (lv_sub hl [0, 1, 2, 3, 4, 5, 6, 7, 8] rfl)
          · have t48 := tq_eq (k := z45.toInt) (q := (0)) c48 rfl (by decide +kernel)
            refine lv_goto (tgt := 151) hx hb dX7_farthest_51 (by decide) ?_
            exact j151 v29_2 v29_3 v29_4 v29_5 v29_6 _ _ _ ⟨by omega, by omega⟩ hP hS (lv_sub hl [0, 1, 2, 3, 4, 5, 6, 7, 8] rfl))
      exact key29 _ v16_2 v16_3 v16_4 v16_5 v16_6 0 _ _ _ rfl ⟨by omega, by omega⟩ ⟨by decide +kernel, by decide +kernel⟩ hP hS (lv_sub hl [1, 2, 3, 4, 5, 6, 7, 8, 0] rfl))
  exact key16 _ 0 0 0 0 0 0 _ _ _ rfl ⟨by decide +kernel, by decide +kernel⟩ ⟨by decide +kernel, by decide +kernel⟩ hP hS (lv_sub hl [6, 7, 5, 4, 3, 2, 1, 0] rfl)

set_option maxHeartbeats 4000000 in
set_option maxRecDepth 100000 in
theorem s_X7_spread (l : Launch) (dC : Nat → ClassId) (dI : Nat → Nat → Nat) (cs : Nat → ClassId) (L : List Nat) (K G : Nat → Nat) (Q : Nat → Nat → Option Nat) (hQ : Sv L K G Q) (x0 m0 : Nat) (tx : Int32) (tm : Int32 × Int) (sz : Nat) (I : Nat → Nat → Int32) (J : Nat → Nat → Int64) (hI : Iv L K x0 m0 tx tm I) (p0 : Nat) (hLp0 : p0 ∈ L) (hKp0 : K p0 = 7) (p1 : Int32) (p2 : Int32) : Met l yX7_spread (.code yX7_spread cX7_spread 6 (some .int) :: pw) ({ frames := 3, cells := 0, slots := 0, locals := 76 }) (sP (dC, dI) cs [.ref p0, .int p1, .int p2] sz L K I J Q) (va_Qi (fun (r : Int32) (_ : Unit) => True) (fun _ _ => True) (fun _ => False)) 0 0 (fun _ => False) := by
  refine Met.ofW (cc := cX7_spread) (maxL := 6) (ret := (some .int)) (by decide +kernel) rfl ?_
  intro p e s m args below meth c s₁ B hml hv
  obtain ⟨rfl, hsz, hP, hK, hD0, hN⟩ := hv
  have hx := B.exec
  have hb := B.bytes
  have hr := B.returns
  have hts := fun w (h : w ∈ pw) => atoms_spec (ws := Cond.code yX7_spread cX7_spread 6 (some .int) :: pw) B.pre w (List.mem_cons_of_mem _ h)
  have hown : s.vm.findClass RX7 = some m.cls := findClass_of_methodNamed B.named
  have hlocks := B.notSynchronized
  subst hsz
  have hBB : 999 ≤ tm.2 ∧ tm.2 ≤ 6000000 := hI.2.2.2.2
  have hD := hD0
  obtain ⟨H, hHe⟩ : ∃ H : Heap, H = s.heap := ⟨_, rfl⟩
  have hS : va_S (fun _ => False) s.heap H [] := by rw [hHe]; exact va_S.rf
  rw [← hHe] at hP
  have hl := lv_entry ([.ref p0, .int p1, .int p2]) (n := 6) (Nat.le_of_ble_eq_true rfl)
  rw [lg_entry_eq]
  generalize (lg_sl ([.ref p0, .int p1, .int p2]) ++ List.replicate (6 - (lg_sl ([.ref p0, .int p1, .int p2])).length) Slot.unset).toArray = ls at hl ⊢
  have hl : lv_has ls 6 [(0, .ref p0), (1, .int p1), (2, .int p2)] := hl
  rw [← hHe]
  refine namedW (fun R Qz hR hQz => ?_)
  refine lv_aload_n hx hb dX7_spread_0 rfl (lv_at hl 0 rfl) ?_
  refine lv_iload_n hx hb dX7_spread_1 rfl (lv_at hl 1 rfl) ?_
  refine ro_i (va_runV (As := [.int p1]) (rest := []) ⟨hx, hb, hml, hown, hts⟩ (s_X7_isMask l dC dI cs L K G Q hQ x0 m0 tx tm H.size I J hI p0 hLp0 hKp0 p1) (cwV 1 hts (gV pq1364 pq1366 pq31 pq81 pq1367) rfl rfl rfl (by decide +kernel) ⟨(by rw [hR]; exact (Nat.le_of_ble_eq_true rfl)), (by rw [hR]; exact (Nat.le_of_ble_eq_true rfl))⟩) (sP_V hP hD hK hN hLp0 hKp0 rfl rfl) rfl rfl hl.1 rfl (lv_room (Nat.le_of_ble_eq_true rfl)) dX7_spread_2 ⟨(by rw [hR]; exact (Nat.le_of_ble_eq_true rfl)), (by rw [hR]; exact (Nat.le_of_ble_eq_true rfl))⟩) hS hP (fun z2 H locs hz2 hP hS => ?_)
  obtain ⟨bz2, imz2⟩ := hz2
  refine lv_if_eq (tgt := 20) hx hb dX7_spread_5 (by decide) (fun c5 => ?_) (fun c5 => ?_)
  · have t5 := tq_eq (k := z2.toInt) (q := (0)) c5 rfl (by decide +kernel)
    refine lv_iconst (v := (-1)) hx hb dX7_spread_20 (by decide +kernel) ?_
    subst hR; subst hQz
    exact W.iret (v := (-1)) hx hb hr (fun t ht hW => ⟨⟨(-1), (), rfl, trivial, trivial⟩, hS.F ht⟩) hS.2.2 dX7_spread_21
  · have t5 := tq_ne (k := z2.toInt) (q := (0)) c5 rfl (by decide +kernel)
    have i5 := imz2 t5
    refine lv_iload_n hx hb dX7_spread_8 rfl (lv_at hl 2 rfl) ?_
    refine lv_i2l hx hb dX7_spread_9 rfl ?_
    refine lv_topl (fun z9 ez9 => ?_)
    have bz9 := tq_i2l (k := p2.toInt) ez9 rfl
    refine lv_lconst (v := 0) hx hb dX7_spread_10 (by decide +kernel) ?_
    refine lv_ldc2 hx hb hown (hts _ pq1595) dX7_spread_11 ?_
    refine ro_i (va_runS (As := [.long z9, .long 0, .long 2]) (rest := []) ⟨hx, hb, hml, hown, hts⟩ (s_X7_in l dC dI cs L K Q H.size I J z9 0 2) (va_cwS 3 hts (gS pq1234 pq1235 pq81 pq1236) rfl rfl rfl (by decide +kernel) ⟨(by rw [hR]; exact (Nat.le_of_ble_eq_true rfl)), (by rw [hR]; exact (Nat.le_of_ble_eq_true rfl))⟩) (sP_S hP hD hK hN) rfl rfl hl.1 rfl (lv_room (Nat.le_of_ble_eq_true rfl)) dX7_spread_14 ⟨(by rw [hR]; exact (Nat.le_of_ble_eq_true rfl)), (by rw [hR]; exact (Nat.le_of_ble_eq_true rfl))⟩) hS hP (fun z14 H locs hz14 hP hS => ?_)
    have csl14_0 : (0 : Int64).toInt = 0 := by decide +kernel
    have csl14_2 : (2 : Int64).toInt = 2 := by decide +kernel
    obtain ⟨bz14, imz14⟩ := hz14
    refine lv_if_ne (tgt := 22) hx hb dX7_spread_17 (by decide) (fun c17 => ?_) (fun c17 => ?_)
    · have t17 := tq_ne (k := z14.toInt) (q := (0)) c17 rfl (by decide +kernel)
      have i17 := imz14 t17
      refine lv_iload_n hx hb dX7_spread_22 rfl (lv_at hl 2 rfl) ?_
      refine lv_iconst (v := 2) hx hb dX7_spread_23 (by decide +kernel) ?_
      refine lv_icmp_ne (tgt := 33) hx hb dX7_spread_24 (by decide) (fun c24 => ?_) (fun c24 => ?_)
      · have t24 := tq_ne (k := p2.toInt) (q := (2)) c24 rfl (by decide +kernel)
        refine lv_iconst (v := 0) hx hb dX7_spread_33 (by decide +kernel) ?_
        refine lv_istore_n (lv' := [(3, .int 0), (0, .ref p0), (1, .int p1), (2, .int p2)]) hx hb dX7_spread_34 rfl hl (by decide) rfl (fun ls hl => ?_)
        refine lv_iconst (v := 0) hx hb dX7_spread_35 (by decide +kernel) ?_
        refine lv_istore (lv' := [(4, .int 0), (3, .int 0), (0, .ref p0), (1, .int p1), (2, .int p2)]) hx hb dX7_spread_36 hl (by decide) rfl (fun ls hl => ?_)
        have key38 := blocks (fun n => ∀ (v38_3 : Int32) (v38_4 : Int32) (H : Heap) (lo : List Loc) (ls : Array Slot), (41 - v38_4.toInt).toNat = n → ((0) ≤ v38_4.toInt ∧ v38_4.toInt ≤ 40) → va_P (dC, dI) vwCl (Wd cs L K I J Q) H → va_S (fun _ => False) s.heap H lo → lv_has ls 6 [(0, .ref p0), (1, .int p1), (2, .int p2), (3, .int v38_3), (4, .int v38_4)] → W p l e R s m (([.ref p0, .int p1, .int p2] : List Value).toArray) below meth c H lo 0 0 Qz (F0 m 38 ls [])) (by
          intro n ih38
          intro v38_3 v38_4 H lo ls hmu38 bv38_4 hP hS hl
          refine lv_iload hx hb dX7_spread_38 (lv_at hl 4 rfl) ?_
          refine lv_aload_n hx hb dX7_spread_40 rfl (lv_at hl 0 rfl) ?_
          refine lv_iload_n hx hb dX7_spread_41 rfl (lv_at hl 1 rfl) ?_
          refine ro_i (va_runV (As := [.int p1]) (rest := [.int v38_4]) ⟨hx, hb, hml, hown, hts⟩ (s_X7_high l dC dI cs L K G Q hQ x0 m0 tx tm H.size I J hI p0 hLp0 hKp0 p1 ⟨by omega, by omega⟩) (cwV 1 hts (gV pq1372 pq1374 pq33 pq81 pq1375) rfl rfl rfl (by decide +kernel) ⟨(by rw [hR]; exact (Nat.le_of_ble_eq_true rfl)), (by rw [hR]; exact (Nat.le_of_ble_eq_true rfl))⟩) (sP_V hP hD hK hN hLp0 hKp0 rfl rfl) rfl rfl hl.1 rfl (lv_room (Nat.le_of_ble_eq_true rfl)) dX7_spread_42 ⟨(by rw [hR]; exact (Nat.le_of_ble_eq_true rfl)), (by rw [hR]; exact (Nat.le_of_ble_eq_true rfl))⟩) hS hP (fun z42 H locs hz42 hP hS => ?_)
          obtain ⟨bz42, fez42⟩ := hz42
          refine lv_icmp_ge (tgt := 103) hx hb dX7_spread_45 (by decide) (fun c45 => ?_) (fun c45 => ?_)
          · have t45 := tq_le (k := z42.toInt) (q := v38_4.toInt) c45 rfl rfl
            refine lv_iload_n hx hb dX7_spread_103 rfl (lv_at hl 3 rfl) ?_
            subst hR; subst hQz
            exact W.iret (v := v38_3) hx hb hr (fun t ht hW => ⟨⟨v38_3, (), rfl, trivial, trivial⟩, hS.F ht⟩) hS.2.2 dX7_spread_104
          · have t45 := tq_nle (k := z42.toInt) (q := v38_4.toInt) c45 rfl rfl
            refine lv_iconst (v := 0) hx hb dX7_spread_48 (by decide +kernel) ?_
            refine lv_istore (lv' := [(5, .int 0), (0, .ref p0), (1, .int p1), (2, .int p2), (3, .int v38_3), (4, .int v38_4)]) hx hb dX7_spread_49 hl (by decide) rfl (fun ls hl => ?_)
            have key51 := blocks (fun n => ∀ (v51_3 : Int32) (v51_5 : Int32) (H : Heap) (lo : List Loc) (ls : Array Slot), (101 - v51_5.toInt).toNat = n → ((0) ≤ v51_5.toInt ∧ v51_5.toInt ≤ 100) → va_P (dC, dI) vwCl (Wd cs L K I J Q) H → va_S (fun _ => False) s.heap H lo → lv_has ls 6 [(0, .ref p0), (1, .int p1), (2, .int p2), (3, .int v51_3), (4, .int v38_4), (5, .int v51_5)] → W p l e R s m (([.ref p0, .int p1, .int p2] : List Value).toArray) below meth c H lo 0 0 Qz (F0 m 51 ls [])) (by
              intro n ih51
              intro v51_3 v51_5 H lo ls hmu51 bv51_5 hP hS hl
              refine lv_iload hx hb dX7_spread_51 (lv_at hl 5 rfl) ?_
              refine lv_aload_n hx hb dX7_spread_53 rfl (lv_at hl 0 rfl) ?_
              refine lv_iload_n hx hb dX7_spread_54 rfl (lv_at hl 1 rfl) ?_
              refine ro_i (va_runV (As := [.int p1]) (rest := [.int v51_5]) ⟨hx, hb, hml, hown, hts⟩ (s_X7_wide l dC dI cs L K G Q hQ x0 m0 tx tm H.size I J hI p0 hLp0 hKp0 p1 ⟨by omega, by omega⟩) (cwV 1 hts (gV pq1368 pq1370 pq32 pq81 pq1371) rfl rfl rfl (by decide +kernel) ⟨(by rw [hR]; exact (Nat.le_of_ble_eq_true rfl)), (by rw [hR]; exact (Nat.le_of_ble_eq_true rfl))⟩) (sP_V hP hD hK hN hLp0 hKp0 rfl rfl) rfl rfl hl.1 rfl (lv_room (Nat.le_of_ble_eq_true rfl)) dX7_spread_55 ⟨(by rw [hR]; exact (Nat.le_of_ble_eq_true rfl)), (by rw [hR]; exact (Nat.le_of_ble_eq_true rfl))⟩) hS hP (fun z55 H locs hz55 hP hS => ?_)
              obtain ⟨bz55, fez55⟩ := hz55
              refine lv_icmp_ge (tgt := 97) hx hb dX7_spread_58 (by decide) (fun c58 => ?_) (fun c58 => ?_)
              · have t58 := tq_le (k := z55.toInt) (q := v51_5.toInt) c58 rfl rfl
                obtain ⟨z97, ez97⟩ : ∃ y : Int32, y = v38_4 + 1 := ⟨_, rfl⟩
                refine lv_iinc (v := z97) (lv' := [(4, .int z97), (0, .ref p0), (1, .int p1), (2, .int p2), (3, .int v51_3), (5, .int v51_5)]) hx hb dX7_spread_97 hl (k := 4) rfl (by rw [ez97]; rfl) (by decide) rfl (fun ls hl => ?_)
                have bz97 := tq_add (k := v38_4.toInt) (q := 1) ez97 rfl (by decide +kernel) (by omega) (by omega)
                refine lv_goto (tgt := 38) hx hb dX7_spread_100 (by decide) ?_
                exact ih38 _ (by omega) v51_3 z97 _ _ _ rfl ⟨by omega, by omega⟩ hP hS (lv_sub hl [1, 2, 3, 4, 0] rfl)
              · have t58 := tq_nle (k := z55.toInt) (q := v51_5.toInt) c58 rfl rfl
                refine lv_iload_n hx hb dX7_spread_61 rfl (lv_at hl 3 rfl) ?_
                refine lv_aload_n hx hb dX7_spread_62 rfl (lv_at hl 0 rfl) ?_
                refine lv_iload_n hx hb dX7_spread_63 rfl (lv_at hl 1 rfl) ?_
                refine lv_iload hx hb dX7_spread_64 (lv_at hl 5 rfl) ?_
                refine lv_iload hx hb dX7_spread_66 (lv_at hl 4 rfl) ?_
                refine ro_i (va_runV (As := [.int p1, .int v51_5, .int v38_4]) (rest := [.int v51_3]) ⟨hx, hb, hml, hown, hts⟩ (s_X7_has l dC dI cs L K G Q hQ x0 m0 tx tm H.size I J hI p0 hLp0 hKp0 p1 ⟨by omega, by omega⟩ v51_5 v38_4) (cwV 3 hts (gV pq1376 pq1378 pq34 pq81 pq1379) rfl rfl rfl (by decide +kernel) ⟨(by rw [hR]; exact (Nat.le_of_ble_eq_true rfl)), (by rw [hR]; exact (Nat.le_of_ble_eq_true rfl))⟩) (sP_V hP hD hK hN hLp0 hKp0 rfl rfl) rfl rfl hl.1 rfl (lv_room (Nat.le_of_ble_eq_true rfl)) dX7_spread_68 ⟨(by rw [hR]; exact (Nat.le_of_ble_eq_true rfl)), (by rw [hR]; exact (Nat.le_of_ble_eq_true rfl))⟩) hS hP (fun z68 H locs hz68 hP hS => ?_)
                obtain ⟨bz68, imz68⟩ := hz68
                have j89 : ∀ (w89_1 : Int32) (H : Heap) (lo : List Loc) (ls : Array Slot), ((0) ≤ w89_1.toInt ∧ w89_1.toInt ≤ 99) → va_P (dC, dI) vwCl (Wd cs L K I J Q) H → va_S (fun _ => False) s.heap H lo → lv_has ls 6 [(0, .ref p0), (1, .int p1), (2, .int p2), (3, .int v51_3), (4, .int v38_4), (5, .int v51_5)] → W p l e R s m (([.ref p0, .int p1, .int p2] : List Value).toArray) below meth c H lo 0 0 Qz (F0 m 89 ls [.int w89_1, .int v51_3]) := by
                  intro w89_1 H lo ls bw89_1 hP hS hl
                  refine lv_iadd hx hb dX7_spread_89 ?_
                  refine lv_topi (fun z89 ez89 => ?_)
                  refine lv_istore_n (lv' := [(3, .int z89), (0, .ref p0), (1, .int p1), (2, .int p2), (4, .int v38_4), (5, .int v51_5)]) hx hb dX7_spread_90 rfl hl (by decide) rfl (fun ls hl => ?_)
                  obtain ⟨z91, ez91⟩ : ∃ y : Int32, y = v51_5 + 1 := ⟨_, rfl⟩
                  refine lv_iinc (v := z91) (lv' := [(5, .int z91), (3, .int z89), (0, .ref p0), (1, .int p1), (2, .int p2), (4, .int v38_4)]) hx hb dX7_spread_91 hl (k := 5) rfl (by rw [ez91]; rfl) (by decide) rfl (fun ls hl => ?_)
                  have bz91 := tq_add (k := v51_5.toInt) (q := 1) ez91 rfl (by decide +kernel) (by omega) (by omega)
                  refine lv_goto (tgt := 51) hx hb dX7_spread_94 (by decide) ?_
                  exact ih51 _ (by omega) z89 z91 _ _ _ rfl ⟨by omega, by omega⟩ hP hS (lv_sub hl [2, 3, 4, 1, 5, 0] rfl)
                refine lv_if_eq (tgt := 88) hx hb dX7_spread_71 (by decide) (fun c71 => ?_) (fun c71 => ?_)
                · have t71 := tq_eq (k := z68.toInt) (q := (0)) c71 rfl (by decide +kernel)
                  refine lv_iconst (v := 0) hx hb dX7_spread_88 (by decide +kernel) ?_
                  exact j89 0 _ _ _ ⟨by decide +kernel, by decide +kernel⟩ hP hS (lv_sub hl [0, 1, 2, 3, 4, 5] rfl)
                · have t71 := tq_ne (k := z68.toInt) (q := (0)) c71 rfl (by decide +kernel)
                  have i71 := imz68 t71
                  refine lv_iload_n hx hb dX7_spread_74 rfl (lv_at hl 2 rfl) ?_
                  refine lv_if_ne (tgt := 83) hx hb dX7_spread_75 (by decide) (fun c75 => ?_) (fun c75 => ?_)
                  · have t75 := tq_ne (k := p2.toInt) (q := (0)) c75 rfl (by decide +kernel)
                    refine lv_iload hx hb dX7_spread_83 (lv_at hl 4 rfl) ?_
                    refine lv_goto (tgt := 89) hx hb dX7_spread_85 (by decide) ?_
                    exact j89 v38_4 _ _ _ ⟨by omega, by omega⟩ hP hS (lv_sub hl [0, 1, 2, 3, 4, 5] rfl)
                  · have t75 := tq_eq (k := p2.toInt) (q := (0)) c75 rfl (by decide +kernel)
                    refine lv_iload hx hb dX7_spread_78 (lv_at hl 5 rfl) ?_
                    refine lv_goto (tgt := 89) hx hb dX7_spread_80 (by decide) ?_
                    exact j89 v51_5 _ _ _ ⟨by omega, by omega⟩ hP hS (lv_sub hl [0, 1, 2, 3, 4, 5] rfl))
            exact key51 _ v38_3 0 _ _ _ rfl ⟨by decide +kernel, by decide +kernel⟩ hP hS (lv_sub hl [1, 2, 3, 4, 5, 0] rfl))
        exact key38 _ 0 0 _ _ _ rfl ⟨by decide +kernel, by decide +kernel⟩ hP hS (lv_sub hl [2, 3, 4, 1, 0] rfl)
      · have t24 := tq_eq (k := p2.toInt) (q := (2)) c24 rfl (by decide +kernel)
        refine lv_aload_n hx hb dX7_spread_27 rfl (lv_at hl 0 rfl) ?_
        refine lv_iload_n hx hb dX7_spread_28 rfl (lv_at hl 1 rfl) ?_
        refine ro_i (va_runV (As := [.int p1]) (rest := []) ⟨hx, hb, hml, hown, hts⟩ (s_X7_farthest l dC dI cs L K G Q hQ x0 m0 tx tm H.size I J hI p0 hLp0 hKp0 p1 ⟨by omega, by omega⟩) (cwV 1 hts (gV pq1694 pq1696 pq71 pq81 pq1697) rfl rfl rfl (by decide +kernel) ⟨(by rw [hR]; exact (Nat.le_of_ble_eq_true rfl)), (by rw [hR]; exact (Nat.le_of_ble_eq_true rfl))⟩) (sP_V hP hD hK hN hLp0 hKp0 rfl rfl) rfl rfl hl.1 rfl (lv_room (Nat.le_of_ble_eq_true rfl)) dX7_spread_29 ⟨(by rw [hR]; exact (Nat.le_of_ble_eq_true rfl)), (by rw [hR]; exact (Nat.le_of_ble_eq_true rfl))⟩) hS hP (fun z29 H locs hz29 hP hS => ?_)
        subst hR; subst hQz
        exact W.iret (v := z29) hx hb hr (fun t ht hW => ⟨⟨z29, (), rfl, trivial, trivial⟩, hS.F ht⟩) hS.2.2 dX7_spread_32
    · have t17 := tq_eq (k := z14.toInt) (q := (0)) c17 rfl (by decide +kernel)
      refine lv_iconst (v := (-1)) hx hb dX7_spread_20 (by decide +kernel) ?_
      subst hR; subst hQz
      exact W.iret (v := (-1)) hx hb hr (fun t ht hW => ⟨⟨(-1), (), rfl, trivial, trivial⟩, hS.F ht⟩) hS.2.2 dX7_spread_21

set_option maxHeartbeats 4000000 in
set_option maxRecDepth 100000 in
theorem s_X7_digest (l : Launch) (dC : Nat → ClassId) (dI : Nat → Nat → Nat) (cs : Nat → ClassId) (L : List Nat) (K G : Nat → Nat) (Q : Nat → Nat → Option Nat) (hQ : Sv L K G Q) (x0 m0 : Nat) (tx : Int32) (tm : Int32 × Int) (sz : Nat) (I : Nat → Nat → Int32) (J : Nat → Nat → Int64) (hI : Iv L K x0 m0 tx tm I) (p0 : Nat) (hLp0 : p0 ∈ L) (hKp0 : K p0 = 7) : Met l yX7_digest (.code yX7_digest cX7_digest 5 (some .long) :: pw) ({ frames := 3, cells := 0, slots := 0, locals := 69 }) (sP (dC, dI) cs [.ref p0] sz L K I J Q) (va_Ql (fun (r : Int64) (_ : Unit) => True) (fun _ _ => True) (fun _ => False)) 0 0 (fun _ => False) := by
  refine Met.ofW (cc := cX7_digest) (maxL := 5) (ret := (some .long)) (by decide +kernel) rfl ?_
  intro p e s m args below meth c s₁ B hml hv
  obtain ⟨rfl, hsz, hP, hK, hD0, hN⟩ := hv
  have hx := B.exec
  have hb := B.bytes
  have hr := B.returns
  have hts := fun w (h : w ∈ pw) => atoms_spec (ws := Cond.code yX7_digest cX7_digest 5 (some .long) :: pw) B.pre w (List.mem_cons_of_mem _ h)
  have hown : s.vm.findClass RX7 = some m.cls := findClass_of_methodNamed B.named
  have hlocks := B.notSynchronized
  subst hsz
  have hBB : 999 ≤ tm.2 ∧ tm.2 ≤ 6000000 := hI.2.2.2.2
  have hD := hD0
  obtain ⟨H, hHe⟩ : ∃ H : Heap, H = s.heap := ⟨_, rfl⟩
  have hS : va_S (fun _ => False) s.heap H [] := by rw [hHe]; exact va_S.rf
  rw [← hHe] at hP
  have hl := lv_entry ([.ref p0]) (n := 5) (Nat.le_of_ble_eq_true rfl)
  rw [lg_entry_eq]
  generalize (lg_sl ([.ref p0]) ++ List.replicate (5 - (lg_sl ([.ref p0])).length) Slot.unset).toArray = ls at hl ⊢
  have hl : lv_has ls 5 [(0, .ref p0)] := hl
  rw [← hHe]
  refine namedW (fun R Qz hR hQz => ?_)
  refine lv_ldc2 hx hb hown (hts _ pq1717) dX7_digest_0 ?_
  refine lv_lstore_n (lv' := [(1, .long 17), (0, .ref p0)]) hx hb dX7_digest_3 rfl hl (by decide) rfl (fun ls hl => ?_)
  refine lv_iconst (v := 0) hx hb dX7_digest_4 (by decide +kernel) ?_
  refine lv_istore_n (lv' := [(3, .int 0), (1, .long 17), (0, .ref p0)]) hx hb dX7_digest_5 rfl hl (by decide) rfl (fun ls hl => ?_)
  have key6 := blocks (fun n => ∀ (v6_1 : Int64) (v6_3 : Int32) (H : Heap) (lo : List Loc) (ls : Array Slot), (11 - v6_3.toInt).toNat = n → ((0) ≤ v6_3.toInt ∧ v6_3.toInt ≤ 10) → va_P (dC, dI) vwCl (Wd cs L K I J Q) H → va_S (fun _ => False) s.heap H lo → lv_has ls 5 [(0, .ref p0), (1, .long v6_1), (3, .int v6_3)] → W p l e R s m (([.ref p0] : List Value).toArray) below meth c H lo 0 0 Qz (F0 m 6 ls [])) (by
    intro n ih6
    intro v6_1 v6_3 H lo ls hmu6 bv6_3 hP hS hl
    refine lv_iload_n hx hb dX7_digest_6 rfl (lv_at hl 2 rfl) ?_
    refine lv_aload_n hx hb dX7_digest_7 rfl (lv_at hl 0 rfl) ?_
    obtain ⟨y8, ey8, hLy8, hKy8⟩ := oQ_7_0 (Sv_at hQ hLp0 hKp0)
    refine p_get (v := .ref y8) hx hb hts inX7 hown hK hP hLp0 hKp0 rfl rfl 0 (by decide) (hts _ pq1115) (congrArg (fun q => some (va_rf q)) ey8) dX7_digest_8 ?_
    refine lv_iconst (v := 1) hx hb dX7_digest_11 (by decide +kernel) ?_
    refine p_iald hx hb hK hP 8 hLy8 hKy8 rfl rfl (in_d (by decide +kernel)) dX7_digest_12 ?_
    refine lv_topi (fun z12 ez12 => ?_)
    have bz12 := rng1 (oR_18 (i := (1 : Int32)) (k := (1)) (by decide +kernel) (Iv_at hI hLy8 hKy8))
    rw [← ez12] at bz12
    refine lv_icmp_ge (tgt := 53) hx hb dX7_digest_13 (by decide) (fun c13 => ?_) (fun c13 => ?_)
    · have t13 := tq_le (k := z12.toInt) (q := v6_3.toInt) c13 rfl rfl
      refine lv_iconst (v := 0) hx hb dX7_digest_53 (by decide +kernel) ?_
      refine lv_istore_n (lv' := [(3, .int 0), (0, .ref p0), (1, .long v6_1)]) hx hb dX7_digest_54 rfl hl (by decide) rfl (fun ls hl => ?_)
      have key55 := blocks (fun n => ∀ (v55_1 : Int64) (v55_3 : Int32) (H : Heap) (lo : List Loc) (ls : Array Slot), (9 - v55_3.toInt).toNat = n → ((0) ≤ v55_3.toInt ∧ v55_3.toInt ≤ 8) → va_P (dC, dI) vwCl (Wd cs L K I J Q) H → va_S (fun _ => False) s.heap H lo → lv_has ls 5 [(0, .ref p0), (1, .long v55_1), (3, .int v55_3)] → W p l e R s m (([.ref p0] : List Value).toArray) below meth c H lo 0 0 Qz (F0 m 55 ls [])) (by
        intro n ih55
        intro v55_1 v55_3 H lo ls hmu55 bv55_3 hP hS hl
        refine lv_iload_n hx hb dX7_digest_55 rfl (lv_at hl 2 rfl) ?_
        refine lv_aload_n hx hb dX7_digest_56 rfl (lv_at hl 0 rfl) ?_
        refine p_get (v := .ref y8) hx hb hts inX7 hown hK hP hLp0 hKp0 rfl rfl 0 (by decide) (hts _ pq1115) (congrArg (fun q => some (va_rf q)) ey8) dX7_digest_57 ?_
        refine lv_iconst (v := 0) hx hb dX7_digest_60 (by decide +kernel) ?_
        refine p_iald hx hb hK hP 8 hLy8 hKy8 rfl rfl (in_d (by decide +kernel)) dX7_digest_61 ?_
        refine lv_topi (fun z61 ez61 => ?_)
        have bz61 := rng0 (oR_18 (i := (0 : Int32)) (k := (0)) (by decide +kernel) (Iv_at hI hLy8 hKy8))
        rw [← ez61] at bz61
        refine lv_icmp_ge (tgt := 120) hx hb dX7_digest_62 (by decide) (fun c62 => ?_) (fun c62 => ?_)
        · have t62 := tq_le (k := z61.toInt) (q := v55_3.toInt) c62 rfl rfl
          refine lv_lload_n hx hb dX7_digest_120 rfl (lv_at hl 1 rfl) ?_
          subst hR; subst hQz
          exact W.lret (v := v55_1) hx hb hr (fun t ht hW => ⟨⟨v55_1, (), rfl, trivial, trivial⟩, hS.F ht⟩) hS.2.2 dX7_digest_121
        · have t62 := tq_nle (k := z61.toInt) (q := v55_3.toInt) c62 rfl rfl
          refine lv_iconst (v := 0) hx hb dX7_digest_65 (by decide +kernel) ?_
          refine lv_istore (lv' := [(4, .int 0), (0, .ref p0), (1, .long v55_1), (3, .int v55_3)]) hx hb dX7_digest_66 hl (by decide) rfl (fun ls hl => ?_)
          have key68 := blocks (fun n => ∀ (v68_1 : Int64) (v68_4 : Int32) (H : Heap) (lo : List Loc) (ls : Array Slot), (41 - v68_4.toInt).toNat = n → ((0) ≤ v68_4.toInt ∧ v68_4.toInt ≤ 40) → va_P (dC, dI) vwCl (Wd cs L K I J Q) H → va_S (fun _ => False) s.heap H lo → lv_has ls 5 [(0, .ref p0), (1, .long v68_1), (3, .int v55_3), (4, .int v68_4)] → W p l e R s m (([.ref p0] : List Value).toArray) below meth c H lo 0 0 Qz (F0 m 68 ls [])) (by
            intro n ih68
            intro v68_1 v68_4 H lo ls hmu68 bv68_4 hP hS hl
            refine lv_iload hx hb dX7_digest_68 (lv_at hl 3 rfl) ?_
            refine lv_aload_n hx hb dX7_digest_70 rfl (lv_at hl 0 rfl) ?_
            refine lv_iload_n hx hb dX7_digest_71 rfl (lv_at hl 2 rfl) ?_
            refine ro_i (va_runV (As := [.int v55_3]) (rest := [.int v68_4]) ⟨hx, hb, hml, hown, hts⟩ (s_X7_high l dC dI cs L K G Q hQ x0 m0 tx tm H.size I J hI p0 hLp0 hKp0 v55_3 ⟨by omega, by omega⟩) (cwV 1 hts (gV pq1372 pq1374 pq33 pq81 pq1375) rfl rfl rfl (by decide +kernel) ⟨(by rw [hR]; exact (Nat.le_of_ble_eq_true rfl)), (by rw [hR]; exact (Nat.le_of_ble_eq_true rfl))⟩) (sP_V hP hD hK hN hLp0 hKp0 rfl rfl) rfl rfl hl.1 rfl (lv_room (Nat.le_of_ble_eq_true rfl)) dX7_digest_72 ⟨(by rw [hR]; exact (Nat.le_of_ble_eq_true rfl)), (by rw [hR]; exact (Nat.le_of_ble_eq_true rfl))⟩) hS hP (fun z72 H locs hz72 hP hS => ?_)
            obtain ⟨bz72, fez72⟩ := hz72
            refine lv_icmp_ge (tgt := 114) hx hb dX7_digest_75 (by decide) (fun c75 => ?_) (fun c75 => ?_)
            · have t75 := tq_le (k := z72.toInt) (q := v68_4.toInt) c75 rfl rfl
              obtain ⟨z114, ez114⟩ : ∃ y : Int32, y = v55_3 + 1 := ⟨_, rfl⟩
              refine lv_iinc (v := z114) (lv' := [(3, .int z114), (0, .ref p0), (1, .long v68_1), (4, .int v68_4)]) hx hb dX7_digest_114 hl (k := 2) rfl (by rw [ez114]; rfl) (by decide) rfl (fun ls hl => ?_)
              have bz114 := tq_add (k := v55_3.toInt) (q := 1) ez114 rfl (by decide +kernel) (by omega) (by omega)
              refine lv_goto (tgt := 55) hx hb dX7_digest_117 (by decide) ?_
              exact ih55 _ (by omega) v68_1 z114 _ _ _ rfl ⟨by omega, by omega⟩ hP hS (lv_sub hl [1, 2, 0] rfl)
            · have t75 := tq_nle (k := z72.toInt) (q := v68_4.toInt) c75 rfl rfl
              refine lv_ldc2 hx hb hown (hts _ pq1718) dX7_digest_78 ?_
              refine lv_lload_n hx hb dX7_digest_81 rfl (lv_at hl 1 rfl) ?_
              refine lv_lmul hx hb dX7_digest_82 ?_
              refine lv_topl (fun z82 ez82 => ?_)
              refine lv_aload_n hx hb dX7_digest_83 rfl (lv_at hl 0 rfl) ?_
              refine lv_iload_n hx hb dX7_digest_84 rfl (lv_at hl 2 rfl) ?_
              refine lv_iload hx hb dX7_digest_85 (lv_at hl 3 rfl) ?_
              refine lv_iconst (v := 0) hx hb dX7_digest_87 (by decide +kernel) ?_
              refine ro_l (va_runV (As := [.int v55_3, .int v68_4, .int 0]) (rest := [.long z82]) ⟨hx, hb, hml, hown, hts⟩ (s_X7_row l dC dI cs L K G Q hQ x0 m0 tx tm H.size I J hI p0 hLp0 hKp0 v55_3 v68_4 0) (cwV 3 hts (gV pq1719 pq1559 pq1560 pq81 pq1561) rfl rfl rfl (by decide +kernel) ⟨(by rw [hR]; exact (Nat.le_of_ble_eq_true rfl)), (by rw [hR]; exact (Nat.le_of_ble_eq_true rfl))⟩) (sP_V hP hD hK hN hLp0 hKp0 rfl rfl) rfl rfl hl.1 rfl (lv_room (Nat.le_of_ble_eq_true rfl)) dX7_digest_88 ⟨(by rw [hR]; exact (Nat.le_of_ble_eq_true rfl)), (by rw [hR]; exact (Nat.le_of_ble_eq_true rfl))⟩) hS hP (fun z88 H locs hz88 hP hS => ?_)
              refine lv_ladd hx hb dX7_digest_91 ?_
              refine lv_topl (fun z91 ez91 => ?_)
              refine lv_lstore_n (lv' := [(1, .long z91), (0, .ref p0), (3, .int v55_3), (4, .int v68_4)]) hx hb dX7_digest_92 rfl hl (by decide) rfl (fun ls hl => ?_)
              refine lv_ldc2 hx hb hown (hts _ pq1718) dX7_digest_93 ?_
              refine lv_lload_n hx hb dX7_digest_96 rfl (lv_at hl 0 rfl) ?_
              refine lv_lmul hx hb dX7_digest_97 ?_
              refine lv_topl (fun z97 ez97 => ?_)
              refine lv_aload_n hx hb dX7_digest_98 rfl (lv_at hl 1 rfl) ?_
              refine lv_iload_n hx hb dX7_digest_99 rfl (lv_at hl 2 rfl) ?_
              refine lv_iload hx hb dX7_digest_100 (lv_at hl 3 rfl) ?_
              refine lv_iconst (v := 1) hx hb dX7_digest_102 (by decide +kernel) ?_
              refine ro_l (va_runV (As := [.int v55_3, .int v68_4, .int 1]) (rest := [.long z97]) ⟨hx, hb, hml, hown, hts⟩ (s_X7_row l dC dI cs L K G Q hQ x0 m0 tx tm H.size I J hI p0 hLp0 hKp0 v55_3 v68_4 1) (cwV 3 hts (gV pq1719 pq1559 pq1560 pq81 pq1561) rfl rfl rfl (by decide +kernel) ⟨(by rw [hR]; exact (Nat.le_of_ble_eq_true rfl)), (by rw [hR]; exact (Nat.le_of_ble_eq_true rfl))⟩) (sP_V hP hD hK hN hLp0 hKp0 rfl rfl) rfl rfl hl.1 rfl (lv_room (Nat.le_of_ble_eq_true rfl)) dX7_digest_103 ⟨(by rw [hR]; exact (Nat.le_of_ble_eq_true rfl)), (by rw [hR]; exact (Nat.le_of_ble_eq_true rfl))⟩) hS hP (fun z103 H locs hz103 hP hS => ?_)
              refine lv_ladd hx hb dX7_digest_106 ?_
              refine lv_topl (fun z106 ez106 => ?_)
              refine lv_lstore_n (lv' := [(1, .long z106), (0, .ref p0), (3, .int v55_3), (4, .int v68_4)]) hx hb dX7_digest_107 rfl hl (by decide) rfl (fun ls hl => ?_)
              obtain ⟨z108, ez108⟩ : ∃ y : Int32, y = v68_4 + 1 := ⟨_, rfl⟩
              refine lv_iinc (v := z108) (lv' := [(4, .int z108), (1, .long z106), (0, .ref p0), (3, .int v55_3)]) hx hb dX7_digest_108 hl (k := 3) rfl (by rw [ez108]; rfl) (by decide) rfl (fun ls hl => ?_)
              have bz108 := tq_add (k := v68_4.toInt) (q := 1) ez108 rfl (by decide +kernel) (by omega) (by omega)
              refine lv_goto (tgt := 68) hx hb dX7_digest_111 (by decide) ?_
              exact ih68 _ (by omega) z106 z108 _ _ _ rfl ⟨by omega, by omega⟩ hP hS (lv_sub hl [2, 1, 3, 0] rfl))
          exact key68 _ v55_1 0 _ _ _ rfl ⟨by decide +kernel, by decide +kernel⟩ hP hS (lv_sub hl [1, 2, 3, 0] rfl))
      exact key55 _ v6_1 0 _ _ _ rfl ⟨by decide +kernel, by decide +kernel⟩ hP hS (lv_sub hl [1, 2, 0] rfl)
    · have t13 := tq_nle (k := z12.toInt) (q := v6_3.toInt) c13 rfl rfl
      refine lv_iconst (v := 0) hx hb dX7_digest_16 (by decide +kernel) ?_
      refine lv_istore (lv' := [(4, .int 0), (0, .ref p0), (1, .long v6_1), (3, .int v6_3)]) hx hb dX7_digest_17 hl (by decide) rfl (fun ls hl => ?_)
      have key19 := blocks (fun n => ∀ (v19_1 : Int64) (v19_4 : Int32) (H : Heap) (lo : List Loc) (ls : Array Slot), (9 - v19_4.toInt).toNat = n → ((0) ≤ v19_4.toInt ∧ v19_4.toInt ≤ 8) → va_P (dC, dI) vwCl (Wd cs L K I J Q) H → va_S (fun _ => False) s.heap H lo → lv_has ls 5 [(0, .ref p0), (1, .long v19_1), (3, .int v6_3), (4, .int v19_4)] → W p l e R s m (([.ref p0] : List Value).toArray) below meth c H lo 0 0 Qz (F0 m 19 ls [])) (by
        intro n ih19
        intro v19_1 v19_4 H lo ls hmu19 bv19_4 hP hS hl
        refine lv_iload hx hb dX7_digest_19 (lv_at hl 3 rfl) ?_
        refine lv_bipush (v := 8) hx hb dX7_digest_21 (by decide +kernel) ?_
        refine lv_icmp_ge (tgt := 47) hx hb dX7_digest_23 (by decide) (fun c23 => ?_) (fun c23 => ?_)
        · have t23 := tq_le (k := (8)) (q := v19_4.toInt) c23 (by decide +kernel) rfl
          obtain ⟨z47, ez47⟩ : ∃ y : Int32, y = v6_3 + 1 := ⟨_, rfl⟩
          refine lv_iinc (v := z47) (lv' := [(3, .int z47), (0, .ref p0), (1, .long v19_1), (4, .int v19_4)]) hx hb dX7_digest_47 hl (k := 2) rfl (by rw [ez47]; rfl) (by decide) rfl (fun ls hl => ?_)
          have bz47 := tq_add (k := v6_3.toInt) (q := 1) ez47 rfl (by decide +kernel) (by omega) (by omega)
          refine lv_goto (tgt := 6) hx hb dX7_digest_50 (by decide) ?_
          exact ih6 _ (by omega) v19_1 z47 _ _ _ rfl ⟨by omega, by omega⟩ hP hS (lv_sub hl [1, 2, 0] rfl)
        · have t23 := tq_nle (k := (8)) (q := v19_4.toInt) c23 (by decide +kernel) rfl
          refine lv_ldc2 hx hb hown (hts _ pq1718) dX7_digest_26 ?_
          refine lv_lload_n hx hb dX7_digest_29 rfl (lv_at hl 1 rfl) ?_
          refine lv_lmul hx hb dX7_digest_30 ?_
          refine lv_topl (fun z30 ez30 => ?_)
          refine lv_aload_n hx hb dX7_digest_31 rfl (lv_at hl 0 rfl) ?_
          refine lv_iload_n hx hb dX7_digest_32 rfl (lv_at hl 2 rfl) ?_
          refine lv_iload hx hb dX7_digest_33 (lv_at hl 3 rfl) ?_
          refine ro_i (va_runV (As := [.int v6_3, .int v19_4]) (rest := [.long z30]) ⟨hx, hb, hml, hown, hts⟩ (s_X7_of l dC dI cs L K G Q hQ x0 m0 tx tm H.size I J hI p0 hLp0 hKp0 v6_3 ⟨by omega, by omega⟩ v19_4 ⟨by omega, by omega⟩) (cwV 2 hts (gV pq1320 pq1322 pq25 pq81 pq1323) rfl rfl rfl (by decide +kernel) ⟨(by rw [hR]; exact (Nat.le_of_ble_eq_true rfl)), (by rw [hR]; exact (Nat.le_of_ble_eq_true rfl))⟩) (sP_V hP hD hK hN hLp0 hKp0 rfl rfl) rfl rfl hl.1 rfl (lv_room (Nat.le_of_ble_eq_true rfl)) dX7_digest_35 ⟨(by rw [hR]; exact (Nat.le_of_ble_eq_true rfl)), (by rw [hR]; exact (Nat.le_of_ble_eq_true rfl))⟩) hS hP (fun z35 H locs hz35 hP hS => ?_)
          obtain ⟨fez35, xpz35⟩ := hz35
          refine lv_i2l hx hb dX7_digest_38 rfl ?_
          refine lv_topl (fun z38 ez38 => ?_)
          have bz38 := tq_i2l (k := z35.toInt) ez38 rfl
          refine lv_ladd hx hb dX7_digest_39 ?_
          refine lv_topl (fun z39 ez39 => ?_)
          refine lv_lstore_n (lv' := [(1, .long z39), (0, .ref p0), (3, .int v6_3), (4, .int v19_4)]) hx hb dX7_digest_40 rfl hl (by decide) rfl (fun ls hl => ?_)
          obtain ⟨z41, ez41⟩ : ∃ y : Int32, y = v19_4 + 1 := ⟨_, rfl⟩
          refine lv_iinc (v := z41) (lv' := [(4, .int z41), (1, .long z39), (0, .ref p0), (3, .int v6_3)]) hx hb dX7_digest_41 hl (k := 3) rfl (by rw [ez41]; rfl) (by decide) rfl (fun ls hl => ?_)
          have bz41 := tq_add (k := v19_4.toInt) (q := 1) ez41 rfl (by decide +kernel) (by omega) (by omega)
          refine lv_goto (tgt := 19) hx hb dX7_digest_44 (by decide) ?_
          exact ih19 _ (by omega) z39 z41 _ _ _ rfl ⟨by omega, by omega⟩ hP hS (lv_sub hl [2, 1, 3, 0] rfl))
      exact key19 _ v6_1 0 _ _ _ rfl ⟨by decide +kernel, by decide +kernel⟩ hP hS (lv_sub hl [1, 2, 3, 0] rfl))
  exact key6 _ 17 0 _ _ _ rfl ⟨by decide +kernel, by decide +kernel⟩ hP hS (lv_sub hl [2, 1, 0] rfl)

set_option maxHeartbeats 4000000 in
set_option maxRecDepth 100000 in
theorem s_X7_alike (l : Launch) (dC : Nat → ClassId) (dI : Nat → Nat → Nat) (cs : Nat → ClassId) (L : List Nat) (K G : Nat → Nat) (Q : Nat → Nat → Option Nat) (hQ : Sv L K G Q) (x0 m0 : Nat) (tx : Int32) (tm : Int32 × Int) (sz : Nat) (I : Nat → Nat → Int32) (J : Nat → Nat → Int64) (hI : Iv L K x0 m0 tx tm I) (p0 : Nat) (hLp0 : p0 ∈ L) (hKp0 : K p0 = 7) (p1 : Int32) (p2 : Int32) (p3 : Int32) : Met l yX7_alike (.code yX7_alike cX7_alike 4 (some .int) :: pw) ({ frames := 3, cells := 0, slots := 0, locals := 73 }) (sP (dC, dI) cs [.ref p0, .int p1, .int p2, .int p3] sz L K I J Q) (va_Qi (fun (r : Int32) (_ : Unit) => True) (fun _ _ => True) (fun _ => False)) 0 0 (fun _ => False) := by
  refine Met.ofW (cc := cX7_alike) (maxL := 4) (ret := (some .int)) (by decide +kernel) rfl ?_
  intro p e s m args below meth c s₁ B hml hv
  obtain ⟨rfl, hsz, hP, hK, hD0, hN⟩ := hv
  have hx := B.exec
  have hb := B.bytes
  have hr := B.returns
  have hts := fun w (h : w ∈ pw) => atoms_spec (ws := Cond.code yX7_alike cX7_alike 4 (some .int) :: pw) B.pre w (List.mem_cons_of_mem _ h)
  have hown : s.vm.findClass RX7 = some m.cls := findClass_of_methodNamed B.named
  have hlocks := B.notSynchronized
  subst hsz
  have hBB : 999 ≤ tm.2 ∧ tm.2 ≤ 6000000 := hI.2.2.2.2
  have hD := hD0
  obtain ⟨H, hHe⟩ : ∃ H : Heap, H = s.heap := ⟨_, rfl⟩
  have hS : va_S (fun _ => False) s.heap H [] := by rw [hHe]; exact va_S.rf
  rw [← hHe] at hP
  have hl := lv_entry ([.ref p0, .int p1, .int p2, .int p3]) (n := 4) (Nat.le_of_ble_eq_true rfl)
  rw [lg_entry_eq]
  generalize (lg_sl ([.ref p0, .int p1, .int p2, .int p3]) ++ List.replicate (4 - (lg_sl ([.ref p0, .int p1, .int p2, .int p3])).length) Slot.unset).toArray = ls at hl ⊢
  have hl : lv_has ls 4 [(0, .ref p0), (1, .int p1), (2, .int p2), (3, .int p3)] := hl
  rw [← hHe]
  refine namedW (fun R Qz hR hQz => ?_)
  refine lv_aload_n hx hb dX7_alike_0 rfl (lv_at hl 0 rfl) ?_
  refine lv_iload_n hx hb dX7_alike_1 rfl (lv_at hl 1 rfl) ?_
  refine ro_i (va_runV (As := [.int p1]) (rest := []) ⟨hx, hb, hml, hown, hts⟩ (s_X7_isMask l dC dI cs L K G Q hQ x0 m0 tx tm H.size I J hI p0 hLp0 hKp0 p1) (cwV 1 hts (gV pq1364 pq1366 pq31 pq81 pq1367) rfl rfl rfl (by decide +kernel) ⟨(by rw [hR]; exact (Nat.le_of_ble_eq_true rfl)), (by rw [hR]; exact (Nat.le_of_ble_eq_true rfl))⟩) (sP_V hP hD hK hN hLp0 hKp0 rfl rfl) rfl rfl hl.1 rfl (lv_room (Nat.le_of_ble_eq_true rfl)) dX7_alike_2 ⟨(by rw [hR]; exact (Nat.le_of_ble_eq_true rfl)), (by rw [hR]; exact (Nat.le_of_ble_eq_true rfl))⟩) hS hP (fun z2 H locs hz2 hP hS => ?_)
  obtain ⟨bz2, imz2⟩ := hz2
  refine lv_if_eq (tgt := 41) hx hb dX7_alike_5 (by decide) (fun c5 => ?_) (fun c5 => ?_)
  · have t5 := tq_eq (k := z2.toInt) (q := (0)) c5 rfl (by decide +kernel)
    refine lv_iconst (v := (-1)) hx hb dX7_alike_41 (by decide +kernel) ?_
    subst hR; subst hQz
    exact W.iret (v := (-1)) hx hb hr (fun t ht hW => ⟨⟨(-1), (), rfl, trivial, trivial⟩, hS.F ht⟩) hS.2.2 dX7_alike_42
  · have t5 := tq_ne (k := z2.toInt) (q := (0)) c5 rfl (by decide +kernel)
    have i5 := imz2 t5
    refine lv_aload_n hx hb dX7_alike_8 rfl (lv_at hl 0 rfl) ?_
    refine lv_iload_n hx hb dX7_alike_9 rfl (lv_at hl 2 rfl) ?_
    refine ro_i (va_runV (As := [.int p2]) (rest := []) ⟨hx, hb, hml, hown, hts⟩ (s_X7_isMask l dC dI cs L K G Q hQ x0 m0 tx tm H.size I J hI p0 hLp0 hKp0 p2) (cwV 1 hts (gV pq1364 pq1366 pq31 pq81 pq1367) rfl rfl rfl (by decide +kernel) ⟨(by rw [hR]; exact (Nat.le_of_ble_eq_true rfl)), (by rw [hR]; exact (Nat.le_of_ble_eq_true rfl))⟩) (sP_V hP hD hK hN hLp0 hKp0 rfl rfl) rfl rfl hl.1 rfl (lv_room (Nat.le_of_ble_eq_true rfl)) dX7_alike_10 ⟨(by rw [hR]; exact (Nat.le_of_ble_eq_true rfl)), (by rw [hR]; exact (Nat.le_of_ble_eq_true rfl))⟩) hS hP (fun z10 H locs hz10 hP hS => ?_)
    obtain ⟨bz10, imz10⟩ := hz10
    refine lv_if_eq (tgt := 41) hx hb dX7_alike_13 (by decide) (fun c13 => ?_) (fun c13 => ?_)
    · have t13 := tq_eq (k := z10.toInt) (q := (0)) c13 rfl (by decide +kernel)
      refine lv_iconst (v := (-1)) hx hb dX7_alike_41 (by decide +kernel) ?_
      subst hR; subst hQz
      exact W.iret (v := (-1)) hx hb hr (fun t ht hW => ⟨⟨(-1), (), rfl, trivial, trivial⟩, hS.F ht⟩) hS.2.2 dX7_alike_42
    · have t13 := tq_ne (k := z10.toInt) (q := (0)) c13 rfl (by decide +kernel)
      have i13 := imz10 t13
      refine lv_iload_n hx hb dX7_alike_16 rfl (lv_at hl 3 rfl) ?_
      refine lv_i2l hx hb dX7_alike_17 rfl ?_
      refine lv_topl (fun z17 ez17 => ?_)
      have bz17 := tq_i2l (k := p3.toInt) ez17 rfl
      refine lv_lconst (v := 0) hx hb dX7_alike_18 (by decide +kernel) ?_
      refine lv_ldc2 hx hb hown (hts _ pq1344) dX7_alike_19 ?_
      refine ro_i (va_runS (As := [.long z17, .long 0, .long 3]) (rest := []) ⟨hx, hb, hml, hown, hts⟩ (s_X7_in l dC dI cs L K Q H.size I J z17 0 3) (va_cwS 3 hts (gS pq1234 pq1235 pq81 pq1236) rfl rfl rfl (by decide +kernel) ⟨(by rw [hR]; exact (Nat.le_of_ble_eq_true rfl)), (by rw [hR]; exact (Nat.le_of_ble_eq_true rfl))⟩) (sP_S hP hD hK hN) rfl rfl hl.1 rfl (lv_room (Nat.le_of_ble_eq_true rfl)) dX7_alike_22 ⟨(by rw [hR]; exact (Nat.le_of_ble_eq_true rfl)), (by rw [hR]; exact (Nat.le_of_ble_eq_true rfl))⟩) hS hP (fun z22 H locs hz22 hP hS => ?_)
      have csl22_0 : (0 : Int64).toInt = 0 := by decide +kernel
      have csl22_3 : (3 : Int64).toInt = 3 := by decide +kernel
      obtain ⟨bz22, imz22⟩ := hz22
      refine lv_if_eq (tgt := 41) hx hb dX7_alike_25 (by decide) (fun c25 => ?_) (fun c25 => ?_)
      · have t25 := tq_eq (k := z22.toInt) (q := (0)) c25 rfl (by decide +kernel)
        refine lv_iconst (v := (-1)) hx hb dX7_alike_41 (by decide +kernel) ?_
        subst hR; subst hQz
        exact W.iret (v := (-1)) hx hb hr (fun t ht hW => ⟨⟨(-1), (), rfl, trivial, trivial⟩, hS.F ht⟩) hS.2.2 dX7_alike_42
      · have t25 := tq_ne (k := z22.toInt) (q := (0)) c25 rfl (by decide +kernel)
        have i25 := imz22 t25
        refine lv_aload_n hx hb dX7_alike_28 rfl (lv_at hl 0 rfl) ?_
        refine lv_iload_n hx hb dX7_alike_29 rfl (lv_at hl 1 rfl) ?_
        refine lv_iload_n hx hb dX7_alike_30 rfl (lv_at hl 2 rfl) ?_
        refine lv_iload_n hx hb dX7_alike_31 rfl (lv_at hl 3 rfl) ?_
        refine ro_i (va_runV (As := [.int p1, .int p2, .int p3]) (rest := []) ⟨hx, hb, hml, hown, hts⟩ (s_X7_areLike l dC dI cs L K G Q hQ x0 m0 tx tm H.size I J hI p0 hLp0 hKp0 p1 ⟨by omega, by omega⟩ p2 ⟨by omega, by omega⟩ p3) (cwV 3 hts (gV pq1670 pq1672 pq69 pq81 pq1673) rfl rfl rfl (by decide +kernel) ⟨(by rw [hR]; exact (Nat.le_of_ble_eq_true rfl)), (by rw [hR]; exact (Nat.le_of_ble_eq_true rfl))⟩) (sP_V hP hD hK hN hLp0 hKp0 rfl rfl) rfl rfl hl.1 rfl (lv_room (Nat.le_of_ble_eq_true rfl)) dX7_alike_32 ⟨(by rw [hR]; exact (Nat.le_of_ble_eq_true rfl)), (by rw [hR]; exact (Nat.le_of_ble_eq_true rfl))⟩) hS hP (fun z32 H locs hz32 hP hS => ?_)
        have bz32 := hz32
        refine ro_i (va_runS (As := [.int z32]) (rest := []) ⟨hx, hb, hml, hown, hts⟩ (s_X7_truth l dC dI cs L K Q H.size I J z32) (va_cwS 1 hts (gS pq1257 pq1258 pq81 pq1259) rfl rfl rfl (by decide +kernel) ⟨(by rw [hR]; exact (Nat.le_of_ble_eq_true rfl)), (by rw [hR]; exact (Nat.le_of_ble_eq_true rfl))⟩) (sP_S hP hD hK hN) rfl rfl hl.1 rfl (lv_room (Nat.le_of_ble_eq_true rfl)) dX7_alike_35 ⟨(by rw [hR]; exact (Nat.le_of_ble_eq_true rfl)), (by rw [hR]; exact (Nat.le_of_ble_eq_true rfl))⟩) hS hP (fun z35 H locs hz35 hP hS => ?_)
        obtain ⟨bz35, xpz35⟩ := hz35
        refine lv_goto (tgt := 42) hx hb dX7_alike_38 (by decide) ?_
        subst hR; subst hQz
        exact W.iret (v := z35) hx hb hr (fun t ht hW => ⟨⟨z35, (), rfl, trivial, trivial⟩, hS.F ht⟩) hS.2.2 dX7_alike_42

set_option maxHeartbeats 4000000 in
set_option maxRecDepth 100000 in
theorem s_X7_dotsOfAll (l : Launch) (dC : Nat → ClassId) (dI : Nat → Nat → Nat) (cs : Nat → ClassId) (L : List Nat) (K G : Nat → Nat) (Q : Nat → Nat → Option Nat) (hQ : Sv L K G Q) (x0 m0 : Nat) (tx : Int32) (tm : Int32 × Int) (sz : Nat) (I : Nat → Nat → Int32) (J : Nat → Nat → Int64) (hI : Iv L K x0 m0 tx tm I) (p0 : Nat) (hLp0 : p0 ∈ L) (hKp0 : K p0 = 7) : Met l yX7_dotsOfAll (.code yX7_dotsOfAll cX7_dotsOfAll 3 (some .int) :: pw) ({ frames := 2, cells := 0, slots := 0, locals := 44 }) (sP (dC, dI) cs [.ref p0] sz L K I J Q) (va_Qi (fun (r : Int32) (_ : Unit) => True) (fun _ _ => True) (fun _ => False)) 0 0 (fun _ => False) := by
  refine Met.ofW (cc := cX7_dotsOfAll) (maxL := 3) (ret := (some .int)) (by decide +kernel) rfl ?_
  intro p e s m args below meth c s₁ B hml hv
  obtain ⟨rfl, hsz, hP, hK, hD0, hN⟩ := hv
  have hx := B.exec
  have hb := B.bytes
  have hr := B.returns
  have hts := fun w (h : w ∈ pw) => atoms_spec (ws := Cond.code yX7_dotsOfAll cX7_dotsOfAll 3 (some .int) :: pw) B.pre w (List.mem_cons_of_mem _ h)
  have hown : s.vm.findClass RX7 = some m.cls := findClass_of_methodNamed B.named
  have hlocks := B.notSynchronized
  subst hsz
  have hBB : 999 ≤ tm.2 ∧ tm.2 ≤ 6000000 := hI.2.2.2.2
  have hD := hD0
  obtain ⟨H, hHe⟩ : ∃ H : Heap, H = s.heap := ⟨_, rfl⟩
  have hS : va_S (fun _ => False) s.heap H [] := by rw [hHe]; exact va_S.rf
  rw [← hHe] at hP
  have hl := lv_entry ([.ref p0]) (n := 3) (Nat.le_of_ble_eq_true rfl)
  rw [lg_entry_eq]
  generalize (lg_sl ([.ref p0]) ++ List.replicate (3 - (lg_sl ([.ref p0])).length) Slot.unset).toArray = ls at hl ⊢
  have hl : lv_has ls 3 [(0, .ref p0)] := hl
  rw [← hHe]
  refine namedW (fun R Qz hR hQz => ?_)
  refine lv_iconst (v := 0) hx hb dX7_dotsOfAll_0 (by decide +kernel) ?_
  refine lv_istore_n (lv' := [(1, .int 0), (0, .ref p0)]) hx hb dX7_dotsOfAll_1 rfl hl (by decide) rfl (fun ls hl => ?_)
  refine lv_iconst (v := 0) hx hb dX7_dotsOfAll_2 (by decide +kernel) ?_
  refine lv_istore_n (lv' := [(2, .int 0), (1, .int 0), (0, .ref p0)]) hx hb dX7_dotsOfAll_3 rfl hl (by decide) rfl (fun ls hl => ?_)
  have key4 := blocks (fun n => ∀ (v4_1 : Int32) (v4_2 : Int32) (H : Heap) (lo : List Loc) (ls : Array Slot), (9 - v4_2.toInt).toNat = n → ((0) ≤ v4_2.toInt ∧ v4_2.toInt ≤ 8) → va_P (dC, dI) vwCl (Wd cs L K I J Q) H → va_S (fun _ => False) s.heap H lo → lv_has ls 3 [(0, .ref p0), (1, .int v4_1), (2, .int v4_2)] → W p l e R s m (([.ref p0] : List Value).toArray) below meth c H lo 0 0 Qz (F0 m 4 ls [])) (by
    intro n ih4
    intro v4_1 v4_2 H lo ls hmu4 bv4_2 hP hS hl
    refine lv_iload_n hx hb dX7_dotsOfAll_4 rfl (lv_at hl 2 rfl) ?_
    refine lv_aload_n hx hb dX7_dotsOfAll_5 rfl (lv_at hl 0 rfl) ?_
    obtain ⟨y6, ey6, hLy6, hKy6⟩ := oQ_7_0 (Sv_at hQ hLp0 hKp0)
    refine p_get (v := .ref y6) hx hb hts inX7 hown hK hP hLp0 hKp0 rfl rfl 0 (by decide) (hts _ pq1115) (congrArg (fun q => some (va_rf q)) ey6) dX7_dotsOfAll_6 ?_
    refine lv_iconst (v := 0) hx hb dX7_dotsOfAll_9 (by decide +kernel) ?_
    refine p_iald hx hb hK hP 8 hLy6 hKy6 rfl rfl (in_d (by decide +kernel)) dX7_dotsOfAll_10 ?_
    refine lv_topi (fun z10 ez10 => ?_)
    have bz10 := rng0 (oR_18 (i := (0 : Int32)) (k := (0)) (by decide +kernel) (Iv_at hI hLy6 hKy6))
    rw [← ez10] at bz10
    refine lv_icmp_ge (tgt := 28) hx hb dX7_dotsOfAll_11 (by decide) (fun c11 => ?_) (fun c11 => ?_)
    · have t11 := tq_le (k := z10.toInt) (q := v4_2.toInt) c11 rfl rfl
      refine lv_iload_n hx hb dX7_dotsOfAll_28 rfl (lv_at hl 1 rfl) ?_
      subst hR; subst hQz
      exact W.iret (v := v4_1) hx hb hr (fun t ht hW => ⟨⟨v4_1, (), rfl, trivial, trivial⟩, hS.F ht⟩) hS.2.2 dX7_dotsOfAll_29
    · have t11 := tq_nle (k := z10.toInt) (q := v4_2.toInt) c11 rfl rfl
      refine lv_iload_n hx hb dX7_dotsOfAll_14 rfl (lv_at hl 1 rfl) ?_
      refine lv_aload_n hx hb dX7_dotsOfAll_15 rfl (lv_at hl 0 rfl) ?_
      refine lv_iload_n hx hb dX7_dotsOfAll_16 rfl (lv_at hl 2 rfl) ?_
      refine ro_i (va_runV (As := [.int v4_2]) (rest := [.int v4_1]) ⟨hx, hb, hml, hown, hts⟩ (s_X7_dotsOf l dC dI cs L K G Q hQ x0 m0 tx tm H.size I J hI p0 hLp0 hKp0 v4_2 ⟨by omega, by omega⟩) (cwV 1 hts (gV pq1413 pq1415 pq39 pq81 pq1416) rfl rfl rfl (by decide +kernel) ⟨(by rw [hR]; exact (Nat.le_of_ble_eq_true rfl)), (by rw [hR]; exact (Nat.le_of_ble_eq_true rfl))⟩) (sP_V hP hD hK hN hLp0 hKp0 rfl rfl) rfl rfl hl.1 rfl (lv_room (Nat.le_of_ble_eq_true rfl)) dX7_dotsOfAll_17 ⟨(by rw [hR]; exact (Nat.le_of_ble_eq_true rfl)), (by rw [hR]; exact (Nat.le_of_ble_eq_true rfl))⟩) hS hP (fun z17 H locs hz17 hP hS => ?_)
      refine lv_iadd hx hb dX7_dotsOfAll_20 ?_
      refine lv_topi (fun z20 ez20 => ?_)
      refine lv_istore_n (lv' := [(1, .int z20), (0, .ref p0), (2, .int v4_2)]) hx hb dX7_dotsOfAll_21 rfl hl (by decide) rfl (fun ls hl => ?_)
      obtain ⟨z22, ez22⟩ : ∃ y : Int32, y = v4_2 + 1 := ⟨_, rfl⟩
      refine lv_iinc (v := z22) (lv' := [(2, .int z22), (1, .int z20), (0, .ref p0)]) hx hb dX7_dotsOfAll_22 hl (k := 2) rfl (by rw [ez22]; rfl) (by decide) rfl (fun ls hl => ?_)
      have bz22 := tq_add (k := v4_2.toInt) (q := 1) ez22 rfl (by decide +kernel) (by omega) (by omega)
      refine lv_goto (tgt := 4) hx hb dX7_dotsOfAll_25 (by decide) ?_
      exact ih4 _ (by omega) z20 z22 _ _ _ rfl ⟨by omega, by omega⟩ hP hS (lv_sub hl [2, 1, 0] rfl))
  exact key4 _ 0 0 _ _ _ rfl ⟨by decide +kernel, by decide +kernel⟩ hP hS (lv_sub hl [2, 1, 0] rfl)

set_option maxHeartbeats 4000000 in
set_option maxRecDepth 100000 in
theorem s_X7_count (l : Launch) (dC : Nat → ClassId) (dI : Nat → Nat → Nat) (cs : Nat → ClassId) (L : List Nat) (K G : Nat → Nat) (Q : Nat → Nat → Option Nat) (hQ : Sv L K G Q) (x0 m0 : Nat) (tx : Int32) (tm : Int32 × Int) (sz : Nat) (I : Nat → Nat → Int32) (J : Nat → Nat → Int64) (hI : Iv L K x0 m0 tx tm I) (p0 : Nat) (hLp0 : p0 ∈ L) (hKp0 : K p0 = 7) (p1 : Int32) : Met l yX7_count (.code yX7_count cX7_count 2 (some .int) :: pw) ({ frames := 3, cells := 0, slots := 0, locals := 66 }) (sP (dC, dI) cs [.ref p0, .int p1] sz L K I J Q) (va_Qi (fun (r : Int32) (_ : Unit) => True) (fun _ _ => True) (fun _ => False)) 0 0 (fun _ => False) := by
  refine Met.ofW (cc := cX7_count) (maxL := 2) (ret := (some .int)) (by decide +kernel) rfl ?_
  intro p e s m args below meth c s₁ B hml hv
  obtain ⟨rfl, hsz, hP, hK, hD0, hN⟩ := hv
  have hx := B.exec
  have hb := B.bytes
  have hr := B.returns
  have hts := fun w (h : w ∈ pw) => atoms_spec (ws := Cond.code yX7_count cX7_count 2 (some .int) :: pw) B.pre w (List.mem_cons_of_mem _ h)
  have hown : s.vm.findClass RX7 = some m.cls := findClass_of_methodNamed B.named
  have hlocks := B.notSynchronized
  subst hsz
  have hBB : 999 ≤ tm.2 ∧ tm.2 ≤ 6000000 := hI.2.2.2.2
  have hD := hD0
  obtain ⟨H, hHe⟩ : ∃ H : Heap, H = s.heap := ⟨_, rfl⟩
  have hS : va_S (fun _ => False) s.heap H [] := by rw [hHe]; exact va_S.rf
  rw [← hHe] at hP
  have hl := lv_entry ([.ref p0, .int p1]) (n := 2) (Nat.le_of_ble_eq_true rfl)
  rw [lg_entry_eq]
  generalize (lg_sl ([.ref p0, .int p1]) ++ List.replicate (2 - (lg_sl ([.ref p0, .int p1])).length) Slot.unset).toArray = ls at hl ⊢
  have hl : lv_has ls 2 [(0, .ref p0), (1, .int p1)] := hl
  rw [← hHe]
  refine namedW (fun R Qz hR hQz => ?_)
  refine lv_iload_n hx hb dX7_count_0 rfl (lv_at hl 1 rfl) ?_
  refine lv_topi (fun z1 ez1 => ?_)
  rcases sw7 z1 with rfl | rfl | rfl | rfl | rfl | rfl | rfl | hsw1
  · refine lv_tableIn (off := 43) (tgt := 44) hx hb dX7_count_1 (by decide +kernel) (by decide +kernel) (by decide +kernel) (by decide) ?_
    have sv1 : p1.toInt = 0 := by rw [← ez1]; decide +kernel
    refine lv_aload_n hx hb dX7_count_44 rfl (lv_at hl 0 rfl) ?_
    obtain ⟨y45, ey45, hLy45, hKy45⟩ := oQ_7_0 (Sv_at hQ hLp0 hKp0)
    refine p_get (v := .ref y45) hx hb hts inX7 hown hK hP hLp0 hKp0 rfl rfl 0 (by decide) (hts _ pq1115) (congrArg (fun q => some (va_rf q)) ey45) dX7_count_45 ?_
    refine lv_iconst (v := 0) hx hb dX7_count_48 (by decide +kernel) ?_
    refine p_iald hx hb hK hP 8 hLy45 hKy45 rfl rfl (in_d (by decide +kernel)) dX7_count_49 ?_
    refine lv_topi (fun z49 ez49 => ?_)
    have bz49 := rng0 (oR_18 (i := (0 : Int32)) (k := (0)) (by decide +kernel) (Iv_at hI hLy45 hKy45))
    rw [← ez49] at bz49
    subst hR; subst hQz
    exact W.iret (v := z49) hx hb hr (fun t ht hW => ⟨⟨z49, (), rfl, trivial, trivial⟩, hS.F ht⟩) hS.2.2 dX7_count_50
  · refine lv_tableIn (off := 50) (tgt := 51) hx hb dX7_count_1 (by decide +kernel) (by decide +kernel) (by decide +kernel) (by decide) ?_
    have sv1 : p1.toInt = 1 := by rw [← ez1]; decide +kernel
    refine lv_aload_n hx hb dX7_count_51 rfl (lv_at hl 0 rfl) ?_
    obtain ⟨y52, ey52, hLy52, hKy52⟩ := oQ_7_0 (Sv_at hQ hLp0 hKp0)
    refine p_get (v := .ref y52) hx hb hts inX7 hown hK hP hLp0 hKp0 rfl rfl 0 (by decide) (hts _ pq1115) (congrArg (fun q => some (va_rf q)) ey52) dX7_count_52 ?_
    refine lv_iconst (v := 1) hx hb dX7_count_55 (by decide +kernel) ?_
    refine p_iald hx hb hK hP 8 hLy52 hKy52 rfl rfl (in_d (by decide +kernel)) dX7_count_56 ?_
    refine lv_topi (fun z56 ez56 => ?_)
    have bz56 := rng1 (oR_18 (i := (1 : Int32)) (k := (1)) (by decide +kernel) (Iv_at hI hLy52 hKy52))
    rw [← ez56] at bz56
    subst hR; subst hQz
    exact W.iret (v := z56) hx hb hr (fun t ht hW => ⟨⟨z56, (), rfl, trivial, trivial⟩, hS.F ht⟩) hS.2.2 dX7_count_57
  · refine lv_tableIn (off := 57) (tgt := 58) hx hb dX7_count_1 (by decide +kernel) (by decide +kernel) (by decide +kernel) (by decide) ?_
    have sv1 : p1.toInt = 2 := by rw [← ez1]; decide +kernel
    refine lv_aload_n hx hb dX7_count_58 rfl (lv_at hl 0 rfl) ?_
    refine ro_i (va_runV (As := []) (rest := []) ⟨hx, hb, hml, hown, hts⟩ (s_X7_dotsOfAll l dC dI cs L K G Q hQ x0 m0 tx tm H.size I J hI p0 hLp0 hKp0) (cwV 0 hts (gV pq1728 pq1730 pq72 pq81 pq1731) rfl rfl rfl (by decide +kernel) ⟨(by rw [hR]; exact (Nat.le_of_ble_eq_true rfl)), (by rw [hR]; exact (Nat.le_of_ble_eq_true rfl))⟩) (sP_V hP hD hK hN hLp0 hKp0 rfl rfl) rfl rfl hl.1 rfl (lv_room (Nat.le_of_ble_eq_true rfl)) dX7_count_59 ⟨(by rw [hR]; exact (Nat.le_of_ble_eq_true rfl)), (by rw [hR]; exact (Nat.le_of_ble_eq_true rfl))⟩) hS hP (fun z59 H locs hz59 hP hS => ?_)
    subst hR; subst hQz
    exact W.iret (v := z59) hx hb hr (fun t ht hW => ⟨⟨z59, (), rfl, trivial, trivial⟩, hS.F ht⟩) hS.2.2 dX7_count_62
  · refine lv_tableIn (off := 62) (tgt := 63) hx hb dX7_count_1 (by decide +kernel) (by decide +kernel) (by decide +kernel) (by decide) ?_
    have sv1 : p1.toInt = 3 := by rw [← ez1]; decide +kernel
    refine lv_aload_n hx hb dX7_count_63 rfl (lv_at hl 0 rfl) ?_
    refine p_get hx hb hts inX7 hown hK hP hLp0 hKp0 rfl rfl 11 (by decide) (hts _ pq1126) rfl dX7_count_64 ?_
    refine lv_topi (fun z64 ez64 => ?_)
    have cgz64 := congrArg Int32.toInt ez64
    have bz64 := oI_7_11 (Iv_at hI hLp0 hKp0)
    rw [← ez64] at bz64
    subst hR; subst hQz
    exact W.iret (v := z64) hx hb hr (fun t ht hW => ⟨⟨z64, (), rfl, trivial, trivial⟩, hS.F ht⟩) hS.2.2 dX7_count_67
  · refine lv_tableIn (off := 67) (tgt := 68) hx hb dX7_count_1 (by decide +kernel) (by decide +kernel) (by decide +kernel) (by decide) ?_
    have sv1 : p1.toInt = 4 := by rw [← ez1]; decide +kernel
    refine lv_aload_n hx hb dX7_count_68 rfl (lv_at hl 0 rfl) ?_
    refine p_get hx hb hts inX7 hown hK hP hLp0 hKp0 rfl rfl 13 (by decide) (hts _ pq1128) rfl dX7_count_69 ?_
    refine lv_topi (fun z69 ez69 => ?_)
    have cgz69 := congrArg Int32.toInt ez69
    have bz69 := oI_7_13 (Iv_at hI hLp0 hKp0)
    rw [← ez69] at bz69
    subst hR; subst hQz
    exact W.iret (v := z69) hx hb hr (fun t ht hW => ⟨⟨z69, (), rfl, trivial, trivial⟩, hS.F ht⟩) hS.2.2 dX7_count_72
  · refine lv_tableIn (off := 72) (tgt := 73) hx hb dX7_count_1 (by decide +kernel) (by decide +kernel) (by decide +kernel) (by decide) ?_
    have sv1 : p1.toInt = 5 := by rw [← ez1]; decide +kernel
    refine lv_aload_n hx hb dX7_count_73 rfl (lv_at hl 0 rfl) ?_
    obtain ⟨y74, ey74, hLy74, hKy74⟩ := oQ_7_10 (Sv_at hQ hLp0 hKp0)
    refine p_get (v := .ref y74) hx hb hts inX7 hown hK hP hLp0 hKp0 rfl rfl 10 (by decide) (hts _ pq1125) (congrArg (fun q => some (va_rf q)) ey74) dX7_count_74 ?_
    refine lv_iconst (v := 0) hx hb dX7_count_77 (by decide +kernel) ?_
    refine p_zald hx hb hK hP 14 hLy74 hKy74 rfl rfl (in_d (by decide +kernel)) dX7_count_78 ?_
    refine lv_topi (fun z78 ez78 => ?_)
    refine ro_i (va_runS (As := [.int z78]) (rest := []) ⟨hx, hb, hml, hown, hts⟩ (s_X7_truth l dC dI cs L K Q H.size I J z78) (va_cwS 1 hts (gS pq1257 pq1258 pq81 pq1259) rfl rfl rfl (by decide +kernel) ⟨(by rw [hR]; exact (Nat.le_of_ble_eq_true rfl)), (by rw [hR]; exact (Nat.le_of_ble_eq_true rfl))⟩) (sP_S hP hD hK hN) rfl rfl hl.1 rfl (lv_room (Nat.le_of_ble_eq_true rfl)) dX7_count_79 ⟨(by rw [hR]; exact (Nat.le_of_ble_eq_true rfl)), (by rw [hR]; exact (Nat.le_of_ble_eq_true rfl))⟩) hS hP (fun z79 H locs hz79 hP hS => ?_)
    obtain ⟨bz79, xpz79⟩ := hz79
    refine lv_aload_n hx hb dX7_count_82 rfl (lv_at hl 0 rfl) ?_
    refine p_get (v := .ref y74) hx hb hts inX7 hown hK hP hLp0 hKp0 rfl rfl 10 (by decide) (hts _ pq1125) (congrArg (fun q => some (va_rf q)) ey74) dX7_count_83 ?_
    refine lv_iconst (v := 1) hx hb dX7_count_86 (by decide +kernel) ?_
    refine p_zald hx hb hK hP 14 hLy74 hKy74 rfl rfl (in_d (by decide +kernel)) dX7_count_87 ?_
    refine lv_topi (fun z87 ez87 => ?_)
    refine ro_i (va_runS (As := [.int z87]) (rest := [.int z79]) ⟨hx, hb, hml, hown, hts⟩ (s_X7_truth l dC dI cs L K Q H.size I J z87) (va_cwS 1 hts (gS pq1257 pq1258 pq81 pq1259) rfl rfl rfl (by decide +kernel) ⟨(by rw [hR]; exact (Nat.le_of_ble_eq_true rfl)), (by rw [hR]; exact (Nat.le_of_ble_eq_true rfl))⟩) (sP_S hP hD hK hN) rfl rfl hl.1 rfl (lv_room (Nat.le_of_ble_eq_true rfl)) dX7_count_88 ⟨(by rw [hR]; exact (Nat.le_of_ble_eq_true rfl)), (by rw [hR]; exact (Nat.le_of_ble_eq_true rfl))⟩) hS hP (fun z88 H locs hz88 hP hS => ?_)
    obtain ⟨bz88, xpz88⟩ := hz88
    refine lv_iconst (v := 1) hx hb dX7_count_91 (by decide +kernel) ?_
    refine lv_ishl hx hb dX7_count_92 ?_
    refine lv_topi (fun z92 ez92 => ?_)
    refine lv_ior hx hb dX7_count_93 ?_
    refine lv_topi (fun z93 ez93 => ?_)
    subst hR; subst hQz
    exact W.iret (v := z93) hx hb hr (fun t ht hW => ⟨⟨z93, (), rfl, trivial, trivial⟩, hS.F ht⟩) hS.2.2 dX7_count_94
  · refine lv_tableIn (off := 94) (tgt := 95) hx hb dX7_count_1 (by decide +kernel) (by decide +kernel) (by decide +kernel) (by decide) ?_
    have sv1 : p1.toInt = 6 := by rw [← ez1]; decide +kernel
    refine lv_aload_n hx hb dX7_count_95 rfl (lv_at hl 0 rfl) ?_
    obtain ⟨y96, ey96, hLy96, hKy96⟩ := oQ_7_0 (Sv_at hQ hLp0 hKp0)
    refine p_get (v := .ref y96) hx hb hts inX7 hown hK hP hLp0 hKp0 rfl rfl 0 (by decide) (hts _ pq1115) (congrArg (fun q => some (va_rf q)) ey96) dX7_count_96 ?_
    refine lv_iconst (v := 2) hx hb dX7_count_99 (by decide +kernel) ?_
    refine p_iald hx hb hK hP 8 hLy96 hKy96 rfl rfl (in_d (by decide +kernel)) dX7_count_100 ?_
    refine lv_topi (fun z100 ez100 => ?_)
    subst hR; subst hQz
    exact W.iret (v := z100) hx hb hr (fun t ht hW => ⟨⟨z100, (), rfl, trivial, trivial⟩, hS.F ht⟩) hS.2.2 dX7_count_101
  · refine lv_tableOut (tgt := 102) hx hb dX7_count_1 hsw1 (by decide) ?_
    refine lv_iconst (v := (-1)) hx hb dX7_count_102 (by decide +kernel) ?_
    subst hR; subst hQz
    exact W.iret (v := (-1)) hx hb hr (fun t ht hW => ⟨⟨(-1), (), rfl, trivial, trivial⟩, hS.F ht⟩) hS.2.2 dX7_count_103
