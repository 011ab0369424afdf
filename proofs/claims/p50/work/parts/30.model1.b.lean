def yX7_touches : MethodName := ⟨RX7, "touches", "(IIII)Z"⟩
def yX7_meets : MethodName := ⟨RX7, "meets", "(IIII)Z"⟩
def yX7_overlaps : MethodName := ⟨RX7, "overlaps", "(IIIIZ)I"⟩
abbrev cX7_touches : ByteArray := prog_9_method_48_code
abbrev cX7_meets : ByteArray := prog_9_method_46_code
abbrev cX7_overlaps : ByteArray := prog_9_method_44_code
abbrev cX7_around : ByteArray := prog_9_method_64_code
abbrev cX7_clearsMade : ByteArray := prog_9_method_62_code
abbrev cX7_commonBy : ByteArray := prog_9_method_45_code
abbrev cX7_dotsOf : ByteArray := prog_9_method_65_code
abbrev cX7_laysAll : ByteArray := prog_9_method_41_code
abbrev cX7_takesMade : ByteArray := prog_9_method_63_code
abbrev cX7_touchingOf : ByteArray := prog_9_method_49_code
def yX7_around : MethodName := ⟨RX7, "around", "(III)I"⟩
def yX7_clearsMade : MethodName := ⟨RX7, "clearsMade", "()V"⟩
def yX7_commonBy : MethodName := ⟨RX7, "commonBy", "(IIII)I"⟩
def yX7_dotsOf : MethodName := ⟨RX7, "dotsOf", "(I)I"⟩
def yX7_laysAll : MethodName := ⟨RX7, "laysAll", "()V"⟩
def yX7_takesMade : MethodName := ⟨RX7, "takesMade", "(I)V"⟩
def yX7_touchingOf : MethodName := ⟨RX7, "touchingOf", "(I)I"⟩
theorem dX7_around_0 : decode cX7_around 0 = .ok (.aload_n 0, 1) := by decide +kernel
theorem dX7_around_1 : decode cX7_around 1 = .ok (.iload_n 1, 1) := by decide +kernel
theorem dX7_around_2 : decode cX7_around 2 = .ok (.iload_n 2, 1) := by decide +kernel
theorem dX7_around_3 : decode cX7_around 3 = .ok (.iconst 1, 1) := by decide +kernel
theorem dX7_around_4 : decode cX7_around 4 = .ok (.isub, 1) := by decide +kernel
theorem dX7_around_5 : decode cX7_around 5 = .ok (.iload_n 3, 1) := by decide +kernel
theorem dX7_around_6 : decode cX7_around 6 = .ok (.invokevirtual 215, 3) := by decide +kernel
theorem dX7_around_9 : decode cX7_around 9 = .ok (.invokestatic 127, 3) := by decide +kernel
theorem dX7_around_12 : decode cX7_around 12 = .ok (.aload_n 0, 1) := by decide +kernel
theorem dX7_around_13 : decode cX7_around 13 = .ok (.iload_n 1, 1) := by decide +kernel
theorem dX7_around_14 : decode cX7_around 14 = .ok (.iload_n 2, 1) := by decide +kernel
theorem dX7_around_15 : decode cX7_around 15 = .ok (.iconst 1, 1) := by decide +kernel
theorem dX7_around_16 : decode cX7_around 16 = .ok (.iadd, 1) := by decide +kernel
theorem dX7_around_17 : decode cX7_around 17 = .ok (.iload_n 3, 1) := by decide +kernel
theorem dX7_around_18 : decode cX7_around 18 = .ok (.invokevirtual 215, 3) := by decide +kernel
theorem dX7_around_21 : decode cX7_around 21 = .ok (.invokestatic 127, 3) := by decide +kernel
theorem dX7_around_24 : decode cX7_around 24 = .ok (.iadd, 1) := by decide +kernel
theorem dX7_around_25 : decode cX7_around 25 = .ok (.aload_n 0, 1) := by decide +kernel
theorem dX7_around_26 : decode cX7_around 26 = .ok (.iload_n 1, 1) := by decide +kernel
theorem dX7_around_27 : decode cX7_around 27 = .ok (.iload_n 2, 1) := by decide +kernel
theorem dX7_around_28 : decode cX7_around 28 = .ok (.iload_n 3, 1) := by decide +kernel
theorem dX7_around_29 : decode cX7_around 29 = .ok (.iconst 1, 1) := by decide +kernel
theorem dX7_around_30 : decode cX7_around 30 = .ok (.isub, 1) := by decide +kernel
theorem dX7_around_31 : decode cX7_around 31 = .ok (.invokevirtual 215, 3) := by decide +kernel
theorem dX7_around_34 : decode cX7_around 34 = .ok (.invokestatic 127, 3) := by decide +kernel
theorem dX7_around_37 : decode cX7_around 37 = .ok (.iadd, 1) := by decide +kernel
theorem dX7_around_38 : decode cX7_around 38 = .ok (.aload_n 0, 1) := by decide +kernel
theorem dX7_around_39 : decode cX7_around 39 = .ok (.iload_n 1, 1) := by decide +kernel
theorem dX7_around_40 : decode cX7_around 40 = .ok (.iload_n 2, 1) := by decide +kernel
theorem dX7_around_41 : decode cX7_around 41 = .ok (.iload_n 3, 1) := by decide +kernel
theorem dX7_around_42 : decode cX7_around 42 = .ok (.iconst 1, 1) := by decide +kernel
theorem dX7_around_43 : decode cX7_around 43 = .ok (.iadd, 1) := by decide +kernel
theorem dX7_around_44 : decode cX7_around 44 = .ok (.invokevirtual 215, 3) := by decide +kernel
theorem dX7_around_47 : decode cX7_around 47 = .ok (.invokestatic 127, 3) := by decide +kernel
theorem dX7_around_50 : decode cX7_around 50 = .ok (.iadd, 1) := by decide +kernel
theorem dX7_around_51 : decode cX7_around 51 = .ok (.ireturn, 1) := by decide +kernel
theorem dX7_clearsMade_0 : decode cX7_clearsMade 0 = .ok (.iconst 0, 1) := by decide +kernel
theorem dX7_clearsMade_1 : decode cX7_clearsMade 1 = .ok (.istore_n 1, 1) := by decide +kernel
theorem dX7_clearsMade_2 : decode cX7_clearsMade 2 = .ok (.iload_n 1, 1) := by decide +kernel
theorem dX7_clearsMade_3 : decode cX7_clearsMade 3 = .ok (.bipush 80, 2) := by decide +kernel
theorem dX7_clearsMade_5 : decode cX7_clearsMade 5 = .ok (.if_icmp .ge 16, 3) := by decide +kernel
theorem dX7_clearsMade_8 : decode cX7_clearsMade 8 = .ok (.aload_n 0, 1) := by decide +kernel
theorem dX7_clearsMade_9 : decode cX7_clearsMade 9 = .ok (.getfield 52, 3) := by decide +kernel
theorem dX7_clearsMade_12 : decode cX7_clearsMade 12 = .ok (.iload_n 1, 1) := by decide +kernel
theorem dX7_clearsMade_13 : decode cX7_clearsMade 13 = .ok (.lconst 0, 1) := by decide +kernel
theorem dX7_clearsMade_14 : decode cX7_clearsMade 14 = .ok (.lastore, 1) := by decide +kernel
theorem dX7_clearsMade_15 : decode cX7_clearsMade 15 = .ok (.iinc 1 1, 3) := by decide +kernel
theorem dX7_clearsMade_18 : decode cX7_clearsMade 18 = .ok (.goto (-16), 3) := by decide +kernel
theorem dX7_clearsMade_21 : decode cX7_clearsMade 21 = .ok (.return_, 1) := by decide +kernel
theorem dX7_commonBy_0 : decode cX7_commonBy 0 = .ok (.aload_n 0, 1) := by decide +kernel
theorem dX7_commonBy_1 : decode cX7_commonBy 1 = .ok (.iload_n 1, 1) := by decide +kernel
theorem dX7_commonBy_2 : decode cX7_commonBy 2 = .ok (.iload_n 2, 1) := by decide +kernel
theorem dX7_commonBy_3 : decode cX7_commonBy 3 = .ok (.aload_n 0, 1) := by decide +kernel
theorem dX7_commonBy_4 : decode cX7_commonBy 4 = .ok (.iload_n 2, 1) := by decide +kernel
theorem dX7_commonBy_5 : decode cX7_commonBy 5 = .ok (.iconst 1, 1) := by decide +kernel
theorem dX7_commonBy_6 : decode cX7_commonBy 6 = .ok (.invokevirtual 199, 3) := by decide +kernel
theorem dX7_commonBy_9 : decode cX7_commonBy 9 = .ok (.aload_n 0, 1) := by decide +kernel
theorem dX7_commonBy_10 : decode cX7_commonBy 10 = .ok (.iload_n 1, 1) := by decide +kernel
theorem dX7_commonBy_11 : decode cX7_commonBy 11 = .ok (.iconst 1, 1) := by decide +kernel
theorem dX7_commonBy_12 : decode cX7_commonBy 12 = .ok (.invokevirtual 199, 3) := by decide +kernel
theorem dX7_commonBy_15 : decode cX7_commonBy 15 = .ok (.isub, 1) := by decide +kernel
theorem dX7_commonBy_16 : decode cX7_commonBy 16 = .ok (.iload_n 3, 1) := by decide +kernel
theorem dX7_commonBy_17 : decode cX7_commonBy 17 = .ok (.isub, 1) := by decide +kernel
theorem dX7_commonBy_18 : decode cX7_commonBy 18 = .ok (.aload_n 0, 1) := by decide +kernel
theorem dX7_commonBy_19 : decode cX7_commonBy 19 = .ok (.iload_n 2, 1) := by decide +kernel
theorem dX7_commonBy_20 : decode cX7_commonBy 20 = .ok (.iconst 2, 1) := by decide +kernel
theorem dX7_commonBy_21 : decode cX7_commonBy 21 = .ok (.invokevirtual 199, 3) := by decide +kernel
theorem dX7_commonBy_24 : decode cX7_commonBy 24 = .ok (.aload_n 0, 1) := by decide +kernel
theorem dX7_commonBy_25 : decode cX7_commonBy 25 = .ok (.iload_n 1, 1) := by decide +kernel
theorem dX7_commonBy_26 : decode cX7_commonBy 26 = .ok (.iconst 2, 1) := by decide +kernel
theorem dX7_commonBy_27 : decode cX7_commonBy 27 = .ok (.invokevirtual 199, 3) := by decide +kernel
theorem dX7_commonBy_30 : decode cX7_commonBy 30 = .ok (.isub, 1) := by decide +kernel
theorem dX7_commonBy_31 : decode cX7_commonBy 31 = .ok (.iload 4, 2) := by decide +kernel
theorem dX7_commonBy_33 : decode cX7_commonBy 33 = .ok (.isub, 1) := by decide +kernel
theorem dX7_commonBy_34 : decode cX7_commonBy 34 = .ok (.iconst 0, 1) := by decide +kernel
theorem dX7_commonBy_35 : decode cX7_commonBy 35 = .ok (.invokevirtual 235, 3) := by decide +kernel
theorem dX7_commonBy_38 : decode cX7_commonBy 38 = .ok (.ireturn, 1) := by decide +kernel
theorem dX7_dotsOf_0 : decode cX7_dotsOf 0 = .ok (.iconst 0, 1) := by decide +kernel
theorem dX7_dotsOf_1 : decode cX7_dotsOf 1 = .ok (.istore_n 2, 1) := by decide +kernel
theorem dX7_dotsOf_2 : decode cX7_dotsOf 2 = .ok (.iconst 0, 1) := by decide +kernel
theorem dX7_dotsOf_3 : decode cX7_dotsOf 3 = .ok (.istore_n 3, 1) := by decide +kernel
theorem dX7_dotsOf_4 : decode cX7_dotsOf 4 = .ok (.iload_n 3, 1) := by decide +kernel
theorem dX7_dotsOf_5 : decode cX7_dotsOf 5 = .ok (.bipush 80, 2) := by decide +kernel
theorem dX7_dotsOf_7 : decode cX7_dotsOf 7 = .ok (.if_icmp .ge 26, 3) := by decide +kernel
theorem dX7_dotsOf_10 : decode cX7_dotsOf 10 = .ok (.iload_n 2, 1) := by decide +kernel
theorem dX7_dotsOf_11 : decode cX7_dotsOf 11 = .ok (.aload_n 0, 1) := by decide +kernel
theorem dX7_dotsOf_12 : decode cX7_dotsOf 12 = .ok (.getfield 25, 3) := by decide +kernel
theorem dX7_dotsOf_15 : decode cX7_dotsOf 15 = .ok (.bipush 80, 2) := by decide +kernel
theorem dX7_dotsOf_17 : decode cX7_dotsOf 17 = .ok (.iload_n 1, 1) := by decide +kernel
theorem dX7_dotsOf_18 : decode cX7_dotsOf 18 = .ok (.imul, 1) := by decide +kernel
theorem dX7_dotsOf_19 : decode cX7_dotsOf 19 = .ok (.iload_n 3, 1) := by decide +kernel
theorem dX7_dotsOf_20 : decode cX7_dotsOf 20 = .ok (.iadd, 1) := by decide +kernel
theorem dX7_dotsOf_21 : decode cX7_dotsOf 21 = .ok (.laload, 1) := by decide +kernel
theorem dX7_dotsOf_22 : decode cX7_dotsOf 22 = .ok (.invokestatic 226, 3) := by decide +kernel
theorem dX7_dotsOf_25 : decode cX7_dotsOf 25 = .ok (.iadd, 1) := by decide +kernel
theorem dX7_dotsOf_26 : decode cX7_dotsOf 26 = .ok (.istore_n 2, 1) := by decide +kernel
theorem dX7_dotsOf_27 : decode cX7_dotsOf 27 = .ok (.iinc 3 1, 3) := by decide +kernel
theorem dX7_dotsOf_30 : decode cX7_dotsOf 30 = .ok (.goto (-26), 3) := by decide +kernel
theorem dX7_dotsOf_33 : decode cX7_dotsOf 33 = .ok (.iload_n 2, 1) := by decide +kernel
theorem dX7_dotsOf_34 : decode cX7_dotsOf 34 = .ok (.ireturn, 1) := by decide +kernel
theorem dX7_laysAll_0 : decode cX7_laysAll 0 = .ok (.iconst 0, 1) := by decide +kernel
theorem dX7_laysAll_1 : decode cX7_laysAll 1 = .ok (.istore_n 1, 1) := by decide +kernel
theorem dX7_laysAll_2 : decode cX7_laysAll 2 = .ok (.iload_n 1, 1) := by decide +kernel
theorem dX7_laysAll_3 : decode cX7_laysAll 3 = .ok (.aload_n 0, 1) := by decide +kernel
theorem dX7_laysAll_4 : decode cX7_laysAll 4 = .ok (.getfield 9, 3) := by decide +kernel
theorem dX7_laysAll_7 : decode cX7_laysAll 7 = .ok (.iconst 1, 1) := by decide +kernel
theorem dX7_laysAll_8 : decode cX7_laysAll 8 = .ok (.iaload, 1) := by decide +kernel
theorem dX7_laysAll_9 : decode cX7_laysAll 9 = .ok (.if_icmp .ge 236, 3) := by decide +kernel
theorem dX7_laysAll_12 : decode cX7_laysAll 12 = .ok (.aload_n 0, 1) := by decide +kernel
theorem dX7_laysAll_13 : decode cX7_laysAll 13 = .ok (.iload_n 1, 1) := by decide +kernel
theorem dX7_laysAll_14 : decode cX7_laysAll 14 = .ok (.invokevirtual 212, 3) := by decide +kernel
theorem dX7_laysAll_17 : decode cX7_laysAll 17 = .ok (.istore_n 2, 1) := by decide +kernel
theorem dX7_laysAll_18 : decode cX7_laysAll 18 = .ok (.aload_n 0, 1) := by decide +kernel
theorem dX7_laysAll_19 : decode cX7_laysAll 19 = .ok (.iload_n 1, 1) := by decide +kernel
theorem dX7_laysAll_20 : decode cX7_laysAll 20 = .ok (.iconst 3, 1) := by decide +kernel
theorem dX7_laysAll_21 : decode cX7_laysAll 21 = .ok (.invokevirtual 199, 3) := by decide +kernel
theorem dX7_laysAll_24 : decode cX7_laysAll 24 = .ok (.istore_n 3, 1) := by decide +kernel
theorem dX7_laysAll_25 : decode cX7_laysAll 25 = .ok (.iconst 0, 1) := by decide +kernel
theorem dX7_laysAll_26 : decode cX7_laysAll 26 = .ok (.istore 4, 2) := by decide +kernel
theorem dX7_laysAll_28 : decode cX7_laysAll 28 = .ok (.iload 4, 2) := by decide +kernel
theorem dX7_laysAll_30 : decode cX7_laysAll 30 = .ok (.aload_n 0, 1) := by decide +kernel
theorem dX7_laysAll_31 : decode cX7_laysAll 31 = .ok (.iload_n 2, 1) := by decide +kernel
theorem dX7_laysAll_32 : decode cX7_laysAll 32 = .ok (.invokevirtual 205, 3) := by decide +kernel
theorem dX7_laysAll_35 : decode cX7_laysAll 35 = .ok (.if_icmp .ge 204, 3) := by decide +kernel
theorem dX7_laysAll_38 : decode cX7_laysAll 38 = .ok (.bipush 80, 2) := by decide +kernel
theorem dX7_laysAll_40 : decode cX7_laysAll 40 = .ok (.iload_n 2, 1) := by decide +kernel
theorem dX7_laysAll_41 : decode cX7_laysAll 41 = .ok (.imul, 1) := by decide +kernel
theorem dX7_laysAll_42 : decode cX7_laysAll 42 = .ok (.iconst 2, 1) := by decide +kernel
theorem dX7_laysAll_43 : decode cX7_laysAll 43 = .ok (.iload_n 3, 1) := by decide +kernel
theorem dX7_laysAll_44 : decode cX7_laysAll 44 = .ok (.iconst 1, 1) := by decide +kernel
theorem dX7_laysAll_45 : decode cX7_laysAll 45 = .ok (.if_icmp .le 16, 3) := by decide +kernel
theorem dX7_laysAll_48 : decode cX7_laysAll 48 = .ok (.aload_n 0, 1) := by decide +kernel
theorem dX7_laysAll_49 : decode cX7_laysAll 49 = .ok (.iload_n 2, 1) := by decide +kernel
theorem dX7_laysAll_50 : decode cX7_laysAll 50 = .ok (.invokevirtual 205, 3) := by decide +kernel
theorem dX7_laysAll_53 : decode cX7_laysAll 53 = .ok (.iconst 1, 1) := by decide +kernel
theorem dX7_laysAll_54 : decode cX7_laysAll 54 = .ok (.isub, 1) := by decide +kernel
theorem dX7_laysAll_55 : decode cX7_laysAll 55 = .ok (.iload 4, 2) := by decide +kernel
theorem dX7_laysAll_57 : decode cX7_laysAll 57 = .ok (.isub, 1) := by decide +kernel
theorem dX7_laysAll_58 : decode cX7_laysAll 58 = .ok (.goto 5, 3) := by decide +kernel
theorem dX7_laysAll_61 : decode cX7_laysAll 61 = .ok (.iload 4, 2) := by decide +kernel
theorem dX7_laysAll_63 : decode cX7_laysAll 63 = .ok (.imul, 1) := by decide +kernel
theorem dX7_laysAll_64 : decode cX7_laysAll 64 = .ok (.iadd, 1) := by decide +kernel
theorem dX7_laysAll_65 : decode cX7_laysAll 65 = .ok (.istore 5, 2) := by decide +kernel
theorem dX7_laysAll_67 : decode cX7_laysAll 67 = .ok (.aload_n 0, 1) := by decide +kernel
theorem dX7_laysAll_68 : decode cX7_laysAll 68 = .ok (.getfield 25, 3) := by decide +kernel
theorem dX7_laysAll_71 : decode cX7_laysAll 71 = .ok (.iload 5, 2) := by decide +kernel
theorem dX7_laysAll_73 : decode cX7_laysAll 73 = .ok (.laload, 1) := by decide +kernel
theorem dX7_laysAll_74 : decode cX7_laysAll 74 = .ok (.lstore 6, 2) := by decide +kernel
theorem dX7_laysAll_76 : decode cX7_laysAll 76 = .ok (.aload_n 0, 1) := by decide +kernel
theorem dX7_laysAll_77 : decode cX7_laysAll 77 = .ok (.getfield 25, 3) := by decide +kernel
theorem dX7_laysAll_80 : decode cX7_laysAll 80 = .ok (.iload 5, 2) := by decide +kernel
theorem dX7_laysAll_82 : decode cX7_laysAll 82 = .ok (.iconst 1, 1) := by decide +kernel
theorem dX7_laysAll_83 : decode cX7_laysAll 83 = .ok (.iadd, 1) := by decide +kernel
theorem dX7_laysAll_84 : decode cX7_laysAll 84 = .ok (.laload, 1) := by decide +kernel
theorem dX7_laysAll_85 : decode cX7_laysAll 85 = .ok (.lstore 8, 2) := by decide +kernel
theorem dX7_laysAll_87 : decode cX7_laysAll 87 = .ok (.iload_n 3, 1) := by decide +kernel
theorem dX7_laysAll_88 : decode cX7_laysAll 88 = .ok (.iconst 2, 1) := by decide +kernel
theorem dX7_laysAll_89 : decode cX7_laysAll 89 = .ok (.irem, 1) := by decide +kernel
theorem dX7_laysAll_90 : decode cX7_laysAll 90 = .ok (.iconst 1, 1) := by decide +kernel
theorem dX7_laysAll_91 : decode cX7_laysAll 91 = .ok (.if_icmp .ne 108, 3) := by decide +kernel
theorem dX7_laysAll_94 : decode cX7_laysAll 94 = .ok (.lconst 0, 1) := by decide +kernel
theorem dX7_laysAll_95 : decode cX7_laysAll 95 = .ok (.lstore 6, 2) := by decide +kernel
theorem dX7_laysAll_97 : decode cX7_laysAll 97 = .ok (.lconst 0, 1) := by decide +kernel
theorem dX7_laysAll_98 : decode cX7_laysAll 98 = .ok (.lstore 8, 2) := by decide +kernel
theorem dX7_laysAll_100 : decode cX7_laysAll 100 = .ok (.iconst 0, 1) := by decide +kernel
theorem dX7_laysAll_101 : decode cX7_laysAll 101 = .ok (.istore 10, 2) := by decide +kernel
theorem dX7_laysAll_103 : decode cX7_laysAll 103 = .ok (.iload 10, 2) := by decide +kernel
theorem dX7_laysAll_105 : decode cX7_laysAll 105 = .ok (.aload_n 0, 1) := by decide +kernel
theorem dX7_laysAll_106 : decode cX7_laysAll 106 = .ok (.iload_n 2, 1) := by decide +kernel
theorem dX7_laysAll_107 : decode cX7_laysAll 107 = .ok (.invokevirtual 202, 3) := by decide +kernel
theorem dX7_laysAll_110 : decode cX7_laysAll 110 = .ok (.if_icmp .ge 89, 3) := by decide +kernel
theorem dX7_laysAll_113 : decode cX7_laysAll 113 = .ok (.aload_n 0, 1) := by decide +kernel
theorem dX7_laysAll_114 : decode cX7_laysAll 114 = .ok (.getfield 25, 3) := by decide +kernel
theorem dX7_laysAll_117 : decode cX7_laysAll 117 = .ok (.iload 5, 2) := by decide +kernel
theorem dX7_laysAll_119 : decode cX7_laysAll 119 = .ok (.iload 10, 2) := by decide +kernel
theorem dX7_laysAll_121 : decode cX7_laysAll 121 = .ok (.bipush 64, 2) := by decide +kernel
theorem dX7_laysAll_123 : decode cX7_laysAll 123 = .ok (.idiv, 1) := by decide +kernel
theorem dX7_laysAll_124 : decode cX7_laysAll 124 = .ok (.iadd, 1) := by decide +kernel
theorem dX7_laysAll_125 : decode cX7_laysAll 125 = .ok (.laload, 1) := by decide +kernel
theorem dX7_laysAll_126 : decode cX7_laysAll 126 = .ok (.iload 10, 2) := by decide +kernel
theorem dX7_laysAll_128 : decode cX7_laysAll 128 = .ok (.bipush 64, 2) := by decide +kernel
theorem dX7_laysAll_130 : decode cX7_laysAll 130 = .ok (.irem, 1) := by decide +kernel
theorem dX7_laysAll_131 : decode cX7_laysAll 131 = .ok (.lshr, 1) := by decide +kernel
theorem dX7_laysAll_132 : decode cX7_laysAll 132 = .ok (.lconst 1, 1) := by decide +kernel
theorem dX7_laysAll_133 : decode cX7_laysAll 133 = .ok (.land, 1) := by decide +kernel
theorem dX7_laysAll_134 : decode cX7_laysAll 134 = .ok (.lstore 11, 2) := by decide +kernel
theorem dX7_laysAll_136 : decode cX7_laysAll 136 = .ok (.aload_n 0, 1) := by decide +kernel
theorem dX7_laysAll_137 : decode cX7_laysAll 137 = .ok (.iload_n 2, 1) := by decide +kernel
theorem dX7_laysAll_138 : decode cX7_laysAll 138 = .ok (.invokevirtual 202, 3) := by decide +kernel
theorem dX7_laysAll_141 : decode cX7_laysAll 141 = .ok (.iconst 1, 1) := by decide +kernel
theorem dX7_laysAll_142 : decode cX7_laysAll 142 = .ok (.isub, 1) := by decide +kernel
theorem dX7_laysAll_143 : decode cX7_laysAll 143 = .ok (.iload 10, 2) := by decide +kernel
theorem dX7_laysAll_145 : decode cX7_laysAll 145 = .ok (.isub, 1) := by decide +kernel
theorem dX7_laysAll_146 : decode cX7_laysAll 146 = .ok (.istore 13, 2) := by decide +kernel
theorem dX7_laysAll_148 : decode cX7_laysAll 148 = .ok (.lload 6, 2) := by decide +kernel
theorem dX7_laysAll_150 : decode cX7_laysAll 150 = .ok (.iload 13, 2) := by decide +kernel
theorem dX7_laysAll_152 : decode cX7_laysAll 152 = .ok (.bipush 64, 2) := by decide +kernel
theorem dX7_laysAll_154 : decode cX7_laysAll 154 = .ok (.if_icmp .ge 11, 3) := by decide +kernel
theorem dX7_laysAll_157 : decode cX7_laysAll 157 = .ok (.lload 11, 2) := by decide +kernel
theorem dX7_laysAll_159 : decode cX7_laysAll 159 = .ok (.iload 13, 2) := by decide +kernel
theorem dX7_laysAll_161 : decode cX7_laysAll 161 = .ok (.lshl, 1) := by decide +kernel
theorem dX7_laysAll_162 : decode cX7_laysAll 162 = .ok (.goto 4, 3) := by decide +kernel
theorem dX7_laysAll_165 : decode cX7_laysAll 165 = .ok (.lconst 0, 1) := by decide +kernel
theorem dX7_laysAll_166 : decode cX7_laysAll 166 = .ok (.lor, 1) := by decide +kernel
theorem dX7_laysAll_167 : decode cX7_laysAll 167 = .ok (.lstore 6, 2) := by decide +kernel
theorem dX7_laysAll_169 : decode cX7_laysAll 169 = .ok (.lload 8, 2) := by decide +kernel
theorem dX7_laysAll_171 : decode cX7_laysAll 171 = .ok (.iload 13, 2) := by decide +kernel
theorem dX7_laysAll_173 : decode cX7_laysAll 173 = .ok (.bipush 64, 2) := by decide +kernel
theorem dX7_laysAll_175 : decode cX7_laysAll 175 = .ok (.if_icmp .ge 7, 3) := by decide +kernel
theorem dX7_laysAll_178 : decode cX7_laysAll 178 = .ok (.lconst 0, 1) := by decide +kernel
theorem dX7_laysAll_179 : decode cX7_laysAll 179 = .ok (.goto 11, 3) := by decide +kernel
theorem dX7_laysAll_182 : decode cX7_laysAll 182 = .ok (.lload 11, 2) := by decide +kernel
theorem dX7_laysAll_184 : decode cX7_laysAll 184 = .ok (.iload 13, 2) := by decide +kernel
theorem dX7_laysAll_186 : decode cX7_laysAll 186 = .ok (.bipush 64, 2) := by decide +kernel
theorem dX7_laysAll_188 : decode cX7_laysAll 188 = .ok (.isub, 1) := by decide +kernel
theorem dX7_laysAll_189 : decode cX7_laysAll 189 = .ok (.lshl, 1) := by decide +kernel
theorem dX7_laysAll_190 : decode cX7_laysAll 190 = .ok (.lor, 1) := by decide +kernel
theorem dX7_laysAll_191 : decode cX7_laysAll 191 = .ok (.lstore 8, 2) := by decide +kernel
theorem dX7_laysAll_193 : decode cX7_laysAll 193 = .ok (.iinc 10 1, 3) := by decide +kernel
theorem dX7_laysAll_196 : decode cX7_laysAll 196 = .ok (.goto (-93), 3) := by decide +kernel
theorem dX7_laysAll_199 : decode cX7_laysAll 199 = .ok (.aload_n 0, 1) := by decide +kernel
theorem dX7_laysAll_200 : decode cX7_laysAll 200 = .ok (.getfield 49, 3) := by decide +kernel
theorem dX7_laysAll_203 : decode cX7_laysAll 203 = .ok (.bipush 80, 2) := by decide +kernel
theorem dX7_laysAll_205 : decode cX7_laysAll 205 = .ok (.iload_n 1, 1) := by decide +kernel
theorem dX7_laysAll_206 : decode cX7_laysAll 206 = .ok (.imul, 1) := by decide +kernel
theorem dX7_laysAll_207 : decode cX7_laysAll 207 = .ok (.iconst 2, 1) := by decide +kernel
theorem dX7_laysAll_208 : decode cX7_laysAll 208 = .ok (.iload 4, 2) := by decide +kernel
theorem dX7_laysAll_210 : decode cX7_laysAll 210 = .ok (.imul, 1) := by decide +kernel
theorem dX7_laysAll_211 : decode cX7_laysAll 211 = .ok (.iadd, 1) := by decide +kernel
theorem dX7_laysAll_212 : decode cX7_laysAll 212 = .ok (.lload 6, 2) := by decide +kernel
theorem dX7_laysAll_214 : decode cX7_laysAll 214 = .ok (.lastore, 1) := by decide +kernel
theorem dX7_laysAll_215 : decode cX7_laysAll 215 = .ok (.aload_n 0, 1) := by decide +kernel
theorem dX7_laysAll_216 : decode cX7_laysAll 216 = .ok (.getfield 49, 3) := by decide +kernel
theorem dX7_laysAll_219 : decode cX7_laysAll 219 = .ok (.bipush 80, 2) := by decide +kernel
theorem dX7_laysAll_221 : decode cX7_laysAll 221 = .ok (.iload_n 1, 1) := by decide +kernel
theorem dX7_laysAll_222 : decode cX7_laysAll 222 = .ok (.imul, 1) := by decide +kernel
theorem dX7_laysAll_223 : decode cX7_laysAll 223 = .ok (.iconst 2, 1) := by decide +kernel
theorem dX7_laysAll_224 : decode cX7_laysAll 224 = .ok (.iload 4, 2) := by decide +kernel
theorem dX7_laysAll_226 : decode cX7_laysAll 226 = .ok (.imul, 1) := by decide +kernel
theorem dX7_laysAll_227 : decode cX7_laysAll 227 = .ok (.iadd, 1) := by decide +kernel
theorem dX7_laysAll_228 : decode cX7_laysAll 228 = .ok (.iconst 1, 1) := by decide +kernel
theorem dX7_laysAll_229 : decode cX7_laysAll 229 = .ok (.iadd, 1) := by decide +kernel
theorem dX7_laysAll_230 : decode cX7_laysAll 230 = .ok (.lload 8, 2) := by decide +kernel
theorem dX7_laysAll_232 : decode cX7_laysAll 232 = .ok (.lastore, 1) := by decide +kernel
theorem dX7_laysAll_233 : decode cX7_laysAll 233 = .ok (.iinc 4 1, 3) := by decide +kernel
theorem dX7_laysAll_236 : decode cX7_laysAll 236 = .ok (.goto (-208), 3) := by decide +kernel
theorem dX7_laysAll_239 : decode cX7_laysAll 239 = .ok (.iinc 1 1, 3) := by decide +kernel
theorem dX7_laysAll_242 : decode cX7_laysAll 242 = .ok (.goto (-240), 3) := by decide +kernel
theorem dX7_laysAll_245 : decode cX7_laysAll 245 = .ok (.return_, 1) := by decide +kernel
theorem dX7_meets_0 : decode cX7_meets 0 = .ok (.aload_n 0, 1) := by decide +kernel
theorem dX7_meets_1 : decode cX7_meets 1 = .ok (.iload_n 1, 1) := by decide +kernel
theorem dX7_meets_2 : decode cX7_meets 2 = .ok (.iload_n 2, 1) := by decide +kernel
theorem dX7_meets_3 : decode cX7_meets 3 = .ok (.aload_n 0, 1) := by decide +kernel
theorem dX7_meets_4 : decode cX7_meets 4 = .ok (.iload_n 2, 1) := by decide +kernel
theorem dX7_meets_5 : decode cX7_meets 5 = .ok (.iconst 1, 1) := by decide +kernel
theorem dX7_meets_6 : decode cX7_meets 6 = .ok (.invokevirtual 199, 3) := by decide +kernel
theorem dX7_meets_9 : decode cX7_meets 9 = .ok (.aload_n 0, 1) := by decide +kernel
theorem dX7_meets_10 : decode cX7_meets 10 = .ok (.iload_n 1, 1) := by decide +kernel
theorem dX7_meets_11 : decode cX7_meets 11 = .ok (.iconst 1, 1) := by decide +kernel
theorem dX7_meets_12 : decode cX7_meets 12 = .ok (.invokevirtual 199, 3) := by decide +kernel
theorem dX7_meets_15 : decode cX7_meets 15 = .ok (.isub, 1) := by decide +kernel
theorem dX7_meets_16 : decode cX7_meets 16 = .ok (.iload_n 3, 1) := by decide +kernel
theorem dX7_meets_17 : decode cX7_meets 17 = .ok (.isub, 1) := by decide +kernel
theorem dX7_meets_18 : decode cX7_meets 18 = .ok (.aload_n 0, 1) := by decide +kernel
theorem dX7_meets_19 : decode cX7_meets 19 = .ok (.iload_n 2, 1) := by decide +kernel
theorem dX7_meets_20 : decode cX7_meets 20 = .ok (.iconst 2, 1) := by decide +kernel
theorem dX7_meets_21 : decode cX7_meets 21 = .ok (.invokevirtual 199, 3) := by decide +kernel
theorem dX7_meets_24 : decode cX7_meets 24 = .ok (.aload_n 0, 1) := by decide +kernel
theorem dX7_meets_25 : decode cX7_meets 25 = .ok (.iload_n 1, 1) := by decide +kernel
theorem dX7_meets_26 : decode cX7_meets 26 = .ok (.iconst 2, 1) := by decide +kernel
theorem dX7_meets_27 : decode cX7_meets 27 = .ok (.invokevirtual 199, 3) := by decide +kernel
theorem dX7_meets_30 : decode cX7_meets 30 = .ok (.isub, 1) := by decide +kernel
theorem dX7_meets_31 : decode cX7_meets 31 = .ok (.iload 4, 2) := by decide +kernel
theorem dX7_meets_33 : decode cX7_meets 33 = .ok (.isub, 1) := by decide +kernel
theorem dX7_meets_34 : decode cX7_meets 34 = .ok (.iconst 1, 1) := by decide +kernel
theorem dX7_meets_35 : decode cX7_meets 35 = .ok (.invokevirtual 235, 3) := by decide +kernel
theorem dX7_meets_38 : decode cX7_meets 38 = .ok (.ifCond .le 7, 3) := by decide +kernel
theorem dX7_meets_41 : decode cX7_meets 41 = .ok (.iconst 1, 1) := by decide +kernel
theorem dX7_meets_42 : decode cX7_meets 42 = .ok (.goto 4, 3) := by decide +kernel
theorem dX7_meets_45 : decode cX7_meets 45 = .ok (.iconst 0, 1) := by decide +kernel
theorem dX7_meets_46 : decode cX7_meets 46 = .ok (.ireturn, 1) := by decide +kernel
theorem dX7_overlaps_0 : decode cX7_overlaps 0 = .ok (.iconst 0, 1) := by decide +kernel
theorem dX7_overlaps_1 : decode cX7_overlaps 1 = .ok (.istore 6, 2) := by decide +kernel
theorem dX7_overlaps_3 : decode cX7_overlaps 3 = .ok (.iconst 0, 1) := by decide +kernel
theorem dX7_overlaps_4 : decode cX7_overlaps 4 = .ok (.iload 4, 2) := by decide +kernel
theorem dX7_overlaps_6 : decode cX7_overlaps 6 = .ok (.invokestatic 219, 3) := by decide +kernel
theorem dX7_overlaps_9 : decode cX7_overlaps 9 = .ok (.istore 7, 2) := by decide +kernel
theorem dX7_overlaps_11 : decode cX7_overlaps 11 = .ok (.aload_n 0, 1) := by decide +kernel
theorem dX7_overlaps_12 : decode cX7_overlaps 12 = .ok (.aload_n 0, 1) := by decide +kernel
theorem dX7_overlaps_13 : decode cX7_overlaps 13 = .ok (.iload_n 1, 1) := by decide +kernel
theorem dX7_overlaps_14 : decode cX7_overlaps 14 = .ok (.invokevirtual 212, 3) := by decide +kernel
theorem dX7_overlaps_17 : decode cX7_overlaps 17 = .ok (.invokevirtual 205, 3) := by decide +kernel
theorem dX7_overlaps_20 : decode cX7_overlaps 20 = .ok (.aload_n 0, 1) := by decide +kernel
theorem dX7_overlaps_21 : decode cX7_overlaps 21 = .ok (.aload_n 0, 1) := by decide +kernel
theorem dX7_overlaps_22 : decode cX7_overlaps 22 = .ok (.iload_n 2, 1) := by decide +kernel
theorem dX7_overlaps_23 : decode cX7_overlaps 23 = .ok (.invokevirtual 212, 3) := by decide +kernel
theorem dX7_overlaps_26 : decode cX7_overlaps 26 = .ok (.invokevirtual 205, 3) := by decide +kernel
theorem dX7_overlaps_29 : decode cX7_overlaps 29 = .ok (.iload 4, 2) := by decide +kernel
theorem dX7_overlaps_31 : decode cX7_overlaps 31 = .ok (.iadd, 1) := by decide +kernel
theorem dX7_overlaps_32 : decode cX7_overlaps 32 = .ok (.invokestatic 121, 3) := by decide +kernel
theorem dX7_overlaps_35 : decode cX7_overlaps 35 = .ok (.istore 8, 2) := by decide +kernel
theorem dX7_overlaps_37 : decode cX7_overlaps 37 = .ok (.iload 7, 2) := by decide +kernel
theorem dX7_overlaps_39 : decode cX7_overlaps 39 = .ok (.istore 9, 2) := by decide +kernel
theorem dX7_overlaps_41 : decode cX7_overlaps 41 = .ok (.iload 9, 2) := by decide +kernel
theorem dX7_overlaps_43 : decode cX7_overlaps 43 = .ok (.iload 8, 2) := by decide +kernel
theorem dX7_overlaps_45 : decode cX7_overlaps 45 = .ok (.if_icmp .ge 118, 3) := by decide +kernel
theorem dX7_overlaps_48 : decode cX7_overlaps 48 = .ok (.iload 5, 2) := by decide +kernel
theorem dX7_overlaps_50 : decode cX7_overlaps 50 = .ok (.ifCond .eq 8, 3) := by decide +kernel
theorem dX7_overlaps_53 : decode cX7_overlaps 53 = .ok (.iload 6, 2) := by decide +kernel
theorem dX7_overlaps_55 : decode cX7_overlaps 55 = .ok (.ifCond .gt 108, 3) := by decide +kernel
theorem dX7_overlaps_58 : decode cX7_overlaps 58 = .ok (.bipush 80, 2) := by decide +kernel
theorem dX7_overlaps_60 : decode cX7_overlaps 60 = .ok (.iload_n 1, 1) := by decide +kernel
theorem dX7_overlaps_61 : decode cX7_overlaps 61 = .ok (.imul, 1) := by decide +kernel
theorem dX7_overlaps_62 : decode cX7_overlaps 62 = .ok (.iconst 2, 1) := by decide +kernel
theorem dX7_overlaps_63 : decode cX7_overlaps 63 = .ok (.iload 9, 2) := by decide +kernel
theorem dX7_overlaps_65 : decode cX7_overlaps 65 = .ok (.imul, 1) := by decide +kernel
theorem dX7_overlaps_66 : decode cX7_overlaps 66 = .ok (.iadd, 1) := by decide +kernel
theorem dX7_overlaps_67 : decode cX7_overlaps 67 = .ok (.istore 10, 2) := by decide +kernel
theorem dX7_overlaps_69 : decode cX7_overlaps 69 = .ok (.bipush 80, 2) := by decide +kernel
theorem dX7_overlaps_71 : decode cX7_overlaps 71 = .ok (.iload_n 2, 1) := by decide +kernel
theorem dX7_overlaps_72 : decode cX7_overlaps 72 = .ok (.imul, 1) := by decide +kernel
theorem dX7_overlaps_73 : decode cX7_overlaps 73 = .ok (.iconst 2, 1) := by decide +kernel
theorem dX7_overlaps_74 : decode cX7_overlaps 74 = .ok (.iload 9, 2) := by decide +kernel
theorem dX7_overlaps_76 : decode cX7_overlaps 76 = .ok (.iload 4, 2) := by decide +kernel
theorem dX7_overlaps_78 : decode cX7_overlaps 78 = .ok (.isub, 1) := by decide +kernel
theorem dX7_overlaps_79 : decode cX7_overlaps 79 = .ok (.imul, 1) := by decide +kernel
theorem dX7_overlaps_80 : decode cX7_overlaps 80 = .ok (.iadd, 1) := by decide +kernel
theorem dX7_overlaps_81 : decode cX7_overlaps 81 = .ok (.istore 11, 2) := by decide +kernel
theorem dX7_overlaps_83 : decode cX7_overlaps 83 = .ok (.iload 6, 2) := by decide +kernel
theorem dX7_overlaps_85 : decode cX7_overlaps 85 = .ok (.aload_n 0, 1) := by decide +kernel
theorem dX7_overlaps_86 : decode cX7_overlaps 86 = .ok (.getfield 49, 3) := by decide +kernel
theorem dX7_overlaps_89 : decode cX7_overlaps 89 = .ok (.iload 10, 2) := by decide +kernel
theorem dX7_overlaps_91 : decode cX7_overlaps 91 = .ok (.laload, 1) := by decide +kernel
theorem dX7_overlaps_92 : decode cX7_overlaps 92 = .ok (.aload_n 0, 1) := by decide +kernel
theorem dX7_overlaps_93 : decode cX7_overlaps 93 = .ok (.getfield 49, 3) := by decide +kernel
theorem dX7_overlaps_96 : decode cX7_overlaps 96 = .ok (.iload 11, 2) := by decide +kernel
theorem dX7_overlaps_98 : decode cX7_overlaps 98 = .ok (.laload, 1) := by decide +kernel
theorem dX7_overlaps_99 : decode cX7_overlaps 99 = .ok (.aload_n 0, 1) := by decide +kernel
theorem dX7_overlaps_100 : decode cX7_overlaps 100 = .ok (.getfield 49, 3) := by decide +kernel
theorem dX7_overlaps_103 : decode cX7_overlaps 103 = .ok (.iload 11, 2) := by decide +kernel
theorem dX7_overlaps_105 : decode cX7_overlaps 105 = .ok (.iconst 1, 1) := by decide +kernel
theorem dX7_overlaps_106 : decode cX7_overlaps 106 = .ok (.iadd, 1) := by decide +kernel
theorem dX7_overlaps_107 : decode cX7_overlaps 107 = .ok (.laload, 1) := by decide +kernel
theorem dX7_overlaps_108 : decode cX7_overlaps 108 = .ok (.iload_n 3, 1) := by decide +kernel
theorem dX7_overlaps_109 : decode cX7_overlaps 109 = .ok (.invokestatic 222, 3) := by decide +kernel
theorem dX7_overlaps_112 : decode cX7_overlaps 112 = .ok (.land, 1) := by decide +kernel
theorem dX7_overlaps_113 : decode cX7_overlaps 113 = .ok (.invokestatic 226, 3) := by decide +kernel
theorem dX7_overlaps_116 : decode cX7_overlaps 116 = .ok (.iadd, 1) := by decide +kernel
theorem dX7_overlaps_117 : decode cX7_overlaps 117 = .ok (.istore 6, 2) := by decide +kernel
theorem dX7_overlaps_119 : decode cX7_overlaps 119 = .ok (.iload 6, 2) := by decide +kernel
theorem dX7_overlaps_121 : decode cX7_overlaps 121 = .ok (.aload_n 0, 1) := by decide +kernel
theorem dX7_overlaps_122 : decode cX7_overlaps 122 = .ok (.getfield 49, 3) := by decide +kernel
theorem dX7_overlaps_125 : decode cX7_overlaps 125 = .ok (.iload 10, 2) := by decide +kernel
theorem dX7_overlaps_127 : decode cX7_overlaps 127 = .ok (.iconst 1, 1) := by decide +kernel
theorem dX7_overlaps_128 : decode cX7_overlaps 128 = .ok (.iadd, 1) := by decide +kernel
theorem dX7_overlaps_129 : decode cX7_overlaps 129 = .ok (.laload, 1) := by decide +kernel
theorem dX7_overlaps_130 : decode cX7_overlaps 130 = .ok (.aload_n 0, 1) := by decide +kernel
theorem dX7_overlaps_131 : decode cX7_overlaps 131 = .ok (.getfield 49, 3) := by decide +kernel
theorem dX7_overlaps_134 : decode cX7_overlaps 134 = .ok (.iload 11, 2) := by decide +kernel
theorem dX7_overlaps_136 : decode cX7_overlaps 136 = .ok (.laload, 1) := by decide +kernel
theorem dX7_overlaps_137 : decode cX7_overlaps 137 = .ok (.aload_n 0, 1) := by decide +kernel
theorem dX7_overlaps_138 : decode cX7_overlaps 138 = .ok (.getfield 49, 3) := by decide +kernel
theorem dX7_overlaps_141 : decode cX7_overlaps 141 = .ok (.iload 11, 2) := by decide +kernel
theorem dX7_overlaps_143 : decode cX7_overlaps 143 = .ok (.iconst 1, 1) := by decide +kernel
theorem dX7_overlaps_144 : decode cX7_overlaps 144 = .ok (.iadd, 1) := by decide +kernel
theorem dX7_overlaps_145 : decode cX7_overlaps 145 = .ok (.laload, 1) := by decide +kernel
theorem dX7_overlaps_146 : decode cX7_overlaps 146 = .ok (.iload_n 3, 1) := by decide +kernel
theorem dX7_overlaps_147 : decode cX7_overlaps 147 = .ok (.invokestatic 232, 3) := by decide +kernel
theorem dX7_overlaps_150 : decode cX7_overlaps 150 = .ok (.land, 1) := by decide +kernel
theorem dX7_overlaps_151 : decode cX7_overlaps 151 = .ok (.invokestatic 226, 3) := by decide +kernel
theorem dX7_overlaps_154 : decode cX7_overlaps 154 = .ok (.iadd, 1) := by decide +kernel
theorem dX7_overlaps_155 : decode cX7_overlaps 155 = .ok (.istore 6, 2) := by decide +kernel
theorem dX7_overlaps_157 : decode cX7_overlaps 157 = .ok (.iinc 9 1, 3) := by decide +kernel
theorem dX7_overlaps_160 : decode cX7_overlaps 160 = .ok (.goto (-119), 3) := by decide +kernel
theorem dX7_overlaps_163 : decode cX7_overlaps 163 = .ok (.iload 6, 2) := by decide +kernel
theorem dX7_overlaps_165 : decode cX7_overlaps 165 = .ok (.ireturn, 1) := by decide +kernel
theorem dX7_takesMade_0 : decode cX7_takesMade 0 = .ok (.iconst 0, 1) := by decide +kernel
theorem dX7_takesMade_1 : decode cX7_takesMade 1 = .ok (.istore_n 2, 1) := by decide +kernel
theorem dX7_takesMade_2 : decode cX7_takesMade 2 = .ok (.iload_n 2, 1) := by decide +kernel
theorem dX7_takesMade_3 : decode cX7_takesMade 3 = .ok (.bipush 80, 2) := by decide +kernel
theorem dX7_takesMade_5 : decode cX7_takesMade 5 = .ok (.if_icmp .ge 26, 3) := by decide +kernel
theorem dX7_takesMade_8 : decode cX7_takesMade 8 = .ok (.aload_n 0, 1) := by decide +kernel
theorem dX7_takesMade_9 : decode cX7_takesMade 9 = .ok (.getfield 25, 3) := by decide +kernel
theorem dX7_takesMade_12 : decode cX7_takesMade 12 = .ok (.bipush 80, 2) := by decide +kernel
theorem dX7_takesMade_14 : decode cX7_takesMade 14 = .ok (.iload_n 1, 1) := by decide +kernel
theorem dX7_takesMade_15 : decode cX7_takesMade 15 = .ok (.imul, 1) := by decide +kernel
theorem dX7_takesMade_16 : decode cX7_takesMade 16 = .ok (.iload_n 2, 1) := by decide +kernel
theorem dX7_takesMade_17 : decode cX7_takesMade 17 = .ok (.iadd, 1) := by decide +kernel
theorem dX7_takesMade_18 : decode cX7_takesMade 18 = .ok (.aload_n 0, 1) := by decide +kernel
theorem dX7_takesMade_19 : decode cX7_takesMade 19 = .ok (.getfield 52, 3) := by decide +kernel
theorem dX7_takesMade_22 : decode cX7_takesMade 22 = .ok (.iload_n 2, 1) := by decide +kernel
theorem dX7_takesMade_23 : decode cX7_takesMade 23 = .ok (.laload, 1) := by decide +kernel
theorem dX7_takesMade_24 : decode cX7_takesMade 24 = .ok (.lastore, 1) := by decide +kernel
theorem dX7_takesMade_25 : decode cX7_takesMade 25 = .ok (.iinc 2 1, 3) := by decide +kernel
theorem dX7_takesMade_28 : decode cX7_takesMade 28 = .ok (.goto (-26), 3) := by decide +kernel
theorem dX7_takesMade_31 : decode cX7_takesMade 31 = .ok (.return_, 1) := by decide +kernel
theorem dX7_touches_0 : decode cX7_touches 0 = .ok (.iload_n 1, 1) := by decide +kernel
theorem dX7_touches_1 : decode cX7_touches 1 = .ok (.iload_n 2, 1) := by decide +kernel
theorem dX7_touches_2 : decode cX7_touches 2 = .ok (.if_icmp .eq 28, 3) := by decide +kernel
theorem dX7_touches_5 : decode cX7_touches 5 = .ok (.aload_n 0, 1) := by decide +kernel
theorem dX7_touches_6 : decode cX7_touches 6 = .ok (.iload_n 1, 1) := by decide +kernel
theorem dX7_touches_7 : decode cX7_touches 7 = .ok (.iload_n 2, 1) := by decide +kernel
theorem dX7_touches_8 : decode cX7_touches 8 = .ok (.invokevirtual 239, 3) := by decide +kernel
theorem dX7_touches_11 : decode cX7_touches 11 = .ok (.ifCond .eq 19, 3) := by decide +kernel
theorem dX7_touches_14 : decode cX7_touches 14 = .ok (.aload_n 0, 1) := by decide +kernel
theorem dX7_touches_15 : decode cX7_touches 15 = .ok (.iload_n 1, 1) := by decide +kernel
theorem dX7_touches_16 : decode cX7_touches 16 = .ok (.iload_n 2, 1) := by decide +kernel
theorem dX7_touches_17 : decode cX7_touches 17 = .ok (.iload_n 3, 1) := by decide +kernel
theorem dX7_touches_18 : decode cX7_touches 18 = .ok (.iload 4, 2) := by decide +kernel
theorem dX7_touches_20 : decode cX7_touches 20 = .ok (.invokevirtual 243, 3) := by decide +kernel
theorem dX7_touches_23 : decode cX7_touches 23 = .ok (.ifCond .eq 7, 3) := by decide +kernel
theorem dX7_touches_26 : decode cX7_touches 26 = .ok (.iconst 1, 1) := by decide +kernel
theorem dX7_touches_27 : decode cX7_touches 27 = .ok (.goto 4, 3) := by decide +kernel
theorem dX7_touches_30 : decode cX7_touches 30 = .ok (.iconst 0, 1) := by decide +kernel
theorem dX7_touches_31 : decode cX7_touches 31 = .ok (.ireturn, 1) := by decide +kernel
theorem dX7_touchingOf_0 : decode cX7_touchingOf 0 = .ok (.iconst 0, 1) := by decide +kernel
theorem dX7_touchingOf_1 : decode cX7_touchingOf 1 = .ok (.istore_n 2, 1) := by decide +kernel
theorem dX7_touchingOf_2 : decode cX7_touchingOf 2 = .ok (.iconst 0, 1) := by decide +kernel
theorem dX7_touchingOf_3 : decode cX7_touchingOf 3 = .ok (.istore_n 3, 1) := by decide +kernel
theorem dX7_touchingOf_4 : decode cX7_touchingOf 4 = .ok (.iload_n 3, 1) := by decide +kernel
theorem dX7_touchingOf_5 : decode cX7_touchingOf 5 = .ok (.aload_n 0, 1) := by decide +kernel
theorem dX7_touchingOf_6 : decode cX7_touchingOf 6 = .ok (.getfield 9, 3) := by decide +kernel
theorem dX7_touchingOf_9 : decode cX7_touchingOf 9 = .ok (.iconst 1, 1) := by decide +kernel
theorem dX7_touchingOf_10 : decode cX7_touchingOf 10 = .ok (.iaload, 1) := by decide +kernel
theorem dX7_touchingOf_11 : decode cX7_touchingOf 11 = .ok (.if_icmp .ge 30, 3) := by decide +kernel
theorem dX7_touchingOf_14 : decode cX7_touchingOf 14 = .ok (.iload_n 2, 1) := by decide +kernel
theorem dX7_touchingOf_15 : decode cX7_touchingOf 15 = .ok (.aload_n 0, 1) := by decide +kernel
theorem dX7_touchingOf_16 : decode cX7_touchingOf 16 = .ok (.iload_n 1, 1) := by decide +kernel
theorem dX7_touchingOf_17 : decode cX7_touchingOf 17 = .ok (.iload_n 3, 1) := by decide +kernel
theorem dX7_touchingOf_18 : decode cX7_touchingOf 18 = .ok (.iconst 0, 1) := by decide +kernel
theorem dX7_touchingOf_19 : decode cX7_touchingOf 19 = .ok (.iconst 0, 1) := by decide +kernel
theorem dX7_touchingOf_20 : decode cX7_touchingOf 20 = .ok (.invokevirtual 247, 3) := by decide +kernel
theorem dX7_touchingOf_23 : decode cX7_touchingOf 23 = .ok (.ifCond .eq 9, 3) := by decide +kernel
theorem dX7_touchingOf_26 : decode cX7_touchingOf 26 = .ok (.iconst 1, 1) := by decide +kernel
theorem dX7_touchingOf_27 : decode cX7_touchingOf 27 = .ok (.iload_n 3, 1) := by decide +kernel
theorem dX7_touchingOf_28 : decode cX7_touchingOf 28 = .ok (.ishl, 1) := by decide +kernel
theorem dX7_touchingOf_29 : decode cX7_touchingOf 29 = .ok (.goto 4, 3) := by decide +kernel
theorem dX7_touchingOf_32 : decode cX7_touchingOf 32 = .ok (.iconst 0, 1) := by decide +kernel
theorem dX7_touchingOf_33 : decode cX7_touchingOf 33 = .ok (.ior, 1) := by decide +kernel
theorem dX7_touchingOf_34 : decode cX7_touchingOf 34 = .ok (.istore_n 2, 1) := by decide +kernel
theorem dX7_touchingOf_35 : decode cX7_touchingOf 35 = .ok (.iinc 3 1, 3) := by decide +kernel
theorem dX7_touchingOf_38 : decode cX7_touchingOf 38 = .ok (.goto (-34), 3) := by decide +kernel
theorem dX7_touchingOf_41 : decode cX7_touchingOf 41 = .ok (.iload_n 2, 1) := by decide +kernel
theorem dX7_touchingOf_42 : decode cX7_touchingOf 42 = .ok (.ireturn, 1) := by decide +kernel
set_option maxRecDepth 100000 in
theorem pq44 : Cond.selects RX7 yX7_touches yX7_touches ∈ pw := pw_mem (i := 44) (by decide +kernel) rfl
set_option maxRecDepth 100000 in
theorem pq45 : Cond.selects RX7 yX7_mayTouch yX7_mayTouch ∈ pw := pw_mem (i := 45) (by decide +kernel) rfl
set_option maxRecDepth 100000 in
theorem pq46 : Cond.selects RX7 yX7_meets yX7_meets ∈ pw := pw_mem (i := 46) (by decide +kernel) rfl
set_option maxRecDepth 100000 in
theorem pq47 : Cond.selects RX7 yX7_overlaps yX7_overlaps ∈ pw := pw_mem (i := 47) (by decide +kernel) rfl
set_option maxRecDepth 100000 in
theorem pq1132 : Cond.fieldLink RX7 49 "MaskTouchModel" "laid" "[J" ∈ pw := pw_mem (i := 1132) (by decide +kernel) rfl
set_option maxRecDepth 100000 in
theorem pq1134 : Cond.fieldLink RX7 52 "MaskTouchModel" "made" "[J" ∈ pw := pw_mem (i := 1134) (by decide +kernel) rfl
set_option maxRecDepth 100000 in
theorem pq1257 : Cond.methodLink RX7 127 yX7_truth ∈ pw := pw_mem (i := 1257) (by decide +kernel) rfl
set_option maxRecDepth 100000 in
theorem pq1258 : Cond.static yX7_truth ∈ pw := pw_mem (i := 1258) (by decide +kernel) rfl
set_option maxRecDepth 100000 in
theorem pq1259 : Cond.code yX7_truth cX7_truth 1 (some .int) ∈ pw := pw_mem (i := 1259) (by rfl) rfl
set_option maxRecDepth 100000 in
theorem pq1269 : Cond.methodLink RX7 121 Lib.Math.min.name ∈ pw := pw_mem (i := 1269) (by decide +kernel) rfl
set_option maxRecDepth 100000 in
theorem pq1417 : Cond.methodLink RX7 226 yJ13_bitCount_95d88 ∈ pw := pw_mem (i := 1417) (by decide +kernel) rfl
set_option maxRecDepth 100000 in
theorem pq1443 : Cond.methodLink RX7 219 Lib.Math.max.name ∈ pw := pw_mem (i := 1443) (by decide +kernel) rfl
set_option maxRecDepth 100000 in
theorem pq1448 : Cond.methodLink RX7 247 yX7_touches ∈ pw := pw_mem (i := 1448) (by decide +kernel) rfl
set_option maxRecDepth 100000 in
theorem pq1450 : Cond.instanceMethod yX7_touches ∈ pw := pw_mem (i := 1450) (by decide +kernel) rfl
set_option maxRecDepth 100000 in
theorem pq1451 : Cond.code yX7_touches cX7_touches 5 (some .boolean) ∈ pw := pw_mem (i := 1451) (by rfl) rfl
set_option maxRecDepth 100000 in
theorem pq1452 : Cond.methodLink RX7 239 yX7_mayTouch ∈ pw := pw_mem (i := 1452) (by decide +kernel) rfl
set_option maxRecDepth 100000 in
theorem pq1454 : Cond.instanceMethod yX7_mayTouch ∈ pw := pw_mem (i := 1454) (by decide +kernel) rfl
set_option maxRecDepth 100000 in
theorem pq1455 : Cond.code yX7_mayTouch cX7_mayTouch 3 (some .boolean) ∈ pw := pw_mem (i := 1455) (by rfl) rfl
set_option maxRecDepth 100000 in
theorem pq1456 : Cond.methodLink RX7 243 yX7_meets ∈ pw := pw_mem (i := 1456) (by decide +kernel) rfl
set_option maxRecDepth 100000 in
theorem pq1458 : Cond.instanceMethod yX7_meets ∈ pw := pw_mem (i := 1458) (by decide +kernel) rfl
set_option maxRecDepth 100000 in
theorem pq1459 : Cond.code yX7_meets cX7_meets 5 (some .boolean) ∈ pw := pw_mem (i := 1459) (by rfl) rfl
set_option maxRecDepth 100000 in
theorem pq1460 : Cond.methodLink RX7 235 yX7_overlaps ∈ pw := pw_mem (i := 1460) (by decide +kernel) rfl
set_option maxRecDepth 100000 in
theorem pq1462 : Cond.instanceMethod yX7_overlaps ∈ pw := pw_mem (i := 1462) (by decide +kernel) rfl
set_option maxRecDepth 100000 in
theorem pq1463 : Cond.code yX7_overlaps cX7_overlaps 12 (some .int) ∈ pw := pw_mem (i := 1463) (by rfl) rfl
set_option maxRecDepth 100000 in
theorem pq1464 : Cond.methodLink RX7 222 yX7_low ∈ pw := pw_mem (i := 1464) (by decide +kernel) rfl
set_option maxRecDepth 100000 in
theorem pq1465 : Cond.static yX7_low ∈ pw := pw_mem (i := 1465) (by decide +kernel) rfl
set_option maxRecDepth 100000 in
theorem pq1466 : Cond.code yX7_low cX7_low 6 (some .long) ∈ pw := pw_mem (i := 1466) (by rfl) rfl
set_option maxRecDepth 100000 in
theorem pq1467 : Cond.methodLink RX7 232 yX7_top ∈ pw := pw_mem (i := 1467) (by decide +kernel) rfl
set_option maxRecDepth 100000 in
theorem pq1468 : Cond.static yX7_top ∈ pw := pw_mem (i := 1468) (by decide +kernel) rfl
set_option maxRecDepth 100000 in
theorem pq1469 : Cond.code yX7_top cX7_top 5 (some .long) ∈ pw := pw_mem (i := 1469) (by rfl) rfl
set_option maxHeartbeats 4000000 in
set_option maxRecDepth 100000 in
theorem s_X7_laysAll (l : Launch) (dC : Nat → ClassId) (dI : Nat → Nat → Nat) (cs : Nat → ClassId) (L : List Nat) (K G : Nat → Nat) (Q : Nat → Nat → Option Nat) (hQ : Sv L K G Q) (x0 m0 : Nat) (tx : GT) (tm : GT × Int) (sz : Nat) (I : Nat → Nat → Int32) (J : Nat → Nat → Int64) (hI : Iv L K x0 m0 tx tm I) (p0 : Nat) (hLp0 : p0 ∈ L) (hKp0 : K p0 = 7) : Met l yX7_laysAll (.code yX7_laysAll cX7_laysAll 14 none :: pw) ({ frames := 2, cells := 0, slots := 0, locals := 43 }) (sP (dC, dI) cs [.ref p0] sz L K I J Q) (va_Qv (fun (_ : Unit) => True) (fun _ t => sB (dC, dI) cs L K Q (fun I1 J1 => Iv L K x0 m0 tx tm I1 ∧ I1 = I ∧ (∀ c : Fx, okF c → rI Q I p0 c → rJ Q J p0 c → ldA Q J1 p0 c) ∧ (∀ b, ¬ (K b = 25) → J1 b = J b)) t) (fun q => q ∈ L ∨ sz ≤ q)) 0 0 (fun q => q ∈ L ∨ sz ≤ q) := by
  refine Met.ofW (cc := cX7_laysAll) (maxL := 14) (ret := none) (by decide +kernel) rfl ?_
  intro p e s m args below meth c s₁ B hml hv
  obtain ⟨rfl, hsz, hP, hK, hD0, hN⟩ := hv
  have hx := B.exec
  have hb := B.bytes
  have hr := B.returns
  have hts := fun w (h : w ∈ pw) => atoms_spec (ws := Cond.code yX7_laysAll cX7_laysAll 14 none :: pw) B.pre w (List.mem_cons_of_mem _ h)
  have hown : s.vm.findClass RX7 = some m.cls := findClass_of_methodNamed B.named
  have hlocks := B.notSynchronized
  subst hsz
  have hBB : 999 ≤ tm.2 ∧ tm.2 ≤ 6000000 := hI.2.2.2.2.1
  have dj_J : (∀ b, ¬ (K b = 25) → J b = J b) := fun _ _ => rfl
  obtain ⟨A, hAe⟩ : ∃ A : Nat → Prop, A = (fun q => q ∈ L ∨ s.heap.size ≤ q) := ⟨_, rfl⟩
  rw [← hAe]
  have hAL : ∀ q, q ∈ L → A q := fun q h => by rw [hAe]; exact Or.inl h
  have hA : ∀ q, s.heap.size ≤ q → A q := fun q h => by rw [hAe]; exact Or.inr h
  have hD : ∀ F, va_D A (va_pl L F) := fun F => (hD0 F).weaken (fun k q hk _ => hAL _ (pl_mem hk))
  obtain ⟨H, hHe⟩ : ∃ H : Heap, H = s.heap := ⟨_, rfl⟩
  have hS : va_S A s.heap H [] := by rw [hHe]; exact va_S.rf
  rw [← hHe] at hP
  have hl := lv_entry ([.ref p0]) (n := 14) (Nat.le_of_ble_eq_true rfl)
  rw [lg_entry_eq]
  generalize (lg_sl ([.ref p0]) ++ List.replicate (14 - (lg_sl ([.ref p0])).length) Slot.unset).toArray = ls at hl ⊢
  have hl : lv_has ls 14 [(0, .ref p0)] := hl
  rw [← hHe]
  refine namedW (fun R Qz hR hQz => ?_)
  refine lv_iconst (v := 0) hx hb dX7_laysAll_0 (by decide +kernel) ?_
  refine lv_istore_n (lv' := [(1, .int 0), (0, .ref p0)]) hx hb dX7_laysAll_1 rfl hl (by decide) rfl (fun ls hl => ?_)
  have key2 := blocks (fun n => ∀ (v2_1 : Int32) (J2 : Nat → Nat → Int64) (H : Heap) (lo : List Loc) (ls : Array Slot), (11 - v2_1.toInt).toNat = n → ((0) ≤ v2_1.toInt ∧ v2_1.toInt ≤ 10) → (∀ b, ¬ (K b = 25) → J2 b = J b) → (∀ c : Fx, okF c → rI Q I p0 c → rJ Q J p0 c → ∀ b : Nat, b < v2_1.toInt.toNat → b < (c.1 1).toInt.toNat → ∀ k : Nat, (k : Int) < 2 * (bh_ c b).toInt → J2 (a0 Q p0 17) (80 * b + k) = mkw (shp c b) k) → va_P (dC, dI) vwCl (Wd cs L K I J2 Q) H → va_S A s.heap H lo → lv_has ls 14 [(0, .ref p0), (1, .int v2_1)] → W p l e R s m (([.ref p0] : List Value).toArray) below meth c H lo 0 0 Qz (F0 m 2 ls [])) (by
    intro n ih2
    intro v2_1 J2 H lo ls hmu2 bv2_1 dj_J2 h2 hP hS hl
    refine lv_iload_n hx hb dX7_laysAll_2 rfl (lv_at hl 1 rfl) ?_
    refine lv_aload_n hx hb dX7_laysAll_3 rfl (lv_at hl 0 rfl) ?_
    obtain ⟨y4, ey4, hLy4, hKy4⟩ := oQ_7_0 (Sv_at hQ hLp0 hKp0)
    refine p_get (v := .ref y4) hx hb hts inX7 hown hK hP hLp0 hKp0 rfl rfl 0 (by decide) (hts _ pq1115) (congrArg (fun q => some (va_rf q)) ey4) dX7_laysAll_4 ?_
    refine lv_iconst (v := 1) hx hb dX7_laysAll_7 (by decide +kernel) ?_
    refine p_iald hx hb hK hP 8 hLy4 hKy4 rfl rfl (in_d (by decide +kernel)) dX7_laysAll_8 ?_
    refine lv_topi (fun z8 ez8 => ?_)
    have bz8 := rng1 (oR_18 (i := (1 : Int32)) (k := (1)) (by decide +kernel) (Iv_at hI hLy4 hKy4))
    rw [← ez8] at bz8
    refine lv_icmp_ge (tgt := 245) hx hb dX7_laysAll_9 (by decide) (fun c9 => ?_) (fun c9 => ?_)
    · have t9 := tq_le (k := z8.toInt) (q := v2_1.toInt) c9 rfl rfl
      subst hR; subst hQz
      exact W.vret hx hb hr (fun t ht hW => ⟨⟨(), rfl, trivial, ⟨I, J2, ⟨hI, rfl, (fun c ok h hj b hb k hk => by have n : z8 = c.1 1 := (show z8 = I (a0 Q p0 0) 1 from by rw [ez8, show a0 Q p0 0 = y4 from gd_of ey4]; rfl).trans (h _ (by decide)); exact h2 c ok h hj b (by rw [← n] at hb; omega) hb k hk), dj_J2⟩, by rw [ht]; exact hP⟩⟩, hS.F ht⟩) hS.2.2 dX7_laysAll_245
    · have t9 := tq_nle (k := z8.toInt) (q := v2_1.toInt) c9 rfl rfl
      refine lv_aload_n hx hb dX7_laysAll_12 rfl (lv_at hl 0 rfl) ?_
      refine lv_iload_n hx hb dX7_laysAll_13 rfl (lv_at hl 1 rfl) ?_
      refine ro_i (va_runV (As := [.int v2_1]) (rest := []) ⟨hx, hb, hml, hown, hts⟩ (s_X7_maskOf l dC dI cs L K G Q hQ x0 m0 tx tm H.size I J2 hI p0 hLp0 hKp0 v2_1 ⟨by omega, by omega⟩) (cwV 1 hts (gV pq1431 pq1433 pq41 pq81 pq1434) rfl rfl rfl (by decide +kernel) ⟨(by rw [hR]; exact (Nat.le_of_ble_eq_true rfl)), (by rw [hR]; exact (Nat.le_of_ble_eq_true rfl))⟩) (sP_V hP hD hK hN hLp0 hKp0 rfl rfl) rfl rfl hl.1 rfl (lv_room (Nat.le_of_ble_eq_true rfl)) dX7_laysAll_14 ⟨(by rw [hR]; exact (Nat.le_of_ble_eq_true rfl)), (by rw [hR]; exact (Nat.le_of_ble_eq_true rfl))⟩) hS hP (fun z14 H locs hz14 hP hS => ?_)
      obtain ⟨bz14, fez14⟩ := hz14
      refine lv_istore_n (lv' := [(2, .int z14), (0, .ref p0), (1, .int v2_1)]) hx hb dX7_laysAll_17 rfl hl (by decide) rfl (fun ls hl => ?_)
      refine lv_aload_n hx hb dX7_laysAll_18 rfl (lv_at hl 1 rfl) ?_
      refine lv_iload_n hx hb dX7_laysAll_19 rfl (lv_at hl 2 rfl) ?_
      refine lv_iconst (v := 3) hx hb dX7_laysAll_20 (by decide +kernel) ?_
      refine ro_i (va_runV (As := [.int v2_1, .int 3]) (rest := []) ⟨hx, hb, hml, hown, hts⟩ (s_X7_of l dC dI cs L K G Q hQ x0 m0 tx tm H.size I J2 hI p0 hLp0 hKp0 v2_1 ⟨by omega, by omega⟩ 3 ⟨by decide +kernel, by decide +kernel⟩) (cwV 2 hts (gV pq1320 pq1322 pq25 pq81 pq1323) rfl rfl rfl (by decide +kernel) ⟨(by rw [hR]; exact (Nat.le_of_ble_eq_true rfl)), (by rw [hR]; exact (Nat.le_of_ble_eq_true rfl))⟩) (sP_V hP hD hK hN hLp0 hKp0 rfl rfl) rfl rfl hl.1 rfl (lv_room (Nat.le_of_ble_eq_true rfl)) dX7_laysAll_21 ⟨(by rw [hR]; exact (Nat.le_of_ble_eq_true rfl)), (by rw [hR]; exact (Nat.le_of_ble_eq_true rfl))⟩) hS hP (fun z21 H locs hz21 hP hS => ?_)
      have cst21_3 : (3 : Int32).toInt = 3 := by decide +kernel
      obtain ⟨fez21, xpz21⟩ := hz21
      refine lv_istore_n (lv' := [(3, .int z21), (2, .int z14), (0, .ref p0), (1, .int v2_1)]) hx hb dX7_laysAll_24 rfl hl (by decide) rfl (fun ls hl => ?_)
      refine lv_iconst (v := 0) hx hb dX7_laysAll_25 (by decide +kernel) ?_
      refine lv_istore (lv' := [(4, .int 0), (3, .int z21), (2, .int z14), (0, .ref p0), (1, .int v2_1)]) hx hb dX7_laysAll_26 hl (by decide) rfl (fun ls hl => ?_)
      have key28 := blocks (fun n => ∀ (v28_4 : Int32) (J28 : Nat → Nat → Int64) (H : Heap) (lo : List Loc) (ls : Array Slot), (41 - v28_4.toInt).toNat = n → ((0) ≤ v28_4.toInt ∧ v28_4.toInt ≤ 40) → (∀ b, ¬ (K b = 25) → J28 b = J b) → (∀ c : Fx, okF c → rI Q I p0 c → rJ Q J p0 c → ∀ b : Nat, b < v2_1.toInt.toNat → b < (c.1 1).toInt.toNat → ∀ k : Nat, (k : Int) < 2 * (bh_ c b).toInt → J28 (a0 Q p0 17) (80 * b + k) = mkw (shp c b) k) → (∀ c : Fx, okF c → rI Q I p0 c → rJ Q J p0 c → v2_1.toInt.toNat < (c.1 1).toInt.toNat → ∀ k : Nat, (k : Int) < 2 * v28_4.toInt → (k : Int) < 2 * (bh_ c v2_1.toInt.toNat).toInt → J28 (a0 Q p0 17) (80 * v2_1.toInt.toNat + k) = mkw (shp c v2_1.toInt.toNat) k) → va_P (dC, dI) vwCl (Wd cs L K I J28 Q) H → va_S A s.heap H lo → lv_has ls 14 [(0, .ref p0), (1, .int v2_1), (2, .int z14), (3, .int z21), (4, .int v28_4)] → W p l e R s m (([.ref p0] : List Value).toArray) below meth c H lo 0 0 Qz (F0 m 28 ls [])) (by
        intro n ih28
        intro v28_4 J28 H lo ls hmu28 bv28_4 dj_J28 h28a h28 hP hS hl
        refine lv_iload hx hb dX7_laysAll_28 (lv_at hl 4 rfl) ?_
        refine lv_aload_n hx hb dX7_laysAll_30 rfl (lv_at hl 0 rfl) ?_
        refine lv_iload_n hx hb dX7_laysAll_31 rfl (lv_at hl 2 rfl) ?_
        refine ro_i (va_runV (As := [.int z14]) (rest := [.int v28_4]) ⟨hx, hb, hml, hown, hts⟩ (s_X7_high l dC dI cs L K G Q hQ x0 m0 tx tm H.size I J28 hI p0 hLp0 hKp0 z14 ⟨by omega, by omega⟩) (cwV 1 hts (gV pq1372 pq1374 pq33 pq81 pq1375) rfl rfl rfl (by decide +kernel) ⟨(by rw [hR]; exact (Nat.le_of_ble_eq_true rfl)), (by rw [hR]; exact (Nat.le_of_ble_eq_true rfl))⟩) (sP_V hP hD hK hN hLp0 hKp0 rfl rfl) rfl rfl hl.1 rfl (lv_room (Nat.le_of_ble_eq_true rfl)) dX7_laysAll_32 ⟨(by rw [hR]; exact (Nat.le_of_ble_eq_true rfl)), (by rw [hR]; exact (Nat.le_of_ble_eq_true rfl))⟩) hS hP (fun z32 H locs hz32 hP hS => ?_)
        obtain ⟨bz32, fez32⟩ := hz32
        refine lv_icmp_ge (tgt := 239) hx hb dX7_laysAll_35 (by decide) (fun c35 => ?_) (fun c35 => ?_)
        · have t35 := tq_le (k := z32.toInt) (q := v28_4.toInt) c35 rfl rfl
          obtain ⟨z239, ez239⟩ : ∃ y : Int32, y = v2_1 + 1 := ⟨_, rfl⟩
          refine lv_iinc (v := z239) (lv' := [(1, .int z239), (0, .ref p0), (2, .int z14), (3, .int z21), (4, .int v28_4)]) hx hb dX7_laysAll_239 hl (k := 1) rfl (by rw [ez239]; rfl) (by decide) rfl (fun ls hl => ?_)
          have bz239 := tq_add (k := v2_1.toInt) (q := 1) ez239 rfl (by decide +kernel) (by omega) (by omega)
          refine lv_goto (tgt := 2) hx hb dX7_laysAll_242 (by decide) ?_
          exact ih2 _ (by omega) z239 J28 _ _ _ rfl ⟨by omega, by omega⟩ dj_J28 (fun c ok h hj b hb hN k hk => by by_cases q : b < v2_1.toInt.toNat; (exact h28a c ok h hj b q hN k hk); (obtain rfl : b = v2_1.toInt.toNat := (by omega); have em : z14 = c.1 (19 + 8 * v2_1.toInt.toNat) := (show z14 = I (a0 Q p0 0) (19 + 8 * v2_1.toInt.toNat) from fez14).trans (h _ (by omega)); have ef : z21 = c.1 (19 + 8 * v2_1.toInt.toNat + 3) := (show z21 = I (a0 Q p0 0) (19 + 8 * v2_1.toInt.toNat + 3) from fez21).trans (h _ (by omega)); have eh : z32 = bh_ c v2_1.toInt.toNat := (show z32 = I (a0 Q p0 0) (11 + z14.toInt.toNat) from fez32).trans ((h _ (by omega)).trans (by unfold bh_; rw [em])); have ew : I (a0 Q p0 0) (3 + z14.toInt.toNat) = bw_ c v2_1.toInt.toNat := (h _ (by omega)).trans (by unfold bw_; rw [em]); exact h28 c ok h hj hN k (by rw [← eh] at hk; omega) hk)) hP hS (lv_sub hl [1, 0] rfl)
        · have t35 := tq_nle (k := z32.toInt) (q := v28_4.toInt) c35 rfl rfl
          refine lv_bipush (v := 80) hx hb dX7_laysAll_38 (by decide +kernel) ?_
          refine lv_iload_n hx hb dX7_laysAll_40 rfl (lv_at hl 2 rfl) ?_
          refine lv_imul hx hb dX7_laysAll_41 ?_
          refine lv_topi (fun z41 ez41 => ?_)
          have bz41 := tq_mul (k := (80)) (q := z14.toInt) ez41 (by decide +kernel) rfl (by omega) (by omega)
          refine lv_iconst (v := 2) hx hb dX7_laysAll_42 (by decide +kernel) ?_
          refine lv_iload_n hx hb dX7_laysAll_43 rfl (lv_at hl 3 rfl) ?_
          refine lv_iconst (v := 1) hx hb dX7_laysAll_44 (by decide +kernel) ?_
          have j63 : ∀ (w63_2 : Int32) (H : Heap) (lo : List Loc) (ls : Array Slot), ((0) ≤ w63_2.toInt ∧ w63_2.toInt ≤ 39) → w63_2.toInt = fly z32.toInt z21.toInt v28_4.toInt → va_P (dC, dI) vwCl (Wd cs L K I J28 Q) H → va_S A s.heap H lo → lv_has ls 14 [(0, .ref p0), (1, .int v2_1), (2, .int z14), (3, .int z21), (4, .int v28_4)] → W p l e R s m (([.ref p0] : List Value).toArray) below meth c H lo 0 0 Qz (F0 m 63 ls [.int w63_2, .int 2, .int z41]) := by
            intro w63_2 H lo ls bw63_2 h63 hP hS hl
            refine lv_imul hx hb dX7_laysAll_63 ?_
            refine lv_topi (fun z63 ez63 => ?_)
            have bz63 := tq_mul (k := (2)) (q := w63_2.toInt) ez63 (by decide +kernel) rfl (by omega) (by omega)
            refine lv_iadd hx hb dX7_laysAll_64 ?_
            refine lv_topi (fun z64 ez64 => ?_)
            have bz64 := tq_add (k := z41.toInt) (q := z63.toInt) ez64 rfl rfl (by omega) (by omega)
            refine lv_istore (lv' := [(5, .int z64), (0, .ref p0), (1, .int v2_1), (2, .int z14), (3, .int z21), (4, .int v28_4)]) hx hb dX7_laysAll_65 hl (by decide) rfl (fun ls hl => ?_)
            refine lv_aload_n hx hb dX7_laysAll_67 rfl (lv_at hl 1 rfl) ?_
            obtain ⟨y68, ey68, hLy68, hKy68⟩ := oQ_7_5 (Sv_at hQ hLp0 hKp0)
            refine p_get (v := .ref y68) hx hb hts inX7 hown hK hP hLp0 hKp0 rfl rfl 5 (by decide) (hts _ pq1120) (congrArg (fun q => some (va_rf q)) ey68) dX7_laysAll_68 ?_
            refine lv_iload hx hb dX7_laysAll_71 (lv_at hl 0 rfl) ?_
            refine p_lald hx hb hK hP 11 hLy68 hKy68 rfl rfl (in_of (by omega) (by omega)) dX7_laysAll_73 ?_
            refine lv_topl (fun z73 ez73 => ?_)
            refine lv_lstore (lv' := [(6, .long z73), (5, .int z64), (0, .ref p0), (1, .int v2_1), (2, .int z14), (3, .int z21), (4, .int v28_4)]) hx hb dX7_laysAll_74 hl (by decide) rfl (fun ls hl => ?_)
            refine lv_aload_n hx hb dX7_laysAll_76 rfl (lv_at hl 2 rfl) ?_
            refine p_get (v := .ref y68) hx hb hts inX7 hown hK hP hLp0 hKp0 rfl rfl 5 (by decide) (hts _ pq1120) (congrArg (fun q => some (va_rf q)) ey68) dX7_laysAll_77 ?_
            refine lv_iload hx hb dX7_laysAll_80 (lv_at hl 1 rfl) ?_
            refine lv_iconst (v := 1) hx hb dX7_laysAll_82 (by decide +kernel) ?_
            refine lv_iadd hx hb dX7_laysAll_83 ?_
            refine lv_topi (fun z83 ez83 => ?_)
            have bz83 := tq_add (k := z64.toInt) (q := (1)) ez83 rfl (by decide +kernel) (by omega) (by omega)
            refine p_lald hx hb hK hP 11 hLy68 hKy68 rfl rfl (in_of (by omega) (by omega)) dX7_laysAll_84 ?_
            refine lv_topl (fun z84 ez84 => ?_)
            refine lv_lstore (lv' := [(8, .long z84), (6, .long z73), (5, .int z64), (0, .ref p0), (1, .int v2_1), (2, .int z14), (3, .int z21), (4, .int v28_4)]) hx hb dX7_laysAll_85 hl (by decide) rfl (fun ls hl => ?_)
            have hj68 : ∀ c : Fx, rJ Q J p0 c → ∀ k, k < 640 → J28 y68 k = c.2 k := fun c hj k hk => by rw [dj_J28 y68 (by have := hKy68; omega), ← show a0 Q p0 5 = y68 from gd_of ey68]; exact hj k hk
            refine lv_iload_n hx hb dX7_laysAll_87 rfl (lv_at hl 6 rfl) ?_
            refine lv_iconst (v := 2) hx hb dX7_laysAll_88 (by decide +kernel) ?_
            refine lv_irem hx hb dX7_laysAll_89 (by decide +kernel) ?_
            refine lv_topi (fun z89 ez89 => ?_)
            refine lv_iconst (v := 1) hx hb dX7_laysAll_90 (by decide +kernel) ?_
            have j199 : ∀ (v199_6 : Int64) (v199_8 : Int64) (H : Heap) (lo : List Loc) (ls : Array Slot), ((z89.toInt = 1 → ∀ X : Int, dt v199_6 v199_8 X = (decide (0 ≤ X ∧ X < (I (a0 Q p0 0) (3 + z14.toInt.toNat)).toInt) && md (mo (J28 y68) z14.toInt.toNat) ((I (a0 Q p0 0) (3 + z14.toInt.toNat)).toInt - 1 - X) w63_2.toInt)) ∧ (¬ z89.toInt = 1 → ∀ X : Int, dt v199_6 v199_8 X = md (mo (J28 y68) z14.toInt.toNat) X w63_2.toInt)) → va_P (dC, dI) vwCl (Wd cs L K I J28 Q) H → va_S A s.heap H lo → lv_has ls 14 [(0, .ref p0), (1, .int v2_1), (2, .int z14), (3, .int z21), (4, .int v28_4), (5, .int z64), (6, .long v199_6), (8, .long v199_8)] → W p l e R s m (([.ref p0] : List Value).toArray) below meth c H lo 0 0 Qz (F0 m 199 ls []) := by
              intro v199_6 v199_8 H lo ls h199 hP hS hl
              refine lv_aload_n hx hb dX7_laysAll_199 rfl (lv_at hl 0 rfl) ?_
              obtain ⟨y200, ey200, hLy200, hKy200⟩ := oQ_7_17 (Sv_at hQ hLp0 hKp0)
              refine p_get (v := .ref y200) hx hb hts inX7 hown hK hP hLp0 hKp0 rfl rfl 17 (by decide) (hts _ pq1132) (congrArg (fun q => some (va_rf q)) ey200) dX7_laysAll_200 ?_
              refine lv_bipush (v := 80) hx hb dX7_laysAll_203 (by decide +kernel) ?_
              refine lv_iload_n hx hb dX7_laysAll_205 rfl (lv_at hl 1 rfl) ?_
              refine lv_imul hx hb dX7_laysAll_206 ?_
              refine lv_topi (fun z206 ez206 => ?_)
              have bz206 := tq_mul (k := (80)) (q := v2_1.toInt) ez206 (by decide +kernel) rfl (by omega) (by omega)
              refine lv_iconst (v := 2) hx hb dX7_laysAll_207 (by decide +kernel) ?_
              refine lv_iload hx hb dX7_laysAll_208 (lv_at hl 4 rfl) ?_
              refine lv_imul hx hb dX7_laysAll_210 ?_
              refine lv_topi (fun z210 ez210 => ?_)
              have bz210 := tq_mul (k := (2)) (q := v28_4.toInt) ez210 (by decide +kernel) rfl (by omega) (by omega)
              refine lv_iadd hx hb dX7_laysAll_211 ?_
              refine lv_topi (fun z211 ez211 => ?_)
              have bz211 := tq_add (k := z206.toInt) (q := z210.toInt) ez211 rfl rfl (by omega) (by omega)
              refine lv_lload hx hb dX7_laysAll_212 (lv_at hl 6 rfl) ?_
              refine p_last hx hb hK hP hD hS 15 hLy200 hKy200 rfl (fun _ => rfl) rfl (in_of (by omega) (by omega)) dX7_laysAll_214 (fun H locs hP hS => ?_)
              obtain ⟨Jz214, hP, qJz214⟩ : ∃ Jz214, va_P (dC, dI) vwCl (Wd cs L K I Jz214 Q) H ∧ Jz214 = va_up J28 y200 (vp_updL (J28 y200) z211.toNatClampNeg v199_6) := ⟨_, hP, rfl⟩
              have dj_Jz214 : (∀ b, ¬ (K b = 25) → Jz214 b = J b) := fun b hc => (congrFun qJz214 b).trans ((va_up_ne _ _ (fun z => hc (by have q := hKy200; rw [← z] at q; omega))).trans (dj_J28 b hc))
              refine lv_aload_n hx hb dX7_laysAll_215 rfl (lv_at hl 0 rfl) ?_
              refine p_get (v := .ref y200) hx hb hts inX7 hown hK hP hLp0 hKp0 rfl rfl 17 (by decide) (hts _ pq1132) (congrArg (fun q => some (va_rf q)) ey200) dX7_laysAll_216 ?_
              refine lv_bipush (v := 80) hx hb dX7_laysAll_219 (by decide +kernel) ?_
              refine lv_iload_n hx hb dX7_laysAll_221 rfl (lv_at hl 1 rfl) ?_
              refine lv_imul hx hb dX7_laysAll_222 ?_
              refine lv_topi (fun z222 ez222 => ?_)
              have bz222 := tq_mul (k := (80)) (q := v2_1.toInt) ez222 (by decide +kernel) rfl (by omega) (by omega)
              refine lv_iconst (v := 2) hx hb dX7_laysAll_223 (by decide +kernel) ?_
              refine lv_iload hx hb dX7_laysAll_224 (lv_at hl 4 rfl) ?_
              refine lv_imul hx hb dX7_laysAll_226 ?_
              refine lv_topi (fun z226 ez226 => ?_)
              have bz226 := tq_mul (k := (2)) (q := v28_4.toInt) ez226 (by decide +kernel) rfl (by omega) (by omega)
              refine lv_iadd hx hb dX7_laysAll_227 ?_
              refine lv_topi (fun z227 ez227 => ?_)
              have bz227 := tq_add (k := z222.toInt) (q := z226.toInt) ez227 rfl rfl (by omega) (by omega)
              refine lv_iconst (v := 1) hx hb dX7_laysAll_228 (by decide +kernel) ?_
              refine lv_iadd hx hb dX7_laysAll_229 ?_
              refine lv_topi (fun z229 ez229 => ?_)
              have bz229 := tq_add (k := z227.toInt) (q := (1)) ez229 rfl (by decide +kernel) (by omega) (by omega)
              refine lv_lload hx hb dX7_laysAll_230 (lv_at hl 7 rfl) ?_
              refine p_last hx hb hK hP hD hS 15 hLy200 hKy200 rfl (fun _ => rfl) rfl (in_of (by omega) (by omega)) dX7_laysAll_232 (fun H locs hP hS => ?_)
              obtain ⟨Jz232, hP, qJz232⟩ : ∃ Jz232, va_P (dC, dI) vwCl (Wd cs L K I Jz232 Q) H ∧ Jz232 = va_up Jz214 y200 (vp_updL (Jz214 y200) z229.toNatClampNeg v199_8) := ⟨_, hP, rfl⟩
              have dj_Jz232 : (∀ b, ¬ (K b = 25) → Jz232 b = J b) := fun b hc => (congrFun qJz232 b).trans ((va_up_ne _ _ (fun z => hc (by have q := hKy200; rw [← z] at q; omega))).trans (dj_Jz214 b hc))
              obtain ⟨z233, ez233⟩ : ∃ y : Int32, y = v28_4 + 1 := ⟨_, rfl⟩
              refine lv_iinc (v := z233) (lv' := [(4, .int z233), (0, .ref p0), (1, .int v2_1), (2, .int z14), (3, .int z21), (5, .int z64), (6, .long v199_6), (8, .long v199_8)]) hx hb dX7_laysAll_233 hl (k := 4) rfl (by rw [ez233]; rfl) (by decide) rfl (fun ls hl => ?_)
              have bz233 := tq_add (k := v28_4.toInt) (q := 1) ez233 rfl (by decide +kernel) (by omega) (by omega)
              refine lv_goto (tgt := 28) hx hb dX7_laysAll_236 (by decide) ?_
              exact ih28 _ (by omega) z233 Jz232 _ _ _ rfl ⟨by omega, by omega⟩ dj_Jz232 (fun c ok h hj b hb hN k hk => by rw [show a0 Q p0 17 = y200 from gd_of ey200, qJz232, va_up_self, qJz214, va_up_self]; unfold vp_updL; rw [if_neg (by show ¬ 80 * b + k = z229.toInt.toNat; have := (bh40 ok hN).2; omega), if_neg (by show ¬ 80 * b + k = z211.toInt.toNat; have := (bh40 ok hN).2; omega), ← show a0 Q p0 17 = y200 from gd_of ey200]; exact h28a c ok h hj b hb hN k hk) (fun c ok h hj hN k hk hk2 => by have em : z14 = c.1 (19 + 8 * v2_1.toInt.toNat) := (show z14 = I (a0 Q p0 0) (19 + 8 * v2_1.toInt.toNat) from fez14).trans (h _ (by omega)); have ef : z21 = c.1 (19 + 8 * v2_1.toInt.toNat + 3) := (show z21 = I (a0 Q p0 0) (19 + 8 * v2_1.toInt.toNat + 3) from fez21).trans (h _ (by omega)); have eh : z32 = bh_ c v2_1.toInt.toNat := (show z32 = I (a0 Q p0 0) (11 + z14.toInt.toNat) from fez32).trans ((h _ (by omega)).trans (by unfold bh_; rw [em])); have ew : I (a0 Q p0 0) (3 + z14.toInt.toNat) = bw_ c v2_1.toInt.toNat := (h _ (by omega)).trans (by unfold bw_; rw [em]); have rw_ := ly_row ok hN (y := v28_4.toInt.toNat) (by rw [← eh]; omega) (hj68 c hj) em ef ew eh (by rw [show ((v28_4.toInt.toNat : Nat) : Int) = v28_4.toInt by omega]; exact h63) (by have bf := (ok.2.2.2 _ hN).2.2.2.1; rw [← ef] at bf; have er : z89.toInt = z21.toInt % 2 := tq_rem ez89 (by decide +kernel) (by decide) bf.1; exact ⟨fun q => h199.1 (by rw [er]; exact q), fun q => h199.2 (by rw [er]; exact q)⟩); rw [show a0 Q p0 17 = y200 from gd_of ey200, qJz232, va_up_self, qJz214, va_up_self]; unfold vp_updL; by_cases q1 : k = 2 * v28_4.toInt.toNat + 1; (rw [if_pos (by show 80 * v2_1.toInt.toNat + k = z229.toInt.toNat; omega), q1]; exact rw_.2); (rw [if_neg (by show ¬ 80 * v2_1.toInt.toNat + k = z229.toInt.toNat; omega)]; by_cases q0 : k = 2 * v28_4.toInt.toNat; (rw [if_pos (by show 80 * v2_1.toInt.toNat + k = z211.toInt.toNat; omega), q0]; exact rw_.1); (rw [if_neg (by show ¬ 80 * v2_1.toInt.toNat + k = z211.toInt.toNat; omega), ← show a0 Q p0 17 = y200 from gd_of ey200]; exact h28 c ok h hj hN k (by omega) hk2))) hP hS (lv_sub hl [1, 2, 3, 4, 0] rfl)
            refine lv_icmp_ne (tgt := 199) hx hb dX7_laysAll_91 (by decide) (fun c91 => ?_) (fun c91 => ?_)
            · have t91 := tq_ne (k := z89.toInt) (q := (1)) c91 rfl (by decide +kernel)
              exact j199 z73 z84 _ _ _ ⟨fun q => absurd q t91, fun _ X => by have q := md_row (f := (mo (J28 y68) z14.toInt.toNat)) (r := w63_2.toInt.toNat) (a := z73) (b := z84) (by omega) (by rw [ez73]; unfold mo; congr 1; show z64.toInt.toNat = _; omega) (by rw [ez84]; unfold mo; congr 1; show z83.toInt.toNat = _; omega) X; rw [show ((w63_2.toInt.toNat : Nat) : Int) = w63_2.toInt by omega] at q; exact q.symm⟩ hP hS (lv_sub hl [3, 4, 5, 6, 7, 2, 1, 0] rfl)
            · have t91 := tq_eq (k := z89.toInt) (q := (1)) c91 rfl (by decide +kernel)
              refine lv_lconst (v := 0) hx hb dX7_laysAll_94 (by decide +kernel) ?_
              refine lv_lstore (lv' := [(6, .long 0), (8, .long z84), (5, .int z64), (0, .ref p0), (1, .int v2_1), (2, .int z14), (3, .int z21), (4, .int v28_4)]) hx hb dX7_laysAll_95 hl (by decide) rfl (fun ls hl => ?_)
              refine lv_lconst (v := 0) hx hb dX7_laysAll_97 (by decide +kernel) ?_
              refine lv_lstore (lv' := [(8, .long 0), (6, .long 0), (5, .int z64), (0, .ref p0), (1, .int v2_1), (2, .int z14), (3, .int z21), (4, .int v28_4)]) hx hb dX7_laysAll_98 hl (by decide) rfl (fun ls hl => ?_)
              refine lv_iconst (v := 0) hx hb dX7_laysAll_100 (by decide +kernel) ?_
              refine lv_istore (lv' := [(10, .int 0), (8, .long 0), (6, .long 0), (5, .int z64), (0, .ref p0), (1, .int v2_1), (2, .int z14), (3, .int z21), (4, .int v28_4)]) hx hb dX7_laysAll_101 hl (by decide) rfl (fun ls hl => ?_)
              have key103 := blocks (fun n => ∀ (v103_10 : Int32) (v103_6 : Int64) (v103_8 : Int64) (H : Heap) (lo : List Loc) (ls : Array Slot), (101 - v103_10.toInt).toNat = n → ((0) ≤ v103_10.toInt ∧ v103_10.toInt ≤ 100) → rvI (I (a0 Q p0 0) (3 + z14.toInt.toNat)).toInt (fun X => md (mo (J28 y68) z14.toInt.toNat) X w63_2.toInt) v103_6 v103_8 v103_10.toInt → va_P (dC, dI) vwCl (Wd cs L K I J28 Q) H → va_S A s.heap H lo → lv_has ls 14 [(0, .ref p0), (1, .int v2_1), (2, .int z14), (3, .int z21), (4, .int v28_4), (5, .int z64), (6, .long v103_6), (8, .long v103_8), (10, .int v103_10)] → W p l e R s m (([.ref p0] : List Value).toArray) below meth c H lo 0 0 Qz (F0 m 103 ls [])) (by
                intro n ih103
                intro v103_10 v103_6 v103_8 H lo ls hmu103 bv103_10 h103 hP hS hl
                refine lv_iload hx hb dX7_laysAll_103 (lv_at hl 8 rfl) ?_
                refine lv_aload_n hx hb dX7_laysAll_105 rfl (lv_at hl 0 rfl) ?_
                refine lv_iload_n hx hb dX7_laysAll_106 rfl (lv_at hl 2 rfl) ?_
                refine ro_i (va_runV (As := [.int z14]) (rest := [.int v103_10]) ⟨hx, hb, hml, hown, hts⟩ (s_X7_wide l dC dI cs L K G Q hQ x0 m0 tx tm H.size I J28 hI p0 hLp0 hKp0 z14 ⟨by omega, by omega⟩) (cwV 1 hts (gV pq1368 pq1370 pq32 pq81 pq1371) rfl rfl rfl (by decide +kernel) ⟨(by rw [hR]; exact (Nat.le_of_ble_eq_true rfl)), (by rw [hR]; exact (Nat.le_of_ble_eq_true rfl))⟩) (sP_V hP hD hK hN hLp0 hKp0 rfl rfl) rfl rfl hl.1 rfl (lv_room (Nat.le_of_ble_eq_true rfl)) dX7_laysAll_107 ⟨(by rw [hR]; exact (Nat.le_of_ble_eq_true rfl)), (by rw [hR]; exact (Nat.le_of_ble_eq_true rfl))⟩) hS hP (fun z107 H locs hz107 hP hS => ?_)
                obtain ⟨bz107, fez107⟩ := hz107
                have lw : z107.toInt = (I (a0 Q p0 0) (3 + z14.toInt.toNat)).toInt := congrArg Int32.toInt (show z107 = I (a0 Q p0 0) (3 + z14.toInt.toNat) from fez107)
                refine lv_icmp_ge (tgt := 199) hx hb dX7_laysAll_110 (by decide) (fun c110 => ?_) (fun c110 => ?_)
                · have t110 := tq_le (k := z107.toInt) (q := v103_10.toInt) c110 rfl rfl
                  exact j199 v103_6 v103_8 _ _ _ ⟨fun _ X => rvI_e h103 (by rw [← lw]; omega) X, fun q => absurd t91 q⟩ hP hS (lv_sub hl [0, 1, 2, 3, 4, 5, 6, 7] rfl)
                · have t110 := tq_nle (k := z107.toInt) (q := v103_10.toInt) c110 rfl rfl
                  refine lv_aload_n hx hb dX7_laysAll_113 rfl (lv_at hl 0 rfl) ?_
                  refine p_get (v := .ref y68) hx hb hts inX7 hown hK hP hLp0 hKp0 rfl rfl 5 (by decide) (hts _ pq1120) (congrArg (fun q => some (va_rf q)) ey68) dX7_laysAll_114 ?_
                  refine lv_iload hx hb dX7_laysAll_117 (lv_at hl 5 rfl) ?_
                  refine lv_iload hx hb dX7_laysAll_119 (lv_at hl 8 rfl) ?_
                  refine lv_bipush (v := 64) hx hb dX7_laysAll_121 (by decide +kernel) ?_
                  refine lv_idiv hx hb dX7_laysAll_123 (by decide +kernel) ?_
                  refine lv_topi (fun z123 ez123 => ?_)
                  have bz123 := tq_div (k := 64) ez123 (by decide +kernel) (by omega) (by omega)
                  refine lv_iadd hx hb dX7_laysAll_124 ?_
                  refine lv_topi (fun z124 ez124 => ?_)
                  have bz124 := tq_add (k := z64.toInt) (q := z123.toInt) ez124 rfl rfl (by omega) (by omega)
                  refine p_lald hx hb hK hP 11 hLy68 hKy68 rfl rfl (in_of (by omega) (by omega)) dX7_laysAll_125 ?_
                  refine lv_topl (fun z125 ez125 => ?_)
                  refine lv_iload hx hb dX7_laysAll_126 (lv_at hl 8 rfl) ?_
                  refine lv_bipush (v := 64) hx hb dX7_laysAll_128 (by decide +kernel) ?_
                  refine lv_irem hx hb dX7_laysAll_130 (by decide +kernel) ?_
                  refine lv_topi (fun z130 ez130 => ?_)
                  have bz130 := tq_rem (k := 64) ez130 (by decide +kernel) (by omega) (by omega)
                  refine lv_lshr hx hb dX7_laysAll_131 rfl ?_
                  refine lv_topl (fun z131 ez131 => ?_)
                  refine lv_lconst (v := 1) hx hb dX7_laysAll_132 (by decide +kernel) ?_
                  refine lv_land hx hb dX7_laysAll_133 ?_
                  refine lv_topl (fun z133 ez133 => ?_)
                  refine lv_lstore (lv' := [(11, .long z133), (0, .ref p0), (1, .int v2_1), (2, .int z14), (3, .int z21), (4, .int v28_4), (5, .int z64), (6, .long v103_6), (8, .long v103_8), (10, .int v103_10)]) hx hb dX7_laysAll_134 hl (by decide) rfl (fun ls hl => ?_)
                  refine lv_aload_n hx hb dX7_laysAll_136 rfl (lv_at hl 1 rfl) ?_
                  refine lv_iload_n hx hb dX7_laysAll_137 rfl (lv_at hl 3 rfl) ?_
                  refine ro_i (va_runV (As := [.int z14]) (rest := []) ⟨hx, hb, hml, hown, hts⟩ (s_X7_wide l dC dI cs L K G Q hQ x0 m0 tx tm H.size I J28 hI p0 hLp0 hKp0 z14 ⟨by omega, by omega⟩) (cwV 1 hts (gV pq1368 pq1370 pq32 pq81 pq1371) rfl rfl rfl (by decide +kernel) ⟨(by rw [hR]; exact (Nat.le_of_ble_eq_true rfl)), (by rw [hR]; exact (Nat.le_of_ble_eq_true rfl))⟩) (sP_V hP hD hK hN hLp0 hKp0 rfl rfl) rfl rfl hl.1 rfl (lv_room (Nat.le_of_ble_eq_true rfl)) dX7_laysAll_138 ⟨(by rw [hR]; exact (Nat.le_of_ble_eq_true rfl)), (by rw [hR]; exact (Nat.le_of_ble_eq_true rfl))⟩) hS hP (fun z138 H locs hz138 hP hS => ?_)
                  obtain ⟨bz138, fez138⟩ := hz138
                  obtain rfl : z107 = z138 := fez107.trans fez138.symm
                  refine lv_iconst (v := 1) hx hb dX7_laysAll_141 (by decide +kernel) ?_
                  refine lv_isub hx hb dX7_laysAll_142 ?_
                  refine lv_topi (fun z142 ez142 => ?_)
                  have bz142 := tq_sub (k := z107.toInt) (q := (1)) ez142 rfl (by decide +kernel) (by omega) (by omega)
                  refine lv_iload hx hb dX7_laysAll_143 (lv_at hl 9 rfl) ?_
                  refine lv_isub hx hb dX7_laysAll_145 ?_
                  refine lv_topi (fun z145 ez145 => ?_)
                  have bz145 := tq_sub (k := z142.toInt) (q := v103_10.toInt) ez145 rfl rfl (by omega) (by omega)
                  refine lv_istore (lv' := [(13, .int z145), (11, .long z133), (0, .ref p0), (1, .int v2_1), (2, .int z14), (3, .int z21), (4, .int v28_4), (5, .int z64), (6, .long v103_6), (8, .long v103_8), (10, .int v103_10)]) hx hb dX7_laysAll_146 hl (by decide) rfl (fun ls hl => ?_)
                  refine lv_lload hx hb dX7_laysAll_148 (lv_at hl 8 rfl) ?_
                  refine lv_iload hx hb dX7_laysAll_150 (lv_at hl 0 rfl) ?_
                  refine lv_bipush (v := 64) hx hb dX7_laysAll_152 (by decide +kernel) ?_
                  have j166 : ∀ (w166_1 : Int64) (H : Heap) (lo : List Loc) (ls : Array Slot), ((z145.toInt < 64 → z145.toInt = z145.toInt ∧ w166_1 = z133 <<< (z145.toInt64 &&& 63)) ∧ (64 ≤ z145.toInt → w166_1 = 0)) → va_P (dC, dI) vwCl (Wd cs L K I J28 Q) H → va_S A s.heap H lo → lv_has ls 14 [(0, .ref p0), (1, .int v2_1), (2, .int z14), (3, .int z21), (4, .int v28_4), (5, .int z64), (6, .long v103_6), (8, .long v103_8), (10, .int v103_10), (11, .long z133), (13, .int z145)] → W p l e R s m (([.ref p0] : List Value).toArray) below meth c H lo 0 0 Qz (F0 m 166 ls [.long w166_1, .long v103_6]) := by
                    intro w166_1 H lo ls h166 hP hS hl
                    refine lv_lor hx hb dX7_laysAll_166 ?_
                    refine lv_topl (fun z166 ez166 => ?_)
                    refine lv_lstore (lv' := [(6, .long z166), (0, .ref p0), (1, .int v2_1), (2, .int z14), (3, .int z21), (4, .int v28_4), (5, .int z64), (8, .long v103_8), (10, .int v103_10), (11, .long z133), (13, .int z145)]) hx hb dX7_laysAll_167 hl (by decide) rfl (fun ls hl => ?_)
                    refine lv_lload hx hb dX7_laysAll_169 (lv_at hl 7 rfl) ?_
                    refine lv_iload hx hb dX7_laysAll_171 (lv_at hl 10 rfl) ?_
                    refine lv_bipush (v := 64) hx hb dX7_laysAll_173 (by decide +kernel) ?_
                    have j190 : ∀ (w190_1 : Int64) (H : Heap) (lo : List Loc) (ls : Array Slot), ((z145.toInt < 64 → w190_1 = 0) ∧ (64 ≤ z145.toInt → (z145 - 64).toInt = z145.toInt - 64 ∧ w190_1 = z133 <<< ((z145 - 64).toInt64 &&& 63))) → va_P (dC, dI) vwCl (Wd cs L K I J28 Q) H → va_S A s.heap H lo → lv_has ls 14 [(0, .ref p0), (1, .int v2_1), (2, .int z14), (3, .int z21), (4, .int v28_4), (5, .int z64), (6, .long z166), (8, .long v103_8), (10, .int v103_10), (11, .long z133), (13, .int z145)] → W p l e R s m (([.ref p0] : List Value).toArray) below meth c H lo 0 0 Qz (F0 m 190 ls [.long w190_1, .long v103_8]) := by
                      intro w190_1 H lo ls h190 hP hS hl
                      refine lv_lor hx hb dX7_laysAll_190 ?_
                      refine lv_topl (fun z190 ez190 => ?_)
                      refine lv_lstore (lv' := [(8, .long z190), (0, .ref p0), (1, .int v2_1), (2, .int z14), (3, .int z21), (4, .int v28_4), (5, .int z64), (6, .long z166), (10, .int v103_10), (11, .long z133), (13, .int z145)]) hx hb dX7_laysAll_191 hl (by decide) rfl (fun ls hl => ?_)
                      obtain ⟨z193, ez193⟩ : ∃ y : Int32, y = v103_10 + 1 := ⟨_, rfl⟩
                      refine lv_iinc (v := z193) (lv' := [(10, .int z193), (8, .long z190), (0, .ref p0), (1, .int v2_1), (2, .int z14), (3, .int z21), (4, .int v28_4), (5, .int z64), (6, .long z166), (11, .long z133), (13, .int z145)]) hx hb dX7_laysAll_193 hl (k := 8) rfl (by rw [ez193]; rfl) (by decide) rfl (fun ls hl => ?_)
                      have bz193 := tq_add (k := v103_10.toInt) (q := 1) ez193 rfl (by decide +kernel) (by omega) (by omega)
                      refine lv_goto (tgt := 103) hx hb dX7_laysAll_196 (by decide) ?_
                      exact ih103 _ (by omega) z193 z166 z190 _ _ _ rfl ⟨by omega, by omega⟩ (rvI_s h103 (by omega) ⟨by omega, by rw [← lw]; omega⟩ (by rw [← lw]; omega) (t := z145.toInt) (by rw [← lw]; omega) (fun i => by rw [b64_bit ez131 (k := (v103_10.toInt % 64).toNat) (by omega) (by omega) ez133 i]; congr 1; rw [md_bit (by omega) (by omega) (by omega) (by omega)]; unfold mo; rw [ez125]; have ei : z124.toNatClampNeg = 80 * z14.toInt.toNat + (2 * w63_2.toInt.toNat + v103_10.toInt.toNat / 64) := (by show z124.toInt.toNat = _; omega); have ej : (v103_10.toInt % 64).toNat = v103_10.toInt.toNat % 64 := (by omega); rw [ei, ej]) h166 h190 ez166 ez190) hP hS (lv_sub hl [2, 3, 4, 5, 6, 7, 8, 1, 0] rfl)
                    refine lv_icmp_ge (tgt := 182) hx hb dX7_laysAll_175 (by decide) (fun c175 => ?_) (fun c175 => ?_)
                    · have t175 := tq_le (k := (64)) (q := z145.toInt) c175 (by decide +kernel) rfl
                      refine lv_lload hx hb dX7_laysAll_182 (lv_at hl 9 rfl) ?_
                      refine lv_iload hx hb dX7_laysAll_184 (lv_at hl 10 rfl) ?_
                      refine lv_bipush (v := 64) hx hb dX7_laysAll_186 (by decide +kernel) ?_
                      refine lv_isub hx hb dX7_laysAll_188 ?_
                      refine lv_topi (fun z188 ez188 => ?_)
                      have bz188 := tq_sub (k := z145.toInt) (q := (64)) ez188 rfl (by decide +kernel) (by omega) (by omega)
                      refine lv_lshl hx hb dX7_laysAll_189 rfl ?_
                      refine lv_topl (fun z189 ez189 => ?_)
                      exact j190 z189 _ _ _ ⟨fun q => absurd q (by omega), fun _ => ⟨by rw [← ez188]; exact bz188, by rw [← ez188]; exact ez189⟩⟩ hP hS (lv_sub hl [1, 2, 3, 4, 5, 6, 0, 7, 8, 9, 10] rfl)
                    · have t175 := tq_nle (k := (64)) (q := z145.toInt) c175 (by decide +kernel) rfl
                      refine lv_lconst (v := 0) hx hb dX7_laysAll_178 (by decide +kernel) ?_
                      refine lv_goto (tgt := 190) hx hb dX7_laysAll_179 (by decide) ?_
                      exact j190 0 _ _ _ ⟨fun _ => rfl, fun q => absurd q (by omega)⟩ hP hS (lv_sub hl [1, 2, 3, 4, 5, 6, 0, 7, 8, 9, 10] rfl)
                  refine lv_icmp_ge (tgt := 165) hx hb dX7_laysAll_154 (by decide) (fun c154 => ?_) (fun c154 => ?_)
                  · have t154 := tq_le (k := (64)) (q := z145.toInt) c154 (by decide +kernel) rfl
                    refine lv_lconst (v := 0) hx hb dX7_laysAll_165 (by decide +kernel) ?_
                    exact j166 0 _ _ _ ⟨fun q => absurd q (by omega), fun _ => rfl⟩ hP hS (lv_sub hl [2, 3, 4, 5, 6, 7, 8, 9, 10, 1, 0] rfl)
                  · have t154 := tq_nle (k := (64)) (q := z145.toInt) c154 (by decide +kernel) rfl
                    refine lv_lload hx hb dX7_laysAll_157 (lv_at hl 1 rfl) ?_
                    refine lv_iload hx hb dX7_laysAll_159 (lv_at hl 0 rfl) ?_
                    refine lv_lshl hx hb dX7_laysAll_161 rfl ?_
                    refine lv_topl (fun z161 ez161 => ?_)
                    refine lv_goto (tgt := 166) hx hb dX7_laysAll_162 (by decide) ?_
                    exact j166 z161 _ _ _ ⟨fun _ => ⟨rfl, ez161⟩, fun q => absurd q (by omega)⟩ hP hS (lv_sub hl [2, 3, 4, 5, 6, 7, 8, 9, 10, 1, 0] rfl))
              exact key103 _ 0 0 0 _ _ _ rfl ⟨by decide +kernel, by decide +kernel⟩ (by rw [show (0 : Int32).toInt = 0 from by decide +kernel]; exact rvI_0) hP hS (lv_sub hl [4, 5, 6, 7, 8, 3, 2, 1, 0] rfl)
          refine lv_icmp_le (tgt := 61) hx hb dX7_laysAll_45 (by decide) (fun c45 => ?_) (fun c45 => ?_)
          · have t45 := tq_le (k := z21.toInt) (q := (1)) c45 rfl (by decide +kernel)
            refine lv_iload hx hb dX7_laysAll_61 (lv_at hl 4 rfl) ?_
            exact j63 v28_4 _ _ _ ⟨by omega, by omega⟩ (by unfold fly; rw [if_neg (by omega)]) hP hS (lv_sub hl [0, 1, 2, 3, 4] rfl)
          · have t45 := tq_nle (k := z21.toInt) (q := (1)) c45 rfl (by decide +kernel)
            have rg45z21 := fb_rng z21
            refine lv_aload_n hx hb dX7_laysAll_48 rfl (lv_at hl 0 rfl) ?_
            refine lv_iload_n hx hb dX7_laysAll_49 rfl (lv_at hl 2 rfl) ?_
            refine ro_i (va_runV (As := [.int z14]) (rest := [.int 2, .int z41]) ⟨hx, hb, hml, hown, hts⟩ (s_X7_high l dC dI cs L K G Q hQ x0 m0 tx tm H.size I J28 hI p0 hLp0 hKp0 z14 ⟨by omega, by omega⟩) (cwV 1 hts (gV pq1372 pq1374 pq33 pq81 pq1375) rfl rfl rfl (by decide +kernel) ⟨(by rw [hR]; exact (Nat.le_of_ble_eq_true rfl)), (by rw [hR]; exact (Nat.le_of_ble_eq_true rfl))⟩) (sP_V hP hD hK hN hLp0 hKp0 rfl rfl) rfl rfl hl.1 rfl (lv_room (Nat.le_of_ble_eq_true rfl)) dX7_laysAll_50 ⟨(by rw [hR]; exact (Nat.le_of_ble_eq_true rfl)), (by rw [hR]; exact (Nat.le_of_ble_eq_true rfl))⟩) hS hP (fun z50 H locs hz50 hP hS => ?_)
            obtain ⟨bz50, fez50⟩ := hz50
            obtain rfl : z32 = z50 := fez32.trans fez50.symm
            refine lv_iconst (v := 1) hx hb dX7_laysAll_53 (by decide +kernel) ?_
            refine lv_isub hx hb dX7_laysAll_54 ?_
            refine lv_topi (fun z54 ez54 => ?_)
            have bz54 := tq_sub (k := z32.toInt) (q := (1)) ez54 rfl (by decide +kernel) (by omega) (by omega)
            refine lv_iload hx hb dX7_laysAll_55 (lv_at hl 4 rfl) ?_
            refine lv_isub hx hb dX7_laysAll_57 ?_
            refine lv_topi (fun z57 ez57 => ?_)
            have bz57 := tq_sub (k := z54.toInt) (q := v28_4.toInt) ez57 rfl rfl (by omega) (by omega)
            refine lv_goto (tgt := 63) hx hb dX7_laysAll_58 (by decide) ?_
            exact j63 z57 _ _ _ ⟨by omega, by omega⟩ (by unfold fly; rw [if_pos (by omega)]; omega) hP hS (lv_sub hl [0, 1, 2, 3, 4] rfl))
      exact key28 _ 0 J2 _ _ _ rfl ⟨by decide +kernel, by decide +kernel⟩ dj_J2 h2 (fun c ok h hj hN k hk => absurd hk (by rw [show (0 : Int32).toInt = 0 from by decide +kernel]; omega)) hP hS (lv_sub hl [3, 4, 2, 1, 0] rfl))
  exact key2 _ 0 J _ _ _ rfl ⟨by decide +kernel, by decide +kernel⟩ dj_J (fun c ok h hj b hb => absurd hb (by rw [show (0 : Int32).toInt.toNat = 0 from by decide +kernel]; omega)) hP hS (lv_sub hl [1, 0] rfl)

set_option maxHeartbeats 4000000 in
set_option maxRecDepth 100000 in
theorem s_X7_overlaps (l : Launch) (dC : Nat → ClassId) (dI : Nat → Nat → Nat) (cs : Nat → ClassId) (L : List Nat) (K G : Nat → Nat) (Q : Nat → Nat → Option Nat) (hQ : Sv L K G Q) (x0 m0 : Nat) (tx : GT) (tm : GT × Int) (sz : Nat) (I : Nat → Nat → Int32) (J : Nat → Nat → Int64) (hI : Iv L K x0 m0 tx tm I) (p0 : Nat) (hLp0 : p0 ∈ L) (hKp0 : K p0 = 7) (p1 : Int32) (bp1 : (0) ≤ p1.toInt ∧ p1.toInt ≤ 9) (p2 : Int32) (bp2 : (0) ≤ p2.toInt ∧ p2.toInt ≤ 9) (p3 : Int32) (p4 : Int32) (bp4 : (-2100000000) ≤ p4.toInt ∧ p4.toInt ≤ 2100000000) (p5 : Int32) (bp5 : (0) ≤ p5.toInt ∧ p5.toInt ≤ 1) : Met l yX7_overlaps (.code yX7_overlaps cX7_overlaps 12 (some .int) :: pw) ({ frames := 2, cells := 0, slots := 0, locals := 43 }) (sP (dC, dI) cs [.ref p0, .int p1, .int p2, .int p3, .int p4, .int p5] sz L K I J Q) (va_Qi (fun (r : Int32) (_ : Unit) => ((0 < r.toInt → -39 ≤ p4.toInt ∧ p4.toInt ≤ 39) ∧ (∀ c : Fx, okF c → rI Q I p0 c → ldA Q J p0 c → p1.toInt.toNat < (c.1 1).toInt.toNat → p2.toInt.toNat < (c.1 1).toInt.toNat → (0 < r.toInt ↔ ovl (mkw (shp c p1.toInt.toNat)) (mkw (shp c p2.toInt.toNat)) p3.toInt p4.toInt)) ∧ (∀ c : Fx, okF c → rI Q I p0 c → ldA Q J p0 c → p1.toInt.toNat < (c.1 1).toInt.toNat → p2.toInt.toNat < (c.1 1).toInt.toNat → p5.toInt = 0 → r.toInt = cmN (mkw (shp c p1.toInt.toNat)) (mkw (shp c p2.toInt.toNat)) p3.toInt p4.toInt))) (fun _ _ => True) (fun _ => False)) 0 0 (fun _ => False) := by
  refine Met.ofW (cc := cX7_overlaps) (maxL := 12) (ret := (some .int)) (by decide +kernel) rfl ?_
  intro p e s m args below meth c s₁ B hml hv
  obtain ⟨rfl, hsz, hP, hK, hD0, hN⟩ := hv
  have hx := B.exec
  have hb := B.bytes
  have hr := B.returns
  have hts := fun w (h : w ∈ pw) => atoms_spec (ws := Cond.code yX7_overlaps cX7_overlaps 12 (some .int) :: pw) B.pre w (List.mem_cons_of_mem _ h)
  have hown : s.vm.findClass RX7 = some m.cls := findClass_of_methodNamed B.named
  have hlocks := B.notSynchronized
  subst hsz
  have hBB : 999 ≤ tm.2 ∧ tm.2 ≤ 6000000 := hI.2.2.2.2.1
  have hD := hD0
  obtain ⟨H, hHe⟩ : ∃ H : Heap, H = s.heap := ⟨_, rfl⟩
  have hS : va_S (fun _ => False) s.heap H [] := by rw [hHe]; exact va_S.rf
  rw [← hHe] at hP
  have hl := lv_entry ([.ref p0, .int p1, .int p2, .int p3, .int p4, .int p5]) (n := 12) (Nat.le_of_ble_eq_true rfl)
  rw [lg_entry_eq]
  generalize (lg_sl ([.ref p0, .int p1, .int p2, .int p3, .int p4, .int p5]) ++ List.replicate (12 - (lg_sl ([.ref p0, .int p1, .int p2, .int p3, .int p4, .int p5])).length) Slot.unset).toArray = ls at hl ⊢
  have hl : lv_has ls 12 [(0, .ref p0), (1, .int p1), (2, .int p2), (3, .int p3), (4, .int p4), (5, .int p5)] := hl
  rw [← hHe]
  refine namedW (fun R Qz hR hQz => ?_)
  refine lv_iconst (v := 0) hx hb dX7_overlaps_0 (by decide +kernel) ?_
  refine lv_istore (lv' := [(6, .int 0), (0, .ref p0), (1, .int p1), (2, .int p2), (3, .int p3), (4, .int p4), (5, .int p5)]) hx hb dX7_overlaps_1 hl (by decide) rfl (fun ls hl => ?_)
  refine lv_iconst (v := 0) hx hb dX7_overlaps_3 (by decide +kernel) ?_
  refine lv_iload hx hb dX7_overlaps_4 (lv_at hl 5 rfl) ?_
  refine va_mmax hx hb (hml.trans hl.1.symm) hown (hts _ pq1443) (hts _ pq750) (hts _ pq82) (hts _ pq751) (by rw [hR]; exact (Nat.le_of_ble_eq_true rfl)) (by rw [hR]; exact (Nat.le_of_ble_eq_true rfl)) (by rw [hR]; exact (Nat.le_of_ble_eq_true rfl)) (by rw [hR]; exact (Nat.le_of_ble_eq_true rfl)) dX7_overlaps_6 ?_
  refine lv_topi (fun z6 ez6 => ?_)
  have bz6 := tq_max ez6
  have bz6x : (0 : Int32).toInt = 0 := by decide +kernel
  refine lv_istore (lv' := [(7, .int z6), (6, .int 0), (0, .ref p0), (1, .int p1), (2, .int p2), (3, .int p3), (4, .int p4), (5, .int p5)]) hx hb dX7_overlaps_9 hl (by decide) rfl (fun ls hl => ?_)
  refine lv_aload_n hx hb dX7_overlaps_11 rfl (lv_at hl 2 rfl) ?_
  refine lv_aload_n hx hb dX7_overlaps_12 rfl (lv_at hl 2 rfl) ?_
  refine lv_iload_n hx hb dX7_overlaps_13 rfl (lv_at hl 3 rfl) ?_
  refine ro_i (va_runV (As := [.int p1]) (rest := [.ref p0]) ⟨hx, hb, hml, hown, hts⟩ (s_X7_maskOf l dC dI cs L K G Q hQ x0 m0 tx tm H.size I J hI p0 hLp0 hKp0 p1 ⟨by omega, by omega⟩) (cwV 1 hts (gV pq1431 pq1433 pq41 pq81 pq1434) rfl rfl rfl (by decide +kernel) ⟨(by rw [hR]; exact (Nat.le_of_ble_eq_true rfl)), (by rw [hR]; exact (Nat.le_of_ble_eq_true rfl))⟩) (sP_V hP hD hK hN hLp0 hKp0 rfl rfl) rfl rfl hl.1 rfl (lv_room (Nat.le_of_ble_eq_true rfl)) dX7_overlaps_14 ⟨(by rw [hR]; exact (Nat.le_of_ble_eq_true rfl)), (by rw [hR]; exact (Nat.le_of_ble_eq_true rfl))⟩) hS hP (fun z14 H locs hz14 hP hS => ?_)
  obtain ⟨bz14, fez14⟩ := hz14
  refine ro_i (va_runV (As := [.int z14]) (rest := []) ⟨hx, hb, hml, hown, hts⟩ (s_X7_high l dC dI cs L K G Q hQ x0 m0 tx tm H.size I J hI p0 hLp0 hKp0 z14 ⟨by omega, by omega⟩) (cwV 1 hts (gV pq1372 pq1374 pq33 pq81 pq1375) rfl rfl rfl (by decide +kernel) ⟨(by rw [hR]; exact (Nat.le_of_ble_eq_true rfl)), (by rw [hR]; exact (Nat.le_of_ble_eq_true rfl))⟩) (sP_V hP hD hK hN hLp0 hKp0 rfl rfl) rfl rfl hl.1 rfl (lv_room (Nat.le_of_ble_eq_true rfl)) dX7_overlaps_17 ⟨(by rw [hR]; exact (Nat.le_of_ble_eq_true rfl)), (by rw [hR]; exact (Nat.le_of_ble_eq_true rfl))⟩) hS hP (fun z17 H locs hz17 hP hS => ?_)
  obtain ⟨bz17, fez17⟩ := hz17
  refine lv_aload_n hx hb dX7_overlaps_20 rfl (lv_at hl 2 rfl) ?_
  refine lv_aload_n hx hb dX7_overlaps_21 rfl (lv_at hl 2 rfl) ?_
  refine lv_iload_n hx hb dX7_overlaps_22 rfl (lv_at hl 4 rfl) ?_
  refine ro_i (va_runV (As := [.int p2]) (rest := [.ref p0, .int z17]) ⟨hx, hb, hml, hown, hts⟩ (s_X7_maskOf l dC dI cs L K G Q hQ x0 m0 tx tm H.size I J hI p0 hLp0 hKp0 p2 ⟨by omega, by omega⟩) (cwV 1 hts (gV pq1431 pq1433 pq41 pq81 pq1434) rfl rfl rfl (by decide +kernel) ⟨(by rw [hR]; exact (Nat.le_of_ble_eq_true rfl)), (by rw [hR]; exact (Nat.le_of_ble_eq_true rfl))⟩) (sP_V hP hD hK hN hLp0 hKp0 rfl rfl) rfl rfl hl.1 rfl (lv_room (Nat.le_of_ble_eq_true rfl)) dX7_overlaps_23 ⟨(by rw [hR]; exact (Nat.le_of_ble_eq_true rfl)), (by rw [hR]; exact (Nat.le_of_ble_eq_true rfl))⟩) hS hP (fun z23 H locs hz23 hP hS => ?_)
  obtain ⟨bz23, fez23⟩ := hz23
  refine ro_i (va_runV (As := [.int z23]) (rest := [.int z17]) ⟨hx, hb, hml, hown, hts⟩ (s_X7_high l dC dI cs L K G Q hQ x0 m0 tx tm H.size I J hI p0 hLp0 hKp0 z23 ⟨by omega, by omega⟩) (cwV 1 hts (gV pq1372 pq1374 pq33 pq81 pq1375) rfl rfl rfl (by decide +kernel) ⟨(by rw [hR]; exact (Nat.le_of_ble_eq_true rfl)), (by rw [hR]; exact (Nat.le_of_ble_eq_true rfl))⟩) (sP_V hP hD hK hN hLp0 hKp0 rfl rfl) rfl rfl hl.1 rfl (lv_room (Nat.le_of_ble_eq_true rfl)) dX7_overlaps_26 ⟨(by rw [hR]; exact (Nat.le_of_ble_eq_true rfl)), (by rw [hR]; exact (Nat.le_of_ble_eq_true rfl))⟩) hS hP (fun z26 H locs hz26 hP hS => ?_)
  obtain ⟨bz26, fez26⟩ := hz26
  refine lv_iload hx hb dX7_overlaps_29 (lv_at hl 6 rfl) ?_
  refine lv_iadd hx hb dX7_overlaps_31 ?_
  refine lv_topi (fun z31 ez31 => ?_)
  have bz31 := tq_add (k := z26.toInt) (q := p4.toInt) ez31 rfl rfl (by omega) (by omega)
  refine va_mmin hx hb (hml.trans hl.1.symm) hown (hts _ pq1269) (hts _ pq407) (hts _ pq82) (hts _ pq408) (by rw [hR]; exact (Nat.le_of_ble_eq_true rfl)) (by rw [hR]; exact (Nat.le_of_ble_eq_true rfl)) (by rw [hR]; exact (Nat.le_of_ble_eq_true rfl)) (by rw [hR]; exact (Nat.le_of_ble_eq_true rfl)) dX7_overlaps_32 ?_
  refine lv_topi (fun z32 ez32 => ?_)
  have bz32 := tq_min ez32
  refine lv_istore (lv' := [(8, .int z32), (7, .int z6), (6, .int 0), (0, .ref p0), (1, .int p1), (2, .int p2), (3, .int p3), (4, .int p4), (5, .int p5)]) hx hb dX7_overlaps_35 hl (by decide) rfl (fun ls hl => ?_)
  refine lv_iload hx hb dX7_overlaps_37 (lv_at hl 1 rfl) ?_
  refine lv_istore (lv' := [(9, .int z6), (8, .int z32), (7, .int z6), (6, .int 0), (0, .ref p0), (1, .int p1), (2, .int p2), (3, .int p3), (4, .int p4), (5, .int p5)]) hx hb dX7_overlaps_39 hl (by decide) rfl (fun ls hl => ?_)
  have key41 := blocks (fun n => ∀ (v41_6 : Int32) (v41_9 : Int32) (H : Heap) (lo : List Loc) (ls : Array Slot), (2100000001 - v41_9.toInt).toNat = n → ((0) ≤ v41_6.toInt ∧ v41_6.toInt ≤ 5120) → ((0) ≤ v41_9.toInt ∧ v41_9.toInt ≤ 2100000000) → p4.toInt ≤ v41_9.toInt → (0 < v41_6.toInt → -39 ≤ p4.toInt ∧ p4.toInt ≤ 39) → (0 ≤ v41_6.toInt ∧ v41_6.toInt ≤ 128 * v41_9.toInt) → (∀ c : Fx, okF c → rI Q I p0 c → ldA Q J p0 c → p1.toInt.toNat < (c.1 1).toInt.toNat → p2.toInt.toNat < (c.1 1).toInt.toNat → ovI (mkw (shp c p1.toInt.toNat)) (mkw (shp c p2.toInt.toNat)) p3.toInt p4.toInt v41_6.toInt v41_9.toInt) → (∀ c : Fx, okF c → rI Q I p0 c → ldA Q J p0 c → p1.toInt.toNat < (c.1 1).toInt.toNat → p2.toInt.toNat < (c.1 1).toInt.toNat → v41_6.toInt = (totr (mkw (cmD (mkw (shp c p1.toInt.toNat)) (mkw (shp c p2.toInt.toNat)) p3.toInt p4.toInt)) (min v41_9.toInt.toNat 40) : Int)) → va_P (dC, dI) vwCl (Wd cs L K I J Q) H → va_S (fun _ => False) s.heap H lo → lv_has ls 12 [(0, .ref p0), (1, .int p1), (2, .int p2), (3, .int p3), (4, .int p4), (5, .int p5), (6, .int v41_6), (7, .int z6), (8, .int z32), (9, .int v41_9)] → W p l e R s m (([.ref p0, .int p1, .int p2, .int p3, .int p4, .int p5] : List Value).toArray) below meth c H lo 0 0 Qz (F0 m 41 ls [])) (by
    intro n ih41
    intro v41_6 v41_9 H lo ls hmu41 bv41_6 bv41_9 hfr hov hb41 hov2 hov3 hP hS hl
    refine lv_iload hx hb dX7_overlaps_41 (lv_at hl 9 rfl) ?_
    refine lv_iload hx hb dX7_overlaps_43 (lv_at hl 8 rfl) ?_
    refine lv_icmp_ge (tgt := 163) hx hb dX7_overlaps_45 (by decide) (fun c45 => ?_) (fun c45 => ?_)
    · have t45 := tq_le (k := z32.toInt) (q := v41_9.toInt) c45 rfl rfl
      refine lv_iload hx hb dX7_overlaps_163 (lv_at hl 6 rfl) ?_
      subst hR; subst hQz
      exact W.iret (v := v41_6) hx hb hr (fun t ht hW => ⟨⟨v41_6, (), rfl, ⟨hov, fun c ok h l ha hb => by have em : z14 = c.1 (19 + 8 * p1.toInt.toNat) := (show z14 = I (a0 Q p0 0) (19 + 8 * p1.toInt.toNat) from fez14).trans (h _ (by omega)); have eh : z17 = bh_ c p1.toInt.toNat := (show z17 = I (a0 Q p0 0) (11 + z14.toInt.toNat) from fez17).trans ((h _ (by omega)).trans (by unfold bh_; rw [em])); have em2 : z23 = c.1 (19 + 8 * p2.toInt.toNat) := (show z23 = I (a0 Q p0 0) (19 + 8 * p2.toInt.toNat) from fez23).trans (h _ (by omega)); have eh2 : z26 = bh_ c p2.toInt.toNat := (show z26 = I (a0 Q p0 0) (11 + z23.toInt.toNat) from fez26).trans ((h _ (by omega)).trans (by unfold bh_; rw [em2])); exact ovI_e (hov2 c ok h l ha hb) (okm_shp ok ha).2.2 (okm_shp ok hb).2.2 (by rw [← eh, ← eh2]; omega), fun c ok h l ha hb n => by first | exact absurd n t50 | (have em : z14 = c.1 (19 + 8 * p1.toInt.toNat) := (show z14 = I (a0 Q p0 0) (19 + 8 * p1.toInt.toNat) from fez14).trans (h _ (by omega)); have eh : z17 = bh_ c p1.toInt.toNat := (show z17 = I (a0 Q p0 0) (11 + z14.toInt.toNat) from fez17).trans ((h _ (by omega)).trans (by unfold bh_; rw [em])); have em2 : z23 = c.1 (19 + 8 * p2.toInt.toNat) := (show z23 = I (a0 Q p0 0) (19 + 8 * p2.toInt.toNat) from fez23).trans (h _ (by omega)); have eh2 : z26 = bh_ c p2.toInt.toNat := (show z26 = I (a0 Q p0 0) (11 + z23.toInt.toNat) from fez26).trans ((h _ (by omega)).trans (by unfold bh_; rw [em2])); rw [hov3 c ok h l ha hb, tr_hi (r := min v41_9.toInt.toNat 40) (by omega) (fun X Y q => by have w := cm_t.mp q; have k0 := md_b (okm_shp ok ha).2.2 _ _ w.1; have k1 := md_b (okm_shp ok hb).2.2 _ _ w.2; rw [← eh] at k0; rw [← eh2] at k1; have k2 := md_rng w.1; omega)]; rfl)⟩, trivial⟩, hS.F ht⟩) hS.2.2 dX7_overlaps_165
    · have t45 := tq_nle (k := z32.toInt) (q := v41_9.toInt) c45 rfl rfl
      refine lv_iload hx hb dX7_overlaps_48 (lv_at hl 5 rfl) ?_
      have j58 : ∀ (H : Heap) (lo : List Loc) (ls : Array Slot), va_P (dC, dI) vwCl (Wd cs L K I J Q) H → va_S (fun _ => False) s.heap H lo → lv_has ls 12 [(0, .ref p0), (1, .int p1), (2, .int p2), (3, .int p3), (4, .int p4), (5, .int p5), (6, .int v41_6), (7, .int z6), (8, .int z32), (9, .int v41_9)] → W p l e R s m (([.ref p0, .int p1, .int p2, .int p3, .int p4, .int p5] : List Value).toArray) below meth c H lo 0 0 Qz (F0 m 58 ls []) := by
        intro H lo ls hP hS hl
        refine lv_bipush (v := 80) hx hb dX7_overlaps_58 (by decide +kernel) ?_
        refine lv_iload_n hx hb dX7_overlaps_60 rfl (lv_at hl 1 rfl) ?_
        refine lv_imul hx hb dX7_overlaps_61 ?_
        refine lv_topi (fun z61 ez61 => ?_)
        have bz61 := tq_mul (k := (80)) (q := p1.toInt) ez61 (by decide +kernel) rfl (by omega) (by omega)
        refine lv_iconst (v := 2) hx hb dX7_overlaps_62 (by decide +kernel) ?_
        refine lv_iload hx hb dX7_overlaps_63 (lv_at hl 9 rfl) ?_
        refine lv_imul hx hb dX7_overlaps_65 ?_
        refine lv_topi (fun z65 ez65 => ?_)
        have bz65 := tq_mul (k := (2)) (q := v41_9.toInt) ez65 (by decide +kernel) rfl (by omega) (by omega)
        refine lv_iadd hx hb dX7_overlaps_66 ?_
        refine lv_topi (fun z66 ez66 => ?_)
        have bz66 := tq_add (k := z61.toInt) (q := z65.toInt) ez66 rfl rfl (by omega) (by omega)
        refine lv_istore (lv' := [(10, .int z66), (0, .ref p0), (1, .int p1), (2, .int p2), (3, .int p3), (4, .int p4), (5, .int p5), (6, .int v41_6), (7, .int z6), (8, .int z32), (9, .int v41_9)]) hx hb dX7_overlaps_67 hl (by decide) rfl (fun ls hl => ?_)
        refine lv_bipush (v := 80) hx hb dX7_overlaps_69 (by decide +kernel) ?_
        refine lv_iload_n hx hb dX7_overlaps_71 rfl (lv_at hl 3 rfl) ?_
        refine lv_imul hx hb dX7_overlaps_72 ?_
        refine lv_topi (fun z72 ez72 => ?_)
        have bz72 := tq_mul (k := (80)) (q := p2.toInt) ez72 (by decide +kernel) rfl (by omega) (by omega)
        refine lv_iconst (v := 2) hx hb dX7_overlaps_73 (by decide +kernel) ?_
        refine lv_iload hx hb dX7_overlaps_74 (lv_at hl 10 rfl) ?_
        refine lv_iload hx hb dX7_overlaps_76 (lv_at hl 5 rfl) ?_
        refine lv_isub hx hb dX7_overlaps_78 ?_
        refine lv_topi (fun z78 ez78 => ?_)
        have bz78 := tq_sub (k := v41_9.toInt) (q := p4.toInt) ez78 rfl rfl (by omega) (by omega)
        refine lv_imul hx hb dX7_overlaps_79 ?_
        refine lv_topi (fun z79 ez79 => ?_)
        have bz79 := tq_mul (k := 2) (q := z78.toInt) ez79 (by decide +kernel) rfl (by omega) (by omega)
        refine lv_iadd hx hb dX7_overlaps_80 ?_
        refine lv_topi (fun z80 ez80 => ?_)
        have bz80 := tq_add (k := z72.toInt) (q := z79.toInt) ez80 rfl rfl (by omega) (by omega)
        refine lv_istore (lv' := [(11, .int z80), (10, .int z66), (0, .ref p0), (1, .int p1), (2, .int p2), (3, .int p3), (4, .int p4), (5, .int p5), (6, .int v41_6), (7, .int z6), (8, .int z32), (9, .int v41_9)]) hx hb dX7_overlaps_81 hl (by decide) rfl (fun ls hl => ?_)
        refine lv_iload hx hb dX7_overlaps_83 (lv_at hl 8 rfl) ?_
        refine lv_aload_n hx hb dX7_overlaps_85 rfl (lv_at hl 2 rfl) ?_
        obtain ⟨y86, ey86, hLy86, hKy86⟩ := oQ_7_17 (Sv_at hQ hLp0 hKp0)
        refine p_get (v := .ref y86) hx hb hts inX7 hown hK hP hLp0 hKp0 rfl rfl 17 (by decide) (hts _ pq1132) (congrArg (fun q => some (va_rf q)) ey86) dX7_overlaps_86 ?_
        refine lv_iload hx hb dX7_overlaps_89 (lv_at hl 1 rfl) ?_
        refine p_lald hx hb hK hP 15 hLy86 hKy86 rfl rfl (in_of (by omega) (by omega)) dX7_overlaps_91 ?_
        refine lv_topl (fun z91 ez91 => ?_)
        refine lv_aload_n hx hb dX7_overlaps_92 rfl (lv_at hl 2 rfl) ?_
        refine p_get (v := .ref y86) hx hb hts inX7 hown hK hP hLp0 hKp0 rfl rfl 17 (by decide) (hts _ pq1132) (congrArg (fun q => some (va_rf q)) ey86) dX7_overlaps_93 ?_
        refine lv_iload hx hb dX7_overlaps_96 (lv_at hl 0 rfl) ?_
        refine p_lald hx hb hK hP 15 hLy86 hKy86 rfl rfl (in_of (by omega) (by omega)) dX7_overlaps_98 ?_
        refine lv_topl (fun z98 ez98 => ?_)
        refine lv_aload_n hx hb dX7_overlaps_99 rfl (lv_at hl 2 rfl) ?_
        refine p_get (v := .ref y86) hx hb hts inX7 hown hK hP hLp0 hKp0 rfl rfl 17 (by decide) (hts _ pq1132) (congrArg (fun q => some (va_rf q)) ey86) dX7_overlaps_100 ?_
        refine lv_iload hx hb dX7_overlaps_103 (lv_at hl 0 rfl) ?_
        refine lv_iconst (v := 1) hx hb dX7_overlaps_105 (by decide +kernel) ?_
        refine lv_iadd hx hb dX7_overlaps_106 ?_
        refine lv_topi (fun z106 ez106 => ?_)
        have bz106 := tq_add (k := z80.toInt) (q := (1)) ez106 rfl (by decide +kernel) (by omega) (by omega)
        refine p_lald hx hb hK hP 15 hLy86 hKy86 rfl rfl (in_of (by omega) (by omega)) dX7_overlaps_107 ?_
        refine lv_topl (fun z107 ez107 => ?_)
        refine lv_iload_n hx hb dX7_overlaps_108 rfl (lv_at hl 5 rfl) ?_
        refine ro_l (va_runS (As := [.long z98, .long z107, .int p3]) (rest := [.long z91, .int v41_6]) ⟨hx, hb, hml, hown, hts⟩ (s_X7_low l dC dI cs L K G Q hQ x0 m0 tx tm H.size I J hI z98 z107 p3) (va_cwS 3 hts (gS pq1464 pq1465 pq81 pq1466) rfl rfl rfl (by decide +kernel) ⟨(by rw [hR]; exact (Nat.le_of_ble_eq_true rfl)), (by rw [hR]; exact (Nat.le_of_ble_eq_true rfl))⟩) (sP_S hP hD hK hN) rfl rfl hl.1 rfl (lv_room (Nat.le_of_ble_eq_true rfl)) dX7_overlaps_109 ⟨(by rw [hR]; exact (Nat.le_of_ble_eq_true rfl)), (by rw [hR]; exact (Nat.le_of_ble_eq_true rfl))⟩) hS hP (fun z109 H locs hz109 hP hS => ?_)
        have xpz109 := hz109
        refine lv_land hx hb dX7_overlaps_112 ?_
        refine lv_topl (fun z112 ez112 => ?_)
        refine ro_i (va_runS (As := [.long z112]) (rest := [.int v41_6]) ⟨hx, hb, hml, hown, hts⟩ (s_J13_bitCount l dC dI cs L K Q H.size I J z112) (va_cwS 1 hts (gS pq1417 pq546 pq89 pq547) rfl rfl rfl (by decide +kernel) ⟨(by rw [hR]; exact (Nat.le_of_ble_eq_true rfl)), (by rw [hR]; exact (Nat.le_of_ble_eq_true rfl))⟩) (sP_S hP hD hK hN) rfl rfl hl.1 rfl (lv_room (Nat.le_of_ble_eq_true rfl)) dX7_overlaps_113 ⟨(by rw [hR]; exact (Nat.le_of_ble_eq_true rfl)), (by rw [hR]; exact (Nat.le_of_ble_eq_true rfl))⟩) hS hP (fun z113 H locs hz113 hP hS => ?_)
        obtain ⟨bz113, xpz113⟩ := hz113
        refine lv_iadd hx hb dX7_overlaps_116 ?_
        refine lv_topi (fun z116 ez116 => ?_)
        have bz116 := tq_add (k := v41_6.toInt) (q := z113.toInt) ez116 rfl rfl (by omega) (by omega)
        refine lv_istore (lv' := [(6, .int z116), (11, .int z80), (10, .int z66), (0, .ref p0), (1, .int p1), (2, .int p2), (3, .int p3), (4, .int p4), (5, .int p5), (7, .int z6), (8, .int z32), (9, .int v41_9)]) hx hb dX7_overlaps_117 hl (by decide) rfl (fun ls hl => ?_)
        refine lv_iload hx hb dX7_overlaps_119 (lv_at hl 0 rfl) ?_
        refine lv_aload_n hx hb dX7_overlaps_121 rfl (lv_at hl 3 rfl) ?_
        refine p_get (v := .ref y86) hx hb hts inX7 hown hK hP hLp0 hKp0 rfl rfl 17 (by decide) (hts _ pq1132) (congrArg (fun q => some (va_rf q)) ey86) dX7_overlaps_122 ?_
        refine lv_iload hx hb dX7_overlaps_125 (lv_at hl 2 rfl) ?_
        refine lv_iconst (v := 1) hx hb dX7_overlaps_127 (by decide +kernel) ?_
        refine lv_iadd hx hb dX7_overlaps_128 ?_
        refine lv_topi (fun z128 ez128 => ?_)
        have bz128 := tq_add (k := z66.toInt) (q := (1)) ez128 rfl (by decide +kernel) (by omega) (by omega)
        refine p_lald hx hb hK hP 15 hLy86 hKy86 rfl rfl (in_of (by omega) (by omega)) dX7_overlaps_129 ?_
        refine lv_topl (fun z129 ez129 => ?_)
        refine lv_aload_n hx hb dX7_overlaps_130 rfl (lv_at hl 3 rfl) ?_
        refine p_get (v := .ref y86) hx hb hts inX7 hown hK hP hLp0 hKp0 rfl rfl 17 (by decide) (hts _ pq1132) (congrArg (fun q => some (va_rf q)) ey86) dX7_overlaps_131 ?_
        refine lv_iload hx hb dX7_overlaps_134 (lv_at hl 1 rfl) ?_
        refine p_lald hx hb hK hP 15 hLy86 hKy86 rfl rfl (in_of (by omega) (by omega)) dX7_overlaps_136 ?_
        refine lv_topl (fun z136 ez136 => ?_)
        obtain rfl : z98 = z136 := ez98.trans ez136.symm
        refine lv_aload_n hx hb dX7_overlaps_137 rfl (lv_at hl 3 rfl) ?_
        refine p_get (v := .ref y86) hx hb hts inX7 hown hK hP hLp0 hKp0 rfl rfl 17 (by decide) (hts _ pq1132) (congrArg (fun q => some (va_rf q)) ey86) dX7_overlaps_138 ?_
        refine lv_iload hx hb dX7_overlaps_141 (lv_at hl 1 rfl) ?_
        refine lv_iconst (v := 1) hx hb dX7_overlaps_143 (by decide +kernel) ?_
        refine lv_iadd hx hb dX7_overlaps_144 ?_
        refine lv_topi (fun z144 ez144 => ?_)
        have bz144 := tq_add (k := z80.toInt) (q := (1)) ez144 rfl (by decide +kernel) (by omega) (by omega)
        refine p_lald hx hb hK hP 15 hLy86 hKy86 rfl rfl (in_of (by omega) (by omega)) dX7_overlaps_145 ?_
        refine lv_topl (fun z145 ez145 => ?_)
        refine lv_iload_n hx hb dX7_overlaps_146 rfl (lv_at hl 6 rfl) ?_
        refine ro_l (va_runS (As := [.long z98, .long z145, .int p3]) (rest := [.long z129, .int z116]) ⟨hx, hb, hml, hown, hts⟩ (s_X7_top l dC dI cs L K G Q hQ x0 m0 tx tm H.size I J hI z98 z145 p3) (va_cwS 3 hts (gS pq1467 pq1468 pq81 pq1469) rfl rfl rfl (by decide +kernel) ⟨(by rw [hR]; exact (Nat.le_of_ble_eq_true rfl)), (by rw [hR]; exact (Nat.le_of_ble_eq_true rfl))⟩) (sP_S hP hD hK hN) rfl rfl hl.1 rfl (lv_room (Nat.le_of_ble_eq_true rfl)) dX7_overlaps_147 ⟨(by rw [hR]; exact (Nat.le_of_ble_eq_true rfl)), (by rw [hR]; exact (Nat.le_of_ble_eq_true rfl))⟩) hS hP (fun z147 H locs hz147 hP hS => ?_)
        have xpz147 := hz147
        refine lv_land hx hb dX7_overlaps_150 ?_
        refine lv_topl (fun z150 ez150 => ?_)
        refine ro_i (va_runS (As := [.long z150]) (rest := [.int z116]) ⟨hx, hb, hml, hown, hts⟩ (s_J13_bitCount l dC dI cs L K Q H.size I J z150) (va_cwS 1 hts (gS pq1417 pq546 pq89 pq547) rfl rfl rfl (by decide +kernel) ⟨(by rw [hR]; exact (Nat.le_of_ble_eq_true rfl)), (by rw [hR]; exact (Nat.le_of_ble_eq_true rfl))⟩) (sP_S hP hD hK hN) rfl rfl hl.1 rfl (lv_room (Nat.le_of_ble_eq_true rfl)) dX7_overlaps_151 ⟨(by rw [hR]; exact (Nat.le_of_ble_eq_true rfl)), (by rw [hR]; exact (Nat.le_of_ble_eq_true rfl))⟩) hS hP (fun z151 H locs hz151 hP hS => ?_)
        obtain ⟨bz151, xpz151⟩ := hz151
        refine lv_iadd hx hb dX7_overlaps_154 ?_
        refine lv_topi (fun z154 ez154 => ?_)
        have bz154 := tq_add (k := z116.toInt) (q := z151.toInt) ez154 rfl rfl (by omega) (by omega)
        refine lv_istore (lv' := [(6, .int z154), (11, .int z80), (10, .int z66), (0, .ref p0), (1, .int p1), (2, .int p2), (3, .int p3), (4, .int p4), (5, .int p5), (7, .int z6), (8, .int z32), (9, .int v41_9)]) hx hb dX7_overlaps_155 hl (by decide) rfl (fun ls hl => ?_)
        obtain ⟨z157, ez157⟩ : ∃ y : Int32, y = v41_9 + 1 := ⟨_, rfl⟩
        refine lv_iinc (v := z157) (lv' := [(9, .int z157), (6, .int z154), (11, .int z80), (10, .int z66), (0, .ref p0), (1, .int p1), (2, .int p2), (3, .int p3), (4, .int p4), (5, .int p5), (7, .int z6), (8, .int z32)]) hx hb dX7_overlaps_157 hl (k := 11) rfl (by rw [ez157]; rfl) (by decide) rfl (fun ls hl => ?_)
        have bz157 := tq_add (k := v41_9.toInt) (q := 1) ez157 rfl (by decide +kernel) (by omega) (by omega)
        refine lv_goto (tgt := 41) hx hb dX7_overlaps_160 (by decide) ?_
        exact ih41 _ (by omega) z154 z157 _ _ _ rfl ⟨by omega, by omega⟩ ⟨by omega, by omega⟩ (by omega) (fun _ => ⟨by omega, by omega⟩) ⟨by omega, by omega⟩ (fun c ok h l ha hb => by have em : z14 = c.1 (19 + 8 * p1.toInt.toNat) := (show z14 = I (a0 Q p0 0) (19 + 8 * p1.toInt.toNat) from fez14).trans (h _ (by omega)); have eh : z17 = bh_ c p1.toInt.toNat := (show z17 = I (a0 Q p0 0) (11 + z14.toInt.toNat) from fez17).trans ((h _ (by omega)).trans (by unfold bh_; rw [em])); have em2 : z23 = c.1 (19 + 8 * p2.toInt.toNat) := (show z23 = I (a0 Q p0 0) (19 + 8 * p2.toInt.toNat) from fez23).trans (h _ (by omega)); have eh2 : z26 = bh_ c p2.toInt.toNat := (show z26 = I (a0 Q p0 0) (11 + z23.toInt.toNat) from fez26).trans ((h _ (by omega)).trans (by unfold bh_; rw [em2])); have r1 := hov2 c ok h l ha hb; have x1 := (show z91 = mkw (shp c p1.toInt.toNat) (2 * v41_9.toInt.toNat) from by rw [ez91]; have q := l p1.toInt.toNat ha (2 * v41_9.toInt.toNat) (by rw [← eh]; omega); rw [show a0 Q p0 17 = y86 from gd_of ey86] at q; rw [← q]; show J y86 _ = J y86 _; congr 1; show z66.toInt.toNat = _; omega); have x2 := (show z129 = mkw (shp c p1.toInt.toNat) (2 * v41_9.toInt.toNat + 1) from by rw [ez129]; have q := l p1.toInt.toNat ha (2 * v41_9.toInt.toNat + 1) (by rw [← eh]; omega); rw [show a0 Q p0 17 = y86 from gd_of ey86] at q; rw [← q]; show J y86 _ = J y86 _; congr 1; show z128.toInt.toNat = _; omega); have x3 := (show z98 = mkw (shp c p2.toInt.toNat) (2 * (v41_9.toInt - p4.toInt).toNat) from by rw [ez98]; have q := l p2.toInt.toNat hb (2 * (v41_9.toInt - p4.toInt).toNat) (by rw [← eh2]; omega); rw [show a0 Q p0 17 = y86 from gd_of ey86] at q; rw [← q]; show J y86 _ = J y86 _; congr 1; show z80.toInt.toNat = _; omega); have x4 := (show z107 = mkw (shp c p2.toInt.toNat) (2 * (v41_9.toInt - p4.toInt).toNat + 1) from by rw [ez107]; have q := l p2.toInt.toNat hb (2 * (v41_9.toInt - p4.toInt).toNat + 1) (by rw [← eh2]; omega); rw [show a0 Q p0 17 = y86 from gd_of ey86] at q; rw [← q]; show J y86 _ = J y86 _; congr 1; show z106.toInt.toNat = _; omega); have x5 := (show z145 = mkw (shp c p2.toInt.toNat) (2 * (v41_9.toInt - p4.toInt).toNat + 1) from by rw [ez145]; have q := l p2.toInt.toNat hb (2 * (v41_9.toInt - p4.toInt).toNat + 1) (by rw [← eh2]; omega); rw [show a0 Q p0 17 = y86 from gd_of ey86] at q; rw [← q]; show J y86 _ = J y86 _; congr 1; show z144.toInt.toNat = _; omega); rw [show z145 = z107 from x5.trans x4.symm] at xpz147; exact ovI_s (r := v41_9.toInt.toNat) (k := (v41_9.toInt - p4.toInt).toNat) r1 (by omega) (by omega) (by omega) (by omega) (by omega) x1 x2 x3 x4 xpz109 ez112 xpz147 ez150 xpz113 xpz151 (by omega) (by omega) (by omega)) (fun c ok h l ha hb => by have em : z14 = c.1 (19 + 8 * p1.toInt.toNat) := (show z14 = I (a0 Q p0 0) (19 + 8 * p1.toInt.toNat) from fez14).trans (h _ (by omega)); have eh : z17 = bh_ c p1.toInt.toNat := (show z17 = I (a0 Q p0 0) (11 + z14.toInt.toNat) from fez17).trans ((h _ (by omega)).trans (by unfold bh_; rw [em])); have em2 : z23 = c.1 (19 + 8 * p2.toInt.toNat) := (show z23 = I (a0 Q p0 0) (19 + 8 * p2.toInt.toNat) from fez23).trans (h _ (by omega)); have eh2 : z26 = bh_ c p2.toInt.toNat := (show z26 = I (a0 Q p0 0) (11 + z23.toInt.toNat) from fez26).trans ((h _ (by omega)).trans (by unfold bh_; rw [em2])); have r1 := hov3 c ok h l ha hb; have x1 := (show z91 = mkw (shp c p1.toInt.toNat) (2 * v41_9.toInt.toNat) from by rw [ez91]; have q := l p1.toInt.toNat ha (2 * v41_9.toInt.toNat) (by rw [← eh]; omega); rw [show a0 Q p0 17 = y86 from gd_of ey86] at q; rw [← q]; show J y86 _ = J y86 _; congr 1; show z66.toInt.toNat = _; omega); have x2 := (show z129 = mkw (shp c p1.toInt.toNat) (2 * v41_9.toInt.toNat + 1) from by rw [ez129]; have q := l p1.toInt.toNat ha (2 * v41_9.toInt.toNat + 1) (by rw [← eh]; omega); rw [show a0 Q p0 17 = y86 from gd_of ey86] at q; rw [← q]; show J y86 _ = J y86 _; congr 1; show z128.toInt.toNat = _; omega); have x3 := (show z98 = mkw (shp c p2.toInt.toNat) (2 * (v41_9.toInt - p4.toInt).toNat) from by rw [ez98]; have q := l p2.toInt.toNat hb (2 * (v41_9.toInt - p4.toInt).toNat) (by rw [← eh2]; omega); rw [show a0 Q p0 17 = y86 from gd_of ey86] at q; rw [← q]; show J y86 _ = J y86 _; congr 1; show z80.toInt.toNat = _; omega); have x4 := (show z107 = mkw (shp c p2.toInt.toNat) (2 * (v41_9.toInt - p4.toInt).toNat + 1) from by rw [ez107]; have q := l p2.toInt.toNat hb (2 * (v41_9.toInt - p4.toInt).toNat + 1) (by rw [← eh2]; omega); rw [show a0 Q p0 17 = y86 from gd_of ey86] at q; rw [← q]; show J y86 _ = J y86 _; congr 1; show z106.toInt.toNat = _; omega); have x5 := (show z145 = mkw (shp c p2.toInt.toNat) (2 * (v41_9.toInt - p4.toInt).toNat + 1) from by rw [ez145]; have q := l p2.toInt.toNat hb (2 * (v41_9.toInt - p4.toInt).toNat + 1) (by rw [← eh2]; omega); rw [show a0 Q p0 17 = y86 from gd_of ey86] at q; rw [← q]; show J y86 _ = J y86 _; congr 1; show z144.toInt.toNat = _; omega); have w147 := xpz147; rw [show z145 = z107 from x5.trans x4.symm] at w147; rw [show min v41_9.toInt.toNat 40 = v41_9.toInt.toNat by omega] at r1; have T := tr_row (D := cmD (mkw (shp c p1.toInt.toNat)) (mkw (shp c p2.toInt.toNat)) p3.toInt p4.toInt) (a := z112) (b := z150) (r := v41_9.toInt.toNat) (r1 := v41_9.toInt.toNat + 1) (by omega) rfl (fun t t0 t1 => cm_row v41_9.toInt.toNat (v41_9.toInt - p4.toInt).toNat (by omega) (by omega) (by omega) x1 x2 x3 x4 xpz109 w147 ez112 ez150 t0 t1); have y1 : z113.toInt = (nb z112 : Int) := xpz113; have y2 : z151.toInt = (nb z150 : Int) := xpz151; rw [show min z157.toInt.toNat 40 = v41_9.toInt.toNat + 1 by omega, T]; omega) hP hS (lv_sub hl [4, 5, 6, 7, 8, 9, 1, 10, 11, 0] rfl)
      refine lv_if_eq (tgt := 58) hx hb dX7_overlaps_50 (by decide) (fun c50 => ?_) (fun c50 => ?_)
      · have t50 := tq_eq (k := p5.toInt) (q := (0)) c50 rfl (by decide +kernel)
        exact j58  _ _ _ hP hS (lv_sub hl [0, 1, 2, 3, 4, 5, 6, 7, 8, 9] rfl)
      · have t50 := tq_ne (k := p5.toInt) (q := (0)) c50 rfl (by decide +kernel)
        refine lv_iload hx hb dX7_overlaps_53 (lv_at hl 6 rfl) ?_
        refine lv_if_gt (tgt := 163) hx hb dX7_overlaps_55 (by decide) (fun c55 => ?_) (fun c55 => ?_)
        · have t55 := tq_lt (k := (0)) (q := v41_6.toInt) c55 (by decide +kernel) rfl
          refine lv_iload hx hb dX7_overlaps_163 (lv_at hl 6 rfl) ?_
          subst hR; subst hQz
          exact W.iret (v := v41_6) hx hb hr (fun t ht hW => ⟨⟨v41_6, (), rfl, ⟨hov, fun c ok h l ha hb => by have em : z14 = c.1 (19 + 8 * p1.toInt.toNat) := (show z14 = I (a0 Q p0 0) (19 + 8 * p1.toInt.toNat) from fez14).trans (h _ (by omega)); have eh : z17 = bh_ c p1.toInt.toNat := (show z17 = I (a0 Q p0 0) (11 + z14.toInt.toNat) from fez17).trans ((h _ (by omega)).trans (by unfold bh_; rw [em])); have em2 : z23 = c.1 (19 + 8 * p2.toInt.toNat) := (show z23 = I (a0 Q p0 0) (19 + 8 * p2.toInt.toNat) from fez23).trans (h _ (by omega)); have eh2 : z26 = bh_ c p2.toInt.toNat := (show z26 = I (a0 Q p0 0) (11 + z23.toInt.toNat) from fez26).trans ((h _ (by omega)).trans (by unfold bh_; rw [em2])); exact ovI_e (hov2 c ok h l ha hb) (okm_shp ok ha).2.2 (okm_shp ok hb).2.2 (by rw [← eh, ← eh2]; omega), fun c ok h l ha hb n => by first | exact absurd n t50 | (have em : z14 = c.1 (19 + 8 * p1.toInt.toNat) := (show z14 = I (a0 Q p0 0) (19 + 8 * p1.toInt.toNat) from fez14).trans (h _ (by omega)); have eh : z17 = bh_ c p1.toInt.toNat := (show z17 = I (a0 Q p0 0) (11 + z14.toInt.toNat) from fez17).trans ((h _ (by omega)).trans (by unfold bh_; rw [em])); have em2 : z23 = c.1 (19 + 8 * p2.toInt.toNat) := (show z23 = I (a0 Q p0 0) (19 + 8 * p2.toInt.toNat) from fez23).trans (h _ (by omega)); have eh2 : z26 = bh_ c p2.toInt.toNat := (show z26 = I (a0 Q p0 0) (11 + z23.toInt.toNat) from fez26).trans ((h _ (by omega)).trans (by unfold bh_; rw [em2])); rw [hov3 c ok h l ha hb, tr_hi (r := min v41_9.toInt.toNat 40) (by omega) (fun X Y q => by have w := cm_t.mp q; have k0 := md_b (okm_shp ok ha).2.2 _ _ w.1; have k1 := md_b (okm_shp ok hb).2.2 _ _ w.2; rw [← eh] at k0; rw [← eh2] at k1; have k2 := md_rng w.1; omega)]; rfl)⟩, trivial⟩, hS.F ht⟩) hS.2.2 dX7_overlaps_165
        · have t55 := tq_nlt (k := (0)) (q := v41_6.toInt) c55 (by decide +kernel) rfl
          exact j58  _ _ _ hP hS (lv_sub hl [0, 1, 2, 3, 4, 5, 6, 7, 8, 9] rfl))
  exact key41 _ 0 z6 _ _ _ rfl ⟨by decide +kernel, by decide +kernel⟩ ⟨by omega, by omega⟩ (by omega) (fun h => absurd h (by decide +kernel)) ⟨by rw [show (0 : Int32).toInt = 0 from by decide +kernel]; omega, by rw [show (0 : Int32).toInt = 0 from by decide +kernel]; omega⟩ (fun c ok h l ha hb => by rw [show (0 : Int32).toInt = 0 from by decide +kernel]; exact ovI_0 (by omega)) (fun c ok h l ha hb => by rw [tr_lo (r := min z6.toInt.toNat 40) (by omega) (fun X Y q => by have w := cm_t.mp q; have k0 := md_rng w.1; have k1 := md_rng w.2; omega)]; show (0 : Int32).toInt = 0; decide +kernel) hP hS (lv_sub hl [4, 5, 6, 7, 8, 9, 3, 2, 1, 0] rfl)

set_option maxHeartbeats 4000000 in
set_option maxRecDepth 100000 in
theorem s_X7_meets (l : Launch) (dC : Nat → ClassId) (dI : Nat → Nat → Nat) (cs : Nat → ClassId) (L : List Nat) (K G : Nat → Nat) (Q : Nat → Nat → Option Nat) (hQ : Sv L K G Q) (x0 m0 : Nat) (tx : GT) (tm : GT × Int) (sz : Nat) (I : Nat → Nat → Int32) (J : Nat → Nat → Int64) (hI : Iv L K x0 m0 tx tm I) (p0 : Nat) (hLp0 : p0 ∈ L) (hKp0 : K p0 = 7) (p1 : Int32) (bp1 : (0) ≤ p1.toInt ∧ p1.toInt ≤ 9) (p2 : Int32) (bp2 : (0) ≤ p2.toInt ∧ p2.toInt ≤ 9) (p3 : Int32) (p4 : Int32) (bp4 : (-2000000000) ≤ p4.toInt ∧ p4.toInt ≤ 2000000000) : Met l yX7_meets (.code yX7_meets cX7_meets 5 (some .boolean) :: pw) ({ frames := 3, cells := 0, slots := 0, locals := 74 }) (sP (dC, dI) cs [.ref p0, .int p1, .int p2, .int p3, .int p4] sz L K I J Q) (va_Qi (fun (r : Int32) (_ : Unit) => ((0) ≤ r.toInt ∧ r.toInt ≤ 1) ∧ ((¬ r.toInt = 0 → -39 ≤ ((I ((Q p0 0).getD 0) (19 + 8 * p2.toInt.toNat + 2)).toInt - (I ((Q p0 0).getD 0) (19 + 8 * p1.toInt.toNat + 2)).toInt - p4.toInt) ∧ ((I ((Q p0 0).getD 0) (19 + 8 * p2.toInt.toNat + 2)).toInt - (I ((Q p0 0).getD 0) (19 + 8 * p1.toInt.toNat + 2)).toInt - p4.toInt) ≤ 39) ∧ (∀ c : Fx, okF c → rI Q I p0 c → ldA Q J p0 c → p1.toInt.toNat < (c.1 1).toInt.toNat → p2.toInt.toNat < (c.1 1).toInt.toNat → ((-20000 ≤ p3.toInt ∧ p3.toInt ≤ 20000) ∧ (-20000 ≤ p4.toInt ∧ p4.toInt ≤ 20000)) → (¬ r.toInt = 0 ↔ metM c p1.toInt.toNat p2.toInt.toNat p3.toInt p4.toInt)))) (fun _ _ => True) (fun _ => False)) 0 0 (fun _ => False) := by
  refine Met.ofW (cc := cX7_meets) (maxL := 5) (ret := (some .boolean)) (by decide +kernel) rfl ?_
  intro p e s m args below meth c s₁ B hml hv
  obtain ⟨rfl, hsz, hP, hK, hD0, hN⟩ := hv
  have hx := B.exec
  have hb := B.bytes
  have hr := B.returns
  have hts := fun w (h : w ∈ pw) => atoms_spec (ws := Cond.code yX7_meets cX7_meets 5 (some .boolean) :: pw) B.pre w (List.mem_cons_of_mem _ h)
  have hown : s.vm.findClass RX7 = some m.cls := findClass_of_methodNamed B.named
  have hlocks := B.notSynchronized
  subst hsz
  have hBB : 999 ≤ tm.2 ∧ tm.2 ≤ 6000000 := hI.2.2.2.2.1
  have hD := hD0
  obtain ⟨H, hHe⟩ : ∃ H : Heap, H = s.heap := ⟨_, rfl⟩
  have hS : va_S (fun _ => False) s.heap H [] := by rw [hHe]; exact va_S.rf
  rw [← hHe] at hP
  have hl := lv_entry ([.ref p0, .int p1, .int p2, .int p3, .int p4]) (n := 5) (Nat.le_of_ble_eq_true rfl)
  rw [lg_entry_eq]
  generalize (lg_sl ([.ref p0, .int p1, .int p2, .int p3, .int p4]) ++ List.replicate (5 - (lg_sl ([.ref p0, .int p1, .int p2, .int p3, .int p4])).length) Slot.unset).toArray = ls at hl ⊢
  have hl : lv_has ls 5 [(0, .ref p0), (1, .int p1), (2, .int p2), (3, .int p3), (4, .int p4)] := hl
  rw [← hHe]
  refine namedW (fun R Qz hR hQz => ?_)
  refine lv_aload_n hx hb dX7_meets_0 rfl (lv_at hl 0 rfl) ?_
  refine lv_iload_n hx hb dX7_meets_1 rfl (lv_at hl 1 rfl) ?_
  refine lv_iload_n hx hb dX7_meets_2 rfl (lv_at hl 2 rfl) ?_
  refine lv_aload_n hx hb dX7_meets_3 rfl (lv_at hl 0 rfl) ?_
  refine lv_iload_n hx hb dX7_meets_4 rfl (lv_at hl 2 rfl) ?_
  refine lv_iconst (v := 1) hx hb dX7_meets_5 (by decide +kernel) ?_
  refine ro_i (va_runV (As := [.int p2, .int 1]) (rest := [.int p2, .int p1, .ref p0]) ⟨hx, hb, hml, hown, hts⟩ (s_X7_of l dC dI cs L K G Q hQ x0 m0 tx tm H.size I J hI p0 hLp0 hKp0 p2 ⟨by omega, by omega⟩ 1 ⟨by decide +kernel, by decide +kernel⟩) (cwV 2 hts (gV pq1320 pq1322 pq25 pq81 pq1323) rfl rfl rfl (by decide +kernel) ⟨(by rw [hR]; exact (Nat.le_of_ble_eq_true rfl)), (by rw [hR]; exact (Nat.le_of_ble_eq_true rfl))⟩) (sP_V hP hD hK hN hLp0 hKp0 rfl rfl) rfl rfl hl.1 rfl (lv_room (Nat.le_of_ble_eq_true rfl)) dX7_meets_6 ⟨(by rw [hR]; exact (Nat.le_of_ble_eq_true rfl)), (by rw [hR]; exact (Nat.le_of_ble_eq_true rfl))⟩) hS hP (fun z6 H locs hz6 hP hS => ?_)
  have cst6_1 : (1 : Int32).toInt = 1 := by decide +kernel
  obtain ⟨fez6, xpz6⟩ := hz6
  have bz6 := xpz6.2.1 rfl
  refine lv_aload_n hx hb dX7_meets_9 rfl (lv_at hl 0 rfl) ?_
  refine lv_iload_n hx hb dX7_meets_10 rfl (lv_at hl 1 rfl) ?_
  refine lv_iconst (v := 1) hx hb dX7_meets_11 (by decide +kernel) ?_
  refine ro_i (va_runV (As := [.int p1, .int 1]) (rest := [.int z6, .int p2, .int p1, .ref p0]) ⟨hx, hb, hml, hown, hts⟩ (s_X7_of l dC dI cs L K G Q hQ x0 m0 tx tm H.size I J hI p0 hLp0 hKp0 p1 ⟨by omega, by omega⟩ 1 ⟨by decide +kernel, by decide +kernel⟩) (cwV 2 hts (gV pq1320 pq1322 pq25 pq81 pq1323) rfl rfl rfl (by decide +kernel) ⟨(by rw [hR]; exact (Nat.le_of_ble_eq_true rfl)), (by rw [hR]; exact (Nat.le_of_ble_eq_true rfl))⟩) (sP_V hP hD hK hN hLp0 hKp0 rfl rfl) rfl rfl hl.1 rfl (lv_room (Nat.le_of_ble_eq_true rfl)) dX7_meets_12 ⟨(by rw [hR]; exact (Nat.le_of_ble_eq_true rfl)), (by rw [hR]; exact (Nat.le_of_ble_eq_true rfl))⟩) hS hP (fun z12 H locs hz12 hP hS => ?_)
  have cst12_1 : (1 : Int32).toInt = 1 := by decide +kernel
  obtain ⟨fez12, xpz12⟩ := hz12
  have bz12 := xpz12.2.1 rfl
  refine lv_isub hx hb dX7_meets_15 ?_
  refine lv_topi (fun z15 ez15 => ?_)
  have bz15 := tq_sub (k := z6.toInt) (q := z12.toInt) ez15 rfl rfl (by omega) (by omega)
  refine lv_iload_n hx hb dX7_meets_16 rfl (lv_at hl 3 rfl) ?_
  refine lv_isub hx hb dX7_meets_17 ?_
  refine lv_topi (fun z17 ez17 => ?_)
  refine lv_aload_n hx hb dX7_meets_18 rfl (lv_at hl 0 rfl) ?_
  refine lv_iload_n hx hb dX7_meets_19 rfl (lv_at hl 2 rfl) ?_
  refine lv_iconst (v := 2) hx hb dX7_meets_20 (by decide +kernel) ?_
  refine ro_i (va_runV (As := [.int p2, .int 2]) (rest := [.int z17, .int p2, .int p1, .ref p0]) ⟨hx, hb, hml, hown, hts⟩ (s_X7_of l dC dI cs L K G Q hQ x0 m0 tx tm H.size I J hI p0 hLp0 hKp0 p2 ⟨by omega, by omega⟩ 2 ⟨by decide +kernel, by decide +kernel⟩) (cwV 2 hts (gV pq1320 pq1322 pq25 pq81 pq1323) rfl rfl rfl (by decide +kernel) ⟨(by rw [hR]; exact (Nat.le_of_ble_eq_true rfl)), (by rw [hR]; exact (Nat.le_of_ble_eq_true rfl))⟩) (sP_V hP hD hK hN hLp0 hKp0 rfl rfl) rfl rfl hl.1 rfl (lv_room (Nat.le_of_ble_eq_true rfl)) dX7_meets_21 ⟨(by rw [hR]; exact (Nat.le_of_ble_eq_true rfl)), (by rw [hR]; exact (Nat.le_of_ble_eq_true rfl))⟩) hS hP (fun z21 H locs hz21 hP hS => ?_)
  have cst21_2 : (2 : Int32).toInt = 2 := by decide +kernel
  obtain ⟨fez21, xpz21⟩ := hz21
  have bz21 := xpz21.2.2.1 rfl
  refine lv_aload_n hx hb dX7_meets_24 rfl (lv_at hl 0 rfl) ?_
  refine lv_iload_n hx hb dX7_meets_25 rfl (lv_at hl 1 rfl) ?_
  refine lv_iconst (v := 2) hx hb dX7_meets_26 (by decide +kernel) ?_
  refine ro_i (va_runV (As := [.int p1, .int 2]) (rest := [.int z21, .int z17, .int p2, .int p1, .ref p0]) ⟨hx, hb, hml, hown, hts⟩ (s_X7_of l dC dI cs L K G Q hQ x0 m0 tx tm H.size I J hI p0 hLp0 hKp0 p1 ⟨by omega, by omega⟩ 2 ⟨by decide +kernel, by decide +kernel⟩) (cwV 2 hts (gV pq1320 pq1322 pq25 pq81 pq1323) rfl rfl rfl (by decide +kernel) ⟨(by rw [hR]; exact (Nat.le_of_ble_eq_true rfl)), (by rw [hR]; exact (Nat.le_of_ble_eq_true rfl))⟩) (sP_V hP hD hK hN hLp0 hKp0 rfl rfl) rfl rfl hl.1 rfl (lv_room (Nat.le_of_ble_eq_true rfl)) dX7_meets_27 ⟨(by rw [hR]; exact (Nat.le_of_ble_eq_true rfl)), (by rw [hR]; exact (Nat.le_of_ble_eq_true rfl))⟩) hS hP (fun z27 H locs hz27 hP hS => ?_)
  have cst27_2 : (2 : Int32).toInt = 2 := by decide +kernel
  obtain ⟨fez27, xpz27⟩ := hz27
  have bz27 := xpz27.2.2.1 rfl
  refine lv_isub hx hb dX7_meets_30 ?_
  refine lv_topi (fun z30 ez30 => ?_)
  have bz30 := tq_sub (k := z21.toInt) (q := z27.toInt) ez30 rfl rfl (by omega) (by omega)
  refine lv_iload hx hb dX7_meets_31 (lv_at hl 4 rfl) ?_
  refine lv_isub hx hb dX7_meets_33 ?_
  refine lv_topi (fun z33 ez33 => ?_)
  have bz33 := tq_sub (k := z30.toInt) (q := p4.toInt) ez33 rfl rfl (by omega) (by omega)
  refine lv_iconst (v := 1) hx hb dX7_meets_34 (by decide +kernel) ?_
  refine ro_i (va_runV (As := [.int p1, .int p2, .int z17, .int z33, .int 1]) (rest := []) ⟨hx, hb, hml, hown, hts⟩ (s_X7_overlaps l dC dI cs L K G Q hQ x0 m0 tx tm H.size I J hI p0 hLp0 hKp0 p1 ⟨by omega, by omega⟩ p2 ⟨by omega, by omega⟩ z17 z33 ⟨by omega, by omega⟩ 1 ⟨by decide +kernel, by decide +kernel⟩) (cwV 5 hts (gV pq1460 pq1462 pq47 pq81 pq1463) rfl rfl rfl (by decide +kernel) ⟨(by rw [hR]; exact (Nat.le_of_ble_eq_true rfl)), (by rw [hR]; exact (Nat.le_of_ble_eq_true rfl))⟩) (sP_V hP hD hK hN hLp0 hKp0 rfl rfl) rfl rfl hl.1 rfl (lv_room (Nat.le_of_ble_eq_true rfl)) dX7_meets_35 ⟨(by rw [hR]; exact (Nat.le_of_ble_eq_true rfl)), (by rw [hR]; exact (Nat.le_of_ble_eq_true rfl))⟩) hS hP (fun z35 H locs hz35 hP hS => ?_)
  have cst35_1 : (1 : Int32).toInt = 1 := by decide +kernel
  have xpz35 := hz35
  try rw [cst35_1] at xpz35
  refine lv_if_le (tgt := 45) hx hb dX7_meets_38 (by decide) (fun c38 => ?_) (fun c38 => ?_)
  · have t38 := tq_le (k := z35.toInt) (q := (0)) c38 rfl (by decide +kernel)
    refine lv_iconst (v := 0) hx hb dX7_meets_45 (by decide +kernel) ?_
    subst hR; subst hQz
    exact W.zret (v := 0) hx hb hr (by decide +kernel) (fun t ht hW => ⟨⟨0, (), rfl, ⟨⟨by decide +kernel, by decide +kernel⟩, ⟨fun h => absurd (by decide +kernel) h, fun c ok h l ha hb bd => by have oz6 : z6 = c.1 (19 + 8 * p2.toInt.toNat + 1) := (show z6 = I (a0 Q p0 0) (19 + 8 * p2.toInt.toNat + 1) from fez6).trans (h _ (by omega)); have oz12 : z12 = c.1 (19 + 8 * p1.toInt.toNat + 1) := (show z12 = I (a0 Q p0 0) (19 + 8 * p1.toInt.toNat + 1) from fez12).trans (h _ (by omega)); have oz21 : z21 = c.1 (19 + 8 * p2.toInt.toNat + 2) := (show z21 = I (a0 Q p0 0) (19 + 8 * p2.toInt.toNat + 2) from fez21).trans (h _ (by omega)); have oz27 : z27 = c.1 (19 + 8 * p1.toInt.toNat + 2) := (show z27 = I (a0 Q p0 0) (19 + 8 * p1.toInt.toNat + 2) from fez27).trans (h _ (by omega)); have e17 := tq_sub (k := z15.toInt) (q := p3.toInt) ez17 rfl rfl (by omega) (by omega); have e33 := tq_sub (k := z30.toInt) (q := p4.toInt) ez33 rfl rfl (by omega) (by omega); have w := xpz35.2.1 c ok h l ha hb; unfold metM bX bY; rw [← oz6, ← oz12, ← oz21, ← oz27, ← bz15, ← bz30, ← e17, ← e33, ← w]; exact ⟨fun q => absurd (by decide +kernel) q, fun q => by omega⟩⟩⟩, trivial⟩, hS.F ht⟩) hS.2.2 dX7_meets_46
  · have t38 := tq_nle (k := z35.toInt) (q := (0)) c38 rfl (by decide +kernel)
    have rg38z35 := fb_rng z35
    refine lv_iconst (v := 1) hx hb dX7_meets_41 (by decide +kernel) ?_
    refine lv_goto (tgt := 46) hx hb dX7_meets_42 (by decide) ?_
    subst hR; subst hQz
    exact W.zret (v := 1) hx hb hr (by decide +kernel) (fun t ht hW => ⟨⟨1, (), rfl, ⟨⟨by decide +kernel, by decide +kernel⟩, ⟨fun _ => by have q := xpz35.1 t38; have e1 := congrArg Int32.toInt (show z21 = I ((Q p0 0).getD 0) (19 + 8 * p2.toInt.toNat + 2) from fez21); have e2 := congrArg Int32.toInt (show z27 = I ((Q p0 0).getD 0) (19 + 8 * p1.toInt.toNat + 2) from fez27); omega, fun c ok h l ha hb bd => by have oz6 : z6 = c.1 (19 + 8 * p2.toInt.toNat + 1) := (show z6 = I (a0 Q p0 0) (19 + 8 * p2.toInt.toNat + 1) from fez6).trans (h _ (by omega)); have oz12 : z12 = c.1 (19 + 8 * p1.toInt.toNat + 1) := (show z12 = I (a0 Q p0 0) (19 + 8 * p1.toInt.toNat + 1) from fez12).trans (h _ (by omega)); have oz21 : z21 = c.1 (19 + 8 * p2.toInt.toNat + 2) := (show z21 = I (a0 Q p0 0) (19 + 8 * p2.toInt.toNat + 2) from fez21).trans (h _ (by omega)); have oz27 : z27 = c.1 (19 + 8 * p1.toInt.toNat + 2) := (show z27 = I (a0 Q p0 0) (19 + 8 * p1.toInt.toNat + 2) from fez27).trans (h _ (by omega)); have e17 := tq_sub (k := z15.toInt) (q := p3.toInt) ez17 rfl rfl (by omega) (by omega); have e33 := tq_sub (k := z30.toInt) (q := p4.toInt) ez33 rfl rfl (by omega) (by omega); have w := xpz35.2.1 c ok h l ha hb; unfold metM bX bY; rw [← oz6, ← oz12, ← oz21, ← oz27, ← bz15, ← bz30, ← e17, ← e33, ← w]; exact ⟨fun _ => t38, fun _ => by decide +kernel⟩⟩⟩, trivial⟩, hS.F ht⟩) hS.2.2 dX7_meets_46

set_option maxHeartbeats 4000000 in
set_option maxRecDepth 100000 in
theorem s_X7_commonBy (l : Launch) (dC : Nat → ClassId) (dI : Nat → Nat → Nat) (cs : Nat → ClassId) (L : List Nat) (K G : Nat → Nat) (Q : Nat → Nat → Option Nat) (hQ : Sv L K G Q) (x0 m0 : Nat) (tx : GT) (tm : GT × Int) (sz : Nat) (I : Nat → Nat → Int32) (J : Nat → Nat → Int64) (hI : Iv L K x0 m0 tx tm I) (p0 : Nat) (hLp0 : p0 ∈ L) (hKp0 : K p0 = 7) (p1 : Int32) (bp1 : (0) ≤ p1.toInt ∧ p1.toInt ≤ 9) (p2 : Int32) (bp2 : (0) ≤ p2.toInt ∧ p2.toInt ≤ 9) (p3 : Int32) (p4 : Int32) (bp4 : (-2000000000) ≤ p4.toInt ∧ p4.toInt ≤ 2000000000) : Met l yX7_commonBy (.code yX7_commonBy cX7_commonBy 5 (some .int) :: pw) ({ frames := 3, cells := 0, slots := 0, locals := 74 }) (sP (dC, dI) cs [.ref p0, .int p1, .int p2, .int p3, .int p4] sz L K I J Q) (va_Qi (fun (r : Int32) (_ : Unit) => (∀ c : Fx, okF c → rI Q I p0 c → ldA Q J p0 c → p1.toInt.toNat < (c.1 1).toInt.toNat → p2.toInt.toNat < (c.1 1).toInt.toNat → ((-20000 ≤ p3.toInt ∧ p3.toInt ≤ 20000) ∧ (-20000 ≤ p4.toInt ∧ p4.toInt ≤ 20000)) → r.toInt = coN c p1.toInt.toNat p2.toInt.toNat p3.toInt p4.toInt)) (fun _ _ => True) (fun _ => False)) 0 0 (fun _ => False) := by
  refine Met.ofW (cc := cX7_commonBy) (maxL := 5) (ret := (some .int)) (by decide +kernel) rfl ?_
  intro p e s m args below meth c s₁ B hml hv
  obtain ⟨rfl, hsz, hP, hK, hD0, hN⟩ := hv
  have hx := B.exec
  have hb := B.bytes
  have hr := B.returns
  have hts := fun w (h : w ∈ pw) => atoms_spec (ws := Cond.code yX7_commonBy cX7_commonBy 5 (some .int) :: pw) B.pre w (List.mem_cons_of_mem _ h)
  have hown : s.vm.findClass RX7 = some m.cls := findClass_of_methodNamed B.named
  have hlocks := B.notSynchronized
  subst hsz
  have hBB : 999 ≤ tm.2 ∧ tm.2 ≤ 6000000 := hI.2.2.2.2.1
  have hD := hD0
  obtain ⟨H, hHe⟩ : ∃ H : Heap, H = s.heap := ⟨_, rfl⟩
  have hS : va_S (fun _ => False) s.heap H [] := by rw [hHe]; exact va_S.rf
  rw [← hHe] at hP
  have hl := lv_entry ([.ref p0, .int p1, .int p2, .int p3, .int p4]) (n := 5) (Nat.le_of_ble_eq_true rfl)
  rw [lg_entry_eq]
  generalize (lg_sl ([.ref p0, .int p1, .int p2, .int p3, .int p4]) ++ List.replicate (5 - (lg_sl ([.ref p0, .int p1, .int p2, .int p3, .int p4])).length) Slot.unset).toArray = ls at hl ⊢
  have hl : lv_has ls 5 [(0, .ref p0), (1, .int p1), (2, .int p2), (3, .int p3), (4, .int p4)] := hl
  rw [← hHe]
  refine namedW (fun R Qz hR hQz => ?_)
  refine lv_aload_n hx hb dX7_commonBy_0 rfl (lv_at hl 0 rfl) ?_
  refine lv_iload_n hx hb dX7_commonBy_1 rfl (lv_at hl 1 rfl) ?_
  refine lv_iload_n hx hb dX7_commonBy_2 rfl (lv_at hl 2 rfl) ?_
  refine lv_aload_n hx hb dX7_commonBy_3 rfl (lv_at hl 0 rfl) ?_
  refine lv_iload_n hx hb dX7_commonBy_4 rfl (lv_at hl 2 rfl) ?_
  refine lv_iconst (v := 1) hx hb dX7_commonBy_5 (by decide +kernel) ?_
  refine ro_i (va_runV (As := [.int p2, .int 1]) (rest := [.int p2, .int p1, .ref p0]) ⟨hx, hb, hml, hown, hts⟩ (s_X7_of l dC dI cs L K G Q hQ x0 m0 tx tm H.size I J hI p0 hLp0 hKp0 p2 ⟨by omega, by omega⟩ 1 ⟨by decide +kernel, by decide +kernel⟩) (cwV 2 hts (gV pq1320 pq1322 pq25 pq81 pq1323) rfl rfl rfl (by decide +kernel) ⟨(by rw [hR]; exact (Nat.le_of_ble_eq_true rfl)), (by rw [hR]; exact (Nat.le_of_ble_eq_true rfl))⟩) (sP_V hP hD hK hN hLp0 hKp0 rfl rfl) rfl rfl hl.1 rfl (lv_room (Nat.le_of_ble_eq_true rfl)) dX7_commonBy_6 ⟨(by rw [hR]; exact (Nat.le_of_ble_eq_true rfl)), (by rw [hR]; exact (Nat.le_of_ble_eq_true rfl))⟩) hS hP (fun z6 H locs hz6 hP hS => ?_)
  have cst6_1 : (1 : Int32).toInt = 1 := by decide +kernel
  obtain ⟨fez6, xpz6⟩ := hz6
  have bz6 := xpz6.2.1 rfl
  refine lv_aload_n hx hb dX7_commonBy_9 rfl (lv_at hl 0 rfl) ?_
  refine lv_iload_n hx hb dX7_commonBy_10 rfl (lv_at hl 1 rfl) ?_
  refine lv_iconst (v := 1) hx hb dX7_commonBy_11 (by decide +kernel) ?_
  refine ro_i (va_runV (As := [.int p1, .int 1]) (rest := [.int z6, .int p2, .int p1, .ref p0]) ⟨hx, hb, hml, hown, hts⟩ (s_X7_of l dC dI cs L K G Q hQ x0 m0 tx tm H.size I J hI p0 hLp0 hKp0 p1 ⟨by omega, by omega⟩ 1 ⟨by decide +kernel, by decide +kernel⟩) (cwV 2 hts (gV pq1320 pq1322 pq25 pq81 pq1323) rfl rfl rfl (by decide +kernel) ⟨(by rw [hR]; exact (Nat.le_of_ble_eq_true rfl)), (by rw [hR]; exact (Nat.le_of_ble_eq_true rfl))⟩) (sP_V hP hD hK hN hLp0 hKp0 rfl rfl) rfl rfl hl.1 rfl (lv_room (Nat.le_of_ble_eq_true rfl)) dX7_commonBy_12 ⟨(by rw [hR]; exact (Nat.le_of_ble_eq_true rfl)), (by rw [hR]; exact (Nat.le_of_ble_eq_true rfl))⟩) hS hP (fun z12 H locs hz12 hP hS => ?_)
  have cst12_1 : (1 : Int32).toInt = 1 := by decide +kernel
  obtain ⟨fez12, xpz12⟩ := hz12
  have bz12 := xpz12.2.1 rfl
  refine lv_isub hx hb dX7_commonBy_15 ?_
  refine lv_topi (fun z15 ez15 => ?_)
  have bz15 := tq_sub (k := z6.toInt) (q := z12.toInt) ez15 rfl rfl (by omega) (by omega)
  refine lv_iload_n hx hb dX7_commonBy_16 rfl (lv_at hl 3 rfl) ?_
  refine lv_isub hx hb dX7_commonBy_17 ?_
  refine lv_topi (fun z17 ez17 => ?_)
  refine lv_aload_n hx hb dX7_commonBy_18 rfl (lv_at hl 0 rfl) ?_
  refine lv_iload_n hx hb dX7_commonBy_19 rfl (lv_at hl 2 rfl) ?_
  refine lv_iconst (v := 2) hx hb dX7_commonBy_20 (by decide +kernel) ?_
  refine ro_i (va_runV (As := [.int p2, .int 2]) (rest := [.int z17, .int p2, .int p1, .ref p0]) ⟨hx, hb, hml, hown, hts⟩ (s_X7_of l dC dI cs L K G Q hQ x0 m0 tx tm H.size I J hI p0 hLp0 hKp0 p2 ⟨by omega, by omega⟩ 2 ⟨by decide +kernel, by decide +kernel⟩) (cwV 2 hts (gV pq1320 pq1322 pq25 pq81 pq1323) rfl rfl rfl (by decide +kernel) ⟨(by rw [hR]; exact (Nat.le_of_ble_eq_true rfl)), (by rw [hR]; exact (Nat.le_of_ble_eq_true rfl))⟩) (sP_V hP hD hK hN hLp0 hKp0 rfl rfl) rfl rfl hl.1 rfl (lv_room (Nat.le_of_ble_eq_true rfl)) dX7_commonBy_21 ⟨(by rw [hR]; exact (Nat.le_of_ble_eq_true rfl)), (by rw [hR]; exact (Nat.le_of_ble_eq_true rfl))⟩) hS hP (fun z21 H locs hz21 hP hS => ?_)
  have cst21_2 : (2 : Int32).toInt = 2 := by decide +kernel
  obtain ⟨fez21, xpz21⟩ := hz21
  have bz21 := xpz21.2.2.1 rfl
  refine lv_aload_n hx hb dX7_commonBy_24 rfl (lv_at hl 0 rfl) ?_
  refine lv_iload_n hx hb dX7_commonBy_25 rfl (lv_at hl 1 rfl) ?_
  refine lv_iconst (v := 2) hx hb dX7_commonBy_26 (by decide +kernel) ?_
  refine ro_i (va_runV (As := [.int p1, .int 2]) (rest := [.int z21, .int z17, .int p2, .int p1, .ref p0]) ⟨hx, hb, hml, hown, hts⟩ (s_X7_of l dC dI cs L K G Q hQ x0 m0 tx tm H.size I J hI p0 hLp0 hKp0 p1 ⟨by omega, by omega⟩ 2 ⟨by decide +kernel, by decide +kernel⟩) (cwV 2 hts (gV pq1320 pq1322 pq25 pq81 pq1323) rfl rfl rfl (by decide +kernel) ⟨(by rw [hR]; exact (Nat.le_of_ble_eq_true rfl)), (by rw [hR]; exact (Nat.le_of_ble_eq_true rfl))⟩) (sP_V hP hD hK hN hLp0 hKp0 rfl rfl) rfl rfl hl.1 rfl (lv_room (Nat.le_of_ble_eq_true rfl)) dX7_commonBy_27 ⟨(by rw [hR]; exact (Nat.le_of_ble_eq_true rfl)), (by rw [hR]; exact (Nat.le_of_ble_eq_true rfl))⟩) hS hP (fun z27 H locs hz27 hP hS => ?_)
  have cst27_2 : (2 : Int32).toInt = 2 := by decide +kernel
  obtain ⟨fez27, xpz27⟩ := hz27
  have bz27 := xpz27.2.2.1 rfl
  refine lv_isub hx hb dX7_commonBy_30 ?_
  refine lv_topi (fun z30 ez30 => ?_)
  have bz30 := tq_sub (k := z21.toInt) (q := z27.toInt) ez30 rfl rfl (by omega) (by omega)
  refine lv_iload hx hb dX7_commonBy_31 (lv_at hl 4 rfl) ?_
  refine lv_isub hx hb dX7_commonBy_33 ?_
  refine lv_topi (fun z33 ez33 => ?_)
  have bz33 := tq_sub (k := z30.toInt) (q := p4.toInt) ez33 rfl rfl (by omega) (by omega)
  refine lv_iconst (v := 0) hx hb dX7_commonBy_34 (by decide +kernel) ?_
  refine ro_i (va_runV (As := [.int p1, .int p2, .int z17, .int z33, .int 0]) (rest := []) ⟨hx, hb, hml, hown, hts⟩ (s_X7_overlaps l dC dI cs L K G Q hQ x0 m0 tx tm H.size I J hI p0 hLp0 hKp0 p1 ⟨by omega, by omega⟩ p2 ⟨by omega, by omega⟩ z17 z33 ⟨by omega, by omega⟩ 0 ⟨by decide +kernel, by decide +kernel⟩) (cwV 5 hts (gV pq1460 pq1462 pq47 pq81 pq1463) rfl rfl rfl (by decide +kernel) ⟨(by rw [hR]; exact (Nat.le_of_ble_eq_true rfl)), (by rw [hR]; exact (Nat.le_of_ble_eq_true rfl))⟩) (sP_V hP hD hK hN hLp0 hKp0 rfl rfl) rfl rfl hl.1 rfl (lv_room (Nat.le_of_ble_eq_true rfl)) dX7_commonBy_35 ⟨(by rw [hR]; exact (Nat.le_of_ble_eq_true rfl)), (by rw [hR]; exact (Nat.le_of_ble_eq_true rfl))⟩) hS hP (fun z35 H locs hz35 hP hS => ?_)
  have cst35_0 : (0 : Int32).toInt = 0 := by decide +kernel
  have xpz35 := hz35
  try rw [cst35_0] at xpz35
  subst hR; subst hQz
  exact W.iret (v := z35) hx hb hr (fun t ht hW => ⟨⟨z35, (), rfl, (fun c ok h l ha hb bd => by have oz6 : z6 = c.1 (19 + 8 * p2.toInt.toNat + 1) := (show z6 = I (a0 Q p0 0) (19 + 8 * p2.toInt.toNat + 1) from fez6).trans (h _ (by omega)); have oz12 : z12 = c.1 (19 + 8 * p1.toInt.toNat + 1) := (show z12 = I (a0 Q p0 0) (19 + 8 * p1.toInt.toNat + 1) from fez12).trans (h _ (by omega)); have oz21 : z21 = c.1 (19 + 8 * p2.toInt.toNat + 2) := (show z21 = I (a0 Q p0 0) (19 + 8 * p2.toInt.toNat + 2) from fez21).trans (h _ (by omega)); have oz27 : z27 = c.1 (19 + 8 * p1.toInt.toNat + 2) := (show z27 = I (a0 Q p0 0) (19 + 8 * p1.toInt.toNat + 2) from fez27).trans (h _ (by omega)); have e17 := tq_sub (k := z15.toInt) (q := p3.toInt) ez17 rfl rfl (by omega) (by omega); have e33 := tq_sub (k := z30.toInt) (q := p4.toInt) ez33 rfl rfl (by omega) (by omega); have w := xpz35.2.2 c ok h l ha hb (by decide +kernel); unfold coN bX bY; rw [← oz6, ← oz12, ← oz21, ← oz27, ← bz15, ← bz30, ← e17, ← e33]; rw [w]), trivial⟩, hS.F ht⟩) hS.2.2 dX7_commonBy_38

set_option maxHeartbeats 4000000 in
set_option maxRecDepth 100000 in
theorem s_X7_touches (l : Launch) (dC : Nat → ClassId) (dI : Nat → Nat → Nat) (cs : Nat → ClassId) (L : List Nat) (K G : Nat → Nat) (Q : Nat → Nat → Option Nat) (hQ : Sv L K G Q) (x0 m0 : Nat) (tx : GT) (tm : GT × Int) (sz : Nat) (I : Nat → Nat → Int32) (J : Nat → Nat → Int64) (hI : Iv L K x0 m0 tx tm I) (p0 : Nat) (hLp0 : p0 ∈ L) (hKp0 : K p0 = 7) (p1 : Int32) (bp1 : (0) ≤ p1.toInt ∧ p1.toInt ≤ 9) (p2 : Int32) (bp2 : (0) ≤ p2.toInt ∧ p2.toInt ≤ 9) (p3 : Int32) (p4 : Int32) (bp4 : (-2000000000) ≤ p4.toInt ∧ p4.toInt ≤ 2000000000) : Met l yX7_touches (.code yX7_touches cX7_touches 5 (some .boolean) :: pw) ({ frames := 4, cells := 0, slots := 0, locals := 98 }) (sP (dC, dI) cs [.ref p0, .int p1, .int p2, .int p3, .int p4] sz L K I J Q) (va_Qi (fun (r : Int32) (_ : Unit) => ((0) ≤ r.toInt ∧ r.toInt ≤ 1) ∧ (∀ c : Fx, okF c → rI Q I p0 c → ldA Q J p0 c → p1.toInt.toNat < (c.1 1).toInt.toNat → p2.toInt.toNat < (c.1 1).toInt.toNat → ((-20000 ≤ p3.toInt ∧ p3.toInt ≤ 20000) ∧ (-20000 ≤ p4.toInt ∧ p4.toInt ≤ 20000)) → (¬ r.toInt = 0 ↔ ¬ p1.toInt.toNat = p2.toInt.toNat ∧ mayT c p1.toInt.toNat p2.toInt.toNat ∧ metM c p1.toInt.toNat p2.toInt.toNat p3.toInt p4.toInt))) (fun _ _ => True) (fun _ => False)) 0 0 (fun _ => False) := by
  refine Met.ofW (cc := cX7_touches) (maxL := 5) (ret := (some .boolean)) (by decide +kernel) rfl ?_
  intro p e s m args below meth c s₁ B hml hv
  obtain ⟨rfl, hsz, hP, hK, hD0, hN⟩ := hv
  have hx := B.exec
  have hb := B.bytes
  have hr := B.returns
  have hts := fun w (h : w ∈ pw) => atoms_spec (ws := Cond.code yX7_touches cX7_touches 5 (some .boolean) :: pw) B.pre w (List.mem_cons_of_mem _ h)
  have hown : s.vm.findClass RX7 = some m.cls := findClass_of_methodNamed B.named
  have hlocks := B.notSynchronized
  subst hsz
  have hBB : 999 ≤ tm.2 ∧ tm.2 ≤ 6000000 := hI.2.2.2.2.1
  have hD := hD0
  obtain ⟨H, hHe⟩ : ∃ H : Heap, H = s.heap := ⟨_, rfl⟩
  have hS : va_S (fun _ => False) s.heap H [] := by rw [hHe]; exact va_S.rf
  rw [← hHe] at hP
  have hl := lv_entry ([.ref p0, .int p1, .int p2, .int p3, .int p4]) (n := 5) (Nat.le_of_ble_eq_true rfl)
  rw [lg_entry_eq]
  generalize (lg_sl ([.ref p0, .int p1, .int p2, .int p3, .int p4]) ++ List.replicate (5 - (lg_sl ([.ref p0, .int p1, .int p2, .int p3, .int p4])).length) Slot.unset).toArray = ls at hl ⊢
  have hl : lv_has ls 5 [(0, .ref p0), (1, .int p1), (2, .int p2), (3, .int p3), (4, .int p4)] := hl
  rw [← hHe]
  refine namedW (fun R Qz hR hQz => ?_)
  refine lv_iload_n hx hb dX7_touches_0 rfl (lv_at hl 1 rfl) ?_
  refine lv_iload_n hx hb dX7_touches_1 rfl (lv_at hl 2 rfl) ?_
  refine lv_icmp_eq (tgt := 30) hx hb dX7_touches_2 (by decide) (fun c2 => ?_) (fun c2 => ?_)
  · have t2 := tq_eq (k := p1.toInt) (q := p2.toInt) c2 rfl rfl
    refine lv_iconst (v := 0) hx hb dX7_touches_30 (by decide +kernel) ?_
    subst hR; subst hQz
    exact W.zret (v := 0) hx hb hr (by decide +kernel) (fun t ht hW => ⟨⟨0, (), rfl, ⟨⟨by decide +kernel, by decide +kernel⟩, (fun c ok h l ha hb bd => ⟨fun q => absurd (by decide +kernel) q, fun q => by first | exact absurd (show p1.toInt.toNat = p2.toInt.toNat by omega) q.1 | exact absurd t11 ((xpz8 c h).mpr q.2.1) | exact absurd t23 ((xpz20.2 c ok h l ha hb bd).mpr q.2.2)⟩)⟩, trivial⟩, hS.F ht⟩) hS.2.2 dX7_touches_31
  · have t2 := tq_ne (k := p1.toInt) (q := p2.toInt) c2 rfl rfl
    refine lv_aload_n hx hb dX7_touches_5 rfl (lv_at hl 0 rfl) ?_
    refine lv_iload_n hx hb dX7_touches_6 rfl (lv_at hl 1 rfl) ?_
    refine lv_iload_n hx hb dX7_touches_7 rfl (lv_at hl 2 rfl) ?_
    refine ro_i (va_runV (As := [.int p1, .int p2]) (rest := []) ⟨hx, hb, hml, hown, hts⟩ (s_X7_mayTouch l dC dI cs L K G Q hQ x0 m0 tx tm H.size I J hI p0 hLp0 hKp0 p1 ⟨by omega, by omega⟩ p2 ⟨by omega, by omega⟩) (cwV 2 hts (gV pq1452 pq1454 pq45 pq81 pq1455) rfl rfl rfl (by decide +kernel) ⟨(by rw [hR]; exact (Nat.le_of_ble_eq_true rfl)), (by rw [hR]; exact (Nat.le_of_ble_eq_true rfl))⟩) (sP_V hP hD hK hN hLp0 hKp0 rfl rfl) rfl rfl hl.1 rfl (lv_room (Nat.le_of_ble_eq_true rfl)) dX7_touches_8 ⟨(by rw [hR]; exact (Nat.le_of_ble_eq_true rfl)), (by rw [hR]; exact (Nat.le_of_ble_eq_true rfl))⟩) hS hP (fun z8 H locs hz8 hP hS => ?_)
    obtain ⟨bz8, xpz8⟩ := hz8
    refine lv_if_eq (tgt := 30) hx hb dX7_touches_11 (by decide) (fun c11 => ?_) (fun c11 => ?_)
    · have t11 := tq_eq (k := z8.toInt) (q := (0)) c11 rfl (by decide +kernel)
      refine lv_iconst (v := 0) hx hb dX7_touches_30 (by decide +kernel) ?_
      subst hR; subst hQz
      exact W.zret (v := 0) hx hb hr (by decide +kernel) (fun t ht hW => ⟨⟨0, (), rfl, ⟨⟨by decide +kernel, by decide +kernel⟩, (fun c ok h l ha hb bd => ⟨fun q => absurd (by decide +kernel) q, fun q => by first | exact absurd (show p1.toInt.toNat = p2.toInt.toNat by omega) q.1 | exact absurd t11 ((xpz8 c h).mpr q.2.1) | exact absurd t23 ((xpz20.2 c ok h l ha hb bd).mpr q.2.2)⟩)⟩, trivial⟩, hS.F ht⟩) hS.2.2 dX7_touches_31
    · have t11 := tq_ne (k := z8.toInt) (q := (0)) c11 rfl (by decide +kernel)
      refine lv_aload_n hx hb dX7_touches_14 rfl (lv_at hl 0 rfl) ?_
      refine lv_iload_n hx hb dX7_touches_15 rfl (lv_at hl 1 rfl) ?_
      refine lv_iload_n hx hb dX7_touches_16 rfl (lv_at hl 2 rfl) ?_
      refine lv_iload_n hx hb dX7_touches_17 rfl (lv_at hl 3 rfl) ?_
      refine lv_iload hx hb dX7_touches_18 (lv_at hl 4 rfl) ?_
      refine ro_i (va_runV (As := [.int p1, .int p2, .int p3, .int p4]) (rest := []) ⟨hx, hb, hml, hown, hts⟩ (s_X7_meets l dC dI cs L K G Q hQ x0 m0 tx tm H.size I J hI p0 hLp0 hKp0 p1 ⟨by omega, by omega⟩ p2 ⟨by omega, by omega⟩ p3 p4 ⟨by omega, by omega⟩) (cwV 4 hts (gV pq1456 pq1458 pq46 pq81 pq1459) rfl rfl rfl (by decide +kernel) ⟨(by rw [hR]; exact (Nat.le_of_ble_eq_true rfl)), (by rw [hR]; exact (Nat.le_of_ble_eq_true rfl))⟩) (sP_V hP hD hK hN hLp0 hKp0 rfl rfl) rfl rfl hl.1 rfl (lv_room (Nat.le_of_ble_eq_true rfl)) dX7_touches_20 ⟨(by rw [hR]; exact (Nat.le_of_ble_eq_true rfl)), (by rw [hR]; exact (Nat.le_of_ble_eq_true rfl))⟩) hS hP (fun z20 H locs hz20 hP hS => ?_)
      obtain ⟨bz20, xpz20⟩ := hz20
      refine lv_if_eq (tgt := 30) hx hb dX7_touches_23 (by decide) (fun c23 => ?_) (fun c23 => ?_)
      · have t23 := tq_eq (k := z20.toInt) (q := (0)) c23 rfl (by decide +kernel)
        refine lv_iconst (v := 0) hx hb dX7_touches_30 (by decide +kernel) ?_
        subst hR; subst hQz
        exact W.zret (v := 0) hx hb hr (by decide +kernel) (fun t ht hW => ⟨⟨0, (), rfl, ⟨⟨by decide +kernel, by decide +kernel⟩, (fun c ok h l ha hb bd => ⟨fun q => absurd (by decide +kernel) q, fun q => by first | exact absurd (show p1.toInt.toNat = p2.toInt.toNat by omega) q.1 | exact absurd t11 ((xpz8 c h).mpr q.2.1) | exact absurd t23 ((xpz20.2 c ok h l ha hb bd).mpr q.2.2)⟩)⟩, trivial⟩, hS.F ht⟩) hS.2.2 dX7_touches_31
      · have t23 := tq_ne (k := z20.toInt) (q := (0)) c23 rfl (by decide +kernel)
        refine lv_iconst (v := 1) hx hb dX7_touches_26 (by decide +kernel) ?_
        refine lv_goto (tgt := 31) hx hb dX7_touches_27 (by decide) ?_
        subst hR; subst hQz
        exact W.zret (v := 1) hx hb hr (by decide +kernel) (fun t ht hW => ⟨⟨1, (), rfl, ⟨⟨by decide +kernel, by decide +kernel⟩, (fun c ok h l ha hb bd => ⟨fun _ => ⟨by omega, (xpz8 c h).mp t11, (xpz20.2 c ok h l ha hb bd).mp t23⟩, fun _ => by decide +kernel⟩)⟩, trivial⟩, hS.F ht⟩) hS.2.2 dX7_touches_31

set_option maxHeartbeats 4000000 in
set_option maxRecDepth 100000 in
theorem s_X7_touchingOf (l : Launch) (dC : Nat → ClassId) (dI : Nat → Nat → Nat) (cs : Nat → ClassId) (L : List Nat) (K G : Nat → Nat) (Q : Nat → Nat → Option Nat) (hQ : Sv L K G Q) (x0 m0 : Nat) (tx : GT) (tm : GT × Int) (sz : Nat) (I : Nat → Nat → Int32) (J : Nat → Nat → Int64) (hI : Iv L K x0 m0 tx tm I) (p0 : Nat) (hLp0 : p0 ∈ L) (hKp0 : K p0 = 7) (p1 : Int32) (bp1 : (0) ≤ p1.toInt ∧ p1.toInt ≤ 9) : Met l yX7_touchingOf (.code yX7_touchingOf cX7_touchingOf 4 (some .int) :: pw) ({ frames := 5, cells := 0, slots := 0, locals := 122 }) (sP (dC, dI) cs [.ref p0, .int p1] sz L K I J Q) (va_Qi (fun (r : Int32) (_ : Unit) => (∀ c : Fx, okF c → rI Q I p0 c → ldA Q J p0 c → p1.toInt.toNat < (c.1 1).toInt.toNat → (∀ o : Nat, o < (c.1 1).toInt.toNat → (hbt r o = true ↔ ¬ p1.toInt.toNat = o ∧ mayT c p1.toInt.toNat o ∧ metM c p1.toInt.toNat o 0 0)) ∧ ∀ o : Nat, (c.1 1).toInt.toNat ≤ o → hbt r o = false)) (fun _ _ => True) (fun _ => False)) 0 0 (fun _ => False) := by
  refine Met.ofW (cc := cX7_touchingOf) (maxL := 4) (ret := (some .int)) (by decide +kernel) rfl ?_
  intro p e s m args below meth c s₁ B hml hv
  obtain ⟨rfl, hsz, hP, hK, hD0, hN⟩ := hv
  have hx := B.exec
  have hb := B.bytes
  have hr := B.returns
  have hts := fun w (h : w ∈ pw) => atoms_spec (ws := Cond.code yX7_touchingOf cX7_touchingOf 4 (some .int) :: pw) B.pre w (List.mem_cons_of_mem _ h)
  have hown : s.vm.findClass RX7 = some m.cls := findClass_of_methodNamed B.named
  have hlocks := B.notSynchronized
  subst hsz
  have hBB : 999 ≤ tm.2 ∧ tm.2 ≤ 6000000 := hI.2.2.2.2.1
  have hD := hD0
  obtain ⟨H, hHe⟩ : ∃ H : Heap, H = s.heap := ⟨_, rfl⟩
  have hS : va_S (fun _ => False) s.heap H [] := by rw [hHe]; exact va_S.rf
  rw [← hHe] at hP
  have hl := lv_entry ([.ref p0, .int p1]) (n := 4) (Nat.le_of_ble_eq_true rfl)
  rw [lg_entry_eq]
  generalize (lg_sl ([.ref p0, .int p1]) ++ List.replicate (4 - (lg_sl ([.ref p0, .int p1])).length) Slot.unset).toArray = ls at hl ⊢
  have hl : lv_has ls 4 [(0, .ref p0), (1, .int p1)] := hl
  rw [← hHe]
  refine namedW (fun R Qz hR hQz => ?_)
  refine lv_iconst (v := 0) hx hb dX7_touchingOf_0 (by decide +kernel) ?_
  refine lv_istore_n (lv' := [(2, .int 0), (0, .ref p0), (1, .int p1)]) hx hb dX7_touchingOf_1 rfl hl (by decide) rfl (fun ls hl => ?_)
  refine lv_iconst (v := 0) hx hb dX7_touchingOf_2 (by decide +kernel) ?_
  refine lv_istore_n (lv' := [(3, .int 0), (2, .int 0), (0, .ref p0), (1, .int p1)]) hx hb dX7_touchingOf_3 rfl hl (by decide) rfl (fun ls hl => ?_)
  have key4 := blocks (fun n => ∀ (v4_2 : Int32) (v4_3 : Int32) (H : Heap) (lo : List Loc) (ls : Array Slot), (11 - v4_3.toInt).toNat = n → ((0) ≤ v4_3.toInt ∧ v4_3.toInt ≤ 10) → (∀ c : Fx, okF c → rI Q I p0 c → ldA Q J p0 c → p1.toInt.toNat < (c.1 1).toInt.toNat → (∀ o : Nat, o < v4_3.toInt.toNat → o < (c.1 1).toInt.toNat → (hbt v4_2 o = true ↔ ¬ p1.toInt.toNat = o ∧ mayT c p1.toInt.toNat o ∧ metM c p1.toInt.toNat o 0 0)) ∧ ∀ o : Nat, v4_3.toInt.toNat ≤ o → hbt v4_2 o = false) → (v4_3.toInt ≤ (I (a0 Q p0 0) 1).toInt ∨ v4_3.toInt = 0) → va_P (dC, dI) vwCl (Wd cs L K I J Q) H → va_S (fun _ => False) s.heap H lo → lv_has ls 4 [(0, .ref p0), (1, .int p1), (2, .int v4_2), (3, .int v4_3)] → W p l e R s m (([.ref p0, .int p1] : List Value).toArray) below meth c H lo 0 0 Qz (F0 m 4 ls [])) (by
    intro n ih4
    intro v4_2 v4_3 H lo ls hmu4 bv4_3 h4 hw4 hP hS hl
    refine lv_iload_n hx hb dX7_touchingOf_4 rfl (lv_at hl 3 rfl) ?_
    refine lv_aload_n hx hb dX7_touchingOf_5 rfl (lv_at hl 0 rfl) ?_
    obtain ⟨y6, ey6, hLy6, hKy6⟩ := oQ_7_0 (Sv_at hQ hLp0 hKp0)
    refine p_get (v := .ref y6) hx hb hts inX7 hown hK hP hLp0 hKp0 rfl rfl 0 (by decide) (hts _ pq1115) (congrArg (fun q => some (va_rf q)) ey6) dX7_touchingOf_6 ?_
    refine lv_iconst (v := 1) hx hb dX7_touchingOf_9 (by decide +kernel) ?_
    refine p_iald hx hb hK hP 8 hLy6 hKy6 rfl rfl (in_d (by decide +kernel)) dX7_touchingOf_10 ?_
    refine lv_topi (fun z10 ez10 => ?_)
    have bz10 := rng1 (oR_18 (i := (1 : Int32)) (k := (1)) (by decide +kernel) (Iv_at hI hLy6 hKy6))
    rw [← ez10] at bz10
    refine lv_icmp_ge (tgt := 41) hx hb dX7_touchingOf_11 (by decide) (fun c11 => ?_) (fun c11 => ?_)
    · have t11 := tq_le (k := z10.toInt) (q := v4_3.toInt) c11 rfl rfl
      refine lv_iload_n hx hb dX7_touchingOf_41 rfl (lv_at hl 2 rfl) ?_
      subst hR; subst hQz
      exact W.iret (v := v4_2) hx hb hr (fun t ht hW => ⟨⟨v4_2, (), rfl, (fun c ok h l ha => by have n : z10 = c.1 1 := (show z10 = I (a0 Q p0 0) 1 from by rw [ez10, show a0 Q p0 0 = y6 from gd_of ey6]; rfl).trans (h _ (by decide)); have e := congrArg Int32.toInt (show z10 = I (a0 Q p0 0) 1 from by rw [ez10, show a0 Q p0 0 = y6 from gd_of ey6]; rfl); exact ⟨fun o ho => (h4 c ok h l ha).1 o (by rw [← n] at ho; omega) ho, fun o ho => (h4 c ok h l ha).2 o (by rw [← n] at ho; omega)⟩), trivial⟩, hS.F ht⟩) hS.2.2 dX7_touchingOf_42
    · have t11 := tq_nle (k := z10.toInt) (q := v4_3.toInt) c11 rfl rfl
      refine lv_iload_n hx hb dX7_touchingOf_14 rfl (lv_at hl 2 rfl) ?_
      refine lv_aload_n hx hb dX7_touchingOf_15 rfl (lv_at hl 0 rfl) ?_
      refine lv_iload_n hx hb dX7_touchingOf_16 rfl (lv_at hl 1 rfl) ?_
      refine lv_iload_n hx hb dX7_touchingOf_17 rfl (lv_at hl 3 rfl) ?_
      refine lv_iconst (v := 0) hx hb dX7_touchingOf_18 (by decide +kernel) ?_
      refine lv_iconst (v := 0) hx hb dX7_touchingOf_19 (by decide +kernel) ?_
      refine ro_i (va_runV (As := [.int p1, .int v4_3, .int 0, .int 0]) (rest := [.int v4_2]) ⟨hx, hb, hml, hown, hts⟩ (s_X7_touches l dC dI cs L K G Q hQ x0 m0 tx tm H.size I J hI p0 hLp0 hKp0 p1 ⟨by omega, by omega⟩ v4_3 ⟨by omega, by omega⟩ 0 0 ⟨by decide +kernel, by decide +kernel⟩) (cwV 4 hts (gV pq1448 pq1450 pq44 pq81 pq1451) rfl rfl rfl (by decide +kernel) ⟨(by rw [hR]; exact (Nat.le_of_ble_eq_true rfl)), (by rw [hR]; exact (Nat.le_of_ble_eq_true rfl))⟩) (sP_V hP hD hK hN hLp0 hKp0 rfl rfl) rfl rfl hl.1 rfl (lv_room (Nat.le_of_ble_eq_true rfl)) dX7_touchingOf_20 ⟨(by rw [hR]; exact (Nat.le_of_ble_eq_true rfl)), (by rw [hR]; exact (Nat.le_of_ble_eq_true rfl))⟩) hS hP (fun z20 H locs hz20 hP hS => ?_)
      have cst20_0 : (0 : Int32).toInt = 0 := by decide +kernel
      obtain ⟨bz20, xpz20⟩ := hz20
      try rw [cst20_0] at xpz20
      have j33 : ∀ (w33_1 : Int32) (H : Heap) (lo : List Loc) (ls : Array Slot), ((z20.toInt = 0 ∧ w33_1 = 0) ∨ (¬ z20.toInt = 0 ∧ ∀ o, hbt w33_1 o = decide (o = v4_3.toInt.toNat))) → va_P (dC, dI) vwCl (Wd cs L K I J Q) H → va_S (fun _ => False) s.heap H lo → lv_has ls 4 [(0, .ref p0), (1, .int p1), (2, .int v4_2), (3, .int v4_3)] → W p l e R s m (([.ref p0, .int p1] : List Value).toArray) below meth c H lo 0 0 Qz (F0 m 33 ls [.int w33_1, .int v4_2]) := by
        intro w33_1 H lo ls h33 hP hS hl
        refine lv_ior hx hb dX7_touchingOf_33 ?_
        refine lv_topi (fun z33 ez33 => ?_)
        refine lv_istore_n (lv' := [(2, .int z33), (0, .ref p0), (1, .int p1), (3, .int v4_3)]) hx hb dX7_touchingOf_34 rfl hl (by decide) rfl (fun ls hl => ?_)
        obtain ⟨z35, ez35⟩ : ∃ y : Int32, y = v4_3 + 1 := ⟨_, rfl⟩
        refine lv_iinc (v := z35) (lv' := [(3, .int z35), (2, .int z33), (0, .ref p0), (1, .int p1)]) hx hb dX7_touchingOf_35 hl (k := 3) rfl (by rw [ez35]; rfl) (by decide) rfl (fun ls hl => ?_)
        have bz35 := tq_add (k := v4_3.toInt) (q := 1) ez35 rfl (by decide +kernel) (by omega) (by omega)
        refine lv_goto (tgt := 4) hx hb dX7_touchingOf_38 (by decide) ?_
        exact ih4 _ (by omega) z33 z35 _ _ _ rfl ⟨by omega, by omega⟩ (fun c ok h l ha => by obtain ⟨g1, g2⟩ := h4 c ok h l ha; have n : z10 = c.1 1 := (show z10 = I (a0 Q p0 0) 1 from by rw [ez10, show a0 Q p0 0 = y6 from gd_of ey6]; rfl).trans (h _ (by decide)); have hN : v4_3.toInt.toNat < (c.1 1).toInt.toNat := (by rw [← n]; omega); have w := xpz20 c ok h l ha hN (by decide +kernel); rw [show z35.toInt.toNat = v4_3.toInt.toNat + 1 by omega]; exact tgo_s g1 g2 w h33 ez33) (Or.inl (by have e := congrArg Int32.toInt (show z10 = I (a0 Q p0 0) 1 from by rw [ez10, show a0 Q p0 0 = y6 from gd_of ey6]; rfl); omega)) hP hS (lv_sub hl [2, 3, 1, 0] rfl)
      refine lv_if_eq (tgt := 32) hx hb dX7_touchingOf_23 (by decide) (fun c23 => ?_) (fun c23 => ?_)
      · have t23 := tq_eq (k := z20.toInt) (q := (0)) c23 rfl (by decide +kernel)
        refine lv_iconst (v := 0) hx hb dX7_touchingOf_32 (by decide +kernel) ?_
        exact j33 0 _ _ _ (Or.inl ⟨t23, rfl⟩) hP hS (lv_sub hl [0, 1, 2, 3] rfl)
      · have t23 := tq_ne (k := z20.toInt) (q := (0)) c23 rfl (by decide +kernel)
        refine lv_iconst (v := 1) hx hb dX7_touchingOf_26 (by decide +kernel) ?_
        refine lv_iload_n hx hb dX7_touchingOf_27 rfl (lv_at hl 3 rfl) ?_
        refine lv_ishl hx hb dX7_touchingOf_28 ?_
        refine lv_topi (fun z28 ez28 => ?_)
        refine lv_goto (tgt := 33) hx hb dX7_touchingOf_29 (by decide) ?_
        exact j33 z28 _ _ _ (Or.inr ⟨t23, hb_one ez28 ⟨by omega, by omega⟩⟩) hP hS (lv_sub hl [0, 1, 2, 3] rfl))
  exact key4 _ 0 0 _ _ _ rfl ⟨by decide +kernel, by decide +kernel⟩ (fun c ok h l ha => ⟨fun o ho => absurd ho (by rw [show (0 : Int32).toInt.toNat = 0 from by decide +kernel]; omega), fun o _ => hb_0 o⟩) (Or.inr (by decide +kernel)) hP hS (lv_sub hl [2, 3, 1, 0] rfl)

set_option maxHeartbeats 4000000 in
set_option maxRecDepth 100000 in
theorem s_X7_clearsMade (l : Launch) (dC : Nat → ClassId) (dI : Nat → Nat → Nat) (cs : Nat → ClassId) (L : List Nat) (K G : Nat → Nat) (Q : Nat → Nat → Option Nat) (hQ : Sv L K G Q) (x0 m0 : Nat) (tx : GT) (tm : GT × Int) (sz : Nat) (I : Nat → Nat → Int32) (J : Nat → Nat → Int64) (hI : Iv L K x0 m0 tx tm I) (p0 : Nat) (hLp0 : p0 ∈ L) (hKp0 : K p0 = 7) : Met l yX7_clearsMade (.code yX7_clearsMade cX7_clearsMade 2 none :: pw) ({ frames := 0, cells := 0, slots := 0, locals := 0 }) (sP (dC, dI) cs [.ref p0] sz L K I J Q) (va_Qv (fun (_ : Unit) => True) (fun _ t => sB (dC, dI) cs L K Q (fun I1 J1 => Iv L K x0 m0 tx tm I1 ∧ I1 = I ∧ (∀ k, k < 80 → J1 (a0 Q p0 19) k = 0) ∧ (∀ b, ¬ (K b = 34) → J1 b = J b)) t) (fun q => q ∈ L ∨ sz ≤ q)) 0 0 (fun q => q ∈ L ∨ sz ≤ q) := by
  refine Met.ofW (cc := cX7_clearsMade) (maxL := 2) (ret := none) (by decide +kernel) rfl ?_
  intro p e s m args below meth c s₁ B hml hv
  obtain ⟨rfl, hsz, hP, hK, hD0, hN⟩ := hv
  have hx := B.exec
  have hb := B.bytes
  have hr := B.returns
  have hts := fun w (h : w ∈ pw) => atoms_spec (ws := Cond.code yX7_clearsMade cX7_clearsMade 2 none :: pw) B.pre w (List.mem_cons_of_mem _ h)
  have hown : s.vm.findClass RX7 = some m.cls := findClass_of_methodNamed B.named
  have hlocks := B.notSynchronized
  subst hsz
  have hBB : 999 ≤ tm.2 ∧ tm.2 ≤ 6000000 := hI.2.2.2.2.1
  have dj_J : (∀ b, ¬ (K b = 34) → J b = J b) := fun _ _ => rfl
  obtain ⟨A, hAe⟩ : ∃ A : Nat → Prop, A = (fun q => q ∈ L ∨ s.heap.size ≤ q) := ⟨_, rfl⟩
  rw [← hAe]
  have hAL : ∀ q, q ∈ L → A q := fun q h => by rw [hAe]; exact Or.inl h
  have hA : ∀ q, s.heap.size ≤ q → A q := fun q h => by rw [hAe]; exact Or.inr h
  have hD : ∀ F, va_D A (va_pl L F) := fun F => (hD0 F).weaken (fun k q hk _ => hAL _ (pl_mem hk))
  obtain ⟨H, hHe⟩ : ∃ H : Heap, H = s.heap := ⟨_, rfl⟩
  have hS : va_S A s.heap H [] := by rw [hHe]; exact va_S.rf
  rw [← hHe] at hP
  have hl := lv_entry ([.ref p0]) (n := 2) (Nat.le_of_ble_eq_true rfl)
  rw [lg_entry_eq]
  generalize (lg_sl ([.ref p0]) ++ List.replicate (2 - (lg_sl ([.ref p0])).length) Slot.unset).toArray = ls at hl ⊢
  have hl : lv_has ls 2 [(0, .ref p0)] := hl
  rw [← hHe]
  refine namedW (fun R Qz hR hQz => ?_)
  refine lv_iconst (v := 0) hx hb dX7_clearsMade_0 (by decide +kernel) ?_
  refine lv_istore_n (lv' := [(1, .int 0), (0, .ref p0)]) hx hb dX7_clearsMade_1 rfl hl (by decide) rfl (fun ls hl => ?_)
  have key2 := blocks (fun n => ∀ (v2_1 : Int32) (J2 : Nat → Nat → Int64) (H : Heap) (lo : List Loc) (ls : Array Slot), (81 - v2_1.toInt).toNat = n → ((0) ≤ v2_1.toInt ∧ v2_1.toInt ≤ 80) → (∀ b, ¬ (K b = 34) → J2 b = J b) → (∀ k : Nat, k < v2_1.toInt.toNat → J2 (a0 Q p0 19) k = 0) → va_P (dC, dI) vwCl (Wd cs L K I J2 Q) H → va_S A s.heap H lo → lv_has ls 2 [(0, .ref p0), (1, .int v2_1)] → W p l e R s m (([.ref p0] : List Value).toArray) below meth c H lo 0 0 Qz (F0 m 2 ls [])) (by
    intro n ih2
    intro v2_1 J2 H lo ls hmu2 bv2_1 dj_J2 hc2 hP hS hl
    refine lv_iload_n hx hb dX7_clearsMade_2 rfl (lv_at hl 1 rfl) ?_
    refine lv_bipush (v := 80) hx hb dX7_clearsMade_3 (by decide +kernel) ?_
    refine lv_icmp_ge (tgt := 21) hx hb dX7_clearsMade_5 (by decide) (fun c5 => ?_) (fun c5 => ?_)
    · have t5 := tq_le (k := (80)) (q := v2_1.toInt) c5 (by decide +kernel) rfl
      subst hR; subst hQz
      exact W.vret hx hb hr (fun t ht hW => ⟨⟨(), rfl, trivial, ⟨I, J2, ⟨hI, rfl, (fun k hk => hc2 k (by omega)), dj_J2⟩, by rw [ht]; exact hP⟩⟩, hS.F ht⟩) hS.2.2 dX7_clearsMade_21
    · have t5 := tq_nle (k := (80)) (q := v2_1.toInt) c5 (by decide +kernel) rfl
      refine lv_aload_n hx hb dX7_clearsMade_8 rfl (lv_at hl 0 rfl) ?_
      obtain ⟨y9, ey9, hLy9, hKy9⟩ := oQ_7_19 (Sv_at hQ hLp0 hKp0)
      refine p_get (v := .ref y9) hx hb hts inX7 hown hK hP hLp0 hKp0 rfl rfl 19 (by decide) (hts _ pq1134) (congrArg (fun q => some (va_rf q)) ey9) dX7_clearsMade_9 ?_
      refine lv_iload_n hx hb dX7_clearsMade_12 rfl (lv_at hl 1 rfl) ?_
      refine lv_lconst (v := 0) hx hb dX7_clearsMade_13 (by decide +kernel) ?_
      refine p_last hx hb hK hP hD hS 24 hLy9 hKy9 rfl (fun _ => rfl) rfl (in_of (by omega) (by omega)) dX7_clearsMade_14 (fun H locs hP hS => ?_)
      obtain ⟨Jz14, hP, qJz14⟩ : ∃ Jz14, va_P (dC, dI) vwCl (Wd cs L K I Jz14 Q) H ∧ Jz14 = va_up J2 y9 (vp_updL (J2 y9) v2_1.toNatClampNeg (0 : Int64)) := ⟨_, hP, rfl⟩
      have dj_Jz14 : (∀ b, ¬ (K b = 34) → Jz14 b = J b) := fun b hc => (congrFun qJz14 b).trans ((va_up_ne _ _ (fun z => hc (by have q := hKy9; rw [← z] at q; omega))).trans (dj_J2 b hc))
      obtain ⟨z15, ez15⟩ : ∃ y : Int32, y = v2_1 + 1 := ⟨_, rfl⟩
      refine lv_iinc (v := z15) (lv' := [(1, .int z15), (0, .ref p0)]) hx hb dX7_clearsMade_15 hl (k := 1) rfl (by rw [ez15]; rfl) (by decide) rfl (fun ls hl => ?_)
      have bz15 := tq_add (k := v2_1.toInt) (q := 1) ez15 rfl (by decide +kernel) (by omega) (by omega)
      refine lv_goto (tgt := 2) hx hb dX7_clearsMade_18 (by decide) ?_
      exact ih2 _ (by omega) z15 Jz14 _ _ _ rfl ⟨by omega, by omega⟩ dj_Jz14 (fun k hk => by rw [show a0 Q p0 19 = y9 from gd_of ey9, qJz14, va_up_self]; unfold vp_updL; (by_cases q : k = v2_1.toNatClampNeg); (rw [if_pos q]); (rw [if_neg q]; have w := hc2 k (by have q : ¬ k = v2_1.toInt.toNat := q; omega); rw [show a0 Q p0 19 = y9 from gd_of ey9] at w; exact w)) hP hS (lv_sub hl [1, 0] rfl))
  exact key2 _ 0 J _ _ _ rfl ⟨by decide +kernel, by decide +kernel⟩ dj_J (fun k hk => absurd hk (by rw [show (0 : Int32).toInt.toNat = 0 from by decide +kernel]; omega)) hP hS (lv_sub hl [1, 0] rfl)

set_option maxHeartbeats 4000000 in
set_option maxRecDepth 100000 in
theorem s_X7_takesMade (l : Launch) (dC : Nat → ClassId) (dI : Nat → Nat → Nat) (cs : Nat → ClassId) (L : List Nat) (K G : Nat → Nat) (Q : Nat → Nat → Option Nat) (hQ : Sv L K G Q) (x0 m0 : Nat) (tx : GT) (tm : GT × Int) (sz : Nat) (I : Nat → Nat → Int32) (J : Nat → Nat → Int64) (hI : Iv L K x0 m0 tx tm I) (p0 : Nat) (hLp0 : p0 ∈ L) (hKp0 : K p0 = 7) (p1 : Int32) (bp1 : (0) ≤ p1.toInt ∧ p1.toInt ≤ 7) : Met l yX7_takesMade (.code yX7_takesMade cX7_takesMade 3 none :: pw) ({ frames := 0, cells := 0, slots := 0, locals := 0 }) (sP (dC, dI) cs [.ref p0, .int p1] sz L K I J Q) (va_Qv (fun (_ : Unit) => True) (fun _ t => sB (dC, dI) cs L K Q (fun I1 J1 => Iv L K x0 m0 tx tm I1 ∧ I1 = I ∧ (∀ k, k < 640 → J1 (a0 Q p0 5) k = if 80 * p1.toInt.toNat ≤ k ∧ k < 80 * p1.toInt.toNat + 80 then J (a0 Q p0 19) (k - 80 * p1.toInt.toNat) else J (a0 Q p0 5) k) ∧ (∀ b, ¬ (K b = 21) → J1 b = J b)) t) (fun q => q ∈ L ∨ sz ≤ q)) 0 0 (fun q => q ∈ L ∨ sz ≤ q) := by
  refine Met.ofW (cc := cX7_takesMade) (maxL := 3) (ret := none) (by decide +kernel) rfl ?_
  intro p e s m args below meth c s₁ B hml hv
  obtain ⟨rfl, hsz, hP, hK, hD0, hN⟩ := hv
  have hx := B.exec
  have hb := B.bytes
  have hr := B.returns
  have hts := fun w (h : w ∈ pw) => atoms_spec (ws := Cond.code yX7_takesMade cX7_takesMade 3 none :: pw) B.pre w (List.mem_cons_of_mem _ h)
  have hown : s.vm.findClass RX7 = some m.cls := findClass_of_methodNamed B.named
  have hlocks := B.notSynchronized
  subst hsz
  have hBB : 999 ≤ tm.2 ∧ tm.2 ≤ 6000000 := hI.2.2.2.2.1
  have dj_J : (∀ b, ¬ (K b = 21) → J b = J b) := fun _ _ => rfl
  obtain ⟨A, hAe⟩ : ∃ A : Nat → Prop, A = (fun q => q ∈ L ∨ s.heap.size ≤ q) := ⟨_, rfl⟩
  rw [← hAe]
  have hAL : ∀ q, q ∈ L → A q := fun q h => by rw [hAe]; exact Or.inl h
  have hA : ∀ q, s.heap.size ≤ q → A q := fun q h => by rw [hAe]; exact Or.inr h
  have hD : ∀ F, va_D A (va_pl L F) := fun F => (hD0 F).weaken (fun k q hk _ => hAL _ (pl_mem hk))
  obtain ⟨H, hHe⟩ : ∃ H : Heap, H = s.heap := ⟨_, rfl⟩
  have hS : va_S A s.heap H [] := by rw [hHe]; exact va_S.rf
  rw [← hHe] at hP
  have hl := lv_entry ([.ref p0, .int p1]) (n := 3) (Nat.le_of_ble_eq_true rfl)
  rw [lg_entry_eq]
  generalize (lg_sl ([.ref p0, .int p1]) ++ List.replicate (3 - (lg_sl ([.ref p0, .int p1])).length) Slot.unset).toArray = ls at hl ⊢
  have hl : lv_has ls 3 [(0, .ref p0), (1, .int p1)] := hl
  rw [← hHe]
  refine namedW (fun R Qz hR hQz => ?_)
  refine lv_iconst (v := 0) hx hb dX7_takesMade_0 (by decide +kernel) ?_
  refine lv_istore_n (lv' := [(2, .int 0), (0, .ref p0), (1, .int p1)]) hx hb dX7_takesMade_1 rfl hl (by decide) rfl (fun ls hl => ?_)
  have key2 := blocks (fun n => ∀ (v2_2 : Int32) (J2 : Nat → Nat → Int64) (H : Heap) (lo : List Loc) (ls : Array Slot), (81 - v2_2.toInt).toNat = n → ((0) ≤ v2_2.toInt ∧ v2_2.toInt ≤ 80) → (∀ b, ¬ (K b = 21) → J2 b = J b) → (∀ k, k < 640 → J2 (a0 Q p0 5) k = if 80 * p1.toInt.toNat ≤ k ∧ k < 80 * p1.toInt.toNat + v2_2.toInt.toNat then J (a0 Q p0 19) (k - 80 * p1.toInt.toNat) else J (a0 Q p0 5) k) → va_P (dC, dI) vwCl (Wd cs L K I J2 Q) H → va_S A s.heap H lo → lv_has ls 3 [(0, .ref p0), (1, .int p1), (2, .int v2_2)] → W p l e R s m (([.ref p0, .int p1] : List Value).toArray) below meth c H lo 0 0 Qz (F0 m 2 ls [])) (by
    intro n ih2
    intro v2_2 J2 H lo ls hmu2 bv2_2 dj_J2 hc2 hP hS hl
    refine lv_iload_n hx hb dX7_takesMade_2 rfl (lv_at hl 2 rfl) ?_
    refine lv_bipush (v := 80) hx hb dX7_takesMade_3 (by decide +kernel) ?_
    refine lv_icmp_ge (tgt := 31) hx hb dX7_takesMade_5 (by decide) (fun c5 => ?_) (fun c5 => ?_)
    · have t5 := tq_le (k := (80)) (q := v2_2.toInt) c5 (by decide +kernel) rfl
      subst hR; subst hQz
      exact W.vret hx hb hr (fun t ht hW => ⟨⟨(), rfl, trivial, ⟨I, J2, ⟨hI, rfl, (by have q := hc2; rw [show v2_2.toInt.toNat = 80 by omega] at q; exact q), dj_J2⟩, by rw [ht]; exact hP⟩⟩, hS.F ht⟩) hS.2.2 dX7_takesMade_31
    · have t5 := tq_nle (k := (80)) (q := v2_2.toInt) c5 (by decide +kernel) rfl
      refine lv_aload_n hx hb dX7_takesMade_8 rfl (lv_at hl 0 rfl) ?_
      obtain ⟨y9, ey9, hLy9, hKy9⟩ := oQ_7_5 (Sv_at hQ hLp0 hKp0)
      refine p_get (v := .ref y9) hx hb hts inX7 hown hK hP hLp0 hKp0 rfl rfl 5 (by decide) (hts _ pq1120) (congrArg (fun q => some (va_rf q)) ey9) dX7_takesMade_9 ?_
      refine lv_bipush (v := 80) hx hb dX7_takesMade_12 (by decide +kernel) ?_
      refine lv_iload_n hx hb dX7_takesMade_14 rfl (lv_at hl 1 rfl) ?_
      refine lv_imul hx hb dX7_takesMade_15 ?_
      refine lv_topi (fun z15 ez15 => ?_)
      have bz15 := tq_mul (k := (80)) (q := p1.toInt) ez15 (by decide +kernel) rfl (by omega) (by omega)
      refine lv_iload_n hx hb dX7_takesMade_16 rfl (lv_at hl 2 rfl) ?_
      refine lv_iadd hx hb dX7_takesMade_17 ?_
      refine lv_topi (fun z17 ez17 => ?_)
      have bz17 := tq_add (k := z15.toInt) (q := v2_2.toInt) ez17 rfl rfl (by omega) (by omega)
      refine lv_aload_n hx hb dX7_takesMade_18 rfl (lv_at hl 0 rfl) ?_
      obtain ⟨y19, ey19, hLy19, hKy19⟩ := oQ_7_19 (Sv_at hQ hLp0 hKp0)
      refine p_get (v := .ref y19) hx hb hts inX7 hown hK hP hLp0 hKp0 rfl rfl 19 (by decide) (hts _ pq1134) (congrArg (fun q => some (va_rf q)) ey19) dX7_takesMade_19 ?_
      refine lv_iload_n hx hb dX7_takesMade_22 rfl (lv_at hl 2 rfl) ?_
      refine p_lald hx hb hK hP 24 hLy19 hKy19 rfl rfl (in_of (by omega) (by omega)) dX7_takesMade_23 ?_
      refine lv_topl (fun z23 ez23 => ?_)
      refine p_last hx hb hK hP hD hS 11 hLy9 hKy9 rfl (fun _ => rfl) rfl (in_of (by omega) (by omega)) dX7_takesMade_24 (fun H locs hP hS => ?_)
      obtain ⟨Jz24, hP, qJz24⟩ : ∃ Jz24, va_P (dC, dI) vwCl (Wd cs L K I Jz24 Q) H ∧ Jz24 = va_up J2 y9 (vp_updL (J2 y9) z17.toNatClampNeg z23) := ⟨_, hP, rfl⟩
      have dj_Jz24 : (∀ b, ¬ (K b = 21) → Jz24 b = J b) := fun b hc => (congrFun qJz24 b).trans ((va_up_ne _ _ (fun z => hc (by have q := hKy9; rw [← z] at q; omega))).trans (dj_J2 b hc))
      obtain ⟨z25, ez25⟩ : ∃ y : Int32, y = v2_2 + 1 := ⟨_, rfl⟩
      refine lv_iinc (v := z25) (lv' := [(2, .int z25), (0, .ref p0), (1, .int p1)]) hx hb dX7_takesMade_25 hl (k := 2) rfl (by rw [ez25]; rfl) (by decide) rfl (fun ls hl => ?_)
      have bz25 := tq_add (k := v2_2.toInt) (q := 1) ez25 rfl (by decide +kernel) (by omega) (by omega)
      refine lv_goto (tgt := 2) hx hb dX7_takesMade_28 (by decide) ?_
      exact ih2 _ (by omega) z25 Jz24 _ _ _ rfl ⟨by omega, by omega⟩ dj_Jz24 (tk_step hc2 (i := z17.toInt.toNat) (x := z23) (fun j => by rw [show a0 Q p0 5 = y9 from gd_of ey9, qJz24, va_up_self]; rfl) (by omega) (by rw [ez23, show a0 Q p0 19 = y19 from gd_of ey19, dj_J2 y19 (by have := hKy19; omega)]; rfl) (by omega)) hP hS (lv_sub hl [1, 2, 0] rfl))
  exact key2 _ 0 J _ _ _ rfl ⟨by decide +kernel, by decide +kernel⟩ dj_J (by rw [show (0 : Int32).toInt.toNat = 0 from by decide +kernel]; exact tk_0 rfl) hP hS (lv_sub hl [1, 2, 0] rfl)

set_option maxHeartbeats 4000000 in
set_option maxRecDepth 100000 in
theorem s_X7_around (l : Launch) (dC : Nat → ClassId) (dI : Nat → Nat → Nat) (cs : Nat → ClassId) (L : List Nat) (K G : Nat → Nat) (Q : Nat → Nat → Option Nat) (hQ : Sv L K G Q) (x0 m0 : Nat) (tx : GT) (tm : GT × Int) (sz : Nat) (I : Nat → Nat → Int32) (J : Nat → Nat → Int64) (hI : Iv L K x0 m0 tx tm I) (p0 : Nat) (hLp0 : p0 ∈ L) (hKp0 : K p0 = 7) (p1 : Int32) (bp1 : (0) ≤ p1.toInt ∧ p1.toInt ≤ 7) (p2 : Int32) (bp2 : (0) ≤ p2.toInt ∧ p2.toInt ≤ 128) (p3 : Int32) (bp3 : (0) ≤ p3.toInt ∧ p3.toInt ≤ 41) : Met l yX7_around (.code yX7_around cX7_around 4 (some .int) :: pw) ({ frames := 2, cells := 0, slots := 0, locals := 48 }) (sP (dC, dI) cs [.ref p0, .int p1, .int p2, .int p3] sz L K I J Q) (va_Qi (fun (r : Int32) (_ : Unit) => ((0) ≤ r.toInt ∧ r.toInt ≤ 4) ∧ (r.toInt = bi (hs (rW Q I p0 p1.toInt.toNat) (rH Q I p0 p1.toInt.toNat) (rF Q J p0 p1.toInt.toNat) (p2.toInt - 1) (p3.toInt)) + bi (hs (rW Q I p0 p1.toInt.toNat) (rH Q I p0 p1.toInt.toNat) (rF Q J p0 p1.toInt.toNat) (p2.toInt + 1) (p3.toInt)) + bi (hs (rW Q I p0 p1.toInt.toNat) (rH Q I p0 p1.toInt.toNat) (rF Q J p0 p1.toInt.toNat) (p2.toInt) (p3.toInt - 1)) + bi (hs (rW Q I p0 p1.toInt.toNat) (rH Q I p0 p1.toInt.toNat) (rF Q J p0 p1.toInt.toNat) (p2.toInt) (p3.toInt + 1)))) (fun _ _ => True) (fun _ => False)) 0 0 (fun _ => False) := by
  refine Met.ofW (cc := cX7_around) (maxL := 4) (ret := (some .int)) (by decide +kernel) rfl ?_
  intro p e s m args below meth c s₁ B hml hv
  obtain ⟨rfl, hsz, hP, hK, hD0, hN⟩ := hv
  have hx := B.exec
  have hb := B.bytes
  have hr := B.returns
  have hts := fun w (h : w ∈ pw) => atoms_spec (ws := Cond.code yX7_around cX7_around 4 (some .int) :: pw) B.pre w (List.mem_cons_of_mem _ h)
  have hown : s.vm.findClass RX7 = some m.cls := findClass_of_methodNamed B.named
  have hlocks := B.notSynchronized
  subst hsz
  have hBB : 999 ≤ tm.2 ∧ tm.2 ≤ 6000000 := hI.2.2.2.2.1
  have hD := hD0
  obtain ⟨H, hHe⟩ : ∃ H : Heap, H = s.heap := ⟨_, rfl⟩
  have hS : va_S (fun _ => False) s.heap H [] := by rw [hHe]; exact va_S.rf
  rw [← hHe] at hP
  have hl := lv_entry ([.ref p0, .int p1, .int p2, .int p3]) (n := 4) (Nat.le_of_ble_eq_true rfl)
  rw [lg_entry_eq]
  generalize (lg_sl ([.ref p0, .int p1, .int p2, .int p3]) ++ List.replicate (4 - (lg_sl ([.ref p0, .int p1, .int p2, .int p3])).length) Slot.unset).toArray = ls at hl ⊢
  have hl : lv_has ls 4 [(0, .ref p0), (1, .int p1), (2, .int p2), (3, .int p3)] := hl
  rw [← hHe]
  refine namedW (fun R Qz hR hQz => ?_)
  refine lv_aload_n hx hb dX7_around_0 rfl (lv_at hl 0 rfl) ?_
  refine lv_iload_n hx hb dX7_around_1 rfl (lv_at hl 1 rfl) ?_
  refine lv_iload_n hx hb dX7_around_2 rfl (lv_at hl 2 rfl) ?_
  refine lv_iconst (v := 1) hx hb dX7_around_3 (by decide +kernel) ?_
  refine lv_isub hx hb dX7_around_4 ?_
  refine lv_topi (fun z4 ez4 => ?_)
  have bz4 := tq_sub (k := p2.toInt) (q := (1)) ez4 rfl (by decide +kernel) (by omega) (by omega)
  refine lv_iload_n hx hb dX7_around_5 rfl (lv_at hl 3 rfl) ?_
  refine ro_i (va_runV (As := [.int p1, .int z4, .int p3]) (rest := []) ⟨hx, hb, hml, hown, hts⟩ (s_X7_has l dC dI cs L K G Q hQ x0 m0 tx tm H.size I J hI p0 hLp0 hKp0 p1 ⟨by omega, by omega⟩ z4 p3) (cwV 3 hts (gV pq1376 pq1378 pq34 pq81 pq1379) rfl rfl rfl (by decide +kernel) ⟨(by rw [hR]; exact (Nat.le_of_ble_eq_true rfl)), (by rw [hR]; exact (Nat.le_of_ble_eq_true rfl))⟩) (sP_V hP hD hK hN hLp0 hKp0 rfl rfl) rfl rfl hl.1 rfl (lv_room (Nat.le_of_ble_eq_true rfl)) dX7_around_6 ⟨(by rw [hR]; exact (Nat.le_of_ble_eq_true rfl)), (by rw [hR]; exact (Nat.le_of_ble_eq_true rfl))⟩) hS hP (fun z6 H locs hz6 hP hS => ?_)
  obtain ⟨bz6, imz6, xpz6⟩ := hz6
  refine ro_i (va_runS (As := [.int z6]) (rest := []) ⟨hx, hb, hml, hown, hts⟩ (s_X7_truth l dC dI cs L K Q H.size I J z6) (va_cwS 1 hts (gS pq1257 pq1258 pq81 pq1259) rfl rfl rfl (by decide +kernel) ⟨(by rw [hR]; exact (Nat.le_of_ble_eq_true rfl)), (by rw [hR]; exact (Nat.le_of_ble_eq_true rfl))⟩) (sP_S hP hD hK hN) rfl rfl hl.1 rfl (lv_room (Nat.le_of_ble_eq_true rfl)) dX7_around_9 ⟨(by rw [hR]; exact (Nat.le_of_ble_eq_true rfl)), (by rw [hR]; exact (Nat.le_of_ble_eq_true rfl))⟩) hS hP (fun z9 H locs hz9 hP hS => ?_)
  obtain ⟨bz9, xpz9⟩ := hz9
  refine lv_aload_n hx hb dX7_around_12 rfl (lv_at hl 0 rfl) ?_
  refine lv_iload_n hx hb dX7_around_13 rfl (lv_at hl 1 rfl) ?_
  refine lv_iload_n hx hb dX7_around_14 rfl (lv_at hl 2 rfl) ?_
  refine lv_iconst (v := 1) hx hb dX7_around_15 (by decide +kernel) ?_
  refine lv_iadd hx hb dX7_around_16 ?_
  refine lv_topi (fun z16 ez16 => ?_)
  have bz16 := tq_add (k := p2.toInt) (q := (1)) ez16 rfl (by decide +kernel) (by omega) (by omega)
  refine lv_iload_n hx hb dX7_around_17 rfl (lv_at hl 3 rfl) ?_
  refine ro_i (va_runV (As := [.int p1, .int z16, .int p3]) (rest := [.int z9]) ⟨hx, hb, hml, hown, hts⟩ (s_X7_has l dC dI cs L K G Q hQ x0 m0 tx tm H.size I J hI p0 hLp0 hKp0 p1 ⟨by omega, by omega⟩ z16 p3) (cwV 3 hts (gV pq1376 pq1378 pq34 pq81 pq1379) rfl rfl rfl (by decide +kernel) ⟨(by rw [hR]; exact (Nat.le_of_ble_eq_true rfl)), (by rw [hR]; exact (Nat.le_of_ble_eq_true rfl))⟩) (sP_V hP hD hK hN hLp0 hKp0 rfl rfl) rfl rfl hl.1 rfl (lv_room (Nat.le_of_ble_eq_true rfl)) dX7_around_18 ⟨(by rw [hR]; exact (Nat.le_of_ble_eq_true rfl)), (by rw [hR]; exact (Nat.le_of_ble_eq_true rfl))⟩) hS hP (fun z18 H locs hz18 hP hS => ?_)
  obtain ⟨bz18, imz18, xpz18⟩ := hz18
  refine ro_i (va_runS (As := [.int z18]) (rest := [.int z9]) ⟨hx, hb, hml, hown, hts⟩ (s_X7_truth l dC dI cs L K Q H.size I J z18) (va_cwS 1 hts (gS pq1257 pq1258 pq81 pq1259) rfl rfl rfl (by decide +kernel) ⟨(by rw [hR]; exact (Nat.le_of_ble_eq_true rfl)), (by rw [hR]; exact (Nat.le_of_ble_eq_true rfl))⟩) (sP_S hP hD hK hN) rfl rfl hl.1 rfl (lv_room (Nat.le_of_ble_eq_true rfl)) dX7_around_21 ⟨(by rw [hR]; exact (Nat.le_of_ble_eq_true rfl)), (by rw [hR]; exact (Nat.le_of_ble_eq_true rfl))⟩) hS hP (fun z21 H locs hz21 hP hS => ?_)
  obtain ⟨bz21, xpz21⟩ := hz21
  refine lv_iadd hx hb dX7_around_24 ?_
  refine lv_topi (fun z24 ez24 => ?_)
  have bz24 := tq_add (k := z9.toInt) (q := z21.toInt) ez24 rfl rfl (by omega) (by omega)
  refine lv_aload_n hx hb dX7_around_25 rfl (lv_at hl 0 rfl) ?_
  refine lv_iload_n hx hb dX7_around_26 rfl (lv_at hl 1 rfl) ?_
  refine lv_iload_n hx hb dX7_around_27 rfl (lv_at hl 2 rfl) ?_
  refine lv_iload_n hx hb dX7_around_28 rfl (lv_at hl 3 rfl) ?_
  refine lv_iconst (v := 1) hx hb dX7_around_29 (by decide +kernel) ?_
  refine lv_isub hx hb dX7_around_30 ?_
  refine lv_topi (fun z30 ez30 => ?_)
  have bz30 := tq_sub (k := p3.toInt) (q := (1)) ez30 rfl (by decide +kernel) (by omega) (by omega)
  refine ro_i (va_runV (As := [.int p1, .int p2, .int z30]) (rest := [.int z24]) ⟨hx, hb, hml, hown, hts⟩ (s_X7_has l dC dI cs L K G Q hQ x0 m0 tx tm H.size I J hI p0 hLp0 hKp0 p1 ⟨by omega, by omega⟩ p2 z30) (cwV 3 hts (gV pq1376 pq1378 pq34 pq81 pq1379) rfl rfl rfl (by decide +kernel) ⟨(by rw [hR]; exact (Nat.le_of_ble_eq_true rfl)), (by rw [hR]; exact (Nat.le_of_ble_eq_true rfl))⟩) (sP_V hP hD hK hN hLp0 hKp0 rfl rfl) rfl rfl hl.1 rfl (lv_room (Nat.le_of_ble_eq_true rfl)) dX7_around_31 ⟨(by rw [hR]; exact (Nat.le_of_ble_eq_true rfl)), (by rw [hR]; exact (Nat.le_of_ble_eq_true rfl))⟩) hS hP (fun z31 H locs hz31 hP hS => ?_)
  obtain ⟨bz31, imz31, xpz31⟩ := hz31
  refine ro_i (va_runS (As := [.int z31]) (rest := [.int z24]) ⟨hx, hb, hml, hown, hts⟩ (s_X7_truth l dC dI cs L K Q H.size I J z31) (va_cwS 1 hts (gS pq1257 pq1258 pq81 pq1259) rfl rfl rfl (by decide +kernel) ⟨(by rw [hR]; exact (Nat.le_of_ble_eq_true rfl)), (by rw [hR]; exact (Nat.le_of_ble_eq_true rfl))⟩) (sP_S hP hD hK hN) rfl rfl hl.1 rfl (lv_room (Nat.le_of_ble_eq_true rfl)) dX7_around_34 ⟨(by rw [hR]; exact (Nat.le_of_ble_eq_true rfl)), (by rw [hR]; exact (Nat.le_of_ble_eq_true rfl))⟩) hS hP (fun z34 H locs hz34 hP hS => ?_)
  obtain ⟨bz34, xpz34⟩ := hz34
  refine lv_iadd hx hb dX7_around_37 ?_
  refine lv_topi (fun z37 ez37 => ?_)
  have bz37 := tq_add (k := z24.toInt) (q := z34.toInt) ez37 rfl rfl (by omega) (by omega)
  refine lv_aload_n hx hb dX7_around_38 rfl (lv_at hl 0 rfl) ?_
  refine lv_iload_n hx hb dX7_around_39 rfl (lv_at hl 1 rfl) ?_
  refine lv_iload_n hx hb dX7_around_40 rfl (lv_at hl 2 rfl) ?_
  refine lv_iload_n hx hb dX7_around_41 rfl (lv_at hl 3 rfl) ?_
  refine lv_iconst (v := 1) hx hb dX7_around_42 (by decide +kernel) ?_
  refine lv_iadd hx hb dX7_around_43 ?_
  refine lv_topi (fun z43 ez43 => ?_)
  have bz43 := tq_add (k := p3.toInt) (q := (1)) ez43 rfl (by decide +kernel) (by omega) (by omega)
  refine ro_i (va_runV (As := [.int p1, .int p2, .int z43]) (rest := [.int z37]) ⟨hx, hb, hml, hown, hts⟩ (s_X7_has l dC dI cs L K G Q hQ x0 m0 tx tm H.size I J hI p0 hLp0 hKp0 p1 ⟨by omega, by omega⟩ p2 z43) (cwV 3 hts (gV pq1376 pq1378 pq34 pq81 pq1379) rfl rfl rfl (by decide +kernel) ⟨(by rw [hR]; exact (Nat.le_of_ble_eq_true rfl)), (by rw [hR]; exact (Nat.le_of_ble_eq_true rfl))⟩) (sP_V hP hD hK hN hLp0 hKp0 rfl rfl) rfl rfl hl.1 rfl (lv_room (Nat.le_of_ble_eq_true rfl)) dX7_around_44 ⟨(by rw [hR]; exact (Nat.le_of_ble_eq_true rfl)), (by rw [hR]; exact (Nat.le_of_ble_eq_true rfl))⟩) hS hP (fun z44 H locs hz44 hP hS => ?_)
  obtain ⟨bz44, imz44, xpz44⟩ := hz44
  refine ro_i (va_runS (As := [.int z44]) (rest := [.int z37]) ⟨hx, hb, hml, hown, hts⟩ (s_X7_truth l dC dI cs L K Q H.size I J z44) (va_cwS 1 hts (gS pq1257 pq1258 pq81 pq1259) rfl rfl rfl (by decide +kernel) ⟨(by rw [hR]; exact (Nat.le_of_ble_eq_true rfl)), (by rw [hR]; exact (Nat.le_of_ble_eq_true rfl))⟩) (sP_S hP hD hK hN) rfl rfl hl.1 rfl (lv_room (Nat.le_of_ble_eq_true rfl)) dX7_around_47 ⟨(by rw [hR]; exact (Nat.le_of_ble_eq_true rfl)), (by rw [hR]; exact (Nat.le_of_ble_eq_true rfl))⟩) hS hP (fun z47 H locs hz47 hP hS => ?_)
  obtain ⟨bz47, xpz47⟩ := hz47
  refine lv_iadd hx hb dX7_around_50 ?_
  refine lv_topi (fun z50 ez50 => ?_)
  have bz50 := tq_add (k := z37.toInt) (q := z47.toInt) ez50 rfl rfl (by omega) (by omega)
  subst hR; subst hQz
  exact W.iret (v := z50) hx hb hr (fun t ht hW => ⟨⟨z50, (), rfl, ⟨⟨by omega, by omega⟩, (by have a := tr_bi xpz6 xpz9; have b := tr_bi xpz18 xpz21; have c := tr_bi xpz31 xpz34; have d := tr_bi xpz44 xpz47; rw [bz4] at a; rw [bz16] at b; rw [bz30] at c; rw [bz43] at d; omega)⟩, trivial⟩, hS.F ht⟩) hS.2.2 dX7_around_51

set_option maxHeartbeats 4000000 in
set_option maxRecDepth 100000 in
theorem s_X7_dotsOf (l : Launch) (dC : Nat → ClassId) (dI : Nat → Nat → Nat) (cs : Nat → ClassId) (L : List Nat) (K G : Nat → Nat) (Q : Nat → Nat → Option Nat) (hQ : Sv L K G Q) (x0 m0 : Nat) (tx : GT) (tm : GT × Int) (sz : Nat) (I : Nat → Nat → Int32) (J : Nat → Nat → Int64) (hI : Iv L K x0 m0 tx tm I) (p0 : Nat) (hLp0 : p0 ∈ L) (hKp0 : K p0 = 7) (p1 : Int32) (bp1 : (0) ≤ p1.toInt ∧ p1.toInt ≤ 7) : Met l yX7_dotsOf (.code yX7_dotsOf cX7_dotsOf 4 (some .int) :: pw) ({ frames := 1, cells := 0, slots := 0, locals := 21 }) (sP (dC, dI) cs [.ref p0, .int p1] sz L K I J Q) (va_Qi (fun (r : Int32) (_ : Unit) => ((0) ≤ r.toInt ∧ r.toInt ≤ 5120) ∧ (r.toInt = (totr (rF Q J p0 p1.toInt.toNat) 40 : Int))) (fun _ _ => True) (fun _ => False)) 0 0 (fun _ => False) := by
  refine Met.ofW (cc := cX7_dotsOf) (maxL := 4) (ret := (some .int)) (by decide +kernel) rfl ?_
  intro p e s m args below meth c s₁ B hml hv
  obtain ⟨rfl, hsz, hP, hK, hD0, hN⟩ := hv
  have hx := B.exec
  have hb := B.bytes
  have hr := B.returns
  have hts := fun w (h : w ∈ pw) => atoms_spec (ws := Cond.code yX7_dotsOf cX7_dotsOf 4 (some .int) :: pw) B.pre w (List.mem_cons_of_mem _ h)
  have hown : s.vm.findClass RX7 = some m.cls := findClass_of_methodNamed B.named
  have hlocks := B.notSynchronized
  subst hsz
  have hBB : 999 ≤ tm.2 ∧ tm.2 ≤ 6000000 := hI.2.2.2.2.1
  have hD := hD0
  obtain ⟨H, hHe⟩ : ∃ H : Heap, H = s.heap := ⟨_, rfl⟩
  have hS : va_S (fun _ => False) s.heap H [] := by rw [hHe]; exact va_S.rf
  rw [← hHe] at hP
  have hl := lv_entry ([.ref p0, .int p1]) (n := 4) (Nat.le_of_ble_eq_true rfl)
  rw [lg_entry_eq]
  generalize (lg_sl ([.ref p0, .int p1]) ++ List.replicate (4 - (lg_sl ([.ref p0, .int p1])).length) Slot.unset).toArray = ls at hl ⊢
  have hl : lv_has ls 4 [(0, .ref p0), (1, .int p1)] := hl
  rw [← hHe]
  refine namedW (fun R Qz hR hQz => ?_)
  refine lv_iconst (v := 0) hx hb dX7_dotsOf_0 (by decide +kernel) ?_
  refine lv_istore_n (lv' := [(2, .int 0), (0, .ref p0), (1, .int p1)]) hx hb dX7_dotsOf_1 rfl hl (by decide) rfl (fun ls hl => ?_)
  refine lv_iconst (v := 0) hx hb dX7_dotsOf_2 (by decide +kernel) ?_
  refine lv_istore_n (lv' := [(3, .int 0), (2, .int 0), (0, .ref p0), (1, .int p1)]) hx hb dX7_dotsOf_3 rfl hl (by decide) rfl (fun ls hl => ?_)
  have key4 := blocks (fun n => ∀ (v4_2 : Int32) (v4_3 : Int32) (H : Heap) (lo : List Loc) (ls : Array Slot), (81 - v4_3.toInt).toNat = n → ((0) ≤ v4_2.toInt ∧ v4_2.toInt ≤ 5120) → ((0) ≤ v4_3.toInt ∧ v4_3.toInt ≤ 80) → (v4_2.toInt = (totk (rF Q J p0 p1.toInt.toNat) v4_3.toInt.toNat : Int)) → va_P (dC, dI) vwCl (Wd cs L K I J Q) H → va_S (fun _ => False) s.heap H lo → lv_has ls 4 [(0, .ref p0), (1, .int p1), (2, .int v4_2), (3, .int v4_3)] → W p l e R s m (([.ref p0, .int p1] : List Value).toArray) below meth c H lo 0 0 Qz (F0 m 4 ls [])) (by
    intro n ih4
    intro v4_2 v4_3 H lo ls hmu4 bv4_2 bv4_3 hd hP hS hl
    refine lv_iload_n hx hb dX7_dotsOf_4 rfl (lv_at hl 3 rfl) ?_
    refine lv_bipush (v := 80) hx hb dX7_dotsOf_5 (by decide +kernel) ?_
    refine lv_icmp_ge (tgt := 33) hx hb dX7_dotsOf_7 (by decide) (fun c7 => ?_) (fun c7 => ?_)
    · have t7 := tq_le (k := (80)) (q := v4_3.toInt) c7 (by decide +kernel) rfl
      refine lv_iload_n hx hb dX7_dotsOf_33 rfl (lv_at hl 2 rfl) ?_
      subst hR; subst hQz
      exact W.iret (v := v4_2) hx hb hr (fun t ht hW => ⟨⟨v4_2, (), rfl, ⟨⟨by omega, by omega⟩, (by rw [← totk_2, show 2 * 40 = 80 from rfl]; have q := hd; rw [show v4_3.toInt.toNat = 80 by omega] at q; exact q)⟩, trivial⟩, hS.F ht⟩) hS.2.2 dX7_dotsOf_34
    · have t7 := tq_nle (k := (80)) (q := v4_3.toInt) c7 (by decide +kernel) rfl
      refine lv_iload_n hx hb dX7_dotsOf_10 rfl (lv_at hl 2 rfl) ?_
      refine lv_aload_n hx hb dX7_dotsOf_11 rfl (lv_at hl 0 rfl) ?_
      obtain ⟨y12, ey12, hLy12, hKy12⟩ := oQ_7_5 (Sv_at hQ hLp0 hKp0)
      refine p_get (v := .ref y12) hx hb hts inX7 hown hK hP hLp0 hKp0 rfl rfl 5 (by decide) (hts _ pq1120) (congrArg (fun q => some (va_rf q)) ey12) dX7_dotsOf_12 ?_
      refine lv_bipush (v := 80) hx hb dX7_dotsOf_15 (by decide +kernel) ?_
      refine lv_iload_n hx hb dX7_dotsOf_17 rfl (lv_at hl 1 rfl) ?_
      refine lv_imul hx hb dX7_dotsOf_18 ?_
      refine lv_topi (fun z18 ez18 => ?_)
      have bz18 := tq_mul (k := (80)) (q := p1.toInt) ez18 (by decide +kernel) rfl (by omega) (by omega)
      refine lv_iload_n hx hb dX7_dotsOf_19 rfl (lv_at hl 3 rfl) ?_
      refine lv_iadd hx hb dX7_dotsOf_20 ?_
      refine lv_topi (fun z20 ez20 => ?_)
      have bz20 := tq_add (k := z18.toInt) (q := v4_3.toInt) ez20 rfl rfl (by omega) (by omega)
      refine p_lald hx hb hK hP 11 hLy12 hKy12 rfl rfl (in_of (by omega) (by omega)) dX7_dotsOf_21 ?_
      refine lv_topl (fun z21 ez21 => ?_)
      refine ro_i (va_runS (As := [.long z21]) (rest := [.int v4_2]) ⟨hx, hb, hml, hown, hts⟩ (s_J13_bitCount l dC dI cs L K Q H.size I J z21) (va_cwS 1 hts (gS pq1417 pq546 pq89 pq547) rfl rfl rfl (by decide +kernel) ⟨(by rw [hR]; exact (Nat.le_of_ble_eq_true rfl)), (by rw [hR]; exact (Nat.le_of_ble_eq_true rfl))⟩) (sP_S hP hD hK hN) rfl rfl hl.1 rfl (lv_room (Nat.le_of_ble_eq_true rfl)) dX7_dotsOf_22 ⟨(by rw [hR]; exact (Nat.le_of_ble_eq_true rfl)), (by rw [hR]; exact (Nat.le_of_ble_eq_true rfl))⟩) hS hP (fun z22 H locs hz22 hP hS => ?_)
      obtain ⟨bz22, xpz22⟩ := hz22
      refine lv_iadd hx hb dX7_dotsOf_25 ?_
      refine lv_topi (fun z25 ez25 => ?_)
      have bz25 := tq_add (k := v4_2.toInt) (q := z22.toInt) ez25 rfl rfl (by omega) (by omega)
      refine lv_istore_n (lv' := [(2, .int z25), (0, .ref p0), (1, .int p1), (3, .int v4_3)]) hx hb dX7_dotsOf_26 rfl hl (by decide) rfl (fun ls hl => ?_)
      have hlt := totk_le (rF Q J p0 p1.toInt.toNat) v4_3.toInt.toNat
      obtain ⟨z27, ez27⟩ : ∃ y : Int32, y = v4_3 + 1 := ⟨_, rfl⟩
      refine lv_iinc (v := z27) (lv' := [(3, .int z27), (2, .int z25), (0, .ref p0), (1, .int p1)]) hx hb dX7_dotsOf_27 hl (k := 3) rfl (by rw [ez27]; rfl) (by decide) rfl (fun ls hl => ?_)
      have bz27 := tq_add (k := v4_3.toInt) (q := 1) ez27 rfl (by decide +kernel) (by omega) (by omega)
      refine lv_goto (tgt := 4) hx hb dX7_dotsOf_30 (by decide) ?_
      exact ih4 _ (by omega) z25 z27 _ _ _ rfl ⟨by omega, by omega⟩ ⟨by omega, by omega⟩ (by rw [show z27.toInt.toNat = v4_3.toInt.toNat + 1 by omega]; show z25.toInt = ((totk (rF Q J p0 p1.toInt.toNat) v4_3.toInt.toNat + nb ((rF Q J p0 p1.toInt.toNat) v4_3.toInt.toNat) : Nat) : Int); have e : (rF Q J p0 p1.toInt.toNat) v4_3.toInt.toNat = z21 := (by show J (a0 Q p0 5) (80 * p1.toInt.toNat + v4_3.toInt.toNat) = z21; rw [ez21, show a0 Q p0 5 = y12 from gd_of ey12]; congr 1; show _ = z20.toInt.toNat; omega); rw [e]; have q : z22.toInt = (nb z21 : Int) := xpz22; omega) hP hS (lv_sub hl [2, 3, 1, 0] rfl))
  exact key4 _ 0 0 _ _ _ rfl ⟨by decide +kernel, by decide +kernel⟩ ⟨by decide +kernel, by decide +kernel⟩ (by rw [show (0 : Int32).toInt.toNat = 0 from by decide +kernel]; show (0 : Int32).toInt = 0; decide +kernel) hP hS (lv_sub hl [2, 3, 1, 0] rfl)
