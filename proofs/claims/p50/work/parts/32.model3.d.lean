def yX7_farthest : MethodName := ⟨RX7, "farthest", "(I)I"⟩
def yX7_dotsOfAll : MethodName := ⟨RX7, "dotsOfAll", "()I"⟩
abbrev cX7_farthest : ByteArray := prog_9_method_119_code
abbrev cX7_dotsOfAll : ByteArray := prog_9_method_124_code
abbrev cX7_alike : ByteArray := prog_9_method_123_code
abbrev cX7_count : ByteArray := prog_9_method_125_code
abbrev cX7_digest : ByteArray := prog_9_method_122_code
abbrev cX7_spread : ByteArray := prog_9_method_120_code
def yX7_alike : MethodName := ⟨RX7, "alike", "(III)I"⟩
def yX7_count : MethodName := ⟨RX7, "count", "(I)I"⟩
def yX7_digest : MethodName := ⟨RX7, "digest", "()J"⟩
def yX7_spread : MethodName := ⟨RX7, "spread", "(II)I"⟩
theorem dX7_alike_0 : decode cX7_alike 0 = .ok (.aload_n 0, 1) := by decide +kernel
theorem dX7_alike_1 : decode cX7_alike 1 = .ok (.iload_n 1, 1) := by decide +kernel
theorem dX7_alike_2 : decode cX7_alike 2 = .ok (.invokevirtual 301, 3) := by decide +kernel
theorem dX7_alike_5 : decode cX7_alike 5 = .ok (.ifCond .eq 36, 3) := by decide +kernel
theorem dX7_alike_8 : decode cX7_alike 8 = .ok (.aload_n 0, 1) := by decide +kernel
theorem dX7_alike_9 : decode cX7_alike 9 = .ok (.iload_n 2, 1) := by decide +kernel
theorem dX7_alike_10 : decode cX7_alike 10 = .ok (.invokevirtual 301, 3) := by decide +kernel
theorem dX7_alike_13 : decode cX7_alike 13 = .ok (.ifCond .eq 28, 3) := by decide +kernel
theorem dX7_alike_16 : decode cX7_alike 16 = .ok (.iload_n 3, 1) := by decide +kernel
theorem dX7_alike_17 : decode cX7_alike 17 = .ok (.i2l, 1) := by decide +kernel
theorem dX7_alike_18 : decode cX7_alike 18 = .ok (.lconst 0, 1) := by decide +kernel
theorem dX7_alike_19 : decode cX7_alike 19 = .ok (.ldc2_w 289, 3) := by decide +kernel
theorem dX7_alike_22 : decode cX7_alike 22 = .ok (.invokestatic 96, 3) := by decide +kernel
theorem dX7_alike_25 : decode cX7_alike 25 = .ok (.ifCond .eq 16, 3) := by decide +kernel
theorem dX7_alike_28 : decode cX7_alike 28 = .ok (.aload_n 0, 1) := by decide +kernel
theorem dX7_alike_29 : decode cX7_alike 29 = .ok (.iload_n 1, 1) := by decide +kernel
theorem dX7_alike_30 : decode cX7_alike 30 = .ok (.iload_n 2, 1) := by decide +kernel
theorem dX7_alike_31 : decode cX7_alike 31 = .ok (.iload_n 3, 1) := by decide +kernel
theorem dX7_alike_32 : decode cX7_alike 32 = .ok (.invokevirtual 416, 3) := by decide +kernel
theorem dX7_alike_35 : decode cX7_alike 35 = .ok (.invokestatic 127, 3) := by decide +kernel
theorem dX7_alike_38 : decode cX7_alike 38 = .ok (.goto 4, 3) := by decide +kernel
theorem dX7_alike_41 : decode cX7_alike 41 = .ok (.iconst (-1), 1) := by decide +kernel
theorem dX7_alike_42 : decode cX7_alike 42 = .ok (.ireturn, 1) := by decide +kernel
theorem dX7_count_0 : decode cX7_count 0 = .ok (.iload_n 1, 1) := by decide +kernel
theorem dX7_count_1 : decode cX7_count 1 = .ok (.tableswitch 101 0 6 #[43, 50, 57, 62, 67, 72, 94], 43) := by decide +kernel
theorem dX7_count_44 : decode cX7_count 44 = .ok (.aload_n 0, 1) := by decide +kernel
theorem dX7_count_45 : decode cX7_count 45 = .ok (.getfield 9, 3) := by decide +kernel
theorem dX7_count_48 : decode cX7_count 48 = .ok (.iconst 0, 1) := by decide +kernel
theorem dX7_count_49 : decode cX7_count 49 = .ok (.iaload, 1) := by decide +kernel
theorem dX7_count_50 : decode cX7_count 50 = .ok (.ireturn, 1) := by decide +kernel
theorem dX7_count_51 : decode cX7_count 51 = .ok (.aload_n 0, 1) := by decide +kernel
theorem dX7_count_52 : decode cX7_count 52 = .ok (.getfield 9, 3) := by decide +kernel
theorem dX7_count_55 : decode cX7_count 55 = .ok (.iconst 1, 1) := by decide +kernel
theorem dX7_count_56 : decode cX7_count 56 = .ok (.iaload, 1) := by decide +kernel
theorem dX7_count_57 : decode cX7_count 57 = .ok (.ireturn, 1) := by decide +kernel
theorem dX7_count_58 : decode cX7_count 58 = .ok (.aload_n 0, 1) := by decide +kernel
theorem dX7_count_59 : decode cX7_count 59 = .ok (.invokevirtual 442, 3) := by decide +kernel
theorem dX7_count_62 : decode cX7_count 62 = .ok (.ireturn, 1) := by decide +kernel
theorem dX7_count_63 : decode cX7_count 63 = .ok (.aload_n 0, 1) := by decide +kernel
theorem dX7_count_64 : decode cX7_count 64 = .ok (.getfield 187, 3) := by decide +kernel
theorem dX7_count_67 : decode cX7_count 67 = .ok (.ireturn, 1) := by decide +kernel
theorem dX7_count_68 : decode cX7_count 68 = .ok (.aload_n 0, 1) := by decide +kernel
theorem dX7_count_69 : decode cX7_count 69 = .ok (.getfield 67, 3) := by decide +kernel
theorem dX7_count_72 : decode cX7_count 72 = .ok (.ireturn, 1) := by decide +kernel
theorem dX7_count_73 : decode cX7_count 73 = .ok (.aload_n 0, 1) := by decide +kernel
theorem dX7_count_74 : decode cX7_count 74 = .ok (.getfield 41, 3) := by decide +kernel
theorem dX7_count_77 : decode cX7_count 77 = .ok (.iconst 0, 1) := by decide +kernel
theorem dX7_count_78 : decode cX7_count 78 = .ok (.baload, 1) := by decide +kernel
theorem dX7_count_79 : decode cX7_count 79 = .ok (.invokestatic 127, 3) := by decide +kernel
theorem dX7_count_82 : decode cX7_count 82 = .ok (.aload_n 0, 1) := by decide +kernel
theorem dX7_count_83 : decode cX7_count 83 = .ok (.getfield 41, 3) := by decide +kernel
theorem dX7_count_86 : decode cX7_count 86 = .ok (.iconst 1, 1) := by decide +kernel
theorem dX7_count_87 : decode cX7_count 87 = .ok (.baload, 1) := by decide +kernel
theorem dX7_count_88 : decode cX7_count 88 = .ok (.invokestatic 127, 3) := by decide +kernel
theorem dX7_count_91 : decode cX7_count 91 = .ok (.iconst 1, 1) := by decide +kernel
theorem dX7_count_92 : decode cX7_count 92 = .ok (.ishl, 1) := by decide +kernel
theorem dX7_count_93 : decode cX7_count 93 = .ok (.ior, 1) := by decide +kernel
theorem dX7_count_94 : decode cX7_count 94 = .ok (.ireturn, 1) := by decide +kernel
theorem dX7_count_95 : decode cX7_count 95 = .ok (.aload_n 0, 1) := by decide +kernel
theorem dX7_count_96 : decode cX7_count 96 = .ok (.getfield 9, 3) := by decide +kernel
theorem dX7_count_99 : decode cX7_count 99 = .ok (.iconst 2, 1) := by decide +kernel
theorem dX7_count_100 : decode cX7_count 100 = .ok (.iaload, 1) := by decide +kernel
theorem dX7_count_101 : decode cX7_count 101 = .ok (.ireturn, 1) := by decide +kernel
theorem dX7_count_102 : decode cX7_count 102 = .ok (.iconst (-1), 1) := by decide +kernel
theorem dX7_count_103 : decode cX7_count 103 = .ok (.ireturn, 1) := by decide +kernel
theorem dX7_digest_0 : decode cX7_digest 0 = .ok (.ldc2_w 434, 3) := by decide +kernel
theorem dX7_digest_3 : decode cX7_digest 3 = .ok (.lstore_n 1, 1) := by decide +kernel
theorem dX7_digest_4 : decode cX7_digest 4 = .ok (.iconst 0, 1) := by decide +kernel
theorem dX7_digest_5 : decode cX7_digest 5 = .ok (.istore_n 3, 1) := by decide +kernel
theorem dX7_digest_6 : decode cX7_digest 6 = .ok (.iload_n 3, 1) := by decide +kernel
theorem dX7_digest_7 : decode cX7_digest 7 = .ok (.aload_n 0, 1) := by decide +kernel
theorem dX7_digest_8 : decode cX7_digest 8 = .ok (.getfield 9, 3) := by decide +kernel
theorem dX7_digest_11 : decode cX7_digest 11 = .ok (.iconst 1, 1) := by decide +kernel
theorem dX7_digest_12 : decode cX7_digest 12 = .ok (.iaload, 1) := by decide +kernel
theorem dX7_digest_13 : decode cX7_digest 13 = .ok (.if_icmp .ge 40, 3) := by decide +kernel
theorem dX7_digest_16 : decode cX7_digest 16 = .ok (.iconst 0, 1) := by decide +kernel
theorem dX7_digest_17 : decode cX7_digest 17 = .ok (.istore 4, 2) := by decide +kernel
theorem dX7_digest_19 : decode cX7_digest 19 = .ok (.iload 4, 2) := by decide +kernel
theorem dX7_digest_21 : decode cX7_digest 21 = .ok (.bipush 8, 2) := by decide +kernel
theorem dX7_digest_23 : decode cX7_digest 23 = .ok (.if_icmp .ge 24, 3) := by decide +kernel
theorem dX7_digest_26 : decode cX7_digest 26 = .ok (.ldc2_w 436, 3) := by decide +kernel
theorem dX7_digest_29 : decode cX7_digest 29 = .ok (.lload_n 1, 1) := by decide +kernel
theorem dX7_digest_30 : decode cX7_digest 30 = .ok (.lmul, 1) := by decide +kernel
theorem dX7_digest_31 : decode cX7_digest 31 = .ok (.aload_n 0, 1) := by decide +kernel
theorem dX7_digest_32 : decode cX7_digest 32 = .ok (.iload_n 3, 1) := by decide +kernel
theorem dX7_digest_33 : decode cX7_digest 33 = .ok (.iload 4, 2) := by decide +kernel
theorem dX7_digest_35 : decode cX7_digest 35 = .ok (.invokevirtual 199, 3) := by decide +kernel
theorem dX7_digest_38 : decode cX7_digest 38 = .ok (.i2l, 1) := by decide +kernel
theorem dX7_digest_39 : decode cX7_digest 39 = .ok (.ladd, 1) := by decide +kernel
theorem dX7_digest_40 : decode cX7_digest 40 = .ok (.lstore_n 1, 1) := by decide +kernel
theorem dX7_digest_41 : decode cX7_digest 41 = .ok (.iinc 4 1, 3) := by decide +kernel
theorem dX7_digest_44 : decode cX7_digest 44 = .ok (.goto (-25), 3) := by decide +kernel
theorem dX7_digest_47 : decode cX7_digest 47 = .ok (.iinc 3 1, 3) := by decide +kernel
theorem dX7_digest_50 : decode cX7_digest 50 = .ok (.goto (-44), 3) := by decide +kernel
theorem dX7_digest_53 : decode cX7_digest 53 = .ok (.iconst 0, 1) := by decide +kernel
theorem dX7_digest_54 : decode cX7_digest 54 = .ok (.istore_n 3, 1) := by decide +kernel
theorem dX7_digest_55 : decode cX7_digest 55 = .ok (.iload_n 3, 1) := by decide +kernel
theorem dX7_digest_56 : decode cX7_digest 56 = .ok (.aload_n 0, 1) := by decide +kernel
theorem dX7_digest_57 : decode cX7_digest 57 = .ok (.getfield 9, 3) := by decide +kernel
theorem dX7_digest_60 : decode cX7_digest 60 = .ok (.iconst 0, 1) := by decide +kernel
theorem dX7_digest_61 : decode cX7_digest 61 = .ok (.iaload, 1) := by decide +kernel
theorem dX7_digest_62 : decode cX7_digest 62 = .ok (.if_icmp .ge 58, 3) := by decide +kernel
theorem dX7_digest_65 : decode cX7_digest 65 = .ok (.iconst 0, 1) := by decide +kernel
theorem dX7_digest_66 : decode cX7_digest 66 = .ok (.istore 4, 2) := by decide +kernel
theorem dX7_digest_68 : decode cX7_digest 68 = .ok (.iload 4, 2) := by decide +kernel
theorem dX7_digest_70 : decode cX7_digest 70 = .ok (.aload_n 0, 1) := by decide +kernel
theorem dX7_digest_71 : decode cX7_digest 71 = .ok (.iload_n 3, 1) := by decide +kernel
theorem dX7_digest_72 : decode cX7_digest 72 = .ok (.invokevirtual 205, 3) := by decide +kernel
theorem dX7_digest_75 : decode cX7_digest 75 = .ok (.if_icmp .ge 39, 3) := by decide +kernel
theorem dX7_digest_78 : decode cX7_digest 78 = .ok (.ldc2_w 436, 3) := by decide +kernel
theorem dX7_digest_81 : decode cX7_digest 81 = .ok (.lload_n 1, 1) := by decide +kernel
theorem dX7_digest_82 : decode cX7_digest 82 = .ok (.lmul, 1) := by decide +kernel
theorem dX7_digest_83 : decode cX7_digest 83 = .ok (.aload_n 0, 1) := by decide +kernel
theorem dX7_digest_84 : decode cX7_digest 84 = .ok (.iload_n 3, 1) := by decide +kernel
theorem dX7_digest_85 : decode cX7_digest 85 = .ok (.iload 4, 2) := by decide +kernel
theorem dX7_digest_87 : decode cX7_digest 87 = .ok (.iconst 0, 1) := by decide +kernel
theorem dX7_digest_88 : decode cX7_digest 88 = .ok (.invokevirtual 438, 3) := by decide +kernel
theorem dX7_digest_91 : decode cX7_digest 91 = .ok (.ladd, 1) := by decide +kernel
theorem dX7_digest_92 : decode cX7_digest 92 = .ok (.lstore_n 1, 1) := by decide +kernel
theorem dX7_digest_93 : decode cX7_digest 93 = .ok (.ldc2_w 436, 3) := by decide +kernel
theorem dX7_digest_96 : decode cX7_digest 96 = .ok (.lload_n 1, 1) := by decide +kernel
theorem dX7_digest_97 : decode cX7_digest 97 = .ok (.lmul, 1) := by decide +kernel
theorem dX7_digest_98 : decode cX7_digest 98 = .ok (.aload_n 0, 1) := by decide +kernel
theorem dX7_digest_99 : decode cX7_digest 99 = .ok (.iload_n 3, 1) := by decide +kernel
theorem dX7_digest_100 : decode cX7_digest 100 = .ok (.iload 4, 2) := by decide +kernel
theorem dX7_digest_102 : decode cX7_digest 102 = .ok (.iconst 1, 1) := by decide +kernel
theorem dX7_digest_103 : decode cX7_digest 103 = .ok (.invokevirtual 438, 3) := by decide +kernel
theorem dX7_digest_106 : decode cX7_digest 106 = .ok (.ladd, 1) := by decide +kernel
theorem dX7_digest_107 : decode cX7_digest 107 = .ok (.lstore_n 1, 1) := by decide +kernel
theorem dX7_digest_108 : decode cX7_digest 108 = .ok (.iinc 4 1, 3) := by decide +kernel
theorem dX7_digest_111 : decode cX7_digest 111 = .ok (.goto (-43), 3) := by decide +kernel
theorem dX7_digest_114 : decode cX7_digest 114 = .ok (.iinc 3 1, 3) := by decide +kernel
theorem dX7_digest_117 : decode cX7_digest 117 = .ok (.goto (-62), 3) := by decide +kernel
theorem dX7_digest_120 : decode cX7_digest 120 = .ok (.lload_n 1, 1) := by decide +kernel
theorem dX7_digest_121 : decode cX7_digest 121 = .ok (.lreturn, 1) := by decide +kernel
theorem dX7_dotsOfAll_0 : decode cX7_dotsOfAll 0 = .ok (.iconst 0, 1) := by decide +kernel
theorem dX7_dotsOfAll_1 : decode cX7_dotsOfAll 1 = .ok (.istore_n 1, 1) := by decide +kernel
theorem dX7_dotsOfAll_2 : decode cX7_dotsOfAll 2 = .ok (.iconst 0, 1) := by decide +kernel
theorem dX7_dotsOfAll_3 : decode cX7_dotsOfAll 3 = .ok (.istore_n 2, 1) := by decide +kernel
theorem dX7_dotsOfAll_4 : decode cX7_dotsOfAll 4 = .ok (.iload_n 2, 1) := by decide +kernel
theorem dX7_dotsOfAll_5 : decode cX7_dotsOfAll 5 = .ok (.aload_n 0, 1) := by decide +kernel
theorem dX7_dotsOfAll_6 : decode cX7_dotsOfAll 6 = .ok (.getfield 9, 3) := by decide +kernel
theorem dX7_dotsOfAll_9 : decode cX7_dotsOfAll 9 = .ok (.iconst 0, 1) := by decide +kernel
theorem dX7_dotsOfAll_10 : decode cX7_dotsOfAll 10 = .ok (.iaload, 1) := by decide +kernel
theorem dX7_dotsOfAll_11 : decode cX7_dotsOfAll 11 = .ok (.if_icmp .ge 17, 3) := by decide +kernel
theorem dX7_dotsOfAll_14 : decode cX7_dotsOfAll 14 = .ok (.iload_n 1, 1) := by decide +kernel
theorem dX7_dotsOfAll_15 : decode cX7_dotsOfAll 15 = .ok (.aload_n 0, 1) := by decide +kernel
theorem dX7_dotsOfAll_16 : decode cX7_dotsOfAll 16 = .ok (.iload_n 2, 1) := by decide +kernel
theorem dX7_dotsOfAll_17 : decode cX7_dotsOfAll 17 = .ok (.invokevirtual 321, 3) := by decide +kernel
theorem dX7_dotsOfAll_20 : decode cX7_dotsOfAll 20 = .ok (.iadd, 1) := by decide +kernel
theorem dX7_dotsOfAll_21 : decode cX7_dotsOfAll 21 = .ok (.istore_n 1, 1) := by decide +kernel
theorem dX7_dotsOfAll_22 : decode cX7_dotsOfAll 22 = .ok (.iinc 2 1, 3) := by decide +kernel
theorem dX7_dotsOfAll_25 : decode cX7_dotsOfAll 25 = .ok (.goto (-21), 3) := by decide +kernel
theorem dX7_dotsOfAll_28 : decode cX7_dotsOfAll 28 = .ok (.iload_n 1, 1) := by decide +kernel
theorem dX7_dotsOfAll_29 : decode cX7_dotsOfAll 29 = .ok (.ireturn, 1) := by decide +kernel
theorem dX7_farthest_0 : decode cX7_farthest 0 = .ok (.iconst 0, 1) := by decide +kernel
theorem dX7_farthest_1 : decode cX7_farthest 1 = .ok (.istore_n 2, 1) := by decide +kernel
theorem dX7_farthest_2 : decode cX7_farthest 2 = .ok (.iconst 0, 1) := by decide +kernel
theorem dX7_farthest_3 : decode cX7_farthest 3 = .ok (.istore_n 3, 1) := by decide +kernel
theorem dX7_farthest_4 : decode cX7_farthest 4 = .ok (.iconst 0, 1) := by decide +kernel
theorem dX7_farthest_5 : decode cX7_farthest 5 = .ok (.istore 4, 2) := by decide +kernel
theorem dX7_farthest_7 : decode cX7_farthest 7 = .ok (.iconst 0, 1) := by decide +kernel
theorem dX7_farthest_8 : decode cX7_farthest 8 = .ok (.istore 5, 2) := by decide +kernel
theorem dX7_farthest_10 : decode cX7_farthest 10 = .ok (.iconst 0, 1) := by decide +kernel
theorem dX7_farthest_11 : decode cX7_farthest 11 = .ok (.istore 6, 2) := by decide +kernel
theorem dX7_farthest_13 : decode cX7_farthest 13 = .ok (.iconst 0, 1) := by decide +kernel
theorem dX7_farthest_14 : decode cX7_farthest 14 = .ok (.istore 7, 2) := by decide +kernel
theorem dX7_farthest_16 : decode cX7_farthest 16 = .ok (.iload 7, 2) := by decide +kernel
theorem dX7_farthest_18 : decode cX7_farthest 18 = .ok (.aload_n 0, 1) := by decide +kernel
theorem dX7_farthest_19 : decode cX7_farthest 19 = .ok (.iload_n 1, 1) := by decide +kernel
theorem dX7_farthest_20 : decode cX7_farthest 20 = .ok (.invokevirtual 205, 3) := by decide +kernel
theorem dX7_farthest_23 : decode cX7_farthest 23 = .ok (.if_icmp .ge 140, 3) := by decide +kernel
theorem dX7_farthest_26 : decode cX7_farthest 26 = .ok (.iconst 0, 1) := by decide +kernel
theorem dX7_farthest_27 : decode cX7_farthest 27 = .ok (.istore 8, 2) := by decide +kernel
theorem dX7_farthest_29 : decode cX7_farthest 29 = .ok (.iload 8, 2) := by decide +kernel
theorem dX7_farthest_31 : decode cX7_farthest 31 = .ok (.aload_n 0, 1) := by decide +kernel
theorem dX7_farthest_32 : decode cX7_farthest 32 = .ok (.iload_n 1, 1) := by decide +kernel
theorem dX7_farthest_33 : decode cX7_farthest 33 = .ok (.invokevirtual 202, 3) := by decide +kernel
theorem dX7_farthest_36 : decode cX7_farthest 36 = .ok (.if_icmp .ge 121, 3) := by decide +kernel
theorem dX7_farthest_39 : decode cX7_farthest 39 = .ok (.aload_n 0, 1) := by decide +kernel
theorem dX7_farthest_40 : decode cX7_farthest 40 = .ok (.iload_n 1, 1) := by decide +kernel
theorem dX7_farthest_41 : decode cX7_farthest 41 = .ok (.iload 8, 2) := by decide +kernel
theorem dX7_farthest_43 : decode cX7_farthest 43 = .ok (.iload 7, 2) := by decide +kernel
theorem dX7_farthest_45 : decode cX7_farthest 45 = .ok (.invokevirtual 215, 3) := by decide +kernel
theorem dX7_farthest_48 : decode cX7_farthest 48 = .ok (.ifCond .ne 6, 3) := by decide +kernel
theorem dX7_farthest_51 : decode cX7_farthest 51 = .ok (.goto 100, 3) := by decide +kernel
theorem dX7_farthest_54 : decode cX7_farthest 54 = .ok (.iload_n 2, 1) := by decide +kernel
theorem dX7_farthest_55 : decode cX7_farthest 55 = .ok (.ifCond .ne 11, 3) := by decide +kernel
theorem dX7_farthest_58 : decode cX7_farthest 58 = .ok (.iload 8, 2) := by decide +kernel
theorem dX7_farthest_60 : decode cX7_farthest 60 = .ok (.iload 7, 2) := by decide +kernel
theorem dX7_farthest_62 : decode cX7_farthest 62 = .ok (.iadd, 1) := by decide +kernel
theorem dX7_farthest_63 : decode cX7_farthest 63 = .ok (.goto 12, 3) := by decide +kernel
theorem dX7_farthest_66 : decode cX7_farthest 66 = .ok (.iload_n 3, 1) := by decide +kernel
theorem dX7_farthest_67 : decode cX7_farthest 67 = .ok (.iload 8, 2) := by decide +kernel
theorem dX7_farthest_69 : decode cX7_farthest 69 = .ok (.iload 7, 2) := by decide +kernel
theorem dX7_farthest_71 : decode cX7_farthest 71 = .ok (.iadd, 1) := by decide +kernel
theorem dX7_farthest_72 : decode cX7_farthest 72 = .ok (.invokestatic 121, 3) := by decide +kernel
theorem dX7_farthest_75 : decode cX7_farthest 75 = .ok (.istore_n 3, 1) := by decide +kernel
theorem dX7_farthest_76 : decode cX7_farthest 76 = .ok (.iload_n 2, 1) := by decide +kernel
theorem dX7_farthest_77 : decode cX7_farthest 77 = .ok (.ifCond .ne 11, 3) := by decide +kernel
theorem dX7_farthest_80 : decode cX7_farthest 80 = .ok (.iload 8, 2) := by decide +kernel
theorem dX7_farthest_82 : decode cX7_farthest 82 = .ok (.iload 7, 2) := by decide +kernel
theorem dX7_farthest_84 : decode cX7_farthest 84 = .ok (.iadd, 1) := by decide +kernel
theorem dX7_farthest_85 : decode cX7_farthest 85 = .ok (.goto 13, 3) := by decide +kernel
theorem dX7_farthest_88 : decode cX7_farthest 88 = .ok (.iload 4, 2) := by decide +kernel
theorem dX7_farthest_90 : decode cX7_farthest 90 = .ok (.iload 8, 2) := by decide +kernel
theorem dX7_farthest_92 : decode cX7_farthest 92 = .ok (.iload 7, 2) := by decide +kernel
theorem dX7_farthest_94 : decode cX7_farthest 94 = .ok (.iadd, 1) := by decide +kernel
theorem dX7_farthest_95 : decode cX7_farthest 95 = .ok (.invokestatic 219, 3) := by decide +kernel
theorem dX7_farthest_98 : decode cX7_farthest 98 = .ok (.istore 4, 2) := by decide +kernel
theorem dX7_farthest_100 : decode cX7_farthest 100 = .ok (.iload_n 2, 1) := by decide +kernel
theorem dX7_farthest_101 : decode cX7_farthest 101 = .ok (.ifCond .ne 11, 3) := by decide +kernel
theorem dX7_farthest_104 : decode cX7_farthest 104 = .ok (.iload 8, 2) := by decide +kernel
theorem dX7_farthest_106 : decode cX7_farthest 106 = .ok (.iload 7, 2) := by decide +kernel
theorem dX7_farthest_108 : decode cX7_farthest 108 = .ok (.isub, 1) := by decide +kernel
theorem dX7_farthest_109 : decode cX7_farthest 109 = .ok (.goto 13, 3) := by decide +kernel
theorem dX7_farthest_112 : decode cX7_farthest 112 = .ok (.iload 5, 2) := by decide +kernel
theorem dX7_farthest_114 : decode cX7_farthest 114 = .ok (.iload 8, 2) := by decide +kernel
theorem dX7_farthest_116 : decode cX7_farthest 116 = .ok (.iload 7, 2) := by decide +kernel
theorem dX7_farthest_118 : decode cX7_farthest 118 = .ok (.isub, 1) := by decide +kernel
theorem dX7_farthest_119 : decode cX7_farthest 119 = .ok (.invokestatic 121, 3) := by decide +kernel
theorem dX7_farthest_122 : decode cX7_farthest 122 = .ok (.istore 5, 2) := by decide +kernel
theorem dX7_farthest_124 : decode cX7_farthest 124 = .ok (.iload_n 2, 1) := by decide +kernel
theorem dX7_farthest_125 : decode cX7_farthest 125 = .ok (.ifCond .ne 11, 3) := by decide +kernel
theorem dX7_farthest_128 : decode cX7_farthest 128 = .ok (.iload 8, 2) := by decide +kernel
theorem dX7_farthest_130 : decode cX7_farthest 130 = .ok (.iload 7, 2) := by decide +kernel
theorem dX7_farthest_132 : decode cX7_farthest 132 = .ok (.isub, 1) := by decide +kernel
theorem dX7_farthest_133 : decode cX7_farthest 133 = .ok (.goto 13, 3) := by decide +kernel
theorem dX7_farthest_136 : decode cX7_farthest 136 = .ok (.iload 6, 2) := by decide +kernel
theorem dX7_farthest_138 : decode cX7_farthest 138 = .ok (.iload 8, 2) := by decide +kernel
theorem dX7_farthest_140 : decode cX7_farthest 140 = .ok (.iload 7, 2) := by decide +kernel
theorem dX7_farthest_142 : decode cX7_farthest 142 = .ok (.isub, 1) := by decide +kernel
theorem dX7_farthest_143 : decode cX7_farthest 143 = .ok (.invokestatic 219, 3) := by decide +kernel
theorem dX7_farthest_146 : decode cX7_farthest 146 = .ok (.istore 6, 2) := by decide +kernel
theorem dX7_farthest_148 : decode cX7_farthest 148 = .ok (.iinc 2 1, 3) := by decide +kernel
theorem dX7_farthest_151 : decode cX7_farthest 151 = .ok (.iinc 8 1, 3) := by decide +kernel
theorem dX7_farthest_154 : decode cX7_farthest 154 = .ok (.goto (-125), 3) := by decide +kernel
theorem dX7_farthest_157 : decode cX7_farthest 157 = .ok (.iinc 7 1, 3) := by decide +kernel
theorem dX7_farthest_160 : decode cX7_farthest 160 = .ok (.goto (-144), 3) := by decide +kernel
theorem dX7_farthest_163 : decode cX7_farthest 163 = .ok (.iload 4, 2) := by decide +kernel
theorem dX7_farthest_165 : decode cX7_farthest 165 = .ok (.iload_n 3, 1) := by decide +kernel
theorem dX7_farthest_166 : decode cX7_farthest 166 = .ok (.isub, 1) := by decide +kernel
theorem dX7_farthest_167 : decode cX7_farthest 167 = .ok (.iload 6, 2) := by decide +kernel
theorem dX7_farthest_169 : decode cX7_farthest 169 = .ok (.iload 5, 2) := by decide +kernel
theorem dX7_farthest_171 : decode cX7_farthest 171 = .ok (.isub, 1) := by decide +kernel
theorem dX7_farthest_172 : decode cX7_farthest 172 = .ok (.invokestatic 219, 3) := by decide +kernel
theorem dX7_farthest_175 : decode cX7_farthest 175 = .ok (.ireturn, 1) := by decide +kernel
theorem dX7_spread_0 : decode cX7_spread 0 = .ok (.aload_n 0, 1) := by decide +kernel
theorem dX7_spread_1 : decode cX7_spread 1 = .ok (.iload_n 1, 1) := by decide +kernel
theorem dX7_spread_2 : decode cX7_spread 2 = .ok (.invokevirtual 301, 3) := by decide +kernel
theorem dX7_spread_5 : decode cX7_spread 5 = .ok (.ifCond .eq 15, 3) := by decide +kernel
theorem dX7_spread_8 : decode cX7_spread 8 = .ok (.iload_n 2, 1) := by decide +kernel
theorem dX7_spread_9 : decode cX7_spread 9 = .ok (.i2l, 1) := by decide +kernel
theorem dX7_spread_10 : decode cX7_spread 10 = .ok (.lconst 0, 1) := by decide +kernel
theorem dX7_spread_11 : decode cX7_spread 11 = .ok (.ldc2_w 394, 3) := by decide +kernel
theorem dX7_spread_14 : decode cX7_spread 14 = .ok (.invokestatic 96, 3) := by decide +kernel
theorem dX7_spread_17 : decode cX7_spread 17 = .ok (.ifCond .ne 5, 3) := by decide +kernel
theorem dX7_spread_20 : decode cX7_spread 20 = .ok (.iconst (-1), 1) := by decide +kernel
theorem dX7_spread_21 : decode cX7_spread 21 = .ok (.ireturn, 1) := by decide +kernel
theorem dX7_spread_22 : decode cX7_spread 22 = .ok (.iload_n 2, 1) := by decide +kernel
theorem dX7_spread_23 : decode cX7_spread 23 = .ok (.iconst 2, 1) := by decide +kernel
theorem dX7_spread_24 : decode cX7_spread 24 = .ok (.if_icmp .ne 9, 3) := by decide +kernel
theorem dX7_spread_27 : decode cX7_spread 27 = .ok (.aload_n 0, 1) := by decide +kernel
theorem dX7_spread_28 : decode cX7_spread 28 = .ok (.iload_n 1, 1) := by decide +kernel
theorem dX7_spread_29 : decode cX7_spread 29 = .ok (.invokevirtual 423, 3) := by decide +kernel
theorem dX7_spread_32 : decode cX7_spread 32 = .ok (.ireturn, 1) := by decide +kernel
theorem dX7_spread_33 : decode cX7_spread 33 = .ok (.iconst 0, 1) := by decide +kernel
theorem dX7_spread_34 : decode cX7_spread 34 = .ok (.istore_n 3, 1) := by decide +kernel
theorem dX7_spread_35 : decode cX7_spread 35 = .ok (.iconst 0, 1) := by decide +kernel
theorem dX7_spread_36 : decode cX7_spread 36 = .ok (.istore 4, 2) := by decide +kernel
theorem dX7_spread_38 : decode cX7_spread 38 = .ok (.iload 4, 2) := by decide +kernel
theorem dX7_spread_40 : decode cX7_spread 40 = .ok (.aload_n 0, 1) := by decide +kernel
theorem dX7_spread_41 : decode cX7_spread 41 = .ok (.iload_n 1, 1) := by decide +kernel
theorem dX7_spread_42 : decode cX7_spread 42 = .ok (.invokevirtual 205, 3) := by decide +kernel
theorem dX7_spread_45 : decode cX7_spread 45 = .ok (.if_icmp .ge 58, 3) := by decide +kernel
theorem dX7_spread_48 : decode cX7_spread 48 = .ok (.iconst 0, 1) := by decide +kernel
theorem dX7_spread_49 : decode cX7_spread 49 = .ok (.istore 5, 2) := by decide +kernel
theorem dX7_spread_51 : decode cX7_spread 51 = .ok (.iload 5, 2) := by decide +kernel
theorem dX7_spread_53 : decode cX7_spread 53 = .ok (.aload_n 0, 1) := by decide +kernel
theorem dX7_spread_54 : decode cX7_spread 54 = .ok (.iload_n 1, 1) := by decide +kernel
theorem dX7_spread_55 : decode cX7_spread 55 = .ok (.invokevirtual 202, 3) := by decide +kernel
theorem dX7_spread_58 : decode cX7_spread 58 = .ok (.if_icmp .ge 39, 3) := by decide +kernel
theorem dX7_spread_61 : decode cX7_spread 61 = .ok (.iload_n 3, 1) := by decide +kernel
theorem dX7_spread_62 : decode cX7_spread 62 = .ok (.aload_n 0, 1) := by decide +kernel
theorem dX7_spread_63 : decode cX7_spread 63 = .ok (.iload_n 1, 1) := by decide +kernel
theorem dX7_spread_64 : decode cX7_spread 64 = .ok (.iload 5, 2) := by decide +kernel
theorem dX7_spread_66 : decode cX7_spread 66 = .ok (.iload 4, 2) := by decide +kernel
theorem dX7_spread_68 : decode cX7_spread 68 = .ok (.invokevirtual 215, 3) := by decide +kernel
theorem dX7_spread_71 : decode cX7_spread 71 = .ok (.ifCond .eq 17, 3) := by decide +kernel
theorem dX7_spread_74 : decode cX7_spread 74 = .ok (.iload_n 2, 1) := by decide +kernel
theorem dX7_spread_75 : decode cX7_spread 75 = .ok (.ifCond .ne 8, 3) := by decide +kernel
theorem dX7_spread_78 : decode cX7_spread 78 = .ok (.iload 5, 2) := by decide +kernel
theorem dX7_spread_80 : decode cX7_spread 80 = .ok (.goto 9, 3) := by decide +kernel
theorem dX7_spread_83 : decode cX7_spread 83 = .ok (.iload 4, 2) := by decide +kernel
theorem dX7_spread_85 : decode cX7_spread 85 = .ok (.goto 4, 3) := by decide +kernel
theorem dX7_spread_88 : decode cX7_spread 88 = .ok (.iconst 0, 1) := by decide +kernel
theorem dX7_spread_89 : decode cX7_spread 89 = .ok (.iadd, 1) := by decide +kernel
theorem dX7_spread_90 : decode cX7_spread 90 = .ok (.istore_n 3, 1) := by decide +kernel
theorem dX7_spread_91 : decode cX7_spread 91 = .ok (.iinc 5 1, 3) := by decide +kernel
theorem dX7_spread_94 : decode cX7_spread 94 = .ok (.goto (-43), 3) := by decide +kernel
theorem dX7_spread_97 : decode cX7_spread 97 = .ok (.iinc 4 1, 3) := by decide +kernel
theorem dX7_spread_100 : decode cX7_spread 100 = .ok (.goto (-62), 3) := by decide +kernel
theorem dX7_spread_103 : decode cX7_spread 103 = .ok (.iload_n 3, 1) := by decide +kernel
theorem dX7_spread_104 : decode cX7_spread 104 = .ok (.ireturn, 1) := by decide +kernel
set_option maxRecDepth 100000 in
theorem pq71 : Cond.selects RX7 yX7_farthest yX7_farthest ∈ pw := pw_mem (i := 71) (by decide +kernel) rfl
set_option maxRecDepth 100000 in
theorem pq72 : Cond.selects RX7 yX7_dotsOfAll yX7_dotsOfAll ∈ pw := pw_mem (i := 72) (by decide +kernel) rfl
set_option maxRecDepth 100000 in
theorem pq1128 : Cond.fieldLink RX7 67 "MaskTouchModel" "taped" "I" ∈ pw := pw_mem (i := 1128) (by decide +kernel) rfl
set_option maxRecDepth 100000 in
theorem pq1559 : Cond.instanceMethod yX7_row ∈ pw := pw_mem (i := 1559) (by decide +kernel) rfl
set_option maxRecDepth 100000 in
theorem pq1560 : Cond.selects RX7 yX7_row yX7_row ∈ pw := pw_mem (i := 1560) (by decide +kernel) rfl
set_option maxRecDepth 100000 in
theorem pq1561 : Cond.code yX7_row cX7_row 4 (some .long) ∈ pw := pw_mem (i := 1561) (by rfl) rfl
set_option maxRecDepth 100000 in
theorem pq1694 : Cond.methodLink RX7 423 yX7_farthest ∈ pw := pw_mem (i := 1694) (by decide +kernel) rfl
set_option maxRecDepth 100000 in
theorem pq1696 : Cond.instanceMethod yX7_farthest ∈ pw := pw_mem (i := 1696) (by decide +kernel) rfl
set_option maxRecDepth 100000 in
theorem pq1697 : Cond.code yX7_farthest cX7_farthest 9 (some .int) ∈ pw := pw_mem (i := 1697) (by rfl) rfl
set_option maxRecDepth 100000 in
theorem pq1717 : Cond.constantLong RX7 434 (17) ∈ pw := pw_mem (i := 1717) (by decide +kernel) rfl
set_option maxRecDepth 100000 in
theorem pq1718 : Cond.constantLong RX7 436 (31) ∈ pw := pw_mem (i := 1718) (by decide +kernel) rfl
set_option maxRecDepth 100000 in
theorem pq1719 : Cond.methodLink RX7 438 yX7_row ∈ pw := pw_mem (i := 1719) (by decide +kernel) rfl
set_option maxRecDepth 100000 in
theorem pq1728 : Cond.methodLink RX7 442 yX7_dotsOfAll ∈ pw := pw_mem (i := 1728) (by decide +kernel) rfl
set_option maxRecDepth 100000 in
theorem pq1730 : Cond.instanceMethod yX7_dotsOfAll ∈ pw := pw_mem (i := 1730) (by decide +kernel) rfl
set_option maxRecDepth 100000 in
theorem pq1731 : Cond.code yX7_dotsOfAll cX7_dotsOfAll 3 (some .int) ∈ pw := pw_mem (i := 1731) (by rfl) rfl
set_option maxHeartbeats 4000000 in
set_option maxRecDepth 100000 in
theorem s_X7_farthest (l : Launch) (dC : Nat → ClassId) (dI : Nat → Nat → Nat) (cs : Nat → ClassId) (L : List Nat) (K G : Nat → Nat) (Q : Nat → Nat → Option Nat) (hQ : Sv L K G Q) (x0 m0 : Nat) (tx : GT) (tm : GT × Int) (sz : Nat) (I : Nat → Nat → Int32) (J : Nat → Nat → Int64) (hI : Iv L K x0 m0 tx tm I) (p0 : Nat) (hLp0 : p0 ∈ L) (hKp0 : K p0 = 7) (p1 : Int32) (bp1 : (0) ≤ p1.toInt ∧ p1.toInt ≤ 7) : Met l yX7_farthest (.code yX7_farthest cX7_farthest 9 (some .int) :: pw) ({ frames := 2, cells := 0, slots := 0, locals := 48 }) (sP (dC, dI) cs [.ref p0, .int p1] sz L K I J Q) (va_Qi (fun (r : Int32) (_ : Unit) => (∀ c : Fx, okF c → rI Q I p0 c → rJ Q J p0 c → p1.toInt.toNat < (c.1 0).toInt.toNat → frM (md (mo c.2 p1.toInt.toNat)) r.toInt)) (fun _ _ => True) (fun _ => False)) 0 0 (fun _ => False) := by
  refine Met.ofW (cc := cX7_farthest) (maxL := 9) (ret := (some .int)) (by decide +kernel) rfl ?_
  intro p e s m args below meth c s₁ B hml hv
  obtain ⟨rfl, hsz, hP, hK, hD0, hN⟩ := hv
  have hx := B.exec
  have hb := B.bytes
  have hr := B.returns
  have hts := fun w (h : w ∈ pw) => atoms_spec (ws := Cond.code yX7_farthest cX7_farthest 9 (some .int) :: pw) B.pre w (List.mem_cons_of_mem _ h)
  have hown : s.vm.findClass RX7 = some m.cls := findClass_of_methodNamed B.named
  have hlocks := B.notSynchronized
  subst hsz
  have hBB : 999 ≤ tm.2 ∧ tm.2 ≤ 6000000 := hI.2.2.2.2.1
  have hD := hD0
  obtain ⟨H, hHe⟩ : ∃ H : Heap, H = s.heap := ⟨_, rfl⟩
  have hS : va_S (fun _ => False) s.heap H [] := by rw [hHe]; exact va_S.rf
  rw [← hHe] at hP
  have hl := lv_entry ([.ref p0, .int p1]) (n := 9) (Nat.le_of_ble_eq_true rfl)
  rw [lg_entry_eq]
  generalize (lg_sl ([.ref p0, .int p1]) ++ List.replicate (9 - (lg_sl ([.ref p0, .int p1])).length) Slot.unset).toArray = ls at hl ⊢
  have hl : lv_has ls 9 [(0, .ref p0), (1, .int p1)] := hl
  rw [← hHe]
  refine namedW (fun R Qz hR hQz => ?_)
  refine lv_iconst (v := 0) hx hb dX7_farthest_0 (by decide +kernel) ?_
  refine lv_istore_n (lv' := [(2, .int 0), (0, .ref p0), (1, .int p1)]) hx hb dX7_farthest_1 rfl hl (by decide) rfl (fun ls hl => ?_)
  refine lv_iconst (v := 0) hx hb dX7_farthest_2 (by decide +kernel) ?_
  refine lv_istore_n (lv' := [(3, .int 0), (2, .int 0), (0, .ref p0), (1, .int p1)]) hx hb dX7_farthest_3 rfl hl (by decide) rfl (fun ls hl => ?_)
  refine lv_iconst (v := 0) hx hb dX7_farthest_4 (by decide +kernel) ?_
  refine lv_istore (lv' := [(4, .int 0), (3, .int 0), (2, .int 0), (0, .ref p0), (1, .int p1)]) hx hb dX7_farthest_5 hl (by decide) rfl (fun ls hl => ?_)
  refine lv_iconst (v := 0) hx hb dX7_farthest_7 (by decide +kernel) ?_
  refine lv_istore (lv' := [(5, .int 0), (4, .int 0), (3, .int 0), (2, .int 0), (0, .ref p0), (1, .int p1)]) hx hb dX7_farthest_8 hl (by decide) rfl (fun ls hl => ?_)
  refine lv_iconst (v := 0) hx hb dX7_farthest_10 (by decide +kernel) ?_
  refine lv_istore (lv' := [(6, .int 0), (5, .int 0), (4, .int 0), (3, .int 0), (2, .int 0), (0, .ref p0), (1, .int p1)]) hx hb dX7_farthest_11 hl (by decide) rfl (fun ls hl => ?_)
  refine lv_iconst (v := 0) hx hb dX7_farthest_13 (by decide +kernel) ?_
  refine lv_istore (lv' := [(7, .int 0), (6, .int 0), (5, .int 0), (4, .int 0), (3, .int 0), (2, .int 0), (0, .ref p0), (1, .int p1)]) hx hb dX7_farthest_14 hl (by decide) rfl (fun ls hl => ?_)
  have key16 := blocks (fun n => ∀ (v16_2 : Int32) (v16_3 : Int32) (v16_4 : Int32) (v16_5 : Int32) (v16_6 : Int32) (v16_7 : Int32) (H : Heap) (lo : List Loc) (ls : Array Slot), (41 - v16_7.toInt).toNat = n → ((0) ≤ v16_3.toInt ∧ v16_3.toInt ≤ 200) → ((0) ≤ v16_7.toInt ∧ v16_7.toInt ≤ 40) → 0 ≤ v16_2.toInt ∧ v16_2.toInt ≤ 100 * v16_7.toInt → (∀ c : Fx, okF c → rI Q I p0 c → rJ Q J p0 c → p1.toInt.toNat < (c.1 0).toInt.toNat → rM (ahD (md (mo c.2 p1.toInt.toNat)) v16_7.toInt 0) v16_2.toInt v16_3.toInt v16_4.toInt v16_5.toInt v16_6.toInt) → va_P (dC, dI) vwCl (Wd cs L K I J Q) H → va_S (fun _ => False) s.heap H lo → lv_has ls 9 [(0, .ref p0), (1, .int p1), (2, .int v16_2), (3, .int v16_3), (4, .int v16_4), (5, .int v16_5), (6, .int v16_6), (7, .int v16_7)] → W p l e R s m (([.ref p0, .int p1] : List Value).toArray) below meth c H lo 0 0 Qz (F0 m 16 ls [])) (by
    intro n ih16
    intro v16_2 v16_3 v16_4 v16_5 v16_6 v16_7 H lo ls hmu16 bv16_3 bv16_7 hb16 g16 hP hS hl
    refine lv_iload hx hb dX7_farthest_16 (lv_at hl 7 rfl) ?_
    refine lv_aload_n hx hb dX7_farthest_18 rfl (lv_at hl 0 rfl) ?_
    refine lv_iload_n hx hb dX7_farthest_19 rfl (lv_at hl 1 rfl) ?_
    refine ro_i (va_runV (As := [.int p1]) (rest := [.int v16_7]) ⟨hx, hb, hml, hown, hts⟩ (s_X7_high l dC dI cs L K G Q hQ x0 m0 tx tm H.size I J hI p0 hLp0 hKp0 p1 ⟨by omega, by omega⟩) (cwV 1 hts (gV pq1372 pq1374 pq33 pq81 pq1375) rfl rfl rfl (by decide +kernel) ⟨(by rw [hR]; exact (Nat.le_of_ble_eq_true rfl)), (by rw [hR]; exact (Nat.le_of_ble_eq_true rfl))⟩) (sP_V hP hD hK hN hLp0 hKp0 rfl rfl) rfl rfl hl.1 rfl (lv_room (Nat.le_of_ble_eq_true rfl)) dX7_farthest_20 ⟨(by rw [hR]; exact (Nat.le_of_ble_eq_true rfl)), (by rw [hR]; exact (Nat.le_of_ble_eq_true rfl))⟩) hS hP (fun z20 H locs hz20 hP hS => ?_)
    obtain ⟨bz20, fez20⟩ := hz20
    refine lv_icmp_ge (tgt := 163) hx hb dX7_farthest_23 (by decide) (fun c23 => ?_) (fun c23 => ?_)
    · have t23 := tq_le (k := z20.toInt) (q := v16_7.toInt) c23 rfl rfl
      refine lv_iload hx hb dX7_farthest_163 (lv_at hl 4 rfl) ?_
      refine lv_iload_n hx hb dX7_farthest_165 rfl (lv_at hl 3 rfl) ?_
      refine lv_isub hx hb dX7_farthest_166 ?_
      refine lv_topi (fun z166 ez166 => ?_)
      refine lv_iload hx hb dX7_farthest_167 (lv_at hl 6 rfl) ?_
      refine lv_iload hx hb dX7_farthest_169 (lv_at hl 5 rfl) ?_
      refine lv_isub hx hb dX7_farthest_171 ?_
      refine lv_topi (fun z171 ez171 => ?_)
      refine va_mmax hx hb (hml.trans hl.1.symm) hown (hts _ pq1443) (hts _ pq750) (hts _ pq82) (hts _ pq751) (by rw [hR]; exact (Nat.le_of_ble_eq_true rfl)) (by rw [hR]; exact (Nat.le_of_ble_eq_true rfl)) (by rw [hR]; exact (Nat.le_of_ble_eq_true rfl)) (by rw [hR]; exact (Nat.le_of_ble_eq_true rfl)) dX7_farthest_172 ?_
      refine lv_topi (fun z172 ez172 => ?_)
      have bz172 := tq_max ez172
      subst hR; subst hQz
      exact W.iret (v := z172) hx hb hr (fun t ht hW => ⟨⟨z172, (), rfl, (fun c ok h hj hm => by have e20 := congrArg Int32.toInt ((show z20 = I (a0 Q p0 0) (11 + p1.toInt.toNat) from fez20).trans (h _ (by omega))); have H : ∀ X Y, md (mo c.2 p1.toInt.toNat) X Y = true → Y < v16_7.toInt ∨ (Y = v16_7.toInt ∧ X < 0) := (fun X Y q => by have := md_b (ok.2.2.1 _ hm).2.2 _ _ q; omega); have g2 := rM_congr (fun x y => (ah_hi H x y).symm) (g16 c ok h hj hm); have b := rM_b g2 (fun x y q => md_rng q); have a := tq_sub (k := v16_4.toInt) (q := v16_3.toInt) ez166 rfl rfl (by omega) (by omega); have a2 := tq_sub (k := v16_6.toInt) (q := v16_5.toInt) ez171 rfl rfl (by omega) (by omega); exact rM_far g2 (by omega)), trivial⟩, hS.F ht⟩) hS.2.2 dX7_farthest_175
    · have t23 := tq_nle (k := z20.toInt) (q := v16_7.toInt) c23 rfl rfl
      refine lv_iconst (v := 0) hx hb dX7_farthest_26 (by decide +kernel) ?_
      refine lv_istore (lv' := [(8, .int 0), (0, .ref p0), (1, .int p1), (2, .int v16_2), (3, .int v16_3), (4, .int v16_4), (5, .int v16_5), (6, .int v16_6), (7, .int v16_7)]) hx hb dX7_farthest_27 hl (by decide) rfl (fun ls hl => ?_)
      have key29 := blocks (fun n => ∀ (v29_2 : Int32) (v29_3 : Int32) (v29_4 : Int32) (v29_5 : Int32) (v29_6 : Int32) (v29_8 : Int32) (H : Heap) (lo : List Loc) (ls : Array Slot), (101 - v29_8.toInt).toNat = n → ((0) ≤ v29_3.toInt ∧ v29_3.toInt ≤ 200) → ((0) ≤ v29_8.toInt ∧ v29_8.toInt ≤ 100) → 0 ≤ v29_2.toInt ∧ v29_2.toInt ≤ 100 * v16_7.toInt + v29_8.toInt → (∀ c : Fx, okF c → rI Q I p0 c → rJ Q J p0 c → p1.toInt.toNat < (c.1 0).toInt.toNat → rM (ahD (md (mo c.2 p1.toInt.toNat)) v16_7.toInt v29_8.toInt) v29_2.toInt v29_3.toInt v29_4.toInt v29_5.toInt v29_6.toInt) → va_P (dC, dI) vwCl (Wd cs L K I J Q) H → va_S (fun _ => False) s.heap H lo → lv_has ls 9 [(0, .ref p0), (1, .int p1), (2, .int v29_2), (3, .int v29_3), (4, .int v29_4), (5, .int v29_5), (6, .int v29_6), (7, .int v16_7), (8, .int v29_8)] → W p l e R s m (([.ref p0, .int p1] : List Value).toArray) below meth c H lo 0 0 Qz (F0 m 29 ls [])) (by
        intro n ih29
        intro v29_2 v29_3 v29_4 v29_5 v29_6 v29_8 H lo ls hmu29 bv29_3 bv29_8 hb29 g29 hP hS hl
        refine lv_iload hx hb dX7_farthest_29 (lv_at hl 8 rfl) ?_
        refine lv_aload_n hx hb dX7_farthest_31 rfl (lv_at hl 0 rfl) ?_
        refine lv_iload_n hx hb dX7_farthest_32 rfl (lv_at hl 1 rfl) ?_
        refine ro_i (va_runV (As := [.int p1]) (rest := [.int v29_8]) ⟨hx, hb, hml, hown, hts⟩ (s_X7_wide l dC dI cs L K G Q hQ x0 m0 tx tm H.size I J hI p0 hLp0 hKp0 p1 ⟨by omega, by omega⟩) (cwV 1 hts (gV pq1368 pq1370 pq32 pq81 pq1371) rfl rfl rfl (by decide +kernel) ⟨(by rw [hR]; exact (Nat.le_of_ble_eq_true rfl)), (by rw [hR]; exact (Nat.le_of_ble_eq_true rfl))⟩) (sP_V hP hD hK hN hLp0 hKp0 rfl rfl) rfl rfl hl.1 rfl (lv_room (Nat.le_of_ble_eq_true rfl)) dX7_farthest_33 ⟨(by rw [hR]; exact (Nat.le_of_ble_eq_true rfl)), (by rw [hR]; exact (Nat.le_of_ble_eq_true rfl))⟩) hS hP (fun z33 H locs hz33 hP hS => ?_)
        obtain ⟨bz33, fez33⟩ := hz33
        refine lv_icmp_ge (tgt := 157) hx hb dX7_farthest_36 (by decide) (fun c36 => ?_) (fun c36 => ?_)
        · have t36 := tq_le (k := z33.toInt) (q := v29_8.toInt) c36 rfl rfl
          obtain ⟨z157, ez157⟩ : ∃ y : Int32, y = v16_7 + 1 := ⟨_, rfl⟩
          refine lv_iinc (v := z157) (lv' := [(7, .int z157), (0, .ref p0), (1, .int p1), (2, .int v29_2), (3, .int v29_3), (4, .int v29_4), (5, .int v29_5), (6, .int v29_6), (8, .int v29_8)]) hx hb dX7_farthest_157 hl (k := 7) rfl (by rw [ez157]; rfl) (by decide) rfl (fun ls hl => ?_)
          have bz157 := tq_add (k := v16_7.toInt) (q := 1) ez157 rfl (by decide +kernel) (by omega) (by omega)
          refine lv_goto (tgt := 16) hx hb dX7_farthest_160 (by decide) ?_
          exact ih16 _ (by omega) v29_2 v29_3 v29_4 v29_5 v29_6 z157 _ _ _ rfl ⟨by omega, by omega⟩ ⟨by omega, by omega⟩ (by omega) (fun c ok h hj hm => by have e33 := congrArg Int32.toInt ((show z33 = I (a0 Q p0 0) (3 + p1.toInt.toNat) from fez33).trans (h _ (by omega))); exact rM_congr (fun x y => ah_mv (fun X Y q => by have := md_b (ok.2.2.1 _ hm).2.2 _ _ q; omega) x y) (g29 c ok h hj hm)) hP hS (lv_sub hl [1, 2, 3, 4, 5, 6, 7, 0] rfl)
        · have t36 := tq_nle (k := z33.toInt) (q := v29_8.toInt) c36 rfl rfl
          refine lv_aload_n hx hb dX7_farthest_39 rfl (lv_at hl 0 rfl) ?_
          refine lv_iload_n hx hb dX7_farthest_40 rfl (lv_at hl 1 rfl) ?_
          refine lv_iload hx hb dX7_farthest_41 (lv_at hl 8 rfl) ?_
          refine lv_iload hx hb dX7_farthest_43 (lv_at hl 7 rfl) ?_
          refine ro_i (va_runV (As := [.int p1, .int v29_8, .int v16_7]) (rest := []) ⟨hx, hb, hml, hown, hts⟩ (s_X7_has l dC dI cs L K G Q hQ x0 m0 tx tm H.size I J hI p0 hLp0 hKp0 p1 ⟨by omega, by omega⟩ v29_8 v16_7) (cwV 3 hts (gV pq1376 pq1378 pq34 pq81 pq1379) rfl rfl rfl (by decide +kernel) ⟨(by rw [hR]; exact (Nat.le_of_ble_eq_true rfl)), (by rw [hR]; exact (Nat.le_of_ble_eq_true rfl))⟩) (sP_V hP hD hK hN hLp0 hKp0 rfl rfl) rfl rfl hl.1 rfl (lv_room (Nat.le_of_ble_eq_true rfl)) dX7_farthest_45 ⟨(by rw [hR]; exact (Nat.le_of_ble_eq_true rfl)), (by rw [hR]; exact (Nat.le_of_ble_eq_true rfl))⟩) hS hP (fun z45 H locs hz45 hP hS => ?_)
          obtain ⟨bz45, imz45, xpz45⟩ := hz45
          have j151 : ∀ (v151_2 : Int32) (v151_3 : Int32) (v151_4 : Int32) (v151_5 : Int32) (v151_6 : Int32) (H : Heap) (lo : List Loc) (ls : Array Slot), ((0) ≤ v151_3.toInt ∧ v151_3.toInt ≤ 200) → 0 ≤ v151_2.toInt ∧ v151_2.toInt ≤ 100 * v16_7.toInt + v29_8.toInt + 1 → (∀ c : Fx, okF c → rI Q I p0 c → rJ Q J p0 c → p1.toInt.toNat < (c.1 0).toInt.toNat → rM (ahD (md (mo c.2 p1.toInt.toNat)) v16_7.toInt (v29_8.toInt + 1)) v151_2.toInt v151_3.toInt v151_4.toInt v151_5.toInt v151_6.toInt) → va_P (dC, dI) vwCl (Wd cs L K I J Q) H → va_S (fun _ => False) s.heap H lo → lv_has ls 9 [(0, .ref p0), (1, .int p1), (2, .int v151_2), (3, .int v151_3), (4, .int v151_4), (5, .int v151_5), (6, .int v151_6), (7, .int v16_7), (8, .int v29_8)] → W p l e R s m (([.ref p0, .int p1] : List Value).toArray) below meth c H lo 0 0 Qz (F0 m 151 ls []) := by
            intro v151_2 v151_3 v151_4 v151_5 v151_6 H lo ls bv151_3 hb151 g151 hP hS hl
            obtain ⟨z151, ez151⟩ : ∃ y : Int32, y = v29_8 + 1 := ⟨_, rfl⟩
            refine lv_iinc (v := z151) (lv' := [(8, .int z151), (0, .ref p0), (1, .int p1), (2, .int v151_2), (3, .int v151_3), (4, .int v151_4), (5, .int v151_5), (6, .int v151_6), (7, .int v16_7)]) hx hb dX7_farthest_151 hl (k := 8) rfl (by rw [ez151]; rfl) (by decide) rfl (fun ls hl => ?_)
            have bz151 := tq_add (k := v29_8.toInt) (q := 1) ez151 rfl (by decide +kernel) (by omega) (by omega)
            refine lv_goto (tgt := 29) hx hb dX7_farthest_154 (by decide) ?_
            exact ih29 _ (by omega) v151_2 v151_3 v151_4 v151_5 v151_6 z151 _ _ _ rfl ⟨by omega, by omega⟩ ⟨by omega, by omega⟩ (by omega) (fun c ok h hj hm => by rw [show z151.toInt = v29_8.toInt + 1 by omega]; exact g151 c ok h hj hm) hP hS (lv_sub hl [1, 2, 3, 4, 5, 6, 7, 8, 0] rfl)
          refine lv_if_ne (tgt := 54) hx hb dX7_farthest_48 (by decide) (fun c48 => ?_) (fun c48 => ?_)
          · have t48 := tq_ne (k := z45.toInt) (q := (0)) c48 rfl (by decide +kernel)
            have i48 := imz45 t48
            refine lv_iload_n hx hb dX7_farthest_54 rfl (lv_at hl 2 rfl) ?_
            have j75 : ∀ (w75_0 : Int32) (H : Heap) (lo : List Loc) (ls : Array Slot), ((0) ≤ w75_0.toInt ∧ w75_0.toInt ≤ 138) → ((v29_2.toInt = 0 → w75_0.toInt = v29_8.toInt + v16_7.toInt) ∧ (¬ v29_2.toInt = 0 → w75_0.toInt = min v29_3.toInt (v29_8.toInt + v16_7.toInt))) → va_P (dC, dI) vwCl (Wd cs L K I J Q) H → va_S (fun _ => False) s.heap H lo → lv_has ls 9 [(0, .ref p0), (1, .int p1), (2, .int v29_2), (3, .int v29_3), (4, .int v29_4), (5, .int v29_5), (6, .int v29_6), (7, .int v16_7), (8, .int v29_8)] → W p l e R s m (([.ref p0, .int p1] : List Value).toArray) below meth c H lo 0 0 Qz (F0 m 75 ls [.int w75_0]) := by
              intro w75_0 H lo ls bw75_0 h75 hP hS hl
              refine lv_istore_n (lv' := [(3, .int w75_0), (0, .ref p0), (1, .int p1), (2, .int v29_2), (4, .int v29_4), (5, .int v29_5), (6, .int v29_6), (7, .int v16_7), (8, .int v29_8)]) hx hb dX7_farthest_75 rfl hl (by decide) rfl (fun ls hl => ?_)
              refine lv_iload_n hx hb dX7_farthest_76 rfl (lv_at hl 3 rfl) ?_
              have j98 : ∀ (w98_0 : Int32) (H : Heap) (lo : List Loc) (ls : Array Slot), ((0) ≤ w98_0.toInt ∧ w98_0.toInt ≤ 2147483647) → ((v29_2.toInt = 0 → w98_0.toInt = v29_8.toInt + v16_7.toInt) ∧ (¬ v29_2.toInt = 0 → w98_0.toInt = max v29_4.toInt (v29_8.toInt + v16_7.toInt))) → va_P (dC, dI) vwCl (Wd cs L K I J Q) H → va_S (fun _ => False) s.heap H lo → lv_has ls 9 [(0, .ref p0), (1, .int p1), (2, .int v29_2), (3, .int w75_0), (4, .int v29_4), (5, .int v29_5), (6, .int v29_6), (7, .int v16_7), (8, .int v29_8)] → W p l e R s m (([.ref p0, .int p1] : List Value).toArray) below meth c H lo 0 0 Qz (F0 m 98 ls [.int w98_0]) := by
                intro w98_0 H lo ls bw98_0 h98 hP hS hl
                refine lv_istore (lv' := [(4, .int w98_0), (0, .ref p0), (1, .int p1), (2, .int v29_2), (3, .int w75_0), (5, .int v29_5), (6, .int v29_6), (7, .int v16_7), (8, .int v29_8)]) hx hb dX7_farthest_98 hl (by decide) rfl (fun ls hl => ?_)
                refine lv_iload_n hx hb dX7_farthest_100 rfl (lv_at hl 3 rfl) ?_
                have j122 : ∀ (w122_0 : Int32) (H : Heap) (lo : List Loc) (ls : Array Slot), ((-2147483648) ≤ w122_0.toInt ∧ w122_0.toInt ≤ 99) → ((v29_2.toInt = 0 → w122_0.toInt = v29_8.toInt - v16_7.toInt) ∧ (¬ v29_2.toInt = 0 → w122_0.toInt = min v29_5.toInt (v29_8.toInt - v16_7.toInt))) → va_P (dC, dI) vwCl (Wd cs L K I J Q) H → va_S (fun _ => False) s.heap H lo → lv_has ls 9 [(0, .ref p0), (1, .int p1), (2, .int v29_2), (3, .int w75_0), (4, .int w98_0), (5, .int v29_5), (6, .int v29_6), (7, .int v16_7), (8, .int v29_8)] → W p l e R s m (([.ref p0, .int p1] : List Value).toArray) below meth c H lo 0 0 Qz (F0 m 122 ls [.int w122_0]) := by
                  intro w122_0 H lo ls bw122_0 h122 hP hS hl
                  refine lv_istore (lv' := [(5, .int w122_0), (0, .ref p0), (1, .int p1), (2, .int v29_2), (3, .int w75_0), (4, .int w98_0), (6, .int v29_6), (7, .int v16_7), (8, .int v29_8)]) hx hb dX7_farthest_122 hl (by decide) rfl (fun ls hl => ?_)
                  refine lv_iload_n hx hb dX7_farthest_124 rfl (lv_at hl 3 rfl) ?_
                  have j146 : ∀ (w146_0 : Int32) (H : Heap) (lo : List Loc) (ls : Array Slot), ((-39) ≤ w146_0.toInt ∧ w146_0.toInt ≤ 2147483647) → ((v29_2.toInt = 0 → w146_0.toInt = v29_8.toInt - v16_7.toInt) ∧ (¬ v29_2.toInt = 0 → w146_0.toInt = max v29_6.toInt (v29_8.toInt - v16_7.toInt))) → va_P (dC, dI) vwCl (Wd cs L K I J Q) H → va_S (fun _ => False) s.heap H lo → lv_has ls 9 [(0, .ref p0), (1, .int p1), (2, .int v29_2), (3, .int w75_0), (4, .int w98_0), (5, .int w122_0), (6, .int v29_6), (7, .int v16_7), (8, .int v29_8)] → W p l e R s m (([.ref p0, .int p1] : List Value).toArray) below meth c H lo 0 0 Qz (F0 m 146 ls [.int w146_0]) := by
                    intro w146_0 H lo ls bw146_0 h146 hP hS hl
                    refine lv_istore (lv' := [(6, .int w146_0), (0, .ref p0), (1, .int p1), (2, .int v29_2), (3, .int w75_0), (4, .int w98_0), (5, .int w122_0), (7, .int v16_7), (8, .int v29_8)]) hx hb dX7_farthest_146 hl (by decide) rfl (fun ls hl => ?_)
                    obtain ⟨z148, ez148⟩ : ∃ y : Int32, y = v29_2 + 1 := ⟨_, rfl⟩
                    refine lv_iinc (v := z148) (lv' := [(2, .int z148), (6, .int w146_0), (0, .ref p0), (1, .int p1), (3, .int w75_0), (4, .int w98_0), (5, .int w122_0), (7, .int v16_7), (8, .int v29_8)]) hx hb dX7_farthest_148 hl (k := 3) rfl (by rw [ez148]; rfl) (by decide) rfl (fun ls hl => ?_)
                    exact j151 z148 w75_0 w98_0 w122_0 w146_0 _ _ _ ⟨by omega, by omega⟩ (by first | omega | (have := tq_add (k := v29_2.toInt) (q := 1) ez148 rfl (by decide +kernel) (by omega) (by omega); omega)) (fun c ok h hj hm => by have q45 : z45.toInt = bi (md (mo c.2 p1.toInt.toNat) v29_8.toInt v16_7.toInt) := (by rw [xpz45, hs_congr (f := rF Q J p0 p1.toInt.toNat) (g := mo c.2 p1.toInt.toNat) (congrArg Int32.toInt (h (3 + p1.toInt.toNat) (by omega))) (congrArg Int32.toInt (h (11 + p1.toInt.toNat) (by omega))) (fun k hk => hj (80 * p1.toInt.toNat + k) (by omega)), hs_of (ok.2.2.1 _ hm).2.2]); have p := biT.mp (by rw [← q45]; exact t48); exact rM_dot (g29 c ok h hj hm) p rfl (tq_add (k := v29_2.toInt) (q := 1) ez148 rfl (by decide +kernel) (by omega) (by omega)) h75 h98 h122 h146) hP hS (lv_sub hl [2, 3, 0, 4, 5, 6, 1, 7, 8] rfl)
                  refine lv_if_ne (tgt := 136) hx hb dX7_farthest_125 (by decide) (fun c125 => ?_) (fun c125 => ?_)
                  · have t125 := tq_ne (k := v29_2.toInt) (q := (0)) c125 rfl (by decide +kernel)
                    refine lv_iload hx hb dX7_farthest_136 (lv_at hl 6 rfl) ?_
                    refine lv_iload hx hb dX7_farthest_138 (lv_at hl 8 rfl) ?_
                    refine lv_iload hx hb dX7_farthest_140 (lv_at hl 7 rfl) ?_
                    refine lv_isub hx hb dX7_farthest_142 ?_
                    refine lv_topi (fun z142 ez142 => ?_)
                    have bz142 := tq_sub (k := v29_8.toInt) (q := v16_7.toInt) ez142 rfl rfl (by omega) (by omega)
                    refine va_mmax hx hb (hml.trans hl.1.symm) hown (hts _ pq1443) (hts _ pq750) (hts _ pq82) (hts _ pq751) (by rw [hR]; exact (Nat.le_of_ble_eq_true rfl)) (by rw [hR]; exact (Nat.le_of_ble_eq_true rfl)) (by rw [hR]; exact (Nat.le_of_ble_eq_true rfl)) (by rw [hR]; exact (Nat.le_of_ble_eq_true rfl)) dX7_farthest_143 ?_
                    refine lv_topi (fun z143 ez143 => ?_)
                    have bz143 := tq_max ez143
                    exact j146 z143 _ _ _ ⟨by omega, by have := fb_rng z143; omega⟩ ⟨fun _ => by omega, fun _ => by omega⟩ hP hS (lv_sub hl [1, 2, 3, 4, 5, 0, 6, 7, 8] rfl)
                  · have t125 := tq_eq (k := v29_2.toInt) (q := (0)) c125 rfl (by decide +kernel)
                    refine lv_iload hx hb dX7_farthest_128 (lv_at hl 8 rfl) ?_
                    refine lv_iload hx hb dX7_farthest_130 (lv_at hl 7 rfl) ?_
                    refine lv_isub hx hb dX7_farthest_132 ?_
                    refine lv_topi (fun z132 ez132 => ?_)
                    have bz132 := tq_sub (k := v29_8.toInt) (q := v16_7.toInt) ez132 rfl rfl (by omega) (by omega)
                    refine lv_goto (tgt := 146) hx hb dX7_farthest_133 (by decide) ?_
                    exact j146 z132 _ _ _ ⟨by omega, by have := fb_rng z132; omega⟩ ⟨fun _ => by omega, fun _ => by omega⟩ hP hS (lv_sub hl [1, 2, 3, 4, 5, 0, 6, 7, 8] rfl)
                refine lv_if_ne (tgt := 112) hx hb dX7_farthest_101 (by decide) (fun c101 => ?_) (fun c101 => ?_)
                · have t101 := tq_ne (k := v29_2.toInt) (q := (0)) c101 rfl (by decide +kernel)
                  refine lv_iload hx hb dX7_farthest_112 (lv_at hl 5 rfl) ?_
                  refine lv_iload hx hb dX7_farthest_114 (lv_at hl 8 rfl) ?_
                  refine lv_iload hx hb dX7_farthest_116 (lv_at hl 7 rfl) ?_
                  refine lv_isub hx hb dX7_farthest_118 ?_
                  refine lv_topi (fun z118 ez118 => ?_)
                  have bz118 := tq_sub (k := v29_8.toInt) (q := v16_7.toInt) ez118 rfl rfl (by omega) (by omega)
                  refine va_mmin hx hb (hml.trans hl.1.symm) hown (hts _ pq1269) (hts _ pq407) (hts _ pq82) (hts _ pq408) (by rw [hR]; exact (Nat.le_of_ble_eq_true rfl)) (by rw [hR]; exact (Nat.le_of_ble_eq_true rfl)) (by rw [hR]; exact (Nat.le_of_ble_eq_true rfl)) (by rw [hR]; exact (Nat.le_of_ble_eq_true rfl)) dX7_farthest_119 ?_
                  refine lv_topi (fun z119 ez119 => ?_)
                  have bz119 := tq_min ez119
                  exact j122 z119 _ _ _ ⟨by have := fb_rng z119; omega, by omega⟩ ⟨fun _ => by omega, fun _ => by omega⟩ hP hS (lv_sub hl [1, 2, 3, 4, 0, 5, 6, 7, 8] rfl)
                · have t101 := tq_eq (k := v29_2.toInt) (q := (0)) c101 rfl (by decide +kernel)
                  refine lv_iload hx hb dX7_farthest_104 (lv_at hl 8 rfl) ?_
                  refine lv_iload hx hb dX7_farthest_106 (lv_at hl 7 rfl) ?_
                  refine lv_isub hx hb dX7_farthest_108 ?_
                  refine lv_topi (fun z108 ez108 => ?_)
                  have bz108 := tq_sub (k := v29_8.toInt) (q := v16_7.toInt) ez108 rfl rfl (by omega) (by omega)
                  refine lv_goto (tgt := 122) hx hb dX7_farthest_109 (by decide) ?_
                  exact j122 z108 _ _ _ ⟨by have := fb_rng z108; omega, by omega⟩ ⟨fun _ => by omega, fun _ => by omega⟩ hP hS (lv_sub hl [1, 2, 3, 4, 0, 5, 6, 7, 8] rfl)
              refine lv_if_ne (tgt := 88) hx hb dX7_farthest_77 (by decide) (fun c77 => ?_) (fun c77 => ?_)
              · have t77 := tq_ne (k := v29_2.toInt) (q := (0)) c77 rfl (by decide +kernel)
                refine lv_iload hx hb dX7_farthest_88 (lv_at hl 4 rfl) ?_
                refine lv_iload hx hb dX7_farthest_90 (lv_at hl 8 rfl) ?_
                refine lv_iload hx hb dX7_farthest_92 (lv_at hl 7 rfl) ?_
                refine lv_iadd hx hb dX7_farthest_94 ?_
                refine lv_topi (fun z94 ez94 => ?_)
                have bz94 := tq_add (k := v29_8.toInt) (q := v16_7.toInt) ez94 rfl rfl (by omega) (by omega)
                refine va_mmax hx hb (hml.trans hl.1.symm) hown (hts _ pq1443) (hts _ pq750) (hts _ pq82) (hts _ pq751) (by rw [hR]; exact (Nat.le_of_ble_eq_true rfl)) (by rw [hR]; exact (Nat.le_of_ble_eq_true rfl)) (by rw [hR]; exact (Nat.le_of_ble_eq_true rfl)) (by rw [hR]; exact (Nat.le_of_ble_eq_true rfl)) dX7_farthest_95 ?_
                refine lv_topi (fun z95 ez95 => ?_)
                have bz95 := tq_max ez95
                exact j98 z95 _ _ _ ⟨by omega, by have := fb_rng z95; omega⟩ ⟨fun _ => by omega, fun _ => by omega⟩ hP hS (lv_sub hl [1, 2, 3, 0, 4, 5, 6, 7, 8] rfl)
              · have t77 := tq_eq (k := v29_2.toInt) (q := (0)) c77 rfl (by decide +kernel)
                refine lv_iload hx hb dX7_farthest_80 (lv_at hl 8 rfl) ?_
                refine lv_iload hx hb dX7_farthest_82 (lv_at hl 7 rfl) ?_
                refine lv_iadd hx hb dX7_farthest_84 ?_
                refine lv_topi (fun z84 ez84 => ?_)
                have bz84 := tq_add (k := v29_8.toInt) (q := v16_7.toInt) ez84 rfl rfl (by omega) (by omega)
                refine lv_goto (tgt := 98) hx hb dX7_farthest_85 (by decide) ?_
                exact j98 z84 _ _ _ ⟨by omega, by have := fb_rng z84; omega⟩ ⟨fun _ => by omega, fun _ => by omega⟩ hP hS (lv_sub hl [1, 2, 3, 0, 4, 5, 6, 7, 8] rfl)
            refine lv_if_ne (tgt := 66) hx hb dX7_farthest_55 (by decide) (fun c55 => ?_) (fun c55 => ?_)
            · have t55 := tq_ne (k := v29_2.toInt) (q := (0)) c55 rfl (by decide +kernel)
              refine lv_iload_n hx hb dX7_farthest_66 rfl (lv_at hl 3 rfl) ?_
              refine lv_iload hx hb dX7_farthest_67 (lv_at hl 8 rfl) ?_
              refine lv_iload hx hb dX7_farthest_69 (lv_at hl 7 rfl) ?_
              refine lv_iadd hx hb dX7_farthest_71 ?_
              refine lv_topi (fun z71 ez71 => ?_)
              have bz71 := tq_add (k := v29_8.toInt) (q := v16_7.toInt) ez71 rfl rfl (by omega) (by omega)
              refine va_mmin hx hb (hml.trans hl.1.symm) hown (hts _ pq1269) (hts _ pq407) (hts _ pq82) (hts _ pq408) (by rw [hR]; exact (Nat.le_of_ble_eq_true rfl)) (by rw [hR]; exact (Nat.le_of_ble_eq_true rfl)) (by rw [hR]; exact (Nat.le_of_ble_eq_true rfl)) (by rw [hR]; exact (Nat.le_of_ble_eq_true rfl)) dX7_farthest_72 ?_
              refine lv_topi (fun z72 ez72 => ?_)
              have bz72 := tq_min ez72
              exact j75 z72 _ _ _ ⟨by omega, by omega⟩ ⟨fun _ => by omega, fun _ => by omega⟩ hP hS (lv_sub hl [0, 1, 2, 3, 4, 5, 6, 7, 8] rfl)
            · have t55 := tq_eq (k := v29_2.toInt) (q := (0)) c55 rfl (by decide +kernel)
              refine lv_iload hx hb dX7_farthest_58 (lv_at hl 8 rfl) ?_
              refine lv_iload hx hb dX7_farthest_60 (lv_at hl 7 rfl) ?_
              refine lv_iadd hx hb dX7_farthest_62 ?_
              refine lv_topi (fun z62 ez62 => ?_)
              have bz62 := tq_add (k := v29_8.toInt) (q := v16_7.toInt) ez62 rfl rfl (by omega) (by omega)
              refine lv_goto (tgt := 75) hx hb dX7_farthest_63 (by decide) ?_
              exact j75 z62 _ _ _ ⟨by omega, by omega⟩ ⟨fun _ => by omega, fun _ => by omega⟩ hP hS (lv_sub hl [0, 1, 2, 3, 4, 5, 6, 7, 8] rfl)
          · have t48 := tq_eq (k := z45.toInt) (q := (0)) c48 rfl (by decide +kernel)
            refine lv_goto (tgt := 151) hx hb dX7_farthest_51 (by decide) ?_
            exact j151 v29_2 v29_3 v29_4 v29_5 v29_6 _ _ _ ⟨by omega, by omega⟩ (by first | omega | (have := tq_add (k := v29_2.toInt) (q := 1) ez148 rfl (by decide +kernel) (by omega) (by omega); omega)) (fun c ok h hj hm => by have q45 : z45.toInt = bi (md (mo c.2 p1.toInt.toNat) v29_8.toInt v16_7.toInt) := (by rw [xpz45, hs_congr (f := rF Q J p0 p1.toInt.toNat) (g := mo c.2 p1.toInt.toNat) (congrArg Int32.toInt (h (3 + p1.toInt.toNat) (by omega))) (congrArg Int32.toInt (h (11 + p1.toInt.toNat) (by omega))) (fun k hk => hj (80 * p1.toInt.toNat + k) (by omega)), hs_of (ok.2.2.1 _ hm).2.2]); have p : md (mo c.2 p1.toInt.toNat) v29_8.toInt v16_7.toInt = false := Bool.eq_false_iff.mpr (fun e => biT.mpr e (by rw [← q45]; exact t48)); exact rM_congr (fun x y => ah_no rfl p x y) (g29 c ok h hj hm)) hP hS (lv_sub hl [0, 1, 2, 3, 4, 5, 6, 7, 8] rfl))
      exact key29 _ v16_2 v16_3 v16_4 v16_5 v16_6 0 _ _ _ rfl ⟨by omega, by omega⟩ ⟨by decide +kernel, by decide +kernel⟩ (by rw [show (0 : Int32).toInt = 0 from by decide +kernel]; omega) (fun c ok h hj hm => by rw [show (0 : Int32).toInt = 0 from by decide +kernel]; exact g16 c ok h hj hm) hP hS (lv_sub hl [1, 2, 3, 4, 5, 6, 7, 8, 0] rfl))
  exact key16 _ 0 0 0 0 0 0 _ _ _ rfl ⟨by decide +kernel, by decide +kernel⟩ ⟨by decide +kernel, by decide +kernel⟩ ⟨by decide +kernel, by decide +kernel⟩ (fun c ok h hj hm => by exact Or.inl ⟨by decide +kernel, fun x y => ah_lo (fun X Y q => by rw [show (0 : Int32).toInt = 0 from by decide +kernel]; have := md_rng q; omega) x y, ⟨by decide +kernel, by decide +kernel⟩, by decide +kernel, by decide +kernel⟩) hP hS (lv_sub hl [6, 7, 5, 4, 3, 2, 1, 0] rfl)

set_option maxHeartbeats 4000000 in
set_option maxRecDepth 100000 in
theorem s_X7_spread (l : Launch) (dC : Nat → ClassId) (dI : Nat → Nat → Nat) (cs : Nat → ClassId) (L : List Nat) (K G : Nat → Nat) (Q : Nat → Nat → Option Nat) (hQ : Sv L K G Q) (x0 m0 : Nat) (tx : GT) (tm : GT × Int) (sz : Nat) (I : Nat → Nat → Int32) (J : Nat → Nat → Int64) (hI : Iv L K x0 m0 tx tm I) (p0 : Nat) (hLp0 : p0 ∈ L) (hKp0 : K p0 = 7) (p1 : Int32) (p2 : Int32) : Met l yX7_spread (.code yX7_spread cX7_spread 6 (some .int) :: pw) ({ frames := 3, cells := 0, slots := 0, locals := 76 }) (sP (dC, dI) cs [.ref p0, .int p1, .int p2] sz L K I J Q) (va_Qi (fun (r : Int32) (_ : Unit) => (∀ σ : Sx, okF σ.1 → cmA Q I J p0 σ → spR σ p1 p2 r)) (fun _ _ => True) (fun _ => False)) 0 0 (fun _ => False) := by
  refine Met.ofW (cc := cX7_spread) (maxL := 6) (ret := (some .int)) (by decide +kernel) rfl ?_
  intro p e s m args below meth c s₁ B hml hv
  obtain ⟨rfl, hsz, hP, hK, hD0, hN⟩ := hv
  have hx := B.exec
  have hb := B.bytes
  have hr := B.returns
  have hts := fun w (h : w ∈ pw) => atoms_spec (ws := Cond.code yX7_spread cX7_spread 6 (some .int) :: pw) B.pre w (List.mem_cons_of_mem _ h)
  have hown : s.vm.findClass RX7 = some m.cls := findClass_of_methodNamed B.named
  have hlocks := B.notSynchronized
  subst hsz
  have hBB : 999 ≤ tm.2 ∧ tm.2 ≤ 6000000 := hI.2.2.2.2.1
  have hD := hD0
  obtain ⟨H, hHe⟩ : ∃ H : Heap, H = s.heap := ⟨_, rfl⟩
  have hS : va_S (fun _ => False) s.heap H [] := by rw [hHe]; exact va_S.rf
  rw [← hHe] at hP
  have hl := lv_entry ([.ref p0, .int p1, .int p2]) (n := 6) (Nat.le_of_ble_eq_true rfl)
  rw [lg_entry_eq]
  generalize (lg_sl ([.ref p0, .int p1, .int p2]) ++ List.replicate (6 - (lg_sl ([.ref p0, .int p1, .int p2])).length) Slot.unset).toArray = ls at hl ⊢
  have hl : lv_has ls 6 [(0, .ref p0), (1, .int p1), (2, .int p2)] := hl
  rw [← hHe]
  refine namedW (fun R Qz hR hQz => ?_)
  refine lv_aload_n hx hb dX7_spread_0 rfl (lv_at hl 0 rfl) ?_
  refine lv_iload_n hx hb dX7_spread_1 rfl (lv_at hl 1 rfl) ?_
  refine ro_i (va_runV (As := [.int p1]) (rest := []) ⟨hx, hb, hml, hown, hts⟩ (s_X7_isMask l dC dI cs L K G Q hQ x0 m0 tx tm H.size I J hI p0 hLp0 hKp0 p1) (cwV 1 hts (gV pq1364 pq1366 pq31 pq81 pq1367) rfl rfl rfl (by decide +kernel) ⟨(by rw [hR]; exact (Nat.le_of_ble_eq_true rfl)), (by rw [hR]; exact (Nat.le_of_ble_eq_true rfl))⟩) (sP_V hP hD hK hN hLp0 hKp0 rfl rfl) rfl rfl hl.1 rfl (lv_room (Nat.le_of_ble_eq_true rfl)) dX7_spread_2 ⟨(by rw [hR]; exact (Nat.le_of_ble_eq_true rfl)), (by rw [hR]; exact (Nat.le_of_ble_eq_true rfl))⟩) hS hP (fun z2 H locs hz2 hP hS => ?_)
  obtain ⟨bz2, imz2, xpz2⟩ := hz2
  refine lv_if_eq (tgt := 20) hx hb dX7_spread_5 (by decide) (fun c5 => ?_) (fun c5 => ?_)
  · have t5 := tq_eq (k := z2.toInt) (q := (0)) c5 rfl (by decide +kernel)
    refine lv_iconst (v := (-1)) hx hb dX7_spread_20 (by decide +kernel) ?_
    subst hR; subst hQz
    exact W.iret (v := (-1)) hx hb hr (fun t ht hW => ⟨⟨(-1), (), rfl, (fun σ ok h => by refine ⟨fun w => ?_, fun _ => by decide +kernel⟩; exfalso; have w2 := w.2; first | exact xpz2.2 t5 (by rw [cm_0 h]; exact w.1) | exact xpz14 t17 ⟨by omega, by omega⟩ | omega), trivial⟩, hS.F ht⟩) hS.2.2 dX7_spread_21
  · have t5 := tq_ne (k := z2.toInt) (q := (0)) c5 rfl (by decide +kernel)
    have i5 := imz2 t5
    refine lv_iload_n hx hb dX7_spread_8 rfl (lv_at hl 2 rfl) ?_
    refine lv_i2l hx hb dX7_spread_9 rfl ?_
    refine lv_topl (fun z9 ez9 => ?_)
    have bz9 := tq_i2l (k := p2.toInt) ez9 rfl
    refine lv_lconst (v := 0) hx hb dX7_spread_10 (by decide +kernel) ?_
    refine lv_ldc2 hx hb hown (hts _ pq1595) dX7_spread_11 ?_
    refine ro_i (va_runS (As := [.long z9, .long 0, .long 2]) (rest := []) ⟨hx, hb, hml, hown, hts⟩ (s_X7_in l dC dI cs L K Q H.size I J z9 0 2) (va_cwS 3 hts (gS pq1234 pq1235 pq81 pq1236) rfl rfl rfl (by decide +kernel) ⟨(by rw [hR]; exact (Nat.le_of_ble_eq_true rfl)), (by rw [hR]; exact (Nat.le_of_ble_eq_true rfl))⟩) (sP_S hP hD hK hN) rfl rfl hl.1 rfl (lv_room (Nat.le_of_ble_eq_true rfl)) dX7_spread_14 ⟨(by rw [hR]; exact (Nat.le_of_ble_eq_true rfl)), (by rw [hR]; exact (Nat.le_of_ble_eq_true rfl))⟩) hS hP (fun z14 H locs hz14 hP hS => ?_)
    have csl14_0 : (0 : Int64).toInt = 0 := by decide +kernel
    have csl14_2 : (2 : Int64).toInt = 2 := by decide +kernel
    obtain ⟨bz14, imz14, xpz14⟩ := hz14
    refine lv_if_ne (tgt := 22) hx hb dX7_spread_17 (by decide) (fun c17 => ?_) (fun c17 => ?_)
    · have t17 := tq_ne (k := z14.toInt) (q := (0)) c17 rfl (by decide +kernel)
      have i17 := imz14 t17
      refine lv_iload_n hx hb dX7_spread_22 rfl (lv_at hl 2 rfl) ?_
      refine lv_iconst (v := 2) hx hb dX7_spread_23 (by decide +kernel) ?_
      refine lv_icmp_ne (tgt := 33) hx hb dX7_spread_24 (by decide) (fun c24 => ?_) (fun c24 => ?_)
      · have t24 := tq_ne (k := p2.toInt) (q := (2)) c24 rfl (by decide +kernel)
        refine lv_iconst (v := 0) hx hb dX7_spread_33 (by decide +kernel) ?_
        refine lv_istore_n (lv' := [(3, .int 0), (0, .ref p0), (1, .int p1), (2, .int p2)]) hx hb dX7_spread_34 rfl hl (by decide) rfl (fun ls hl => ?_)
        refine lv_iconst (v := 0) hx hb dX7_spread_35 (by decide +kernel) ?_
        refine lv_istore (lv' := [(4, .int 0), (3, .int 0), (0, .ref p0), (1, .int p1), (2, .int p2)]) hx hb dX7_spread_36 hl (by decide) rfl (fun ls hl => ?_)
        have key38 := blocks (fun n => ∀ (v38_3 : Int32) (v38_4 : Int32) (H : Heap) (lo : List Loc) (ls : Array Slot), (41 - v38_4.toInt).toNat = n → ((0) ≤ v38_4.toInt ∧ v38_4.toInt ≤ 40) → (∀ σ : Sx, okF σ.1 → cmA Q I J p0 σ → v38_3.toInt = wZ p2.toInt (ahD (md (mF σ p1)) v38_4.toInt 0)) → va_P (dC, dI) vwCl (Wd cs L K I J Q) H → va_S (fun _ => False) s.heap H lo → lv_has ls 6 [(0, .ref p0), (1, .int p1), (2, .int p2), (3, .int v38_3), (4, .int v38_4)] → W p l e R s m (([.ref p0, .int p1, .int p2] : List Value).toArray) below meth c H lo 0 0 Qz (F0 m 38 ls [])) (by
          intro n ih38
          intro v38_3 v38_4 H lo ls hmu38 bv38_4 g38 hP hS hl
          refine lv_iload hx hb dX7_spread_38 (lv_at hl 4 rfl) ?_
          refine lv_aload_n hx hb dX7_spread_40 rfl (lv_at hl 0 rfl) ?_
          refine lv_iload_n hx hb dX7_spread_41 rfl (lv_at hl 1 rfl) ?_
          refine ro_i (va_runV (As := [.int p1]) (rest := [.int v38_4]) ⟨hx, hb, hml, hown, hts⟩ (s_X7_high l dC dI cs L K G Q hQ x0 m0 tx tm H.size I J hI p0 hLp0 hKp0 p1 ⟨by omega, by omega⟩) (cwV 1 hts (gV pq1372 pq1374 pq33 pq81 pq1375) rfl rfl rfl (by decide +kernel) ⟨(by rw [hR]; exact (Nat.le_of_ble_eq_true rfl)), (by rw [hR]; exact (Nat.le_of_ble_eq_true rfl))⟩) (sP_V hP hD hK hN hLp0 hKp0 rfl rfl) rfl rfl hl.1 rfl (lv_room (Nat.le_of_ble_eq_true rfl)) dX7_spread_42 ⟨(by rw [hR]; exact (Nat.le_of_ble_eq_true rfl)), (by rw [hR]; exact (Nat.le_of_ble_eq_true rfl))⟩) hS hP (fun z42 H locs hz42 hP hS => ?_)
          obtain ⟨bz42, fez42⟩ := hz42
          refine lv_icmp_ge (tgt := 103) hx hb dX7_spread_45 (by decide) (fun c45 => ?_) (fun c45 => ?_)
          · have t45 := tq_le (k := z42.toInt) (q := v38_4.toInt) c45 rfl rfl
            refine lv_iload_n hx hb dX7_spread_103 rfl (lv_at hl 3 rfl) ?_
            subst hR; subst hQz
            exact W.iret (v := v38_3) hx hb hr (fun t ht hW => ⟨⟨v38_3, (), rfl, (fun σ ok h => by have q := xpz2.1 t5; rw [cm_0 h] at q; have o := ok.2.2.1 p1.toInt.toNat (by omega); have o1 := o.1; have o2 := o.2.1; have eW_ : (mW σ p1).toInt = (σ.1.1 (3 + p1.toInt.toNat)).toInt := rfl; have eH_ : (mH σ p1).toInt = (σ.1.1 (11 + p1.toInt.toNat)).toInt := rfl; have e42 : z42.toInt = (mH σ p1).toInt := congrArg Int32.toInt ((show z42 = I (a0 Q p0 0) (11 + p1.toInt.toNat) from fez42).trans (cmA_n h (by omega))); exact ⟨fun _ => ⟨fun w => absurd w t24, fun _ => (g38 σ ok h).trans (wZ_congr (fun x y _ _ _ _ => ah_hi (fun X Y q => by have := md_b o.2.2 _ _ q; have eh : (mH σ p1).toInt = (σ.1.1 (11 + p1.toInt.toNat)).toInt := rfl; omega) x y))⟩, fun w => absurd ⟨q, by omega, by omega⟩ w⟩), trivial⟩, hS.F ht⟩) hS.2.2 dX7_spread_104
          · have t45 := tq_nle (k := z42.toInt) (q := v38_4.toInt) c45 rfl rfl
            refine lv_iconst (v := 0) hx hb dX7_spread_48 (by decide +kernel) ?_
            refine lv_istore (lv' := [(5, .int 0), (0, .ref p0), (1, .int p1), (2, .int p2), (3, .int v38_3), (4, .int v38_4)]) hx hb dX7_spread_49 hl (by decide) rfl (fun ls hl => ?_)
            have key51 := blocks (fun n => ∀ (v51_3 : Int32) (v51_5 : Int32) (H : Heap) (lo : List Loc) (ls : Array Slot), (101 - v51_5.toInt).toNat = n → ((0) ≤ v51_5.toInt ∧ v51_5.toInt ≤ 100) → (∀ σ : Sx, okF σ.1 → cmA Q I J p0 σ → v51_3.toInt = wZ p2.toInt (ahD (md (mF σ p1)) v38_4.toInt v51_5.toInt)) → va_P (dC, dI) vwCl (Wd cs L K I J Q) H → va_S (fun _ => False) s.heap H lo → lv_has ls 6 [(0, .ref p0), (1, .int p1), (2, .int p2), (3, .int v51_3), (4, .int v38_4), (5, .int v51_5)] → W p l e R s m (([.ref p0, .int p1, .int p2] : List Value).toArray) below meth c H lo 0 0 Qz (F0 m 51 ls [])) (by
              intro n ih51
              intro v51_3 v51_5 H lo ls hmu51 bv51_5 g51 hP hS hl
              refine lv_iload hx hb dX7_spread_51 (lv_at hl 5 rfl) ?_
              refine lv_aload_n hx hb dX7_spread_53 rfl (lv_at hl 0 rfl) ?_
              refine lv_iload_n hx hb dX7_spread_54 rfl (lv_at hl 1 rfl) ?_
              refine ro_i (va_runV (As := [.int p1]) (rest := [.int v51_5]) ⟨hx, hb, hml, hown, hts⟩ (s_X7_wide l dC dI cs L K G Q hQ x0 m0 tx tm H.size I J hI p0 hLp0 hKp0 p1 ⟨by omega, by omega⟩) (cwV 1 hts (gV pq1368 pq1370 pq32 pq81 pq1371) rfl rfl rfl (by decide +kernel) ⟨(by rw [hR]; exact (Nat.le_of_ble_eq_true rfl)), (by rw [hR]; exact (Nat.le_of_ble_eq_true rfl))⟩) (sP_V hP hD hK hN hLp0 hKp0 rfl rfl) rfl rfl hl.1 rfl (lv_room (Nat.le_of_ble_eq_true rfl)) dX7_spread_55 ⟨(by rw [hR]; exact (Nat.le_of_ble_eq_true rfl)), (by rw [hR]; exact (Nat.le_of_ble_eq_true rfl))⟩) hS hP (fun z55 H locs hz55 hP hS => ?_)
              obtain ⟨bz55, fez55⟩ := hz55
              refine lv_icmp_ge (tgt := 97) hx hb dX7_spread_58 (by decide) (fun c58 => ?_) (fun c58 => ?_)
              · have t58 := tq_le (k := z55.toInt) (q := v51_5.toInt) c58 rfl rfl
                obtain ⟨z97, ez97⟩ : ∃ y : Int32, y = v38_4 + 1 := ⟨_, rfl⟩
                refine lv_iinc (v := z97) (lv' := [(4, .int z97), (0, .ref p0), (1, .int p1), (2, .int p2), (3, .int v51_3), (5, .int v51_5)]) hx hb dX7_spread_97 hl (k := 4) rfl (by rw [ez97]; rfl) (by decide) rfl (fun ls hl => ?_)
                have bz97 := tq_add (k := v38_4.toInt) (q := 1) ez97 rfl (by decide +kernel) (by omega) (by omega)
                refine lv_goto (tgt := 38) hx hb dX7_spread_100 (by decide) ?_
                exact ih38 _ (by omega) v51_3 z97 _ _ _ rfl ⟨by omega, by omega⟩ (fun σ ok h => by have q := xpz2.1 t5; rw [cm_0 h] at q; have o := ok.2.2.1 p1.toInt.toNat (by omega); have o1 := o.1; have o2 := o.2.1; have eW_ : (mW σ p1).toInt = (σ.1.1 (3 + p1.toInt.toNat)).toInt := rfl; have eH_ : (mH σ p1).toInt = (σ.1.1 (11 + p1.toInt.toNat)).toInt := rfl; have e55 : z55.toInt = (mW σ p1).toInt := congrArg Int32.toInt ((show z55 = I (a0 Q p0 0) (3 + p1.toInt.toNat) from fez55).trans (cmA_n h (by omega))); rw [g51 σ ok h]; exact wZ_congr (fun x y _ _ _ _ => (ah_mv (fun X Y q => by have := md_b o.2.2 _ _ q; have ew : (mW σ p1).toInt = (σ.1.1 (3 + p1.toInt.toNat)).toInt := rfl; omega) x y).symm)) hP hS (lv_sub hl [1, 2, 3, 4, 0] rfl)
              · have t58 := tq_nle (k := z55.toInt) (q := v51_5.toInt) c58 rfl rfl
                refine lv_iload_n hx hb dX7_spread_61 rfl (lv_at hl 3 rfl) ?_
                refine lv_aload_n hx hb dX7_spread_62 rfl (lv_at hl 0 rfl) ?_
                refine lv_iload_n hx hb dX7_spread_63 rfl (lv_at hl 1 rfl) ?_
                refine lv_iload hx hb dX7_spread_64 (lv_at hl 5 rfl) ?_
                refine lv_iload hx hb dX7_spread_66 (lv_at hl 4 rfl) ?_
                refine ro_i (va_runV (As := [.int p1, .int v51_5, .int v38_4]) (rest := [.int v51_3]) ⟨hx, hb, hml, hown, hts⟩ (s_X7_has l dC dI cs L K G Q hQ x0 m0 tx tm H.size I J hI p0 hLp0 hKp0 p1 ⟨by omega, by omega⟩ v51_5 v38_4) (cwV 3 hts (gV pq1376 pq1378 pq34 pq81 pq1379) rfl rfl rfl (by decide +kernel) ⟨(by rw [hR]; exact (Nat.le_of_ble_eq_true rfl)), (by rw [hR]; exact (Nat.le_of_ble_eq_true rfl))⟩) (sP_V hP hD hK hN hLp0 hKp0 rfl rfl) rfl rfl hl.1 rfl (lv_room (Nat.le_of_ble_eq_true rfl)) dX7_spread_68 ⟨(by rw [hR]; exact (Nat.le_of_ble_eq_true rfl)), (by rw [hR]; exact (Nat.le_of_ble_eq_true rfl))⟩) hS hP (fun z68 H locs hz68 hP hS => ?_)
                obtain ⟨bz68, imz68, xpz68⟩ := hz68
                have j89 : ∀ (w89_1 : Int32) (H : Heap) (lo : List Loc) (ls : Array Slot), ((0) ≤ w89_1.toInt ∧ w89_1.toInt ≤ 99) → (w89_1.toInt = if z68.toInt = 0 then 0 else if p2.toInt = 0 then v51_5.toInt else v38_4.toInt) → va_P (dC, dI) vwCl (Wd cs L K I J Q) H → va_S (fun _ => False) s.heap H lo → lv_has ls 6 [(0, .ref p0), (1, .int p1), (2, .int p2), (3, .int v51_3), (4, .int v38_4), (5, .int v51_5)] → W p l e R s m (([.ref p0, .int p1, .int p2] : List Value).toArray) below meth c H lo 0 0 Qz (F0 m 89 ls [.int w89_1, .int v51_3]) := by
                  intro w89_1 H lo ls bw89_1 h89 hP hS hl
                  refine lv_iadd hx hb dX7_spread_89 ?_
                  refine lv_topi (fun z89 ez89 => ?_)
                  refine lv_istore_n (lv' := [(3, .int z89), (0, .ref p0), (1, .int p1), (2, .int p2), (4, .int v38_4), (5, .int v51_5)]) hx hb dX7_spread_90 rfl hl (by decide) rfl (fun ls hl => ?_)
                  obtain ⟨z91, ez91⟩ : ∃ y : Int32, y = v51_5 + 1 := ⟨_, rfl⟩
                  refine lv_iinc (v := z91) (lv' := [(5, .int z91), (3, .int z89), (0, .ref p0), (1, .int p1), (2, .int p2), (4, .int v38_4)]) hx hb dX7_spread_91 hl (k := 5) rfl (by rw [ez91]; rfl) (by decide) rfl (fun ls hl => ?_)
                  have bz91 := tq_add (k := v51_5.toInt) (q := 1) ez91 rfl (by decide +kernel) (by omega) (by omega)
                  refine lv_goto (tgt := 51) hx hb dX7_spread_94 (by decide) ?_
                  exact ih51 _ (by omega) z89 z91 _ _ _ rfl ⟨by omega, by omega⟩ (fun σ ok h => by have q := xpz2.1 t5; rw [cm_0 h] at q; have o := ok.2.2.1 p1.toInt.toNat (by omega); have o1 := o.1; have o2 := o.2.1; have eW_ : (mW σ p1).toInt = (σ.1.1 (3 + p1.toInt.toNat)).toInt := rfl; have eH_ : (mH σ p1).toInt = (σ.1.1 (11 + p1.toInt.toNat)).toInt := rfl; have q68 : z68.toInt = bi (md (mo σ.1.2 p1.toInt.toNat) v51_5.toInt v38_4.toInt) := (by rw [xpz68, hs_congr (f := rF Q J p0 p1.toInt.toNat) (g := mo σ.1.2 p1.toInt.toNat) (congrArg Int32.toInt (cmA_n h (k := 3 + p1.toInt.toNat) (by omega))) (congrArg Int32.toInt (cmA_n h (k := 11 + p1.toInt.toNat) (by omega))) (fun k hk => (cmA_rJ h) (80 * p1.toInt.toNat + k) (by omega)), hs_of (ok.2.2.1 _ (show p1.toInt.toNat < _ by omega)).2.2]); have g := g51 σ ok h; have b := wZ_b p2.toInt (ahD (md (mF σ p1)) v38_4.toInt v51_5.toInt); have e89 := tq_add (k := v51_3.toInt) (q := w89_1.toInt) ez89 rfl rfl (by omega) (by omega); by_cases k : z68.toInt = 0; (rw [if_pos k] at h89; rw [e89, h89, Int.add_zero, g]; exact (wZ_no bz91 (Bool.eq_false_iff.mpr (fun e => biT.mpr e (q68.symm.trans k)))).symm); (rw [if_neg k] at h89; rw [e89, h89, g]; exact (wZ_yes ⟨by omega, by omega⟩ ⟨by omega, by omega⟩ bz91 (biT.mp (fun e => k (q68.trans e)))).symm)) hP hS (lv_sub hl [2, 3, 4, 1, 5, 0] rfl)
                refine lv_if_eq (tgt := 88) hx hb dX7_spread_71 (by decide) (fun c71 => ?_) (fun c71 => ?_)
                · have t71 := tq_eq (k := z68.toInt) (q := (0)) c71 rfl (by decide +kernel)
                  refine lv_iconst (v := 0) hx hb dX7_spread_88 (by decide +kernel) ?_
                  exact j89 0 _ _ _ ⟨by decide +kernel, by decide +kernel⟩ (by rw [if_pos t71]; decide +kernel) hP hS (lv_sub hl [0, 1, 2, 3, 4, 5] rfl)
                · have t71 := tq_ne (k := z68.toInt) (q := (0)) c71 rfl (by decide +kernel)
                  have i71 := imz68 t71
                  refine lv_iload_n hx hb dX7_spread_74 rfl (lv_at hl 2 rfl) ?_
                  refine lv_if_ne (tgt := 83) hx hb dX7_spread_75 (by decide) (fun c75 => ?_) (fun c75 => ?_)
                  · have t75 := tq_ne (k := p2.toInt) (q := (0)) c75 rfl (by decide +kernel)
                    refine lv_iload hx hb dX7_spread_83 (lv_at hl 4 rfl) ?_
                    refine lv_goto (tgt := 89) hx hb dX7_spread_85 (by decide) ?_
                    exact j89 v38_4 _ _ _ ⟨by omega, by omega⟩ (by rw [if_neg t71, if_neg t75]) hP hS (lv_sub hl [0, 1, 2, 3, 4, 5] rfl)
                  · have t75 := tq_eq (k := p2.toInt) (q := (0)) c75 rfl (by decide +kernel)
                    refine lv_iload hx hb dX7_spread_78 (lv_at hl 5 rfl) ?_
                    refine lv_goto (tgt := 89) hx hb dX7_spread_80 (by decide) ?_
                    exact j89 v51_5 _ _ _ ⟨by omega, by omega⟩ (by rw [if_neg t71, if_pos t75]) hP hS (lv_sub hl [0, 1, 2, 3, 4, 5] rfl))
            exact key51 _ v38_3 0 _ _ _ rfl ⟨by decide +kernel, by decide +kernel⟩ (fun σ ok h => by rw [show (0 : Int32).toInt = 0 from by decide +kernel]; exact g38 σ ok h) hP hS (lv_sub hl [1, 2, 3, 4, 5, 0] rfl))
        exact key38 _ 0 0 _ _ _ rfl ⟨by decide +kernel, by decide +kernel⟩ (fun σ ok h => (show (0 : Int32).toInt = 0 by decide +kernel).trans (wZ_0 (fun x y => ah_lo (fun X Y q => by rw [show (0 : Int32).toInt = 0 from by decide +kernel]; have := md_rng q; omega) x y)).symm) hP hS (lv_sub hl [2, 3, 4, 1, 0] rfl)
      · have t24 := tq_eq (k := p2.toInt) (q := (2)) c24 rfl (by decide +kernel)
        refine lv_aload_n hx hb dX7_spread_27 rfl (lv_at hl 0 rfl) ?_
        refine lv_iload_n hx hb dX7_spread_28 rfl (lv_at hl 1 rfl) ?_
        refine ro_i (va_runV (As := [.int p1]) (rest := []) ⟨hx, hb, hml, hown, hts⟩ (s_X7_farthest l dC dI cs L K G Q hQ x0 m0 tx tm H.size I J hI p0 hLp0 hKp0 p1 ⟨by omega, by omega⟩) (cwV 1 hts (gV pq1694 pq1696 pq71 pq81 pq1697) rfl rfl rfl (by decide +kernel) ⟨(by rw [hR]; exact (Nat.le_of_ble_eq_true rfl)), (by rw [hR]; exact (Nat.le_of_ble_eq_true rfl))⟩) (sP_V hP hD hK hN hLp0 hKp0 rfl rfl) rfl rfl hl.1 rfl (lv_room (Nat.le_of_ble_eq_true rfl)) dX7_spread_29 ⟨(by rw [hR]; exact (Nat.le_of_ble_eq_true rfl)), (by rw [hR]; exact (Nat.le_of_ble_eq_true rfl))⟩) hS hP (fun z29 H locs hz29 hP hS => ?_)
        have xpz29 := hz29
        subst hR; subst hQz
        exact W.iret (v := z29) hx hb hr (fun t ht hW => ⟨⟨z29, (), rfl, (fun σ ok h => by have q := xpz2.1 t5; rw [cm_0 h] at q; have o := ok.2.2.1 p1.toInt.toNat (by omega); have o1 := o.1; have o2 := o.2.1; have eW_ : (mW σ p1).toInt = (σ.1.1 (3 + p1.toInt.toNat)).toInt := rfl; have eH_ : (mH σ p1).toInt = (σ.1.1 (11 + p1.toInt.toNat)).toInt := rfl; exact ⟨fun _ => ⟨fun _ => xpz29 σ.1 ok (cmA_rI h) (cmA_rJ h) (by omega), fun w => absurd t24 w⟩, fun w => absurd ⟨q, by omega, by omega⟩ w⟩), trivial⟩, hS.F ht⟩) hS.2.2 dX7_spread_32
    · have t17 := tq_eq (k := z14.toInt) (q := (0)) c17 rfl (by decide +kernel)
      refine lv_iconst (v := (-1)) hx hb dX7_spread_20 (by decide +kernel) ?_
      subst hR; subst hQz
      exact W.iret (v := (-1)) hx hb hr (fun t ht hW => ⟨⟨(-1), (), rfl, (fun σ ok h => by refine ⟨fun w => ?_, fun _ => by decide +kernel⟩; exfalso; have w2 := w.2; first | exact xpz2.2 t5 (by rw [cm_0 h]; exact w.1) | exact xpz14 t17 ⟨by omega, by omega⟩ | omega), trivial⟩, hS.F ht⟩) hS.2.2 dX7_spread_21

set_option maxHeartbeats 4000000 in
set_option maxRecDepth 100000 in
theorem s_X7_digest (l : Launch) (dC : Nat → ClassId) (dI : Nat → Nat → Nat) (cs : Nat → ClassId) (L : List Nat) (K G : Nat → Nat) (Q : Nat → Nat → Option Nat) (hQ : Sv L K G Q) (x0 m0 : Nat) (tx : GT) (tm : GT × Int) (sz : Nat) (I : Nat → Nat → Int32) (J : Nat → Nat → Int64) (hI : Iv L K x0 m0 tx tm I) (p0 : Nat) (hLp0 : p0 ∈ L) (hKp0 : K p0 = 7) : Met l yX7_digest (.code yX7_digest cX7_digest 5 (some .long) :: pw) ({ frames := 3, cells := 0, slots := 0, locals := 69 }) (sP (dC, dI) cs [.ref p0] sz L K I J Q) (va_Ql (fun (r : Int64) (_ : Unit) => (∀ σ : Sx, cmA Q I J p0 σ → r = dgR σ)) (fun _ _ => True) (fun _ => False)) 0 0 (fun _ => False) := by
  refine Met.ofW (cc := cX7_digest) (maxL := 5) (ret := (some .long)) (by decide +kernel) rfl ?_
  intro p e s m args below meth c s₁ B hml hv
  obtain ⟨rfl, hsz, hP, hK, hD0, hN⟩ := hv
  have hx := B.exec
  have hb := B.bytes
  have hr := B.returns
  have hts := fun w (h : w ∈ pw) => atoms_spec (ws := Cond.code yX7_digest cX7_digest 5 (some .long) :: pw) B.pre w (List.mem_cons_of_mem _ h)
  have hown : s.vm.findClass RX7 = some m.cls := findClass_of_methodNamed B.named
  have hlocks := B.notSynchronized
  subst hsz
  have hBB : 999 ≤ tm.2 ∧ tm.2 ≤ 6000000 := hI.2.2.2.2.1
  have hD := hD0
  obtain ⟨H, hHe⟩ : ∃ H : Heap, H = s.heap := ⟨_, rfl⟩
  have hS : va_S (fun _ => False) s.heap H [] := by rw [hHe]; exact va_S.rf
  rw [← hHe] at hP
  have hl := lv_entry ([.ref p0]) (n := 5) (Nat.le_of_ble_eq_true rfl)
  rw [lg_entry_eq]
  generalize (lg_sl ([.ref p0]) ++ List.replicate (5 - (lg_sl ([.ref p0])).length) Slot.unset).toArray = ls at hl ⊢
  have hl : lv_has ls 5 [(0, .ref p0)] := hl
  rw [← hHe]
  refine namedW (fun R Qz hR hQz => ?_)
  refine lv_ldc2 hx hb hown (hts _ pq1717) dX7_digest_0 ?_
  refine lv_lstore_n (lv' := [(1, .long 17), (0, .ref p0)]) hx hb dX7_digest_3 rfl hl (by decide) rfl (fun ls hl => ?_)
  refine lv_iconst (v := 0) hx hb dX7_digest_4 (by decide +kernel) ?_
  refine lv_istore_n (lv' := [(3, .int 0), (1, .long 17), (0, .ref p0)]) hx hb dX7_digest_5 rfl hl (by decide) rfl (fun ls hl => ?_)
  have key6 := blocks (fun n => ∀ (v6_1 : Int64) (v6_3 : Int32) (H : Heap) (lo : List Loc) (ls : Array Slot), (11 - v6_3.toInt).toNat = n → ((0) ≤ v6_3.toInt ∧ v6_3.toInt ≤ 10) → (∀ σ : Sx, cmA Q I J p0 σ → v6_1 = dgB σ.1 v6_3.toInt.toNat ∧ (v6_3.toInt ≤ (σ.1.1 1).toInt ∨ v6_3.toInt = 0)) → va_P (dC, dI) vwCl (Wd cs L K I J Q) H → va_S (fun _ => False) s.heap H lo → lv_has ls 5 [(0, .ref p0), (1, .long v6_1), (3, .int v6_3)] → W p l e R s m (([.ref p0] : List Value).toArray) below meth c H lo 0 0 Qz (F0 m 6 ls [])) (by
    intro n ih6
    intro v6_1 v6_3 H lo ls hmu6 bv6_3 g6 hP hS hl
    refine lv_iload_n hx hb dX7_digest_6 rfl (lv_at hl 2 rfl) ?_
    refine lv_aload_n hx hb dX7_digest_7 rfl (lv_at hl 0 rfl) ?_
    obtain ⟨y8, ey8, hLy8, hKy8⟩ := oQ_7_0 (Sv_at hQ hLp0 hKp0)
    refine p_get (v := .ref y8) hx hb hts inX7 hown hK hP hLp0 hKp0 rfl rfl 0 (by decide) (hts _ pq1115) (congrArg (fun q => some (va_rf q)) ey8) dX7_digest_8 ?_
    refine lv_iconst (v := 1) hx hb dX7_digest_11 (by decide +kernel) ?_
    refine p_iald hx hb hK hP 8 hLy8 hKy8 rfl rfl (in_d (by decide +kernel)) dX7_digest_12 ?_
    refine lv_topi (fun z12 ez12 => ?_)
    have bz12 := rng1 (oR_18 (i := (1 : Int32)) (k := (1)) (by decide +kernel) (Iv_at hI hLy8 hKy8))
    rw [← ez12] at bz12
    refine lv_icmp_ge (tgt := 53) hx hb dX7_digest_13 (by decide) (fun c13 => ?_) (fun c13 => ?_)
    · have t13 := tq_le (k := z12.toInt) (q := v6_3.toInt) c13 rfl rfl
      refine lv_iconst (v := 0) hx hb dX7_digest_53 (by decide +kernel) ?_
      refine lv_istore_n (lv' := [(3, .int 0), (0, .ref p0), (1, .long v6_1)]) hx hb dX7_digest_54 rfl hl (by decide) rfl (fun ls hl => ?_)
      have key55 := blocks (fun n => ∀ (v55_1 : Int64) (v55_3 : Int32) (H : Heap) (lo : List Loc) (ls : Array Slot), (9 - v55_3.toInt).toNat = n → ((0) ≤ v55_3.toInt ∧ v55_3.toInt ≤ 8) → (∀ σ : Sx, cmA Q I J p0 σ → v55_1 = dgM σ.1 v55_3.toInt.toNat (dgB σ.1 (σ.1.1 1).toInt.toNat) ∧ (v55_3.toInt ≤ (σ.1.1 0).toInt ∨ v55_3.toInt = 0)) → va_P (dC, dI) vwCl (Wd cs L K I J Q) H → va_S (fun _ => False) s.heap H lo → lv_has ls 5 [(0, .ref p0), (1, .long v55_1), (3, .int v55_3)] → W p l e R s m (([.ref p0] : List Value).toArray) below meth c H lo 0 0 Qz (F0 m 55 ls [])) (by
        intro n ih55
        intro v55_1 v55_3 H lo ls hmu55 bv55_3 g55 hP hS hl
        refine lv_iload_n hx hb dX7_digest_55 rfl (lv_at hl 2 rfl) ?_
        refine lv_aload_n hx hb dX7_digest_56 rfl (lv_at hl 0 rfl) ?_
        refine p_get (v := .ref y8) hx hb hts inX7 hown hK hP hLp0 hKp0 rfl rfl 0 (by decide) (hts _ pq1115) (congrArg (fun q => some (va_rf q)) ey8) dX7_digest_57 ?_
        refine lv_iconst (v := 0) hx hb dX7_digest_60 (by decide +kernel) ?_
        refine p_iald hx hb hK hP 8 hLy8 hKy8 rfl rfl (in_d (by decide +kernel)) dX7_digest_61 ?_
        refine lv_topi (fun z61 ez61 => ?_)
        have bz61 := rng0 (oR_18 (i := (0 : Int32)) (k := (0)) (by decide +kernel) (Iv_at hI hLy8 hKy8))
        rw [← ez61] at bz61
        refine lv_icmp_ge (tgt := 120) hx hb dX7_digest_62 (by decide) (fun c62 => ?_) (fun c62 => ?_)
        · have t62 := tq_le (k := z61.toInt) (q := v55_3.toInt) c62 rfl rfl
          refine lv_lload_n hx hb dX7_digest_120 rfl (lv_at hl 1 rfl) ?_
          subst hR; subst hQz
          exact W.lret (v := v55_1) hx hb hr (fun t ht hW => ⟨⟨v55_1, (), rfl, (fun σ h => by have e61 := congrArg Int32.toInt (ez61.trans (show I y8 (0 : Int32).toNatClampNeg = σ.1.1 0 by rw [show y8 = a0 Q p0 0 from (gd_of ey8).symm, show (0 : Int32).toNatClampNeg = 0 from by decide +kernel]; exact cm_0 h)); have g := g55 σ h; rw [g.1, show v55_3.toInt.toNat = (σ.1.1 0).toInt.toNat by omega]; rfl), trivial⟩, hS.F ht⟩) hS.2.2 dX7_digest_121
        · have t62 := tq_nle (k := z61.toInt) (q := v55_3.toInt) c62 rfl rfl
          refine lv_iconst (v := 0) hx hb dX7_digest_65 (by decide +kernel) ?_
          refine lv_istore (lv' := [(4, .int 0), (0, .ref p0), (1, .long v55_1), (3, .int v55_3)]) hx hb dX7_digest_66 hl (by decide) rfl (fun ls hl => ?_)
          have key68 := blocks (fun n => ∀ (v68_1 : Int64) (v68_4 : Int32) (H : Heap) (lo : List Loc) (ls : Array Slot), (41 - v68_4.toInt).toNat = n → ((0) ≤ v68_4.toInt ∧ v68_4.toInt ≤ 40) → (∀ σ : Sx, cmA Q I J p0 σ → v68_1 = dgW σ.1 v55_3.toInt.toNat (2 * v68_4.toInt.toNat) (dgM σ.1 v55_3.toInt.toNat (dgB σ.1 (σ.1.1 1).toInt.toNat)) ∧ (v68_4.toInt ≤ (σ.1.1 (11 + v55_3.toInt.toNat)).toInt ∨ v68_4.toInt = 0)) → va_P (dC, dI) vwCl (Wd cs L K I J Q) H → va_S (fun _ => False) s.heap H lo → lv_has ls 5 [(0, .ref p0), (1, .long v68_1), (3, .int v55_3), (4, .int v68_4)] → W p l e R s m (([.ref p0] : List Value).toArray) below meth c H lo 0 0 Qz (F0 m 68 ls [])) (by
            intro n ih68
            intro v68_1 v68_4 H lo ls hmu68 bv68_4 g68 hP hS hl
            refine lv_iload hx hb dX7_digest_68 (lv_at hl 3 rfl) ?_
            refine lv_aload_n hx hb dX7_digest_70 rfl (lv_at hl 0 rfl) ?_
            refine lv_iload_n hx hb dX7_digest_71 rfl (lv_at hl 2 rfl) ?_
            refine ro_i (va_runV (As := [.int v55_3]) (rest := [.int v68_4]) ⟨hx, hb, hml, hown, hts⟩ (s_X7_high l dC dI cs L K G Q hQ x0 m0 tx tm H.size I J hI p0 hLp0 hKp0 v55_3 ⟨by omega, by omega⟩) (cwV 1 hts (gV pq1372 pq1374 pq33 pq81 pq1375) rfl rfl rfl (by decide +kernel) ⟨(by rw [hR]; exact (Nat.le_of_ble_eq_true rfl)), (by rw [hR]; exact (Nat.le_of_ble_eq_true rfl))⟩) (sP_V hP hD hK hN hLp0 hKp0 rfl rfl) rfl rfl hl.1 rfl (lv_room (Nat.le_of_ble_eq_true rfl)) dX7_digest_72 ⟨(by rw [hR]; exact (Nat.le_of_ble_eq_true rfl)), (by rw [hR]; exact (Nat.le_of_ble_eq_true rfl))⟩) hS hP (fun z72 H locs hz72 hP hS => ?_)
            obtain ⟨bz72, fez72⟩ := hz72
            refine lv_icmp_ge (tgt := 114) hx hb dX7_digest_75 (by decide) (fun c75 => ?_) (fun c75 => ?_)
            · have t75 := tq_le (k := z72.toInt) (q := v68_4.toInt) c75 rfl rfl
              obtain ⟨z114, ez114⟩ : ∃ y : Int32, y = v55_3 + 1 := ⟨_, rfl⟩
              refine lv_iinc (v := z114) (lv' := [(3, .int z114), (0, .ref p0), (1, .long v68_1), (4, .int v68_4)]) hx hb dX7_digest_114 hl (k := 2) rfl (by rw [ez114]; rfl) (by decide) rfl (fun ls hl => ?_)
              have bz114 := tq_add (k := v55_3.toInt) (q := 1) ez114 rfl (by decide +kernel) (by omega) (by omega)
              refine lv_goto (tgt := 55) hx hb dX7_digest_117 (by decide) ?_
              exact ih55 _ (by omega) v68_1 z114 _ _ _ rfl ⟨by omega, by omega⟩ (fun σ h => by have e61 := congrArg Int32.toInt (ez61.trans (show I y8 (0 : Int32).toNatClampNeg = σ.1.1 0 by rw [show y8 = a0 Q p0 0 from (gd_of ey8).symm, show (0 : Int32).toNatClampNeg = 0 from by decide +kernel]; exact cm_0 h)); have e72 := congrArg Int32.toInt (fez72.trans (show I (a0 Q p0 0) (11 + v55_3.toInt.toNat) = σ.1.1 (11 + v55_3.toInt.toNat) from cmA_n h (by omega))); have g := g68 σ h; exact ⟨by rw [dg_M (show z114.toInt.toNat = v55_3.toInt.toNat + 1 by omega), g.1, show 2 * v68_4.toInt.toNat = 2 * (σ.1.1 (11 + v55_3.toInt.toNat)).toInt.toNat by omega], Or.inl (by omega)⟩) hP hS (lv_sub hl [1, 2, 0] rfl)
            · have t75 := tq_nle (k := z72.toInt) (q := v68_4.toInt) c75 rfl rfl
              refine lv_ldc2 hx hb hown (hts _ pq1718) dX7_digest_78 ?_
              refine lv_lload_n hx hb dX7_digest_81 rfl (lv_at hl 1 rfl) ?_
              refine lv_lmul hx hb dX7_digest_82 ?_
              refine lv_topl (fun z82 ez82 => ?_)
              refine lv_aload_n hx hb dX7_digest_83 rfl (lv_at hl 0 rfl) ?_
              refine lv_iload_n hx hb dX7_digest_84 rfl (lv_at hl 2 rfl) ?_
              refine lv_iload hx hb dX7_digest_85 (lv_at hl 3 rfl) ?_
              refine lv_iconst (v := 0) hx hb dX7_digest_87 (by decide +kernel) ?_
              refine ro_l (va_runV (As := [.int v55_3, .int v68_4, .int 0]) (rest := [.long z82]) ⟨hx, hb, hml, hown, hts⟩ (s_X7_row l dC dI cs L K G Q hQ x0 m0 tx tm H.size I J hI p0 hLp0 hKp0 v55_3 v68_4 0) (cwV 3 hts (gV pq1719 pq1559 pq1560 pq81 pq1561) rfl rfl rfl (by decide +kernel) ⟨(by rw [hR]; exact (Nat.le_of_ble_eq_true rfl)), (by rw [hR]; exact (Nat.le_of_ble_eq_true rfl))⟩) (sP_V hP hD hK hN hLp0 hKp0 rfl rfl) rfl rfl hl.1 rfl (lv_room (Nat.le_of_ble_eq_true rfl)) dX7_digest_88 ⟨(by rw [hR]; exact (Nat.le_of_ble_eq_true rfl)), (by rw [hR]; exact (Nat.le_of_ble_eq_true rfl))⟩) hS hP (fun z88 H locs hz88 hP hS => ?_)
              have xpz88 := hz88
              refine lv_ladd hx hb dX7_digest_91 ?_
              refine lv_topl (fun z91 ez91 => ?_)
              refine lv_lstore_n (lv' := [(1, .long z91), (0, .ref p0), (3, .int v55_3), (4, .int v68_4)]) hx hb dX7_digest_92 rfl hl (by decide) rfl (fun ls hl => ?_)
              refine lv_ldc2 hx hb hown (hts _ pq1718) dX7_digest_93 ?_
              refine lv_lload_n hx hb dX7_digest_96 rfl (lv_at hl 0 rfl) ?_
              refine lv_lmul hx hb dX7_digest_97 ?_
              refine lv_topl (fun z97 ez97 => ?_)
              refine lv_aload_n hx hb dX7_digest_98 rfl (lv_at hl 1 rfl) ?_
              refine lv_iload_n hx hb dX7_digest_99 rfl (lv_at hl 2 rfl) ?_
              refine lv_iload hx hb dX7_digest_100 (lv_at hl 3 rfl) ?_
              refine lv_iconst (v := 1) hx hb dX7_digest_102 (by decide +kernel) ?_
              refine ro_l (va_runV (As := [.int v55_3, .int v68_4, .int 1]) (rest := [.long z97]) ⟨hx, hb, hml, hown, hts⟩ (s_X7_row l dC dI cs L K G Q hQ x0 m0 tx tm H.size I J hI p0 hLp0 hKp0 v55_3 v68_4 1) (cwV 3 hts (gV pq1719 pq1559 pq1560 pq81 pq1561) rfl rfl rfl (by decide +kernel) ⟨(by rw [hR]; exact (Nat.le_of_ble_eq_true rfl)), (by rw [hR]; exact (Nat.le_of_ble_eq_true rfl))⟩) (sP_V hP hD hK hN hLp0 hKp0 rfl rfl) rfl rfl hl.1 rfl (lv_room (Nat.le_of_ble_eq_true rfl)) dX7_digest_103 ⟨(by rw [hR]; exact (Nat.le_of_ble_eq_true rfl)), (by rw [hR]; exact (Nat.le_of_ble_eq_true rfl))⟩) hS hP (fun z103 H locs hz103 hP hS => ?_)
              have xpz103 := hz103
              refine lv_ladd hx hb dX7_digest_106 ?_
              refine lv_topl (fun z106 ez106 => ?_)
              refine lv_lstore_n (lv' := [(1, .long z106), (0, .ref p0), (3, .int v55_3), (4, .int v68_4)]) hx hb dX7_digest_107 rfl hl (by decide) rfl (fun ls hl => ?_)
              obtain ⟨z108, ez108⟩ : ∃ y : Int32, y = v68_4 + 1 := ⟨_, rfl⟩
              refine lv_iinc (v := z108) (lv' := [(4, .int z108), (1, .long z106), (0, .ref p0), (3, .int v55_3)]) hx hb dX7_digest_108 hl (k := 3) rfl (by rw [ez108]; rfl) (by decide) rfl (fun ls hl => ?_)
              have bz108 := tq_add (k := v68_4.toInt) (q := 1) ez108 rfl (by decide +kernel) (by omega) (by omega)
              refine lv_goto (tgt := 68) hx hb dX7_digest_111 (by decide) ?_
              exact ih68 _ (by omega) z106 z108 _ _ _ rfl ⟨by omega, by omega⟩ (fun σ h => by have e61 := congrArg Int32.toInt (ez61.trans (show I y8 (0 : Int32).toNatClampNeg = σ.1.1 0 by rw [show y8 = a0 Q p0 0 from (gd_of ey8).symm, show (0 : Int32).toNatClampNeg = 0 from by decide +kernel]; exact cm_0 h)); have e72 := congrArg Int32.toInt (fez72.trans (show I (a0 Q p0 0) (11 + v55_3.toInt.toNat) = σ.1.1 (11 + v55_3.toInt.toNat) from cmA_n h (by omega))); have g := g68 σ h; have q88 : z88 = mo σ.1.2 v55_3.toInt.toNat (2 * v68_4.toInt.toNat + 0) := (by rw [xpz88 σ h]; unfold rwR; rw [if_pos ⟨⟨by omega, by omega⟩, ⟨by omega, by show v68_4.toInt < (σ.1.1 (11 + v55_3.toInt.toNat)).toInt; omega⟩, by decide +kernel⟩]; rfl); have q103 : z103 = mo σ.1.2 v55_3.toInt.toNat (2 * v68_4.toInt.toNat + 1) := (by rw [xpz103 σ h]; unfold rwR; rw [if_pos ⟨⟨by omega, by omega⟩, ⟨by omega, by show v68_4.toInt < (σ.1.1 (11 + v55_3.toInt.toNat)).toInt; omega⟩, by decide +kernel⟩]; rfl); exact ⟨by rw [dg_W (show 2 * z108.toInt.toNat = (2 * v68_4.toInt.toNat + 1) + 1 by omega), dg_W (n := 2 * v68_4.toInt.toNat) rfl, ez106, ez97, ez91, ez82, g.1, q88, q103]; rfl, Or.inl (by omega)⟩) hP hS (lv_sub hl [2, 1, 3, 0] rfl))
          exact key68 _ v55_1 0 _ _ _ rfl ⟨by decide +kernel, by decide +kernel⟩ (fun σ h => ⟨by rw [show (0 : Int32).toInt.toNat = 0 from by decide +kernel, (g55 σ h).1]; rfl, Or.inr (by decide +kernel)⟩) hP hS (lv_sub hl [1, 2, 3, 0] rfl))
      exact key55 _ v6_1 0 _ _ _ rfl ⟨by decide +kernel, by decide +kernel⟩ (fun σ h => by have e12 := congrArg Int32.toInt (ez12.trans (show I y8 (1 : Int32).toNatClampNeg = σ.1.1 1 by rw [show y8 = a0 Q p0 0 from (gd_of ey8).symm, show (1 : Int32).toNatClampNeg = 1 from by decide +kernel]; exact cm_1 h)); have g := g6 σ h; exact ⟨by rw [show (0 : Int32).toInt.toNat = 0 from by decide +kernel, g.1, show v6_3.toInt.toNat = (σ.1.1 1).toInt.toNat by omega]; rfl, Or.inr (by decide +kernel)⟩) hP hS (lv_sub hl [1, 2, 0] rfl)
    · have t13 := tq_nle (k := z12.toInt) (q := v6_3.toInt) c13 rfl rfl
      refine lv_iconst (v := 0) hx hb dX7_digest_16 (by decide +kernel) ?_
      refine lv_istore (lv' := [(4, .int 0), (0, .ref p0), (1, .long v6_1), (3, .int v6_3)]) hx hb dX7_digest_17 hl (by decide) rfl (fun ls hl => ?_)
      have key19 := blocks (fun n => ∀ (v19_1 : Int64) (v19_4 : Int32) (H : Heap) (lo : List Loc) (ls : Array Slot), (9 - v19_4.toInt).toNat = n → ((0) ≤ v19_4.toInt ∧ v19_4.toInt ≤ 8) → (∀ σ : Sx, cmA Q I J p0 σ → v19_1 = dgK σ.1 v6_3.toInt.toNat v19_4.toInt.toNat (dgB σ.1 v6_3.toInt.toNat)) → va_P (dC, dI) vwCl (Wd cs L K I J Q) H → va_S (fun _ => False) s.heap H lo → lv_has ls 5 [(0, .ref p0), (1, .long v19_1), (3, .int v6_3), (4, .int v19_4)] → W p l e R s m (([.ref p0] : List Value).toArray) below meth c H lo 0 0 Qz (F0 m 19 ls [])) (by
        intro n ih19
        intro v19_1 v19_4 H lo ls hmu19 bv19_4 g19 hP hS hl
        refine lv_iload hx hb dX7_digest_19 (lv_at hl 3 rfl) ?_
        refine lv_bipush (v := 8) hx hb dX7_digest_21 (by decide +kernel) ?_
        refine lv_icmp_ge (tgt := 47) hx hb dX7_digest_23 (by decide) (fun c23 => ?_) (fun c23 => ?_)
        · have t23 := tq_le (k := (8)) (q := v19_4.toInt) c23 (by decide +kernel) rfl
          obtain ⟨z47, ez47⟩ : ∃ y : Int32, y = v6_3 + 1 := ⟨_, rfl⟩
          refine lv_iinc (v := z47) (lv' := [(3, .int z47), (0, .ref p0), (1, .long v19_1), (4, .int v19_4)]) hx hb dX7_digest_47 hl (k := 2) rfl (by rw [ez47]; rfl) (by decide) rfl (fun ls hl => ?_)
          have bz47 := tq_add (k := v6_3.toInt) (q := 1) ez47 rfl (by decide +kernel) (by omega) (by omega)
          refine lv_goto (tgt := 6) hx hb dX7_digest_50 (by decide) ?_
          exact ih6 _ (by omega) v19_1 z47 _ _ _ rfl ⟨by omega, by omega⟩ (fun σ h => by have e12 := congrArg Int32.toInt (ez12.trans (show I y8 (1 : Int32).toNatClampNeg = σ.1.1 1 by rw [show y8 = a0 Q p0 0 from (gd_of ey8).symm, show (1 : Int32).toNatClampNeg = 1 from by decide +kernel]; exact cm_1 h)); exact ⟨by rw [dg_B (show z47.toInt.toNat = v6_3.toInt.toNat + 1 by omega), g19 σ h, show v19_4.toInt.toNat = 8 by omega], Or.inl (by omega)⟩) hP hS (lv_sub hl [1, 2, 0] rfl)
        · have t23 := tq_nle (k := (8)) (q := v19_4.toInt) c23 (by decide +kernel) rfl
          refine lv_ldc2 hx hb hown (hts _ pq1718) dX7_digest_26 ?_
          refine lv_lload_n hx hb dX7_digest_29 rfl (lv_at hl 1 rfl) ?_
          refine lv_lmul hx hb dX7_digest_30 ?_
          refine lv_topl (fun z30 ez30 => ?_)
          refine lv_aload_n hx hb dX7_digest_31 rfl (lv_at hl 0 rfl) ?_
          refine lv_iload_n hx hb dX7_digest_32 rfl (lv_at hl 2 rfl) ?_
          refine lv_iload hx hb dX7_digest_33 (lv_at hl 3 rfl) ?_
          refine ro_i (va_runV (As := [.int v6_3, .int v19_4]) (rest := [.long z30]) ⟨hx, hb, hml, hown, hts⟩ (s_X7_of l dC dI cs L K G Q hQ x0 m0 tx tm H.size I J hI p0 hLp0 hKp0 v6_3 ⟨by omega, by omega⟩ v19_4 ⟨by omega, by omega⟩) (cwV 2 hts (gV pq1320 pq1322 pq25 pq81 pq1323) rfl rfl rfl (by decide +kernel) ⟨(by rw [hR]; exact (Nat.le_of_ble_eq_true rfl)), (by rw [hR]; exact (Nat.le_of_ble_eq_true rfl))⟩) (sP_V hP hD hK hN hLp0 hKp0 rfl rfl) rfl rfl hl.1 rfl (lv_room (Nat.le_of_ble_eq_true rfl)) dX7_digest_35 ⟨(by rw [hR]; exact (Nat.le_of_ble_eq_true rfl)), (by rw [hR]; exact (Nat.le_of_ble_eq_true rfl))⟩) hS hP (fun z35 H locs hz35 hP hS => ?_)
          obtain ⟨fez35, xpz35⟩ := hz35
          refine lv_i2l hx hb dX7_digest_38 rfl ?_
          refine lv_topl (fun z38 ez38 => ?_)
          have bz38 := tq_i2l (k := z35.toInt) ez38 rfl
          refine lv_ladd hx hb dX7_digest_39 ?_
          refine lv_topl (fun z39 ez39 => ?_)
          refine lv_lstore_n (lv' := [(1, .long z39), (0, .ref p0), (3, .int v6_3), (4, .int v19_4)]) hx hb dX7_digest_40 rfl hl (by decide) rfl (fun ls hl => ?_)
          obtain ⟨z41, ez41⟩ : ∃ y : Int32, y = v19_4 + 1 := ⟨_, rfl⟩
          refine lv_iinc (v := z41) (lv' := [(4, .int z41), (1, .long z39), (0, .ref p0), (3, .int v6_3)]) hx hb dX7_digest_41 hl (k := 3) rfl (by rw [ez41]; rfl) (by decide) rfl (fun ls hl => ?_)
          have bz41 := tq_add (k := v19_4.toInt) (q := 1) ez41 rfl (by decide +kernel) (by omega) (by omega)
          refine lv_goto (tgt := 19) hx hb dX7_digest_44 (by decide) ?_
          exact ih19 _ (by omega) z39 z41 _ _ _ rfl ⟨by omega, by omega⟩ (fun σ h => by have e12 := congrArg Int32.toInt (ez12.trans (show I y8 (1 : Int32).toNatClampNeg = σ.1.1 1 by rw [show y8 = a0 Q p0 0 from (gd_of ey8).symm, show (1 : Int32).toNatClampNeg = 1 from by decide +kernel]; exact cm_1 h)); rw [dg_K (show z41.toInt.toNat = v19_4.toInt.toNat + 1 by omega), ez39, ez30, g19 σ h, ez38, fez35, show I ((Q p0 0).getD 0) (19 + 8 * v6_3.toInt.toNat + v19_4.toInt.toNat) = _ from cmA_n h (by omega)]) hP hS (lv_sub hl [2, 1, 3, 0] rfl))
      exact key19 _ v6_1 0 _ _ _ rfl ⟨by decide +kernel, by decide +kernel⟩ (fun σ h => by rw [show (0 : Int32).toInt.toNat = 0 from by decide +kernel, (g6 σ h).1]; rfl) hP hS (lv_sub hl [1, 2, 3, 0] rfl))
  exact key6 _ 17 0 _ _ _ rfl ⟨by decide +kernel, by decide +kernel⟩ (fun σ h => ⟨by rw [show (0 : Int32).toInt.toNat = 0 from by decide +kernel]; rfl, Or.inr (by decide +kernel)⟩) hP hS (lv_sub hl [2, 1, 0] rfl)

set_option maxHeartbeats 4000000 in
set_option maxRecDepth 100000 in
theorem s_X7_alike (l : Launch) (dC : Nat → ClassId) (dI : Nat → Nat → Nat) (cs : Nat → ClassId) (L : List Nat) (K G : Nat → Nat) (Q : Nat → Nat → Option Nat) (hQ : Sv L K G Q) (x0 m0 : Nat) (tx : GT) (tm : GT × Int) (sz : Nat) (I : Nat → Nat → Int32) (J : Nat → Nat → Int64) (hI : Iv L K x0 m0 tx tm I) (p0 : Nat) (hLp0 : p0 ∈ L) (hKp0 : K p0 = 7) (p1 : Int32) (p2 : Int32) (p3 : Int32) : Met l yX7_alike (.code yX7_alike cX7_alike 4 (some .int) :: pw) ({ frames := 3, cells := 0, slots := 0, locals := 73 }) (sP (dC, dI) cs [.ref p0, .int p1, .int p2, .int p3] sz L K I J Q) (va_Qi (fun (r : Int32) (_ : Unit) => (∀ σ : Sx, okF σ.1 → cmA Q I J p0 σ → r.toInt = alR σ p1 p2 p3)) (fun _ _ => True) (fun _ => False)) 0 0 (fun _ => False) := by
  refine Met.ofW (cc := cX7_alike) (maxL := 4) (ret := (some .int)) (by decide +kernel) rfl ?_
  intro p e s m args below meth c s₁ B hml hv
  obtain ⟨rfl, hsz, hP, hK, hD0, hN⟩ := hv
  have hx := B.exec
  have hb := B.bytes
  have hr := B.returns
  have hts := fun w (h : w ∈ pw) => atoms_spec (ws := Cond.code yX7_alike cX7_alike 4 (some .int) :: pw) B.pre w (List.mem_cons_of_mem _ h)
  have hown : s.vm.findClass RX7 = some m.cls := findClass_of_methodNamed B.named
  have hlocks := B.notSynchronized
  subst hsz
  have hBB : 999 ≤ tm.2 ∧ tm.2 ≤ 6000000 := hI.2.2.2.2.1
  have hD := hD0
  obtain ⟨H, hHe⟩ : ∃ H : Heap, H = s.heap := ⟨_, rfl⟩
  have hS : va_S (fun _ => False) s.heap H [] := by rw [hHe]; exact va_S.rf
  rw [← hHe] at hP
  have hl := lv_entry ([.ref p0, .int p1, .int p2, .int p3]) (n := 4) (Nat.le_of_ble_eq_true rfl)
  rw [lg_entry_eq]
  generalize (lg_sl ([.ref p0, .int p1, .int p2, .int p3]) ++ List.replicate (4 - (lg_sl ([.ref p0, .int p1, .int p2, .int p3])).length) Slot.unset).toArray = ls at hl ⊢
  have hl : lv_has ls 4 [(0, .ref p0), (1, .int p1), (2, .int p2), (3, .int p3)] := hl
  rw [← hHe]
  refine namedW (fun R Qz hR hQz => ?_)
  refine lv_aload_n hx hb dX7_alike_0 rfl (lv_at hl 0 rfl) ?_
  refine lv_iload_n hx hb dX7_alike_1 rfl (lv_at hl 1 rfl) ?_
  refine ro_i (va_runV (As := [.int p1]) (rest := []) ⟨hx, hb, hml, hown, hts⟩ (s_X7_isMask l dC dI cs L K G Q hQ x0 m0 tx tm H.size I J hI p0 hLp0 hKp0 p1) (cwV 1 hts (gV pq1364 pq1366 pq31 pq81 pq1367) rfl rfl rfl (by decide +kernel) ⟨(by rw [hR]; exact (Nat.le_of_ble_eq_true rfl)), (by rw [hR]; exact (Nat.le_of_ble_eq_true rfl))⟩) (sP_V hP hD hK hN hLp0 hKp0 rfl rfl) rfl rfl hl.1 rfl (lv_room (Nat.le_of_ble_eq_true rfl)) dX7_alike_2 ⟨(by rw [hR]; exact (Nat.le_of_ble_eq_true rfl)), (by rw [hR]; exact (Nat.le_of_ble_eq_true rfl))⟩) hS hP (fun z2 H locs hz2 hP hS => ?_)
  obtain ⟨bz2, imz2, xpz2⟩ := hz2
  refine lv_if_eq (tgt := 41) hx hb dX7_alike_5 (by decide) (fun c5 => ?_) (fun c5 => ?_)
  · have t5 := tq_eq (k := z2.toInt) (q := (0)) c5 rfl (by decide +kernel)
    refine lv_iconst (v := (-1)) hx hb dX7_alike_41 (by decide +kernel) ?_
    subst hR; subst hQz
    exact W.iret (v := (-1)) hx hb hr (fun t ht hW => ⟨⟨(-1), (), rfl, (fun σ ok h => by rw [alr_n (fun w => by first | exact xpz2.2 t5 (by rw [cm_0 h]; exact w.1) | exact xpz10.2 t13 (by rw [cm_0 h]; exact w.2.1) | exact xpz22 t25 ⟨by have a := w.2.2; omega, by have a := w.2.2; omega⟩)]; decide +kernel), trivial⟩, hS.F ht⟩) hS.2.2 dX7_alike_42
  · have t5 := tq_ne (k := z2.toInt) (q := (0)) c5 rfl (by decide +kernel)
    have i5 := imz2 t5
    refine lv_aload_n hx hb dX7_alike_8 rfl (lv_at hl 0 rfl) ?_
    refine lv_iload_n hx hb dX7_alike_9 rfl (lv_at hl 2 rfl) ?_
    refine ro_i (va_runV (As := [.int p2]) (rest := []) ⟨hx, hb, hml, hown, hts⟩ (s_X7_isMask l dC dI cs L K G Q hQ x0 m0 tx tm H.size I J hI p0 hLp0 hKp0 p2) (cwV 1 hts (gV pq1364 pq1366 pq31 pq81 pq1367) rfl rfl rfl (by decide +kernel) ⟨(by rw [hR]; exact (Nat.le_of_ble_eq_true rfl)), (by rw [hR]; exact (Nat.le_of_ble_eq_true rfl))⟩) (sP_V hP hD hK hN hLp0 hKp0 rfl rfl) rfl rfl hl.1 rfl (lv_room (Nat.le_of_ble_eq_true rfl)) dX7_alike_10 ⟨(by rw [hR]; exact (Nat.le_of_ble_eq_true rfl)), (by rw [hR]; exact (Nat.le_of_ble_eq_true rfl))⟩) hS hP (fun z10 H locs hz10 hP hS => ?_)
    obtain ⟨bz10, imz10, xpz10⟩ := hz10
    refine lv_if_eq (tgt := 41) hx hb dX7_alike_13 (by decide) (fun c13 => ?_) (fun c13 => ?_)
    · have t13 := tq_eq (k := z10.toInt) (q := (0)) c13 rfl (by decide +kernel)
      refine lv_iconst (v := (-1)) hx hb dX7_alike_41 (by decide +kernel) ?_
      subst hR; subst hQz
      exact W.iret (v := (-1)) hx hb hr (fun t ht hW => ⟨⟨(-1), (), rfl, (fun σ ok h => by rw [alr_n (fun w => by first | exact xpz2.2 t5 (by rw [cm_0 h]; exact w.1) | exact xpz10.2 t13 (by rw [cm_0 h]; exact w.2.1) | exact xpz22 t25 ⟨by have a := w.2.2; omega, by have a := w.2.2; omega⟩)]; decide +kernel), trivial⟩, hS.F ht⟩) hS.2.2 dX7_alike_42
    · have t13 := tq_ne (k := z10.toInt) (q := (0)) c13 rfl (by decide +kernel)
      have i13 := imz10 t13
      refine lv_iload_n hx hb dX7_alike_16 rfl (lv_at hl 3 rfl) ?_
      refine lv_i2l hx hb dX7_alike_17 rfl ?_
      refine lv_topl (fun z17 ez17 => ?_)
      have bz17 := tq_i2l (k := p3.toInt) ez17 rfl
      refine lv_lconst (v := 0) hx hb dX7_alike_18 (by decide +kernel) ?_
      refine lv_ldc2 hx hb hown (hts _ pq1344) dX7_alike_19 ?_
      refine ro_i (va_runS (As := [.long z17, .long 0, .long 3]) (rest := []) ⟨hx, hb, hml, hown, hts⟩ (s_X7_in l dC dI cs L K Q H.size I J z17 0 3) (va_cwS 3 hts (gS pq1234 pq1235 pq81 pq1236) rfl rfl rfl (by decide +kernel) ⟨(by rw [hR]; exact (Nat.le_of_ble_eq_true rfl)), (by rw [hR]; exact (Nat.le_of_ble_eq_true rfl))⟩) (sP_S hP hD hK hN) rfl rfl hl.1 rfl (lv_room (Nat.le_of_ble_eq_true rfl)) dX7_alike_22 ⟨(by rw [hR]; exact (Nat.le_of_ble_eq_true rfl)), (by rw [hR]; exact (Nat.le_of_ble_eq_true rfl))⟩) hS hP (fun z22 H locs hz22 hP hS => ?_)
      have csl22_0 : (0 : Int64).toInt = 0 := by decide +kernel
      have csl22_3 : (3 : Int64).toInt = 3 := by decide +kernel
      obtain ⟨bz22, imz22, xpz22⟩ := hz22
      refine lv_if_eq (tgt := 41) hx hb dX7_alike_25 (by decide) (fun c25 => ?_) (fun c25 => ?_)
      · have t25 := tq_eq (k := z22.toInt) (q := (0)) c25 rfl (by decide +kernel)
        refine lv_iconst (v := (-1)) hx hb dX7_alike_41 (by decide +kernel) ?_
        subst hR; subst hQz
        exact W.iret (v := (-1)) hx hb hr (fun t ht hW => ⟨⟨(-1), (), rfl, (fun σ ok h => by rw [alr_n (fun w => by first | exact xpz2.2 t5 (by rw [cm_0 h]; exact w.1) | exact xpz10.2 t13 (by rw [cm_0 h]; exact w.2.1) | exact xpz22 t25 ⟨by have a := w.2.2; omega, by have a := w.2.2; omega⟩)]; decide +kernel), trivial⟩, hS.F ht⟩) hS.2.2 dX7_alike_42
      · have t25 := tq_ne (k := z22.toInt) (q := (0)) c25 rfl (by decide +kernel)
        have i25 := imz22 t25
        refine lv_aload_n hx hb dX7_alike_28 rfl (lv_at hl 0 rfl) ?_
        refine lv_iload_n hx hb dX7_alike_29 rfl (lv_at hl 1 rfl) ?_
        refine lv_iload_n hx hb dX7_alike_30 rfl (lv_at hl 2 rfl) ?_
        refine lv_iload_n hx hb dX7_alike_31 rfl (lv_at hl 3 rfl) ?_
        refine ro_i (va_runV (As := [.int p1, .int p2, .int p3]) (rest := []) ⟨hx, hb, hml, hown, hts⟩ (s_X7_areLike l dC dI cs L K G Q hQ x0 m0 tx tm H.size I J hI p0 hLp0 hKp0 p1 ⟨by omega, by omega⟩ p2 ⟨by omega, by omega⟩ p3 ⟨by omega, by omega⟩) (cwV 3 hts (gV pq1670 pq1672 pq69 pq81 pq1673) rfl rfl rfl (by decide +kernel) ⟨(by rw [hR]; exact (Nat.le_of_ble_eq_true rfl)), (by rw [hR]; exact (Nat.le_of_ble_eq_true rfl))⟩) (sP_V hP hD hK hN hLp0 hKp0 rfl rfl) rfl rfl hl.1 rfl (lv_room (Nat.le_of_ble_eq_true rfl)) dX7_alike_32 ⟨(by rw [hR]; exact (Nat.le_of_ble_eq_true rfl)), (by rw [hR]; exact (Nat.le_of_ble_eq_true rfl))⟩) hS hP (fun z32 H locs hz32 hP hS => ?_)
        obtain ⟨bz32, xpz32⟩ := hz32
        refine ro_i (va_runS (As := [.int z32]) (rest := []) ⟨hx, hb, hml, hown, hts⟩ (s_X7_truth l dC dI cs L K Q H.size I J z32) (va_cwS 1 hts (gS pq1257 pq1258 pq81 pq1259) rfl rfl rfl (by decide +kernel) ⟨(by rw [hR]; exact (Nat.le_of_ble_eq_true rfl)), (by rw [hR]; exact (Nat.le_of_ble_eq_true rfl))⟩) (sP_S hP hD hK hN) rfl rfl hl.1 rfl (lv_room (Nat.le_of_ble_eq_true rfl)) dX7_alike_35 ⟨(by rw [hR]; exact (Nat.le_of_ble_eq_true rfl)), (by rw [hR]; exact (Nat.le_of_ble_eq_true rfl))⟩) hS hP (fun z35 H locs hz35 hP hS => ?_)
        obtain ⟨bz35, xpz35⟩ := hz35
        refine lv_goto (tgt := 42) hx hb dX7_alike_38 (by decide) ?_
        subst hR; subst hQz
        exact W.iret (v := z35) hx hb hr (fun t ht hW => ⟨⟨z35, (), rfl, (fun σ ok h => by have q1 := xpz2.1 t5; have q2 := xpz10.1 t13; rw [cm_0 h] at q1 q2; have w := xpz32 σ.1 ok (cmA_rI h) (cmA_rJ h) (by omega) (by omega); have V : alV σ p1 p2 p3 := ⟨q1, q2, by omega, by omega⟩; by_cases k : z32.toInt = 0; (rw [alr_0 V (fun m => (w.mpr m) k)]; exact xpz35.1 k); (rw [alr_1 V (w.mp k)]; exact xpz35.2 k)), trivial⟩, hS.F ht⟩) hS.2.2 dX7_alike_42

set_option maxHeartbeats 4000000 in
set_option maxRecDepth 100000 in
theorem s_X7_dotsOfAll (l : Launch) (dC : Nat → ClassId) (dI : Nat → Nat → Nat) (cs : Nat → ClassId) (L : List Nat) (K G : Nat → Nat) (Q : Nat → Nat → Option Nat) (hQ : Sv L K G Q) (x0 m0 : Nat) (tx : GT) (tm : GT × Int) (sz : Nat) (I : Nat → Nat → Int32) (J : Nat → Nat → Int64) (hI : Iv L K x0 m0 tx tm I) (p0 : Nat) (hLp0 : p0 ∈ L) (hKp0 : K p0 = 7) : Met l yX7_dotsOfAll (.code yX7_dotsOfAll cX7_dotsOfAll 3 (some .int) :: pw) ({ frames := 2, cells := 0, slots := 0, locals := 44 }) (sP (dC, dI) cs [.ref p0] sz L K I J Q) (va_Qi (fun (r : Int32) (_ : Unit) => (∀ σ : Sx, cmA Q I J p0 σ → r = sumT σ.1 (σ.1.1 0).toInt.toNat)) (fun _ _ => True) (fun _ => False)) 0 0 (fun _ => False) := by
  refine Met.ofW (cc := cX7_dotsOfAll) (maxL := 3) (ret := (some .int)) (by decide +kernel) rfl ?_
  intro p e s m args below meth c s₁ B hml hv
  obtain ⟨rfl, hsz, hP, hK, hD0, hN⟩ := hv
  have hx := B.exec
  have hb := B.bytes
  have hr := B.returns
  have hts := fun w (h : w ∈ pw) => atoms_spec (ws := Cond.code yX7_dotsOfAll cX7_dotsOfAll 3 (some .int) :: pw) B.pre w (List.mem_cons_of_mem _ h)
  have hown : s.vm.findClass RX7 = some m.cls := findClass_of_methodNamed B.named
  have hlocks := B.notSynchronized
  subst hsz
  have hBB : 999 ≤ tm.2 ∧ tm.2 ≤ 6000000 := hI.2.2.2.2.1
  have hD := hD0
  obtain ⟨H, hHe⟩ : ∃ H : Heap, H = s.heap := ⟨_, rfl⟩
  have hS : va_S (fun _ => False) s.heap H [] := by rw [hHe]; exact va_S.rf
  rw [← hHe] at hP
  have hl := lv_entry ([.ref p0]) (n := 3) (Nat.le_of_ble_eq_true rfl)
  rw [lg_entry_eq]
  generalize (lg_sl ([.ref p0]) ++ List.replicate (3 - (lg_sl ([.ref p0])).length) Slot.unset).toArray = ls at hl ⊢
  have hl : lv_has ls 3 [(0, .ref p0)] := hl
  rw [← hHe]
  refine namedW (fun R Qz hR hQz => ?_)
  refine lv_iconst (v := 0) hx hb dX7_dotsOfAll_0 (by decide +kernel) ?_
  refine lv_istore_n (lv' := [(1, .int 0), (0, .ref p0)]) hx hb dX7_dotsOfAll_1 rfl hl (by decide) rfl (fun ls hl => ?_)
  refine lv_iconst (v := 0) hx hb dX7_dotsOfAll_2 (by decide +kernel) ?_
  refine lv_istore_n (lv' := [(2, .int 0), (1, .int 0), (0, .ref p0)]) hx hb dX7_dotsOfAll_3 rfl hl (by decide) rfl (fun ls hl => ?_)
  have key4 := blocks (fun n => ∀ (v4_1 : Int32) (v4_2 : Int32) (H : Heap) (lo : List Loc) (ls : Array Slot), (9 - v4_2.toInt).toNat = n → ((0) ≤ v4_2.toInt ∧ v4_2.toInt ≤ 8) → (∀ σ : Sx, cmA Q I J p0 σ → v4_1 = sumT σ.1 v4_2.toInt.toNat) → (∀ σ : Sx, cmA Q I J p0 σ → v4_2.toInt ≤ (σ.1.1 0).toInt ∨ v4_2.toInt = 0) → va_P (dC, dI) vwCl (Wd cs L K I J Q) H → va_S (fun _ => False) s.heap H lo → lv_has ls 3 [(0, .ref p0), (1, .int v4_1), (2, .int v4_2)] → W p l e R s m (([.ref p0] : List Value).toArray) below meth c H lo 0 0 Qz (F0 m 4 ls [])) (by
    intro n ih4
    intro v4_1 v4_2 H lo ls hmu4 bv4_2 hd hw4 hP hS hl
    refine lv_iload_n hx hb dX7_dotsOfAll_4 rfl (lv_at hl 2 rfl) ?_
    refine lv_aload_n hx hb dX7_dotsOfAll_5 rfl (lv_at hl 0 rfl) ?_
    obtain ⟨y6, ey6, hLy6, hKy6⟩ := oQ_7_0 (Sv_at hQ hLp0 hKp0)
    refine p_get (v := .ref y6) hx hb hts inX7 hown hK hP hLp0 hKp0 rfl rfl 0 (by decide) (hts _ pq1115) (congrArg (fun q => some (va_rf q)) ey6) dX7_dotsOfAll_6 ?_
    refine lv_iconst (v := 0) hx hb dX7_dotsOfAll_9 (by decide +kernel) ?_
    refine p_iald hx hb hK hP 8 hLy6 hKy6 rfl rfl (in_d (by decide +kernel)) dX7_dotsOfAll_10 ?_
    refine lv_topi (fun z10 ez10 => ?_)
    have bz10 := rng0 (oR_18 (i := (0 : Int32)) (k := (0)) (by decide +kernel) (Iv_at hI hLy6 hKy6))
    rw [← ez10] at bz10
    refine lv_icmp_ge (tgt := 28) hx hb dX7_dotsOfAll_11 (by decide) (fun c11 => ?_) (fun c11 => ?_)
    · have t11 := tq_le (k := z10.toInt) (q := v4_2.toInt) c11 rfl rfl
      refine lv_iload_n hx hb dX7_dotsOfAll_28 rfl (lv_at hl 1 rfl) ?_
      subst hR; subst hQz
      exact W.iret (v := v4_1) hx hb hr (fun t ht hW => ⟨⟨v4_1, (), rfl, (fun σ h => by have e10 := congrArg Int32.toInt ((show z10 = I (a0 Q p0 0) 0 from (by rw [ez10, show a0 Q p0 0 = y6 from gd_of ey6, show (0 : Int32).toNatClampNeg = 0 from by decide +kernel])).trans (cm_0 h)); rw [hd σ h]; congr 1; have := hw4 σ h; omega), trivial⟩, hS.F ht⟩) hS.2.2 dX7_dotsOfAll_29
    · have t11 := tq_nle (k := z10.toInt) (q := v4_2.toInt) c11 rfl rfl
      refine lv_iload_n hx hb dX7_dotsOfAll_14 rfl (lv_at hl 1 rfl) ?_
      refine lv_aload_n hx hb dX7_dotsOfAll_15 rfl (lv_at hl 0 rfl) ?_
      refine lv_iload_n hx hb dX7_dotsOfAll_16 rfl (lv_at hl 2 rfl) ?_
      refine ro_i (va_runV (As := [.int v4_2]) (rest := [.int v4_1]) ⟨hx, hb, hml, hown, hts⟩ (s_X7_dotsOf l dC dI cs L K G Q hQ x0 m0 tx tm H.size I J hI p0 hLp0 hKp0 v4_2 ⟨by omega, by omega⟩) (cwV 1 hts (gV pq1413 pq1415 pq39 pq81 pq1416) rfl rfl rfl (by decide +kernel) ⟨(by rw [hR]; exact (Nat.le_of_ble_eq_true rfl)), (by rw [hR]; exact (Nat.le_of_ble_eq_true rfl))⟩) (sP_V hP hD hK hN hLp0 hKp0 rfl rfl) rfl rfl hl.1 rfl (lv_room (Nat.le_of_ble_eq_true rfl)) dX7_dotsOfAll_17 ⟨(by rw [hR]; exact (Nat.le_of_ble_eq_true rfl)), (by rw [hR]; exact (Nat.le_of_ble_eq_true rfl))⟩) hS hP (fun z17 H locs hz17 hP hS => ?_)
      obtain ⟨bz17, xpz17⟩ := hz17
      refine lv_iadd hx hb dX7_dotsOfAll_20 ?_
      refine lv_topi (fun z20 ez20 => ?_)
      refine lv_istore_n (lv' := [(1, .int z20), (0, .ref p0), (2, .int v4_2)]) hx hb dX7_dotsOfAll_21 rfl hl (by decide) rfl (fun ls hl => ?_)
      obtain ⟨z22, ez22⟩ : ∃ y : Int32, y = v4_2 + 1 := ⟨_, rfl⟩
      refine lv_iinc (v := z22) (lv' := [(2, .int z22), (1, .int z20), (0, .ref p0)]) hx hb dX7_dotsOfAll_22 hl (k := 2) rfl (by rw [ez22]; rfl) (by decide) rfl (fun ls hl => ?_)
      have bz22 := tq_add (k := v4_2.toInt) (q := 1) ez22 rfl (by decide +kernel) (by omega) (by omega)
      refine lv_goto (tgt := 4) hx hb dX7_dotsOfAll_25 (by decide) ?_
      exact ih4 _ (by omega) z20 z22 _ _ _ rfl ⟨by omega, by omega⟩ (fun σ h => by rw [show z22.toInt.toNat = v4_2.toInt.toNat + 1 by omega, ez20, hd σ h]; show _ = sumT σ.1 v4_2.toInt.toNat + _; congr 1; exact oi_eq (xpz17.trans (by rw [totr_congr (cmA_F (m := v4_2) h (by omega)).2.2]))) (fun σ h => by have e10 := congrArg Int32.toInt ((show z10 = I (a0 Q p0 0) 0 from (by rw [ez10, show a0 Q p0 0 = y6 from gd_of ey6, show (0 : Int32).toNatClampNeg = 0 from by decide +kernel])).trans (cm_0 h)); omega) hP hS (lv_sub hl [2, 1, 0] rfl))
  exact key4 _ 0 0 _ _ _ rfl ⟨by decide +kernel, by decide +kernel⟩ (fun σ h => by rw [show (0 : Int32).toInt.toNat = 0 from by decide +kernel]; rfl) (fun σ h => Or.inr (by decide +kernel)) hP hS (lv_sub hl [2, 1, 0] rfl)

set_option maxHeartbeats 4000000 in
set_option maxRecDepth 100000 in
theorem s_X7_count (l : Launch) (dC : Nat → ClassId) (dI : Nat → Nat → Nat) (cs : Nat → ClassId) (L : List Nat) (K G : Nat → Nat) (Q : Nat → Nat → Option Nat) (hQ : Sv L K G Q) (x0 m0 : Nat) (tx : GT) (tm : GT × Int) (sz : Nat) (I : Nat → Nat → Int32) (J : Nat → Nat → Int64) (hI : Iv L K x0 m0 tx tm I) (p0 : Nat) (hLp0 : p0 ∈ L) (hKp0 : K p0 = 7) (p1 : Int32) : Met l yX7_count (.code yX7_count cX7_count 2 (some .int) :: pw) ({ frames := 3, cells := 0, slots := 0, locals := 66 }) (sP (dC, dI) cs [.ref p0, .int p1] sz L K I J Q) (va_Qi (fun (r : Int32) (_ : Unit) => (∀ σ : Sx, cmA Q I J p0 σ → r.toInt = ctR σ (I p0 13).toInt p1)) (fun _ _ => True) (fun _ => False)) 0 0 (fun _ => False) := by
  refine Met.ofW (cc := cX7_count) (maxL := 2) (ret := (some .int)) (by decide +kernel) rfl ?_
  intro p e s m args below meth c s₁ B hml hv
  obtain ⟨rfl, hsz, hP, hK, hD0, hN⟩ := hv
  have hx := B.exec
  have hb := B.bytes
  have hr := B.returns
  have hts := fun w (h : w ∈ pw) => atoms_spec (ws := Cond.code yX7_count cX7_count 2 (some .int) :: pw) B.pre w (List.mem_cons_of_mem _ h)
  have hown : s.vm.findClass RX7 = some m.cls := findClass_of_methodNamed B.named
  have hlocks := B.notSynchronized
  subst hsz
  have hBB : 999 ≤ tm.2 ∧ tm.2 ≤ 6000000 := hI.2.2.2.2.1
  have hD := hD0
  obtain ⟨H, hHe⟩ : ∃ H : Heap, H = s.heap := ⟨_, rfl⟩
  have hS : va_S (fun _ => False) s.heap H [] := by rw [hHe]; exact va_S.rf
  rw [← hHe] at hP
  have hl := lv_entry ([.ref p0, .int p1]) (n := 2) (Nat.le_of_ble_eq_true rfl)
  rw [lg_entry_eq]
  generalize (lg_sl ([.ref p0, .int p1]) ++ List.replicate (2 - (lg_sl ([.ref p0, .int p1])).length) Slot.unset).toArray = ls at hl ⊢
  have hl : lv_has ls 2 [(0, .ref p0), (1, .int p1)] := hl
  rw [← hHe]
  refine namedW (fun R Qz hR hQz => ?_)
  refine lv_iload_n hx hb dX7_count_0 rfl (lv_at hl 1 rfl) ?_
  refine lv_topi (fun z1 ez1 => ?_)
  rcases sw7 z1 with rfl | rfl | rfl | rfl | rfl | rfl | rfl | hsw1
  · refine lv_tableIn (off := 43) (tgt := 44) hx hb dX7_count_1 (by decide +kernel) (by decide +kernel) (by decide +kernel) (by decide) ?_
    have sv1 : p1.toInt = 0 := by rw [← ez1]; decide +kernel
    refine lv_aload_n hx hb dX7_count_44 rfl (lv_at hl 0 rfl) ?_
    obtain ⟨y45, ey45, hLy45, hKy45⟩ := oQ_7_0 (Sv_at hQ hLp0 hKp0)
    refine p_get (v := .ref y45) hx hb hts inX7 hown hK hP hLp0 hKp0 rfl rfl 0 (by decide) (hts _ pq1115) (congrArg (fun q => some (va_rf q)) ey45) dX7_count_45 ?_
    refine lv_iconst (v := 0) hx hb dX7_count_48 (by decide +kernel) ?_
    refine p_iald hx hb hK hP 8 hLy45 hKy45 rfl rfl (in_d (by decide +kernel)) dX7_count_49 ?_
    refine lv_topi (fun z49 ez49 => ?_)
    have bz49 := rng0 (oR_18 (i := (0 : Int32)) (k := (0)) (by decide +kernel) (Iv_at hI hLy45 hKy45))
    rw [← ez49] at bz49
    subst hR; subst hQz
    exact W.iret (v := z49) hx hb hr (fun t ht hW => ⟨⟨z49, (), rfl, (fun σ h => by rw [ct0 sv1, ez49, show y45 = a0 Q p0 0 from (gd_of ey45).symm, show (0 : Int32).toNatClampNeg = 0 from by decide +kernel, cm_0 h]), trivial⟩, hS.F ht⟩) hS.2.2 dX7_count_50
  · refine lv_tableIn (off := 50) (tgt := 51) hx hb dX7_count_1 (by decide +kernel) (by decide +kernel) (by decide +kernel) (by decide) ?_
    have sv1 : p1.toInt = 1 := by rw [← ez1]; decide +kernel
    refine lv_aload_n hx hb dX7_count_51 rfl (lv_at hl 0 rfl) ?_
    obtain ⟨y52, ey52, hLy52, hKy52⟩ := oQ_7_0 (Sv_at hQ hLp0 hKp0)
    refine p_get (v := .ref y52) hx hb hts inX7 hown hK hP hLp0 hKp0 rfl rfl 0 (by decide) (hts _ pq1115) (congrArg (fun q => some (va_rf q)) ey52) dX7_count_52 ?_
    refine lv_iconst (v := 1) hx hb dX7_count_55 (by decide +kernel) ?_
    refine p_iald hx hb hK hP 8 hLy52 hKy52 rfl rfl (in_d (by decide +kernel)) dX7_count_56 ?_
    refine lv_topi (fun z56 ez56 => ?_)
    have bz56 := rng1 (oR_18 (i := (1 : Int32)) (k := (1)) (by decide +kernel) (Iv_at hI hLy52 hKy52))
    rw [← ez56] at bz56
    subst hR; subst hQz
    exact W.iret (v := z56) hx hb hr (fun t ht hW => ⟨⟨z56, (), rfl, (fun σ h => by rw [ct1 sv1, ez56, show y52 = a0 Q p0 0 from (gd_of ey52).symm, show (1 : Int32).toNatClampNeg = 1 from by decide +kernel, cm_1 h]), trivial⟩, hS.F ht⟩) hS.2.2 dX7_count_57
  · refine lv_tableIn (off := 57) (tgt := 58) hx hb dX7_count_1 (by decide +kernel) (by decide +kernel) (by decide +kernel) (by decide) ?_
    have sv1 : p1.toInt = 2 := by rw [← ez1]; decide +kernel
    refine lv_aload_n hx hb dX7_count_58 rfl (lv_at hl 0 rfl) ?_
    refine ro_i (va_runV (As := []) (rest := []) ⟨hx, hb, hml, hown, hts⟩ (s_X7_dotsOfAll l dC dI cs L K G Q hQ x0 m0 tx tm H.size I J hI p0 hLp0 hKp0) (cwV 0 hts (gV pq1728 pq1730 pq72 pq81 pq1731) rfl rfl rfl (by decide +kernel) ⟨(by rw [hR]; exact (Nat.le_of_ble_eq_true rfl)), (by rw [hR]; exact (Nat.le_of_ble_eq_true rfl))⟩) (sP_V hP hD hK hN hLp0 hKp0 rfl rfl) rfl rfl hl.1 rfl (lv_room (Nat.le_of_ble_eq_true rfl)) dX7_count_59 ⟨(by rw [hR]; exact (Nat.le_of_ble_eq_true rfl)), (by rw [hR]; exact (Nat.le_of_ble_eq_true rfl))⟩) hS hP (fun z59 H locs hz59 hP hS => ?_)
    have xpz59 := hz59
    subst hR; subst hQz
    exact W.iret (v := z59) hx hb hr (fun t ht hW => ⟨⟨z59, (), rfl, (fun σ h => by rw [ct2 sv1, xpz59 σ h]), trivial⟩, hS.F ht⟩) hS.2.2 dX7_count_62
  · refine lv_tableIn (off := 62) (tgt := 63) hx hb dX7_count_1 (by decide +kernel) (by decide +kernel) (by decide +kernel) (by decide) ?_
    have sv1 : p1.toInt = 3 := by rw [← ez1]; decide +kernel
    refine lv_aload_n hx hb dX7_count_63 rfl (lv_at hl 0 rfl) ?_
    refine p_get hx hb hts inX7 hown hK hP hLp0 hKp0 rfl rfl 11 (by decide) (hts _ pq1126) rfl dX7_count_64 ?_
    refine lv_topi (fun z64 ez64 => ?_)
    have cgz64 := congrArg Int32.toInt ez64
    have bz64 := oI_7_11 (Iv_at hI hLp0 hKp0)
    rw [← ez64] at bz64
    subst hR; subst hQz
    exact W.iret (v := z64) hx hb hr (fun t ht hW => ⟨⟨z64, (), rfl, (fun σ h => by rw [ct3 sv1, ez64]; exact h.2.1.1), trivial⟩, hS.F ht⟩) hS.2.2 dX7_count_67
  · refine lv_tableIn (off := 67) (tgt := 68) hx hb dX7_count_1 (by decide +kernel) (by decide +kernel) (by decide +kernel) (by decide) ?_
    have sv1 : p1.toInt = 4 := by rw [← ez1]; decide +kernel
    refine lv_aload_n hx hb dX7_count_68 rfl (lv_at hl 0 rfl) ?_
    refine p_get hx hb hts inX7 hown hK hP hLp0 hKp0 rfl rfl 13 (by decide) (hts _ pq1128) rfl dX7_count_69 ?_
    refine lv_topi (fun z69 ez69 => ?_)
    have cgz69 := congrArg Int32.toInt ez69
    have bz69 := oI_7_13 (Iv_at hI hLp0 hKp0)
    rw [← ez69] at bz69
    subst hR; subst hQz
    exact W.iret (v := z69) hx hb hr (fun t ht hW => ⟨⟨z69, (), rfl, (fun σ h => by rw [ct4 sv1, ez69]), trivial⟩, hS.F ht⟩) hS.2.2 dX7_count_72
  · refine lv_tableIn (off := 72) (tgt := 73) hx hb dX7_count_1 (by decide +kernel) (by decide +kernel) (by decide +kernel) (by decide) ?_
    have sv1 : p1.toInt = 5 := by rw [← ez1]; decide +kernel
    refine lv_aload_n hx hb dX7_count_73 rfl (lv_at hl 0 rfl) ?_
    obtain ⟨y74, ey74, hLy74, hKy74⟩ := oQ_7_10 (Sv_at hQ hLp0 hKp0)
    refine p_get (v := .ref y74) hx hb hts inX7 hown hK hP hLp0 hKp0 rfl rfl 10 (by decide) (hts _ pq1125) (congrArg (fun q => some (va_rf q)) ey74) dX7_count_74 ?_
    refine lv_iconst (v := 0) hx hb dX7_count_77 (by decide +kernel) ?_
    refine p_zald hx hb hK hP 14 hLy74 hKy74 rfl rfl (in_d (by decide +kernel)) dX7_count_78 ?_
    refine lv_topi (fun z78 ez78 => ?_)
    refine ro_i (va_runS (As := [.int z78]) (rest := []) ⟨hx, hb, hml, hown, hts⟩ (s_X7_truth l dC dI cs L K Q H.size I J z78) (va_cwS 1 hts (gS pq1257 pq1258 pq81 pq1259) rfl rfl rfl (by decide +kernel) ⟨(by rw [hR]; exact (Nat.le_of_ble_eq_true rfl)), (by rw [hR]; exact (Nat.le_of_ble_eq_true rfl))⟩) (sP_S hP hD hK hN) rfl rfl hl.1 rfl (lv_room (Nat.le_of_ble_eq_true rfl)) dX7_count_79 ⟨(by rw [hR]; exact (Nat.le_of_ble_eq_true rfl)), (by rw [hR]; exact (Nat.le_of_ble_eq_true rfl))⟩) hS hP (fun z79 H locs hz79 hP hS => ?_)
    obtain ⟨bz79, xpz79⟩ := hz79
    refine lv_aload_n hx hb dX7_count_82 rfl (lv_at hl 0 rfl) ?_
    refine p_get (v := .ref y74) hx hb hts inX7 hown hK hP hLp0 hKp0 rfl rfl 10 (by decide) (hts _ pq1125) (congrArg (fun q => some (va_rf q)) ey74) dX7_count_83 ?_
    refine lv_iconst (v := 1) hx hb dX7_count_86 (by decide +kernel) ?_
    refine p_zald hx hb hK hP 14 hLy74 hKy74 rfl rfl (in_d (by decide +kernel)) dX7_count_87 ?_
    refine lv_topi (fun z87 ez87 => ?_)
    refine ro_i (va_runS (As := [.int z87]) (rest := [.int z79]) ⟨hx, hb, hml, hown, hts⟩ (s_X7_truth l dC dI cs L K Q H.size I J z87) (va_cwS 1 hts (gS pq1257 pq1258 pq81 pq1259) rfl rfl rfl (by decide +kernel) ⟨(by rw [hR]; exact (Nat.le_of_ble_eq_true rfl)), (by rw [hR]; exact (Nat.le_of_ble_eq_true rfl))⟩) (sP_S hP hD hK hN) rfl rfl hl.1 rfl (lv_room (Nat.le_of_ble_eq_true rfl)) dX7_count_88 ⟨(by rw [hR]; exact (Nat.le_of_ble_eq_true rfl)), (by rw [hR]; exact (Nat.le_of_ble_eq_true rfl))⟩) hS hP (fun z88 H locs hz88 hP hS => ?_)
    obtain ⟨bz88, xpz88⟩ := hz88
    refine lv_iconst (v := 1) hx hb dX7_count_91 (by decide +kernel) ?_
    refine lv_ishl hx hb dX7_count_92 ?_
    refine lv_topi (fun z92 ez92 => ?_)
    refine lv_ior hx hb dX7_count_93 ?_
    refine lv_topi (fun z93 ez93 => ?_)
    subst hR; subst hQz
    exact W.iret (v := z93) hx hb hr (fun t ht hW => ⟨⟨z93, (), rfl, (fun σ h => by have eY : a0 Q p0 10 = y74 := gd_of ey74; have s0 := cm_sh h (s := 0) (k := 1) (by decide); have s1 := cm_sh h (s := 1) (k := 2) (by decide); rw [eY] at s0 s1; have e78 : z78 = I y74 0 := ez78; have e87 : z87 = I y74 1 := ez87; rw [← e78] at s0; rw [← e87] at s1; rw [ct5 sv1, ez93, ez92]; have n0 : (¬ z78 = 0 → ¬ z78.toInt = 0) := (fun q w => q (Int32.toInt_inj.mp (w.trans (by decide +kernel)))); have n1 : (¬ z87 = 0 → ¬ z87.toInt = 0) := (fun q w => q (Int32.toInt_inj.mp (w.trans (by decide +kernel)))); by_cases q0 : z78 = 0; (have a0_ : z79 = 0 := Int32.toInt_inj.mp ((xpz79.1 (by rw [q0]; decide +kernel)).trans (by decide +kernel)); rw [s0.1 q0, a0_]; by_cases q1 : z87 = 0; (have a1_ : z88 = 0 := Int32.toInt_inj.mp ((xpz88.1 (by rw [q1]; decide +kernel)).trans (by decide +kernel)); rw [s1.1 q1, a1_]; decide +kernel); (have a1_ : z88 = 1 := Int32.toInt_inj.mp ((xpz88.2 (n1 q1)).trans (by decide +kernel)); rw [s1.2 q1, a1_]; decide +kernel)); (have a0_ : z79 = 1 := Int32.toInt_inj.mp ((xpz79.2 (n0 q0)).trans (by decide +kernel)); rw [s0.2 q0, a0_]; by_cases q1 : z87 = 0; (have a1_ : z88 = 0 := Int32.toInt_inj.mp ((xpz88.1 (by rw [q1]; decide +kernel)).trans (by decide +kernel)); rw [s1.1 q1, a1_]; decide +kernel); (have a1_ : z88 = 1 := Int32.toInt_inj.mp ((xpz88.2 (n1 q1)).trans (by decide +kernel)); rw [s1.2 q1, a1_]; decide +kernel))), trivial⟩, hS.F ht⟩) hS.2.2 dX7_count_94
  · refine lv_tableIn (off := 94) (tgt := 95) hx hb dX7_count_1 (by decide +kernel) (by decide +kernel) (by decide +kernel) (by decide) ?_
    have sv1 : p1.toInt = 6 := by rw [← ez1]; decide +kernel
    refine lv_aload_n hx hb dX7_count_95 rfl (lv_at hl 0 rfl) ?_
    obtain ⟨y96, ey96, hLy96, hKy96⟩ := oQ_7_0 (Sv_at hQ hLp0 hKp0)
    refine p_get (v := .ref y96) hx hb hts inX7 hown hK hP hLp0 hKp0 rfl rfl 0 (by decide) (hts _ pq1115) (congrArg (fun q => some (va_rf q)) ey96) dX7_count_96 ?_
    refine lv_iconst (v := 2) hx hb dX7_count_99 (by decide +kernel) ?_
    refine p_iald hx hb hK hP 8 hLy96 hKy96 rfl rfl (in_d (by decide +kernel)) dX7_count_100 ?_
    refine lv_topi (fun z100 ez100 => ?_)
    subst hR; subst hQz
    exact W.iret (v := z100) hx hb hr (fun t ht hW => ⟨⟨z100, (), rfl, (fun σ h => by rw [ct6 sv1, ez100, show y96 = a0 Q p0 0 from (gd_of ey96).symm, show (2 : Int32).toNatClampNeg = 2 from by decide +kernel, cmA_n h (by decide)]), trivial⟩, hS.F ht⟩) hS.2.2 dX7_count_101
  · refine lv_tableOut (tgt := 102) hx hb dX7_count_1 hsw1 (by decide) ?_
    refine lv_iconst (v := (-1)) hx hb dX7_count_102 (by decide +kernel) ?_
    subst hR; subst hQz
    exact W.iret (v := (-1)) hx hb hr (fun t ht hW => ⟨⟨(-1), (), rfl, (fun σ h => by rw [ct7 (by rw [← ez1]; exact hsw1)]; decide +kernel), trivial⟩, hS.F ht⟩) hS.2.2 dX7_count_103
