def yX7_joinsIsland : MethodName := ⟨RX7, "joinsIsland", "(IIIZ)V"⟩
abbrev cX7_joinsIsland : ByteArray := prog_9_method_83_code
abbrev cX7_apart : ByteArray := prog_9_method_105_code
abbrev cX7_laysIslands : ByteArray := prog_9_method_84_code
abbrev cX7_seen : ByteArray := prog_9_method_109_code
def yX7_apart : MethodName := ⟨RX7, "apart", "(III)I"⟩
def yX7_laysIslands : MethodName := ⟨RX7, "laysIslands", "(IZ)V"⟩
def yX7_seen : MethodName := ⟨RX7, "seen", "(II)I"⟩
theorem dX7_apart_0 : decode cX7_apart 0 = .ok (.aload_n 0, 1) := by decide +kernel
theorem dX7_apart_1 : decode cX7_apart 1 = .ok (.iload_n 1, 1) := by decide +kernel
theorem dX7_apart_2 : decode cX7_apart 2 = .ok (.iload_n 2, 1) := by decide +kernel
theorem dX7_apart_3 : decode cX7_apart 3 = .ok (.invokevirtual 382, 3) := by decide +kernel
theorem dX7_apart_6 : decode cX7_apart 6 = .ok (.ifCond .eq 15, 3) := by decide +kernel
theorem dX7_apart_9 : decode cX7_apart 9 = .ok (.iload_n 3, 1) := by decide +kernel
theorem dX7_apart_10 : decode cX7_apart 10 = .ok (.i2l, 1) := by decide +kernel
theorem dX7_apart_11 : decode cX7_apart 11 = .ok (.lconst 0, 1) := by decide +kernel
theorem dX7_apart_12 : decode cX7_apart 12 = .ok (.ldc2_w 394, 3) := by decide +kernel
theorem dX7_apart_15 : decode cX7_apart 15 = .ok (.invokestatic 96, 3) := by decide +kernel
theorem dX7_apart_18 : decode cX7_apart 18 = .ok (.ifCond .ne 7, 3) := by decide +kernel
theorem dX7_apart_21 : decode cX7_apart 21 = .ok (.sipush (-2000), 3) := by decide +kernel
theorem dX7_apart_24 : decode cX7_apart 24 = .ok (.ireturn, 1) := by decide +kernel
theorem dX7_apart_25 : decode cX7_apart 25 = .ok (.aload_n 0, 1) := by decide +kernel
theorem dX7_apart_26 : decode cX7_apart 26 = .ok (.invokevirtual 331, 3) := by decide +kernel
theorem dX7_apart_29 : decode cX7_apart 29 = .ok (.iconst 0, 1) := by decide +kernel
theorem dX7_apart_30 : decode cX7_apart 30 = .ok (.istore 4, 2) := by decide +kernel
theorem dX7_apart_32 : decode cX7_apart 32 = .ok (.iload 4, 2) := by decide +kernel
theorem dX7_apart_34 : decode cX7_apart 34 = .ok (.ineg, 1) := by decide +kernel
theorem dX7_apart_35 : decode cX7_apart 35 = .ok (.istore 5, 2) := by decide +kernel
theorem dX7_apart_37 : decode cX7_apart 37 = .ok (.iload 5, 2) := by decide +kernel
theorem dX7_apart_39 : decode cX7_apart 39 = .ok (.iload 4, 2) := by decide +kernel
theorem dX7_apart_41 : decode cX7_apart 41 = .ok (.if_icmp .gt 75, 3) := by decide +kernel
theorem dX7_apart_44 : decode cX7_apart 44 = .ok (.iload 4, 2) := by decide +kernel
theorem dX7_apart_46 : decode cX7_apart 46 = .ok (.iload 5, 2) := by decide +kernel
theorem dX7_apart_48 : decode cX7_apart 48 = .ok (.invokestatic 250, 3) := by decide +kernel
theorem dX7_apart_51 : decode cX7_apart 51 = .ok (.isub, 1) := by decide +kernel
theorem dX7_apart_52 : decode cX7_apart 52 = .ok (.istore 6, 2) := by decide +kernel
theorem dX7_apart_54 : decode cX7_apart 54 = .ok (.iconst (-1), 1) := by decide +kernel
theorem dX7_apart_55 : decode cX7_apart 55 = .ok (.istore 7, 2) := by decide +kernel
theorem dX7_apart_57 : decode cX7_apart 57 = .ok (.iload 7, 2) := by decide +kernel
theorem dX7_apart_59 : decode cX7_apart 59 = .ok (.iconst 1, 1) := by decide +kernel
theorem dX7_apart_60 : decode cX7_apart 60 = .ok (.if_icmp .gt 50, 3) := by decide +kernel
theorem dX7_apart_63 : decode cX7_apart 63 = .ok (.aload_n 0, 1) := by decide +kernel
theorem dX7_apart_64 : decode cX7_apart 64 = .ok (.iload_n 1, 1) := by decide +kernel
theorem dX7_apart_65 : decode cX7_apart 65 = .ok (.iload_n 2, 1) := by decide +kernel
theorem dX7_apart_66 : decode cX7_apart 66 = .ok (.iload 7, 2) := by decide +kernel
theorem dX7_apart_68 : decode cX7_apart 68 = .ok (.iload 6, 2) := by decide +kernel
theorem dX7_apart_70 : decode cX7_apart 70 = .ok (.imul, 1) := by decide +kernel
theorem dX7_apart_71 : decode cX7_apart 71 = .ok (.iload 5, 2) := by decide +kernel
theorem dX7_apart_73 : decode cX7_apart 73 = .ok (.invokevirtual 243, 3) := by decide +kernel
theorem dX7_apart_76 : decode cX7_apart 76 = .ok (.ifCond .ne 28, 3) := by decide +kernel
theorem dX7_apart_79 : decode cX7_apart 79 = .ok (.iload_n 3, 1) := by decide +kernel
theorem dX7_apart_80 : decode cX7_apart 80 = .ok (.ifCond .ne 8, 3) := by decide +kernel
theorem dX7_apart_83 : decode cX7_apart 83 = .ok (.iload 4, 2) := by decide +kernel
theorem dX7_apart_85 : decode cX7_apart 85 = .ok (.goto 18, 3) := by decide +kernel
theorem dX7_apart_88 : decode cX7_apart 88 = .ok (.iload_n 3, 1) := by decide +kernel
theorem dX7_apart_89 : decode cX7_apart 89 = .ok (.iconst 1, 1) := by decide +kernel
theorem dX7_apart_90 : decode cX7_apart 90 = .ok (.if_icmp .ne 11, 3) := by decide +kernel
theorem dX7_apart_93 : decode cX7_apart 93 = .ok (.iload 7, 2) := by decide +kernel
theorem dX7_apart_95 : decode cX7_apart 95 = .ok (.iload 6, 2) := by decide +kernel
theorem dX7_apart_97 : decode cX7_apart 97 = .ok (.imul, 1) := by decide +kernel
theorem dX7_apart_98 : decode cX7_apart 98 = .ok (.goto 5, 3) := by decide +kernel
theorem dX7_apart_101 : decode cX7_apart 101 = .ok (.iload 5, 2) := by decide +kernel
theorem dX7_apart_103 : decode cX7_apart 103 = .ok (.ireturn, 1) := by decide +kernel
theorem dX7_apart_104 : decode cX7_apart 104 = .ok (.iinc 7 2, 3) := by decide +kernel
theorem dX7_apart_107 : decode cX7_apart 107 = .ok (.goto (-50), 3) := by decide +kernel
theorem dX7_apart_110 : decode cX7_apart 110 = .ok (.iinc 5 1, 3) := by decide +kernel
theorem dX7_apart_113 : decode cX7_apart 113 = .ok (.goto (-76), 3) := by decide +kernel
theorem dX7_apart_116 : decode cX7_apart 116 = .ok (.iinc 4 1, 3) := by decide +kernel
theorem dX7_apart_119 : decode cX7_apart 119 = .ok (.goto (-87), 3) := by decide +kernel
theorem dX7_joinsIsland_0 : decode cX7_joinsIsland 0 = .ok (.iload_n 2, 1) := by decide +kernel
theorem dX7_joinsIsland_1 : decode cX7_joinsIsland 1 = .ok (.i2l, 1) := by decide +kernel
theorem dX7_joinsIsland_2 : decode cX7_joinsIsland 2 = .ok (.lconst 0, 1) := by decide +kernel
theorem dX7_joinsIsland_3 : decode cX7_joinsIsland 3 = .ok (.aload_n 0, 1) := by decide +kernel
theorem dX7_joinsIsland_4 : decode cX7_joinsIsland 4 = .ok (.iload_n 1, 1) := by decide +kernel
theorem dX7_joinsIsland_5 : decode cX7_joinsIsland 5 = .ok (.invokevirtual 202, 3) := by decide +kernel
theorem dX7_joinsIsland_8 : decode cX7_joinsIsland 8 = .ok (.iconst 1, 1) := by decide +kernel
theorem dX7_joinsIsland_9 : decode cX7_joinsIsland 9 = .ok (.isub, 1) := by decide +kernel
theorem dX7_joinsIsland_10 : decode cX7_joinsIsland 10 = .ok (.i2l, 1) := by decide +kernel
theorem dX7_joinsIsland_11 : decode cX7_joinsIsland 11 = .ok (.invokestatic 96, 3) := by decide +kernel
theorem dX7_joinsIsland_14 : decode cX7_joinsIsland 14 = .ok (.ifCond .eq 47, 3) := by decide +kernel
theorem dX7_joinsIsland_17 : decode cX7_joinsIsland 17 = .ok (.iload_n 3, 1) := by decide +kernel
theorem dX7_joinsIsland_18 : decode cX7_joinsIsland 18 = .ok (.i2l, 1) := by decide +kernel
theorem dX7_joinsIsland_19 : decode cX7_joinsIsland 19 = .ok (.lconst 0, 1) := by decide +kernel
theorem dX7_joinsIsland_20 : decode cX7_joinsIsland 20 = .ok (.aload_n 0, 1) := by decide +kernel
theorem dX7_joinsIsland_21 : decode cX7_joinsIsland 21 = .ok (.iload_n 1, 1) := by decide +kernel
theorem dX7_joinsIsland_22 : decode cX7_joinsIsland 22 = .ok (.invokevirtual 205, 3) := by decide +kernel
theorem dX7_joinsIsland_25 : decode cX7_joinsIsland 25 = .ok (.iconst 1, 1) := by decide +kernel
theorem dX7_joinsIsland_26 : decode cX7_joinsIsland 26 = .ok (.isub, 1) := by decide +kernel
theorem dX7_joinsIsland_27 : decode cX7_joinsIsland 27 = .ok (.i2l, 1) := by decide +kernel
theorem dX7_joinsIsland_28 : decode cX7_joinsIsland 28 = .ok (.invokestatic 96, 3) := by decide +kernel
theorem dX7_joinsIsland_31 : decode cX7_joinsIsland 31 = .ok (.ifCond .eq 30, 3) := by decide +kernel
theorem dX7_joinsIsland_34 : decode cX7_joinsIsland 34 = .ok (.aload_n 0, 1) := by decide +kernel
theorem dX7_joinsIsland_35 : decode cX7_joinsIsland 35 = .ok (.getfield 58, 3) := by decide +kernel
theorem dX7_joinsIsland_38 : decode cX7_joinsIsland 38 = .ok (.bipush 100, 2) := by decide +kernel
theorem dX7_joinsIsland_40 : decode cX7_joinsIsland 40 = .ok (.iload_n 3, 1) := by decide +kernel
theorem dX7_joinsIsland_41 : decode cX7_joinsIsland 41 = .ok (.imul, 1) := by decide +kernel
theorem dX7_joinsIsland_42 : decode cX7_joinsIsland 42 = .ok (.iload_n 2, 1) := by decide +kernel
theorem dX7_joinsIsland_43 : decode cX7_joinsIsland 43 = .ok (.iadd, 1) := by decide +kernel
theorem dX7_joinsIsland_44 : decode cX7_joinsIsland 44 = .ok (.iaload, 1) := by decide +kernel
theorem dX7_joinsIsland_45 : decode cX7_joinsIsland 45 = .ok (.iconst (-1), 1) := by decide +kernel
theorem dX7_joinsIsland_46 : decode cX7_joinsIsland 46 = .ok (.if_icmp .ne 15, 3) := by decide +kernel
theorem dX7_joinsIsland_49 : decode cX7_joinsIsland 49 = .ok (.aload_n 0, 1) := by decide +kernel
theorem dX7_joinsIsland_50 : decode cX7_joinsIsland 50 = .ok (.iload_n 1, 1) := by decide +kernel
theorem dX7_joinsIsland_51 : decode cX7_joinsIsland 51 = .ok (.iload_n 2, 1) := by decide +kernel
theorem dX7_joinsIsland_52 : decode cX7_joinsIsland 52 = .ok (.iload_n 3, 1) := by decide +kernel
theorem dX7_joinsIsland_53 : decode cX7_joinsIsland 53 = .ok (.invokevirtual 215, 3) := by decide +kernel
theorem dX7_joinsIsland_56 : decode cX7_joinsIsland 56 = .ok (.iload 4, 2) := by decide +kernel
theorem dX7_joinsIsland_58 : decode cX7_joinsIsland 58 = .ok (.if_icmp .eq 4, 3) := by decide +kernel
theorem dX7_joinsIsland_61 : decode cX7_joinsIsland 61 = .ok (.return_, 1) := by decide +kernel
theorem dX7_joinsIsland_62 : decode cX7_joinsIsland 62 = .ok (.aload_n 0, 1) := by decide +kernel
theorem dX7_joinsIsland_63 : decode cX7_joinsIsland 63 = .ok (.getfield 58, 3) := by decide +kernel
theorem dX7_joinsIsland_66 : decode cX7_joinsIsland 66 = .ok (.bipush 100, 2) := by decide +kernel
theorem dX7_joinsIsland_68 : decode cX7_joinsIsland 68 = .ok (.iload_n 3, 1) := by decide +kernel
theorem dX7_joinsIsland_69 : decode cX7_joinsIsland 69 = .ok (.imul, 1) := by decide +kernel
theorem dX7_joinsIsland_70 : decode cX7_joinsIsland 70 = .ok (.iload_n 2, 1) := by decide +kernel
theorem dX7_joinsIsland_71 : decode cX7_joinsIsland 71 = .ok (.iadd, 1) := by decide +kernel
theorem dX7_joinsIsland_72 : decode cX7_joinsIsland 72 = .ok (.aload_n 0, 1) := by decide +kernel
theorem dX7_joinsIsland_73 : decode cX7_joinsIsland 73 = .ok (.getfield 355, 3) := by decide +kernel
theorem dX7_joinsIsland_76 : decode cX7_joinsIsland 76 = .ok (.iastore, 1) := by decide +kernel
theorem dX7_joinsIsland_77 : decode cX7_joinsIsland 77 = .ok (.aload_n 0, 1) := by decide +kernel
theorem dX7_joinsIsland_78 : decode cX7_joinsIsland 78 = .ok (.getfield 61, 3) := by decide +kernel
theorem dX7_joinsIsland_81 : decode cX7_joinsIsland 81 = .ok (.aload_n 0, 1) := by decide +kernel
theorem dX7_joinsIsland_82 : decode cX7_joinsIsland 82 = .ok (.getfield 358, 3) := by decide +kernel
theorem dX7_joinsIsland_85 : decode cX7_joinsIsland 85 = .ok (.bipush 100, 2) := by decide +kernel
theorem dX7_joinsIsland_87 : decode cX7_joinsIsland 87 = .ok (.iload_n 3, 1) := by decide +kernel
theorem dX7_joinsIsland_88 : decode cX7_joinsIsland 88 = .ok (.imul, 1) := by decide +kernel
theorem dX7_joinsIsland_89 : decode cX7_joinsIsland 89 = .ok (.iload_n 2, 1) := by decide +kernel
theorem dX7_joinsIsland_90 : decode cX7_joinsIsland 90 = .ok (.iadd, 1) := by decide +kernel
theorem dX7_joinsIsland_91 : decode cX7_joinsIsland 91 = .ok (.iastore, 1) := by decide +kernel
theorem dX7_joinsIsland_92 : decode cX7_joinsIsland 92 = .ok (.aload_n 0, 1) := by decide +kernel
theorem dX7_joinsIsland_93 : decode cX7_joinsIsland 93 = .ok (.dup, 1) := by decide +kernel
theorem dX7_joinsIsland_94 : decode cX7_joinsIsland 94 = .ok (.getfield 358, 3) := by decide +kernel
theorem dX7_joinsIsland_97 : decode cX7_joinsIsland 97 = .ok (.iconst 1, 1) := by decide +kernel
theorem dX7_joinsIsland_98 : decode cX7_joinsIsland 98 = .ok (.iadd, 1) := by decide +kernel
theorem dX7_joinsIsland_99 : decode cX7_joinsIsland 99 = .ok (.putfield 358, 3) := by decide +kernel
theorem dX7_joinsIsland_102 : decode cX7_joinsIsland 102 = .ok (.return_, 1) := by decide +kernel
theorem dX7_laysIslands_0 : decode cX7_laysIslands 0 = .ok (.iconst 0, 1) := by decide +kernel
theorem dX7_laysIslands_1 : decode cX7_laysIslands 1 = .ok (.istore_n 3, 1) := by decide +kernel
theorem dX7_laysIslands_2 : decode cX7_laysIslands 2 = .ok (.iload_n 3, 1) := by decide +kernel
theorem dX7_laysIslands_3 : decode cX7_laysIslands 3 = .ok (.sipush 4000, 3) := by decide +kernel
theorem dX7_laysIslands_6 : decode cX7_laysIslands 6 = .ok (.if_icmp .ge 16, 3) := by decide +kernel
theorem dX7_laysIslands_9 : decode cX7_laysIslands 9 = .ok (.aload_n 0, 1) := by decide +kernel
theorem dX7_laysIslands_10 : decode cX7_laysIslands 10 = .ok (.getfield 58, 3) := by decide +kernel
theorem dX7_laysIslands_13 : decode cX7_laysIslands 13 = .ok (.iload_n 3, 1) := by decide +kernel
theorem dX7_laysIslands_14 : decode cX7_laysIslands 14 = .ok (.iconst (-1), 1) := by decide +kernel
theorem dX7_laysIslands_15 : decode cX7_laysIslands 15 = .ok (.iastore, 1) := by decide +kernel
theorem dX7_laysIslands_16 : decode cX7_laysIslands 16 = .ok (.iinc 3 1, 3) := by decide +kernel
theorem dX7_laysIslands_19 : decode cX7_laysIslands 19 = .ok (.goto (-17), 3) := by decide +kernel
theorem dX7_laysIslands_22 : decode cX7_laysIslands 22 = .ok (.aload_n 0, 1) := by decide +kernel
theorem dX7_laysIslands_23 : decode cX7_laysIslands 23 = .ok (.iconst 0, 1) := by decide +kernel
theorem dX7_laysIslands_24 : decode cX7_laysIslands 24 = .ok (.putfield 355, 3) := by decide +kernel
theorem dX7_laysIslands_27 : decode cX7_laysIslands 27 = .ok (.iconst 0, 1) := by decide +kernel
theorem dX7_laysIslands_28 : decode cX7_laysIslands 28 = .ok (.istore_n 3, 1) := by decide +kernel
theorem dX7_laysIslands_29 : decode cX7_laysIslands 29 = .ok (.iload_n 3, 1) := by decide +kernel
theorem dX7_laysIslands_30 : decode cX7_laysIslands 30 = .ok (.aload_n 0, 1) := by decide +kernel
theorem dX7_laysIslands_31 : decode cX7_laysIslands 31 = .ok (.iload_n 1, 1) := by decide +kernel
theorem dX7_laysIslands_32 : decode cX7_laysIslands 32 = .ok (.invokevirtual 205, 3) := by decide +kernel
theorem dX7_laysIslands_35 : decode cX7_laysIslands 35 = .ok (.if_icmp .ge 156, 3) := by decide +kernel
theorem dX7_laysIslands_38 : decode cX7_laysIslands 38 = .ok (.iconst 0, 1) := by decide +kernel
theorem dX7_laysIslands_39 : decode cX7_laysIslands 39 = .ok (.istore 4, 2) := by decide +kernel
theorem dX7_laysIslands_41 : decode cX7_laysIslands 41 = .ok (.iload 4, 2) := by decide +kernel
theorem dX7_laysIslands_43 : decode cX7_laysIslands 43 = .ok (.aload_n 0, 1) := by decide +kernel
theorem dX7_laysIslands_44 : decode cX7_laysIslands 44 = .ok (.iload_n 1, 1) := by decide +kernel
theorem dX7_laysIslands_45 : decode cX7_laysIslands 45 = .ok (.invokevirtual 202, 3) := by decide +kernel
theorem dX7_laysIslands_48 : decode cX7_laysIslands 48 = .ok (.if_icmp .ge 137, 3) := by decide +kernel
theorem dX7_laysIslands_51 : decode cX7_laysIslands 51 = .ok (.aload_n 0, 1) := by decide +kernel
theorem dX7_laysIslands_52 : decode cX7_laysIslands 52 = .ok (.iconst 0, 1) := by decide +kernel
theorem dX7_laysIslands_53 : decode cX7_laysIslands 53 = .ok (.putfield 358, 3) := by decide +kernel
theorem dX7_laysIslands_56 : decode cX7_laysIslands 56 = .ok (.aload_n 0, 1) := by decide +kernel
theorem dX7_laysIslands_57 : decode cX7_laysIslands 57 = .ok (.iload_n 1, 1) := by decide +kernel
theorem dX7_laysIslands_58 : decode cX7_laysIslands 58 = .ok (.iload 4, 2) := by decide +kernel
theorem dX7_laysIslands_60 : decode cX7_laysIslands 60 = .ok (.iload_n 3, 1) := by decide +kernel
theorem dX7_laysIslands_61 : decode cX7_laysIslands 61 = .ok (.iload_n 2, 1) := by decide +kernel
theorem dX7_laysIslands_62 : decode cX7_laysIslands 62 = .ok (.invokevirtual 361, 3) := by decide +kernel
theorem dX7_laysIslands_65 : decode cX7_laysIslands 65 = .ok (.iconst 0, 1) := by decide +kernel
theorem dX7_laysIslands_66 : decode cX7_laysIslands 66 = .ok (.istore 5, 2) := by decide +kernel
theorem dX7_laysIslands_68 : decode cX7_laysIslands 68 = .ok (.iload 5, 2) := by decide +kernel
theorem dX7_laysIslands_70 : decode cX7_laysIslands 70 = .ok (.aload_n 0, 1) := by decide +kernel
theorem dX7_laysIslands_71 : decode cX7_laysIslands 71 = .ok (.getfield 358, 3) := by decide +kernel
theorem dX7_laysIslands_74 : decode cX7_laysIslands 74 = .ok (.if_icmp .ge 81, 3) := by decide +kernel
theorem dX7_laysIslands_77 : decode cX7_laysIslands 77 = .ok (.aload_n 0, 1) := by decide +kernel
theorem dX7_laysIslands_78 : decode cX7_laysIslands 78 = .ok (.getfield 61, 3) := by decide +kernel
theorem dX7_laysIslands_81 : decode cX7_laysIslands 81 = .ok (.iload 5, 2) := by decide +kernel
theorem dX7_laysIslands_83 : decode cX7_laysIslands 83 = .ok (.iaload, 1) := by decide +kernel
theorem dX7_laysIslands_84 : decode cX7_laysIslands 84 = .ok (.bipush 100, 2) := by decide +kernel
theorem dX7_laysIslands_86 : decode cX7_laysIslands 86 = .ok (.irem, 1) := by decide +kernel
theorem dX7_laysIslands_87 : decode cX7_laysIslands 87 = .ok (.istore 6, 2) := by decide +kernel
theorem dX7_laysIslands_89 : decode cX7_laysIslands 89 = .ok (.aload_n 0, 1) := by decide +kernel
theorem dX7_laysIslands_90 : decode cX7_laysIslands 90 = .ok (.getfield 61, 3) := by decide +kernel
theorem dX7_laysIslands_93 : decode cX7_laysIslands 93 = .ok (.iload 5, 2) := by decide +kernel
theorem dX7_laysIslands_95 : decode cX7_laysIslands 95 = .ok (.iaload, 1) := by decide +kernel
theorem dX7_laysIslands_96 : decode cX7_laysIslands 96 = .ok (.bipush 100, 2) := by decide +kernel
theorem dX7_laysIslands_98 : decode cX7_laysIslands 98 = .ok (.idiv, 1) := by decide +kernel
theorem dX7_laysIslands_99 : decode cX7_laysIslands 99 = .ok (.istore 7, 2) := by decide +kernel
theorem dX7_laysIslands_101 : decode cX7_laysIslands 101 = .ok (.aload_n 0, 1) := by decide +kernel
theorem dX7_laysIslands_102 : decode cX7_laysIslands 102 = .ok (.iload_n 1, 1) := by decide +kernel
theorem dX7_laysIslands_103 : decode cX7_laysIslands 103 = .ok (.iload 6, 2) := by decide +kernel
theorem dX7_laysIslands_105 : decode cX7_laysIslands 105 = .ok (.iconst 1, 1) := by decide +kernel
theorem dX7_laysIslands_106 : decode cX7_laysIslands 106 = .ok (.isub, 1) := by decide +kernel
theorem dX7_laysIslands_107 : decode cX7_laysIslands 107 = .ok (.iload 7, 2) := by decide +kernel
theorem dX7_laysIslands_109 : decode cX7_laysIslands 109 = .ok (.iload_n 2, 1) := by decide +kernel
theorem dX7_laysIslands_110 : decode cX7_laysIslands 110 = .ok (.invokevirtual 361, 3) := by decide +kernel
theorem dX7_laysIslands_113 : decode cX7_laysIslands 113 = .ok (.aload_n 0, 1) := by decide +kernel
theorem dX7_laysIslands_114 : decode cX7_laysIslands 114 = .ok (.iload_n 1, 1) := by decide +kernel
theorem dX7_laysIslands_115 : decode cX7_laysIslands 115 = .ok (.iload 6, 2) := by decide +kernel
theorem dX7_laysIslands_117 : decode cX7_laysIslands 117 = .ok (.iconst 1, 1) := by decide +kernel
theorem dX7_laysIslands_118 : decode cX7_laysIslands 118 = .ok (.iadd, 1) := by decide +kernel
theorem dX7_laysIslands_119 : decode cX7_laysIslands 119 = .ok (.iload 7, 2) := by decide +kernel
theorem dX7_laysIslands_121 : decode cX7_laysIslands 121 = .ok (.iload_n 2, 1) := by decide +kernel
theorem dX7_laysIslands_122 : decode cX7_laysIslands 122 = .ok (.invokevirtual 361, 3) := by decide +kernel
theorem dX7_laysIslands_125 : decode cX7_laysIslands 125 = .ok (.aload_n 0, 1) := by decide +kernel
theorem dX7_laysIslands_126 : decode cX7_laysIslands 126 = .ok (.iload_n 1, 1) := by decide +kernel
theorem dX7_laysIslands_127 : decode cX7_laysIslands 127 = .ok (.iload 6, 2) := by decide +kernel
theorem dX7_laysIslands_129 : decode cX7_laysIslands 129 = .ok (.iload 7, 2) := by decide +kernel
theorem dX7_laysIslands_131 : decode cX7_laysIslands 131 = .ok (.iconst 1, 1) := by decide +kernel
theorem dX7_laysIslands_132 : decode cX7_laysIslands 132 = .ok (.isub, 1) := by decide +kernel
theorem dX7_laysIslands_133 : decode cX7_laysIslands 133 = .ok (.iload_n 2, 1) := by decide +kernel
theorem dX7_laysIslands_134 : decode cX7_laysIslands 134 = .ok (.invokevirtual 361, 3) := by decide +kernel
theorem dX7_laysIslands_137 : decode cX7_laysIslands 137 = .ok (.aload_n 0, 1) := by decide +kernel
theorem dX7_laysIslands_138 : decode cX7_laysIslands 138 = .ok (.iload_n 1, 1) := by decide +kernel
theorem dX7_laysIslands_139 : decode cX7_laysIslands 139 = .ok (.iload 6, 2) := by decide +kernel
theorem dX7_laysIslands_141 : decode cX7_laysIslands 141 = .ok (.iload 7, 2) := by decide +kernel
theorem dX7_laysIslands_143 : decode cX7_laysIslands 143 = .ok (.iconst 1, 1) := by decide +kernel
theorem dX7_laysIslands_144 : decode cX7_laysIslands 144 = .ok (.iadd, 1) := by decide +kernel
theorem dX7_laysIslands_145 : decode cX7_laysIslands 145 = .ok (.iload_n 2, 1) := by decide +kernel
theorem dX7_laysIslands_146 : decode cX7_laysIslands 146 = .ok (.invokevirtual 361, 3) := by decide +kernel
theorem dX7_laysIslands_149 : decode cX7_laysIslands 149 = .ok (.iinc 5 1, 3) := by decide +kernel
theorem dX7_laysIslands_152 : decode cX7_laysIslands 152 = .ok (.goto (-84), 3) := by decide +kernel
theorem dX7_laysIslands_155 : decode cX7_laysIslands 155 = .ok (.aload_n 0, 1) := by decide +kernel
theorem dX7_laysIslands_156 : decode cX7_laysIslands 156 = .ok (.dup, 1) := by decide +kernel
theorem dX7_laysIslands_157 : decode cX7_laysIslands 157 = .ok (.getfield 355, 3) := by decide +kernel
theorem dX7_laysIslands_160 : decode cX7_laysIslands 160 = .ok (.aload_n 0, 1) := by decide +kernel
theorem dX7_laysIslands_161 : decode cX7_laysIslands 161 = .ok (.getfield 358, 3) := by decide +kernel
theorem dX7_laysIslands_164 : decode cX7_laysIslands 164 = .ok (.ifCond .le 7, 3) := by decide +kernel
theorem dX7_laysIslands_167 : decode cX7_laysIslands 167 = .ok (.iconst 1, 1) := by decide +kernel
theorem dX7_laysIslands_168 : decode cX7_laysIslands 168 = .ok (.goto 4, 3) := by decide +kernel
theorem dX7_laysIslands_171 : decode cX7_laysIslands 171 = .ok (.iconst 0, 1) := by decide +kernel
theorem dX7_laysIslands_172 : decode cX7_laysIslands 172 = .ok (.invokestatic 127, 3) := by decide +kernel
theorem dX7_laysIslands_175 : decode cX7_laysIslands 175 = .ok (.iadd, 1) := by decide +kernel
theorem dX7_laysIslands_176 : decode cX7_laysIslands 176 = .ok (.putfield 355, 3) := by decide +kernel
theorem dX7_laysIslands_179 : decode cX7_laysIslands 179 = .ok (.iinc 4 1, 3) := by decide +kernel
theorem dX7_laysIslands_182 : decode cX7_laysIslands 182 = .ok (.goto (-141), 3) := by decide +kernel
theorem dX7_laysIslands_185 : decode cX7_laysIslands 185 = .ok (.iinc 3 1, 3) := by decide +kernel
theorem dX7_laysIslands_188 : decode cX7_laysIslands 188 = .ok (.goto (-159), 3) := by decide +kernel
theorem dX7_laysIslands_191 : decode cX7_laysIslands 191 = .ok (.return_, 1) := by decide +kernel
theorem dX7_seen_0 : decode cX7_seen 0 = .ok (.aload_n 0, 1) := by decide +kernel
theorem dX7_seen_1 : decode cX7_seen 1 = .ok (.iload_n 1, 1) := by decide +kernel
theorem dX7_seen_2 : decode cX7_seen 2 = .ok (.iload_n 2, 1) := by decide +kernel
theorem dX7_seen_3 : decode cX7_seen 3 = .ok (.invokevirtual 382, 3) := by decide +kernel
theorem dX7_seen_6 : decode cX7_seen 6 = .ok (.ifCond .eq 11, 3) := by decide +kernel
theorem dX7_seen_9 : decode cX7_seen 9 = .ok (.aload_n 0, 1) := by decide +kernel
theorem dX7_seen_10 : decode cX7_seen 10 = .ok (.iload_n 1, 1) := by decide +kernel
theorem dX7_seen_11 : decode cX7_seen 11 = .ok (.invokevirtual 391, 3) := by decide +kernel
theorem dX7_seen_14 : decode cX7_seen 14 = .ok (.ifCond .ne 5, 3) := by decide +kernel
theorem dX7_seen_17 : decode cX7_seen 17 = .ok (.iconst (-1), 1) := by decide +kernel
theorem dX7_seen_18 : decode cX7_seen 18 = .ok (.ireturn, 1) := by decide +kernel
theorem dX7_seen_19 : decode cX7_seen 19 = .ok (.aload_n 0, 1) := by decide +kernel
theorem dX7_seen_20 : decode cX7_seen 20 = .ok (.getfield 64, 3) := by decide +kernel
theorem dX7_seen_23 : decode cX7_seen 23 = .ok (.iconst 0, 1) := by decide +kernel
theorem dX7_seen_24 : decode cX7_seen 24 = .ok (.iaload, 1) := by decide +kernel
theorem dX7_seen_25 : decode cX7_seen 25 = .ok (.aload_n 0, 1) := by decide +kernel
theorem dX7_seen_26 : decode cX7_seen 26 = .ok (.getfield 64, 3) := by decide +kernel
theorem dX7_seen_29 : decode cX7_seen 29 = .ok (.iconst 2, 1) := by decide +kernel
theorem dX7_seen_30 : decode cX7_seen 30 = .ok (.iaload, 1) := by decide +kernel
theorem dX7_seen_31 : decode cX7_seen 31 = .ok (.iadd, 1) := by decide +kernel
theorem dX7_seen_32 : decode cX7_seen 32 = .ok (.iconst 2, 1) := by decide +kernel
theorem dX7_seen_33 : decode cX7_seen 33 = .ok (.invokestatic 253, 3) := by decide +kernel
theorem dX7_seen_36 : decode cX7_seen 36 = .ok (.istore_n 3, 1) := by decide +kernel
theorem dX7_seen_37 : decode cX7_seen 37 = .ok (.aload_n 0, 1) := by decide +kernel
theorem dX7_seen_38 : decode cX7_seen 38 = .ok (.getfield 64, 3) := by decide +kernel
theorem dX7_seen_41 : decode cX7_seen 41 = .ok (.iconst 1, 1) := by decide +kernel
theorem dX7_seen_42 : decode cX7_seen 42 = .ok (.iaload, 1) := by decide +kernel
theorem dX7_seen_43 : decode cX7_seen 43 = .ok (.aload_n 0, 1) := by decide +kernel
theorem dX7_seen_44 : decode cX7_seen 44 = .ok (.getfield 64, 3) := by decide +kernel
theorem dX7_seen_47 : decode cX7_seen 47 = .ok (.iconst 3, 1) := by decide +kernel
theorem dX7_seen_48 : decode cX7_seen 48 = .ok (.iaload, 1) := by decide +kernel
theorem dX7_seen_49 : decode cX7_seen 49 = .ok (.iadd, 1) := by decide +kernel
theorem dX7_seen_50 : decode cX7_seen 50 = .ok (.iconst 2, 1) := by decide +kernel
theorem dX7_seen_51 : decode cX7_seen 51 = .ok (.invokestatic 253, 3) := by decide +kernel
theorem dX7_seen_54 : decode cX7_seen 54 = .ok (.istore 4, 2) := by decide +kernel
theorem dX7_seen_56 : decode cX7_seen 56 = .ok (.aload_n 0, 1) := by decide +kernel
theorem dX7_seen_57 : decode cX7_seen 57 = .ok (.iload_n 2, 1) := by decide +kernel
theorem dX7_seen_58 : decode cX7_seen 58 = .ok (.invokevirtual 391, 3) := by decide +kernel
theorem dX7_seen_61 : decode cX7_seen 61 = .ok (.ifCond .ne 5, 3) := by decide +kernel
theorem dX7_seen_64 : decode cX7_seen 64 = .ok (.iconst (-1), 1) := by decide +kernel
theorem dX7_seen_65 : decode cX7_seen 65 = .ok (.ireturn, 1) := by decide +kernel
theorem dX7_seen_66 : decode cX7_seen 66 = .ok (.aload_n 0, 1) := by decide +kernel
theorem dX7_seen_67 : decode cX7_seen 67 = .ok (.getfield 64, 3) := by decide +kernel
theorem dX7_seen_70 : decode cX7_seen 70 = .ok (.iconst 0, 1) := by decide +kernel
theorem dX7_seen_71 : decode cX7_seen 71 = .ok (.iaload, 1) := by decide +kernel
theorem dX7_seen_72 : decode cX7_seen 72 = .ok (.aload_n 0, 1) := by decide +kernel
theorem dX7_seen_73 : decode cX7_seen 73 = .ok (.getfield 64, 3) := by decide +kernel
theorem dX7_seen_76 : decode cX7_seen 76 = .ok (.iconst 2, 1) := by decide +kernel
theorem dX7_seen_77 : decode cX7_seen 77 = .ok (.iaload, 1) := by decide +kernel
theorem dX7_seen_78 : decode cX7_seen 78 = .ok (.iadd, 1) := by decide +kernel
theorem dX7_seen_79 : decode cX7_seen 79 = .ok (.iconst 2, 1) := by decide +kernel
theorem dX7_seen_80 : decode cX7_seen 80 = .ok (.invokestatic 253, 3) := by decide +kernel
theorem dX7_seen_83 : decode cX7_seen 83 = .ok (.iload_n 3, 1) := by decide +kernel
theorem dX7_seen_84 : decode cX7_seen 84 = .ok (.isub, 1) := by decide +kernel
theorem dX7_seen_85 : decode cX7_seen 85 = .ok (.istore 5, 2) := by decide +kernel
theorem dX7_seen_87 : decode cX7_seen 87 = .ok (.aload_n 0, 1) := by decide +kernel
theorem dX7_seen_88 : decode cX7_seen 88 = .ok (.getfield 64, 3) := by decide +kernel
theorem dX7_seen_91 : decode cX7_seen 91 = .ok (.iconst 1, 1) := by decide +kernel
theorem dX7_seen_92 : decode cX7_seen 92 = .ok (.iaload, 1) := by decide +kernel
theorem dX7_seen_93 : decode cX7_seen 93 = .ok (.aload_n 0, 1) := by decide +kernel
theorem dX7_seen_94 : decode cX7_seen 94 = .ok (.getfield 64, 3) := by decide +kernel
theorem dX7_seen_97 : decode cX7_seen 97 = .ok (.iconst 3, 1) := by decide +kernel
theorem dX7_seen_98 : decode cX7_seen 98 = .ok (.iaload, 1) := by decide +kernel
theorem dX7_seen_99 : decode cX7_seen 99 = .ok (.iadd, 1) := by decide +kernel
theorem dX7_seen_100 : decode cX7_seen 100 = .ok (.iconst 2, 1) := by decide +kernel
theorem dX7_seen_101 : decode cX7_seen 101 = .ok (.invokestatic 253, 3) := by decide +kernel
theorem dX7_seen_104 : decode cX7_seen 104 = .ok (.iload 4, 2) := by decide +kernel
theorem dX7_seen_106 : decode cX7_seen 106 = .ok (.isub, 1) := by decide +kernel
theorem dX7_seen_107 : decode cX7_seen 107 = .ok (.istore 6, 2) := by decide +kernel
theorem dX7_seen_109 : decode cX7_seen 109 = .ok (.iload 5, 2) := by decide +kernel
theorem dX7_seen_111 : decode cX7_seen 111 = .ok (.iload 6, 2) := by decide +kernel
theorem dX7_seen_113 : decode cX7_seen 113 = .ok (.invokestatic 260, 3) := by decide +kernel
theorem dX7_seen_116 : decode cX7_seen 116 = .ok (.istore 7, 2) := by decide +kernel
theorem dX7_seen_118 : decode cX7_seen 118 = .ok (.iconst 0, 1) := by decide +kernel
theorem dX7_seen_119 : decode cX7_seen 119 = .ok (.istore 8, 2) := by decide +kernel
theorem dX7_seen_121 : decode cX7_seen 121 = .ok (.iconst 0, 1) := by decide +kernel
theorem dX7_seen_122 : decode cX7_seen 122 = .ok (.istore 9, 2) := by decide +kernel
theorem dX7_seen_124 : decode cX7_seen 124 = .ok (.iload 9, 2) := by decide +kernel
theorem dX7_seen_126 : decode cX7_seen 126 = .ok (.iload 7, 2) := by decide +kernel
theorem dX7_seen_128 : decode cX7_seen 128 = .ok (.if_icmp .gt 68, 3) := by decide +kernel
theorem dX7_seen_131 : decode cX7_seen 131 = .ok (.aload_n 0, 1) := by decide +kernel
theorem dX7_seen_132 : decode cX7_seen 132 = .ok (.iload_n 3, 1) := by decide +kernel
theorem dX7_seen_133 : decode cX7_seen 133 = .ok (.iload 9, 2) := by decide +kernel
theorem dX7_seen_135 : decode cX7_seen 135 = .ok (.iload 5, 2) := by decide +kernel
theorem dX7_seen_137 : decode cX7_seen 137 = .ok (.iload 7, 2) := by decide +kernel
theorem dX7_seen_139 : decode cX7_seen 139 = .ok (.invokestatic 269, 3) := by decide +kernel
theorem dX7_seen_142 : decode cX7_seen 142 = .ok (.iadd, 1) := by decide +kernel
theorem dX7_seen_143 : decode cX7_seen 143 = .ok (.iload 4, 2) := by decide +kernel
theorem dX7_seen_145 : decode cX7_seen 145 = .ok (.iload 9, 2) := by decide +kernel
theorem dX7_seen_147 : decode cX7_seen 147 = .ok (.iload 6, 2) := by decide +kernel
theorem dX7_seen_149 : decode cX7_seen 149 = .ok (.iload 7, 2) := by decide +kernel
theorem dX7_seen_151 : decode cX7_seen 151 = .ok (.invokestatic 269, 3) := by decide +kernel
theorem dX7_seen_154 : decode cX7_seen 154 = .ok (.iadd, 1) := by decide +kernel
theorem dX7_seen_155 : decode cX7_seen 155 = .ok (.invokevirtual 399, 3) := by decide +kernel
theorem dX7_seen_158 : decode cX7_seen 158 = .ok (.istore 10, 2) := by decide +kernel
theorem dX7_seen_160 : decode cX7_seen 160 = .ok (.iload 8, 2) := by decide +kernel
theorem dX7_seen_162 : decode cX7_seen 162 = .ok (.iload 10, 2) := by decide +kernel
theorem dX7_seen_164 : decode cX7_seen 164 = .ok (.iconst 1, 1) := by decide +kernel
theorem dX7_seen_165 : decode cX7_seen 165 = .ok (.iload_n 1, 1) := by decide +kernel
theorem dX7_seen_166 : decode cX7_seen 166 = .ok (.ishl, 1) := by decide +kernel
theorem dX7_seen_167 : decode cX7_seen 167 = .ok (.iconst (-1), 1) := by decide +kernel
theorem dX7_seen_168 : decode cX7_seen 168 = .ok (.ixor, 1) := by decide +kernel
theorem dX7_seen_169 : decode cX7_seen 169 = .ok (.iand, 1) := by decide +kernel
theorem dX7_seen_170 : decode cX7_seen 170 = .ok (.iconst 1, 1) := by decide +kernel
theorem dX7_seen_171 : decode cX7_seen 171 = .ok (.iload_n 2, 1) := by decide +kernel
theorem dX7_seen_172 : decode cX7_seen 172 = .ok (.ishl, 1) := by decide +kernel
theorem dX7_seen_173 : decode cX7_seen 173 = .ok (.iconst (-1), 1) := by decide +kernel
theorem dX7_seen_174 : decode cX7_seen 174 = .ok (.ixor, 1) := by decide +kernel
theorem dX7_seen_175 : decode cX7_seen 175 = .ok (.iand, 1) := by decide +kernel
theorem dX7_seen_176 : decode cX7_seen 176 = .ok (.ifCond .eq 7, 3) := by decide +kernel
theorem dX7_seen_179 : decode cX7_seen 179 = .ok (.iconst 1, 1) := by decide +kernel
theorem dX7_seen_180 : decode cX7_seen 180 = .ok (.goto 4, 3) := by decide +kernel
theorem dX7_seen_183 : decode cX7_seen 183 = .ok (.iconst 0, 1) := by decide +kernel
theorem dX7_seen_184 : decode cX7_seen 184 = .ok (.invokestatic 127, 3) := by decide +kernel
theorem dX7_seen_187 : decode cX7_seen 187 = .ok (.iadd, 1) := by decide +kernel
theorem dX7_seen_188 : decode cX7_seen 188 = .ok (.istore 8, 2) := by decide +kernel
theorem dX7_seen_190 : decode cX7_seen 190 = .ok (.iinc 9 1, 3) := by decide +kernel
theorem dX7_seen_193 : decode cX7_seen 193 = .ok (.goto (-69), 3) := by decide +kernel
theorem dX7_seen_196 : decode cX7_seen 196 = .ok (.iload 8, 2) := by decide +kernel
theorem dX7_seen_198 : decode cX7_seen 198 = .ok (.ireturn, 1) := by decide +kernel
set_option maxRecDepth 100000 in
theorem pq58 : Cond.selects RX7 yX7_joinsIsland yX7_joinsIsland ∈ pw := pw_mem (i := 58) (by decide +kernel) rfl
set_option maxRecDepth 100000 in
theorem pq1136 : Cond.fieldLink RX7 58 "MaskTouchModel" "island" "[I" ∈ pw := pw_mem (i := 1136) (by decide +kernel) rfl
set_option maxRecDepth 100000 in
theorem pq1137 : Cond.fieldLink RX7 61 "MaskTouchModel" "queue" "[I" ∈ pw := pw_mem (i := 1137) (by decide +kernel) rfl
set_option maxRecDepth 100000 in
theorem pq1138 : Cond.fieldLink RX7 355 "MaskTouchModel" "islands" "I" ∈ pw := pw_mem (i := 1138) (by decide +kernel) rfl
set_option maxRecDepth 100000 in
theorem pq1139 : Cond.fieldLink RX7 358 "MaskTouchModel" "queued" "I" ∈ pw := pw_mem (i := 1139) (by decide +kernel) rfl
set_option maxRecDepth 100000 in
theorem pq1538 : Cond.methodLink RX7 361 yX7_joinsIsland ∈ pw := pw_mem (i := 1538) (by decide +kernel) rfl
set_option maxRecDepth 100000 in
theorem pq1540 : Cond.instanceMethod yX7_joinsIsland ∈ pw := pw_mem (i := 1540) (by decide +kernel) rfl
set_option maxRecDepth 100000 in
theorem pq1541 : Cond.code yX7_joinsIsland cX7_joinsIsland 5 none ∈ pw := pw_mem (i := 1541) (by rfl) rfl
set_option maxHeartbeats 4000000 in
set_option maxRecDepth 100000 in
theorem s_X7_seen (l : Launch) (dC : Nat → ClassId) (dI : Nat → Nat → Nat) (cs : Nat → ClassId) (L : List Nat) (K G : Nat → Nat) (Q : Nat → Nat → Option Nat) (hQ : Sv L K G Q) (x0 m0 : Nat) (tx : GT) (tm : GT × Int) (sz : Nat) (I : Nat → Nat → Int32) (J : Nat → Nat → Int64) (hI : Iv L K x0 m0 tx tm I) (p0 : Nat) (hLp0 : p0 ∈ L) (hKp0 : K p0 = 7) (p1 : Int32) (p2 : Int32) : Met l yX7_seen (.code yX7_seen cX7_seen 11 (some .int) :: pw) ({ frames := 4, cells := 0, slots := 0, locals := 99 }) (sP (dC, dI) cs [.ref p0, .int p1, .int p2] sz L K I J Q) (va_Qi (fun (r : Int32) (_ : Unit) => (∀ σ : Sx, okF σ.1 → cmA Q I J p0 σ → snE σ p1 p2 r)) (fun _ t => sB (dC, dI) cs L K Q (fun I1 J1 => Iv L K x0 m0 tx tm I1 ∧ (∀ b, ¬ (K b = 26 ∨ K b = 29) → I1 b = I b) ∧ I1 p0 11 = I p0 11 ∧ (∀ b, K b = 0 ∨ K b = 1 ∨ K b = 3 ∨ K b = 6 → I1 b = I b) ∧ (∀ σ : Sx, cmA Q I J p0 σ → cmA Q I1 J1 p0 σ) ∧ J1 = J) t) (fun q => q ∈ L ∨ sz ≤ q)) 0 0 (fun q => q ∈ L ∨ sz ≤ q) := by
  refine Met.ofW (cc := cX7_seen) (maxL := 11) (ret := (some .int)) (by decide +kernel) rfl ?_
  intro p e s m args below meth c s₁ B hml hv
  obtain ⟨rfl, hsz, hP, hK, hD0, hN⟩ := hv
  have hx := B.exec
  have hb := B.bytes
  have hr := B.returns
  have hts := fun w (h : w ∈ pw) => atoms_spec (ws := Cond.code yX7_seen cX7_seen 11 (some .int) :: pw) B.pre w (List.mem_cons_of_mem _ h)
  have hown : s.vm.findClass RX7 = some m.cls := findClass_of_methodNamed B.named
  have hlocks := B.notSynchronized
  subst hsz
  have hBB : 999 ≤ tm.2 ∧ tm.2 ≤ 6000000 := hI.2.2.2.2.1
  have dn_I : (∀ b, K b = 0 ∨ K b = 1 ∨ K b = 3 ∨ K b = 6 → I b = I b) := fun _ _ => rfl
  have dj_J : J = J := rfl
  have kp0_11_I : I p0 11 = I p0 11 := rfl
  have fr_I : ∀ b, ¬ (K b = 26 ∨ K b = 29) → I b = I b := fun _ _ => rfl
  obtain ⟨A, hAe⟩ : ∃ A : Nat → Prop, A = (fun q => q ∈ L ∨ s.heap.size ≤ q) := ⟨_, rfl⟩
  rw [← hAe]
  have hAL : ∀ q, q ∈ L → A q := fun q h => by rw [hAe]; exact Or.inl h
  have hA : ∀ q, s.heap.size ≤ q → A q := fun q h => by rw [hAe]; exact Or.inr h
  have hD : ∀ F, va_D A (va_pl L F) := fun F => (hD0 F).weaken (fun k q hk _ => hAL _ (pl_mem hk))
  obtain ⟨H, hHe⟩ : ∃ H : Heap, H = s.heap := ⟨_, rfl⟩
  have hS : va_S A s.heap H [] := by rw [hHe]; exact va_S.rf
  rw [← hHe] at hP
  have hl := lv_entry ([.ref p0, .int p1, .int p2]) (n := 11) (Nat.le_of_ble_eq_true rfl)
  rw [lg_entry_eq]
  generalize (lg_sl ([.ref p0, .int p1, .int p2]) ++ List.replicate (11 - (lg_sl ([.ref p0, .int p1, .int p2])).length) Slot.unset).toArray = ls at hl ⊢
  have hl : lv_has ls 11 [(0, .ref p0), (1, .int p1), (2, .int p2)] := hl
  rw [← hHe]
  refine namedW (fun R Qz hR hQz => ?_)
  refine lv_aload_n hx hb dX7_seen_0 rfl (lv_at hl 0 rfl) ?_
  refine lv_iload_n hx hb dX7_seen_1 rfl (lv_at hl 1 rfl) ?_
  refine lv_iload_n hx hb dX7_seen_2 rfl (lv_at hl 2 rfl) ?_
  refine ro_i (va_runV (As := [.int p1, .int p2]) (rest := []) ⟨hx, hb, hml, hown, hts⟩ (s_X7_areTwo l dC dI cs L K G Q hQ x0 m0 tx tm H.size I J hI p0 hLp0 hKp0 p1 p2) (cwV 2 hts (gV pq1571 pq1573 pq62 pq81 pq1574) rfl rfl rfl (by decide +kernel) ⟨(by rw [hR]; exact (Nat.le_of_ble_eq_true rfl)), (by rw [hR]; exact (Nat.le_of_ble_eq_true rfl))⟩) (sP_V hP hD hK hN hLp0 hKp0 rfl rfl) rfl rfl hl.1 rfl (lv_room (Nat.le_of_ble_eq_true rfl)) dX7_seen_3 ⟨(by rw [hR]; exact (Nat.le_of_ble_eq_true rfl)), (by rw [hR]; exact (Nat.le_of_ble_eq_true rfl))⟩) hS hP (fun z3 H locs hz3 hP hS => ?_)
  obtain ⟨bz3, imz3, xpz3⟩ := hz3
  refine lv_if_eq (tgt := 17) hx hb dX7_seen_6 (by decide) (fun c6 => ?_) (fun c6 => ?_)
  · have t6 := tq_eq (k := z3.toInt) (q := (0)) c6 rfl (by decide +kernel)
    refine lv_iconst (v := (-1)) hx hb dX7_seen_17 (by decide +kernel) ?_
    subst hR; subst hQz
    exact W.iret (v := (-1)) hx hb hr (fun t ht hW => ⟨⟨(-1), (), rfl, (fun σ ok h => by refine ⟨fun w => ?_, fun _ => by decide +kernel⟩; exfalso; obtain ⟨w1, ⟨u1, u2, w2⟩, ⟨u3, u4, w3⟩⟩ := w; unfold twV at w1; first | (rw [← cm_1 h] at w1; exact (xpz3.mpr w1) t6) | (have t := xpz3.mp t6; rw [cm_1 h] at t; have h11 := cmA_fr (I1 := Iz11) (J1 := J) hQ hLp0 hKp0 (fun b hb => fr_Iz11 b (by omega)) (fun _ _ => rfl) kp0_11_Iz11 h; have fE := fz11 σ.1 ok (cmA_rI h) (cmA_rJ h) (show p1.toInt.toNat < _ by omega); have k := fE.1 t14 u1 u2; rw [k] at w2; cases w2) | (have t := xpz3.mp t6; rw [cm_1 h] at t; have h11 := cmA_fr (I1 := Iz11) (J1 := J) hQ hLp0 hKp0 (fun b hb => fr_Iz11 b (by omega)) (fun _ _ => rfl) kp0_11_Iz11 h; have fE := fz11 σ.1 ok (cmA_rI h) (cmA_rJ h) (show p1.toInt.toNat < _ by omega); have fF := fz58 σ.1 ok (cmA_rI h11) (cmA_rJ h11) (show p2.toInt.toNat < _ by omega); have k := fF.1 t61 u3 u4; rw [k] at w3; cases w3)), ⟨I, J, ⟨hI, fr_I, kp0_11_I, dn_I, (fun σ A => cmA_fr hQ hLp0 hKp0 (fun _ _ => rfl) (fun _ _ => rfl) rfl A), dj_J⟩, by rw [ht]; exact hP⟩⟩, hS.F ht⟩) hS.2.2 dX7_seen_18
  · have t6 := tq_ne (k := z3.toInt) (q := (0)) c6 rfl (by decide +kernel)
    have i6 := imz3 t6
    refine lv_aload_n hx hb dX7_seen_9 rfl (lv_at hl 0 rfl) ?_
    refine lv_iload_n hx hb dX7_seen_10 rfl (lv_at hl 1 rfl) ?_
    refine sw_ir (Z := (fun u => (fun I1 J1 => Iv L K x0 m0 tx tm I1 ∧ (∀ b, ¬ (K b = 26 ∨ K b = 29) → I1 b = I b) ∧ (∀ c : Fx, okF c → rI Q I p0 c → rJ Q J p0 c → p1.toInt.toNat < (c.1 1).toInt.toNat → rcI (atD c p1.toInt.toNat) u.toInt ((I1 (a0 Q p0 25) 0).toInt, (I1 (a0 Q p0 25) 1).toInt, (I1 (a0 Q p0 25) 2).toInt, (I1 (a0 Q p0 25) 3).toInt)) ∧ (∀ b, K b = 0 ∨ K b = 1 ∨ K b = 3 ∨ K b = 6 → I1 b = I b) ∧ J1 = J))) (va_runV (As := [.int p1]) (rest := []) ⟨hx, hb, hml, hown, hts⟩ (s_X7_hasBox l dC dI cs L K G Q hQ x0 m0 tx tm H.size I J hI p0 hLp0 hKp0 p1 ⟨by omega, by omega⟩) (cwV 1 hts (gV pq1600 pq1602 pq66 pq81 pq1603) rfl rfl rfl (by decide +kernel) ⟨(by rw [hR]; exact (Nat.le_of_ble_eq_true rfl)), (by rw [hR]; exact (Nat.le_of_ble_eq_true rfl))⟩) (sP_V hP hD hK hN hLp0 hKp0 rfl rfl) rfl rfl hl.1 rfl (lv_room (Nat.le_of_ble_eq_true rfl)) dX7_seen_11 ⟨(by rw [hR]; exact (Nat.le_of_ble_eq_true rfl)), (by rw [hR]; exact (Nat.le_of_ble_eq_true rfl))⟩) hS hAL hA (fun z11 Iz11 Jz11 H locs hz11 hIz11 hP hS => ?_)
    obtain ⟨hIz11, frc11, fz11, dnc11, djc11⟩ := hIz11
    obtain rfl : J = Jz11 := djc11.symm
    have dn_Iz11 : (∀ b, K b = 0 ∨ K b = 1 ∨ K b = 3 ∨ K b = 6 → Iz11 b = I b) := fun b hc => (dnc11 b (by omega)).trans (dn_I b hc)
    have kp0_11_Iz11 : Iz11 p0 11 = I p0 11 := (congrFun (frc11 p0 (by omega)) 11).trans kp0_11_I
    have fr_Iz11 : ∀ b, ¬ (K b = 26 ∨ K b = 29) → Iz11 b = I b := fun b q => (frc11 b (fun z => q (by omega))).trans (fr_I b q)
    have bz11 := hz11
    refine lv_if_ne (tgt := 19) hx hb dX7_seen_14 (by decide) (fun c14 => ?_) (fun c14 => ?_)
    · have t14 := tq_ne (k := z11.toInt) (q := (0)) c14 rfl (by decide +kernel)
      refine lv_aload_n hx hb dX7_seen_19 rfl (lv_at hl 0 rfl) ?_
      obtain ⟨y20, ey20, hLy20, hKy20⟩ := oQ_7_25 (Sv_at hQ hLp0 hKp0)
      refine p_get (v := .ref y20) hx hb hts inX7 hown hK hP hLp0 hKp0 rfl rfl 25 (by decide) (hts _ pq1140) (congrArg (fun q => some (va_rf q)) ey20) dX7_seen_20 ?_
      refine lv_iconst (v := 0) hx hb dX7_seen_23 (by decide +kernel) ?_
      refine p_iald hx hb hK hP 19 hLy20 hKy20 rfl rfl (in_d (by decide +kernel)) dX7_seen_24 ?_
      refine lv_topi (fun z24 ez24 => ?_)
      have bz24 := oR_29 (i := (0 : Int32)) (Iv_at hIz11 hLy20 hKy20)
      rw [← ez24] at bz24
      refine lv_aload_n hx hb dX7_seen_25 rfl (lv_at hl 0 rfl) ?_
      refine p_get (v := .ref y20) hx hb hts inX7 hown hK hP hLp0 hKp0 rfl rfl 25 (by decide) (hts _ pq1140) (congrArg (fun q => some (va_rf q)) ey20) dX7_seen_26 ?_
      refine lv_iconst (v := 2) hx hb dX7_seen_29 (by decide +kernel) ?_
      refine p_iald hx hb hK hP 19 hLy20 hKy20 rfl rfl (in_d (by decide +kernel)) dX7_seen_30 ?_
      refine lv_topi (fun z30 ez30 => ?_)
      have bz30 := oR_29 (i := (2 : Int32)) (Iv_at hIz11 hLy20 hKy20)
      rw [← ez30] at bz30
      refine lv_iadd hx hb dX7_seen_31 ?_
      refine lv_topi (fun z31 ez31 => ?_)
      have bz31 := tq_add (k := z24.toInt) (q := z30.toInt) ez31 rfl rfl (by omega) (by omega)
      refine lv_iconst (v := 2) hx hb dX7_seen_32 (by decide +kernel) ?_
      refine ro_i (va_runS (As := [.int z31, .int 2]) (rest := []) ⟨hx, hb, hml, hown, hts⟩ (s_J9_floorDiv l dC dI cs L K Q H.size Iz11 J z31 2 ⟨by decide +kernel, by decide +kernel⟩) (va_cwS 2 hts (gS pq1473 pq782 pq82 pq783) rfl rfl rfl (by decide +kernel) ⟨(by rw [hR]; exact (Nat.le_of_ble_eq_true rfl)), (by rw [hR]; exact (Nat.le_of_ble_eq_true rfl))⟩) (sP_S hP hD hK hN) rfl rfl hl.1 rfl (lv_room (Nat.le_of_ble_eq_true rfl)) dX7_seen_33 ⟨(by rw [hR]; exact (Nat.le_of_ble_eq_true rfl)), (by rw [hR]; exact (Nat.le_of_ble_eq_true rfl))⟩) hS hP (fun z33 H locs hz33 hP hS => ?_)
      have cst33_2 : (2 : Int32).toInt = 2 := by decide +kernel
      have xpz33 := hz33
      try rw [cst33_2] at xpz33
      have bz33 := (⟨by omega, by omega⟩ : -7000000 ≤ z33.toInt ∧ z33.toInt ≤ 7000000)
      refine lv_istore_n (lv' := [(3, .int z33), (0, .ref p0), (1, .int p1), (2, .int p2)]) hx hb dX7_seen_36 rfl hl (by decide) rfl (fun ls hl => ?_)
      refine lv_aload_n hx hb dX7_seen_37 rfl (lv_at hl 1 rfl) ?_
      refine p_get (v := .ref y20) hx hb hts inX7 hown hK hP hLp0 hKp0 rfl rfl 25 (by decide) (hts _ pq1140) (congrArg (fun q => some (va_rf q)) ey20) dX7_seen_38 ?_
      refine lv_iconst (v := 1) hx hb dX7_seen_41 (by decide +kernel) ?_
      refine p_iald hx hb hK hP 19 hLy20 hKy20 rfl rfl (in_d (by decide +kernel)) dX7_seen_42 ?_
      refine lv_topi (fun z42 ez42 => ?_)
      have bz42 := oR_29 (i := (1 : Int32)) (Iv_at hIz11 hLy20 hKy20)
      rw [← ez42] at bz42
      refine lv_aload_n hx hb dX7_seen_43 rfl (lv_at hl 1 rfl) ?_
      refine p_get (v := .ref y20) hx hb hts inX7 hown hK hP hLp0 hKp0 rfl rfl 25 (by decide) (hts _ pq1140) (congrArg (fun q => some (va_rf q)) ey20) dX7_seen_44 ?_
      refine lv_iconst (v := 3) hx hb dX7_seen_47 (by decide +kernel) ?_
      refine p_iald hx hb hK hP 19 hLy20 hKy20 rfl rfl (in_d (by decide +kernel)) dX7_seen_48 ?_
      refine lv_topi (fun z48 ez48 => ?_)
      have bz48 := oR_29 (i := (3 : Int32)) (Iv_at hIz11 hLy20 hKy20)
      rw [← ez48] at bz48
      refine lv_iadd hx hb dX7_seen_49 ?_
      refine lv_topi (fun z49 ez49 => ?_)
      have bz49 := tq_add (k := z42.toInt) (q := z48.toInt) ez49 rfl rfl (by omega) (by omega)
      refine lv_iconst (v := 2) hx hb dX7_seen_50 (by decide +kernel) ?_
      refine ro_i (va_runS (As := [.int z49, .int 2]) (rest := []) ⟨hx, hb, hml, hown, hts⟩ (s_J9_floorDiv l dC dI cs L K Q H.size Iz11 J z49 2 ⟨by decide +kernel, by decide +kernel⟩) (va_cwS 2 hts (gS pq1473 pq782 pq82 pq783) rfl rfl rfl (by decide +kernel) ⟨(by rw [hR]; exact (Nat.le_of_ble_eq_true rfl)), (by rw [hR]; exact (Nat.le_of_ble_eq_true rfl))⟩) (sP_S hP hD hK hN) rfl rfl hl.1 rfl (lv_room (Nat.le_of_ble_eq_true rfl)) dX7_seen_51 ⟨(by rw [hR]; exact (Nat.le_of_ble_eq_true rfl)), (by rw [hR]; exact (Nat.le_of_ble_eq_true rfl))⟩) hS hP (fun z51 H locs hz51 hP hS => ?_)
      have cst51_2 : (2 : Int32).toInt = 2 := by decide +kernel
      have xpz51 := hz51
      try rw [cst51_2] at xpz51
      have bz51 := (⟨by omega, by omega⟩ : -7000000 ≤ z51.toInt ∧ z51.toInt ≤ 7000000)
      refine lv_istore (lv' := [(4, .int z51), (3, .int z33), (0, .ref p0), (1, .int p1), (2, .int p2)]) hx hb dX7_seen_54 hl (by decide) rfl (fun ls hl => ?_)
      refine lv_aload_n hx hb dX7_seen_56 rfl (lv_at hl 2 rfl) ?_
      refine lv_iload_n hx hb dX7_seen_57 rfl (lv_at hl 4 rfl) ?_
      refine sw_ir (Z := (fun u => (fun I1 J1 => Iv L K x0 m0 tx tm I1 ∧ (∀ b, ¬ (K b = 26 ∨ K b = 29) → I1 b = Iz11 b) ∧ (∀ c : Fx, okF c → rI Q Iz11 p0 c → rJ Q J p0 c → p2.toInt.toNat < (c.1 1).toInt.toNat → rcI (atD c p2.toInt.toNat) u.toInt ((I1 (a0 Q p0 25) 0).toInt, (I1 (a0 Q p0 25) 1).toInt, (I1 (a0 Q p0 25) 2).toInt, (I1 (a0 Q p0 25) 3).toInt)) ∧ (∀ b, K b = 0 ∨ K b = 1 ∨ K b = 3 ∨ K b = 6 → I1 b = Iz11 b) ∧ J1 = J))) (va_runV (As := [.int p2]) (rest := []) ⟨hx, hb, hml, hown, hts⟩ (s_X7_hasBox l dC dI cs L K G Q hQ x0 m0 tx tm H.size Iz11 J hIz11 p0 hLp0 hKp0 p2 ⟨by omega, by omega⟩) (cwV 1 hts (gV pq1600 pq1602 pq66 pq81 pq1603) rfl rfl rfl (by decide +kernel) ⟨(by rw [hR]; exact (Nat.le_of_ble_eq_true rfl)), (by rw [hR]; exact (Nat.le_of_ble_eq_true rfl))⟩) (sP_V hP hD hK hN hLp0 hKp0 rfl rfl) rfl rfl hl.1 rfl (lv_room (Nat.le_of_ble_eq_true rfl)) dX7_seen_58 ⟨(by rw [hR]; exact (Nat.le_of_ble_eq_true rfl)), (by rw [hR]; exact (Nat.le_of_ble_eq_true rfl))⟩) hS hAL hA (fun z58 Iz58 Jz58 H locs hz58 hIz58 hP hS => ?_)
      obtain ⟨hIz58, frc58, fz58, dnc58, djc58⟩ := hIz58
      obtain rfl : J = Jz58 := djc58.symm
      have dn_Iz58 : (∀ b, K b = 0 ∨ K b = 1 ∨ K b = 3 ∨ K b = 6 → Iz58 b = I b) := fun b hc => (dnc58 b (by omega)).trans (dn_Iz11 b hc)
      have kp0_11_Iz58 : Iz58 p0 11 = I p0 11 := (congrFun (frc58 p0 (by omega)) 11).trans kp0_11_Iz11
      have fr_Iz58 : ∀ b, ¬ (K b = 26 ∨ K b = 29) → Iz58 b = I b := fun b q => (frc58 b (fun z => q (by omega))).trans (fr_Iz11 b q)
      have bz58 := hz58
      refine lv_if_ne (tgt := 66) hx hb dX7_seen_61 (by decide) (fun c61 => ?_) (fun c61 => ?_)
      · have t61 := tq_ne (k := z58.toInt) (q := (0)) c61 rfl (by decide +kernel)
        refine lv_aload_n hx hb dX7_seen_66 rfl (lv_at hl 2 rfl) ?_
        refine p_get (v := .ref y20) hx hb hts inX7 hown hK hP hLp0 hKp0 rfl rfl 25 (by decide) (hts _ pq1140) (congrArg (fun q => some (va_rf q)) ey20) dX7_seen_67 ?_
        refine lv_iconst (v := 0) hx hb dX7_seen_70 (by decide +kernel) ?_
        refine p_iald hx hb hK hP 19 hLy20 hKy20 rfl rfl (in_d (by decide +kernel)) dX7_seen_71 ?_
        refine lv_topi (fun z71 ez71 => ?_)
        have bz71 := oR_29 (i := (0 : Int32)) (Iv_at hIz58 hLy20 hKy20)
        rw [← ez71] at bz71
        refine lv_aload_n hx hb dX7_seen_72 rfl (lv_at hl 2 rfl) ?_
        refine p_get (v := .ref y20) hx hb hts inX7 hown hK hP hLp0 hKp0 rfl rfl 25 (by decide) (hts _ pq1140) (congrArg (fun q => some (va_rf q)) ey20) dX7_seen_73 ?_
        refine lv_iconst (v := 2) hx hb dX7_seen_76 (by decide +kernel) ?_
        refine p_iald hx hb hK hP 19 hLy20 hKy20 rfl rfl (in_d (by decide +kernel)) dX7_seen_77 ?_
        refine lv_topi (fun z77 ez77 => ?_)
        have bz77 := oR_29 (i := (2 : Int32)) (Iv_at hIz58 hLy20 hKy20)
        rw [← ez77] at bz77
        refine lv_iadd hx hb dX7_seen_78 ?_
        refine lv_topi (fun z78 ez78 => ?_)
        have bz78 := tq_add (k := z71.toInt) (q := z77.toInt) ez78 rfl rfl (by omega) (by omega)
        refine lv_iconst (v := 2) hx hb dX7_seen_79 (by decide +kernel) ?_
        refine ro_i (va_runS (As := [.int z78, .int 2]) (rest := []) ⟨hx, hb, hml, hown, hts⟩ (s_J9_floorDiv l dC dI cs L K Q H.size Iz58 J z78 2 ⟨by decide +kernel, by decide +kernel⟩) (va_cwS 2 hts (gS pq1473 pq782 pq82 pq783) rfl rfl rfl (by decide +kernel) ⟨(by rw [hR]; exact (Nat.le_of_ble_eq_true rfl)), (by rw [hR]; exact (Nat.le_of_ble_eq_true rfl))⟩) (sP_S hP hD hK hN) rfl rfl hl.1 rfl (lv_room (Nat.le_of_ble_eq_true rfl)) dX7_seen_80 ⟨(by rw [hR]; exact (Nat.le_of_ble_eq_true rfl)), (by rw [hR]; exact (Nat.le_of_ble_eq_true rfl))⟩) hS hP (fun z80 H locs hz80 hP hS => ?_)
        have cst80_2 : (2 : Int32).toInt = 2 := by decide +kernel
        have xpz80 := hz80
        try rw [cst80_2] at xpz80
        have bz80 := (⟨by omega, by omega⟩ : -7000000 ≤ z80.toInt ∧ z80.toInt ≤ 7000000)
        refine lv_iload_n hx hb dX7_seen_83 rfl (lv_at hl 1 rfl) ?_
        refine lv_isub hx hb dX7_seen_84 ?_
        refine lv_topi (fun z84 ez84 => ?_)
        have bz84 := tq_sub (k := z80.toInt) (q := z33.toInt) ez84 rfl rfl (by omega) (by omega)
        refine lv_istore (lv' := [(5, .int z84), (4, .int z51), (3, .int z33), (0, .ref p0), (1, .int p1), (2, .int p2)]) hx hb dX7_seen_85 hl (by decide) rfl (fun ls hl => ?_)
        refine lv_aload_n hx hb dX7_seen_87 rfl (lv_at hl 3 rfl) ?_
        refine p_get (v := .ref y20) hx hb hts inX7 hown hK hP hLp0 hKp0 rfl rfl 25 (by decide) (hts _ pq1140) (congrArg (fun q => some (va_rf q)) ey20) dX7_seen_88 ?_
        refine lv_iconst (v := 1) hx hb dX7_seen_91 (by decide +kernel) ?_
        refine p_iald hx hb hK hP 19 hLy20 hKy20 rfl rfl (in_d (by decide +kernel)) dX7_seen_92 ?_
        refine lv_topi (fun z92 ez92 => ?_)
        have bz92 := oR_29 (i := (1 : Int32)) (Iv_at hIz58 hLy20 hKy20)
        rw [← ez92] at bz92
        refine lv_aload_n hx hb dX7_seen_93 rfl (lv_at hl 3 rfl) ?_
        refine p_get (v := .ref y20) hx hb hts inX7 hown hK hP hLp0 hKp0 rfl rfl 25 (by decide) (hts _ pq1140) (congrArg (fun q => some (va_rf q)) ey20) dX7_seen_94 ?_
        refine lv_iconst (v := 3) hx hb dX7_seen_97 (by decide +kernel) ?_
        refine p_iald hx hb hK hP 19 hLy20 hKy20 rfl rfl (in_d (by decide +kernel)) dX7_seen_98 ?_
        refine lv_topi (fun z98 ez98 => ?_)
        have bz98 := oR_29 (i := (3 : Int32)) (Iv_at hIz58 hLy20 hKy20)
        rw [← ez98] at bz98
        refine lv_iadd hx hb dX7_seen_99 ?_
        refine lv_topi (fun z99 ez99 => ?_)
        have bz99 := tq_add (k := z92.toInt) (q := z98.toInt) ez99 rfl rfl (by omega) (by omega)
        refine lv_iconst (v := 2) hx hb dX7_seen_100 (by decide +kernel) ?_
        refine ro_i (va_runS (As := [.int z99, .int 2]) (rest := []) ⟨hx, hb, hml, hown, hts⟩ (s_J9_floorDiv l dC dI cs L K Q H.size Iz58 J z99 2 ⟨by decide +kernel, by decide +kernel⟩) (va_cwS 2 hts (gS pq1473 pq782 pq82 pq783) rfl rfl rfl (by decide +kernel) ⟨(by rw [hR]; exact (Nat.le_of_ble_eq_true rfl)), (by rw [hR]; exact (Nat.le_of_ble_eq_true rfl))⟩) (sP_S hP hD hK hN) rfl rfl hl.1 rfl (lv_room (Nat.le_of_ble_eq_true rfl)) dX7_seen_101 ⟨(by rw [hR]; exact (Nat.le_of_ble_eq_true rfl)), (by rw [hR]; exact (Nat.le_of_ble_eq_true rfl))⟩) hS hP (fun z101 H locs hz101 hP hS => ?_)
        have cst101_2 : (2 : Int32).toInt = 2 := by decide +kernel
        have xpz101 := hz101
        try rw [cst101_2] at xpz101
        have bz101 := (⟨by omega, by omega⟩ : -7000000 ≤ z101.toInt ∧ z101.toInt ≤ 7000000)
        refine lv_iload hx hb dX7_seen_104 (lv_at hl 1 rfl) ?_
        refine lv_isub hx hb dX7_seen_106 ?_
        refine lv_topi (fun z106 ez106 => ?_)
        have bz106 := tq_sub (k := z101.toInt) (q := z51.toInt) ez106 rfl rfl (by omega) (by omega)
        refine lv_istore (lv' := [(6, .int z106), (5, .int z84), (4, .int z51), (3, .int z33), (0, .ref p0), (1, .int p1), (2, .int p2)]) hx hb dX7_seen_107 hl (by decide) rfl (fun ls hl => ?_)
        refine lv_iload hx hb dX7_seen_109 (lv_at hl 1 rfl) ?_
        refine lv_iload hx hb dX7_seen_111 (lv_at hl 0 rfl) ?_
        refine ro_i (va_runS (As := [.int z84, .int z106]) (rest := []) ⟨hx, hb, hml, hown, hts⟩ (s_X7_stepsL l dC dI cs L K G Q hQ x0 m0 tx tm H.size Iz58 J hIz58 z84 ⟨by omega, by omega⟩ z106 ⟨by omega, by omega⟩) (va_cwS 2 hts (gS pq1439 pq1440 pq81 pq1441) rfl rfl rfl (by decide +kernel) ⟨(by rw [hR]; exact (Nat.le_of_ble_eq_true rfl)), (by rw [hR]; exact (Nat.le_of_ble_eq_true rfl))⟩) (sP_S hP hD hK hN) rfl rfl hl.1 rfl (lv_room (Nat.le_of_ble_eq_true rfl)) dX7_seen_113 ⟨(by rw [hR]; exact (Nat.le_of_ble_eq_true rfl)), (by rw [hR]; exact (Nat.le_of_ble_eq_true rfl))⟩) hS hP (fun z113 H locs hz113 hP hS => ?_)
        obtain ⟨bz113, fez113⟩ := hz113
        refine lv_istore (lv' := [(7, .int z113), (6, .int z106), (5, .int z84), (4, .int z51), (3, .int z33), (0, .ref p0), (1, .int p1), (2, .int p2)]) hx hb dX7_seen_116 hl (by decide) rfl (fun ls hl => ?_)
        refine lv_iconst (v := 0) hx hb dX7_seen_118 (by decide +kernel) ?_
        refine lv_istore (lv' := [(8, .int 0), (7, .int z113), (6, .int z106), (5, .int z84), (4, .int z51), (3, .int z33), (0, .ref p0), (1, .int p1), (2, .int p2)]) hx hb dX7_seen_119 hl (by decide) rfl (fun ls hl => ?_)
        refine lv_iconst (v := 0) hx hb dX7_seen_121 (by decide +kernel) ?_
        refine lv_istore (lv' := [(9, .int 0), (8, .int 0), (7, .int z113), (6, .int z106), (5, .int z84), (4, .int z51), (3, .int z33), (0, .ref p0), (1, .int p1), (2, .int p2)]) hx hb dX7_seen_122 hl (by decide) rfl (fun ls hl => ?_)
        have key124 := blocks (fun n => ∀ (v124_8 : Int32) (v124_9 : Int32) (H : Heap) (lo : List Loc) (ls : Array Slot), (2147483648 - v124_9.toInt).toNat = n → 0 ≤ v124_9.toInt ∧ v124_9.toInt ≤ z113.toInt + 1 → (∀ σ : Sx, okF σ.1 → cmA Q I J p0 σ → v124_8.toInt = nK (snP σ.1 p1.toInt.toNat p2.toInt.toNat ((Iz11 y20 0).toInt, (Iz11 y20 1).toInt, (Iz11 y20 2).toInt, (Iz11 y20 3).toInt) ((Iz58 y20 0).toInt, (Iz58 y20 1).toInt, (Iz58 y20 2).toInt, (Iz58 y20 3).toInt)) v124_9.toInt.toNat) → va_P (dC, dI) vwCl (Wd cs L K Iz58 J Q) H → va_S A s.heap H lo → lv_has ls 11 [(0, .ref p0), (1, .int p1), (2, .int p2), (3, .int z33), (4, .int z51), (5, .int z84), (6, .int z106), (7, .int z113), (8, .int v124_8), (9, .int v124_9)] → W p l e R s m (([.ref p0, .int p1, .int p2] : List Value).toArray) below meth c H lo 0 0 Qz (F0 m 124 ls [])) (by
          intro n ih124
          intro v124_8 v124_9 H lo ls hmu124 hk124 g124 hP hS hl
          refine lv_iload hx hb dX7_seen_124 (lv_at hl 9 rfl) ?_
          refine lv_iload hx hb dX7_seen_126 (lv_at hl 7 rfl) ?_
          refine lv_icmp_gt (tgt := 196) hx hb dX7_seen_128 (by decide) (fun c128 => ?_) (fun c128 => ?_)
          · have t128 := tq_lt (k := z113.toInt) (q := v124_9.toInt) c128 rfl rfl
            have rg128v124_9 := fb_rng v124_9
            refine lv_iload hx hb dX7_seen_196 (lv_at hl 8 rfl) ?_
            subst hR; subst hQz
            exact W.iret (v := v124_8) hx hb hr (fun t ht hW => ⟨⟨v124_8, (), rfl, (fun σ ok h => by have t := xpz3.mp t6; rw [cm_1 h] at t; have h11 := cmA_fr (I1 := Iz11) (J1 := J) hQ hLp0 hKp0 (fun b hb => fr_Iz11 b (by omega)) (fun _ _ => rfl) kp0_11_Iz11 h; have fE := fz11 σ.1 ok (cmA_rI h) (cmA_rJ h) (show p1.toInt.toNat < _ by omega); have fF := fz58 σ.1 ok (cmA_rI h11) (cmA_rJ h11) (show p2.toInt.toNat < _ by omega); have E := fE.2 t14; have F := fF.2 t61; rw [show a0 Q p0 25 = y20 from gd_of ey20] at E F; have h58 := cmA_fr (I1 := Iz58) (J1 := J) hQ hLp0 hKp0 (fun b hb => fr_Iz58 b (by omega)) (fun _ _ => rfl) kp0_11_Iz58 h; have B1 := ex_bd ok (show p1.toInt.toNat < _ by omega) E; have B2 := ex_bd ok (show p2.toInt.toNat < _ by omega) F; have v24 : z24.toInt = (Iz11 y20 0).toInt := congrArg Int32.toInt (show z24 = Iz11 y20 0 from ez24); have v30 : z30.toInt = (Iz11 y20 2).toInt := congrArg Int32.toInt (show z30 = Iz11 y20 2 from ez30); have v42 : z42.toInt = (Iz11 y20 1).toInt := congrArg Int32.toInt (show z42 = Iz11 y20 1 from ez42); have v48 : z48.toInt = (Iz11 y20 3).toInt := congrArg Int32.toInt (show z48 = Iz11 y20 3 from ez48); have v71 : z71.toInt = (Iz58 y20 0).toInt := congrArg Int32.toInt (show z71 = Iz58 y20 0 from ez71); have v77 : z77.toInt = (Iz58 y20 2).toInt := congrArg Int32.toInt (show z77 = Iz58 y20 2 from ez77); have v92 : z92.toInt = (Iz58 y20 1).toInt := congrArg Int32.toInt (show z92 = Iz58 y20 1 from ez92); have v98 : z98.toInt = (Iz58 y20 3).toInt := congrArg Int32.toInt (show z98 = Iz58 y20 3 from ez98); have m33 : z33.toInt = mdX ((Iz11 y20 0).toInt, (Iz11 y20 1).toInt, (Iz11 y20 2).toInt, (Iz11 y20 3).toInt) := (by rw [xpz33, bz31, v24, v30]; rfl); have m51 : z51.toInt = mdY ((Iz11 y20 0).toInt, (Iz11 y20 1).toInt, (Iz11 y20 2).toInt, (Iz11 y20 3).toInt) := (by rw [xpz51, bz49, v42, v48]; rfl); have m80 : z80.toInt = mdX ((Iz58 y20 0).toInt, (Iz58 y20 1).toInt, (Iz58 y20 2).toInt, (Iz58 y20 3).toInt) := (by rw [xpz80, bz78, v71, v77]; rfl); have m101 : z101.toInt = mdY ((Iz58 y20 0).toInt, (Iz58 y20 1).toInt, (Iz58 y20 2).toInt, (Iz58 y20 3).toInt) := (by rw [xpz101, bz99, v92, v98]; rfl); have d84 : z84.toInt = mdX ((Iz58 y20 0).toInt, (Iz58 y20 1).toInt, (Iz58 y20 2).toInt, (Iz58 y20 3).toInt) - mdX ((Iz11 y20 0).toInt, (Iz11 y20 1).toInt, (Iz11 y20 2).toInt, (Iz11 y20 3).toInt) := (by omega); have d106 : z106.toInt = mdY ((Iz58 y20 0).toInt, (Iz58 y20 1).toInt, (Iz58 y20 2).toInt, (Iz58 y20 3).toInt) - mdY ((Iz11 y20 0).toInt, (Iz11 y20 1).toInt, (Iz11 y20 2).toInt, (Iz11 y20 3).toInt) := (by omega); have n113 : z113.toInt = snD ((Iz11 y20 0).toInt, (Iz11 y20 1).toInt, (Iz11 y20 2).toInt, (Iz11 y20 3).toInt) ((Iz58 y20 0).toInt, (Iz58 y20 1).toInt, (Iz58 y20 2).toInt, (Iz58 y20 3).toInt) := (by rw [show z113 = stF z84 z106 from fez113, stF_iL ⟨by omega, by omega⟩ ⟨by omega, by omega⟩, d84, d106]; rfl); have nb : 0 ≤ z113.toInt ∧ z113.toInt ≤ 2200 := (by rw [n113]; unfold snD stI; omega); exact ⟨fun _ => ⟨((Iz11 y20 0).toInt, (Iz11 y20 1).toInt, (Iz11 y20 2).toInt, (Iz11 y20 3).toInt), ((Iz58 y20 0).toInt, (Iz58 y20 1).toInt, (Iz58 y20 2).toInt, (Iz58 y20 3).toInt), E, F, by have g := g124 σ ok h; rw [show v124_9.toInt = z113.toInt + 1 by omega, n113] at g; exact g⟩, fun q => absurd ⟨t, ex_dot E, ex_dot F⟩ q⟩), ⟨Iz58, J, ⟨hIz58, fr_Iz58, kp0_11_Iz58, dn_Iz58, (fun σ A => cmA_fr hQ hLp0 hKp0 (fun b hb => fr_Iz58 b (by omega)) (fun _ _ => rfl) kp0_11_Iz58 A), dj_J⟩, by rw [ht]; exact hP⟩⟩, hS.F ht⟩) hS.2.2 dX7_seen_198
          · have t128 := tq_nlt (k := z113.toInt) (q := v124_9.toInt) c128 rfl rfl
            refine lv_aload_n hx hb dX7_seen_131 rfl (lv_at hl 0 rfl) ?_
            refine lv_iload_n hx hb dX7_seen_132 rfl (lv_at hl 3 rfl) ?_
            refine lv_iload hx hb dX7_seen_133 (lv_at hl 9 rfl) ?_
            refine lv_iload hx hb dX7_seen_135 (lv_at hl 5 rfl) ?_
            refine lv_iload hx hb dX7_seen_137 (lv_at hl 7 rfl) ?_
            refine ro_i (va_runS (As := [.int v124_9, .int z84, .int z113]) (rest := [.int z33, .ref p0]) ⟨hx, hb, hml, hown, hts⟩ (s_X7_by l dC dI cs L K G Q hQ x0 m0 tx tm H.size Iz58 J hIz58 v124_9 z84 z113 ⟨by omega, by omega⟩) (va_cwS 3 hts (gS pq1470 pq1471 pq81 pq1472) rfl rfl rfl (by decide +kernel) ⟨(by rw [hR]; exact (Nat.le_of_ble_eq_true rfl)), (by rw [hR]; exact (Nat.le_of_ble_eq_true rfl))⟩) (sP_S hP hD hK hN) rfl rfl hl.1 rfl (lv_room (Nat.le_of_ble_eq_true rfl)) dX7_seen_139 ⟨(by rw [hR]; exact (Nat.le_of_ble_eq_true rfl)), (by rw [hR]; exact (Nat.le_of_ble_eq_true rfl))⟩) hS hP (fun z139 H locs hz139 hP hS => ?_)
            obtain ⟨bz139, fez139⟩ := hz139
            refine lv_iadd hx hb dX7_seen_142 ?_
            refine lv_topi (fun z142 ez142 => ?_)
            have bz142 := tq_add (k := z33.toInt) (q := z139.toInt) ez142 rfl rfl (by omega) (by omega)
            refine lv_iload hx hb dX7_seen_143 (lv_at hl 4 rfl) ?_
            refine lv_iload hx hb dX7_seen_145 (lv_at hl 9 rfl) ?_
            refine lv_iload hx hb dX7_seen_147 (lv_at hl 6 rfl) ?_
            refine lv_iload hx hb dX7_seen_149 (lv_at hl 7 rfl) ?_
            refine ro_i (va_runS (As := [.int v124_9, .int z106, .int z113]) (rest := [.int z51, .int z142, .ref p0]) ⟨hx, hb, hml, hown, hts⟩ (s_X7_by l dC dI cs L K G Q hQ x0 m0 tx tm H.size Iz58 J hIz58 v124_9 z106 z113 ⟨by omega, by omega⟩) (va_cwS 3 hts (gS pq1470 pq1471 pq81 pq1472) rfl rfl rfl (by decide +kernel) ⟨(by rw [hR]; exact (Nat.le_of_ble_eq_true rfl)), (by rw [hR]; exact (Nat.le_of_ble_eq_true rfl))⟩) (sP_S hP hD hK hN) rfl rfl hl.1 rfl (lv_room (Nat.le_of_ble_eq_true rfl)) dX7_seen_151 ⟨(by rw [hR]; exact (Nat.le_of_ble_eq_true rfl)), (by rw [hR]; exact (Nat.le_of_ble_eq_true rfl))⟩) hS hP (fun z151 H locs hz151 hP hS => ?_)
            obtain ⟨bz151, fez151⟩ := hz151
            refine lv_iadd hx hb dX7_seen_154 ?_
            refine lv_topi (fun z154 ez154 => ?_)
            have bz154 := tq_add (k := z51.toInt) (q := z151.toInt) ez154 rfl rfl (by omega) (by omega)
            refine ro_i (va_runV (As := [.int z142, .int z154]) (rest := []) ⟨hx, hb, hml, hown, hts⟩ (s_X7_bodiesAt l dC dI cs L K G Q hQ x0 m0 tx tm H.size Iz58 J hIz58 p0 hLp0 hKp0 z142 z154) (cwV 2 hts (gV pq1612 pq1614 pq67 pq81 pq1615) rfl rfl rfl (by decide +kernel) ⟨(by rw [hR]; exact (Nat.le_of_ble_eq_true rfl)), (by rw [hR]; exact (Nat.le_of_ble_eq_true rfl))⟩) (sP_V hP hD hK hN hLp0 hKp0 rfl rfl) rfl rfl hl.1 rfl (lv_room (Nat.le_of_ble_eq_true rfl)) dX7_seen_155 ⟨(by rw [hR]; exact (Nat.le_of_ble_eq_true rfl)), (by rw [hR]; exact (Nat.le_of_ble_eq_true rfl))⟩) hS hP (fun z155 H locs hz155 hP hS => ?_)
            have xpz155 := hz155
            refine lv_istore (lv' := [(10, .int z155), (0, .ref p0), (1, .int p1), (2, .int p2), (3, .int z33), (4, .int z51), (5, .int z84), (6, .int z106), (7, .int z113), (8, .int v124_8), (9, .int v124_9)]) hx hb dX7_seen_158 hl (by decide) rfl (fun ls hl => ?_)
            refine lv_iload hx hb dX7_seen_160 (lv_at hl 9 rfl) ?_
            refine lv_iload hx hb dX7_seen_162 (lv_at hl 0 rfl) ?_
            refine lv_iconst (v := 1) hx hb dX7_seen_164 (by decide +kernel) ?_
            refine lv_iload_n hx hb dX7_seen_165 rfl (lv_at hl 2 rfl) ?_
            refine lv_ishl hx hb dX7_seen_166 ?_
            refine lv_topi (fun z166 ez166 => ?_)
            refine lv_iconst (v := (-1)) hx hb dX7_seen_167 (by decide +kernel) ?_
            refine lv_ixor hx hb dX7_seen_168 ?_
            refine lv_topi (fun z168 ez168 => ?_)
            refine lv_iand hx hb dX7_seen_169 ?_
            refine lv_topi (fun z169 ez169 => ?_)
            refine lv_iconst (v := 1) hx hb dX7_seen_170 (by decide +kernel) ?_
            refine lv_iload_n hx hb dX7_seen_171 rfl (lv_at hl 3 rfl) ?_
            refine lv_ishl hx hb dX7_seen_172 ?_
            refine lv_topi (fun z172 ez172 => ?_)
            refine lv_iconst (v := (-1)) hx hb dX7_seen_173 (by decide +kernel) ?_
            refine lv_ixor hx hb dX7_seen_174 ?_
            refine lv_topi (fun z174 ez174 => ?_)
            refine lv_iand hx hb dX7_seen_175 ?_
            refine lv_topi (fun z175 ez175 => ?_)
            have j184 : ∀ (w184_1 : Int32) (H : Heap) (lo : List Loc) (ls : Array Slot), ((0) ≤ w184_1.toInt ∧ w184_1.toInt ≤ 1) → (w184_1.toInt = 0 ↔ z175.toInt = 0) → va_P (dC, dI) vwCl (Wd cs L K Iz58 J Q) H → va_S A s.heap H lo → lv_has ls 11 [(0, .ref p0), (1, .int p1), (2, .int p2), (3, .int z33), (4, .int z51), (5, .int z84), (6, .int z106), (7, .int z113), (8, .int v124_8), (9, .int v124_9), (10, .int z155)] → W p l e R s m (([.ref p0, .int p1, .int p2] : List Value).toArray) below meth c H lo 0 0 Qz (F0 m 184 ls [.int w184_1, .int v124_8]) := by
              intro w184_1 H lo ls bw184_1 g184 hP hS hl
              refine ro_i (va_runS (As := [.int w184_1]) (rest := [.int v124_8]) ⟨hx, hb, hml, hown, hts⟩ (s_X7_truth l dC dI cs L K Q H.size Iz58 J w184_1) (va_cwS 1 hts (gS pq1257 pq1258 pq81 pq1259) rfl rfl rfl (by decide +kernel) ⟨(by rw [hR]; exact (Nat.le_of_ble_eq_true rfl)), (by rw [hR]; exact (Nat.le_of_ble_eq_true rfl))⟩) (sP_S hP hD hK hN) rfl rfl hl.1 rfl (lv_room (Nat.le_of_ble_eq_true rfl)) dX7_seen_184 ⟨(by rw [hR]; exact (Nat.le_of_ble_eq_true rfl)), (by rw [hR]; exact (Nat.le_of_ble_eq_true rfl))⟩) hS hP (fun z184 H locs hz184 hP hS => ?_)
              obtain ⟨bz184, xpz184⟩ := hz184
              refine lv_iadd hx hb dX7_seen_187 ?_
              refine lv_topi (fun z187 ez187 => ?_)
              refine lv_istore (lv' := [(8, .int z187), (0, .ref p0), (1, .int p1), (2, .int p2), (3, .int z33), (4, .int z51), (5, .int z84), (6, .int z106), (7, .int z113), (9, .int v124_9), (10, .int z155)]) hx hb dX7_seen_188 hl (by decide) rfl (fun ls hl => ?_)
              obtain ⟨z190, ez190⟩ : ∃ y : Int32, y = v124_9 + 1 := ⟨_, rfl⟩
              refine lv_iinc (v := z190) (lv' := [(9, .int z190), (8, .int z187), (0, .ref p0), (1, .int p1), (2, .int p2), (3, .int z33), (4, .int z51), (5, .int z84), (6, .int z106), (7, .int z113), (10, .int z155)]) hx hb dX7_seen_190 hl (k := 9) rfl (by rw [ez190]; rfl) (by decide) rfl (fun ls hl => ?_)
              have rg190v124_9 := fb_rng v124_9
              have bz190 := tq_add (k := v124_9.toInt) (q := 1) ez190 rfl (by decide +kernel) (by omega) (by omega)
              refine lv_goto (tgt := 124) hx hb dX7_seen_193 (by decide) ?_
              exact ih124 _ (by omega) z187 z190 _ _ _ rfl (by omega) (fun σ ok h => by have t := xpz3.mp t6; rw [cm_1 h] at t; have h11 := cmA_fr (I1 := Iz11) (J1 := J) hQ hLp0 hKp0 (fun b hb => fr_Iz11 b (by omega)) (fun _ _ => rfl) kp0_11_Iz11 h; have fE := fz11 σ.1 ok (cmA_rI h) (cmA_rJ h) (show p1.toInt.toNat < _ by omega); have fF := fz58 σ.1 ok (cmA_rI h11) (cmA_rJ h11) (show p2.toInt.toNat < _ by omega); have E := fE.2 t14; have F := fF.2 t61; rw [show a0 Q p0 25 = y20 from gd_of ey20] at E F; have h58 := cmA_fr (I1 := Iz58) (J1 := J) hQ hLp0 hKp0 (fun b hb => fr_Iz58 b (by omega)) (fun _ _ => rfl) kp0_11_Iz58 h; have B1 := ex_bd ok (show p1.toInt.toNat < _ by omega) E; have B2 := ex_bd ok (show p2.toInt.toNat < _ by omega) F; have v24 : z24.toInt = (Iz11 y20 0).toInt := congrArg Int32.toInt (show z24 = Iz11 y20 0 from ez24); have v30 : z30.toInt = (Iz11 y20 2).toInt := congrArg Int32.toInt (show z30 = Iz11 y20 2 from ez30); have v42 : z42.toInt = (Iz11 y20 1).toInt := congrArg Int32.toInt (show z42 = Iz11 y20 1 from ez42); have v48 : z48.toInt = (Iz11 y20 3).toInt := congrArg Int32.toInt (show z48 = Iz11 y20 3 from ez48); have v71 : z71.toInt = (Iz58 y20 0).toInt := congrArg Int32.toInt (show z71 = Iz58 y20 0 from ez71); have v77 : z77.toInt = (Iz58 y20 2).toInt := congrArg Int32.toInt (show z77 = Iz58 y20 2 from ez77); have v92 : z92.toInt = (Iz58 y20 1).toInt := congrArg Int32.toInt (show z92 = Iz58 y20 1 from ez92); have v98 : z98.toInt = (Iz58 y20 3).toInt := congrArg Int32.toInt (show z98 = Iz58 y20 3 from ez98); have m33 : z33.toInt = mdX ((Iz11 y20 0).toInt, (Iz11 y20 1).toInt, (Iz11 y20 2).toInt, (Iz11 y20 3).toInt) := (by rw [xpz33, bz31, v24, v30]; rfl); have m51 : z51.toInt = mdY ((Iz11 y20 0).toInt, (Iz11 y20 1).toInt, (Iz11 y20 2).toInt, (Iz11 y20 3).toInt) := (by rw [xpz51, bz49, v42, v48]; rfl); have m80 : z80.toInt = mdX ((Iz58 y20 0).toInt, (Iz58 y20 1).toInt, (Iz58 y20 2).toInt, (Iz58 y20 3).toInt) := (by rw [xpz80, bz78, v71, v77]; rfl); have m101 : z101.toInt = mdY ((Iz58 y20 0).toInt, (Iz58 y20 1).toInt, (Iz58 y20 2).toInt, (Iz58 y20 3).toInt) := (by rw [xpz101, bz99, v92, v98]; rfl); have d84 : z84.toInt = mdX ((Iz58 y20 0).toInt, (Iz58 y20 1).toInt, (Iz58 y20 2).toInt, (Iz58 y20 3).toInt) - mdX ((Iz11 y20 0).toInt, (Iz11 y20 1).toInt, (Iz11 y20 2).toInt, (Iz11 y20 3).toInt) := (by omega); have d106 : z106.toInt = mdY ((Iz58 y20 0).toInt, (Iz58 y20 1).toInt, (Iz58 y20 2).toInt, (Iz58 y20 3).toInt) - mdY ((Iz11 y20 0).toInt, (Iz11 y20 1).toInt, (Iz11 y20 2).toInt, (Iz11 y20 3).toInt) := (by omega); have n113 : z113.toInt = snD ((Iz11 y20 0).toInt, (Iz11 y20 1).toInt, (Iz11 y20 2).toInt, (Iz11 y20 3).toInt) ((Iz58 y20 0).toInt, (Iz58 y20 1).toInt, (Iz58 y20 2).toInt, (Iz58 y20 3).toInt) := (by rw [show z113 = stF z84 z106 from fez113, stF_iL ⟨by omega, by omega⟩ ⟨by omega, by omega⟩, d84, d106]; rfl); have nb : 0 ≤ z113.toInt ∧ z113.toInt ≤ 2200 := (by rw [n113]; unfold snD stI; omega); have K := by_bd (k := v124_9.toInt) (n := z113.toInt) (d := z84.toInt) (by omega) (by omega) ⟨by omega, by omega⟩; have K2 := by_bd (k := v124_9.toInt) (n := z113.toInt) (d := z106.toInt) (by omega) (by omega) ⟨by omega, by omega⟩; have i139 : z139.toInt = byI v124_9.toInt z84.toInt z113.toInt := (by rw [show z139 = byF v124_9 z84 z113 from fez139]; exact byF_iL ⟨by omega, by omega⟩ ⟨by omega, by omega⟩ ⟨by omega, by omega⟩); have i151 : z151.toInt = byI v124_9.toInt z106.toInt z113.toInt := (by rw [show z151 = byF v124_9 z106 z113 from fez151]; exact byF_iL ⟨by omega, by omega⟩ ⟨by omega, by omega⟩ ⟨by omega, by omega⟩); rw [← i139] at K; rw [← i151] at K2; rw [d84, n113] at i139; rw [d106, n113] at i151; have s142 : z142 = snX ((Iz11 y20 0).toInt, (Iz11 y20 1).toInt, (Iz11 y20 2).toInt, (Iz11 y20 3).toInt) ((Iz58 y20 0).toInt, (Iz58 y20 1).toInt, (Iz58 y20 2).toInt, (Iz58 y20 3).toInt) v124_9.toInt := ry_of (tq_add ez142 m33 i139 (by omega) (by omega)); have s154 : z154 = snY ((Iz11 y20 0).toInt, (Iz11 y20 1).toInt, (Iz11 y20 2).toInt, (Iz11 y20 3).toInt) ((Iz58 y20 0).toInt, (Iz58 y20 1).toInt, (Iz58 y20 2).toInt, (Iz58 y20 3).toInt) v124_9.toInt := ry_of (tq_add ez154 m51 i151 (by omega) (by omega)); have w := th_bits (fun o => xpz155 σ.1 ok (cmA_rI h58) (cmA_rJ h58) o) (by have := ok.2.1; omega) ez166 ez168 ez169 ez172 ez174 ez175 ⟨by omega, by omega⟩ ⟨by omega, by omega⟩; rw [s142, s154] at w; have g := g124 σ ok h; have b := nK_b (snP σ.1 p1.toInt.toNat p2.toInt.toNat ((Iz11 y20 0).toInt, (Iz11 y20 1).toInt, (Iz11 y20 2).toInt, (Iz11 y20 3).toInt) ((Iz58 y20 0).toInt, (Iz58 y20 1).toInt, (Iz58 y20 2).toInt, (Iz58 y20 3).toInt)) v124_9.toInt.toNat; by_cases k : w184_1.toInt = 0; (have z0 := xpz184.1 k; have a := tq_add (k := v124_8.toInt) (q := z184.toInt) ez187 rfl rfl (by omega) (by omega); rw [a, z0, Int.add_zero, g]; exact (nK_no (by omega) bz190 (fun p => (w.mpr p) (g184.mp k))).symm); (have z1 := xpz184.2 k; have a := tq_add (k := v124_8.toInt) (q := z184.toInt) ez187 rfl rfl (by omega) (by omega); rw [a, z1, g]; exact (nK_yes (by omega) bz190 (w.mp (fun q => k (g184.mpr q)))).symm)) hP hS (lv_sub hl [2, 3, 4, 5, 6, 7, 8, 9, 1, 0] rfl)
            refine lv_if_eq (tgt := 183) hx hb dX7_seen_176 (by decide) (fun c176 => ?_) (fun c176 => ?_)
            · have t176 := tq_eq (k := z175.toInt) (q := (0)) c176 rfl (by decide +kernel)
              refine lv_iconst (v := 0) hx hb dX7_seen_183 (by decide +kernel) ?_
              exact j184 0 _ _ _ ⟨by decide +kernel, by decide +kernel⟩ ⟨fun _ => t176, fun _ => by decide +kernel⟩ hP hS (lv_sub hl [1, 2, 3, 4, 5, 6, 7, 8, 9, 10, 0] rfl)
            · have t176 := tq_ne (k := z175.toInt) (q := (0)) c176 rfl (by decide +kernel)
              refine lv_iconst (v := 1) hx hb dX7_seen_179 (by decide +kernel) ?_
              refine lv_goto (tgt := 184) hx hb dX7_seen_180 (by decide) ?_
              exact j184 1 _ _ _ ⟨by decide +kernel, by decide +kernel⟩ ⟨fun q => absurd q (by decide +kernel), fun q => absurd q t176⟩ hP hS (lv_sub hl [1, 2, 3, 4, 5, 6, 7, 8, 9, 10, 0] rfl))
        exact key124 _ 0 0 _ _ _ rfl ⟨by decide +kernel, by rw [show (0 : Int32).toInt = 0 from by decide +kernel]; omega⟩ (fun σ ok h => (show (0 : Int32).toInt = 0 by decide +kernel).trans (nK_0 (by decide +kernel)).symm) hP hS (lv_sub hl [7, 8, 9, 6, 5, 4, 3, 2, 1, 0] rfl)
      · have t61 := tq_eq (k := z58.toInt) (q := (0)) c61 rfl (by decide +kernel)
        refine lv_iconst (v := (-1)) hx hb dX7_seen_64 (by decide +kernel) ?_
        subst hR; subst hQz
        exact W.iret (v := (-1)) hx hb hr (fun t ht hW => ⟨⟨(-1), (), rfl, (fun σ ok h => by refine ⟨fun w => ?_, fun _ => by decide +kernel⟩; exfalso; obtain ⟨w1, ⟨u1, u2, w2⟩, ⟨u3, u4, w3⟩⟩ := w; unfold twV at w1; first | (rw [← cm_1 h] at w1; exact (xpz3.mpr w1) t6) | (have t := xpz3.mp t6; rw [cm_1 h] at t; have h11 := cmA_fr (I1 := Iz11) (J1 := J) hQ hLp0 hKp0 (fun b hb => fr_Iz11 b (by omega)) (fun _ _ => rfl) kp0_11_Iz11 h; have fE := fz11 σ.1 ok (cmA_rI h) (cmA_rJ h) (show p1.toInt.toNat < _ by omega); have k := fE.1 t14 u1 u2; rw [k] at w2; cases w2) | (have t := xpz3.mp t6; rw [cm_1 h] at t; have h11 := cmA_fr (I1 := Iz11) (J1 := J) hQ hLp0 hKp0 (fun b hb => fr_Iz11 b (by omega)) (fun _ _ => rfl) kp0_11_Iz11 h; have fE := fz11 σ.1 ok (cmA_rI h) (cmA_rJ h) (show p1.toInt.toNat < _ by omega); have fF := fz58 σ.1 ok (cmA_rI h11) (cmA_rJ h11) (show p2.toInt.toNat < _ by omega); have k := fF.1 t61 u3 u4; rw [k] at w3; cases w3)), ⟨Iz58, J, ⟨hIz58, fr_Iz58, kp0_11_Iz58, dn_Iz58, (fun σ A => cmA_fr hQ hLp0 hKp0 (fun b hb => fr_Iz58 b (by omega)) (fun _ _ => rfl) kp0_11_Iz58 A), dj_J⟩, by rw [ht]; exact hP⟩⟩, hS.F ht⟩) hS.2.2 dX7_seen_65
    · have t14 := tq_eq (k := z11.toInt) (q := (0)) c14 rfl (by decide +kernel)
      refine lv_iconst (v := (-1)) hx hb dX7_seen_17 (by decide +kernel) ?_
      subst hR; subst hQz
      exact W.iret (v := (-1)) hx hb hr (fun t ht hW => ⟨⟨(-1), (), rfl, (fun σ ok h => by refine ⟨fun w => ?_, fun _ => by decide +kernel⟩; exfalso; obtain ⟨w1, ⟨u1, u2, w2⟩, ⟨u3, u4, w3⟩⟩ := w; unfold twV at w1; first | (rw [← cm_1 h] at w1; exact (xpz3.mpr w1) t6) | (have t := xpz3.mp t6; rw [cm_1 h] at t; have h11 := cmA_fr (I1 := Iz11) (J1 := J) hQ hLp0 hKp0 (fun b hb => fr_Iz11 b (by omega)) (fun _ _ => rfl) kp0_11_Iz11 h; have fE := fz11 σ.1 ok (cmA_rI h) (cmA_rJ h) (show p1.toInt.toNat < _ by omega); have k := fE.1 t14 u1 u2; rw [k] at w2; cases w2) | (have t := xpz3.mp t6; rw [cm_1 h] at t; have h11 := cmA_fr (I1 := Iz11) (J1 := J) hQ hLp0 hKp0 (fun b hb => fr_Iz11 b (by omega)) (fun _ _ => rfl) kp0_11_Iz11 h; have fE := fz11 σ.1 ok (cmA_rI h) (cmA_rJ h) (show p1.toInt.toNat < _ by omega); have fF := fz58 σ.1 ok (cmA_rI h11) (cmA_rJ h11) (show p2.toInt.toNat < _ by omega); have k := fF.1 t61 u3 u4; rw [k] at w3; cases w3)), ⟨Iz11, J, ⟨hIz11, fr_Iz11, kp0_11_Iz11, dn_Iz11, (fun σ A => cmA_fr hQ hLp0 hKp0 (fun b hb => fr_Iz11 b (by omega)) (fun _ _ => rfl) kp0_11_Iz11 A), dj_J⟩, by rw [ht]; exact hP⟩⟩, hS.F ht⟩) hS.2.2 dX7_seen_18

set_option maxHeartbeats 4000000 in
set_option maxRecDepth 100000 in
theorem s_X7_apart (l : Launch) (dC : Nat → ClassId) (dI : Nat → Nat → Nat) (cs : Nat → ClassId) (L : List Nat) (K G : Nat → Nat) (Q : Nat → Nat → Option Nat) (hQ : Sv L K G Q) (x0 m0 : Nat) (tx : GT) (tm : GT × Int) (sz : Nat) (I : Nat → Nat → Int32) (J : Nat → Nat → Int64) (hI : Iv L K x0 m0 tx tm I) (p0 : Nat) (hLp0 : p0 ∈ L) (hKp0 : K p0 = 7) (p1 : Int32) (p2 : Int32) (p3 : Int32) : Met l yX7_apart (.code yX7_apart cX7_apart 8 (some .int) :: pw) ({ frames := 4, cells := 0, slots := 0, locals := 98 }) (sP (dC, dI) cs [.ref p0, .int p1, .int p2, .int p3] sz L K I J Q) (va_Qi (fun (r : Int32) (_ : Unit) => (∀ σ : Sx, okF σ.1 → cmA Q I J p0 σ → apR σ p1 p2 p3 r)) (fun _ t => sB (dC, dI) cs L K Q (fun I1 J1 => Iv L K x0 m0 tx tm I1 ∧ I1 = I ∧ (∀ σ : Sx, cmA Q I J p0 σ → cmA Q I1 J1 p0 σ) ∧ (∀ b, ¬ (K b = 25) → J1 b = J b)) t) (fun q => q ∈ L ∨ sz ≤ q)) 0 0 (fun q => q ∈ L ∨ sz ≤ q) := by
  refine Met.ofW (cc := cX7_apart) (maxL := 8) (ret := (some .int)) (by decide +kernel) rfl ?_
  intro p e s m args below meth c s₁ B hml hv
  obtain ⟨rfl, hsz, hP, hK, hD0, hN⟩ := hv
  have hx := B.exec
  have hb := B.bytes
  have hr := B.returns
  have hts := fun w (h : w ∈ pw) => atoms_spec (ws := Cond.code yX7_apart cX7_apart 8 (some .int) :: pw) B.pre w (List.mem_cons_of_mem _ h)
  have hown : s.vm.findClass RX7 = some m.cls := findClass_of_methodNamed B.named
  have hlocks := B.notSynchronized
  subst hsz
  have hBB : 999 ≤ tm.2 ∧ tm.2 ≤ 6000000 := hI.2.2.2.2.1
  have dj_J : (∀ b, ¬ (K b = 25) → J b = J b) := fun _ _ => rfl
  obtain ⟨A, hAe⟩ : ∃ A : Nat → Prop, A = (fun q => q ∈ L ∨ s.heap.size ≤ q) := ⟨_, rfl⟩
  rw [← hAe]
  have hAL : ∀ q, q ∈ L → A q := fun q h => by rw [hAe]; exact Or.inl h
  have hA : ∀ q, s.heap.size ≤ q → A q := fun q h => by rw [hAe]; exact Or.inr h
  have hD : ∀ F, va_D A (va_pl L F) := fun F => (hD0 F).weaken (fun k q hk _ => hAL _ (pl_mem hk))
  obtain ⟨H, hHe⟩ : ∃ H : Heap, H = s.heap := ⟨_, rfl⟩
  have hS : va_S A s.heap H [] := by rw [hHe]; exact va_S.rf
  rw [← hHe] at hP
  have hl := lv_entry ([.ref p0, .int p1, .int p2, .int p3]) (n := 8) (Nat.le_of_ble_eq_true rfl)
  rw [lg_entry_eq]
  generalize (lg_sl ([.ref p0, .int p1, .int p2, .int p3]) ++ List.replicate (8 - (lg_sl ([.ref p0, .int p1, .int p2, .int p3])).length) Slot.unset).toArray = ls at hl ⊢
  have hl : lv_has ls 8 [(0, .ref p0), (1, .int p1), (2, .int p2), (3, .int p3)] := hl
  rw [← hHe]
  refine namedW (fun R Qz hR hQz => ?_)
  refine lv_aload_n hx hb dX7_apart_0 rfl (lv_at hl 0 rfl) ?_
  refine lv_iload_n hx hb dX7_apart_1 rfl (lv_at hl 1 rfl) ?_
  refine lv_iload_n hx hb dX7_apart_2 rfl (lv_at hl 2 rfl) ?_
  refine ro_i (va_runV (As := [.int p1, .int p2]) (rest := []) ⟨hx, hb, hml, hown, hts⟩ (s_X7_areTwo l dC dI cs L K G Q hQ x0 m0 tx tm H.size I J hI p0 hLp0 hKp0 p1 p2) (cwV 2 hts (gV pq1571 pq1573 pq62 pq81 pq1574) rfl rfl rfl (by decide +kernel) ⟨(by rw [hR]; exact (Nat.le_of_ble_eq_true rfl)), (by rw [hR]; exact (Nat.le_of_ble_eq_true rfl))⟩) (sP_V hP hD hK hN hLp0 hKp0 rfl rfl) rfl rfl hl.1 rfl (lv_room (Nat.le_of_ble_eq_true rfl)) dX7_apart_3 ⟨(by rw [hR]; exact (Nat.le_of_ble_eq_true rfl)), (by rw [hR]; exact (Nat.le_of_ble_eq_true rfl))⟩) hS hP (fun z3 H locs hz3 hP hS => ?_)
  obtain ⟨bz3, imz3, xpz3⟩ := hz3
  refine lv_if_eq (tgt := 21) hx hb dX7_apart_6 (by decide) (fun c6 => ?_) (fun c6 => ?_)
  · have t6 := tq_eq (k := z3.toInt) (q := (0)) c6 rfl (by decide +kernel)
    refine lv_sipush (v := (-2000)) hx hb dX7_apart_21 (by decide +kernel) ?_
    subst hR; subst hQz
    exact W.iret (v := (-2000)) hx hb hr (fun t ht hW => ⟨⟨(-2000), (), rfl, (fun σ ok h => by have e := cm_1 h; exact ⟨fun w => absurd w (fun w => by first | (have t := w.1; unfold twV at t; rw [← e] at t; exact (xpz3.mpr t) t6) | exact xpz15 t18 ⟨by have a := w.2; omega, by have a := w.2; omega⟩), fun _ => by decide +kernel⟩), ⟨I, J, ⟨hI, rfl, (fun σ A => cmA_fr hQ hLp0 hKp0 (fun _ _ => rfl) (fun _ _ => rfl) rfl A), dj_J⟩, by rw [ht]; exact hP⟩⟩, hS.F ht⟩) hS.2.2 dX7_apart_24
  · have t6 := tq_ne (k := z3.toInt) (q := (0)) c6 rfl (by decide +kernel)
    have i6 := imz3 t6
    refine lv_iload_n hx hb dX7_apart_9 rfl (lv_at hl 3 rfl) ?_
    refine lv_i2l hx hb dX7_apart_10 rfl ?_
    refine lv_topl (fun z10 ez10 => ?_)
    have bz10 := tq_i2l (k := p3.toInt) ez10 rfl
    refine lv_lconst (v := 0) hx hb dX7_apart_11 (by decide +kernel) ?_
    refine lv_ldc2 hx hb hown (hts _ pq1595) dX7_apart_12 ?_
    refine ro_i (va_runS (As := [.long z10, .long 0, .long 2]) (rest := []) ⟨hx, hb, hml, hown, hts⟩ (s_X7_in l dC dI cs L K Q H.size I J z10 0 2) (va_cwS 3 hts (gS pq1234 pq1235 pq81 pq1236) rfl rfl rfl (by decide +kernel) ⟨(by rw [hR]; exact (Nat.le_of_ble_eq_true rfl)), (by rw [hR]; exact (Nat.le_of_ble_eq_true rfl))⟩) (sP_S hP hD hK hN) rfl rfl hl.1 rfl (lv_room (Nat.le_of_ble_eq_true rfl)) dX7_apart_15 ⟨(by rw [hR]; exact (Nat.le_of_ble_eq_true rfl)), (by rw [hR]; exact (Nat.le_of_ble_eq_true rfl))⟩) hS hP (fun z15 H locs hz15 hP hS => ?_)
    have csl15_0 : (0 : Int64).toInt = 0 := by decide +kernel
    have csl15_2 : (2 : Int64).toInt = 2 := by decide +kernel
    obtain ⟨bz15, imz15, xpz15⟩ := hz15
    refine lv_if_ne (tgt := 25) hx hb dX7_apart_18 (by decide) (fun c18 => ?_) (fun c18 => ?_)
    · have t18 := tq_ne (k := z15.toInt) (q := (0)) c18 rfl (by decide +kernel)
      have i18 := imz15 t18
      refine lv_aload_n hx hb dX7_apart_25 rfl (lv_at hl 0 rfl) ?_
      refine sw_v (Z := (fun I1 J1 => Iv L K x0 m0 tx tm I1 ∧ I1 = I ∧ (∀ c : Fx, okF c → rI Q I p0 c → rJ Q J p0 c → ldA Q J1 p0 c) ∧ (∀ b, ¬ (K b = 25) → J1 b = J b))) (va_runV (As := []) (rest := []) ⟨hx, hb, hml, hown, hts⟩ (s_X7_laysAll l dC dI cs L K G Q hQ x0 m0 tx tm H.size I J hI p0 hLp0 hKp0) (cwV 0 hts (gV pq1427 pq1429 pq40 pq81 pq1430) rfl rfl rfl (by decide +kernel) ⟨(by rw [hR]; exact (Nat.le_of_ble_eq_true rfl)), (by rw [hR]; exact (Nat.le_of_ble_eq_true rfl))⟩) (sP_V hP hD hK hN hLp0 hKp0 rfl rfl) rfl rfl hl.1 rfl (lv_room (Nat.le_of_ble_eq_true rfl)) dX7_apart_26 ⟨(by rw [hR]; exact (Nat.le_of_ble_eq_true rfl)), (by rw [hR]; exact (Nat.le_of_ble_eq_true rfl))⟩) hS hAL hA (fun Iz26 Jz26 H locs hz26 hIz26 hP hS => ?_)
      obtain ⟨hIz26, sm26, jz26, djc26⟩ := hIz26
      have dj_Jz26 : (∀ b, ¬ (K b = 25) → Jz26 b = J b) := fun b hc => (djc26 b (fun z => hc (by omega))).trans (dj_J b hc)
      obtain rfl : I = Iz26 := sm26.symm
      refine lv_iconst (v := 0) hx hb dX7_apart_29 (by decide +kernel) ?_
      refine lv_istore (lv' := [(4, .int 0), (0, .ref p0), (1, .int p1), (2, .int p2), (3, .int p3)]) hx hb dX7_apart_30 hl (by decide) rfl (fun ls hl => ?_)
      have key32 := blocks (fun n => ∀ (v32_4 : Int32) (H : Heap) (lo : List Loc) (ls : Array Slot), (42 - v32_4.toInt).toNat = n → ((0) ≤ v32_4.toInt ∧ v32_4.toInt ≤ 40) → (∀ σ : Sx, okF σ.1 → cmA Q I J p0 σ → apB (apP σ.1 p1.toInt.toNat p2.toInt.toNat) v32_4.toInt (-v32_4.toInt)) → va_P (dC, dI) vwCl (Wd cs L K I Jz26 Q) H → va_S A s.heap H lo → lv_has ls 8 [(0, .ref p0), (1, .int p1), (2, .int p2), (3, .int p3), (4, .int v32_4)] → W p l e R s m (([.ref p0, .int p1, .int p2, .int p3] : List Value).toArray) below meth c H lo 0 0 Qz (F0 m 32 ls [])) (by
        intro n ih32
        intro v32_4 H lo ls hmu32 bv32_4 g32 hP hS hl
        refine lv_iload hx hb dX7_apart_32 (lv_at hl 4 rfl) ?_
        refine lv_ineg hx hb dX7_apart_34 ?_
        refine lv_topi (fun z34 ez34 => ?_)
        have bz34 := tq_neg (k := v32_4.toInt) ez34 rfl (by omega) (by omega)
        refine lv_istore (lv' := [(5, .int z34), (0, .ref p0), (1, .int p1), (2, .int p2), (3, .int p3), (4, .int v32_4)]) hx hb dX7_apart_35 hl (by decide) rfl (fun ls hl => ?_)
        have key37 := blocks (fun n => ∀ (v37_5 : Int32) (H : Heap) (lo : List Loc) (ls : Array Slot), (42 - v37_5.toInt).toNat = n → ((-40) ≤ v37_5.toInt ∧ v37_5.toInt ≤ 41) → -v32_4.toInt ≤ v37_5.toInt → (∀ σ : Sx, okF σ.1 → cmA Q I J p0 σ → apB (apP σ.1 p1.toInt.toNat p2.toInt.toNat) v32_4.toInt v37_5.toInt) → (-v32_4.toInt < v37_5.toInt → ((I ((Q p0 0).getD 0) (19 + 8 * p2.toInt.toNat + 2)).toInt - (I ((Q p0 0).getD 0) (19 + 8 * p1.toInt.toNat + 2)).toInt) + v32_4.toInt ≤ 39 ∧ -39 ≤ ((I ((Q p0 0).getD 0) (19 + 8 * p2.toInt.toNat + 2)).toInt - (I ((Q p0 0).getD 0) (19 + 8 * p1.toInt.toNat + 2)).toInt) - (v37_5.toInt - 1)) → va_P (dC, dI) vwCl (Wd cs L K I Jz26 Q) H → va_S A s.heap H lo → lv_has ls 8 [(0, .ref p0), (1, .int p1), (2, .int p2), (3, .int p3), (4, .int v32_4), (5, .int v37_5)] → W p l e R s m (([.ref p0, .int p1, .int p2, .int p3] : List Value).toArray) below meth c H lo 0 0 Qz (F0 m 37 ls [])) (by
          intro n ih37
          intro v37_5 H lo ls hmu37 bv37_5 hy37 g37 h37 hP hS hl
          refine lv_iload hx hb dX7_apart_37 (lv_at hl 5 rfl) ?_
          refine lv_iload hx hb dX7_apart_39 (lv_at hl 4 rfl) ?_
          refine lv_icmp_gt (tgt := 116) hx hb dX7_apart_41 (by decide) (fun c41 => ?_) (fun c41 => ?_)
          · have t41 := tq_lt (k := v32_4.toInt) (q := v37_5.toInt) c41 rfl rfl
            obtain ⟨z116, ez116⟩ : ∃ y : Int32, y = v32_4 + 1 := ⟨_, rfl⟩
            refine lv_iinc (v := z116) (lv' := [(4, .int z116), (0, .ref p0), (1, .int p1), (2, .int p2), (3, .int p3), (5, .int v37_5)]) hx hb dX7_apart_116 hl (k := 4) rfl (by rw [ez116]; rfl) (by decide) rfl (fun ls hl => ?_)
            have bz116 := tq_add (k := v32_4.toInt) (q := 1) ez116 rfl (by decide +kernel) (by omega) (by omega)
            refine lv_goto (tgt := 32) hx hb dX7_apart_119 (by decide) ?_
            exact ih32 _ (by omega) z116 _ _ _ rfl ⟨by omega, by omega⟩ (fun σ ok h => by exact ap_nd (g37 σ ok h) (by omega) (by omega) (by omega)) hP hS (lv_sub hl [1, 2, 3, 4, 0] rfl)
          · have t41 := tq_nlt (k := v32_4.toInt) (q := v37_5.toInt) c41 rfl rfl
            refine lv_iload hx hb dX7_apart_44 (lv_at hl 4 rfl) ?_
            refine lv_iload hx hb dX7_apart_46 (lv_at hl 5 rfl) ?_
            refine va_mabs hx hb (hml.trans hl.1.symm) hown (hts _ pq1442) (hts _ pq747) (hts _ pq82) (hts _ pq748) (by rw [hR]; exact (Nat.le_of_ble_eq_true rfl)) (by rw [hR]; exact (Nat.le_of_ble_eq_true rfl)) (by rw [hR]; exact (Nat.le_of_ble_eq_true rfl)) (by rw [hR]; exact (Nat.le_of_ble_eq_true rfl)) dX7_apart_48 ?_
            refine lv_topi (fun z48 ez48 => ?_)
            have bz48 := tq_abs ez48 (by omega)
            refine lv_isub hx hb dX7_apart_51 ?_
            refine lv_topi (fun z51 ez51 => ?_)
            have bz51 := tq_sub (k := v32_4.toInt) (q := z48.toInt) ez51 rfl rfl (by omega) (by omega)
            refine lv_istore (lv' := [(6, .int z51), (0, .ref p0), (1, .int p1), (2, .int p2), (3, .int p3), (4, .int v32_4), (5, .int v37_5)]) hx hb dX7_apart_52 hl (by decide) rfl (fun ls hl => ?_)
            refine lv_iconst (v := (-1)) hx hb dX7_apart_54 (by decide +kernel) ?_
            refine lv_istore (lv' := [(7, .int (-1)), (6, .int z51), (0, .ref p0), (1, .int p1), (2, .int p2), (3, .int p3), (4, .int v32_4), (5, .int v37_5)]) hx hb dX7_apart_55 hl (by decide) rfl (fun ls hl => ?_)
            have key57 := blocks (fun n => ∀ (v57_7 : Int32) (H : Heap) (lo : List Loc) (ls : Array Slot), (4 - v57_7.toInt).toNat = n → ((-1) ≤ v57_7.toInt ∧ v57_7.toInt ≤ 3) → (v57_7.toInt = -1 ∨ v57_7.toInt = 1 ∨ v57_7.toInt = 3) → (∀ σ : Sx, okF σ.1 → cmA Q I J p0 σ → (0 < v57_7.toInt → ¬ apP σ.1 p1.toInt.toNat p2.toInt.toNat v32_4.toInt v37_5.toInt (-1)) ∧ (2 < v57_7.toInt → ¬ apP σ.1 p1.toInt.toNat p2.toInt.toNat v32_4.toInt v37_5.toInt 1)) → (-1 < v57_7.toInt → -39 ≤ ((I ((Q p0 0).getD 0) (19 + 8 * p2.toInt.toNat + 2)).toInt - (I ((Q p0 0).getD 0) (19 + 8 * p1.toInt.toNat + 2)).toInt) - v37_5.toInt ∧ ((I ((Q p0 0).getD 0) (19 + 8 * p2.toInt.toNat + 2)).toInt - (I ((Q p0 0).getD 0) (19 + 8 * p1.toInt.toNat + 2)).toInt) - v37_5.toInt ≤ 39) → va_P (dC, dI) vwCl (Wd cs L K I Jz26 Q) H → va_S A s.heap H lo → lv_has ls 8 [(0, .ref p0), (1, .int p1), (2, .int p2), (3, .int p3), (4, .int v32_4), (5, .int v37_5), (6, .int z51), (7, .int v57_7)] → W p l e R s m (([.ref p0, .int p1, .int p2, .int p3] : List Value).toArray) below meth c H lo 0 0 Qz (F0 m 57 ls [])) (by
              intro n ih57
              intro v57_7 H lo ls hmu57 bv57_7 hp57 g57 h57 hP hS hl
              refine lv_iload hx hb dX7_apart_57 (lv_at hl 7 rfl) ?_
              refine lv_iconst (v := 1) hx hb dX7_apart_59 (by decide +kernel) ?_
              refine lv_icmp_gt (tgt := 110) hx hb dX7_apart_60 (by decide) (fun c60 => ?_) (fun c60 => ?_)
              · have t60 := tq_lt (k := (1)) (q := v57_7.toInt) c60 (by decide +kernel) rfl
                obtain ⟨z110, ez110⟩ : ∃ y : Int32, y = v37_5 + 1 := ⟨_, rfl⟩
                refine lv_iinc (v := z110) (lv' := [(5, .int z110), (0, .ref p0), (1, .int p1), (2, .int p2), (3, .int p3), (4, .int v32_4), (6, .int z51), (7, .int v57_7)]) hx hb dX7_apart_110 hl (k := 5) rfl (by rw [ez110]; rfl) (by decide) rfl (fun ls hl => ?_)
                have bz110 := tq_add (k := v37_5.toInt) (q := 1) ez110 rfl (by decide +kernel) (by omega) (by omega)
                refine lv_goto (tgt := 37) hx hb dX7_apart_113 (by decide) ?_
                exact ih37 _ (by omega) z110 _ _ _ rfl ⟨by omega, by omega⟩ (by omega) (fun σ ok h => by exact ap_ny (g37 σ ok h) ((g57 σ ok h).1 (by omega)) ((g57 σ ok h).2 (by omega)) (by omega)) (fun _ => by have q := h57 (by omega); exact ⟨by omega, by omega⟩) hP hS (lv_sub hl [1, 2, 3, 4, 5, 0] rfl)
              · have t60 := tq_nlt (k := (1)) (q := v57_7.toInt) c60 (by decide +kernel) rfl
                refine lv_aload_n hx hb dX7_apart_63 rfl (lv_at hl 0 rfl) ?_
                refine lv_iload_n hx hb dX7_apart_64 rfl (lv_at hl 1 rfl) ?_
                refine lv_iload_n hx hb dX7_apart_65 rfl (lv_at hl 2 rfl) ?_
                refine lv_iload hx hb dX7_apart_66 (lv_at hl 7 rfl) ?_
                refine lv_iload hx hb dX7_apart_68 (lv_at hl 6 rfl) ?_
                refine lv_imul hx hb dX7_apart_70 ?_
                refine lv_topi (fun z70 ez70 => ?_)
                refine lv_iload hx hb dX7_apart_71 (lv_at hl 5 rfl) ?_
                refine ro_i (va_runV (As := [.int p1, .int p2, .int z70, .int v37_5]) (rest := []) ⟨hx, hb, hml, hown, hts⟩ (s_X7_meets l dC dI cs L K G Q hQ x0 m0 tx tm H.size I Jz26 hI p0 hLp0 hKp0 p1 ⟨by omega, by omega⟩ p2 ⟨by omega, by omega⟩ z70 v37_5 ⟨by omega, by omega⟩) (cwV 4 hts (gV pq1456 pq1458 pq46 pq81 pq1459) rfl rfl rfl (by decide +kernel) ⟨(by rw [hR]; exact (Nat.le_of_ble_eq_true rfl)), (by rw [hR]; exact (Nat.le_of_ble_eq_true rfl))⟩) (sP_V hP hD hK hN hLp0 hKp0 rfl rfl) rfl rfl hl.1 rfl (lv_room (Nat.le_of_ble_eq_true rfl)) dX7_apart_73 ⟨(by rw [hR]; exact (Nat.le_of_ble_eq_true rfl)), (by rw [hR]; exact (Nat.le_of_ble_eq_true rfl))⟩) hS hP (fun z73 H locs hz73 hP hS => ?_)
                obtain ⟨bz73, xpz73⟩ := hz73
                refine lv_if_ne (tgt := 104) hx hb dX7_apart_76 (by decide) (fun c76 => ?_) (fun c76 => ?_)
                · have t76 := tq_ne (k := z73.toInt) (q := (0)) c76 rfl (by decide +kernel)
                  obtain ⟨z104, ez104⟩ : ∃ y : Int32, y = v57_7 + 2 := ⟨_, rfl⟩
                  refine lv_iinc (v := z104) (lv' := [(7, .int z104), (0, .ref p0), (1, .int p1), (2, .int p2), (3, .int p3), (4, .int v32_4), (5, .int v37_5), (6, .int z51)]) hx hb dX7_apart_104 hl (k := 7) rfl (by rw [ez104]; rfl) (by decide) rfl (fun ls hl => ?_)
                  have bz104 := tq_add (k := v57_7.toInt) (q := 2) ez104 rfl (by decide +kernel) (by omega) (by omega)
                  refine lv_goto (tgt := 57) hx hb dX7_apart_107 (by decide) ?_
                  exact ih57 _ (by omega) z104 _ _ _ rfl ⟨by omega, by omega⟩ (by omega) (fun σ ok h => by have e := cm_1 h; have t := xpz3.mp t6; rw [e] at t; have e70 : z70.toInt = apS v32_4.toInt v37_5.toInt v57_7.toInt := (by unfold apS; rcases hp57 with k | k | k; (have m := tq_mul ez70 k rfl (by omega) (by omega); rw [k]; omega); (have m := tq_mul ez70 k rfl (by omega) (by omega); rw [k]; omega); omega); have b70 : -100 ≤ z70.toInt ∧ z70.toInt ≤ 100 := (by rw [e70]; unfold apS; rcases hp57 with k | k | k; (rw [k]; omega); (rw [k]; omega); omega); have k := ap_e (c := σ.1) (a := p1.toInt.toNat) (b := p2.toInt.toNat) (d := v32_4.toInt) (y := v37_5.toInt) (t := v57_7.toInt) e70; have w := xpz73.2 σ.1 ok (cmA_rI h) (jz26 σ.1 ok (cmA_rI h) (cmA_rJ h)) (show p1.toInt.toNat < _ by omega) (show p2.toInt.toNat < _ by omega) ⟨⟨by omega, by omega⟩, by omega, by omega⟩; have n : ¬ apP σ.1 p1.toInt.toNat p2.toInt.toNat v32_4.toInt v37_5.toInt v57_7.toInt := (fun q => (k.mp q) (w.mp t76)); exact ⟨fun _ => by rcases hp57 with e | e | e; (rw [e] at n; exact n); (exact (g57 σ ok h).1 (by omega)); omega, fun q => by rcases hp57 with e | e | e; (exact absurd q (by omega)); (rw [e] at n; exact n); omega⟩) (fun _ => xpz73.1 t76) hP hS (lv_sub hl [1, 2, 3, 4, 5, 6, 7, 0] rfl)
                · have t76 := tq_eq (k := z73.toInt) (q := (0)) c76 rfl (by decide +kernel)
                  refine lv_iload_n hx hb dX7_apart_79 rfl (lv_at hl 3 rfl) ?_
                  refine lv_if_ne (tgt := 88) hx hb dX7_apart_80 (by decide) (fun c80 => ?_) (fun c80 => ?_)
                  · have t80 := tq_ne (k := p3.toInt) (q := (0)) c80 rfl (by decide +kernel)
                    refine lv_iload_n hx hb dX7_apart_88 rfl (lv_at hl 3 rfl) ?_
                    refine lv_iconst (v := 1) hx hb dX7_apart_89 (by decide +kernel) ?_
                    refine lv_icmp_ne (tgt := 101) hx hb dX7_apart_90 (by decide) (fun c90 => ?_) (fun c90 => ?_)
                    · have t90 := tq_ne (k := p3.toInt) (q := (1)) c90 rfl (by decide +kernel)
                      refine lv_iload hx hb dX7_apart_101 (lv_at hl 5 rfl) ?_
                      subst hR; subst hQz
                      exact W.iret (v := v37_5) hx hb hr (fun t ht hW => ⟨⟨v37_5, (), rfl, (fun σ ok h => by have e := cm_1 h; have t := xpz3.mp t6; rw [e] at t; have e70 : z70.toInt = apS v32_4.toInt v37_5.toInt v57_7.toInt := (by unfold apS; rcases hp57 with k | k | k; (have m := tq_mul ez70 k rfl (by omega) (by omega); rw [k]; omega); (have m := tq_mul ez70 k rfl (by omega) (by omega); rw [k]; omega); omega); have b70 : -100 ≤ z70.toInt ∧ z70.toInt ≤ 100 := (by rw [e70]; unfold apS; rcases hp57 with k | k | k; (rw [k]; omega); (rw [k]; omega); omega); have k := ap_e (c := σ.1) (a := p1.toInt.toNat) (b := p2.toInt.toNat) (d := v32_4.toInt) (y := v37_5.toInt) (t := v57_7.toInt) e70; have w := xpz73.2 σ.1 ok (cmA_rI h) (jz26 σ.1 ok (cmA_rI h) (cmA_rJ h)) (show p1.toInt.toNat < _ by omega) (show p2.toInt.toNat < _ by omega) ⟨⟨by omega, by omega⟩, by omega, by omega⟩; exact ⟨fun _ => ⟨v32_4.toInt, v37_5.toInt, v57_7.toInt, ⟨⟨⟨by omega, by omega, by omega⟩, by omega⟩, k.mpr (fun m => (w.mpr m) t76), g37 σ ok h, fun e => (g57 σ ok h).1 (by omega)⟩, by unfold apA; rw [if_neg t80, if_neg t90]⟩, fun q => absurd ⟨t, by omega, by omega⟩ q⟩), ⟨I, Jz26, ⟨hI, rfl, (fun σ A => cmA_fr hQ hLp0 hKp0 (fun _ _ => rfl) (fun b hb => dj_Jz26 b (by omega)) rfl A), dj_Jz26⟩, by rw [ht]; exact hP⟩⟩, hS.F ht⟩) hS.2.2 dX7_apart_103
                    · have t90 := tq_eq (k := p3.toInt) (q := (1)) c90 rfl (by decide +kernel)
                      refine lv_iload hx hb dX7_apart_93 (lv_at hl 7 rfl) ?_
                      refine lv_iload hx hb dX7_apart_95 (lv_at hl 6 rfl) ?_
                      refine lv_imul hx hb dX7_apart_97 ?_
                      refine lv_topi (fun z97 ez97 => ?_)
                      refine lv_goto (tgt := 103) hx hb dX7_apart_98 (by decide) ?_
                      subst hR; subst hQz
                      exact W.iret (v := z97) hx hb hr (fun t ht hW => ⟨⟨z97, (), rfl, (fun σ ok h => by have e := cm_1 h; have t := xpz3.mp t6; rw [e] at t; have e70 : z70.toInt = apS v32_4.toInt v37_5.toInt v57_7.toInt := (by unfold apS; rcases hp57 with k | k | k; (have m := tq_mul ez70 k rfl (by omega) (by omega); rw [k]; omega); (have m := tq_mul ez70 k rfl (by omega) (by omega); rw [k]; omega); omega); have b70 : -100 ≤ z70.toInt ∧ z70.toInt ≤ 100 := (by rw [e70]; unfold apS; rcases hp57 with k | k | k; (rw [k]; omega); (rw [k]; omega); omega); have k := ap_e (c := σ.1) (a := p1.toInt.toNat) (b := p2.toInt.toNat) (d := v32_4.toInt) (y := v37_5.toInt) (t := v57_7.toInt) e70; have w := xpz73.2 σ.1 ok (cmA_rI h) (jz26 σ.1 ok (cmA_rI h) (cmA_rJ h)) (show p1.toInt.toNat < _ by omega) (show p2.toInt.toNat < _ by omega) ⟨⟨by omega, by omega⟩, by omega, by omega⟩; exact ⟨fun _ => ⟨v32_4.toInt, v37_5.toInt, v57_7.toInt, ⟨⟨⟨by omega, by omega, by omega⟩, by omega⟩, k.mpr (fun m => (w.mpr m) t76), g37 σ ok h, fun e => (g57 σ ok h).1 (by omega)⟩, by unfold apA; rw [if_neg t80, if_pos t90, ← e70, ez70, ez97]⟩, fun q => absurd ⟨t, by omega, by omega⟩ q⟩), ⟨I, Jz26, ⟨hI, rfl, (fun σ A => cmA_fr hQ hLp0 hKp0 (fun _ _ => rfl) (fun b hb => dj_Jz26 b (by omega)) rfl A), dj_Jz26⟩, by rw [ht]; exact hP⟩⟩, hS.F ht⟩) hS.2.2 dX7_apart_103
                  · have t80 := tq_eq (k := p3.toInt) (q := (0)) c80 rfl (by decide +kernel)
                    refine lv_iload hx hb dX7_apart_83 (lv_at hl 4 rfl) ?_
                    refine lv_goto (tgt := 103) hx hb dX7_apart_85 (by decide) ?_
                    subst hR; subst hQz
                    exact W.iret (v := v32_4) hx hb hr (fun t ht hW => ⟨⟨v32_4, (), rfl, (fun σ ok h => by have e := cm_1 h; have t := xpz3.mp t6; rw [e] at t; have e70 : z70.toInt = apS v32_4.toInt v37_5.toInt v57_7.toInt := (by unfold apS; rcases hp57 with k | k | k; (have m := tq_mul ez70 k rfl (by omega) (by omega); rw [k]; omega); (have m := tq_mul ez70 k rfl (by omega) (by omega); rw [k]; omega); omega); have b70 : -100 ≤ z70.toInt ∧ z70.toInt ≤ 100 := (by rw [e70]; unfold apS; rcases hp57 with k | k | k; (rw [k]; omega); (rw [k]; omega); omega); have k := ap_e (c := σ.1) (a := p1.toInt.toNat) (b := p2.toInt.toNat) (d := v32_4.toInt) (y := v37_5.toInt) (t := v57_7.toInt) e70; have w := xpz73.2 σ.1 ok (cmA_rI h) (jz26 σ.1 ok (cmA_rI h) (cmA_rJ h)) (show p1.toInt.toNat < _ by omega) (show p2.toInt.toNat < _ by omega) ⟨⟨by omega, by omega⟩, by omega, by omega⟩; exact ⟨fun _ => ⟨v32_4.toInt, v37_5.toInt, v57_7.toInt, ⟨⟨⟨by omega, by omega, by omega⟩, by omega⟩, k.mpr (fun m => (w.mpr m) t76), g37 σ ok h, fun e => (g57 σ ok h).1 (by omega)⟩, by unfold apA; rw [if_pos t80]⟩, fun q => absurd ⟨t, by omega, by omega⟩ q⟩), ⟨I, Jz26, ⟨hI, rfl, (fun σ A => cmA_fr hQ hLp0 hKp0 (fun _ _ => rfl) (fun b hb => dj_Jz26 b (by omega)) rfl A), dj_Jz26⟩, by rw [ht]; exact hP⟩⟩, hS.F ht⟩) hS.2.2 dX7_apart_103)
            exact key57 _ (-1) _ _ _ rfl ⟨by decide +kernel, by decide +kernel⟩ (Or.inl (by decide +kernel)) (fun σ ok h => ⟨fun q => absurd q (by rw [show (-1 : Int32).toInt = -1 from by decide +kernel]; omega), fun q => absurd q (by rw [show (-1 : Int32).toInt = -1 from by decide +kernel]; omega)⟩) (fun h => absurd h (by rw [show (-1 : Int32).toInt = -1 from by decide +kernel]; omega)) hP hS (lv_sub hl [2, 3, 4, 5, 6, 7, 1, 0] rfl))
        exact key37 _ z34 _ _ _ rfl ⟨by omega, by omega⟩ (by omega) (fun σ ok h => by rw [show z34.toInt = -v32_4.toInt by omega]; exact g32 σ ok h) (fun h => absurd h (by omega)) hP hS (lv_sub hl [1, 2, 3, 4, 5, 0] rfl))
      exact key32 _ 0 _ _ _ rfl ⟨by decide +kernel, by decide +kernel⟩ (fun σ ok h => by rw [show (0 : Int32).toInt = 0 from by decide +kernel]; exact ap_0 (by decide)) hP hS (lv_sub hl [1, 2, 3, 4, 0] rfl)
    · have t18 := tq_eq (k := z15.toInt) (q := (0)) c18 rfl (by decide +kernel)
      refine lv_sipush (v := (-2000)) hx hb dX7_apart_21 (by decide +kernel) ?_
      subst hR; subst hQz
      exact W.iret (v := (-2000)) hx hb hr (fun t ht hW => ⟨⟨(-2000), (), rfl, (fun σ ok h => by have e := cm_1 h; exact ⟨fun w => absurd w (fun w => by first | (have t := w.1; unfold twV at t; rw [← e] at t; exact (xpz3.mpr t) t6) | exact xpz15 t18 ⟨by have a := w.2; omega, by have a := w.2; omega⟩), fun _ => by decide +kernel⟩), ⟨I, J, ⟨hI, rfl, (fun σ A => cmA_fr hQ hLp0 hKp0 (fun _ _ => rfl) (fun _ _ => rfl) rfl A), dj_J⟩, by rw [ht]; exact hP⟩⟩, hS.F ht⟩) hS.2.2 dX7_apart_24

set_option maxHeartbeats 4000000 in
set_option maxRecDepth 100000 in
theorem s_X7_joinsIsland (l : Launch) (dC : Nat → ClassId) (dI : Nat → Nat → Nat) (cs : Nat → ClassId) (L : List Nat) (K G : Nat → Nat) (Q : Nat → Nat → Option Nat) (hQ : Sv L K G Q) (x0 m0 : Nat) (tx : GT) (tm : GT × Int) (sz : Nat) (I : Nat → Nat → Int32) (J : Nat → Nat → Int64) (hI : Iv L K x0 m0 tx tm I) (p0 : Nat) (hLp0 : p0 ∈ L) (hKp0 : K p0 = 7) (p1 : Int32) (bp1 : (0) ≤ p1.toInt ∧ p1.toInt ≤ 7) (p2 : Int32) (p3 : Int32) (p4 : Int32) (hq : (I p0 24).toInt ≤ (cn (I ((Q p0 21).getD 0)) 4000 : Int)) (hs : ¬ (I p0 23).toInt = -1) : Met l yX7_joinsIsland (.code yX7_joinsIsland cX7_joinsIsland 5 none :: pw) ({ frames := 2, cells := 0, slots := 0, locals := 48 }) (sP (dC, dI) cs [.ref p0, .int p1, .int p2, .int p3, .int p4] sz L K I J Q) (va_Qv (fun (_ : Unit) => True) (fun _ t => sB (dC, dI) cs L K Q (fun I1 J1 => Iv L K x0 m0 tx tm I1 ∧ (∀ b, ¬ (K b = 7 ∨ K b = 11 ∨ K b = 27) → I1 b = I b) ∧ I1 p0 11 = I p0 11 ∧ (((I1 p0 24).toInt ≤ (cn (I1 ((Q p0 21).getD 0)) 4000 : Int) ∧ (∀ k, ¬ k = 24 → I1 p0 k = I p0 k))) ∧ (∀ b, K b = 0 ∨ K b = 1 ∨ K b = 3 ∨ K b = 6 → I1 b = I b) ∧ (∀ c : Fx, okF c → rI Q I p0 c → rJ Q J p0 c → p1.toInt.toNat < (c.1 0).toInt.toNat → jnR Q I I1 p0 (dsD (c.1 (3 + p1.toInt.toNat)).toInt (c.1 (11 + p1.toInt.toNat)).toInt (mo c.2 p1.toInt.toNat) p4.toInt) p2.toInt p3.toInt) ∧ J1 = J) t) (fun q => q ∈ L ∨ sz ≤ q)) 0 0 (fun q => q ∈ L ∨ sz ≤ q) := by
  refine Met.ofW (cc := cX7_joinsIsland) (maxL := 5) (ret := none) (by decide +kernel) rfl ?_
  intro p e s m args below meth c s₁ B hml hv
  obtain ⟨rfl, hsz, hP, hK, hD0, hN⟩ := hv
  have hx := B.exec
  have hb := B.bytes
  have hr := B.returns
  have hts := fun w (h : w ∈ pw) => atoms_spec (ws := Cond.code yX7_joinsIsland cX7_joinsIsland 5 none :: pw) B.pre w (List.mem_cons_of_mem _ h)
  have hown : s.vm.findClass RX7 = some m.cls := findClass_of_methodNamed B.named
  have hlocks := B.notSynchronized
  subst hsz
  have hBB : 999 ≤ tm.2 ∧ tm.2 ≤ 6000000 := hI.2.2.2.2.1
  have dn_I : (∀ b, K b = 0 ∨ K b = 1 ∨ K b = 3 ∨ K b = 6 → I b = I b) := fun _ _ => rfl
  have dj_J : J = J := rfl
  have kp0_11_I : I p0 11 = I p0 11 := rfl
  have fr_I : ∀ b, ¬ (K b = 7 ∨ K b = 11 ∨ K b = 27) → I b = I b := fun _ _ => rfl
  obtain ⟨A, hAe⟩ : ∃ A : Nat → Prop, A = (fun q => q ∈ L ∨ s.heap.size ≤ q) := ⟨_, rfl⟩
  rw [← hAe]
  have hAL : ∀ q, q ∈ L → A q := fun q h => by rw [hAe]; exact Or.inl h
  have hA : ∀ q, s.heap.size ≤ q → A q := fun q h => by rw [hAe]; exact Or.inr h
  have hD : ∀ F, va_D A (va_pl L F) := fun F => (hD0 F).weaken (fun k q hk _ => hAL _ (pl_mem hk))
  obtain ⟨H, hHe⟩ : ∃ H : Heap, H = s.heap := ⟨_, rfl⟩
  have hS : va_S A s.heap H [] := by rw [hHe]; exact va_S.rf
  rw [← hHe] at hP
  have hl := lv_entry ([.ref p0, .int p1, .int p2, .int p3, .int p4]) (n := 5) (Nat.le_of_ble_eq_true rfl)
  rw [lg_entry_eq]
  generalize (lg_sl ([.ref p0, .int p1, .int p2, .int p3, .int p4]) ++ List.replicate (5 - (lg_sl ([.ref p0, .int p1, .int p2, .int p3, .int p4])).length) Slot.unset).toArray = ls at hl ⊢
  have hl : lv_has ls 5 [(0, .ref p0), (1, .int p1), (2, .int p2), (3, .int p3), (4, .int p4)] := hl
  rw [← hHe]
  refine namedW (fun R Qz hR hQz => ?_)
  refine lv_iload_n hx hb dX7_joinsIsland_0 rfl (lv_at hl 2 rfl) ?_
  refine lv_i2l hx hb dX7_joinsIsland_1 rfl ?_
  refine lv_topl (fun z1 ez1 => ?_)
  have bz1 := tq_i2l (k := p2.toInt) ez1 rfl
  refine lv_lconst (v := 0) hx hb dX7_joinsIsland_2 (by decide +kernel) ?_
  refine lv_aload_n hx hb dX7_joinsIsland_3 rfl (lv_at hl 0 rfl) ?_
  refine lv_iload_n hx hb dX7_joinsIsland_4 rfl (lv_at hl 1 rfl) ?_
  refine ro_i (va_runV (As := [.int p1]) (rest := [.long 0, .long z1]) ⟨hx, hb, hml, hown, hts⟩ (s_X7_wide l dC dI cs L K G Q hQ x0 m0 tx tm H.size I J hI p0 hLp0 hKp0 p1 ⟨by omega, by omega⟩) (cwV 1 hts (gV pq1368 pq1370 pq32 pq81 pq1371) rfl rfl rfl (by decide +kernel) ⟨(by rw [hR]; exact (Nat.le_of_ble_eq_true rfl)), (by rw [hR]; exact (Nat.le_of_ble_eq_true rfl))⟩) (sP_V hP hD hK hN hLp0 hKp0 rfl rfl) rfl rfl hl.1 rfl (lv_room (Nat.le_of_ble_eq_true rfl)) dX7_joinsIsland_5 ⟨(by rw [hR]; exact (Nat.le_of_ble_eq_true rfl)), (by rw [hR]; exact (Nat.le_of_ble_eq_true rfl))⟩) hS hP (fun z5 H locs hz5 hP hS => ?_)
  obtain ⟨bz5, fez5⟩ := hz5
  refine lv_iconst (v := 1) hx hb dX7_joinsIsland_8 (by decide +kernel) ?_
  refine lv_isub hx hb dX7_joinsIsland_9 ?_
  refine lv_topi (fun z9 ez9 => ?_)
  have bz9 := tq_sub (k := z5.toInt) (q := (1)) ez9 rfl (by decide +kernel) (by omega) (by omega)
  refine lv_i2l hx hb dX7_joinsIsland_10 rfl ?_
  refine lv_topl (fun z10 ez10 => ?_)
  have bz10 := tq_i2l (k := z9.toInt) ez10 rfl
  refine ro_i (va_runS (As := [.long z1, .long 0, .long z10]) (rest := []) ⟨hx, hb, hml, hown, hts⟩ (s_X7_in l dC dI cs L K Q H.size I J z1 0 z10) (va_cwS 3 hts (gS pq1234 pq1235 pq81 pq1236) rfl rfl rfl (by decide +kernel) ⟨(by rw [hR]; exact (Nat.le_of_ble_eq_true rfl)), (by rw [hR]; exact (Nat.le_of_ble_eq_true rfl))⟩) (sP_S hP hD hK hN) rfl rfl hl.1 rfl (lv_room (Nat.le_of_ble_eq_true rfl)) dX7_joinsIsland_11 ⟨(by rw [hR]; exact (Nat.le_of_ble_eq_true rfl)), (by rw [hR]; exact (Nat.le_of_ble_eq_true rfl))⟩) hS hP (fun z11 H locs hz11 hP hS => ?_)
  have csl11_0 : (0 : Int64).toInt = 0 := by decide +kernel
  obtain ⟨bz11, imz11, xpz11⟩ := hz11
  refine lv_if_eq (tgt := 61) hx hb dX7_joinsIsland_14 (by decide) (fun c14 => ?_) (fun c14 => ?_)
  · have t14 := tq_eq (k := z11.toInt) (q := (0)) c14 rfl (by decide +kernel)
    subst hR; subst hQz
    exact W.vret hx hb hr (fun t ht hW => ⟨⟨(), rfl, trivial, ⟨I, J, ⟨hI, fr_I, kp0_11_I, ⟨hq, fun _ _ => rfl⟩, dn_I, (fun c ok h hj hm => by have e5 : z5.toInt = (c.1 (3 + p1.toInt.toNat)).toInt := congrArg Int32.toInt ((show z5 = I (a0 Q p0 0) (3 + p1.toInt.toNat) from fez5).trans (h _ (by omega))); refine ⟨fun _ => ⟨rfl, rfl, rfl⟩, fun o => ?_⟩; exfalso; have o2 := opA_t.mp o; have o3 := dsD_t.mp o2.1; first | exact xpz11 t14 ⟨by omega, by omega⟩ | (have e22 : z22.toInt = (c.1 (11 + p1.toInt.toNat)).toInt := congrArg Int32.toInt ((show z22 = I (a0 Q p0 0) (11 + p1.toInt.toNat) from fez22).trans (h _ (by omega))); exact xpz28 t31 ⟨by omega, by omega⟩) | (have o4 := o2.2; rw [show a0 Q p0 21 = y35 from gd_of ey35, show (100 * p3.toInt + p2.toInt).toNat = z43.toNatClampNeg from (by show _ = z43.toInt.toNat; omega), ← ez44] at o4; exact t46 (by rw [o4]; decide +kernel)) | (have q53 : z53.toInt = bi (md (mo c.2 p1.toInt.toNat) p2.toInt p3.toInt) := (by rw [xpz53, hs_congr (f := rF Q J p0 p1.toInt.toNat) (g := mo c.2 p1.toInt.toNat) (congrArg Int32.toInt (h (3 + p1.toInt.toNat) (by omega))) (congrArg Int32.toInt (h (11 + p1.toInt.toNat) (by omega))) (fun k hk => hj (80 * p1.toInt.toNat + k) (by omega)), hs_of (ok.2.2.1 _ hm).2.2]); exact t58 (q53.trans o3.2))), dj_J⟩, by rw [ht]; exact hP⟩⟩, hS.F ht⟩) hS.2.2 dX7_joinsIsland_61
  · have t14 := tq_ne (k := z11.toInt) (q := (0)) c14 rfl (by decide +kernel)
    have i14 := imz11 t14
    refine lv_iload_n hx hb dX7_joinsIsland_17 rfl (lv_at hl 3 rfl) ?_
    refine lv_i2l hx hb dX7_joinsIsland_18 rfl ?_
    refine lv_topl (fun z18 ez18 => ?_)
    have bz18 := tq_i2l (k := p3.toInt) ez18 rfl
    refine lv_lconst (v := 0) hx hb dX7_joinsIsland_19 (by decide +kernel) ?_
    refine lv_aload_n hx hb dX7_joinsIsland_20 rfl (lv_at hl 0 rfl) ?_
    refine lv_iload_n hx hb dX7_joinsIsland_21 rfl (lv_at hl 1 rfl) ?_
    refine ro_i (va_runV (As := [.int p1]) (rest := [.long 0, .long z18]) ⟨hx, hb, hml, hown, hts⟩ (s_X7_high l dC dI cs L K G Q hQ x0 m0 tx tm H.size I J hI p0 hLp0 hKp0 p1 ⟨by omega, by omega⟩) (cwV 1 hts (gV pq1372 pq1374 pq33 pq81 pq1375) rfl rfl rfl (by decide +kernel) ⟨(by rw [hR]; exact (Nat.le_of_ble_eq_true rfl)), (by rw [hR]; exact (Nat.le_of_ble_eq_true rfl))⟩) (sP_V hP hD hK hN hLp0 hKp0 rfl rfl) rfl rfl hl.1 rfl (lv_room (Nat.le_of_ble_eq_true rfl)) dX7_joinsIsland_22 ⟨(by rw [hR]; exact (Nat.le_of_ble_eq_true rfl)), (by rw [hR]; exact (Nat.le_of_ble_eq_true rfl))⟩) hS hP (fun z22 H locs hz22 hP hS => ?_)
    obtain ⟨bz22, fez22⟩ := hz22
    refine lv_iconst (v := 1) hx hb dX7_joinsIsland_25 (by decide +kernel) ?_
    refine lv_isub hx hb dX7_joinsIsland_26 ?_
    refine lv_topi (fun z26 ez26 => ?_)
    have bz26 := tq_sub (k := z22.toInt) (q := (1)) ez26 rfl (by decide +kernel) (by omega) (by omega)
    refine lv_i2l hx hb dX7_joinsIsland_27 rfl ?_
    refine lv_topl (fun z27 ez27 => ?_)
    have bz27 := tq_i2l (k := z26.toInt) ez27 rfl
    refine ro_i (va_runS (As := [.long z18, .long 0, .long z27]) (rest := []) ⟨hx, hb, hml, hown, hts⟩ (s_X7_in l dC dI cs L K Q H.size I J z18 0 z27) (va_cwS 3 hts (gS pq1234 pq1235 pq81 pq1236) rfl rfl rfl (by decide +kernel) ⟨(by rw [hR]; exact (Nat.le_of_ble_eq_true rfl)), (by rw [hR]; exact (Nat.le_of_ble_eq_true rfl))⟩) (sP_S hP hD hK hN) rfl rfl hl.1 rfl (lv_room (Nat.le_of_ble_eq_true rfl)) dX7_joinsIsland_28 ⟨(by rw [hR]; exact (Nat.le_of_ble_eq_true rfl)), (by rw [hR]; exact (Nat.le_of_ble_eq_true rfl))⟩) hS hP (fun z28 H locs hz28 hP hS => ?_)
    have csl28_0 : (0 : Int64).toInt = 0 := by decide +kernel
    obtain ⟨bz28, imz28, xpz28⟩ := hz28
    refine lv_if_eq (tgt := 61) hx hb dX7_joinsIsland_31 (by decide) (fun c31 => ?_) (fun c31 => ?_)
    · have t31 := tq_eq (k := z28.toInt) (q := (0)) c31 rfl (by decide +kernel)
      subst hR; subst hQz
      exact W.vret hx hb hr (fun t ht hW => ⟨⟨(), rfl, trivial, ⟨I, J, ⟨hI, fr_I, kp0_11_I, ⟨hq, fun _ _ => rfl⟩, dn_I, (fun c ok h hj hm => by have e5 : z5.toInt = (c.1 (3 + p1.toInt.toNat)).toInt := congrArg Int32.toInt ((show z5 = I (a0 Q p0 0) (3 + p1.toInt.toNat) from fez5).trans (h _ (by omega))); refine ⟨fun _ => ⟨rfl, rfl, rfl⟩, fun o => ?_⟩; exfalso; have o2 := opA_t.mp o; have o3 := dsD_t.mp o2.1; first | exact xpz11 t14 ⟨by omega, by omega⟩ | (have e22 : z22.toInt = (c.1 (11 + p1.toInt.toNat)).toInt := congrArg Int32.toInt ((show z22 = I (a0 Q p0 0) (11 + p1.toInt.toNat) from fez22).trans (h _ (by omega))); exact xpz28 t31 ⟨by omega, by omega⟩) | (have o4 := o2.2; rw [show a0 Q p0 21 = y35 from gd_of ey35, show (100 * p3.toInt + p2.toInt).toNat = z43.toNatClampNeg from (by show _ = z43.toInt.toNat; omega), ← ez44] at o4; exact t46 (by rw [o4]; decide +kernel)) | (have q53 : z53.toInt = bi (md (mo c.2 p1.toInt.toNat) p2.toInt p3.toInt) := (by rw [xpz53, hs_congr (f := rF Q J p0 p1.toInt.toNat) (g := mo c.2 p1.toInt.toNat) (congrArg Int32.toInt (h (3 + p1.toInt.toNat) (by omega))) (congrArg Int32.toInt (h (11 + p1.toInt.toNat) (by omega))) (fun k hk => hj (80 * p1.toInt.toNat + k) (by omega)), hs_of (ok.2.2.1 _ hm).2.2]); exact t58 (q53.trans o3.2))), dj_J⟩, by rw [ht]; exact hP⟩⟩, hS.F ht⟩) hS.2.2 dX7_joinsIsland_61
    · have t31 := tq_ne (k := z28.toInt) (q := (0)) c31 rfl (by decide +kernel)
      have i31 := imz28 t31
      refine lv_aload_n hx hb dX7_joinsIsland_34 rfl (lv_at hl 0 rfl) ?_
      obtain ⟨y35, ey35, hLy35, hKy35⟩ := oQ_7_21 (Sv_at hQ hLp0 hKp0)
      refine p_get (v := .ref y35) hx hb hts inX7 hown hK hP hLp0 hKp0 rfl rfl 21 (by decide) (hts _ pq1136) (congrArg (fun q => some (va_rf q)) ey35) dX7_joinsIsland_35 ?_
      refine lv_bipush (v := 100) hx hb dX7_joinsIsland_38 (by decide +kernel) ?_
      refine lv_iload_n hx hb dX7_joinsIsland_40 rfl (lv_at hl 3 rfl) ?_
      refine lv_imul hx hb dX7_joinsIsland_41 ?_
      refine lv_topi (fun z41 ez41 => ?_)
      have bz41 := tq_mul (k := (100)) (q := p3.toInt) ez41 (by decide +kernel) rfl (by omega) (by omega)
      refine lv_iload_n hx hb dX7_joinsIsland_42 rfl (lv_at hl 2 rfl) ?_
      refine lv_iadd hx hb dX7_joinsIsland_43 ?_
      refine lv_topi (fun z43 ez43 => ?_)
      have bz43 := tq_add (k := z41.toInt) (q := p2.toInt) ez43 rfl rfl (by omega) (by omega)
      refine p_iald hx hb hK hP 17 hLy35 hKy35 rfl rfl (in_of (by omega) (by omega)) dX7_joinsIsland_44 ?_
      refine lv_topi (fun z44 ez44 => ?_)
      refine lv_iconst (v := (-1)) hx hb dX7_joinsIsland_45 (by decide +kernel) ?_
      refine lv_icmp_ne (tgt := 61) hx hb dX7_joinsIsland_46 (by decide) (fun c46 => ?_) (fun c46 => ?_)
      · have t46 := tq_ne (k := z44.toInt) (q := (-1)) c46 rfl (by decide +kernel)
        subst hR; subst hQz
        exact W.vret hx hb hr (fun t ht hW => ⟨⟨(), rfl, trivial, ⟨I, J, ⟨hI, fr_I, kp0_11_I, ⟨hq, fun _ _ => rfl⟩, dn_I, (fun c ok h hj hm => by have e5 : z5.toInt = (c.1 (3 + p1.toInt.toNat)).toInt := congrArg Int32.toInt ((show z5 = I (a0 Q p0 0) (3 + p1.toInt.toNat) from fez5).trans (h _ (by omega))); refine ⟨fun _ => ⟨rfl, rfl, rfl⟩, fun o => ?_⟩; exfalso; have o2 := opA_t.mp o; have o3 := dsD_t.mp o2.1; first | exact xpz11 t14 ⟨by omega, by omega⟩ | (have e22 : z22.toInt = (c.1 (11 + p1.toInt.toNat)).toInt := congrArg Int32.toInt ((show z22 = I (a0 Q p0 0) (11 + p1.toInt.toNat) from fez22).trans (h _ (by omega))); exact xpz28 t31 ⟨by omega, by omega⟩) | (have o4 := o2.2; rw [show a0 Q p0 21 = y35 from gd_of ey35, show (100 * p3.toInt + p2.toInt).toNat = z43.toNatClampNeg from (by show _ = z43.toInt.toNat; omega), ← ez44] at o4; exact t46 (by rw [o4]; decide +kernel)) | (have q53 : z53.toInt = bi (md (mo c.2 p1.toInt.toNat) p2.toInt p3.toInt) := (by rw [xpz53, hs_congr (f := rF Q J p0 p1.toInt.toNat) (g := mo c.2 p1.toInt.toNat) (congrArg Int32.toInt (h (3 + p1.toInt.toNat) (by omega))) (congrArg Int32.toInt (h (11 + p1.toInt.toNat) (by omega))) (fun k hk => hj (80 * p1.toInt.toNat + k) (by omega)), hs_of (ok.2.2.1 _ hm).2.2]); exact t58 (q53.trans o3.2))), dj_J⟩, by rw [ht]; exact hP⟩⟩, hS.F ht⟩) hS.2.2 dX7_joinsIsland_61
      · have t46 := tq_eq (k := z44.toInt) (q := (-1)) c46 rfl (by decide +kernel)
        refine lv_aload_n hx hb dX7_joinsIsland_49 rfl (lv_at hl 0 rfl) ?_
        refine lv_iload_n hx hb dX7_joinsIsland_50 rfl (lv_at hl 1 rfl) ?_
        refine lv_iload_n hx hb dX7_joinsIsland_51 rfl (lv_at hl 2 rfl) ?_
        refine lv_iload_n hx hb dX7_joinsIsland_52 rfl (lv_at hl 3 rfl) ?_
        refine ro_i (va_runV (As := [.int p1, .int p2, .int p3]) (rest := []) ⟨hx, hb, hml, hown, hts⟩ (s_X7_has l dC dI cs L K G Q hQ x0 m0 tx tm H.size I J hI p0 hLp0 hKp0 p1 ⟨by omega, by omega⟩ p2 p3) (cwV 3 hts (gV pq1376 pq1378 pq34 pq81 pq1379) rfl rfl rfl (by decide +kernel) ⟨(by rw [hR]; exact (Nat.le_of_ble_eq_true rfl)), (by rw [hR]; exact (Nat.le_of_ble_eq_true rfl))⟩) (sP_V hP hD hK hN hLp0 hKp0 rfl rfl) rfl rfl hl.1 rfl (lv_room (Nat.le_of_ble_eq_true rfl)) dX7_joinsIsland_53 ⟨(by rw [hR]; exact (Nat.le_of_ble_eq_true rfl)), (by rw [hR]; exact (Nat.le_of_ble_eq_true rfl))⟩) hS hP (fun z53 H locs hz53 hP hS => ?_)
        obtain ⟨bz53, imz53, xpz53⟩ := hz53
        refine lv_iload hx hb dX7_joinsIsland_56 (lv_at hl 4 rfl) ?_
        refine lv_icmp_eq (tgt := 62) hx hb dX7_joinsIsland_58 (by decide) (fun c58 => ?_) (fun c58 => ?_)
        · have t58 := tq_eq (k := z53.toInt) (q := p4.toInt) c58 rfl rfl
          have hm1 : I y35 z43.toNatClampNeg = -1 := by rw [← ez44]; exact Int32.toInt_inj.mp (t46.trans (by decide +kernel))
          have hq2 : (I p0 24).toInt ≤ (cn (I y35) 4000 : Int) := by have := hq; rw [ey35] at this; exact this
          have hlt := cn_lt (n := 4000) (by show z43.toInt.toNat < 4000; omega) hm1
          refine lv_aload_n hx hb dX7_joinsIsland_62 rfl (lv_at hl 0 rfl) ?_
          refine p_get (v := .ref y35) hx hb hts inX7 hown hK hP hLp0 hKp0 rfl rfl 21 (by decide) (hts _ pq1136) (congrArg (fun q => some (va_rf q)) ey35) dX7_joinsIsland_63 ?_
          refine lv_bipush (v := 100) hx hb dX7_joinsIsland_66 (by decide +kernel) ?_
          refine lv_iload_n hx hb dX7_joinsIsland_68 rfl (lv_at hl 3 rfl) ?_
          refine lv_imul hx hb dX7_joinsIsland_69 ?_
          refine lv_topi (fun z69 ez69 => ?_)
          have bz69 := tq_mul (k := (100)) (q := p3.toInt) ez69 (by decide +kernel) rfl (by omega) (by omega)
          refine lv_iload_n hx hb dX7_joinsIsland_70 rfl (lv_at hl 2 rfl) ?_
          refine lv_iadd hx hb dX7_joinsIsland_71 ?_
          refine lv_topi (fun z71 ez71 => ?_)
          have bz71 := tq_add (k := z69.toInt) (q := p2.toInt) ez71 rfl rfl (by omega) (by omega)
          refine lv_aload_n hx hb dX7_joinsIsland_72 rfl (lv_at hl 0 rfl) ?_
          refine p_get hx hb hts inX7 hown hK hP hLp0 hKp0 rfl rfl 23 (by decide) (hts _ pq1138) rfl dX7_joinsIsland_73 ?_
          refine lv_topi (fun z73 ez73 => ?_)
          have cgz73 := congrArg Int32.toInt ez73
          have ez73b : z73 = I p0 23 := ez73
          refine p_iast hx hb hK hP hD hS 17 hLy35 hKy35 rfl (fun _ => rfl) rfl (in_of (by omega) (by omega)) dX7_joinsIsland_76 (fun H locs hP hS => ?_)
          obtain ⟨Iz76, hP, hIz76, qIz76⟩ : ∃ Iz76, va_P (dC, dI) vwCl (Wd cs L K Iz76 J Q) H ∧ Iv L K x0 m0 tx tm Iz76 ∧ Iz76 = va_up I y35 (upd (I y35) z71.toNatClampNeg z73) := ⟨_, hP, Iv_put hI hKy35 (show okI _ 27 _ from trivial) (Or.inl (by decide)) (Or.inl (by decide)), rfl⟩
          have dn_Iz76 : (∀ b, K b = 0 ∨ K b = 1 ∨ K b = 3 ∨ K b = 6 → Iz76 b = I b) := fun b hc => (congrFun qIz76 b).trans ((va_up_ne _ _ (fun z => by have q := hKy35; rw [← z] at q; omega)).trans (dn_I b hc))
          have kp0_11_Iz76 : Iz76 p0 11 = I p0 11 := (congrFun (congrFun qIz76 p0) 11).trans ((congrFun (va_up_ne _ _ (fun z => by have q1 := hKp0; have q2 := hKy35; rw [z] at q1; omega)) 11).trans kp0_11_I)
          have fr_Iz76 : ∀ b, ¬ (K b = 7 ∨ K b = 11 ∨ K b = 27) → Iz76 b = I b := fun b q => (congrFun qIz76 b).trans ((va_up_ne _ _ (fun z => q (by rw [z]; have := hKy35; omega))).trans (fr_I b q))
          refine lv_aload_n hx hb dX7_joinsIsland_77 rfl (lv_at hl 0 rfl) ?_
          obtain ⟨y78, ey78, hLy78, hKy78⟩ := oQ_7_22 (Sv_at hQ hLp0 hKp0)
          refine p_get (v := .ref y78) hx hb hts inX7 hown hK hP hLp0 hKp0 rfl rfl 22 (by decide) (hts _ pq1137) (congrArg (fun q => some (va_rf q)) ey78) dX7_joinsIsland_78 ?_
          refine lv_aload_n hx hb dX7_joinsIsland_81 rfl (lv_at hl 0 rfl) ?_
          refine p_get hx hb hts inX7 hown hK hP hLp0 hKp0 rfl rfl 24 (by decide) (hts _ pq1139) rfl dX7_joinsIsland_82 ?_
          refine lv_topi (fun z82 ez82 => ?_)
          have cgz82 := congrArg Int32.toInt ez82
          have bz82 := oI_7_24 (Iv_at hIz76 hLp0 hKp0)
          rw [← ez82] at bz82
          have c82 := congrArg Int32.toInt (ez82.trans (show Iz76 p0 24 = I p0 24 by rw [qIz76, va_up_ne _ _ (ne_k hKp0 hKy35 (by decide))]))
          refine lv_bipush (v := 100) hx hb dX7_joinsIsland_85 (by decide +kernel) ?_
          refine lv_iload_n hx hb dX7_joinsIsland_87 rfl (lv_at hl 3 rfl) ?_
          refine lv_imul hx hb dX7_joinsIsland_88 ?_
          refine lv_topi (fun z88 ez88 => ?_)
          have bz88 := tq_mul (k := (100)) (q := p3.toInt) ez88 (by decide +kernel) rfl (by omega) (by omega)
          refine lv_iload_n hx hb dX7_joinsIsland_89 rfl (lv_at hl 2 rfl) ?_
          refine lv_iadd hx hb dX7_joinsIsland_90 ?_
          refine lv_topi (fun z90 ez90 => ?_)
          have bz90 := tq_add (k := z88.toInt) (q := p2.toInt) ez90 rfl rfl (by omega) (by omega)
          refine p_iast hx hb hK hP hD hS 1 hLy78 hKy78 rfl (fun _ => rfl) rfl (in_of (by omega) (by omega)) dX7_joinsIsland_91 (fun H locs hP hS => ?_)
          obtain ⟨Iz91, hP, hIz91, qIz91⟩ : ∃ Iz91, va_P (dC, dI) vwCl (Wd cs L K Iz91 J Q) H ∧ Iv L K x0 m0 tx tm Iz91 ∧ Iz91 = va_up Iz76 y78 (upd (Iz76 y78) z82.toNatClampNeg z90) := ⟨_, hP, Iv_put hIz76 hKy78 (show okI _ 11 _ from trivial) (Or.inl (by decide)) (Or.inl (by decide)), rfl⟩
          have dn_Iz91 : (∀ b, K b = 0 ∨ K b = 1 ∨ K b = 3 ∨ K b = 6 → Iz91 b = I b) := fun b hc => (congrFun qIz91 b).trans ((va_up_ne _ _ (fun z => by have q := hKy78; rw [← z] at q; omega)).trans (dn_Iz76 b hc))
          have kp0_11_Iz91 : Iz91 p0 11 = I p0 11 := (congrFun (congrFun qIz91 p0) 11).trans ((congrFun (va_up_ne _ _ (fun z => by have q1 := hKp0; have q2 := hKy78; rw [z] at q1; omega)) 11).trans kp0_11_Iz76)
          have fr_Iz91 : ∀ b, ¬ (K b = 7 ∨ K b = 11 ∨ K b = 27) → Iz91 b = I b := fun b q => (congrFun qIz91 b).trans ((va_up_ne _ _ (fun z => q (by rw [z]; have := hKy78; omega))).trans (fr_Iz76 b q))
          refine lv_aload_n hx hb dX7_joinsIsland_92 rfl (lv_at hl 0 rfl) ?_
          refine lv_dup hx hb dX7_joinsIsland_93 rfl ?_
          refine p_get hx hb hts inX7 hown hK hP hLp0 hKp0 rfl rfl 24 (by decide) (hts _ pq1139) rfl dX7_joinsIsland_94 ?_
          refine lv_topi (fun z94 ez94 => ?_)
          obtain rfl : z82 = z94 := by rw [ez94, qIz91, va_up_ne _ _ (ne_k hKp0 hKy78 (by decide))]; exact ez82
          have ez82x94 := ez94
          refine lv_iconst (v := 1) hx hb dX7_joinsIsland_97 (by decide +kernel) ?_
          refine lv_iadd hx hb dX7_joinsIsland_98 ?_
          refine lv_topi (fun z98 ez98 => ?_)
          have bz98 := tq_add (k := z82.toInt) (q := (1)) ez98 rfl (by decide +kernel) (by omega) (by omega)
          refine p_put hx hb hts inX7 tyX7 tyX7_ok nmX7 hown hK hP hD hS hLp0 hKp0 rfl rfl 24 (by decide) (hts _ pq1139) rfl (by decide +kernel) (Nat.le_of_ble_eq_true rfl) (oS_7_24 cs _ _ _ _) dX7_joinsIsland_99 (fun H locs hP hS => ?_)
          obtain ⟨Iz99, hP, hIz99, qIz99⟩ : ∃ Iz99, va_P (dC, dI) vwCl (Wd cs L K Iz99 J Q) H ∧ Iv L K x0 m0 tx tm Iz99 ∧ Iz99 = va_up Iz91 p0 (upd (Iz91 p0) 24 z98) := ⟨_, hP, Iv_put hIz91 hKp0 (oP_7_24 (Iv_at hIz91 hLp0 hKp0) ⟨by omega, by omega⟩) (by decide) (by decide), rfl⟩
          have dn_Iz99 : (∀ b, K b = 0 ∨ K b = 1 ∨ K b = 3 ∨ K b = 6 → Iz99 b = I b) := fun b hc => (congrFun qIz99 b).trans ((va_up_ne _ _ (fun z => by have q := hKp0; rw [← z] at q; omega)).trans (dn_Iz91 b hc))
          have kp0_11_Iz99 : Iz99 p0 11 = I p0 11 := (congrFun (congrFun qIz99 p0) 11).trans ((rz_fr _ _ _ _ (by decide)).trans kp0_11_Iz91)
          have fr_Iz99 : ∀ b, ¬ (K b = 7 ∨ K b = 11 ∨ K b = 27) → Iz99 b = I b := fun b q => (congrFun qIz99 b).trans ((va_up_ne _ _ (fun z => q (by rw [z]; have := hKp0; omega))).trans (fr_Iz91 b q))
          subst hR; subst hQz
          exact W.vret hx hb hr (fun t ht hW => ⟨⟨(), rfl, trivial, ⟨Iz99, J, ⟨hIz99, fr_Iz99, kp0_11_Iz99, ⟨by rw [(show Iz99 ((Q p0 21).getD 0) = upd (I y35) z43.toNatClampNeg z73 by rw [ey35]; show Iz99 y35 = _; rw [qIz99, va_up_ne _ _ (ne_k hKy35 hKp0 (by decide)), qIz91, va_up_ne _ _ (ne_k hKy35 hKy78 (by decide)), qIz76, va_up_self]; congr 1; show z71.toInt.toNat = z43.toInt.toNat; omega), cn_upd 4000 (by show z43.toInt.toNat < 4000; omega) hm1 (fun q => hs (by rw [← ez73b, q]; decide +kernel)), qIz99, rz_at]; omega, fun k hk => by rw [qIz99, rz_fr _ _ _ _ hk, qIz91, va_up_ne _ _ (ne_k hKp0 hKy78 (by decide)), qIz76, va_up_ne _ _ (ne_k hKp0 hKy35 (by decide))]⟩, dn_Iz99, (fun c ok h hj hm => by have e5 : z5.toInt = (c.1 (3 + p1.toInt.toNat)).toInt := congrArg Int32.toInt ((show z5 = I (a0 Q p0 0) (3 + p1.toInt.toNat) from fez5).trans (h _ (by omega))); have e22 : z22.toInt = (c.1 (11 + p1.toInt.toNat)).toInt := congrArg Int32.toInt ((show z22 = I (a0 Q p0 0) (11 + p1.toInt.toNat) from fez22).trans (h _ (by omega))); have q53 : z53.toInt = bi (md (mo c.2 p1.toInt.toNat) p2.toInt p3.toInt) := (by rw [xpz53, hs_congr (f := rF Q J p0 p1.toInt.toNat) (g := mo c.2 p1.toInt.toNat) (congrArg Int32.toInt (h (3 + p1.toInt.toNat) (by omega))) (congrArg Int32.toInt (h (11 + p1.toInt.toNat) (by omega))) (fun k hk => hj (80 * p1.toInt.toNat + k) (by omega)), hs_of (ok.2.2.1 _ hm).2.2]); have eA : Iz99 (a0 Q p0 21) = upd (I y35) z43.toNatClampNeg z73 := (by rw [show a0 Q p0 21 = y35 from gd_of ey35, qIz99, va_up_ne _ _ (ne_k hKy35 hKp0 (by decide)), qIz91, va_up_ne _ _ (ne_k hKy35 hKy78 (by decide)), qIz76, va_up_self]; congr 1; show z71.toInt.toNat = z43.toInt.toNat; omega); have eQ : Iz99 (a0 Q p0 22) = upd (I y78) z82.toNatClampNeg z90 := (by rw [show a0 Q p0 22 = y78 from gd_of ey78, qIz99, va_up_ne _ _ (ne_k hKy78 hKp0 (by decide)), qIz91, va_up_self, qIz76, va_up_ne _ _ (ne_k hKy78 hKy35 (by decide))]); refine ⟨fun o => ?_, fun _ => ⟨?_, ?_, ?_, fun i hi => ?_, ?_⟩⟩; (exfalso; have t : opA (I (a0 Q p0 21)) (dsD (c.1 (3 + p1.toInt.toNat)).toInt (c.1 (11 + p1.toInt.toNat)).toInt (mo c.2 p1.toInt.toNat) p4.toInt) p2.toInt p3.toInt = true := opA_t.mpr ⟨dsD_t.mpr ⟨⟨⟨by omega, by omega⟩, by omega, by omega⟩, q53.symm.trans t58⟩, by rw [show a0 Q p0 21 = y35 from gd_of ey35, show (100 * p3.toInt + p2.toInt).toNat = z43.toNatClampNeg from (by show _ = z43.toInt.toNat; omega)]; exact hm1⟩; rw [t] at o; cases o); (exact eA.trans (by rw [show a0 Q p0 21 = y35 from gd_of ey35, show (100 * p3.toInt + p2.toInt).toNat = z43.toNatClampNeg from (by show _ = z43.toInt.toNat; omega), ← ez73b])); (rw [qIz99, rz_at]; omega); (rw [qIz99, rz_fr _ _ _ _ (by decide), qIz91, va_up_ne _ _ (ne_k hKp0 hKy78 (by decide)), qIz76, va_up_ne _ _ (ne_k hKp0 hKy35 (by decide))]); (rw [eQ, show a0 Q p0 22 = y78 from gd_of ey78]; unfold upd; rw [if_neg (fun z => hi (by rw [z, ← c82]; rfl))]); (rw [eQ, show (I p0 24).toInt.toNat = z82.toNatClampNeg from (by rw [← c82]; rfl)]; unfold upd; rw [if_pos rfl]; omega)), dj_J⟩, by rw [ht]; exact hP⟩⟩, hS.F ht⟩) hS.2.2 dX7_joinsIsland_102
        · have t58 := tq_ne (k := z53.toInt) (q := p4.toInt) c58 rfl rfl
          subst hR; subst hQz
          exact W.vret hx hb hr (fun t ht hW => ⟨⟨(), rfl, trivial, ⟨I, J, ⟨hI, fr_I, kp0_11_I, ⟨hq, fun _ _ => rfl⟩, dn_I, (fun c ok h hj hm => by have e5 : z5.toInt = (c.1 (3 + p1.toInt.toNat)).toInt := congrArg Int32.toInt ((show z5 = I (a0 Q p0 0) (3 + p1.toInt.toNat) from fez5).trans (h _ (by omega))); refine ⟨fun _ => ⟨rfl, rfl, rfl⟩, fun o => ?_⟩; exfalso; have o2 := opA_t.mp o; have o3 := dsD_t.mp o2.1; first | exact xpz11 t14 ⟨by omega, by omega⟩ | (have e22 : z22.toInt = (c.1 (11 + p1.toInt.toNat)).toInt := congrArg Int32.toInt ((show z22 = I (a0 Q p0 0) (11 + p1.toInt.toNat) from fez22).trans (h _ (by omega))); exact xpz28 t31 ⟨by omega, by omega⟩) | (have o4 := o2.2; rw [show a0 Q p0 21 = y35 from gd_of ey35, show (100 * p3.toInt + p2.toInt).toNat = z43.toNatClampNeg from (by show _ = z43.toInt.toNat; omega), ← ez44] at o4; exact t46 (by rw [o4]; decide +kernel)) | (have q53 : z53.toInt = bi (md (mo c.2 p1.toInt.toNat) p2.toInt p3.toInt) := (by rw [xpz53, hs_congr (f := rF Q J p0 p1.toInt.toNat) (g := mo c.2 p1.toInt.toNat) (congrArg Int32.toInt (h (3 + p1.toInt.toNat) (by omega))) (congrArg Int32.toInt (h (11 + p1.toInt.toNat) (by omega))) (fun k hk => hj (80 * p1.toInt.toNat + k) (by omega)), hs_of (ok.2.2.1 _ hm).2.2]); exact t58 (q53.trans o3.2))), dj_J⟩, by rw [ht]; exact hP⟩⟩, hS.F ht⟩) hS.2.2 dX7_joinsIsland_61

set_option maxHeartbeats 4000000 in
set_option maxRecDepth 100000 in
theorem s_X7_laysIslands (l : Launch) (dC : Nat → ClassId) (dI : Nat → Nat → Nat) (cs : Nat → ClassId) (L : List Nat) (K G : Nat → Nat) (Q : Nat → Nat → Option Nat) (hQ : Sv L K G Q) (x0 m0 : Nat) (tx : GT) (tm : GT × Int) (sz : Nat) (I : Nat → Nat → Int32) (J : Nat → Nat → Int64) (hI : Iv L K x0 m0 tx tm I) (p0 : Nat) (hLp0 : p0 ∈ L) (hKp0 : K p0 = 7) (p1 : Int32) (bp1 : (0) ≤ p1.toInt ∧ p1.toInt ≤ 7) (p2 : Int32) : Met l yX7_laysIslands (.code yX7_laysIslands cX7_laysIslands 8 none :: pw) ({ frames := 3, cells := 0, slots := 0, locals := 72 }) (sP (dC, dI) cs [.ref p0, .int p1, .int p2] sz L K I J Q) (va_Qv (fun (_ : Unit) => True) (fun _ t => sB (dC, dI) cs L K Q (fun I1 J1 => Iv L K x0 m0 tx tm I1 ∧ (∀ b, ¬ (K b = 7 ∨ K b = 11 ∨ K b = 27) → I1 b = I b) ∧ I1 p0 11 = I p0 11 ∧ ((0 ≤ (I1 p0 23).toInt ∧ (I1 p0 23).toInt ≤ 4000 ∧ (0 < (I1 p0 23).toInt → 1 ≤ (I ((Q p0 0).getD 0) (3 + p1.toInt.toNat)).toInt ∧ 1 ≤ (I ((Q p0 0).getD 0) (11 + p1.toInt.toNat)).toInt))) ∧ (∀ b, K b = 0 ∨ K b = 1 ∨ K b = 3 ∨ K b = 6 → I1 b = I b) ∧ (∀ c : Fx, okF c → rI Q I p0 c → rJ Q J p0 c → p1.toInt.toNat < (c.1 0).toInt.toNat → lyR (I1 (a0 Q p0 21)) (I1 p0 23) (dsD (c.1 (3 + p1.toInt.toNat)).toInt (c.1 (11 + p1.toInt.toNat)).toInt (mo c.2 p1.toInt.toNat) p2.toInt)) ∧ J1 = J) t) (fun q => q ∈ L ∨ sz ≤ q)) 0 0 (fun q => q ∈ L ∨ sz ≤ q) := by
  refine Met.ofW (cc := cX7_laysIslands) (maxL := 8) (ret := none) (by decide +kernel) rfl ?_
  intro p e s m args below meth c s₁ B hml hv
  obtain ⟨rfl, hsz, hP, hK, hD0, hN⟩ := hv
  have hx := B.exec
  have hb := B.bytes
  have hr := B.returns
  have hts := fun w (h : w ∈ pw) => atoms_spec (ws := Cond.code yX7_laysIslands cX7_laysIslands 8 none :: pw) B.pre w (List.mem_cons_of_mem _ h)
  have hown : s.vm.findClass RX7 = some m.cls := findClass_of_methodNamed B.named
  have hlocks := B.notSynchronized
  subst hsz
  have hBB : 999 ≤ tm.2 ∧ tm.2 ≤ 6000000 := hI.2.2.2.2.1
  have dn_I : (∀ b, K b = 0 ∨ K b = 1 ∨ K b = 3 ∨ K b = 6 → I b = I b) := fun _ _ => rfl
  have dj_J : J = J := rfl
  have kp0_11_I : I p0 11 = I p0 11 := rfl
  have fr_I : ∀ b, ¬ (K b = 7 ∨ K b = 11 ∨ K b = 27) → I b = I b := fun _ _ => rfl
  obtain ⟨A, hAe⟩ : ∃ A : Nat → Prop, A = (fun q => q ∈ L ∨ s.heap.size ≤ q) := ⟨_, rfl⟩
  rw [← hAe]
  have hAL : ∀ q, q ∈ L → A q := fun q h => by rw [hAe]; exact Or.inl h
  have hA : ∀ q, s.heap.size ≤ q → A q := fun q h => by rw [hAe]; exact Or.inr h
  have hD : ∀ F, va_D A (va_pl L F) := fun F => (hD0 F).weaken (fun k q hk _ => hAL _ (pl_mem hk))
  obtain ⟨H, hHe⟩ : ∃ H : Heap, H = s.heap := ⟨_, rfl⟩
  have hS : va_S A s.heap H [] := by rw [hHe]; exact va_S.rf
  rw [← hHe] at hP
  have hl := lv_entry ([.ref p0, .int p1, .int p2]) (n := 8) (Nat.le_of_ble_eq_true rfl)
  rw [lg_entry_eq]
  generalize (lg_sl ([.ref p0, .int p1, .int p2]) ++ List.replicate (8 - (lg_sl ([.ref p0, .int p1, .int p2])).length) Slot.unset).toArray = ls at hl ⊢
  have hl : lv_has ls 8 [(0, .ref p0), (1, .int p1), (2, .int p2)] := hl
  rw [← hHe]
  refine namedW (fun R Qz hR hQz => ?_)
  refine lv_iconst (v := 0) hx hb dX7_laysIslands_0 (by decide +kernel) ?_
  refine lv_istore_n (lv' := [(3, .int 0), (0, .ref p0), (1, .int p1), (2, .int p2)]) hx hb dX7_laysIslands_1 rfl hl (by decide) rfl (fun ls hl => ?_)
  have key2 := blocks (fun n => ∀ (v2_3 : Int32) (I2 : Nat → Nat → Int32) (H : Heap) (lo : List Loc) (ls : Array Slot), (4001 - v2_3.toInt).toNat = n → ((0) ≤ v2_3.toInt ∧ v2_3.toInt ≤ 4000) → Iv L K x0 m0 tx tm I2 → I2 p0 11 = I p0 11 → (∀ b, ¬ (K b = 7 ∨ K b = 11 ∨ K b = 27) → I2 b = I b) → (∀ b, K b = 0 ∨ K b = 1 ∨ K b = 3 ∨ K b = 6 → I2 b = I b) → (∀ k : Nat, k < v2_3.toInt.toNat → I2 (a0 Q p0 21) k = -1) → va_P (dC, dI) vwCl (Wd cs L K I2 J Q) H → va_S A s.heap H lo → lv_has ls 8 [(0, .ref p0), (1, .int p1), (2, .int p2), (3, .int v2_3)] → W p l e R s m (([.ref p0, .int p1, .int p2] : List Value).toArray) below meth c H lo 0 0 Qz (F0 m 2 ls [])) (by
    intro n ih2
    intro v2_3 I2 H lo ls hmu2 bv2_3 hI2 kp0_11_I2 fr_I2 dn_I2 g2 hP hS hl
    refine lv_iload_n hx hb dX7_laysIslands_2 rfl (lv_at hl 3 rfl) ?_
    refine lv_sipush (v := 4000) hx hb dX7_laysIslands_3 (by decide +kernel) ?_
    refine lv_icmp_ge (tgt := 22) hx hb dX7_laysIslands_6 (by decide) (fun c6 => ?_) (fun c6 => ?_)
    · have t6 := tq_le (k := (4000)) (q := v2_3.toInt) c6 (by decide +kernel) rfl
      refine lv_aload_n hx hb dX7_laysIslands_22 rfl (lv_at hl 0 rfl) ?_
      refine lv_iconst (v := 0) hx hb dX7_laysIslands_23 (by decide +kernel) ?_
      refine p_put hx hb hts inX7 tyX7 tyX7_ok nmX7 hown hK hP hD hS hLp0 hKp0 rfl rfl 23 (by decide) (hts _ pq1138) rfl (by decide +kernel) (Nat.le_of_ble_eq_true rfl) (oS_7_23 cs _ _ _ _) dX7_laysIslands_24 (fun H locs hP hS => ?_)
      obtain ⟨Iz24, hP, hIz24, qIz24⟩ : ∃ Iz24, va_P (dC, dI) vwCl (Wd cs L K Iz24 J Q) H ∧ Iv L K x0 m0 tx tm Iz24 ∧ Iz24 = va_up I2 p0 (upd (I2 p0) 23 (0 : Int32)) := ⟨_, hP, Iv_put hI2 hKp0 (oP_7_23 (Iv_at hI2 hLp0 hKp0)) (by decide) (by decide), rfl⟩
      have dn_Iz24 : (∀ b, K b = 0 ∨ K b = 1 ∨ K b = 3 ∨ K b = 6 → Iz24 b = I b) := fun b hc => (congrFun qIz24 b).trans ((va_up_ne _ _ (fun z => by have q := hKp0; rw [← z] at q; omega)).trans (dn_I2 b hc))
      have kp0_11_Iz24 : Iz24 p0 11 = I p0 11 := (congrFun (congrFun qIz24 p0) 11).trans ((rz_fr _ _ _ _ (by decide)).trans kp0_11_I2)
      have fr_Iz24 : ∀ b, ¬ (K b = 7 ∨ K b = 11 ∨ K b = 27) → Iz24 b = I b := fun b q => (congrFun qIz24 b).trans ((va_up_ne _ _ (fun z => q (by rw [z]; have := hKp0; omega))).trans (fr_I2 b q))
      refine lv_iconst (v := 0) hx hb dX7_laysIslands_27 (by decide +kernel) ?_
      refine lv_istore_n (lv' := [(3, .int 0), (0, .ref p0), (1, .int p1), (2, .int p2)]) hx hb dX7_laysIslands_28 rfl hl (by decide) rfl (fun ls hl => ?_)
      have key29 := blocks (fun n => ∀ (v29_3 : Int32) (I29 : Nat → Nat → Int32) (H : Heap) (lo : List Loc) (ls : Array Slot), (41 - v29_3.toInt).toNat = n → ((0) ≤ v29_3.toInt ∧ v29_3.toInt ≤ 40) → Iv L K x0 m0 tx tm I29 → I29 p0 11 = I p0 11 → (∀ b, ¬ (K b = 7 ∨ K b = 11 ∨ K b = 27) → I29 b = I b) → (∀ b, K b = 0 ∨ K b = 1 ∨ K b = 3 ∨ K b = 6 → I29 b = I b) → (0 ≤ (I29 p0 23).toInt ∧ (I29 p0 23).toInt ≤ 100 * v29_3.toInt ∧ (0 < (I29 p0 23).toInt → 1 ≤ (I ((Q p0 0).getD 0) (3 + p1.toInt.toNat)).toInt ∧ 1 ≤ (I ((Q p0 0).getD 0) (11 + p1.toInt.toNat)).toInt)) → (∀ c : Fx, okF c → rI Q I p0 c → rJ Q J p0 c → p1.toInt.toNat < (c.1 0).toInt.toNat → scI (B2P (dsD (c.1 (3 + p1.toInt.toNat)).toInt (c.1 (11 + p1.toInt.toNat)).toInt (mo c.2 p1.toInt.toNat) p2.toInt)) (B2P (opA (I29 (a0 Q p0 21)) (dsD (c.1 (3 + p1.toInt.toNat)).toInt (c.1 (11 + p1.toInt.toNat)).toInt (mo c.2 p1.toInt.toNat) p2.toInt))) v29_3.toInt 0 (I29 p0 23).toInt ∧ lbI (I29 (a0 Q p0 21)) (dsD (c.1 (3 + p1.toInt.toNat)).toInt (c.1 (11 + p1.toInt.toNat)).toInt (mo c.2 p1.toInt.toNat) p2.toInt)) → va_P (dC, dI) vwCl (Wd cs L K I29 J Q) H → va_S A s.heap H lo → lv_has ls 8 [(0, .ref p0), (1, .int p1), (2, .int p2), (3, .int v29_3)] → W p l e R s m (([.ref p0, .int p1, .int p2] : List Value).toArray) below meth c H lo 0 0 Qz (F0 m 29 ls [])) (by
        intro n ih29
        intro v29_3 I29 H lo ls hmu29 bv29_3 hI29 kp0_11_I29 fr_I29 dn_I29 h29 g29 hP hS hl
        refine lv_iload_n hx hb dX7_laysIslands_29 rfl (lv_at hl 3 rfl) ?_
        refine lv_aload_n hx hb dX7_laysIslands_30 rfl (lv_at hl 0 rfl) ?_
        refine lv_iload_n hx hb dX7_laysIslands_31 rfl (lv_at hl 1 rfl) ?_
        refine ro_i (va_runV (As := [.int p1]) (rest := [.int v29_3]) ⟨hx, hb, hml, hown, hts⟩ (s_X7_high l dC dI cs L K G Q hQ x0 m0 tx tm H.size I29 J hI29 p0 hLp0 hKp0 p1 ⟨by omega, by omega⟩) (cwV 1 hts (gV pq1372 pq1374 pq33 pq81 pq1375) rfl rfl rfl (by decide +kernel) ⟨(by rw [hR]; exact (Nat.le_of_ble_eq_true rfl)), (by rw [hR]; exact (Nat.le_of_ble_eq_true rfl))⟩) (sP_V hP hD hK hN hLp0 hKp0 rfl rfl) rfl rfl hl.1 rfl (lv_room (Nat.le_of_ble_eq_true rfl)) dX7_laysIslands_32 ⟨(by rw [hR]; exact (Nat.le_of_ble_eq_true rfl)), (by rw [hR]; exact (Nat.le_of_ble_eq_true rfl))⟩) hS hP (fun z32 H locs hz32 hP hS => ?_)
        obtain ⟨bz32, fez32⟩ := hz32
        refine lv_icmp_ge (tgt := 191) hx hb dX7_laysIslands_35 (by decide) (fun c35 => ?_) (fun c35 => ?_)
        · have t35 := tq_le (k := z32.toInt) (q := v29_3.toInt) c35 rfl rfl
          subst hR; subst hQz
          exact W.vret hx hb hr (fun t ht hW => ⟨⟨(), rfl, trivial, ⟨I29, J, ⟨hI29, fr_I29, kp0_11_I29, ⟨h29.1, by omega, h29.2.2⟩, dn_I29, (fun c ok h hj hm => by obtain ⟨oy, eoy, hLoy, hKoy⟩ := oQ_7_21 (Sv_at hQ hLp0 hKp0); have ya : a0 Q p0 21 = oy := gd_of eoy; have okm_ := ok.2.2.1 _ hm; have o1 := okm_.1; have o2 := okm_.2.1; have rg : rgD (dsD (c.1 (3 + p1.toInt.toNat)).toInt (c.1 (11 + p1.toInt.toNat)).toInt (mo c.2 p1.toInt.toNat) p2.toInt) := (fun X Y q => by have := (dsD_t.mp q).1; omega); have hw : ∀ u, B2P (dsD (c.1 (3 + p1.toInt.toNat)).toInt (c.1 (11 + p1.toInt.toNat)).toInt (mo c.2 p1.toInt.toNat) p2.toInt) u → 0 ≤ u.1 ∧ u.1 < (c.1 (3 + p1.toInt.toNat)).toInt := (fun u d => (dsD_t.mp d).1.1); have sub : ∀ X Y, opA (I29 (a0 Q p0 21)) (dsD (c.1 (3 + p1.toInt.toNat)).toInt (c.1 (11 + p1.toInt.toNat)).toInt (mo c.2 p1.toInt.toNat) p2.toInt) X Y = true → (dsD (c.1 (3 + p1.toInt.toNat)).toInt (c.1 (11 + p1.toInt.toNat)).toInt (mo c.2 p1.toInt.toNat) p2.toInt) X Y = true := (fun X Y q => (opA_t.mp q).1); have r_I29 := rI_fr (I1 := I29) hQ hLp0 hKp0 (fun b q => fr_I29 b (by omega)) h; have e32 : z32.toInt = (c.1 (11 + p1.toInt.toNat)).toInt := congrArg Int32.toInt ((show z32 = I29 (a0 Q p0 0) (11 + p1.toInt.toNat) from fez32).trans (r_I29 _ (by omega))); obtain ⟨S, L⟩ := g29 c ok h hj hm; exact ly_end S L (h := (c.1 (11 + p1.toInt.toNat)).toInt) (fun u d => (dsD_t.mp d).1.2.2) (by omega) (by omega) (by omega)), dj_J⟩, by rw [ht]; exact hP⟩⟩, hS.F ht⟩) hS.2.2 dX7_laysIslands_191
        · have t35 := tq_nle (k := z32.toInt) (q := v29_3.toInt) c35 rfl rfl
          refine lv_iconst (v := 0) hx hb dX7_laysIslands_38 (by decide +kernel) ?_
          refine lv_istore (lv' := [(4, .int 0), (0, .ref p0), (1, .int p1), (2, .int p2), (3, .int v29_3)]) hx hb dX7_laysIslands_39 hl (by decide) rfl (fun ls hl => ?_)
          have key41 := blocks (fun n => ∀ (v41_4 : Int32) (I41 : Nat → Nat → Int32) (H : Heap) (lo : List Loc) (ls : Array Slot), (101 - v41_4.toInt).toNat = n → ((0) ≤ v41_4.toInt ∧ v41_4.toInt ≤ 100) → Iv L K x0 m0 tx tm I41 → I41 p0 11 = I p0 11 → (∀ b, ¬ (K b = 7 ∨ K b = 11 ∨ K b = 27) → I41 b = I b) → (∀ b, K b = 0 ∨ K b = 1 ∨ K b = 3 ∨ K b = 6 → I41 b = I b) → (0 ≤ (I41 p0 23).toInt ∧ (I41 p0 23).toInt ≤ 100 * v29_3.toInt + v41_4.toInt ∧ (0 < (I41 p0 23).toInt → 1 ≤ (I ((Q p0 0).getD 0) (3 + p1.toInt.toNat)).toInt ∧ 1 ≤ (I ((Q p0 0).getD 0) (11 + p1.toInt.toNat)).toInt)) → (∀ c : Fx, okF c → rI Q I p0 c → rJ Q J p0 c → p1.toInt.toNat < (c.1 0).toInt.toNat → scI (B2P (dsD (c.1 (3 + p1.toInt.toNat)).toInt (c.1 (11 + p1.toInt.toNat)).toInt (mo c.2 p1.toInt.toNat) p2.toInt)) (B2P (opA (I41 (a0 Q p0 21)) (dsD (c.1 (3 + p1.toInt.toNat)).toInt (c.1 (11 + p1.toInt.toNat)).toInt (mo c.2 p1.toInt.toNat) p2.toInt))) v29_3.toInt v41_4.toInt (I41 p0 23).toInt ∧ lbI (I41 (a0 Q p0 21)) (dsD (c.1 (3 + p1.toInt.toNat)).toInt (c.1 (11 + p1.toInt.toNat)).toInt (mo c.2 p1.toInt.toNat) p2.toInt)) → va_P (dC, dI) vwCl (Wd cs L K I41 J Q) H → va_S A s.heap H lo → lv_has ls 8 [(0, .ref p0), (1, .int p1), (2, .int p2), (3, .int v29_3), (4, .int v41_4)] → W p l e R s m (([.ref p0, .int p1, .int p2] : List Value).toArray) below meth c H lo 0 0 Qz (F0 m 41 ls [])) (by
            intro n ih41
            intro v41_4 I41 H lo ls hmu41 bv41_4 hI41 kp0_11_I41 fr_I41 dn_I41 h41 g41 hP hS hl
            refine lv_iload hx hb dX7_laysIslands_41 (lv_at hl 4 rfl) ?_
            refine lv_aload_n hx hb dX7_laysIslands_43 rfl (lv_at hl 0 rfl) ?_
            refine lv_iload_n hx hb dX7_laysIslands_44 rfl (lv_at hl 1 rfl) ?_
            refine ro_i (va_runV (As := [.int p1]) (rest := [.int v41_4]) ⟨hx, hb, hml, hown, hts⟩ (s_X7_wide l dC dI cs L K G Q hQ x0 m0 tx tm H.size I41 J hI41 p0 hLp0 hKp0 p1 ⟨by omega, by omega⟩) (cwV 1 hts (gV pq1368 pq1370 pq32 pq81 pq1371) rfl rfl rfl (by decide +kernel) ⟨(by rw [hR]; exact (Nat.le_of_ble_eq_true rfl)), (by rw [hR]; exact (Nat.le_of_ble_eq_true rfl))⟩) (sP_V hP hD hK hN hLp0 hKp0 rfl rfl) rfl rfl hl.1 rfl (lv_room (Nat.le_of_ble_eq_true rfl)) dX7_laysIslands_45 ⟨(by rw [hR]; exact (Nat.le_of_ble_eq_true rfl)), (by rw [hR]; exact (Nat.le_of_ble_eq_true rfl))⟩) hS hP (fun z45 H locs hz45 hP hS => ?_)
            obtain ⟨bz45, fez45⟩ := hz45
            refine lv_icmp_ge (tgt := 185) hx hb dX7_laysIslands_48 (by decide) (fun c48 => ?_) (fun c48 => ?_)
            · have t48 := tq_le (k := z45.toInt) (q := v41_4.toInt) c48 rfl rfl
              obtain ⟨z185, ez185⟩ : ∃ y : Int32, y = v29_3 + 1 := ⟨_, rfl⟩
              refine lv_iinc (v := z185) (lv' := [(3, .int z185), (0, .ref p0), (1, .int p1), (2, .int p2), (4, .int v41_4)]) hx hb dX7_laysIslands_185 hl (k := 3) rfl (by rw [ez185]; rfl) (by decide) rfl (fun ls hl => ?_)
              have bz185 := tq_add (k := v29_3.toInt) (q := 1) ez185 rfl (by decide +kernel) (by omega) (by omega)
              refine lv_goto (tgt := 29) hx hb dX7_laysIslands_188 (by decide) ?_
              exact ih29 _ (by omega) z185 I41 _ _ _ rfl ⟨by omega, by omega⟩ hI41 kp0_11_I41 fr_I41 dn_I41 ⟨h41.1, by omega, h41.2.2⟩ (fun c ok h hj hm => by obtain ⟨oy, eoy, hLoy, hKoy⟩ := oQ_7_21 (Sv_at hQ hLp0 hKp0); have ya : a0 Q p0 21 = oy := gd_of eoy; have okm_ := ok.2.2.1 _ hm; have o1 := okm_.1; have o2 := okm_.2.1; have rg : rgD (dsD (c.1 (3 + p1.toInt.toNat)).toInt (c.1 (11 + p1.toInt.toNat)).toInt (mo c.2 p1.toInt.toNat) p2.toInt) := (fun X Y q => by have := (dsD_t.mp q).1; omega); have hw : ∀ u, B2P (dsD (c.1 (3 + p1.toInt.toNat)).toInt (c.1 (11 + p1.toInt.toNat)).toInt (mo c.2 p1.toInt.toNat) p2.toInt) u → 0 ≤ u.1 ∧ u.1 < (c.1 (3 + p1.toInt.toNat)).toInt := (fun u d => (dsD_t.mp d).1.1); have sub : ∀ X Y, opA (I41 (a0 Q p0 21)) (dsD (c.1 (3 + p1.toInt.toNat)).toInt (c.1 (11 + p1.toInt.toNat)).toInt (mo c.2 p1.toInt.toNat) p2.toInt) X Y = true → (dsD (c.1 (3 + p1.toInt.toNat)).toInt (c.1 (11 + p1.toInt.toNat)).toInt (mo c.2 p1.toInt.toNat) p2.toInt) X Y = true := (fun X Y q => (opA_t.mp q).1); have r_I41 := rI_fr (I1 := I41) hQ hLp0 hKp0 (fun b q => fr_I41 b (by omega)) h; have e45 : z45.toInt = (c.1 (3 + p1.toInt.toNat)).toInt := congrArg Int32.toInt ((show z45 = I41 (a0 Q p0 0) (3 + p1.toInt.toNat) from fez45).trans (r_I41 _ (by omega))); obtain ⟨S, L⟩ := g41 c ok h hj hm; exact ⟨sc_row S hw (by omega) ⟨by omega, by omega⟩ (by omega) (by omega), L⟩) hP hS (lv_sub hl [1, 2, 3, 0] rfl)
            · have t48 := tq_nle (k := z45.toInt) (q := v41_4.toInt) c48 rfl rfl
              refine lv_aload_n hx hb dX7_laysIslands_51 rfl (lv_at hl 0 rfl) ?_
              refine lv_iconst (v := 0) hx hb dX7_laysIslands_52 (by decide +kernel) ?_
              refine p_put hx hb hts inX7 tyX7 tyX7_ok nmX7 hown hK hP hD hS hLp0 hKp0 rfl rfl 24 (by decide) (hts _ pq1139) rfl (by decide +kernel) (Nat.le_of_ble_eq_true rfl) (oS_7_24 cs _ _ _ _) dX7_laysIslands_53 (fun H locs hP hS => ?_)
              obtain ⟨Iz53, hP, hIz53, qIz53⟩ : ∃ Iz53, va_P (dC, dI) vwCl (Wd cs L K Iz53 J Q) H ∧ Iv L K x0 m0 tx tm Iz53 ∧ Iz53 = va_up I41 p0 (upd (I41 p0) 24 (0 : Int32)) := ⟨_, hP, Iv_put hI41 hKp0 (oP_7_24 (Iv_at hI41 hLp0 hKp0) ⟨by decide +kernel, by decide +kernel⟩) (by decide) (by decide), rfl⟩
              have dn_Iz53 : (∀ b, K b = 0 ∨ K b = 1 ∨ K b = 3 ∨ K b = 6 → Iz53 b = I b) := fun b hc => (congrFun qIz53 b).trans ((va_up_ne _ _ (fun z => by have q := hKp0; rw [← z] at q; omega)).trans (dn_I41 b hc))
              have kp0_11_Iz53 : Iz53 p0 11 = I p0 11 := (congrFun (congrFun qIz53 p0) 11).trans ((rz_fr _ _ _ _ (by decide)).trans kp0_11_I41)
              have fr_Iz53 : ∀ b, ¬ (K b = 7 ∨ K b = 11 ∨ K b = 27) → Iz53 b = I b := fun b q => (congrFun qIz53 b).trans ((va_up_ne _ _ (fun z => q (by rw [z]; have := hKp0; omega))).trans (fr_I41 b q))
              refine lv_aload_n hx hb dX7_laysIslands_56 rfl (lv_at hl 0 rfl) ?_
              refine lv_iload_n hx hb dX7_laysIslands_57 rfl (lv_at hl 1 rfl) ?_
              refine lv_iload hx hb dX7_laysIslands_58 (lv_at hl 4 rfl) ?_
              refine lv_iload_n hx hb dX7_laysIslands_60 rfl (lv_at hl 3 rfl) ?_
              refine lv_iload_n hx hb dX7_laysIslands_61 rfl (lv_at hl 2 rfl) ?_
              refine sw_v (Z := (fun I1 J1 => Iv L K x0 m0 tx tm I1 ∧ (∀ b, ¬ (K b = 7 ∨ K b = 11 ∨ K b = 27) → I1 b = Iz53 b) ∧ I1 p0 11 = Iz53 p0 11 ∧ (((I1 p0 24).toInt ≤ (cn (I1 ((Q p0 21).getD 0)) 4000 : Int) ∧ (∀ k, ¬ k = 24 → I1 p0 k = Iz53 p0 k))) ∧ (∀ b, K b = 0 ∨ K b = 1 ∨ K b = 3 ∨ K b = 6 → I1 b = Iz53 b) ∧ (∀ c : Fx, okF c → rI Q Iz53 p0 c → rJ Q J p0 c → p1.toInt.toNat < (c.1 0).toInt.toNat → jnR Q Iz53 I1 p0 (dsD (c.1 (3 + p1.toInt.toNat)).toInt (c.1 (11 + p1.toInt.toNat)).toInt (mo c.2 p1.toInt.toNat) p2.toInt) v41_4.toInt v29_3.toInt) ∧ J1 = J)) (va_runV (As := [.int p1, .int v41_4, .int v29_3, .int p2]) (rest := []) ⟨hx, hb, hml, hown, hts⟩ (s_X7_joinsIsland l dC dI cs L K G Q hQ x0 m0 tx tm H.size Iz53 J hIz53 p0 hLp0 hKp0 p1 ⟨by omega, by omega⟩ v41_4 v29_3 p2 (by rw [qIz53, rz_at]; rw [show (0 : Int32).toInt = 0 from by decide +kernel]; omega) (by rw [qIz53, rz_fr _ _ _ _ (by decide)]; have := h41.1; omega)) (cwV 4 hts (gV pq1538 pq1540 pq58 pq81 pq1541) rfl rfl rfl (by decide +kernel) ⟨(by rw [hR]; exact (Nat.le_of_ble_eq_true rfl)), (by rw [hR]; exact (Nat.le_of_ble_eq_true rfl))⟩) (sP_V hP hD hK hN hLp0 hKp0 rfl rfl) rfl rfl hl.1 rfl (lv_room (Nat.le_of_ble_eq_true rfl)) dX7_laysIslands_62 ⟨(by rw [hR]; exact (Nat.le_of_ble_eq_true rfl)), (by rw [hR]; exact (Nat.le_of_ble_eq_true rfl))⟩) hS hAL hA (fun Iz62 Jz62 H locs hz62 hIz62 hP hS => ?_)
              obtain ⟨hIz62, frc62, kc62_0_11, zp62, dnc62, jz62, djc62⟩ := hIz62
              obtain rfl : J = Jz62 := djc62.symm
              have dn_Iz62 : (∀ b, K b = 0 ∨ K b = 1 ∨ K b = 3 ∨ K b = 6 → Iz62 b = I b) := fun b hc => (dnc62 b (by omega)).trans (dn_Iz53 b hc)
              have kp0_11_Iz62 : Iz62 p0 11 = I p0 11 := kc62_0_11.trans kp0_11_Iz53
              have fr_Iz62 : ∀ b, ¬ (K b = 7 ∨ K b = 11 ∨ K b = 27) → Iz62 b = I b := fun b q => (frc62 b (fun z => q (by omega))).trans (fr_Iz53 b q)
              refine lv_iconst (v := 0) hx hb dX7_laysIslands_65 (by decide +kernel) ?_
              refine lv_istore (lv' := [(5, .int 0), (0, .ref p0), (1, .int p1), (2, .int p2), (3, .int v29_3), (4, .int v41_4)]) hx hb dX7_laysIslands_66 hl (by decide) rfl (fun ls hl => ?_)
              have key68 := blocks (fun n => ∀ (v68_5 : Int32) (I68 : Nat → Nat → Int32) (H : Heap) (lo : List Loc) (ls : Array Slot), (4001 - v68_5.toInt).toNat = n → ((0) ≤ v68_5.toInt ∧ v68_5.toInt ≤ 4000) → Iv L K x0 m0 tx tm I68 → I68 p0 11 = I p0 11 → (∀ b, ¬ (K b = 7 ∨ K b = 11 ∨ K b = 27) → I68 b = I b) → (∀ b, K b = 0 ∨ K b = 1 ∨ K b = 3 ∨ K b = 6 → I68 b = I b) → ((I68 p0 24).toInt ≤ (cn (I68 ((Q p0 21).getD 0)) 4000 : Int) ∧ I68 p0 23 = I41 p0 23) → (∀ c : Fx, okF c → rI Q I p0 c → rJ Q J p0 c → p1.toInt.toNat < (c.1 0).toInt.toNat → ((opA (I41 (a0 Q p0 21)) (dsD (c.1 (3 + p1.toInt.toNat)).toInt (c.1 (11 + p1.toInt.toNat)).toInt (mo c.2 p1.toInt.toNat) p2.toInt) v41_4.toInt v29_3.toInt = false ∧ (I68 p0 24).toInt = 0 ∧ (I68 (a0 Q p0 21)) = (I41 (a0 Q p0 21))) ∨ (opA (I41 (a0 Q p0 21)) (dsD (c.1 (3 + p1.toInt.toNat)).toInt (c.1 (11 + p1.toInt.toNat)).toInt (mo c.2 p1.toInt.toNat) p2.toInt) v41_4.toInt v29_3.toInt = true ∧ frS Q I68 p0 (dsD (c.1 (3 + p1.toInt.toNat)).toInt (c.1 (11 + p1.toInt.toNat)).toInt (mo c.2 p1.toInt.toNat) p2.toInt) (opA (I41 (a0 Q p0 21)) (dsD (c.1 (3 + p1.toInt.toNat)).toInt (c.1 (11 + p1.toInt.toNat)).toInt (mo c.2 p1.toInt.toNat) p2.toInt)) (v41_4.toInt, v29_3.toInt) v68_5.toInt.toNat ∧ opA (I68 (a0 Q p0 21)) (dsD (c.1 (3 + p1.toInt.toNat)).toInt (c.1 (11 + p1.toInt.toNat)).toInt (mo c.2 p1.toInt.toNat) p2.toInt) v41_4.toInt v29_3.toInt = false ∧ v68_5.toInt ≤ (I68 p0 24).toInt ∧ 1 ≤ (I68 p0 24).toInt))) → va_P (dC, dI) vwCl (Wd cs L K I68 J Q) H → va_S A s.heap H lo → lv_has ls 8 [(0, .ref p0), (1, .int p1), (2, .int p2), (3, .int v29_3), (4, .int v41_4), (5, .int v68_5)] → W p l e R s m (([.ref p0, .int p1, .int p2] : List Value).toArray) below meth c H lo 0 0 Qz (F0 m 68 ls [])) (by
                intro n ih68
                intro v68_5 I68 H lo ls hmu68 bv68_5 hI68 kp0_11_I68 fr_I68 dn_I68 h68 g68 hP hS hl
                refine lv_iload hx hb dX7_laysIslands_68 (lv_at hl 5 rfl) ?_
                refine lv_aload_n hx hb dX7_laysIslands_70 rfl (lv_at hl 0 rfl) ?_
                refine p_get hx hb hts inX7 hown hK hP hLp0 hKp0 rfl rfl 24 (by decide) (hts _ pq1139) rfl dX7_laysIslands_71 ?_
                refine lv_topi (fun z71 ez71 => ?_)
                have cgz71 := congrArg Int32.toInt ez71
                have bz71 := oI_7_24 (Iv_at hI68 hLp0 hKp0)
                rw [← ez71] at bz71
                refine lv_icmp_ge (tgt := 155) hx hb dX7_laysIslands_74 (by decide) (fun c74 => ?_) (fun c74 => ?_)
                · have t74 := tq_le (k := z71.toInt) (q := v68_5.toInt) c74 rfl rfl
                  refine lv_aload_n hx hb dX7_laysIslands_155 rfl (lv_at hl 0 rfl) ?_
                  refine lv_dup hx hb dX7_laysIslands_156 rfl ?_
                  refine p_get hx hb hts inX7 hown hK hP hLp0 hKp0 rfl rfl 23 (by decide) (hts _ pq1138) rfl dX7_laysIslands_157 ?_
                  refine lv_topi (fun z157 ez157 => ?_)
                  have cgz157 := congrArg Int32.toInt ez157
                  have c157 := congrArg Int32.toInt (ez157.trans h68.2)
                  refine lv_aload_n hx hb dX7_laysIslands_160 rfl (lv_at hl 0 rfl) ?_
                  refine p_get hx hb hts inX7 hown hK hP hLp0 hKp0 rfl rfl 24 (by decide) (hts _ pq1139) rfl dX7_laysIslands_161 ?_
                  refine lv_topi (fun z161 ez161 => ?_)
                  obtain rfl : z71 = z161 := ez71.trans ez161.symm
                  have j172 : ∀ (w172_2 : Int32) (H : Heap) (lo : List Loc) (ls : Array Slot), ((0) ≤ w172_2.toInt ∧ w172_2.toInt ≤ 1) → (w172_2.toInt = 0 ↔ z71.toInt ≤ 0) → va_P (dC, dI) vwCl (Wd cs L K I68 J Q) H → va_S A s.heap H lo → lv_has ls 8 [(0, .ref p0), (1, .int p1), (2, .int p2), (3, .int v29_3), (4, .int v41_4), (5, .int v68_5)] → W p l e R s m (([.ref p0, .int p1, .int p2] : List Value).toArray) below meth c H lo 0 0 Qz (F0 m 172 ls [.int w172_2, .int z157, .ref p0]) := by
                    intro w172_2 H lo ls bw172_2 h172 hP hS hl
                    refine ro_i (va_runS (As := [.int w172_2]) (rest := [.int z157, .ref p0]) ⟨hx, hb, hml, hown, hts⟩ (s_X7_truth l dC dI cs L K Q H.size I68 J w172_2) (va_cwS 1 hts (gS pq1257 pq1258 pq81 pq1259) rfl rfl rfl (by decide +kernel) ⟨(by rw [hR]; exact (Nat.le_of_ble_eq_true rfl)), (by rw [hR]; exact (Nat.le_of_ble_eq_true rfl))⟩) (sP_S hP hD hK hN) rfl rfl hl.1 rfl (lv_room (Nat.le_of_ble_eq_true rfl)) dX7_laysIslands_172 ⟨(by rw [hR]; exact (Nat.le_of_ble_eq_true rfl)), (by rw [hR]; exact (Nat.le_of_ble_eq_true rfl))⟩) hS hP (fun z172 H locs hz172 hP hS => ?_)
                    obtain ⟨bz172, xpz172⟩ := hz172
                    refine lv_iadd hx hb dX7_laysIslands_175 ?_
                    refine lv_topi (fun z175 ez175 => ?_)
                    have bz175 := tq_add (k := z157.toInt) (q := z172.toInt) ez175 rfl rfl (by omega) (by omega)
                    refine p_put hx hb hts inX7 tyX7 tyX7_ok nmX7 hown hK hP hD hS hLp0 hKp0 rfl rfl 23 (by decide) (hts _ pq1138) rfl (by decide +kernel) (Nat.le_of_ble_eq_true rfl) (oS_7_23 cs _ _ _ _) dX7_laysIslands_176 (fun H locs hP hS => ?_)
                    obtain ⟨Iz176, hP, hIz176, qIz176⟩ : ∃ Iz176, va_P (dC, dI) vwCl (Wd cs L K Iz176 J Q) H ∧ Iv L K x0 m0 tx tm Iz176 ∧ Iz176 = va_up I68 p0 (upd (I68 p0) 23 z175) := ⟨_, hP, Iv_put hI68 hKp0 (oP_7_23 (Iv_at hI68 hLp0 hKp0)) (by decide) (by decide), rfl⟩
                    have dn_Iz176 : (∀ b, K b = 0 ∨ K b = 1 ∨ K b = 3 ∨ K b = 6 → Iz176 b = I b) := fun b hc => (congrFun qIz176 b).trans ((va_up_ne _ _ (fun z => by have q := hKp0; rw [← z] at q; omega)).trans (dn_I68 b hc))
                    have kp0_11_Iz176 : Iz176 p0 11 = I p0 11 := (congrFun (congrFun qIz176 p0) 11).trans ((rz_fr _ _ _ _ (by decide)).trans kp0_11_I68)
                    have fr_Iz176 : ∀ b, ¬ (K b = 7 ∨ K b = 11 ∨ K b = 27) → Iz176 b = I b := fun b q => (congrFun qIz176 b).trans ((va_up_ne _ _ (fun z => q (by rw [z]; have := hKp0; omega))).trans (fr_I68 b q))
                    obtain ⟨z179, ez179⟩ : ∃ y : Int32, y = v41_4 + 1 := ⟨_, rfl⟩
                    refine lv_iinc (v := z179) (lv' := [(4, .int z179), (0, .ref p0), (1, .int p1), (2, .int p2), (3, .int v29_3), (5, .int v68_5)]) hx hb dX7_laysIslands_179 hl (k := 4) rfl (by rw [ez179]; rfl) (by decide) rfl (fun ls hl => ?_)
                    have bz179 := tq_add (k := v41_4.toInt) (q := 1) ez179 rfl (by decide +kernel) (by omega) (by omega)
                    refine lv_goto (tgt := 41) hx hb dX7_laysIslands_182 (by decide) ?_
                    exact ih41 _ (by omega) z179 Iz176 _ _ _ rfl ⟨by omega, by omega⟩ hIz176 kp0_11_Iz176 fr_Iz176 dn_Iz176 ⟨by rw [qIz176, rz_at]; omega, by rw [qIz176, rz_at]; omega, fun _ => ⟨by have c := congrArg Int32.toInt (fez45.trans (congrFun (fr_I41 _ (by have := (nw_of hQ hLp0 hKp0).2; omega)) _)); omega, by have c := congrArg Int32.toInt (fez32.trans (congrFun (fr_I29 _ (by have := (nw_of hQ hLp0 hKp0).2; omega)) _)); omega⟩⟩ (fun c ok h hj hm => by obtain ⟨oy, eoy, hLoy, hKoy⟩ := oQ_7_21 (Sv_at hQ hLp0 hKp0); have ya : a0 Q p0 21 = oy := gd_of eoy; have okm_ := ok.2.2.1 _ hm; have o1 := okm_.1; have o2 := okm_.2.1; have rg : rgD (dsD (c.1 (3 + p1.toInt.toNat)).toInt (c.1 (11 + p1.toInt.toNat)).toInt (mo c.2 p1.toInt.toNat) p2.toInt) := (fun X Y q => by have := (dsD_t.mp q).1; omega); have hw : ∀ u, B2P (dsD (c.1 (3 + p1.toInt.toNat)).toInt (c.1 (11 + p1.toInt.toNat)).toInt (mo c.2 p1.toInt.toNat) p2.toInt) u → 0 ≤ u.1 ∧ u.1 < (c.1 (3 + p1.toInt.toNat)).toInt := (fun u d => (dsD_t.mp d).1.1); have sub : ∀ X Y, opA (I41 (a0 Q p0 21)) (dsD (c.1 (3 + p1.toInt.toNat)).toInt (c.1 (11 + p1.toInt.toNat)).toInt (mo c.2 p1.toInt.toNat) p2.toInt) X Y = true → (dsD (c.1 (3 + p1.toInt.toNat)).toInt (c.1 (11 + p1.toInt.toNat)).toInt (mo c.2 p1.toInt.toNat) p2.toInt) X Y = true := (fun X Y q => (opA_t.mp q).1); have r_I41 := rI_fr (I1 := I41) hQ hLp0 hKp0 (fun b q => fr_I41 b (by omega)) h; have e45 : z45.toInt = (c.1 (3 + p1.toInt.toNat)).toInt := congrArg Int32.toInt ((show z45 = I41 (a0 Q p0 0) (3 + p1.toInt.toNat) from fez45).trans (r_I41 _ (by omega))); obtain ⟨S, L⟩ := g41 c ok h hj hm; have eA : Iz176 (a0 Q p0 21) = I68 (a0 Q p0 21) := (by rw [ya, qIz176, va_up_ne _ _ (ne_k hKoy hKp0 (by decide))]); have e71 : z71.toInt = (I68 p0 24).toInt := congrArg Int32.toInt ez71; have n176 : (Iz176 p0 23).toInt = z175.toInt := (by rw [qIz176, rz_at]); rw [eA, n176, show z179.toInt = v41_4.toInt + 1 by omega]; rcases g68 c ok h hj hm with ⟨o, q0, e⟩ | ⟨o, F, nn, l1, l2⟩; (have z0 := xpz172.1 (h172.mpr (by omega)); rw [e, show z175.toInt = (I41 p0 23).toInt by omega]; exact ⟨sc_skip S ⟨by omega, by omega⟩ (by omega) rfl (fun z => by have z2 : opA (I41 (a0 Q p0 21)) (dsD (c.1 (3 + p1.toInt.toNat)).toInt (c.1 (11 + p1.toInt.toNat)).toInt (mo c.2 p1.toInt.toNat) p2.toInt) v41_4.toInt v29_3.toInt = true := z; rw [o] at z2; cases z2), L⟩); (have z1 := xpz172.2 (fun q => by have := h172.mp q; omega); exact ⟨sc_take S ⟨by omega, by omega⟩ (by omega) rfl (by omega) o (fr_end F (by omega) o nn), F.2.2.1⟩)) hP hS (lv_sub hl [1, 2, 3, 4, 0] rfl)
                  refine lv_if_le (tgt := 171) hx hb dX7_laysIslands_164 (by decide) (fun c164 => ?_) (fun c164 => ?_)
                  · have t164 := tq_le (k := z71.toInt) (q := (0)) c164 rfl (by decide +kernel)
                    refine lv_iconst (v := 0) hx hb dX7_laysIslands_171 (by decide +kernel) ?_
                    exact j172 0 _ _ _ ⟨by decide +kernel, by decide +kernel⟩ ⟨fun _ => by omega, fun _ => by decide +kernel⟩ hP hS (lv_sub hl [0, 1, 2, 3, 4, 5] rfl)
                  · have t164 := tq_nle (k := z71.toInt) (q := (0)) c164 rfl (by decide +kernel)
                    refine lv_iconst (v := 1) hx hb dX7_laysIslands_167 (by decide +kernel) ?_
                    refine lv_goto (tgt := 172) hx hb dX7_laysIslands_168 (by decide) ?_
                    exact j172 1 _ _ _ ⟨by decide +kernel, by decide +kernel⟩ ⟨fun q => absurd q (by decide +kernel), fun q => absurd q (by omega)⟩ hP hS (lv_sub hl [0, 1, 2, 3, 4, 5] rfl)
                · have t74 := tq_nle (k := z71.toInt) (q := v68_5.toInt) c74 rfl rfl
                  refine lv_aload_n hx hb dX7_laysIslands_77 rfl (lv_at hl 0 rfl) ?_
                  obtain ⟨y78, ey78, hLy78, hKy78⟩ := oQ_7_22 (Sv_at hQ hLp0 hKp0)
                  refine p_get (v := .ref y78) hx hb hts inX7 hown hK hP hLp0 hKp0 rfl rfl 22 (by decide) (hts _ pq1137) (congrArg (fun q => some (va_rf q)) ey78) dX7_laysIslands_78 ?_
                  refine lv_iload hx hb dX7_laysIslands_81 (lv_at hl 5 rfl) ?_
                  refine p_iald hx hb hK hP 1 hLy78 hKy78 rfl rfl (in_of (by omega) (by omega)) dX7_laysIslands_83 ?_
                  refine lv_topi (fun z83 ez83 => ?_)
                  refine lv_bipush (v := 100) hx hb dX7_laysIslands_84 (by decide +kernel) ?_
                  refine lv_irem hx hb dX7_laysIslands_86 (by decide +kernel) ?_
                  refine lv_topi (fun z86 ez86 => ?_)
                  refine lv_istore (lv' := [(6, .int z86), (0, .ref p0), (1, .int p1), (2, .int p2), (3, .int v29_3), (4, .int v41_4), (5, .int v68_5)]) hx hb dX7_laysIslands_87 hl (by decide) rfl (fun ls hl => ?_)
                  refine lv_aload_n hx hb dX7_laysIslands_89 rfl (lv_at hl 1 rfl) ?_
                  refine p_get (v := .ref y78) hx hb hts inX7 hown hK hP hLp0 hKp0 rfl rfl 22 (by decide) (hts _ pq1137) (congrArg (fun q => some (va_rf q)) ey78) dX7_laysIslands_90 ?_
                  refine lv_iload hx hb dX7_laysIslands_93 (lv_at hl 6 rfl) ?_
                  refine p_iald hx hb hK hP 1 hLy78 hKy78 rfl rfl (in_of (by omega) (by omega)) dX7_laysIslands_95 ?_
                  refine lv_topi (fun z95 ez95 => ?_)
                  obtain rfl : z83 = z95 := ez83.trans ez95.symm
                  refine lv_bipush (v := 100) hx hb dX7_laysIslands_96 (by decide +kernel) ?_
                  refine lv_idiv hx hb dX7_laysIslands_98 (by decide +kernel) ?_
                  refine lv_topi (fun z98 ez98 => ?_)
                  refine lv_istore (lv' := [(7, .int z98), (6, .int z86), (0, .ref p0), (1, .int p1), (2, .int p2), (3, .int v29_3), (4, .int v41_4), (5, .int v68_5)]) hx hb dX7_laysIslands_99 hl (by decide) rfl (fun ls hl => ?_)
                  refine lv_aload_n hx hb dX7_laysIslands_101 rfl (lv_at hl 2 rfl) ?_
                  refine lv_iload_n hx hb dX7_laysIslands_102 rfl (lv_at hl 3 rfl) ?_
                  refine lv_iload hx hb dX7_laysIslands_103 (lv_at hl 1 rfl) ?_
                  refine lv_iconst (v := 1) hx hb dX7_laysIslands_105 (by decide +kernel) ?_
                  refine lv_isub hx hb dX7_laysIslands_106 ?_
                  refine lv_topi (fun z106 ez106 => ?_)
                  refine lv_iload hx hb dX7_laysIslands_107 (lv_at hl 0 rfl) ?_
                  refine lv_iload_n hx hb dX7_laysIslands_109 rfl (lv_at hl 4 rfl) ?_
                  refine sw_v (Z := (fun I1 J1 => Iv L K x0 m0 tx tm I1 ∧ (∀ b, ¬ (K b = 7 ∨ K b = 11 ∨ K b = 27) → I1 b = I68 b) ∧ I1 p0 11 = I68 p0 11 ∧ (((I1 p0 24).toInt ≤ (cn (I1 ((Q p0 21).getD 0)) 4000 : Int) ∧ (∀ k, ¬ k = 24 → I1 p0 k = I68 p0 k))) ∧ (∀ b, K b = 0 ∨ K b = 1 ∨ K b = 3 ∨ K b = 6 → I1 b = I68 b) ∧ (∀ c : Fx, okF c → rI Q I68 p0 c → rJ Q J p0 c → p1.toInt.toNat < (c.1 0).toInt.toNat → jnR Q I68 I1 p0 (dsD (c.1 (3 + p1.toInt.toNat)).toInt (c.1 (11 + p1.toInt.toNat)).toInt (mo c.2 p1.toInt.toNat) p2.toInt) z106.toInt z98.toInt) ∧ J1 = J)) (va_runV (As := [.int p1, .int z106, .int z98, .int p2]) (rest := []) ⟨hx, hb, hml, hown, hts⟩ (s_X7_joinsIsland l dC dI cs L K G Q hQ x0 m0 tx tm H.size I68 J hI68 p0 hLp0 hKp0 p1 ⟨by omega, by omega⟩ z106 z98 p2 h68.1 (by rw [h68.2]; have := h41.1; omega)) (cwV 4 hts (gV pq1538 pq1540 pq58 pq81 pq1541) rfl rfl rfl (by decide +kernel) ⟨(by rw [hR]; exact (Nat.le_of_ble_eq_true rfl)), (by rw [hR]; exact (Nat.le_of_ble_eq_true rfl))⟩) (sP_V hP hD hK hN hLp0 hKp0 rfl rfl) rfl rfl hl.1 rfl (lv_room (Nat.le_of_ble_eq_true rfl)) dX7_laysIslands_110 ⟨(by rw [hR]; exact (Nat.le_of_ble_eq_true rfl)), (by rw [hR]; exact (Nat.le_of_ble_eq_true rfl))⟩) hS hAL hA (fun Iz110 Jz110 H locs hz110 hIz110 hP hS => ?_)
                  obtain ⟨hIz110, frc110, kc110_0_11, zp110, dnc110, jz110, djc110⟩ := hIz110
                  obtain rfl : J = Jz110 := djc110.symm
                  have dn_Iz110 : (∀ b, K b = 0 ∨ K b = 1 ∨ K b = 3 ∨ K b = 6 → Iz110 b = I b) := fun b hc => (dnc110 b (by omega)).trans (dn_I68 b hc)
                  have kp0_11_Iz110 : Iz110 p0 11 = I p0 11 := kc110_0_11.trans kp0_11_I68
                  have fr_Iz110 : ∀ b, ¬ (K b = 7 ∨ K b = 11 ∨ K b = 27) → Iz110 b = I b := fun b q => (frc110 b (fun z => q (by omega))).trans (fr_I68 b q)
                  refine lv_aload_n hx hb dX7_laysIslands_113 rfl (lv_at hl 2 rfl) ?_
                  refine lv_iload_n hx hb dX7_laysIslands_114 rfl (lv_at hl 3 rfl) ?_
                  refine lv_iload hx hb dX7_laysIslands_115 (lv_at hl 1 rfl) ?_
                  refine lv_iconst (v := 1) hx hb dX7_laysIslands_117 (by decide +kernel) ?_
                  refine lv_iadd hx hb dX7_laysIslands_118 ?_
                  refine lv_topi (fun z118 ez118 => ?_)
                  refine lv_iload hx hb dX7_laysIslands_119 (lv_at hl 0 rfl) ?_
                  refine lv_iload_n hx hb dX7_laysIslands_121 rfl (lv_at hl 4 rfl) ?_
                  refine sw_v (Z := (fun I1 J1 => Iv L K x0 m0 tx tm I1 ∧ (∀ b, ¬ (K b = 7 ∨ K b = 11 ∨ K b = 27) → I1 b = Iz110 b) ∧ I1 p0 11 = Iz110 p0 11 ∧ (((I1 p0 24).toInt ≤ (cn (I1 ((Q p0 21).getD 0)) 4000 : Int) ∧ (∀ k, ¬ k = 24 → I1 p0 k = Iz110 p0 k))) ∧ (∀ b, K b = 0 ∨ K b = 1 ∨ K b = 3 ∨ K b = 6 → I1 b = Iz110 b) ∧ (∀ c : Fx, okF c → rI Q Iz110 p0 c → rJ Q J p0 c → p1.toInt.toNat < (c.1 0).toInt.toNat → jnR Q Iz110 I1 p0 (dsD (c.1 (3 + p1.toInt.toNat)).toInt (c.1 (11 + p1.toInt.toNat)).toInt (mo c.2 p1.toInt.toNat) p2.toInt) z118.toInt z98.toInt) ∧ J1 = J)) (va_runV (As := [.int p1, .int z118, .int z98, .int p2]) (rest := []) ⟨hx, hb, hml, hown, hts⟩ (s_X7_joinsIsland l dC dI cs L K G Q hQ x0 m0 tx tm H.size Iz110 J hIz110 p0 hLp0 hKp0 p1 ⟨by omega, by omega⟩ z118 z98 p2 zp110.1 (by rw [(zp110.2 23 (by decide)).trans h68.2]; have := h41.1; omega)) (cwV 4 hts (gV pq1538 pq1540 pq58 pq81 pq1541) rfl rfl rfl (by decide +kernel) ⟨(by rw [hR]; exact (Nat.le_of_ble_eq_true rfl)), (by rw [hR]; exact (Nat.le_of_ble_eq_true rfl))⟩) (sP_V hP hD hK hN hLp0 hKp0 rfl rfl) rfl rfl hl.1 rfl (lv_room (Nat.le_of_ble_eq_true rfl)) dX7_laysIslands_122 ⟨(by rw [hR]; exact (Nat.le_of_ble_eq_true rfl)), (by rw [hR]; exact (Nat.le_of_ble_eq_true rfl))⟩) hS hAL hA (fun Iz122 Jz122 H locs hz122 hIz122 hP hS => ?_)
                  obtain ⟨hIz122, frc122, kc122_0_11, zp122, dnc122, jz122, djc122⟩ := hIz122
                  obtain rfl : J = Jz122 := djc122.symm
                  have dn_Iz122 : (∀ b, K b = 0 ∨ K b = 1 ∨ K b = 3 ∨ K b = 6 → Iz122 b = I b) := fun b hc => (dnc122 b (by omega)).trans (dn_Iz110 b hc)
                  have kp0_11_Iz122 : Iz122 p0 11 = I p0 11 := kc122_0_11.trans kp0_11_Iz110
                  have fr_Iz122 : ∀ b, ¬ (K b = 7 ∨ K b = 11 ∨ K b = 27) → Iz122 b = I b := fun b q => (frc122 b (fun z => q (by omega))).trans (fr_Iz110 b q)
                  refine lv_aload_n hx hb dX7_laysIslands_125 rfl (lv_at hl 2 rfl) ?_
                  refine lv_iload_n hx hb dX7_laysIslands_126 rfl (lv_at hl 3 rfl) ?_
                  refine lv_iload hx hb dX7_laysIslands_127 (lv_at hl 1 rfl) ?_
                  refine lv_iload hx hb dX7_laysIslands_129 (lv_at hl 0 rfl) ?_
                  refine lv_iconst (v := 1) hx hb dX7_laysIslands_131 (by decide +kernel) ?_
                  refine lv_isub hx hb dX7_laysIslands_132 ?_
                  refine lv_topi (fun z132 ez132 => ?_)
                  refine lv_iload_n hx hb dX7_laysIslands_133 rfl (lv_at hl 4 rfl) ?_
                  refine sw_v (Z := (fun I1 J1 => Iv L K x0 m0 tx tm I1 ∧ (∀ b, ¬ (K b = 7 ∨ K b = 11 ∨ K b = 27) → I1 b = Iz122 b) ∧ I1 p0 11 = Iz122 p0 11 ∧ (((I1 p0 24).toInt ≤ (cn (I1 ((Q p0 21).getD 0)) 4000 : Int) ∧ (∀ k, ¬ k = 24 → I1 p0 k = Iz122 p0 k))) ∧ (∀ b, K b = 0 ∨ K b = 1 ∨ K b = 3 ∨ K b = 6 → I1 b = Iz122 b) ∧ (∀ c : Fx, okF c → rI Q Iz122 p0 c → rJ Q J p0 c → p1.toInt.toNat < (c.1 0).toInt.toNat → jnR Q Iz122 I1 p0 (dsD (c.1 (3 + p1.toInt.toNat)).toInt (c.1 (11 + p1.toInt.toNat)).toInt (mo c.2 p1.toInt.toNat) p2.toInt) z86.toInt z132.toInt) ∧ J1 = J)) (va_runV (As := [.int p1, .int z86, .int z132, .int p2]) (rest := []) ⟨hx, hb, hml, hown, hts⟩ (s_X7_joinsIsland l dC dI cs L K G Q hQ x0 m0 tx tm H.size Iz122 J hIz122 p0 hLp0 hKp0 p1 ⟨by omega, by omega⟩ z86 z132 p2 zp122.1 (by rw [(zp122.2 23 (by decide)).trans ((zp110.2 23 (by decide)).trans h68.2)]; have := h41.1; omega)) (cwV 4 hts (gV pq1538 pq1540 pq58 pq81 pq1541) rfl rfl rfl (by decide +kernel) ⟨(by rw [hR]; exact (Nat.le_of_ble_eq_true rfl)), (by rw [hR]; exact (Nat.le_of_ble_eq_true rfl))⟩) (sP_V hP hD hK hN hLp0 hKp0 rfl rfl) rfl rfl hl.1 rfl (lv_room (Nat.le_of_ble_eq_true rfl)) dX7_laysIslands_134 ⟨(by rw [hR]; exact (Nat.le_of_ble_eq_true rfl)), (by rw [hR]; exact (Nat.le_of_ble_eq_true rfl))⟩) hS hAL hA (fun Iz134 Jz134 H locs hz134 hIz134 hP hS => ?_)
                  obtain ⟨hIz134, frc134, kc134_0_11, zp134, dnc134, jz134, djc134⟩ := hIz134
                  obtain rfl : J = Jz134 := djc134.symm
                  have dn_Iz134 : (∀ b, K b = 0 ∨ K b = 1 ∨ K b = 3 ∨ K b = 6 → Iz134 b = I b) := fun b hc => (dnc134 b (by omega)).trans (dn_Iz122 b hc)
                  have kp0_11_Iz134 : Iz134 p0 11 = I p0 11 := kc134_0_11.trans kp0_11_Iz122
                  have fr_Iz134 : ∀ b, ¬ (K b = 7 ∨ K b = 11 ∨ K b = 27) → Iz134 b = I b := fun b q => (frc134 b (fun z => q (by omega))).trans (fr_Iz122 b q)
                  refine lv_aload_n hx hb dX7_laysIslands_137 rfl (lv_at hl 2 rfl) ?_
                  refine lv_iload_n hx hb dX7_laysIslands_138 rfl (lv_at hl 3 rfl) ?_
                  refine lv_iload hx hb dX7_laysIslands_139 (lv_at hl 1 rfl) ?_
                  refine lv_iload hx hb dX7_laysIslands_141 (lv_at hl 0 rfl) ?_
                  refine lv_iconst (v := 1) hx hb dX7_laysIslands_143 (by decide +kernel) ?_
                  refine lv_iadd hx hb dX7_laysIslands_144 ?_
                  refine lv_topi (fun z144 ez144 => ?_)
                  refine lv_iload_n hx hb dX7_laysIslands_145 rfl (lv_at hl 4 rfl) ?_
                  refine sw_v (Z := (fun I1 J1 => Iv L K x0 m0 tx tm I1 ∧ (∀ b, ¬ (K b = 7 ∨ K b = 11 ∨ K b = 27) → I1 b = Iz134 b) ∧ I1 p0 11 = Iz134 p0 11 ∧ (((I1 p0 24).toInt ≤ (cn (I1 ((Q p0 21).getD 0)) 4000 : Int) ∧ (∀ k, ¬ k = 24 → I1 p0 k = Iz134 p0 k))) ∧ (∀ b, K b = 0 ∨ K b = 1 ∨ K b = 3 ∨ K b = 6 → I1 b = Iz134 b) ∧ (∀ c : Fx, okF c → rI Q Iz134 p0 c → rJ Q J p0 c → p1.toInt.toNat < (c.1 0).toInt.toNat → jnR Q Iz134 I1 p0 (dsD (c.1 (3 + p1.toInt.toNat)).toInt (c.1 (11 + p1.toInt.toNat)).toInt (mo c.2 p1.toInt.toNat) p2.toInt) z86.toInt z144.toInt) ∧ J1 = J)) (va_runV (As := [.int p1, .int z86, .int z144, .int p2]) (rest := []) ⟨hx, hb, hml, hown, hts⟩ (s_X7_joinsIsland l dC dI cs L K G Q hQ x0 m0 tx tm H.size Iz134 J hIz134 p0 hLp0 hKp0 p1 ⟨by omega, by omega⟩ z86 z144 p2 zp134.1 (by rw [(zp134.2 23 (by decide)).trans ((zp122.2 23 (by decide)).trans ((zp110.2 23 (by decide)).trans h68.2))]; have := h41.1; omega)) (cwV 4 hts (gV pq1538 pq1540 pq58 pq81 pq1541) rfl rfl rfl (by decide +kernel) ⟨(by rw [hR]; exact (Nat.le_of_ble_eq_true rfl)), (by rw [hR]; exact (Nat.le_of_ble_eq_true rfl))⟩) (sP_V hP hD hK hN hLp0 hKp0 rfl rfl) rfl rfl hl.1 rfl (lv_room (Nat.le_of_ble_eq_true rfl)) dX7_laysIslands_146 ⟨(by rw [hR]; exact (Nat.le_of_ble_eq_true rfl)), (by rw [hR]; exact (Nat.le_of_ble_eq_true rfl))⟩) hS hAL hA (fun Iz146 Jz146 H locs hz146 hIz146 hP hS => ?_)
                  obtain ⟨hIz146, frc146, kc146_0_11, zp146, dnc146, jz146, djc146⟩ := hIz146
                  obtain rfl : J = Jz146 := djc146.symm
                  have dn_Iz146 : (∀ b, K b = 0 ∨ K b = 1 ∨ K b = 3 ∨ K b = 6 → Iz146 b = I b) := fun b hc => (dnc146 b (by omega)).trans (dn_Iz134 b hc)
                  have kp0_11_Iz146 : Iz146 p0 11 = I p0 11 := kc146_0_11.trans kp0_11_Iz134
                  have fr_Iz146 : ∀ b, ¬ (K b = 7 ∨ K b = 11 ∨ K b = 27) → Iz146 b = I b := fun b q => (frc146 b (fun z => q (by omega))).trans (fr_Iz134 b q)
                  obtain ⟨z149, ez149⟩ : ∃ y : Int32, y = v68_5 + 1 := ⟨_, rfl⟩
                  refine lv_iinc (v := z149) (lv' := [(5, .int z149), (7, .int z98), (6, .int z86), (0, .ref p0), (1, .int p1), (2, .int p2), (3, .int v29_3), (4, .int v41_4)]) hx hb dX7_laysIslands_149 hl (k := 7) rfl (by rw [ez149]; rfl) (by decide) rfl (fun ls hl => ?_)
                  have bz149 := tq_add (k := v68_5.toInt) (q := 1) ez149 rfl (by decide +kernel) (by omega) (by omega)
                  refine lv_goto (tgt := 68) hx hb dX7_laysIslands_152 (by decide) ?_
                  exact ih68 _ (by omega) z149 Iz146 _ _ _ rfl ⟨by omega, by omega⟩ hIz146 kp0_11_Iz146 fr_Iz146 dn_Iz146 ⟨zp146.1, by rw [zp146.2 23 (by decide), zp134.2 23 (by decide), zp122.2 23 (by decide), zp110.2 23 (by decide)]; exact h68.2⟩ (fun c ok h hj hm => by obtain ⟨oy, eoy, hLoy, hKoy⟩ := oQ_7_21 (Sv_at hQ hLp0 hKp0); have ya : a0 Q p0 21 = oy := gd_of eoy; have okm_ := ok.2.2.1 _ hm; have o1 := okm_.1; have o2 := okm_.2.1; have rg : rgD (dsD (c.1 (3 + p1.toInt.toNat)).toInt (c.1 (11 + p1.toInt.toNat)).toInt (mo c.2 p1.toInt.toNat) p2.toInt) := (fun X Y q => by have := (dsD_t.mp q).1; omega); have hw : ∀ u, B2P (dsD (c.1 (3 + p1.toInt.toNat)).toInt (c.1 (11 + p1.toInt.toNat)).toInt (mo c.2 p1.toInt.toNat) p2.toInt) u → 0 ≤ u.1 ∧ u.1 < (c.1 (3 + p1.toInt.toNat)).toInt := (fun u d => (dsD_t.mp d).1.1); have sub : ∀ X Y, opA (I41 (a0 Q p0 21)) (dsD (c.1 (3 + p1.toInt.toNat)).toInt (c.1 (11 + p1.toInt.toNat)).toInt (mo c.2 p1.toInt.toNat) p2.toInt) X Y = true → (dsD (c.1 (3 + p1.toInt.toNat)).toInt (c.1 (11 + p1.toInt.toNat)).toInt (mo c.2 p1.toInt.toNat) p2.toInt) X Y = true := (fun X Y q => (opA_t.mp q).1); have r_I68 := rI_fr (I1 := I68) hQ hLp0 hKp0 (fun b q => fr_I68 b (by omega)) h; have r_Iz110 := rI_fr (I1 := Iz110) hQ hLp0 hKp0 (fun b q => fr_Iz110 b (by omega)) h; have r_Iz122 := rI_fr (I1 := Iz122) hQ hLp0 hKp0 (fun b q => fr_Iz122 b (by omega)) h; have r_Iz134 := rI_fr (I1 := Iz134) hQ hLp0 hKp0 (fun b q => fr_Iz134 b (by omega)) h; have e71 : z71.toInt = (I68 p0 24).toInt := congrArg Int32.toInt ez71; rcases g68 c ok h hj hm with ⟨o, q0, e⟩ | ⟨o, F, nn, l1, l2⟩; (exfalso; omega); (obtain ⟨S, L⟩ := g41 c ok h hj hm; have fp : fstP (B2P (dsD (c.1 (3 + p1.toInt.toNat)).toInt (c.1 (11 + p1.toInt.toNat)).toInt (mo c.2 p1.toInt.toNat) p2.toInt)) (v41_4.toInt, v29_3.toInt) := sc_fst S o; have F0 := F; have hk : v68_5.toInt.toNat < (I68 p0 24).toInt.toNat := (by omega); have qe : a0 Q p0 22 = y78 := gd_of ey78; have bq : (dsD (c.1 (3 + p1.toInt.toNat)).toInt (c.1 (11 + p1.toInt.toNat)).toInt (mo c.2 p1.toInt.toNat) p2.toInt) _ _ = true := sub _ _ (F.1.2.1 _ hk).1; have bq2 := rg _ _ bq; have e83 : z83 = I68 (a0 Q p0 22) v68_5.toInt.toNat := (by rw [ez83, qe]; rfl); have bq3 : (0 ≤ z83.toInt % 100 ∧ z83.toInt % 100 < 100) ∧ 0 ≤ z83.toInt / 100 ∧ z83.toInt / 100 < 40 := (by rw [e83]; exact bq2); have d86 := tq_rem (k := 100) ez86 (by decide +kernel) (by decide) (show 0 ≤ z83.toInt by omega); have d98 := tq_div (k := 100) ez98 (by decide +kernel) (by decide) (show 0 ≤ z83.toInt by omega); have eq : qdc (I68 (a0 Q p0 22) v68_5.toInt.toNat) = (z86.toInt, z98.toInt) := (by rw [← e83]; unfold qdc; rw [← d86, ← d98]); have a106 := tq_sub (k := z86.toInt) (q := 1) ez106 rfl (by decide +kernel) (by omega) (by omega); have a118 := tq_add (k := z86.toInt) (q := 1) ez118 rfl (by decide +kernel) (by omega) (by omega); have a132 := tq_sub (k := z98.toInt) (q := 1) ez132 rfl (by decide +kernel) (by omega) (by omega); have a144 := tq_add (k := z98.toInt) (q := 1) ez144 rfl (by decide +kernel) (by omega) (by omega); have K1 := fr_take F0 (by omega) (jz110 c ok r_I68 hj hm) (fun k => fr_con F hk eq (Or.inl ⟨rfl, Or.inr a106⟩) (F0.1.1 (z106.toInt, z98.toInt) k)) rg sub fp; obtain ⟨F1, N1, M1, l1, u1, f1⟩ := K1; have K2 := fr_take F1 (by omega) (jz122 c ok r_Iz110 hj hm) (fun k => fr_con F hk eq (Or.inl ⟨rfl, Or.inl a118⟩) (F1.1.1 (z118.toInt, z98.toInt) k)) rg sub fp; obtain ⟨F2, N2, M2, l2, u2, f2⟩ := K2; have K3 := fr_take F2 (by omega) (jz134 c ok r_Iz122 hj hm) (fun k => fr_con F hk eq (Or.inr ⟨rfl, Or.inr a132⟩) (F2.1.1 (z86.toInt, z132.toInt) k)) rg sub fp; obtain ⟨F3, N3, M3, l3, u3, f3⟩ := K3; have K4 := fr_take F3 (by omega) (jz146 c ok r_Iz134 hj hm) (fun k => fr_con F hk eq (Or.inr ⟨rfl, Or.inl a144⟩) (F3.1.1 (z86.toInt, z144.toInt) k)) rg sub fp; obtain ⟨F4, N4, M4, l4, u4, f4⟩ := K4; have eq4 : qdc (Iz146 (a0 Q p0 22) v68_5.toInt.toNat) = (z86.toInt, z98.toInt) := (by rw [u4 _ (by omega), u3 _ (by omega), u2 _ (by omega), u1 _ (by omega)]; exact eq); have F5 := fr_next F4 (k1 := z149.toInt.toNat) eq4 (by omega) (by rw [← a118]; exact M4 _ _ (M3 _ _ N2)) (by rw [← a106]; exact M4 _ _ (M3 _ _ (M2 _ _ N1))) (by rw [← a144]; exact N4) (by rw [← a132]; exact M4 _ _ N3); exact Or.inr ⟨o, F5, M4 _ _ (M3 _ _ (M2 _ _ (M1 _ _ nn))), by omega, by omega⟩)) hP hS (lv_sub hl [3, 4, 5, 6, 7, 0] rfl))
              exact key68 _ 0 Iz62 _ _ _ rfl ⟨by decide +kernel, by decide +kernel⟩ hIz62 kp0_11_Iz62 fr_Iz62 dn_Iz62 ⟨zp62.1, by rw [zp62.2 23 (by decide), qIz53, rz_fr _ _ _ _ (by decide)]⟩ (fun c ok h hj hm => by obtain ⟨oy, eoy, hLoy, hKoy⟩ := oQ_7_21 (Sv_at hQ hLp0 hKp0); have ya : a0 Q p0 21 = oy := gd_of eoy; have okm_ := ok.2.2.1 _ hm; have o1 := okm_.1; have o2 := okm_.2.1; have rg : rgD (dsD (c.1 (3 + p1.toInt.toNat)).toInt (c.1 (11 + p1.toInt.toNat)).toInt (mo c.2 p1.toInt.toNat) p2.toInt) := (fun X Y q => by have := (dsD_t.mp q).1; omega); have hw : ∀ u, B2P (dsD (c.1 (3 + p1.toInt.toNat)).toInt (c.1 (11 + p1.toInt.toNat)).toInt (mo c.2 p1.toInt.toNat) p2.toInt) u → 0 ≤ u.1 ∧ u.1 < (c.1 (3 + p1.toInt.toNat)).toInt := (fun u d => (dsD_t.mp d).1.1); have sub : ∀ X Y, opA (I41 (a0 Q p0 21)) (dsD (c.1 (3 + p1.toInt.toNat)).toInt (c.1 (11 + p1.toInt.toNat)).toInt (mo c.2 p1.toInt.toNat) p2.toInt) X Y = true → (dsD (c.1 (3 + p1.toInt.toNat)).toInt (c.1 (11 + p1.toInt.toNat)).toInt (mo c.2 p1.toInt.toNat) p2.toInt) X Y = true := (fun X Y q => (opA_t.mp q).1); have r_I41 := rI_fr (I1 := I41) hQ hLp0 hKp0 (fun b q => fr_I41 b (by omega)) h; have r_Iz53 := rI_fr (I1 := Iz53) hQ hLp0 hKp0 (fun b q => fr_Iz53 b (by omega)) h; have e45 : z45.toInt = (c.1 (3 + p1.toInt.toNat)).toInt := congrArg Int32.toInt ((show z45 = I41 (a0 Q p0 0) (3 + p1.toInt.toNat) from fez45).trans (r_I41 _ (by omega))); obtain ⟨S, L⟩ := g41 c ok h hj hm; have eA : Iz53 (a0 Q p0 21) = I41 (a0 Q p0 21) := (by rw [ya, qIz53, va_up_ne _ _ (ne_k hKoy hKp0 (by decide))]); have q53 : (Iz53 p0 24).toInt = 0 := (by rw [qIz53, rz_at]; decide +kernel); have n53 : Iz53 p0 23 = I41 p0 23 := (by rw [qIz53, rz_fr _ _ _ _ (by decide)]); have T := jz62 c ok r_Iz53 hj hm; cases o : opA (I41 (a0 Q p0 21)) (dsD (c.1 (3 + p1.toInt.toNat)).toInt (c.1 (11 + p1.toInt.toNat)).toInt (mo c.2 p1.toInt.toNat) p2.toInt) v41_4.toInt v29_3.toInt with | false => (obtain ⟨b1, b2, b3⟩ := T.1 (by rw [eA]; exact o); exact Or.inl ⟨rfl, by rw [b1]; exact q53, b2.trans eA⟩) | true => (have fp : fstP (B2P (dsD (c.1 (3 + p1.toInt.toNat)).toInt (c.1 (11 + p1.toInt.toNat)).toInt (mo c.2 p1.toInt.toNat) p2.toInt)) (v41_4.toInt, v29_3.toInt) := sc_fst S o; have F0 := fr_0 (I := Iz53) (m := p0) (D := (dsD (c.1 (3 + p1.toInt.toNat)).toInt (c.1 (11 + p1.toInt.toNat)).toInt (mo c.2 p1.toInt.toNat) p2.toInt)) (O0 := opA (I41 (a0 Q p0 21)) (dsD (c.1 (3 + p1.toInt.toNat)).toInt (c.1 (11 + p1.toInt.toNat)).toInt (mo c.2 p1.toInt.toNat) p2.toInt)) (p := (v41_4.toInt, v29_3.toInt)) q53 (by rw [eA]) (by rw [eA]; exact L) (by rw [n53]; exact S.2); have K0 := fr_take F0 (Nat.zero_le _) T (fun _ => con_refl _) rg sub fp; obtain ⟨F1, N1, M1, l1, u1, f1⟩ := K0; have j1 := (T.2 (by rw [eA]; exact o)).2.1; rw [show (0 : Int32).toInt = 0 from by decide +kernel]; exact Or.inr ⟨rfl, F1, N1, by omega, by omega⟩)) hP hS (lv_sub hl [1, 2, 3, 4, 5, 0] rfl))
          exact key41 _ 0 I29 _ _ _ rfl ⟨by decide +kernel, by decide +kernel⟩ hI29 kp0_11_I29 fr_I29 dn_I29 ⟨h29.1, by rw [show (0 : Int32).toInt = 0 from by decide +kernel]; omega, h29.2.2⟩ (fun c ok h hj hm => by rw [show (0 : Int32).toInt = 0 from by decide +kernel]; exact g29 c ok h hj hm) hP hS (lv_sub hl [1, 2, 3, 4, 0] rfl))
      exact key29 _ 0 Iz24 _ _ _ rfl ⟨by decide +kernel, by decide +kernel⟩ hIz24 kp0_11_Iz24 fr_Iz24 dn_Iz24 ⟨by rw [qIz24, rz_at]; decide +kernel, by rw [qIz24, rz_at]; decide +kernel, fun h => absurd h (by rw [qIz24, rz_at]; decide +kernel)⟩ (fun c ok h hj hm => by obtain ⟨oy, eoy, hLoy, hKoy⟩ := oQ_7_21 (Sv_at hQ hLp0 hKp0); have ya : a0 Q p0 21 = oy := gd_of eoy; have okm_ := ok.2.2.1 _ hm; have o1 := okm_.1; have o2 := okm_.2.1; have rg : rgD (dsD (c.1 (3 + p1.toInt.toNat)).toInt (c.1 (11 + p1.toInt.toNat)).toInt (mo c.2 p1.toInt.toNat) p2.toInt) := (fun X Y q => by have := (dsD_t.mp q).1; omega); have hw : ∀ u, B2P (dsD (c.1 (3 + p1.toInt.toNat)).toInt (c.1 (11 + p1.toInt.toNat)).toInt (mo c.2 p1.toInt.toNat) p2.toInt) u → 0 ≤ u.1 ∧ u.1 < (c.1 (3 + p1.toInt.toNat)).toInt := (fun u d => (dsD_t.mp d).1.1); have sub : ∀ X Y, opA (Iz24 (a0 Q p0 21)) (dsD (c.1 (3 + p1.toInt.toNat)).toInt (c.1 (11 + p1.toInt.toNat)).toInt (mo c.2 p1.toInt.toNat) p2.toInt) X Y = true → (dsD (c.1 (3 + p1.toInt.toNat)).toInt (c.1 (11 + p1.toInt.toNat)).toInt (mo c.2 p1.toInt.toNat) p2.toInt) X Y = true := (fun X Y q => (opA_t.mp q).1); have eA : Iz24 (a0 Q p0 21) = I2 (a0 Q p0 21) := (by rw [ya, qIz24, va_up_ne _ _ (ne_k hKoy hKp0 (by decide))]); have m1 : ∀ X Y : Int, (0 ≤ X ∧ X < 100) → (0 ≤ Y ∧ Y < 40) → I2 (a0 Q p0 21) (100 * Y + X).toNat = -1 := (fun X Y hX hY => g2 _ (by omega)); rw [show (Iz24 p0 23).toInt = 0 from (by rw [qIz24, rz_at]; decide +kernel), show (0 : Int32).toInt = 0 from by decide +kernel, eA]; exact ⟨sc_0 (fun u d => by have := rg u.1 u.2 d; omega) (fun u => ⟨fun q => (opA_t.mp q).1, fun d => by have k := rg u.1 u.2 d; exact opA_t.mpr ⟨d, m1 _ _ k.1 k.2⟩⟩), fun X Y hX hY => Or.inl (m1 X Y hX hY)⟩) hP hS (lv_sub hl [1, 2, 3, 0] rfl)
    · have t6 := tq_nle (k := (4000)) (q := v2_3.toInt) c6 (by decide +kernel) rfl
      refine lv_aload_n hx hb dX7_laysIslands_9 rfl (lv_at hl 0 rfl) ?_
      obtain ⟨y10, ey10, hLy10, hKy10⟩ := oQ_7_21 (Sv_at hQ hLp0 hKp0)
      refine p_get (v := .ref y10) hx hb hts inX7 hown hK hP hLp0 hKp0 rfl rfl 21 (by decide) (hts _ pq1136) (congrArg (fun q => some (va_rf q)) ey10) dX7_laysIslands_10 ?_
      refine lv_iload_n hx hb dX7_laysIslands_13 rfl (lv_at hl 3 rfl) ?_
      refine lv_iconst (v := (-1)) hx hb dX7_laysIslands_14 (by decide +kernel) ?_
      refine p_iast hx hb hK hP hD hS 17 hLy10 hKy10 rfl (fun _ => rfl) rfl (in_of (by omega) (by omega)) dX7_laysIslands_15 (fun H locs hP hS => ?_)
      obtain ⟨Iz15, hP, hIz15, qIz15⟩ : ∃ Iz15, va_P (dC, dI) vwCl (Wd cs L K Iz15 J Q) H ∧ Iv L K x0 m0 tx tm Iz15 ∧ Iz15 = va_up I2 y10 (upd (I2 y10) v2_3.toNatClampNeg ((-1) : Int32)) := ⟨_, hP, Iv_put hI2 hKy10 (show okI _ 27 _ from trivial) (Or.inl (by decide)) (Or.inl (by decide)), rfl⟩
      have dn_Iz15 : (∀ b, K b = 0 ∨ K b = 1 ∨ K b = 3 ∨ K b = 6 → Iz15 b = I b) := fun b hc => (congrFun qIz15 b).trans ((va_up_ne _ _ (fun z => by have q := hKy10; rw [← z] at q; omega)).trans (dn_I2 b hc))
      have kp0_11_Iz15 : Iz15 p0 11 = I p0 11 := (congrFun (congrFun qIz15 p0) 11).trans ((congrFun (va_up_ne _ _ (fun z => by have q1 := hKp0; have q2 := hKy10; rw [z] at q1; omega)) 11).trans kp0_11_I2)
      have fr_Iz15 : ∀ b, ¬ (K b = 7 ∨ K b = 11 ∨ K b = 27) → Iz15 b = I b := fun b q => (congrFun qIz15 b).trans ((va_up_ne _ _ (fun z => q (by rw [z]; have := hKy10; omega))).trans (fr_I2 b q))
      obtain ⟨z16, ez16⟩ : ∃ y : Int32, y = v2_3 + 1 := ⟨_, rfl⟩
      refine lv_iinc (v := z16) (lv' := [(3, .int z16), (0, .ref p0), (1, .int p1), (2, .int p2)]) hx hb dX7_laysIslands_16 hl (k := 3) rfl (by rw [ez16]; rfl) (by decide) rfl (fun ls hl => ?_)
      have bz16 := tq_add (k := v2_3.toInt) (q := 1) ez16 rfl (by decide +kernel) (by omega) (by omega)
      refine lv_goto (tgt := 2) hx hb dX7_laysIslands_19 (by decide) ?_
      exact ih2 _ (by omega) z16 Iz15 _ _ _ rfl ⟨by omega, by omega⟩ hIz15 kp0_11_Iz15 fr_Iz15 dn_Iz15 (fun k hk => by rw [show a0 Q p0 21 = y10 from gd_of ey10, qIz15, va_up_self]; unfold upd; by_cases w : k = v2_3.toNatClampNeg; (rw [if_pos w]); (rw [if_neg w]; have g := g2 k (by have w2 : ¬ k = v2_3.toInt.toNat := w; omega); rw [show a0 Q p0 21 = y10 from gd_of ey10] at g; exact g)) hP hS (lv_sub hl [1, 2, 3, 0] rfl))
  exact key2 _ 0 I _ _ _ rfl ⟨by decide +kernel, by decide +kernel⟩ hI kp0_11_I fr_I dn_I (fun k hk => absurd hk (by rw [show (0 : Int32).toInt = 0 from by decide +kernel]; exact Nat.not_lt_zero _)) hP hS (lv_sub hl [1, 2, 3, 0] rfl)
