def yX2_takeIslandOfRow : MethodName := ⟨RX2, "takeIslandOfRow", "(I)Z"⟩
abbrev cX2_takeIslandOfRow : ByteArray := prog_4_method_5_code
def yX2_take : MethodName := ⟨RX2, "take", "(II)V"⟩
abbrev cX2_take : ByteArray := prog_4_method_6_code
abbrev cX2_countHoles : ByteArray := prog_4_method_4_code
abbrev cX2_countIslands : ByteArray := prog_4_method_2_code
abbrev cX2_findIsland : ByteArray := prog_4_method_3_code
def yX2_countHoles : MethodName := ⟨RX2, "countHoles", "(LMaskTouch$Mask;)I"⟩
def yX2_countIslands : MethodName := ⟨RX2, "countIslands", "(LMaskTouch$Mask;)I"⟩
def yX2_findIsland : MethodName := ⟨RX2, "findIsland", "(LMaskTouch$Mask;I)Z"⟩
theorem dX2_countHoles_0 : decode cX2_countHoles 0 = .ok (.aload_n 0, 1) := by decide +kernel
theorem dX2_countHoles_1 : decode cX2_countHoles 1 = .ok (.getfield 12, 3) := by decide +kernel
theorem dX2_countHoles_4 : decode cX2_countHoles 4 = .ok (.aload_n 1, 1) := by decide +kernel
theorem dX2_countHoles_5 : decode cX2_countHoles 5 = .ok (.invokevirtual 41, 3) := by decide +kernel
theorem dX2_countHoles_8 : decode cX2_countHoles 8 = .ok (.iconst 0, 1) := by decide +kernel
theorem dX2_countHoles_9 : decode cX2_countHoles 9 = .ok (.istore_n 2, 1) := by decide +kernel
theorem dX2_countHoles_10 : decode cX2_countHoles 10 = .ok (.iload_n 2, 1) := by decide +kernel
theorem dX2_countHoles_11 : decode cX2_countHoles 11 = .ok (.aload_n 0, 1) := by decide +kernel
theorem dX2_countHoles_12 : decode cX2_countHoles 12 = .ok (.getfield 12, 3) := by decide +kernel
theorem dX2_countHoles_15 : decode cX2_countHoles 15 = .ok (.getfield 45, 3) := by decide +kernel
theorem dX2_countHoles_18 : decode cX2_countHoles 18 = .ok (.if_icmp .ge 75, 3) := by decide +kernel
theorem dX2_countHoles_21 : decode cX2_countHoles 21 = .ok (.aload_n 0, 1) := by decide +kernel
theorem dX2_countHoles_22 : decode cX2_countHoles 22 = .ok (.getfield 12, 3) := by decide +kernel
theorem dX2_countHoles_25 : decode cX2_countHoles 25 = .ok (.getfield 52, 3) := by decide +kernel
theorem dX2_countHoles_28 : decode cX2_countHoles 28 = .ok (.iconst 2, 1) := by decide +kernel
theorem dX2_countHoles_29 : decode cX2_countHoles 29 = .ok (.iload_n 2, 1) := by decide +kernel
theorem dX2_countHoles_30 : decode cX2_countHoles 30 = .ok (.imul, 1) := by decide +kernel
theorem dX2_countHoles_31 : decode cX2_countHoles 31 = .ok (.aload_n 1, 1) := by decide +kernel
theorem dX2_countHoles_32 : decode cX2_countHoles 32 = .ok (.getfield 52, 3) := by decide +kernel
theorem dX2_countHoles_35 : decode cX2_countHoles 35 = .ok (.iconst 2, 1) := by decide +kernel
theorem dX2_countHoles_36 : decode cX2_countHoles 36 = .ok (.iload_n 2, 1) := by decide +kernel
theorem dX2_countHoles_37 : decode cX2_countHoles 37 = .ok (.imul, 1) := by decide +kernel
theorem dX2_countHoles_38 : decode cX2_countHoles 38 = .ok (.laload, 1) := by decide +kernel
theorem dX2_countHoles_39 : decode cX2_countHoles 39 = .ok (.ldc2_w 56, 3) := by decide +kernel
theorem dX2_countHoles_42 : decode cX2_countHoles 42 = .ok (.lxor, 1) := by decide +kernel
theorem dX2_countHoles_43 : decode cX2_countHoles 43 = .ok (.aload_n 1, 1) := by decide +kernel
theorem dX2_countHoles_44 : decode cX2_countHoles 44 = .ok (.getfield 58, 3) := by decide +kernel
theorem dX2_countHoles_47 : decode cX2_countHoles 47 = .ok (.invokestatic 61, 3) := by decide +kernel
theorem dX2_countHoles_50 : decode cX2_countHoles 50 = .ok (.land, 1) := by decide +kernel
theorem dX2_countHoles_51 : decode cX2_countHoles 51 = .ok (.lastore, 1) := by decide +kernel
theorem dX2_countHoles_52 : decode cX2_countHoles 52 = .ok (.aload_n 0, 1) := by decide +kernel
theorem dX2_countHoles_53 : decode cX2_countHoles 53 = .ok (.getfield 12, 3) := by decide +kernel
theorem dX2_countHoles_56 : decode cX2_countHoles 56 = .ok (.getfield 52, 3) := by decide +kernel
theorem dX2_countHoles_59 : decode cX2_countHoles 59 = .ok (.iconst 2, 1) := by decide +kernel
theorem dX2_countHoles_60 : decode cX2_countHoles 60 = .ok (.iload_n 2, 1) := by decide +kernel
theorem dX2_countHoles_61 : decode cX2_countHoles 61 = .ok (.imul, 1) := by decide +kernel
theorem dX2_countHoles_62 : decode cX2_countHoles 62 = .ok (.iconst 1, 1) := by decide +kernel
theorem dX2_countHoles_63 : decode cX2_countHoles 63 = .ok (.iadd, 1) := by decide +kernel
theorem dX2_countHoles_64 : decode cX2_countHoles 64 = .ok (.aload_n 1, 1) := by decide +kernel
theorem dX2_countHoles_65 : decode cX2_countHoles 65 = .ok (.getfield 52, 3) := by decide +kernel
theorem dX2_countHoles_68 : decode cX2_countHoles 68 = .ok (.iconst 2, 1) := by decide +kernel
theorem dX2_countHoles_69 : decode cX2_countHoles 69 = .ok (.iload_n 2, 1) := by decide +kernel
theorem dX2_countHoles_70 : decode cX2_countHoles 70 = .ok (.imul, 1) := by decide +kernel
theorem dX2_countHoles_71 : decode cX2_countHoles 71 = .ok (.iconst 1, 1) := by decide +kernel
theorem dX2_countHoles_72 : decode cX2_countHoles 72 = .ok (.iadd, 1) := by decide +kernel
theorem dX2_countHoles_73 : decode cX2_countHoles 73 = .ok (.laload, 1) := by decide +kernel
theorem dX2_countHoles_74 : decode cX2_countHoles 74 = .ok (.ldc2_w 56, 3) := by decide +kernel
theorem dX2_countHoles_77 : decode cX2_countHoles 77 = .ok (.lxor, 1) := by decide +kernel
theorem dX2_countHoles_78 : decode cX2_countHoles 78 = .ok (.aload_n 1, 1) := by decide +kernel
theorem dX2_countHoles_79 : decode cX2_countHoles 79 = .ok (.getfield 58, 3) := by decide +kernel
theorem dX2_countHoles_82 : decode cX2_countHoles 82 = .ok (.invokestatic 65, 3) := by decide +kernel
theorem dX2_countHoles_85 : decode cX2_countHoles 85 = .ok (.land, 1) := by decide +kernel
theorem dX2_countHoles_86 : decode cX2_countHoles 86 = .ok (.lastore, 1) := by decide +kernel
theorem dX2_countHoles_87 : decode cX2_countHoles 87 = .ok (.iinc 2 1, 3) := by decide +kernel
theorem dX2_countHoles_90 : decode cX2_countHoles 90 = .ok (.goto (-80), 3) := by decide +kernel
theorem dX2_countHoles_93 : decode cX2_countHoles 93 = .ok (.iconst 0, 1) := by decide +kernel
theorem dX2_countHoles_94 : decode cX2_countHoles 94 = .ok (.istore_n 2, 1) := by decide +kernel
theorem dX2_countHoles_95 : decode cX2_countHoles 95 = .ok (.iconst 0, 1) := by decide +kernel
theorem dX2_countHoles_96 : decode cX2_countHoles 96 = .ok (.istore_n 3, 1) := by decide +kernel
theorem dX2_countHoles_97 : decode cX2_countHoles 97 = .ok (.iload_n 3, 1) := by decide +kernel
theorem dX2_countHoles_98 : decode cX2_countHoles 98 = .ok (.aload_n 0, 1) := by decide +kernel
theorem dX2_countHoles_99 : decode cX2_countHoles 99 = .ok (.getfield 12, 3) := by decide +kernel
theorem dX2_countHoles_102 : decode cX2_countHoles 102 = .ok (.getfield 45, 3) := by decide +kernel
theorem dX2_countHoles_105 : decode cX2_countHoles 105 = .ok (.if_icmp .ge 76, 3) := by decide +kernel
theorem dX2_countHoles_108 : decode cX2_countHoles 108 = .ok (.iconst 0, 1) := by decide +kernel
theorem dX2_countHoles_109 : decode cX2_countHoles 109 = .ok (.istore 4, 2) := by decide +kernel
theorem dX2_countHoles_111 : decode cX2_countHoles 111 = .ok (.iload 4, 2) := by decide +kernel
theorem dX2_countHoles_113 : decode cX2_countHoles 113 = .ok (.bipush 100, 2) := by decide +kernel
theorem dX2_countHoles_115 : decode cX2_countHoles 115 = .ok (.if_icmp .ge 60, 3) := by decide +kernel
theorem dX2_countHoles_118 : decode cX2_countHoles 118 = .ok (.aload_n 0, 1) := by decide +kernel
theorem dX2_countHoles_119 : decode cX2_countHoles 119 = .ok (.iload_n 3, 1) := by decide +kernel
theorem dX2_countHoles_120 : decode cX2_countHoles 120 = .ok (.invokevirtual 48, 3) := by decide +kernel
theorem dX2_countHoles_123 : decode cX2_countHoles 123 = .ok (.ifCond .eq 52, 3) := by decide +kernel
theorem dX2_countHoles_126 : decode cX2_countHoles 126 = .ok (.aload_n 0, 1) := by decide +kernel
theorem dX2_countHoles_127 : decode cX2_countHoles 127 = .ok (.getfield 29, 3) := by decide +kernel
theorem dX2_countHoles_130 : decode cX2_countHoles 130 = .ok (.ifCond .le 39, 3) := by decide +kernel
theorem dX2_countHoles_133 : decode cX2_countHoles 133 = .ok (.aload_n 0, 1) := by decide +kernel
theorem dX2_countHoles_134 : decode cX2_countHoles 134 = .ok (.getfield 32, 3) := by decide +kernel
theorem dX2_countHoles_137 : decode cX2_countHoles 137 = .ok (.ifCond .le 32, 3) := by decide +kernel
theorem dX2_countHoles_140 : decode cX2_countHoles 140 = .ok (.aload_n 0, 1) := by decide +kernel
theorem dX2_countHoles_141 : decode cX2_countHoles 141 = .ok (.getfield 35, 3) := by decide +kernel
theorem dX2_countHoles_144 : decode cX2_countHoles 144 = .ok (.aload_n 1, 1) := by decide +kernel
theorem dX2_countHoles_145 : decode cX2_countHoles 145 = .ok (.getfield 58, 3) := by decide +kernel
theorem dX2_countHoles_148 : decode cX2_countHoles 148 = .ok (.iconst 1, 1) := by decide +kernel
theorem dX2_countHoles_149 : decode cX2_countHoles 149 = .ok (.isub, 1) := by decide +kernel
theorem dX2_countHoles_150 : decode cX2_countHoles 150 = .ok (.if_icmp .ge 19, 3) := by decide +kernel
theorem dX2_countHoles_153 : decode cX2_countHoles 153 = .ok (.aload_n 0, 1) := by decide +kernel
theorem dX2_countHoles_154 : decode cX2_countHoles 154 = .ok (.getfield 38, 3) := by decide +kernel
theorem dX2_countHoles_157 : decode cX2_countHoles 157 = .ok (.aload_n 1, 1) := by decide +kernel
theorem dX2_countHoles_158 : decode cX2_countHoles 158 = .ok (.getfield 45, 3) := by decide +kernel
theorem dX2_countHoles_161 : decode cX2_countHoles 161 = .ok (.iconst 1, 1) := by decide +kernel
theorem dX2_countHoles_162 : decode cX2_countHoles 162 = .ok (.isub, 1) := by decide +kernel
theorem dX2_countHoles_163 : decode cX2_countHoles 163 = .ok (.if_icmp .ge 6, 3) := by decide +kernel
theorem dX2_countHoles_166 : decode cX2_countHoles 166 = .ok (.iinc 2 1, 3) := by decide +kernel
theorem dX2_countHoles_169 : decode cX2_countHoles 169 = .ok (.iinc 4 1, 3) := by decide +kernel
theorem dX2_countHoles_172 : decode cX2_countHoles 172 = .ok (.goto (-61), 3) := by decide +kernel
theorem dX2_countHoles_175 : decode cX2_countHoles 175 = .ok (.iinc 3 1, 3) := by decide +kernel
theorem dX2_countHoles_178 : decode cX2_countHoles 178 = .ok (.goto (-81), 3) := by decide +kernel
theorem dX2_countHoles_181 : decode cX2_countHoles 181 = .ok (.iload_n 2, 1) := by decide +kernel
theorem dX2_countHoles_182 : decode cX2_countHoles 182 = .ok (.ireturn, 1) := by decide +kernel
theorem dX2_countIslands_0 : decode cX2_countIslands 0 = .ok (.aload_n 0, 1) := by decide +kernel
theorem dX2_countIslands_1 : decode cX2_countIslands 1 = .ok (.getfield 12, 3) := by decide +kernel
theorem dX2_countIslands_4 : decode cX2_countIslands 4 = .ok (.aload_n 1, 1) := by decide +kernel
theorem dX2_countIslands_5 : decode cX2_countIslands 5 = .ok (.invokevirtual 41, 3) := by decide +kernel
theorem dX2_countIslands_8 : decode cX2_countIslands 8 = .ok (.iconst 0, 1) := by decide +kernel
theorem dX2_countIslands_9 : decode cX2_countIslands 9 = .ok (.istore_n 2, 1) := by decide +kernel
theorem dX2_countIslands_10 : decode cX2_countIslands 10 = .ok (.iconst 0, 1) := by decide +kernel
theorem dX2_countIslands_11 : decode cX2_countIslands 11 = .ok (.istore_n 3, 1) := by decide +kernel
theorem dX2_countIslands_12 : decode cX2_countIslands 12 = .ok (.iload_n 3, 1) := by decide +kernel
theorem dX2_countIslands_13 : decode cX2_countIslands 13 = .ok (.aload_n 0, 1) := by decide +kernel
theorem dX2_countIslands_14 : decode cX2_countIslands 14 = .ok (.getfield 12, 3) := by decide +kernel
theorem dX2_countIslands_17 : decode cX2_countIslands 17 = .ok (.getfield 45, 3) := by decide +kernel
theorem dX2_countIslands_20 : decode cX2_countIslands 20 = .ok (.if_icmp .ge 36, 3) := by decide +kernel
theorem dX2_countIslands_23 : decode cX2_countIslands 23 = .ok (.iconst 0, 1) := by decide +kernel
theorem dX2_countIslands_24 : decode cX2_countIslands 24 = .ok (.istore 4, 2) := by decide +kernel
theorem dX2_countIslands_26 : decode cX2_countIslands 26 = .ok (.iload 4, 2) := by decide +kernel
theorem dX2_countIslands_28 : decode cX2_countIslands 28 = .ok (.bipush 100, 2) := by decide +kernel
theorem dX2_countIslands_30 : decode cX2_countIslands 30 = .ok (.if_icmp .ge 20, 3) := by decide +kernel
theorem dX2_countIslands_33 : decode cX2_countIslands 33 = .ok (.aload_n 0, 1) := by decide +kernel
theorem dX2_countIslands_34 : decode cX2_countIslands 34 = .ok (.iload_n 3, 1) := by decide +kernel
theorem dX2_countIslands_35 : decode cX2_countIslands 35 = .ok (.invokevirtual 48, 3) := by decide +kernel
theorem dX2_countIslands_38 : decode cX2_countIslands 38 = .ok (.ifCond .eq 12, 3) := by decide +kernel
theorem dX2_countIslands_41 : decode cX2_countIslands 41 = .ok (.iinc 2 1, 3) := by decide +kernel
theorem dX2_countIslands_44 : decode cX2_countIslands 44 = .ok (.iinc 4 1, 3) := by decide +kernel
theorem dX2_countIslands_47 : decode cX2_countIslands 47 = .ok (.goto (-21), 3) := by decide +kernel
theorem dX2_countIslands_50 : decode cX2_countIslands 50 = .ok (.iinc 3 1, 3) := by decide +kernel
theorem dX2_countIslands_53 : decode cX2_countIslands 53 = .ok (.goto (-41), 3) := by decide +kernel
theorem dX2_countIslands_56 : decode cX2_countIslands 56 = .ok (.iload_n 2, 1) := by decide +kernel
theorem dX2_countIslands_57 : decode cX2_countIslands 57 = .ok (.ireturn, 1) := by decide +kernel
theorem dX2_findIsland_0 : decode cX2_findIsland 0 = .ok (.aload_n 0, 1) := by decide +kernel
theorem dX2_findIsland_1 : decode cX2_findIsland 1 = .ok (.getfield 12, 3) := by decide +kernel
theorem dX2_findIsland_4 : decode cX2_findIsland 4 = .ok (.aload_n 1, 1) := by decide +kernel
theorem dX2_findIsland_5 : decode cX2_findIsland 5 = .ok (.invokevirtual 41, 3) := by decide +kernel
theorem dX2_findIsland_8 : decode cX2_findIsland 8 = .ok (.iconst 0, 1) := by decide +kernel
theorem dX2_findIsland_9 : decode cX2_findIsland 9 = .ok (.istore_n 3, 1) := by decide +kernel
theorem dX2_findIsland_10 : decode cX2_findIsland 10 = .ok (.iconst 0, 1) := by decide +kernel
theorem dX2_findIsland_11 : decode cX2_findIsland 11 = .ok (.istore 4, 2) := by decide +kernel
theorem dX2_findIsland_13 : decode cX2_findIsland 13 = .ok (.iload 4, 2) := by decide +kernel
theorem dX2_findIsland_15 : decode cX2_findIsland 15 = .ok (.aload_n 0, 1) := by decide +kernel
theorem dX2_findIsland_16 : decode cX2_findIsland 16 = .ok (.getfield 12, 3) := by decide +kernel
theorem dX2_findIsland_19 : decode cX2_findIsland 19 = .ok (.getfield 45, 3) := by decide +kernel
theorem dX2_findIsland_22 : decode cX2_findIsland 22 = .ok (.if_icmp .ge 44, 3) := by decide +kernel
theorem dX2_findIsland_25 : decode cX2_findIsland 25 = .ok (.iconst 0, 1) := by decide +kernel
theorem dX2_findIsland_26 : decode cX2_findIsland 26 = .ok (.istore 5, 2) := by decide +kernel
theorem dX2_findIsland_28 : decode cX2_findIsland 28 = .ok (.iload 5, 2) := by decide +kernel
theorem dX2_findIsland_30 : decode cX2_findIsland 30 = .ok (.bipush 100, 2) := by decide +kernel
theorem dX2_findIsland_32 : decode cX2_findIsland 32 = .ok (.if_icmp .ge 28, 3) := by decide +kernel
theorem dX2_findIsland_35 : decode cX2_findIsland 35 = .ok (.aload_n 0, 1) := by decide +kernel
theorem dX2_findIsland_36 : decode cX2_findIsland 36 = .ok (.iload 4, 2) := by decide +kernel
theorem dX2_findIsland_38 : decode cX2_findIsland 38 = .ok (.invokevirtual 48, 3) := by decide +kernel
theorem dX2_findIsland_41 : decode cX2_findIsland 41 = .ok (.ifCond .eq 19, 3) := by decide +kernel
theorem dX2_findIsland_44 : decode cX2_findIsland 44 = .ok (.iload_n 3, 1) := by decide +kernel
theorem dX2_findIsland_45 : decode cX2_findIsland 45 = .ok (.iload_n 2, 1) := by decide +kernel
theorem dX2_findIsland_46 : decode cX2_findIsland 46 = .ok (.if_icmp .ne 5, 3) := by decide +kernel
theorem dX2_findIsland_49 : decode cX2_findIsland 49 = .ok (.iconst 1, 1) := by decide +kernel
theorem dX2_findIsland_50 : decode cX2_findIsland 50 = .ok (.ireturn, 1) := by decide +kernel
theorem dX2_findIsland_51 : decode cX2_findIsland 51 = .ok (.iinc 3 1, 3) := by decide +kernel
theorem dX2_findIsland_54 : decode cX2_findIsland 54 = .ok (.iinc 5 1, 3) := by decide +kernel
theorem dX2_findIsland_57 : decode cX2_findIsland 57 = .ok (.goto (-29), 3) := by decide +kernel
theorem dX2_findIsland_60 : decode cX2_findIsland 60 = .ok (.iinc 4 1, 3) := by decide +kernel
theorem dX2_findIsland_63 : decode cX2_findIsland 63 = .ok (.goto (-50), 3) := by decide +kernel
theorem dX2_findIsland_66 : decode cX2_findIsland 66 = .ok (.iconst 0, 1) := by decide +kernel
theorem dX2_findIsland_67 : decode cX2_findIsland 67 = .ok (.ireturn, 1) := by decide +kernel
theorem dX2_take_0 : decode cX2_take 0 = .ok (.aload_n 0, 1) := by decide +kernel
theorem dX2_take_1 : decode cX2_take 1 = .ok (.getfield 12, 3) := by decide +kernel
theorem dX2_take_4 : decode cX2_take 4 = .ok (.iload_n 1, 1) := by decide +kernel
theorem dX2_take_5 : decode cX2_take 5 = .ok (.iload_n 2, 1) := by decide +kernel
theorem dX2_take_6 : decode cX2_take 6 = .ok (.invokevirtual 76, 3) := by decide +kernel
theorem dX2_take_9 : decode cX2_take 9 = .ok (.ifCond .eq 97, 3) := by decide +kernel
theorem dX2_take_12 : decode cX2_take 12 = .ok (.aload_n 0, 1) := by decide +kernel
theorem dX2_take_13 : decode cX2_take 13 = .ok (.getfield 22, 3) := by decide +kernel
theorem dX2_take_16 : decode cX2_take 16 = .ok (.aload_n 0, 1) := by decide +kernel
theorem dX2_take_17 : decode cX2_take 17 = .ok (.getfield 18, 3) := by decide +kernel
theorem dX2_take_20 : decode cX2_take 20 = .ok (.arraylength, 1) := by decide +kernel
theorem dX2_take_21 : decode cX2_take 21 = .ok (.if_icmp .ge 85, 3) := by decide +kernel
theorem dX2_take_24 : decode cX2_take 24 = .ok (.aload_n 0, 1) := by decide +kernel
theorem dX2_take_25 : decode cX2_take 25 = .ok (.getfield 12, 3) := by decide +kernel
theorem dX2_take_28 : decode cX2_take 28 = .ok (.iload_n 1, 1) := by decide +kernel
theorem dX2_take_29 : decode cX2_take 29 = .ok (.iload_n 2, 1) := by decide +kernel
theorem dX2_take_30 : decode cX2_take 30 = .ok (.invokevirtual 80, 3) := by decide +kernel
theorem dX2_take_33 : decode cX2_take 33 = .ok (.aload_n 0, 1) := by decide +kernel
theorem dX2_take_34 : decode cX2_take 34 = .ok (.getfield 18, 3) := by decide +kernel
theorem dX2_take_37 : decode cX2_take 37 = .ok (.aload_n 0, 1) := by decide +kernel
theorem dX2_take_38 : decode cX2_take 38 = .ok (.getfield 22, 3) := by decide +kernel
theorem dX2_take_41 : decode cX2_take 41 = .ok (.iload_n 2, 1) := by decide +kernel
theorem dX2_take_42 : decode cX2_take 42 = .ok (.bipush 100, 2) := by decide +kernel
theorem dX2_take_44 : decode cX2_take 44 = .ok (.imul, 1) := by decide +kernel
theorem dX2_take_45 : decode cX2_take 45 = .ok (.iload_n 1, 1) := by decide +kernel
theorem dX2_take_46 : decode cX2_take 46 = .ok (.iadd, 1) := by decide +kernel
theorem dX2_take_47 : decode cX2_take 47 = .ok (.iastore, 1) := by decide +kernel
theorem dX2_take_48 : decode cX2_take 48 = .ok (.aload_n 0, 1) := by decide +kernel
theorem dX2_take_49 : decode cX2_take 49 = .ok (.dup, 1) := by decide +kernel
theorem dX2_take_50 : decode cX2_take 50 = .ok (.getfield 22, 3) := by decide +kernel
theorem dX2_take_53 : decode cX2_take 53 = .ok (.iconst 1, 1) := by decide +kernel
theorem dX2_take_54 : decode cX2_take 54 = .ok (.iadd, 1) := by decide +kernel
theorem dX2_take_55 : decode cX2_take 55 = .ok (.putfield 22, 3) := by decide +kernel
theorem dX2_take_58 : decode cX2_take 58 = .ok (.aload_n 0, 1) := by decide +kernel
theorem dX2_take_59 : decode cX2_take 59 = .ok (.aload_n 0, 1) := by decide +kernel
theorem dX2_take_60 : decode cX2_take 60 = .ok (.getfield 29, 3) := by decide +kernel
theorem dX2_take_63 : decode cX2_take 63 = .ok (.iload_n 1, 1) := by decide +kernel
theorem dX2_take_64 : decode cX2_take 64 = .ok (.invokestatic 83, 3) := by decide +kernel
theorem dX2_take_67 : decode cX2_take 67 = .ok (.putfield 29, 3) := by decide +kernel
theorem dX2_take_70 : decode cX2_take 70 = .ok (.aload_n 0, 1) := by decide +kernel
theorem dX2_take_71 : decode cX2_take 71 = .ok (.aload_n 0, 1) := by decide +kernel
theorem dX2_take_72 : decode cX2_take 72 = .ok (.getfield 35, 3) := by decide +kernel
theorem dX2_take_75 : decode cX2_take 75 = .ok (.iload_n 1, 1) := by decide +kernel
theorem dX2_take_76 : decode cX2_take 76 = .ok (.invokestatic 89, 3) := by decide +kernel
theorem dX2_take_79 : decode cX2_take 79 = .ok (.putfield 35, 3) := by decide +kernel
theorem dX2_take_82 : decode cX2_take 82 = .ok (.aload_n 0, 1) := by decide +kernel
theorem dX2_take_83 : decode cX2_take 83 = .ok (.aload_n 0, 1) := by decide +kernel
theorem dX2_take_84 : decode cX2_take 84 = .ok (.getfield 32, 3) := by decide +kernel
theorem dX2_take_87 : decode cX2_take 87 = .ok (.iload_n 2, 1) := by decide +kernel
theorem dX2_take_88 : decode cX2_take 88 = .ok (.invokestatic 83, 3) := by decide +kernel
theorem dX2_take_91 : decode cX2_take 91 = .ok (.putfield 32, 3) := by decide +kernel
theorem dX2_take_94 : decode cX2_take 94 = .ok (.aload_n 0, 1) := by decide +kernel
theorem dX2_take_95 : decode cX2_take 95 = .ok (.aload_n 0, 1) := by decide +kernel
theorem dX2_take_96 : decode cX2_take 96 = .ok (.getfield 38, 3) := by decide +kernel
theorem dX2_take_99 : decode cX2_take 99 = .ok (.iload_n 2, 1) := by decide +kernel
theorem dX2_take_100 : decode cX2_take 100 = .ok (.invokestatic 89, 3) := by decide +kernel
theorem dX2_take_103 : decode cX2_take 103 = .ok (.putfield 38, 3) := by decide +kernel
theorem dX2_take_106 : decode cX2_take 106 = .ok (.return_, 1) := by decide +kernel
theorem dX2_takeIslandOfRow_0 : decode cX2_takeIslandOfRow 0 = .ok (.aload_n 0, 1) := by decide +kernel
theorem dX2_takeIslandOfRow_1 : decode cX2_takeIslandOfRow 1 = .ok (.getfield 12, 3) := by decide +kernel
theorem dX2_takeIslandOfRow_4 : decode cX2_takeIslandOfRow 4 = .ok (.getfield 52, 3) := by decide +kernel
theorem dX2_takeIslandOfRow_7 : decode cX2_takeIslandOfRow 7 = .ok (.iconst 2, 1) := by decide +kernel
theorem dX2_takeIslandOfRow_8 : decode cX2_takeIslandOfRow 8 = .ok (.iload_n 1, 1) := by decide +kernel
theorem dX2_takeIslandOfRow_9 : decode cX2_takeIslandOfRow 9 = .ok (.imul, 1) := by decide +kernel
theorem dX2_takeIslandOfRow_10 : decode cX2_takeIslandOfRow 10 = .ok (.laload, 1) := by decide +kernel
theorem dX2_takeIslandOfRow_11 : decode cX2_takeIslandOfRow 11 = .ok (.aload_n 0, 1) := by decide +kernel
theorem dX2_takeIslandOfRow_12 : decode cX2_takeIslandOfRow 12 = .ok (.getfield 12, 3) := by decide +kernel
theorem dX2_takeIslandOfRow_15 : decode cX2_takeIslandOfRow 15 = .ok (.getfield 52, 3) := by decide +kernel
theorem dX2_takeIslandOfRow_18 : decode cX2_takeIslandOfRow 18 = .ok (.iconst 2, 1) := by decide +kernel
theorem dX2_takeIslandOfRow_19 : decode cX2_takeIslandOfRow 19 = .ok (.iload_n 1, 1) := by decide +kernel
theorem dX2_takeIslandOfRow_20 : decode cX2_takeIslandOfRow 20 = .ok (.imul, 1) := by decide +kernel
theorem dX2_takeIslandOfRow_21 : decode cX2_takeIslandOfRow 21 = .ok (.iconst 1, 1) := by decide +kernel
theorem dX2_takeIslandOfRow_22 : decode cX2_takeIslandOfRow 22 = .ok (.iadd, 1) := by decide +kernel
theorem dX2_takeIslandOfRow_23 : decode cX2_takeIslandOfRow 23 = .ok (.laload, 1) := by decide +kernel
theorem dX2_takeIslandOfRow_24 : decode cX2_takeIslandOfRow 24 = .ok (.lor, 1) := by decide +kernel
theorem dX2_takeIslandOfRow_25 : decode cX2_takeIslandOfRow 25 = .ok (.lconst 0, 1) := by decide +kernel
theorem dX2_takeIslandOfRow_26 : decode cX2_takeIslandOfRow 26 = .ok (.lcmp, 1) := by decide +kernel
theorem dX2_takeIslandOfRow_27 : decode cX2_takeIslandOfRow 27 = .ok (.ifCond .ne 5, 3) := by decide +kernel
theorem dX2_takeIslandOfRow_30 : decode cX2_takeIslandOfRow 30 = .ok (.iconst 0, 1) := by decide +kernel
theorem dX2_takeIslandOfRow_31 : decode cX2_takeIslandOfRow 31 = .ok (.ireturn, 1) := by decide +kernel
theorem dX2_takeIslandOfRow_32 : decode cX2_takeIslandOfRow 32 = .ok (.aload_n 0, 1) := by decide +kernel
theorem dX2_takeIslandOfRow_33 : decode cX2_takeIslandOfRow 33 = .ok (.getfield 12, 3) := by decide +kernel
theorem dX2_takeIslandOfRow_36 : decode cX2_takeIslandOfRow 36 = .ok (.getfield 52, 3) := by decide +kernel
theorem dX2_takeIslandOfRow_39 : decode cX2_takeIslandOfRow 39 = .ok (.iconst 2, 1) := by decide +kernel
theorem dX2_takeIslandOfRow_40 : decode cX2_takeIslandOfRow 40 = .ok (.iload_n 1, 1) := by decide +kernel
theorem dX2_takeIslandOfRow_41 : decode cX2_takeIslandOfRow 41 = .ok (.imul, 1) := by decide +kernel
theorem dX2_takeIslandOfRow_42 : decode cX2_takeIslandOfRow 42 = .ok (.laload, 1) := by decide +kernel
theorem dX2_takeIslandOfRow_43 : decode cX2_takeIslandOfRow 43 = .ok (.aload_n 0, 1) := by decide +kernel
theorem dX2_takeIslandOfRow_44 : decode cX2_takeIslandOfRow 44 = .ok (.getfield 12, 3) := by decide +kernel
theorem dX2_takeIslandOfRow_47 : decode cX2_takeIslandOfRow 47 = .ok (.getfield 52, 3) := by decide +kernel
theorem dX2_takeIslandOfRow_50 : decode cX2_takeIslandOfRow 50 = .ok (.iconst 2, 1) := by decide +kernel
theorem dX2_takeIslandOfRow_51 : decode cX2_takeIslandOfRow 51 = .ok (.iload_n 1, 1) := by decide +kernel
theorem dX2_takeIslandOfRow_52 : decode cX2_takeIslandOfRow 52 = .ok (.imul, 1) := by decide +kernel
theorem dX2_takeIslandOfRow_53 : decode cX2_takeIslandOfRow 53 = .ok (.iconst 1, 1) := by decide +kernel
theorem dX2_takeIslandOfRow_54 : decode cX2_takeIslandOfRow 54 = .ok (.iadd, 1) := by decide +kernel
theorem dX2_takeIslandOfRow_55 : decode cX2_takeIslandOfRow 55 = .ok (.laload, 1) := by decide +kernel
theorem dX2_takeIslandOfRow_56 : decode cX2_takeIslandOfRow 56 = .ok (.invokestatic 68, 3) := by decide +kernel
theorem dX2_takeIslandOfRow_59 : decode cX2_takeIslandOfRow 59 = .ok (.istore_n 2, 1) := by decide +kernel
theorem dX2_takeIslandOfRow_60 : decode cX2_takeIslandOfRow 60 = .ok (.aload_n 0, 1) := by decide +kernel
theorem dX2_takeIslandOfRow_61 : decode cX2_takeIslandOfRow 61 = .ok (.iload_n 2, 1) := by decide +kernel
theorem dX2_takeIslandOfRow_62 : decode cX2_takeIslandOfRow 62 = .ok (.putfield 29, 3) := by decide +kernel
theorem dX2_takeIslandOfRow_65 : decode cX2_takeIslandOfRow 65 = .ok (.aload_n 0, 1) := by decide +kernel
theorem dX2_takeIslandOfRow_66 : decode cX2_takeIslandOfRow 66 = .ok (.iload_n 2, 1) := by decide +kernel
theorem dX2_takeIslandOfRow_67 : decode cX2_takeIslandOfRow 67 = .ok (.putfield 35, 3) := by decide +kernel
theorem dX2_takeIslandOfRow_70 : decode cX2_takeIslandOfRow 70 = .ok (.aload_n 0, 1) := by decide +kernel
theorem dX2_takeIslandOfRow_71 : decode cX2_takeIslandOfRow 71 = .ok (.iload_n 1, 1) := by decide +kernel
theorem dX2_takeIslandOfRow_72 : decode cX2_takeIslandOfRow 72 = .ok (.putfield 32, 3) := by decide +kernel
theorem dX2_takeIslandOfRow_75 : decode cX2_takeIslandOfRow 75 = .ok (.aload_n 0, 1) := by decide +kernel
theorem dX2_takeIslandOfRow_76 : decode cX2_takeIslandOfRow 76 = .ok (.iload_n 1, 1) := by decide +kernel
theorem dX2_takeIslandOfRow_77 : decode cX2_takeIslandOfRow 77 = .ok (.putfield 38, 3) := by decide +kernel
theorem dX2_takeIslandOfRow_80 : decode cX2_takeIslandOfRow 80 = .ok (.aload_n 0, 1) := by decide +kernel
theorem dX2_takeIslandOfRow_81 : decode cX2_takeIslandOfRow 81 = .ok (.iconst 0, 1) := by decide +kernel
theorem dX2_takeIslandOfRow_82 : decode cX2_takeIslandOfRow 82 = .ok (.putfield 22, 3) := by decide +kernel
theorem dX2_takeIslandOfRow_85 : decode cX2_takeIslandOfRow 85 = .ok (.aload_n 0, 1) := by decide +kernel
theorem dX2_takeIslandOfRow_86 : decode cX2_takeIslandOfRow 86 = .ok (.iload_n 2, 1) := by decide +kernel
theorem dX2_takeIslandOfRow_87 : decode cX2_takeIslandOfRow 87 = .ok (.iload_n 1, 1) := by decide +kernel
theorem dX2_takeIslandOfRow_88 : decode cX2_takeIslandOfRow 88 = .ok (.invokevirtual 72, 3) := by decide +kernel
theorem dX2_takeIslandOfRow_91 : decode cX2_takeIslandOfRow 91 = .ok (.aload_n 0, 1) := by decide +kernel
theorem dX2_takeIslandOfRow_92 : decode cX2_takeIslandOfRow 92 = .ok (.iconst 0, 1) := by decide +kernel
theorem dX2_takeIslandOfRow_93 : decode cX2_takeIslandOfRow 93 = .ok (.putfield 26, 3) := by decide +kernel
theorem dX2_takeIslandOfRow_96 : decode cX2_takeIslandOfRow 96 = .ok (.aload_n 0, 1) := by decide +kernel
theorem dX2_takeIslandOfRow_97 : decode cX2_takeIslandOfRow 97 = .ok (.getfield 26, 3) := by decide +kernel
theorem dX2_takeIslandOfRow_100 : decode cX2_takeIslandOfRow 100 = .ok (.aload_n 0, 1) := by decide +kernel
theorem dX2_takeIslandOfRow_101 : decode cX2_takeIslandOfRow 101 = .ok (.getfield 22, 3) := by decide +kernel
theorem dX2_takeIslandOfRow_104 : decode cX2_takeIslandOfRow 104 = .ok (.if_icmp .ge 91, 3) := by decide +kernel
theorem dX2_takeIslandOfRow_107 : decode cX2_takeIslandOfRow 107 = .ok (.aload_n 0, 1) := by decide +kernel
theorem dX2_takeIslandOfRow_108 : decode cX2_takeIslandOfRow 108 = .ok (.getfield 26, 3) := by decide +kernel
theorem dX2_takeIslandOfRow_111 : decode cX2_takeIslandOfRow 111 = .ok (.aload_n 0, 1) := by decide +kernel
theorem dX2_takeIslandOfRow_112 : decode cX2_takeIslandOfRow 112 = .ok (.getfield 18, 3) := by decide +kernel
theorem dX2_takeIslandOfRow_115 : decode cX2_takeIslandOfRow 115 = .ok (.arraylength, 1) := by decide +kernel
theorem dX2_takeIslandOfRow_116 : decode cX2_takeIslandOfRow 116 = .ok (.if_icmp .ge 79, 3) := by decide +kernel
theorem dX2_takeIslandOfRow_119 : decode cX2_takeIslandOfRow 119 = .ok (.aload_n 0, 1) := by decide +kernel
theorem dX2_takeIslandOfRow_120 : decode cX2_takeIslandOfRow 120 = .ok (.getfield 18, 3) := by decide +kernel
theorem dX2_takeIslandOfRow_123 : decode cX2_takeIslandOfRow 123 = .ok (.aload_n 0, 1) := by decide +kernel
theorem dX2_takeIslandOfRow_124 : decode cX2_takeIslandOfRow 124 = .ok (.getfield 26, 3) := by decide +kernel
theorem dX2_takeIslandOfRow_127 : decode cX2_takeIslandOfRow 127 = .ok (.iaload, 1) := by decide +kernel
theorem dX2_takeIslandOfRow_128 : decode cX2_takeIslandOfRow 128 = .ok (.bipush 100, 2) := by decide +kernel
theorem dX2_takeIslandOfRow_130 : decode cX2_takeIslandOfRow 130 = .ok (.irem, 1) := by decide +kernel
theorem dX2_takeIslandOfRow_131 : decode cX2_takeIslandOfRow 131 = .ok (.istore_n 3, 1) := by decide +kernel
theorem dX2_takeIslandOfRow_132 : decode cX2_takeIslandOfRow 132 = .ok (.aload_n 0, 1) := by decide +kernel
theorem dX2_takeIslandOfRow_133 : decode cX2_takeIslandOfRow 133 = .ok (.getfield 18, 3) := by decide +kernel
theorem dX2_takeIslandOfRow_136 : decode cX2_takeIslandOfRow 136 = .ok (.aload_n 0, 1) := by decide +kernel
theorem dX2_takeIslandOfRow_137 : decode cX2_takeIslandOfRow 137 = .ok (.getfield 26, 3) := by decide +kernel
theorem dX2_takeIslandOfRow_140 : decode cX2_takeIslandOfRow 140 = .ok (.iaload, 1) := by decide +kernel
theorem dX2_takeIslandOfRow_141 : decode cX2_takeIslandOfRow 141 = .ok (.bipush 100, 2) := by decide +kernel
theorem dX2_takeIslandOfRow_143 : decode cX2_takeIslandOfRow 143 = .ok (.idiv, 1) := by decide +kernel
theorem dX2_takeIslandOfRow_144 : decode cX2_takeIslandOfRow 144 = .ok (.istore 4, 2) := by decide +kernel
theorem dX2_takeIslandOfRow_146 : decode cX2_takeIslandOfRow 146 = .ok (.aload_n 0, 1) := by decide +kernel
theorem dX2_takeIslandOfRow_147 : decode cX2_takeIslandOfRow 147 = .ok (.iload_n 3, 1) := by decide +kernel
theorem dX2_takeIslandOfRow_148 : decode cX2_takeIslandOfRow 148 = .ok (.iconst 1, 1) := by decide +kernel
theorem dX2_takeIslandOfRow_149 : decode cX2_takeIslandOfRow 149 = .ok (.iadd, 1) := by decide +kernel
theorem dX2_takeIslandOfRow_150 : decode cX2_takeIslandOfRow 150 = .ok (.iload 4, 2) := by decide +kernel
theorem dX2_takeIslandOfRow_152 : decode cX2_takeIslandOfRow 152 = .ok (.invokevirtual 72, 3) := by decide +kernel
theorem dX2_takeIslandOfRow_155 : decode cX2_takeIslandOfRow 155 = .ok (.aload_n 0, 1) := by decide +kernel
theorem dX2_takeIslandOfRow_156 : decode cX2_takeIslandOfRow 156 = .ok (.iload_n 3, 1) := by decide +kernel
theorem dX2_takeIslandOfRow_157 : decode cX2_takeIslandOfRow 157 = .ok (.iconst 1, 1) := by decide +kernel
theorem dX2_takeIslandOfRow_158 : decode cX2_takeIslandOfRow 158 = .ok (.isub, 1) := by decide +kernel
theorem dX2_takeIslandOfRow_159 : decode cX2_takeIslandOfRow 159 = .ok (.iload 4, 2) := by decide +kernel
theorem dX2_takeIslandOfRow_161 : decode cX2_takeIslandOfRow 161 = .ok (.invokevirtual 72, 3) := by decide +kernel
theorem dX2_takeIslandOfRow_164 : decode cX2_takeIslandOfRow 164 = .ok (.aload_n 0, 1) := by decide +kernel
theorem dX2_takeIslandOfRow_165 : decode cX2_takeIslandOfRow 165 = .ok (.iload_n 3, 1) := by decide +kernel
theorem dX2_takeIslandOfRow_166 : decode cX2_takeIslandOfRow 166 = .ok (.iload 4, 2) := by decide +kernel
theorem dX2_takeIslandOfRow_168 : decode cX2_takeIslandOfRow 168 = .ok (.iconst 1, 1) := by decide +kernel
theorem dX2_takeIslandOfRow_169 : decode cX2_takeIslandOfRow 169 = .ok (.iadd, 1) := by decide +kernel
theorem dX2_takeIslandOfRow_170 : decode cX2_takeIslandOfRow 170 = .ok (.invokevirtual 72, 3) := by decide +kernel
theorem dX2_takeIslandOfRow_173 : decode cX2_takeIslandOfRow 173 = .ok (.aload_n 0, 1) := by decide +kernel
theorem dX2_takeIslandOfRow_174 : decode cX2_takeIslandOfRow 174 = .ok (.iload_n 3, 1) := by decide +kernel
theorem dX2_takeIslandOfRow_175 : decode cX2_takeIslandOfRow 175 = .ok (.iload 4, 2) := by decide +kernel
theorem dX2_takeIslandOfRow_177 : decode cX2_takeIslandOfRow 177 = .ok (.iconst 1, 1) := by decide +kernel
theorem dX2_takeIslandOfRow_178 : decode cX2_takeIslandOfRow 178 = .ok (.isub, 1) := by decide +kernel
theorem dX2_takeIslandOfRow_179 : decode cX2_takeIslandOfRow 179 = .ok (.invokevirtual 72, 3) := by decide +kernel
theorem dX2_takeIslandOfRow_182 : decode cX2_takeIslandOfRow 182 = .ok (.aload_n 0, 1) := by decide +kernel
theorem dX2_takeIslandOfRow_183 : decode cX2_takeIslandOfRow 183 = .ok (.dup, 1) := by decide +kernel
theorem dX2_takeIslandOfRow_184 : decode cX2_takeIslandOfRow 184 = .ok (.getfield 26, 3) := by decide +kernel
theorem dX2_takeIslandOfRow_187 : decode cX2_takeIslandOfRow 187 = .ok (.iconst 1, 1) := by decide +kernel
theorem dX2_takeIslandOfRow_188 : decode cX2_takeIslandOfRow 188 = .ok (.iadd, 1) := by decide +kernel
theorem dX2_takeIslandOfRow_189 : decode cX2_takeIslandOfRow 189 = .ok (.putfield 26, 3) := by decide +kernel
theorem dX2_takeIslandOfRow_192 : decode cX2_takeIslandOfRow 192 = .ok (.goto (-96), 3) := by decide +kernel
theorem dX2_takeIslandOfRow_195 : decode cX2_takeIslandOfRow 195 = .ok (.iconst 1, 1) := by decide +kernel
theorem dX2_takeIslandOfRow_196 : decode cX2_takeIslandOfRow 196 = .ok (.ireturn, 1) := by decide +kernel
set_option maxRecDepth 100000 in
theorem pq80 : Cond.initialized RX2 ∈ pw := pw_mem (i := 80) (by decide +kernel) rfl
set_option maxRecDepth 100000 in
theorem pq117 : Cond.fieldLink RX2 58 "MaskTouch$Mask" "wide" "I" ∈ pw := pw_mem (i := 117) (by decide +kernel) rfl
set_option maxRecDepth 100000 in
theorem pq121 : Cond.fieldLink RX2 45 "MaskTouch$Mask" "high" "I" ∈ pw := pw_mem (i := 121) (by decide +kernel) rfl
set_option maxRecDepth 100000 in
theorem pq125 : Cond.fieldLink RX2 52 "MaskTouch$Mask" "words" "[J" ∈ pw := pw_mem (i := 125) (by decide +kernel) rfl
set_option maxRecDepth 100000 in
theorem pq317 : Cond.fieldLink RX2 12 "MaskTouch$Flood" "open" "LMaskTouch$Mask;" ∈ pw := pw_mem (i := 317) (by decide +kernel) rfl
set_option maxRecDepth 100000 in
theorem pq318 : Cond.fieldLink RX2 18 "MaskTouch$Flood" "queue" "[I" ∈ pw := pw_mem (i := 318) (by decide +kernel) rfl
set_option maxRecDepth 100000 in
theorem pq319 : Cond.fieldLink RX2 22 "MaskTouch$Flood" "queued" "I" ∈ pw := pw_mem (i := 319) (by decide +kernel) rfl
set_option maxRecDepth 100000 in
theorem pq320 : Cond.fieldLink RX2 26 "MaskTouch$Flood" "size" "I" ∈ pw := pw_mem (i := 320) (by decide +kernel) rfl
set_option maxRecDepth 100000 in
theorem pq322 : Cond.fieldLink RX2 29 "MaskTouch$Flood" "left" "I" ∈ pw := pw_mem (i := 322) (by decide +kernel) rfl
set_option maxRecDepth 100000 in
theorem pq324 : Cond.fieldLink RX2 32 "MaskTouch$Flood" "top" "I" ∈ pw := pw_mem (i := 324) (by decide +kernel) rfl
set_option maxRecDepth 100000 in
theorem pq326 : Cond.fieldLink RX2 35 "MaskTouch$Flood" "right" "I" ∈ pw := pw_mem (i := 326) (by decide +kernel) rfl
set_option maxRecDepth 100000 in
theorem pq328 : Cond.fieldLink RX2 38 "MaskTouch$Flood" "bottom" "I" ∈ pw := pw_mem (i := 328) (by decide +kernel) rfl
set_option maxRecDepth 100000 in
theorem pq853 : Cond.methodLink RX2 41 yX3_become ∈ pw := pw_mem (i := 853) (by decide +kernel) rfl
set_option maxRecDepth 100000 in
theorem pq854 : Cond.methodLink RX2 48 yX2_takeIslandOfRow ∈ pw := pw_mem (i := 854) (by decide +kernel) rfl
set_option maxRecDepth 100000 in
theorem pq855 : Cond.instanceMethod yX2_takeIslandOfRow ∈ pw := pw_mem (i := 855) (by decide +kernel) rfl
set_option maxRecDepth 100000 in
theorem pq856 : Cond.selects RX2 yX2_takeIslandOfRow yX2_takeIslandOfRow ∈ pw := pw_mem (i := 856) (by decide +kernel) rfl
set_option maxRecDepth 100000 in
theorem pq857 : Cond.code yX2_takeIslandOfRow cX2_takeIslandOfRow 5 (some .boolean) ∈ pw := pw_mem (i := 857) (by rfl) rfl
set_option maxRecDepth 100000 in
theorem pq858 : Cond.methodLink RX2 68 yX3_lowestBit ∈ pw := pw_mem (i := 858) (by decide +kernel) rfl
set_option maxRecDepth 100000 in
theorem pq859 : Cond.methodLink RX2 72 yX2_take ∈ pw := pw_mem (i := 859) (by decide +kernel) rfl
set_option maxRecDepth 100000 in
theorem pq860 : Cond.instanceMethod yX2_take ∈ pw := pw_mem (i := 860) (by decide +kernel) rfl
set_option maxRecDepth 100000 in
theorem pq861 : Cond.selects RX2 yX2_take yX2_take ∈ pw := pw_mem (i := 861) (by decide +kernel) rfl
set_option maxRecDepth 100000 in
theorem pq862 : Cond.code yX2_take cX2_take 3 none ∈ pw := pw_mem (i := 862) (by rfl) rfl
set_option maxRecDepth 100000 in
theorem pq863 : Cond.methodLink RX2 76 yX3_holds ∈ pw := pw_mem (i := 863) (by decide +kernel) rfl
set_option maxRecDepth 100000 in
theorem pq864 : Cond.methodLink RX2 80 yX3_toggle ∈ pw := pw_mem (i := 864) (by decide +kernel) rfl
set_option maxRecDepth 100000 in
theorem pq865 : Cond.methodLink RX2 83 Lib.Math.min.name ∈ pw := pw_mem (i := 865) (by decide +kernel) rfl
set_option maxRecDepth 100000 in
theorem pq866 : Cond.methodLink RX2 89 Lib.Math.max.name ∈ pw := pw_mem (i := 866) (by decide +kernel) rfl
set_option maxRecDepth 100000 in
theorem pq871 : Cond.constantLong RX2 56 (-1) ∈ pw := pw_mem (i := 871) (by decide +kernel) rfl
set_option maxRecDepth 100000 in
theorem pq872 : Cond.methodLink RX2 61 yX3_lowOnes ∈ pw := pw_mem (i := 872) (by decide +kernel) rfl
set_option maxRecDepth 100000 in
theorem pq873 : Cond.methodLink RX2 65 yX3_highOnes ∈ pw := pw_mem (i := 873) (by decide +kernel) rfl
set_option maxHeartbeats 4000000 in
set_option maxRecDepth 100000 in
theorem s_X2_take (l : Launch) (dC : Nat → ClassId) (dI : Nat → Nat → Nat) (cs : Nat → ClassId) (L : List Nat) (K G : Nat → Nat) (Q : Nat → Nat → Option Nat) (hQ : Sv L K G Q) (x0 m0 : Nat) (tx : GT) (tm : GT × Int) (sz : Nat) (I : Nat → Nat → Int32) (J : Nat → Nat → Int64) (hI : Iv L K x0 m0 tx tm I) (p0 : Nat) (hLp0 : p0 ∈ L) (hKp0 : K p0 = 2) (p1 : Int32) (p2 : Int32) : Met l yX2_take (.code yX2_take cX2_take 3 none :: pw) ({ frames := 2, cells := 0, slots := 0, locals := 44 }) (sP (dC, dI) cs [.ref p0, .int p1, .int p2] sz L K I J Q) (va_Qv (fun (_ : Unit) => True) (fun _ t => sB (dC, dI) cs L K Q (fun I1 J1 => Iv L K x0 m0 tx tm I1 ∧ (∀ b, ¬ (K b = 2 ∨ K b = 11) → I1 b = I b) ∧ I1 p0 3 = I p0 3 ∧ (okm (I (a0 Q p0 0) 0).toInt (I (a0 Q p0 0) 1).toInt (J (wo Q (a0 Q p0 0))) → takR Q I I1 J J1 p0 p1.toInt p2.toInt) ∧ (∀ b, ¬ (K b = 12 ∧ (G b = 401)) → J1 b = J b)) t) (fun q => q ∈ L ∨ sz ≤ q)) 0 0 (fun q => q ∈ L ∨ sz ≤ q) := by
  refine Met.ofW (cc := cX2_take) (maxL := 3) (ret := none) (by decide +kernel) rfl ?_
  intro p e s m args below meth c s₁ B hml hv
  obtain ⟨rfl, hsz, hP, hK, hD0, hN⟩ := hv
  have hx := B.exec
  have hb := B.bytes
  have hr := B.returns
  have hts := fun w (h : w ∈ pw) => atoms_spec (ws := Cond.code yX2_take cX2_take 3 none :: pw) B.pre w (List.mem_cons_of_mem _ h)
  have hown : s.vm.findClass RX2 = some m.cls := findClass_of_methodNamed B.named
  have hlocks := B.notSynchronized
  subst hsz
  have hBB : 999 ≤ tm.2 ∧ tm.2 ≤ 6000000 := hI.2.2.2.2.1
  have dj_J : (∀ b, ¬ (K b = 12 ∧ (G b = 401)) → J b = J b) := fun _ _ => rfl
  have kp0_3_I : I p0 3 = I p0 3 := rfl
  have fr_I : ∀ b, ¬ (K b = 2 ∨ K b = 11) → I b = I b := fun _ _ => rfl
  obtain ⟨A, hAe⟩ : ∃ A : Nat → Prop, A = (fun q => q ∈ L ∨ s.heap.size ≤ q) := ⟨_, rfl⟩
  rw [← hAe]
  have hAL : ∀ q, q ∈ L → A q := fun q h => by rw [hAe]; exact Or.inl h
  have hA : ∀ q, s.heap.size ≤ q → A q := fun q h => by rw [hAe]; exact Or.inr h
  have hD : ∀ F, va_D A (va_pl L F) := fun F => (hD0 F).weaken (fun k q hk _ => hAL _ (pl_mem hk))
  obtain ⟨H, hHe⟩ : ∃ H : Heap, H = s.heap := ⟨_, rfl⟩
  have hS : va_S A s.heap H [] := by rw [hHe]; exact va_S.rf
  rw [← hHe] at hP
  have hl := lv_entry ([.ref p0, .int p1, .int p2]) (n := 3) (Nat.le_of_ble_eq_true rfl)
  rw [lg_entry_eq]
  generalize (lg_sl ([.ref p0, .int p1, .int p2]) ++ List.replicate (3 - (lg_sl ([.ref p0, .int p1, .int p2])).length) Slot.unset).toArray = ls at hl ⊢
  have hl : lv_has ls 3 [(0, .ref p0), (1, .int p1), (2, .int p2)] := hl
  rw [← hHe]
  refine namedW (fun R Qz hR hQz => ?_)
  refine lv_aload_n hx hb dX2_take_0 rfl (lv_at hl 0 rfl) ?_
  obtain ⟨y1, ey1, hLy1, hKy1, hGy1⟩ := oQ_2_0 (Sv_at hQ hLp0 hKp0)
  refine p_get (v := .ref y1) hx hb hts inX2 hown hK hP hLp0 hKp0 rfl rfl 0 (by decide) (hts _ pq317) (congrArg (fun q => some (va_rf q)) ey1) dX2_take_1 ?_
  refine lv_iload_n hx hb dX2_take_4 rfl (lv_at hl 1 rfl) ?_
  refine lv_iload_n hx hb dX2_take_5 rfl (lv_at hl 2 rfl) ?_
  refine ro_i (va_runV (As := [.int p1, .int p2]) (rest := []) ⟨hx, hb, hml, hown, hts⟩ (s_X3_holds l dC dI cs L K G Q hQ x0 m0 tx tm H.size I J hI y1 hLy1 hKy1 p1 p2) (cwV 2 hts (gV pq863 pq674 pq675 pq76 pq676) rfl rfl rfl (by decide +kernel) ⟨(by rw [hR]; exact (Nat.le_of_ble_eq_true rfl)), (by rw [hR]; exact (Nat.le_of_ble_eq_true rfl))⟩) (sP_V hP hD hK hN hLy1 hKy1 rfl rfl) rfl rfl hl.1 rfl (lv_room (Nat.le_of_ble_eq_true rfl)) dX2_take_6 ⟨(by rw [hR]; exact (Nat.le_of_ble_eq_true rfl)), (by rw [hR]; exact (Nat.le_of_ble_eq_true rfl))⟩) hS hP (fun z6 H locs hz6 hP hS => ?_)
  obtain ⟨bz6, xpz6⟩ := hz6
  refine lv_if_eq (tgt := 106) hx hb dX2_take_9 (by decide) (fun c9 => ?_) (fun c9 => ?_)
  · have t9 := tq_eq (k := z6.toInt) (q := (0)) c9 rfl (by decide +kernel)
    subst hR; subst hQz
    exact W.vret hx hb hr (fun t ht hW => ⟨⟨(), rfl, trivial, ⟨I, J, ⟨hI, fr_I, kp0_3_I, (fun ok => by rw [show a0 Q p0 0 = y1 from gd_of ey1] at ok; have m := xpz6; rw [hs_of ok.2.2] at m; have eo : ∀ x y, opn Q J p0 x y = md (J (wo Q y1)) x y := (fun x y => by unfold opn; rw [show a0 Q p0 0 = y1 from gd_of ey1]); first | exact ⟨fun _ => ⟨rfl, rfl, rfl⟩, fun q => by (exfalso; rw [eo] at q; rw [q] at m; have m2 : z6.toInt = 1 := m; omega)⟩ | exact ⟨fun q => by (exfalso; rw [eo] at q; rw [q] at m; exact t9 m), fun q lt => by (exfalso; rw [show I p0 2 = z13 from ez13.symm] at lt; omega)⟩), dj_J⟩, by rw [ht]; exact hP⟩⟩, hS.F ht⟩) hS.2.2 dX2_take_106
  · have t9 := tq_ne (k := z6.toInt) (q := (0)) c9 rfl (by decide +kernel)
    refine lv_aload_n hx hb dX2_take_12 rfl (lv_at hl 0 rfl) ?_
    refine p_get hx hb hts inX2 hown hK hP hLp0 hKp0 rfl rfl 2 (by decide) (hts _ pq319) rfl dX2_take_13 ?_
    refine lv_topi (fun z13 ez13 => ?_)
    have cgz13 := congrArg Int32.toInt ez13
    have bz13 := oI_2_2 (Iv_at hI hLp0 hKp0)
    rw [← ez13] at bz13
    refine lv_aload_n hx hb dX2_take_16 rfl (lv_at hl 0 rfl) ?_
    obtain ⟨y17, ey17, hLy17, hKy17⟩ := oQ_2_1 (Sv_at hQ hLp0 hKp0)
    refine p_get (v := .ref y17) hx hb hts inX2 hown hK hP hLp0 hKp0 rfl rfl 1 (by decide) (hts _ pq318) (congrArg (fun q => some (va_rf q)) ey17) dX2_take_17 ?_
    refine p_alen (v := 4000) hx hb hK hP 1 hLy17 hKy17 rfl rfl rfl dX2_take_20 ?_
    refine lv_icmp_ge (tgt := 106) hx hb dX2_take_21 (by decide) (fun c21 => ?_) (fun c21 => ?_)
    · have t21 := tq_le (k := (4000)) (q := z13.toInt) c21 (by decide +kernel) rfl
      subst hR; subst hQz
      exact W.vret hx hb hr (fun t ht hW => ⟨⟨(), rfl, trivial, ⟨I, J, ⟨hI, fr_I, kp0_3_I, (fun ok => by rw [show a0 Q p0 0 = y1 from gd_of ey1] at ok; have m := xpz6; rw [hs_of ok.2.2] at m; have eo : ∀ x y, opn Q J p0 x y = md (J (wo Q y1)) x y := (fun x y => by unfold opn; rw [show a0 Q p0 0 = y1 from gd_of ey1]); first | exact ⟨fun _ => ⟨rfl, rfl, rfl⟩, fun q => by (exfalso; rw [eo] at q; rw [q] at m; have m2 : z6.toInt = 1 := m; omega)⟩ | exact ⟨fun q => by (exfalso; rw [eo] at q; rw [q] at m; exact t9 m), fun q lt => by (exfalso; rw [show I p0 2 = z13 from ez13.symm] at lt; omega)⟩), dj_J⟩, by rw [ht]; exact hP⟩⟩, hS.F ht⟩) hS.2.2 dX2_take_106
    · have t21 := tq_nle (k := (4000)) (q := z13.toInt) c21 (by decide +kernel) rfl
      refine lv_aload_n hx hb dX2_take_24 rfl (lv_at hl 0 rfl) ?_
      refine p_get (v := .ref y1) hx hb hts inX2 hown hK hP hLp0 hKp0 rfl rfl 0 (by decide) (hts _ pq317) (congrArg (fun q => some (va_rf q)) ey1) dX2_take_25 ?_
      refine lv_iload_n hx hb dX2_take_28 rfl (lv_at hl 1 rfl) ?_
      refine lv_iload_n hx hb dX2_take_29 rfl (lv_at hl 2 rfl) ?_
      refine sw_v (Z := (fun I1 J1 => Iv L K x0 m0 tx tm I1 ∧ I1 = I ∧ (∀ x y : Int, md (J1 (wo Q y1)) x y = (md (J (wo Q y1)) x y ^^ decide ((0 ≤ p1.toInt ∧ p1.toInt < (I y1 0).toInt ∧ 0 ≤ p2.toInt ∧ p2.toInt < (I y1 1).toInt) ∧ x = p1.toInt ∧ y = p2.toInt))) ∧ (∀ b, ¬ (K b = 12 ∧ (G b = G y1)) → J1 b = J b))) (va_runV (As := [.int p1, .int p2]) (rest := []) ⟨hx, hb, hml, hown, hts⟩ (s_X3_toggle l dC dI cs L K G Q hQ x0 m0 tx tm H.size I J hI y1 hLy1 hKy1 p1 p2) (cwV 2 hts (gV pq864 pq514 pq515 pq76 pq516) rfl rfl rfl (by decide +kernel) ⟨(by rw [hR]; exact (Nat.le_of_ble_eq_true rfl)), (by rw [hR]; exact (Nat.le_of_ble_eq_true rfl))⟩) (sP_V hP hD hK hN hLy1 hKy1 rfl rfl) rfl rfl hl.1 rfl (lv_room (Nat.le_of_ble_eq_true rfl)) dX2_take_30 ⟨(by rw [hR]; exact (Nat.le_of_ble_eq_true rfl)), (by rw [hR]; exact (Nat.le_of_ble_eq_true rfl))⟩) hS hAL hA (fun Iz30 Jz30 H locs hz30 hIz30 hP hS => ?_)
      obtain ⟨hIz30, sm30, jz30, djc30⟩ := hIz30
      have dj_Jz30 : (∀ b, ¬ (K b = 12 ∧ (G b = 401)) → Jz30 b = J b) := fun b hc => (djc30 b (fun z => hc (by exact ⟨z.1, by have z2 := z.2; omega⟩))).trans (dj_J b hc)
      obtain rfl : I = Iz30 := sm30.symm
      refine lv_aload_n hx hb dX2_take_33 rfl (lv_at hl 0 rfl) ?_
      refine p_get (v := .ref y17) hx hb hts inX2 hown hK hP hLp0 hKp0 rfl rfl 1 (by decide) (hts _ pq318) (congrArg (fun q => some (va_rf q)) ey17) dX2_take_34 ?_
      refine lv_aload_n hx hb dX2_take_37 rfl (lv_at hl 0 rfl) ?_
      refine p_get hx hb hts inX2 hown hK hP hLp0 hKp0 rfl rfl 2 (by decide) (hts _ pq319) rfl dX2_take_38 ?_
      refine lv_topi (fun z38 ez38 => ?_)
      obtain rfl : z13 = z38 := ez13.trans ez38.symm
      refine lv_iload_n hx hb dX2_take_41 rfl (lv_at hl 2 rfl) ?_
      refine lv_bipush (v := 100) hx hb dX2_take_42 (by decide +kernel) ?_
      refine lv_imul hx hb dX2_take_44 ?_
      refine lv_topi (fun z44 ez44 => ?_)
      refine lv_iload_n hx hb dX2_take_45 rfl (lv_at hl 1 rfl) ?_
      refine lv_iadd hx hb dX2_take_46 ?_
      refine lv_topi (fun z46 ez46 => ?_)
      refine p_iast hx hb hK hP hD hS 1 hLy17 hKy17 rfl (fun _ => rfl) rfl (in_of (by omega) (by omega)) dX2_take_47 (fun H locs hP hS => ?_)
      obtain ⟨Iz47, hP, hIz47, qIz47⟩ : ∃ Iz47, va_P (dC, dI) vwCl (Wd cs L K Iz47 Jz30 Q) H ∧ Iv L K x0 m0 tx tm Iz47 ∧ Iz47 = va_up I y17 (upd (I y17) z13.toNatClampNeg z46) := ⟨_, hP, Iv_put hI hKy17 (show okI _ 11 _ from trivial) (Or.inl (by decide)) (Or.inl (by decide)), rfl⟩
      have kp0_3_Iz47 : Iz47 p0 3 = I p0 3 := (congrFun (congrFun qIz47 p0) 3).trans ((congrFun (va_up_ne _ _ (fun z => by have q1 := hKp0; have q2 := hKy17; rw [z] at q1; omega)) 3).trans kp0_3_I)
      have fr_Iz47 : ∀ b, ¬ (K b = 2 ∨ K b = 11) → Iz47 b = I b := fun b q => (congrFun qIz47 b).trans ((va_up_ne _ _ (fun z => q (by rw [z]; have := hKy17; omega))).trans (fr_I b q))
      refine lv_aload_n hx hb dX2_take_48 rfl (lv_at hl 0 rfl) ?_
      refine lv_dup hx hb dX2_take_49 rfl ?_
      refine p_get hx hb hts inX2 hown hK hP hLp0 hKp0 rfl rfl 2 (by decide) (hts _ pq319) rfl dX2_take_50 ?_
      refine lv_topi (fun z50 ez50 => ?_)
      obtain rfl : z13 = z50 := by rw [ez50, qIz47, va_up_ne _ _ (ne_k hKp0 hKy17 (by decide))]; exact ez13
      have ez13x50 := ez50
      refine lv_iconst (v := 1) hx hb dX2_take_53 (by decide +kernel) ?_
      refine lv_iadd hx hb dX2_take_54 ?_
      refine lv_topi (fun z54 ez54 => ?_)
      have bz54 := tq_add (k := z13.toInt) (q := (1)) ez54 rfl (by decide +kernel) (by omega) (by omega)
      refine p_put hx hb hts inX2 tyX2 tyX2_ok nmX2 hown hK hP hD hS hLp0 hKp0 rfl rfl 2 (by decide) (hts _ pq319) rfl (by decide +kernel) (Nat.le_of_ble_eq_true rfl) (oS_2_2 cs _ _ _ _) dX2_take_55 (fun H locs hP hS => ?_)
      obtain ⟨Iz55, hP, hIz55, qIz55⟩ : ∃ Iz55, va_P (dC, dI) vwCl (Wd cs L K Iz55 Jz30 Q) H ∧ Iv L K x0 m0 tx tm Iz55 ∧ Iz55 = va_up Iz47 p0 (upd (Iz47 p0) 2 z54) := ⟨_, hP, Iv_put hIz47 hKp0 (oP_2_2 (Iv_at hIz47 hLp0 hKp0) ⟨by omega, by omega⟩) (by decide) (by decide), rfl⟩
      have kp0_3_Iz55 : Iz55 p0 3 = I p0 3 := (congrFun (congrFun qIz55 p0) 3).trans ((rz_fr _ _ _ _ (by decide)).trans kp0_3_Iz47)
      have fr_Iz55 : ∀ b, ¬ (K b = 2 ∨ K b = 11) → Iz55 b = I b := fun b q => (congrFun qIz55 b).trans ((va_up_ne _ _ (fun z => q (by rw [z]; have := hKp0; omega))).trans (fr_Iz47 b q))
      refine lv_aload_n hx hb dX2_take_58 rfl (lv_at hl 0 rfl) ?_
      refine lv_aload_n hx hb dX2_take_59 rfl (lv_at hl 0 rfl) ?_
      refine p_get hx hb hts inX2 hown hK hP hLp0 hKp0 rfl rfl 4 (by decide) (hts _ pq322) rfl dX2_take_60 ?_
      refine lv_topi (fun z60 ez60 => ?_)
      refine lv_iload_n hx hb dX2_take_63 rfl (lv_at hl 1 rfl) ?_
      refine va_mmin hx hb (hml.trans hl.1.symm) hown (hts _ pq865) (hts _ pq407) (hts _ pq82) (hts _ pq408) (by rw [hR]; exact (Nat.le_of_ble_eq_true rfl)) (by rw [hR]; exact (Nat.le_of_ble_eq_true rfl)) (by rw [hR]; exact (Nat.le_of_ble_eq_true rfl)) (by rw [hR]; exact (Nat.le_of_ble_eq_true rfl)) dX2_take_64 ?_
      refine lv_topi (fun z64 ez64 => ?_)
      have bz64 := tq_min ez64
      refine p_put hx hb hts inX2 tyX2 tyX2_ok nmX2 hown hK hP hD hS hLp0 hKp0 rfl rfl 4 (by decide) (hts _ pq322) rfl (by decide +kernel) (Nat.le_of_ble_eq_true rfl) (oS_2_4 cs _ _ _ _) dX2_take_67 (fun H locs hP hS => ?_)
      obtain ⟨Iz67, hP, hIz67, qIz67⟩ : ∃ Iz67, va_P (dC, dI) vwCl (Wd cs L K Iz67 Jz30 Q) H ∧ Iv L K x0 m0 tx tm Iz67 ∧ Iz67 = va_up Iz55 p0 (upd (Iz55 p0) 4 z64) := ⟨_, hP, Iv_put hIz55 hKp0 (oP_2_4 (Iv_at hIz55 hLp0 hKp0)) (by decide) (by decide), rfl⟩
      have kp0_3_Iz67 : Iz67 p0 3 = I p0 3 := (congrFun (congrFun qIz67 p0) 3).trans ((rz_fr _ _ _ _ (by decide)).trans kp0_3_Iz55)
      have fr_Iz67 : ∀ b, ¬ (K b = 2 ∨ K b = 11) → Iz67 b = I b := fun b q => (congrFun qIz67 b).trans ((va_up_ne _ _ (fun z => q (by rw [z]; have := hKp0; omega))).trans (fr_Iz55 b q))
      refine lv_aload_n hx hb dX2_take_70 rfl (lv_at hl 0 rfl) ?_
      refine lv_aload_n hx hb dX2_take_71 rfl (lv_at hl 0 rfl) ?_
      refine p_get hx hb hts inX2 hown hK hP hLp0 hKp0 rfl rfl 6 (by decide) (hts _ pq326) rfl dX2_take_72 ?_
      refine lv_topi (fun z72 ez72 => ?_)
      refine lv_iload_n hx hb dX2_take_75 rfl (lv_at hl 1 rfl) ?_
      refine va_mmax hx hb (hml.trans hl.1.symm) hown (hts _ pq866) (hts _ pq750) (hts _ pq82) (hts _ pq751) (by rw [hR]; exact (Nat.le_of_ble_eq_true rfl)) (by rw [hR]; exact (Nat.le_of_ble_eq_true rfl)) (by rw [hR]; exact (Nat.le_of_ble_eq_true rfl)) (by rw [hR]; exact (Nat.le_of_ble_eq_true rfl)) dX2_take_76 ?_
      refine lv_topi (fun z76 ez76 => ?_)
      have bz76 := tq_max ez76
      refine p_put hx hb hts inX2 tyX2 tyX2_ok nmX2 hown hK hP hD hS hLp0 hKp0 rfl rfl 6 (by decide) (hts _ pq326) rfl (by decide +kernel) (Nat.le_of_ble_eq_true rfl) (oS_2_6 cs _ _ _ _) dX2_take_79 (fun H locs hP hS => ?_)
      obtain ⟨Iz79, hP, hIz79, qIz79⟩ : ∃ Iz79, va_P (dC, dI) vwCl (Wd cs L K Iz79 Jz30 Q) H ∧ Iv L K x0 m0 tx tm Iz79 ∧ Iz79 = va_up Iz67 p0 (upd (Iz67 p0) 6 z76) := ⟨_, hP, Iv_put hIz67 hKp0 (oP_2_6 (Iv_at hIz67 hLp0 hKp0)) (by decide) (by decide), rfl⟩
      have kp0_3_Iz79 : Iz79 p0 3 = I p0 3 := (congrFun (congrFun qIz79 p0) 3).trans ((rz_fr _ _ _ _ (by decide)).trans kp0_3_Iz67)
      have fr_Iz79 : ∀ b, ¬ (K b = 2 ∨ K b = 11) → Iz79 b = I b := fun b q => (congrFun qIz79 b).trans ((va_up_ne _ _ (fun z => q (by rw [z]; have := hKp0; omega))).trans (fr_Iz67 b q))
      refine lv_aload_n hx hb dX2_take_82 rfl (lv_at hl 0 rfl) ?_
      refine lv_aload_n hx hb dX2_take_83 rfl (lv_at hl 0 rfl) ?_
      refine p_get hx hb hts inX2 hown hK hP hLp0 hKp0 rfl rfl 5 (by decide) (hts _ pq324) rfl dX2_take_84 ?_
      refine lv_topi (fun z84 ez84 => ?_)
      refine lv_iload_n hx hb dX2_take_87 rfl (lv_at hl 2 rfl) ?_
      refine va_mmin hx hb (hml.trans hl.1.symm) hown (hts _ pq865) (hts _ pq407) (hts _ pq82) (hts _ pq408) (by rw [hR]; exact (Nat.le_of_ble_eq_true rfl)) (by rw [hR]; exact (Nat.le_of_ble_eq_true rfl)) (by rw [hR]; exact (Nat.le_of_ble_eq_true rfl)) (by rw [hR]; exact (Nat.le_of_ble_eq_true rfl)) dX2_take_88 ?_
      refine lv_topi (fun z88 ez88 => ?_)
      have bz88 := tq_min ez88
      refine p_put hx hb hts inX2 tyX2 tyX2_ok nmX2 hown hK hP hD hS hLp0 hKp0 rfl rfl 5 (by decide) (hts _ pq324) rfl (by decide +kernel) (Nat.le_of_ble_eq_true rfl) (oS_2_5 cs _ _ _ _) dX2_take_91 (fun H locs hP hS => ?_)
      obtain ⟨Iz91, hP, hIz91, qIz91⟩ : ∃ Iz91, va_P (dC, dI) vwCl (Wd cs L K Iz91 Jz30 Q) H ∧ Iv L K x0 m0 tx tm Iz91 ∧ Iz91 = va_up Iz79 p0 (upd (Iz79 p0) 5 z88) := ⟨_, hP, Iv_put hIz79 hKp0 (oP_2_5 (Iv_at hIz79 hLp0 hKp0)) (by decide) (by decide), rfl⟩
      have kp0_3_Iz91 : Iz91 p0 3 = I p0 3 := (congrFun (congrFun qIz91 p0) 3).trans ((rz_fr _ _ _ _ (by decide)).trans kp0_3_Iz79)
      have fr_Iz91 : ∀ b, ¬ (K b = 2 ∨ K b = 11) → Iz91 b = I b := fun b q => (congrFun qIz91 b).trans ((va_up_ne _ _ (fun z => q (by rw [z]; have := hKp0; omega))).trans (fr_Iz79 b q))
      refine lv_aload_n hx hb dX2_take_94 rfl (lv_at hl 0 rfl) ?_
      refine lv_aload_n hx hb dX2_take_95 rfl (lv_at hl 0 rfl) ?_
      refine p_get hx hb hts inX2 hown hK hP hLp0 hKp0 rfl rfl 7 (by decide) (hts _ pq328) rfl dX2_take_96 ?_
      refine lv_topi (fun z96 ez96 => ?_)
      refine lv_iload_n hx hb dX2_take_99 rfl (lv_at hl 2 rfl) ?_
      refine va_mmax hx hb (hml.trans hl.1.symm) hown (hts _ pq866) (hts _ pq750) (hts _ pq82) (hts _ pq751) (by rw [hR]; exact (Nat.le_of_ble_eq_true rfl)) (by rw [hR]; exact (Nat.le_of_ble_eq_true rfl)) (by rw [hR]; exact (Nat.le_of_ble_eq_true rfl)) (by rw [hR]; exact (Nat.le_of_ble_eq_true rfl)) dX2_take_100 ?_
      refine lv_topi (fun z100 ez100 => ?_)
      have bz100 := tq_max ez100
      refine p_put hx hb hts inX2 tyX2 tyX2_ok nmX2 hown hK hP hD hS hLp0 hKp0 rfl rfl 7 (by decide) (hts _ pq328) rfl (by decide +kernel) (Nat.le_of_ble_eq_true rfl) (oS_2_7 cs _ _ _ _) dX2_take_103 (fun H locs hP hS => ?_)
      obtain ⟨Iz103, hP, hIz103, qIz103⟩ : ∃ Iz103, va_P (dC, dI) vwCl (Wd cs L K Iz103 Jz30 Q) H ∧ Iv L K x0 m0 tx tm Iz103 ∧ Iz103 = va_up Iz91 p0 (upd (Iz91 p0) 7 z100) := ⟨_, hP, Iv_put hIz91 hKp0 (oP_2_7 (Iv_at hIz91 hLp0 hKp0)) (by decide) (by decide), rfl⟩
      have kp0_3_Iz103 : Iz103 p0 3 = I p0 3 := (congrFun (congrFun qIz103 p0) 3).trans ((rz_fr _ _ _ _ (by decide)).trans kp0_3_Iz91)
      have fr_Iz103 : ∀ b, ¬ (K b = 2 ∨ K b = 11) → Iz103 b = I b := fun b q => (congrFun qIz103 b).trans ((va_up_ne _ _ (fun z => q (by rw [z]; have := hKp0; omega))).trans (fr_Iz91 b q))
      subst hR; subst hQz
      exact W.vret hx hb hr (fun t ht hW => ⟨⟨(), rfl, trivial, ⟨Iz103, Jz30, ⟨hIz103, fr_Iz103, kp0_3_Iz103, (fun ok => by rw [show a0 Q p0 0 = y1 from gd_of ey1] at ok; have m := xpz6; rw [hs_of ok.2.2] at m; have eo : ∀ x y, opn Q J p0 x y = md (J (wo Q y1)) x y := (fun x y => by unfold opn; rw [show a0 Q p0 0 = y1 from gd_of ey1]); have N47 : Iz47 p0 = I p0 := (by rw [qIz47]; exact va_up_ne _ _ (ne_k hKp0 hKy17 (by decide))); have P55 : Iz55 p0 = upd (I p0) 2 z54 := (by rw [qIz55, va_up_self, N47]); have P67 : Iz67 p0 = upd (upd (I p0) 2 z54) 4 z64 := (by rw [qIz67, va_up_self, P55]); have P79 : Iz79 p0 = upd (upd (upd (I p0) 2 z54) 4 z64) 6 z76 := (by rw [qIz79, va_up_self, P67]); have P91 : Iz91 p0 = upd (upd (upd (upd (I p0) 2 z54) 4 z64) 6 z76) 5 z88 := (by rw [qIz91, va_up_self, P79]); have P103 : Iz103 p0 = upd (upd (upd (upd (upd (I p0) 2 z54) 4 z64) 6 z76) 5 z88) 7 z100 := (by rw [qIz103, va_up_self, P91]); have e60 : z60.toInt = (I p0 4).toInt := congrArg Int32.toInt (ez60.trans (by rw [P55]; rfl)); have e72 : z72.toInt = (I p0 6).toInt := congrArg Int32.toInt (ez72.trans (by rw [P67]; rfl)); have e84 : z84.toInt = (I p0 5).toInt := congrArg Int32.toInt (ez84.trans (by rw [P79]; rfl)); have e96 : z96.toInt = (I p0 7).toInt := congrArg Int32.toInt (ez96.trans (by rw [P91]; rfl)); have e13 : z13.toInt = (I p0 2).toInt := congrArg Int32.toInt ez13; have nq : ∀ I_ : Nat → Nat → Int32, ∀ f, va_up I_ p0 f y17 = I_ y17 := (fun I_ f => va_up_ne _ _ (ne_k hKy17 hKp0 (by decide))); have qu : Iz103 (a0 Q p0 1) = upd (I y17) z13.toNatClampNeg z46 := (by rw [show a0 Q p0 1 = y17 from gd_of ey17, qIz103, nq, qIz91, nq, qIz79, nq, qIz67, nq, qIz55, nq, qIz47, va_up_self]); have qi : I (a0 Q p0 1) = I y17 := (by rw [show a0 Q p0 1 = y17 from gd_of ey17]); have mt : md (J (wo Q y1)) p1.toInt p2.toInt = true := biT.mp (fun z => t9 (m.trans z)); have rg := md_b ok.2.2 _ _ mt; have o1 := ok.1; have o2 := ok.2.1; have a44 := tq_mul (k := p2.toInt) (q := 100) ez44 rfl (by decide +kernel) (by omega) (by omega); have a46 := tq_add (k := z44.toInt) (q := p1.toInt) ez46 rfl rfl (by omega) (by omega); refine ⟨fun q => by (exfalso; rw [eo, mt] at q; cases q), fun _ _ => ⟨fun X Y => ?_, by rw [P103]; show z54.toInt = _; omega, by rw [P103]; rfl, fun i hi => by rw [qu, qi]; unfold upd; rw [if_neg (fun z => hi (by rw [z, ← e13]; rfl))], by rw [qu, show (I p0 2).toInt.toNat = z13.toNatClampNeg from (by rw [← e13]; rfl)]; unfold upd; rw [if_pos rfl]; omega, ⟨by rw [P103]; show z64.toInt = _; omega, by rw [P103]; show z76.toInt = _; omega⟩, by rw [P103]; show z88.toInt = _; omega, by rw [P103]; show z100.toInt = _; omega⟩⟩; rw [eo]; unfold opn; rw [show a0 Q p0 0 = y1 from gd_of ey1, jz30 X Y]; by_cases w : X = p1.toInt ∧ Y = p2.toInt; (rw [decide_eq_true w, decide_eq_true ⟨⟨by omega, by omega, by omega, by omega⟩, w⟩, w.1, w.2, mt]; rfl); (rw [decide_eq_false w, decide_eq_false (fun z => w z.2)]; simp)), dj_Jz30⟩, by rw [ht]; exact hP⟩⟩, hS.F ht⟩) hS.2.2 dX2_take_106

set_option maxHeartbeats 4000000 in
set_option maxRecDepth 100000 in
theorem s_X2_takeIslandOfRow (l : Launch) (dC : Nat → ClassId) (dI : Nat → Nat → Nat) (cs : Nat → ClassId) (L : List Nat) (K G : Nat → Nat) (Q : Nat → Nat → Option Nat) (hQ : Sv L K G Q) (x0 m0 : Nat) (tx : GT) (tm : GT × Int) (sz : Nat) (I : Nat → Nat → Int32) (J : Nat → Nat → Int64) (hI : Iv L K x0 m0 tx tm I) (p0 : Nat) (hLp0 : p0 ∈ L) (hKp0 : K p0 = 2) (p1 : Int32) (bp1 : (0) ≤ p1.toInt ∧ p1.toInt ≤ 39) : Met l yX2_takeIslandOfRow (.code yX2_takeIslandOfRow cX2_takeIslandOfRow 5 (some .boolean) :: pw) ({ frames := 3, cells := 0, slots := 0, locals := 66 }) (sP (dC, dI) cs [.ref p0, .int p1] sz L K I J Q) (va_Qi (fun (r : Int32) (u : Int32) => u = r ∧ ((0) ≤ r.toInt ∧ r.toInt ≤ 1)) (fun u t => sB (dC, dI) cs L K Q (fun I1 J1 => Iv L K x0 m0 tx tm I1 ∧ (∀ b, ¬ (K b = 2 ∨ K b = 11) → I1 b = I b) ∧ (okm (I (a0 Q p0 0) 0).toInt (I (a0 Q p0 0) 1).toInt (J (wo Q (a0 Q p0 0))) → tiR Q I1 J J1 p0 p1.toInt u.toInt) ∧ (∀ b, ¬ (K b = 12 ∧ (G b = 401)) → J1 b = J b)) t) (fun q => q ∈ L ∨ sz ≤ q)) 0 0 (fun q => q ∈ L ∨ sz ≤ q) := by
  refine Met.ofW (cc := cX2_takeIslandOfRow) (maxL := 5) (ret := (some .boolean)) (by decide +kernel) rfl ?_
  intro p e s m args below meth c s₁ B hml hv
  obtain ⟨rfl, hsz, hP, hK, hD0, hN⟩ := hv
  have hx := B.exec
  have hb := B.bytes
  have hr := B.returns
  have hts := fun w (h : w ∈ pw) => atoms_spec (ws := Cond.code yX2_takeIslandOfRow cX2_takeIslandOfRow 5 (some .boolean) :: pw) B.pre w (List.mem_cons_of_mem _ h)
  have hown : s.vm.findClass RX2 = some m.cls := findClass_of_methodNamed B.named
  have hlocks := B.notSynchronized
  subst hsz
  have hBB : 999 ≤ tm.2 ∧ tm.2 ≤ 6000000 := hI.2.2.2.2.1
  have dj_J : (∀ b, ¬ (K b = 12 ∧ (G b = 401)) → J b = J b) := fun _ _ => rfl
  have fr_I : ∀ b, ¬ (K b = 2 ∨ K b = 11) → I b = I b := fun _ _ => rfl
  obtain ⟨A, hAe⟩ : ∃ A : Nat → Prop, A = (fun q => q ∈ L ∨ s.heap.size ≤ q) := ⟨_, rfl⟩
  rw [← hAe]
  have hAL : ∀ q, q ∈ L → A q := fun q h => by rw [hAe]; exact Or.inl h
  have hA : ∀ q, s.heap.size ≤ q → A q := fun q h => by rw [hAe]; exact Or.inr h
  have hD : ∀ F, va_D A (va_pl L F) := fun F => (hD0 F).weaken (fun k q hk _ => hAL _ (pl_mem hk))
  obtain ⟨H, hHe⟩ : ∃ H : Heap, H = s.heap := ⟨_, rfl⟩
  have hS : va_S A s.heap H [] := by rw [hHe]; exact va_S.rf
  rw [← hHe] at hP
  have hl := lv_entry ([.ref p0, .int p1]) (n := 5) (Nat.le_of_ble_eq_true rfl)
  rw [lg_entry_eq]
  generalize (lg_sl ([.ref p0, .int p1]) ++ List.replicate (5 - (lg_sl ([.ref p0, .int p1])).length) Slot.unset).toArray = ls at hl ⊢
  have hl : lv_has ls 5 [(0, .ref p0), (1, .int p1)] := hl
  rw [← hHe]
  refine namedW (fun R Qz hR hQz => ?_)
  refine lv_aload_n hx hb dX2_takeIslandOfRow_0 rfl (lv_at hl 0 rfl) ?_
  obtain ⟨y1, ey1, hLy1, hKy1, hGy1⟩ := oQ_2_0 (Sv_at hQ hLp0 hKp0)
  refine p_get (v := .ref y1) hx hb hts inX2 hown hK hP hLp0 hKp0 rfl rfl 0 (by decide) (hts _ pq317) (congrArg (fun q => some (va_rf q)) ey1) dX2_takeIslandOfRow_1 ?_
  obtain ⟨y4, ey4, hLy4, hKy4, hGy4⟩ := oQ_3_2 (Sv_at hQ hLy1 hKy1)
  refine p_get (v := .ref y4) hx hb hts inX3 hown hK hP hLy1 hKy1 rfl rfl 2 (by decide) (hts _ pq125) (congrArg (fun q => some (va_rf q)) ey4) dX2_takeIslandOfRow_4 ?_
  refine lv_iconst (v := 2) hx hb dX2_takeIslandOfRow_7 (by decide +kernel) ?_
  refine lv_iload_n hx hb dX2_takeIslandOfRow_8 rfl (lv_at hl 1 rfl) ?_
  refine lv_imul hx hb dX2_takeIslandOfRow_9 ?_
  refine lv_topi (fun z9 ez9 => ?_)
  have bz9 := tq_mul (k := (2)) (q := p1.toInt) ez9 (by decide +kernel) rfl (by omega) (by omega)
  refine p_lald hx hb hK hP 2 hLy4 hKy4 rfl rfl (in_of (by omega) (by omega)) dX2_takeIslandOfRow_10 ?_
  refine lv_topl (fun z10 ez10 => ?_)
  refine lv_aload_n hx hb dX2_takeIslandOfRow_11 rfl (lv_at hl 0 rfl) ?_
  refine p_get (v := .ref y1) hx hb hts inX2 hown hK hP hLp0 hKp0 rfl rfl 0 (by decide) (hts _ pq317) (congrArg (fun q => some (va_rf q)) ey1) dX2_takeIslandOfRow_12 ?_
  refine p_get (v := .ref y4) hx hb hts inX3 hown hK hP hLy1 hKy1 rfl rfl 2 (by decide) (hts _ pq125) (congrArg (fun q => some (va_rf q)) ey4) dX2_takeIslandOfRow_15 ?_
  refine lv_iconst (v := 2) hx hb dX2_takeIslandOfRow_18 (by decide +kernel) ?_
  refine lv_iload_n hx hb dX2_takeIslandOfRow_19 rfl (lv_at hl 1 rfl) ?_
  refine lv_imul hx hb dX2_takeIslandOfRow_20 ?_
  refine lv_topi (fun z20 ez20 => ?_)
  have bz20 := tq_mul (k := (2)) (q := p1.toInt) ez20 (by decide +kernel) rfl (by omega) (by omega)
  refine lv_iconst (v := 1) hx hb dX2_takeIslandOfRow_21 (by decide +kernel) ?_
  refine lv_iadd hx hb dX2_takeIslandOfRow_22 ?_
  refine lv_topi (fun z22 ez22 => ?_)
  have bz22 := tq_add (k := z20.toInt) (q := (1)) ez22 rfl (by decide +kernel) (by omega) (by omega)
  refine p_lald hx hb hK hP 2 hLy4 hKy4 rfl rfl (in_of (by omega) (by omega)) dX2_takeIslandOfRow_23 ?_
  refine lv_topl (fun z23 ez23 => ?_)
  refine lv_lor hx hb dX2_takeIslandOfRow_24 ?_
  refine lv_topl (fun z24 ez24 => ?_)
  refine lv_lconst (v := 0) hx hb dX2_takeIslandOfRow_25 (by decide +kernel) ?_
  refine W.lcmp hx hb dX2_takeIslandOfRow_26 ?_
  refine lv_topi (fun z26 ez26 => ?_)
  refine lv_if_ne (tgt := 32) hx hb dX2_takeIslandOfRow_27 (by decide) (fun c27 => ?_) (fun c27 => ?_)
  · have t27 := tq_ne (k := z26.toInt) (q := (0)) c27 rfl (by decide +kernel)
    refine lv_aload_n hx hb dX2_takeIslandOfRow_32 rfl (lv_at hl 0 rfl) ?_
    refine p_get (v := .ref y1) hx hb hts inX2 hown hK hP hLp0 hKp0 rfl rfl 0 (by decide) (hts _ pq317) (congrArg (fun q => some (va_rf q)) ey1) dX2_takeIslandOfRow_33 ?_
    refine p_get (v := .ref y4) hx hb hts inX3 hown hK hP hLy1 hKy1 rfl rfl 2 (by decide) (hts _ pq125) (congrArg (fun q => some (va_rf q)) ey4) dX2_takeIslandOfRow_36 ?_
    refine lv_iconst (v := 2) hx hb dX2_takeIslandOfRow_39 (by decide +kernel) ?_
    refine lv_iload_n hx hb dX2_takeIslandOfRow_40 rfl (lv_at hl 1 rfl) ?_
    refine lv_imul hx hb dX2_takeIslandOfRow_41 ?_
    refine lv_topi (fun z41 ez41 => ?_)
    have bz41 := tq_mul (k := (2)) (q := p1.toInt) ez41 (by decide +kernel) rfl (by omega) (by omega)
    refine p_lald hx hb hK hP 2 hLy4 hKy4 rfl rfl (in_of (by omega) (by omega)) dX2_takeIslandOfRow_42 ?_
    refine lv_topl (fun z42 ez42 => ?_)
    refine lv_aload_n hx hb dX2_takeIslandOfRow_43 rfl (lv_at hl 0 rfl) ?_
    refine p_get (v := .ref y1) hx hb hts inX2 hown hK hP hLp0 hKp0 rfl rfl 0 (by decide) (hts _ pq317) (congrArg (fun q => some (va_rf q)) ey1) dX2_takeIslandOfRow_44 ?_
    refine p_get (v := .ref y4) hx hb hts inX3 hown hK hP hLy1 hKy1 rfl rfl 2 (by decide) (hts _ pq125) (congrArg (fun q => some (va_rf q)) ey4) dX2_takeIslandOfRow_47 ?_
    refine lv_iconst (v := 2) hx hb dX2_takeIslandOfRow_50 (by decide +kernel) ?_
    refine lv_iload_n hx hb dX2_takeIslandOfRow_51 rfl (lv_at hl 1 rfl) ?_
    refine lv_imul hx hb dX2_takeIslandOfRow_52 ?_
    refine lv_topi (fun z52 ez52 => ?_)
    have bz52 := tq_mul (k := (2)) (q := p1.toInt) ez52 (by decide +kernel) rfl (by omega) (by omega)
    refine lv_iconst (v := 1) hx hb dX2_takeIslandOfRow_53 (by decide +kernel) ?_
    refine lv_iadd hx hb dX2_takeIslandOfRow_54 ?_
    refine lv_topi (fun z54 ez54 => ?_)
    have bz54 := tq_add (k := z52.toInt) (q := (1)) ez54 rfl (by decide +kernel) (by omega) (by omega)
    refine p_lald hx hb hK hP 2 hLy4 hKy4 rfl rfl (in_of (by omega) (by omega)) dX2_takeIslandOfRow_55 ?_
    refine lv_topl (fun z55 ez55 => ?_)
    refine ro_i (va_runS (As := [.long z42, .long z55]) (rest := []) ⟨hx, hb, hml, hown, hts⟩ (s_X3_lowestBit l dC dI cs L K Q H.size I J z42 z55) (va_cwS 2 hts (gS pq858 pq552 pq76 pq553) rfl rfl rfl (by decide +kernel) ⟨(by rw [hR]; exact (Nat.le_of_ble_eq_true rfl)), (by rw [hR]; exact (Nat.le_of_ble_eq_true rfl))⟩) (sP_S hP hD hK hN) rfl rfl hl.1 rfl (lv_room (Nat.le_of_ble_eq_true rfl)) dX2_takeIslandOfRow_56 ⟨(by rw [hR]; exact (Nat.le_of_ble_eq_true rfl)), (by rw [hR]; exact (Nat.le_of_ble_eq_true rfl))⟩) hS hP (fun z56 H locs hz56 hP hS => ?_)
    obtain ⟨bz56, xpz56⟩ := hz56
    refine lv_istore_n (lv' := [(2, .int z56), (0, .ref p0), (1, .int p1)]) hx hb dX2_takeIslandOfRow_59 rfl hl (by decide) rfl (fun ls hl => ?_)
    refine lv_aload_n hx hb dX2_takeIslandOfRow_60 rfl (lv_at hl 1 rfl) ?_
    refine lv_iload_n hx hb dX2_takeIslandOfRow_61 rfl (lv_at hl 0 rfl) ?_
    refine p_put hx hb hts inX2 tyX2 tyX2_ok nmX2 hown hK hP hD hS hLp0 hKp0 rfl rfl 4 (by decide) (hts _ pq322) rfl (by decide +kernel) (Nat.le_of_ble_eq_true rfl) (oS_2_4 cs _ _ _ _) dX2_takeIslandOfRow_62 (fun H locs hP hS => ?_)
    obtain ⟨Iz62, hP, hIz62, qIz62⟩ : ∃ Iz62, va_P (dC, dI) vwCl (Wd cs L K Iz62 J Q) H ∧ Iv L K x0 m0 tx tm Iz62 ∧ Iz62 = va_up I p0 (upd (I p0) 4 z56) := ⟨_, hP, Iv_put hI hKp0 (oP_2_4 (Iv_at hI hLp0 hKp0)) (by decide) (by decide), rfl⟩
    have fr_Iz62 : ∀ b, ¬ (K b = 2 ∨ K b = 11) → Iz62 b = I b := fun b q => (congrFun qIz62 b).trans ((va_up_ne _ _ (fun z => q (by rw [z]; have := hKp0; omega))).trans (fr_I b q))
    refine lv_aload_n hx hb dX2_takeIslandOfRow_65 rfl (lv_at hl 1 rfl) ?_
    refine lv_iload_n hx hb dX2_takeIslandOfRow_66 rfl (lv_at hl 0 rfl) ?_
    refine p_put hx hb hts inX2 tyX2 tyX2_ok nmX2 hown hK hP hD hS hLp0 hKp0 rfl rfl 6 (by decide) (hts _ pq326) rfl (by decide +kernel) (Nat.le_of_ble_eq_true rfl) (oS_2_6 cs _ _ _ _) dX2_takeIslandOfRow_67 (fun H locs hP hS => ?_)
    obtain ⟨Iz67, hP, hIz67, qIz67⟩ : ∃ Iz67, va_P (dC, dI) vwCl (Wd cs L K Iz67 J Q) H ∧ Iv L K x0 m0 tx tm Iz67 ∧ Iz67 = va_up Iz62 p0 (upd (Iz62 p0) 6 z56) := ⟨_, hP, Iv_put hIz62 hKp0 (oP_2_6 (Iv_at hIz62 hLp0 hKp0)) (by decide) (by decide), rfl⟩
    have fr_Iz67 : ∀ b, ¬ (K b = 2 ∨ K b = 11) → Iz67 b = I b := fun b q => (congrFun qIz67 b).trans ((va_up_ne _ _ (fun z => q (by rw [z]; have := hKp0; omega))).trans (fr_Iz62 b q))
    refine lv_aload_n hx hb dX2_takeIslandOfRow_70 rfl (lv_at hl 1 rfl) ?_
    refine lv_iload_n hx hb dX2_takeIslandOfRow_71 rfl (lv_at hl 2 rfl) ?_
    refine p_put hx hb hts inX2 tyX2 tyX2_ok nmX2 hown hK hP hD hS hLp0 hKp0 rfl rfl 5 (by decide) (hts _ pq324) rfl (by decide +kernel) (Nat.le_of_ble_eq_true rfl) (oS_2_5 cs _ _ _ _) dX2_takeIslandOfRow_72 (fun H locs hP hS => ?_)
    obtain ⟨Iz72, hP, hIz72, qIz72⟩ : ∃ Iz72, va_P (dC, dI) vwCl (Wd cs L K Iz72 J Q) H ∧ Iv L K x0 m0 tx tm Iz72 ∧ Iz72 = va_up Iz67 p0 (upd (Iz67 p0) 5 p1) := ⟨_, hP, Iv_put hIz67 hKp0 (oP_2_5 (Iv_at hIz67 hLp0 hKp0)) (by decide) (by decide), rfl⟩
    have fr_Iz72 : ∀ b, ¬ (K b = 2 ∨ K b = 11) → Iz72 b = I b := fun b q => (congrFun qIz72 b).trans ((va_up_ne _ _ (fun z => q (by rw [z]; have := hKp0; omega))).trans (fr_Iz67 b q))
    refine lv_aload_n hx hb dX2_takeIslandOfRow_75 rfl (lv_at hl 1 rfl) ?_
    refine lv_iload_n hx hb dX2_takeIslandOfRow_76 rfl (lv_at hl 2 rfl) ?_
    refine p_put hx hb hts inX2 tyX2 tyX2_ok nmX2 hown hK hP hD hS hLp0 hKp0 rfl rfl 7 (by decide) (hts _ pq328) rfl (by decide +kernel) (Nat.le_of_ble_eq_true rfl) (oS_2_7 cs _ _ _ _) dX2_takeIslandOfRow_77 (fun H locs hP hS => ?_)
    obtain ⟨Iz77, hP, hIz77, qIz77⟩ : ∃ Iz77, va_P (dC, dI) vwCl (Wd cs L K Iz77 J Q) H ∧ Iv L K x0 m0 tx tm Iz77 ∧ Iz77 = va_up Iz72 p0 (upd (Iz72 p0) 7 p1) := ⟨_, hP, Iv_put hIz72 hKp0 (oP_2_7 (Iv_at hIz72 hLp0 hKp0)) (by decide) (by decide), rfl⟩
    have fr_Iz77 : ∀ b, ¬ (K b = 2 ∨ K b = 11) → Iz77 b = I b := fun b q => (congrFun qIz77 b).trans ((va_up_ne _ _ (fun z => q (by rw [z]; have := hKp0; omega))).trans (fr_Iz72 b q))
    refine lv_aload_n hx hb dX2_takeIslandOfRow_80 rfl (lv_at hl 1 rfl) ?_
    refine lv_iconst (v := 0) hx hb dX2_takeIslandOfRow_81 (by decide +kernel) ?_
    refine p_put hx hb hts inX2 tyX2 tyX2_ok nmX2 hown hK hP hD hS hLp0 hKp0 rfl rfl 2 (by decide) (hts _ pq319) rfl (by decide +kernel) (Nat.le_of_ble_eq_true rfl) (oS_2_2 cs _ _ _ _) dX2_takeIslandOfRow_82 (fun H locs hP hS => ?_)
    obtain ⟨Iz82, hP, hIz82, qIz82⟩ : ∃ Iz82, va_P (dC, dI) vwCl (Wd cs L K Iz82 J Q) H ∧ Iv L K x0 m0 tx tm Iz82 ∧ Iz82 = va_up Iz77 p0 (upd (Iz77 p0) 2 (0 : Int32)) := ⟨_, hP, Iv_put hIz77 hKp0 (oP_2_2 (Iv_at hIz77 hLp0 hKp0) ⟨by decide +kernel, by decide +kernel⟩) (by decide) (by decide), rfl⟩
    have fr_Iz82 : ∀ b, ¬ (K b = 2 ∨ K b = 11) → Iz82 b = I b := fun b q => (congrFun qIz82 b).trans ((va_up_ne _ _ (fun z => q (by rw [z]; have := hKp0; omega))).trans (fr_Iz77 b q))
    refine lv_aload_n hx hb dX2_takeIslandOfRow_85 rfl (lv_at hl 1 rfl) ?_
    refine lv_iload_n hx hb dX2_takeIslandOfRow_86 rfl (lv_at hl 0 rfl) ?_
    refine lv_iload_n hx hb dX2_takeIslandOfRow_87 rfl (lv_at hl 2 rfl) ?_
    refine sw_v (Z := (fun I1 J1 => Iv L K x0 m0 tx tm I1 ∧ (∀ b, ¬ (K b = 2 ∨ K b = 11) → I1 b = Iz82 b) ∧ I1 p0 3 = Iz82 p0 3 ∧ (okm (Iz82 (a0 Q p0 0) 0).toInt (Iz82 (a0 Q p0 0) 1).toInt (J (wo Q (a0 Q p0 0))) → takR Q Iz82 I1 J J1 p0 z56.toInt p1.toInt) ∧ (∀ b, ¬ (K b = 12 ∧ (G b = 401)) → J1 b = J b))) (va_runV (As := [.int z56, .int p1]) (rest := []) ⟨hx, hb, hml, hown, hts⟩ (s_X2_take l dC dI cs L K G Q hQ x0 m0 tx tm H.size Iz82 J hIz82 p0 hLp0 hKp0 z56 p1) (cwV 2 hts (gV pq859 pq860 pq861 pq80 pq862) rfl rfl rfl (by decide +kernel) ⟨(by rw [hR]; exact (Nat.le_of_ble_eq_true rfl)), (by rw [hR]; exact (Nat.le_of_ble_eq_true rfl))⟩) (sP_V hP hD hK hN hLp0 hKp0 rfl rfl) rfl rfl hl.1 rfl (lv_room (Nat.le_of_ble_eq_true rfl)) dX2_takeIslandOfRow_88 ⟨(by rw [hR]; exact (Nat.le_of_ble_eq_true rfl)), (by rw [hR]; exact (Nat.le_of_ble_eq_true rfl))⟩) hS hAL hA (fun Iz88 Jz88 H locs hz88 hIz88 hP hS => ?_)
    obtain ⟨hIz88, frc88, kc88_0_3, jz88, djc88⟩ := hIz88
    have dj_Jz88 : (∀ b, ¬ (K b = 12 ∧ (G b = 401)) → Jz88 b = J b) := fun b hc => (djc88 b (fun z => hc (by exact ⟨z.1, by have z2 := z.2; omega⟩))).trans (dj_J b hc)
    have fr_Iz88 : ∀ b, ¬ (K b = 2 ∨ K b = 11) → Iz88 b = I b := fun b q => (frc88 b (fun z => q (by omega))).trans (fr_Iz82 b q)
    refine lv_aload_n hx hb dX2_takeIslandOfRow_91 rfl (lv_at hl 1 rfl) ?_
    refine lv_iconst (v := 0) hx hb dX2_takeIslandOfRow_92 (by decide +kernel) ?_
    refine p_put hx hb hts inX2 tyX2 tyX2_ok nmX2 hown hK hP hD hS hLp0 hKp0 rfl rfl 3 (by decide) (hts _ pq320) rfl (by decide +kernel) (Nat.le_of_ble_eq_true rfl) (oS_2_3 cs _ _ _ _) dX2_takeIslandOfRow_93 (fun H locs hP hS => ?_)
    obtain ⟨Iz93, hP, hIz93, qIz93⟩ : ∃ Iz93, va_P (dC, dI) vwCl (Wd cs L K Iz93 Jz88 Q) H ∧ Iv L K x0 m0 tx tm Iz93 ∧ Iz93 = va_up Iz88 p0 (upd (Iz88 p0) 3 (0 : Int32)) := ⟨_, hP, Iv_put hIz88 hKp0 (oP_2_3 (Iv_at hIz88 hLp0 hKp0) ⟨by decide +kernel, by decide +kernel⟩) (by decide) (by decide), rfl⟩
    have fr_Iz93 : ∀ b, ¬ (K b = 2 ∨ K b = 11) → Iz93 b = I b := fun b q => (congrFun qIz93 b).trans ((va_up_ne _ _ (fun z => q (by rw [z]; have := hKp0; omega))).trans (fr_Iz88 b q))
    have key96 := blocks (fun n => ∀ (I96 : Nat → Nat → Int32) (J96 : Nat → Nat → Int64) (H : Heap) (lo : List Loc) (ls : Array Slot), (4001 - (I96 p0 3).toInt).toNat = n → Iv L K x0 m0 tx tm I96 → (∀ b, ¬ (K b = 2 ∨ K b = 11) → I96 b = I b) → (∀ b, ¬ (K b = 12 ∧ (G b = 401)) → J96 b = J b) → (okm (I (a0 Q p0 0) 0).toInt (I (a0 Q p0 0) 1).toInt (J (wo Q (a0 Q p0 0))) → (flS Q I96 J96 (opn Q J p0) (z56.toInt, p1.toInt) p0 (I96 p0 3).toInt.toNat ∧ opn Q J96 p0 z56.toInt p1.toInt = false ∧ 0 ≤ (I96 p0 3).toInt ∧ (I96 p0 3).toInt ≤ (I96 p0 2).toInt)) → va_P (dC, dI) vwCl (Wd cs L K I96 J96 Q) H → va_S A s.heap H lo → lv_has ls 5 [(0, .ref p0), (1, .int p1), (2, .int z56)] → W p l e R s m (([.ref p0, .int p1] : List Value).toArray) below meth c H lo 0 0 Qz (F0 m 96 ls [])) (by
      intro n ih96
      intro I96 J96 H lo ls hmu96 hI96 fr_I96 dj_J96 g96 hP hS hl
      refine lv_aload_n hx hb dX2_takeIslandOfRow_96 rfl (lv_at hl 0 rfl) ?_
      refine p_get hx hb hts inX2 hown hK hP hLp0 hKp0 rfl rfl 3 (by decide) (hts _ pq320) rfl dX2_takeIslandOfRow_97 ?_
      refine lv_topi (fun z97 ez97 => ?_)
      have cgz97 := congrArg Int32.toInt ez97
      have bz97 := oI_2_3 (Iv_at hI96 hLp0 hKp0)
      rw [← ez97] at bz97
      refine lv_aload_n hx hb dX2_takeIslandOfRow_100 rfl (lv_at hl 0 rfl) ?_
      refine p_get hx hb hts inX2 hown hK hP hLp0 hKp0 rfl rfl 2 (by decide) (hts _ pq319) rfl dX2_takeIslandOfRow_101 ?_
      refine lv_topi (fun z101 ez101 => ?_)
      have cgz101 := congrArg Int32.toInt ez101
      have bz101 := oI_2_2 (Iv_at hI96 hLp0 hKp0)
      rw [← ez101] at bz101
      refine lv_icmp_ge (tgt := 195) hx hb dX2_takeIslandOfRow_104 (by decide) (fun c104 => ?_) (fun c104 => ?_)
      · have t104 := tq_le (k := z101.toInt) (q := z97.toInt) c104 rfl rfl
        refine lv_iconst (v := 1) hx hb dX2_takeIslandOfRow_195 (by decide +kernel) ?_
        subst hR; subst hQz
        exact W.zret (v := 1) hx hb hr (by decide +kernel) (fun t ht hW => ⟨⟨1, 1, rfl, ⟨rfl, ⟨by decide +kernel, by decide +kernel⟩⟩, ⟨I96, J96, ⟨hI96, fr_I96, (fun ok => by have y1e : a0 Q p0 0 = y1 := gd_of ey1; have y4e : wo Q y1 = y4 := wo_of ey4; have hr : p1.toInt.toNat < 40 := (by omega); have ok2 := ok; rw [y1e, y4e] at ok2; have eo : ∀ x y, opn Q J p0 x y = md (J y4) x y := (fun x y => by unfold opn; rw [y1e, y4e]); have w10 : z10 = J y4 (2 * p1.toInt.toNat) := (by rw [ez10, show z9.toNatClampNeg = 2 * p1.toInt.toNat from (by show z9.toInt.toNat = _; omega)]); have w23 : z23 = J y4 (2 * p1.toInt.toNat + 1) := (by rw [ez23, show z22.toNatClampNeg = 2 * p1.toInt.toNat + 1 from (by show z22.toInt.toNat = _; omega)]); have e42 : z42 = z10 := (by rw [ez42, ez10, show z41 = z9 from Int32.toInt_inj.mp (by omega)]); have e55 : z55 = z23 := (by rw [ez55, ez23, show z54 = z22 from Int32.toInt_inj.mp (by omega)]); have X56 := xpz56; rw [e42, e55] at X56; have LB := low_dt X56 (fun n => t27 ((lc0 ez26).mpr ((or_0 ez24).mpr n))); have R : ∀ x, opn Q J p0 x p1.toInt = dt z10 z23 x := (fun x => by rw [eo]; have q := md_row (f := J y4) (r := p1.toInt.toNat) (a := z10) (b := z23) hr w10 w23 x; rw [show ((p1.toInt.toNat : Nat) : Int) = p1.toInt by omega] at q; exact q); have o0 : opn Q J p0 z56.toInt p1.toInt = true := (by rw [R]; exact LB.2.1); have rr : ∀ X Y, opn Q J p0 X Y = true → (0 ≤ X ∧ X < 100) ∧ 0 ≤ Y ∧ Y < 40 := (fun X Y k => by rw [eo] at k; have := md_b ok2.2.2 _ _ k; have o1 := ok2.1; have o2 := ok2.2.1; omega); have r0 := rr _ _ o0; obtain ⟨S, N, b0, b1⟩ := g96 ok; have e97 : z97.toInt = (I96 p0 3).toInt := congrArg Int32.toInt ez97; have e101 : z101.toInt = (I96 p0 2).toInt := congrArg Int32.toInt ez101; refine ⟨fun q => absurd q (by decide +kernel), fun _ => ti_end S (by omega) (by omega) o0 N (fun x2 hx2 => by rw [R]; exact LB.2.2 x2 hx2)⟩), dj_J96⟩, by rw [ht]; exact hP⟩⟩, hS.F ht⟩) hS.2.2 dX2_takeIslandOfRow_196
      · have t104 := tq_nle (k := z101.toInt) (q := z97.toInt) c104 rfl rfl
        refine lv_aload_n hx hb dX2_takeIslandOfRow_107 rfl (lv_at hl 0 rfl) ?_
        refine p_get hx hb hts inX2 hown hK hP hLp0 hKp0 rfl rfl 3 (by decide) (hts _ pq320) rfl dX2_takeIslandOfRow_108 ?_
        refine lv_topi (fun z108 ez108 => ?_)
        obtain rfl : z97 = z108 := ez97.trans ez108.symm
        refine lv_aload_n hx hb dX2_takeIslandOfRow_111 rfl (lv_at hl 0 rfl) ?_
        obtain ⟨y112, ey112, hLy112, hKy112⟩ := oQ_2_1 (Sv_at hQ hLp0 hKp0)
        refine p_get (v := .ref y112) hx hb hts inX2 hown hK hP hLp0 hKp0 rfl rfl 1 (by decide) (hts _ pq318) (congrArg (fun q => some (va_rf q)) ey112) dX2_takeIslandOfRow_112 ?_
        refine p_alen (v := 4000) hx hb hK hP 1 hLy112 hKy112 rfl rfl rfl dX2_takeIslandOfRow_115 ?_
        refine lv_icmp_ge (tgt := 195) hx hb dX2_takeIslandOfRow_116 (by decide) (fun c116 => by have t116 := tq_le (k := (4000)) (q := z97.toInt) c116 (by decide +kernel) rfl; omega) (fun c116 => ?_)
        have t116 := tq_nle (k := (4000)) (q := z97.toInt) c116 (by decide +kernel) rfl
        refine lv_aload_n hx hb dX2_takeIslandOfRow_119 rfl (lv_at hl 0 rfl) ?_
        refine p_get (v := .ref y112) hx hb hts inX2 hown hK hP hLp0 hKp0 rfl rfl 1 (by decide) (hts _ pq318) (congrArg (fun q => some (va_rf q)) ey112) dX2_takeIslandOfRow_120 ?_
        refine lv_aload_n hx hb dX2_takeIslandOfRow_123 rfl (lv_at hl 0 rfl) ?_
        refine p_get hx hb hts inX2 hown hK hP hLp0 hKp0 rfl rfl 3 (by decide) (hts _ pq320) rfl dX2_takeIslandOfRow_124 ?_
        refine lv_topi (fun z124 ez124 => ?_)
        obtain rfl : z97 = z124 := ez97.trans ez124.symm
        refine p_iald hx hb hK hP 1 hLy112 hKy112 rfl rfl (in_of (by omega) (by omega)) dX2_takeIslandOfRow_127 ?_
        refine lv_topi (fun z127 ez127 => ?_)
        refine lv_bipush (v := 100) hx hb dX2_takeIslandOfRow_128 (by decide +kernel) ?_
        refine lv_irem hx hb dX2_takeIslandOfRow_130 (by decide +kernel) ?_
        refine lv_topi (fun z130 ez130 => ?_)
        refine lv_istore_n (lv' := [(3, .int z130), (0, .ref p0), (1, .int p1), (2, .int z56)]) hx hb dX2_takeIslandOfRow_131 rfl hl (by decide) rfl (fun ls hl => ?_)
        refine lv_aload_n hx hb dX2_takeIslandOfRow_132 rfl (lv_at hl 1 rfl) ?_
        refine p_get (v := .ref y112) hx hb hts inX2 hown hK hP hLp0 hKp0 rfl rfl 1 (by decide) (hts _ pq318) (congrArg (fun q => some (va_rf q)) ey112) dX2_takeIslandOfRow_133 ?_
        refine lv_aload_n hx hb dX2_takeIslandOfRow_136 rfl (lv_at hl 1 rfl) ?_
        refine p_get hx hb hts inX2 hown hK hP hLp0 hKp0 rfl rfl 3 (by decide) (hts _ pq320) rfl dX2_takeIslandOfRow_137 ?_
        refine lv_topi (fun z137 ez137 => ?_)
        obtain rfl : z97 = z137 := ez97.trans ez137.symm
        refine p_iald hx hb hK hP 1 hLy112 hKy112 rfl rfl (in_of (by omega) (by omega)) dX2_takeIslandOfRow_140 ?_
        refine lv_topi (fun z140 ez140 => ?_)
        obtain rfl : z127 = z140 := ez127.trans ez140.symm
        refine lv_bipush (v := 100) hx hb dX2_takeIslandOfRow_141 (by decide +kernel) ?_
        refine lv_idiv hx hb dX2_takeIslandOfRow_143 (by decide +kernel) ?_
        refine lv_topi (fun z143 ez143 => ?_)
        refine lv_istore (lv' := [(4, .int z143), (3, .int z130), (0, .ref p0), (1, .int p1), (2, .int z56)]) hx hb dX2_takeIslandOfRow_144 hl (by decide) rfl (fun ls hl => ?_)
        refine lv_aload_n hx hb dX2_takeIslandOfRow_146 rfl (lv_at hl 2 rfl) ?_
        refine lv_iload_n hx hb dX2_takeIslandOfRow_147 rfl (lv_at hl 1 rfl) ?_
        refine lv_iconst (v := 1) hx hb dX2_takeIslandOfRow_148 (by decide +kernel) ?_
        refine lv_iadd hx hb dX2_takeIslandOfRow_149 ?_
        refine lv_topi (fun z149 ez149 => ?_)
        refine lv_iload hx hb dX2_takeIslandOfRow_150 (lv_at hl 0 rfl) ?_
        refine sw_v (Z := (fun I1 J1 => Iv L K x0 m0 tx tm I1 ∧ (∀ b, ¬ (K b = 2 ∨ K b = 11) → I1 b = I96 b) ∧ I1 p0 3 = I96 p0 3 ∧ (okm (I96 (a0 Q p0 0) 0).toInt (I96 (a0 Q p0 0) 1).toInt (J96 (wo Q (a0 Q p0 0))) → takR Q I96 I1 J96 J1 p0 z149.toInt z143.toInt) ∧ (∀ b, ¬ (K b = 12 ∧ (G b = 401)) → J1 b = J96 b))) (va_runV (As := [.int z149, .int z143]) (rest := []) ⟨hx, hb, hml, hown, hts⟩ (s_X2_take l dC dI cs L K G Q hQ x0 m0 tx tm H.size I96 J96 hI96 p0 hLp0 hKp0 z149 z143) (cwV 2 hts (gV pq859 pq860 pq861 pq80 pq862) rfl rfl rfl (by decide +kernel) ⟨(by rw [hR]; exact (Nat.le_of_ble_eq_true rfl)), (by rw [hR]; exact (Nat.le_of_ble_eq_true rfl))⟩) (sP_V hP hD hK hN hLp0 hKp0 rfl rfl) rfl rfl hl.1 rfl (lv_room (Nat.le_of_ble_eq_true rfl)) dX2_takeIslandOfRow_152 ⟨(by rw [hR]; exact (Nat.le_of_ble_eq_true rfl)), (by rw [hR]; exact (Nat.le_of_ble_eq_true rfl))⟩) hS hAL hA (fun Iz152 Jz152 H locs hz152 hIz152 hP hS => ?_)
        obtain ⟨hIz152, frc152, kc152_0_3, jz152, djc152⟩ := hIz152
        have dj_Jz152 : (∀ b, ¬ (K b = 12 ∧ (G b = 401)) → Jz152 b = J b) := fun b hc => (djc152 b (fun z => hc (by exact ⟨z.1, by have z2 := z.2; omega⟩))).trans (dj_J96 b hc)
        have fr_Iz152 : ∀ b, ¬ (K b = 2 ∨ K b = 11) → Iz152 b = I b := fun b q => (frc152 b (fun z => q (by omega))).trans (fr_I96 b q)
        refine lv_aload_n hx hb dX2_takeIslandOfRow_155 rfl (lv_at hl 2 rfl) ?_
        refine lv_iload_n hx hb dX2_takeIslandOfRow_156 rfl (lv_at hl 1 rfl) ?_
        refine lv_iconst (v := 1) hx hb dX2_takeIslandOfRow_157 (by decide +kernel) ?_
        refine lv_isub hx hb dX2_takeIslandOfRow_158 ?_
        refine lv_topi (fun z158 ez158 => ?_)
        refine lv_iload hx hb dX2_takeIslandOfRow_159 (lv_at hl 0 rfl) ?_
        refine sw_v (Z := (fun I1 J1 => Iv L K x0 m0 tx tm I1 ∧ (∀ b, ¬ (K b = 2 ∨ K b = 11) → I1 b = Iz152 b) ∧ I1 p0 3 = Iz152 p0 3 ∧ (okm (Iz152 (a0 Q p0 0) 0).toInt (Iz152 (a0 Q p0 0) 1).toInt (Jz152 (wo Q (a0 Q p0 0))) → takR Q Iz152 I1 Jz152 J1 p0 z158.toInt z143.toInt) ∧ (∀ b, ¬ (K b = 12 ∧ (G b = 401)) → J1 b = Jz152 b))) (va_runV (As := [.int z158, .int z143]) (rest := []) ⟨hx, hb, hml, hown, hts⟩ (s_X2_take l dC dI cs L K G Q hQ x0 m0 tx tm H.size Iz152 Jz152 hIz152 p0 hLp0 hKp0 z158 z143) (cwV 2 hts (gV pq859 pq860 pq861 pq80 pq862) rfl rfl rfl (by decide +kernel) ⟨(by rw [hR]; exact (Nat.le_of_ble_eq_true rfl)), (by rw [hR]; exact (Nat.le_of_ble_eq_true rfl))⟩) (sP_V hP hD hK hN hLp0 hKp0 rfl rfl) rfl rfl hl.1 rfl (lv_room (Nat.le_of_ble_eq_true rfl)) dX2_takeIslandOfRow_161 ⟨(by rw [hR]; exact (Nat.le_of_ble_eq_true rfl)), (by rw [hR]; exact (Nat.le_of_ble_eq_true rfl))⟩) hS hAL hA (fun Iz161 Jz161 H locs hz161 hIz161 hP hS => ?_)
        obtain ⟨hIz161, frc161, kc161_0_3, jz161, djc161⟩ := hIz161
        have dj_Jz161 : (∀ b, ¬ (K b = 12 ∧ (G b = 401)) → Jz161 b = J b) := fun b hc => (djc161 b (fun z => hc (by exact ⟨z.1, by have z2 := z.2; omega⟩))).trans (dj_Jz152 b hc)
        have fr_Iz161 : ∀ b, ¬ (K b = 2 ∨ K b = 11) → Iz161 b = I b := fun b q => (frc161 b (fun z => q (by omega))).trans (fr_Iz152 b q)
        refine lv_aload_n hx hb dX2_takeIslandOfRow_164 rfl (lv_at hl 2 rfl) ?_
        refine lv_iload_n hx hb dX2_takeIslandOfRow_165 rfl (lv_at hl 1 rfl) ?_
        refine lv_iload hx hb dX2_takeIslandOfRow_166 (lv_at hl 0 rfl) ?_
        refine lv_iconst (v := 1) hx hb dX2_takeIslandOfRow_168 (by decide +kernel) ?_
        refine lv_iadd hx hb dX2_takeIslandOfRow_169 ?_
        refine lv_topi (fun z169 ez169 => ?_)
        refine sw_v (Z := (fun I1 J1 => Iv L K x0 m0 tx tm I1 ∧ (∀ b, ¬ (K b = 2 ∨ K b = 11) → I1 b = Iz161 b) ∧ I1 p0 3 = Iz161 p0 3 ∧ (okm (Iz161 (a0 Q p0 0) 0).toInt (Iz161 (a0 Q p0 0) 1).toInt (Jz161 (wo Q (a0 Q p0 0))) → takR Q Iz161 I1 Jz161 J1 p0 z130.toInt z169.toInt) ∧ (∀ b, ¬ (K b = 12 ∧ (G b = 401)) → J1 b = Jz161 b))) (va_runV (As := [.int z130, .int z169]) (rest := []) ⟨hx, hb, hml, hown, hts⟩ (s_X2_take l dC dI cs L K G Q hQ x0 m0 tx tm H.size Iz161 Jz161 hIz161 p0 hLp0 hKp0 z130 z169) (cwV 2 hts (gV pq859 pq860 pq861 pq80 pq862) rfl rfl rfl (by decide +kernel) ⟨(by rw [hR]; exact (Nat.le_of_ble_eq_true rfl)), (by rw [hR]; exact (Nat.le_of_ble_eq_true rfl))⟩) (sP_V hP hD hK hN hLp0 hKp0 rfl rfl) rfl rfl hl.1 rfl (lv_room (Nat.le_of_ble_eq_true rfl)) dX2_takeIslandOfRow_170 ⟨(by rw [hR]; exact (Nat.le_of_ble_eq_true rfl)), (by rw [hR]; exact (Nat.le_of_ble_eq_true rfl))⟩) hS hAL hA (fun Iz170 Jz170 H locs hz170 hIz170 hP hS => ?_)
        obtain ⟨hIz170, frc170, kc170_0_3, jz170, djc170⟩ := hIz170
        have dj_Jz170 : (∀ b, ¬ (K b = 12 ∧ (G b = 401)) → Jz170 b = J b) := fun b hc => (djc170 b (fun z => hc (by exact ⟨z.1, by have z2 := z.2; omega⟩))).trans (dj_Jz161 b hc)
        have fr_Iz170 : ∀ b, ¬ (K b = 2 ∨ K b = 11) → Iz170 b = I b := fun b q => (frc170 b (fun z => q (by omega))).trans (fr_Iz161 b q)
        refine lv_aload_n hx hb dX2_takeIslandOfRow_173 rfl (lv_at hl 2 rfl) ?_
        refine lv_iload_n hx hb dX2_takeIslandOfRow_174 rfl (lv_at hl 1 rfl) ?_
        refine lv_iload hx hb dX2_takeIslandOfRow_175 (lv_at hl 0 rfl) ?_
        refine lv_iconst (v := 1) hx hb dX2_takeIslandOfRow_177 (by decide +kernel) ?_
        refine lv_isub hx hb dX2_takeIslandOfRow_178 ?_
        refine lv_topi (fun z178 ez178 => ?_)
        refine sw_v (Z := (fun I1 J1 => Iv L K x0 m0 tx tm I1 ∧ (∀ b, ¬ (K b = 2 ∨ K b = 11) → I1 b = Iz170 b) ∧ I1 p0 3 = Iz170 p0 3 ∧ (okm (Iz170 (a0 Q p0 0) 0).toInt (Iz170 (a0 Q p0 0) 1).toInt (Jz170 (wo Q (a0 Q p0 0))) → takR Q Iz170 I1 Jz170 J1 p0 z130.toInt z178.toInt) ∧ (∀ b, ¬ (K b = 12 ∧ (G b = 401)) → J1 b = Jz170 b))) (va_runV (As := [.int z130, .int z178]) (rest := []) ⟨hx, hb, hml, hown, hts⟩ (s_X2_take l dC dI cs L K G Q hQ x0 m0 tx tm H.size Iz170 Jz170 hIz170 p0 hLp0 hKp0 z130 z178) (cwV 2 hts (gV pq859 pq860 pq861 pq80 pq862) rfl rfl rfl (by decide +kernel) ⟨(by rw [hR]; exact (Nat.le_of_ble_eq_true rfl)), (by rw [hR]; exact (Nat.le_of_ble_eq_true rfl))⟩) (sP_V hP hD hK hN hLp0 hKp0 rfl rfl) rfl rfl hl.1 rfl (lv_room (Nat.le_of_ble_eq_true rfl)) dX2_takeIslandOfRow_179 ⟨(by rw [hR]; exact (Nat.le_of_ble_eq_true rfl)), (by rw [hR]; exact (Nat.le_of_ble_eq_true rfl))⟩) hS hAL hA (fun Iz179 Jz179 H locs hz179 hIz179 hP hS => ?_)
        obtain ⟨hIz179, frc179, kc179_0_3, jz179, djc179⟩ := hIz179
        have dj_Jz179 : (∀ b, ¬ (K b = 12 ∧ (G b = 401)) → Jz179 b = J b) := fun b hc => (djc179 b (fun z => hc (by exact ⟨z.1, by have z2 := z.2; omega⟩))).trans (dj_Jz170 b hc)
        have fr_Iz179 : ∀ b, ¬ (K b = 2 ∨ K b = 11) → Iz179 b = I b := fun b q => (frc179 b (fun z => q (by omega))).trans (fr_Iz170 b q)
        refine lv_aload_n hx hb dX2_takeIslandOfRow_182 rfl (lv_at hl 2 rfl) ?_
        refine lv_dup hx hb dX2_takeIslandOfRow_183 rfl ?_
        refine p_get hx hb hts inX2 hown hK hP hLp0 hKp0 rfl rfl 3 (by decide) (hts _ pq320) rfl dX2_takeIslandOfRow_184 ?_
        refine lv_topi (fun z184 ez184 => ?_)
        obtain rfl : z97 = z184 := by rw [ez184, kc179_0_3, kc170_0_3, kc161_0_3, kc152_0_3]; exact ez97
        have ez97x184 := ez184
        have e3 := congrArg Int32.toInt ez97
        refine lv_iconst (v := 1) hx hb dX2_takeIslandOfRow_187 (by decide +kernel) ?_
        refine lv_iadd hx hb dX2_takeIslandOfRow_188 ?_
        refine lv_topi (fun z188 ez188 => ?_)
        have bz188 := tq_add (k := z97.toInt) (q := (1)) ez188 rfl (by decide +kernel) (by omega) (by omega)
        refine p_put hx hb hts inX2 tyX2 tyX2_ok nmX2 hown hK hP hD hS hLp0 hKp0 rfl rfl 3 (by decide) (hts _ pq320) rfl (by decide +kernel) (Nat.le_of_ble_eq_true rfl) (oS_2_3 cs _ _ _ _) dX2_takeIslandOfRow_189 (fun H locs hP hS => ?_)
        obtain ⟨Iz189, hP, hIz189, qIz189⟩ : ∃ Iz189, va_P (dC, dI) vwCl (Wd cs L K Iz189 Jz179 Q) H ∧ Iv L K x0 m0 tx tm Iz189 ∧ Iz189 = va_up Iz179 p0 (upd (Iz179 p0) 3 z188) := ⟨_, hP, Iv_put hIz179 hKp0 (oP_2_3 (Iv_at hIz179 hLp0 hKp0) ⟨by omega, by omega⟩) (by decide) (by decide), rfl⟩
        have fr_Iz189 : ∀ b, ¬ (K b = 2 ∨ K b = 11) → Iz189 b = I b := fun b q => (congrFun qIz189 b).trans ((va_up_ne _ _ (fun z => q (by rw [z]; have := hKp0; omega))).trans (fr_Iz179 b q))
        refine lv_goto (tgt := 96) hx hb dX2_takeIslandOfRow_192 (by decide) ?_
        exact ih96 _ (by rw [qIz189, rz_at]; omega) Iz189 Jz179 _ _ _ rfl hIz189 fr_Iz189 dj_Jz179 (fun ok => by have y1e : a0 Q p0 0 = y1 := gd_of ey1; have y4e : wo Q y1 = y4 := wo_of ey4; have hr : p1.toInt.toNat < 40 := (by omega); have ok2 := ok; rw [y1e, y4e] at ok2; have eo : ∀ x y, opn Q J p0 x y = md (J y4) x y := (fun x y => by unfold opn; rw [y1e, y4e]); have w10 : z10 = J y4 (2 * p1.toInt.toNat) := (by rw [ez10, show z9.toNatClampNeg = 2 * p1.toInt.toNat from (by show z9.toInt.toNat = _; omega)]); have w23 : z23 = J y4 (2 * p1.toInt.toNat + 1) := (by rw [ez23, show z22.toNatClampNeg = 2 * p1.toInt.toNat + 1 from (by show z22.toInt.toNat = _; omega)]); have e42 : z42 = z10 := (by rw [ez42, ez10, show z41 = z9 from Int32.toInt_inj.mp (by omega)]); have e55 : z55 = z23 := (by rw [ez55, ez23, show z54 = z22 from Int32.toInt_inj.mp (by omega)]); have X56 := xpz56; rw [e42, e55] at X56; have LB := low_dt X56 (fun n => t27 ((lc0 ez26).mpr ((or_0 ez24).mpr n))); have R : ∀ x, opn Q J p0 x p1.toInt = dt z10 z23 x := (fun x => by rw [eo]; have q := md_row (f := J y4) (r := p1.toInt.toNat) (a := z10) (b := z23) hr w10 w23 x; rw [show ((p1.toInt.toNat : Nat) : Int) = p1.toInt by omega] at q; exact q); have o0 : opn Q J p0 z56.toInt p1.toInt = true := (by rw [R]; exact LB.2.1); have rr : ∀ X Y, opn Q J p0 X Y = true → (0 ≤ X ∧ X < 100) ∧ 0 ≤ Y ∧ Y < 40 := (fun X Y k => by rw [eo] at k; have := md_b ok2.2.2 _ _ k; have o1 := ok2.1; have o2 := ok2.2.1; omega); have r0 := rr _ _ o0; obtain ⟨S, N, b0, b1⟩ := g96 ok; have e97 : z97.toInt = (I96 p0 3).toInt := congrArg Int32.toInt ez97; have e101 : z101.toInt = (I96 p0 2).toInt := congrArg Int32.toInt ez101; have qe : a0 Q p0 1 = y112 := gd_of ey112; have hm : (I96 p0 3).toInt.toNat < (I96 p0 2).toInt.toNat := (by omega); have bq := (S.1.2.1 _ hm).1; have bq2 := rr _ _ bq; have e127 : z127 = I96 (a0 Q p0 1) (I96 p0 3).toInt.toNat := (by rw [ez127, qe]; congr 1; show z97.toInt.toNat = _; omega); have bq3 : (0 ≤ z127.toInt % 100 ∧ z127.toInt % 100 < 100) ∧ 0 ≤ z127.toInt / 100 ∧ z127.toInt / 100 < 40 := (by rw [e127]; exact bq2); have d130 := tq_rem (k := 100) ez130 (by decide +kernel) (by decide) (show 0 ≤ z127.toInt by omega); have d143 := tq_div (k := 100) ez143 (by decide +kernel) (by decide) (show 0 ≤ z127.toInt by omega); have eq : qdc (I96 (a0 Q p0 1) (I96 p0 3).toInt.toNat) = (z130.toInt, z143.toInt) := (by rw [← e127]; unfold qdc; rw [← d130, ← d143]); have a149 := tq_add (k := z130.toInt) (q := 1) ez149 rfl (by decide +kernel) (by omega) (by omega); have a158 := tq_sub (k := z130.toInt) (q := 1) ez158 rfl (by decide +kernel) (by omega) (by omega); have a169 := tq_add (k := z143.toInt) (q := 1) ez169 rfl (by decide +kernel) (by omega) (by omega); have a178 := tq_sub (k := z143.toInt) (q := 1) ez178 rfl (by decide +kernel) (by omega) (by omega); have s96 : I96 (a0 Q p0 0) = I (a0 Q p0 0) := (by rw [y1e]; exact fr_I96 y1 (by omega)); have s152 : Iz152 (a0 Q p0 0) = I (a0 Q p0 0) := (by rw [y1e]; exact fr_Iz152 y1 (by omega)); have s161 : Iz161 (a0 Q p0 0) = I (a0 Q p0 0) := (by rw [y1e]; exact fr_Iz161 y1 (by omega)); have s170 : Iz170 (a0 Q p0 0) = I (a0 Q p0 0) := (by rw [y1e]; exact fr_Iz170 y1 (by omega)); have S1 := fs_take S (by omega) (jz152 (by rw [s96]; exact fs_ok S ok rfl)) (fun k => fs_con S hm eq (Or.inl ⟨rfl, Or.inl a149⟩) (S.1.1 (z149.toInt, z143.toInt) k)) rr; obtain ⟨T1, n1, m1, l1, u1, f1⟩ := S1; have S2 := fs_take T1 (by omega) (jz161 (by rw [s152]; exact fs_ok T1 ok rfl)) (fun k => fs_con S hm eq (Or.inl ⟨rfl, Or.inr a158⟩) (T1.1.1 (z158.toInt, z143.toInt) k)) rr; obtain ⟨T2, n2, m2, l2, u2, f2⟩ := S2; have S3 := fs_take T2 (by omega) (jz170 (by rw [s161]; exact fs_ok T2 ok rfl)) (fun k => fs_con S hm eq (Or.inr ⟨rfl, Or.inl a169⟩) (T2.1.1 (z130.toInt, z169.toInt) k)) rr; obtain ⟨T3, n3, m3, l3, u3, f3⟩ := S3; have S4 := fs_take T3 (by omega) (jz179 (by rw [s170]; exact fs_ok T3 ok rfl)) (fun k => fs_con S hm eq (Or.inr ⟨rfl, Or.inr a178⟩) (T3.1.1 (z130.toInt, z178.toInt) k)) rr; obtain ⟨T4, n4, m4, l4, u4, f4⟩ := S4; have eq4 : qdc (Iz179 (a0 Q p0 1) (I96 p0 3).toInt.toNat) = (z130.toInt, z143.toInt) := (by rw [u4 _ (by omega), u3 _ (by omega), u2 _ (by omega), u1 _ (by omega)]; exact eq); have T5 := fs_next T4 (m1 := (I96 p0 3).toInt.toNat + 1) eq4 rfl (by rw [← a149]; exact m4 _ _ (m3 _ _ (m2 _ _ n1))) (by rw [← a158]; exact m4 _ _ (m3 _ _ n2)) (by rw [← a169]; exact m4 _ _ n3) (by rw [← a178]; exact n4); have nq : ¬ a0 Q p0 1 = p0 := (fun e => by rw [qe] at e; rw [e] at hKy112; omega); have e189 : (Iz189 p0 3).toInt = (I96 p0 3).toInt + 1 := (by rw [qIz189, rz_at]; omega); have e2 : Iz189 p0 2 = Iz179 p0 2 := (by rw [qIz189, rz_fr _ _ _ _ (by decide)]); exact ⟨by rw [show (Iz189 p0 3).toInt.toNat = (I96 p0 3).toInt.toNat + 1 by omega]; exact fs_set T5 nq qIz189, m4 _ _ (m3 _ _ (m2 _ _ (m1 _ _ N))), by omega, by rw [e189, e2]; omega⟩) hP hS (lv_sub hl [2, 3, 4] rfl))
    exact key96 _ Iz93 Jz88 _ _ _ rfl hIz93 fr_Iz93 dj_Jz88 (fun ok => by have y1e : a0 Q p0 0 = y1 := gd_of ey1; have y4e : wo Q y1 = y4 := wo_of ey4; have hr : p1.toInt.toNat < 40 := (by omega); have ok2 := ok; rw [y1e, y4e] at ok2; have eo : ∀ x y, opn Q J p0 x y = md (J y4) x y := (fun x y => by unfold opn; rw [y1e, y4e]); have w10 : z10 = J y4 (2 * p1.toInt.toNat) := (by rw [ez10, show z9.toNatClampNeg = 2 * p1.toInt.toNat from (by show z9.toInt.toNat = _; omega)]); have w23 : z23 = J y4 (2 * p1.toInt.toNat + 1) := (by rw [ez23, show z22.toNatClampNeg = 2 * p1.toInt.toNat + 1 from (by show z22.toInt.toNat = _; omega)]); have e42 : z42 = z10 := (by rw [ez42, ez10, show z41 = z9 from Int32.toInt_inj.mp (by omega)]); have e55 : z55 = z23 := (by rw [ez55, ez23, show z54 = z22 from Int32.toInt_inj.mp (by omega)]); have X56 := xpz56; rw [e42, e55] at X56; have LB := low_dt X56 (fun n => t27 ((lc0 ez26).mpr ((or_0 ez24).mpr n))); have R : ∀ x, opn Q J p0 x p1.toInt = dt z10 z23 x := (fun x => by rw [eo]; have q := md_row (f := J y4) (r := p1.toInt.toNat) (a := z10) (b := z23) hr w10 w23 x; rw [show ((p1.toInt.toNat : Nat) : Int) = p1.toInt by omega] at q; exact q); have o0 : opn Q J p0 z56.toInt p1.toInt = true := (by rw [R]; exact LB.2.1); have rr : ∀ X Y, opn Q J p0 X Y = true → (0 ≤ X ∧ X < 100) ∧ 0 ≤ Y ∧ Y < 40 := (fun X Y k => by rw [eo] at k; have := md_b ok2.2.2 _ _ k; have o1 := ok2.1; have o2 := ok2.2.1; omega); have r0 := rr _ _ o0; have P62 : Iz62 p0 = upd (I p0) 4 z56 := (by rw [qIz62, va_up_self]); have P67 : Iz67 p0 = upd (upd (I p0) 4 z56) 6 z56 := (by rw [qIz67, va_up_self, P62]); have P72 : Iz72 p0 = upd (upd (upd (I p0) 4 z56) 6 z56) 5 p1 := (by rw [qIz72, va_up_self, P67]); have P77 : Iz77 p0 = upd (upd (upd (upd (I p0) 4 z56) 6 z56) 5 p1) 7 p1 := (by rw [qIz77, va_up_self, P72]); have P82 : Iz82 p0 = upd (upd (upd (upd (upd (I p0) 4 z56) 6 z56) 5 p1) 7 p1) 2 (0 : Int32) := (by rw [qIz82, va_up_self, P77]); have s82 : Iz82 (a0 Q p0 0) = I (a0 Q p0 0) := (by rw [y1e]; exact fr_Iz82 y1 (by omega)); have F := fs_first (I := Iz82) (I1 := Iz88) (J := J) (J1 := Jz88) (O0 := opn Q J p0) (F := p0) (x := z56.toInt) (y := p1.toInt) (fun _ _ => rfl) (by rw [P82]; show (0 : Int32).toInt = 0; decide +kernel) ⟨by rw [P82]; rfl, by rw [P82]; rfl⟩ ⟨by rw [P82]; rfl, by rw [P82]; rfl⟩ (jz88 (by rw [s82]; exact ok)) o0 (by omega) (by omega); have q1 := oQ_2_1 (Sv_at hQ hLp0 hKp0); obtain ⟨yq, eyq, hLq, hKq⟩ := q1; have nq : ¬ a0 Q p0 1 = p0 := (fun e => by rw [show a0 Q p0 1 = yq from gd_of eyq] at e; rw [e] at hKq; omega); have e3 : (Iz93 p0 3).toInt = 0 := (by rw [qIz93, rz_at]; decide +kernel); have e2 : Iz93 p0 2 = Iz88 p0 2 := (by rw [qIz93, rz_fr _ _ _ _ (by decide)]); have F2 := F.1.2.1; exact ⟨by rw [e3]; exact fs_set F.1 nq qIz93, F.2, by omega, by rw [e3, e2]; omega⟩) hP hS (lv_sub hl [1, 2, 0] rfl)
  · have t27 := tq_eq (k := z26.toInt) (q := (0)) c27 rfl (by decide +kernel)
    refine lv_iconst (v := 0) hx hb dX2_takeIslandOfRow_30 (by decide +kernel) ?_
    subst hR; subst hQz
    exact W.zret (v := 0) hx hb hr (by decide +kernel) (fun t ht hW => ⟨⟨0, 0, rfl, ⟨rfl, ⟨by decide +kernel, by decide +kernel⟩⟩, ⟨I, J, ⟨hI, fr_I, (fun ok => by have y1e : a0 Q p0 0 = y1 := gd_of ey1; have y4e : wo Q y1 = y4 := wo_of ey4; have hr : p1.toInt.toNat < 40 := (by omega); have ok2 := ok; rw [y1e, y4e] at ok2; have eo : ∀ x y, opn Q J p0 x y = md (J y4) x y := (fun x y => by unfold opn; rw [y1e, y4e]); have w10 : z10 = J y4 (2 * p1.toInt.toNat) := (by rw [ez10, show z9.toNatClampNeg = 2 * p1.toInt.toNat from (by show z9.toInt.toNat = _; omega)]); have w23 : z23 = J y4 (2 * p1.toInt.toNat + 1) := (by rw [ez23, show z22.toNatClampNeg = 2 * p1.toInt.toNat + 1 from (by show z22.toInt.toNat = _; omega)]); refine ⟨fun _ => ⟨fun x => ?_, fun _ _ => rfl⟩, fun q => absurd (by decide +kernel) q⟩; have zz := (or_0 ez24).mp ((lc0 ez26).mp t27); have k := (rowE_md (f := J y4) hr).mp ⟨w10.symm.trans zz.1, w23.symm.trans zz.2⟩ x; rw [show ((p1.toInt.toNat : Nat) : Int) = p1.toInt by omega] at k; rw [eo]; exact k), dj_J⟩, by rw [ht]; exact hP⟩⟩, hS.F ht⟩) hS.2.2 dX2_takeIslandOfRow_31

set_option maxHeartbeats 4000000 in
set_option maxRecDepth 100000 in
theorem s_X2_countIslands (l : Launch) (dC : Nat → ClassId) (dI : Nat → Nat → Nat) (cs : Nat → ClassId) (L : List Nat) (K G : Nat → Nat) (Q : Nat → Nat → Option Nat) (hQ : Sv L K G Q) (x0 m0 : Nat) (tx : GT) (tm : GT × Int) (sz : Nat) (I : Nat → Nat → Int32) (J : Nat → Nat → Int64) (hI : Iv L K x0 m0 tx tm I) (p0 : Nat) (hLp0 : p0 ∈ L) (hKp0 : K p0 = 2) (p1 : Nat) (hLp1 : p1 ∈ L) (hKp1 : K p1 = 3) : Met l yX2_countIslands (.code yX2_countIslands cX2_countIslands 5 (some .int) :: pw) ({ frames := 4, cells := 0, slots := 0, locals := 90 }) (sP (dC, dI) cs [.ref p0, .ref p1] sz L K I J Q) (va_Qi (fun (r : Int32) (_ : Unit) => (okm (I p1 0).toInt (I p1 1).toInt (J (wo Q p1)) → ¬ p1 = a0 Q p0 0 → r.toInt = isT (B2P (md (J (wo Q p1)))))) (fun _ t => sB (dC, dI) cs L K Q (fun I1 J1 => Iv L K x0 m0 tx tm I1 ∧ (∀ b, ¬ (K b = 2 ∨ K b = 5 ∨ K b = 11 ∨ (K b = 3 ∧ G b / 100 = 4)) → I1 b = I b) ∧ (∀ b, ¬ (K b = 12 ∧ (G b = 401)) → J1 b = J b)) t) (fun q => q ∈ L ∨ sz ≤ q)) 0 0 (fun q => q ∈ L ∨ sz ≤ q) := by
  refine Met.ofW (cc := cX2_countIslands) (maxL := 5) (ret := (some .int)) (by decide +kernel) rfl ?_
  intro p e s m args below meth c s₁ B hml hv
  obtain ⟨rfl, hsz, hP, hK, hD0, hN⟩ := hv
  have hx := B.exec
  have hb := B.bytes
  have hr := B.returns
  have hts := fun w (h : w ∈ pw) => atoms_spec (ws := Cond.code yX2_countIslands cX2_countIslands 5 (some .int) :: pw) B.pre w (List.mem_cons_of_mem _ h)
  have hown : s.vm.findClass RX2 = some m.cls := findClass_of_methodNamed B.named
  have hlocks := B.notSynchronized
  subst hsz
  have hBB : 999 ≤ tm.2 ∧ tm.2 ≤ 6000000 := hI.2.2.2.2.1
  have dj_J : (∀ b, ¬ (K b = 12 ∧ (G b = 401)) → J b = J b) := fun _ _ => rfl
  have fr_I : ∀ b, ¬ (K b = 2 ∨ K b = 5 ∨ K b = 11 ∨ (K b = 3 ∧ G b / 100 = 4)) → I b = I b := fun _ _ => rfl
  obtain ⟨A, hAe⟩ : ∃ A : Nat → Prop, A = (fun q => q ∈ L ∨ s.heap.size ≤ q) := ⟨_, rfl⟩
  rw [← hAe]
  have hAL : ∀ q, q ∈ L → A q := fun q h => by rw [hAe]; exact Or.inl h
  have hA : ∀ q, s.heap.size ≤ q → A q := fun q h => by rw [hAe]; exact Or.inr h
  have hD : ∀ F, va_D A (va_pl L F) := fun F => (hD0 F).weaken (fun k q hk _ => hAL _ (pl_mem hk))
  obtain ⟨H, hHe⟩ : ∃ H : Heap, H = s.heap := ⟨_, rfl⟩
  have hS : va_S A s.heap H [] := by rw [hHe]; exact va_S.rf
  rw [← hHe] at hP
  have hl := lv_entry ([.ref p0, .ref p1]) (n := 5) (Nat.le_of_ble_eq_true rfl)
  rw [lg_entry_eq]
  generalize (lg_sl ([.ref p0, .ref p1]) ++ List.replicate (5 - (lg_sl ([.ref p0, .ref p1])).length) Slot.unset).toArray = ls at hl ⊢
  have hl : lv_has ls 5 [(0, .ref p0), (1, .ref p1)] := hl
  rw [← hHe]
  refine namedW (fun R Qz hR hQz => ?_)
  refine lv_aload_n hx hb dX2_countIslands_0 rfl (lv_at hl 0 rfl) ?_
  obtain ⟨y1, ey1, hLy1, hKy1, hGy1⟩ := oQ_2_0 (Sv_at hQ hLp0 hKp0)
  refine p_get (v := .ref y1) hx hb hts inX2 hown hK hP hLp0 hKp0 rfl rfl 0 (by decide) (hts _ pq317) (congrArg (fun q => some (va_rf q)) ey1) dX2_countIslands_1 ?_
  refine lv_aload_n hx hb dX2_countIslands_4 rfl (lv_at hl 1 rfl) ?_
  refine sw_v (Z := (fun I1 J1 => Iv L K x0 m0 tx tm I1 ∧ (∀ b, ¬ (b = y1) → I1 b = I b) ∧ (¬ p1 = y1 → ∀ k, k < 8 → ¬ k = 2 → I1 y1 k = I p1 k) ∧ (∀ k, k < 80 → J1 (wo Q y1) k = J (wo Q p1) k) ∧ (∀ b, ¬ (K b = 12 ∧ (G b = G y1)) → J1 b = J b))) (va_runV (As := [.ref p1]) (rest := []) ⟨hx, hb, hml, hown, hts⟩ (s_X3_become l dC dI cs L K G Q hQ x0 m0 tx tm H.size I J hI y1 hLy1 hKy1 p1 hLp1 hKp1) (cwV 1 hts (gV pq853 pq594 pq595 pq76 pq596) rfl rfl rfl (by decide +kernel) ⟨(by rw [hR]; exact (Nat.le_of_ble_eq_true rfl)), (by rw [hR]; exact (Nat.le_of_ble_eq_true rfl))⟩) (sP_V hP hD hK hN hLy1 hKy1 rfl rfl) rfl rfl hl.1 rfl (lv_room (Nat.le_of_ble_eq_true rfl)) dX2_countIslands_5 ⟨(by rw [hR]; exact (Nat.le_of_ble_eq_true rfl)), (by rw [hR]; exact (Nat.le_of_ble_eq_true rfl))⟩) hS hAL hA (fun Iz5 Jz5 H locs hz5 hIz5 hP hS => ?_)
  obtain ⟨hIz5, frc5, fz5, jz5, djc5⟩ := hIz5
  have dj_Jz5 : (∀ b, ¬ (K b = 12 ∧ (G b = 401)) → Jz5 b = J b) := fun b hc => (djc5 b (fun z => hc (by exact ⟨z.1, by have z2 := z.2; omega⟩))).trans (dj_J b hc)
  have fr_Iz5 : ∀ b, ¬ (K b = 2 ∨ K b = 5 ∨ K b = 11 ∨ (K b = 3 ∧ G b / 100 = 4)) → Iz5 b = I b := fun b q => (frc5 b (fun z => q (by rw [z]; have := hKy1; omega))).trans (fr_I b q)
  refine lv_iconst (v := 0) hx hb dX2_countIslands_8 (by decide +kernel) ?_
  refine lv_istore_n (lv' := [(2, .int 0), (0, .ref p0), (1, .ref p1)]) hx hb dX2_countIslands_9 rfl hl (by decide) rfl (fun ls hl => ?_)
  refine lv_iconst (v := 0) hx hb dX2_countIslands_10 (by decide +kernel) ?_
  refine lv_istore_n (lv' := [(3, .int 0), (2, .int 0), (0, .ref p0), (1, .ref p1)]) hx hb dX2_countIslands_11 rfl hl (by decide) rfl (fun ls hl => ?_)
  have key12 := blocks (fun n => ∀ (v12_2 : Int32) (v12_3 : Int32) (I12 : Nat → Nat → Int32) (J12 : Nat → Nat → Int64) (H : Heap) (lo : List Loc) (ls : Array Slot), (41 - v12_3.toInt).toNat = n → ((0) ≤ v12_3.toInt ∧ v12_3.toInt ≤ 40) → Iv L K x0 m0 tx tm I12 → (∀ b, ¬ (K b = 2 ∨ K b = 5 ∨ K b = 11 ∨ (K b = 3 ∧ G b / 100 = 4)) → I12 b = I b) → (∀ b, ¬ (K b = 12 ∧ (G b = 401)) → J12 b = J b) → (okm (I p1 0).toInt (I p1 1).toInt (J (wo Q p1)) → ¬ p1 = a0 Q p0 0 → scI (B2P (md (J (wo Q p1)))) (B2P (opn Q J12 p0)) v12_3.toInt 0 v12_2.toInt ∧ (I12 (a0 Q p0 0) 0 = I p1 0 ∧ I12 (a0 Q p0 0) 1 = I p1 1)) → va_P (dC, dI) vwCl (Wd cs L K I12 J12 Q) H → va_S A s.heap H lo → lv_has ls 5 [(0, .ref p0), (1, .ref p1), (2, .int v12_2), (3, .int v12_3)] → W p l e R s m (([.ref p0, .ref p1] : List Value).toArray) below meth c H lo 0 0 Qz (F0 m 12 ls [])) (by
    intro n ih12
    intro v12_2 v12_3 I12 J12 H lo ls hmu12 bv12_3 hI12 fr_I12 dj_J12 g12 hP hS hl
    refine lv_iload_n hx hb dX2_countIslands_12 rfl (lv_at hl 3 rfl) ?_
    refine lv_aload_n hx hb dX2_countIslands_13 rfl (lv_at hl 0 rfl) ?_
    refine p_get (v := .ref y1) hx hb hts inX2 hown hK hP hLp0 hKp0 rfl rfl 0 (by decide) (hts _ pq317) (congrArg (fun q => some (va_rf q)) ey1) dX2_countIslands_14 ?_
    refine p_get hx hb hts inX3 hown hK hP hLy1 hKy1 rfl rfl 1 (by decide) (hts _ pq121) rfl dX2_countIslands_17 ?_
    refine lv_topi (fun z17 ez17 => ?_)
    have bz17 := oI_3_1 (Iv_at hI12 hLy1 hKy1)
    rw [← ez17] at bz17
    refine lv_icmp_ge (tgt := 56) hx hb dX2_countIslands_20 (by decide) (fun c20 => ?_) (fun c20 => ?_)
    · have t20 := tq_le (k := z17.toInt) (q := v12_3.toInt) c20 rfl rfl
      refine lv_iload_n hx hb dX2_countIslands_56 rfl (lv_at hl 2 rfl) ?_
      subst hR; subst hQz
      exact W.iret (v := v12_2) hx hb hr (fun t ht hW => ⟨⟨v12_2, (), rfl, (fun ok ne => by have ye : a0 Q p0 0 = y1 := gd_of ey1; obtain ⟨S, E⟩ := g12 ok ne; have e17 : z17.toInt = (I p1 1).toInt := congrArg Int32.toInt (ez17.trans (by rw [← ye]; exact E.2)); rw [isN_end (h := (I p1 1).toInt) (y := v12_3.toInt) (fun u d => (md_B ok u d).2.2) (by omega) (by omega) (by omega)]; exact S.2), ⟨I12, J12, ⟨hI12, fr_I12, dj_J12⟩, by rw [ht]; exact hP⟩⟩, hS.F ht⟩) hS.2.2 dX2_countIslands_57
    · have t20 := tq_nle (k := z17.toInt) (q := v12_3.toInt) c20 rfl rfl
      refine lv_iconst (v := 0) hx hb dX2_countIslands_23 (by decide +kernel) ?_
      refine lv_istore (lv' := [(4, .int 0), (0, .ref p0), (1, .ref p1), (2, .int v12_2), (3, .int v12_3)]) hx hb dX2_countIslands_24 hl (by decide) rfl (fun ls hl => ?_)
      have key26 := blocks (fun n => ∀ (v26_2 : Int32) (v26_4 : Int32) (I26 : Nat → Nat → Int32) (J26 : Nat → Nat → Int64) (H : Heap) (lo : List Loc) (ls : Array Slot), (101 - v26_4.toInt).toNat = n → ((0) ≤ v26_4.toInt ∧ v26_4.toInt ≤ 100) → Iv L K x0 m0 tx tm I26 → (∀ b, ¬ (K b = 2 ∨ K b = 5 ∨ K b = 11 ∨ (K b = 3 ∧ G b / 100 = 4)) → I26 b = I b) → (∀ b, ¬ (K b = 12 ∧ (G b = 401)) → J26 b = J b) → (okm (I p1 0).toInt (I p1 1).toInt (J (wo Q p1)) → ¬ p1 = a0 Q p0 0 → (∃ x : Int, (v26_4.toInt ≤ x ∧ 0 ≤ x ∧ x ≤ 100) ∧ scI (B2P (md (J (wo Q p1)))) (B2P (opn Q J26 p0)) v12_3.toInt x v26_2.toInt) ∧ (I26 (a0 Q p0 0) 0 = I p1 0 ∧ I26 (a0 Q p0 0) 1 = I p1 1)) → va_P (dC, dI) vwCl (Wd cs L K I26 J26 Q) H → va_S A s.heap H lo → lv_has ls 5 [(0, .ref p0), (1, .ref p1), (2, .int v26_2), (3, .int v12_3), (4, .int v26_4)] → W p l e R s m (([.ref p0, .ref p1] : List Value).toArray) below meth c H lo 0 0 Qz (F0 m 26 ls [])) (by
        intro n ih26
        intro v26_2 v26_4 I26 J26 H lo ls hmu26 bv26_4 hI26 fr_I26 dj_J26 g26 hP hS hl
        refine lv_iload hx hb dX2_countIslands_26 (lv_at hl 4 rfl) ?_
        refine lv_bipush (v := 100) hx hb dX2_countIslands_28 (by decide +kernel) ?_
        have j50 : ∀ (I50 : Nat → Nat → Int32) (J50 : Nat → Nat → Int64) (H : Heap) (lo : List Loc) (ls : Array Slot), Iv L K x0 m0 tx tm I50 → (∀ b, ¬ (K b = 2 ∨ K b = 5 ∨ K b = 11 ∨ (K b = 3 ∧ G b / 100 = 4)) → I50 b = I b) → (∀ b, ¬ (K b = 12 ∧ (G b = 401)) → J50 b = J b) → (okm (I p1 0).toInt (I p1 1).toInt (J (wo Q p1)) → ¬ p1 = a0 Q p0 0 → scI (B2P (md (J (wo Q p1)))) (B2P (opn Q J50 p0)) v12_3.toInt 100 v26_2.toInt ∧ (I50 (a0 Q p0 0) 0 = I p1 0 ∧ I50 (a0 Q p0 0) 1 = I p1 1)) → va_P (dC, dI) vwCl (Wd cs L K I50 J50 Q) H → va_S A s.heap H lo → lv_has ls 5 [(0, .ref p0), (1, .ref p1), (2, .int v26_2), (3, .int v12_3), (4, .int v26_4)] → W p l e R s m (([.ref p0, .ref p1] : List Value).toArray) below meth c H lo 0 0 Qz (F0 m 50 ls []) := by
          intro I50 J50 H lo ls hI50 fr_I50 dj_J50 g50 hP hS hl
          obtain ⟨z50, ez50⟩ : ∃ y : Int32, y = v12_3 + 1 := ⟨_, rfl⟩
          refine lv_iinc (v := z50) (lv' := [(3, .int z50), (0, .ref p0), (1, .ref p1), (2, .int v26_2), (4, .int v26_4)]) hx hb dX2_countIslands_50 hl (k := 3) rfl (by rw [ez50]; rfl) (by decide) rfl (fun ls hl => ?_)
          have bz50 := tq_add (k := v12_3.toInt) (q := 1) ez50 rfl (by decide +kernel) (by omega) (by omega)
          refine lv_goto (tgt := 12) hx hb dX2_countIslands_53 (by decide) ?_
          exact ih12 _ (by omega) v26_2 z50 I50 J50 _ _ _ rfl ⟨by omega, by omega⟩ hI50 fr_I50 dj_J50 (fun ok ne => by have ye : a0 Q p0 0 = y1 := gd_of ey1; obtain ⟨S, E⟩ := g50 ok ne; exact ⟨sc_row (w := 100) S (fun u d => by have := md_R ok u d; omega) (Int.le_refl _) ⟨by decide, by decide⟩ (by omega) (by omega), E⟩) hP hS (lv_sub hl [1, 2, 3, 0] rfl)
        refine lv_icmp_ge (tgt := 50) hx hb dX2_countIslands_30 (by decide) (fun c30 => ?_) (fun c30 => ?_)
        · have t30 := tq_le (k := (100)) (q := v26_4.toInt) c30 (by decide +kernel) rfl
          exact j50 I26 J26 _ _ _ hI26 fr_I26 dj_J26 (fun ok ne => by have ye : a0 Q p0 0 = y1 := gd_of ey1; obtain ⟨⟨x, hx, S⟩, E⟩ := g26 ok ne; obtain rfl : x = 100 := (by omega); exact ⟨S, E⟩) hP hS (lv_sub hl [0, 1, 2, 3, 4] rfl)
        · have t30 := tq_nle (k := (100)) (q := v26_4.toInt) c30 (by decide +kernel) rfl
          refine lv_aload_n hx hb dX2_countIslands_33 rfl (lv_at hl 0 rfl) ?_
          refine lv_iload_n hx hb dX2_countIslands_34 rfl (lv_at hl 3 rfl) ?_
          refine sw_ir (Z := (fun u => (fun I1 J1 => Iv L K x0 m0 tx tm I1 ∧ (∀ b, ¬ (K b = 2 ∨ K b = 11) → I1 b = I26 b) ∧ (okm (I26 (a0 Q p0 0) 0).toInt (I26 (a0 Q p0 0) 1).toInt (J26 (wo Q (a0 Q p0 0))) → tiR Q I1 J26 J1 p0 v12_3.toInt u.toInt) ∧ (∀ b, ¬ (K b = 12 ∧ (G b = 401)) → J1 b = J26 b)))) (va_runV (As := [.int v12_3]) (rest := []) ⟨hx, hb, hml, hown, hts⟩ (s_X2_takeIslandOfRow l dC dI cs L K G Q hQ x0 m0 tx tm H.size I26 J26 hI26 p0 hLp0 hKp0 v12_3 ⟨by omega, by omega⟩) (cwV 1 hts (gV pq854 pq855 pq856 pq80 pq857) rfl rfl rfl (by decide +kernel) ⟨(by rw [hR]; exact (Nat.le_of_ble_eq_true rfl)), (by rw [hR]; exact (Nat.le_of_ble_eq_true rfl))⟩) (sP_V hP hD hK hN hLp0 hKp0 rfl rfl) rfl rfl hl.1 rfl (lv_room (Nat.le_of_ble_eq_true rfl)) dX2_countIslands_35 ⟨(by rw [hR]; exact (Nat.le_of_ble_eq_true rfl)), (by rw [hR]; exact (Nat.le_of_ble_eq_true rfl))⟩) hS hAL hA (fun z35 Iz35 Jz35 H locs hz35 hIz35 hP hS => ?_)
          obtain ⟨hIz35, frc35, jz35, djc35⟩ := hIz35
          have dj_Jz35 : (∀ b, ¬ (K b = 12 ∧ (G b = 401)) → Jz35 b = J b) := fun b hc => (djc35 b (fun z => hc (by exact ⟨z.1, by have z2 := z.2; omega⟩))).trans (dj_J26 b hc)
          have fr_Iz35 : ∀ b, ¬ (K b = 2 ∨ K b = 5 ∨ K b = 11 ∨ (K b = 3 ∧ G b / 100 = 4)) → Iz35 b = I b := fun b q => (frc35 b (fun z => q (by omega))).trans (fr_I26 b q)
          have bz35 := hz35
          refine lv_if_eq (tgt := 50) hx hb dX2_countIslands_38 (by decide) (fun c38 => ?_) (fun c38 => ?_)
          · have t38 := tq_eq (k := z35.toInt) (q := (0)) c38 rfl (by decide +kernel)
            exact j50 Iz35 Jz35 _ _ _ hIz35 fr_Iz35 dj_Jz35 (fun ok ne => by have ye : a0 Q p0 0 = y1 := gd_of ey1; obtain ⟨⟨x, hx, S⟩, E⟩ := g26 ok ne; have T := jz35 (by rw [E.1, E.2]; exact sc_ok S ok); have f : Iz35 (a0 Q p0 0) = I26 (a0 Q p0 0) := (by rw [ye]; exact frc35 y1 (by omega)); exact ⟨sc_no S T t38 (by omega) ⟨hx.2.1, hx.2.2⟩, by rw [f]; exact E⟩) hP hS (lv_sub hl [0, 1, 2, 3, 4] rfl)
          · have t38 := tq_ne (k := z35.toInt) (q := (0)) c38 rfl (by decide +kernel)
            obtain ⟨z41, ez41⟩ : ∃ y : Int32, y = v26_2 + 1 := ⟨_, rfl⟩
            refine lv_iinc (v := z41) (lv' := [(2, .int z41), (0, .ref p0), (1, .ref p1), (3, .int v12_3), (4, .int v26_4)]) hx hb dX2_countIslands_41 hl (k := 2) rfl (by rw [ez41]; rfl) (by decide) rfl (fun ls hl => ?_)
            obtain ⟨z44, ez44⟩ : ∃ y : Int32, y = v26_4 + 1 := ⟨_, rfl⟩
            refine lv_iinc (v := z44) (lv' := [(4, .int z44), (2, .int z41), (0, .ref p0), (1, .ref p1), (3, .int v12_3)]) hx hb dX2_countIslands_44 hl (k := 4) rfl (by rw [ez44]; rfl) (by decide) rfl (fun ls hl => ?_)
            have bz44 := tq_add (k := v26_4.toInt) (q := 1) ez44 rfl (by decide +kernel) (by omega) (by omega)
            refine lv_goto (tgt := 26) hx hb dX2_countIslands_47 (by decide) ?_
            exact ih26 _ (by omega) z41 z44 Iz35 Jz35 _ _ _ rfl ⟨by omega, by omega⟩ hIz35 fr_Iz35 dj_Jz35 (fun ok ne => by have ye : a0 Q p0 0 = y1 := gd_of ey1; obtain ⟨⟨x, hx, S⟩, E⟩ := g26 ok ne; have T := jz35 (by rw [E.1, E.2]; exact sc_ok S ok); have f : Iz35 (a0 Q p0 0) = I26 (a0 Q p0 0) := (by rw [ye]; exact frc35 y1 (by omega)); obtain ⟨⟨x1, h1, S1⟩, -⟩ := sc_yes S T t38 ok (by omega) hx; have b := sc_b S ⟨by omega, by omega⟩ ⟨by omega, by omega⟩; have am := tq_add (k := v26_2.toInt) (q := 1) ez41 rfl (by decide +kernel) (by omega) (by omega); exact ⟨⟨x1, ⟨by omega, h1.2.1, h1.2.2⟩, by rw [am]; exact S1⟩, by rw [f]; exact E⟩) hP hS (lv_sub hl [2, 3, 1, 4, 0] rfl))
      exact key26 _ v12_2 0 I12 J12 _ _ _ rfl ⟨by decide +kernel, by decide +kernel⟩ hI12 fr_I12 dj_J12 (fun ok ne => by have ye : a0 Q p0 0 = y1 := gd_of ey1; obtain ⟨S, E⟩ := g12 ok ne; rw [show (0 : Int32).toInt = 0 from by decide +kernel]; exact ⟨⟨0, ⟨by decide, by decide, by decide⟩, S⟩, E⟩) hP hS (lv_sub hl [1, 2, 3, 4, 0] rfl))
  exact key12 _ 0 0 Iz5 Jz5 _ _ _ rfl ⟨by decide +kernel, by decide +kernel⟩ hIz5 fr_Iz5 dj_Jz5 (fun ok ne => by have ye : a0 Q p0 0 = y1 := gd_of ey1; have ne1 : ¬ p1 = y1 := (by rw [← ye]; exact ne); rw [show (0 : Int32).toInt = 0 from by decide +kernel]; exact ⟨sc_0 (fun u d => by have := md_B ok u d; omega) (fun u => by unfold B2P opn; rw [ye, md_congr jz5]), (by rw [ye]; exact ⟨fz5 ne1 0 (by decide) (by decide), fz5 ne1 1 (by decide) (by decide)⟩)⟩) hP hS (lv_sub hl [2, 3, 1, 0] rfl)

set_option maxHeartbeats 4000000 in
set_option maxRecDepth 100000 in
theorem s_X2_findIsland (l : Launch) (dC : Nat → ClassId) (dI : Nat → Nat → Nat) (cs : Nat → ClassId) (L : List Nat) (K G : Nat → Nat) (Q : Nat → Nat → Option Nat) (hQ : Sv L K G Q) (x0 m0 : Nat) (tx : GT) (tm : GT × Int) (sz : Nat) (I : Nat → Nat → Int32) (J : Nat → Nat → Int64) (hI : Iv L K x0 m0 tx tm I) (p0 : Nat) (hLp0 : p0 ∈ L) (hKp0 : K p0 = 2) (p1 : Nat) (hLp1 : p1 ∈ L) (hKp1 : K p1 = 3) (p2 : Int32) : Met l yX2_findIsland (.code yX2_findIsland cX2_findIsland 6 (some .boolean) :: pw) ({ frames := 4, cells := 0, slots := 0, locals := 90 }) (sP (dC, dI) cs [.ref p0, .ref p1, .int p2] sz L K I J Q) (va_Qi (fun (r : Int32) (u : Int32) => u = r ∧ ((0) ≤ r.toInt ∧ r.toInt ≤ 1)) (fun u t => sB (dC, dI) cs L K Q (fun I1 J1 => Iv L K x0 m0 tx tm I1 ∧ (∀ b, ¬ (K b = 2 ∨ K b = 5 ∨ K b = 11 ∨ (K b = 3 ∧ G b / 100 = 4)) → I1 b = I b) ∧ (okm (I p1 0).toInt (I p1 1).toInt (J (wo Q p1)) → ¬ p1 = a0 Q p0 0 → (u.toInt = 0 → ¬ (0 ≤ p2.toInt ∧ p2.toInt < isT (B2P (md (J (wo Q p1)))))) ∧ (¬ u.toInt = 0 → ∃ p : Int × Int, fstP (B2P (md (J (wo Q p1)))) p ∧ isN (B2P (md (J (wo Q p1)))) p.2 p.1 = p2.toInt ∧ (I1 p0 3).toInt = (cntD (cpB (B2P (md (J (wo Q p1)))) p) : Int) ∧ exD (cpB (B2P (md (J (wo Q p1)))) p) ((I1 p0 4).toInt, (I1 p0 5).toInt, (I1 p0 6).toInt, (I1 p0 7).toInt))) ∧ (∀ b, ¬ (K b = 12 ∧ (G b = 401)) → J1 b = J b)) t) (fun q => q ∈ L ∨ sz ≤ q)) 0 0 (fun q => q ∈ L ∨ sz ≤ q) := by
  refine Met.ofW (cc := cX2_findIsland) (maxL := 6) (ret := (some .boolean)) (by decide +kernel) rfl ?_
  intro p e s m args below meth c s₁ B hml hv
  obtain ⟨rfl, hsz, hP, hK, hD0, hN⟩ := hv
  have hx := B.exec
  have hb := B.bytes
  have hr := B.returns
  have hts := fun w (h : w ∈ pw) => atoms_spec (ws := Cond.code yX2_findIsland cX2_findIsland 6 (some .boolean) :: pw) B.pre w (List.mem_cons_of_mem _ h)
  have hown : s.vm.findClass RX2 = some m.cls := findClass_of_methodNamed B.named
  have hlocks := B.notSynchronized
  subst hsz
  have hBB : 999 ≤ tm.2 ∧ tm.2 ≤ 6000000 := hI.2.2.2.2.1
  have dj_J : (∀ b, ¬ (K b = 12 ∧ (G b = 401)) → J b = J b) := fun _ _ => rfl
  have fr_I : ∀ b, ¬ (K b = 2 ∨ K b = 5 ∨ K b = 11 ∨ (K b = 3 ∧ G b / 100 = 4)) → I b = I b := fun _ _ => rfl
  obtain ⟨A, hAe⟩ : ∃ A : Nat → Prop, A = (fun q => q ∈ L ∨ s.heap.size ≤ q) := ⟨_, rfl⟩
  rw [← hAe]
  have hAL : ∀ q, q ∈ L → A q := fun q h => by rw [hAe]; exact Or.inl h
  have hA : ∀ q, s.heap.size ≤ q → A q := fun q h => by rw [hAe]; exact Or.inr h
  have hD : ∀ F, va_D A (va_pl L F) := fun F => (hD0 F).weaken (fun k q hk _ => hAL _ (pl_mem hk))
  obtain ⟨H, hHe⟩ : ∃ H : Heap, H = s.heap := ⟨_, rfl⟩
  have hS : va_S A s.heap H [] := by rw [hHe]; exact va_S.rf
  rw [← hHe] at hP
  have hl := lv_entry ([.ref p0, .ref p1, .int p2]) (n := 6) (Nat.le_of_ble_eq_true rfl)
  rw [lg_entry_eq]
  generalize (lg_sl ([.ref p0, .ref p1, .int p2]) ++ List.replicate (6 - (lg_sl ([.ref p0, .ref p1, .int p2])).length) Slot.unset).toArray = ls at hl ⊢
  have hl : lv_has ls 6 [(0, .ref p0), (1, .ref p1), (2, .int p2)] := hl
  rw [← hHe]
  refine namedW (fun R Qz hR hQz => ?_)
  refine lv_aload_n hx hb dX2_findIsland_0 rfl (lv_at hl 0 rfl) ?_
  obtain ⟨y1, ey1, hLy1, hKy1, hGy1⟩ := oQ_2_0 (Sv_at hQ hLp0 hKp0)
  refine p_get (v := .ref y1) hx hb hts inX2 hown hK hP hLp0 hKp0 rfl rfl 0 (by decide) (hts _ pq317) (congrArg (fun q => some (va_rf q)) ey1) dX2_findIsland_1 ?_
  refine lv_aload_n hx hb dX2_findIsland_4 rfl (lv_at hl 1 rfl) ?_
  refine sw_v (Z := (fun I1 J1 => Iv L K x0 m0 tx tm I1 ∧ (∀ b, ¬ (b = y1) → I1 b = I b) ∧ (¬ p1 = y1 → ∀ k, k < 8 → ¬ k = 2 → I1 y1 k = I p1 k) ∧ (∀ k, k < 80 → J1 (wo Q y1) k = J (wo Q p1) k) ∧ (∀ b, ¬ (K b = 12 ∧ (G b = G y1)) → J1 b = J b))) (va_runV (As := [.ref p1]) (rest := []) ⟨hx, hb, hml, hown, hts⟩ (s_X3_become l dC dI cs L K G Q hQ x0 m0 tx tm H.size I J hI y1 hLy1 hKy1 p1 hLp1 hKp1) (cwV 1 hts (gV pq853 pq594 pq595 pq76 pq596) rfl rfl rfl (by decide +kernel) ⟨(by rw [hR]; exact (Nat.le_of_ble_eq_true rfl)), (by rw [hR]; exact (Nat.le_of_ble_eq_true rfl))⟩) (sP_V hP hD hK hN hLy1 hKy1 rfl rfl) rfl rfl hl.1 rfl (lv_room (Nat.le_of_ble_eq_true rfl)) dX2_findIsland_5 ⟨(by rw [hR]; exact (Nat.le_of_ble_eq_true rfl)), (by rw [hR]; exact (Nat.le_of_ble_eq_true rfl))⟩) hS hAL hA (fun Iz5 Jz5 H locs hz5 hIz5 hP hS => ?_)
  obtain ⟨hIz5, frc5, fz5, jz5, djc5⟩ := hIz5
  have dj_Jz5 : (∀ b, ¬ (K b = 12 ∧ (G b = 401)) → Jz5 b = J b) := fun b hc => (djc5 b (fun z => hc (by exact ⟨z.1, by have z2 := z.2; omega⟩))).trans (dj_J b hc)
  have fr_Iz5 : ∀ b, ¬ (K b = 2 ∨ K b = 5 ∨ K b = 11 ∨ (K b = 3 ∧ G b / 100 = 4)) → Iz5 b = I b := fun b q => (frc5 b (fun z => q (by rw [z]; have := hKy1; omega))).trans (fr_I b q)
  refine lv_iconst (v := 0) hx hb dX2_findIsland_8 (by decide +kernel) ?_
  refine lv_istore_n (lv' := [(3, .int 0), (0, .ref p0), (1, .ref p1), (2, .int p2)]) hx hb dX2_findIsland_9 rfl hl (by decide) rfl (fun ls hl => ?_)
  refine lv_iconst (v := 0) hx hb dX2_findIsland_10 (by decide +kernel) ?_
  refine lv_istore (lv' := [(4, .int 0), (3, .int 0), (0, .ref p0), (1, .ref p1), (2, .int p2)]) hx hb dX2_findIsland_11 hl (by decide) rfl (fun ls hl => ?_)
  have key13 := blocks (fun n => ∀ (v13_3 : Int32) (v13_4 : Int32) (I13 : Nat → Nat → Int32) (J13 : Nat → Nat → Int64) (H : Heap) (lo : List Loc) (ls : Array Slot), (41 - v13_4.toInt).toNat = n → ((0) ≤ v13_4.toInt ∧ v13_4.toInt ≤ 40) → Iv L K x0 m0 tx tm I13 → (∀ b, ¬ (K b = 2 ∨ K b = 5 ∨ K b = 11 ∨ (K b = 3 ∧ G b / 100 = 4)) → I13 b = I b) → (∀ b, ¬ (K b = 12 ∧ (G b = 401)) → J13 b = J b) → (okm (I p1 0).toInt (I p1 1).toInt (J (wo Q p1)) → ¬ p1 = a0 Q p0 0 → scI (B2P (md (J (wo Q p1)))) (B2P (opn Q J13 p0)) v13_4.toInt 0 v13_3.toInt ∧ (I13 (a0 Q p0 0) 0 = I p1 0 ∧ I13 (a0 Q p0 0) 1 = I p1 1) ∧ (0 ≤ p2.toInt → v13_3.toInt ≤ p2.toInt)) → va_P (dC, dI) vwCl (Wd cs L K I13 J13 Q) H → va_S A s.heap H lo → lv_has ls 6 [(0, .ref p0), (1, .ref p1), (2, .int p2), (3, .int v13_3), (4, .int v13_4)] → W p l e R s m (([.ref p0, .ref p1, .int p2] : List Value).toArray) below meth c H lo 0 0 Qz (F0 m 13 ls [])) (by
    intro n ih13
    intro v13_3 v13_4 I13 J13 H lo ls hmu13 bv13_4 hI13 fr_I13 dj_J13 g13 hP hS hl
    refine lv_iload hx hb dX2_findIsland_13 (lv_at hl 4 rfl) ?_
    refine lv_aload_n hx hb dX2_findIsland_15 rfl (lv_at hl 0 rfl) ?_
    refine p_get (v := .ref y1) hx hb hts inX2 hown hK hP hLp0 hKp0 rfl rfl 0 (by decide) (hts _ pq317) (congrArg (fun q => some (va_rf q)) ey1) dX2_findIsland_16 ?_
    refine p_get hx hb hts inX3 hown hK hP hLy1 hKy1 rfl rfl 1 (by decide) (hts _ pq121) rfl dX2_findIsland_19 ?_
    refine lv_topi (fun z19 ez19 => ?_)
    have bz19 := oI_3_1 (Iv_at hI13 hLy1 hKy1)
    rw [← ez19] at bz19
    refine lv_icmp_ge (tgt := 66) hx hb dX2_findIsland_22 (by decide) (fun c22 => ?_) (fun c22 => ?_)
    · have t22 := tq_le (k := z19.toInt) (q := v13_4.toInt) c22 rfl rfl
      refine lv_iconst (v := 0) hx hb dX2_findIsland_66 (by decide +kernel) ?_
      subst hR; subst hQz
      exact W.zret (v := 0) hx hb hr (by decide +kernel) (fun t ht hW => ⟨⟨0, 0, rfl, ⟨rfl, ⟨by decide +kernel, by decide +kernel⟩⟩, ⟨I13, J13, ⟨hI13, fr_I13, (fun ok ne => by have ye : a0 Q p0 0 = y1 := gd_of ey1; obtain ⟨S, E, L_⟩ := g13 ok ne; have e19 : z19.toInt = (I p1 1).toInt := congrArg Int32.toInt (ez19.trans (by rw [← ye]; exact E.2)); refine ⟨fun _ q => ?_, fun q => absurd (by decide +kernel) q⟩; rw [isN_end (h := (I p1 1).toInt) (y := v13_4.toInt) (fun u d => (md_B ok u d).2.2) (by omega) (by omega) (by omega), ← S.2] at q; have := L_ q.1; omega), dj_J13⟩, by rw [ht]; exact hP⟩⟩, hS.F ht⟩) hS.2.2 dX2_findIsland_67
    · have t22 := tq_nle (k := z19.toInt) (q := v13_4.toInt) c22 rfl rfl
      refine lv_iconst (v := 0) hx hb dX2_findIsland_25 (by decide +kernel) ?_
      refine lv_istore (lv' := [(5, .int 0), (0, .ref p0), (1, .ref p1), (2, .int p2), (3, .int v13_3), (4, .int v13_4)]) hx hb dX2_findIsland_26 hl (by decide) rfl (fun ls hl => ?_)
      have key28 := blocks (fun n => ∀ (v28_3 : Int32) (v28_5 : Int32) (I28 : Nat → Nat → Int32) (J28 : Nat → Nat → Int64) (H : Heap) (lo : List Loc) (ls : Array Slot), (101 - v28_5.toInt).toNat = n → ((0) ≤ v28_5.toInt ∧ v28_5.toInt ≤ 100) → Iv L K x0 m0 tx tm I28 → (∀ b, ¬ (K b = 2 ∨ K b = 5 ∨ K b = 11 ∨ (K b = 3 ∧ G b / 100 = 4)) → I28 b = I b) → (∀ b, ¬ (K b = 12 ∧ (G b = 401)) → J28 b = J b) → (okm (I p1 0).toInt (I p1 1).toInt (J (wo Q p1)) → ¬ p1 = a0 Q p0 0 → (∃ x : Int, (v28_5.toInt ≤ x ∧ 0 ≤ x ∧ x ≤ 100) ∧ scI (B2P (md (J (wo Q p1)))) (B2P (opn Q J28 p0)) v13_4.toInt x v28_3.toInt) ∧ (I28 (a0 Q p0 0) 0 = I p1 0 ∧ I28 (a0 Q p0 0) 1 = I p1 1) ∧ (0 ≤ p2.toInt → v28_3.toInt ≤ p2.toInt)) → va_P (dC, dI) vwCl (Wd cs L K I28 J28 Q) H → va_S A s.heap H lo → lv_has ls 6 [(0, .ref p0), (1, .ref p1), (2, .int p2), (3, .int v28_3), (4, .int v13_4), (5, .int v28_5)] → W p l e R s m (([.ref p0, .ref p1, .int p2] : List Value).toArray) below meth c H lo 0 0 Qz (F0 m 28 ls [])) (by
        intro n ih28
        intro v28_3 v28_5 I28 J28 H lo ls hmu28 bv28_5 hI28 fr_I28 dj_J28 g28 hP hS hl
        refine lv_iload hx hb dX2_findIsland_28 (lv_at hl 5 rfl) ?_
        refine lv_bipush (v := 100) hx hb dX2_findIsland_30 (by decide +kernel) ?_
        have j60 : ∀ (I60 : Nat → Nat → Int32) (J60 : Nat → Nat → Int64) (H : Heap) (lo : List Loc) (ls : Array Slot), Iv L K x0 m0 tx tm I60 → (∀ b, ¬ (K b = 2 ∨ K b = 5 ∨ K b = 11 ∨ (K b = 3 ∧ G b / 100 = 4)) → I60 b = I b) → (∀ b, ¬ (K b = 12 ∧ (G b = 401)) → J60 b = J b) → (okm (I p1 0).toInt (I p1 1).toInt (J (wo Q p1)) → ¬ p1 = a0 Q p0 0 → scI (B2P (md (J (wo Q p1)))) (B2P (opn Q J60 p0)) v13_4.toInt 100 v28_3.toInt ∧ (I60 (a0 Q p0 0) 0 = I p1 0 ∧ I60 (a0 Q p0 0) 1 = I p1 1) ∧ (0 ≤ p2.toInt → v28_3.toInt ≤ p2.toInt)) → va_P (dC, dI) vwCl (Wd cs L K I60 J60 Q) H → va_S A s.heap H lo → lv_has ls 6 [(0, .ref p0), (1, .ref p1), (2, .int p2), (3, .int v28_3), (4, .int v13_4), (5, .int v28_5)] → W p l e R s m (([.ref p0, .ref p1, .int p2] : List Value).toArray) below meth c H lo 0 0 Qz (F0 m 60 ls []) := by
          intro I60 J60 H lo ls hI60 fr_I60 dj_J60 g60 hP hS hl
          obtain ⟨z60, ez60⟩ : ∃ y : Int32, y = v13_4 + 1 := ⟨_, rfl⟩
          refine lv_iinc (v := z60) (lv' := [(4, .int z60), (0, .ref p0), (1, .ref p1), (2, .int p2), (3, .int v28_3), (5, .int v28_5)]) hx hb dX2_findIsland_60 hl (k := 4) rfl (by rw [ez60]; rfl) (by decide) rfl (fun ls hl => ?_)
          have bz60 := tq_add (k := v13_4.toInt) (q := 1) ez60 rfl (by decide +kernel) (by omega) (by omega)
          refine lv_goto (tgt := 13) hx hb dX2_findIsland_63 (by decide) ?_
          exact ih13 _ (by omega) v28_3 z60 I60 J60 _ _ _ rfl ⟨by omega, by omega⟩ hI60 fr_I60 dj_J60 (fun ok ne => by have ye : a0 Q p0 0 = y1 := gd_of ey1; obtain ⟨S, E, L_⟩ := g60 ok ne; exact ⟨sc_row (w := 100) S (fun u d => by have := md_R ok u d; omega) (Int.le_refl _) ⟨by decide, by decide⟩ (by omega) (by omega), E, L_⟩) hP hS (lv_sub hl [1, 2, 3, 4, 0] rfl)
        refine lv_icmp_ge (tgt := 60) hx hb dX2_findIsland_32 (by decide) (fun c32 => ?_) (fun c32 => ?_)
        · have t32 := tq_le (k := (100)) (q := v28_5.toInt) c32 (by decide +kernel) rfl
          exact j60 I28 J28 _ _ _ hI28 fr_I28 dj_J28 (fun ok ne => by have ye : a0 Q p0 0 = y1 := gd_of ey1; obtain ⟨⟨x, hx, S⟩, E, L_⟩ := g28 ok ne; obtain rfl : x = 100 := (by omega); exact ⟨S, E, L_⟩) hP hS (lv_sub hl [0, 1, 2, 3, 4, 5] rfl)
        · have t32 := tq_nle (k := (100)) (q := v28_5.toInt) c32 (by decide +kernel) rfl
          refine lv_aload_n hx hb dX2_findIsland_35 rfl (lv_at hl 0 rfl) ?_
          refine lv_iload hx hb dX2_findIsland_36 (lv_at hl 4 rfl) ?_
          refine sw_ir (Z := (fun u => (fun I1 J1 => Iv L K x0 m0 tx tm I1 ∧ (∀ b, ¬ (K b = 2 ∨ K b = 11) → I1 b = I28 b) ∧ (okm (I28 (a0 Q p0 0) 0).toInt (I28 (a0 Q p0 0) 1).toInt (J28 (wo Q (a0 Q p0 0))) → tiR Q I1 J28 J1 p0 v13_4.toInt u.toInt) ∧ (∀ b, ¬ (K b = 12 ∧ (G b = 401)) → J1 b = J28 b)))) (va_runV (As := [.int v13_4]) (rest := []) ⟨hx, hb, hml, hown, hts⟩ (s_X2_takeIslandOfRow l dC dI cs L K G Q hQ x0 m0 tx tm H.size I28 J28 hI28 p0 hLp0 hKp0 v13_4 ⟨by omega, by omega⟩) (cwV 1 hts (gV pq854 pq855 pq856 pq80 pq857) rfl rfl rfl (by decide +kernel) ⟨(by rw [hR]; exact (Nat.le_of_ble_eq_true rfl)), (by rw [hR]; exact (Nat.le_of_ble_eq_true rfl))⟩) (sP_V hP hD hK hN hLp0 hKp0 rfl rfl) rfl rfl hl.1 rfl (lv_room (Nat.le_of_ble_eq_true rfl)) dX2_findIsland_38 ⟨(by rw [hR]; exact (Nat.le_of_ble_eq_true rfl)), (by rw [hR]; exact (Nat.le_of_ble_eq_true rfl))⟩) hS hAL hA (fun z38 Iz38 Jz38 H locs hz38 hIz38 hP hS => ?_)
          obtain ⟨hIz38, frc38, jz38, djc38⟩ := hIz38
          have dj_Jz38 : (∀ b, ¬ (K b = 12 ∧ (G b = 401)) → Jz38 b = J b) := fun b hc => (djc38 b (fun z => hc (by exact ⟨z.1, by have z2 := z.2; omega⟩))).trans (dj_J28 b hc)
          have fr_Iz38 : ∀ b, ¬ (K b = 2 ∨ K b = 5 ∨ K b = 11 ∨ (K b = 3 ∧ G b / 100 = 4)) → Iz38 b = I b := fun b q => (frc38 b (fun z => q (by omega))).trans (fr_I28 b q)
          have bz38 := hz38
          refine lv_if_eq (tgt := 60) hx hb dX2_findIsland_41 (by decide) (fun c41 => ?_) (fun c41 => ?_)
          · have t41 := tq_eq (k := z38.toInt) (q := (0)) c41 rfl (by decide +kernel)
            exact j60 Iz38 Jz38 _ _ _ hIz38 fr_Iz38 dj_Jz38 (fun ok ne => by have ye : a0 Q p0 0 = y1 := gd_of ey1; obtain ⟨⟨x, hx, S⟩, E, L_⟩ := g28 ok ne; have T := jz38 (by rw [E.1, E.2]; exact sc_ok S ok); have f : Iz38 (a0 Q p0 0) = I28 (a0 Q p0 0) := (by rw [ye]; exact frc38 y1 (by omega)); exact ⟨sc_no S T t41 (by omega) ⟨hx.2.1, hx.2.2⟩, by rw [f]; exact E, L_⟩) hP hS (lv_sub hl [0, 1, 2, 3, 4, 5] rfl)
          · have t41 := tq_ne (k := z38.toInt) (q := (0)) c41 rfl (by decide +kernel)
            refine lv_iload_n hx hb dX2_findIsland_44 rfl (lv_at hl 3 rfl) ?_
            refine lv_iload_n hx hb dX2_findIsland_45 rfl (lv_at hl 2 rfl) ?_
            refine lv_icmp_ne (tgt := 51) hx hb dX2_findIsland_46 (by decide) (fun c46 => ?_) (fun c46 => ?_)
            · have t46 := tq_ne (k := v28_3.toInt) (q := p2.toInt) c46 rfl rfl
              obtain ⟨z51, ez51⟩ : ∃ y : Int32, y = v28_3 + 1 := ⟨_, rfl⟩
              refine lv_iinc (v := z51) (lv' := [(3, .int z51), (0, .ref p0), (1, .ref p1), (2, .int p2), (4, .int v13_4), (5, .int v28_5)]) hx hb dX2_findIsland_51 hl (k := 3) rfl (by rw [ez51]; rfl) (by decide) rfl (fun ls hl => ?_)
              obtain ⟨z54, ez54⟩ : ∃ y : Int32, y = v28_5 + 1 := ⟨_, rfl⟩
              refine lv_iinc (v := z54) (lv' := [(5, .int z54), (3, .int z51), (0, .ref p0), (1, .ref p1), (2, .int p2), (4, .int v13_4)]) hx hb dX2_findIsland_54 hl (k := 5) rfl (by rw [ez54]; rfl) (by decide) rfl (fun ls hl => ?_)
              have bz54 := tq_add (k := v28_5.toInt) (q := 1) ez54 rfl (by decide +kernel) (by omega) (by omega)
              refine lv_goto (tgt := 28) hx hb dX2_findIsland_57 (by decide) ?_
              exact ih28 _ (by omega) z51 z54 Iz38 Jz38 _ _ _ rfl ⟨by omega, by omega⟩ hIz38 fr_Iz38 dj_Jz38 (fun ok ne => by have ye : a0 Q p0 0 = y1 := gd_of ey1; obtain ⟨⟨x, hx, S⟩, E, L_⟩ := g28 ok ne; have T := jz38 (by rw [E.1, E.2]; exact sc_ok S ok); have f : Iz38 (a0 Q p0 0) = I28 (a0 Q p0 0) := (by rw [ye]; exact frc38 y1 (by omega)); obtain ⟨⟨x1, h1, S1⟩, -⟩ := sc_yes S T t41 ok (by omega) hx; have b := sc_b S ⟨by omega, by omega⟩ ⟨by omega, by omega⟩; have am := tq_add (k := v28_3.toInt) (q := 1) ez51 rfl (by decide +kernel) (by omega) (by omega); exact ⟨⟨x1, ⟨by omega, h1.2.1, h1.2.2⟩, by rw [am]; exact S1⟩, by rw [f]; exact E, fun q => by have := L_ q; omega⟩) hP hS (lv_sub hl [2, 3, 4, 1, 5, 0] rfl)
            · have t46 := tq_eq (k := v28_3.toInt) (q := p2.toInt) c46 rfl rfl
              refine lv_iconst (v := 1) hx hb dX2_findIsland_49 (by decide +kernel) ?_
              subst hR; subst hQz
              exact W.zret (v := 1) hx hb hr (by decide +kernel) (fun t ht hW => ⟨⟨1, 1, rfl, ⟨rfl, ⟨by decide +kernel, by decide +kernel⟩⟩, ⟨Iz38, Jz38, ⟨hIz38, fr_Iz38, (fun ok ne => by have ye : a0 Q p0 0 = y1 := gd_of ey1; obtain ⟨⟨x, hx, S⟩, E, L_⟩ := g28 ok ne; have T := jz38 (by rw [E.1, E.2]; exact sc_ok S ok); obtain ⟨-, p, f1, f2, f3, f4⟩ := sc_yes S T t41 ok (by omega) hx; exact ⟨fun q => absurd q (by decide +kernel), fun _ => ⟨p, f1, f2.trans t46, f3, f4⟩⟩), dj_Jz38⟩, by rw [ht]; exact hP⟩⟩, hS.F ht⟩) hS.2.2 dX2_findIsland_50)
      exact key28 _ v13_3 0 I13 J13 _ _ _ rfl ⟨by decide +kernel, by decide +kernel⟩ hI13 fr_I13 dj_J13 (fun ok ne => by have ye : a0 Q p0 0 = y1 := gd_of ey1; obtain ⟨S, E, L_⟩ := g13 ok ne; rw [show (0 : Int32).toInt = 0 from by decide +kernel]; exact ⟨⟨0, ⟨by decide, by decide, by decide⟩, S⟩, E, L_⟩) hP hS (lv_sub hl [1, 2, 3, 4, 5, 0] rfl))
  exact key13 _ 0 0 Iz5 Jz5 _ _ _ rfl ⟨by decide +kernel, by decide +kernel⟩ hIz5 fr_Iz5 dj_Jz5 (fun ok ne => by have ye : a0 Q p0 0 = y1 := gd_of ey1; have ne1 : ¬ p1 = y1 := (by rw [← ye]; exact ne); rw [show (0 : Int32).toInt = 0 from by decide +kernel]; exact ⟨sc_0 (fun u d => by have := md_B ok u d; omega) (fun u => by unfold B2P opn; rw [ye, md_congr jz5]), (by rw [ye]; exact ⟨fz5 ne1 0 (by decide) (by decide), fz5 ne1 1 (by decide) (by decide)⟩), fun q => q⟩) hP hS (lv_sub hl [2, 3, 4, 1, 0] rfl)

set_option maxHeartbeats 4000000 in
set_option maxRecDepth 100000 in
theorem s_X2_countHoles (l : Launch) (dC : Nat → ClassId) (dI : Nat → Nat → Nat) (cs : Nat → ClassId) (L : List Nat) (K G : Nat → Nat) (Q : Nat → Nat → Option Nat) (hQ : Sv L K G Q) (x0 m0 : Nat) (tx : GT) (tm : GT × Int) (sz : Nat) (I : Nat → Nat → Int32) (J : Nat → Nat → Int64) (hI : Iv L K x0 m0 tx tm I) (p0 : Nat) (hLp0 : p0 ∈ L) (hKp0 : K p0 = 2) (p1 : Nat) (hLp1 : p1 ∈ L) (hKp1 : K p1 = 3) : Met l yX2_countHoles (.code yX2_countHoles cX2_countHoles 5 (some .int) :: pw) ({ frames := 4, cells := 0, slots := 0, locals := 90 }) (sP (dC, dI) cs [.ref p0, .ref p1] sz L K I J Q) (va_Qi (fun (r : Int32) (_ : Unit) => (okm (I p1 0).toInt (I p1 1).toInt (J (wo Q p1)) → ¬ G p1 / 100 = 4 → r.toInt = hoN (B2P (dsD (I p1 0).toInt (I p1 1).toInt (J (wo Q p1)) 0)) (I p1 0).toInt (I p1 1).toInt 40 0)) (fun _ t => sB (dC, dI) cs L K Q (fun I1 J1 => Iv L K x0 m0 tx tm I1 ∧ (∀ b, ¬ (K b = 2 ∨ K b = 5 ∨ K b = 11 ∨ (K b = 3 ∧ G b / 100 = 4)) → I1 b = I b) ∧ (∀ b, ¬ (K b = 12 ∧ (G b = 401)) → J1 b = J b)) t) (fun q => q ∈ L ∨ sz ≤ q)) 0 0 (fun q => q ∈ L ∨ sz ≤ q) := by
  refine Met.ofW (cc := cX2_countHoles) (maxL := 5) (ret := (some .int)) (by decide +kernel) rfl ?_
  intro p e s m args below meth c s₁ B hml hv
  obtain ⟨rfl, hsz, hP, hK, hD0, hN⟩ := hv
  have hx := B.exec
  have hb := B.bytes
  have hr := B.returns
  have hts := fun w (h : w ∈ pw) => atoms_spec (ws := Cond.code yX2_countHoles cX2_countHoles 5 (some .int) :: pw) B.pre w (List.mem_cons_of_mem _ h)
  have hown : s.vm.findClass RX2 = some m.cls := findClass_of_methodNamed B.named
  have hlocks := B.notSynchronized
  subst hsz
  have hBB : 999 ≤ tm.2 ∧ tm.2 ≤ 6000000 := hI.2.2.2.2.1
  have dj_J : (∀ b, ¬ (K b = 12 ∧ (G b = 401)) → J b = J b) := fun _ _ => rfl
  have fr_I : ∀ b, ¬ (K b = 2 ∨ K b = 5 ∨ K b = 11 ∨ (K b = 3 ∧ G b / 100 = 4)) → I b = I b := fun _ _ => rfl
  obtain ⟨A, hAe⟩ : ∃ A : Nat → Prop, A = (fun q => q ∈ L ∨ s.heap.size ≤ q) := ⟨_, rfl⟩
  rw [← hAe]
  have hAL : ∀ q, q ∈ L → A q := fun q h => by rw [hAe]; exact Or.inl h
  have hA : ∀ q, s.heap.size ≤ q → A q := fun q h => by rw [hAe]; exact Or.inr h
  have hD : ∀ F, va_D A (va_pl L F) := fun F => (hD0 F).weaken (fun k q hk _ => hAL _ (pl_mem hk))
  obtain ⟨H, hHe⟩ : ∃ H : Heap, H = s.heap := ⟨_, rfl⟩
  have hS : va_S A s.heap H [] := by rw [hHe]; exact va_S.rf
  rw [← hHe] at hP
  have hl := lv_entry ([.ref p0, .ref p1]) (n := 5) (Nat.le_of_ble_eq_true rfl)
  rw [lg_entry_eq]
  generalize (lg_sl ([.ref p0, .ref p1]) ++ List.replicate (5 - (lg_sl ([.ref p0, .ref p1])).length) Slot.unset).toArray = ls at hl ⊢
  have hl : lv_has ls 5 [(0, .ref p0), (1, .ref p1)] := hl
  rw [← hHe]
  refine namedW (fun R Qz hR hQz => ?_)
  refine lv_aload_n hx hb dX2_countHoles_0 rfl (lv_at hl 0 rfl) ?_
  obtain ⟨y1, ey1, hLy1, hKy1, hGy1⟩ := oQ_2_0 (Sv_at hQ hLp0 hKp0)
  refine p_get (v := .ref y1) hx hb hts inX2 hown hK hP hLp0 hKp0 rfl rfl 0 (by decide) (hts _ pq317) (congrArg (fun q => some (va_rf q)) ey1) dX2_countHoles_1 ?_
  refine lv_aload_n hx hb dX2_countHoles_4 rfl (lv_at hl 1 rfl) ?_
  refine sw_v (Z := (fun I1 J1 => Iv L K x0 m0 tx tm I1 ∧ (∀ b, ¬ (b = y1) → I1 b = I b) ∧ (¬ p1 = y1 → ∀ k, k < 8 → ¬ k = 2 → I1 y1 k = I p1 k) ∧ (∀ k, k < 80 → J1 (wo Q y1) k = J (wo Q p1) k) ∧ (∀ b, ¬ (K b = 12 ∧ (G b = G y1)) → J1 b = J b))) (va_runV (As := [.ref p1]) (rest := []) ⟨hx, hb, hml, hown, hts⟩ (s_X3_become l dC dI cs L K G Q hQ x0 m0 tx tm H.size I J hI y1 hLy1 hKy1 p1 hLp1 hKp1) (cwV 1 hts (gV pq853 pq594 pq595 pq76 pq596) rfl rfl rfl (by decide +kernel) ⟨(by rw [hR]; exact (Nat.le_of_ble_eq_true rfl)), (by rw [hR]; exact (Nat.le_of_ble_eq_true rfl))⟩) (sP_V hP hD hK hN hLy1 hKy1 rfl rfl) rfl rfl hl.1 rfl (lv_room (Nat.le_of_ble_eq_true rfl)) dX2_countHoles_5 ⟨(by rw [hR]; exact (Nat.le_of_ble_eq_true rfl)), (by rw [hR]; exact (Nat.le_of_ble_eq_true rfl))⟩) hS hAL hA (fun Iz5 Jz5 H locs hz5 hIz5 hP hS => ?_)
  obtain ⟨hIz5, frc5, fz5, jz5, djc5⟩ := hIz5
  have dj_Jz5 : (∀ b, ¬ (K b = 12 ∧ (G b = 401)) → Jz5 b = J b) := fun b hc => (djc5 b (fun z => hc (by exact ⟨z.1, by have z2 := z.2; omega⟩))).trans (dj_J b hc)
  have fr_Iz5 : ∀ b, ¬ (K b = 2 ∨ K b = 5 ∨ K b = 11 ∨ (K b = 3 ∧ G b / 100 = 4)) → Iz5 b = I b := fun b q => (frc5 b (fun z => q (by rw [z]; have := hKy1; omega))).trans (fr_I b q)
  refine lv_iconst (v := 0) hx hb dX2_countHoles_8 (by decide +kernel) ?_
  refine lv_istore_n (lv' := [(2, .int 0), (0, .ref p0), (1, .ref p1)]) hx hb dX2_countHoles_9 rfl hl (by decide) rfl (fun ls hl => ?_)
  have key10 := blocks (fun n => ∀ (v10_2 : Int32) (J10 : Nat → Nat → Int64) (H : Heap) (lo : List Loc) (ls : Array Slot), (41 - v10_2.toInt).toNat = n → ((0) ≤ v10_2.toInt ∧ v10_2.toInt ≤ 40) → (∀ b, ¬ (K b = 12 ∧ (G b = 401)) → J10 b = J b) → (okm (I p1 0).toInt (I p1 1).toInt (J (wo Q p1)) → ¬ G p1 / 100 = 4 → rwh (J10 (wo Q (a0 Q p0 0))) (dsD (I p1 0).toInt (I p1 1).toInt (J (wo Q p1)) 0) (J (wo Q p1)) v10_2.toInt) → va_P (dC, dI) vwCl (Wd cs L K Iz5 J10 Q) H → va_S A s.heap H lo → lv_has ls 5 [(0, .ref p0), (1, .ref p1), (2, .int v10_2)] → W p l e R s m (([.ref p0, .ref p1] : List Value).toArray) below meth c H lo 0 0 Qz (F0 m 10 ls [])) (by
    intro n ih10
    intro v10_2 J10 H lo ls hmu10 bv10_2 dj_J10 g10 hP hS hl
    refine lv_iload_n hx hb dX2_countHoles_10 rfl (lv_at hl 2 rfl) ?_
    refine lv_aload_n hx hb dX2_countHoles_11 rfl (lv_at hl 0 rfl) ?_
    refine p_get (v := .ref y1) hx hb hts inX2 hown hK hP hLp0 hKp0 rfl rfl 0 (by decide) (hts _ pq317) (congrArg (fun q => some (va_rf q)) ey1) dX2_countHoles_12 ?_
    refine p_get hx hb hts inX3 hown hK hP hLy1 hKy1 rfl rfl 1 (by decide) (hts _ pq121) rfl dX2_countHoles_15 ?_
    refine lv_topi (fun z15 ez15 => ?_)
    have bz15 := oI_3_1 (Iv_at hIz5 hLy1 hKy1)
    rw [← ez15] at bz15
    refine lv_icmp_ge (tgt := 93) hx hb dX2_countHoles_18 (by decide) (fun c18 => ?_) (fun c18 => ?_)
    · have t18 := tq_le (k := z15.toInt) (q := v10_2.toInt) c18 rfl rfl
      refine lv_iconst (v := 0) hx hb dX2_countHoles_93 (by decide +kernel) ?_
      refine lv_istore_n (lv' := [(2, .int 0), (0, .ref p0), (1, .ref p1)]) hx hb dX2_countHoles_94 rfl hl (by decide) rfl (fun ls hl => ?_)
      refine lv_iconst (v := 0) hx hb dX2_countHoles_95 (by decide +kernel) ?_
      refine lv_istore_n (lv' := [(3, .int 0), (2, .int 0), (0, .ref p0), (1, .ref p1)]) hx hb dX2_countHoles_96 rfl hl (by decide) rfl (fun ls hl => ?_)
      have key97 := blocks (fun n => ∀ (v97_2 : Int32) (v97_3 : Int32) (I97 : Nat → Nat → Int32) (J97 : Nat → Nat → Int64) (H : Heap) (lo : List Loc) (ls : Array Slot), (41 - v97_3.toInt).toNat = n → ((0) ≤ v97_3.toInt ∧ v97_3.toInt ≤ 40) → Iv L K x0 m0 tx tm I97 → (∀ b, ¬ (K b = 2 ∨ K b = 5 ∨ K b = 11 ∨ (K b = 3 ∧ G b / 100 = 4)) → I97 b = I b) → (∀ b, ¬ (K b = 12 ∧ (G b = 401)) → J97 b = J b) → (okm (I p1 0).toInt (I p1 1).toInt (J (wo Q p1)) → ¬ G p1 / 100 = 4 → scI (B2P (dsD (I p1 0).toInt (I p1 1).toInt (J (wo Q p1)) 0)) (B2P (opn Q J97 p0)) v97_3.toInt 0 (isN (B2P (dsD (I p1 0).toInt (I p1 1).toInt (J (wo Q p1)) 0)) v97_3.toInt 0) ∧ v97_2.toInt = hoN (B2P (dsD (I p1 0).toInt (I p1 1).toInt (J (wo Q p1)) 0)) (I p1 0).toInt (I p1 1).toInt v97_3.toInt 0 ∧ (I97 (a0 Q p0 0) 0 = I p1 0 ∧ I97 (a0 Q p0 0) 1 = I p1 1)) → va_P (dC, dI) vwCl (Wd cs L K I97 J97 Q) H → va_S A s.heap H lo → lv_has ls 5 [(0, .ref p0), (1, .ref p1), (2, .int v97_2), (3, .int v97_3)] → W p l e R s m (([.ref p0, .ref p1] : List Value).toArray) below meth c H lo 0 0 Qz (F0 m 97 ls [])) (by
        intro n ih97
        intro v97_2 v97_3 I97 J97 H lo ls hmu97 bv97_3 hI97 fr_I97 dj_J97 g97 hP hS hl
        refine lv_iload_n hx hb dX2_countHoles_97 rfl (lv_at hl 3 rfl) ?_
        refine lv_aload_n hx hb dX2_countHoles_98 rfl (lv_at hl 0 rfl) ?_
        refine p_get (v := .ref y1) hx hb hts inX2 hown hK hP hLp0 hKp0 rfl rfl 0 (by decide) (hts _ pq317) (congrArg (fun q => some (va_rf q)) ey1) dX2_countHoles_99 ?_
        refine p_get hx hb hts inX3 hown hK hP hLy1 hKy1 rfl rfl 1 (by decide) (hts _ pq121) rfl dX2_countHoles_102 ?_
        refine lv_topi (fun z102 ez102 => ?_)
        have bz102 := oI_3_1 (Iv_at hI97 hLy1 hKy1)
        rw [← ez102] at bz102
        refine lv_icmp_ge (tgt := 181) hx hb dX2_countHoles_105 (by decide) (fun c105 => ?_) (fun c105 => ?_)
        · have t105 := tq_le (k := z102.toInt) (q := v97_3.toInt) c105 rfl rfl
          refine lv_iload_n hx hb dX2_countHoles_181 rfl (lv_at hl 2 rfl) ?_
          subst hR; subst hQz
          exact W.iret (v := v97_2) hx hb hr (fun t ht hW => ⟨⟨v97_2, (), rfl, (fun ok ne => by have ye : a0 Q p0 0 = y1 := gd_of ey1; have ne1 : ¬ p1 = y1 := (fun e => ne (by rw [e]; omega)); have o1 := ok.1; have o2 := ok.2.1; have rg : rgD (dsD (I p1 0).toInt (I p1 1).toInt (J (wo Q p1)) 0) := (fun X Y q => by have := (dsD_t.mp q).1; omega); obtain ⟨S, N, E⟩ := g97 ok ne; have e102 : z102.toInt = (I p1 1).toInt := congrArg Int32.toInt (ez102.trans (by rw [← ye]; exact E.2)); exact N.trans (hoN_end (H := (I p1 1).toInt) (y := v97_3.toInt) (fun u d => (dsD_t.mp d).1.2.2) (by omega) (by omega) (by omega)).symm), ⟨I97, J97, ⟨hI97, fr_I97, dj_J97⟩, by rw [ht]; exact hP⟩⟩, hS.F ht⟩) hS.2.2 dX2_countHoles_182
        · have t105 := tq_nle (k := z102.toInt) (q := v97_3.toInt) c105 rfl rfl
          refine lv_iconst (v := 0) hx hb dX2_countHoles_108 (by decide +kernel) ?_
          refine lv_istore (lv' := [(4, .int 0), (0, .ref p0), (1, .ref p1), (2, .int v97_2), (3, .int v97_3)]) hx hb dX2_countHoles_109 hl (by decide) rfl (fun ls hl => ?_)
          have key111 := blocks (fun n => ∀ (v111_2 : Int32) (v111_4 : Int32) (I111 : Nat → Nat → Int32) (J111 : Nat → Nat → Int64) (H : Heap) (lo : List Loc) (ls : Array Slot), (101 - v111_4.toInt).toNat = n → ((0) ≤ v111_4.toInt ∧ v111_4.toInt ≤ 100) → Iv L K x0 m0 tx tm I111 → (∀ b, ¬ (K b = 2 ∨ K b = 5 ∨ K b = 11 ∨ (K b = 3 ∧ G b / 100 = 4)) → I111 b = I b) → (∀ b, ¬ (K b = 12 ∧ (G b = 401)) → J111 b = J b) → (okm (I p1 0).toInt (I p1 1).toInt (J (wo Q p1)) → ¬ G p1 / 100 = 4 → (∃ x : Int, (v111_4.toInt ≤ x ∧ 0 ≤ x ∧ x ≤ 100) ∧ scI (B2P (dsD (I p1 0).toInt (I p1 1).toInt (J (wo Q p1)) 0)) (B2P (opn Q J111 p0)) v97_3.toInt x (isN (B2P (dsD (I p1 0).toInt (I p1 1).toInt (J (wo Q p1)) 0)) v97_3.toInt x) ∧ v111_2.toInt = hoN (B2P (dsD (I p1 0).toInt (I p1 1).toInt (J (wo Q p1)) 0)) (I p1 0).toInt (I p1 1).toInt v97_3.toInt x) ∧ (I111 (a0 Q p0 0) 0 = I p1 0 ∧ I111 (a0 Q p0 0) 1 = I p1 1)) → va_P (dC, dI) vwCl (Wd cs L K I111 J111 Q) H → va_S A s.heap H lo → lv_has ls 5 [(0, .ref p0), (1, .ref p1), (2, .int v111_2), (3, .int v97_3), (4, .int v111_4)] → W p l e R s m (([.ref p0, .ref p1] : List Value).toArray) below meth c H lo 0 0 Qz (F0 m 111 ls [])) (by
            intro n ih111
            intro v111_2 v111_4 I111 J111 H lo ls hmu111 bv111_4 hI111 fr_I111 dj_J111 g111 hP hS hl
            refine lv_iload hx hb dX2_countHoles_111 (lv_at hl 4 rfl) ?_
            refine lv_bipush (v := 100) hx hb dX2_countHoles_113 (by decide +kernel) ?_
            have j175 : ∀ (I175 : Nat → Nat → Int32) (J175 : Nat → Nat → Int64) (H : Heap) (lo : List Loc) (ls : Array Slot), Iv L K x0 m0 tx tm I175 → (∀ b, ¬ (K b = 2 ∨ K b = 5 ∨ K b = 11 ∨ (K b = 3 ∧ G b / 100 = 4)) → I175 b = I b) → (∀ b, ¬ (K b = 12 ∧ (G b = 401)) → J175 b = J b) → (okm (I p1 0).toInt (I p1 1).toInt (J (wo Q p1)) → ¬ G p1 / 100 = 4 → scI (B2P (dsD (I p1 0).toInt (I p1 1).toInt (J (wo Q p1)) 0)) (B2P (opn Q J175 p0)) v97_3.toInt 100 (isN (B2P (dsD (I p1 0).toInt (I p1 1).toInt (J (wo Q p1)) 0)) v97_3.toInt 100) ∧ v111_2.toInt = hoN (B2P (dsD (I p1 0).toInt (I p1 1).toInt (J (wo Q p1)) 0)) (I p1 0).toInt (I p1 1).toInt v97_3.toInt 100 ∧ (I175 (a0 Q p0 0) 0 = I p1 0 ∧ I175 (a0 Q p0 0) 1 = I p1 1)) → va_P (dC, dI) vwCl (Wd cs L K I175 J175 Q) H → va_S A s.heap H lo → lv_has ls 5 [(0, .ref p0), (1, .ref p1), (2, .int v111_2), (3, .int v97_3), (4, .int v111_4)] → W p l e R s m (([.ref p0, .ref p1] : List Value).toArray) below meth c H lo 0 0 Qz (F0 m 175 ls []) := by
              intro I175 J175 H lo ls hI175 fr_I175 dj_J175 g175 hP hS hl
              obtain ⟨z175, ez175⟩ : ∃ y : Int32, y = v97_3 + 1 := ⟨_, rfl⟩
              refine lv_iinc (v := z175) (lv' := [(3, .int z175), (0, .ref p0), (1, .ref p1), (2, .int v111_2), (4, .int v111_4)]) hx hb dX2_countHoles_175 hl (k := 3) rfl (by rw [ez175]; rfl) (by decide) rfl (fun ls hl => ?_)
              have bz175 := tq_add (k := v97_3.toInt) (q := 1) ez175 rfl (by decide +kernel) (by omega) (by omega)
              refine lv_goto (tgt := 97) hx hb dX2_countHoles_178 (by decide) ?_
              exact ih97 _ (by omega) v111_2 z175 I175 J175 _ _ _ rfl ⟨by omega, by omega⟩ hI175 fr_I175 dj_J175 (fun ok ne => by have ye : a0 Q p0 0 = y1 := gd_of ey1; have ne1 : ¬ p1 = y1 := (fun e => ne (by rw [e]; omega)); have o1 := ok.1; have o2 := ok.2.1; have rg : rgD (dsD (I p1 0).toInt (I p1 1).toInt (J (wo Q p1)) 0) := (fun X Y q => by have := (dsD_t.mp q).1; omega); obtain ⟨S, N, E⟩ := g175 ok ne; have S2 := sc_row (w := 100) S (fun u d => by have := rg u.1 u.2 d; omega) (Int.le_refl _) ⟨by decide, by decide⟩ (by omega) bz175; exact ⟨⟨S2.1, rfl⟩, hoN_row N bz175, E⟩) hP hS (lv_sub hl [1, 2, 3, 0] rfl)
            refine lv_icmp_ge (tgt := 175) hx hb dX2_countHoles_115 (by decide) (fun c115 => ?_) (fun c115 => ?_)
            · have t115 := tq_le (k := (100)) (q := v111_4.toInt) c115 (by decide +kernel) rfl
              exact j175 I111 J111 _ _ _ hI111 fr_I111 dj_J111 (fun ok ne => by have ye : a0 Q p0 0 = y1 := gd_of ey1; have ne1 : ¬ p1 = y1 := (fun e => ne (by rw [e]; omega)); have o1 := ok.1; have o2 := ok.2.1; have rg : rgD (dsD (I p1 0).toInt (I p1 1).toInt (J (wo Q p1)) 0) := (fun X Y q => by have := (dsD_t.mp q).1; omega); obtain ⟨⟨x, hx, S, N⟩, E⟩ := g111 ok ne; obtain rfl : x = 100 := (by omega); exact ⟨S, N, E⟩) hP hS (lv_sub hl [0, 1, 2, 3, 4] rfl)
            · have t115 := tq_nle (k := (100)) (q := v111_4.toInt) c115 (by decide +kernel) rfl
              refine lv_aload_n hx hb dX2_countHoles_118 rfl (lv_at hl 0 rfl) ?_
              refine lv_iload_n hx hb dX2_countHoles_119 rfl (lv_at hl 3 rfl) ?_
              refine sw_ir (Z := (fun u => (fun I1 J1 => Iv L K x0 m0 tx tm I1 ∧ (∀ b, ¬ (K b = 2 ∨ K b = 11) → I1 b = I111 b) ∧ (okm (I111 (a0 Q p0 0) 0).toInt (I111 (a0 Q p0 0) 1).toInt (J111 (wo Q (a0 Q p0 0))) → tiR Q I1 J111 J1 p0 v97_3.toInt u.toInt) ∧ (∀ b, ¬ (K b = 12 ∧ (G b = 401)) → J1 b = J111 b)))) (va_runV (As := [.int v97_3]) (rest := []) ⟨hx, hb, hml, hown, hts⟩ (s_X2_takeIslandOfRow l dC dI cs L K G Q hQ x0 m0 tx tm H.size I111 J111 hI111 p0 hLp0 hKp0 v97_3 ⟨by omega, by omega⟩) (cwV 1 hts (gV pq854 pq855 pq856 pq80 pq857) rfl rfl rfl (by decide +kernel) ⟨(by rw [hR]; exact (Nat.le_of_ble_eq_true rfl)), (by rw [hR]; exact (Nat.le_of_ble_eq_true rfl))⟩) (sP_V hP hD hK hN hLp0 hKp0 rfl rfl) rfl rfl hl.1 rfl (lv_room (Nat.le_of_ble_eq_true rfl)) dX2_countHoles_120 ⟨(by rw [hR]; exact (Nat.le_of_ble_eq_true rfl)), (by rw [hR]; exact (Nat.le_of_ble_eq_true rfl))⟩) hS hAL hA (fun z120 Iz120 Jz120 H locs hz120 hIz120 hP hS => ?_)
              obtain ⟨hIz120, frc120, jz120, djc120⟩ := hIz120
              have dj_Jz120 : (∀ b, ¬ (K b = 12 ∧ (G b = 401)) → Jz120 b = J b) := fun b hc => (djc120 b (fun z => hc (by exact ⟨z.1, by have z2 := z.2; omega⟩))).trans (dj_J111 b hc)
              have fr_Iz120 : ∀ b, ¬ (K b = 2 ∨ K b = 5 ∨ K b = 11 ∨ (K b = 3 ∧ G b / 100 = 4)) → Iz120 b = I b := fun b q => (frc120 b (fun z => q (by omega))).trans (fr_I111 b q)
              have bz120 := hz120
              refine lv_if_eq (tgt := 175) hx hb dX2_countHoles_123 (by decide) (fun c123 => ?_) (fun c123 => ?_)
              · have t123 := tq_eq (k := z120.toInt) (q := (0)) c123 rfl (by decide +kernel)
                exact j175 Iz120 Jz120 _ _ _ hIz120 fr_Iz120 dj_Jz120 (fun ok ne => by have ye : a0 Q p0 0 = y1 := gd_of ey1; have ne1 : ¬ p1 = y1 := (fun e => ne (by rw [e]; omega)); have o1 := ok.1; have o2 := ok.2.1; have rg : rgD (dsD (I p1 0).toInt (I p1 1).toInt (J (wo Q p1)) 0) := (fun X Y q => by have := (dsD_t.mp q).1; omega); obtain ⟨⟨x, hx, S, N⟩, E⟩ := g111 ok ne; have T := jz120 (by rw [E.1, E.2]; exact ⟨o1, o2, fun X Y q => by have k := (dsD_t.mp ((S.1 (X, Y)).mp q).1).1; exact ⟨k.1.2, k.2.2⟩⟩); have f : Iz120 (a0 Q p0 0) = I111 (a0 Q p0 0) := (by rw [ye]; exact frc120 y1 (by omega)); obtain ⟨S1, N1⟩ := sg_no (w := (I p1 0).toInt) (h := (I p1 1).toInt) S T t123 (by omega) ⟨hx.2.1, hx.2.2⟩; exact ⟨S1, N.trans N1.symm, by rw [f]; exact E⟩) hP hS (lv_sub hl [0, 1, 2, 3, 4] rfl)
              · have t123 := tq_ne (k := z120.toInt) (q := (0)) c123 rfl (by decide +kernel)
                refine lv_aload_n hx hb dX2_countHoles_126 rfl (lv_at hl 0 rfl) ?_
                refine p_get hx hb hts inX2 hown hK hP hLp0 hKp0 rfl rfl 4 (by decide) (hts _ pq322) rfl dX2_countHoles_127 ?_
                refine lv_topi (fun z127 ez127 => ?_)
                have j169 : ∀ (v169_2 : Int32) (H : Heap) (lo : List Loc) (ls : Array Slot), (okm (I p1 0).toInt (I p1 1).toInt (J (wo Q p1)) → ¬ G p1 / 100 = 4 → (∃ x : Int, (v111_4.toInt + 1 ≤ x ∧ 0 ≤ x ∧ x ≤ 100) ∧ scI (B2P (dsD (I p1 0).toInt (I p1 1).toInt (J (wo Q p1)) 0)) (B2P (opn Q Jz120 p0)) v97_3.toInt x (isN (B2P (dsD (I p1 0).toInt (I p1 1).toInt (J (wo Q p1)) 0)) v97_3.toInt x) ∧ v169_2.toInt = hoN (B2P (dsD (I p1 0).toInt (I p1 1).toInt (J (wo Q p1)) 0)) (I p1 0).toInt (I p1 1).toInt v97_3.toInt x) ∧ (Iz120 (a0 Q p0 0) 0 = I p1 0 ∧ Iz120 (a0 Q p0 0) 1 = I p1 1)) → va_P (dC, dI) vwCl (Wd cs L K Iz120 Jz120 Q) H → va_S A s.heap H lo → lv_has ls 5 [(0, .ref p0), (1, .ref p1), (2, .int v169_2), (3, .int v97_3), (4, .int v111_4)] → W p l e R s m (([.ref p0, .ref p1] : List Value).toArray) below meth c H lo 0 0 Qz (F0 m 169 ls []) := by
                  intro v169_2 H lo ls g169 hP hS hl
                  obtain ⟨z169, ez169⟩ : ∃ y : Int32, y = v111_4 + 1 := ⟨_, rfl⟩
                  refine lv_iinc (v := z169) (lv' := [(4, .int z169), (0, .ref p0), (1, .ref p1), (2, .int v169_2), (3, .int v97_3)]) hx hb dX2_countHoles_169 hl (k := 4) rfl (by rw [ez169]; rfl) (by decide) rfl (fun ls hl => ?_)
                  have bz169 := tq_add (k := v111_4.toInt) (q := 1) ez169 rfl (by decide +kernel) (by omega) (by omega)
                  refine lv_goto (tgt := 111) hx hb dX2_countHoles_172 (by decide) ?_
                  exact ih111 _ (by omega) v169_2 z169 Iz120 Jz120 _ _ _ rfl ⟨by omega, by omega⟩ hIz120 fr_Iz120 dj_Jz120 (fun ok ne => by have ye : a0 Q p0 0 = y1 := gd_of ey1; have ne1 : ¬ p1 = y1 := (fun e => ne (by rw [e]; omega)); have o1 := ok.1; have o2 := ok.2.1; have rg : rgD (dsD (I p1 0).toInt (I p1 1).toInt (J (wo Q p1)) 0) := (fun X Y q => by have := (dsD_t.mp q).1; omega); obtain ⟨⟨x, hx, S, N⟩, E⟩ := g169 ok ne; exact ⟨⟨x, ⟨by omega, hx.2.1, hx.2.2⟩, S, N⟩, E⟩) hP hS (lv_sub hl [1, 2, 3, 4, 0] rfl)
                refine lv_if_le (tgt := 169) hx hb dX2_countHoles_130 (by decide) (fun c130 => ?_) (fun c130 => ?_)
                · have t130 := tq_le (k := z127.toInt) (q := (0)) c130 rfl (by decide +kernel)
                  exact j169 v111_2 _ _ _ (fun ok ne => by have ye : a0 Q p0 0 = y1 := gd_of ey1; have ne1 : ¬ p1 = y1 := (fun e => ne (by rw [e]; omega)); have o1 := ok.1; have o2 := ok.2.1; have rg : rgD (dsD (I p1 0).toInt (I p1 1).toInt (J (wo Q p1)) 0) := (fun X Y q => by have := (dsD_t.mp q).1; omega); obtain ⟨⟨x, hx, S, N⟩, E⟩ := g111 ok ne; have T := jz120 (by rw [E.1, E.2]; exact ⟨o1, o2, fun X Y q => by have k := (dsD_t.mp ((S.1 (X, Y)).mp q).1).1; exact ⟨k.1.2, k.2.2⟩⟩); have f : Iz120 (a0 Q p0 0) = I111 (a0 Q p0 0) := (by rw [ye]; exact frc120 y1 (by omega)); obtain ⟨X, hX, S1, fp, hN, ex⟩ := sg_yes (w := (I p1 0).toInt) (h := (I p1 1).toInt) (k := v111_4.toInt) S T t123 rg (by omega) hx; have i := inn_ex (w := (I p1 0).toInt) (h := (I p1 1).toInt) ex; have r0 : Iz120 p1 0 = I p1 0 := congrFun (fr_Iz120 p1 (by omega)) 0; have r1 : Iz120 p1 1 = I p1 1 := congrFun (fr_Iz120 p1 (by omega)) 1; have hb_ := hoN_b (B2P (dsD (I p1 0).toInt (I p1 1).toInt (J (wo Q p1)) 0)) (I p1 0).toInt (I p1 1).toInt v97_3.toInt x; have e127 : z127.toInt = (Iz120 p0 4).toInt := congrArg Int32.toInt ez127; exact ⟨⟨X + 1, ⟨by omega, by omega, by omega⟩, S1, hoN_at ⟨by omega, by omega⟩ (by omega) rfl fp (N.trans hN.symm) (Or.inr ⟨fun z => by have k := i.mp z; first | omega | (have e134 : z134.toInt = (Iz120 p0 5).toInt := congrArg Int32.toInt ez134; omega) | (have e141 : z141.toInt = (Iz120 p0 6).toInt := congrArg Int32.toInt ez141; have e145 : z145.toInt = (I p1 0).toInt := congrArg Int32.toInt (ez145.trans r0); omega) | (have e154 : z154.toInt = (Iz120 p0 7).toInt := congrArg Int32.toInt ez154; have e158 : z158.toInt = (I p1 1).toInt := congrArg Int32.toInt (ez158.trans r1); omega), rfl⟩)⟩, by rw [f]; exact E⟩) hP hS (lv_sub hl [0, 1, 2, 3, 4] rfl)
                · have t130 := tq_nle (k := z127.toInt) (q := (0)) c130 rfl (by decide +kernel)
                  refine lv_aload_n hx hb dX2_countHoles_133 rfl (lv_at hl 0 rfl) ?_
                  refine p_get hx hb hts inX2 hown hK hP hLp0 hKp0 rfl rfl 5 (by decide) (hts _ pq324) rfl dX2_countHoles_134 ?_
                  refine lv_topi (fun z134 ez134 => ?_)
                  refine lv_if_le (tgt := 169) hx hb dX2_countHoles_137 (by decide) (fun c137 => ?_) (fun c137 => ?_)
                  · have t137 := tq_le (k := z134.toInt) (q := (0)) c137 rfl (by decide +kernel)
                    exact j169 v111_2 _ _ _ (fun ok ne => by have ye : a0 Q p0 0 = y1 := gd_of ey1; have ne1 : ¬ p1 = y1 := (fun e => ne (by rw [e]; omega)); have o1 := ok.1; have o2 := ok.2.1; have rg : rgD (dsD (I p1 0).toInt (I p1 1).toInt (J (wo Q p1)) 0) := (fun X Y q => by have := (dsD_t.mp q).1; omega); obtain ⟨⟨x, hx, S, N⟩, E⟩ := g111 ok ne; have T := jz120 (by rw [E.1, E.2]; exact ⟨o1, o2, fun X Y q => by have k := (dsD_t.mp ((S.1 (X, Y)).mp q).1).1; exact ⟨k.1.2, k.2.2⟩⟩); have f : Iz120 (a0 Q p0 0) = I111 (a0 Q p0 0) := (by rw [ye]; exact frc120 y1 (by omega)); obtain ⟨X, hX, S1, fp, hN, ex⟩ := sg_yes (w := (I p1 0).toInt) (h := (I p1 1).toInt) (k := v111_4.toInt) S T t123 rg (by omega) hx; have i := inn_ex (w := (I p1 0).toInt) (h := (I p1 1).toInt) ex; have r0 : Iz120 p1 0 = I p1 0 := congrFun (fr_Iz120 p1 (by omega)) 0; have r1 : Iz120 p1 1 = I p1 1 := congrFun (fr_Iz120 p1 (by omega)) 1; have hb_ := hoN_b (B2P (dsD (I p1 0).toInt (I p1 1).toInt (J (wo Q p1)) 0)) (I p1 0).toInt (I p1 1).toInt v97_3.toInt x; have e127 : z127.toInt = (Iz120 p0 4).toInt := congrArg Int32.toInt ez127; exact ⟨⟨X + 1, ⟨by omega, by omega, by omega⟩, S1, hoN_at ⟨by omega, by omega⟩ (by omega) rfl fp (N.trans hN.symm) (Or.inr ⟨fun z => by have k := i.mp z; first | omega | (have e134 : z134.toInt = (Iz120 p0 5).toInt := congrArg Int32.toInt ez134; omega) | (have e141 : z141.toInt = (Iz120 p0 6).toInt := congrArg Int32.toInt ez141; have e145 : z145.toInt = (I p1 0).toInt := congrArg Int32.toInt (ez145.trans r0); omega) | (have e154 : z154.toInt = (Iz120 p0 7).toInt := congrArg Int32.toInt ez154; have e158 : z158.toInt = (I p1 1).toInt := congrArg Int32.toInt (ez158.trans r1); omega), rfl⟩)⟩, by rw [f]; exact E⟩) hP hS (lv_sub hl [0, 1, 2, 3, 4] rfl)
                  · have t137 := tq_nle (k := z134.toInt) (q := (0)) c137 rfl (by decide +kernel)
                    refine lv_aload_n hx hb dX2_countHoles_140 rfl (lv_at hl 0 rfl) ?_
                    refine p_get hx hb hts inX2 hown hK hP hLp0 hKp0 rfl rfl 6 (by decide) (hts _ pq326) rfl dX2_countHoles_141 ?_
                    refine lv_topi (fun z141 ez141 => ?_)
                    refine lv_aload_n hx hb dX2_countHoles_144 rfl (lv_at hl 1 rfl) ?_
                    refine p_get hx hb hts inX3 hown hK hP hLp1 hKp1 rfl rfl 0 (by decide) (hts _ pq117) rfl dX2_countHoles_145 ?_
                    refine lv_topi (fun z145 ez145 => ?_)
                    have bz145 := oI_3_0 (Iv_at hIz120 hLp1 hKp1)
                    rw [← ez145] at bz145
                    refine lv_iconst (v := 1) hx hb dX2_countHoles_148 (by decide +kernel) ?_
                    refine lv_isub hx hb dX2_countHoles_149 ?_
                    refine lv_topi (fun z149 ez149 => ?_)
                    have bz149 := tq_sub (k := z145.toInt) (q := (1)) ez149 rfl (by decide +kernel) (by omega) (by omega)
                    refine lv_icmp_ge (tgt := 169) hx hb dX2_countHoles_150 (by decide) (fun c150 => ?_) (fun c150 => ?_)
                    · have t150 := tq_le (k := z149.toInt) (q := z141.toInt) c150 rfl rfl
                      exact j169 v111_2 _ _ _ (fun ok ne => by have ye : a0 Q p0 0 = y1 := gd_of ey1; have ne1 : ¬ p1 = y1 := (fun e => ne (by rw [e]; omega)); have o1 := ok.1; have o2 := ok.2.1; have rg : rgD (dsD (I p1 0).toInt (I p1 1).toInt (J (wo Q p1)) 0) := (fun X Y q => by have := (dsD_t.mp q).1; omega); obtain ⟨⟨x, hx, S, N⟩, E⟩ := g111 ok ne; have T := jz120 (by rw [E.1, E.2]; exact ⟨o1, o2, fun X Y q => by have k := (dsD_t.mp ((S.1 (X, Y)).mp q).1).1; exact ⟨k.1.2, k.2.2⟩⟩); have f : Iz120 (a0 Q p0 0) = I111 (a0 Q p0 0) := (by rw [ye]; exact frc120 y1 (by omega)); obtain ⟨X, hX, S1, fp, hN, ex⟩ := sg_yes (w := (I p1 0).toInt) (h := (I p1 1).toInt) (k := v111_4.toInt) S T t123 rg (by omega) hx; have i := inn_ex (w := (I p1 0).toInt) (h := (I p1 1).toInt) ex; have r0 : Iz120 p1 0 = I p1 0 := congrFun (fr_Iz120 p1 (by omega)) 0; have r1 : Iz120 p1 1 = I p1 1 := congrFun (fr_Iz120 p1 (by omega)) 1; have hb_ := hoN_b (B2P (dsD (I p1 0).toInt (I p1 1).toInt (J (wo Q p1)) 0)) (I p1 0).toInt (I p1 1).toInt v97_3.toInt x; have e127 : z127.toInt = (Iz120 p0 4).toInt := congrArg Int32.toInt ez127; exact ⟨⟨X + 1, ⟨by omega, by omega, by omega⟩, S1, hoN_at ⟨by omega, by omega⟩ (by omega) rfl fp (N.trans hN.symm) (Or.inr ⟨fun z => by have k := i.mp z; first | omega | (have e134 : z134.toInt = (Iz120 p0 5).toInt := congrArg Int32.toInt ez134; omega) | (have e141 : z141.toInt = (Iz120 p0 6).toInt := congrArg Int32.toInt ez141; have e145 : z145.toInt = (I p1 0).toInt := congrArg Int32.toInt (ez145.trans r0); omega) | (have e154 : z154.toInt = (Iz120 p0 7).toInt := congrArg Int32.toInt ez154; have e158 : z158.toInt = (I p1 1).toInt := congrArg Int32.toInt (ez158.trans r1); omega), rfl⟩)⟩, by rw [f]; exact E⟩) hP hS (lv_sub hl [0, 1, 2, 3, 4] rfl)
                    · have t150 := tq_nle (k := z149.toInt) (q := z141.toInt) c150 rfl rfl
                      refine lv_aload_n hx hb dX2_countHoles_153 rfl (lv_at hl 0 rfl) ?_
                      refine p_get hx hb hts inX2 hown hK hP hLp0 hKp0 rfl rfl 7 (by decide) (hts _ pq328) rfl dX2_countHoles_154 ?_
                      refine lv_topi (fun z154 ez154 => ?_)
                      refine lv_aload_n hx hb dX2_countHoles_157 rfl (lv_at hl 1 rfl) ?_
                      refine p_get hx hb hts inX3 hown hK hP hLp1 hKp1 rfl rfl 1 (by decide) (hts _ pq121) rfl dX2_countHoles_158 ?_
                      refine lv_topi (fun z158 ez158 => ?_)
                      have bz158 := oI_3_1 (Iv_at hIz120 hLp1 hKp1)
                      rw [← ez158] at bz158
                      refine lv_iconst (v := 1) hx hb dX2_countHoles_161 (by decide +kernel) ?_
                      refine lv_isub hx hb dX2_countHoles_162 ?_
                      refine lv_topi (fun z162 ez162 => ?_)
                      have bz162 := tq_sub (k := z158.toInt) (q := (1)) ez162 rfl (by decide +kernel) (by omega) (by omega)
                      refine lv_icmp_ge (tgt := 169) hx hb dX2_countHoles_163 (by decide) (fun c163 => ?_) (fun c163 => ?_)
                      · have t163 := tq_le (k := z162.toInt) (q := z154.toInt) c163 rfl rfl
                        exact j169 v111_2 _ _ _ (fun ok ne => by have ye : a0 Q p0 0 = y1 := gd_of ey1; have ne1 : ¬ p1 = y1 := (fun e => ne (by rw [e]; omega)); have o1 := ok.1; have o2 := ok.2.1; have rg : rgD (dsD (I p1 0).toInt (I p1 1).toInt (J (wo Q p1)) 0) := (fun X Y q => by have := (dsD_t.mp q).1; omega); obtain ⟨⟨x, hx, S, N⟩, E⟩ := g111 ok ne; have T := jz120 (by rw [E.1, E.2]; exact ⟨o1, o2, fun X Y q => by have k := (dsD_t.mp ((S.1 (X, Y)).mp q).1).1; exact ⟨k.1.2, k.2.2⟩⟩); have f : Iz120 (a0 Q p0 0) = I111 (a0 Q p0 0) := (by rw [ye]; exact frc120 y1 (by omega)); obtain ⟨X, hX, S1, fp, hN, ex⟩ := sg_yes (w := (I p1 0).toInt) (h := (I p1 1).toInt) (k := v111_4.toInt) S T t123 rg (by omega) hx; have i := inn_ex (w := (I p1 0).toInt) (h := (I p1 1).toInt) ex; have r0 : Iz120 p1 0 = I p1 0 := congrFun (fr_Iz120 p1 (by omega)) 0; have r1 : Iz120 p1 1 = I p1 1 := congrFun (fr_Iz120 p1 (by omega)) 1; have hb_ := hoN_b (B2P (dsD (I p1 0).toInt (I p1 1).toInt (J (wo Q p1)) 0)) (I p1 0).toInt (I p1 1).toInt v97_3.toInt x; have e127 : z127.toInt = (Iz120 p0 4).toInt := congrArg Int32.toInt ez127; exact ⟨⟨X + 1, ⟨by omega, by omega, by omega⟩, S1, hoN_at ⟨by omega, by omega⟩ (by omega) rfl fp (N.trans hN.symm) (Or.inr ⟨fun z => by have k := i.mp z; first | omega | (have e134 : z134.toInt = (Iz120 p0 5).toInt := congrArg Int32.toInt ez134; omega) | (have e141 : z141.toInt = (Iz120 p0 6).toInt := congrArg Int32.toInt ez141; have e145 : z145.toInt = (I p1 0).toInt := congrArg Int32.toInt (ez145.trans r0); omega) | (have e154 : z154.toInt = (Iz120 p0 7).toInt := congrArg Int32.toInt ez154; have e158 : z158.toInt = (I p1 1).toInt := congrArg Int32.toInt (ez158.trans r1); omega), rfl⟩)⟩, by rw [f]; exact E⟩) hP hS (lv_sub hl [0, 1, 2, 3, 4] rfl)
                      · have t163 := tq_nle (k := z162.toInt) (q := z154.toInt) c163 rfl rfl
                        obtain ⟨z166, ez166⟩ : ∃ y : Int32, y = v111_2 + 1 := ⟨_, rfl⟩
                        refine lv_iinc (v := z166) (lv' := [(2, .int z166), (0, .ref p0), (1, .ref p1), (3, .int v97_3), (4, .int v111_4)]) hx hb dX2_countHoles_166 hl (k := 2) rfl (by rw [ez166]; rfl) (by decide) rfl (fun ls hl => ?_)
                        exact j169 z166 _ _ _ (fun ok ne => by have ye : a0 Q p0 0 = y1 := gd_of ey1; have ne1 : ¬ p1 = y1 := (fun e => ne (by rw [e]; omega)); have o1 := ok.1; have o2 := ok.2.1; have rg : rgD (dsD (I p1 0).toInt (I p1 1).toInt (J (wo Q p1)) 0) := (fun X Y q => by have := (dsD_t.mp q).1; omega); obtain ⟨⟨x, hx, S, N⟩, E⟩ := g111 ok ne; have T := jz120 (by rw [E.1, E.2]; exact ⟨o1, o2, fun X Y q => by have k := (dsD_t.mp ((S.1 (X, Y)).mp q).1).1; exact ⟨k.1.2, k.2.2⟩⟩); have f : Iz120 (a0 Q p0 0) = I111 (a0 Q p0 0) := (by rw [ye]; exact frc120 y1 (by omega)); obtain ⟨X, hX, S1, fp, hN, ex⟩ := sg_yes (w := (I p1 0).toInt) (h := (I p1 1).toInt) (k := v111_4.toInt) S T t123 rg (by omega) hx; have i := inn_ex (w := (I p1 0).toInt) (h := (I p1 1).toInt) ex; have r0 : Iz120 p1 0 = I p1 0 := congrFun (fr_Iz120 p1 (by omega)) 0; have r1 : Iz120 p1 1 = I p1 1 := congrFun (fr_Iz120 p1 (by omega)) 1; have hb_ := hoN_b (B2P (dsD (I p1 0).toInt (I p1 1).toInt (J (wo Q p1)) 0)) (I p1 0).toInt (I p1 1).toInt v97_3.toInt x; have e127 : z127.toInt = (Iz120 p0 4).toInt := congrArg Int32.toInt ez127; have e134 : z134.toInt = (Iz120 p0 5).toInt := congrArg Int32.toInt ez134; have e141 : z141.toInt = (Iz120 p0 6).toInt := congrArg Int32.toInt ez141; have e145 : z145.toInt = (I p1 0).toInt := congrArg Int32.toInt (ez145.trans r0); have e154 : z154.toInt = (Iz120 p0 7).toInt := congrArg Int32.toInt ez154; have e158 : z158.toInt = (I p1 1).toInt := congrArg Int32.toInt (ez158.trans r1); have a166 := tq_add (k := v111_2.toInt) (q := 1) ez166 rfl (by decide +kernel) (by omega) (by omega); exact ⟨⟨X + 1, ⟨by omega, by omega, by omega⟩, S1, hoN_at ⟨by omega, by omega⟩ (by omega) rfl fp (N.trans hN.symm) (Or.inl ⟨i.mpr ⟨⟨by omega, by omega⟩, by omega, by omega⟩, a166⟩)⟩, by rw [f]; exact E⟩) hP hS (lv_sub hl [1, 2, 0, 3, 4] rfl))
          exact key111 _ v97_2 0 I97 J97 _ _ _ rfl ⟨by decide +kernel, by decide +kernel⟩ hI97 fr_I97 dj_J97 (fun ok ne => by have ye : a0 Q p0 0 = y1 := gd_of ey1; have ne1 : ¬ p1 = y1 := (fun e => ne (by rw [e]; omega)); have o1 := ok.1; have o2 := ok.2.1; have rg : rgD (dsD (I p1 0).toInt (I p1 1).toInt (J (wo Q p1)) 0) := (fun X Y q => by have := (dsD_t.mp q).1; omega); obtain ⟨S, N, E⟩ := g97 ok ne; rw [show (0 : Int32).toInt = 0 from by decide +kernel]; exact ⟨⟨0, ⟨by decide, by decide, by decide⟩, S, N⟩, E⟩) hP hS (lv_sub hl [1, 2, 3, 4, 0] rfl))
      exact key97 _ 0 0 Iz5 J10 _ _ _ rfl ⟨by decide +kernel, by decide +kernel⟩ hIz5 fr_Iz5 dj_J10 (fun ok ne => by have ye : a0 Q p0 0 = y1 := gd_of ey1; have ne1 : ¬ p1 = y1 := (fun e => ne (by rw [e]; omega)); have o1 := ok.1; have o2 := ok.2.1; have rg : rgD (dsD (I p1 0).toInt (I p1 1).toInt (J (wo Q p1)) 0) := (fun X Y q => by have := (dsD_t.mp q).1; omega); have e15 : z15.toInt = (I p1 1).toInt := congrArg Int32.toInt (ez15.trans (fz5 ne1 1 (by decide) (by decide))); have fin := rwh_fin (g10 ok ne) ok.2.2 (by omega); rw [show (0 : Int32).toInt = 0 from by decide +kernel]; exact ⟨⟨(sc_0 (D := B2P (dsD (I p1 0).toInt (I p1 1).toInt (J (wo Q p1)) 0)) (fun u d => by have := rg u.1 u.2 d; omega) (fun u => by unfold B2P opn; rw [fin])).1, rfl⟩, by unfold hoN hoK; rfl, by rw [ye]; exact ⟨fz5 ne1 0 (by decide) (by decide), fz5 ne1 1 (by decide) (by decide)⟩⟩) hP hS (lv_sub hl [2, 3, 1, 0] rfl)
    · have t18 := tq_nle (k := z15.toInt) (q := v10_2.toInt) c18 rfl rfl
      refine lv_aload_n hx hb dX2_countHoles_21 rfl (lv_at hl 0 rfl) ?_
      refine p_get (v := .ref y1) hx hb hts inX2 hown hK hP hLp0 hKp0 rfl rfl 0 (by decide) (hts _ pq317) (congrArg (fun q => some (va_rf q)) ey1) dX2_countHoles_22 ?_
      obtain ⟨y25, ey25, hLy25, hKy25, hGy25⟩ := oQ_3_2 (Sv_at hQ hLy1 hKy1)
      refine p_get (v := .ref y25) hx hb hts inX3 hown hK hP hLy1 hKy1 rfl rfl 2 (by decide) (hts _ pq125) (congrArg (fun q => some (va_rf q)) ey25) dX2_countHoles_25 ?_
      refine lv_iconst (v := 2) hx hb dX2_countHoles_28 (by decide +kernel) ?_
      refine lv_iload_n hx hb dX2_countHoles_29 rfl (lv_at hl 2 rfl) ?_
      refine lv_imul hx hb dX2_countHoles_30 ?_
      refine lv_topi (fun z30 ez30 => ?_)
      have bz30 := tq_mul (k := (2)) (q := v10_2.toInt) ez30 (by decide +kernel) rfl (by omega) (by omega)
      refine lv_aload_n hx hb dX2_countHoles_31 rfl (lv_at hl 1 rfl) ?_
      obtain ⟨y32, ey32, hLy32, hKy32, hGy32⟩ := oQ_3_2 (Sv_at hQ hLp1 hKp1)
      refine p_get (v := .ref y32) hx hb hts inX3 hown hK hP hLp1 hKp1 rfl rfl 2 (by decide) (hts _ pq125) (congrArg (fun q => some (va_rf q)) ey32) dX2_countHoles_32 ?_
      refine lv_iconst (v := 2) hx hb dX2_countHoles_35 (by decide +kernel) ?_
      refine lv_iload_n hx hb dX2_countHoles_36 rfl (lv_at hl 2 rfl) ?_
      refine lv_imul hx hb dX2_countHoles_37 ?_
      refine lv_topi (fun z37 ez37 => ?_)
      have bz37 := tq_mul (k := (2)) (q := v10_2.toInt) ez37 (by decide +kernel) rfl (by omega) (by omega)
      refine p_lald hx hb hK hP 2 hLy32 hKy32 rfl rfl (in_of (by omega) (by omega)) dX2_countHoles_38 ?_
      refine lv_topl (fun z38 ez38 => ?_)
      refine lv_ldc2 hx hb hown (hts _ pq871) dX2_countHoles_39 ?_
      refine lv_lxor hx hb dX2_countHoles_42 ?_
      refine lv_topl (fun z42 ez42 => ?_)
      refine lv_aload_n hx hb dX2_countHoles_43 rfl (lv_at hl 1 rfl) ?_
      refine p_get hx hb hts inX3 hown hK hP hLp1 hKp1 rfl rfl 0 (by decide) (hts _ pq117) rfl dX2_countHoles_44 ?_
      refine lv_topi (fun z44 ez44 => ?_)
      have bz44 := oI_3_0 (Iv_at hIz5 hLp1 hKp1)
      rw [← ez44] at bz44
      refine ro_l (va_runS (As := [.int z44]) (rest := [.long z42, .int z30, .ref y25]) ⟨hx, hb, hml, hown, hts⟩ (s_X3_lowOnes l dC dI cs L K G Q hQ x0 m0 tx tm H.size Iz5 J10 hIz5 z44) (va_cwS 1 hts (gS pq872 pq503 pq76 pq504) rfl rfl rfl (by decide +kernel) ⟨(by rw [hR]; exact (Nat.le_of_ble_eq_true rfl)), (by rw [hR]; exact (Nat.le_of_ble_eq_true rfl))⟩) (sP_S hP hD hK hN) rfl rfl hl.1 rfl (lv_room (Nat.le_of_ble_eq_true rfl)) dX2_countHoles_47 ⟨(by rw [hR]; exact (Nat.le_of_ble_eq_true rfl)), (by rw [hR]; exact (Nat.le_of_ble_eq_true rfl))⟩) hS hP (fun z47 H locs hz47 hP hS => ?_)
      have xpz47 := hz47
      refine lv_land hx hb dX2_countHoles_50 ?_
      refine lv_topl (fun z50 ez50 => ?_)
      refine p_last hx hb hK hP hD hS 2 hLy25 hKy25 rfl (fun _ => rfl) rfl (in_of (by omega) (by omega)) dX2_countHoles_51 (fun H locs hP hS => ?_)
      obtain ⟨Jz51, hP, qJz51⟩ : ∃ Jz51, va_P (dC, dI) vwCl (Wd cs L K Iz5 Jz51 Q) H ∧ Jz51 = va_up J10 y25 (vp_updL (J10 y25) z30.toNatClampNeg z50) := ⟨_, hP, rfl⟩
      have dj_Jz51 : (∀ b, ¬ (K b = 12 ∧ (G b = 401)) → Jz51 b = J b) := fun b hc => (congrFun qJz51 b).trans ((va_up_ne _ _ (fun z => hc (by rw [z]; exact ⟨hKy25, by omega⟩))).trans (dj_J10 b hc))
      refine lv_aload_n hx hb dX2_countHoles_52 rfl (lv_at hl 0 rfl) ?_
      refine p_get (v := .ref y1) hx hb hts inX2 hown hK hP hLp0 hKp0 rfl rfl 0 (by decide) (hts _ pq317) (congrArg (fun q => some (va_rf q)) ey1) dX2_countHoles_53 ?_
      refine p_get (v := .ref y25) hx hb hts inX3 hown hK hP hLy1 hKy1 rfl rfl 2 (by decide) (hts _ pq125) (congrArg (fun q => some (va_rf q)) ey25) dX2_countHoles_56 ?_
      refine lv_iconst (v := 2) hx hb dX2_countHoles_59 (by decide +kernel) ?_
      refine lv_iload_n hx hb dX2_countHoles_60 rfl (lv_at hl 2 rfl) ?_
      refine lv_imul hx hb dX2_countHoles_61 ?_
      refine lv_topi (fun z61 ez61 => ?_)
      have bz61 := tq_mul (k := (2)) (q := v10_2.toInt) ez61 (by decide +kernel) rfl (by omega) (by omega)
      refine lv_iconst (v := 1) hx hb dX2_countHoles_62 (by decide +kernel) ?_
      refine lv_iadd hx hb dX2_countHoles_63 ?_
      refine lv_topi (fun z63 ez63 => ?_)
      have bz63 := tq_add (k := z61.toInt) (q := (1)) ez63 rfl (by decide +kernel) (by omega) (by omega)
      refine lv_aload_n hx hb dX2_countHoles_64 rfl (lv_at hl 1 rfl) ?_
      refine p_get (v := .ref y32) hx hb hts inX3 hown hK hP hLp1 hKp1 rfl rfl 2 (by decide) (hts _ pq125) (congrArg (fun q => some (va_rf q)) ey32) dX2_countHoles_65 ?_
      refine lv_iconst (v := 2) hx hb dX2_countHoles_68 (by decide +kernel) ?_
      refine lv_iload_n hx hb dX2_countHoles_69 rfl (lv_at hl 2 rfl) ?_
      refine lv_imul hx hb dX2_countHoles_70 ?_
      refine lv_topi (fun z70 ez70 => ?_)
      have bz70 := tq_mul (k := (2)) (q := v10_2.toInt) ez70 (by decide +kernel) rfl (by omega) (by omega)
      refine lv_iconst (v := 1) hx hb dX2_countHoles_71 (by decide +kernel) ?_
      refine lv_iadd hx hb dX2_countHoles_72 ?_
      refine lv_topi (fun z72 ez72 => ?_)
      have bz72 := tq_add (k := z70.toInt) (q := (1)) ez72 rfl (by decide +kernel) (by omega) (by omega)
      refine p_lald hx hb hK hP 2 hLy32 hKy32 rfl rfl (in_of (by omega) (by omega)) dX2_countHoles_73 ?_
      refine lv_topl (fun z73 ez73 => ?_)
      refine lv_ldc2 hx hb hown (hts _ pq871) dX2_countHoles_74 ?_
      refine lv_lxor hx hb dX2_countHoles_77 ?_
      refine lv_topl (fun z77 ez77 => ?_)
      refine lv_aload_n hx hb dX2_countHoles_78 rfl (lv_at hl 1 rfl) ?_
      refine p_get hx hb hts inX3 hown hK hP hLp1 hKp1 rfl rfl 0 (by decide) (hts _ pq117) rfl dX2_countHoles_79 ?_
      refine lv_topi (fun z79 ez79 => ?_)
      obtain rfl : z44 = z79 := ez44.trans ez79.symm
      refine ro_l (va_runS (As := [.int z44]) (rest := [.long z77, .int z63, .ref y25]) ⟨hx, hb, hml, hown, hts⟩ (s_X3_highOnes l dC dI cs L K G Q hQ x0 m0 tx tm H.size Iz5 Jz51 hIz5 z44) (va_cwS 1 hts (gS pq873 pq507 pq76 pq508) rfl rfl rfl (by decide +kernel) ⟨(by rw [hR]; exact (Nat.le_of_ble_eq_true rfl)), (by rw [hR]; exact (Nat.le_of_ble_eq_true rfl))⟩) (sP_S hP hD hK hN) rfl rfl hl.1 rfl (lv_room (Nat.le_of_ble_eq_true rfl)) dX2_countHoles_82 ⟨(by rw [hR]; exact (Nat.le_of_ble_eq_true rfl)), (by rw [hR]; exact (Nat.le_of_ble_eq_true rfl))⟩) hS hP (fun z82 H locs hz82 hP hS => ?_)
      have xpz82 := hz82
      refine lv_land hx hb dX2_countHoles_85 ?_
      refine lv_topl (fun z85 ez85 => ?_)
      refine p_last hx hb hK hP hD hS 2 hLy25 hKy25 rfl (fun _ => rfl) rfl (in_of (by omega) (by omega)) dX2_countHoles_86 (fun H locs hP hS => ?_)
      obtain ⟨Jz86, hP, qJz86⟩ : ∃ Jz86, va_P (dC, dI) vwCl (Wd cs L K Iz5 Jz86 Q) H ∧ Jz86 = va_up Jz51 y25 (vp_updL (Jz51 y25) z63.toNatClampNeg z85) := ⟨_, hP, rfl⟩
      have dj_Jz86 : (∀ b, ¬ (K b = 12 ∧ (G b = 401)) → Jz86 b = J b) := fun b hc => (congrFun qJz86 b).trans ((va_up_ne _ _ (fun z => hc (by rw [z]; exact ⟨hKy25, by omega⟩))).trans (dj_Jz51 b hc))
      obtain ⟨z87, ez87⟩ : ∃ y : Int32, y = v10_2 + 1 := ⟨_, rfl⟩
      refine lv_iinc (v := z87) (lv' := [(2, .int z87), (0, .ref p0), (1, .ref p1)]) hx hb dX2_countHoles_87 hl (k := 2) rfl (by rw [ez87]; rfl) (by decide) rfl (fun ls hl => ?_)
      have bz87 := tq_add (k := v10_2.toInt) (q := 1) ez87 rfl (by decide +kernel) (by omega) (by omega)
      refine lv_goto (tgt := 10) hx hb dX2_countHoles_90 (by decide) ?_
      exact ih10 _ (by omega) z87 Jz86 _ _ _ rfl ⟨by omega, by omega⟩ dj_Jz86 (fun ok ne => by have ye : a0 Q p0 0 = y1 := gd_of ey1; have ne1 : ¬ p1 = y1 := (fun e => ne (by rw [e]; omega)); have o1 := ok.1; have o2 := ok.2.1; have rg : rgD (dsD (I p1 0).toInt (I p1 1).toInt (J (wo Q p1)) 0) := (fun X Y q => by have := (dsD_t.mp q).1; omega); have e15 : z15.toInt = (I p1 1).toInt := congrArg Int32.toInt (ez15.trans (fz5 ne1 1 (by decide) (by decide))); have e44 : z44.toInt = (I p1 0).toInt := congrArg Int32.toInt (ez44.trans (congrFun (frc5 p1 ne1) 0)); have yw : wo Q p1 = y32 := wo_of ey32; have y2 : wo Q y1 = y25 := wo_of ey25; have n10 : J10 y32 = J y32 := dj_J10 y32 (fun z => ne (by have := z.2; omega)); have n51 : Jz51 y32 = J y32 := dj_Jz51 y32 (fun z => ne (by have := z.2; omega)); have m : ∀ x, md (J (wo Q p1)) x ((v10_2.toInt.toNat : Nat) : Int) = dt z38 z73 x := (fun x => md_row (f := J (wo Q p1)) (r := v10_2.toInt.toNat) (a := z38) (b := z73) (by omega) (by rw [ez38, n10, yw, show z37.toNatClampNeg = 2 * v10_2.toInt.toNat from (by show z37.toInt.toNat = _; omega)]) (by rw [ez73, n51, yw, show z72.toNatClampNeg = 2 * v10_2.toInt.toNat + 1 from (by show z72.toInt.toNat = _; omega)]) x); have d := ho_row (w := (I p1 0).toInt) ez42 ez50 ez77 ez85 (fun i hi => by rw [← e44]; exact xpz47 (by omega) i hi) (fun i hi => by rw [← e44]; exact xpz82 (by omega) i hi) (by omega); exact rwh_step (r := v10_2.toInt.toNat) (g10 ok ne) (f1 := Jz51 (wo Q (a0 Q p0 0))) (a := z50) (b := z85) (fun j => by rw [ye, y2, qJz51, va_up_self]; unfold vp_updL; rw [show z30.toNatClampNeg = 2 * v10_2.toInt.toNat from (by show z30.toInt.toNat = _; omega)]) (fun j => by rw [ye, y2, qJz86, va_up_self]; unfold vp_updL; rw [show z63.toNatClampNeg = 2 * v10_2.toInt.toNat + 1 from (by show z63.toInt.toNat = _; omega)]) (by omega) (by omega) (by omega) (fun x => ho_ds (by omega) m d x)) hP hS (lv_sub hl [1, 2, 0] rfl))
  exact key10 _ 0 Jz5 _ _ _ rfl ⟨by decide +kernel, by decide +kernel⟩ dj_Jz5 (fun ok ne => by have ye : a0 Q p0 0 = y1 := gd_of ey1; have ne1 : ¬ p1 = y1 := (fun e => ne (by rw [e]; omega)); have o1 := ok.1; have o2 := ok.2.1; have rg : rgD (dsD (I p1 0).toInt (I p1 1).toInt (J (wo Q p1)) 0) := (fun X Y q => by have := (dsD_t.mp q).1; omega); intro x y; rw [show (0 : Int32).toInt = 0 from by decide +kernel, if_neg (by omega), ye]; exact md_congr jz5 x y) hP hS (lv_sub hl [1, 2, 0] rfl)
